-- deps: 90.14.fam 90.15.right 90.16.mfam
/-! names, and fresh ones -/
/-- a node has a name -/
def z_nmd (l : List z_N) (i : Nat) : Bool := z_k l i == 1 || (z_k l i == 3 || (z_k l i == 4 || (z_k l i == 5 || (z_k l i == 6 || z_k l i == 7))))
/-- a node or a parameter has this name -/
def z_has (P : z_Pg) (k n : Nat) : Bool := (z_pc P k (nI n)).isSome || z_any (fun i => z_nmd (z_bd P k) i && z_v (z_bd P k) i == nI n) (z_bd P k).length
/-- the lowest name that is not in a set -/
def z_fn (s : Nat → Bool) : Int32 := z_sch (fun n => !s n) nI (-1) 16 0
theorem z_fn_congr {s t : Nat → Bool} (h : ∀ n, n < 16 → s n = t n) : z_fn s = z_fn t := by
  unfold z_fn
  have : ∀ n i, i + n ≤ 16 → z_sch (fun n => !s n) nI (-1) n i = z_sch (fun n => !t n) nI (-1) n i := by
    intro n
    induction n with
    | zero => intro i _; rfl
    | succ n ih =>
      intro i hi
      show (if (!s i) = true then nI i else _) = (if (!t i) = true then nI i else _)
      rw [h i (by omega), ih (i + 1) (by omega)]
  exact this 16 0 (by decide)
theorem z_fn_c (s : Nat → Bool) : (z_fn s = -1 ∧ ∀ n, n < 16 → s n = true) ∨ ∃ n, n < 16 ∧ z_fn s = nI n ∧ s n = false := by
  unfold z_fn
  rcases z_sch_c (c := fun n => !s n) (x := nI) (d := -1) (n := 16) (i := 0) with ⟨h1, h2⟩ | ⟨k, h1, h2, h3, _, h5⟩
  · refine Or.inl ⟨h1, fun n hn => ?_⟩
    have := h2 n (Nat.zero_le _) (by omega)
    simpa using this
  · exact Or.inr ⟨k, by omega, h5, by simpa using h3⟩
theorem z_nmd_ge {nc : Nat} {l : List z_N} {i : Nat} (hB : z_wB nc l) (hi : i < l.length) : z_nmd l i = true ↔ z_k l i = 1 ∨ (¬ z_k l i < 3 ∧ ¬ 7 < z_k l i) := by
  unfold z_nmd
  rcases z_kc hB hi with h | h | h | h | h | h | h | h | h | h | h | h | h | h <;> rw [h] <;> decide
section
variable {S : z_S} {m : z_m} {p k : Nat} {P : z_Pg}
/-- Body.names -/
theorem f19_sp {b R nc : Nat} {l : List z_N} (hb : z_BS S b R) (h : z_cb m b R l) (hB : z_wB nc l) : f19 b (z_hp S m) = some (z_M 16 (fun n => z_any (fun i => z_nmd l i && z_v l i == nI n) l.length), z_hp S m) := by
  obtain ⟨c6, c7, cl, cR, cn⟩ := h
  unfold f19 f19_4
  have main := z_fold (f := fun s => f19_4b (s.1) (s.2.1) (s.2.2)) (S := S) (m := m) (fun i (a : Nat → Bool) => (b, z_M 16 a, nI i)) (fun i (a : Nat → Bool) => fun n => a n || (z_nmd l i && z_v l i == nI n)) (fun a => z_M 16 a) l.length (fun _ => false) 1000000 (by omega) (fun i a hi => ?_) (fun a => ?_)
  · have M0 : z_M 16 (fun _ => false) = 0 := by decide
    have fin : ∀ n, z_fo (fun i (a : Nat → Bool) => fun n => a n || (z_nmd l i && z_v l i == nI n)) n (fun _ => false) = fun q => z_any (fun i => z_nmd l i && z_v l i == nI q) n := by
      intro n
      induction n with
      | zero => rfl
      | succ n ih =>
        show (fun q => z_fo _ n (fun _ => false) q || _) = _
        rw [ih]; rfl
    rw [M0, fin] at main
    exact main
  · obtain ⟨n1, n2, _⟩ := cn i hi
    dsimp only
    unfold f19_4b f19_35 f19_46
    have ge := z_nmd_ge hB hi
    cases g : z_nmd l i with
    | true =>
      obtain ⟨n, hn, ev⟩ := z_v_nm hB hi (by
        unfold z_nmd at g
        simp only [Bool.or_eq_true, beq_iff_eq] at g
        exact g)
      have eset := z_M_set (n := 16) (s := a) (j := n) (by decide) hn
      have ez : z_M 16 (fun q => a q || (true && z_v l i == nI q)) = z_M 16 (fun q => a q || decide (n = q)) := z_M_congr (fun q hq => by
        rw [Bool.true_and, ev]
        by_cases gq : n = q
        · subst gq; simp
        · rw [decide_eq_false gq]
          have : (nI n == nI q) = false := by
            simpa using fun e => gq ((nI_eq (a := n) (b := q) (by omega) (by omega)).mp e)
          rw [this])
      rw [ez]
      rcases ge.mp g with g1 | ⟨g1, g2⟩
      · simp (disch := ((try simp only [true_or, or_true, hb.k, hb.k1, hb.k2, hb.k3, hb.k4, hb.k5, hb.k6, hb.l1, hb.l2, hb.l3, hb.l4, hb.l5, hb.l6]) <;> (try omega))) only [↓reduceIte, ↓z_ite, ↓zR, ↓zB_R, ↓zB_B, ↓zB_ite, ↓zB_gI, ↓zB_pI, ↓zB_pZ, ↓zB_aK, ↓zB_G, ↓zB_lI, ↓zB_lZ, ↓zB_wI, ↓zB_wZ, ↓zB_lIl, ↓zB_wIl, zB_pI, zB_pZ, zB_lI, zB_lZ, zB_wI, zB_wZ, z_addl, z_ladd, z_mull, z_lmul, nI_add, z_subl, Nat.not_lt_zero, z_10, z_01, z_bitc, z_b0, z_b1, ↓zB_Gb, ↓zB_G0, ↓zB_G1, z_eql, z_leq, z_ltl, z_llt, z_eq, z_lt, z_m1lt, hb.k, hb.k1, hb.k2, hb.k3, hb.k4, hb.k5, hb.k6, hb.l1, hb.l2, hb.l3, hb.l4, hb.l5, hb.l6, ↓hb.g0, ↓hb.g1, ↓hb.g2, ↓hb.g3, ↓hb.g4, ↓hb.g5, c7, hi, n1, g1, n2, ev, eset]
      · by_cases g3 : z_k l i = 1
        · simp (disch := ((try simp only [true_or, or_true, hb.k, hb.k1, hb.k2, hb.k3, hb.k4, hb.k5, hb.k6, hb.l1, hb.l2, hb.l3, hb.l4, hb.l5, hb.l6]) <;> (try omega))) only [↓reduceIte, ↓z_ite, ↓zR, ↓zB_R, ↓zB_B, ↓zB_ite, ↓zB_gI, ↓zB_pI, ↓zB_pZ, ↓zB_aK, ↓zB_G, ↓zB_lI, ↓zB_lZ, ↓zB_wI, ↓zB_wZ, ↓zB_lIl, ↓zB_wIl, zB_pI, zB_pZ, zB_lI, zB_lZ, zB_wI, zB_wZ, z_addl, z_ladd, z_mull, z_lmul, nI_add, z_subl, Nat.not_lt_zero, z_10, z_01, z_bitc, z_b0, z_b1, ↓zB_Gb, ↓zB_G0, ↓zB_G1, z_eql, z_leq, z_ltl, z_llt, z_eq, z_lt, z_m1lt, hb.k, hb.k1, hb.k2, hb.k3, hb.k4, hb.k5, hb.k6, hb.l1, hb.l2, hb.l3, hb.l4, hb.l5, hb.l6, ↓hb.g0, ↓hb.g1, ↓hb.g2, ↓hb.g3, ↓hb.g4, ↓hb.g5, c7, hi, n1, g3, n2, ev, eset]
        · simp (disch := ((try simp only [true_or, or_true, hb.k, hb.k1, hb.k2, hb.k3, hb.k4, hb.k5, hb.k6, hb.l1, hb.l2, hb.l3, hb.l4, hb.l5, hb.l6]) <;> (try omega))) only [↓reduceIte, ↓z_ite, ↓zR, ↓zB_R, ↓zB_B, ↓zB_ite, ↓zB_gI, ↓zB_pI, ↓zB_pZ, ↓zB_aK, ↓zB_G, ↓zB_lI, ↓zB_lZ, ↓zB_wI, ↓zB_wZ, ↓zB_lIl, ↓zB_wIl, zB_pI, zB_pZ, zB_lI, zB_lZ, zB_wI, zB_wZ, z_addl, z_ladd, z_mull, z_lmul, nI_add, z_subl, Nat.not_lt_zero, z_10, z_01, z_bitc, z_b0, z_b1, ↓zB_Gb, ↓zB_G0, ↓zB_G1, z_eql, z_leq, z_ltl, z_llt, z_eq, z_lt, z_m1lt, hb.k, hb.k1, hb.k2, hb.k3, hb.k4, hb.k5, hb.k6, hb.l1, hb.l2, hb.l3, hb.l4, hb.l5, hb.l6, ↓hb.g0, ↓hb.g1, ↓hb.g2, ↓hb.g3, ↓hb.g4, ↓hb.g5, c7, hi, n1, g1, g2, g3, n2, ev, eset]
    | false =>
      have ez : (fun q => a q || (false && z_v l i == nI q)) = a := by funext q; simp
      rw [ez]
      have g0 : ¬ (z_k l i = 1 ∨ (¬ z_k l i < 3 ∧ ¬ 7 < z_k l i)) := fun q => by rw [ge.mpr q] at g; cases g
      have g1 : ¬ z_k l i = 1 := fun q => g0 (Or.inl q)
      by_cases g2 : z_k l i < 3
      · simp (disch := ((try simp only [true_or, or_true, hb.k, hb.k1, hb.k2, hb.k3, hb.k4, hb.k5, hb.k6, hb.l1, hb.l2, hb.l3, hb.l4, hb.l5, hb.l6]) <;> (try omega))) only [↓reduceIte, ↓z_ite, ↓zR, ↓zB_R, ↓zB_B, ↓zB_ite, ↓zB_gI, ↓zB_pI, ↓zB_pZ, ↓zB_aK, ↓zB_G, ↓zB_lI, ↓zB_lZ, ↓zB_wI, ↓zB_wZ, ↓zB_lIl, ↓zB_wIl, zB_pI, zB_pZ, zB_lI, zB_lZ, zB_wI, zB_wZ, z_addl, z_ladd, z_mull, z_lmul, nI_add, z_subl, Nat.not_lt_zero, z_10, z_01, z_bitc, z_b0, z_b1, ↓zB_Gb, ↓zB_G0, ↓zB_G1, z_eql, z_leq, z_ltl, z_llt, z_eq, z_lt, z_m1lt, hb.k, hb.k1, hb.k2, hb.k3, hb.k4, hb.k5, hb.k6, hb.l1, hb.l2, hb.l3, hb.l4, hb.l5, hb.l6, ↓hb.g0, ↓hb.g1, ↓hb.g2, ↓hb.g3, ↓hb.g4, ↓hb.g5, c7, hi, n1, g1, g2]
      · by_cases g3 : 7 < z_k l i
        · simp (disch := ((try simp only [true_or, or_true, hb.k, hb.k1, hb.k2, hb.k3, hb.k4, hb.k5, hb.k6, hb.l1, hb.l2, hb.l3, hb.l4, hb.l5, hb.l6]) <;> (try omega))) only [↓reduceIte, ↓z_ite, ↓zR, ↓zB_R, ↓zB_B, ↓zB_ite, ↓zB_gI, ↓zB_pI, ↓zB_pZ, ↓zB_aK, ↓zB_G, ↓zB_lI, ↓zB_lZ, ↓zB_wI, ↓zB_wZ, ↓zB_lIl, ↓zB_wIl, zB_pI, zB_pZ, zB_lI, zB_lZ, zB_wI, zB_wZ, z_addl, z_ladd, z_mull, z_lmul, nI_add, z_subl, Nat.not_lt_zero, z_10, z_01, z_bitc, z_b0, z_b1, ↓zB_Gb, ↓zB_G0, ↓zB_G1, z_eql, z_leq, z_ltl, z_llt, z_eq, z_lt, z_m1lt, hb.k, hb.k1, hb.k2, hb.k3, hb.k4, hb.k5, hb.k6, hb.l1, hb.l2, hb.l3, hb.l4, hb.l5, hb.l6, ↓hb.g0, ↓hb.g1, ↓hb.g2, ↓hb.g3, ↓hb.g4, ↓hb.g5, c7, hi, n1, g1, g2, g3]
        · exact absurd (Or.inr ⟨g2, g3⟩) g0
  · dsimp only
    unfold f19_4b f19_52
    simp (disch := ((try simp only [true_or, or_true, hb.k, hb.k1, hb.k2, hb.k3, hb.k4, hb.k5, hb.k6, hb.l1, hb.l2, hb.l3, hb.l4, hb.l5, hb.l6]) <;> (try omega))) only [↓reduceIte, ↓z_ite, ↓zR, ↓zB_R, ↓zB_B, ↓zB_ite, ↓zB_gI, ↓zB_pI, ↓zB_pZ, ↓zB_aK, ↓zB_G, ↓zB_lI, ↓zB_lZ, ↓zB_wI, ↓zB_wZ, ↓zB_lIl, ↓zB_wIl, zB_pI, zB_pZ, zB_lI, zB_lZ, zB_wI, zB_wZ, z_addl, z_ladd, z_mull, z_lmul, nI_add, z_subl, Nat.not_lt_zero, z_10, z_01, z_bitc, z_b0, z_b1, ↓zB_Gb, ↓zB_G0, ↓zB_G1, z_eql, z_leq, z_ltl, z_llt, z_eq, z_lt, z_m1lt, hb.k, hb.k1, hb.k2, hb.k3, hb.k4, hb.k5, hb.k6, hb.l1, hb.l2, hb.l3, hb.l4, hb.l5, hb.l6, ↓hb.g0, ↓hb.g1, ↓hb.g2, ↓hb.g3, ↓hb.g4, ↓hb.g5, c7, Nat.lt_irrefl]
theorem z_nI_beq {a b : Nat} (ha : a < 2147483648) (hb : b < 2147483648) : (nI a == nI b) = decide (a = b) := by
  by_cases g : a = b
  · subst g; simp
  · rw [decide_eq_false g]
    simpa using fun e => g ((nI_eq (a := a) (b := b) ha hb).mp e)
theorem z_pc_some {n : Nat} : (z_pc P k (nI n)).isSome = z_any (fun j => z_hd P k (4 + j) == nI n) (min (z_cnt P k) 2) := by
  unfold z_pc
  have hc : z_cnt P k = 0 ∨ z_cnt P k = 1 ∨ 2 ≤ z_cnt P k := by omega
  rcases hc with g | g | g
  · rw [g, if_neg (by simp), if_neg (by simp)]; rfl
  · rw [g]
    by_cases e : z_hd P k 4 = nI n
    · rw [if_pos ⟨by decide, e⟩]
      show true = (false || z_hd P k (4 + 0) == nI n)
      rw [show 4 + 0 = 4 from rfl, e]; simp
    · rw [if_neg (fun q => e q.2), if_neg (fun q => absurd q.1 (by decide))]
      show false = (false || z_hd P k (4 + 0) == nI n)
      rw [show 4 + 0 = 4 from rfl, show (z_hd P k 4 == nI n) = false by simpa using e]; rfl
  · rw [Nat.min_eq_right g]
    show _ = ((false || z_hd P k (4 + 0) == nI n) || z_hd P k (4 + 1) == nI n)
    rw [show 4 + 0 = 4 from rfl, show 4 + 1 = 5 from rfl, Bool.false_or]
    by_cases e : z_hd P k 4 = nI n
    · rw [if_pos ⟨by omega, e⟩, e]; simp
    · rw [if_neg (fun q => e q.2), show (z_hd P k 4 == nI n) = false by simpa using e, Bool.false_or]
      by_cases e2 : z_hd P k 5 = nI n
      · rw [if_pos ⟨by omega, e2⟩, e2]; simp
      · rw [if_neg (fun q => e2 q.2), show (z_hd P k 5 == nI n) = false by simpa using e2]; rfl
/-- Program.namesIn -/
theorem f102_sp (hp : z_PS S p) (h : z_cp m p P) (hw : z_wf P) (hk : k < z_nm P) (hl : z_liv P k = true) : f102 p (nI k) (z_hp S m) = some (z_M 16 (z_has P k), z_hp S m) := by
  have h24 := hw.2.2.1
  have hb := hp.B (k := k) (by omega)
  have hbk := hb.k
  have hcb := h.2.2.2 k hk hl
  have e19 := f19_sp hb hcb (hw.2.2.2.2.1 k hk)
  obtain ⟨q1, q2, q3, q4, q5, q6⟩ := h.2.1.2.2 k hk hl
  have hwh := hw.2.2.2.1 k hk
  have hc := hwh.2.2.2.1
  unfold f102
  have main := z_fold (f := fun s => f102_12b (s.1) (s.2.1) (s.2.2.1) (s.2.2.2)) (S := S) (m := m) (fun j (a : Nat → Bool) => (p, nI k, z_M 16 a, nI j)) (fun j (a : Nat → Bool) => fun n => a n || z_hd P k (4 + j) == nI n) (fun a => z_M 16 a) (z_cnt P k) (fun n => z_any (fun i => z_nmd (z_bd P k) i && z_v (z_bd P k) i == nI n) (z_bd P k).length) 1000000 (by omega) (fun j a hj => ?_) (fun a => ?_)
  · have fin : ∀ n (s : Nat → Bool), z_fo (fun j (a : Nat → Bool) => fun n => a n || z_hd P k (4 + j) == nI n) n s = fun q => s q || z_any (fun j => z_hd P k (4 + j) == nI q) n := by
      intro n s
      induction n with
      | zero => funext q; simp [z_fo, z_any]
      | succ n ih =>
        show (fun q => z_fo _ n s q || _) = _
        rw [ih]
        funext q
        show ((s q || z_any _ n) || _) = (s q || (z_any _ n || _))
        rw [Bool.or_assoc]
    rw [fin] at main
    have ez : (fun q => z_any (fun i => z_nmd (z_bd P k) i && z_v (z_bd P k) i == nI q) (z_bd P k).length || z_any (fun j => z_hd P k (4 + j) == nI q) (z_cnt P k)) = z_has P k := by
      funext q
      unfold z_has
      rw [z_pc_some, Nat.min_eq_left hc.1, Bool.or_comm]
    rw [ez] at main
    simp (disch := ((try simp only [true_or, or_true, hp.k, hp.k1, hp.k2, hp.k3, hp.k4, hp.k5, hp.k6, hp.k7, hp.k8, hp.k9, hp.k10, hp.l1, hp.l2, hp.l3, hp.l4, hp.l5, hp.l6, hp.l7, hp.l8, hp.l9, hp.l10, hbk]) <;> (try omega))) only [↓reduceIte, ↓z_ite, ↓zR, ↓zB_R, ↓zB_B, ↓zB_ite, ↓zB_gI, ↓zB_pI, ↓zB_pZ, ↓zB_aK, ↓zB_G, ↓zB_lI, ↓zB_lZ, ↓zB_wI, ↓zB_wZ, ↓zB_lIl, ↓zB_wIl, zB_pI, zB_pZ, zB_lI, zB_lZ, zB_wI, zB_wZ, z_addl, z_ladd, z_mull, z_lmul, nI_add, z_subl, Nat.not_lt_zero, z_10, z_01, z_bitc, z_b0, z_b1, ↓zB_Gb, ↓zB_G0, ↓zB_G1, z_eql, z_leq, z_ltl, z_llt, z_eq, z_lt, z_m1lt, hp.k, hp.k1, hp.k2, hp.k3, hp.k4, hp.k5, hp.k6, hp.k7, hp.k8, hp.k9, hp.k10, hp.l1, hp.l2, hp.l3, hp.l4, hp.l5, hp.l6, hp.l7, hp.l8, hp.l9, hp.l10, hbk, ↓hp.g0, ↓hp.g1, ↓hp.g2, ↓hp.g3, ↓hp.g4, ↓hp.g5, ↓hp.g6, ↓hp.g7, ↓hp.g8, ↓hp.g9, ↓hp.gb, hp.gb, h24, hk, ↓zB_c e19, zB_c e19]
    exact main
  · have hj2 : j < 2 := by omega
    have hwn := hwh.2.2.2.2.1 j hj2
    rw [if_pos hj] at hwn
    obtain ⟨⟨n, hn, en⟩, _⟩ := hwn
    have q5j := q5 j hj2
    rw [en] at q5j
    have eset := z_M_set (n := 16) (s := a) (j := n) (by decide) hn
    have ez : z_M 16 (fun q => a q || z_hd P k (4 + j) == nI q) = z_M 16 (fun q => a q || decide (n = q)) := z_M_congr (fun q hq => by
      rw [en, z_nI_beq (by omega) (by omega)])
    dsimp only
    rw [ez]
    unfold f102_12b
    rw [hc.2] at q3
    simp (disch := ((try simp only [true_or, or_true, hp.k, hp.k1, hp.k2, hp.k3, hp.k4, hp.k5, hp.k6, hp.k7, hp.k8, hp.k9, hp.k10, hp.l1, hp.l2, hp.l3, hp.l4, hp.l5, hp.l6, hp.l7, hp.l8, hp.l9, hp.l10]) <;> (try omega))) only [↓reduceIte, ↓z_ite, ↓zR, ↓zB_R, ↓zB_B, ↓zB_ite, ↓zB_gI, ↓zB_pI, ↓zB_pZ, ↓zB_aK, ↓zB_G, ↓zB_lI, ↓zB_lZ, ↓zB_wI, ↓zB_wZ, ↓zB_lIl, ↓zB_wIl, zB_pI, zB_pZ, zB_lI, zB_lZ, zB_wI, zB_wZ, z_addl, z_ladd, z_mull, z_lmul, nI_add, z_subl, Nat.not_lt_zero, z_10, z_01, z_bitc, z_b0, z_b1, ↓zB_Gb, ↓zB_G0, ↓zB_G1, z_eql, z_leq, z_ltl, z_llt, z_eq, z_lt, z_m1lt, hp.k, hp.k1, hp.k2, hp.k3, hp.k4, hp.k5, hp.k6, hp.k7, hp.k8, hp.k9, hp.k10, hp.l1, hp.l2, hp.l3, hp.l4, hp.l5, hp.l6, hp.l7, hp.l8, hp.l9, hp.l10, ↓hp.g0, ↓hp.g1, ↓hp.g2, ↓hp.g3, ↓hp.g4, ↓hp.g5, ↓hp.g6, ↓hp.g7, ↓hp.g8, ↓hp.g9, ↓hp.gb, hp.gb, q3, hj, q5j, eset]
  · dsimp only
    unfold f102_12b f102_43
    rw [hc.2] at q3
    simp (disch := ((try simp only [true_or, or_true, hp.k, hp.k1, hp.k2, hp.k3, hp.k4, hp.k5, hp.k6, hp.k7, hp.k8, hp.k9, hp.k10, hp.l1, hp.l2, hp.l3, hp.l4, hp.l5, hp.l6, hp.l7, hp.l8, hp.l9, hp.l10]) <;> (try omega))) only [↓reduceIte, ↓z_ite, ↓zR, ↓zB_R, ↓zB_B, ↓zB_ite, ↓zB_gI, ↓zB_pI, ↓zB_pZ, ↓zB_aK, ↓zB_G, ↓zB_lI, ↓zB_lZ, ↓zB_wI, ↓zB_wZ, ↓zB_lIl, ↓zB_wIl, zB_pI, zB_pZ, zB_lI, zB_lZ, zB_wI, zB_wZ, z_addl, z_ladd, z_mull, z_lmul, nI_add, z_subl, Nat.not_lt_zero, z_10, z_01, z_bitc, z_b0, z_b1, ↓zB_Gb, ↓zB_G0, ↓zB_G1, z_eql, z_leq, z_ltl, z_llt, z_eq, z_lt, z_m1lt, hp.k, hp.k1, hp.k2, hp.k3, hp.k4, hp.k5, hp.k6, hp.k7, hp.k8, hp.k9, hp.k10, hp.l1, hp.l2, hp.l3, hp.l4, hp.l5, hp.l6, hp.l7, hp.l8, hp.l9, hp.l10, ↓hp.g0, ↓hp.g1, ↓hp.g2, ↓hp.g3, ↓hp.g4, ↓hp.g5, ↓hp.g6, ↓hp.g7, ↓hp.g8, ↓hp.g9, ↓hp.gb, hp.gb, q3, Nat.lt_irrefl]
/-- freshName, the class's -/
theorem f175_sp (s : Nat → Bool) : f175 (z_M 16 s) (z_hp S m) = some (z_fn s, z_hp S m) := by
  unfold f175 f175_2 z_fn
  refine z_search (fun i => (z_M 16 s, nI i)) (fun n => !s n) nI (-1) 16 0 1000000 (by decide) (fun i _ hi => ?_) ?_
  · have hi : i < 16 := by omega
    have hb := z_M_at (n := 16) (s := s) (by decide) hi
    have hb0 : (q_ush (z_M 16 s) (nI i) &&& 1 = 0) = (s i = false) := by
      have h1 := z_bitc (z_M 16 s) i
      rw [hb] at h1
      have h01 := z_b01 (z_bit (z_M 16 s) i)
      have hex := pk_and (q_ush (z_M 16 s) (nI i)) (m := 1) 1 rfl
      have hlt : (q_ush (z_M 16 s) (nI i)).toBitVec.toNat % 2 ^ 1 < 2 := Nat.mod_lt _ (by decide)
      have hor : q_ush (z_M 16 s) (nI i) &&& 1 = 0 ∨ q_ush (z_M 16 s) (nI i) &&& 1 = 1 := by
        rw [hex]
        have : (q_ush (z_M 16 s) (nI i)).toBitVec.toNat % 2 ^ 1 = 0 ∨ (q_ush (z_M 16 s) (nI i)).toBitVec.toNat % 2 ^ 1 = 1 := by omega
        rcases this with q | q <;> rw [q]
        · exact Or.inl rfl
        · exact Or.inr rfl
      rcases hor with q | q
      · rw [q] at h1 ⊢
        cases g : s i with
        | true => rw [g] at h1; exact absurd (h1.mpr rfl) (by decide)
        | false => simp
      · rw [q] at h1 ⊢
        cases g : s i with
        | true => simp
        | false => rw [g] at h1; exact absurd (h1.mp rfl) (by decide)
    dsimp only
    unfold f175_2b f175_16
    cases g : s i with
    | true =>
      rw [g] at hb0
      simp (disch := ((try simp only [true_or, or_true]) <;> (try omega))) only [↓reduceIte, ↓z_ite, ↓zR, ↓zB_R, ↓zB_B, ↓zB_ite, ↓zB_gI, ↓zB_pI, ↓zB_pZ, ↓zB_aK, ↓zB_G, ↓zB_lI, ↓zB_lZ, ↓zB_wI, ↓zB_wZ, ↓zB_lIl, ↓zB_wIl, zB_pI, zB_pZ, zB_lI, zB_lZ, zB_wI, zB_wZ, z_addl, z_ladd, z_mull, z_lmul, nI_add, z_subl, Nat.not_lt_zero, z_10, z_01, z_bitc, z_b0, z_b1, ↓zB_Gb, ↓zB_G0, ↓zB_G1, z_eql, z_leq, z_ltl, z_llt, z_eq, z_lt, z_m1lt, hi, hb0, Bool.true_eq_false, Bool.not_true, Bool.false_eq_true]
    | false =>
      rw [g] at hb0
      simp (disch := ((try simp only [true_or, or_true]) <;> (try omega))) only [↓reduceIte, ↓z_ite, ↓zR, ↓zB_R, ↓zB_B, ↓zB_ite, ↓zB_gI, ↓zB_pI, ↓zB_pZ, ↓zB_aK, ↓zB_G, ↓zB_lI, ↓zB_lZ, ↓zB_wI, ↓zB_wZ, ↓zB_lIl, ↓zB_wIl, zB_pI, zB_pZ, zB_lI, zB_lZ, zB_wI, zB_wZ, z_addl, z_ladd, z_mull, z_lmul, nI_add, z_subl, Nat.not_lt_zero, z_10, z_01, z_bitc, z_b0, z_b1, ↓zB_Gb, ↓zB_G0, ↓zB_G1, z_eql, z_leq, z_ltl, z_llt, z_eq, z_lt, z_m1lt, hi, hb0, Bool.not_false]
  · dsimp only
    unfold f175_2b f175_24
    simp (disch := ((try simp only [true_or, or_true]) <;> (try omega))) only [↓reduceIte, ↓z_ite, ↓zR, ↓zB_R, ↓zB_B, ↓zB_ite, ↓zB_gI, ↓zB_pI, ↓zB_pZ, ↓zB_aK, ↓zB_G, ↓zB_lI, ↓zB_lZ, ↓zB_wI, ↓zB_wZ, ↓zB_lIl, ↓zB_wIl, zB_pI, zB_pZ, zB_lI, zB_lZ, zB_wI, zB_wZ, z_addl, z_ladd, z_mull, z_lmul, nI_add, z_subl, Nat.not_lt_zero, z_10, z_01, z_bitc, z_b0, z_b1, ↓zB_Gb, ↓zB_G0, ↓zB_G1, z_eql, z_leq, z_ltl, z_llt, z_eq, z_lt, z_m1lt, Nat.zero_add, Nat.lt_irrefl]
/-- Program.nameOfLocal -/
def z_nol (P : z_Pg) (k : Nat) (x : Int32) : Int32 := if x = -1 then z_hd P k 4 else if x = -2 then z_hd P k 5 else if z_k (z_bd P k) x.toNatClampNeg = 5 then z_v (z_bd P k) x.toNatClampNeg else -1
theorem f99_sp (hp : z_PS S p) (h : z_cp m p P) (hw : z_wf P) (hk : k < z_nm P) (hl : z_liv P k = true) {x : Int32} (hx : x = -1 ∨ x = -2 ∨ ∃ i, i < (z_bd P k).length ∧ x = nI i) : f99 p (nI k) x (z_hp S m) = some (z_nol P k x, z_hp S m) := by
  have h24 := hw.2.2.1
  obtain ⟨q1, q2, q3, q4, q5, q6⟩ := h.2.1.2.2 k hk hl
  have hb := hp.B (k := k) (by omega)
  obtain ⟨c6, c7, cl, cR, cn⟩ := h.2.2.2 k hk hl
  unfold f99 f99_47 z_nol
  rcases hx with rfl | rfl | ⟨i, hi, rfl⟩
  · have e : nI k * 2 - 1 - (-1) = nI (k * 2 + 0) := by
      rw [show (2 : Int32) = nI 2 from rfl, pk_mul, Int32.sub_sub, show (1 : Int32) + -1 = 0 by decide, Int32.sub_zero]; rfl
    have e2 := q5 0 (by decide)
    rw [if_pos rfl, if_pos (show (-1 : Int32) < 0 by decide), e]
    simp (disch := ((try simp only [true_or, or_true, hp.k, hp.k1, hp.k2, hp.k3, hp.k4, hp.k5, hp.k6, hp.k7, hp.k8, hp.k9, hp.k10, hp.l1, hp.l2, hp.l3, hp.l4, hp.l5, hp.l6, hp.l7, hp.l8, hp.l9, hp.l10]) <;> (try omega))) only [↓reduceIte, ↓z_ite, ↓zR, ↓zB_R, ↓zB_B, ↓zB_ite, ↓zB_gI, ↓zB_pI, ↓zB_pZ, ↓zB_aK, ↓zB_G, ↓zB_lI, ↓zB_lZ, ↓zB_wI, ↓zB_wZ, ↓zB_lIl, ↓zB_wIl, zB_pI, zB_pZ, zB_lI, zB_lZ, zB_wI, zB_wZ, z_addl, z_ladd, z_mull, z_lmul, nI_add, z_subl, Nat.not_lt_zero, z_10, z_01, z_bitc, z_b0, z_b1, ↓zB_Gb, ↓zB_G0, ↓zB_G1, z_eql, z_leq, z_ltl, z_llt, z_eq, z_lt, z_m1lt, hp.k, hp.k1, hp.k2, hp.k3, hp.k4, hp.k5, hp.k6, hp.k7, hp.k8, hp.k9, hp.k10, hp.l1, hp.l2, hp.l3, hp.l4, hp.l5, hp.l6, hp.l7, hp.l8, hp.l9, hp.l10, ↓hp.g0, ↓hp.g1, ↓hp.g2, ↓hp.g3, ↓hp.g4, ↓hp.g5, ↓hp.g6, ↓hp.g7, ↓hp.g8, ↓hp.g9, ↓hp.gb, hp.gb, e2]
  · have e : nI k * 2 - 1 - (-2) = nI (k * 2 + 1) := by
      rw [show (2 : Int32) = nI 2 from rfl, pk_mul, Int32.sub_sub, show (1 : Int32) + -(nI 2) = -1 by decide, Int32.sub_neg, show (1 : Int32) = nI 1 from rfl, nI_add]
    have e2 := q5 1 (by decide)
    rw [if_pos (show (-2 : Int32) < 0 by decide), if_neg (show ¬ (-2 : Int32) = -1 by decide), if_pos rfl, e]
    simp (disch := ((try simp only [true_or, or_true, hp.k, hp.k1, hp.k2, hp.k3, hp.k4, hp.k5, hp.k6, hp.k7, hp.k8, hp.k9, hp.k10, hp.l1, hp.l2, hp.l3, hp.l4, hp.l5, hp.l6, hp.l7, hp.l8, hp.l9, hp.l10]) <;> (try omega))) only [↓reduceIte, ↓z_ite, ↓zR, ↓zB_R, ↓zB_B, ↓zB_ite, ↓zB_gI, ↓zB_pI, ↓zB_pZ, ↓zB_aK, ↓zB_G, ↓zB_lI, ↓zB_lZ, ↓zB_wI, ↓zB_wZ, ↓zB_lIl, ↓zB_wIl, zB_pI, zB_pZ, zB_lI, zB_lZ, zB_wI, zB_wZ, z_addl, z_ladd, z_mull, z_lmul, nI_add, z_subl, Nat.not_lt_zero, z_10, z_01, z_bitc, z_b0, z_b1, ↓zB_Gb, ↓zB_G0, ↓zB_G1, z_eql, z_leq, z_ltl, z_llt, z_eq, z_lt, z_m1lt, hp.k, hp.k1, hp.k2, hp.k3, hp.k4, hp.k5, hp.k6, hp.k7, hp.k8, hp.k9, hp.k10, hp.l1, hp.l2, hp.l3, hp.l4, hp.l5, hp.l6, hp.l7, hp.l8, hp.l9, hp.l10, ↓hp.g0, ↓hp.g1, ↓hp.g2, ↓hp.g3, ↓hp.g4, ↓hp.g5, ↓hp.g6, ↓hp.g7, ↓hp.g8, ↓hp.g9, ↓hp.gb, hp.gb, e2]
  · obtain ⟨n1, n2, _⟩ := cn i hi
    have g0 : ¬ nI i < 0 := nI_pos (by omega)
    have g1 : ¬ nI i = -1 := z_nI_m1 (by omega)
    have g2 : ¬ nI i = -2 := z_eqm (k := 2) (by omega) (by decide) (by decide)
    rw [if_neg g1, if_neg g2, nI_clamp (by omega)]
    by_cases g : z_k (z_bd P k) i = 5
    · rw [if_pos g]
      simp (disch := ((try simp only [true_or, or_true, hp.k, hp.k1, hp.k2, hp.k3, hp.k4, hp.k5, hp.k6, hp.k7, hp.k8, hp.k9, hp.k10, hp.l1, hp.l2, hp.l3, hp.l4, hp.l5, hp.l6, hp.l7, hp.l8, hp.l9, hp.l10, hb.k, hb.k1, hb.k2, hb.k3, hb.k4, hb.k5, hb.k6, hb.l1, hb.l2, hb.l3, hb.l4, hb.l5, hb.l6]) <;> (try omega))) only [↓reduceIte, ↓z_ite, ↓zR, ↓zB_R, ↓zB_B, ↓zB_ite, ↓zB_gI, ↓zB_pI, ↓zB_pZ, ↓zB_aK, ↓zB_G, ↓zB_lI, ↓zB_lZ, ↓zB_wI, ↓zB_wZ, ↓zB_lIl, ↓zB_wIl, zB_pI, zB_pZ, zB_lI, zB_lZ, zB_wI, zB_wZ, z_addl, z_ladd, z_mull, z_lmul, nI_add, z_subl, Nat.not_lt_zero, z_10, z_01, z_bitc, z_b0, z_b1, ↓zB_Gb, ↓zB_G0, ↓zB_G1, z_eql, z_leq, z_ltl, z_llt, z_eq, z_lt, z_m1lt, hp.k, hp.k1, hp.k2, hp.k3, hp.k4, hp.k5, hp.k6, hp.k7, hp.k8, hp.k9, hp.k10, hp.l1, hp.l2, hp.l3, hp.l4, hp.l5, hp.l6, hp.l7, hp.l8, hp.l9, hp.l10, hb.k, hb.k1, hb.k2, hb.k3, hb.k4, hb.k5, hb.k6, hb.l1, hb.l2, hb.l3, hb.l4, hb.l5, hb.l6, ↓hp.g0, ↓hp.g1, ↓hp.g2, ↓hp.g3, ↓hp.g4, ↓hp.g5, ↓hp.g6, ↓hp.g7, ↓hp.g8, ↓hp.g9, ↓hp.gb, hp.gb, ↓hb.g0, ↓hb.g1, ↓hb.g2, ↓hb.g3, ↓hb.g4, ↓hb.g5, h24, hk, g0, hi, n1, g, n2]
    · rw [if_neg g]
      simp (disch := ((try simp only [true_or, or_true, hp.k, hp.k1, hp.k2, hp.k3, hp.k4, hp.k5, hp.k6, hp.k7, hp.k8, hp.k9, hp.k10, hp.l1, hp.l2, hp.l3, hp.l4, hp.l5, hp.l6, hp.l7, hp.l8, hp.l9, hp.l10, hb.k, hb.k1, hb.k2, hb.k3, hb.k4, hb.k5, hb.k6, hb.l1, hb.l2, hb.l3, hb.l4, hb.l5, hb.l6]) <;> (try omega))) only [↓reduceIte, ↓z_ite, ↓zR, ↓zB_R, ↓zB_B, ↓zB_ite, ↓zB_gI, ↓zB_pI, ↓zB_pZ, ↓zB_aK, ↓zB_G, ↓zB_lI, ↓zB_lZ, ↓zB_wI, ↓zB_wZ, ↓zB_lIl, ↓zB_wIl, zB_pI, zB_pZ, zB_lI, zB_lZ, zB_wI, zB_wZ, z_addl, z_ladd, z_mull, z_lmul, nI_add, z_subl, Nat.not_lt_zero, z_10, z_01, z_bitc, z_b0, z_b1, ↓zB_Gb, ↓zB_G0, ↓zB_G1, z_eql, z_leq, z_ltl, z_llt, z_eq, z_lt, z_m1lt, hp.k, hp.k1, hp.k2, hp.k3, hp.k4, hp.k5, hp.k6, hp.k7, hp.k8, hp.k9, hp.k10, hp.l1, hp.l2, hp.l3, hp.l4, hp.l5, hp.l6, hp.l7, hp.l8, hp.l9, hp.l10, hb.k, hb.k1, hb.k2, hb.k3, hb.k4, hb.k5, hb.k6, hb.l1, hb.l2, hb.l3, hb.l4, hb.l5, hb.l6, ↓hp.g0, ↓hp.g1, ↓hp.g2, ↓hp.g3, ↓hp.g4, ↓hp.g5, ↓hp.g6, ↓hp.g7, ↓hp.g8, ↓hp.g9, ↓hp.gb, hp.gb, ↓hb.g0, ↓hb.g1, ↓hb.g2, ↓hb.g3, ↓hb.g4, ↓hb.g5, h24, hk, g0, hi, n1, g]
/-- Program.typeOfLocal -/
noncomputable def z_tol (P : z_Pg) (k : Nat) (x : Int32) : Int32 := if x = -1 then z_hd P k 6 else if x = -2 then z_hd P k 7 else z_Ty P k (x.toNatClampNeg + 1)
theorem f100_sp (hp : z_PS S p) (h : z_cp m p P) (hw : z_wf P) (hk : k < z_nm P) (hl : z_liv P k = true) (ht : z_TY m p P k) {x : Int32} (hx : (x = -1 ∧ 0 < z_cnt P k) ∨ (x = -2 ∧ 1 < z_cnt P k) ∨ ∃ i, i + 1 < (z_bd P k).length ∧ x = nI i) : f100 p (nI k) x (z_hp S m) = some (z_tol P k x, z_hp S m) := by
  have h24 := hw.2.2.1
  obtain ⟨q1, q2, q3, q4, q5, q6⟩ := h.2.1.2.2 k hk hl
  have hb := hp.B (k := k) (by omega)
  obtain ⟨c6, c7, cl, cR, cn⟩ := h.2.2.2 k hk hl
  unfold f100 f100_32 z_tol
  rcases hx with ⟨rfl, hc⟩ | ⟨rfl, hc⟩ | ⟨i, hi, rfl⟩
  · have e : nI k * 2 - 1 - (-1) = nI (k * 2 + 0) := by
      rw [show (2 : Int32) = nI 2 from rfl, pk_mul, Int32.sub_sub, show (1 : Int32) + -1 = 0 by decide, Int32.sub_zero]; rfl
    have e2 := q6 0 hc
    rw [if_pos rfl, if_pos (show (-1 : Int32) < 0 by decide), e]
    simp (disch := ((try simp only [true_or, or_true, hp.k, hp.k1, hp.k2, hp.k3, hp.k4, hp.k5, hp.k6, hp.k7, hp.k8, hp.k9, hp.k10, hp.l1, hp.l2, hp.l3, hp.l4, hp.l5, hp.l6, hp.l7, hp.l8, hp.l9, hp.l10]) <;> (try omega))) only [↓reduceIte, ↓z_ite, ↓zR, ↓zB_R, ↓zB_B, ↓zB_ite, ↓zB_gI, ↓zB_pI, ↓zB_pZ, ↓zB_aK, ↓zB_G, ↓zB_lI, ↓zB_lZ, ↓zB_wI, ↓zB_wZ, ↓zB_lIl, ↓zB_wIl, zB_pI, zB_pZ, zB_lI, zB_lZ, zB_wI, zB_wZ, z_addl, z_ladd, z_mull, z_lmul, nI_add, z_subl, Nat.not_lt_zero, z_10, z_01, z_bitc, z_b0, z_b1, ↓zB_Gb, ↓zB_G0, ↓zB_G1, z_eql, z_leq, z_ltl, z_llt, z_eq, z_lt, z_m1lt, hp.k, hp.k1, hp.k2, hp.k3, hp.k4, hp.k5, hp.k6, hp.k7, hp.k8, hp.k9, hp.k10, hp.l1, hp.l2, hp.l3, hp.l4, hp.l5, hp.l6, hp.l7, hp.l8, hp.l9, hp.l10, ↓hp.g0, ↓hp.g1, ↓hp.g2, ↓hp.g3, ↓hp.g4, ↓hp.g5, ↓hp.g6, ↓hp.g7, ↓hp.g8, ↓hp.g9, ↓hp.gb, hp.gb, e2]
  · have e : nI k * 2 - 1 - (-2) = nI (k * 2 + 1) := by
      rw [show (2 : Int32) = nI 2 from rfl, pk_mul, Int32.sub_sub, show (1 : Int32) + -(nI 2) = -1 by decide, Int32.sub_neg, show (1 : Int32) = nI 1 from rfl, nI_add]
    have e2 := q6 1 hc
    rw [if_pos (show (-2 : Int32) < 0 by decide), if_neg (show ¬ (-2 : Int32) = -1 by decide), if_pos rfl, e]
    simp (disch := ((try simp only [true_or, or_true, hp.k, hp.k1, hp.k2, hp.k3, hp.k4, hp.k5, hp.k6, hp.k7, hp.k8, hp.k9, hp.k10, hp.l1, hp.l2, hp.l3, hp.l4, hp.l5, hp.l6, hp.l7, hp.l8, hp.l9, hp.l10]) <;> (try omega))) only [↓reduceIte, ↓z_ite, ↓zR, ↓zB_R, ↓zB_B, ↓zB_ite, ↓zB_gI, ↓zB_pI, ↓zB_pZ, ↓zB_aK, ↓zB_G, ↓zB_lI, ↓zB_lZ, ↓zB_wI, ↓zB_wZ, ↓zB_lIl, ↓zB_wIl, zB_pI, zB_pZ, zB_lI, zB_lZ, zB_wI, zB_wZ, z_addl, z_ladd, z_mull, z_lmul, nI_add, z_subl, Nat.not_lt_zero, z_10, z_01, z_bitc, z_b0, z_b1, ↓zB_Gb, ↓zB_G0, ↓zB_G1, z_eql, z_leq, z_ltl, z_llt, z_eq, z_lt, z_m1lt, hp.k, hp.k1, hp.k2, hp.k3, hp.k4, hp.k5, hp.k6, hp.k7, hp.k8, hp.k9, hp.k10, hp.l1, hp.l2, hp.l3, hp.l4, hp.l5, hp.l6, hp.l7, hp.l8, hp.l9, hp.l10, ↓hp.g0, ↓hp.g1, ↓hp.g2, ↓hp.g3, ↓hp.g4, ↓hp.g5, ↓hp.g6, ↓hp.g7, ↓hp.g8, ↓hp.g9, ↓hp.gb, hp.gb, e2]
  · have t5 : m (z_bi p k + 5) (i + 1) = z_Ty P k (i + 1) := (ht.2 (i + 1) hi).1
    have g0 : ¬ nI i < 0 := nI_pos (by omega)
    have g1 : ¬ nI i = -1 := z_nI_m1 (by omega)
    have g2 : ¬ nI i = -2 := z_eqm (k := 2) (by omega) (by decide) (by decide)
    rw [if_neg g1, if_neg g2, nI_clamp (by omega)]
    simp (disch := ((try simp only [true_or, or_true, hp.k, hp.k1, hp.k2, hp.k3, hp.k4, hp.k5, hp.k6, hp.k7, hp.k8, hp.k9, hp.k10, hp.l1, hp.l2, hp.l3, hp.l4, hp.l5, hp.l6, hp.l7, hp.l8, hp.l9, hp.l10, hb.k, hb.k1, hb.k2, hb.k3, hb.k4, hb.k5, hb.k6, hb.l1, hb.l2, hb.l3, hb.l4, hb.l5, hb.l6]) <;> (try omega))) only [↓reduceIte, ↓z_ite, ↓zR, ↓zB_R, ↓zB_B, ↓zB_ite, ↓zB_gI, ↓zB_pI, ↓zB_pZ, ↓zB_aK, ↓zB_G, ↓zB_lI, ↓zB_lZ, ↓zB_wI, ↓zB_wZ, ↓zB_lIl, ↓zB_wIl, zB_pI, zB_pZ, zB_lI, zB_lZ, zB_wI, zB_wZ, z_addl, z_ladd, z_mull, z_lmul, nI_add, z_subl, Nat.not_lt_zero, z_10, z_01, z_bitc, z_b0, z_b1, ↓zB_Gb, ↓zB_G0, ↓zB_G1, z_eql, z_leq, z_ltl, z_llt, z_eq, z_lt, z_m1lt, hp.k, hp.k1, hp.k2, hp.k3, hp.k4, hp.k5, hp.k6, hp.k7, hp.k8, hp.k9, hp.k10, hp.l1, hp.l2, hp.l3, hp.l4, hp.l5, hp.l6, hp.l7, hp.l8, hp.l9, hp.l10, hb.k, hb.k1, hb.k2, hb.k3, hb.k4, hb.k5, hb.k6, hb.l1, hb.l2, hb.l3, hb.l4, hb.l5, hb.l6, ↓hp.g0, ↓hp.g1, ↓hp.g2, ↓hp.g3, ↓hp.g4, ↓hp.g5, ↓hp.g6, ↓hp.g7, ↓hp.g8, ↓hp.g9, ↓hp.gb, hp.gb, ↓hb.g0, ↓hb.g1, ↓hb.g2, ↓hb.g3, ↓hb.g4, ↓hb.g5, h24, hk, g0, hi, t5]
/-- Program.hasLocal -/
def z_hl (P : z_Pg) (k i : Nat) (name : Int32) : Bool := (z_pc P k name).isSome || (z_le (z_bd P k) i name).isSome
theorem f101_sp (hp : z_PS S p) (h : z_cp m p P) (hw : z_wf P) (hk : k < z_nm P) (hl : z_liv P k = true) (ht : z_TY m p P k) {i : Nat} (hi : i < (z_bd P k).length) (name : Int32) : f101 p (nI k) (nI i) name (z_hp S m) = some (z_b (z_hl P k i name), z_hp S m) := by
  have h24 := hw.2.2.1
  have hb := hp.B (k := k) (by omega)
  have hbk := hb.k
  have hcb := h.2.2.2 k hk hl
  have cl : (z_bd P k).length ≤ 60 := hcb.2.2.1
  have e98 := f98_sp hp h hw hk hl name
  have e10 := f10_sp hb hcb ht.1 (hw.2.2.2.2.1 k hk).1 hi (name := name)
  unfold f101 f101_25 f101_30 z_hl
  cases h1 : z_pc P k name with
  | some j =>
    rw [h1] at e98
    have hj : j = 0 ∨ j = 1 := by
      unfold z_pc at h1
      split at h1
      · exact Or.inl (by simpa using h1.symm)
      · split at h1
        · exact Or.inr (by simpa using h1.symm)
        · cases h1
    have gj : ¬ nI j = -1 := z_nI_m1 (by omega)
    simp (disch := ((try simp only [true_or, or_true, hp.k, hp.k1, hp.k2, hp.k3, hp.k4, hp.k5, hp.k6, hp.k7, hp.k8, hp.k9, hp.k10, hp.l1, hp.l2, hp.l3, hp.l4, hp.l5, hp.l6, hp.l7, hp.l8, hp.l9, hp.l10]) <;> (try omega))) only [↓reduceIte, ↓z_ite, ↓zR, ↓zB_R, ↓zB_B, ↓zB_ite, ↓zB_gI, ↓zB_pI, ↓zB_pZ, ↓zB_aK, ↓zB_G, ↓zB_lI, ↓zB_lZ, ↓zB_wI, ↓zB_wZ, ↓zB_lIl, ↓zB_wIl, zB_pI, zB_pZ, zB_lI, zB_lZ, zB_wI, zB_wZ, z_addl, z_ladd, z_mull, z_lmul, nI_add, z_subl, Nat.not_lt_zero, z_10, z_01, z_bitc, z_b0, z_b1, ↓zB_Gb, ↓zB_G0, ↓zB_G1, z_eql, z_leq, z_ltl, z_llt, z_eq, z_lt, z_m1lt, hp.k, hp.k1, hp.k2, hp.k3, hp.k4, hp.k5, hp.k6, hp.k7, hp.k8, hp.k9, hp.k10, hp.l1, hp.l2, hp.l3, hp.l4, hp.l5, hp.l6, hp.l7, hp.l8, hp.l9, hp.l10, ↓hp.g0, ↓hp.g1, ↓hp.g2, ↓hp.g3, ↓hp.g4, ↓hp.g5, ↓hp.g6, ↓hp.g7, ↓hp.g8, ↓hp.g9, ↓hp.gb, hp.gb, ↓zB_c e98, zB_c e98, z_oI, gj, Option.isSome_some, Bool.true_or]
    rfl
  | none =>
    rw [h1] at e98
    cases h2 : z_le (z_bd P k) i name with
    | some j =>
      rw [h2] at e10
      have gj : ¬ nI j = -1 := z_nI_m1 (by have := (z_le_some h2).1; omega)
      simp (disch := ((try simp only [true_or, or_true, hp.k, hp.k1, hp.k2, hp.k3, hp.k4, hp.k5, hp.k6, hp.k7, hp.k8, hp.k9, hp.k10, hp.l1, hp.l2, hp.l3, hp.l4, hp.l5, hp.l6, hp.l7, hp.l8, hp.l9, hp.l10, hbk]) <;> (try omega))) only [↓reduceIte, ↓z_ite, ↓zR, ↓zB_R, ↓zB_B, ↓zB_ite, ↓zB_gI, ↓zB_pI, ↓zB_pZ, ↓zB_aK, ↓zB_G, ↓zB_lI, ↓zB_lZ, ↓zB_wI, ↓zB_wZ, ↓zB_lIl, ↓zB_wIl, zB_pI, zB_pZ, zB_lI, zB_lZ, zB_wI, zB_wZ, z_addl, z_ladd, z_mull, z_lmul, nI_add, z_subl, Nat.not_lt_zero, z_10, z_01, z_bitc, z_b0, z_b1, ↓zB_Gb, ↓zB_G0, ↓zB_G1, z_eql, z_leq, z_ltl, z_llt, z_eq, z_lt, z_m1lt, hp.k, hp.k1, hp.k2, hp.k3, hp.k4, hp.k5, hp.k6, hp.k7, hp.k8, hp.k9, hp.k10, hp.l1, hp.l2, hp.l3, hp.l4, hp.l5, hp.l6, hp.l7, hp.l8, hp.l9, hp.l10, hbk, ↓hp.g0, ↓hp.g1, ↓hp.g2, ↓hp.g3, ↓hp.g4, ↓hp.g5, ↓hp.g6, ↓hp.g7, ↓hp.g8, ↓hp.g9, ↓hp.gb, hp.gb, h24, hk, ↓zB_c e98, zB_c e98, z_oI, ↓zB_c e10, zB_c e10, gj, Option.isSome_some, Option.isSome_none, Bool.false_or]
      rfl
    | none =>
      rw [h2] at e10
      simp (disch := ((try simp only [true_or, or_true, hp.k, hp.k1, hp.k2, hp.k3, hp.k4, hp.k5, hp.k6, hp.k7, hp.k8, hp.k9, hp.k10, hp.l1, hp.l2, hp.l3, hp.l4, hp.l5, hp.l6, hp.l7, hp.l8, hp.l9, hp.l10, hbk]) <;> (try omega))) only [↓reduceIte, ↓z_ite, ↓zR, ↓zB_R, ↓zB_B, ↓zB_ite, ↓zB_gI, ↓zB_pI, ↓zB_pZ, ↓zB_aK, ↓zB_G, ↓zB_lI, ↓zB_lZ, ↓zB_wI, ↓zB_wZ, ↓zB_lIl, ↓zB_wIl, zB_pI, zB_pZ, zB_lI, zB_lZ, zB_wI, zB_wZ, z_addl, z_ladd, z_mull, z_lmul, nI_add, z_subl, Nat.not_lt_zero, z_10, z_01, z_bitc, z_b0, z_b1, ↓zB_Gb, ↓zB_G0, ↓zB_G1, z_eql, z_leq, z_ltl, z_llt, z_eq, z_lt, z_m1lt, hp.k, hp.k1, hp.k2, hp.k3, hp.k4, hp.k5, hp.k6, hp.k7, hp.k8, hp.k9, hp.k10, hp.l1, hp.l2, hp.l3, hp.l4, hp.l5, hp.l6, hp.l7, hp.l8, hp.l9, hp.l10, hbk, ↓hp.g0, ↓hp.g1, ↓hp.g2, ↓hp.g3, ↓hp.g4, ↓hp.g5, ↓hp.g6, ↓hp.g7, ↓hp.g8, ↓hp.g9, ↓hp.gb, hp.gb, h24, hk, ↓zB_c e98, zB_c e98, z_oI, ↓zB_c e10, zB_c e10, Option.isSome_none, Bool.false_or]
      rfl
end
