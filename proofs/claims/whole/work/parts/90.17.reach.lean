-- deps: 90.14.fam 90.15.right
/-! what calls reach: the class -/
section
variable {S : z_S} {m : z_m} {p : Nat} {P : z_Pg}
/-- all bodies are right, and what is found of them is laid -/
def z_RT (P : z_Pg) : Prop := ∀ k, k < z_nm P → z_liv P k = true → z_rt P k (z_bd P k)
theorem z_RT_wr (hw : z_wf P) (h : z_wr P = -1) : z_RT P := fun k hk hl => (z_wr_rt h hk hw.2.2.1 hl).1
theorem z_RT_ov (hw : z_wf P) (h : z_wr P = -1) {k : Nat} (hk : k < z_nm P) (hl : z_liv P k = true) : z_ovw P k = false := (z_wr_rt h hk hw.2.2.1 hl).2
def z_LT (m : z_m) (p : Nat) (P : z_Pg) : Prop := ∀ k, k < z_nm P → z_liv P k = true → z_TY m p P k
theorem z_LT_fr {m' : z_m} (hw : z_wf P) (h : ∀ a, p ≤ a → a < p + 179 → m' a = m a) (ht : z_LT m p P) : z_LT m' p P := fun k hk hl => z_TY_fr (fun a x1 x2 => h a (by unfold z_bi at x1; omega) (by have := hw.2.2.1; unfold z_bi at x2; omega)) (ht k hk hl)
/-- one callee's overriders -/
theorem f104_59_sp (hp : z_PS S p) (h : z_cp m p P) (hw : z_wf P) {b q i c0 : Nat} (hb : z_BS S b 60) (hi : i < 60) (hq : q < z_nm P) (hl : z_liv P q = true) (hT : m (b + 5) (i + 1) = nI c0) (hc0 : c0 < z_nc P) (L : Nat → Bool) : f104_59 p b (z_M (z_nm P) L) (nI i) (nI q) 0 (z_hp S m) = some (.inl (p, b, z_M (z_nm P) (fun j => L j || (decide (j < z_nm P) && (z_ov P j q && z_blw P (z_own P j) c0))), nI (i + 1)), z_hp S m) := by
  have h24 := hw.2.2.1
  have h6 := hw.1.1
  have h0 := h.2.1.1
  have fin : ∀ n, n ≤ z_nm P → z_fo (fun j (a : Nat → Bool) => if (z_ov P j q && z_blw P (z_own P j) c0) = true then (fun i => a i || decide (j = i)) else a) n L = fun j => L j || (decide (j < n) && (z_ov P j q && z_blw P (z_own P j) c0)) := by
    intro n
    induction n with
    | zero => intro _; funext j; simp [z_fo]
    | succ n ih =>
      intro hn
      show (if (z_ov P n q && z_blw P (z_own P n) c0) = true then (fun i => z_fo _ n L i || decide (n = i)) else z_fo _ n L) = _
      rw [ih (by omega)]
      funext j
      by_cases g : j = n
      · subst g
        cases hx : (z_ov P j q && z_blw P (z_own P j) c0) with
        | true => rw [if_pos rfl]; simp
        | false => rw [if_neg (by simp)]; simp [hx]
      · have e1 : decide (n = j) = false := decide_eq_false (fun q => g q.symm)
        have e2 : decide (j < n) = decide (j < n + 1) := by
          by_cases q : j < n
          · rw [decide_eq_true q, decide_eq_true (by omega)]
          · rw [decide_eq_false q, decide_eq_false (by omega)]
        split
        · simp only [e1, Bool.or_false, e2]
        · simp only [e2]
  unfold f104_59
  rw [← fin _ (Nat.le_refl _)]
  refine z_fold (fun j (a : Nat → Bool) => (p, b, z_M (z_nm P) a, nI i, nI q, nI j)) (fun j (a : Nat → Bool) => if (z_ov P j q && z_blw P (z_own P j) c0) = true then (fun i => a i || decide (j = i)) else a) (fun a => (Sum.inl (p, b, z_M (z_nm P) a, nI (i + 1)) : (Nat × Nat × Int32 × Int32) ⊕ Int32)) (z_nm P) L 1000000 (by omega) (fun j a hj => ?_) (fun a => ?_)
  · have e93 := f93_sp hp h hw hj hq hl
    dsimp only
    unfold f104_59b f104_109
    cases g : z_ov P j q with
    | false =>
      rw [g] at e93
      simp (disch := ((try simp only [true_or, or_true, hp.k, hp.k1, hp.k2, hp.k3, hp.k4, hp.k5, hp.k6, hp.k7, hp.k8, hp.k9, hp.k10, hp.l1, hp.l2, hp.l3, hp.l4, hp.l5, hp.l6, hp.l7, hp.l8, hp.l9, hp.l10, hb.k, hb.k1, hb.k2, hb.k3, hb.k4, hb.k5, hb.k6, hb.l1, hb.l2, hb.l3, hb.l4, hb.l5, hb.l6]) <;> (try omega))) only [↓reduceIte, ↓z_ite, ↓zR, ↓zB_R, ↓zB_B, ↓zB_ite, ↓zB_gI, ↓zB_pI, ↓zB_pZ, ↓zB_aK, ↓zB_G, ↓zB_lI, ↓zB_lZ, ↓zB_wI, ↓zB_wZ, ↓zB_lIl, ↓zB_wIl, zB_pI, zB_pZ, zB_lI, zB_lZ, zB_wI, zB_wZ, z_addl, z_ladd, z_mull, z_lmul, nI_add, z_subl, Nat.not_lt_zero, z_10, z_01, z_bitc, z_b0, z_b1, ↓zB_Gb, ↓zB_G0, ↓zB_G1, z_eql, z_leq, z_ltl, z_llt, z_eq, z_lt, z_m1lt, hp.k, hp.k1, hp.k2, hp.k3, hp.k4, hp.k5, hp.k6, hp.k7, hp.k8, hp.k9, hp.k10, hp.l1, hp.l2, hp.l3, hp.l4, hp.l5, hp.l6, hp.l7, hp.l8, hp.l9, hp.l10, hb.k, hb.k1, hb.k2, hb.k3, hb.k4, hb.k5, hb.k6, hb.l1, hb.l2, hb.l3, hb.l4, hb.l5, hb.l6, ↓hp.g0, ↓hp.g1, ↓hp.g2, ↓hp.g3, ↓hp.g4, ↓hp.g5, ↓hp.g6, ↓hp.g7, ↓hp.g8, ↓hp.g9, ↓hp.gb, hp.gb, ↓hb.g0, ↓hb.g1, ↓hb.g2, ↓hb.g3, ↓hb.g4, ↓hb.g5, h0, hj, ↓zB_c e93, zB_c e93, Bool.false_and, Bool.false_eq_true]
    | true =>
      rw [g] at e93
      have oj := z_own_e hw hj
      have q1 := (h.2.1.2.2 j hj (z_ov_cnt g).1).1
      have e82 := f82_sp hp h hw oj.1 (show c0 < 32 by omega)
      have e2 := z_M_set (n := z_nm P) (s := a) (by omega) hj
      cases g2 : z_blw P (z_own P j) c0 with
      | false =>
        rw [g2] at e82
        simp (disch := ((try simp only [true_or, or_true, hp.k, hp.k1, hp.k2, hp.k3, hp.k4, hp.k5, hp.k6, hp.k7, hp.k8, hp.k9, hp.k10, hp.l1, hp.l2, hp.l3, hp.l4, hp.l5, hp.l6, hp.l7, hp.l8, hp.l9, hp.l10, hb.k, hb.k1, hb.k2, hb.k3, hb.k4, hb.k5, hb.k6, hb.l1, hb.l2, hb.l3, hb.l4, hb.l5, hb.l6]) <;> (try omega))) only [↓reduceIte, ↓z_ite, ↓zR, ↓zB_R, ↓zB_B, ↓zB_ite, ↓zB_gI, ↓zB_pI, ↓zB_pZ, ↓zB_aK, ↓zB_G, ↓zB_lI, ↓zB_lZ, ↓zB_wI, ↓zB_wZ, ↓zB_lIl, ↓zB_wIl, zB_pI, zB_pZ, zB_lI, zB_lZ, zB_wI, zB_wZ, z_addl, z_ladd, z_mull, z_lmul, nI_add, z_subl, Nat.not_lt_zero, z_10, z_01, z_bitc, z_b0, z_b1, ↓zB_Gb, ↓zB_G0, ↓zB_G1, z_eql, z_leq, z_ltl, z_llt, z_eq, z_lt, z_m1lt, hp.k, hp.k1, hp.k2, hp.k3, hp.k4, hp.k5, hp.k6, hp.k7, hp.k8, hp.k9, hp.k10, hp.l1, hp.l2, hp.l3, hp.l4, hp.l5, hp.l6, hp.l7, hp.l8, hp.l9, hp.l10, hb.k, hb.k1, hb.k2, hb.k3, hb.k4, hb.k5, hb.k6, hb.l1, hb.l2, hb.l3, hb.l4, hb.l5, hb.l6, ↓hp.g0, ↓hp.g1, ↓hp.g2, ↓hp.g3, ↓hp.g4, ↓hp.g5, ↓hp.g6, ↓hp.g7, ↓hp.g8, ↓hp.g9, ↓hp.gb, hp.gb, ↓hb.g0, ↓hb.g1, ↓hb.g2, ↓hb.g3, ↓hb.g4, ↓hb.g5, h0, hj, ↓zB_c e93, zB_c e93, q1, oj.2, hi, hT, ↓zB_c e82, zB_c e82, Bool.true_and, Bool.false_eq_true, Bool.true_eq_false]
      | true =>
        rw [g2] at e82
        simp (disch := ((try simp only [true_or, or_true, hp.k, hp.k1, hp.k2, hp.k3, hp.k4, hp.k5, hp.k6, hp.k7, hp.k8, hp.k9, hp.k10, hp.l1, hp.l2, hp.l3, hp.l4, hp.l5, hp.l6, hp.l7, hp.l8, hp.l9, hp.l10, hb.k, hb.k1, hb.k2, hb.k3, hb.k4, hb.k5, hb.k6, hb.l1, hb.l2, hb.l3, hb.l4, hb.l5, hb.l6]) <;> (try omega))) only [↓reduceIte, ↓z_ite, ↓zR, ↓zB_R, ↓zB_B, ↓zB_ite, ↓zB_gI, ↓zB_pI, ↓zB_pZ, ↓zB_aK, ↓zB_G, ↓zB_lI, ↓zB_lZ, ↓zB_wI, ↓zB_wZ, ↓zB_lIl, ↓zB_wIl, zB_pI, zB_pZ, zB_lI, zB_lZ, zB_wI, zB_wZ, z_addl, z_ladd, z_mull, z_lmul, nI_add, z_subl, Nat.not_lt_zero, z_10, z_01, z_bitc, z_b0, z_b1, ↓zB_Gb, ↓zB_G0, ↓zB_G1, z_eql, z_leq, z_ltl, z_llt, z_eq, z_lt, z_m1lt, hp.k, hp.k1, hp.k2, hp.k3, hp.k4, hp.k5, hp.k6, hp.k7, hp.k8, hp.k9, hp.k10, hp.l1, hp.l2, hp.l3, hp.l4, hp.l5, hp.l6, hp.l7, hp.l8, hp.l9, hp.l10, hb.k, hb.k1, hb.k2, hb.k3, hb.k4, hb.k5, hb.k6, hb.l1, hb.l2, hb.l3, hb.l4, hb.l5, hb.l6, ↓hp.g0, ↓hp.g1, ↓hp.g2, ↓hp.g3, ↓hp.g4, ↓hp.g5, ↓hp.g6, ↓hp.g7, ↓hp.g8, ↓hp.g9, ↓hp.gb, hp.gb, ↓hb.g0, ↓hb.g1, ↓hb.g2, ↓hb.g3, ↓hb.g4, ↓hb.g5, h0, hj, ↓zB_c e93, zB_c e93, q1, oj.2, hi, hT, ↓zB_c e82, zB_c e82, Bool.true_and, Bool.true_eq_false, e2]
  · dsimp only
    unfold f104_59b f104_115
    simp (disch := ((try simp only [true_or, or_true, hp.k, hp.k1, hp.k2, hp.k3, hp.k4, hp.k5, hp.k6, hp.k7, hp.k8, hp.k9, hp.k10, hp.l1, hp.l2, hp.l3, hp.l4, hp.l5, hp.l6, hp.l7, hp.l8, hp.l9, hp.l10, hb.k, hb.k1, hb.k2, hb.k3, hb.k4, hb.k5, hb.k6, hb.l1, hb.l2, hb.l3, hb.l4, hb.l5, hb.l6]) <;> (try omega))) only [↓reduceIte, ↓z_ite, ↓zR, ↓zB_R, ↓zB_B, ↓zB_ite, ↓zB_gI, ↓zB_pI, ↓zB_pZ, ↓zB_aK, ↓zB_G, ↓zB_lI, ↓zB_lZ, ↓zB_wI, ↓zB_wZ, ↓zB_lIl, ↓zB_wIl, zB_pI, zB_pZ, zB_lI, zB_lZ, zB_wI, zB_wZ, z_addl, z_ladd, z_mull, z_lmul, nI_add, z_subl, Nat.not_lt_zero, z_10, z_01, z_bitc, z_b0, z_b1, ↓zB_Gb, ↓zB_G0, ↓zB_G1, z_eql, z_leq, z_ltl, z_llt, z_eq, z_lt, z_m1lt, hp.k, hp.k1, hp.k2, hp.k3, hp.k4, hp.k5, hp.k6, hp.k7, hp.k8, hp.k9, hp.k10, hp.l1, hp.l2, hp.l3, hp.l4, hp.l5, hp.l6, hp.l7, hp.l8, hp.l9, hp.l10, hb.k, hb.k1, hb.k2, hb.k3, hb.k4, hb.k5, hb.k6, hb.l1, hb.l2, hb.l3, hb.l4, hb.l5, hb.l6, ↓hp.g0, ↓hp.g1, ↓hp.g2, ↓hp.g3, ↓hp.g4, ↓hp.g5, ↓hp.g6, ↓hp.g7, ↓hp.g8, ↓hp.g9, ↓hp.gb, hp.gb, ↓hb.g0, ↓hb.g1, ↓hb.g2, ↓hb.g3, ↓hb.g4, ↓hb.g5, h0, Nat.lt_irrefl]
/-- what a CALL reaches -/
noncomputable def z_cl1 (P : z_Pg) (k q j : Nat) : Bool := z_k (z_bd P k) q == 7 && (j == z_ce1 P k q || (z_ov P j (z_ce1 P k q) && z_blw P (z_own P j) (z_Ty P k (q + 1)).toNatClampNeg))
theorem z_ov_lt {i j : Nat} (h : z_ov P i j = true) : z_liv P i = true := (z_ov_cnt h).1
/-- Program.callees -/
theorem f104_sp (hp : z_PS S p) (h : z_cp m p P) (hw : z_wf P) (hR : z_RT P) (hT : z_LT m p P) {k : Nat} (hk : k < z_nm P) (hl : z_liv P k = true) : f104 p (nI k) (z_hp S m) = some (z_M (z_nm P) (z_cal P k), z_hp S m) := by
  have h24 := hw.2.2.1
  have h6 := hw.1.1
  have hb := hp.B (k := k) (by omega)
  have hcb := h.2.2.2 k hk hl
  have hbk := hp.e (k := k) (by omega)
  obtain ⟨c6, c7, cl, _, cn⟩ := hcb
  have hr := hR k hk hl
  obtain ⟨_, ht⟩ := hT k hk hl
  have hlen : (z_bd P k).length ≤ 60 := cl
  unfold f104 f104_12
  have main := z_fold (f := fun s => f104_12b (s.1) (s.2.1) (s.2.2.1) (s.2.2.2)) (S := S) (m := m) (fun q (a : Nat → Bool) => (p, z_bi p k, z_M (z_nm P) a, nI q)) (fun q (a : Nat → Bool) => fun j => a j || (decide (j < z_nm P) && z_cl1 P k q j)) (fun a => z_M (z_nm P) a) (z_bd P k).length (fun _ => false) 1000000 (by omega) (fun q a hq => ?_) (fun a => ?_)
  · have e0 : z_M (z_nm P) (fun _ => false) = 0 := by
      have : ∀ n, z_M n (fun _ => false) = 0 := by
        intro n
        induction n with
        | zero => rfl
        | succ n ih => show z_M n _ ||| (if false = true then _ else 0) = 0; rw [ih, if_neg (by decide)]; decide
      exact this _
    rw [e0] at main
    have fin : ∀ n, z_fo (fun q (a : Nat → Bool) => fun j => a j || (decide (j < z_nm P) && z_cl1 P k q j)) n (fun _ => false) = fun j => decide (j < z_nm P) && z_any (fun q => z_cl1 P k q j) n := by
      intro n
      induction n with
      | zero => funext j; simp [z_fo, z_any]
      | succ n ih =>
        show (fun j => z_fo _ n (fun _ => false) j || (decide (j < z_nm P) && z_cl1 P k n j)) = _
        rw [ih]
        funext j
        show ((decide (j < z_nm P) && z_any (fun q => z_cl1 P k q j) n) || (decide (j < z_nm P) && z_cl1 P k n j)) = (decide (j < z_nm P) && (z_any (fun q => z_cl1 P k q j) n || z_cl1 P k n j))
        cases decide (j < z_nm P) <;> rfl
    rw [fin] at main
    rw [zB_gR (hp.k), hp.r9, Option.bind_some, zB_lR (Or.inr hp.k10) (by rw [hp.l10]; omega) (by rw [hp.l10]; decide), hbk, Option.bind_some]
    refine main.trans ?_
    congr 2
    exact z_M_congr (fun j hj => by rw [show decide (j < z_nm P) = true by simpa using hj]; rfl)
  · dsimp only
    have n1 := (cn q hq).1
    have t6 := (ht q hq).2
    unfold f104_12b f104_115
    by_cases g7 : z_k (z_bd P k) q = 7
    · obtain ⟨c, q', hc, eT, ef, eB, hq', hisc, _, _, _⟩ := z_call hw hk hr hq g7
      have ecq : z_ce1 P k q = q' := by
        unfold z_ce1 z_cq
        show (z_Bd P k q).toNatClampNeg - 2000 = q'
        rw [eB, nI_clamp (by omega)]; omega
      have t6' : m (z_bi p k + 6) q = nI (2000 + q') := by rw [t6]; exact eB
      have hq1 : q + 1 < (z_bd P k).length := by
        have hB := hw.2.2.2.2.1 k hk
        have := z_pt_lt hB.1 hq (j := 0) (by rcases z_pn_ka hB hq g7 with g | g | g <;> omega)
        rwa [z_pt_0] at this
      have t5 : m (z_bi p k + 5) (q + 1) = nI c := by rw [(ht (q + 1) hq1).1]; exact eT
      have e59 := f104_59_sp hp h hw (q := q') (i := q) hb (by omega) hq' (z_isc_liv hisc) t5 hc (fun i => a i || decide (q' = i))
      have eset := z_M_set (n := z_nm P) (s := a) (j := q') (by omega) hq'
      have esub : nI (2000 + q') - 2000 = nI q' := by
        rw [show (2000 : Int32) = nI 2000 from rfl, pk_sub (by omega), Nat.add_sub_cancel_left]
      have ez : z_M (z_nm P) (fun j => (fun i => a i || decide (q' = i)) j || (decide (j < z_nm P) && (z_ov P j q' && z_blw P (z_own P j) c))) = z_M (z_nm P) (fun j => a j || (decide (j < z_nm P) && z_cl1 P k q j)) := z_M_congr (fun j hj => by
        unfold z_cl1
        rw [ecq, g7, eT, nI_clamp (show c < 2 ^ 31 by omega), decide_eq_true hj, show ((7 : Int32) == 7) = true from rfl]
        have : (j == q') = decide (q' = j) := by
          by_cases x : j = q'
          · subst x; simp
          · rw [decide_eq_false (fun y => x y.symm)]; simpa using x
        rw [this]
        show ((a j || decide (q' = j)) || (true && _)) = (a j || (true && (true && _)))
        rw [Bool.true_and, Bool.true_and, Bool.true_and, Bool.or_assoc])
      rw [ez] at e59
      simp (disch := ((try simp only [true_or, or_true, hp.k, hp.k1, hp.k2, hp.k3, hp.k4, hp.k5, hp.k6, hp.k7, hp.k8, hp.k9, hp.k10, hp.l1, hp.l2, hp.l3, hp.l4, hp.l5, hp.l6, hp.l7, hp.l8, hp.l9, hp.l10, hb.k, hb.k1, hb.k2, hb.k3, hb.k4, hb.k5, hb.k6, hb.l1, hb.l2, hb.l3, hb.l4, hb.l5, hb.l6]) <;> (try omega))) only [↓reduceIte, ↓z_ite, ↓zR, ↓zB_R, ↓zB_B, ↓zB_ite, ↓zB_gI, ↓zB_pI, ↓zB_pZ, ↓zB_aK, ↓zB_G, ↓zB_lI, ↓zB_lZ, ↓zB_wI, ↓zB_wZ, ↓zB_lIl, ↓zB_wIl, zB_pI, zB_pZ, zB_lI, zB_lZ, zB_wI, zB_wZ, z_addl, z_ladd, z_mull, z_lmul, nI_add, z_subl, Nat.not_lt_zero, z_10, z_01, z_bitc, z_b0, z_b1, ↓zB_Gb, ↓zB_G0, ↓zB_G1, z_eql, z_leq, z_ltl, z_llt, z_eq, z_lt, z_m1lt, hp.k, hp.k1, hp.k2, hp.k3, hp.k4, hp.k5, hp.k6, hp.k7, hp.k8, hp.k9, hp.k10, hp.l1, hp.l2, hp.l3, hp.l4, hp.l5, hp.l6, hp.l7, hp.l8, hp.l9, hp.l10, hb.k, hb.k1, hb.k2, hb.k3, hb.k4, hb.k5, hb.k6, hb.l1, hb.l2, hb.l3, hb.l4, hb.l5, hb.l6, ↓hp.g0, ↓hp.g1, ↓hp.g2, ↓hp.g3, ↓hp.g4, ↓hp.g5, ↓hp.g6, ↓hp.g7, ↓hp.g8, ↓hp.g9, ↓hp.gb, hp.gb, ↓hb.g0, ↓hb.g1, ↓hb.g2, ↓hb.g3, ↓hb.g4, ↓hb.g5, c7, hq, n1, g7, t6', esub, eset]
      exact e59
    · have ez : (fun j => a j || (decide (j < z_nm P) && z_cl1 P k q j)) = a := by
        funext j
        unfold z_cl1
        rw [show (z_k (z_bd P k) q == 7) = false by simpa using g7]; simp
      rw [ez]
      simp (disch := ((try simp only [true_or, or_true, hp.k, hp.k1, hp.k2, hp.k3, hp.k4, hp.k5, hp.k6, hp.k7, hp.k8, hp.k9, hp.k10, hp.l1, hp.l2, hp.l3, hp.l4, hp.l5, hp.l6, hp.l7, hp.l8, hp.l9, hp.l10, hb.k, hb.k1, hb.k2, hb.k3, hb.k4, hb.k5, hb.k6, hb.l1, hb.l2, hb.l3, hb.l4, hb.l5, hb.l6]) <;> (try omega))) only [↓reduceIte, ↓z_ite, ↓zR, ↓zB_R, ↓zB_B, ↓zB_ite, ↓zB_gI, ↓zB_pI, ↓zB_pZ, ↓zB_aK, ↓zB_G, ↓zB_lI, ↓zB_lZ, ↓zB_wI, ↓zB_wZ, ↓zB_lIl, ↓zB_wIl, zB_pI, zB_pZ, zB_lI, zB_lZ, zB_wI, zB_wZ, z_addl, z_ladd, z_mull, z_lmul, nI_add, z_subl, Nat.not_lt_zero, z_10, z_01, z_bitc, z_b0, z_b1, ↓zB_Gb, ↓zB_G0, ↓zB_G1, z_eql, z_leq, z_ltl, z_llt, z_eq, z_lt, z_m1lt, hp.k, hp.k1, hp.k2, hp.k3, hp.k4, hp.k5, hp.k6, hp.k7, hp.k8, hp.k9, hp.k10, hp.l1, hp.l2, hp.l3, hp.l4, hp.l5, hp.l6, hp.l7, hp.l8, hp.l9, hp.l10, hb.k, hb.k1, hb.k2, hb.k3, hb.k4, hb.k5, hb.k6, hb.l1, hb.l2, hb.l3, hb.l4, hb.l5, hb.l6, ↓hp.g0, ↓hp.g1, ↓hp.g2, ↓hp.g3, ↓hp.g4, ↓hp.g5, ↓hp.g6, ↓hp.g7, ↓hp.g8, ↓hp.g9, ↓hp.gb, hp.gb, ↓hb.g0, ↓hb.g1, ↓hb.g2, ↓hb.g3, ↓hb.g4, ↓hb.g5, c7, hq, n1, g7]
  · dsimp only
    unfold f104_12b f104_121
    simp (disch := ((try simp only [true_or, or_true, hp.k, hp.k1, hp.k2, hp.k3, hp.k4, hp.k5, hp.k6, hp.k7, hp.k8, hp.k9, hp.k10, hp.l1, hp.l2, hp.l3, hp.l4, hp.l5, hp.l6, hp.l7, hp.l8, hp.l9, hp.l10, hb.k, hb.k1, hb.k2, hb.k3, hb.k4, hb.k5, hb.k6, hb.l1, hb.l2, hb.l3, hb.l4, hb.l5, hb.l6]) <;> (try omega))) only [↓reduceIte, ↓z_ite, ↓zR, ↓zB_R, ↓zB_B, ↓zB_ite, ↓zB_gI, ↓zB_pI, ↓zB_pZ, ↓zB_aK, ↓zB_G, ↓zB_lI, ↓zB_lZ, ↓zB_wI, ↓zB_wZ, ↓zB_lIl, ↓zB_wIl, zB_pI, zB_pZ, zB_lI, zB_lZ, zB_wI, zB_wZ, z_addl, z_ladd, z_mull, z_lmul, nI_add, z_subl, Nat.not_lt_zero, z_10, z_01, z_bitc, z_b0, z_b1, ↓zB_Gb, ↓zB_G0, ↓zB_G1, z_eql, z_leq, z_ltl, z_llt, z_eq, z_lt, z_m1lt, hp.k, hp.k1, hp.k2, hp.k3, hp.k4, hp.k5, hp.k6, hp.k7, hp.k8, hp.k9, hp.k10, hp.l1, hp.l2, hp.l3, hp.l4, hp.l5, hp.l6, hp.l7, hp.l8, hp.l9, hp.l10, hb.k, hb.k1, hb.k2, hb.k3, hb.k4, hb.k5, hb.k6, hb.l1, hb.l2, hb.l3, hb.l4, hb.l5, hb.l6, ↓hp.g0, ↓hp.g1, ↓hp.g2, ↓hp.g3, ↓hp.g4, ↓hp.g5, ↓hp.g6, ↓hp.g7, ↓hp.g8, ↓hp.g9, ↓hp.gb, hp.gb, ↓hb.g0, ↓hb.g1, ↓hb.g2, ↓hb.g3, ↓hb.g4, ↓hb.g5, c7, Nat.lt_irrefl]
/-- what is reached is there -/
theorem z_cal_liv (hw : z_wf P) (hR : z_RT P) {k j : Nat} (hk : k < z_nm P) (hl : z_liv P k = true) (hj : j < z_nm P) (h : z_cal P k j = true) : z_liv P j = true := by
  obtain ⟨q, hq, h2⟩ := z_any_iff.mp h
  obtain ⟨h3, h4⟩ := Bool.and_eq_true_iff.mp h2
  rcases Bool.or_eq_true _ _ ▸ h4 with h5 | h5
  · have : j = z_ce1 P k q := by simpa using h5
    rw [this]
    exact (z_call_q hw hk (hR k hk hl) hq (by simpa using h3)).2.2
  · exact z_ov_lt (Bool.and_eq_true_iff.mp h5).1
theorem z_rch_liv (hw : z_wf P) (hR : z_RT P) {k : Nat} (hk : k < z_nm P) (hl : z_liv P k = true) : ∀ r j, j < z_nm P → z_ci (z_nm P) (z_cal P) (z_cal P k) r j = true → z_liv P j = true
  | 0, j, hj, h => z_cal_liv hw hR hk hl hj h
  | r + 1, j, hj, h => by
    rcases z_c1_t.mp (show z_c1 (z_nm P) (z_cal P) (z_ci (z_nm P) (z_cal P) (z_cal P k) r) j = true from h) with h1 | ⟨_, i, hi, h2, h3⟩
    · exact z_rch_liv hw hR hk hl r j hj h1
    · exact z_cal_liv hw hR hi (z_rch_liv hw hR hk hl r i hi h2) hj h3
/-- Program.reach -/
theorem f103_sp (hp : z_PS S p) (h : z_cp m p P) (hw : z_wf P) (hR : z_RT P) (hT : z_LT m p P) {k : Nat} (hk : k < z_nm P) (hl : z_liv P k = true) : f103 p (nI k) (z_hp S m) = some (z_M (z_nm P) (z_rch P k), z_hp S m) := by
  have h24 := hw.2.2.1
  have h0 := h.2.1.1
  have e104 := f104_sp hp h hw hR hT hk hl
  have M0 : z_M (z_nm P) (fun _ => false) = 0 := by
    have : ∀ n, z_M n (fun _ => false) = 0 := by
      intro n
      induction n with
      | zero => rfl
      | succ n ih => show z_M n _ ||| (if false = true then _ else 0) = 0; rw [ih, if_neg (by decide)]; decide
    exact this _
  -- a round: the last set s, the one before s0
  have inner : ∀ (s s0 : Nat → Bool) (r : Int32), (∀ j, j < z_nm P → s j = true → z_liv P j = true) → f103_35 p (z_M (z_nm P) s) (z_M (z_nm P) s) r (z_M (z_nm P) (fun j => s j && !s0 j)) 0 (z_hp S m) = some (.inl (p, z_M (z_nm P) (fun j => s j || (decide (j < z_nm P) && z_any (fun i => (s i && !s0 i) && z_cal P i j) (z_nm P))), z_M (z_nm P) s, r + 1), z_hp S m) := by
    intro s s0 r hs
    have fin : ∀ n, n ≤ z_nm P → z_fo (fun i (a : Nat → Bool) => if (s i && !s0 i) = true then (fun j => a j || z_cal P i j) else a) n s = fun j => s j || z_any (fun i => (s i && !s0 i) && z_cal P i j) n := by
      intro n
      induction n with
      | zero => intro _; funext j; simp [z_fo, z_any]
      | succ n ih =>
        intro hn
        show (if (s n && !s0 n) = true then (fun j => z_fo _ n s j || z_cal P n j) else z_fo _ n s) = _
        rw [ih (by omega)]
        funext j
        show _ = (s j || (z_any (fun i => (s i && !s0 i) && z_cal P i j) n || ((s n && !s0 n) && z_cal P n j)))
        by_cases g : (s n && !s0 n) = true
        · rw [if_pos g, g, Bool.true_and, Bool.or_assoc]
        · rw [if_neg g, show (s n && !s0 n) = false by simpa using g, Bool.false_and, Bool.or_false]
    unfold f103_35
    have main := z_fold (f := fun s => f103_35b (s.1) (s.2.1) (s.2.2.1) (s.2.2.2.1) (s.2.2.2.2.1) (s.2.2.2.2.2)) (S := S) (m := m) (fun i (a : Nat → Bool) => (p, z_M (z_nm P) a, z_M (z_nm P) s, r, z_M (z_nm P) (fun j => s j && !s0 j), nI i)) (fun i (a : Nat → Bool) => if (s i && !s0 i) = true then (fun j => a j || z_cal P i j) else a) (fun a => (Sum.inl (p, z_M (z_nm P) a, z_M (z_nm P) s, r + 1) : (Nat × Int32 × Int32 × Int32) ⊕ Int32)) (z_nm P) s 1000000 (by omega) (fun i a hi => ?_) (fun a => ?_)
    · rw [fin _ (Nat.le_refl _)] at main
      have ee : z_M (z_nm P) (fun j => s j || z_any (fun i => (s i && !s0 i) && z_cal P i j) (z_nm P)) = z_M (z_nm P) (fun j => s j || (decide (j < z_nm P) && z_any (fun i => (s i && !s0 i) && z_cal P i j) (z_nm P))) := z_M_congr (fun j hj => by rw [show decide (j < z_nm P) = true by simpa using hj, Bool.true_and])
      rw [← ee]; exact main
    · have hbit := z_M_at (n := z_nm P) (s := fun j => s j && !s0 j) (by omega) hi
      dsimp only
      unfold f103_35b f103_64
      cases g : (s i && !s0 i) with
      | false =>
        rw [g] at hbit
        simp (disch := ((try simp only [true_or, or_true, hp.k, hp.k1, hp.k2, hp.k3, hp.k4, hp.k5, hp.k6, hp.k7, hp.k8, hp.k9, hp.k10, hp.l1, hp.l2, hp.l3, hp.l4, hp.l5, hp.l6, hp.l7, hp.l8, hp.l9, hp.l10]) <;> (try omega))) only [↓reduceIte, ↓z_ite, ↓zR, ↓zB_R, ↓zB_B, ↓zB_ite, ↓zB_gI, ↓zB_pI, ↓zB_pZ, ↓zB_aK, ↓zB_G, ↓zB_lI, ↓zB_lZ, ↓zB_wI, ↓zB_wZ, ↓zB_lIl, ↓zB_wIl, zB_pI, zB_pZ, zB_lI, zB_lZ, zB_wI, zB_wZ, z_addl, z_ladd, z_mull, z_lmul, nI_add, z_subl, Nat.not_lt_zero, z_10, z_01, z_bitc, z_b0, z_b1, ↓zB_Gb, ↓zB_G0, ↓zB_G1, z_eql, z_leq, z_ltl, z_llt, z_eq, z_lt, z_m1lt, hp.k, hp.k1, hp.k2, hp.k3, hp.k4, hp.k5, hp.k6, hp.k7, hp.k8, hp.k9, hp.k10, hp.l1, hp.l2, hp.l3, hp.l4, hp.l5, hp.l6, hp.l7, hp.l8, hp.l9, hp.l10, ↓hp.g0, ↓hp.g1, ↓hp.g2, ↓hp.g3, ↓hp.g4, ↓hp.g5, ↓hp.g6, ↓hp.g7, ↓hp.g8, ↓hp.g9, ↓hp.gb, hp.gb, h0, hi, hbit, Bool.false_eq_true]
      | true =>
        rw [g] at hbit
        have e := f104_sp hp h hw hR hT hi (hs i hi (Bool.and_eq_true_iff.mp g).1)
        have eo := z_M_or (n := z_nm P) (s := a) (t := z_cal P i) (by omega)
        simp (disch := ((try simp only [true_or, or_true, hp.k, hp.k1, hp.k2, hp.k3, hp.k4, hp.k5, hp.k6, hp.k7, hp.k8, hp.k9, hp.k10, hp.l1, hp.l2, hp.l3, hp.l4, hp.l5, hp.l6, hp.l7, hp.l8, hp.l9, hp.l10]) <;> (try omega))) only [↓reduceIte, ↓z_ite, ↓zR, ↓zB_R, ↓zB_B, ↓zB_ite, ↓zB_gI, ↓zB_pI, ↓zB_pZ, ↓zB_aK, ↓zB_G, ↓zB_lI, ↓zB_lZ, ↓zB_wI, ↓zB_wZ, ↓zB_lIl, ↓zB_wIl, zB_pI, zB_pZ, zB_lI, zB_lZ, zB_wI, zB_wZ, z_addl, z_ladd, z_mull, z_lmul, nI_add, z_subl, Nat.not_lt_zero, z_10, z_01, z_bitc, z_b0, z_b1, ↓zB_Gb, ↓zB_G0, ↓zB_G1, z_eql, z_leq, z_ltl, z_llt, z_eq, z_lt, z_m1lt, hp.k, hp.k1, hp.k2, hp.k3, hp.k4, hp.k5, hp.k6, hp.k7, hp.k8, hp.k9, hp.k10, hp.l1, hp.l2, hp.l3, hp.l4, hp.l5, hp.l6, hp.l7, hp.l8, hp.l9, hp.l10, ↓hp.g0, ↓hp.g1, ↓hp.g2, ↓hp.g3, ↓hp.g4, ↓hp.g5, ↓hp.g6, ↓hp.g7, ↓hp.g8, ↓hp.g9, ↓hp.gb, hp.gb, h0, hi, hbit, ↓zB_c e, zB_c e, eo]
    · dsimp only
      unfold f103_35b f103_70
      simp (disch := ((try simp only [true_or, or_true, hp.k, hp.k1, hp.k2, hp.k3, hp.k4, hp.k5, hp.k6, hp.k7, hp.k8, hp.k9, hp.k10, hp.l1, hp.l2, hp.l3, hp.l4, hp.l5, hp.l6, hp.l7, hp.l8, hp.l9, hp.l10]) <;> (try omega))) only [↓reduceIte, ↓z_ite, ↓zR, ↓zB_R, ↓zB_B, ↓zB_ite, ↓zB_gI, ↓zB_pI, ↓zB_pZ, ↓zB_aK, ↓zB_G, ↓zB_lI, ↓zB_lZ, ↓zB_wI, ↓zB_wZ, ↓zB_lIl, ↓zB_wIl, zB_pI, zB_pZ, zB_lI, zB_lZ, zB_wI, zB_wZ, z_addl, z_ladd, z_mull, z_lmul, nI_add, z_subl, Nat.not_lt_zero, z_10, z_01, z_bitc, z_b0, z_b1, ↓zB_Gb, ↓zB_G0, ↓zB_G1, z_eql, z_leq, z_ltl, z_llt, z_eq, z_lt, z_m1lt, hp.k, hp.k1, hp.k2, hp.k3, hp.k4, hp.k5, hp.k6, hp.k7, hp.k8, hp.k9, hp.k10, hp.l1, hp.l2, hp.l3, hp.l4, hp.l5, hp.l6, hp.l7, hp.l8, hp.l9, hp.l10, ↓hp.g0, ↓hp.g1, ↓hp.g2, ↓hp.g3, ↓hp.g4, ↓hp.g5, ↓hp.g6, ↓hp.g7, ↓hp.g8, ↓hp.g9, ↓hp.gb, hp.gb, h0, Nat.lt_irrefl]
  have Mdiff : ∀ s s0 : Nat → Bool, z_M (z_nm P) s &&& (z_M (z_nm P) s0 ^^^ (-1)) = z_M (z_nm P) (fun j => s j && !s0 j) := by
    intro s s0
    refine z_msk_uq (n := z_nm P) (s := fun j => s j && !s0 j) (fun j hj => ?_) (z_M_bit (by omega))
    rw [z_bit_and _ _ hj, z_bit_not _ hj, z_M_bit (by omega) j hj, z_M_bit (by omega) j hj]
    cases decide (j < z_nm P) <;> simp
  -- rounds
  have key : ∀ n r, n = 24 - r → r ≤ 24 → ∀ N, n < N → ∀ s0 : Nat → Bool, (∀ j, j < z_nm P → s0 j = true → ∀ i, i < z_nm P → z_cal P j i = true → z_ci (z_nm P) (z_cal P) (z_cal P k) r i = true) → m_W (fun s => f103_11b (s.1) (s.2.1) (s.2.2.1) (s.2.2.2)) N (p, z_M (z_nm P) (z_ci (z_nm P) (z_cal P) (z_cal P k) r), z_M (z_nm P) s0, nI r) (z_hp S m) = some (z_M (z_nm P) (z_rch P k), z_hp S m) := by
    intro n
    induction n with
    | zero =>
      intro r h1 h2 N hN s0 hs0
      obtain ⟨N, rfl⟩ : ∃ N', N = N' + 1 := ⟨N - 1, by omega⟩
      have hr : r = 24 := by omega
      subst hr
      have e : z_ci (z_nm P) (z_cal P) (z_cal P k) 24 = z_rch P k := by
        have := z_ci_stay (n := z_nm P) (R := z_cal P) (s0 := z_cal P k) (z_nm P) z_clo_c (24 - z_nm P)
        rw [show z_nm P + (24 - z_nm P) = 24 by omega] at this
        exact this
      show m_B (f103_11b p _ _ (nI 24)) _ _ = _
      unfold f103_11b f103_76
      rw [if_neg (by decide), e]; rfl
    | succ n ih =>
      intro r h1 h2 N hN s0 hs0
      obtain ⟨N, rfl⟩ : ∃ N', N = N' + 1 := ⟨N - 1, by omega⟩
      have hr : r < 24 := by omega
      have lt : nI r < 24 := (nI_ltI (a := r) (b := 24) (by omega) (by decide)).mpr hr
      show m_B (f103_11b p _ _ (nI r)) _ _ = _
      by_cases g : z_M (z_nm P) s0 = z_M (z_nm P) (z_ci (z_nm P) (z_cal P) (z_cal P k) r)
      · have e2 : f103_11b p (z_M (z_nm P) (z_ci (z_nm P) (z_cal P) (z_cal P k) r)) (z_M (z_nm P) s0) (nI r) (z_hp S m) = some (.inr (z_M (z_nm P) (z_ci (z_nm P) (z_cal P) (z_cal P k) r)), z_hp S m) := by
          unfold f103_11b f103_76
          rw [if_pos lt, if_pos g]; rfl
        rw [zB_c e2]
        show some (_, _) = _
        have hcl : z_cls (z_nm P) (z_cal P) (z_ci (z_nm P) (z_cal P) (z_cal P k) r) := fun i j hi hj h3 h4 => hs0 i hi (by rw [z_M_inj (by omega) g i hi]; exact h3) j hj h4
        have : z_ci (z_nm P) (z_cal P) (z_cal P k) r = z_rch P k := by
          rcases Nat.lt_or_ge r (z_nm P) with q | q
          · have := z_ci_stay r hcl (z_nm P - r)
            rw [show r + (z_nm P - r) = z_nm P by omega] at this
            exact this.symm
          · have := z_ci_stay (n := z_nm P) (R := z_cal P) (s0 := z_cal P k) (z_nm P) z_clo_c (r - z_nm P)
            rw [show z_nm P + (r - z_nm P) = r by omega] at this
            exact this
        rw [this]
      · have ei := inner (z_ci (z_nm P) (z_cal P) (z_cal P k) r) s0 (nI r) (fun j hj h3 => z_rch_liv hw hR hk hl r j hj h3)
        have enew : z_M (z_nm P) (fun j => z_ci (z_nm P) (z_cal P) (z_cal P k) r j || (decide (j < z_nm P) && z_any (fun i => (z_ci (z_nm P) (z_cal P) (z_cal P k) r i && !s0 i) && z_cal P i j) (z_nm P))) = z_M (z_nm P) (z_ci (z_nm P) (z_cal P) (z_cal P k) (r + 1)) := z_M_congr (fun j hj => by
          rw [show decide (j < z_nm P) = true by simpa using hj, Bool.true_and]
          have hR2 : z_ci (z_nm P) (z_cal P) (z_cal P k) (r + 1) j = true ↔ _ := z_c1_t
          cases q : z_ci (z_nm P) (z_cal P) (z_cal P k) (r + 1) j with
          | true =>
            rcases hR2.mp q with q1 | ⟨_, i, hi, q2, q3⟩
            · rw [q1]; rfl
            · cases q4 : s0 i with
              | true => rw [hs0 i hi q4 j hj q3]; rfl
              | false =>
                rw [z_any_iff.mpr ⟨i, hi, by rw [q2, q4, q3]; rfl⟩, Bool.or_true]
          | false =>
            cases q5 : z_ci (z_nm P) (z_cal P) (z_cal P k) r j with
            | true => rw [hR2.mpr (Or.inl q5)] at q; cases q
            | false =>
              rw [Bool.false_or]
              refine z_any_f.mpr (fun i hi => ?_)
              cases q6 : ((z_ci (z_nm P) (z_cal P) (z_cal P k) r i && !s0 i) && z_cal P i j) with
              | false => rfl
              | true =>
                obtain ⟨q7, q8⟩ := Bool.and_eq_true_iff.mp q6
                rw [hR2.mpr (Or.inr ⟨hj, i, hi, (Bool.and_eq_true_iff.mp q7).1, q8⟩)] at q; cases q)
        rw [enew] at ei
        have e2 : f103_11b p (z_M (z_nm P) (z_ci (z_nm P) (z_cal P) (z_cal P k) r)) (z_M (z_nm P) s0) (nI r) (z_hp S m) = some (.inl (p, z_M (z_nm P) (z_ci (z_nm P) (z_cal P) (z_cal P k) (r + 1)), z_M (z_nm P) (z_ci (z_nm P) (z_cal P) (z_cal P k) r), nI (r + 1)), z_hp S m) := by
          unfold f103_11b
          rw [if_pos lt, if_neg g, Mdiff, ei, show nI r + 1 = nI (r + 1) from nI_add r 1]
        rw [zB_c e2]
        exact ih (r + 1) (by omega) (by omega) N (by omega) _ (fun j hj h3 i hi h4 => z_c1_t.mpr (Or.inr ⟨hi, j, hj, h3, h4⟩))
  unfold f103 f103_11
  rw [zB_aK hp.k, zB_c e104]
  have := key 24 0 rfl (by decide) 1000000 (by decide) (fun _ => false) (fun j _ h3 => absurd h3 (by decide))
  rw [M0] at this
  exact this
end
