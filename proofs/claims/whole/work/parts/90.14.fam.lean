-- deps:
/-! families -/
/-- a set of methods as an int -/
def z_M (n : Nat) (s : Nat → Bool) : Int32 := match n with
  | 0 => 0
  | n + 1 => z_M n s ||| (if s n = true then 1 <<< (nI n &&& 31) else 0)
theorem z_M_bit {s : Nat → Bool} : ∀ {n : Nat}, n ≤ 32 → z_msk (z_M n s) n s
  | 0, _ => fun j hj => by rw [show z_M 0 s = 0 from rfl, z_bit_0 hj]; rfl
  | n + 1, hn => fun j hj => by
    show z_bit (z_M n s ||| (if s n = true then 1 <<< (nI n &&& 31) else 0)) j = _
    rw [z_bit_or _ _ hj, z_M_bit (show n ≤ 32 by omega) j hj]
    by_cases g : j = n
    · subst g
      by_cases h : s j = true
      · rw [if_pos h, z_bit_shl hj hj, h]; simp
      · rw [if_neg h, z_bit_0 hj]
        have : s j = false := by simpa using h
        rw [this]; simp
    · have e : z_bit (if s n = true then 1 <<< (nI n &&& 31) else 0) j = false := by
        by_cases h : s n = true
        · rw [if_pos h, z_bit_shl (by omega) hj]; exact decide_eq_false (fun q => g q.symm)
        · rw [if_neg h, z_bit_0 hj]
      rw [e, Bool.or_false]
      by_cases h : j < n
      · rw [show decide (j < n) = true by simpa using h, show decide (j < n + 1) = true by simp; omega]
      · rw [show decide (j < n) = false by simp; omega, show decide (j < n + 1) = false by simp; omega]
theorem z_msk_uq {n : Nat} {s : Nat → Bool} {F G : Int32} (h : z_msk F n s) (h2 : z_msk G n s) : F = G := z_bit_ext (fun k hk => (h k hk).trans (h2 k hk).symm)
theorem z_msk_M {n : Nat} {s : Nat → Bool} {F : Int32} (hn : n ≤ 32) (h : z_msk F n s) : F = z_M n s := z_msk_uq h (z_M_bit hn)
theorem z_M_congr {n : Nat} {s t : Nat → Bool} (h : ∀ j, j < n → s j = t j) : z_M n s = z_M n t := by
  induction n with
  | zero => rfl
  | succ n ih =>
    show z_M n s ||| _ = z_M n t ||| _
    rw [ih (fun j hj => h j (by omega)), h n (by omega)]
theorem z_M_inj {n : Nat} {s t : Nat → Bool} (hn : n ≤ 32) (h : z_M n s = z_M n t) : ∀ j, j < n → s j = t j := fun j hj => by
  have h1 := z_M_bit (s := s) hn j (by omega)
  have h2 := z_M_bit (s := t) hn j (by omega)
  rw [h, h2] at h1
  rw [show decide (j < n) = true by simpa using hj] at h1
  simpa using h1.symm
theorem z_M_set {n j : Nat} {s : Nat → Bool} (hn : n ≤ 32) (hj : j < n) : z_M n s ||| (1 <<< (nI j &&& 31)) = z_M n (fun i => s i || decide (j = i)) := by
  refine z_msk_uq (n := n) (s := fun i => s i || decide (j = i)) (fun k hk => ?_) (z_M_bit hn)
  rw [z_bit_or _ _ hk, z_M_bit hn k hk, z_bit_shl (by omega) hk]
  by_cases g : j = k
  · subst g; simp [hj]
  · simp [g]
theorem z_M_or {n : Nat} {s t : Nat → Bool} (hn : n ≤ 32) : z_M n s ||| z_M n t = z_M n (fun i => s i || t i) := by
  refine z_msk_uq (n := n) (s := fun i => s i || t i) (fun k hk => ?_) (z_M_bit hn)
  rw [z_bit_or _ _ hk, z_M_bit hn k hk, z_M_bit hn k hk]
  cases decide (k < n) <;> simp
theorem z_M_at {n j : Nat} {s : Nat → Bool} (hn : n ≤ 32) (hj : j < n) : z_bit (z_M n s) j = s j := by
  rw [z_M_bit hn j (by omega), show decide (j < n) = true by simpa using hj, Bool.true_and]
theorem z_M_one {n j : Nat} (hn : n ≤ 32) (hj : j < n) : 1 <<< (nI j &&& 31) = z_M n (fun i => i == j) := by
  refine z_msk_uq (n := n) (s := fun i => i == j) (fun k hk => ?_) (z_M_bit hn)
  rw [z_bit_shl (by omega) hk]
  show decide (j = k) = (decide (k < n) && (k == j))
  by_cases g : j = k
  · subst g; simp [hj]
  · have : (k == j) = false := by simpa using fun q => g q.symm
    rw [this]; simp [g]
theorem z_any_cut {s : Nat → Bool} {n k : Nat} (h : ∀ j, s j = true → j < n) (hk : n ≤ k) : z_any s k = z_any s n := by
  have := @z_any_iff s k
  have h2 := @z_any_iff s n
  cases h3 : z_any s n with
  | true =>
    obtain ⟨i, a, b⟩ := h2.mp h3
    exact this.mpr ⟨i, by omega, b⟩
  | false =>
    rw [z_any_f] at h3 ⊢
    intro i hi
    cases h4 : s i with
    | false => rfl
    | true =>
      have := h i h4
      rw [h3 i this] at h4; cases h4
section
variable {S : z_S} {m : z_m} {p : Nat} {P : z_Pg}
theorem z_fo_set (mm : Nat) (c : Nat → Bool) (L : Nat → Bool) : ∀ n, z_fo (fun i (a : Nat → Bool) => if c i = true then (fun j => a j || decide (mm = j)) else a) n L = fun j => L j || (decide (mm = j) && z_any c n)
  | 0 => by funext j; simp [z_fo, z_any]
  | n + 1 => by
    show (if c n = true then (fun j => z_fo _ n L j || decide (mm = j)) else z_fo _ n L) = _
    rw [z_fo_set mm c L n]
    funext j
    show (if c n = true then (fun j => (L j || (decide (mm = j) && z_any c n)) || decide (mm = j)) else fun j => L j || (decide (mm = j) && z_any c n)) j = (L j || (decide (mm = j) && (z_any c n || c n)))
    by_cases hc : c n = true
    · rw [if_pos hc, hc]
      cases decide (mm = j) <;> cases L j <;> cases z_any c n <;> rfl
    · rw [if_neg hc, show c n = false by simpa using hc, Bool.or_false]
theorem z_famR_e {k i j : Nat} : z_famR P k i j = (z_isc P j (z_hd P k 2) (z_hd P k 3) && z_akin P (z_own P j) (z_own P i)) := rfl
theorem f96_41_sp (hp : z_PS S p) (h : z_cp m p P) (hw : z_wf P) {s : Nat → Bool} (hs : ∀ i, i < z_nm P → s i = true → z_liv P i = true) {mm : Nat} (hm : mm < z_nm P) (hl : z_liv P mm = true) (L : Nat → Bool) (K : Int32) : f96_41 p (z_M (z_nm P) s) K (z_M (z_nm P) L) (nI mm) 0 (z_hp S m) = some (.inl (p, z_M (z_nm P) s, K, z_M (z_nm P) (fun j => L j || (decide (mm = j) && z_any (fun i => s i && z_akin P (z_own P mm) (z_own P i)) (z_nm P))), nI (mm + 1)), z_hp S m) := by
  have h24 := hw.2.2.1
  have h0 := h.2.1.1
  unfold f96_41
  rw [← z_fo_set]
  refine z_fold (fun i (a : Nat → Bool) => (p, z_M (z_nm P) s, K, z_M (z_nm P) a, nI mm, nI i)) (fun i (a : Nat → Bool) => if (s i && z_akin P (z_own P mm) (z_own P i)) = true then (fun j => a j || decide (mm = j)) else a) (fun a => (Sum.inl (p, z_M (z_nm P) s, K, z_M (z_nm P) a, nI (mm + 1)) : (Nat × Int32 × Int32 × Int32 × Int32) ⊕ Int32)) (z_nm P) L 1000000 (by omega) (fun i a hi => ?_) (fun a => ?_)
  · have hb := z_M_at (n := z_nm P) (s := s) (by omega) hi
    dsimp only
    unfold f96_41b f96_88
    cases hsi : s i with
    | false =>
      rw [hsi] at hb
      simp (disch := ((try simp only [true_or, or_true, hp.k, hp.k1, hp.k2, hp.k3, hp.k4, hp.k5, hp.k6, hp.k7, hp.k8, hp.k9, hp.k10, hp.l1, hp.l2, hp.l3, hp.l4, hp.l5, hp.l6, hp.l7, hp.l8, hp.l9, hp.l10]) <;> (try omega))) only [↓reduceIte, ↓z_ite, ↓zR, ↓zB_R, ↓zB_B, ↓zB_ite, ↓zB_gI, ↓zB_pI, ↓zB_pZ, ↓zB_aK, ↓zB_G, ↓zB_lI, ↓zB_lZ, ↓zB_wI, ↓zB_wZ, ↓zB_lIl, ↓zB_wIl, zB_pI, zB_pZ, zB_lI, zB_lZ, zB_wI, zB_wZ, z_addl, z_ladd, z_mull, z_lmul, nI_add, z_subl, Nat.not_lt_zero, z_10, z_01, z_bitc, z_b0, z_b1, ↓zB_Gb, ↓zB_G0, ↓zB_G1, z_eql, z_leq, z_ltl, z_llt, z_eq, z_lt, z_m1lt, hp.k, hp.k1, hp.k2, hp.k3, hp.k4, hp.k5, hp.k6, hp.k7, hp.k8, hp.k9, hp.k10, hp.l1, hp.l2, hp.l3, hp.l4, hp.l5, hp.l6, hp.l7, hp.l8, hp.l9, hp.l10, ↓hp.g0, ↓hp.g1, ↓hp.g2, ↓hp.g3, ↓hp.g4, ↓hp.g5, ↓hp.g6, ↓hp.g7, ↓hp.g8, ↓hp.g9, ↓hp.gb, hp.gb, h0, hi, hb, Bool.false_eq_true, Bool.false_and]
    | true =>
      rw [hsi] at hb
      have om := z_own_e hw hm
      have oi := z_own_e hw hi
      have q1 := (h.2.1.2.2 mm hm hl).1
      have q2 := (h.2.1.2.2 i hi (hs i hi hsi)).1
      have e := f83_sp hp h hw om.1 oi.1
      have e2 := z_M_set (n := z_nm P) (s := a) (by omega) hm
      cases hak : z_akin P (z_own P mm) (z_own P i) with
      | false =>
        rw [hak] at e
        simp (disch := ((try simp only [true_or, or_true, hp.k, hp.k1, hp.k2, hp.k3, hp.k4, hp.k5, hp.k6, hp.k7, hp.k8, hp.k9, hp.k10, hp.l1, hp.l2, hp.l3, hp.l4, hp.l5, hp.l6, hp.l7, hp.l8, hp.l9, hp.l10]) <;> (try omega))) only [↓reduceIte, ↓z_ite, ↓zR, ↓zB_R, ↓zB_B, ↓zB_ite, ↓zB_gI, ↓zB_pI, ↓zB_pZ, ↓zB_aK, ↓zB_G, ↓zB_lI, ↓zB_lZ, ↓zB_wI, ↓zB_wZ, ↓zB_lIl, ↓zB_wIl, zB_pI, zB_pZ, zB_lI, zB_lZ, zB_wI, zB_wZ, z_addl, z_ladd, z_mull, z_lmul, nI_add, z_subl, Nat.not_lt_zero, z_10, z_01, z_bitc, z_b0, z_b1, ↓zB_Gb, ↓zB_G0, ↓zB_G1, z_eql, z_leq, z_ltl, z_llt, z_eq, z_lt, z_m1lt, hp.k, hp.k1, hp.k2, hp.k3, hp.k4, hp.k5, hp.k6, hp.k7, hp.k8, hp.k9, hp.k10, hp.l1, hp.l2, hp.l3, hp.l4, hp.l5, hp.l6, hp.l7, hp.l8, hp.l9, hp.l10, ↓hp.g0, ↓hp.g1, ↓hp.g2, ↓hp.g3, ↓hp.g4, ↓hp.g5, ↓hp.g6, ↓hp.g7, ↓hp.g8, ↓hp.g9, ↓hp.gb, hp.gb, h0, hi, hb, q1, q2, om.2, oi.2, ↓zB_c e, zB_c e, Bool.true_and, Bool.false_eq_true]
      | true =>
        rw [hak] at e
        simp (disch := ((try simp only [true_or, or_true, hp.k, hp.k1, hp.k2, hp.k3, hp.k4, hp.k5, hp.k6, hp.k7, hp.k8, hp.k9, hp.k10, hp.l1, hp.l2, hp.l3, hp.l4, hp.l5, hp.l6, hp.l7, hp.l8, hp.l9, hp.l10]) <;> (try omega))) only [↓reduceIte, ↓z_ite, ↓zR, ↓zB_R, ↓zB_B, ↓zB_ite, ↓zB_gI, ↓zB_pI, ↓zB_pZ, ↓zB_aK, ↓zB_G, ↓zB_lI, ↓zB_lZ, ↓zB_wI, ↓zB_wZ, ↓zB_lIl, ↓zB_wIl, zB_pI, zB_pZ, zB_lI, zB_lZ, zB_wI, zB_wZ, z_addl, z_ladd, z_mull, z_lmul, nI_add, z_subl, Nat.not_lt_zero, z_10, z_01, z_bitc, z_b0, z_b1, ↓zB_Gb, ↓zB_G0, ↓zB_G1, z_eql, z_leq, z_ltl, z_llt, z_eq, z_lt, z_m1lt, hp.k, hp.k1, hp.k2, hp.k3, hp.k4, hp.k5, hp.k6, hp.k7, hp.k8, hp.k9, hp.k10, hp.l1, hp.l2, hp.l3, hp.l4, hp.l5, hp.l6, hp.l7, hp.l8, hp.l9, hp.l10, ↓hp.g0, ↓hp.g1, ↓hp.g2, ↓hp.g3, ↓hp.g4, ↓hp.g5, ↓hp.g6, ↓hp.g7, ↓hp.g8, ↓hp.g9, ↓hp.gb, hp.gb, h0, hi, hb, q1, q2, om.2, oi.2, ↓zB_c e, zB_c e, Bool.true_and, Bool.true_eq_false, e2]
  · dsimp only
    unfold f96_41b f96_94
    simp (disch := ((try simp only [true_or, or_true, hp.k, hp.k1, hp.k2, hp.k3, hp.k4, hp.k5, hp.k6, hp.k7, hp.k8, hp.k9, hp.k10, hp.l1, hp.l2, hp.l3, hp.l4, hp.l5, hp.l6, hp.l7, hp.l8, hp.l9, hp.l10]) <;> (try omega))) only [↓reduceIte, ↓z_ite, ↓zR, ↓zB_R, ↓zB_B, ↓zB_ite, ↓zB_gI, ↓zB_pI, ↓zB_pZ, ↓zB_aK, ↓zB_G, ↓zB_lI, ↓zB_lZ, ↓zB_wI, ↓zB_wZ, ↓zB_lIl, ↓zB_wIl, zB_pI, zB_pZ, zB_lI, zB_lZ, zB_wI, zB_wZ, z_addl, z_ladd, z_mull, z_lmul, nI_add, z_subl, Nat.not_lt_zero, z_10, z_01, z_bitc, z_b0, z_b1, ↓zB_Gb, ↓zB_G0, ↓zB_G1, z_eql, z_leq, z_ltl, z_llt, z_eq, z_lt, z_m1lt, hp.k, hp.k1, hp.k2, hp.k3, hp.k4, hp.k5, hp.k6, hp.k7, hp.k8, hp.k9, hp.k10, hp.l1, hp.l2, hp.l3, hp.l4, hp.l5, hp.l6, hp.l7, hp.l8, hp.l9, hp.l10, ↓hp.g0, ↓hp.g1, ↓hp.g2, ↓hp.g3, ↓hp.g4, ↓hp.g5, ↓hp.g6, ↓hp.g7, ↓hp.g8, ↓hp.g9, ↓hp.gb, hp.gb, h0, Nat.lt_irrefl]
/-- Program.withAkin -/
theorem f96_sp (hp : z_PS S p) (h : z_cp m p P) (hw : z_wf P) {s : Nat → Bool} (hs : ∀ i, i < z_nm P → s i = true → z_liv P i = true) {k : Nat} (hk : k < z_nm P) (hl : z_liv P k = true) : f96 p (z_M (z_nm P) s) (nI k) (z_hp S m) = some (z_M (z_nm P) (z_c1 (z_nm P) (z_famR P k) s), z_hp S m) := by
  have h24 := hw.2.2.1
  have h0 := h.2.1.1
  have hk1 := h.2.1.2.2 k hk hl
  have fin : ∀ n, n ≤ z_nm P → z_fo (fun i (a : Nat → Bool) => if z_isc P i (z_hd P k 2) (z_hd P k 3) = true then (fun j => a j || (decide (i = j) && z_any (fun i' => s i' && z_akin P (z_own P i) (z_own P i')) (z_nm P))) else a) n s = fun j => s j || (decide (j < n) && z_any (fun i => s i && z_famR P k i j) (z_nm P)) := by
    intro n
    induction n with
    | zero => intro _; funext j; simp [z_fo]
    | succ n ih =>
      intro hn
      show (if z_isc P n (z_hd P k 2) (z_hd P k 3) = true then (fun j => z_fo _ n s j || (decide (n = j) && z_any (fun i' => s i' && z_akin P (z_own P n) (z_own P i')) (z_nm P))) else z_fo _ n s) = _
      rw [ih (by omega)]
      funext j
      by_cases g : j = n
      · subst g
        cases hi : z_isc P j (z_hd P k 2) (z_hd P k 3) with
        | true =>
          rw [if_pos rfl]
          simp only [z_famR_e, hi, Bool.true_and]
          simp
        | false =>
          rw [if_neg (by simp)]
          simp only [z_famR_e, hi, Bool.false_and, Bool.and_false]
          have : z_any (fun _ => false) (z_nm P) = false := z_any_f.mpr (fun _ _ => rfl)
          rw [this]; simp
      · have e1 : decide (n = j) = false := decide_eq_false (fun q => g q.symm)
        have e2 : decide (j < n) = decide (j < n + 1) := by
          by_cases q : j < n
          · rw [decide_eq_true q, decide_eq_true (by omega)]
          · rw [decide_eq_false q, decide_eq_false (by omega)]
        split
        · simp only [e1, Bool.false_and, Bool.or_false, e2]
        · simp only [e2]
  unfold f96 f96_5
  refine (z_fold (fun i (a : Nat → Bool) => (p, z_M (z_nm P) s, nI k, z_M (z_nm P) a, nI i)) (fun i (a : Nat → Bool) => if z_isc P i (z_hd P k 2) (z_hd P k 3) = true then (fun j => a j || (decide (i = j) && z_any (fun i' => s i' && z_akin P (z_own P i) (z_own P i')) (z_nm P))) else a) (fun a => z_M (z_nm P) a) (z_nm P) s 1000000 (by omega) (fun i a hi => ?_) (fun a => ?_)).trans ?_
  · have e88 := f88_sp hp h hw hi (z_hd P k 2) (z_hd P k 3)
    dsimp only
    unfold f96_5b f96_94
    cases hi2 : z_isc P i (z_hd P k 2) (z_hd P k 3) with
    | false =>
      rw [hi2] at e88
      simp (disch := ((try simp only [true_or, or_true, hp.k, hp.k1, hp.k2, hp.k3, hp.k4, hp.k5, hp.k6, hp.k7, hp.k8, hp.k9, hp.k10, hp.l1, hp.l2, hp.l3, hp.l4, hp.l5, hp.l6, hp.l7, hp.l8, hp.l9, hp.l10]) <;> (try omega))) only [↓reduceIte, ↓z_ite, ↓zR, ↓zB_R, ↓zB_B, ↓zB_ite, ↓zB_gI, ↓zB_pI, ↓zB_pZ, ↓zB_aK, ↓zB_G, ↓zB_lI, ↓zB_lZ, ↓zB_wI, ↓zB_wZ, ↓zB_lIl, ↓zB_wIl, zB_pI, zB_pZ, zB_lI, zB_lZ, zB_wI, zB_wZ, z_addl, z_ladd, z_mull, z_lmul, nI_add, z_subl, Nat.not_lt_zero, z_10, z_01, z_bitc, z_b0, z_b1, ↓zB_Gb, ↓zB_G0, ↓zB_G1, z_eql, z_leq, z_ltl, z_llt, z_eq, z_lt, z_m1lt, hp.k, hp.k1, hp.k2, hp.k3, hp.k4, hp.k5, hp.k6, hp.k7, hp.k8, hp.k9, hp.k10, hp.l1, hp.l2, hp.l3, hp.l4, hp.l5, hp.l6, hp.l7, hp.l8, hp.l9, hp.l10, ↓hp.g0, ↓hp.g1, ↓hp.g2, ↓hp.g3, ↓hp.g4, ↓hp.g5, ↓hp.g6, ↓hp.g7, ↓hp.g8, ↓hp.g9, ↓hp.gb, hp.gb, h0, hi, hk1.2.1, hk1.2.2.1, ↓zB_c e88, zB_c e88, Bool.false_eq_true]
    | true =>
      rw [hi2] at e88
      have e := f96_41_sp hp h hw hs hi (z_isc_liv hi2) a (nI k)
      simp (disch := ((try simp only [true_or, or_true, hp.k, hp.k1, hp.k2, hp.k3, hp.k4, hp.k5, hp.k6, hp.k7, hp.k8, hp.k9, hp.k10, hp.l1, hp.l2, hp.l3, hp.l4, hp.l5, hp.l6, hp.l7, hp.l8, hp.l9, hp.l10]) <;> (try omega))) only [↓reduceIte, ↓z_ite, ↓zR, ↓zB_R, ↓zB_B, ↓zB_ite, ↓zB_gI, ↓zB_pI, ↓zB_pZ, ↓zB_aK, ↓zB_G, ↓zB_lI, ↓zB_lZ, ↓zB_wI, ↓zB_wZ, ↓zB_lIl, ↓zB_wIl, zB_pI, zB_pZ, zB_lI, zB_lZ, zB_wI, zB_wZ, z_addl, z_ladd, z_mull, z_lmul, nI_add, z_subl, Nat.not_lt_zero, z_10, z_01, z_bitc, z_b0, z_b1, ↓zB_Gb, ↓zB_G0, ↓zB_G1, z_eql, z_leq, z_ltl, z_llt, z_eq, z_lt, z_m1lt, hp.k, hp.k1, hp.k2, hp.k3, hp.k4, hp.k5, hp.k6, hp.k7, hp.k8, hp.k9, hp.k10, hp.l1, hp.l2, hp.l3, hp.l4, hp.l5, hp.l6, hp.l7, hp.l8, hp.l9, hp.l10, ↓hp.g0, ↓hp.g1, ↓hp.g2, ↓hp.g3, ↓hp.g4, ↓hp.g5, ↓hp.g6, ↓hp.g7, ↓hp.g8, ↓hp.g9, ↓hp.gb, hp.gb, h0, hi, hk1.2.1, hk1.2.2.1, ↓zB_c e88, zB_c e88, Bool.true_eq_false]
      exact e
  · dsimp only
    unfold f96_5b f96_100
    simp (disch := ((try simp only [true_or, or_true, hp.k, hp.k1, hp.k2, hp.k3, hp.k4, hp.k5, hp.k6, hp.k7, hp.k8, hp.k9, hp.k10, hp.l1, hp.l2, hp.l3, hp.l4, hp.l5, hp.l6, hp.l7, hp.l8, hp.l9, hp.l10]) <;> (try omega))) only [↓reduceIte, ↓z_ite, ↓zR, ↓zB_R, ↓zB_B, ↓zB_ite, ↓zB_gI, ↓zB_pI, ↓zB_pZ, ↓zB_aK, ↓zB_G, ↓zB_lI, ↓zB_lZ, ↓zB_wI, ↓zB_wZ, ↓zB_lIl, ↓zB_wIl, zB_pI, zB_pZ, zB_lI, zB_lZ, zB_wI, zB_wZ, z_addl, z_ladd, z_mull, z_lmul, nI_add, z_subl, Nat.not_lt_zero, z_10, z_01, z_bitc, z_b0, z_b1, ↓zB_Gb, ↓zB_G0, ↓zB_G1, z_eql, z_leq, z_ltl, z_llt, z_eq, z_lt, z_m1lt, hp.k, hp.k1, hp.k2, hp.k3, hp.k4, hp.k5, hp.k6, hp.k7, hp.k8, hp.k9, hp.k10, hp.l1, hp.l2, hp.l3, hp.l4, hp.l5, hp.l6, hp.l7, hp.l8, hp.l9, hp.l10, ↓hp.g0, ↓hp.g1, ↓hp.g2, ↓hp.g3, ↓hp.g4, ↓hp.g5, ↓hp.g6, ↓hp.g7, ↓hp.g8, ↓hp.g9, ↓hp.gb, hp.gb, h0, Nat.lt_irrefl]
  · rw [fin (z_nm P) (Nat.le_refl _)]; rfl
/-- members of a family are there -/
theorem z_fam_liv {k : Nat} (hk : k < z_nm P) (hl : z_liv P k = true) : ∀ r i, z_ci (z_nm P) (z_famR P k) (fun j => j == k) r i = true → i < z_nm P ∧ z_isc P i (z_hd P k 2) (z_hd P k 3) = true
  | 0, i, h => by
    have : i = k := by simpa [z_ci] using h
    subst this
    refine ⟨hk, ?_⟩
    unfold z_isc; rw [hl]; simp
  | r + 1, i, h => by
    rcases z_c1_t.mp (show z_c1 (z_nm P) (z_famR P k) (z_ci (z_nm P) (z_famR P k) (fun j => j == k) r) i = true from h) with h1 | ⟨h1, j, _, _, h2⟩
    · exact z_fam_liv hk hl r i h1
    · exact ⟨h1, (Bool.and_eq_true_iff.mp h2).1⟩
theorem z_fam_isc {k : Nat} (hk : k < z_nm P) (hl : z_liv P k = true) {i : Nat} (h : z_fam P k i = true) : i < z_nm P ∧ z_isc P i (z_hd P k 2) (z_hd P k 3) = true := z_fam_liv hk hl _ i h
/-- Program.family -/
theorem f95_sp (hp : z_PS S p) (h : z_cp m p P) (hw : z_wf P) {k : Nat} (hk : k < z_nm P) (hl : z_liv P k = true) : f95 p (nI k) (z_hp S m) = some (z_M (z_nm P) (z_fam P k), z_hp S m) := by
  have h24 := hw.2.2.1
  have key : ∀ n r, n = 24 - r → r ≤ 24 → ∀ N, n < N → m_W (fun s => f95_6b (s.1) (s.2.1) (s.2.2.1) (s.2.2.2)) N (p, nI k, z_M (z_nm P) (z_ci (z_nm P) (z_famR P k) (fun j => j == k) r), nI r) (z_hp S m) = some (z_M (z_nm P) (z_fam P k), z_hp S m) := by
    intro n
    induction n with
    | zero =>
      intro r h1 h2 N hN
      obtain ⟨N, rfl⟩ : ∃ N', N = N' + 1 := ⟨N - 1, by omega⟩
      have hr : r = 24 := by omega
      subst hr
      have e : z_ci (z_nm P) (z_famR P k) (fun j => j == k) 24 = z_fam P k := by
        have := z_ci_stay (n := z_nm P) (R := z_famR P k) (s0 := fun j => j == k) (z_nm P) z_clo_c (24 - z_nm P)
        rw [show z_nm P + (24 - z_nm P) = 24 by omega] at this
        exact this
      show m_B (f95_6b p (nI k) _ (nI 24)) _ _ = _
      unfold f95_6b f95_37
      rw [if_neg (by decide), e]; rfl
    | succ n ih =>
      intro r h1 h2 N hN
      obtain ⟨N, rfl⟩ : ∃ N', N = N' + 1 := ⟨N - 1, by omega⟩
      have hr : r < 24 := by omega
      have e := f96_sp hp h hw (s := z_ci (z_nm P) (z_famR P k) (fun j => j == k) r) (fun i hi h => z_isc_liv (z_fam_liv hk hl r i h).2) hk hl
      show m_B (f95_6b p (nI k) _ (nI r)) _ _ = _
      have lt : nI r < 24 := (nI_ltI (a := r) (b := 24) (by omega) (by decide)).mpr hr
      by_cases g : z_M (z_nm P) (z_c1 (z_nm P) (z_famR P k) (z_ci (z_nm P) (z_famR P k) (fun j => j == k) r)) = z_M (z_nm P) (z_ci (z_nm P) (z_famR P k) (fun j => j == k) r)
      · have e2 : f95_6b p (nI k) (z_M (z_nm P) (z_ci (z_nm P) (z_famR P k) (fun j => j == k) r)) (nI r) (z_hp S m) = some (.inr (z_M (z_nm P) (z_ci (z_nm P) (z_famR P k) (fun j => j == k) r)), z_hp S m) := by
          unfold f95_6b f95_26
          rw [if_pos lt, zB_aK hp.k, zB_c e, if_pos g]; rfl
        rw [zB_c e2]
        show some (_, _) = _
        have hcl : z_cls (z_nm P) (z_famR P k) (z_ci (z_nm P) (z_famR P k) (fun j => j == k) r) := z_cls_2 (fun j hj => z_M_inj (by omega) g j hj)
        have : z_ci (z_nm P) (z_famR P k) (fun j => j == k) r = z_fam P k := by
          rcases Nat.lt_or_ge r (z_nm P) with q | q
          · have := z_ci_stay r hcl (z_nm P - r)
            rw [show r + (z_nm P - r) = z_nm P by omega] at this
            exact this.symm
          · have := z_ci_stay (n := z_nm P) (R := z_famR P k) (s0 := fun j => j == k) (z_nm P) z_clo_c (r - z_nm P)
            rw [show z_nm P + (r - z_nm P) = r by omega] at this
            exact this
        rw [this]
      · have e2 : f95_6b p (nI k) (z_M (z_nm P) (z_ci (z_nm P) (z_famR P k) (fun j => j == k) r)) (nI r) (z_hp S m) = some (.inl (p, nI k, z_M (z_nm P) (z_ci (z_nm P) (z_famR P k) (fun j => j == k) (r + 1)), nI (r + 1)), z_hp S m) := by
          unfold f95_6b
          rw [if_pos lt, zB_aK hp.k, zB_c e, if_neg g, show nI r + 1 = nI (r + 1) from nI_add r 1]; rfl
        rw [zB_c e2]
        exact ih (r + 1) (by omega) (by omega) N (by omega)
  unfold f95 f95_6
  rw [z_M_one (n := z_nm P) (by omega) hk]
  exact key 24 0 rfl (by decide) 1000000 (by decide)
/-- a name is free for a family -/
def z_free (P : z_Pg) (s : Nat → Bool) (name cnt : Int32) : Bool := !z_any (fun j => s j && z_ham P (z_own P j) name cnt) (z_nm P)
/-- Program.isFree -/
theorem f97_sp (hp : z_PS S p) (h : z_cp m p P) (hw : z_wf P) {s : Nat → Bool} (hs : ∀ i, i < z_nm P → s i = true → z_liv P i = true) (name cnt : Int32) : f97 p (z_M (z_nm P) s) name cnt (z_hp S m) = some (z_b (z_free P s name cnt), z_hp S m) := by
  have h24 := hw.2.2.1
  have h0 := h.2.1.1
  unfold f97 f97_3
  refine (z_search (fun i => (p, z_M (z_nm P) s, name, cnt, nI i)) (fun j => s j && z_ham P (z_own P j) name cnt) (fun _ => 0) 1 (z_nm P) 0 1000000 (by omega) (fun i _ hi => ?_) ?_).trans ?_
  · have hi : i < z_nm P := by omega
    have hb := z_M_at (n := z_nm P) (s := s) (by omega) hi
    dsimp only
    unfold f97_3b f97_40 f97_38
    cases hsi : s i with
    | false =>
      rw [hsi] at hb
      simp (disch := ((try simp only [true_or, or_true, hp.k, hp.k1, hp.k2, hp.k3, hp.k4, hp.k5, hp.k6, hp.k7, hp.k8, hp.k9, hp.k10, hp.l1, hp.l2, hp.l3, hp.l4, hp.l5, hp.l6, hp.l7, hp.l8, hp.l9, hp.l10]) <;> (try omega))) only [↓reduceIte, ↓z_ite, ↓zR, ↓zB_R, ↓zB_B, ↓zB_ite, ↓zB_gI, ↓zB_pI, ↓zB_pZ, ↓zB_aK, ↓zB_G, ↓zB_lI, ↓zB_lZ, ↓zB_wI, ↓zB_wZ, ↓zB_lIl, ↓zB_wIl, zB_pI, zB_pZ, zB_lI, zB_lZ, zB_wI, zB_wZ, z_addl, z_ladd, z_mull, z_lmul, nI_add, z_subl, Nat.not_lt_zero, z_10, z_01, z_bitc, z_b0, z_b1, ↓zB_Gb, ↓zB_G0, ↓zB_G1, z_eql, z_leq, z_ltl, z_llt, z_eq, z_lt, z_m1lt, hp.k, hp.k1, hp.k2, hp.k3, hp.k4, hp.k5, hp.k6, hp.k7, hp.k8, hp.k9, hp.k10, hp.l1, hp.l2, hp.l3, hp.l4, hp.l5, hp.l6, hp.l7, hp.l8, hp.l9, hp.l10, ↓hp.g0, ↓hp.g1, ↓hp.g2, ↓hp.g3, ↓hp.g4, ↓hp.g5, ↓hp.g6, ↓hp.g7, ↓hp.g8, ↓hp.g9, ↓hp.gb, hp.gb, h0, hi, hb, Bool.false_eq_true, Bool.false_and]
    | true =>
      rw [hsi] at hb
      have oi := z_own_e hw hi
      have q2 := (h.2.1.2.2 i hi (hs i hi hsi)).1
      have e := f91_sp hp h hw oi.1 name cnt
      cases hh : z_ham P (z_own P i) name cnt with
      | false =>
        rw [hh] at e
        simp (disch := ((try simp only [true_or, or_true, hp.k, hp.k1, hp.k2, hp.k3, hp.k4, hp.k5, hp.k6, hp.k7, hp.k8, hp.k9, hp.k10, hp.l1, hp.l2, hp.l3, hp.l4, hp.l5, hp.l6, hp.l7, hp.l8, hp.l9, hp.l10]) <;> (try omega))) only [↓reduceIte, ↓z_ite, ↓zR, ↓zB_R, ↓zB_B, ↓zB_ite, ↓zB_gI, ↓zB_pI, ↓zB_pZ, ↓zB_aK, ↓zB_G, ↓zB_lI, ↓zB_lZ, ↓zB_wI, ↓zB_wZ, ↓zB_lIl, ↓zB_wIl, zB_pI, zB_pZ, zB_lI, zB_lZ, zB_wI, zB_wZ, z_addl, z_ladd, z_mull, z_lmul, nI_add, z_subl, Nat.not_lt_zero, z_10, z_01, z_bitc, z_b0, z_b1, ↓zB_Gb, ↓zB_G0, ↓zB_G1, z_eql, z_leq, z_ltl, z_llt, z_eq, z_lt, z_m1lt, hp.k, hp.k1, hp.k2, hp.k3, hp.k4, hp.k5, hp.k6, hp.k7, hp.k8, hp.k9, hp.k10, hp.l1, hp.l2, hp.l3, hp.l4, hp.l5, hp.l6, hp.l7, hp.l8, hp.l9, hp.l10, ↓hp.g0, ↓hp.g1, ↓hp.g2, ↓hp.g3, ↓hp.g4, ↓hp.g5, ↓hp.g6, ↓hp.g7, ↓hp.g8, ↓hp.g9, ↓hp.gb, hp.gb, h0, hi, hb, q2, oi.2, ↓zB_c e, zB_c e, Bool.true_and, Bool.false_eq_true]
      | true =>
        rw [hh] at e
        simp (disch := ((try simp only [true_or, or_true, hp.k, hp.k1, hp.k2, hp.k3, hp.k4, hp.k5, hp.k6, hp.k7, hp.k8, hp.k9, hp.k10, hp.l1, hp.l2, hp.l3, hp.l4, hp.l5, hp.l6, hp.l7, hp.l8, hp.l9, hp.l10]) <;> (try omega))) only [↓reduceIte, ↓z_ite, ↓zR, ↓zB_R, ↓zB_B, ↓zB_ite, ↓zB_gI, ↓zB_pI, ↓zB_pZ, ↓zB_aK, ↓zB_G, ↓zB_lI, ↓zB_lZ, ↓zB_wI, ↓zB_wZ, ↓zB_lIl, ↓zB_wIl, zB_pI, zB_pZ, zB_lI, zB_lZ, zB_wI, zB_wZ, z_addl, z_ladd, z_mull, z_lmul, nI_add, z_subl, Nat.not_lt_zero, z_10, z_01, z_bitc, z_b0, z_b1, ↓zB_Gb, ↓zB_G0, ↓zB_G1, z_eql, z_leq, z_ltl, z_llt, z_eq, z_lt, z_m1lt, hp.k, hp.k1, hp.k2, hp.k3, hp.k4, hp.k5, hp.k6, hp.k7, hp.k8, hp.k9, hp.k10, hp.l1, hp.l2, hp.l3, hp.l4, hp.l5, hp.l6, hp.l7, hp.l8, hp.l9, hp.l10, ↓hp.g0, ↓hp.g1, ↓hp.g2, ↓hp.g3, ↓hp.g4, ↓hp.g5, ↓hp.g6, ↓hp.g7, ↓hp.g8, ↓hp.g9, ↓hp.gb, hp.gb, h0, hi, hb, q2, oi.2, ↓zB_c e, zB_c e, Bool.true_and, Bool.true_eq_false]
  · dsimp only
    unfold f97_3b f97_46
    simp (disch := ((try simp only [true_or, or_true, hp.k, hp.k1, hp.k2, hp.k3, hp.k4, hp.k5, hp.k6, hp.k7, hp.k8, hp.k9, hp.k10, hp.l1, hp.l2, hp.l3, hp.l4, hp.l5, hp.l6, hp.l7, hp.l8, hp.l9, hp.l10]) <;> (try omega))) only [↓reduceIte, ↓z_ite, ↓zR, ↓zB_R, ↓zB_B, ↓zB_ite, ↓zB_gI, ↓zB_pI, ↓zB_pZ, ↓zB_aK, ↓zB_G, ↓zB_lI, ↓zB_lZ, ↓zB_wI, ↓zB_wZ, ↓zB_lIl, ↓zB_wIl, zB_pI, zB_pZ, zB_lI, zB_lZ, zB_wI, zB_wZ, z_addl, z_ladd, z_mull, z_lmul, nI_add, z_subl, Nat.not_lt_zero, z_10, z_01, z_bitc, z_b0, z_b1, ↓zB_Gb, ↓zB_G0, ↓zB_G1, z_eql, z_leq, z_ltl, z_llt, z_eq, z_lt, z_m1lt, hp.k, hp.k1, hp.k2, hp.k3, hp.k4, hp.k5, hp.k6, hp.k7, hp.k8, hp.k9, hp.k10, hp.l1, hp.l2, hp.l3, hp.l4, hp.l5, hp.l6, hp.l7, hp.l8, hp.l9, hp.l10, ↓hp.g0, ↓hp.g1, ↓hp.g2, ↓hp.g3, ↓hp.g4, ↓hp.g5, ↓hp.g6, ↓hp.g7, ↓hp.g8, ↓hp.g9, ↓hp.gb, hp.gb, h0, Nat.zero_add, Nat.lt_irrefl]
  · rw [z_sch_nb]; rfl
end
