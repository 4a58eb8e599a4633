-- deps: 90.74.in3
/-! a call written out: the class, all of it -/
section
variable {S : z_S} {m : z_m} {p q0 : Nat} {P : z_Pg} {A : z_A}
theorem z_n1_c (P : z_Pg) (k q : Nat) : z_n1 P k q = -1 ∨ ∃ t, t < 16 ∧ z_n1 P k q = nI t := by
  rcases z_fn_c (z_inS P k q) with ⟨h, _⟩ | ⟨n, a, b, _⟩
  · exact Or.inl h
  · exact Or.inr ⟨n, a, b⟩
theorem z_n2_c (P : z_Pg) (k q : Nat) : z_n2 P k q = -1 ∨ ∃ t, t < 16 ∧ z_n2 P k q = nI t := by
  rcases z_fn_c (fun n => nI n == z_n1 P k q || z_inS P k q n) with ⟨h, _⟩ | ⟨n, a, b, _⟩
  · exact Or.inl h
  · exact Or.inr ⟨n, a, b⟩
/-- the names that are not needed don't matter -/
theorem z_inD_cg (hw : z_wf P) {k i q ar : Nat} (hq : q < z_nm P) (hlen : (z_bd P q).length ≤ 192) (hc : z_cnt P q = ar) {n1 n2 n1' n2' : Int32} (h1 : 0 < ar → n1 = n1') (h2 : 1 < ar → n2 = n2') : z_inD P k i q ar n1 n2 = z_inD P k i q ar n1' n2' := by
  unfold z_inD
  rw [z_inB_cg (n1' := n1') (n2' := n2') hw hq hlen (fun g => h1 (by omega)) (fun g => h2 (by omega))]
  by_cases g1 : 0 < ar
  · rw [if_pos g1, if_pos g1, h1 g1]
    by_cases g2 : 1 < ar
    · rw [if_pos g2, if_pos g2, h2 g2]
    · rw [if_neg g2, if_neg g2]
  · rw [if_neg g1, if_neg g1, if_neg (by omega), if_neg (by omega)]
/-- Inliner.replaceCall -/
theorem f36_sp (hpre : z_Pre S m p q0 P) (hw : z_wf P) (h60 : z_b60 P) (hr : z_wr P = -1) {k i : Nat} (hk : k < z_nm P) (hlk : z_liv P k = true) (hi : i < (z_bd P k).length) : ∃ m', f36 29 p q0 (nI k) (nI i) (z_hp S m) = some (z_inR P k i, z_hp S m') ∧ z_Post m m' q0 (z_inR P k i) (z_inQ P k i) := by
  obtain ⟨⟨hX, hp, hq⟩, ⟨lo, lo2, hpq⟩, ⟨hcp, hT⟩, ⟨hcq, h14⟩, hs22, hs30, hs38, hs54⟩ := hpre
  have h24 := hw.2.2.1
  have h6 := hw.1.1
  have hR := z_RT_wr hw hr
  have hpk := hp.k
  have hbp := hp.B (k := k) (by omega)
  have hbpk := hbp.k
  have hb := hcp.2.2.2 k hk hlk
  have hB := hw.2.2.2.2.1 k hk
  have hlen := h60 k hk
  obtain ⟨n1, n2, n3⟩ := hb.2.2.2.2 i hi
  have e18 := f18_sp hbp hb hB.1 hi
  have stay : ∀ r, r < 0 → f36 29 p q0 (nI k) (nI i) (z_hp S m) = some (r, z_hp S m) → z_inR P k i = r → ∃ m', f36 29 p q0 (nI k) (nI i) (z_hp S m) = some (z_inR P k i, z_hp S m') ∧ z_Post m m' q0 (z_inR P k i) (z_inQ P k i) := fun r hr e er => by
    rw [er]
    exact ⟨m, e, fun g => absurd hr g, hcq.2.2.1, z_oF.refl q0 m⟩
  by_cases k7 : ¬ z_k (z_bd P k) i = 7
  · refine stay (-10) (by decide) ?_ (if_pos (by rw [show (z_k (z_bd P k) i == 7) = false by simpa using k7]; rfl))
    unfold f36 f36_31
    simp (disch := ((try simp only [true_or, or_true, hp.k, hp.k1, hp.k2, hp.k3, hp.k4, hp.k5, hp.k6, hp.k7, hp.k8, hp.k9, hp.k10, hp.l1, hp.l2, hp.l3, hp.l4, hp.l5, hp.l6, hp.l7, hp.l8, hp.l9, hp.l10, hbp.k, hbp.k1, hbp.k2, hbp.k3, hbp.k4, hbp.k5, hbp.k6, hbp.l1, hbp.l2, hbp.l3, hbp.l4, hbp.l5, hbp.l6, hbpk]) <;> (try omega))) only [↓reduceIte, ↓z_ite, ↓zR, ↓zB_R, ↓zB_B, ↓zB_ite, ↓zB_gI, ↓zB_pI, ↓zB_pZ, ↓zB_aK, ↓zB_G, ↓zB_lI, ↓zB_lZ, ↓zB_wI, ↓zB_wZ, ↓zB_lIl, ↓zB_wIl, zB_pI, zB_pZ, zB_lI, zB_lZ, zB_wI, zB_wZ, z_addl, z_ladd, z_mull, z_lmul, nI_add, z_subl, Nat.not_lt_zero, z_10, z_01, z_bitc, z_b0, z_b1, ↓zB_Gb, ↓zB_G0, ↓zB_G1, z_eql, z_leq, z_ltl, z_llt, z_eq, z_lt, z_m1lt, hp.k, hp.k1, hp.k2, hp.k3, hp.k4, hp.k5, hp.k6, hp.k7, hp.k8, hp.k9, hp.k10, hp.l1, hp.l2, hp.l3, hp.l4, hp.l5, hp.l6, hp.l7, hp.l8, hp.l9, hp.l10, hbp.k, hbp.k1, hbp.k2, hbp.k3, hbp.k4, hbp.k5, hbp.k6, hbp.l1, hbp.l2, hbp.l3, hbp.l4, hbp.l5, hbp.l6, hbpk, ↓hp.g0, ↓hp.g1, ↓hp.g2, ↓hp.g3, ↓hp.g4, ↓hp.g5, ↓hp.g6, ↓hp.g7, ↓hp.g8, ↓hp.g9, ↓hp.gb, hp.gb, ↓hbp.g0, ↓hbp.g1, ↓hbp.g2, ↓hbp.g3, ↓hbp.g4, ↓hbp.g5, h24, hk, hi, n1, k7]
  have k7 := Classical.not_not.mp k7
  cases hTT : z_isT (z_bd P k) i with
  | false =>
    rw [hTT] at e18
    refine stay (-10) (by decide) ?_ (if_pos (by rw [hTT, Bool.and_false]))
    unfold f36 f36_31
    simp (disch := ((try simp only [true_or, or_true, hp.k, hp.k1, hp.k2, hp.k3, hp.k4, hp.k5, hp.k6, hp.k7, hp.k8, hp.k9, hp.k10, hp.l1, hp.l2, hp.l3, hp.l4, hp.l5, hp.l6, hp.l7, hp.l8, hp.l9, hp.l10, hbp.k, hbp.k1, hbp.k2, hbp.k3, hbp.k4, hbp.k5, hbp.k6, hbp.l1, hbp.l2, hbp.l3, hbp.l4, hbp.l5, hbp.l6, hbpk]) <;> (try omega))) only [↓reduceIte, ↓z_ite, ↓zR, ↓zB_R, ↓zB_B, ↓zB_ite, ↓zB_gI, ↓zB_pI, ↓zB_pZ, ↓zB_aK, ↓zB_G, ↓zB_lI, ↓zB_lZ, ↓zB_wI, ↓zB_wZ, ↓zB_lIl, ↓zB_wIl, zB_pI, zB_pZ, zB_lI, zB_lZ, zB_wI, zB_wZ, z_addl, z_ladd, z_mull, z_lmul, nI_add, z_subl, Nat.not_lt_zero, z_10, z_01, z_bitc, z_b0, z_b1, ↓zB_Gb, ↓zB_G0, ↓zB_G1, z_eql, z_leq, z_ltl, z_llt, z_eq, z_lt, z_m1lt, hp.k, hp.k1, hp.k2, hp.k3, hp.k4, hp.k5, hp.k6, hp.k7, hp.k8, hp.k9, hp.k10, hp.l1, hp.l2, hp.l3, hp.l4, hp.l5, hp.l6, hp.l7, hp.l8, hp.l9, hp.l10, hbp.k, hbp.k1, hbp.k2, hbp.k3, hbp.k4, hbp.k5, hbp.k6, hbp.l1, hbp.l2, hbp.l3, hbp.l4, hbp.l5, hbp.l6, hbpk, ↓hp.g0, ↓hp.g1, ↓hp.g2, ↓hp.g3, ↓hp.g4, ↓hp.g5, ↓hp.g6, ↓hp.g7, ↓hp.g8, ↓hp.g9, ↓hp.gb, hp.gb, ↓hbp.g0, ↓hbp.g1, ↓hbp.g2, ↓hbp.g3, ↓hbp.g4, ↓hbp.g5, h24, hk, hi, n1, k7, ↓zB_c e18, zB_c e18]
  | true =>
    rw [hTT] at e18
    have g0 : ¬ (z_k (z_bd P k) i == 7 && z_isT (z_bd P k) i) = false := by rw [k7, hTT]; decide
    have ho := z_own_e hw hk
    obtain ⟨o1, o2, o3, _⟩ := hcp.2.1.2.2 k hk hlk
    rw [ho.2] at o1
    obtain ⟨c1, c2, c3⟩ := z_call_q hw hk (hR k hk hlk) hi k7
    have ca := z_call_cnt hw hk (hR k hk hlk) hi k7
    generalize hqq : z_cq (z_Bd P k) i = q at c1 c2 c3 ca
    have hcq2 : z_cnt P q ≤ 2 := (hw.2.2.2.1 q c2).2.2.2.1.1
    rw [z_c3 hw c2] at ca
    generalize har : z_cnt P q = ar at ca hcq2
    have ca : z_a (z_bd P k) i = nI ar := ca.symm
    have hac : (z_a (z_bd P k) i).toNatClampNeg = ar := by rw [ca, nI_clamp (by omega)]
    have hpp : z_p (z_bd P k) i = 1 + ar := by
      unfold z_p z_pn
      rw [k7, ca, nI_clamp (by omega)]; simp
    rw [hpp] at n3
    have esub1 : nI (1 + ar) - 1 = nI ar := by
      show nI (1 + ar) - nI 1 = nI ar
      rw [pk_sub (by omega), Nat.add_sub_cancel_left]
    have e92 := f92_sp hp hcp hw ho.1 (z_v (z_bd P k) i) (nI ar)
    have hBrow : m (z_bi p k + 6) i = nI (2000 + q) := by
      have := ((hT k hk hlk).2 i hi).2
      rw [this]; exact c1
    have esub : nI (2000 + q) - 2000 = nI q := by
      rw [show (2000 : Int32) = nI 2000 from rfl, pk_sub (by omega), Nat.add_sub_cancel_left]
    have e103 := f103_sp hp hcp hw hR hT c2 c3
    have hbit := z_M_at (n := z_nm P) (s := z_rch P q) (by omega) c2
    have a1 := f102_sp hp hcp hw hk hlk
    have a2 := f102_sp hp hcp hw c2 c3
    have eor : z_M 16 (z_has P k) ||| z_M 16 (z_has P q) = z_M 16 (z_inS P k q) := z_M_or (by decide)
    have eR : z_inR P k i = if z_hmb P (z_own P k) (z_v (z_bd P k) i) (nI ar) = true then -3 else if z_rch P q q = true then -4 else if 0 < ar ∧ z_n1 P k q = -1 then -6 else if 1 < ar ∧ z_n2 P k q = -1 then -6 else if ¬ z_wr (z_sM P k (z_hd P k) (z_inN P k i)) = -1 then -8 else if 60 < (z_inN P k i).length then -6 else nI (z_inN P k i).length := by
      unfold z_inR
      rw [if_neg g0, ca, hqq, nI_clamp (by omega)]
    have eN : z_inN P k i = z_inD P k i q ar (z_n1 P k q) (z_n2 P k q) := by unfold z_inN; rw [hqq, hac]
    by_cases y1 : z_hmb P (z_own P k) (z_v (z_bd P k) i) (nI ar) = true
    · refine stay (-3) (by decide) ?_ (by rw [eR, if_pos y1])
      rw [y1] at e92
      unfold f36
      simp (disch := ((try simp only [true_or, or_true, hp.k, hp.k1, hp.k2, hp.k3, hp.k4, hp.k5, hp.k6, hp.k7, hp.k8, hp.k9, hp.k10, hp.l1, hp.l2, hp.l3, hp.l4, hp.l5, hp.l6, hp.l7, hp.l8, hp.l9, hp.l10, hbp.k, hbp.k1, hbp.k2, hbp.k3, hbp.k4, hbp.k5, hbp.k6, hbp.l1, hbp.l2, hbp.l3, hbp.l4, hbp.l5, hbp.l6, hbpk, hpk]) <;> (try omega))) only [↓reduceIte, ↓z_ite, ↓zR, ↓zB_R, ↓zB_B, ↓zB_ite, ↓zB_gI, ↓zB_pI, ↓zB_pZ, ↓zB_aK, ↓zB_G, ↓zB_lI, ↓zB_lZ, ↓zB_wI, ↓zB_wZ, ↓zB_lIl, ↓zB_wIl, zB_pI, zB_pZ, zB_lI, zB_lZ, zB_wI, zB_wZ, z_addl, z_ladd, z_mull, z_lmul, nI_add, z_subl, Nat.not_lt_zero, z_10, z_01, z_bitc, z_b0, z_b1, ↓zB_Gb, ↓zB_G0, ↓zB_G1, z_eql, z_leq, z_ltl, z_llt, z_eq, z_lt, z_m1lt, hp.k, hp.k1, hp.k2, hp.k3, hp.k4, hp.k5, hp.k6, hp.k7, hp.k8, hp.k9, hp.k10, hp.l1, hp.l2, hp.l3, hp.l4, hp.l5, hp.l6, hp.l7, hp.l8, hp.l9, hp.l10, hbp.k, hbp.k1, hbp.k2, hbp.k3, hbp.k4, hbp.k5, hbp.k6, hbp.l1, hbp.l2, hbp.l3, hbp.l4, hbp.l5, hbp.l6, hbpk, hpk, ↓hp.g0, ↓hp.g1, ↓hp.g2, ↓hp.g3, ↓hp.g4, ↓hp.g5, ↓hp.g6, ↓hp.g7, ↓hp.g8, ↓hp.g9, ↓hp.gb, hp.gb, ↓hbp.g0, ↓hbp.g1, ↓hbp.g2, ↓hbp.g3, ↓hbp.g4, ↓hbp.g5, h24, hk, hi, n1, k7, ↓zB_c e18, zB_c e18, Bool.true_eq_false, n2, n3, o1, esub1, ↓zB_c e92, zB_c e92]
    have y1' : z_hmb P (z_own P k) (z_v (z_bd P k) i) (nI ar) = false := by simpa using y1
    rw [y1'] at e92
    by_cases y2 : z_rch P q q = true
    · refine stay (-4) (by decide) ?_ (by rw [eR, if_neg y1, if_pos y2])
      rw [y2] at hbit
      unfold f36
      simp (disch := ((try simp only [true_or, or_true, hp.k, hp.k1, hp.k2, hp.k3, hp.k4, hp.k5, hp.k6, hp.k7, hp.k8, hp.k9, hp.k10, hp.l1, hp.l2, hp.l3, hp.l4, hp.l5, hp.l6, hp.l7, hp.l8, hp.l9, hp.l10, hbp.k, hbp.k1, hbp.k2, hbp.k3, hbp.k4, hbp.k5, hbp.k6, hbp.l1, hbp.l2, hbp.l3, hbp.l4, hbp.l5, hbp.l6, hbpk, hpk]) <;> (try omega))) only [↓reduceIte, ↓z_ite, ↓zR, ↓zB_R, ↓zB_B, ↓zB_ite, ↓zB_gI, ↓zB_pI, ↓zB_pZ, ↓zB_aK, ↓zB_G, ↓zB_lI, ↓zB_lZ, ↓zB_wI, ↓zB_wZ, ↓zB_lIl, ↓zB_wIl, zB_pI, zB_pZ, zB_lI, zB_lZ, zB_wI, zB_wZ, z_addl, z_ladd, z_mull, z_lmul, nI_add, z_subl, Nat.not_lt_zero, z_10, z_01, z_bitc, z_b0, z_b1, ↓zB_Gb, ↓zB_G0, ↓zB_G1, z_eql, z_leq, z_ltl, z_llt, z_eq, z_lt, z_m1lt, hp.k, hp.k1, hp.k2, hp.k3, hp.k4, hp.k5, hp.k6, hp.k7, hp.k8, hp.k9, hp.k10, hp.l1, hp.l2, hp.l3, hp.l4, hp.l5, hp.l6, hp.l7, hp.l8, hp.l9, hp.l10, hbp.k, hbp.k1, hbp.k2, hbp.k3, hbp.k4, hbp.k5, hbp.k6, hbp.l1, hbp.l2, hbp.l3, hbp.l4, hbp.l5, hbp.l6, hbpk, hpk, ↓hp.g0, ↓hp.g1, ↓hp.g2, ↓hp.g3, ↓hp.g4, ↓hp.g5, ↓hp.g6, ↓hp.g7, ↓hp.g8, ↓hp.g9, ↓hp.gb, hp.gb, ↓hbp.g0, ↓hbp.g1, ↓hbp.g2, ↓hbp.g3, ↓hbp.g4, ↓hbp.g5, h24, hk, hi, n1, k7, ↓zB_c e18, zB_c e18, Bool.true_eq_false, n2, n3, o1, esub1, ↓zB_c e92, zB_c e92, hBrow, esub, ↓zB_c e103, zB_c e103, hbit]
    have y2' : z_rch P q q = false := by simpa using y2
    rw [y2'] at hbit
    have e175 := f175_sp (S := S) (m := m) (z_inS P k q)
    have e175 : f175 (z_M 16 (z_inS P k q)) (z_hp S m) = some (z_n1 P k q, z_hp S m) := e175
    have hlq := h60 q c2
    -- with the names that are given
    have fin : ∀ b1 b2 t1 t2, t1 < 16 → t2 < 16 → f36 29 p q0 (nI k) (nI i) (z_hp S m) = f36_186 29 p q0 (nI k) (nI i) (z_bi p k) (nI ar) b1 b2 (z_hp S m) → (0 < ar → b1 = nI t1 ∧ b1 = z_n1 P k q) → (1 < ar → b2 = nI t2 ∧ b2 = z_n2 P k q) → ∃ m', f36 29 p q0 (nI k) (nI i) (z_hp S m) = some (z_inR P k i, z_hp S m') ∧ z_Post m m' q0 (z_inR P k i) (z_inQ P k i) := by
      intro b1 b2 t1 t2 ht1 ht2 est hb1 hb2
      have eD : z_inD P k i q ar b1 b2 = z_inD P k i q ar (nI t1) (nI t2) := z_inD_cg hw c2 (by omega) har (fun g => (hb1 g).1) (fun g => (hb2 g).1)
      have eD2 : z_inN P k i = z_inD P k i q ar b1 b2 := by rw [eN]; exact z_inD_cg hw c2 (by omega) har (fun g => (hb1 g).2.symm) (fun g => (hb2 g).2.symm)
      have hD : z_wB (z_nc P) (z_inD P k i q ar b1 b2) := by rw [eD]; exact z_inD_wB hw hk hi c2 ht1 ht2 (by omega) hcq2
      obtain ⟨m', r, e, hrr, hpost⟩ := f36_186_sp hX hp hq lo lo2 hcp hT hcq h14 hs30 hw hk hlk hi c2 c3 c1 hpp hcq2 hD
      have n6a : ¬ (0 < ar ∧ z_n1 P k q = -1) := fun g => by
        obtain ⟨x1, x2⟩ := hb1 g.1
        rw [← x2, x1] at g
        exact z_nI_m1 (d := t1) (by omega) g.2
      have n6b : ¬ (1 < ar ∧ z_n2 P k q = -1) := fun g => by
        obtain ⟨x1, x2⟩ := hb2 g.1
        rw [← x2, x1] at g
        exact z_nI_m1 (d := t2) (by omega) g.2
      have er : z_inR P k i = r := by
        rw [eR, if_neg y1, if_neg y2, if_neg n6a, if_neg n6b, eD2]
        rcases hrr with ⟨rfl, hno⟩ | ⟨hyes, rfl⟩
        · rw [if_pos (fun g => hno ((z_wr_body hw hr hk hlk _).mp g))]
        · rw [if_neg (fun g => g ((z_wr_body hw hr hk hlk _).mpr hyes))]
      refine ⟨m', by rw [est, er]; exact e, ?_⟩
      rw [er]
      unfold z_inQ
      rw [eD2]; exact hpost
    have c3' : ar = 0 ∨ ar = 1 ∨ ar = 2 := by omega
    rcases c3' with r0 | r1 | r2
    · subst r0
      refine fin (-1) (-1) 0 0 (by decide) (by decide) ?_ (fun g => absurd g (by decide)) (fun g => absurd g (by decide))
      unfold f36 f36_132 f36_158 f36_171
      simp (disch := ((try simp only [true_or, or_true, hp.k, hp.k1, hp.k2, hp.k3, hp.k4, hp.k5, hp.k6, hp.k7, hp.k8, hp.k9, hp.k10, hp.l1, hp.l2, hp.l3, hp.l4, hp.l5, hp.l6, hp.l7, hp.l8, hp.l9, hp.l10, hbp.k, hbp.k1, hbp.k2, hbp.k3, hbp.k4, hbp.k5, hbp.k6, hbp.l1, hbp.l2, hbp.l3, hbp.l4, hbp.l5, hbp.l6, hbpk, hpk]) <;> (try omega))) only [↓reduceIte, ↓z_ite, ↓zR, ↓zB_R, ↓zB_B, ↓zB_ite, ↓zB_gI, ↓zB_pI, ↓zB_pZ, ↓zB_aK, ↓zB_G, ↓zB_lI, ↓zB_lZ, ↓zB_wI, ↓zB_wZ, ↓zB_lIl, ↓zB_wIl, zB_pI, zB_pZ, zB_lI, zB_lZ, zB_wI, zB_wZ, z_addl, z_ladd, z_mull, z_lmul, nI_add, z_subl, Nat.not_lt_zero, z_10, z_01, z_bitc, z_b0, z_b1, ↓zB_Gb, ↓zB_G0, ↓zB_G1, z_eql, z_leq, z_ltl, z_llt, z_eq, z_lt, z_m1lt, hp.k, hp.k1, hp.k2, hp.k3, hp.k4, hp.k5, hp.k6, hp.k7, hp.k8, hp.k9, hp.k10, hp.l1, hp.l2, hp.l3, hp.l4, hp.l5, hp.l6, hp.l7, hp.l8, hp.l9, hp.l10, hbp.k, hbp.k1, hbp.k2, hbp.k3, hbp.k4, hbp.k5, hbp.k6, hbp.l1, hbp.l2, hbp.l3, hbp.l4, hbp.l5, hbp.l6, hbpk, hpk, ↓hp.g0, ↓hp.g1, ↓hp.g2, ↓hp.g3, ↓hp.g4, ↓hp.g5, ↓hp.g6, ↓hp.g7, ↓hp.g8, ↓hp.g9, ↓hp.gb, hp.gb, ↓hbp.g0, ↓hbp.g1, ↓hbp.g2, ↓hbp.g3, ↓hbp.g4, ↓hbp.g5, h24, hk, hi, n1, k7, ↓zB_c e18, zB_c e18, Bool.true_eq_false, n2, n3, o1, esub1, ↓zB_c e92, zB_c e92, hBrow, esub, ↓zB_c e103, zB_c e103, hbit, Bool.false_eq_true, ↓zB_c a1, zB_c a1, ↓zB_c a2, zB_c a2, eor, Nat.lt_irrefl]
    · subst r1
      have st : f36 29 p q0 (nI k) (nI i) (z_hp S m) = f36_132 29 p q0 (nI k) (nI i) (z_bi p k) (nI 1) (z_M 16 (z_inS P k q)) (z_n1 P k q) (z_hp S m) := by
        unfold f36
        simp (disch := ((try simp only [true_or, or_true, hp.k, hp.k1, hp.k2, hp.k3, hp.k4, hp.k5, hp.k6, hp.k7, hp.k8, hp.k9, hp.k10, hp.l1, hp.l2, hp.l3, hp.l4, hp.l5, hp.l6, hp.l7, hp.l8, hp.l9, hp.l10, hbp.k, hbp.k1, hbp.k2, hbp.k3, hbp.k4, hbp.k5, hbp.k6, hbp.l1, hbp.l2, hbp.l3, hbp.l4, hbp.l5, hbp.l6, hbpk, hpk]) <;> (try omega))) only [↓reduceIte, ↓z_ite, ↓zR, ↓zB_R, ↓zB_B, ↓zB_ite, ↓zB_gI, ↓zB_pI, ↓zB_pZ, ↓zB_aK, ↓zB_G, ↓zB_lI, ↓zB_lZ, ↓zB_wI, ↓zB_wZ, ↓zB_lIl, ↓zB_wIl, zB_pI, zB_pZ, zB_lI, zB_lZ, zB_wI, zB_wZ, z_addl, z_ladd, z_mull, z_lmul, nI_add, z_subl, Nat.not_lt_zero, z_10, z_01, z_bitc, z_b0, z_b1, ↓zB_Gb, ↓zB_G0, ↓zB_G1, z_eql, z_leq, z_ltl, z_llt, z_eq, z_lt, z_m1lt, hp.k, hp.k1, hp.k2, hp.k3, hp.k4, hp.k5, hp.k6, hp.k7, hp.k8, hp.k9, hp.k10, hp.l1, hp.l2, hp.l3, hp.l4, hp.l5, hp.l6, hp.l7, hp.l8, hp.l9, hp.l10, hbp.k, hbp.k1, hbp.k2, hbp.k3, hbp.k4, hbp.k5, hbp.k6, hbp.l1, hbp.l2, hbp.l3, hbp.l4, hbp.l5, hbp.l6, hbpk, hpk, ↓hp.g0, ↓hp.g1, ↓hp.g2, ↓hp.g3, ↓hp.g4, ↓hp.g5, ↓hp.g6, ↓hp.g7, ↓hp.g8, ↓hp.g9, ↓hp.gb, hp.gb, ↓hbp.g0, ↓hbp.g1, ↓hbp.g2, ↓hbp.g3, ↓hbp.g4, ↓hbp.g5, h24, hk, hi, n1, k7, ↓zB_c e18, zB_c e18, Bool.true_eq_false, n2, n3, o1, esub1, ↓zB_c e92, zB_c e92, hBrow, esub, ↓zB_c e103, zB_c e103, hbit, Bool.false_eq_true, ↓zB_c a1, zB_c a1, ↓zB_c a2, zB_c a2, eor, Nat.reduceLT, ↓zB_c e175, zB_c e175]
      rcases z_n1_c P k q with hn | ⟨t, ht, hn⟩
      · refine stay (-6) (by decide) ?_ (by rw [eR, if_neg y1, if_neg y2, if_pos ⟨by decide, hn⟩])
        rw [st, hn]
        unfold f36_132 f36_158 f36_183
        simp (disch := ((try simp only [true_or, or_true]) <;> (try omega))) only [↓reduceIte, ↓z_ite, ↓zR, ↓zB_R, ↓zB_B, ↓zB_ite, ↓zB_gI, ↓zB_pI, ↓zB_pZ, ↓zB_aK, ↓zB_G, ↓zB_lI, ↓zB_lZ, ↓zB_wI, ↓zB_wZ, ↓zB_lIl, ↓zB_wIl, zB_pI, zB_pZ, zB_lI, zB_lZ, zB_wI, zB_wZ, z_addl, z_ladd, z_mull, z_lmul, nI_add, z_subl, Nat.not_lt_zero, z_10, z_01, z_bitc, z_b0, z_b1, ↓zB_Gb, ↓zB_G0, ↓zB_G1, z_eql, z_leq, z_ltl, z_llt, z_eq, z_lt, z_m1lt, Nat.lt_irrefl, Nat.reduceLT]
      · refine fin (z_n1 P k q) (-1) t 0 ht (by decide) ?_ (fun _ => ⟨hn, rfl⟩) (fun g => absurd g (by decide))
        have gt : ¬ nI t = -1 := z_nI_m1 (by omega)
        rw [st, hn]
        unfold f36_132 f36_158 f36_171
        simp (disch := ((try simp only [true_or, or_true]) <;> (try omega))) only [↓reduceIte, ↓z_ite, ↓zR, ↓zB_R, ↓zB_B, ↓zB_ite, ↓zB_gI, ↓zB_pI, ↓zB_pZ, ↓zB_aK, ↓zB_G, ↓zB_lI, ↓zB_lZ, ↓zB_wI, ↓zB_wZ, ↓zB_lIl, ↓zB_wIl, zB_pI, zB_pZ, zB_lI, zB_lZ, zB_wI, zB_wZ, z_addl, z_ladd, z_mull, z_lmul, nI_add, z_subl, Nat.not_lt_zero, z_10, z_01, z_bitc, z_b0, z_b1, ↓zB_Gb, ↓zB_G0, ↓zB_G1, z_eql, z_leq, z_ltl, z_llt, z_eq, z_lt, z_m1lt, Nat.lt_irrefl, Nat.reduceLT, gt]
    · subst r2
      have st : f36 29 p q0 (nI k) (nI i) (z_hp S m) = f36_132 29 p q0 (nI k) (nI i) (z_bi p k) (nI 2) (z_M 16 (z_inS P k q)) (z_n1 P k q) (z_hp S m) := by
        unfold f36
        simp (disch := ((try simp only [true_or, or_true, hp.k, hp.k1, hp.k2, hp.k3, hp.k4, hp.k5, hp.k6, hp.k7, hp.k8, hp.k9, hp.k10, hp.l1, hp.l2, hp.l3, hp.l4, hp.l5, hp.l6, hp.l7, hp.l8, hp.l9, hp.l10, hbp.k, hbp.k1, hbp.k2, hbp.k3, hbp.k4, hbp.k5, hbp.k6, hbp.l1, hbp.l2, hbp.l3, hbp.l4, hbp.l5, hbp.l6, hbpk, hpk]) <;> (try omega))) only [↓reduceIte, ↓z_ite, ↓zR, ↓zB_R, ↓zB_B, ↓zB_ite, ↓zB_gI, ↓zB_pI, ↓zB_pZ, ↓zB_aK, ↓zB_G, ↓zB_lI, ↓zB_lZ, ↓zB_wI, ↓zB_wZ, ↓zB_lIl, ↓zB_wIl, zB_pI, zB_pZ, zB_lI, zB_lZ, zB_wI, zB_wZ, z_addl, z_ladd, z_mull, z_lmul, nI_add, z_subl, Nat.not_lt_zero, z_10, z_01, z_bitc, z_b0, z_b1, ↓zB_Gb, ↓zB_G0, ↓zB_G1, z_eql, z_leq, z_ltl, z_llt, z_eq, z_lt, z_m1lt, hp.k, hp.k1, hp.k2, hp.k3, hp.k4, hp.k5, hp.k6, hp.k7, hp.k8, hp.k9, hp.k10, hp.l1, hp.l2, hp.l3, hp.l4, hp.l5, hp.l6, hp.l7, hp.l8, hp.l9, hp.l10, hbp.k, hbp.k1, hbp.k2, hbp.k3, hbp.k4, hbp.k5, hbp.k6, hbp.l1, hbp.l2, hbp.l3, hbp.l4, hbp.l5, hbp.l6, hbpk, hpk, ↓hp.g0, ↓hp.g1, ↓hp.g2, ↓hp.g3, ↓hp.g4, ↓hp.g5, ↓hp.g6, ↓hp.g7, ↓hp.g8, ↓hp.g9, ↓hp.gb, hp.gb, ↓hbp.g0, ↓hbp.g1, ↓hbp.g2, ↓hbp.g3, ↓hbp.g4, ↓hbp.g5, h24, hk, hi, n1, k7, ↓zB_c e18, zB_c e18, Bool.true_eq_false, n2, n3, o1, esub1, ↓zB_c e92, zB_c e92, hBrow, esub, ↓zB_c e103, zB_c e103, hbit, Bool.false_eq_true, ↓zB_c a1, zB_c a1, ↓zB_c a2, zB_c a2, eor, Nat.reduceLT, ↓zB_c e175, zB_c e175]
      rcases z_n1_c P k q with hn | ⟨t, ht, hn⟩
      · refine stay (-6) (by decide) ?_ (by rw [eR, if_neg y1, if_neg y2, if_pos ⟨by decide, hn⟩])
        have es := z_M_set (n := 16) (s := z_inS P k q) (j := 0) (by decide) (by decide)
        have es : z_M 16 (z_inS P k q) ||| (1 <<< ((0 : Int32) &&& 31)) = z_M 16 (fun i => z_inS P k q i || decide (0 = i)) := es
        have e2 := f175_sp (S := S) (m := m) (fun i => z_inS P k q i || decide (0 = i))
        rw [st, hn]
        unfold f36_132 f36_158 f36_183
        rw [if_pos (by decide), if_pos (by decide), es, zB_c e2]
        rfl
      · have es := z_M_set (n := 16) (s := z_inS P k q) (j := t) (by decide) ht
        have e2 := f175_sp (S := S) (m := m) (fun i => z_inS P k q i || decide (t = i))
        have eq2 : z_fn (fun i => z_inS P k q i || decide (t = i)) = z_n2 P k q := by
          unfold z_n2
          refine z_fn_congr (fun n hn16 => ?_)
          rw [hn, Bool.or_comm]
          by_cases g : t = n
          · subst g; simp
          · have : ¬ nI n = nI t := fun e => g ((nI_eq (by omega) (by omega)).mp e).symm
            rw [decide_eq_false g, show (nI n == nI t) = false by simpa using this]
        rw [eq2] at e2
        have gt : ¬ nI t = -1 := z_nI_m1 (by omega)
        have gt0 : ¬ nI t < 0 := nI_pos (by omega)
        have st2 : f36 29 p q0 (nI k) (nI i) (z_hp S m) = f36_158 29 p q0 (nI k) (nI i) (z_bi p k) (nI 2) (nI t) (z_n2 P k q) (z_hp S m) := by
          rw [st, hn]
          unfold f36_132
          rw [if_pos (by decide), if_neg gt0, es, zB_c e2]
        rcases z_n2_c P k q with hn2 | ⟨t2, ht2, hn2⟩
        · refine stay (-6) (by decide) ?_ (by rw [eR, if_neg y1, if_neg y2, if_neg (fun g => gt (by rw [← hn]; exact g.2)), if_pos ⟨by decide, hn2⟩])
          rw [st2, hn2]
          unfold f36_158 f36_171 f36_183
          simp (disch := ((try simp only [true_or, or_true]) <;> (try omega))) only [↓reduceIte, ↓z_ite, ↓zR, ↓zB_R, ↓zB_B, ↓zB_ite, ↓zB_gI, ↓zB_pI, ↓zB_pZ, ↓zB_aK, ↓zB_G, ↓zB_lI, ↓zB_lZ, ↓zB_wI, ↓zB_wZ, ↓zB_lIl, ↓zB_wIl, zB_pI, zB_pZ, zB_lI, zB_lZ, zB_wI, zB_wZ, z_addl, z_ladd, z_mull, z_lmul, nI_add, z_subl, Nat.not_lt_zero, z_10, z_01, z_bitc, z_b0, z_b1, ↓zB_Gb, ↓zB_G0, ↓zB_G1, z_eql, z_leq, z_ltl, z_llt, z_eq, z_lt, z_m1lt, Nat.reduceLT, gt]
        · refine fin (nI t) (z_n2 P k q) t t2 ht ht2 ?_ (fun _ => ⟨rfl, hn.symm⟩) (fun _ => ⟨hn2, rfl⟩)
          have gt2 : ¬ nI t2 = -1 := z_nI_m1 (by omega)
          rw [st2, hn2]
          unfold f36_158 f36_171
          simp (disch := ((try simp only [true_or, or_true]) <;> (try omega))) only [↓reduceIte, ↓z_ite, ↓zR, ↓zB_R, ↓zB_B, ↓zB_ite, ↓zB_gI, ↓zB_pI, ↓zB_pZ, ↓zB_aK, ↓zB_G, ↓zB_lI, ↓zB_lZ, ↓zB_wI, ↓zB_wZ, ↓zB_lIl, ↓zB_wIl, zB_pI, zB_pZ, zB_lI, zB_lZ, zB_wI, zB_wZ, z_addl, z_ladd, z_mull, z_lmul, nI_add, z_subl, Nat.not_lt_zero, z_10, z_01, z_bitc, z_b0, z_b1, ↓zB_Gb, ↓zB_G0, ↓zB_G1, z_eql, z_leq, z_ltl, z_llt, z_eq, z_lt, z_m1lt, Nat.reduceLT, gt, gt2]
theorem z_inQ_ok (hw : z_wf P) (h60 : z_b60 P) (hr : z_wr P = -1) {k i : Nat} (hk : k < z_nm P) (hlk : z_liv P k = true) (hi : i < (z_bd P k).length) (hR : ¬ z_inR P k i < 0) : z_wf (z_inQ P k i) ∧ z_b60 (z_inQ P k i) := by
  have hRT := z_RT_wr hw hr
  have neg : ∀ r, r < 0 → z_inR P k i = r → False := fun r h e => hR (by rw [e]; exact h)
  unfold z_inR at neg
  by_cases g0 : (z_k (z_bd P k) i == 7 && z_isT (z_bd P k) i) = false
  · exact (neg (-10) (by decide) (if_pos g0)).elim
  rw [if_neg g0] at neg
  have g0' := z_not_false g0
  have k7 : z_k (z_bd P k) i = 7 := by simpa using (Bool.and_eq_true_iff.mp g0').1
  by_cases g1 : z_hmb P (z_own P k) (z_v (z_bd P k) i) (z_a (z_bd P k) i) = true
  · exact (neg (-3) (by decide) (if_pos g1)).elim
  rw [if_neg g1] at neg
  by_cases g2 : z_rch P (z_cq (z_Bd P k) i) (z_cq (z_Bd P k) i) = true
  · exact (neg (-4) (by decide) (if_pos g2)).elim
  rw [if_neg g2] at neg
  by_cases g3 : 0 < (z_a (z_bd P k) i).toNatClampNeg ∧ z_n1 P k (z_cq (z_Bd P k) i) = -1
  · exact (neg (-6) (by decide) (if_pos g3)).elim
  rw [if_neg g3] at neg
  by_cases g4 : 1 < (z_a (z_bd P k) i).toNatClampNeg ∧ z_n2 P k (z_cq (z_Bd P k) i) = -1
  · exact (neg (-6) (by decide) (if_pos g4)).elim
  rw [if_neg g4] at neg
  by_cases g5 : ¬ z_wr (z_sM P k (z_hd P k) (z_inN P k i)) = -1
  · exact (neg (-8) (by decide) (if_pos g5)).elim
  rw [if_neg g5] at neg
  by_cases g6 : 60 < (z_inN P k i).length
  · exact (neg (-6) (by decide) (if_pos g6)).elim
  obtain ⟨c1, c2, c3⟩ := z_call_q hw hk (hRT k hk hlk) hi k7
  have ca := z_call_cnt hw hk (hRT k hk hlk) hi k7
  have hcq2 : z_cnt P (z_cq (z_Bd P k) i) ≤ 2 := (hw.2.2.2.1 _ c2).2.2.2.1.1
  rw [z_c3 hw c2] at ca
  have hac : (z_a (z_bd P k) i).toNatClampNeg = z_cnt P (z_cq (z_Bd P k) i) := by rw [← ca, nI_clamp (by omega)]
  rw [hac] at g3 g4
  have hp : z_cnt P (z_cq (z_Bd P k) i) < z_p (z_bd P k) i := by
    unfold z_p z_pn
    rw [k7, hac]; simp
  obtain ⟨t1, ht1, e1⟩ : ∃ t, t < 16 ∧ (0 < z_cnt P (z_cq (z_Bd P k) i) → z_n1 P k (z_cq (z_Bd P k) i) = nI t) := by
    rcases z_n1_c P k (z_cq (z_Bd P k) i) with h | ⟨t, ht, h⟩
    · exact ⟨0, by decide, fun g => absurd ⟨g, h⟩ g3⟩
    · exact ⟨t, ht, fun _ => h⟩
  obtain ⟨t2, ht2, e2⟩ : ∃ t, t < 16 ∧ (1 < z_cnt P (z_cq (z_Bd P k) i) → z_n2 P k (z_cq (z_Bd P k) i) = nI t) := by
    rcases z_n2_c P k (z_cq (z_Bd P k) i) with h | ⟨t, ht, h⟩
    · exact ⟨0, by decide, fun g => absurd ⟨g, h⟩ g4⟩
    · exact ⟨t, ht, fun _ => h⟩
  have hlq := h60 _ c2
  have eN : z_inN P k i = z_inD P k i (z_cq (z_Bd P k) i) (z_cnt P (z_cq (z_Bd P k) i)) (nI t1) (nI t2) := by
    unfold z_inN
    rw [hac]
    exact z_inD_cg hw c2 (by omega) rfl e1 e2
  have hN : z_wB (z_nc P) (z_inN P k i) := by rw [eN]; exact z_inD_wB hw hk hi c2 ht1 ht2 hp hcq2
  exact ⟨z_sM_wf hw hk (z_wHf_of (hw.2.2.2.1 k hk)) hN (fun _ j hj hne hlj e2 e3 eo => hne (hw.2.2.2.2.2 j k hj hk hlj hlk e2 e3 eo)), z_sM_b60 h60 (by omega)⟩
end
