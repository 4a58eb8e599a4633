-- deps: 90.75.in4
/-! a call written out: the class's answer -/
section
variable {S : z_S} {m : z_m} {p q0 : Nat} {P : z_Pg} {A : z_A}
noncomputable def z_oinl (A : z_A) (k i : Int32) : (Int32 ⊕ Nat) × z_A :=
  if z_hm A.2.1 k = false then (.inr 2, A)
  else if z_in i (z_bd A.2.1 k.toNatClampNeg).length = false then (.inr 2, A)
  else if z_wr A.2.1 = -1 then z_rf A (z_inR A.2.1 k.toNatClampNeg i.toNatClampNeg) (z_inQ A.2.1 k.toNatClampNeg i.toNatClampNeg)
  else (.inr 0, A)
theorem c_inl (hw : z_WA A) (h : z_CR S m A) (k i : Int32) : ∃ S1 m1, f143 0 k i (z_hp S m) = some ((z_oinl A k i).1, z_hp S1 m1) ∧ z_CR S1 m1 (z_oinl A k i).2 ∧ z_SS S S1 ∧ ∀ a, 2390 ≤ a → m1 a = m a := by
  have h0 := h
  obtain ⟨sn, sx, sp, hI, hCM⟩ := h0
  have hX := hI.1
  have hp := hI.2.2.1 sn hI.2.2.2.1.1
  have hn := hI.2.2.2.2.2.1
  have hc := hCM.2.2.1.1.1
  have hwf := hw.2.1.1
  have h24 := hwf.2.2.1
  unfold z_oinl
  by_cases g1 : z_hm A.2.1 k = false
  · rw [if_pos g1]
    refine ⟨z_Sx S, m, ?_, z_CR_x h, z_SS.x S, fun _ _ => rfl⟩
    have e1 := f165_n hX hp hc hwf g1
    unfold f143
    simp (disch := ((try simp only [true_or, or_true, hX.k0, hX.k1, hX.k2, hX.k3, hX.k4, hX.k5, hX.k6, hX.k7, hX.l2, hX.l3, hX.l4, hX.l5, hX.l6, hX.l7]) <;> (try omega))) only [↓reduceIte, ↓z_ite, ↓zR, ↓zB_R, ↓zB_B, ↓zB_ite, ↓zB_gI, ↓zB_pI, ↓zB_pZ, ↓zB_aK, ↓zB_G, ↓zB_lI, ↓zB_lZ, ↓zB_wI, ↓zB_wZ, ↓zB_lIl, ↓zB_wIl, zB_pI, zB_pZ, zB_lI, zB_lZ, zB_wI, zB_wZ, z_addl, z_ladd, z_mull, z_lmul, nI_add, z_subl, Nat.not_lt_zero, z_10, z_01, z_bitc, z_b0, z_b1, ↓zB_Gb, ↓zB_G0, ↓zB_G1, z_eql, z_leq, z_ltl, z_llt, z_eq, z_lt, z_m1lt, hX.k0, hX.k1, hX.k2, hX.k3, hX.k4, hX.k5, hX.k6, hX.k7, hX.l2, hX.l3, hX.l4, hX.l5, hX.l6, hX.l7, ↓hX.g0_0, ↓hX.g0_1, ↓hX.g0_2, ↓hX.g0_3, ↓hX.g0_4, ↓hX.g0_5, ↓hX.g0_6, ↓hX.g0_7, ↓hX.g0_8, ↓hX.g0_9, ↓hX.g1_0, ↓hX.g1_1, ↓hX.g1_2, ↓hX.g1_3, ↓hX.g1_4, ↓hX.g1_5, ↓z_gnow hX hn, z_gnow hX hn, ↓zT_r e1, zT_r e1]
  rw [if_neg g1]
  have g1' := z_not_false g1
  have e1 := f165_y hX hp hc hwf g1'
  obtain ⟨k', hk', hl, rfl⟩ := (z_hm_iff hwf).mp g1'
  rw [nI_clamp (show k' < 2 ^ 31 by omega)]
  have hlen := hw.2.1.2 k' hk'
  by_cases g2 : z_in i (z_bd A.2.1 k').length = false
  · rw [if_pos g2]
    refine ⟨z_Sx S, m, ?_, z_CR_x h, z_SS.x S, fun _ _ => rfl⟩
    have e2 := f166_n hX hn hp hc hwf hk' hl g2
    unfold f143
    simp (disch := ((try simp only [true_or, or_true, hX.k0, hX.k1, hX.k2, hX.k3, hX.k4, hX.k5, hX.k6, hX.k7, hX.l2, hX.l3, hX.l4, hX.l5, hX.l6, hX.l7]) <;> (try omega))) only [↓reduceIte, ↓z_ite, ↓zR, ↓zB_R, ↓zB_B, ↓zB_ite, ↓zB_gI, ↓zB_pI, ↓zB_pZ, ↓zB_aK, ↓zB_G, ↓zB_lI, ↓zB_lZ, ↓zB_wI, ↓zB_wZ, ↓zB_lIl, ↓zB_wIl, zB_pI, zB_pZ, zB_lI, zB_lZ, zB_wI, zB_wZ, z_addl, z_ladd, z_mull, z_lmul, nI_add, z_subl, Nat.not_lt_zero, z_10, z_01, z_bitc, z_b0, z_b1, ↓zB_Gb, ↓zB_G0, ↓zB_G1, z_eql, z_leq, z_ltl, z_llt, z_eq, z_lt, z_m1lt, hX.k0, hX.k1, hX.k2, hX.k3, hX.k4, hX.k5, hX.k6, hX.k7, hX.l2, hX.l3, hX.l4, hX.l5, hX.l6, hX.l7, ↓hX.g0_0, ↓hX.g0_1, ↓hX.g0_2, ↓hX.g0_3, ↓hX.g0_4, ↓hX.g0_5, ↓hX.g0_6, ↓hX.g0_7, ↓hX.g0_8, ↓hX.g0_9, ↓hX.g1_0, ↓hX.g1_1, ↓hX.g1_2, ↓hX.g1_3, ↓hX.g1_4, ↓hX.g1_5, ↓z_gnow hX hn, z_gnow hX hn, ↓zT_l e1, zT_l e1, ↓zT_r e2, zT_r e2]
  rw [if_neg g2]
  obtain ⟨i', hi', rfl⟩ := (z_in_iff (by omega)).mp (z_not_false g2)
  rw [nI_clamp (show i' < 2 ^ 31 by omega)]
  have e2 := f166_y hX hn hp hc hwf hk' hl hi'
  by_cases g3 : z_wr A.2.1 = -1
  · rw [if_pos g3]
    obtain ⟨m1, e3, c1, r1, f14⟩ := c_rr_y hw hI hCM g3
    obtain ⟨S', m', e4, d1, d2, d3⟩ := c_tail hw hI c1 g3 f14 (ob := 29) (kd := 3) hX.k29 (OP := fun q => f36 29 (z_pid sn) q (nI k') (nI i')) (r := z_inR A.2.1 k' i') (Q := z_inQ A.2.1 k' i') (fun m2 hpre => f36_sp hpre hwf hw.2.1.2 g3 hk' hl hi')
    refine ⟨S', m', ?_, d1, d2, fun a ha => (d3 a ha).trans (r1 a ha)⟩
    unfold f143
    simp (disch := ((try simp only [true_or, or_true, hX.k0, hX.k8, hX.k9, hX.l9, hp.k, hp.k1, hp.k2, hp.k3, hp.k4, hp.k5, hp.k6, hp.k7, hp.k8, hp.k9, hp.k10, hp.l1, hp.l2, hp.l3, hp.l4, hp.l5, hp.l6, hp.l7, hp.l8, hp.l9, hp.l10]) <;> (try omega))) only [↓reduceIte, ↓z_ite, ↓zR, ↓zB_R, ↓zB_B, ↓zB_ite, ↓zB_gI, ↓zB_pI, ↓zB_pZ, ↓zB_aK, ↓zB_G, ↓zB_lI, ↓zB_lZ, ↓zB_wI, ↓zB_wZ, ↓zB_lIl, ↓zB_wIl, zB_pI, zB_pZ, zB_lI, zB_lZ, zB_wI, zB_wZ, z_addl, z_ladd, z_mull, z_lmul, nI_add, z_subl, Nat.not_lt_zero, z_10, z_01, z_bitc, z_b0, z_b1, ↓zB_Gb, ↓zB_G0, ↓zB_G1, z_eql, z_leq, z_ltl, z_llt, z_eq, z_lt, z_m1lt, hX.k0, hX.k8, hX.k9, hX.l9, hp.k, hp.k1, hp.k2, hp.k3, hp.k4, hp.k5, hp.k6, hp.k7, hp.k8, hp.k9, hp.k10, hp.l1, hp.l2, hp.l3, hp.l4, hp.l5, hp.l6, hp.l7, hp.l8, hp.l9, hp.l10, ↓hX.g0_0, ↓hX.g0_1, ↓hX.g0_2, ↓hX.g0_3, ↓hX.g0_4, ↓hX.g0_5, ↓hX.g0_6, ↓hX.g0_7, ↓hX.g0_8, ↓hX.g0_9, ↓hX.g8_0, ↓hp.g0, ↓hp.g1, ↓hp.g2, ↓hp.g3, ↓hp.g4, ↓hp.g5, ↓hp.g6, ↓hp.g7, ↓hp.g8, ↓hp.g9, ↓hp.gb, hp.gb, ↓z_gnow hX hn, z_gnow hX hn, ↓zT_l e1, zT_l e1, ↓zT_l e2, zT_l e2, ↓zT_l e3, zT_l e3]
    exact e4
  · rw [if_neg g3]
    obtain ⟨m1, e3, c1, r1⟩ := c_rr_n hw hI hCM g3
    refine ⟨z_Sx S, m1, ?_, ⟨sn, sx, sp, hI, c1⟩, z_SS.x S, r1⟩
    unfold f143
    simp (disch := ((try simp only [true_or, or_true, hX.k0, hX.k8, hX.k9, hX.l9, hp.k, hp.k1, hp.k2, hp.k3, hp.k4, hp.k5, hp.k6, hp.k7, hp.k8, hp.k9, hp.k10, hp.l1, hp.l2, hp.l3, hp.l4, hp.l5, hp.l6, hp.l7, hp.l8, hp.l9, hp.l10]) <;> (try omega))) only [↓reduceIte, ↓z_ite, ↓zR, ↓zB_R, ↓zB_B, ↓zB_ite, ↓zB_gI, ↓zB_pI, ↓zB_pZ, ↓zB_aK, ↓zB_G, ↓zB_lI, ↓zB_lZ, ↓zB_wI, ↓zB_wZ, ↓zB_lIl, ↓zB_wIl, zB_pI, zB_pZ, zB_lI, zB_lZ, zB_wI, zB_wZ, z_addl, z_ladd, z_mull, z_lmul, nI_add, z_subl, Nat.not_lt_zero, z_10, z_01, z_bitc, z_b0, z_b1, ↓zB_Gb, ↓zB_G0, ↓zB_G1, z_eql, z_leq, z_ltl, z_llt, z_eq, z_lt, z_m1lt, hX.k0, hX.k8, hX.k9, hX.l9, hp.k, hp.k1, hp.k2, hp.k3, hp.k4, hp.k5, hp.k6, hp.k7, hp.k8, hp.k9, hp.k10, hp.l1, hp.l2, hp.l3, hp.l4, hp.l5, hp.l6, hp.l7, hp.l8, hp.l9, hp.l10, ↓hX.g0_0, ↓hX.g0_1, ↓hX.g0_2, ↓hX.g0_3, ↓hX.g0_4, ↓hX.g0_5, ↓hX.g0_6, ↓hX.g0_7, ↓hX.g0_8, ↓hX.g0_9, ↓hX.g8_0, ↓hp.g0, ↓hp.g1, ↓hp.g2, ↓hp.g3, ↓hp.g4, ↓hp.g5, ↓hp.g6, ↓hp.g7, ↓hp.g8, ↓hp.g9, ↓hp.gb, hp.gb, ↓z_gnow hX hn, z_gnow hX hn, ↓zT_l e1, zT_l e1, ↓zT_l e2, zT_l e2, ↓zT_r e3, zT_r e3]
end
