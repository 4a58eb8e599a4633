-- deps: 90.78.min2
/-! a call written out: the reference, all of it -/
section
variable {S : z_S} {m : z_m} {A : z_A} {P : z_Pg}
theorem m_inl (hM : z_MS S) (hw : z_WA A) (h : z_MR m A) (k i : Int32) : (∃ v m1, f284 2390 k i (z_hp S m) = some (v, z_hp S m1) ∧ z_MR m1 (z_oinl A k i).2 ∧ (∀ b, b < 2390 ∨ 2424 ≤ b → m1 b = m b) ∧ z_ans z_cd2 (z_oinl A k i).1 v (m1 2390 0)) ∧ z_WA (z_oinl A k i).2 := by
  have hwf := hw.2.1.1
  have h24 := hwf.2.2.1
  have h60 := hw.2.1.2
  have i1 := f178_1 (m := m) hM
  have e239 := f239_sp (S := S) hM hw h k i
  unfold z_oinl
  have rno : z_ipl A.2.1 k i = false → (∃ v m1, f284 2390 k i (z_hp S m) = some (v, z_hp S m1) ∧ z_MR m1 A ∧ (∀ b, b < 2390 ∨ 2424 ≤ b → m1 b = m b) ∧ z_ans z_cd2 (.inr 2) v (m1 2390 0)) ∧ z_WA A := fun g => by
    refine z_m_ref hw h (E := 2) (cd := z_cd2) ⟨0, ?_⟩
    rw [g] at e239
    unfold f284 f284_26
    simp (disch := ((try simp only [true_or, or_true, hM.k, hM.k2391, hM.k2392, hM.k2393, hM.k2394, hM.k2395, hM.k2396, hM.k2397, hM.k2398, hM.k2399, hM.k2400, hM.k2401, hM.k2402, hM.k2403, hM.k2404, hM.k2405, hM.k2406, hM.k2407, hM.k2408, hM.k2409, hM.k2410, hM.k2411, hM.k2412, hM.k2413, hM.k2414, hM.k2415, hM.k2416, hM.k2417, hM.k2418, hM.k2419, hM.k2420, hM.k2421, hM.k2422, hM.k2423, hM.l2391, hM.l2392, hM.l2393, hM.l2394, hM.l2395, hM.l2396, hM.l2397, hM.l2398, hM.l2399, hM.l2400, hM.l2401, hM.l2402, hM.l2403, hM.l2404, hM.l2405, hM.l2406, hM.l2407, hM.l2408, hM.l2409, hM.l2410, hM.l2411, hM.l2412, hM.l2413, hM.l2414, hM.l2415, hM.l2416, hM.l2417, hM.l2418, hM.l2419, hM.l2420, hM.l2421, hM.l2422, hM.l2423]) <;> (try omega))) only [↓reduceIte, ↓z_ite, ↓zR, ↓zB_R, ↓zB_B, ↓zB_ite, ↓zB_gI, ↓zB_pI, ↓zB_pZ, ↓zB_aK, ↓zB_G, ↓zB_lI, ↓zB_lZ, ↓zB_wI, ↓zB_wZ, ↓zB_lIl, ↓zB_wIl, zB_pI, zB_pZ, zB_lI, zB_lZ, zB_wI, zB_wZ, z_addl, z_ladd, z_mull, z_lmul, nI_add, z_subl, Nat.not_lt_zero, z_10, z_01, z_bitc, z_b0, z_b1, ↓zB_Gb, ↓zB_G0, ↓zB_G1, z_eql, z_leq, z_ltl, z_llt, z_eq, z_lt, z_m1lt, hM.k, hM.k2391, hM.k2392, hM.k2393, hM.k2394, hM.k2395, hM.k2396, hM.k2397, hM.k2398, hM.k2399, hM.k2400, hM.k2401, hM.k2402, hM.k2403, hM.k2404, hM.k2405, hM.k2406, hM.k2407, hM.k2408, hM.k2409, hM.k2410, hM.k2411, hM.k2412, hM.k2413, hM.k2414, hM.k2415, hM.k2416, hM.k2417, hM.k2418, hM.k2419, hM.k2420, hM.k2421, hM.k2422, hM.k2423, hM.l2391, hM.l2392, hM.l2393, hM.l2394, hM.l2395, hM.l2396, hM.l2397, hM.l2398, hM.l2399, hM.l2400, hM.l2401, hM.l2402, hM.l2403, hM.l2404, hM.l2405, hM.l2406, hM.l2407, hM.l2408, hM.l2409, hM.l2410, hM.l2411, hM.l2412, hM.l2413, hM.l2414, hM.l2415, hM.l2416, hM.l2417, hM.l2418, hM.l2419, hM.l2420, hM.l2421, hM.l2422, hM.l2423, ↓hM.g1, ↓hM.g5, ↓hM.g6, ↓hM.g7, ↓hM.g8, ↓hM.g9, ↓hM.g10, ↓hM.g11, ↓hM.g12, ↓hM.g13, ↓hM.g14, ↓hM.g16, ↓hM.g17, ↓hM.g18, ↓hM.g19, ↓hM.g21, ↓hM.g22, ↓hM.g23, ↓hM.g24, ↓hM.g25, ↓hM.g27, ↓hM.g28, ↓hM.g30, ↓hM.g31, ↓hM.g32, ↓hM.g36, ↓hM.g37, ↓hM.g39, ↓hM.g40, ↓hM.g41, ↓hM.g43, ↓hM.g45, ↓hM.g46, ↓zB_c e239, zB_c e239, ↓zB_c i1, zB_c i1]
    rfl
  by_cases g1 : z_hm A.2.1 k = false
  · rw [if_pos g1]; exact rno (by unfold z_ipl; rw [g1]; rfl)
  rw [if_neg g1]
  have g1' := z_not_false g1
  by_cases g2 : z_in i (z_bd A.2.1 k.toNatClampNeg).length = false
  · rw [if_pos g2]; exact rno (by unfold z_ipl; rw [g2, Bool.and_false])
  rw [if_neg g2]
  have hip : z_ipl A.2.1 k i = true := by unfold z_ipl; rw [g1', z_not_false g2]; rfl
  rw [hip] at e239
  obtain ⟨k', hk', hl, rfl⟩ := (z_hm_iff hwf).mp g1'
  rw [nI_clamp (show k' < 2 ^ 31 by omega)] at g2 ⊢
  have hlen := h60 k' hk'
  obtain ⟨i', hi', rfl⟩ := (z_in_iff (by omega)).mp (z_not_false g2)
  rw [nI_clamp (show i' < 2 ^ 31 by omega)]
  by_cases g3 : ¬ z_wr A.2.1 = -1
  · rw [if_neg g3]
    obtain ⟨m1, e272, h1, fr1⟩ := m_gono (S := S) hM hw h g3
    have i3 := f178_2 (m := m1) hM
    refine m_ref2 (m1 := m1) hw h1 fr1 (E := 0) (cd := z_cd2) ⟨0, ?_⟩
    unfold f284 f284_26
    simp (disch := ((try simp only [true_or, or_true, hM.k, hM.k2391, hM.k2392, hM.k2393, hM.k2394, hM.k2395, hM.k2396, hM.k2397, hM.k2398, hM.k2399, hM.k2400, hM.k2401, hM.k2402, hM.k2403, hM.k2404, hM.k2405, hM.k2406, hM.k2407, hM.k2408, hM.k2409, hM.k2410, hM.k2411, hM.k2412, hM.k2413, hM.k2414, hM.k2415, hM.k2416, hM.k2417, hM.k2418, hM.k2419, hM.k2420, hM.k2421, hM.k2422, hM.k2423, hM.l2391, hM.l2392, hM.l2393, hM.l2394, hM.l2395, hM.l2396, hM.l2397, hM.l2398, hM.l2399, hM.l2400, hM.l2401, hM.l2402, hM.l2403, hM.l2404, hM.l2405, hM.l2406, hM.l2407, hM.l2408, hM.l2409, hM.l2410, hM.l2411, hM.l2412, hM.l2413, hM.l2414, hM.l2415, hM.l2416, hM.l2417, hM.l2418, hM.l2419, hM.l2420, hM.l2421, hM.l2422, hM.l2423]) <;> (try omega))) only [↓reduceIte, ↓z_ite, ↓zR, ↓zB_R, ↓zB_B, ↓zB_ite, ↓zB_gI, ↓zB_pI, ↓zB_pZ, ↓zB_aK, ↓zB_G, ↓zB_lI, ↓zB_lZ, ↓zB_wI, ↓zB_wZ, ↓zB_lIl, ↓zB_wIl, zB_pI, zB_pZ, zB_lI, zB_lZ, zB_wI, zB_wZ, z_addl, z_ladd, z_mull, z_lmul, nI_add, z_subl, Nat.not_lt_zero, z_10, z_01, z_bitc, z_b0, z_b1, ↓zB_Gb, ↓zB_G0, ↓zB_G1, z_eql, z_leq, z_ltl, z_llt, z_eq, z_lt, z_m1lt, hM.k, hM.k2391, hM.k2392, hM.k2393, hM.k2394, hM.k2395, hM.k2396, hM.k2397, hM.k2398, hM.k2399, hM.k2400, hM.k2401, hM.k2402, hM.k2403, hM.k2404, hM.k2405, hM.k2406, hM.k2407, hM.k2408, hM.k2409, hM.k2410, hM.k2411, hM.k2412, hM.k2413, hM.k2414, hM.k2415, hM.k2416, hM.k2417, hM.k2418, hM.k2419, hM.k2420, hM.k2421, hM.k2422, hM.k2423, hM.l2391, hM.l2392, hM.l2393, hM.l2394, hM.l2395, hM.l2396, hM.l2397, hM.l2398, hM.l2399, hM.l2400, hM.l2401, hM.l2402, hM.l2403, hM.l2404, hM.l2405, hM.l2406, hM.l2407, hM.l2408, hM.l2409, hM.l2410, hM.l2411, hM.l2412, hM.l2413, hM.l2414, hM.l2415, hM.l2416, hM.l2417, hM.l2418, hM.l2419, hM.l2420, hM.l2421, hM.l2422, hM.l2423, ↓hM.g1, ↓hM.g5, ↓hM.g6, ↓hM.g7, ↓hM.g8, ↓hM.g9, ↓hM.g10, ↓hM.g11, ↓hM.g12, ↓hM.g13, ↓hM.g14, ↓hM.g16, ↓hM.g17, ↓hM.g18, ↓hM.g19, ↓hM.g21, ↓hM.g22, ↓hM.g23, ↓hM.g24, ↓hM.g25, ↓hM.g27, ↓hM.g28, ↓hM.g30, ↓hM.g31, ↓hM.g32, ↓hM.g36, ↓hM.g37, ↓hM.g39, ↓hM.g40, ↓hM.g41, ↓hM.g43, ↓hM.g45, ↓hM.g46, ↓zB_c e239, zB_c e239, Bool.true_eq_false, ↓zB_c e272, zB_c e272, ↓zB_c i3, zB_c i3]
    rfl
  have g3 := Classical.not_not.mp g3
  rw [if_pos g3]
  have hRT := z_RT_wr hwf g3
  obtain ⟨m1, e272, e178, h0, fr0⟩ := m_go (S := S) hM hw h g3
  generalize hm2 : z_up m1 2390 0 0 = m2 at e178 h0 fr0
  have hb := h0.1.2.1
  have hB := hwf.2.2.2.2.1 k' hk'
  have ek := hb.ek hM (B := 0) rfl hk' hi'
  by_cases k7 : ¬ z_k (z_bd A.2.1 k') i' = 7
  · have er : z_inR A.2.1 k' i' = -10 := if_pos (by rw [show (z_k (z_bd A.2.1 k') i' == 7) = false by simpa using k7]; rfl)
    rw [er]
    refine m_no hw (by decide) (m' := m2) ?_ h0.1 h0.2.2 fr0
    unfold f284 f284_26 f284_59
    simp (disch := ((try simp only [true_or, or_true, hM.k, hM.k2391, hM.k2392, hM.k2393, hM.k2394, hM.k2395, hM.k2396, hM.k2397, hM.k2398, hM.k2399, hM.k2400, hM.k2401, hM.k2402, hM.k2403, hM.k2404, hM.k2405, hM.k2406, hM.k2407, hM.k2408, hM.k2409, hM.k2410, hM.k2411, hM.k2412, hM.k2413, hM.k2414, hM.k2415, hM.k2416, hM.k2417, hM.k2418, hM.k2419, hM.k2420, hM.k2421, hM.k2422, hM.k2423, hM.l2391, hM.l2392, hM.l2393, hM.l2394, hM.l2395, hM.l2396, hM.l2397, hM.l2398, hM.l2399, hM.l2400, hM.l2401, hM.l2402, hM.l2403, hM.l2404, hM.l2405, hM.l2406, hM.l2407, hM.l2408, hM.l2409, hM.l2410, hM.l2411, hM.l2412, hM.l2413, hM.l2414, hM.l2415, hM.l2416, hM.l2417, hM.l2418, hM.l2419, hM.l2420, hM.l2421, hM.l2422, hM.l2423]) <;> (try omega))) only [↓reduceIte, ↓z_ite, ↓zR, ↓zB_R, ↓zB_B, ↓zB_ite, ↓zB_gI, ↓zB_pI, ↓zB_pZ, ↓zB_aK, ↓zB_G, ↓zB_lI, ↓zB_lZ, ↓zB_wI, ↓zB_wZ, ↓zB_lIl, ↓zB_wIl, zB_pI, zB_pZ, zB_lI, zB_lZ, zB_wI, zB_wZ, z_addl, z_ladd, z_mull, z_lmul, nI_add, z_subl, Nat.not_lt_zero, z_10, z_01, z_bitc, z_b0, z_b1, ↓zB_Gb, ↓zB_G0, ↓zB_G1, z_eql, z_leq, z_ltl, z_llt, z_eq, z_lt, z_m1lt, hM.k, hM.k2391, hM.k2392, hM.k2393, hM.k2394, hM.k2395, hM.k2396, hM.k2397, hM.k2398, hM.k2399, hM.k2400, hM.k2401, hM.k2402, hM.k2403, hM.k2404, hM.k2405, hM.k2406, hM.k2407, hM.k2408, hM.k2409, hM.k2410, hM.k2411, hM.k2412, hM.k2413, hM.k2414, hM.k2415, hM.k2416, hM.k2417, hM.k2418, hM.k2419, hM.k2420, hM.k2421, hM.k2422, hM.k2423, hM.l2391, hM.l2392, hM.l2393, hM.l2394, hM.l2395, hM.l2396, hM.l2397, hM.l2398, hM.l2399, hM.l2400, hM.l2401, hM.l2402, hM.l2403, hM.l2404, hM.l2405, hM.l2406, hM.l2407, hM.l2408, hM.l2409, hM.l2410, hM.l2411, hM.l2412, hM.l2413, hM.l2414, hM.l2415, hM.l2416, hM.l2417, hM.l2418, hM.l2419, hM.l2420, hM.l2421, hM.l2422, hM.l2423, ↓hM.g1, ↓hM.g5, ↓hM.g6, ↓hM.g7, ↓hM.g8, ↓hM.g9, ↓hM.g10, ↓hM.g11, ↓hM.g12, ↓hM.g13, ↓hM.g14, ↓hM.g16, ↓hM.g17, ↓hM.g18, ↓hM.g19, ↓hM.g21, ↓hM.g22, ↓hM.g23, ↓hM.g24, ↓hM.g25, ↓hM.g27, ↓hM.g28, ↓hM.g30, ↓hM.g31, ↓hM.g32, ↓hM.g36, ↓hM.g37, ↓hM.g39, ↓hM.g40, ↓hM.g41, ↓hM.g43, ↓hM.g45, ↓hM.g46, ↓zB_c e239, zB_c e239, Bool.true_eq_false, ↓zB_c e272, zB_c e272, ↓zB_c e178, zB_c e178, ↓zB_c ek, zB_c ek, k7]
  have k7 := Classical.not_not.mp k7
  have hp0 : 0 < z_p (z_bd A.2.1 k') i' := by unfold z_p; rw [k7]; show 0 < 1 + _; omega
  have hi1 : i' + 1 < (z_bd A.2.1 k').length := z_pt_lt hB.1 hi' (j := 0) hp0
  have ek1 := hb.ek hM (B := 0) rfl hk' hi1
  have eT : z_isT (z_bd A.2.1 k') i' = (z_k (z_bd A.2.1 k') (i' + 1) == 2) := by unfold z_isT; rw [decide_eq_true hp0, Bool.true_and]
  by_cases kT : ¬ z_k (z_bd A.2.1 k') (i' + 1) = 2
  · have er : z_inR A.2.1 k' i' = -10 := if_pos (by rw [eT, show (z_k (z_bd A.2.1 k') (i' + 1) == 2) = false by simpa using kT, Bool.and_false])
    rw [er]
    refine m_no hw (by decide) (m' := m2) ?_ h0.1 h0.2.2 fr0
    unfold f284 f284_26 f284_59
    simp (disch := ((try simp only [true_or, or_true, hM.k, hM.k2391, hM.k2392, hM.k2393, hM.k2394, hM.k2395, hM.k2396, hM.k2397, hM.k2398, hM.k2399, hM.k2400, hM.k2401, hM.k2402, hM.k2403, hM.k2404, hM.k2405, hM.k2406, hM.k2407, hM.k2408, hM.k2409, hM.k2410, hM.k2411, hM.k2412, hM.k2413, hM.k2414, hM.k2415, hM.k2416, hM.k2417, hM.k2418, hM.k2419, hM.k2420, hM.k2421, hM.k2422, hM.k2423, hM.l2391, hM.l2392, hM.l2393, hM.l2394, hM.l2395, hM.l2396, hM.l2397, hM.l2398, hM.l2399, hM.l2400, hM.l2401, hM.l2402, hM.l2403, hM.l2404, hM.l2405, hM.l2406, hM.l2407, hM.l2408, hM.l2409, hM.l2410, hM.l2411, hM.l2412, hM.l2413, hM.l2414, hM.l2415, hM.l2416, hM.l2417, hM.l2418, hM.l2419, hM.l2420, hM.l2421, hM.l2422, hM.l2423]) <;> (try omega))) only [↓reduceIte, ↓z_ite, ↓zR, ↓zB_R, ↓zB_B, ↓zB_ite, ↓zB_gI, ↓zB_pI, ↓zB_pZ, ↓zB_aK, ↓zB_G, ↓zB_lI, ↓zB_lZ, ↓zB_wI, ↓zB_wZ, ↓zB_lIl, ↓zB_wIl, zB_pI, zB_pZ, zB_lI, zB_lZ, zB_wI, zB_wZ, z_addl, z_ladd, z_mull, z_lmul, nI_add, z_subl, Nat.not_lt_zero, z_10, z_01, z_bitc, z_b0, z_b1, ↓zB_Gb, ↓zB_G0, ↓zB_G1, z_eql, z_leq, z_ltl, z_llt, z_eq, z_lt, z_m1lt, hM.k, hM.k2391, hM.k2392, hM.k2393, hM.k2394, hM.k2395, hM.k2396, hM.k2397, hM.k2398, hM.k2399, hM.k2400, hM.k2401, hM.k2402, hM.k2403, hM.k2404, hM.k2405, hM.k2406, hM.k2407, hM.k2408, hM.k2409, hM.k2410, hM.k2411, hM.k2412, hM.k2413, hM.k2414, hM.k2415, hM.k2416, hM.k2417, hM.k2418, hM.k2419, hM.k2420, hM.k2421, hM.k2422, hM.k2423, hM.l2391, hM.l2392, hM.l2393, hM.l2394, hM.l2395, hM.l2396, hM.l2397, hM.l2398, hM.l2399, hM.l2400, hM.l2401, hM.l2402, hM.l2403, hM.l2404, hM.l2405, hM.l2406, hM.l2407, hM.l2408, hM.l2409, hM.l2410, hM.l2411, hM.l2412, hM.l2413, hM.l2414, hM.l2415, hM.l2416, hM.l2417, hM.l2418, hM.l2419, hM.l2420, hM.l2421, hM.l2422, hM.l2423, ↓hM.g1, ↓hM.g5, ↓hM.g6, ↓hM.g7, ↓hM.g8, ↓hM.g9, ↓hM.g10, ↓hM.g11, ↓hM.g12, ↓hM.g13, ↓hM.g14, ↓hM.g16, ↓hM.g17, ↓hM.g18, ↓hM.g19, ↓hM.g21, ↓hM.g22, ↓hM.g23, ↓hM.g24, ↓hM.g25, ↓hM.g27, ↓hM.g28, ↓hM.g30, ↓hM.g31, ↓hM.g32, ↓hM.g36, ↓hM.g37, ↓hM.g39, ↓hM.g40, ↓hM.g41, ↓hM.g43, ↓hM.g45, ↓hM.g46, ↓zB_c e239, zB_c e239, Bool.true_eq_false, ↓zB_c e272, zB_c e272, ↓zB_c e178, zB_c e178, ↓zB_c ek, zB_c ek, k7, ↓zB_c ek1, zB_c ek1, kT]
  have kT := Classical.not_not.mp kT
  have g0 : ¬ (z_k (z_bd A.2.1 k') i' == 7 && z_isT (z_bd A.2.1 k') i') = false := by rw [eT, k7, kT]; decide
  have ho := z_own_e hwf hk'
  have e1 := hb.e1 hM (B := 0) rfl hk'
  rw [ho.2] at e1
  have ea := hb.ea hM (B := 0) rfl hk' hi'
  have ev := hb.ev hM (B := 0) rfl hk' hi'
  obtain ⟨c1, c2, c3⟩ := z_call_q hwf hk' (hRT k' hk' hl) hi' k7
  have ca := z_call_cnt hwf hk' (hRT k' hk' hl) hi' k7
  have e268 := f268_sp (S := S) hM (h0.2.1 k' hk' hl) (by omega) (by omega) hi'
  rw [z_mbn_7 (by simp [k7])] at e268
  generalize hqq : z_cq (z_Bd A.2.1 k') i' = q at c1 c2 c3 ca
  rw [c1] at e268
  have hcq2 : z_cnt A.2.1 q ≤ 2 := (hwf.2.2.2.1 q c2).2.2.2.1.1
  rw [z_c3 hwf c2] at ca
  generalize har : z_cnt A.2.1 q = ar at ca hcq2
  have ca : z_a (z_bd A.2.1 k') i' = nI ar := ca.symm
  have hac : (z_a (z_bd A.2.1 k') i').toNatClampNeg = ar := by rw [ca, nI_clamp (by omega)]
  have hpp : z_p (z_bd A.2.1 k') i' = 1 + ar := by
    unfold z_p z_pn
    rw [k7, ca, nI_clamp (by omega)]; simp
  rw [ca] at ea
  have e282 := f282_sp (S := S) hM hb hwf ho.1 (z_v (z_bd A.2.1 k') i') (nI ar)
  have esub : nI (2000 + q) - 2000 = nI q := by
    show nI (2000 + q) - nI 2000 = nI q
    rw [pk_sub (by omega), Nat.add_sub_cancel_left]
  obtain ⟨m3, e258, r17, fr3⟩ := f258_sp (S := S) (m := m2) (B := 0) hb hM hwf rfl hRT h0.2.1 c2 c3
  have hmF3 : z_mF m2 m3 := ⟨fun j _ => by rw [fr3 _ (by decide)], fun a x1 x2 => fr3 a (by omega), fun j _ => by rw [fr3 _ (by decide)], fun a ha => fr3 a (by omega)⟩
  have h3 := z_m0_mF hmF3 h0
  have fr03 : ∀ b, b < 2390 ∨ 2424 ≤ b → m3 b = m b := fun b hb => (hmF3.2.2.2 b hb).trans (fr0 b hb)
  have hrq := r17 q c2
  have a1 := f274_sp (S := S) hM hwf h3.1.2.1 hk' c2 (-1)
  have a1 : f274 2390 (nI k') (nI q) (-1) (z_hp S m3) = some (z_n1 A.2.1 k' q, z_hp S m3) := by
    have ef : z_fn (fun n => nI n == -1 || (z_has A.2.1 k' n || z_has A.2.1 q n)) = z_n1 A.2.1 k' q := z_fn_congr (fun n hn => by
      rw [show (nI n == -1) = false by simpa using z_nI_m1 (d := n) (by omega), Bool.false_or]; rfl)
    rw [a1, ef]
  have a2 : f274 2390 (nI k') (nI q) (z_n1 A.2.1 k' q) (z_hp S m3) = some (z_n2 A.2.1 k' q, z_hp S m3) := f274_sp (S := S) hM hwf h3.1.2.1 hk' c2 (z_n1 A.2.1 k' q)
  have eR : z_inR A.2.1 k' i' = if z_hmb A.2.1 (z_own A.2.1 k') (z_v (z_bd A.2.1 k') i') (nI ar) = true then -3 else if z_rch A.2.1 q q = true then -4 else if 0 < ar ∧ z_n1 A.2.1 k' q = -1 then -6 else if 1 < ar ∧ z_n2 A.2.1 k' q = -1 then -6 else if ¬ z_wr (z_sM A.2.1 k' (z_hd A.2.1 k') (z_inN A.2.1 k' i')) = -1 then -8 else if 60 < (z_inN A.2.1 k' i').length then -6 else nI (z_inN A.2.1 k' i').length := by
    unfold z_inR
    rw [if_neg g0, ca, hqq, nI_clamp (by omega)]
  have eN : z_inN A.2.1 k' i' = z_inD A.2.1 k' i' q ar (z_n1 A.2.1 k' q) (z_n2 A.2.1 k' q) := by unfold z_inN; rw [hqq, hac]
  by_cases y1 : z_hmb A.2.1 (z_own A.2.1 k') (z_v (z_bd A.2.1 k') i') (nI ar) = true
  · have er : z_inR A.2.1 k' i' = -3 := by rw [eR, if_pos y1]
    rw [er]
    rw [y1] at e282
    refine m_no hw (by decide) (m' := m2) ?_ h0.1 h0.2.2 fr0
    unfold f284 f284_26
    simp (disch := ((try simp only [true_or, or_true, hM.k, hM.k2391, hM.k2392, hM.k2393, hM.k2394, hM.k2395, hM.k2396, hM.k2397, hM.k2398, hM.k2399, hM.k2400, hM.k2401, hM.k2402, hM.k2403, hM.k2404, hM.k2405, hM.k2406, hM.k2407, hM.k2408, hM.k2409, hM.k2410, hM.k2411, hM.k2412, hM.k2413, hM.k2414, hM.k2415, hM.k2416, hM.k2417, hM.k2418, hM.k2419, hM.k2420, hM.k2421, hM.k2422, hM.k2423, hM.l2391, hM.l2392, hM.l2393, hM.l2394, hM.l2395, hM.l2396, hM.l2397, hM.l2398, hM.l2399, hM.l2400, hM.l2401, hM.l2402, hM.l2403, hM.l2404, hM.l2405, hM.l2406, hM.l2407, hM.l2408, hM.l2409, hM.l2410, hM.l2411, hM.l2412, hM.l2413, hM.l2414, hM.l2415, hM.l2416, hM.l2417, hM.l2418, hM.l2419, hM.l2420, hM.l2421, hM.l2422, hM.l2423]) <;> (try omega))) only [↓reduceIte, ↓z_ite, ↓zR, ↓zB_R, ↓zB_B, ↓zB_ite, ↓zB_gI, ↓zB_pI, ↓zB_pZ, ↓zB_aK, ↓zB_G, ↓zB_lI, ↓zB_lZ, ↓zB_wI, ↓zB_wZ, ↓zB_lIl, ↓zB_wIl, zB_pI, zB_pZ, zB_lI, zB_lZ, zB_wI, zB_wZ, z_addl, z_ladd, z_mull, z_lmul, nI_add, z_subl, Nat.not_lt_zero, z_10, z_01, z_bitc, z_b0, z_b1, ↓zB_Gb, ↓zB_G0, ↓zB_G1, z_eql, z_leq, z_ltl, z_llt, z_eq, z_lt, z_m1lt, hM.k, hM.k2391, hM.k2392, hM.k2393, hM.k2394, hM.k2395, hM.k2396, hM.k2397, hM.k2398, hM.k2399, hM.k2400, hM.k2401, hM.k2402, hM.k2403, hM.k2404, hM.k2405, hM.k2406, hM.k2407, hM.k2408, hM.k2409, hM.k2410, hM.k2411, hM.k2412, hM.k2413, hM.k2414, hM.k2415, hM.k2416, hM.k2417, hM.k2418, hM.k2419, hM.k2420, hM.k2421, hM.k2422, hM.k2423, hM.l2391, hM.l2392, hM.l2393, hM.l2394, hM.l2395, hM.l2396, hM.l2397, hM.l2398, hM.l2399, hM.l2400, hM.l2401, hM.l2402, hM.l2403, hM.l2404, hM.l2405, hM.l2406, hM.l2407, hM.l2408, hM.l2409, hM.l2410, hM.l2411, hM.l2412, hM.l2413, hM.l2414, hM.l2415, hM.l2416, hM.l2417, hM.l2418, hM.l2419, hM.l2420, hM.l2421, hM.l2422, hM.l2423, ↓hM.g1, ↓hM.g5, ↓hM.g6, ↓hM.g7, ↓hM.g8, ↓hM.g9, ↓hM.g10, ↓hM.g11, ↓hM.g12, ↓hM.g13, ↓hM.g14, ↓hM.g16, ↓hM.g17, ↓hM.g18, ↓hM.g19, ↓hM.g21, ↓hM.g22, ↓hM.g23, ↓hM.g24, ↓hM.g25, ↓hM.g27, ↓hM.g28, ↓hM.g30, ↓hM.g31, ↓hM.g32, ↓hM.g36, ↓hM.g37, ↓hM.g39, ↓hM.g40, ↓hM.g41, ↓hM.g43, ↓hM.g45, ↓hM.g46, ↓zB_c e239, zB_c e239, Bool.true_eq_false, ↓zB_c e272, zB_c e272, ↓zB_c e178, zB_c e178, ↓zB_c ek, zB_c ek, k7, ↓zB_c ek1, zB_c ek1, kT, ↓zB_c ea, zB_c ea, ↓zB_c e268, zB_c e268, ↓zB_c e1, zB_c e1, ↓zB_c ev, zB_c ev, ↓zB_c e282, zB_c e282]
  have y1' : z_hmb A.2.1 (z_own A.2.1 k') (z_v (z_bd A.2.1 k') i') (nI ar) = false := by simpa using y1
  rw [y1'] at e282
  by_cases y2 : z_rch A.2.1 q q = true
  · have er : z_inR A.2.1 k' i' = -4 := by rw [eR, if_neg y1, if_pos y2]
    rw [er]
    rw [y2] at hrq
    refine m_no hw (by decide) (m' := m3) ?_ h3.1 h3.2.2 fr03
    unfold f284 f284_26
    simp (disch := ((try simp only [true_or, or_true, hM.k, hM.k2391, hM.k2392, hM.k2393, hM.k2394, hM.k2395, hM.k2396, hM.k2397, hM.k2398, hM.k2399, hM.k2400, hM.k2401, hM.k2402, hM.k2403, hM.k2404, hM.k2405, hM.k2406, hM.k2407, hM.k2408, hM.k2409, hM.k2410, hM.k2411, hM.k2412, hM.k2413, hM.k2414, hM.k2415, hM.k2416, hM.k2417, hM.k2418, hM.k2419, hM.k2420, hM.k2421, hM.k2422, hM.k2423, hM.l2391, hM.l2392, hM.l2393, hM.l2394, hM.l2395, hM.l2396, hM.l2397, hM.l2398, hM.l2399, hM.l2400, hM.l2401, hM.l2402, hM.l2403, hM.l2404, hM.l2405, hM.l2406, hM.l2407, hM.l2408, hM.l2409, hM.l2410, hM.l2411, hM.l2412, hM.l2413, hM.l2414, hM.l2415, hM.l2416, hM.l2417, hM.l2418, hM.l2419, hM.l2420, hM.l2421, hM.l2422, hM.l2423]) <;> (try omega))) only [↓reduceIte, ↓z_ite, ↓zR, ↓zB_R, ↓zB_B, ↓zB_ite, ↓zB_gI, ↓zB_pI, ↓zB_pZ, ↓zB_aK, ↓zB_G, ↓zB_lI, ↓zB_lZ, ↓zB_wI, ↓zB_wZ, ↓zB_lIl, ↓zB_wIl, zB_pI, zB_pZ, zB_lI, zB_lZ, zB_wI, zB_wZ, z_addl, z_ladd, z_mull, z_lmul, nI_add, z_subl, Nat.not_lt_zero, z_10, z_01, z_bitc, z_b0, z_b1, ↓zB_Gb, ↓zB_G0, ↓zB_G1, z_eql, z_leq, z_ltl, z_llt, z_eq, z_lt, z_m1lt, hM.k, hM.k2391, hM.k2392, hM.k2393, hM.k2394, hM.k2395, hM.k2396, hM.k2397, hM.k2398, hM.k2399, hM.k2400, hM.k2401, hM.k2402, hM.k2403, hM.k2404, hM.k2405, hM.k2406, hM.k2407, hM.k2408, hM.k2409, hM.k2410, hM.k2411, hM.k2412, hM.k2413, hM.k2414, hM.k2415, hM.k2416, hM.k2417, hM.k2418, hM.k2419, hM.k2420, hM.k2421, hM.k2422, hM.k2423, hM.l2391, hM.l2392, hM.l2393, hM.l2394, hM.l2395, hM.l2396, hM.l2397, hM.l2398, hM.l2399, hM.l2400, hM.l2401, hM.l2402, hM.l2403, hM.l2404, hM.l2405, hM.l2406, hM.l2407, hM.l2408, hM.l2409, hM.l2410, hM.l2411, hM.l2412, hM.l2413, hM.l2414, hM.l2415, hM.l2416, hM.l2417, hM.l2418, hM.l2419, hM.l2420, hM.l2421, hM.l2422, hM.l2423, ↓hM.g1, ↓hM.g5, ↓hM.g6, ↓hM.g7, ↓hM.g8, ↓hM.g9, ↓hM.g10, ↓hM.g11, ↓hM.g12, ↓hM.g13, ↓hM.g14, ↓hM.g16, ↓hM.g17, ↓hM.g18, ↓hM.g19, ↓hM.g21, ↓hM.g22, ↓hM.g23, ↓hM.g24, ↓hM.g25, ↓hM.g27, ↓hM.g28, ↓hM.g30, ↓hM.g31, ↓hM.g32, ↓hM.g36, ↓hM.g37, ↓hM.g39, ↓hM.g40, ↓hM.g41, ↓hM.g43, ↓hM.g45, ↓hM.g46, ↓zB_c e239, zB_c e239, Bool.true_eq_false, ↓zB_c e272, zB_c e272, ↓zB_c e178, zB_c e178, ↓zB_c ek, zB_c ek, k7, ↓zB_c ek1, zB_c ek1, kT, ↓zB_c ea, zB_c ea, ↓zB_c e268, zB_c e268, ↓zB_c e1, zB_c e1, ↓zB_c ev, zB_c ev, ↓zB_c e282, zB_c e282, esub, ↓zB_c e258, zB_c e258, hrq]
  have y2' : z_rch A.2.1 q q = false := by simpa using y2
  rw [y2'] at hrq
  have st : f284 2390 (nI k') (nI i') (z_hp S m) = (if 0 < nI ar then (if z_n1 A.2.1 k' q = -1 then f284_169 else f284_158 2390 (nI k') (nI i') (nI ar) (nI q) (z_n1 A.2.1 k' q) (z_n2 A.2.1 k' q)) else f284_158 2390 (nI k') (nI i') (nI ar) (nI q) (z_n1 A.2.1 k' q) (z_n2 A.2.1 k' q)) (z_hp S m3) := by
    unfold f284 f284_26
    simp (disch := ((try simp only [true_or, or_true, hM.k, hM.k2391, hM.k2392, hM.k2393, hM.k2394, hM.k2395, hM.k2396, hM.k2397, hM.k2398, hM.k2399, hM.k2400, hM.k2401, hM.k2402, hM.k2403, hM.k2404, hM.k2405, hM.k2406, hM.k2407, hM.k2408, hM.k2409, hM.k2410, hM.k2411, hM.k2412, hM.k2413, hM.k2414, hM.k2415, hM.k2416, hM.k2417, hM.k2418, hM.k2419, hM.k2420, hM.k2421, hM.k2422, hM.k2423, hM.l2391, hM.l2392, hM.l2393, hM.l2394, hM.l2395, hM.l2396, hM.l2397, hM.l2398, hM.l2399, hM.l2400, hM.l2401, hM.l2402, hM.l2403, hM.l2404, hM.l2405, hM.l2406, hM.l2407, hM.l2408, hM.l2409, hM.l2410, hM.l2411, hM.l2412, hM.l2413, hM.l2414, hM.l2415, hM.l2416, hM.l2417, hM.l2418, hM.l2419, hM.l2420, hM.l2421, hM.l2422, hM.l2423]) <;> (try omega))) only [↓reduceIte, ↓z_ite, ↓zR, ↓zB_R, ↓zB_B, ↓zB_ite, ↓zB_gI, ↓zB_pI, ↓zB_pZ, ↓zB_aK, ↓zB_G, ↓zB_lI, ↓zB_lZ, ↓zB_wI, ↓zB_wZ, ↓zB_lIl, ↓zB_wIl, zB_pI, zB_pZ, zB_lI, zB_lZ, zB_wI, zB_wZ, z_addl, z_ladd, z_mull, z_lmul, nI_add, z_subl, Nat.not_lt_zero, z_10, z_01, z_bitc, z_b0, z_b1, ↓zB_Gb, ↓zB_G0, ↓zB_G1, z_eql, z_leq, z_ltl, z_llt, z_eq, z_lt, z_m1lt, hM.k, hM.k2391, hM.k2392, hM.k2393, hM.k2394, hM.k2395, hM.k2396, hM.k2397, hM.k2398, hM.k2399, hM.k2400, hM.k2401, hM.k2402, hM.k2403, hM.k2404, hM.k2405, hM.k2406, hM.k2407, hM.k2408, hM.k2409, hM.k2410, hM.k2411, hM.k2412, hM.k2413, hM.k2414, hM.k2415, hM.k2416, hM.k2417, hM.k2418, hM.k2419, hM.k2420, hM.k2421, hM.k2422, hM.k2423, hM.l2391, hM.l2392, hM.l2393, hM.l2394, hM.l2395, hM.l2396, hM.l2397, hM.l2398, hM.l2399, hM.l2400, hM.l2401, hM.l2402, hM.l2403, hM.l2404, hM.l2405, hM.l2406, hM.l2407, hM.l2408, hM.l2409, hM.l2410, hM.l2411, hM.l2412, hM.l2413, hM.l2414, hM.l2415, hM.l2416, hM.l2417, hM.l2418, hM.l2419, hM.l2420, hM.l2421, hM.l2422, hM.l2423, ↓hM.g1, ↓hM.g5, ↓hM.g6, ↓hM.g7, ↓hM.g8, ↓hM.g9, ↓hM.g10, ↓hM.g11, ↓hM.g12, ↓hM.g13, ↓hM.g14, ↓hM.g16, ↓hM.g17, ↓hM.g18, ↓hM.g19, ↓hM.g21, ↓hM.g22, ↓hM.g23, ↓hM.g24, ↓hM.g25, ↓hM.g27, ↓hM.g28, ↓hM.g30, ↓hM.g31, ↓hM.g32, ↓hM.g36, ↓hM.g37, ↓hM.g39, ↓hM.g40, ↓hM.g41, ↓hM.g43, ↓hM.g45, ↓hM.g46, ↓zB_c e239, zB_c e239, Bool.true_eq_false, ↓zB_c e272, zB_c e272, ↓zB_c e178, zB_c e178, ↓zB_c ek, zB_c ek, k7, ↓zB_c ek1, zB_c ek1, kT, ↓zB_c ea, zB_c ea, ↓zB_c e268, zB_c e268, ↓zB_c e1, zB_c e1, ↓zB_c ev, zB_c ev, ↓zB_c e282, zB_c e282, esub, ↓zB_c e258, zB_c e258, hrq, ↓zB_c a1, zB_c a1, ↓zB_c a2, zB_c a2]
  by_cases y3 : 0 < ar ∧ z_n1 A.2.1 k' q = -1
  · have er : z_inR A.2.1 k' i' = -6 := by rw [eR, if_neg y1, if_neg y2, if_pos y3]
    rw [er]
    refine m_no hw (by decide) (m' := m3) ?_ h3.1 h3.2.2 fr03
    rw [st]
    unfold f284_169
    have y31 := y3.1
    have y32 := y3.2
    simp (disch := ((try simp only [true_or, or_true]) <;> (try omega))) only [↓reduceIte, ↓z_ite, ↓zR, ↓zB_R, ↓zB_B, ↓zB_ite, ↓zB_gI, ↓zB_pI, ↓zB_pZ, ↓zB_aK, ↓zB_G, ↓zB_lI, ↓zB_lZ, ↓zB_wI, ↓zB_wZ, ↓zB_lIl, ↓zB_wIl, zB_pI, zB_pZ, zB_lI, zB_lZ, zB_wI, zB_wZ, z_addl, z_ladd, z_mull, z_lmul, nI_add, z_subl, Nat.not_lt_zero, z_10, z_01, z_bitc, z_b0, z_b1, ↓zB_Gb, ↓zB_G0, ↓zB_G1, z_eql, z_leq, z_ltl, z_llt, z_eq, z_lt, z_m1lt, y31, y32]
  have st2 : f284 2390 (nI k') (nI i') (z_hp S m) = f284_158 2390 (nI k') (nI i') (nI ar) (nI q) (z_n1 A.2.1 k' q) (z_n2 A.2.1 k' q) (z_hp S m3) := by
    rw [st]
    by_cases g : 0 < ar
    · have : ¬ z_n1 A.2.1 k' q = -1 := fun e => y3 ⟨g, e⟩
      simp (disch := ((try simp only [true_or, or_true]) <;> (try omega))) only [↓reduceIte, ↓z_ite, ↓zR, ↓zB_R, ↓zB_B, ↓zB_ite, ↓zB_gI, ↓zB_pI, ↓zB_pZ, ↓zB_aK, ↓zB_G, ↓zB_lI, ↓zB_lZ, ↓zB_wI, ↓zB_wZ, ↓zB_lIl, ↓zB_wIl, zB_pI, zB_pZ, zB_lI, zB_lZ, zB_wI, zB_wZ, z_addl, z_ladd, z_mull, z_lmul, nI_add, z_subl, Nat.not_lt_zero, z_10, z_01, z_bitc, z_b0, z_b1, ↓zB_Gb, ↓zB_G0, ↓zB_G1, z_eql, z_leq, z_ltl, z_llt, z_eq, z_lt, z_m1lt, g, this]
    · simp (disch := ((try simp only [true_or, or_true]) <;> (try omega))) only [↓reduceIte, ↓z_ite, ↓zR, ↓zB_R, ↓zB_B, ↓zB_ite, ↓zB_gI, ↓zB_pI, ↓zB_pZ, ↓zB_aK, ↓zB_G, ↓zB_lI, ↓zB_lZ, ↓zB_wI, ↓zB_wZ, ↓zB_lIl, ↓zB_wIl, zB_pI, zB_pZ, zB_lI, zB_lZ, zB_wI, zB_wZ, z_addl, z_ladd, z_mull, z_lmul, nI_add, z_subl, Nat.not_lt_zero, z_10, z_01, z_bitc, z_b0, z_b1, ↓zB_Gb, ↓zB_G0, ↓zB_G1, z_eql, z_leq, z_ltl, z_llt, z_eq, z_lt, z_m1lt, g]
  by_cases y4 : 1 < ar ∧ z_n2 A.2.1 k' q = -1
  · have er : z_inR A.2.1 k' i' = -6 := by rw [eR, if_neg y1, if_neg y2, if_neg y3, if_pos y4]
    rw [er]
    refine m_no hw (by decide) (m' := m3) ?_ h3.1 h3.2.2 fr03
    rw [st2]
    unfold f284_158 f284_169
    have y41 := y4.1
    have y42 := y4.2
    simp (disch := ((try simp only [true_or, or_true]) <;> (try omega))) only [↓reduceIte, ↓z_ite, ↓zR, ↓zB_R, ↓zB_B, ↓zB_ite, ↓zB_gI, ↓zB_pI, ↓zB_pZ, ↓zB_aK, ↓zB_G, ↓zB_lI, ↓zB_lZ, ↓zB_wI, ↓zB_wZ, ↓zB_lIl, ↓zB_wIl, zB_pI, zB_pZ, zB_lI, zB_lZ, zB_wI, zB_wZ, z_addl, z_ladd, z_mull, z_lmul, nI_add, z_subl, Nat.not_lt_zero, z_10, z_01, z_bitc, z_b0, z_b1, ↓zB_Gb, ↓zB_G0, ↓zB_G1, z_eql, z_leq, z_ltl, z_llt, z_eq, z_lt, z_m1lt, y41, y42]
  have st3 : f284 2390 (nI k') (nI i') (z_hp S m) = f284_172 2390 (nI k') (nI i') (nI ar) (nI q) (z_n1 A.2.1 k' q) (z_n2 A.2.1 k' q) (z_hp S m3) := by
    rw [st2]
    unfold f284_158
    by_cases g : 1 < ar
    · have : ¬ z_n2 A.2.1 k' q = -1 := fun e => y4 ⟨g, e⟩
      simp (disch := ((try simp only [true_or, or_true]) <;> (try omega))) only [↓reduceIte, ↓z_ite, ↓zR, ↓zB_R, ↓zB_B, ↓zB_ite, ↓zB_gI, ↓zB_pI, ↓zB_pZ, ↓zB_aK, ↓zB_G, ↓zB_lI, ↓zB_lZ, ↓zB_wI, ↓zB_wZ, ↓zB_lIl, ↓zB_wIl, zB_pI, zB_pZ, zB_lI, zB_lZ, zB_wI, zB_wZ, z_addl, z_ladd, z_mull, z_lmul, nI_add, z_subl, Nat.not_lt_zero, z_10, z_01, z_bitc, z_b0, z_b1, ↓zB_Gb, ↓zB_G0, ↓zB_G1, z_eql, z_leq, z_ltl, z_llt, z_eq, z_lt, z_m1lt, g, this]
    · simp (disch := ((try simp only [true_or, or_true]) <;> (try omega))) only [↓reduceIte, ↓z_ite, ↓zR, ↓zB_R, ↓zB_B, ↓zB_ite, ↓zB_gI, ↓zB_pI, ↓zB_pZ, ↓zB_aK, ↓zB_G, ↓zB_lI, ↓zB_lZ, ↓zB_wI, ↓zB_wZ, ↓zB_lIl, ↓zB_wIl, zB_pI, zB_pZ, zB_lI, zB_lZ, zB_wI, zB_wZ, z_addl, z_ladd, z_mull, z_lmul, nI_add, z_subl, Nat.not_lt_zero, z_10, z_01, z_bitc, z_b0, z_b1, ↓zB_Gb, ↓zB_G0, ↓zB_G1, z_eql, z_leq, z_ltl, z_llt, z_eq, z_lt, z_m1lt, g]
  -- the rows
  obtain ⟨m4, e203, h4, mb4, mz4, mF4, fr4⟩ := f203_w (S := S) hM h3
  obtain ⟨o1, o2⟩ := z_ol_nil (S := S) (m := m4) hM
  have h4' := z_m0_mF o2.mF h4
  obtain ⟨m5, e262, ol5, F5⟩ := f262_sp (S := S) hM h4'.1.2.1 hk' (Nat.zero_le i') (Nat.le_of_lt hi') o1 (by show 0 + (i' - 0) ≤ 400; omega)
  rw [List.nil_append] at ol5
  have e262 : f262 2390 (nI k') 0 (nI i') (z_hp S (z_up m4 2390 38 0)) = some ((), z_hp S m5) := e262
  have h5 := z_m0_mF F5.mF h4'
  obtain ⟨m6, e193, ol6, F6⟩ := f284_193_sp (S := S) (q := q) (n1 := z_n1 A.2.1 k' q) (n2 := z_n2 A.2.1 k' q) hM hwf h60 h5.1.2.1 h5.2.1 hk' hl hi' hpp hcq2 ol5
  have h6 := z_m0_mF F6.mF h5
  have lP := z_inP_len hwf hk' hi' (show ar < z_p (z_bd A.2.1 k') i' by omega) hcq2 (z_n1 A.2.1 k' q) (z_n2 A.2.1 k' q)
  have hle := z_en_le hB.1 hi'
  have hlq := h60 q c2
  obtain ⟨m7, e285, ol7, F7⟩ := f285_sp (S := S) hM hwf h60 hRT h6.1.2.1 h6.2.1 hk' hl hi' c2 c3 (n1 := z_n1 A.2.1 k' q) (n2 := z_n2 A.2.1 k' q) ol6 (by omega)
  have h7 := z_m0_mF F7.mF h6
  have lB : (z_inB A.2.1 k' i' q (z_n1 A.2.1 k' q) (z_n2 A.2.1 k' q)).length ≤ 120 := by
    have := z_cat_le (f := z_ing A.2.1 k' i' q (z_n1 A.2.1 k' q) (z_n2 A.2.1 k' q)) (c := 2) (z_bd A.2.1 q).length (fun j _ => z_ing_len A.2.1 k' i' q (z_n1 A.2.1 k' q) (z_n2 A.2.1 k' q) j)
    unfold z_inB; omega
  have e269 := f269_sp (S := S) hM (h7.2.1 k' hk' hl) (by omega) (by omega) hi'
  have hadd : nI i' + nI (z_sz (z_bd A.2.1 k') i') = nI (z_en (z_bd A.2.1 k') i') := nI_add _ _
  have e270 := f270_sp (S := S) hM h7.1.2.1 hk'
  obtain ⟨m8, e262b, ol8, F8⟩ := f262_sp (S := S) hM h7.1.2.1 hk' hle (Nat.le_refl _) ol7 (by rw [List.length_append]; omega)
  have ol8 : z_ol m8 (z_inN A.2.1 k' i') := by rw [eN]; exact ol8
  have lD : (z_inN A.2.1 k' i').length ≤ 182 := by
    rw [eN]
    show (((z_inP A.2.1 k' i' ar (z_n1 A.2.1 k' q) (z_n2 A.2.1 k' q)) ++ z_inB A.2.1 k' i' q (z_n1 A.2.1 k' q) (z_n2 A.2.1 k' q)) ++ z_sub (z_bd A.2.1 k') (z_en (z_bd A.2.1 k') i') (z_bd A.2.1 k').length).length ≤ 182
    rw [List.length_append, List.length_append, z_sub_len hle (Nat.le_refl _)]; omega
  obtain ⟨m9, e264, l1, l2, l3⟩ := f264_sp (S := S) hM (k := k') (by omega) ol8 (by omega)
  have F48 := (((o2.trans F5).trans F6).trans F7).trans F8
  have K9 : z_wK m4 m9 := F48.wK.trans (l3.wK (by omega))
  have h9 := z_m0_wK K9 h4
  have mb9 : z_mb m9 2 (z_inQ A.2.1 k' i') := z_mb_lay (m := m8) (z_mb_eF F48 mb4) (j := k') hk' (by omega) l1 l2 l3
  have c38 : m9 2390 38 = nI (z_inN A.2.1 k' i').length := by rw [l3.1 2390 (by decide)]; exact ol8.1
  -- as it should be
  obtain ⟨t1, ht1, en1⟩ : ∃ t, t < 16 ∧ (0 < ar → z_n1 A.2.1 k' q = nI t) := by
    rcases z_n1_c A.2.1 k' q with h | ⟨t, ht, h⟩
    · exact ⟨0, by decide, fun g => absurd ⟨g, h⟩ y3⟩
    · exact ⟨t, ht, fun _ => h⟩
  obtain ⟨t2, ht2, en2⟩ : ∃ t, t < 16 ∧ (1 < ar → z_n2 A.2.1 k' q = nI t) := by
    rcases z_n2_c A.2.1 k' q with h | ⟨t, ht, h⟩
    · exact ⟨0, by decide, fun g => absurd ⟨g, h⟩ y4⟩
    · exact ⟨t, ht, fun _ => h⟩
  have hN : z_wB (z_nc A.2.1) (z_inN A.2.1 k' i') := by
    rw [eN, z_inD_cg hwf c2 (by omega) har en1 en2]
    exact z_inD_wB hwf hk' hi' c2 ht1 ht2 (by omega) hcq2
  have hQw : z_wf (z_inQ A.2.1 k' i') := z_sM_wf hwf hk' (z_wHf_of (hwf.2.2.2.1 k' hk')) hN (fun _ j hj hne hlj e2 e3 eo => hne (hwf.2.2.2.2.2 j k' hj hk' hlj hl e2 e3 eo))
  obtain ⟨m10, e235, hF10, _⟩ := f235_sp (S := S) (B := 2) mb9 hM hQw rfl
  have h10 := z_MR_LF h9.1 hF10
  have c10 : m10 2390 0 = 0 := by rw [hF10 _ (by decide) (by decide) (by decide) (by decide)]; exact h9.2.2
  have c1038 : m10 2390 38 = nI (z_inN A.2.1 k' i').length := by rw [hF10 _ (by decide) (by decide) (by decide) (by decide)]; exact c38
  have fr10 : ∀ b, b < 2390 ∨ 2424 ≤ b → m10 b = m b := fun b hb => by
    rw [hF10 b (by omega) (by omega) (by omega) (by omega), K9.mF.2.2.2 b hb, fr4 b (by omega)]; exact fr03 b hb
  have st4 : f284 2390 (nI k') (nI i') (z_hp S m) = m_B (f235 2390 2) (fun v12 => if v12 = (-1) then (m_B (m_gI 12 2390 38) (fun v13 => m_B (m_aK 2390 12) (fun _ => m_B (f271 2390) (fun v15 => if v15 = 0 then (f284_319 (-6)) else (f284_319 v13))))) else (m_R (-8))) (z_hp S m9) := by
    rw [st3]
    unfold f284_172
    simp (disch := ((try simp only [true_or, or_true, hM.k, hM.k2391, hM.k2392, hM.k2393, hM.k2394, hM.k2395, hM.k2396, hM.k2397, hM.k2398, hM.k2399, hM.k2400, hM.k2401, hM.k2402, hM.k2403, hM.k2404, hM.k2405, hM.k2406, hM.k2407, hM.k2408, hM.k2409, hM.k2410, hM.k2411, hM.k2412, hM.k2413, hM.k2414, hM.k2415, hM.k2416, hM.k2417, hM.k2418, hM.k2419, hM.k2420, hM.k2421, hM.k2422, hM.k2423, hM.l2391, hM.l2392, hM.l2393, hM.l2394, hM.l2395, hM.l2396, hM.l2397, hM.l2398, hM.l2399, hM.l2400, hM.l2401, hM.l2402, hM.l2403, hM.l2404, hM.l2405, hM.l2406, hM.l2407, hM.l2408, hM.l2409, hM.l2410, hM.l2411, hM.l2412, hM.l2413, hM.l2414, hM.l2415, hM.l2416, hM.l2417, hM.l2418, hM.l2419, hM.l2420, hM.l2421, hM.l2422, hM.l2423]) <;> (try omega))) only [↓reduceIte, ↓z_ite, ↓zR, ↓zB_R, ↓zB_B, ↓zB_ite, ↓zB_gI, ↓zB_pI, ↓zB_pZ, ↓zB_aK, ↓zB_G, ↓zB_lI, ↓zB_lZ, ↓zB_wI, ↓zB_wZ, ↓zB_lIl, ↓zB_wIl, zB_pI, zB_pZ, zB_lI, zB_lZ, zB_wI, zB_wZ, z_addl, z_ladd, z_mull, z_lmul, nI_add, z_subl, Nat.not_lt_zero, z_10, z_01, z_bitc, z_b0, z_b1, ↓zB_Gb, ↓zB_G0, ↓zB_G1, z_eql, z_leq, z_ltl, z_llt, z_eq, z_lt, z_m1lt, hM.k, hM.k2391, hM.k2392, hM.k2393, hM.k2394, hM.k2395, hM.k2396, hM.k2397, hM.k2398, hM.k2399, hM.k2400, hM.k2401, hM.k2402, hM.k2403, hM.k2404, hM.k2405, hM.k2406, hM.k2407, hM.k2408, hM.k2409, hM.k2410, hM.k2411, hM.k2412, hM.k2413, hM.k2414, hM.k2415, hM.k2416, hM.k2417, hM.k2418, hM.k2419, hM.k2420, hM.k2421, hM.k2422, hM.k2423, hM.l2391, hM.l2392, hM.l2393, hM.l2394, hM.l2395, hM.l2396, hM.l2397, hM.l2398, hM.l2399, hM.l2400, hM.l2401, hM.l2402, hM.l2403, hM.l2404, hM.l2405, hM.l2406, hM.l2407, hM.l2408, hM.l2409, hM.l2410, hM.l2411, hM.l2412, hM.l2413, hM.l2414, hM.l2415, hM.l2416, hM.l2417, hM.l2418, hM.l2419, hM.l2420, hM.l2421, hM.l2422, hM.l2423, ↓hM.g1, ↓hM.g5, ↓hM.g6, ↓hM.g7, ↓hM.g8, ↓hM.g9, ↓hM.g10, ↓hM.g11, ↓hM.g12, ↓hM.g13, ↓hM.g14, ↓hM.g16, ↓hM.g17, ↓hM.g18, ↓hM.g19, ↓hM.g21, ↓hM.g22, ↓hM.g23, ↓hM.g24, ↓hM.g25, ↓hM.g27, ↓hM.g28, ↓hM.g30, ↓hM.g31, ↓hM.g32, ↓hM.g36, ↓hM.g37, ↓hM.g39, ↓hM.g40, ↓hM.g41, ↓hM.g43, ↓hM.g45, ↓hM.g46, ↓zB_c e203, zB_c e203, ↓zB_c e262, zB_c e262]
    rw [e193]
    unfold f284_252
    simp (disch := ((try simp only [true_or, or_true, hM.k, hM.k2391, hM.k2392, hM.k2393, hM.k2394, hM.k2395, hM.k2396, hM.k2397, hM.k2398, hM.k2399, hM.k2400, hM.k2401, hM.k2402, hM.k2403, hM.k2404, hM.k2405, hM.k2406, hM.k2407, hM.k2408, hM.k2409, hM.k2410, hM.k2411, hM.k2412, hM.k2413, hM.k2414, hM.k2415, hM.k2416, hM.k2417, hM.k2418, hM.k2419, hM.k2420, hM.k2421, hM.k2422, hM.k2423, hM.l2391, hM.l2392, hM.l2393, hM.l2394, hM.l2395, hM.l2396, hM.l2397, hM.l2398, hM.l2399, hM.l2400, hM.l2401, hM.l2402, hM.l2403, hM.l2404, hM.l2405, hM.l2406, hM.l2407, hM.l2408, hM.l2409, hM.l2410, hM.l2411, hM.l2412, hM.l2413, hM.l2414, hM.l2415, hM.l2416, hM.l2417, hM.l2418, hM.l2419, hM.l2420, hM.l2421, hM.l2422, hM.l2423]) <;> (try omega))) only [↓reduceIte, ↓z_ite, ↓zR, ↓zB_R, ↓zB_B, ↓zB_ite, ↓zB_gI, ↓zB_pI, ↓zB_pZ, ↓zB_aK, ↓zB_G, ↓zB_lI, ↓zB_lZ, ↓zB_wI, ↓zB_wZ, ↓zB_lIl, ↓zB_wIl, zB_pI, zB_pZ, zB_lI, zB_lZ, zB_wI, zB_wZ, z_addl, z_ladd, z_mull, z_lmul, nI_add, z_subl, Nat.not_lt_zero, z_10, z_01, z_bitc, z_b0, z_b1, ↓zB_Gb, ↓zB_G0, ↓zB_G1, z_eql, z_leq, z_ltl, z_llt, z_eq, z_lt, z_m1lt, hM.k, hM.k2391, hM.k2392, hM.k2393, hM.k2394, hM.k2395, hM.k2396, hM.k2397, hM.k2398, hM.k2399, hM.k2400, hM.k2401, hM.k2402, hM.k2403, hM.k2404, hM.k2405, hM.k2406, hM.k2407, hM.k2408, hM.k2409, hM.k2410, hM.k2411, hM.k2412, hM.k2413, hM.k2414, hM.k2415, hM.k2416, hM.k2417, hM.k2418, hM.k2419, hM.k2420, hM.k2421, hM.k2422, hM.k2423, hM.l2391, hM.l2392, hM.l2393, hM.l2394, hM.l2395, hM.l2396, hM.l2397, hM.l2398, hM.l2399, hM.l2400, hM.l2401, hM.l2402, hM.l2403, hM.l2404, hM.l2405, hM.l2406, hM.l2407, hM.l2408, hM.l2409, hM.l2410, hM.l2411, hM.l2412, hM.l2413, hM.l2414, hM.l2415, hM.l2416, hM.l2417, hM.l2418, hM.l2419, hM.l2420, hM.l2421, hM.l2422, hM.l2423, ↓hM.g1, ↓hM.g5, ↓hM.g6, ↓hM.g7, ↓hM.g8, ↓hM.g9, ↓hM.g10, ↓hM.g11, ↓hM.g12, ↓hM.g13, ↓hM.g14, ↓hM.g16, ↓hM.g17, ↓hM.g18, ↓hM.g19, ↓hM.g21, ↓hM.g22, ↓hM.g23, ↓hM.g24, ↓hM.g25, ↓hM.g27, ↓hM.g28, ↓hM.g30, ↓hM.g31, ↓hM.g32, ↓hM.g36, ↓hM.g37, ↓hM.g39, ↓hM.g40, ↓hM.g41, ↓hM.g43, ↓hM.g45, ↓hM.g46, ↓zB_c e285, zB_c e285, ↓zB_c e269, zB_c e269, hadd, ↓zB_c e270, zB_c e270, ↓zB_c e262b, zB_c e262b, ↓zB_c e264, zB_c e264]
  have eQ : z_sM A.2.1 k' (z_hd A.2.1 k') (z_inN A.2.1 k' i') = z_inQ A.2.1 k' i' := rfl
  rw [eQ] at eR
  have e2391 : m10 2391 = m9 2391 := hF10 _ (by decide) (by decide) (by decide) (by decide)
  have mb10 : z_mb m10 2 (z_inQ A.2.1 k' i') := z_mb_fr e2391 mb9
  by_cases g5 : ¬ z_wr (z_inQ A.2.1 k' i') = -1
  · have er : z_inR A.2.1 k' i' = -8 := by rw [eR, if_neg y1, if_neg y2, if_neg y3, if_neg y4, if_pos g5]
    rw [er]
    refine m_no hw (by decide) (m' := m10) ?_ h10 c10 fr10
    rw [st4, zB_c e235, if_neg g5]; rfl
  have g5' := Classical.not_not.mp g5
  rw [g5'] at e235
  by_cases g6 : 60 < (z_inN A.2.1 k' i').length
  · have er : z_inR A.2.1 k' i' = -6 := by rw [eR, if_neg y1, if_neg y2, if_neg y3, if_neg y4, if_neg g5, if_pos g6]
    rw [er]
    have e271 := f271_n (S := S) hM mb10 ⟨k', hk', by unfold z_inQ; rw [z_sM_hd_s]; simpa [z_liv] using hl, by unfold z_inQ; rw [z_sM_bd_s]; exact g6⟩
    refine m_no hw (by decide) (m' := m10) ?_ h10 c10 fr10
    rw [st4, zB_c e235, if_pos rfl]
    unfold f284_319
    simp (disch := ((try simp only [true_or, or_true, hM.k, hM.k2391, hM.k2392, hM.k2393, hM.k2394, hM.k2395, hM.k2396, hM.k2397, hM.k2398, hM.k2399, hM.k2400, hM.k2401, hM.k2402, hM.k2403, hM.k2404, hM.k2405, hM.k2406, hM.k2407, hM.k2408, hM.k2409, hM.k2410, hM.k2411, hM.k2412, hM.k2413, hM.k2414, hM.k2415, hM.k2416, hM.k2417, hM.k2418, hM.k2419, hM.k2420, hM.k2421, hM.k2422, hM.k2423, hM.l2391, hM.l2392, hM.l2393, hM.l2394, hM.l2395, hM.l2396, hM.l2397, hM.l2398, hM.l2399, hM.l2400, hM.l2401, hM.l2402, hM.l2403, hM.l2404, hM.l2405, hM.l2406, hM.l2407, hM.l2408, hM.l2409, hM.l2410, hM.l2411, hM.l2412, hM.l2413, hM.l2414, hM.l2415, hM.l2416, hM.l2417, hM.l2418, hM.l2419, hM.l2420, hM.l2421, hM.l2422, hM.l2423]) <;> (try omega))) only [↓reduceIte, ↓z_ite, ↓zR, ↓zB_R, ↓zB_B, ↓zB_ite, ↓zB_gI, ↓zB_pI, ↓zB_pZ, ↓zB_aK, ↓zB_G, ↓zB_lI, ↓zB_lZ, ↓zB_wI, ↓zB_wZ, ↓zB_lIl, ↓zB_wIl, zB_pI, zB_pZ, zB_lI, zB_lZ, zB_wI, zB_wZ, z_addl, z_ladd, z_mull, z_lmul, nI_add, z_subl, Nat.not_lt_zero, z_10, z_01, z_bitc, z_b0, z_b1, ↓zB_Gb, ↓zB_G0, ↓zB_G1, z_eql, z_leq, z_ltl, z_llt, z_eq, z_lt, z_m1lt, hM.k, hM.k2391, hM.k2392, hM.k2393, hM.k2394, hM.k2395, hM.k2396, hM.k2397, hM.k2398, hM.k2399, hM.k2400, hM.k2401, hM.k2402, hM.k2403, hM.k2404, hM.k2405, hM.k2406, hM.k2407, hM.k2408, hM.k2409, hM.k2410, hM.k2411, hM.k2412, hM.k2413, hM.k2414, hM.k2415, hM.k2416, hM.k2417, hM.k2418, hM.k2419, hM.k2420, hM.k2421, hM.k2422, hM.k2423, hM.l2391, hM.l2392, hM.l2393, hM.l2394, hM.l2395, hM.l2396, hM.l2397, hM.l2398, hM.l2399, hM.l2400, hM.l2401, hM.l2402, hM.l2403, hM.l2404, hM.l2405, hM.l2406, hM.l2407, hM.l2408, hM.l2409, hM.l2410, hM.l2411, hM.l2412, hM.l2413, hM.l2414, hM.l2415, hM.l2416, hM.l2417, hM.l2418, hM.l2419, hM.l2420, hM.l2421, hM.l2422, hM.l2423, ↓hM.g1, ↓hM.g5, ↓hM.g6, ↓hM.g7, ↓hM.g8, ↓hM.g9, ↓hM.g10, ↓hM.g11, ↓hM.g12, ↓hM.g13, ↓hM.g14, ↓hM.g16, ↓hM.g17, ↓hM.g18, ↓hM.g19, ↓hM.g21, ↓hM.g22, ↓hM.g23, ↓hM.g24, ↓hM.g25, ↓hM.g27, ↓hM.g28, ↓hM.g30, ↓hM.g31, ↓hM.g32, ↓hM.g36, ↓hM.g37, ↓hM.g39, ↓hM.g40, ↓hM.g41, ↓hM.g43, ↓hM.g45, ↓hM.g46, c1038, ↓zB_c e271, zB_c e271]
  · have er : z_inR A.2.1 k' i' = nI (z_inN A.2.1 k' i').length := by rw [eR, if_neg y1, if_neg y2, if_neg y3, if_neg y4, if_neg g5, if_neg g6]
    have rpos : ¬ z_inR A.2.1 k' i' < 0 := by rw [er]; exact nI_pos (by omega)
    obtain ⟨hQ1, hQ2⟩ := z_inQ_ok hwf h60 g3 hk' hl hi' rpos
    obtain ⟨m11, e271, t1', t2', t3'⟩ := f271_y (S := S) (Q := z_inQ A.2.1 k' i') hM hw h10 mb10 (z_mz_fr e2391 (K9.mz mz4)) rfl (fun j hj _ => hQ2 j hj)
    refine m_yes hw rpos (m' := m11) ?_ t1' (by rw [t3' 0 (by decide)]; exact c10) (fun b hb => by rw [t2' b (by omega) (by omega)]; exact fr10 b hb) hQ1 hQ2 rfl
    rw [st4, zB_c e235, if_pos rfl, er]
    unfold f284_319
    simp (disch := ((try simp only [true_or, or_true, hM.k, hM.k2391, hM.k2392, hM.k2393, hM.k2394, hM.k2395, hM.k2396, hM.k2397, hM.k2398, hM.k2399, hM.k2400, hM.k2401, hM.k2402, hM.k2403, hM.k2404, hM.k2405, hM.k2406, hM.k2407, hM.k2408, hM.k2409, hM.k2410, hM.k2411, hM.k2412, hM.k2413, hM.k2414, hM.k2415, hM.k2416, hM.k2417, hM.k2418, hM.k2419, hM.k2420, hM.k2421, hM.k2422, hM.k2423, hM.l2391, hM.l2392, hM.l2393, hM.l2394, hM.l2395, hM.l2396, hM.l2397, hM.l2398, hM.l2399, hM.l2400, hM.l2401, hM.l2402, hM.l2403, hM.l2404, hM.l2405, hM.l2406, hM.l2407, hM.l2408, hM.l2409, hM.l2410, hM.l2411, hM.l2412, hM.l2413, hM.l2414, hM.l2415, hM.l2416, hM.l2417, hM.l2418, hM.l2419, hM.l2420, hM.l2421, hM.l2422, hM.l2423]) <;> (try omega))) only [↓reduceIte, ↓z_ite, ↓zR, ↓zB_R, ↓zB_B, ↓zB_ite, ↓zB_gI, ↓zB_pI, ↓zB_pZ, ↓zB_aK, ↓zB_G, ↓zB_lI, ↓zB_lZ, ↓zB_wI, ↓zB_wZ, ↓zB_lIl, ↓zB_wIl, zB_pI, zB_pZ, zB_lI, zB_lZ, zB_wI, zB_wZ, z_addl, z_ladd, z_mull, z_lmul, nI_add, z_subl, Nat.not_lt_zero, z_10, z_01, z_bitc, z_b0, z_b1, ↓zB_Gb, ↓zB_G0, ↓zB_G1, z_eql, z_leq, z_ltl, z_llt, z_eq, z_lt, z_m1lt, hM.k, hM.k2391, hM.k2392, hM.k2393, hM.k2394, hM.k2395, hM.k2396, hM.k2397, hM.k2398, hM.k2399, hM.k2400, hM.k2401, hM.k2402, hM.k2403, hM.k2404, hM.k2405, hM.k2406, hM.k2407, hM.k2408, hM.k2409, hM.k2410, hM.k2411, hM.k2412, hM.k2413, hM.k2414, hM.k2415, hM.k2416, hM.k2417, hM.k2418, hM.k2419, hM.k2420, hM.k2421, hM.k2422, hM.k2423, hM.l2391, hM.l2392, hM.l2393, hM.l2394, hM.l2395, hM.l2396, hM.l2397, hM.l2398, hM.l2399, hM.l2400, hM.l2401, hM.l2402, hM.l2403, hM.l2404, hM.l2405, hM.l2406, hM.l2407, hM.l2408, hM.l2409, hM.l2410, hM.l2411, hM.l2412, hM.l2413, hM.l2414, hM.l2415, hM.l2416, hM.l2417, hM.l2418, hM.l2419, hM.l2420, hM.l2421, hM.l2422, hM.l2423, ↓hM.g1, ↓hM.g5, ↓hM.g6, ↓hM.g7, ↓hM.g8, ↓hM.g9, ↓hM.g10, ↓hM.g11, ↓hM.g12, ↓hM.g13, ↓hM.g14, ↓hM.g16, ↓hM.g17, ↓hM.g18, ↓hM.g19, ↓hM.g21, ↓hM.g22, ↓hM.g23, ↓hM.g24, ↓hM.g25, ↓hM.g27, ↓hM.g28, ↓hM.g30, ↓hM.g31, ↓hM.g32, ↓hM.g36, ↓hM.g37, ↓hM.g39, ↓hM.g40, ↓hM.g41, ↓hM.g43, ↓hM.g45, ↓hM.g46, c1038, ↓zB_c e271, zB_c e271]
end
