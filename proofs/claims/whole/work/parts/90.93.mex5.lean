-- deps: 90.81.lc2 90.82.ex0 90.83.ex1 90.84.ex2 90.85.ex3 90.86.ex4 90.87.ex5 90.88.ex6 90.89.mex 90.90.mex2 90.91.mex3 90.92.mex4
/-! nodes taken out: the reference, all of it -/
section
variable {S : z_S} {m : z_m} {P : z_Pg} {A : z_A}
theorem m_ext (hM : z_MS S) (hw : z_WA A) (h : z_MR m A) (k i x : Int32) : (∃ v m1, f292 2390 k i x (z_hp S m) = some (v, z_hp S m1) ∧ z_MR m1 (z_oext A k i x).2 ∧ (∀ b, b < 2390 ∨ 2424 ≤ b → m1 b = m b) ∧ z_ans z_cd3 (z_oext A k i x).1 v (m1 2390 0)) ∧ z_WA (z_oext A k i x).2 := by
  have hwf := hw.2.1.1
  have h24 := hwf.2.2.1
  have h6 := hwf.1.1
  have h60 := hw.2.1.2
  have i1 := f178_1 (m := m) hM
  have i2 := f178_2 (m := m) hM
  have e239 := f239_sp (S := S) hM hw h k i
  have e180 := f180_sp (S := S) (m := m) x
  unfold z_oext
  have rno : z_ipl A.2.1 k i = false → (∃ v m1, f292 2390 k i x (z_hp S m) = some (v, z_hp S m1) ∧ z_MR m1 A ∧ (∀ b, b < 2390 ∨ 2424 ≤ b → m1 b = m b) ∧ z_ans z_cd3 (.inr 2) v (m1 2390 0)) ∧ z_WA A := fun g => by
    refine z_m_ref hw h (E := 2) (cd := z_cd3) ⟨0, ?_⟩
    rw [g] at e239
    unfold f292 f292_37
    simp (disch := ((try simp only [true_or, or_true, hM.k, hM.k2391, hM.k2392, hM.k2393, hM.k2394, hM.k2395, hM.k2396, hM.k2397, hM.k2398, hM.k2399, hM.k2400, hM.k2401, hM.k2402, hM.k2403, hM.k2404, hM.k2405, hM.k2406, hM.k2407, hM.k2408, hM.k2409, hM.k2410, hM.k2411, hM.k2412, hM.k2413, hM.k2414, hM.k2415, hM.k2416, hM.k2417, hM.k2418, hM.k2419, hM.k2420, hM.k2421, hM.k2422, hM.k2423, hM.l2391, hM.l2392, hM.l2393, hM.l2394, hM.l2395, hM.l2396, hM.l2397, hM.l2398, hM.l2399, hM.l2400, hM.l2401, hM.l2402, hM.l2403, hM.l2404, hM.l2405, hM.l2406, hM.l2407, hM.l2408, hM.l2409, hM.l2410, hM.l2411, hM.l2412, hM.l2413, hM.l2414, hM.l2415, hM.l2416, hM.l2417, hM.l2418, hM.l2419, hM.l2420, hM.l2421, hM.l2422, hM.l2423]) <;> (try omega))) only [↓reduceIte, ↓z_ite, ↓zR, ↓zB_R, ↓zB_B, ↓zB_ite, ↓zB_gI, ↓zB_pI, ↓zB_pZ, ↓zB_aK, ↓zB_G, ↓zB_lI, ↓zB_lZ, ↓zB_wI, ↓zB_wZ, ↓zB_lIl, ↓zB_wIl, zB_pI, zB_pZ, zB_lI, zB_lZ, zB_wI, zB_wZ, z_addl, z_ladd, z_mull, z_lmul, nI_add, z_subl, Nat.not_lt_zero, z_10, z_01, z_bitc, z_b0, z_b1, ↓zB_Gb, ↓zB_G0, ↓zB_G1, z_eql, z_leq, z_ltl, z_llt, z_eq, z_lt, z_m1lt, hM.k, hM.k2391, hM.k2392, hM.k2393, hM.k2394, hM.k2395, hM.k2396, hM.k2397, hM.k2398, hM.k2399, hM.k2400, hM.k2401, hM.k2402, hM.k2403, hM.k2404, hM.k2405, hM.k2406, hM.k2407, hM.k2408, hM.k2409, hM.k2410, hM.k2411, hM.k2412, hM.k2413, hM.k2414, hM.k2415, hM.k2416, hM.k2417, hM.k2418, hM.k2419, hM.k2420, hM.k2421, hM.k2422, hM.k2423, hM.l2391, hM.l2392, hM.l2393, hM.l2394, hM.l2395, hM.l2396, hM.l2397, hM.l2398, hM.l2399, hM.l2400, hM.l2401, hM.l2402, hM.l2403, hM.l2404, hM.l2405, hM.l2406, hM.l2407, hM.l2408, hM.l2409, hM.l2410, hM.l2411, hM.l2412, hM.l2413, hM.l2414, hM.l2415, hM.l2416, hM.l2417, hM.l2418, hM.l2419, hM.l2420, hM.l2421, hM.l2422, hM.l2423, ↓hM.g1, ↓hM.g5, ↓hM.g6, ↓hM.g7, ↓hM.g8, ↓hM.g9, ↓hM.g10, ↓hM.g11, ↓hM.g12, ↓hM.g13, ↓hM.g14, ↓hM.g16, ↓hM.g17, ↓hM.g18, ↓hM.g19, ↓hM.g21, ↓hM.g22, ↓hM.g23, ↓hM.g24, ↓hM.g25, ↓hM.g27, ↓hM.g28, ↓hM.g30, ↓hM.g31, ↓hM.g32, ↓hM.g36, ↓hM.g37, ↓hM.g39, ↓hM.g40, ↓hM.g41, ↓hM.g43, ↓hM.g45, ↓hM.g46, ↓zB_c e239, zB_c e239, ↓zB_c i1, zB_c i1]
    rfl
  by_cases g1 : z_hm A.2.1 k = false
  · rw [if_pos g1]; exact rno (by unfold z_ipl; rw [g1]; rfl)
  rw [if_neg g1]
  have g1' := z_not_false g1
  by_cases g2 : z_in i (z_bd A.2.1 k.toNatClampNeg).length = false
  · rw [if_pos g2]; exact rno (by unfold z_ipl; rw [g2, Bool.and_false])
  rw [if_neg g2]
  have hip : z_ipl A.2.1 k i = true := by unfold z_ipl; rw [g1', z_not_false g2]; rfl
  rw [hip] at e239
  obtain ⟨k', hk', hl, rfl⟩ := (z_hm_iff hwf).mp g1'
  rw [nI_clamp (show k' < 2 ^ 31 by omega)] at g2 ⊢
  have hlen := h60 k' hk'
  obtain ⟨i', hi', rfl⟩ := (z_in_iff (by omega)).mp (z_not_false g2)
  rw [nI_clamp (show i' < 2 ^ 31 by omega)]
  by_cases g4 : z_in x 16 = false
  · rw [if_pos g4]
    refine z_m_ref hw h (E := 1) (cd := z_cd3) ⟨0, ?_⟩
    rw [g4] at e180
    unfold f292 f292_37
    simp (disch := ((try simp only [true_or, or_true, hM.k, hM.k2391, hM.k2392, hM.k2393, hM.k2394, hM.k2395, hM.k2396, hM.k2397, hM.k2398, hM.k2399, hM.k2400, hM.k2401, hM.k2402, hM.k2403, hM.k2404, hM.k2405, hM.k2406, hM.k2407, hM.k2408, hM.k2409, hM.k2410, hM.k2411, hM.k2412, hM.k2413, hM.k2414, hM.k2415, hM.k2416, hM.k2417, hM.k2418, hM.k2419, hM.k2420, hM.k2421, hM.k2422, hM.k2423, hM.l2391, hM.l2392, hM.l2393, hM.l2394, hM.l2395, hM.l2396, hM.l2397, hM.l2398, hM.l2399, hM.l2400, hM.l2401, hM.l2402, hM.l2403, hM.l2404, hM.l2405, hM.l2406, hM.l2407, hM.l2408, hM.l2409, hM.l2410, hM.l2411, hM.l2412, hM.l2413, hM.l2414, hM.l2415, hM.l2416, hM.l2417, hM.l2418, hM.l2419, hM.l2420, hM.l2421, hM.l2422, hM.l2423]) <;> (try omega))) only [↓reduceIte, ↓z_ite, ↓zR, ↓zB_R, ↓zB_B, ↓zB_ite, ↓zB_gI, ↓zB_pI, ↓zB_pZ, ↓zB_aK, ↓zB_G, ↓zB_lI, ↓zB_lZ, ↓zB_wI, ↓zB_wZ, ↓zB_lIl, ↓zB_wIl, zB_pI, zB_pZ, zB_lI, zB_lZ, zB_wI, zB_wZ, z_addl, z_ladd, z_mull, z_lmul, nI_add, z_subl, Nat.not_lt_zero, z_10, z_01, z_bitc, z_b0, z_b1, ↓zB_Gb, ↓zB_G0, ↓zB_G1, z_eql, z_leq, z_ltl, z_llt, z_eq, z_lt, z_m1lt, hM.k, hM.k2391, hM.k2392, hM.k2393, hM.k2394, hM.k2395, hM.k2396, hM.k2397, hM.k2398, hM.k2399, hM.k2400, hM.k2401, hM.k2402, hM.k2403, hM.k2404, hM.k2405, hM.k2406, hM.k2407, hM.k2408, hM.k2409, hM.k2410, hM.k2411, hM.k2412, hM.k2413, hM.k2414, hM.k2415, hM.k2416, hM.k2417, hM.k2418, hM.k2419, hM.k2420, hM.k2421, hM.k2422, hM.k2423, hM.l2391, hM.l2392, hM.l2393, hM.l2394, hM.l2395, hM.l2396, hM.l2397, hM.l2398, hM.l2399, hM.l2400, hM.l2401, hM.l2402, hM.l2403, hM.l2404, hM.l2405, hM.l2406, hM.l2407, hM.l2408, hM.l2409, hM.l2410, hM.l2411, hM.l2412, hM.l2413, hM.l2414, hM.l2415, hM.l2416, hM.l2417, hM.l2418, hM.l2419, hM.l2420, hM.l2421, hM.l2422, hM.l2423, ↓hM.g1, ↓hM.g5, ↓hM.g6, ↓hM.g7, ↓hM.g8, ↓hM.g9, ↓hM.g10, ↓hM.g11, ↓hM.g12, ↓hM.g13, ↓hM.g14, ↓hM.g16, ↓hM.g17, ↓hM.g18, ↓hM.g19, ↓hM.g21, ↓hM.g22, ↓hM.g23, ↓hM.g24, ↓hM.g25, ↓hM.g27, ↓hM.g28, ↓hM.g30, ↓hM.g31, ↓hM.g32, ↓hM.g36, ↓hM.g37, ↓hM.g39, ↓hM.g40, ↓hM.g41, ↓hM.g43, ↓hM.g45, ↓hM.g46, ↓zB_c e239, zB_c e239, Bool.true_eq_false, ↓zB_c e180, zB_c e180, ↓zB_c i2, zB_c i2]
    rfl
  rw [if_neg g4]
  rw [z_not_false g4] at e180
  obtain ⟨xn, hxn, rfl⟩ := (z_in_iff (by decide)).mp (z_not_false g4)
  by_cases g3 : ¬ z_wr A.2.1 = -1
  · rw [if_neg g3]
    obtain ⟨m1, e272, h1, fr1⟩ := m_gono (S := S) hM hw h g3
    have i3 := f178_3 (m := m1) hM
    refine m_ref2 (m1 := m1) hw h1 fr1 (E := 0) (cd := z_cd3) ⟨0, ?_⟩
    unfold f292 f292_37
    simp (disch := ((try simp only [true_or, or_true, hM.k, hM.k2391, hM.k2392, hM.k2393, hM.k2394, hM.k2395, hM.k2396, hM.k2397, hM.k2398, hM.k2399, hM.k2400, hM.k2401, hM.k2402, hM.k2403, hM.k2404, hM.k2405, hM.k2406, hM.k2407, hM.k2408, hM.k2409, hM.k2410, hM.k2411, hM.k2412, hM.k2413, hM.k2414, hM.k2415, hM.k2416, hM.k2417, hM.k2418, hM.k2419, hM.k2420, hM.k2421, hM.k2422, hM.k2423, hM.l2391, hM.l2392, hM.l2393, hM.l2394, hM.l2395, hM.l2396, hM.l2397, hM.l2398, hM.l2399, hM.l2400, hM.l2401, hM.l2402, hM.l2403, hM.l2404, hM.l2405, hM.l2406, hM.l2407, hM.l2408, hM.l2409, hM.l2410, hM.l2411, hM.l2412, hM.l2413, hM.l2414, hM.l2415, hM.l2416, hM.l2417, hM.l2418, hM.l2419, hM.l2420, hM.l2421, hM.l2422, hM.l2423]) <;> (try omega))) only [↓reduceIte, ↓z_ite, ↓zR, ↓zB_R, ↓zB_B, ↓zB_ite, ↓zB_gI, ↓zB_pI, ↓zB_pZ, ↓zB_aK, ↓zB_G, ↓zB_lI, ↓zB_lZ, ↓zB_wI, ↓zB_wZ, ↓zB_lIl, ↓zB_wIl, zB_pI, zB_pZ, zB_lI, zB_lZ, zB_wI, zB_wZ, z_addl, z_ladd, z_mull, z_lmul, nI_add, z_subl, Nat.not_lt_zero, z_10, z_01, z_bitc, z_b0, z_b1, ↓zB_Gb, ↓zB_G0, ↓zB_G1, z_eql, z_leq, z_ltl, z_llt, z_eq, z_lt, z_m1lt, hM.k, hM.k2391, hM.k2392, hM.k2393, hM.k2394, hM.k2395, hM.k2396, hM.k2397, hM.k2398, hM.k2399, hM.k2400, hM.k2401, hM.k2402, hM.k2403, hM.k2404, hM.k2405, hM.k2406, hM.k2407, hM.k2408, hM.k2409, hM.k2410, hM.k2411, hM.k2412, hM.k2413, hM.k2414, hM.k2415, hM.k2416, hM.k2417, hM.k2418, hM.k2419, hM.k2420, hM.k2421, hM.k2422, hM.k2423, hM.l2391, hM.l2392, hM.l2393, hM.l2394, hM.l2395, hM.l2396, hM.l2397, hM.l2398, hM.l2399, hM.l2400, hM.l2401, hM.l2402, hM.l2403, hM.l2404, hM.l2405, hM.l2406, hM.l2407, hM.l2408, hM.l2409, hM.l2410, hM.l2411, hM.l2412, hM.l2413, hM.l2414, hM.l2415, hM.l2416, hM.l2417, hM.l2418, hM.l2419, hM.l2420, hM.l2421, hM.l2422, hM.l2423, ↓hM.g1, ↓hM.g5, ↓hM.g6, ↓hM.g7, ↓hM.g8, ↓hM.g9, ↓hM.g10, ↓hM.g11, ↓hM.g12, ↓hM.g13, ↓hM.g14, ↓hM.g16, ↓hM.g17, ↓hM.g18, ↓hM.g19, ↓hM.g21, ↓hM.g22, ↓hM.g23, ↓hM.g24, ↓hM.g25, ↓hM.g27, ↓hM.g28, ↓hM.g30, ↓hM.g31, ↓hM.g32, ↓hM.g36, ↓hM.g37, ↓hM.g39, ↓hM.g40, ↓hM.g41, ↓hM.g43, ↓hM.g45, ↓hM.g46, ↓zB_c e239, zB_c e239, Bool.true_eq_false, ↓zB_c e180, zB_c e180, ↓zB_c e272, zB_c e272, ↓zB_c i3, zB_c i3]
    rfl
  have g3 := Classical.not_not.mp g3
  rw [if_pos g3]
  have hRT := z_RT_wr hwf g3
  obtain ⟨m1, e272, e178, h0, fr0⟩ := m_go (S := S) hM hw h g3
  generalize hm2 : z_up m1 2390 0 0 = m2 at e178 h0 fr0
  have ho := z_own_e hwf hk'
  have hB := hwf.2.2.2.2.1 k' hk'
  have e1 := h0.1.2.1.e1 hM (B := 0) rfl hk'
  rw [ho.2] at e1
  obtain ⟨m3, e286, c1, x1⟩ := f286_sp (S := S) hM hwf h60 hRT h0.1.2.1 h0.2.1 hk' hl hi'
  have h3 := z_m0_wK x1.wK h0
  have fr3 : ∀ b, b < 2390 ∨ 2424 ≤ b → m3 b = m b := fun b hb => by rw [x1.wK.mF.2.2.2 b hb]; exact fr0 b hb
  have eT : m3 2399 (192 * k' + i') = z_Ty A.2.1 k' i' := (h3.2.1 k' hk' hl i' hi').2.2.1
  have hki : 192 * k' + i' < 4608 := by omega
  have e291 := f291_sp (S := S) hM hwf h60 hRT h3.1.2.1 h3.2.1 hk' hl hi'
  have c42 := c1.1
  have c42 : m3 2390 42 = nI (z_exc A.2.1 k' i').length := c42
  have hlc := z_rlo_len A.2.1 k' i' (z_sz (z_bd A.2.1 k') i')
  have hle : i' + z_sz (z_bd A.2.1 k') i' ≤ (z_bd A.2.1 k').length := z_en_le hB.1 hi'
  have hlc2 : (z_exc A.2.1 k' i').length ≤ 60 := by
    have : (z_exc A.2.1 k' i').length ≤ z_sz (z_bd A.2.1 k') i' := hlc
    omega
  by_cases y1 : z_Ty A.2.1 k' i' = -2
  · have er : z_exR A.2.1 k' i' (nI xn) = -10 := if_pos y1
    rw [er]
    rw [y1] at eT
    refine m_no hw (by decide) (m' := m3) ?_ h3.1 h3.2.2 fr3
    unfold f292 f292_37
    simp (disch := ((try simp only [true_or, or_true, hM.k, hM.k2391, hM.k2392, hM.k2393, hM.k2394, hM.k2395, hM.k2396, hM.k2397, hM.k2398, hM.k2399, hM.k2400, hM.k2401, hM.k2402, hM.k2403, hM.k2404, hM.k2405, hM.k2406, hM.k2407, hM.k2408, hM.k2409, hM.k2410, hM.k2411, hM.k2412, hM.k2413, hM.k2414, hM.k2415, hM.k2416, hM.k2417, hM.k2418, hM.k2419, hM.k2420, hM.k2421, hM.k2422, hM.k2423, hM.l2391, hM.l2392, hM.l2393, hM.l2394, hM.l2395, hM.l2396, hM.l2397, hM.l2398, hM.l2399, hM.l2400, hM.l2401, hM.l2402, hM.l2403, hM.l2404, hM.l2405, hM.l2406, hM.l2407, hM.l2408, hM.l2409, hM.l2410, hM.l2411, hM.l2412, hM.l2413, hM.l2414, hM.l2415, hM.l2416, hM.l2417, hM.l2418, hM.l2419, hM.l2420, hM.l2421, hM.l2422, hM.l2423]) <;> (try omega))) only [↓reduceIte, ↓z_ite, ↓zR, ↓zB_R, ↓zB_B, ↓zB_ite, ↓zB_gI, ↓zB_pI, ↓zB_pZ, ↓zB_aK, ↓zB_G, ↓zB_lI, ↓zB_lZ, ↓zB_wI, ↓zB_wZ, ↓zB_lIl, ↓zB_wIl, zB_pI, zB_pZ, zB_lI, zB_lZ, zB_wI, zB_wZ, z_addl, z_ladd, z_mull, z_lmul, nI_add, z_subl, Nat.not_lt_zero, z_10, z_01, z_bitc, z_b0, z_b1, ↓zB_Gb, ↓zB_G0, ↓zB_G1, z_eql, z_leq, z_ltl, z_llt, z_eq, z_lt, z_m1lt, hM.k, hM.k2391, hM.k2392, hM.k2393, hM.k2394, hM.k2395, hM.k2396, hM.k2397, hM.k2398, hM.k2399, hM.k2400, hM.k2401, hM.k2402, hM.k2403, hM.k2404, hM.k2405, hM.k2406, hM.k2407, hM.k2408, hM.k2409, hM.k2410, hM.k2411, hM.k2412, hM.k2413, hM.k2414, hM.k2415, hM.k2416, hM.k2417, hM.k2418, hM.k2419, hM.k2420, hM.k2421, hM.k2422, hM.k2423, hM.l2391, hM.l2392, hM.l2393, hM.l2394, hM.l2395, hM.l2396, hM.l2397, hM.l2398, hM.l2399, hM.l2400, hM.l2401, hM.l2402, hM.l2403, hM.l2404, hM.l2405, hM.l2406, hM.l2407, hM.l2408, hM.l2409, hM.l2410, hM.l2411, hM.l2412, hM.l2413, hM.l2414, hM.l2415, hM.l2416, hM.l2417, hM.l2418, hM.l2419, hM.l2420, hM.l2421, hM.l2422, hM.l2423, ↓hM.g1, ↓hM.g5, ↓hM.g6, ↓hM.g7, ↓hM.g8, ↓hM.g9, ↓hM.g10, ↓hM.g11, ↓hM.g12, ↓hM.g13, ↓hM.g14, ↓hM.g16, ↓hM.g17, ↓hM.g18, ↓hM.g19, ↓hM.g21, ↓hM.g22, ↓hM.g23, ↓hM.g24, ↓hM.g25, ↓hM.g27, ↓hM.g28, ↓hM.g30, ↓hM.g31, ↓hM.g32, ↓hM.g36, ↓hM.g37, ↓hM.g39, ↓hM.g40, ↓hM.g41, ↓hM.g43, ↓hM.g45, ↓hM.g46, ↓zB_c e239, zB_c e239, Bool.true_eq_false, ↓zB_c e180, zB_c e180, ↓zB_c e272, zB_c e272, ↓zB_c e178, zB_c e178, ↓zB_c e1, zB_c e1, ↓zB_c e286, zB_c e286, hki, eT]
  by_cases y2 : z_exO A.2.1 k' i' = true
  · have er : z_exR A.2.1 k' i' (nI xn) = -5 := by unfold z_exR; rw [if_neg y1, if_pos y2]
    rw [er]
    rw [y2] at e291
    refine m_no hw (by decide) (m' := m3) ?_ h3.1 h3.2.2 fr3
    unfold f292 f292_37
    simp (disch := ((try simp only [true_or, or_true, hM.k, hM.k2391, hM.k2392, hM.k2393, hM.k2394, hM.k2395, hM.k2396, hM.k2397, hM.k2398, hM.k2399, hM.k2400, hM.k2401, hM.k2402, hM.k2403, hM.k2404, hM.k2405, hM.k2406, hM.k2407, hM.k2408, hM.k2409, hM.k2410, hM.k2411, hM.k2412, hM.k2413, hM.k2414, hM.k2415, hM.k2416, hM.k2417, hM.k2418, hM.k2419, hM.k2420, hM.k2421, hM.k2422, hM.k2423, hM.l2391, hM.l2392, hM.l2393, hM.l2394, hM.l2395, hM.l2396, hM.l2397, hM.l2398, hM.l2399, hM.l2400, hM.l2401, hM.l2402, hM.l2403, hM.l2404, hM.l2405, hM.l2406, hM.l2407, hM.l2408, hM.l2409, hM.l2410, hM.l2411, hM.l2412, hM.l2413, hM.l2414, hM.l2415, hM.l2416, hM.l2417, hM.l2418, hM.l2419, hM.l2420, hM.l2421, hM.l2422, hM.l2423]) <;> (try omega))) only [↓reduceIte, ↓z_ite, ↓zR, ↓zB_R, ↓zB_B, ↓zB_ite, ↓zB_gI, ↓zB_pI, ↓zB_pZ, ↓zB_aK, ↓zB_G, ↓zB_lI, ↓zB_lZ, ↓zB_wI, ↓zB_wZ, ↓zB_lIl, ↓zB_wIl, zB_pI, zB_pZ, zB_lI, zB_lZ, zB_wI, zB_wZ, z_addl, z_ladd, z_mull, z_lmul, nI_add, z_subl, Nat.not_lt_zero, z_10, z_01, z_bitc, z_b0, z_b1, ↓zB_Gb, ↓zB_G0, ↓zB_G1, z_eql, z_leq, z_ltl, z_llt, z_eq, z_lt, z_m1lt, hM.k, hM.k2391, hM.k2392, hM.k2393, hM.k2394, hM.k2395, hM.k2396, hM.k2397, hM.k2398, hM.k2399, hM.k2400, hM.k2401, hM.k2402, hM.k2403, hM.k2404, hM.k2405, hM.k2406, hM.k2407, hM.k2408, hM.k2409, hM.k2410, hM.k2411, hM.k2412, hM.k2413, hM.k2414, hM.k2415, hM.k2416, hM.k2417, hM.k2418, hM.k2419, hM.k2420, hM.k2421, hM.k2422, hM.k2423, hM.l2391, hM.l2392, hM.l2393, hM.l2394, hM.l2395, hM.l2396, hM.l2397, hM.l2398, hM.l2399, hM.l2400, hM.l2401, hM.l2402, hM.l2403, hM.l2404, hM.l2405, hM.l2406, hM.l2407, hM.l2408, hM.l2409, hM.l2410, hM.l2411, hM.l2412, hM.l2413, hM.l2414, hM.l2415, hM.l2416, hM.l2417, hM.l2418, hM.l2419, hM.l2420, hM.l2421, hM.l2422, hM.l2423, ↓hM.g1, ↓hM.g5, ↓hM.g6, ↓hM.g7, ↓hM.g8, ↓hM.g9, ↓hM.g10, ↓hM.g11, ↓hM.g12, ↓hM.g13, ↓hM.g14, ↓hM.g16, ↓hM.g17, ↓hM.g18, ↓hM.g19, ↓hM.g21, ↓hM.g22, ↓hM.g23, ↓hM.g24, ↓hM.g25, ↓hM.g27, ↓hM.g28, ↓hM.g30, ↓hM.g31, ↓hM.g32, ↓hM.g36, ↓hM.g37, ↓hM.g39, ↓hM.g40, ↓hM.g41, ↓hM.g43, ↓hM.g45, ↓hM.g46, ↓zB_c e239, zB_c e239, Bool.true_eq_false, ↓zB_c e180, zB_c e180, ↓zB_c e272, zB_c e272, ↓zB_c e178, zB_c e178, ↓zB_c e1, zB_c e1, ↓zB_c e286, zB_c e286, hki, eT, y1, ↓zB_c e291, zB_c e291]
  have y2' : z_exO A.2.1 k' i' = false := by simpa using y2
  rw [y2'] at e291
  by_cases y3 : 2 < (z_exc A.2.1 k' i').length
  · have er : z_exR A.2.1 k' i' (nI xn) = -6 := by unfold z_exR; rw [if_neg y1, if_neg y2, if_pos y3]
    rw [er]
    refine m_no hw (by decide) (m' := m3) ?_ h3.1 h3.2.2 fr3
    unfold f292 f292_37
    simp (disch := ((try simp only [true_or, or_true, hM.k, hM.k2391, hM.k2392, hM.k2393, hM.k2394, hM.k2395, hM.k2396, hM.k2397, hM.k2398, hM.k2399, hM.k2400, hM.k2401, hM.k2402, hM.k2403, hM.k2404, hM.k2405, hM.k2406, hM.k2407, hM.k2408, hM.k2409, hM.k2410, hM.k2411, hM.k2412, hM.k2413, hM.k2414, hM.k2415, hM.k2416, hM.k2417, hM.k2418, hM.k2419, hM.k2420, hM.k2421, hM.k2422, hM.k2423, hM.l2391, hM.l2392, hM.l2393, hM.l2394, hM.l2395, hM.l2396, hM.l2397, hM.l2398, hM.l2399, hM.l2400, hM.l2401, hM.l2402, hM.l2403, hM.l2404, hM.l2405, hM.l2406, hM.l2407, hM.l2408, hM.l2409, hM.l2410, hM.l2411, hM.l2412, hM.l2413, hM.l2414, hM.l2415, hM.l2416, hM.l2417, hM.l2418, hM.l2419, hM.l2420, hM.l2421, hM.l2422, hM.l2423]) <;> (try omega))) only [↓reduceIte, ↓z_ite, ↓zR, ↓zB_R, ↓zB_B, ↓zB_ite, ↓zB_gI, ↓zB_pI, ↓zB_pZ, ↓zB_aK, ↓zB_G, ↓zB_lI, ↓zB_lZ, ↓zB_wI, ↓zB_wZ, ↓zB_lIl, ↓zB_wIl, zB_pI, zB_pZ, zB_lI, zB_lZ, zB_wI, zB_wZ, z_addl, z_ladd, z_mull, z_lmul, nI_add, z_subl, Nat.not_lt_zero, z_10, z_01, z_bitc, z_b0, z_b1, ↓zB_Gb, ↓zB_G0, ↓zB_G1, z_eql, z_leq, z_ltl, z_llt, z_eq, z_lt, z_m1lt, hM.k, hM.k2391, hM.k2392, hM.k2393, hM.k2394, hM.k2395, hM.k2396, hM.k2397, hM.k2398, hM.k2399, hM.k2400, hM.k2401, hM.k2402, hM.k2403, hM.k2404, hM.k2405, hM.k2406, hM.k2407, hM.k2408, hM.k2409, hM.k2410, hM.k2411, hM.k2412, hM.k2413, hM.k2414, hM.k2415, hM.k2416, hM.k2417, hM.k2418, hM.k2419, hM.k2420, hM.k2421, hM.k2422, hM.k2423, hM.l2391, hM.l2392, hM.l2393, hM.l2394, hM.l2395, hM.l2396, hM.l2397, hM.l2398, hM.l2399, hM.l2400, hM.l2401, hM.l2402, hM.l2403, hM.l2404, hM.l2405, hM.l2406, hM.l2407, hM.l2408, hM.l2409, hM.l2410, hM.l2411, hM.l2412, hM.l2413, hM.l2414, hM.l2415, hM.l2416, hM.l2417, hM.l2418, hM.l2419, hM.l2420, hM.l2421, hM.l2422, hM.l2423, ↓hM.g1, ↓hM.g5, ↓hM.g6, ↓hM.g7, ↓hM.g8, ↓hM.g9, ↓hM.g10, ↓hM.g11, ↓hM.g12, ↓hM.g13, ↓hM.g14, ↓hM.g16, ↓hM.g17, ↓hM.g18, ↓hM.g19, ↓hM.g21, ↓hM.g22, ↓hM.g23, ↓hM.g24, ↓hM.g25, ↓hM.g27, ↓hM.g28, ↓hM.g30, ↓hM.g31, ↓hM.g32, ↓hM.g36, ↓hM.g37, ↓hM.g39, ↓hM.g40, ↓hM.g41, ↓hM.g43, ↓hM.g45, ↓hM.g46, ↓zB_c e239, zB_c e239, Bool.true_eq_false, ↓zB_c e180, zB_c e180, ↓zB_c e272, zB_c e272, ↓zB_c e178, zB_c e178, ↓zB_c e1, zB_c e1, ↓zB_c e286, zB_c e286, hki, eT, y1, ↓zB_c e291, zB_c e291, c42, y3]
  have y3' : ¬ (2 : Int32) < nI (z_exc A.2.1 k' i').length := fun g => y3 ((nI_ltI (a := 2) (by decide) (by omega)).mp g)
  have e215 := f215_sp (S := S) (B := 0) h3.1.2.1 hM hwf rfl ho.1 (nI xn) (nI (z_exc A.2.1 k' i').length)
  by_cases y4 : z_ham A.2.1 (z_own A.2.1 k') (nI xn) (nI (z_exc A.2.1 k' i').length) = true
  · have er : z_exR A.2.1 k' i' (nI xn) = -1 := by unfold z_exR; rw [if_neg y1, if_neg y2, if_neg y3, if_pos y4]
    rw [er]
    rw [y4] at e215
    refine m_no hw (by decide) (m' := m3) ?_ h3.1 h3.2.2 fr3
    unfold f292 f292_37
    simp (disch := ((try simp only [true_or, or_true, hM.k, hM.k2391, hM.k2392, hM.k2393, hM.k2394, hM.k2395, hM.k2396, hM.k2397, hM.k2398, hM.k2399, hM.k2400, hM.k2401, hM.k2402, hM.k2403, hM.k2404, hM.k2405, hM.k2406, hM.k2407, hM.k2408, hM.k2409, hM.k2410, hM.k2411, hM.k2412, hM.k2413, hM.k2414, hM.k2415, hM.k2416, hM.k2417, hM.k2418, hM.k2419, hM.k2420, hM.k2421, hM.k2422, hM.k2423, hM.l2391, hM.l2392, hM.l2393, hM.l2394, hM.l2395, hM.l2396, hM.l2397, hM.l2398, hM.l2399, hM.l2400, hM.l2401, hM.l2402, hM.l2403, hM.l2404, hM.l2405, hM.l2406, hM.l2407, hM.l2408, hM.l2409, hM.l2410, hM.l2411, hM.l2412, hM.l2413, hM.l2414, hM.l2415, hM.l2416, hM.l2417, hM.l2418, hM.l2419, hM.l2420, hM.l2421, hM.l2422, hM.l2423]) <;> (try omega))) only [↓reduceIte, ↓z_ite, ↓zR, ↓zB_R, ↓zB_B, ↓zB_ite, ↓zB_gI, ↓zB_pI, ↓zB_pZ, ↓zB_aK, ↓zB_G, ↓zB_lI, ↓zB_lZ, ↓zB_wI, ↓zB_wZ, ↓zB_lIl, ↓zB_wIl, zB_pI, zB_pZ, zB_lI, zB_lZ, zB_wI, zB_wZ, z_addl, z_ladd, z_mull, z_lmul, nI_add, z_subl, Nat.not_lt_zero, z_10, z_01, z_bitc, z_b0, z_b1, ↓zB_Gb, ↓zB_G0, ↓zB_G1, z_eql, z_leq, z_ltl, z_llt, z_eq, z_lt, z_m1lt, hM.k, hM.k2391, hM.k2392, hM.k2393, hM.k2394, hM.k2395, hM.k2396, hM.k2397, hM.k2398, hM.k2399, hM.k2400, hM.k2401, hM.k2402, hM.k2403, hM.k2404, hM.k2405, hM.k2406, hM.k2407, hM.k2408, hM.k2409, hM.k2410, hM.k2411, hM.k2412, hM.k2413, hM.k2414, hM.k2415, hM.k2416, hM.k2417, hM.k2418, hM.k2419, hM.k2420, hM.k2421, hM.k2422, hM.k2423, hM.l2391, hM.l2392, hM.l2393, hM.l2394, hM.l2395, hM.l2396, hM.l2397, hM.l2398, hM.l2399, hM.l2400, hM.l2401, hM.l2402, hM.l2403, hM.l2404, hM.l2405, hM.l2406, hM.l2407, hM.l2408, hM.l2409, hM.l2410, hM.l2411, hM.l2412, hM.l2413, hM.l2414, hM.l2415, hM.l2416, hM.l2417, hM.l2418, hM.l2419, hM.l2420, hM.l2421, hM.l2422, hM.l2423, ↓hM.g1, ↓hM.g5, ↓hM.g6, ↓hM.g7, ↓hM.g8, ↓hM.g9, ↓hM.g10, ↓hM.g11, ↓hM.g12, ↓hM.g13, ↓hM.g14, ↓hM.g16, ↓hM.g17, ↓hM.g18, ↓hM.g19, ↓hM.g21, ↓hM.g22, ↓hM.g23, ↓hM.g24, ↓hM.g25, ↓hM.g27, ↓hM.g28, ↓hM.g30, ↓hM.g31, ↓hM.g32, ↓hM.g36, ↓hM.g37, ↓hM.g39, ↓hM.g40, ↓hM.g41, ↓hM.g43, ↓hM.g45, ↓hM.g46, ↓zB_c e239, zB_c e239, Bool.true_eq_false, ↓zB_c e180, zB_c e180, ↓zB_c e272, zB_c e272, ↓zB_c e178, zB_c e178, ↓zB_c e1, zB_c e1, ↓zB_c e286, zB_c e286, hki, eT, y1, ↓zB_c e291, zB_c e291, c42, y3', ↓zB_c e215, zB_c e215]
  have y4' : z_ham A.2.1 (z_own A.2.1 k') (nI xn) (nI (z_exc A.2.1 k' i').length) = false := by simpa using y4
  rw [y4'] at e215
  have e265 := f265_sp (S := S) hM h3.1.2.1
  by_cases y5 : ¬ z_nm A.2.1 < 24
  · have er : z_exR A.2.1 k' i' (nI xn) = -6 := by unfold z_exR; rw [if_neg y1, if_neg y2, if_neg y3, if_neg y4, if_pos y5]
    rw [er]
    refine m_no hw (by decide) (m' := m3) ?_ h3.1 h3.2.2 fr3
    have y5' : z_nm A.2.1 = 24 := by omega
    unfold f292 f292_37
    simp (disch := ((try simp only [true_or, or_true, hM.k, hM.k2391, hM.k2392, hM.k2393, hM.k2394, hM.k2395, hM.k2396, hM.k2397, hM.k2398, hM.k2399, hM.k2400, hM.k2401, hM.k2402, hM.k2403, hM.k2404, hM.k2405, hM.k2406, hM.k2407, hM.k2408, hM.k2409, hM.k2410, hM.k2411, hM.k2412, hM.k2413, hM.k2414, hM.k2415, hM.k2416, hM.k2417, hM.k2418, hM.k2419, hM.k2420, hM.k2421, hM.k2422, hM.k2423, hM.l2391, hM.l2392, hM.l2393, hM.l2394, hM.l2395, hM.l2396, hM.l2397, hM.l2398, hM.l2399, hM.l2400, hM.l2401, hM.l2402, hM.l2403, hM.l2404, hM.l2405, hM.l2406, hM.l2407, hM.l2408, hM.l2409, hM.l2410, hM.l2411, hM.l2412, hM.l2413, hM.l2414, hM.l2415, hM.l2416, hM.l2417, hM.l2418, hM.l2419, hM.l2420, hM.l2421, hM.l2422, hM.l2423]) <;> (try omega))) only [↓reduceIte, ↓z_ite, ↓zR, ↓zB_R, ↓zB_B, ↓zB_ite, ↓zB_gI, ↓zB_pI, ↓zB_pZ, ↓zB_aK, ↓zB_G, ↓zB_lI, ↓zB_lZ, ↓zB_wI, ↓zB_wZ, ↓zB_lIl, ↓zB_wIl, zB_pI, zB_pZ, zB_lI, zB_lZ, zB_wI, zB_wZ, z_addl, z_ladd, z_mull, z_lmul, nI_add, z_subl, Nat.not_lt_zero, z_10, z_01, z_bitc, z_b0, z_b1, ↓zB_Gb, ↓zB_G0, ↓zB_G1, z_eql, z_leq, z_ltl, z_llt, z_eq, z_lt, z_m1lt, hM.k, hM.k2391, hM.k2392, hM.k2393, hM.k2394, hM.k2395, hM.k2396, hM.k2397, hM.k2398, hM.k2399, hM.k2400, hM.k2401, hM.k2402, hM.k2403, hM.k2404, hM.k2405, hM.k2406, hM.k2407, hM.k2408, hM.k2409, hM.k2410, hM.k2411, hM.k2412, hM.k2413, hM.k2414, hM.k2415, hM.k2416, hM.k2417, hM.k2418, hM.k2419, hM.k2420, hM.k2421, hM.k2422, hM.k2423, hM.l2391, hM.l2392, hM.l2393, hM.l2394, hM.l2395, hM.l2396, hM.l2397, hM.l2398, hM.l2399, hM.l2400, hM.l2401, hM.l2402, hM.l2403, hM.l2404, hM.l2405, hM.l2406, hM.l2407, hM.l2408, hM.l2409, hM.l2410, hM.l2411, hM.l2412, hM.l2413, hM.l2414, hM.l2415, hM.l2416, hM.l2417, hM.l2418, hM.l2419, hM.l2420, hM.l2421, hM.l2422, hM.l2423, ↓hM.g1, ↓hM.g5, ↓hM.g6, ↓hM.g7, ↓hM.g8, ↓hM.g9, ↓hM.g10, ↓hM.g11, ↓hM.g12, ↓hM.g13, ↓hM.g14, ↓hM.g16, ↓hM.g17, ↓hM.g18, ↓hM.g19, ↓hM.g21, ↓hM.g22, ↓hM.g23, ↓hM.g24, ↓hM.g25, ↓hM.g27, ↓hM.g28, ↓hM.g30, ↓hM.g31, ↓hM.g32, ↓hM.g36, ↓hM.g37, ↓hM.g39, ↓hM.g40, ↓hM.g41, ↓hM.g43, ↓hM.g45, ↓hM.g46, ↓zB_c e239, zB_c e239, Bool.true_eq_false, ↓zB_c e180, zB_c e180, ↓zB_c e272, zB_c e272, ↓zB_c e178, zB_c e178, ↓zB_c e1, zB_c e1, ↓zB_c e286, zB_c e286, hki, eT, y1, ↓zB_c e291, zB_c e291, c42, y3', ↓zB_c e215, zB_c e215, ↓zB_c e265, zB_c e265, y5']
  have y5' : z_nm A.2.1 < 24 := by omega
  have hH : z_exH A.2.1 k' i' (z_exc A.2.1 k' i') := ⟨⟨hwf, h60, hRT⟩, ⟨hk', hl⟩, hi', ⟨rfl, by omega⟩, y2'⟩
  have hn : ∃ n, n < 16 ∧ nI xn = nI n := ⟨xn, hxn, rfl⟩
  obtain ⟨m4, e203, h4, mb4, mz4, mF4, fr4⟩ := f203_w (S := S) hM h3
  have c4 : z_rL m4 42 2421 (z_exc A.2.1 k' i') := ⟨by rw [fr4 2390 (by decide)]; exact c1.1, fun j hj => by rw [fr4 2421 (by decide)]; exact c1.2 j hj⟩
  have e265b := f265_sp (S := S) hM h4.1.2.1
  have eT4 : m4 2399 (192 * k' + i') = z_Ty A.2.1 k' i' := (h4.2.1 k' hk' hl i' hi').2.2.1
  have enm : m4 2391 28401 = nI (z_nm A.2.1) := mb4.2.2.2.2.1
  obtain ⟨m5, m6, m7, a1, a2, a3, a4, mb7, c7, M7, r7⟩ := f292_p (S := S) (name := nI xn) hM h4.1.2.1 h4.2.1 mb4 hH y5' c4
  have h7 := z_m0_mF M7 h4
  have mz7 : z_mz m7 2 (z_nc A.2.1) := fun c n x1 x2 x3 => by rw [r7 _ (by omega)]; exact mz4 c n x1 x2 x3
  have fr07 : ∀ b, b < 2390 ∨ 2424 ≤ b → m7 b = m b := fun b hb => by rw [M7.2.2.2 b hb, fr4 b (by omega)]; exact fr3 b hb
  have er : z_exR A.2.1 k' i' (nI xn) = if z_big A.2.1 (z_exD A.2.1 k' i' (nI xn)) (z_nm A.2.1) = true then -6 else nI (100 * z_nm A.2.1 + z_exN A.2.1 k' i' (nI xn) (z_nm A.2.1)) := by
    unfold z_exR; rw [if_neg y1, if_neg y2, if_neg y3, if_neg y4, if_neg y5]
  have eT4u : z_up m4 2391 28401 (nI (z_nm A.2.1 + 1)) 2399 (192 * k' + i') = z_Ty A.2.1 k' i' := by rw [z_up_row (by decide)]; exact eT4
  have h24n : ¬ z_nm A.2.1 = 24 := by omega
  have st : f292 2390 (nI k') (nI i') (nI xn) (z_hp S m) = f292_293 2390 (nI k') (nI i') (nI xn) (nI (z_own A.2.1 k')) (nI (z_nm A.2.1)) 0 0 (z_hp S m7) := by
    rw [← a4]
    unfold f292 f292_37
    simp (disch := ((try simp only [true_or, or_true, hM.k, hM.k2391, hM.k2392, hM.k2393, hM.k2394, hM.k2395, hM.k2396, hM.k2397, hM.k2398, hM.k2399, hM.k2400, hM.k2401, hM.k2402, hM.k2403, hM.k2404, hM.k2405, hM.k2406, hM.k2407, hM.k2408, hM.k2409, hM.k2410, hM.k2411, hM.k2412, hM.k2413, hM.k2414, hM.k2415, hM.k2416, hM.k2417, hM.k2418, hM.k2419, hM.k2420, hM.k2421, hM.k2422, hM.k2423, hM.l2391, hM.l2392, hM.l2393, hM.l2394, hM.l2395, hM.l2396, hM.l2397, hM.l2398, hM.l2399, hM.l2400, hM.l2401, hM.l2402, hM.l2403, hM.l2404, hM.l2405, hM.l2406, hM.l2407, hM.l2408, hM.l2409, hM.l2410, hM.l2411, hM.l2412, hM.l2413, hM.l2414, hM.l2415, hM.l2416, hM.l2417, hM.l2418, hM.l2419, hM.l2420, hM.l2421, hM.l2422, hM.l2423]) <;> (try omega))) only [↓reduceIte, ↓z_ite, ↓zR, ↓zB_R, ↓zB_B, ↓zB_ite, ↓zB_gI, ↓zB_pI, ↓zB_pZ, ↓zB_aK, ↓zB_G, ↓zB_lI, ↓zB_lZ, ↓zB_wI, ↓zB_wZ, ↓zB_lIl, ↓zB_wIl, zB_pI, zB_pZ, zB_lI, zB_lZ, zB_wI, zB_wZ, z_addl, z_ladd, z_mull, z_lmul, nI_add, z_subl, Nat.not_lt_zero, z_10, z_01, z_bitc, z_b0, z_b1, ↓zB_Gb, ↓zB_G0, ↓zB_G1, z_eql, z_leq, z_ltl, z_llt, z_eq, z_lt, z_m1lt, hM.k, hM.k2391, hM.k2392, hM.k2393, hM.k2394, hM.k2395, hM.k2396, hM.k2397, hM.k2398, hM.k2399, hM.k2400, hM.k2401, hM.k2402, hM.k2403, hM.k2404, hM.k2405, hM.k2406, hM.k2407, hM.k2408, hM.k2409, hM.k2410, hM.k2411, hM.k2412, hM.k2413, hM.k2414, hM.k2415, hM.k2416, hM.k2417, hM.k2418, hM.k2419, hM.k2420, hM.k2421, hM.k2422, hM.k2423, hM.l2391, hM.l2392, hM.l2393, hM.l2394, hM.l2395, hM.l2396, hM.l2397, hM.l2398, hM.l2399, hM.l2400, hM.l2401, hM.l2402, hM.l2403, hM.l2404, hM.l2405, hM.l2406, hM.l2407, hM.l2408, hM.l2409, hM.l2410, hM.l2411, hM.l2412, hM.l2413, hM.l2414, hM.l2415, hM.l2416, hM.l2417, hM.l2418, hM.l2419, hM.l2420, hM.l2421, hM.l2422, hM.l2423, ↓hM.g1, ↓hM.g5, ↓hM.g6, ↓hM.g7, ↓hM.g8, ↓hM.g9, ↓hM.g10, ↓hM.g11, ↓hM.g12, ↓hM.g13, ↓hM.g14, ↓hM.g16, ↓hM.g17, ↓hM.g18, ↓hM.g19, ↓hM.g21, ↓hM.g22, ↓hM.g23, ↓hM.g24, ↓hM.g25, ↓hM.g27, ↓hM.g28, ↓hM.g30, ↓hM.g31, ↓hM.g32, ↓hM.g36, ↓hM.g37, ↓hM.g39, ↓hM.g40, ↓hM.g41, ↓hM.g43, ↓hM.g45, ↓hM.g46, ↓zB_c e239, zB_c e239, Bool.true_eq_false, ↓zB_c e180, zB_c e180, ↓zB_c e272, zB_c e272, ↓zB_c e178, zB_c e178, ↓zB_c e1, zB_c e1, ↓zB_c e286, zB_c e286, hki, eT, y1, ↓zB_c e291, zB_c e291, c42, y3', ↓zB_c e215, zB_c e215, ↓zB_c e265, zB_c e265, h24n, ↓zB_c e203, zB_c e203, ↓zB_c e265b, zB_c e265b, enm, eT4u, ↓zB_c a1, zB_c a1, a2, ↓zB_c a3, zB_c a3]
  have hsum : ∀ n, n ≤ z_nm A.2.1 → z_exN A.2.1 k' i' (nI xn) n ≤ n * 60 := fun n hn2 => z_sl_le n (fun j hj hlj => by
    by_cases g : z_own A.2.1 j = z_own A.2.1 k'
    · rw [if_pos g]; exact (z_exB_wB hH (show j < z_nm A.2.1 by omega) hlj g.symm hn).2.2
    · rw [if_neg g]; exact Nat.zero_le _)
  unfold f292_293 at st
  have key := z_loopI (f := fun s => f292_293b (s.1) (s.2.1) (s.2.2.1) (s.2.2.2.1) (s.2.2.2.2.1) (s.2.2.2.2.2.1) (s.2.2.2.2.2.2.1) (s.2.2.2.2.2.2.2)) (S := S) (fun N st m' => ∃ j, N = z_nm A.2.1 - j ∧ j ≤ z_nm A.2.1 ∧ st = (2390, nI k', nI i', nI xn, nI (z_own A.2.1 k'), nI (z_nm A.2.1), nI (z_exN A.2.1 k' i' (nI xn) j), nI j) ∧ z_mb m' 2 (z_mix (z_ex1 A.2.1 k' i' (nI xn)) (z_hd (z_ex1 A.2.1 k' i' (nI xn))) (z_exD A.2.1 k' i' (nI xn)) j) ∧ z_rL m' 42 2421 (z_exc A.2.1 k' i') ∧ z_wK m7 m') (fun r m' => r = z_exR A.2.1 k' i' (nI xn) ∧ m' 2390 0 = 0 ∧ (∀ b, b < 2390 ∨ 2424 ≤ b → m' b = m b) ∧ ((r < 0 ∧ z_MR m' A) ∨ (¬ r < 0 ∧ z_MR m' (z_push A (z_exQ A.2.1 k' i' (nI xn))) ∧ z_wf (z_exQ A.2.1 k' i' (nI xn)) ∧ z_b60 (z_exQ A.2.1 k' i' (nI xn))))) ?_ 1000000 (z_nm A.2.1) (2390, nI k', nI i', nI xn, nI (z_own A.2.1 k'), nI (z_nm A.2.1), 0, 0) m7 ⟨0, rfl, Nat.zero_le _, rfl, by rw [z_mix_0]; exact mb7, c7, z_wK.refl _⟩ (by omega)
  · obtain ⟨r, m8, e, rfl, w0, w1, w2⟩ := key
    rcases w2 with ⟨w2, w3⟩ | ⟨w2, w3, w4, w5⟩
    · exact m_no hw w2 (m' := m8) (st.trans e) w3 w0 w1
    · exact m_yes hw w2 (m' := m8) (st.trans e) w3 w0 w1 w4 w5 rfl
  · rintro N st m8 ⟨j, rfl, hj, rfl, g1, c8, g2⟩
    have h8 := z_m0_wK g2 h7
    have fr8 : ∀ b, b < 2390 ∨ 2424 ≤ b → m8 b = m b := fun b hb => by rw [g2.mF.2.2.2 b hb]; exact fr07 b hb
    have hsj := hsum j hj
    have hsn := hsum _ (Nat.le_refl _)
    dsimp only
    rcases Nat.eq_or_lt_of_le hj with hj2 | hj2
    · rw [hj2] at g1
      cases gb : z_big A.2.1 (z_exD A.2.1 k' i' (nI xn)) (z_nm A.2.1) with
      | true =>
        rw [gb, if_pos rfl] at er
        obtain ⟨jj, hjj, hjb⟩ := z_any_iff.mp gb
        obtain ⟨hjl, hj60⟩ := Bool.and_eq_true_iff.mp hjb
        have hl1 : z_liv (z_ex1 A.2.1 k' i' (nI xn)) jj = true := by rw [z_ex1_liv hjj]; exact hjl
        have e271 := f271_n (S := S) hM g1 ⟨jj, Nat.lt_succ_of_lt hjj, by
          rw [z_mix_hd]
          have : z_hd (z_ex1 A.2.1 k' i' (nI xn)) jj 0 = 1 := by simpa [z_liv] using hl1
          split <;> exact this, by
          rw [z_mix_bd, if_pos ⟨hjj, hl1⟩]; simpa using hj60⟩
        refine Or.inr ⟨_, m8, ?_, rfl, h8.2.2, fr8, Or.inl ⟨by rw [er]; decide, h8.1⟩⟩
        rw [er, hj2]
        unfold f292_293b f292_349 f292_369
        simp (disch := ((try simp only [true_or, or_true, hM.k, hM.k2391, hM.k2392, hM.k2393, hM.k2394, hM.k2395, hM.k2396, hM.k2397, hM.k2398, hM.k2399, hM.k2400, hM.k2401, hM.k2402, hM.k2403, hM.k2404, hM.k2405, hM.k2406, hM.k2407, hM.k2408, hM.k2409, hM.k2410, hM.k2411, hM.k2412, hM.k2413, hM.k2414, hM.k2415, hM.k2416, hM.k2417, hM.k2418, hM.k2419, hM.k2420, hM.k2421, hM.k2422, hM.k2423, hM.l2391, hM.l2392, hM.l2393, hM.l2394, hM.l2395, hM.l2396, hM.l2397, hM.l2398, hM.l2399, hM.l2400, hM.l2401, hM.l2402, hM.l2403, hM.l2404, hM.l2405, hM.l2406, hM.l2407, hM.l2408, hM.l2409, hM.l2410, hM.l2411, hM.l2412, hM.l2413, hM.l2414, hM.l2415, hM.l2416, hM.l2417, hM.l2418, hM.l2419, hM.l2420, hM.l2421, hM.l2422, hM.l2423]) <;> (try omega))) only [↓reduceIte, ↓z_ite, ↓zR, ↓zB_R, ↓zB_B, ↓zB_ite, ↓zB_gI, ↓zB_pI, ↓zB_pZ, ↓zB_aK, ↓zB_G, ↓zB_lI, ↓zB_lZ, ↓zB_wI, ↓zB_wZ, ↓zB_lIl, ↓zB_wIl, zB_pI, zB_pZ, zB_lI, zB_lZ, zB_wI, zB_wZ, z_addl, z_ladd, z_mull, z_lmul, nI_add, z_subl, Nat.not_lt_zero, z_10, z_01, z_bitc, z_b0, z_b1, ↓zB_Gb, ↓zB_G0, ↓zB_G1, z_eql, z_leq, z_ltl, z_llt, z_eq, z_lt, z_m1lt, hM.k, hM.k2391, hM.k2392, hM.k2393, hM.k2394, hM.k2395, hM.k2396, hM.k2397, hM.k2398, hM.k2399, hM.k2400, hM.k2401, hM.k2402, hM.k2403, hM.k2404, hM.k2405, hM.k2406, hM.k2407, hM.k2408, hM.k2409, hM.k2410, hM.k2411, hM.k2412, hM.k2413, hM.k2414, hM.k2415, hM.k2416, hM.k2417, hM.k2418, hM.k2419, hM.k2420, hM.k2421, hM.k2422, hM.k2423, hM.l2391, hM.l2392, hM.l2393, hM.l2394, hM.l2395, hM.l2396, hM.l2397, hM.l2398, hM.l2399, hM.l2400, hM.l2401, hM.l2402, hM.l2403, hM.l2404, hM.l2405, hM.l2406, hM.l2407, hM.l2408, hM.l2409, hM.l2410, hM.l2411, hM.l2412, hM.l2413, hM.l2414, hM.l2415, hM.l2416, hM.l2417, hM.l2418, hM.l2419, hM.l2420, hM.l2421, hM.l2422, hM.l2423, ↓hM.g1, ↓hM.g5, ↓hM.g6, ↓hM.g7, ↓hM.g8, ↓hM.g9, ↓hM.g10, ↓hM.g11, ↓hM.g12, ↓hM.g13, ↓hM.g14, ↓hM.g16, ↓hM.g17, ↓hM.g18, ↓hM.g19, ↓hM.g21, ↓hM.g22, ↓hM.g23, ↓hM.g24, ↓hM.g25, ↓hM.g27, ↓hM.g28, ↓hM.g30, ↓hM.g31, ↓hM.g32, ↓hM.g36, ↓hM.g37, ↓hM.g39, ↓hM.g40, ↓hM.g41, ↓hM.g43, ↓hM.g45, ↓hM.g46, Nat.lt_irrefl, ↓zB_c e271, zB_c e271]
      | false =>
        rw [gb, if_neg Bool.false_ne_true] at er
        obtain ⟨hQ1, hQ2⟩ := z_exQ_ok hH hn y5' y1 y4 gb
        obtain ⟨m9, e271, d1, d2, d3⟩ := f271_y (S := S) (Q := z_exQ A.2.1 k' i' (nI xn)) hM hw h8.1 g1 (g2.mz mz7) rfl (fun q hq hq1 => hQ2 q hq)
        refine Or.inr ⟨_, m9, ?_, rfl, by rw [d3 0 (by decide)]; exact h8.2.2, fun b hb => by rw [d2 b (by omega) (by omega)]; exact fr8 b hb, Or.inr ⟨by rw [er]; exact nI_pos (by omega), d1, hQ1, hQ2⟩⟩
        rw [er, hj2]
        unfold f292_293b f292_349 f292_369
        simp (disch := ((try simp only [true_or, or_true, hM.k, hM.k2391, hM.k2392, hM.k2393, hM.k2394, hM.k2395, hM.k2396, hM.k2397, hM.k2398, hM.k2399, hM.k2400, hM.k2401, hM.k2402, hM.k2403, hM.k2404, hM.k2405, hM.k2406, hM.k2407, hM.k2408, hM.k2409, hM.k2410, hM.k2411, hM.k2412, hM.k2413, hM.k2414, hM.k2415, hM.k2416, hM.k2417, hM.k2418, hM.k2419, hM.k2420, hM.k2421, hM.k2422, hM.k2423, hM.l2391, hM.l2392, hM.l2393, hM.l2394, hM.l2395, hM.l2396, hM.l2397, hM.l2398, hM.l2399, hM.l2400, hM.l2401, hM.l2402, hM.l2403, hM.l2404, hM.l2405, hM.l2406, hM.l2407, hM.l2408, hM.l2409, hM.l2410, hM.l2411, hM.l2412, hM.l2413, hM.l2414, hM.l2415, hM.l2416, hM.l2417, hM.l2418, hM.l2419, hM.l2420, hM.l2421, hM.l2422, hM.l2423]) <;> (try omega))) only [↓reduceIte, ↓z_ite, ↓zR, ↓zB_R, ↓zB_B, ↓zB_ite, ↓zB_gI, ↓zB_pI, ↓zB_pZ, ↓zB_aK, ↓zB_G, ↓zB_lI, ↓zB_lZ, ↓zB_wI, ↓zB_wZ, ↓zB_lIl, ↓zB_wIl, zB_pI, zB_pZ, zB_lI, zB_lZ, zB_wI, zB_wZ, z_addl, z_ladd, z_mull, z_lmul, nI_add, z_subl, Nat.not_lt_zero, z_10, z_01, z_bitc, z_b0, z_b1, ↓zB_Gb, ↓zB_G0, ↓zB_G1, z_eql, z_leq, z_ltl, z_llt, z_eq, z_lt, z_m1lt, hM.k, hM.k2391, hM.k2392, hM.k2393, hM.k2394, hM.k2395, hM.k2396, hM.k2397, hM.k2398, hM.k2399, hM.k2400, hM.k2401, hM.k2402, hM.k2403, hM.k2404, hM.k2405, hM.k2406, hM.k2407, hM.k2408, hM.k2409, hM.k2410, hM.k2411, hM.k2412, hM.k2413, hM.k2414, hM.k2415, hM.k2416, hM.k2417, hM.k2418, hM.k2419, hM.k2420, hM.k2421, hM.k2422, hM.k2423, hM.l2391, hM.l2392, hM.l2393, hM.l2394, hM.l2395, hM.l2396, hM.l2397, hM.l2398, hM.l2399, hM.l2400, hM.l2401, hM.l2402, hM.l2403, hM.l2404, hM.l2405, hM.l2406, hM.l2407, hM.l2408, hM.l2409, hM.l2410, hM.l2411, hM.l2412, hM.l2413, hM.l2414, hM.l2415, hM.l2416, hM.l2417, hM.l2418, hM.l2419, hM.l2420, hM.l2421, hM.l2422, hM.l2423, ↓hM.g1, ↓hM.g5, ↓hM.g6, ↓hM.g7, ↓hM.g8, ↓hM.g9, ↓hM.g10, ↓hM.g11, ↓hM.g12, ↓hM.g13, ↓hM.g14, ↓hM.g16, ↓hM.g17, ↓hM.g18, ↓hM.g19, ↓hM.g21, ↓hM.g22, ↓hM.g23, ↓hM.g24, ↓hM.g25, ↓hM.g27, ↓hM.g28, ↓hM.g30, ↓hM.g31, ↓hM.g32, ↓hM.g36, ↓hM.g37, ↓hM.g39, ↓hM.g40, ↓hM.g41, ↓hM.g43, ↓hM.g45, ↓hM.g46, Nat.lt_irrefl, ↓zB_c e271, zB_c e271, Bool.true_eq_false]
    · have hl2 : z_liv (z_ex1 A.2.1 k' i' (nI xn)) j = z_liv A.2.1 j := z_ex1_liv hj2
      have ens : z_exN A.2.1 k' i' (nI xn) (j + 1) = z_exN A.2.1 k' i' (nI xn) j + (if z_liv A.2.1 j = true then (if z_own A.2.1 j = z_own A.2.1 k' then z_exK A.2.1 k' i' (z_exc A.2.1 k' i') j (nI xn) else 0) else 0) := z_sl_s _ _ _
      have e0 := h8.1.2.1.e0 hM (B := 0) rfl hj2
      cases glj : z_liv A.2.1 j with
      | false =>
        rw [glj] at hl2 ens
        rw [if_neg Bool.false_ne_true, Nat.add_zero] at ens
        have hl0 : ¬ z_hd A.2.1 j 0 = 1 := by
          intro q; unfold z_liv at glj; rw [q] at glj; cases glj
        refine Or.inl ⟨_, m8, z_nm A.2.1 - (j + 1), ?_, by omega, j + 1, rfl, hj2, rfl, by rw [z_mix_n hl2]; exact g1, c8, g2⟩
        rw [ens]
        unfold f292_293b f292_339 f292_340
        simp (disch := ((try simp only [true_or, or_true, hM.k, hM.k2391, hM.k2392, hM.k2393, hM.k2394, hM.k2395, hM.k2396, hM.k2397, hM.k2398, hM.k2399, hM.k2400, hM.k2401, hM.k2402, hM.k2403, hM.k2404, hM.k2405, hM.k2406, hM.k2407, hM.k2408, hM.k2409, hM.k2410, hM.k2411, hM.k2412, hM.k2413, hM.k2414, hM.k2415, hM.k2416, hM.k2417, hM.k2418, hM.k2419, hM.k2420, hM.k2421, hM.k2422, hM.k2423, hM.l2391, hM.l2392, hM.l2393, hM.l2394, hM.l2395, hM.l2396, hM.l2397, hM.l2398, hM.l2399, hM.l2400, hM.l2401, hM.l2402, hM.l2403, hM.l2404, hM.l2405, hM.l2406, hM.l2407, hM.l2408, hM.l2409, hM.l2410, hM.l2411, hM.l2412, hM.l2413, hM.l2414, hM.l2415, hM.l2416, hM.l2417, hM.l2418, hM.l2419, hM.l2420, hM.l2421, hM.l2422, hM.l2423]) <;> (try omega))) only [↓reduceIte, ↓z_ite, ↓zR, ↓zB_R, ↓zB_B, ↓zB_ite, ↓zB_gI, ↓zB_pI, ↓zB_pZ, ↓zB_aK, ↓zB_G, ↓zB_lI, ↓zB_lZ, ↓zB_wI, ↓zB_wZ, ↓zB_lIl, ↓zB_wIl, zB_pI, zB_pZ, zB_lI, zB_lZ, zB_wI, zB_wZ, z_addl, z_ladd, z_mull, z_lmul, nI_add, z_subl, Nat.not_lt_zero, z_10, z_01, z_bitc, z_b0, z_b1, ↓zB_Gb, ↓zB_G0, ↓zB_G1, z_eql, z_leq, z_ltl, z_llt, z_eq, z_lt, z_m1lt, hM.k, hM.k2391, hM.k2392, hM.k2393, hM.k2394, hM.k2395, hM.k2396, hM.k2397, hM.k2398, hM.k2399, hM.k2400, hM.k2401, hM.k2402, hM.k2403, hM.k2404, hM.k2405, hM.k2406, hM.k2407, hM.k2408, hM.k2409, hM.k2410, hM.k2411, hM.k2412, hM.k2413, hM.k2414, hM.k2415, hM.k2416, hM.k2417, hM.k2418, hM.k2419, hM.k2420, hM.k2421, hM.k2422, hM.k2423, hM.l2391, hM.l2392, hM.l2393, hM.l2394, hM.l2395, hM.l2396, hM.l2397, hM.l2398, hM.l2399, hM.l2400, hM.l2401, hM.l2402, hM.l2403, hM.l2404, hM.l2405, hM.l2406, hM.l2407, hM.l2408, hM.l2409, hM.l2410, hM.l2411, hM.l2412, hM.l2413, hM.l2414, hM.l2415, hM.l2416, hM.l2417, hM.l2418, hM.l2419, hM.l2420, hM.l2421, hM.l2422, hM.l2423, ↓hM.g1, ↓hM.g5, ↓hM.g6, ↓hM.g7, ↓hM.g8, ↓hM.g9, ↓hM.g10, ↓hM.g11, ↓hM.g12, ↓hM.g13, ↓hM.g14, ↓hM.g16, ↓hM.g17, ↓hM.g18, ↓hM.g19, ↓hM.g21, ↓hM.g22, ↓hM.g23, ↓hM.g24, ↓hM.g25, ↓hM.g27, ↓hM.g28, ↓hM.g30, ↓hM.g31, ↓hM.g32, ↓hM.g36, ↓hM.g37, ↓hM.g39, ↓hM.g40, ↓hM.g41, ↓hM.g43, ↓hM.g45, ↓hM.g46, hj2, ↓zB_c e0, zB_c e0, hl0, Nat.add_zero]
        first | done | rfl
      | true =>
        rw [glj] at hl2 ens
        rw [if_pos rfl] at ens
        have hl0 : z_hd A.2.1 j 0 = 1 := by simpa [z_liv] using glj
        have e1j := h8.1.2.1.e1 hM (B := 0) rfl hj2
        have hoj := z_own_e hwf hj2
        rw [hoj.2] at e1j
        by_cases go : z_own A.2.1 j = z_own A.2.1 k'
        · rw [if_pos go] at ens
          have eD := z_exB_in (P := A.2.1) (k := k') (i := i') (name := nI xn) go
          obtain ⟨m9, e293, p1, p2, p3⟩ := f293_sp (S := S) hM h8.1.2.1 h8.2.1 hH hj2 glj go.symm hn c8
          refine Or.inl ⟨_, m9, z_nm A.2.1 - (j + 1), ?_, by omega, j + 1, rfl, hj2, rfl, ?_, p2, g2.trans p3⟩
          · rw [ens]
            unfold f292_293b f292_340
            simp (disch := ((try simp only [true_or, or_true, hM.k, hM.k2391, hM.k2392, hM.k2393, hM.k2394, hM.k2395, hM.k2396, hM.k2397, hM.k2398, hM.k2399, hM.k2400, hM.k2401, hM.k2402, hM.k2403, hM.k2404, hM.k2405, hM.k2406, hM.k2407, hM.k2408, hM.k2409, hM.k2410, hM.k2411, hM.k2412, hM.k2413, hM.k2414, hM.k2415, hM.k2416, hM.k2417, hM.k2418, hM.k2419, hM.k2420, hM.k2421, hM.k2422, hM.k2423, hM.l2391, hM.l2392, hM.l2393, hM.l2394, hM.l2395, hM.l2396, hM.l2397, hM.l2398, hM.l2399, hM.l2400, hM.l2401, hM.l2402, hM.l2403, hM.l2404, hM.l2405, hM.l2406, hM.l2407, hM.l2408, hM.l2409, hM.l2410, hM.l2411, hM.l2412, hM.l2413, hM.l2414, hM.l2415, hM.l2416, hM.l2417, hM.l2418, hM.l2419, hM.l2420, hM.l2421, hM.l2422, hM.l2423]) <;> (try omega))) only [↓reduceIte, ↓z_ite, ↓zR, ↓zB_R, ↓zB_B, ↓zB_ite, ↓zB_gI, ↓zB_pI, ↓zB_pZ, ↓zB_aK, ↓zB_G, ↓zB_lI, ↓zB_lZ, ↓zB_wI, ↓zB_wZ, ↓zB_lIl, ↓zB_wIl, zB_pI, zB_pZ, zB_lI, zB_lZ, zB_wI, zB_wZ, z_addl, z_ladd, z_mull, z_lmul, nI_add, z_subl, Nat.not_lt_zero, z_10, z_01, z_bitc, z_b0, z_b1, ↓zB_Gb, ↓zB_G0, ↓zB_G1, z_eql, z_leq, z_ltl, z_llt, z_eq, z_lt, z_m1lt, hM.k, hM.k2391, hM.k2392, hM.k2393, hM.k2394, hM.k2395, hM.k2396, hM.k2397, hM.k2398, hM.k2399, hM.k2400, hM.k2401, hM.k2402, hM.k2403, hM.k2404, hM.k2405, hM.k2406, hM.k2407, hM.k2408, hM.k2409, hM.k2410, hM.k2411, hM.k2412, hM.k2413, hM.k2414, hM.k2415, hM.k2416, hM.k2417, hM.k2418, hM.k2419, hM.k2420, hM.k2421, hM.k2422, hM.k2423, hM.l2391, hM.l2392, hM.l2393, hM.l2394, hM.l2395, hM.l2396, hM.l2397, hM.l2398, hM.l2399, hM.l2400, hM.l2401, hM.l2402, hM.l2403, hM.l2404, hM.l2405, hM.l2406, hM.l2407, hM.l2408, hM.l2409, hM.l2410, hM.l2411, hM.l2412, hM.l2413, hM.l2414, hM.l2415, hM.l2416, hM.l2417, hM.l2418, hM.l2419, hM.l2420, hM.l2421, hM.l2422, hM.l2423, ↓hM.g1, ↓hM.g5, ↓hM.g6, ↓hM.g7, ↓hM.g8, ↓hM.g9, ↓hM.g10, ↓hM.g11, ↓hM.g12, ↓hM.g13, ↓hM.g14, ↓hM.g16, ↓hM.g17, ↓hM.g18, ↓hM.g19, ↓hM.g21, ↓hM.g22, ↓hM.g23, ↓hM.g24, ↓hM.g25, ↓hM.g27, ↓hM.g28, ↓hM.g30, ↓hM.g31, ↓hM.g32, ↓hM.g36, ↓hM.g37, ↓hM.g39, ↓hM.g40, ↓hM.g41, ↓hM.g43, ↓hM.g45, ↓hM.g46, hj2, ↓zB_c e0, zB_c e0, hl0, ↓zB_c e1j, zB_c e1j, go, ↓zB_c e293, zB_c e293]
          · have hmh : ∀ k w, z_hd (z_mix (z_ex1 A.2.1 k' i' (nI xn)) (z_hd (z_ex1 A.2.1 k' i' (nI xn))) (z_exD A.2.1 k' i' (nI xn)) j) k w = z_hd (z_ex1 A.2.1 k' i' (nI xn)) k w := fun k w => by
              rw [z_mix_hd]; split <;> rfl
            have := p1 _ g1 (show j < z_nm A.2.1 + 1 by omega)
            rw [z_mix_s hl2, eD]
            rw [show z_hd (z_mix (z_ex1 A.2.1 k' i' (nI xn)) (z_hd (z_ex1 A.2.1 k' i' (nI xn))) (z_exD A.2.1 k' i' (nI xn)) j) j = z_hd (z_ex1 A.2.1 k' i' (nI xn)) j from funext (hmh j)] at this
            exact this
        · rw [if_neg go, Nat.add_zero] at ens
          have eD := z_exB_id (P := A.2.1) (k := k') (i := i') (name := nI xn) go
          have go2 : ¬ nI (z_own A.2.1 j) = nI (z_own A.2.1 k') := fun y => go ((nI_eq (by omega) (by omega)).mp y)
          refine Or.inl ⟨_, m8, z_nm A.2.1 - (j + 1), ?_, by omega, j + 1, rfl, hj2, rfl, by rw [z_mix_same hl2 (by rw [eD]; exact (z_ex1_bd hj2).symm)]; exact g1, c8, g2⟩
          rw [ens]
          unfold f292_293b f292_339 f292_340
          simp (disch := ((try simp only [true_or, or_true, hM.k, hM.k2391, hM.k2392, hM.k2393, hM.k2394, hM.k2395, hM.k2396, hM.k2397, hM.k2398, hM.k2399, hM.k2400, hM.k2401, hM.k2402, hM.k2403, hM.k2404, hM.k2405, hM.k2406, hM.k2407, hM.k2408, hM.k2409, hM.k2410, hM.k2411, hM.k2412, hM.k2413, hM.k2414, hM.k2415, hM.k2416, hM.k2417, hM.k2418, hM.k2419, hM.k2420, hM.k2421, hM.k2422, hM.k2423, hM.l2391, hM.l2392, hM.l2393, hM.l2394, hM.l2395, hM.l2396, hM.l2397, hM.l2398, hM.l2399, hM.l2400, hM.l2401, hM.l2402, hM.l2403, hM.l2404, hM.l2405, hM.l2406, hM.l2407, hM.l2408, hM.l2409, hM.l2410, hM.l2411, hM.l2412, hM.l2413, hM.l2414, hM.l2415, hM.l2416, hM.l2417, hM.l2418, hM.l2419, hM.l2420, hM.l2421, hM.l2422, hM.l2423]) <;> (try omega))) only [↓reduceIte, ↓z_ite, ↓zR, ↓zB_R, ↓zB_B, ↓zB_ite, ↓zB_gI, ↓zB_pI, ↓zB_pZ, ↓zB_aK, ↓zB_G, ↓zB_lI, ↓zB_lZ, ↓zB_wI, ↓zB_wZ, ↓zB_lIl, ↓zB_wIl, zB_pI, zB_pZ, zB_lI, zB_lZ, zB_wI, zB_wZ, z_addl, z_ladd, z_mull, z_lmul, nI_add, z_subl, Nat.not_lt_zero, z_10, z_01, z_bitc, z_b0, z_b1, ↓zB_Gb, ↓zB_G0, ↓zB_G1, z_eql, z_leq, z_ltl, z_llt, z_eq, z_lt, z_m1lt, hM.k, hM.k2391, hM.k2392, hM.k2393, hM.k2394, hM.k2395, hM.k2396, hM.k2397, hM.k2398, hM.k2399, hM.k2400, hM.k2401, hM.k2402, hM.k2403, hM.k2404, hM.k2405, hM.k2406, hM.k2407, hM.k2408, hM.k2409, hM.k2410, hM.k2411, hM.k2412, hM.k2413, hM.k2414, hM.k2415, hM.k2416, hM.k2417, hM.k2418, hM.k2419, hM.k2420, hM.k2421, hM.k2422, hM.k2423, hM.l2391, hM.l2392, hM.l2393, hM.l2394, hM.l2395, hM.l2396, hM.l2397, hM.l2398, hM.l2399, hM.l2400, hM.l2401, hM.l2402, hM.l2403, hM.l2404, hM.l2405, hM.l2406, hM.l2407, hM.l2408, hM.l2409, hM.l2410, hM.l2411, hM.l2412, hM.l2413, hM.l2414, hM.l2415, hM.l2416, hM.l2417, hM.l2418, hM.l2419, hM.l2420, hM.l2421, hM.l2422, hM.l2423, ↓hM.g1, ↓hM.g5, ↓hM.g6, ↓hM.g7, ↓hM.g8, ↓hM.g9, ↓hM.g10, ↓hM.g11, ↓hM.g12, ↓hM.g13, ↓hM.g14, ↓hM.g16, ↓hM.g17, ↓hM.g18, ↓hM.g19, ↓hM.g21, ↓hM.g22, ↓hM.g23, ↓hM.g24, ↓hM.g25, ↓hM.g27, ↓hM.g28, ↓hM.g30, ↓hM.g31, ↓hM.g32, ↓hM.g36, ↓hM.g37, ↓hM.g39, ↓hM.g40, ↓hM.g41, ↓hM.g43, ↓hM.g45, ↓hM.g46, hj2, ↓zB_c e0, zB_c e0, hl0, ↓zB_c e1j, zB_c e1j, go2, Nat.add_zero]
          first | done | rfl
end
