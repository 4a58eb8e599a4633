-- deps: 90.60.mdp
/-! an argument fewer: the reference asks for effects, and writes a body -/
section
variable {S : z_S} {m : z_m} {A : z_A} {P : z_Pg}
theorem f298_sp (hM : z_MS S) (hw : z_wf P) (hR : z_RT P) (h : z_mb m 0 P) (hT : z_mLT m P) {k x : Nat} (hs : z_bl m 2416 (z_fam P k)) (hk : k < z_nm P) (hlk : z_liv P k = true) (hx : x < z_cnt P k) : f298 2390 (nI x) (z_hp S m) = some (z_b (!z_dpE P k x), z_hp S m) := by
  have h24 := hw.2.2.1
  have e265 := f265_sp (S := S) hM h
  have hc2 : z_cnt P k ≤ 2 := (hw.2.2.2.1 k hk).2.2.2.1.1
  have inner : ∀ j, j < z_nm P → ∀ F : Bool, f298_15 2390 (nI x) (z_b F) (nI j) 0 (z_hp S m) = some (.inl (2390, nI x, z_b (F && !(z_liv P j && z_any (fun i => z_cf P (z_fam P k) j i && !z_plain (z_bd P j) (z_pt (z_bd P j) i (1 + x))) (z_bd P j).length)), nI (j + 1)), z_hp S m) := by
    intro j hj F
    have e0 := h.e0 hM (B := 0) rfl hj
    unfold f298_15
    cases hl : z_liv P j with
    | false =>
      have hl0 : ¬ z_hd P j 0 = 1 := by
        intro q; unfold z_liv at hl; rw [q] at hl; cases hl
      rw [Bool.false_and, Bool.not_false, Bool.and_true]
      have : f298_15b 2390 (nI x) (z_b F) (nI j) 0 (z_hp S m) = some (.inr (.inl (2390, nI x, z_b F, nI (j + 1))), z_hp S m) := by
        unfold f298_15b f298_80
        simp (disch := ((try simp only [true_or, or_true, hM.k, hM.k2391, hM.k2392, hM.k2393, hM.k2394, hM.k2395, hM.k2396, hM.k2397, hM.k2398, hM.k2399, hM.k2400, hM.k2401, hM.k2402, hM.k2403, hM.k2404, hM.k2405, hM.k2406, hM.k2407, hM.k2408, hM.k2409, hM.k2410, hM.k2411, hM.k2412, hM.k2413, hM.k2414, hM.k2415, hM.k2416, hM.k2417, hM.k2418, hM.k2419, hM.k2420, hM.k2421, hM.k2422, hM.k2423, hM.l2391, hM.l2392, hM.l2393, hM.l2394, hM.l2395, hM.l2396, hM.l2397, hM.l2398, hM.l2399, hM.l2400, hM.l2401, hM.l2402, hM.l2403, hM.l2404, hM.l2405, hM.l2406, hM.l2407, hM.l2408, hM.l2409, hM.l2410, hM.l2411, hM.l2412, hM.l2413, hM.l2414, hM.l2415, hM.l2416, hM.l2417, hM.l2418, hM.l2419, hM.l2420, hM.l2421, hM.l2422, hM.l2423]) <;> (try omega))) only [↓reduceIte, ↓z_ite, ↓zR, ↓zB_R, ↓zB_B, ↓zB_ite, ↓zB_gI, ↓zB_pI, ↓zB_pZ, ↓zB_aK, ↓zB_G, ↓zB_lI, ↓zB_lZ, ↓zB_wI, ↓zB_wZ, ↓zB_lIl, ↓zB_wIl, zB_pI, zB_pZ, zB_lI, zB_lZ, zB_wI, zB_wZ, z_addl, z_ladd, z_mull, z_lmul, nI_add, z_subl, Nat.not_lt_zero, z_10, z_01, z_bitc, z_b0, z_b1, ↓zB_Gb, ↓zB_G0, ↓zB_G1, z_eql, z_leq, z_ltl, z_llt, z_eq, z_lt, z_m1lt, hM.k, hM.k2391, hM.k2392, hM.k2393, hM.k2394, hM.k2395, hM.k2396, hM.k2397, hM.k2398, hM.k2399, hM.k2400, hM.k2401, hM.k2402, hM.k2403, hM.k2404, hM.k2405, hM.k2406, hM.k2407, hM.k2408, hM.k2409, hM.k2410, hM.k2411, hM.k2412, hM.k2413, hM.k2414, hM.k2415, hM.k2416, hM.k2417, hM.k2418, hM.k2419, hM.k2420, hM.k2421, hM.k2422, hM.k2423, hM.l2391, hM.l2392, hM.l2393, hM.l2394, hM.l2395, hM.l2396, hM.l2397, hM.l2398, hM.l2399, hM.l2400, hM.l2401, hM.l2402, hM.l2403, hM.l2404, hM.l2405, hM.l2406, hM.l2407, hM.l2408, hM.l2409, hM.l2410, hM.l2411, hM.l2412, hM.l2413, hM.l2414, hM.l2415, hM.l2416, hM.l2417, hM.l2418, hM.l2419, hM.l2420, hM.l2421, hM.l2422, hM.l2423, ↓hM.g1, ↓hM.g5, ↓hM.g6, ↓hM.g7, ↓hM.g8, ↓hM.g9, ↓hM.g10, ↓hM.g11, ↓hM.g12, ↓hM.g13, ↓hM.g14, ↓hM.g16, ↓hM.g17, ↓hM.g18, ↓hM.g19, ↓hM.g21, ↓hM.g22, ↓hM.g23, ↓hM.g24, ↓hM.g25, ↓hM.g27, ↓hM.g28, ↓hM.g30, ↓hM.g31, ↓hM.g32, ↓hM.g36, ↓hM.g37, ↓hM.g39, ↓hM.g40, ↓hM.g41, ↓hM.g43, ↓hM.g45, ↓hM.g46, ↓zB_c e0, zB_c e0, hl0]
      show m_B (f298_15b 2390 (nI x) (z_b F) (nI j) 0) _ _ = _
      rw [zB_c this]; rfl
    | true =>
      have hl0 : z_hd P j 0 = 1 := by simpa [z_liv] using hl
      rw [Bool.true_and]
      have hlen := z_Pl h hj
      have hB := hw.2.2.2.2.1 j hj
      have e270 := f270_sp (S := S) hM h hj
      generalize hE : (fun i => z_cf P (z_fam P k) j i && !z_plain (z_bd P j) (z_pt (z_bd P j) i (1 + x))) = E
      have key := z_loopI (f := fun s => f298_15b (s.1) (s.2.1) (s.2.2.1) (s.2.2.2.1) (s.2.2.2.2)) (S := S) (fun N st m' => ∃ i, N = (z_bd P j).length - i ∧ i ≤ (z_bd P j).length ∧ st = (2390, nI x, z_b (F && !z_any E i), nI j, nI i) ∧ m' = m) (fun r m' => r = .inl (2390, nI x, z_b (F && !z_any E (z_bd P j).length), nI (j + 1)) ∧ m' = m) ?_ 1000000 (z_bd P j).length (2390, nI x, z_b F, nI j, 0) m ⟨0, rfl, Nat.zero_le _, by show _ = (2390, nI x, z_b (F && true), nI j, nI 0); rw [Bool.and_true]; rfl, rfl⟩ (by omega)
      · obtain ⟨r, m', e, rfl, rfl⟩ := key
        exact e
      · rintro N st m1 ⟨i, rfl, hi, rfl, rfl⟩
        dsimp only
        rcases Nat.eq_or_lt_of_le hi with hi2 | hi2
        · refine Or.inr ⟨_, m1, ?_, rfl, rfl⟩
          rw [hi2]
          unfold f298_15b f298_80
          simp (disch := ((try simp only [true_or, or_true, hM.k, hM.k2391, hM.k2392, hM.k2393, hM.k2394, hM.k2395, hM.k2396, hM.k2397, hM.k2398, hM.k2399, hM.k2400, hM.k2401, hM.k2402, hM.k2403, hM.k2404, hM.k2405, hM.k2406, hM.k2407, hM.k2408, hM.k2409, hM.k2410, hM.k2411, hM.k2412, hM.k2413, hM.k2414, hM.k2415, hM.k2416, hM.k2417, hM.k2418, hM.k2419, hM.k2420, hM.k2421, hM.k2422, hM.k2423, hM.l2391, hM.l2392, hM.l2393, hM.l2394, hM.l2395, hM.l2396, hM.l2397, hM.l2398, hM.l2399, hM.l2400, hM.l2401, hM.l2402, hM.l2403, hM.l2404, hM.l2405, hM.l2406, hM.l2407, hM.l2408, hM.l2409, hM.l2410, hM.l2411, hM.l2412, hM.l2413, hM.l2414, hM.l2415, hM.l2416, hM.l2417, hM.l2418, hM.l2419, hM.l2420, hM.l2421, hM.l2422, hM.l2423]) <;> (try omega))) only [↓reduceIte, ↓z_ite, ↓zR, ↓zB_R, ↓zB_B, ↓zB_ite, ↓zB_gI, ↓zB_pI, ↓zB_pZ, ↓zB_aK, ↓zB_G, ↓zB_lI, ↓zB_lZ, ↓zB_wI, ↓zB_wZ, ↓zB_lIl, ↓zB_wIl, zB_pI, zB_pZ, zB_lI, zB_lZ, zB_wI, zB_wZ, z_addl, z_ladd, z_mull, z_lmul, nI_add, z_subl, Nat.not_lt_zero, z_10, z_01, z_bitc, z_b0, z_b1, ↓zB_Gb, ↓zB_G0, ↓zB_G1, z_eql, z_leq, z_ltl, z_llt, z_eq, z_lt, z_m1lt, hM.k, hM.k2391, hM.k2392, hM.k2393, hM.k2394, hM.k2395, hM.k2396, hM.k2397, hM.k2398, hM.k2399, hM.k2400, hM.k2401, hM.k2402, hM.k2403, hM.k2404, hM.k2405, hM.k2406, hM.k2407, hM.k2408, hM.k2409, hM.k2410, hM.k2411, hM.k2412, hM.k2413, hM.k2414, hM.k2415, hM.k2416, hM.k2417, hM.k2418, hM.k2419, hM.k2420, hM.k2421, hM.k2422, hM.k2423, hM.l2391, hM.l2392, hM.l2393, hM.l2394, hM.l2395, hM.l2396, hM.l2397, hM.l2398, hM.l2399, hM.l2400, hM.l2401, hM.l2402, hM.l2403, hM.l2404, hM.l2405, hM.l2406, hM.l2407, hM.l2408, hM.l2409, hM.l2410, hM.l2411, hM.l2412, hM.l2413, hM.l2414, hM.l2415, hM.l2416, hM.l2417, hM.l2418, hM.l2419, hM.l2420, hM.l2421, hM.l2422, hM.l2423, ↓hM.g1, ↓hM.g5, ↓hM.g6, ↓hM.g7, ↓hM.g8, ↓hM.g9, ↓hM.g10, ↓hM.g11, ↓hM.g12, ↓hM.g13, ↓hM.g14, ↓hM.g16, ↓hM.g17, ↓hM.g18, ↓hM.g19, ↓hM.g21, ↓hM.g22, ↓hM.g23, ↓hM.g24, ↓hM.g25, ↓hM.g27, ↓hM.g28, ↓hM.g30, ↓hM.g31, ↓hM.g32, ↓hM.g36, ↓hM.g37, ↓hM.g39, ↓hM.g40, ↓hM.g41, ↓hM.g43, ↓hM.g45, ↓hM.g46, ↓zB_c e0, zB_c e0, hl0, ↓zB_c e270, zB_c e270, Nat.lt_irrefl]
        · refine Or.inl ⟨_, m1, (z_bd P j).length - (i + 1), ?_, by omega, i + 1, rfl, hi2, rfl, rfl⟩
          have ea : (F && !z_any E (i + 1)) = ((F && !z_any E i) && !E i) := by
            show (F && !(z_any E i || E i)) = _
            rw [Bool.not_or, Bool.and_assoc]
          rw [ea]
          generalize (F && !z_any E i) = b
          have e276 := f276_sp (S := S) hM hw hR h hT hs hj hl hi2
          unfold f298_15b f298_72 f298_68 f298_73
          cases b with
          | false =>
            simp (disch := ((try simp only [true_or, or_true, hM.k, hM.k2391, hM.k2392, hM.k2393, hM.k2394, hM.k2395, hM.k2396, hM.k2397, hM.k2398, hM.k2399, hM.k2400, hM.k2401, hM.k2402, hM.k2403, hM.k2404, hM.k2405, hM.k2406, hM.k2407, hM.k2408, hM.k2409, hM.k2410, hM.k2411, hM.k2412, hM.k2413, hM.k2414, hM.k2415, hM.k2416, hM.k2417, hM.k2418, hM.k2419, hM.k2420, hM.k2421, hM.k2422, hM.k2423, hM.l2391, hM.l2392, hM.l2393, hM.l2394, hM.l2395, hM.l2396, hM.l2397, hM.l2398, hM.l2399, hM.l2400, hM.l2401, hM.l2402, hM.l2403, hM.l2404, hM.l2405, hM.l2406, hM.l2407, hM.l2408, hM.l2409, hM.l2410, hM.l2411, hM.l2412, hM.l2413, hM.l2414, hM.l2415, hM.l2416, hM.l2417, hM.l2418, hM.l2419, hM.l2420, hM.l2421, hM.l2422, hM.l2423]) <;> (try omega))) only [↓reduceIte, ↓z_ite, ↓zR, ↓zB_R, ↓zB_B, ↓zB_ite, ↓zB_gI, ↓zB_pI, ↓zB_pZ, ↓zB_aK, ↓zB_G, ↓zB_lI, ↓zB_lZ, ↓zB_wI, ↓zB_wZ, ↓zB_lIl, ↓zB_wIl, zB_pI, zB_pZ, zB_lI, zB_lZ, zB_wI, zB_wZ, z_addl, z_ladd, z_mull, z_lmul, nI_add, z_subl, Nat.not_lt_zero, z_10, z_01, z_bitc, z_b0, z_b1, ↓zB_Gb, ↓zB_G0, ↓zB_G1, z_eql, z_leq, z_ltl, z_llt, z_eq, z_lt, z_m1lt, hM.k, hM.k2391, hM.k2392, hM.k2393, hM.k2394, hM.k2395, hM.k2396, hM.k2397, hM.k2398, hM.k2399, hM.k2400, hM.k2401, hM.k2402, hM.k2403, hM.k2404, hM.k2405, hM.k2406, hM.k2407, hM.k2408, hM.k2409, hM.k2410, hM.k2411, hM.k2412, hM.k2413, hM.k2414, hM.k2415, hM.k2416, hM.k2417, hM.k2418, hM.k2419, hM.k2420, hM.k2421, hM.k2422, hM.k2423, hM.l2391, hM.l2392, hM.l2393, hM.l2394, hM.l2395, hM.l2396, hM.l2397, hM.l2398, hM.l2399, hM.l2400, hM.l2401, hM.l2402, hM.l2403, hM.l2404, hM.l2405, hM.l2406, hM.l2407, hM.l2408, hM.l2409, hM.l2410, hM.l2411, hM.l2412, hM.l2413, hM.l2414, hM.l2415, hM.l2416, hM.l2417, hM.l2418, hM.l2419, hM.l2420, hM.l2421, hM.l2422, hM.l2423, ↓hM.g1, ↓hM.g5, ↓hM.g6, ↓hM.g7, ↓hM.g8, ↓hM.g9, ↓hM.g10, ↓hM.g11, ↓hM.g12, ↓hM.g13, ↓hM.g14, ↓hM.g16, ↓hM.g17, ↓hM.g18, ↓hM.g19, ↓hM.g21, ↓hM.g22, ↓hM.g23, ↓hM.g24, ↓hM.g25, ↓hM.g27, ↓hM.g28, ↓hM.g30, ↓hM.g31, ↓hM.g32, ↓hM.g36, ↓hM.g37, ↓hM.g39, ↓hM.g40, ↓hM.g41, ↓hM.g43, ↓hM.g45, ↓hM.g46, ↓zB_c e0, zB_c e0, hl0, ↓zB_c e270, zB_c e270, hi2, Bool.false_and]
            rfl
          | true =>
            rw [Bool.true_and]
            cases gc : z_cf P (z_fam P k) j i with
            | false =>
              rw [gc] at e276
              have : E i = false := by rw [← hE]; dsimp only; rw [gc]; rfl
              rw [this]
              simp (disch := ((try simp only [true_or, or_true, hM.k, hM.k2391, hM.k2392, hM.k2393, hM.k2394, hM.k2395, hM.k2396, hM.k2397, hM.k2398, hM.k2399, hM.k2400, hM.k2401, hM.k2402, hM.k2403, hM.k2404, hM.k2405, hM.k2406, hM.k2407, hM.k2408, hM.k2409, hM.k2410, hM.k2411, hM.k2412, hM.k2413, hM.k2414, hM.k2415, hM.k2416, hM.k2417, hM.k2418, hM.k2419, hM.k2420, hM.k2421, hM.k2422, hM.k2423, hM.l2391, hM.l2392, hM.l2393, hM.l2394, hM.l2395, hM.l2396, hM.l2397, hM.l2398, hM.l2399, hM.l2400, hM.l2401, hM.l2402, hM.l2403, hM.l2404, hM.l2405, hM.l2406, hM.l2407, hM.l2408, hM.l2409, hM.l2410, hM.l2411, hM.l2412, hM.l2413, hM.l2414, hM.l2415, hM.l2416, hM.l2417, hM.l2418, hM.l2419, hM.l2420, hM.l2421, hM.l2422, hM.l2423]) <;> (try omega))) only [↓reduceIte, ↓z_ite, ↓zR, ↓zB_R, ↓zB_B, ↓zB_ite, ↓zB_gI, ↓zB_pI, ↓zB_pZ, ↓zB_aK, ↓zB_G, ↓zB_lI, ↓zB_lZ, ↓zB_wI, ↓zB_wZ, ↓zB_lIl, ↓zB_wIl, zB_pI, zB_pZ, zB_lI, zB_lZ, zB_wI, zB_wZ, z_addl, z_ladd, z_mull, z_lmul, nI_add, z_subl, Nat.not_lt_zero, z_10, z_01, z_bitc, z_b0, z_b1, ↓zB_Gb, ↓zB_G0, ↓zB_G1, z_eql, z_leq, z_ltl, z_llt, z_eq, z_lt, z_m1lt, hM.k, hM.k2391, hM.k2392, hM.k2393, hM.k2394, hM.k2395, hM.k2396, hM.k2397, hM.k2398, hM.k2399, hM.k2400, hM.k2401, hM.k2402, hM.k2403, hM.k2404, hM.k2405, hM.k2406, hM.k2407, hM.k2408, hM.k2409, hM.k2410, hM.k2411, hM.k2412, hM.k2413, hM.k2414, hM.k2415, hM.k2416, hM.k2417, hM.k2418, hM.k2419, hM.k2420, hM.k2421, hM.k2422, hM.k2423, hM.l2391, hM.l2392, hM.l2393, hM.l2394, hM.l2395, hM.l2396, hM.l2397, hM.l2398, hM.l2399, hM.l2400, hM.l2401, hM.l2402, hM.l2403, hM.l2404, hM.l2405, hM.l2406, hM.l2407, hM.l2408, hM.l2409, hM.l2410, hM.l2411, hM.l2412, hM.l2413, hM.l2414, hM.l2415, hM.l2416, hM.l2417, hM.l2418, hM.l2419, hM.l2420, hM.l2421, hM.l2422, hM.l2423, ↓hM.g1, ↓hM.g5, ↓hM.g6, ↓hM.g7, ↓hM.g8, ↓hM.g9, ↓hM.g10, ↓hM.g11, ↓hM.g12, ↓hM.g13, ↓hM.g14, ↓hM.g16, ↓hM.g17, ↓hM.g18, ↓hM.g19, ↓hM.g21, ↓hM.g22, ↓hM.g23, ↓hM.g24, ↓hM.g25, ↓hM.g27, ↓hM.g28, ↓hM.g30, ↓hM.g31, ↓hM.g32, ↓hM.g36, ↓hM.g37, ↓hM.g39, ↓hM.g40, ↓hM.g41, ↓hM.g43, ↓hM.g45, ↓hM.g46, ↓zB_c e0, zB_c e0, hl0, ↓zB_c e270, zB_c e270, hi2, Bool.true_eq_false, ↓zB_c e276, zB_c e276]
              rfl
            | true =>
              rw [gc] at e276
              have hpp := (z_cf_dp hw hR hk hlk hx hj hl gc).2.1
              have hpt := z_pt_lt hB.1 hi2 hpp
              have e223 := f223_sp (S := S) hM hB.1 hlen (show j < 24 by omega) hi2 (fun u _ hu => (hT j hj hl u hu).1) (j := 1 + x) (by omega)
              have ex : (1 : Int32) + nI x = nI (1 + x) := nI_add 1 x
              have e296 := f296_sp (S := S) hM hw h hT hj hl hpt
              have eE : E i = !z_plain (z_bd P j) (z_pt (z_bd P j) i (1 + x)) := by rw [← hE]; dsimp only; rw [gc, Bool.true_and]
              rw [eE, Bool.not_not]
              cases gp : z_plain (z_bd P j) (z_pt (z_bd P j) i (1 + x)) with
              | true =>
                rw [gp] at e296
                simp (disch := ((try simp only [true_or, or_true, hM.k, hM.k2391, hM.k2392, hM.k2393, hM.k2394, hM.k2395, hM.k2396, hM.k2397, hM.k2398, hM.k2399, hM.k2400, hM.k2401, hM.k2402, hM.k2403, hM.k2404, hM.k2405, hM.k2406, hM.k2407, hM.k2408, hM.k2409, hM.k2410, hM.k2411, hM.k2412, hM.k2413, hM.k2414, hM.k2415, hM.k2416, hM.k2417, hM.k2418, hM.k2419, hM.k2420, hM.k2421, hM.k2422, hM.k2423, hM.l2391, hM.l2392, hM.l2393, hM.l2394, hM.l2395, hM.l2396, hM.l2397, hM.l2398, hM.l2399, hM.l2400, hM.l2401, hM.l2402, hM.l2403, hM.l2404, hM.l2405, hM.l2406, hM.l2407, hM.l2408, hM.l2409, hM.l2410, hM.l2411, hM.l2412, hM.l2413, hM.l2414, hM.l2415, hM.l2416, hM.l2417, hM.l2418, hM.l2419, hM.l2420, hM.l2421, hM.l2422, hM.l2423]) <;> (try omega))) only [↓reduceIte, ↓z_ite, ↓zR, ↓zB_R, ↓zB_B, ↓zB_ite, ↓zB_gI, ↓zB_pI, ↓zB_pZ, ↓zB_aK, ↓zB_G, ↓zB_lI, ↓zB_lZ, ↓zB_wI, ↓zB_wZ, ↓zB_lIl, ↓zB_wIl, zB_pI, zB_pZ, zB_lI, zB_lZ, zB_wI, zB_wZ, z_addl, z_ladd, z_mull, z_lmul, nI_add, z_subl, Nat.not_lt_zero, z_10, z_01, z_bitc, z_b0, z_b1, ↓zB_Gb, ↓zB_G0, ↓zB_G1, z_eql, z_leq, z_ltl, z_llt, z_eq, z_lt, z_m1lt, hM.k, hM.k2391, hM.k2392, hM.k2393, hM.k2394, hM.k2395, hM.k2396, hM.k2397, hM.k2398, hM.k2399, hM.k2400, hM.k2401, hM.k2402, hM.k2403, hM.k2404, hM.k2405, hM.k2406, hM.k2407, hM.k2408, hM.k2409, hM.k2410, hM.k2411, hM.k2412, hM.k2413, hM.k2414, hM.k2415, hM.k2416, hM.k2417, hM.k2418, hM.k2419, hM.k2420, hM.k2421, hM.k2422, hM.k2423, hM.l2391, hM.l2392, hM.l2393, hM.l2394, hM.l2395, hM.l2396, hM.l2397, hM.l2398, hM.l2399, hM.l2400, hM.l2401, hM.l2402, hM.l2403, hM.l2404, hM.l2405, hM.l2406, hM.l2407, hM.l2408, hM.l2409, hM.l2410, hM.l2411, hM.l2412, hM.l2413, hM.l2414, hM.l2415, hM.l2416, hM.l2417, hM.l2418, hM.l2419, hM.l2420, hM.l2421, hM.l2422, hM.l2423, ↓hM.g1, ↓hM.g5, ↓hM.g6, ↓hM.g7, ↓hM.g8, ↓hM.g9, ↓hM.g10, ↓hM.g11, ↓hM.g12, ↓hM.g13, ↓hM.g14, ↓hM.g16, ↓hM.g17, ↓hM.g18, ↓hM.g19, ↓hM.g21, ↓hM.g22, ↓hM.g23, ↓hM.g24, ↓hM.g25, ↓hM.g27, ↓hM.g28, ↓hM.g30, ↓hM.g31, ↓hM.g32, ↓hM.g36, ↓hM.g37, ↓hM.g39, ↓hM.g40, ↓hM.g41, ↓hM.g43, ↓hM.g45, ↓hM.g46, ↓zB_c e0, zB_c e0, hl0, ↓zB_c e270, zB_c e270, hi2, Bool.true_eq_false, ↓zB_c e276, zB_c e276, ex, ↓zB_c e223, zB_c e223, ↓zB_c e296, zB_c e296]
                first | done | rfl
              | false =>
                rw [gp] at e296
                simp (disch := ((try simp only [true_or, or_true, hM.k, hM.k2391, hM.k2392, hM.k2393, hM.k2394, hM.k2395, hM.k2396, hM.k2397, hM.k2398, hM.k2399, hM.k2400, hM.k2401, hM.k2402, hM.k2403, hM.k2404, hM.k2405, hM.k2406, hM.k2407, hM.k2408, hM.k2409, hM.k2410, hM.k2411, hM.k2412, hM.k2413, hM.k2414, hM.k2415, hM.k2416, hM.k2417, hM.k2418, hM.k2419, hM.k2420, hM.k2421, hM.k2422, hM.k2423, hM.l2391, hM.l2392, hM.l2393, hM.l2394, hM.l2395, hM.l2396, hM.l2397, hM.l2398, hM.l2399, hM.l2400, hM.l2401, hM.l2402, hM.l2403, hM.l2404, hM.l2405, hM.l2406, hM.l2407, hM.l2408, hM.l2409, hM.l2410, hM.l2411, hM.l2412, hM.l2413, hM.l2414, hM.l2415, hM.l2416, hM.l2417, hM.l2418, hM.l2419, hM.l2420, hM.l2421, hM.l2422, hM.l2423]) <;> (try omega))) only [↓reduceIte, ↓z_ite, ↓zR, ↓zB_R, ↓zB_B, ↓zB_ite, ↓zB_gI, ↓zB_pI, ↓zB_pZ, ↓zB_aK, ↓zB_G, ↓zB_lI, ↓zB_lZ, ↓zB_wI, ↓zB_wZ, ↓zB_lIl, ↓zB_wIl, zB_pI, zB_pZ, zB_lI, zB_lZ, zB_wI, zB_wZ, z_addl, z_ladd, z_mull, z_lmul, nI_add, z_subl, Nat.not_lt_zero, z_10, z_01, z_bitc, z_b0, z_b1, ↓zB_Gb, ↓zB_G0, ↓zB_G1, z_eql, z_leq, z_ltl, z_llt, z_eq, z_lt, z_m1lt, hM.k, hM.k2391, hM.k2392, hM.k2393, hM.k2394, hM.k2395, hM.k2396, hM.k2397, hM.k2398, hM.k2399, hM.k2400, hM.k2401, hM.k2402, hM.k2403, hM.k2404, hM.k2405, hM.k2406, hM.k2407, hM.k2408, hM.k2409, hM.k2410, hM.k2411, hM.k2412, hM.k2413, hM.k2414, hM.k2415, hM.k2416, hM.k2417, hM.k2418, hM.k2419, hM.k2420, hM.k2421, hM.k2422, hM.k2423, hM.l2391, hM.l2392, hM.l2393, hM.l2394, hM.l2395, hM.l2396, hM.l2397, hM.l2398, hM.l2399, hM.l2400, hM.l2401, hM.l2402, hM.l2403, hM.l2404, hM.l2405, hM.l2406, hM.l2407, hM.l2408, hM.l2409, hM.l2410, hM.l2411, hM.l2412, hM.l2413, hM.l2414, hM.l2415, hM.l2416, hM.l2417, hM.l2418, hM.l2419, hM.l2420, hM.l2421, hM.l2422, hM.l2423, ↓hM.g1, ↓hM.g5, ↓hM.g6, ↓hM.g7, ↓hM.g8, ↓hM.g9, ↓hM.g10, ↓hM.g11, ↓hM.g12, ↓hM.g13, ↓hM.g14, ↓hM.g16, ↓hM.g17, ↓hM.g18, ↓hM.g19, ↓hM.g21, ↓hM.g22, ↓hM.g23, ↓hM.g24, ↓hM.g25, ↓hM.g27, ↓hM.g28, ↓hM.g30, ↓hM.g31, ↓hM.g32, ↓hM.g36, ↓hM.g37, ↓hM.g39, ↓hM.g40, ↓hM.g41, ↓hM.g43, ↓hM.g45, ↓hM.g46, ↓zB_c e0, zB_c e0, hl0, ↓zB_c e270, zB_c e270, hi2, Bool.true_eq_false, ↓zB_c e276, zB_c e276, ex, ↓zB_c e223, zB_c e223, ↓zB_c e296, zB_c e296]
                first | done | rfl
  unfold f298 f298_4 z_dpE
  generalize hE2 : (fun j => z_liv P j && z_any (fun i => z_cf P (z_fam P k) j i && !z_plain (z_bd P j) (z_pt (z_bd P j) i (1 + x))) (z_bd P j).length) = E2
  have key := z_loopI (f := fun s => f298_4b (s.1) (s.2.1) (s.2.2.1) (s.2.2.2)) (S := S) (fun N st m' => ∃ j, N = z_nm P - j ∧ j ≤ z_nm P ∧ st = (2390, nI x, z_b (!z_any E2 j), nI j) ∧ m' = m) (fun r m' => r = z_b (!z_any E2 (z_nm P)) ∧ m' = m) ?_ 1000000 (z_nm P) (2390, nI x, 1, 0) m ⟨0, rfl, Nat.zero_le _, rfl, rfl⟩ (by omega)
  · obtain ⟨r, m', e, rfl, rfl⟩ := key
    exact e
  · rintro N st m1 ⟨j, rfl, hj, rfl, rfl⟩
    dsimp only
    rcases Nat.eq_or_lt_of_le hj with hj2 | hj2
    · refine Or.inr ⟨_, m1, ?_, rfl, rfl⟩
      rw [hj2]
      generalize (!z_any E2 (z_nm P)) = b
      unfold f298_4b f298_86
      cases b <;> simp (disch := ((try simp only [true_or, or_true, hM.k, hM.k2391, hM.k2392, hM.k2393, hM.k2394, hM.k2395, hM.k2396, hM.k2397, hM.k2398, hM.k2399, hM.k2400, hM.k2401, hM.k2402, hM.k2403, hM.k2404, hM.k2405, hM.k2406, hM.k2407, hM.k2408, hM.k2409, hM.k2410, hM.k2411, hM.k2412, hM.k2413, hM.k2414, hM.k2415, hM.k2416, hM.k2417, hM.k2418, hM.k2419, hM.k2420, hM.k2421, hM.k2422, hM.k2423, hM.l2391, hM.l2392, hM.l2393, hM.l2394, hM.l2395, hM.l2396, hM.l2397, hM.l2398, hM.l2399, hM.l2400, hM.l2401, hM.l2402, hM.l2403, hM.l2404, hM.l2405, hM.l2406, hM.l2407, hM.l2408, hM.l2409, hM.l2410, hM.l2411, hM.l2412, hM.l2413, hM.l2414, hM.l2415, hM.l2416, hM.l2417, hM.l2418, hM.l2419, hM.l2420, hM.l2421, hM.l2422, hM.l2423]) <;> (try omega))) only [↓reduceIte, ↓z_ite, ↓zR, ↓zB_R, ↓zB_B, ↓zB_ite, ↓zB_gI, ↓zB_pI, ↓zB_pZ, ↓zB_aK, ↓zB_G, ↓zB_lI, ↓zB_lZ, ↓zB_wI, ↓zB_wZ, ↓zB_lIl, ↓zB_wIl, zB_pI, zB_pZ, zB_lI, zB_lZ, zB_wI, zB_wZ, z_addl, z_ladd, z_mull, z_lmul, nI_add, z_subl, Nat.not_lt_zero, z_10, z_01, z_bitc, z_b0, z_b1, ↓zB_Gb, ↓zB_G0, ↓zB_G1, z_eql, z_leq, z_ltl, z_llt, z_eq, z_lt, z_m1lt, hM.k, hM.k2391, hM.k2392, hM.k2393, hM.k2394, hM.k2395, hM.k2396, hM.k2397, hM.k2398, hM.k2399, hM.k2400, hM.k2401, hM.k2402, hM.k2403, hM.k2404, hM.k2405, hM.k2406, hM.k2407, hM.k2408, hM.k2409, hM.k2410, hM.k2411, hM.k2412, hM.k2413, hM.k2414, hM.k2415, hM.k2416, hM.k2417, hM.k2418, hM.k2419, hM.k2420, hM.k2421, hM.k2422, hM.k2423, hM.l2391, hM.l2392, hM.l2393, hM.l2394, hM.l2395, hM.l2396, hM.l2397, hM.l2398, hM.l2399, hM.l2400, hM.l2401, hM.l2402, hM.l2403, hM.l2404, hM.l2405, hM.l2406, hM.l2407, hM.l2408, hM.l2409, hM.l2410, hM.l2411, hM.l2412, hM.l2413, hM.l2414, hM.l2415, hM.l2416, hM.l2417, hM.l2418, hM.l2419, hM.l2420, hM.l2421, hM.l2422, hM.l2423, ↓hM.g1, ↓hM.g5, ↓hM.g6, ↓hM.g7, ↓hM.g8, ↓hM.g9, ↓hM.g10, ↓hM.g11, ↓hM.g12, ↓hM.g13, ↓hM.g14, ↓hM.g16, ↓hM.g17, ↓hM.g18, ↓hM.g19, ↓hM.g21, ↓hM.g22, ↓hM.g23, ↓hM.g24, ↓hM.g25, ↓hM.g27, ↓hM.g28, ↓hM.g30, ↓hM.g31, ↓hM.g32, ↓hM.g36, ↓hM.g37, ↓hM.g39, ↓hM.g40, ↓hM.g41, ↓hM.g43, ↓hM.g45, ↓hM.g46, ↓zB_c e265, zB_c e265, Nat.lt_irrefl] <;> rfl
    · have e := inner j hj2 (!z_any E2 j)
      have ea : (!z_any E2 (j + 1)) = (!z_any E2 j && !E2 j) := by
        show (!(z_any E2 j || E2 j)) = _
        rw [Bool.not_or]
      have eE : E2 j = (z_liv P j && z_any (fun i => z_cf P (z_fam P k) j i && !z_plain (z_bd P j) (z_pt (z_bd P j) i (1 + x))) (z_bd P j).length) := by rw [← hE2]
      refine Or.inl ⟨_, m1, z_nm P - (j + 1), ?_, by omega, j + 1, rfl, hj2, rfl, rfl⟩
      rw [ea, eE]
      unfold f298_4b
      simp (disch := ((try simp only [true_or, or_true, hM.k, hM.k2391, hM.k2392, hM.k2393, hM.k2394, hM.k2395, hM.k2396, hM.k2397, hM.k2398, hM.k2399, hM.k2400, hM.k2401, hM.k2402, hM.k2403, hM.k2404, hM.k2405, hM.k2406, hM.k2407, hM.k2408, hM.k2409, hM.k2410, hM.k2411, hM.k2412, hM.k2413, hM.k2414, hM.k2415, hM.k2416, hM.k2417, hM.k2418, hM.k2419, hM.k2420, hM.k2421, hM.k2422, hM.k2423, hM.l2391, hM.l2392, hM.l2393, hM.l2394, hM.l2395, hM.l2396, hM.l2397, hM.l2398, hM.l2399, hM.l2400, hM.l2401, hM.l2402, hM.l2403, hM.l2404, hM.l2405, hM.l2406, hM.l2407, hM.l2408, hM.l2409, hM.l2410, hM.l2411, hM.l2412, hM.l2413, hM.l2414, hM.l2415, hM.l2416, hM.l2417, hM.l2418, hM.l2419, hM.l2420, hM.l2421, hM.l2422, hM.l2423]) <;> (try omega))) only [↓reduceIte, ↓z_ite, ↓zR, ↓zB_R, ↓zB_B, ↓zB_ite, ↓zB_gI, ↓zB_pI, ↓zB_pZ, ↓zB_aK, ↓zB_G, ↓zB_lI, ↓zB_lZ, ↓zB_wI, ↓zB_wZ, ↓zB_lIl, ↓zB_wIl, zB_pI, zB_pZ, zB_lI, zB_lZ, zB_wI, zB_wZ, z_addl, z_ladd, z_mull, z_lmul, nI_add, z_subl, Nat.not_lt_zero, z_10, z_01, z_bitc, z_b0, z_b1, ↓zB_Gb, ↓zB_G0, ↓zB_G1, z_eql, z_leq, z_ltl, z_llt, z_eq, z_lt, z_m1lt, hM.k, hM.k2391, hM.k2392, hM.k2393, hM.k2394, hM.k2395, hM.k2396, hM.k2397, hM.k2398, hM.k2399, hM.k2400, hM.k2401, hM.k2402, hM.k2403, hM.k2404, hM.k2405, hM.k2406, hM.k2407, hM.k2408, hM.k2409, hM.k2410, hM.k2411, hM.k2412, hM.k2413, hM.k2414, hM.k2415, hM.k2416, hM.k2417, hM.k2418, hM.k2419, hM.k2420, hM.k2421, hM.k2422, hM.k2423, hM.l2391, hM.l2392, hM.l2393, hM.l2394, hM.l2395, hM.l2396, hM.l2397, hM.l2398, hM.l2399, hM.l2400, hM.l2401, hM.l2402, hM.l2403, hM.l2404, hM.l2405, hM.l2406, hM.l2407, hM.l2408, hM.l2409, hM.l2410, hM.l2411, hM.l2412, hM.l2413, hM.l2414, hM.l2415, hM.l2416, hM.l2417, hM.l2418, hM.l2419, hM.l2420, hM.l2421, hM.l2422, hM.l2423, ↓hM.g1, ↓hM.g5, ↓hM.g6, ↓hM.g7, ↓hM.g8, ↓hM.g9, ↓hM.g10, ↓hM.g11, ↓hM.g12, ↓hM.g13, ↓hM.g14, ↓hM.g16, ↓hM.g17, ↓hM.g18, ↓hM.g19, ↓hM.g21, ↓hM.g22, ↓hM.g23, ↓hM.g24, ↓hM.g25, ↓hM.g27, ↓hM.g28, ↓hM.g30, ↓hM.g31, ↓hM.g32, ↓hM.g36, ↓hM.g37, ↓hM.g39, ↓hM.g40, ↓hM.g41, ↓hM.g43, ↓hM.g45, ↓hM.g46, ↓zB_c e265, zB_c e265, hj2]
      exact e
/-- a chain goes up -/
theorem z_chn_ge {l : List z_N} (ht : z_tr l) : ∀ (R : List Nat) (i : Nat), z_chn l i R → (∀ s ∈ R, i ≤ s ∧ s < l.length) ∧ R.length + i ≤ l.length
  | [], i, h => ⟨fun s hs => (by cases hs), by have h : i = l.length := h; show 0 + i ≤ l.length; omega⟩
  | s :: R, i, h => by
    obtain ⟨rfl, hi, hR⟩ := h
    obtain ⟨a1, a2⟩ := z_chn_ge ht R (z_en l s) hR
    have := z_en_gt hi
    refine ⟨fun t ht' => ?_, ?_⟩
    · rcases List.mem_cons.mp ht' with rfl | h2
      · exact ⟨Nat.le_refl _, hi⟩
      · have := a1 t h2; omega
    · rw [List.length_cons]; omega
theorem z_dct_j {l : List z_N} {c : Nat → Bool} {x i : Nat} (hi : z_dr l c x i = true) : ∀ n, i ≤ n → n ≤ z_en l i → z_ct (z_dpc l c x) n = z_ct (z_dpc l c x) i := by
  intro n hn
  induction n with
  | zero => intro _; rw [show i = 0 by omega]
  | succ n ih =>
    intro hn2
    by_cases e : i = n + 1
    · rw [e]
    · have h1 := ih (by omega) (by omega)
      have : z_dpc l c x n = false := by
        unfold z_dpc
        rw [z_dD_iff.mpr ⟨i, by omega, hi, by omega⟩]; simp
      rw [z_ct_s, this, h1]; rfl
/-- shorten -/
theorem f299_sp (hM : z_MS S) (hw : z_wf P) (h60 : z_b60 P) (hR : z_RT P) (h : z_mb m 0 P) (hT : z_mLT m P) {k j x : Nat} (hs : z_bl m 2416 (z_fam P k)) (hk : k < z_nm P) (hlk : z_liv P k = true) (hx : x < z_cnt P k) (hj : j < z_nm P) (hl : z_liv P j = true) : ∃ m', f299 2390 (nI j) (nI x) (z_hp S m) = some (nI (z_ct (z_dpc (z_bd P j) (z_cf P (z_fam P k) j) x) (z_bd P j).length), z_hp S m') ∧ (∀ i, i < (z_dpDD P k x j).length → m' 2391 (28400 + 344 + 576 * j + i) = z_k (z_dpDD P k x j) i ∧ m' 2391 (28400 + 344 + 576 * j + i + 192) = z_v (z_dpDD P k x j) i ∧ m' 2391 (28400 + 344 + 576 * j + i + 384) = z_a (z_dpDD P k x j) i) ∧ m' 2391 (28400 + 104 + 10 * j + 9) = nI (z_dpDD P k x j).length ∧ ∃ m0, z_yF j m0 m' ∧ z_wK m m0 ∧ ∀ i, m0 2391 i = m 2391 i := by
  have h24 := hw.2.2.1
  have hlen := h60 j hj
  have hB := hw.2.2.2.2.1 j hj
  have hc2 : z_cnt P k ≤ 2 := (hw.2.2.2.1 k hk).2.2.2.1.1
  have hcd : ∀ q, z_cf P (z_fam P k) j q = true → q < (z_bd P j).length ∧ 1 + x < z_p (z_bd P j) q := fun q hq => ⟨(z_cf_dp hw hR hk hlk hx hj hl hq).1, (z_cf_dp hw hR hk hlk hx hj hl hq).2.1⟩
  have hDl : (z_dpDD P k x j).length ≤ 60 := Nat.le_trans (z_dpDD_len P k x j) hlen
  unfold z_dpDD at hDl ⊢
  generalize hc : z_cf P (z_fam P k) j = cf at hcd hDl ⊢
  obtain ⟨o1, o2⟩ := z_ol_nil (S := S) (m := m) hM
  have hl0 := z_tr_pos hB.1
  unfold f299 f299_13
  have key := z_loopI (f := fun s => f299_13b (s.1) (s.2.1) (s.2.2.1) (s.2.2.2.1) (s.2.2.2.2.1) (s.2.2.2.2.2)) (S := S) (fun N st m' => ∃ i R, N = (z_bd P j).length - i ∧ i ≤ (z_bd P j).length ∧ z_wK m m' ∧ (∀ i, m' 2391 i = m 2391 i) ∧ z_chn (z_bd P j) i R ∧ z_out (z_bd P j) cf x i ∧ st = (2390, nI j, nI x, nI (z_ct (z_dpc (z_bd P j) cf x) i), nI (R.filter (z_dr (z_bd P j) cf x)).length, nI i) ∧ (∀ t, t < (R.filter (z_dr (z_bd P j) cf x)).length → m' 2423 t = nI ((R.filter (z_dr (z_bd P j) cf x)).reverse.getD t 0)) ∧ z_ol m' (z_cat (z_dpg (z_bd P j) cf x) i)) (fun r m' => r = nI (z_ct (z_dpc (z_bd P j) cf x) (z_bd P j).length) ∧ (∀ i, i < (z_dpD (z_bd P j) cf x).length → m' 2391 (28400 + 344 + 576 * j + i) = z_k (z_dpD (z_bd P j) cf x) i ∧ m' 2391 (28400 + 344 + 576 * j + i + 192) = z_v (z_dpD (z_bd P j) cf x) i ∧ m' 2391 (28400 + 344 + 576 * j + i + 384) = z_a (z_dpD (z_bd P j) cf x) i) ∧ m' 2391 (28400 + 104 + 10 * j + 9) = nI (z_dpD (z_bd P j) cf x).length ∧ ∃ m0, z_yF j m0 m' ∧ z_wK m m0 ∧ ∀ i, m0 2391 i = m 2391 i) ?_ 1000000 (z_bd P j).length (2390, nI j, nI x, 0, 0, 0) (z_up m 2390 38 0) ⟨0, [0], rfl, Nat.zero_le _, o2.wK, fun i => by rw [z_up_row (by decide)], ⟨rfl, hl0, z_en_0 hB.1⟩, fun s _ hlt => absurd hlt (Nat.not_lt_zero s), rfl, fun t ht => absurd ht (Nat.not_lt_zero t), o1⟩ (by omega)
  · obtain ⟨r, m', e, rfl, g1, g2, g3⟩ := key
    refine ⟨m', ?_, g1, g2, g3⟩
    simp (disch := ((try simp only [true_or, or_true, hM.k, hM.k2391, hM.k2392, hM.k2393, hM.k2394, hM.k2395, hM.k2396, hM.k2397, hM.k2398, hM.k2399, hM.k2400, hM.k2401, hM.k2402, hM.k2403, hM.k2404, hM.k2405, hM.k2406, hM.k2407, hM.k2408, hM.k2409, hM.k2410, hM.k2411, hM.k2412, hM.k2413, hM.k2414, hM.k2415, hM.k2416, hM.k2417, hM.k2418, hM.k2419, hM.k2420, hM.k2421, hM.k2422, hM.k2423, hM.l2391, hM.l2392, hM.l2393, hM.l2394, hM.l2395, hM.l2396, hM.l2397, hM.l2398, hM.l2399, hM.l2400, hM.l2401, hM.l2402, hM.l2403, hM.l2404, hM.l2405, hM.l2406, hM.l2407, hM.l2408, hM.l2409, hM.l2410, hM.l2411, hM.l2412, hM.l2413, hM.l2414, hM.l2415, hM.l2416, hM.l2417, hM.l2418, hM.l2419, hM.l2420, hM.l2421, hM.l2422, hM.l2423]) <;> (try omega))) only [↓reduceIte, ↓z_ite, ↓zR, ↓zB_R, ↓zB_B, ↓zB_ite, ↓zB_gI, ↓zB_pI, ↓zB_pZ, ↓zB_aK, ↓zB_G, ↓zB_lI, ↓zB_lZ, ↓zB_wI, ↓zB_wZ, ↓zB_lIl, ↓zB_wIl, zB_pI, zB_pZ, zB_lI, zB_lZ, zB_wI, zB_wZ, z_addl, z_ladd, z_mull, z_lmul, nI_add, z_subl, Nat.not_lt_zero, z_10, z_01, z_bitc, z_b0, z_b1, ↓zB_Gb, ↓zB_G0, ↓zB_G1, z_eql, z_leq, z_ltl, z_llt, z_eq, z_lt, z_m1lt, hM.k, hM.k2391, hM.k2392, hM.k2393, hM.k2394, hM.k2395, hM.k2396, hM.k2397, hM.k2398, hM.k2399, hM.k2400, hM.k2401, hM.k2402, hM.k2403, hM.k2404, hM.k2405, hM.k2406, hM.k2407, hM.k2408, hM.k2409, hM.k2410, hM.k2411, hM.k2412, hM.k2413, hM.k2414, hM.k2415, hM.k2416, hM.k2417, hM.k2418, hM.k2419, hM.k2420, hM.k2421, hM.k2422, hM.k2423, hM.l2391, hM.l2392, hM.l2393, hM.l2394, hM.l2395, hM.l2396, hM.l2397, hM.l2398, hM.l2399, hM.l2400, hM.l2401, hM.l2402, hM.l2403, hM.l2404, hM.l2405, hM.l2406, hM.l2407, hM.l2408, hM.l2409, hM.l2410, hM.l2411, hM.l2412, hM.l2413, hM.l2414, hM.l2415, hM.l2416, hM.l2417, hM.l2418, hM.l2419, hM.l2420, hM.l2421, hM.l2422, hM.l2423, ↓hM.g1, ↓hM.g5, ↓hM.g6, ↓hM.g7, ↓hM.g8, ↓hM.g9, ↓hM.g10, ↓hM.g11, ↓hM.g12, ↓hM.g13, ↓hM.g14, ↓hM.g16, ↓hM.g17, ↓hM.g18, ↓hM.g19, ↓hM.g21, ↓hM.g22, ↓hM.g23, ↓hM.g24, ↓hM.g25, ↓hM.g27, ↓hM.g28, ↓hM.g30, ↓hM.g31, ↓hM.g32, ↓hM.g36, ↓hM.g37, ↓hM.g39, ↓hM.g40, ↓hM.g41, ↓hM.g43, ↓hM.g45, ↓hM.g46]
    exact e
  · rintro N st m1 ⟨i, R, rfl, hi, hK, h91, hch, hout, rfl, hst, hol⟩
    have hb1 : z_mb m1 0 P := z_mb_mF hK.mF (by decide) h
    have hT1 := z_mLT_mF hK.mF hT
    have hs1 := hK.bl (Or.inl rfl) hs
    have e270 := f270_sp (S := S) hM hb1 hj
    have hcl := z_dp_len (l := z_bd P j) (c := cf) (x := x) i
    have hctl := z_ct_le (s := z_dpc (z_bd P j) cf x) i
    dsimp only
    rcases Nat.eq_or_lt_of_le hi with hi2 | hi2
    · have hol : z_ol m1 (z_dpD (z_bd P j) cf x) := by rw [hi2] at hol; exact hol
      obtain ⟨m2, e2, l1, l2, l3⟩ := f264_sp (S := S) hM (k := j) (by omega) hol (by omega)
      refine Or.inr ⟨_, m2, ?_, rfl, l1, l2, m1, l3, hK, h91⟩
      unfold f299_13b f299_147
      rw [hi2]
      simp (disch := ((try simp only [true_or, or_true, hM.k, hM.k2391, hM.k2392, hM.k2393, hM.k2394, hM.k2395, hM.k2396, hM.k2397, hM.k2398, hM.k2399, hM.k2400, hM.k2401, hM.k2402, hM.k2403, hM.k2404, hM.k2405, hM.k2406, hM.k2407, hM.k2408, hM.k2409, hM.k2410, hM.k2411, hM.k2412, hM.k2413, hM.k2414, hM.k2415, hM.k2416, hM.k2417, hM.k2418, hM.k2419, hM.k2420, hM.k2421, hM.k2422, hM.k2423, hM.l2391, hM.l2392, hM.l2393, hM.l2394, hM.l2395, hM.l2396, hM.l2397, hM.l2398, hM.l2399, hM.l2400, hM.l2401, hM.l2402, hM.l2403, hM.l2404, hM.l2405, hM.l2406, hM.l2407, hM.l2408, hM.l2409, hM.l2410, hM.l2411, hM.l2412, hM.l2413, hM.l2414, hM.l2415, hM.l2416, hM.l2417, hM.l2418, hM.l2419, hM.l2420, hM.l2421, hM.l2422, hM.l2423]) <;> (try omega))) only [↓reduceIte, ↓z_ite, ↓zR, ↓zB_R, ↓zB_B, ↓zB_ite, ↓zB_gI, ↓zB_pI, ↓zB_pZ, ↓zB_aK, ↓zB_G, ↓zB_lI, ↓zB_lZ, ↓zB_wI, ↓zB_wZ, ↓zB_lIl, ↓zB_wIl, zB_pI, zB_pZ, zB_lI, zB_lZ, zB_wI, zB_wZ, z_addl, z_ladd, z_mull, z_lmul, nI_add, z_subl, Nat.not_lt_zero, z_10, z_01, z_bitc, z_b0, z_b1, ↓zB_Gb, ↓zB_G0, ↓zB_G1, z_eql, z_leq, z_ltl, z_llt, z_eq, z_lt, z_m1lt, hM.k, hM.k2391, hM.k2392, hM.k2393, hM.k2394, hM.k2395, hM.k2396, hM.k2397, hM.k2398, hM.k2399, hM.k2400, hM.k2401, hM.k2402, hM.k2403, hM.k2404, hM.k2405, hM.k2406, hM.k2407, hM.k2408, hM.k2409, hM.k2410, hM.k2411, hM.k2412, hM.k2413, hM.k2414, hM.k2415, hM.k2416, hM.k2417, hM.k2418, hM.k2419, hM.k2420, hM.k2421, hM.k2422, hM.k2423, hM.l2391, hM.l2392, hM.l2393, hM.l2394, hM.l2395, hM.l2396, hM.l2397, hM.l2398, hM.l2399, hM.l2400, hM.l2401, hM.l2402, hM.l2403, hM.l2404, hM.l2405, hM.l2406, hM.l2407, hM.l2408, hM.l2409, hM.l2410, hM.l2411, hM.l2412, hM.l2413, hM.l2414, hM.l2415, hM.l2416, hM.l2417, hM.l2418, hM.l2419, hM.l2420, hM.l2421, hM.l2422, hM.l2423, ↓hM.g1, ↓hM.g5, ↓hM.g6, ↓hM.g7, ↓hM.g8, ↓hM.g9, ↓hM.g10, ↓hM.g11, ↓hM.g12, ↓hM.g13, ↓hM.g14, ↓hM.g16, ↓hM.g17, ↓hM.g18, ↓hM.g19, ↓hM.g21, ↓hM.g22, ↓hM.g23, ↓hM.g24, ↓hM.g25, ↓hM.g27, ↓hM.g28, ↓hM.g30, ↓hM.g31, ↓hM.g32, ↓hM.g36, ↓hM.g37, ↓hM.g39, ↓hM.g40, ↓hM.g41, ↓hM.g43, ↓hM.g45, ↓hM.g46, ↓zB_c e270, zB_c e270, Nat.lt_irrefl, ↓zB_c e2, zB_c e2]
    · obtain ⟨R', rfl, hR'⟩ : ∃ R', R = i :: R' ∧ z_chn (z_bd P j) (z_en (z_bd P j) i) R' := by
        cases R with
        | nil => have : i = (z_bd P j).length := hch; omega
        | cons s R' => exact ⟨R', by rw [hch.1], hch.2.2⟩
      have hge := z_chn_ge hB.1 R' _ hR'
      have hgt := z_en_gt hi2
      have hle := z_en_le hB.1 hi2
      have hfl : (R'.filter (z_dr (z_bd P j) cf x)).length ≤ 60 := by
        have := List.length_filter_le (z_dr (z_bd P j) cf x) R'
        omega
      cases hd : z_dr (z_bd P j) cf x i with
      | true =>
        -- it goes
        have hf : (i :: R').filter (z_dr (z_bd P j) cf x) = i :: R'.filter (z_dr (z_bd P j) cf x) := List.filter_cons_of_pos hd
        rw [hf] at hst ⊢
        have htop : m1 2423 (R'.filter (z_dr (z_bd P j) cf x)).length = nI i := by
          rw [hst _ (by rw [List.length_cons]; omega), List.reverse_cons, z_gD_r (by rw [List.length_reverse]; exact Nat.le_refl _), List.length_reverse, Nat.sub_self]; rfl
        have e269 := f269_sp (S := S) hM (hT1 j hj hl) (by omega) (by omega) hi2
        have hsz : z_sz (z_bd P j) i = z_en (z_bd P j) i - i := by unfold z_en; omega
        refine Or.inl ⟨(2390, nI j, nI x, nI (z_ct (z_dpc (z_bd P j) cf x) (z_en (z_bd P j) i)), nI (R'.filter (z_dr (z_bd P j) cf x)).length, nI (z_en (z_bd P j) i)), m1, (z_bd P j).length - z_en (z_bd P j) i, ?_, by omega, z_en (z_bd P j) i, R', rfl, hle, hK, h91, hR', z_out_j hB.1 hi2 hout, rfl, fun t ht => ?_, by rw [z_dcat_j hd _ (by omega) (Nat.le_refl _)]; exact hol⟩
        · rw [z_dct_j hd _ (by omega) (Nat.le_refl _), List.length_cons]
          unfold f299_13b f299_47 f299_141
          have h0 : 0 < (R'.filter (z_dr (z_bd P j) cf x)).length + 1 := by omega
          have es : nI ((R'.filter (z_dr (z_bd P j) cf x)).length + 1) - 1 = nI (R'.filter (z_dr (z_bd P j) cf x)).length := z_subl (k := 1) (by omega)
          have hx200 : (R'.filter (z_dr (z_bd P j) cf x)).length < 200 := by omega
          have em : nI ((R'.filter (z_dr (z_bd P j) cf x)).length + 1) + (-1) = nI (R'.filter (z_dr (z_bd P j) cf x)).length := z_m1 (by omega)
          have e1 : nI (z_sz (z_bd P j) i) - 1 = nI (z_sz (z_bd P j) i - 1) := z_subl (k := 1) (by omega)
          have e2 : i + (z_sz (z_bd P j) i - 1) + 1 = z_en (z_bd P j) i := by omega
          simp (disch := ((try simp only [true_or, or_true, hM.k, hM.k2391, hM.k2392, hM.k2393, hM.k2394, hM.k2395, hM.k2396, hM.k2397, hM.k2398, hM.k2399, hM.k2400, hM.k2401, hM.k2402, hM.k2403, hM.k2404, hM.k2405, hM.k2406, hM.k2407, hM.k2408, hM.k2409, hM.k2410, hM.k2411, hM.k2412, hM.k2413, hM.k2414, hM.k2415, hM.k2416, hM.k2417, hM.k2418, hM.k2419, hM.k2420, hM.k2421, hM.k2422, hM.k2423, hM.l2391, hM.l2392, hM.l2393, hM.l2394, hM.l2395, hM.l2396, hM.l2397, hM.l2398, hM.l2399, hM.l2400, hM.l2401, hM.l2402, hM.l2403, hM.l2404, hM.l2405, hM.l2406, hM.l2407, hM.l2408, hM.l2409, hM.l2410, hM.l2411, hM.l2412, hM.l2413, hM.l2414, hM.l2415, hM.l2416, hM.l2417, hM.l2418, hM.l2419, hM.l2420, hM.l2421, hM.l2422, hM.l2423]) <;> (try omega))) only [↓reduceIte, ↓z_ite, ↓zR, ↓zB_R, ↓zB_B, ↓zB_ite, ↓zB_gI, ↓zB_pI, ↓zB_pZ, ↓zB_aK, ↓zB_G, ↓zB_lI, ↓zB_lZ, ↓zB_wI, ↓zB_wZ, ↓zB_lIl, ↓zB_wIl, zB_pI, zB_pZ, zB_lI, zB_lZ, zB_wI, zB_wZ, z_addl, z_ladd, z_mull, z_lmul, nI_add, z_subl, Nat.not_lt_zero, z_10, z_01, z_bitc, z_b0, z_b1, ↓zB_Gb, ↓zB_G0, ↓zB_G1, z_eql, z_leq, z_ltl, z_llt, z_eq, z_lt, z_m1lt, hM.k, hM.k2391, hM.k2392, hM.k2393, hM.k2394, hM.k2395, hM.k2396, hM.k2397, hM.k2398, hM.k2399, hM.k2400, hM.k2401, hM.k2402, hM.k2403, hM.k2404, hM.k2405, hM.k2406, hM.k2407, hM.k2408, hM.k2409, hM.k2410, hM.k2411, hM.k2412, hM.k2413, hM.k2414, hM.k2415, hM.k2416, hM.k2417, hM.k2418, hM.k2419, hM.k2420, hM.k2421, hM.k2422, hM.k2423, hM.l2391, hM.l2392, hM.l2393, hM.l2394, hM.l2395, hM.l2396, hM.l2397, hM.l2398, hM.l2399, hM.l2400, hM.l2401, hM.l2402, hM.l2403, hM.l2404, hM.l2405, hM.l2406, hM.l2407, hM.l2408, hM.l2409, hM.l2410, hM.l2411, hM.l2412, hM.l2413, hM.l2414, hM.l2415, hM.l2416, hM.l2417, hM.l2418, hM.l2419, hM.l2420, hM.l2421, hM.l2422, hM.l2423, ↓hM.g1, ↓hM.g5, ↓hM.g6, ↓hM.g7, ↓hM.g8, ↓hM.g9, ↓hM.g10, ↓hM.g11, ↓hM.g12, ↓hM.g13, ↓hM.g14, ↓hM.g16, ↓hM.g17, ↓hM.g18, ↓hM.g19, ↓hM.g21, ↓hM.g22, ↓hM.g23, ↓hM.g24, ↓hM.g25, ↓hM.g27, ↓hM.g28, ↓hM.g30, ↓hM.g31, ↓hM.g32, ↓hM.g36, ↓hM.g37, ↓hM.g39, ↓hM.g40, ↓hM.g41, ↓hM.g43, ↓hM.g45, ↓hM.g46, ↓zB_c e270, zB_c e270, hi2, h0, es, htop, hx200, Nat.lt_irrefl, ↓zB_c e269, zB_c e269, em, e1, e2]
        · rw [hst t (by rw [List.length_cons]; omega), List.reverse_cons, z_gD_l (by rw [List.length_reverse]; exact ht)]
      | false =>
        have hf : (i :: R').filter (z_dr (z_bd P j) cf x) = R'.filter (z_dr (z_bd P j) cf x) := List.filter_cons_of_neg (by rw [hd]; decide)
        rw [hf] at hst ⊢
        have hD := z_out_D hout hd
        have ecat : z_cat (z_dpg (z_bd P j) cf x) (i + 1) = z_cat (z_dpg (z_bd P j) cf x) i ++ [z_dpN (z_bd P j) cf i] := by
          show z_cat (z_dpg (z_bd P j) cf x) i ++ z_dpg (z_bd P j) cf x i = _
          unfold z_dpg
          rw [hD, if_neg Bool.false_ne_true]
        have ec : z_ct (z_dpc (z_bd P j) cf x) (i + 1) = z_ct (z_dpc (z_bd P j) cf x) i + (if cf i = true then 1 else 0) := by
          have : z_dpc (z_bd P j) cf x i = cf i := by unfold z_dpc; rw [hD, Bool.not_false, Bool.and_true]
          rw [z_ct_s, this]
        have hch2 : z_chn (z_bd P j) (i + 1) (z_pts (z_bd P j) i 0 (z_p (z_bd P j) i) ++ R') := z_chn_pts hB.1 hi2 hR' _ 0 (Nat.zero_add _)
        have hfil : (z_pts (z_bd P j) i 0 (z_p (z_bd P j) i) ++ R').filter (z_dr (z_bd P j) cf x) = (if cf i = true then [z_pt (z_bd P j) i (1 + x)] else []) ++ R'.filter (z_dr (z_bd P j) cf x) := by
          rw [List.filter_append, (z_pts_all hB.1 hcd hi2).1]
        -- not here
        have st0 : f299_13b 2390 (nI j) (nI x) (nI (z_ct (z_dpc (z_bd P j) cf x) i)) (nI (R'.filter (z_dr (z_bd P j) cf x)).length) (nI i) (z_hp S m1) = f299_47 2390 (nI j) (nI x) (nI (z_ct (z_dpc (z_bd P j) cf x) i)) (nI (R'.filter (z_dr (z_bd P j) cf x)).length) (nI i) 0 (z_hp S m1) := by
          unfold f299_13b f299_46
          cases hF : R'.filter (z_dr (z_bd P j) cf x) with
          | nil =>
            rw [List.length_nil]
            simp (disch := ((try simp only [true_or, or_true, hM.k, hM.k2391, hM.k2392, hM.k2393, hM.k2394, hM.k2395, hM.k2396, hM.k2397, hM.k2398, hM.k2399, hM.k2400, hM.k2401, hM.k2402, hM.k2403, hM.k2404, hM.k2405, hM.k2406, hM.k2407, hM.k2408, hM.k2409, hM.k2410, hM.k2411, hM.k2412, hM.k2413, hM.k2414, hM.k2415, hM.k2416, hM.k2417, hM.k2418, hM.k2419, hM.k2420, hM.k2421, hM.k2422, hM.k2423, hM.l2391, hM.l2392, hM.l2393, hM.l2394, hM.l2395, hM.l2396, hM.l2397, hM.l2398, hM.l2399, hM.l2400, hM.l2401, hM.l2402, hM.l2403, hM.l2404, hM.l2405, hM.l2406, hM.l2407, hM.l2408, hM.l2409, hM.l2410, hM.l2411, hM.l2412, hM.l2413, hM.l2414, hM.l2415, hM.l2416, hM.l2417, hM.l2418, hM.l2419, hM.l2420, hM.l2421, hM.l2422, hM.l2423]) <;> (try omega))) only [↓reduceIte, ↓z_ite, ↓zR, ↓zB_R, ↓zB_B, ↓zB_ite, ↓zB_gI, ↓zB_pI, ↓zB_pZ, ↓zB_aK, ↓zB_G, ↓zB_lI, ↓zB_lZ, ↓zB_wI, ↓zB_wZ, ↓zB_lIl, ↓zB_wIl, zB_pI, zB_pZ, zB_lI, zB_lZ, zB_wI, zB_wZ, z_addl, z_ladd, z_mull, z_lmul, nI_add, z_subl, Nat.not_lt_zero, z_10, z_01, z_bitc, z_b0, z_b1, ↓zB_Gb, ↓zB_G0, ↓zB_G1, z_eql, z_leq, z_ltl, z_llt, z_eq, z_lt, z_m1lt, hM.k, hM.k2391, hM.k2392, hM.k2393, hM.k2394, hM.k2395, hM.k2396, hM.k2397, hM.k2398, hM.k2399, hM.k2400, hM.k2401, hM.k2402, hM.k2403, hM.k2404, hM.k2405, hM.k2406, hM.k2407, hM.k2408, hM.k2409, hM.k2410, hM.k2411, hM.k2412, hM.k2413, hM.k2414, hM.k2415, hM.k2416, hM.k2417, hM.k2418, hM.k2419, hM.k2420, hM.k2421, hM.k2422, hM.k2423, hM.l2391, hM.l2392, hM.l2393, hM.l2394, hM.l2395, hM.l2396, hM.l2397, hM.l2398, hM.l2399, hM.l2400, hM.l2401, hM.l2402, hM.l2403, hM.l2404, hM.l2405, hM.l2406, hM.l2407, hM.l2408, hM.l2409, hM.l2410, hM.l2411, hM.l2412, hM.l2413, hM.l2414, hM.l2415, hM.l2416, hM.l2417, hM.l2418, hM.l2419, hM.l2420, hM.l2421, hM.l2422, hM.l2423, ↓hM.g1, ↓hM.g5, ↓hM.g6, ↓hM.g7, ↓hM.g8, ↓hM.g9, ↓hM.g10, ↓hM.g11, ↓hM.g12, ↓hM.g13, ↓hM.g14, ↓hM.g16, ↓hM.g17, ↓hM.g18, ↓hM.g19, ↓hM.g21, ↓hM.g22, ↓hM.g23, ↓hM.g24, ↓hM.g25, ↓hM.g27, ↓hM.g28, ↓hM.g30, ↓hM.g31, ↓hM.g32, ↓hM.g36, ↓hM.g37, ↓hM.g39, ↓hM.g40, ↓hM.g41, ↓hM.g43, ↓hM.g45, ↓hM.g46, ↓zB_c e270, zB_c e270, hi2, Nat.lt_irrefl]
          | cons s F =>
            have hm : s ∈ R'.filter (z_dr (z_bd P j) cf x) := by rw [hF]; exact List.mem_cons_self
            have hsm : s ∈ R' := (List.mem_filter.mp hm).1
            have hsge := hge.1 s hsm
            rw [hF] at hst hfl
            rw [List.length_cons] at hst hfl ⊢
            have htop : m1 2423 F.length = nI s := by
              rw [hst _ (by omega), List.reverse_cons, z_gD_r (by rw [List.length_reverse]; exact Nat.le_refl _), List.length_reverse, Nat.sub_self]; rfl
            have h0 : 0 < F.length + 1 := by omega
            have es : nI (F.length + 1) - 1 = nI F.length := z_subl (k := 1) (by omega)
            have hx200 : F.length < 200 := by omega
            have his : i < s := by omega
            have hs1000 : s < 2147483648 := by omega
            simp (disch := ((try simp only [true_or, or_true, hM.k, hM.k2391, hM.k2392, hM.k2393, hM.k2394, hM.k2395, hM.k2396, hM.k2397, hM.k2398, hM.k2399, hM.k2400, hM.k2401, hM.k2402, hM.k2403, hM.k2404, hM.k2405, hM.k2406, hM.k2407, hM.k2408, hM.k2409, hM.k2410, hM.k2411, hM.k2412, hM.k2413, hM.k2414, hM.k2415, hM.k2416, hM.k2417, hM.k2418, hM.k2419, hM.k2420, hM.k2421, hM.k2422, hM.k2423, hM.l2391, hM.l2392, hM.l2393, hM.l2394, hM.l2395, hM.l2396, hM.l2397, hM.l2398, hM.l2399, hM.l2400, hM.l2401, hM.l2402, hM.l2403, hM.l2404, hM.l2405, hM.l2406, hM.l2407, hM.l2408, hM.l2409, hM.l2410, hM.l2411, hM.l2412, hM.l2413, hM.l2414, hM.l2415, hM.l2416, hM.l2417, hM.l2418, hM.l2419, hM.l2420, hM.l2421, hM.l2422, hM.l2423]) <;> (try omega))) only [↓reduceIte, ↓z_ite, ↓zR, ↓zB_R, ↓zB_B, ↓zB_ite, ↓zB_gI, ↓zB_pI, ↓zB_pZ, ↓zB_aK, ↓zB_G, ↓zB_lI, ↓zB_lZ, ↓zB_wI, ↓zB_wZ, ↓zB_lIl, ↓zB_wIl, zB_pI, zB_pZ, zB_lI, zB_lZ, zB_wI, zB_wZ, z_addl, z_ladd, z_mull, z_lmul, nI_add, z_subl, Nat.not_lt_zero, z_10, z_01, z_bitc, z_b0, z_b1, ↓zB_Gb, ↓zB_G0, ↓zB_G1, z_eql, z_leq, z_ltl, z_llt, z_eq, z_lt, z_m1lt, hM.k, hM.k2391, hM.k2392, hM.k2393, hM.k2394, hM.k2395, hM.k2396, hM.k2397, hM.k2398, hM.k2399, hM.k2400, hM.k2401, hM.k2402, hM.k2403, hM.k2404, hM.k2405, hM.k2406, hM.k2407, hM.k2408, hM.k2409, hM.k2410, hM.k2411, hM.k2412, hM.k2413, hM.k2414, hM.k2415, hM.k2416, hM.k2417, hM.k2418, hM.k2419, hM.k2420, hM.k2421, hM.k2422, hM.k2423, hM.l2391, hM.l2392, hM.l2393, hM.l2394, hM.l2395, hM.l2396, hM.l2397, hM.l2398, hM.l2399, hM.l2400, hM.l2401, hM.l2402, hM.l2403, hM.l2404, hM.l2405, hM.l2406, hM.l2407, hM.l2408, hM.l2409, hM.l2410, hM.l2411, hM.l2412, hM.l2413, hM.l2414, hM.l2415, hM.l2416, hM.l2417, hM.l2418, hM.l2419, hM.l2420, hM.l2421, hM.l2422, hM.l2423, ↓hM.g1, ↓hM.g5, ↓hM.g6, ↓hM.g7, ↓hM.g8, ↓hM.g9, ↓hM.g10, ↓hM.g11, ↓hM.g12, ↓hM.g13, ↓hM.g14, ↓hM.g16, ↓hM.g17, ↓hM.g18, ↓hM.g19, ↓hM.g21, ↓hM.g22, ↓hM.g23, ↓hM.g24, ↓hM.g25, ↓hM.g27, ↓hM.g28, ↓hM.g30, ↓hM.g31, ↓hM.g32, ↓hM.g36, ↓hM.g37, ↓hM.g39, ↓hM.g40, ↓hM.g41, ↓hM.g43, ↓hM.g45, ↓hM.g46, ↓zB_c e270, zB_c e270, hi2, h0, es, htop, hx200, his]
        have e276 := f276_sp (S := S) hM hw hR hb1 hT1 hs1 hj hl hi2
        rw [hc] at e276
        cases g : cf i with
        | false =>
          rw [g] at e276 ec hfil
          obtain ⟨m3, e3, c1, c2⟩ := f261_sp (S := S) hM hb1 hj hi2 hol (by omega)
          have hN : z_dpN (z_bd P j) cf i = z_at (z_bd P j) i := by unfold z_dpN; rw [g]; rfl
          rw [if_neg Bool.false_ne_true, List.nil_append] at hfil
          have ec := ec.trans (show z_ct (z_dpc (z_bd P j) cf x) i + (if false = true then 1 else 0) = z_ct (z_dpc (z_bd P j) cf x) i from rfl)
          refine Or.inl ⟨(2390, nI j, nI x, nI (z_ct (z_dpc (z_bd P j) cf x) (i + 1)), nI ((z_pts (z_bd P j) i 0 (z_p (z_bd P j) i) ++ R').filter (z_dr (z_bd P j) cf x)).length, nI (i + 1)), m3, (z_bd P j).length - (i + 1), ?_, by omega, i + 1, _, rfl, hi2, hK.trans c2.wK, fun q => by rw [c2.1 2391 (by decide) (by decide) (by decide) (by decide)]; exact h91 q, hch2, z_out_s hout hd, rfl, fun t ht => ?_, by rw [ecat, hN]; exact c1⟩
          · rw [st0, hfil, ec]
            unfold f299_47 f299_141
            simp (disch := ((try simp only [true_or, or_true, hM.k, hM.k2391, hM.k2392, hM.k2393, hM.k2394, hM.k2395, hM.k2396, hM.k2397, hM.k2398, hM.k2399, hM.k2400, hM.k2401, hM.k2402, hM.k2403, hM.k2404, hM.k2405, hM.k2406, hM.k2407, hM.k2408, hM.k2409, hM.k2410, hM.k2411, hM.k2412, hM.k2413, hM.k2414, hM.k2415, hM.k2416, hM.k2417, hM.k2418, hM.k2419, hM.k2420, hM.k2421, hM.k2422, hM.k2423, hM.l2391, hM.l2392, hM.l2393, hM.l2394, hM.l2395, hM.l2396, hM.l2397, hM.l2398, hM.l2399, hM.l2400, hM.l2401, hM.l2402, hM.l2403, hM.l2404, hM.l2405, hM.l2406, hM.l2407, hM.l2408, hM.l2409, hM.l2410, hM.l2411, hM.l2412, hM.l2413, hM.l2414, hM.l2415, hM.l2416, hM.l2417, hM.l2418, hM.l2419, hM.l2420, hM.l2421, hM.l2422, hM.l2423]) <;> (try omega))) only [↓reduceIte, ↓z_ite, ↓zR, ↓zB_R, ↓zB_B, ↓zB_ite, ↓zB_gI, ↓zB_pI, ↓zB_pZ, ↓zB_aK, ↓zB_G, ↓zB_lI, ↓zB_lZ, ↓zB_wI, ↓zB_wZ, ↓zB_lIl, ↓zB_wIl, zB_pI, zB_pZ, zB_lI, zB_lZ, zB_wI, zB_wZ, z_addl, z_ladd, z_mull, z_lmul, nI_add, z_subl, Nat.not_lt_zero, z_10, z_01, z_bitc, z_b0, z_b1, ↓zB_Gb, ↓zB_G0, ↓zB_G1, z_eql, z_leq, z_ltl, z_llt, z_eq, z_lt, z_m1lt, hM.k, hM.k2391, hM.k2392, hM.k2393, hM.k2394, hM.k2395, hM.k2396, hM.k2397, hM.k2398, hM.k2399, hM.k2400, hM.k2401, hM.k2402, hM.k2403, hM.k2404, hM.k2405, hM.k2406, hM.k2407, hM.k2408, hM.k2409, hM.k2410, hM.k2411, hM.k2412, hM.k2413, hM.k2414, hM.k2415, hM.k2416, hM.k2417, hM.k2418, hM.k2419, hM.k2420, hM.k2421, hM.k2422, hM.k2423, hM.l2391, hM.l2392, hM.l2393, hM.l2394, hM.l2395, hM.l2396, hM.l2397, hM.l2398, hM.l2399, hM.l2400, hM.l2401, hM.l2402, hM.l2403, hM.l2404, hM.l2405, hM.l2406, hM.l2407, hM.l2408, hM.l2409, hM.l2410, hM.l2411, hM.l2412, hM.l2413, hM.l2414, hM.l2415, hM.l2416, hM.l2417, hM.l2418, hM.l2419, hM.l2420, hM.l2421, hM.l2422, hM.l2423, ↓hM.g1, ↓hM.g5, ↓hM.g6, ↓hM.g7, ↓hM.g8, ↓hM.g9, ↓hM.g10, ↓hM.g11, ↓hM.g12, ↓hM.g13, ↓hM.g14, ↓hM.g16, ↓hM.g17, ↓hM.g18, ↓hM.g19, ↓hM.g21, ↓hM.g22, ↓hM.g23, ↓hM.g24, ↓hM.g25, ↓hM.g27, ↓hM.g28, ↓hM.g30, ↓hM.g31, ↓hM.g32, ↓hM.g36, ↓hM.g37, ↓hM.g39, ↓hM.g40, ↓hM.g41, ↓hM.g43, ↓hM.g45, ↓hM.g46, ↓zB_c e276, zB_c e276, ↓zB_c e3, zB_c e3]
          · rw [hfil] at ht ⊢
            rw [c2.r]; exact hst t ht
        | true =>
          rw [g] at e276 ec hfil
          rw [if_pos rfl] at hfil ec
          have ev := hb1.ev hM (B := 0) rfl hj hi2
          have ea := hb1.ea hM (B := 0) rfl hj hi2
          obtain ⟨m3, e3, c1, c2⟩ := f260_sp (S := S) hM hol (by omega) 7 (z_v (z_bd P j) i) (z_a (z_bd P j) i - 1)
          have hK3 := hK.trans c2.wK
          have hT3 := z_mLT_mF hK3.mF hT
          have h7 : z_k (z_bd P j) i = 7 := (z_cf_dp hw hR hk hlk hx hj hl (by rw [hc]; exact g)).2.2.1
          have hN : z_dpN (z_bd P j) cf i = (7, z_v (z_bd P j) i, z_a (z_bd P j) i - 1) := by unfold z_dpN; rw [g, if_pos rfl, h7]
          have hpp := (hcd i g).2
          have e223 := f223_sp (S := S) hM hB.1 (show (z_bd P j).length ≤ 192 by omega) (show j < 24 by omega) hi2 (fun u _ hu => (hT3 j hj hl u hu).1) (j := 1 + x) (by omega)
          have ex : (1 : Int32) + nI x = nI (1 + x) := nI_add 1 x
          have hW : z_wK m3 (z_up m3 2423 (R'.filter (z_dr (z_bd P j) cf x)).length (nI (z_pt (z_bd P j) i (1 + x)))) := ⟨fun q _ => by rw [z_up_row (by decide)], fun q x y z => by rw [z_up_row (by omega)], fun q _ => by rw [z_up_row (by decide)]⟩
          have hx200 : (R'.filter (z_dr (z_bd P j) cf x)).length < 200 := by omega
          have eln : ([z_pt (z_bd P j) i (1 + x)] ++ R'.filter (z_dr (z_bd P j) cf x)).length = (R'.filter (z_dr (z_bd P j) cf x)).length + 1 := by rw [List.length_append]; show 1 + _ = _; omega
          refine Or.inl ⟨(2390, nI j, nI x, nI (z_ct (z_dpc (z_bd P j) cf x) (i + 1)), nI ((z_pts (z_bd P j) i 0 (z_p (z_bd P j) i) ++ R').filter (z_dr (z_bd P j) cf x)).length, nI (i + 1)), z_up m3 2423 (R'.filter (z_dr (z_bd P j) cf x)).length (nI (z_pt (z_bd P j) i (1 + x))), (z_bd P j).length - (i + 1), ?_, by omega, i + 1, _, rfl, hi2, hK3.trans hW, fun q => by rw [z_up_row (by decide), c2.1 2391 (by decide) (by decide) (by decide) (by decide)]; exact h91 q, hch2, z_out_s hout hd, rfl, fun t ht => ?_, ?_⟩
          · rw [st0, hfil, ec, eln]
            unfold f299_47 f299_141
            simp (disch := ((try simp only [true_or, or_true, hM.k, hM.k2391, hM.k2392, hM.k2393, hM.k2394, hM.k2395, hM.k2396, hM.k2397, hM.k2398, hM.k2399, hM.k2400, hM.k2401, hM.k2402, hM.k2403, hM.k2404, hM.k2405, hM.k2406, hM.k2407, hM.k2408, hM.k2409, hM.k2410, hM.k2411, hM.k2412, hM.k2413, hM.k2414, hM.k2415, hM.k2416, hM.k2417, hM.k2418, hM.k2419, hM.k2420, hM.k2421, hM.k2422, hM.k2423, hM.l2391, hM.l2392, hM.l2393, hM.l2394, hM.l2395, hM.l2396, hM.l2397, hM.l2398, hM.l2399, hM.l2400, hM.l2401, hM.l2402, hM.l2403, hM.l2404, hM.l2405, hM.l2406, hM.l2407, hM.l2408, hM.l2409, hM.l2410, hM.l2411, hM.l2412, hM.l2413, hM.l2414, hM.l2415, hM.l2416, hM.l2417, hM.l2418, hM.l2419, hM.l2420, hM.l2421, hM.l2422, hM.l2423]) <;> (try omega))) only [↓reduceIte, ↓z_ite, ↓zR, ↓zB_R, ↓zB_B, ↓zB_ite, ↓zB_gI, ↓zB_pI, ↓zB_pZ, ↓zB_aK, ↓zB_G, ↓zB_lI, ↓zB_lZ, ↓zB_wI, ↓zB_wZ, ↓zB_lIl, ↓zB_wIl, zB_pI, zB_pZ, zB_lI, zB_lZ, zB_wI, zB_wZ, z_addl, z_ladd, z_mull, z_lmul, nI_add, z_subl, Nat.not_lt_zero, z_10, z_01, z_bitc, z_b0, z_b1, ↓zB_Gb, ↓zB_G0, ↓zB_G1, z_eql, z_leq, z_ltl, z_llt, z_eq, z_lt, z_m1lt, hM.k, hM.k2391, hM.k2392, hM.k2393, hM.k2394, hM.k2395, hM.k2396, hM.k2397, hM.k2398, hM.k2399, hM.k2400, hM.k2401, hM.k2402, hM.k2403, hM.k2404, hM.k2405, hM.k2406, hM.k2407, hM.k2408, hM.k2409, hM.k2410, hM.k2411, hM.k2412, hM.k2413, hM.k2414, hM.k2415, hM.k2416, hM.k2417, hM.k2418, hM.k2419, hM.k2420, hM.k2421, hM.k2422, hM.k2423, hM.l2391, hM.l2392, hM.l2393, hM.l2394, hM.l2395, hM.l2396, hM.l2397, hM.l2398, hM.l2399, hM.l2400, hM.l2401, hM.l2402, hM.l2403, hM.l2404, hM.l2405, hM.l2406, hM.l2407, hM.l2408, hM.l2409, hM.l2410, hM.l2411, hM.l2412, hM.l2413, hM.l2414, hM.l2415, hM.l2416, hM.l2417, hM.l2418, hM.l2419, hM.l2420, hM.l2421, hM.l2422, hM.l2423, ↓hM.g1, ↓hM.g5, ↓hM.g6, ↓hM.g7, ↓hM.g8, ↓hM.g9, ↓hM.g10, ↓hM.g11, ↓hM.g12, ↓hM.g13, ↓hM.g14, ↓hM.g16, ↓hM.g17, ↓hM.g18, ↓hM.g19, ↓hM.g21, ↓hM.g22, ↓hM.g23, ↓hM.g24, ↓hM.g25, ↓hM.g27, ↓hM.g28, ↓hM.g30, ↓hM.g31, ↓hM.g32, ↓hM.g36, ↓hM.g37, ↓hM.g39, ↓hM.g40, ↓hM.g41, ↓hM.g43, ↓hM.g45, ↓hM.g46, ↓zB_c e276, zB_c e276, Bool.true_eq_false, ↓zB_c ev, zB_c ev, ↓zB_c ea, zB_c ea, ↓zB_c e3, zB_c e3, ex, ↓zB_c e223, zB_c e223, hx200]
          · rw [hfil] at ht ⊢
            rw [eln] at ht
            rw [List.reverse_append]
            by_cases y : t = (R'.filter (z_dr (z_bd P j) cf x)).length
            · subst y
              rw [z_up_s, z_gD_r (by rw [List.length_reverse]; exact Nat.le_refl _), List.length_reverse, Nat.sub_self]; rfl
            · rw [z_up_b y, z_gD_l (by rw [List.length_reverse]; omega), c2.r]; exact hst t (by omega)
          · obtain ⟨d1, d2⟩ := c1
            rw [ecat, hN]
            exact ⟨by rw [z_up_row (by decide)]; exact d1, fun q hq => by rw [z_up_row (by decide), z_up_row (by decide), z_up_row (by decide)]; exact d2 q hq⟩
end
