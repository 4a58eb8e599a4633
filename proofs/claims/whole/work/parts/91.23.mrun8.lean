-- deps: 91.00.run 91.01.run2 91.02.run3 91.03.run4 91.04.run5 91.05.run6 91.06.crun 91.07.crun2 91.08.crun3 91.09.crun4 91.10.crun5 91.11.crun6 91.12.crun7 91.13.crun8 91.14.crun9 91.15.crun10 91.16.mrun 91.17.mrun2 91.18.mrun3 91.19.mrun4 91.20.mrun5 91.21.mrun6 91.22.mrun7
/-! a run: the reference, turns to the end -/
section
variable {P : z_Pg} {h h' : y_Qh} {k0 : Nat} {n : Nat} {out : y_V} {a : y_Ac} {s : List y_Ac} {S : z_S} {m : z_m} {b : Nat} {B : Int32}
theorem f252_323_r (hM : z_MS S) {X : y_Qs} (hf : y_fnl X) (hQ : y_QX P k0 X) (hC : y_rX P m X) : ∃ m', f252_323 2390 (z_hp S m) = some (y_how X, z_hp S m') ∧ m' 2390 35 = y_val X ∧ m' 2390 33 = nI X.2.2.1 ∧ y_rR m m' := by
  obtain ⟨c34, c35, c33, cq⟩ := hC
  unfold y_how y_val
  by_cases ge : X.2.2.2.1 = -1
  · rw [if_pos ge, if_pos ge]
    have hnil := hf ge
    obtain ⟨_, hQI⟩ := hQ ge
    have cq := cq ge
    rw [hnil] at cq hQI
    obtain ⟨_, _, hO, e0, e0'⟩ := cq
    have hv : y_vt P X.2.1 (z_hd P k0 8) X.2.2.2.2.2 := hQI.2
    have hqn : y_qn X.2.1 + 0 ≤ X.2.2.1 + 1 := hQI.1.2.2
    have hn5 : X.2.2.1 ≤ 500 := hQI.1.1
    rw [ge] at c34
    have fr : ∀ v w, y_rR m (z_up (z_up m 2390 34 v) 2390 35 w) := fun v w => ⟨fun c _ y => by rw [z_up_row y, z_up_row y], fun j _ _ _ _ _ y z => by rw [z_up_b z, z_up_b y]⟩
    have r34 : ∀ v w, z_up (z_up m 2390 34 v) 2390 35 w 2390 34 = v := fun v w => by rw [z_up_b (by decide), z_up_s]
    have r34' : ∀ v, z_up m 2390 34 v 2390 34 = v := fun v => z_up_s _ _ _ _
    have r33 : ∀ v w, z_up (z_up m 2390 34 v) 2390 35 w 2390 33 = nI X.2.2.1 := fun v w => by rw [z_up_b (by decide), z_up_b (by decide)]; exact c33
    have r12 : ∀ v j, z_up m 2390 34 v 2412 j = m 2412 j := fun v j => by rw [z_up_row (by decide)]
    have r13 : ∀ v j, z_up m 2390 34 v 2413 j = m 2413 j := fun v j => by rw [z_up_row (by decide)]
    by_cases g0 : X.2.2.2.2.2.1 = 0
    · rw [g0] at e0 ⊢
      rw [if_pos rfl]
      refine ⟨z_up (z_up m 2390 34 0) 2390 35 X.2.2.2.2.2.2, ?_, z_up_s _ _ _ _, r33 _ _, fr _ _⟩
      unfold f252_323 f252_381 f252_384
      simp (disch := ((try simp only [true_or, or_true, hM.k, hM.k2391, hM.k2392, hM.k2393, hM.k2394, hM.k2395, hM.k2396, hM.k2397, hM.k2398, hM.k2399, hM.k2400, hM.k2401, hM.k2402, hM.k2403, hM.k2404, hM.k2405, hM.k2406, hM.k2407, hM.k2408, hM.k2409, hM.k2410, hM.k2411, hM.k2412, hM.k2413, hM.k2414, hM.k2415, hM.k2416, hM.k2417, hM.k2418, hM.k2419, hM.k2420, hM.k2421, hM.k2422, hM.k2423, hM.l2391, hM.l2392, hM.l2393, hM.l2394, hM.l2395, hM.l2396, hM.l2397, hM.l2398, hM.l2399, hM.l2400, hM.l2401, hM.l2402, hM.l2403, hM.l2404, hM.l2405, hM.l2406, hM.l2407, hM.l2408, hM.l2409, hM.l2410, hM.l2411, hM.l2412, hM.l2413, hM.l2414, hM.l2415, hM.l2416, hM.l2417, hM.l2418, hM.l2419, hM.l2420, hM.l2421, hM.l2422, hM.l2423]) <;> (try omega))) only [↓reduceIte, ↓z_ite, ↓zR, ↓zB_R, ↓zB_B, ↓zB_ite, ↓zB_gI, ↓zB_pI, ↓zB_pZ, ↓zB_aK, ↓zB_G, ↓zB_lI, ↓zB_lZ, ↓zB_wI, ↓zB_wZ, ↓zB_lIl, ↓zB_wIl, zB_pI, zB_pZ, zB_lI, zB_lZ, zB_wI, zB_wZ, z_addl, z_ladd, z_mull, z_lmul, nI_add, z_subl, Nat.not_lt_zero, z_10, z_01, z_bitc, z_b0, z_b1, ↓zB_Gb, ↓zB_G0, ↓zB_G1, z_eql, z_leq, z_ltl, z_llt, z_eq, z_lt, z_m1lt, hM.k, hM.k2391, hM.k2392, hM.k2393, hM.k2394, hM.k2395, hM.k2396, hM.k2397, hM.k2398, hM.k2399, hM.k2400, hM.k2401, hM.k2402, hM.k2403, hM.k2404, hM.k2405, hM.k2406, hM.k2407, hM.k2408, hM.k2409, hM.k2410, hM.k2411, hM.k2412, hM.k2413, hM.k2414, hM.k2415, hM.k2416, hM.k2417, hM.k2418, hM.k2419, hM.k2420, hM.k2421, hM.k2422, hM.k2423, hM.l2391, hM.l2392, hM.l2393, hM.l2394, hM.l2395, hM.l2396, hM.l2397, hM.l2398, hM.l2399, hM.l2400, hM.l2401, hM.l2402, hM.l2403, hM.l2404, hM.l2405, hM.l2406, hM.l2407, hM.l2408, hM.l2409, hM.l2410, hM.l2411, hM.l2412, hM.l2413, hM.l2414, hM.l2415, hM.l2416, hM.l2417, hM.l2418, hM.l2419, hM.l2420, hM.l2421, hM.l2422, hM.l2423, ↓hM.g1, ↓hM.g5, ↓hM.g6, ↓hM.g7, ↓hM.g8, ↓hM.g9, ↓hM.g10, ↓hM.g11, ↓hM.g12, ↓hM.g13, ↓hM.g14, ↓hM.g16, ↓hM.g17, ↓hM.g18, ↓hM.g19, ↓hM.g21, ↓hM.g22, ↓hM.g23, ↓hM.g24, ↓hM.g25, ↓hM.g27, ↓hM.g28, ↓hM.g30, ↓hM.g31, ↓hM.g32, ↓hM.g36, ↓hM.g37, ↓hM.g39, ↓hM.g40, ↓hM.g41, ↓hM.g43, ↓hM.g45, ↓hM.g46, c34, e0, r34', r12, e0', r34]
    · rw [if_neg g0]
      by_cases g1 : X.2.2.2.2.2.1 = 1
      · rw [g1] at e0 ⊢
        rw [if_pos rfl]
        obtain ⟨o, ho, eo⟩ : ∃ o, o < y_qn X.2.1 ∧ X.2.2.2.2.2.2 = nI o := by
          rcases hv with ⟨_, g⟩ | ⟨c, _, _, g⟩
          · exact absurd g g0
          · rcases g with g | ⟨_, o, ho, eo, _⟩
            · rw [g1] at g; exact absurd g (by decide)
            · exact ⟨o, ho, eo⟩
        rw [eo] at e0' ⊢
        rw [nI_clamp (by omega)]
        have oc := (hO.2 o ho).1
        have ho2 : o < 520 := by omega
        refine ⟨z_up (z_up m 2390 34 1) 2390 35 (nI (y_qc X.2.1 o)), ?_, z_up_s _ _ _ _, r33 _ _, fr _ _⟩
        unfold f252_323 f252_381 f252_384
        simp (disch := ((try simp only [true_or, or_true, hM.k, hM.k2391, hM.k2392, hM.k2393, hM.k2394, hM.k2395, hM.k2396, hM.k2397, hM.k2398, hM.k2399, hM.k2400, hM.k2401, hM.k2402, hM.k2403, hM.k2404, hM.k2405, hM.k2406, hM.k2407, hM.k2408, hM.k2409, hM.k2410, hM.k2411, hM.k2412, hM.k2413, hM.k2414, hM.k2415, hM.k2416, hM.k2417, hM.k2418, hM.k2419, hM.k2420, hM.k2421, hM.k2422, hM.k2423, hM.l2391, hM.l2392, hM.l2393, hM.l2394, hM.l2395, hM.l2396, hM.l2397, hM.l2398, hM.l2399, hM.l2400, hM.l2401, hM.l2402, hM.l2403, hM.l2404, hM.l2405, hM.l2406, hM.l2407, hM.l2408, hM.l2409, hM.l2410, hM.l2411, hM.l2412, hM.l2413, hM.l2414, hM.l2415, hM.l2416, hM.l2417, hM.l2418, hM.l2419, hM.l2420, hM.l2421, hM.l2422, hM.l2423]) <;> (try omega))) only [↓reduceIte, ↓z_ite, ↓zR, ↓zB_R, ↓zB_B, ↓zB_ite, ↓zB_gI, ↓zB_pI, ↓zB_pZ, ↓zB_aK, ↓zB_G, ↓zB_lI, ↓zB_lZ, ↓zB_wI, ↓zB_wZ, ↓zB_lIl, ↓zB_wIl, zB_pI, zB_pZ, zB_lI, zB_lZ, zB_wI, zB_wZ, z_addl, z_ladd, z_mull, z_lmul, nI_add, z_subl, Nat.not_lt_zero, z_10, z_01, z_bitc, z_b0, z_b1, ↓zB_Gb, ↓zB_G0, ↓zB_G1, z_eql, z_leq, z_ltl, z_llt, z_eq, z_lt, z_m1lt, hM.k, hM.k2391, hM.k2392, hM.k2393, hM.k2394, hM.k2395, hM.k2396, hM.k2397, hM.k2398, hM.k2399, hM.k2400, hM.k2401, hM.k2402, hM.k2403, hM.k2404, hM.k2405, hM.k2406, hM.k2407, hM.k2408, hM.k2409, hM.k2410, hM.k2411, hM.k2412, hM.k2413, hM.k2414, hM.k2415, hM.k2416, hM.k2417, hM.k2418, hM.k2419, hM.k2420, hM.k2421, hM.k2422, hM.k2423, hM.l2391, hM.l2392, hM.l2393, hM.l2394, hM.l2395, hM.l2396, hM.l2397, hM.l2398, hM.l2399, hM.l2400, hM.l2401, hM.l2402, hM.l2403, hM.l2404, hM.l2405, hM.l2406, hM.l2407, hM.l2408, hM.l2409, hM.l2410, hM.l2411, hM.l2412, hM.l2413, hM.l2414, hM.l2415, hM.l2416, hM.l2417, hM.l2418, hM.l2419, hM.l2420, hM.l2421, hM.l2422, hM.l2423, ↓hM.g1, ↓hM.g5, ↓hM.g6, ↓hM.g7, ↓hM.g8, ↓hM.g9, ↓hM.g10, ↓hM.g11, ↓hM.g12, ↓hM.g13, ↓hM.g14, ↓hM.g16, ↓hM.g17, ↓hM.g18, ↓hM.g19, ↓hM.g21, ↓hM.g22, ↓hM.g23, ↓hM.g24, ↓hM.g25, ↓hM.g27, ↓hM.g28, ↓hM.g30, ↓hM.g31, ↓hM.g32, ↓hM.g36, ↓hM.g37, ↓hM.g39, ↓hM.g40, ↓hM.g41, ↓hM.g43, ↓hM.g45, ↓hM.g46, c34, e0, r34', r12, r13, e0', ho2, oc, r34, show ¬ (1 : Int32) = 0 by decide]
      · rw [if_neg g1]
        refine ⟨z_up (z_up m 2390 34 X.2.2.2.2.2.1) 2390 35 0, ?_, z_up_s _ _ _ _, r33 _ _, fr _ _⟩
        unfold f252_323 f252_381 f252_384
        simp (disch := ((try simp only [true_or, or_true, hM.k, hM.k2391, hM.k2392, hM.k2393, hM.k2394, hM.k2395, hM.k2396, hM.k2397, hM.k2398, hM.k2399, hM.k2400, hM.k2401, hM.k2402, hM.k2403, hM.k2404, hM.k2405, hM.k2406, hM.k2407, hM.k2408, hM.k2409, hM.k2410, hM.k2411, hM.k2412, hM.k2413, hM.k2414, hM.k2415, hM.k2416, hM.k2417, hM.k2418, hM.k2419, hM.k2420, hM.k2421, hM.k2422, hM.k2423, hM.l2391, hM.l2392, hM.l2393, hM.l2394, hM.l2395, hM.l2396, hM.l2397, hM.l2398, hM.l2399, hM.l2400, hM.l2401, hM.l2402, hM.l2403, hM.l2404, hM.l2405, hM.l2406, hM.l2407, hM.l2408, hM.l2409, hM.l2410, hM.l2411, hM.l2412, hM.l2413, hM.l2414, hM.l2415, hM.l2416, hM.l2417, hM.l2418, hM.l2419, hM.l2420, hM.l2421, hM.l2422, hM.l2423]) <;> (try omega))) only [↓reduceIte, ↓z_ite, ↓zR, ↓zB_R, ↓zB_B, ↓zB_ite, ↓zB_gI, ↓zB_pI, ↓zB_pZ, ↓zB_aK, ↓zB_G, ↓zB_lI, ↓zB_lZ, ↓zB_wI, ↓zB_wZ, ↓zB_lIl, ↓zB_wIl, zB_pI, zB_pZ, zB_lI, zB_lZ, zB_wI, zB_wZ, z_addl, z_ladd, z_mull, z_lmul, nI_add, z_subl, Nat.not_lt_zero, z_10, z_01, z_bitc, z_b0, z_b1, ↓zB_Gb, ↓zB_G0, ↓zB_G1, z_eql, z_leq, z_ltl, z_llt, z_eq, z_lt, z_m1lt, hM.k, hM.k2391, hM.k2392, hM.k2393, hM.k2394, hM.k2395, hM.k2396, hM.k2397, hM.k2398, hM.k2399, hM.k2400, hM.k2401, hM.k2402, hM.k2403, hM.k2404, hM.k2405, hM.k2406, hM.k2407, hM.k2408, hM.k2409, hM.k2410, hM.k2411, hM.k2412, hM.k2413, hM.k2414, hM.k2415, hM.k2416, hM.k2417, hM.k2418, hM.k2419, hM.k2420, hM.k2421, hM.k2422, hM.k2423, hM.l2391, hM.l2392, hM.l2393, hM.l2394, hM.l2395, hM.l2396, hM.l2397, hM.l2398, hM.l2399, hM.l2400, hM.l2401, hM.l2402, hM.l2403, hM.l2404, hM.l2405, hM.l2406, hM.l2407, hM.l2408, hM.l2409, hM.l2410, hM.l2411, hM.l2412, hM.l2413, hM.l2414, hM.l2415, hM.l2416, hM.l2417, hM.l2418, hM.l2419, hM.l2420, hM.l2421, hM.l2422, hM.l2423, ↓hM.g1, ↓hM.g5, ↓hM.g6, ↓hM.g7, ↓hM.g8, ↓hM.g9, ↓hM.g10, ↓hM.g11, ↓hM.g12, ↓hM.g13, ↓hM.g14, ↓hM.g16, ↓hM.g17, ↓hM.g18, ↓hM.g19, ↓hM.g21, ↓hM.g22, ↓hM.g23, ↓hM.g24, ↓hM.g25, ↓hM.g27, ↓hM.g28, ↓hM.g30, ↓hM.g31, ↓hM.g32, ↓hM.g36, ↓hM.g37, ↓hM.g39, ↓hM.g40, ↓hM.g41, ↓hM.g43, ↓hM.g45, ↓hM.g46, c34, e0, r34', g0, g1, r34]
  · rw [if_neg ge, if_neg ge]
    refine ⟨m, ?_, c35, c33, y_rR.refl m⟩
    unfold f252_323 f252_384
    have g34 : ¬ m 2390 34 = -1 := by rw [c34]; exact ge
    simp (disch := ((try simp only [true_or, or_true, hM.k, hM.k2391, hM.k2392, hM.k2393, hM.k2394, hM.k2395, hM.k2396, hM.k2397, hM.k2398, hM.k2399, hM.k2400, hM.k2401, hM.k2402, hM.k2403, hM.k2404, hM.k2405, hM.k2406, hM.k2407, hM.k2408, hM.k2409, hM.k2410, hM.k2411, hM.k2412, hM.k2413, hM.k2414, hM.k2415, hM.k2416, hM.k2417, hM.k2418, hM.k2419, hM.k2420, hM.k2421, hM.k2422, hM.k2423, hM.l2391, hM.l2392, hM.l2393, hM.l2394, hM.l2395, hM.l2396, hM.l2397, hM.l2398, hM.l2399, hM.l2400, hM.l2401, hM.l2402, hM.l2403, hM.l2404, hM.l2405, hM.l2406, hM.l2407, hM.l2408, hM.l2409, hM.l2410, hM.l2411, hM.l2412, hM.l2413, hM.l2414, hM.l2415, hM.l2416, hM.l2417, hM.l2418, hM.l2419, hM.l2420, hM.l2421, hM.l2422, hM.l2423]) <;> (try omega))) only [↓reduceIte, ↓z_ite, ↓zR, ↓zB_R, ↓zB_B, ↓zB_ite, ↓zB_gI, ↓zB_pI, ↓zB_pZ, ↓zB_aK, ↓zB_G, ↓zB_lI, ↓zB_lZ, ↓zB_wI, ↓zB_wZ, ↓zB_lIl, ↓zB_wIl, zB_pI, zB_pZ, zB_lI, zB_lZ, zB_wI, zB_wZ, z_addl, z_ladd, z_mull, z_lmul, nI_add, z_subl, Nat.not_lt_zero, z_10, z_01, z_bitc, z_b0, z_b1, ↓zB_Gb, ↓zB_G0, ↓zB_G1, z_eql, z_leq, z_ltl, z_llt, z_eq, z_lt, z_m1lt, hM.k, hM.k2391, hM.k2392, hM.k2393, hM.k2394, hM.k2395, hM.k2396, hM.k2397, hM.k2398, hM.k2399, hM.k2400, hM.k2401, hM.k2402, hM.k2403, hM.k2404, hM.k2405, hM.k2406, hM.k2407, hM.k2408, hM.k2409, hM.k2410, hM.k2411, hM.k2412, hM.k2413, hM.k2414, hM.k2415, hM.k2416, hM.k2417, hM.k2418, hM.k2419, hM.k2420, hM.k2421, hM.k2422, hM.k2423, hM.l2391, hM.l2392, hM.l2393, hM.l2394, hM.l2395, hM.l2396, hM.l2397, hM.l2398, hM.l2399, hM.l2400, hM.l2401, hM.l2402, hM.l2403, hM.l2404, hM.l2405, hM.l2406, hM.l2407, hM.l2408, hM.l2409, hM.l2410, hM.l2411, hM.l2412, hM.l2413, hM.l2414, hM.l2415, hM.l2416, hM.l2417, hM.l2418, hM.l2419, hM.l2420, hM.l2421, hM.l2422, hM.l2423, ↓hM.g1, ↓hM.g5, ↓hM.g6, ↓hM.g7, ↓hM.g8, ↓hM.g9, ↓hM.g10, ↓hM.g11, ↓hM.g12, ↓hM.g13, ↓hM.g14, ↓hM.g16, ↓hM.g17, ↓hM.g18, ↓hM.g19, ↓hM.g21, ↓hM.g22, ↓hM.g23, ↓hM.g24, ↓hM.g25, ↓hM.g27, ↓hM.g28, ↓hM.g30, ↓hM.g31, ↓hM.g32, ↓hM.g36, ↓hM.g37, ↓hM.g39, ↓hM.g40, ↓hM.g41, ↓hM.g43, ↓hM.g45, ↓hM.g46, c34, ge]
theorem f252_299_r (hP : y_PG P) (hM : z_MS S) (hB : B = nI b) : ∀ (N : Nat) (X : y_Qs) (m : z_m) (F : Nat), y_MU X < N → N < F → y_QX P k0 X → y_rG m b P → y_rX P m X → ∃ m', m_W (fun s => f252_299b (s.1) (s.2)) F (2390, B) (z_hp S m) = some (y_how (y_run P N X), z_hp S m') ∧ m' 2390 35 = y_val (y_run P N X) ∧ m' 2390 33 = nI (y_run P N X).2.2.1 ∧ y_rR m m'
  | 0, X, m, F, h1, _, _, _, _ => absurd h1 (Nat.not_lt_zero _)
  | N + 1, X, m, 0, h1, h3, _, _, _ => absurd h3 (Nat.not_lt_zero _)
  | N + 1, X, m, F + 1, h1, h3, hQ, hG, hC => by
    have stop : (X.1 = [] ∨ ¬ X.2.2.2.1 = -1) → ∃ m', m_W (fun s => f252_299b (s.1) (s.2)) (F + 1) (2390, B) (z_hp S m) = some (y_how X, z_hp S m') ∧ m' 2390 35 = y_val X ∧ m' 2390 33 = nI X.2.2.1 ∧ y_rR m m' := fun hs => by
      obtain ⟨m', e, q1, q2, q3⟩ := f252_323_r (S := S) hM (X := X) (fun ge => hs.resolve_right (fun q => q ge)) hQ hC
      refine ⟨m', ?_, q1, q2, q3⟩
      unfold m_W m_B
      have : f252_299b 2390 B (z_hp S m) = some (.inr (y_how X), z_hp S m') := by
        unfold f252_299b
        by_cases ge : X.2.2.2.1 = -1
        · have hnil := hs.resolve_right (fun q => q ge)
          have c20 := (hC.2.2.2 ge).1.1
          rw [hnil] at c20
          have c20 : m 2390 20 = nI 0 := c20
          have g0 : ¬ (0 : Int32) < nI 0 := by decide
          simp (disch := ((try simp only [true_or, or_true, hM.k, hM.k2391, hM.k2392, hM.k2393, hM.k2394, hM.k2395, hM.k2396, hM.k2397, hM.k2398, hM.k2399, hM.k2400, hM.k2401, hM.k2402, hM.k2403, hM.k2404, hM.k2405, hM.k2406, hM.k2407, hM.k2408, hM.k2409, hM.k2410, hM.k2411, hM.k2412, hM.k2413, hM.k2414, hM.k2415, hM.k2416, hM.k2417, hM.k2418, hM.k2419, hM.k2420, hM.k2421, hM.k2422, hM.k2423, hM.l2391, hM.l2392, hM.l2393, hM.l2394, hM.l2395, hM.l2396, hM.l2397, hM.l2398, hM.l2399, hM.l2400, hM.l2401, hM.l2402, hM.l2403, hM.l2404, hM.l2405, hM.l2406, hM.l2407, hM.l2408, hM.l2409, hM.l2410, hM.l2411, hM.l2412, hM.l2413, hM.l2414, hM.l2415, hM.l2416, hM.l2417, hM.l2418, hM.l2419, hM.l2420, hM.l2421, hM.l2422, hM.l2423]) <;> (try omega))) only [↓reduceIte, ↓z_ite, ↓zR, ↓zB_R, ↓zB_B, ↓zB_ite, ↓zB_gI, ↓zB_pI, ↓zB_pZ, ↓zB_aK, ↓zB_G, ↓zB_lI, ↓zB_lZ, ↓zB_wI, ↓zB_wZ, ↓zB_lIl, ↓zB_wIl, zB_pI, zB_pZ, zB_lI, zB_lZ, zB_wI, zB_wZ, z_addl, z_ladd, z_mull, z_lmul, nI_add, z_subl, Nat.not_lt_zero, z_10, z_01, z_bitc, z_b0, z_b1, ↓zB_Gb, ↓zB_G0, ↓zB_G1, z_eql, z_leq, z_ltl, z_llt, z_eq, z_lt, z_m1lt, hM.k, hM.k2391, hM.k2392, hM.k2393, hM.k2394, hM.k2395, hM.k2396, hM.k2397, hM.k2398, hM.k2399, hM.k2400, hM.k2401, hM.k2402, hM.k2403, hM.k2404, hM.k2405, hM.k2406, hM.k2407, hM.k2408, hM.k2409, hM.k2410, hM.k2411, hM.k2412, hM.k2413, hM.k2414, hM.k2415, hM.k2416, hM.k2417, hM.k2418, hM.k2419, hM.k2420, hM.k2421, hM.k2422, hM.k2423, hM.l2391, hM.l2392, hM.l2393, hM.l2394, hM.l2395, hM.l2396, hM.l2397, hM.l2398, hM.l2399, hM.l2400, hM.l2401, hM.l2402, hM.l2403, hM.l2404, hM.l2405, hM.l2406, hM.l2407, hM.l2408, hM.l2409, hM.l2410, hM.l2411, hM.l2412, hM.l2413, hM.l2414, hM.l2415, hM.l2416, hM.l2417, hM.l2418, hM.l2419, hM.l2420, hM.l2421, hM.l2422, hM.l2423, ↓hM.g1, ↓hM.g5, ↓hM.g6, ↓hM.g7, ↓hM.g8, ↓hM.g9, ↓hM.g10, ↓hM.g11, ↓hM.g12, ↓hM.g13, ↓hM.g14, ↓hM.g16, ↓hM.g17, ↓hM.g18, ↓hM.g19, ↓hM.g21, ↓hM.g22, ↓hM.g23, ↓hM.g24, ↓hM.g25, ↓hM.g27, ↓hM.g28, ↓hM.g30, ↓hM.g31, ↓hM.g32, ↓hM.g36, ↓hM.g37, ↓hM.g39, ↓hM.g40, ↓hM.g41, ↓hM.g43, ↓hM.g45, ↓hM.g46, c20, g0, ↓zB_c e, zB_c e]
        · have c34 : ¬ m 2390 34 = -1 := by rw [hC.1]; exact ge
          by_cases g0 : (0 : Int32) < m 2390 20
          · simp (disch := ((try simp only [true_or, or_true, hM.k, hM.k2391, hM.k2392, hM.k2393, hM.k2394, hM.k2395, hM.k2396, hM.k2397, hM.k2398, hM.k2399, hM.k2400, hM.k2401, hM.k2402, hM.k2403, hM.k2404, hM.k2405, hM.k2406, hM.k2407, hM.k2408, hM.k2409, hM.k2410, hM.k2411, hM.k2412, hM.k2413, hM.k2414, hM.k2415, hM.k2416, hM.k2417, hM.k2418, hM.k2419, hM.k2420, hM.k2421, hM.k2422, hM.k2423, hM.l2391, hM.l2392, hM.l2393, hM.l2394, hM.l2395, hM.l2396, hM.l2397, hM.l2398, hM.l2399, hM.l2400, hM.l2401, hM.l2402, hM.l2403, hM.l2404, hM.l2405, hM.l2406, hM.l2407, hM.l2408, hM.l2409, hM.l2410, hM.l2411, hM.l2412, hM.l2413, hM.l2414, hM.l2415, hM.l2416, hM.l2417, hM.l2418, hM.l2419, hM.l2420, hM.l2421, hM.l2422, hM.l2423]) <;> (try omega))) only [↓reduceIte, ↓z_ite, ↓zR, ↓zB_R, ↓zB_B, ↓zB_ite, ↓zB_gI, ↓zB_pI, ↓zB_pZ, ↓zB_aK, ↓zB_G, ↓zB_lI, ↓zB_lZ, ↓zB_wI, ↓zB_wZ, ↓zB_lIl, ↓zB_wIl, zB_pI, zB_pZ, zB_lI, zB_lZ, zB_wI, zB_wZ, z_addl, z_ladd, z_mull, z_lmul, nI_add, z_subl, Nat.not_lt_zero, z_10, z_01, z_bitc, z_b0, z_b1, ↓zB_Gb, ↓zB_G0, ↓zB_G1, z_eql, z_leq, z_ltl, z_llt, z_eq, z_lt, z_m1lt, hM.k, hM.k2391, hM.k2392, hM.k2393, hM.k2394, hM.k2395, hM.k2396, hM.k2397, hM.k2398, hM.k2399, hM.k2400, hM.k2401, hM.k2402, hM.k2403, hM.k2404, hM.k2405, hM.k2406, hM.k2407, hM.k2408, hM.k2409, hM.k2410, hM.k2411, hM.k2412, hM.k2413, hM.k2414, hM.k2415, hM.k2416, hM.k2417, hM.k2418, hM.k2419, hM.k2420, hM.k2421, hM.k2422, hM.k2423, hM.l2391, hM.l2392, hM.l2393, hM.l2394, hM.l2395, hM.l2396, hM.l2397, hM.l2398, hM.l2399, hM.l2400, hM.l2401, hM.l2402, hM.l2403, hM.l2404, hM.l2405, hM.l2406, hM.l2407, hM.l2408, hM.l2409, hM.l2410, hM.l2411, hM.l2412, hM.l2413, hM.l2414, hM.l2415, hM.l2416, hM.l2417, hM.l2418, hM.l2419, hM.l2420, hM.l2421, hM.l2422, hM.l2423, ↓hM.g1, ↓hM.g5, ↓hM.g6, ↓hM.g7, ↓hM.g8, ↓hM.g9, ↓hM.g10, ↓hM.g11, ↓hM.g12, ↓hM.g13, ↓hM.g14, ↓hM.g16, ↓hM.g17, ↓hM.g18, ↓hM.g19, ↓hM.g21, ↓hM.g22, ↓hM.g23, ↓hM.g24, ↓hM.g25, ↓hM.g27, ↓hM.g28, ↓hM.g30, ↓hM.g31, ↓hM.g32, ↓hM.g36, ↓hM.g37, ↓hM.g39, ↓hM.g40, ↓hM.g41, ↓hM.g43, ↓hM.g45, ↓hM.g46, g0, c34, ↓zB_c e, zB_c e]
          · simp (disch := ((try simp only [true_or, or_true, hM.k, hM.k2391, hM.k2392, hM.k2393, hM.k2394, hM.k2395, hM.k2396, hM.k2397, hM.k2398, hM.k2399, hM.k2400, hM.k2401, hM.k2402, hM.k2403, hM.k2404, hM.k2405, hM.k2406, hM.k2407, hM.k2408, hM.k2409, hM.k2410, hM.k2411, hM.k2412, hM.k2413, hM.k2414, hM.k2415, hM.k2416, hM.k2417, hM.k2418, hM.k2419, hM.k2420, hM.k2421, hM.k2422, hM.k2423, hM.l2391, hM.l2392, hM.l2393, hM.l2394, hM.l2395, hM.l2396, hM.l2397, hM.l2398, hM.l2399, hM.l2400, hM.l2401, hM.l2402, hM.l2403, hM.l2404, hM.l2405, hM.l2406, hM.l2407, hM.l2408, hM.l2409, hM.l2410, hM.l2411, hM.l2412, hM.l2413, hM.l2414, hM.l2415, hM.l2416, hM.l2417, hM.l2418, hM.l2419, hM.l2420, hM.l2421, hM.l2422, hM.l2423]) <;> (try omega))) only [↓reduceIte, ↓z_ite, ↓zR, ↓zB_R, ↓zB_B, ↓zB_ite, ↓zB_gI, ↓zB_pI, ↓zB_pZ, ↓zB_aK, ↓zB_G, ↓zB_lI, ↓zB_lZ, ↓zB_wI, ↓zB_wZ, ↓zB_lIl, ↓zB_wIl, zB_pI, zB_pZ, zB_lI, zB_lZ, zB_wI, zB_wZ, z_addl, z_ladd, z_mull, z_lmul, nI_add, z_subl, Nat.not_lt_zero, z_10, z_01, z_bitc, z_b0, z_b1, ↓zB_Gb, ↓zB_G0, ↓zB_G1, z_eql, z_leq, z_ltl, z_llt, z_eq, z_lt, z_m1lt, hM.k, hM.k2391, hM.k2392, hM.k2393, hM.k2394, hM.k2395, hM.k2396, hM.k2397, hM.k2398, hM.k2399, hM.k2400, hM.k2401, hM.k2402, hM.k2403, hM.k2404, hM.k2405, hM.k2406, hM.k2407, hM.k2408, hM.k2409, hM.k2410, hM.k2411, hM.k2412, hM.k2413, hM.k2414, hM.k2415, hM.k2416, hM.k2417, hM.k2418, hM.k2419, hM.k2420, hM.k2421, hM.k2422, hM.k2423, hM.l2391, hM.l2392, hM.l2393, hM.l2394, hM.l2395, hM.l2396, hM.l2397, hM.l2398, hM.l2399, hM.l2400, hM.l2401, hM.l2402, hM.l2403, hM.l2404, hM.l2405, hM.l2406, hM.l2407, hM.l2408, hM.l2409, hM.l2410, hM.l2411, hM.l2412, hM.l2413, hM.l2414, hM.l2415, hM.l2416, hM.l2417, hM.l2418, hM.l2419, hM.l2420, hM.l2421, hM.l2422, hM.l2423, ↓hM.g1, ↓hM.g5, ↓hM.g6, ↓hM.g7, ↓hM.g8, ↓hM.g9, ↓hM.g10, ↓hM.g11, ↓hM.g12, ↓hM.g13, ↓hM.g14, ↓hM.g16, ↓hM.g17, ↓hM.g18, ↓hM.g19, ↓hM.g21, ↓hM.g22, ↓hM.g23, ↓hM.g24, ↓hM.g25, ↓hM.g27, ↓hM.g28, ↓hM.g30, ↓hM.g31, ↓hM.g32, ↓hM.g36, ↓hM.g37, ↓hM.g39, ↓hM.g40, ↓hM.g41, ↓hM.g43, ↓hM.g45, ↓hM.g46, g0, ↓zB_c e, zB_c e]
      dsimp only
      rw [this]; rfl
    obtain ⟨acts, hh, nn, ee, ww, oo⟩ := X
    cases acts with
    | nil => exact stop (Or.inl rfl)
    | cons a s =>
      by_cases ge : ee = -1
      · subst ge
        obtain ⟨w0, hQI⟩ := hQ rfl
        have w0 : ww = 0 := w0
        subst w0
        have cq := hC.2.2.2 rfl
        obtain ⟨m1, e1, x1, r1⟩ := f247_r (S := S) hP hM hB hQI hG cq
        obtain ⟨q1, q2⟩ := y_QX_go (X := (a :: s, hh, nn, -1, 0, oo)) hP rfl hQI
        obtain ⟨m', e2, x2, x3, r2⟩ := f252_299_r hP hM hB N _ m1 F (by omega) (by omega) q1 (hG.fr r1) x1
        have er : y_run P (N + 1) (a :: s, hh, nn, -1, 0, oo) = y_run P N (y_go P a s hh nn oo) := by
          show (if (-1 : Int32) = -1 then y_run P N (y_go P a s hh nn oo) else (a :: s, hh, nn, -1, 0, oo)) = _
          rw [if_pos rfl]
        rw [er]
        refine ⟨m', ?_, x2, x3, r1.trans r2⟩
        unfold m_W m_B
        have : f252_299b 2390 B (z_hp S m) = some (.inl (2390, B), z_hp S m1) := by
          unfold f252_299b
          have c20 : m 2390 20 = nI (s.length + 1) := cq.1.1
          have c34 : m 2390 34 = -1 := cq.1.2.2.1
          have n2 : y_ht s + a.2.2.2.length + (s.length + 1) ≤ nn := hQI.1.2.1
          have n1 := hQI.1.1
          have gpos : (0 : Int32) < nI (s.length + 1) := by
            have : (nI 0 < nI (s.length + 1)) = (0 < s.length + 1) := z_lt (by decide) (by have : nn ≤ 500 := n1; omega)
            rw [show (0 : Int32) = nI 0 from rfl, this]; omega
          simp (disch := ((try simp only [true_or, or_true, hM.k, hM.k2391, hM.k2392, hM.k2393, hM.k2394, hM.k2395, hM.k2396, hM.k2397, hM.k2398, hM.k2399, hM.k2400, hM.k2401, hM.k2402, hM.k2403, hM.k2404, hM.k2405, hM.k2406, hM.k2407, hM.k2408, hM.k2409, hM.k2410, hM.k2411, hM.k2412, hM.k2413, hM.k2414, hM.k2415, hM.k2416, hM.k2417, hM.k2418, hM.k2419, hM.k2420, hM.k2421, hM.k2422, hM.k2423, hM.l2391, hM.l2392, hM.l2393, hM.l2394, hM.l2395, hM.l2396, hM.l2397, hM.l2398, hM.l2399, hM.l2400, hM.l2401, hM.l2402, hM.l2403, hM.l2404, hM.l2405, hM.l2406, hM.l2407, hM.l2408, hM.l2409, hM.l2410, hM.l2411, hM.l2412, hM.l2413, hM.l2414, hM.l2415, hM.l2416, hM.l2417, hM.l2418, hM.l2419, hM.l2420, hM.l2421, hM.l2422, hM.l2423]) <;> (try omega))) only [↓reduceIte, ↓z_ite, ↓zR, ↓zB_R, ↓zB_B, ↓zB_ite, ↓zB_gI, ↓zB_pI, ↓zB_pZ, ↓zB_aK, ↓zB_G, ↓zB_lI, ↓zB_lZ, ↓zB_wI, ↓zB_wZ, ↓zB_lIl, ↓zB_wIl, zB_pI, zB_pZ, zB_lI, zB_lZ, zB_wI, zB_wZ, z_addl, z_ladd, z_mull, z_lmul, nI_add, z_subl, Nat.not_lt_zero, z_10, z_01, z_bitc, z_b0, z_b1, ↓zB_Gb, ↓zB_G0, ↓zB_G1, z_eql, z_leq, z_ltl, z_llt, z_eq, z_lt, z_m1lt, hM.k, hM.k2391, hM.k2392, hM.k2393, hM.k2394, hM.k2395, hM.k2396, hM.k2397, hM.k2398, hM.k2399, hM.k2400, hM.k2401, hM.k2402, hM.k2403, hM.k2404, hM.k2405, hM.k2406, hM.k2407, hM.k2408, hM.k2409, hM.k2410, hM.k2411, hM.k2412, hM.k2413, hM.k2414, hM.k2415, hM.k2416, hM.k2417, hM.k2418, hM.k2419, hM.k2420, hM.k2421, hM.k2422, hM.k2423, hM.l2391, hM.l2392, hM.l2393, hM.l2394, hM.l2395, hM.l2396, hM.l2397, hM.l2398, hM.l2399, hM.l2400, hM.l2401, hM.l2402, hM.l2403, hM.l2404, hM.l2405, hM.l2406, hM.l2407, hM.l2408, hM.l2409, hM.l2410, hM.l2411, hM.l2412, hM.l2413, hM.l2414, hM.l2415, hM.l2416, hM.l2417, hM.l2418, hM.l2419, hM.l2420, hM.l2421, hM.l2422, hM.l2423, ↓hM.g1, ↓hM.g5, ↓hM.g6, ↓hM.g7, ↓hM.g8, ↓hM.g9, ↓hM.g10, ↓hM.g11, ↓hM.g12, ↓hM.g13, ↓hM.g14, ↓hM.g16, ↓hM.g17, ↓hM.g18, ↓hM.g19, ↓hM.g21, ↓hM.g22, ↓hM.g23, ↓hM.g24, ↓hM.g25, ↓hM.g27, ↓hM.g28, ↓hM.g30, ↓hM.g31, ↓hM.g32, ↓hM.g36, ↓hM.g37, ↓hM.g39, ↓hM.g40, ↓hM.g41, ↓hM.g43, ↓hM.g45, ↓hM.g46, c20, gpos, c34, ↓zB_c e1, zB_c e1]
        dsimp only
        rw [this]
        exact e2
      · have er : y_run P (N + 1) (a :: s, hh, nn, ee, ww, oo) = (a :: s, hh, nn, ee, ww, oo) := by
          show (if ee = -1 then y_run P N (y_go P a s hh nn oo) else (a :: s, hh, nn, ee, ww, oo)) = _
          rw [if_neg ge]
        rw [er]
        exact stop (Or.inr ge)
/-- the reference begins -/
theorem f252_179_r (hP : y_PG P) (hM : z_MS S) (hB : B = nI b) (hG : y_rG m b P) {k c : Nat} (hm : y_may P k c) (f s : Int32) : ∃ m', f252_179 2390 (nI k) (nI c) f s B 2390 0 (z_hp S m) = some (y_how (y_XE P k c f s), z_hp S m') ∧ m' 2390 0 = 0 ∧ m' 2390 35 = y_val (y_XE P k c f s) ∧ m' 2390 33 = nI (y_XE P k c f s).2.2.1 ∧ (∀ a, a < 2402 ∨ 2415 < a → a ≠ 2390 → m' a = m a) ∧ ∀ j, j ≠ 0 → j ≠ 15 → j ≠ 20 → j ≠ 26 → j ≠ 29 → j ≠ 33 → j ≠ 34 → j ≠ 35 → m' 2390 j = m 2390 j := by
  have hw := hP.1.1
  have h24 := hw.2.2.1
  have h6 := hw.1.1
  have hk := hm.1
  generalize hm1 : z_up (z_up (z_up (z_up (z_up (z_up (z_up m 2390 0 0) 2390 29 0) 2390 26 0) 2390 20 0) 2390 33 0) 2390 15 1) 2402 0 (nI k) = m1
  have s1 : ∀ a, a ≠ 2390 → a ≠ 2402 → m1 a = m a := fun a x y => by rw [← hm1, z_up_row y, z_up_row x, z_up_row x, z_up_row x, z_up_row x, z_up_row x, z_up_row x]
  have s90 : ∀ j, j ≠ 0 → j ≠ 29 → j ≠ 26 → j ≠ 20 → j ≠ 33 → j ≠ 15 → m1 2390 j = m 2390 j := fun j a b c d e f => by rw [← hm1, y_u02, z_up_b f, z_up_b e, z_up_b d, z_up_b c, z_up_b b, z_up_b a]
  have s0 : m1 2390 0 = 0 := by rw [← hm1, y_u02, z_up_b (by decide), z_up_b (by decide), z_up_b (by decide), z_up_b (by decide), z_up_b (by decide), z_up_s]
  have s29 : m1 2390 29 = nI 0 := by rw [← hm1, y_u02, z_up_b (by decide), z_up_b (by decide), z_up_b (by decide), z_up_b (by decide), z_up_s]; rfl
  have s26 : m1 2390 26 = nI 0 := by rw [← hm1, y_u02, z_up_b (by decide), z_up_b (by decide), z_up_b (by decide), z_up_s]; rfl
  have s20 : m1 2390 20 = nI 0 := by rw [← hm1, y_u02, z_up_b (by decide), z_up_b (by decide), z_up_s]; rfl
  have s33 : m1 2390 33 = nI 0 := by rw [← hm1, y_u02, z_up_b (by decide), z_up_s]; rfl
  have s15 : m1 2390 15 = nI 1 := by rw [← hm1, y_u02, z_up_s]; rfl
  have s02 : m1 2402 0 = nI k := by rw [← hm1, z_up_s]
  have hb1 : z_mb m1 b P := z_mb_fr (s1 2391 (by decide) (by decide)) hG.1
  obtain ⟨m2, e241, o2, t90, t2⟩ := f241_r (S := S) (h := y_hE) hM hw hB hb1 hm.2.2.1 ⟨s29, fun o ho => absurd ho (Nat.not_lt_zero _)⟩ (Nat.zero_le _)
  have e241 : f241 2390 B (nI c) (z_hp S m1) = some (0, z_hp S m2) := e241
  generalize hm3 : z_up (z_up (z_up (z_up (z_up (z_up (z_up m2 2403 0 0) 2404 192 0) 2405 192 f) 2404 193 0) 2405 193 s) 2390 34 (-1)) 2390 35 0 = m3
  have u1 : ∀ a, a ≠ 2390 → a ≠ 2403 → a ≠ 2404 → a ≠ 2405 → m3 a = m2 a := fun a x y z w => by rw [← hm3, z_up_row x, z_up_row x, z_up_row w, z_up_row z, z_up_row w, z_up_row z, z_up_row y]
  have u90 : ∀ j, j ≠ 34 → j ≠ 35 → m3 2390 j = m2 2390 j := fun j x y => by rw [← hm3, z_up_b y, z_up_b x, y_u05, y_u04, y_u05, y_u04, y_u03]
  have u34 : m3 2390 34 = -1 := by rw [← hm3, z_up_b (by decide), z_up_s]
  have u35 : m3 2390 35 = 0 := by rw [← hm3, z_up_s]
  have u03 : m3 2403 0 = 0 := by rw [← hm3, z_up_row (by decide), z_up_row (by decide), z_up_row (by decide), z_up_row (by decide), z_up_row (by decide), z_up_row (by decide), z_up_s]
  have u04 : m3 2404 192 = 0 ∧ m3 2404 193 = 0 := by
    refine ⟨?_, ?_⟩
    · rw [← hm3, z_up_row (by decide), z_up_row (by decide), z_up_row (by decide), z_up_b (by decide), z_up_row (by decide), z_up_s]
    · rw [← hm3, z_up_row (by decide), z_up_row (by decide), z_up_row (by decide), z_up_s]
  have u05 : m3 2405 192 = f ∧ m3 2405 193 = s := by
    refine ⟨?_, ?_⟩
    · rw [← hm3, z_up_row (by decide), z_up_row (by decide), z_up_b (by decide), z_up_row (by decide), z_up_s]
    · rw [← hm3, z_up_row (by decide), z_up_row (by decide), z_up_s]
  have w90 : ∀ j, j ≠ 29 → j ≠ 34 → j ≠ 35 → m3 2390 j = m1 2390 j := fun j x y z => by rw [u90 j y z, t90 j x]
  have hR : y_rP P m3 [] (y_h0 P k c f s) 0 0 := by
    refine ⟨⟨by rw [w90 20 (by decide) (by decide) (by decide)]; exact s20, by rw [w90 33 (by decide) (by decide) (by decide)]; exact s33, u34, u35⟩, trivial, ?_, by rw [w90 26 (by decide) (by decide) (by decide)]; exact s26, by rw [w90 15 (by decide) (by decide) (by decide)]; exact s15, fun g hg => ?_⟩
    · exact y_rO_fr (h := y_new P y_hE c) (by rw [u90 29 (by decide) (by decide)]) (fun a x y => u1 a (by omega) (by omega) (by omega) (by omega)) o2
    · obtain rfl : g = 0 := by omega
      refine ⟨?_, u03, fun t v ht hv => ?_⟩
      · rw [u1 2402 (by decide) (by decide) (by decide) (by decide), t2 2402 (by decide) (by decide) (by decide) (by decide)]; exact s02
      · have hv : (if t = 1 then (if 0 < z_cnt P k then some ((0 : Int32), f) else none) else if t = 0 then (if 1 < z_cnt P k then some ((0 : Int32), s) else none) else none) = some v := hv
        by_cases t1 : t = 1
        · rw [if_pos t1] at hv
          by_cases g0 : 0 < z_cnt P k
          · rw [if_pos g0] at hv
            obtain rfl := Option.some.inj hv
            rw [t1]
            exact ⟨u04.1, u05.1⟩
          · rw [if_neg g0] at hv; cases hv
        · rw [if_neg t1] at hv
          by_cases t0 : t = 0
          · rw [if_pos t0] at hv
            by_cases g0 : 1 < z_cnt P k
            · rw [if_pos g0] at hv
              obtain rfl := Option.some.inj hv
              rw [t0]
              exact ⟨u04.2, u05.2⟩
            · rw [if_neg g0] at hv; cases hv
          · rw [if_neg t0] at hv; cases hv
  obtain ⟨m4, e243, x4, r4⟩ := f243_r (S := S) (out := (0, 0)) hM hR (Nat.zero_le _) (Nat.zero_le _) 0
  have e243 : f243 2390 0 0 (z_hp S m3) = some ((), z_hp S m4) := e243
  have v1 : ∀ a, a < 2402 ∨ 2415 < a → a ≠ 2390 → m4 a = m a := fun a x y => by
    rw [r4.1 a x y, u1 a y (by omega) (by omega) (by omega), t2 a y (by omega) (by omega) (by omega), s1 a y (by omega)]
  have hG4 : y_rG m4 b P := ⟨z_mb_fr (v1 2391 (by decide) (by decide)) hG.1, z_mLT_fr (fun a x y => v1 a (by omega) (by omega)) hG.2⟩
  obtain ⟨q1, q2⟩ := y_X0_ok hP hm f s
  obtain ⟨m5, e5, x5, x6, r5⟩ := f252_299_r (S := S) (k0 := k) hP hM hB 3100 (y_X0 P k c f s) m4 1000000 q2 (by decide) q1 hG4 x4
  have e5 : f252_299 2390 B (z_hp S m4) = some (y_how (y_XE P k c f s), z_hp S m5) := e5
  refine ⟨m5, ?_, ?_, x5, x6, fun a x y => by rw [r5.1 a x y]; exact v1 a x y, fun j j0 j15 j20 j26 j29 j33 j34 j35 => ?_⟩
  · have e246 : ∀ (m0 : z_m), f246 2390 0 (-1) (z_hp S m0) = some (192, z_hp S m0) := fun m0 => (f246_r (S := S) (m := m0) 0 (sl := 1) (x := -1) (l := 0) (by decide) (by decide) (Or.inl ⟨rfl, rfl⟩)).1
    have e246' : ∀ (m0 : z_m), f246 2390 0 (-2) (z_hp S m0) = some (193, z_hp S m0) := fun m0 => (f246_r (S := S) (m := m0) 0 (sl := 0) (x := -2) (l := 0) (by decide) (by decide) (Or.inr (Or.inl ⟨rfl, rfl⟩))).1
    unfold f252_179
    simp (disch := ((try simp only [true_or, or_true, hM.k, hM.k2391, hM.k2392, hM.k2393, hM.k2394, hM.k2395, hM.k2396, hM.k2397, hM.k2398, hM.k2399, hM.k2400, hM.k2401, hM.k2402, hM.k2403, hM.k2404, hM.k2405, hM.k2406, hM.k2407, hM.k2408, hM.k2409, hM.k2410, hM.k2411, hM.k2412, hM.k2413, hM.k2414, hM.k2415, hM.k2416, hM.k2417, hM.k2418, hM.k2419, hM.k2420, hM.k2421, hM.k2422, hM.k2423, hM.l2391, hM.l2392, hM.l2393, hM.l2394, hM.l2395, hM.l2396, hM.l2397, hM.l2398, hM.l2399, hM.l2400, hM.l2401, hM.l2402, hM.l2403, hM.l2404, hM.l2405, hM.l2406, hM.l2407, hM.l2408, hM.l2409, hM.l2410, hM.l2411, hM.l2412, hM.l2413, hM.l2414, hM.l2415, hM.l2416, hM.l2417, hM.l2418, hM.l2419, hM.l2420, hM.l2421, hM.l2422, hM.l2423]) <;> (try omega))) only [↓reduceIte, ↓z_ite, ↓zR, ↓zB_R, ↓zB_B, ↓zB_ite, ↓zB_gI, ↓zB_pI, ↓zB_pZ, ↓zB_aK, ↓zB_G, ↓zB_lI, ↓zB_lZ, ↓zB_wI, ↓zB_wZ, ↓zB_lIl, ↓zB_wIl, zB_pI, zB_pZ, zB_lI, zB_lZ, zB_wI, zB_wZ, z_addl, z_ladd, z_mull, z_lmul, nI_add, z_subl, Nat.not_lt_zero, z_10, z_01, z_bitc, z_b0, z_b1, ↓zB_Gb, ↓zB_G0, ↓zB_G1, z_eql, z_leq, z_ltl, z_llt, z_eq, z_lt, z_m1lt, hM.k, hM.k2391, hM.k2392, hM.k2393, hM.k2394, hM.k2395, hM.k2396, hM.k2397, hM.k2398, hM.k2399, hM.k2400, hM.k2401, hM.k2402, hM.k2403, hM.k2404, hM.k2405, hM.k2406, hM.k2407, hM.k2408, hM.k2409, hM.k2410, hM.k2411, hM.k2412, hM.k2413, hM.k2414, hM.k2415, hM.k2416, hM.k2417, hM.k2418, hM.k2419, hM.k2420, hM.k2421, hM.k2422, hM.k2423, hM.l2391, hM.l2392, hM.l2393, hM.l2394, hM.l2395, hM.l2396, hM.l2397, hM.l2398, hM.l2399, hM.l2400, hM.l2401, hM.l2402, hM.l2403, hM.l2404, hM.l2405, hM.l2406, hM.l2407, hM.l2408, hM.l2409, hM.l2410, hM.l2411, hM.l2412, hM.l2413, hM.l2414, hM.l2415, hM.l2416, hM.l2417, hM.l2418, hM.l2419, hM.l2420, hM.l2421, hM.l2422, hM.l2423, ↓hM.g1, ↓hM.g5, ↓hM.g6, ↓hM.g7, ↓hM.g8, ↓hM.g9, ↓hM.g10, ↓hM.g11, ↓hM.g12, ↓hM.g13, ↓hM.g14, ↓hM.g16, ↓hM.g17, ↓hM.g18, ↓hM.g19, ↓hM.g21, ↓hM.g22, ↓hM.g23, ↓hM.g24, ↓hM.g25, ↓hM.g27, ↓hM.g28, ↓hM.g30, ↓hM.g31, ↓hM.g32, ↓hM.g36, ↓hM.g37, ↓hM.g39, ↓hM.g40, ↓hM.g41, ↓hM.g43, ↓hM.g45, ↓hM.g46, ↓zB_c (f178_0 (m := m) hM), zB_c (f178_0 (m := m) hM), hm1, ↓zB_c e241, zB_c e241, ↓zB_c (e246 _), zB_c (e246 _), ↓zB_c (e246' _), zB_c (e246' _), hm3, ↓zB_c e243, zB_c e243, e5]
  · rw [r5.2 0 (by decide) (by decide) (by decide) (by decide) (by decide) (by decide) (by decide), r4.2 0 (by decide) (by decide) (by decide) (by decide) (by decide) (by decide) (by decide), w90 0 (by decide) (by decide) (by decide)]
    exact s0
  · rw [r5.2 j j15 j20 j26 j29 j33 j34 j35, r4.2 j j15 j20 j26 j29 j33 j34 j35, w90 j j29 j34 j35, s90 j j0 j29 j26 j20 j33 j15]
end
