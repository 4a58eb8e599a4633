-- deps: 90.39.mrl3
/-! a local renamed: the reference, all of it -/
section
variable {S : z_S} {m : z_m} {P : z_Pg} {A : z_A}
theorem z_sM_3 {k w : Nat} {v : Int32} {H : Nat → Int32} {l : List z_N} : z_sM (z_sM P k H l) k (fun w' => if w' = w then v else z_hd (z_sM P k H l) k w') (z_bd (z_sM P k H l) k) = z_sM P k (z_hset H w v) l := by
  unfold z_sM z_hd z_bd z_hset
  congr 5
  · funext k' w
    by_cases g : k' = k
    · simp [g]
    · simp [g]
  · funext k'
    by_cases g : k' = k <;> simp [g]
theorem z_m2_of {x : Int32} (h1 : ¬ x < -2) (h2 : x < 0) : x = -1 ∨ x = -2 := by
  rw [z_ltI] at h1 h2
  rw [show (-2 : Int32).toInt = -2 from rfl] at h1
  rw [show (0 : Int32).toInt = 0 from rfl] at h2
  have : x.toInt = -1 ∨ x.toInt = -2 := by omega
  rcases this with h | h
  · exact Or.inl (Int32.toInt_inj.mp (by rw [h]; rfl))
  · exact Or.inr (Int32.toInt_inj.mp (by rw [h]; rfl))
def z_ilt (P : z_Pg) (k : Nat) (x : Int32) : Bool := !decide (x < 0) && z_k (z_bd P k) x.toNatClampNeg == 5
/-- is there such a local -/
theorem f280_a (hM : z_MS S) (hw : z_wf P) (h : z_mb m 0 P) {k : Nat} (hk : k < z_nm P) (hl : z_liv P k = true) (x name : Int32) : f280 2390 (nI k) x name (z_hp S m) = f280_42 2390 (nI k) x name (z_b (z_okl P k x)) (z_hp S m) := by
  have h24 := hw.2.2.1
  have hlen := z_Pl h hk
  have e206 := f206_sp (S := S) (B := 0) h hM rfl (nI k)
  rw [(z_hm_iff hw).mpr ⟨k, hk, hl, rfl⟩] at e206
  have e3 := h.e3 hM (B := 0) rfl hk
  obtain ⟨h1, h2⟩ := (hw.2.2.2.1 k hk).2.2.2.1
  have ec : z_hd P k 3 = nI (z_cnt P k) := h2
  have hc2 : z_cnt P k ≤ 2 := h1
  have e270 := f270_sp (S := S) hM h hk
  rw [ec] at e3
  unfold f280 f280_41 f280_37 z_okl
  by_cases x0 : x < 0
  · rw [if_pos x0]
    have hiff : (x < -nI (z_cnt P k)) ↔ ((decide (x = -1) && decide (0 < z_cnt P k)) || (decide (x = -2) && decide (1 < z_cnt P k))) = false := by
      have hc : z_cnt P k = 0 ∨ z_cnt P k = 1 ∨ z_cnt P k = 2 := by omega
      rcases hc with q | q | q
      · rw [q, show -nI 0 = 0 from by decide]; simp [x0]
      · rw [q, show -nI 1 = -1 from by decide]
        by_cases y : x < -1
        · have : ¬ x = -1 := fun g => by rw [g] at y; exact absurd y (by decide)
          simp [y, this]
        · have := z_m1_of y x0
          subst this; decide
      · rw [q, show -nI 2 = -2 from by decide]
        by_cases y : x < -2
        · have : ¬ x = -1 := fun g => by rw [g] at y; exact absurd y (by decide)
          have : ¬ x = -2 := fun g => by rw [g] at y; exact absurd y (by decide)
          simp [y, *]
        · rcases z_m2_of y x0 with rfl | rfl <;> decide
    by_cases y : x < -nI (z_cnt P k)
    · rw [hiff.mp y]
      simp (disch := ((try simp only [true_or, or_true, hM.k, hM.k2391, hM.k2392, hM.k2393, hM.k2394, hM.k2395, hM.k2396, hM.k2397, hM.k2398, hM.k2399, hM.k2400, hM.k2401, hM.k2402, hM.k2403, hM.k2404, hM.k2405, hM.k2406, hM.k2407, hM.k2408, hM.k2409, hM.k2410, hM.k2411, hM.k2412, hM.k2413, hM.k2414, hM.k2415, hM.k2416, hM.k2417, hM.k2418, hM.k2419, hM.k2420, hM.k2421, hM.k2422, hM.k2423, hM.l2391, hM.l2392, hM.l2393, hM.l2394, hM.l2395, hM.l2396, hM.l2397, hM.l2398, hM.l2399, hM.l2400, hM.l2401, hM.l2402, hM.l2403, hM.l2404, hM.l2405, hM.l2406, hM.l2407, hM.l2408, hM.l2409, hM.l2410, hM.l2411, hM.l2412, hM.l2413, hM.l2414, hM.l2415, hM.l2416, hM.l2417, hM.l2418, hM.l2419, hM.l2420, hM.l2421, hM.l2422, hM.l2423]) <;> (try omega))) only [↓reduceIte, ↓z_ite, ↓zR, ↓zB_R, ↓zB_B, ↓zB_ite, ↓zB_gI, ↓zB_pI, ↓zB_pZ, ↓zB_aK, ↓zB_G, ↓zB_lI, ↓zB_lZ, ↓zB_wI, ↓zB_wZ, ↓zB_lIl, ↓zB_wIl, zB_pI, zB_pZ, zB_lI, zB_lZ, zB_wI, zB_wZ, z_addl, z_ladd, z_mull, z_lmul, nI_add, z_subl, Nat.not_lt_zero, z_10, z_01, z_bitc, z_b0, z_b1, ↓zB_Gb, ↓zB_G0, ↓zB_G1, z_eql, z_leq, z_ltl, z_llt, z_eq, z_lt, z_m1lt, hM.k, hM.k2391, hM.k2392, hM.k2393, hM.k2394, hM.k2395, hM.k2396, hM.k2397, hM.k2398, hM.k2399, hM.k2400, hM.k2401, hM.k2402, hM.k2403, hM.k2404, hM.k2405, hM.k2406, hM.k2407, hM.k2408, hM.k2409, hM.k2410, hM.k2411, hM.k2412, hM.k2413, hM.k2414, hM.k2415, hM.k2416, hM.k2417, hM.k2418, hM.k2419, hM.k2420, hM.k2421, hM.k2422, hM.k2423, hM.l2391, hM.l2392, hM.l2393, hM.l2394, hM.l2395, hM.l2396, hM.l2397, hM.l2398, hM.l2399, hM.l2400, hM.l2401, hM.l2402, hM.l2403, hM.l2404, hM.l2405, hM.l2406, hM.l2407, hM.l2408, hM.l2409, hM.l2410, hM.l2411, hM.l2412, hM.l2413, hM.l2414, hM.l2415, hM.l2416, hM.l2417, hM.l2418, hM.l2419, hM.l2420, hM.l2421, hM.l2422, hM.l2423, ↓hM.g1, ↓hM.g5, ↓hM.g6, ↓hM.g7, ↓hM.g8, ↓hM.g9, ↓hM.g10, ↓hM.g11, ↓hM.g12, ↓hM.g13, ↓hM.g14, ↓hM.g16, ↓hM.g17, ↓hM.g18, ↓hM.g19, ↓hM.g21, ↓hM.g22, ↓hM.g23, ↓hM.g24, ↓hM.g25, ↓hM.g27, ↓hM.g28, ↓hM.g30, ↓hM.g31, ↓hM.g32, ↓hM.g36, ↓hM.g37, ↓hM.g39, ↓hM.g40, ↓hM.g41, ↓hM.g43, ↓hM.g45, ↓hM.g46, ↓zB_c e206, zB_c e206, Bool.true_eq_false, x0, ↓zB_c e3, zB_c e3, y]
      rfl
    · have : ((decide (x = -1) && decide (0 < z_cnt P k)) || (decide (x = -2) && decide (1 < z_cnt P k))) = true := by
        cases q : ((decide (x = -1) && decide (0 < z_cnt P k)) || (decide (x = -2) && decide (1 < z_cnt P k))) with
        | true => rfl
        | false => exact absurd (hiff.mpr q) y
      rw [this]
      simp (disch := ((try simp only [true_or, or_true, hM.k, hM.k2391, hM.k2392, hM.k2393, hM.k2394, hM.k2395, hM.k2396, hM.k2397, hM.k2398, hM.k2399, hM.k2400, hM.k2401, hM.k2402, hM.k2403, hM.k2404, hM.k2405, hM.k2406, hM.k2407, hM.k2408, hM.k2409, hM.k2410, hM.k2411, hM.k2412, hM.k2413, hM.k2414, hM.k2415, hM.k2416, hM.k2417, hM.k2418, hM.k2419, hM.k2420, hM.k2421, hM.k2422, hM.k2423, hM.l2391, hM.l2392, hM.l2393, hM.l2394, hM.l2395, hM.l2396, hM.l2397, hM.l2398, hM.l2399, hM.l2400, hM.l2401, hM.l2402, hM.l2403, hM.l2404, hM.l2405, hM.l2406, hM.l2407, hM.l2408, hM.l2409, hM.l2410, hM.l2411, hM.l2412, hM.l2413, hM.l2414, hM.l2415, hM.l2416, hM.l2417, hM.l2418, hM.l2419, hM.l2420, hM.l2421, hM.l2422, hM.l2423]) <;> (try omega))) only [↓reduceIte, ↓z_ite, ↓zR, ↓zB_R, ↓zB_B, ↓zB_ite, ↓zB_gI, ↓zB_pI, ↓zB_pZ, ↓zB_aK, ↓zB_G, ↓zB_lI, ↓zB_lZ, ↓zB_wI, ↓zB_wZ, ↓zB_lIl, ↓zB_wIl, zB_pI, zB_pZ, zB_lI, zB_lZ, zB_wI, zB_wZ, z_addl, z_ladd, z_mull, z_lmul, nI_add, z_subl, Nat.not_lt_zero, z_10, z_01, z_bitc, z_b0, z_b1, ↓zB_Gb, ↓zB_G0, ↓zB_G1, z_eql, z_leq, z_ltl, z_llt, z_eq, z_lt, z_m1lt, hM.k, hM.k2391, hM.k2392, hM.k2393, hM.k2394, hM.k2395, hM.k2396, hM.k2397, hM.k2398, hM.k2399, hM.k2400, hM.k2401, hM.k2402, hM.k2403, hM.k2404, hM.k2405, hM.k2406, hM.k2407, hM.k2408, hM.k2409, hM.k2410, hM.k2411, hM.k2412, hM.k2413, hM.k2414, hM.k2415, hM.k2416, hM.k2417, hM.k2418, hM.k2419, hM.k2420, hM.k2421, hM.k2422, hM.k2423, hM.l2391, hM.l2392, hM.l2393, hM.l2394, hM.l2395, hM.l2396, hM.l2397, hM.l2398, hM.l2399, hM.l2400, hM.l2401, hM.l2402, hM.l2403, hM.l2404, hM.l2405, hM.l2406, hM.l2407, hM.l2408, hM.l2409, hM.l2410, hM.l2411, hM.l2412, hM.l2413, hM.l2414, hM.l2415, hM.l2416, hM.l2417, hM.l2418, hM.l2419, hM.l2420, hM.l2421, hM.l2422, hM.l2423, ↓hM.g1, ↓hM.g5, ↓hM.g6, ↓hM.g7, ↓hM.g8, ↓hM.g9, ↓hM.g10, ↓hM.g11, ↓hM.g12, ↓hM.g13, ↓hM.g14, ↓hM.g16, ↓hM.g17, ↓hM.g18, ↓hM.g19, ↓hM.g21, ↓hM.g22, ↓hM.g23, ↓hM.g24, ↓hM.g25, ↓hM.g27, ↓hM.g28, ↓hM.g30, ↓hM.g31, ↓hM.g32, ↓hM.g36, ↓hM.g37, ↓hM.g39, ↓hM.g40, ↓hM.g41, ↓hM.g43, ↓hM.g45, ↓hM.g46, ↓zB_c e206, zB_c e206, Bool.true_eq_false, x0, ↓zB_c e3, zB_c e3, y]
      rfl
  · rw [if_neg x0]
    obtain ⟨i, hi, rfl⟩ := nI_of x0
    by_cases y : i < (z_bd P k).length
    · rw [(z_in_iff (by omega)).mpr ⟨i, y, rfl⟩]
      simp (disch := ((try simp only [true_or, or_true, hM.k, hM.k2391, hM.k2392, hM.k2393, hM.k2394, hM.k2395, hM.k2396, hM.k2397, hM.k2398, hM.k2399, hM.k2400, hM.k2401, hM.k2402, hM.k2403, hM.k2404, hM.k2405, hM.k2406, hM.k2407, hM.k2408, hM.k2409, hM.k2410, hM.k2411, hM.k2412, hM.k2413, hM.k2414, hM.k2415, hM.k2416, hM.k2417, hM.k2418, hM.k2419, hM.k2420, hM.k2421, hM.k2422, hM.k2423, hM.l2391, hM.l2392, hM.l2393, hM.l2394, hM.l2395, hM.l2396, hM.l2397, hM.l2398, hM.l2399, hM.l2400, hM.l2401, hM.l2402, hM.l2403, hM.l2404, hM.l2405, hM.l2406, hM.l2407, hM.l2408, hM.l2409, hM.l2410, hM.l2411, hM.l2412, hM.l2413, hM.l2414, hM.l2415, hM.l2416, hM.l2417, hM.l2418, hM.l2419, hM.l2420, hM.l2421, hM.l2422, hM.l2423]) <;> (try omega))) only [↓reduceIte, ↓z_ite, ↓zR, ↓zB_R, ↓zB_B, ↓zB_ite, ↓zB_gI, ↓zB_pI, ↓zB_pZ, ↓zB_aK, ↓zB_G, ↓zB_lI, ↓zB_lZ, ↓zB_wI, ↓zB_wZ, ↓zB_lIl, ↓zB_wIl, zB_pI, zB_pZ, zB_lI, zB_lZ, zB_wI, zB_wZ, z_addl, z_ladd, z_mull, z_lmul, nI_add, z_subl, Nat.not_lt_zero, z_10, z_01, z_bitc, z_b0, z_b1, ↓zB_Gb, ↓zB_G0, ↓zB_G1, z_eql, z_leq, z_ltl, z_llt, z_eq, z_lt, z_m1lt, hM.k, hM.k2391, hM.k2392, hM.k2393, hM.k2394, hM.k2395, hM.k2396, hM.k2397, hM.k2398, hM.k2399, hM.k2400, hM.k2401, hM.k2402, hM.k2403, hM.k2404, hM.k2405, hM.k2406, hM.k2407, hM.k2408, hM.k2409, hM.k2410, hM.k2411, hM.k2412, hM.k2413, hM.k2414, hM.k2415, hM.k2416, hM.k2417, hM.k2418, hM.k2419, hM.k2420, hM.k2421, hM.k2422, hM.k2423, hM.l2391, hM.l2392, hM.l2393, hM.l2394, hM.l2395, hM.l2396, hM.l2397, hM.l2398, hM.l2399, hM.l2400, hM.l2401, hM.l2402, hM.l2403, hM.l2404, hM.l2405, hM.l2406, hM.l2407, hM.l2408, hM.l2409, hM.l2410, hM.l2411, hM.l2412, hM.l2413, hM.l2414, hM.l2415, hM.l2416, hM.l2417, hM.l2418, hM.l2419, hM.l2420, hM.l2421, hM.l2422, hM.l2423, ↓hM.g1, ↓hM.g5, ↓hM.g6, ↓hM.g7, ↓hM.g8, ↓hM.g9, ↓hM.g10, ↓hM.g11, ↓hM.g12, ↓hM.g13, ↓hM.g14, ↓hM.g16, ↓hM.g17, ↓hM.g18, ↓hM.g19, ↓hM.g21, ↓hM.g22, ↓hM.g23, ↓hM.g24, ↓hM.g25, ↓hM.g27, ↓hM.g28, ↓hM.g30, ↓hM.g31, ↓hM.g32, ↓hM.g36, ↓hM.g37, ↓hM.g39, ↓hM.g40, ↓hM.g41, ↓hM.g43, ↓hM.g45, ↓hM.g46, ↓zB_c e206, zB_c e206, Bool.true_eq_false, x0, ↓zB_c e270, zB_c e270, y]
      rfl
    · have : z_in (nI i) (z_bd P k).length = false := by
        cases q : z_in (nI i) (z_bd P k).length with
        | false => rfl
        | true =>
          obtain ⟨j, hj, e⟩ := (z_in_iff (by omega)).mp q
          rw [(nI_eq hi (by omega)).mp e] at y; exact absurd hj y
      rw [this]
      simp (disch := ((try simp only [true_or, or_true, hM.k, hM.k2391, hM.k2392, hM.k2393, hM.k2394, hM.k2395, hM.k2396, hM.k2397, hM.k2398, hM.k2399, hM.k2400, hM.k2401, hM.k2402, hM.k2403, hM.k2404, hM.k2405, hM.k2406, hM.k2407, hM.k2408, hM.k2409, hM.k2410, hM.k2411, hM.k2412, hM.k2413, hM.k2414, hM.k2415, hM.k2416, hM.k2417, hM.k2418, hM.k2419, hM.k2420, hM.k2421, hM.k2422, hM.k2423, hM.l2391, hM.l2392, hM.l2393, hM.l2394, hM.l2395, hM.l2396, hM.l2397, hM.l2398, hM.l2399, hM.l2400, hM.l2401, hM.l2402, hM.l2403, hM.l2404, hM.l2405, hM.l2406, hM.l2407, hM.l2408, hM.l2409, hM.l2410, hM.l2411, hM.l2412, hM.l2413, hM.l2414, hM.l2415, hM.l2416, hM.l2417, hM.l2418, hM.l2419, hM.l2420, hM.l2421, hM.l2422, hM.l2423]) <;> (try omega))) only [↓reduceIte, ↓z_ite, ↓zR, ↓zB_R, ↓zB_B, ↓zB_ite, ↓zB_gI, ↓zB_pI, ↓zB_pZ, ↓zB_aK, ↓zB_G, ↓zB_lI, ↓zB_lZ, ↓zB_wI, ↓zB_wZ, ↓zB_lIl, ↓zB_wIl, zB_pI, zB_pZ, zB_lI, zB_lZ, zB_wI, zB_wZ, z_addl, z_ladd, z_mull, z_lmul, nI_add, z_subl, Nat.not_lt_zero, z_10, z_01, z_bitc, z_b0, z_b1, ↓zB_Gb, ↓zB_G0, ↓zB_G1, z_eql, z_leq, z_ltl, z_llt, z_eq, z_lt, z_m1lt, hM.k, hM.k2391, hM.k2392, hM.k2393, hM.k2394, hM.k2395, hM.k2396, hM.k2397, hM.k2398, hM.k2399, hM.k2400, hM.k2401, hM.k2402, hM.k2403, hM.k2404, hM.k2405, hM.k2406, hM.k2407, hM.k2408, hM.k2409, hM.k2410, hM.k2411, hM.k2412, hM.k2413, hM.k2414, hM.k2415, hM.k2416, hM.k2417, hM.k2418, hM.k2419, hM.k2420, hM.k2421, hM.k2422, hM.k2423, hM.l2391, hM.l2392, hM.l2393, hM.l2394, hM.l2395, hM.l2396, hM.l2397, hM.l2398, hM.l2399, hM.l2400, hM.l2401, hM.l2402, hM.l2403, hM.l2404, hM.l2405, hM.l2406, hM.l2407, hM.l2408, hM.l2409, hM.l2410, hM.l2411, hM.l2412, hM.l2413, hM.l2414, hM.l2415, hM.l2416, hM.l2417, hM.l2418, hM.l2419, hM.l2420, hM.l2421, hM.l2422, hM.l2423, ↓hM.g1, ↓hM.g5, ↓hM.g6, ↓hM.g7, ↓hM.g8, ↓hM.g9, ↓hM.g10, ↓hM.g11, ↓hM.g12, ↓hM.g13, ↓hM.g14, ↓hM.g16, ↓hM.g17, ↓hM.g18, ↓hM.g19, ↓hM.g21, ↓hM.g22, ↓hM.g23, ↓hM.g24, ↓hM.g25, ↓hM.g27, ↓hM.g28, ↓hM.g30, ↓hM.g31, ↓hM.g32, ↓hM.g36, ↓hM.g37, ↓hM.g39, ↓hM.g40, ↓hM.g41, ↓hM.g43, ↓hM.g45, ↓hM.g46, ↓zB_c e206, zB_c e206, Bool.true_eq_false, x0, ↓zB_c e270, zB_c e270, y]
      rfl
/-- what it is -/
theorem f280_b (hM : z_MS S) (hw : z_wf P) (h : z_mb m 0 P) {k : Nat} (hk : k < z_nm P) {x : Int32} (hx : z_vpl P k x) (name : Int32) : f280_42 2390 (nI k) x name 1 (z_hp S m) = f280_117 2390 (nI k) x name 1 (z_b (z_ilt P k x)) (z_b (z_nol P k x == name && (decide (x < 0) || z_ilt P k x))) (z_hp S m) := by
  have h24 := hw.2.2.1
  have hlen := z_Pl h hk
  unfold f280_42 f280_68 f280_69 f280_112 f280_116
  have par : ∀ w, x < 0 → f196 2390 0 (nI k) (3 - x) (z_hp S m) = some (z_hd P k w, z_hp S m) → z_nol P k x = z_hd P k w → (if (1 : Int32) = 0 then f280_68 2390 (nI k) x name 1 else if x < 0 then f280_68 2390 (nI k) x name 1 else m_B (m_aK 2390 12) fun _ => m_B (f199 2390 0 (nI k) x) fun v2 => if v2 = 5 then f280_69 2390 (nI k) x name 1 1 else f280_68 2390 (nI k) x name 1) (z_hp S m) = f280_117 2390 (nI k) x name 1 (z_b (z_ilt P k x)) (z_b (z_nol P k x == name && (decide (x < 0) || z_ilt P k x))) (z_hp S m) := by
    intro w x0 e en
    have ei : z_ilt P k x = false := by unfold z_ilt; rw [decide_eq_true x0]; rfl
    rw [ei, en, decide_eq_true x0]
    unfold f280_68 f280_69 f280_112 f280_116
    by_cases g : z_hd P k w = name
    · rw [show (z_hd P k w == name) = true by simpa using g]
      simp (disch := ((try simp only [true_or, or_true, hM.k, hM.k2391, hM.k2392, hM.k2393, hM.k2394, hM.k2395, hM.k2396, hM.k2397, hM.k2398, hM.k2399, hM.k2400, hM.k2401, hM.k2402, hM.k2403, hM.k2404, hM.k2405, hM.k2406, hM.k2407, hM.k2408, hM.k2409, hM.k2410, hM.k2411, hM.k2412, hM.k2413, hM.k2414, hM.k2415, hM.k2416, hM.k2417, hM.k2418, hM.k2419, hM.k2420, hM.k2421, hM.k2422, hM.k2423, hM.l2391, hM.l2392, hM.l2393, hM.l2394, hM.l2395, hM.l2396, hM.l2397, hM.l2398, hM.l2399, hM.l2400, hM.l2401, hM.l2402, hM.l2403, hM.l2404, hM.l2405, hM.l2406, hM.l2407, hM.l2408, hM.l2409, hM.l2410, hM.l2411, hM.l2412, hM.l2413, hM.l2414, hM.l2415, hM.l2416, hM.l2417, hM.l2418, hM.l2419, hM.l2420, hM.l2421, hM.l2422, hM.l2423]) <;> (try omega))) only [↓reduceIte, ↓z_ite, ↓zR, ↓zB_R, ↓zB_B, ↓zB_ite, ↓zB_gI, ↓zB_pI, ↓zB_pZ, ↓zB_aK, ↓zB_G, ↓zB_lI, ↓zB_lZ, ↓zB_wI, ↓zB_wZ, ↓zB_lIl, ↓zB_wIl, zB_pI, zB_pZ, zB_lI, zB_lZ, zB_wI, zB_wZ, z_addl, z_ladd, z_mull, z_lmul, nI_add, z_subl, Nat.not_lt_zero, z_10, z_01, z_bitc, z_b0, z_b1, ↓zB_Gb, ↓zB_G0, ↓zB_G1, z_eql, z_leq, z_ltl, z_llt, z_eq, z_lt, z_m1lt, hM.k, hM.k2391, hM.k2392, hM.k2393, hM.k2394, hM.k2395, hM.k2396, hM.k2397, hM.k2398, hM.k2399, hM.k2400, hM.k2401, hM.k2402, hM.k2403, hM.k2404, hM.k2405, hM.k2406, hM.k2407, hM.k2408, hM.k2409, hM.k2410, hM.k2411, hM.k2412, hM.k2413, hM.k2414, hM.k2415, hM.k2416, hM.k2417, hM.k2418, hM.k2419, hM.k2420, hM.k2421, hM.k2422, hM.k2423, hM.l2391, hM.l2392, hM.l2393, hM.l2394, hM.l2395, hM.l2396, hM.l2397, hM.l2398, hM.l2399, hM.l2400, hM.l2401, hM.l2402, hM.l2403, hM.l2404, hM.l2405, hM.l2406, hM.l2407, hM.l2408, hM.l2409, hM.l2410, hM.l2411, hM.l2412, hM.l2413, hM.l2414, hM.l2415, hM.l2416, hM.l2417, hM.l2418, hM.l2419, hM.l2420, hM.l2421, hM.l2422, hM.l2423, ↓hM.g1, ↓hM.g5, ↓hM.g6, ↓hM.g7, ↓hM.g8, ↓hM.g9, ↓hM.g10, ↓hM.g11, ↓hM.g12, ↓hM.g13, ↓hM.g14, ↓hM.g16, ↓hM.g17, ↓hM.g18, ↓hM.g19, ↓hM.g21, ↓hM.g22, ↓hM.g23, ↓hM.g24, ↓hM.g25, ↓hM.g27, ↓hM.g28, ↓hM.g30, ↓hM.g31, ↓hM.g32, ↓hM.g36, ↓hM.g37, ↓hM.g39, ↓hM.g40, ↓hM.g41, ↓hM.g43, ↓hM.g45, ↓hM.g46, x0, ↓zB_c e, zB_c e, show (z_hd P k w = name) = True from eq_true g]
      rfl
    · rw [show (z_hd P k w == name) = false by simpa using g]
      simp (disch := ((try simp only [true_or, or_true, hM.k, hM.k2391, hM.k2392, hM.k2393, hM.k2394, hM.k2395, hM.k2396, hM.k2397, hM.k2398, hM.k2399, hM.k2400, hM.k2401, hM.k2402, hM.k2403, hM.k2404, hM.k2405, hM.k2406, hM.k2407, hM.k2408, hM.k2409, hM.k2410, hM.k2411, hM.k2412, hM.k2413, hM.k2414, hM.k2415, hM.k2416, hM.k2417, hM.k2418, hM.k2419, hM.k2420, hM.k2421, hM.k2422, hM.k2423, hM.l2391, hM.l2392, hM.l2393, hM.l2394, hM.l2395, hM.l2396, hM.l2397, hM.l2398, hM.l2399, hM.l2400, hM.l2401, hM.l2402, hM.l2403, hM.l2404, hM.l2405, hM.l2406, hM.l2407, hM.l2408, hM.l2409, hM.l2410, hM.l2411, hM.l2412, hM.l2413, hM.l2414, hM.l2415, hM.l2416, hM.l2417, hM.l2418, hM.l2419, hM.l2420, hM.l2421, hM.l2422, hM.l2423]) <;> (try omega))) only [↓reduceIte, ↓z_ite, ↓zR, ↓zB_R, ↓zB_B, ↓zB_ite, ↓zB_gI, ↓zB_pI, ↓zB_pZ, ↓zB_aK, ↓zB_G, ↓zB_lI, ↓zB_lZ, ↓zB_wI, ↓zB_wZ, ↓zB_lIl, ↓zB_wIl, zB_pI, zB_pZ, zB_lI, zB_lZ, zB_wI, zB_wZ, z_addl, z_ladd, z_mull, z_lmul, nI_add, z_subl, Nat.not_lt_zero, z_10, z_01, z_bitc, z_b0, z_b1, ↓zB_Gb, ↓zB_G0, ↓zB_G1, z_eql, z_leq, z_ltl, z_llt, z_eq, z_lt, z_m1lt, hM.k, hM.k2391, hM.k2392, hM.k2393, hM.k2394, hM.k2395, hM.k2396, hM.k2397, hM.k2398, hM.k2399, hM.k2400, hM.k2401, hM.k2402, hM.k2403, hM.k2404, hM.k2405, hM.k2406, hM.k2407, hM.k2408, hM.k2409, hM.k2410, hM.k2411, hM.k2412, hM.k2413, hM.k2414, hM.k2415, hM.k2416, hM.k2417, hM.k2418, hM.k2419, hM.k2420, hM.k2421, hM.k2422, hM.k2423, hM.l2391, hM.l2392, hM.l2393, hM.l2394, hM.l2395, hM.l2396, hM.l2397, hM.l2398, hM.l2399, hM.l2400, hM.l2401, hM.l2402, hM.l2403, hM.l2404, hM.l2405, hM.l2406, hM.l2407, hM.l2408, hM.l2409, hM.l2410, hM.l2411, hM.l2412, hM.l2413, hM.l2414, hM.l2415, hM.l2416, hM.l2417, hM.l2418, hM.l2419, hM.l2420, hM.l2421, hM.l2422, hM.l2423, ↓hM.g1, ↓hM.g5, ↓hM.g6, ↓hM.g7, ↓hM.g8, ↓hM.g9, ↓hM.g10, ↓hM.g11, ↓hM.g12, ↓hM.g13, ↓hM.g14, ↓hM.g16, ↓hM.g17, ↓hM.g18, ↓hM.g19, ↓hM.g21, ↓hM.g22, ↓hM.g23, ↓hM.g24, ↓hM.g25, ↓hM.g27, ↓hM.g28, ↓hM.g30, ↓hM.g31, ↓hM.g32, ↓hM.g36, ↓hM.g37, ↓hM.g39, ↓hM.g40, ↓hM.g41, ↓hM.g43, ↓hM.g45, ↓hM.g46, x0, ↓zB_c e, zB_c e, g]
      rfl
  rcases hx with ⟨rfl, _⟩ | ⟨rfl, _⟩ | ⟨i, hi, rfl⟩
  · exact par 4 (by decide) (h.e4 hM (B := 0) rfl hk) (if_pos rfl)
  · exact par 5 (by decide) (h.e5 hM (B := 0) rfl hk) (by unfold z_nol; rw [if_neg (by decide), if_pos rfl])
  · have x0 : ¬ nI i < 0 := nI_pos (by omega)
    have g1 : ¬ nI i = -1 := z_nI_m1 (by omega)
    have g2 : ¬ nI i = -2 := z_eqm (k := 2) (by omega) (by decide) (by decide)
    have ek := h.ek hM (B := 0) rfl hk hi
    have ev := h.ev hM (B := 0) rfl hk hi
    unfold z_nol z_ilt
    rw [if_neg g1, if_neg g2, nI_clamp (by omega), decide_eq_false x0]
    by_cases g5 : z_k (z_bd P k) i = 5
    · rw [if_pos g5, g5]
      by_cases g : z_v (z_bd P k) i = name
      · rw [show (z_v (z_bd P k) i == name) = true by simpa using g]
        simp (disch := ((try simp only [true_or, or_true, hM.k, hM.k2391, hM.k2392, hM.k2393, hM.k2394, hM.k2395, hM.k2396, hM.k2397, hM.k2398, hM.k2399, hM.k2400, hM.k2401, hM.k2402, hM.k2403, hM.k2404, hM.k2405, hM.k2406, hM.k2407, hM.k2408, hM.k2409, hM.k2410, hM.k2411, hM.k2412, hM.k2413, hM.k2414, hM.k2415, hM.k2416, hM.k2417, hM.k2418, hM.k2419, hM.k2420, hM.k2421, hM.k2422, hM.k2423, hM.l2391, hM.l2392, hM.l2393, hM.l2394, hM.l2395, hM.l2396, hM.l2397, hM.l2398, hM.l2399, hM.l2400, hM.l2401, hM.l2402, hM.l2403, hM.l2404, hM.l2405, hM.l2406, hM.l2407, hM.l2408, hM.l2409, hM.l2410, hM.l2411, hM.l2412, hM.l2413, hM.l2414, hM.l2415, hM.l2416, hM.l2417, hM.l2418, hM.l2419, hM.l2420, hM.l2421, hM.l2422, hM.l2423]) <;> (try omega))) only [↓reduceIte, ↓z_ite, ↓zR, ↓zB_R, ↓zB_B, ↓zB_ite, ↓zB_gI, ↓zB_pI, ↓zB_pZ, ↓zB_aK, ↓zB_G, ↓zB_lI, ↓zB_lZ, ↓zB_wI, ↓zB_wZ, ↓zB_lIl, ↓zB_wIl, zB_pI, zB_pZ, zB_lI, zB_lZ, zB_wI, zB_wZ, z_addl, z_ladd, z_mull, z_lmul, nI_add, z_subl, Nat.not_lt_zero, z_10, z_01, z_bitc, z_b0, z_b1, ↓zB_Gb, ↓zB_G0, ↓zB_G1, z_eql, z_leq, z_ltl, z_llt, z_eq, z_lt, z_m1lt, hM.k, hM.k2391, hM.k2392, hM.k2393, hM.k2394, hM.k2395, hM.k2396, hM.k2397, hM.k2398, hM.k2399, hM.k2400, hM.k2401, hM.k2402, hM.k2403, hM.k2404, hM.k2405, hM.k2406, hM.k2407, hM.k2408, hM.k2409, hM.k2410, hM.k2411, hM.k2412, hM.k2413, hM.k2414, hM.k2415, hM.k2416, hM.k2417, hM.k2418, hM.k2419, hM.k2420, hM.k2421, hM.k2422, hM.k2423, hM.l2391, hM.l2392, hM.l2393, hM.l2394, hM.l2395, hM.l2396, hM.l2397, hM.l2398, hM.l2399, hM.l2400, hM.l2401, hM.l2402, hM.l2403, hM.l2404, hM.l2405, hM.l2406, hM.l2407, hM.l2408, hM.l2409, hM.l2410, hM.l2411, hM.l2412, hM.l2413, hM.l2414, hM.l2415, hM.l2416, hM.l2417, hM.l2418, hM.l2419, hM.l2420, hM.l2421, hM.l2422, hM.l2423, ↓hM.g1, ↓hM.g5, ↓hM.g6, ↓hM.g7, ↓hM.g8, ↓hM.g9, ↓hM.g10, ↓hM.g11, ↓hM.g12, ↓hM.g13, ↓hM.g14, ↓hM.g16, ↓hM.g17, ↓hM.g18, ↓hM.g19, ↓hM.g21, ↓hM.g22, ↓hM.g23, ↓hM.g24, ↓hM.g25, ↓hM.g27, ↓hM.g28, ↓hM.g30, ↓hM.g31, ↓hM.g32, ↓hM.g36, ↓hM.g37, ↓hM.g39, ↓hM.g40, ↓hM.g41, ↓hM.g43, ↓hM.g45, ↓hM.g46, x0, ↓zB_c ek, zB_c ek, g5, ↓zB_c ev, zB_c ev, show (z_v (z_bd P k) i = name) = True from eq_true g]
        rfl
      · rw [show (z_v (z_bd P k) i == name) = false by simpa using g]
        simp (disch := ((try simp only [true_or, or_true, hM.k, hM.k2391, hM.k2392, hM.k2393, hM.k2394, hM.k2395, hM.k2396, hM.k2397, hM.k2398, hM.k2399, hM.k2400, hM.k2401, hM.k2402, hM.k2403, hM.k2404, hM.k2405, hM.k2406, hM.k2407, hM.k2408, hM.k2409, hM.k2410, hM.k2411, hM.k2412, hM.k2413, hM.k2414, hM.k2415, hM.k2416, hM.k2417, hM.k2418, hM.k2419, hM.k2420, hM.k2421, hM.k2422, hM.k2423, hM.l2391, hM.l2392, hM.l2393, hM.l2394, hM.l2395, hM.l2396, hM.l2397, hM.l2398, hM.l2399, hM.l2400, hM.l2401, hM.l2402, hM.l2403, hM.l2404, hM.l2405, hM.l2406, hM.l2407, hM.l2408, hM.l2409, hM.l2410, hM.l2411, hM.l2412, hM.l2413, hM.l2414, hM.l2415, hM.l2416, hM.l2417, hM.l2418, hM.l2419, hM.l2420, hM.l2421, hM.l2422, hM.l2423]) <;> (try omega))) only [↓reduceIte, ↓z_ite, ↓zR, ↓zB_R, ↓zB_B, ↓zB_ite, ↓zB_gI, ↓zB_pI, ↓zB_pZ, ↓zB_aK, ↓zB_G, ↓zB_lI, ↓zB_lZ, ↓zB_wI, ↓zB_wZ, ↓zB_lIl, ↓zB_wIl, zB_pI, zB_pZ, zB_lI, zB_lZ, zB_wI, zB_wZ, z_addl, z_ladd, z_mull, z_lmul, nI_add, z_subl, Nat.not_lt_zero, z_10, z_01, z_bitc, z_b0, z_b1, ↓zB_Gb, ↓zB_G0, ↓zB_G1, z_eql, z_leq, z_ltl, z_llt, z_eq, z_lt, z_m1lt, hM.k, hM.k2391, hM.k2392, hM.k2393, hM.k2394, hM.k2395, hM.k2396, hM.k2397, hM.k2398, hM.k2399, hM.k2400, hM.k2401, hM.k2402, hM.k2403, hM.k2404, hM.k2405, hM.k2406, hM.k2407, hM.k2408, hM.k2409, hM.k2410, hM.k2411, hM.k2412, hM.k2413, hM.k2414, hM.k2415, hM.k2416, hM.k2417, hM.k2418, hM.k2419, hM.k2420, hM.k2421, hM.k2422, hM.k2423, hM.l2391, hM.l2392, hM.l2393, hM.l2394, hM.l2395, hM.l2396, hM.l2397, hM.l2398, hM.l2399, hM.l2400, hM.l2401, hM.l2402, hM.l2403, hM.l2404, hM.l2405, hM.l2406, hM.l2407, hM.l2408, hM.l2409, hM.l2410, hM.l2411, hM.l2412, hM.l2413, hM.l2414, hM.l2415, hM.l2416, hM.l2417, hM.l2418, hM.l2419, hM.l2420, hM.l2421, hM.l2422, hM.l2423, ↓hM.g1, ↓hM.g5, ↓hM.g6, ↓hM.g7, ↓hM.g8, ↓hM.g9, ↓hM.g10, ↓hM.g11, ↓hM.g12, ↓hM.g13, ↓hM.g14, ↓hM.g16, ↓hM.g17, ↓hM.g18, ↓hM.g19, ↓hM.g21, ↓hM.g22, ↓hM.g23, ↓hM.g24, ↓hM.g25, ↓hM.g27, ↓hM.g28, ↓hM.g30, ↓hM.g31, ↓hM.g32, ↓hM.g36, ↓hM.g37, ↓hM.g39, ↓hM.g40, ↓hM.g41, ↓hM.g43, ↓hM.g45, ↓hM.g46, x0, ↓zB_c ek, zB_c ek, g5, ↓zB_c ev, zB_c ev, g]
        rfl
    · rw [if_neg g5, show (z_k (z_bd P k) i == 5) = false by simpa using g5]
      simp (disch := ((try simp only [true_or, or_true, hM.k, hM.k2391, hM.k2392, hM.k2393, hM.k2394, hM.k2395, hM.k2396, hM.k2397, hM.k2398, hM.k2399, hM.k2400, hM.k2401, hM.k2402, hM.k2403, hM.k2404, hM.k2405, hM.k2406, hM.k2407, hM.k2408, hM.k2409, hM.k2410, hM.k2411, hM.k2412, hM.k2413, hM.k2414, hM.k2415, hM.k2416, hM.k2417, hM.k2418, hM.k2419, hM.k2420, hM.k2421, hM.k2422, hM.k2423, hM.l2391, hM.l2392, hM.l2393, hM.l2394, hM.l2395, hM.l2396, hM.l2397, hM.l2398, hM.l2399, hM.l2400, hM.l2401, hM.l2402, hM.l2403, hM.l2404, hM.l2405, hM.l2406, hM.l2407, hM.l2408, hM.l2409, hM.l2410, hM.l2411, hM.l2412, hM.l2413, hM.l2414, hM.l2415, hM.l2416, hM.l2417, hM.l2418, hM.l2419, hM.l2420, hM.l2421, hM.l2422, hM.l2423]) <;> (try omega))) only [↓reduceIte, ↓z_ite, ↓zR, ↓zB_R, ↓zB_B, ↓zB_ite, ↓zB_gI, ↓zB_pI, ↓zB_pZ, ↓zB_aK, ↓zB_G, ↓zB_lI, ↓zB_lZ, ↓zB_wI, ↓zB_wZ, ↓zB_lIl, ↓zB_wIl, zB_pI, zB_pZ, zB_lI, zB_lZ, zB_wI, zB_wZ, z_addl, z_ladd, z_mull, z_lmul, nI_add, z_subl, Nat.not_lt_zero, z_10, z_01, z_bitc, z_b0, z_b1, ↓zB_Gb, ↓zB_G0, ↓zB_G1, z_eql, z_leq, z_ltl, z_llt, z_eq, z_lt, z_m1lt, hM.k, hM.k2391, hM.k2392, hM.k2393, hM.k2394, hM.k2395, hM.k2396, hM.k2397, hM.k2398, hM.k2399, hM.k2400, hM.k2401, hM.k2402, hM.k2403, hM.k2404, hM.k2405, hM.k2406, hM.k2407, hM.k2408, hM.k2409, hM.k2410, hM.k2411, hM.k2412, hM.k2413, hM.k2414, hM.k2415, hM.k2416, hM.k2417, hM.k2418, hM.k2419, hM.k2420, hM.k2421, hM.k2422, hM.k2423, hM.l2391, hM.l2392, hM.l2393, hM.l2394, hM.l2395, hM.l2396, hM.l2397, hM.l2398, hM.l2399, hM.l2400, hM.l2401, hM.l2402, hM.l2403, hM.l2404, hM.l2405, hM.l2406, hM.l2407, hM.l2408, hM.l2409, hM.l2410, hM.l2411, hM.l2412, hM.l2413, hM.l2414, hM.l2415, hM.l2416, hM.l2417, hM.l2418, hM.l2419, hM.l2420, hM.l2421, hM.l2422, hM.l2423, ↓hM.g1, ↓hM.g5, ↓hM.g6, ↓hM.g7, ↓hM.g8, ↓hM.g9, ↓hM.g10, ↓hM.g11, ↓hM.g12, ↓hM.g13, ↓hM.g14, ↓hM.g16, ↓hM.g17, ↓hM.g18, ↓hM.g19, ↓hM.g21, ↓hM.g22, ↓hM.g23, ↓hM.g24, ↓hM.g25, ↓hM.g27, ↓hM.g28, ↓hM.g30, ↓hM.g31, ↓hM.g32, ↓hM.g36, ↓hM.g37, ↓hM.g39, ↓hM.g40, ↓hM.g41, ↓hM.g43, ↓hM.g45, ↓hM.g46, x0, ↓zB_c ek, zB_c ek, g5]
      rw [Bool.not_false, Bool.true_and, Bool.or_false, Bool.and_false]; rfl
theorem m_renL (hM : z_MS S) (hw : z_WA A) (h : z_MR m A) (k x name : Int32) : (∃ v m1, f280 2390 k x name (z_hp S m) = some (v, z_hp S m1) ∧ z_MR m1 (z_orenL A k x name).2 ∧ (∀ b, b < 2390 ∨ 2424 ≤ b → m1 b = m b) ∧ z_ans z_cd3 (z_orenL A k x name).1 v (m1 2390 0)) ∧ z_WA (z_orenL A k x name).2 := by
  have hwf := hw.2.1.1
  have h24 := hwf.2.2.1
  have h60 := hw.2.1.2
  have i1 := f178_1 (m := m) hM
  have i2 := f178_2 (m := m) hM
  have e180 := f180_sp (S := S) (m := m) name
  unfold z_orenL
  by_cases g1 : z_hm A.2.1 k = false
  · rw [if_pos g1]
    refine z_m_ref hw h (E := 2) (cd := z_cd3) ⟨0, ?_⟩
    have e206 := f206_b (S := S) hM h k
    rw [g1] at e206
    unfold f280 f280_41 f280_42 f280_68 f280_69 f280_116 f280_117 f280_157
    simp (disch := ((try simp only [true_or, or_true, hM.k, hM.k2391, hM.k2392, hM.k2393, hM.k2394, hM.k2395, hM.k2396, hM.k2397, hM.k2398, hM.k2399, hM.k2400, hM.k2401, hM.k2402, hM.k2403, hM.k2404, hM.k2405, hM.k2406, hM.k2407, hM.k2408, hM.k2409, hM.k2410, hM.k2411, hM.k2412, hM.k2413, hM.k2414, hM.k2415, hM.k2416, hM.k2417, hM.k2418, hM.k2419, hM.k2420, hM.k2421, hM.k2422, hM.k2423, hM.l2391, hM.l2392, hM.l2393, hM.l2394, hM.l2395, hM.l2396, hM.l2397, hM.l2398, hM.l2399, hM.l2400, hM.l2401, hM.l2402, hM.l2403, hM.l2404, hM.l2405, hM.l2406, hM.l2407, hM.l2408, hM.l2409, hM.l2410, hM.l2411, hM.l2412, hM.l2413, hM.l2414, hM.l2415, hM.l2416, hM.l2417, hM.l2418, hM.l2419, hM.l2420, hM.l2421, hM.l2422, hM.l2423]) <;> (try omega))) only [↓reduceIte, ↓z_ite, ↓zR, ↓zB_R, ↓zB_B, ↓zB_ite, ↓zB_gI, ↓zB_pI, ↓zB_pZ, ↓zB_aK, ↓zB_G, ↓zB_lI, ↓zB_lZ, ↓zB_wI, ↓zB_wZ, ↓zB_lIl, ↓zB_wIl, zB_pI, zB_pZ, zB_lI, zB_lZ, zB_wI, zB_wZ, z_addl, z_ladd, z_mull, z_lmul, nI_add, z_subl, Nat.not_lt_zero, z_10, z_01, z_bitc, z_b0, z_b1, ↓zB_Gb, ↓zB_G0, ↓zB_G1, z_eql, z_leq, z_ltl, z_llt, z_eq, z_lt, z_m1lt, hM.k, hM.k2391, hM.k2392, hM.k2393, hM.k2394, hM.k2395, hM.k2396, hM.k2397, hM.k2398, hM.k2399, hM.k2400, hM.k2401, hM.k2402, hM.k2403, hM.k2404, hM.k2405, hM.k2406, hM.k2407, hM.k2408, hM.k2409, hM.k2410, hM.k2411, hM.k2412, hM.k2413, hM.k2414, hM.k2415, hM.k2416, hM.k2417, hM.k2418, hM.k2419, hM.k2420, hM.k2421, hM.k2422, hM.k2423, hM.l2391, hM.l2392, hM.l2393, hM.l2394, hM.l2395, hM.l2396, hM.l2397, hM.l2398, hM.l2399, hM.l2400, hM.l2401, hM.l2402, hM.l2403, hM.l2404, hM.l2405, hM.l2406, hM.l2407, hM.l2408, hM.l2409, hM.l2410, hM.l2411, hM.l2412, hM.l2413, hM.l2414, hM.l2415, hM.l2416, hM.l2417, hM.l2418, hM.l2419, hM.l2420, hM.l2421, hM.l2422, hM.l2423, ↓hM.g1, ↓hM.g5, ↓hM.g6, ↓hM.g7, ↓hM.g8, ↓hM.g9, ↓hM.g10, ↓hM.g11, ↓hM.g12, ↓hM.g13, ↓hM.g14, ↓hM.g16, ↓hM.g17, ↓hM.g18, ↓hM.g19, ↓hM.g21, ↓hM.g22, ↓hM.g23, ↓hM.g24, ↓hM.g25, ↓hM.g27, ↓hM.g28, ↓hM.g30, ↓hM.g31, ↓hM.g32, ↓hM.g36, ↓hM.g37, ↓hM.g39, ↓hM.g40, ↓hM.g41, ↓hM.g43, ↓hM.g45, ↓hM.g46, ↓zB_c e206, zB_c e206, ↓zB_c i1, zB_c i1]
    rfl
  rw [if_neg g1]
  have g1' := z_not_false g1
  obtain ⟨k', hk', hl, rfl⟩ := (z_hm_iff hwf).mp g1'
  rw [nI_clamp (show k' < 2 ^ 31 by omega)]
  have ea := f280_a (S := S) hM hwf h.2.1 hk' hl x name
  by_cases g2 : z_okl A.2.1 k' x = false
  · rw [if_pos g2]
    refine z_m_ref hw h (E := 2) (cd := z_cd3) ⟨0, ?_⟩
    rw [ea, g2]
    unfold f280_42 f280_68 f280_69 f280_116 f280_117 f280_157
    simp (disch := ((try simp only [true_or, or_true, hM.k, hM.k2391, hM.k2392, hM.k2393, hM.k2394, hM.k2395, hM.k2396, hM.k2397, hM.k2398, hM.k2399, hM.k2400, hM.k2401, hM.k2402, hM.k2403, hM.k2404, hM.k2405, hM.k2406, hM.k2407, hM.k2408, hM.k2409, hM.k2410, hM.k2411, hM.k2412, hM.k2413, hM.k2414, hM.k2415, hM.k2416, hM.k2417, hM.k2418, hM.k2419, hM.k2420, hM.k2421, hM.k2422, hM.k2423, hM.l2391, hM.l2392, hM.l2393, hM.l2394, hM.l2395, hM.l2396, hM.l2397, hM.l2398, hM.l2399, hM.l2400, hM.l2401, hM.l2402, hM.l2403, hM.l2404, hM.l2405, hM.l2406, hM.l2407, hM.l2408, hM.l2409, hM.l2410, hM.l2411, hM.l2412, hM.l2413, hM.l2414, hM.l2415, hM.l2416, hM.l2417, hM.l2418, hM.l2419, hM.l2420, hM.l2421, hM.l2422, hM.l2423]) <;> (try omega))) only [↓reduceIte, ↓z_ite, ↓zR, ↓zB_R, ↓zB_B, ↓zB_ite, ↓zB_gI, ↓zB_pI, ↓zB_pZ, ↓zB_aK, ↓zB_G, ↓zB_lI, ↓zB_lZ, ↓zB_wI, ↓zB_wZ, ↓zB_lIl, ↓zB_wIl, zB_pI, zB_pZ, zB_lI, zB_lZ, zB_wI, zB_wZ, z_addl, z_ladd, z_mull, z_lmul, nI_add, z_subl, Nat.not_lt_zero, z_10, z_01, z_bitc, z_b0, z_b1, ↓zB_Gb, ↓zB_G0, ↓zB_G1, z_eql, z_leq, z_ltl, z_llt, z_eq, z_lt, z_m1lt, hM.k, hM.k2391, hM.k2392, hM.k2393, hM.k2394, hM.k2395, hM.k2396, hM.k2397, hM.k2398, hM.k2399, hM.k2400, hM.k2401, hM.k2402, hM.k2403, hM.k2404, hM.k2405, hM.k2406, hM.k2407, hM.k2408, hM.k2409, hM.k2410, hM.k2411, hM.k2412, hM.k2413, hM.k2414, hM.k2415, hM.k2416, hM.k2417, hM.k2418, hM.k2419, hM.k2420, hM.k2421, hM.k2422, hM.k2423, hM.l2391, hM.l2392, hM.l2393, hM.l2394, hM.l2395, hM.l2396, hM.l2397, hM.l2398, hM.l2399, hM.l2400, hM.l2401, hM.l2402, hM.l2403, hM.l2404, hM.l2405, hM.l2406, hM.l2407, hM.l2408, hM.l2409, hM.l2410, hM.l2411, hM.l2412, hM.l2413, hM.l2414, hM.l2415, hM.l2416, hM.l2417, hM.l2418, hM.l2419, hM.l2420, hM.l2421, hM.l2422, hM.l2423, ↓hM.g1, ↓hM.g5, ↓hM.g6, ↓hM.g7, ↓hM.g8, ↓hM.g9, ↓hM.g10, ↓hM.g11, ↓hM.g12, ↓hM.g13, ↓hM.g14, ↓hM.g16, ↓hM.g17, ↓hM.g18, ↓hM.g19, ↓hM.g21, ↓hM.g22, ↓hM.g23, ↓hM.g24, ↓hM.g25, ↓hM.g27, ↓hM.g28, ↓hM.g30, ↓hM.g31, ↓hM.g32, ↓hM.g36, ↓hM.g37, ↓hM.g39, ↓hM.g40, ↓hM.g41, ↓hM.g43, ↓hM.g45, ↓hM.g46, ↓zB_c i1, zB_c i1]
    rfl
  rw [if_neg g2]
  have g2' := z_not_false g2
  have hlen := h60 k' hk'
  have hv := z_okl_v g2' (by omega)
  have eb := f280_b (S := S) hM hwf h.2.1 hk' hv name
  rw [g2'] at ea
  have ea := ea.trans eb
  by_cases g3 : z_in name 16 = false ∨ name = z_nol A.2.1 k' x
  · rw [if_pos g3]
    refine z_m_ref hw h (E := 1) (cd := z_cd3) ⟨0, ?_⟩
    rw [ea]
    unfold f280_117 f280_141 f280_157
    cases gx : z_in name 16 with
    | false =>
      rw [gx] at e180
      simp (disch := ((try simp only [true_or, or_true, hM.k, hM.k2391, hM.k2392, hM.k2393, hM.k2394, hM.k2395, hM.k2396, hM.k2397, hM.k2398, hM.k2399, hM.k2400, hM.k2401, hM.k2402, hM.k2403, hM.k2404, hM.k2405, hM.k2406, hM.k2407, hM.k2408, hM.k2409, hM.k2410, hM.k2411, hM.k2412, hM.k2413, hM.k2414, hM.k2415, hM.k2416, hM.k2417, hM.k2418, hM.k2419, hM.k2420, hM.k2421, hM.k2422, hM.k2423, hM.l2391, hM.l2392, hM.l2393, hM.l2394, hM.l2395, hM.l2396, hM.l2397, hM.l2398, hM.l2399, hM.l2400, hM.l2401, hM.l2402, hM.l2403, hM.l2404, hM.l2405, hM.l2406, hM.l2407, hM.l2408, hM.l2409, hM.l2410, hM.l2411, hM.l2412, hM.l2413, hM.l2414, hM.l2415, hM.l2416, hM.l2417, hM.l2418, hM.l2419, hM.l2420, hM.l2421, hM.l2422, hM.l2423]) <;> (try omega))) only [↓reduceIte, ↓z_ite, ↓zR, ↓zB_R, ↓zB_B, ↓zB_ite, ↓zB_gI, ↓zB_pI, ↓zB_pZ, ↓zB_aK, ↓zB_G, ↓zB_lI, ↓zB_lZ, ↓zB_wI, ↓zB_wZ, ↓zB_lIl, ↓zB_wIl, zB_pI, zB_pZ, zB_lI, zB_lZ, zB_wI, zB_wZ, z_addl, z_ladd, z_mull, z_lmul, nI_add, z_subl, Nat.not_lt_zero, z_10, z_01, z_bitc, z_b0, z_b1, ↓zB_Gb, ↓zB_G0, ↓zB_G1, z_eql, z_leq, z_ltl, z_llt, z_eq, z_lt, z_m1lt, hM.k, hM.k2391, hM.k2392, hM.k2393, hM.k2394, hM.k2395, hM.k2396, hM.k2397, hM.k2398, hM.k2399, hM.k2400, hM.k2401, hM.k2402, hM.k2403, hM.k2404, hM.k2405, hM.k2406, hM.k2407, hM.k2408, hM.k2409, hM.k2410, hM.k2411, hM.k2412, hM.k2413, hM.k2414, hM.k2415, hM.k2416, hM.k2417, hM.k2418, hM.k2419, hM.k2420, hM.k2421, hM.k2422, hM.k2423, hM.l2391, hM.l2392, hM.l2393, hM.l2394, hM.l2395, hM.l2396, hM.l2397, hM.l2398, hM.l2399, hM.l2400, hM.l2401, hM.l2402, hM.l2403, hM.l2404, hM.l2405, hM.l2406, hM.l2407, hM.l2408, hM.l2409, hM.l2410, hM.l2411, hM.l2412, hM.l2413, hM.l2414, hM.l2415, hM.l2416, hM.l2417, hM.l2418, hM.l2419, hM.l2420, hM.l2421, hM.l2422, hM.l2423, ↓hM.g1, ↓hM.g5, ↓hM.g6, ↓hM.g7, ↓hM.g8, ↓hM.g9, ↓hM.g10, ↓hM.g11, ↓hM.g12, ↓hM.g13, ↓hM.g14, ↓hM.g16, ↓hM.g17, ↓hM.g18, ↓hM.g19, ↓hM.g21, ↓hM.g22, ↓hM.g23, ↓hM.g24, ↓hM.g25, ↓hM.g27, ↓hM.g28, ↓hM.g30, ↓hM.g31, ↓hM.g32, ↓hM.g36, ↓hM.g37, ↓hM.g39, ↓hM.g40, ↓hM.g41, ↓hM.g43, ↓hM.g45, ↓hM.g46, ↓zB_c e180, zB_c e180, ↓zB_c i2, zB_c i2]
      rfl
    | true =>
      rw [gx] at e180
      have gy : name = z_nol A.2.1 k' x := by
        rcases g3 with q | q
        · rw [q] at gx; cases gx
        · exact q
      have gl : (z_nol A.2.1 k' x == name && (decide (x < 0) || z_ilt A.2.1 k' x)) = true := by
        rw [show (z_nol A.2.1 k' x == name) = true by rw [gy]; exact beq_self_eq_true _, Bool.true_and]
        by_cases x0 : x < 0
        · rw [decide_eq_true x0]; rfl
        · rw [decide_eq_false x0, Bool.false_or]
          unfold z_ilt
          rw [decide_eq_false x0]
          by_cases g5 : z_k (z_bd A.2.1 k') x.toNatClampNeg = 5
          · rw [g5]; rfl
          · exfalso
            unfold z_nol at gy
            rw [if_neg (fun q => x0 (by rw [q]; decide)), if_neg (fun q => x0 (by rw [q]; decide)), if_neg g5] at gy
            rw [gy] at gx; exact absurd gx (by decide)
      rw [gl]
      simp (disch := ((try simp only [true_or, or_true, hM.k, hM.k2391, hM.k2392, hM.k2393, hM.k2394, hM.k2395, hM.k2396, hM.k2397, hM.k2398, hM.k2399, hM.k2400, hM.k2401, hM.k2402, hM.k2403, hM.k2404, hM.k2405, hM.k2406, hM.k2407, hM.k2408, hM.k2409, hM.k2410, hM.k2411, hM.k2412, hM.k2413, hM.k2414, hM.k2415, hM.k2416, hM.k2417, hM.k2418, hM.k2419, hM.k2420, hM.k2421, hM.k2422, hM.k2423, hM.l2391, hM.l2392, hM.l2393, hM.l2394, hM.l2395, hM.l2396, hM.l2397, hM.l2398, hM.l2399, hM.l2400, hM.l2401, hM.l2402, hM.l2403, hM.l2404, hM.l2405, hM.l2406, hM.l2407, hM.l2408, hM.l2409, hM.l2410, hM.l2411, hM.l2412, hM.l2413, hM.l2414, hM.l2415, hM.l2416, hM.l2417, hM.l2418, hM.l2419, hM.l2420, hM.l2421, hM.l2422, hM.l2423]) <;> (try omega))) only [↓reduceIte, ↓z_ite, ↓zR, ↓zB_R, ↓zB_B, ↓zB_ite, ↓zB_gI, ↓zB_pI, ↓zB_pZ, ↓zB_aK, ↓zB_G, ↓zB_lI, ↓zB_lZ, ↓zB_wI, ↓zB_wZ, ↓zB_lIl, ↓zB_wIl, zB_pI, zB_pZ, zB_lI, zB_lZ, zB_wI, zB_wZ, z_addl, z_ladd, z_mull, z_lmul, nI_add, z_subl, Nat.not_lt_zero, z_10, z_01, z_bitc, z_b0, z_b1, ↓zB_Gb, ↓zB_G0, ↓zB_G1, z_eql, z_leq, z_ltl, z_llt, z_eq, z_lt, z_m1lt, hM.k, hM.k2391, hM.k2392, hM.k2393, hM.k2394, hM.k2395, hM.k2396, hM.k2397, hM.k2398, hM.k2399, hM.k2400, hM.k2401, hM.k2402, hM.k2403, hM.k2404, hM.k2405, hM.k2406, hM.k2407, hM.k2408, hM.k2409, hM.k2410, hM.k2411, hM.k2412, hM.k2413, hM.k2414, hM.k2415, hM.k2416, hM.k2417, hM.k2418, hM.k2419, hM.k2420, hM.k2421, hM.k2422, hM.k2423, hM.l2391, hM.l2392, hM.l2393, hM.l2394, hM.l2395, hM.l2396, hM.l2397, hM.l2398, hM.l2399, hM.l2400, hM.l2401, hM.l2402, hM.l2403, hM.l2404, hM.l2405, hM.l2406, hM.l2407, hM.l2408, hM.l2409, hM.l2410, hM.l2411, hM.l2412, hM.l2413, hM.l2414, hM.l2415, hM.l2416, hM.l2417, hM.l2418, hM.l2419, hM.l2420, hM.l2421, hM.l2422, hM.l2423, ↓hM.g1, ↓hM.g5, ↓hM.g6, ↓hM.g7, ↓hM.g8, ↓hM.g9, ↓hM.g10, ↓hM.g11, ↓hM.g12, ↓hM.g13, ↓hM.g14, ↓hM.g16, ↓hM.g17, ↓hM.g18, ↓hM.g19, ↓hM.g21, ↓hM.g22, ↓hM.g23, ↓hM.g24, ↓hM.g25, ↓hM.g27, ↓hM.g28, ↓hM.g30, ↓hM.g31, ↓hM.g32, ↓hM.g36, ↓hM.g37, ↓hM.g39, ↓hM.g40, ↓hM.g41, ↓hM.g43, ↓hM.g45, ↓hM.g46, ↓zB_c e180, zB_c e180, Bool.true_eq_false, ↓zB_c i2, zB_c i2]
      rfl
  rw [if_neg g3]
  have gx := z_not_false (fun q => g3 (Or.inl q))
  have gy : ¬ name = z_nol A.2.1 k' x := fun q => g3 (Or.inr q)
  rw [gx] at e180
  obtain ⟨n, hn, rfl⟩ := (z_in_iff (by decide)).mp gx
  rw [show (z_nol A.2.1 k' x == nI n) = false by simpa using (fun q => gy q.symm), Bool.false_and] at ea
  by_cases g4 : ¬ z_wr A.2.1 = -1
  · rw [if_neg g4]
    obtain ⟨m1, e272, h1, fr1⟩ := m_gono (S := S) hM hw h g4
    have i3 := f178_3 (m := m1) hM
    refine m_ref2 (m1 := m1) hw h1 fr1 (E := 0) (cd := z_cd3) ⟨0, ?_⟩
    rw [ea]
    unfold f280_117 f280_157
    simp (disch := ((try simp only [true_or, or_true, hM.k, hM.k2391, hM.k2392, hM.k2393, hM.k2394, hM.k2395, hM.k2396, hM.k2397, hM.k2398, hM.k2399, hM.k2400, hM.k2401, hM.k2402, hM.k2403, hM.k2404, hM.k2405, hM.k2406, hM.k2407, hM.k2408, hM.k2409, hM.k2410, hM.k2411, hM.k2412, hM.k2413, hM.k2414, hM.k2415, hM.k2416, hM.k2417, hM.k2418, hM.k2419, hM.k2420, hM.k2421, hM.k2422, hM.k2423, hM.l2391, hM.l2392, hM.l2393, hM.l2394, hM.l2395, hM.l2396, hM.l2397, hM.l2398, hM.l2399, hM.l2400, hM.l2401, hM.l2402, hM.l2403, hM.l2404, hM.l2405, hM.l2406, hM.l2407, hM.l2408, hM.l2409, hM.l2410, hM.l2411, hM.l2412, hM.l2413, hM.l2414, hM.l2415, hM.l2416, hM.l2417, hM.l2418, hM.l2419, hM.l2420, hM.l2421, hM.l2422, hM.l2423]) <;> (try omega))) only [↓reduceIte, ↓z_ite, ↓zR, ↓zB_R, ↓zB_B, ↓zB_ite, ↓zB_gI, ↓zB_pI, ↓zB_pZ, ↓zB_aK, ↓zB_G, ↓zB_lI, ↓zB_lZ, ↓zB_wI, ↓zB_wZ, ↓zB_lIl, ↓zB_wIl, zB_pI, zB_pZ, zB_lI, zB_lZ, zB_wI, zB_wZ, z_addl, z_ladd, z_mull, z_lmul, nI_add, z_subl, Nat.not_lt_zero, z_10, z_01, z_bitc, z_b0, z_b1, ↓zB_Gb, ↓zB_G0, ↓zB_G1, z_eql, z_leq, z_ltl, z_llt, z_eq, z_lt, z_m1lt, hM.k, hM.k2391, hM.k2392, hM.k2393, hM.k2394, hM.k2395, hM.k2396, hM.k2397, hM.k2398, hM.k2399, hM.k2400, hM.k2401, hM.k2402, hM.k2403, hM.k2404, hM.k2405, hM.k2406, hM.k2407, hM.k2408, hM.k2409, hM.k2410, hM.k2411, hM.k2412, hM.k2413, hM.k2414, hM.k2415, hM.k2416, hM.k2417, hM.k2418, hM.k2419, hM.k2420, hM.k2421, hM.k2422, hM.k2423, hM.l2391, hM.l2392, hM.l2393, hM.l2394, hM.l2395, hM.l2396, hM.l2397, hM.l2398, hM.l2399, hM.l2400, hM.l2401, hM.l2402, hM.l2403, hM.l2404, hM.l2405, hM.l2406, hM.l2407, hM.l2408, hM.l2409, hM.l2410, hM.l2411, hM.l2412, hM.l2413, hM.l2414, hM.l2415, hM.l2416, hM.l2417, hM.l2418, hM.l2419, hM.l2420, hM.l2421, hM.l2422, hM.l2423, ↓hM.g1, ↓hM.g5, ↓hM.g6, ↓hM.g7, ↓hM.g8, ↓hM.g9, ↓hM.g10, ↓hM.g11, ↓hM.g12, ↓hM.g13, ↓hM.g14, ↓hM.g16, ↓hM.g17, ↓hM.g18, ↓hM.g19, ↓hM.g21, ↓hM.g22, ↓hM.g23, ↓hM.g24, ↓hM.g25, ↓hM.g27, ↓hM.g28, ↓hM.g30, ↓hM.g31, ↓hM.g32, ↓hM.g36, ↓hM.g37, ↓hM.g39, ↓hM.g40, ↓hM.g41, ↓hM.g43, ↓hM.g45, ↓hM.g46, ↓zB_c e180, zB_c e180, Bool.true_eq_false, ↓zB_c e272, zB_c e272, ↓zB_c i3, zB_c i3]
    rfl
  have g4 := Classical.not_not.mp g4
  rw [if_pos g4]
  have hRT := z_RT_wr hwf g4
  obtain ⟨m1, e272, e178, h0, fr0⟩ := m_go (S := S) hM hw h g4
  generalize hm2 : z_up m1 2390 0 0 = m2 at e178 h0 fr0
  -- past the refusals
  have st : f280 2390 (nI k') x (nI n) (z_hp S m) = (if x < 0 then f280_177 2390 (nI k') x (nI n) else if z_b (z_ilt A.2.1 k' x) = 0 then m_R (-10) else f280_177 2390 (nI k') x (nI n)) (z_hp S m2) := by
    rw [ea]
    unfold f280_117 f280_157
    simp (disch := ((try simp only [true_or, or_true, hM.k, hM.k2391, hM.k2392, hM.k2393, hM.k2394, hM.k2395, hM.k2396, hM.k2397, hM.k2398, hM.k2399, hM.k2400, hM.k2401, hM.k2402, hM.k2403, hM.k2404, hM.k2405, hM.k2406, hM.k2407, hM.k2408, hM.k2409, hM.k2410, hM.k2411, hM.k2412, hM.k2413, hM.k2414, hM.k2415, hM.k2416, hM.k2417, hM.k2418, hM.k2419, hM.k2420, hM.k2421, hM.k2422, hM.k2423, hM.l2391, hM.l2392, hM.l2393, hM.l2394, hM.l2395, hM.l2396, hM.l2397, hM.l2398, hM.l2399, hM.l2400, hM.l2401, hM.l2402, hM.l2403, hM.l2404, hM.l2405, hM.l2406, hM.l2407, hM.l2408, hM.l2409, hM.l2410, hM.l2411, hM.l2412, hM.l2413, hM.l2414, hM.l2415, hM.l2416, hM.l2417, hM.l2418, hM.l2419, hM.l2420, hM.l2421, hM.l2422, hM.l2423]) <;> (try omega))) only [↓reduceIte, ↓z_ite, ↓zR, ↓zB_R, ↓zB_B, ↓zB_ite, ↓zB_gI, ↓zB_pI, ↓zB_pZ, ↓zB_aK, ↓zB_G, ↓zB_lI, ↓zB_lZ, ↓zB_wI, ↓zB_wZ, ↓zB_lIl, ↓zB_wIl, zB_pI, zB_pZ, zB_lI, zB_lZ, zB_wI, zB_wZ, z_addl, z_ladd, z_mull, z_lmul, nI_add, z_subl, Nat.not_lt_zero, z_10, z_01, z_bitc, z_b0, z_b1, ↓zB_Gb, ↓zB_G0, ↓zB_G1, z_eql, z_leq, z_ltl, z_llt, z_eq, z_lt, z_m1lt, hM.k, hM.k2391, hM.k2392, hM.k2393, hM.k2394, hM.k2395, hM.k2396, hM.k2397, hM.k2398, hM.k2399, hM.k2400, hM.k2401, hM.k2402, hM.k2403, hM.k2404, hM.k2405, hM.k2406, hM.k2407, hM.k2408, hM.k2409, hM.k2410, hM.k2411, hM.k2412, hM.k2413, hM.k2414, hM.k2415, hM.k2416, hM.k2417, hM.k2418, hM.k2419, hM.k2420, hM.k2421, hM.k2422, hM.k2423, hM.l2391, hM.l2392, hM.l2393, hM.l2394, hM.l2395, hM.l2396, hM.l2397, hM.l2398, hM.l2399, hM.l2400, hM.l2401, hM.l2402, hM.l2403, hM.l2404, hM.l2405, hM.l2406, hM.l2407, hM.l2408, hM.l2409, hM.l2410, hM.l2411, hM.l2412, hM.l2413, hM.l2414, hM.l2415, hM.l2416, hM.l2417, hM.l2418, hM.l2419, hM.l2420, hM.l2421, hM.l2422, hM.l2423, ↓hM.g1, ↓hM.g5, ↓hM.g6, ↓hM.g7, ↓hM.g8, ↓hM.g9, ↓hM.g10, ↓hM.g11, ↓hM.g12, ↓hM.g13, ↓hM.g14, ↓hM.g16, ↓hM.g17, ↓hM.g18, ↓hM.g19, ↓hM.g21, ↓hM.g22, ↓hM.g23, ↓hM.g24, ↓hM.g25, ↓hM.g27, ↓hM.g28, ↓hM.g30, ↓hM.g31, ↓hM.g32, ↓hM.g36, ↓hM.g37, ↓hM.g39, ↓hM.g40, ↓hM.g41, ↓hM.g43, ↓hM.g45, ↓hM.g46, ↓zB_c e180, zB_c e180, Bool.true_eq_false, ↓zB_c e272, zB_c e272, ↓zB_c e178, zB_c e178]
  by_cases gA : ¬ x < 0 ∧ z_k (z_bd A.2.1 k') x.toNatClampNeg ≠ 5
  · have er : z_rlR A.2.1 k' x (nI n) = -10 := if_pos gA
    rw [er]
    refine m_no hw (by decide) (m' := m2) ?_ h0.1 h0.2.2 fr0
    rw [st, if_neg gA.1]
    have : z_ilt A.2.1 k' x = false := by unfold z_ilt; simp [gA.2]
    rw [this]; rfl
  have h5 : x < 0 ∨ z_k (z_bd A.2.1 k') x.toNatClampNeg = 5 := by
    by_cases x0 : x < 0
    · exact Or.inl x0
    · exact Or.inr (Classical.not_not.mp (fun q => gA ⟨x0, q⟩))
  have st2 : f280 2390 (nI k') x (nI n) (z_hp S m) = f280_177 2390 (nI k') x (nI n) (z_hp S m2) := by
    rw [st]
    by_cases x0 : x < 0
    · rw [if_pos x0]
    · have : z_ilt A.2.1 k' x = true := by
        unfold z_ilt
        rw [decide_eq_false x0, (h5.resolve_left x0)]; rfl
      rw [if_neg x0, this]; rfl
  -- the other parameter
  have e3 := h0.1.2.1.e3 hM (B := 0) rfl hk'
  have e4 := h0.1.2.1.e4 hM (B := 0) rfl hk'
  have e5 := h0.1.2.1.e5 hM (B := 0) rfl hk'
  obtain ⟨hc1, hc2⟩ := (hwf.2.2.2.1 k' hk').2.2.2.1
  have ec : z_hd A.2.1 k' 3 = nI (z_cnt A.2.1 k') := hc2
  have hc2 : z_cnt A.2.1 k' ≤ 2 := hc1
  rw [ec] at e3
  have st3 : f280_177 2390 (nI k') x (nI n) (z_hp S m2) = (if x < 0 ∧ (z_pc A.2.1 k' (nI n)).isSome = true then m_R (-1) else f280_208 2390 (nI k') x (nI n)) (z_hp S m2) := by
    unfold f280_177
    by_cases x0 : x < 0
    · have hxx : x = -1 ∧ 0 < z_cnt A.2.1 k' ∨ x = -2 ∧ 1 < z_cnt A.2.1 k' := by
        rcases hv with q | q | ⟨i, hi, q⟩
        · exact Or.inl q
        · exact Or.inr q
        · rw [q] at x0; exact absurd x0 (nI_pos (by omega))
      rcases hxx with ⟨rfl, hc⟩ | ⟨rfl, hc⟩
      · have n4 : ¬ z_hd A.2.1 k' 4 = nI n := fun q => gy (by unfold z_nol; rw [if_pos rfl, q])
        by_cases hc3 : z_cnt A.2.1 k' = 2
        · rw [hc3] at e3
          have e56 : f196 2390 0 (nI k') (6 + -1) (z_hp S m2) = some (z_hd A.2.1 k' 5, z_hp S m2) := e5
          by_cases n5 : z_hd A.2.1 k' 5 = nI n
          · rw [if_pos (show (-1 : Int32) < 0 ∧ (z_pc A.2.1 k' (nI n)).isSome = true from ⟨x0, by unfold z_pc; rw [if_neg (fun q => n4 q.2), if_pos ⟨by omega, n5⟩]; rfl⟩)]
            simp (disch := ((try simp only [true_or, or_true, hM.k, hM.k2391, hM.k2392, hM.k2393, hM.k2394, hM.k2395, hM.k2396, hM.k2397, hM.k2398, hM.k2399, hM.k2400, hM.k2401, hM.k2402, hM.k2403, hM.k2404, hM.k2405, hM.k2406, hM.k2407, hM.k2408, hM.k2409, hM.k2410, hM.k2411, hM.k2412, hM.k2413, hM.k2414, hM.k2415, hM.k2416, hM.k2417, hM.k2418, hM.k2419, hM.k2420, hM.k2421, hM.k2422, hM.k2423, hM.l2391, hM.l2392, hM.l2393, hM.l2394, hM.l2395, hM.l2396, hM.l2397, hM.l2398, hM.l2399, hM.l2400, hM.l2401, hM.l2402, hM.l2403, hM.l2404, hM.l2405, hM.l2406, hM.l2407, hM.l2408, hM.l2409, hM.l2410, hM.l2411, hM.l2412, hM.l2413, hM.l2414, hM.l2415, hM.l2416, hM.l2417, hM.l2418, hM.l2419, hM.l2420, hM.l2421, hM.l2422, hM.l2423]) <;> (try omega))) only [↓reduceIte, ↓z_ite, ↓zR, ↓zB_R, ↓zB_B, ↓zB_ite, ↓zB_gI, ↓zB_pI, ↓zB_pZ, ↓zB_aK, ↓zB_G, ↓zB_lI, ↓zB_lZ, ↓zB_wI, ↓zB_wZ, ↓zB_lIl, ↓zB_wIl, zB_pI, zB_pZ, zB_lI, zB_lZ, zB_wI, zB_wZ, z_addl, z_ladd, z_mull, z_lmul, nI_add, z_subl, Nat.not_lt_zero, z_10, z_01, z_bitc, z_b0, z_b1, ↓zB_Gb, ↓zB_G0, ↓zB_G1, z_eql, z_leq, z_ltl, z_llt, z_eq, z_lt, z_m1lt, hM.k, hM.k2391, hM.k2392, hM.k2393, hM.k2394, hM.k2395, hM.k2396, hM.k2397, hM.k2398, hM.k2399, hM.k2400, hM.k2401, hM.k2402, hM.k2403, hM.k2404, hM.k2405, hM.k2406, hM.k2407, hM.k2408, hM.k2409, hM.k2410, hM.k2411, hM.k2412, hM.k2413, hM.k2414, hM.k2415, hM.k2416, hM.k2417, hM.k2418, hM.k2419, hM.k2420, hM.k2421, hM.k2422, hM.k2423, hM.l2391, hM.l2392, hM.l2393, hM.l2394, hM.l2395, hM.l2396, hM.l2397, hM.l2398, hM.l2399, hM.l2400, hM.l2401, hM.l2402, hM.l2403, hM.l2404, hM.l2405, hM.l2406, hM.l2407, hM.l2408, hM.l2409, hM.l2410, hM.l2411, hM.l2412, hM.l2413, hM.l2414, hM.l2415, hM.l2416, hM.l2417, hM.l2418, hM.l2419, hM.l2420, hM.l2421, hM.l2422, hM.l2423, ↓hM.g1, ↓hM.g5, ↓hM.g6, ↓hM.g7, ↓hM.g8, ↓hM.g9, ↓hM.g10, ↓hM.g11, ↓hM.g12, ↓hM.g13, ↓hM.g14, ↓hM.g16, ↓hM.g17, ↓hM.g18, ↓hM.g19, ↓hM.g21, ↓hM.g22, ↓hM.g23, ↓hM.g24, ↓hM.g25, ↓hM.g27, ↓hM.g28, ↓hM.g30, ↓hM.g31, ↓hM.g32, ↓hM.g36, ↓hM.g37, ↓hM.g39, ↓hM.g40, ↓hM.g41, ↓hM.g43, ↓hM.g45, ↓hM.g46, x0, ↓zB_c e3, zB_c e3, ↓zB_c e56, zB_c e56, n5]
          · rw [if_neg (show ¬ ((-1 : Int32) < 0 ∧ (z_pc A.2.1 k' (nI n)).isSome = true) from fun q => by have := q.2; unfold z_pc at this; rw [if_neg (fun q => n4 q.2), if_neg (fun q => n5 q.2)] at this; cases this)]
            simp (disch := ((try simp only [true_or, or_true, hM.k, hM.k2391, hM.k2392, hM.k2393, hM.k2394, hM.k2395, hM.k2396, hM.k2397, hM.k2398, hM.k2399, hM.k2400, hM.k2401, hM.k2402, hM.k2403, hM.k2404, hM.k2405, hM.k2406, hM.k2407, hM.k2408, hM.k2409, hM.k2410, hM.k2411, hM.k2412, hM.k2413, hM.k2414, hM.k2415, hM.k2416, hM.k2417, hM.k2418, hM.k2419, hM.k2420, hM.k2421, hM.k2422, hM.k2423, hM.l2391, hM.l2392, hM.l2393, hM.l2394, hM.l2395, hM.l2396, hM.l2397, hM.l2398, hM.l2399, hM.l2400, hM.l2401, hM.l2402, hM.l2403, hM.l2404, hM.l2405, hM.l2406, hM.l2407, hM.l2408, hM.l2409, hM.l2410, hM.l2411, hM.l2412, hM.l2413, hM.l2414, hM.l2415, hM.l2416, hM.l2417, hM.l2418, hM.l2419, hM.l2420, hM.l2421, hM.l2422, hM.l2423]) <;> (try omega))) only [↓reduceIte, ↓z_ite, ↓zR, ↓zB_R, ↓zB_B, ↓zB_ite, ↓zB_gI, ↓zB_pI, ↓zB_pZ, ↓zB_aK, ↓zB_G, ↓zB_lI, ↓zB_lZ, ↓zB_wI, ↓zB_wZ, ↓zB_lIl, ↓zB_wIl, zB_pI, zB_pZ, zB_lI, zB_lZ, zB_wI, zB_wZ, z_addl, z_ladd, z_mull, z_lmul, nI_add, z_subl, Nat.not_lt_zero, z_10, z_01, z_bitc, z_b0, z_b1, ↓zB_Gb, ↓zB_G0, ↓zB_G1, z_eql, z_leq, z_ltl, z_llt, z_eq, z_lt, z_m1lt, hM.k, hM.k2391, hM.k2392, hM.k2393, hM.k2394, hM.k2395, hM.k2396, hM.k2397, hM.k2398, hM.k2399, hM.k2400, hM.k2401, hM.k2402, hM.k2403, hM.k2404, hM.k2405, hM.k2406, hM.k2407, hM.k2408, hM.k2409, hM.k2410, hM.k2411, hM.k2412, hM.k2413, hM.k2414, hM.k2415, hM.k2416, hM.k2417, hM.k2418, hM.k2419, hM.k2420, hM.k2421, hM.k2422, hM.k2423, hM.l2391, hM.l2392, hM.l2393, hM.l2394, hM.l2395, hM.l2396, hM.l2397, hM.l2398, hM.l2399, hM.l2400, hM.l2401, hM.l2402, hM.l2403, hM.l2404, hM.l2405, hM.l2406, hM.l2407, hM.l2408, hM.l2409, hM.l2410, hM.l2411, hM.l2412, hM.l2413, hM.l2414, hM.l2415, hM.l2416, hM.l2417, hM.l2418, hM.l2419, hM.l2420, hM.l2421, hM.l2422, hM.l2423, ↓hM.g1, ↓hM.g5, ↓hM.g6, ↓hM.g7, ↓hM.g8, ↓hM.g9, ↓hM.g10, ↓hM.g11, ↓hM.g12, ↓hM.g13, ↓hM.g14, ↓hM.g16, ↓hM.g17, ↓hM.g18, ↓hM.g19, ↓hM.g21, ↓hM.g22, ↓hM.g23, ↓hM.g24, ↓hM.g25, ↓hM.g27, ↓hM.g28, ↓hM.g30, ↓hM.g31, ↓hM.g32, ↓hM.g36, ↓hM.g37, ↓hM.g39, ↓hM.g40, ↓hM.g41, ↓hM.g43, ↓hM.g45, ↓hM.g46, x0, ↓zB_c e3, zB_c e3, ↓zB_c e56, zB_c e56, n5]
        · have hc4 : z_cnt A.2.1 k' = 1 := by omega
          rw [if_neg (show ¬ ((-1 : Int32) < 0 ∧ (z_pc A.2.1 k' (nI n)).isSome = true) from fun q => by have := q.2; unfold z_pc at this; rw [if_neg (fun q => n4 q.2), if_neg (fun q => by omega)] at this; cases this)]
          simp (disch := ((try simp only [true_or, or_true, hM.k, hM.k2391, hM.k2392, hM.k2393, hM.k2394, hM.k2395, hM.k2396, hM.k2397, hM.k2398, hM.k2399, hM.k2400, hM.k2401, hM.k2402, hM.k2403, hM.k2404, hM.k2405, hM.k2406, hM.k2407, hM.k2408, hM.k2409, hM.k2410, hM.k2411, hM.k2412, hM.k2413, hM.k2414, hM.k2415, hM.k2416, hM.k2417, hM.k2418, hM.k2419, hM.k2420, hM.k2421, hM.k2422, hM.k2423, hM.l2391, hM.l2392, hM.l2393, hM.l2394, hM.l2395, hM.l2396, hM.l2397, hM.l2398, hM.l2399, hM.l2400, hM.l2401, hM.l2402, hM.l2403, hM.l2404, hM.l2405, hM.l2406, hM.l2407, hM.l2408, hM.l2409, hM.l2410, hM.l2411, hM.l2412, hM.l2413, hM.l2414, hM.l2415, hM.l2416, hM.l2417, hM.l2418, hM.l2419, hM.l2420, hM.l2421, hM.l2422, hM.l2423]) <;> (try omega))) only [↓reduceIte, ↓z_ite, ↓zR, ↓zB_R, ↓zB_B, ↓zB_ite, ↓zB_gI, ↓zB_pI, ↓zB_pZ, ↓zB_aK, ↓zB_G, ↓zB_lI, ↓zB_lZ, ↓zB_wI, ↓zB_wZ, ↓zB_lIl, ↓zB_wIl, zB_pI, zB_pZ, zB_lI, zB_lZ, zB_wI, zB_wZ, z_addl, z_ladd, z_mull, z_lmul, nI_add, z_subl, Nat.not_lt_zero, z_10, z_01, z_bitc, z_b0, z_b1, ↓zB_Gb, ↓zB_G0, ↓zB_G1, z_eql, z_leq, z_ltl, z_llt, z_eq, z_lt, z_m1lt, hM.k, hM.k2391, hM.k2392, hM.k2393, hM.k2394, hM.k2395, hM.k2396, hM.k2397, hM.k2398, hM.k2399, hM.k2400, hM.k2401, hM.k2402, hM.k2403, hM.k2404, hM.k2405, hM.k2406, hM.k2407, hM.k2408, hM.k2409, hM.k2410, hM.k2411, hM.k2412, hM.k2413, hM.k2414, hM.k2415, hM.k2416, hM.k2417, hM.k2418, hM.k2419, hM.k2420, hM.k2421, hM.k2422, hM.k2423, hM.l2391, hM.l2392, hM.l2393, hM.l2394, hM.l2395, hM.l2396, hM.l2397, hM.l2398, hM.l2399, hM.l2400, hM.l2401, hM.l2402, hM.l2403, hM.l2404, hM.l2405, hM.l2406, hM.l2407, hM.l2408, hM.l2409, hM.l2410, hM.l2411, hM.l2412, hM.l2413, hM.l2414, hM.l2415, hM.l2416, hM.l2417, hM.l2418, hM.l2419, hM.l2420, hM.l2421, hM.l2422, hM.l2423, ↓hM.g1, ↓hM.g5, ↓hM.g6, ↓hM.g7, ↓hM.g8, ↓hM.g9, ↓hM.g10, ↓hM.g11, ↓hM.g12, ↓hM.g13, ↓hM.g14, ↓hM.g16, ↓hM.g17, ↓hM.g18, ↓hM.g19, ↓hM.g21, ↓hM.g22, ↓hM.g23, ↓hM.g24, ↓hM.g25, ↓hM.g27, ↓hM.g28, ↓hM.g30, ↓hM.g31, ↓hM.g32, ↓hM.g36, ↓hM.g37, ↓hM.g39, ↓hM.g40, ↓hM.g41, ↓hM.g43, ↓hM.g45, ↓hM.g46, x0, ↓zB_c e3, zB_c e3, hc3]
      · have n5 : ¬ z_hd A.2.1 k' 5 = nI n := fun q => gy (by unfold z_nol; rw [if_neg (by decide), if_pos rfl, q])
        have hc3 : z_cnt A.2.1 k' = 2 := by omega
        rw [hc3] at e3
        have e56 : f196 2390 0 (nI k') (6 + -2) (z_hp S m2) = some (z_hd A.2.1 k' 4, z_hp S m2) := e4
        by_cases n4 : z_hd A.2.1 k' 4 = nI n
        · rw [if_pos (show (-2 : Int32) < 0 ∧ (z_pc A.2.1 k' (nI n)).isSome = true from ⟨x0, by unfold z_pc; rw [if_pos ⟨by omega, n4⟩]; rfl⟩)]
          simp (disch := ((try simp only [true_or, or_true, hM.k, hM.k2391, hM.k2392, hM.k2393, hM.k2394, hM.k2395, hM.k2396, hM.k2397, hM.k2398, hM.k2399, hM.k2400, hM.k2401, hM.k2402, hM.k2403, hM.k2404, hM.k2405, hM.k2406, hM.k2407, hM.k2408, hM.k2409, hM.k2410, hM.k2411, hM.k2412, hM.k2413, hM.k2414, hM.k2415, hM.k2416, hM.k2417, hM.k2418, hM.k2419, hM.k2420, hM.k2421, hM.k2422, hM.k2423, hM.l2391, hM.l2392, hM.l2393, hM.l2394, hM.l2395, hM.l2396, hM.l2397, hM.l2398, hM.l2399, hM.l2400, hM.l2401, hM.l2402, hM.l2403, hM.l2404, hM.l2405, hM.l2406, hM.l2407, hM.l2408, hM.l2409, hM.l2410, hM.l2411, hM.l2412, hM.l2413, hM.l2414, hM.l2415, hM.l2416, hM.l2417, hM.l2418, hM.l2419, hM.l2420, hM.l2421, hM.l2422, hM.l2423]) <;> (try omega))) only [↓reduceIte, ↓z_ite, ↓zR, ↓zB_R, ↓zB_B, ↓zB_ite, ↓zB_gI, ↓zB_pI, ↓zB_pZ, ↓zB_aK, ↓zB_G, ↓zB_lI, ↓zB_lZ, ↓zB_wI, ↓zB_wZ, ↓zB_lIl, ↓zB_wIl, zB_pI, zB_pZ, zB_lI, zB_lZ, zB_wI, zB_wZ, z_addl, z_ladd, z_mull, z_lmul, nI_add, z_subl, Nat.not_lt_zero, z_10, z_01, z_bitc, z_b0, z_b1, ↓zB_Gb, ↓zB_G0, ↓zB_G1, z_eql, z_leq, z_ltl, z_llt, z_eq, z_lt, z_m1lt, hM.k, hM.k2391, hM.k2392, hM.k2393, hM.k2394, hM.k2395, hM.k2396, hM.k2397, hM.k2398, hM.k2399, hM.k2400, hM.k2401, hM.k2402, hM.k2403, hM.k2404, hM.k2405, hM.k2406, hM.k2407, hM.k2408, hM.k2409, hM.k2410, hM.k2411, hM.k2412, hM.k2413, hM.k2414, hM.k2415, hM.k2416, hM.k2417, hM.k2418, hM.k2419, hM.k2420, hM.k2421, hM.k2422, hM.k2423, hM.l2391, hM.l2392, hM.l2393, hM.l2394, hM.l2395, hM.l2396, hM.l2397, hM.l2398, hM.l2399, hM.l2400, hM.l2401, hM.l2402, hM.l2403, hM.l2404, hM.l2405, hM.l2406, hM.l2407, hM.l2408, hM.l2409, hM.l2410, hM.l2411, hM.l2412, hM.l2413, hM.l2414, hM.l2415, hM.l2416, hM.l2417, hM.l2418, hM.l2419, hM.l2420, hM.l2421, hM.l2422, hM.l2423, ↓hM.g1, ↓hM.g5, ↓hM.g6, ↓hM.g7, ↓hM.g8, ↓hM.g9, ↓hM.g10, ↓hM.g11, ↓hM.g12, ↓hM.g13, ↓hM.g14, ↓hM.g16, ↓hM.g17, ↓hM.g18, ↓hM.g19, ↓hM.g21, ↓hM.g22, ↓hM.g23, ↓hM.g24, ↓hM.g25, ↓hM.g27, ↓hM.g28, ↓hM.g30, ↓hM.g31, ↓hM.g32, ↓hM.g36, ↓hM.g37, ↓hM.g39, ↓hM.g40, ↓hM.g41, ↓hM.g43, ↓hM.g45, ↓hM.g46, x0, ↓zB_c e3, zB_c e3, ↓zB_c e56, zB_c e56, n4]
        · rw [if_neg (show ¬ ((-2 : Int32) < 0 ∧ (z_pc A.2.1 k' (nI n)).isSome = true) from fun q => by have := q.2; unfold z_pc at this; rw [if_neg (fun q => n4 q.2), if_neg (fun q => n5 q.2)] at this; cases this)]
          simp (disch := ((try simp only [true_or, or_true, hM.k, hM.k2391, hM.k2392, hM.k2393, hM.k2394, hM.k2395, hM.k2396, hM.k2397, hM.k2398, hM.k2399, hM.k2400, hM.k2401, hM.k2402, hM.k2403, hM.k2404, hM.k2405, hM.k2406, hM.k2407, hM.k2408, hM.k2409, hM.k2410, hM.k2411, hM.k2412, hM.k2413, hM.k2414, hM.k2415, hM.k2416, hM.k2417, hM.k2418, hM.k2419, hM.k2420, hM.k2421, hM.k2422, hM.k2423, hM.l2391, hM.l2392, hM.l2393, hM.l2394, hM.l2395, hM.l2396, hM.l2397, hM.l2398, hM.l2399, hM.l2400, hM.l2401, hM.l2402, hM.l2403, hM.l2404, hM.l2405, hM.l2406, hM.l2407, hM.l2408, hM.l2409, hM.l2410, hM.l2411, hM.l2412, hM.l2413, hM.l2414, hM.l2415, hM.l2416, hM.l2417, hM.l2418, hM.l2419, hM.l2420, hM.l2421, hM.l2422, hM.l2423]) <;> (try omega))) only [↓reduceIte, ↓z_ite, ↓zR, ↓zB_R, ↓zB_B, ↓zB_ite, ↓zB_gI, ↓zB_pI, ↓zB_pZ, ↓zB_aK, ↓zB_G, ↓zB_lI, ↓zB_lZ, ↓zB_wI, ↓zB_wZ, ↓zB_lIl, ↓zB_wIl, zB_pI, zB_pZ, zB_lI, zB_lZ, zB_wI, zB_wZ, z_addl, z_ladd, z_mull, z_lmul, nI_add, z_subl, Nat.not_lt_zero, z_10, z_01, z_bitc, z_b0, z_b1, ↓zB_Gb, ↓zB_G0, ↓zB_G1, z_eql, z_leq, z_ltl, z_llt, z_eq, z_lt, z_m1lt, hM.k, hM.k2391, hM.k2392, hM.k2393, hM.k2394, hM.k2395, hM.k2396, hM.k2397, hM.k2398, hM.k2399, hM.k2400, hM.k2401, hM.k2402, hM.k2403, hM.k2404, hM.k2405, hM.k2406, hM.k2407, hM.k2408, hM.k2409, hM.k2410, hM.k2411, hM.k2412, hM.k2413, hM.k2414, hM.k2415, hM.k2416, hM.k2417, hM.k2418, hM.k2419, hM.k2420, hM.k2421, hM.k2422, hM.k2423, hM.l2391, hM.l2392, hM.l2393, hM.l2394, hM.l2395, hM.l2396, hM.l2397, hM.l2398, hM.l2399, hM.l2400, hM.l2401, hM.l2402, hM.l2403, hM.l2404, hM.l2405, hM.l2406, hM.l2407, hM.l2408, hM.l2409, hM.l2410, hM.l2411, hM.l2412, hM.l2413, hM.l2414, hM.l2415, hM.l2416, hM.l2417, hM.l2418, hM.l2419, hM.l2420, hM.l2421, hM.l2422, hM.l2423, ↓hM.g1, ↓hM.g5, ↓hM.g6, ↓hM.g7, ↓hM.g8, ↓hM.g9, ↓hM.g10, ↓hM.g11, ↓hM.g12, ↓hM.g13, ↓hM.g14, ↓hM.g16, ↓hM.g17, ↓hM.g18, ↓hM.g19, ↓hM.g21, ↓hM.g22, ↓hM.g23, ↓hM.g24, ↓hM.g25, ↓hM.g27, ↓hM.g28, ↓hM.g30, ↓hM.g31, ↓hM.g32, ↓hM.g36, ↓hM.g37, ↓hM.g39, ↓hM.g40, ↓hM.g41, ↓hM.g43, ↓hM.g45, ↓hM.g46, x0, ↓zB_c e3, zB_c e3, ↓zB_c e56, zB_c e56, n4]
    · rw [if_neg x0, if_neg (fun q => x0 q.1)]
  by_cases gB : x < 0 ∧ (z_pc A.2.1 k' (nI n)).isSome = true
  · have er : z_rlR A.2.1 k' x (nI n) = -1 := by unfold z_rlR; rw [if_neg gA, if_pos gB]
    rw [er]
    refine m_no hw (by decide) (m' := m2) ?_ h0.1 h0.2.2 fr0
    rw [st2, st3, if_pos gB]; rfl
  rw [if_neg gB] at st3
  -- where it is seen
  have hB := hwf.2.2.2.2.1 k' hk'
  have hT2 := h0.2.1
  have st4 : f280_208 2390 (nI k') x (nI n) (z_hp S m2) = f280_245 2390 (nI k') x (nI n) (nI (z_rls A.2.1 k' x)) (nI (z_rle A.2.1 k' x)) (z_hp S m2) := by
    unfold f280_208 f280_223 z_rls z_rle
    by_cases x0 : x < 0
    · rw [if_pos x0, if_pos x0]
      have e270 := f270_sp (S := S) hM h0.1.2.1 hk'
      simp (disch := ((try simp only [true_or, or_true, hM.k, hM.k2391, hM.k2392, hM.k2393, hM.k2394, hM.k2395, hM.k2396, hM.k2397, hM.k2398, hM.k2399, hM.k2400, hM.k2401, hM.k2402, hM.k2403, hM.k2404, hM.k2405, hM.k2406, hM.k2407, hM.k2408, hM.k2409, hM.k2410, hM.k2411, hM.k2412, hM.k2413, hM.k2414, hM.k2415, hM.k2416, hM.k2417, hM.k2418, hM.k2419, hM.k2420, hM.k2421, hM.k2422, hM.k2423, hM.l2391, hM.l2392, hM.l2393, hM.l2394, hM.l2395, hM.l2396, hM.l2397, hM.l2398, hM.l2399, hM.l2400, hM.l2401, hM.l2402, hM.l2403, hM.l2404, hM.l2405, hM.l2406, hM.l2407, hM.l2408, hM.l2409, hM.l2410, hM.l2411, hM.l2412, hM.l2413, hM.l2414, hM.l2415, hM.l2416, hM.l2417, hM.l2418, hM.l2419, hM.l2420, hM.l2421, hM.l2422, hM.l2423]) <;> (try omega))) only [↓reduceIte, ↓z_ite, ↓zR, ↓zB_R, ↓zB_B, ↓zB_ite, ↓zB_gI, ↓zB_pI, ↓zB_pZ, ↓zB_aK, ↓zB_G, ↓zB_lI, ↓zB_lZ, ↓zB_wI, ↓zB_wZ, ↓zB_lIl, ↓zB_wIl, zB_pI, zB_pZ, zB_lI, zB_lZ, zB_wI, zB_wZ, z_addl, z_ladd, z_mull, z_lmul, nI_add, z_subl, Nat.not_lt_zero, z_10, z_01, z_bitc, z_b0, z_b1, ↓zB_Gb, ↓zB_G0, ↓zB_G1, z_eql, z_leq, z_ltl, z_llt, z_eq, z_lt, z_m1lt, hM.k, hM.k2391, hM.k2392, hM.k2393, hM.k2394, hM.k2395, hM.k2396, hM.k2397, hM.k2398, hM.k2399, hM.k2400, hM.k2401, hM.k2402, hM.k2403, hM.k2404, hM.k2405, hM.k2406, hM.k2407, hM.k2408, hM.k2409, hM.k2410, hM.k2411, hM.k2412, hM.k2413, hM.k2414, hM.k2415, hM.k2416, hM.k2417, hM.k2418, hM.k2419, hM.k2420, hM.k2421, hM.k2422, hM.k2423, hM.l2391, hM.l2392, hM.l2393, hM.l2394, hM.l2395, hM.l2396, hM.l2397, hM.l2398, hM.l2399, hM.l2400, hM.l2401, hM.l2402, hM.l2403, hM.l2404, hM.l2405, hM.l2406, hM.l2407, hM.l2408, hM.l2409, hM.l2410, hM.l2411, hM.l2412, hM.l2413, hM.l2414, hM.l2415, hM.l2416, hM.l2417, hM.l2418, hM.l2419, hM.l2420, hM.l2421, hM.l2422, hM.l2423, ↓hM.g1, ↓hM.g5, ↓hM.g6, ↓hM.g7, ↓hM.g8, ↓hM.g9, ↓hM.g10, ↓hM.g11, ↓hM.g12, ↓hM.g13, ↓hM.g14, ↓hM.g16, ↓hM.g17, ↓hM.g18, ↓hM.g19, ↓hM.g21, ↓hM.g22, ↓hM.g23, ↓hM.g24, ↓hM.g25, ↓hM.g27, ↓hM.g28, ↓hM.g30, ↓hM.g31, ↓hM.g32, ↓hM.g36, ↓hM.g37, ↓hM.g39, ↓hM.g40, ↓hM.g41, ↓hM.g43, ↓hM.g45, ↓hM.g46, x0, ↓zB_c e270, zB_c e270]
      rfl
    · rw [if_neg x0, if_neg x0]
      obtain ⟨i, hi, rfl⟩ : ∃ L, L < (z_bd A.2.1 k').length ∧ x = nI L := by
        rcases hv with ⟨e, _⟩ | ⟨e, _⟩ | h
        · rw [e] at x0; exact absurd (by decide) x0
        · rw [e] at x0; exact absurd (by decide) x0
        · exact h
      rw [nI_clamp (by omega)]
      have k5 := h5.resolve_left x0
      rw [nI_clamp (by omega)] at k5
      have e223 : f223 2390 (nI k') (nI i) 1 (z_hp S m2) = some (nI (z_pt (z_bd A.2.1 k') i 1), z_hp S m2) := f223_sp (S := S) hM hB.1 (by omega) (by omega) hi (fun j _ hj => (hT2 k' hk' hl j hj).1) (j := 1) (by unfold z_p; rw [k5]; simp [z_pn])
      have e269 := f269_sp (S := S) hM (hT2 k' hk' hl) (by omega) (by omega) hi
      have : nI i + nI (z_sz (z_bd A.2.1 k') i) = nI (z_en (z_bd A.2.1 k') i) := nI_add _ _
      simp (disch := ((try simp only [true_or, or_true, hM.k, hM.k2391, hM.k2392, hM.k2393, hM.k2394, hM.k2395, hM.k2396, hM.k2397, hM.k2398, hM.k2399, hM.k2400, hM.k2401, hM.k2402, hM.k2403, hM.k2404, hM.k2405, hM.k2406, hM.k2407, hM.k2408, hM.k2409, hM.k2410, hM.k2411, hM.k2412, hM.k2413, hM.k2414, hM.k2415, hM.k2416, hM.k2417, hM.k2418, hM.k2419, hM.k2420, hM.k2421, hM.k2422, hM.k2423, hM.l2391, hM.l2392, hM.l2393, hM.l2394, hM.l2395, hM.l2396, hM.l2397, hM.l2398, hM.l2399, hM.l2400, hM.l2401, hM.l2402, hM.l2403, hM.l2404, hM.l2405, hM.l2406, hM.l2407, hM.l2408, hM.l2409, hM.l2410, hM.l2411, hM.l2412, hM.l2413, hM.l2414, hM.l2415, hM.l2416, hM.l2417, hM.l2418, hM.l2419, hM.l2420, hM.l2421, hM.l2422, hM.l2423]) <;> (try omega))) only [↓reduceIte, ↓z_ite, ↓zR, ↓zB_R, ↓zB_B, ↓zB_ite, ↓zB_gI, ↓zB_pI, ↓zB_pZ, ↓zB_aK, ↓zB_G, ↓zB_lI, ↓zB_lZ, ↓zB_wI, ↓zB_wZ, ↓zB_lIl, ↓zB_wIl, zB_pI, zB_pZ, zB_lI, zB_lZ, zB_wI, zB_wZ, z_addl, z_ladd, z_mull, z_lmul, nI_add, z_subl, Nat.not_lt_zero, z_10, z_01, z_bitc, z_b0, z_b1, ↓zB_Gb, ↓zB_G0, ↓zB_G1, z_eql, z_leq, z_ltl, z_llt, z_eq, z_lt, z_m1lt, hM.k, hM.k2391, hM.k2392, hM.k2393, hM.k2394, hM.k2395, hM.k2396, hM.k2397, hM.k2398, hM.k2399, hM.k2400, hM.k2401, hM.k2402, hM.k2403, hM.k2404, hM.k2405, hM.k2406, hM.k2407, hM.k2408, hM.k2409, hM.k2410, hM.k2411, hM.k2412, hM.k2413, hM.k2414, hM.k2415, hM.k2416, hM.k2417, hM.k2418, hM.k2419, hM.k2420, hM.k2421, hM.k2422, hM.k2423, hM.l2391, hM.l2392, hM.l2393, hM.l2394, hM.l2395, hM.l2396, hM.l2397, hM.l2398, hM.l2399, hM.l2400, hM.l2401, hM.l2402, hM.l2403, hM.l2404, hM.l2405, hM.l2406, hM.l2407, hM.l2408, hM.l2409, hM.l2410, hM.l2411, hM.l2412, hM.l2413, hM.l2414, hM.l2415, hM.l2416, hM.l2417, hM.l2418, hM.l2419, hM.l2420, hM.l2421, hM.l2422, hM.l2423, ↓hM.g1, ↓hM.g5, ↓hM.g6, ↓hM.g7, ↓hM.g8, ↓hM.g9, ↓hM.g10, ↓hM.g11, ↓hM.g12, ↓hM.g13, ↓hM.g14, ↓hM.g16, ↓hM.g17, ↓hM.g18, ↓hM.g19, ↓hM.g21, ↓hM.g22, ↓hM.g23, ↓hM.g24, ↓hM.g25, ↓hM.g27, ↓hM.g28, ↓hM.g30, ↓hM.g31, ↓hM.g32, ↓hM.g36, ↓hM.g37, ↓hM.g39, ↓hM.g40, ↓hM.g41, ↓hM.g43, ↓hM.g45, ↓hM.g46, x0, ↓zB_c e223, zB_c e223, ↓zB_c e269, zB_c e269, this]
  have hse : z_rls A.2.1 k' x ≤ z_rle A.2.1 k' x := by
    unfold z_rls z_rle
    by_cases x0 : x < 0
    · rw [if_pos x0]; omega
    · rw [if_neg x0, if_neg x0]
      have k5 := h5.resolve_left x0
      obtain ⟨i, hi, rfl⟩ : ∃ L, L < (z_bd A.2.1 k').length ∧ x = nI L := by
        rcases hv with ⟨e, _⟩ | ⟨e, _⟩ | h
        · rw [e] at x0; exact absurd (by decide) x0
        · rw [e] at x0; exact absurd (by decide) x0
        · exact h
      rw [nI_clamp (by omega)] at k5 ⊢
      rw [z_en_eq hi]
      exact z_pt_mono (by unfold z_p; rw [k5]; simp [z_pn])
  have e281 := f281_sp (S := S) (n := n) hM hwf h0.1.2.1 hT2 hk' hl hv hn hse
  have ecap : z_any (fun i => z_rlw A.2.1 k' x i && z_rcap A.2.1 k' x (nI n) i) (z_bd A.2.1 k').length = z_any (fun i => z_rlw A.2.1 k' x i && z_rlc A.2.1 k' x (nI n) i) (z_bd A.2.1 k').length := by
    refine z_any_congr (fun i hi => ?_)
    cases q : z_rlw A.2.1 k' x i with
    | false => rfl
    | true =>
      have hsi : z_rls A.2.1 k' x ≤ i := by
        unfold z_rlw at q
        exact of_decide_eq_true (Bool.and_eq_true_iff.mp q).1
      rw [z_cap_eq hwf hRT (by omega) hk' hl hv h5 gB gy hi hsi]
  rw [ecap] at e281
  by_cases gC : z_any (fun i => z_rlw A.2.1 k' x i && z_rlc A.2.1 k' x (nI n) i) (z_bd A.2.1 k').length = true
  · have er : z_rlR A.2.1 k' x (nI n) = -2 := by unfold z_rlR; rw [if_neg gA, if_neg gB, if_pos gC]
    rw [er]
    rw [gC] at e281
    refine m_no hw (by decide) (m' := m2) ?_ h0.1 h0.2.2 fr0
    rw [st2, st3, st4]
    unfold f280_245
    simp (disch := ((try simp only [true_or, or_true, hM.k, hM.k2391, hM.k2392, hM.k2393, hM.k2394, hM.k2395, hM.k2396, hM.k2397, hM.k2398, hM.k2399, hM.k2400, hM.k2401, hM.k2402, hM.k2403, hM.k2404, hM.k2405, hM.k2406, hM.k2407, hM.k2408, hM.k2409, hM.k2410, hM.k2411, hM.k2412, hM.k2413, hM.k2414, hM.k2415, hM.k2416, hM.k2417, hM.k2418, hM.k2419, hM.k2420, hM.k2421, hM.k2422, hM.k2423, hM.l2391, hM.l2392, hM.l2393, hM.l2394, hM.l2395, hM.l2396, hM.l2397, hM.l2398, hM.l2399, hM.l2400, hM.l2401, hM.l2402, hM.l2403, hM.l2404, hM.l2405, hM.l2406, hM.l2407, hM.l2408, hM.l2409, hM.l2410, hM.l2411, hM.l2412, hM.l2413, hM.l2414, hM.l2415, hM.l2416, hM.l2417, hM.l2418, hM.l2419, hM.l2420, hM.l2421, hM.l2422, hM.l2423]) <;> (try omega))) only [↓reduceIte, ↓z_ite, ↓zR, ↓zB_R, ↓zB_B, ↓zB_ite, ↓zB_gI, ↓zB_pI, ↓zB_pZ, ↓zB_aK, ↓zB_G, ↓zB_lI, ↓zB_lZ, ↓zB_wI, ↓zB_wZ, ↓zB_lIl, ↓zB_wIl, zB_pI, zB_pZ, zB_lI, zB_lZ, zB_wI, zB_wZ, z_addl, z_ladd, z_mull, z_lmul, nI_add, z_subl, Nat.not_lt_zero, z_10, z_01, z_bitc, z_b0, z_b1, ↓zB_Gb, ↓zB_G0, ↓zB_G1, z_eql, z_leq, z_ltl, z_llt, z_eq, z_lt, z_m1lt, hM.k, hM.k2391, hM.k2392, hM.k2393, hM.k2394, hM.k2395, hM.k2396, hM.k2397, hM.k2398, hM.k2399, hM.k2400, hM.k2401, hM.k2402, hM.k2403, hM.k2404, hM.k2405, hM.k2406, hM.k2407, hM.k2408, hM.k2409, hM.k2410, hM.k2411, hM.k2412, hM.k2413, hM.k2414, hM.k2415, hM.k2416, hM.k2417, hM.k2418, hM.k2419, hM.k2420, hM.k2421, hM.k2422, hM.k2423, hM.l2391, hM.l2392, hM.l2393, hM.l2394, hM.l2395, hM.l2396, hM.l2397, hM.l2398, hM.l2399, hM.l2400, hM.l2401, hM.l2402, hM.l2403, hM.l2404, hM.l2405, hM.l2406, hM.l2407, hM.l2408, hM.l2409, hM.l2410, hM.l2411, hM.l2412, hM.l2413, hM.l2414, hM.l2415, hM.l2416, hM.l2417, hM.l2418, hM.l2419, hM.l2420, hM.l2421, hM.l2422, hM.l2423, ↓hM.g1, ↓hM.g5, ↓hM.g6, ↓hM.g7, ↓hM.g8, ↓hM.g9, ↓hM.g10, ↓hM.g11, ↓hM.g12, ↓hM.g13, ↓hM.g14, ↓hM.g16, ↓hM.g17, ↓hM.g18, ↓hM.g19, ↓hM.g21, ↓hM.g22, ↓hM.g23, ↓hM.g24, ↓hM.g25, ↓hM.g27, ↓hM.g28, ↓hM.g30, ↓hM.g31, ↓hM.g32, ↓hM.g36, ↓hM.g37, ↓hM.g39, ↓hM.g40, ↓hM.g41, ↓hM.g43, ↓hM.g45, ↓hM.g46, ↓zB_c e281, zB_c e281, Bool.true_eq_false]
  have gC' : z_any (fun i => z_rlw A.2.1 k' x i && z_rlc A.2.1 k' x (nI n) i) (z_bd A.2.1 k').length = false := by simpa using gC
  rw [gC'] at e281
  obtain ⟨m3, e203, h3, mb3, mz3, mF3, fr3⟩ := f203_w (S := S) hM h0
  obtain ⟨o1, o2⟩ := z_ol_nil (S := S) (m := m3) hM
  have h4 := z_m0_mF o2.mF h3
  obtain ⟨m5, e5l, ol5, eF5⟩ := f280_281_sp (S := S) (n := n) hM hwf h4.1.2.1 h4.2.1 hk' hl hv h5 o1
  have hD : (z_rlD A.2.1 k' x (nI n)).length ≤ 120 := by
    have := z_cat_le (f := z_rlg A.2.1 k' x (nI n)) (c := 2) (z_bd A.2.1 k').length (fun i _ => z_rlg_len A.2.1 k' x (nI n) i)
    unfold z_rlD; omega
  obtain ⟨m6, e6, l1, l2, l3⟩ := f264_sp (S := S) hM (k := k') (by omega) ol5 (by omega)
  have hK : z_wK m3 m6 := (o2.trans eF5).wK.trans (l3.wK (by omega))
  have mb6 := z_mb_lay (m := m5) (z_mb_eF (o2.trans eF5) mb3) (j := k') hk' (by omega) l1 l2 l3
  have st5 : f280 2390 (nI k') x (nI n) (z_hp S m) = (if x < 0 then m_B (m_aK 2390 12) (fun _ => m_B (f197 2390 2 (nI k') (3 - x) (nI n)) (fun _ => f280_447 2390 (nI (z_ct (z_rlb A.2.1 k' x) (z_bd A.2.1 k').length)))) else f280_447 2390 (nI (z_ct (z_rlb A.2.1 k' x) (z_bd A.2.1 k').length))) (z_hp S m6) := by
    rw [st2, st3, st4]
    unfold f280_245
    simp (disch := ((try simp only [true_or, or_true, hM.k, hM.k2391, hM.k2392, hM.k2393, hM.k2394, hM.k2395, hM.k2396, hM.k2397, hM.k2398, hM.k2399, hM.k2400, hM.k2401, hM.k2402, hM.k2403, hM.k2404, hM.k2405, hM.k2406, hM.k2407, hM.k2408, hM.k2409, hM.k2410, hM.k2411, hM.k2412, hM.k2413, hM.k2414, hM.k2415, hM.k2416, hM.k2417, hM.k2418, hM.k2419, hM.k2420, hM.k2421, hM.k2422, hM.k2423, hM.l2391, hM.l2392, hM.l2393, hM.l2394, hM.l2395, hM.l2396, hM.l2397, hM.l2398, hM.l2399, hM.l2400, hM.l2401, hM.l2402, hM.l2403, hM.l2404, hM.l2405, hM.l2406, hM.l2407, hM.l2408, hM.l2409, hM.l2410, hM.l2411, hM.l2412, hM.l2413, hM.l2414, hM.l2415, hM.l2416, hM.l2417, hM.l2418, hM.l2419, hM.l2420, hM.l2421, hM.l2422, hM.l2423]) <;> (try omega))) only [↓reduceIte, ↓z_ite, ↓zR, ↓zB_R, ↓zB_B, ↓zB_ite, ↓zB_gI, ↓zB_pI, ↓zB_pZ, ↓zB_aK, ↓zB_G, ↓zB_lI, ↓zB_lZ, ↓zB_wI, ↓zB_wZ, ↓zB_lIl, ↓zB_wIl, zB_pI, zB_pZ, zB_lI, zB_lZ, zB_wI, zB_wZ, z_addl, z_ladd, z_mull, z_lmul, nI_add, z_subl, Nat.not_lt_zero, z_10, z_01, z_bitc, z_b0, z_b1, ↓zB_Gb, ↓zB_G0, ↓zB_G1, z_eql, z_leq, z_ltl, z_llt, z_eq, z_lt, z_m1lt, hM.k, hM.k2391, hM.k2392, hM.k2393, hM.k2394, hM.k2395, hM.k2396, hM.k2397, hM.k2398, hM.k2399, hM.k2400, hM.k2401, hM.k2402, hM.k2403, hM.k2404, hM.k2405, hM.k2406, hM.k2407, hM.k2408, hM.k2409, hM.k2410, hM.k2411, hM.k2412, hM.k2413, hM.k2414, hM.k2415, hM.k2416, hM.k2417, hM.k2418, hM.k2419, hM.k2420, hM.k2421, hM.k2422, hM.k2423, hM.l2391, hM.l2392, hM.l2393, hM.l2394, hM.l2395, hM.l2396, hM.l2397, hM.l2398, hM.l2399, hM.l2400, hM.l2401, hM.l2402, hM.l2403, hM.l2404, hM.l2405, hM.l2406, hM.l2407, hM.l2408, hM.l2409, hM.l2410, hM.l2411, hM.l2412, hM.l2413, hM.l2414, hM.l2415, hM.l2416, hM.l2417, hM.l2418, hM.l2419, hM.l2420, hM.l2421, hM.l2422, hM.l2423, ↓hM.g1, ↓hM.g5, ↓hM.g6, ↓hM.g7, ↓hM.g8, ↓hM.g9, ↓hM.g10, ↓hM.g11, ↓hM.g12, ↓hM.g13, ↓hM.g14, ↓hM.g16, ↓hM.g17, ↓hM.g18, ↓hM.g19, ↓hM.g21, ↓hM.g22, ↓hM.g23, ↓hM.g24, ↓hM.g25, ↓hM.g27, ↓hM.g28, ↓hM.g30, ↓hM.g31, ↓hM.g32, ↓hM.g36, ↓hM.g37, ↓hM.g39, ↓hM.g40, ↓hM.g41, ↓hM.g43, ↓hM.g45, ↓hM.g46, ↓zB_c e281, zB_c e281, ↓zB_c e203, zB_c e203]
    rw [e5l]
    unfold f280_428
    simp (disch := ((try simp only [true_or, or_true, hM.k, hM.k2391, hM.k2392, hM.k2393, hM.k2394, hM.k2395, hM.k2396, hM.k2397, hM.k2398, hM.k2399, hM.k2400, hM.k2401, hM.k2402, hM.k2403, hM.k2404, hM.k2405, hM.k2406, hM.k2407, hM.k2408, hM.k2409, hM.k2410, hM.k2411, hM.k2412, hM.k2413, hM.k2414, hM.k2415, hM.k2416, hM.k2417, hM.k2418, hM.k2419, hM.k2420, hM.k2421, hM.k2422, hM.k2423, hM.l2391, hM.l2392, hM.l2393, hM.l2394, hM.l2395, hM.l2396, hM.l2397, hM.l2398, hM.l2399, hM.l2400, hM.l2401, hM.l2402, hM.l2403, hM.l2404, hM.l2405, hM.l2406, hM.l2407, hM.l2408, hM.l2409, hM.l2410, hM.l2411, hM.l2412, hM.l2413, hM.l2414, hM.l2415, hM.l2416, hM.l2417, hM.l2418, hM.l2419, hM.l2420, hM.l2421, hM.l2422, hM.l2423]) <;> (try omega))) only [↓reduceIte, ↓z_ite, ↓zR, ↓zB_R, ↓zB_B, ↓zB_ite, ↓zB_gI, ↓zB_pI, ↓zB_pZ, ↓zB_aK, ↓zB_G, ↓zB_lI, ↓zB_lZ, ↓zB_wI, ↓zB_wZ, ↓zB_lIl, ↓zB_wIl, zB_pI, zB_pZ, zB_lI, zB_lZ, zB_wI, zB_wZ, z_addl, z_ladd, z_mull, z_lmul, nI_add, z_subl, Nat.not_lt_zero, z_10, z_01, z_bitc, z_b0, z_b1, ↓zB_Gb, ↓zB_G0, ↓zB_G1, z_eql, z_leq, z_ltl, z_llt, z_eq, z_lt, z_m1lt, hM.k, hM.k2391, hM.k2392, hM.k2393, hM.k2394, hM.k2395, hM.k2396, hM.k2397, hM.k2398, hM.k2399, hM.k2400, hM.k2401, hM.k2402, hM.k2403, hM.k2404, hM.k2405, hM.k2406, hM.k2407, hM.k2408, hM.k2409, hM.k2410, hM.k2411, hM.k2412, hM.k2413, hM.k2414, hM.k2415, hM.k2416, hM.k2417, hM.k2418, hM.k2419, hM.k2420, hM.k2421, hM.k2422, hM.k2423, hM.l2391, hM.l2392, hM.l2393, hM.l2394, hM.l2395, hM.l2396, hM.l2397, hM.l2398, hM.l2399, hM.l2400, hM.l2401, hM.l2402, hM.l2403, hM.l2404, hM.l2405, hM.l2406, hM.l2407, hM.l2408, hM.l2409, hM.l2410, hM.l2411, hM.l2412, hM.l2413, hM.l2414, hM.l2415, hM.l2416, hM.l2417, hM.l2418, hM.l2419, hM.l2420, hM.l2421, hM.l2422, hM.l2423, ↓hM.g1, ↓hM.g5, ↓hM.g6, ↓hM.g7, ↓hM.g8, ↓hM.g9, ↓hM.g10, ↓hM.g11, ↓hM.g12, ↓hM.g13, ↓hM.g14, ↓hM.g16, ↓hM.g17, ↓hM.g18, ↓hM.g19, ↓hM.g21, ↓hM.g22, ↓hM.g23, ↓hM.g24, ↓hM.g25, ↓hM.g27, ↓hM.g28, ↓hM.g30, ↓hM.g31, ↓hM.g32, ↓hM.g36, ↓hM.g37, ↓hM.g39, ↓hM.g40, ↓hM.g41, ↓hM.g43, ↓hM.g45, ↓hM.g46, ↓zB_c e6, zB_c e6]
  have hd : ∃ m7, f280 2390 (nI k') x (nI n) (z_hp S m) = f280_447 2390 (nI (z_ct (z_rlb A.2.1 k' x) (z_bd A.2.1 k').length)) (z_hp S m7) ∧ z_wK m3 m7 ∧ z_mb m7 2 (z_rlQ A.2.1 k' x (nI n)) := by
    rw [st5]
    have par : ∀ w, w < 9 → x < 0 → 3 - x = nI w → z_rlH A.2.1 k' x (nI n) = z_hset (z_hd A.2.1 k') w (nI n) → ∃ m7, (if x < 0 then m_B (m_aK 2390 12) (fun _ => m_B (f197 2390 2 (nI k') (3 - x) (nI n)) (fun _ => f280_447 2390 (nI (z_ct (z_rlb A.2.1 k' x) (z_bd A.2.1 k').length)))) else f280_447 2390 (nI (z_ct (z_rlb A.2.1 k' x) (z_bd A.2.1 k').length))) (z_hp S m6) = f280_447 2390 (nI (z_ct (z_rlb A.2.1 k' x) (z_bd A.2.1 k').length)) (z_hp S m7) ∧ z_wK m3 m7 ∧ z_mb m7 2 (z_rlQ A.2.1 k' x (nI n)) := fun w hw9 x0 ew eH => by
      have e197 := f197_sp (S := S) (m := m6) (B := 2) (b := 2) (k := k') (v := nI n) hM rfl ew (by decide) (by omega) (by omega)
      have hx2 : z_wK m6 (z_hx m6 2 k' w (nI n)) := z_hx_wK (by omega) (by omega)
      refine ⟨z_hx m6 2 k' w (nI n), ?_, hK.trans hx2, ?_⟩
      · simp (disch := ((try simp only [true_or, or_true, hM.k, hM.k2391, hM.k2392, hM.k2393, hM.k2394, hM.k2395, hM.k2396, hM.k2397, hM.k2398, hM.k2399, hM.k2400, hM.k2401, hM.k2402, hM.k2403, hM.k2404, hM.k2405, hM.k2406, hM.k2407, hM.k2408, hM.k2409, hM.k2410, hM.k2411, hM.k2412, hM.k2413, hM.k2414, hM.k2415, hM.k2416, hM.k2417, hM.k2418, hM.k2419, hM.k2420, hM.k2421, hM.k2422, hM.k2423, hM.l2391, hM.l2392, hM.l2393, hM.l2394, hM.l2395, hM.l2396, hM.l2397, hM.l2398, hM.l2399, hM.l2400, hM.l2401, hM.l2402, hM.l2403, hM.l2404, hM.l2405, hM.l2406, hM.l2407, hM.l2408, hM.l2409, hM.l2410, hM.l2411, hM.l2412, hM.l2413, hM.l2414, hM.l2415, hM.l2416, hM.l2417, hM.l2418, hM.l2419, hM.l2420, hM.l2421, hM.l2422, hM.l2423]) <;> (try omega))) only [↓reduceIte, ↓z_ite, ↓zR, ↓zB_R, ↓zB_B, ↓zB_ite, ↓zB_gI, ↓zB_pI, ↓zB_pZ, ↓zB_aK, ↓zB_G, ↓zB_lI, ↓zB_lZ, ↓zB_wI, ↓zB_wZ, ↓zB_lIl, ↓zB_wIl, zB_pI, zB_pZ, zB_lI, zB_lZ, zB_wI, zB_wZ, z_addl, z_ladd, z_mull, z_lmul, nI_add, z_subl, Nat.not_lt_zero, z_10, z_01, z_bitc, z_b0, z_b1, ↓zB_Gb, ↓zB_G0, ↓zB_G1, z_eql, z_leq, z_ltl, z_llt, z_eq, z_lt, z_m1lt, hM.k, hM.k2391, hM.k2392, hM.k2393, hM.k2394, hM.k2395, hM.k2396, hM.k2397, hM.k2398, hM.k2399, hM.k2400, hM.k2401, hM.k2402, hM.k2403, hM.k2404, hM.k2405, hM.k2406, hM.k2407, hM.k2408, hM.k2409, hM.k2410, hM.k2411, hM.k2412, hM.k2413, hM.k2414, hM.k2415, hM.k2416, hM.k2417, hM.k2418, hM.k2419, hM.k2420, hM.k2421, hM.k2422, hM.k2423, hM.l2391, hM.l2392, hM.l2393, hM.l2394, hM.l2395, hM.l2396, hM.l2397, hM.l2398, hM.l2399, hM.l2400, hM.l2401, hM.l2402, hM.l2403, hM.l2404, hM.l2405, hM.l2406, hM.l2407, hM.l2408, hM.l2409, hM.l2410, hM.l2411, hM.l2412, hM.l2413, hM.l2414, hM.l2415, hM.l2416, hM.l2417, hM.l2418, hM.l2419, hM.l2420, hM.l2421, hM.l2422, hM.l2423, ↓hM.g1, ↓hM.g5, ↓hM.g6, ↓hM.g7, ↓hM.g8, ↓hM.g9, ↓hM.g10, ↓hM.g11, ↓hM.g12, ↓hM.g13, ↓hM.g14, ↓hM.g16, ↓hM.g17, ↓hM.g18, ↓hM.g19, ↓hM.g21, ↓hM.g22, ↓hM.g23, ↓hM.g24, ↓hM.g25, ↓hM.g27, ↓hM.g28, ↓hM.g30, ↓hM.g31, ↓hM.g32, ↓hM.g36, ↓hM.g37, ↓hM.g39, ↓hM.g40, ↓hM.g41, ↓hM.g43, ↓hM.g45, ↓hM.g46, x0, ↓zB_c e197, zB_c e197]
      · have := z_mb_hx (v := nI n) mb6 hk' hw9
        rw [z_sM_3] at this
        unfold z_rlQ
        rw [eH]; exact this
    rcases hv with ⟨rfl, _⟩ | ⟨rfl, _⟩ | ⟨i, hi, rfl⟩
    · exact par 4 (by decide) (by decide) (by decide) (if_pos rfl)
    · exact par 5 (by decide) (by decide) (by decide) (by unfold z_rlH; rw [if_neg (by decide), if_pos rfl])
    · have g0 : ¬ nI i < 0 := nI_pos (by omega)
      have g1 : ¬ nI i = -1 := z_nI_m1 (by omega)
      have g2 : ¬ nI i = -2 := z_eqm (k := 2) (by omega) (by decide) (by decide)
      refine ⟨m6, by rw [if_neg g0], hK, ?_⟩
      unfold z_rlQ z_rlH
      rw [if_neg g1, if_neg g2]; exact mb6
  obtain ⟨m7, e7, K7, mb7⟩ := hd
  have h7 := z_m0_wK K7 h3
  have fr7 : ∀ b, b < 2390 ∨ 2424 ≤ b → m7 b = m b := fun b hb => by rw [K7.mF.2.2.2 b hb, fr3 b (by omega)]; exact fr0 b hb
  have hl1 : z_hd (z_rlQ A.2.1 k' x (nI n)) k' 0 = 1 := by
    unfold z_rlQ
    rw [z_sM_hd_s, z_rlH_o (by decide) (by decide)]; simpa [z_liv] using hl
  by_cases gD : 60 < (z_rlD A.2.1 k' x (nI n)).length
  · have er : z_rlR A.2.1 k' x (nI n) = -6 := by unfold z_rlR; rw [if_neg gA, if_neg gB, if_neg gC, if_pos gD]
    have e271 := f271_n (S := S) hM mb7 ⟨k', hk', hl1, by unfold z_rlQ; rw [z_sM_bd_s]; exact gD⟩
    rw [er]
    refine m_no hw (by decide) (m' := m7) ?_ h7.1 h7.2.2 fr7
    rw [e7]
    unfold f280_447 f280_461
    simp (disch := ((try simp only [true_or, or_true, hM.k, hM.k2391, hM.k2392, hM.k2393, hM.k2394, hM.k2395, hM.k2396, hM.k2397, hM.k2398, hM.k2399, hM.k2400, hM.k2401, hM.k2402, hM.k2403, hM.k2404, hM.k2405, hM.k2406, hM.k2407, hM.k2408, hM.k2409, hM.k2410, hM.k2411, hM.k2412, hM.k2413, hM.k2414, hM.k2415, hM.k2416, hM.k2417, hM.k2418, hM.k2419, hM.k2420, hM.k2421, hM.k2422, hM.k2423, hM.l2391, hM.l2392, hM.l2393, hM.l2394, hM.l2395, hM.l2396, hM.l2397, hM.l2398, hM.l2399, hM.l2400, hM.l2401, hM.l2402, hM.l2403, hM.l2404, hM.l2405, hM.l2406, hM.l2407, hM.l2408, hM.l2409, hM.l2410, hM.l2411, hM.l2412, hM.l2413, hM.l2414, hM.l2415, hM.l2416, hM.l2417, hM.l2418, hM.l2419, hM.l2420, hM.l2421, hM.l2422, hM.l2423]) <;> (try omega))) only [↓reduceIte, ↓z_ite, ↓zR, ↓zB_R, ↓zB_B, ↓zB_ite, ↓zB_gI, ↓zB_pI, ↓zB_pZ, ↓zB_aK, ↓zB_G, ↓zB_lI, ↓zB_lZ, ↓zB_wI, ↓zB_wZ, ↓zB_lIl, ↓zB_wIl, zB_pI, zB_pZ, zB_lI, zB_lZ, zB_wI, zB_wZ, z_addl, z_ladd, z_mull, z_lmul, nI_add, z_subl, Nat.not_lt_zero, z_10, z_01, z_bitc, z_b0, z_b1, ↓zB_Gb, ↓zB_G0, ↓zB_G1, z_eql, z_leq, z_ltl, z_llt, z_eq, z_lt, z_m1lt, hM.k, hM.k2391, hM.k2392, hM.k2393, hM.k2394, hM.k2395, hM.k2396, hM.k2397, hM.k2398, hM.k2399, hM.k2400, hM.k2401, hM.k2402, hM.k2403, hM.k2404, hM.k2405, hM.k2406, hM.k2407, hM.k2408, hM.k2409, hM.k2410, hM.k2411, hM.k2412, hM.k2413, hM.k2414, hM.k2415, hM.k2416, hM.k2417, hM.k2418, hM.k2419, hM.k2420, hM.k2421, hM.k2422, hM.k2423, hM.l2391, hM.l2392, hM.l2393, hM.l2394, hM.l2395, hM.l2396, hM.l2397, hM.l2398, hM.l2399, hM.l2400, hM.l2401, hM.l2402, hM.l2403, hM.l2404, hM.l2405, hM.l2406, hM.l2407, hM.l2408, hM.l2409, hM.l2410, hM.l2411, hM.l2412, hM.l2413, hM.l2414, hM.l2415, hM.l2416, hM.l2417, hM.l2418, hM.l2419, hM.l2420, hM.l2421, hM.l2422, hM.l2423, ↓hM.g1, ↓hM.g5, ↓hM.g6, ↓hM.g7, ↓hM.g8, ↓hM.g9, ↓hM.g10, ↓hM.g11, ↓hM.g12, ↓hM.g13, ↓hM.g14, ↓hM.g16, ↓hM.g17, ↓hM.g18, ↓hM.g19, ↓hM.g21, ↓hM.g22, ↓hM.g23, ↓hM.g24, ↓hM.g25, ↓hM.g27, ↓hM.g28, ↓hM.g30, ↓hM.g31, ↓hM.g32, ↓hM.g36, ↓hM.g37, ↓hM.g39, ↓hM.g40, ↓hM.g41, ↓hM.g43, ↓hM.g45, ↓hM.g46, ↓zB_c e271, zB_c e271]
  · have er : z_rlR A.2.1 k' x (nI n) = nI (z_ct (z_rlb A.2.1 k' x) (z_bd A.2.1 k').length) := by unfold z_rlR; rw [if_neg gA, if_neg gB, if_neg gC, if_neg gD]
    obtain ⟨hQ1, hQ2⟩ := z_rlQ_ok hwf h60 hk' hl hv hn h5 gD
    obtain ⟨m8, e271, c1, c2, c3⟩ := f271_y (S := S) (Q := z_rlQ A.2.1 k' x (nI n)) hM hw h7.1 mb7 (K7.mz mz3) rfl (fun q hq _ => hQ2 q hq)
    have rpos : ¬ z_rlR A.2.1 k' x (nI n) < 0 := by
      rw [er]
      have := z_ct_le (s := z_rlb A.2.1 k' x) (z_bd A.2.1 k').length
      exact nI_pos (by omega)
    refine m_yes hw rpos (m' := m8) ?_ c1 (by rw [c3 0 (by decide)]; exact h7.2.2) (fun b hb => by rw [c2 b (by omega) (by omega)]; exact fr7 b hb) hQ1 hQ2 rfl
    rw [e7, er]
    unfold f280_447 f280_461
    simp (disch := ((try simp only [true_or, or_true, hM.k, hM.k2391, hM.k2392, hM.k2393, hM.k2394, hM.k2395, hM.k2396, hM.k2397, hM.k2398, hM.k2399, hM.k2400, hM.k2401, hM.k2402, hM.k2403, hM.k2404, hM.k2405, hM.k2406, hM.k2407, hM.k2408, hM.k2409, hM.k2410, hM.k2411, hM.k2412, hM.k2413, hM.k2414, hM.k2415, hM.k2416, hM.k2417, hM.k2418, hM.k2419, hM.k2420, hM.k2421, hM.k2422, hM.k2423, hM.l2391, hM.l2392, hM.l2393, hM.l2394, hM.l2395, hM.l2396, hM.l2397, hM.l2398, hM.l2399, hM.l2400, hM.l2401, hM.l2402, hM.l2403, hM.l2404, hM.l2405, hM.l2406, hM.l2407, hM.l2408, hM.l2409, hM.l2410, hM.l2411, hM.l2412, hM.l2413, hM.l2414, hM.l2415, hM.l2416, hM.l2417, hM.l2418, hM.l2419, hM.l2420, hM.l2421, hM.l2422, hM.l2423]) <;> (try omega))) only [↓reduceIte, ↓z_ite, ↓zR, ↓zB_R, ↓zB_B, ↓zB_ite, ↓zB_gI, ↓zB_pI, ↓zB_pZ, ↓zB_aK, ↓zB_G, ↓zB_lI, ↓zB_lZ, ↓zB_wI, ↓zB_wZ, ↓zB_lIl, ↓zB_wIl, zB_pI, zB_pZ, zB_lI, zB_lZ, zB_wI, zB_wZ, z_addl, z_ladd, z_mull, z_lmul, nI_add, z_subl, Nat.not_lt_zero, z_10, z_01, z_bitc, z_b0, z_b1, ↓zB_Gb, ↓zB_G0, ↓zB_G1, z_eql, z_leq, z_ltl, z_llt, z_eq, z_lt, z_m1lt, hM.k, hM.k2391, hM.k2392, hM.k2393, hM.k2394, hM.k2395, hM.k2396, hM.k2397, hM.k2398, hM.k2399, hM.k2400, hM.k2401, hM.k2402, hM.k2403, hM.k2404, hM.k2405, hM.k2406, hM.k2407, hM.k2408, hM.k2409, hM.k2410, hM.k2411, hM.k2412, hM.k2413, hM.k2414, hM.k2415, hM.k2416, hM.k2417, hM.k2418, hM.k2419, hM.k2420, hM.k2421, hM.k2422, hM.k2423, hM.l2391, hM.l2392, hM.l2393, hM.l2394, hM.l2395, hM.l2396, hM.l2397, hM.l2398, hM.l2399, hM.l2400, hM.l2401, hM.l2402, hM.l2403, hM.l2404, hM.l2405, hM.l2406, hM.l2407, hM.l2408, hM.l2409, hM.l2410, hM.l2411, hM.l2412, hM.l2413, hM.l2414, hM.l2415, hM.l2416, hM.l2417, hM.l2418, hM.l2419, hM.l2420, hM.l2421, hM.l2422, hM.l2423, ↓hM.g1, ↓hM.g5, ↓hM.g6, ↓hM.g7, ↓hM.g8, ↓hM.g9, ↓hM.g10, ↓hM.g11, ↓hM.g12, ↓hM.g13, ↓hM.g14, ↓hM.g16, ↓hM.g17, ↓hM.g18, ↓hM.g19, ↓hM.g21, ↓hM.g22, ↓hM.g23, ↓hM.g24, ↓hM.g25, ↓hM.g27, ↓hM.g28, ↓hM.g30, ↓hM.g31, ↓hM.g32, ↓hM.g36, ↓hM.g37, ↓hM.g39, ↓hM.g40, ↓hM.g41, ↓hM.g43, ↓hM.g45, ↓hM.g46, ↓zB_c e271, zB_c e271]
end
