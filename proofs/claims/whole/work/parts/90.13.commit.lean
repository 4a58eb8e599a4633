-- deps: 90.06.meth3 90.07.heads 90.09.bits 90.10.begin 90.11.settle 90.12.push
/-! a change is done, or undone: the reference -/
section
variable {S : z_S} {m : z_m} {A : z_A} {Q : z_Pg}
theorem f271_st (hM : z_MS S) (h2 : z_mb m 2 Q) {k : Nat} (hk : k < z_nm Q) (h : ¬ (z_hd Q k 0 = 1 ∧ 60 < (z_bd Q k).length)) : f271_2b 2390 (nI k) (z_hp S m) = some (.inl (2390, nI (k + 1)), z_hp S m) := by
  have h24 := h2.2.2.1
  have hnm : m 2391 28401 = nI (z_nm Q) := h2.2.2.2.2.1
  have e0 := h2.e0 hM (B := 2) rfl hk
  have e9 := h2.e9 hM (B := 2) rfl hk
  have hl := (h2.2.2.2.2.2.2 k hk).2.2.1
  unfold f271_2b f271_40
  by_cases g0 : z_hd Q k 0 = 1
  · have g9 : ¬ 60 < (z_bd Q k).length := fun q => h ⟨g0, q⟩
    simp (disch := ((try simp only [true_or, or_true, hM.k, hM.k2391, hM.k2392, hM.k2393, hM.k2394, hM.k2395, hM.k2396, hM.k2397, hM.k2398, hM.k2399, hM.k2400, hM.k2401, hM.k2402, hM.k2403, hM.k2404, hM.k2405, hM.k2406, hM.k2407, hM.k2408, hM.k2409, hM.k2410, hM.k2411, hM.k2412, hM.k2413, hM.k2414, hM.k2415, hM.k2416, hM.k2417, hM.k2418, hM.k2419, hM.k2420, hM.k2421, hM.k2422, hM.k2423, hM.l2391, hM.l2392, hM.l2393, hM.l2394, hM.l2395, hM.l2396, hM.l2397, hM.l2398, hM.l2399, hM.l2400, hM.l2401, hM.l2402, hM.l2403, hM.l2404, hM.l2405, hM.l2406, hM.l2407, hM.l2408, hM.l2409, hM.l2410, hM.l2411, hM.l2412, hM.l2413, hM.l2414, hM.l2415, hM.l2416, hM.l2417, hM.l2418, hM.l2419, hM.l2420, hM.l2421, hM.l2422, hM.l2423]) <;> (try omega))) only [↓reduceIte, ↓z_ite, ↓zR, ↓zB_R, ↓zB_B, ↓zB_ite, ↓zB_gI, ↓zB_pI, ↓zB_pZ, ↓zB_aK, ↓zB_G, ↓zB_lI, ↓zB_lZ, ↓zB_wI, ↓zB_wZ, ↓zB_lIl, ↓zB_wIl, zB_pI, zB_pZ, zB_lI, zB_lZ, zB_wI, zB_wZ, z_addl, z_ladd, z_mull, z_lmul, nI_add, z_subl, Nat.not_lt_zero, z_10, z_01, z_bitc, z_b0, z_b1, ↓zB_Gb, ↓zB_G0, ↓zB_G1, z_eql, z_leq, z_ltl, z_llt, z_eq, z_lt, z_m1lt, hM.k, hM.k2391, hM.k2392, hM.k2393, hM.k2394, hM.k2395, hM.k2396, hM.k2397, hM.k2398, hM.k2399, hM.k2400, hM.k2401, hM.k2402, hM.k2403, hM.k2404, hM.k2405, hM.k2406, hM.k2407, hM.k2408, hM.k2409, hM.k2410, hM.k2411, hM.k2412, hM.k2413, hM.k2414, hM.k2415, hM.k2416, hM.k2417, hM.k2418, hM.k2419, hM.k2420, hM.k2421, hM.k2422, hM.k2423, hM.l2391, hM.l2392, hM.l2393, hM.l2394, hM.l2395, hM.l2396, hM.l2397, hM.l2398, hM.l2399, hM.l2400, hM.l2401, hM.l2402, hM.l2403, hM.l2404, hM.l2405, hM.l2406, hM.l2407, hM.l2408, hM.l2409, hM.l2410, hM.l2411, hM.l2412, hM.l2413, hM.l2414, hM.l2415, hM.l2416, hM.l2417, hM.l2418, hM.l2419, hM.l2420, hM.l2421, hM.l2422, hM.l2423, ↓hM.g1, ↓hM.g5, ↓hM.g6, ↓hM.g7, ↓hM.g8, ↓hM.g9, ↓hM.g10, ↓hM.g11, ↓hM.g12, ↓hM.g13, ↓hM.g14, ↓hM.g16, ↓hM.g17, ↓hM.g18, ↓hM.g19, ↓hM.g21, ↓hM.g22, ↓hM.g23, ↓hM.g24, ↓hM.g25, ↓hM.g27, ↓hM.g28, ↓hM.g30, ↓hM.g31, ↓hM.g32, ↓hM.g36, ↓hM.g37, ↓hM.g39, ↓hM.g40, ↓hM.g41, ↓hM.g43, ↓hM.g45, ↓hM.g46, hnm, hk, ↓zB_c e0, zB_c e0, g0, ↓zB_c e9, zB_c e9, g9]
  · simp (disch := ((try simp only [true_or, or_true, hM.k, hM.k2391, hM.k2392, hM.k2393, hM.k2394, hM.k2395, hM.k2396, hM.k2397, hM.k2398, hM.k2399, hM.k2400, hM.k2401, hM.k2402, hM.k2403, hM.k2404, hM.k2405, hM.k2406, hM.k2407, hM.k2408, hM.k2409, hM.k2410, hM.k2411, hM.k2412, hM.k2413, hM.k2414, hM.k2415, hM.k2416, hM.k2417, hM.k2418, hM.k2419, hM.k2420, hM.k2421, hM.k2422, hM.k2423, hM.l2391, hM.l2392, hM.l2393, hM.l2394, hM.l2395, hM.l2396, hM.l2397, hM.l2398, hM.l2399, hM.l2400, hM.l2401, hM.l2402, hM.l2403, hM.l2404, hM.l2405, hM.l2406, hM.l2407, hM.l2408, hM.l2409, hM.l2410, hM.l2411, hM.l2412, hM.l2413, hM.l2414, hM.l2415, hM.l2416, hM.l2417, hM.l2418, hM.l2419, hM.l2420, hM.l2421, hM.l2422, hM.l2423]) <;> (try omega))) only [↓reduceIte, ↓z_ite, ↓zR, ↓zB_R, ↓zB_B, ↓zB_ite, ↓zB_gI, ↓zB_pI, ↓zB_pZ, ↓zB_aK, ↓zB_G, ↓zB_lI, ↓zB_lZ, ↓zB_wI, ↓zB_wZ, ↓zB_lIl, ↓zB_wIl, zB_pI, zB_pZ, zB_lI, zB_lZ, zB_wI, zB_wZ, z_addl, z_ladd, z_mull, z_lmul, nI_add, z_subl, Nat.not_lt_zero, z_10, z_01, z_bitc, z_b0, z_b1, ↓zB_Gb, ↓zB_G0, ↓zB_G1, z_eql, z_leq, z_ltl, z_llt, z_eq, z_lt, z_m1lt, hM.k, hM.k2391, hM.k2392, hM.k2393, hM.k2394, hM.k2395, hM.k2396, hM.k2397, hM.k2398, hM.k2399, hM.k2400, hM.k2401, hM.k2402, hM.k2403, hM.k2404, hM.k2405, hM.k2406, hM.k2407, hM.k2408, hM.k2409, hM.k2410, hM.k2411, hM.k2412, hM.k2413, hM.k2414, hM.k2415, hM.k2416, hM.k2417, hM.k2418, hM.k2419, hM.k2420, hM.k2421, hM.k2422, hM.k2423, hM.l2391, hM.l2392, hM.l2393, hM.l2394, hM.l2395, hM.l2396, hM.l2397, hM.l2398, hM.l2399, hM.l2400, hM.l2401, hM.l2402, hM.l2403, hM.l2404, hM.l2405, hM.l2406, hM.l2407, hM.l2408, hM.l2409, hM.l2410, hM.l2411, hM.l2412, hM.l2413, hM.l2414, hM.l2415, hM.l2416, hM.l2417, hM.l2418, hM.l2419, hM.l2420, hM.l2421, hM.l2422, hM.l2423, ↓hM.g1, ↓hM.g5, ↓hM.g6, ↓hM.g7, ↓hM.g8, ↓hM.g9, ↓hM.g10, ↓hM.g11, ↓hM.g12, ↓hM.g13, ↓hM.g14, ↓hM.g16, ↓hM.g17, ↓hM.g18, ↓hM.g19, ↓hM.g21, ↓hM.g22, ↓hM.g23, ↓hM.g24, ↓hM.g25, ↓hM.g27, ↓hM.g28, ↓hM.g30, ↓hM.g31, ↓hM.g32, ↓hM.g36, ↓hM.g37, ↓hM.g39, ↓hM.g40, ↓hM.g41, ↓hM.g43, ↓hM.g45, ↓hM.g46, hnm, hk, ↓zB_c e0, zB_c e0, g0]
/-- commit, where a body is too large -/
theorem f271_n (hM : z_MS S) (h2 : z_mb m 2 Q) (h : ∃ k, k < z_nm Q ∧ z_hd Q k 0 = 1 ∧ 60 < (z_bd Q k).length) : f271 2390 (z_hp S m) = some (0, z_hp S m) := by
  obtain ⟨k, ⟨hk, g0, g9⟩, hmin⟩ := pk_least _ h
  have h24 := h2.2.2.1
  have hnm : m 2391 28401 = nI (z_nm Q) := h2.2.2.2.2.1
  have e0 := h2.e0 hM (B := 2) rfl hk
  have e9 := h2.e9 hM (B := 2) rfl hk
  have hl := (h2.2.2.2.2.2.2 k hk).2.2.1
  unfold f271 f271_2
  refine z_path (fun i => (2390, nI i)) (fun _ => m) k 0 1000000 (by omega) (fun i _ hi => ?_) ?_
  · have hi : i < k := by omega
    exact f271_st hM h2 (by omega) (fun q => hmin i hi ⟨by omega, q⟩)
  · rw [Nat.zero_add]
    dsimp only
    unfold f271_2b f271_38
    simp (disch := ((try simp only [true_or, or_true, hM.k, hM.k2391, hM.k2392, hM.k2393, hM.k2394, hM.k2395, hM.k2396, hM.k2397, hM.k2398, hM.k2399, hM.k2400, hM.k2401, hM.k2402, hM.k2403, hM.k2404, hM.k2405, hM.k2406, hM.k2407, hM.k2408, hM.k2409, hM.k2410, hM.k2411, hM.k2412, hM.k2413, hM.k2414, hM.k2415, hM.k2416, hM.k2417, hM.k2418, hM.k2419, hM.k2420, hM.k2421, hM.k2422, hM.k2423, hM.l2391, hM.l2392, hM.l2393, hM.l2394, hM.l2395, hM.l2396, hM.l2397, hM.l2398, hM.l2399, hM.l2400, hM.l2401, hM.l2402, hM.l2403, hM.l2404, hM.l2405, hM.l2406, hM.l2407, hM.l2408, hM.l2409, hM.l2410, hM.l2411, hM.l2412, hM.l2413, hM.l2414, hM.l2415, hM.l2416, hM.l2417, hM.l2418, hM.l2419, hM.l2420, hM.l2421, hM.l2422, hM.l2423]) <;> (try omega))) only [↓reduceIte, ↓z_ite, ↓zR, ↓zB_R, ↓zB_B, ↓zB_ite, ↓zB_gI, ↓zB_pI, ↓zB_pZ, ↓zB_aK, ↓zB_G, ↓zB_lI, ↓zB_lZ, ↓zB_wI, ↓zB_wZ, ↓zB_lIl, ↓zB_wIl, zB_pI, zB_pZ, zB_lI, zB_lZ, zB_wI, zB_wZ, z_addl, z_ladd, z_mull, z_lmul, nI_add, z_subl, Nat.not_lt_zero, z_10, z_01, z_bitc, z_b0, z_b1, ↓zB_Gb, ↓zB_G0, ↓zB_G1, z_eql, z_leq, z_ltl, z_llt, z_eq, z_lt, z_m1lt, hM.k, hM.k2391, hM.k2392, hM.k2393, hM.k2394, hM.k2395, hM.k2396, hM.k2397, hM.k2398, hM.k2399, hM.k2400, hM.k2401, hM.k2402, hM.k2403, hM.k2404, hM.k2405, hM.k2406, hM.k2407, hM.k2408, hM.k2409, hM.k2410, hM.k2411, hM.k2412, hM.k2413, hM.k2414, hM.k2415, hM.k2416, hM.k2417, hM.k2418, hM.k2419, hM.k2420, hM.k2421, hM.k2422, hM.k2423, hM.l2391, hM.l2392, hM.l2393, hM.l2394, hM.l2395, hM.l2396, hM.l2397, hM.l2398, hM.l2399, hM.l2400, hM.l2401, hM.l2402, hM.l2403, hM.l2404, hM.l2405, hM.l2406, hM.l2407, hM.l2408, hM.l2409, hM.l2410, hM.l2411, hM.l2412, hM.l2413, hM.l2414, hM.l2415, hM.l2416, hM.l2417, hM.l2418, hM.l2419, hM.l2420, hM.l2421, hM.l2422, hM.l2423, ↓hM.g1, ↓hM.g5, ↓hM.g6, ↓hM.g7, ↓hM.g8, ↓hM.g9, ↓hM.g10, ↓hM.g11, ↓hM.g12, ↓hM.g13, ↓hM.g14, ↓hM.g16, ↓hM.g17, ↓hM.g18, ↓hM.g19, ↓hM.g21, ↓hM.g22, ↓hM.g23, ↓hM.g24, ↓hM.g25, ↓hM.g27, ↓hM.g28, ↓hM.g30, ↓hM.g31, ↓hM.g32, ↓hM.g36, ↓hM.g37, ↓hM.g39, ↓hM.g40, ↓hM.g41, ↓hM.g43, ↓hM.g45, ↓hM.g46, hnm, hk, ↓zB_c e0, zB_c e0, g0, ↓zB_c e9, zB_c e9, g9]
theorem f271_46_e (hM : z_MS S) (h2 : z_mb m 2 Q) (h : ∀ k, k < z_nm Q → z_hd Q k 0 = 1 → (z_bd Q k).length ≤ 60) {r : Int32} {m' : z_m} (he : f271_46 2390 (z_hp S m) = some (r, z_hp S m')) : f271 2390 (z_hp S m) = some (r, z_hp S m') := by
  have h24 := h2.2.2.1
  have hnm : m 2391 28401 = nI (z_nm Q) := h2.2.2.2.2.1
  unfold f271 f271_2
  have := z_path (f := fun s => f271_2b s.1 s.2) (S := S) (r := r) (m' := m') (fun i => (2390, nI i)) (fun _ => m) (z_nm Q) 0 1000000 (by omega) (fun i _ hi => f271_st hM h2 (by omega) (fun q => by have := h i (by omega) q.1; omega)) ?_
  · exact this
  · rw [Nat.zero_add]
    dsimp only
    unfold f271_2b
    simp (disch := ((try simp only [true_or, or_true, hM.k, hM.k2391, hM.k2392, hM.k2393, hM.k2394, hM.k2395, hM.k2396, hM.k2397, hM.k2398, hM.k2399, hM.k2400, hM.k2401, hM.k2402, hM.k2403, hM.k2404, hM.k2405, hM.k2406, hM.k2407, hM.k2408, hM.k2409, hM.k2410, hM.k2411, hM.k2412, hM.k2413, hM.k2414, hM.k2415, hM.k2416, hM.k2417, hM.k2418, hM.k2419, hM.k2420, hM.k2421, hM.k2422, hM.k2423, hM.l2391, hM.l2392, hM.l2393, hM.l2394, hM.l2395, hM.l2396, hM.l2397, hM.l2398, hM.l2399, hM.l2400, hM.l2401, hM.l2402, hM.l2403, hM.l2404, hM.l2405, hM.l2406, hM.l2407, hM.l2408, hM.l2409, hM.l2410, hM.l2411, hM.l2412, hM.l2413, hM.l2414, hM.l2415, hM.l2416, hM.l2417, hM.l2418, hM.l2419, hM.l2420, hM.l2421, hM.l2422, hM.l2423]) <;> (try omega))) only [↓reduceIte, ↓z_ite, ↓zR, ↓zB_R, ↓zB_B, ↓zB_ite, ↓zB_gI, ↓zB_pI, ↓zB_pZ, ↓zB_aK, ↓zB_G, ↓zB_lI, ↓zB_lZ, ↓zB_wI, ↓zB_wZ, ↓zB_lIl, ↓zB_wIl, zB_pI, zB_pZ, zB_lI, zB_lZ, zB_wI, zB_wZ, z_addl, z_ladd, z_mull, z_lmul, nI_add, z_subl, Nat.not_lt_zero, z_10, z_01, z_bitc, z_b0, z_b1, ↓zB_Gb, ↓zB_G0, ↓zB_G1, z_eql, z_leq, z_ltl, z_llt, z_eq, z_lt, z_m1lt, hM.k, hM.k2391, hM.k2392, hM.k2393, hM.k2394, hM.k2395, hM.k2396, hM.k2397, hM.k2398, hM.k2399, hM.k2400, hM.k2401, hM.k2402, hM.k2403, hM.k2404, hM.k2405, hM.k2406, hM.k2407, hM.k2408, hM.k2409, hM.k2410, hM.k2411, hM.k2412, hM.k2413, hM.k2414, hM.k2415, hM.k2416, hM.k2417, hM.k2418, hM.k2419, hM.k2420, hM.k2421, hM.k2422, hM.k2423, hM.l2391, hM.l2392, hM.l2393, hM.l2394, hM.l2395, hM.l2396, hM.l2397, hM.l2398, hM.l2399, hM.l2400, hM.l2401, hM.l2402, hM.l2403, hM.l2404, hM.l2405, hM.l2406, hM.l2407, hM.l2408, hM.l2409, hM.l2410, hM.l2411, hM.l2412, hM.l2413, hM.l2414, hM.l2415, hM.l2416, hM.l2417, hM.l2418, hM.l2419, hM.l2420, hM.l2421, hM.l2422, hM.l2423, ↓hM.g1, ↓hM.g5, ↓hM.g6, ↓hM.g7, ↓hM.g8, ↓hM.g9, ↓hM.g10, ↓hM.g11, ↓hM.g12, ↓hM.g13, ↓hM.g14, ↓hM.g16, ↓hM.g17, ↓hM.g18, ↓hM.g19, ↓hM.g21, ↓hM.g22, ↓hM.g23, ↓hM.g24, ↓hM.g25, ↓hM.g27, ↓hM.g28, ↓hM.g30, ↓hM.g31, ↓hM.g32, ↓hM.g36, ↓hM.g37, ↓hM.g39, ↓hM.g40, ↓hM.g41, ↓hM.g43, ↓hM.g45, ↓hM.g46, hnm, Nat.lt_irrefl]
    rw [zB_c he]
    rfl
/-- the older programs move -/
theorem f271_57_e (hM : z_MS S) (hp : m 2390 2 = 10) : ∃ m', f271_57 2390 0 (z_hp S m) = f271_91 2390 (z_hp S m') ∧ (∀ i j, i < 9 → j < 14200 → m' 2391 (14200 * (3 + i) + j) = m 2391 (14200 * (3 + (i + 1)) + j)) ∧ (∀ j, j < 42600 → m' 2391 j = m 2391 j) ∧ (∀ r, r ≠ 2390 → r ≠ 2391 → m' r = m r) ∧ (∀ j, j ≠ 2 → m' 2390 j = m 2390 j) ∧ m' 2390 2 = 9 := by
  have key : ∀ n k, n = 9 - k → k ≤ 9 → ∀ (N : Nat) (m1 : z_m), n < N → (∀ i j, i < 10 → j < 14200 → m1 2391 (14200 * (3 + i) + j) = m 2391 (14200 * (3 + (if i < k then i + 1 else i)) + j)) → (∀ j, j < 42600 → m1 2391 j = m 2391 j) → (∀ r, r ≠ 2391 → m1 r = m r) → ∃ m', m_W (fun s => f271_57b s.1 s.2) N (2390, nI k) (z_hp S m1) = f271_91 2390 (z_hp S m') ∧ (∀ i j, i < 9 → j < 14200 → m' 2391 (14200 * (3 + i) + j) = m 2391 (14200 * (3 + (i + 1)) + j)) ∧ (∀ j, j < 42600 → m' 2391 j = m 2391 j) ∧ (∀ r, r ≠ 2390 → r ≠ 2391 → m' r = m r) ∧ (∀ j, j ≠ 2 → m' 2390 j = m 2390 j) ∧ m' 2390 2 = 9 := by
    intro n
    induction n with
    | zero =>
      intro k h1 h2 N m1 hN g1 g2 g3
      have hk : k = 9 := by omega
      subst hk
      obtain ⟨N, rfl⟩ : ∃ N', N = N' + 1 := ⟨N - 1, by omega⟩
      have hp1 : m1 2390 2 = 10 := by rw [g3 _ (by decide)]; exact hp
      refine ⟨z_up m1 2390 2 9, ?_, fun i j hi hj => ?_, fun j hj => ?_, fun r r1 r2 => ?_, fun j hj => ?_, z_up_s _ _ _ _⟩
      · show m_B (f271_57b 2390 (nI 9)) _ _ = _
        unfold f271_57b f271_81
        simp (disch := ((try simp only [true_or, or_true, hM.k, hM.k2391, hM.k2392, hM.k2393, hM.k2394, hM.k2395, hM.k2396, hM.k2397, hM.k2398, hM.k2399, hM.k2400, hM.k2401, hM.k2402, hM.k2403, hM.k2404, hM.k2405, hM.k2406, hM.k2407, hM.k2408, hM.k2409, hM.k2410, hM.k2411, hM.k2412, hM.k2413, hM.k2414, hM.k2415, hM.k2416, hM.k2417, hM.k2418, hM.k2419, hM.k2420, hM.k2421, hM.k2422, hM.k2423, hM.l2391, hM.l2392, hM.l2393, hM.l2394, hM.l2395, hM.l2396, hM.l2397, hM.l2398, hM.l2399, hM.l2400, hM.l2401, hM.l2402, hM.l2403, hM.l2404, hM.l2405, hM.l2406, hM.l2407, hM.l2408, hM.l2409, hM.l2410, hM.l2411, hM.l2412, hM.l2413, hM.l2414, hM.l2415, hM.l2416, hM.l2417, hM.l2418, hM.l2419, hM.l2420, hM.l2421, hM.l2422, hM.l2423]) <;> (try omega))) only [↓reduceIte, ↓z_ite, ↓zR, ↓zB_R, ↓zB_B, ↓zB_ite, ↓zB_gI, ↓zB_pI, ↓zB_pZ, ↓zB_aK, ↓zB_G, ↓zB_lI, ↓zB_lZ, ↓zB_wI, ↓zB_wZ, ↓zB_lIl, ↓zB_wIl, zB_pI, zB_pZ, zB_lI, zB_lZ, zB_wI, zB_wZ, z_addl, z_ladd, z_mull, z_lmul, nI_add, z_subl, Nat.not_lt_zero, z_10, z_01, z_bitc, z_b0, z_b1, ↓zB_Gb, ↓zB_G0, ↓zB_G1, z_eql, z_leq, z_ltl, z_llt, z_eq, z_lt, z_m1lt, hM.k, hM.k2391, hM.k2392, hM.k2393, hM.k2394, hM.k2395, hM.k2396, hM.k2397, hM.k2398, hM.k2399, hM.k2400, hM.k2401, hM.k2402, hM.k2403, hM.k2404, hM.k2405, hM.k2406, hM.k2407, hM.k2408, hM.k2409, hM.k2410, hM.k2411, hM.k2412, hM.k2413, hM.k2414, hM.k2415, hM.k2416, hM.k2417, hM.k2418, hM.k2419, hM.k2420, hM.k2421, hM.k2422, hM.k2423, hM.l2391, hM.l2392, hM.l2393, hM.l2394, hM.l2395, hM.l2396, hM.l2397, hM.l2398, hM.l2399, hM.l2400, hM.l2401, hM.l2402, hM.l2403, hM.l2404, hM.l2405, hM.l2406, hM.l2407, hM.l2408, hM.l2409, hM.l2410, hM.l2411, hM.l2412, hM.l2413, hM.l2414, hM.l2415, hM.l2416, hM.l2417, hM.l2418, hM.l2419, hM.l2420, hM.l2421, hM.l2422, hM.l2423, ↓hM.g1, ↓hM.g5, ↓hM.g6, ↓hM.g7, ↓hM.g8, ↓hM.g9, ↓hM.g10, ↓hM.g11, ↓hM.g12, ↓hM.g13, ↓hM.g14, ↓hM.g16, ↓hM.g17, ↓hM.g18, ↓hM.g19, ↓hM.g21, ↓hM.g22, ↓hM.g23, ↓hM.g24, ↓hM.g25, ↓hM.g27, ↓hM.g28, ↓hM.g30, ↓hM.g31, ↓hM.g32, ↓hM.g36, ↓hM.g37, ↓hM.g39, ↓hM.g40, ↓hM.g41, ↓hM.g43, ↓hM.g45, ↓hM.g46, hp1, Nat.lt_irrefl, show (10 : Int32) - 1 = 9 from rfl]
        unfold m_B
        cases hq : f271_91 2390 (z_hp S (z_up m1 2390 2 9)) with
        | none => rfl
        | some v => rfl
      · rw [z_up_row (by decide), g1 i j (by omega) hj, if_pos hi]
      · rw [z_up_row (by decide)]; exact g2 j hj
      · rw [z_up_row r1]; exact g3 r r2
      · rw [z_up_b hj, g3 _ (by decide)]
    | succ n ih =>
      intro k h1 h2 N m1 hN g1 g2 g3
      obtain ⟨N, rfl⟩ : ∃ N', N = N' + 1 := ⟨N - 1, by omega⟩
      have hk9 : k < 9 := by omega
      obtain ⟨m2, e, c1, c2, c3⟩ := f203_sp (S := S) (m := m1) (a := 3 + k + 1) (b := 3 + k) (Ba := nI (3 + k + 1)) (Bb := nI (3 + k)) hM rfl rfl (by omega) (by omega) (by omega)
      obtain ⟨m', e2, r⟩ := ih (k + 1) (by omega) (by omega) N m2 (by omega) (fun i j hi hj => by
        by_cases g : i = k
        · rw [g, c1 j hj, if_pos (by omega)]
          have := g1 (k + 1) j (by omega) hj
          rw [if_neg (by omega)] at this
          rw [show 3 + k + 1 = 3 + (k + 1) by omega]; exact this
        · rw [c2 _ (by omega), g1 i j hi hj]
          by_cases g4 : i < k
          · rw [if_pos g4, if_pos (by omega)]
          · rw [if_neg g4, if_neg (by omega)]) (fun j hj => by rw [c2 _ (by omega)]; exact g2 j hj) (fun r hr => by rw [c3 r hr]; exact g3 r hr)
      refine ⟨m', ?_, r⟩
      rw [← e2]
      show m_B (f271_57b 2390 (nI k)) _ _ = _
      have e3 : f271_57b 2390 (nI k) (z_hp S m1) = some (.inl (2390, nI (k + 1)), z_hp S m2) := by
        unfold f271_57b
        simp (disch := ((try simp only [true_or, or_true, hM.k, hM.k2391, hM.k2392, hM.k2393, hM.k2394, hM.k2395, hM.k2396, hM.k2397, hM.k2398, hM.k2399, hM.k2400, hM.k2401, hM.k2402, hM.k2403, hM.k2404, hM.k2405, hM.k2406, hM.k2407, hM.k2408, hM.k2409, hM.k2410, hM.k2411, hM.k2412, hM.k2413, hM.k2414, hM.k2415, hM.k2416, hM.k2417, hM.k2418, hM.k2419, hM.k2420, hM.k2421, hM.k2422, hM.k2423, hM.l2391, hM.l2392, hM.l2393, hM.l2394, hM.l2395, hM.l2396, hM.l2397, hM.l2398, hM.l2399, hM.l2400, hM.l2401, hM.l2402, hM.l2403, hM.l2404, hM.l2405, hM.l2406, hM.l2407, hM.l2408, hM.l2409, hM.l2410, hM.l2411, hM.l2412, hM.l2413, hM.l2414, hM.l2415, hM.l2416, hM.l2417, hM.l2418, hM.l2419, hM.l2420, hM.l2421, hM.l2422, hM.l2423]) <;> (try omega))) only [↓reduceIte, ↓z_ite, ↓zR, ↓zB_R, ↓zB_B, ↓zB_ite, ↓zB_gI, ↓zB_pI, ↓zB_pZ, ↓zB_aK, ↓zB_G, ↓zB_lI, ↓zB_lZ, ↓zB_wI, ↓zB_wZ, ↓zB_lIl, ↓zB_wIl, zB_pI, zB_pZ, zB_lI, zB_lZ, zB_wI, zB_wZ, z_addl, z_ladd, z_mull, z_lmul, nI_add, z_subl, Nat.not_lt_zero, z_10, z_01, z_bitc, z_b0, z_b1, ↓zB_Gb, ↓zB_G0, ↓zB_G1, z_eql, z_leq, z_ltl, z_llt, z_eq, z_lt, z_m1lt, hM.k, hM.k2391, hM.k2392, hM.k2393, hM.k2394, hM.k2395, hM.k2396, hM.k2397, hM.k2398, hM.k2399, hM.k2400, hM.k2401, hM.k2402, hM.k2403, hM.k2404, hM.k2405, hM.k2406, hM.k2407, hM.k2408, hM.k2409, hM.k2410, hM.k2411, hM.k2412, hM.k2413, hM.k2414, hM.k2415, hM.k2416, hM.k2417, hM.k2418, hM.k2419, hM.k2420, hM.k2421, hM.k2422, hM.k2423, hM.l2391, hM.l2392, hM.l2393, hM.l2394, hM.l2395, hM.l2396, hM.l2397, hM.l2398, hM.l2399, hM.l2400, hM.l2401, hM.l2402, hM.l2403, hM.l2404, hM.l2405, hM.l2406, hM.l2407, hM.l2408, hM.l2409, hM.l2410, hM.l2411, hM.l2412, hM.l2413, hM.l2414, hM.l2415, hM.l2416, hM.l2417, hM.l2418, hM.l2419, hM.l2420, hM.l2421, hM.l2422, hM.l2423, ↓hM.g1, ↓hM.g5, ↓hM.g6, ↓hM.g7, ↓hM.g8, ↓hM.g9, ↓hM.g10, ↓hM.g11, ↓hM.g12, ↓hM.g13, ↓hM.g14, ↓hM.g16, ↓hM.g17, ↓hM.g18, ↓hM.g19, ↓hM.g21, ↓hM.g22, ↓hM.g23, ↓hM.g24, ↓hM.g25, ↓hM.g27, ↓hM.g28, ↓hM.g30, ↓hM.g31, ↓hM.g32, ↓hM.g36, ↓hM.g37, ↓hM.g39, ↓hM.g40, ↓hM.g41, ↓hM.g43, ↓hM.g45, ↓hM.g46, hk9, ↓zB_c e, zB_c e]
      rw [zB_c e3]
  exact key 9 0 rfl (by decide) 1000000 m (by decide) (fun i j _ _ => by rw [if_neg (by omega)]) (fun _ _ => rfl) (fun _ _ => rfl)
theorem f271_91_e (hM : z_MS S) (h : z_MR m A) (h2 : z_mb m 2 Q) (hz : z_mz m 2 (z_nc Q)) (hnc : z_nc Q = z_nc A.2.1) (h10 : A.2.2.2.1.length < 10) : ∃ m', f271_91 2390 (z_hp S m) = some (1, z_hp S m') ∧ z_MR m' (A.1, Q, A.2.2.1, A.2.2.2.1 ++ [A.2.1], A.2.2.2.2) ∧ (∀ r, r ≠ 2390 → r ≠ 2391 → m' r = m r) ∧ ∀ j, j ≠ 2 → m' 2390 j = m 2390 j := by
  obtain ⟨a1, a2, a3, a4, a5, a6, a7, a8, a9⟩ := h
  obtain ⟨m2, e, c1, c2, c3⟩ := f203_sp (S := S) (m := m) (a := 0) (b := 3 + A.2.2.2.1.length) (Ba := 0) (Bb := nI (3 + A.2.2.2.1.length)) hM rfl rfl (by decide) (by omega) (by omega)
  have p2 : m2 2390 2 = nI A.2.2.2.1.length := by rw [c3 _ (by decide)]; exact a4
  obtain ⟨m3, e3, d1, d2, d3⟩ := f203_sp (S := S) (m := z_up m2 2390 2 (nI (A.2.2.2.1.length + 1))) (a := 2) (b := 0) (Ba := 2) (Bb := 0) hM rfl rfl (by decide) (by decide) (by decide)
  have u : z_up m2 2390 2 (nI (A.2.2.2.1.length + 1)) 2391 = m2 2391 := z_up_row (by decide)
  have bk : ∀ b P, b ≠ 3 + A.2.2.2.1.length → z_mb m b P → z_mb (z_up m2 2390 2 (nI (A.2.2.2.1.length + 1))) b P := fun b P hb h => z_mb_fr u (z_mb_st hb c2 h)
  have zk : ∀ b nc, b ≠ 3 + A.2.2.2.1.length → z_mz m b nc → z_mz (z_up m2 2390 2 (nI (A.2.2.2.1.length + 1))) b nc := fun b P hb h => z_mz_fr u (z_mz_st hb c2 h)
  have f1 : ∀ r, r ≠ 2390 → r ≠ 2391 → m3 r = m r := fun r r1 r2 => by rw [d3 r r2, z_up_row r1, c3 r r2]
  have f2 : ∀ j, j ≠ 2 → m3 2390 j = m 2390 j := fun j hj => by rw [d3 _ (by decide), z_up_b hj, c3 _ (by decide)]
  refine ⟨m3, ?_, ⟨z_mT_fr (f2 4 (by decide)) (fun a x1 x2 => f1 a (by omega) (by omega)) a1, z_mb_cp (by decide) d1 (bk 2 Q (by omega) h2), ?_, ?_, fun i hi => ?_, by rw [f2 35 (by decide)]; exact a6, by rw [f2 33 (by decide)]; exact a7, z_mz_cp d1 (zk 2 _ (by omega) hz), fun i hi => ?_⟩, f1, f2⟩
  · unfold f271_91
    simp (disch := ((try simp only [true_or, or_true, hM.k, hM.k2391, hM.k2392, hM.k2393, hM.k2394, hM.k2395, hM.k2396, hM.k2397, hM.k2398, hM.k2399, hM.k2400, hM.k2401, hM.k2402, hM.k2403, hM.k2404, hM.k2405, hM.k2406, hM.k2407, hM.k2408, hM.k2409, hM.k2410, hM.k2411, hM.k2412, hM.k2413, hM.k2414, hM.k2415, hM.k2416, hM.k2417, hM.k2418, hM.k2419, hM.k2420, hM.k2421, hM.k2422, hM.k2423, hM.l2391, hM.l2392, hM.l2393, hM.l2394, hM.l2395, hM.l2396, hM.l2397, hM.l2398, hM.l2399, hM.l2400, hM.l2401, hM.l2402, hM.l2403, hM.l2404, hM.l2405, hM.l2406, hM.l2407, hM.l2408, hM.l2409, hM.l2410, hM.l2411, hM.l2412, hM.l2413, hM.l2414, hM.l2415, hM.l2416, hM.l2417, hM.l2418, hM.l2419, hM.l2420, hM.l2421, hM.l2422, hM.l2423]) <;> (try omega))) only [↓reduceIte, ↓z_ite, ↓zR, ↓zB_R, ↓zB_B, ↓zB_ite, ↓zB_gI, ↓zB_pI, ↓zB_pZ, ↓zB_aK, ↓zB_G, ↓zB_lI, ↓zB_lZ, ↓zB_wI, ↓zB_wZ, ↓zB_lIl, ↓zB_wIl, zB_pI, zB_pZ, zB_lI, zB_lZ, zB_wI, zB_wZ, z_addl, z_ladd, z_mull, z_lmul, nI_add, z_subl, Nat.not_lt_zero, z_10, z_01, z_bitc, z_b0, z_b1, ↓zB_Gb, ↓zB_G0, ↓zB_G1, z_eql, z_leq, z_ltl, z_llt, z_eq, z_lt, z_m1lt, hM.k, hM.k2391, hM.k2392, hM.k2393, hM.k2394, hM.k2395, hM.k2396, hM.k2397, hM.k2398, hM.k2399, hM.k2400, hM.k2401, hM.k2402, hM.k2403, hM.k2404, hM.k2405, hM.k2406, hM.k2407, hM.k2408, hM.k2409, hM.k2410, hM.k2411, hM.k2412, hM.k2413, hM.k2414, hM.k2415, hM.k2416, hM.k2417, hM.k2418, hM.k2419, hM.k2420, hM.k2421, hM.k2422, hM.k2423, hM.l2391, hM.l2392, hM.l2393, hM.l2394, hM.l2395, hM.l2396, hM.l2397, hM.l2398, hM.l2399, hM.l2400, hM.l2401, hM.l2402, hM.l2403, hM.l2404, hM.l2405, hM.l2406, hM.l2407, hM.l2408, hM.l2409, hM.l2410, hM.l2411, hM.l2412, hM.l2413, hM.l2414, hM.l2415, hM.l2416, hM.l2417, hM.l2418, hM.l2419, hM.l2420, hM.l2421, hM.l2422, hM.l2423, ↓hM.g1, ↓hM.g5, ↓hM.g6, ↓hM.g7, ↓hM.g8, ↓hM.g9, ↓hM.g10, ↓hM.g11, ↓hM.g12, ↓hM.g13, ↓hM.g14, ↓hM.g16, ↓hM.g17, ↓hM.g18, ↓hM.g19, ↓hM.g21, ↓hM.g22, ↓hM.g23, ↓hM.g24, ↓hM.g25, ↓hM.g27, ↓hM.g28, ↓hM.g30, ↓hM.g31, ↓hM.g32, ↓hM.g36, ↓hM.g37, ↓hM.g39, ↓hM.g40, ↓hM.g41, ↓hM.g43, ↓hM.g45, ↓hM.g46, a4, ↓zB_c e, zB_c e, p2, ↓zB_c e3, zB_c e3]
  · show (match A.2.2.1 with | none => m3 2390 3 = 0 | some Bg => m3 2390 3 = 1 ∧ z_mb m3 1 Bg)
    rw [f2 3 (by decide)]
    cases hb : A.2.2.1 with
    | none => rw [hb] at a3; exact a3
    | some Bg => rw [hb] at a3; exact ⟨a3.1, z_mb_st (by decide) d2 (bk 1 Bg (by omega) a3.2)⟩
  · show m3 2390 2 = nI (A.2.2.2.1 ++ [A.2.1]).length
    rw [d3 _ (by decide), z_up_s, List.length_append]; rfl
  · have hi : i < (A.2.2.2.1 ++ [A.2.1]).length := hi
    rw [List.length_append] at hi
    have hi : i < A.2.2.2.1.length + 1 := hi
    show z_mb m3 (3 + i) (z_pat (A.2.2.2.1 ++ [A.2.1]) i)
    rw [z_pat_app]
    refine z_mb_st (c := 0) (by omega) d2 ?_
    by_cases g : i = A.2.2.2.1.length
    · rw [if_neg (by omega), if_pos g, g]
      exact z_mb_fr u (z_mb_cp (by omega) c1 a2)
    · rw [if_pos (by omega)]
      exact bk _ _ (by omega) (a5 i (by omega))
  · have hi : i < (A.2.2.2.1 ++ [A.2.1]).length := hi
    rw [List.length_append] at hi
    have hi : i < A.2.2.2.1.length + 1 := hi
    show z_mz m3 (3 + i) (z_nc Q)
    refine z_mz_st (c := 0) (by omega) d2 ?_
    by_cases g : i = A.2.2.2.1.length
    · rw [g, hnc]
      exact z_mz_fr u (z_mz_cp c1 a8)
    · rw [hnc]
      exact zk _ _ (by omega) (a9 i (by omega))
/-- commit -/
theorem f271_y (hM : z_MS S) (hw : z_WA A) (h : z_MR m A) (h2 : z_mb m 2 Q) (hz : z_mz m 2 (z_nc Q)) (hnc : z_nc Q = z_nc A.2.1) (h60 : ∀ k, k < z_nm Q → z_hd Q k 0 = 1 → (z_bd Q k).length ≤ 60) : ∃ m', f271 2390 (z_hp S m) = some (1, z_hp S m') ∧ z_MR m' (z_push A Q) ∧ (∀ r, r ≠ 2390 → r ≠ 2391 → m' r = m r) ∧ ∀ j, j ≠ 2 → m' 2390 j = m 2390 j := by
  have hle := hw.2.2.2.1
  by_cases g : A.2.2.2.1.length = 10
  · have hp1 : z_pop A = (A.1, A.2.1, A.2.2.1, A.2.2.2.1.drop 1, A.2.2.2.2) := if_pos g
    have hp10 : m 2390 2 = 10 := by rw [h.2.2.2.1, g]; rfl
    obtain ⟨m1, e, s1, s2, s3, s4, s5⟩ := f271_57_e hM hp10
    have lo : ∀ b, b < 3 → ∀ j, j < 14200 → m1 2391 (14200 * b + j) = m 2391 (14200 * b + j) := fun b hb j hj => s2 _ (by omega)
    obtain ⟨a1, a2, a3, a4, a5, a6, a7, a8, a9⟩ := h
    have h1 : z_MR m1 (z_pop A) := by
      rw [hp1]
      refine ⟨z_mT_fr (s4 4 (by decide)) (fun a x1 x2 => s3 a (by omega) (by omega)) a1, z_mb_cp (by decide) (lo 0 (by decide)) a2, ?_, ?_, fun i hi => ?_, by rw [s4 35 (by decide)]; exact a6, by rw [s4 33 (by decide)]; exact a7, z_mz_cp (lo 0 (by decide)) a8, fun i hi => ?_⟩
      · show (match A.2.2.1 with | none => m1 2390 3 = 0 | some Bg => m1 2390 3 = 1 ∧ z_mb m1 1 Bg)
        rw [s4 3 (by decide)]
        cases hb : A.2.2.1 with
        | none => rw [hb] at a3; exact a3
        | some Bg => rw [hb] at a3; exact ⟨a3.1, z_mb_cp (by decide) (lo 1 (by decide)) a3.2⟩
      · show m1 2390 2 = nI (A.2.2.2.1.drop 1).length
        rw [s5, List.length_drop, g]; rfl
      · have hi : i < (A.2.2.2.1.drop 1).length := hi
        rw [List.length_drop] at hi
        show z_mb m1 (3 + i) (z_pat (A.2.2.2.1.drop 1) i)
        rw [z_pat_drop]
        exact z_mb_cp (by omega) (fun j hj => s1 i j (by omega) hj) (a5 (i + 1) (by omega))
      · have hi : i < (A.2.2.2.1.drop 1).length := hi
        rw [List.length_drop] at hi
        exact z_mz_cp (fun j hj => s1 i j (by omega) hj) (a9 (i + 1) (by omega))
    have h21 : z_mb m1 2 Q := z_mb_cp (by decide) (lo 2 (by decide)) h2
    have hz1 : z_mz m1 2 (z_nc Q) := z_mz_cp (lo 2 (by decide)) hz
    obtain ⟨r1, r2, r3, r4⟩ := z_pop_1 (A := A)
    obtain ⟨m2, e2, t1, t2, t3⟩ := f271_91_e hM h1 h21 hz1 (by rw [r2]; exact hnc) (z_pop_len hw).1
    rw [r1, r3, r4, r2] at t1
    refine ⟨m2, f271_46_e hM h2 h60 ?_, t1, fun r q1 q2 => by rw [t2 r q1 q2, s3 r q1 q2], fun j hj => by rw [t3 j hj, s4 j hj]⟩
    unfold f271_46
    simp (disch := ((try simp only [true_or, or_true, hM.k, hM.k2391, hM.k2392, hM.k2393, hM.k2394, hM.k2395, hM.k2396, hM.k2397, hM.k2398, hM.k2399, hM.k2400, hM.k2401, hM.k2402, hM.k2403, hM.k2404, hM.k2405, hM.k2406, hM.k2407, hM.k2408, hM.k2409, hM.k2410, hM.k2411, hM.k2412, hM.k2413, hM.k2414, hM.k2415, hM.k2416, hM.k2417, hM.k2418, hM.k2419, hM.k2420, hM.k2421, hM.k2422, hM.k2423, hM.l2391, hM.l2392, hM.l2393, hM.l2394, hM.l2395, hM.l2396, hM.l2397, hM.l2398, hM.l2399, hM.l2400, hM.l2401, hM.l2402, hM.l2403, hM.l2404, hM.l2405, hM.l2406, hM.l2407, hM.l2408, hM.l2409, hM.l2410, hM.l2411, hM.l2412, hM.l2413, hM.l2414, hM.l2415, hM.l2416, hM.l2417, hM.l2418, hM.l2419, hM.l2420, hM.l2421, hM.l2422, hM.l2423]) <;> (try omega))) only [↓reduceIte, ↓z_ite, ↓zR, ↓zB_R, ↓zB_B, ↓zB_ite, ↓zB_gI, ↓zB_pI, ↓zB_pZ, ↓zB_aK, ↓zB_G, ↓zB_lI, ↓zB_lZ, ↓zB_wI, ↓zB_wZ, ↓zB_lIl, ↓zB_wIl, zB_pI, zB_pZ, zB_lI, zB_lZ, zB_wI, zB_wZ, z_addl, z_ladd, z_mull, z_lmul, nI_add, z_subl, Nat.not_lt_zero, z_10, z_01, z_bitc, z_b0, z_b1, ↓zB_Gb, ↓zB_G0, ↓zB_G1, z_eql, z_leq, z_ltl, z_llt, z_eq, z_lt, z_m1lt, hM.k, hM.k2391, hM.k2392, hM.k2393, hM.k2394, hM.k2395, hM.k2396, hM.k2397, hM.k2398, hM.k2399, hM.k2400, hM.k2401, hM.k2402, hM.k2403, hM.k2404, hM.k2405, hM.k2406, hM.k2407, hM.k2408, hM.k2409, hM.k2410, hM.k2411, hM.k2412, hM.k2413, hM.k2414, hM.k2415, hM.k2416, hM.k2417, hM.k2418, hM.k2419, hM.k2420, hM.k2421, hM.k2422, hM.k2423, hM.l2391, hM.l2392, hM.l2393, hM.l2394, hM.l2395, hM.l2396, hM.l2397, hM.l2398, hM.l2399, hM.l2400, hM.l2401, hM.l2402, hM.l2403, hM.l2404, hM.l2405, hM.l2406, hM.l2407, hM.l2408, hM.l2409, hM.l2410, hM.l2411, hM.l2412, hM.l2413, hM.l2414, hM.l2415, hM.l2416, hM.l2417, hM.l2418, hM.l2419, hM.l2420, hM.l2421, hM.l2422, hM.l2423, ↓hM.g1, ↓hM.g5, ↓hM.g6, ↓hM.g7, ↓hM.g8, ↓hM.g9, ↓hM.g10, ↓hM.g11, ↓hM.g12, ↓hM.g13, ↓hM.g14, ↓hM.g16, ↓hM.g17, ↓hM.g18, ↓hM.g19, ↓hM.g21, ↓hM.g22, ↓hM.g23, ↓hM.g24, ↓hM.g25, ↓hM.g27, ↓hM.g28, ↓hM.g30, ↓hM.g31, ↓hM.g32, ↓hM.g36, ↓hM.g37, ↓hM.g39, ↓hM.g40, ↓hM.g41, ↓hM.g43, ↓hM.g45, ↓hM.g46, hp10]
    rw [e]; exact e2
  · have hlt : A.2.2.2.1.length < 10 := by omega
    obtain ⟨m2, e2, t1, t2, t3⟩ := f271_91_e hM h h2 hz hnc hlt
    have hq : z_push A Q = (A.1, Q, A.2.2.1, A.2.2.2.1 ++ [A.2.1], A.2.2.2.2) := by
      unfold z_push; rw [(z_pop_len hw).2 hlt]
    rw [hq]
    refine ⟨m2, f271_46_e hM h2 h60 ?_, t1, t2, t3⟩
    have hp := h.2.2.2.1
    unfold f271_46
    simp (disch := ((try simp only [true_or, or_true, hM.k, hM.k2391, hM.k2392, hM.k2393, hM.k2394, hM.k2395, hM.k2396, hM.k2397, hM.k2398, hM.k2399, hM.k2400, hM.k2401, hM.k2402, hM.k2403, hM.k2404, hM.k2405, hM.k2406, hM.k2407, hM.k2408, hM.k2409, hM.k2410, hM.k2411, hM.k2412, hM.k2413, hM.k2414, hM.k2415, hM.k2416, hM.k2417, hM.k2418, hM.k2419, hM.k2420, hM.k2421, hM.k2422, hM.k2423, hM.l2391, hM.l2392, hM.l2393, hM.l2394, hM.l2395, hM.l2396, hM.l2397, hM.l2398, hM.l2399, hM.l2400, hM.l2401, hM.l2402, hM.l2403, hM.l2404, hM.l2405, hM.l2406, hM.l2407, hM.l2408, hM.l2409, hM.l2410, hM.l2411, hM.l2412, hM.l2413, hM.l2414, hM.l2415, hM.l2416, hM.l2417, hM.l2418, hM.l2419, hM.l2420, hM.l2421, hM.l2422, hM.l2423]) <;> (try omega))) only [↓reduceIte, ↓z_ite, ↓zR, ↓zB_R, ↓zB_B, ↓zB_ite, ↓zB_gI, ↓zB_pI, ↓zB_pZ, ↓zB_aK, ↓zB_G, ↓zB_lI, ↓zB_lZ, ↓zB_wI, ↓zB_wZ, ↓zB_lIl, ↓zB_wIl, zB_pI, zB_pZ, zB_lI, zB_lZ, zB_wI, zB_wZ, z_addl, z_ladd, z_mull, z_lmul, nI_add, z_subl, Nat.not_lt_zero, z_10, z_01, z_bitc, z_b0, z_b1, ↓zB_Gb, ↓zB_G0, ↓zB_G1, z_eql, z_leq, z_ltl, z_llt, z_eq, z_lt, z_m1lt, hM.k, hM.k2391, hM.k2392, hM.k2393, hM.k2394, hM.k2395, hM.k2396, hM.k2397, hM.k2398, hM.k2399, hM.k2400, hM.k2401, hM.k2402, hM.k2403, hM.k2404, hM.k2405, hM.k2406, hM.k2407, hM.k2408, hM.k2409, hM.k2410, hM.k2411, hM.k2412, hM.k2413, hM.k2414, hM.k2415, hM.k2416, hM.k2417, hM.k2418, hM.k2419, hM.k2420, hM.k2421, hM.k2422, hM.k2423, hM.l2391, hM.l2392, hM.l2393, hM.l2394, hM.l2395, hM.l2396, hM.l2397, hM.l2398, hM.l2399, hM.l2400, hM.l2401, hM.l2402, hM.l2403, hM.l2404, hM.l2405, hM.l2406, hM.l2407, hM.l2408, hM.l2409, hM.l2410, hM.l2411, hM.l2412, hM.l2413, hM.l2414, hM.l2415, hM.l2416, hM.l2417, hM.l2418, hM.l2419, hM.l2420, hM.l2421, hM.l2422, hM.l2423, ↓hM.g1, ↓hM.g5, ↓hM.g6, ↓hM.g7, ↓hM.g8, ↓hM.g9, ↓hM.g10, ↓hM.g11, ↓hM.g12, ↓hM.g13, ↓hM.g14, ↓hM.g16, ↓hM.g17, ↓hM.g18, ↓hM.g19, ↓hM.g21, ↓hM.g22, ↓hM.g23, ↓hM.g24, ↓hM.g25, ↓hM.g27, ↓hM.g28, ↓hM.g30, ↓hM.g31, ↓hM.g32, ↓hM.g36, ↓hM.g37, ↓hM.g39, ↓hM.g40, ↓hM.g41, ↓hM.g43, ↓hM.g45, ↓hM.g46, hp, g]
    exact e2
/-- undo, by the reference -/
theorem m_undo (hM : z_MS S) (hw : z_WA A) (h : z_MR m A) : (∃ v m1, f308 2390 (z_hp S m) = some (v, z_hp S m1) ∧ z_MR m1 (z_oundo A).2 ∧ (∀ b, b < 2390 ∨ 2424 ≤ b → m1 b = m b) ∧ z_ans z_cd1 (z_oundo A).1 v (m1 2390 0)) ∧ z_WA (z_oundo A).2 := by
  have hle := hw.2.2.2.1
  have i0 := f178_0 (m := m) hM
  have i1 := f178_1 (m := m) hM
  have hp := h.2.2.2.1
  unfold z_oundo
  by_cases g : A.2.2.2.1.length = 0
  · rw [if_pos g]
    refine z_m_ref hw h (E := 0) (cd := z_cd1) ⟨0, ?_⟩
    unfold f308 f308_13
    simp (disch := ((try simp only [true_or, or_true, hM.k, hM.k2391, hM.k2392, hM.k2393, hM.k2394, hM.k2395, hM.k2396, hM.k2397, hM.k2398, hM.k2399, hM.k2400, hM.k2401, hM.k2402, hM.k2403, hM.k2404, hM.k2405, hM.k2406, hM.k2407, hM.k2408, hM.k2409, hM.k2410, hM.k2411, hM.k2412, hM.k2413, hM.k2414, hM.k2415, hM.k2416, hM.k2417, hM.k2418, hM.k2419, hM.k2420, hM.k2421, hM.k2422, hM.k2423, hM.l2391, hM.l2392, hM.l2393, hM.l2394, hM.l2395, hM.l2396, hM.l2397, hM.l2398, hM.l2399, hM.l2400, hM.l2401, hM.l2402, hM.l2403, hM.l2404, hM.l2405, hM.l2406, hM.l2407, hM.l2408, hM.l2409, hM.l2410, hM.l2411, hM.l2412, hM.l2413, hM.l2414, hM.l2415, hM.l2416, hM.l2417, hM.l2418, hM.l2419, hM.l2420, hM.l2421, hM.l2422, hM.l2423]) <;> (try omega))) only [↓reduceIte, ↓z_ite, ↓zR, ↓zB_R, ↓zB_B, ↓zB_ite, ↓zB_gI, ↓zB_pI, ↓zB_pZ, ↓zB_aK, ↓zB_G, ↓zB_lI, ↓zB_lZ, ↓zB_wI, ↓zB_wZ, ↓zB_lIl, ↓zB_wIl, zB_pI, zB_pZ, zB_lI, zB_lZ, zB_wI, zB_wZ, z_addl, z_ladd, z_mull, z_lmul, nI_add, z_subl, Nat.not_lt_zero, z_10, z_01, z_bitc, z_b0, z_b1, ↓zB_Gb, ↓zB_G0, ↓zB_G1, z_eql, z_leq, z_ltl, z_llt, z_eq, z_lt, z_m1lt, hM.k, hM.k2391, hM.k2392, hM.k2393, hM.k2394, hM.k2395, hM.k2396, hM.k2397, hM.k2398, hM.k2399, hM.k2400, hM.k2401, hM.k2402, hM.k2403, hM.k2404, hM.k2405, hM.k2406, hM.k2407, hM.k2408, hM.k2409, hM.k2410, hM.k2411, hM.k2412, hM.k2413, hM.k2414, hM.k2415, hM.k2416, hM.k2417, hM.k2418, hM.k2419, hM.k2420, hM.k2421, hM.k2422, hM.k2423, hM.l2391, hM.l2392, hM.l2393, hM.l2394, hM.l2395, hM.l2396, hM.l2397, hM.l2398, hM.l2399, hM.l2400, hM.l2401, hM.l2402, hM.l2403, hM.l2404, hM.l2405, hM.l2406, hM.l2407, hM.l2408, hM.l2409, hM.l2410, hM.l2411, hM.l2412, hM.l2413, hM.l2414, hM.l2415, hM.l2416, hM.l2417, hM.l2418, hM.l2419, hM.l2420, hM.l2421, hM.l2422, hM.l2423, ↓hM.g1, ↓hM.g5, ↓hM.g6, ↓hM.g7, ↓hM.g8, ↓hM.g9, ↓hM.g10, ↓hM.g11, ↓hM.g12, ↓hM.g13, ↓hM.g14, ↓hM.g16, ↓hM.g17, ↓hM.g18, ↓hM.g19, ↓hM.g21, ↓hM.g22, ↓hM.g23, ↓hM.g24, ↓hM.g25, ↓hM.g27, ↓hM.g28, ↓hM.g30, ↓hM.g31, ↓hM.g32, ↓hM.g36, ↓hM.g37, ↓hM.g39, ↓hM.g40, ↓hM.g41, ↓hM.g43, ↓hM.g45, ↓hM.g46, hp, g, ↓zB_c i1, zB_c i1]
    rfl
  · rw [if_neg g]
    obtain ⟨w5, w6, w7⟩ := hw.2.2.2.2 (A.2.2.2.1.length - 1) (by omega)
    obtain ⟨a1, a2, a3, a4, a5, a6, a7, a8, a9⟩ := h
    have hv := a5 (A.2.2.2.1.length - 1) (by omega)
    have hvz := a9 (A.2.2.2.1.length - 1) (by omega)
    generalize hvv : A.2.2.2.1.length - 1 = v at *
    have u0 : z_up m 2390 0 0 2390 2 = nI A.2.2.2.1.length := by rw [z_up_b (by decide)]; exact hp
    obtain ⟨m2, e, c1, c2, c3⟩ := f203_sp (S := S) (m := z_up (z_up m 2390 0 0) 2390 2 (nI v)) (a := 3 + v) (b := 0) (Ba := nI (3 + v)) (Bb := 0) hM rfl rfl (by omega) (by decide) (by omega)
    have p2 : m2 2390 2 = nI v := by rw [c3 _ (by decide), z_up_s]
    have u : z_up (z_up m 2390 0 0) 2390 2 (nI v) 2391 = m 2391 := by rw [z_up_row (by decide), z_up_row (by decide)]
    have f1 : ∀ r, r ≠ 2390 → r ≠ 2391 → m2 r = m r := fun r r1 r2 => by rw [c3 r r2, z_up_row r1, z_up_row r1]
    have f2 : ∀ j, j ≠ 0 → j ≠ 2 → m2 2390 j = m 2390 j := fun j j1 j2 => by rw [c3 _ (by decide), z_up_b j2, z_up_b j1]
    refine ⟨⟨nI v, m2, ?_, ⟨z_mT_fr (f2 4 (by decide) (by decide)) (fun a x1 x2 => f1 a (by omega) (by omega)) a1, z_mb_cp (by decide) c1 (z_mb_fr u hv), ?_, ?_, fun i hi => ?_, by rw [f2 35 (by decide) (by decide)]; exact a6, by rw [f2 33 (by decide) (by decide)]; exact a7, ?_, fun i hi => ?_⟩, fun b hb => f1 b (by omega) (by omega), rfl, ?_⟩, ?_, ⟨w5, w6⟩, hw.2.2.1, ?_, fun i hi => ?_⟩
    · have g0 : 0 < A.2.2.2.1.length := by omega
      unfold f308 f308_13
      have u2 : z_up (z_up m 2390 0 0) 2390 2 (nI v) 2390 2 = nI v := z_up_s _ _ _ _
      simp (disch := ((try simp only [true_or, or_true, hM.k, hM.k2391, hM.k2392, hM.k2393, hM.k2394, hM.k2395, hM.k2396, hM.k2397, hM.k2398, hM.k2399, hM.k2400, hM.k2401, hM.k2402, hM.k2403, hM.k2404, hM.k2405, hM.k2406, hM.k2407, hM.k2408, hM.k2409, hM.k2410, hM.k2411, hM.k2412, hM.k2413, hM.k2414, hM.k2415, hM.k2416, hM.k2417, hM.k2418, hM.k2419, hM.k2420, hM.k2421, hM.k2422, hM.k2423, hM.l2391, hM.l2392, hM.l2393, hM.l2394, hM.l2395, hM.l2396, hM.l2397, hM.l2398, hM.l2399, hM.l2400, hM.l2401, hM.l2402, hM.l2403, hM.l2404, hM.l2405, hM.l2406, hM.l2407, hM.l2408, hM.l2409, hM.l2410, hM.l2411, hM.l2412, hM.l2413, hM.l2414, hM.l2415, hM.l2416, hM.l2417, hM.l2418, hM.l2419, hM.l2420, hM.l2421, hM.l2422, hM.l2423]) <;> (try omega))) only [↓reduceIte, ↓z_ite, ↓zR, ↓zB_R, ↓zB_B, ↓zB_ite, ↓zB_gI, ↓zB_pI, ↓zB_pZ, ↓zB_aK, ↓zB_G, ↓zB_lI, ↓zB_lZ, ↓zB_wI, ↓zB_wZ, ↓zB_lIl, ↓zB_wIl, zB_pI, zB_pZ, zB_lI, zB_lZ, zB_wI, zB_wZ, z_addl, z_ladd, z_mull, z_lmul, nI_add, z_subl, Nat.not_lt_zero, z_10, z_01, z_bitc, z_b0, z_b1, ↓zB_Gb, ↓zB_G0, ↓zB_G1, z_eql, z_leq, z_ltl, z_llt, z_eq, z_lt, z_m1lt, hM.k, hM.k2391, hM.k2392, hM.k2393, hM.k2394, hM.k2395, hM.k2396, hM.k2397, hM.k2398, hM.k2399, hM.k2400, hM.k2401, hM.k2402, hM.k2403, hM.k2404, hM.k2405, hM.k2406, hM.k2407, hM.k2408, hM.k2409, hM.k2410, hM.k2411, hM.k2412, hM.k2413, hM.k2414, hM.k2415, hM.k2416, hM.k2417, hM.k2418, hM.k2419, hM.k2420, hM.k2421, hM.k2422, hM.k2423, hM.l2391, hM.l2392, hM.l2393, hM.l2394, hM.l2395, hM.l2396, hM.l2397, hM.l2398, hM.l2399, hM.l2400, hM.l2401, hM.l2402, hM.l2403, hM.l2404, hM.l2405, hM.l2406, hM.l2407, hM.l2408, hM.l2409, hM.l2410, hM.l2411, hM.l2412, hM.l2413, hM.l2414, hM.l2415, hM.l2416, hM.l2417, hM.l2418, hM.l2419, hM.l2420, hM.l2421, hM.l2422, hM.l2423, ↓hM.g1, ↓hM.g5, ↓hM.g6, ↓hM.g7, ↓hM.g8, ↓hM.g9, ↓hM.g10, ↓hM.g11, ↓hM.g12, ↓hM.g13, ↓hM.g14, ↓hM.g16, ↓hM.g17, ↓hM.g18, ↓hM.g19, ↓hM.g21, ↓hM.g22, ↓hM.g23, ↓hM.g24, ↓hM.g25, ↓hM.g27, ↓hM.g28, ↓hM.g30, ↓hM.g31, ↓hM.g32, ↓hM.g36, ↓hM.g37, ↓hM.g39, ↓hM.g40, ↓hM.g41, ↓hM.g43, ↓hM.g45, ↓hM.g46, hp, g, ↓zB_c i0, zB_c i0, u0, hvv, u2, ↓zB_c e, zB_c e, p2]
    · show (match A.2.2.1 with | none => m2 2390 3 = 0 | some Bg => m2 2390 3 = 1 ∧ z_mb m2 1 Bg)
      rw [f2 3 (by decide) (by decide)]
      cases hb : A.2.2.1 with
      | none => rw [hb] at a3; exact a3
      | some Bg => rw [hb] at a3; exact ⟨a3.1, z_mb_st (by decide) c2 (z_mb_fr u a3.2)⟩
    · show m2 2390 2 = nI (A.2.2.2.1.take v).length
      rw [p2, List.length_take, Nat.min_eq_left (by omega)]
    · have hi : i < (A.2.2.2.1.take v).length := hi
      rw [List.length_take, Nat.min_eq_left (by omega)] at hi
      show z_mb m2 (3 + i) (z_pat (A.2.2.2.1.take v) i)
      rw [z_pat_take hi]
      exact z_mb_st (by omega) c2 (z_mb_fr u (a5 i (by omega)))
    · show z_mz m2 0 (z_nc (z_pat A.2.2.2.1 v))
      rw [w7]
      exact z_mz_cp c1 (z_mz_fr u hvz)
    · have hi : i < (A.2.2.2.1.take v).length := hi
      rw [List.length_take, Nat.min_eq_left (by omega)] at hi
      show z_mz m2 (3 + i) (z_nc (z_pat A.2.2.2.1 v))
      rw [w7]
      exact z_mz_st (by omega) c2 (z_mz_fr u (a9 i (by omega)))
    · rw [c3 _ (by decide), z_up_b (by decide), z_up_s]
    · show z_tW (z_nc (z_pat A.2.2.2.1 v)) A.1
      rw [w7]; exact hw.1
    · show (A.2.2.2.1.take v).length ≤ 10
      rw [List.length_take]; omega
    · have hi : i < (A.2.2.2.1.take v).length := hi
      rw [List.length_take, Nat.min_eq_left (by omega)] at hi
      show z_wf (z_pat (A.2.2.2.1.take v) i) ∧ z_b60 (z_pat (A.2.2.2.1.take v) i) ∧ z_nc (z_pat (A.2.2.2.1.take v) i) = z_nc (z_pat A.2.2.2.1 v)
      rw [z_pat_take hi, w7]
      exact hw.2.2.2.2 i (by omega)
end
