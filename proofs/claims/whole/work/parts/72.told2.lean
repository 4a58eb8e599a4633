/-! the nodes that were told: adding one -/
section
variable {S : z_S} {m : z_m} {τ : List z_TN}
/-- Told.add -/
theorem f120_sp (hX : z_XS S) {nc : Nat} (hW : z_tW nc τ) (h : z_cT m τ) (hl : τ.length < 150) {t : z_TN} {A0 A1 A2 : Int32} (h3 : z_tn t ≤ 3) (hp : ∀ q, q < z_tn t → z_tq t q < τ.length) (h0 : A0 = if 0 < z_tn t then nI (z_tq t 0) else -1) (h1 : A1 = if 1 < z_tn t then nI (z_tq t 1) else -1) (h2 : A2 = if 2 < z_tn t then nI (z_tq t 2) else -1) : ∃ m', f120 1 t.1.1 t.1.2.1 A0 A1 A2 (z_hp S m) = some (nI τ.length, z_hp S m') ∧ z_cT m' (τ ++ [t]) ∧ ∀ a, a = 0 ∨ 7 ≤ a → m' a = m a := by
  have hc := h.1
  have hN0 : z_NP m (z_up (z_up (z_up (z_up m 2 τ.length t.1.1) 3 τ.length t.1.2.1) 4 τ.length 0) 6 τ.length 1) τ t 0 := by
    refine ⟨⟨?_, ?_, ?_, fun q hq => by omega, ?_⟩, fun a g1 g2 g3 g4 g5 => ?_, fun a i hi ha => ?_, fun i hi => ?_⟩
    · rw [z_up_a (by decide), z_up_a (by decide), z_up_a (by decide), z_up_s]
    · rw [z_up_a (by decide), z_up_a (by decide), z_up_s]
    · rw [z_up_a (by decide), z_up_s]; rfl
    · rw [z_up_s]; rfl
    · rw [z_up_row g5, z_up_row g3, z_up_row g2, z_up_row g1]
    · rw [z_up_b (by omega), z_up_b (by omega), z_up_b (by omega), z_up_b (by omega)]
    · rw [z_up_a (by decide), z_up_a (by decide), z_up_a (by decide), z_up_a (by decide)]
  have step : ∀ (q : Nat) (A : Int32) (m' : z_m), q < 3 → (A = if q < z_tn t then nI (z_tq t q) else -1) → z_NP m m' τ t (min q (z_tn t)) → ∃ m'', f121 1 (nI τ.length) A (z_hp S m') = some ((), z_hp S m'') ∧ z_NP m m'' τ t (min (q + 1) (z_tn t)) := by
    intro q A m' hq hA hN
    by_cases g : q < z_tn t
    · rw [if_pos g] at hA
      rw [Nat.min_eq_left (by omega)] at hN ⊢
      rw [hA]
      exact z_NP_step hX h hl hq hN (hp q g)
    · rw [if_neg g] at hA
      rw [Nat.min_eq_right (by omega)] at hN ⊢
      rw [hA]
      exact ⟨m', f121_n _, hN⟩
  obtain ⟨m1, e1, hN1⟩ := step 0 A0 _ (by decide) h0 (by rw [Nat.min_eq_left (by omega)]; exact hN0)
  obtain ⟨m2, e2, hN2⟩ := step 1 A1 _ (by decide) h1 hN1
  obtain ⟨m3, e3, hN3⟩ := step 2 A2 _ (by decide) h2 hN2
  rw [Nat.min_eq_right h3] at hN3
  refine ⟨z_up m3 1 6 (nI (τ.length + 1)), ?_, z_cT_new hW h hN3, fun a ha => ?_⟩
  · have e6 : m3 1 6 = nI τ.length := by rw [hN3.2.1 1 (by decide) (by decide) (by decide) (by decide) (by decide)]; exact hc
    unfold f120
    simp (disch := ((try simp only [true_or, or_true, hX.k1, hX.k2, hX.k3, hX.k4, hX.k5, hX.k6, hX.k7, hX.l2, hX.l3, hX.l4, hX.l5, hX.l6, hX.l7]) <;> (try omega))) only [↓reduceIte, ↓z_ite, ↓zR, ↓zB_R, ↓zB_B, ↓zB_ite, ↓zB_gI, ↓zB_pI, ↓zB_pZ, ↓zB_aK, ↓zB_G, ↓zB_lI, ↓zB_lZ, ↓zB_wI, ↓zB_wZ, ↓zB_lIl, ↓zB_wIl, zB_pI, zB_pZ, zB_lI, zB_lZ, zB_wI, zB_wZ, z_addl, z_ladd, z_mull, z_lmul, nI_add, z_subl, Nat.not_lt_zero, z_10, z_01, z_bitc, z_b0, z_b1, ↓zB_Gb, ↓zB_G0, ↓zB_G1, z_eql, z_leq, z_ltl, z_llt, z_eq, z_lt, z_m1lt, hX.k1, hX.k2, hX.k3, hX.k4, hX.k5, hX.k6, hX.k7, hX.l2, hX.l3, hX.l4, hX.l5, hX.l6, hX.l7, ↓hX.g1_0, ↓hX.g1_1, ↓hX.g1_2, ↓hX.g1_3, ↓hX.g1_4, ↓hX.g1_5, hc, ↓zB_c e1, zB_c e1, ↓zB_c e2, zB_c e2, ↓zB_c e3, zB_c e3, e6]
  · rw [z_up_row (by omega)]
    exact hN3.2.1 a (by omega) (by omega) (by omega) (by omega) (by omega)
/-- tell -/
theorem f182_sp (hM : z_MS S) {nc : Nat} (hW : z_tW nc τ) (h : z_mT m τ) (hl : τ.length < 150) {t : z_TN} {F0 F1 F2 : Int32} (hwn : z_wN nc t.1) (h3 : z_tn t ≤ 3) (hp : ∀ q, q < z_tn t → z_tq t q < τ.length) (h0 : 0 < z_tn t → F0 = nI (z_tq t 0)) (h1 : 1 < z_tn t → F1 = nI (z_tq t 1)) (h2 : 2 < z_tn t → F2 = nI (z_tq t 2)) : ∃ m', f182 2390 t.1.1 t.1.2.1 t.1.2.2 F0 F1 F2 (z_hp S m) = some (nI τ.length, z_hp S m') ∧ z_mT m' (τ ++ [t]) ∧ (∀ a, a ≠ 2390 → a ≠ 2392 → a ≠ 2393 → a ≠ 2394 → a ≠ 2395 → a ≠ 2396 → m' a = m a) ∧ ∀ j, j ≠ 4 → m' 2390 j = m 2390 j := by
  have hc := h.1
  generalize hL : τ.length = L at *
  have e183 : ∀ m' : z_m, f183 t.1.1 t.1.2.2 (z_hp S m') = some (nI (z_tn t), z_hp S m') := by
    intro m'
    unfold z_tn
    by_cases g : t.1.1 = 7
    · have := hwn.2.1
      rw [if_pos g] at this
      rcases this with g2 | g2 | g2
      · exact f183_sp (j := 0) (fun _ => g2) (by decide)
      · exact f183_sp (j := 1) (fun _ => g2) (by decide)
      · exact f183_sp (j := 2) (fun _ => g2) (by decide)
    · exact f183_sp (j := 0) (fun g2 => absurd g2 g) (by decide)
  generalize hm1 : z_up (z_up (z_up (z_up (z_up (z_up m 2392 L t.1.1) 2393 L t.1.2.1) 2394 L t.1.2.2) 2395 (3 * L) F0) 2395 (3 * L + 1) F1) 2395 (3 * L + 2) F2 = m1
  have c4 : m1 2390 = m 2390 := by rw [← hm1]; repeat rw [z_up_row (by decide)]
  have r96 : m1 2396 = m 2396 := by rw [← hm1]; repeat rw [z_up_row (by decide)]
  have r92 : m1 2392 L = t.1.1 := by rw [← hm1]; repeat rw [z_up_a (by decide)]
                                     rw [z_up_s]
  have r93 : m1 2393 L = t.1.2.1 := by rw [← hm1]; repeat rw [z_up_a (by decide)]
                                       rw [z_up_s]
  have r94 : m1 2394 L = t.1.2.2 := by rw [← hm1]; repeat rw [z_up_a (by decide)]
                                       rw [z_up_s]
  have r95 : ∀ q, q < z_tn t → m1 2395 (3 * L + q) = nI (z_tq t q) := by
    intro q hq
    rw [← hm1]
    have : q = 0 ∨ q = 1 ∨ q = 2 := by omega
    rcases this with g | g | g
    · subst g; rw [z_up_b (by omega), z_up_b (by omega), Nat.add_zero, z_up_s]; exact h0 hq
    · subst g; rw [z_up_b (by omega), z_up_s]; exact h1 hq
    · subst g; rw [z_up_s]; exact h2 hq
  have rold : ∀ a i, (a ≠ 2395 → i < L) → (a = 2395 → i < 3 * L) → m1 a i = m a i := by
    intro a i ha hb
    rw [← hm1]
    by_cases g : a = 2395
    · subst g
      have := hb rfl
      rw [z_up_b (by omega), z_up_b (by omega), z_up_b (by omega), z_up_a (by decide), z_up_a (by decide), z_up_a (by decide)]
    · have := ha g
      rw [z_up_a g, z_up_a g, z_up_a g, z_up_b (by omega), z_up_b (by omega), z_up_b (by omega)]
  have rrow : ∀ a, a ≠ 2392 → a ≠ 2393 → a ≠ 2394 → a ≠ 2395 → m1 a = m a := fun a g1 g2 g3 g4 => by
    rw [← hm1, z_up_row g4, z_up_row g4, z_up_row g4, z_up_row g3, z_up_row g2, z_up_row g1]
  have hb : ∀ n, n ≤ 3 → z_su (fun q => min 1000 (z_ts τ (z_tq t q))) n ≤ 3000 := by
    have : ∀ n, z_su (fun q => min 1000 (z_ts τ (z_tq t q))) n ≤ 1000 * n := by
      intro n
      induction n with
      | zero => exact Nat.le_refl _
      | succ n ih => unfold z_su; have := Nat.min_le_left 1000 (z_ts τ (z_tq t n)); omega
    intro n hn
    have := this n
    omega
  have hmin : min 1000 (1 + z_su (fun q => min 1000 (z_ts τ (z_tq t q))) (z_tn t)) = min 1000 (1 + z_su (fun q => z_ts τ (z_tq t q)) (z_tn t)) := by
    have : z_tn t = 0 ∨ z_tn t = 1 ∨ z_tn t = 2 ∨ z_tn t = 3 := by omega
    rcases this with g | g | g | g <;> rw [g] <;> simp only [z_su] <;> omega
  have loop : f182_75 2390 t.1.1 t.1.2.2 (nI (3 * L)) 1 0 (z_hp S m1) = some (nI L, z_hp S (z_up (z_up m1 2396 L (nI (min 1000 (1 + z_su (fun q => z_ts τ (z_tq t q)) (z_tn t))))) 2390 4 (nI (L + 1)))) := by
    unfold f182_75
    refine z_path (fun q => (2390, t.1.1, t.1.2.2, nI (3 * L), nI (1 + z_su (fun q => min 1000 (z_ts τ (z_tq t q))) q), nI q)) (fun _ => m1) (z_tn t) 0 1000000 (by omega) (fun q _ hq => ?_) ?_
    · have hq : q < z_tn t := by omega
      have g1 := r95 q hq
      have g2 := hp q hq
      have g3 : m1 2396 (z_tq t q) = nI (min 1000 (z_ts τ (z_tq t q))) := by rw [r96]; exact (h.2 _ (by omega)).2.2.2.2
      have g4 : 1 + z_su (fun q => min 1000 (z_ts τ (z_tq t q))) q + min 1000 (z_ts τ (z_tq t q)) = 1 + z_su (fun q => min 1000 (z_ts τ (z_tq t q))) (q + 1) := by
        rw [show z_su (fun q => min 1000 (z_ts τ (z_tq t q))) (q + 1) = z_su (fun q => min 1000 (z_ts τ (z_tq t q))) q + min 1000 (z_ts τ (z_tq t q)) from rfl]; omega
      dsimp only
      unfold f182_75b
      simp (disch := ((try simp only [true_or, or_true, hM.k, hM.k2391, hM.k2392, hM.k2393, hM.k2394, hM.k2395, hM.k2396, hM.k2397, hM.k2398, hM.k2399, hM.k2400, hM.k2401, hM.k2402, hM.k2403, hM.k2404, hM.k2405, hM.k2406, hM.k2407, hM.k2408, hM.k2409, hM.k2410, hM.k2411, hM.k2412, hM.k2413, hM.k2414, hM.k2415, hM.k2416, hM.k2417, hM.k2418, hM.k2419, hM.k2420, hM.k2421, hM.k2422, hM.k2423, hM.l2391, hM.l2392, hM.l2393, hM.l2394, hM.l2395, hM.l2396, hM.l2397, hM.l2398, hM.l2399, hM.l2400, hM.l2401, hM.l2402, hM.l2403, hM.l2404, hM.l2405, hM.l2406, hM.l2407, hM.l2408, hM.l2409, hM.l2410, hM.l2411, hM.l2412, hM.l2413, hM.l2414, hM.l2415, hM.l2416, hM.l2417, hM.l2418, hM.l2419, hM.l2420, hM.l2421, hM.l2422, hM.l2423]) <;> (try omega))) only [↓reduceIte, ↓z_ite, ↓zR, ↓zB_R, ↓zB_B, ↓zB_ite, ↓zB_gI, ↓zB_pI, ↓zB_pZ, ↓zB_aK, ↓zB_G, ↓zB_lI, ↓zB_lZ, ↓zB_wI, ↓zB_wZ, ↓zB_lIl, ↓zB_wIl, zB_pI, zB_pZ, zB_lI, zB_lZ, zB_wI, zB_wZ, z_addl, z_ladd, z_mull, z_lmul, nI_add, z_subl, Nat.not_lt_zero, z_10, z_01, z_bitc, z_b0, z_b1, ↓zB_Gb, ↓zB_G0, ↓zB_G1, z_eql, z_leq, z_ltl, z_llt, z_eq, z_lt, z_m1lt, hM.k, hM.k2391, hM.k2392, hM.k2393, hM.k2394, hM.k2395, hM.k2396, hM.k2397, hM.k2398, hM.k2399, hM.k2400, hM.k2401, hM.k2402, hM.k2403, hM.k2404, hM.k2405, hM.k2406, hM.k2407, hM.k2408, hM.k2409, hM.k2410, hM.k2411, hM.k2412, hM.k2413, hM.k2414, hM.k2415, hM.k2416, hM.k2417, hM.k2418, hM.k2419, hM.k2420, hM.k2421, hM.k2422, hM.k2423, hM.l2391, hM.l2392, hM.l2393, hM.l2394, hM.l2395, hM.l2396, hM.l2397, hM.l2398, hM.l2399, hM.l2400, hM.l2401, hM.l2402, hM.l2403, hM.l2404, hM.l2405, hM.l2406, hM.l2407, hM.l2408, hM.l2409, hM.l2410, hM.l2411, hM.l2412, hM.l2413, hM.l2414, hM.l2415, hM.l2416, hM.l2417, hM.l2418, hM.l2419, hM.l2420, hM.l2421, hM.l2422, hM.l2423, ↓hM.g1, ↓hM.g5, ↓hM.g6, ↓hM.g7, ↓hM.g8, ↓hM.g9, ↓hM.g10, ↓hM.g11, ↓hM.g12, ↓hM.g13, ↓hM.g14, ↓hM.g16, ↓hM.g17, ↓hM.g18, ↓hM.g19, ↓hM.g21, ↓hM.g22, ↓hM.g23, ↓hM.g24, ↓hM.g25, ↓hM.g27, ↓hM.g28, ↓hM.g30, ↓hM.g31, ↓hM.g32, ↓hM.g36, ↓hM.g37, ↓hM.g39, ↓hM.g40, ↓hM.g41, ↓hM.g43, ↓hM.g45, ↓hM.g46, ↓zB_c (e183 m1), zB_c (e183 m1), hq, g1, g3, g4]
    · have g5 := hb (z_tn t) h3
      have g6 : m1 2390 4 = nI L := by rw [c4]; exact hc
      rw [← hmin]
      dsimp only
      rw [Nat.zero_add]
      generalize z_su (fun q => min 1000 (z_ts τ (z_tq t q))) (z_tn t) = w at g5 ⊢
      have g7 : ∀ v, z_up m1 2396 L v 2390 4 = nI L := fun v => by rw [z_up_a (by decide)]; exact g6
      have g8 : ∀ v, z_up (z_up m1 2396 L v) 2390 4 (nI (L + 1)) 2390 4 = nI (L + 1) := fun v => z_up_s _ _ _ _
      unfold f182_75b f182_111 f182_135
      by_cases g : 1000 < 1 + w
      · simp (disch := ((try simp only [true_or, or_true, hM.k, hM.k2391, hM.k2392, hM.k2393, hM.k2394, hM.k2395, hM.k2396, hM.k2397, hM.k2398, hM.k2399, hM.k2400, hM.k2401, hM.k2402, hM.k2403, hM.k2404, hM.k2405, hM.k2406, hM.k2407, hM.k2408, hM.k2409, hM.k2410, hM.k2411, hM.k2412, hM.k2413, hM.k2414, hM.k2415, hM.k2416, hM.k2417, hM.k2418, hM.k2419, hM.k2420, hM.k2421, hM.k2422, hM.k2423, hM.l2391, hM.l2392, hM.l2393, hM.l2394, hM.l2395, hM.l2396, hM.l2397, hM.l2398, hM.l2399, hM.l2400, hM.l2401, hM.l2402, hM.l2403, hM.l2404, hM.l2405, hM.l2406, hM.l2407, hM.l2408, hM.l2409, hM.l2410, hM.l2411, hM.l2412, hM.l2413, hM.l2414, hM.l2415, hM.l2416, hM.l2417, hM.l2418, hM.l2419, hM.l2420, hM.l2421, hM.l2422, hM.l2423]) <;> (try omega))) only [↓reduceIte, ↓z_ite, ↓zR, ↓zB_R, ↓zB_B, ↓zB_ite, ↓zB_gI, ↓zB_pI, ↓zB_pZ, ↓zB_aK, ↓zB_G, ↓zB_lI, ↓zB_lZ, ↓zB_wI, ↓zB_wZ, ↓zB_lIl, ↓zB_wIl, zB_pI, zB_pZ, zB_lI, zB_lZ, zB_wI, zB_wZ, z_addl, z_ladd, z_mull, z_lmul, nI_add, z_subl, Nat.not_lt_zero, z_10, z_01, z_bitc, z_b0, z_b1, ↓zB_Gb, ↓zB_G0, ↓zB_G1, z_eql, z_leq, z_ltl, z_llt, z_eq, z_lt, z_m1lt, hM.k, hM.k2391, hM.k2392, hM.k2393, hM.k2394, hM.k2395, hM.k2396, hM.k2397, hM.k2398, hM.k2399, hM.k2400, hM.k2401, hM.k2402, hM.k2403, hM.k2404, hM.k2405, hM.k2406, hM.k2407, hM.k2408, hM.k2409, hM.k2410, hM.k2411, hM.k2412, hM.k2413, hM.k2414, hM.k2415, hM.k2416, hM.k2417, hM.k2418, hM.k2419, hM.k2420, hM.k2421, hM.k2422, hM.k2423, hM.l2391, hM.l2392, hM.l2393, hM.l2394, hM.l2395, hM.l2396, hM.l2397, hM.l2398, hM.l2399, hM.l2400, hM.l2401, hM.l2402, hM.l2403, hM.l2404, hM.l2405, hM.l2406, hM.l2407, hM.l2408, hM.l2409, hM.l2410, hM.l2411, hM.l2412, hM.l2413, hM.l2414, hM.l2415, hM.l2416, hM.l2417, hM.l2418, hM.l2419, hM.l2420, hM.l2421, hM.l2422, hM.l2423, ↓hM.g1, ↓hM.g5, ↓hM.g6, ↓hM.g7, ↓hM.g8, ↓hM.g9, ↓hM.g10, ↓hM.g11, ↓hM.g12, ↓hM.g13, ↓hM.g14, ↓hM.g16, ↓hM.g17, ↓hM.g18, ↓hM.g19, ↓hM.g21, ↓hM.g22, ↓hM.g23, ↓hM.g24, ↓hM.g25, ↓hM.g27, ↓hM.g28, ↓hM.g30, ↓hM.g31, ↓hM.g32, ↓hM.g36, ↓hM.g37, ↓hM.g39, ↓hM.g40, ↓hM.g41, ↓hM.g43, ↓hM.g45, ↓hM.g46, ↓zB_c (e183 m1), zB_c (e183 m1), Nat.lt_irrefl, g6, g, g7, g8, Nat.add_sub_cancel]
        rw [Nat.min_eq_left (by omega)]
        rfl
      · simp (disch := ((try simp only [true_or, or_true, hM.k, hM.k2391, hM.k2392, hM.k2393, hM.k2394, hM.k2395, hM.k2396, hM.k2397, hM.k2398, hM.k2399, hM.k2400, hM.k2401, hM.k2402, hM.k2403, hM.k2404, hM.k2405, hM.k2406, hM.k2407, hM.k2408, hM.k2409, hM.k2410, hM.k2411, hM.k2412, hM.k2413, hM.k2414, hM.k2415, hM.k2416, hM.k2417, hM.k2418, hM.k2419, hM.k2420, hM.k2421, hM.k2422, hM.k2423, hM.l2391, hM.l2392, hM.l2393, hM.l2394, hM.l2395, hM.l2396, hM.l2397, hM.l2398, hM.l2399, hM.l2400, hM.l2401, hM.l2402, hM.l2403, hM.l2404, hM.l2405, hM.l2406, hM.l2407, hM.l2408, hM.l2409, hM.l2410, hM.l2411, hM.l2412, hM.l2413, hM.l2414, hM.l2415, hM.l2416, hM.l2417, hM.l2418, hM.l2419, hM.l2420, hM.l2421, hM.l2422, hM.l2423]) <;> (try omega))) only [↓reduceIte, ↓z_ite, ↓zR, ↓zB_R, ↓zB_B, ↓zB_ite, ↓zB_gI, ↓zB_pI, ↓zB_pZ, ↓zB_aK, ↓zB_G, ↓zB_lI, ↓zB_lZ, ↓zB_wI, ↓zB_wZ, ↓zB_lIl, ↓zB_wIl, zB_pI, zB_pZ, zB_lI, zB_lZ, zB_wI, zB_wZ, z_addl, z_ladd, z_mull, z_lmul, nI_add, z_subl, Nat.not_lt_zero, z_10, z_01, z_bitc, z_b0, z_b1, ↓zB_Gb, ↓zB_G0, ↓zB_G1, z_eql, z_leq, z_ltl, z_llt, z_eq, z_lt, z_m1lt, hM.k, hM.k2391, hM.k2392, hM.k2393, hM.k2394, hM.k2395, hM.k2396, hM.k2397, hM.k2398, hM.k2399, hM.k2400, hM.k2401, hM.k2402, hM.k2403, hM.k2404, hM.k2405, hM.k2406, hM.k2407, hM.k2408, hM.k2409, hM.k2410, hM.k2411, hM.k2412, hM.k2413, hM.k2414, hM.k2415, hM.k2416, hM.k2417, hM.k2418, hM.k2419, hM.k2420, hM.k2421, hM.k2422, hM.k2423, hM.l2391, hM.l2392, hM.l2393, hM.l2394, hM.l2395, hM.l2396, hM.l2397, hM.l2398, hM.l2399, hM.l2400, hM.l2401, hM.l2402, hM.l2403, hM.l2404, hM.l2405, hM.l2406, hM.l2407, hM.l2408, hM.l2409, hM.l2410, hM.l2411, hM.l2412, hM.l2413, hM.l2414, hM.l2415, hM.l2416, hM.l2417, hM.l2418, hM.l2419, hM.l2420, hM.l2421, hM.l2422, hM.l2423, ↓hM.g1, ↓hM.g5, ↓hM.g6, ↓hM.g7, ↓hM.g8, ↓hM.g9, ↓hM.g10, ↓hM.g11, ↓hM.g12, ↓hM.g13, ↓hM.g14, ↓hM.g16, ↓hM.g17, ↓hM.g18, ↓hM.g19, ↓hM.g21, ↓hM.g22, ↓hM.g23, ↓hM.g24, ↓hM.g25, ↓hM.g27, ↓hM.g28, ↓hM.g30, ↓hM.g31, ↓hM.g32, ↓hM.g36, ↓hM.g37, ↓hM.g39, ↓hM.g40, ↓hM.g41, ↓hM.g43, ↓hM.g45, ↓hM.g46, ↓zB_c (e183 m1), zB_c (e183 m1), Nat.lt_irrefl, g6, g, g7, g8, Nat.add_sub_cancel]
        rw [Nat.min_eq_right (by omega)]
  refine ⟨z_up (z_up m1 2396 L (nI (min 1000 (1 + z_su (fun q => z_ts τ (z_tq t q)) (z_tn t))))) 2390 4 (nI (L + 1)), ?_, ⟨?_, fun i hi => ?_⟩, fun a g0 g1 g2 g3 g4 g5 => ?_, fun j hj => ?_⟩
  · rw [← loop]
    have q2 : z_up m 2392 L t.1.1 2390 4 = nI L := by rw [z_up_a (by decide)]; exact hc
    have q3 : z_up (z_up m 2392 L t.1.1) 2393 L t.1.2.1 2390 4 = nI L := by rw [z_up_a (by decide)]; exact q2
    unfold f182
    simp (disch := ((try simp only [true_or, or_true, hM.k, hM.k2391, hM.k2392, hM.k2393, hM.k2394, hM.k2395, hM.k2396, hM.k2397, hM.k2398, hM.k2399, hM.k2400, hM.k2401, hM.k2402, hM.k2403, hM.k2404, hM.k2405, hM.k2406, hM.k2407, hM.k2408, hM.k2409, hM.k2410, hM.k2411, hM.k2412, hM.k2413, hM.k2414, hM.k2415, hM.k2416, hM.k2417, hM.k2418, hM.k2419, hM.k2420, hM.k2421, hM.k2422, hM.k2423, hM.l2391, hM.l2392, hM.l2393, hM.l2394, hM.l2395, hM.l2396, hM.l2397, hM.l2398, hM.l2399, hM.l2400, hM.l2401, hM.l2402, hM.l2403, hM.l2404, hM.l2405, hM.l2406, hM.l2407, hM.l2408, hM.l2409, hM.l2410, hM.l2411, hM.l2412, hM.l2413, hM.l2414, hM.l2415, hM.l2416, hM.l2417, hM.l2418, hM.l2419, hM.l2420, hM.l2421, hM.l2422, hM.l2423]) <;> (try omega))) only [↓reduceIte, ↓z_ite, ↓zR, ↓zB_R, ↓zB_B, ↓zB_ite, ↓zB_gI, ↓zB_pI, ↓zB_pZ, ↓zB_aK, ↓zB_G, ↓zB_lI, ↓zB_lZ, ↓zB_wI, ↓zB_wZ, ↓zB_lIl, ↓zB_wIl, zB_pI, zB_pZ, zB_lI, zB_lZ, zB_wI, zB_wZ, z_addl, z_ladd, z_mull, z_lmul, nI_add, z_subl, Nat.not_lt_zero, z_10, z_01, z_bitc, z_b0, z_b1, ↓zB_Gb, ↓zB_G0, ↓zB_G1, z_eql, z_leq, z_ltl, z_llt, z_eq, z_lt, z_m1lt, hM.k, hM.k2391, hM.k2392, hM.k2393, hM.k2394, hM.k2395, hM.k2396, hM.k2397, hM.k2398, hM.k2399, hM.k2400, hM.k2401, hM.k2402, hM.k2403, hM.k2404, hM.k2405, hM.k2406, hM.k2407, hM.k2408, hM.k2409, hM.k2410, hM.k2411, hM.k2412, hM.k2413, hM.k2414, hM.k2415, hM.k2416, hM.k2417, hM.k2418, hM.k2419, hM.k2420, hM.k2421, hM.k2422, hM.k2423, hM.l2391, hM.l2392, hM.l2393, hM.l2394, hM.l2395, hM.l2396, hM.l2397, hM.l2398, hM.l2399, hM.l2400, hM.l2401, hM.l2402, hM.l2403, hM.l2404, hM.l2405, hM.l2406, hM.l2407, hM.l2408, hM.l2409, hM.l2410, hM.l2411, hM.l2412, hM.l2413, hM.l2414, hM.l2415, hM.l2416, hM.l2417, hM.l2418, hM.l2419, hM.l2420, hM.l2421, hM.l2422, hM.l2423, ↓hM.g1, ↓hM.g5, ↓hM.g6, ↓hM.g7, ↓hM.g8, ↓hM.g9, ↓hM.g10, ↓hM.g11, ↓hM.g12, ↓hM.g13, ↓hM.g14, ↓hM.g16, ↓hM.g17, ↓hM.g18, ↓hM.g19, ↓hM.g21, ↓hM.g22, ↓hM.g23, ↓hM.g24, ↓hM.g25, ↓hM.g27, ↓hM.g28, ↓hM.g30, ↓hM.g31, ↓hM.g32, ↓hM.g36, ↓hM.g37, ↓hM.g39, ↓hM.g40, ↓hM.g41, ↓hM.g43, ↓hM.g45, ↓hM.g46, hc, q2, q3, hm1]
  · rw [z_up_s, List.length_append, hL]; rfl
  · rw [List.length_append, hL] at hi
    generalize hmv : nI (min 1000 (1 + z_su (fun q => z_ts τ (z_tq t q)) (z_tn t))) = mv
    have u : ∀ a, a ≠ 2390 → a ≠ 2396 → z_up (z_up m1 2396 L mv) 2390 4 (nI (L + 1)) a = m1 a := fun a g1 g2 => by rw [z_up_row g1, z_up_row g2]
    rw [u 2392 (by decide) (by decide), u 2393 (by decide) (by decide), u 2394 (by decide) (by decide), u 2395 (by decide) (by decide), z_up_row (show (2396 : Nat) ≠ 2390 by decide)]
    rcases Nat.lt_succ_iff_lt_or_eq.mp (show i < L + 1 from hi) with g | g
    · have g' : i < τ.length := by omega
      rw [z_tat_old τ t g', z_ts_old τ t g', z_up_b (by omega), rold 2392 i (fun _ => g) (fun g2 => absurd g2 (by decide)), rold 2393 i (fun _ => g) (fun g2 => absurd g2 (by decide)), rold 2394 i (fun _ => g) (fun g2 => absurd g2 (by decide)), rold 2396 i (fun _ => g) (fun g2 => absurd g2 (by decide))]
      obtain ⟨a1, a2, a3, a4, a5⟩ := h.2 i (by omega)
      refine ⟨a1, a2, a3, fun q hq => ?_, a5⟩
      have := (hW.2 i g').2.1
      rw [rold 2395 (3 * i + q) (fun g2 => absurd rfl g2) (fun _ => by omega)]; exact a4 q hq
    · have e1 : z_tat (τ ++ [t]) i = t := by rw [g, ← hL]; exact z_tat_new τ t
      have e2 : z_ts (τ ++ [t]) i = 1 + z_su (fun q => z_ts τ (z_tq t q)) (z_tn t) := by rw [g, ← hL]; exact z_ts_new τ t
      rw [e1, e2, g, z_up_s, hmv]
      exact ⟨r92, r93, r94, r95, rfl⟩
  · rw [z_up_row g0, z_up_row g5]; exact rrow a g1 g2 g3 g4
  · rw [z_up_b hj, z_up_row (by decide), c4]
end
