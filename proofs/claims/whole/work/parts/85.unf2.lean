/-! told nodes unfolded: the reference -/
/-- a body written in the bank of now -/
def z_lw (m : z_m) (k : Nat) (l : List z_N) : Prop := ∀ j, j < l.length → m 2391 (344 + 576 * k + j) = z_k l j ∧ m 2391 (344 + 576 * k + j + 192) = z_v l j ∧ m 2391 (344 + 576 * k + j + 384) = z_a l j
section
variable {τ : List z_TN} {nc : Nat} {S : z_S} {m : z_m}
theorem z_wN_a {nc : Nat} {y : z_N} (h : z_wN nc y) : y.1 = 7 → ∃ j, j ≤ 2 ∧ y.2.2 = nI j := by
  intro g
  have h2 := h.2.1
  rw [if_pos g] at h2
  rcases h2 with e | e | e
  · exact ⟨0, by decide, e⟩
  · exact ⟨1, by decide, e⟩
  · exact ⟨2, by decide, e⟩
theorem f183_w {y : z_N} (h : z_wN nc y) : f183 y.1 y.2.2 (z_hp S m) = some (nI (z_pn y.1 y.2.2), z_hp S m) := by
  by_cases g : y.1 = 7
  · obtain ⟨j, hj, e⟩ := z_wN_a h g
    exact f183_sp (j := j) (fun _ => e) (by omega)
  · exact f183_sp (j := 0) (fun g2 => absurd g2 g) (by decide)
theorem f221_80_sp (hM : z_MS S) (hW : z_tW nc τ) (h : z_mT m τ) {k x h0 w : Nat} (hk : k < 24) (hx : x < τ.length) (hh : h0 + z_tn (z_tat τ x) ≤ 192) (hw : w < 200) : ∃ m', f221_80 2390 (nI k) (nI h0) (nI w) (nI x) (nI (z_tn (z_tat τ x)) - 1) (z_hp S m) = some (.inl (2390, nI k, nI (h0 + z_tn (z_tat τ x)), nI w), z_hp S m') ∧ (∀ a, a ≠ 2401 → m' a = m a) ∧ (∀ j, j < h0 → m' 2401 j = m 2401 j) ∧ ∀ t, t < z_tn (z_tat τ x) → m' 2401 (h0 + t) = nI (z_tq (z_tat τ x) (z_tn (z_tat τ x) - 1 - t)) := by
  have hl := hW.1
  obtain ⟨_, h3, hp⟩ := hW.2 x hx
  have hT := (h.2 x hx).2.2.2.1
  generalize z_tn (z_tat τ x) = tn at *
  rw [z_pI_m]
  unfold f221_80
  refine z_loopI (f := fun s => f221_80b (s.1) (s.2.1) (s.2.2.1) (s.2.2.2.1) (s.2.2.2.2.1) (s.2.2.2.2.2)) (S := S) (fun n s m' => ∃ t, n = tn - t ∧ t ≤ tn ∧ s = (2390, nI k, nI (h0 + t), nI w, nI x, z_pI (tn - t)) ∧ (∀ a, a ≠ 2401 → m' a = m a) ∧ (∀ j, j < h0 → m' 2401 j = m 2401 j) ∧ ∀ t', t' < t → m' 2401 (h0 + t') = nI (z_tq (z_tat τ x) (tn - 1 - t'))) (fun r m' => r = .inl (2390, nI k, nI (h0 + tn), nI w) ∧ (∀ a, a ≠ 2401 → m' a = m a) ∧ (∀ j, j < h0 → m' 2401 j = m 2401 j) ∧ ∀ t, t < tn → m' 2401 (h0 + t) = nI (z_tq (z_tat τ x) (tn - 1 - t))) ?_ 1000000 tn _ m ⟨0, rfl, Nat.zero_le _, rfl, fun _ _ => rfl, fun _ _ => rfl, fun t ht => absurd ht (Nat.not_lt_zero _)⟩ (by omega) |> fun ⟨r, m', e, hr, hq⟩ => ⟨m', by rw [hr] at e; exact e, hq⟩
  rintro n s m' ⟨t, rfl, ht, rfl, g1, g2, g3⟩
  dsimp only
  rcases Nat.eq_or_lt_of_le ht with ht2 | ht2
  · refine Or.inr ⟨_, m', ?_, rfl, g1, g2, fun t' ht' => g3 t' (by omega)⟩
    unfold f221_80b f221_112
    rw [ht2, Nat.sub_self, z_pI_0]
    simp (disch := ((try simp only [true_or, or_true, hM.k, hM.k2391, hM.k2392, hM.k2393, hM.k2394, hM.k2395, hM.k2396, hM.k2397, hM.k2398, hM.k2399, hM.k2400, hM.k2401, hM.k2402, hM.k2403, hM.k2404, hM.k2405, hM.k2406, hM.k2407, hM.k2408, hM.k2409, hM.k2410, hM.k2411, hM.k2412, hM.k2413, hM.k2414, hM.k2415, hM.k2416, hM.k2417, hM.k2418, hM.k2419, hM.k2420, hM.k2421, hM.k2422, hM.k2423, hM.l2391, hM.l2392, hM.l2393, hM.l2394, hM.l2395, hM.l2396, hM.l2397, hM.l2398, hM.l2399, hM.l2400, hM.l2401, hM.l2402, hM.l2403, hM.l2404, hM.l2405, hM.l2406, hM.l2407, hM.l2408, hM.l2409, hM.l2410, hM.l2411, hM.l2412, hM.l2413, hM.l2414, hM.l2415, hM.l2416, hM.l2417, hM.l2418, hM.l2419, hM.l2420, hM.l2421, hM.l2422, hM.l2423]) <;> (try omega))) only [↓reduceIte, ↓z_ite, ↓zR, ↓zB_R, ↓zB_B, ↓zB_ite, ↓zB_gI, ↓zB_pI, ↓zB_pZ, ↓zB_aK, ↓zB_G, ↓zB_lI, ↓zB_lZ, ↓zB_wI, ↓zB_wZ, ↓zB_lIl, ↓zB_wIl, zB_pI, zB_pZ, zB_lI, zB_lZ, zB_wI, zB_wZ, z_addl, z_ladd, z_mull, z_lmul, nI_add, z_subl, Nat.not_lt_zero, z_10, z_01, z_bitc, z_b0, z_b1, ↓zB_Gb, ↓zB_G0, ↓zB_G1, z_eql, z_leq, z_ltl, z_llt, z_eq, z_lt, z_m1lt, hM.k, hM.k2391, hM.k2392, hM.k2393, hM.k2394, hM.k2395, hM.k2396, hM.k2397, hM.k2398, hM.k2399, hM.k2400, hM.k2401, hM.k2402, hM.k2403, hM.k2404, hM.k2405, hM.k2406, hM.k2407, hM.k2408, hM.k2409, hM.k2410, hM.k2411, hM.k2412, hM.k2413, hM.k2414, hM.k2415, hM.k2416, hM.k2417, hM.k2418, hM.k2419, hM.k2420, hM.k2421, hM.k2422, hM.k2423, hM.l2391, hM.l2392, hM.l2393, hM.l2394, hM.l2395, hM.l2396, hM.l2397, hM.l2398, hM.l2399, hM.l2400, hM.l2401, hM.l2402, hM.l2403, hM.l2404, hM.l2405, hM.l2406, hM.l2407, hM.l2408, hM.l2409, hM.l2410, hM.l2411, hM.l2412, hM.l2413, hM.l2414, hM.l2415, hM.l2416, hM.l2417, hM.l2418, hM.l2419, hM.l2420, hM.l2421, hM.l2422, hM.l2423, ↓hM.g1, ↓hM.g5, ↓hM.g6, ↓hM.g7, ↓hM.g8, ↓hM.g9, ↓hM.g10, ↓hM.g11, ↓hM.g12, ↓hM.g13, ↓hM.g14, ↓hM.g16, ↓hM.g17, ↓hM.g18, ↓hM.g19, ↓hM.g21, ↓hM.g22, ↓hM.g23, ↓hM.g24, ↓hM.g25, ↓hM.g27, ↓hM.g28, ↓hM.g30, ↓hM.g31, ↓hM.g32, ↓hM.g36, ↓hM.g37, ↓hM.g39, ↓hM.g40, ↓hM.g41, ↓hM.g43, ↓hM.g45, ↓hM.g46]
  · refine Or.inl ⟨_, z_up m' 2401 (h0 + t) (nI (z_tq (z_tat τ x) (tn - 1 - t))), tn - (t + 1), ?_, by omega, t + 1, rfl, ht2, rfl, fun a x1 => by rw [z_up_row x1]; exact g1 a x1, fun j hj => by rw [z_up_b (by omega)]; exact g2 j hj, fun t' ht' => ?_⟩
    · have e1 : m' 2395 (3 * x + (tn - 1 - t)) = nI (z_tq (z_tat τ x) (tn - 1 - t)) := by
        rw [g1 2395 (by decide)]; exact hT _ (by omega)
      have e2 : tn - t = (tn - 1 - t) + 1 := by omega
      have e3 : z_pI (tn - (t + 1)) = nI (tn - 1 - t) + (-1) := by rw [z_pI_e]; congr 1; omega
      unfold f221_80b
      rw [e2, z_pI_s, e3]
      simp (disch := ((try simp only [true_or, or_true, hM.k, hM.k2391, hM.k2392, hM.k2393, hM.k2394, hM.k2395, hM.k2396, hM.k2397, hM.k2398, hM.k2399, hM.k2400, hM.k2401, hM.k2402, hM.k2403, hM.k2404, hM.k2405, hM.k2406, hM.k2407, hM.k2408, hM.k2409, hM.k2410, hM.k2411, hM.k2412, hM.k2413, hM.k2414, hM.k2415, hM.k2416, hM.k2417, hM.k2418, hM.k2419, hM.k2420, hM.k2421, hM.k2422, hM.k2423, hM.l2391, hM.l2392, hM.l2393, hM.l2394, hM.l2395, hM.l2396, hM.l2397, hM.l2398, hM.l2399, hM.l2400, hM.l2401, hM.l2402, hM.l2403, hM.l2404, hM.l2405, hM.l2406, hM.l2407, hM.l2408, hM.l2409, hM.l2410, hM.l2411, hM.l2412, hM.l2413, hM.l2414, hM.l2415, hM.l2416, hM.l2417, hM.l2418, hM.l2419, hM.l2420, hM.l2421, hM.l2422, hM.l2423]) <;> (try omega))) only [↓reduceIte, ↓z_ite, ↓zR, ↓zB_R, ↓zB_B, ↓zB_ite, ↓zB_gI, ↓zB_pI, ↓zB_pZ, ↓zB_aK, ↓zB_G, ↓zB_lI, ↓zB_lZ, ↓zB_wI, ↓zB_wZ, ↓zB_lIl, ↓zB_wIl, zB_pI, zB_pZ, zB_lI, zB_lZ, zB_wI, zB_wZ, z_addl, z_ladd, z_mull, z_lmul, nI_add, z_subl, Nat.not_lt_zero, z_10, z_01, z_bitc, z_b0, z_b1, ↓zB_Gb, ↓zB_G0, ↓zB_G1, z_eql, z_leq, z_ltl, z_llt, z_eq, z_lt, z_m1lt, hM.k, hM.k2391, hM.k2392, hM.k2393, hM.k2394, hM.k2395, hM.k2396, hM.k2397, hM.k2398, hM.k2399, hM.k2400, hM.k2401, hM.k2402, hM.k2403, hM.k2404, hM.k2405, hM.k2406, hM.k2407, hM.k2408, hM.k2409, hM.k2410, hM.k2411, hM.k2412, hM.k2413, hM.k2414, hM.k2415, hM.k2416, hM.k2417, hM.k2418, hM.k2419, hM.k2420, hM.k2421, hM.k2422, hM.k2423, hM.l2391, hM.l2392, hM.l2393, hM.l2394, hM.l2395, hM.l2396, hM.l2397, hM.l2398, hM.l2399, hM.l2400, hM.l2401, hM.l2402, hM.l2403, hM.l2404, hM.l2405, hM.l2406, hM.l2407, hM.l2408, hM.l2409, hM.l2410, hM.l2411, hM.l2412, hM.l2413, hM.l2414, hM.l2415, hM.l2416, hM.l2417, hM.l2418, hM.l2419, hM.l2420, hM.l2421, hM.l2422, hM.l2423, ↓hM.g1, ↓hM.g5, ↓hM.g6, ↓hM.g7, ↓hM.g8, ↓hM.g9, ↓hM.g10, ↓hM.g11, ↓hM.g12, ↓hM.g13, ↓hM.g14, ↓hM.g16, ↓hM.g17, ↓hM.g18, ↓hM.g19, ↓hM.g21, ↓hM.g22, ↓hM.g23, ↓hM.g24, ↓hM.g25, ↓hM.g27, ↓hM.g28, ↓hM.g30, ↓hM.g31, ↓hM.g32, ↓hM.g36, ↓hM.g37, ↓hM.g39, ↓hM.g40, ↓hM.g41, ↓hM.g43, ↓hM.g45, ↓hM.g46, e1]
      rfl
    · rcases Nat.lt_succ_iff_lt_or_eq.mp ht' with x1 | x1
      · rw [z_up_b (by omega)]; exact g3 t' x1
      · rw [x1, z_up_s]
theorem z_mT_fr {m' : z_m} (h0 : m' 2390 4 = m 2390 4) (h : ∀ a, 2392 ≤ a → a ≤ 2396 → m' a = m a) (hT : z_mT m τ) : z_mT m' τ := by
  unfold z_mT at *
  rw [h0, h 2392 (by decide) (by decide), h 2393 (by decide) (by decide), h 2394 (by decide) (by decide), h 2395 (by decide) (by decide), h 2396 (by decide) (by decide)]
  exact hT
/-- layBody -/
theorem f221_sp (hM : z_MS S) (hW : z_tW nc τ) (h : z_mT m τ) {k : Nat} (hk : k < 24) {i : Nat} (hi : i < τ.length) (hs : (z_tree τ i).length ≤ 60) : ∃ m', f221 2390 (nI k) (nI i) (z_hp S m) = some ((), z_hp S m') ∧ z_lw m' k (z_tree τ i) ∧ m' 2391 (104 + 10 * k + 9) = nI (z_tree τ i).length ∧ (∀ a, a ≠ 2391 → a ≠ 2401 → m' a = m a) ∧ ∀ j, j ≠ 104 + 10 * k + 9 → (j < 344 + 576 * k ∨ 344 + 576 * k + 576 ≤ j) → m' 2391 j = m 2391 j := by
  have hl := hW.1
  have key := z_loopI (f := fun s => f221_12b (s.1) (s.2.1) (s.2.2.1) (s.2.2.2)) (S := S) (fun n s m' => ∃ (σ : List Nat) (w : List z_N), n = 60 - w.length ∧ s = (2390, nI k, nI σ.length, nI w.length) ∧ z_stk m' 2401 σ ∧ z_lw m' k w ∧ (∀ x ∈ σ, x < τ.length) ∧ w ++ z_pil τ σ = z_tree τ i ∧ (∀ a, a ≠ 2391 → a ≠ 2401 → m' a = m a) ∧ ∀ j, (j < 344 + 576 * k ∨ 344 + 576 * k + 576 ≤ j) → m' 2391 j = m 2391 j) (fun _ m' => z_lw m' k (z_tree τ i) ∧ m' 2391 (104 + 10 * k + 9) = nI (z_tree τ i).length ∧ (∀ a, a ≠ 2391 → a ≠ 2401 → m' a = m a) ∧ ∀ j, j ≠ 104 + 10 * k + 9 → (j < 344 + 576 * k ∨ 344 + 576 * k + 576 ≤ j) → m' 2391 j = m 2391 j) ?_ 1000000 60 (2390, nI k, 1, 0) (z_up m 2401 0 (nI i)) ⟨[i], [], rfl, rfl, fun j hj => ?_, fun j hj => absurd hj (Nat.not_lt_zero _), fun x hx => ?_, ?_, fun a g1 g2 => z_up_row g2, fun j g => z_up_a (by decide)⟩ (by decide)
  · obtain ⟨r, m', e, hq⟩ := key
    refine ⟨m', ?_, hq⟩
    unfold f221
    simp (disch := ((try simp only [true_or, or_true, hM.k, hM.k2391, hM.k2392, hM.k2393, hM.k2394, hM.k2395, hM.k2396, hM.k2397, hM.k2398, hM.k2399, hM.k2400, hM.k2401, hM.k2402, hM.k2403, hM.k2404, hM.k2405, hM.k2406, hM.k2407, hM.k2408, hM.k2409, hM.k2410, hM.k2411, hM.k2412, hM.k2413, hM.k2414, hM.k2415, hM.k2416, hM.k2417, hM.k2418, hM.k2419, hM.k2420, hM.k2421, hM.k2422, hM.k2423, hM.l2391, hM.l2392, hM.l2393, hM.l2394, hM.l2395, hM.l2396, hM.l2397, hM.l2398, hM.l2399, hM.l2400, hM.l2401, hM.l2402, hM.l2403, hM.l2404, hM.l2405, hM.l2406, hM.l2407, hM.l2408, hM.l2409, hM.l2410, hM.l2411, hM.l2412, hM.l2413, hM.l2414, hM.l2415, hM.l2416, hM.l2417, hM.l2418, hM.l2419, hM.l2420, hM.l2421, hM.l2422, hM.l2423]) <;> (try omega))) only [↓reduceIte, ↓z_ite, ↓zR, ↓zB_R, ↓zB_B, ↓zB_ite, ↓zB_gI, ↓zB_pI, ↓zB_pZ, ↓zB_aK, ↓zB_G, ↓zB_lI, ↓zB_lZ, ↓zB_wI, ↓zB_wZ, ↓zB_lIl, ↓zB_wIl, zB_pI, zB_pZ, zB_lI, zB_lZ, zB_wI, zB_wZ, z_addl, z_ladd, z_mull, z_lmul, nI_add, z_subl, Nat.not_lt_zero, z_10, z_01, z_bitc, z_b0, z_b1, ↓zB_Gb, ↓zB_G0, ↓zB_G1, z_eql, z_leq, z_ltl, z_llt, z_eq, z_lt, z_m1lt, hM.k, hM.k2391, hM.k2392, hM.k2393, hM.k2394, hM.k2395, hM.k2396, hM.k2397, hM.k2398, hM.k2399, hM.k2400, hM.k2401, hM.k2402, hM.k2403, hM.k2404, hM.k2405, hM.k2406, hM.k2407, hM.k2408, hM.k2409, hM.k2410, hM.k2411, hM.k2412, hM.k2413, hM.k2414, hM.k2415, hM.k2416, hM.k2417, hM.k2418, hM.k2419, hM.k2420, hM.k2421, hM.k2422, hM.k2423, hM.l2391, hM.l2392, hM.l2393, hM.l2394, hM.l2395, hM.l2396, hM.l2397, hM.l2398, hM.l2399, hM.l2400, hM.l2401, hM.l2402, hM.l2403, hM.l2404, hM.l2405, hM.l2406, hM.l2407, hM.l2408, hM.l2409, hM.l2410, hM.l2411, hM.l2412, hM.l2413, hM.l2414, hM.l2415, hM.l2416, hM.l2417, hM.l2418, hM.l2419, hM.l2420, hM.l2421, hM.l2422, hM.l2423, ↓hM.g1, ↓hM.g5, ↓hM.g6, ↓hM.g7, ↓hM.g8, ↓hM.g9, ↓hM.g10, ↓hM.g11, ↓hM.g12, ↓hM.g13, ↓hM.g14, ↓hM.g16, ↓hM.g17, ↓hM.g18, ↓hM.g19, ↓hM.g21, ↓hM.g22, ↓hM.g23, ↓hM.g24, ↓hM.g25, ↓hM.g27, ↓hM.g28, ↓hM.g30, ↓hM.g31, ↓hM.g32, ↓hM.g36, ↓hM.g37, ↓hM.g39, ↓hM.g40, ↓hM.g41, ↓hM.g43, ↓hM.g45, ↓hM.g46]
    exact e
  · rintro n s m' ⟨σ, w, rfl, rfl, g1, g2, g3, g4, g5, g6⟩
    dsimp only
    have hlen : w.length + (z_pil τ σ).length ≤ 60 := by rw [← List.length_append, g4]; exact hs
    have hσ := z_pil_len (τ := τ) σ
    cases σ with
    | nil =>
      rw [show z_pil τ [] = [] from rfl, List.append_nil] at g4
      refine Or.inr ⟨(), z_up m' 2391 (104 + 10 * k + 9) (nI w.length), ?_, fun j hj => ?_, ?_, fun a x1 x2 => ?_, fun j x1 x2 => ?_⟩
      · unfold f221_12b f221_115 f197
        have e0 : nI ([] : List Nat).length = 0 := rfl
        have e1 : ¬ (0 : Int32) < 0 := by decide
        rw [e0, if_neg e1]
        simp (disch := ((try simp only [true_or, or_true, hM.k, hM.k2391, hM.k2392, hM.k2393, hM.k2394, hM.k2395, hM.k2396, hM.k2397, hM.k2398, hM.k2399, hM.k2400, hM.k2401, hM.k2402, hM.k2403, hM.k2404, hM.k2405, hM.k2406, hM.k2407, hM.k2408, hM.k2409, hM.k2410, hM.k2411, hM.k2412, hM.k2413, hM.k2414, hM.k2415, hM.k2416, hM.k2417, hM.k2418, hM.k2419, hM.k2420, hM.k2421, hM.k2422, hM.k2423, hM.l2391, hM.l2392, hM.l2393, hM.l2394, hM.l2395, hM.l2396, hM.l2397, hM.l2398, hM.l2399, hM.l2400, hM.l2401, hM.l2402, hM.l2403, hM.l2404, hM.l2405, hM.l2406, hM.l2407, hM.l2408, hM.l2409, hM.l2410, hM.l2411, hM.l2412, hM.l2413, hM.l2414, hM.l2415, hM.l2416, hM.l2417, hM.l2418, hM.l2419, hM.l2420, hM.l2421, hM.l2422, hM.l2423]) <;> (try omega))) only [↓reduceIte, ↓z_ite, ↓zR, ↓zB_R, ↓zB_B, ↓zB_ite, ↓zB_gI, ↓zB_pI, ↓zB_pZ, ↓zB_aK, ↓zB_G, ↓zB_lI, ↓zB_lZ, ↓zB_wI, ↓zB_wZ, ↓zB_lIl, ↓zB_wIl, zB_pI, zB_pZ, zB_lI, zB_lZ, zB_wI, zB_wZ, z_addl, z_ladd, z_mull, z_lmul, nI_add, z_subl, Nat.not_lt_zero, z_10, z_01, z_bitc, z_b0, z_b1, ↓zB_Gb, ↓zB_G0, ↓zB_G1, z_eql, z_leq, z_ltl, z_llt, z_eq, z_lt, z_m1lt, hM.k, hM.k2391, hM.k2392, hM.k2393, hM.k2394, hM.k2395, hM.k2396, hM.k2397, hM.k2398, hM.k2399, hM.k2400, hM.k2401, hM.k2402, hM.k2403, hM.k2404, hM.k2405, hM.k2406, hM.k2407, hM.k2408, hM.k2409, hM.k2410, hM.k2411, hM.k2412, hM.k2413, hM.k2414, hM.k2415, hM.k2416, hM.k2417, hM.k2418, hM.k2419, hM.k2420, hM.k2421, hM.k2422, hM.k2423, hM.l2391, hM.l2392, hM.l2393, hM.l2394, hM.l2395, hM.l2396, hM.l2397, hM.l2398, hM.l2399, hM.l2400, hM.l2401, hM.l2402, hM.l2403, hM.l2404, hM.l2405, hM.l2406, hM.l2407, hM.l2408, hM.l2409, hM.l2410, hM.l2411, hM.l2412, hM.l2413, hM.l2414, hM.l2415, hM.l2416, hM.l2417, hM.l2418, hM.l2419, hM.l2420, hM.l2421, hM.l2422, hM.l2423, ↓hM.g1, ↓hM.g5, ↓hM.g6, ↓hM.g7, ↓hM.g8, ↓hM.g9, ↓hM.g10, ↓hM.g11, ↓hM.g12, ↓hM.g13, ↓hM.g14, ↓hM.g16, ↓hM.g17, ↓hM.g18, ↓hM.g19, ↓hM.g21, ↓hM.g22, ↓hM.g23, ↓hM.g24, ↓hM.g25, ↓hM.g27, ↓hM.g28, ↓hM.g30, ↓hM.g31, ↓hM.g32, ↓hM.g36, ↓hM.g37, ↓hM.g39, ↓hM.g40, ↓hM.g41, ↓hM.g43, ↓hM.g45, ↓hM.g46, show (14200 : Int32) * 0 + 104 = 104 from by decide]
      · rw [z_up_b (by omega), z_up_b (by omega), z_up_b (by omega), ← g4]
        exact g2 j (by rw [g4]; exact hj)
      · rw [z_up_s, g4]
      · rw [z_up_row x1]; exact g5 a x1 x2
      · rw [z_up_b x1]; exact g6 j x2
    | cons x σ =>
      have hx : x < τ.length := g3 x (List.mem_cons_self)
      have hT : z_mT m' τ := z_mT_fr (by rw [g5 2390 (by decide) (by decide)]) (fun a x1 x2 => g5 a (by omega) (by omega)) h
      obtain ⟨t0, t1, t2, _, _⟩ := hT.2 x hx
      have hpil : z_pil τ (x :: σ) = z_tree τ x ++ z_pil τ σ := rfl
      have htr := z_tree_eq hW hx
      have etop : m' 2401 σ.length = nI x := by
        have := g1 σ.length (Nat.lt_succ_self _)
        rw [this]
        show nI ((x :: σ).getD (σ.length + 1 - 1 - σ.length) 0) = nI x
        rw [show σ.length + 1 - 1 - σ.length = 0 by omega]; rfl
      have hpil2 := z_pil_cat (τ := τ) (z_tq (z_tat τ x)) σ 0 (z_tn (z_tat τ x))
      have hnew : z_tree τ x ++ z_pil τ σ = (z_tat τ x).1 :: z_pil τ ((List.range' 0 (z_tn (z_tat τ x))).map (z_tq (z_tat τ x)) ++ σ) := by
        rw [hpil2, htr, List.cons_append]
        simp only [Nat.zero_add]
      have hσ2 := z_pil_len (τ := τ) ((List.range' 0 (z_tn (z_tat τ x))).map (z_tq (z_tat τ x)) ++ σ)
      have hlen2 : ((List.range' 0 (z_tn (z_tat τ x))).map (z_tq (z_tat τ x)) ++ σ).length = σ.length + z_tn (z_tat τ x) := by
        rw [List.length_append, List.length_map, List.length_range']; omega
      have hl3 : (z_pil τ (x :: σ)).length = 1 + (z_pil τ ((List.range' 0 (z_tn (z_tat τ x))).map (z_tq (z_tat τ x)) ++ σ)).length := by
        rw [hpil, hnew, List.length_cons]; omega
      have hw : w.length < 60 := by omega
      generalize hm2 : z_up (z_up (z_up m' 2391 (344 + 576 * k + w.length) (z_tat τ x).1.1) 2391 (344 + 576 * k + w.length + 192) (z_tat τ x).1.2.1) 2391 (344 + 576 * k + w.length + 384) (z_tat τ x).1.2.2 = m2
      have hfr : ∀ a, a ≠ 2391 → m2 a = m' a := fun a x1 => by rw [← hm2, z_up_row x1, z_up_row x1, z_up_row x1]
      have hT2 : z_mT m2 τ := z_mT_fr (by rw [hfr 2390 (by decide)]) (fun a x1 x2 => hfr a (by omega)) hT
      obtain ⟨u0, u1, u2, _, _⟩ := hT2.2 x hx
      obtain ⟨m3, e3, f1', f2', f3'⟩ := f221_80_sp (S := S) hM hW hT2 (k := k) (h0 := σ.length) (w := w.length + 1) hk hx (by omega) (by omega)
      have e183 := f183_w (S := S) (m := m2) (hW.2 x hx).1
      have hm3 : m3 2391 = m2 2391 := f1' 2391 (by decide)
      refine Or.inl ⟨(2390, nI k, nI (σ.length + z_tn (z_tat τ x)), nI (w.length + 1)), m3, 60 - (w.length + 1), ?_, by omega, (List.range' 0 (z_tn (z_tat τ x))).map (z_tq (z_tat τ x)) ++ σ, w ++ [(z_tat τ x).1], by rw [List.length_append]; rfl, ?_, ?_, fun j hj => ?_, fun y hy => ?_, ?_, fun a x1 x2 => ?_, fun j x1 => ?_⟩
      · unfold f221_12b f202 f198
        rw [show nI (x :: σ).length = nI (σ.length + 1) from rfl]
        have eσ : σ.length < 60 := by omega
        have hpos : 0 < σ.length + 1 := Nat.succ_pos _
        have e183' : f183 (z_tat τ x).1.1 (z_tat τ x).1.2.2 (z_hp S m2) = some (nI (z_tn (z_tat τ x)), z_hp S m2) := e183
        simp (disch := ((try simp only [true_or, or_true, hM.k, hM.k2391, hM.k2392, hM.k2393, hM.k2394, hM.k2395, hM.k2396, hM.k2397, hM.k2398, hM.k2399, hM.k2400, hM.k2401, hM.k2402, hM.k2403, hM.k2404, hM.k2405, hM.k2406, hM.k2407, hM.k2408, hM.k2409, hM.k2410, hM.k2411, hM.k2412, hM.k2413, hM.k2414, hM.k2415, hM.k2416, hM.k2417, hM.k2418, hM.k2419, hM.k2420, hM.k2421, hM.k2422, hM.k2423, hM.l2391, hM.l2392, hM.l2393, hM.l2394, hM.l2395, hM.l2396, hM.l2397, hM.l2398, hM.l2399, hM.l2400, hM.l2401, hM.l2402, hM.l2403, hM.l2404, hM.l2405, hM.l2406, hM.l2407, hM.l2408, hM.l2409, hM.l2410, hM.l2411, hM.l2412, hM.l2413, hM.l2414, hM.l2415, hM.l2416, hM.l2417, hM.l2418, hM.l2419, hM.l2420, hM.l2421, hM.l2422, hM.l2423]) <;> (try omega))) only [↓reduceIte, ↓z_ite, ↓zR, ↓zB_R, ↓zB_B, ↓zB_ite, ↓zB_gI, ↓zB_pI, ↓zB_pZ, ↓zB_aK, ↓zB_G, ↓zB_lI, ↓zB_lZ, ↓zB_wI, ↓zB_wZ, ↓zB_lIl, ↓zB_wIl, zB_pI, zB_pZ, zB_lI, zB_lZ, zB_wI, zB_wZ, z_addl, z_ladd, z_mull, z_lmul, nI_add, z_subl, Nat.not_lt_zero, z_10, z_01, z_bitc, z_b0, z_b1, ↓zB_Gb, ↓zB_G0, ↓zB_G1, z_eql, z_leq, z_ltl, z_llt, z_eq, z_lt, z_m1lt, hM.k, hM.k2391, hM.k2392, hM.k2393, hM.k2394, hM.k2395, hM.k2396, hM.k2397, hM.k2398, hM.k2399, hM.k2400, hM.k2401, hM.k2402, hM.k2403, hM.k2404, hM.k2405, hM.k2406, hM.k2407, hM.k2408, hM.k2409, hM.k2410, hM.k2411, hM.k2412, hM.k2413, hM.k2414, hM.k2415, hM.k2416, hM.k2417, hM.k2418, hM.k2419, hM.k2420, hM.k2421, hM.k2422, hM.k2423, hM.l2391, hM.l2392, hM.l2393, hM.l2394, hM.l2395, hM.l2396, hM.l2397, hM.l2398, hM.l2399, hM.l2400, hM.l2401, hM.l2402, hM.l2403, hM.l2404, hM.l2405, hM.l2406, hM.l2407, hM.l2408, hM.l2409, hM.l2410, hM.l2411, hM.l2412, hM.l2413, hM.l2414, hM.l2415, hM.l2416, hM.l2417, hM.l2418, hM.l2419, hM.l2420, hM.l2421, hM.l2422, hM.l2423, ↓hM.g1, ↓hM.g5, ↓hM.g6, ↓hM.g7, ↓hM.g8, ↓hM.g9, ↓hM.g10, ↓hM.g11, ↓hM.g12, ↓hM.g13, ↓hM.g14, ↓hM.g16, ↓hM.g17, ↓hM.g18, ↓hM.g19, ↓hM.g21, ↓hM.g22, ↓hM.g23, ↓hM.g24, ↓hM.g25, ↓hM.g27, ↓hM.g28, ↓hM.g30, ↓hM.g31, ↓hM.g32, ↓hM.g36, ↓hM.g37, ↓hM.g39, ↓hM.g40, ↓hM.g41, ↓hM.g43, ↓hM.g45, ↓hM.g46, hw, hpos, pk_m1, etop, t0, t1, t2, show (14200 : Int32) * 0 + 344 = 344 from by decide, hm2, u0, u2, ↓zB_c e183', zB_c e183']
        exact e3
      · rw [hlen2, List.length_append]; rfl
      · refine z_stk_push (f := z_tq (z_tat τ x)) (fun j hj => ?_) f3'
        rw [f2' j hj, hfr 2401 (by decide), g1 j (Nat.lt_succ_of_lt hj)]
        show nI ((x :: σ).getD (σ.length + 1 - 1 - j) 0) = _
        rw [show σ.length + 1 - 1 - j = (σ.length - 1 - j) + 1 by omega]; rfl
      · rw [List.length_append] at hj
        have hj : j < w.length + 1 := hj
        rw [hm3, ← hm2]
        unfold z_k z_v z_a z_at
        rw [List.getD_eq_getElem?_getD]
        rcases Nat.lt_succ_iff_lt_or_eq.mp hj with y1 | y1
        · rw [List.getElem?_append_left y1, ← List.getD_eq_getElem?_getD, z_up_b (by omega), z_up_b (by omega), z_up_b (by omega), z_up_b (by omega), z_up_b (by omega), z_up_b (by omega), z_up_b (by omega), z_up_b (by omega), z_up_b (by omega)]
          exact g2 j y1
        · rw [List.getElem?_append_right (by omega), y1, Nat.sub_self]
          refine ⟨?_, ?_, ?_⟩
          · rw [z_up_b (by omega), z_up_b (by omega), z_up_s]; rfl
          · rw [z_up_b (by omega), z_up_s]; rfl
          · rw [z_up_s]; rfl
      · rcases List.mem_append.mp hy with h1 | h1
        · obtain ⟨q, hq, rfl⟩ := List.mem_map.mp h1
          have hq2 : q < z_tn (z_tat τ x) := by
            have := List.mem_range'.mp hq
            omega
          have := (hW.2 x hx).2.2 q hq2
          omega
        · exact g3 y (List.mem_cons_of_mem _ h1)
      · rw [List.append_assoc, ← g4, hpil, hnew]; rfl
      · rw [f1' a x2, hfr a x1]; exact g5 a x1 x2
      · rw [hm3, ← hm2, z_up_b (by omega), z_up_b (by omega), z_up_b (by omega)]; exact g6 j x1
  · have : j = 0 := by simpa using hj
    rw [this, z_up_s]; rfl
  · rw [List.mem_singleton.mp hx]; exact hi
  · show z_tree τ i ++ [] = _
    exact List.append_nil _
end
