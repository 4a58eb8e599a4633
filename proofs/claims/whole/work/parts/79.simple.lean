/-! what changes the program of now alone; wrong, value, steps -/
section
variable {S : z_S} {m : z_m} {A : z_A}
/-- the state with another program of now -/
def z_wn (A : z_A) (P : z_Pg) : z_A := (A.1, P, A.2.2)
theorem z_CM_now (hw : z_WA A) {sn sx : Nat} {sp : Nat → Nat} (hI : z_ID S sn sx sp) (h : z_CM m sn sp A) {m' : z_m} {P : z_Pg} (hm : ∀ a, a ≠ 9 → (a < z_pid sn ∨ z_pid sn + 179 ≤ a) → m' a = m a) (hk : z_PK m' (z_pid sn) P) : z_CM m' sn sp (z_wn A P) := by
  obtain ⟨hR, hT, ⟨h1, h2, h3, h4⟩, h5, h6⟩ := h
  have lo := z_pid_lo sn
  have r0 : ∀ a, a < 242 → a ≠ 9 → m' a = m a := fun a ha h9 => hm a h9 (by omega)
  obtain ⟨_, _, _, ⟨i1, i2, i3⟩, ⟨j1, j2, j3⟩, _⟩ := hI
  refine ⟨?_, ?_, ⟨hk, ?_, ?_, fun i hi => ?_⟩, ?_, ?_⟩
  · obtain ⟨a1, a2, a3, a4, a5, a6⟩ := hR
    refine ⟨fun s hs k hk2 => ?_, fun k hk2 => ?_, ?_, ?_, ?_, ?_⟩
    · by_cases g : s = sn
      · rw [g]; exact hk.1.2.2.1 k hk2
      · rw [hm _ (by have := z_pid_lo s; unfold z_bi; omega) (by have := z_pid_ap g; unfold z_bi; omega)]
        exact a1 s hs k hk2
    · rw [r0 _ (by unfold z_bi; omega) (by unfold z_bi; omega)]; exact a2 k hk2
    · rw [r0 _ (by decide) (by decide)]; exact a3
    · rw [r0 _ (by decide) (by decide)]; exact a4
    · rw [r0 _ (by decide) (by decide)]; exact a5
    · rw [r0 _ (by decide) (by decide)]; exact a6
  · unfold z_cT at *
    rw [r0 1 (by decide) (by decide), r0 2 (by decide) (by decide), r0 3 (by decide) (by decide), r0 4 (by decide) (by decide), r0 5 (by decide) (by decide), r0 6 (by decide) (by decide)]
    exact hT
  · show (match A.2.2.1 with | none => m' 0 12 = 0 | some Bg => m' 0 12 = 1 ∧ z_PK m' 62 Bg)
    rw [r0 0 (by decide) (by decide)]
    cases hb : A.2.2.1 with
    | none => rw [hb] at h2; exact h2
    | some Bg =>
      rw [hb] at h2
      exact ⟨h2.1, z_PK_fr (z_wf_nm (hw.2.2.1 Bg hb).1) (fun a x1 x2 => r0 a (by omega) (by omega)) h2.2⟩
  · rw [r0 0 (by decide) (by decide)]; exact h3
  · have hi10 : i < 10 := Nat.lt_of_lt_of_le hi hw.2.2.2.1
    refine z_PK_fr (z_wf_nm (hw.2.2.2.2 i hi).1) (fun a x1 x2 => hm a ?_ ?_) (h4 i hi)
    · have := z_pid_lo (sp i); omega
    · have := z_pid_ap (j2 i hi10).1; omega
  · rw [r0 10 (by decide) (by decide)]; exact h5
  · rw [r0 10 (by decide) (by decide)]; exact h6
theorem z_wn_id : z_wn A A.2.1 = A := rfl
/-- Checker.isRight, of the program of now -/
theorem c_right (hw : z_WA A) {sn sx : Nat} {sp : Nat → Nat} (hI : z_ID S sn sx sp) (h : z_CM m sn sp A) : ∃ m1, f21 8 (z_pid sn) (z_hp S m) = some (z_b (z_wr A.2.1 == -1), z_hp S m1) ∧ z_CM m1 sn sp A ∧ (∀ a, 2390 ≤ a → m1 a = m a) ∧ m1 (z_pid sn) 14 = 1 := by
  have lo := z_pid_lo sn
  have hs := hI.2.2.2.1.1
  obtain ⟨m1, e, g1, g2, g3, g4⟩ := f21_sp hI.1 (hI.2.2.1 sn hs) (by omega) h.2.2.1.1.1 hw.2.1.1 h.2.2.1.1.2
  refine ⟨m1, e, z_CM_now hw hI h g4 ⟨g1, g3⟩, fun a ha => g4 a (by omega) (by unfold z_pid; omega), g2⟩
/-- requireRight, of the program of now -/
theorem c_rr_y (hw : z_WA A) {sn sx : Nat} {sp : Nat → Nat} (hI : z_ID S sn sx sp) (h : z_CM m sn sp A) (hr : z_wr A.2.1 = -1) : ∃ m1, f169 0 (z_pid sn) (z_hp S m) = some (.inl (), z_hp S m1) ∧ z_CM m1 sn sp A ∧ (∀ a, 2390 ≤ a → m1 a = m a) ∧ m1 (z_pid sn) 14 = 1 := by
  obtain ⟨m1, e, h1⟩ := c_right hw hI h
  refine ⟨m1, ?_, h1⟩
  have hX := hI.1
  rw [hr] at e
  unfold f169
  simp (disch := ((try simp only [true_or, or_true, hX.k0, hX.k8, hX.k9, hX.l9]) <;> (try omega))) only [↓reduceIte, ↓z_ite, ↓zR, ↓zB_R, ↓zB_B, ↓zB_ite, ↓zB_gI, ↓zB_pI, ↓zB_pZ, ↓zB_aK, ↓zB_G, ↓zB_lI, ↓zB_lZ, ↓zB_wI, ↓zB_wZ, ↓zB_lIl, ↓zB_wIl, zB_pI, zB_pZ, zB_lI, zB_lZ, zB_wI, zB_wZ, z_addl, z_ladd, z_mull, z_lmul, nI_add, z_subl, Nat.not_lt_zero, z_10, z_01, z_bitc, z_b0, z_b1, ↓zB_Gb, ↓zB_G0, ↓zB_G1, z_eql, z_leq, z_ltl, z_llt, z_eq, z_lt, z_m1lt, hX.k0, hX.k8, hX.k9, hX.l9, ↓hX.g0_0, ↓hX.g0_1, ↓hX.g0_2, ↓hX.g0_3, ↓hX.g0_4, ↓hX.g0_5, ↓hX.g0_6, ↓hX.g0_7, ↓hX.g0_8, ↓hX.g0_9, ↓hX.g8_0, ↓zB_c e, zB_c e, show ((-1 : Int32) == -1) = true from rfl, Bool.true_eq_false]
theorem c_rr_n (hw : z_WA A) {sn sx : Nat} {sp : Nat → Nat} (hI : z_ID S sn sx sp) (h : z_CM m sn sp A) (hr : ¬ z_wr A.2.1 = -1) : ∃ m1, f169 0 (z_pid sn) (z_hp S m) = some (.inr 0, z_hp (z_Sx S) m1) ∧ z_CM m1 sn sp A ∧ (∀ a, 2390 ≤ a → m1 a = m a) := by
  obtain ⟨m1, e, h1⟩ := c_right hw hI h
  refine ⟨m1, ?_, h1.1, h1.2.1⟩
  have hX := hI.1
  rw [show (z_wr A.2.1 == -1) = false by simpa using hr] at e
  unfold f169
  simp (disch := ((try simp only [true_or, or_true, hX.k0, hX.k8, hX.k9, hX.l9]) <;> (try omega))) only [↓reduceIte, ↓z_ite, ↓zR, ↓zB_R, ↓zB_B, ↓zB_ite, ↓zB_gI, ↓zB_pI, ↓zB_pZ, ↓zB_aK, ↓zB_G, ↓zB_lI, ↓zB_lZ, ↓zB_wI, ↓zB_wZ, ↓zB_lIl, ↓zB_wIl, zB_pI, zB_pZ, zB_lI, zB_lZ, zB_wI, zB_wZ, z_addl, z_ladd, z_mull, z_lmul, nI_add, z_subl, Nat.not_lt_zero, z_10, z_01, z_bitc, z_b0, z_b1, ↓zB_Gb, ↓zB_G0, ↓zB_G1, z_eql, z_leq, z_ltl, z_llt, z_eq, z_lt, z_m1lt, hX.k0, hX.k8, hX.k9, hX.l9, ↓hX.g0_0, ↓hX.g0_1, ↓hX.g0_2, ↓hX.g0_3, ↓hX.g0_4, ↓hX.g0_5, ↓hX.g0_6, ↓hX.g0_7, ↓hX.g0_8, ↓hX.g0_9, ↓hX.g8_0, ↓zB_c e, zB_c e, z_thw]
theorem c_wrong (hw : z_WA A) (h : z_CR S m A) : ∃ m1, f138 0 (z_hp S m) = some (z_wr A.2.1, z_hp S m1) ∧ z_CR S m1 A ∧ ∀ a, 2390 ≤ a → m1 a = m a := by
  obtain ⟨sn, sx, sp, hI, hCM⟩ := h
  obtain ⟨m1, e, h1, h2, h14⟩ := c_right hw hI hCM
  have hX := hI.1
  have hp := hI.2.2.1 sn hI.2.2.2.1.1
  have e13 := (h1.2.2.1.1.2.2 h14).1
  refine ⟨m1, ?_, ⟨sn, sx, sp, hI, h1⟩, h2⟩
  unfold f138
  simp (disch := ((try simp only [true_or, or_true, hX.k0, hX.k8, hX.k9, hX.l9, hp.k, hp.k1, hp.k2, hp.k3, hp.k4, hp.k5, hp.k6, hp.k7, hp.k8, hp.k9, hp.k10, hp.l1, hp.l2, hp.l3, hp.l4, hp.l5, hp.l6, hp.l7, hp.l8, hp.l9, hp.l10]) <;> (try omega))) only [↓reduceIte, ↓z_ite, ↓zR, ↓zB_R, ↓zB_B, ↓zB_ite, ↓zB_gI, ↓zB_pI, ↓zB_pZ, ↓zB_aK, ↓zB_G, ↓zB_lI, ↓zB_lZ, ↓zB_wI, ↓zB_wZ, ↓zB_lIl, ↓zB_wIl, zB_pI, zB_pZ, zB_lI, zB_lZ, zB_wI, zB_wZ, z_addl, z_ladd, z_mull, z_lmul, nI_add, z_subl, Nat.not_lt_zero, z_10, z_01, z_bitc, z_b0, z_b1, ↓zB_Gb, ↓zB_G0, ↓zB_G1, z_eql, z_leq, z_ltl, z_llt, z_eq, z_lt, z_m1lt, hX.k0, hX.k8, hX.k9, hX.l9, hp.k, hp.k1, hp.k2, hp.k3, hp.k4, hp.k5, hp.k6, hp.k7, hp.k8, hp.k9, hp.k10, hp.l1, hp.l2, hp.l3, hp.l4, hp.l5, hp.l6, hp.l7, hp.l8, hp.l9, hp.l10, ↓hX.g0_0, ↓hX.g0_1, ↓hX.g0_2, ↓hX.g0_3, ↓hX.g0_4, ↓hX.g0_5, ↓hX.g0_6, ↓hX.g0_7, ↓hX.g0_8, ↓hX.g0_9, ↓hX.g8_0, ↓hp.g0, ↓hp.g1, ↓hp.g2, ↓hp.g3, ↓hp.g4, ↓hp.g5, ↓hp.g6, ↓hp.g7, ↓hp.g8, ↓hp.g9, ↓hp.gb, hp.gb, ↓z_gnow hX hI.2.2.2.2.2.1, z_gnow hX hI.2.2.2.2.2.1, ↓zB_c e, zB_c e, e13]
theorem c_value (h : z_CR S m A) : f155 0 (z_hp S m) = some (A.2.2.2.2.1, z_hp S m) := by
  obtain ⟨sn, sx, sp, hI, hCM⟩ := h
  have hX := hI.1
  have e := hCM.2.2.2.1
  unfold f155
  simp (disch := ((try simp only [true_or, or_true, hX.k0, hX.k10, hX.k11, hX.k12, hX.k13, hX.k14, hX.k15, hX.k16, hX.k17, hX.k18, hX.k19, hX.k20, hX.l11, hX.l12, hX.l13, hX.l14, hX.l15, hX.l16, hX.l17, hX.l18, hX.l19, hX.l20]) <;> (try omega))) only [↓reduceIte, ↓z_ite, ↓zR, ↓zB_R, ↓zB_B, ↓zB_ite, ↓zB_gI, ↓zB_pI, ↓zB_pZ, ↓zB_aK, ↓zB_G, ↓zB_lI, ↓zB_lZ, ↓zB_wI, ↓zB_wZ, ↓zB_lIl, ↓zB_wIl, zB_pI, zB_pZ, zB_lI, zB_lZ, zB_wI, zB_wZ, z_addl, z_ladd, z_mull, z_lmul, nI_add, z_subl, Nat.not_lt_zero, z_10, z_01, z_bitc, z_b0, z_b1, ↓zB_Gb, ↓zB_G0, ↓zB_G1, z_eql, z_leq, z_ltl, z_llt, z_eq, z_lt, z_m1lt, hX.k0, hX.k10, hX.k11, hX.k12, hX.k13, hX.k14, hX.k15, hX.k16, hX.k17, hX.k18, hX.k19, hX.k20, hX.l11, hX.l12, hX.l13, hX.l14, hX.l15, hX.l16, hX.l17, hX.l18, hX.l19, hX.l20, ↓hX.g0_0, ↓hX.g0_1, ↓hX.g0_2, ↓hX.g0_3, ↓hX.g0_4, ↓hX.g0_5, ↓hX.g0_6, ↓hX.g0_7, ↓hX.g0_8, ↓hX.g0_9, ↓hX.g10_0, ↓hX.g10_1, ↓hX.g10_2, ↓hX.g10_3, ↓hX.g10_4, ↓hX.g10_5, ↓hX.g10_6, ↓hX.g10_7, ↓hX.g10_8, ↓hX.g10_9, e]
theorem c_steps (h : z_CR S m A) : f156 0 (z_hp S m) = some (A.2.2.2.2.2, z_hp S m) := by
  obtain ⟨sn, sx, sp, hI, hCM⟩ := h
  have hX := hI.1
  have e := hCM.2.2.2.2
  unfold f156
  simp (disch := ((try simp only [true_or, or_true, hX.k0, hX.k10, hX.k11, hX.k12, hX.k13, hX.k14, hX.k15, hX.k16, hX.k17, hX.k18, hX.k19, hX.k20, hX.l11, hX.l12, hX.l13, hX.l14, hX.l15, hX.l16, hX.l17, hX.l18, hX.l19, hX.l20]) <;> (try omega))) only [↓reduceIte, ↓z_ite, ↓zR, ↓zB_R, ↓zB_B, ↓zB_ite, ↓zB_gI, ↓zB_pI, ↓zB_pZ, ↓zB_aK, ↓zB_G, ↓zB_lI, ↓zB_lZ, ↓zB_wI, ↓zB_wZ, ↓zB_lIl, ↓zB_wIl, zB_pI, zB_pZ, zB_lI, zB_lZ, zB_wI, zB_wZ, z_addl, z_ladd, z_mull, z_lmul, nI_add, z_subl, Nat.not_lt_zero, z_10, z_01, z_bitc, z_b0, z_b1, ↓zB_Gb, ↓zB_G0, ↓zB_G1, z_eql, z_leq, z_ltl, z_llt, z_eq, z_lt, z_m1lt, hX.k0, hX.k10, hX.k11, hX.k12, hX.k13, hX.k14, hX.k15, hX.k16, hX.k17, hX.k18, hX.k19, hX.k20, hX.l11, hX.l12, hX.l13, hX.l14, hX.l15, hX.l16, hX.l17, hX.l18, hX.l19, hX.l20, ↓hX.g0_0, ↓hX.g0_1, ↓hX.g0_2, ↓hX.g0_3, ↓hX.g0_4, ↓hX.g0_5, ↓hX.g0_6, ↓hX.g0_7, ↓hX.g0_8, ↓hX.g0_9, ↓hX.g10_0, ↓hX.g10_1, ↓hX.g10_2, ↓hX.g10_3, ↓hX.g10_4, ↓hX.g10_5, ↓hX.g10_6, ↓hX.g10_7, ↓hX.g10_8, ↓hX.g10_9, e]
/-- the reference after a look -/
theorem z_MR_LF {m' : z_m} (h : z_MR m A) (hF : z_LF m m') : z_MR m' A := by
  have r : ∀ a, a ≠ 2397 → a ≠ 2398 → a ≠ 2399 → a ≠ 2400 → m' a = m a := hF
  obtain ⟨h1, h2, h3, h4, h5, h6, h7⟩ := h
  have r0 := r 2390 (by decide) (by decide) (by decide) (by decide)
  have rw' := r 2391 (by decide) (by decide) (by decide) (by decide)
  refine ⟨?_, z_mb_fr rw' h2, ?_, by rw [r0]; exact h4, fun i hi => z_mb_fr rw' (h5 i hi), by rw [r0]; exact h6, by rw [r0]; exact h7.1, z_mz_fr rw' h7.2.1, fun i hi => z_mz_fr rw' (h7.2.2 i hi)⟩
  · unfold z_mT at *
    rw [r0, r 2392 (by decide) (by decide) (by decide) (by decide), r 2393 (by decide) (by decide) (by decide) (by decide), r 2394 (by decide) (by decide) (by decide) (by decide), r 2395 (by decide) (by decide) (by decide) (by decide), r 2396 (by decide) (by decide) (by decide) (by decide)]
    exact h1
  · rw [r0]
    cases hb : A.2.2.1 with
    | none => rw [hb] at h3; exact h3
    | some Bg => rw [hb] at h3; exact ⟨h3.1, z_mb_fr rw' h3.2⟩
theorem m_wrong (hM : z_MS S) (hw : z_WA A) (h : z_MR m A) : ∃ m1, f236 2390 (z_hp S m) = some (z_wr A.2.1, z_hp S m1) ∧ z_MR m1 A ∧ ∀ b, b < 2390 ∨ 2424 ≤ b → m1 b = m b := by
  have hr := z_MR_ref h 0
  obtain ⟨m1, e, h1, h2⟩ := f235_sp (S := S) (B := 0) hr.2.1 hM hw.2.1.1 rfl
  refine ⟨m1, ?_, z_MR_LF hr h1, fun b hb => ?_⟩
  · unfold f236
    simp (disch := ((try simp only [true_or, or_true, hM.k, hM.k2391, hM.k2392, hM.k2393, hM.k2394, hM.k2395, hM.k2396, hM.k2397, hM.k2398, hM.k2399, hM.k2400, hM.k2401, hM.k2402, hM.k2403, hM.k2404, hM.k2405, hM.k2406, hM.k2407, hM.k2408, hM.k2409, hM.k2410, hM.k2411, hM.k2412, hM.k2413, hM.k2414, hM.k2415, hM.k2416, hM.k2417, hM.k2418, hM.k2419, hM.k2420, hM.k2421, hM.k2422, hM.k2423, hM.l2391, hM.l2392, hM.l2393, hM.l2394, hM.l2395, hM.l2396, hM.l2397, hM.l2398, hM.l2399, hM.l2400, hM.l2401, hM.l2402, hM.l2403, hM.l2404, hM.l2405, hM.l2406, hM.l2407, hM.l2408, hM.l2409, hM.l2410, hM.l2411, hM.l2412, hM.l2413, hM.l2414, hM.l2415, hM.l2416, hM.l2417, hM.l2418, hM.l2419, hM.l2420, hM.l2421, hM.l2422, hM.l2423]) <;> (try omega))) only [↓reduceIte, ↓z_ite, ↓zR, ↓zB_R, ↓zB_B, ↓zB_ite, ↓zB_gI, ↓zB_pI, ↓zB_pZ, ↓zB_aK, ↓zB_G, ↓zB_lI, ↓zB_lZ, ↓zB_wI, ↓zB_wZ, ↓zB_lIl, ↓zB_wIl, zB_pI, zB_pZ, zB_lI, zB_lZ, zB_wI, zB_wZ, z_addl, z_ladd, z_mull, z_lmul, nI_add, z_subl, Nat.not_lt_zero, z_10, z_01, z_bitc, z_b0, z_b1, ↓zB_Gb, ↓zB_G0, ↓zB_G1, z_eql, z_leq, z_ltl, z_llt, z_eq, z_lt, z_m1lt, hM.k, hM.k2391, hM.k2392, hM.k2393, hM.k2394, hM.k2395, hM.k2396, hM.k2397, hM.k2398, hM.k2399, hM.k2400, hM.k2401, hM.k2402, hM.k2403, hM.k2404, hM.k2405, hM.k2406, hM.k2407, hM.k2408, hM.k2409, hM.k2410, hM.k2411, hM.k2412, hM.k2413, hM.k2414, hM.k2415, hM.k2416, hM.k2417, hM.k2418, hM.k2419, hM.k2420, hM.k2421, hM.k2422, hM.k2423, hM.l2391, hM.l2392, hM.l2393, hM.l2394, hM.l2395, hM.l2396, hM.l2397, hM.l2398, hM.l2399, hM.l2400, hM.l2401, hM.l2402, hM.l2403, hM.l2404, hM.l2405, hM.l2406, hM.l2407, hM.l2408, hM.l2409, hM.l2410, hM.l2411, hM.l2412, hM.l2413, hM.l2414, hM.l2415, hM.l2416, hM.l2417, hM.l2418, hM.l2419, hM.l2420, hM.l2421, hM.l2422, hM.l2423, ↓hM.g1, ↓hM.g5, ↓hM.g6, ↓hM.g7, ↓hM.g8, ↓hM.g9, ↓hM.g10, ↓hM.g11, ↓hM.g12, ↓hM.g13, ↓hM.g14, ↓hM.g16, ↓hM.g17, ↓hM.g18, ↓hM.g19, ↓hM.g21, ↓hM.g22, ↓hM.g23, ↓hM.g24, ↓hM.g25, ↓hM.g27, ↓hM.g28, ↓hM.g30, ↓hM.g31, ↓hM.g32, ↓hM.g36, ↓hM.g37, ↓hM.g39, ↓hM.g40, ↓hM.g41, ↓hM.g43, ↓hM.g45, ↓hM.g46, ↓zB_c e, zB_c e]
  · rw [h1 b (by omega) (by omega) (by omega) (by omega), z_up_row (by omega)]
theorem m_value (hM : z_MS S) (h : z_MR m A) : ∃ m1, f253 2390 (z_hp S m) = some (A.2.2.2.2.1, z_hp S m1) ∧ z_MR m1 A ∧ ∀ b, b < 2390 ∨ 2424 ≤ b → m1 b = m b := by
  refine ⟨z_up m 2390 0 0, ?_, z_MR_ref h 0, fun b hb => z_up_row (by omega)⟩
  have e : z_up m 2390 0 0 2390 35 = A.2.2.2.2.1 := by rw [z_up_b (by decide)]; exact h.2.2.2.2.2.1
  unfold f253
  simp (disch := ((try simp only [true_or, or_true, hM.k, hM.k2391, hM.k2392, hM.k2393, hM.k2394, hM.k2395, hM.k2396, hM.k2397, hM.k2398, hM.k2399, hM.k2400, hM.k2401, hM.k2402, hM.k2403, hM.k2404, hM.k2405, hM.k2406, hM.k2407, hM.k2408, hM.k2409, hM.k2410, hM.k2411, hM.k2412, hM.k2413, hM.k2414, hM.k2415, hM.k2416, hM.k2417, hM.k2418, hM.k2419, hM.k2420, hM.k2421, hM.k2422, hM.k2423, hM.l2391, hM.l2392, hM.l2393, hM.l2394, hM.l2395, hM.l2396, hM.l2397, hM.l2398, hM.l2399, hM.l2400, hM.l2401, hM.l2402, hM.l2403, hM.l2404, hM.l2405, hM.l2406, hM.l2407, hM.l2408, hM.l2409, hM.l2410, hM.l2411, hM.l2412, hM.l2413, hM.l2414, hM.l2415, hM.l2416, hM.l2417, hM.l2418, hM.l2419, hM.l2420, hM.l2421, hM.l2422, hM.l2423]) <;> (try omega))) only [↓reduceIte, ↓z_ite, ↓zR, ↓zB_R, ↓zB_B, ↓zB_ite, ↓zB_gI, ↓zB_pI, ↓zB_pZ, ↓zB_aK, ↓zB_G, ↓zB_lI, ↓zB_lZ, ↓zB_wI, ↓zB_wZ, ↓zB_lIl, ↓zB_wIl, zB_pI, zB_pZ, zB_lI, zB_lZ, zB_wI, zB_wZ, z_addl, z_ladd, z_mull, z_lmul, nI_add, z_subl, Nat.not_lt_zero, z_10, z_01, z_bitc, z_b0, z_b1, ↓zB_Gb, ↓zB_G0, ↓zB_G1, z_eql, z_leq, z_ltl, z_llt, z_eq, z_lt, z_m1lt, hM.k, hM.k2391, hM.k2392, hM.k2393, hM.k2394, hM.k2395, hM.k2396, hM.k2397, hM.k2398, hM.k2399, hM.k2400, hM.k2401, hM.k2402, hM.k2403, hM.k2404, hM.k2405, hM.k2406, hM.k2407, hM.k2408, hM.k2409, hM.k2410, hM.k2411, hM.k2412, hM.k2413, hM.k2414, hM.k2415, hM.k2416, hM.k2417, hM.k2418, hM.k2419, hM.k2420, hM.k2421, hM.k2422, hM.k2423, hM.l2391, hM.l2392, hM.l2393, hM.l2394, hM.l2395, hM.l2396, hM.l2397, hM.l2398, hM.l2399, hM.l2400, hM.l2401, hM.l2402, hM.l2403, hM.l2404, hM.l2405, hM.l2406, hM.l2407, hM.l2408, hM.l2409, hM.l2410, hM.l2411, hM.l2412, hM.l2413, hM.l2414, hM.l2415, hM.l2416, hM.l2417, hM.l2418, hM.l2419, hM.l2420, hM.l2421, hM.l2422, hM.l2423, ↓hM.g1, ↓hM.g5, ↓hM.g6, ↓hM.g7, ↓hM.g8, ↓hM.g9, ↓hM.g10, ↓hM.g11, ↓hM.g12, ↓hM.g13, ↓hM.g14, ↓hM.g16, ↓hM.g17, ↓hM.g18, ↓hM.g19, ↓hM.g21, ↓hM.g22, ↓hM.g23, ↓hM.g24, ↓hM.g25, ↓hM.g27, ↓hM.g28, ↓hM.g30, ↓hM.g31, ↓hM.g32, ↓hM.g36, ↓hM.g37, ↓hM.g39, ↓hM.g40, ↓hM.g41, ↓hM.g43, ↓hM.g45, ↓hM.g46, e]
theorem m_steps (hM : z_MS S) (h : z_MR m A) : ∃ m1, f254 2390 (z_hp S m) = some (A.2.2.2.2.2, z_hp S m1) ∧ z_MR m1 A ∧ ∀ b, b < 2390 ∨ 2424 ≤ b → m1 b = m b := by
  refine ⟨z_up m 2390 0 0, ?_, z_MR_ref h 0, fun b hb => z_up_row (by omega)⟩
  have e : z_up m 2390 0 0 2390 33 = A.2.2.2.2.2 := by rw [z_up_b (by decide)]; exact h.2.2.2.2.2.2.1
  unfold f254
  simp (disch := ((try simp only [true_or, or_true, hM.k, hM.k2391, hM.k2392, hM.k2393, hM.k2394, hM.k2395, hM.k2396, hM.k2397, hM.k2398, hM.k2399, hM.k2400, hM.k2401, hM.k2402, hM.k2403, hM.k2404, hM.k2405, hM.k2406, hM.k2407, hM.k2408, hM.k2409, hM.k2410, hM.k2411, hM.k2412, hM.k2413, hM.k2414, hM.k2415, hM.k2416, hM.k2417, hM.k2418, hM.k2419, hM.k2420, hM.k2421, hM.k2422, hM.k2423, hM.l2391, hM.l2392, hM.l2393, hM.l2394, hM.l2395, hM.l2396, hM.l2397, hM.l2398, hM.l2399, hM.l2400, hM.l2401, hM.l2402, hM.l2403, hM.l2404, hM.l2405, hM.l2406, hM.l2407, hM.l2408, hM.l2409, hM.l2410, hM.l2411, hM.l2412, hM.l2413, hM.l2414, hM.l2415, hM.l2416, hM.l2417, hM.l2418, hM.l2419, hM.l2420, hM.l2421, hM.l2422, hM.l2423]) <;> (try omega))) only [↓reduceIte, ↓z_ite, ↓zR, ↓zB_R, ↓zB_B, ↓zB_ite, ↓zB_gI, ↓zB_pI, ↓zB_pZ, ↓zB_aK, ↓zB_G, ↓zB_lI, ↓zB_lZ, ↓zB_wI, ↓zB_wZ, ↓zB_lIl, ↓zB_wIl, zB_pI, zB_pZ, zB_lI, zB_lZ, zB_wI, zB_wZ, z_addl, z_ladd, z_mull, z_lmul, nI_add, z_subl, Nat.not_lt_zero, z_10, z_01, z_bitc, z_b0, z_b1, ↓zB_Gb, ↓zB_G0, ↓zB_G1, z_eql, z_leq, z_ltl, z_llt, z_eq, z_lt, z_m1lt, hM.k, hM.k2391, hM.k2392, hM.k2393, hM.k2394, hM.k2395, hM.k2396, hM.k2397, hM.k2398, hM.k2399, hM.k2400, hM.k2401, hM.k2402, hM.k2403, hM.k2404, hM.k2405, hM.k2406, hM.k2407, hM.k2408, hM.k2409, hM.k2410, hM.k2411, hM.k2412, hM.k2413, hM.k2414, hM.k2415, hM.k2416, hM.k2417, hM.k2418, hM.k2419, hM.k2420, hM.k2421, hM.k2422, hM.k2423, hM.l2391, hM.l2392, hM.l2393, hM.l2394, hM.l2395, hM.l2396, hM.l2397, hM.l2398, hM.l2399, hM.l2400, hM.l2401, hM.l2402, hM.l2403, hM.l2404, hM.l2405, hM.l2406, hM.l2407, hM.l2408, hM.l2409, hM.l2410, hM.l2411, hM.l2412, hM.l2413, hM.l2414, hM.l2415, hM.l2416, hM.l2417, hM.l2418, hM.l2419, hM.l2420, hM.l2421, hM.l2422, hM.l2423, ↓hM.g1, ↓hM.g5, ↓hM.g6, ↓hM.g7, ↓hM.g8, ↓hM.g9, ↓hM.g10, ↓hM.g11, ↓hM.g12, ↓hM.g13, ↓hM.g14, ↓hM.g16, ↓hM.g17, ↓hM.g18, ↓hM.g19, ↓hM.g21, ↓hM.g22, ↓hM.g23, ↓hM.g24, ↓hM.g25, ↓hM.g27, ↓hM.g28, ↓hM.g30, ↓hM.g31, ↓hM.g32, ↓hM.g36, ↓hM.g37, ↓hM.g39, ↓hM.g40, ↓hM.g41, ↓hM.g43, ↓hM.g45, ↓hM.g46, e]
end
