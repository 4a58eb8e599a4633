/-! a class more, a field more -/
/-- none before -/
def z_dp (A : z_A) : z_A := (A.1, A.2.1, A.2.2.1, [], A.2.2.2.2)
def z_oclass (A : z_A) (x : Int32) : (Int32 ⊕ Nat) × z_A := if (x == -1 || z_in x (z_nc A.2.1)) = false then (.inr 2, A) else if z_nc A.2.1 < 6 then (.inl (nI (z_nc A.2.1)), z_wn (z_dp A) (z_addC A.2.1 x)) else (.inr 0, A)
/-- how many fields of its own -/
def z_nfl (P : z_Pg) (c : Nat) : Nat → Nat
  | 0 => 0
  | n + 1 => z_nfl P c n + (if z_fld P c n = 0 then 0 else 1)
def z_ofieldOf (A : z_A) (c n t : Int32) : (Int32 ⊕ Nat) × z_A := if z_in c (z_nc A.2.1) = false then (.inr 2, A) else if (t == -1 || z_in t (z_nc A.2.1)) = false then (.inr 2, A) else if z_in n 16 = false then (.inr 1, A) else if z_haf A.2.1 c.toNatClampNeg n.toNatClampNeg = true then (.inr 0, A) else (.inl (nI (z_nfl (z_addF A.2.1 c.toNatClampNeg n.toNatClampNeg (t + 2)) c.toNatClampNeg 16)), z_wn (z_dp A) (z_addF A.2.1 c.toNatClampNeg n.toNatClampNeg (t + 2)))
section
variable {S : z_S} {m : z_m} {A : z_A}
theorem z_tW_mono {nc nc' : Nat} (h : nc ≤ nc') {τ : List z_TN} (hW : z_tW nc τ) : z_tW nc' τ := ⟨hW.1, fun i hi => ⟨z_wN_mono h (hW.2 i hi).1, (hW.2 i hi).2⟩⟩
theorem z_WA_dp (hw : z_WA A) {P : z_Pg} (h : z_nc A.2.1 ≤ z_nc P) (hP : z_wf P) (hb : z_b60 P) : z_WA (z_wn (z_dp A) P) := ⟨z_tW_mono h hw.1, ⟨hP, hb⟩, hw.2.2.1, Nat.zero_le _, fun i hi => absurd hi (Nat.not_lt_zero _)⟩
theorem z_CM_dp (hw : z_WA A) {sn sx : Nat} {sp : Nat → Nat} (hI : z_ID S sn sx sp) (h : z_CM m sn sp A) : z_CM (z_up m 0 13 0) sn sp (z_dp A) := by
  obtain ⟨hR, hT, ⟨h1, h2, h3, h4⟩, h5, h6⟩ := h
  have lo := z_pid_lo sn
  have r0 : ∀ a, a ≠ 0 → z_up m 0 13 0 a = m a := fun a ha => z_up_row ha
  refine ⟨z_RM_fr (fun a ha => r0 a (by omega)) hR, ?_, ⟨z_PK_fr (z_wf_nm hw.2.1.1) (fun a x1 _ => r0 a (by omega)) h1, ?_, z_up_s _ _ _ _, fun i hi => absurd hi (Nat.not_lt_zero _)⟩, ?_, ?_⟩
  · unfold z_cT at *
    rw [r0 1 (by decide), r0 2 (by decide), r0 3 (by decide), r0 4 (by decide), r0 5 (by decide), r0 6 (by decide)]
    exact hT
  · show (match A.2.2.1 with | none => z_up m 0 13 0 0 12 = 0 | some Bg => z_up m 0 13 0 0 12 = 1 ∧ z_PK (z_up m 0 13 0) 62 Bg)
    rw [z_up_b (by decide)]
    cases hb : A.2.2.1 with
    | none => rw [hb] at h2; exact h2
    | some Bg =>
      rw [hb] at h2
      exact ⟨h2.1, z_PK_fr (z_wf_nm (hw.2.2.1 Bg hb).1) (fun a x1 _ => r0 a (by omega)) h2.2⟩
  · rw [r0 10 (by decide)]; exact h5
  · rw [r0 10 (by decide)]; exact h6
theorem c_class (hw : z_WA A) (h : z_CR S m A) (x : Int32) : ∃ S1 m1, f135 0 x (z_hp S m) = some ((z_oclass A x).1, z_hp S1 m1) ∧ z_CR S1 m1 (z_oclass A x).2 ∧ z_SS S S1 ∧ ∀ a, 2390 ≤ a → m1 a = m a := by
  have h0 := h
  obtain ⟨sn, sx, sp, hI, hCM⟩ := h0
  have hX := hI.1
  have hs := hI.2.2.2.1.1
  have lo := z_pid_lo sn
  have hp := hI.2.2.1 sn hs
  have hn := hI.2.2.2.2.2.1
  have hc := hCM.2.2.1.1.1
  have hwf := hw.2.1.1
  have h6 := hwf.1.1
  have e10 := hc.1.1
  have tail : (x = -1 ∨ ∃ d, d < z_nc A.2.1 ∧ x = nI d) → ∃ S1 m1, f135_10 0 x (z_hp S m) = some ((if z_nc A.2.1 < 6 then ((.inl (nI (z_nc A.2.1)), z_wn (z_dp A) (z_addC A.2.1 x)) : (Int32 ⊕ Nat) × z_A) else (.inr 0, A)).1, z_hp S1 m1) ∧ z_CR S1 m1 (if z_nc A.2.1 < 6 then ((.inl (nI (z_nc A.2.1)), z_wn (z_dp A) (z_addC A.2.1 x)) : (Int32 ⊕ Nat) × z_A) else (.inr 0, A)).2 ∧ z_SS S S1 ∧ ∀ a, 2390 ≤ a → m1 a = m a := by
    intro hx
    by_cases g6 : z_nc A.2.1 < 6
    · rw [if_pos g6]
      have hD := z_CM_dp hw hI hCM
      obtain ⟨m1, e, c1, c14, fr⟩ := f71_sp (S := S) (m := z_up m 0 13 0) hp hD.2.2.1.1.1 hwf g6 hx
      have hfr : ∀ a, a ≠ 9 → (a < z_pid sn ∨ z_pid sn + 179 ≤ a) → m1 a = z_up m 0 13 0 a := fun a _ ha => fr a (by omega) (by omega) (by omega) (by omega)
      have hWd : z_WA (z_dp A) := z_WA_dp (P := A.2.1) hw (Nat.le_refl _) hwf hw.2.1.2
      refine ⟨S, m1, ?_, ⟨sn, sx, sp, hI, z_CM_now (A := z_dp A) hWd hI hD hfr ⟨c1, Or.inl c14, fun g => ?_⟩⟩, z_SS.refl S, fun a ha => ?_⟩
      · unfold f135_10
        simp (disch := ((try simp only [true_or, or_true, hX.k0, hX.k8, hX.k9, hX.l9, hp.k, hp.k1, hp.k2, hp.k3, hp.k4, hp.k5, hp.k6, hp.k7, hp.k8, hp.k9, hp.k10, hp.l1, hp.l2, hp.l3, hp.l4, hp.l5, hp.l6, hp.l7, hp.l8, hp.l9, hp.l10]) <;> (try omega))) only [↓reduceIte, ↓z_ite, ↓zR, ↓zB_R, ↓zB_B, ↓zB_ite, ↓zB_gI, ↓zB_pI, ↓zB_pZ, ↓zB_aK, ↓zB_G, ↓zB_lI, ↓zB_lZ, ↓zB_wI, ↓zB_wZ, ↓zB_lIl, ↓zB_wIl, zB_pI, zB_pZ, zB_lI, zB_lZ, zB_wI, zB_wZ, z_addl, z_ladd, z_mull, z_lmul, nI_add, z_subl, Nat.not_lt_zero, z_10, z_01, z_bitc, z_b0, z_b1, ↓zB_Gb, ↓zB_G0, ↓zB_G1, z_eql, z_leq, z_ltl, z_llt, z_eq, z_lt, z_m1lt, hX.k0, hX.k8, hX.k9, hX.l9, hp.k, hp.k1, hp.k2, hp.k3, hp.k4, hp.k5, hp.k6, hp.k7, hp.k8, hp.k9, hp.k10, hp.l1, hp.l2, hp.l3, hp.l4, hp.l5, hp.l6, hp.l7, hp.l8, hp.l9, hp.l10, ↓hX.g0_0, ↓hX.g0_1, ↓hX.g0_2, ↓hX.g0_3, ↓hX.g0_4, ↓hX.g0_5, ↓hX.g0_6, ↓hX.g0_7, ↓hX.g0_8, ↓hX.g0_9, ↓hX.g8_0, ↓hp.g0, ↓hp.g1, ↓hp.g2, ↓hp.g3, ↓hp.g4, ↓hp.g5, ↓hp.g6, ↓hp.g7, ↓hp.g8, ↓hp.g9, ↓hp.gb, hp.gb, ↓z_gnow hX hn, z_gnow hX hn, e10, g6, ↓zB_c e, zB_c e]
        rfl
      · rw [c14] at g; exact absurd g (by decide)
      · rw [hfr a (by omega) (by unfold z_pid; omega), z_up_row (by omega)]
    · rw [if_neg g6]
      refine ⟨z_Sx S, m, ?_, z_CR_x h, z_SS.x S, fun _ _ => rfl⟩
      unfold f135_10
      simp (disch := ((try simp only [true_or, or_true, hX.k0, hX.k8, hX.k9, hX.l9, hp.k, hp.k1, hp.k2, hp.k3, hp.k4, hp.k5, hp.k6, hp.k7, hp.k8, hp.k9, hp.k10, hp.l1, hp.l2, hp.l3, hp.l4, hp.l5, hp.l6, hp.l7, hp.l8, hp.l9, hp.l10]) <;> (try omega))) only [↓reduceIte, ↓z_ite, ↓zR, ↓zB_R, ↓zB_B, ↓zB_ite, ↓zB_gI, ↓zB_pI, ↓zB_pZ, ↓zB_aK, ↓zB_G, ↓zB_lI, ↓zB_lZ, ↓zB_wI, ↓zB_wZ, ↓zB_lIl, ↓zB_wIl, zB_pI, zB_pZ, zB_lI, zB_lZ, zB_wI, zB_wZ, z_addl, z_ladd, z_mull, z_lmul, nI_add, z_subl, Nat.not_lt_zero, z_10, z_01, z_bitc, z_b0, z_b1, ↓zB_Gb, ↓zB_G0, ↓zB_G1, z_eql, z_leq, z_ltl, z_llt, z_eq, z_lt, z_m1lt, hX.k0, hX.k8, hX.k9, hX.l9, hp.k, hp.k1, hp.k2, hp.k3, hp.k4, hp.k5, hp.k6, hp.k7, hp.k8, hp.k9, hp.k10, hp.l1, hp.l2, hp.l3, hp.l4, hp.l5, hp.l6, hp.l7, hp.l8, hp.l9, hp.l10, ↓hX.g0_0, ↓hX.g0_1, ↓hX.g0_2, ↓hX.g0_3, ↓hX.g0_4, ↓hX.g0_5, ↓hX.g0_6, ↓hX.g0_7, ↓hX.g0_8, ↓hX.g0_9, ↓hX.g8_0, ↓hp.g0, ↓hp.g1, ↓hp.g2, ↓hp.g3, ↓hp.g4, ↓hp.g5, ↓hp.g6, ↓hp.g7, ↓hp.g8, ↓hp.g9, ↓hp.gb, hp.gb, ↓z_gnow hX hn, z_gnow hX hn, e10, g6, z_thw]
  unfold z_oclass
  by_cases g : (x == -1 || z_in x (z_nc A.2.1)) = false
  · rw [if_pos g]
    have g1 : ¬ x = -1 := fun g1 => by rw [g1] at g; simp at g
    have g2 : z_in x (z_nc A.2.1) = false := by
      rw [show (x == -1) = false by simpa using g1] at g
      simpa using g
    refine ⟨z_Sx S, m, ?_, z_CR_x h, z_SS.x S, fun _ _ => rfl⟩
    unfold f135
    simp (disch := ((try simp only [true_or, or_true, hX.k0, hX.k8, hX.k9, hX.l9]) <;> (try omega))) only [↓reduceIte, ↓z_ite, ↓zR, ↓zB_R, ↓zB_B, ↓zB_ite, ↓zB_gI, ↓zB_pI, ↓zB_pZ, ↓zB_aK, ↓zB_G, ↓zB_lI, ↓zB_lZ, ↓zB_wI, ↓zB_wZ, ↓zB_lIl, ↓zB_wIl, zB_pI, zB_pZ, zB_lI, zB_lZ, zB_wI, zB_wZ, z_addl, z_ladd, z_mull, z_lmul, nI_add, z_subl, Nat.not_lt_zero, z_10, z_01, z_bitc, z_b0, z_b1, ↓zB_Gb, ↓zB_G0, ↓zB_G1, z_eql, z_leq, z_ltl, z_llt, z_eq, z_lt, z_m1lt, hX.k0, hX.k8, hX.k9, hX.l9, ↓hX.g0_0, ↓hX.g0_1, ↓hX.g0_2, ↓hX.g0_3, ↓hX.g0_4, ↓hX.g0_5, ↓hX.g0_6, ↓hX.g0_7, ↓hX.g0_8, ↓hX.g0_9, ↓hX.g8_0, g1, ↓zT_r (f162_n hX hn hp hc g2), zT_r (f162_n hX hn hp hc g2)]
  · rw [if_neg g]
    have g' := z_not_false g
    by_cases g1 : x = -1
    · obtain ⟨S1, m1, e, r⟩ := tail (Or.inl g1)
      refine ⟨S1, m1, ?_, r⟩
      unfold f135
      rw [if_pos g1]; exact e
    · have g2 : z_in x (z_nc A.2.1) = true := by
        rw [show (x == -1) = false by simpa using g1] at g'
        simpa using g'
      obtain ⟨S1, m1, e, r⟩ := tail (Or.inr ((z_in_iff (by omega)).mp g2))
      refine ⟨S1, m1, ?_, r⟩
      unfold f135
      simp (disch := ((try simp only [true_or, or_true, hX.k0, hX.k8, hX.k9, hX.l9]) <;> (try omega))) only [↓reduceIte, ↓z_ite, ↓zR, ↓zB_R, ↓zB_B, ↓zB_ite, ↓zB_gI, ↓zB_pI, ↓zB_pZ, ↓zB_aK, ↓zB_G, ↓zB_lI, ↓zB_lZ, ↓zB_wI, ↓zB_wZ, ↓zB_lIl, ↓zB_wIl, zB_pI, zB_pZ, zB_lI, zB_lZ, zB_wI, zB_wZ, z_addl, z_ladd, z_mull, z_lmul, nI_add, z_subl, Nat.not_lt_zero, z_10, z_01, z_bitc, z_b0, z_b1, ↓zB_Gb, ↓zB_G0, ↓zB_G1, z_eql, z_leq, z_ltl, z_llt, z_eq, z_lt, z_m1lt, hX.k0, hX.k8, hX.k9, hX.l9, ↓hX.g0_0, ↓hX.g0_1, ↓hX.g0_2, ↓hX.g0_3, ↓hX.g0_4, ↓hX.g0_5, ↓hX.g0_6, ↓hX.g0_7, ↓hX.g0_8, ↓hX.g0_9, ↓hX.g8_0, g1, ↓zT_l (f162_y hX hn hp hc g2), zT_l (f162_y hX hn hp hc g2)]
      exact e
theorem z_mb_hi {b : Nat} {P : z_Pg} {m' : z_m} (hB : ∀ j, 14200 ≤ j → m' 2391 j = m 2391 j) (hb : 1 ≤ b) (h : z_mb m b P) : z_mb m' b P := by
  obtain ⟨b1, b2, b3, b4, b5, b6, b7⟩ := h
  refine ⟨b1, b2, b3, ?_, ?_, fun c hc => ?_, fun k hk => ?_⟩
  · rw [hB _ (by omega)]; exact b4
  · rw [hB _ (by omega)]; exact b5
  · obtain ⟨q1, q2⟩ := b6 c hc
    refine ⟨?_, fun n hn => ?_⟩
    · rw [hB _ (by omega)]; exact q1
    · rw [hB _ (by omega)]; exact q2 n hn
  · obtain ⟨q1, q2, q3, q4⟩ := b7 k hk
    refine ⟨fun w hw => ?_, ?_, q3, fun i hi => ?_⟩
    · rw [hB _ (by omega)]; exact q1 w hw
    · rw [hB _ (by omega)]; exact q2
    · rw [hB _ (by omega), hB _ (by omega), hB _ (by omega)]; exact q4 i hi
theorem z_MR_dp {P : z_Pg} (h : z_MR m A) {m' : z_m} (hm : ∀ a, a ≠ 2390 → a ≠ 2391 → m' a = m a) (h0 : ∀ j, j ≠ 0 → j ≠ 2 → m' 2390 j = m 2390 j) (h2 : m' 2390 2 = 0) (hb : z_mb m' 0 P) (hz : z_mz m' 0 (z_nc P)) (hB : ∀ j, 14200 ≤ j → m' 2391 j = m 2391 j) : z_MR m' (z_wn (z_dp A) P) := by
  obtain ⟨a1, a2, a3, a4, a5, a6, a7, a8⟩ := h
  refine ⟨?_, hb, ?_, h2, fun i hi => absurd hi (Nat.not_lt_zero _), ?_, ?_, hz, fun i hi => absurd hi (Nat.not_lt_zero _)⟩
  · unfold z_mT at *
    rw [h0 4 (by decide) (by decide), hm 2392 (by decide) (by decide), hm 2393 (by decide) (by decide), hm 2394 (by decide) (by decide), hm 2395 (by decide) (by decide), hm 2396 (by decide) (by decide)]
    exact a1
  · show (match A.2.2.1 with | none => m' 2390 3 = 0 | some Bg => m' 2390 3 = 1 ∧ z_mb m' 1 Bg)
    rw [h0 3 (by decide) (by decide)]
    cases hbg : A.2.2.1 with
    | none => rw [hbg] at a3; exact a3
    | some Bg =>
      rw [hbg] at a3
      exact ⟨a3.1, z_mb_hi hB (by decide) a3.2⟩
  · rw [h0 35 (by decide) (by decide)]; exact a6
  · rw [h0 33 (by decide) (by decide)]; exact a7
theorem f216_35_y (hM : z_MS S) {P : z_Pg} (h : z_mb m 0 P) (h6 : z_nc P < 6) (x : Int32) : f216_35 2390 x 2390 0 (z_hp S m) = some (nI (z_nc P), z_hp S (z_up (z_up (z_up (z_up m 2390 0 0) 2391 (2 + z_nc P) x) 2391 0 (nI (z_nc P + 1))) 2390 2 0)) := by
  have e := f178_0 (m := m) hM
  have h3 : m 2391 0 = nI (z_nc P) := h.2.2.2.1
  have u1 : z_up (z_up m 2390 0 0) 2391 (2 + z_nc P) x 2391 0 = nI (z_nc P) := by rw [z_up_b (by omega), z_up_a (by decide)]; exact h3
  have u0 : z_up m 2390 0 0 2391 0 = nI (z_nc P) := by rw [z_up_a (by decide)]; exact h3
  have u2 : z_up (z_up (z_up (z_up m 2390 0 0) 2391 (2 + z_nc P) x) 2391 0 (nI (z_nc P + 1))) 2390 2 0 2391 0 = nI (z_nc P + 1) := by rw [z_up_a (by decide), z_up_s]
  unfold f216_35
  simp (disch := ((try simp only [true_or, or_true, hM.k, hM.k2391, hM.k2392, hM.k2393, hM.k2394, hM.k2395, hM.k2396, hM.k2397, hM.k2398, hM.k2399, hM.k2400, hM.k2401, hM.k2402, hM.k2403, hM.k2404, hM.k2405, hM.k2406, hM.k2407, hM.k2408, hM.k2409, hM.k2410, hM.k2411, hM.k2412, hM.k2413, hM.k2414, hM.k2415, hM.k2416, hM.k2417, hM.k2418, hM.k2419, hM.k2420, hM.k2421, hM.k2422, hM.k2423, hM.l2391, hM.l2392, hM.l2393, hM.l2394, hM.l2395, hM.l2396, hM.l2397, hM.l2398, hM.l2399, hM.l2400, hM.l2401, hM.l2402, hM.l2403, hM.l2404, hM.l2405, hM.l2406, hM.l2407, hM.l2408, hM.l2409, hM.l2410, hM.l2411, hM.l2412, hM.l2413, hM.l2414, hM.l2415, hM.l2416, hM.l2417, hM.l2418, hM.l2419, hM.l2420, hM.l2421, hM.l2422, hM.l2423]) <;> (try omega))) only [↓reduceIte, ↓z_ite, ↓zR, ↓zB_R, ↓zB_B, ↓zB_ite, ↓zB_gI, ↓zB_pI, ↓zB_pZ, ↓zB_aK, ↓zB_G, ↓zB_lI, ↓zB_lZ, ↓zB_wI, ↓zB_wZ, ↓zB_lIl, ↓zB_wIl, zB_pI, zB_pZ, zB_lI, zB_lZ, zB_wI, zB_wZ, z_addl, z_ladd, z_mull, z_lmul, nI_add, z_subl, Nat.not_lt_zero, z_10, z_01, z_bitc, z_b0, z_b1, ↓zB_Gb, ↓zB_G0, ↓zB_G1, z_eql, z_leq, z_ltl, z_llt, z_eq, z_lt, z_m1lt, hM.k, hM.k2391, hM.k2392, hM.k2393, hM.k2394, hM.k2395, hM.k2396, hM.k2397, hM.k2398, hM.k2399, hM.k2400, hM.k2401, hM.k2402, hM.k2403, hM.k2404, hM.k2405, hM.k2406, hM.k2407, hM.k2408, hM.k2409, hM.k2410, hM.k2411, hM.k2412, hM.k2413, hM.k2414, hM.k2415, hM.k2416, hM.k2417, hM.k2418, hM.k2419, hM.k2420, hM.k2421, hM.k2422, hM.k2423, hM.l2391, hM.l2392, hM.l2393, hM.l2394, hM.l2395, hM.l2396, hM.l2397, hM.l2398, hM.l2399, hM.l2400, hM.l2401, hM.l2402, hM.l2403, hM.l2404, hM.l2405, hM.l2406, hM.l2407, hM.l2408, hM.l2409, hM.l2410, hM.l2411, hM.l2412, hM.l2413, hM.l2414, hM.l2415, hM.l2416, hM.l2417, hM.l2418, hM.l2419, hM.l2420, hM.l2421, hM.l2422, hM.l2423, ↓hM.g1, ↓hM.g5, ↓hM.g6, ↓hM.g7, ↓hM.g8, ↓hM.g9, ↓hM.g10, ↓hM.g11, ↓hM.g12, ↓hM.g13, ↓hM.g14, ↓hM.g16, ↓hM.g17, ↓hM.g18, ↓hM.g19, ↓hM.g21, ↓hM.g22, ↓hM.g23, ↓hM.g24, ↓hM.g25, ↓hM.g27, ↓hM.g28, ↓hM.g30, ↓hM.g31, ↓hM.g32, ↓hM.g36, ↓hM.g37, ↓hM.g39, ↓hM.g40, ↓hM.g41, ↓hM.g43, ↓hM.g45, ↓hM.g46, ↓zB_c e, zB_c e, u0, u1, u2, Nat.add_sub_cancel]
theorem m_class (hM : z_MS S) (hw : z_WA A) (h : z_MR m A) (x : Int32) : (∃ v m1, f216 2390 x (z_hp S m) = some (v, z_hp S m1) ∧ z_MR m1 (z_oclass A x).2 ∧ (∀ b, b < 2390 ∨ 2424 ≤ b → m1 b = m b) ∧ z_ans z_cd2 (z_oclass A x).1 v (m1 2390 0)) ∧ z_WA (z_oclass A x).2 := by
  have hwf := hw.2.1.1
  have h6 := hwf.1.1
  have hb := h.2.1
  have hnc : m 2391 0 = nI (z_nc A.2.1) := hb.2.2.2.1
  have i1 := f178_1 (m := m) hM
  have i2 := f178_2 (m := m) hM
  have e4 := f204_sp (S := S) (B := 0) hb hM rfl x
  have tail : (x = -1 ∨ ∃ d, d < z_nc A.2.1 ∧ x = nI d) → f216 2390 x (z_hp S m) = f216_19 2390 x 2390 (z_hp S m) → (∃ v m1, f216 2390 x (z_hp S m) = some (v, z_hp S m1) ∧ z_MR m1 (if z_nc A.2.1 < 6 then ((.inl (nI (z_nc A.2.1)), z_wn (z_dp A) (z_addC A.2.1 x)) : (Int32 ⊕ Nat) × z_A) else (.inr 0, A)).2 ∧ (∀ b, b < 2390 ∨ 2424 ≤ b → m1 b = m b) ∧ z_ans z_cd2 (if z_nc A.2.1 < 6 then ((.inl (nI (z_nc A.2.1)), z_wn (z_dp A) (z_addC A.2.1 x)) : (Int32 ⊕ Nat) × z_A) else (.inr 0, A)).1 v (m1 2390 0)) ∧ z_WA (if z_nc A.2.1 < 6 then ((.inl (nI (z_nc A.2.1)), z_wn (z_dp A) (z_addC A.2.1 x)) : (Int32 ⊕ Nat) × z_A) else (.inr 0, A)).2 := by
    intro hx he
    rw [he]
    by_cases g6 : z_nc A.2.1 < 6
    · rw [if_pos g6]
      have e := f216_35_y hM hb g6 x
      have hz := h.2.2.2.2.2.2.2.1
      refine ⟨⟨nI (z_nc A.2.1), _, ?_, z_MR_dp h (m' := z_up (z_up (z_up (z_up m 2390 0 0) 2391 (2 + z_nc A.2.1) x) 2391 0 (nI (z_nc A.2.1 + 1))) 2390 2 0) (fun a g1 g2 => ?_) (fun j g1 g2 => ?_) (z_up_s _ _ _ _) ?_ (fun c n g1 g2 g3 => ?_) (fun j hj => ?_), fun b hb2 => ?_, rfl, ?_⟩, z_WA_dp hw (Nat.le_succ _) (z_addC_wf hwf g6 hx) hw.2.1.2⟩
      · unfold f216_19
        have g7 : ¬ z_nc A.2.1 = 6 := by omega
        simp (disch := ((try simp only [true_or, or_true, hM.k, hM.k2391, hM.k2392, hM.k2393, hM.k2394, hM.k2395, hM.k2396, hM.k2397, hM.k2398, hM.k2399, hM.k2400, hM.k2401, hM.k2402, hM.k2403, hM.k2404, hM.k2405, hM.k2406, hM.k2407, hM.k2408, hM.k2409, hM.k2410, hM.k2411, hM.k2412, hM.k2413, hM.k2414, hM.k2415, hM.k2416, hM.k2417, hM.k2418, hM.k2419, hM.k2420, hM.k2421, hM.k2422, hM.k2423, hM.l2391, hM.l2392, hM.l2393, hM.l2394, hM.l2395, hM.l2396, hM.l2397, hM.l2398, hM.l2399, hM.l2400, hM.l2401, hM.l2402, hM.l2403, hM.l2404, hM.l2405, hM.l2406, hM.l2407, hM.l2408, hM.l2409, hM.l2410, hM.l2411, hM.l2412, hM.l2413, hM.l2414, hM.l2415, hM.l2416, hM.l2417, hM.l2418, hM.l2419, hM.l2420, hM.l2421, hM.l2422, hM.l2423]) <;> (try omega))) only [↓reduceIte, ↓z_ite, ↓zR, ↓zB_R, ↓zB_B, ↓zB_ite, ↓zB_gI, ↓zB_pI, ↓zB_pZ, ↓zB_aK, ↓zB_G, ↓zB_lI, ↓zB_lZ, ↓zB_wI, ↓zB_wZ, ↓zB_lIl, ↓zB_wIl, zB_pI, zB_pZ, zB_lI, zB_lZ, zB_wI, zB_wZ, z_addl, z_ladd, z_mull, z_lmul, nI_add, z_subl, Nat.not_lt_zero, z_10, z_01, z_bitc, z_b0, z_b1, ↓zB_Gb, ↓zB_G0, ↓zB_G1, z_eql, z_leq, z_ltl, z_llt, z_eq, z_lt, z_m1lt, hM.k, hM.k2391, hM.k2392, hM.k2393, hM.k2394, hM.k2395, hM.k2396, hM.k2397, hM.k2398, hM.k2399, hM.k2400, hM.k2401, hM.k2402, hM.k2403, hM.k2404, hM.k2405, hM.k2406, hM.k2407, hM.k2408, hM.k2409, hM.k2410, hM.k2411, hM.k2412, hM.k2413, hM.k2414, hM.k2415, hM.k2416, hM.k2417, hM.k2418, hM.k2419, hM.k2420, hM.k2421, hM.k2422, hM.k2423, hM.l2391, hM.l2392, hM.l2393, hM.l2394, hM.l2395, hM.l2396, hM.l2397, hM.l2398, hM.l2399, hM.l2400, hM.l2401, hM.l2402, hM.l2403, hM.l2404, hM.l2405, hM.l2406, hM.l2407, hM.l2408, hM.l2409, hM.l2410, hM.l2411, hM.l2412, hM.l2413, hM.l2414, hM.l2415, hM.l2416, hM.l2417, hM.l2418, hM.l2419, hM.l2420, hM.l2421, hM.l2422, hM.l2423, ↓hM.g1, ↓hM.g5, ↓hM.g6, ↓hM.g7, ↓hM.g8, ↓hM.g9, ↓hM.g10, ↓hM.g11, ↓hM.g12, ↓hM.g13, ↓hM.g14, ↓hM.g16, ↓hM.g17, ↓hM.g18, ↓hM.g19, ↓hM.g21, ↓hM.g22, ↓hM.g23, ↓hM.g24, ↓hM.g25, ↓hM.g27, ↓hM.g28, ↓hM.g30, ↓hM.g31, ↓hM.g32, ↓hM.g36, ↓hM.g37, ↓hM.g39, ↓hM.g40, ↓hM.g41, ↓hM.g43, ↓hM.g45, ↓hM.g46, hnc, g7]
        exact e
      · rw [z_up_row g1, z_up_row g2, z_up_row g2, z_up_row g1]
      · rw [z_up_b g2, z_up_a (by decide), z_up_a (by decide), z_up_b g1]
      · obtain ⟨b1, b2, b3, b4, b5, b6, b7⟩ := hb
        have r : ∀ j, j ≠ 0 → j ≠ 2 + z_nc A.2.1 → z_up (z_up (z_up (z_up m 2390 0 0) 2391 (2 + z_nc A.2.1) x) 2391 0 (nI (z_nc A.2.1 + 1))) 2390 2 0 2391 j = m 2391 j := fun j x1 x2 => by
          rw [z_up_a (by decide), z_up_b x1, z_up_b x2, z_up_a (by decide)]
        refine ⟨b1, g6, b3, ?_, ?_, fun c hc => ?_, fun k hk => ?_⟩
        · rw [z_up_a (by decide)]; exact z_up_s _ _ _ _
        · rw [r _ (by omega) (by omega)]; exact b5
        · have hc : c < z_nc A.2.1 + 1 := hc
          by_cases gc : c = z_nc A.2.1
          · refine ⟨?_, fun n hn => ?_⟩
            · rw [gc, z_up_a (by decide), z_up_b (by omega), show 14200 * 0 + 2 + z_nc A.2.1 = 2 + z_nc A.2.1 by omega, z_up_s]
              exact (if_pos rfl).symm
            · rw [r _ (by omega) (by omega), hz c n (by omega) (by omega) hn]
              exact (if_pos gc).symm
          · obtain ⟨q1, q2⟩ := b6 c (by omega)
            refine ⟨?_, fun n hn => ?_⟩
            · rw [r _ (by omega) (by omega), q1]
              exact (if_neg gc).symm
            · rw [r _ (by omega) (by omega), q2 n hn]
              exact (if_neg gc).symm
        · obtain ⟨q1, q2, q3, q4⟩ := b7 k hk
          have hk : k < z_nm A.2.1 := hk
          refine ⟨fun w hw2 => ?_, ?_, q3, fun i hi => ?_⟩
          · rw [r _ (by omega) (by omega)]; exact q1 w hw2
          · rw [r _ (by omega) (by omega)]; exact q2
          · rw [r _ (by omega) (by omega), r _ (by omega) (by omega), r _ (by omega) (by omega)]; exact q4 i hi
      · have g1 : z_nc A.2.1 + 1 ≤ c := g1
        rw [z_up_a (by decide), z_up_b (by omega), z_up_b (by omega), z_up_a (by decide)]
        exact hz c n (by omega) g2 g3
      · rw [z_up_a (by decide), z_up_b (by omega), z_up_b (by omega), z_up_a (by decide)]
      · rw [z_up_row (by omega), z_up_row (by omega), z_up_row (by omega), z_up_row (by omega)]
      · rw [z_up_b (by decide), z_up_a (by decide), z_up_a (by decide), z_up_s]
    · rw [if_neg g6]
      refine z_m_ref hw h (E := 0) (cd := z_cd2) ⟨0, ?_⟩
      have g7 : z_nc A.2.1 = 6 := by omega
      unfold f216_19 f216_35
      simp (disch := ((try simp only [true_or, or_true, hM.k, hM.k2391, hM.k2392, hM.k2393, hM.k2394, hM.k2395, hM.k2396, hM.k2397, hM.k2398, hM.k2399, hM.k2400, hM.k2401, hM.k2402, hM.k2403, hM.k2404, hM.k2405, hM.k2406, hM.k2407, hM.k2408, hM.k2409, hM.k2410, hM.k2411, hM.k2412, hM.k2413, hM.k2414, hM.k2415, hM.k2416, hM.k2417, hM.k2418, hM.k2419, hM.k2420, hM.k2421, hM.k2422, hM.k2423, hM.l2391, hM.l2392, hM.l2393, hM.l2394, hM.l2395, hM.l2396, hM.l2397, hM.l2398, hM.l2399, hM.l2400, hM.l2401, hM.l2402, hM.l2403, hM.l2404, hM.l2405, hM.l2406, hM.l2407, hM.l2408, hM.l2409, hM.l2410, hM.l2411, hM.l2412, hM.l2413, hM.l2414, hM.l2415, hM.l2416, hM.l2417, hM.l2418, hM.l2419, hM.l2420, hM.l2421, hM.l2422, hM.l2423]) <;> (try omega))) only [↓reduceIte, ↓z_ite, ↓zR, ↓zB_R, ↓zB_B, ↓zB_ite, ↓zB_gI, ↓zB_pI, ↓zB_pZ, ↓zB_aK, ↓zB_G, ↓zB_lI, ↓zB_lZ, ↓zB_wI, ↓zB_wZ, ↓zB_lIl, ↓zB_wIl, zB_pI, zB_pZ, zB_lI, zB_lZ, zB_wI, zB_wZ, z_addl, z_ladd, z_mull, z_lmul, nI_add, z_subl, Nat.not_lt_zero, z_10, z_01, z_bitc, z_b0, z_b1, ↓zB_Gb, ↓zB_G0, ↓zB_G1, z_eql, z_leq, z_ltl, z_llt, z_eq, z_lt, z_m1lt, hM.k, hM.k2391, hM.k2392, hM.k2393, hM.k2394, hM.k2395, hM.k2396, hM.k2397, hM.k2398, hM.k2399, hM.k2400, hM.k2401, hM.k2402, hM.k2403, hM.k2404, hM.k2405, hM.k2406, hM.k2407, hM.k2408, hM.k2409, hM.k2410, hM.k2411, hM.k2412, hM.k2413, hM.k2414, hM.k2415, hM.k2416, hM.k2417, hM.k2418, hM.k2419, hM.k2420, hM.k2421, hM.k2422, hM.k2423, hM.l2391, hM.l2392, hM.l2393, hM.l2394, hM.l2395, hM.l2396, hM.l2397, hM.l2398, hM.l2399, hM.l2400, hM.l2401, hM.l2402, hM.l2403, hM.l2404, hM.l2405, hM.l2406, hM.l2407, hM.l2408, hM.l2409, hM.l2410, hM.l2411, hM.l2412, hM.l2413, hM.l2414, hM.l2415, hM.l2416, hM.l2417, hM.l2418, hM.l2419, hM.l2420, hM.l2421, hM.l2422, hM.l2423, ↓hM.g1, ↓hM.g5, ↓hM.g6, ↓hM.g7, ↓hM.g8, ↓hM.g9, ↓hM.g10, ↓hM.g11, ↓hM.g12, ↓hM.g13, ↓hM.g14, ↓hM.g16, ↓hM.g17, ↓hM.g18, ↓hM.g19, ↓hM.g21, ↓hM.g22, ↓hM.g23, ↓hM.g24, ↓hM.g25, ↓hM.g27, ↓hM.g28, ↓hM.g30, ↓hM.g31, ↓hM.g32, ↓hM.g36, ↓hM.g37, ↓hM.g39, ↓hM.g40, ↓hM.g41, ↓hM.g43, ↓hM.g45, ↓hM.g46, hnc, g7, ↓zB_c i2, zB_c i2]
      rfl
  unfold z_oclass
  by_cases g : (x == -1 || z_in x (z_nc A.2.1)) = false
  · rw [if_pos g]
    have g1 : ¬ x = -1 := fun g1 => by rw [g1] at g; simp at g
    have g2 : z_in x (z_nc A.2.1) = false := by
      rw [show (x == -1) = false by simpa using g1] at g
      simpa using g
    rw [g2] at e4
    refine z_m_ref hw h (E := 2) (cd := z_cd2) ⟨0, ?_⟩
    unfold f216 f216_35
    simp (disch := ((try simp only [true_or, or_true, hM.k, hM.k2391, hM.k2392, hM.k2393, hM.k2394, hM.k2395, hM.k2396, hM.k2397, hM.k2398, hM.k2399, hM.k2400, hM.k2401, hM.k2402, hM.k2403, hM.k2404, hM.k2405, hM.k2406, hM.k2407, hM.k2408, hM.k2409, hM.k2410, hM.k2411, hM.k2412, hM.k2413, hM.k2414, hM.k2415, hM.k2416, hM.k2417, hM.k2418, hM.k2419, hM.k2420, hM.k2421, hM.k2422, hM.k2423, hM.l2391, hM.l2392, hM.l2393, hM.l2394, hM.l2395, hM.l2396, hM.l2397, hM.l2398, hM.l2399, hM.l2400, hM.l2401, hM.l2402, hM.l2403, hM.l2404, hM.l2405, hM.l2406, hM.l2407, hM.l2408, hM.l2409, hM.l2410, hM.l2411, hM.l2412, hM.l2413, hM.l2414, hM.l2415, hM.l2416, hM.l2417, hM.l2418, hM.l2419, hM.l2420, hM.l2421, hM.l2422, hM.l2423]) <;> (try omega))) only [↓reduceIte, ↓z_ite, ↓zR, ↓zB_R, ↓zB_B, ↓zB_ite, ↓zB_gI, ↓zB_pI, ↓zB_pZ, ↓zB_aK, ↓zB_G, ↓zB_lI, ↓zB_lZ, ↓zB_wI, ↓zB_wZ, ↓zB_lIl, ↓zB_wIl, zB_pI, zB_pZ, zB_lI, zB_lZ, zB_wI, zB_wZ, z_addl, z_ladd, z_mull, z_lmul, nI_add, z_subl, Nat.not_lt_zero, z_10, z_01, z_bitc, z_b0, z_b1, ↓zB_Gb, ↓zB_G0, ↓zB_G1, z_eql, z_leq, z_ltl, z_llt, z_eq, z_lt, z_m1lt, hM.k, hM.k2391, hM.k2392, hM.k2393, hM.k2394, hM.k2395, hM.k2396, hM.k2397, hM.k2398, hM.k2399, hM.k2400, hM.k2401, hM.k2402, hM.k2403, hM.k2404, hM.k2405, hM.k2406, hM.k2407, hM.k2408, hM.k2409, hM.k2410, hM.k2411, hM.k2412, hM.k2413, hM.k2414, hM.k2415, hM.k2416, hM.k2417, hM.k2418, hM.k2419, hM.k2420, hM.k2421, hM.k2422, hM.k2423, hM.l2391, hM.l2392, hM.l2393, hM.l2394, hM.l2395, hM.l2396, hM.l2397, hM.l2398, hM.l2399, hM.l2400, hM.l2401, hM.l2402, hM.l2403, hM.l2404, hM.l2405, hM.l2406, hM.l2407, hM.l2408, hM.l2409, hM.l2410, hM.l2411, hM.l2412, hM.l2413, hM.l2414, hM.l2415, hM.l2416, hM.l2417, hM.l2418, hM.l2419, hM.l2420, hM.l2421, hM.l2422, hM.l2423, ↓hM.g1, ↓hM.g5, ↓hM.g6, ↓hM.g7, ↓hM.g8, ↓hM.g9, ↓hM.g10, ↓hM.g11, ↓hM.g12, ↓hM.g13, ↓hM.g14, ↓hM.g16, ↓hM.g17, ↓hM.g18, ↓hM.g19, ↓hM.g21, ↓hM.g22, ↓hM.g23, ↓hM.g24, ↓hM.g25, ↓hM.g27, ↓hM.g28, ↓hM.g30, ↓hM.g31, ↓hM.g32, ↓hM.g36, ↓hM.g37, ↓hM.g39, ↓hM.g40, ↓hM.g41, ↓hM.g43, ↓hM.g45, ↓hM.g46, g1, ↓zB_c e4, zB_c e4, ↓zB_c i1, zB_c i1]
    rfl
  · rw [if_neg g]
    have g' := z_not_false g
    by_cases g1 : x = -1
    · refine tail (Or.inl g1) ?_
      unfold f216
      rw [if_pos g1]
    · have g2 : z_in x (z_nc A.2.1) = true := by
        rw [show (x == -1) = false by simpa using g1] at g'
        simpa using g'
      rw [g2] at e4
      refine tail (Or.inr ((z_in_iff (by omega)).mp g2)) ?_
      unfold f216
      simp (disch := ((try simp only [true_or, or_true, hM.k, hM.k2391, hM.k2392, hM.k2393, hM.k2394, hM.k2395, hM.k2396, hM.k2397, hM.k2398, hM.k2399, hM.k2400, hM.k2401, hM.k2402, hM.k2403, hM.k2404, hM.k2405, hM.k2406, hM.k2407, hM.k2408, hM.k2409, hM.k2410, hM.k2411, hM.k2412, hM.k2413, hM.k2414, hM.k2415, hM.k2416, hM.k2417, hM.k2418, hM.k2419, hM.k2420, hM.k2421, hM.k2422, hM.k2423, hM.l2391, hM.l2392, hM.l2393, hM.l2394, hM.l2395, hM.l2396, hM.l2397, hM.l2398, hM.l2399, hM.l2400, hM.l2401, hM.l2402, hM.l2403, hM.l2404, hM.l2405, hM.l2406, hM.l2407, hM.l2408, hM.l2409, hM.l2410, hM.l2411, hM.l2412, hM.l2413, hM.l2414, hM.l2415, hM.l2416, hM.l2417, hM.l2418, hM.l2419, hM.l2420, hM.l2421, hM.l2422, hM.l2423]) <;> (try omega))) only [↓reduceIte, ↓z_ite, ↓zR, ↓zB_R, ↓zB_B, ↓zB_ite, ↓zB_gI, ↓zB_pI, ↓zB_pZ, ↓zB_aK, ↓zB_G, ↓zB_lI, ↓zB_lZ, ↓zB_wI, ↓zB_wZ, ↓zB_lIl, ↓zB_wIl, zB_pI, zB_pZ, zB_lI, zB_lZ, zB_wI, zB_wZ, z_addl, z_ladd, z_mull, z_lmul, nI_add, z_subl, Nat.not_lt_zero, z_10, z_01, z_bitc, z_b0, z_b1, ↓zB_Gb, ↓zB_G0, ↓zB_G1, z_eql, z_leq, z_ltl, z_llt, z_eq, z_lt, z_m1lt, hM.k, hM.k2391, hM.k2392, hM.k2393, hM.k2394, hM.k2395, hM.k2396, hM.k2397, hM.k2398, hM.k2399, hM.k2400, hM.k2401, hM.k2402, hM.k2403, hM.k2404, hM.k2405, hM.k2406, hM.k2407, hM.k2408, hM.k2409, hM.k2410, hM.k2411, hM.k2412, hM.k2413, hM.k2414, hM.k2415, hM.k2416, hM.k2417, hM.k2418, hM.k2419, hM.k2420, hM.k2421, hM.k2422, hM.k2423, hM.l2391, hM.l2392, hM.l2393, hM.l2394, hM.l2395, hM.l2396, hM.l2397, hM.l2398, hM.l2399, hM.l2400, hM.l2401, hM.l2402, hM.l2403, hM.l2404, hM.l2405, hM.l2406, hM.l2407, hM.l2408, hM.l2409, hM.l2410, hM.l2411, hM.l2412, hM.l2413, hM.l2414, hM.l2415, hM.l2416, hM.l2417, hM.l2418, hM.l2419, hM.l2420, hM.l2421, hM.l2422, hM.l2423, ↓hM.g1, ↓hM.g5, ↓hM.g6, ↓hM.g7, ↓hM.g8, ↓hM.g9, ↓hM.g10, ↓hM.g11, ↓hM.g12, ↓hM.g13, ↓hM.g14, ↓hM.g16, ↓hM.g17, ↓hM.g18, ↓hM.g19, ↓hM.g21, ↓hM.g22, ↓hM.g23, ↓hM.g24, ↓hM.g25, ↓hM.g27, ↓hM.g28, ↓hM.g30, ↓hM.g31, ↓hM.g32, ↓hM.g36, ↓hM.g37, ↓hM.g39, ↓hM.g40, ↓hM.g41, ↓hM.g43, ↓hM.g45, ↓hM.g46, g1, ↓zB_c e4, zB_c e4, Bool.true_eq_false]
end
