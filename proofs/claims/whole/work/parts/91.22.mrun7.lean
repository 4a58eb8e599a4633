-- deps: 91.00.run 91.01.run2 91.02.run3 91.03.run4 91.04.run5 91.05.run6 91.06.crun 91.07.crun2 91.08.crun3 91.09.crun4 91.10.crun5 91.11.crun6 91.12.crun7 91.13.crun8 91.14.crun9 91.15.crun10 91.16.mrun 91.17.mrun2 91.18.mrun3 91.19.mrun4 91.20.mrun5 91.21.mrun6
/-! a run: the reference's machine, a turn -/
section
variable {P : z_Pg} {h h' : y_Qh} {k0 : Nat} {n : Nat} {out : y_V} {a : y_Ac} {s : List y_Ac} {S : z_S} {m : z_m} {b : Nat} {B : Int32}
theorem y_lv_drop {vs : List y_V} {d : Nat} (h : vs.length = d + 1) : vs.drop d = [y_lv vs] := by
  rw [y_lv_e h]
  rw [List.drop_eq_getElem_cons (by omega), List.drop_eq_nil_of_le (by omega)]
  unfold y_g
  rw [List.getD_eq_getElem?_getD, List.getElem?_eq_getElem (by omega)]; rfl
theorem f247_c1 {L q i K T : Int32} (g : ¬ (K = 10 ∧ T = 1)) : f247_121 2390 B L q i K T = f247_188 2390 B L q i K T := by
  unfold f247_121
  by_cases g1 : K = 10
  · rw [if_pos g1, if_neg (fun y => g ⟨g1, y⟩)]
  · rw [if_neg g1]
theorem f247_c2 {L q i K T : Int32} (g : ¬ (K = 10 ∧ T = 3)) : f247_188 2390 B L q i K T = f247_201 2390 B L q i K T := by
  unfold f247_188
  by_cases g1 : K = 10
  · rw [if_pos g1, if_neg (fun y => g ⟨g1, y⟩)]
  · rw [if_neg g1]
theorem f247_c3 {L q i K T : Int32} (g : ¬ (K = 13 ∧ 0 < T)) : f247_201 2390 B L q i K T = f247_213 2390 B L q i K T := by
  unfold f247_201
  by_cases g1 : K = 13
  · rw [if_pos g1, if_neg (fun y => g ⟨g1, y⟩)]
  · rw [if_neg g1]
theorem f247_c4 {L q i K T : Int32} (g : ¬ (K = 5 ∧ T = 2)) : f247_213 2390 B L q i K T = f247_238 2390 B L q i K T := by
  unfold f247_213
  by_cases g1 : K = 5
  · rw [if_pos g1, if_neg (fun y => g ⟨g1, y⟩)]
  · rw [if_neg g1]
theorem f247_c5 {L q i K T : Int32} (g : ¬ K = 7) : f247_238 2390 B L q i K T = f247_315 2390 B L q i K T := by
  unfold f247_238 f247_283
  rw [if_neg g, if_neg g]
/-- goOn -/
theorem f247_r (hP : y_PG P) (hM : z_MS S) (hB : B = nI b) (hQ : y_QI P k0 (a :: s) h n out) (hG : y_rG m b P) (hC : y_rQ P m (a :: s) h n out) : ∃ m', f247 2390 B (z_hp S m) = some ((), z_hp S m') ∧ y_rX P m' (y_go P a s h n out) ∧ y_rR m m' := by
  have hQ0 := hQ
  have hC0 := hC
  obtain ⟨hn, hx, hCH, hI, h20⟩ := hQ
  obtain ⟨⟨c20, c33, c34, c35⟩, hS, hO, c26, c15, hF⟩ := hC
  obtain ⟨⟨⟨p1, p2, p3⟩, p4, p5, p6⟩, hSs⟩ := hS
  have hw := hP.1.1
  have h24 := hw.2.2.1
  have h6 := hw.1.1
  have hm := hI.1 a.1 (Nat.le_refl _)
  have hBB := hw.2.2.2.2.1 _ hm.1
  have hr := hP.rt _ hm.1 hm.2.1
  have hl60 := hP.1.2 _ hm.1
  have hi : a.2.1 < (z_bd P (y_qm h a.1)).length := hCH.1.1
  have n2 : y_ht s + a.2.2.2.length + (s.length + 1) ≤ n := hn.2.1
  have hqn : y_qn h + (s.length + 1) ≤ n + 1 := hn.2.2
  have hrh := y_rh_le P h s
  have hls : s.length < 1400 := by omega
  have h21 : a.1 < 21 := by omega
  have ek := hG.1.ek (S := S) hM hB hm.1 hi
  have ek : f199 2390 B (nI (y_qm h a.1)) (nI a.2.1) (z_hp S m) = some (y_k P h a, z_hp S m) := ek
  have ep := f222_sp (S := S) hG.1 hM hB hm.1 hBB hi
  have ep : f222 2390 B (nI (y_qm h a.1)) (nI a.2.1) (z_hp S m) = some (nI (y_p P h a), z_hp S m) := ep
  have f02 := (hF a.1 (Nat.le_refl _)).1
  have c20' : m 2390 20 = nI (s.length + 1) := c20
  have e1 : nI (s.length + 1) - 1 = nI s.length := z_subl (k := 1) (by omega)
  have hp3 : y_p P h a ≤ 3 := z_p_3le hBB hi
  have hsb := hCH.1.2.2.1
  have hst4 : a.2.2.1 ≤ 4 := Nat.le_trans hsb (y_sb_4 hp3)
  have hid : ∀ f, f ≤ a.1 → y_qm h f = y_qm h f := fun _ _ => rfl
  -- what stands there is what was found
  have fin : ∀ {v : y_V} {m1 : z_m}, y_rv P h a = [v] → m1 2390 20 = nI s.length → m1 2390 15 = nI (a.1 + 1) → (∀ j, j ≠ 15 → j ≠ 20 → m1 2390 j = m 2390 j) → (∀ c, c ≠ 2390 → m1 c = m c) → y_rX P m1 (y_fin s h n out v) := fun {v m1} hv q1 q2 q3 q4 => by
    refine y_rfin hQ0 hC0 hid q1 (fun j hj => q3 j (by omega) (by omega)) q2 ?_ ?_ (fun c x y j _ => by rw [q4 c (by omega)]) (fun c hc j _ => by rw [q4 c (by omega)]) (y_rO_fr (q3 29 (by decide) (by decide)) (fun c x y => q4 c (by omega)) hO) (y_rF_fr (fun c x y => q4 c (by omega)) hF)
    · rw [q3 26 (by decide) (by decide), c26]
      show nI (y_rh P h s + (y_rv P h a).length) = _
      rw [hv]; rfl
    · have := p6 0 (by rw [hv]; exact Nat.zero_lt_one)
      rw [hv] at this
      rw [q4 2411 (by decide), q4 2412 (by decide)]
      exact this
  have fin25 : ∀ {v : y_V}, y_rv P h a = [v] → y_rf P h a = a.1 + 1 → ∃ m', f247_225 2390 (z_hp S m) = some ((), z_hp S m') ∧ y_rX P m' (y_fin s h n out v) ∧ y_rR m m' := fun {v} hv hf => by
    refine ⟨z_up m 2390 20 (nI s.length), ?_, fin hv (z_up_s _ _ _ _) (by rw [z_up_b (by decide), c15, hf]) (fun j _ y => z_up_b y) (fun c x => z_up_row x), ⟨fun c _ y => z_up_row y, fun j _ y _ _ _ _ _ => z_up_b y⟩⟩
    unfold f247_225 f247_347
    simp (disch := ((try simp only [true_or, or_true, hM.k, hM.k2391, hM.k2392, hM.k2393, hM.k2394, hM.k2395, hM.k2396, hM.k2397, hM.k2398, hM.k2399, hM.k2400, hM.k2401, hM.k2402, hM.k2403, hM.k2404, hM.k2405, hM.k2406, hM.k2407, hM.k2408, hM.k2409, hM.k2410, hM.k2411, hM.k2412, hM.k2413, hM.k2414, hM.k2415, hM.k2416, hM.k2417, hM.k2418, hM.k2419, hM.k2420, hM.k2421, hM.k2422, hM.k2423, hM.l2391, hM.l2392, hM.l2393, hM.l2394, hM.l2395, hM.l2396, hM.l2397, hM.l2398, hM.l2399, hM.l2400, hM.l2401, hM.l2402, hM.l2403, hM.l2404, hM.l2405, hM.l2406, hM.l2407, hM.l2408, hM.l2409, hM.l2410, hM.l2411, hM.l2412, hM.l2413, hM.l2414, hM.l2415, hM.l2416, hM.l2417, hM.l2418, hM.l2419, hM.l2420, hM.l2421, hM.l2422, hM.l2423]) <;> (try omega))) only [↓reduceIte, ↓z_ite, ↓zR, ↓zB_R, ↓zB_B, ↓zB_ite, ↓zB_gI, ↓zB_pI, ↓zB_pZ, ↓zB_aK, ↓zB_G, ↓zB_lI, ↓zB_lZ, ↓zB_wI, ↓zB_wZ, ↓zB_lIl, ↓zB_wIl, zB_pI, zB_pZ, zB_lI, zB_lZ, zB_wI, zB_wZ, z_addl, z_ladd, z_mull, z_lmul, nI_add, z_subl, Nat.not_lt_zero, z_10, z_01, z_bitc, z_b0, z_b1, ↓zB_Gb, ↓zB_G0, ↓zB_G1, z_eql, z_leq, z_ltl, z_llt, z_eq, z_lt, z_m1lt, hM.k, hM.k2391, hM.k2392, hM.k2393, hM.k2394, hM.k2395, hM.k2396, hM.k2397, hM.k2398, hM.k2399, hM.k2400, hM.k2401, hM.k2402, hM.k2403, hM.k2404, hM.k2405, hM.k2406, hM.k2407, hM.k2408, hM.k2409, hM.k2410, hM.k2411, hM.k2412, hM.k2413, hM.k2414, hM.k2415, hM.k2416, hM.k2417, hM.k2418, hM.k2419, hM.k2420, hM.k2421, hM.k2422, hM.k2423, hM.l2391, hM.l2392, hM.l2393, hM.l2394, hM.l2395, hM.l2396, hM.l2397, hM.l2398, hM.l2399, hM.l2400, hM.l2401, hM.l2402, hM.l2403, hM.l2404, hM.l2405, hM.l2406, hM.l2407, hM.l2408, hM.l2409, hM.l2410, hM.l2411, hM.l2412, hM.l2413, hM.l2414, hM.l2415, hM.l2416, hM.l2417, hM.l2418, hM.l2419, hM.l2420, hM.l2421, hM.l2422, hM.l2423, ↓hM.g1, ↓hM.g5, ↓hM.g6, ↓hM.g7, ↓hM.g8, ↓hM.g9, ↓hM.g10, ↓hM.g11, ↓hM.g12, ↓hM.g13, ↓hM.g14, ↓hM.g16, ↓hM.g17, ↓hM.g18, ↓hM.g19, ↓hM.g21, ↓hM.g22, ↓hM.g23, ↓hM.g24, ↓hM.g25, ↓hM.g27, ↓hM.g28, ↓hM.g30, ↓hM.g31, ↓hM.g32, ↓hM.g36, ↓hM.g37, ↓hM.g39, ↓hM.g40, ↓hM.g41, ↓hM.g43, ↓hM.g45, ↓hM.g46, c20', e1]
  -- the next part
  have nx : (¬ y_k P h a = 10 ∨ a.2.2.1 = 0) → a.2.2.1 < y_p P h a → ¬ (y_k P h a = 5 ∧ a.2.2.1 = 1) → y_rf P h a = a.1 + 1 → ∃ m', f245 2390 (nI s.length) (z_hp S m) = some ((), z_hp S m') ∧ y_rX P m' (y_st (y_up1 a :: s) h n out a.1 (y_pt P h a a.2.2.1)) ∧ y_rR m m' := fun g1 g2 g3 g4 => by
    have e0 : y_dr (y_k P h a) (y_p P h a) a.2.2.1 = 0 := by
      unfold y_dr
      rw [if_neg, if_neg (fun q => by omega)]
      rintro ⟨g | g, q⟩
      · have := z_p_5 (l := z_bd P (y_qm h a.1)) (i := a.2.1) g
        have : y_p P h a = 2 := this
        omega
      · rcases g1 with g1 | g1
        · exact g1 g
        · omega
    have e1 : y_dr (y_k P h a) (y_p P h a) (a.2.2.1 + 1) = 0 := by
      unfold y_dr
      rw [if_neg, if_neg (fun q => by omega)]
      rintro ⟨g | g, q⟩
      · exact g3 ⟨g, by omega⟩
      · rcases g1 with g1 | g1
        · exact g1 g
        · omega
    have ev0 : y_rv P h a = a.2.2.2 := by unfold y_rv; rw [e0]; rfl
    have ev1 : y_rv P h (y_up1 a) = a.2.2.2 := by
      show a.2.2.2.drop (y_dr (y_k P h a) (y_p P h a) (a.2.2.1 + 1)) = _
      rw [e1]; rfl
    refine f245_r (out := out) hP hM hG hI h20 hi (by omega) hn.1 c20' c33 c34 c35 hSs hO hF p1 p2 ?_ ?_ p5 (fun j hj => ?_) ?_ (by rw [c15, g4]) g1 g2
    · rw [p3]
      unfold y_rst
      rw [if_neg]
      rintro ⟨q1, q2⟩
      rcases g1 with g1 | g1
      · exact g1 q1
      · omega
    · exact p4 (fun q => by rcases g1 with g1 | g1; exact absurd q g1; omega) g2
    · rw [ev1] at hj ⊢
      have := p6 j (by rw [ev0]; exact hj)
      rw [ev0] at this; exact this
    · rw [ev1, c26]
      show nI (y_rh P h s + (y_rv P h a).length) = _
      rw [ev0]
  -- the head
  have head : ¬ (y_k P h a = 5 ∧ nI (y_rst (y_k P h a) a.2.2.1) = 1) → f247 2390 B (z_hp S m) = f247_121 2390 B (nI s.length) (nI (y_qm h a.1)) (nI a.2.1) (y_k P h a) (nI (y_rst (y_k P h a) a.2.2.1)) (z_hp S m) := fun g => by
    unfold f247
    by_cases g5 : y_k P h a = 5
    · have g1 : ¬ nI (y_rst (y_k P h a) a.2.2.1) = 1 := fun q => g ⟨g5, q⟩
      rw [g5] at ek p3 g1
      rw [g5]
      simp (disch := ((try simp only [true_or, or_true, hM.k, hM.k2391, hM.k2392, hM.k2393, hM.k2394, hM.k2395, hM.k2396, hM.k2397, hM.k2398, hM.k2399, hM.k2400, hM.k2401, hM.k2402, hM.k2403, hM.k2404, hM.k2405, hM.k2406, hM.k2407, hM.k2408, hM.k2409, hM.k2410, hM.k2411, hM.k2412, hM.k2413, hM.k2414, hM.k2415, hM.k2416, hM.k2417, hM.k2418, hM.k2419, hM.k2420, hM.k2421, hM.k2422, hM.k2423, hM.l2391, hM.l2392, hM.l2393, hM.l2394, hM.l2395, hM.l2396, hM.l2397, hM.l2398, hM.l2399, hM.l2400, hM.l2401, hM.l2402, hM.l2403, hM.l2404, hM.l2405, hM.l2406, hM.l2407, hM.l2408, hM.l2409, hM.l2410, hM.l2411, hM.l2412, hM.l2413, hM.l2414, hM.l2415, hM.l2416, hM.l2417, hM.l2418, hM.l2419, hM.l2420, hM.l2421, hM.l2422, hM.l2423]) <;> (try omega))) only [↓reduceIte, ↓z_ite, ↓zR, ↓zB_R, ↓zB_B, ↓zB_ite, ↓zB_gI, ↓zB_pI, ↓zB_pZ, ↓zB_aK, ↓zB_G, ↓zB_lI, ↓zB_lZ, ↓zB_wI, ↓zB_wZ, ↓zB_lIl, ↓zB_wIl, zB_pI, zB_pZ, zB_lI, zB_lZ, zB_wI, zB_wZ, z_addl, z_ladd, z_mull, z_lmul, nI_add, z_subl, Nat.not_lt_zero, z_10, z_01, z_bitc, z_b0, z_b1, ↓zB_Gb, ↓zB_G0, ↓zB_G1, z_eql, z_leq, z_ltl, z_llt, z_eq, z_lt, z_m1lt, hM.k, hM.k2391, hM.k2392, hM.k2393, hM.k2394, hM.k2395, hM.k2396, hM.k2397, hM.k2398, hM.k2399, hM.k2400, hM.k2401, hM.k2402, hM.k2403, hM.k2404, hM.k2405, hM.k2406, hM.k2407, hM.k2408, hM.k2409, hM.k2410, hM.k2411, hM.k2412, hM.k2413, hM.k2414, hM.k2415, hM.k2416, hM.k2417, hM.k2418, hM.k2419, hM.k2420, hM.k2421, hM.k2422, hM.k2423, hM.l2391, hM.l2392, hM.l2393, hM.l2394, hM.l2395, hM.l2396, hM.l2397, hM.l2398, hM.l2399, hM.l2400, hM.l2401, hM.l2402, hM.l2403, hM.l2404, hM.l2405, hM.l2406, hM.l2407, hM.l2408, hM.l2409, hM.l2410, hM.l2411, hM.l2412, hM.l2413, hM.l2414, hM.l2415, hM.l2416, hM.l2417, hM.l2418, hM.l2419, hM.l2420, hM.l2421, hM.l2422, hM.l2423, ↓hM.g1, ↓hM.g5, ↓hM.g6, ↓hM.g7, ↓hM.g8, ↓hM.g9, ↓hM.g10, ↓hM.g11, ↓hM.g12, ↓hM.g13, ↓hM.g14, ↓hM.g16, ↓hM.g17, ↓hM.g18, ↓hM.g19, ↓hM.g21, ↓hM.g22, ↓hM.g23, ↓hM.g24, ↓hM.g25, ↓hM.g27, ↓hM.g28, ↓hM.g30, ↓hM.g31, ↓hM.g32, ↓hM.g36, ↓hM.g37, ↓hM.g39, ↓hM.g40, ↓hM.g41, ↓hM.g43, ↓hM.g45, ↓hM.g46, c20', e1, hls, p1, h21, f02, p2, ↓zB_c ek, zB_c ek, p3, g1]
    · simp (disch := ((try simp only [true_or, or_true, hM.k, hM.k2391, hM.k2392, hM.k2393, hM.k2394, hM.k2395, hM.k2396, hM.k2397, hM.k2398, hM.k2399, hM.k2400, hM.k2401, hM.k2402, hM.k2403, hM.k2404, hM.k2405, hM.k2406, hM.k2407, hM.k2408, hM.k2409, hM.k2410, hM.k2411, hM.k2412, hM.k2413, hM.k2414, hM.k2415, hM.k2416, hM.k2417, hM.k2418, hM.k2419, hM.k2420, hM.k2421, hM.k2422, hM.k2423, hM.l2391, hM.l2392, hM.l2393, hM.l2394, hM.l2395, hM.l2396, hM.l2397, hM.l2398, hM.l2399, hM.l2400, hM.l2401, hM.l2402, hM.l2403, hM.l2404, hM.l2405, hM.l2406, hM.l2407, hM.l2408, hM.l2409, hM.l2410, hM.l2411, hM.l2412, hM.l2413, hM.l2414, hM.l2415, hM.l2416, hM.l2417, hM.l2418, hM.l2419, hM.l2420, hM.l2421, hM.l2422, hM.l2423]) <;> (try omega))) only [↓reduceIte, ↓z_ite, ↓zR, ↓zB_R, ↓zB_B, ↓zB_ite, ↓zB_gI, ↓zB_pI, ↓zB_pZ, ↓zB_aK, ↓zB_G, ↓zB_lI, ↓zB_lZ, ↓zB_wI, ↓zB_wZ, ↓zB_lIl, ↓zB_wIl, zB_pI, zB_pZ, zB_lI, zB_lZ, zB_wI, zB_wZ, z_addl, z_ladd, z_mull, z_lmul, nI_add, z_subl, Nat.not_lt_zero, z_10, z_01, z_bitc, z_b0, z_b1, ↓zB_Gb, ↓zB_G0, ↓zB_G1, z_eql, z_leq, z_ltl, z_llt, z_eq, z_lt, z_m1lt, hM.k, hM.k2391, hM.k2392, hM.k2393, hM.k2394, hM.k2395, hM.k2396, hM.k2397, hM.k2398, hM.k2399, hM.k2400, hM.k2401, hM.k2402, hM.k2403, hM.k2404, hM.k2405, hM.k2406, hM.k2407, hM.k2408, hM.k2409, hM.k2410, hM.k2411, hM.k2412, hM.k2413, hM.k2414, hM.k2415, hM.k2416, hM.k2417, hM.k2418, hM.k2419, hM.k2420, hM.k2421, hM.k2422, hM.k2423, hM.l2391, hM.l2392, hM.l2393, hM.l2394, hM.l2395, hM.l2396, hM.l2397, hM.l2398, hM.l2399, hM.l2400, hM.l2401, hM.l2402, hM.l2403, hM.l2404, hM.l2405, hM.l2406, hM.l2407, hM.l2408, hM.l2409, hM.l2410, hM.l2411, hM.l2412, hM.l2413, hM.l2414, hM.l2415, hM.l2416, hM.l2417, hM.l2418, hM.l2419, hM.l2420, hM.l2421, hM.l2422, hM.l2423, ↓hM.g1, ↓hM.g5, ↓hM.g6, ↓hM.g7, ↓hM.g8, ↓hM.g9, ↓hM.g10, ↓hM.g11, ↓hM.g12, ↓hM.g13, ↓hM.g14, ↓hM.g16, ↓hM.g17, ↓hM.g18, ↓hM.g19, ↓hM.g21, ↓hM.g22, ↓hM.g23, ↓hM.g24, ↓hM.g25, ↓hM.g27, ↓hM.g28, ↓hM.g30, ↓hM.g31, ↓hM.g32, ↓hM.g36, ↓hM.g37, ↓hM.g39, ↓hM.g40, ↓hM.g41, ↓hM.g43, ↓hM.g45, ↓hM.g46, c20', e1, hls, p1, h21, f02, p2, ↓zB_c ek, zB_c ek, p3, g5]
  have rst : ¬ (y_k P h a = 10 ∧ a.2.2.1 = 2) → y_rst (y_k P h a) a.2.2.1 = a.2.2.1 := fun g => by unfold y_rst; rw [if_neg g]
  have rf1 : ¬ (y_k P h a = 7 ∧ a.2.2.1 = y_p P h a + 1) → y_rf P h a = a.1 + 1 := fun g => by unfold y_rf; rw [if_neg g]
  have ne : ∀ k : Nat, k < 100 → a.2.2.1 ≠ k → ¬ nI a.2.2.1 = nI k := fun k hk h q => h ((nI_eq (by omega) (by omega)).mp q)
  have go245 : a.2.2.1 < y_p P h a → ∀ m', f245 2390 (nI s.length) (z_hp S m) = some ((), z_hp S m') → f247_315 2390 B (nI s.length) (nI (y_qm h a.1)) (nI a.2.1) (y_k P h a) (nI a.2.2.1) (z_hp S m) = some ((), z_hp S m') := fun g m' e => by
    unfold f247_315 f247_347
    have g' : nI a.2.2.1 < nI (y_p P h a) := (nI_ltI (by omega) (by omega)).mpr g
    simp (disch := ((try simp only [true_or, or_true, hM.k, hM.k2391, hM.k2392, hM.k2393, hM.k2394, hM.k2395, hM.k2396, hM.k2397, hM.k2398, hM.k2399, hM.k2400, hM.k2401, hM.k2402, hM.k2403, hM.k2404, hM.k2405, hM.k2406, hM.k2407, hM.k2408, hM.k2409, hM.k2410, hM.k2411, hM.k2412, hM.k2413, hM.k2414, hM.k2415, hM.k2416, hM.k2417, hM.k2418, hM.k2419, hM.k2420, hM.k2421, hM.k2422, hM.k2423, hM.l2391, hM.l2392, hM.l2393, hM.l2394, hM.l2395, hM.l2396, hM.l2397, hM.l2398, hM.l2399, hM.l2400, hM.l2401, hM.l2402, hM.l2403, hM.l2404, hM.l2405, hM.l2406, hM.l2407, hM.l2408, hM.l2409, hM.l2410, hM.l2411, hM.l2412, hM.l2413, hM.l2414, hM.l2415, hM.l2416, hM.l2417, hM.l2418, hM.l2419, hM.l2420, hM.l2421, hM.l2422, hM.l2423]) <;> (try omega))) only [↓reduceIte, ↓z_ite, ↓zR, ↓zB_R, ↓zB_B, ↓zB_ite, ↓zB_gI, ↓zB_pI, ↓zB_pZ, ↓zB_aK, ↓zB_G, ↓zB_lI, ↓zB_lZ, ↓zB_wI, ↓zB_wZ, ↓zB_lIl, ↓zB_wIl, zB_pI, zB_pZ, zB_lI, zB_lZ, zB_wI, zB_wZ, z_addl, z_ladd, z_mull, z_lmul, nI_add, z_subl, Nat.not_lt_zero, z_10, z_01, z_bitc, z_b0, z_b1, ↓zB_Gb, ↓zB_G0, ↓zB_G1, z_eql, z_leq, z_ltl, z_llt, z_eq, z_lt, z_m1lt, hM.k, hM.k2391, hM.k2392, hM.k2393, hM.k2394, hM.k2395, hM.k2396, hM.k2397, hM.k2398, hM.k2399, hM.k2400, hM.k2401, hM.k2402, hM.k2403, hM.k2404, hM.k2405, hM.k2406, hM.k2407, hM.k2408, hM.k2409, hM.k2410, hM.k2411, hM.k2412, hM.k2413, hM.k2414, hM.k2415, hM.k2416, hM.k2417, hM.k2418, hM.k2419, hM.k2420, hM.k2421, hM.k2422, hM.k2423, hM.l2391, hM.l2392, hM.l2393, hM.l2394, hM.l2395, hM.l2396, hM.l2397, hM.l2398, hM.l2399, hM.l2400, hM.l2401, hM.l2402, hM.l2403, hM.l2404, hM.l2405, hM.l2406, hM.l2407, hM.l2408, hM.l2409, hM.l2410, hM.l2411, hM.l2412, hM.l2413, hM.l2414, hM.l2415, hM.l2416, hM.l2417, hM.l2418, hM.l2419, hM.l2420, hM.l2421, hM.l2422, hM.l2423, ↓hM.g1, ↓hM.g5, ↓hM.g6, ↓hM.g7, ↓hM.g8, ↓hM.g9, ↓hM.g10, ↓hM.g11, ↓hM.g12, ↓hM.g13, ↓hM.g14, ↓hM.g16, ↓hM.g17, ↓hM.g18, ↓hM.g19, ↓hM.g21, ↓hM.g22, ↓hM.g23, ↓hM.g24, ↓hM.g25, ↓hM.g27, ↓hM.g28, ↓hM.g30, ↓hM.g31, ↓hM.g32, ↓hM.g36, ↓hM.g37, ↓hM.g39, ↓hM.g40, ↓hM.g41, ↓hM.g43, ↓hM.g45, ↓hM.g46, ↓zB_c ep, zB_c ep, g, ↓zB_c e, zB_c e]
  have go249 : ¬ a.2.2.1 < y_p P h a → ∀ m', f249 2390 B (nI s.length) (nI (y_qm h a.1)) (nI a.2.1) (y_k P h a) (z_hp S m) = some ((), z_hp S m') → f247_315 2390 B (nI s.length) (nI (y_qm h a.1)) (nI a.2.1) (y_k P h a) (nI a.2.2.1) (z_hp S m) = some ((), z_hp S m') := fun g m' e => by
    unfold f247_315 f247_347
    simp (disch := ((try simp only [true_or, or_true, hM.k, hM.k2391, hM.k2392, hM.k2393, hM.k2394, hM.k2395, hM.k2396, hM.k2397, hM.k2398, hM.k2399, hM.k2400, hM.k2401, hM.k2402, hM.k2403, hM.k2404, hM.k2405, hM.k2406, hM.k2407, hM.k2408, hM.k2409, hM.k2410, hM.k2411, hM.k2412, hM.k2413, hM.k2414, hM.k2415, hM.k2416, hM.k2417, hM.k2418, hM.k2419, hM.k2420, hM.k2421, hM.k2422, hM.k2423, hM.l2391, hM.l2392, hM.l2393, hM.l2394, hM.l2395, hM.l2396, hM.l2397, hM.l2398, hM.l2399, hM.l2400, hM.l2401, hM.l2402, hM.l2403, hM.l2404, hM.l2405, hM.l2406, hM.l2407, hM.l2408, hM.l2409, hM.l2410, hM.l2411, hM.l2412, hM.l2413, hM.l2414, hM.l2415, hM.l2416, hM.l2417, hM.l2418, hM.l2419, hM.l2420, hM.l2421, hM.l2422, hM.l2423]) <;> (try omega))) only [↓reduceIte, ↓z_ite, ↓zR, ↓zB_R, ↓zB_B, ↓zB_ite, ↓zB_gI, ↓zB_pI, ↓zB_pZ, ↓zB_aK, ↓zB_G, ↓zB_lI, ↓zB_lZ, ↓zB_wI, ↓zB_wZ, ↓zB_lIl, ↓zB_wIl, zB_pI, zB_pZ, zB_lI, zB_lZ, zB_wI, zB_wZ, z_addl, z_ladd, z_mull, z_lmul, nI_add, z_subl, Nat.not_lt_zero, z_10, z_01, z_bitc, z_b0, z_b1, ↓zB_Gb, ↓zB_G0, ↓zB_G1, z_eql, z_leq, z_ltl, z_llt, z_eq, z_lt, z_m1lt, hM.k, hM.k2391, hM.k2392, hM.k2393, hM.k2394, hM.k2395, hM.k2396, hM.k2397, hM.k2398, hM.k2399, hM.k2400, hM.k2401, hM.k2402, hM.k2403, hM.k2404, hM.k2405, hM.k2406, hM.k2407, hM.k2408, hM.k2409, hM.k2410, hM.k2411, hM.k2412, hM.k2413, hM.k2414, hM.k2415, hM.k2416, hM.k2417, hM.k2418, hM.k2419, hM.k2420, hM.k2421, hM.k2422, hM.k2423, hM.l2391, hM.l2392, hM.l2393, hM.l2394, hM.l2395, hM.l2396, hM.l2397, hM.l2398, hM.l2399, hM.l2400, hM.l2401, hM.l2402, hM.l2403, hM.l2404, hM.l2405, hM.l2406, hM.l2407, hM.l2408, hM.l2409, hM.l2410, hM.l2411, hM.l2412, hM.l2413, hM.l2414, hM.l2415, hM.l2416, hM.l2417, hM.l2418, hM.l2419, hM.l2420, hM.l2421, hM.l2422, hM.l2423, ↓hM.g1, ↓hM.g5, ↓hM.g6, ↓hM.g7, ↓hM.g8, ↓hM.g9, ↓hM.g10, ↓hM.g11, ↓hM.g12, ↓hM.g13, ↓hM.g14, ↓hM.g16, ↓hM.g17, ↓hM.g18, ↓hM.g19, ↓hM.g21, ↓hM.g22, ↓hM.g23, ↓hM.g24, ↓hM.g25, ↓hM.g27, ↓hM.g28, ↓hM.g30, ↓hM.g31, ↓hM.g32, ↓hM.g36, ↓hM.g37, ↓hM.g39, ↓hM.g40, ↓hM.g41, ↓hM.g43, ↓hM.g45, ↓hM.g46, ↓zB_c ep, zB_c ep, g, ↓zB_c e, zB_c e]
  have z_k : ∀ {k : Int32}, y_k P h a = k → z_k (z_bd P (y_qm h a.1)) a.2.1 = k := fun g => g
  have ch : ¬ (y_k P h a = 5 ∧ (a.2.2.1 = 1 ∨ a.2.2.1 = 2)) → ¬ (y_k P h a = 10 ∧ ¬ a.2.2.1 = 0) → ¬ (y_k P h a = 13 ∧ ¬ a.2.2.1 = 0) → ¬ y_k P h a = 7 → f247 2390 B (z_hp S m) = f247_315 2390 B (nI s.length) (nI (y_qm h a.1)) (nI a.2.1) (y_k P h a) (nI a.2.2.1) (z_hp S m) := fun g5 g10 g13 g7 => by
    have er := rst (fun q => g10 ⟨q.1, by omega⟩)
    rw [head (fun q => g5 ⟨q.1, Or.inl (by
      rw [er] at q
      exact (nI_eq (b := 1) (by omega) (by decide)).mp q.2)⟩), er, f247_c1 (fun q => g10 ⟨q.1, fun w => by rw [w] at q; exact absurd q.2 (by decide)⟩), f247_c2 (fun q => g10 ⟨q.1, fun w => by rw [w] at q; exact absurd q.2 (by decide)⟩), f247_c3 (fun q => g13 ⟨q.1, fun w => by rw [w] at q; exact absurd q.2 (by decide)⟩), f247_c4 (fun q => g5 ⟨q.1, Or.inr ((nI_eq (b := 2) (by omega) (by decide)).mp q.2)⟩), f247_c5 g7]
  by_cases k5 : y_k P h a = 5
  · unfold y_go
    have pp : y_p P h a = 2 := z_p_5 (z_k k5)
    have sb2 : y_sb (y_k P h a) (y_p P h a) = 2 := by rw [k5, pp]; rfl
    rw [sb2] at hsb
    have n7 : ¬ (y_k P h a = 7 ∧ a.2.2.1 = y_p P h a + 1) := fun q => by rw [k5] at q; exact absurd q.1 (by decide)
    have n10 : ¬ y_k P h a = 10 := by rw [k5]; decide
    have n13 : ¬ y_k P h a = 13 := by rw [k5]; decide
    have hx : a.2.2.2.length = a.2.2.1 := by rw [hx]; unfold y_xc; rw [if_neg (fun y => n13 y.1)]
    rw [if_neg (by rw [k5]; decide), if_neg (by rw [k5]; decide), if_neg (by rw [k5]; decide), if_neg (by rw [k5]; decide), if_pos (Or.inl k5)]
    by_cases s0 : a.2.2.1 = 0
    · rw [if_pos s0]
      obtain ⟨m', e, x1, r1⟩ := nx (Or.inl n10) (by omega) (fun q => by omega) (rf1 n7)
      rw [s0] at x1
      refine ⟨m', ?_, x1, r1⟩
      rw [ch (fun q => by omega) (fun q => n10 q.1) (fun q => n13 q.1) (by rw [k5]; decide)]
      exact go245 (by omega) m' e
    rw [if_neg s0]
    by_cases s2 : a.2.2.1 = 2
    · rw [if_pos (Or.inl (by omega))]
      have erv : y_rv P h a = [y_lv a.2.2.2] := by
        unfold y_rv
        have : y_dr (y_k P h a) (y_p P h a) a.2.2.1 = 1 := by unfold y_dr; rw [if_pos ⟨Or.inl k5, s2⟩]
        rw [this]
        exact y_lv_drop (by omega)
      obtain ⟨m', e, x1, r1⟩ := fin25 erv (rf1 n7)
      refine ⟨m', ?_, x1, r1⟩
      have er := rst (fun q => n10 q.1)
      rw [head (fun q => by rw [er, s2] at q; exact absurd q.2 (by decide)), f247_c1 (fun q => n10 q.1), f247_c2 (fun q => n10 q.1), f247_c3 (fun q => n13 q.1), er, s2, k5]
      exact e
    have s1 : a.2.2.1 = 1 := by omega
    rw [if_neg (fun q => by rcases q with q | q; omega; exact n13 q), if_pos k5, if_neg (fun q => n10 q.1)]
    have hl1 : a.2.2.2.length = 0 + 1 := by omega
    have lv0 := y_lv_e hl1
    rw [lv0]
    have v0 := hCH.1.2.2.2 0 (by omega)
    have rq0 : y_rq P h a 0 = z_Ty P (y_qm h a.1) (y_pt P h a 0) := by
      unfold y_rq
      rw [if_neg]
      rintro (⟨_, g⟩ | g | ⟨g, _⟩)
      · exact absurd g (by decide)
      · exact n13 g
      · rw [k5] at g; exact absurd g (by decide)
    have erv : y_rv P h a = a.2.2.2 := by
      unfold y_rv y_dr
      rw [if_neg (fun q => by omega), if_neg n7]; rfl
    have c26' : m 2390 26 = nI (y_rh P h s + 1) := by
      have : m 2390 26 = nI (y_rh P h s + (y_rv P h a).length) := c26
      rw [erv, hl1] at this; exact this
    obtain ⟨w1, w2⟩ := p6 0 (by rw [erv]; omega)
    rw [erv] at w1 w2
    have w1 : m 2411 (y_rh P h s) = (y_g a.2.2.2 0).1 := w1
    have w2 : m 2412 (y_rh P h s) = (y_g a.2.2.2 0).2 := w2
    have e2 : nI (y_rh P h s + 1) - 1 = nI (y_rh P h s) := z_subl (k := 1) (by omega)
    have hh : y_rh P h s < 4000 := by omega
    have hsl : a.2.1 + 2 < 62 := by omega
    have esr : y_sr (a.2.1 + 2) = a.2.1 := by unfold y_sr; rw [if_neg (by omega), if_neg (by omega)]; rfl
    obtain ⟨e246, hix⟩ := f246_r (S := S) (m := m) a.1 (sl := a.2.1 + 2) (x := nI a.2.1) (l := (z_bd P (y_qm h a.1)).length) (by omega) h21 (Or.inr (Or.inr ⟨a.2.1, rfl, rfl, hi⟩))
    generalize hm2 : z_up (z_up (z_up m 2390 26 (nI (y_rh P h s))) 2404 (194 * a.1 + y_sr (a.2.1 + 2)) (y_g a.2.2.2 0).1) 2405 (194 * a.1 + y_sr (a.2.1 + 2)) (y_g a.2.2.2 0).2 = m2
    have u1 : ∀ c, c ≠ 2390 → c ≠ 2404 → c ≠ 2405 → m2 c = m c := fun c x y z => by rw [← hm2, z_up_row z, z_up_row y, z_up_row x]
    have u90 : ∀ j, j ≠ 26 → m2 2390 j = m 2390 j := fun j x => by rw [← hm2, y_u05, y_u04, z_up_b x]
    have u26 : m2 2390 26 = nI (y_rh P h s) := by rw [← hm2, y_u05, y_u04, z_up_s]
    have t4 : ∀ j, m2 2404 j = if j = 194 * a.1 + y_sr (a.2.1 + 2) then (y_g a.2.2.2 0).1 else m 2404 j := fun j => by rw [← hm2, z_up_row (by decide), z_up_k, z_up_row (by decide)]
    have t5 : ∀ j, m2 2405 j = if j = 194 * a.1 + y_sr (a.2.1 + 2) then (y_g a.2.2.2 0).2 else m 2405 j := fun j => by rw [← hm2, z_up_k, z_up_row (by decide), z_up_row (by decide)]
    have hR2 : y_rR m m2 := ⟨fun c x y => u1 c y (by omega) (by omega), fun j _ _ y _ _ _ _ => u90 j y⟩
    have hI2 : y_HI P (y_wl h a.1 (a.2.1 + 2) (y_g a.2.2.2 0)) a.1 := y_wl_HI hI (by
      have e : y_slt P (y_qm h a.1) (a.2.1 + 2) = z_Ty P (y_qm h a.1) (a.2.1 + 1) := by
        unfold y_slt; rw [if_neg (by omega), if_neg (by omega)]; rfl
      rw [e]
      rw [rq0] at v0; exact v0)
    have hF2 : y_rF m2 (y_wl h a.1 (a.2.1 + 2) (y_g a.2.2.2 0)) a.1 := fun f hf => by
      obtain ⟨x1, x2, x3⟩ := hF f hf
      refine ⟨by rw [u1 2402 (by decide) (by decide) (by decide)]; exact x1, by rw [u1 2403 (by decide) (by decide) (by decide)]; exact x2, fun s' v' hs' hv' => ?_⟩
      have hv' : (if f = a.1 ∧ s' = a.2.1 + 2 then some (y_g a.2.2.2 0) else y_ql h f s') = some v' := hv'
      rw [t4, t5]
      by_cases q : f = a.1 ∧ s' = a.2.1 + 2
      · rw [if_pos q] at hv'
        obtain rfl := Option.some.inj hv'
        rw [if_pos (by rw [q.1, q.2]), if_pos (by rw [q.1, q.2])]; exact ⟨rfl, rfl⟩
      · rw [if_neg q] at hv'
        have hne : ¬ 194 * f + y_sr s' = 194 * a.1 + y_sr (a.2.1 + 2) := fun e => q (by
          have y1 := y_sr_lt hs'
          have y2 := y_sr_lt hsl
          have ef : f = a.1 := by omega
          exact ⟨ef, y_sr_inj hs' hsl (by rw [ef] at e; omega)⟩)
        rw [if_neg hne, if_neg hne]
        exact x3 s' v' hs' hv'
    have erv2 : y_rv P (y_wl h a.1 (a.2.1 + 2) (y_g a.2.2.2 0)) (y_up1 a) = [] := by
      show a.2.2.2.drop (y_dr (y_k P h a) (y_p P h a) (a.2.2.1 + 1)) = []
      have : y_dr (y_k P h a) (y_p P h a) (a.2.2.1 + 1) = 1 := by unfold y_dr; rw [if_pos ⟨Or.inl k5, by omega⟩]
      rw [this]
      exact List.drop_eq_nil_of_le (by omega)
    have erh2 : y_rh P (y_wl h a.1 (a.2.1 + 2) (y_g a.2.2.2 0)) s = y_rh P h s := y_rh_eq (fun _ _ => rfl)
    obtain ⟨m', e, x1, r1⟩ := f245_r (S := S) (m := m2) (a := a) (s := s) (n := n) (h := y_wl h a.1 (a.2.1 + 2) (y_g a.2.2.2 0)) (out := out) hP hM (hG.fr hR2) hI2 h20 hi (by omega) hn.1 (by rw [u90 20 (by decide)]; exact c20') (by rw [u90 33 (by decide)]; exact c33) (by rw [u90 34 (by decide)]; exact c34) (by rw [u90 35 (by decide)]; exact c35) (y_rS_fr (h := h) (fun _ _ => rfl) (fun c x y j _ => by rw [u1 c (by omega) (by omega) (by omega)]) (fun c hc j _ => by rw [u1 c (by omega) (by omega) (by omega)]) hSs) (y_rO_fr (u90 29 (by decide)) (fun c x y => u1 c (by omega) (by omega) (by omega)) hO) hF2 (by rw [u1 2406 (by decide) (by decide) (by decide)]; exact p1) (by rw [u1 2407 (by decide) (by decide) (by decide)]; exact p2) (by rw [u1 2408 (by decide) (by decide) (by decide), p3, rst (fun q => n10 q.1)]) (by rw [u1 2409 (by decide) (by decide) (by decide)]; exact p4 (fun q => absurd q n10) (by omega)) (by rw [u1 2410 (by decide) (by decide) (by decide), erh2]; exact p5) (fun j hj => by rw [erv2] at hj; exact absurd hj (Nat.not_lt_zero _)) (by rw [erv2, u26, erh2]; rfl) (by rw [u90 15 (by decide), c15, rf1 n7]) (Or.inl n10) (by show a.2.2.1 < y_p P h a; omega)
    have ept : y_pt P (y_wl h a.1 (a.2.1 + 2) (y_g a.2.2.2 0)) a a.2.2.1 = y_pt P h a 1 := by rw [s1]; rfl
    rw [ept] at x1
    refine ⟨m', ?_, x1, hR2.trans r1⟩
    rw [k5] at ek
    have p3' : m 2408 s.length = 1 := by rw [p3, rst (fun q => n10 q.1), s1]; rfl
    have q26 : z_up m 2390 26 (nI (y_rh P h s)) 2390 26 = nI (y_rh P h s) := z_up_s _ _ _ _
    have q11 : z_up m 2390 26 (nI (y_rh P h s)) 2411 (y_rh P h s) = (y_g a.2.2.2 0).1 := by rw [z_up_row (by decide)]; exact w1
    have q12 : z_up (z_up m 2390 26 (nI (y_rh P h s))) 2404 (194 * a.1 + y_sr (a.2.1 + 2)) (y_g a.2.2.2 0).1 2412 (y_rh P h s) = (y_g a.2.2.2 0).2 := by rw [z_up_row (by decide), z_up_row (by decide)]; exact w2
    unfold f247 f247_347
    simp (disch := ((try simp only [true_or, or_true, hM.k, hM.k2391, hM.k2392, hM.k2393, hM.k2394, hM.k2395, hM.k2396, hM.k2397, hM.k2398, hM.k2399, hM.k2400, hM.k2401, hM.k2402, hM.k2403, hM.k2404, hM.k2405, hM.k2406, hM.k2407, hM.k2408, hM.k2409, hM.k2410, hM.k2411, hM.k2412, hM.k2413, hM.k2414, hM.k2415, hM.k2416, hM.k2417, hM.k2418, hM.k2419, hM.k2420, hM.k2421, hM.k2422, hM.k2423, hM.l2391, hM.l2392, hM.l2393, hM.l2394, hM.l2395, hM.l2396, hM.l2397, hM.l2398, hM.l2399, hM.l2400, hM.l2401, hM.l2402, hM.l2403, hM.l2404, hM.l2405, hM.l2406, hM.l2407, hM.l2408, hM.l2409, hM.l2410, hM.l2411, hM.l2412, hM.l2413, hM.l2414, hM.l2415, hM.l2416, hM.l2417, hM.l2418, hM.l2419, hM.l2420, hM.l2421, hM.l2422, hM.l2423]) <;> (try omega))) only [↓reduceIte, ↓z_ite, ↓zR, ↓zB_R, ↓zB_B, ↓zB_ite, ↓zB_gI, ↓zB_pI, ↓zB_pZ, ↓zB_aK, ↓zB_G, ↓zB_lI, ↓zB_lZ, ↓zB_wI, ↓zB_wZ, ↓zB_lIl, ↓zB_wIl, zB_pI, zB_pZ, zB_lI, zB_lZ, zB_wI, zB_wZ, z_addl, z_ladd, z_mull, z_lmul, nI_add, z_subl, Nat.not_lt_zero, z_10, z_01, z_bitc, z_b0, z_b1, ↓zB_Gb, ↓zB_G0, ↓zB_G1, z_eql, z_leq, z_ltl, z_llt, z_eq, z_lt, z_m1lt, hM.k, hM.k2391, hM.k2392, hM.k2393, hM.k2394, hM.k2395, hM.k2396, hM.k2397, hM.k2398, hM.k2399, hM.k2400, hM.k2401, hM.k2402, hM.k2403, hM.k2404, hM.k2405, hM.k2406, hM.k2407, hM.k2408, hM.k2409, hM.k2410, hM.k2411, hM.k2412, hM.k2413, hM.k2414, hM.k2415, hM.k2416, hM.k2417, hM.k2418, hM.k2419, hM.k2420, hM.k2421, hM.k2422, hM.k2423, hM.l2391, hM.l2392, hM.l2393, hM.l2394, hM.l2395, hM.l2396, hM.l2397, hM.l2398, hM.l2399, hM.l2400, hM.l2401, hM.l2402, hM.l2403, hM.l2404, hM.l2405, hM.l2406, hM.l2407, hM.l2408, hM.l2409, hM.l2410, hM.l2411, hM.l2412, hM.l2413, hM.l2414, hM.l2415, hM.l2416, hM.l2417, hM.l2418, hM.l2419, hM.l2420, hM.l2421, hM.l2422, hM.l2423, ↓hM.g1, ↓hM.g5, ↓hM.g6, ↓hM.g7, ↓hM.g8, ↓hM.g9, ↓hM.g10, ↓hM.g11, ↓hM.g12, ↓hM.g13, ↓hM.g14, ↓hM.g16, ↓hM.g17, ↓hM.g18, ↓hM.g19, ↓hM.g21, ↓hM.g22, ↓hM.g23, ↓hM.g24, ↓hM.g25, ↓hM.g27, ↓hM.g28, ↓hM.g30, ↓hM.g31, ↓hM.g32, ↓hM.g36, ↓hM.g37, ↓hM.g39, ↓hM.g40, ↓hM.g41, ↓hM.g43, ↓hM.g45, ↓hM.g46, c20', e1, hls, p1, h21, f02, p2, ↓zB_c ek, zB_c ek, p3', ↓zB_c e246, zB_c e246, hix, c26', e2, q26, hh, q11, y_u04, q12, hm2, ↓zB_c e, zB_c e]
  by_cases k10 : y_k P h a = 10
  · unfold y_go
    have pp : y_p P h a = 3 := z_p_10 (z_k k10)
    have sb2 : y_sb (y_k P h a) (y_p P h a) = 2 := by rw [k10, pp]; rfl
    rw [sb2] at hsb
    have n7 : ¬ (y_k P h a = 7 ∧ a.2.2.1 = y_p P h a + 1) := fun q => by rw [k10] at q; exact absurd q.1 (by decide)
    have n13 : ¬ y_k P h a = 13 := by rw [k10]; decide
    have hx : a.2.2.2.length = a.2.2.1 := by rw [hx]; unfold y_xc; rw [if_neg (fun y => n13 y.1)]
    rw [if_neg (by rw [k10]; decide), if_neg (by rw [k10]; decide), if_neg (by rw [k10]; decide), if_neg (by rw [k10]; decide), if_pos (Or.inr (Or.inr (Or.inl k10)))]
    by_cases s0 : a.2.2.1 = 0
    · rw [if_pos s0]
      obtain ⟨m', e, x1, r1⟩ := nx (Or.inr s0) (by omega) (fun q => by omega) (rf1 n7)
      rw [s0] at x1
      refine ⟨m', ?_, x1, r1⟩
      rw [ch (fun q => by omega) (fun q => q.2 s0) (fun q => n13 q.1) (by rw [k10]; decide)]
      exact go245 (by omega) m' e
    rw [if_neg s0]
    by_cases s2 : a.2.2.1 = 2
    · rw [if_pos (Or.inl (by omega))]
      have erv : y_rv P h a = [y_lv a.2.2.2] := by
        unfold y_rv
        have : y_dr (y_k P h a) (y_p P h a) a.2.2.1 = 1 := by unfold y_dr; rw [if_pos ⟨Or.inr k10, s2⟩]
        rw [this]
        exact y_lv_drop (by omega)
      obtain ⟨m', e, x1, r1⟩ := fin25 erv (rf1 n7)
      refine ⟨m', ?_, x1, r1⟩
      have er : y_rst (y_k P h a) a.2.2.1 = 3 := by unfold y_rst; rw [if_pos ⟨k10, s2⟩]
      rw [head (fun q => k5 q.1), f247_c1 (fun q => by rw [er] at q; exact absurd q.2 (by decide)), er, k10]
      exact e
    have s1 : a.2.2.1 = 1 := by omega
    rw [if_neg (fun q => by rcases q with q | q; omega; exact n13 q), if_neg k5]
    have hl1 : a.2.2.2.length = 0 + 1 := by omega
    have lv0 := y_lv_e hl1
    rw [lv0]
    have erv : y_rv P h a = a.2.2.2 := by
      unfold y_rv y_dr
      rw [if_neg (fun q => by omega), if_neg n7]; rfl
    have c26' : m 2390 26 = nI (y_rh P h s + 1) := by
      have : m 2390 26 = nI (y_rh P h s + (y_rv P h a).length) := c26
      rw [erv, hl1] at this; exact this
    obtain ⟨w1, w2⟩ := p6 0 (by rw [erv]; omega)
    rw [erv] at w1 w2
    have w2 : m 2412 (y_rh P h s) = (y_g a.2.2.2 0).2 := w2
    have e2 : nI (y_rh P h s + 1) - 1 = nI (y_rh P h s) := z_subl (k := 1) (by omega)
    have hh : y_rh P h s < 4000 := by omega
    generalize hm2 : z_up (z_up m 2390 26 (nI (y_rh P h s))) 2408 s.length 3 = m2
    have u1 : ∀ c, c ≠ 2390 → c ≠ 2408 → m2 c = m c := fun c x y => by rw [← hm2, z_up_row y, z_up_row x]
    have u90 : ∀ j, j ≠ 26 → m2 2390 j = m 2390 j := fun j x => by rw [← hm2, y_u08, z_up_b x]
    have u26 : m2 2390 26 = nI (y_rh P h s) := by rw [← hm2, y_u08, z_up_s]
    have u08 : ∀ j, m2 2408 j = if j = s.length then 3 else m 2408 j := fun j => by
      rw [← hm2, z_up_k, z_up_row (by decide)]
    have hR2 : y_rR m m2 := ⟨fun c x y => u1 c y (by omega), fun j _ _ y _ _ _ _ => u90 j y⟩
    have hG2 := hG.fr hR2
    have hT2 := hG2.2 _ hm.1 hm.2.1
    have pk : z_p (z_bd P (y_qm h a.1)) a.2.1 = 3 := pp
    have e223 : ∀ j, j ≤ 2 → f223 2390 (nI (y_qm h a.1)) (nI a.2.1) (nI j) (z_hp S m2) = some (nI (y_pt P h a j), z_hp S m2) := fun j hj => f223_sp (S := S) hM hBB.1 (by omega) (k := y_qm h a.1) (by omega) hi (fun j _ hj => (hT2 j hj).1) (j := j) (by omega)
    have erv2 : y_rv P h (y_up1 a) = [] := by
      show a.2.2.2.drop (y_dr (y_k P h a) (y_p P h a) (a.2.2.1 + 1)) = []
      have : y_dr (y_k P h a) (y_p P h a) (a.2.2.1 + 1) = 1 := by unfold y_dr; rw [if_pos ⟨Or.inr k10, by omega⟩]
      rw [this]
      exact List.drop_eq_nil_of_le (by omega)
    have hP2 : y_rP P m2 (y_up1 a :: s) h n a.1 := by
      refine ⟨⟨by rw [u90 20 (by decide)]; exact c20, by rw [u90 33 (by decide)]; exact c33, by rw [u90 34 (by decide)]; exact c34, by rw [u90 35 (by decide)]; exact c35⟩, ⟨⟨⟨by rw [u1 2406 (by decide) (by decide)]; exact p1, by rw [u1 2407 (by decide) (by decide)]; exact p2, ?_⟩, fun x _ => ?_, by rw [u1 2410 (by decide) (by decide)]; exact p5, fun j hj => ?_⟩, ?_⟩, y_rO_fr (u90 29 (by decide)) (fun c x y => u1 c (by omega) (by omega)) hO, ?_, ?_, y_rF_fr (fun c x y => u1 c (by omega) (by omega)) hF⟩
      · rw [u08, if_pos rfl]
        show (3 : Int32) = nI (y_rst (y_k P h a) (a.2.2.1 + 1))
        rw [k10, s1]; rfl
      · exfalso
        have : a.2.2.1 + 1 ≤ 1 := x k10
        omega
      · rw [erv2] at hj; exact absurd hj (Nat.not_lt_zero _)
      · refine y_rS_fr (h := h) (fun _ _ => rfl) (fun c x y j hj => ?_) (fun c hc j _ => by rw [u1 c (by omega) (by omega)]) hSs
        by_cases g : c = 2408
        · subst g; rw [u08, if_neg (by omega)]
        · rw [u1 c (by omega) g]
      · rw [u26]
        show nI (y_rh P h s) = nI (y_rh P h s + (y_rv P h (y_up1 a)).length)
        rw [erv2]; rfl
      · rw [u90 15 (by decide), c15, rf1 n7]
    have p3' : nI (y_rst (y_k P h a) a.2.2.1) = 1 := by rw [rst (fun q => s2 q.2), s1]; rfl
    have q26 : z_up (z_up m 2390 26 (nI (y_rh P h s))) 2408 s.length 3 2390 26 = nI (y_rh P h s) := by rw [hm2]; exact u26
    have q12 : m2 2412 (y_rh P h s) = (y_g a.2.2.2 0).2 := by rw [u1 2412 (by decide) (by decide)]; exact w2
    have q06 : m2 2406 s.length = nI a.1 := by rw [u1 2406 (by decide) (by decide)]; exact p1
    by_cases gv : (y_g a.2.2.2 0).2 = 0
    · rw [if_pos ⟨k10, gv⟩]
      obtain ⟨m', e, x1, r1⟩ := f243_r (out := out) hM hP2 (by show s.length + 1 ≤ 500; omega) hn.1 (y_pt P h a 2)
      refine ⟨m', ?_, x1, hR2.trans r1⟩
      rw [head (fun q => k5 q.1), p3', k10]
      have e3 : f223 2390 (nI (y_qm h a.1)) (nI a.2.1) 2 (z_hp S m2) = some (nI (y_pt P h a 2), z_hp S m2) := e223 2 (by decide)
      rw [gv] at q12
      unfold f247_121 f247_173 f247_347
      simp (disch := ((try simp only [true_or, or_true, hM.k, hM.k2391, hM.k2392, hM.k2393, hM.k2394, hM.k2395, hM.k2396, hM.k2397, hM.k2398, hM.k2399, hM.k2400, hM.k2401, hM.k2402, hM.k2403, hM.k2404, hM.k2405, hM.k2406, hM.k2407, hM.k2408, hM.k2409, hM.k2410, hM.k2411, hM.k2412, hM.k2413, hM.k2414, hM.k2415, hM.k2416, hM.k2417, hM.k2418, hM.k2419, hM.k2420, hM.k2421, hM.k2422, hM.k2423, hM.l2391, hM.l2392, hM.l2393, hM.l2394, hM.l2395, hM.l2396, hM.l2397, hM.l2398, hM.l2399, hM.l2400, hM.l2401, hM.l2402, hM.l2403, hM.l2404, hM.l2405, hM.l2406, hM.l2407, hM.l2408, hM.l2409, hM.l2410, hM.l2411, hM.l2412, hM.l2413, hM.l2414, hM.l2415, hM.l2416, hM.l2417, hM.l2418, hM.l2419, hM.l2420, hM.l2421, hM.l2422, hM.l2423]) <;> (try omega))) only [↓reduceIte, ↓z_ite, ↓zR, ↓zB_R, ↓zB_B, ↓zB_ite, ↓zB_gI, ↓zB_pI, ↓zB_pZ, ↓zB_aK, ↓zB_G, ↓zB_lI, ↓zB_lZ, ↓zB_wI, ↓zB_wZ, ↓zB_lIl, ↓zB_wIl, zB_pI, zB_pZ, zB_lI, zB_lZ, zB_wI, zB_wZ, z_addl, z_ladd, z_mull, z_lmul, nI_add, z_subl, Nat.not_lt_zero, z_10, z_01, z_bitc, z_b0, z_b1, ↓zB_Gb, ↓zB_G0, ↓zB_G1, z_eql, z_leq, z_ltl, z_llt, z_eq, z_lt, z_m1lt, hM.k, hM.k2391, hM.k2392, hM.k2393, hM.k2394, hM.k2395, hM.k2396, hM.k2397, hM.k2398, hM.k2399, hM.k2400, hM.k2401, hM.k2402, hM.k2403, hM.k2404, hM.k2405, hM.k2406, hM.k2407, hM.k2408, hM.k2409, hM.k2410, hM.k2411, hM.k2412, hM.k2413, hM.k2414, hM.k2415, hM.k2416, hM.k2417, hM.k2418, hM.k2419, hM.k2420, hM.k2421, hM.k2422, hM.k2423, hM.l2391, hM.l2392, hM.l2393, hM.l2394, hM.l2395, hM.l2396, hM.l2397, hM.l2398, hM.l2399, hM.l2400, hM.l2401, hM.l2402, hM.l2403, hM.l2404, hM.l2405, hM.l2406, hM.l2407, hM.l2408, hM.l2409, hM.l2410, hM.l2411, hM.l2412, hM.l2413, hM.l2414, hM.l2415, hM.l2416, hM.l2417, hM.l2418, hM.l2419, hM.l2420, hM.l2421, hM.l2422, hM.l2423, ↓hM.g1, ↓hM.g5, ↓hM.g6, ↓hM.g7, ↓hM.g8, ↓hM.g9, ↓hM.g10, ↓hM.g11, ↓hM.g12, ↓hM.g13, ↓hM.g14, ↓hM.g16, ↓hM.g17, ↓hM.g18, ↓hM.g19, ↓hM.g21, ↓hM.g22, ↓hM.g23, ↓hM.g24, ↓hM.g25, ↓hM.g27, ↓hM.g28, ↓hM.g30, ↓hM.g31, ↓hM.g32, ↓hM.g36, ↓hM.g37, ↓hM.g39, ↓hM.g40, ↓hM.g41, ↓hM.g43, ↓hM.g45, ↓hM.g46, c26', e2, hls, hm2, u26, hh, q12, ↓zB_c e3, zB_c e3, q06, ↓zB_c e, zB_c e]
    · rw [if_neg (fun q => gv q.2)]
      obtain ⟨m', e, x1, r1⟩ := f243_r (out := out) hM hP2 (by show s.length + 1 ≤ 500; omega) hn.1 (y_pt P h a 1)
      refine ⟨m', ?_, x1, hR2.trans r1⟩
      rw [head (fun q => k5 q.1), p3', k10]
      have e3 : f223 2390 (nI (y_qm h a.1)) (nI a.2.1) 1 (z_hp S m2) = some (nI (y_pt P h a 1), z_hp S m2) := e223 1 (by decide)
      unfold f247_121 f247_173 f247_347
      simp (disch := ((try simp only [true_or, or_true, hM.k, hM.k2391, hM.k2392, hM.k2393, hM.k2394, hM.k2395, hM.k2396, hM.k2397, hM.k2398, hM.k2399, hM.k2400, hM.k2401, hM.k2402, hM.k2403, hM.k2404, hM.k2405, hM.k2406, hM.k2407, hM.k2408, hM.k2409, hM.k2410, hM.k2411, hM.k2412, hM.k2413, hM.k2414, hM.k2415, hM.k2416, hM.k2417, hM.k2418, hM.k2419, hM.k2420, hM.k2421, hM.k2422, hM.k2423, hM.l2391, hM.l2392, hM.l2393, hM.l2394, hM.l2395, hM.l2396, hM.l2397, hM.l2398, hM.l2399, hM.l2400, hM.l2401, hM.l2402, hM.l2403, hM.l2404, hM.l2405, hM.l2406, hM.l2407, hM.l2408, hM.l2409, hM.l2410, hM.l2411, hM.l2412, hM.l2413, hM.l2414, hM.l2415, hM.l2416, hM.l2417, hM.l2418, hM.l2419, hM.l2420, hM.l2421, hM.l2422, hM.l2423]) <;> (try omega))) only [↓reduceIte, ↓z_ite, ↓zR, ↓zB_R, ↓zB_B, ↓zB_ite, ↓zB_gI, ↓zB_pI, ↓zB_pZ, ↓zB_aK, ↓zB_G, ↓zB_lI, ↓zB_lZ, ↓zB_wI, ↓zB_wZ, ↓zB_lIl, ↓zB_wIl, zB_pI, zB_pZ, zB_lI, zB_lZ, zB_wI, zB_wZ, z_addl, z_ladd, z_mull, z_lmul, nI_add, z_subl, Nat.not_lt_zero, z_10, z_01, z_bitc, z_b0, z_b1, ↓zB_Gb, ↓zB_G0, ↓zB_G1, z_eql, z_leq, z_ltl, z_llt, z_eq, z_lt, z_m1lt, hM.k, hM.k2391, hM.k2392, hM.k2393, hM.k2394, hM.k2395, hM.k2396, hM.k2397, hM.k2398, hM.k2399, hM.k2400, hM.k2401, hM.k2402, hM.k2403, hM.k2404, hM.k2405, hM.k2406, hM.k2407, hM.k2408, hM.k2409, hM.k2410, hM.k2411, hM.k2412, hM.k2413, hM.k2414, hM.k2415, hM.k2416, hM.k2417, hM.k2418, hM.k2419, hM.k2420, hM.k2421, hM.k2422, hM.k2423, hM.l2391, hM.l2392, hM.l2393, hM.l2394, hM.l2395, hM.l2396, hM.l2397, hM.l2398, hM.l2399, hM.l2400, hM.l2401, hM.l2402, hM.l2403, hM.l2404, hM.l2405, hM.l2406, hM.l2407, hM.l2408, hM.l2409, hM.l2410, hM.l2411, hM.l2412, hM.l2413, hM.l2414, hM.l2415, hM.l2416, hM.l2417, hM.l2418, hM.l2419, hM.l2420, hM.l2421, hM.l2422, hM.l2423, ↓hM.g1, ↓hM.g5, ↓hM.g6, ↓hM.g7, ↓hM.g8, ↓hM.g9, ↓hM.g10, ↓hM.g11, ↓hM.g12, ↓hM.g13, ↓hM.g14, ↓hM.g16, ↓hM.g17, ↓hM.g18, ↓hM.g19, ↓hM.g21, ↓hM.g22, ↓hM.g23, ↓hM.g24, ↓hM.g25, ↓hM.g27, ↓hM.g28, ↓hM.g30, ↓hM.g31, ↓hM.g32, ↓hM.g36, ↓hM.g37, ↓hM.g39, ↓hM.g40, ↓hM.g41, ↓hM.g43, ↓hM.g45, ↓hM.g46, c26', e2, hls, hm2, u26, hh, q12, gv, ↓zB_c e3, zB_c e3, q06, ↓zB_c e, zB_c e]
  by_cases k13 : y_k P h a = 13
  · unfold y_go
    have pp : y_p P h a = 2 := z_p_13 (z_k k13)
    have n7 : ¬ (y_k P h a = 7 ∧ a.2.2.1 = y_p P h a + 1) := fun q => by rw [k13] at q; exact absurd q.1 (by decide)
    rw [if_neg (by rw [k13]; decide), if_neg (by rw [k13]; decide), if_neg (by rw [k13]; decide), if_neg (by rw [k13]; decide), if_pos (Or.inr (Or.inr (Or.inr k13)))]
    by_cases s0 : a.2.2.1 = 0
    · rw [if_pos s0]
      obtain ⟨m', e, x1, r1⟩ := nx (Or.inr s0) (by omega) (fun q => k5 q.1) (rf1 n7)
      rw [s0] at x1
      refine ⟨m', ?_, x1, r1⟩
      rw [ch (fun q => k5 q.1) (fun q => k10 q.1) (fun q => q.2 s0) (by rw [k13]; decide)]
      exact go245 (by omega) m' e
    rw [if_neg s0, if_pos (Or.inr k13)]
    have sb2 : y_sb (y_k P h a) (y_p P h a) = 2 := by rw [k13, pp]; rfl
    rw [sb2] at hsb
    have hl1 : a.2.2.2.length = 0 + 1 := by
      rw [hx, k13]
      have : a.2.2.1 = 1 ∨ a.2.2.1 = 2 := by omega
      rcases this with g | g <;> rw [g] <;> rfl
    have erv : y_rv P h a = [y_lv a.2.2.2] := by
      unfold y_rv y_dr
      rw [if_neg (fun q => by rcases q.1 with g | g; exact k5 g; exact k10 g), if_neg n7]
      exact y_lv_drop hl1
    obtain ⟨m', e, x1, r1⟩ := fin25 erv (rf1 n7)
    refine ⟨m', ?_, x1, r1⟩
    rw [head (fun q => k5 q.1), f247_c1 (fun q => k10 q.1), f247_c2 (fun q => k10 q.1), rst (fun q => k10 q.1)]
    have g0 : (0 : Int32) < nI a.2.2.1 := (nI_ltI (a := 0) (by decide) (by omega)).mpr (by omega)
    unfold f247_201
    rw [if_pos k13, if_pos g0]
    exact e
  have hx : a.2.2.2.length = a.2.2.1 := by rw [hx]; unfold y_xc; rw [if_neg (fun y => k13 y.1)]
  by_cases k7 : y_k P h a = 7
  · have k9 : ¬ (y_k P h a = 5 ∨ y_k P h a = 9 ∨ y_k P h a = 10 ∨ y_k P h a = 13) := by rw [k7]; decide
    have sb7 : y_sb (y_k P h a) (y_p P h a) = y_p P h a + 1 := by unfold y_sb; rw [if_pos k7]
    rw [sb7] at hsb
    have hd7 : f247 2390 B (z_hp S m) = f247_238 2390 B (nI s.length) (nI (y_qm h a.1)) (nI a.2.1) (y_k P h a) (nI a.2.2.1) (z_hp S m) := by
      rw [head (fun q => k5 q.1), f247_c1 (fun q => k10 q.1), f247_c2 (fun q => k10 q.1), f247_c3 (fun q => k13 q.1), f247_c4 (fun q => k5 q.1), rst (fun q => k10 q.1)]
    unfold y_go
    rw [if_neg (by rw [k7]; decide), if_neg (by rw [k7]; decide), if_neg (by rw [k7]; decide), if_neg (by rw [k7]; decide), if_neg k9]
    have pn1 : nI (y_p P h a) + 1 = nI (y_p P h a + 1) := z_addl _ 1
    by_cases sp : a.2.2.1 < y_p P h a
    · rw [if_pos sp]
      obtain ⟨m', e, x1, r1⟩ := nx (Or.inl k10) sp (fun q => k5 q.1) (rf1 (fun q => by omega))
      refine ⟨m', ?_, x1, r1⟩
      rw [hd7]
      unfold f247_238 f247_283
      rw [if_pos k7, if_pos k7]
      have g1 : ¬ a.2.2.1 = y_p P h a + 1 := by omega
      have g2 : ¬ a.2.2.1 = y_p P h a := by omega
      have e315 := go245 sp m' e
      simp (disch := ((try simp only [true_or, or_true, hM.k, hM.k2391, hM.k2392, hM.k2393, hM.k2394, hM.k2395, hM.k2396, hM.k2397, hM.k2398, hM.k2399, hM.k2400, hM.k2401, hM.k2402, hM.k2403, hM.k2404, hM.k2405, hM.k2406, hM.k2407, hM.k2408, hM.k2409, hM.k2410, hM.k2411, hM.k2412, hM.k2413, hM.k2414, hM.k2415, hM.k2416, hM.k2417, hM.k2418, hM.k2419, hM.k2420, hM.k2421, hM.k2422, hM.k2423, hM.l2391, hM.l2392, hM.l2393, hM.l2394, hM.l2395, hM.l2396, hM.l2397, hM.l2398, hM.l2399, hM.l2400, hM.l2401, hM.l2402, hM.l2403, hM.l2404, hM.l2405, hM.l2406, hM.l2407, hM.l2408, hM.l2409, hM.l2410, hM.l2411, hM.l2412, hM.l2413, hM.l2414, hM.l2415, hM.l2416, hM.l2417, hM.l2418, hM.l2419, hM.l2420, hM.l2421, hM.l2422, hM.l2423]) <;> (try omega))) only [↓reduceIte, ↓z_ite, ↓zR, ↓zB_R, ↓zB_B, ↓zB_ite, ↓zB_gI, ↓zB_pI, ↓zB_pZ, ↓zB_aK, ↓zB_G, ↓zB_lI, ↓zB_lZ, ↓zB_wI, ↓zB_wZ, ↓zB_lIl, ↓zB_wIl, zB_pI, zB_pZ, zB_lI, zB_lZ, zB_wI, zB_wZ, z_addl, z_ladd, z_mull, z_lmul, nI_add, z_subl, Nat.not_lt_zero, z_10, z_01, z_bitc, z_b0, z_b1, ↓zB_Gb, ↓zB_G0, ↓zB_G1, z_eql, z_leq, z_ltl, z_llt, z_eq, z_lt, z_m1lt, hM.k, hM.k2391, hM.k2392, hM.k2393, hM.k2394, hM.k2395, hM.k2396, hM.k2397, hM.k2398, hM.k2399, hM.k2400, hM.k2401, hM.k2402, hM.k2403, hM.k2404, hM.k2405, hM.k2406, hM.k2407, hM.k2408, hM.k2409, hM.k2410, hM.k2411, hM.k2412, hM.k2413, hM.k2414, hM.k2415, hM.k2416, hM.k2417, hM.k2418, hM.k2419, hM.k2420, hM.k2421, hM.k2422, hM.k2423, hM.l2391, hM.l2392, hM.l2393, hM.l2394, hM.l2395, hM.l2396, hM.l2397, hM.l2398, hM.l2399, hM.l2400, hM.l2401, hM.l2402, hM.l2403, hM.l2404, hM.l2405, hM.l2406, hM.l2407, hM.l2408, hM.l2409, hM.l2410, hM.l2411, hM.l2412, hM.l2413, hM.l2414, hM.l2415, hM.l2416, hM.l2417, hM.l2418, hM.l2419, hM.l2420, hM.l2421, hM.l2422, hM.l2423, ↓hM.g1, ↓hM.g5, ↓hM.g6, ↓hM.g7, ↓hM.g8, ↓hM.g9, ↓hM.g10, ↓hM.g11, ↓hM.g12, ↓hM.g13, ↓hM.g14, ↓hM.g16, ↓hM.g17, ↓hM.g18, ↓hM.g19, ↓hM.g21, ↓hM.g22, ↓hM.g23, ↓hM.g24, ↓hM.g25, ↓hM.g27, ↓hM.g28, ↓hM.g30, ↓hM.g31, ↓hM.g32, ↓hM.g36, ↓hM.g37, ↓hM.g39, ↓hM.g40, ↓hM.g41, ↓hM.g43, ↓hM.g45, ↓hM.g46, ↓zB_c ep, zB_c ep, pn1, g1, g2, e315]
    rw [if_neg sp]
    unfold y_ap
    rw [if_neg (by rw [k7]; decide), if_neg (by rw [k7]; decide), if_neg (by rw [k7]; decide), if_pos k7]
    by_cases s7 : y_p P h a < a.2.2.1
    · rw [if_pos s7]
      have es : a.2.2.1 = y_p P h a + 1 := by omega
      have erv : y_rv P h a = [y_lv a.2.2.2] := by
        unfold y_rv
        have : y_dr (y_k P h a) (y_p P h a) a.2.2.1 = y_p P h a := by
          unfold y_dr; rw [if_neg (fun q => by rcases q.1 with g | g; exact k5 g; exact k10 g), if_pos ⟨k7, es⟩]
        rw [this]
        exact y_lv_drop (by omega)
      have c15' : m 2390 15 = nI (a.1 + 2) := by rw [c15]; unfold y_rf; rw [if_pos ⟨k7, es⟩]
      have e15 : nI (a.1 + 2) - 1 = nI (a.1 + 1) := z_subl (k := 1) (by omega)
      refine ⟨z_up (z_up m 2390 15 (nI (a.1 + 1))) 2390 20 (nI s.length), ?_, fin erv (z_up_s _ _ _ _) (by rw [z_up_b (by decide), z_up_s]) (fun j x y => by rw [z_up_b y, z_up_b x]) (fun c x => by rw [z_up_row x, z_up_row x]), ⟨fun c _ y => by rw [z_up_row y, z_up_row y], fun j x y _ _ _ _ _ => by rw [z_up_b y, z_up_b x]⟩⟩
      rw [hd7]
      unfold f247_238 f247_347
      rw [if_pos k7]
      have q20 : z_up m 2390 15 (nI (a.1 + 1)) 2390 20 = nI (s.length + 1) := by rw [z_up_b (by decide)]; exact c20'
      simp (disch := ((try simp only [true_or, or_true, hM.k, hM.k2391, hM.k2392, hM.k2393, hM.k2394, hM.k2395, hM.k2396, hM.k2397, hM.k2398, hM.k2399, hM.k2400, hM.k2401, hM.k2402, hM.k2403, hM.k2404, hM.k2405, hM.k2406, hM.k2407, hM.k2408, hM.k2409, hM.k2410, hM.k2411, hM.k2412, hM.k2413, hM.k2414, hM.k2415, hM.k2416, hM.k2417, hM.k2418, hM.k2419, hM.k2420, hM.k2421, hM.k2422, hM.k2423, hM.l2391, hM.l2392, hM.l2393, hM.l2394, hM.l2395, hM.l2396, hM.l2397, hM.l2398, hM.l2399, hM.l2400, hM.l2401, hM.l2402, hM.l2403, hM.l2404, hM.l2405, hM.l2406, hM.l2407, hM.l2408, hM.l2409, hM.l2410, hM.l2411, hM.l2412, hM.l2413, hM.l2414, hM.l2415, hM.l2416, hM.l2417, hM.l2418, hM.l2419, hM.l2420, hM.l2421, hM.l2422, hM.l2423]) <;> (try omega))) only [↓reduceIte, ↓z_ite, ↓zR, ↓zB_R, ↓zB_B, ↓zB_ite, ↓zB_gI, ↓zB_pI, ↓zB_pZ, ↓zB_aK, ↓zB_G, ↓zB_lI, ↓zB_lZ, ↓zB_wI, ↓zB_wZ, ↓zB_lIl, ↓zB_wIl, zB_pI, zB_pZ, zB_lI, zB_lZ, zB_wI, zB_wZ, z_addl, z_ladd, z_mull, z_lmul, nI_add, z_subl, Nat.not_lt_zero, z_10, z_01, z_bitc, z_b0, z_b1, ↓zB_Gb, ↓zB_G0, ↓zB_G1, z_eql, z_leq, z_ltl, z_llt, z_eq, z_lt, z_m1lt, hM.k, hM.k2391, hM.k2392, hM.k2393, hM.k2394, hM.k2395, hM.k2396, hM.k2397, hM.k2398, hM.k2399, hM.k2400, hM.k2401, hM.k2402, hM.k2403, hM.k2404, hM.k2405, hM.k2406, hM.k2407, hM.k2408, hM.k2409, hM.k2410, hM.k2411, hM.k2412, hM.k2413, hM.k2414, hM.k2415, hM.k2416, hM.k2417, hM.k2418, hM.k2419, hM.k2420, hM.k2421, hM.k2422, hM.k2423, hM.l2391, hM.l2392, hM.l2393, hM.l2394, hM.l2395, hM.l2396, hM.l2397, hM.l2398, hM.l2399, hM.l2400, hM.l2401, hM.l2402, hM.l2403, hM.l2404, hM.l2405, hM.l2406, hM.l2407, hM.l2408, hM.l2409, hM.l2410, hM.l2411, hM.l2412, hM.l2413, hM.l2414, hM.l2415, hM.l2416, hM.l2417, hM.l2418, hM.l2419, hM.l2420, hM.l2421, hM.l2422, hM.l2423, ↓hM.g1, ↓hM.g5, ↓hM.g6, ↓hM.g7, ↓hM.g8, ↓hM.g9, ↓hM.g10, ↓hM.g11, ↓hM.g12, ↓hM.g13, ↓hM.g14, ↓hM.g16, ↓hM.g17, ↓hM.g18, ↓hM.g19, ↓hM.g21, ↓hM.g22, ↓hM.g23, ↓hM.g24, ↓hM.g25, ↓hM.g27, ↓hM.g28, ↓hM.g30, ↓hM.g31, ↓hM.g32, ↓hM.g36, ↓hM.g37, ↓hM.g39, ↓hM.g40, ↓hM.g41, ↓hM.g43, ↓hM.g45, ↓hM.g46, ↓zB_c ep, zB_c ep, pn1, es, c15', e15, q20, e1]
    · rw [if_neg s7]
      have es : a.2.2.1 = y_p P h a := by omega
      obtain ⟨m', e, x1, r1⟩ := f248_r (S := S) hP hM hB hQ0 hG hC0 k7 es
      refine ⟨m', ?_, x1, r1⟩
      rw [hd7]
      unfold f247_238 f247_283 f247_347
      rw [if_pos k7, if_pos k7]
      have g1 : ¬ y_p P h a = y_p P h a + 1 := by omega
      simp (disch := ((try simp only [true_or, or_true, hM.k, hM.k2391, hM.k2392, hM.k2393, hM.k2394, hM.k2395, hM.k2396, hM.k2397, hM.k2398, hM.k2399, hM.k2400, hM.k2401, hM.k2402, hM.k2403, hM.k2404, hM.k2405, hM.k2406, hM.k2407, hM.k2408, hM.k2409, hM.k2410, hM.k2411, hM.k2412, hM.k2413, hM.k2414, hM.k2415, hM.k2416, hM.k2417, hM.k2418, hM.k2419, hM.k2420, hM.k2421, hM.k2422, hM.k2423, hM.l2391, hM.l2392, hM.l2393, hM.l2394, hM.l2395, hM.l2396, hM.l2397, hM.l2398, hM.l2399, hM.l2400, hM.l2401, hM.l2402, hM.l2403, hM.l2404, hM.l2405, hM.l2406, hM.l2407, hM.l2408, hM.l2409, hM.l2410, hM.l2411, hM.l2412, hM.l2413, hM.l2414, hM.l2415, hM.l2416, hM.l2417, hM.l2418, hM.l2419, hM.l2420, hM.l2421, hM.l2422, hM.l2423]) <;> (try omega))) only [↓reduceIte, ↓z_ite, ↓zR, ↓zB_R, ↓zB_B, ↓zB_ite, ↓zB_gI, ↓zB_pI, ↓zB_pZ, ↓zB_aK, ↓zB_G, ↓zB_lI, ↓zB_lZ, ↓zB_wI, ↓zB_wZ, ↓zB_lIl, ↓zB_wIl, zB_pI, zB_pZ, zB_lI, zB_lZ, zB_wI, zB_wZ, z_addl, z_ladd, z_mull, z_lmul, nI_add, z_subl, Nat.not_lt_zero, z_10, z_01, z_bitc, z_b0, z_b1, ↓zB_Gb, ↓zB_G0, ↓zB_G1, z_eql, z_leq, z_ltl, z_llt, z_eq, z_lt, z_m1lt, hM.k, hM.k2391, hM.k2392, hM.k2393, hM.k2394, hM.k2395, hM.k2396, hM.k2397, hM.k2398, hM.k2399, hM.k2400, hM.k2401, hM.k2402, hM.k2403, hM.k2404, hM.k2405, hM.k2406, hM.k2407, hM.k2408, hM.k2409, hM.k2410, hM.k2411, hM.k2412, hM.k2413, hM.k2414, hM.k2415, hM.k2416, hM.k2417, hM.k2418, hM.k2419, hM.k2420, hM.k2421, hM.k2422, hM.k2423, hM.l2391, hM.l2392, hM.l2393, hM.l2394, hM.l2395, hM.l2396, hM.l2397, hM.l2398, hM.l2399, hM.l2400, hM.l2401, hM.l2402, hM.l2403, hM.l2404, hM.l2405, hM.l2406, hM.l2407, hM.l2408, hM.l2409, hM.l2410, hM.l2411, hM.l2412, hM.l2413, hM.l2414, hM.l2415, hM.l2416, hM.l2417, hM.l2418, hM.l2419, hM.l2420, hM.l2421, hM.l2422, hM.l2423, ↓hM.g1, ↓hM.g5, ↓hM.g6, ↓hM.g7, ↓hM.g8, ↓hM.g9, ↓hM.g10, ↓hM.g11, ↓hM.g12, ↓hM.g13, ↓hM.g14, ↓hM.g16, ↓hM.g17, ↓hM.g18, ↓hM.g19, ↓hM.g21, ↓hM.g22, ↓hM.g23, ↓hM.g24, ↓hM.g25, ↓hM.g27, ↓hM.g28, ↓hM.g30, ↓hM.g31, ↓hM.g32, ↓hM.g36, ↓hM.g37, ↓hM.g39, ↓hM.g40, ↓hM.g41, ↓hM.g43, ↓hM.g45, ↓hM.g46, ↓zB_c ep, zB_c ep, pn1, g1, es, ↓zB_c e, zB_c e]
  have n7 : ¬ (y_k P h a = 7 ∧ a.2.2.1 = y_p P h a + 1) := fun q => k7 q.1
  have sbp : a.2.2.1 ≤ y_p P h a := by
    unfold y_sb at hsb
    rw [if_neg k7, if_neg k10] at hsb
    exact hsb
  have chh := ch (fun q => k5 q.1) (fun q => k10 q.1) (fun q => k13 q.1) k7
  by_cases sp : a.2.2.1 < y_p P h a
  · obtain ⟨m', e, x1, r1⟩ := nx (Or.inl k10) sp (fun q => k5 q.1) (rf1 n7)
    refine ⟨m', by rw [chh]; exact go245 sp m' e, ?_, r1⟩
    have hp0 : 0 < y_p P h a := by omega
    unfold y_go
    rw [if_neg (fun q => by rw [show y_p P h a = 0 from z_p_0 (z_k q)] at hp0; omega), if_neg (fun q => by rw [show y_p P h a = 0 from z_p_1 (z_k q)] at hp0; omega), if_neg (fun q => by rw [show y_p P h a = 0 from z_p_2 (z_k q)] at hp0; omega), if_neg (fun q => by rw [show y_p P h a = 0 from z_p_8 (z_k q)] at hp0; omega)]
    by_cases k9 : y_k P h a = 9
    · rw [if_pos (Or.inr (Or.inl k9))]
      have pp : y_p P h a = 2 := z_p_9 (z_k k9)
      by_cases s0 : a.2.2.1 = 0
      · rw [if_pos s0]
        rw [s0] at x1; exact x1
      · rw [if_neg s0, if_neg (fun q => by rcases q with q | q; omega; exact k13 q), if_neg k5, if_neg (fun q => k10 q.1)]
        have s1 : a.2.2.1 = 1 := by omega
        rw [s1] at x1; exact x1
    · rw [if_neg (fun q => by rcases q with q | q | q | q; exact k5 q; exact k9 q; exact k10 q; exact k13 q), if_pos sp]
      exact x1
  · have kk : y_k P h a = 0 ∨ y_k P h a = 1 ∨ y_k P h a = 2 ∨ y_k P h a = 3 ∨ y_k P h a = 4 ∨ y_k P h a = 6 ∨ y_k P h a = 8 ∨ y_k P h a = 9 ∨ y_k P h a = 11 ∨ y_k P h a = 12 := by
      obtain ⟨⟨kn, hk, ekn⟩, _⟩ := z_wN_at hBB hi
      have ekn : y_k P h a = nI kn := ekn
      have : kn = 0 ∨ kn = 1 ∨ kn = 2 ∨ kn = 3 ∨ kn = 4 ∨ kn = 5 ∨ kn = 6 ∨ kn = 7 ∨ kn = 8 ∨ kn = 9 ∨ kn = 10 ∨ kn = 11 ∨ kn = 12 ∨ kn = 13 := by omega
      rw [ekn] at k5 k7 k10 k13 ⊢
      rcases this with g | g | g | g | g | g | g | g | g | g | g | g | g | g <;> subst g <;> first | exact absurd rfl k5 | exact absurd rfl k7 | exact absurd rfl k10 | exact absurd rfl k13 | decide
    obtain ⟨m', e, x1, r1⟩ := f249_r (S := S) hP hM hB hQ0 hG hC0 kk (by omega)
    exact ⟨m', by rw [chh]; exact go249 sp m' e, x1, r1⟩
end
