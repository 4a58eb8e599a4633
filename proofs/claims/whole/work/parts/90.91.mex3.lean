-- deps: 90.81.lc2 90.82.ex0 90.83.ex1 90.84.ex2 90.85.ex3 90.86.ex4 90.87.ex5 90.88.ex6 90.89.mex 90.90.mex2
/-! nodes taken out: the reference writes a body -/
section
variable {S : z_S} {m : z_m} {P : z_Pg} {A : z_A}
theorem z_exH.H {k i q r : Nat} {c : z_Lc} (h : z_exH P k i c) (hq : q < z_nm P) (hlq : z_liv P q = true) (ho : z_own P k = z_own P q) (hr : r < (z_bd P q).length) (gs : z_sz (z_bd P q) r = z_sz (z_bd P k) i) : z_lkH P k i q r (z_sz (z_bd P k) i) c := ⟨h.1, ⟨h.2.1.1, h.2.1.2, hq, hlq⟩, ⟨h.2.2.1, hr⟩, ⟨rfl, by unfold z_en; rw [gs]⟩, ho, h.2.2.2.1, fun t ht hot g6 => by
  have := z_any_f.mp h.2.2.2.2 t ht
  rw [hot, g6] at this; cases this⟩
theorem z_lk_r {k i q r : Nat} {c : z_Lc} (h : z_lkH P k i q r (z_sz (z_bd P k) i) c) (gs : z_sz (z_bd P q) r = z_sz (z_bd P k) i) : z_lk P k i c q r = z_rks P k i c q r (z_sz (z_bd P k) i) := by
  rw [z_lk_eq h]; unfold z_lk; rw [if_pos gs]
  all_goals (cases z_lks P k i c q r (z_sz (z_bd P k) i) <;> rfl)
theorem z_rks_none {k i q r : Nat} {c : z_Lc} {t : Nat} (h : z_rks P k i c q r t = none) : ∀ n, z_rks P k i c q r (t + n) = none
  | 0 => h
  | n + 1 => by
    show (match z_rks P k i c q r (t + n) with | none => none | some d => _) = none
    rw [z_rks_none h n]
/-- isLike -/
theorem f289_sp (hM : z_MS S) (h : z_mb m 0 P) (hT : z_mLT m P) {k i q r : Nat} {c : z_Lc} (hH : z_exH P k i c) (hq : q < z_nm P) (hlq : z_liv P q = true) (ho : z_own P k = z_own P q) (hr : r < (z_bd P q).length) (c1 : z_rL m 42 2421 c) : ∃ m', f289 2390 (nI k) (nI i) (nI q) (nI r) (z_hp S m) = some (z_b (z_lk P k i c q r).isSome, z_hp S m') ∧ (∀ d, z_lk P k i c q r = some d → z_rL m' 44 2422 d) ∧ z_x4 m m' := by
  have hw := hH.1.1
  have h60 := hH.1.2.1
  have hR := hH.1.2.2
  have hk := hH.2.1.1
  have hlk := hH.2.1.2
  have hi := hH.2.2.1
  have h24 := hw.2.2.1
  have hl1 := h60 k hk
  have hl2 := h60 q hq
  have hB := hw.2.2.2.2.1 k hk
  have hB2 := hw.2.2.2.2.1 q hq
  have hle1 : i + z_sz (z_bd P k) i ≤ (z_bd P k).length := z_en_le hB.1 hi
  have hle2 : r + z_sz (z_bd P q) r ≤ (z_bd P q).length := z_en_le hB2.1 hr
  have s1 := f269_sp (S := S) hM (hT k hk hlk) (by omega) (by omega) hi
  have s2 := f269_sp (S := S) hM (hT q hq hlq) (by omega) (by omega) hr
  by_cases gs : z_sz (z_bd P q) r = z_sz (z_bd P k) i
  · have hL := hH.H hq hlq ho hr gs
    have hc2 := hH.2.2.2.1.2
    rw [z_lk_r hL gs]
    have key := z_loopI (f := fun s => f289_29b (s.1) (s.2.1) (s.2.2.1) (s.2.2.2.1) (s.2.2.2.2.1) (s.2.2.2.2.2.1) (s.2.2.2.2.2.2)) (S := S) (fun N st m' => ∃ t, N = z_sz (z_bd P k) i - t ∧ t ≤ z_sz (z_bd P k) i ∧ st = (2390, nI k, nI i, nI q, nI r, z_b (z_rks P k i c q r t).isSome, nI t) ∧ (∀ d, z_rks P k i c q r t = some d → z_rL m' 44 2422 d) ∧ z_x4 m m') (fun v m' => v = z_b (z_rks P k i c q r (z_sz (z_bd P k) i)).isSome ∧ (∀ d, z_rks P k i c q r (z_sz (z_bd P k) i) = some d → z_rL m' 44 2422 d) ∧ z_x4 m m') ?_ 1000000 (z_sz (z_bd P k) i) (2390, nI k, nI i, nI q, nI r, 1, 0) (z_up m 2390 44 0) ⟨0, rfl, Nat.zero_le _, rfl, (fun d hd => by
      obtain rfl : [] = d := Option.some.inj hd
      exact ⟨z_up_s _ _ _ _, fun j hj => absurd hj (Nat.not_lt_zero _)⟩), ⟨fun a x y => z_up_row x, fun j x => z_up_b x⟩⟩ (by omega)
    · obtain ⟨v, m', e, rfl, g1, g2⟩ := key
      refine ⟨m', ?_, g1, g2⟩
      unfold f289
      have e3 : f289_29 2390 (nI k) (nI i) (nI q) (nI r) 1 0 (z_hp S (z_up m 2390 44 0)) = some (_, z_hp S m') := e
      simp (disch := ((try simp only [true_or, or_true, hM.k, hM.k2391, hM.k2392, hM.k2393, hM.k2394, hM.k2395, hM.k2396, hM.k2397, hM.k2398, hM.k2399, hM.k2400, hM.k2401, hM.k2402, hM.k2403, hM.k2404, hM.k2405, hM.k2406, hM.k2407, hM.k2408, hM.k2409, hM.k2410, hM.k2411, hM.k2412, hM.k2413, hM.k2414, hM.k2415, hM.k2416, hM.k2417, hM.k2418, hM.k2419, hM.k2420, hM.k2421, hM.k2422, hM.k2423, hM.l2391, hM.l2392, hM.l2393, hM.l2394, hM.l2395, hM.l2396, hM.l2397, hM.l2398, hM.l2399, hM.l2400, hM.l2401, hM.l2402, hM.l2403, hM.l2404, hM.l2405, hM.l2406, hM.l2407, hM.l2408, hM.l2409, hM.l2410, hM.l2411, hM.l2412, hM.l2413, hM.l2414, hM.l2415, hM.l2416, hM.l2417, hM.l2418, hM.l2419, hM.l2420, hM.l2421, hM.l2422, hM.l2423]) <;> (try omega))) only [↓reduceIte, ↓z_ite, ↓zR, ↓zB_R, ↓zB_B, ↓zB_ite, ↓zB_gI, ↓zB_pI, ↓zB_pZ, ↓zB_aK, ↓zB_G, ↓zB_lI, ↓zB_lZ, ↓zB_wI, ↓zB_wZ, ↓zB_lIl, ↓zB_wIl, zB_pI, zB_pZ, zB_lI, zB_lZ, zB_wI, zB_wZ, z_addl, z_ladd, z_mull, z_lmul, nI_add, z_subl, Nat.not_lt_zero, z_10, z_01, z_bitc, z_b0, z_b1, ↓zB_Gb, ↓zB_G0, ↓zB_G1, z_eql, z_leq, z_ltl, z_llt, z_eq, z_lt, z_m1lt, hM.k, hM.k2391, hM.k2392, hM.k2393, hM.k2394, hM.k2395, hM.k2396, hM.k2397, hM.k2398, hM.k2399, hM.k2400, hM.k2401, hM.k2402, hM.k2403, hM.k2404, hM.k2405, hM.k2406, hM.k2407, hM.k2408, hM.k2409, hM.k2410, hM.k2411, hM.k2412, hM.k2413, hM.k2414, hM.k2415, hM.k2416, hM.k2417, hM.k2418, hM.k2419, hM.k2420, hM.k2421, hM.k2422, hM.k2423, hM.l2391, hM.l2392, hM.l2393, hM.l2394, hM.l2395, hM.l2396, hM.l2397, hM.l2398, hM.l2399, hM.l2400, hM.l2401, hM.l2402, hM.l2403, hM.l2404, hM.l2405, hM.l2406, hM.l2407, hM.l2408, hM.l2409, hM.l2410, hM.l2411, hM.l2412, hM.l2413, hM.l2414, hM.l2415, hM.l2416, hM.l2417, hM.l2418, hM.l2419, hM.l2420, hM.l2421, hM.l2422, hM.l2423, ↓hM.g1, ↓hM.g5, ↓hM.g6, ↓hM.g7, ↓hM.g8, ↓hM.g9, ↓hM.g10, ↓hM.g11, ↓hM.g12, ↓hM.g13, ↓hM.g14, ↓hM.g16, ↓hM.g17, ↓hM.g18, ↓hM.g19, ↓hM.g21, ↓hM.g22, ↓hM.g23, ↓hM.g24, ↓hM.g25, ↓hM.g27, ↓hM.g28, ↓hM.g30, ↓hM.g31, ↓hM.g32, ↓hM.g36, ↓hM.g37, ↓hM.g39, ↓hM.g40, ↓hM.g41, ↓hM.g43, ↓hM.g45, ↓hM.g46, ↓zB_c s1, zB_c s1, ↓zB_c s2, zB_c s2, gs, e3]
    · rintro N st m1 ⟨t, rfl, htl, rfl, g1, g2⟩
      have h1 := g2.xF.mb h
      have hT1 := g2.xF.LT hT
      have c2 := g2.rL c1
      have s1 := f269_sp (S := S) hM (hT1 k hk hlk) (by omega) (by omega) hi
      dsimp only
      rcases Nat.eq_or_lt_of_le htl with ht2 | ht2
      · refine Or.inr ⟨_, m1, ?_, rfl, by rw [ht2] at g1; exact g1, g2⟩
        unfold f289_29b f289_71
        rw [ht2]
        simp (disch := ((try simp only [true_or, or_true, hM.k, hM.k2391, hM.k2392, hM.k2393, hM.k2394, hM.k2395, hM.k2396, hM.k2397, hM.k2398, hM.k2399, hM.k2400, hM.k2401, hM.k2402, hM.k2403, hM.k2404, hM.k2405, hM.k2406, hM.k2407, hM.k2408, hM.k2409, hM.k2410, hM.k2411, hM.k2412, hM.k2413, hM.k2414, hM.k2415, hM.k2416, hM.k2417, hM.k2418, hM.k2419, hM.k2420, hM.k2421, hM.k2422, hM.k2423, hM.l2391, hM.l2392, hM.l2393, hM.l2394, hM.l2395, hM.l2396, hM.l2397, hM.l2398, hM.l2399, hM.l2400, hM.l2401, hM.l2402, hM.l2403, hM.l2404, hM.l2405, hM.l2406, hM.l2407, hM.l2408, hM.l2409, hM.l2410, hM.l2411, hM.l2412, hM.l2413, hM.l2414, hM.l2415, hM.l2416, hM.l2417, hM.l2418, hM.l2419, hM.l2420, hM.l2421, hM.l2422, hM.l2423]) <;> (try omega))) only [↓reduceIte, ↓z_ite, ↓zR, ↓zB_R, ↓zB_B, ↓zB_ite, ↓zB_gI, ↓zB_pI, ↓zB_pZ, ↓zB_aK, ↓zB_G, ↓zB_lI, ↓zB_lZ, ↓zB_wI, ↓zB_wZ, ↓zB_lIl, ↓zB_wIl, zB_pI, zB_pZ, zB_lI, zB_lZ, zB_wI, zB_wZ, z_addl, z_ladd, z_mull, z_lmul, nI_add, z_subl, Nat.not_lt_zero, z_10, z_01, z_bitc, z_b0, z_b1, ↓zB_Gb, ↓zB_G0, ↓zB_G1, z_eql, z_leq, z_ltl, z_llt, z_eq, z_lt, z_m1lt, hM.k, hM.k2391, hM.k2392, hM.k2393, hM.k2394, hM.k2395, hM.k2396, hM.k2397, hM.k2398, hM.k2399, hM.k2400, hM.k2401, hM.k2402, hM.k2403, hM.k2404, hM.k2405, hM.k2406, hM.k2407, hM.k2408, hM.k2409, hM.k2410, hM.k2411, hM.k2412, hM.k2413, hM.k2414, hM.k2415, hM.k2416, hM.k2417, hM.k2418, hM.k2419, hM.k2420, hM.k2421, hM.k2422, hM.k2423, hM.l2391, hM.l2392, hM.l2393, hM.l2394, hM.l2395, hM.l2396, hM.l2397, hM.l2398, hM.l2399, hM.l2400, hM.l2401, hM.l2402, hM.l2403, hM.l2404, hM.l2405, hM.l2406, hM.l2407, hM.l2408, hM.l2409, hM.l2410, hM.l2411, hM.l2412, hM.l2413, hM.l2414, hM.l2415, hM.l2416, hM.l2417, hM.l2418, hM.l2419, hM.l2420, hM.l2421, hM.l2422, hM.l2423, ↓hM.g1, ↓hM.g5, ↓hM.g6, ↓hM.g7, ↓hM.g8, ↓hM.g9, ↓hM.g10, ↓hM.g11, ↓hM.g12, ↓hM.g13, ↓hM.g14, ↓hM.g16, ↓hM.g17, ↓hM.g18, ↓hM.g19, ↓hM.g21, ↓hM.g22, ↓hM.g23, ↓hM.g24, ↓hM.g25, ↓hM.g27, ↓hM.g28, ↓hM.g30, ↓hM.g31, ↓hM.g32, ↓hM.g36, ↓hM.g37, ↓hM.g39, ↓hM.g40, ↓hM.g41, ↓hM.g43, ↓hM.g45, ↓hM.g46, ↓zB_c s1, zB_c s1, Nat.lt_irrefl]
      · cases hx : z_rks P k i c q r t with
        | none =>
          have hz := z_rks_none hx (z_sz (z_bd P k) i - t)
          rw [show t + (z_sz (z_bd P k) i - t) = z_sz (z_bd P k) i by omega] at hz
          refine Or.inr ⟨0, m1, ?_, by rw [hz]; rfl, (fun d hd => by rw [hz] at hd; cases hd), g2⟩
          unfold f289_29b f289_71
          rw [show (none : Option z_Lc).isSome = false from rfl]
          simp (disch := ((try simp only [true_or, or_true, hM.k, hM.k2391, hM.k2392, hM.k2393, hM.k2394, hM.k2395, hM.k2396, hM.k2397, hM.k2398, hM.k2399, hM.k2400, hM.k2401, hM.k2402, hM.k2403, hM.k2404, hM.k2405, hM.k2406, hM.k2407, hM.k2408, hM.k2409, hM.k2410, hM.k2411, hM.k2412, hM.k2413, hM.k2414, hM.k2415, hM.k2416, hM.k2417, hM.k2418, hM.k2419, hM.k2420, hM.k2421, hM.k2422, hM.k2423, hM.l2391, hM.l2392, hM.l2393, hM.l2394, hM.l2395, hM.l2396, hM.l2397, hM.l2398, hM.l2399, hM.l2400, hM.l2401, hM.l2402, hM.l2403, hM.l2404, hM.l2405, hM.l2406, hM.l2407, hM.l2408, hM.l2409, hM.l2410, hM.l2411, hM.l2412, hM.l2413, hM.l2414, hM.l2415, hM.l2416, hM.l2417, hM.l2418, hM.l2419, hM.l2420, hM.l2421, hM.l2422, hM.l2423]) <;> (try omega))) only [↓reduceIte, ↓z_ite, ↓zR, ↓zB_R, ↓zB_B, ↓zB_ite, ↓zB_gI, ↓zB_pI, ↓zB_pZ, ↓zB_aK, ↓zB_G, ↓zB_lI, ↓zB_lZ, ↓zB_wI, ↓zB_wZ, ↓zB_lIl, ↓zB_wIl, zB_pI, zB_pZ, zB_lI, zB_lZ, zB_wI, zB_wZ, z_addl, z_ladd, z_mull, z_lmul, nI_add, z_subl, Nat.not_lt_zero, z_10, z_01, z_bitc, z_b0, z_b1, ↓zB_Gb, ↓zB_G0, ↓zB_G1, z_eql, z_leq, z_ltl, z_llt, z_eq, z_lt, z_m1lt, hM.k, hM.k2391, hM.k2392, hM.k2393, hM.k2394, hM.k2395, hM.k2396, hM.k2397, hM.k2398, hM.k2399, hM.k2400, hM.k2401, hM.k2402, hM.k2403, hM.k2404, hM.k2405, hM.k2406, hM.k2407, hM.k2408, hM.k2409, hM.k2410, hM.k2411, hM.k2412, hM.k2413, hM.k2414, hM.k2415, hM.k2416, hM.k2417, hM.k2418, hM.k2419, hM.k2420, hM.k2421, hM.k2422, hM.k2423, hM.l2391, hM.l2392, hM.l2393, hM.l2394, hM.l2395, hM.l2396, hM.l2397, hM.l2398, hM.l2399, hM.l2400, hM.l2401, hM.l2402, hM.l2403, hM.l2404, hM.l2405, hM.l2406, hM.l2407, hM.l2408, hM.l2409, hM.l2410, hM.l2411, hM.l2412, hM.l2413, hM.l2414, hM.l2415, hM.l2416, hM.l2417, hM.l2418, hM.l2419, hM.l2420, hM.l2421, hM.l2422, hM.l2423, ↓hM.g1, ↓hM.g5, ↓hM.g6, ↓hM.g7, ↓hM.g8, ↓hM.g9, ↓hM.g10, ↓hM.g11, ↓hM.g12, ↓hM.g13, ↓hM.g14, ↓hM.g16, ↓hM.g17, ↓hM.g18, ↓hM.g19, ↓hM.g21, ↓hM.g22, ↓hM.g23, ↓hM.g24, ↓hM.g25, ↓hM.g27, ↓hM.g28, ↓hM.g30, ↓hM.g31, ↓hM.g32, ↓hM.g36, ↓hM.g37, ↓hM.g39, ↓hM.g40, ↓hM.g41, ↓hM.g43, ↓hM.g45, ↓hM.g46, ↓zB_c s1, zB_c s1, ht2]
          rfl
        | some d =>
          obtain ⟨_, a2, a3, _, _, a6⟩ := z_lk_A hL t d htl hx
          have d1 := g1 d hx
          obtain ⟨m2, e290, b1, b2⟩ := f290_sp hM hw h60 hR h1 hT1 hk hlk (i := i) (t := t) (by omega) hq hlq (r := r) (by omega) hL.dp.1 (by omega) a2 (by omega) c2 d1
          have ers : z_rks P k i c q r (t + 1) = if z_rkc P k i c q r t d = true then some (if z_ou P k i t = true then z_rad P q (r + t) d else d) else none := by
            show (match z_rks P k i c q r t with | none => none | some d => _) = _
            rw [hx]
          have eb : (z_rks P k i c q r (t + 1)).isSome = z_rkc P k i c q r t d := by
            rw [ers]; cases z_rkc P k i c q r t d <;> rfl
          refine Or.inl ⟨_, m2, z_sz (z_bd P k) i - (t + 1), ?_, by omega, t + 1, rfl, by omega, rfl, (fun d' hd' => ?_), g2.trans b2⟩
          · rw [eb]
            unfold f289_29b
            rw [show (some d : Option z_Lc).isSome = true from rfl]
            have a1 : nI i + nI t = nI (i + t) := nI_add _ _
            have a2 : nI r + nI t = nI (r + t) := nI_add _ _
            simp (disch := ((try simp only [true_or, or_true, hM.k, hM.k2391, hM.k2392, hM.k2393, hM.k2394, hM.k2395, hM.k2396, hM.k2397, hM.k2398, hM.k2399, hM.k2400, hM.k2401, hM.k2402, hM.k2403, hM.k2404, hM.k2405, hM.k2406, hM.k2407, hM.k2408, hM.k2409, hM.k2410, hM.k2411, hM.k2412, hM.k2413, hM.k2414, hM.k2415, hM.k2416, hM.k2417, hM.k2418, hM.k2419, hM.k2420, hM.k2421, hM.k2422, hM.k2423, hM.l2391, hM.l2392, hM.l2393, hM.l2394, hM.l2395, hM.l2396, hM.l2397, hM.l2398, hM.l2399, hM.l2400, hM.l2401, hM.l2402, hM.l2403, hM.l2404, hM.l2405, hM.l2406, hM.l2407, hM.l2408, hM.l2409, hM.l2410, hM.l2411, hM.l2412, hM.l2413, hM.l2414, hM.l2415, hM.l2416, hM.l2417, hM.l2418, hM.l2419, hM.l2420, hM.l2421, hM.l2422, hM.l2423]) <;> (try omega))) only [↓reduceIte, ↓z_ite, ↓zR, ↓zB_R, ↓zB_B, ↓zB_ite, ↓zB_gI, ↓zB_pI, ↓zB_pZ, ↓zB_aK, ↓zB_G, ↓zB_lI, ↓zB_lZ, ↓zB_wI, ↓zB_wZ, ↓zB_lIl, ↓zB_wIl, zB_pI, zB_pZ, zB_lI, zB_lZ, zB_wI, zB_wZ, z_addl, z_ladd, z_mull, z_lmul, nI_add, z_subl, Nat.not_lt_zero, z_10, z_01, z_bitc, z_b0, z_b1, ↓zB_Gb, ↓zB_G0, ↓zB_G1, z_eql, z_leq, z_ltl, z_llt, z_eq, z_lt, z_m1lt, hM.k, hM.k2391, hM.k2392, hM.k2393, hM.k2394, hM.k2395, hM.k2396, hM.k2397, hM.k2398, hM.k2399, hM.k2400, hM.k2401, hM.k2402, hM.k2403, hM.k2404, hM.k2405, hM.k2406, hM.k2407, hM.k2408, hM.k2409, hM.k2410, hM.k2411, hM.k2412, hM.k2413, hM.k2414, hM.k2415, hM.k2416, hM.k2417, hM.k2418, hM.k2419, hM.k2420, hM.k2421, hM.k2422, hM.k2423, hM.l2391, hM.l2392, hM.l2393, hM.l2394, hM.l2395, hM.l2396, hM.l2397, hM.l2398, hM.l2399, hM.l2400, hM.l2401, hM.l2402, hM.l2403, hM.l2404, hM.l2405, hM.l2406, hM.l2407, hM.l2408, hM.l2409, hM.l2410, hM.l2411, hM.l2412, hM.l2413, hM.l2414, hM.l2415, hM.l2416, hM.l2417, hM.l2418, hM.l2419, hM.l2420, hM.l2421, hM.l2422, hM.l2423, ↓hM.g1, ↓hM.g5, ↓hM.g6, ↓hM.g7, ↓hM.g8, ↓hM.g9, ↓hM.g10, ↓hM.g11, ↓hM.g12, ↓hM.g13, ↓hM.g14, ↓hM.g16, ↓hM.g17, ↓hM.g18, ↓hM.g19, ↓hM.g21, ↓hM.g22, ↓hM.g23, ↓hM.g24, ↓hM.g25, ↓hM.g27, ↓hM.g28, ↓hM.g30, ↓hM.g31, ↓hM.g32, ↓hM.g36, ↓hM.g37, ↓hM.g39, ↓hM.g40, ↓hM.g41, ↓hM.g43, ↓hM.g45, ↓hM.g46, ↓zB_c s1, zB_c s1, ht2, Bool.true_eq_false, a1, a2, ↓zB_c e290, zB_c e290]
          · rw [ers] at hd'
            by_cases y : z_rkc P k i c q r t d = true
            · rw [if_pos y] at hd'
              obtain rfl := Option.some.inj hd'
              exact b1 y
            · rw [if_neg y] at hd'; cases hd'
  · refine ⟨m, ?_, (fun d hd => by unfold z_lk at hd; rw [if_neg gs] at hd; cases hd), z_x4.refl m⟩
    unfold f289 z_lk
    rw [if_neg gs]
    have gs2 : ¬ nI (z_sz (z_bd P k) i) = nI (z_sz (z_bd P q) r) := fun y => gs ((nI_eq (by omega) (by omega)).mp y).symm
    simp (disch := ((try simp only [true_or, or_true, hM.k, hM.k2391, hM.k2392, hM.k2393, hM.k2394, hM.k2395, hM.k2396, hM.k2397, hM.k2398, hM.k2399, hM.k2400, hM.k2401, hM.k2402, hM.k2403, hM.k2404, hM.k2405, hM.k2406, hM.k2407, hM.k2408, hM.k2409, hM.k2410, hM.k2411, hM.k2412, hM.k2413, hM.k2414, hM.k2415, hM.k2416, hM.k2417, hM.k2418, hM.k2419, hM.k2420, hM.k2421, hM.k2422, hM.k2423, hM.l2391, hM.l2392, hM.l2393, hM.l2394, hM.l2395, hM.l2396, hM.l2397, hM.l2398, hM.l2399, hM.l2400, hM.l2401, hM.l2402, hM.l2403, hM.l2404, hM.l2405, hM.l2406, hM.l2407, hM.l2408, hM.l2409, hM.l2410, hM.l2411, hM.l2412, hM.l2413, hM.l2414, hM.l2415, hM.l2416, hM.l2417, hM.l2418, hM.l2419, hM.l2420, hM.l2421, hM.l2422, hM.l2423]) <;> (try omega))) only [↓reduceIte, ↓z_ite, ↓zR, ↓zB_R, ↓zB_B, ↓zB_ite, ↓zB_gI, ↓zB_pI, ↓zB_pZ, ↓zB_aK, ↓zB_G, ↓zB_lI, ↓zB_lZ, ↓zB_wI, ↓zB_wZ, ↓zB_lIl, ↓zB_wIl, zB_pI, zB_pZ, zB_lI, zB_lZ, zB_wI, zB_wZ, z_addl, z_ladd, z_mull, z_lmul, nI_add, z_subl, Nat.not_lt_zero, z_10, z_01, z_bitc, z_b0, z_b1, ↓zB_Gb, ↓zB_G0, ↓zB_G1, z_eql, z_leq, z_ltl, z_llt, z_eq, z_lt, z_m1lt, hM.k, hM.k2391, hM.k2392, hM.k2393, hM.k2394, hM.k2395, hM.k2396, hM.k2397, hM.k2398, hM.k2399, hM.k2400, hM.k2401, hM.k2402, hM.k2403, hM.k2404, hM.k2405, hM.k2406, hM.k2407, hM.k2408, hM.k2409, hM.k2410, hM.k2411, hM.k2412, hM.k2413, hM.k2414, hM.k2415, hM.k2416, hM.k2417, hM.k2418, hM.k2419, hM.k2420, hM.k2421, hM.k2422, hM.k2423, hM.l2391, hM.l2392, hM.l2393, hM.l2394, hM.l2395, hM.l2396, hM.l2397, hM.l2398, hM.l2399, hM.l2400, hM.l2401, hM.l2402, hM.l2403, hM.l2404, hM.l2405, hM.l2406, hM.l2407, hM.l2408, hM.l2409, hM.l2410, hM.l2411, hM.l2412, hM.l2413, hM.l2414, hM.l2415, hM.l2416, hM.l2417, hM.l2418, hM.l2419, hM.l2420, hM.l2421, hM.l2422, hM.l2423, ↓hM.g1, ↓hM.g5, ↓hM.g6, ↓hM.g7, ↓hM.g8, ↓hM.g9, ↓hM.g10, ↓hM.g11, ↓hM.g12, ↓hM.g13, ↓hM.g14, ↓hM.g16, ↓hM.g17, ↓hM.g18, ↓hM.g19, ↓hM.g21, ↓hM.g22, ↓hM.g23, ↓hM.g24, ↓hM.g25, ↓hM.g27, ↓hM.g28, ↓hM.g30, ↓hM.g31, ↓hM.g32, ↓hM.g36, ↓hM.g37, ↓hM.g39, ↓hM.g40, ↓hM.g41, ↓hM.g43, ↓hM.g45, ↓hM.g46, ↓zB_c s1, zB_c s1, ↓zB_c s2, zB_c s2, gs2]
    rfl
/-- both frames -/
def z_xeF (m m' : z_m) : Prop := (∀ a, a ≠ 2390 → a ≠ 2418 → a ≠ 2419 → a ≠ 2420 → a ≠ 2422 → m' a = m a) ∧ ∀ j, j ≠ 38 → j ≠ 44 → m' 2390 j = m 2390 j
theorem z_xeF.refl (m : z_m) : z_xeF m m := ⟨fun _ _ _ _ _ _ => rfl, fun _ _ _ => rfl⟩
theorem z_xeF.trans {m m' m'' : z_m} (h : z_xeF m m') (h2 : z_xeF m' m'') : z_xeF m m'' := ⟨fun a x y z u v => (h2.1 a x y z u v).trans (h.1 a x y z u v), fun j x y => (h2.2 j x y).trans (h.2 j x y)⟩
theorem z_x4.xeF {m m' : z_m} (h : z_x4 m m') : z_xeF m m' := ⟨fun a x _ _ _ v => h.1 a x v, fun j _ y => h.2 j y⟩
theorem z_eF.xeF {m m' : z_m} (h : z_eF m m') : z_xeF m m' := ⟨fun a x y z u _ => h.1 a x y z u, fun j x _ => h.2 j x⟩
theorem z_xeF.mb {m m' : z_m} {b : Nat} (h : z_xeF m m') (hb : z_mb m b P) : z_mb m' b P := z_mb_fr (h.1 2391 (by decide) (by decide) (by decide) (by decide) (by decide)) hb
theorem z_xeF.LT {m m' : z_m} (h : z_xeF m m') (ht : z_mLT m P) : z_mLT m' P := z_mLT_fr (fun a x y => h.1 a (by omega) (by omega) (by omega) (by omega) (by omega)) ht
theorem z_xeF.rL {m m' : z_m} (h : z_xeF m m') {c : z_Lc} (hc : z_rL m 42 2421 c) : z_rL m' 42 2421 c := ⟨by rw [h.2 42 (by decide) (by decide)]; exact hc.1, fun j hj => by rw [h.1 2421 (by decide) (by decide) (by decide) (by decide) (by decide)]; exact hc.2 j hj⟩
theorem z_xeF.wK {m m' : z_m} (h : z_xeF m m') : z_wK m m' := ⟨fun j _ => by rw [h.1 2391 (by decide) (by decide) (by decide) (by decide) (by decide)], fun a x y z => h.1 a y (by omega) (by omega) (by omega) (by omega), fun j hj => h.2 j (by omega) (by omega)⟩
theorem z_x4.ol {m m' : z_m} (h : z_x4 m m') {l : List z_N} (hl : z_ol m l) : z_ol m' l := ⟨by rw [h.2 38 (by decide)]; exact hl.1, fun i hi => by rw [h.1 2418 (by decide) (by decide), h.1 2419 (by decide) (by decide), h.1 2420 (by decide) (by decide)]; exact hl.2 i hi⟩
theorem z_eF.rL4 {m m' : z_m} (h : z_eF m m') {d : z_Lc} (hd : z_rL m 44 2422 d) : z_rL m' 44 2422 d := ⟨by rw [h.2 44 (by decide)]; exact hd.1, fun j hj => by rw [h.1 2422 (by decide) (by decide) (by decide) (by decide)]; exact hd.2 j hj⟩
/-- a call written -/
theorem f293_55_sp (hM : z_MS S) (hw : z_wf P) (h60 : z_b60 P) (h : z_mb m 0 P) (hT : z_mLT m P) {K I name : Int32} {q r n : Nat} (hq : q < z_nm P) (hlq : z_liv P q = true) (hr : r < (z_bd P q).length) {c d : z_Lc} (c1 : z_rL m 42 2421 c) (d1 : z_rL m 44 2422 d) (hcd : d.length = c.length) (hd : z_ldp P q d) (hdl : d.length ≤ 2) {L : List z_N} (hL : z_ol m L) (hLl : L.length ≤ 300) : ∃ m', f293_55 2390 K I (nI q) name (nI n) (nI r) 0 (z_hp S m) = some (.inl (2390, K, I, nI q, name, nI (n + 1), nI (z_en (z_bd P q) r)), z_hp S m') ∧ z_ol m' (L ++ z_exV d) ∧ z_eF m m' := by
  have h24 := hw.2.2.1
  have hl2 := h60 q hq
  have key := z_loopI (f := fun s => f293_55b (s.1) (s.2.1) (s.2.2.1) (s.2.2.2.1) (s.2.2.2.2.1) (s.2.2.2.2.2.1) (s.2.2.2.2.2.2.1) (s.2.2.2.2.2.2.2)) (S := S) (fun N st m' => ∃ t, N = d.length - t ∧ t ≤ d.length ∧ st = (2390, K, I, nI q, name, nI n, nI r, nI t) ∧ z_ol m' (L ++ z_exV (d.take t)) ∧ z_eF m m') (fun v m' => v = .inl (2390, K, I, nI q, name, nI (n + 1), nI (z_en (z_bd P q) r)) ∧ z_ol m' (L ++ z_exV d) ∧ z_eF m m') ?_ 1000000 d.length (2390, K, I, nI q, name, nI n, nI r, 0) m ⟨0, rfl, Nat.zero_le _, rfl, by rw [List.take_zero]; show z_ol m (L ++ []); rw [List.append_nil]; exact hL, z_eF.refl _⟩ (by omega)
  · obtain ⟨v, m', e, rfl, g1, g2⟩ := key
    exact ⟨m', e, g1, g2⟩
  · rintro N st m1 ⟨t, rfl, htl, rfl, g1, g2⟩
    have h1 := g2.xeF.mb h
    have hT1 := g2.xeF.LT hT
    have c3 := (g2.xeF.rL c1).1
    rw [← hcd] at c3
    have d2 := g2.rL4 d1
    dsimp only
    rcases Nat.eq_or_lt_of_le htl with ht2 | ht2
    · have s2 := f269_sp (S := S) hM (hT1 q hq hlq) (by omega) (by omega) hr
      have a1 : nI r + nI (z_sz (z_bd P q) r) = nI (z_en (z_bd P q) r) := nI_add _ _
      refine Or.inr ⟨_, m1, ?_, rfl, by rw [ht2, List.take_length] at g1; exact g1, g2⟩
      unfold f293_55b f293_88
      rw [ht2]
      simp (disch := ((try simp only [true_or, or_true, hM.k, hM.k2391, hM.k2392, hM.k2393, hM.k2394, hM.k2395, hM.k2396, hM.k2397, hM.k2398, hM.k2399, hM.k2400, hM.k2401, hM.k2402, hM.k2403, hM.k2404, hM.k2405, hM.k2406, hM.k2407, hM.k2408, hM.k2409, hM.k2410, hM.k2411, hM.k2412, hM.k2413, hM.k2414, hM.k2415, hM.k2416, hM.k2417, hM.k2418, hM.k2419, hM.k2420, hM.k2421, hM.k2422, hM.k2423, hM.l2391, hM.l2392, hM.l2393, hM.l2394, hM.l2395, hM.l2396, hM.l2397, hM.l2398, hM.l2399, hM.l2400, hM.l2401, hM.l2402, hM.l2403, hM.l2404, hM.l2405, hM.l2406, hM.l2407, hM.l2408, hM.l2409, hM.l2410, hM.l2411, hM.l2412, hM.l2413, hM.l2414, hM.l2415, hM.l2416, hM.l2417, hM.l2418, hM.l2419, hM.l2420, hM.l2421, hM.l2422, hM.l2423]) <;> (try omega))) only [↓reduceIte, ↓z_ite, ↓zR, ↓zB_R, ↓zB_B, ↓zB_ite, ↓zB_gI, ↓zB_pI, ↓zB_pZ, ↓zB_aK, ↓zB_G, ↓zB_lI, ↓zB_lZ, ↓zB_wI, ↓zB_wZ, ↓zB_lIl, ↓zB_wIl, zB_pI, zB_pZ, zB_lI, zB_lZ, zB_wI, zB_wZ, z_addl, z_ladd, z_mull, z_lmul, nI_add, z_subl, Nat.not_lt_zero, z_10, z_01, z_bitc, z_b0, z_b1, ↓zB_Gb, ↓zB_G0, ↓zB_G1, z_eql, z_leq, z_ltl, z_llt, z_eq, z_lt, z_m1lt, hM.k, hM.k2391, hM.k2392, hM.k2393, hM.k2394, hM.k2395, hM.k2396, hM.k2397, hM.k2398, hM.k2399, hM.k2400, hM.k2401, hM.k2402, hM.k2403, hM.k2404, hM.k2405, hM.k2406, hM.k2407, hM.k2408, hM.k2409, hM.k2410, hM.k2411, hM.k2412, hM.k2413, hM.k2414, hM.k2415, hM.k2416, hM.k2417, hM.k2418, hM.k2419, hM.k2420, hM.k2421, hM.k2422, hM.k2423, hM.l2391, hM.l2392, hM.l2393, hM.l2394, hM.l2395, hM.l2396, hM.l2397, hM.l2398, hM.l2399, hM.l2400, hM.l2401, hM.l2402, hM.l2403, hM.l2404, hM.l2405, hM.l2406, hM.l2407, hM.l2408, hM.l2409, hM.l2410, hM.l2411, hM.l2412, hM.l2413, hM.l2414, hM.l2415, hM.l2416, hM.l2417, hM.l2418, hM.l2419, hM.l2420, hM.l2421, hM.l2422, hM.l2423, ↓hM.g1, ↓hM.g5, ↓hM.g6, ↓hM.g7, ↓hM.g8, ↓hM.g9, ↓hM.g10, ↓hM.g11, ↓hM.g12, ↓hM.g13, ↓hM.g14, ↓hM.g16, ↓hM.g17, ↓hM.g18, ↓hM.g19, ↓hM.g21, ↓hM.g22, ↓hM.g23, ↓hM.g24, ↓hM.g25, ↓hM.g27, ↓hM.g28, ↓hM.g30, ↓hM.g31, ↓hM.g32, ↓hM.g36, ↓hM.g37, ↓hM.g39, ↓hM.g40, ↓hM.g41, ↓hM.g43, ↓hM.g45, ↓hM.g46, c3, Nat.lt_irrefl, ↓zB_c s2, zB_c s2, a1]
    · have ht64 : t < 64 := by omega
      have dx := d2.2 t ht2
      obtain ⟨p1, p2, _⟩ := hd.2 t ht2
      have e287 := f287_sp (S := S) hM hw h60 h1 hq p1
      obtain ⟨m2, e260, o1, o2⟩ := f260_sp (S := S) hM g1 (by rw [List.length_append]; unfold z_exV; rw [List.length_map, List.length_take]; omega) 1 (z_nol P q (z_g d t).1) 0
      refine Or.inl ⟨_, m2, d.length - (t + 1), ?_, by omega, t + 1, rfl, by omega, rfl, ?_, g2.trans o2⟩
      · unfold f293_55b
        simp (disch := ((try simp only [true_or, or_true, hM.k, hM.k2391, hM.k2392, hM.k2393, hM.k2394, hM.k2395, hM.k2396, hM.k2397, hM.k2398, hM.k2399, hM.k2400, hM.k2401, hM.k2402, hM.k2403, hM.k2404, hM.k2405, hM.k2406, hM.k2407, hM.k2408, hM.k2409, hM.k2410, hM.k2411, hM.k2412, hM.k2413, hM.k2414, hM.k2415, hM.k2416, hM.k2417, hM.k2418, hM.k2419, hM.k2420, hM.k2421, hM.k2422, hM.k2423, hM.l2391, hM.l2392, hM.l2393, hM.l2394, hM.l2395, hM.l2396, hM.l2397, hM.l2398, hM.l2399, hM.l2400, hM.l2401, hM.l2402, hM.l2403, hM.l2404, hM.l2405, hM.l2406, hM.l2407, hM.l2408, hM.l2409, hM.l2410, hM.l2411, hM.l2412, hM.l2413, hM.l2414, hM.l2415, hM.l2416, hM.l2417, hM.l2418, hM.l2419, hM.l2420, hM.l2421, hM.l2422, hM.l2423]) <;> (try omega))) only [↓reduceIte, ↓z_ite, ↓zR, ↓zB_R, ↓zB_B, ↓zB_ite, ↓zB_gI, ↓zB_pI, ↓zB_pZ, ↓zB_aK, ↓zB_G, ↓zB_lI, ↓zB_lZ, ↓zB_wI, ↓zB_wZ, ↓zB_lIl, ↓zB_wIl, zB_pI, zB_pZ, zB_lI, zB_lZ, zB_wI, zB_wZ, z_addl, z_ladd, z_mull, z_lmul, nI_add, z_subl, Nat.not_lt_zero, z_10, z_01, z_bitc, z_b0, z_b1, ↓zB_Gb, ↓zB_G0, ↓zB_G1, z_eql, z_leq, z_ltl, z_llt, z_eq, z_lt, z_m1lt, hM.k, hM.k2391, hM.k2392, hM.k2393, hM.k2394, hM.k2395, hM.k2396, hM.k2397, hM.k2398, hM.k2399, hM.k2400, hM.k2401, hM.k2402, hM.k2403, hM.k2404, hM.k2405, hM.k2406, hM.k2407, hM.k2408, hM.k2409, hM.k2410, hM.k2411, hM.k2412, hM.k2413, hM.k2414, hM.k2415, hM.k2416, hM.k2417, hM.k2418, hM.k2419, hM.k2420, hM.k2421, hM.k2422, hM.k2423, hM.l2391, hM.l2392, hM.l2393, hM.l2394, hM.l2395, hM.l2396, hM.l2397, hM.l2398, hM.l2399, hM.l2400, hM.l2401, hM.l2402, hM.l2403, hM.l2404, hM.l2405, hM.l2406, hM.l2407, hM.l2408, hM.l2409, hM.l2410, hM.l2411, hM.l2412, hM.l2413, hM.l2414, hM.l2415, hM.l2416, hM.l2417, hM.l2418, hM.l2419, hM.l2420, hM.l2421, hM.l2422, hM.l2423, ↓hM.g1, ↓hM.g5, ↓hM.g6, ↓hM.g7, ↓hM.g8, ↓hM.g9, ↓hM.g10, ↓hM.g11, ↓hM.g12, ↓hM.g13, ↓hM.g14, ↓hM.g16, ↓hM.g17, ↓hM.g18, ↓hM.g19, ↓hM.g21, ↓hM.g22, ↓hM.g23, ↓hM.g24, ↓hM.g25, ↓hM.g27, ↓hM.g28, ↓hM.g30, ↓hM.g31, ↓hM.g32, ↓hM.g36, ↓hM.g37, ↓hM.g39, ↓hM.g40, ↓hM.g41, ↓hM.g43, ↓hM.g45, ↓hM.g46, c3, ht2, ht64, dx, ↓zB_c e287, zB_c e287, ↓zB_c e260, zB_c e260]
      · rw [List.append_assoc] at o1
        have : z_exV (d.take (t + 1)) = z_exV (d.take t) ++ [(1, z_nol P q (z_g d t).1, 0)] := by
          rw [← p2]
          unfold z_exV
          rw [List.take_add_one, List.map_append]
          congr 1
          unfold z_g
          rw [List.getD_eq_getElem?_getD, List.getElem?_eq_getElem ht2]; rfl
        rw [this]; exact o1
/-- replaceLikes -/
theorem f293_sp (hM : z_MS S) (h : z_mb m 0 P) (hT : z_mLT m P) {k i q : Nat} {c : z_Lc} (hH : z_exH P k i c) (hq : q < z_nm P) (hlq : z_liv P q = true) (ho : z_own P k = z_own P q) {name : Int32} (hn : ∃ n, n < 16 ∧ name = nI n) (c1 : z_rL m 42 2421 c) : ∃ m', f293 2390 (nI k) (nI i) (nI q) name (z_hp S m) = some (nI (z_exK P k i c q name), z_hp S m') ∧ (∀ Q, z_mb m 2 Q → q < z_nm Q → z_mb m' 2 (z_sM Q q (z_hd Q q) (z_exB P k i c q name))) ∧ z_rL m' 42 2421 c ∧ z_wK m m' := by
  have hw := hH.1.1
  have h60 := hH.1.2.1
  have h24 := hw.2.2.1
  have hl2 := h60 q hq
  have hB := hw.2.2.2.2.1 q hq
  obtain ⟨z0, zF⟩ := z_ol_nil (m := m) hM
  have key := z_loopT (f := fun s => f293_11b (s.1) (s.2.1) (s.2.2.1) (s.2.2.2.1) (s.2.2.2.2.1) (s.2.2.2.2.2.1) (s.2.2.2.2.2.2)) (S := S) (fun N st m' => ∃ j, N = (z_bd P q).length - j ∧ j ≤ (z_bd P q).length ∧ (z_exs P k i c q name j).1 ≤ j ∧ st = (2390, nI k, nI i, nI q, name, nI (z_exs P k i c q name j).2.2, nI j) ∧ z_ol m' (z_exs P k i c q name j).2.1 ∧ z_xeF m m') (fun X m' => X = f293_119 2390 (nI q) (nI (z_exK P k i c q name)) ∧ z_ol m' (z_exB P k i c q name) ∧ z_xeF m m') ?_ 1000000 (z_bd P q).length (2390, nI k, nI i, nI q, name, 0, 0) (z_up m 2390 38 0) ⟨0, rfl, Nat.zero_le _, Nat.le_refl _, rfl, z0, zF.xeF⟩ (by omega)
  · obtain ⟨X, m1, e, rfl, g1, g2⟩ := key
    have hl := (z_exB_wB hH hq hlq ho hn).2.1
    obtain ⟨m2, e264, l1, l2, yF⟩ := f264_sp (S := S) hM (k := q) (by omega) g1 (by omega)
    refine ⟨m2, ?_, fun Q hQ hqQ => ?_, ?_, g2.wK.trans (yF.wK (by omega))⟩
    · unfold f293
      have e3 : f293_11 2390 (nI k) (nI i) (nI q) name 0 0 (z_hp S (z_up m 2390 38 0)) = f293_119 2390 (nI q) (nI (z_exK P k i c q name)) (z_hp S m1) := e
      simp (disch := ((try simp only [true_or, or_true, hM.k, hM.k2391, hM.k2392, hM.k2393, hM.k2394, hM.k2395, hM.k2396, hM.k2397, hM.k2398, hM.k2399, hM.k2400, hM.k2401, hM.k2402, hM.k2403, hM.k2404, hM.k2405, hM.k2406, hM.k2407, hM.k2408, hM.k2409, hM.k2410, hM.k2411, hM.k2412, hM.k2413, hM.k2414, hM.k2415, hM.k2416, hM.k2417, hM.k2418, hM.k2419, hM.k2420, hM.k2421, hM.k2422, hM.k2423, hM.l2391, hM.l2392, hM.l2393, hM.l2394, hM.l2395, hM.l2396, hM.l2397, hM.l2398, hM.l2399, hM.l2400, hM.l2401, hM.l2402, hM.l2403, hM.l2404, hM.l2405, hM.l2406, hM.l2407, hM.l2408, hM.l2409, hM.l2410, hM.l2411, hM.l2412, hM.l2413, hM.l2414, hM.l2415, hM.l2416, hM.l2417, hM.l2418, hM.l2419, hM.l2420, hM.l2421, hM.l2422, hM.l2423]) <;> (try omega))) only [f293_119, ↓reduceIte, ↓z_ite, ↓zR, ↓zB_R, ↓zB_B, ↓zB_ite, ↓zB_gI, ↓zB_pI, ↓zB_pZ, ↓zB_aK, ↓zB_G, ↓zB_lI, ↓zB_lZ, ↓zB_wI, ↓zB_wZ, ↓zB_lIl, ↓zB_wIl, zB_pI, zB_pZ, zB_lI, zB_lZ, zB_wI, zB_wZ, z_addl, z_ladd, z_mull, z_lmul, nI_add, z_subl, Nat.not_lt_zero, z_10, z_01, z_bitc, z_b0, z_b1, ↓zB_Gb, ↓zB_G0, ↓zB_G1, z_eql, z_leq, z_ltl, z_llt, z_eq, z_lt, z_m1lt, hM.k, hM.k2391, hM.k2392, hM.k2393, hM.k2394, hM.k2395, hM.k2396, hM.k2397, hM.k2398, hM.k2399, hM.k2400, hM.k2401, hM.k2402, hM.k2403, hM.k2404, hM.k2405, hM.k2406, hM.k2407, hM.k2408, hM.k2409, hM.k2410, hM.k2411, hM.k2412, hM.k2413, hM.k2414, hM.k2415, hM.k2416, hM.k2417, hM.k2418, hM.k2419, hM.k2420, hM.k2421, hM.k2422, hM.k2423, hM.l2391, hM.l2392, hM.l2393, hM.l2394, hM.l2395, hM.l2396, hM.l2397, hM.l2398, hM.l2399, hM.l2400, hM.l2401, hM.l2402, hM.l2403, hM.l2404, hM.l2405, hM.l2406, hM.l2407, hM.l2408, hM.l2409, hM.l2410, hM.l2411, hM.l2412, hM.l2413, hM.l2414, hM.l2415, hM.l2416, hM.l2417, hM.l2418, hM.l2419, hM.l2420, hM.l2421, hM.l2422, hM.l2423, ↓hM.g1, ↓hM.g5, ↓hM.g6, ↓hM.g7, ↓hM.g8, ↓hM.g9, ↓hM.g10, ↓hM.g11, ↓hM.g12, ↓hM.g13, ↓hM.g14, ↓hM.g16, ↓hM.g17, ↓hM.g18, ↓hM.g19, ↓hM.g21, ↓hM.g22, ↓hM.g23, ↓hM.g24, ↓hM.g25, ↓hM.g27, ↓hM.g28, ↓hM.g30, ↓hM.g31, ↓hM.g32, ↓hM.g36, ↓hM.g37, ↓hM.g39, ↓hM.g40, ↓hM.g41, ↓hM.g43, ↓hM.g45, ↓hM.g46, e3, ↓zB_c e264, zB_c e264]
    · exact z_mb_lay (g2.mb hQ) hqQ (by omega) l1 l2 yF
    · have := g2.rL c1
      exact ⟨by rw [yF.1 2390 (by decide)]; exact this.1, fun j hj => by rw [yF.1 2421 (by decide)]; exact this.2 j hj⟩
  · rintro N st m1 ⟨j, rfl, hjl, hb, rfl, g1, g2⟩
    have h1 := g2.mb h
    have hT1 := g2.LT hT
    have c2 := g2.rL c1
    have e270 := f270_sp (S := S) hM h1 hq
    obtain ⟨i1, i2, i3, i4, i5⟩ := z_exs_ok hH hq hlq ho hn j hjl
    have emx : max j (z_exs P k i c q name j).1 = j := by omega
    rw [emx] at i2
    dsimp only
    rcases Nat.eq_or_lt_of_le hjl with hj2 | hj2
    · refine Or.inr ⟨_, m1, ?_, rfl, by rw [hj2] at g1; exact g1, g2⟩
      unfold f293_11b
      rw [hj2]
      simp (disch := ((try simp only [true_or, or_true, hM.k, hM.k2391, hM.k2392, hM.k2393, hM.k2394, hM.k2395, hM.k2396, hM.k2397, hM.k2398, hM.k2399, hM.k2400, hM.k2401, hM.k2402, hM.k2403, hM.k2404, hM.k2405, hM.k2406, hM.k2407, hM.k2408, hM.k2409, hM.k2410, hM.k2411, hM.k2412, hM.k2413, hM.k2414, hM.k2415, hM.k2416, hM.k2417, hM.k2418, hM.k2419, hM.k2420, hM.k2421, hM.k2422, hM.k2423, hM.l2391, hM.l2392, hM.l2393, hM.l2394, hM.l2395, hM.l2396, hM.l2397, hM.l2398, hM.l2399, hM.l2400, hM.l2401, hM.l2402, hM.l2403, hM.l2404, hM.l2405, hM.l2406, hM.l2407, hM.l2408, hM.l2409, hM.l2410, hM.l2411, hM.l2412, hM.l2413, hM.l2414, hM.l2415, hM.l2416, hM.l2417, hM.l2418, hM.l2419, hM.l2420, hM.l2421, hM.l2422, hM.l2423]) <;> (try omega))) only [↓reduceIte, ↓z_ite, ↓zR, ↓zB_R, ↓zB_B, ↓zB_ite, ↓zB_gI, ↓zB_pI, ↓zB_pZ, ↓zB_aK, ↓zB_G, ↓zB_lI, ↓zB_lZ, ↓zB_wI, ↓zB_wZ, ↓zB_lIl, ↓zB_wIl, zB_pI, zB_pZ, zB_lI, zB_lZ, zB_wI, zB_wZ, z_addl, z_ladd, z_mull, z_lmul, nI_add, z_subl, Nat.not_lt_zero, z_10, z_01, z_bitc, z_b0, z_b1, ↓zB_Gb, ↓zB_G0, ↓zB_G1, z_eql, z_leq, z_ltl, z_llt, z_eq, z_lt, z_m1lt, hM.k, hM.k2391, hM.k2392, hM.k2393, hM.k2394, hM.k2395, hM.k2396, hM.k2397, hM.k2398, hM.k2399, hM.k2400, hM.k2401, hM.k2402, hM.k2403, hM.k2404, hM.k2405, hM.k2406, hM.k2407, hM.k2408, hM.k2409, hM.k2410, hM.k2411, hM.k2412, hM.k2413, hM.k2414, hM.k2415, hM.k2416, hM.k2417, hM.k2418, hM.k2419, hM.k2420, hM.k2421, hM.k2422, hM.k2423, hM.l2391, hM.l2392, hM.l2393, hM.l2394, hM.l2395, hM.l2396, hM.l2397, hM.l2398, hM.l2399, hM.l2400, hM.l2401, hM.l2402, hM.l2403, hM.l2404, hM.l2405, hM.l2406, hM.l2407, hM.l2408, hM.l2409, hM.l2410, hM.l2411, hM.l2412, hM.l2413, hM.l2414, hM.l2415, hM.l2416, hM.l2417, hM.l2418, hM.l2419, hM.l2420, hM.l2421, hM.l2422, hM.l2423, ↓hM.g1, ↓hM.g5, ↓hM.g6, ↓hM.g7, ↓hM.g8, ↓hM.g9, ↓hM.g10, ↓hM.g11, ↓hM.g12, ↓hM.g13, ↓hM.g14, ↓hM.g16, ↓hM.g17, ↓hM.g18, ↓hM.g19, ↓hM.g21, ↓hM.g22, ↓hM.g23, ↓hM.g24, ↓hM.g25, ↓hM.g27, ↓hM.g28, ↓hM.g30, ↓hM.g31, ↓hM.g32, ↓hM.g36, ↓hM.g37, ↓hM.g39, ↓hM.g40, ↓hM.g41, ↓hM.g43, ↓hM.g45, ↓hM.g46, ↓zB_c e270, zB_c e270, Nat.lt_irrefl]
      rfl
    · obtain ⟨m2, e289, b1, b2⟩ := f289_sp hM h1 hT1 hH hq hlq ho hj2 c2
      have h2 := b2.xF.mb h1
      have hT2 := b2.xF.LT hT1
      have o2 := b2.ol g1
      have gs : ¬ j < (z_exs P k i c q name j).1 := by omega
      cases hx : z_lk P k i c q j with
      | none =>
        rw [hx] at e289
        have e289 : f289 2390 (nI k) (nI i) (nI q) (nI j) (z_hp S m1) = some (0, z_hp S m2) := e289
        obtain ⟨m3, e261, o3, o4⟩ := f261_sp (S := S) hM h2 hq hj2 o2 (by omega)
        refine Or.inl ⟨_, m3, (z_bd P q).length - (j + 1), ?_, by omega, j + 1, rfl, by omega, ?_, rfl, by rw [z_exs_none gs hx]; exact o3, (g2.trans b2.xeF).trans o4.xeF⟩
        · rw [z_exs_none gs hx]
          unfold f293_11b
          simp (disch := ((try simp only [true_or, or_true, hM.k, hM.k2391, hM.k2392, hM.k2393, hM.k2394, hM.k2395, hM.k2396, hM.k2397, hM.k2398, hM.k2399, hM.k2400, hM.k2401, hM.k2402, hM.k2403, hM.k2404, hM.k2405, hM.k2406, hM.k2407, hM.k2408, hM.k2409, hM.k2410, hM.k2411, hM.k2412, hM.k2413, hM.k2414, hM.k2415, hM.k2416, hM.k2417, hM.k2418, hM.k2419, hM.k2420, hM.k2421, hM.k2422, hM.k2423, hM.l2391, hM.l2392, hM.l2393, hM.l2394, hM.l2395, hM.l2396, hM.l2397, hM.l2398, hM.l2399, hM.l2400, hM.l2401, hM.l2402, hM.l2403, hM.l2404, hM.l2405, hM.l2406, hM.l2407, hM.l2408, hM.l2409, hM.l2410, hM.l2411, hM.l2412, hM.l2413, hM.l2414, hM.l2415, hM.l2416, hM.l2417, hM.l2418, hM.l2419, hM.l2420, hM.l2421, hM.l2422, hM.l2423]) <;> (try omega))) only [↓reduceIte, ↓z_ite, ↓zR, ↓zB_R, ↓zB_B, ↓zB_ite, ↓zB_gI, ↓zB_pI, ↓zB_pZ, ↓zB_aK, ↓zB_G, ↓zB_lI, ↓zB_lZ, ↓zB_wI, ↓zB_wZ, ↓zB_lIl, ↓zB_wIl, zB_pI, zB_pZ, zB_lI, zB_lZ, zB_wI, zB_wZ, z_addl, z_ladd, z_mull, z_lmul, nI_add, z_subl, Nat.not_lt_zero, z_10, z_01, z_bitc, z_b0, z_b1, ↓zB_Gb, ↓zB_G0, ↓zB_G1, z_eql, z_leq, z_ltl, z_llt, z_eq, z_lt, z_m1lt, hM.k, hM.k2391, hM.k2392, hM.k2393, hM.k2394, hM.k2395, hM.k2396, hM.k2397, hM.k2398, hM.k2399, hM.k2400, hM.k2401, hM.k2402, hM.k2403, hM.k2404, hM.k2405, hM.k2406, hM.k2407, hM.k2408, hM.k2409, hM.k2410, hM.k2411, hM.k2412, hM.k2413, hM.k2414, hM.k2415, hM.k2416, hM.k2417, hM.k2418, hM.k2419, hM.k2420, hM.k2421, hM.k2422, hM.k2423, hM.l2391, hM.l2392, hM.l2393, hM.l2394, hM.l2395, hM.l2396, hM.l2397, hM.l2398, hM.l2399, hM.l2400, hM.l2401, hM.l2402, hM.l2403, hM.l2404, hM.l2405, hM.l2406, hM.l2407, hM.l2408, hM.l2409, hM.l2410, hM.l2411, hM.l2412, hM.l2413, hM.l2414, hM.l2415, hM.l2416, hM.l2417, hM.l2418, hM.l2419, hM.l2420, hM.l2421, hM.l2422, hM.l2423, ↓hM.g1, ↓hM.g5, ↓hM.g6, ↓hM.g7, ↓hM.g8, ↓hM.g9, ↓hM.g10, ↓hM.g11, ↓hM.g12, ↓hM.g13, ↓hM.g14, ↓hM.g16, ↓hM.g17, ↓hM.g18, ↓hM.g19, ↓hM.g21, ↓hM.g22, ↓hM.g23, ↓hM.g24, ↓hM.g25, ↓hM.g27, ↓hM.g28, ↓hM.g30, ↓hM.g31, ↓hM.g32, ↓hM.g36, ↓hM.g37, ↓hM.g39, ↓hM.g40, ↓hM.g41, ↓hM.g43, ↓hM.g45, ↓hM.g46, ↓zB_c e270, zB_c e270, hj2, ↓zB_c e289, zB_c e289, ↓zB_c e261, zB_c e261]
        · rw [z_exs_none gs hx]; dsimp only; omega
      | some d =>
        rw [hx] at e289
        have e289 : f289 2390 (nI k) (nI i) (nI q) (nI j) (z_hp S m1) = some (1, z_hp S m2) := e289
        have d1 := b1 d hx
        obtain ⟨p1, p2, p3, p4⟩ := hH.ld hq hlq ho hj2 hx
        have c3 := b2.rL c2
        have c4 := c3.1
        rw [← p2] at c4
        obtain ⟨m3, e3, o3, f3⟩ := f260_sp (S := S) hM o2 (by omega) 7 name (nI d.length)
        obtain ⟨m4, e4, o4, f4⟩ := f260_sp (S := S) hM o3 (by rw [List.length_append]; show _ + 1 < _; omega) 2 0 0
        have F4 := f3.trans f4
        obtain ⟨m5, e5, o5, f5⟩ := f293_55_sp (K := nI k) (I := nI i) (name := name) (n := (z_exs P k i c q name j).2.2) hM hw h60 (F4.xeF.mb h2) (F4.xeF.LT hT2) hq hlq hj2 (F4.xeF.rL c3) (F4.rL4 d1) p2 p1 p4 o4 (by rw [List.length_append, List.length_append]; show _ + 1 + 1 ≤ _; omega)
        have hen := z_en_le hB.1 hj2
        have hgt := z_en_gt hj2
        have hskip : ∀ n, j + 1 + n ≤ z_en (z_bd P q) j → z_exs P k i c q name (j + 1 + n) = z_exs P k i c q name (j + 1) := by
          intro n
          induction n with
          | zero => exact fun _ => rfl
          | succ n ih =>
            intro hn
            rw [← Nat.add_assoc, z_exs_skip (by rw [ih (by omega), z_exs_some gs hx]; show j + 1 + n < z_en (z_bd P q) j; omega), ih (by omega)]
        have es : z_exs P k i c q name (z_en (z_bd P q) j) = z_exs P k i c q name (j + 1) := by
          have := hskip (z_en (z_bd P q) j - (j + 1)) (by omega)
          rw [show j + 1 + (z_en (z_bd P q) j - (j + 1)) = z_en (z_bd P q) j by omega] at this
          exact this
        rw [z_exs_some gs hx] at es
        refine Or.inl ⟨_, m5, (z_bd P q).length - z_en (z_bd P q) j, ?_, by omega, z_en (z_bd P q) j, rfl, hen, ?_, rfl, ?_, ((g2.trans b2.xeF).trans F4.xeF).trans f5.xeF⟩
        · rw [es]
          unfold f293_11b
          simp (disch := ((try simp only [true_or, or_true, hM.k, hM.k2391, hM.k2392, hM.k2393, hM.k2394, hM.k2395, hM.k2396, hM.k2397, hM.k2398, hM.k2399, hM.k2400, hM.k2401, hM.k2402, hM.k2403, hM.k2404, hM.k2405, hM.k2406, hM.k2407, hM.k2408, hM.k2409, hM.k2410, hM.k2411, hM.k2412, hM.k2413, hM.k2414, hM.k2415, hM.k2416, hM.k2417, hM.k2418, hM.k2419, hM.k2420, hM.k2421, hM.k2422, hM.k2423, hM.l2391, hM.l2392, hM.l2393, hM.l2394, hM.l2395, hM.l2396, hM.l2397, hM.l2398, hM.l2399, hM.l2400, hM.l2401, hM.l2402, hM.l2403, hM.l2404, hM.l2405, hM.l2406, hM.l2407, hM.l2408, hM.l2409, hM.l2410, hM.l2411, hM.l2412, hM.l2413, hM.l2414, hM.l2415, hM.l2416, hM.l2417, hM.l2418, hM.l2419, hM.l2420, hM.l2421, hM.l2422, hM.l2423]) <;> (try omega))) only [↓reduceIte, ↓z_ite, ↓zR, ↓zB_R, ↓zB_B, ↓zB_ite, ↓zB_gI, ↓zB_pI, ↓zB_pZ, ↓zB_aK, ↓zB_G, ↓zB_lI, ↓zB_lZ, ↓zB_wI, ↓zB_wZ, ↓zB_lIl, ↓zB_wIl, zB_pI, zB_pZ, zB_lI, zB_lZ, zB_wI, zB_wZ, z_addl, z_ladd, z_mull, z_lmul, nI_add, z_subl, Nat.not_lt_zero, z_10, z_01, z_bitc, z_b0, z_b1, ↓zB_Gb, ↓zB_G0, ↓zB_G1, z_eql, z_leq, z_ltl, z_llt, z_eq, z_lt, z_m1lt, hM.k, hM.k2391, hM.k2392, hM.k2393, hM.k2394, hM.k2395, hM.k2396, hM.k2397, hM.k2398, hM.k2399, hM.k2400, hM.k2401, hM.k2402, hM.k2403, hM.k2404, hM.k2405, hM.k2406, hM.k2407, hM.k2408, hM.k2409, hM.k2410, hM.k2411, hM.k2412, hM.k2413, hM.k2414, hM.k2415, hM.k2416, hM.k2417, hM.k2418, hM.k2419, hM.k2420, hM.k2421, hM.k2422, hM.k2423, hM.l2391, hM.l2392, hM.l2393, hM.l2394, hM.l2395, hM.l2396, hM.l2397, hM.l2398, hM.l2399, hM.l2400, hM.l2401, hM.l2402, hM.l2403, hM.l2404, hM.l2405, hM.l2406, hM.l2407, hM.l2408, hM.l2409, hM.l2410, hM.l2411, hM.l2412, hM.l2413, hM.l2414, hM.l2415, hM.l2416, hM.l2417, hM.l2418, hM.l2419, hM.l2420, hM.l2421, hM.l2422, hM.l2423, ↓hM.g1, ↓hM.g5, ↓hM.g6, ↓hM.g7, ↓hM.g8, ↓hM.g9, ↓hM.g10, ↓hM.g11, ↓hM.g12, ↓hM.g13, ↓hM.g14, ↓hM.g16, ↓hM.g17, ↓hM.g18, ↓hM.g19, ↓hM.g21, ↓hM.g22, ↓hM.g23, ↓hM.g24, ↓hM.g25, ↓hM.g27, ↓hM.g28, ↓hM.g30, ↓hM.g31, ↓hM.g32, ↓hM.g36, ↓hM.g37, ↓hM.g39, ↓hM.g40, ↓hM.g41, ↓hM.g43, ↓hM.g45, ↓hM.g46, ↓zB_c e270, zB_c e270, hj2, ↓zB_c e289, zB_c e289, c4, ↓zB_c e3, zB_c e3, ↓zB_c e4, zB_c e4]
          exact e5
        · rw [es]; exact Nat.le_refl _
        · rw [es]
          dsimp only
          unfold z_exC
          rw [List.append_assoc, List.append_assoc] at o5
          exact o5
end
