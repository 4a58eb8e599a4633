-- deps: 91.00.run 91.01.run2 91.02.run3 91.03.run4 91.04.run5 91.05.run6 91.06.crun 91.07.crun2 91.08.crun3 91.09.crun4 91.10.crun5 91.11.crun6 91.12.crun7 91.13.crun8 91.14.crun9 91.15.crun10 91.16.mrun 91.17.mrun2 91.18.mrun3 91.19.mrun4 91.20.mrun5
/-! a run: the reference's machine, calling -/
section
variable {P : z_Pg} {h h' : y_Qh} {k0 : Nat} {n : Nat} {out : y_V} {a : y_Ac} {s : List y_Ac} {S : z_S} {m : z_m} {b : Nat} {B : Int32}
/-- enter -/
theorem f248_r (hP : y_PG P) (hM : z_MS S) (hB : B = nI b) (hQ : y_QI P k0 (a :: s) h n out) (hG : y_rG m b P) (hC : y_rQ P m (a :: s) h n out) (hk : y_k P h a = 7) (hst : a.2.2.1 = y_p P h a) : ∃ m', f248 2390 B (nI s.length) (nI (y_qm h a.1)) (nI a.2.1) (z_hp S m) = some ((), z_hp S m') ∧ y_rX P m' (if (y_g a.2.2.2 0).1 = 2 then y_ra P s h n out 4 0 else if a.1 + 1 = 20 then (y_up1 a :: s, h, n, 5, 0, out) else y_st (y_up1 a :: s) (y_en h (a.1 + 1) (y_callee P h a) (y_o a.2.2.2) (a.2.2.2[1]?) (a.2.2.2[2]?)) n out (a.1 + 1) 0) ∧ y_rR m m' := by
  have hQ0 := hQ
  have hC0 := hC
  obtain ⟨hn, hx, hCH, hI, h20⟩ := hQ
  obtain ⟨⟨c20, c33, c34, c35⟩, hS, hO, c26, c15, hF⟩ := hC
  obtain ⟨⟨⟨p1, p2, p3⟩, p4, p5, p6⟩, hSs⟩ := hS
  have hw := hP.1.1
  have h24 := hw.2.2.1
  have h6 := hw.1.1
  have hm := hI.1 a.1 (Nat.le_refl _)
  have hBB := hw.2.2.2.2.1 _ hm.1
  have hr := hP.rt _ hm.1 hm.2.1
  have hl60 := hP.1.2 _ hm.1
  have hi : a.2.1 < (z_bd P (y_qm h a.1)).length := hCH.1.1
  have k7 : z_k (z_bd P (y_qm h a.1)) a.2.1 = 7 := hk
  have ev := hG.1.ev (S := S) hM hB hm.1 hi
  have ea := hG.1.ea (S := S) hM hB hm.1 hi
  have n2 : y_ht s + a.2.2.2.length + (s.length + 1) ≤ n := hn.2.1
  have hqn : y_qn h + (s.length + 1) ≤ n + 1 := hn.2.2
  have hrh := y_rh_le P h s
  have hls : s.length < 1400 := by omega
  have hx : a.2.2.2.length = a.2.2.1 := by rw [hx]; unfold y_xc; rw [hk, if_neg (fun y => absurd y.1 (by decide))]
  -- how many are given
  obtain ⟨c, q0, hc, t1, fm0, _, hq0, hiq0, _, _, _, _⟩ := z_call hw hm.1 hr hi k7
  have ct2 : z_cnt P q0 ≤ 2 := (hw.2.2.2.1 q0 hq0).2.2.2.1.1
  obtain ⟨ct, hct, hpc, eac⟩ : ∃ ct, ct ≤ 2 ∧ y_p P h a = ct + 1 ∧ z_a (z_bd P (y_qm h a.1)) a.2.1 = nI ct := by
    have i2 := hiq0
    unfold z_isc at i2
    simp only [Bool.and_eq_true, beq_iff_eq] at i2
    have e3 := z_c3 hw hq0
    refine ⟨z_cnt P q0, ct2, ?_, by rw [← i2.2.2]; exact e3⟩
    show z_pn (z_k (z_bd P (y_qm h a.1)) a.2.1) (z_a (z_bd P (y_qm h a.1)) a.2.1) = _
    rw [k7, ← i2.2.2, e3]
    show 1 + _ = _
    rw [nI_clamp (by omega)]; omega
  have hlen : a.2.2.2.length = ct + 1 := by omega
  have nst : ¬ (y_k P h a = 7 ∧ a.2.2.1 = y_p P h a + 1) := fun q => by omega
  have erv : y_rv P h a = a.2.2.2 := by
    unfold y_rv y_dr
    rw [if_neg (fun q => by rw [hk] at q; rcases q.1 with g | g <;> exact absurd g (by decide)), if_neg nst]; rfl
  have hvals : ∀ j, j < a.2.2.2.length → m 2411 (y_rh P h s + j) = (y_g a.2.2.2 j).1 ∧ m 2412 (y_rh P h s + j) = (y_g a.2.2.2 j).2 := fun j hj => by
    have := p6 j (by rw [erv]; exact hj)
    rw [erv] at this; exact this
  have c26' : m 2390 26 = nI (y_rh P h s + (ct + 1)) := by
    have : m 2390 26 = nI (y_rh P h s + (y_rv P h a).length) := c26
    rw [erv, hlen] at this; exact this
  have c15' : m 2390 15 = nI (a.1 + 1) := by
    rw [c15]; unfold y_rf; rw [if_neg nst]
  generalize hH : y_rh P h s = H at *
  have e1 : nI (H + (ct + 1)) - 1 = nI (H + ct) := z_subl (k := 1) (by omega)
  have e2 : nI (H + ct) - nI ct = nI H := y_nsub
  have hH4 : H < 4000 := by omega
  obtain ⟨w1, w2⟩ := hvals 0 (by omega)
  have w1 : m 2411 H = (y_g a.2.2.2 0).1 := w1
  have w2 : m 2412 H = (y_g a.2.2.2 0).2 := w2
  rw [eac] at ea
  by_cases g2 : (y_g a.2.2.2 0).1 = 2
  · rw [if_pos g2]
    rw [g2] at w1
    obtain ⟨m', e, x1, r1⟩ := f244_top2 (S := S) hP hM hB hQ0 hG (e := 4) (w := 0) (L := 1) (x := 0) (Or.inl ⟨rfl, rfl, rfl⟩) (fun q => absurd q (by decide)) hC0 (by rw [hk]; decide)
    refine ⟨m', ?_, x1, r1⟩
    unfold f248
    simp (disch := ((try simp only [true_or, or_true, hM.k, hM.k2391, hM.k2392, hM.k2393, hM.k2394, hM.k2395, hM.k2396, hM.k2397, hM.k2398, hM.k2399, hM.k2400, hM.k2401, hM.k2402, hM.k2403, hM.k2404, hM.k2405, hM.k2406, hM.k2407, hM.k2408, hM.k2409, hM.k2410, hM.k2411, hM.k2412, hM.k2413, hM.k2414, hM.k2415, hM.k2416, hM.k2417, hM.k2418, hM.k2419, hM.k2420, hM.k2421, hM.k2422, hM.k2423, hM.l2391, hM.l2392, hM.l2393, hM.l2394, hM.l2395, hM.l2396, hM.l2397, hM.l2398, hM.l2399, hM.l2400, hM.l2401, hM.l2402, hM.l2403, hM.l2404, hM.l2405, hM.l2406, hM.l2407, hM.l2408, hM.l2409, hM.l2410, hM.l2411, hM.l2412, hM.l2413, hM.l2414, hM.l2415, hM.l2416, hM.l2417, hM.l2418, hM.l2419, hM.l2420, hM.l2421, hM.l2422, hM.l2423]) <;> (try omega))) only [↓reduceIte, ↓z_ite, ↓zR, ↓zB_R, ↓zB_B, ↓zB_ite, ↓zB_gI, ↓zB_pI, ↓zB_pZ, ↓zB_aK, ↓zB_G, ↓zB_lI, ↓zB_lZ, ↓zB_wI, ↓zB_wZ, ↓zB_lIl, ↓zB_wIl, zB_pI, zB_pZ, zB_lI, zB_lZ, zB_wI, zB_wZ, z_addl, z_ladd, z_mull, z_lmul, nI_add, z_subl, Nat.not_lt_zero, z_10, z_01, z_bitc, z_b0, z_b1, ↓zB_Gb, ↓zB_G0, ↓zB_G1, z_eql, z_leq, z_ltl, z_llt, z_eq, z_lt, z_m1lt, hM.k, hM.k2391, hM.k2392, hM.k2393, hM.k2394, hM.k2395, hM.k2396, hM.k2397, hM.k2398, hM.k2399, hM.k2400, hM.k2401, hM.k2402, hM.k2403, hM.k2404, hM.k2405, hM.k2406, hM.k2407, hM.k2408, hM.k2409, hM.k2410, hM.k2411, hM.k2412, hM.k2413, hM.k2414, hM.k2415, hM.k2416, hM.k2417, hM.k2418, hM.k2419, hM.k2420, hM.k2421, hM.k2422, hM.k2423, hM.l2391, hM.l2392, hM.l2393, hM.l2394, hM.l2395, hM.l2396, hM.l2397, hM.l2398, hM.l2399, hM.l2400, hM.l2401, hM.l2402, hM.l2403, hM.l2404, hM.l2405, hM.l2406, hM.l2407, hM.l2408, hM.l2409, hM.l2410, hM.l2411, hM.l2412, hM.l2413, hM.l2414, hM.l2415, hM.l2416, hM.l2417, hM.l2418, hM.l2419, hM.l2420, hM.l2421, hM.l2422, hM.l2423, ↓hM.g1, ↓hM.g5, ↓hM.g6, ↓hM.g7, ↓hM.g8, ↓hM.g9, ↓hM.g10, ↓hM.g11, ↓hM.g12, ↓hM.g13, ↓hM.g14, ↓hM.g16, ↓hM.g17, ↓hM.g18, ↓hM.g19, ↓hM.g21, ↓hM.g22, ↓hM.g23, ↓hM.g24, ↓hM.g25, ↓hM.g27, ↓hM.g28, ↓hM.g30, ↓hM.g31, ↓hM.g32, ↓hM.g36, ↓hM.g37, ↓hM.g39, ↓hM.g40, ↓hM.g41, ↓hM.g43, ↓hM.g45, ↓hM.g46, ↓zB_c ea, zB_c ea, c26', e1, e2, hH4, w1, ↓zB_c e, zB_c e]
  rw [if_neg g2]
  obtain ⟨o, q, v1, v2, v3, v4, v5, v6, v7⟩ := y_call_q (out := out) hP hQ0 hk hst g2
  rw [v3] at w1 w2
  have w1 : m 2411 H = 1 := w1
  have w2 : m 2412 H = nI o := w2
  by_cases g20 : a.1 + 1 = 20
  · rw [if_pos g20]
    refine ⟨z_up m 2390 34 5, ?_, ⟨z_up_s _ _ _ _, by rw [z_up_b (by decide)]; exact c35, by rw [z_up_b (by decide)]; exact c33, fun q => absurd (show (5 : Int32) = -1 from q) (by decide)⟩, ⟨fun c _ y => z_up_row y, fun j _ _ _ _ _ y _ => z_up_b y⟩⟩
    have c15'' : m 2390 15 = 20 := by rw [c15', g20]; rfl
    unfold f248
    simp (disch := ((try simp only [true_or, or_true, hM.k, hM.k2391, hM.k2392, hM.k2393, hM.k2394, hM.k2395, hM.k2396, hM.k2397, hM.k2398, hM.k2399, hM.k2400, hM.k2401, hM.k2402, hM.k2403, hM.k2404, hM.k2405, hM.k2406, hM.k2407, hM.k2408, hM.k2409, hM.k2410, hM.k2411, hM.k2412, hM.k2413, hM.k2414, hM.k2415, hM.k2416, hM.k2417, hM.k2418, hM.k2419, hM.k2420, hM.k2421, hM.k2422, hM.k2423, hM.l2391, hM.l2392, hM.l2393, hM.l2394, hM.l2395, hM.l2396, hM.l2397, hM.l2398, hM.l2399, hM.l2400, hM.l2401, hM.l2402, hM.l2403, hM.l2404, hM.l2405, hM.l2406, hM.l2407, hM.l2408, hM.l2409, hM.l2410, hM.l2411, hM.l2412, hM.l2413, hM.l2414, hM.l2415, hM.l2416, hM.l2417, hM.l2418, hM.l2419, hM.l2420, hM.l2421, hM.l2422, hM.l2423]) <;> (try omega))) only [↓reduceIte, ↓z_ite, ↓zR, ↓zB_R, ↓zB_B, ↓zB_ite, ↓zB_gI, ↓zB_pI, ↓zB_pZ, ↓zB_aK, ↓zB_G, ↓zB_lI, ↓zB_lZ, ↓zB_wI, ↓zB_wZ, ↓zB_lIl, ↓zB_wIl, zB_pI, zB_pZ, zB_lI, zB_lZ, zB_wI, zB_wZ, z_addl, z_ladd, z_mull, z_lmul, nI_add, z_subl, Nat.not_lt_zero, z_10, z_01, z_bitc, z_b0, z_b1, ↓zB_Gb, ↓zB_G0, ↓zB_G1, z_eql, z_leq, z_ltl, z_llt, z_eq, z_lt, z_m1lt, hM.k, hM.k2391, hM.k2392, hM.k2393, hM.k2394, hM.k2395, hM.k2396, hM.k2397, hM.k2398, hM.k2399, hM.k2400, hM.k2401, hM.k2402, hM.k2403, hM.k2404, hM.k2405, hM.k2406, hM.k2407, hM.k2408, hM.k2409, hM.k2410, hM.k2411, hM.k2412, hM.k2413, hM.k2414, hM.k2415, hM.k2416, hM.k2417, hM.k2418, hM.k2419, hM.k2420, hM.k2421, hM.k2422, hM.k2423, hM.l2391, hM.l2392, hM.l2393, hM.l2394, hM.l2395, hM.l2396, hM.l2397, hM.l2398, hM.l2399, hM.l2400, hM.l2401, hM.l2402, hM.l2403, hM.l2404, hM.l2405, hM.l2406, hM.l2407, hM.l2408, hM.l2409, hM.l2410, hM.l2411, hM.l2412, hM.l2413, hM.l2414, hM.l2415, hM.l2416, hM.l2417, hM.l2418, hM.l2419, hM.l2420, hM.l2421, hM.l2422, hM.l2423, ↓hM.g1, ↓hM.g5, ↓hM.g6, ↓hM.g7, ↓hM.g8, ↓hM.g9, ↓hM.g10, ↓hM.g11, ↓hM.g12, ↓hM.g13, ↓hM.g14, ↓hM.g16, ↓hM.g17, ↓hM.g18, ↓hM.g19, ↓hM.g21, ↓hM.g22, ↓hM.g23, ↓hM.g24, ↓hM.g25, ↓hM.g27, ↓hM.g28, ↓hM.g30, ↓hM.g31, ↓hM.g32, ↓hM.g36, ↓hM.g37, ↓hM.g39, ↓hM.g40, ↓hM.g41, ↓hM.g43, ↓hM.g45, ↓hM.g46, ↓zB_c ea, zB_c ea, c26', e1, e2, hH4, w1, c15'', show ¬ (1 : Int32) = 2 by decide]
  rw [if_neg g20, v1, v5]
  have oc := (hO.2 o v2).1
  have hco := (hI.2.2 o v2).1
  have e214 := f214_sp (S := S) hG.1 hM hw hB hco (y_v P h a) (z_a (y_l P h a) a.2.1)
  rw [v4] at e214
  have e214 : f214 2390 B (nI (y_qc h o)) (z_v (z_bd P (y_qm h a.1)) a.2.1) (z_a (z_bd P (y_qm h a.1)) a.2.1) (z_hp S m) = some (nI q, z_hp S m) := e214
  rw [eac] at e214
  have ho : o < 520 := by omega
  have hf19 : a.1 + 1 < 21 := by omega
  have n20 : ¬ a.1 + 1 = 20 := g20
  generalize hm1 : z_up (z_up (z_up m 2390 15 (nI (a.1 + 2))) 2402 (a.1 + 1) (nI q)) 2403 (a.1 + 1) (nI o) = m1
  have s1 : ∀ c, c ≠ 2390 → c ≠ 2402 → c ≠ 2403 → m1 c = m c := fun c x y z => by rw [← hm1, z_up_row z, z_up_row y, z_up_row x]
  have s90 : ∀ j, j ≠ 15 → m1 2390 j = m 2390 j := fun j x => by rw [← hm1, y_u03, y_u02, z_up_b x]
  have s15 : m1 2390 15 = nI (a.1 + 2) := by rw [← hm1, y_u03, y_u02, z_up_s]
  have s02 : ∀ j, m1 2402 j = if j = a.1 + 1 then nI q else m 2402 j := fun j => by
    rw [← hm1, z_up_row (by decide), z_up_k, z_up_row (by decide)]
  have s03 : ∀ j, m1 2403 j = if j = a.1 + 1 then nI o else m 2403 j := fun j => by
    rw [← hm1, z_up_k, z_up_row (by decide), z_up_row (by decide)]
  have key := f248_126_r (S := S) (m := m1) hM (H := H) (f := a.1 + 1) (ct := ct) (l := s.length) hct hf19 (by omega) (fun m' => y_rX P m' (y_st (y_up1 a :: s) (y_en h (a.1 + 1) q o (a.2.2.2[1]?) (a.2.2.2[2]?)) n out (a.1 + 1) 0) ∧ y_rR m m') ?_
  · obtain ⟨m', e, x1, r1⟩ := key
    refine ⟨m', ?_, x1, r1⟩
    have r12 : z_up (z_up m 2390 15 (nI (a.1 + 2))) 2402 (a.1 + 1) (nI q) 2412 H = nI o := by rw [z_up_row (by decide), z_up_row (by decide)]; exact w2
    unfold f248
    simp (disch := ((try simp only [true_or, or_true, hM.k, hM.k2391, hM.k2392, hM.k2393, hM.k2394, hM.k2395, hM.k2396, hM.k2397, hM.k2398, hM.k2399, hM.k2400, hM.k2401, hM.k2402, hM.k2403, hM.k2404, hM.k2405, hM.k2406, hM.k2407, hM.k2408, hM.k2409, hM.k2410, hM.k2411, hM.k2412, hM.k2413, hM.k2414, hM.k2415, hM.k2416, hM.k2417, hM.k2418, hM.k2419, hM.k2420, hM.k2421, hM.k2422, hM.k2423, hM.l2391, hM.l2392, hM.l2393, hM.l2394, hM.l2395, hM.l2396, hM.l2397, hM.l2398, hM.l2399, hM.l2400, hM.l2401, hM.l2402, hM.l2403, hM.l2404, hM.l2405, hM.l2406, hM.l2407, hM.l2408, hM.l2409, hM.l2410, hM.l2411, hM.l2412, hM.l2413, hM.l2414, hM.l2415, hM.l2416, hM.l2417, hM.l2418, hM.l2419, hM.l2420, hM.l2421, hM.l2422, hM.l2423]) <;> (try omega))) only [↓reduceIte, ↓z_ite, ↓zR, ↓zB_R, ↓zB_B, ↓zB_ite, ↓zB_gI, ↓zB_pI, ↓zB_pZ, ↓zB_aK, ↓zB_G, ↓zB_lI, ↓zB_lZ, ↓zB_wI, ↓zB_wZ, ↓zB_lIl, ↓zB_wIl, zB_pI, zB_pZ, zB_lI, zB_lZ, zB_wI, zB_wZ, z_addl, z_ladd, z_mull, z_lmul, nI_add, z_subl, Nat.not_lt_zero, z_10, z_01, z_bitc, z_b0, z_b1, ↓zB_Gb, ↓zB_G0, ↓zB_G1, z_eql, z_leq, z_ltl, z_llt, z_eq, z_lt, z_m1lt, hM.k, hM.k2391, hM.k2392, hM.k2393, hM.k2394, hM.k2395, hM.k2396, hM.k2397, hM.k2398, hM.k2399, hM.k2400, hM.k2401, hM.k2402, hM.k2403, hM.k2404, hM.k2405, hM.k2406, hM.k2407, hM.k2408, hM.k2409, hM.k2410, hM.k2411, hM.k2412, hM.k2413, hM.k2414, hM.k2415, hM.k2416, hM.k2417, hM.k2418, hM.k2419, hM.k2420, hM.k2421, hM.k2422, hM.k2423, hM.l2391, hM.l2392, hM.l2393, hM.l2394, hM.l2395, hM.l2396, hM.l2397, hM.l2398, hM.l2399, hM.l2400, hM.l2401, hM.l2402, hM.l2403, hM.l2404, hM.l2405, hM.l2406, hM.l2407, hM.l2408, hM.l2409, hM.l2410, hM.l2411, hM.l2412, hM.l2413, hM.l2414, hM.l2415, hM.l2416, hM.l2417, hM.l2418, hM.l2419, hM.l2420, hM.l2421, hM.l2422, hM.l2423, ↓hM.g1, ↓hM.g5, ↓hM.g6, ↓hM.g7, ↓hM.g8, ↓hM.g9, ↓hM.g10, ↓hM.g11, ↓hM.g12, ↓hM.g13, ↓hM.g14, ↓hM.g16, ↓hM.g17, ↓hM.g18, ↓hM.g19, ↓hM.g21, ↓hM.g22, ↓hM.g23, ↓hM.g24, ↓hM.g25, ↓hM.g27, ↓hM.g28, ↓hM.g30, ↓hM.g31, ↓hM.g32, ↓hM.g36, ↓hM.g37, ↓hM.g39, ↓hM.g40, ↓hM.g41, ↓hM.g43, ↓hM.g45, ↓hM.g46, ↓zB_c ea, zB_c ea, c26', e1, e2, hH4, w1, w2, c15', ho, oc, ↓zB_c ev, zB_c ev, ↓zB_c e214, zB_c e214, hf19, n20, r12, hm1, e, show ¬ (1 : Int32) = 2 by decide]
  · intro m2 g1 g2' g3
    generalize hh' : y_en h (a.1 + 1) q o (a.2.2.2[1]?) (a.2.2.2[2]?) = h'
    have em : ∀ f, y_qm h' f = if f = a.1 + 1 then q else y_qm h f := fun f => by rw [← hh']; rfl
    have eo : ∀ f, y_qo h' f = if f = a.1 + 1 then o else y_qo h f := fun f => by rw [← hh']; rfl
    have el : ∀ f s, y_ql h' f s = if f = a.1 + 1 then (if s = 1 then a.2.2.2[1]? else if s = 0 then a.2.2.2[2]? else none) else y_ql h f s := fun f s => by rw [← hh']; rfl
    have eq1 : y_qm h' a.1 = y_qm h a.1 := by rw [em, if_neg (by omega)]
    have ek : y_k P h' a = y_k P h a := y_k_eq (P := P) (a := a) (a' := a) rfl eq1 rfl
    have ep : y_p P h' a = y_p P h a := y_p_eq (P := P) (a := a) (a' := a) rfl eq1 rfl
    have hff := y_CH_f hCH
    have hsq : ∀ b ∈ s, y_qm h' b.1 = y_qm h b.1 := fun b hb => by
      have := hff b (List.mem_cons_of_mem _ hb)
      rw [em, if_neg (by omega)]
    have erh : y_rh P h' s = H := by rw [y_rh_eq hsq]; exact hH
    have erv' : y_rv P h' (y_up1 a) = [] := by
      have e : y_rv P h' (y_up1 a) = a.2.2.2.drop (y_dr (y_k P h' a) (y_p P h' a) (a.2.2.1 + 1)) := rfl
      rw [e, ek, ep]
      have : y_dr (y_k P h a) (y_p P h a) (a.2.2.1 + 1) = y_p P h a := by
        unfold y_dr
        rw [if_neg (fun q => by rw [hk] at q; rcases q.1 with g | g <;> exact absurd g (by decide)), if_pos ⟨hk, by omega⟩]
      rw [this]
      exact List.drop_eq_nil_of_le (by omega)
    generalize hm3 : z_up (z_up m2 2390 26 (nI H)) 2408 s.length (nI (a.2.2.1 + 1)) = m3
    have u1 : ∀ c, c ≠ 2390 → c ≠ 2408 → m3 c = m2 c := fun c x y => by rw [← hm3, z_up_row y, z_up_row x]
    have u90 : ∀ j, j ≠ 26 → m3 2390 j = m2 2390 j := fun j x => by rw [← hm3, y_u08, z_up_b x]
    have u26 : m3 2390 26 = nI H := by rw [← hm3, y_u08, z_up_s]
    have u08 : ∀ j, m3 2408 j = if j = s.length then nI (a.2.2.1 + 1) else m2 2408 j := fun j => by
      rw [← hm3, z_up_k, z_up_row (by decide)]
    have t1' : ∀ c, c ≠ 2390 → c ≠ 2402 → c ≠ 2403 → c ≠ 2404 → c ≠ 2405 → c ≠ 2408 → m3 c = m c := fun c x1 x2 x3 x4 x5 x6 => by
      rw [u1 c x1 x6, g1 c x4 x5, s1 c x1 x2 x3]
    have t90 : ∀ j, j ≠ 15 → j ≠ 26 → m3 2390 j = m 2390 j := fun j x y => by
      rw [u90 j y, g1 2390 (by decide) (by decide), s90 j x]
    have t08 : ∀ j, j ≠ s.length → m3 2408 j = m 2408 j := fun j x => by
      rw [u08, if_neg x, g1 2408 (by decide) (by decide), s1 2408 (by decide) (by decide) (by decide)]
    have hgj : ∀ j v, a.2.2.2[j]? = some v → j < a.2.2.2.length ∧ y_g a.2.2.2 j = v := fun j v hj => by
      have := (List.getElem?_eq_some_iff.mp hj).1
      refine ⟨this, ?_⟩
      unfold y_g
      rw [List.getD_eq_getElem?_getD, hj]; rfl
    have hR3 : y_rR m m3 := ⟨fun c x y => t1' c y (by omega) (by omega) (by omega) (by omega) (by omega), fun j x _ y _ _ _ _ => t90 j x y⟩
    have hP3 : y_rP P m3 (y_up1 a :: s) h' n (a.1 + 1) := by
      refine ⟨⟨by rw [t90 20 (by decide) (by decide)]; exact c20, by rw [t90 33 (by decide) (by decide)]; exact c33, by rw [t90 34 (by decide) (by decide)]; exact c34, by rw [t90 35 (by decide) (by decide)]; exact c35⟩, ⟨⟨⟨by rw [t1' 2406 (by decide) (by decide) (by decide) (by decide) (by decide) (by decide)]; exact p1, by rw [t1' 2407 (by decide) (by decide) (by decide) (by decide) (by decide) (by decide)]; exact p2, ?_⟩, fun _ y => ?_, by rw [t1' 2410 (by decide) (by decide) (by decide) (by decide) (by decide) (by decide), erh]; exact p5, fun j hj => ?_⟩, ?_⟩, ?_, ?_, ?_, fun f hf => ?_⟩
      · rw [u08, if_pos rfl]
        show nI (a.2.2.1 + 1) = nI (y_rst (y_k P h' a) (a.2.2.1 + 1))
        rw [ek, hk]; rfl
      · exfalso
        have y : a.2.2.1 + 1 < y_p P h' a := y
        rw [ep] at y; omega
      · rw [erv'] at hj; exact absurd hj (Nat.not_lt_zero _)
      · refine y_rS_fr hsq (fun c x y j hj => ?_) (fun c hc j _ => by rw [t1' c (by omega) (by omega) (by omega) (by omega) (by omega) (by omega)]) hSs
        by_cases g : c = 2408
        · subst g; exact t08 j (by omega)
        · rw [t1' c (by omega) (by omega) (by omega) (by omega) (by omega) g]
      · have := y_rO_fr (t90 29 (by decide) (by decide)) (fun c x y => t1' c (by omega) (by omega) (by omega) (by omega) (by omega) (by omega)) hO
        rw [← hh']
        exact this
      · rw [u26]
        show nI H = nI (y_rh P h' s + (y_rv P h' (y_up1 a)).length)
        rw [erv', erh]; rfl
      · rw [u90 15 (by decide), g1 2390 (by decide) (by decide)]; exact s15
      · rw [em, eo, u1 2402 (by decide) (by decide), u1 2403 (by decide) (by decide), u1 2404 (by decide) (by decide), u1 2405 (by decide) (by decide), g1 2402 (by decide) (by decide), g1 2403 (by decide) (by decide), s02, s03]
        by_cases gf : f = a.1 + 1
        · rw [if_pos gf, if_pos gf, if_pos gf, if_pos gf]
          refine ⟨rfl, rfl, fun t v ht hv => ?_⟩
          rw [el, if_pos gf] at hv
          have got : ∀ k, a.2.2.2[k + 1]? = some v → k < ct ∧ m2 2404 (194 * f + 192 + k) = v.1 ∧ m2 2405 (194 * f + 192 + k) = v.2 := fun k hkv => by
            obtain ⟨b1, b2⟩ := hgj _ _ hkv
            have hkc : k < ct := by omega
            obtain ⟨x1, x2⟩ := g3 k hkc
            obtain ⟨y1, y2⟩ := hvals (k + 1) b1
            rw [s1 2411 (by decide) (by decide) (by decide), show H + 1 + k = H + (k + 1) by omega, y1, b2] at x1
            rw [s1 2412 (by decide) (by decide) (by decide), show H + 1 + k = H + (k + 1) by omega, y2, b2] at x2
            rw [gf]
            exact ⟨hkc, x1, x2⟩
          by_cases t1 : t = 1
          · rw [if_pos t1] at hv
            rw [t1]; exact (got 0 hv).2
          · rw [if_neg t1] at hv
            by_cases t0 : t = 0
            · rw [if_pos t0] at hv
              rw [t0]; exact (got 1 hv).2
            · rw [if_neg t0] at hv; cases hv
        · rw [if_neg gf, if_neg gf, if_neg gf, if_neg gf]
          obtain ⟨x1, x2, x3⟩ := hF f (by omega)
          refine ⟨x1, x2, fun t v ht hv => ?_⟩
          rw [el, if_neg gf] at hv
          have := x3 t v ht hv
          have hsr := y_sr_lt ht
          rw [g2' 2404 (Or.inl rfl) _ (Or.inl (by omega)), g2' 2405 (Or.inr rfl) _ (Or.inl (by omega)), s1 2404 (by decide) (by decide) (by decide), s1 2405 (by decide) (by decide) (by decide)]
          exact this
    obtain ⟨m4, e243, x4, r4⟩ := f243_r (out := out) hM hP3 (by show s.length + 1 ≤ 500; omega) hn.1 0
    have e243 : f243 2390 0 (nI (a.1 + 1)) (z_hp S m3) = some ((), z_hp S m4) := e243
    refine ⟨m4, ?_, x4, hR3.trans r4⟩
    have r08 : z_up m2 2390 26 (nI H) 2408 s.length = nI a.2.2.1 := by
      rw [z_up_row (by decide), g1 2408 (by decide) (by decide), s1 2408 (by decide) (by decide) (by decide), p3]
      unfold y_rst
      rw [if_neg (fun q => by rw [hk] at q; exact absurd q.1 (by decide))]
    unfold f248_189
    simp (disch := ((try simp only [true_or, or_true, hM.k, hM.k2391, hM.k2392, hM.k2393, hM.k2394, hM.k2395, hM.k2396, hM.k2397, hM.k2398, hM.k2399, hM.k2400, hM.k2401, hM.k2402, hM.k2403, hM.k2404, hM.k2405, hM.k2406, hM.k2407, hM.k2408, hM.k2409, hM.k2410, hM.k2411, hM.k2412, hM.k2413, hM.k2414, hM.k2415, hM.k2416, hM.k2417, hM.k2418, hM.k2419, hM.k2420, hM.k2421, hM.k2422, hM.k2423, hM.l2391, hM.l2392, hM.l2393, hM.l2394, hM.l2395, hM.l2396, hM.l2397, hM.l2398, hM.l2399, hM.l2400, hM.l2401, hM.l2402, hM.l2403, hM.l2404, hM.l2405, hM.l2406, hM.l2407, hM.l2408, hM.l2409, hM.l2410, hM.l2411, hM.l2412, hM.l2413, hM.l2414, hM.l2415, hM.l2416, hM.l2417, hM.l2418, hM.l2419, hM.l2420, hM.l2421, hM.l2422, hM.l2423]) <;> (try omega))) only [↓reduceIte, ↓z_ite, ↓zR, ↓zB_R, ↓zB_B, ↓zB_ite, ↓zB_gI, ↓zB_pI, ↓zB_pZ, ↓zB_aK, ↓zB_G, ↓zB_lI, ↓zB_lZ, ↓zB_wI, ↓zB_wZ, ↓zB_lIl, ↓zB_wIl, zB_pI, zB_pZ, zB_lI, zB_lZ, zB_wI, zB_wZ, z_addl, z_ladd, z_mull, z_lmul, nI_add, z_subl, Nat.not_lt_zero, z_10, z_01, z_bitc, z_b0, z_b1, ↓zB_Gb, ↓zB_G0, ↓zB_G1, z_eql, z_leq, z_ltl, z_llt, z_eq, z_lt, z_m1lt, hM.k, hM.k2391, hM.k2392, hM.k2393, hM.k2394, hM.k2395, hM.k2396, hM.k2397, hM.k2398, hM.k2399, hM.k2400, hM.k2401, hM.k2402, hM.k2403, hM.k2404, hM.k2405, hM.k2406, hM.k2407, hM.k2408, hM.k2409, hM.k2410, hM.k2411, hM.k2412, hM.k2413, hM.k2414, hM.k2415, hM.k2416, hM.k2417, hM.k2418, hM.k2419, hM.k2420, hM.k2421, hM.k2422, hM.k2423, hM.l2391, hM.l2392, hM.l2393, hM.l2394, hM.l2395, hM.l2396, hM.l2397, hM.l2398, hM.l2399, hM.l2400, hM.l2401, hM.l2402, hM.l2403, hM.l2404, hM.l2405, hM.l2406, hM.l2407, hM.l2408, hM.l2409, hM.l2410, hM.l2411, hM.l2412, hM.l2413, hM.l2414, hM.l2415, hM.l2416, hM.l2417, hM.l2418, hM.l2419, hM.l2420, hM.l2421, hM.l2422, hM.l2423, ↓hM.g1, ↓hM.g5, ↓hM.g6, ↓hM.g7, ↓hM.g8, ↓hM.g9, ↓hM.g10, ↓hM.g11, ↓hM.g12, ↓hM.g13, ↓hM.g14, ↓hM.g16, ↓hM.g17, ↓hM.g18, ↓hM.g19, ↓hM.g21, ↓hM.g22, ↓hM.g23, ↓hM.g24, ↓hM.g25, ↓hM.g27, ↓hM.g28, ↓hM.g30, ↓hM.g31, ↓hM.g32, ↓hM.g36, ↓hM.g37, ↓hM.g39, ↓hM.g40, ↓hM.g41, ↓hM.g43, ↓hM.g45, ↓hM.g46, hls, r08, hm3, ↓zB_c e243, zB_c e243]
end
