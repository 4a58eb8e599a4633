-- deps: 91.00.run 91.01.run2 91.02.run3 91.03.run4 91.04.run5 91.05.run6 91.06.crun 91.07.crun2 91.08.crun3 91.09.crun4 91.10.crun5 91.11.crun6 91.12.crun7 91.13.crun8 91.14.crun9 91.15.crun10 91.16.mrun 91.17.mrun2
/-! a run: the reference's machine, what is found -/
section
variable {P : z_Pg} {h h' : y_Qh} {k0 : Nat} {n : Nat} {out : y_V} {a : y_Ac} {s : List y_Ac} {S : z_S} {m : z_m} {b : Nat} {B : Int32}
/-- next -/
theorem f245_r (hP : y_PG P) (hM : z_MS S) (hG : y_rG m b P) (hI : y_HI P h a.1) (h20 : a.1 < 20) (hi : a.2.1 < (y_l P h a).length) (hl : s.length + 1 ≤ 500) (hn : n ≤ 500) (c20 : m 2390 20 = nI (s.length + 1)) (c33 : m 2390 33 = nI n) (c34 : m 2390 34 = -1) (c35 : m 2390 35 = 0) (hS : y_rS P h m s) (hO : y_rO m h) (hF : y_rF m h a.1) (p1 : m 2406 s.length = nI a.1) (p2 : m 2407 s.length = nI a.2.1) (p3 : m 2408 s.length = nI a.2.2.1) (p4 : m 2409 s.length = nI (y_pt P h a a.2.2.1)) (p5 : m 2410 s.length = nI (y_rh P h s)) (p6 : ∀ j, j < (y_rv P h (y_up1 a)).length → m 2411 (y_rh P h s + j) = (y_g (y_rv P h (y_up1 a)) j).1 ∧ m 2412 (y_rh P h s + j) = (y_g (y_rv P h (y_up1 a)) j).2) (c26 : m 2390 26 = nI (y_rh P h s + (y_rv P h (y_up1 a)).length)) (c15 : m 2390 15 = nI (a.1 + 1)) (k10 : ¬ y_k P h a = 10 ∨ a.2.2.1 = 0) (hst : a.2.2.1 < y_p P h a) : ∃ m', f245 2390 (nI s.length) (z_hp S m) = some ((), z_hp S m') ∧ y_rX P m' (y_st (y_up1 a :: s) h n out a.1 (y_pt P h a a.2.2.1)) ∧ y_rR m m' := by
  have hw := hP.1.1
  have h24 := hw.2.2.1
  have hmm := hI.1 a.1 (Nat.le_refl _)
  have hBB := hw.2.2.2.2.1 _ hmm.1
  have hl60 := hP.1.2 _ hmm.1
  have hi : a.2.1 < (z_bd P (y_qm h a.1)).length := hi
  have hlt : y_pt P h a a.2.2.1 < (z_bd P (y_qm h a.1)).length := z_pt_lt hBB.1 hi hst
  have f02 := (hF a.1 (Nat.le_refl _)).1
  have hT := hG.2 _ hmm.1 hmm.2.1
  have esz := (hT _ hlt).1
  have hls : s.length < 1400 := by omega
  have h21 : a.1 < 21 := by omega
  have hix : 192 * y_qm h a.1 + y_pt P h a a.2.2.1 < 4608 := by omega
  have ept : nI (y_pt P h a a.2.2.1) + nI (z_sz (z_bd P (y_qm h a.1)) (y_pt P h a a.2.2.1)) = nI (y_pt P h a (a.2.2.1 + 1)) := by
    rw [nI_add]
    have : y_pt P h a (a.2.2.1 + 1) = z_en (z_bd P (y_qm h a.1)) (y_pt P h a a.2.2.1) := z_pt_s _ _ _
    rw [this]; rfl
  generalize hm3 : z_up (z_up m 2408 s.length (nI (a.2.2.1 + 1))) 2409 s.length (nI (y_pt P h a (a.2.2.1 + 1))) = m3
  have fr3 : ∀ a, a ≠ 2408 → a ≠ 2409 → m3 a = m a := fun a x y => by rw [← hm3, z_up_row y, z_up_row x]
  have fr38 : ∀ j, j ≠ s.length → m3 2408 j = m 2408 j ∧ m3 2409 j = m 2409 j := fun j x => by
    rw [← hm3, z_up_row (by decide), z_up_b x, z_up_b x, z_up_row (by decide)]; exact ⟨rfl, rfl⟩
  have hR3 : y_rR m m3 := ⟨fun a x y => fr3 a (by omega) (by omega), fun j _ _ _ _ _ _ _ => by rw [fr3 2390 (by decide) (by decide)]⟩
  have rst1 : y_rst (y_k P h a) (a.2.2.1 + 1) = a.2.2.1 + 1 := by
    unfold y_rst
    rw [if_neg]
    rintro ⟨g1, g2⟩
    rcases k10 with g | g
    · exact g g1
    · omega
  have hP3 : y_rP P m3 (y_up1 a :: s) h n a.1 := by
    refine ⟨⟨by rw [fr3 2390 (by decide) (by decide)]; exact c20, by rw [fr3 2390 (by decide) (by decide)]; exact c33, by rw [fr3 2390 (by decide) (by decide)]; exact c34, by rw [fr3 2390 (by decide) (by decide)]; exact c35⟩, ⟨⟨⟨by rw [fr3 2406 (by decide) (by decide)]; exact p1, by rw [fr3 2407 (by decide) (by decide)]; exact p2, ?_⟩, fun _ _ => ?_, by rw [fr3 2410 (by decide) (by decide)]; exact p5, fun j hj => by rw [fr3 2411 (by decide) (by decide), fr3 2412 (by decide) (by decide)]; exact p6 j hj⟩, ?_⟩, y_rO_fr (by rw [fr3 2390 (by decide) (by decide)]) (fun a x y => fr3 a (by omega) (by omega)) hO, by rw [fr3 2390 (by decide) (by decide)]; exact c26, by rw [fr3 2390 (by decide) (by decide)]; exact c15, y_rF_fr (fun a x y => fr3 a (by omega) (by omega)) hF⟩
    · rw [← hm3, z_up_row (by decide), z_up_s]
      show nI (a.2.2.1 + 1) = nI (y_rst (y_k P h a) (a.2.2.1 + 1))
      rw [rst1]
    · rw [← hm3, z_up_s]; rfl
    · exact y_rS_fr (fun _ _ => rfl) (fun c x y j hj => by
        by_cases g : c = 2408
        · subst g; exact (fr38 j (by omega)).1
        · by_cases g' : c = 2409
          · subst g'; exact (fr38 j (by omega)).2
          · rw [fr3 c g g']) (fun c hc j _ => by rw [fr3 c (by omega) (by omega)]) hS
  obtain ⟨m4, e243, x4, r4⟩ := f243_r (out := out) hM hP3 hl hn (y_pt P h a a.2.2.1)
  refine ⟨m4, ?_, x4, hR3.trans r4⟩
  have q1 : z_up m 2408 s.length (nI (a.2.2.1 + 1)) 2397 (192 * y_qm h a.1 + y_pt P h a a.2.2.1) = nI (z_sz (z_bd P (y_qm h a.1)) (y_pt P h a a.2.2.1)) := by rw [z_up_row (by decide)]; exact esz
  have q2 : m3 2406 s.length = nI a.1 := by rw [fr3 2406 (by decide) (by decide)]; exact p1
  unfold f245
  simp (disch := ((try simp only [true_or, or_true, hM.k, hM.k2391, hM.k2392, hM.k2393, hM.k2394, hM.k2395, hM.k2396, hM.k2397, hM.k2398, hM.k2399, hM.k2400, hM.k2401, hM.k2402, hM.k2403, hM.k2404, hM.k2405, hM.k2406, hM.k2407, hM.k2408, hM.k2409, hM.k2410, hM.k2411, hM.k2412, hM.k2413, hM.k2414, hM.k2415, hM.k2416, hM.k2417, hM.k2418, hM.k2419, hM.k2420, hM.k2421, hM.k2422, hM.k2423, hM.l2391, hM.l2392, hM.l2393, hM.l2394, hM.l2395, hM.l2396, hM.l2397, hM.l2398, hM.l2399, hM.l2400, hM.l2401, hM.l2402, hM.l2403, hM.l2404, hM.l2405, hM.l2406, hM.l2407, hM.l2408, hM.l2409, hM.l2410, hM.l2411, hM.l2412, hM.l2413, hM.l2414, hM.l2415, hM.l2416, hM.l2417, hM.l2418, hM.l2419, hM.l2420, hM.l2421, hM.l2422, hM.l2423]) <;> (try omega))) only [↓reduceIte, ↓z_ite, ↓zR, ↓zB_R, ↓zB_B, ↓zB_ite, ↓zB_gI, ↓zB_pI, ↓zB_pZ, ↓zB_aK, ↓zB_G, ↓zB_lI, ↓zB_lZ, ↓zB_wI, ↓zB_wZ, ↓zB_lIl, ↓zB_wIl, zB_pI, zB_pZ, zB_lI, zB_lZ, zB_wI, zB_wZ, z_addl, z_ladd, z_mull, z_lmul, nI_add, z_subl, Nat.not_lt_zero, z_10, z_01, z_bitc, z_b0, z_b1, ↓zB_Gb, ↓zB_G0, ↓zB_G1, z_eql, z_leq, z_ltl, z_llt, z_eq, z_lt, z_m1lt, hM.k, hM.k2391, hM.k2392, hM.k2393, hM.k2394, hM.k2395, hM.k2396, hM.k2397, hM.k2398, hM.k2399, hM.k2400, hM.k2401, hM.k2402, hM.k2403, hM.k2404, hM.k2405, hM.k2406, hM.k2407, hM.k2408, hM.k2409, hM.k2410, hM.k2411, hM.k2412, hM.k2413, hM.k2414, hM.k2415, hM.k2416, hM.k2417, hM.k2418, hM.k2419, hM.k2420, hM.k2421, hM.k2422, hM.k2423, hM.l2391, hM.l2392, hM.l2393, hM.l2394, hM.l2395, hM.l2396, hM.l2397, hM.l2398, hM.l2399, hM.l2400, hM.l2401, hM.l2402, hM.l2403, hM.l2404, hM.l2405, hM.l2406, hM.l2407, hM.l2408, hM.l2409, hM.l2410, hM.l2411, hM.l2412, hM.l2413, hM.l2414, hM.l2415, hM.l2416, hM.l2417, hM.l2418, hM.l2419, hM.l2420, hM.l2421, hM.l2422, hM.l2423, ↓hM.g1, ↓hM.g5, ↓hM.g6, ↓hM.g7, ↓hM.g8, ↓hM.g9, ↓hM.g10, ↓hM.g11, ↓hM.g12, ↓hM.g13, ↓hM.g14, ↓hM.g16, ↓hM.g17, ↓hM.g18, ↓hM.g19, ↓hM.g21, ↓hM.g22, ↓hM.g23, ↓hM.g24, ↓hM.g25, ↓hM.g27, ↓hM.g28, ↓hM.g30, ↓hM.g31, ↓hM.g32, ↓hM.g36, ↓hM.g37, ↓hM.g39, ↓hM.g40, ↓hM.g41, ↓hM.g43, ↓hM.g45, ↓hM.g46, hls, p1, h21, f02, p4, p3, hix, q1, ept, hm3, q2, ↓zB_c e243, zB_c e243]
/-- all that a value needs -/
theorem y_rfin (hQ : y_QI P k0 (a :: s) h n out) (hC : y_rQ P m (a :: s) h n out) {m' : z_m} (hqm : ∀ f, f ≤ a.1 → y_qm h' f = y_qm h f) (c20 : m' 2390 20 = nI s.length) (c3 : ∀ j, j = 33 ∨ j = 34 ∨ j = 35 → m' 2390 j = m 2390 j) (c15 : m' 2390 15 = nI (a.1 + 1)) (c26 : m' 2390 26 = nI (y_rh P h s + 1)) {v : y_V} (hv : m' 2411 (y_rh P h s) = v.1 ∧ m' 2412 (y_rh P h s) = v.2) (f1 : ∀ c, 2406 ≤ c → c ≤ 2410 → ∀ j, j < s.length → m' c j = m c j) (f2 : ∀ c, c = 2411 ∨ c = 2412 → ∀ j, j < y_rh P h s → m' c j = m c j) (hO : y_rO m' h') (hF : y_rF m' h' a.1) : y_rX P m' (y_fin s h' n out v) := by
  obtain ⟨_, _, hCH, _, _⟩ := hQ
  obtain ⟨⟨_, c33, c34, c35⟩, hS, _, _⟩ := hC
  have hf := y_CH_f hCH
  exact y_rpush hCH (fun b hb => hqm b.1 (hf b (List.mem_cons_of_mem _ hb))) c20 (by rw [c3 33 (by decide)]; exact c33) (by rw [c3 34 (by decide)]; exact c34) (by rw [c3 35 (by decide)]; exact c35) c26 c15 hv (y_rS_fr (fun _ _ => rfl) f1 f2 hS.2) hO (fun b s' hs f hfb => hF f (by
    have := hf b (by rw [hs]; exact List.mem_cons_of_mem _ List.mem_cons_self)
    omega))
/-- push -/
theorem f242_r (hM : z_MS S) {H : Nat} (c26 : m 2390 26 = nI H) (hH : H < 4000) (K v : Int32) : f242 2390 K v (z_hp S m) = some ((), z_hp S (z_up (z_up (z_up m 2411 H K) 2412 H v) 2390 26 (nI (H + 1)))) := by
  unfold f242
  simp (disch := ((try simp only [true_or, or_true, hM.k, hM.k2391, hM.k2392, hM.k2393, hM.k2394, hM.k2395, hM.k2396, hM.k2397, hM.k2398, hM.k2399, hM.k2400, hM.k2401, hM.k2402, hM.k2403, hM.k2404, hM.k2405, hM.k2406, hM.k2407, hM.k2408, hM.k2409, hM.k2410, hM.k2411, hM.k2412, hM.k2413, hM.k2414, hM.k2415, hM.k2416, hM.k2417, hM.k2418, hM.k2419, hM.k2420, hM.k2421, hM.k2422, hM.k2423, hM.l2391, hM.l2392, hM.l2393, hM.l2394, hM.l2395, hM.l2396, hM.l2397, hM.l2398, hM.l2399, hM.l2400, hM.l2401, hM.l2402, hM.l2403, hM.l2404, hM.l2405, hM.l2406, hM.l2407, hM.l2408, hM.l2409, hM.l2410, hM.l2411, hM.l2412, hM.l2413, hM.l2414, hM.l2415, hM.l2416, hM.l2417, hM.l2418, hM.l2419, hM.l2420, hM.l2421, hM.l2422, hM.l2423]) <;> (try omega))) only [↓reduceIte, ↓z_ite, ↓zR, ↓zB_R, ↓zB_B, ↓zB_ite, ↓zB_gI, ↓zB_pI, ↓zB_pZ, ↓zB_aK, ↓zB_G, ↓zB_lI, ↓zB_lZ, ↓zB_wI, ↓zB_wZ, ↓zB_lIl, ↓zB_wIl, zB_pI, zB_pZ, zB_lI, zB_lZ, zB_wI, zB_wZ, z_addl, z_ladd, z_mull, z_lmul, nI_add, z_subl, Nat.not_lt_zero, z_10, z_01, z_bitc, z_b0, z_b1, ↓zB_Gb, ↓zB_G0, ↓zB_G1, z_eql, z_leq, z_ltl, z_llt, z_eq, z_lt, z_m1lt, hM.k, hM.k2391, hM.k2392, hM.k2393, hM.k2394, hM.k2395, hM.k2396, hM.k2397, hM.k2398, hM.k2399, hM.k2400, hM.k2401, hM.k2402, hM.k2403, hM.k2404, hM.k2405, hM.k2406, hM.k2407, hM.k2408, hM.k2409, hM.k2410, hM.k2411, hM.k2412, hM.k2413, hM.k2414, hM.k2415, hM.k2416, hM.k2417, hM.k2418, hM.k2419, hM.k2420, hM.k2421, hM.k2422, hM.k2423, hM.l2391, hM.l2392, hM.l2393, hM.l2394, hM.l2395, hM.l2396, hM.l2397, hM.l2398, hM.l2399, hM.l2400, hM.l2401, hM.l2402, hM.l2403, hM.l2404, hM.l2405, hM.l2406, hM.l2407, hM.l2408, hM.l2409, hM.l2410, hM.l2411, hM.l2412, hM.l2413, hM.l2414, hM.l2415, hM.l2416, hM.l2417, hM.l2418, hM.l2419, hM.l2420, hM.l2421, hM.l2422, hM.l2423, ↓hM.g1, ↓hM.g5, ↓hM.g6, ↓hM.g7, ↓hM.g8, ↓hM.g9, ↓hM.g10, ↓hM.g11, ↓hM.g12, ↓hM.g13, ↓hM.g14, ↓hM.g16, ↓hM.g17, ↓hM.g18, ↓hM.g19, ↓hM.g21, ↓hM.g22, ↓hM.g23, ↓hM.g24, ↓hM.g25, ↓hM.g27, ↓hM.g28, ↓hM.g30, ↓hM.g31, ↓hM.g32, ↓hM.g36, ↓hM.g37, ↓hM.g39, ↓hM.g40, ↓hM.g41, ↓hM.g43, ↓hM.g45, ↓hM.g46, c26, hH, y_u11, y_u12]
/-- push, when what is being found is over -/
theorem f242_fin (hM : z_MS S) (hQ : y_QI P k0 (a :: s) h n out) (hC : y_rQ P m (a :: s) h n out) {m1 : z_m} (hqm : ∀ f, f ≤ a.1 → y_qm h' f = y_qm h f) (c20 : m1 2390 20 = nI s.length) (c3 : ∀ j, j = 33 ∨ j = 34 ∨ j = 35 → m1 2390 j = m 2390 j) (c15 : m1 2390 15 = nI (a.1 + 1)) (c26 : m1 2390 26 = nI (y_rh P h s)) (hh : y_rh P h s < 4000) (f1 : ∀ c, 2406 ≤ c → c ≤ 2412 → m1 c = m c) (hO : y_rO m1 h') (hF : y_rF m1 h' a.1) (hR : y_rR m m1) (v : y_V) : ∃ m', f242 2390 v.1 v.2 (z_hp S m1) = some ((), z_hp S m') ∧ y_rX P m' (y_fin s h' n out v) ∧ y_rR m m' := by
  refine ⟨_, f242_r (S := S) hM c26 hh v.1 v.2, ?_, hR.trans ⟨fun c _ y => by rw [z_up_row y, z_up_row (by omega), z_up_row (by omega)], fun j _ _ x _ _ _ _ => by rw [z_up_b x, y_u12, y_u11]⟩⟩
  refine y_rfin hQ hC hqm (by rw [z_up_b (by decide), y_u12, y_u11]; exact c20) (fun j hj => by rw [z_up_b (by omega), y_u12, y_u11]; exact c3 j hj) (by rw [z_up_b (by decide), y_u12, y_u11]; exact c15) (z_up_s _ _ _ _) ?_ (fun c x y j _ => by rw [z_up_row (by omega), z_up_row (by omega), z_up_row (by omega), f1 c x (by omega)]) (fun c hc j hj => ?_) (y_rO_fr (by rw [z_up_b (by decide), y_u12, y_u11]) (fun c x y => by rw [z_up_row (by omega), z_up_row (by omega), z_up_row (by omega)]) hO) (y_rF_fr (fun c x y => by rw [z_up_row (by omega), z_up_row (by omega), z_up_row (by omega)]) hF)
  · exact ⟨by rw [z_up_row (by decide), z_up_row (by decide), z_up_s], by rw [z_up_row (by decide), z_up_s]⟩
  · rcases hc with rfl | rfl
    · rw [z_up_row (by decide), z_up_row (by decide), z_up_b (by omega), f1 2411 (by decide) (by decide)]
    · rw [z_up_row (by decide), z_up_b (by omega), z_up_row (by decide), f1 2412 (by decide) (by decide)]
theorem y_rh_le (P : z_Pg) (h : y_Qh) : ∀ s : List y_Ac, y_rh P h s ≤ y_ht s
  | [] => Nat.le_refl _
  | a :: s => by
    have := y_rh_le P h s
    show y_rh P h s + (y_rv P h a).length ≤ y_ht s + a.2.2.2.length
    have : (y_rv P h a).length ≤ a.2.2.2.length := by unfold y_rv; rw [List.length_drop]; omega
    omega
/-- raising, in a turn -/
theorem f244_top (hP : y_PG P) (hM : z_MS S) (hB : B = nI b) (hQ : y_QI P k0 (a :: s) h n out) {m1 : z_m} (hG : y_rG m1 b P) {e w L x : Int32} (hL : (L = 1 ∧ e = 4 ∧ w = 0) ∨ (L = 0 ∧ e = 3)) (hx : L = 0 → x = w) (c20 : m1 2390 20 = nI s.length) (c33 : m1 2390 33 = nI n) (c34 : m1 2390 34 = -1) (c35 : m1 2390 35 = 0) (hS : y_rS P h m1 s) (hO : y_rO m1 h) (hF : y_rF m1 h a.1) : ∃ m', f244 2390 B L x (z_hp S m1) = some ((), z_hp S m') ∧ y_rX P m' (y_ra P s h n out e w) ∧ y_rR m1 m' := by
  obtain ⟨hn, _, hCH, hI, h20⟩ := hQ
  have n2 : y_ht s + a.2.2.2.length + (s.length + 1) ≤ n := hn.2.1
  have hs := y_acts_ok hP hCH hI
  exact f244_r (out := out) hP hM hB hL hx s m1 hG c20 c33 c34 c35 hS hO hF hI (fun c hc => hs c (List.mem_cons_of_mem _ hc)) (by omega) hn.1 h20 1000000 (by omega)
/-- raising, what is being found still there -/
theorem f244_top2 (hP : y_PG P) (hM : z_MS S) (hB : B = nI b) (hQ : y_QI P k0 (a :: s) h n out) {m1 : z_m} (hG : y_rG m1 b P) {e w L x : Int32} (hL : (L = 1 ∧ e = 4 ∧ w = 0) ∨ (L = 0 ∧ e = 3)) (hx : L = 0 → x = w) (hC : y_rQ P m1 (a :: s) h n out) (hk : ¬ y_k P h a = 13) : ∃ m', f244 2390 B L x (z_hp S m1) = some ((), z_hp S m') ∧ y_rX P m' (y_ra P s h n out e w) ∧ y_rR m1 m' := by
  obtain ⟨hn, _, hCH, hI, h20⟩ := hQ
  obtain ⟨⟨c20, c33, c34, c35⟩, hS, hO, _, _, hF⟩ := hC
  have n2 : y_ht s + a.2.2.2.length + (s.length + 1) ≤ n := hn.2.1
  have hs := y_acts_ok hP hCH hI
  obtain ⟨m', e1, x1, r1⟩ := f244_r (out := out) hP hM hB hL hx (a :: s) m1 hG c20 c33 c34 c35 hS hO hF hI hs (by show s.length + 1 ≤ 500; omega) hn.1 h20 1000000 (by show s.length + 1 < 1000000; omega)
  refine ⟨m', e1, ?_, r1⟩
  have : y_ra P (a :: s) h n out e w = y_ra P s h n out e w := by
    unfold y_ra
    have : y_unw P h (a :: s) = y_unw P h s := by
      show (if y_k P h a = 13 ∧ _ then _ else _) = _
      rw [if_neg (fun q => hk q.1)]
    rw [this]
  rw [this] at x1
  exact x1
end
