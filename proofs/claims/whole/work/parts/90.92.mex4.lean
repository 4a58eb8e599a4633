-- deps: 90.81.lc2 90.82.ex0 90.83.ex1 90.84.ex2 90.85.ex3 90.86.ex4 90.87.ex5 90.88.ex6 90.89.mex 90.90.mex2 90.91.mex3
/-! nodes taken out: the reference lays the new method -/
section
variable {S : z_S} {m : z_m} {P : z_Pg} {A : z_A}
def z_exT (P : z_Pg) (k : Nat) (c : z_Lc) (name ty : Int32) (t : Nat) : Nat → Int32 := fun w => if w = 9 then 0 else z_hdr (nI (z_own P k)) name (nI c.length) (if 0 < t then (z_g c 0).2.1 else -1) (if 1 < t then (z_g c 1).2.1 else -1) (if 0 < t then (z_g c 0).2.2 else -1) (if 1 < t then (z_g c 1).2.2 else -1) ty w
theorem z_10c {w : Nat} (h : w < 10) : w = 0 ∨ w = 1 ∨ w = 2 ∨ w = 3 ∨ w = 4 ∨ w = 5 ∨ w = 6 ∨ w = 7 ∨ w = 8 ∨ w = 9 := by omega
theorem z_exT_0 (P : z_Pg) (k : Nat) (c : z_Lc) (name ty : Int32) {w : Nat} (hw : w < 10) : (if w = 3 then nI c.length else (if w = 9 then 0 else z_hdr (nI (z_own P k)) name 0 (-1) (-1) (-1) (-1) ty w)) = z_exT P k c name ty 0 w := by
  rcases z_10c hw with rfl | rfl | rfl | rfl | rfl | rfl | rfl | rfl | rfl | rfl <;> rfl
theorem z_exT_s (P : z_Pg) (k : Nat) (c : z_Lc) (name ty : Int32) {t w : Nat} (ht : t < 2) (hw : w < 10) : (if w = 6 + t then (z_g c t).2.2 else if w = 4 + t then (z_g c t).2.1 else z_exT P k c name ty t w) = z_exT P k c name ty (t + 1) w := by
  have : t = 0 ∨ t = 1 := by omega
  rcases this with rfl | rfl <;> rcases z_10c hw with rfl | rfl | rfl | rfl | rfl | rfl | rfl | rfl | rfl | rfl <;> rfl
theorem z_exT_e (P : z_Pg) (k : Nat) (c : z_Lc) (name ty : Int32) {w : Nat} (hw : w < 9) : z_exT P k c name ty c.length w = z_exG P k c name ty c.length w := by
  unfold z_exT z_exG
  rw [if_neg (by omega)]
theorem z_hs_congr {k : Nat} {H H' : Nat → Int32} (h : z_hs m 2 k H) (e : ∀ w, w < 10 → H w = H' w) : z_hs m 2 k H' := fun w hw => (h w hw).trans (e w hw)
theorem z_hF.trans {b k : Nat} {m m' m'' : z_m} (h : z_hF b k m m') (h2 : z_hF b k m' m'') : z_hF b k m m'' := ⟨fun a x => (h2.1 a x).trans (h.1 a x), fun j x => (h2.2 j x).trans (h.2 j x)⟩
theorem z_hF.rL {k : Nat} {m m' : z_m} (h : z_hF 2 k m m') {c : z_Lc} (hc : z_rL m 42 2421 c) : z_rL m' 42 2421 c := ⟨by rw [h.1 2390 (by decide)]; exact hc.1, fun j hj => by rw [h.1 2421 (by decide)]; exact hc.2 j hj⟩
/-- the parameters -/
theorem f292_193_sp (hM : z_MS S) (h : z_mb m 0 P) (hT : z_mLT m P) {k i : Nat} (hH : z_exH P k i (z_exc P k i)) {name : Int32} {kk : Nat} (hkk : kk < 24) {O : Int32} (c1 : z_rL m 42 2421 (z_exc P k i)) (hs : z_hs m 2 kk (z_exT P k (z_exc P k i) name (z_Ty P k i) 0)) : ∃ m', f292_193 2390 (nI k) (nI i) name O (nI kk) 0 (z_hp S m) = f292_262 2390 (nI k) (nI i) name O (nI kk) (z_hp S m') ∧ z_hs m' 2 kk (z_exT P k (z_exc P k i) name (z_Ty P k i) (z_exc P k i).length) ∧ z_hF 2 kk m m' := by
  have hw := hH.1.1
  have h60 := hH.1.2.1
  have hR := hH.1.2.2
  have hk := hH.2.1.1
  have hlk := hH.2.1.2
  have hi := hH.2.2.1
  have h24 := hw.2.2.1
  have hl1 := h60 k hk
  have hB := hw.2.2.2.2.1 k hk
  have hle : i + z_sz (z_bd P k) i ≤ (z_bd P k).length := z_en_le hB.1 hi
  have hc2 := hH.2.2.2.1.2
  obtain ⟨q1, q2, q3⟩ := z_rlo_dp (i := i) hw hk (by omega) (hR k hk hlk) (z_sz (z_bd P k) i) hle
  have key := z_loopT (f := fun s => f292_193b (s.1) (s.2.1) (s.2.2.1) (s.2.2.2.1) (s.2.2.2.2.1) (s.2.2.2.2.2.1) (s.2.2.2.2.2.2)) (S := S) (fun N st m' => ∃ t, N = (z_exc P k i).length - t ∧ t ≤ (z_exc P k i).length ∧ st = (2390, nI k, nI i, name, O, nI kk, nI t) ∧ z_hs m' 2 kk (z_exT P k (z_exc P k i) name (z_Ty P k i) t) ∧ z_hF 2 kk m m') (fun X m' => X = f292_262 2390 (nI k) (nI i) name O (nI kk) ∧ z_hs m' 2 kk (z_exT P k (z_exc P k i) name (z_Ty P k i) (z_exc P k i).length) ∧ z_hF 2 kk m m') ?_ 1000000 (z_exc P k i).length (2390, nI k, nI i, name, O, nI kk, 0) m ⟨0, rfl, Nat.zero_le _, rfl, hs, z_hF.refl _ _ _⟩ (by omega)
  · obtain ⟨X, m', e, rfl, g1, g2⟩ := key
    exact ⟨m', e, g1, g2⟩
  · rintro N st m1 ⟨t, rfl, htl, rfl, g1, g2⟩
    have W := g2.wK hkk
    have h1 : z_mb m1 0 P := z_mb_mF W.mF (by decide) h
    have hT1 := z_mLT_mF W.mF hT
    have c2 := g2.rL c1
    have c3 := c2.1
    dsimp only
    rcases Nat.eq_or_lt_of_le htl with ht2 | ht2
    · refine Or.inr ⟨_, m1, ?_, rfl, by rw [ht2] at g1; exact g1, g2⟩
      unfold f292_193b
      rw [ht2]
      simp (disch := ((try simp only [true_or, or_true, hM.k, hM.k2391, hM.k2392, hM.k2393, hM.k2394, hM.k2395, hM.k2396, hM.k2397, hM.k2398, hM.k2399, hM.k2400, hM.k2401, hM.k2402, hM.k2403, hM.k2404, hM.k2405, hM.k2406, hM.k2407, hM.k2408, hM.k2409, hM.k2410, hM.k2411, hM.k2412, hM.k2413, hM.k2414, hM.k2415, hM.k2416, hM.k2417, hM.k2418, hM.k2419, hM.k2420, hM.k2421, hM.k2422, hM.k2423, hM.l2391, hM.l2392, hM.l2393, hM.l2394, hM.l2395, hM.l2396, hM.l2397, hM.l2398, hM.l2399, hM.l2400, hM.l2401, hM.l2402, hM.l2403, hM.l2404, hM.l2405, hM.l2406, hM.l2407, hM.l2408, hM.l2409, hM.l2410, hM.l2411, hM.l2412, hM.l2413, hM.l2414, hM.l2415, hM.l2416, hM.l2417, hM.l2418, hM.l2419, hM.l2420, hM.l2421, hM.l2422, hM.l2423]) <;> (try omega))) only [↓reduceIte, ↓z_ite, ↓zR, ↓zB_R, ↓zB_B, ↓zB_ite, ↓zB_gI, ↓zB_pI, ↓zB_pZ, ↓zB_aK, ↓zB_G, ↓zB_lI, ↓zB_lZ, ↓zB_wI, ↓zB_wZ, ↓zB_lIl, ↓zB_wIl, zB_pI, zB_pZ, zB_lI, zB_lZ, zB_wI, zB_wZ, z_addl, z_ladd, z_mull, z_lmul, nI_add, z_subl, Nat.not_lt_zero, z_10, z_01, z_bitc, z_b0, z_b1, ↓zB_Gb, ↓zB_G0, ↓zB_G1, z_eql, z_leq, z_ltl, z_llt, z_eq, z_lt, z_m1lt, hM.k, hM.k2391, hM.k2392, hM.k2393, hM.k2394, hM.k2395, hM.k2396, hM.k2397, hM.k2398, hM.k2399, hM.k2400, hM.k2401, hM.k2402, hM.k2403, hM.k2404, hM.k2405, hM.k2406, hM.k2407, hM.k2408, hM.k2409, hM.k2410, hM.k2411, hM.k2412, hM.k2413, hM.k2414, hM.k2415, hM.k2416, hM.k2417, hM.k2418, hM.k2419, hM.k2420, hM.k2421, hM.k2422, hM.k2423, hM.l2391, hM.l2392, hM.l2393, hM.l2394, hM.l2395, hM.l2396, hM.l2397, hM.l2398, hM.l2399, hM.l2400, hM.l2401, hM.l2402, hM.l2403, hM.l2404, hM.l2405, hM.l2406, hM.l2407, hM.l2408, hM.l2409, hM.l2410, hM.l2411, hM.l2412, hM.l2413, hM.l2414, hM.l2415, hM.l2416, hM.l2417, hM.l2418, hM.l2419, hM.l2420, hM.l2421, hM.l2422, hM.l2423, ↓hM.g1, ↓hM.g5, ↓hM.g6, ↓hM.g7, ↓hM.g8, ↓hM.g9, ↓hM.g10, ↓hM.g11, ↓hM.g12, ↓hM.g13, ↓hM.g14, ↓hM.g16, ↓hM.g17, ↓hM.g18, ↓hM.g19, ↓hM.g21, ↓hM.g22, ↓hM.g23, ↓hM.g24, ↓hM.g25, ↓hM.g27, ↓hM.g28, ↓hM.g30, ↓hM.g31, ↓hM.g32, ↓hM.g36, ↓hM.g37, ↓hM.g39, ↓hM.g40, ↓hM.g41, ↓hM.g43, ↓hM.g45, ↓hM.g46, c3, Nat.lt_irrefl]
    · have ht64 : t < 64 := by omega
      have dx := c2.2 t ht2
      obtain ⟨p1, p2, p3⟩ := q1.2 t ht2
      obtain ⟨u, hu, ou, eu⟩ := q3 t ht2
      have p1 : z_bnd P k (z_g (z_exc P k i) t).1 := p1
      have p2 : (z_g (z_exc P k i) t).2.1 = z_nol P k (z_g (z_exc P k i) t).1 := p2
      have p3 : (z_g (z_exc P k i) t).2.2 = z_tol P k (z_g (z_exc P k i) t).1 := p3
      have eu : (z_g (z_exc P k i) t).1 = z_Bd P k (i + u) := eu
      have e287 := f287_sp (S := S) hM hw h60 h1 hk p1
      rw [← p2] at e287
      have hx1 := f197_sp (S := S) (m := m1) (B := 2) (b := 2) (k := kk) (W := nI (4 + t)) (w := 4 + t) (v := (z_g (z_exc P k i) t).2.1) hM rfl rfl (by decide) hkk (by omega)
      have F2 : z_hF 2 kk m (z_hx m1 2 kk (4 + t) (z_g (z_exc P k i) t).2.1) := g2.x (by omega)
      have W2 := F2.wK hkk
      have h2 : z_mb (z_hx m1 2 kk (4 + t) (z_g (z_exc P k i) t).2.1) 0 P := z_mb_mF W2.mF (by decide) h
      have hT2 := z_mLT_mF W2.mF hT
      have dx2 := (F2.rL c1).2 t ht2
      have e226 := f226_ou hM hw h60 hR h2 hT2 hk hlk (x := i + u) (by omega) (y := nI i) ou
      rw [(z_oub hw hk (by omega) (hR k hk hlk) (x := i + u) (by omega) (y := nI i) ou).2.2.1, ← eu, ← p2, ← p3] at e226
      have hx2 := f197_sp (S := S) (m := z_hx m1 2 kk (4 + t) (z_g (z_exc P k i) t).2.1) (B := 2) (b := 2) (k := kk) (W := nI (6 + t)) (w := 6 + t) (v := (z_g (z_exc P k i) t).2.2) hM rfl rfl (by decide) hkk (by omega)
      have s3 := z_hs_congr ((g1.x (w := 4 + t) (v := (z_g (z_exc P k i) t).2.1)).x (w := 6 + t) (v := (z_g (z_exc P k i) t).2.2)) (fun w hw => z_exT_s P k (z_exc P k i) name (z_Ty P k i) (t := t) (by omega) hw)
      refine Or.inl ⟨_, _, (z_exc P k i).length - (t + 1), ?_, by omega, t + 1, rfl, by omega, rfl, s3, F2.x (by omega)⟩
      unfold f292_193b
      simp (disch := ((try simp only [true_or, or_true, hM.k, hM.k2391, hM.k2392, hM.k2393, hM.k2394, hM.k2395, hM.k2396, hM.k2397, hM.k2398, hM.k2399, hM.k2400, hM.k2401, hM.k2402, hM.k2403, hM.k2404, hM.k2405, hM.k2406, hM.k2407, hM.k2408, hM.k2409, hM.k2410, hM.k2411, hM.k2412, hM.k2413, hM.k2414, hM.k2415, hM.k2416, hM.k2417, hM.k2418, hM.k2419, hM.k2420, hM.k2421, hM.k2422, hM.k2423, hM.l2391, hM.l2392, hM.l2393, hM.l2394, hM.l2395, hM.l2396, hM.l2397, hM.l2398, hM.l2399, hM.l2400, hM.l2401, hM.l2402, hM.l2403, hM.l2404, hM.l2405, hM.l2406, hM.l2407, hM.l2408, hM.l2409, hM.l2410, hM.l2411, hM.l2412, hM.l2413, hM.l2414, hM.l2415, hM.l2416, hM.l2417, hM.l2418, hM.l2419, hM.l2420, hM.l2421, hM.l2422, hM.l2423]) <;> (try omega))) only [↓reduceIte, ↓z_ite, ↓zR, ↓zB_R, ↓zB_B, ↓zB_ite, ↓zB_gI, ↓zB_pI, ↓zB_pZ, ↓zB_aK, ↓zB_G, ↓zB_lI, ↓zB_lZ, ↓zB_wI, ↓zB_wZ, ↓zB_lIl, ↓zB_wIl, zB_pI, zB_pZ, zB_lI, zB_lZ, zB_wI, zB_wZ, z_addl, z_ladd, z_mull, z_lmul, nI_add, z_subl, Nat.not_lt_zero, z_10, z_01, z_bitc, z_b0, z_b1, ↓zB_Gb, ↓zB_G0, ↓zB_G1, z_eql, z_leq, z_ltl, z_llt, z_eq, z_lt, z_m1lt, hM.k, hM.k2391, hM.k2392, hM.k2393, hM.k2394, hM.k2395, hM.k2396, hM.k2397, hM.k2398, hM.k2399, hM.k2400, hM.k2401, hM.k2402, hM.k2403, hM.k2404, hM.k2405, hM.k2406, hM.k2407, hM.k2408, hM.k2409, hM.k2410, hM.k2411, hM.k2412, hM.k2413, hM.k2414, hM.k2415, hM.k2416, hM.k2417, hM.k2418, hM.k2419, hM.k2420, hM.k2421, hM.k2422, hM.k2423, hM.l2391, hM.l2392, hM.l2393, hM.l2394, hM.l2395, hM.l2396, hM.l2397, hM.l2398, hM.l2399, hM.l2400, hM.l2401, hM.l2402, hM.l2403, hM.l2404, hM.l2405, hM.l2406, hM.l2407, hM.l2408, hM.l2409, hM.l2410, hM.l2411, hM.l2412, hM.l2413, hM.l2414, hM.l2415, hM.l2416, hM.l2417, hM.l2418, hM.l2419, hM.l2420, hM.l2421, hM.l2422, hM.l2423, ↓hM.g1, ↓hM.g5, ↓hM.g6, ↓hM.g7, ↓hM.g8, ↓hM.g9, ↓hM.g10, ↓hM.g11, ↓hM.g12, ↓hM.g13, ↓hM.g14, ↓hM.g16, ↓hM.g17, ↓hM.g18, ↓hM.g19, ↓hM.g21, ↓hM.g22, ↓hM.g23, ↓hM.g24, ↓hM.g25, ↓hM.g27, ↓hM.g28, ↓hM.g30, ↓hM.g31, ↓hM.g32, ↓hM.g36, ↓hM.g37, ↓hM.g39, ↓hM.g40, ↓hM.g41, ↓hM.g43, ↓hM.g45, ↓hM.g46, c3, ht2, ht64, dx, ↓zB_c e287, zB_c e287, ↓zB_c hx1, zB_c hx1, dx2, ↓zB_c e226, zB_c e226, ↓zB_c hx2, zB_c hx2]
/-- the new method, all of it -/
theorem f292_p (hM : z_MS S) (h : z_mb m 0 P) (hT : z_mLT m P) (hm2 : z_mb m 2 P) {k i : Nat} (hH : z_exH P k i (z_exc P k i)) {name : Int32} (h24 : z_nm P < 24) (c1 : z_rL m 42 2421 (z_exc P k i)) : ∃ m2 m3 m', f220 2390 2 (nI (z_nm P)) (nI (z_own P k)) name (z_Ty P k i) (z_hp S (z_up m 2391 28401 (nI (z_nm P + 1)))) = some ((), z_hp S m2) ∧ m2 2390 42 = nI (z_exc P k i).length ∧ f197 2390 2 (nI (z_nm P)) 3 (nI (z_exc P k i).length) (z_hp S m2) = some ((), z_hp S m3) ∧ f292_193 2390 (nI k) (nI i) name (nI (z_own P k)) (nI (z_nm P)) 0 (z_hp S m3) = f292_293 2390 (nI k) (nI i) name (nI (z_own P k)) (nI (z_nm P)) 0 0 (z_hp S m') ∧ z_mb m' 2 (z_ex1 P k i name) ∧ z_rL m' 42 2421 (z_exc P k i) ∧ z_mF m m' ∧ ∀ j, (j < 28401 ∨ (28402 ≤ j ∧ j < 28504)) → m' 2391 j = m 2391 j := by
  have hw := hH.1.1
  have h60 := hH.1.2.1
  have hR := hH.1.2.2
  have hk := hH.2.1.1
  have hlk := hH.2.1.2
  have hi := hH.2.2.1
  have hl1 := h60 k hk
  have hB := hw.2.2.2.2.1 k hk
  have hen := z_en_le hB.1 hi
  have hgt := z_en_gt hi
  have F0 : z_mF m (z_up m 2391 28401 (nI (z_nm P + 1))) := ⟨fun j hj => z_up_b (by omega), fun a x y => z_up_row (by omega), fun j hj => by rw [z_up_row (by decide)], fun a ha => z_up_row (by omega)⟩
  obtain ⟨m2, e220, hs2, F2⟩ := f220_sp (S := S) (m := z_up m 2391 28401 (nI (z_nm P + 1))) (B := 2) (b := 2) (k := z_nm P) hM rfl (by decide) h24 (nI (z_own P k)) name (z_Ty P k i)
  have hx3 := f197_sp (S := S) (m := m2) (B := 2) (b := 2) (k := z_nm P) (W := 3) (w := 3) (v := nI (z_exc P k i).length) hM rfl rfl (by decide) h24 (by decide)
  have F3 := F2.x (w := 3) (v := nI (z_exc P k i).length) (by decide)
  have s3 := z_hs_congr (hs2.x (w := 3) (v := nI (z_exc P k i).length)) (fun w hw => z_exT_0 P k (z_exc P k i) name (z_Ty P k i) hw)
  generalize hm3 : z_hx m2 2 (z_nm P) 3 (nI (z_exc P k i).length) = m3 at hx3 F3 s3
  have M3 := F0.trans (F3.mF h24)
  have c3 : z_rL m3 42 2421 (z_exc P k i) := F3.rL ⟨by rw [z_up_row (by decide)]; exact c1.1, fun j hj => by rw [z_up_row (by decide)]; exact c1.2 j hj⟩
  obtain ⟨m4, e193, s4, F4⟩ := f292_193_sp (O := nI (z_own P k)) hM (z_mb_mF M3 (by decide) h) (z_mLT_mF M3 hT) hH h24 c3 s3
  have F34 := F3.trans F4
  have M4 := F0.trans (F34.mF h24)
  have h4 : z_mb m4 0 P := z_mb_mF M4 (by decide) h
  have hT4 := z_mLT_mF M4 hT
  obtain ⟨z0, zF⟩ := z_ol_nil (m := m4) hM
  have e269 := f269_sp (S := S) (m := z_up m4 2390 38 0) hM (z_mLT_mF zF.mF hT4 k hk hlk) (by omega) (by omega) hi
  have esum : nI i + nI (z_sz (z_bd P k) i) = nI (z_en (z_bd P k) i) := nI_add _ _
  obtain ⟨m5, e262, o5, F5⟩ := f262_sp (S := S) hM (z_mb_eF zF h4) hk (Nat.le_of_lt hgt) hen z0 (by show 0 + _ ≤ 400; omega)
  rw [List.nil_append] at o5
  have hsl : (z_sub (z_bd P k) i (z_en (z_bd P k) i)).length ≤ 192 := by rw [z_sub_len (by omega) hen]; omega
  obtain ⟨m6, e264, l1, l2, yF⟩ := f264_sp (S := S) hM h24 o5 hsl
  have E5 := zF.trans F5
  have e51 : m5 2391 = m4 2391 := E5.1 2391 (by decide) (by decide) (by decide) (by decide)
  have M6 := (M4.trans E5.mF).trans (yF.mF h24)
  have key : z_ly m6 (z_nm P) (z_exG P k (z_exc P k i) name (z_Ty P k i) (z_exc P k i).length) (z_sub (z_bd P k) i (z_en (z_bd P k) i)) := by
    refine ⟨fun w hw => ?_, l2, fun j hj => l1 j hj⟩
    rw [yF.2 _ (by omega) (by omega), e51, s4 w (by omega)]
    exact z_exT_e P k (z_exc P k i) name (z_Ty P k i) hw
  have r34 : ∀ j, (j < 28504 + 10 * z_nm P ∨ 28504 + 10 * z_nm P + 10 ≤ j) → j ≠ 28401 → m4 2391 j = m 2391 j := fun j x1 x2 => by
    rw [F34.2 j (by omega), z_up_b x2]
  have hmb : z_mb m6 2 (z_ex1 P k i name) := by
    refine z_mb_ly hm2 rfl h24 key hsl ?_ (fun j x1 x2 x3 => ?_)
    · rw [yF.2 _ (by omega) (by omega), e51, F34.2 _ (by omega), z_up_s]
    · rw [yF.2 j (by omega) (by omega), e51, r34 j x2 x1]
  refine ⟨m2, m3, m6, e220, ?_, hx3, ?_, hmb, ?_, M6, fun j hj => ?_⟩
  · rw [F2.1 2390 (by decide), z_up_row (by decide)]; exact c1.1
  · rw [e193]
    unfold f292_262
    simp (disch := ((try simp only [true_or, or_true, hM.k, hM.k2391, hM.k2392, hM.k2393, hM.k2394, hM.k2395, hM.k2396, hM.k2397, hM.k2398, hM.k2399, hM.k2400, hM.k2401, hM.k2402, hM.k2403, hM.k2404, hM.k2405, hM.k2406, hM.k2407, hM.k2408, hM.k2409, hM.k2410, hM.k2411, hM.k2412, hM.k2413, hM.k2414, hM.k2415, hM.k2416, hM.k2417, hM.k2418, hM.k2419, hM.k2420, hM.k2421, hM.k2422, hM.k2423, hM.l2391, hM.l2392, hM.l2393, hM.l2394, hM.l2395, hM.l2396, hM.l2397, hM.l2398, hM.l2399, hM.l2400, hM.l2401, hM.l2402, hM.l2403, hM.l2404, hM.l2405, hM.l2406, hM.l2407, hM.l2408, hM.l2409, hM.l2410, hM.l2411, hM.l2412, hM.l2413, hM.l2414, hM.l2415, hM.l2416, hM.l2417, hM.l2418, hM.l2419, hM.l2420, hM.l2421, hM.l2422, hM.l2423]) <;> (try omega))) only [↓reduceIte, ↓z_ite, ↓zR, ↓zB_R, ↓zB_B, ↓zB_ite, ↓zB_gI, ↓zB_pI, ↓zB_pZ, ↓zB_aK, ↓zB_G, ↓zB_lI, ↓zB_lZ, ↓zB_wI, ↓zB_wZ, ↓zB_lIl, ↓zB_wIl, zB_pI, zB_pZ, zB_lI, zB_lZ, zB_wI, zB_wZ, z_addl, z_ladd, z_mull, z_lmul, nI_add, z_subl, Nat.not_lt_zero, z_10, z_01, z_bitc, z_b0, z_b1, ↓zB_Gb, ↓zB_G0, ↓zB_G1, z_eql, z_leq, z_ltl, z_llt, z_eq, z_lt, z_m1lt, hM.k, hM.k2391, hM.k2392, hM.k2393, hM.k2394, hM.k2395, hM.k2396, hM.k2397, hM.k2398, hM.k2399, hM.k2400, hM.k2401, hM.k2402, hM.k2403, hM.k2404, hM.k2405, hM.k2406, hM.k2407, hM.k2408, hM.k2409, hM.k2410, hM.k2411, hM.k2412, hM.k2413, hM.k2414, hM.k2415, hM.k2416, hM.k2417, hM.k2418, hM.k2419, hM.k2420, hM.k2421, hM.k2422, hM.k2423, hM.l2391, hM.l2392, hM.l2393, hM.l2394, hM.l2395, hM.l2396, hM.l2397, hM.l2398, hM.l2399, hM.l2400, hM.l2401, hM.l2402, hM.l2403, hM.l2404, hM.l2405, hM.l2406, hM.l2407, hM.l2408, hM.l2409, hM.l2410, hM.l2411, hM.l2412, hM.l2413, hM.l2414, hM.l2415, hM.l2416, hM.l2417, hM.l2418, hM.l2419, hM.l2420, hM.l2421, hM.l2422, hM.l2423, ↓hM.g1, ↓hM.g5, ↓hM.g6, ↓hM.g7, ↓hM.g8, ↓hM.g9, ↓hM.g10, ↓hM.g11, ↓hM.g12, ↓hM.g13, ↓hM.g14, ↓hM.g16, ↓hM.g17, ↓hM.g18, ↓hM.g19, ↓hM.g21, ↓hM.g22, ↓hM.g23, ↓hM.g24, ↓hM.g25, ↓hM.g27, ↓hM.g28, ↓hM.g30, ↓hM.g31, ↓hM.g32, ↓hM.g36, ↓hM.g37, ↓hM.g39, ↓hM.g40, ↓hM.g41, ↓hM.g43, ↓hM.g45, ↓hM.g46, ↓zB_c e269, zB_c e269, esum, ↓zB_c e262, zB_c e262, ↓zB_c e264, zB_c e264]
  · have c4 := F4.rL c3
    exact ⟨by rw [yF.1 2390 (by decide), E5.2 42 (by decide)]; exact c4.1, fun j hj => by rw [yF.1 2421 (by decide), E5.1 2421 (by decide) (by decide) (by decide) (by decide)]; exact c4.2 j hj⟩
  · rw [yF.2 j (by omega) (by omega), e51, r34 j (by omega) (by omega)]
end
