-- deps: 91.00.run 91.01.run2 91.02.run3 91.03.run4 91.04.run5 91.05.run6 91.06.crun 91.07.crun2 91.08.crun3 91.09.crun4 91.10.crun5 91.11.crun6 91.12.crun7 91.13.crun8 91.14.crun9 91.15.crun10 91.16.mrun 91.17.mrun2 91.18.mrun3
/-! a run: the reference's machine, finishing -/
section
variable {P : z_Pg} {h h' : y_Qh} {k0 : Nat} {n : Nat} {out : y_V} {a : y_Ac} {s : List y_Ac} {S : z_S} {m : z_m} {b : Nat} {B : Int32}
theorem y_sr_inj {a b : Nat} (ha : a < 62) (hb : b < 62) (h : y_sr a = y_sr b) : a = b := by
  unfold y_sr at h
  split at h <;> split at h <;> (try split at h) <;> (try split at h) <;> omega
theorem y_sr_lt {a : Nat} (ha : a < 62) : y_sr a < 194 := by
  unfold y_sr
  split
  · omega
  · split <;> omega
/-- a node that is found, with all of its parts -/
theorem f249_r (hP : y_PG P) (hM : z_MS S) (hB : B = nI b) (hQ : y_QI P k0 (a :: s) h n out) (hG : y_rG m b P) (hC : y_rQ P m (a :: s) h n out) (kk : y_k P h a = 0 ∨ y_k P h a = 1 ∨ y_k P h a = 2 ∨ y_k P h a = 3 ∨ y_k P h a = 4 ∨ y_k P h a = 6 ∨ y_k P h a = 8 ∨ y_k P h a = 9 ∨ y_k P h a = 11 ∨ y_k P h a = 12) (hst : a.2.2.1 = y_p P h a) : ∃ m', f249 2390 B (nI s.length) (nI (y_qm h a.1)) (nI a.2.1) (y_k P h a) (z_hp S m) = some ((), z_hp S m') ∧ y_rX P m' (y_go P a s h n out) ∧ y_rR m m' := by
  have hQ0 := hQ
  have hC0 := hC
  obtain ⟨hn, hx, hCH, hI, h20⟩ := hQ
  obtain ⟨⟨c20, c33, c34, c35⟩, hS, hO, c26, c15, hF⟩ := hC
  obtain ⟨⟨⟨p1, p2, p3⟩, p4, p5, p6⟩, hSs⟩ := hS
  have hw := hP.1.1
  have h24 := hw.2.2.1
  have h6 := hw.1.1
  have hm := hI.1 a.1 (Nat.le_refl _)
  have hBB := hw.2.2.2.2.1 _ hm.1
  have hr := hP.rt _ hm.1 hm.2.1
  have hl60 := hP.1.2 _ hm.1
  have hi : a.2.1 < (z_bd P (y_qm h a.1)).length := hCH.1.1
  have hT := hG.2 _ hm.1 hm.2.1 _ hi
  have ev := hG.1.ev (S := S) hM hB hm.1 hi
  have n2 : y_ht s + a.2.2.2.length + (s.length + 1) ≤ n := hn.2.1
  have hqn : y_qn h + (s.length + 1) ≤ n + 1 := hn.2.2
  have hrh := y_rh_le P h s
  have hls : s.length < 1400 := by omega
  have h21 : a.1 < 21 := by omega
  have hix : 192 * y_qm h a.1 + a.2.1 < 4608 := by omega
  have f03 := (hF a.1 (Nat.le_refl _)).2.1
  have ebd := hT.2.2.2
  have c20' : m 2390 20 = nI (s.length + 1) := c20
  have e1 : nI (s.length + 1) - 1 = nI s.length := z_subl (k := 1) (by omega)
  have k5 : ¬ y_k P h a = 5 := by rcases kk with g | g | g | g | g | g | g | g | g | g <;> rw [g] <;> decide
  have k10 : ¬ y_k P h a = 10 := by rcases kk with g | g | g | g | g | g | g | g | g | g <;> rw [g] <;> decide
  have k13 : ¬ y_k P h a = 13 := by rcases kk with g | g | g | g | g | g | g | g | g | g <;> rw [g] <;> decide
  have k7 : ¬ y_k P h a = 7 := by rcases kk with g | g | g | g | g | g | g | g | g | g <;> rw [g] <;> decide
  have hx : a.2.2.2.length = a.2.2.1 := by rw [hx]; unfold y_xc; rw [if_neg (fun y => k13 y.1)]
  have erv : y_rv P h a = a.2.2.2 := by
    unfold y_rv y_dr
    rw [if_neg (fun q => by rcases q.1 with g | g; exact k5 g; exact k10 g), if_neg (fun q => k7 q.1)]; rfl
  have hvals : ∀ j, j < a.2.2.2.length → m 2411 (y_rh P h s + j) = (y_g a.2.2.2 j).1 ∧ m 2412 (y_rh P h s + j) = (y_g a.2.2.2 j).2 := fun j hj => by
    have := p6 j (by rw [erv]; exact hj)
    rw [erv] at this; exact this
  have c26' : m 2390 26 = nI (y_rh P h s + a.2.2.2.length) := by
    have : m 2390 26 = nI (y_rh P h s + (y_rv P h a).length) := c26
    rw [erv] at this; exact this
  have c15' : m 2390 15 = nI (a.1 + 1) := by
    rw [c15]; unfold y_rf; rw [if_neg (fun q => k7 q.1)]
  have vt : ∀ j, j < a.2.2.2.length → y_vt P h (y_rq P h a j) (y_g a.2.2.2 j) := hCH.1.2.2.2
  have kd : y_k P h a = z_k (z_bd P (y_qm h a.1)) a.2.1 := rfl
  have pp : y_p P h a = z_p (z_bd P (y_qm h a.1)) a.2.1 := rfl
  generalize hm1 : z_up m 2390 20 (nI s.length) = m1
  have fr1 : ∀ c, c ≠ 2390 → m1 c = m c := fun c x => by rw [← hm1, z_up_row x]
  have fr90 : ∀ j, j ≠ 20 → m1 2390 j = m 2390 j := fun j x => by rw [← hm1, z_up_b x]
  have d20 : m1 2390 20 = nI s.length := by rw [← hm1, z_up_s]
  have hR1 : y_rR m m1 := ⟨fun c _ y => fr1 c y, fun j _ y _ _ _ _ _ => fr90 j y⟩
  have hG1 := hG.fr hR1
  have hO1 : y_rO m1 h := y_rO_fr (fr90 29 (by decide)) (fun c x y => fr1 c (by omega)) hO
  have hF1 : y_rF m1 h a.1 := y_rF_fr (fun c x y => fr1 c (by omega)) hF
  have hS1 : y_rS P h m1 s := y_rS_fr (fun _ _ => rfl) (fun c x y j _ => by rw [fr1 c (by omega)]) (fun c hc j _ => by rw [fr1 c (by omega)]) hSs
  have hid : ∀ f, f ≤ a.1 → y_qm h f = y_qm h f := fun _ _ => rfl
  have d26 : m1 2390 26 = nI (y_rh P h s + a.2.2.2.length) := by rw [fr90 26 (by decide)]; exact c26'
  have d15 : m1 2390 15 = nI (a.1 + 1) := by rw [fr90 15 (by decide)]; exact c15'
  have hvals1 : ∀ j, j < a.2.2.2.length → m1 2411 (y_rh P h s + j) = (y_g a.2.2.2 j).1 ∧ m1 2412 (y_rh P h s + j) = (y_g a.2.2.2 j).2 := fun j hj => by
    rw [fr1 2411 (by decide), fr1 2412 (by decide)]; exact hvals j hj
  have hh : y_rh P h s < 4000 := by omega
  -- a push when there are no values
  have push : a.2.2.2.length = 0 → ∀ v : y_V, ∃ m', f242 2390 v.1 v.2 (z_hp S m1) = some ((), z_hp S m') ∧ y_rX P m' (y_fin s h n out v) ∧ y_rR m m' := fun h0 v =>
    f242_fin (S := S) hM hQ0 hC0 (m1 := m1) hid d20 (fun j hj => fr90 j (by omega)) d15 (by rw [d26, h0]; rfl) hh (fun c x y => fr1 c (by omega)) hO1 hF1 hR1 v
  -- what has been found is the last of what stands there
  have stay : ∀ {m2 : z_m} {h' : y_Qh} {v : y_V}, (∀ f, f ≤ a.1 → y_qm h' f = y_qm h f) → m2 2390 20 = nI s.length → (∀ j, j = 33 ∨ j = 34 ∨ j = 35 → m2 2390 j = m 2390 j) → m2 2390 15 = nI (a.1 + 1) → m2 2390 26 = nI (y_rh P h s + 1) → m2 2411 (y_rh P h s) = v.1 ∧ m2 2412 (y_rh P h s) = v.2 → (∀ c, 2406 ≤ c → c ≤ 2410 → m2 c = m c) → (∀ c, c = 2411 ∨ c = 2412 → ∀ j, j < y_rh P h s → m2 c j = m c j) → y_rO m2 h' → y_rF m2 h' a.1 → y_rX P m2 (y_fin s h' n out v) := fun q1 q2 q3 q4 q5 q6 q7 q8 q9 q10 => y_rfin hQ0 hC0 q1 q2 q3 q4 q5 q6 (fun c x y j _ => by rw [q7 c x y]) q8 q9 q10
  unfold y_go
  rcases kk with g | g | g | g | g | g | g | g | g | g
  · -- NUMBER
    have h0 : a.2.2.2.length = 0 := by rw [hx, hst, pp, z_p_0 (kd.symm.trans g)]
    rw [g, if_pos rfl]
    obtain ⟨m', e, x1, r1⟩ := push h0 (0, y_v P h a)
    have e : f242 2390 0 (z_v (z_bd P (y_qm h a.1)) a.2.1) (z_hp S m1) = some ((), z_hp S m') := e
    refine ⟨m', ?_, x1, r1⟩
    unfold f249 f249_469
    simp (disch := ((try simp only [true_or, or_true, hM.k, hM.k2391, hM.k2392, hM.k2393, hM.k2394, hM.k2395, hM.k2396, hM.k2397, hM.k2398, hM.k2399, hM.k2400, hM.k2401, hM.k2402, hM.k2403, hM.k2404, hM.k2405, hM.k2406, hM.k2407, hM.k2408, hM.k2409, hM.k2410, hM.k2411, hM.k2412, hM.k2413, hM.k2414, hM.k2415, hM.k2416, hM.k2417, hM.k2418, hM.k2419, hM.k2420, hM.k2421, hM.k2422, hM.k2423, hM.l2391, hM.l2392, hM.l2393, hM.l2394, hM.l2395, hM.l2396, hM.l2397, hM.l2398, hM.l2399, hM.l2400, hM.l2401, hM.l2402, hM.l2403, hM.l2404, hM.l2405, hM.l2406, hM.l2407, hM.l2408, hM.l2409, hM.l2410, hM.l2411, hM.l2412, hM.l2413, hM.l2414, hM.l2415, hM.l2416, hM.l2417, hM.l2418, hM.l2419, hM.l2420, hM.l2421, hM.l2422, hM.l2423]) <;> (try omega))) only [↓reduceIte, ↓z_ite, ↓zR, ↓zB_R, ↓zB_B, ↓zB_ite, ↓zB_gI, ↓zB_pI, ↓zB_pZ, ↓zB_aK, ↓zB_G, ↓zB_lI, ↓zB_lZ, ↓zB_wI, ↓zB_wZ, ↓zB_lIl, ↓zB_wIl, zB_pI, zB_pZ, zB_lI, zB_lZ, zB_wI, zB_wZ, z_addl, z_ladd, z_mull, z_lmul, nI_add, z_subl, Nat.not_lt_zero, z_10, z_01, z_bitc, z_b0, z_b1, ↓zB_Gb, ↓zB_G0, ↓zB_G1, z_eql, z_leq, z_ltl, z_llt, z_eq, z_lt, z_m1lt, hM.k, hM.k2391, hM.k2392, hM.k2393, hM.k2394, hM.k2395, hM.k2396, hM.k2397, hM.k2398, hM.k2399, hM.k2400, hM.k2401, hM.k2402, hM.k2403, hM.k2404, hM.k2405, hM.k2406, hM.k2407, hM.k2408, hM.k2409, hM.k2410, hM.k2411, hM.k2412, hM.k2413, hM.k2414, hM.k2415, hM.k2416, hM.k2417, hM.k2418, hM.k2419, hM.k2420, hM.k2421, hM.k2422, hM.k2423, hM.l2391, hM.l2392, hM.l2393, hM.l2394, hM.l2395, hM.l2396, hM.l2397, hM.l2398, hM.l2399, hM.l2400, hM.l2401, hM.l2402, hM.l2403, hM.l2404, hM.l2405, hM.l2406, hM.l2407, hM.l2408, hM.l2409, hM.l2410, hM.l2411, hM.l2412, hM.l2413, hM.l2414, hM.l2415, hM.l2416, hM.l2417, hM.l2418, hM.l2419, hM.l2420, hM.l2421, hM.l2422, hM.l2423, ↓hM.g1, ↓hM.g5, ↓hM.g6, ↓hM.g7, ↓hM.g8, ↓hM.g9, ↓hM.g10, ↓hM.g11, ↓hM.g12, ↓hM.g13, ↓hM.g14, ↓hM.g16, ↓hM.g17, ↓hM.g18, ↓hM.g19, ↓hM.g21, ↓hM.g22, ↓hM.g23, ↓hM.g24, ↓hM.g25, ↓hM.g27, ↓hM.g28, ↓hM.g30, ↓hM.g31, ↓hM.g32, ↓hM.g36, ↓hM.g37, ↓hM.g39, ↓hM.g40, ↓hM.g41, ↓hM.g43, ↓hM.g45, ↓hM.g46, ↓zB_c ev, zB_c ev, p1, hls, h21, f03, hix, ebd, c20', e1, hm1, ↓zB_c e, zB_c e]
  · -- VAR
    have h0 : a.2.2.2.length = 0 := by rw [hx, hst, pp, z_p_1 (kd.symm.trans g)]
    rw [g, if_neg (by decide), if_pos rfl]
    obtain ⟨m', e, x1, r1⟩ := push h0 (y_rd P h a)
    refine ⟨m', ?_, x1, r1⟩
    have hv : z_isV (z_bd P (y_qm h a.1)) a.2.1 = true := by unfold z_isV; rw [kd.symm.trans g]; rfl
    rw [z_mbn_v hv] at ebd
    obtain ⟨q1, q2⟩ := y_rd_ok hP hCH.1 hI (Or.inl g)
    unfold y_rd at e
    by_cases gb : y_bd P h a < 1000
    · rw [if_pos gb] at e
      obtain ⟨sl, v, r1', r2, _, r3⟩ := q1 gb
      rw [r1', r2] at e
      have gb' : z_Bd P (y_qm h a.1) a.2.1 < 1000 := gb
      have hsl : sl < 62 := by
        rcases r3 with ⟨g, _⟩ | ⟨g, _⟩ | ⟨j, g, _, hj⟩
        · omega
        · omega
        · have : j < (z_bd P (y_qm h a.1)).length := hj
          omega
      obtain ⟨e246, hix2⟩ := f246_r (S := S) (m := m1) a.1 (l := (y_l P h a).length) (show (z_bd P (y_qm h a.1)).length ≤ 192 by omega) h21 r3
      have e246 : f246 2390 (nI a.1) (z_Bd P (y_qm h a.1) a.2.1) (z_hp S m1) = some (nI (194 * a.1 + y_sr sl), z_hp S m1) := e246
      obtain ⟨w1, w2⟩ := (hF1 a.1 (Nat.le_refl _)).2.2 sl v hsl r2
      have e : f242 2390 v.1 v.2 (z_hp S m1) = some ((), z_hp S m') := e
      unfold f249 f249_124 f249_150 f249_175 f249_197 f249_469
      simp (disch := ((try simp only [true_or, or_true, hM.k, hM.k2391, hM.k2392, hM.k2393, hM.k2394, hM.k2395, hM.k2396, hM.k2397, hM.k2398, hM.k2399, hM.k2400, hM.k2401, hM.k2402, hM.k2403, hM.k2404, hM.k2405, hM.k2406, hM.k2407, hM.k2408, hM.k2409, hM.k2410, hM.k2411, hM.k2412, hM.k2413, hM.k2414, hM.k2415, hM.k2416, hM.k2417, hM.k2418, hM.k2419, hM.k2420, hM.k2421, hM.k2422, hM.k2423, hM.l2391, hM.l2392, hM.l2393, hM.l2394, hM.l2395, hM.l2396, hM.l2397, hM.l2398, hM.l2399, hM.l2400, hM.l2401, hM.l2402, hM.l2403, hM.l2404, hM.l2405, hM.l2406, hM.l2407, hM.l2408, hM.l2409, hM.l2410, hM.l2411, hM.l2412, hM.l2413, hM.l2414, hM.l2415, hM.l2416, hM.l2417, hM.l2418, hM.l2419, hM.l2420, hM.l2421, hM.l2422, hM.l2423]) <;> (try omega))) only [↓reduceIte, ↓z_ite, ↓zR, ↓zB_R, ↓zB_B, ↓zB_ite, ↓zB_gI, ↓zB_pI, ↓zB_pZ, ↓zB_aK, ↓zB_G, ↓zB_lI, ↓zB_lZ, ↓zB_wI, ↓zB_wZ, ↓zB_lIl, ↓zB_wIl, zB_pI, zB_pZ, zB_lI, zB_lZ, zB_wI, zB_wZ, z_addl, z_ladd, z_mull, z_lmul, nI_add, z_subl, Nat.not_lt_zero, z_10, z_01, z_bitc, z_b0, z_b1, ↓zB_Gb, ↓zB_G0, ↓zB_G1, z_eql, z_leq, z_ltl, z_llt, z_eq, z_lt, z_m1lt, hM.k, hM.k2391, hM.k2392, hM.k2393, hM.k2394, hM.k2395, hM.k2396, hM.k2397, hM.k2398, hM.k2399, hM.k2400, hM.k2401, hM.k2402, hM.k2403, hM.k2404, hM.k2405, hM.k2406, hM.k2407, hM.k2408, hM.k2409, hM.k2410, hM.k2411, hM.k2412, hM.k2413, hM.k2414, hM.k2415, hM.k2416, hM.k2417, hM.k2418, hM.k2419, hM.k2420, hM.k2421, hM.k2422, hM.k2423, hM.l2391, hM.l2392, hM.l2393, hM.l2394, hM.l2395, hM.l2396, hM.l2397, hM.l2398, hM.l2399, hM.l2400, hM.l2401, hM.l2402, hM.l2403, hM.l2404, hM.l2405, hM.l2406, hM.l2407, hM.l2408, hM.l2409, hM.l2410, hM.l2411, hM.l2412, hM.l2413, hM.l2414, hM.l2415, hM.l2416, hM.l2417, hM.l2418, hM.l2419, hM.l2420, hM.l2421, hM.l2422, hM.l2423, ↓hM.g1, ↓hM.g5, ↓hM.g6, ↓hM.g7, ↓hM.g8, ↓hM.g9, ↓hM.g10, ↓hM.g11, ↓hM.g12, ↓hM.g13, ↓hM.g14, ↓hM.g16, ↓hM.g17, ↓hM.g18, ↓hM.g19, ↓hM.g21, ↓hM.g22, ↓hM.g23, ↓hM.g24, ↓hM.g25, ↓hM.g27, ↓hM.g28, ↓hM.g30, ↓hM.g31, ↓hM.g32, ↓hM.g36, ↓hM.g37, ↓hM.g39, ↓hM.g40, ↓hM.g41, ↓hM.g43, ↓hM.g45, ↓hM.g46, ↓zB_c ev, zB_c ev, p1, hls, h21, f03, hix, ebd, c20', e1, hm1, gb', ↓zB_c e246, zB_c e246, hix2, w1, w2, ↓zB_c e, zB_c e, show ¬ (1 : Int32) = 0 by decide, show ¬ (1 : Int32) = 2 by decide, show ¬ (1 : Int32) = 8 by decide]
    · rw [if_neg gb] at e
      obtain ⟨f, c, r1', r2, _, _, _, _⟩ := q2 gb
      have gb' : ¬ z_Bd P (y_qm h a.1) a.2.1 < 1000 := gb
      have r2 : z_v (z_bd P (y_qm h a.1)) a.2.1 = nI f := r2
      rw [r2] at ev
      rw [show y_v P h a = nI f from r2, nI_clamp (by omega)] at e
      obtain ⟨w1, w2⟩ := (hO1.2 _ hm.2.2.1).2 f r1'
      have ex : 16 * nI (y_qo h a.1) + nI f = nI (16 * y_qo h a.1 + f) := by rw [show 16 * nI (y_qo h a.1) = nI (16 * y_qo h a.1) from z_lmul _ 16, nI_add]
      have hix2 : 16 * y_qo h a.1 + f < 8320 := by have := hm.2.2.1; omega
      unfold f249 f249_124 f249_150 f249_175 f249_197 f249_469
      simp (disch := ((try simp only [true_or, or_true, hM.k, hM.k2391, hM.k2392, hM.k2393, hM.k2394, hM.k2395, hM.k2396, hM.k2397, hM.k2398, hM.k2399, hM.k2400, hM.k2401, hM.k2402, hM.k2403, hM.k2404, hM.k2405, hM.k2406, hM.k2407, hM.k2408, hM.k2409, hM.k2410, hM.k2411, hM.k2412, hM.k2413, hM.k2414, hM.k2415, hM.k2416, hM.k2417, hM.k2418, hM.k2419, hM.k2420, hM.k2421, hM.k2422, hM.k2423, hM.l2391, hM.l2392, hM.l2393, hM.l2394, hM.l2395, hM.l2396, hM.l2397, hM.l2398, hM.l2399, hM.l2400, hM.l2401, hM.l2402, hM.l2403, hM.l2404, hM.l2405, hM.l2406, hM.l2407, hM.l2408, hM.l2409, hM.l2410, hM.l2411, hM.l2412, hM.l2413, hM.l2414, hM.l2415, hM.l2416, hM.l2417, hM.l2418, hM.l2419, hM.l2420, hM.l2421, hM.l2422, hM.l2423]) <;> (try omega))) only [↓reduceIte, ↓z_ite, ↓zR, ↓zB_R, ↓zB_B, ↓zB_ite, ↓zB_gI, ↓zB_pI, ↓zB_pZ, ↓zB_aK, ↓zB_G, ↓zB_lI, ↓zB_lZ, ↓zB_wI, ↓zB_wZ, ↓zB_lIl, ↓zB_wIl, zB_pI, zB_pZ, zB_lI, zB_lZ, zB_wI, zB_wZ, z_addl, z_ladd, z_mull, z_lmul, nI_add, z_subl, Nat.not_lt_zero, z_10, z_01, z_bitc, z_b0, z_b1, ↓zB_Gb, ↓zB_G0, ↓zB_G1, z_eql, z_leq, z_ltl, z_llt, z_eq, z_lt, z_m1lt, hM.k, hM.k2391, hM.k2392, hM.k2393, hM.k2394, hM.k2395, hM.k2396, hM.k2397, hM.k2398, hM.k2399, hM.k2400, hM.k2401, hM.k2402, hM.k2403, hM.k2404, hM.k2405, hM.k2406, hM.k2407, hM.k2408, hM.k2409, hM.k2410, hM.k2411, hM.k2412, hM.k2413, hM.k2414, hM.k2415, hM.k2416, hM.k2417, hM.k2418, hM.k2419, hM.k2420, hM.k2421, hM.k2422, hM.k2423, hM.l2391, hM.l2392, hM.l2393, hM.l2394, hM.l2395, hM.l2396, hM.l2397, hM.l2398, hM.l2399, hM.l2400, hM.l2401, hM.l2402, hM.l2403, hM.l2404, hM.l2405, hM.l2406, hM.l2407, hM.l2408, hM.l2409, hM.l2410, hM.l2411, hM.l2412, hM.l2413, hM.l2414, hM.l2415, hM.l2416, hM.l2417, hM.l2418, hM.l2419, hM.l2420, hM.l2421, hM.l2422, hM.l2423, ↓hM.g1, ↓hM.g5, ↓hM.g6, ↓hM.g7, ↓hM.g8, ↓hM.g9, ↓hM.g10, ↓hM.g11, ↓hM.g12, ↓hM.g13, ↓hM.g14, ↓hM.g16, ↓hM.g17, ↓hM.g18, ↓hM.g19, ↓hM.g21, ↓hM.g22, ↓hM.g23, ↓hM.g24, ↓hM.g25, ↓hM.g27, ↓hM.g28, ↓hM.g30, ↓hM.g31, ↓hM.g32, ↓hM.g36, ↓hM.g37, ↓hM.g39, ↓hM.g40, ↓hM.g41, ↓hM.g43, ↓hM.g45, ↓hM.g46, ↓zB_c ev, zB_c ev, p1, hls, h21, f03, hix, ebd, c20', e1, hm1, gb', ex, hix2, w1, w2, ↓zB_c e, zB_c e, show ¬ (1 : Int32) = 0 by decide, show ¬ (1 : Int32) = 2 by decide, show ¬ (1 : Int32) = 8 by decide]
  · -- THIS
    have h0 : a.2.2.2.length = 0 := by rw [hx, hst, pp, z_p_2 (kd.symm.trans g)]
    rw [g, if_neg (by decide), if_neg (by decide), if_pos rfl]
    obtain ⟨m', e, x1, r1⟩ := push h0 (1, nI (y_qo h a.1))
    have e : f242 2390 1 (nI (y_qo h a.1)) (z_hp S m1) = some ((), z_hp S m') := e
    refine ⟨m', ?_, x1, r1⟩
    unfold f249 f249_469
    simp (disch := ((try simp only [true_or, or_true, hM.k, hM.k2391, hM.k2392, hM.k2393, hM.k2394, hM.k2395, hM.k2396, hM.k2397, hM.k2398, hM.k2399, hM.k2400, hM.k2401, hM.k2402, hM.k2403, hM.k2404, hM.k2405, hM.k2406, hM.k2407, hM.k2408, hM.k2409, hM.k2410, hM.k2411, hM.k2412, hM.k2413, hM.k2414, hM.k2415, hM.k2416, hM.k2417, hM.k2418, hM.k2419, hM.k2420, hM.k2421, hM.k2422, hM.k2423, hM.l2391, hM.l2392, hM.l2393, hM.l2394, hM.l2395, hM.l2396, hM.l2397, hM.l2398, hM.l2399, hM.l2400, hM.l2401, hM.l2402, hM.l2403, hM.l2404, hM.l2405, hM.l2406, hM.l2407, hM.l2408, hM.l2409, hM.l2410, hM.l2411, hM.l2412, hM.l2413, hM.l2414, hM.l2415, hM.l2416, hM.l2417, hM.l2418, hM.l2419, hM.l2420, hM.l2421, hM.l2422, hM.l2423]) <;> (try omega))) only [↓reduceIte, ↓z_ite, ↓zR, ↓zB_R, ↓zB_B, ↓zB_ite, ↓zB_gI, ↓zB_pI, ↓zB_pZ, ↓zB_aK, ↓zB_G, ↓zB_lI, ↓zB_lZ, ↓zB_wI, ↓zB_wZ, ↓zB_lIl, ↓zB_wIl, zB_pI, zB_pZ, zB_lI, zB_lZ, zB_wI, zB_wZ, z_addl, z_ladd, z_mull, z_lmul, nI_add, z_subl, Nat.not_lt_zero, z_10, z_01, z_bitc, z_b0, z_b1, ↓zB_Gb, ↓zB_G0, ↓zB_G1, z_eql, z_leq, z_ltl, z_llt, z_eq, z_lt, z_m1lt, hM.k, hM.k2391, hM.k2392, hM.k2393, hM.k2394, hM.k2395, hM.k2396, hM.k2397, hM.k2398, hM.k2399, hM.k2400, hM.k2401, hM.k2402, hM.k2403, hM.k2404, hM.k2405, hM.k2406, hM.k2407, hM.k2408, hM.k2409, hM.k2410, hM.k2411, hM.k2412, hM.k2413, hM.k2414, hM.k2415, hM.k2416, hM.k2417, hM.k2418, hM.k2419, hM.k2420, hM.k2421, hM.k2422, hM.k2423, hM.l2391, hM.l2392, hM.l2393, hM.l2394, hM.l2395, hM.l2396, hM.l2397, hM.l2398, hM.l2399, hM.l2400, hM.l2401, hM.l2402, hM.l2403, hM.l2404, hM.l2405, hM.l2406, hM.l2407, hM.l2408, hM.l2409, hM.l2410, hM.l2411, hM.l2412, hM.l2413, hM.l2414, hM.l2415, hM.l2416, hM.l2417, hM.l2418, hM.l2419, hM.l2420, hM.l2421, hM.l2422, hM.l2423, ↓hM.g1, ↓hM.g5, ↓hM.g6, ↓hM.g7, ↓hM.g8, ↓hM.g9, ↓hM.g10, ↓hM.g11, ↓hM.g12, ↓hM.g13, ↓hM.g14, ↓hM.g16, ↓hM.g17, ↓hM.g18, ↓hM.g19, ↓hM.g21, ↓hM.g22, ↓hM.g23, ↓hM.g24, ↓hM.g25, ↓hM.g27, ↓hM.g28, ↓hM.g30, ↓hM.g31, ↓hM.g32, ↓hM.g36, ↓hM.g37, ↓hM.g39, ↓hM.g40, ↓hM.g41, ↓hM.g43, ↓hM.g45, ↓hM.g46, ↓zB_c ev, zB_c ev, p1, hls, h21, f03, hix, ebd, c20', e1, hm1, ↓zB_c e, zB_c e, show ¬ (2 : Int32) = 0 by decide]
  · -- FIELD
    have p1' : y_p P h a = 1 := z_p_3 (kd.symm.trans g)
    have hl1 : a.2.2.2.length = 1 := by omega
    have sp : ¬ a.2.2.1 < y_p P h a := by omega
    obtain ⟨c, f, q, hc, t1, hf, ev', ef, hq, _, tq, _⟩ := z_access hw hm.1 hr hi (Or.inl g)
    have v0 := vt 0 (by omega)
    have rq0 : y_rq P h a 0 = z_Ty P (y_qm h a.1) (y_pt P h a 0) := by
      unfold y_rq
      rw [if_neg, ]
      rintro (⟨_, q⟩ | q | ⟨q, _⟩)
      · exact absurd q (by decide)
      · exact k13 q
      · exact k7 q
    rw [rq0] at v0
    have v0 : y_vt P h (nI c) (y_g a.2.2.2 0) := by rw [← t1]; exact v0
    obtain ⟨w1, w2⟩ := hvals1 0 (by omega)
    have w1 : m1 2411 (y_rh P h s) = (y_g a.2.2.2 0).1 := w1
    have w2 : m1 2412 (y_rh P h s) = (y_g a.2.2.2 0).2 := w2
    rw [hl1] at d26
    have e2 : nI (y_rh P h s + 1) - 1 = nI (y_rh P h s) := z_subl (k := 1) (by omega)
    have hne5 : ¬ (y_k P h a = 5 ∨ y_k P h a = 9 ∨ y_k P h a = 10 ∨ y_k P h a = 13) := by rw [g]; decide
    rw [if_neg (by rw [g]; decide), if_neg (by rw [g]; decide), if_neg (by rw [g]; decide), if_neg (by rw [g]; decide), if_neg hne5, if_neg sp]
    unfold y_ap
    rw [if_pos g, g]
    have ev2 : y_v P h a = nI f := ev'
    rw [ev'] at ev
    by_cases g2 : (y_g a.2.2.2 0).1 = 2
    · rw [if_pos g2]
      rw [g2] at w1
      obtain ⟨m', e, x1, r1⟩ := f244_top (S := S) hP hM hB hQ0 hG1 (e := 4) (w := 0) (L := 1) (x := 0) (Or.inl ⟨rfl, rfl, rfl⟩) (fun q => absurd q (by decide)) d20 (by rw [fr90 33 (by decide)]; exact c33) (by rw [fr90 34 (by decide)]; exact c34) (by rw [fr90 35 (by decide)]; exact c35) hS1 hO1 hF1
      refine ⟨m', ?_, x1, hR1.trans r1⟩
      unfold f249 f249_469 f251 f251_14
      simp (disch := ((try simp only [true_or, or_true, hM.k, hM.k2391, hM.k2392, hM.k2393, hM.k2394, hM.k2395, hM.k2396, hM.k2397, hM.k2398, hM.k2399, hM.k2400, hM.k2401, hM.k2402, hM.k2403, hM.k2404, hM.k2405, hM.k2406, hM.k2407, hM.k2408, hM.k2409, hM.k2410, hM.k2411, hM.k2412, hM.k2413, hM.k2414, hM.k2415, hM.k2416, hM.k2417, hM.k2418, hM.k2419, hM.k2420, hM.k2421, hM.k2422, hM.k2423, hM.l2391, hM.l2392, hM.l2393, hM.l2394, hM.l2395, hM.l2396, hM.l2397, hM.l2398, hM.l2399, hM.l2400, hM.l2401, hM.l2402, hM.l2403, hM.l2404, hM.l2405, hM.l2406, hM.l2407, hM.l2408, hM.l2409, hM.l2410, hM.l2411, hM.l2412, hM.l2413, hM.l2414, hM.l2415, hM.l2416, hM.l2417, hM.l2418, hM.l2419, hM.l2420, hM.l2421, hM.l2422, hM.l2423]) <;> (try omega))) only [↓reduceIte, ↓z_ite, ↓zR, ↓zB_R, ↓zB_B, ↓zB_ite, ↓zB_gI, ↓zB_pI, ↓zB_pZ, ↓zB_aK, ↓zB_G, ↓zB_lI, ↓zB_lZ, ↓zB_wI, ↓zB_wZ, ↓zB_lIl, ↓zB_wIl, zB_pI, zB_pZ, zB_lI, zB_lZ, zB_wI, zB_wZ, z_addl, z_ladd, z_mull, z_lmul, nI_add, z_subl, Nat.not_lt_zero, z_10, z_01, z_bitc, z_b0, z_b1, ↓zB_Gb, ↓zB_G0, ↓zB_G1, z_eql, z_leq, z_ltl, z_llt, z_eq, z_lt, z_m1lt, hM.k, hM.k2391, hM.k2392, hM.k2393, hM.k2394, hM.k2395, hM.k2396, hM.k2397, hM.k2398, hM.k2399, hM.k2400, hM.k2401, hM.k2402, hM.k2403, hM.k2404, hM.k2405, hM.k2406, hM.k2407, hM.k2408, hM.k2409, hM.k2410, hM.k2411, hM.k2412, hM.k2413, hM.k2414, hM.k2415, hM.k2416, hM.k2417, hM.k2418, hM.k2419, hM.k2420, hM.k2421, hM.k2422, hM.k2423, hM.l2391, hM.l2392, hM.l2393, hM.l2394, hM.l2395, hM.l2396, hM.l2397, hM.l2398, hM.l2399, hM.l2400, hM.l2401, hM.l2402, hM.l2403, hM.l2404, hM.l2405, hM.l2406, hM.l2407, hM.l2408, hM.l2409, hM.l2410, hM.l2411, hM.l2412, hM.l2413, hM.l2414, hM.l2415, hM.l2416, hM.l2417, hM.l2418, hM.l2419, hM.l2420, hM.l2421, hM.l2422, hM.l2423, ↓hM.g1, ↓hM.g5, ↓hM.g6, ↓hM.g7, ↓hM.g8, ↓hM.g9, ↓hM.g10, ↓hM.g11, ↓hM.g12, ↓hM.g13, ↓hM.g14, ↓hM.g16, ↓hM.g17, ↓hM.g18, ↓hM.g19, ↓hM.g21, ↓hM.g22, ↓hM.g23, ↓hM.g24, ↓hM.g25, ↓hM.g27, ↓hM.g28, ↓hM.g30, ↓hM.g31, ↓hM.g32, ↓hM.g36, ↓hM.g37, ↓hM.g39, ↓hM.g40, ↓hM.g41, ↓hM.g43, ↓hM.g45, ↓hM.g46, ↓zB_c ev, zB_c ev, p1, hls, h21, f03, hix, ebd, c20', e1, hm1, d26, e2, hh, w1, ↓zB_c e, zB_c e, show ¬ (3 : Int32) = 0 by decide, show ¬ (3 : Int32) = 2 by decide, show ¬ (3 : Int32) = 8 by decide, show ¬ (3 : Int32) = 1 by decide, show ¬ (3 : Int32) = 6 by decide, show ¬ (3 : Int32) = 9 by decide, show ¬ (3 : Int32) = 11 by decide, show ¬ (3 : Int32) = 12 by decide, show ¬ (3 : Int32) = 4 by decide]
    · rw [if_neg g2]
      obtain ⟨v1, o, ho, v2, hco, hbo⟩ := y_vt_cls hw hc v0 g2
      have hoe : y_o a.2.2.2 = o := by unfold y_o; rw [v2, nI_clamp (by omega)]
      have g2' : ¬ (1 : Int32) = 2 := by decide
      rw [v1] at w1
      rw [v2] at w2
      rw [hoe, ev2, nI_clamp (by omega)]
      obtain ⟨t1', t2'⟩ := (hO1.2 o ho).2 f hf
      have ex : 16 * nI o + nI f = nI (16 * o + f) := by rw [show 16 * nI o = nI (16 * o) from z_lmul _ 16, nI_add]
      have hix2 : 16 * o + f < 8320 := by omega
      generalize hm2 : z_up m1 2390 26 (nI (y_rh P h s)) = m2
      have s1 : ∀ c, c ≠ 2390 → m2 c = m1 c := fun c x => by rw [← hm2, z_up_row x]
      have s90 : ∀ j, j ≠ 26 → m2 2390 j = m1 2390 j := fun j x => by rw [← hm2, z_up_b x]
      obtain ⟨m', e, x1, r1⟩ := f242_fin (S := S) hM hQ0 hC0 (m1 := m2) hid (by rw [s90 20 (by decide)]; exact d20) (fun j hj => by rw [s90 j (by omega), fr90 j (by omega)]) (by rw [s90 15 (by decide)]; exact d15) (by rw [← hm2, z_up_s]) hh (fun c x y => by rw [s1 c (by omega), fr1 c (by omega)]) (y_rO_fr (s90 29 (by decide)) (fun c x y => s1 c (by omega)) hO1) (y_rF_fr (fun c x y => s1 c (by omega)) hF1) (hR1.trans ⟨fun c _ y => s1 c y, fun j _ _ y _ _ _ _ => s90 j y⟩) (y_qf h o f)
      refine ⟨m', ?_, x1, r1⟩
      have t1'' : m2 2414 (16 * o + f) = (y_qf h o f).1 := by rw [s1 2414 (by decide)]; exact t1'
      have t2'' : m2 2415 (16 * o + f) = (y_qf h o f).2 := by rw [s1 2415 (by decide)]; exact t2'
      unfold f249 f249_469 f251 f251_14 f251_87
      simp (disch := ((try simp only [true_or, or_true, hM.k, hM.k2391, hM.k2392, hM.k2393, hM.k2394, hM.k2395, hM.k2396, hM.k2397, hM.k2398, hM.k2399, hM.k2400, hM.k2401, hM.k2402, hM.k2403, hM.k2404, hM.k2405, hM.k2406, hM.k2407, hM.k2408, hM.k2409, hM.k2410, hM.k2411, hM.k2412, hM.k2413, hM.k2414, hM.k2415, hM.k2416, hM.k2417, hM.k2418, hM.k2419, hM.k2420, hM.k2421, hM.k2422, hM.k2423, hM.l2391, hM.l2392, hM.l2393, hM.l2394, hM.l2395, hM.l2396, hM.l2397, hM.l2398, hM.l2399, hM.l2400, hM.l2401, hM.l2402, hM.l2403, hM.l2404, hM.l2405, hM.l2406, hM.l2407, hM.l2408, hM.l2409, hM.l2410, hM.l2411, hM.l2412, hM.l2413, hM.l2414, hM.l2415, hM.l2416, hM.l2417, hM.l2418, hM.l2419, hM.l2420, hM.l2421, hM.l2422, hM.l2423]) <;> (try omega))) only [↓reduceIte, ↓z_ite, ↓zR, ↓zB_R, ↓zB_B, ↓zB_ite, ↓zB_gI, ↓zB_pI, ↓zB_pZ, ↓zB_aK, ↓zB_G, ↓zB_lI, ↓zB_lZ, ↓zB_wI, ↓zB_wZ, ↓zB_lIl, ↓zB_wIl, zB_pI, zB_pZ, zB_lI, zB_lZ, zB_wI, zB_wZ, z_addl, z_ladd, z_mull, z_lmul, nI_add, z_subl, Nat.not_lt_zero, z_10, z_01, z_bitc, z_b0, z_b1, ↓zB_Gb, ↓zB_G0, ↓zB_G1, z_eql, z_leq, z_ltl, z_llt, z_eq, z_lt, z_m1lt, hM.k, hM.k2391, hM.k2392, hM.k2393, hM.k2394, hM.k2395, hM.k2396, hM.k2397, hM.k2398, hM.k2399, hM.k2400, hM.k2401, hM.k2402, hM.k2403, hM.k2404, hM.k2405, hM.k2406, hM.k2407, hM.k2408, hM.k2409, hM.k2410, hM.k2411, hM.k2412, hM.k2413, hM.k2414, hM.k2415, hM.k2416, hM.k2417, hM.k2418, hM.k2419, hM.k2420, hM.k2421, hM.k2422, hM.k2423, hM.l2391, hM.l2392, hM.l2393, hM.l2394, hM.l2395, hM.l2396, hM.l2397, hM.l2398, hM.l2399, hM.l2400, hM.l2401, hM.l2402, hM.l2403, hM.l2404, hM.l2405, hM.l2406, hM.l2407, hM.l2408, hM.l2409, hM.l2410, hM.l2411, hM.l2412, hM.l2413, hM.l2414, hM.l2415, hM.l2416, hM.l2417, hM.l2418, hM.l2419, hM.l2420, hM.l2421, hM.l2422, hM.l2423, ↓hM.g1, ↓hM.g5, ↓hM.g6, ↓hM.g7, ↓hM.g8, ↓hM.g9, ↓hM.g10, ↓hM.g11, ↓hM.g12, ↓hM.g13, ↓hM.g14, ↓hM.g16, ↓hM.g17, ↓hM.g18, ↓hM.g19, ↓hM.g21, ↓hM.g22, ↓hM.g23, ↓hM.g24, ↓hM.g25, ↓hM.g27, ↓hM.g28, ↓hM.g30, ↓hM.g31, ↓hM.g32, ↓hM.g36, ↓hM.g37, ↓hM.g39, ↓hM.g40, ↓hM.g41, ↓hM.g43, ↓hM.g45, ↓hM.g46, ↓zB_c ev, zB_c ev, p1, hls, h21, f03, hix, ebd, c20', e1, hm1, d26, e2, hh, w1, w2, g2', ex, hix2, hm2, t1'', t2'', ↓zB_c e, zB_c e, show ¬ (3 : Int32) = 0 by decide, show ¬ (3 : Int32) = 2 by decide, show ¬ (3 : Int32) = 8 by decide, show ¬ (3 : Int32) = 1 by decide, show ¬ (3 : Int32) = 6 by decide, show ¬ (3 : Int32) = 9 by decide, show ¬ (3 : Int32) = 11 by decide, show ¬ (3 : Int32) = 12 by decide, show ¬ (3 : Int32) = 4 by decide]
  · -- PUT
    have p1' : y_p P h a = 2 := z_p_4 (kd.symm.trans g)
    have hl1 : a.2.2.2.length = 2 := by omega
    have sp : ¬ a.2.2.1 < y_p P h a := by omega
    obtain ⟨c, f, q, hc, t1, hf, ev', ef, hq, _, tq, _⟩ := z_access hw hm.1 hr hi (Or.inr g)
    have v0 := vt 0 (by omega)
    have rqj : ∀ j, j < y_p P h a → y_rq P h a j = z_Ty P (y_qm h a.1) (y_pt P h a j) := fun j hj => by
      unfold y_rq
      rw [if_neg]
      rintro (⟨q, _⟩ | q | ⟨q, _⟩)
      · rw [g] at q; exact absurd q (by decide)
      · exact k13 q
      · exact k7 q
    rw [rqj 0 (by omega)] at v0
    have v0 : y_vt P h (nI c) (y_g a.2.2.2 0) := by rw [← t1]; exact v0
    obtain ⟨w1, w2⟩ := hvals1 0 (by omega)
    have w1 : m1 2411 (y_rh P h s) = (y_g a.2.2.2 0).1 := w1
    have w2 : m1 2412 (y_rh P h s) = (y_g a.2.2.2 0).2 := w2
    obtain ⟨w3, w4⟩ := hvals1 1 (by omega)
    rw [hl1] at d26
    have e2 : nI (y_rh P h s + 2) - 2 = nI (y_rh P h s) := z_subl (k := 2) (by omega)
    have hh1 : y_rh P h s + 1 < 4000 := by omega
    have hne5 : ¬ (y_k P h a = 5 ∨ y_k P h a = 9 ∨ y_k P h a = 10 ∨ y_k P h a = 13) := by rw [g]; decide
    rw [if_neg (by rw [g]; decide), if_neg (by rw [g]; decide), if_neg (by rw [g]; decide), if_neg (by rw [g]; decide), if_neg hne5, if_neg sp]
    unfold y_ap
    rw [if_neg (by rw [g]; decide), if_pos g, g]
    have ev2 : y_v P h a = nI f := ev'
    rw [ev'] at ev
    by_cases g2 : (y_g a.2.2.2 0).1 = 2
    · rw [if_pos g2]
      rw [g2] at w1
      obtain ⟨m', e, x1, r1⟩ := f244_top (S := S) hP hM hB hQ0 hG1 (e := 4) (w := 0) (L := 1) (x := 0) (Or.inl ⟨rfl, rfl, rfl⟩) (fun q => absurd q (by decide)) d20 (by rw [fr90 33 (by decide)]; exact c33) (by rw [fr90 34 (by decide)]; exact c34) (by rw [fr90 35 (by decide)]; exact c35) hS1 hO1 hF1
      refine ⟨m', ?_, x1, hR1.trans r1⟩
      unfold f249 f251 f251_14 f249_469
      simp (disch := ((try simp only [true_or, or_true, hM.k, hM.k2391, hM.k2392, hM.k2393, hM.k2394, hM.k2395, hM.k2396, hM.k2397, hM.k2398, hM.k2399, hM.k2400, hM.k2401, hM.k2402, hM.k2403, hM.k2404, hM.k2405, hM.k2406, hM.k2407, hM.k2408, hM.k2409, hM.k2410, hM.k2411, hM.k2412, hM.k2413, hM.k2414, hM.k2415, hM.k2416, hM.k2417, hM.k2418, hM.k2419, hM.k2420, hM.k2421, hM.k2422, hM.k2423, hM.l2391, hM.l2392, hM.l2393, hM.l2394, hM.l2395, hM.l2396, hM.l2397, hM.l2398, hM.l2399, hM.l2400, hM.l2401, hM.l2402, hM.l2403, hM.l2404, hM.l2405, hM.l2406, hM.l2407, hM.l2408, hM.l2409, hM.l2410, hM.l2411, hM.l2412, hM.l2413, hM.l2414, hM.l2415, hM.l2416, hM.l2417, hM.l2418, hM.l2419, hM.l2420, hM.l2421, hM.l2422, hM.l2423]) <;> (try omega))) only [↓reduceIte, ↓z_ite, ↓zR, ↓zB_R, ↓zB_B, ↓zB_ite, ↓zB_gI, ↓zB_pI, ↓zB_pZ, ↓zB_aK, ↓zB_G, ↓zB_lI, ↓zB_lZ, ↓zB_wI, ↓zB_wZ, ↓zB_lIl, ↓zB_wIl, zB_pI, zB_pZ, zB_lI, zB_lZ, zB_wI, zB_wZ, z_addl, z_ladd, z_mull, z_lmul, nI_add, z_subl, Nat.not_lt_zero, z_10, z_01, z_bitc, z_b0, z_b1, ↓zB_Gb, ↓zB_G0, ↓zB_G1, z_eql, z_leq, z_ltl, z_llt, z_eq, z_lt, z_m1lt, hM.k, hM.k2391, hM.k2392, hM.k2393, hM.k2394, hM.k2395, hM.k2396, hM.k2397, hM.k2398, hM.k2399, hM.k2400, hM.k2401, hM.k2402, hM.k2403, hM.k2404, hM.k2405, hM.k2406, hM.k2407, hM.k2408, hM.k2409, hM.k2410, hM.k2411, hM.k2412, hM.k2413, hM.k2414, hM.k2415, hM.k2416, hM.k2417, hM.k2418, hM.k2419, hM.k2420, hM.k2421, hM.k2422, hM.k2423, hM.l2391, hM.l2392, hM.l2393, hM.l2394, hM.l2395, hM.l2396, hM.l2397, hM.l2398, hM.l2399, hM.l2400, hM.l2401, hM.l2402, hM.l2403, hM.l2404, hM.l2405, hM.l2406, hM.l2407, hM.l2408, hM.l2409, hM.l2410, hM.l2411, hM.l2412, hM.l2413, hM.l2414, hM.l2415, hM.l2416, hM.l2417, hM.l2418, hM.l2419, hM.l2420, hM.l2421, hM.l2422, hM.l2423, ↓hM.g1, ↓hM.g5, ↓hM.g6, ↓hM.g7, ↓hM.g8, ↓hM.g9, ↓hM.g10, ↓hM.g11, ↓hM.g12, ↓hM.g13, ↓hM.g14, ↓hM.g16, ↓hM.g17, ↓hM.g18, ↓hM.g19, ↓hM.g21, ↓hM.g22, ↓hM.g23, ↓hM.g24, ↓hM.g25, ↓hM.g27, ↓hM.g28, ↓hM.g30, ↓hM.g31, ↓hM.g32, ↓hM.g36, ↓hM.g37, ↓hM.g39, ↓hM.g40, ↓hM.g41, ↓hM.g43, ↓hM.g45, ↓hM.g46, ↓zB_c ev, zB_c ev, p1, hls, h21, f03, hix, ebd, c20', e1, hm1, d26, e2, hh, w1, ↓zB_c e, zB_c e, show ¬ (4 : Int32) = 0 by decide, show ¬ (4 : Int32) = 2 by decide, show ¬ (4 : Int32) = 8 by decide, show ¬ (4 : Int32) = 1 by decide, show ¬ (4 : Int32) = 6 by decide, show ¬ (4 : Int32) = 9 by decide, show ¬ (4 : Int32) = 11 by decide, show ¬ (4 : Int32) = 12 by decide]
    · rw [if_neg g2]
      obtain ⟨v1, o, ho, v2, hco, hbo⟩ := y_vt_cls hw hc v0 g2
      have hoe : y_o a.2.2.2 = o := by unfold y_o; rw [v2, nI_clamp (by omega)]
      have g2' : ¬ (1 : Int32) = 2 := by decide
      rw [v1] at w1
      rw [v2] at w2
      rw [hoe, ev2, nI_clamp (by omega)]
      have ex : 16 * nI o + nI f = nI (16 * o + f) := by rw [show 16 * nI o = nI (16 * o) from z_lmul _ 16, nI_add]
      have hix2 : 16 * o + f < 8320 := by omega
      generalize hm2 : z_up (z_up (z_up m1 2414 (16 * o + f) (y_g a.2.2.2 1).1) 2415 (16 * o + f) (y_g a.2.2.2 1).2) 2390 26 (nI (y_rh P h s)) = m2
      have s1 : ∀ c, c ≠ 2390 → c ≠ 2414 → c ≠ 2415 → m2 c = m1 c := fun c x y z => by rw [← hm2, z_up_row x, z_up_row z, z_up_row y]
      have s90 : ∀ j, j ≠ 26 → m2 2390 j = m1 2390 j := fun j x => by rw [← hm2, z_up_b x, y_u15, y_u14]
      have t14 : ∀ j, m2 2414 j = if j = 16 * o + f then (y_g a.2.2.2 1).1 else m1 2414 j := fun j => by rw [← hm2, z_up_row (by decide), z_up_row (by decide), z_up_k]
      have t15 : ∀ j, m2 2415 j = if j = 16 * o + f then (y_g a.2.2.2 1).2 else m1 2415 j := fun j => by rw [← hm2, z_up_row (by decide), z_up_k, z_up_row (by decide)]
      have hO2 : y_rO m2 (y_wf h o f (y_g a.2.2.2 1)) := ⟨by rw [s90 29 (by decide)]; exact hO1.1, fun o' ho' => ⟨by rw [s1 2413 (by decide) (by decide) (by decide)]; exact (hO1.2 o' ho').1, fun n' hn' => by
        show m2 2414 (16 * o' + n') = (if o' = o ∧ n' = f then y_g a.2.2.2 1 else y_qf h o' n').1 ∧ m2 2415 (16 * o' + n') = (if o' = o ∧ n' = f then y_g a.2.2.2 1 else y_qf h o' n').2
        rw [t14, t15]
        by_cases q : o' = o ∧ n' = f
        · rw [if_pos q, if_pos (by omega), if_pos (by omega)]; exact ⟨rfl, rfl⟩
        · rw [if_neg q, if_neg (by omega), if_neg (by omega)]; exact (hO1.2 o' ho').2 n' hn'⟩⟩
      obtain ⟨m', e, x1, r1⟩ := f242_fin (S := S) (h' := y_wf h o f (y_g a.2.2.2 1)) hM hQ0 hC0 (m1 := m2) (fun _ _ => rfl) (by rw [s90 20 (by decide)]; exact d20) (fun j hj => by rw [s90 j (by omega), fr90 j (by omega)]) (by rw [s90 15 (by decide)]; exact d15) (by rw [← hm2, z_up_s]) hh (fun c x y => by rw [s1 c (by omega) (by omega) (by omega), fr1 c (by omega)]) hO2 (y_rF_fr (fun c x y => s1 c (by omega) (by omega) (by omega)) hF1) (hR1.trans ⟨fun c x y => s1 c y (by omega) (by omega), fun j _ _ y _ _ _ _ => s90 j y⟩) (y_g a.2.2.2 1)
      refine ⟨m', ?_, x1, r1⟩
      have t1'' : m2 2414 (16 * o + f) = (y_g a.2.2.2 1).1 := by rw [t14, if_pos rfl]
      have t2'' : m2 2415 (16 * o + f) = (y_g a.2.2.2 1).2 := by rw [t15, if_pos rfl]
      have w4' : z_up m1 2414 (16 * o + f) (y_g a.2.2.2 1).1 2412 (y_rh P h s + 1) = (y_g a.2.2.2 1).2 := by rw [z_up_row (by decide)]; exact w4
      unfold f249 f251 f251_14 f251_87 f249_469
      simp (disch := ((try simp only [true_or, or_true, hM.k, hM.k2391, hM.k2392, hM.k2393, hM.k2394, hM.k2395, hM.k2396, hM.k2397, hM.k2398, hM.k2399, hM.k2400, hM.k2401, hM.k2402, hM.k2403, hM.k2404, hM.k2405, hM.k2406, hM.k2407, hM.k2408, hM.k2409, hM.k2410, hM.k2411, hM.k2412, hM.k2413, hM.k2414, hM.k2415, hM.k2416, hM.k2417, hM.k2418, hM.k2419, hM.k2420, hM.k2421, hM.k2422, hM.k2423, hM.l2391, hM.l2392, hM.l2393, hM.l2394, hM.l2395, hM.l2396, hM.l2397, hM.l2398, hM.l2399, hM.l2400, hM.l2401, hM.l2402, hM.l2403, hM.l2404, hM.l2405, hM.l2406, hM.l2407, hM.l2408, hM.l2409, hM.l2410, hM.l2411, hM.l2412, hM.l2413, hM.l2414, hM.l2415, hM.l2416, hM.l2417, hM.l2418, hM.l2419, hM.l2420, hM.l2421, hM.l2422, hM.l2423]) <;> (try omega))) only [↓reduceIte, ↓z_ite, ↓zR, ↓zB_R, ↓zB_B, ↓zB_ite, ↓zB_gI, ↓zB_pI, ↓zB_pZ, ↓zB_aK, ↓zB_G, ↓zB_lI, ↓zB_lZ, ↓zB_wI, ↓zB_wZ, ↓zB_lIl, ↓zB_wIl, zB_pI, zB_pZ, zB_lI, zB_lZ, zB_wI, zB_wZ, z_addl, z_ladd, z_mull, z_lmul, nI_add, z_subl, Nat.not_lt_zero, z_10, z_01, z_bitc, z_b0, z_b1, ↓zB_Gb, ↓zB_G0, ↓zB_G1, z_eql, z_leq, z_ltl, z_llt, z_eq, z_lt, z_m1lt, hM.k, hM.k2391, hM.k2392, hM.k2393, hM.k2394, hM.k2395, hM.k2396, hM.k2397, hM.k2398, hM.k2399, hM.k2400, hM.k2401, hM.k2402, hM.k2403, hM.k2404, hM.k2405, hM.k2406, hM.k2407, hM.k2408, hM.k2409, hM.k2410, hM.k2411, hM.k2412, hM.k2413, hM.k2414, hM.k2415, hM.k2416, hM.k2417, hM.k2418, hM.k2419, hM.k2420, hM.k2421, hM.k2422, hM.k2423, hM.l2391, hM.l2392, hM.l2393, hM.l2394, hM.l2395, hM.l2396, hM.l2397, hM.l2398, hM.l2399, hM.l2400, hM.l2401, hM.l2402, hM.l2403, hM.l2404, hM.l2405, hM.l2406, hM.l2407, hM.l2408, hM.l2409, hM.l2410, hM.l2411, hM.l2412, hM.l2413, hM.l2414, hM.l2415, hM.l2416, hM.l2417, hM.l2418, hM.l2419, hM.l2420, hM.l2421, hM.l2422, hM.l2423, ↓hM.g1, ↓hM.g5, ↓hM.g6, ↓hM.g7, ↓hM.g8, ↓hM.g9, ↓hM.g10, ↓hM.g11, ↓hM.g12, ↓hM.g13, ↓hM.g14, ↓hM.g16, ↓hM.g17, ↓hM.g18, ↓hM.g19, ↓hM.g21, ↓hM.g22, ↓hM.g23, ↓hM.g24, ↓hM.g25, ↓hM.g27, ↓hM.g28, ↓hM.g30, ↓hM.g31, ↓hM.g32, ↓hM.g36, ↓hM.g37, ↓hM.g39, ↓hM.g40, ↓hM.g41, ↓hM.g43, ↓hM.g45, ↓hM.g46, ↓zB_c ev, zB_c ev, p1, hls, h21, f03, hix, ebd, c20', e1, hm1, d26, e2, hh, w1, w2, g2', ex, hix2, hh1, w3, w4', hm2, t1'', t2'', ↓zB_c e, zB_c e, show ¬ (4 : Int32) = 0 by decide, show ¬ (4 : Int32) = 2 by decide, show ¬ (4 : Int32) = 8 by decide, show ¬ (4 : Int32) = 1 by decide, show ¬ (4 : Int32) = 6 by decide, show ¬ (4 : Int32) = 9 by decide, show ¬ (4 : Int32) = 11 by decide, show ¬ (4 : Int32) = 12 by decide]
  · -- SET
    have p1' : y_p P h a = 1 := z_p_6 (kd.symm.trans g)
    have hl1 : a.2.2.2.length = 1 := by omega
    have sp : ¬ a.2.2.1 < y_p P h a := by omega
    obtain ⟨w1, w2⟩ := hvals1 0 (by omega)
    have w1 : m1 2411 (y_rh P h s) = (y_g a.2.2.2 0).1 := w1
    have w2 : m1 2412 (y_rh P h s) = (y_g a.2.2.2 0).2 := w2
    rw [hl1] at d26
    have e2 : nI (y_rh P h s + 1) - 1 = nI (y_rh P h s) := z_subl (k := 1) (by omega)
    have hne5 : ¬ (y_k P h a = 5 ∨ y_k P h a = 9 ∨ y_k P h a = 10 ∨ y_k P h a = 13) := by rw [g]; decide
    rw [if_neg (by rw [g]; decide), if_neg (by rw [g]; decide), if_neg (by rw [g]; decide), if_neg (by rw [g]; decide), if_neg hne5, if_neg sp]
    unfold y_ap
    rw [if_neg (by rw [g]; decide), if_neg (by rw [g]; decide), if_pos g, g]
    have hv : z_isV (z_bd P (y_qm h a.1)) a.2.1 = true := by unfold z_isV; rw [kd.symm.trans g]; rfl
    rw [z_mbn_v hv] at ebd
    obtain ⟨q1, q2⟩ := y_rd_ok hP hCH.1 hI (Or.inr g)
    unfold y_wr
    by_cases gb : y_bd P h a < 1000
    · rw [if_pos gb]
      obtain ⟨sl, v, r1', r2, _, r3⟩ := q1 gb
      rw [r1']
      have gb' : z_Bd P (y_qm h a.1) a.2.1 < 1000 := gb
      have hsl : sl < 62 := by
        rcases r3 with ⟨g, _⟩ | ⟨g, _⟩ | ⟨j, g, _, hj⟩
        · omega
        · omega
        · have : j < (z_bd P (y_qm h a.1)).length := hj
          omega
      obtain ⟨e246, hix2⟩ := f246_r (S := S) (m := m1) a.1 (l := (y_l P h a).length) (show (z_bd P (y_qm h a.1)).length ≤ 192 by omega) h21 r3
      have e246 : f246 2390 (nI a.1) (z_Bd P (y_qm h a.1) a.2.1) (z_hp S m1) = some (nI (194 * a.1 + y_sr sl), z_hp S m1) := e246
      generalize hm2 : z_up (z_up m1 2404 (194 * a.1 + y_sr sl) (y_g a.2.2.2 0).1) 2405 (194 * a.1 + y_sr sl) (y_g a.2.2.2 0).2 = m2
      have s1 : ∀ c, c ≠ 2404 → c ≠ 2405 → m2 c = m1 c := fun c x y => by rw [← hm2, z_up_row y, z_up_row x]
      have t4 : ∀ j, m2 2404 j = if j = 194 * a.1 + y_sr sl then (y_g a.2.2.2 0).1 else m1 2404 j := fun j => by rw [← hm2, z_up_row (by decide), z_up_k]
      have t5 : ∀ j, m2 2405 j = if j = 194 * a.1 + y_sr sl then (y_g a.2.2.2 0).2 else m1 2405 j := fun j => by rw [← hm2, z_up_k, z_up_row (by decide)]
      refine ⟨m2, ?_, stay (h' := y_wl h a.1 sl (y_g a.2.2.2 0)) (fun _ _ => rfl) (by rw [s1 2390 (by decide) (by decide)]; exact d20) (fun j hj => by rw [s1 2390 (by decide) (by decide), fr90 j (by omega)]) (by rw [s1 2390 (by decide) (by decide)]; exact d15) (by rw [s1 2390 (by decide) (by decide)]; exact d26) (by rw [s1 2411 (by decide) (by decide), s1 2412 (by decide) (by decide)]; exact ⟨w1, w2⟩) (fun c x y => by rw [s1 c (by omega) (by omega), fr1 c (by omega)]) (fun c hc j _ => by rw [s1 c (by omega) (by omega), fr1 c (by omega)]) (y_rO_fr (by rw [s1 2390 (by decide) (by decide)]) (fun c x y => s1 c (by omega) (by omega)) hO1) (fun f hf => ?_), hR1.trans ⟨fun c x y => s1 c (by omega) (by omega), fun j _ _ _ _ _ _ _ => by rw [s1 2390 (by decide) (by decide)]⟩⟩
      · have w2' : z_up m1 2404 (194 * a.1 + y_sr sl) (y_g a.2.2.2 0).1 2412 (y_rh P h s) = (y_g a.2.2.2 0).2 := by rw [z_up_row (by decide)]; exact w2
        unfold f249 f249_224 f249_251 f250 f250_62 f249_469
        simp (disch := ((try simp only [true_or, or_true, hM.k, hM.k2391, hM.k2392, hM.k2393, hM.k2394, hM.k2395, hM.k2396, hM.k2397, hM.k2398, hM.k2399, hM.k2400, hM.k2401, hM.k2402, hM.k2403, hM.k2404, hM.k2405, hM.k2406, hM.k2407, hM.k2408, hM.k2409, hM.k2410, hM.k2411, hM.k2412, hM.k2413, hM.k2414, hM.k2415, hM.k2416, hM.k2417, hM.k2418, hM.k2419, hM.k2420, hM.k2421, hM.k2422, hM.k2423, hM.l2391, hM.l2392, hM.l2393, hM.l2394, hM.l2395, hM.l2396, hM.l2397, hM.l2398, hM.l2399, hM.l2400, hM.l2401, hM.l2402, hM.l2403, hM.l2404, hM.l2405, hM.l2406, hM.l2407, hM.l2408, hM.l2409, hM.l2410, hM.l2411, hM.l2412, hM.l2413, hM.l2414, hM.l2415, hM.l2416, hM.l2417, hM.l2418, hM.l2419, hM.l2420, hM.l2421, hM.l2422, hM.l2423]) <;> (try omega))) only [↓reduceIte, ↓z_ite, ↓zR, ↓zB_R, ↓zB_B, ↓zB_ite, ↓zB_gI, ↓zB_pI, ↓zB_pZ, ↓zB_aK, ↓zB_G, ↓zB_lI, ↓zB_lZ, ↓zB_wI, ↓zB_wZ, ↓zB_lIl, ↓zB_wIl, zB_pI, zB_pZ, zB_lI, zB_lZ, zB_wI, zB_wZ, z_addl, z_ladd, z_mull, z_lmul, nI_add, z_subl, Nat.not_lt_zero, z_10, z_01, z_bitc, z_b0, z_b1, ↓zB_Gb, ↓zB_G0, ↓zB_G1, z_eql, z_leq, z_ltl, z_llt, z_eq, z_lt, z_m1lt, hM.k, hM.k2391, hM.k2392, hM.k2393, hM.k2394, hM.k2395, hM.k2396, hM.k2397, hM.k2398, hM.k2399, hM.k2400, hM.k2401, hM.k2402, hM.k2403, hM.k2404, hM.k2405, hM.k2406, hM.k2407, hM.k2408, hM.k2409, hM.k2410, hM.k2411, hM.k2412, hM.k2413, hM.k2414, hM.k2415, hM.k2416, hM.k2417, hM.k2418, hM.k2419, hM.k2420, hM.k2421, hM.k2422, hM.k2423, hM.l2391, hM.l2392, hM.l2393, hM.l2394, hM.l2395, hM.l2396, hM.l2397, hM.l2398, hM.l2399, hM.l2400, hM.l2401, hM.l2402, hM.l2403, hM.l2404, hM.l2405, hM.l2406, hM.l2407, hM.l2408, hM.l2409, hM.l2410, hM.l2411, hM.l2412, hM.l2413, hM.l2414, hM.l2415, hM.l2416, hM.l2417, hM.l2418, hM.l2419, hM.l2420, hM.l2421, hM.l2422, hM.l2423, ↓hM.g1, ↓hM.g5, ↓hM.g6, ↓hM.g7, ↓hM.g8, ↓hM.g9, ↓hM.g10, ↓hM.g11, ↓hM.g12, ↓hM.g13, ↓hM.g14, ↓hM.g16, ↓hM.g17, ↓hM.g18, ↓hM.g19, ↓hM.g21, ↓hM.g22, ↓hM.g23, ↓hM.g24, ↓hM.g25, ↓hM.g27, ↓hM.g28, ↓hM.g30, ↓hM.g31, ↓hM.g32, ↓hM.g36, ↓hM.g37, ↓hM.g39, ↓hM.g40, ↓hM.g41, ↓hM.g43, ↓hM.g45, ↓hM.g46, ↓zB_c ev, zB_c ev, p1, hls, h21, f03, hix, ebd, c20', e1, hm1, gb', ↓zB_c e246, zB_c e246, hix2, d26, e2, hh, w1, w2', hm2, show ¬ (6 : Int32) = 0 by decide, show ¬ (6 : Int32) = 2 by decide, show ¬ (6 : Int32) = 8 by decide, show ¬ (6 : Int32) = 1 by decide, show ¬ (1 : Int32) = 0 by decide]
      · obtain ⟨u1, u2, u3⟩ := hF1 f hf
        refine ⟨by rw [s1 2402 (by decide) (by decide)]; exact u1, by rw [s1 2403 (by decide) (by decide)]; exact u2, fun s' v' hs' hv' => ?_⟩
        have hv' : (if f = a.1 ∧ s' = sl then some (y_g a.2.2.2 0) else y_ql h f s') = some v' := hv'
        rw [t4, t5]
        by_cases q : f = a.1 ∧ s' = sl
        · rw [if_pos q] at hv'
          obtain rfl := Option.some.inj hv'
          rw [if_pos (by rw [q.1, q.2]), if_pos (by rw [q.1, q.2])]; exact ⟨rfl, rfl⟩
        · rw [if_neg q] at hv'
          have hne : ¬ 194 * f + y_sr s' = 194 * a.1 + y_sr sl := fun e => q (by
            have y1 := y_sr_lt hs'
            have y2 := y_sr_lt hsl
            have ef : f = a.1 := by omega
            exact ⟨ef, y_sr_inj hs' hsl (by rw [ef] at e; omega)⟩)
          rw [if_neg hne, if_neg hne]
          exact u3 s' v' hs' hv'
    · rw [if_neg gb]
      obtain ⟨f, c, r1', r2, _, _, _, _⟩ := q2 gb
      have gb' : ¬ z_Bd P (y_qm h a.1) a.2.1 < 1000 := gb
      have r2 : z_v (z_bd P (y_qm h a.1)) a.2.1 = nI f := r2
      rw [r2] at ev
      rw [show y_v P h a = nI f from r2, nI_clamp (by omega)]
      have ex : 16 * nI (y_qo h a.1) + nI f = nI (16 * y_qo h a.1 + f) := by rw [show 16 * nI (y_qo h a.1) = nI (16 * y_qo h a.1) from z_lmul _ 16, nI_add]
      have hix2 : 16 * y_qo h a.1 + f < 8320 := by have := hm.2.2.1; omega
      generalize hm2 : z_up (z_up m1 2414 (16 * y_qo h a.1 + f) (y_g a.2.2.2 0).1) 2415 (16 * y_qo h a.1 + f) (y_g a.2.2.2 0).2 = m2
      have s1 : ∀ c, c ≠ 2414 → c ≠ 2415 → m2 c = m1 c := fun c x y => by rw [← hm2, z_up_row y, z_up_row x]
      have t14 : ∀ j, m2 2414 j = if j = 16 * y_qo h a.1 + f then (y_g a.2.2.2 0).1 else m1 2414 j := fun j => by rw [← hm2, z_up_row (by decide), z_up_k]
      have t15 : ∀ j, m2 2415 j = if j = 16 * y_qo h a.1 + f then (y_g a.2.2.2 0).2 else m1 2415 j := fun j => by rw [← hm2, z_up_k, z_up_row (by decide)]
      have hO2 : y_rO m2 (y_wf h (y_qo h a.1) f (y_g a.2.2.2 0)) := ⟨by rw [s1 2390 (by decide) (by decide)]; exact hO1.1, fun o' ho' => ⟨by rw [s1 2413 (by decide) (by decide)]; exact (hO1.2 o' ho').1, fun n' hn' => by
        show m2 2414 (16 * o' + n') = (if o' = y_qo h a.1 ∧ n' = f then y_g a.2.2.2 0 else y_qf h o' n').1 ∧ m2 2415 (16 * o' + n') = (if o' = y_qo h a.1 ∧ n' = f then y_g a.2.2.2 0 else y_qf h o' n').2
        rw [t14, t15]
        by_cases q : o' = y_qo h a.1 ∧ n' = f
        · rw [if_pos q, if_pos (by omega), if_pos (by omega)]; exact ⟨rfl, rfl⟩
        · rw [if_neg q, if_neg (by omega), if_neg (by omega)]; exact (hO1.2 o' ho').2 n' hn'⟩⟩
      refine ⟨m2, ?_, stay (h' := y_wf h (y_qo h a.1) f (y_g a.2.2.2 0)) (fun _ _ => rfl) (by rw [s1 2390 (by decide) (by decide)]; exact d20) (fun j hj => by rw [s1 2390 (by decide) (by decide), fr90 j (by omega)]) (by rw [s1 2390 (by decide) (by decide)]; exact d15) (by rw [s1 2390 (by decide) (by decide)]; exact d26) (by rw [s1 2411 (by decide) (by decide), s1 2412 (by decide) (by decide)]; exact ⟨w1, w2⟩) (fun c x y => by rw [s1 c (by omega) (by omega), fr1 c (by omega)]) (fun c hc j _ => by rw [s1 c (by omega) (by omega), fr1 c (by omega)]) hO2 (y_rF_fr (fun c x y => s1 c (by omega) (by omega)) hF1), hR1.trans ⟨fun c x y => s1 c (by omega) (by omega), fun j _ _ _ _ _ _ _ => by rw [s1 2390 (by decide) (by decide)]⟩⟩
      have w2' : z_up m1 2414 (16 * y_qo h a.1 + f) (y_g a.2.2.2 0).1 2412 (y_rh P h s) = (y_g a.2.2.2 0).2 := by rw [z_up_row (by decide)]; exact w2
      unfold f249 f249_224 f249_251 f250 f250_62 f249_469
      simp (disch := ((try simp only [true_or, or_true, hM.k, hM.k2391, hM.k2392, hM.k2393, hM.k2394, hM.k2395, hM.k2396, hM.k2397, hM.k2398, hM.k2399, hM.k2400, hM.k2401, hM.k2402, hM.k2403, hM.k2404, hM.k2405, hM.k2406, hM.k2407, hM.k2408, hM.k2409, hM.k2410, hM.k2411, hM.k2412, hM.k2413, hM.k2414, hM.k2415, hM.k2416, hM.k2417, hM.k2418, hM.k2419, hM.k2420, hM.k2421, hM.k2422, hM.k2423, hM.l2391, hM.l2392, hM.l2393, hM.l2394, hM.l2395, hM.l2396, hM.l2397, hM.l2398, hM.l2399, hM.l2400, hM.l2401, hM.l2402, hM.l2403, hM.l2404, hM.l2405, hM.l2406, hM.l2407, hM.l2408, hM.l2409, hM.l2410, hM.l2411, hM.l2412, hM.l2413, hM.l2414, hM.l2415, hM.l2416, hM.l2417, hM.l2418, hM.l2419, hM.l2420, hM.l2421, hM.l2422, hM.l2423]) <;> (try omega))) only [↓reduceIte, ↓z_ite, ↓zR, ↓zB_R, ↓zB_B, ↓zB_ite, ↓zB_gI, ↓zB_pI, ↓zB_pZ, ↓zB_aK, ↓zB_G, ↓zB_lI, ↓zB_lZ, ↓zB_wI, ↓zB_wZ, ↓zB_lIl, ↓zB_wIl, zB_pI, zB_pZ, zB_lI, zB_lZ, zB_wI, zB_wZ, z_addl, z_ladd, z_mull, z_lmul, nI_add, z_subl, Nat.not_lt_zero, z_10, z_01, z_bitc, z_b0, z_b1, ↓zB_Gb, ↓zB_G0, ↓zB_G1, z_eql, z_leq, z_ltl, z_llt, z_eq, z_lt, z_m1lt, hM.k, hM.k2391, hM.k2392, hM.k2393, hM.k2394, hM.k2395, hM.k2396, hM.k2397, hM.k2398, hM.k2399, hM.k2400, hM.k2401, hM.k2402, hM.k2403, hM.k2404, hM.k2405, hM.k2406, hM.k2407, hM.k2408, hM.k2409, hM.k2410, hM.k2411, hM.k2412, hM.k2413, hM.k2414, hM.k2415, hM.k2416, hM.k2417, hM.k2418, hM.k2419, hM.k2420, hM.k2421, hM.k2422, hM.k2423, hM.l2391, hM.l2392, hM.l2393, hM.l2394, hM.l2395, hM.l2396, hM.l2397, hM.l2398, hM.l2399, hM.l2400, hM.l2401, hM.l2402, hM.l2403, hM.l2404, hM.l2405, hM.l2406, hM.l2407, hM.l2408, hM.l2409, hM.l2410, hM.l2411, hM.l2412, hM.l2413, hM.l2414, hM.l2415, hM.l2416, hM.l2417, hM.l2418, hM.l2419, hM.l2420, hM.l2421, hM.l2422, hM.l2423, ↓hM.g1, ↓hM.g5, ↓hM.g6, ↓hM.g7, ↓hM.g8, ↓hM.g9, ↓hM.g10, ↓hM.g11, ↓hM.g12, ↓hM.g13, ↓hM.g14, ↓hM.g16, ↓hM.g17, ↓hM.g18, ↓hM.g19, ↓hM.g21, ↓hM.g22, ↓hM.g23, ↓hM.g24, ↓hM.g25, ↓hM.g27, ↓hM.g28, ↓hM.g30, ↓hM.g31, ↓hM.g32, ↓hM.g36, ↓hM.g37, ↓hM.g39, ↓hM.g40, ↓hM.g41, ↓hM.g43, ↓hM.g45, ↓hM.g46, ↓zB_c ev, zB_c ev, p1, hls, h21, f03, hix, ebd, c20', e1, hm1, gb', ex, hix2, d26, e2, hh, w1, w2', hm2, show ¬ (6 : Int32) = 0 by decide, show ¬ (6 : Int32) = 2 by decide, show ¬ (6 : Int32) = 8 by decide, show ¬ (6 : Int32) = 1 by decide, show ¬ (1 : Int32) = 0 by decide]
  · -- MAKE
    have h0 : a.2.2.2.length = 0 := by rw [hx, hst, pp, z_p_8 (kd.symm.trans g)]
    rw [g, if_neg (by decide), if_neg (by decide), if_neg (by decide), if_pos rfl]
    obtain ⟨c, hc, ec⟩ := (z_wN_at hBB hi).2.2.2 (kd.symm.trans g)
    have ec : z_v (z_bd P (y_qm h a.1)) a.2.1 = nI c := ec
    rw [ec] at ev
    rw [show y_v P h a = nI c from ec, nI_clamp (by omega)]
    obtain ⟨m2, e241, o2, t90, t2⟩ := f241_r (S := S) hM hw hB hG1.1 hc hO1 (by omega)
    obtain ⟨m', e, x1, r1⟩ := f242_fin (S := S) (h' := y_new P h c) hM hQ0 hC0 (m1 := m2) (fun _ _ => rfl) (by rw [t90 20 (by decide)]; exact d20) (fun j hj => by rw [t90 j (by omega), fr90 j (by omega)]) (by rw [t90 15 (by decide)]; exact d15) (by rw [t90 26 (by decide), d26, h0]; rfl) hh (fun c x y => by rw [t2 c (by omega) (by omega) (by omega) (by omega), fr1 c (by omega)]) o2 (y_rF_fr (fun c x y => t2 c (by omega) (by omega) (by omega) (by omega)) hF1) (hR1.trans ⟨fun c x y => t2 c y (by omega) (by omega) (by omega), fun j _ _ _ y _ _ _ => t90 j y⟩) (1, nI (y_qn h))
    have e : f242 2390 1 (nI (y_qn h)) (z_hp S m2) = some ((), z_hp S m') := e
    refine ⟨m', ?_, x1, r1⟩
    unfold f249 f249_469
    simp (disch := ((try simp only [true_or, or_true, hM.k, hM.k2391, hM.k2392, hM.k2393, hM.k2394, hM.k2395, hM.k2396, hM.k2397, hM.k2398, hM.k2399, hM.k2400, hM.k2401, hM.k2402, hM.k2403, hM.k2404, hM.k2405, hM.k2406, hM.k2407, hM.k2408, hM.k2409, hM.k2410, hM.k2411, hM.k2412, hM.k2413, hM.k2414, hM.k2415, hM.k2416, hM.k2417, hM.k2418, hM.k2419, hM.k2420, hM.k2421, hM.k2422, hM.k2423, hM.l2391, hM.l2392, hM.l2393, hM.l2394, hM.l2395, hM.l2396, hM.l2397, hM.l2398, hM.l2399, hM.l2400, hM.l2401, hM.l2402, hM.l2403, hM.l2404, hM.l2405, hM.l2406, hM.l2407, hM.l2408, hM.l2409, hM.l2410, hM.l2411, hM.l2412, hM.l2413, hM.l2414, hM.l2415, hM.l2416, hM.l2417, hM.l2418, hM.l2419, hM.l2420, hM.l2421, hM.l2422, hM.l2423]) <;> (try omega))) only [↓reduceIte, ↓z_ite, ↓zR, ↓zB_R, ↓zB_B, ↓zB_ite, ↓zB_gI, ↓zB_pI, ↓zB_pZ, ↓zB_aK, ↓zB_G, ↓zB_lI, ↓zB_lZ, ↓zB_wI, ↓zB_wZ, ↓zB_lIl, ↓zB_wIl, zB_pI, zB_pZ, zB_lI, zB_lZ, zB_wI, zB_wZ, z_addl, z_ladd, z_mull, z_lmul, nI_add, z_subl, Nat.not_lt_zero, z_10, z_01, z_bitc, z_b0, z_b1, ↓zB_Gb, ↓zB_G0, ↓zB_G1, z_eql, z_leq, z_ltl, z_llt, z_eq, z_lt, z_m1lt, hM.k, hM.k2391, hM.k2392, hM.k2393, hM.k2394, hM.k2395, hM.k2396, hM.k2397, hM.k2398, hM.k2399, hM.k2400, hM.k2401, hM.k2402, hM.k2403, hM.k2404, hM.k2405, hM.k2406, hM.k2407, hM.k2408, hM.k2409, hM.k2410, hM.k2411, hM.k2412, hM.k2413, hM.k2414, hM.k2415, hM.k2416, hM.k2417, hM.k2418, hM.k2419, hM.k2420, hM.k2421, hM.k2422, hM.k2423, hM.l2391, hM.l2392, hM.l2393, hM.l2394, hM.l2395, hM.l2396, hM.l2397, hM.l2398, hM.l2399, hM.l2400, hM.l2401, hM.l2402, hM.l2403, hM.l2404, hM.l2405, hM.l2406, hM.l2407, hM.l2408, hM.l2409, hM.l2410, hM.l2411, hM.l2412, hM.l2413, hM.l2414, hM.l2415, hM.l2416, hM.l2417, hM.l2418, hM.l2419, hM.l2420, hM.l2421, hM.l2422, hM.l2423, ↓hM.g1, ↓hM.g5, ↓hM.g6, ↓hM.g7, ↓hM.g8, ↓hM.g9, ↓hM.g10, ↓hM.g11, ↓hM.g12, ↓hM.g13, ↓hM.g14, ↓hM.g16, ↓hM.g17, ↓hM.g18, ↓hM.g19, ↓hM.g21, ↓hM.g22, ↓hM.g23, ↓hM.g24, ↓hM.g25, ↓hM.g27, ↓hM.g28, ↓hM.g30, ↓hM.g31, ↓hM.g32, ↓hM.g36, ↓hM.g37, ↓hM.g39, ↓hM.g40, ↓hM.g41, ↓hM.g43, ↓hM.g45, ↓hM.g46, ↓zB_c ev, zB_c ev, p1, hls, h21, f03, hix, ebd, c20', e1, hm1, ↓zB_c e241, zB_c e241, ↓zB_c e, zB_c e, show ¬ (8 : Int32) = 0 by decide, show ¬ (8 : Int32) = 2 by decide]
  · -- SEQ
    have p1' : y_p P h a = 2 := z_p_9 (kd.symm.trans g)
    have hl1 : a.2.2.2.length = 1 + 1 := by omega
    have k9 : y_k P h a = 5 ∨ y_k P h a = 9 ∨ y_k P h a = 10 ∨ y_k P h a = 13 := Or.inr (Or.inl g)
    rw [if_neg (by rw [g]; decide), if_neg (by rw [g]; decide), if_neg (by rw [g]; decide), if_neg (by rw [g]; decide), if_pos k9, if_neg (by omega), if_pos (Or.inl (by omega)), y_lv_e hl1, g]
    obtain ⟨w3, w4⟩ := hvals1 1 (by omega)
    rw [hl1] at d26
    have d26 : m1 2390 26 = nI (y_rh P h s + 2) := d26
    have e2 : nI (y_rh P h s + 2) - 1 = nI (y_rh P h s + 1) := z_subl (k := 1) (by omega)
    have e3 : nI (y_rh P h s + 1) - 1 = nI (y_rh P h s) := z_subl (k := 1) (by omega)
    have hh1 : y_rh P h s + 1 < 4000 := by omega
    generalize hm2 : z_up (z_up (z_up m1 2390 26 (nI (y_rh P h s + 1))) 2411 (y_rh P h s) (y_g a.2.2.2 1).1) 2412 (y_rh P h s) (y_g a.2.2.2 1).2 = m2
    have s1 : ∀ c, c ≠ 2390 → c ≠ 2411 → c ≠ 2412 → m2 c = m1 c := fun c x y z => by rw [← hm2, z_up_row z, z_up_row y, z_up_row x]
    have s90 : ∀ j, j ≠ 26 → m2 2390 j = m1 2390 j := fun j x => by rw [← hm2, y_u12, y_u11, z_up_b x]
    refine ⟨m2, ?_, stay hid (by rw [s90 20 (by decide)]; exact d20) (fun j hj => by rw [s90 j (by omega), fr90 j (by omega)]) (by rw [s90 15 (by decide)]; exact d15) (by rw [← hm2, y_u12, y_u11, z_up_s]) ⟨by rw [← hm2, z_up_row (by decide), z_up_s], by rw [← hm2, z_up_s]⟩ (fun c x y => by rw [s1 c (by omega) (by omega) (by omega), fr1 c (by omega)]) (fun c hc j hj => ?_) (y_rO_fr (s90 29 (by decide)) (fun c x y => s1 c (by omega) (by omega) (by omega)) hO1) (y_rF_fr (fun c x y => s1 c (by omega) (by omega) (by omega)) hF1), hR1.trans ⟨fun c x y => s1 c y (by omega) (by omega), fun j _ _ y _ _ _ _ => s90 j y⟩⟩
    · have q26 : z_up m1 2390 26 (nI (y_rh P h s + 1)) 2390 26 = nI (y_rh P h s + 1) := z_up_s _ _ _ _
      have q11 : z_up m1 2390 26 (nI (y_rh P h s + 1)) 2411 (y_rh P h s + 1) = (y_g a.2.2.2 1).1 := by rw [z_up_row (by decide)]; exact w3
      have q12 : z_up (z_up m1 2390 26 (nI (y_rh P h s + 1))) 2411 (y_rh P h s) (y_g a.2.2.2 1).1 2412 (y_rh P h s + 1) = (y_g a.2.2.2 1).2 := by rw [z_up_row (by decide), z_up_row (by decide)]; exact w4
      unfold f249 f249_469
      simp (disch := ((try simp only [true_or, or_true, hM.k, hM.k2391, hM.k2392, hM.k2393, hM.k2394, hM.k2395, hM.k2396, hM.k2397, hM.k2398, hM.k2399, hM.k2400, hM.k2401, hM.k2402, hM.k2403, hM.k2404, hM.k2405, hM.k2406, hM.k2407, hM.k2408, hM.k2409, hM.k2410, hM.k2411, hM.k2412, hM.k2413, hM.k2414, hM.k2415, hM.k2416, hM.k2417, hM.k2418, hM.k2419, hM.k2420, hM.k2421, hM.k2422, hM.k2423, hM.l2391, hM.l2392, hM.l2393, hM.l2394, hM.l2395, hM.l2396, hM.l2397, hM.l2398, hM.l2399, hM.l2400, hM.l2401, hM.l2402, hM.l2403, hM.l2404, hM.l2405, hM.l2406, hM.l2407, hM.l2408, hM.l2409, hM.l2410, hM.l2411, hM.l2412, hM.l2413, hM.l2414, hM.l2415, hM.l2416, hM.l2417, hM.l2418, hM.l2419, hM.l2420, hM.l2421, hM.l2422, hM.l2423]) <;> (try omega))) only [↓reduceIte, ↓z_ite, ↓zR, ↓zB_R, ↓zB_B, ↓zB_ite, ↓zB_gI, ↓zB_pI, ↓zB_pZ, ↓zB_aK, ↓zB_G, ↓zB_lI, ↓zB_lZ, ↓zB_wI, ↓zB_wZ, ↓zB_lIl, ↓zB_wIl, zB_pI, zB_pZ, zB_lI, zB_lZ, zB_wI, zB_wZ, z_addl, z_ladd, z_mull, z_lmul, nI_add, z_subl, Nat.not_lt_zero, z_10, z_01, z_bitc, z_b0, z_b1, ↓zB_Gb, ↓zB_G0, ↓zB_G1, z_eql, z_leq, z_ltl, z_llt, z_eq, z_lt, z_m1lt, hM.k, hM.k2391, hM.k2392, hM.k2393, hM.k2394, hM.k2395, hM.k2396, hM.k2397, hM.k2398, hM.k2399, hM.k2400, hM.k2401, hM.k2402, hM.k2403, hM.k2404, hM.k2405, hM.k2406, hM.k2407, hM.k2408, hM.k2409, hM.k2410, hM.k2411, hM.k2412, hM.k2413, hM.k2414, hM.k2415, hM.k2416, hM.k2417, hM.k2418, hM.k2419, hM.k2420, hM.k2421, hM.k2422, hM.k2423, hM.l2391, hM.l2392, hM.l2393, hM.l2394, hM.l2395, hM.l2396, hM.l2397, hM.l2398, hM.l2399, hM.l2400, hM.l2401, hM.l2402, hM.l2403, hM.l2404, hM.l2405, hM.l2406, hM.l2407, hM.l2408, hM.l2409, hM.l2410, hM.l2411, hM.l2412, hM.l2413, hM.l2414, hM.l2415, hM.l2416, hM.l2417, hM.l2418, hM.l2419, hM.l2420, hM.l2421, hM.l2422, hM.l2423, ↓hM.g1, ↓hM.g5, ↓hM.g6, ↓hM.g7, ↓hM.g8, ↓hM.g9, ↓hM.g10, ↓hM.g11, ↓hM.g12, ↓hM.g13, ↓hM.g14, ↓hM.g16, ↓hM.g17, ↓hM.g18, ↓hM.g19, ↓hM.g21, ↓hM.g22, ↓hM.g23, ↓hM.g24, ↓hM.g25, ↓hM.g27, ↓hM.g28, ↓hM.g30, ↓hM.g31, ↓hM.g32, ↓hM.g36, ↓hM.g37, ↓hM.g39, ↓hM.g40, ↓hM.g41, ↓hM.g43, ↓hM.g45, ↓hM.g46, ↓zB_c ev, zB_c ev, p1, hls, h21, f03, hix, ebd, c20', e1, hm1, d26, e2, q26, e3, hh, hh1, q11, y_u11, q12, hm2, show ¬ (9 : Int32) = 0 by decide, show ¬ (9 : Int32) = 2 by decide, show ¬ (9 : Int32) = 8 by decide, show ¬ (9 : Int32) = 1 by decide, show ¬ (9 : Int32) = 6 by decide]
    · rcases hc with rfl | rfl
      · rw [← hm2, z_up_row (by decide), z_up_b (by omega), z_up_row (by decide), fr1 2411 (by decide)]
      · rw [← hm2, z_up_b (by omega), z_up_row (by decide), z_up_row (by decide), fr1 2412 (by decide)]
  · -- TWO
    have p1' : y_p P h a = 2 := z_p_11 (kd.symm.trans g)
    have hl1 : a.2.2.2.length = 2 := by omega
    have sp : ¬ a.2.2.1 < y_p P h a := by omega
    have hne5 : ¬ (y_k P h a = 5 ∨ y_k P h a = 9 ∨ y_k P h a = 10 ∨ y_k P h a = 13) := by rw [g]; decide
    rw [if_neg (by rw [g]; decide), if_neg (by rw [g]; decide), if_neg (by rw [g]; decide), if_neg (by rw [g]; decide), if_neg hne5, if_neg sp]
    unfold y_ap
    rw [if_neg (by rw [g]; decide), if_neg (by rw [g]; decide), if_neg (by rw [g]; decide), if_neg (by rw [g]; decide), if_pos g, g]
    have rqj : ∀ j, j < y_p P h a → y_rq P h a j = z_Ty P (y_qm h a.1) (y_pt P h a j) := fun j hj => by
      unfold y_rq
      rw [if_neg]
      rintro (⟨q, _⟩ | q | ⟨q, _⟩)
      · rw [g] at q; exact absurd q (by decide)
      · exact k13 q
      · exact k7 q
    have eN := (z_Ty_ok hr hi).2
    rw [(z_Ty_ok hr hi).1, z_st_11 (kd.symm.trans g)] at eN
    have hnum : z_num (z_Ty P (y_qm h a.1) (y_pt P h a 0)) = true := by
      by_cases q : z_num (z_Ty P (y_qm h a.1) (z_pt (z_bd P (y_qm h a.1)) a.2.1 0)) = true ∧ z_num (z_Ty P (y_qm h a.1) (z_pt (z_bd P (y_qm h a.1)) a.2.1 1)) = true
      · exact q.1
      · rw [if_neg q] at eN; exact absurd rfl eN
    have v0 := vt 0 (by omega)
    rw [rqj 0 (by omega)] at v0
    have h00 : (y_g a.2.2.2 0).1 = 0 := by
      rcases v0 with ⟨_, g⟩ | ⟨c, g1, g2, _⟩
      · exact g
      · rw [g2] at hnum
        unfold z_num at hnum
        rw [show (nI c == (-1 : Int32)) = false by simpa using z_nI_m1 (d := c) (by omega), show (nI c == (-2 : Int32)) = false by simpa using z_eqm (k := 2) (a := c) (by omega) (by decide) (by decide)] at hnum
        cases hnum
    obtain ⟨w1, w2⟩ := hvals1 0 (by omega)
    have w1 : m1 2411 (y_rh P h s) = (y_g a.2.2.2 0).1 := w1
    have w2 : m1 2412 (y_rh P h s) = (y_g a.2.2.2 0).2 := w2
    obtain ⟨w3, w4⟩ := hvals1 1 (by omega)
    rw [hl1] at d26
    have e2 : nI (y_rh P h s + 2) - 1 = nI (y_rh P h s + 1) := z_subl (k := 1) (by omega)
    have e3 : nI (y_rh P h s + 1) - 1 = nI (y_rh P h s) := z_subl (k := 1) (by omega)
    have hh1 : y_rh P h s + 1 < 4000 := by omega
    generalize hm2 : z_up (z_up m1 2390 26 (nI (y_rh P h s + 1))) 2412 (y_rh P h s) (y_op (z_v (z_bd P (y_qm h a.1)) a.2.1) (y_g a.2.2.2 0).2 (y_g a.2.2.2 1).2) = m2
    have s1 : ∀ c, c ≠ 2390 → c ≠ 2412 → m2 c = m1 c := fun c x z => by rw [← hm2, z_up_row z, z_up_row x]
    have s90 : ∀ j, j ≠ 26 → m2 2390 j = m1 2390 j := fun j x => by rw [← hm2, y_u12, z_up_b x]
    refine ⟨m2, ?_, stay (v := (0, y_op (y_v P h a) (y_g a.2.2.2 0).2 (y_g a.2.2.2 1).2)) hid (by rw [s90 20 (by decide)]; exact d20) (fun j hj => by rw [s90 j (by omega), fr90 j (by omega)]) (by rw [s90 15 (by decide)]; exact d15) (by rw [← hm2, y_u12, z_up_s]) ⟨by rw [s1 2411 (by decide) (by decide), w1, h00], by rw [← hm2, z_up_s]; rfl⟩ (fun c x y => by rw [s1 c (by omega) (by omega), fr1 c (by omega)]) (fun c hc j hj => ?_) (y_rO_fr (s90 29 (by decide)) (fun c x y => s1 c (by omega) (by omega)) hO1) (y_rF_fr (fun c x y => s1 c (by omega) (by omega)) hF1), hR1.trans ⟨fun c x y => s1 c y (by omega), fun j _ _ y _ _ _ _ => s90 j y⟩⟩
    · have q26 : z_up m1 2390 26 (nI (y_rh P h s + 1)) 2390 26 = nI (y_rh P h s + 1) := z_up_s _ _ _ _
      have q12 : z_up m1 2390 26 (nI (y_rh P h s + 1)) 2412 (y_rh P h s + 1) = (y_g a.2.2.2 1).2 := by rw [z_up_row (by decide)]; exact w4
      have q12' : z_up m1 2390 26 (nI (y_rh P h s + 1)) 2412 (y_rh P h s) = (y_g a.2.2.2 0).2 := by rw [z_up_row (by decide)]; exact w2
      unfold y_op at hm2
      unfold f249 f249_421 f249_469
      by_cases o0 : z_v (z_bd P (y_qm h a.1)) a.2.1 = 0
      · rw [if_pos o0] at hm2
        simp (disch := ((try simp only [true_or, or_true, hM.k, hM.k2391, hM.k2392, hM.k2393, hM.k2394, hM.k2395, hM.k2396, hM.k2397, hM.k2398, hM.k2399, hM.k2400, hM.k2401, hM.k2402, hM.k2403, hM.k2404, hM.k2405, hM.k2406, hM.k2407, hM.k2408, hM.k2409, hM.k2410, hM.k2411, hM.k2412, hM.k2413, hM.k2414, hM.k2415, hM.k2416, hM.k2417, hM.k2418, hM.k2419, hM.k2420, hM.k2421, hM.k2422, hM.k2423, hM.l2391, hM.l2392, hM.l2393, hM.l2394, hM.l2395, hM.l2396, hM.l2397, hM.l2398, hM.l2399, hM.l2400, hM.l2401, hM.l2402, hM.l2403, hM.l2404, hM.l2405, hM.l2406, hM.l2407, hM.l2408, hM.l2409, hM.l2410, hM.l2411, hM.l2412, hM.l2413, hM.l2414, hM.l2415, hM.l2416, hM.l2417, hM.l2418, hM.l2419, hM.l2420, hM.l2421, hM.l2422, hM.l2423]) <;> (try omega))) only [↓reduceIte, ↓z_ite, ↓zR, ↓zB_R, ↓zB_B, ↓zB_ite, ↓zB_gI, ↓zB_pI, ↓zB_pZ, ↓zB_aK, ↓zB_G, ↓zB_lI, ↓zB_lZ, ↓zB_wI, ↓zB_wZ, ↓zB_lIl, ↓zB_wIl, zB_pI, zB_pZ, zB_lI, zB_lZ, zB_wI, zB_wZ, z_addl, z_ladd, z_mull, z_lmul, nI_add, z_subl, Nat.not_lt_zero, z_10, z_01, z_bitc, z_b0, z_b1, ↓zB_Gb, ↓zB_G0, ↓zB_G1, z_eql, z_leq, z_ltl, z_llt, z_eq, z_lt, z_m1lt, hM.k, hM.k2391, hM.k2392, hM.k2393, hM.k2394, hM.k2395, hM.k2396, hM.k2397, hM.k2398, hM.k2399, hM.k2400, hM.k2401, hM.k2402, hM.k2403, hM.k2404, hM.k2405, hM.k2406, hM.k2407, hM.k2408, hM.k2409, hM.k2410, hM.k2411, hM.k2412, hM.k2413, hM.k2414, hM.k2415, hM.k2416, hM.k2417, hM.k2418, hM.k2419, hM.k2420, hM.k2421, hM.k2422, hM.k2423, hM.l2391, hM.l2392, hM.l2393, hM.l2394, hM.l2395, hM.l2396, hM.l2397, hM.l2398, hM.l2399, hM.l2400, hM.l2401, hM.l2402, hM.l2403, hM.l2404, hM.l2405, hM.l2406, hM.l2407, hM.l2408, hM.l2409, hM.l2410, hM.l2411, hM.l2412, hM.l2413, hM.l2414, hM.l2415, hM.l2416, hM.l2417, hM.l2418, hM.l2419, hM.l2420, hM.l2421, hM.l2422, hM.l2423, ↓hM.g1, ↓hM.g5, ↓hM.g6, ↓hM.g7, ↓hM.g8, ↓hM.g9, ↓hM.g10, ↓hM.g11, ↓hM.g12, ↓hM.g13, ↓hM.g14, ↓hM.g16, ↓hM.g17, ↓hM.g18, ↓hM.g19, ↓hM.g21, ↓hM.g22, ↓hM.g23, ↓hM.g24, ↓hM.g25, ↓hM.g27, ↓hM.g28, ↓hM.g30, ↓hM.g31, ↓hM.g32, ↓hM.g36, ↓hM.g37, ↓hM.g39, ↓hM.g40, ↓hM.g41, ↓hM.g43, ↓hM.g45, ↓hM.g46, ↓zB_c ev, zB_c ev, p1, hls, h21, f03, hix, ebd, c20', e1, hm1, d26, e2, q26, e3, hh, hh1, q12, q12', o0, hm2, show ¬ (11 : Int32) = 0 by decide, show ¬ (11 : Int32) = 2 by decide, show ¬ (11 : Int32) = 8 by decide, show ¬ (11 : Int32) = 1 by decide, show ¬ (11 : Int32) = 6 by decide, show ¬ (11 : Int32) = 9 by decide]
      · rw [if_neg o0] at hm2
        by_cases o1 : z_v (z_bd P (y_qm h a.1)) a.2.1 = 1
        · rw [if_pos o1] at hm2
          simp (disch := ((try simp only [true_or, or_true, hM.k, hM.k2391, hM.k2392, hM.k2393, hM.k2394, hM.k2395, hM.k2396, hM.k2397, hM.k2398, hM.k2399, hM.k2400, hM.k2401, hM.k2402, hM.k2403, hM.k2404, hM.k2405, hM.k2406, hM.k2407, hM.k2408, hM.k2409, hM.k2410, hM.k2411, hM.k2412, hM.k2413, hM.k2414, hM.k2415, hM.k2416, hM.k2417, hM.k2418, hM.k2419, hM.k2420, hM.k2421, hM.k2422, hM.k2423, hM.l2391, hM.l2392, hM.l2393, hM.l2394, hM.l2395, hM.l2396, hM.l2397, hM.l2398, hM.l2399, hM.l2400, hM.l2401, hM.l2402, hM.l2403, hM.l2404, hM.l2405, hM.l2406, hM.l2407, hM.l2408, hM.l2409, hM.l2410, hM.l2411, hM.l2412, hM.l2413, hM.l2414, hM.l2415, hM.l2416, hM.l2417, hM.l2418, hM.l2419, hM.l2420, hM.l2421, hM.l2422, hM.l2423]) <;> (try omega))) only [↓reduceIte, ↓z_ite, ↓zR, ↓zB_R, ↓zB_B, ↓zB_ite, ↓zB_gI, ↓zB_pI, ↓zB_pZ, ↓zB_aK, ↓zB_G, ↓zB_lI, ↓zB_lZ, ↓zB_wI, ↓zB_wZ, ↓zB_lIl, ↓zB_wIl, zB_pI, zB_pZ, zB_lI, zB_lZ, zB_wI, zB_wZ, z_addl, z_ladd, z_mull, z_lmul, nI_add, z_subl, Nat.not_lt_zero, z_10, z_01, z_bitc, z_b0, z_b1, ↓zB_Gb, ↓zB_G0, ↓zB_G1, z_eql, z_leq, z_ltl, z_llt, z_eq, z_lt, z_m1lt, hM.k, hM.k2391, hM.k2392, hM.k2393, hM.k2394, hM.k2395, hM.k2396, hM.k2397, hM.k2398, hM.k2399, hM.k2400, hM.k2401, hM.k2402, hM.k2403, hM.k2404, hM.k2405, hM.k2406, hM.k2407, hM.k2408, hM.k2409, hM.k2410, hM.k2411, hM.k2412, hM.k2413, hM.k2414, hM.k2415, hM.k2416, hM.k2417, hM.k2418, hM.k2419, hM.k2420, hM.k2421, hM.k2422, hM.k2423, hM.l2391, hM.l2392, hM.l2393, hM.l2394, hM.l2395, hM.l2396, hM.l2397, hM.l2398, hM.l2399, hM.l2400, hM.l2401, hM.l2402, hM.l2403, hM.l2404, hM.l2405, hM.l2406, hM.l2407, hM.l2408, hM.l2409, hM.l2410, hM.l2411, hM.l2412, hM.l2413, hM.l2414, hM.l2415, hM.l2416, hM.l2417, hM.l2418, hM.l2419, hM.l2420, hM.l2421, hM.l2422, hM.l2423, ↓hM.g1, ↓hM.g5, ↓hM.g6, ↓hM.g7, ↓hM.g8, ↓hM.g9, ↓hM.g10, ↓hM.g11, ↓hM.g12, ↓hM.g13, ↓hM.g14, ↓hM.g16, ↓hM.g17, ↓hM.g18, ↓hM.g19, ↓hM.g21, ↓hM.g22, ↓hM.g23, ↓hM.g24, ↓hM.g25, ↓hM.g27, ↓hM.g28, ↓hM.g30, ↓hM.g31, ↓hM.g32, ↓hM.g36, ↓hM.g37, ↓hM.g39, ↓hM.g40, ↓hM.g41, ↓hM.g43, ↓hM.g45, ↓hM.g46, ↓zB_c ev, zB_c ev, p1, hls, h21, f03, hix, ebd, c20', e1, hm1, d26, e2, q26, e3, hh, hh1, q12, q12', o0, o1, hm2, show ¬ (11 : Int32) = 0 by decide, show ¬ (11 : Int32) = 2 by decide, show ¬ (11 : Int32) = 8 by decide, show ¬ (11 : Int32) = 1 by decide, show ¬ (11 : Int32) = 6 by decide, show ¬ (11 : Int32) = 9 by decide, show ¬ (1 : Int32) = 0 by decide]
        · rw [if_neg o1] at hm2
          by_cases o2 : z_v (z_bd P (y_qm h a.1)) a.2.1 = 2
          · rw [if_pos o2] at hm2
            simp (disch := ((try simp only [true_or, or_true, hM.k, hM.k2391, hM.k2392, hM.k2393, hM.k2394, hM.k2395, hM.k2396, hM.k2397, hM.k2398, hM.k2399, hM.k2400, hM.k2401, hM.k2402, hM.k2403, hM.k2404, hM.k2405, hM.k2406, hM.k2407, hM.k2408, hM.k2409, hM.k2410, hM.k2411, hM.k2412, hM.k2413, hM.k2414, hM.k2415, hM.k2416, hM.k2417, hM.k2418, hM.k2419, hM.k2420, hM.k2421, hM.k2422, hM.k2423, hM.l2391, hM.l2392, hM.l2393, hM.l2394, hM.l2395, hM.l2396, hM.l2397, hM.l2398, hM.l2399, hM.l2400, hM.l2401, hM.l2402, hM.l2403, hM.l2404, hM.l2405, hM.l2406, hM.l2407, hM.l2408, hM.l2409, hM.l2410, hM.l2411, hM.l2412, hM.l2413, hM.l2414, hM.l2415, hM.l2416, hM.l2417, hM.l2418, hM.l2419, hM.l2420, hM.l2421, hM.l2422, hM.l2423]) <;> (try omega))) only [↓reduceIte, ↓z_ite, ↓zR, ↓zB_R, ↓zB_B, ↓zB_ite, ↓zB_gI, ↓zB_pI, ↓zB_pZ, ↓zB_aK, ↓zB_G, ↓zB_lI, ↓zB_lZ, ↓zB_wI, ↓zB_wZ, ↓zB_lIl, ↓zB_wIl, zB_pI, zB_pZ, zB_lI, zB_lZ, zB_wI, zB_wZ, z_addl, z_ladd, z_mull, z_lmul, nI_add, z_subl, Nat.not_lt_zero, z_10, z_01, z_bitc, z_b0, z_b1, ↓zB_Gb, ↓zB_G0, ↓zB_G1, z_eql, z_leq, z_ltl, z_llt, z_eq, z_lt, z_m1lt, hM.k, hM.k2391, hM.k2392, hM.k2393, hM.k2394, hM.k2395, hM.k2396, hM.k2397, hM.k2398, hM.k2399, hM.k2400, hM.k2401, hM.k2402, hM.k2403, hM.k2404, hM.k2405, hM.k2406, hM.k2407, hM.k2408, hM.k2409, hM.k2410, hM.k2411, hM.k2412, hM.k2413, hM.k2414, hM.k2415, hM.k2416, hM.k2417, hM.k2418, hM.k2419, hM.k2420, hM.k2421, hM.k2422, hM.k2423, hM.l2391, hM.l2392, hM.l2393, hM.l2394, hM.l2395, hM.l2396, hM.l2397, hM.l2398, hM.l2399, hM.l2400, hM.l2401, hM.l2402, hM.l2403, hM.l2404, hM.l2405, hM.l2406, hM.l2407, hM.l2408, hM.l2409, hM.l2410, hM.l2411, hM.l2412, hM.l2413, hM.l2414, hM.l2415, hM.l2416, hM.l2417, hM.l2418, hM.l2419, hM.l2420, hM.l2421, hM.l2422, hM.l2423, ↓hM.g1, ↓hM.g5, ↓hM.g6, ↓hM.g7, ↓hM.g8, ↓hM.g9, ↓hM.g10, ↓hM.g11, ↓hM.g12, ↓hM.g13, ↓hM.g14, ↓hM.g16, ↓hM.g17, ↓hM.g18, ↓hM.g19, ↓hM.g21, ↓hM.g22, ↓hM.g23, ↓hM.g24, ↓hM.g25, ↓hM.g27, ↓hM.g28, ↓hM.g30, ↓hM.g31, ↓hM.g32, ↓hM.g36, ↓hM.g37, ↓hM.g39, ↓hM.g40, ↓hM.g41, ↓hM.g43, ↓hM.g45, ↓hM.g46, ↓zB_c ev, zB_c ev, p1, hls, h21, f03, hix, ebd, c20', e1, hm1, d26, e2, q26, e3, hh, hh1, q12, q12', o0, o1, o2, hm2, show ¬ (11 : Int32) = 0 by decide, show ¬ (11 : Int32) = 2 by decide, show ¬ (11 : Int32) = 8 by decide, show ¬ (11 : Int32) = 1 by decide, show ¬ (11 : Int32) = 6 by decide, show ¬ (11 : Int32) = 9 by decide, show ¬ (2 : Int32) = 0 by decide, show ¬ (2 : Int32) = 1 by decide]
          · rw [if_neg o2] at hm2
            by_cases o3 : (y_g a.2.2.2 0).2 < (y_g a.2.2.2 1).2
            · rw [if_pos o3] at hm2
              simp (disch := ((try simp only [true_or, or_true, hM.k, hM.k2391, hM.k2392, hM.k2393, hM.k2394, hM.k2395, hM.k2396, hM.k2397, hM.k2398, hM.k2399, hM.k2400, hM.k2401, hM.k2402, hM.k2403, hM.k2404, hM.k2405, hM.k2406, hM.k2407, hM.k2408, hM.k2409, hM.k2410, hM.k2411, hM.k2412, hM.k2413, hM.k2414, hM.k2415, hM.k2416, hM.k2417, hM.k2418, hM.k2419, hM.k2420, hM.k2421, hM.k2422, hM.k2423, hM.l2391, hM.l2392, hM.l2393, hM.l2394, hM.l2395, hM.l2396, hM.l2397, hM.l2398, hM.l2399, hM.l2400, hM.l2401, hM.l2402, hM.l2403, hM.l2404, hM.l2405, hM.l2406, hM.l2407, hM.l2408, hM.l2409, hM.l2410, hM.l2411, hM.l2412, hM.l2413, hM.l2414, hM.l2415, hM.l2416, hM.l2417, hM.l2418, hM.l2419, hM.l2420, hM.l2421, hM.l2422, hM.l2423]) <;> (try omega))) only [↓reduceIte, ↓z_ite, ↓zR, ↓zB_R, ↓zB_B, ↓zB_ite, ↓zB_gI, ↓zB_pI, ↓zB_pZ, ↓zB_aK, ↓zB_G, ↓zB_lI, ↓zB_lZ, ↓zB_wI, ↓zB_wZ, ↓zB_lIl, ↓zB_wIl, zB_pI, zB_pZ, zB_lI, zB_lZ, zB_wI, zB_wZ, z_addl, z_ladd, z_mull, z_lmul, nI_add, z_subl, Nat.not_lt_zero, z_10, z_01, z_bitc, z_b0, z_b1, ↓zB_Gb, ↓zB_G0, ↓zB_G1, z_eql, z_leq, z_ltl, z_llt, z_eq, z_lt, z_m1lt, hM.k, hM.k2391, hM.k2392, hM.k2393, hM.k2394, hM.k2395, hM.k2396, hM.k2397, hM.k2398, hM.k2399, hM.k2400, hM.k2401, hM.k2402, hM.k2403, hM.k2404, hM.k2405, hM.k2406, hM.k2407, hM.k2408, hM.k2409, hM.k2410, hM.k2411, hM.k2412, hM.k2413, hM.k2414, hM.k2415, hM.k2416, hM.k2417, hM.k2418, hM.k2419, hM.k2420, hM.k2421, hM.k2422, hM.k2423, hM.l2391, hM.l2392, hM.l2393, hM.l2394, hM.l2395, hM.l2396, hM.l2397, hM.l2398, hM.l2399, hM.l2400, hM.l2401, hM.l2402, hM.l2403, hM.l2404, hM.l2405, hM.l2406, hM.l2407, hM.l2408, hM.l2409, hM.l2410, hM.l2411, hM.l2412, hM.l2413, hM.l2414, hM.l2415, hM.l2416, hM.l2417, hM.l2418, hM.l2419, hM.l2420, hM.l2421, hM.l2422, hM.l2423, ↓hM.g1, ↓hM.g5, ↓hM.g6, ↓hM.g7, ↓hM.g8, ↓hM.g9, ↓hM.g10, ↓hM.g11, ↓hM.g12, ↓hM.g13, ↓hM.g14, ↓hM.g16, ↓hM.g17, ↓hM.g18, ↓hM.g19, ↓hM.g21, ↓hM.g22, ↓hM.g23, ↓hM.g24, ↓hM.g25, ↓hM.g27, ↓hM.g28, ↓hM.g30, ↓hM.g31, ↓hM.g32, ↓hM.g36, ↓hM.g37, ↓hM.g39, ↓hM.g40, ↓hM.g41, ↓hM.g43, ↓hM.g45, ↓hM.g46, ↓zB_c ev, zB_c ev, p1, hls, h21, f03, hix, ebd, c20', e1, hm1, d26, e2, q26, e3, hh, hh1, q12, q12', o0, o1, o2, o3, hm2, show ¬ (11 : Int32) = 0 by decide, show ¬ (11 : Int32) = 2 by decide, show ¬ (11 : Int32) = 8 by decide, show ¬ (11 : Int32) = 1 by decide, show ¬ (11 : Int32) = 6 by decide, show ¬ (11 : Int32) = 9 by decide]
            · rw [if_neg o3] at hm2
              simp (disch := ((try simp only [true_or, or_true, hM.k, hM.k2391, hM.k2392, hM.k2393, hM.k2394, hM.k2395, hM.k2396, hM.k2397, hM.k2398, hM.k2399, hM.k2400, hM.k2401, hM.k2402, hM.k2403, hM.k2404, hM.k2405, hM.k2406, hM.k2407, hM.k2408, hM.k2409, hM.k2410, hM.k2411, hM.k2412, hM.k2413, hM.k2414, hM.k2415, hM.k2416, hM.k2417, hM.k2418, hM.k2419, hM.k2420, hM.k2421, hM.k2422, hM.k2423, hM.l2391, hM.l2392, hM.l2393, hM.l2394, hM.l2395, hM.l2396, hM.l2397, hM.l2398, hM.l2399, hM.l2400, hM.l2401, hM.l2402, hM.l2403, hM.l2404, hM.l2405, hM.l2406, hM.l2407, hM.l2408, hM.l2409, hM.l2410, hM.l2411, hM.l2412, hM.l2413, hM.l2414, hM.l2415, hM.l2416, hM.l2417, hM.l2418, hM.l2419, hM.l2420, hM.l2421, hM.l2422, hM.l2423]) <;> (try omega))) only [↓reduceIte, ↓z_ite, ↓zR, ↓zB_R, ↓zB_B, ↓zB_ite, ↓zB_gI, ↓zB_pI, ↓zB_pZ, ↓zB_aK, ↓zB_G, ↓zB_lI, ↓zB_lZ, ↓zB_wI, ↓zB_wZ, ↓zB_lIl, ↓zB_wIl, zB_pI, zB_pZ, zB_lI, zB_lZ, zB_wI, zB_wZ, z_addl, z_ladd, z_mull, z_lmul, nI_add, z_subl, Nat.not_lt_zero, z_10, z_01, z_bitc, z_b0, z_b1, ↓zB_Gb, ↓zB_G0, ↓zB_G1, z_eql, z_leq, z_ltl, z_llt, z_eq, z_lt, z_m1lt, hM.k, hM.k2391, hM.k2392, hM.k2393, hM.k2394, hM.k2395, hM.k2396, hM.k2397, hM.k2398, hM.k2399, hM.k2400, hM.k2401, hM.k2402, hM.k2403, hM.k2404, hM.k2405, hM.k2406, hM.k2407, hM.k2408, hM.k2409, hM.k2410, hM.k2411, hM.k2412, hM.k2413, hM.k2414, hM.k2415, hM.k2416, hM.k2417, hM.k2418, hM.k2419, hM.k2420, hM.k2421, hM.k2422, hM.k2423, hM.l2391, hM.l2392, hM.l2393, hM.l2394, hM.l2395, hM.l2396, hM.l2397, hM.l2398, hM.l2399, hM.l2400, hM.l2401, hM.l2402, hM.l2403, hM.l2404, hM.l2405, hM.l2406, hM.l2407, hM.l2408, hM.l2409, hM.l2410, hM.l2411, hM.l2412, hM.l2413, hM.l2414, hM.l2415, hM.l2416, hM.l2417, hM.l2418, hM.l2419, hM.l2420, hM.l2421, hM.l2422, hM.l2423, ↓hM.g1, ↓hM.g5, ↓hM.g6, ↓hM.g7, ↓hM.g8, ↓hM.g9, ↓hM.g10, ↓hM.g11, ↓hM.g12, ↓hM.g13, ↓hM.g14, ↓hM.g16, ↓hM.g17, ↓hM.g18, ↓hM.g19, ↓hM.g21, ↓hM.g22, ↓hM.g23, ↓hM.g24, ↓hM.g25, ↓hM.g27, ↓hM.g28, ↓hM.g30, ↓hM.g31, ↓hM.g32, ↓hM.g36, ↓hM.g37, ↓hM.g39, ↓hM.g40, ↓hM.g41, ↓hM.g43, ↓hM.g45, ↓hM.g46, ↓zB_c ev, zB_c ev, p1, hls, h21, f03, hix, ebd, c20', e1, hm1, d26, e2, q26, e3, hh, hh1, q12, q12', o0, o1, o2, o3, hm2, show ¬ (11 : Int32) = 0 by decide, show ¬ (11 : Int32) = 2 by decide, show ¬ (11 : Int32) = 8 by decide, show ¬ (11 : Int32) = 1 by decide, show ¬ (11 : Int32) = 6 by decide, show ¬ (11 : Int32) = 9 by decide]
    · rcases hc with rfl | rfl
      · rw [s1 2411 (by decide) (by decide), fr1 2411 (by decide)]
      · rw [← hm2, z_up_b (by omega), z_up_row (by decide), fr1 2412 (by decide)]
  · -- RAISE
    have p1' : y_p P h a = 1 := z_p_12 (kd.symm.trans g)
    have hl1 : a.2.2.2.length = 1 := by omega
    have sp : ¬ a.2.2.1 < y_p P h a := by omega
    have hne5 : ¬ (y_k P h a = 5 ∨ y_k P h a = 9 ∨ y_k P h a = 10 ∨ y_k P h a = 13) := by rw [g]; decide
    rw [if_neg (by rw [g]; decide), if_neg (by rw [g]; decide), if_neg (by rw [g]; decide), if_neg (by rw [g]; decide), if_neg hne5, if_neg sp]
    unfold y_ap
    rw [if_neg (by rw [g]; decide), if_neg (by rw [g]; decide), if_neg (by rw [g]; decide), if_neg (by rw [g]; decide), if_neg (by rw [g]; decide), g]
    obtain ⟨w1, w2⟩ := hvals1 0 (by omega)
    have w2 : m1 2412 (y_rh P h s) = (y_g a.2.2.2 0).2 := w2
    rw [hl1] at d26
    have e2 : nI (y_rh P h s + 1) - 1 = nI (y_rh P h s) := z_subl (k := 1) (by omega)
    generalize hm2 : z_up m1 2390 26 (nI (y_rh P h s)) = m2
    have s1 : ∀ c, c ≠ 2390 → m2 c = m1 c := fun c x => by rw [← hm2, z_up_row x]
    have s90 : ∀ j, j ≠ 26 → m2 2390 j = m1 2390 j := fun j x => by rw [← hm2, z_up_b x]
    have hR2 : y_rR m1 m2 := ⟨fun c x y => s1 c y, fun j _ _ y _ _ _ _ => s90 j y⟩
    obtain ⟨m', e, x1, r1⟩ := f244_top (S := S) (m1 := m2) hP hM hB hQ0 (hG1.fr hR2) (e := 3) (w := (y_g a.2.2.2 0).2) (L := 0) (x := (y_g a.2.2.2 0).2) (Or.inr ⟨rfl, rfl⟩) (fun _ => rfl) (by rw [s90 20 (by decide)]; exact d20) (by rw [s90 33 (by decide), fr90 33 (by decide)]; exact c33) (by rw [s90 34 (by decide), fr90 34 (by decide)]; exact c34) (by rw [s90 35 (by decide), fr90 35 (by decide)]; exact c35) (y_rS_fr (fun _ _ => rfl) (fun c x y j _ => by rw [s1 c (by omega)]) (fun c hc j _ => by rw [s1 c (by omega)]) hS1) (y_rO_fr (s90 29 (by decide)) (fun c x y => s1 c (by omega)) hO1) (y_rF_fr (fun c x y => s1 c (by omega)) hF1)
    refine ⟨m', ?_, x1, (hR1.trans hR2).trans r1⟩
    have q26 : m2 2390 26 = nI (y_rh P h s) := by rw [← hm2, z_up_s]
    have q12 : m2 2412 (y_rh P h s) = (y_g a.2.2.2 0).2 := by rw [s1 2412 (by decide)]; exact w2
    unfold f249 f249_469
    simp (disch := ((try simp only [true_or, or_true, hM.k, hM.k2391, hM.k2392, hM.k2393, hM.k2394, hM.k2395, hM.k2396, hM.k2397, hM.k2398, hM.k2399, hM.k2400, hM.k2401, hM.k2402, hM.k2403, hM.k2404, hM.k2405, hM.k2406, hM.k2407, hM.k2408, hM.k2409, hM.k2410, hM.k2411, hM.k2412, hM.k2413, hM.k2414, hM.k2415, hM.k2416, hM.k2417, hM.k2418, hM.k2419, hM.k2420, hM.k2421, hM.k2422, hM.k2423, hM.l2391, hM.l2392, hM.l2393, hM.l2394, hM.l2395, hM.l2396, hM.l2397, hM.l2398, hM.l2399, hM.l2400, hM.l2401, hM.l2402, hM.l2403, hM.l2404, hM.l2405, hM.l2406, hM.l2407, hM.l2408, hM.l2409, hM.l2410, hM.l2411, hM.l2412, hM.l2413, hM.l2414, hM.l2415, hM.l2416, hM.l2417, hM.l2418, hM.l2419, hM.l2420, hM.l2421, hM.l2422, hM.l2423]) <;> (try omega))) only [↓reduceIte, ↓z_ite, ↓zR, ↓zB_R, ↓zB_B, ↓zB_ite, ↓zB_gI, ↓zB_pI, ↓zB_pZ, ↓zB_aK, ↓zB_G, ↓zB_lI, ↓zB_lZ, ↓zB_wI, ↓zB_wZ, ↓zB_lIl, ↓zB_wIl, zB_pI, zB_pZ, zB_lI, zB_lZ, zB_wI, zB_wZ, z_addl, z_ladd, z_mull, z_lmul, nI_add, z_subl, Nat.not_lt_zero, z_10, z_01, z_bitc, z_b0, z_b1, ↓zB_Gb, ↓zB_G0, ↓zB_G1, z_eql, z_leq, z_ltl, z_llt, z_eq, z_lt, z_m1lt, hM.k, hM.k2391, hM.k2392, hM.k2393, hM.k2394, hM.k2395, hM.k2396, hM.k2397, hM.k2398, hM.k2399, hM.k2400, hM.k2401, hM.k2402, hM.k2403, hM.k2404, hM.k2405, hM.k2406, hM.k2407, hM.k2408, hM.k2409, hM.k2410, hM.k2411, hM.k2412, hM.k2413, hM.k2414, hM.k2415, hM.k2416, hM.k2417, hM.k2418, hM.k2419, hM.k2420, hM.k2421, hM.k2422, hM.k2423, hM.l2391, hM.l2392, hM.l2393, hM.l2394, hM.l2395, hM.l2396, hM.l2397, hM.l2398, hM.l2399, hM.l2400, hM.l2401, hM.l2402, hM.l2403, hM.l2404, hM.l2405, hM.l2406, hM.l2407, hM.l2408, hM.l2409, hM.l2410, hM.l2411, hM.l2412, hM.l2413, hM.l2414, hM.l2415, hM.l2416, hM.l2417, hM.l2418, hM.l2419, hM.l2420, hM.l2421, hM.l2422, hM.l2423, ↓hM.g1, ↓hM.g5, ↓hM.g6, ↓hM.g7, ↓hM.g8, ↓hM.g9, ↓hM.g10, ↓hM.g11, ↓hM.g12, ↓hM.g13, ↓hM.g14, ↓hM.g16, ↓hM.g17, ↓hM.g18, ↓hM.g19, ↓hM.g21, ↓hM.g22, ↓hM.g23, ↓hM.g24, ↓hM.g25, ↓hM.g27, ↓hM.g28, ↓hM.g30, ↓hM.g31, ↓hM.g32, ↓hM.g36, ↓hM.g37, ↓hM.g39, ↓hM.g40, ↓hM.g41, ↓hM.g43, ↓hM.g45, ↓hM.g46, ↓zB_c ev, zB_c ev, p1, hls, h21, f03, hix, ebd, c20', e1, hm1, d26, e2, hm2, q26, hh, q12, ↓zB_c e, zB_c e, show ¬ (12 : Int32) = 0 by decide, show ¬ (12 : Int32) = 2 by decide, show ¬ (12 : Int32) = 8 by decide, show ¬ (12 : Int32) = 1 by decide, show ¬ (12 : Int32) = 6 by decide, show ¬ (12 : Int32) = 9 by decide, show ¬ (12 : Int32) = 11 by decide]
end
