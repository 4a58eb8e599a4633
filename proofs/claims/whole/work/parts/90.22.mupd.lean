-- deps: 90.07.heads 90.20.chg 90.21.upd
/-! what the reference emits, and lays -/
/-- what is emitted -/
def z_ol (m : z_m) (l : List z_N) : Prop := m 2390 38 = nI l.length ∧ ∀ i, i < l.length → m 2418 i = z_k l i ∧ m 2419 i = z_v l i ∧ m 2420 i = z_a l i
/-- what emitting may touch -/
def z_eF (m m' : z_m) : Prop := (∀ a, a ≠ 2390 → a ≠ 2418 → a ≠ 2419 → a ≠ 2420 → m' a = m a) ∧ ∀ j, j ≠ 38 → m' 2390 j = m 2390 j
theorem z_eF.refl (m : z_m) : z_eF m m := ⟨fun _ _ _ _ _ => rfl, fun _ _ => rfl⟩
theorem z_eF.trans {m m' m'' : z_m} (h : z_eF m m') (h2 : z_eF m' m'') : z_eF m m'' := ⟨fun a x y z t => (h2.1 a x y z t).trans (h.1 a x y z t), fun j x => (h2.2 j x).trans (h.2 j x)⟩
theorem z_eF.mF {m m' : z_m} (h : z_eF m m') : z_mF m m' := ⟨fun j _ => by rw [h.1 2391 (by decide) (by decide) (by decide) (by decide)], fun a x y => h.1 a (by omega) (by omega) (by omega) (by omega), fun j hj => h.2 j (by omega), fun a ha => h.1 a (by omega) (by omega) (by omega) (by omega)⟩
section
variable {S : z_S} {m : z_m} {A : z_A} {P : z_Pg} {b k i : Nat} {l : List z_N}
theorem z_ol_nil (hM : z_MS S) : z_ol (z_up m 2390 38 0) [] ∧ z_eF m (z_up m 2390 38 0) := ⟨⟨z_up_s _ _ _ _, fun i hi => absurd hi (Nat.not_lt_zero _)⟩, fun a x _ _ _ => z_up_row x, fun j x => z_up_b x⟩
/-- emit -/
theorem f260_sp (hM : z_MS S) (h : z_ol m l) (hl : l.length < 400) (K V a : Int32) : ∃ m', f260 2390 K V a (z_hp S m) = some ((), z_hp S m') ∧ z_ol m' (l ++ [(K, V, a)]) ∧ z_eF m m' := by
  obtain ⟨h1, h2⟩ := h
  generalize hm3 : z_up (z_up (z_up m 2418 l.length K) 2419 l.length V) 2420 l.length a = m3
  have u1 : z_up m 2418 l.length K 2390 38 = nI l.length := by rw [z_up_row (by decide)]; exact h1
  have u2 : z_up (z_up m 2418 l.length K) 2419 l.length V 2390 38 = nI l.length := by rw [z_up_row (by decide)]; exact u1
  have u3 : m3 2390 38 = nI l.length := by rw [← hm3, z_up_row (by decide)]; exact u2
  refine ⟨z_up m3 2390 38 (nI (l.length + 1)), ?_, ⟨?_, fun i hi => ?_⟩, fun a' x y z t => ?_, fun j hj => ?_⟩
  · unfold f260
    simp (disch := ((try simp only [true_or, or_true, hM.k, hM.k2391, hM.k2392, hM.k2393, hM.k2394, hM.k2395, hM.k2396, hM.k2397, hM.k2398, hM.k2399, hM.k2400, hM.k2401, hM.k2402, hM.k2403, hM.k2404, hM.k2405, hM.k2406, hM.k2407, hM.k2408, hM.k2409, hM.k2410, hM.k2411, hM.k2412, hM.k2413, hM.k2414, hM.k2415, hM.k2416, hM.k2417, hM.k2418, hM.k2419, hM.k2420, hM.k2421, hM.k2422, hM.k2423, hM.l2391, hM.l2392, hM.l2393, hM.l2394, hM.l2395, hM.l2396, hM.l2397, hM.l2398, hM.l2399, hM.l2400, hM.l2401, hM.l2402, hM.l2403, hM.l2404, hM.l2405, hM.l2406, hM.l2407, hM.l2408, hM.l2409, hM.l2410, hM.l2411, hM.l2412, hM.l2413, hM.l2414, hM.l2415, hM.l2416, hM.l2417, hM.l2418, hM.l2419, hM.l2420, hM.l2421, hM.l2422, hM.l2423]) <;> (try omega))) only [↓reduceIte, ↓z_ite, ↓zR, ↓zB_R, ↓zB_B, ↓zB_ite, ↓zB_gI, ↓zB_pI, ↓zB_pZ, ↓zB_aK, ↓zB_G, ↓zB_lI, ↓zB_lZ, ↓zB_wI, ↓zB_wZ, ↓zB_lIl, ↓zB_wIl, zB_pI, zB_pZ, zB_lI, zB_lZ, zB_wI, zB_wZ, z_addl, z_ladd, z_mull, z_lmul, nI_add, z_subl, Nat.not_lt_zero, z_10, z_01, z_bitc, z_b0, z_b1, ↓zB_Gb, ↓zB_G0, ↓zB_G1, z_eql, z_leq, z_ltl, z_llt, z_eq, z_lt, z_m1lt, hM.k, hM.k2391, hM.k2392, hM.k2393, hM.k2394, hM.k2395, hM.k2396, hM.k2397, hM.k2398, hM.k2399, hM.k2400, hM.k2401, hM.k2402, hM.k2403, hM.k2404, hM.k2405, hM.k2406, hM.k2407, hM.k2408, hM.k2409, hM.k2410, hM.k2411, hM.k2412, hM.k2413, hM.k2414, hM.k2415, hM.k2416, hM.k2417, hM.k2418, hM.k2419, hM.k2420, hM.k2421, hM.k2422, hM.k2423, hM.l2391, hM.l2392, hM.l2393, hM.l2394, hM.l2395, hM.l2396, hM.l2397, hM.l2398, hM.l2399, hM.l2400, hM.l2401, hM.l2402, hM.l2403, hM.l2404, hM.l2405, hM.l2406, hM.l2407, hM.l2408, hM.l2409, hM.l2410, hM.l2411, hM.l2412, hM.l2413, hM.l2414, hM.l2415, hM.l2416, hM.l2417, hM.l2418, hM.l2419, hM.l2420, hM.l2421, hM.l2422, hM.l2423, ↓hM.g1, ↓hM.g5, ↓hM.g6, ↓hM.g7, ↓hM.g8, ↓hM.g9, ↓hM.g10, ↓hM.g11, ↓hM.g12, ↓hM.g13, ↓hM.g14, ↓hM.g16, ↓hM.g17, ↓hM.g18, ↓hM.g19, ↓hM.g21, ↓hM.g22, ↓hM.g23, ↓hM.g24, ↓hM.g25, ↓hM.g27, ↓hM.g28, ↓hM.g30, ↓hM.g31, ↓hM.g32, ↓hM.g36, ↓hM.g37, ↓hM.g39, ↓hM.g40, ↓hM.g41, ↓hM.g43, ↓hM.g45, ↓hM.g46, h1, hl, u1, u2, hm3, u3]
  · rw [z_up_s, List.length_append]; rfl
  · rw [List.length_append] at hi
    have hi : i < l.length + 1 := hi
    rw [z_up_row (by decide), z_up_row (by decide), z_up_row (by decide), ← hm3]
    by_cases g : i = l.length
    · subst g
      rw [z_up_a (by decide), z_up_a (by decide), z_up_s, z_up_a (by decide), z_up_s, z_up_s]
      unfold z_k z_v z_a
      rw [z_at_last]
      exact ⟨rfl, rfl, rfl⟩
    · have hi2 : i < l.length := by omega
      rw [z_up_a (by decide), z_up_a (by decide), z_up_b g, z_up_a (by decide), z_up_b g, z_up_a (by decide), z_up_b g, z_up_a (by decide), z_up_a (by decide)]
      unfold z_k z_v z_a
      rw [z_at_app hi2]
      exact h2 i hi2
  · rw [z_up_row x, ← hm3, z_up_row t, z_up_row z, z_up_row y]
  · rw [z_up_b hj, ← hm3, z_up_row (by decide), z_up_row (by decide), z_up_row (by decide)]
/-- emitNode -/
theorem f261_sp (hM : z_MS S) (hb : z_mb m 0 P) (hk : k < z_nm P) (hi : i < (z_bd P k).length) (h : z_ol m l) (hl : l.length < 400) : ∃ m', f261 2390 (nI k) (nI i) (z_hp S m) = some ((), z_hp S m') ∧ z_ol m' (l ++ [z_at (z_bd P k) i]) ∧ z_eF m m' := by
  obtain ⟨m', e, h1, h2⟩ := f260_sp hM h hl (z_k (z_bd P k) i) (z_v (z_bd P k) i) (z_a (z_bd P k) i)
  refine ⟨m', ?_, h1, h2⟩
  have e1 := hb.ek hM (B := 0) rfl hk hi
  have e2 := hb.ev hM (B := 0) rfl hk hi
  have e3 := hb.ea hM (B := 0) rfl hk hi
  unfold f261
  simp (disch := ((try simp only [true_or, or_true, hM.k, hM.k2391, hM.k2392, hM.k2393, hM.k2394, hM.k2395, hM.k2396, hM.k2397, hM.k2398, hM.k2399, hM.k2400, hM.k2401, hM.k2402, hM.k2403, hM.k2404, hM.k2405, hM.k2406, hM.k2407, hM.k2408, hM.k2409, hM.k2410, hM.k2411, hM.k2412, hM.k2413, hM.k2414, hM.k2415, hM.k2416, hM.k2417, hM.k2418, hM.k2419, hM.k2420, hM.k2421, hM.k2422, hM.k2423, hM.l2391, hM.l2392, hM.l2393, hM.l2394, hM.l2395, hM.l2396, hM.l2397, hM.l2398, hM.l2399, hM.l2400, hM.l2401, hM.l2402, hM.l2403, hM.l2404, hM.l2405, hM.l2406, hM.l2407, hM.l2408, hM.l2409, hM.l2410, hM.l2411, hM.l2412, hM.l2413, hM.l2414, hM.l2415, hM.l2416, hM.l2417, hM.l2418, hM.l2419, hM.l2420, hM.l2421, hM.l2422, hM.l2423]) <;> (try omega))) only [↓reduceIte, ↓z_ite, ↓zR, ↓zB_R, ↓zB_B, ↓zB_ite, ↓zB_gI, ↓zB_pI, ↓zB_pZ, ↓zB_aK, ↓zB_G, ↓zB_lI, ↓zB_lZ, ↓zB_wI, ↓zB_wZ, ↓zB_lIl, ↓zB_wIl, zB_pI, zB_pZ, zB_lI, zB_lZ, zB_wI, zB_wZ, z_addl, z_ladd, z_mull, z_lmul, nI_add, z_subl, Nat.not_lt_zero, z_10, z_01, z_bitc, z_b0, z_b1, ↓zB_Gb, ↓zB_G0, ↓zB_G1, z_eql, z_leq, z_ltl, z_llt, z_eq, z_lt, z_m1lt, hM.k, hM.k2391, hM.k2392, hM.k2393, hM.k2394, hM.k2395, hM.k2396, hM.k2397, hM.k2398, hM.k2399, hM.k2400, hM.k2401, hM.k2402, hM.k2403, hM.k2404, hM.k2405, hM.k2406, hM.k2407, hM.k2408, hM.k2409, hM.k2410, hM.k2411, hM.k2412, hM.k2413, hM.k2414, hM.k2415, hM.k2416, hM.k2417, hM.k2418, hM.k2419, hM.k2420, hM.k2421, hM.k2422, hM.k2423, hM.l2391, hM.l2392, hM.l2393, hM.l2394, hM.l2395, hM.l2396, hM.l2397, hM.l2398, hM.l2399, hM.l2400, hM.l2401, hM.l2402, hM.l2403, hM.l2404, hM.l2405, hM.l2406, hM.l2407, hM.l2408, hM.l2409, hM.l2410, hM.l2411, hM.l2412, hM.l2413, hM.l2414, hM.l2415, hM.l2416, hM.l2417, hM.l2418, hM.l2419, hM.l2420, hM.l2421, hM.l2422, hM.l2423, ↓hM.g1, ↓hM.g5, ↓hM.g6, ↓hM.g7, ↓hM.g8, ↓hM.g9, ↓hM.g10, ↓hM.g11, ↓hM.g12, ↓hM.g13, ↓hM.g14, ↓hM.g16, ↓hM.g17, ↓hM.g18, ↓hM.g19, ↓hM.g21, ↓hM.g22, ↓hM.g23, ↓hM.g24, ↓hM.g25, ↓hM.g27, ↓hM.g28, ↓hM.g30, ↓hM.g31, ↓hM.g32, ↓hM.g36, ↓hM.g37, ↓hM.g39, ↓hM.g40, ↓hM.g41, ↓hM.g43, ↓hM.g45, ↓hM.g46, ↓zB_c e1, zB_c e1, ↓zB_c e2, zB_c e2, ↓zB_c e3, zB_c e3, ↓zB_c e, zB_c e]
/-- emitPlain -/
theorem f263_sp (hM : z_MS S) (hb : z_mb m 0 P) (hk : k < z_nm P) (hi : i < (z_bd P k).length) (h : z_ol m l) (hl : l.length + 1 < 400) (name : Int32) : ∃ m', f263 2390 (nI k) (nI i) name (z_hp S m) = some ((), z_hp S m') ∧ z_ol m' (l ++ z_pln (z_k (z_bd P k) i) name) ∧ z_eF m m' := by
  have e1 := hb.ek hM (B := 0) rfl hk hi
  obtain ⟨m1, ea, h1, h2⟩ := f260_sp hM h (by omega) (if z_k (z_bd P k) i = 1 then 3 else 4) name 0
  obtain ⟨m2, eb, h3, h4⟩ := f260_sp hM h1 (by rw [List.length_append]; exact hl) 2 0 0
  refine ⟨m2, ?_, ?_, h2.trans h4⟩
  · unfold f263 f263_17
    by_cases g : z_k (z_bd P k) i = 1
    · rw [if_pos g] at ea
      simp (disch := ((try simp only [true_or, or_true, hM.k, hM.k2391, hM.k2392, hM.k2393, hM.k2394, hM.k2395, hM.k2396, hM.k2397, hM.k2398, hM.k2399, hM.k2400, hM.k2401, hM.k2402, hM.k2403, hM.k2404, hM.k2405, hM.k2406, hM.k2407, hM.k2408, hM.k2409, hM.k2410, hM.k2411, hM.k2412, hM.k2413, hM.k2414, hM.k2415, hM.k2416, hM.k2417, hM.k2418, hM.k2419, hM.k2420, hM.k2421, hM.k2422, hM.k2423, hM.l2391, hM.l2392, hM.l2393, hM.l2394, hM.l2395, hM.l2396, hM.l2397, hM.l2398, hM.l2399, hM.l2400, hM.l2401, hM.l2402, hM.l2403, hM.l2404, hM.l2405, hM.l2406, hM.l2407, hM.l2408, hM.l2409, hM.l2410, hM.l2411, hM.l2412, hM.l2413, hM.l2414, hM.l2415, hM.l2416, hM.l2417, hM.l2418, hM.l2419, hM.l2420, hM.l2421, hM.l2422, hM.l2423]) <;> (try omega))) only [↓reduceIte, ↓z_ite, ↓zR, ↓zB_R, ↓zB_B, ↓zB_ite, ↓zB_gI, ↓zB_pI, ↓zB_pZ, ↓zB_aK, ↓zB_G, ↓zB_lI, ↓zB_lZ, ↓zB_wI, ↓zB_wZ, ↓zB_lIl, ↓zB_wIl, zB_pI, zB_pZ, zB_lI, zB_lZ, zB_wI, zB_wZ, z_addl, z_ladd, z_mull, z_lmul, nI_add, z_subl, Nat.not_lt_zero, z_10, z_01, z_bitc, z_b0, z_b1, ↓zB_Gb, ↓zB_G0, ↓zB_G1, z_eql, z_leq, z_ltl, z_llt, z_eq, z_lt, z_m1lt, hM.k, hM.k2391, hM.k2392, hM.k2393, hM.k2394, hM.k2395, hM.k2396, hM.k2397, hM.k2398, hM.k2399, hM.k2400, hM.k2401, hM.k2402, hM.k2403, hM.k2404, hM.k2405, hM.k2406, hM.k2407, hM.k2408, hM.k2409, hM.k2410, hM.k2411, hM.k2412, hM.k2413, hM.k2414, hM.k2415, hM.k2416, hM.k2417, hM.k2418, hM.k2419, hM.k2420, hM.k2421, hM.k2422, hM.k2423, hM.l2391, hM.l2392, hM.l2393, hM.l2394, hM.l2395, hM.l2396, hM.l2397, hM.l2398, hM.l2399, hM.l2400, hM.l2401, hM.l2402, hM.l2403, hM.l2404, hM.l2405, hM.l2406, hM.l2407, hM.l2408, hM.l2409, hM.l2410, hM.l2411, hM.l2412, hM.l2413, hM.l2414, hM.l2415, hM.l2416, hM.l2417, hM.l2418, hM.l2419, hM.l2420, hM.l2421, hM.l2422, hM.l2423, ↓hM.g1, ↓hM.g5, ↓hM.g6, ↓hM.g7, ↓hM.g8, ↓hM.g9, ↓hM.g10, ↓hM.g11, ↓hM.g12, ↓hM.g13, ↓hM.g14, ↓hM.g16, ↓hM.g17, ↓hM.g18, ↓hM.g19, ↓hM.g21, ↓hM.g22, ↓hM.g23, ↓hM.g24, ↓hM.g25, ↓hM.g27, ↓hM.g28, ↓hM.g30, ↓hM.g31, ↓hM.g32, ↓hM.g36, ↓hM.g37, ↓hM.g39, ↓hM.g40, ↓hM.g41, ↓hM.g43, ↓hM.g45, ↓hM.g46, ↓zB_c e1, zB_c e1, g, ↓zB_c ea, zB_c ea, ↓zB_c eb, zB_c eb]
    · rw [if_neg g] at ea
      simp (disch := ((try simp only [true_or, or_true, hM.k, hM.k2391, hM.k2392, hM.k2393, hM.k2394, hM.k2395, hM.k2396, hM.k2397, hM.k2398, hM.k2399, hM.k2400, hM.k2401, hM.k2402, hM.k2403, hM.k2404, hM.k2405, hM.k2406, hM.k2407, hM.k2408, hM.k2409, hM.k2410, hM.k2411, hM.k2412, hM.k2413, hM.k2414, hM.k2415, hM.k2416, hM.k2417, hM.k2418, hM.k2419, hM.k2420, hM.k2421, hM.k2422, hM.k2423, hM.l2391, hM.l2392, hM.l2393, hM.l2394, hM.l2395, hM.l2396, hM.l2397, hM.l2398, hM.l2399, hM.l2400, hM.l2401, hM.l2402, hM.l2403, hM.l2404, hM.l2405, hM.l2406, hM.l2407, hM.l2408, hM.l2409, hM.l2410, hM.l2411, hM.l2412, hM.l2413, hM.l2414, hM.l2415, hM.l2416, hM.l2417, hM.l2418, hM.l2419, hM.l2420, hM.l2421, hM.l2422, hM.l2423]) <;> (try omega))) only [↓reduceIte, ↓z_ite, ↓zR, ↓zB_R, ↓zB_B, ↓zB_ite, ↓zB_gI, ↓zB_pI, ↓zB_pZ, ↓zB_aK, ↓zB_G, ↓zB_lI, ↓zB_lZ, ↓zB_wI, ↓zB_wZ, ↓zB_lIl, ↓zB_wIl, zB_pI, zB_pZ, zB_lI, zB_lZ, zB_wI, zB_wZ, z_addl, z_ladd, z_mull, z_lmul, nI_add, z_subl, Nat.not_lt_zero, z_10, z_01, z_bitc, z_b0, z_b1, ↓zB_Gb, ↓zB_G0, ↓zB_G1, z_eql, z_leq, z_ltl, z_llt, z_eq, z_lt, z_m1lt, hM.k, hM.k2391, hM.k2392, hM.k2393, hM.k2394, hM.k2395, hM.k2396, hM.k2397, hM.k2398, hM.k2399, hM.k2400, hM.k2401, hM.k2402, hM.k2403, hM.k2404, hM.k2405, hM.k2406, hM.k2407, hM.k2408, hM.k2409, hM.k2410, hM.k2411, hM.k2412, hM.k2413, hM.k2414, hM.k2415, hM.k2416, hM.k2417, hM.k2418, hM.k2419, hM.k2420, hM.k2421, hM.k2422, hM.k2423, hM.l2391, hM.l2392, hM.l2393, hM.l2394, hM.l2395, hM.l2396, hM.l2397, hM.l2398, hM.l2399, hM.l2400, hM.l2401, hM.l2402, hM.l2403, hM.l2404, hM.l2405, hM.l2406, hM.l2407, hM.l2408, hM.l2409, hM.l2410, hM.l2411, hM.l2412, hM.l2413, hM.l2414, hM.l2415, hM.l2416, hM.l2417, hM.l2418, hM.l2419, hM.l2420, hM.l2421, hM.l2422, hM.l2423, ↓hM.g1, ↓hM.g5, ↓hM.g6, ↓hM.g7, ↓hM.g8, ↓hM.g9, ↓hM.g10, ↓hM.g11, ↓hM.g12, ↓hM.g13, ↓hM.g14, ↓hM.g16, ↓hM.g17, ↓hM.g18, ↓hM.g19, ↓hM.g21, ↓hM.g22, ↓hM.g23, ↓hM.g24, ↓hM.g25, ↓hM.g27, ↓hM.g28, ↓hM.g30, ↓hM.g31, ↓hM.g32, ↓hM.g36, ↓hM.g37, ↓hM.g39, ↓hM.g40, ↓hM.g41, ↓hM.g43, ↓hM.g45, ↓hM.g46, ↓zB_c e1, zB_c e1, g, ↓zB_c ea, zB_c ea, ↓zB_c eb, zB_c eb]
  · unfold z_pln
    rw [List.append_assoc] at h3; exact h3
/-- emitAll -/
theorem f262_sp (hM : z_MS S) (hb : z_mb m 0 P) (hk : k < z_nm P) {i j : Nat} (hij : i ≤ j) (hj : j ≤ (z_bd P k).length) (h : z_ol m l) (hl : l.length + (j - i) ≤ 400) : ∃ m', f262 2390 (nI k) (nI i) (nI j) (z_hp S m) = some ((), z_hp S m') ∧ z_ol m' (l ++ z_sub (z_bd P k) i j) ∧ z_eF m m' := by
  have hlen := (hb.2.2.2.2.2.2 k hk).2.2.1
  unfold f262 f262_3
  have key := z_loopI (f := fun s => f262_3b (s.1) (s.2.1) (s.2.2.1) (s.2.2.2)) (S := S) (fun n s m' => ∃ q, n = j - q ∧ i ≤ q ∧ q ≤ j ∧ s = (2390, nI k, nI j, nI q) ∧ z_ol m' (l ++ z_sub (z_bd P k) i q) ∧ z_eF m m') (fun _ m' => z_ol m' (l ++ z_sub (z_bd P k) i j) ∧ z_eF m m') ?_ 1000000 (j - i) (2390, nI k, nI j, nI i) m ⟨i, rfl, Nat.le_refl _, hij, rfl, by rw [z_sub_nil, List.append_nil]; exact h, z_eF.refl m⟩ (by omega)
  · obtain ⟨r, m', e, g⟩ := key
    exact ⟨m', e, g⟩
  · rintro n s m' ⟨q, rfl, h1, h2, rfl, g1, g2⟩
    dsimp only
    rcases Nat.eq_or_lt_of_le h2 with hq | hq
    · refine Or.inr ⟨(), m', ?_, by rw [hq] at g1; exact g1, g2⟩
      unfold f262_3b f262_22
      rw [hq]
      simp (disch := ((try simp only [true_or, or_true, hM.k, hM.k2391, hM.k2392, hM.k2393, hM.k2394, hM.k2395, hM.k2396, hM.k2397, hM.k2398, hM.k2399, hM.k2400, hM.k2401, hM.k2402, hM.k2403, hM.k2404, hM.k2405, hM.k2406, hM.k2407, hM.k2408, hM.k2409, hM.k2410, hM.k2411, hM.k2412, hM.k2413, hM.k2414, hM.k2415, hM.k2416, hM.k2417, hM.k2418, hM.k2419, hM.k2420, hM.k2421, hM.k2422, hM.k2423, hM.l2391, hM.l2392, hM.l2393, hM.l2394, hM.l2395, hM.l2396, hM.l2397, hM.l2398, hM.l2399, hM.l2400, hM.l2401, hM.l2402, hM.l2403, hM.l2404, hM.l2405, hM.l2406, hM.l2407, hM.l2408, hM.l2409, hM.l2410, hM.l2411, hM.l2412, hM.l2413, hM.l2414, hM.l2415, hM.l2416, hM.l2417, hM.l2418, hM.l2419, hM.l2420, hM.l2421, hM.l2422, hM.l2423]) <;> (try omega))) only [↓reduceIte, ↓z_ite, ↓zR, ↓zB_R, ↓zB_B, ↓zB_ite, ↓zB_gI, ↓zB_pI, ↓zB_pZ, ↓zB_aK, ↓zB_G, ↓zB_lI, ↓zB_lZ, ↓zB_wI, ↓zB_wZ, ↓zB_lIl, ↓zB_wIl, zB_pI, zB_pZ, zB_lI, zB_lZ, zB_wI, zB_wZ, z_addl, z_ladd, z_mull, z_lmul, nI_add, z_subl, Nat.not_lt_zero, z_10, z_01, z_bitc, z_b0, z_b1, ↓zB_Gb, ↓zB_G0, ↓zB_G1, z_eql, z_leq, z_ltl, z_llt, z_eq, z_lt, z_m1lt, hM.k, hM.k2391, hM.k2392, hM.k2393, hM.k2394, hM.k2395, hM.k2396, hM.k2397, hM.k2398, hM.k2399, hM.k2400, hM.k2401, hM.k2402, hM.k2403, hM.k2404, hM.k2405, hM.k2406, hM.k2407, hM.k2408, hM.k2409, hM.k2410, hM.k2411, hM.k2412, hM.k2413, hM.k2414, hM.k2415, hM.k2416, hM.k2417, hM.k2418, hM.k2419, hM.k2420, hM.k2421, hM.k2422, hM.k2423, hM.l2391, hM.l2392, hM.l2393, hM.l2394, hM.l2395, hM.l2396, hM.l2397, hM.l2398, hM.l2399, hM.l2400, hM.l2401, hM.l2402, hM.l2403, hM.l2404, hM.l2405, hM.l2406, hM.l2407, hM.l2408, hM.l2409, hM.l2410, hM.l2411, hM.l2412, hM.l2413, hM.l2414, hM.l2415, hM.l2416, hM.l2417, hM.l2418, hM.l2419, hM.l2420, hM.l2421, hM.l2422, hM.l2423, ↓hM.g1, ↓hM.g5, ↓hM.g6, ↓hM.g7, ↓hM.g8, ↓hM.g9, ↓hM.g10, ↓hM.g11, ↓hM.g12, ↓hM.g13, ↓hM.g14, ↓hM.g16, ↓hM.g17, ↓hM.g18, ↓hM.g19, ↓hM.g21, ↓hM.g22, ↓hM.g23, ↓hM.g24, ↓hM.g25, ↓hM.g27, ↓hM.g28, ↓hM.g30, ↓hM.g31, ↓hM.g32, ↓hM.g36, ↓hM.g37, ↓hM.g39, ↓hM.g40, ↓hM.g41, ↓hM.g43, ↓hM.g45, ↓hM.g46, Nat.lt_irrefl]
    · have hb1 : z_mb m' 0 P := z_mb_mF g2.mF (by decide) hb
      obtain ⟨m2, e, c1, c2⟩ := f261_sp (S := S) hM hb1 hk (i := q) (by omega) g1 (by rw [List.length_append, z_sub_len h1 (by omega)]; omega)
      refine Or.inl ⟨(2390, nI k, nI j, nI (q + 1)), m2, j - (q + 1), ?_, by omega, q + 1, rfl, by omega, hq, rfl, ?_, g2.trans c2⟩
      · unfold f262_3b
        simp (disch := ((try simp only [true_or, or_true, hM.k, hM.k2391, hM.k2392, hM.k2393, hM.k2394, hM.k2395, hM.k2396, hM.k2397, hM.k2398, hM.k2399, hM.k2400, hM.k2401, hM.k2402, hM.k2403, hM.k2404, hM.k2405, hM.k2406, hM.k2407, hM.k2408, hM.k2409, hM.k2410, hM.k2411, hM.k2412, hM.k2413, hM.k2414, hM.k2415, hM.k2416, hM.k2417, hM.k2418, hM.k2419, hM.k2420, hM.k2421, hM.k2422, hM.k2423, hM.l2391, hM.l2392, hM.l2393, hM.l2394, hM.l2395, hM.l2396, hM.l2397, hM.l2398, hM.l2399, hM.l2400, hM.l2401, hM.l2402, hM.l2403, hM.l2404, hM.l2405, hM.l2406, hM.l2407, hM.l2408, hM.l2409, hM.l2410, hM.l2411, hM.l2412, hM.l2413, hM.l2414, hM.l2415, hM.l2416, hM.l2417, hM.l2418, hM.l2419, hM.l2420, hM.l2421, hM.l2422, hM.l2423]) <;> (try omega))) only [↓reduceIte, ↓z_ite, ↓zR, ↓zB_R, ↓zB_B, ↓zB_ite, ↓zB_gI, ↓zB_pI, ↓zB_pZ, ↓zB_aK, ↓zB_G, ↓zB_lI, ↓zB_lZ, ↓zB_wI, ↓zB_wZ, ↓zB_lIl, ↓zB_wIl, zB_pI, zB_pZ, zB_lI, zB_lZ, zB_wI, zB_wZ, z_addl, z_ladd, z_mull, z_lmul, nI_add, z_subl, Nat.not_lt_zero, z_10, z_01, z_bitc, z_b0, z_b1, ↓zB_Gb, ↓zB_G0, ↓zB_G1, z_eql, z_leq, z_ltl, z_llt, z_eq, z_lt, z_m1lt, hM.k, hM.k2391, hM.k2392, hM.k2393, hM.k2394, hM.k2395, hM.k2396, hM.k2397, hM.k2398, hM.k2399, hM.k2400, hM.k2401, hM.k2402, hM.k2403, hM.k2404, hM.k2405, hM.k2406, hM.k2407, hM.k2408, hM.k2409, hM.k2410, hM.k2411, hM.k2412, hM.k2413, hM.k2414, hM.k2415, hM.k2416, hM.k2417, hM.k2418, hM.k2419, hM.k2420, hM.k2421, hM.k2422, hM.k2423, hM.l2391, hM.l2392, hM.l2393, hM.l2394, hM.l2395, hM.l2396, hM.l2397, hM.l2398, hM.l2399, hM.l2400, hM.l2401, hM.l2402, hM.l2403, hM.l2404, hM.l2405, hM.l2406, hM.l2407, hM.l2408, hM.l2409, hM.l2410, hM.l2411, hM.l2412, hM.l2413, hM.l2414, hM.l2415, hM.l2416, hM.l2417, hM.l2418, hM.l2419, hM.l2420, hM.l2421, hM.l2422, hM.l2423, ↓hM.g1, ↓hM.g5, ↓hM.g6, ↓hM.g7, ↓hM.g8, ↓hM.g9, ↓hM.g10, ↓hM.g11, ↓hM.g12, ↓hM.g13, ↓hM.g14, ↓hM.g16, ↓hM.g17, ↓hM.g18, ↓hM.g19, ↓hM.g21, ↓hM.g22, ↓hM.g23, ↓hM.g24, ↓hM.g25, ↓hM.g27, ↓hM.g28, ↓hM.g30, ↓hM.g31, ↓hM.g32, ↓hM.g36, ↓hM.g37, ↓hM.g39, ↓hM.g40, ↓hM.g41, ↓hM.g43, ↓hM.g45, ↓hM.g46, hq, ↓zB_c e, zB_c e]
      · rw [z_sub_snoc h1 (by omega), ← List.append_assoc]; exact c1
/-- what laying a body in the copy may touch -/
def z_yF (k : Nat) (m m' : z_m) : Prop := (∀ a, a ≠ 2391 → m' a = m a) ∧ ∀ j, j ≠ 28400 + 104 + 10 * k + 9 → (j < 28400 + 344 + 576 * k ∨ 28400 + 344 + 576 * k + 576 ≤ j) → m' 2391 j = m 2391 j
theorem z_yF.mF {m m' : z_m} (h : z_yF k m m') (hk : k < 24) : z_mF m m' := ⟨fun j hj => h.2 j (by omega) (by omega), fun a x y => h.1 a (by omega), fun j hj => by rw [h.1 _ (by decide)], fun a ha => h.1 a (by omega)⟩
theorem z_hF.mF {m m' : z_m} (h : z_hF 2 k m m') (hk : k < 24) : z_mF m m' := ⟨fun j hj => h.2 j (by omega), fun a x y => h.1 a (by omega), fun j hj => by rw [h.1 _ (by decide)], fun a ha => h.1 a (by omega)⟩
/-- setNode -/
theorem f202_sp (hM : z_MS S) {B : Int32} (hB : B = nI b) (hb : b < 13) (hk : k < 24) (hi : i < 192) (K V a : Int32) : f202 2390 B (nI k) (nI i) K V a (z_hp S m) = some ((), z_hp S (z_up (z_up (z_up m 2391 (14200 * b + 344 + 576 * k + i) K) 2391 (14200 * b + 344 + 576 * k + i + 192) V) 2391 (14200 * b + 344 + 576 * k + i + 384) a)) := by
  subst hB
  unfold f202 f198
  simp (disch := ((try simp only [true_or, or_true, hM.k, hM.k2391, hM.k2392, hM.k2393, hM.k2394, hM.k2395, hM.k2396, hM.k2397, hM.k2398, hM.k2399, hM.k2400, hM.k2401, hM.k2402, hM.k2403, hM.k2404, hM.k2405, hM.k2406, hM.k2407, hM.k2408, hM.k2409, hM.k2410, hM.k2411, hM.k2412, hM.k2413, hM.k2414, hM.k2415, hM.k2416, hM.k2417, hM.k2418, hM.k2419, hM.k2420, hM.k2421, hM.k2422, hM.k2423, hM.l2391, hM.l2392, hM.l2393, hM.l2394, hM.l2395, hM.l2396, hM.l2397, hM.l2398, hM.l2399, hM.l2400, hM.l2401, hM.l2402, hM.l2403, hM.l2404, hM.l2405, hM.l2406, hM.l2407, hM.l2408, hM.l2409, hM.l2410, hM.l2411, hM.l2412, hM.l2413, hM.l2414, hM.l2415, hM.l2416, hM.l2417, hM.l2418, hM.l2419, hM.l2420, hM.l2421, hM.l2422, hM.l2423]) <;> (try omega))) only [↓reduceIte, ↓z_ite, ↓zR, ↓zB_R, ↓zB_B, ↓zB_ite, ↓zB_gI, ↓zB_pI, ↓zB_pZ, ↓zB_aK, ↓zB_G, ↓zB_lI, ↓zB_lZ, ↓zB_wI, ↓zB_wZ, ↓zB_lIl, ↓zB_wIl, zB_pI, zB_pZ, zB_lI, zB_lZ, zB_wI, zB_wZ, z_addl, z_ladd, z_mull, z_lmul, nI_add, z_subl, Nat.not_lt_zero, z_10, z_01, z_bitc, z_b0, z_b1, ↓zB_Gb, ↓zB_G0, ↓zB_G1, z_eql, z_leq, z_ltl, z_llt, z_eq, z_lt, z_m1lt, hM.k, hM.k2391, hM.k2392, hM.k2393, hM.k2394, hM.k2395, hM.k2396, hM.k2397, hM.k2398, hM.k2399, hM.k2400, hM.k2401, hM.k2402, hM.k2403, hM.k2404, hM.k2405, hM.k2406, hM.k2407, hM.k2408, hM.k2409, hM.k2410, hM.k2411, hM.k2412, hM.k2413, hM.k2414, hM.k2415, hM.k2416, hM.k2417, hM.k2418, hM.k2419, hM.k2420, hM.k2421, hM.k2422, hM.k2423, hM.l2391, hM.l2392, hM.l2393, hM.l2394, hM.l2395, hM.l2396, hM.l2397, hM.l2398, hM.l2399, hM.l2400, hM.l2401, hM.l2402, hM.l2403, hM.l2404, hM.l2405, hM.l2406, hM.l2407, hM.l2408, hM.l2409, hM.l2410, hM.l2411, hM.l2412, hM.l2413, hM.l2414, hM.l2415, hM.l2416, hM.l2417, hM.l2418, hM.l2419, hM.l2420, hM.l2421, hM.l2422, hM.l2423, ↓hM.g1, ↓hM.g5, ↓hM.g6, ↓hM.g7, ↓hM.g8, ↓hM.g9, ↓hM.g10, ↓hM.g11, ↓hM.g12, ↓hM.g13, ↓hM.g14, ↓hM.g16, ↓hM.g17, ↓hM.g18, ↓hM.g19, ↓hM.g21, ↓hM.g22, ↓hM.g23, ↓hM.g24, ↓hM.g25, ↓hM.g27, ↓hM.g28, ↓hM.g30, ↓hM.g31, ↓hM.g32, ↓hM.g36, ↓hM.g37, ↓hM.g39, ↓hM.g40, ↓hM.g41, ↓hM.g43, ↓hM.g45, ↓hM.g46]
/-- layOut -/
theorem f264_sp (hM : z_MS S) (hk : k < 24) (h : z_ol m l) (hl : l.length ≤ 192) : ∃ m', f264 2390 (nI k) (z_hp S m) = some ((), z_hp S m') ∧ (∀ j, j < l.length → m' 2391 (28400 + 344 + 576 * k + j) = z_k l j ∧ m' 2391 (28400 + 344 + 576 * k + j + 192) = z_v l j ∧ m' 2391 (28400 + 344 + 576 * k + j + 384) = z_a l j) ∧ m' 2391 (28400 + 104 + 10 * k + 9) = nI l.length ∧ z_yF k m m' := by
  obtain ⟨h1, h2⟩ := h
  unfold f264 f264_2
  have key := z_loopI (f := fun s => f264_2b (s.1) (s.2.1) (s.2.2)) (S := S) (fun n s m' => ∃ i, n = l.length - i ∧ i ≤ l.length ∧ s = (2390, nI k, nI i) ∧ (∀ j, j < i → m' 2391 (28400 + 344 + 576 * k + j) = z_k l j ∧ m' 2391 (28400 + 344 + 576 * k + j + 192) = z_v l j ∧ m' 2391 (28400 + 344 + 576 * k + j + 384) = z_a l j) ∧ z_yF k m m') (fun _ m' => (∀ j, j < l.length → m' 2391 (28400 + 344 + 576 * k + j) = z_k l j ∧ m' 2391 (28400 + 344 + 576 * k + j + 192) = z_v l j ∧ m' 2391 (28400 + 344 + 576 * k + j + 384) = z_a l j) ∧ m' 2391 (28400 + 104 + 10 * k + 9) = nI l.length ∧ z_yF k m m') ?_ 1000000 l.length (2390, nI k, 0) m ⟨0, rfl, Nat.zero_le _, rfl, fun j hj => by omega, fun _ _ => rfl, fun _ _ _ => rfl⟩ (by omega)
  · obtain ⟨r, m', e, g⟩ := key
    exact ⟨m', e, g⟩
  · rintro n s m' ⟨i, rfl, hi, rfl, g1, g2⟩
    have h1' : m' 2390 38 = nI l.length := by rw [g2.1 _ (by decide)]; exact h1
    dsimp only
    rcases Nat.eq_or_lt_of_le hi with hi2 | hi2
    · refine Or.inr ⟨(), z_hx m' 2 k 9 (nI l.length), ?_, fun j hj => ?_, ?_, fun a ha => ?_, fun j x y => ?_⟩
      · unfold f264_2b f264_48
        rw [hi2]
        simp (disch := ((try simp only [true_or, or_true, hM.k, hM.k2391, hM.k2392, hM.k2393, hM.k2394, hM.k2395, hM.k2396, hM.k2397, hM.k2398, hM.k2399, hM.k2400, hM.k2401, hM.k2402, hM.k2403, hM.k2404, hM.k2405, hM.k2406, hM.k2407, hM.k2408, hM.k2409, hM.k2410, hM.k2411, hM.k2412, hM.k2413, hM.k2414, hM.k2415, hM.k2416, hM.k2417, hM.k2418, hM.k2419, hM.k2420, hM.k2421, hM.k2422, hM.k2423, hM.l2391, hM.l2392, hM.l2393, hM.l2394, hM.l2395, hM.l2396, hM.l2397, hM.l2398, hM.l2399, hM.l2400, hM.l2401, hM.l2402, hM.l2403, hM.l2404, hM.l2405, hM.l2406, hM.l2407, hM.l2408, hM.l2409, hM.l2410, hM.l2411, hM.l2412, hM.l2413, hM.l2414, hM.l2415, hM.l2416, hM.l2417, hM.l2418, hM.l2419, hM.l2420, hM.l2421, hM.l2422, hM.l2423]) <;> (try omega))) only [↓reduceIte, ↓z_ite, ↓zR, ↓zB_R, ↓zB_B, ↓zB_ite, ↓zB_gI, ↓zB_pI, ↓zB_pZ, ↓zB_aK, ↓zB_G, ↓zB_lI, ↓zB_lZ, ↓zB_wI, ↓zB_wZ, ↓zB_lIl, ↓zB_wIl, zB_pI, zB_pZ, zB_lI, zB_lZ, zB_wI, zB_wZ, z_addl, z_ladd, z_mull, z_lmul, nI_add, z_subl, Nat.not_lt_zero, z_10, z_01, z_bitc, z_b0, z_b1, ↓zB_Gb, ↓zB_G0, ↓zB_G1, z_eql, z_leq, z_ltl, z_llt, z_eq, z_lt, z_m1lt, hM.k, hM.k2391, hM.k2392, hM.k2393, hM.k2394, hM.k2395, hM.k2396, hM.k2397, hM.k2398, hM.k2399, hM.k2400, hM.k2401, hM.k2402, hM.k2403, hM.k2404, hM.k2405, hM.k2406, hM.k2407, hM.k2408, hM.k2409, hM.k2410, hM.k2411, hM.k2412, hM.k2413, hM.k2414, hM.k2415, hM.k2416, hM.k2417, hM.k2418, hM.k2419, hM.k2420, hM.k2421, hM.k2422, hM.k2423, hM.l2391, hM.l2392, hM.l2393, hM.l2394, hM.l2395, hM.l2396, hM.l2397, hM.l2398, hM.l2399, hM.l2400, hM.l2401, hM.l2402, hM.l2403, hM.l2404, hM.l2405, hM.l2406, hM.l2407, hM.l2408, hM.l2409, hM.l2410, hM.l2411, hM.l2412, hM.l2413, hM.l2414, hM.l2415, hM.l2416, hM.l2417, hM.l2418, hM.l2419, hM.l2420, hM.l2421, hM.l2422, hM.l2423, ↓hM.g1, ↓hM.g5, ↓hM.g6, ↓hM.g7, ↓hM.g8, ↓hM.g9, ↓hM.g10, ↓hM.g11, ↓hM.g12, ↓hM.g13, ↓hM.g14, ↓hM.g16, ↓hM.g17, ↓hM.g18, ↓hM.g19, ↓hM.g21, ↓hM.g22, ↓hM.g23, ↓hM.g24, ↓hM.g25, ↓hM.g27, ↓hM.g28, ↓hM.g30, ↓hM.g31, ↓hM.g32, ↓hM.g36, ↓hM.g37, ↓hM.g39, ↓hM.g40, ↓hM.g41, ↓hM.g43, ↓hM.g45, ↓hM.g46, h1', Nat.lt_irrefl, ↓r197_2_9 hM hk]
      · rw [hi2] at g1
        rw [z_hx_o (by omega) (by decide), z_hx_o (by omega) (by decide), z_hx_o (by omega) (by decide)]
        exact g1 j hj
      · have := z_hx_r (m := m') (b := 2) (k := k) (w := 9) (v := nI l.length) (w' := 9)
        rw [if_pos rfl] at this; exact this
      · rw [z_hx_n ha]; exact g2.1 a ha
      · unfold z_hx
        rw [z_up_b (by omega)]; exact g2.2 j x y
    · obtain ⟨e1, e2, e3⟩ := h2 i hi2
      have f1 : m' 2418 i = z_k l i := by rw [g2.1 _ (by decide)]; exact e1
      have f2 : m' 2419 i = z_v l i := by rw [g2.1 _ (by decide)]; exact e2
      have f3 : m' 2420 i = z_a l i := by rw [g2.1 _ (by decide)]; exact e3
      have e : f202 2390 2 (nI k) (nI i) (z_k l i) (z_v l i) (z_a l i) (z_hp S m') = some ((), z_hp S (z_up (z_up (z_up m' 2391 (28400 + 344 + 576 * k + i) (z_k l i)) 2391 (28400 + 344 + 576 * k + i + 192) (z_v l i)) 2391 (28400 + 344 + 576 * k + i + 384) (z_a l i))) := f202_sp (S := S) (m := m') hM (B := 2) (b := 2) rfl (by decide) hk (i := i) (by omega) (z_k l i) (z_v l i) (z_a l i)
      have hi3 : i < 192 := by omega
      refine Or.inl ⟨(2390, nI k, nI (i + 1)), z_up (z_up (z_up m' 2391 (28400 + 344 + 576 * k + i) (z_k l i)) 2391 (28400 + 344 + 576 * k + i + 192) (z_v l i)) 2391 (28400 + 344 + 576 * k + i + 384) (z_a l i), l.length - (i + 1), ?_, by omega, i + 1, rfl, hi2, rfl, fun j hj => ?_, fun a ha => ?_, fun j x y => ?_⟩
      · unfold f264_2b
        simp (disch := ((try simp only [true_or, or_true, hM.k, hM.k2391, hM.k2392, hM.k2393, hM.k2394, hM.k2395, hM.k2396, hM.k2397, hM.k2398, hM.k2399, hM.k2400, hM.k2401, hM.k2402, hM.k2403, hM.k2404, hM.k2405, hM.k2406, hM.k2407, hM.k2408, hM.k2409, hM.k2410, hM.k2411, hM.k2412, hM.k2413, hM.k2414, hM.k2415, hM.k2416, hM.k2417, hM.k2418, hM.k2419, hM.k2420, hM.k2421, hM.k2422, hM.k2423, hM.l2391, hM.l2392, hM.l2393, hM.l2394, hM.l2395, hM.l2396, hM.l2397, hM.l2398, hM.l2399, hM.l2400, hM.l2401, hM.l2402, hM.l2403, hM.l2404, hM.l2405, hM.l2406, hM.l2407, hM.l2408, hM.l2409, hM.l2410, hM.l2411, hM.l2412, hM.l2413, hM.l2414, hM.l2415, hM.l2416, hM.l2417, hM.l2418, hM.l2419, hM.l2420, hM.l2421, hM.l2422, hM.l2423]) <;> (try omega))) only [↓reduceIte, ↓z_ite, ↓zR, ↓zB_R, ↓zB_B, ↓zB_ite, ↓zB_gI, ↓zB_pI, ↓zB_pZ, ↓zB_aK, ↓zB_G, ↓zB_lI, ↓zB_lZ, ↓zB_wI, ↓zB_wZ, ↓zB_lIl, ↓zB_wIl, zB_pI, zB_pZ, zB_lI, zB_lZ, zB_wI, zB_wZ, z_addl, z_ladd, z_mull, z_lmul, nI_add, z_subl, Nat.not_lt_zero, z_10, z_01, z_bitc, z_b0, z_b1, ↓zB_Gb, ↓zB_G0, ↓zB_G1, z_eql, z_leq, z_ltl, z_llt, z_eq, z_lt, z_m1lt, hM.k, hM.k2391, hM.k2392, hM.k2393, hM.k2394, hM.k2395, hM.k2396, hM.k2397, hM.k2398, hM.k2399, hM.k2400, hM.k2401, hM.k2402, hM.k2403, hM.k2404, hM.k2405, hM.k2406, hM.k2407, hM.k2408, hM.k2409, hM.k2410, hM.k2411, hM.k2412, hM.k2413, hM.k2414, hM.k2415, hM.k2416, hM.k2417, hM.k2418, hM.k2419, hM.k2420, hM.k2421, hM.k2422, hM.k2423, hM.l2391, hM.l2392, hM.l2393, hM.l2394, hM.l2395, hM.l2396, hM.l2397, hM.l2398, hM.l2399, hM.l2400, hM.l2401, hM.l2402, hM.l2403, hM.l2404, hM.l2405, hM.l2406, hM.l2407, hM.l2408, hM.l2409, hM.l2410, hM.l2411, hM.l2412, hM.l2413, hM.l2414, hM.l2415, hM.l2416, hM.l2417, hM.l2418, hM.l2419, hM.l2420, hM.l2421, hM.l2422, hM.l2423, ↓hM.g1, ↓hM.g5, ↓hM.g6, ↓hM.g7, ↓hM.g8, ↓hM.g9, ↓hM.g10, ↓hM.g11, ↓hM.g12, ↓hM.g13, ↓hM.g14, ↓hM.g16, ↓hM.g17, ↓hM.g18, ↓hM.g19, ↓hM.g21, ↓hM.g22, ↓hM.g23, ↓hM.g24, ↓hM.g25, ↓hM.g27, ↓hM.g28, ↓hM.g30, ↓hM.g31, ↓hM.g32, ↓hM.g36, ↓hM.g37, ↓hM.g39, ↓hM.g40, ↓hM.g41, ↓hM.g43, ↓hM.g45, ↓hM.g46, h1', hi2, hi3, f1, f2, f3, ↓zB_c e, zB_c e]
      · rcases Nat.lt_succ_iff_lt_or_eq.mp hj with x | x
        · rw [z_up_b (by omega), z_up_b (by omega), z_up_b (by omega), z_up_b (by omega), z_up_b (by omega), z_up_b (by omega), z_up_b (by omega), z_up_b (by omega), z_up_b (by omega)]
          exact g1 j x
        · subst x
          refine ⟨?_, ?_, ?_⟩
          · rw [z_up_b (by omega), z_up_b (by omega), z_up_s]
          · rw [z_up_b (by omega), z_up_s]
          · rw [z_up_s]
      · rw [z_up_row ha, z_up_row ha, z_up_row ha]; exact g2.1 a ha
      · rw [z_up_b (by omega), z_up_b (by omega), z_up_b (by omega)]; exact g2.2 j x y
/-- a method of a bank changed -/
theorem z_mb_sM {m' : z_m} {j : Nat} {H : Nat → Int32} (h : z_mb m b P) (hj : j < z_nm P) (hH : ∀ w, w < 9 → m' 2391 (14200 * b + 104 + 10 * j + w) = H w) (hL : m' 2391 (14200 * b + 104 + 10 * j + 9) = nI l.length) (hl : l.length ≤ 192) (hlw : ∀ i, i < l.length → m' 2391 (14200 * b + 344 + 576 * j + i) = z_k l i ∧ m' 2391 (14200 * b + 344 + 576 * j + i + 192) = z_v l i ∧ m' 2391 (14200 * b + 344 + 576 * j + i + 384) = z_a l i) (hfr : ∀ i, 14200 * b ≤ i → i < 14200 * b + 14200 → (i < 14200 * b + 104 + 10 * j ∨ 14200 * b + 104 + 10 * j + 10 ≤ i) → (i < 14200 * b + 344 + 576 * j ∨ 14200 * b + 344 + 576 * j + 576 ≤ i) → m' 2391 i = m 2391 i) : z_mb m' b (z_sM P j H l) := by
  obtain ⟨b1, b2, b3, b4, b5, b6, b7⟩ := h
  refine ⟨b1, b2, b3, ?_, ?_, fun c hc => ?_, fun k hk => ?_⟩
  · rw [hfr _ (by omega) (by omega) (by omega) (by omega)]; exact b4
  · rw [hfr _ (by omega) (by omega) (by omega) (by omega)]; exact b5
  · have hc : c < z_nc P := hc
    obtain ⟨q1, q2⟩ := b6 c hc
    refine ⟨?_, fun n hn => ?_⟩
    · rw [hfr _ (by omega) (by omega) (by omega) (by omega)]; exact q1
    · rw [hfr _ (by omega) (by omega) (by omega) (by omega)]; exact q2 n hn
  · have hk : k < z_nm P := hk
    by_cases g : k = j
    · subst g
      rw [z_sM_bd_s]
      exact ⟨fun w hw => by rw [z_sM_hd_s]; exact hH w hw, hL, hl, hlw⟩
    · obtain ⟨q1, q2, q3, q4⟩ := b7 k hk
      rw [z_sM_bd_o g]
      refine ⟨fun w hw => ?_, ?_, q3, fun i hi => ?_⟩
      · rw [z_sM_hd_o g, hfr _ (by omega) (by omega) (by omega) (by omega)]; exact q1 w hw
      · rw [hfr _ (by omega) (by omega) (by omega) (by omega)]; exact q2
      · rw [hfr _ (by omega) (by omega) (by omega) (by omega), hfr _ (by omega) (by omega) (by omega) (by omega), hfr _ (by omega) (by omega) (by omega) (by omega)]; exact q4 i hi
/-- a body laid in the copy -/
theorem z_mb_lay {m' : z_m} {j : Nat} (h : z_mb m 2 P) (hj : j < z_nm P) (hl : l.length ≤ 192) (h1 : ∀ i, i < l.length → m' 2391 (28400 + 344 + 576 * j + i) = z_k l i ∧ m' 2391 (28400 + 344 + 576 * j + i + 192) = z_v l i ∧ m' 2391 (28400 + 344 + 576 * j + i + 384) = z_a l i) (h2 : m' 2391 (28400 + 104 + 10 * j + 9) = nI l.length) (hF : z_yF j m m') : z_mb m' 2 (z_sM P j (z_hd P j) l) := by
  have h24 := h.2.2.1
  refine z_mb_sM h hj (fun w hw => ?_) h2 hl h1 (fun i x y z t => hF.2 i (by omega) (by omega))
  rw [hF.2 _ (by omega) (by omega)]
  exact ((h.2.2.2.2.2.2 j hj).1 w hw)
/-- a word of a head in the copy -/
theorem z_mb_hx {j w : Nat} {v : Int32} (h : z_mb m 2 P) (hj : j < z_nm P) (hw : w < 9) : z_mb (z_hx m 2 j w v) 2 (z_sM P j (fun w' => if w' = w then v else z_hd P j w') (z_bd P j)) := by
  have h24 := h.2.2.1
  obtain ⟨q1, q2, q3, q4⟩ := h.2.2.2.2.2.2 j hj
  refine z_mb_sM h hj (fun w' hw' => ?_) ?_ q3 (fun i hi => ?_) (fun i x y z t => z_hx_o (by omega) (by omega))
  · rw [z_hx_r]
    by_cases g : w' = w
    · rw [if_pos g, if_pos g]
    · rw [if_neg g, if_neg g]; exact q1 w' hw'
  · rw [z_hx_r, if_neg (by omega)]; exact q2
  · rw [z_hx_o (by omega) (by omega), z_hx_o (by omega) (by omega), z_hx_o (by omega) (by omega)]; exact q4 i hi
theorem z_mb_eF {m' : z_m} (h : z_eF m m') (hm : z_mb m b P) : z_mb m' b P := z_mb_fr (h.1 _ (by decide) (by decide) (by decide) (by decide)) hm
end
