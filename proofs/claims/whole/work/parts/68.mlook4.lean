/-! the reference's look: a body, a program -/
section
variable {S : z_S} {m : z_m} {b k i : Nat} {P : z_Pg} {B : Int32} {l : List z_N}
theorem z_p_le3 {nc : Nat} (h : z_wB nc l) (hi : i < l.length) : z_p l i ≤ 3 := by
  rcases z_kc h hi with g | g | g | g | g | g | g | g | g | g | g | g | g | g
  · rw [z_p_0 g]; decide
  · rw [z_p_1 g]; decide
  · rw [z_p_2 g]; decide
  · rw [z_p_3 g]; decide
  · rw [z_p_4 g]; decide
  · rw [z_p_5 g]; decide
  · rw [z_p_6 g]; decide
  · rcases z_pn_ka h hi g with ⟨_, h2⟩ | ⟨_, h2⟩ | ⟨_, h2⟩ <;> rw [h2] <;> decide
  · rw [z_p_8 g]; decide
  · rw [z_p_9 g]; decide
  · rw [z_p_10 g]; decide
  · rw [z_p_11 g]; decide
  · rw [z_p_12 g]; decide
  · rw [z_p_13 g]; decide
theorem z_tb_congr2 {T T' : Nat → Int32} {p : Nat} {name : Int32} (h : ∀ j, z_le l p name = some j → T (j + 1) = T' (j + 1)) : z_tb P k l T p name = z_tb P k l T' p name := by
  unfold z_tb
  split
  · rename_i j e; exact h j e
  · rfl
theorem z_st_congr2 {nc : Nat} (hw : z_wB nc l) {T T' : Nat → Int32} (hi : i < l.length) (hp : ∀ j, j < z_p l i → T (z_pt l i j) = T' (z_pt l i j)) (hl : (z_k l i = 1 ∨ z_k l i = 6) → ∀ j, z_le l i (z_v l i) = some j → T (j + 1) = T' (j + 1)) : z_st P k l T i = z_st P k l T' i := by
  rcases z_kc hw hi with h | h | h | h | h | h | h | h | h | h | h | h | h | h
  · rw [z_st_0 h, z_st_0 h]
  · rw [z_st_1 h, z_st_1 h, z_tb_congr2 (hl (Or.inl h))]
  · rw [z_st_2 h, z_st_2 h]
  · rw [z_p_3 h] at hp
    rw [z_st_3 h, z_st_3 h, hp 0 (by decide)]
  · rw [z_p_4 h] at hp
    rw [z_st_4 h, z_st_4 h, hp 0 (by decide), hp 1 (by decide)]
  · rw [z_p_5 h] at hp
    rw [z_st_5 h, z_st_5 h, hp 1 (by decide)]
  · rw [z_p_6 h] at hp
    rw [z_st_6 h, z_st_6 h, z_tb_congr2 (hl (Or.inr h)), hp 0 (by decide)]
  · rw [z_st_7 h, z_st_7 h]
    rcases z_pn_ka hw hi h with ⟨h1, h2⟩ | ⟨h1, h2⟩ | ⟨h1, h2⟩
    · rw [h2] at hp
      rw [hp 0 (by decide), h1]
      unfold z_tC; simp
    · rw [h2] at hp
      rw [hp 0 (by decide), hp 1 (by decide), h1]
      unfold z_tC; simp
    · rw [h2] at hp
      rw [hp 0 (by decide), hp 1 (by decide), hp 2 (by decide)]
  · rw [z_st_8 h, z_st_8 h]
  · rw [z_p_9 h] at hp
    rw [z_st_9 h, z_st_9 h, hp 1 (by decide)]
  · rw [z_p_10 h] at hp
    rw [z_st_10 h, z_st_10 h, hp 0 (by decide), hp 1 (by decide), hp 2 (by decide)]
  · rw [z_p_11 h] at hp
    rw [z_st_11 h, z_st_11 h, hp 0 (by decide), hp 1 (by decide)]
  · rw [z_p_12 h] at hp
    rw [z_st_12 h, z_st_12 h, hp 0 (by decide)]
  · rw [z_p_13 h] at hp
    rw [z_st_13 h, z_st_13 h, hp 0 (by decide), hp 1 (by decide)]
/-- the type of a node that the reference finds, given what it knows -/
def z_sr (P : z_Pg) (k : Nat) (l : List z_N) (y : Nat → Int32) (i : Nat) (r : Int32) : Prop := ((∃ q, q < z_p l i ∧ y (z_pt l i q) = -9) ∧ r = -9) ∨ ((∀ q, q < z_p l i → y (z_pt l i q) ≠ -9) ∧ (∃ q, q < z_p l i ∧ y (z_pt l i q) = -3) ∧ r = -3) ∨ ((∀ q, q < z_p l i → y (z_pt l i q) ≠ -9 ∧ y (z_pt l i q) ≠ -3) ∧ r = if (z_k l i = 1 ∨ z_k l i = 6) ∧ z_tb P k l y i (z_v l i) = -9 then -9 else z_st P k l y i)
/-- typeOf -/
theorem f228_sp (h : z_mb m b P) (hM : z_MS S) (hw : z_wf P) (hB : B = nI b) (hk : k < z_nm P) (hi : i < (z_bd P k).length) (hs : ∀ j, j < (z_bd P k).length → m 2397 (192 * k + j) = nI (z_sz (z_bd P k) j)) (hu : ∀ q, q < z_p (z_bd P k) i → z_my m k (z_pt (z_bd P k) i q) = -9 ∨ z_tk P (z_my m k (z_pt (z_bd P k) i q))) (hbn : m 2400 (192 * k + i) = z_mb0 P k (z_bd P k) i) (hL : (z_k (z_bd P k) i = 1 ∨ z_k (z_bd P k) i = 6) → ∀ j, z_le (z_bd P k) i (z_v (z_bd P k) i) = some j → z_my m k (j + 1) = -9 ∨ z_tk P (z_my m k (j + 1))) : ∃ v r, f228 2390 B (nI k) (nI i) (z_hp S m) = some (r, z_hp S (z_up m 2400 (192 * k + i) v)) ∧ z_sr P k (z_bd P k) (z_my m k) i r ∧ (r = -9 → v = z_mb0 P k (z_bd P k) i) ∧ (r ≠ -3 → r ≠ -9 → v = z_mbn P k (z_bd P k) (z_my m k) i) := by
  have h24 := h.2.2.1
  have hlen := (h.2.2.2.2.2.2 k hk).2.2.1
  have hwB := hw.2.2.2.2.1 k hk
  have ht := hwB.1
  have hp3 := z_p_le3 hwB hi
  have e222 := f222_sp h hM hB hk hwB hi
  have hy : ∀ q, z_my m k (z_pt (z_bd P k) i q) = m 2399 (192 * k + z_pt (z_bd P k) i q) := fun _ => rfl
  -- one part
  have step : ∀ q, q < z_p (z_bd P k) i → z_my m k (z_pt (z_bd P k) i q) ≠ -9 → f228_25b 2390 B (nI k) (nI i) (nI (192 * k)) (if 0 < q then z_my m k (z_pt (z_bd P k) i 0) else -9) (if 1 < q then z_my m k (z_pt (z_bd P k) i 1) else -9) (if 2 < q then z_my m k (z_pt (z_bd P k) i 2) else -9) (z_b (z_any (fun j => z_my m k (z_pt (z_bd P k) i j) == -3) q)) (nI q) (z_hp S m) = some (.inl (2390, B, nI k, nI i, nI (192 * k), (if 0 < q + 1 then z_my m k (z_pt (z_bd P k) i 0) else -9), (if 1 < q + 1 then z_my m k (z_pt (z_bd P k) i 1) else -9), (if 2 < q + 1 then z_my m k (z_pt (z_bd P k) i 2) else -9), z_b (z_any (fun j => z_my m k (z_pt (z_bd P k) i j) == -3) (q + 1)), nI (q + 1)), z_hp S m) := by
    intro q hq hn
    have e223 := f223_sp hM ht hlen (by omega) hi (fun j _ hj => hs j hj) (Nat.le_of_lt hq)
    have hlt := z_pt_lt ht hi hq
    rw [hy] at hn
    unfold f228_25b f228_77 f228_82 f228_96 f228_111 f228_126
    rw [show z_any (fun j => z_my m k (z_pt (z_bd P k) i j) == -3) (q + 1) = (z_any (fun j => z_my m k (z_pt (z_bd P k) i j) == -3) q || m 2399 (192 * k + z_pt (z_bd P k) i q) == -3) from rfl]
    have : q = 0 ∨ q = 1 ∨ q = 2 := by omega
    cases hz : z_any (fun j => z_my m k (z_pt (z_bd P k) i j) == -3) q with
    | true =>
      simp (disch := ((try simp only [true_or, or_true, hM.k, hM.k2391, hM.k2392, hM.k2393, hM.k2394, hM.k2395, hM.k2396, hM.k2397, hM.k2398, hM.k2399, hM.k2400, hM.k2401, hM.k2402, hM.k2403, hM.k2404, hM.k2405, hM.k2406, hM.k2407, hM.k2408, hM.k2409, hM.k2410, hM.k2411, hM.k2412, hM.k2413, hM.k2414, hM.k2415, hM.k2416, hM.k2417, hM.k2418, hM.k2419, hM.k2420, hM.k2421, hM.k2422, hM.k2423, hM.l2391, hM.l2392, hM.l2393, hM.l2394, hM.l2395, hM.l2396, hM.l2397, hM.l2398, hM.l2399, hM.l2400, hM.l2401, hM.l2402, hM.l2403, hM.l2404, hM.l2405, hM.l2406, hM.l2407, hM.l2408, hM.l2409, hM.l2410, hM.l2411, hM.l2412, hM.l2413, hM.l2414, hM.l2415, hM.l2416, hM.l2417, hM.l2418, hM.l2419, hM.l2420, hM.l2421, hM.l2422, hM.l2423]) <;> (try omega))) only [↓reduceIte, ↓z_ite, ↓zR, ↓zB_R, ↓zB_B, ↓zB_ite, ↓zB_gI, ↓zB_pI, ↓zB_pZ, ↓zB_aK, ↓zB_G, ↓zB_lI, ↓zB_lZ, ↓zB_wI, ↓zB_wZ, ↓zB_lIl, ↓zB_wIl, zB_pI, zB_pZ, zB_lI, zB_lZ, zB_wI, zB_wZ, z_addl, z_ladd, z_mull, z_lmul, nI_add, z_subl, Nat.not_lt_zero, z_10, z_01, z_bitc, z_b0, z_b1, ↓zB_Gb, ↓zB_G0, ↓zB_G1, z_eql, z_leq, z_ltl, z_llt, z_eq, z_lt, z_m1lt, hM.k, hM.k2391, hM.k2392, hM.k2393, hM.k2394, hM.k2395, hM.k2396, hM.k2397, hM.k2398, hM.k2399, hM.k2400, hM.k2401, hM.k2402, hM.k2403, hM.k2404, hM.k2405, hM.k2406, hM.k2407, hM.k2408, hM.k2409, hM.k2410, hM.k2411, hM.k2412, hM.k2413, hM.k2414, hM.k2415, hM.k2416, hM.k2417, hM.k2418, hM.k2419, hM.k2420, hM.k2421, hM.k2422, hM.k2423, hM.l2391, hM.l2392, hM.l2393, hM.l2394, hM.l2395, hM.l2396, hM.l2397, hM.l2398, hM.l2399, hM.l2400, hM.l2401, hM.l2402, hM.l2403, hM.l2404, hM.l2405, hM.l2406, hM.l2407, hM.l2408, hM.l2409, hM.l2410, hM.l2411, hM.l2412, hM.l2413, hM.l2414, hM.l2415, hM.l2416, hM.l2417, hM.l2418, hM.l2419, hM.l2420, hM.l2421, hM.l2422, hM.l2423, ↓hM.g1, ↓hM.g5, ↓hM.g6, ↓hM.g7, ↓hM.g8, ↓hM.g9, ↓hM.g10, ↓hM.g11, ↓hM.g12, ↓hM.g13, ↓hM.g14, ↓hM.g16, ↓hM.g17, ↓hM.g18, ↓hM.g19, ↓hM.g21, ↓hM.g22, ↓hM.g23, ↓hM.g24, ↓hM.g25, ↓hM.g27, ↓hM.g28, ↓hM.g30, ↓hM.g31, ↓hM.g32, ↓hM.g36, ↓hM.g37, ↓hM.g39, ↓hM.g40, ↓hM.g41, ↓hM.g43, ↓hM.g45, ↓hM.g46, ↓zB_c e222, zB_c e222, hq, ↓zB_c e223, zB_c e223, hn, hz, Bool.true_eq_false, Bool.true_or]
      rcases this with g | g | g <;> subst g <;> simp [hy, z_b]
    | false =>
      by_cases g3 : m 2399 (192 * k + z_pt (z_bd P k) i q) = -3
      · simp (disch := ((try simp only [true_or, or_true, hM.k, hM.k2391, hM.k2392, hM.k2393, hM.k2394, hM.k2395, hM.k2396, hM.k2397, hM.k2398, hM.k2399, hM.k2400, hM.k2401, hM.k2402, hM.k2403, hM.k2404, hM.k2405, hM.k2406, hM.k2407, hM.k2408, hM.k2409, hM.k2410, hM.k2411, hM.k2412, hM.k2413, hM.k2414, hM.k2415, hM.k2416, hM.k2417, hM.k2418, hM.k2419, hM.k2420, hM.k2421, hM.k2422, hM.k2423, hM.l2391, hM.l2392, hM.l2393, hM.l2394, hM.l2395, hM.l2396, hM.l2397, hM.l2398, hM.l2399, hM.l2400, hM.l2401, hM.l2402, hM.l2403, hM.l2404, hM.l2405, hM.l2406, hM.l2407, hM.l2408, hM.l2409, hM.l2410, hM.l2411, hM.l2412, hM.l2413, hM.l2414, hM.l2415, hM.l2416, hM.l2417, hM.l2418, hM.l2419, hM.l2420, hM.l2421, hM.l2422, hM.l2423]) <;> (try omega))) only [↓reduceIte, ↓z_ite, ↓zR, ↓zB_R, ↓zB_B, ↓zB_ite, ↓zB_gI, ↓zB_pI, ↓zB_pZ, ↓zB_aK, ↓zB_G, ↓zB_lI, ↓zB_lZ, ↓zB_wI, ↓zB_wZ, ↓zB_lIl, ↓zB_wIl, zB_pI, zB_pZ, zB_lI, zB_lZ, zB_wI, zB_wZ, z_addl, z_ladd, z_mull, z_lmul, nI_add, z_subl, Nat.not_lt_zero, z_10, z_01, z_bitc, z_b0, z_b1, ↓zB_Gb, ↓zB_G0, ↓zB_G1, z_eql, z_leq, z_ltl, z_llt, z_eq, z_lt, z_m1lt, hM.k, hM.k2391, hM.k2392, hM.k2393, hM.k2394, hM.k2395, hM.k2396, hM.k2397, hM.k2398, hM.k2399, hM.k2400, hM.k2401, hM.k2402, hM.k2403, hM.k2404, hM.k2405, hM.k2406, hM.k2407, hM.k2408, hM.k2409, hM.k2410, hM.k2411, hM.k2412, hM.k2413, hM.k2414, hM.k2415, hM.k2416, hM.k2417, hM.k2418, hM.k2419, hM.k2420, hM.k2421, hM.k2422, hM.k2423, hM.l2391, hM.l2392, hM.l2393, hM.l2394, hM.l2395, hM.l2396, hM.l2397, hM.l2398, hM.l2399, hM.l2400, hM.l2401, hM.l2402, hM.l2403, hM.l2404, hM.l2405, hM.l2406, hM.l2407, hM.l2408, hM.l2409, hM.l2410, hM.l2411, hM.l2412, hM.l2413, hM.l2414, hM.l2415, hM.l2416, hM.l2417, hM.l2418, hM.l2419, hM.l2420, hM.l2421, hM.l2422, hM.l2423, ↓hM.g1, ↓hM.g5, ↓hM.g6, ↓hM.g7, ↓hM.g8, ↓hM.g9, ↓hM.g10, ↓hM.g11, ↓hM.g12, ↓hM.g13, ↓hM.g14, ↓hM.g16, ↓hM.g17, ↓hM.g18, ↓hM.g19, ↓hM.g21, ↓hM.g22, ↓hM.g23, ↓hM.g24, ↓hM.g25, ↓hM.g27, ↓hM.g28, ↓hM.g30, ↓hM.g31, ↓hM.g32, ↓hM.g36, ↓hM.g37, ↓hM.g39, ↓hM.g40, ↓hM.g41, ↓hM.g43, ↓hM.g45, ↓hM.g46, ↓zB_c e222, zB_c e222, hq, ↓zB_c e223, zB_c e223, hn, hz, g3, show ¬ (-3 : Int32) = -9 by decide]
        rcases this with g | g | g <;> subst g <;> simp [hy, g3, z_b]
      · simp (disch := ((try simp only [true_or, or_true, hM.k, hM.k2391, hM.k2392, hM.k2393, hM.k2394, hM.k2395, hM.k2396, hM.k2397, hM.k2398, hM.k2399, hM.k2400, hM.k2401, hM.k2402, hM.k2403, hM.k2404, hM.k2405, hM.k2406, hM.k2407, hM.k2408, hM.k2409, hM.k2410, hM.k2411, hM.k2412, hM.k2413, hM.k2414, hM.k2415, hM.k2416, hM.k2417, hM.k2418, hM.k2419, hM.k2420, hM.k2421, hM.k2422, hM.k2423, hM.l2391, hM.l2392, hM.l2393, hM.l2394, hM.l2395, hM.l2396, hM.l2397, hM.l2398, hM.l2399, hM.l2400, hM.l2401, hM.l2402, hM.l2403, hM.l2404, hM.l2405, hM.l2406, hM.l2407, hM.l2408, hM.l2409, hM.l2410, hM.l2411, hM.l2412, hM.l2413, hM.l2414, hM.l2415, hM.l2416, hM.l2417, hM.l2418, hM.l2419, hM.l2420, hM.l2421, hM.l2422, hM.l2423]) <;> (try omega))) only [↓reduceIte, ↓z_ite, ↓zR, ↓zB_R, ↓zB_B, ↓zB_ite, ↓zB_gI, ↓zB_pI, ↓zB_pZ, ↓zB_aK, ↓zB_G, ↓zB_lI, ↓zB_lZ, ↓zB_wI, ↓zB_wZ, ↓zB_lIl, ↓zB_wIl, zB_pI, zB_pZ, zB_lI, zB_lZ, zB_wI, zB_wZ, z_addl, z_ladd, z_mull, z_lmul, nI_add, z_subl, Nat.not_lt_zero, z_10, z_01, z_bitc, z_b0, z_b1, ↓zB_Gb, ↓zB_G0, ↓zB_G1, z_eql, z_leq, z_ltl, z_llt, z_eq, z_lt, z_m1lt, hM.k, hM.k2391, hM.k2392, hM.k2393, hM.k2394, hM.k2395, hM.k2396, hM.k2397, hM.k2398, hM.k2399, hM.k2400, hM.k2401, hM.k2402, hM.k2403, hM.k2404, hM.k2405, hM.k2406, hM.k2407, hM.k2408, hM.k2409, hM.k2410, hM.k2411, hM.k2412, hM.k2413, hM.k2414, hM.k2415, hM.k2416, hM.k2417, hM.k2418, hM.k2419, hM.k2420, hM.k2421, hM.k2422, hM.k2423, hM.l2391, hM.l2392, hM.l2393, hM.l2394, hM.l2395, hM.l2396, hM.l2397, hM.l2398, hM.l2399, hM.l2400, hM.l2401, hM.l2402, hM.l2403, hM.l2404, hM.l2405, hM.l2406, hM.l2407, hM.l2408, hM.l2409, hM.l2410, hM.l2411, hM.l2412, hM.l2413, hM.l2414, hM.l2415, hM.l2416, hM.l2417, hM.l2418, hM.l2419, hM.l2420, hM.l2421, hM.l2422, hM.l2423, ↓hM.g1, ↓hM.g5, ↓hM.g6, ↓hM.g7, ↓hM.g8, ↓hM.g9, ↓hM.g10, ↓hM.g11, ↓hM.g12, ↓hM.g13, ↓hM.g14, ↓hM.g16, ↓hM.g17, ↓hM.g18, ↓hM.g19, ↓hM.g21, ↓hM.g22, ↓hM.g23, ↓hM.g24, ↓hM.g25, ↓hM.g27, ↓hM.g28, ↓hM.g30, ↓hM.g31, ↓hM.g32, ↓hM.g36, ↓hM.g37, ↓hM.g39, ↓hM.g40, ↓hM.g41, ↓hM.g43, ↓hM.g45, ↓hM.g46, ↓zB_c e222, zB_c e222, hq, ↓zB_c e223, zB_c e223, hn, hz, g3]
        rcases this with g | g | g <;> subst g <;> simp [hy, g3, z_b]
  unfold f228
  simp (disch := ((try simp only [true_or, or_true]) <;> (try omega))) only [↓reduceIte, ↓z_ite, ↓zR, ↓zB_R, ↓zB_B, ↓zB_ite, ↓zB_gI, ↓zB_pI, ↓zB_pZ, ↓zB_aK, ↓zB_G, ↓zB_lI, ↓zB_lZ, ↓zB_wI, ↓zB_wZ, ↓zB_lIl, ↓zB_wIl, zB_pI, zB_pZ, zB_lI, zB_lZ, zB_wI, zB_wZ, z_addl, z_ladd, z_mull, z_lmul, nI_add, z_subl, Nat.not_lt_zero, z_10, z_01, z_bitc, z_b0, z_b1, ↓zB_Gb, ↓zB_G0, ↓zB_G1, z_eql, z_leq, z_ltl, z_llt, z_eq, z_lt, z_m1lt]
  unfold f228_25
  by_cases hex : ∃ q, q < z_p (z_bd P k) i ∧ z_my m k (z_pt (z_bd P k) i q) = -9
  · obtain ⟨q, ⟨hq, hq9⟩, hmin⟩ := pk_least _ hex
    refine ⟨m 2400 (192 * k + i), -9, ?_, Or.inl ⟨hex, rfl⟩, fun _ => hbn, fun _ g => absurd rfl g⟩
    rw [z_up_id]
    refine z_path (fun q => (2390, B, nI k, nI i, nI (192 * k), (if 0 < q then z_my m k (z_pt (z_bd P k) i 0) else -9), (if 1 < q then z_my m k (z_pt (z_bd P k) i 1) else -9), (if 2 < q then z_my m k (z_pt (z_bd P k) i 2) else -9), z_b (z_any (fun j => z_my m k (z_pt (z_bd P k) i j) == -3) q), nI q)) (fun _ => m) q 0 1000000 (by omega) (fun j _ hj => step j (by omega) (fun g => hmin j (by omega) ⟨by omega, g⟩)) ?_
    have e223 := f223_sp hM ht hlen (by omega) hi (fun j _ hj => hs j hj) (Nat.le_of_lt hq)
    have hlt := z_pt_lt ht hi hq
    rw [hy] at hq9
    rw [Nat.zero_add]
    unfold f228_25b f228_62
    simp (disch := ((try simp only [true_or, or_true, hM.k, hM.k2391, hM.k2392, hM.k2393, hM.k2394, hM.k2395, hM.k2396, hM.k2397, hM.k2398, hM.k2399, hM.k2400, hM.k2401, hM.k2402, hM.k2403, hM.k2404, hM.k2405, hM.k2406, hM.k2407, hM.k2408, hM.k2409, hM.k2410, hM.k2411, hM.k2412, hM.k2413, hM.k2414, hM.k2415, hM.k2416, hM.k2417, hM.k2418, hM.k2419, hM.k2420, hM.k2421, hM.k2422, hM.k2423, hM.l2391, hM.l2392, hM.l2393, hM.l2394, hM.l2395, hM.l2396, hM.l2397, hM.l2398, hM.l2399, hM.l2400, hM.l2401, hM.l2402, hM.l2403, hM.l2404, hM.l2405, hM.l2406, hM.l2407, hM.l2408, hM.l2409, hM.l2410, hM.l2411, hM.l2412, hM.l2413, hM.l2414, hM.l2415, hM.l2416, hM.l2417, hM.l2418, hM.l2419, hM.l2420, hM.l2421, hM.l2422, hM.l2423]) <;> (try omega))) only [↓reduceIte, ↓z_ite, ↓zR, ↓zB_R, ↓zB_B, ↓zB_ite, ↓zB_gI, ↓zB_pI, ↓zB_pZ, ↓zB_aK, ↓zB_G, ↓zB_lI, ↓zB_lZ, ↓zB_wI, ↓zB_wZ, ↓zB_lIl, ↓zB_wIl, zB_pI, zB_pZ, zB_lI, zB_lZ, zB_wI, zB_wZ, z_addl, z_ladd, z_mull, z_lmul, nI_add, z_subl, Nat.not_lt_zero, z_10, z_01, z_bitc, z_b0, z_b1, ↓zB_Gb, ↓zB_G0, ↓zB_G1, z_eql, z_leq, z_ltl, z_llt, z_eq, z_lt, z_m1lt, hM.k, hM.k2391, hM.k2392, hM.k2393, hM.k2394, hM.k2395, hM.k2396, hM.k2397, hM.k2398, hM.k2399, hM.k2400, hM.k2401, hM.k2402, hM.k2403, hM.k2404, hM.k2405, hM.k2406, hM.k2407, hM.k2408, hM.k2409, hM.k2410, hM.k2411, hM.k2412, hM.k2413, hM.k2414, hM.k2415, hM.k2416, hM.k2417, hM.k2418, hM.k2419, hM.k2420, hM.k2421, hM.k2422, hM.k2423, hM.l2391, hM.l2392, hM.l2393, hM.l2394, hM.l2395, hM.l2396, hM.l2397, hM.l2398, hM.l2399, hM.l2400, hM.l2401, hM.l2402, hM.l2403, hM.l2404, hM.l2405, hM.l2406, hM.l2407, hM.l2408, hM.l2409, hM.l2410, hM.l2411, hM.l2412, hM.l2413, hM.l2414, hM.l2415, hM.l2416, hM.l2417, hM.l2418, hM.l2419, hM.l2420, hM.l2421, hM.l2422, hM.l2423, ↓hM.g1, ↓hM.g5, ↓hM.g6, ↓hM.g7, ↓hM.g8, ↓hM.g9, ↓hM.g10, ↓hM.g11, ↓hM.g12, ↓hM.g13, ↓hM.g14, ↓hM.g16, ↓hM.g17, ↓hM.g18, ↓hM.g19, ↓hM.g21, ↓hM.g22, ↓hM.g23, ↓hM.g24, ↓hM.g25, ↓hM.g27, ↓hM.g28, ↓hM.g30, ↓hM.g31, ↓hM.g32, ↓hM.g36, ↓hM.g37, ↓hM.g39, ↓hM.g40, ↓hM.g41, ↓hM.g43, ↓hM.g45, ↓hM.g46, ↓zB_c e222, zB_c e222, hq, ↓zB_c e223, zB_c e223, hq9]
  · have hall : ∀ q, q < z_p (z_bd P k) i → z_my m k (z_pt (z_bd P k) i q) ≠ -9 := fun q hq g => hex ⟨q, hq, g⟩
    have path := fun (r : Int32) (m' : z_m) (he : f228_134 2390 B (nI k) (nI i) (if 0 < z_p (z_bd P k) i then z_my m k (z_pt (z_bd P k) i 0) else -9) (if 1 < z_p (z_bd P k) i then z_my m k (z_pt (z_bd P k) i 1) else -9) (if 2 < z_p (z_bd P k) i then z_my m k (z_pt (z_bd P k) i 2) else -9) (z_b (z_any (fun j => z_my m k (z_pt (z_bd P k) i j) == -3) (z_p (z_bd P k) i))) (z_hp S m) = some (r, z_hp S m')) => z_path (S := S) (f := fun s => f228_25b (s.1) (s.2.1) (s.2.2.1) (s.2.2.2.1) (s.2.2.2.2.1) (s.2.2.2.2.2.1) (s.2.2.2.2.2.2.1) (s.2.2.2.2.2.2.2.1) (s.2.2.2.2.2.2.2.2.1) (s.2.2.2.2.2.2.2.2.2)) (r := r) (m' := m') (fun q => (2390, B, nI k, nI i, nI (192 * k), (if 0 < q then z_my m k (z_pt (z_bd P k) i 0) else -9), (if 1 < q then z_my m k (z_pt (z_bd P k) i 1) else -9), (if 2 < q then z_my m k (z_pt (z_bd P k) i 2) else -9), z_b (z_any (fun j => z_my m k (z_pt (z_bd P k) i j) == -3) q), nI q)) (fun _ => m) (z_p (z_bd P k) i) 0 1000000 (by omega) (fun j _ hj => step j (by omega) (hall j (by omega))) (by
      rw [Nat.zero_add]
      unfold f228_25b
      simp (disch := ((try simp only [true_or, or_true, hM.k, hM.k2391, hM.k2392, hM.k2393, hM.k2394, hM.k2395, hM.k2396, hM.k2397, hM.k2398, hM.k2399, hM.k2400, hM.k2401, hM.k2402, hM.k2403, hM.k2404, hM.k2405, hM.k2406, hM.k2407, hM.k2408, hM.k2409, hM.k2410, hM.k2411, hM.k2412, hM.k2413, hM.k2414, hM.k2415, hM.k2416, hM.k2417, hM.k2418, hM.k2419, hM.k2420, hM.k2421, hM.k2422, hM.k2423, hM.l2391, hM.l2392, hM.l2393, hM.l2394, hM.l2395, hM.l2396, hM.l2397, hM.l2398, hM.l2399, hM.l2400, hM.l2401, hM.l2402, hM.l2403, hM.l2404, hM.l2405, hM.l2406, hM.l2407, hM.l2408, hM.l2409, hM.l2410, hM.l2411, hM.l2412, hM.l2413, hM.l2414, hM.l2415, hM.l2416, hM.l2417, hM.l2418, hM.l2419, hM.l2420, hM.l2421, hM.l2422, hM.l2423]) <;> (try omega))) only [↓reduceIte, ↓z_ite, ↓zR, ↓zB_R, ↓zB_B, ↓zB_ite, ↓zB_gI, ↓zB_pI, ↓zB_pZ, ↓zB_aK, ↓zB_G, ↓zB_lI, ↓zB_lZ, ↓zB_wI, ↓zB_wZ, ↓zB_lIl, ↓zB_wIl, zB_pI, zB_pZ, zB_lI, zB_lZ, zB_wI, zB_wZ, z_addl, z_ladd, z_mull, z_lmul, nI_add, z_subl, Nat.not_lt_zero, z_10, z_01, z_bitc, z_b0, z_b1, ↓zB_Gb, ↓zB_G0, ↓zB_G1, z_eql, z_leq, z_ltl, z_llt, z_eq, z_lt, z_m1lt, hM.k, hM.k2391, hM.k2392, hM.k2393, hM.k2394, hM.k2395, hM.k2396, hM.k2397, hM.k2398, hM.k2399, hM.k2400, hM.k2401, hM.k2402, hM.k2403, hM.k2404, hM.k2405, hM.k2406, hM.k2407, hM.k2408, hM.k2409, hM.k2410, hM.k2411, hM.k2412, hM.k2413, hM.k2414, hM.k2415, hM.k2416, hM.k2417, hM.k2418, hM.k2419, hM.k2420, hM.k2421, hM.k2422, hM.k2423, hM.l2391, hM.l2392, hM.l2393, hM.l2394, hM.l2395, hM.l2396, hM.l2397, hM.l2398, hM.l2399, hM.l2400, hM.l2401, hM.l2402, hM.l2403, hM.l2404, hM.l2405, hM.l2406, hM.l2407, hM.l2408, hM.l2409, hM.l2410, hM.l2411, hM.l2412, hM.l2413, hM.l2414, hM.l2415, hM.l2416, hM.l2417, hM.l2418, hM.l2419, hM.l2420, hM.l2421, hM.l2422, hM.l2423, ↓hM.g1, ↓hM.g5, ↓hM.g6, ↓hM.g7, ↓hM.g8, ↓hM.g9, ↓hM.g10, ↓hM.g11, ↓hM.g12, ↓hM.g13, ↓hM.g14, ↓hM.g16, ↓hM.g17, ↓hM.g18, ↓hM.g19, ↓hM.g21, ↓hM.g22, ↓hM.g23, ↓hM.g24, ↓hM.g25, ↓hM.g27, ↓hM.g28, ↓hM.g30, ↓hM.g31, ↓hM.g32, ↓hM.g36, ↓hM.g37, ↓hM.g39, ↓hM.g40, ↓hM.g41, ↓hM.g43, ↓hM.g45, ↓hM.g46, ↓zB_c e222, zB_c e222, Nat.lt_irrefl, ↓zB_c he, zB_c he])
    by_cases hw3 : ∃ q, q < z_p (z_bd P k) i ∧ z_my m k (z_pt (z_bd P k) i q) = -3
    · refine ⟨m 2400 (192 * k + i), -3, ?_, Or.inr (Or.inl ⟨hall, hw3, rfl⟩), fun g => absurd g (by decide), fun g => absurd rfl g⟩
      rw [z_up_id]
      refine path (-3) m ?_
      have : z_any (fun j => z_my m k (z_pt (z_bd P k) i j) == -3) (z_p (z_bd P k) i) = true := by
        obtain ⟨q, hq, g⟩ := hw3
        exact z_any_iff.mpr ⟨q, hq, by rw [g]; rfl⟩
      unfold f228_134 f228_157
      rw [this]
      simp (disch := ((try simp only [true_or, or_true, hM.k, hM.k2391, hM.k2392, hM.k2393, hM.k2394, hM.k2395, hM.k2396, hM.k2397, hM.k2398, hM.k2399, hM.k2400, hM.k2401, hM.k2402, hM.k2403, hM.k2404, hM.k2405, hM.k2406, hM.k2407, hM.k2408, hM.k2409, hM.k2410, hM.k2411, hM.k2412, hM.k2413, hM.k2414, hM.k2415, hM.k2416, hM.k2417, hM.k2418, hM.k2419, hM.k2420, hM.k2421, hM.k2422, hM.k2423, hM.l2391, hM.l2392, hM.l2393, hM.l2394, hM.l2395, hM.l2396, hM.l2397, hM.l2398, hM.l2399, hM.l2400, hM.l2401, hM.l2402, hM.l2403, hM.l2404, hM.l2405, hM.l2406, hM.l2407, hM.l2408, hM.l2409, hM.l2410, hM.l2411, hM.l2412, hM.l2413, hM.l2414, hM.l2415, hM.l2416, hM.l2417, hM.l2418, hM.l2419, hM.l2420, hM.l2421, hM.l2422, hM.l2423]) <;> (try omega))) only [↓reduceIte, ↓z_ite, ↓zR, ↓zB_R, ↓zB_B, ↓zB_ite, ↓zB_gI, ↓zB_pI, ↓zB_pZ, ↓zB_aK, ↓zB_G, ↓zB_lI, ↓zB_lZ, ↓zB_wI, ↓zB_wZ, ↓zB_lIl, ↓zB_wIl, zB_pI, zB_pZ, zB_lI, zB_lZ, zB_wI, zB_wZ, z_addl, z_ladd, z_mull, z_lmul, nI_add, z_subl, Nat.not_lt_zero, z_10, z_01, z_bitc, z_b0, z_b1, ↓zB_Gb, ↓zB_G0, ↓zB_G1, z_eql, z_leq, z_ltl, z_llt, z_eq, z_lt, z_m1lt, hM.k, hM.k2391, hM.k2392, hM.k2393, hM.k2394, hM.k2395, hM.k2396, hM.k2397, hM.k2398, hM.k2399, hM.k2400, hM.k2401, hM.k2402, hM.k2403, hM.k2404, hM.k2405, hM.k2406, hM.k2407, hM.k2408, hM.k2409, hM.k2410, hM.k2411, hM.k2412, hM.k2413, hM.k2414, hM.k2415, hM.k2416, hM.k2417, hM.k2418, hM.k2419, hM.k2420, hM.k2421, hM.k2422, hM.k2423, hM.l2391, hM.l2392, hM.l2393, hM.l2394, hM.l2395, hM.l2396, hM.l2397, hM.l2398, hM.l2399, hM.l2400, hM.l2401, hM.l2402, hM.l2403, hM.l2404, hM.l2405, hM.l2406, hM.l2407, hM.l2408, hM.l2409, hM.l2410, hM.l2411, hM.l2412, hM.l2413, hM.l2414, hM.l2415, hM.l2416, hM.l2417, hM.l2418, hM.l2419, hM.l2420, hM.l2421, hM.l2422, hM.l2423, ↓hM.g1, ↓hM.g5, ↓hM.g6, ↓hM.g7, ↓hM.g8, ↓hM.g9, ↓hM.g10, ↓hM.g11, ↓hM.g12, ↓hM.g13, ↓hM.g14, ↓hM.g16, ↓hM.g17, ↓hM.g18, ↓hM.g19, ↓hM.g21, ↓hM.g22, ↓hM.g23, ↓hM.g24, ↓hM.g25, ↓hM.g27, ↓hM.g28, ↓hM.g30, ↓hM.g31, ↓hM.g32, ↓hM.g36, ↓hM.g37, ↓hM.g39, ↓hM.g40, ↓hM.g41, ↓hM.g43, ↓hM.g45, ↓hM.g46, Bool.true_eq_false]
    · have hno : ∀ q, q < z_p (z_bd P k) i → z_my m k (z_pt (z_bd P k) i q) ≠ -3 := fun q hq g => hw3 ⟨q, hq, g⟩
      have htk : ∀ q, q < z_p (z_bd P k) i → z_tk P (z_my m k (z_pt (z_bd P k) i q)) := fun q hq => by
        rcases hu q hq with g | g
        · exact absurd g (hall q hq)
        · exact g
      obtain ⟨v, r, e229, h1, h2, h3⟩ := f229_sp h hM hw hB hk hi (t0 := if 0 < z_p (z_bd P k) i then z_my m k (z_pt (z_bd P k) i 0) else -9) (t1 := if 1 < z_p (z_bd P k) i then z_my m k (z_pt (z_bd P k) i 1) else -9) (t2 := if 2 < z_p (z_bd P k) i then z_my m k (z_pt (z_bd P k) i 2) else -9) (fun g => by rw [if_pos g]; exact ⟨rfl, htk 0 g⟩) (fun g => by rw [if_pos g]; exact ⟨rfl, htk 1 g⟩) (fun g => by rw [if_pos g]; exact ⟨rfl, htk 2 g⟩) hbn (fun g => hL (Or.inr g))
      have hr : r = if (z_k (z_bd P k) i = 1 ∨ z_k (z_bd P k) i = 6) ∧ z_tb P k (z_bd P k) (z_my m k) i (z_v (z_bd P k) i) = -9 then -9 else z_st P k (z_bd P k) (z_my m k) i := by
        rw [h1]
        by_cases g6 : z_k (z_bd P k) i = 6
        · simp [g6]
        · by_cases g1 : z_k (z_bd P k) i = 1
          · rw [if_neg (fun g => g6 g.1), z_st_1 g1]
            split
            · rename_i g; exact g.2
            · rfl
          · rw [if_neg (fun g => g6 g.1), if_neg (fun g => by rcases g.1 with g2 | g2; exact g1 g2; exact g6 g2)]
      refine ⟨v, r, ?_, Or.inr (Or.inr ⟨fun q hq => ⟨hall q hq, hno q hq⟩, hr⟩), fun g9 => ?_, h3⟩
      · refine path r _ ?_
        have : z_any (fun j => z_my m k (z_pt (z_bd P k) i j) == -3) (z_p (z_bd P k) i) = false := z_any_f.mpr (fun q hq => by simpa using hno q hq)
        unfold f228_134 f228_157
        rw [this]
        simp (disch := ((try simp only [true_or, or_true, hM.k, hM.k2391, hM.k2392, hM.k2393, hM.k2394, hM.k2395, hM.k2396, hM.k2397, hM.k2398, hM.k2399, hM.k2400, hM.k2401, hM.k2402, hM.k2403, hM.k2404, hM.k2405, hM.k2406, hM.k2407, hM.k2408, hM.k2409, hM.k2410, hM.k2411, hM.k2412, hM.k2413, hM.k2414, hM.k2415, hM.k2416, hM.k2417, hM.k2418, hM.k2419, hM.k2420, hM.k2421, hM.k2422, hM.k2423, hM.l2391, hM.l2392, hM.l2393, hM.l2394, hM.l2395, hM.l2396, hM.l2397, hM.l2398, hM.l2399, hM.l2400, hM.l2401, hM.l2402, hM.l2403, hM.l2404, hM.l2405, hM.l2406, hM.l2407, hM.l2408, hM.l2409, hM.l2410, hM.l2411, hM.l2412, hM.l2413, hM.l2414, hM.l2415, hM.l2416, hM.l2417, hM.l2418, hM.l2419, hM.l2420, hM.l2421, hM.l2422, hM.l2423]) <;> (try omega))) only [↓reduceIte, ↓z_ite, ↓zR, ↓zB_R, ↓zB_B, ↓zB_ite, ↓zB_gI, ↓zB_pI, ↓zB_pZ, ↓zB_aK, ↓zB_G, ↓zB_lI, ↓zB_lZ, ↓zB_wI, ↓zB_wZ, ↓zB_lIl, ↓zB_wIl, zB_pI, zB_pZ, zB_lI, zB_lZ, zB_wI, zB_wZ, z_addl, z_ladd, z_mull, z_lmul, nI_add, z_subl, Nat.not_lt_zero, z_10, z_01, z_bitc, z_b0, z_b1, ↓zB_Gb, ↓zB_G0, ↓zB_G1, z_eql, z_leq, z_ltl, z_llt, z_eq, z_lt, z_m1lt, hM.k, hM.k2391, hM.k2392, hM.k2393, hM.k2394, hM.k2395, hM.k2396, hM.k2397, hM.k2398, hM.k2399, hM.k2400, hM.k2401, hM.k2402, hM.k2403, hM.k2404, hM.k2405, hM.k2406, hM.k2407, hM.k2408, hM.k2409, hM.k2410, hM.k2411, hM.k2412, hM.k2413, hM.k2414, hM.k2415, hM.k2416, hM.k2417, hM.k2418, hM.k2419, hM.k2420, hM.k2421, hM.k2422, hM.k2423, hM.l2391, hM.l2392, hM.l2393, hM.l2394, hM.l2395, hM.l2396, hM.l2397, hM.l2398, hM.l2399, hM.l2400, hM.l2401, hM.l2402, hM.l2403, hM.l2404, hM.l2405, hM.l2406, hM.l2407, hM.l2408, hM.l2409, hM.l2410, hM.l2411, hM.l2412, hM.l2413, hM.l2414, hM.l2415, hM.l2416, hM.l2417, hM.l2418, hM.l2419, hM.l2420, hM.l2421, hM.l2422, hM.l2423, ↓hM.g1, ↓hM.g5, ↓hM.g6, ↓hM.g7, ↓hM.g8, ↓hM.g9, ↓hM.g10, ↓hM.g11, ↓hM.g12, ↓hM.g13, ↓hM.g14, ↓hM.g16, ↓hM.g17, ↓hM.g18, ↓hM.g19, ↓hM.g21, ↓hM.g22, ↓hM.g23, ↓hM.g24, ↓hM.g25, ↓hM.g27, ↓hM.g28, ↓hM.g30, ↓hM.g31, ↓hM.g32, ↓hM.g36, ↓hM.g37, ↓hM.g39, ↓hM.g40, ↓hM.g41, ↓hM.g43, ↓hM.g45, ↓hM.g46, ↓zB_c e229, zB_c e229]
      · by_cases g16 : z_k (z_bd P k) i = 1 ∨ z_k (z_bd P k) i = 6
        · exact h2 g9 g16
        · exfalso
          rw [if_neg (fun g => g16 g.1)] at hr
          have := (z_st_tk (T := z_my m k) hw hk hwB hi htk (fun g => absurd g g16)).n9 hw.1.1
          rw [← hr] at this
          exact this g9
end
