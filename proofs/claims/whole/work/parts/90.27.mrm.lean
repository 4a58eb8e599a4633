-- deps: 90.26.mrd
/-! a method renamed: the reference -/
section
variable {S : z_S} {m : z_m} {A : z_A} {P : z_Pg}
/-- the rows of a body in the copy -/
def z_rw2 (m : z_m) (j n : Nat) (g : Nat → z_N) : Prop := ∀ i, i < n → m 2391 (28400 + 344 + 576 * j + i) = (g i).1 ∧ m 2391 (28400 + 344 + 576 * j + i + 192) = (g i).2.1 ∧ m 2391 (28400 + 344 + 576 * j + i + 384) = (g i).2.2
/-- only a body in the copy is touched -/
def z_bF2 (j : Nat) (m m' : z_m) : Prop := (∀ a, a ≠ 2391 → m' a = m a) ∧ ∀ i, (i < 28400 + 344 + 576 * j ∨ 28400 + 344 + 576 * j + 576 ≤ i) → m' 2391 i = m 2391 i
theorem z_bF2.refl (j : Nat) (m : z_m) : z_bF2 j m m := ⟨fun _ _ => rfl, fun _ _ => rfl⟩
theorem z_bF2.trans {j : Nat} {m m' m'' : z_m} (h : z_bF2 j m m') (h2 : z_bF2 j m' m'') : z_bF2 j m m'' := ⟨fun a x => (h2.1 a x).trans (h.1 a x), fun i x => (h2.2 i x).trans (h.2 i x)⟩
theorem z_bF2.wK {j : Nat} {m m' : z_m} (h : z_bF2 j m m') (hj : j < 24) : z_wK m m' := ⟨fun i x => h.2 i (by omega), fun a x _ _ => h.1 a x, fun i _ => by rw [h.1 _ (by decide)]⟩
theorem f202_2 (hM : z_MS S) {j i : Nat} (hj : j < 24) (hi : i < 192) (K V a : Int32) : ∃ m', f202 2390 2 (nI j) (nI i) K V a (z_hp S m) = some ((), z_hp S m') ∧ z_bF2 j m m' ∧ ∀ n g, n ≤ 192 → z_rw2 m j n g → z_rw2 m' j n (fun i' => if i' = i then (K, V, a) else g i') := by
  refine ⟨_, f202_sp (S := S) (m := m) hM (B := 2) (b := 2) rfl (by decide) hj hi K V a, ⟨fun a ha => by rw [z_up_row ha, z_up_row ha, z_up_row ha], fun q hq => by rw [z_up_b (by omega), z_up_b (by omega), z_up_b (by omega)]⟩, fun n g hn hr i' hi' => ?_⟩
  by_cases y : i' = i
  · subst y
    dsimp only
    rw [if_pos rfl]
    refine ⟨?_, ?_, ?_⟩
    · rw [z_up_b (by omega), z_up_b (by omega), show 14200 * 2 + 344 + 576 * j + i' = 28400 + 344 + 576 * j + i' by omega, z_up_s]
    · rw [z_up_b (by omega), show 14200 * 2 + 344 + 576 * j + i' + 192 = 28400 + 344 + 576 * j + i' + 192 by omega, z_up_s]
    · rw [show 14200 * 2 + 344 + 576 * j + i' + 384 = 28400 + 344 + 576 * j + i' + 384 by omega, z_up_s]
  · dsimp only
    rw [if_neg y, z_up_b (by omega), z_up_b (by omega), z_up_b (by omega), z_up_b (by omega), z_up_b (by omega), z_up_b (by omega), z_up_b (by omega), z_up_b (by omega), z_up_b (by omega)]
    exact hr i' hi'
theorem z_rw2_of {j : Nat} (h : z_mb m 2 P) (hj : j < z_nm P) : z_rw2 m j (z_bd P j).length (z_at (z_bd P j)) := fun i hi => (h.2.2.2.2.2.2 j hj).2.2.2 i hi
theorem z_rw2_st {m' : z_m} {j n : Nat} {g : Nat → z_N} (h : ∀ i, 28400 + 344 + 576 * j ≤ i → i < 28400 + 344 + 576 * j + 576 → m' 2391 i = m 2391 i) (hn : n ≤ 192) (hr : z_rw2 m j n g) : z_rw2 m' j n g := fun i hi => by
  rw [h _ (by omega) (by omega), h _ (by omega) (by omega), h _ (by omega) (by omega)]; exact hr i hi
/-- the rows make a body -/
theorem z_rw2_lm {j n : Nat} {g : Nat → z_N} (h : z_rw2 m j n g) : ∀ i, i < (z_lm g n).length → m 2391 (28400 + 344 + 576 * j + i) = z_k (z_lm g n) i ∧ m 2391 (28400 + 344 + 576 * j + i + 192) = z_v (z_lm g n) i ∧ m 2391 (28400 + 344 + 576 * j + i + 384) = z_a (z_lm g n) i := fun i hi => by
  rw [z_lm_len] at hi
  unfold z_k z_v z_a
  rw [z_lm_at hi]; exact h i hi
theorem z_rw2_congr {j n : Nat} {g g' : Nat → z_N} (h : ∀ i, i < n → g i = g' i) (hr : z_rw2 m j n g) : z_rw2 m j n g' := fun i hi => by rw [← h i hi]; exact hr i hi
/-- all CALLs of a body -/
theorem f275_141_sp (hM : z_MS S) (hw : z_wf P) (hR : z_RT P) (h : z_mb m 0 P) (hT : z_mLT m P) {k j : Nat} (hs : z_bl m 2416 (z_fam P k)) (hj : j < z_nm P) (hl : z_liv P j = true) {x : Int32} (hr : z_rw2 m j (z_bd P j).length (z_at (z_bd P j))) (c0 : Nat) (hc0 : c0 < 1000000) : ∃ m', f275_141 2390 x (nI c0) (nI j) 0 (z_hp S m) = some (.inl (2390, x, nI (c0 + z_ct (z_cf P (z_fam P k) j) (z_bd P j).length), nI (j + 1)), z_hp S m') ∧ z_rw2 m' j (z_bd P j).length (z_rmN P k x j) ∧ z_bF2 j m m' := by
  have h24 := hw.2.2.1
  have hlen := z_Pl h hj
  have hl0 : z_hd P j 0 = 1 := by simpa [z_liv] using hl
  unfold f275_141
  have key := z_loopI (f := fun s => f275_141b (s.1) (s.2.1) (s.2.2.1) (s.2.2.2.1) (s.2.2.2.2)) (S := S) (fun n st m' => ∃ i, n = (z_bd P j).length - i ∧ i ≤ (z_bd P j).length ∧ st = (2390, x, nI (c0 + z_ct (z_cf P (z_fam P k) j) i), nI j, nI i) ∧ z_rw2 m' j (z_bd P j).length (fun i' => if i' < i then z_rmN P k x j i' else z_at (z_bd P j) i') ∧ z_bF2 j m m') (fun r m' => r = .inl (2390, x, nI (c0 + z_ct (z_cf P (z_fam P k) j) (z_bd P j).length), nI (j + 1)) ∧ z_rw2 m' j (z_bd P j).length (z_rmN P k x j) ∧ z_bF2 j m m') ?_ 1000000 (z_bd P j).length (2390, x, nI c0, nI j, 0) m ⟨0, rfl, Nat.zero_le _, rfl, z_rw2_congr (fun i _ => (if_neg (by omega)).symm) hr, z_bF2.refl j m⟩ (by omega)
  · obtain ⟨r, m', e, rfl, g⟩ := key
    exact ⟨m', e, g⟩
  · rintro n st m1 ⟨i, rfl, hi, rfl, g1, g2⟩
    have hK := g2.wK (show j < 24 by omega)
    have hb1 : z_mb m1 0 P := z_mb_mF hK.mF (by decide) h
    have hT1 := z_mLT_mF hK.mF hT
    have e0 := hb1.e0 hM (B := 0) rfl hj
    have e9 := f270_sp (S := S) hM hb1 hj
    have hcl := z_ct_le (s := z_cf P (z_fam P k) j) i
    dsimp only
    rcases Nat.eq_or_lt_of_le hi with hi2 | hi2
    · refine Or.inr ⟨_, m1, ?_, rfl, z_rw2_congr (fun i' hi' => if_pos (by omega)) g1, g2⟩
      unfold f275_141b f275_205
      rw [hi2]
      simp (disch := ((try simp only [true_or, or_true, hM.k, hM.k2391, hM.k2392, hM.k2393, hM.k2394, hM.k2395, hM.k2396, hM.k2397, hM.k2398, hM.k2399, hM.k2400, hM.k2401, hM.k2402, hM.k2403, hM.k2404, hM.k2405, hM.k2406, hM.k2407, hM.k2408, hM.k2409, hM.k2410, hM.k2411, hM.k2412, hM.k2413, hM.k2414, hM.k2415, hM.k2416, hM.k2417, hM.k2418, hM.k2419, hM.k2420, hM.k2421, hM.k2422, hM.k2423, hM.l2391, hM.l2392, hM.l2393, hM.l2394, hM.l2395, hM.l2396, hM.l2397, hM.l2398, hM.l2399, hM.l2400, hM.l2401, hM.l2402, hM.l2403, hM.l2404, hM.l2405, hM.l2406, hM.l2407, hM.l2408, hM.l2409, hM.l2410, hM.l2411, hM.l2412, hM.l2413, hM.l2414, hM.l2415, hM.l2416, hM.l2417, hM.l2418, hM.l2419, hM.l2420, hM.l2421, hM.l2422, hM.l2423]) <;> (try omega))) only [↓reduceIte, ↓z_ite, ↓zR, ↓zB_R, ↓zB_B, ↓zB_ite, ↓zB_gI, ↓zB_pI, ↓zB_pZ, ↓zB_aK, ↓zB_G, ↓zB_lI, ↓zB_lZ, ↓zB_wI, ↓zB_wZ, ↓zB_lIl, ↓zB_wIl, zB_pI, zB_pZ, zB_lI, zB_lZ, zB_wI, zB_wZ, z_addl, z_ladd, z_mull, z_lmul, nI_add, z_subl, Nat.not_lt_zero, z_10, z_01, z_bitc, z_b0, z_b1, ↓zB_Gb, ↓zB_G0, ↓zB_G1, z_eql, z_leq, z_ltl, z_llt, z_eq, z_lt, z_m1lt, hM.k, hM.k2391, hM.k2392, hM.k2393, hM.k2394, hM.k2395, hM.k2396, hM.k2397, hM.k2398, hM.k2399, hM.k2400, hM.k2401, hM.k2402, hM.k2403, hM.k2404, hM.k2405, hM.k2406, hM.k2407, hM.k2408, hM.k2409, hM.k2410, hM.k2411, hM.k2412, hM.k2413, hM.k2414, hM.k2415, hM.k2416, hM.k2417, hM.k2418, hM.k2419, hM.k2420, hM.k2421, hM.k2422, hM.k2423, hM.l2391, hM.l2392, hM.l2393, hM.l2394, hM.l2395, hM.l2396, hM.l2397, hM.l2398, hM.l2399, hM.l2400, hM.l2401, hM.l2402, hM.l2403, hM.l2404, hM.l2405, hM.l2406, hM.l2407, hM.l2408, hM.l2409, hM.l2410, hM.l2411, hM.l2412, hM.l2413, hM.l2414, hM.l2415, hM.l2416, hM.l2417, hM.l2418, hM.l2419, hM.l2420, hM.l2421, hM.l2422, hM.l2423, ↓hM.g1, ↓hM.g5, ↓hM.g6, ↓hM.g7, ↓hM.g8, ↓hM.g9, ↓hM.g10, ↓hM.g11, ↓hM.g12, ↓hM.g13, ↓hM.g14, ↓hM.g16, ↓hM.g17, ↓hM.g18, ↓hM.g19, ↓hM.g21, ↓hM.g22, ↓hM.g23, ↓hM.g24, ↓hM.g25, ↓hM.g27, ↓hM.g28, ↓hM.g30, ↓hM.g31, ↓hM.g32, ↓hM.g36, ↓hM.g37, ↓hM.g39, ↓hM.g40, ↓hM.g41, ↓hM.g43, ↓hM.g45, ↓hM.g46, ↓zB_c e0, zB_c e0, hl0, ↓zB_c e9, zB_c e9, Nat.lt_irrefl]
    · have e276 := f276_sp (S := S) hM hw hR hb1 hT1 (hK.bl (Or.inl rfl) hs) hj hl hi2
      cases g : z_cf P (z_fam P k) j i with
      | false =>
        rw [g] at e276
        refine Or.inl ⟨(2390, x, nI (c0 + z_ct (z_cf P (z_fam P k) j) (i + 1)), nI j, nI (i + 1)), m1, (z_bd P j).length - (i + 1), ?_, by omega, i + 1, rfl, hi2, rfl, z_rw2_congr (fun i' hi' => ?_) g1, g2⟩
        · have ec : z_ct (z_cf P (z_fam P k) j) (i + 1) = z_ct (z_cf P (z_fam P k) j) i := by
            show z_ct _ i + (if z_cf P (z_fam P k) j i = true then 1 else 0) = _
            rw [g]; rfl
          rw [ec]
          unfold f275_141b f275_199
          simp (disch := ((try simp only [true_or, or_true, hM.k, hM.k2391, hM.k2392, hM.k2393, hM.k2394, hM.k2395, hM.k2396, hM.k2397, hM.k2398, hM.k2399, hM.k2400, hM.k2401, hM.k2402, hM.k2403, hM.k2404, hM.k2405, hM.k2406, hM.k2407, hM.k2408, hM.k2409, hM.k2410, hM.k2411, hM.k2412, hM.k2413, hM.k2414, hM.k2415, hM.k2416, hM.k2417, hM.k2418, hM.k2419, hM.k2420, hM.k2421, hM.k2422, hM.k2423, hM.l2391, hM.l2392, hM.l2393, hM.l2394, hM.l2395, hM.l2396, hM.l2397, hM.l2398, hM.l2399, hM.l2400, hM.l2401, hM.l2402, hM.l2403, hM.l2404, hM.l2405, hM.l2406, hM.l2407, hM.l2408, hM.l2409, hM.l2410, hM.l2411, hM.l2412, hM.l2413, hM.l2414, hM.l2415, hM.l2416, hM.l2417, hM.l2418, hM.l2419, hM.l2420, hM.l2421, hM.l2422, hM.l2423]) <;> (try omega))) only [↓reduceIte, ↓z_ite, ↓zR, ↓zB_R, ↓zB_B, ↓zB_ite, ↓zB_gI, ↓zB_pI, ↓zB_pZ, ↓zB_aK, ↓zB_G, ↓zB_lI, ↓zB_lZ, ↓zB_wI, ↓zB_wZ, ↓zB_lIl, ↓zB_wIl, zB_pI, zB_pZ, zB_lI, zB_lZ, zB_wI, zB_wZ, z_addl, z_ladd, z_mull, z_lmul, nI_add, z_subl, Nat.not_lt_zero, z_10, z_01, z_bitc, z_b0, z_b1, ↓zB_Gb, ↓zB_G0, ↓zB_G1, z_eql, z_leq, z_ltl, z_llt, z_eq, z_lt, z_m1lt, hM.k, hM.k2391, hM.k2392, hM.k2393, hM.k2394, hM.k2395, hM.k2396, hM.k2397, hM.k2398, hM.k2399, hM.k2400, hM.k2401, hM.k2402, hM.k2403, hM.k2404, hM.k2405, hM.k2406, hM.k2407, hM.k2408, hM.k2409, hM.k2410, hM.k2411, hM.k2412, hM.k2413, hM.k2414, hM.k2415, hM.k2416, hM.k2417, hM.k2418, hM.k2419, hM.k2420, hM.k2421, hM.k2422, hM.k2423, hM.l2391, hM.l2392, hM.l2393, hM.l2394, hM.l2395, hM.l2396, hM.l2397, hM.l2398, hM.l2399, hM.l2400, hM.l2401, hM.l2402, hM.l2403, hM.l2404, hM.l2405, hM.l2406, hM.l2407, hM.l2408, hM.l2409, hM.l2410, hM.l2411, hM.l2412, hM.l2413, hM.l2414, hM.l2415, hM.l2416, hM.l2417, hM.l2418, hM.l2419, hM.l2420, hM.l2421, hM.l2422, hM.l2423, ↓hM.g1, ↓hM.g5, ↓hM.g6, ↓hM.g7, ↓hM.g8, ↓hM.g9, ↓hM.g10, ↓hM.g11, ↓hM.g12, ↓hM.g13, ↓hM.g14, ↓hM.g16, ↓hM.g17, ↓hM.g18, ↓hM.g19, ↓hM.g21, ↓hM.g22, ↓hM.g23, ↓hM.g24, ↓hM.g25, ↓hM.g27, ↓hM.g28, ↓hM.g30, ↓hM.g31, ↓hM.g32, ↓hM.g36, ↓hM.g37, ↓hM.g39, ↓hM.g40, ↓hM.g41, ↓hM.g43, ↓hM.g45, ↓hM.g46, ↓zB_c e0, zB_c e0, hl0, ↓zB_c e9, zB_c e9, hi2, ↓zB_c e276, zB_c e276]
        · by_cases y : i' = i
          · subst y
            rw [if_pos (show i' < i' + 1 by omega), if_neg (by omega)]
            unfold z_rmN
            rw [g]; rfl
          · by_cases y2 : i' < i
            · rw [if_pos (by omega), if_pos (by omega)]
            · rw [if_neg (by omega), if_neg (by omega)]
      | true =>
        rw [g] at e276
        have ea := hb1.ea hM (B := 0) rfl hj hi2
        obtain ⟨m2, e202, f2, r2⟩ := f202_2 (S := S) (m := m1) hM (j := j) (i := i) (by omega) (by omega) 7 x (z_a (z_bd P j) i)
        refine Or.inl ⟨(2390, x, nI (c0 + z_ct (z_cf P (z_fam P k) j) (i + 1)), nI j, nI (i + 1)), m2, (z_bd P j).length - (i + 1), ?_, by omega, i + 1, rfl, hi2, rfl, z_rw2_congr (fun i' hi' => ?_) (r2 _ _ hlen g1), g2.trans f2⟩
        · have ec : c0 + z_ct (z_cf P (z_fam P k) j) (i + 1) = c0 + z_ct (z_cf P (z_fam P k) j) i + 1 := by
            show c0 + (z_ct _ i + (if z_cf P (z_fam P k) j i = true then 1 else 0)) = _
            rw [g]; rfl
          rw [ec]
          unfold f275_141b f275_199
          simp (disch := ((try simp only [true_or, or_true, hM.k, hM.k2391, hM.k2392, hM.k2393, hM.k2394, hM.k2395, hM.k2396, hM.k2397, hM.k2398, hM.k2399, hM.k2400, hM.k2401, hM.k2402, hM.k2403, hM.k2404, hM.k2405, hM.k2406, hM.k2407, hM.k2408, hM.k2409, hM.k2410, hM.k2411, hM.k2412, hM.k2413, hM.k2414, hM.k2415, hM.k2416, hM.k2417, hM.k2418, hM.k2419, hM.k2420, hM.k2421, hM.k2422, hM.k2423, hM.l2391, hM.l2392, hM.l2393, hM.l2394, hM.l2395, hM.l2396, hM.l2397, hM.l2398, hM.l2399, hM.l2400, hM.l2401, hM.l2402, hM.l2403, hM.l2404, hM.l2405, hM.l2406, hM.l2407, hM.l2408, hM.l2409, hM.l2410, hM.l2411, hM.l2412, hM.l2413, hM.l2414, hM.l2415, hM.l2416, hM.l2417, hM.l2418, hM.l2419, hM.l2420, hM.l2421, hM.l2422, hM.l2423]) <;> (try omega))) only [↓reduceIte, ↓z_ite, ↓zR, ↓zB_R, ↓zB_B, ↓zB_ite, ↓zB_gI, ↓zB_pI, ↓zB_pZ, ↓zB_aK, ↓zB_G, ↓zB_lI, ↓zB_lZ, ↓zB_wI, ↓zB_wZ, ↓zB_lIl, ↓zB_wIl, zB_pI, zB_pZ, zB_lI, zB_lZ, zB_wI, zB_wZ, z_addl, z_ladd, z_mull, z_lmul, nI_add, z_subl, Nat.not_lt_zero, z_10, z_01, z_bitc, z_b0, z_b1, ↓zB_Gb, ↓zB_G0, ↓zB_G1, z_eql, z_leq, z_ltl, z_llt, z_eq, z_lt, z_m1lt, hM.k, hM.k2391, hM.k2392, hM.k2393, hM.k2394, hM.k2395, hM.k2396, hM.k2397, hM.k2398, hM.k2399, hM.k2400, hM.k2401, hM.k2402, hM.k2403, hM.k2404, hM.k2405, hM.k2406, hM.k2407, hM.k2408, hM.k2409, hM.k2410, hM.k2411, hM.k2412, hM.k2413, hM.k2414, hM.k2415, hM.k2416, hM.k2417, hM.k2418, hM.k2419, hM.k2420, hM.k2421, hM.k2422, hM.k2423, hM.l2391, hM.l2392, hM.l2393, hM.l2394, hM.l2395, hM.l2396, hM.l2397, hM.l2398, hM.l2399, hM.l2400, hM.l2401, hM.l2402, hM.l2403, hM.l2404, hM.l2405, hM.l2406, hM.l2407, hM.l2408, hM.l2409, hM.l2410, hM.l2411, hM.l2412, hM.l2413, hM.l2414, hM.l2415, hM.l2416, hM.l2417, hM.l2418, hM.l2419, hM.l2420, hM.l2421, hM.l2422, hM.l2423, ↓hM.g1, ↓hM.g5, ↓hM.g6, ↓hM.g7, ↓hM.g8, ↓hM.g9, ↓hM.g10, ↓hM.g11, ↓hM.g12, ↓hM.g13, ↓hM.g14, ↓hM.g16, ↓hM.g17, ↓hM.g18, ↓hM.g19, ↓hM.g21, ↓hM.g22, ↓hM.g23, ↓hM.g24, ↓hM.g25, ↓hM.g27, ↓hM.g28, ↓hM.g30, ↓hM.g31, ↓hM.g32, ↓hM.g36, ↓hM.g37, ↓hM.g39, ↓hM.g40, ↓hM.g41, ↓hM.g43, ↓hM.g45, ↓hM.g46, ↓zB_c e0, zB_c e0, hl0, ↓zB_c e9, zB_c e9, hi2, ↓zB_c e276, zB_c e276, Bool.true_eq_false, ↓zB_c ea, zB_c ea, ↓zB_c e202, zB_c e202]
        · by_cases y : i' = i
          · subst y
            rw [if_pos rfl, if_pos (by omega)]
            unfold z_rmN
            rw [g, if_pos rfl]
          · rw [if_neg y]
            by_cases y2 : i' < i
            · rw [if_pos (by omega), if_pos (by omega)]
            · rw [if_neg (by omega), if_neg (by omega)]
/-- where a change of the reference begins -/
theorem m_go (hM : z_MS S) (hw : z_WA A) (h : z_MR m A) (hr : z_wr A.2.1 = -1) : ∃ m1, f272 2390 (z_hp S m) = some (1, z_hp S m1) ∧ f178 2390 0 (z_hp S m1) = some (0, z_hp S (z_up m1 2390 0 0)) ∧ z_m0 (z_up m1 2390 0 0) A ∧ ∀ b, b < 2390 ∨ 2424 ≤ b → z_up m1 2390 0 0 b = m b := by
  obtain ⟨m1, e, h1, h2, h3⟩ := f272_sp (S := S) hM hw h
  rw [hr] at e
  refine ⟨m1, e, f178_0 hM, ⟨z_MR_ref h1 0, z_mLT_fr (fun a x1 x2 => z_up_row (by omega)) (h2 hr), z_up_s _ _ _ _⟩, fun b hb => ?_⟩
  rw [z_up_row (by omega)]; exact h3 b (by omega) (by omega) (by omega) (by omega)
/-- where it is refused, the program being wrong -/
theorem m_gono (hM : z_MS S) (hw : z_WA A) (h : z_MR m A) (hr : ¬ z_wr A.2.1 = -1) : ∃ m1, f272 2390 (z_hp S m) = some (0, z_hp S m1) ∧ z_MR m1 A ∧ ∀ b, b < 2390 ∨ 2424 ≤ b → m1 b = m b := by
  obtain ⟨m1, e, h1, h2, h3⟩ := f272_sp (S := S) hM hw h
  rw [show (z_wr A.2.1 == -1) = false by simpa using hr] at e
  exact ⟨m1, e, h1, fun b hb => h3 b (by omega) (by omega) (by omega) (by omega)⟩
theorem m_ref2 {F : m_M Int32} (hw : z_WA A) {m1 : z_m} (h : z_MR m1 A) (hfr : ∀ b, b < 2390 ∨ 2424 ≤ b → m1 b = m b) {cd : Nat → Int32} {E : Nat} (hF : ∃ v, F (z_hp S m) = some (v, z_hp S (z_up m1 2390 0 (cd E)))) : (∃ v m1, F (z_hp S m) = some (v, z_hp S m1) ∧ z_MR m1 A ∧ (∀ b, b < 2390 ∨ 2424 ≤ b → m1 b = m b) ∧ z_ans cd (.inr E) v (m1 2390 0)) ∧ z_WA A := by
  obtain ⟨v, e⟩ := hF
  exact ⟨⟨v, _, e, z_MR_ref h _, fun b hb => by rw [z_up_row (by omega)]; exact hfr b hb, z_up_s _ _ _ _⟩, hw⟩
theorem f206_b (hM : z_MS S) (h : z_MR m A) (x : Int32) : f206 2390 0 x (z_hp S m) = some (z_b (z_hm A.2.1 x), z_hp S m) := f206_sp (S := S) (B := 0) h.2.1 hM rfl x
theorem m_renM (hM : z_MS S) (hw : z_WA A) (h : z_MR m A) (k x : Int32) : (∃ v m1, f275 2390 k x (z_hp S m) = some (v, z_hp S m1) ∧ z_MR m1 (z_orenM A k x).2 ∧ (∀ b, b < 2390 ∨ 2424 ≤ b → m1 b = m b) ∧ z_ans z_cd3 (z_orenM A k x).1 v (m1 2390 0)) ∧ z_WA (z_orenM A k x).2 := by
  have hwf := hw.2.1.1
  have h24 := hwf.2.2.1
  have h60 := hw.2.1.2
  have i1 := f178_1 (m := m) hM
  have i2 := f178_2 (m := m) hM
  have e206 := f206_b (S := S) hM h k
  have e180 := f180_sp (S := S) (m := m) x
  unfold z_orenM
  by_cases g1 : z_hm A.2.1 k = false
  · rw [if_pos g1]
    refine z_m_ref hw h (E := 2) (cd := z_cd3) ⟨0, ?_⟩
    rw [g1] at e206
    unfold f275 f275_33 f275_34 f275_66
    simp (disch := ((try simp only [true_or, or_true, hM.k, hM.k2391, hM.k2392, hM.k2393, hM.k2394, hM.k2395, hM.k2396, hM.k2397, hM.k2398, hM.k2399, hM.k2400, hM.k2401, hM.k2402, hM.k2403, hM.k2404, hM.k2405, hM.k2406, hM.k2407, hM.k2408, hM.k2409, hM.k2410, hM.k2411, hM.k2412, hM.k2413, hM.k2414, hM.k2415, hM.k2416, hM.k2417, hM.k2418, hM.k2419, hM.k2420, hM.k2421, hM.k2422, hM.k2423, hM.l2391, hM.l2392, hM.l2393, hM.l2394, hM.l2395, hM.l2396, hM.l2397, hM.l2398, hM.l2399, hM.l2400, hM.l2401, hM.l2402, hM.l2403, hM.l2404, hM.l2405, hM.l2406, hM.l2407, hM.l2408, hM.l2409, hM.l2410, hM.l2411, hM.l2412, hM.l2413, hM.l2414, hM.l2415, hM.l2416, hM.l2417, hM.l2418, hM.l2419, hM.l2420, hM.l2421, hM.l2422, hM.l2423]) <;> (try omega))) only [↓reduceIte, ↓z_ite, ↓zR, ↓zB_R, ↓zB_B, ↓zB_ite, ↓zB_gI, ↓zB_pI, ↓zB_pZ, ↓zB_aK, ↓zB_G, ↓zB_lI, ↓zB_lZ, ↓zB_wI, ↓zB_wZ, ↓zB_lIl, ↓zB_wIl, zB_pI, zB_pZ, zB_lI, zB_lZ, zB_wI, zB_wZ, z_addl, z_ladd, z_mull, z_lmul, nI_add, z_subl, Nat.not_lt_zero, z_10, z_01, z_bitc, z_b0, z_b1, ↓zB_Gb, ↓zB_G0, ↓zB_G1, z_eql, z_leq, z_ltl, z_llt, z_eq, z_lt, z_m1lt, hM.k, hM.k2391, hM.k2392, hM.k2393, hM.k2394, hM.k2395, hM.k2396, hM.k2397, hM.k2398, hM.k2399, hM.k2400, hM.k2401, hM.k2402, hM.k2403, hM.k2404, hM.k2405, hM.k2406, hM.k2407, hM.k2408, hM.k2409, hM.k2410, hM.k2411, hM.k2412, hM.k2413, hM.k2414, hM.k2415, hM.k2416, hM.k2417, hM.k2418, hM.k2419, hM.k2420, hM.k2421, hM.k2422, hM.k2423, hM.l2391, hM.l2392, hM.l2393, hM.l2394, hM.l2395, hM.l2396, hM.l2397, hM.l2398, hM.l2399, hM.l2400, hM.l2401, hM.l2402, hM.l2403, hM.l2404, hM.l2405, hM.l2406, hM.l2407, hM.l2408, hM.l2409, hM.l2410, hM.l2411, hM.l2412, hM.l2413, hM.l2414, hM.l2415, hM.l2416, hM.l2417, hM.l2418, hM.l2419, hM.l2420, hM.l2421, hM.l2422, hM.l2423, ↓hM.g1, ↓hM.g5, ↓hM.g6, ↓hM.g7, ↓hM.g8, ↓hM.g9, ↓hM.g10, ↓hM.g11, ↓hM.g12, ↓hM.g13, ↓hM.g14, ↓hM.g16, ↓hM.g17, ↓hM.g18, ↓hM.g19, ↓hM.g21, ↓hM.g22, ↓hM.g23, ↓hM.g24, ↓hM.g25, ↓hM.g27, ↓hM.g28, ↓hM.g30, ↓hM.g31, ↓hM.g32, ↓hM.g36, ↓hM.g37, ↓hM.g39, ↓hM.g40, ↓hM.g41, ↓hM.g43, ↓hM.g45, ↓hM.g46, ↓zB_c e206, zB_c e206, ↓zB_c i1, zB_c i1]
    rfl
  rw [if_neg g1]
  have g1' := z_not_false g1
  rw [g1'] at e206
  obtain ⟨k', hk', hl, rfl⟩ := (z_hm_iff hwf).mp g1'
  rw [nI_clamp (show k' < 2 ^ 31 by omega)]
  have e2 := h.2.1.e2 hM (B := 0) rfl hk'
  by_cases g2 : z_in x 16 = false ∨ x = z_hd A.2.1 k' 2
  · rw [if_pos g2]
    refine z_m_ref hw h (E := 1) (cd := z_cd3) ⟨0, ?_⟩
    unfold f275 f275_33 f275_34 f275_66
    cases gx : z_in x 16 with
    | false =>
      rw [gx] at e180
      simp (disch := ((try simp only [true_or, or_true, hM.k, hM.k2391, hM.k2392, hM.k2393, hM.k2394, hM.k2395, hM.k2396, hM.k2397, hM.k2398, hM.k2399, hM.k2400, hM.k2401, hM.k2402, hM.k2403, hM.k2404, hM.k2405, hM.k2406, hM.k2407, hM.k2408, hM.k2409, hM.k2410, hM.k2411, hM.k2412, hM.k2413, hM.k2414, hM.k2415, hM.k2416, hM.k2417, hM.k2418, hM.k2419, hM.k2420, hM.k2421, hM.k2422, hM.k2423, hM.l2391, hM.l2392, hM.l2393, hM.l2394, hM.l2395, hM.l2396, hM.l2397, hM.l2398, hM.l2399, hM.l2400, hM.l2401, hM.l2402, hM.l2403, hM.l2404, hM.l2405, hM.l2406, hM.l2407, hM.l2408, hM.l2409, hM.l2410, hM.l2411, hM.l2412, hM.l2413, hM.l2414, hM.l2415, hM.l2416, hM.l2417, hM.l2418, hM.l2419, hM.l2420, hM.l2421, hM.l2422, hM.l2423]) <;> (try omega))) only [↓reduceIte, ↓z_ite, ↓zR, ↓zB_R, ↓zB_B, ↓zB_ite, ↓zB_gI, ↓zB_pI, ↓zB_pZ, ↓zB_aK, ↓zB_G, ↓zB_lI, ↓zB_lZ, ↓zB_wI, ↓zB_wZ, ↓zB_lIl, ↓zB_wIl, zB_pI, zB_pZ, zB_lI, zB_lZ, zB_wI, zB_wZ, z_addl, z_ladd, z_mull, z_lmul, nI_add, z_subl, Nat.not_lt_zero, z_10, z_01, z_bitc, z_b0, z_b1, ↓zB_Gb, ↓zB_G0, ↓zB_G1, z_eql, z_leq, z_ltl, z_llt, z_eq, z_lt, z_m1lt, hM.k, hM.k2391, hM.k2392, hM.k2393, hM.k2394, hM.k2395, hM.k2396, hM.k2397, hM.k2398, hM.k2399, hM.k2400, hM.k2401, hM.k2402, hM.k2403, hM.k2404, hM.k2405, hM.k2406, hM.k2407, hM.k2408, hM.k2409, hM.k2410, hM.k2411, hM.k2412, hM.k2413, hM.k2414, hM.k2415, hM.k2416, hM.k2417, hM.k2418, hM.k2419, hM.k2420, hM.k2421, hM.k2422, hM.k2423, hM.l2391, hM.l2392, hM.l2393, hM.l2394, hM.l2395, hM.l2396, hM.l2397, hM.l2398, hM.l2399, hM.l2400, hM.l2401, hM.l2402, hM.l2403, hM.l2404, hM.l2405, hM.l2406, hM.l2407, hM.l2408, hM.l2409, hM.l2410, hM.l2411, hM.l2412, hM.l2413, hM.l2414, hM.l2415, hM.l2416, hM.l2417, hM.l2418, hM.l2419, hM.l2420, hM.l2421, hM.l2422, hM.l2423, ↓hM.g1, ↓hM.g5, ↓hM.g6, ↓hM.g7, ↓hM.g8, ↓hM.g9, ↓hM.g10, ↓hM.g11, ↓hM.g12, ↓hM.g13, ↓hM.g14, ↓hM.g16, ↓hM.g17, ↓hM.g18, ↓hM.g19, ↓hM.g21, ↓hM.g22, ↓hM.g23, ↓hM.g24, ↓hM.g25, ↓hM.g27, ↓hM.g28, ↓hM.g30, ↓hM.g31, ↓hM.g32, ↓hM.g36, ↓hM.g37, ↓hM.g39, ↓hM.g40, ↓hM.g41, ↓hM.g43, ↓hM.g45, ↓hM.g46, ↓zB_c e206, zB_c e206, ↓zB_c e180, zB_c e180, Bool.true_eq_false, ↓zB_c i2, zB_c i2]
      rfl
    | true =>
      rw [gx] at e180
      have gy : x = z_hd A.2.1 k' 2 := by
        rcases g2 with q | q
        · rw [q] at gx; cases gx
        · exact q
      rw [← gy] at e2
      simp (disch := ((try simp only [true_or, or_true, hM.k, hM.k2391, hM.k2392, hM.k2393, hM.k2394, hM.k2395, hM.k2396, hM.k2397, hM.k2398, hM.k2399, hM.k2400, hM.k2401, hM.k2402, hM.k2403, hM.k2404, hM.k2405, hM.k2406, hM.k2407, hM.k2408, hM.k2409, hM.k2410, hM.k2411, hM.k2412, hM.k2413, hM.k2414, hM.k2415, hM.k2416, hM.k2417, hM.k2418, hM.k2419, hM.k2420, hM.k2421, hM.k2422, hM.k2423, hM.l2391, hM.l2392, hM.l2393, hM.l2394, hM.l2395, hM.l2396, hM.l2397, hM.l2398, hM.l2399, hM.l2400, hM.l2401, hM.l2402, hM.l2403, hM.l2404, hM.l2405, hM.l2406, hM.l2407, hM.l2408, hM.l2409, hM.l2410, hM.l2411, hM.l2412, hM.l2413, hM.l2414, hM.l2415, hM.l2416, hM.l2417, hM.l2418, hM.l2419, hM.l2420, hM.l2421, hM.l2422, hM.l2423]) <;> (try omega))) only [↓reduceIte, ↓z_ite, ↓zR, ↓zB_R, ↓zB_B, ↓zB_ite, ↓zB_gI, ↓zB_pI, ↓zB_pZ, ↓zB_aK, ↓zB_G, ↓zB_lI, ↓zB_lZ, ↓zB_wI, ↓zB_wZ, ↓zB_lIl, ↓zB_wIl, zB_pI, zB_pZ, zB_lI, zB_lZ, zB_wI, zB_wZ, z_addl, z_ladd, z_mull, z_lmul, nI_add, z_subl, Nat.not_lt_zero, z_10, z_01, z_bitc, z_b0, z_b1, ↓zB_Gb, ↓zB_G0, ↓zB_G1, z_eql, z_leq, z_ltl, z_llt, z_eq, z_lt, z_m1lt, hM.k, hM.k2391, hM.k2392, hM.k2393, hM.k2394, hM.k2395, hM.k2396, hM.k2397, hM.k2398, hM.k2399, hM.k2400, hM.k2401, hM.k2402, hM.k2403, hM.k2404, hM.k2405, hM.k2406, hM.k2407, hM.k2408, hM.k2409, hM.k2410, hM.k2411, hM.k2412, hM.k2413, hM.k2414, hM.k2415, hM.k2416, hM.k2417, hM.k2418, hM.k2419, hM.k2420, hM.k2421, hM.k2422, hM.k2423, hM.l2391, hM.l2392, hM.l2393, hM.l2394, hM.l2395, hM.l2396, hM.l2397, hM.l2398, hM.l2399, hM.l2400, hM.l2401, hM.l2402, hM.l2403, hM.l2404, hM.l2405, hM.l2406, hM.l2407, hM.l2408, hM.l2409, hM.l2410, hM.l2411, hM.l2412, hM.l2413, hM.l2414, hM.l2415, hM.l2416, hM.l2417, hM.l2418, hM.l2419, hM.l2420, hM.l2421, hM.l2422, hM.l2423, ↓hM.g1, ↓hM.g5, ↓hM.g6, ↓hM.g7, ↓hM.g8, ↓hM.g9, ↓hM.g10, ↓hM.g11, ↓hM.g12, ↓hM.g13, ↓hM.g14, ↓hM.g16, ↓hM.g17, ↓hM.g18, ↓hM.g19, ↓hM.g21, ↓hM.g22, ↓hM.g23, ↓hM.g24, ↓hM.g25, ↓hM.g27, ↓hM.g28, ↓hM.g30, ↓hM.g31, ↓hM.g32, ↓hM.g36, ↓hM.g37, ↓hM.g39, ↓hM.g40, ↓hM.g41, ↓hM.g43, ↓hM.g45, ↓hM.g46, ↓zB_c e206, zB_c e206, ↓zB_c e180, zB_c e180, Bool.true_eq_false, ↓zB_c e2, zB_c e2, ↓zB_c i2, zB_c i2]
      rfl
  rw [if_neg g2]
  have gx : z_in x 16 = true := z_not_false (fun q => g2 (Or.inl q))
  have gy : ¬ x = z_hd A.2.1 k' 2 := fun q => g2 (Or.inr q)
  rw [gx] at e180
  by_cases g3 : ¬ z_wr A.2.1 = -1
  · rw [if_neg g3]
    obtain ⟨m1, e272, h1, fr1⟩ := m_gono (S := S) hM hw h g3
    have i3 := f178_3 (m := m1) hM
    refine m_ref2 (m1 := m1) hw h1 fr1 (E := 0) (cd := z_cd3) ⟨0, ?_⟩
    unfold f275 f275_34 f275_66
    simp (disch := ((try simp only [true_or, or_true, hM.k, hM.k2391, hM.k2392, hM.k2393, hM.k2394, hM.k2395, hM.k2396, hM.k2397, hM.k2398, hM.k2399, hM.k2400, hM.k2401, hM.k2402, hM.k2403, hM.k2404, hM.k2405, hM.k2406, hM.k2407, hM.k2408, hM.k2409, hM.k2410, hM.k2411, hM.k2412, hM.k2413, hM.k2414, hM.k2415, hM.k2416, hM.k2417, hM.k2418, hM.k2419, hM.k2420, hM.k2421, hM.k2422, hM.k2423, hM.l2391, hM.l2392, hM.l2393, hM.l2394, hM.l2395, hM.l2396, hM.l2397, hM.l2398, hM.l2399, hM.l2400, hM.l2401, hM.l2402, hM.l2403, hM.l2404, hM.l2405, hM.l2406, hM.l2407, hM.l2408, hM.l2409, hM.l2410, hM.l2411, hM.l2412, hM.l2413, hM.l2414, hM.l2415, hM.l2416, hM.l2417, hM.l2418, hM.l2419, hM.l2420, hM.l2421, hM.l2422, hM.l2423]) <;> (try omega))) only [↓reduceIte, ↓z_ite, ↓zR, ↓zB_R, ↓zB_B, ↓zB_ite, ↓zB_gI, ↓zB_pI, ↓zB_pZ, ↓zB_aK, ↓zB_G, ↓zB_lI, ↓zB_lZ, ↓zB_wI, ↓zB_wZ, ↓zB_lIl, ↓zB_wIl, zB_pI, zB_pZ, zB_lI, zB_lZ, zB_wI, zB_wZ, z_addl, z_ladd, z_mull, z_lmul, nI_add, z_subl, Nat.not_lt_zero, z_10, z_01, z_bitc, z_b0, z_b1, ↓zB_Gb, ↓zB_G0, ↓zB_G1, z_eql, z_leq, z_ltl, z_llt, z_eq, z_lt, z_m1lt, hM.k, hM.k2391, hM.k2392, hM.k2393, hM.k2394, hM.k2395, hM.k2396, hM.k2397, hM.k2398, hM.k2399, hM.k2400, hM.k2401, hM.k2402, hM.k2403, hM.k2404, hM.k2405, hM.k2406, hM.k2407, hM.k2408, hM.k2409, hM.k2410, hM.k2411, hM.k2412, hM.k2413, hM.k2414, hM.k2415, hM.k2416, hM.k2417, hM.k2418, hM.k2419, hM.k2420, hM.k2421, hM.k2422, hM.k2423, hM.l2391, hM.l2392, hM.l2393, hM.l2394, hM.l2395, hM.l2396, hM.l2397, hM.l2398, hM.l2399, hM.l2400, hM.l2401, hM.l2402, hM.l2403, hM.l2404, hM.l2405, hM.l2406, hM.l2407, hM.l2408, hM.l2409, hM.l2410, hM.l2411, hM.l2412, hM.l2413, hM.l2414, hM.l2415, hM.l2416, hM.l2417, hM.l2418, hM.l2419, hM.l2420, hM.l2421, hM.l2422, hM.l2423, ↓hM.g1, ↓hM.g5, ↓hM.g6, ↓hM.g7, ↓hM.g8, ↓hM.g9, ↓hM.g10, ↓hM.g11, ↓hM.g12, ↓hM.g13, ↓hM.g14, ↓hM.g16, ↓hM.g17, ↓hM.g18, ↓hM.g19, ↓hM.g21, ↓hM.g22, ↓hM.g23, ↓hM.g24, ↓hM.g25, ↓hM.g27, ↓hM.g28, ↓hM.g30, ↓hM.g31, ↓hM.g32, ↓hM.g36, ↓hM.g37, ↓hM.g39, ↓hM.g40, ↓hM.g41, ↓hM.g43, ↓hM.g45, ↓hM.g46, ↓zB_c e206, zB_c e206, ↓zB_c e180, zB_c e180, Bool.true_eq_false, ↓zB_c e2, zB_c e2, gy, ↓zB_c e272, zB_c e272, ↓zB_c i3, zB_c i3]
    rfl
  have g3 := Classical.not_not.mp g3
  rw [if_pos g3]
  obtain ⟨n, hn, rfl⟩ := (z_in_iff (by decide)).mp gx
  have hRT := z_RT_wr hwf g3
  obtain ⟨m1, e272, e178, h0, fr0⟩ := m_go (S := S) hM hw h g3
  generalize hm2 : z_up m1 2390 0 0 = m2 at e178 h0 fr0
  obtain ⟨m3, e255, bl3, fr3⟩ := f255_sp (S := S) (m := m2) (B := 0) h0.1.2.1 hM hwf rfl hk' hl
  have hF23 : z_wK m2 m3 ∨ True := Or.inr trivial
  have hmF3 : z_mF m2 m3 := ⟨fun j _ => by rw [fr3 _ (by decide)], fun a x1 x2 => fr3 a (by omega), fun j _ => by rw [fr3 _ (by decide)], fun a ha => fr3 a (by omega)⟩
  have h3 := z_m0_mF hmF3 h0
  have hfm : ∀ j, z_fam A.2.1 k' j = true → j < z_nm A.2.1 := fun j hj => (z_fam_isc hk' hl hj).1
  have e257 := f257_sp (S := S) (B := 0) h3.1.2.1 hM hwf rfl bl3 hfm (nI n) (z_hd A.2.1 k' 3)
  have e3 := h3.1.2.1.e3 hM (B := 0) rfl hk'
  have fr03 : ∀ b, b < 2390 ∨ 2424 ≤ b → m3 b = m b := fun b hb => (hmF3.2.2.2 b hb).trans (fr0 b hb)
  by_cases gf : z_free A.2.1 (z_fam A.2.1 k') (nI n) (z_hd A.2.1 k' 3) = false
  · have er : z_rmR A.2.1 k' (nI n) = -1 := if_pos gf
    rw [gf] at e257
    rw [er]
    refine m_no hw (by decide) (m' := m3) ?_ h3.1 h3.2.2 fr03
    unfold f275 f275_34 f275_66
    simp (disch := ((try simp only [true_or, or_true, hM.k, hM.k2391, hM.k2392, hM.k2393, hM.k2394, hM.k2395, hM.k2396, hM.k2397, hM.k2398, hM.k2399, hM.k2400, hM.k2401, hM.k2402, hM.k2403, hM.k2404, hM.k2405, hM.k2406, hM.k2407, hM.k2408, hM.k2409, hM.k2410, hM.k2411, hM.k2412, hM.k2413, hM.k2414, hM.k2415, hM.k2416, hM.k2417, hM.k2418, hM.k2419, hM.k2420, hM.k2421, hM.k2422, hM.k2423, hM.l2391, hM.l2392, hM.l2393, hM.l2394, hM.l2395, hM.l2396, hM.l2397, hM.l2398, hM.l2399, hM.l2400, hM.l2401, hM.l2402, hM.l2403, hM.l2404, hM.l2405, hM.l2406, hM.l2407, hM.l2408, hM.l2409, hM.l2410, hM.l2411, hM.l2412, hM.l2413, hM.l2414, hM.l2415, hM.l2416, hM.l2417, hM.l2418, hM.l2419, hM.l2420, hM.l2421, hM.l2422, hM.l2423]) <;> (try omega))) only [↓reduceIte, ↓z_ite, ↓zR, ↓zB_R, ↓zB_B, ↓zB_ite, ↓zB_gI, ↓zB_pI, ↓zB_pZ, ↓zB_aK, ↓zB_G, ↓zB_lI, ↓zB_lZ, ↓zB_wI, ↓zB_wZ, ↓zB_lIl, ↓zB_wIl, zB_pI, zB_pZ, zB_lI, zB_lZ, zB_wI, zB_wZ, z_addl, z_ladd, z_mull, z_lmul, nI_add, z_subl, Nat.not_lt_zero, z_10, z_01, z_bitc, z_b0, z_b1, ↓zB_Gb, ↓zB_G0, ↓zB_G1, z_eql, z_leq, z_ltl, z_llt, z_eq, z_lt, z_m1lt, hM.k, hM.k2391, hM.k2392, hM.k2393, hM.k2394, hM.k2395, hM.k2396, hM.k2397, hM.k2398, hM.k2399, hM.k2400, hM.k2401, hM.k2402, hM.k2403, hM.k2404, hM.k2405, hM.k2406, hM.k2407, hM.k2408, hM.k2409, hM.k2410, hM.k2411, hM.k2412, hM.k2413, hM.k2414, hM.k2415, hM.k2416, hM.k2417, hM.k2418, hM.k2419, hM.k2420, hM.k2421, hM.k2422, hM.k2423, hM.l2391, hM.l2392, hM.l2393, hM.l2394, hM.l2395, hM.l2396, hM.l2397, hM.l2398, hM.l2399, hM.l2400, hM.l2401, hM.l2402, hM.l2403, hM.l2404, hM.l2405, hM.l2406, hM.l2407, hM.l2408, hM.l2409, hM.l2410, hM.l2411, hM.l2412, hM.l2413, hM.l2414, hM.l2415, hM.l2416, hM.l2417, hM.l2418, hM.l2419, hM.l2420, hM.l2421, hM.l2422, hM.l2423, ↓hM.g1, ↓hM.g5, ↓hM.g6, ↓hM.g7, ↓hM.g8, ↓hM.g9, ↓hM.g10, ↓hM.g11, ↓hM.g12, ↓hM.g13, ↓hM.g14, ↓hM.g16, ↓hM.g17, ↓hM.g18, ↓hM.g19, ↓hM.g21, ↓hM.g22, ↓hM.g23, ↓hM.g24, ↓hM.g25, ↓hM.g27, ↓hM.g28, ↓hM.g30, ↓hM.g31, ↓hM.g32, ↓hM.g36, ↓hM.g37, ↓hM.g39, ↓hM.g40, ↓hM.g41, ↓hM.g43, ↓hM.g45, ↓hM.g46, ↓zB_c e206, zB_c e206, ↓zB_c e180, zB_c e180, Bool.true_eq_false, ↓zB_c e2, zB_c e2, gy, ↓zB_c e272, zB_c e272, ↓zB_c e178, zB_c e178, ↓zB_c e255, zB_c e255, ↓zB_c e3, zB_c e3, ↓zB_c e257, zB_c e257]
  · have gf' : z_free A.2.1 (z_fam A.2.1 k') (nI n) (z_hd A.2.1 k' 3) = true := by simpa using gf
    have er : z_rmR A.2.1 k' (nI n) = nI (z_sl A.2.1 (fun j => z_ct (z_cf A.2.1 (z_fam A.2.1 k') j) (z_bd A.2.1 j).length) (z_nm A.2.1)) := if_neg gf
    rw [gf'] at e257
    obtain ⟨hQ1, hQ2⟩ := z_rmQ_ok hwf h60 hRT hk' hl hn gf'
    obtain ⟨m4, e203, h4, mb4, mz4, mF4, fr4⟩ := f203_w (S := S) hM h3
    have bl4 : z_bl m4 2416 (z_fam A.2.1 k') := z_bl_fr (fr4 _ (by decide)) bl3
    have fr04 : ∀ b, b < 2390 ∨ 2424 ≤ b → m4 b = m b := fun b hb => (mF4.2.2.2 b hb).trans (fr03 b hb)
    have hsum : ∀ n, n ≤ z_nm A.2.1 → z_sl A.2.1 (fun j => z_ct (z_cf A.2.1 (z_fam A.2.1 k') j) (z_bd A.2.1 j).length) n ≤ n * 60 := fun n hn => z_sl_le n (fun j hj hlj => Nat.le_trans (z_ct_le _) (h60 j (by omega)))
    have rpos : ¬ z_rmR A.2.1 k' (nI n) < 0 := by
      rw [er]
      have := hsum _ (Nat.le_refl _)
      exact nI_pos (by omega)
    have key := z_loopI (f := fun s => f275_110b (s.1) (s.2.1) (s.2.2.1) (s.2.2.2)) (S := S) (fun n' st m' => ∃ j, n' = z_nm A.2.1 - j ∧ j ≤ z_nm A.2.1 ∧ st = (2390, nI n, nI (z_sl A.2.1 (fun j => z_ct (z_cf A.2.1 (z_fam A.2.1 k') j) (z_bd A.2.1 j).length) j), nI j) ∧ z_mb m' 2 (z_mix A.2.1 (z_rmG A.2.1 k' (nI n)) (z_rmD A.2.1 k' (nI n)) j) ∧ z_wK m4 m') (fun r m' => r = z_rmR A.2.1 k' (nI n) ∧ z_MR m' (z_push A (z_rmQ A.2.1 k' (nI n))) ∧ m' 2390 0 = 0 ∧ ∀ b, b < 2390 ∨ 2424 ≤ b → m' b = m b) ?_ 1000000 (z_nm A.2.1) (2390, nI n, 0, 0) m4 ⟨0, rfl, Nat.zero_le _, rfl, by rw [z_mix_0]; exact mb4, z_wK.refl m4⟩ (by omega)
    · obtain ⟨r, m5, e, rfl, g5, g6, g7⟩ := key
      refine m_yes hw rpos (m' := m5) ?_ g5 g6 g7 hQ1 hQ2 rfl
      unfold f275 f275_34 f275_66 f275_110
      simp (disch := ((try simp only [true_or, or_true, hM.k, hM.k2391, hM.k2392, hM.k2393, hM.k2394, hM.k2395, hM.k2396, hM.k2397, hM.k2398, hM.k2399, hM.k2400, hM.k2401, hM.k2402, hM.k2403, hM.k2404, hM.k2405, hM.k2406, hM.k2407, hM.k2408, hM.k2409, hM.k2410, hM.k2411, hM.k2412, hM.k2413, hM.k2414, hM.k2415, hM.k2416, hM.k2417, hM.k2418, hM.k2419, hM.k2420, hM.k2421, hM.k2422, hM.k2423, hM.l2391, hM.l2392, hM.l2393, hM.l2394, hM.l2395, hM.l2396, hM.l2397, hM.l2398, hM.l2399, hM.l2400, hM.l2401, hM.l2402, hM.l2403, hM.l2404, hM.l2405, hM.l2406, hM.l2407, hM.l2408, hM.l2409, hM.l2410, hM.l2411, hM.l2412, hM.l2413, hM.l2414, hM.l2415, hM.l2416, hM.l2417, hM.l2418, hM.l2419, hM.l2420, hM.l2421, hM.l2422, hM.l2423]) <;> (try omega))) only [↓reduceIte, ↓z_ite, ↓zR, ↓zB_R, ↓zB_B, ↓zB_ite, ↓zB_gI, ↓zB_pI, ↓zB_pZ, ↓zB_aK, ↓zB_G, ↓zB_lI, ↓zB_lZ, ↓zB_wI, ↓zB_wZ, ↓zB_lIl, ↓zB_wIl, zB_pI, zB_pZ, zB_lI, zB_lZ, zB_wI, zB_wZ, z_addl, z_ladd, z_mull, z_lmul, nI_add, z_subl, Nat.not_lt_zero, z_10, z_01, z_bitc, z_b0, z_b1, ↓zB_Gb, ↓zB_G0, ↓zB_G1, z_eql, z_leq, z_ltl, z_llt, z_eq, z_lt, z_m1lt, hM.k, hM.k2391, hM.k2392, hM.k2393, hM.k2394, hM.k2395, hM.k2396, hM.k2397, hM.k2398, hM.k2399, hM.k2400, hM.k2401, hM.k2402, hM.k2403, hM.k2404, hM.k2405, hM.k2406, hM.k2407, hM.k2408, hM.k2409, hM.k2410, hM.k2411, hM.k2412, hM.k2413, hM.k2414, hM.k2415, hM.k2416, hM.k2417, hM.k2418, hM.k2419, hM.k2420, hM.k2421, hM.k2422, hM.k2423, hM.l2391, hM.l2392, hM.l2393, hM.l2394, hM.l2395, hM.l2396, hM.l2397, hM.l2398, hM.l2399, hM.l2400, hM.l2401, hM.l2402, hM.l2403, hM.l2404, hM.l2405, hM.l2406, hM.l2407, hM.l2408, hM.l2409, hM.l2410, hM.l2411, hM.l2412, hM.l2413, hM.l2414, hM.l2415, hM.l2416, hM.l2417, hM.l2418, hM.l2419, hM.l2420, hM.l2421, hM.l2422, hM.l2423, ↓hM.g1, ↓hM.g5, ↓hM.g6, ↓hM.g7, ↓hM.g8, ↓hM.g9, ↓hM.g10, ↓hM.g11, ↓hM.g12, ↓hM.g13, ↓hM.g14, ↓hM.g16, ↓hM.g17, ↓hM.g18, ↓hM.g19, ↓hM.g21, ↓hM.g22, ↓hM.g23, ↓hM.g24, ↓hM.g25, ↓hM.g27, ↓hM.g28, ↓hM.g30, ↓hM.g31, ↓hM.g32, ↓hM.g36, ↓hM.g37, ↓hM.g39, ↓hM.g40, ↓hM.g41, ↓hM.g43, ↓hM.g45, ↓hM.g46, ↓zB_c e206, zB_c e206, ↓zB_c e180, zB_c e180, Bool.true_eq_false, ↓zB_c e2, zB_c e2, gy, ↓zB_c e272, zB_c e272, ↓zB_c e178, zB_c e178, ↓zB_c e255, zB_c e255, ↓zB_c e3, zB_c e3, ↓zB_c e257, zB_c e257, ↓zB_c e203, zB_c e203]
      exact e
    · rintro n' st m5 ⟨j, rfl, hj, rfl, g1, g2⟩
      have h5 := z_m0_wK g2 h4
      have bl5 := g2.bl (Or.inl rfl) bl4
      have e265 := f265_sp (S := S) hM h5.1.2.1
      have hle := hsum j hj
      dsimp only
      rcases Nat.eq_or_lt_of_le hj with hj2 | hj2
      · obtain ⟨m6, e271, c1, c2, c3⟩ := f271_y (S := S) (Q := z_rmQ A.2.1 k' (nI n)) hM hw h5.1 (by rw [hj2] at g1; exact g1) (g2.mz mz4) rfl (fun q hq hq1 => hQ2 q hq)
        refine Or.inr ⟨_, m6, ?_, rfl, c1, by rw [c3 0 (by decide)]; exact h5.2.2, fun b hb => ?_⟩
        · rw [er, hj2]
          unfold f275_110b f275_211
          simp (disch := ((try simp only [true_or, or_true, hM.k, hM.k2391, hM.k2392, hM.k2393, hM.k2394, hM.k2395, hM.k2396, hM.k2397, hM.k2398, hM.k2399, hM.k2400, hM.k2401, hM.k2402, hM.k2403, hM.k2404, hM.k2405, hM.k2406, hM.k2407, hM.k2408, hM.k2409, hM.k2410, hM.k2411, hM.k2412, hM.k2413, hM.k2414, hM.k2415, hM.k2416, hM.k2417, hM.k2418, hM.k2419, hM.k2420, hM.k2421, hM.k2422, hM.k2423, hM.l2391, hM.l2392, hM.l2393, hM.l2394, hM.l2395, hM.l2396, hM.l2397, hM.l2398, hM.l2399, hM.l2400, hM.l2401, hM.l2402, hM.l2403, hM.l2404, hM.l2405, hM.l2406, hM.l2407, hM.l2408, hM.l2409, hM.l2410, hM.l2411, hM.l2412, hM.l2413, hM.l2414, hM.l2415, hM.l2416, hM.l2417, hM.l2418, hM.l2419, hM.l2420, hM.l2421, hM.l2422, hM.l2423]) <;> (try omega))) only [↓reduceIte, ↓z_ite, ↓zR, ↓zB_R, ↓zB_B, ↓zB_ite, ↓zB_gI, ↓zB_pI, ↓zB_pZ, ↓zB_aK, ↓zB_G, ↓zB_lI, ↓zB_lZ, ↓zB_wI, ↓zB_wZ, ↓zB_lIl, ↓zB_wIl, zB_pI, zB_pZ, zB_lI, zB_lZ, zB_wI, zB_wZ, z_addl, z_ladd, z_mull, z_lmul, nI_add, z_subl, Nat.not_lt_zero, z_10, z_01, z_bitc, z_b0, z_b1, ↓zB_Gb, ↓zB_G0, ↓zB_G1, z_eql, z_leq, z_ltl, z_llt, z_eq, z_lt, z_m1lt, hM.k, hM.k2391, hM.k2392, hM.k2393, hM.k2394, hM.k2395, hM.k2396, hM.k2397, hM.k2398, hM.k2399, hM.k2400, hM.k2401, hM.k2402, hM.k2403, hM.k2404, hM.k2405, hM.k2406, hM.k2407, hM.k2408, hM.k2409, hM.k2410, hM.k2411, hM.k2412, hM.k2413, hM.k2414, hM.k2415, hM.k2416, hM.k2417, hM.k2418, hM.k2419, hM.k2420, hM.k2421, hM.k2422, hM.k2423, hM.l2391, hM.l2392, hM.l2393, hM.l2394, hM.l2395, hM.l2396, hM.l2397, hM.l2398, hM.l2399, hM.l2400, hM.l2401, hM.l2402, hM.l2403, hM.l2404, hM.l2405, hM.l2406, hM.l2407, hM.l2408, hM.l2409, hM.l2410, hM.l2411, hM.l2412, hM.l2413, hM.l2414, hM.l2415, hM.l2416, hM.l2417, hM.l2418, hM.l2419, hM.l2420, hM.l2421, hM.l2422, hM.l2423, ↓hM.g1, ↓hM.g5, ↓hM.g6, ↓hM.g7, ↓hM.g8, ↓hM.g9, ↓hM.g10, ↓hM.g11, ↓hM.g12, ↓hM.g13, ↓hM.g14, ↓hM.g16, ↓hM.g17, ↓hM.g18, ↓hM.g19, ↓hM.g21, ↓hM.g22, ↓hM.g23, ↓hM.g24, ↓hM.g25, ↓hM.g27, ↓hM.g28, ↓hM.g30, ↓hM.g31, ↓hM.g32, ↓hM.g36, ↓hM.g37, ↓hM.g39, ↓hM.g40, ↓hM.g41, ↓hM.g43, ↓hM.g45, ↓hM.g46, ↓zB_c e265, zB_c e265, Nat.lt_irrefl, ↓zB_c e271, zB_c e271]
        · rw [c2 b (by omega) (by omega), g2.mF.2.2.2 b hb]; exact fr04 b hb
      · have hbj := bl5 j (by omega)
        cases glj : z_liv A.2.1 j with
        | false =>
          have hfj : z_fam A.2.1 k' j = false := by
            cases q : z_fam A.2.1 k' j with
            | false => rfl
            | true =>
              have := z_isc_liv (z_fam_isc hk' hl q).2
              rw [glj] at this; cases this
          rw [hfj] at hbj
          have e0 := h5.1.2.1.e0 hM (B := 0) rfl hj2
          have hl0 : ¬ z_hd A.2.1 j 0 = 1 := by
            intro q; unfold z_liv at glj; rw [q] at glj; cases glj
          refine Or.inl ⟨(2390, nI n, nI (z_sl A.2.1 (fun j => z_ct (z_cf A.2.1 (z_fam A.2.1 k') j) (z_bd A.2.1 j).length) (j + 1)), nI (j + 1)), m5, z_nm A.2.1 - (j + 1), ?_, by omega, j + 1, rfl, hj2, rfl, by rw [z_mix_n glj]; exact g1, g2⟩
          have ec : z_sl A.2.1 (fun j => z_ct (z_cf A.2.1 (z_fam A.2.1 k') j) (z_bd A.2.1 j).length) (j + 1) = z_sl A.2.1 (fun j => z_ct (z_cf A.2.1 (z_fam A.2.1 k') j) (z_bd A.2.1 j).length) j := by
            show z_sl A.2.1 _ j + (if z_liv A.2.1 j = true then _ else 0) = _
            rw [glj]; rfl
          rw [ec]
          have e141 : f275_141 2390 (nI n) (nI (z_sl A.2.1 (fun j => z_ct (z_cf A.2.1 (z_fam A.2.1 k') j) (z_bd A.2.1 j).length) j)) (nI j) 0 (z_hp S m5) = some (.inl (2390, nI n, nI (z_sl A.2.1 (fun j => z_ct (z_cf A.2.1 (z_fam A.2.1 k') j) (z_bd A.2.1 j).length) j), nI (j + 1)), z_hp S m5) := by
            unfold f275_141
            show m_B (f275_141b 2390 (nI n) _ (nI j) 0) _ _ = _
            have : f275_141b 2390 (nI n) (nI (z_sl A.2.1 (fun j => z_ct (z_cf A.2.1 (z_fam A.2.1 k') j) (z_bd A.2.1 j).length) j)) (nI j) 0 (z_hp S m5) = some (.inr (.inl (2390, nI n, nI (z_sl A.2.1 (fun j => z_ct (z_cf A.2.1 (z_fam A.2.1 k') j) (z_bd A.2.1 j).length) j), nI (j + 1))), z_hp S m5) := by
              unfold f275_141b f275_205
              simp (disch := ((try simp only [true_or, or_true, hM.k, hM.k2391, hM.k2392, hM.k2393, hM.k2394, hM.k2395, hM.k2396, hM.k2397, hM.k2398, hM.k2399, hM.k2400, hM.k2401, hM.k2402, hM.k2403, hM.k2404, hM.k2405, hM.k2406, hM.k2407, hM.k2408, hM.k2409, hM.k2410, hM.k2411, hM.k2412, hM.k2413, hM.k2414, hM.k2415, hM.k2416, hM.k2417, hM.k2418, hM.k2419, hM.k2420, hM.k2421, hM.k2422, hM.k2423, hM.l2391, hM.l2392, hM.l2393, hM.l2394, hM.l2395, hM.l2396, hM.l2397, hM.l2398, hM.l2399, hM.l2400, hM.l2401, hM.l2402, hM.l2403, hM.l2404, hM.l2405, hM.l2406, hM.l2407, hM.l2408, hM.l2409, hM.l2410, hM.l2411, hM.l2412, hM.l2413, hM.l2414, hM.l2415, hM.l2416, hM.l2417, hM.l2418, hM.l2419, hM.l2420, hM.l2421, hM.l2422, hM.l2423]) <;> (try omega))) only [↓reduceIte, ↓z_ite, ↓zR, ↓zB_R, ↓zB_B, ↓zB_ite, ↓zB_gI, ↓zB_pI, ↓zB_pZ, ↓zB_aK, ↓zB_G, ↓zB_lI, ↓zB_lZ, ↓zB_wI, ↓zB_wZ, ↓zB_lIl, ↓zB_wIl, zB_pI, zB_pZ, zB_lI, zB_lZ, zB_wI, zB_wZ, z_addl, z_ladd, z_mull, z_lmul, nI_add, z_subl, Nat.not_lt_zero, z_10, z_01, z_bitc, z_b0, z_b1, ↓zB_Gb, ↓zB_G0, ↓zB_G1, z_eql, z_leq, z_ltl, z_llt, z_eq, z_lt, z_m1lt, hM.k, hM.k2391, hM.k2392, hM.k2393, hM.k2394, hM.k2395, hM.k2396, hM.k2397, hM.k2398, hM.k2399, hM.k2400, hM.k2401, hM.k2402, hM.k2403, hM.k2404, hM.k2405, hM.k2406, hM.k2407, hM.k2408, hM.k2409, hM.k2410, hM.k2411, hM.k2412, hM.k2413, hM.k2414, hM.k2415, hM.k2416, hM.k2417, hM.k2418, hM.k2419, hM.k2420, hM.k2421, hM.k2422, hM.k2423, hM.l2391, hM.l2392, hM.l2393, hM.l2394, hM.l2395, hM.l2396, hM.l2397, hM.l2398, hM.l2399, hM.l2400, hM.l2401, hM.l2402, hM.l2403, hM.l2404, hM.l2405, hM.l2406, hM.l2407, hM.l2408, hM.l2409, hM.l2410, hM.l2411, hM.l2412, hM.l2413, hM.l2414, hM.l2415, hM.l2416, hM.l2417, hM.l2418, hM.l2419, hM.l2420, hM.l2421, hM.l2422, hM.l2423, ↓hM.g1, ↓hM.g5, ↓hM.g6, ↓hM.g7, ↓hM.g8, ↓hM.g9, ↓hM.g10, ↓hM.g11, ↓hM.g12, ↓hM.g13, ↓hM.g14, ↓hM.g16, ↓hM.g17, ↓hM.g18, ↓hM.g19, ↓hM.g21, ↓hM.g22, ↓hM.g23, ↓hM.g24, ↓hM.g25, ↓hM.g27, ↓hM.g28, ↓hM.g30, ↓hM.g31, ↓hM.g32, ↓hM.g36, ↓hM.g37, ↓hM.g39, ↓hM.g40, ↓hM.g41, ↓hM.g43, ↓hM.g45, ↓hM.g46, ↓zB_c e0, zB_c e0, hl0]
            rw [zB_c this]; rfl
          unfold f275_110b f275_138
          simp (disch := ((try simp only [true_or, or_true, hM.k, hM.k2391, hM.k2392, hM.k2393, hM.k2394, hM.k2395, hM.k2396, hM.k2397, hM.k2398, hM.k2399, hM.k2400, hM.k2401, hM.k2402, hM.k2403, hM.k2404, hM.k2405, hM.k2406, hM.k2407, hM.k2408, hM.k2409, hM.k2410, hM.k2411, hM.k2412, hM.k2413, hM.k2414, hM.k2415, hM.k2416, hM.k2417, hM.k2418, hM.k2419, hM.k2420, hM.k2421, hM.k2422, hM.k2423, hM.l2391, hM.l2392, hM.l2393, hM.l2394, hM.l2395, hM.l2396, hM.l2397, hM.l2398, hM.l2399, hM.l2400, hM.l2401, hM.l2402, hM.l2403, hM.l2404, hM.l2405, hM.l2406, hM.l2407, hM.l2408, hM.l2409, hM.l2410, hM.l2411, hM.l2412, hM.l2413, hM.l2414, hM.l2415, hM.l2416, hM.l2417, hM.l2418, hM.l2419, hM.l2420, hM.l2421, hM.l2422, hM.l2423]) <;> (try omega))) only [↓reduceIte, ↓z_ite, ↓zR, ↓zB_R, ↓zB_B, ↓zB_ite, ↓zB_gI, ↓zB_pI, ↓zB_pZ, ↓zB_aK, ↓zB_G, ↓zB_lI, ↓zB_lZ, ↓zB_wI, ↓zB_wZ, ↓zB_lIl, ↓zB_wIl, zB_pI, zB_pZ, zB_lI, zB_lZ, zB_wI, zB_wZ, z_addl, z_ladd, z_mull, z_lmul, nI_add, z_subl, Nat.not_lt_zero, z_10, z_01, z_bitc, z_b0, z_b1, ↓zB_Gb, ↓zB_G0, ↓zB_G1, z_eql, z_leq, z_ltl, z_llt, z_eq, z_lt, z_m1lt, hM.k, hM.k2391, hM.k2392, hM.k2393, hM.k2394, hM.k2395, hM.k2396, hM.k2397, hM.k2398, hM.k2399, hM.k2400, hM.k2401, hM.k2402, hM.k2403, hM.k2404, hM.k2405, hM.k2406, hM.k2407, hM.k2408, hM.k2409, hM.k2410, hM.k2411, hM.k2412, hM.k2413, hM.k2414, hM.k2415, hM.k2416, hM.k2417, hM.k2418, hM.k2419, hM.k2420, hM.k2421, hM.k2422, hM.k2423, hM.l2391, hM.l2392, hM.l2393, hM.l2394, hM.l2395, hM.l2396, hM.l2397, hM.l2398, hM.l2399, hM.l2400, hM.l2401, hM.l2402, hM.l2403, hM.l2404, hM.l2405, hM.l2406, hM.l2407, hM.l2408, hM.l2409, hM.l2410, hM.l2411, hM.l2412, hM.l2413, hM.l2414, hM.l2415, hM.l2416, hM.l2417, hM.l2418, hM.l2419, hM.l2420, hM.l2421, hM.l2422, hM.l2423, ↓hM.g1, ↓hM.g5, ↓hM.g6, ↓hM.g7, ↓hM.g8, ↓hM.g9, ↓hM.g10, ↓hM.g11, ↓hM.g12, ↓hM.g13, ↓hM.g14, ↓hM.g16, ↓hM.g17, ↓hM.g18, ↓hM.g19, ↓hM.g21, ↓hM.g22, ↓hM.g23, ↓hM.g24, ↓hM.g25, ↓hM.g27, ↓hM.g28, ↓hM.g30, ↓hM.g31, ↓hM.g32, ↓hM.g36, ↓hM.g37, ↓hM.g39, ↓hM.g40, ↓hM.g41, ↓hM.g43, ↓hM.g45, ↓hM.g46, ↓zB_c e265, zB_c e265, hj2, hbj]
          exact e141
        | true =>
          have hmixl : ∀ w, z_hd (z_mix A.2.1 (z_rmG A.2.1 k' (nI n)) (z_rmD A.2.1 k' (nI n)) j) j w = z_hd A.2.1 j w := fun w => by rw [z_mix_hd, if_neg (by omega)]
          have hbdj : z_bd (z_mix A.2.1 (z_rmG A.2.1 k' (nI n)) (z_rmD A.2.1 k' (nI n)) j) j = z_bd A.2.1 j := by rw [z_mix_bd, if_neg (by omega)]
          have hheads := (g1.2.2.2.2.2.2 j hj2).1
          have hL := (g1.2.2.2.2.2.2 j hj2).2.1
          rw [hbdj] at hL
          have hrow := z_rw2_of g1 (j := j) hj2
          rw [hbdj] at hrow
          have hlen := z_Pl h5.1.2.1 hj2
          -- the name
          have nam : ∃ m6, f275_110b 2390 (nI n) (nI (z_sl A.2.1 (fun j => z_ct (z_cf A.2.1 (z_fam A.2.1 k') j) (z_bd A.2.1 j).length) j)) (nI j) (z_hp S m5) = f275_141 2390 (nI n) (nI (z_sl A.2.1 (fun j => z_ct (z_cf A.2.1 (z_fam A.2.1 k') j) (z_bd A.2.1 j).length) j)) (nI j) 0 (z_hp S m6) ∧ (∀ w, w < 9 → m6 2391 (14200 * 2 + 104 + 10 * j + w) = z_rmG A.2.1 k' (nI n) j w) ∧ m6 2391 (14200 * 2 + 104 + 10 * j + 9) = nI (z_bd A.2.1 j).length ∧ z_hF 2 j m5 m6 := by
            cases gfm : z_fam A.2.1 k' j with
            | false =>
              rw [gfm] at hbj
              refine ⟨m5, ?_, fun w hw => ?_, hL, z_hF.refl 2 j m5⟩
              · unfold f275_110b f275_138
                simp (disch := ((try simp only [true_or, or_true, hM.k, hM.k2391, hM.k2392, hM.k2393, hM.k2394, hM.k2395, hM.k2396, hM.k2397, hM.k2398, hM.k2399, hM.k2400, hM.k2401, hM.k2402, hM.k2403, hM.k2404, hM.k2405, hM.k2406, hM.k2407, hM.k2408, hM.k2409, hM.k2410, hM.k2411, hM.k2412, hM.k2413, hM.k2414, hM.k2415, hM.k2416, hM.k2417, hM.k2418, hM.k2419, hM.k2420, hM.k2421, hM.k2422, hM.k2423, hM.l2391, hM.l2392, hM.l2393, hM.l2394, hM.l2395, hM.l2396, hM.l2397, hM.l2398, hM.l2399, hM.l2400, hM.l2401, hM.l2402, hM.l2403, hM.l2404, hM.l2405, hM.l2406, hM.l2407, hM.l2408, hM.l2409, hM.l2410, hM.l2411, hM.l2412, hM.l2413, hM.l2414, hM.l2415, hM.l2416, hM.l2417, hM.l2418, hM.l2419, hM.l2420, hM.l2421, hM.l2422, hM.l2423]) <;> (try omega))) only [↓reduceIte, ↓z_ite, ↓zR, ↓zB_R, ↓zB_B, ↓zB_ite, ↓zB_gI, ↓zB_pI, ↓zB_pZ, ↓zB_aK, ↓zB_G, ↓zB_lI, ↓zB_lZ, ↓zB_wI, ↓zB_wZ, ↓zB_lIl, ↓zB_wIl, zB_pI, zB_pZ, zB_lI, zB_lZ, zB_wI, zB_wZ, z_addl, z_ladd, z_mull, z_lmul, nI_add, z_subl, Nat.not_lt_zero, z_10, z_01, z_bitc, z_b0, z_b1, ↓zB_Gb, ↓zB_G0, ↓zB_G1, z_eql, z_leq, z_ltl, z_llt, z_eq, z_lt, z_m1lt, hM.k, hM.k2391, hM.k2392, hM.k2393, hM.k2394, hM.k2395, hM.k2396, hM.k2397, hM.k2398, hM.k2399, hM.k2400, hM.k2401, hM.k2402, hM.k2403, hM.k2404, hM.k2405, hM.k2406, hM.k2407, hM.k2408, hM.k2409, hM.k2410, hM.k2411, hM.k2412, hM.k2413, hM.k2414, hM.k2415, hM.k2416, hM.k2417, hM.k2418, hM.k2419, hM.k2420, hM.k2421, hM.k2422, hM.k2423, hM.l2391, hM.l2392, hM.l2393, hM.l2394, hM.l2395, hM.l2396, hM.l2397, hM.l2398, hM.l2399, hM.l2400, hM.l2401, hM.l2402, hM.l2403, hM.l2404, hM.l2405, hM.l2406, hM.l2407, hM.l2408, hM.l2409, hM.l2410, hM.l2411, hM.l2412, hM.l2413, hM.l2414, hM.l2415, hM.l2416, hM.l2417, hM.l2418, hM.l2419, hM.l2420, hM.l2421, hM.l2422, hM.l2423, ↓hM.g1, ↓hM.g5, ↓hM.g6, ↓hM.g7, ↓hM.g8, ↓hM.g9, ↓hM.g10, ↓hM.g11, ↓hM.g12, ↓hM.g13, ↓hM.g14, ↓hM.g16, ↓hM.g17, ↓hM.g18, ↓hM.g19, ↓hM.g21, ↓hM.g22, ↓hM.g23, ↓hM.g24, ↓hM.g25, ↓hM.g27, ↓hM.g28, ↓hM.g30, ↓hM.g31, ↓hM.g32, ↓hM.g36, ↓hM.g37, ↓hM.g39, ↓hM.g40, ↓hM.g41, ↓hM.g43, ↓hM.g45, ↓hM.g46, ↓zB_c e265, zB_c e265, hj2, hbj]
              · rw [hheads w hw, hmixl]
                unfold z_rmG
                rw [gfm, if_neg (by simp)]
            | true =>
              rw [gfm] at hbj
              refine ⟨z_hx m5 2 j 2 (nI n), ?_, fun w hw => ?_, ?_, (z_hF.refl 2 j m5).x (by decide)⟩
              · unfold f275_110b f275_138
                simp (disch := ((try simp only [true_or, or_true, hM.k, hM.k2391, hM.k2392, hM.k2393, hM.k2394, hM.k2395, hM.k2396, hM.k2397, hM.k2398, hM.k2399, hM.k2400, hM.k2401, hM.k2402, hM.k2403, hM.k2404, hM.k2405, hM.k2406, hM.k2407, hM.k2408, hM.k2409, hM.k2410, hM.k2411, hM.k2412, hM.k2413, hM.k2414, hM.k2415, hM.k2416, hM.k2417, hM.k2418, hM.k2419, hM.k2420, hM.k2421, hM.k2422, hM.k2423, hM.l2391, hM.l2392, hM.l2393, hM.l2394, hM.l2395, hM.l2396, hM.l2397, hM.l2398, hM.l2399, hM.l2400, hM.l2401, hM.l2402, hM.l2403, hM.l2404, hM.l2405, hM.l2406, hM.l2407, hM.l2408, hM.l2409, hM.l2410, hM.l2411, hM.l2412, hM.l2413, hM.l2414, hM.l2415, hM.l2416, hM.l2417, hM.l2418, hM.l2419, hM.l2420, hM.l2421, hM.l2422, hM.l2423]) <;> (try omega))) only [↓reduceIte, ↓z_ite, ↓zR, ↓zB_R, ↓zB_B, ↓zB_ite, ↓zB_gI, ↓zB_pI, ↓zB_pZ, ↓zB_aK, ↓zB_G, ↓zB_lI, ↓zB_lZ, ↓zB_wI, ↓zB_wZ, ↓zB_lIl, ↓zB_wIl, zB_pI, zB_pZ, zB_lI, zB_lZ, zB_wI, zB_wZ, z_addl, z_ladd, z_mull, z_lmul, nI_add, z_subl, Nat.not_lt_zero, z_10, z_01, z_bitc, z_b0, z_b1, ↓zB_Gb, ↓zB_G0, ↓zB_G1, z_eql, z_leq, z_ltl, z_llt, z_eq, z_lt, z_m1lt, hM.k, hM.k2391, hM.k2392, hM.k2393, hM.k2394, hM.k2395, hM.k2396, hM.k2397, hM.k2398, hM.k2399, hM.k2400, hM.k2401, hM.k2402, hM.k2403, hM.k2404, hM.k2405, hM.k2406, hM.k2407, hM.k2408, hM.k2409, hM.k2410, hM.k2411, hM.k2412, hM.k2413, hM.k2414, hM.k2415, hM.k2416, hM.k2417, hM.k2418, hM.k2419, hM.k2420, hM.k2421, hM.k2422, hM.k2423, hM.l2391, hM.l2392, hM.l2393, hM.l2394, hM.l2395, hM.l2396, hM.l2397, hM.l2398, hM.l2399, hM.l2400, hM.l2401, hM.l2402, hM.l2403, hM.l2404, hM.l2405, hM.l2406, hM.l2407, hM.l2408, hM.l2409, hM.l2410, hM.l2411, hM.l2412, hM.l2413, hM.l2414, hM.l2415, hM.l2416, hM.l2417, hM.l2418, hM.l2419, hM.l2420, hM.l2421, hM.l2422, hM.l2423, ↓hM.g1, ↓hM.g5, ↓hM.g6, ↓hM.g7, ↓hM.g8, ↓hM.g9, ↓hM.g10, ↓hM.g11, ↓hM.g12, ↓hM.g13, ↓hM.g14, ↓hM.g16, ↓hM.g17, ↓hM.g18, ↓hM.g19, ↓hM.g21, ↓hM.g22, ↓hM.g23, ↓hM.g24, ↓hM.g25, ↓hM.g27, ↓hM.g28, ↓hM.g30, ↓hM.g31, ↓hM.g32, ↓hM.g36, ↓hM.g37, ↓hM.g39, ↓hM.g40, ↓hM.g41, ↓hM.g43, ↓hM.g45, ↓hM.g46, ↓zB_c e265, zB_c e265, hj2, hbj, Bool.true_eq_false, ↓r197_2_2 (k := j) hM (show j < 24 by omega)]
              · rw [z_hx_r]
                unfold z_rmG
                rw [gfm]
                by_cases y : w = 2
                · rw [if_pos y, if_pos ⟨y, rfl⟩]
                · rw [if_neg y, if_neg (fun q => y q.1), hheads w hw, hmixl]
              · rw [z_hx_r, if_neg (by decide)]; exact hL
          obtain ⟨m6, e6, hh6, hL6, hF6⟩ := nam
          have hK6 := hF6.wK (show j < 24 by omega)
          have h6 := z_m0_wK hK6 h5
          obtain ⟨m7, e7, r7, f7⟩ := f275_141_sp (S := S) (x := nI n) hM hwf hRT h6.1.2.1 h6.2.1 (hK6.bl (Or.inl rfl) bl5) hj2 glj (z_rw2_st (fun i x1 x2 => hF6.2 i (by omega)) hlen hrow) (z_sl A.2.1 (fun j => z_ct (z_cf A.2.1 (z_fam A.2.1 k') j) (z_bd A.2.1 j).length) j) (by omega)
          refine Or.inl ⟨(2390, nI n, nI (z_sl A.2.1 (fun j => z_ct (z_cf A.2.1 (z_fam A.2.1 k') j) (z_bd A.2.1 j).length) (j + 1)), nI (j + 1)), m7, z_nm A.2.1 - (j + 1), ?_, by omega, j + 1, rfl, hj2, rfl, ?_, g2.trans (hK6.trans (f7.wK (by omega)))⟩
          · have ec : z_sl A.2.1 (fun j => z_ct (z_cf A.2.1 (z_fam A.2.1 k') j) (z_bd A.2.1 j).length) (j + 1) = z_sl A.2.1 (fun j => z_ct (z_cf A.2.1 (z_fam A.2.1 k') j) (z_bd A.2.1 j).length) j + z_ct (z_cf A.2.1 (z_fam A.2.1 k') j) (z_bd A.2.1 j).length := by
              show z_sl A.2.1 _ j + (if z_liv A.2.1 j = true then _ else 0) = _
              rw [if_pos glj]
            rw [ec, e6]; exact e7
          · rw [z_mix_s glj]
            refine z_mb_sM g1 hj2 (fun w hw => ?_) ?_ (by unfold z_rmD; rw [z_lm_len]; exact hlen) (fun i hi => z_rw2_lm r7 i hi) (fun i x1 x2 x3 x4 => ?_)
            · rw [f7.2 _ (by omega)]; exact hh6 w hw
            · rw [f7.2 _ (by omega)]
              unfold z_rmD
              rw [z_lm_len]; exact hL6
            · rw [f7.2 _ (by omega), hF6.2 _ (by omega)]
end
