/-! the reference's look: sizes, what is around, what is bound -/
/-- the node around another one -/
def z_pa (l : List z_N) (i : Nat) : Option Nat := z_lst (fun j => decide (i < z_en l j)) i
section
variable {l : List z_N}
theorem z_pa_some {i j : Nat} (h : z_pa l i = some j) : j < i ∧ i < z_en l j ∧ ∀ q, j < q → q < i → z_en l q ≤ i := by
  obtain ⟨h1, h2, h3⟩ := z_lst_some.mp h
  refine ⟨h1, by simpa using h2, fun q h4 h5 => ?_⟩
  have := h3 q h4 h5
  simpa using this
theorem z_pa_part (ht : z_tr l) {i q : Nat} (hi : i < l.length) (hq : q < z_p l i) : z_pa l (z_pt l i q) = some i := by
  have h1 := z_pt_ge (l := l) (i := i) q
  have h2 := z_pt_en hi hq
  have h3 := z_en_gt (z_pt_lt ht hi hq)
  refine z_lst_some.mpr ⟨h1, by simp; omega, fun j h4 h5 => ?_⟩
  simp only [decide_eq_false_iff_not, Nat.not_lt]
  obtain ⟨q', h6, h7, h8⟩ := z_within hi h4 (by omega)
  have hlt := z_pt_lt ht hi h6
  have hqq : q' < q := by
    rcases Nat.lt_or_ge q' q with h9 | h9
    · exact h9
    · have := z_pt_mono (l := l) (i := i) h9; omega
  have h9 := z_pt_mono (l := l) (i := i) (show q' + 1 ≤ q from hqq)
  rw [z_pt_s] at h8 h9
  rcases Nat.eq_or_lt_of_le h7 with h10 | h10
  · rw [← h10]; exact h9
  · have := z_lam' ht hlt h10 h8; omega
theorem z_pa_is (ht : z_tr l) {i j : Nat} (hj : j < l.length) (h : z_pa l j = some i) : ∃ q, q < z_p l i ∧ z_pt l i q = j := by
  obtain ⟨h1, h2, h3⟩ := z_pa_some h
  obtain ⟨q, h4, h5, h6⟩ := z_within (by omega) h1 h2
  refine ⟨q, h4, ?_⟩
  rcases Nat.eq_or_lt_of_le h5 with h7 | h7
  · exact h7
  · have h8 := z_pt_ge (l := l) (i := i) q
    have h9 := h3 _ h8 h7
    rw [z_pt_s] at h6
    omega
theorem z_pa_0 : z_pa l 0 = none := rfl
theorem z_pa_ex (ht : z_tr l) {j : Nat} (h0 : 0 < j) (hj : j < l.length) : ∃ i, z_pa l j = some i := by
  cases h : z_pa l j with
  | some i => exact ⟨i, rfl⟩
  | none =>
    have := z_lst_none.mp h 0 h0
    rw [z_en_0 ht] at this
    simp at this; omega
end
/-- what a look may change -/
def z_lF (k : Nat) (m m' : z_m) : Prop := (∀ a, a ≠ 2397 → a ≠ 2398 → a ≠ 2399 → a ≠ 2400 → m' a = m a) ∧ ∀ a j, (j < 192 * k ∨ 192 * k + 192 ≤ j) → m' a j = m a j
theorem z_lF.refl (k : Nat) (m : z_m) : z_lF k m m := ⟨fun _ _ _ _ _ => rfl, fun _ _ _ => rfl⟩
theorem z_lF.trans {k : Nat} {m m' m'' : z_m} (h : z_lF k m m') (h2 : z_lF k m' m'') : z_lF k m m'' := ⟨fun a h3 h4 h5 h6 => (h2.1 a h3 h4 h5 h6).trans (h.1 a h3 h4 h5 h6), fun a j hj => (h2.2 a j hj).trans (h.2 a j hj)⟩
theorem z_lF.up {k : Nat} {m m' : z_m} (h : z_lF k m m') {r j : Nat} {v : Int32} (hr : r = 2397 ∨ r = 2398 ∨ r = 2399 ∨ r = 2400) (hj : 192 * k ≤ j ∧ j < 192 * k + 192) : z_lF k m (z_up m' r j v) := by
  refine ⟨fun a h1 h2 h3 h4 => ?_, fun a q hq => ?_⟩
  · rw [z_up_row (by omega)]; exact h.1 a h1 h2 h3 h4
  · rw [z_up_b (by omega)]; exact h.2 a q hq
theorem z_mb_fr {m m' : z_m} {b : Nat} {P : z_Pg} (h : m' 2391 = m 2391) (hb : z_mb m b P) : z_mb m' b P := by
  unfold z_mb at *
  rw [h]; exact hb
section
variable {S : z_S} {m : z_m} {b k : Nat} {P : z_Pg} {B : Int32}
/-- partAt -/
theorem f223_sp (hM : z_MS S) {l : List z_N} (ht : z_tr l) (hl : l.length ≤ 192) (hk : k < 24) {i : Nat} (hi : i < l.length) (he : ∀ j, i < j → j < l.length → m 2397 (192 * k + j) = nI (z_sz l j)) {j : Nat} (hj : j ≤ z_p l i) : f223 2390 (nI k) (nI i) (nI j) (z_hp S m) = some (nI (z_pt l i j), z_hp S m) := by
  have hp := z_p_lt ht hi
  unfold f223 f223_8
  simp (disch := ((try simp only [true_or, or_true]) <;> (try omega))) only [↓reduceIte, ↓z_ite, ↓zR, ↓zB_R, ↓zB_B, ↓zB_ite, ↓zB_gI, ↓zB_pI, ↓zB_pZ, ↓zB_aK, ↓zB_G, ↓zB_lI, ↓zB_lZ, ↓zB_wI, ↓zB_wZ, ↓zB_lIl, ↓zB_wIl, zB_pI, zB_pZ, zB_lI, zB_lZ, zB_wI, zB_wZ, z_addl, z_ladd, z_mull, z_lmul, nI_add, z_subl, Nat.not_lt_zero, z_10, z_01, z_bitc, z_b0, z_b1, ↓zB_Gb, ↓zB_G0, ↓zB_G1, z_eql, z_leq, z_ltl, z_llt, z_eq, z_lt, z_m1lt]
  refine z_path (fun q => (2390, nI k, nI j, nI (z_pt l i q), nI q)) (fun _ => m) j 0 1000000 (by omega) (fun q _ hq => ?_) ?_
  · have h3 := z_pt_lt ht hi (j := q) (by omega)
    have h4 : q < j := by omega
    have h5 := he _ (z_pt_ge q) h3
    have h6 := z_en_le ht h3
    have h7 : z_pt l i q + z_sz l (z_pt l i q) = z_pt l i (q + 1) := (z_pt_s l i q).symm
    dsimp only
    unfold f223_8b
    simp (disch := ((try simp only [true_or, or_true, hM.k, hM.k2391, hM.k2392, hM.k2393, hM.k2394, hM.k2395, hM.k2396, hM.k2397, hM.k2398, hM.k2399, hM.k2400, hM.k2401, hM.k2402, hM.k2403, hM.k2404, hM.k2405, hM.k2406, hM.k2407, hM.k2408, hM.k2409, hM.k2410, hM.k2411, hM.k2412, hM.k2413, hM.k2414, hM.k2415, hM.k2416, hM.k2417, hM.k2418, hM.k2419, hM.k2420, hM.k2421, hM.k2422, hM.k2423, hM.l2391, hM.l2392, hM.l2393, hM.l2394, hM.l2395, hM.l2396, hM.l2397, hM.l2398, hM.l2399, hM.l2400, hM.l2401, hM.l2402, hM.l2403, hM.l2404, hM.l2405, hM.l2406, hM.l2407, hM.l2408, hM.l2409, hM.l2410, hM.l2411, hM.l2412, hM.l2413, hM.l2414, hM.l2415, hM.l2416, hM.l2417, hM.l2418, hM.l2419, hM.l2420, hM.l2421, hM.l2422, hM.l2423]) <;> (try omega))) only [↓reduceIte, ↓z_ite, ↓zR, ↓zB_R, ↓zB_B, ↓zB_ite, ↓zB_gI, ↓zB_pI, ↓zB_pZ, ↓zB_aK, ↓zB_G, ↓zB_lI, ↓zB_lZ, ↓zB_wI, ↓zB_wZ, ↓zB_lIl, ↓zB_wIl, zB_pI, zB_pZ, zB_lI, zB_lZ, zB_wI, zB_wZ, z_addl, z_ladd, z_mull, z_lmul, nI_add, z_subl, Nat.not_lt_zero, z_10, z_01, z_bitc, z_b0, z_b1, ↓zB_Gb, ↓zB_G0, ↓zB_G1, z_eql, z_leq, z_ltl, z_llt, z_eq, z_lt, z_m1lt, hM.k, hM.k2391, hM.k2392, hM.k2393, hM.k2394, hM.k2395, hM.k2396, hM.k2397, hM.k2398, hM.k2399, hM.k2400, hM.k2401, hM.k2402, hM.k2403, hM.k2404, hM.k2405, hM.k2406, hM.k2407, hM.k2408, hM.k2409, hM.k2410, hM.k2411, hM.k2412, hM.k2413, hM.k2414, hM.k2415, hM.k2416, hM.k2417, hM.k2418, hM.k2419, hM.k2420, hM.k2421, hM.k2422, hM.k2423, hM.l2391, hM.l2392, hM.l2393, hM.l2394, hM.l2395, hM.l2396, hM.l2397, hM.l2398, hM.l2399, hM.l2400, hM.l2401, hM.l2402, hM.l2403, hM.l2404, hM.l2405, hM.l2406, hM.l2407, hM.l2408, hM.l2409, hM.l2410, hM.l2411, hM.l2412, hM.l2413, hM.l2414, hM.l2415, hM.l2416, hM.l2417, hM.l2418, hM.l2419, hM.l2420, hM.l2421, hM.l2422, hM.l2423, ↓hM.g1, ↓hM.g5, ↓hM.g6, ↓hM.g7, ↓hM.g8, ↓hM.g9, ↓hM.g10, ↓hM.g11, ↓hM.g12, ↓hM.g13, ↓hM.g14, ↓hM.g16, ↓hM.g17, ↓hM.g18, ↓hM.g19, ↓hM.g21, ↓hM.g22, ↓hM.g23, ↓hM.g24, ↓hM.g25, ↓hM.g27, ↓hM.g28, ↓hM.g30, ↓hM.g31, ↓hM.g32, ↓hM.g36, ↓hM.g37, ↓hM.g39, ↓hM.g40, ↓hM.g41, ↓hM.g43, ↓hM.g45, ↓hM.g46, h4, h5, h7]
  · unfold f223_8b f223_38
    simp (disch := ((try simp only [true_or, or_true]) <;> (try omega))) only [↓reduceIte, ↓z_ite, ↓zR, ↓zB_R, ↓zB_B, ↓zB_ite, ↓zB_gI, ↓zB_pI, ↓zB_pZ, ↓zB_aK, ↓zB_G, ↓zB_lI, ↓zB_lZ, ↓zB_wI, ↓zB_wZ, ↓zB_lIl, ↓zB_wIl, zB_pI, zB_pZ, zB_lI, zB_lZ, zB_wI, zB_wZ, z_addl, z_ladd, z_mull, z_lmul, nI_add, z_subl, Nat.not_lt_zero, z_10, z_01, z_bitc, z_b0, z_b1, ↓zB_Gb, ↓zB_G0, ↓zB_G1, z_eql, z_leq, z_ltl, z_llt, z_eq, z_lt, z_m1lt, Nat.zero_add, Nat.lt_irrefl]
/-- measure -/
theorem f224_sp (h : z_mb m b P) (hM : z_MS S) (hB : B = nI b) (hk : k < z_nm P) (hw : z_wB (z_nc P) (z_bd P k)) : ∃ m', f224 2390 B (nI k) (z_hp S m) = some ((), z_hp S m') ∧ z_lF k m m' ∧ ∀ j, j < (z_bd P k).length → m' 2397 (192 * k + j) = nI (z_sz (z_bd P k) j) ∧ m' 2398 (192 * k + j) = z_oI (z_pa (z_bd P k) j) ∧ m' 2399 (192 * k + j) = -9 ∧ m' 2400 (192 * k + j) = -9 := by
  have h24 := h.2.2.1
  have hlen := (h.2.2.2.2.2.2 k hk).2.2.1
  have hpos := z_tr_pos hw.1
  have e9 := h.e9 hM hB hk
  generalize hbd : z_bd P k = l at *
  unfold f224
  simp (disch := ((try simp only [true_or, or_true, hM.k, hM.k2391, hM.k2392, hM.k2393, hM.k2394, hM.k2395, hM.k2396, hM.k2397, hM.k2398, hM.k2399, hM.k2400, hM.k2401, hM.k2402, hM.k2403, hM.k2404, hM.k2405, hM.k2406, hM.k2407, hM.k2408, hM.k2409, hM.k2410, hM.k2411, hM.k2412, hM.k2413, hM.k2414, hM.k2415, hM.k2416, hM.k2417, hM.k2418, hM.k2419, hM.k2420, hM.k2421, hM.k2422, hM.k2423, hM.l2391, hM.l2392, hM.l2393, hM.l2394, hM.l2395, hM.l2396, hM.l2397, hM.l2398, hM.l2399, hM.l2400, hM.l2401, hM.l2402, hM.l2403, hM.l2404, hM.l2405, hM.l2406, hM.l2407, hM.l2408, hM.l2409, hM.l2410, hM.l2411, hM.l2412, hM.l2413, hM.l2414, hM.l2415, hM.l2416, hM.l2417, hM.l2418, hM.l2419, hM.l2420, hM.l2421, hM.l2422, hM.l2423]) <;> (try omega))) only [↓reduceIte, ↓z_ite, ↓zR, ↓zB_R, ↓zB_B, ↓zB_ite, ↓zB_gI, ↓zB_pI, ↓zB_pZ, ↓zB_aK, ↓zB_G, ↓zB_lI, ↓zB_lZ, ↓zB_wI, ↓zB_wZ, ↓zB_lIl, ↓zB_wIl, zB_pI, zB_pZ, zB_lI, zB_lZ, zB_wI, zB_wZ, z_addl, z_ladd, z_mull, z_lmul, nI_add, z_subl, Nat.not_lt_zero, z_10, z_01, z_bitc, z_b0, z_b1, ↓zB_Gb, ↓zB_G0, ↓zB_G1, z_eql, z_leq, z_ltl, z_llt, z_eq, z_lt, z_m1lt, hM.k, hM.k2391, hM.k2392, hM.k2393, hM.k2394, hM.k2395, hM.k2396, hM.k2397, hM.k2398, hM.k2399, hM.k2400, hM.k2401, hM.k2402, hM.k2403, hM.k2404, hM.k2405, hM.k2406, hM.k2407, hM.k2408, hM.k2409, hM.k2410, hM.k2411, hM.k2412, hM.k2413, hM.k2414, hM.k2415, hM.k2416, hM.k2417, hM.k2418, hM.k2419, hM.k2420, hM.k2421, hM.k2422, hM.k2423, hM.l2391, hM.l2392, hM.l2393, hM.l2394, hM.l2395, hM.l2396, hM.l2397, hM.l2398, hM.l2399, hM.l2400, hM.l2401, hM.l2402, hM.l2403, hM.l2404, hM.l2405, hM.l2406, hM.l2407, hM.l2408, hM.l2409, hM.l2410, hM.l2411, hM.l2412, hM.l2413, hM.l2414, hM.l2415, hM.l2416, hM.l2417, hM.l2418, hM.l2419, hM.l2420, hM.l2421, hM.l2422, hM.l2423, ↓hM.g1, ↓hM.g5, ↓hM.g6, ↓hM.g7, ↓hM.g8, ↓hM.g9, ↓hM.g10, ↓hM.g11, ↓hM.g12, ↓hM.g13, ↓hM.g14, ↓hM.g16, ↓hM.g17, ↓hM.g18, ↓hM.g19, ↓hM.g21, ↓hM.g22, ↓hM.g23, ↓hM.g24, ↓hM.g25, ↓hM.g27, ↓hM.g28, ↓hM.g30, ↓hM.g31, ↓hM.g32, ↓hM.g36, ↓hM.g37, ↓hM.g39, ↓hM.g40, ↓hM.g41, ↓hM.g43, ↓hM.g45, ↓hM.g46, ↓zB_c e9, zB_c e9]
  unfold f224_22
  have key := z_loopI (f := fun s => f224_22b (s.1) (s.2.1) (s.2.2.1) (s.2.2.2.1) (s.2.2.2.2)) (S := S) (fun n s m' => n ≤ l.length ∧ s = (2390, B, nI k, nI (192 * k), z_pI n) ∧ z_lF k m m' ∧ (∀ j, n ≤ j → j < l.length → m' 2397 (192 * k + j) = nI (z_sz l j) ∧ m' 2399 (192 * k + j) = -9 ∧ m' 2400 (192 * k + j) = -9) ∧ ∀ j i, j < l.length → z_pa l j = some i → n ≤ i → m' 2398 (192 * k + j) = nI i) (fun _ m' => z_lF k m m' ∧ ∀ j, j < l.length → m' 2397 (192 * k + j) = nI (z_sz l j) ∧ m' 2398 (192 * k + j) = z_oI (z_pa l j) ∧ m' 2399 (192 * k + j) = -9 ∧ m' 2400 (192 * k + j) = -9) ?_ 1000000 l.length (2390, B, nI k, nI (192 * k), nI (l.length - 1)) m ⟨Nat.le_refl _, by rw [show l.length = l.length - 1 + 1 by omega, z_pI_s]; rfl, z_lF.refl k m, fun j h1 h2 => by omega, fun j i hj hpa hn => by have := (z_pa_some hpa).1; omega⟩ (by omega)
  · obtain ⟨r, m', e, h3, h4⟩ := key
    exact ⟨m', e, h3, h4⟩
  · rintro n s m' ⟨hn, rfl, hF, hs, hu⟩
    cases n with
    | zero =>
      refine Or.inr ⟨(), z_up m' 2398 (192 * k) (-1), ?_, hF.up (by omega) (by omega), fun j hj => ?_⟩
      · dsimp only
        unfold f224_22b f224_122
        simp (disch := ((try simp only [true_or, or_true, hM.k, hM.k2391, hM.k2392, hM.k2393, hM.k2394, hM.k2395, hM.k2396, hM.k2397, hM.k2398, hM.k2399, hM.k2400, hM.k2401, hM.k2402, hM.k2403, hM.k2404, hM.k2405, hM.k2406, hM.k2407, hM.k2408, hM.k2409, hM.k2410, hM.k2411, hM.k2412, hM.k2413, hM.k2414, hM.k2415, hM.k2416, hM.k2417, hM.k2418, hM.k2419, hM.k2420, hM.k2421, hM.k2422, hM.k2423, hM.l2391, hM.l2392, hM.l2393, hM.l2394, hM.l2395, hM.l2396, hM.l2397, hM.l2398, hM.l2399, hM.l2400, hM.l2401, hM.l2402, hM.l2403, hM.l2404, hM.l2405, hM.l2406, hM.l2407, hM.l2408, hM.l2409, hM.l2410, hM.l2411, hM.l2412, hM.l2413, hM.l2414, hM.l2415, hM.l2416, hM.l2417, hM.l2418, hM.l2419, hM.l2420, hM.l2421, hM.l2422, hM.l2423]) <;> (try omega))) only [↓reduceIte, ↓z_ite, ↓zR, ↓zB_R, ↓zB_B, ↓zB_ite, ↓zB_gI, ↓zB_pI, ↓zB_pZ, ↓zB_aK, ↓zB_G, ↓zB_lI, ↓zB_lZ, ↓zB_wI, ↓zB_wZ, ↓zB_lIl, ↓zB_wIl, zB_pI, zB_pZ, zB_lI, zB_lZ, zB_wI, zB_wZ, z_addl, z_ladd, z_mull, z_lmul, nI_add, z_subl, Nat.not_lt_zero, z_10, z_01, z_bitc, z_b0, z_b1, ↓zB_Gb, ↓zB_G0, ↓zB_G1, z_eql, z_leq, z_ltl, z_llt, z_eq, z_lt, z_m1lt, hM.k, hM.k2391, hM.k2392, hM.k2393, hM.k2394, hM.k2395, hM.k2396, hM.k2397, hM.k2398, hM.k2399, hM.k2400, hM.k2401, hM.k2402, hM.k2403, hM.k2404, hM.k2405, hM.k2406, hM.k2407, hM.k2408, hM.k2409, hM.k2410, hM.k2411, hM.k2412, hM.k2413, hM.k2414, hM.k2415, hM.k2416, hM.k2417, hM.k2418, hM.k2419, hM.k2420, hM.k2421, hM.k2422, hM.k2423, hM.l2391, hM.l2392, hM.l2393, hM.l2394, hM.l2395, hM.l2396, hM.l2397, hM.l2398, hM.l2399, hM.l2400, hM.l2401, hM.l2402, hM.l2403, hM.l2404, hM.l2405, hM.l2406, hM.l2407, hM.l2408, hM.l2409, hM.l2410, hM.l2411, hM.l2412, hM.l2413, hM.l2414, hM.l2415, hM.l2416, hM.l2417, hM.l2418, hM.l2419, hM.l2420, hM.l2421, hM.l2422, hM.l2423, ↓hM.g1, ↓hM.g5, ↓hM.g6, ↓hM.g7, ↓hM.g8, ↓hM.g9, ↓hM.g10, ↓hM.g11, ↓hM.g12, ↓hM.g13, ↓hM.g14, ↓hM.g16, ↓hM.g17, ↓hM.g18, ↓hM.g19, ↓hM.g21, ↓hM.g22, ↓hM.g23, ↓hM.g24, ↓hM.g25, ↓hM.g27, ↓hM.g28, ↓hM.g30, ↓hM.g31, ↓hM.g32, ↓hM.g36, ↓hM.g37, ↓hM.g39, ↓hM.g40, ↓hM.g41, ↓hM.g43, ↓hM.g45, ↓hM.g46, z_pI_0, z_m1l]
      · obtain ⟨h1, h2, h3⟩ := hs j (Nat.zero_le _) hj
        rw [z_up_row (by decide), z_up_row (show (2399 : Nat) ≠ 2398 by decide), z_up_row (show (2400 : Nat) ≠ 2398 by decide)]
        refine ⟨h1, ?_, h2, h3⟩
        rcases Nat.eq_zero_or_pos j with h0 | h0
        · subst h0
          rw [Nat.add_zero, z_up_s, z_pa_0]; rfl
        · obtain ⟨i, hi⟩ := z_pa_ex hw.1 h0 hj
          rw [z_up_b (by omega), hu j i hj hi (Nat.zero_le _), hi]; rfl
    | succ i =>
      have hi : i < l.length := by omega
      have hpl := z_p_lt hw.1 hi
      -- the parts of the node i
      have inner := z_loopI (f := fun s => f224_36b (s.1) (s.2.1) (s.2.2.1) (s.2.2.2.1) (s.2.2.2.2.1) (s.2.2.2.2.2.1) (s.2.2.2.2.2.2)) (S := S) (fun n s m2 => ∃ q, q ≤ z_p l i ∧ n = z_p l i - q ∧ s = (2390, B, nI k, nI (192 * k), nI i, nI (z_pt l i q), nI q) ∧ z_lF k m m2 ∧ (∀ j, i + 1 ≤ j → j < l.length → m2 2397 (192 * k + j) = nI (z_sz l j) ∧ m2 2399 (192 * k + j) = -9 ∧ m2 2400 (192 * k + j) = -9) ∧ (∀ j i', j < l.length → z_pa l j = some i' → i + 1 ≤ i' → m2 2398 (192 * k + j) = nI i') ∧ ∀ q', q' < q → m2 2398 (192 * k + z_pt l i q') = nI i) (fun r m2 => r = .inl (2390, B, nI k, nI (192 * k), z_pI i) ∧ z_lF k m m2 ∧ (∀ j, i ≤ j → j < l.length → m2 2397 (192 * k + j) = nI (z_sz l j) ∧ m2 2399 (192 * k + j) = -9 ∧ m2 2400 (192 * k + j) = -9) ∧ ∀ j i', j < l.length → z_pa l j = some i' → i ≤ i' → m2 2398 (192 * k + j) = nI i') ?_ 1000000 (z_p l i) (2390, B, nI k, nI (192 * k), nI i, nI (i + 1), 0) m' ⟨0, Nat.zero_le _, rfl, rfl, hF, hs, hu, fun q' hq' => by omega⟩ (by omega)
      · obtain ⟨r, m2, e, rfl, h3, h4, h5⟩ := inner
        refine Or.inl ⟨_, m2, i, ?_, by omega, by omega, rfl, h3, h4, h5⟩
        dsimp only
        unfold f224_22b
        simp (disch := ((try simp only [true_or, or_true, hM.k, hM.k2391, hM.k2392, hM.k2393, hM.k2394, hM.k2395, hM.k2396, hM.k2397, hM.k2398, hM.k2399, hM.k2400, hM.k2401, hM.k2402, hM.k2403, hM.k2404, hM.k2405, hM.k2406, hM.k2407, hM.k2408, hM.k2409, hM.k2410, hM.k2411, hM.k2412, hM.k2413, hM.k2414, hM.k2415, hM.k2416, hM.k2417, hM.k2418, hM.k2419, hM.k2420, hM.k2421, hM.k2422, hM.k2423, hM.l2391, hM.l2392, hM.l2393, hM.l2394, hM.l2395, hM.l2396, hM.l2397, hM.l2398, hM.l2399, hM.l2400, hM.l2401, hM.l2402, hM.l2403, hM.l2404, hM.l2405, hM.l2406, hM.l2407, hM.l2408, hM.l2409, hM.l2410, hM.l2411, hM.l2412, hM.l2413, hM.l2414, hM.l2415, hM.l2416, hM.l2417, hM.l2418, hM.l2419, hM.l2420, hM.l2421, hM.l2422, hM.l2423]) <;> (try omega))) only [↓reduceIte, ↓z_ite, ↓zR, ↓zB_R, ↓zB_B, ↓zB_ite, ↓zB_gI, ↓zB_pI, ↓zB_pZ, ↓zB_aK, ↓zB_G, ↓zB_lI, ↓zB_lZ, ↓zB_wI, ↓zB_wZ, ↓zB_lIl, ↓zB_wIl, zB_pI, zB_pZ, zB_lI, zB_lZ, zB_wI, zB_wZ, z_addl, z_ladd, z_mull, z_lmul, nI_add, z_subl, Nat.not_lt_zero, z_10, z_01, z_bitc, z_b0, z_b1, ↓zB_Gb, ↓zB_G0, ↓zB_G1, z_eql, z_leq, z_ltl, z_llt, z_eq, z_lt, z_m1lt, hM.k, hM.k2391, hM.k2392, hM.k2393, hM.k2394, hM.k2395, hM.k2396, hM.k2397, hM.k2398, hM.k2399, hM.k2400, hM.k2401, hM.k2402, hM.k2403, hM.k2404, hM.k2405, hM.k2406, hM.k2407, hM.k2408, hM.k2409, hM.k2410, hM.k2411, hM.k2412, hM.k2413, hM.k2414, hM.k2415, hM.k2416, hM.k2417, hM.k2418, hM.k2419, hM.k2420, hM.k2421, hM.k2422, hM.k2423, hM.l2391, hM.l2392, hM.l2393, hM.l2394, hM.l2395, hM.l2396, hM.l2397, hM.l2398, hM.l2399, hM.l2400, hM.l2401, hM.l2402, hM.l2403, hM.l2404, hM.l2405, hM.l2406, hM.l2407, hM.l2408, hM.l2409, hM.l2410, hM.l2411, hM.l2412, hM.l2413, hM.l2414, hM.l2415, hM.l2416, hM.l2417, hM.l2418, hM.l2419, hM.l2420, hM.l2421, hM.l2422, hM.l2423, ↓hM.g1, ↓hM.g5, ↓hM.g6, ↓hM.g7, ↓hM.g8, ↓hM.g9, ↓hM.g10, ↓hM.g11, ↓hM.g12, ↓hM.g13, ↓hM.g14, ↓hM.g16, ↓hM.g17, ↓hM.g18, ↓hM.g19, ↓hM.g21, ↓hM.g22, ↓hM.g23, ↓hM.g24, ↓hM.g25, ↓hM.g27, ↓hM.g28, ↓hM.g30, ↓hM.g31, ↓hM.g32, ↓hM.g36, ↓hM.g37, ↓hM.g39, ↓hM.g40, ↓hM.g41, ↓hM.g43, ↓hM.g45, ↓hM.g46, z_pI_s, nI_pos]
        exact e
      · rintro n s m2 ⟨q, hq, rfl, rfl, hF2, hs2, hu2, hp2⟩
        have hmb2 := z_mb_fr (hF2.1 2391 (by decide) (by decide) (by decide) (by decide)) h
        have e222 := f222_sp hmb2 hM hB hk (by rw [hbd]; exact hw) (by rw [hbd]; exact hi)
        rw [hbd] at e222
        have hplen := z_pt_len hw.1 hi q
        have hge := z_pt_ge (l := l) (i := i) q
        rcases Nat.eq_or_lt_of_le hq with h1 | h1
        · refine Or.inr ⟨_, z_up (z_up (z_up m2 2397 (192 * k + i) (nI (z_sz l i))) 2399 (192 * k + i) (-9)) 2400 (192 * k + i) (-9), ?_, rfl, ((hF2.up (by omega) (by omega)).up (by omega) (by omega)).up (by omega) (by omega), fun j h2 h3 => ?_, fun j i' hj hpa hii => ?_⟩
          · have hz : z_pt l i (z_p l i) - i = z_sz l i := by rw [← z_en_eq hi]; unfold z_en; omega
            have hz2 : nI (z_pt l i (z_p l i)) - nI i = nI (z_sz l i) := by rw [pk_sub (by rw [← h1]; omega), hz]
            dsimp only
            unfold f224_36b f224_80
            rw [h1]
            simp (disch := ((try simp only [true_or, or_true, hM.k, hM.k2391, hM.k2392, hM.k2393, hM.k2394, hM.k2395, hM.k2396, hM.k2397, hM.k2398, hM.k2399, hM.k2400, hM.k2401, hM.k2402, hM.k2403, hM.k2404, hM.k2405, hM.k2406, hM.k2407, hM.k2408, hM.k2409, hM.k2410, hM.k2411, hM.k2412, hM.k2413, hM.k2414, hM.k2415, hM.k2416, hM.k2417, hM.k2418, hM.k2419, hM.k2420, hM.k2421, hM.k2422, hM.k2423, hM.l2391, hM.l2392, hM.l2393, hM.l2394, hM.l2395, hM.l2396, hM.l2397, hM.l2398, hM.l2399, hM.l2400, hM.l2401, hM.l2402, hM.l2403, hM.l2404, hM.l2405, hM.l2406, hM.l2407, hM.l2408, hM.l2409, hM.l2410, hM.l2411, hM.l2412, hM.l2413, hM.l2414, hM.l2415, hM.l2416, hM.l2417, hM.l2418, hM.l2419, hM.l2420, hM.l2421, hM.l2422, hM.l2423]) <;> (try omega))) only [↓reduceIte, ↓z_ite, ↓zR, ↓zB_R, ↓zB_B, ↓zB_ite, ↓zB_gI, ↓zB_pI, ↓zB_pZ, ↓zB_aK, ↓zB_G, ↓zB_lI, ↓zB_lZ, ↓zB_wI, ↓zB_wZ, ↓zB_lIl, ↓zB_wIl, zB_pI, zB_pZ, zB_lI, zB_lZ, zB_wI, zB_wZ, z_addl, z_ladd, z_mull, z_lmul, nI_add, z_subl, Nat.not_lt_zero, z_10, z_01, z_bitc, z_b0, z_b1, ↓zB_Gb, ↓zB_G0, ↓zB_G1, z_eql, z_leq, z_ltl, z_llt, z_eq, z_lt, z_m1lt, hM.k, hM.k2391, hM.k2392, hM.k2393, hM.k2394, hM.k2395, hM.k2396, hM.k2397, hM.k2398, hM.k2399, hM.k2400, hM.k2401, hM.k2402, hM.k2403, hM.k2404, hM.k2405, hM.k2406, hM.k2407, hM.k2408, hM.k2409, hM.k2410, hM.k2411, hM.k2412, hM.k2413, hM.k2414, hM.k2415, hM.k2416, hM.k2417, hM.k2418, hM.k2419, hM.k2420, hM.k2421, hM.k2422, hM.k2423, hM.l2391, hM.l2392, hM.l2393, hM.l2394, hM.l2395, hM.l2396, hM.l2397, hM.l2398, hM.l2399, hM.l2400, hM.l2401, hM.l2402, hM.l2403, hM.l2404, hM.l2405, hM.l2406, hM.l2407, hM.l2408, hM.l2409, hM.l2410, hM.l2411, hM.l2412, hM.l2413, hM.l2414, hM.l2415, hM.l2416, hM.l2417, hM.l2418, hM.l2419, hM.l2420, hM.l2421, hM.l2422, hM.l2423, ↓hM.g1, ↓hM.g5, ↓hM.g6, ↓hM.g7, ↓hM.g8, ↓hM.g9, ↓hM.g10, ↓hM.g11, ↓hM.g12, ↓hM.g13, ↓hM.g14, ↓hM.g16, ↓hM.g17, ↓hM.g18, ↓hM.g19, ↓hM.g21, ↓hM.g22, ↓hM.g23, ↓hM.g24, ↓hM.g25, ↓hM.g27, ↓hM.g28, ↓hM.g30, ↓hM.g31, ↓hM.g32, ↓hM.g36, ↓hM.g37, ↓hM.g39, ↓hM.g40, ↓hM.g41, ↓hM.g43, ↓hM.g45, ↓hM.g46, ↓zB_c e222, zB_c e222, Nat.lt_irrefl, hz2, z_pI_e]
          · rcases Nat.eq_or_lt_of_le h2 with h4 | h4
            · subst h4
              rw [z_up_row (by decide), z_up_row (by decide), z_up_s, z_up_row (by decide), z_up_s, z_up_s]
              exact ⟨rfl, rfl, rfl⟩
            · rw [z_up_row (by decide), z_up_row (by decide), z_up_b (by omega), z_up_row (by decide), z_up_b (by omega), z_up_row (by decide), z_up_b (by omega), z_up_row (by decide), z_up_row (by decide)]
              exact hs2 j h4 h3
          · rw [z_up_row (by decide), z_up_row (by decide), z_up_row (by decide)]
            rcases Nat.eq_or_lt_of_le hii with h4 | h4
            · subst h4
              obtain ⟨q', h5, h6⟩ := z_pa_is hw.1 hj hpa
              rw [← h6]; exact hp2 q' (by omega)
            · exact hu2 j i' hj hpa h4
        · have hlt := z_pt_lt hw.1 hi h1
          have hsz := (hs2 _ hge hlt).1
          have h7 : z_pt l i q + z_sz l (z_pt l i q) = z_pt l i (q + 1) := (z_pt_s l i q).symm
          have h8 := z_pt_len hw.1 hi (q + 1)
          have hpa := z_pa_part hw.1 hi h1
          refine Or.inl ⟨_, z_up m2 2398 (192 * k + z_pt l i q) (nI i), z_p l i - (q + 1), ?_, by omega, q + 1, h1, rfl, rfl, hF2.up (by omega) (by omega), fun j h2 h3 => ?_, fun j i' hj hpa2 hii => ?_, fun q' hq' => ?_⟩
          · have h9 : z_up m2 2398 (192 * k + z_pt l i q) (nI i) 2397 (192 * k + z_pt l i q) = nI (z_sz l (z_pt l i q)) := by rw [z_up_a (by decide)]; exact hsz
            dsimp only
            unfold f224_36b
            simp (disch := ((try simp only [true_or, or_true, hM.k, hM.k2391, hM.k2392, hM.k2393, hM.k2394, hM.k2395, hM.k2396, hM.k2397, hM.k2398, hM.k2399, hM.k2400, hM.k2401, hM.k2402, hM.k2403, hM.k2404, hM.k2405, hM.k2406, hM.k2407, hM.k2408, hM.k2409, hM.k2410, hM.k2411, hM.k2412, hM.k2413, hM.k2414, hM.k2415, hM.k2416, hM.k2417, hM.k2418, hM.k2419, hM.k2420, hM.k2421, hM.k2422, hM.k2423, hM.l2391, hM.l2392, hM.l2393, hM.l2394, hM.l2395, hM.l2396, hM.l2397, hM.l2398, hM.l2399, hM.l2400, hM.l2401, hM.l2402, hM.l2403, hM.l2404, hM.l2405, hM.l2406, hM.l2407, hM.l2408, hM.l2409, hM.l2410, hM.l2411, hM.l2412, hM.l2413, hM.l2414, hM.l2415, hM.l2416, hM.l2417, hM.l2418, hM.l2419, hM.l2420, hM.l2421, hM.l2422, hM.l2423]) <;> (try omega))) only [↓reduceIte, ↓z_ite, ↓zR, ↓zB_R, ↓zB_B, ↓zB_ite, ↓zB_gI, ↓zB_pI, ↓zB_pZ, ↓zB_aK, ↓zB_G, ↓zB_lI, ↓zB_lZ, ↓zB_wI, ↓zB_wZ, ↓zB_lIl, ↓zB_wIl, zB_pI, zB_pZ, zB_lI, zB_lZ, zB_wI, zB_wZ, z_addl, z_ladd, z_mull, z_lmul, nI_add, z_subl, Nat.not_lt_zero, z_10, z_01, z_bitc, z_b0, z_b1, ↓zB_Gb, ↓zB_G0, ↓zB_G1, z_eql, z_leq, z_ltl, z_llt, z_eq, z_lt, z_m1lt, hM.k, hM.k2391, hM.k2392, hM.k2393, hM.k2394, hM.k2395, hM.k2396, hM.k2397, hM.k2398, hM.k2399, hM.k2400, hM.k2401, hM.k2402, hM.k2403, hM.k2404, hM.k2405, hM.k2406, hM.k2407, hM.k2408, hM.k2409, hM.k2410, hM.k2411, hM.k2412, hM.k2413, hM.k2414, hM.k2415, hM.k2416, hM.k2417, hM.k2418, hM.k2419, hM.k2420, hM.k2421, hM.k2422, hM.k2423, hM.l2391, hM.l2392, hM.l2393, hM.l2394, hM.l2395, hM.l2396, hM.l2397, hM.l2398, hM.l2399, hM.l2400, hM.l2401, hM.l2402, hM.l2403, hM.l2404, hM.l2405, hM.l2406, hM.l2407, hM.l2408, hM.l2409, hM.l2410, hM.l2411, hM.l2412, hM.l2413, hM.l2414, hM.l2415, hM.l2416, hM.l2417, hM.l2418, hM.l2419, hM.l2420, hM.l2421, hM.l2422, hM.l2423, ↓hM.g1, ↓hM.g5, ↓hM.g6, ↓hM.g7, ↓hM.g8, ↓hM.g9, ↓hM.g10, ↓hM.g11, ↓hM.g12, ↓hM.g13, ↓hM.g14, ↓hM.g16, ↓hM.g17, ↓hM.g18, ↓hM.g19, ↓hM.g21, ↓hM.g22, ↓hM.g23, ↓hM.g24, ↓hM.g25, ↓hM.g27, ↓hM.g28, ↓hM.g30, ↓hM.g31, ↓hM.g32, ↓hM.g36, ↓hM.g37, ↓hM.g39, ↓hM.g40, ↓hM.g41, ↓hM.g43, ↓hM.g45, ↓hM.g46, ↓zB_c e222, zB_c e222, h1, h9, h7]
          · rw [z_up_row (by decide), z_up_row (by decide), z_up_row (by decide)]; exact hs2 j h2 h3
          · rcases Nat.decEq j (z_pt l i q) with h4 | h4
            · rw [z_up_b (by omega)]; exact hu2 j i' hj hpa2 hii
            · rw [h4, hpa] at hpa2; cases hpa2; omega
          · rcases Nat.lt_succ_iff_lt_or_eq.mp hq' with h4 | h4
            · have h5 := z_pt_mono (l := l) (i := i) (show q' + 1 ≤ q from h4)
              have h6 := z_en_gt (z_pt_lt hw.1 hi (show q' < z_p l i by omega))
              rw [z_pt_s] at h5
              rw [z_up_b (by omega)]; exact hp2 q' h4
            · rw [h4, z_up_s]
end
