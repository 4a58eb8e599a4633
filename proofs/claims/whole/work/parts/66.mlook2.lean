/-! the reference's look: what is bound, types of nodes -/
/-- a type, or that there is none -/
def z_tk (P : z_Pg) (t : Int32) : Prop := t = -3 ∨ t = -2 ∨ t = -1 ∨ ∃ c, c < z_nc P ∧ t = nI c
theorem z_tk.tw {P : z_Pg} {t : Int32} (h : z_tk P t) : z_tw P t := by
  rcases h with rfl | rfl | rfl | h
  · exact Or.inl (by decide)
  · exact Or.inl (by decide)
  · exact Or.inl (by decide)
  · exact Or.inr h
theorem z_tk.n9 {P : z_Pg} {t : Int32} (h : z_tk P t) (h6 : z_nc P ≤ 6) : t ≠ -9 := by
  rcases h with rfl | rfl | rfl | ⟨c, hc, rfl⟩
  · decide
  · decide
  · decide
  · have : ∀ c, c < 6 → nI c ≠ -9 := by decide
    exact this c (by omega)
theorem z_tk_ty' {P : z_Pg} {t : Int32} (h : z_ty' P t) : z_tk P t := by
  rcases h with rfl | rfl | h
  · exact Or.inr (Or.inl rfl)
  · exact Or.inr (Or.inr (Or.inl rfl))
  · exact Or.inr (Or.inr (Or.inr h))
theorem z_tk_ty {P : z_Pg} {t : Int32} (h : z_ty P t) : z_tk P t := z_tk_ty' (Or.inr h)
section
variable {S : z_S} {m : z_m} {b k i : Nat} {P : z_Pg} {B : Int32} {l : List z_N}
theorem z_tb_tk (hw : z_wf P) (hk : k < z_nm P) {T : Nat → Int32} {n : Nat} (hn : n < 16) (h : ∀ j, j < i → i < z_en l j → z_en l (j + 1) ≤ i → z_k l j = 5 → z_v l j = nI n → z_le l i (nI n) = some j → z_tk P (T (j + 1))) : z_tk P (z_tb P k l T i (nI n)) := by
  unfold z_tb
  split
  · rename_i j e
    obtain ⟨h1, h2, h3, h4, h5⟩ := z_le_some e
    exact h j h1 h4 h5 h2 h3 e
  · split
    · rename_i g; exact z_tk_ty' (z_bd_ty hw hk (j := 0) g.1)
    · split
      · rename_i g; exact z_tk_ty' (z_bd_ty hw hk (j := 1) g.1)
      · split
        · rename_i c e
          rw [nI_clamp (by omega)] at e ⊢
          obtain ⟨h1, h2, h3⟩ := z_fc_some e
          have := (z_own_e hw hk).1
          exact z_tk_ty (z_fld_ty hw (by omega) hn h3).1
        · exact Or.inl rfl
theorem z_st_tk (hw : z_wf P) (hk : k < z_nm P) (hB : z_wB (z_nc P) l) (hi : i < l.length) {T : Nat → Int32} (hT : ∀ q, q < z_p l i → z_tk P (T (z_pt l i q))) (hL : (z_k l i = 1 ∨ z_k l i = 6) → ∀ j, z_le l i (z_v l i) = some j → z_tk P (T (j + 1))) : z_tk P (z_st P k l T i) := by
  have h6 := hw.1.1
  have n3 : z_tk P (-3) := Or.inl rfl
  have n2 : z_tk P (-2) := Or.inr (Or.inl rfl)
  have n1 : z_tk P (-1) := Or.inr (Or.inr (Or.inl rfl))
  have jn : ∀ t w, z_tk P t → z_tk P w → z_tk P (z_jn P t w) := by
    intro t w h1 h2
    unfold z_jn
    split
    · exact h1
    · split
      · exact h2
      · exact n3
  have acc : ∀ t w n put, (∃ j, j < 16 ∧ n = nI j) → z_tk P t → z_tk P (z_tA P t w n put) := by
    rintro t w n put ⟨j, hj, rfl⟩ ht
    unfold z_tA
    split
    · rename_i c e
      unfold z_ac at e
      split at e
      · cases e
      · rename_i g
        rcases ht.tw with h1 | ⟨d, hd, rfl⟩
        · exact absurd h1 g
        · rw [nI_clamp (by omega), nI_clamp (by omega)] at e
          obtain ⟨h1, h2, h3⟩ := z_fc_some e
          have := z_tk_ty (z_fld_ty hw (c := c) (by omega) hj h3).1
          rw [nI_clamp (by omega)]
          split
          · split
            · exact this
            · exact n3
          · exact this
    · exact n3
  rcases z_kc hB hi with g | g | g | g | g | g | g | g | g | g | g | g | g | g
  · rw [z_st_0 g]; exact n1
  · obtain ⟨n, hn, en⟩ := z_v_nm hB hi (Or.inl g)
    have hL := hL (Or.inl g)
    rw [en] at hL
    rw [z_st_1 g, en]; exact z_tb_tk hw hk hn (fun j _ _ _ _ _ e => hL j e)
  · rw [z_st_2 g, (z_own_e hw hk).2]; exact Or.inr (Or.inr (Or.inr ⟨_, (z_own_e hw hk).1, rfl⟩))
  · rw [z_st_3 g]; exact acc _ _ _ _ (z_v_nm hB hi (by simp [g])) (hT 0 (by rw [z_p_3 g]; decide))
  · rw [z_st_4 g]; exact acc _ _ _ _ (z_v_nm hB hi (by simp [g])) (hT 0 (by rw [z_p_4 g]; decide))
  · rw [z_st_5 g]; exact hT 1 (by rw [z_p_5 g]; decide)
  · obtain ⟨n, hn, en⟩ := z_v_nm hB hi (by simp [g])
    have hL := hL (Or.inr g)
    rw [en] at hL
    rw [z_st_6 g, en]
    split
    · exact z_tb_tk hw hk hn (fun j _ _ _ _ _ e => hL j e)
    · exact n3
  · rw [z_st_7 g]
    unfold z_tC
    split
    · rename_i q e
      unfold z_cl at e
      split at e
      · cases e
      · rename_i g2
        rcases (hT 0 (by rcases z_pn_ka hB hi g with ⟨_, h2⟩ | ⟨_, h2⟩ | ⟨_, h2⟩ <;> rw [h2] <;> decide)).tw with h1 | ⟨d, hd, e2⟩
        · exact absurd h1 g2
        · rw [e2, nI_clamp (by omega)] at e
          have h3 := ((z_fm_some hw hd).mp e).1
          split
          · exact z_tk_ty (hw.2.2.2.1 q h3).2.2.2.2.2
          · exact n3
    · exact n3
  · rw [z_st_8 g]
    obtain ⟨n, hn, e⟩ := (z_wN_at hB hi).2.2.2 g
    exact Or.inr (Or.inr (Or.inr ⟨n, hn, e⟩))
  · rw [z_st_9 g]; exact hT 1 (by rw [z_p_9 g]; decide)
  · rw [z_st_10 g]
    split
    · exact jn _ _ (hT 1 (by rw [z_p_10 g]; decide)) (hT 2 (by rw [z_p_10 g]; decide))
    · exact n3
  · rw [z_st_11 g]
    split
    · exact n1
    · exact n3
  · rw [z_st_12 g]
    split
    · exact n2
    · exact n3
  · rw [z_st_13 g]; exact jn _ _ (hT 0 (by rw [z_p_13 g]; decide)) (hT 1 (by rw [z_p_13 g]; decide))
theorem f227_sp (h : z_mb m b P) (hM : z_MS S) (hw : z_wpar P) (hB : B = nI b) {t w : Int32} (ht : z_tw P t) (hw2 : z_tw P w) : f227 2390 B t w (z_hp S m) = some (z_b (z_fit P t w), z_hp S m) := by
  have h6 := hw.1
  unfold f227 f227_29 f227_33 f227_34 z_fit
  by_cases g1 : t = -2
  · simp (disch := ((try simp only [true_or, or_true]) <;> (try omega))) only [↓reduceIte, ↓z_ite, ↓zR, ↓zB_R, ↓zB_B, ↓zB_ite, ↓zB_gI, ↓zB_pI, ↓zB_pZ, ↓zB_aK, ↓zB_G, ↓zB_lI, ↓zB_lZ, ↓zB_wI, ↓zB_wZ, ↓zB_lIl, ↓zB_wIl, zB_pI, zB_pZ, zB_lI, zB_lZ, zB_wI, zB_wZ, z_addl, z_ladd, z_mull, z_lmul, nI_add, z_subl, Nat.not_lt_zero, z_10, z_01, z_bitc, z_b0, z_b1, ↓zB_Gb, ↓zB_G0, ↓zB_G1, z_eql, z_leq, z_ltl, z_llt, z_eq, z_lt, z_m1lt, g1]
    simp [z_b]
  by_cases g2 : t = w
  · simp (disch := ((try simp only [true_or, or_true]) <;> (try omega))) only [↓reduceIte, ↓z_ite, ↓zR, ↓zB_R, ↓zB_B, ↓zB_ite, ↓zB_gI, ↓zB_pI, ↓zB_pZ, ↓zB_aK, ↓zB_G, ↓zB_lI, ↓zB_lZ, ↓zB_wI, ↓zB_wZ, ↓zB_lIl, ↓zB_wIl, zB_pI, zB_pZ, zB_lI, zB_lZ, zB_wI, zB_wZ, z_addl, z_ladd, z_mull, z_lmul, nI_add, z_subl, Nat.not_lt_zero, z_10, z_01, z_bitc, z_b0, z_b1, ↓zB_Gb, ↓zB_G0, ↓zB_G1, z_eql, z_leq, z_ltl, z_llt, z_eq, z_lt, z_m1lt, g1, g2]
    simp [z_b]
  rcases ht with g3 | ⟨c, hc, rfl⟩
  · simp (disch := ((try simp only [true_or, or_true]) <;> (try omega))) only [↓reduceIte, ↓z_ite, ↓zR, ↓zB_R, ↓zB_B, ↓zB_ite, ↓zB_gI, ↓zB_pI, ↓zB_pZ, ↓zB_aK, ↓zB_G, ↓zB_lI, ↓zB_lZ, ↓zB_wI, ↓zB_wZ, ↓zB_lIl, ↓zB_wIl, zB_pI, zB_pZ, zB_lI, zB_lZ, zB_wI, zB_wZ, z_addl, z_ladd, z_mull, z_lmul, nI_add, z_subl, Nat.not_lt_zero, z_10, z_01, z_bitc, z_b0, z_b1, ↓zB_Gb, ↓zB_G0, ↓zB_G1, z_eql, z_leq, z_ltl, z_llt, z_eq, z_lt, z_m1lt, g1, g2, g3]
    have : ¬ 0 ≤ t := by rw [Int32.not_le]; exact g3
    simp [g1, g2, this, z_b]
  rcases hw2 with g4 | ⟨d, hd, rfl⟩
  · simp (disch := ((try simp only [true_or, or_true]) <;> (try omega))) only [↓reduceIte, ↓z_ite, ↓zR, ↓zB_R, ↓zB_B, ↓zB_ite, ↓zB_gI, ↓zB_pI, ↓zB_pZ, ↓zB_aK, ↓zB_G, ↓zB_lI, ↓zB_lZ, ↓zB_wI, ↓zB_wZ, ↓zB_lIl, ↓zB_wIl, zB_pI, zB_pZ, zB_lI, zB_lZ, zB_wI, zB_wZ, z_addl, z_ladd, z_mull, z_lmul, nI_add, z_subl, Nat.not_lt_zero, z_10, z_01, z_bitc, z_b0, z_b1, ↓zB_Gb, ↓zB_G0, ↓zB_G1, z_eql, z_leq, z_ltl, z_llt, z_eq, z_lt, z_m1lt, g1, g2, g4]
    have : ¬ 0 ≤ w := by rw [Int32.not_le]; exact g4
    simp [g1, g2, this, z_b]
  have e208 := f208_sp h hM hw hB hc (show d < 100 by omega)
  rw [nI_clamp (by omega), nI_clamp (by omega)]
  have g5 : 0 ≤ nI c := nI_pos' (by omega)
  have g6 : 0 ≤ nI d := nI_pos' (by omega)
  simp (disch := ((try simp only [true_or, or_true, hM.k, hM.k2391, hM.k2392, hM.k2393, hM.k2394, hM.k2395, hM.k2396, hM.k2397, hM.k2398, hM.k2399, hM.k2400, hM.k2401, hM.k2402, hM.k2403, hM.k2404, hM.k2405, hM.k2406, hM.k2407, hM.k2408, hM.k2409, hM.k2410, hM.k2411, hM.k2412, hM.k2413, hM.k2414, hM.k2415, hM.k2416, hM.k2417, hM.k2418, hM.k2419, hM.k2420, hM.k2421, hM.k2422, hM.k2423, hM.l2391, hM.l2392, hM.l2393, hM.l2394, hM.l2395, hM.l2396, hM.l2397, hM.l2398, hM.l2399, hM.l2400, hM.l2401, hM.l2402, hM.l2403, hM.l2404, hM.l2405, hM.l2406, hM.l2407, hM.l2408, hM.l2409, hM.l2410, hM.l2411, hM.l2412, hM.l2413, hM.l2414, hM.l2415, hM.l2416, hM.l2417, hM.l2418, hM.l2419, hM.l2420, hM.l2421, hM.l2422, hM.l2423]) <;> (try omega))) only [↓reduceIte, ↓z_ite, ↓zR, ↓zB_R, ↓zB_B, ↓zB_ite, ↓zB_gI, ↓zB_pI, ↓zB_pZ, ↓zB_aK, ↓zB_G, ↓zB_lI, ↓zB_lZ, ↓zB_wI, ↓zB_wZ, ↓zB_lIl, ↓zB_wIl, zB_pI, zB_pZ, zB_lI, zB_lZ, zB_wI, zB_wZ, z_addl, z_ladd, z_mull, z_lmul, nI_add, z_subl, Nat.not_lt_zero, z_10, z_01, z_bitc, z_b0, z_b1, ↓zB_Gb, ↓zB_G0, ↓zB_G1, z_eql, z_leq, z_ltl, z_llt, z_eq, z_lt, z_m1lt, hM.k, hM.k2391, hM.k2392, hM.k2393, hM.k2394, hM.k2395, hM.k2396, hM.k2397, hM.k2398, hM.k2399, hM.k2400, hM.k2401, hM.k2402, hM.k2403, hM.k2404, hM.k2405, hM.k2406, hM.k2407, hM.k2408, hM.k2409, hM.k2410, hM.k2411, hM.k2412, hM.k2413, hM.k2414, hM.k2415, hM.k2416, hM.k2417, hM.k2418, hM.k2419, hM.k2420, hM.k2421, hM.k2422, hM.k2423, hM.l2391, hM.l2392, hM.l2393, hM.l2394, hM.l2395, hM.l2396, hM.l2397, hM.l2398, hM.l2399, hM.l2400, hM.l2401, hM.l2402, hM.l2403, hM.l2404, hM.l2405, hM.l2406, hM.l2407, hM.l2408, hM.l2409, hM.l2410, hM.l2411, hM.l2412, hM.l2413, hM.l2414, hM.l2415, hM.l2416, hM.l2417, hM.l2418, hM.l2419, hM.l2420, hM.l2421, hM.l2422, hM.l2423, ↓hM.g1, ↓hM.g5, ↓hM.g6, ↓hM.g7, ↓hM.g8, ↓hM.g9, ↓hM.g10, ↓hM.g11, ↓hM.g12, ↓hM.g13, ↓hM.g14, ↓hM.g16, ↓hM.g17, ↓hM.g18, ↓hM.g19, ↓hM.g21, ↓hM.g22, ↓hM.g23, ↓hM.g24, ↓hM.g25, ↓hM.g27, ↓hM.g28, ↓hM.g30, ↓hM.g31, ↓hM.g32, ↓hM.g36, ↓hM.g37, ↓hM.g39, ↓hM.g40, ↓hM.g41, ↓hM.g43, ↓hM.g45, ↓hM.g46, g1, g2, ↓zB_c e208, zB_c e208]
  cases z_blw P c d <;> simp [g1, g2, g5, g6, z_b]
theorem f230_sp (h : z_mb m b P) (hM : z_MS S) (hw : z_wpar P) (hB : B = nI b) {t w : Int32} (ht : z_tw P t) (hw2 : z_tw P w) : f230 2390 B t w (z_hp S m) = some (z_jn P t w, z_hp S m) := by
  unfold f230 f230_30 z_jn
  simp (disch := ((try simp only [true_or, or_true, hM.k, hM.k2391, hM.k2392, hM.k2393, hM.k2394, hM.k2395, hM.k2396, hM.k2397, hM.k2398, hM.k2399, hM.k2400, hM.k2401, hM.k2402, hM.k2403, hM.k2404, hM.k2405, hM.k2406, hM.k2407, hM.k2408, hM.k2409, hM.k2410, hM.k2411, hM.k2412, hM.k2413, hM.k2414, hM.k2415, hM.k2416, hM.k2417, hM.k2418, hM.k2419, hM.k2420, hM.k2421, hM.k2422, hM.k2423, hM.l2391, hM.l2392, hM.l2393, hM.l2394, hM.l2395, hM.l2396, hM.l2397, hM.l2398, hM.l2399, hM.l2400, hM.l2401, hM.l2402, hM.l2403, hM.l2404, hM.l2405, hM.l2406, hM.l2407, hM.l2408, hM.l2409, hM.l2410, hM.l2411, hM.l2412, hM.l2413, hM.l2414, hM.l2415, hM.l2416, hM.l2417, hM.l2418, hM.l2419, hM.l2420, hM.l2421, hM.l2422, hM.l2423]) <;> (try omega))) only [↓reduceIte, ↓z_ite, ↓zR, ↓zB_R, ↓zB_B, ↓zB_ite, ↓zB_gI, ↓zB_pI, ↓zB_pZ, ↓zB_aK, ↓zB_G, ↓zB_lI, ↓zB_lZ, ↓zB_wI, ↓zB_wZ, ↓zB_lIl, ↓zB_wIl, zB_pI, zB_pZ, zB_lI, zB_lZ, zB_wI, zB_wZ, z_addl, z_ladd, z_mull, z_lmul, nI_add, z_subl, Nat.not_lt_zero, z_10, z_01, z_bitc, z_b0, z_b1, ↓zB_Gb, ↓zB_G0, ↓zB_G1, z_eql, z_leq, z_ltl, z_llt, z_eq, z_lt, z_m1lt, hM.k, hM.k2391, hM.k2392, hM.k2393, hM.k2394, hM.k2395, hM.k2396, hM.k2397, hM.k2398, hM.k2399, hM.k2400, hM.k2401, hM.k2402, hM.k2403, hM.k2404, hM.k2405, hM.k2406, hM.k2407, hM.k2408, hM.k2409, hM.k2410, hM.k2411, hM.k2412, hM.k2413, hM.k2414, hM.k2415, hM.k2416, hM.k2417, hM.k2418, hM.k2419, hM.k2420, hM.k2421, hM.k2422, hM.k2423, hM.l2391, hM.l2392, hM.l2393, hM.l2394, hM.l2395, hM.l2396, hM.l2397, hM.l2398, hM.l2399, hM.l2400, hM.l2401, hM.l2402, hM.l2403, hM.l2404, hM.l2405, hM.l2406, hM.l2407, hM.l2408, hM.l2409, hM.l2410, hM.l2411, hM.l2412, hM.l2413, hM.l2414, hM.l2415, hM.l2416, hM.l2417, hM.l2418, hM.l2419, hM.l2420, hM.l2421, hM.l2422, hM.l2423, ↓hM.g1, ↓hM.g5, ↓hM.g6, ↓hM.g7, ↓hM.g8, ↓hM.g9, ↓hM.g10, ↓hM.g11, ↓hM.g12, ↓hM.g13, ↓hM.g14, ↓hM.g16, ↓hM.g17, ↓hM.g18, ↓hM.g19, ↓hM.g21, ↓hM.g22, ↓hM.g23, ↓hM.g24, ↓hM.g25, ↓hM.g27, ↓hM.g28, ↓hM.g30, ↓hM.g31, ↓hM.g32, ↓hM.g36, ↓hM.g37, ↓hM.g39, ↓hM.g40, ↓hM.g41, ↓hM.g43, ↓hM.g45, ↓hM.g46, ↓zB_c (f227_sp h hM hw hB hw2 ht), zB_c (f227_sp h hM hw hB hw2 ht), ↓zB_c (f227_sp h hM hw hB ht hw2), zB_c (f227_sp h hM hw hB ht hw2)]
  cases z_fit P w t <;> cases z_fit P t w <;> simp
/-- what is around is known -/
def z_mu (m : z_m) (k : Nat) (l : List z_N) : Prop := ∀ j, j < l.length → m 2398 (192 * k + j) = z_oI (z_pa l j)
/-- boundOf -/
theorem f225_sp (h : z_mb m b P) (hM : z_MS S) (hw : z_wf P) (hB : B = nI b) (hk : k < z_nm P) (hu : z_mu m k (z_bd P k)) {p n : Nat} (hp : p < (z_bd P k).length) (hn : n < 16) : f225 2390 B (nI k) (nI p) (nI n) (z_hp S m) = some (z_bv P k (z_bd P k) p (nI n), z_hp S m) := by
  have h24 := h.2.2.1
  have hlen := (h.2.2.2.2.2.2 k hk).2.2.1
  have hwB := hw.2.2.2.2.1 k hk
  have ht := hwB.1
  have hH := hw.2.2.2.1 k hk
  have e1 := h.e1 hM hB hk
  have e3 := h.e3 hM hB hk
  have e4 := h.e4 hM hB hk
  have e5 := h.e5 hM hB hk
  have ho := z_own_e hw hk
  have e211 := f211_sp h hM hw.1 hB ho.1 hn
  unfold f225
  simp (disch := ((try simp only [true_or, or_true]) <;> (try omega))) only [↓reduceIte, ↓z_ite, ↓zR, ↓zB_R, ↓zB_B, ↓zB_ite, ↓zB_gI, ↓zB_pI, ↓zB_pZ, ↓zB_aK, ↓zB_G, ↓zB_lI, ↓zB_lZ, ↓zB_wI, ↓zB_wZ, ↓zB_lIl, ↓zB_wIl, zB_pI, zB_pZ, zB_lI, zB_lZ, zB_wI, zB_wZ, z_addl, z_ladd, z_mull, z_lmul, nI_add, z_subl, Nat.not_lt_zero, z_10, z_01, z_bitc, z_b0, z_b1, ↓zB_Gb, ↓zB_G0, ↓zB_G1, z_eql, z_leq, z_ltl, z_llt, z_eq, z_lt, z_m1lt]
  unfold f225_10
  have key := z_loopI (f := fun s => f225_10b (s.1) (s.2.1) (s.2.2.1) (s.2.2.2.1) (s.2.2.2.2.1) (s.2.2.2.2.2)) (S := S) (fun q s m' => m' = m ∧ q ≤ p ∧ p < z_en (z_bd P k) q ∧ s = (2390, B, nI k, nI n, nI (192 * k), nI q) ∧ z_le (z_bd P k) p (nI n) = z_lst (fun i => z_k (z_bd P k) i == 5 && (z_v (z_bd P k) i == nI n && (decide (p < z_en (z_bd P k) i) && decide (z_en (z_bd P k) (i + 1) ≤ p)))) q) (fun r m' => m' = m ∧ r = z_bv P k (z_bd P k) p (nI n)) ?_ 1000000 p (2390, B, nI k, nI n, nI (192 * k), nI p) m ⟨rfl, Nat.le_refl _, z_en_gt hp, rfl, rfl⟩ (by omega)
  · obtain ⟨r, m', e, rfl, rfl⟩ := key
    exact e
  · rintro q s m' ⟨rfl, hq, hpq, rfl, hle⟩
    have hup := hu q (by omega)
    dsimp only
    cases hpa : z_pa (z_bd P k) q with
    | none =>
      rw [hpa] at hup
      have hle2 : z_le (z_bd P k) p (nI n) = none := by
        rw [hle, z_lst_none]
        intro i hi
        have := z_lst_none.mp hpa i hi
        simp only [decide_eq_false_iff_not] at this
        have h9 : ¬ p < z_en (z_bd P k) i := by omega
        simp [h9]
      refine Or.inr ⟨z_bv P k (z_bd P k) p (nI n), m', ?_, rfl, rfl⟩
      unfold f225_10b f225_80 f225_108 f225_129 f225_162
      unfold z_bv
      rw [hle2]
      dsimp only
      rw [nI_clamp (show n < 2 ^ 31 by omega)]
      have hc2 := hH.2.2.2.1
      have : z_cnt P k = 0 ∨ z_cnt P k = 1 ∨ z_cnt P k = 2 := by omega
      by_cases g1 : 0 < z_cnt P k ∧ z_hd P k 4 = nI n
      · simp (disch := ((try simp only [true_or, or_true, hM.k, hM.k2391, hM.k2392, hM.k2393, hM.k2394, hM.k2395, hM.k2396, hM.k2397, hM.k2398, hM.k2399, hM.k2400, hM.k2401, hM.k2402, hM.k2403, hM.k2404, hM.k2405, hM.k2406, hM.k2407, hM.k2408, hM.k2409, hM.k2410, hM.k2411, hM.k2412, hM.k2413, hM.k2414, hM.k2415, hM.k2416, hM.k2417, hM.k2418, hM.k2419, hM.k2420, hM.k2421, hM.k2422, hM.k2423, hM.l2391, hM.l2392, hM.l2393, hM.l2394, hM.l2395, hM.l2396, hM.l2397, hM.l2398, hM.l2399, hM.l2400, hM.l2401, hM.l2402, hM.l2403, hM.l2404, hM.l2405, hM.l2406, hM.l2407, hM.l2408, hM.l2409, hM.l2410, hM.l2411, hM.l2412, hM.l2413, hM.l2414, hM.l2415, hM.l2416, hM.l2417, hM.l2418, hM.l2419, hM.l2420, hM.l2421, hM.l2422, hM.l2423]) <;> (try omega))) only [↓reduceIte, ↓z_ite, ↓zR, ↓zB_R, ↓zB_B, ↓zB_ite, ↓zB_gI, ↓zB_pI, ↓zB_pZ, ↓zB_aK, ↓zB_G, ↓zB_lI, ↓zB_lZ, ↓zB_wI, ↓zB_wZ, ↓zB_lIl, ↓zB_wIl, zB_pI, zB_pZ, zB_lI, zB_lZ, zB_wI, zB_wZ, z_addl, z_ladd, z_mull, z_lmul, nI_add, z_subl, Nat.not_lt_zero, z_10, z_01, z_bitc, z_b0, z_b1, ↓zB_Gb, ↓zB_G0, ↓zB_G1, z_eql, z_leq, z_ltl, z_llt, z_eq, z_lt, z_m1lt, hM.k, hM.k2391, hM.k2392, hM.k2393, hM.k2394, hM.k2395, hM.k2396, hM.k2397, hM.k2398, hM.k2399, hM.k2400, hM.k2401, hM.k2402, hM.k2403, hM.k2404, hM.k2405, hM.k2406, hM.k2407, hM.k2408, hM.k2409, hM.k2410, hM.k2411, hM.k2412, hM.k2413, hM.k2414, hM.k2415, hM.k2416, hM.k2417, hM.k2418, hM.k2419, hM.k2420, hM.k2421, hM.k2422, hM.k2423, hM.l2391, hM.l2392, hM.l2393, hM.l2394, hM.l2395, hM.l2396, hM.l2397, hM.l2398, hM.l2399, hM.l2400, hM.l2401, hM.l2402, hM.l2403, hM.l2404, hM.l2405, hM.l2406, hM.l2407, hM.l2408, hM.l2409, hM.l2410, hM.l2411, hM.l2412, hM.l2413, hM.l2414, hM.l2415, hM.l2416, hM.l2417, hM.l2418, hM.l2419, hM.l2420, hM.l2421, hM.l2422, hM.l2423, ↓hM.g1, ↓hM.g5, ↓hM.g6, ↓hM.g7, ↓hM.g8, ↓hM.g9, ↓hM.g10, ↓hM.g11, ↓hM.g12, ↓hM.g13, ↓hM.g14, ↓hM.g16, ↓hM.g17, ↓hM.g18, ↓hM.g19, ↓hM.g21, ↓hM.g22, ↓hM.g23, ↓hM.g24, ↓hM.g25, ↓hM.g27, ↓hM.g28, ↓hM.g30, ↓hM.g31, ↓hM.g32, ↓hM.g36, ↓hM.g37, ↓hM.g39, ↓hM.g40, ↓hM.g41, ↓hM.g43, ↓hM.g45, ↓hM.g46, hup, z_oI_n, ↓zB_c e3, zB_c e3, hc2.2, g1.1, ↓zB_c e4, zB_c e4, g1.2]
        simp [g1.1]
      · by_cases g2 : 1 < z_cnt P k ∧ z_hd P k 5 = nI n
        · have g1' : ¬ z_hd P k 4 = nI n := fun g => g1 ⟨by omega, g⟩
          simp (disch := ((try simp only [true_or, or_true, hM.k, hM.k2391, hM.k2392, hM.k2393, hM.k2394, hM.k2395, hM.k2396, hM.k2397, hM.k2398, hM.k2399, hM.k2400, hM.k2401, hM.k2402, hM.k2403, hM.k2404, hM.k2405, hM.k2406, hM.k2407, hM.k2408, hM.k2409, hM.k2410, hM.k2411, hM.k2412, hM.k2413, hM.k2414, hM.k2415, hM.k2416, hM.k2417, hM.k2418, hM.k2419, hM.k2420, hM.k2421, hM.k2422, hM.k2423, hM.l2391, hM.l2392, hM.l2393, hM.l2394, hM.l2395, hM.l2396, hM.l2397, hM.l2398, hM.l2399, hM.l2400, hM.l2401, hM.l2402, hM.l2403, hM.l2404, hM.l2405, hM.l2406, hM.l2407, hM.l2408, hM.l2409, hM.l2410, hM.l2411, hM.l2412, hM.l2413, hM.l2414, hM.l2415, hM.l2416, hM.l2417, hM.l2418, hM.l2419, hM.l2420, hM.l2421, hM.l2422, hM.l2423]) <;> (try omega))) only [↓reduceIte, ↓z_ite, ↓zR, ↓zB_R, ↓zB_B, ↓zB_ite, ↓zB_gI, ↓zB_pI, ↓zB_pZ, ↓zB_aK, ↓zB_G, ↓zB_lI, ↓zB_lZ, ↓zB_wI, ↓zB_wZ, ↓zB_lIl, ↓zB_wIl, zB_pI, zB_pZ, zB_lI, zB_lZ, zB_wI, zB_wZ, z_addl, z_ladd, z_mull, z_lmul, nI_add, z_subl, Nat.not_lt_zero, z_10, z_01, z_bitc, z_b0, z_b1, ↓zB_Gb, ↓zB_G0, ↓zB_G1, z_eql, z_leq, z_ltl, z_llt, z_eq, z_lt, z_m1lt, hM.k, hM.k2391, hM.k2392, hM.k2393, hM.k2394, hM.k2395, hM.k2396, hM.k2397, hM.k2398, hM.k2399, hM.k2400, hM.k2401, hM.k2402, hM.k2403, hM.k2404, hM.k2405, hM.k2406, hM.k2407, hM.k2408, hM.k2409, hM.k2410, hM.k2411, hM.k2412, hM.k2413, hM.k2414, hM.k2415, hM.k2416, hM.k2417, hM.k2418, hM.k2419, hM.k2420, hM.k2421, hM.k2422, hM.k2423, hM.l2391, hM.l2392, hM.l2393, hM.l2394, hM.l2395, hM.l2396, hM.l2397, hM.l2398, hM.l2399, hM.l2400, hM.l2401, hM.l2402, hM.l2403, hM.l2404, hM.l2405, hM.l2406, hM.l2407, hM.l2408, hM.l2409, hM.l2410, hM.l2411, hM.l2412, hM.l2413, hM.l2414, hM.l2415, hM.l2416, hM.l2417, hM.l2418, hM.l2419, hM.l2420, hM.l2421, hM.l2422, hM.l2423, ↓hM.g1, ↓hM.g5, ↓hM.g6, ↓hM.g7, ↓hM.g8, ↓hM.g9, ↓hM.g10, ↓hM.g11, ↓hM.g12, ↓hM.g13, ↓hM.g14, ↓hM.g16, ↓hM.g17, ↓hM.g18, ↓hM.g19, ↓hM.g21, ↓hM.g22, ↓hM.g23, ↓hM.g24, ↓hM.g25, ↓hM.g27, ↓hM.g28, ↓hM.g30, ↓hM.g31, ↓hM.g32, ↓hM.g36, ↓hM.g37, ↓hM.g39, ↓hM.g40, ↓hM.g41, ↓hM.g43, ↓hM.g45, ↓hM.g46, hup, z_oI_n, ↓zB_c e3, zB_c e3, hc2.2, show 0 < z_cnt P k by omega, ↓zB_c e4, zB_c e4, g1', g2.1, ↓zB_c e5, zB_c e5, g2.2]
          simp [g1', g2.1]
        · rcases this with g | g | g
          · rw [g] at hc2 g1 g2
            simp (disch := ((try simp only [true_or, or_true, hM.k, hM.k2391, hM.k2392, hM.k2393, hM.k2394, hM.k2395, hM.k2396, hM.k2397, hM.k2398, hM.k2399, hM.k2400, hM.k2401, hM.k2402, hM.k2403, hM.k2404, hM.k2405, hM.k2406, hM.k2407, hM.k2408, hM.k2409, hM.k2410, hM.k2411, hM.k2412, hM.k2413, hM.k2414, hM.k2415, hM.k2416, hM.k2417, hM.k2418, hM.k2419, hM.k2420, hM.k2421, hM.k2422, hM.k2423, hM.l2391, hM.l2392, hM.l2393, hM.l2394, hM.l2395, hM.l2396, hM.l2397, hM.l2398, hM.l2399, hM.l2400, hM.l2401, hM.l2402, hM.l2403, hM.l2404, hM.l2405, hM.l2406, hM.l2407, hM.l2408, hM.l2409, hM.l2410, hM.l2411, hM.l2412, hM.l2413, hM.l2414, hM.l2415, hM.l2416, hM.l2417, hM.l2418, hM.l2419, hM.l2420, hM.l2421, hM.l2422, hM.l2423]) <;> (try omega))) only [↓reduceIte, ↓z_ite, ↓zR, ↓zB_R, ↓zB_B, ↓zB_ite, ↓zB_gI, ↓zB_pI, ↓zB_pZ, ↓zB_aK, ↓zB_G, ↓zB_lI, ↓zB_lZ, ↓zB_wI, ↓zB_wZ, ↓zB_lIl, ↓zB_wIl, zB_pI, zB_pZ, zB_lI, zB_lZ, zB_wI, zB_wZ, z_addl, z_ladd, z_mull, z_lmul, nI_add, z_subl, Nat.not_lt_zero, z_10, z_01, z_bitc, z_b0, z_b1, ↓zB_Gb, ↓zB_G0, ↓zB_G1, z_eql, z_leq, z_ltl, z_llt, z_eq, z_lt, z_m1lt, hM.k, hM.k2391, hM.k2392, hM.k2393, hM.k2394, hM.k2395, hM.k2396, hM.k2397, hM.k2398, hM.k2399, hM.k2400, hM.k2401, hM.k2402, hM.k2403, hM.k2404, hM.k2405, hM.k2406, hM.k2407, hM.k2408, hM.k2409, hM.k2410, hM.k2411, hM.k2412, hM.k2413, hM.k2414, hM.k2415, hM.k2416, hM.k2417, hM.k2418, hM.k2419, hM.k2420, hM.k2421, hM.k2422, hM.k2423, hM.l2391, hM.l2392, hM.l2393, hM.l2394, hM.l2395, hM.l2396, hM.l2397, hM.l2398, hM.l2399, hM.l2400, hM.l2401, hM.l2402, hM.l2403, hM.l2404, hM.l2405, hM.l2406, hM.l2407, hM.l2408, hM.l2409, hM.l2410, hM.l2411, hM.l2412, hM.l2413, hM.l2414, hM.l2415, hM.l2416, hM.l2417, hM.l2418, hM.l2419, hM.l2420, hM.l2421, hM.l2422, hM.l2423, ↓hM.g1, ↓hM.g5, ↓hM.g6, ↓hM.g7, ↓hM.g8, ↓hM.g9, ↓hM.g10, ↓hM.g11, ↓hM.g12, ↓hM.g13, ↓hM.g14, ↓hM.g16, ↓hM.g17, ↓hM.g18, ↓hM.g19, ↓hM.g21, ↓hM.g22, ↓hM.g23, ↓hM.g24, ↓hM.g25, ↓hM.g27, ↓hM.g28, ↓hM.g30, ↓hM.g31, ↓hM.g32, ↓hM.g36, ↓hM.g37, ↓hM.g39, ↓hM.g40, ↓hM.g41, ↓hM.g43, ↓hM.g45, ↓hM.g46, hup, z_oI_n, ↓zB_c e3, zB_c e3, hc2.2, Nat.lt_irrefl, show ¬ (1 : Nat) < 0 by decide, ↓zB_c e1, zB_c e1, ho.2, ↓zB_c e211, zB_c e211]
            rw [g]
            simp only [Nat.lt_irrefl, false_and, if_false, show ¬ (1 : Nat) < 0 by decide]
            cases hf : z_fc P (z_own P k) n with
            | none => simp [z_oI]
            | some c =>
              have hne : ¬ nI c = -1 := z_nI_m1 (by have := (z_fc_some hf).1; have := hw.1.1; omega)
              simp only [z_oI, hne, if_false]
              rw [show (1000 : Int32) + nI c = nI (1000 + c) from nI_add 1000 c]
          · have g1' : ¬ z_hd P k 4 = nI n := fun g3 => g1 ⟨by omega, g3⟩
            simp (disch := ((try simp only [true_or, or_true, hM.k, hM.k2391, hM.k2392, hM.k2393, hM.k2394, hM.k2395, hM.k2396, hM.k2397, hM.k2398, hM.k2399, hM.k2400, hM.k2401, hM.k2402, hM.k2403, hM.k2404, hM.k2405, hM.k2406, hM.k2407, hM.k2408, hM.k2409, hM.k2410, hM.k2411, hM.k2412, hM.k2413, hM.k2414, hM.k2415, hM.k2416, hM.k2417, hM.k2418, hM.k2419, hM.k2420, hM.k2421, hM.k2422, hM.k2423, hM.l2391, hM.l2392, hM.l2393, hM.l2394, hM.l2395, hM.l2396, hM.l2397, hM.l2398, hM.l2399, hM.l2400, hM.l2401, hM.l2402, hM.l2403, hM.l2404, hM.l2405, hM.l2406, hM.l2407, hM.l2408, hM.l2409, hM.l2410, hM.l2411, hM.l2412, hM.l2413, hM.l2414, hM.l2415, hM.l2416, hM.l2417, hM.l2418, hM.l2419, hM.l2420, hM.l2421, hM.l2422, hM.l2423]) <;> (try omega))) only [↓reduceIte, ↓z_ite, ↓zR, ↓zB_R, ↓zB_B, ↓zB_ite, ↓zB_gI, ↓zB_pI, ↓zB_pZ, ↓zB_aK, ↓zB_G, ↓zB_lI, ↓zB_lZ, ↓zB_wI, ↓zB_wZ, ↓zB_lIl, ↓zB_wIl, zB_pI, zB_pZ, zB_lI, zB_lZ, zB_wI, zB_wZ, z_addl, z_ladd, z_mull, z_lmul, nI_add, z_subl, Nat.not_lt_zero, z_10, z_01, z_bitc, z_b0, z_b1, ↓zB_Gb, ↓zB_G0, ↓zB_G1, z_eql, z_leq, z_ltl, z_llt, z_eq, z_lt, z_m1lt, hM.k, hM.k2391, hM.k2392, hM.k2393, hM.k2394, hM.k2395, hM.k2396, hM.k2397, hM.k2398, hM.k2399, hM.k2400, hM.k2401, hM.k2402, hM.k2403, hM.k2404, hM.k2405, hM.k2406, hM.k2407, hM.k2408, hM.k2409, hM.k2410, hM.k2411, hM.k2412, hM.k2413, hM.k2414, hM.k2415, hM.k2416, hM.k2417, hM.k2418, hM.k2419, hM.k2420, hM.k2421, hM.k2422, hM.k2423, hM.l2391, hM.l2392, hM.l2393, hM.l2394, hM.l2395, hM.l2396, hM.l2397, hM.l2398, hM.l2399, hM.l2400, hM.l2401, hM.l2402, hM.l2403, hM.l2404, hM.l2405, hM.l2406, hM.l2407, hM.l2408, hM.l2409, hM.l2410, hM.l2411, hM.l2412, hM.l2413, hM.l2414, hM.l2415, hM.l2416, hM.l2417, hM.l2418, hM.l2419, hM.l2420, hM.l2421, hM.l2422, hM.l2423, ↓hM.g1, ↓hM.g5, ↓hM.g6, ↓hM.g7, ↓hM.g8, ↓hM.g9, ↓hM.g10, ↓hM.g11, ↓hM.g12, ↓hM.g13, ↓hM.g14, ↓hM.g16, ↓hM.g17, ↓hM.g18, ↓hM.g19, ↓hM.g21, ↓hM.g22, ↓hM.g23, ↓hM.g24, ↓hM.g25, ↓hM.g27, ↓hM.g28, ↓hM.g30, ↓hM.g31, ↓hM.g32, ↓hM.g36, ↓hM.g37, ↓hM.g39, ↓hM.g40, ↓hM.g41, ↓hM.g43, ↓hM.g45, ↓hM.g46, hup, z_oI_n, ↓zB_c e3, zB_c e3, hc2.2, g, ↓zB_c e4, zB_c e4, g1', Nat.lt_irrefl, show (0 : Nat) < 1 by decide, ↓zB_c e1, zB_c e1, ho.2, ↓zB_c e211, zB_c e211]
            simp only [g1', and_false, if_false, false_and, Nat.lt_irrefl]
            cases hf : z_fc P (z_own P k) n with
            | none => simp [z_oI]
            | some c =>
              have hne : ¬ nI c = -1 := z_nI_m1 (by have := (z_fc_some hf).1; have := hw.1.1; omega)
              simp only [z_oI, hne, if_false]
              rw [show (1000 : Int32) + nI c = nI (1000 + c) from nI_add 1000 c]
          · have g1' : ¬ z_hd P k 4 = nI n := fun g3 => g1 ⟨by omega, g3⟩
            have g2' : ¬ z_hd P k 5 = nI n := fun g3 => g2 ⟨by omega, g3⟩
            simp (disch := ((try simp only [true_or, or_true, hM.k, hM.k2391, hM.k2392, hM.k2393, hM.k2394, hM.k2395, hM.k2396, hM.k2397, hM.k2398, hM.k2399, hM.k2400, hM.k2401, hM.k2402, hM.k2403, hM.k2404, hM.k2405, hM.k2406, hM.k2407, hM.k2408, hM.k2409, hM.k2410, hM.k2411, hM.k2412, hM.k2413, hM.k2414, hM.k2415, hM.k2416, hM.k2417, hM.k2418, hM.k2419, hM.k2420, hM.k2421, hM.k2422, hM.k2423, hM.l2391, hM.l2392, hM.l2393, hM.l2394, hM.l2395, hM.l2396, hM.l2397, hM.l2398, hM.l2399, hM.l2400, hM.l2401, hM.l2402, hM.l2403, hM.l2404, hM.l2405, hM.l2406, hM.l2407, hM.l2408, hM.l2409, hM.l2410, hM.l2411, hM.l2412, hM.l2413, hM.l2414, hM.l2415, hM.l2416, hM.l2417, hM.l2418, hM.l2419, hM.l2420, hM.l2421, hM.l2422, hM.l2423]) <;> (try omega))) only [↓reduceIte, ↓z_ite, ↓zR, ↓zB_R, ↓zB_B, ↓zB_ite, ↓zB_gI, ↓zB_pI, ↓zB_pZ, ↓zB_aK, ↓zB_G, ↓zB_lI, ↓zB_lZ, ↓zB_wI, ↓zB_wZ, ↓zB_lIl, ↓zB_wIl, zB_pI, zB_pZ, zB_lI, zB_lZ, zB_wI, zB_wZ, z_addl, z_ladd, z_mull, z_lmul, nI_add, z_subl, Nat.not_lt_zero, z_10, z_01, z_bitc, z_b0, z_b1, ↓zB_Gb, ↓zB_G0, ↓zB_G1, z_eql, z_leq, z_ltl, z_llt, z_eq, z_lt, z_m1lt, hM.k, hM.k2391, hM.k2392, hM.k2393, hM.k2394, hM.k2395, hM.k2396, hM.k2397, hM.k2398, hM.k2399, hM.k2400, hM.k2401, hM.k2402, hM.k2403, hM.k2404, hM.k2405, hM.k2406, hM.k2407, hM.k2408, hM.k2409, hM.k2410, hM.k2411, hM.k2412, hM.k2413, hM.k2414, hM.k2415, hM.k2416, hM.k2417, hM.k2418, hM.k2419, hM.k2420, hM.k2421, hM.k2422, hM.k2423, hM.l2391, hM.l2392, hM.l2393, hM.l2394, hM.l2395, hM.l2396, hM.l2397, hM.l2398, hM.l2399, hM.l2400, hM.l2401, hM.l2402, hM.l2403, hM.l2404, hM.l2405, hM.l2406, hM.l2407, hM.l2408, hM.l2409, hM.l2410, hM.l2411, hM.l2412, hM.l2413, hM.l2414, hM.l2415, hM.l2416, hM.l2417, hM.l2418, hM.l2419, hM.l2420, hM.l2421, hM.l2422, hM.l2423, ↓hM.g1, ↓hM.g5, ↓hM.g6, ↓hM.g7, ↓hM.g8, ↓hM.g9, ↓hM.g10, ↓hM.g11, ↓hM.g12, ↓hM.g13, ↓hM.g14, ↓hM.g16, ↓hM.g17, ↓hM.g18, ↓hM.g19, ↓hM.g21, ↓hM.g22, ↓hM.g23, ↓hM.g24, ↓hM.g25, ↓hM.g27, ↓hM.g28, ↓hM.g30, ↓hM.g31, ↓hM.g32, ↓hM.g36, ↓hM.g37, ↓hM.g39, ↓hM.g40, ↓hM.g41, ↓hM.g43, ↓hM.g45, ↓hM.g46, hup, z_oI_n, ↓zB_c e3, zB_c e3, hc2.2, g, ↓zB_c e4, zB_c e4, g1', show (0 : Nat) < 2 by decide, show (1 : Nat) < 2 by decide, ↓zB_c e5, zB_c e5, g2', ↓zB_c e1, zB_c e1, ho.2, ↓zB_c e211, zB_c e211]
            simp only [g1', g2', and_false, if_false]
            cases hf : z_fc P (z_own P k) n with
            | none => simp [z_oI]
            | some c =>
              have hne : ¬ nI c = -1 := z_nI_m1 (by have := (z_fc_some hf).1; have := hw.1.1; omega)
              simp only [z_oI, hne, if_false]
              rw [show (1000 : Int32) + nI c = nI (1000 + c) from nI_add 1000 c]
    | some a =>
      rw [hpa] at hup
      obtain ⟨h1, h2, h3⟩ := z_pa_some hpa
      have hal : a < (z_bd P k).length := by omega
      have hea : p < z_en (z_bd P k) a := by
        have := z_lam' ht hal h1 h2; omega
      have ek := h.ek hM hB hk hal
      have ev := h.ev hM hB hk hal
      have hne : ¬ nI a = -1 := z_nI_m1 (by omega)
      -- nothing between
      have hmid : ∀ i, a < i → i < q → (z_k (z_bd P k) i == 5 && (z_v (z_bd P k) i == nI n && (decide (p < z_en (z_bd P k) i) && decide (z_en (z_bd P k) (i + 1) ≤ p)))) = false := by
        intro i h4 h5
        have := h3 i h4 h5
        have h9 : ¬ p < z_en (z_bd P k) i := by omega
        simp [h9]
      have hstep : ∀ c : Nat → Bool, (∀ i, a < i → i < q → c i = false) → z_lst c q = if c a = true then some a else z_lst c a := by
        intro c hc
        cases hca : c a with
        | true => simp only [if_true]; exact z_lst_some.mpr ⟨h1, hca, hc⟩
        | false =>
          simp only [Bool.false_eq_true, if_false]
          cases hx : z_lst c a with
          | none =>
            refine z_lst_none.mpr (fun i hi => ?_)
            rcases Nat.lt_or_ge i a with h4 | h4
            · exact z_lst_none.mp hx i h4
            · rcases Nat.eq_or_lt_of_le h4 with h5 | h5
              · rw [← h5]; exact hca
              · exact hc i h5 hi
          | some j =>
            obtain ⟨h4, h5, h6⟩ := z_lst_some.mp hx
            refine z_lst_some.mpr ⟨by omega, h5, fun i h7 h8 => ?_⟩
            rcases Nat.lt_or_ge i a with h9 | h9
            · exact h6 i h7 h9
            · rcases Nat.eq_or_lt_of_le h9 with h10 | h10
              · rw [← h10]; exact hca
              · exact hc i h10 h8
      have hle3 := hle.trans (hstep _ hmid)
      have next : ∀ X, (z_k (z_bd P k) a == 5 && (z_v (z_bd P k) a == nI n && (decide (p < z_en (z_bd P k) a) && decide (z_en (z_bd P k) (a + 1) ≤ p)))) = false → f225_10b 2390 B (nI k) (nI n) (nI (192 * k)) (nI q) (z_hp S m') = some (.inl (2390, B, nI k, nI n, nI (192 * k), nI a), z_hp S m') → X = f225_10b 2390 B (nI k) (nI n) (nI (192 * k)) (nI q) (z_hp S m') → (∃ s' m'' n', X = some (.inl s', z_hp S m'') ∧ n' < q ∧ (m'' = m' ∧ n' ≤ p ∧ p < z_en (z_bd P k) n' ∧ s' = (2390, B, nI k, nI n, nI (192 * k), nI n') ∧ z_le (z_bd P k) p (nI n) = z_lst (fun i => z_k (z_bd P k) i == 5 && (z_v (z_bd P k) i == nI n && (decide (p < z_en (z_bd P k) i) && decide (z_en (z_bd P k) (i + 1) ≤ p)))) n')) := by
        intro X hX1 hX2 hX3
        refine ⟨_, m', a, hX3.trans hX2, h1, rfl, by omega, hea, rfl, ?_⟩
        rw [hle3, hX1]; simp
      by_cases g1 : z_k (z_bd P k) a = 5
      · by_cases g2 : z_v (z_bd P k) a = nI n
        · have hp2 := z_p_5 g1
          have hlt2 := z_pt_lt ht hal (show 1 < z_p (z_bd P k) a by omega)
          by_cases g3 : q = a + 1
          · subst g3
            refine Or.inl (next _ ?_ ?_ rfl)
            · have : ¬ z_en (z_bd P k) (a + 1) ≤ p := by omega
              simp [this]
            · unfold f225_10b f225_73
              simp (disch := ((try simp only [true_or, or_true, hM.k, hM.k2391, hM.k2392, hM.k2393, hM.k2394, hM.k2395, hM.k2396, hM.k2397, hM.k2398, hM.k2399, hM.k2400, hM.k2401, hM.k2402, hM.k2403, hM.k2404, hM.k2405, hM.k2406, hM.k2407, hM.k2408, hM.k2409, hM.k2410, hM.k2411, hM.k2412, hM.k2413, hM.k2414, hM.k2415, hM.k2416, hM.k2417, hM.k2418, hM.k2419, hM.k2420, hM.k2421, hM.k2422, hM.k2423, hM.l2391, hM.l2392, hM.l2393, hM.l2394, hM.l2395, hM.l2396, hM.l2397, hM.l2398, hM.l2399, hM.l2400, hM.l2401, hM.l2402, hM.l2403, hM.l2404, hM.l2405, hM.l2406, hM.l2407, hM.l2408, hM.l2409, hM.l2410, hM.l2411, hM.l2412, hM.l2413, hM.l2414, hM.l2415, hM.l2416, hM.l2417, hM.l2418, hM.l2419, hM.l2420, hM.l2421, hM.l2422, hM.l2423]) <;> (try omega))) only [↓reduceIte, ↓z_ite, ↓zR, ↓zB_R, ↓zB_B, ↓zB_ite, ↓zB_gI, ↓zB_pI, ↓zB_pZ, ↓zB_aK, ↓zB_G, ↓zB_lI, ↓zB_lZ, ↓zB_wI, ↓zB_wZ, ↓zB_lIl, ↓zB_wIl, zB_pI, zB_pZ, zB_lI, zB_lZ, zB_wI, zB_wZ, z_addl, z_ladd, z_mull, z_lmul, nI_add, z_subl, Nat.not_lt_zero, z_10, z_01, z_bitc, z_b0, z_b1, ↓zB_Gb, ↓zB_G0, ↓zB_G1, z_eql, z_leq, z_ltl, z_llt, z_eq, z_lt, z_m1lt, hM.k, hM.k2391, hM.k2392, hM.k2393, hM.k2394, hM.k2395, hM.k2396, hM.k2397, hM.k2398, hM.k2399, hM.k2400, hM.k2401, hM.k2402, hM.k2403, hM.k2404, hM.k2405, hM.k2406, hM.k2407, hM.k2408, hM.k2409, hM.k2410, hM.k2411, hM.k2412, hM.k2413, hM.k2414, hM.k2415, hM.k2416, hM.k2417, hM.k2418, hM.k2419, hM.k2420, hM.k2421, hM.k2422, hM.k2423, hM.l2391, hM.l2392, hM.l2393, hM.l2394, hM.l2395, hM.l2396, hM.l2397, hM.l2398, hM.l2399, hM.l2400, hM.l2401, hM.l2402, hM.l2403, hM.l2404, hM.l2405, hM.l2406, hM.l2407, hM.l2408, hM.l2409, hM.l2410, hM.l2411, hM.l2412, hM.l2413, hM.l2414, hM.l2415, hM.l2416, hM.l2417, hM.l2418, hM.l2419, hM.l2420, hM.l2421, hM.l2422, hM.l2423, ↓hM.g1, ↓hM.g5, ↓hM.g6, ↓hM.g7, ↓hM.g8, ↓hM.g9, ↓hM.g10, ↓hM.g11, ↓hM.g12, ↓hM.g13, ↓hM.g14, ↓hM.g16, ↓hM.g17, ↓hM.g18, ↓hM.g19, ↓hM.g21, ↓hM.g22, ↓hM.g23, ↓hM.g24, ↓hM.g25, ↓hM.g27, ↓hM.g28, ↓hM.g30, ↓hM.g31, ↓hM.g32, ↓hM.g36, ↓hM.g37, ↓hM.g39, ↓hM.g40, ↓hM.g41, ↓hM.g43, ↓hM.g45, ↓hM.g46, hup, z_oI_s, hne, ↓zB_c ek, zB_c ek, g1, ↓zB_c ev, zB_c ev, g2]
          · have h5 : z_en (z_bd P k) (a + 1) ≤ p := by
              obtain ⟨q', h4, h5⟩ := z_pa_is ht (by omega) hpa
              have : q' = 0 ∨ q' = 1 := by omega
              rcases this with h6 | h6
              · rw [h6, z_pt_0] at h5; omega
              · rw [h6, z_pt_s, z_pt_0] at h5; omega
            have hc : (z_k (z_bd P k) a == 5 && (z_v (z_bd P k) a == nI n && (decide (p < z_en (z_bd P k) a) && decide (z_en (z_bd P k) (a + 1) ≤ p)))) = true := by simp [g1, g2, hea, h5]
            refine Or.inr ⟨nI a, m', ?_, rfl, ?_⟩
            · unfold f225_10b f225_70
              simp (disch := ((try simp only [true_or, or_true, hM.k, hM.k2391, hM.k2392, hM.k2393, hM.k2394, hM.k2395, hM.k2396, hM.k2397, hM.k2398, hM.k2399, hM.k2400, hM.k2401, hM.k2402, hM.k2403, hM.k2404, hM.k2405, hM.k2406, hM.k2407, hM.k2408, hM.k2409, hM.k2410, hM.k2411, hM.k2412, hM.k2413, hM.k2414, hM.k2415, hM.k2416, hM.k2417, hM.k2418, hM.k2419, hM.k2420, hM.k2421, hM.k2422, hM.k2423, hM.l2391, hM.l2392, hM.l2393, hM.l2394, hM.l2395, hM.l2396, hM.l2397, hM.l2398, hM.l2399, hM.l2400, hM.l2401, hM.l2402, hM.l2403, hM.l2404, hM.l2405, hM.l2406, hM.l2407, hM.l2408, hM.l2409, hM.l2410, hM.l2411, hM.l2412, hM.l2413, hM.l2414, hM.l2415, hM.l2416, hM.l2417, hM.l2418, hM.l2419, hM.l2420, hM.l2421, hM.l2422, hM.l2423]) <;> (try omega))) only [↓reduceIte, ↓z_ite, ↓zR, ↓zB_R, ↓zB_B, ↓zB_ite, ↓zB_gI, ↓zB_pI, ↓zB_pZ, ↓zB_aK, ↓zB_G, ↓zB_lI, ↓zB_lZ, ↓zB_wI, ↓zB_wZ, ↓zB_lIl, ↓zB_wIl, zB_pI, zB_pZ, zB_lI, zB_lZ, zB_wI, zB_wZ, z_addl, z_ladd, z_mull, z_lmul, nI_add, z_subl, Nat.not_lt_zero, z_10, z_01, z_bitc, z_b0, z_b1, ↓zB_Gb, ↓zB_G0, ↓zB_G1, z_eql, z_leq, z_ltl, z_llt, z_eq, z_lt, z_m1lt, hM.k, hM.k2391, hM.k2392, hM.k2393, hM.k2394, hM.k2395, hM.k2396, hM.k2397, hM.k2398, hM.k2399, hM.k2400, hM.k2401, hM.k2402, hM.k2403, hM.k2404, hM.k2405, hM.k2406, hM.k2407, hM.k2408, hM.k2409, hM.k2410, hM.k2411, hM.k2412, hM.k2413, hM.k2414, hM.k2415, hM.k2416, hM.k2417, hM.k2418, hM.k2419, hM.k2420, hM.k2421, hM.k2422, hM.k2423, hM.l2391, hM.l2392, hM.l2393, hM.l2394, hM.l2395, hM.l2396, hM.l2397, hM.l2398, hM.l2399, hM.l2400, hM.l2401, hM.l2402, hM.l2403, hM.l2404, hM.l2405, hM.l2406, hM.l2407, hM.l2408, hM.l2409, hM.l2410, hM.l2411, hM.l2412, hM.l2413, hM.l2414, hM.l2415, hM.l2416, hM.l2417, hM.l2418, hM.l2419, hM.l2420, hM.l2421, hM.l2422, hM.l2423, ↓hM.g1, ↓hM.g5, ↓hM.g6, ↓hM.g7, ↓hM.g8, ↓hM.g9, ↓hM.g10, ↓hM.g11, ↓hM.g12, ↓hM.g13, ↓hM.g14, ↓hM.g16, ↓hM.g17, ↓hM.g18, ↓hM.g19, ↓hM.g21, ↓hM.g22, ↓hM.g23, ↓hM.g24, ↓hM.g25, ↓hM.g27, ↓hM.g28, ↓hM.g30, ↓hM.g31, ↓hM.g32, ↓hM.g36, ↓hM.g37, ↓hM.g39, ↓hM.g40, ↓hM.g41, ↓hM.g43, ↓hM.g45, ↓hM.g46, hup, z_oI_s, hne, ↓zB_c ek, zB_c ek, g1, ↓zB_c ev, zB_c ev, g2, g3]
            · unfold z_bv
              rw [hle3, if_pos hc]
        · refine Or.inl (next _ (by simp [g2]) ?_ rfl)
          unfold f225_10b f225_73
          simp (disch := ((try simp only [true_or, or_true, hM.k, hM.k2391, hM.k2392, hM.k2393, hM.k2394, hM.k2395, hM.k2396, hM.k2397, hM.k2398, hM.k2399, hM.k2400, hM.k2401, hM.k2402, hM.k2403, hM.k2404, hM.k2405, hM.k2406, hM.k2407, hM.k2408, hM.k2409, hM.k2410, hM.k2411, hM.k2412, hM.k2413, hM.k2414, hM.k2415, hM.k2416, hM.k2417, hM.k2418, hM.k2419, hM.k2420, hM.k2421, hM.k2422, hM.k2423, hM.l2391, hM.l2392, hM.l2393, hM.l2394, hM.l2395, hM.l2396, hM.l2397, hM.l2398, hM.l2399, hM.l2400, hM.l2401, hM.l2402, hM.l2403, hM.l2404, hM.l2405, hM.l2406, hM.l2407, hM.l2408, hM.l2409, hM.l2410, hM.l2411, hM.l2412, hM.l2413, hM.l2414, hM.l2415, hM.l2416, hM.l2417, hM.l2418, hM.l2419, hM.l2420, hM.l2421, hM.l2422, hM.l2423]) <;> (try omega))) only [↓reduceIte, ↓z_ite, ↓zR, ↓zB_R, ↓zB_B, ↓zB_ite, ↓zB_gI, ↓zB_pI, ↓zB_pZ, ↓zB_aK, ↓zB_G, ↓zB_lI, ↓zB_lZ, ↓zB_wI, ↓zB_wZ, ↓zB_lIl, ↓zB_wIl, zB_pI, zB_pZ, zB_lI, zB_lZ, zB_wI, zB_wZ, z_addl, z_ladd, z_mull, z_lmul, nI_add, z_subl, Nat.not_lt_zero, z_10, z_01, z_bitc, z_b0, z_b1, ↓zB_Gb, ↓zB_G0, ↓zB_G1, z_eql, z_leq, z_ltl, z_llt, z_eq, z_lt, z_m1lt, hM.k, hM.k2391, hM.k2392, hM.k2393, hM.k2394, hM.k2395, hM.k2396, hM.k2397, hM.k2398, hM.k2399, hM.k2400, hM.k2401, hM.k2402, hM.k2403, hM.k2404, hM.k2405, hM.k2406, hM.k2407, hM.k2408, hM.k2409, hM.k2410, hM.k2411, hM.k2412, hM.k2413, hM.k2414, hM.k2415, hM.k2416, hM.k2417, hM.k2418, hM.k2419, hM.k2420, hM.k2421, hM.k2422, hM.k2423, hM.l2391, hM.l2392, hM.l2393, hM.l2394, hM.l2395, hM.l2396, hM.l2397, hM.l2398, hM.l2399, hM.l2400, hM.l2401, hM.l2402, hM.l2403, hM.l2404, hM.l2405, hM.l2406, hM.l2407, hM.l2408, hM.l2409, hM.l2410, hM.l2411, hM.l2412, hM.l2413, hM.l2414, hM.l2415, hM.l2416, hM.l2417, hM.l2418, hM.l2419, hM.l2420, hM.l2421, hM.l2422, hM.l2423, ↓hM.g1, ↓hM.g5, ↓hM.g6, ↓hM.g7, ↓hM.g8, ↓hM.g9, ↓hM.g10, ↓hM.g11, ↓hM.g12, ↓hM.g13, ↓hM.g14, ↓hM.g16, ↓hM.g17, ↓hM.g18, ↓hM.g19, ↓hM.g21, ↓hM.g22, ↓hM.g23, ↓hM.g24, ↓hM.g25, ↓hM.g27, ↓hM.g28, ↓hM.g30, ↓hM.g31, ↓hM.g32, ↓hM.g36, ↓hM.g37, ↓hM.g39, ↓hM.g40, ↓hM.g41, ↓hM.g43, ↓hM.g45, ↓hM.g46, hup, z_oI_s, hne, ↓zB_c ek, zB_c ek, g1, ↓zB_c ev, zB_c ev, g2]
      · refine Or.inl (next _ (by simp [g1]) ?_ rfl)
        unfold f225_10b f225_73
        simp (disch := ((try simp only [true_or, or_true, hM.k, hM.k2391, hM.k2392, hM.k2393, hM.k2394, hM.k2395, hM.k2396, hM.k2397, hM.k2398, hM.k2399, hM.k2400, hM.k2401, hM.k2402, hM.k2403, hM.k2404, hM.k2405, hM.k2406, hM.k2407, hM.k2408, hM.k2409, hM.k2410, hM.k2411, hM.k2412, hM.k2413, hM.k2414, hM.k2415, hM.k2416, hM.k2417, hM.k2418, hM.k2419, hM.k2420, hM.k2421, hM.k2422, hM.k2423, hM.l2391, hM.l2392, hM.l2393, hM.l2394, hM.l2395, hM.l2396, hM.l2397, hM.l2398, hM.l2399, hM.l2400, hM.l2401, hM.l2402, hM.l2403, hM.l2404, hM.l2405, hM.l2406, hM.l2407, hM.l2408, hM.l2409, hM.l2410, hM.l2411, hM.l2412, hM.l2413, hM.l2414, hM.l2415, hM.l2416, hM.l2417, hM.l2418, hM.l2419, hM.l2420, hM.l2421, hM.l2422, hM.l2423]) <;> (try omega))) only [↓reduceIte, ↓z_ite, ↓zR, ↓zB_R, ↓zB_B, ↓zB_ite, ↓zB_gI, ↓zB_pI, ↓zB_pZ, ↓zB_aK, ↓zB_G, ↓zB_lI, ↓zB_lZ, ↓zB_wI, ↓zB_wZ, ↓zB_lIl, ↓zB_wIl, zB_pI, zB_pZ, zB_lI, zB_lZ, zB_wI, zB_wZ, z_addl, z_ladd, z_mull, z_lmul, nI_add, z_subl, Nat.not_lt_zero, z_10, z_01, z_bitc, z_b0, z_b1, ↓zB_Gb, ↓zB_G0, ↓zB_G1, z_eql, z_leq, z_ltl, z_llt, z_eq, z_lt, z_m1lt, hM.k, hM.k2391, hM.k2392, hM.k2393, hM.k2394, hM.k2395, hM.k2396, hM.k2397, hM.k2398, hM.k2399, hM.k2400, hM.k2401, hM.k2402, hM.k2403, hM.k2404, hM.k2405, hM.k2406, hM.k2407, hM.k2408, hM.k2409, hM.k2410, hM.k2411, hM.k2412, hM.k2413, hM.k2414, hM.k2415, hM.k2416, hM.k2417, hM.k2418, hM.k2419, hM.k2420, hM.k2421, hM.k2422, hM.k2423, hM.l2391, hM.l2392, hM.l2393, hM.l2394, hM.l2395, hM.l2396, hM.l2397, hM.l2398, hM.l2399, hM.l2400, hM.l2401, hM.l2402, hM.l2403, hM.l2404, hM.l2405, hM.l2406, hM.l2407, hM.l2408, hM.l2409, hM.l2410, hM.l2411, hM.l2412, hM.l2413, hM.l2414, hM.l2415, hM.l2416, hM.l2417, hM.l2418, hM.l2419, hM.l2420, hM.l2421, hM.l2422, hM.l2423, ↓hM.g1, ↓hM.g5, ↓hM.g6, ↓hM.g7, ↓hM.g8, ↓hM.g9, ↓hM.g10, ↓hM.g11, ↓hM.g12, ↓hM.g13, ↓hM.g14, ↓hM.g16, ↓hM.g17, ↓hM.g18, ↓hM.g19, ↓hM.g21, ↓hM.g22, ↓hM.g23, ↓hM.g24, ↓hM.g25, ↓hM.g27, ↓hM.g28, ↓hM.g30, ↓hM.g31, ↓hM.g32, ↓hM.g36, ↓hM.g37, ↓hM.g39, ↓hM.g40, ↓hM.g41, ↓hM.g43, ↓hM.g45, ↓hM.g46, hup, z_oI_s, hne, ↓zB_c ek, zB_c ek, g1]
end
