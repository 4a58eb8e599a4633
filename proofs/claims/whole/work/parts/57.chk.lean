/-! what the checker looks at stays -/
def z_ap (p b : Nat) : Prop := (∃ k, k < 24 ∧ b = z_bi p k) ∨ b + 7 ≤ p ∨ p + 179 ≤ b
theorem z_cb_fr {m m' : z_m} {b R : Nat} {l : List z_N} (h : ∀ a, b ≤ a → a ≤ b + 3 → m' a = m a) (hc : z_cb m b R l) : z_cb m' b R l := by
  obtain ⟨h1, h2, h3, h4, h5⟩ := hc
  refine ⟨by rw [h b (Nat.le_refl _) (by omega)]; exact h1, by rw [h b (Nat.le_refl _) (by omega)]; exact h2, h3, h4, fun i hi => ?_⟩
  rw [h (b + 1) (by omega) (by omega), h (b + 2) (by omega) (by omega), h (b + 3) (by omega) (by omega)]
  exact h5 i hi
theorem z_cp_fr {m m' : z_m} {p : Nat} {P : z_Pg} (hw : z_nm P ≤ 24) (h : ∀ a, p ≤ a → a ≤ p + 9 → m' a = m a) (hb : ∀ k, k < 24 → ∀ a, z_bi p k ≤ a → a ≤ z_bi p k + 3 → m' a = m a) (hc : z_cp m p P) : z_cp m' p P := by
  obtain ⟨⟨h1, h2⟩, ⟨h3, h4, h5⟩, h6, h7⟩ := hc
  refine ⟨⟨?_, ?_⟩, ⟨?_, ?_, ?_⟩, ?_, ?_⟩
  · rw [h p (by omega) (by omega)]; exact h1
  · intro c hc
    rw [h (p + 1) (by omega) (by omega), h (p + 2) (by omega) (by omega), h (p + 3) (by omega) (by omega)]
    exact h2 c hc
  · rw [h p (by omega) (by omega)]; exact h3
  · rw [h p (by omega) (by omega)]; exact h4
  · intro k hk hl
    unfold z_ch
    rw [h (p + 4) (by omega) (by omega), h (p + 5) (by omega) (by omega), h (p + 6) (by omega) (by omega), h (p + 7) (by omega) (by omega), h (p + 8) (by omega) (by omega), h (p + 9) (by omega) (by omega)]
    exact h5 k hk hl
  · intro k hk
    rw [hb k hk _ (Nat.le_refl _) (by omega)]
    exact h6 k hk
  · exact fun k hk hl => z_cb_fr (hb k (by omega)) (h7 k hk hl)
theorem z_cp_ap {m m' : z_m} {p b : Nat} {P : z_Pg} (hw : z_nm P ≤ 24) (ha : z_ap p b) (h : ∀ a, a ≠ b + 4 → a ≠ b + 5 → a ≠ b + 6 → m' a = m a) (hc : z_cp m p P) : z_cp m' p P := by
  refine z_cp_fr hw (fun a h1 h2 => h a ?_ ?_ ?_) (fun k hk a h1 h2 => h a ?_ ?_ ?_) hc
  all_goals
    unfold z_ap z_bi at ha
    try unfold z_bi at h1 h2
    rcases ha with ⟨q, hq, rfl⟩ | ha | ha <;> omega
def z_CK (m : z_m) (p : Nat) (P : z_Pg) (b R : Nat) (l : List z_N) : Prop := z_cp m p P ∧ z_cb m b R l ∧ z_ce m b l
theorem z_CK_fr {m m' : z_m} {p b R : Nat} {P : z_Pg} {l : List z_N} (hw : z_nm P ≤ 24) (ha : z_ap p b) (h : ∀ a, a ≠ b + 5 → a ≠ b + 6 → m' a = m a) (hc : z_CK m p P b R l) : z_CK m' p P b R l := by
  obtain ⟨h1, h2, h3⟩ := hc
  refine ⟨z_cp_ap hw ha (fun a _ h5 h6 => h a h5 h6) h1, z_cb_fr (fun a h5 h6 => h a (by omega) (by omega)) h2, fun i hi => ?_⟩
  rw [h (b + 4) (by omega) (by omega)]
  exact h3 i hi
theorem z_tw_ty {P : z_Pg} {t : Int32} (h : z_ty P t) : z_tw P t := by
  rcases h with rfl | h
  · exact Or.inl (by decide)
  · exact Or.inr h
theorem z_tw_ty' {P : z_Pg} {t : Int32} (h : z_ty' P t) : z_tw P t := by
  rcases h with rfl | h
  · exact Or.inl (by decide)
  · exact z_tw_ty h
section
variable {S : z_S} {m : z_m} {p b R k i : Nat} {P : z_Pg} {l : List z_N}
theorem z_fld_ty (hw : z_wf P) {c n : Nat} (hc : c < z_nc P) (hn : n < 16) (h : z_fld P c n ≠ 0) : z_ty P (z_fld P c n - 2) ∧ z_ft P c n = z_fld P c n - 2 := by
  refine ⟨?_, by unfold z_ft; rw [if_neg h]⟩
  rcases hw.2.1 c n hc hn with h1 | ⟨t, ht, h1⟩
  · exact absurd h1 h
  · rw [h1]; simpa using ht
theorem z_fc_some {c d n : Nat} (h : z_fc P c n = some d) : d ≤ c ∧ z_blw P c d = true ∧ z_fld P d n ≠ 0 := by
  obtain ⟨h1, h2, _⟩ := z_lst_some.mp h
  simp only [Bool.and_eq_true, bne_iff_ne, ne_eq] at h2
  exact ⟨by omega, h2.1, h2.2⟩
theorem z_bd_ty (hw : z_wf P) (hk : k < z_nm P) {j : Nat} (hj : j < z_cnt P k) : z_ty' P (z_hd P k (6 + j)) := by
  obtain ⟨_, _, _, h1, h2, _⟩ := hw.2.2.2.1 k hk
  have := h2 j (by omega)
  rw [if_pos hj] at this
  exact this.2
theorem z_tb_tw (hw : z_wf P) (hk : k < z_nm P) {T : Nat → Int32} {n : Nat} (hn : n < 16) (h : ∀ j, j < i → i < z_en l j → z_en l (j + 1) ≤ i → z_k l j = 5 → z_tw P (T (j + 1))) : z_tw P (z_tb P k l T i (nI n)) := by
  unfold z_tb
  split
  · rename_i j e
    obtain ⟨h1, h2, h3, h4, h5⟩ := z_le_some e
    exact h j h1 h4 h5 h2
  · split
    · rename_i g; exact z_tw_ty' (z_bd_ty hw hk (j := 0) g.1)
    · split
      · rename_i g; exact z_tw_ty' (z_bd_ty hw hk (j := 1) g.1)
      · split
        · rename_i c e
          rw [nI_clamp (by omega)] at e ⊢
          obtain ⟨h1, h2, h3⟩ := z_fc_some e
          have := (z_own_e hw hk).1
          exact z_tw_ty (z_fld_ty hw (by omega) hn h3).1
        · exact Or.inl (by decide)
theorem f25_sp (t : Int32) : f25 t (z_hp S m) = some (z_b (z_num t), z_hp S m) := by
  unfold f25 f25_11 f25_16 z_num
  by_cases g1 : t = -1
  · simp (disch := ((try simp only [true_or, or_true]) <;> (try omega))) only [↓reduceIte, ↓z_ite, ↓zR, ↓zB_R, ↓zB_B, ↓zB_ite, ↓zB_gI, ↓zB_pI, ↓zB_pZ, ↓zB_aK, ↓zB_G, ↓zB_lI, ↓zB_lZ, ↓zB_wI, ↓zB_wZ, zB_pI, zB_pZ, zB_lI, zB_lZ, zB_wI, zB_wZ, z_addl, z_ladd, z_mull, z_lmul, nI_add, z_subl, z_10, z_01, z_bitc, z_b0, z_b1, ↓zB_Gb, ↓zB_G0, ↓zB_G1, z_eql, z_leq, z_ltl, z_llt, z_eq, z_lt, z_m1lt, g1]
    rfl
  · by_cases g2 : t = -2
    · simp (disch := ((try simp only [true_or, or_true]) <;> (try omega))) only [↓reduceIte, ↓z_ite, ↓zR, ↓zB_R, ↓zB_B, ↓zB_ite, ↓zB_gI, ↓zB_pI, ↓zB_pZ, ↓zB_aK, ↓zB_G, ↓zB_lI, ↓zB_lZ, ↓zB_wI, ↓zB_wZ, zB_pI, zB_pZ, zB_lI, zB_lZ, zB_wI, zB_wZ, z_addl, z_ladd, z_mull, z_lmul, nI_add, z_subl, z_10, z_01, z_bitc, z_b0, z_b1, ↓zB_Gb, ↓zB_G0, ↓zB_G1, z_eql, z_leq, z_ltl, z_llt, z_eq, z_lt, z_m1lt, g2, show ¬ (-2 : Int32) = -1 by decide]
      rfl
    · simp (disch := ((try simp only [true_or, or_true]) <;> (try omega))) only [↓reduceIte, ↓z_ite, ↓zR, ↓zB_R, ↓zB_B, ↓zB_ite, ↓zB_gI, ↓zB_pI, ↓zB_pZ, ↓zB_aK, ↓zB_G, ↓zB_lI, ↓zB_lZ, ↓zB_wI, ↓zB_wZ, zB_pI, zB_pZ, zB_lI, zB_lZ, zB_wI, zB_wZ, z_addl, z_ladd, z_mull, z_lmul, nI_add, z_subl, z_10, z_01, z_bitc, z_b0, z_b1, ↓zB_Gb, ↓zB_G0, ↓zB_G1, z_eql, z_leq, z_ltl, z_llt, z_eq, z_lt, z_m1lt, g1, g2]
      simp [g1, g2, z_b]
theorem f26_sp (hp : z_PS S p) (h : z_cp m p P) (hw : z_wf P) {t w : Int32} (ht : z_tw P t) (hw2 : z_tw P w) : f26 p t w (z_hp S m) = some (z_jn P t w, z_hp S m) := by
  unfold f26 f26_26 z_jn
  simp (disch := ((try simp only [true_or, or_true, hp.k, hp.k1, hp.k2, hp.k3, hp.k4, hp.k5, hp.k6, hp.k7, hp.k8, hp.k9, hp.k10, hp.l1, hp.l2, hp.l3, hp.l4, hp.l5, hp.l6, hp.l7, hp.l8, hp.l9, hp.l10]) <;> (try omega))) only [↓reduceIte, ↓z_ite, ↓zR, ↓zB_R, ↓zB_B, ↓zB_ite, ↓zB_gI, ↓zB_pI, ↓zB_pZ, ↓zB_aK, ↓zB_G, ↓zB_lI, ↓zB_lZ, ↓zB_wI, ↓zB_wZ, zB_pI, zB_pZ, zB_lI, zB_lZ, zB_wI, zB_wZ, z_addl, z_ladd, z_mull, z_lmul, nI_add, z_subl, z_10, z_01, z_bitc, z_b0, z_b1, ↓zB_Gb, ↓zB_G0, ↓zB_G1, z_eql, z_leq, z_ltl, z_llt, z_eq, z_lt, z_m1lt, hp.k, hp.k1, hp.k2, hp.k3, hp.k4, hp.k5, hp.k6, hp.k7, hp.k8, hp.k9, hp.k10, hp.l1, hp.l2, hp.l3, hp.l4, hp.l5, hp.l6, hp.l7, hp.l8, hp.l9, hp.l10, ↓hp.g0, ↓hp.g1, ↓hp.g2, ↓hp.g3, ↓hp.g4, ↓hp.g5, ↓hp.g6, ↓hp.g7, ↓hp.g8, ↓hp.g9, ↓hp.gb, hp.gb, ↓zB_c (f84_sp hp h hw hw2 ht), zB_c (f84_sp hp h hw hw2 ht), ↓zB_c (f84_sp hp h hw ht hw2), zB_c (f84_sp hp h hw ht hw2)]
  cases z_fit P w t <;> cases z_fit P t w <;> simp
theorem z_v_nm {nc : Nat} (h : z_wB nc l) (hi : i < l.length) (hk : z_k l i = 1 ∨ z_k l i = 3 ∨ z_k l i = 4 ∨ z_k l i = 5 ∨ z_k l i = 6 ∨ z_k l i = 7) : ∃ n, n < 16 ∧ z_v l i = nI n := (z_wN_at h hi).2.2.1 hk
theorem z_up_id (m : z_m) (r j : Nat) : z_up m r j (m r j) = m := by
  funext a c
  unfold z_up
  by_cases h : a = r ∧ c = j
  · rw [if_pos h, h.1, h.2]
  · rw [if_neg h]
theorem z_up_row {m : z_m} {k j : Nat} {v : Int32} {a : Nat} (h : a ≠ k) : z_up m k j v a = m a := by
  funext c; exact z_up_a h
/-- Checker.typeOfVariable -/
theorem f27_sp (hp : z_PS S p) (hw : z_wf P) (hk : k < z_nm P) (hl : z_liv P k = true) (hb : z_BS S b R) (hc : z_CK m p P b R l) (ha : z_ap p b) (hB : z_wB (z_nc P) l) (hi : i < l.length) (hv : z_k l i = 1 ∨ z_k l i = 6) (h0 : z_k l i = 6 → z_tw P (m (b + 5) (i + 1))) (hL : ∀ j, j < i → i < z_en l j → z_en l (j + 1) ≤ i → z_k l j = 5 → z_tw P (m (b + 5) (j + 1))) : ∃ v, f27 p (nI k) b (nI i) (z_hp S m) = some (z_st P k l (m (b + 5)) i, z_hp S (z_up m (b + 6) i v)) ∧ (z_st P k l (m (b + 5)) i ≠ -3 → v = z_bs P k l (m (b + 5)) i) := by
  obtain ⟨h, hcb, hce⟩ := hc
  have hR := hcb.2.2.1
  have hR2 := hcb.2.2.2.1
  have h24 := hw.2.2.1
  have h6 := hw.1.1
  have h2 := hcb.2.2.2.2 i hi
  have ho := z_own_e hw hk
  have hh := h.2.1.2.2 k hk hl
  obtain ⟨n, hn, en⟩ := z_v_nm hB hi (by rcases hv with g | g <;> simp [g])
  have htb := z_tb_tw hw hk (l := l) (i := i) (T := m (b + 5)) hn hL
  have hpl := z_p_lt hB.1 hi
  have tail : ∀ (v w : Int32), z_tw P w → w = z_tb P k l (m (b + 5)) i (nI n) → f27_132 p b (nI i) w (z_hp S (z_up m (b + 6) i v)) = some (z_st P k l (m (b + 5)) i, z_hp S (z_up m (b + 6) i v)) := by
    intro v w hw1 hw2
    have hx : z_CK (z_up m (b + 6) i v) p P b R l := z_CK_fr h24 ha (fun a _ h6 => z_up_row h6) ⟨h, hcb, hce⟩
    have h2' := hx.2.1.2.2.2.2 i hi
    unfold f27_132 f27_147 f27_171 f27_178
    rcases hv with g | g
    · simp (disch := ((try simp only [true_or, or_true, hb.k, hb.k1, hb.k2, hb.k3, hb.k4, hb.k5, hb.k6, hb.l1, hb.l2, hb.l3, hb.l4, hb.l5, hb.l6]) <;> (try omega))) only [↓reduceIte, ↓z_ite, ↓zR, ↓zB_R, ↓zB_B, ↓zB_ite, ↓zB_gI, ↓zB_pI, ↓zB_pZ, ↓zB_aK, ↓zB_G, ↓zB_lI, ↓zB_lZ, ↓zB_wI, ↓zB_wZ, zB_pI, zB_pZ, zB_lI, zB_lZ, zB_wI, zB_wZ, z_addl, z_ladd, z_mull, z_lmul, nI_add, z_subl, z_10, z_01, z_bitc, z_b0, z_b1, ↓zB_Gb, ↓zB_G0, ↓zB_G1, z_eql, z_leq, z_ltl, z_llt, z_eq, z_lt, z_m1lt, hb.k, hb.k1, hb.k2, hb.k3, hb.k4, hb.k5, hb.k6, hb.l1, hb.l2, hb.l3, hb.l4, hb.l5, hb.l6, ↓hb.g0, ↓hb.g1, ↓hb.g2, ↓hb.g3, ↓hb.g4, ↓hb.g5, h2'.1, g]
      rw [z_st_1 g, hw2, en]
    · have h5 : z_up m (b + 6) i v (b + 5) (i + 1) = m (b + 5) (i + 1) := z_up_a (by omega)
      simp (disch := ((try simp only [true_or, or_true, hb.k, hb.k1, hb.k2, hb.k3, hb.k4, hb.k5, hb.k6, hb.l1, hb.l2, hb.l3, hb.l4, hb.l5, hb.l6, hp.k, hp.k1, hp.k2, hp.k3, hp.k4, hp.k5, hp.k6, hp.k7, hp.k8, hp.k9, hp.k10, hp.l1, hp.l2, hp.l3, hp.l4, hp.l5, hp.l6, hp.l7, hp.l8, hp.l9, hp.l10]) <;> (try omega))) only [↓reduceIte, ↓z_ite, ↓zR, ↓zB_R, ↓zB_B, ↓zB_ite, ↓zB_gI, ↓zB_pI, ↓zB_pZ, ↓zB_aK, ↓zB_G, ↓zB_lI, ↓zB_lZ, ↓zB_wI, ↓zB_wZ, zB_pI, zB_pZ, zB_lI, zB_lZ, zB_wI, zB_wZ, z_addl, z_ladd, z_mull, z_lmul, nI_add, z_subl, z_10, z_01, z_bitc, z_b0, z_b1, ↓zB_Gb, ↓zB_G0, ↓zB_G1, z_eql, z_leq, z_ltl, z_llt, z_eq, z_lt, z_m1lt, hb.k, hb.k1, hb.k2, hb.k3, hb.k4, hb.k5, hb.k6, hb.l1, hb.l2, hb.l3, hb.l4, hb.l5, hb.l6, hp.k, hp.k1, hp.k2, hp.k3, hp.k4, hp.k5, hp.k6, hp.k7, hp.k8, hp.k9, hp.k10, hp.l1, hp.l2, hp.l3, hp.l4, hp.l5, hp.l6, hp.l7, hp.l8, hp.l9, hp.l10, ↓hb.g0, ↓hb.g1, ↓hb.g2, ↓hb.g3, ↓hb.g4, ↓hb.g5, ↓hp.g0, ↓hp.g1, ↓hp.g2, ↓hp.g3, ↓hp.g4, ↓hp.g5, ↓hp.g6, ↓hp.g7, ↓hp.g8, ↓hp.g9, ↓hp.gb, hp.gb, h2'.1, g, h5, show ¬ (6 : Int32) = 1 by decide, ↓zB_c (f84_sp hp hx.1 hw (h0 g) hw1), zB_c (f84_sp hp hx.1 hw (h0 g) hw1)]
      rw [z_st_6 g, en, ← hw2, show z_pt l i 0 = i + 1 from rfl]
      cases z_fit P (m (b + 5) (i + 1)) w <;> simp
  have e10 := f10_sp hb hcb hce hB.1 hi (name := nI n)
  have e98 := f98_sp hp h hw hk hl (nI n)
  have e86 := f86_sp hp h hw ho.1 hn
  have hbs : z_bs P k l (m (b + 5)) i = z_bv P k l i (nI n) := by unfold z_bs; rw [if_pos hv, en]
  unfold f27
  rw [hbs]
  cases e1 : z_le l i (nI n) with
  | some j =>
    obtain ⟨h3, _, _, h4, h5⟩ := z_le_some e1
    rw [e1] at e10
    refine ⟨nI j, ?_, fun _ => by unfold z_bv; rw [e1]⟩
    have h7 : z_up m (b + 6) i (nI j) (b + 5) (j + 1) = m (b + 5) (j + 1) := z_up_a (by omega)
    have h8 : ¬ nI j = -1 := z_nI_m1 (by omega)
    simp (disch := ((try simp only [true_or, or_true, hb.k, hb.k1, hb.k2, hb.k3, hb.k4, hb.k5, hb.k6, hb.l1, hb.l2, hb.l3, hb.l4, hb.l5, hb.l6, hp.k, hp.k1, hp.k2, hp.k3, hp.k4, hp.k5, hp.k6, hp.k7, hp.k8, hp.k9, hp.k10, hp.l1, hp.l2, hp.l3, hp.l4, hp.l5, hp.l6, hp.l7, hp.l8, hp.l9, hp.l10]) <;> (try omega))) only [↓reduceIte, ↓z_ite, ↓zR, ↓zB_R, ↓zB_B, ↓zB_ite, ↓zB_gI, ↓zB_pI, ↓zB_pZ, ↓zB_aK, ↓zB_G, ↓zB_lI, ↓zB_lZ, ↓zB_wI, ↓zB_wZ, zB_pI, zB_pZ, zB_lI, zB_lZ, zB_wI, zB_wZ, z_addl, z_ladd, z_mull, z_lmul, nI_add, z_subl, z_10, z_01, z_bitc, z_b0, z_b1, ↓zB_Gb, ↓zB_G0, ↓zB_G1, z_eql, z_leq, z_ltl, z_llt, z_eq, z_lt, z_m1lt, hb.k, hb.k1, hb.k2, hb.k3, hb.k4, hb.k5, hb.k6, hb.l1, hb.l2, hb.l3, hb.l4, hb.l5, hb.l6, hp.k, hp.k1, hp.k2, hp.k3, hp.k4, hp.k5, hp.k6, hp.k7, hp.k8, hp.k9, hp.k10, hp.l1, hp.l2, hp.l3, hp.l4, hp.l5, hp.l6, hp.l7, hp.l8, hp.l9, hp.l10, ↓hb.g0, ↓hb.g1, ↓hb.g2, ↓hb.g3, ↓hb.g4, ↓hb.g5, ↓hp.g0, ↓hp.g1, ↓hp.g2, ↓hp.g3, ↓hp.g4, ↓hp.g5, ↓hp.g6, ↓hp.g7, ↓hp.g8, ↓hp.g9, ↓hp.gb, hp.gb, h2.2.1, en, ↓zB_c e10, zB_c e10, ↓zB_c e98, zB_c e98, hh.1, ho.2, ↓zB_c e86, zB_c e86, z_oI, h8, h7]
    refine tail _ _ (hL j h3 h4 h5 (z_le_some e1).2.1) ?_
    unfold z_tb; rw [e1]
  | none =>
    rw [e1] at e10
    cases e2 : z_pc P k (nI n) with
    | some j =>
      have hj : j < z_cnt P k ∧ j < 2 ∧ (-1 : Int32) - nI j = z_bv P k l i (nI n) ∧ z_tb P k l (m (b + 5)) i (nI n) = z_hd P k (6 + j) := by
        unfold z_pc at e2
        unfold z_bv z_tb
        rw [e1]
        split at e2
        · rename_i g
          cases e2
          simp only [g, and_self, if_true]
          exact ⟨trivial, by decide, rfl, trivial⟩
        · rename_i g
          split at e2
          · rename_i g2
            cases e2
            simp only [g, g2, and_self, if_true, if_false]
            exact ⟨trivial, by decide, rfl, trivial⟩
          · cases e2
      rw [e2] at e98
      refine ⟨-1 - nI j, ?_, fun _ => hj.2.2.1⟩
      have h7 : z_up m (b + 6) i (-1 - nI j) (p + 8) (k * 2 + j) = z_hd P k (6 + j) := by
        rw [z_up_a]
        · exact hh.2.2.2.2.2 j hj.1
        · unfold z_ap z_bi at ha
          rcases ha with ⟨q, hq, rfl⟩ | ha | ha <;> omega
      have h8 : ¬ nI j = -1 := z_nI_m1 (by omega)
      simp (disch := ((try simp only [true_or, or_true, hb.k, hb.k1, hb.k2, hb.k3, hb.k4, hb.k5, hb.k6, hb.l1, hb.l2, hb.l3, hb.l4, hb.l5, hb.l6, hp.k, hp.k1, hp.k2, hp.k3, hp.k4, hp.k5, hp.k6, hp.k7, hp.k8, hp.k9, hp.k10, hp.l1, hp.l2, hp.l3, hp.l4, hp.l5, hp.l6, hp.l7, hp.l8, hp.l9, hp.l10]) <;> (try omega))) only [↓reduceIte, ↓z_ite, ↓zR, ↓zB_R, ↓zB_B, ↓zB_ite, ↓zB_gI, ↓zB_pI, ↓zB_pZ, ↓zB_aK, ↓zB_G, ↓zB_lI, ↓zB_lZ, ↓zB_wI, ↓zB_wZ, zB_pI, zB_pZ, zB_lI, zB_lZ, zB_wI, zB_wZ, z_addl, z_ladd, z_mull, z_lmul, nI_add, z_subl, z_10, z_01, z_bitc, z_b0, z_b1, ↓zB_Gb, ↓zB_G0, ↓zB_G1, z_eql, z_leq, z_ltl, z_llt, z_eq, z_lt, z_m1lt, hb.k, hb.k1, hb.k2, hb.k3, hb.k4, hb.k5, hb.k6, hb.l1, hb.l2, hb.l3, hb.l4, hb.l5, hb.l6, hp.k, hp.k1, hp.k2, hp.k3, hp.k4, hp.k5, hp.k6, hp.k7, hp.k8, hp.k9, hp.k10, hp.l1, hp.l2, hp.l3, hp.l4, hp.l5, hp.l6, hp.l7, hp.l8, hp.l9, hp.l10, ↓hb.g0, ↓hb.g1, ↓hb.g2, ↓hb.g3, ↓hb.g4, ↓hb.g5, ↓hp.g0, ↓hp.g1, ↓hp.g2, ↓hp.g3, ↓hp.g4, ↓hp.g5, ↓hp.g6, ↓hp.g7, ↓hp.g8, ↓hp.g9, ↓hp.gb, hp.gb, h2.2.1, en, ↓zB_c e10, zB_c e10, ↓zB_c e98, zB_c e98, hh.1, ho.2, ↓zB_c e86, zB_c e86, z_oI, h8, h7]
      exact tail _ _ (z_tw_ty' (z_bd_ty hw hk hj.1)) hj.2.2.2.symm
    | none =>
      rw [e2] at e98
      have hpc : ¬ (0 < z_cnt P k ∧ z_hd P k 4 = nI n) ∧ ¬ (1 < z_cnt P k ∧ z_hd P k 5 = nI n) := by
        unfold z_pc at e2
        split at e2
        · cases e2
        · rename_i g
          split at e2
          · cases e2
          · rename_i g2; exact ⟨g, g2⟩
      cases e3 : z_fc P (z_own P k) n with
      | some c =>
        rw [e3] at e86
        obtain ⟨h3, h4, h5⟩ := z_fc_some e3
        have hty := z_fld_ty hw (by omega) hn h5
        have etb : z_tb P k l (m (b + 5)) i (nI n) = z_fld P c n - 2 := by
          unfold z_tb; rw [e1]; simp only [hpc, if_false]; rw [nI_clamp (by omega), e3]
        refine ⟨nI (1000 + c), ?_, fun _ => by unfold z_bv; rw [e1]; simp only [hpc, if_false]; rw [nI_clamp (by omega), e3]⟩
        have hx : z_CK (z_up m (b + 6) i (nI (1000 + c))) p P b R l := z_CK_fr h24 ha (fun a _ h6 => z_up_row h6) ⟨h, hcb, hce⟩
        have h8 : ¬ nI c = -1 := z_nI_m1 (by omega)
        have h9 : z_in (nI n) 16 = true := (z_in_iff (by decide)).mpr ⟨n, hn, rfl⟩
        have e85 := f85_sp hp hx.1 hw (c := c) (by omega) (nI n)
        rw [h9, if_pos rfl, nI_clamp (by omega), hty.2] at e85
        simp (disch := ((try simp only [true_or, or_true, hb.k, hb.k1, hb.k2, hb.k3, hb.k4, hb.k5, hb.k6, hb.l1, hb.l2, hb.l3, hb.l4, hb.l5, hb.l6, hp.k, hp.k1, hp.k2, hp.k3, hp.k4, hp.k5, hp.k6, hp.k7, hp.k8, hp.k9, hp.k10, hp.l1, hp.l2, hp.l3, hp.l4, hp.l5, hp.l6, hp.l7, hp.l8, hp.l9, hp.l10]) <;> (try omega))) only [↓reduceIte, ↓z_ite, ↓zR, ↓zB_R, ↓zB_B, ↓zB_ite, ↓zB_gI, ↓zB_pI, ↓zB_pZ, ↓zB_aK, ↓zB_G, ↓zB_lI, ↓zB_lZ, ↓zB_wI, ↓zB_wZ, zB_pI, zB_pZ, zB_lI, zB_lZ, zB_wI, zB_wZ, z_addl, z_ladd, z_mull, z_lmul, nI_add, z_subl, z_10, z_01, z_bitc, z_b0, z_b1, ↓zB_Gb, ↓zB_G0, ↓zB_G1, z_eql, z_leq, z_ltl, z_llt, z_eq, z_lt, z_m1lt, hb.k, hb.k1, hb.k2, hb.k3, hb.k4, hb.k5, hb.k6, hb.l1, hb.l2, hb.l3, hb.l4, hb.l5, hb.l6, hp.k, hp.k1, hp.k2, hp.k3, hp.k4, hp.k5, hp.k6, hp.k7, hp.k8, hp.k9, hp.k10, hp.l1, hp.l2, hp.l3, hp.l4, hp.l5, hp.l6, hp.l7, hp.l8, hp.l9, hp.l10, ↓hb.g0, ↓hb.g1, ↓hb.g2, ↓hb.g3, ↓hb.g4, ↓hb.g5, ↓hp.g0, ↓hp.g1, ↓hp.g2, ↓hp.g3, ↓hp.g4, ↓hp.g5, ↓hp.g6, ↓hp.g7, ↓hp.g8, ↓hp.g9, ↓hp.gb, hp.gb, h2.2.1, en, ↓zB_c e10, zB_c e10, ↓zB_c e98, zB_c e98, hh.1, ho.2, ↓zB_c e86, zB_c e86, z_oI, h8, ↓zB_c e85, zB_c e85]
        exact tail _ _ (z_tw_ty hty.1) etb.symm
      | none =>
        rw [e3] at e86
        have etb : z_tb P k l (m (b + 5)) i (nI n) = -3 := by
          unfold z_tb; rw [e1]; simp only [hpc, if_false]; rw [nI_clamp (by omega), e3]
        refine ⟨m (b + 6) i, ?_, fun g => ?_⟩
        · simp (disch := ((try simp only [true_or, or_true, hb.k, hb.k1, hb.k2, hb.k3, hb.k4, hb.k5, hb.k6, hb.l1, hb.l2, hb.l3, hb.l4, hb.l5, hb.l6, hp.k, hp.k1, hp.k2, hp.k3, hp.k4, hp.k5, hp.k6, hp.k7, hp.k8, hp.k9, hp.k10, hp.l1, hp.l2, hp.l3, hp.l4, hp.l5, hp.l6, hp.l7, hp.l8, hp.l9, hp.l10]) <;> (try omega))) only [↓reduceIte, ↓z_ite, ↓zR, ↓zB_R, ↓zB_B, ↓zB_ite, ↓zB_gI, ↓zB_pI, ↓zB_pZ, ↓zB_aK, ↓zB_G, ↓zB_lI, ↓zB_lZ, ↓zB_wI, ↓zB_wZ, zB_pI, zB_pZ, zB_lI, zB_lZ, zB_wI, zB_wZ, z_addl, z_ladd, z_mull, z_lmul, nI_add, z_subl, z_10, z_01, z_bitc, z_b0, z_b1, ↓zB_Gb, ↓zB_G0, ↓zB_G1, z_eql, z_leq, z_ltl, z_llt, z_eq, z_lt, z_m1lt, hb.k, hb.k1, hb.k2, hb.k3, hb.k4, hb.k5, hb.k6, hb.l1, hb.l2, hb.l3, hb.l4, hb.l5, hb.l6, hp.k, hp.k1, hp.k2, hp.k3, hp.k4, hp.k5, hp.k6, hp.k7, hp.k8, hp.k9, hp.k10, hp.l1, hp.l2, hp.l3, hp.l4, hp.l5, hp.l6, hp.l7, hp.l8, hp.l9, hp.l10, ↓hb.g0, ↓hb.g1, ↓hb.g2, ↓hb.g3, ↓hb.g4, ↓hb.g5, ↓hp.g0, ↓hp.g1, ↓hp.g2, ↓hp.g3, ↓hp.g4, ↓hp.g5, ↓hp.g6, ↓hp.g7, ↓hp.g8, ↓hp.g9, ↓hp.gb, hp.gb, h2.2.1, en, ↓zB_c e10, zB_c e10, ↓zB_c e98, zB_c e98, hh.1, ho.2, ↓zB_c e86, zB_c e86, z_oI]
          have := tail (m (b + 6) i) (-3) (Or.inl (by decide)) etb.symm
          rw [z_up_id] at this ⊢
          exact this
        · exfalso
          apply g
          rcases hv with g1 | g1
          · rw [z_st_1 g1, en, etb]
          · rw [z_st_6 g1, en, etb]; split <;> rfl
end
