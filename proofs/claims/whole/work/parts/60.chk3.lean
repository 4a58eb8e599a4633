/-! the checker: a body -/
section
variable {S : z_S} {m : z_m} {p b R k i : Nat} {P : z_Pg} {l : List z_N}
/-- Body.measure -/
theorem f8_sp (hb : z_BS S b R) (h : z_cb m b R l) (ht : z_tr l) : ∃ m', f8 b (z_hp S m) = some ((), z_hp S m') ∧ z_ce m' b l ∧ ∀ a, a ≠ b + 4 → m' a = m a := by
  have h1 := h.2.1
  have hR := h.2.2.1
  have hR2 := h.2.2.2.1
  unfold f8
  simp (disch := ((try simp only [true_or, or_true, hb.k, hb.k1, hb.k2, hb.k3, hb.k4, hb.k5, hb.k6, hb.l1, hb.l2, hb.l3, hb.l4, hb.l5, hb.l6]) <;> (try omega))) only [↓reduceIte, ↓z_ite, ↓zR, ↓zB_R, ↓zB_B, ↓zB_ite, ↓zB_gI, ↓zB_pI, ↓zB_pZ, ↓zB_aK, ↓zB_G, ↓zB_lI, ↓zB_lZ, ↓zB_wI, ↓zB_wZ, zB_pI, zB_pZ, zB_lI, zB_lZ, zB_wI, zB_wZ, z_addl, z_ladd, z_mull, z_lmul, nI_add, z_subl, Nat.not_lt_zero, z_10, z_01, z_bitc, z_b0, z_b1, ↓zB_Gb, ↓zB_G0, ↓zB_G1, z_eql, z_leq, z_ltl, z_llt, z_eq, z_lt, z_m1lt, hb.k, hb.k1, hb.k2, hb.k3, hb.k4, hb.k5, hb.k6, hb.l1, hb.l2, hb.l3, hb.l4, hb.l5, hb.l6, ↓hb.g0, ↓hb.g1, ↓hb.g2, ↓hb.g3, ↓hb.g4, ↓hb.g5, h1, z_pI_m]
  unfold f8_7
  have key := z_loopI (f := fun s => f8_7b (s.1) (s.2)) (S := S) (fun n s m' => n ≤ l.length ∧ s = (b, z_pI n) ∧ (∀ a, a ≠ b + 4 → m' a = m a) ∧ ∀ j, n ≤ j → j < l.length → m' (b + 4) j = nI (z_en l j)) (fun _ m' => (∀ a, a ≠ b + 4 → m' a = m a) ∧ ∀ j, j < l.length → m' (b + 4) j = nI (z_en l j)) ?_ 1000000 l.length (b, z_pI l.length) m ⟨Nat.le_refl _, rfl, fun _ _ => rfl, fun j h1 h2 => by omega⟩ (by omega)
  · obtain ⟨r, m', e, h3, h4⟩ := key
    exact ⟨m', e, h4, h3⟩
  · rintro n s m' ⟨hn, rfl, hm, he⟩
    cases n with
    | zero =>
      refine Or.inr ⟨(), m', ?_, hm, fun j hj => he j (Nat.zero_le _) hj⟩
      dsimp only
      unfold f8_7b f8_34
      simp (disch := ((try simp only [true_or, or_true]) <;> (try omega))) only [↓reduceIte, ↓z_ite, ↓zR, ↓zB_R, ↓zB_B, ↓zB_ite, ↓zB_gI, ↓zB_pI, ↓zB_pZ, ↓zB_aK, ↓zB_G, ↓zB_lI, ↓zB_lZ, ↓zB_wI, ↓zB_wZ, zB_pI, zB_pZ, zB_lI, zB_lZ, zB_wI, zB_wZ, z_addl, z_ladd, z_mull, z_lmul, nI_add, z_subl, Nat.not_lt_zero, z_10, z_01, z_bitc, z_b0, z_b1, ↓zB_Gb, ↓zB_G0, ↓zB_G1, z_eql, z_leq, z_ltl, z_llt, z_eq, z_lt, z_m1lt, z_pI_0, z_m1l]
    | succ q =>
      have hc := z_cb_fr (m' := m') (fun a h3 h4 => hm a (by omega)) h
      have h2 := hc.2.2.2.2 q (by omega)
      have hpl := z_p_lt ht (i := q) (by omega)
      have e9 := f9_sp hb hc ht (i := q) (by omega) (fun j h3 h4 => he j (by omega) h4) (z_p l q) (by omega)
      rw [← z_en_eq (by omega)] at e9
      have hle := z_en_le ht (i := q) (by omega)
      refine Or.inl ⟨(b, z_pI q), z_up m' (b + 4) q (nI (z_en l q)), q, ?_, by omega, by omega, rfl, fun a h3 => ?_, fun j h3 h4 => ?_⟩
      · dsimp only
        unfold f8_7b
        simp (disch := ((try simp only [true_or, or_true, hb.k, hb.k1, hb.k2, hb.k3, hb.k4, hb.k5, hb.k6, hb.l1, hb.l2, hb.l3, hb.l4, hb.l5, hb.l6]) <;> (try omega))) only [↓reduceIte, ↓z_ite, ↓zR, ↓zB_R, ↓zB_B, ↓zB_ite, ↓zB_gI, ↓zB_pI, ↓zB_pZ, ↓zB_aK, ↓zB_G, ↓zB_lI, ↓zB_lZ, ↓zB_wI, ↓zB_wZ, zB_pI, zB_pZ, zB_lI, zB_lZ, zB_wI, zB_wZ, z_addl, z_ladd, z_mull, z_lmul, nI_add, z_subl, Nat.not_lt_zero, z_10, z_01, z_bitc, z_b0, z_b1, ↓zB_Gb, ↓zB_G0, ↓zB_G1, z_eql, z_leq, z_ltl, z_llt, z_eq, z_lt, z_m1lt, hb.k, hb.k1, hb.k2, hb.k3, hb.k4, hb.k5, hb.k6, hb.l1, hb.l2, hb.l3, hb.l4, hb.l5, hb.l6, ↓hb.g0, ↓hb.g1, ↓hb.g2, ↓hb.g3, ↓hb.g4, ↓hb.g5, z_pI_s, z_pI_e, nI_pos, h2.2.2, ↓zB_c e9, zB_c e9]
      · rw [z_up_row h3]; exact hm a h3
      · rcases Nat.eq_or_lt_of_le h3 with h5 | h5
        · rw [← h5, z_up_s]
        · rw [z_up_b (by omega)]; exact he j h5 h4
/-- what stands of a body while it is looked at: done is D -/
def z_DN (m : z_m) (P : z_Pg) (k b : Nat) (l : List z_N) (D : Nat → Prop) : Prop := (∀ j, D j → j < l.length ∧ (∀ q, q < z_p l j → D (z_pt l j q)) ∧ (∀ q, q < j → j < z_en l q → z_en l (q + 1) ≤ j → D (q + 1))) ∧ ∀ j, D j → m (b + 5) j = z_st P k l (m (b + 5)) j ∧ m (b + 5) j ≠ -3 ∧ m (b + 6) j = z_bs P k l (m (b + 5)) j ∧ z_tw P (m (b + 5) j)
theorem z_bs_congr {nc : Nat} (hw : z_wB nc l) {T T' : Nat → Int32} {i : Nat} (hi : i < l.length) (hp : ∀ j, j < z_p l i → T (z_pt l i j) = T' (z_pt l i j)) : z_bs P k l T i = z_bs P k l T' i := by
  unfold z_bs
  split
  · rfl
  split
  · rename_i h
    have : 0 < z_p l i := by
      rcases h with h | h
      · rw [z_p_3 h]; decide
      · rw [z_p_4 h]; decide
    rw [hp 0 this]
  split
  · rename_i h
    have : 0 < z_p l i := by rcases z_pn_ka hw hi h with ⟨_, h2⟩ | ⟨_, h2⟩ | ⟨_, h2⟩ <;> rw [h2] <;> decide
    rw [hp 0 this]
  · rfl
theorem z_DN_fr {m m' : z_m} {D : Nat → Prop} (h : ∀ j, D j → m' (b + 5) j = m (b + 5) j ∧ m' (b + 6) j = m (b + 6) j) (hB : z_wB (z_nc P) l) (hd : z_DN m P k b l D) : z_DN m' P k b l D := by
  refine ⟨hd.1, fun j hj => ?_⟩
  obtain ⟨h1, h2, h3⟩ := hd.1 j hj
  obtain ⟨h4, h5, h6, h7⟩ := hd.2 j hj
  have e1 : z_st P k l (m' (b + 5)) j = z_st P k l (m (b + 5)) j := z_st_congr hB h1 (fun q hq => (h _ (h2 q hq)).1) (fun q h8 h9 h10 _ => (h _ (h3 q h8 h9 h10)).1)
  have e2 : z_bs P k l (m' (b + 5)) j = z_bs P k l (m (b + 5)) j := z_bs_congr hB h1 (fun q hq => (h _ (h2 q hq)).1)
  rw [e1, e2, (h j hj).1, (h j hj).2]
  exact ⟨h4, h5, h6, h7⟩
theorem z_DN_uq {D : Nat → Prop} {T : Nat → Int32} (hB : z_wB (z_nc P) l) (hd : z_DN m P k b l D) (hT : z_ok P k l T) : ∀ j, j < l.length → D j → m (b + 5) j = T j := by
  refine z_ind hB.1 (M := fun j => D j → m (b + 5) j = T j) (fun i hi h1 h2 hD => ?_)
  obtain ⟨_, h3, h4⟩ := hd.1 i hD
  rw [(hd.2 i hD).1, (hT.1 i hi).1]
  exact z_st_congr hB hi (fun q hq => h1 q hq (h3 q hq)) (fun q h5 h6 h7 _ => h2 q h5 h6 h7 (h4 q h5 h6 h7))
theorem z_st_tw (hw : z_wf P) (hk : k < z_nm P) (hB : z_wB (z_nc P) l) (hi : i < l.length) {T : Nat → Int32} (hT : ∀ q, q < z_p l i → z_tw P (T (z_pt l i q))) (hL : ∀ j, j < i → i < z_en l j → z_en l (j + 1) ≤ i → z_k l j = 5 → z_tw P (T (j + 1))) : z_tw P (z_st P k l T i) := by
  have h6 := hw.1.1
  have n3 : z_tw P (-3) := Or.inl (by decide)
  have n2 : z_tw P (-2) := Or.inl (by decide)
  have n1 : z_tw P (-1) := Or.inl (by decide)
  have jn : ∀ t w, z_tw P t → z_tw P w → z_tw P (z_jn P t w) := by
    intro t w h1 h2
    unfold z_jn
    split
    · exact h1
    · split
      · exact h2
      · exact n3
  have acc : ∀ t w n put, (∃ j, j < 16 ∧ n = nI j) → z_tw P t → z_tw P (z_tA P t w n put) := by
    rintro t w n put ⟨j, hj, rfl⟩ ht
    unfold z_tA
    split
    · rename_i c e
      unfold z_ac at e
      split at e
      · cases e
      · rename_i g
        rcases ht with h1 | ⟨d, hd, rfl⟩
        · exact absurd h1 g
        · rw [nI_clamp (by omega), nI_clamp (by omega)] at e
          obtain ⟨h1, h2, h3⟩ := z_fc_some e
          have := z_tw_ty (z_fld_ty hw (c := c) (by omega) hj h3).1
          rw [nI_clamp (by omega)]
          split
          · split
            · exact this
            · exact n3
          · exact this
    · exact n3
  rcases z_kc hB hi with g | g | g | g | g | g | g | g | g | g | g | g | g | g
  · rw [z_st_0 g]; exact n1
  · obtain ⟨n, hn, en⟩ := z_v_nm hB hi (Or.inl g)
    rw [z_st_1 g, en]; exact z_tb_tw hw hk hn hL
  · rw [z_st_2 g, (z_own_e hw hk).2]; exact Or.inr ⟨_, (z_own_e hw hk).1, rfl⟩
  · rw [z_st_3 g]; exact acc _ _ _ _ (z_v_nm hB hi (by simp [g])) (hT 0 (by rw [z_p_3 g]; decide))
  · rw [z_st_4 g]; exact acc _ _ _ _ (z_v_nm hB hi (by simp [g])) (hT 0 (by rw [z_p_4 g]; decide))
  · rw [z_st_5 g]; exact hT 1 (by rw [z_p_5 g]; decide)
  · obtain ⟨n, hn, en⟩ := z_v_nm hB hi (by simp [g])
    rw [z_st_6 g, en]
    split
    · exact z_tb_tw hw hk hn hL
    · exact n3
  · rw [z_st_7 g]
    unfold z_tC
    split
    · rename_i q e
      unfold z_cl at e
      split at e
      · cases e
      · rename_i g2
        rcases hT 0 (by rcases z_pn_ka hB hi g with ⟨_, h2⟩ | ⟨_, h2⟩ | ⟨_, h2⟩ <;> rw [h2] <;> decide) with h1 | ⟨d, hd, e2⟩
        · exact absurd h1 g2
        · rw [e2, nI_clamp (by omega)] at e
          have h3 := ((z_fm_some hw hd).mp e).1
          split
          · exact z_tw_ty (hw.2.2.2.1 q h3).2.2.2.2.2
          · exact n3
    · exact n3
  · rw [z_st_8 g]
    obtain ⟨n, hn, e⟩ := (z_wN_at hB hi).2.2.2 g
    exact Or.inr ⟨n, hn, e⟩
  · rw [z_st_9 g]; exact hT 1 (by rw [z_p_9 g]; decide)
  · rw [z_st_10 g]
    split
    · exact jn _ _ (hT 1 (by rw [z_p_10 g]; decide)) (hT 2 (by rw [z_p_10 g]; decide))
    · exact n3
  · rw [z_st_11 g]
    split
    · exact n1
    · exact n3
  · rw [z_st_12 g]
    split
    · exact n2
    · exact n3
  · rw [z_st_13 g]; exact jn _ _ (hT 0 (by rw [z_p_13 g]; decide)) (hT 1 (by rw [z_p_13 g]; decide))
end
