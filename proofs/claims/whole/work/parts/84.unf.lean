/-! told nodes unfolded into a body -/
/-- row R holds a pile, its top first in s -/
def z_stk (m : z_m) (R : Nat) (s : List Nat) : Prop := ∀ j, j < s.length → m R j = nI (s.getD (s.length - 1 - j) 0)
theorem z_stk_push {m : z_m} {R tn : Nat} {f : Nat → Nat} {s : List Nat} (h1 : ∀ j, j < s.length → m R j = nI (s.getD (s.length - 1 - j) 0)) (h2 : ∀ t, t < tn → m R (s.length + t) = nI (f (tn - 1 - t))) : z_stk m R ((List.range' 0 tn).map f ++ s) := by
  intro j hj
  have hl : ((List.range' 0 tn).map f ++ s).length = tn + s.length := by simp
  rw [hl] at hj ⊢
  rcases Nat.lt_or_ge j s.length with g | g
  · rw [h1 j g, List.getD_eq_getElem?_getD, List.getD_eq_getElem?_getD, List.getElem?_append_right (by simp; omega)]
    rw [show tn + s.length - 1 - j - ((List.range' 0 tn).map f).length = s.length - 1 - j by rw [List.length_map, List.length_range']; omega]
  · obtain ⟨t, rfl⟩ : ∃ t, j = s.length + t := ⟨j - s.length, by omega⟩
    rw [h2 t (by omega), List.getD_eq_getElem?_getD, List.getElem?_append_left (by simp; omega)]
    rw [show tn + s.length - 1 - (s.length + t) = tn - 1 - t by omega, List.getElem?_map, List.getElem?_range' (by omega)]
    simp
section
variable {τ : List z_TN} {nc : Nat}
theorem z_tree_pos (i : Nat) : 0 < (z_tree τ i).length := Nat.succ_pos _
theorem z_pil_len : ∀ s : List Nat, s.length ≤ (z_pil τ s).length
  | [] => Nat.le_refl _
  | i :: s => by
    have := z_pil_len s
    have := z_tree_pos (τ := τ) i
    show s.length + 1 ≤ (z_tree τ i ++ z_pil τ s).length
    rw [List.length_append]; omega
variable {S : z_S} {m : z_m}
theorem f122_74_sp (hX : z_XS S) (hW : z_tW nc τ) (h : z_cT m τ) {b x h0 w : Nat} (hx : x < τ.length) (hh : h0 + z_tn (z_tat τ x) ≤ 60) (hw : w < 60) : ∃ m', f122_74 1 b (nI h0) (nI w) (nI x) (nI (z_tn (z_tat τ x)) - 1) (z_hp S m) = some (.inl (1, b, nI (h0 + z_tn (z_tat τ x)), nI (w + 1)), z_hp S m') ∧ (∀ a, a ≠ 7 → m' a = m a) ∧ (∀ j, j < h0 → m' 7 j = m 7 j) ∧ ∀ t, t < z_tn (z_tat τ x) → m' 7 (h0 + t) = nI (z_tq (z_tat τ x) (z_tn (z_tat τ x) - 1 - t)) := by
  have hl := hW.1
  obtain ⟨_, h3, hp⟩ := hW.2 x hx
  have hT := (h.2 x hx).2.2.2.1
  generalize z_tn (z_tat τ x) = tn at *
  rw [z_pI_m]
  unfold f122_74
  refine z_loopI (f := fun s => f122_74b (s.1) (s.2.1) (s.2.2.1) (s.2.2.2.1) (s.2.2.2.2.1) (s.2.2.2.2.2)) (S := S) (fun k s m' => ∃ t, k = tn - t ∧ t ≤ tn ∧ s = (1, b, nI (h0 + t), nI w, nI x, z_pI (tn - t)) ∧ (∀ a, a ≠ 7 → m' a = m a) ∧ (∀ j, j < h0 → m' 7 j = m 7 j) ∧ ∀ t', t' < t → m' 7 (h0 + t') = nI (z_tq (z_tat τ x) (tn - 1 - t'))) (fun r m' => r = .inl (1, b, nI (h0 + tn), nI (w + 1)) ∧ (∀ a, a ≠ 7 → m' a = m a) ∧ (∀ j, j < h0 → m' 7 j = m 7 j) ∧ ∀ t, t < tn → m' 7 (h0 + t) = nI (z_tq (z_tat τ x) (tn - 1 - t))) ?_ 1000000 tn _ m ⟨0, rfl, Nat.zero_le _, rfl, fun _ _ => rfl, fun _ _ => rfl, fun t ht => absurd ht (Nat.not_lt_zero _)⟩ (by omega) |> fun ⟨r, m', e, hr, hq⟩ => ⟨m', by rw [hr] at e; exact e, hq⟩
  rintro n s m' ⟨t, rfl, ht, rfl, g1, g2, g3⟩
  dsimp only
  rcases Nat.eq_or_lt_of_le ht with ht2 | ht2
  · refine Or.inr ⟨_, m', ?_, rfl, g1, g2, fun t' ht' => g3 t' (by omega)⟩
    unfold f122_74b f122_106
    rw [ht2, Nat.sub_self, z_pI_0]
    simp (disch := ((try simp only [true_or, or_true, hX.k0, hX.k1, hX.k2, hX.k3, hX.k4, hX.k5, hX.k6, hX.k7, hX.l2, hX.l3, hX.l4, hX.l5, hX.l6, hX.l7]) <;> (try omega))) only [↓reduceIte, ↓z_ite, ↓zR, ↓zB_R, ↓zB_B, ↓zB_ite, ↓zB_gI, ↓zB_pI, ↓zB_pZ, ↓zB_aK, ↓zB_G, ↓zB_lI, ↓zB_lZ, ↓zB_wI, ↓zB_wZ, ↓zB_lIl, ↓zB_wIl, zB_pI, zB_pZ, zB_lI, zB_lZ, zB_wI, zB_wZ, z_addl, z_ladd, z_mull, z_lmul, nI_add, z_subl, Nat.not_lt_zero, z_10, z_01, z_bitc, z_b0, z_b1, ↓zB_Gb, ↓zB_G0, ↓zB_G1, z_eql, z_leq, z_ltl, z_llt, z_eq, z_lt, z_m1lt, hX.k0, hX.k1, hX.k2, hX.k3, hX.k4, hX.k5, hX.k6, hX.k7, hX.l2, hX.l3, hX.l4, hX.l5, hX.l6, hX.l7, ↓hX.g0_0, ↓hX.g0_1, ↓hX.g0_2, ↓hX.g0_3, ↓hX.g0_4, ↓hX.g0_5, ↓hX.g0_6, ↓hX.g0_7, ↓hX.g0_8, ↓hX.g0_9, ↓hX.g1_0, ↓hX.g1_1, ↓hX.g1_2, ↓hX.g1_3, ↓hX.g1_4, ↓hX.g1_5]
  · refine Or.inl ⟨_, z_up m' 7 (h0 + t) (nI (z_tq (z_tat τ x) (tn - 1 - t))), tn - (t + 1), ?_, by omega, t + 1, rfl, ht2, rfl, fun a x1 => by rw [z_up_row x1]; exact g1 a x1, fun j hj => by rw [z_up_b (by omega)]; exact g2 j hj, fun t' ht' => ?_⟩
    · have e1 : m' 5 (x * 3 + (tn - 1 - t)) = nI (z_tq (z_tat τ x) (tn - 1 - t)) := by
        rw [g1 5 (by decide)]; exact hT _ (by omega)
      have e2 : tn - t = (tn - 1 - t) + 1 := by omega
      have e3 : z_pI (tn - (t + 1)) = nI (tn - 1 - t) + (-1) := by rw [z_pI_e]; congr 1; omega
      unfold f122_74b
      rw [e2, z_pI_s, e3]
      simp (disch := ((try simp only [true_or, or_true, hX.k0, hX.k1, hX.k2, hX.k3, hX.k4, hX.k5, hX.k6, hX.k7, hX.l2, hX.l3, hX.l4, hX.l5, hX.l6, hX.l7]) <;> (try omega))) only [↓reduceIte, ↓z_ite, ↓zR, ↓zB_R, ↓zB_B, ↓zB_ite, ↓zB_gI, ↓zB_pI, ↓zB_pZ, ↓zB_aK, ↓zB_G, ↓zB_lI, ↓zB_lZ, ↓zB_wI, ↓zB_wZ, ↓zB_lIl, ↓zB_wIl, zB_pI, zB_pZ, zB_lI, zB_lZ, zB_wI, zB_wZ, z_addl, z_ladd, z_mull, z_lmul, nI_add, z_subl, Nat.not_lt_zero, z_10, z_01, z_bitc, z_b0, z_b1, ↓zB_Gb, ↓zB_G0, ↓zB_G1, z_eql, z_leq, z_ltl, z_llt, z_eq, z_lt, z_m1lt, hX.k0, hX.k1, hX.k2, hX.k3, hX.k4, hX.k5, hX.k6, hX.k7, hX.l2, hX.l3, hX.l4, hX.l5, hX.l6, hX.l7, ↓hX.g0_0, ↓hX.g0_1, ↓hX.g0_2, ↓hX.g0_3, ↓hX.g0_4, ↓hX.g0_5, ↓hX.g0_6, ↓hX.g0_7, ↓hX.g0_8, ↓hX.g0_9, ↓hX.g1_0, ↓hX.g1_1, ↓hX.g1_2, ↓hX.g1_3, ↓hX.g1_4, ↓hX.g1_5, e1]
      rfl
    · rcases Nat.lt_succ_iff_lt_or_eq.mp ht' with x1 | x1
      · rw [z_up_b (by omega)]; exact g3 t' x1
      · rw [x1, z_up_s]
end
