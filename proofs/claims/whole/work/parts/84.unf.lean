/-! told nodes unfolded into a body -/
/-- row R holds a pile, its top first in s -/
def z_stk (m : z_m) (R : Nat) (s : List Nat) : Prop := ∀ j, j < s.length → m R j = nI (s.getD (s.length - 1 - j) 0)
theorem z_stk_push {m : z_m} {R tn : Nat} {f : Nat → Nat} {s : List Nat} (h1 : ∀ j, j < s.length → m R j = nI (s.getD (s.length - 1 - j) 0)) (h2 : ∀ t, t < tn → m R (s.length + t) = nI (f (tn - 1 - t))) : z_stk m R ((List.range' 0 tn).map f ++ s) := by
  intro j hj
  have hl : ((List.range' 0 tn).map f ++ s).length = tn + s.length := by simp
  rw [hl] at hj ⊢
  rcases Nat.lt_or_ge j s.length with g | g
  · rw [h1 j g, List.getD_eq_getElem?_getD, List.getD_eq_getElem?_getD, List.getElem?_append_right (by simp; omega)]
    rw [show tn + s.length - 1 - j - ((List.range' 0 tn).map f).length = s.length - 1 - j by rw [List.length_map, List.length_range']; omega]
  · obtain ⟨t, rfl⟩ : ∃ t, j = s.length + t := ⟨j - s.length, by omega⟩
    rw [h2 t (by omega), List.getD_eq_getElem?_getD, List.getElem?_append_left (by simp; omega)]
    rw [show tn + s.length - 1 - (s.length + t) = tn - 1 - t by omega, List.getElem?_map, List.getElem?_range' (by omega)]
    simp
section
variable {τ : List z_TN} {nc : Nat}
theorem z_tree_pos (i : Nat) : 0 < (z_tree τ i).length := Nat.succ_pos _
theorem z_pil_len : ∀ s : List Nat, s.length ≤ (z_pil τ s).length
  | [] => Nat.le_refl _
  | i :: s => by
    have := z_pil_len s
    have := z_tree_pos (τ := τ) i
    show s.length + 1 ≤ (z_tree τ i ++ z_pil τ s).length
    rw [List.length_append]; omega
variable {S : z_S} {m : z_m}
theorem f122_74_sp (hX : z_XS S) (hW : z_tW nc τ) (h : z_cT m τ) {b x h0 w : Nat} (hx : x < τ.length) (hh : h0 + z_tn (z_tat τ x) ≤ 60) (hw : w < 60) : ∃ m', f122_74 1 b (nI h0) (nI w) (nI x) (nI (z_tn (z_tat τ x)) - 1) (z_hp S m) = some (.inl (1, b, nI (h0 + z_tn (z_tat τ x)), nI (w + 1)), z_hp S m') ∧ (∀ a, a ≠ 7 → m' a = m a) ∧ (∀ j, j < h0 → m' 7 j = m 7 j) ∧ ∀ t, t < z_tn (z_tat τ x) → m' 7 (h0 + t) = nI (z_tq (z_tat τ x) (z_tn (z_tat τ x) - 1 - t)) := by
  have hl := hW.1
  obtain ⟨_, h3, hp⟩ := hW.2 x hx
  have hT := (h.2 x hx).2.2.2.1
  generalize z_tn (z_tat τ x) = tn at *
  rw [z_pI_m]
  unfold f122_74
  refine z_loopI (f := fun s => f122_74b (s.1) (s.2.1) (s.2.2.1) (s.2.2.2.1) (s.2.2.2.2.1) (s.2.2.2.2.2)) (S := S) (fun k s m' => ∃ t, k = tn - t ∧ t ≤ tn ∧ s = (1, b, nI (h0 + t), nI w, nI x, z_pI (tn - t)) ∧ (∀ a, a ≠ 7 → m' a = m a) ∧ (∀ j, j < h0 → m' 7 j = m 7 j) ∧ ∀ t', t' < t → m' 7 (h0 + t') = nI (z_tq (z_tat τ x) (tn - 1 - t'))) (fun r m' => r = .inl (1, b, nI (h0 + tn), nI (w + 1)) ∧ (∀ a, a ≠ 7 → m' a = m a) ∧ (∀ j, j < h0 → m' 7 j = m 7 j) ∧ ∀ t, t < tn → m' 7 (h0 + t) = nI (z_tq (z_tat τ x) (tn - 1 - t))) ?_ 1000000 tn _ m ⟨0, rfl, Nat.zero_le _, rfl, fun _ _ => rfl, fun _ _ => rfl, fun t ht => absurd ht (Nat.not_lt_zero _)⟩ (by omega) |> fun ⟨r, m', e, hr, hq⟩ => ⟨m', by rw [hr] at e; exact e, hq⟩
  rintro n s m' ⟨t, rfl, ht, rfl, g1, g2, g3⟩
  dsimp only
  rcases Nat.eq_or_lt_of_le ht with ht2 | ht2
  · refine Or.inr ⟨_, m', ?_, rfl, g1, g2, fun t' ht' => g3 t' (by omega)⟩
    unfold f122_74b f122_106
    rw [ht2, Nat.sub_self, z_pI_0]
    simp (disch := ((try simp only [true_or, or_true, hX.k0, hX.k1, hX.k2, hX.k3, hX.k4, hX.k5, hX.k6, hX.k7, hX.l2, hX.l3, hX.l4, hX.l5, hX.l6, hX.l7]) <;> (try omega))) only [↓reduceIte, ↓z_ite, ↓zR, ↓zB_R, ↓zB_B, ↓zB_ite, ↓zB_gI, ↓zB_pI, ↓zB_pZ, ↓zB_aK, ↓zB_G, ↓zB_lI, ↓zB_lZ, ↓zB_wI, ↓zB_wZ, ↓zB_lIl, ↓zB_wIl, zB_pI, zB_pZ, zB_lI, zB_lZ, zB_wI, zB_wZ, z_addl, z_ladd, z_mull, z_lmul, nI_add, z_subl, Nat.not_lt_zero, z_10, z_01, z_bitc, z_b0, z_b1, ↓zB_Gb, ↓zB_G0, ↓zB_G1, z_eql, z_leq, z_ltl, z_llt, z_eq, z_lt, z_m1lt, hX.k0, hX.k1, hX.k2, hX.k3, hX.k4, hX.k5, hX.k6, hX.k7, hX.l2, hX.l3, hX.l4, hX.l5, hX.l6, hX.l7, ↓hX.g0_0, ↓hX.g0_1, ↓hX.g0_2, ↓hX.g0_3, ↓hX.g0_4, ↓hX.g0_5, ↓hX.g0_6, ↓hX.g0_7, ↓hX.g0_8, ↓hX.g0_9, ↓hX.g1_0, ↓hX.g1_1, ↓hX.g1_2, ↓hX.g1_3, ↓hX.g1_4, ↓hX.g1_5]
  · refine Or.inl ⟨_, z_up m' 7 (h0 + t) (nI (z_tq (z_tat τ x) (tn - 1 - t))), tn - (t + 1), ?_, by omega, t + 1, rfl, ht2, rfl, fun a x1 => by rw [z_up_row x1]; exact g1 a x1, fun j hj => by rw [z_up_b (by omega)]; exact g2 j hj, fun t' ht' => ?_⟩
    · have e1 : m' 5 (x * 3 + (tn - 1 - t)) = nI (z_tq (z_tat τ x) (tn - 1 - t)) := by
        rw [g1 5 (by decide)]; exact hT _ (by omega)
      have e2 : tn - t = (tn - 1 - t) + 1 := by omega
      have e3 : z_pI (tn - (t + 1)) = nI (tn - 1 - t) + (-1) := by rw [z_pI_e]; congr 1; omega
      unfold f122_74b
      rw [e2, z_pI_s, e3]
      simp (disch := ((try simp only [true_or, or_true, hX.k0, hX.k1, hX.k2, hX.k3, hX.k4, hX.k5, hX.k6, hX.k7, hX.l2, hX.l3, hX.l4, hX.l5, hX.l6, hX.l7]) <;> (try omega))) only [↓reduceIte, ↓z_ite, ↓zR, ↓zB_R, ↓zB_B, ↓zB_ite, ↓zB_gI, ↓zB_pI, ↓zB_pZ, ↓zB_aK, ↓zB_G, ↓zB_lI, ↓zB_lZ, ↓zB_wI, ↓zB_wZ, ↓zB_lIl, ↓zB_wIl, zB_pI, zB_pZ, zB_lI, zB_lZ, zB_wI, zB_wZ, z_addl, z_ladd, z_mull, z_lmul, nI_add, z_subl, Nat.not_lt_zero, z_10, z_01, z_bitc, z_b0, z_b1, ↓zB_Gb, ↓zB_G0, ↓zB_G1, z_eql, z_leq, z_ltl, z_llt, z_eq, z_lt, z_m1lt, hX.k0, hX.k1, hX.k2, hX.k3, hX.k4, hX.k5, hX.k6, hX.k7, hX.l2, hX.l3, hX.l4, hX.l5, hX.l6, hX.l7, ↓hX.g0_0, ↓hX.g0_1, ↓hX.g0_2, ↓hX.g0_3, ↓hX.g0_4, ↓hX.g0_5, ↓hX.g0_6, ↓hX.g0_7, ↓hX.g0_8, ↓hX.g0_9, ↓hX.g1_0, ↓hX.g1_1, ↓hX.g1_2, ↓hX.g1_3, ↓hX.g1_4, ↓hX.g1_5, e1]
      rfl
    · rcases Nat.lt_succ_iff_lt_or_eq.mp ht' with x1 | x1
      · rw [z_up_b (by omega)]; exact g3 t' x1
      · rw [x1, z_up_s]
theorem z_cT_fr {m' : z_m} (h : ∀ a, a = 1 ∨ (2 ≤ a ∧ a ≤ 6) → m' a = m a) (hT : z_cT m τ) : z_cT m' τ := by
  unfold z_cT at *
  rw [h 1 (by decide), h 2 (by decide), h 3 (by decide), h 4 (by decide), h 5 (by decide), h 6 (by decide)]
  exact hT
/-- Told.unfold -/
theorem f122_sp (hX : z_XS S) (hW : z_tW nc τ) (h : z_cT m τ) {b : Nat} (hb : z_BS S b 60) (hR : m b 6 = nI 60) (h8 : 8 ≤ b) {i : Nat} (hi : i < τ.length) (hs : (z_tree τ i).length ≤ 60) : ∃ m', f122 1 (nI i) b (z_hp S m) = some ((), z_hp S m') ∧ z_cb m' b 60 (z_tree τ i) ∧ (∀ a, a ≠ 7 → a ≠ b → a ≠ b + 1 → a ≠ b + 2 → a ≠ b + 3 → m' a = m a) ∧ ∀ j, j ≠ 7 → m' b j = m b j := by
  have hl := hW.1
  obtain ⟨m1, e1, c1, hF1⟩ := f1_sp hb hR (by decide)
  have key := z_loopI (f := fun s => f122_16b (s.1) (s.2.1) (s.2.2.1) (s.2.2.2)) (S := S) (fun n s m' => ∃ (σ : List Nat) (w : List z_N), n = 60 - w.length ∧ s = (1, b, nI σ.length, nI w.length) ∧ z_stk m' 7 σ ∧ z_cb m' b 60 w ∧ (∀ x ∈ σ, x < τ.length) ∧ w ++ z_pil τ σ = z_tree τ i ∧ (∀ a, a ≠ 7 → a ≠ b → a ≠ b + 1 → a ≠ b + 2 → a ≠ b + 3 → m' a = m a) ∧ ∀ j, j ≠ 7 → m' b j = m b j) (fun _ m' => z_cb m' b 60 (z_tree τ i) ∧ (∀ a, a ≠ 7 → a ≠ b → a ≠ b + 1 → a ≠ b + 2 → a ≠ b + 3 → m' a = m a) ∧ ∀ j, j ≠ 7 → m' b j = m b j) ?_ 1000000 60 (1, b, 1, 0) (z_up m1 7 0 (nI i)) ⟨[i], [], rfl, rfl, fun j hj => ?_, ?_, fun x hx => ?_, ?_, fun a g1 g2 g3 g4 g5 => ?_, fun j g => ?_⟩ (by decide)
  · obtain ⟨r, m', e, hq⟩ := key
    refine ⟨m', ?_, hq⟩
    unfold f122
    simp (disch := ((try simp only [true_or, or_true, hX.k0, hX.k1, hX.k2, hX.k3, hX.k4, hX.k5, hX.k6, hX.k7, hX.l2, hX.l3, hX.l4, hX.l5, hX.l6, hX.l7, hb.k, hb.k1, hb.k2, hb.k3, hb.k4, hb.k5, hb.k6, hb.l1, hb.l2, hb.l3, hb.l4, hb.l5, hb.l6]) <;> (try omega))) only [↓reduceIte, ↓z_ite, ↓zR, ↓zB_R, ↓zB_B, ↓zB_ite, ↓zB_gI, ↓zB_pI, ↓zB_pZ, ↓zB_aK, ↓zB_G, ↓zB_lI, ↓zB_lZ, ↓zB_wI, ↓zB_wZ, ↓zB_lIl, ↓zB_wIl, zB_pI, zB_pZ, zB_lI, zB_lZ, zB_wI, zB_wZ, z_addl, z_ladd, z_mull, z_lmul, nI_add, z_subl, Nat.not_lt_zero, z_10, z_01, z_bitc, z_b0, z_b1, ↓zB_Gb, ↓zB_G0, ↓zB_G1, z_eql, z_leq, z_ltl, z_llt, z_eq, z_lt, z_m1lt, hX.k0, hX.k1, hX.k2, hX.k3, hX.k4, hX.k5, hX.k6, hX.k7, hX.l2, hX.l3, hX.l4, hX.l5, hX.l6, hX.l7, hb.k, hb.k1, hb.k2, hb.k3, hb.k4, hb.k5, hb.k6, hb.l1, hb.l2, hb.l3, hb.l4, hb.l5, hb.l6, ↓hX.g0_0, ↓hX.g0_1, ↓hX.g0_2, ↓hX.g0_3, ↓hX.g0_4, ↓hX.g0_5, ↓hX.g0_6, ↓hX.g0_7, ↓hX.g0_8, ↓hX.g0_9, ↓hX.g1_0, ↓hX.g1_1, ↓hX.g1_2, ↓hX.g1_3, ↓hX.g1_4, ↓hX.g1_5, ↓hb.g0, ↓hb.g1, ↓hb.g2, ↓hb.g3, ↓hb.g4, ↓hb.g5, ↓zB_c e1, zB_c e1]
    exact e
  · rintro n s m' ⟨σ, w, rfl, rfl, g1, g2, g3, g4, g5, g6⟩
    dsimp only
    have hlen : w.length + (z_pil τ σ).length ≤ 60 := by rw [← List.length_append, g4]; exact hs
    have hσ := z_pil_len (τ := τ) σ
    rcases Nat.eq_or_lt_of_le (show w.length ≤ 60 by omega) with hw | hw
    · refine Or.inr ⟨(), m', ?_, ?_, g5, g6⟩
      · unfold f122_16b f122_112
        rw [hw]
        simp (disch := ((try simp only [true_or, or_true, hX.k0, hX.k1, hX.k2, hX.k3, hX.k4, hX.k5, hX.k6, hX.k7, hX.l2, hX.l3, hX.l4, hX.l5, hX.l6, hX.l7]) <;> (try omega))) only [↓reduceIte, ↓z_ite, ↓zR, ↓zB_R, ↓zB_B, ↓zB_ite, ↓zB_gI, ↓zB_pI, ↓zB_pZ, ↓zB_aK, ↓zB_G, ↓zB_lI, ↓zB_lZ, ↓zB_wI, ↓zB_wZ, ↓zB_lIl, ↓zB_wIl, zB_pI, zB_pZ, zB_lI, zB_lZ, zB_wI, zB_wZ, z_addl, z_ladd, z_mull, z_lmul, nI_add, z_subl, Nat.not_lt_zero, z_10, z_01, z_bitc, z_b0, z_b1, ↓zB_Gb, ↓zB_G0, ↓zB_G1, z_eql, z_leq, z_ltl, z_llt, z_eq, z_lt, z_m1lt, hX.k0, hX.k1, hX.k2, hX.k3, hX.k4, hX.k5, hX.k6, hX.k7, hX.l2, hX.l3, hX.l4, hX.l5, hX.l6, hX.l7, ↓hX.g0_0, ↓hX.g0_1, ↓hX.g0_2, ↓hX.g0_3, ↓hX.g0_4, ↓hX.g0_5, ↓hX.g0_6, ↓hX.g0_7, ↓hX.g0_8, ↓hX.g0_9, ↓hX.g1_0, ↓hX.g1_1, ↓hX.g1_2, ↓hX.g1_3, ↓hX.g1_4, ↓hX.g1_5, Nat.lt_irrefl]
      · have e0 : z_pil τ σ = [] := List.eq_nil_of_length_eq_zero (by omega)
        rw [e0, List.append_nil] at g4
        rw [← g4]; exact g2
    cases σ with
    | nil =>
      refine Or.inr ⟨(), m', ?_, ?_, g5, g6⟩
      · unfold f122_16b f122_112
        have e0 : nI ([] : List Nat).length = 0 := rfl
        rw [e0]
        simp (disch := ((try simp only [true_or, or_true, hX.k0, hX.k1, hX.k2, hX.k3, hX.k4, hX.k5, hX.k6, hX.k7, hX.l2, hX.l3, hX.l4, hX.l5, hX.l6, hX.l7]) <;> (try omega))) only [↓reduceIte, ↓z_ite, ↓zR, ↓zB_R, ↓zB_B, ↓zB_ite, ↓zB_gI, ↓zB_pI, ↓zB_pZ, ↓zB_aK, ↓zB_G, ↓zB_lI, ↓zB_lZ, ↓zB_wI, ↓zB_wZ, ↓zB_lIl, ↓zB_wIl, zB_pI, zB_pZ, zB_lI, zB_lZ, zB_wI, zB_wZ, z_addl, z_ladd, z_mull, z_lmul, nI_add, z_subl, Nat.not_lt_zero, z_10, z_01, z_bitc, z_b0, z_b1, ↓zB_Gb, ↓zB_G0, ↓zB_G1, z_eql, z_leq, z_ltl, z_llt, z_eq, z_lt, z_m1lt, hX.k0, hX.k1, hX.k2, hX.k3, hX.k4, hX.k5, hX.k6, hX.k7, hX.l2, hX.l3, hX.l4, hX.l5, hX.l6, hX.l7, ↓hX.g0_0, ↓hX.g0_1, ↓hX.g0_2, ↓hX.g0_3, ↓hX.g0_4, ↓hX.g0_5, ↓hX.g0_6, ↓hX.g0_7, ↓hX.g0_8, ↓hX.g0_9, ↓hX.g1_0, ↓hX.g1_1, ↓hX.g1_2, ↓hX.g1_3, ↓hX.g1_4, ↓hX.g1_5, hw, Nat.lt_irrefl]
        exact if_neg (by decide)
      · rw [show z_pil τ [] = [] from rfl, List.append_nil] at g4
        rw [← g4]; exact g2
    | cons x σ =>
      have hx : x < τ.length := g3 x (List.mem_cons_self)
      have hT : z_cT m' τ := z_cT_fr (fun a ha => g5 a (by omega) (by omega) (by omega) (by omega) (by omega)) h
      obtain ⟨t0, t1, t2, _, _⟩ := hT.2 x hx
      have hpil : z_pil τ (x :: σ) = z_tree τ x ++ z_pil τ σ := rfl
      have htr := z_tree_eq hW hx
      have etop : m' 7 σ.length = nI x := by
        have := g1 σ.length (Nat.lt_succ_self _)
        rw [this]
        show nI ((x :: σ).getD (σ.length + 1 - 1 - σ.length) 0) = nI x
        rw [show σ.length + 1 - 1 - σ.length = 0 by omega]; rfl
      obtain ⟨m2, e2, c2, hF2⟩ := f2_sp hb g2 hw (k := (z_tat τ x).1.1) (v := (z_tat τ x).1.2.1) (a := (z_tat τ x).1.2.2)
      have hT2 : z_cT m2 τ := z_cT_fr (fun a ha => hF2.1 a (by omega) (by omega) (by omega) (by omega)) hT
      have et2 : m2 4 x = nI (z_tn (z_tat τ x)) := (hT2.2 x hx).2.2.1
      have hpil2 := z_pil_cat (τ := τ) (z_tq (z_tat τ x)) σ 0 (z_tn (z_tat τ x))
      have hnew : z_tree τ x ++ z_pil τ σ = (z_tat τ x).1 :: z_pil τ ((List.range' 0 (z_tn (z_tat τ x))).map (z_tq (z_tat τ x)) ++ σ) := by
        rw [hpil2, htr, List.cons_append]
        simp only [Nat.zero_add]
      have hσ2 := z_pil_len (τ := τ) ((List.range' 0 (z_tn (z_tat τ x))).map (z_tq (z_tat τ x)) ++ σ)
      have hlen2 : ((List.range' 0 (z_tn (z_tat τ x))).map (z_tq (z_tat τ x)) ++ σ).length = σ.length + z_tn (z_tat τ x) := by
        rw [List.length_append, List.length_map, List.length_range']; omega
      have hl3 : (z_pil τ (x :: σ)).length = 1 + (z_pil τ ((List.range' 0 (z_tn (z_tat τ x))).map (z_tq (z_tat τ x)) ++ σ)).length := by
        rw [hpil, hnew, List.length_cons]; omega
      obtain ⟨m3, e3, f1', f2', f3'⟩ := f122_74_sp (S := S) hX hW hT2 (b := b) (h0 := σ.length) (w := w.length) hx (by omega) hw
      have hm2 : m2 7 = m' 7 := hF2.1 7 (by omega) (by omega) (by omega) (by omega)
      refine Or.inl ⟨(1, b, nI (σ.length + z_tn (z_tat τ x)), nI (w.length + 1)), m3, 60 - (w.length + 1), ?_, by omega, (List.range' 0 (z_tn (z_tat τ x))).map (z_tq (z_tat τ x)) ++ σ, w ++ [(z_tat τ x).1], by rw [List.length_append]; rfl, ?_, ?_, ?_, fun y hy => ?_, ?_, fun a x1 x2 x3 x4 x5 => ?_, fun j x1 => ?_⟩
      · unfold f122_16b
        rw [show nI (x :: σ).length = nI (σ.length + 1) from rfl]
        have eσ : σ.length < 60 := by omega
        have t2' : m' 4 x = nI (z_pn (z_tat τ x).1.1 (z_tat τ x).1.2.2) := t2
        have hpos : 0 < σ.length + 1 := Nat.succ_pos _
        simp (disch := ((try simp only [true_or, or_true, hX.k0, hX.k1, hX.k2, hX.k3, hX.k4, hX.k5, hX.k6, hX.k7, hX.l2, hX.l3, hX.l4, hX.l5, hX.l6, hX.l7, hb.k, hb.k1, hb.k2, hb.k3, hb.k4, hb.k5, hb.k6, hb.l1, hb.l2, hb.l3, hb.l4, hb.l5, hb.l6]) <;> (try omega))) only [↓reduceIte, ↓z_ite, ↓zR, ↓zB_R, ↓zB_B, ↓zB_ite, ↓zB_gI, ↓zB_pI, ↓zB_pZ, ↓zB_aK, ↓zB_G, ↓zB_lI, ↓zB_lZ, ↓zB_wI, ↓zB_wZ, ↓zB_lIl, ↓zB_wIl, zB_pI, zB_pZ, zB_lI, zB_lZ, zB_wI, zB_wZ, z_addl, z_ladd, z_mull, z_lmul, nI_add, z_subl, Nat.not_lt_zero, z_10, z_01, z_bitc, z_b0, z_b1, ↓zB_Gb, ↓zB_G0, ↓zB_G1, z_eql, z_leq, z_ltl, z_llt, z_eq, z_lt, z_m1lt, hX.k0, hX.k1, hX.k2, hX.k3, hX.k4, hX.k5, hX.k6, hX.k7, hX.l2, hX.l3, hX.l4, hX.l5, hX.l6, hX.l7, hb.k, hb.k1, hb.k2, hb.k3, hb.k4, hb.k5, hb.k6, hb.l1, hb.l2, hb.l3, hb.l4, hb.l5, hb.l6, ↓hX.g0_0, ↓hX.g0_1, ↓hX.g0_2, ↓hX.g0_3, ↓hX.g0_4, ↓hX.g0_5, ↓hX.g0_6, ↓hX.g0_7, ↓hX.g0_8, ↓hX.g0_9, ↓hX.g1_0, ↓hX.g1_1, ↓hX.g1_2, ↓hX.g1_3, ↓hX.g1_4, ↓hX.g1_5, ↓hb.g0, ↓hb.g1, ↓hb.g2, ↓hb.g3, ↓hb.g4, ↓hb.g5, hw, hpos, pk_m1, etop, t0, t1, t2', ↓zB_c e2, zB_c e2, et2]
        exact e3
      · rw [hlen2, List.length_append]; rfl
      · refine z_stk_push (f := z_tq (z_tat τ x)) (fun j hj => ?_) f3'
        rw [f2' j hj, hm2, g1 j (Nat.lt_succ_of_lt hj)]
        show nI ((x :: σ).getD (σ.length + 1 - 1 - j) 0) = _
        rw [show σ.length + 1 - 1 - j = (σ.length - 1 - j) + 1 by omega]; rfl
      · exact z_cb_fr (fun a x1 x2 => f1' a (by omega)) c2
      · rcases List.mem_append.mp hy with h1 | h1
        · obtain ⟨q, hq, rfl⟩ := List.mem_map.mp h1
          have hq2 : q < z_tn (z_tat τ x) := by
            have := List.mem_range'.mp hq
            omega
          have := (hW.2 x hx).2.2 q hq2
          omega
        · exact g3 y (List.mem_cons_of_mem _ h1)
      · rw [List.append_assoc, ← g4, hpil, hnew]; rfl
      · rw [f1' a x1, hF2.1 a x2 x3 x4 x5]; exact g5 a x1 x2 x3 x4 x5
      · rw [f1' b (by omega), hF2.2 j x1]; exact g6 j x1
  · have : j = 0 := by simpa using hj
    rw [this, z_up_s]; rfl
  · exact z_cb_fr (fun a x1 x2 => z_up_row (by omega)) c1
  · rw [List.mem_singleton.mp hx]; exact hi
  · show z_tree τ i ++ [] = _
    exact List.append_nil _
  · rw [z_up_row g1]; exact hF1.1 a g2 g3 g4 g5
  · rw [z_up_a (by omega)]; exact hF1.2 j g
end
