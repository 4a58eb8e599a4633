/-! writing bodies -/
theorem zB_cp {β : Type} {S : z_S} {m : z_m} {k0 k1 sp dp n : Nat} {f : Unit → m_M β} (h0 : z_kd S k0 = 20) (h1 : z_kd S k1 = 20) (h2 : sp + n ≤ z_ln S k0) (h3 : dp + n ≤ z_ln S k1) (h4 : sp < 2147483648) (h5 : dp < 2147483648) (h6 : n < 2147483648) : m_B (m_cp k0 (nI sp) k1 (nI dp) (nI n)) f (z_hp S m) = f () (z_hp S (z_ur m k1 (va_cpy (m k0) (m k1) sp dp n))) := by
  unfold m_B m_cp
  rw [nI_clamp h4, nI_clamp h5, nI_clamp h6, if_pos ⟨⟨h0, h1⟩, ⟨nI_pos h4, nI_pos h5, nI_pos h6⟩, h2, h3⟩]
  rfl
theorem zB_cp0 {β : Type} {S : z_S} {m : z_m} {k0 k1 n : Nat} {f : Unit → m_M β} (h0 : z_kd S k0 = 20) (h1 : z_kd S k1 = 20) (h2 : n ≤ z_ln S k0) (h3 : n ≤ z_ln S k1) (h6 : n < 2147483648) : m_B (m_cp k0 0 k1 0 (nI n)) f (z_hp S m) = f () (z_hp S (z_ur m k1 (va_cpy (m k0) (m k1) 0 0 n))) := zB_cp (sp := 0) (dp := 0) h0 h1 (by omega) (by omega) (by decide) (by decide) h6
theorem zB_cpl {β : Type} {S : z_S} {m : z_m} {k0 k1 n : Nat} {f : Unit → m_M β} (h0 : z_kd S k0 = 20) (h1 : z_kd S k1 = 20) (h2 : n ≤ z_ln S k0) (h3 : n ≤ z_ln S k1) (h6 : n < 2147483648) : m_B (m_cp k0 0 k1 0 (no_index (OfNat.ofNat n : Int32))) f (z_hp S m) = f () (z_hp S (z_ur m k1 (va_cpy (m k0) (m k1) 0 0 (OfNat.ofNat n)))) := zB_cp0 h0 h1 h2 h3 h6
theorem z_ur_s (m : z_m) (k : Nat) (f : Nat → Int32) : z_ur m k f k = f := if_pos rfl
theorem z_ur_n {m : z_m} {k a : Nat} {f : Nat → Int32} (h : a ≠ k) : z_ur m k f a = m a := if_neg h
/-- what writing a body may change -/
def z_bF (b : Nat) (m m' : z_m) : Prop := (∀ a, a ≠ b → a ≠ b + 1 → a ≠ b + 2 → a ≠ b + 3 → m' a = m a) ∧ ∀ j, j ≠ 7 → m' b j = m b j
theorem z_bF.refl (b : Nat) (m : z_m) : z_bF b m m := ⟨fun _ _ _ _ _ => rfl, fun _ _ => rfl⟩
theorem z_bF.trans {b : Nat} {m m' m'' : z_m} (h : z_bF b m m') (h2 : z_bF b m' m'') : z_bF b m m'' := ⟨fun a g1 g2 g3 g4 => (h2.1 a g1 g2 g3 g4).trans (h.1 a g1 g2 g3 g4), fun j g => (h2.2 j g).trans (h.2 j g)⟩
/-- two bodies that are apart -/
def z_bb (b c : Nat) : Prop := b + 7 ≤ c ∨ c + 7 ≤ b
theorem z_cb_bF {b c R : Nat} {l : List z_N} {m m' : z_m} (h : z_bb b c) (hF : z_bF b m m') (hc : z_cb m c R l) : z_cb m' c R l := by
  unfold z_bb at h
  exact z_cb_fr (fun a h1 h2 => hF.1 a (by omega) (by omega) (by omega) (by omega)) hc
theorem z_at_app {l : List z_N} {x : z_N} {i : Nat} (hi : i < l.length) : z_at (l ++ [x]) i = z_at l i := by
  unfold z_at
  rw [List.getD_eq_getElem?_getD, List.getD_eq_getElem?_getD, List.getElem?_append_left hi]
theorem z_at_last {l : List z_N} {x : z_N} : z_at (l ++ [x]) l.length = x := by
  unfold z_at
  rw [List.getD_eq_getElem?_getD, List.getElem?_append_right (Nat.le_refl _)]; simp
section
variable {S : z_S} {m : z_m} {b R : Nat} {l : List z_N}
/-- Body.clear -/
theorem f1_sp (hb : z_BS S b R) (h : m b 6 = nI R) (hR : R ≤ 256) : ∃ m', f1 b (z_hp S m) = some ((), z_hp S m') ∧ z_cb m' b R [] ∧ z_bF b m m' := by
  refine ⟨z_up m b 7 0, ?_, ⟨by rw [z_up_b (by decide)]; exact h, by rw [z_up_s]; rfl, Nat.zero_le _, hR, fun i hi => by simp at hi⟩, ⟨fun a g _ _ _ => z_up_row g, fun j g => z_up_b g⟩⟩
  unfold f1
  simp (disch := ((try simp only [true_or, or_true, hb.k, hb.k1, hb.k2, hb.k3, hb.k4, hb.k5, hb.k6, hb.l1, hb.l2, hb.l3, hb.l4, hb.l5, hb.l6]) <;> (try omega))) only [↓reduceIte, ↓z_ite, ↓zR, ↓zB_R, ↓zB_B, ↓zB_ite, ↓zB_gI, ↓zB_pI, ↓zB_pZ, ↓zB_aK, ↓zB_G, ↓zB_lI, ↓zB_lZ, ↓zB_wI, ↓zB_wZ, ↓zB_lIl, ↓zB_wIl, zB_pI, zB_pZ, zB_lI, zB_lZ, zB_wI, zB_wZ, z_addl, z_ladd, z_mull, z_lmul, nI_add, z_subl, Nat.not_lt_zero, z_10, z_01, z_bitc, z_b0, z_b1, ↓zB_Gb, ↓zB_G0, ↓zB_G1, z_eql, z_leq, z_ltl, z_llt, z_eq, z_lt, z_m1lt, hb.k, hb.k1, hb.k2, hb.k3, hb.k4, hb.k5, hb.k6, hb.l1, hb.l2, hb.l3, hb.l4, hb.l5, hb.l6, ↓hb.g0, ↓hb.g1, ↓hb.g2, ↓hb.g3, ↓hb.g4, ↓hb.g5]
/-- Body.add -/
theorem f2_sp (hb : z_BS S b R) (h : z_cb m b R l) (hl : l.length < R) {k v a : Int32} : ∃ m', f2 b k v (nI (z_pn k a)) (z_hp S m) = some ((), z_hp S m') ∧ z_cb m' b R (l ++ [(k, v, a)]) ∧ z_bF b m m' := by
  obtain ⟨h1, h2, h3, h4, h5⟩ := h
  refine ⟨z_up (z_up (z_up (z_up m (b + 1) l.length k) (b + 2) l.length v) (b + 3) l.length (nI (z_pn k a))) b 7 (nI (l.length + 1)), ?_, ⟨?_, ?_, ?_, h4, fun i hi => ?_⟩, ⟨fun x g1 g2 g3 g4 => ?_, fun j g => ?_⟩⟩
  · have e1 : z_up m (b + 1) l.length k b 7 = nI l.length := by rw [z_up_a (by omega)]; exact h2
    have e2 : z_up (z_up m (b + 1) l.length k) (b + 2) l.length v b 7 = nI l.length := by rw [z_up_a (by omega)]; exact e1
    have e3 : z_up (z_up (z_up m (b + 1) l.length k) (b + 2) l.length v) (b + 3) l.length (nI (z_pn k a)) b 7 = nI l.length := by rw [z_up_a (by omega)]; exact e2
    unfold f2
    simp (disch := ((try simp only [true_or, or_true, hb.k, hb.k1, hb.k2, hb.k3, hb.k4, hb.k5, hb.k6, hb.l1, hb.l2, hb.l3, hb.l4, hb.l5, hb.l6]) <;> (try omega))) only [↓reduceIte, ↓z_ite, ↓zR, ↓zB_R, ↓zB_B, ↓zB_ite, ↓zB_gI, ↓zB_pI, ↓zB_pZ, ↓zB_aK, ↓zB_G, ↓zB_lI, ↓zB_lZ, ↓zB_wI, ↓zB_wZ, ↓zB_lIl, ↓zB_wIl, zB_pI, zB_pZ, zB_lI, zB_lZ, zB_wI, zB_wZ, z_addl, z_ladd, z_mull, z_lmul, nI_add, z_subl, Nat.not_lt_zero, z_10, z_01, z_bitc, z_b0, z_b1, ↓zB_Gb, ↓zB_G0, ↓zB_G1, z_eql, z_leq, z_ltl, z_llt, z_eq, z_lt, z_m1lt, hb.k, hb.k1, hb.k2, hb.k3, hb.k4, hb.k5, hb.k6, hb.l1, hb.l2, hb.l3, hb.l4, hb.l5, hb.l6, ↓hb.g0, ↓hb.g1, ↓hb.g2, ↓hb.g3, ↓hb.g4, ↓hb.g5, h1, h2, hl, e1, e2, e3]
  · rw [z_up_b (by decide), z_up_a (by omega), z_up_a (by omega), z_up_a (by omega)]; exact h1
  · rw [z_up_s, List.length_append]; rfl
  · rw [List.length_append]; exact hl
  · rw [List.length_append] at hi
    rcases Nat.lt_succ_iff_lt_or_eq.mp (show i < l.length + 1 from hi) with g | g
    · obtain ⟨x1, x2, x3⟩ := h5 i g
      unfold z_p z_k z_v z_a
      rw [z_at_app g]
      refine ⟨?_, ?_, ?_⟩
      · rw [z_up_a (by omega), z_up_a (by omega), z_up_a (by omega), z_up_b (by omega)]; exact x1
      · rw [z_up_a (by omega), z_up_a (by omega), z_up_b (by omega), z_up_a (by omega)]; exact x2
      · rw [z_up_a (by omega), z_up_b (by omega), z_up_a (by omega), z_up_a (by omega)]; exact x3
    · subst g
      unfold z_p z_k z_v z_a
      rw [z_at_last]
      refine ⟨?_, ?_, ?_⟩
      · rw [z_up_a (by omega), z_up_a (by omega), z_up_a (by omega), z_up_s]
      · rw [z_up_a (by omega), z_up_a (by omega), z_up_s]
      · rw [z_up_a (by omega), z_up_s]
  · rw [z_up_row g1, z_up_row g4, z_up_row g3, z_up_row g2]
  · rw [z_up_b g, z_up_a (by omega), z_up_a (by omega), z_up_a (by omega)]
variable {c Rc : Nat} {lc : List z_N}
/-- Body.addCopy -/
theorem f3_sp (hb : z_BS S b R) (h : z_cb m b R l) (hl : l.length < R) (hc : z_BS S c Rc) (h2 : z_cb m c Rc lc) {i : Nat} (hi : i < lc.length) : ∃ m', f3 b c (nI i) (z_hp S m) = some ((), z_hp S m') ∧ z_cb m' b R (l ++ [z_at lc i]) ∧ z_bF b m m' := by
  obtain ⟨m', e, h3⟩ := f2_sp hb h hl (k := z_k lc i) (v := z_v lc i) (a := z_a lc i)
  have hR := h2.2.2.1
  have hR2 := h2.2.2.2.1
  obtain ⟨r1, r2, r3⟩ := h2.2.2.2.2 i hi
  refine ⟨m', ?_, h3⟩
  unfold f3
  simp (disch := ((try simp only [true_or, or_true, hb.k, hb.k1, hb.k2, hb.k3, hb.k4, hb.k5, hb.k6, hb.l1, hb.l2, hb.l3, hb.l4, hb.l5, hb.l6, hc.k, hc.k1, hc.k2, hc.k3, hc.k4, hc.k5, hc.k6, hc.l1, hc.l2, hc.l3, hc.l4, hc.l5, hc.l6]) <;> (try omega))) only [↓reduceIte, ↓z_ite, ↓zR, ↓zB_R, ↓zB_B, ↓zB_ite, ↓zB_gI, ↓zB_pI, ↓zB_pZ, ↓zB_aK, ↓zB_G, ↓zB_lI, ↓zB_lZ, ↓zB_wI, ↓zB_wZ, ↓zB_lIl, ↓zB_wIl, zB_pI, zB_pZ, zB_lI, zB_lZ, zB_wI, zB_wZ, z_addl, z_ladd, z_mull, z_lmul, nI_add, z_subl, Nat.not_lt_zero, z_10, z_01, z_bitc, z_b0, z_b1, ↓zB_Gb, ↓zB_G0, ↓zB_G1, z_eql, z_leq, z_ltl, z_llt, z_eq, z_lt, z_m1lt, hb.k, hb.k1, hb.k2, hb.k3, hb.k4, hb.k5, hb.k6, hb.l1, hb.l2, hb.l3, hb.l4, hb.l5, hb.l6, hc.k, hc.k1, hc.k2, hc.k3, hc.k4, hc.k5, hc.k6, hc.l1, hc.l2, hc.l3, hc.l4, hc.l5, hc.l6, ↓hb.g0, ↓hb.g1, ↓hb.g2, ↓hb.g3, ↓hb.g4, ↓hb.g5, ↓hc.g0, ↓hc.g1, ↓hc.g2, ↓hc.g3, ↓hc.g4, ↓hc.g5, r1, r2, r3]
  rw [show nI (z_p lc i) = nI (z_pn (z_k lc i) (z_a lc i)) from rfl]
  simp (disch := ((try simp only [true_or, or_true, hb.k, hb.k1, hb.k2, hb.k3, hb.k4, hb.k5, hb.k6, hb.l1, hb.l2, hb.l3, hb.l4, hb.l5, hb.l6, hc.k, hc.k1, hc.k2, hc.k3, hc.k4, hc.k5, hc.k6, hc.l1, hc.l2, hc.l3, hc.l4, hc.l5, hc.l6]) <;> (try omega))) only [↓reduceIte, ↓z_ite, ↓zR, ↓zB_R, ↓zB_B, ↓zB_ite, ↓zB_gI, ↓zB_pI, ↓zB_pZ, ↓zB_aK, ↓zB_G, ↓zB_lI, ↓zB_lZ, ↓zB_wI, ↓zB_wZ, ↓zB_lIl, ↓zB_wIl, zB_pI, zB_pZ, zB_lI, zB_lZ, zB_wI, zB_wZ, z_addl, z_ladd, z_mull, z_lmul, nI_add, z_subl, Nat.not_lt_zero, z_10, z_01, z_bitc, z_b0, z_b1, ↓zB_Gb, ↓zB_G0, ↓zB_G1, z_eql, z_leq, z_ltl, z_llt, z_eq, z_lt, z_m1lt, hb.k, hb.k1, hb.k2, hb.k3, hb.k4, hb.k5, hb.k6, hb.l1, hb.l2, hb.l3, hb.l4, hb.l5, hb.l6, hc.k, hc.k1, hc.k2, hc.k3, hc.k4, hc.k5, hc.k6, hc.l1, hc.l2, hc.l3, hc.l4, hc.l5, hc.l6, ↓hb.g0, ↓hb.g1, ↓hb.g2, ↓hb.g3, ↓hb.g4, ↓hb.g5, ↓hc.g0, ↓hc.g1, ↓hc.g2, ↓hc.g3, ↓hc.g4, ↓hc.g5, ↓zB_c e, zB_c e]
/-- Body.addNamed -/
theorem f4_sp (hb : z_BS S b R) (h : z_cb m b R l) (hl : l.length < R) (hc : z_BS S c Rc) (h2 : z_cb m c Rc lc) {i : Nat} (hi : i < lc.length) (name : Int32) : ∃ m', f4 b c (nI i) name (z_hp S m) = some ((), z_hp S m') ∧ z_cb m' b R (l ++ [(z_k lc i, name, z_a lc i)]) ∧ z_bF b m m' := by
  obtain ⟨m', e, h3⟩ := f2_sp hb h hl (k := z_k lc i) (v := name) (a := z_a lc i)
  have hR := h2.2.2.1
  have hR2 := h2.2.2.2.1
  obtain ⟨r1, r2, r3⟩ := h2.2.2.2.2 i hi
  refine ⟨m', ?_, h3⟩
  unfold f4
  simp (disch := ((try simp only [true_or, or_true, hb.k, hb.k1, hb.k2, hb.k3, hb.k4, hb.k5, hb.k6, hb.l1, hb.l2, hb.l3, hb.l4, hb.l5, hb.l6, hc.k, hc.k1, hc.k2, hc.k3, hc.k4, hc.k5, hc.k6, hc.l1, hc.l2, hc.l3, hc.l4, hc.l5, hc.l6]) <;> (try omega))) only [↓reduceIte, ↓z_ite, ↓zR, ↓zB_R, ↓zB_B, ↓zB_ite, ↓zB_gI, ↓zB_pI, ↓zB_pZ, ↓zB_aK, ↓zB_G, ↓zB_lI, ↓zB_lZ, ↓zB_wI, ↓zB_wZ, ↓zB_lIl, ↓zB_wIl, zB_pI, zB_pZ, zB_lI, zB_lZ, zB_wI, zB_wZ, z_addl, z_ladd, z_mull, z_lmul, nI_add, z_subl, Nat.not_lt_zero, z_10, z_01, z_bitc, z_b0, z_b1, ↓zB_Gb, ↓zB_G0, ↓zB_G1, z_eql, z_leq, z_ltl, z_llt, z_eq, z_lt, z_m1lt, hb.k, hb.k1, hb.k2, hb.k3, hb.k4, hb.k5, hb.k6, hb.l1, hb.l2, hb.l3, hb.l4, hb.l5, hb.l6, hc.k, hc.k1, hc.k2, hc.k3, hc.k4, hc.k5, hc.k6, hc.l1, hc.l2, hc.l3, hc.l4, hc.l5, hc.l6, ↓hb.g0, ↓hb.g1, ↓hb.g2, ↓hb.g3, ↓hb.g4, ↓hb.g5, ↓hc.g0, ↓hc.g1, ↓hc.g2, ↓hc.g3, ↓hc.g4, ↓hc.g5, r1, r2, r3]
  rw [show nI (z_p lc i) = nI (z_pn (z_k lc i) (z_a lc i)) from rfl]
  simp (disch := ((try simp only [true_or, or_true, hb.k, hb.k1, hb.k2, hb.k3, hb.k4, hb.k5, hb.k6, hb.l1, hb.l2, hb.l3, hb.l4, hb.l5, hb.l6, hc.k, hc.k1, hc.k2, hc.k3, hc.k4, hc.k5, hc.k6, hc.l1, hc.l2, hc.l3, hc.l4, hc.l5, hc.l6]) <;> (try omega))) only [↓reduceIte, ↓z_ite, ↓zR, ↓zB_R, ↓zB_B, ↓zB_ite, ↓zB_gI, ↓zB_pI, ↓zB_pZ, ↓zB_aK, ↓zB_G, ↓zB_lI, ↓zB_lZ, ↓zB_wI, ↓zB_wZ, ↓zB_lIl, ↓zB_wIl, zB_pI, zB_pZ, zB_lI, zB_lZ, zB_wI, zB_wZ, z_addl, z_ladd, z_mull, z_lmul, nI_add, z_subl, Nat.not_lt_zero, z_10, z_01, z_bitc, z_b0, z_b1, ↓zB_Gb, ↓zB_G0, ↓zB_G1, z_eql, z_leq, z_ltl, z_llt, z_eq, z_lt, z_m1lt, hb.k, hb.k1, hb.k2, hb.k3, hb.k4, hb.k5, hb.k6, hb.l1, hb.l2, hb.l3, hb.l4, hb.l5, hb.l6, hc.k, hc.k1, hc.k2, hc.k3, hc.k4, hc.k5, hc.k6, hc.l1, hc.l2, hc.l3, hc.l4, hc.l5, hc.l6, ↓hb.g0, ↓hb.g1, ↓hb.g2, ↓hb.g3, ↓hb.g4, ↓hb.g5, ↓hc.g0, ↓hc.g1, ↓hc.g2, ↓hc.g3, ↓hc.g4, ↓hc.g5, ↓zB_c e, zB_c e]
/-- a variable made plain -/
def z_pln (k name : Int32) : List z_N := [(if k = 1 then 3 else 4, name, 0), (2, 0, 0)]
/-- Body.addPlain -/
theorem f5_sp (hb : z_BS S b R) (h : z_cb m b R l) (hl : l.length + 1 < R) (hc : z_BS S c Rc) (h2 : z_cb m c Rc lc) {i : Nat} (hi : i < lc.length) (hv : z_k lc i = 1 ∨ z_k lc i = 6) (name : Int32) : ∃ m', f5 b c (nI i) name (z_hp S m) = some ((), z_hp S m') ∧ z_cb m' b R (l ++ z_pln (z_k lc i) name) ∧ z_bF b m m' := by
  have hR := h2.2.2.1
  have hR2 := h2.2.2.2.1
  obtain ⟨r1, r2, r3⟩ := h2.2.2.2.2 i hi
  obtain ⟨m1, e1, h3, h4⟩ := f2_sp hb h (by omega) (k := if z_k lc i = 1 then 3 else 4) (v := name) (a := 0)
  obtain ⟨m2, e2, h5, h6⟩ := f2_sp hb h3 (by rw [List.length_append]; exact hl) (k := 2) (v := 0) (a := 0)
  refine ⟨m2, ?_, by rw [List.append_assoc] at h5; exact h5, h4.trans h6⟩
  rw [show z_pn 2 0 = 0 from rfl] at e2
  rw [nI_0] at e2
  unfold f5 f5_15 f5_28
  rcases hv with g | g
  · rw [g, if_pos rfl, show z_pn 3 0 = 1 from rfl] at e1
    have hp := z_p_1 g
    simp (disch := ((try simp only [true_or, or_true, hb.k, hb.k1, hb.k2, hb.k3, hb.k4, hb.k5, hb.k6, hb.l1, hb.l2, hb.l3, hb.l4, hb.l5, hb.l6, hc.k, hc.k1, hc.k2, hc.k3, hc.k4, hc.k5, hc.k6, hc.l1, hc.l2, hc.l3, hc.l4, hc.l5, hc.l6]) <;> (try omega))) only [↓reduceIte, ↓z_ite, ↓zR, ↓zB_R, ↓zB_B, ↓zB_ite, ↓zB_gI, ↓zB_pI, ↓zB_pZ, ↓zB_aK, ↓zB_G, ↓zB_lI, ↓zB_lZ, ↓zB_wI, ↓zB_wZ, ↓zB_lIl, ↓zB_wIl, zB_pI, zB_pZ, zB_lI, zB_lZ, zB_wI, zB_wZ, z_addl, z_ladd, z_mull, z_lmul, nI_add, z_subl, Nat.not_lt_zero, z_10, z_01, z_bitc, z_b0, z_b1, ↓zB_Gb, ↓zB_G0, ↓zB_G1, z_eql, z_leq, z_ltl, z_llt, z_eq, z_lt, z_m1lt, hb.k, hb.k1, hb.k2, hb.k3, hb.k4, hb.k5, hb.k6, hb.l1, hb.l2, hb.l3, hb.l4, hb.l5, hb.l6, hc.k, hc.k1, hc.k2, hc.k3, hc.k4, hc.k5, hc.k6, hc.l1, hc.l2, hc.l3, hc.l4, hc.l5, hc.l6, ↓hb.g0, ↓hb.g1, ↓hb.g2, ↓hb.g3, ↓hb.g4, ↓hb.g5, ↓hc.g0, ↓hc.g1, ↓hc.g2, ↓hc.g3, ↓hc.g4, ↓hc.g5, r1, g, r3, hp, Nat.zero_add, ↓zB_c e1, zB_c e1, ↓zB_c e2, zB_c e2]
  · rw [g, if_neg (by decide), show z_pn 4 0 = 2 from rfl] at e1
    have hp := z_p_6 g
    simp (disch := ((try simp only [true_or, or_true, hb.k, hb.k1, hb.k2, hb.k3, hb.k4, hb.k5, hb.k6, hb.l1, hb.l2, hb.l3, hb.l4, hb.l5, hb.l6, hc.k, hc.k1, hc.k2, hc.k3, hc.k4, hc.k5, hc.k6, hc.l1, hc.l2, hc.l3, hc.l4, hc.l5, hc.l6]) <;> (try omega))) only [↓reduceIte, ↓z_ite, ↓zR, ↓zB_R, ↓zB_B, ↓zB_ite, ↓zB_gI, ↓zB_pI, ↓zB_pZ, ↓zB_aK, ↓zB_G, ↓zB_lI, ↓zB_lZ, ↓zB_wI, ↓zB_wZ, ↓zB_lIl, ↓zB_wIl, zB_pI, zB_pZ, zB_lI, zB_lZ, zB_wI, zB_wZ, z_addl, z_ladd, z_mull, z_lmul, nI_add, z_subl, Nat.not_lt_zero, z_10, z_01, z_bitc, z_b0, z_b1, ↓zB_Gb, ↓zB_G0, ↓zB_G1, z_eql, z_leq, z_ltl, z_llt, z_eq, z_lt, z_m1lt, hb.k, hb.k1, hb.k2, hb.k3, hb.k4, hb.k5, hb.k6, hb.l1, hb.l2, hb.l3, hb.l4, hb.l5, hb.l6, hc.k, hc.k1, hc.k2, hc.k3, hc.k4, hc.k5, hc.k6, hc.l1, hc.l2, hc.l3, hc.l4, hc.l5, hc.l6, ↓hb.g0, ↓hb.g1, ↓hb.g2, ↓hb.g3, ↓hb.g4, ↓hb.g5, ↓hc.g0, ↓hc.g1, ↓hc.g2, ↓hc.g3, ↓hc.g4, ↓hc.g5, r1, g, r3, hp, show ¬ (6 : Int32) = 1 by decide, ↓zB_c e1, zB_c e1, ↓zB_c e2, zB_c e2]
/-- a piece of a body -/
def z_sub (l : List z_N) (i j : Nat) : List z_N := (l.drop i).take (j - i)
theorem z_sub_len {i j : Nat} (hij : i ≤ j) (hj : j ≤ l.length) : (z_sub l i j).length = j - i := by
  unfold z_sub
  rw [List.length_take, List.length_drop]; omega
theorem z_sub_nil (i : Nat) : z_sub l i i = [] := by unfold z_sub; rw [Nat.sub_self]; rfl
theorem z_sub_snoc {i j : Nat} (hij : i ≤ j) (hj : j < l.length) : z_sub l i (j + 1) = z_sub l i j ++ [z_at l j] := by
  unfold z_sub
  rw [show j + 1 - i = (j - i) + 1 by omega, List.take_succ]
  congr 1
  rw [List.getElem?_drop, show i + (j - i) = j by omega, List.getElem?_eq_getElem hj]
  unfold z_at
  rw [List.getD_eq_getElem?_getD, List.getElem?_eq_getElem hj]; rfl
/-- Body.addRange -/
theorem f6_sp (hb : z_BS S b R) (h : z_cb m b R l) (hbc : z_bb b c) (hc : z_BS S c Rc) (h2 : z_cb m c Rc lc) {i j : Nat} (hij : i ≤ j) (hj : j ≤ lc.length) (hl : l.length + (j - i) ≤ R) : ∃ m', f6 b c (nI i) (nI j) (z_hp S m) = some ((), z_hp S m') ∧ z_cb m' b R (l ++ z_sub lc i j) ∧ z_bF b m m' := by
  have hR := h2.2.2.1
  have hR2 := h2.2.2.2.1
  unfold f6 f6_3
  have key := z_loopI (f := fun s => f6_3b (s.1) (s.2.1) (s.2.2.1) (s.2.2.2)) (S := S) (fun n s m' => ∃ q, n = j - q ∧ i ≤ q ∧ q ≤ j ∧ s = (b, c, nI j, nI q) ∧ z_cb m' b R (l ++ z_sub lc i q) ∧ z_bF b m m') (fun _ m' => z_cb m' b R (l ++ z_sub lc i j) ∧ z_bF b m m') ?_ 1000000 (j - i) (b, c, nI j, nI i) m ⟨i, rfl, Nat.le_refl _, hij, rfl, by rw [z_sub_nil, List.append_nil]; exact h, z_bF.refl b m⟩ (by omega)
  · obtain ⟨r, m', e, h3⟩ := key
    exact ⟨m', e, h3⟩
  · rintro n s m' ⟨q, rfl, hq, hqj, rfl, hcb, hF⟩
    dsimp only
    rcases Nat.eq_or_lt_of_le hqj with g | g
    · refine Or.inr ⟨(), m', ?_, by rw [← g]; exact hcb, hF⟩
      unfold f6_3b f6_22
      rw [g]
      simp (disch := ((try simp only [true_or, or_true]) <;> (try omega))) only [↓reduceIte, ↓z_ite, ↓zR, ↓zB_R, ↓zB_B, ↓zB_ite, ↓zB_gI, ↓zB_pI, ↓zB_pZ, ↓zB_aK, ↓zB_G, ↓zB_lI, ↓zB_lZ, ↓zB_wI, ↓zB_wZ, ↓zB_lIl, ↓zB_wIl, zB_pI, zB_pZ, zB_lI, zB_lZ, zB_wI, zB_wZ, z_addl, z_ladd, z_mull, z_lmul, nI_add, z_subl, Nat.not_lt_zero, z_10, z_01, z_bitc, z_b0, z_b1, ↓zB_Gb, ↓zB_G0, ↓zB_G1, z_eql, z_leq, z_ltl, z_llt, z_eq, z_lt, z_m1lt, Nat.lt_irrefl]
    · have hlen : (l ++ z_sub lc i q).length < R := by rw [List.length_append, z_sub_len hq (by omega)]; omega
      obtain ⟨m2, e, h3, h4⟩ := f3_sp hb hcb hlen hc (z_cb_bF hbc hF h2) (i := q) (by omega)
      refine Or.inl ⟨_, m2, j - (q + 1), ?_, by omega, q + 1, rfl, by omega, g, rfl, ?_, hF.trans h4⟩
      · unfold f6_3b
        simp (disch := ((try simp only [true_or, or_true, hb.k, hb.k1, hb.k2, hb.k3, hb.k4, hb.k5, hb.k6, hb.l1, hb.l2, hb.l3, hb.l4, hb.l5, hb.l6]) <;> (try omega))) only [↓reduceIte, ↓z_ite, ↓zR, ↓zB_R, ↓zB_B, ↓zB_ite, ↓zB_gI, ↓zB_pI, ↓zB_pZ, ↓zB_aK, ↓zB_G, ↓zB_lI, ↓zB_lZ, ↓zB_wI, ↓zB_wZ, ↓zB_lIl, ↓zB_wIl, zB_pI, zB_pZ, zB_lI, zB_lZ, zB_wI, zB_wZ, z_addl, z_ladd, z_mull, z_lmul, nI_add, z_subl, Nat.not_lt_zero, z_10, z_01, z_bitc, z_b0, z_b1, ↓zB_Gb, ↓zB_G0, ↓zB_G1, z_eql, z_leq, z_ltl, z_llt, z_eq, z_lt, z_m1lt, hb.k, hb.k1, hb.k2, hb.k3, hb.k4, hb.k5, hb.k6, hb.l1, hb.l2, hb.l3, hb.l4, hb.l5, hb.l6, ↓hb.g0, ↓hb.g1, ↓hb.g2, ↓hb.g3, ↓hb.g4, ↓hb.g5, g, ↓zB_c e, zB_c e]
      · rw [z_sub_snoc hq (by omega), ← List.append_assoc]; exact h3
/-- Body.take -/
theorem f7_n (hb : z_BS S b R) (h6 : m b 6 = nI R) (hR : R ≤ 256) (h2 : z_cb m c Rc lc) (hc : z_BS S c Rc) (hl : R < lc.length) : f7 b c (z_hp S m) = some (0, z_hp S m) := by
  have g1 := h2.2.1
  have g2 := h2.2.2.1
  have g3 := h2.2.2.2.1
  unfold f7
  simp (disch := ((try simp only [true_or, or_true, hb.k, hb.k1, hb.k2, hb.k3, hb.k4, hb.k5, hb.k6, hb.l1, hb.l2, hb.l3, hb.l4, hb.l5, hb.l6, hc.k, hc.k1, hc.k2, hc.k3, hc.k4, hc.k5, hc.k6, hc.l1, hc.l2, hc.l3, hc.l4, hc.l5, hc.l6]) <;> (try omega))) only [↓reduceIte, ↓z_ite, ↓zR, ↓zB_R, ↓zB_B, ↓zB_ite, ↓zB_gI, ↓zB_pI, ↓zB_pZ, ↓zB_aK, ↓zB_G, ↓zB_lI, ↓zB_lZ, ↓zB_wI, ↓zB_wZ, ↓zB_lIl, ↓zB_wIl, zB_pI, zB_pZ, zB_lI, zB_lZ, zB_wI, zB_wZ, z_addl, z_ladd, z_mull, z_lmul, nI_add, z_subl, Nat.not_lt_zero, z_10, z_01, z_bitc, z_b0, z_b1, ↓zB_Gb, ↓zB_G0, ↓zB_G1, z_eql, z_leq, z_ltl, z_llt, z_eq, z_lt, z_m1lt, hb.k, hb.k1, hb.k2, hb.k3, hb.k4, hb.k5, hb.k6, hb.l1, hb.l2, hb.l3, hb.l4, hb.l5, hb.l6, hc.k, hc.k1, hc.k2, hc.k3, hc.k4, hc.k5, hc.k6, hc.l1, hc.l2, hc.l3, hc.l4, hc.l5, hc.l6, ↓hb.g0, ↓hb.g1, ↓hb.g2, ↓hb.g3, ↓hb.g4, ↓hb.g5, ↓hc.g0, ↓hc.g1, ↓hc.g2, ↓hc.g3, ↓hc.g4, ↓hc.g5, g1, h6, hl]
theorem f7_y (hb : z_BS S b R) (h6 : m b 6 = nI R) (hR : R ≤ 256) (hbc : z_bb b c) (h2 : z_cb m c Rc lc) (hc : z_BS S c Rc) (hl : lc.length ≤ R) : ∃ m', f7 b c (z_hp S m) = some (1, z_hp S m') ∧ z_cb m' b R lc ∧ z_bF b m m' := by
  obtain ⟨g0, g1, g2, g3, g4⟩ := h2
  have hbc' : b ≠ c ∧ c ≠ b + 1 ∧ c ≠ b + 2 ∧ c ≠ b + 3 ∧ c + 1 ≠ b + 1 ∧ c + 2 ≠ b + 1 ∧ c + 3 ≠ b + 1 ∧ c + 2 ≠ b + 2 ∧ c + 3 ≠ b + 2 ∧ c + 3 ≠ b + 3 := by unfold z_bb at hbc; omega
  have u1 : ∀ f, z_ur m (b + 1) f c 7 = nI lc.length := fun f => by rw [z_ur_n (by omega)]; exact g1
  have u2 : ∀ f g, z_ur (z_ur m (b + 1) f) (b + 2) g c 7 = nI lc.length := fun f g => by rw [z_ur_n (by omega)]; exact u1 f
  have u3 : ∀ f g h, z_ur (z_ur (z_ur m (b + 1) f) (b + 2) g) (b + 3) h c 7 = nI lc.length := fun f g h => by rw [z_ur_n (by omega)]; exact u2 f g
  refine ⟨z_up (z_ur (z_ur (z_ur m (b + 1) (va_cpy (m (c + 1)) (m (b + 1)) 0 0 lc.length)) (b + 2) (va_cpy (m (c + 2)) (m (b + 2)) 0 0 lc.length)) (b + 3) (va_cpy (m (c + 3)) (m (b + 3)) 0 0 lc.length)) b 7 (nI lc.length), ?_, ⟨?_, z_up_s _ _ _ _, hl, hR, fun i hi => ?_⟩, ⟨fun a x1 x2 x3 x4 => ?_, fun j hj => ?_⟩⟩
  · have v1 : ∀ f, z_ur m (b + 1) f (c + 2) = m (c + 2) := fun f => z_ur_n (by omega)
    have v2 : ∀ f, z_ur m (b + 1) f (b + 2) = m (b + 2) := fun f => z_ur_n (by omega)
    have v3 : ∀ f g, z_ur (z_ur m (b + 1) f) (b + 2) g (c + 3) = m (c + 3) := fun f g => by rw [z_ur_n (by omega), z_ur_n (by omega)]
    have v4 : ∀ f g, z_ur (z_ur m (b + 1) f) (b + 2) g (b + 3) = m (b + 3) := fun f g => by rw [z_ur_n (by omega), z_ur_n (by omega)]
    have hle : ¬ R < lc.length := by omega
    unfold f7
    simp (disch := ((try simp only [true_or, or_true, hb.k, hb.k1, hb.k2, hb.k3, hb.k4, hb.k5, hb.k6, hb.l1, hb.l2, hb.l3, hb.l4, hb.l5, hb.l6, hc.k, hc.k1, hc.k2, hc.k3, hc.k4, hc.k5, hc.k6, hc.l1, hc.l2, hc.l3, hc.l4, hc.l5, hc.l6]) <;> (try omega))) only [↓reduceIte, ↓z_ite, ↓zR, ↓zB_R, ↓zB_B, ↓zB_ite, ↓zB_gI, ↓zB_pI, ↓zB_pZ, ↓zB_aK, ↓zB_G, ↓zB_lI, ↓zB_lZ, ↓zB_wI, ↓zB_wZ, ↓zB_lIl, ↓zB_wIl, zB_pI, zB_pZ, zB_lI, zB_lZ, zB_wI, zB_wZ, z_addl, z_ladd, z_mull, z_lmul, nI_add, z_subl, Nat.not_lt_zero, z_10, z_01, z_bitc, z_b0, z_b1, ↓zB_Gb, ↓zB_G0, ↓zB_G1, z_eql, z_leq, z_ltl, z_llt, z_eq, z_lt, z_m1lt, hb.k, hb.k1, hb.k2, hb.k3, hb.k4, hb.k5, hb.k6, hb.l1, hb.l2, hb.l3, hb.l4, hb.l5, hb.l6, hc.k, hc.k1, hc.k2, hc.k3, hc.k4, hc.k5, hc.k6, hc.l1, hc.l2, hc.l3, hc.l4, hc.l5, hc.l6, ↓hb.g0, ↓hb.g1, ↓hb.g2, ↓hb.g3, ↓hb.g4, ↓hb.g5, ↓hc.g0, ↓hc.g1, ↓hc.g2, ↓hc.g3, ↓hc.g4, ↓hc.g5, g1, h6, hle, ↓zB_cp0, zB_cp0, u1, u2, u3, v1, v2, v3, v4]
  · rw [z_up_b (by decide), z_ur_n (by omega), z_ur_n (by omega), z_ur_n (by omega)]; exact h6
  · have cin : ∀ (f g : Nat → Int32), va_cpy f g 0 0 lc.length i = f i := fun f g => by rw [pk_cpy_in (Nat.zero_le _) (by omega), Nat.zero_add, Nat.sub_zero]
    have q1 : z_up (z_ur (z_ur (z_ur m (b + 1) (va_cpy (m (c + 1)) (m (b + 1)) 0 0 lc.length)) (b + 2) (va_cpy (m (c + 2)) (m (b + 2)) 0 0 lc.length)) (b + 3) (va_cpy (m (c + 3)) (m (b + 3)) 0 0 lc.length)) b 7 (nI lc.length) (b + 1) i = m (c + 1) i := by
      rw [z_up_a (by omega), z_ur_n (by omega), z_ur_n (by omega), z_ur_s, cin]
    have q2 : z_up (z_ur (z_ur (z_ur m (b + 1) (va_cpy (m (c + 1)) (m (b + 1)) 0 0 lc.length)) (b + 2) (va_cpy (m (c + 2)) (m (b + 2)) 0 0 lc.length)) (b + 3) (va_cpy (m (c + 3)) (m (b + 3)) 0 0 lc.length)) b 7 (nI lc.length) (b + 2) i = m (c + 2) i := by
      rw [z_up_a (by omega), z_ur_n (by omega), z_ur_s, cin]
    have q3 : z_up (z_ur (z_ur (z_ur m (b + 1) (va_cpy (m (c + 1)) (m (b + 1)) 0 0 lc.length)) (b + 2) (va_cpy (m (c + 2)) (m (b + 2)) 0 0 lc.length)) (b + 3) (va_cpy (m (c + 3)) (m (b + 3)) 0 0 lc.length)) b 7 (nI lc.length) (b + 3) i = m (c + 3) i := by
      rw [z_up_a (by omega), z_ur_s, cin]
    rw [q1, q2, q3]
    exact g4 i hi
  · rw [z_up_row x1, z_ur_n x4, z_ur_n x3, z_ur_n x2]
  · rw [z_up_b hj, z_ur_n (by omega), z_ur_n (by omega), z_ur_n (by omega)]
end
