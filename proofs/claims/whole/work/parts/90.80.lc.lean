-- deps:
/-! the locals that a piece of a body reads -/
section
variable {S : z_S} {m : z_m}
/-- what is known of such an object: where its rows lie, three long -/
def z_LS (S : z_S) (L : Nat) : Prop := z_kd S L = 4 ∧ (z_rm S L 0 = some (L + 1) ∧ z_rm S L 1 = some (L + 2) ∧ z_rm S L 2 = some (L + 3)) ∧ ∀ j, j < 3 → z_kd S (L + 1 + j) = 20 ∧ z_ln S (L + 1 + j) = 3
/-- what it holds: bounds, names, types -/
def z_lc (m : z_m) (L : Nat) (c : List (Int32 × Int32 × Int32)) : Prop := m L 3 = nI c.length ∧ c.length ≤ 3 ∧ ∀ j, j < c.length → m (L + 1) j = (c.getD j (0, 0, 0)).1 ∧ m (L + 2) j = (c.getD j (0, 0, 0)).2.1 ∧ m (L + 3) j = (c.getD j (0, 0, 0)).2.2
theorem z_XS.L45 (h : z_XS S) : z_LS S 45 := ⟨h.k45, ⟨h.2.1 (45, 0, 46) (by decide), h.2.1 (45, 1, 47) (by decide), h.2.1 (45, 2, 48) (by decide)⟩, fun j hj => by
  have : j = 0 ∨ j = 1 ∨ j = 2 := by omega
  rcases this with rfl | rfl | rfl
  · exact h.2.2.1 (46, 3) (by decide)
  · exact h.2.2.1 (47, 3) (by decide)
  · exact h.2.2.1 (48, 3) (by decide)⟩
theorem z_XS.L49 (h : z_XS S) : z_LS S 49 := ⟨h.k49, ⟨h.2.1 (49, 0, 50) (by decide), h.2.1 (49, 1, 51) (by decide), h.2.1 (49, 2, 52) (by decide)⟩, fun j hj => by
  have : j = 0 ∨ j = 1 ∨ j = 2 := by omega
  rcases this with rfl | rfl | rfl
  · exact h.2.2.1 (50, 3) (by decide)
  · exact h.2.2.1 (51, 3) (by decide)
  · exact h.2.2.1 (52, 3) (by decide)⟩
/-- the place of a bound -/
def z_lix (c : List (Int32 × Int32 × Int32)) (x : Int32) : Int32 := z_sch (fun j => (c.getD j (0, 0, 0)).1 == x) nI (-1) c.length 0
theorem f40_45 (hX : z_XS S) {c : List (Int32 × Int32 × Int32)} (h : z_lc m 45 c) (x : Int32) : f40 45 x (z_hp S m) = some (z_lix c x, z_hp S m) := by
  obtain ⟨h3, hl, hr⟩ := h
  unfold f40 f40_2 z_lix
  refine z_search (fun j => (45, x, nI j)) (fun j => (c.getD j (0, 0, 0)).1 == x) nI (-1) c.length 0 1000000 (by omega) (fun j _ hj => ?_) ?_
  · have hj : j < c.length := by omega
    have hb := (hr j hj).1
    have hj3 : j < 3 := by omega
    dsimp only
    unfold f40_2b f40_20
    by_cases g : (c.getD j (0, 0, 0)).1 = x
    · rw [show ((c.getD j (0, 0, 0)).1 == x) = true by simpa using g]
      simp (disch := ((try simp only [true_or, or_true, hX.k45, hX.k46, hX.k47, hX.k48, hX.l46, hX.l47, hX.l48]) <;> (try omega))) only [↓reduceIte, ↓z_ite, ↓zR, ↓zB_R, ↓zB_B, ↓zB_ite, ↓zB_gI, ↓zB_pI, ↓zB_pZ, ↓zB_aK, ↓zB_G, ↓zB_lI, ↓zB_lZ, ↓zB_wI, ↓zB_wZ, ↓zB_lIl, ↓zB_wIl, zB_pI, zB_pZ, zB_lI, zB_lZ, zB_wI, zB_wZ, z_addl, z_ladd, z_mull, z_lmul, nI_add, z_subl, Nat.not_lt_zero, z_10, z_01, z_bitc, z_b0, z_b1, ↓zB_Gb, ↓zB_G0, ↓zB_G1, z_eql, z_leq, z_ltl, z_llt, z_eq, z_lt, z_m1lt, hX.k45, hX.k46, hX.k47, hX.k48, hX.l46, hX.l47, hX.l48, ↓hX.g45_0, ↓hX.g45_1, ↓hX.g45_2, h3, hj, hj3, hb, g]
    · rw [show ((c.getD j (0, 0, 0)).1 == x) = false by simpa using g]
      simp (disch := ((try simp only [true_or, or_true, hX.k45, hX.k46, hX.k47, hX.k48, hX.l46, hX.l47, hX.l48]) <;> (try omega))) only [↓reduceIte, ↓z_ite, ↓zR, ↓zB_R, ↓zB_B, ↓zB_ite, ↓zB_gI, ↓zB_pI, ↓zB_pZ, ↓zB_aK, ↓zB_G, ↓zB_lI, ↓zB_lZ, ↓zB_wI, ↓zB_wZ, ↓zB_lIl, ↓zB_wIl, zB_pI, zB_pZ, zB_lI, zB_lZ, zB_wI, zB_wZ, z_addl, z_ladd, z_mull, z_lmul, nI_add, z_subl, Nat.not_lt_zero, z_10, z_01, z_bitc, z_b0, z_b1, ↓zB_Gb, ↓zB_G0, ↓zB_G1, z_eql, z_leq, z_ltl, z_llt, z_eq, z_lt, z_m1lt, hX.k45, hX.k46, hX.k47, hX.k48, hX.l46, hX.l47, hX.l48, ↓hX.g45_0, ↓hX.g45_1, ↓hX.g45_2, h3, hj, hj3, hb, g, Bool.false_eq_true]
  · dsimp only
    unfold f40_2b f40_28
    rw [Nat.zero_add]
    simp (disch := ((try simp only [true_or, or_true, hX.k45, hX.k46, hX.k47, hX.k48, hX.l46, hX.l47, hX.l48]) <;> (try omega))) only [↓reduceIte, ↓z_ite, ↓zR, ↓zB_R, ↓zB_B, ↓zB_ite, ↓zB_gI, ↓zB_pI, ↓zB_pZ, ↓zB_aK, ↓zB_G, ↓zB_lI, ↓zB_lZ, ↓zB_wI, ↓zB_wZ, ↓zB_lIl, ↓zB_wIl, zB_pI, zB_pZ, zB_lI, zB_lZ, zB_wI, zB_wZ, z_addl, z_ladd, z_mull, z_lmul, nI_add, z_subl, Nat.not_lt_zero, z_10, z_01, z_bitc, z_b0, z_b1, ↓zB_Gb, ↓zB_G0, ↓zB_G1, z_eql, z_leq, z_ltl, z_llt, z_eq, z_lt, z_m1lt, hX.k45, hX.k46, hX.k47, hX.k48, hX.l46, hX.l47, hX.l48, ↓hX.g45_0, ↓hX.g45_1, ↓hX.g45_2, h3, Nat.lt_irrefl]
theorem f40_49 (hX : z_XS S) {c : List (Int32 × Int32 × Int32)} (h : z_lc m 49 c) (x : Int32) : f40 49 x (z_hp S m) = some (z_lix c x, z_hp S m) := by
  obtain ⟨h3, hl, hr⟩ := h
  unfold f40 f40_2 z_lix
  refine z_search (fun j => (49, x, nI j)) (fun j => (c.getD j (0, 0, 0)).1 == x) nI (-1) c.length 0 1000000 (by omega) (fun j _ hj => ?_) ?_
  · have hj : j < c.length := by omega
    have hb := (hr j hj).1
    have hj3 : j < 3 := by omega
    dsimp only
    unfold f40_2b f40_20
    by_cases g : (c.getD j (0, 0, 0)).1 = x
    · rw [show ((c.getD j (0, 0, 0)).1 == x) = true by simpa using g]
      simp (disch := ((try simp only [true_or, or_true, hX.k49, hX.k50, hX.k51, hX.k52, hX.l50, hX.l51, hX.l52]) <;> (try omega))) only [↓reduceIte, ↓z_ite, ↓zR, ↓zB_R, ↓zB_B, ↓zB_ite, ↓zB_gI, ↓zB_pI, ↓zB_pZ, ↓zB_aK, ↓zB_G, ↓zB_lI, ↓zB_lZ, ↓zB_wI, ↓zB_wZ, ↓zB_lIl, ↓zB_wIl, zB_pI, zB_pZ, zB_lI, zB_lZ, zB_wI, zB_wZ, z_addl, z_ladd, z_mull, z_lmul, nI_add, z_subl, Nat.not_lt_zero, z_10, z_01, z_bitc, z_b0, z_b1, ↓zB_Gb, ↓zB_G0, ↓zB_G1, z_eql, z_leq, z_ltl, z_llt, z_eq, z_lt, z_m1lt, hX.k49, hX.k50, hX.k51, hX.k52, hX.l50, hX.l51, hX.l52, ↓hX.g49_0, ↓hX.g49_1, ↓hX.g49_2, h3, hj, hj3, hb, g]
    · rw [show ((c.getD j (0, 0, 0)).1 == x) = false by simpa using g]
      simp (disch := ((try simp only [true_or, or_true, hX.k49, hX.k50, hX.k51, hX.k52, hX.l50, hX.l51, hX.l52]) <;> (try omega))) only [↓reduceIte, ↓z_ite, ↓zR, ↓zB_R, ↓zB_B, ↓zB_ite, ↓zB_gI, ↓zB_pI, ↓zB_pZ, ↓zB_aK, ↓zB_G, ↓zB_lI, ↓zB_lZ, ↓zB_wI, ↓zB_wZ, ↓zB_lIl, ↓zB_wIl, zB_pI, zB_pZ, zB_lI, zB_lZ, zB_wI, zB_wZ, z_addl, z_ladd, z_mull, z_lmul, nI_add, z_subl, Nat.not_lt_zero, z_10, z_01, z_bitc, z_b0, z_b1, ↓zB_Gb, ↓zB_G0, ↓zB_G1, z_eql, z_leq, z_ltl, z_llt, z_eq, z_lt, z_m1lt, hX.k49, hX.k50, hX.k51, hX.k52, hX.l50, hX.l51, hX.l52, ↓hX.g49_0, ↓hX.g49_1, ↓hX.g49_2, h3, hj, hj3, hb, g, Bool.false_eq_true]
  · dsimp only
    unfold f40_2b f40_28
    rw [Nat.zero_add]
    simp (disch := ((try simp only [true_or, or_true, hX.k49, hX.k50, hX.k51, hX.k52, hX.l50, hX.l51, hX.l52]) <;> (try omega))) only [↓reduceIte, ↓z_ite, ↓zR, ↓zB_R, ↓zB_B, ↓zB_ite, ↓zB_gI, ↓zB_pI, ↓zB_pZ, ↓zB_aK, ↓zB_G, ↓zB_lI, ↓zB_lZ, ↓zB_wI, ↓zB_wZ, ↓zB_lIl, ↓zB_wIl, zB_pI, zB_pZ, zB_lI, zB_lZ, zB_wI, zB_wZ, z_addl, z_ladd, z_mull, z_lmul, nI_add, z_subl, Nat.not_lt_zero, z_10, z_01, z_bitc, z_b0, z_b1, ↓zB_Gb, ↓zB_G0, ↓zB_G1, z_eql, z_leq, z_ltl, z_llt, z_eq, z_lt, z_m1lt, hX.k49, hX.k50, hX.k51, hX.k52, hX.l50, hX.l51, hX.l52, ↓hX.g49_0, ↓hX.g49_1, ↓hX.g49_2, h3, Nat.lt_irrefl]
/-- as many, of the same types -/
def z_lty (c d : List (Int32 × Int32 × Int32)) : Bool := decide (c.length = d.length) && !z_any (fun j => !((c.getD j (0, 0, 0)).2.2 == (d.getD j (0, 0, 0)).2.2)) c.length
theorem f42_sp (hX : z_XS S) {c d : List (Int32 × Int32 × Int32)} (h : z_lc m 49 c) (h' : z_lc m 45 d) : f42 49 45 (z_hp S m) = some (z_b (z_lty c d), z_hp S m) := by
  obtain ⟨h3, hl, hr⟩ := h
  obtain ⟨h3', hl', hr'⟩ := h'
  unfold f42 z_lty
  by_cases y : c.length = d.length
  · rw [decide_eq_true y, Bool.true_and]
    have key := z_search (f := fun s => f42_15b (s.1) (s.2.1) (s.2.2)) (S := S) (m := m) (fun j => (49, 45, nI j)) (fun j => !((c.getD j (0, 0, 0)).2.2 == (d.getD j (0, 0, 0)).2.2)) (fun _ => (0 : Int32)) 1 c.length 0 1000000 (by omega) (fun j _ hj => ?_) ?_
    · rw [z_sch_if0] at key
      have e : f42_15 49 45 0 (z_hp S m) = some (z_b (!z_any (fun j => !((c.getD j (0, 0, 0)).2.2 == (d.getD j (0, 0, 0)).2.2)) c.length), z_hp S m) := by
        unfold f42_15
        refine Eq.trans key ?_
        cases z_any (fun j => !((c.getD j (0, 0, 0)).2.2 == (d.getD j (0, 0, 0)).2.2)) c.length <;> rfl
      have h3' : m 45 3 = nI c.length := by rw [y]; exact h3'
      simp (disch := ((try simp only [true_or, or_true, hX.k45, hX.k46, hX.k47, hX.k48, hX.l46, hX.l47, hX.l48, hX.k49, hX.k50, hX.k51, hX.k52, hX.l50, hX.l51, hX.l52]) <;> (try omega))) only [↓reduceIte, ↓z_ite, ↓zR, ↓zB_R, ↓zB_B, ↓zB_ite, ↓zB_gI, ↓zB_pI, ↓zB_pZ, ↓zB_aK, ↓zB_G, ↓zB_lI, ↓zB_lZ, ↓zB_wI, ↓zB_wZ, ↓zB_lIl, ↓zB_wIl, zB_pI, zB_pZ, zB_lI, zB_lZ, zB_wI, zB_wZ, z_addl, z_ladd, z_mull, z_lmul, nI_add, z_subl, Nat.not_lt_zero, z_10, z_01, z_bitc, z_b0, z_b1, ↓zB_Gb, ↓zB_G0, ↓zB_G1, z_eql, z_leq, z_ltl, z_llt, z_eq, z_lt, z_m1lt, hX.k45, hX.k46, hX.k47, hX.k48, hX.l46, hX.l47, hX.l48, hX.k49, hX.k50, hX.k51, hX.k52, hX.l50, hX.l51, hX.l52, ↓hX.g45_0, ↓hX.g45_1, ↓hX.g45_2, ↓hX.g49_0, ↓hX.g49_1, ↓hX.g49_2, h3, h3']
      exact e
    · have hj : j < c.length := by omega
      have hb := (hr j hj).2.2
      have hb' := (hr' j (by omega)).2.2
      have hj3 : j < 3 := by omega
      dsimp only
      unfold f42_15b f42_38
      by_cases g : (c.getD j (0, 0, 0)).2.2 = (d.getD j (0, 0, 0)).2.2
      · rw [show ((c.getD j (0, 0, 0)).2.2 == (d.getD j (0, 0, 0)).2.2) = true by simpa using g]
        simp (disch := ((try simp only [true_or, or_true, hX.k45, hX.k46, hX.k47, hX.k48, hX.l46, hX.l47, hX.l48, hX.k49, hX.k50, hX.k51, hX.k52, hX.l50, hX.l51, hX.l52]) <;> (try omega))) only [↓reduceIte, ↓z_ite, ↓zR, ↓zB_R, ↓zB_B, ↓zB_ite, ↓zB_gI, ↓zB_pI, ↓zB_pZ, ↓zB_aK, ↓zB_G, ↓zB_lI, ↓zB_lZ, ↓zB_wI, ↓zB_wZ, ↓zB_lIl, ↓zB_wIl, zB_pI, zB_pZ, zB_lI, zB_lZ, zB_wI, zB_wZ, z_addl, z_ladd, z_mull, z_lmul, nI_add, z_subl, Nat.not_lt_zero, z_10, z_01, z_bitc, z_b0, z_b1, ↓zB_Gb, ↓zB_G0, ↓zB_G1, z_eql, z_leq, z_ltl, z_llt, z_eq, z_lt, z_m1lt, hX.k45, hX.k46, hX.k47, hX.k48, hX.l46, hX.l47, hX.l48, hX.k49, hX.k50, hX.k51, hX.k52, hX.l50, hX.l51, hX.l52, ↓hX.g45_0, ↓hX.g45_1, ↓hX.g45_2, ↓hX.g49_0, ↓hX.g49_1, ↓hX.g49_2, h3, hj, hj3, hb, hb', g, Bool.not_true, Bool.false_eq_true]
      · rw [show ((c.getD j (0, 0, 0)).2.2 == (d.getD j (0, 0, 0)).2.2) = false by simpa using g]
        simp (disch := ((try simp only [true_or, or_true, hX.k45, hX.k46, hX.k47, hX.k48, hX.l46, hX.l47, hX.l48, hX.k49, hX.k50, hX.k51, hX.k52, hX.l50, hX.l51, hX.l52]) <;> (try omega))) only [↓reduceIte, ↓z_ite, ↓zR, ↓zB_R, ↓zB_B, ↓zB_ite, ↓zB_gI, ↓zB_pI, ↓zB_pZ, ↓zB_aK, ↓zB_G, ↓zB_lI, ↓zB_lZ, ↓zB_wI, ↓zB_wZ, ↓zB_lIl, ↓zB_wIl, zB_pI, zB_pZ, zB_lI, zB_lZ, zB_wI, zB_wZ, z_addl, z_ladd, z_mull, z_lmul, nI_add, z_subl, Nat.not_lt_zero, z_10, z_01, z_bitc, z_b0, z_b1, ↓zB_Gb, ↓zB_G0, ↓zB_G1, z_eql, z_leq, z_ltl, z_llt, z_eq, z_lt, z_m1lt, hX.k45, hX.k46, hX.k47, hX.k48, hX.l46, hX.l47, hX.l48, hX.k49, hX.k50, hX.k51, hX.k52, hX.l50, hX.l51, hX.l52, ↓hX.g45_0, ↓hX.g45_1, ↓hX.g45_2, ↓hX.g49_0, ↓hX.g49_1, ↓hX.g49_2, h3, hj, hj3, hb, hb', g, Bool.not_false]
    · dsimp only
      unfold f42_15b f42_46
      rw [Nat.zero_add]
      simp (disch := ((try simp only [true_or, or_true, hX.k45, hX.k46, hX.k47, hX.k48, hX.l46, hX.l47, hX.l48, hX.k49, hX.k50, hX.k51, hX.k52, hX.l50, hX.l51, hX.l52]) <;> (try omega))) only [↓reduceIte, ↓z_ite, ↓zR, ↓zB_R, ↓zB_B, ↓zB_ite, ↓zB_gI, ↓zB_pI, ↓zB_pZ, ↓zB_aK, ↓zB_G, ↓zB_lI, ↓zB_lZ, ↓zB_wI, ↓zB_wZ, ↓zB_lIl, ↓zB_wIl, zB_pI, zB_pZ, zB_lI, zB_lZ, zB_wI, zB_wZ, z_addl, z_ladd, z_mull, z_lmul, nI_add, z_subl, Nat.not_lt_zero, z_10, z_01, z_bitc, z_b0, z_b1, ↓zB_Gb, ↓zB_G0, ↓zB_G1, z_eql, z_leq, z_ltl, z_llt, z_eq, z_lt, z_m1lt, hX.k45, hX.k46, hX.k47, hX.k48, hX.l46, hX.l47, hX.l48, hX.k49, hX.k50, hX.k51, hX.k52, hX.l50, hX.l51, hX.l52, ↓hX.g45_0, ↓hX.g45_1, ↓hX.g45_2, ↓hX.g49_0, ↓hX.g49_1, ↓hX.g49_2, h3, Nat.lt_irrefl]
  · rw [decide_eq_false y, Bool.false_and]
    simp (disch := ((try simp only [true_or, or_true, hX.k45, hX.k46, hX.k47, hX.k48, hX.l46, hX.l47, hX.l48, hX.k49, hX.k50, hX.k51, hX.k52, hX.l50, hX.l51, hX.l52]) <;> (try omega))) only [↓reduceIte, ↓z_ite, ↓zR, ↓zB_R, ↓zB_B, ↓zB_ite, ↓zB_gI, ↓zB_pI, ↓zB_pZ, ↓zB_aK, ↓zB_G, ↓zB_lI, ↓zB_lZ, ↓zB_wI, ↓zB_wZ, ↓zB_lIl, ↓zB_wIl, zB_pI, zB_pZ, zB_lI, zB_lZ, zB_wI, zB_wZ, z_addl, z_ladd, z_mull, z_lmul, nI_add, z_subl, Nat.not_lt_zero, z_10, z_01, z_bitc, z_b0, z_b1, ↓zB_Gb, ↓zB_G0, ↓zB_G1, z_eql, z_leq, z_ltl, z_llt, z_eq, z_lt, z_m1lt, hX.k45, hX.k46, hX.k47, hX.k48, hX.l46, hX.l47, hX.l48, hX.k49, hX.k50, hX.k51, hX.k52, hX.l50, hX.l51, hX.l52, ↓hX.g45_0, ↓hX.g45_1, ↓hX.g45_2, ↓hX.g49_0, ↓hX.g49_1, ↓hX.g49_2, h3, h3', y]
    rfl
end
