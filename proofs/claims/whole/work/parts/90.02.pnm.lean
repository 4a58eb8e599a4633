/-! names of parameters are names -/
theorem z_m1_of {x : Int32} (h1 : ¬ x < -1) (h2 : x < 0) : x = -1 := by
  have a1 : ¬ x.toInt < -1 := by
    intro g; exact h1 (Int32.lt_iff_toInt_lt.mpr (by simpa using g))
  have a2 : x.toInt < 0 := by
    have := Int32.lt_iff_toInt_lt.mp h2
    simpa using this
  apply Int32.toInt_inj.mp
  show x.toInt = -1
  omega
theorem z_pno_x {x y : Int32} (h : z_pno x y = false) (hx : ¬ x = -1) : ¬ x < 0 ∧ z_pnm x < 16 := by
  unfold z_pno z_pbad at h
  simp only [Bool.or_eq_false_iff, decide_eq_false_iff_not] at h
  obtain ⟨⟨h1, h2⟩, _⟩ := h
  have h3 : ¬ x < 0 := fun g => hx (z_m1_of h1 g)
  refine ⟨h3, ?_⟩
  simp only [h3, decide_false, Bool.not_false, Bool.true_and, Bool.not_eq_false', decide_eq_true_eq] at h2
  exact h2
