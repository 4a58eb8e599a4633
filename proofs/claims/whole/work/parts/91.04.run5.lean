-- deps: 91.00.run 91.01.run2 91.02.run3 91.03.run4
/-! a run: a turn keeps what is so, all of it -/
section
variable {P : z_Pg} {h : y_Qh} {k0 : Nat} {n : Nat} {out : y_V} {a : y_Ac} {s : List y_Ac}
/-- what a variable's value is -/
theorem y_rd_ok (hP : y_PG P) (hW : y_AW P h a) (hI : y_HI P h a.1) (hv : y_k P h a = 1 ∨ y_k P h a = 6) : (y_bd P h a < 1000 → ∃ s v, y_sl (y_bd P h a) = s ∧ y_ql h a.1 s = some v ∧ y_slt P (y_qm h a.1) s = y_ty P h a ∧ (s = 1 ∧ y_bd P h a = -1 ∨ s = 0 ∧ y_bd P h a = -2 ∨ ∃ j, s = j + 2 ∧ y_bd P h a = nI j ∧ j < (y_l P h a).length)) ∧ (¬ y_bd P h a < 1000 → ∃ f c, f < 16 ∧ y_v P h a = nI f ∧ z_fc P (z_own P (y_qm h a.1)) f = some c ∧ y_ty P h a = z_fld P c f - 2 ∧ z_fc P (y_qc h (y_qo h a.1)) f = some c ∧ y_bd P h a = nI (1000 + c)) := by
  have hw := hP.1.1
  have hm := hI.1 a.1 (Nat.le_refl _)
  have hB := hw.2.2.2.2.1 _ hm.1
  have hr := hP.rt _ hm.1 hm.2.1
  have hl60 := hP.1.2 _ hm.1
  have hi : a.2.1 < (z_bd P (y_qm h a.1)).length := hW.1
  obtain ⟨e0, e1, e2, _⟩ := z_var hw hm.1 hr hi hv
  refine ⟨fun hb => ?_, fun hb => ?_⟩
  · have hou : z_isO (z_bd P (y_qm h a.1)) (z_Bd P (y_qm h a.1)) a.2.1 1000 = true := by
      unfold z_isO z_isL z_isV
      have hb : z_Bd P (y_qm h a.1) a.2.1 < 1000 := hb
      rw [decide_eq_true hb]
      have hv : z_k (z_bd P (y_qm h a.1)) a.2.1 = 1 ∨ z_k (z_bd P (y_qm h a.1)) a.2.1 = 6 := hv
      rcases hv with g | g <;> rw [g] <;> rfl
    obtain ⟨_, _, _, o3, _⟩ := z_oub hw hm.1 (by omega) hr hi hou
    have ety : y_ty P h a = z_tol P (y_qm h a.1) (y_bd P h a) := o3
    rw [ety]
    rcases e1 with ⟨j, hj, ej⟩ | ⟨_, hc, _, ej⟩ | ⟨_, hc, _, ej⟩ | ⟨f, c, _, _, _, _, hc, ej⟩
    · have ej : y_bd P h a = nI j := ej
      obtain ⟨q1, q2, _, q4, q5⟩ := z_le_some hj
      have hV := hW.2.1 (j + 2) (Or.inr (Or.inr ⟨j, rfl, q2, q1, q4, q5⟩))
      obtain ⟨v, hv⟩ := Option.isSome_iff_exists.mp hV
      have hsl : y_sl (nI j) = j + 2 := by
        unfold y_sl
        rw [z_addl, nI_clamp (by show j + 2 < 2 ^ 31; omega)]
      rw [ej]
      refine ⟨j + 2, v, hsl, hv, ?_, Or.inr (Or.inr ⟨j, rfl, rfl, Nat.lt_trans q1 hi⟩)⟩
      unfold y_slt z_tol
      rw [if_neg (by omega), if_neg (by omega), if_neg (z_nI_m1 (by omega)), if_neg (z_eqm (k := 2) (by omega) (by decide) (by decide)), nI_clamp (by omega)]; rfl
    · have ej : y_bd P h a = -1 := ej
      have hV := hW.2.1 1 (Or.inl ⟨rfl, hc⟩)
      obtain ⟨v, hv⟩ := Option.isSome_iff_exists.mp hV
      rw [ej]
      exact ⟨1, v, by decide, hv, rfl, Or.inl ⟨rfl, rfl⟩⟩
    · have ej : y_bd P h a = -2 := ej
      have hV := hW.2.1 0 (Or.inr (Or.inl ⟨rfl, hc⟩))
      obtain ⟨v, hv⟩ := Option.isSome_iff_exists.mp hV
      rw [ej]
      exact ⟨0, v, by decide, hv, rfl, Or.inr (Or.inl ⟨rfl, rfl⟩)⟩
    · have ej : y_bd P h a = nI (1000 + c) := ej
      rw [ej] at hb
      exact absurd hb ((by decide : ∀ c, c < 6 → ¬ nI (1000 + c) < 1000) c (by have := hw.1.1; omega))
  · have hno : z_isO (z_bd P (y_qm h a.1)) (z_Bd P (y_qm h a.1)) a.2.1 (nI 0) = false := by
      unfold z_isO z_isL
      have hb : ¬ z_Bd P (y_qm h a.1) a.2.1 < 1000 := hb
      rw [decide_eq_false hb, Bool.and_false, Bool.false_and]
    rcases z_nou hw hm.1 (by omega) hr hi (Nat.lt_of_le_of_lt (Nat.zero_le _) hi) hv hno with ⟨j, _, q1, _, q2⟩ | ⟨_, f, c, q1, q2, q3, q4, q5, q6⟩
    · have q2 : y_bd P h a = nI j := q2
      rw [q2] at hb
      exact absurd ((nI_ltI (a := j) (b := 1000) (by omega) (by decide)).mpr (by omega)) hb
    · exact ⟨f, c, q1, q2, q3, q6, z_fc_dn hw hP.2.2 (hI.2.2 _ hm.2.2.1).1 q1 hm.2.2.2 q3, q5⟩
end
