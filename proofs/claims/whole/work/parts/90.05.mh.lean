/-! the head told is as it should be -/
section
variable {P : z_Pg} {l : List z_N}
theorem z_pno_y {x y : Int32} (h : z_pno x y = false) : z_pno y (-1) = false := by
  unfold z_pno at *
  simp only [Bool.or_eq_false_iff] at h ⊢
  refine ⟨h.2.1, ?_, ?_⟩
  · decide
  · simp
theorem z_mh_wH (hw : z_wf P) {c n : Nat} {x y t : Int32} (hc : c < z_nc P) (hn : n < 16) (hno : z_pno x y = false) (hx : z_tyb (z_nc P) (z_pty x) = true) (hy : z_tyb (z_nc P) (z_pty y) = true) (ht : z_tyb (z_nc P) t = true) : z_wH (z_addM P (z_mh (nI c) (nI n) x y t) l) (z_nm P) := by
  have h6 := hw.1.1
  have eo : z_own (z_addM P (z_mh (nI c) (nI n) x y t) l) (z_nm P) = c := by unfold z_own; rw [z_addM_hd_s]; exact nI_clamp (by omega)
  have hp2 : z_pct x y ≤ 2 := by
    unfold z_pct
    split
    · split <;> decide
    · decide
  have ec : z_cnt (z_addM P (z_mh (nI c) (nI n) x y t) l) (z_nm P) = z_pct x y := by unfold z_cnt; rw [z_addM_hd_s]; exact nI_clamp (by omega)
  unfold z_wH
  rw [eo, ec]
  simp only [z_addM_hd_s]
  refine ⟨Or.inr rfl, ⟨hc, rfl⟩, ⟨n, hn, rfl⟩, ⟨hp2, rfl⟩, fun j hj => ?_, z_tyb_ty hw ht⟩
  have hj2 : j = 0 ∨ j = 1 := by omega
  rcases hj2 with g | g
  · subst g
    by_cases g0 : 0 < z_pct x y
    · rw [if_pos g0]
      have hx1 : ¬ x = -1 := by
        intro gx
        by_cases gy : y = -1
        · unfold z_pct at g0; rw [if_pos gy, if_pos gx] at g0; exact absurd g0 (by decide)
        · unfold z_pno at hno
          simp [gx, gy] at hno
      obtain ⟨q, hq, e⟩ := z_pnm_n hno hx1
      refine ⟨⟨q, hq, ?_⟩, Or.inr ?_⟩
      · show (if 0 < z_pct x y then z_pnm x else -1) = _
        rw [if_pos g0]; exact e
      · show z_ty P (if 0 < z_pct x y then z_pty x else -1)
        rw [if_pos g0]; exact z_tyb_ty hw hx
    · rw [if_neg g0]
      show (if 0 < z_pct x y then z_pnm x else -1) = _
      rw [if_neg g0]
  · subst g
    by_cases g0 : 1 < z_pct x y
    · rw [if_pos g0]
      have hy1 : ¬ y = -1 := by
        intro gy
        unfold z_pct at g0; rw [if_pos gy] at g0
        split at g0 <;> exact absurd g0 (by decide)
      obtain ⟨q, hq, e⟩ := z_pnm_n (z_pno_y hno) hy1
      refine ⟨⟨q, hq, ?_⟩, Or.inr ?_⟩
      · show (if 1 < z_pct x y then z_pnm y else -1) = _
        rw [if_pos g0]; exact e
      · show z_ty P (if 1 < z_pct x y then z_pty y else -1)
        rw [if_pos g0]; exact z_tyb_ty hw hy
    · rw [if_neg g0]
      show (if 1 < z_pct x y then z_pnm y else -1) = _
      rw [if_neg g0]
end
