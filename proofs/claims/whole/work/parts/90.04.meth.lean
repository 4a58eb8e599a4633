/-! a method told -/
/-- its head -/
def z_mh (c n x y t : Int32) : Nat → Int32 := z_hdr c n (nI (z_pct x y)) (if 0 < z_pct x y then z_pnm x else -1) (if 1 < z_pct x y then z_pnm y else -1) (if 0 < z_pct x y then z_pty x else -1) (if 1 < z_pct x y then z_pty y else -1) t
def z_omethod (A : z_A) (c n x y t i : Int32) : (Int32 ⊕ Nat) × z_A :=
  if z_in c (z_nc A.2.1) = false then (.inr 2, A)
  else if z_tyb (z_nc A.2.1) (z_pty x) = false then (.inr 2, A)
  else if z_tyb (z_nc A.2.1) (z_pty y) = false then (.inr 2, A)
  else if z_tyb (z_nc A.2.1) t = false then (.inr 2, A)
  else if z_in i A.1.length = false then (.inr 2, A)
  else if z_in n 16 = false then (.inr 1, A)
  else if z_pno x y = true then (.inr 1, A)
  else if 60 < z_ts A.1 i.toNatClampNeg then (.inr 0, A)
  else if (z_om A.2.1 c.toNatClampNeg n (nI (z_pct x y))).isSome = true then (.inr 0, A)
  else if z_nm A.2.1 < 24 then (.inl (nI (z_nm A.2.1)), z_wn (z_dp A) (z_addM A.2.1 (z_mh c n x y t) (z_tree A.1 i.toNatClampNeg)))
  else (.inr 0, A)
theorem z_tyb_ty {P : z_Pg} (hw : z_wf P) {t : Int32} (h : z_tyb (z_nc P) t = true) : z_ty P t := by
  have h6 := hw.1.1
  unfold z_tyb at h
  rcases Bool.or_eq_true _ _ ▸ h with g | g
  · exact Or.inl (by simpa using g)
  · exact Or.inr ((z_in_iff (by omega)).mp g)
theorem z_pnm_n {x y : Int32} (h : z_pno x y = false) (hx : ¬ x = -1) : ∃ n, n < 16 ∧ z_pnm x = nI n := by
  obtain ⟨h1, h2⟩ := z_pno_x h hx
  obtain ⟨j, hj, rfl⟩ := nI_of h1
  rw [z_pnm_nI hj] at h2
  refine ⟨j % 100, ?_, z_pnm_nI hj⟩
  exact (nI_ltI (a := j % 100) (b := 16) (by omega) (by decide)).mp h2
