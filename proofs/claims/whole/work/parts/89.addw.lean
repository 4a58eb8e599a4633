/-! a method more: as it should be -/
section
variable {P : z_Pg} {H : Nat → Int32} {l : List z_N} {S : z_S} {m : z_m} {p : Nat}
theorem z_cpX_b (h : z_cpX m p (z_addM P H l) (z_nm P)) (hb : z_cb m (z_bi p (z_nm P)) 60 l) : z_cp m p (z_addM P H l) := by
  refine ⟨h.1, h.2.1, h.2.2.1, fun k hk hl => ?_⟩
  by_cases g : k = z_nm P
  · rw [g, z_addM_bd_s]; exact hb
  · exact h.2.2.2 k hk hl g
theorem z_addM_wH {k : Nat} (g : k ≠ z_nm P) (h : z_wH P k) : z_wH (z_addM P H l) k := by
  unfold z_wH z_own z_cnt at *
  simp only [z_addM_hd_o g]
  exact h
theorem z_addM_wf (hw : z_wf P) (h24 : z_nm P < 24) (hH : z_wH (z_addM P H l) (z_nm P)) (hl : z_wB (z_nc P) l) (hu : ∀ k, k < z_nm P → z_liv P k = true → z_hd P k 2 = H 2 → z_hd P k 3 = H 3 → z_own P k = (H 1).toNatClampNeg → False) : z_wf (z_addM P H l) := by
  refine ⟨hw.1, hw.2.1, h24, fun k hk => ?_, fun k hk => ?_, fun j k hj hk lj lk e2 e3 eo => ?_⟩
  · have hk : k < z_nm P + 1 := hk
    by_cases g : k = z_nm P
    · rw [g]; exact hH
    · exact z_addM_wH g (hw.2.2.2.1 k (by omega))
  · have hk : k < z_nm P + 1 := hk
    by_cases g : k = z_nm P
    · rw [g, z_addM_bd_s]; exact hl
    · rw [z_addM_bd_o g]; exact hw.2.2.2.2.1 k (by omega)
  · have hj : j < z_nm P + 1 := hj
    have hk : k < z_nm P + 1 := hk
    by_cases gj : j = z_nm P
    · by_cases gk : k = z_nm P
      · rw [gj, gk]
      · exfalso
        subst gj
        rw [z_addM_liv_o gk] at lk
        unfold z_own at eo
        rw [z_addM_hd_s, z_addM_hd_o gk] at e2 e3 eo
        exact hu k (by omega) lk e2.symm e3.symm eo.symm
    · by_cases gk : k = z_nm P
      · exfalso
        subst gk
        rw [z_addM_liv_o gj] at lj
        unfold z_own at eo
        rw [z_addM_hd_s, z_addM_hd_o gj] at e2 e3 eo
        exact hu j (by omega) lj e2 e3 eo
      · rw [z_addM_liv_o gj] at lj
        rw [z_addM_liv_o gk] at lk
        unfold z_own at eo
        rw [z_addM_hd_o gj, z_addM_hd_o gk] at e2 e3 eo
        exact hw.2.2.2.2.2 j k (by omega) (by omega) lj lk e2 e3 eo
theorem z_addM_b60 (hb : z_b60 P) (hl : l.length ≤ 60) : z_b60 (z_addM P H l) := by
  intro k hk
  have hk : k < z_nm P + 1 := hk
  by_cases g : k = z_nm P
  · rw [g, z_addM_bd_s]; exact hl
  · rw [z_addM_bd_o g]; exact hb k (by omega)
end
