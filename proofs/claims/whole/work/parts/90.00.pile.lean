/-! the pile of told nodes says nothing -/
section
variable {S : z_S} {m : z_m} {A : z_A}
theorem z_CM_7 (hw : z_WA A) {sn : Nat} {sp : Nat → Nat} {m' : z_m} (hm : ∀ a, a ≠ 7 → m' a = m a) (h : z_CM m sn sp A) : z_CM m' sn sp A := by
  obtain ⟨hR, hT, hP, h5, h6⟩ := h
  refine ⟨z_RM_fr (fun a ha => hm a (by omega)) hR, z_cT_fr (fun a ha => hm a (by omega)) hT, z_CP_fr hw (hm 0 (by decide)) (fun a ha => hm a (by omega)) hP, ?_, ?_⟩
  · rw [hm 10 (by decide)]; exact h5
  · rw [hm 10 (by decide)]; exact h6
end
