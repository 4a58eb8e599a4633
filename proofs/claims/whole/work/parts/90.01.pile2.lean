/-! what the reference's state says is in few rows -/
section
variable {S : z_S} {m : z_m} {A : z_A}
theorem z_MR_fr {m' : z_m} (hm : ∀ a, 2390 ≤ a → a ≤ 2396 → m' a = m a) (h : z_MR m A) : z_MR m' A := by
  obtain ⟨a1, a2, a3, a4, a5, a6, a7, a8, a9⟩ := h
  have r0 := hm 2390 (by decide) (by decide)
  have r1 := hm 2391 (by decide) (by decide)
  refine ⟨z_mT_fr (by rw [r0]) (fun a x1 x2 => hm a (by omega) x2) a1, z_mb_fr r1 a2, ?_, by rw [r0]; exact a4, fun i hi => z_mb_fr r1 (a5 i hi), by rw [r0]; exact a6, by rw [r0]; exact a7, z_mz_fr r1 a8, fun i hi => z_mz_fr r1 (a9 i hi)⟩
  rw [r0]
  cases hb : A.2.2.1 with
  | none => rw [hb] at a3; exact a3
  | some Bg => rw [hb] at a3; exact ⟨a3.1, z_mb_fr r1 a3.2⟩
end
