-- deps: 90.49.ap1
/-! an argument more: what comes of it -/
section
variable {S : z_S} {m : z_m} {p q : Nat} {P : z_Pg} {A : z_A}
noncomputable def z_apF (P : z_Pg) (k : Nat) (v : Int32) (j : Nat) : Bool := z_liv P j && ((z_fam P k j && z_fn (z_has P j) == -1) || decide (60 < (z_apD (z_bd P j) (z_cf P (z_fam P k) j) v).length))
noncomputable def z_apG (P : z_Pg) (k : Nat) (j : Nat) : Nat → Int32 := if z_fam P k j = true then z_hset (z_hset (z_hset (z_hd P j) 3 (nI (z_cnt P k + 1))) (4 + z_cnt P k) (z_fn (z_has P j))) (6 + z_cnt P k) (-1) else z_hd P j
noncomputable def z_apDD (P : z_Pg) (k : Nat) (v : Int32) (j : Nat) : List z_N := z_apD (z_bd P j) (z_cf P (z_fam P k) j) v
noncomputable def z_apK (P : z_Pg) (k n : Nat) : Nat := z_sl P (fun j => z_ct (z_cf P (z_fam P k) j) (z_bd P j).length) n
noncomputable def z_apR (P : z_Pg) (k : Nat) (v : Int32) : Int32 := if z_cnt P k = 2 then -6 else if z_free P (z_fam P k) (z_hd P k 2) (nI (z_cnt P k + 1)) = false then -1 else if z_any (z_apF P k v) (z_nm P) = true then -6 else nI (z_apK P k (z_nm P))
noncomputable def z_apQ (P : z_Pg) (k : Nat) (v : Int32) : z_Pg := z_mix P (z_apG P k) (z_apDD P k v) (z_nm P)
theorem z_famc (hw : z_wf P) {k j : Nat} (hk : k < z_nm P) (hl : z_liv P k = true) (h : z_fam P k j = true) : j < z_nm P ∧ z_liv P j = true ∧ z_hd P j 2 = z_hd P k 2 ∧ z_hd P j 3 = z_hd P k 3 := by
  obtain ⟨a, b⟩ := z_fam_isc hk hl h
  unfold z_isc at b
  simp only [Bool.and_eq_true, beq_iff_eq] at b
  exact ⟨a, b.1, b.2.1, b.2.2⟩
theorem z_apG_o {k j w : Nat} (h3 : w ≠ 3) (h4 : w ≠ 4 + z_cnt P k) (h6 : w ≠ 6 + z_cnt P k) : z_apG P k j w = z_hd P j w := by
  unfold z_apG
  split
  · rw [z_hset_o h6, z_hset_o h4, z_hset_o h3]
  · rfl
theorem z_apG_n {k j : Nat} (h : z_fam P k j = false) : z_apG P k j = z_hd P j := by unfold z_apG; rw [h, if_neg Bool.false_ne_true]
theorem z_apG_3 {k j : Nat} (hc : z_cnt P k < 2) (h : z_fam P k j = true) : z_apG P k j 3 = nI (z_cnt P k + 1) := by
  unfold z_apG; rw [if_pos h, z_hset_o (by omega), z_hset_o (by omega), z_hset_s]
theorem z_apG_4 {k j : Nat} (hc : z_cnt P k < 2) (h : z_fam P k j = true) : z_apG P k j (4 + z_cnt P k) = z_fn (z_has P j) := by
  unfold z_apG; rw [if_pos h, z_hset_o (by omega), z_hset_s]
theorem z_apG_6 {k j : Nat} (h : z_fam P k j = true) : z_apG P k j (6 + z_cnt P k) = -1 := by
  unfold z_apG; rw [if_pos h, z_hset_s]
theorem z_c3 (hw : z_wf P) {k : Nat} (hk : k < z_nm P) : z_hd P k 3 = nI (z_cnt P k) := (hw.2.2.2.1 k hk).2.2.2.1.2
theorem z_apQ_ok (hw : z_wf P) (h60 : z_b60 P) (hR : z_RT P) {k : Nat} {v : Int32} (hk : k < z_nm P) (hl : z_liv P k = true) (hc : z_cnt P k < 2) (hf : z_free P (z_fam P k) (z_hd P k 2) (nI (z_cnt P k + 1)) = true) (hF : z_any (z_apF P k v) (z_nm P) = false) : z_wf (z_apQ P k v) ∧ z_b60 (z_apQ P k v) := by
  have h6 := hw.1.1
  have hF' : ∀ j, j < z_nm P → z_liv P j = true → (z_fam P k j = true → ∃ n, n < 16 ∧ z_fn (z_has P j) = nI n) ∧ (z_apDD P k v j).length ≤ 60 := fun j hj hlj => by
    have h1 := z_any_f.mp hF j hj
    unfold z_apF at h1
    rw [hlj, Bool.true_and] at h1
    obtain ⟨h2, h3⟩ := Bool.or_eq_false_iff.mp h1
    refine ⟨fun hfj => ?_, by have := of_decide_eq_false h3; unfold z_apDD; omega⟩
    rw [hfj, Bool.true_and] at h2
    rcases z_fn_c (z_has P j) with ⟨q, _⟩ | ⟨n, a, b, _⟩
    · rw [q] at h2; exact absurd h2 (by decide)
    · exact ⟨n, a, b⟩
  have hnone : ∀ j i, j < z_nm P → i < z_nm P → z_liv P i = true → z_fam P k j = true → z_hd P i 2 = z_hd P j 2 → z_hd P i 3 = nI (z_cnt P k + 1) → z_own P i = z_own P j → False := by
    intro j i hj hi hli hfj e2 e3 eo
    unfold z_free at hf
    simp only [Bool.not_eq_true'] at hf
    have h1 := z_any_f.mp hf j hj
    rw [hfj, Bool.true_and] at h1
    have h2 := z_any_f.mp h1 i hi
    have : (z_isc P i (z_hd P k 2) (nI (z_cnt P k + 1)) && z_akin P (z_own P i) (z_own P j)) = true := by
      unfold z_isc z_akin
      rw [hli, e2, e3, eo, z_blw_refl, (z_famc hw hk hl hfj).2.2.1]; simp
    rw [this] at h2; cases h2
  refine ⟨z_mix_wf hw (fun j hj hlj => ⟨?_, ?_⟩) (fun j hj hlj => ?_) (fun i j hi hj hli hlj e2 e3 eo => ?_), z_mix_b60 h60 (fun j hj hlj => (hF' j hj hlj).2)⟩
  · rw [z_apG_o (by omega) (by omega) (by omega)]; simpa [z_liv] using hlj
  · by_cases hfj : z_fam P k j = true
    · obtain ⟨a, b, c, d, e, f⟩ := z_wHf_of (hw.2.2.2.1 j hj)
      have e3 : z_hd P j 3 = nI (z_cnt P k) := (z_famc hw hk hl hfj).2.2.2.trans (z_c3 hw hk)
      unfold z_wHf
      rw [z_apG_o (w := 0) (by omega) (by omega) (by omega), z_apG_o (w := 1) (by omega) (by omega) (by omega), z_apG_o (w := 2) (by omega) (by omega) (by omega), z_apG_o (w := 8) (by omega) (by omega) (by omega), z_apG_3 hc hfj, nI_clamp (by omega)]
      refine ⟨a, b, c, ⟨by omega, rfl⟩, fun i hi => ?_, f⟩
      have ei := e i hi
      rw [e3, nI_clamp (by omega)] at ei
      by_cases y : i = z_cnt P k
      · subst y
        rw [if_pos (by omega), z_apG_4 hc hfj, z_apG_6 hfj]
        exact ⟨(hF' j hj hlj).1 hfj, Or.inr (Or.inl rfl)⟩
      · rw [z_apG_o (w := 4 + i) (by omega) (by omega) (by omega), z_apG_o (w := 6 + i) (by omega) (by omega) (by omega)]
        by_cases y2 : i < z_cnt P k
        · rw [if_pos y2] at ei
          rw [if_pos (by omega)]; exact ei
        · rw [if_neg y2] at ei
          rw [if_neg (by omega)]; exact ei
    · rw [z_apG_n (by simpa using hfj)]
      exact z_wHf_of (hw.2.2.2.1 j hj)
  · refine z_apD_wB (hw.2.2.2.2.1 j hj) (fun i hi hcf => ?_)
    obtain ⟨h7, ha⟩ := z_cf_a hw hR hk hl hj hlj hi hcf
    refine ⟨h7, ?_⟩
    rw [ha, z_c3 hw hk]
    have : z_cnt P k = 0 ∨ z_cnt P k = 1 := by omega
    rcases this with q | q <;> rw [q]
    · exact Or.inl rfl
    · exact Or.inr rfl
  · rw [z_apG_o (w := 2) (by omega) (by omega) (by omega), z_apG_o (w := 2) (by omega) (by omega) (by omega)] at e2
    rw [z_apG_o (w := 1) (by omega) (by omega) (by omega), z_apG_o (w := 1) (by omega) (by omega) (by omega)] at eo
    by_cases gi : z_fam P k i = true
    · by_cases gj : z_fam P k j = true
      · exact hw.2.2.2.2.2 i j hi hj hli hlj e2 ((z_famc hw hk hl gi).2.2.2.trans (z_famc hw hk hl gj).2.2.2.symm) eo
      · rw [z_apG_3 hc gi, z_apG_n (j := j) (by simpa using gj)] at e3
        exact (hnone i j hi hj hlj gi e2.symm e3.symm eo.symm).elim
    · by_cases gj : z_fam P k j = true
      · rw [z_apG_3 hc gj, z_apG_n (j := i) (by simpa using gi)] at e3
        exact (hnone j i hj hi hli gj e2 e3 eo).elim
      · rw [z_apG_n (j := i) (by simpa using gi), z_apG_n (j := j) (by simpa using gj)] at e3
        exact hw.2.2.2.2.2 i j hi hj hli hlj e2 e3 eo
end
