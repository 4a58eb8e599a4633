-- deps: 90.42.enc2
/-! a field hidden: what comes of it -/
section
variable {S : z_S} {m : z_m} {p q : Nat} {P : z_Pg} {A : z_A}
def z_enG (P : z_Pg) (c f : Nat) (g : Int32) : Nat → Int32 := z_hdr (nI c) g 0 (-1) (-1) (-1) (-1) (z_fld P c f - 2)
def z_enO (f : Nat) : Int32 := if f = 0 then 1 else 0
def z_enS (P : z_Pg) (c f : Nat) (s : Int32) : Nat → Int32 := z_hdr (nI c) s 1 (z_enO f) (-1) (z_fld P c f - 2) (-1) (z_fld P c f - 2)
def z_en1 (P : z_Pg) (c f : Nat) (g : Int32) : z_Pg := z_addM P (z_enG P c f g) [(1, nI f, 0)]
def z_en2 (P : z_Pg) (c f : Nat) (g s : Int32) : z_Pg := z_addM (z_en1 P c f g) (z_enS P c f s) [(6, nI f, 0), (1, z_enO f, 0)]
noncomputable def z_enQ (P : z_Pg) (c f : Nat) (g s : Int32) : z_Pg := z_mix (z_en2 P c f g s) (z_hd (z_en2 P c f g s)) (z_enD P c f g s) (z_nm P)
noncomputable def z_enR (P : z_Pg) (c f : Nat) (g s : Int32) : Int32 := if z_ham P c g 0 = true then -1 else if z_ham P c s 1 = true then -1 else if 22 < z_nm P then -6 else nI (z_enK P c f (z_nm P))
theorem z_en2_hd {c f : Nat} {g s : Int32} {k : Nat} (hk : k < z_nm P) (w : Nat) : z_hd (z_en2 P c f g s) k w = z_hd P k w := by
  unfold z_en2
  rw [z_addM_hd_o (show k ≠ z_nm P + 1 by omega)]
  exact z_addM_hd_o (by omega) w
theorem z_en2_bd {c f : Nat} {g s : Int32} {k : Nat} (hk : k < z_nm P) : z_bd (z_en2 P c f g s) k = z_bd P k := by
  unfold z_en2
  rw [z_addM_bd_o (show k ≠ z_nm P + 1 by omega)]
  exact z_addM_bd_o (by omega)
theorem z_en2_liv {c f : Nat} {g s : Int32} {k : Nat} (hk : k < z_nm P) : z_liv (z_en2 P c f g s) k = z_liv P k := by
  unfold z_liv; rw [z_en2_hd hk]
theorem z_ham_no {c : Nat} {n cnt : Int32} (h : ¬ z_ham P c n cnt = true) {k : Nat} (hk : k < z_nm P) (hl : z_liv P k = true) (e2 : z_hd P k 2 = n) (e3 : z_hd P k 3 = cnt) (eo : z_own P k = c) : False := by
  apply h
  refine z_any_iff.mpr ⟨k, hk, ?_⟩
  unfold z_isc z_akin
  rw [hl, e2, e3, eo, z_blw_refl]; simp
theorem z_en1_wf (hw : z_wf P) {c f g : Nat} (hc : c < z_nc P) (hf : f < 16) (hg : g < 16) (hex : z_fld P c f ≠ 0) (h24 : z_nm P < 24) (hno : ¬ z_ham P c (nI g) 0 = true) : z_wf (z_en1 P c f (nI g)) := by
  have h6 := hw.1.1
  have ho : z_own (z_en1 P c f (nI g)) (z_nm P) = c := by unfold z_own z_en1; rw [z_addM_hd_s]; exact nI_clamp (by omega)
  have hct : z_cnt (z_en1 P c f (nI g)) (z_nm P) = 0 := by unfold z_cnt z_en1; rw [z_addM_hd_s]; rfl
  have hh : ∀ w, z_hd (z_en1 P c f (nI g)) (z_nm P) w = z_enG P c f (nI g) w := fun w => z_addM_hd_s w
  refine z_addM_wf hw h24 ?_ ⟨rfl, fun x hx => ?_⟩ (fun k hk hl e2 e3 eo => z_ham_no hno hk hl e2 e3 (eo.trans (nI_clamp (by omega))))
  · have : z_wH (z_en1 P c f (nI g)) (z_nm P) := by
      unfold z_wH
      rw [ho, hct]
      simp only [hh]
      refine ⟨Or.inr rfl, ⟨hc, rfl⟩, ⟨g, hg, rfl⟩, ⟨by decide, rfl⟩, fun j hj => ?_, (z_fld_ty hw hc hf hex).1⟩
      rw [if_neg (by omega)]
      have : j = 0 ∨ j = 1 := by omega
      rcases this with rfl | rfl <;> rfl
    exact this
  · rw [List.mem_singleton.mp hx]
    exact ⟨⟨1, by decide, rfl⟩, rfl, fun _ => ⟨f, hf, rfl⟩, fun h => absurd (show (1 : Int32) = 8 from h) (by decide)⟩
theorem z_enO_n (f : Nat) : ∃ n, n < 16 ∧ z_enO f = nI n := by
  unfold z_enO
  split
  · exact ⟨1, by decide, rfl⟩
  · exact ⟨0, by decide, rfl⟩
theorem z_en2_wf (hw : z_wf P) {c f g s : Nat} (hc : c < z_nc P) (hf : f < 16) (hg : g < 16) (hs : s < 16) (hex : z_fld P c f ≠ 0) (h24 : z_nm P < 23) (hno : ¬ z_ham P c (nI g) 0 = true) (hno2 : ¬ z_ham P c (nI s) 1 = true) : z_wf (z_en2 P c f (nI g) (nI s)) := by
  have h6 := hw.1.1
  have hw1 := z_en1_wf hw hc hf hg hex (by omega) hno
  have hh : ∀ w, z_hd (z_en2 P c f (nI g) (nI s)) (z_nm P + 1) w = z_enS P c f (nI s) w := fun w => z_addM_hd_s (P := z_en1 P c f (nI g)) w
  have ho : z_own (z_en2 P c f (nI g) (nI s)) (z_nm P + 1) = c := by unfold z_own; rw [hh]; exact nI_clamp (by omega)
  have hct : z_cnt (z_en2 P c f (nI g) (nI s)) (z_nm P + 1) = 1 := by unfold z_cnt; rw [hh]; rfl
  refine z_addM_wf hw1 (show z_nm P + 1 < 24 by omega) ?_ ⟨rfl, fun x hx => ?_⟩ (fun k hk hl e2 e3 eo => ?_)
  · have : z_wH (z_en2 P c f (nI g) (nI s)) (z_nm P + 1) := by
      unfold z_wH
      rw [ho, hct]
      simp only [hh]
      refine ⟨Or.inr rfl, ⟨hc, rfl⟩, ⟨s, hs, rfl⟩, ⟨by decide, rfl⟩, fun j hj => ?_, (z_fld_ty hw hc hf hex).1⟩
      have : j = 0 ∨ j = 1 := by omega
      rcases this with rfl | rfl
      · rw [if_pos (by decide)]
        exact ⟨z_enO_n f, Or.inr (z_fld_ty hw hc hf hex).1⟩
      · rw [if_neg (by decide)]; rfl
    exact this
  · rcases List.mem_cons.mp hx with rfl | hx
    · exact ⟨⟨6, by decide, rfl⟩, rfl, fun _ => ⟨f, hf, rfl⟩, fun h => absurd (show (6 : Int32) = 8 from h) (by decide)⟩
    · rw [List.mem_singleton.mp hx]
      exact ⟨⟨1, by decide, rfl⟩, rfl, fun _ => z_enO_n f, fun h => absurd (show (1 : Int32) = 8 from h) (by decide)⟩
  · have hk : k < z_nm P + 1 := hk
    by_cases gk : k = z_nm P
    · subst gk
      have : z_hd (z_en1 P c f (nI g)) (z_nm P) 3 = 0 := z_addM_hd_s 3
      rw [this] at e3
      exact absurd (show (0 : Int32) = 1 from e3) (by decide)
    · have e : ∀ w, z_hd (z_en1 P c f (nI g)) k w = z_hd P k w := fun w => z_addM_hd_o gk w
      unfold z_liv at hl
      unfold z_own at eo
      rw [e] at hl e2 e3 eo
      exact z_ham_no hno2 (k := k) (by omega) hl e2 e3 (eo.trans (nI_clamp (by omega)))
theorem z_enQ_ok (hw : z_wf P) (h60 : z_b60 P) {c f g s : Nat} (hc : c < z_nc P) (hf : f < 16) (hg : g < 16) (hs : s < 16) (hex : z_fld P c f ≠ 0) (h24 : z_nm P < 23) (hno : ¬ z_ham P c (nI g) 0 = true) (hno2 : ¬ z_ham P c (nI s) 1 = true) : z_wf (z_enQ P c f (nI g) (nI s)) ∧ z_b60 (z_enQ P c f (nI g) (nI s)) := by
  have hw2 := z_en2_wf hw hc hf hg hs hex h24 hno hno2
  have hb2 : z_b60 (z_en2 P c f (nI g) (nI s)) := z_addM_b60 (z_addM_b60 h60 (show 1 ≤ 60 by decide)) (show 2 ≤ 60 by decide)
  have hbd : ∀ j, z_bd (z_enQ P c f (nI g) (nI s)) j = if j < z_nm P ∧ z_liv (z_en2 P c f (nI g) (nI s)) j = true then z_enD P c f (nI g) (nI s) j else z_bd (z_en2 P c f (nI g) (nI s)) j := fun j => z_mix_bd
  have hhd : ∀ j w, z_hd (z_enQ P c f (nI g) (nI s)) j w = z_hd (z_en2 P c f (nI g) (nI s)) j w := fun j w => by
    show z_hd (z_mix _ _ _ _) j w = _
    rw [z_mix_hd]; split <;> rfl
  have eH : (z_enQ P c f (nI g) (nI s)).2.2.2.2.1 = (z_en2 P c f (nI g) (nI s)).2.2.2.2.1 := funext (fun j => funext (fun w => hhd j w))
  refine ⟨⟨hw2.1, hw2.2.1, hw2.2.2.1, fun k hk => ?_, fun k hk => ?_, fun i j hi hj li lj e2 e3 eo => ?_⟩, fun k hk => ?_⟩
  · have := hw2.2.2.2.1 k hk
    unfold z_wH z_own z_cnt at *
    simp only [hhd]
    exact this
  · rw [hbd]
    split
    · next h =>
      refine z_lm_wB (nc := z_nc P) (hw.2.2.2.2.1 k h.1) (fun i hi => ⟨z_enN_p, ?_⟩)
      have hN := z_wN_at (hw.2.2.2.2.1 k h.1) hi
      unfold z_enN
      by_cases ge : z_enc P c f k i = true
      · rw [if_pos ge]
        split
        · exact z_wN_7 (Or.inl rfl) ⟨g, hg, rfl⟩
        · exact z_wN_7 (Or.inr (Or.inl rfl)) ⟨s, hs, rfl⟩
      · rw [if_neg ge]; exact hN
    · exact hw2.2.2.2.2.1 k hk
  · unfold z_liv at li lj
    unfold z_own at eo
    rw [hhd] at li lj
    simp only [hhd] at e2 e3 eo
    exact hw2.2.2.2.2.2 i j hi hj li lj e2 e3 eo
  · rw [hbd]
    split
    · next h => unfold z_enD; rw [z_lm_len]; exact h60 k h.1
    · exact hb2 k hk
end
