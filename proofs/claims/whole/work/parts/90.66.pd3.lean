-- deps: 90.65.pd2
/-! a method pushed down: what comes of it -/
section
variable {S : z_S} {m : z_m} {p q : Nat} {P Q : z_Pg} {A : z_A}
/-- after some classes: whether one got it, and the program -/
def z_pdF (P : z_Pg) (k : Nat) : Nat → Bool × z_Pg
  | 0 => (false, P)
  | n + 1 => if z_get P k n = true then (true, if (z_pdF P k n).1 = true then z_addM (z_pdF P k n).2 (z_pdH (z_hd P k) n) (z_bd P k) else z_sM P k (z_hset (z_hd P k) 1 (nI n)) (z_bd P k)) else z_pdF P k n
def z_pdQ (P : z_Pg) (k : Nat) : z_Pg := if (z_pdF P k (z_nc P)).1 = true then (z_pdF P k (z_nc P)).2 else z_sM P k (z_hset (z_hd P k) 0 0) (z_bd P k)
noncomputable def z_pdR (P : z_Pg) (k : Nat) : Int32 :=
  if z_chd P k = false then -10
  else if (z_mad P (z_own P k) || z_cic P k) = true then -9
  else if ¬ z_par P (z_own P k) = -1 ∧ (z_fm P (z_par P (z_own P k)).toNatClampNeg (z_hd P k 2) (z_hd P k 3)).isSome = true then -11
  else if 24 < z_nm P + z_ct (z_get P k) (z_nc P) - 1 then -6
  else if z_wr (z_pdQ P k) = -1 then nI (z_ct (z_get P k) (z_nc P)) else -8
theorem z_wHf_nc {H : Nat → Int32} (h : z_nc Q = z_nc P) (hH : z_wHf P H) : z_wHf Q H := by
  unfold z_wHf z_ty' z_ty at *
  rw [h]; exact hH
theorem z_pdH_wf (hw : z_wf P) {k n : Nat} (hk : k < z_nm P) (hn : n < z_nc P) : z_wHf P (z_pdH (z_hd P k) n) := by
  have h6 := hw.1.1
  obtain ⟨a, b, c, d, e, f⟩ := z_wHf_of (hw.2.2.2.1 k hk)
  have o : ∀ w, w ≠ 1 → w < 9 → z_pdH (z_hd P k) n w = z_hd P k w := fun w h1 h9 => by
    unfold z_pdH; rw [if_neg h1, if_pos h9]
  unfold z_wHf
  rw [o 0 (by decide) (by decide), o 2 (by decide) (by decide), o 3 (by decide) (by decide), o 8 (by decide) (by decide), show z_pdH (z_hd P k) n 1 = nI n from if_pos rfl, nI_clamp (by omega)]
  refine ⟨a, ⟨hn, rfl⟩, c, d, fun j hj => ?_, f⟩
  rw [o (4 + j) (by omega) (by omega), o (6 + j) (by omega) (by omega)]
  exact e j hj
theorem z_get_no {k d : Nat} (hk : k < z_nm P) (h : z_get P k d = true) {j : Nat} (hj : j < z_nm P) (hl : z_liv P j = true) (e2 : z_hd P j 2 = z_hd P k 2) (e3 : z_hd P j 3 = z_hd P k 3) (eo : z_own P j = d) : False := by
  unfold z_get at h
  obtain ⟨_, h2⟩ := Bool.and_eq_true_iff.mp h
  have hn : z_om P d (z_hd P k 2) (z_hd P k 3) = none := by
    cases q : z_om P d (z_hd P k 2) (z_hd P k 3) with
    | none => rfl
    | some i => rw [q] at h2; cases h2
  unfold z_om at hn
  have := z_lst_none.mp hn j hj
  unfold z_isc at this
  rw [hl, e2, e3, eo] at this
  simp at this
/-- what is known of the program after some classes -/
def z_pdS (P : z_Pg) (k n r : Nat) (F : Bool × z_Pg) : Prop := (F.1 = decide (0 < r)) ∧ (z_nm F.2 = z_nm P + (r - 1)) ∧ (F.2.1 = P.1) ∧ (F.2.2.1 = P.2.1) ∧ (F.2.2.2.1 = P.2.2.1) ∧ (z_bd F.2 k = z_bd P k) ∧ (∀ w, w ≠ 1 → z_hd F.2 k w = z_hd P k w) ∧ (∀ d, n ≤ d → d < z_nc P → z_get P k d = true → ∀ j, j < z_nm F.2 → z_liv F.2 j = true → z_hd F.2 j 2 = z_hd P k 2 → z_hd F.2 j 3 = z_hd P k 3 → z_own F.2 j = d → False) ∧ (F.1 = false → F.2 = P) ∧ (z_nm F.2 ≤ 24 → z_wf F.2 ∧ z_b60 F.2)
theorem z_pdS.b1 {k n r : Nat} {F : Bool × z_Pg} (h : z_pdS P k n r F) : F.1 = decide (0 < r) := h.1
theorem z_pdS.nm {k n r : Nat} {F : Bool × z_Pg} (h : z_pdS P k n r F) : z_nm F.2 = z_nm P + (r - 1) := h.2.1
theorem z_pdS.c1 {k n r : Nat} {F : Bool × z_Pg} (h : z_pdS P k n r F) : F.2.1 = P.1 := h.2.2.1
theorem z_pdS.c2 {k n r : Nat} {F : Bool × z_Pg} (h : z_pdS P k n r F) : F.2.2.1 = P.2.1 := h.2.2.2.1
theorem z_pdS.c3 {k n r : Nat} {F : Bool × z_Pg} (h : z_pdS P k n r F) : F.2.2.2.1 = P.2.2.1 := h.2.2.2.2.1
theorem z_pdS.bd {k n r : Nat} {F : Bool × z_Pg} (h : z_pdS P k n r F) : z_bd F.2 k = z_bd P k := h.2.2.2.2.2.1
theorem z_pdS.hd {k n r : Nat} {F : Bool × z_Pg} (h : z_pdS P k n r F) : ∀ w, w ≠ 1 → z_hd F.2 k w = z_hd P k w := h.2.2.2.2.2.2.1
theorem z_pdS.un {k n r : Nat} {F : Bool × z_Pg} (h : z_pdS P k n r F) : ∀ d, n ≤ d → d < z_nc P → z_get P k d = true → ∀ j, j < z_nm F.2 → z_liv F.2 j = true → z_hd F.2 j 2 = z_hd P k 2 → z_hd F.2 j 3 = z_hd P k 3 → z_own F.2 j = d → False := h.2.2.2.2.2.2.2.1
theorem z_pdS.p0 {k n r : Nat} {F : Bool × z_Pg} (h : z_pdS P k n r F) : F.1 = false → F.2 = P := h.2.2.2.2.2.2.2.2.1
theorem z_pdS.wf {k n r : Nat} {F : Bool × z_Pg} (h : z_pdS P k n r F) : z_nm F.2 ≤ 24 → z_wf F.2 ∧ z_b60 F.2 := h.2.2.2.2.2.2.2.2.2
theorem z_pdF_y {k n : Nat} (hg : z_get P k n = true) : z_pdF P k (n + 1) = (true, if (z_pdF P k n).1 = true then z_addM (z_pdF P k n).2 (z_pdH (z_hd P k) n) (z_bd P k) else z_sM P k (z_hset (z_hd P k) 1 (nI n)) (z_bd P k)) := if_pos hg
theorem z_pdF_n {k n : Nat} (hg : z_get P k n = false) : z_pdF P k (n + 1) = z_pdF P k n := if_neg (by rw [hg]; exact Bool.false_ne_true)
theorem z_pdF_ok (hw : z_wf P) (h60 : z_b60 P) {k : Nat} (hk : k < z_nm P) (hl : z_liv P k = true) : ∀ n, n ≤ z_nc P → z_pdS P k n (z_ct (z_get P k) n) (z_pdF P k n)
  | 0, _ => ⟨rfl, rfl, rfl, rfl, rfl, rfl, fun _ _ => rfl, fun d _ _ hg j hj hlj e2 e3 eo => z_get_no hk hg hj hlj e2 e3 eo, fun _ => rfl, fun _ => ⟨hw, h60⟩⟩
  | n + 1, hn => by
    have ih := z_pdF_ok hw h60 hk hl n (by omega)
    have h6 := hw.1.1
    cases hg : z_get P k n with
    | false =>
      have e := z_pdF_n hg
      have ec : z_ct (z_get P k) (n + 1) = z_ct (z_get P k) n := by rw [z_ct_s, hg]; rfl
      exact ⟨by rw [e, ec]; exact ih.b1, by rw [e, ec]; exact ih.nm, by rw [e]; exact ih.c1, by rw [e]; exact ih.c2, by rw [e]; exact ih.c3, by rw [e]; exact ih.bd, by rw [e]; exact ih.hd, by rw [e]; exact fun d hd => ih.un d (by omega), by rw [e]; exact ih.p0, by rw [e]; exact ih.wf⟩
    | true =>
      have ec : z_ct (z_get P k) (n + 1) = z_ct (z_get P k) n + 1 := by rw [z_ct_s, hg]; rfl
      have e := z_pdF_y hg
      cases hf : (z_pdF P k n).1 with
      | false =>
        -- the first
        rw [hf, if_neg Bool.false_ne_true] at e
        have hp0 := ih.p0 hf
        have h0 : z_ct (z_get P k) n = 0 := by
          have := ih.b1
          rw [hf] at this
          have := of_decide_eq_false this.symm
          omega
        rw [e, ec, h0]
        have hh : ∀ w, z_hd (z_sM P k (z_hset (z_hd P k) 1 (nI n)) (z_bd P k)) k w = z_hset (z_hd P k) 1 (nI n) w := fun w => z_sM_hd_s w
        refine ⟨rfl, rfl, rfl, rfl, rfl, z_sM_bd_s, fun w hw1 => by rw [hh, z_hset_o hw1], fun d hd hdc hgd j hj hlj e2 e3 eo => ?_, fun q => (by cases q), fun _ => ⟨z_sM_wf hw hk (z_wHf_own (z_wHf_of (hw.2.2.2.1 k hk)) (by omega) h6) (hw.2.2.2.2.1 k hk) (fun _ j hj hne hlj e2 e3 eo => ?_), z_sM_b60 h60 (h60 k hk)⟩⟩
        · have hj : j < z_nm P := hj
          by_cases y : j = k
          · subst y
            unfold z_own at eo
            rw [hh, z_hset_s, nI_clamp (by omega)] at eo
            omega
          · rw [z_sM_liv_o y] at hlj
            unfold z_own at eo
            rw [z_sM_hd_o y] at e2 e3 eo
            exact z_get_no hk hgd hj hlj e2 e3 eo
        · rw [z_hset_o (by decide)] at e2 e3
          rw [z_hset_s, nI_clamp (by omega)] at eo
          exact z_get_no hk hg hj hlj e2 e3 eo
      | true =>
        rw [hf, if_pos rfl] at e
        have h0 : 0 < z_ct (z_get P k) n := by
          have := ih.b1
          rw [hf] at this
          exact of_decide_eq_true this.symm
        have hnm := ih.nm
        have hkn : k ≠ z_nm (z_pdF P k n).2 := by omega
        rw [e, ec]
        have hh : ∀ w, z_hd (z_addM (z_pdF P k n).2 (z_pdH (z_hd P k) n) (z_bd P k)) (z_nm (z_pdF P k n).2) w = z_pdH (z_hd P k) n w := fun w => z_addM_hd_s w
        have hnc : z_nc (z_pdF P k n).2 = z_nc P := ih.c1
        refine ⟨by rw [decide_eq_true (show 0 < z_ct (z_get P k) n + 1 by omega)], ?_, ih.c1, ih.c2, ih.c3, by rw [z_addM_bd_o hkn]; exact ih.bd, fun w hw1 => by rw [z_addM_hd_o hkn]; exact ih.hd w hw1, fun d hd hdc hgd j hj hlj e2 e3 eo => ?_, fun q => (by cases q), fun h24 => ?_⟩
        · show z_nm (z_pdF P k n).2 + 1 = _
          rw [hnm]; omega
        · have hj : j < z_nm (z_pdF P k n).2 + 1 := hj
          by_cases y : j = z_nm (z_pdF P k n).2
          · subst y
            unfold z_own at eo
            rw [hh, show z_pdH (z_hd P k) n 1 = nI n from if_pos rfl, nI_clamp (by omega)] at eo
            omega
          · rw [z_addM_liv_o y] at hlj
            unfold z_own at eo
            rw [z_addM_hd_o y] at e2 e3 eo
            exact ih.un d (by omega) hdc hgd j (by omega) hlj e2 e3 eo
        · have h24 : z_nm (z_pdF P k n).2 + 1 ≤ 24 := h24
          obtain ⟨w1, w2⟩ := ih.wf (by omega)
          refine ⟨z_addM_wf w1 (by omega) ?_ ?_ (fun j hj hlj e2 e3 eo => ?_), z_addM_b60 w2 (h60 k hk)⟩
          · have hH : z_wHf (z_pdF P k n).2 (z_pdH (z_hd P k) n) := z_wHf_nc hnc (z_pdH_wf hw hk (by omega))
            unfold z_wH z_own z_cnt
            simp only [z_addM_hd_s]
            exact hH
          · show z_wB (z_nc (z_pdF P k n).2) (z_bd P k)
            rw [hnc]; exact hw.2.2.2.2.1 k hk
          · refine ih.un n (Nat.le_refl n) (by omega) hg j hj hlj ?_ ?_ ?_
            · rw [e2]; rfl
            · rw [e3]; rfl
            · rw [eo, show z_pdH (z_hd P k) n 1 = nI n from if_pos rfl, nI_clamp (by omega)]
theorem z_pdQ_ok (hw : z_wf P) (h60 : z_b60 P) {k : Nat} (hk : k < z_nm P) (hl : z_liv P k = true) (h24 : ¬ 24 < z_nm P + z_ct (z_get P k) (z_nc P) - 1) : z_wf (z_pdQ P k) ∧ z_b60 (z_pdQ P k) ∧ z_nc (z_pdQ P k) = z_nc P := by
  have ih := z_pdF_ok hw h60 hk hl (z_nc P) (Nat.le_refl _)
  have hn24 := hw.2.2.1
  unfold z_pdQ
  by_cases hf : (z_pdF P k (z_nc P)).1 = true
  · rw [if_pos hf]
    have hnm := ih.nm
    obtain ⟨a, b⟩ := ih.wf (by omega)
    exact ⟨a, b, ih.c1⟩
  · rw [if_neg hf]
    refine ⟨z_sM_wf hw hk ?_ (hw.2.2.2.2.1 k hk) (fun h => ?_), z_sM_b60 h60 (h60 k hk), rfl⟩
    · obtain ⟨a, b, c, d, e, f⟩ := z_wHf_of (hw.2.2.2.1 k hk)
      unfold z_wHf
      rw [z_hset_o (w' := 1) (by decide), z_hset_o (w' := 2) (by decide), z_hset_o (w' := 3) (by decide), z_hset_o (w' := 8) (by decide)]
      refine ⟨Or.inl z_hset_s, b, c, d, fun j hj => ?_, f⟩
      rw [z_hset_o (w' := 4 + j) (by omega), z_hset_o (w' := 6 + j) (by omega)]
      exact e j hj
    · rw [z_hset_s] at h; exact absurd h (by decide)
end
