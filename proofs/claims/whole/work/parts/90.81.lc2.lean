-- deps:
/-! a local noted -/
section
variable {S : z_S} {m : z_m} {p : Nat} {P : z_Pg}
noncomputable def z_lad (P : z_Pg) (k i : Nat) (c : List (Int32 × Int32 × Int32)) : List (Int32 × Int32 × Int32) := if z_lix c (z_Bd P k i) = -1 ∧ c.length < 3 then c ++ [(z_Bd P k i, z_v (z_bd P k) i, z_tol P k (z_Bd P k i))] else c
noncomputable def z_lan (P : z_Pg) (k i : Nat) (c : List (Int32 × Int32 × Int32)) : Int32 := if z_lix c (z_Bd P k i) = -1 ∧ c.length < 3 then nI c.length else z_lix c (z_Bd P k i)
theorem f41_45 (hX : z_XS S) (hp : z_PS S p) (lo : 242 ≤ p) (h : z_cp m p P) (ht : z_LT m p P) (hw : z_wf P) {k i : Nat} (hk : k < z_nm P) (hlk : z_liv P k = true) (hi : i < (z_bd P k).length) (hx : (z_Bd P k i = -1 ∧ 0 < z_cnt P k) ∨ (z_Bd P k i = -2 ∧ 1 < z_cnt P k) ∨ ∃ j, j + 1 < (z_bd P k).length ∧ z_Bd P k i = nI j) {c : List (Int32 × Int32 × Int32)} (hc : z_lc m 45 c) : ∃ m', f41 45 p (nI k) (nI i) (z_hp S m) = some (z_lan P k i c, z_hp S m') ∧ z_lc m' 45 (z_lad P k i c) ∧ ∀ a, a < 45 ∨ 48 < a → m' a = m a := by
  have h24 := hw.2.2.1
  have hpk := hp.k
  have hbp := hp.B (k := k) (by omega)
  have hb := h.2.2.2 k hk hlk
  have hlen : (z_bd P k).length ≤ 60 := hb.2.2.1
  have hT := ht k hk hlk
  have eB : m (z_bi p k + 6) i = z_Bd P k i := (hT.2 i hi).2
  have ev := (hb.2.2.2.2 i hi).2.1
  have e40 := f40_45 hX hc (z_Bd P k i)
  obtain ⟨h3, hl3, hr⟩ := hc
  by_cases y : z_lix c (z_Bd P k i) = -1 ∧ c.length < 3
  · have hl : c.length < 3 := y.2
    rw [y.1] at e40
    have g46 : ∀ j (v : Int32) (m0 : z_m) (a : Nat), a ≠ 46 → z_up m0 46 j v a = m0 a := fun j v m0 a ha => z_up_row ha
    generalize hm1 : z_up (z_up m 46 c.length (z_Bd P k i)) 47 c.length (z_v (z_bd P k) i) = m1
    have fr1 : ∀ a, a ≠ 46 → a ≠ 47 → m1 a = m a := fun a x1 x2 => by rw [← hm1, z_up_row x2, z_up_row x1]
    have h1 : z_cp m1 p P := z_cp_fr3 hw (fun a x1 x2 => fr1 a (by omega) (by omega)) h
    have hT1 : z_TY m1 p P k := z_TY_fr (fun a x1 x2 => fr1 a (by unfold z_bi at x1; omega) (by unfold z_bi at x1; omega)) hT
    have e100 := f100_sp (S := S) hp h1 hw hk hlk hT1 hx
    have b1 : z_up m 46 c.length (z_Bd P k i) 45 3 = nI c.length := by rw [z_up_row (by decide)]; exact h3
    have b2 : z_up m 46 c.length (z_Bd P k i) (z_bi p k + 2) i = z_v (z_bd P k) i := by rw [z_up_row (by unfold z_bi; omega)]; exact ev
    have b3 : m1 45 3 = nI c.length := by rw [fr1 45 (by decide) (by decide)]; exact h3
    have b4 : m1 (z_bi p k + 6) i = z_Bd P k i := by rw [fr1 _ (by unfold z_bi; omega) (by unfold z_bi; omega)]; exact eB
    have b5 : z_up m1 48 c.length (z_tol P k (z_Bd P k i)) 45 3 = nI c.length := by rw [z_up_row (by decide)]; exact b3
    refine ⟨z_up (z_up m1 48 c.length (z_tol P k (z_Bd P k i))) 45 3 (nI (c.length + 1)), ?_, ⟨?_, ?_, fun j hj => ?_⟩, fun a ha => by rw [z_up_row (by omega), z_up_row (by omega), fr1 a (by omega) (by omega)]⟩
    · unfold f41 z_lan
      rw [if_pos y]
      simp (disch := ((try simp only [true_or, or_true, hX.k45, hX.k46, hX.k47, hX.k48, hX.l46, hX.l47, hX.l48, hp.k, hp.k1, hp.k2, hp.k3, hp.k4, hp.k5, hp.k6, hp.k7, hp.k8, hp.k9, hp.k10, hp.l1, hp.l2, hp.l3, hp.l4, hp.l5, hp.l6, hp.l7, hp.l8, hp.l9, hp.l10, hbp.k, hbp.k1, hbp.k2, hbp.k3, hbp.k4, hbp.k5, hbp.k6, hbp.l1, hbp.l2, hbp.l3, hbp.l4, hbp.l5, hbp.l6, hpk]) <;> (try omega))) only [↓reduceIte, ↓z_ite, ↓zR, ↓zB_R, ↓zB_B, ↓zB_ite, ↓zB_gI, ↓zB_pI, ↓zB_pZ, ↓zB_aK, ↓zB_G, ↓zB_lI, ↓zB_lZ, ↓zB_wI, ↓zB_wZ, ↓zB_lIl, ↓zB_wIl, zB_pI, zB_pZ, zB_lI, zB_lZ, zB_wI, zB_wZ, z_addl, z_ladd, z_mull, z_lmul, nI_add, z_subl, Nat.not_lt_zero, z_10, z_01, z_bitc, z_b0, z_b1, ↓zB_Gb, ↓zB_G0, ↓zB_G1, z_eql, z_leq, z_ltl, z_llt, z_eq, z_lt, z_m1lt, hX.k45, hX.k46, hX.k47, hX.k48, hX.l46, hX.l47, hX.l48, hp.k, hp.k1, hp.k2, hp.k3, hp.k4, hp.k5, hp.k6, hp.k7, hp.k8, hp.k9, hp.k10, hp.l1, hp.l2, hp.l3, hp.l4, hp.l5, hp.l6, hp.l7, hp.l8, hp.l9, hp.l10, hbp.k, hbp.k1, hbp.k2, hbp.k3, hbp.k4, hbp.k5, hbp.k6, hbp.l1, hbp.l2, hbp.l3, hbp.l4, hbp.l5, hbp.l6, hpk, ↓hX.g45_0, ↓hX.g45_1, ↓hX.g45_2, ↓hp.g0, ↓hp.g1, ↓hp.g2, ↓hp.g3, ↓hp.g4, ↓hp.g5, ↓hp.g6, ↓hp.g7, ↓hp.g8, ↓hp.g9, ↓hp.gb, hp.gb, ↓hbp.g0, ↓hbp.g1, ↓hbp.g2, ↓hbp.g3, ↓hbp.g4, ↓hbp.g5, h24, hk, hi, eB, ↓zB_c e40, zB_c e40, h3, hl, b1, b2, ev, hm1, b3, b4, ↓zB_c e100, zB_c e100, b5]
      rw [z_up_s, show nI (c.length + 1) - 1 = nI c.length from z_subl (k := 1) (by omega)]
    · unfold z_lad; rw [if_pos y, List.length_append]; exact z_up_s _ _ _ _
    · unfold z_lad; rw [if_pos y, List.length_append]; exact hl
    · unfold z_lad at hj ⊢
      rw [if_pos y] at hj ⊢
      rw [List.length_append] at hj
      have hj : j < c.length + 1 := hj
      rw [z_up_row (by decide), z_up_row (by decide), z_up_row (by decide), z_up_row (by decide), z_up_row (by decide)]
      rw [List.getD_eq_getElem?_getD]
      by_cases g : j = c.length
      · subst g
        rw [List.getElem?_append_right (Nat.le_refl _), Nat.sub_self]
        refine ⟨?_, ?_, ?_⟩
        · rw [← hm1, z_up_row (by decide), z_up_s]; rfl
        · rw [← hm1, z_up_s]; rfl
        · rw [z_up_s]; rfl
      · have hj2 : j < c.length := by omega
        rw [List.getElem?_append_left hj2, ← List.getD_eq_getElem?_getD]
        obtain ⟨q1, q2, q3⟩ := hr j hj2
        refine ⟨?_, ?_, ?_⟩
        · rw [← hm1, z_up_row (by decide), z_up_b g]; exact q1
        · rw [← hm1, z_up_b g, z_up_row (by decide)]; exact q2
        · rw [z_up_b g, fr1 48 (by decide) (by decide)]; exact q3
  · refine ⟨m, ?_, by unfold z_lad; rw [if_neg y]; exact ⟨h3, hl3, hr⟩, fun _ _ => rfl⟩
    unfold f41 f41_35 z_lan
    rw [if_neg y]
    by_cases g : z_lix c (z_Bd P k i) = -1
    · have hl : ¬ c.length < 3 := fun q => y ⟨g, q⟩
      rw [g] at e40 ⊢
      simp (disch := ((try simp only [true_or, or_true, hX.k45, hX.k46, hX.k47, hX.k48, hX.l46, hX.l47, hX.l48, hp.k, hp.k1, hp.k2, hp.k3, hp.k4, hp.k5, hp.k6, hp.k7, hp.k8, hp.k9, hp.k10, hp.l1, hp.l2, hp.l3, hp.l4, hp.l5, hp.l6, hp.l7, hp.l8, hp.l9, hp.l10, hbp.k, hbp.k1, hbp.k2, hbp.k3, hbp.k4, hbp.k5, hbp.k6, hbp.l1, hbp.l2, hbp.l3, hbp.l4, hbp.l5, hbp.l6, hpk]) <;> (try omega))) only [↓reduceIte, ↓z_ite, ↓zR, ↓zB_R, ↓zB_B, ↓zB_ite, ↓zB_gI, ↓zB_pI, ↓zB_pZ, ↓zB_aK, ↓zB_G, ↓zB_lI, ↓zB_lZ, ↓zB_wI, ↓zB_wZ, ↓zB_lIl, ↓zB_wIl, zB_pI, zB_pZ, zB_lI, zB_lZ, zB_wI, zB_wZ, z_addl, z_ladd, z_mull, z_lmul, nI_add, z_subl, Nat.not_lt_zero, z_10, z_01, z_bitc, z_b0, z_b1, ↓zB_Gb, ↓zB_G0, ↓zB_G1, z_eql, z_leq, z_ltl, z_llt, z_eq, z_lt, z_m1lt, hX.k45, hX.k46, hX.k47, hX.k48, hX.l46, hX.l47, hX.l48, hp.k, hp.k1, hp.k2, hp.k3, hp.k4, hp.k5, hp.k6, hp.k7, hp.k8, hp.k9, hp.k10, hp.l1, hp.l2, hp.l3, hp.l4, hp.l5, hp.l6, hp.l7, hp.l8, hp.l9, hp.l10, hbp.k, hbp.k1, hbp.k2, hbp.k3, hbp.k4, hbp.k5, hbp.k6, hbp.l1, hbp.l2, hbp.l3, hbp.l4, hbp.l5, hbp.l6, hpk, ↓hX.g45_0, ↓hX.g45_1, ↓hX.g45_2, ↓hp.g0, ↓hp.g1, ↓hp.g2, ↓hp.g3, ↓hp.g4, ↓hp.g5, ↓hp.g6, ↓hp.g7, ↓hp.g8, ↓hp.g9, ↓hp.gb, hp.gb, ↓hbp.g0, ↓hbp.g1, ↓hbp.g2, ↓hbp.g3, ↓hbp.g4, ↓hbp.g5, h24, hk, hi, eB, ↓zB_c e40, zB_c e40, h3, hl]
    · simp (disch := ((try simp only [true_or, or_true, hX.k45, hX.k46, hX.k47, hX.k48, hX.l46, hX.l47, hX.l48, hp.k, hp.k1, hp.k2, hp.k3, hp.k4, hp.k5, hp.k6, hp.k7, hp.k8, hp.k9, hp.k10, hp.l1, hp.l2, hp.l3, hp.l4, hp.l5, hp.l6, hp.l7, hp.l8, hp.l9, hp.l10, hbp.k, hbp.k1, hbp.k2, hbp.k3, hbp.k4, hbp.k5, hbp.k6, hbp.l1, hbp.l2, hbp.l3, hbp.l4, hbp.l5, hbp.l6, hpk]) <;> (try omega))) only [↓reduceIte, ↓z_ite, ↓zR, ↓zB_R, ↓zB_B, ↓zB_ite, ↓zB_gI, ↓zB_pI, ↓zB_pZ, ↓zB_aK, ↓zB_G, ↓zB_lI, ↓zB_lZ, ↓zB_wI, ↓zB_wZ, ↓zB_lIl, ↓zB_wIl, zB_pI, zB_pZ, zB_lI, zB_lZ, zB_wI, zB_wZ, z_addl, z_ladd, z_mull, z_lmul, nI_add, z_subl, Nat.not_lt_zero, z_10, z_01, z_bitc, z_b0, z_b1, ↓zB_Gb, ↓zB_G0, ↓zB_G1, z_eql, z_leq, z_ltl, z_llt, z_eq, z_lt, z_m1lt, hX.k45, hX.k46, hX.k47, hX.k48, hX.l46, hX.l47, hX.l48, hp.k, hp.k1, hp.k2, hp.k3, hp.k4, hp.k5, hp.k6, hp.k7, hp.k8, hp.k9, hp.k10, hp.l1, hp.l2, hp.l3, hp.l4, hp.l5, hp.l6, hp.l7, hp.l8, hp.l9, hp.l10, hbp.k, hbp.k1, hbp.k2, hbp.k3, hbp.k4, hbp.k5, hbp.k6, hbp.l1, hbp.l2, hbp.l3, hbp.l4, hbp.l5, hbp.l6, hpk, ↓hX.g45_0, ↓hX.g45_1, ↓hX.g45_2, ↓hp.g0, ↓hp.g1, ↓hp.g2, ↓hp.g3, ↓hp.g4, ↓hp.g5, ↓hp.g6, ↓hp.g7, ↓hp.g8, ↓hp.g9, ↓hp.gb, hp.gb, ↓hbp.g0, ↓hbp.g1, ↓hbp.g2, ↓hbp.g3, ↓hbp.g4, ↓hbp.g5, h24, hk, hi, eB, ↓zB_c e40, zB_c e40, g]
theorem f41_49 (hX : z_XS S) (hp : z_PS S p) (lo : 242 ≤ p) (h : z_cp m p P) (ht : z_LT m p P) (hw : z_wf P) {k i : Nat} (hk : k < z_nm P) (hlk : z_liv P k = true) (hi : i < (z_bd P k).length) (hx : (z_Bd P k i = -1 ∧ 0 < z_cnt P k) ∨ (z_Bd P k i = -2 ∧ 1 < z_cnt P k) ∨ ∃ j, j + 1 < (z_bd P k).length ∧ z_Bd P k i = nI j) {c : List (Int32 × Int32 × Int32)} (hc : z_lc m 49 c) : ∃ m', f41 49 p (nI k) (nI i) (z_hp S m) = some (z_lan P k i c, z_hp S m') ∧ z_lc m' 49 (z_lad P k i c) ∧ ∀ a, a < 49 ∨ 52 < a → m' a = m a := by
  have h24 := hw.2.2.1
  have hpk := hp.k
  have hbp := hp.B (k := k) (by omega)
  have hb := h.2.2.2 k hk hlk
  have hlen : (z_bd P k).length ≤ 60 := hb.2.2.1
  have hT := ht k hk hlk
  have eB : m (z_bi p k + 6) i = z_Bd P k i := (hT.2 i hi).2
  have ev := (hb.2.2.2.2 i hi).2.1
  have e40 := f40_49 hX hc (z_Bd P k i)
  obtain ⟨h3, hl3, hr⟩ := hc
  by_cases y : z_lix c (z_Bd P k i) = -1 ∧ c.length < 3
  · have hl : c.length < 3 := y.2
    rw [y.1] at e40
    have g46 : ∀ j (v : Int32) (m0 : z_m) (a : Nat), a ≠ 50 → z_up m0 50 j v a = m0 a := fun j v m0 a ha => z_up_row ha
    generalize hm1 : z_up (z_up m 50 c.length (z_Bd P k i)) 51 c.length (z_v (z_bd P k) i) = m1
    have fr1 : ∀ a, a ≠ 50 → a ≠ 51 → m1 a = m a := fun a x1 x2 => by rw [← hm1, z_up_row x2, z_up_row x1]
    have h1 : z_cp m1 p P := z_cp_fr3 hw (fun a x1 x2 => fr1 a (by omega) (by omega)) h
    have hT1 : z_TY m1 p P k := z_TY_fr (fun a x1 x2 => fr1 a (by unfold z_bi at x1; omega) (by unfold z_bi at x1; omega)) hT
    have e100 := f100_sp (S := S) hp h1 hw hk hlk hT1 hx
    have b1 : z_up m 50 c.length (z_Bd P k i) 49 3 = nI c.length := by rw [z_up_row (by decide)]; exact h3
    have b2 : z_up m 50 c.length (z_Bd P k i) (z_bi p k + 2) i = z_v (z_bd P k) i := by rw [z_up_row (by unfold z_bi; omega)]; exact ev
    have b3 : m1 49 3 = nI c.length := by rw [fr1 49 (by decide) (by decide)]; exact h3
    have b4 : m1 (z_bi p k + 6) i = z_Bd P k i := by rw [fr1 _ (by unfold z_bi; omega) (by unfold z_bi; omega)]; exact eB
    have b5 : z_up m1 52 c.length (z_tol P k (z_Bd P k i)) 49 3 = nI c.length := by rw [z_up_row (by decide)]; exact b3
    refine ⟨z_up (z_up m1 52 c.length (z_tol P k (z_Bd P k i))) 49 3 (nI (c.length + 1)), ?_, ⟨?_, ?_, fun j hj => ?_⟩, fun a ha => by rw [z_up_row (by omega), z_up_row (by omega), fr1 a (by omega) (by omega)]⟩
    · unfold f41 z_lan
      rw [if_pos y]
      simp (disch := ((try simp only [true_or, or_true, hX.k49, hX.k50, hX.k51, hX.k52, hX.l50, hX.l51, hX.l52, hp.k, hp.k1, hp.k2, hp.k3, hp.k4, hp.k5, hp.k6, hp.k7, hp.k8, hp.k9, hp.k10, hp.l1, hp.l2, hp.l3, hp.l4, hp.l5, hp.l6, hp.l7, hp.l8, hp.l9, hp.l10, hbp.k, hbp.k1, hbp.k2, hbp.k3, hbp.k4, hbp.k5, hbp.k6, hbp.l1, hbp.l2, hbp.l3, hbp.l4, hbp.l5, hbp.l6, hpk]) <;> (try omega))) only [↓reduceIte, ↓z_ite, ↓zR, ↓zB_R, ↓zB_B, ↓zB_ite, ↓zB_gI, ↓zB_pI, ↓zB_pZ, ↓zB_aK, ↓zB_G, ↓zB_lI, ↓zB_lZ, ↓zB_wI, ↓zB_wZ, ↓zB_lIl, ↓zB_wIl, zB_pI, zB_pZ, zB_lI, zB_lZ, zB_wI, zB_wZ, z_addl, z_ladd, z_mull, z_lmul, nI_add, z_subl, Nat.not_lt_zero, z_10, z_01, z_bitc, z_b0, z_b1, ↓zB_Gb, ↓zB_G0, ↓zB_G1, z_eql, z_leq, z_ltl, z_llt, z_eq, z_lt, z_m1lt, hX.k49, hX.k50, hX.k51, hX.k52, hX.l50, hX.l51, hX.l52, hp.k, hp.k1, hp.k2, hp.k3, hp.k4, hp.k5, hp.k6, hp.k7, hp.k8, hp.k9, hp.k10, hp.l1, hp.l2, hp.l3, hp.l4, hp.l5, hp.l6, hp.l7, hp.l8, hp.l9, hp.l10, hbp.k, hbp.k1, hbp.k2, hbp.k3, hbp.k4, hbp.k5, hbp.k6, hbp.l1, hbp.l2, hbp.l3, hbp.l4, hbp.l5, hbp.l6, hpk, ↓hX.g49_0, ↓hX.g49_1, ↓hX.g49_2, ↓hp.g0, ↓hp.g1, ↓hp.g2, ↓hp.g3, ↓hp.g4, ↓hp.g5, ↓hp.g6, ↓hp.g7, ↓hp.g8, ↓hp.g9, ↓hp.gb, hp.gb, ↓hbp.g0, ↓hbp.g1, ↓hbp.g2, ↓hbp.g3, ↓hbp.g4, ↓hbp.g5, h24, hk, hi, eB, ↓zB_c e40, zB_c e40, h3, hl, b1, b2, ev, hm1, b3, b4, ↓zB_c e100, zB_c e100, b5]
      rw [z_up_s, show nI (c.length + 1) - 1 = nI c.length from z_subl (k := 1) (by omega)]
    · unfold z_lad; rw [if_pos y, List.length_append]; exact z_up_s _ _ _ _
    · unfold z_lad; rw [if_pos y, List.length_append]; exact hl
    · unfold z_lad at hj ⊢
      rw [if_pos y] at hj ⊢
      rw [List.length_append] at hj
      have hj : j < c.length + 1 := hj
      rw [z_up_row (by decide), z_up_row (by decide), z_up_row (by decide), z_up_row (by decide), z_up_row (by decide)]
      rw [List.getD_eq_getElem?_getD]
      by_cases g : j = c.length
      · subst g
        rw [List.getElem?_append_right (Nat.le_refl _), Nat.sub_self]
        refine ⟨?_, ?_, ?_⟩
        · rw [← hm1, z_up_row (by decide), z_up_s]; rfl
        · rw [← hm1, z_up_s]; rfl
        · rw [z_up_s]; rfl
      · have hj2 : j < c.length := by omega
        rw [List.getElem?_append_left hj2, ← List.getD_eq_getElem?_getD]
        obtain ⟨q1, q2, q3⟩ := hr j hj2
        refine ⟨?_, ?_, ?_⟩
        · rw [← hm1, z_up_row (by decide), z_up_b g]; exact q1
        · rw [← hm1, z_up_b g, z_up_row (by decide)]; exact q2
        · rw [z_up_b g, fr1 52 (by decide) (by decide)]; exact q3
  · refine ⟨m, ?_, by unfold z_lad; rw [if_neg y]; exact ⟨h3, hl3, hr⟩, fun _ _ => rfl⟩
    unfold f41 f41_35 z_lan
    rw [if_neg y]
    by_cases g : z_lix c (z_Bd P k i) = -1
    · have hl : ¬ c.length < 3 := fun q => y ⟨g, q⟩
      rw [g] at e40 ⊢
      simp (disch := ((try simp only [true_or, or_true, hX.k49, hX.k50, hX.k51, hX.k52, hX.l50, hX.l51, hX.l52, hp.k, hp.k1, hp.k2, hp.k3, hp.k4, hp.k5, hp.k6, hp.k7, hp.k8, hp.k9, hp.k10, hp.l1, hp.l2, hp.l3, hp.l4, hp.l5, hp.l6, hp.l7, hp.l8, hp.l9, hp.l10, hbp.k, hbp.k1, hbp.k2, hbp.k3, hbp.k4, hbp.k5, hbp.k6, hbp.l1, hbp.l2, hbp.l3, hbp.l4, hbp.l5, hbp.l6, hpk]) <;> (try omega))) only [↓reduceIte, ↓z_ite, ↓zR, ↓zB_R, ↓zB_B, ↓zB_ite, ↓zB_gI, ↓zB_pI, ↓zB_pZ, ↓zB_aK, ↓zB_G, ↓zB_lI, ↓zB_lZ, ↓zB_wI, ↓zB_wZ, ↓zB_lIl, ↓zB_wIl, zB_pI, zB_pZ, zB_lI, zB_lZ, zB_wI, zB_wZ, z_addl, z_ladd, z_mull, z_lmul, nI_add, z_subl, Nat.not_lt_zero, z_10, z_01, z_bitc, z_b0, z_b1, ↓zB_Gb, ↓zB_G0, ↓zB_G1, z_eql, z_leq, z_ltl, z_llt, z_eq, z_lt, z_m1lt, hX.k49, hX.k50, hX.k51, hX.k52, hX.l50, hX.l51, hX.l52, hp.k, hp.k1, hp.k2, hp.k3, hp.k4, hp.k5, hp.k6, hp.k7, hp.k8, hp.k9, hp.k10, hp.l1, hp.l2, hp.l3, hp.l4, hp.l5, hp.l6, hp.l7, hp.l8, hp.l9, hp.l10, hbp.k, hbp.k1, hbp.k2, hbp.k3, hbp.k4, hbp.k5, hbp.k6, hbp.l1, hbp.l2, hbp.l3, hbp.l4, hbp.l5, hbp.l6, hpk, ↓hX.g49_0, ↓hX.g49_1, ↓hX.g49_2, ↓hp.g0, ↓hp.g1, ↓hp.g2, ↓hp.g3, ↓hp.g4, ↓hp.g5, ↓hp.g6, ↓hp.g7, ↓hp.g8, ↓hp.g9, ↓hp.gb, hp.gb, ↓hbp.g0, ↓hbp.g1, ↓hbp.g2, ↓hbp.g3, ↓hbp.g4, ↓hbp.g5, h24, hk, hi, eB, ↓zB_c e40, zB_c e40, h3, hl]
    · simp (disch := ((try simp only [true_or, or_true, hX.k49, hX.k50, hX.k51, hX.k52, hX.l50, hX.l51, hX.l52, hp.k, hp.k1, hp.k2, hp.k3, hp.k4, hp.k5, hp.k6, hp.k7, hp.k8, hp.k9, hp.k10, hp.l1, hp.l2, hp.l3, hp.l4, hp.l5, hp.l6, hp.l7, hp.l8, hp.l9, hp.l10, hbp.k, hbp.k1, hbp.k2, hbp.k3, hbp.k4, hbp.k5, hbp.k6, hbp.l1, hbp.l2, hbp.l3, hbp.l4, hbp.l5, hbp.l6, hpk]) <;> (try omega))) only [↓reduceIte, ↓z_ite, ↓zR, ↓zB_R, ↓zB_B, ↓zB_ite, ↓zB_gI, ↓zB_pI, ↓zB_pZ, ↓zB_aK, ↓zB_G, ↓zB_lI, ↓zB_lZ, ↓zB_wI, ↓zB_wZ, ↓zB_lIl, ↓zB_wIl, zB_pI, zB_pZ, zB_lI, zB_lZ, zB_wI, zB_wZ, z_addl, z_ladd, z_mull, z_lmul, nI_add, z_subl, Nat.not_lt_zero, z_10, z_01, z_bitc, z_b0, z_b1, ↓zB_Gb, ↓zB_G0, ↓zB_G1, z_eql, z_leq, z_ltl, z_llt, z_eq, z_lt, z_m1lt, hX.k49, hX.k50, hX.k51, hX.k52, hX.l50, hX.l51, hX.l52, hp.k, hp.k1, hp.k2, hp.k3, hp.k4, hp.k5, hp.k6, hp.k7, hp.k8, hp.k9, hp.k10, hp.l1, hp.l2, hp.l3, hp.l4, hp.l5, hp.l6, hp.l7, hp.l8, hp.l9, hp.l10, hbp.k, hbp.k1, hbp.k2, hbp.k3, hbp.k4, hbp.k5, hbp.k6, hbp.l1, hbp.l2, hbp.l3, hbp.l4, hbp.l5, hbp.l6, hpk, ↓hX.g49_0, ↓hX.g49_1, ↓hX.g49_2, ↓hp.g0, ↓hp.g1, ↓hp.g2, ↓hp.g3, ↓hp.g4, ↓hp.g5, ↓hp.g6, ↓hp.g7, ↓hp.g8, ↓hp.g9, ↓hp.gb, hp.gb, ↓hbp.g0, ↓hbp.g1, ↓hbp.g2, ↓hbp.g3, ↓hbp.g4, ↓hbp.g5, h24, hk, hi, eB, ↓zB_c e40, zB_c e40, g]
end
