-- deps: 90.81.lc2 90.82.ex0 90.83.ex1 90.84.ex2 90.85.ex3 90.86.ex4 90.87.ex5
/-! nodes taken out: the class, all of it -/
section
variable {S : z_S} {m : z_m} {p q : Nat} {P : z_Pg} {A : z_A}
theorem z_52_oF {m' : z_m} (h : ∀ a, a < 38 ∨ 52 < a → m' a = m a) (h38 : m' 38 6 = m 38 6) : z_oF q m m' := ⟨fun a x1 x2 x3 => h a (by omega), by rw [h 22 (by omega)], by rw [h 30 (by omega)], h38, by rw [h 54 (by omega)]⟩
theorem z_exB_id {k i : Nat} {name : Int32} {j : Nat} (ho : ¬ z_own P j = z_own P k) : z_exD P k i name j = z_bd P j := if_neg ho
theorem z_exB_in {k i : Nat} {name : Int32} {j : Nat} (ho : z_own P j = z_own P k) : z_exD P k i name j = z_exB P k i (z_exc P k i) j name := if_pos ho
theorem z_mix_same {P1 : z_Pg} {D : Nat → List z_N} {j : Nat} (hl : z_liv P1 j = true) (hD : D j = z_bd P1 j) : z_mix P1 (z_hd P1) D (j + 1) = z_mix P1 (z_hd P1) D j := by
  rw [z_mix_s hl]
  have e1 : z_sM (z_mix P1 (z_hd P1) D j) j (z_hd P1 j) (D j) = z_mix P1 (z_hd P1) D j := by
    unfold z_sM
    have a1 : (fun k w => if k = j then z_hd P1 j w else z_hd (z_mix P1 (z_hd P1) D j) k w) = (z_mix P1 (z_hd P1) D j).2.2.2.2.1 := funext (fun k => funext (fun w => by
      show (if k = j then z_hd P1 j w else z_hd (z_mix P1 (z_hd P1) D j) k w) = z_hd (z_mix P1 (z_hd P1) D j) k w
      rw [z_mix_hd]
      by_cases g : k = j
      · rw [if_pos g, g]; split <;> rfl
      · rw [if_neg g]))
    have a2 : (fun k => if k = j then D j else z_bd (z_mix P1 (z_hd P1) D j) k) = (z_mix P1 (z_hd P1) D j).2.2.2.2.2 := funext (fun k => by
      show (if k = j then D j else z_bd (z_mix P1 (z_hd P1) D j) k) = z_bd (z_mix P1 (z_hd P1) D j) k
      rw [z_mix_bd]
      by_cases g : k = j
      · rw [if_pos g, g, if_neg (by omega)]; exact hD
      · rw [if_neg g])
    rw [a1, a2]
  exact e1
/-- Extractor.takeOut -/
theorem f31_sp (hpre : z_Pre S m p q P) (hw : z_wf P) (h60 : z_b60 P) (hR : z_RT P) {k i : Nat} (hk : k < z_nm P) (hlk : z_liv P k = true) (hi : i < (z_bd P k).length) {name : Int32} (hn : ∃ n, n < 16 ∧ name = nI n) : ∃ m', f31 37 p q (nI k) (nI i) name (z_hp S m) = some (z_exR P k i name, z_hp S m') ∧ z_Post m m' q (z_exR P k i name) (z_exQ P k i name) := by
  obtain ⟨⟨hX, hp, hq⟩, ⟨lo, lo2, hpq⟩, ⟨hcp, hT⟩, ⟨hcq, h14⟩, hsh⟩ := hpre
  have h24 := hw.2.2.1
  have h6 := hw.1.1
  have hpk := hp.k
  have hqk := hq.k
  have hbp := hp.B (k := k) (by omega)
  have h37k : z_kd S 37 = 2 := hX.k37
  have h45k : z_kd S 45 = 4 := hX.k45
  have h38 := hX.2.2.2.1.2.2.1
  have hB := hw.2.2.2.2.1 k hk
  have hl60 := h60 k hk
  have hle : i + z_sz (z_bd P k) i ≤ (z_bd P k).length := z_en_le hB.1 hi
  have eT : m (z_bi p k + 5) i = z_Ty P k i := ((hT k hk hlk).2 i hi).1
  have how := z_own_e hw hk
  have rm0 : z_rm60 m q := hcq.2.2.1
  have stay : ∀ r m1, r < 0 → f31 37 p q (nI k) (nI i) name (z_hp S m) = some (r, z_hp S m1) → (∀ a, a < 38 ∨ 52 < a → m1 a = m a) → m1 38 6 = m 38 6 → z_exR P k i name = r → ∃ m', f31 37 p q (nI k) (nI i) name (z_hp S m) = some (z_exR P k i name, z_hp S m') ∧ z_Post m m' q (z_exR P k i name) (z_exQ P k i name) := fun r m1 hr e F F38 er => by
    rw [er]
    exact ⟨m1, e, fun g => absurd hr g, fun k hk => by rw [F _ (by unfold z_bi; omega)]; exact rm0 k hk, z_52_oF F F38⟩
  by_cases y1 : z_Ty P k i = -2
  · refine stay (-10) m (by decide) ?_ (fun _ _ => rfl) rfl (if_pos y1)
    rw [y1] at eT
    unfold f31
    simp (disch := ((try simp only [true_or, or_true, hp.k, hp.k1, hp.k2, hp.k3, hp.k4, hp.k5, hp.k6, hp.k7, hp.k8, hp.k9, hp.k10, hp.l1, hp.l2, hp.l3, hp.l4, hp.l5, hp.l6, hp.l7, hp.l8, hp.l9, hp.l10, hbp.k, hbp.k1, hbp.k2, hbp.k3, hbp.k4, hbp.k5, hbp.k6, hbp.l1, hbp.l2, hbp.l3, hbp.l4, hbp.l5, hbp.l6]) <;> (try omega))) only [↓reduceIte, ↓z_ite, ↓zR, ↓zB_R, ↓zB_B, ↓zB_ite, ↓zB_gI, ↓zB_pI, ↓zB_pZ, ↓zB_aK, ↓zB_G, ↓zB_lI, ↓zB_lZ, ↓zB_wI, ↓zB_wZ, ↓zB_lIl, ↓zB_wIl, zB_pI, zB_pZ, zB_lI, zB_lZ, zB_wI, zB_wZ, z_addl, z_ladd, z_mull, z_lmul, nI_add, z_subl, Nat.not_lt_zero, z_10, z_01, z_bitc, z_b0, z_b1, ↓zB_Gb, ↓zB_G0, ↓zB_G1, z_eql, z_leq, z_ltl, z_llt, z_eq, z_lt, z_m1lt, hp.k, hp.k1, hp.k2, hp.k3, hp.k4, hp.k5, hp.k6, hp.k7, hp.k8, hp.k9, hp.k10, hp.l1, hp.l2, hp.l3, hp.l4, hp.l5, hp.l6, hp.l7, hp.l8, hp.l9, hp.l10, hbp.k, hbp.k1, hbp.k2, hbp.k3, hbp.k4, hbp.k5, hbp.k6, hbp.l1, hbp.l2, hbp.l3, hbp.l4, hbp.l5, hbp.l6, ↓hp.g0, ↓hp.g1, ↓hp.g2, ↓hp.g3, ↓hp.g4, ↓hp.g5, ↓hp.g6, ↓hp.g7, ↓hp.g8, ↓hp.g9, ↓hp.gb, hp.gb, ↓hbp.g0, ↓hbp.g1, ↓hbp.g2, ↓hbp.g3, ↓hbp.g4, ↓hbp.g5, h24, hk, hi, eT]
  obtain ⟨m1, e1, c1, F1⟩ := f32_sp hX hp lo hcp hT hw hR hk hlk hi
  have F1' : ∀ a, a < 38 ∨ 52 < a → m1 a = m a := fun a ha => F1 a (by omega)
  have F138 : m1 38 6 = m 38 6 := by rw [F1 38 (by omega)]
  by_cases y2 : z_exO P k i = true
  · refine stay (-5) m1 (by decide) ?_ F1' F138 (by unfold z_exR; rw [if_neg y1, if_pos y2])
    rw [y2] at e1
    unfold f31
    simp (disch := ((try simp only [true_or, or_true, hp.k, hp.k1, hp.k2, hp.k3, hp.k4, hp.k5, hp.k6, hp.k7, hp.k8, hp.k9, hp.k10, hp.l1, hp.l2, hp.l3, hp.l4, hp.l5, hp.l6, hp.l7, hp.l8, hp.l9, hp.l10, hbp.k, hbp.k1, hbp.k2, hbp.k3, hbp.k4, hbp.k5, hbp.k6, hbp.l1, hbp.l2, hbp.l3, hbp.l4, hbp.l5, hbp.l6, h37k]) <;> (try omega))) only [↓reduceIte, ↓z_ite, ↓zR, ↓zB_R, ↓zB_B, ↓zB_ite, ↓zB_gI, ↓zB_pI, ↓zB_pZ, ↓zB_aK, ↓zB_G, ↓zB_lI, ↓zB_lZ, ↓zB_wI, ↓zB_wZ, ↓zB_lIl, ↓zB_wIl, zB_pI, zB_pZ, zB_lI, zB_lZ, zB_wI, zB_wZ, z_addl, z_ladd, z_mull, z_lmul, nI_add, z_subl, Nat.not_lt_zero, z_10, z_01, z_bitc, z_b0, z_b1, ↓zB_Gb, ↓zB_G0, ↓zB_G1, z_eql, z_leq, z_ltl, z_llt, z_eq, z_lt, z_m1lt, hp.k, hp.k1, hp.k2, hp.k3, hp.k4, hp.k5, hp.k6, hp.k7, hp.k8, hp.k9, hp.k10, hp.l1, hp.l2, hp.l3, hp.l4, hp.l5, hp.l6, hp.l7, hp.l8, hp.l9, hp.l10, hbp.k, hbp.k1, hbp.k2, hbp.k3, hbp.k4, hbp.k5, hbp.k6, hbp.l1, hbp.l2, hbp.l3, hbp.l4, hbp.l5, hbp.l6, h37k, ↓hp.g0, ↓hp.g1, ↓hp.g2, ↓hp.g3, ↓hp.g4, ↓hp.g5, ↓hp.g6, ↓hp.g7, ↓hp.g8, ↓hp.g9, ↓hp.gb, hp.gb, ↓hbp.g0, ↓hbp.g1, ↓hbp.g2, ↓hbp.g3, ↓hbp.g4, ↓hbp.g5, h24, hk, hi, eT, y1, ↓zB_c e1, zB_c e1, Bool.not_true]
  have y2' : z_exO P k i = false := by simpa using y2
  rw [y2'] at e1
  have c1 := c1 y2'
  rw [z_clc_e P k i _ (by omega)] at c1
  have hp1 : z_cp m1 p P := z_cp_fr3 hw (fun a x1 x2 => F1 a (by omega)) hcp
  have hq1 : z_cp m1 q P := z_cp_fr3 hw (fun a x1 x2 => F1 a (by omega)) hcq
  have hT1 : z_LT m1 p P := z_LT_fr hw (fun a x1 x2 => F1 a (by omega)) hT
  have eT1 : m1 (z_bi p k + 5) i = z_Ty P k i := ((hT1 k hk hlk).2 i hi).1
  have c3 := c1.1
  have hlenc := z_rlo_len P k i (z_sz (z_bd P k) i)
  by_cases y3 : 2 < (z_exc P k i).length
  · have c3 : m1 45 3 = nI 3 := by
      rw [c3, List.length_take, show min 3 (z_rlo P k i (z_sz (z_bd P k) i)).length = 3 by have : 2 < (z_rlo P k i (z_sz (z_bd P k) i)).length := y3; omega]
    refine stay (-6) m1 (by decide) ?_ F1' F138 (by unfold z_exR; rw [if_neg y1, if_neg y2, if_pos y3])
    unfold f31
    have d3 : (2 : Int32) < nI 3 := by decide
    simp (disch := ((try simp only [true_or, or_true, hp.k, hp.k1, hp.k2, hp.k3, hp.k4, hp.k5, hp.k6, hp.k7, hp.k8, hp.k9, hp.k10, hp.l1, hp.l2, hp.l3, hp.l4, hp.l5, hp.l6, hp.l7, hp.l8, hp.l9, hp.l10, hbp.k, hbp.k1, hbp.k2, hbp.k3, hbp.k4, hbp.k5, hbp.k6, hbp.l1, hbp.l2, hbp.l3, hbp.l4, hbp.l5, hbp.l6, hX.k37, h37k, h45k]) <;> (try omega))) only [↓reduceIte, ↓z_ite, ↓zR, ↓zB_R, ↓zB_B, ↓zB_ite, ↓zB_gI, ↓zB_pI, ↓zB_pZ, ↓zB_aK, ↓zB_G, ↓zB_lI, ↓zB_lZ, ↓zB_wI, ↓zB_wZ, ↓zB_lIl, ↓zB_wIl, zB_pI, zB_pZ, zB_lI, zB_lZ, zB_wI, zB_wZ, z_addl, z_ladd, z_mull, z_lmul, nI_add, z_subl, Nat.not_lt_zero, z_10, z_01, z_bitc, z_b0, z_b1, ↓zB_Gb, ↓zB_G0, ↓zB_G1, z_eql, z_leq, z_ltl, z_llt, z_eq, z_lt, z_m1lt, hp.k, hp.k1, hp.k2, hp.k3, hp.k4, hp.k5, hp.k6, hp.k7, hp.k8, hp.k9, hp.k10, hp.l1, hp.l2, hp.l3, hp.l4, hp.l5, hp.l6, hp.l7, hp.l8, hp.l9, hp.l10, hbp.k, hbp.k1, hbp.k2, hbp.k3, hbp.k4, hbp.k5, hbp.k6, hbp.l1, hbp.l2, hbp.l3, hbp.l4, hbp.l5, hbp.l6, hX.k37, h37k, h45k, ↓hp.g0, ↓hp.g1, ↓hp.g2, ↓hp.g3, ↓hp.g4, ↓hp.g5, ↓hp.g6, ↓hp.g7, ↓hp.g8, ↓hp.g9, ↓hp.gb, hp.gb, ↓hbp.g0, ↓hbp.g1, ↓hbp.g2, ↓hbp.g3, ↓hbp.g4, ↓hbp.g5, ↓hX.g37_0, ↓hX.g37_1, ↓hX.g37_2, h24, hk, hi, eT, y1, ↓zB_c e1, zB_c e1, Bool.not_false, Bool.true_eq_false, c3, d3]
  have etk : (z_rlo P k i (z_sz (z_bd P k) i)).take 3 = z_exc P k i := List.take_of_length_le (by show (z_exc P k i).length ≤ 3; omega)
  rw [etk] at c1 c3
  have y3' : ¬ (2 : Int32) < nI (z_exc P k i).length := fun g => y3 ((nI_ltI (a := 2) (by decide) (by omega)).mp g)
  have eo : m1 (p + 4) k = nI (z_own P k) := by rw [(hp1.2.1.2.2 k hk hlk).1]; exact how.2
  have e91 := f91_sp hp hp1 hw how.1 name (nI (z_exc P k i).length)
  by_cases y4 : z_ham P (z_own P k) name (nI (z_exc P k i).length) = true
  · refine stay (-1) m1 (by decide) ?_ F1' F138 (by unfold z_exR; rw [if_neg y1, if_neg y2, if_neg y3, if_pos y4])
    rw [y4] at e91
    unfold f31
    simp (disch := ((try simp only [true_or, or_true, hp.k, hp.k1, hp.k2, hp.k3, hp.k4, hp.k5, hp.k6, hp.k7, hp.k8, hp.k9, hp.k10, hp.l1, hp.l2, hp.l3, hp.l4, hp.l5, hp.l6, hp.l7, hp.l8, hp.l9, hp.l10, hbp.k, hbp.k1, hbp.k2, hbp.k3, hbp.k4, hbp.k5, hbp.k6, hbp.l1, hbp.l2, hbp.l3, hbp.l4, hbp.l5, hbp.l6, hX.k37, h37k, h45k, hpk]) <;> (try omega))) only [↓reduceIte, ↓z_ite, ↓zR, ↓zB_R, ↓zB_B, ↓zB_ite, ↓zB_gI, ↓zB_pI, ↓zB_pZ, ↓zB_aK, ↓zB_G, ↓zB_lI, ↓zB_lZ, ↓zB_wI, ↓zB_wZ, ↓zB_lIl, ↓zB_wIl, zB_pI, zB_pZ, zB_lI, zB_lZ, zB_wI, zB_wZ, z_addl, z_ladd, z_mull, z_lmul, nI_add, z_subl, Nat.not_lt_zero, z_10, z_01, z_bitc, z_b0, z_b1, ↓zB_Gb, ↓zB_G0, ↓zB_G1, z_eql, z_leq, z_ltl, z_llt, z_eq, z_lt, z_m1lt, hp.k, hp.k1, hp.k2, hp.k3, hp.k4, hp.k5, hp.k6, hp.k7, hp.k8, hp.k9, hp.k10, hp.l1, hp.l2, hp.l3, hp.l4, hp.l5, hp.l6, hp.l7, hp.l8, hp.l9, hp.l10, hbp.k, hbp.k1, hbp.k2, hbp.k3, hbp.k4, hbp.k5, hbp.k6, hbp.l1, hbp.l2, hbp.l3, hbp.l4, hbp.l5, hbp.l6, hX.k37, h37k, h45k, hpk, ↓hp.g0, ↓hp.g1, ↓hp.g2, ↓hp.g3, ↓hp.g4, ↓hp.g5, ↓hp.g6, ↓hp.g7, ↓hp.g8, ↓hp.g9, ↓hp.gb, hp.gb, ↓hbp.g0, ↓hbp.g1, ↓hbp.g2, ↓hbp.g3, ↓hbp.g4, ↓hbp.g5, ↓hX.g37_0, ↓hX.g37_1, ↓hX.g37_2, h24, hk, hi, eT, y1, ↓zB_c e1, zB_c e1, Bool.not_false, Bool.true_eq_false, c3, y3', eo, ↓zB_c e91, zB_c e91, Bool.true_eq_false]
  have y4' : z_ham P (z_own P k) name (nI (z_exc P k i).length) = false := by simpa using y4
  rw [y4'] at e91
  have h11 := hp1.2.1.1
  by_cases y5 : ¬ z_nm P < 24
  · refine stay (-6) m1 (by decide) ?_ F1' F138 (by unfold z_exR; rw [if_neg y1, if_neg y2, if_neg y3, if_neg y4, if_pos y5])
    unfold f31
    simp (disch := ((try simp only [true_or, or_true, hp.k, hp.k1, hp.k2, hp.k3, hp.k4, hp.k5, hp.k6, hp.k7, hp.k8, hp.k9, hp.k10, hp.l1, hp.l2, hp.l3, hp.l4, hp.l5, hp.l6, hp.l7, hp.l8, hp.l9, hp.l10, hbp.k, hbp.k1, hbp.k2, hbp.k3, hbp.k4, hbp.k5, hbp.k6, hbp.l1, hbp.l2, hbp.l3, hbp.l4, hbp.l5, hbp.l6, hX.k37, h37k, h45k, hpk]) <;> (try omega))) only [↓reduceIte, ↓z_ite, ↓zR, ↓zB_R, ↓zB_B, ↓zB_ite, ↓zB_gI, ↓zB_pI, ↓zB_pZ, ↓zB_aK, ↓zB_G, ↓zB_lI, ↓zB_lZ, ↓zB_wI, ↓zB_wZ, ↓zB_lIl, ↓zB_wIl, zB_pI, zB_pZ, zB_lI, zB_lZ, zB_wI, zB_wZ, z_addl, z_ladd, z_mull, z_lmul, nI_add, z_subl, Nat.not_lt_zero, z_10, z_01, z_bitc, z_b0, z_b1, ↓zB_Gb, ↓zB_G0, ↓zB_G1, z_eql, z_leq, z_ltl, z_llt, z_eq, z_lt, z_m1lt, hp.k, hp.k1, hp.k2, hp.k3, hp.k4, hp.k5, hp.k6, hp.k7, hp.k8, hp.k9, hp.k10, hp.l1, hp.l2, hp.l3, hp.l4, hp.l5, hp.l6, hp.l7, hp.l8, hp.l9, hp.l10, hbp.k, hbp.k1, hbp.k2, hbp.k3, hbp.k4, hbp.k5, hbp.k6, hbp.l1, hbp.l2, hbp.l3, hbp.l4, hbp.l5, hbp.l6, hX.k37, h37k, h45k, hpk, ↓hp.g0, ↓hp.g1, ↓hp.g2, ↓hp.g3, ↓hp.g4, ↓hp.g5, ↓hp.g6, ↓hp.g7, ↓hp.g8, ↓hp.g9, ↓hp.gb, hp.gb, ↓hbp.g0, ↓hbp.g1, ↓hbp.g2, ↓hbp.g3, ↓hbp.g4, ↓hbp.g5, ↓hX.g37_0, ↓hX.g37_1, ↓hX.g37_2, h24, hk, hi, eT, y1, ↓zB_c e1, zB_c e1, Bool.not_false, Bool.true_eq_false, c3, y3', eo, ↓zB_c e91, zB_c e91, h11, y5]
  have y5' : z_nm P < 24 := by omega
  have hH : z_exH P k i (z_exc P k i) := ⟨⟨hw, h60, hR⟩, ⟨hk, hlk⟩, hi, ⟨rfl, by omega⟩, y2'⟩
  obtain ⟨m2, m6, a1, a2, cp6, f6, fr6⟩ := f31_113_sp hX hp hq lo2 hpq hp1 hT1 hq1 lo hH y5' (name := name) c1
  have er : z_exR P k i name = if z_big P (z_exD P k i name) (z_nm P) = true then -6 else nI (100 * z_nm P + z_exN P k i name (z_nm P)) := by
    unfold z_exR; rw [if_neg y1, if_neg y2, if_neg y3, if_neg y4, if_neg y5]
  have st : f31 37 p q (nI k) (nI i) name (z_hp S m) = f31_188 37 p q (nI k) (nI i) name (nI (z_own P k)) (nI (z_nm P)) 0 0 0 (z_hp S m6) := by
    rw [← a2]
    unfold f31
    simp (disch := ((try simp only [true_or, or_true, hp.k, hp.k1, hp.k2, hp.k3, hp.k4, hp.k5, hp.k6, hp.k7, hp.k8, hp.k9, hp.k10, hp.l1, hp.l2, hp.l3, hp.l4, hp.l5, hp.l6, hp.l7, hp.l8, hp.l9, hp.l10, hbp.k, hbp.k1, hbp.k2, hbp.k3, hbp.k4, hbp.k5, hbp.k6, hbp.l1, hbp.l2, hbp.l3, hbp.l4, hbp.l5, hbp.l6, hX.k37, h37k, h45k, hpk, hqk]) <;> (try omega))) only [↓reduceIte, ↓z_ite, ↓zR, ↓zB_R, ↓zB_B, ↓zB_ite, ↓zB_gI, ↓zB_pI, ↓zB_pZ, ↓zB_aK, ↓zB_G, ↓zB_lI, ↓zB_lZ, ↓zB_wI, ↓zB_wZ, ↓zB_lIl, ↓zB_wIl, zB_pI, zB_pZ, zB_lI, zB_lZ, zB_wI, zB_wZ, z_addl, z_ladd, z_mull, z_lmul, nI_add, z_subl, Nat.not_lt_zero, z_10, z_01, z_bitc, z_b0, z_b1, ↓zB_Gb, ↓zB_G0, ↓zB_G1, z_eql, z_leq, z_ltl, z_llt, z_eq, z_lt, z_m1lt, hp.k, hp.k1, hp.k2, hp.k3, hp.k4, hp.k5, hp.k6, hp.k7, hp.k8, hp.k9, hp.k10, hp.l1, hp.l2, hp.l3, hp.l4, hp.l5, hp.l6, hp.l7, hp.l8, hp.l9, hp.l10, hbp.k, hbp.k1, hbp.k2, hbp.k3, hbp.k4, hbp.k5, hbp.k6, hbp.l1, hbp.l2, hbp.l3, hbp.l4, hbp.l5, hbp.l6, hX.k37, h37k, h45k, hpk, hqk, ↓hp.g0, ↓hp.g1, ↓hp.g2, ↓hp.g3, ↓hp.g4, ↓hp.g5, ↓hp.g6, ↓hp.g7, ↓hp.g8, ↓hp.g9, ↓hp.gb, hp.gb, ↓hbp.g0, ↓hbp.g1, ↓hbp.g2, ↓hbp.g3, ↓hbp.g4, ↓hbp.g5, ↓hX.g37_0, ↓hX.g37_1, ↓hX.g37_2, h24, hk, hi, eT, y1, ↓zB_c e1, zB_c e1, Bool.not_false, Bool.true_eq_false, c3, y3', eo, ↓zB_c e91, zB_c e91, h11, y5', eT1, ↓zB_c a1, zB_c a1]
  have hsum : ∀ n, n ≤ z_nm P → z_exN P k i name n ≤ n * 60 := fun n hn2 => z_sl_le n (fun j hj hlj => by
    by_cases g : z_own P j = z_own P k
    · rw [if_pos g]; exact (z_exB_wB hH (show j < z_nm P by omega) hlj g.symm hn).2.2
    · rw [if_neg g]; exact Nat.zero_le _)
  obtain ⟨hw2, hb2⟩ := z_ex1_wf hH hn y5' y1 y4
  have F6 : z_oF q m m6 := (z_52_oF (q := q) F1' F138).trans ⟨fun a _ _ x => fr6 a x, by rw [fr6 22 (by omega)], by rw [fr6 30 (by omega)], by rw [fr6 38 (by omega)], by rw [fr6 54 (by omega)]⟩
  unfold f31_188 at st
  have key := z_loopI (f := fun s => f31_188b (s.1) (s.2.1) (s.2.2.1) (s.2.2.2.1) (s.2.2.2.2.1) (s.2.2.2.2.2.1) (s.2.2.2.2.2.2.1) (s.2.2.2.2.2.2.2.1) (s.2.2.2.2.2.2.2.2.1) (s.2.2.2.2.2.2.2.2.2.1) (s.2.2.2.2.2.2.2.2.2.2)) (S := S) (fun n st m' => ∃ j, n = z_nm P - j ∧ j ≤ z_nm P ∧ st = (37, p, q, nI k, nI i, name, nI (z_own P k), nI (z_nm P), nI (z_exN P k i name j), z_b (z_big P (z_exD P k i name) j), nI j) ∧ (z_big P (z_exD P k i name) j = false → z_cp m' q (z_mix (z_ex1 P k i name) (z_hd (z_ex1 P k i name)) (z_exD P k i name) j)) ∧ z_rm60 m' q ∧ z_lc m' 45 (z_exc P k i) ∧ m' q 14 = 0 ∧ z_oF q m m') (fun r m' => r = z_exR P k i name ∧ (z_big P (z_exD P k i name) (z_nm P) = false → z_cp m' q (z_exQ P k i name)) ∧ z_rm60 m' q ∧ m' q 14 = 0 ∧ z_oF q m m') ?_ 1000000 (z_nm P) (37, p, q, nI k, nI i, name, nI (z_own P k), nI (z_nm P), 0, 0, 0) m6 ⟨0, rfl, Nat.zero_le _, rfl, fun _ => by rw [z_mix_0]; exact cp6, cp6.2.2.1, z_lc_fr (fun a x1 x2 => fr6 a (by omega)) c1, f6, F6⟩ (by omega)
  · obtain ⟨r, m', e, rfl, g1, g2, g3, g4⟩ := key
    refine ⟨m', st.trans e, fun hr => ?_, g2, g4⟩
    refine z_PK_0 (g1 ?_) g3
    rw [er] at hr
    cases hb : z_big P (z_exD P k i name) (z_nm P) with
    | false => rfl
    | true => rw [hb, if_pos rfl] at hr; exact absurd (by decide) hr
  · rintro n st m3 ⟨j, rfl, hj, rfl, g1, g2, g3, g4, g5⟩
    have hcp3 : z_cp m3 p P := g5.cp hw lo hpq hcp
    have hT3 : z_LT m3 p P := g5.LT hw lo hpq hT
    have h01 := hcp3.2.1.1
    have hsj := hsum j hj
    dsimp only
    rcases Nat.eq_or_lt_of_le hj with hj2 | hj2
    · refine Or.inr ⟨_, m3, ?_, rfl, by rw [hj2] at g1; exact g1, g2, g4, g5⟩
      rw [er, hj2]
      unfold f31_188b f31_264 f31_282
      cases hb : z_big P (z_exD P k i name) (z_nm P) with
      | false =>
        rw [if_neg Bool.false_ne_true]
        simp (disch := ((try simp only [true_or, or_true, hp.k, hp.k1, hp.k2, hp.k3, hp.k4, hp.k5, hp.k6, hp.k7, hp.k8, hp.k9, hp.k10, hp.l1, hp.l2, hp.l3, hp.l4, hp.l5, hp.l6, hp.l7, hp.l8, hp.l9, hp.l10]) <;> (try omega))) only [↓reduceIte, ↓z_ite, ↓zR, ↓zB_R, ↓zB_B, ↓zB_ite, ↓zB_gI, ↓zB_pI, ↓zB_pZ, ↓zB_aK, ↓zB_G, ↓zB_lI, ↓zB_lZ, ↓zB_wI, ↓zB_wZ, ↓zB_lIl, ↓zB_wIl, zB_pI, zB_pZ, zB_lI, zB_lZ, zB_wI, zB_wZ, z_addl, z_ladd, z_mull, z_lmul, nI_add, z_subl, Nat.not_lt_zero, z_10, z_01, z_bitc, z_b0, z_b1, ↓zB_Gb, ↓zB_G0, ↓zB_G1, z_eql, z_leq, z_ltl, z_llt, z_eq, z_lt, z_m1lt, hp.k, hp.k1, hp.k2, hp.k3, hp.k4, hp.k5, hp.k6, hp.k7, hp.k8, hp.k9, hp.k10, hp.l1, hp.l2, hp.l3, hp.l4, hp.l5, hp.l6, hp.l7, hp.l8, hp.l9, hp.l10, ↓hp.g0, ↓hp.g1, ↓hp.g2, ↓hp.g3, ↓hp.g4, ↓hp.g5, ↓hp.g6, ↓hp.g7, ↓hp.g8, ↓hp.g9, ↓hp.gb, hp.gb, h01, Nat.lt_irrefl]
      | true =>
        rw [if_pos rfl]
        simp (disch := ((try simp only [true_or, or_true, hp.k, hp.k1, hp.k2, hp.k3, hp.k4, hp.k5, hp.k6, hp.k7, hp.k8, hp.k9, hp.k10, hp.l1, hp.l2, hp.l3, hp.l4, hp.l5, hp.l6, hp.l7, hp.l8, hp.l9, hp.l10]) <;> (try omega))) only [↓reduceIte, ↓z_ite, ↓zR, ↓zB_R, ↓zB_B, ↓zB_ite, ↓zB_gI, ↓zB_pI, ↓zB_pZ, ↓zB_aK, ↓zB_G, ↓zB_lI, ↓zB_lZ, ↓zB_wI, ↓zB_wZ, ↓zB_lIl, ↓zB_wIl, zB_pI, zB_pZ, zB_lI, zB_lZ, zB_wI, zB_wZ, z_addl, z_ladd, z_mull, z_lmul, nI_add, z_subl, Nat.not_lt_zero, z_10, z_01, z_bitc, z_b0, z_b1, ↓zB_Gb, ↓zB_G0, ↓zB_G1, z_eql, z_leq, z_ltl, z_llt, z_eq, z_lt, z_m1lt, hp.k, hp.k1, hp.k2, hp.k3, hp.k4, hp.k5, hp.k6, hp.k7, hp.k8, hp.k9, hp.k10, hp.l1, hp.l2, hp.l3, hp.l4, hp.l5, hp.l6, hp.l7, hp.l8, hp.l9, hp.l10, ↓hp.g0, ↓hp.g1, ↓hp.g2, ↓hp.g3, ↓hp.g4, ↓hp.g5, ↓hp.g6, ↓hp.g7, ↓hp.g8, ↓hp.g9, ↓hp.gb, hp.gb, h01, Nat.lt_irrefl, Bool.true_eq_false]
    · have e79 := f79_sp hp hcp3 (k := j) (by omega)
      have ethr : z_thr P j = z_liv P j := by unfold z_thr; rw [decide_eq_true hj2, Bool.true_and]
      rw [ethr] at e79
      have hl2 : z_liv (z_ex1 P k i name) j = z_liv P j := z_ex1_liv hj2
      have ebs := z_big_s P (z_exD P k i name) j
      have ens : z_exN P k i name (j + 1) = z_exN P k i name j + (if z_liv P j = true then (if z_own P j = z_own P k then z_exK P k i (z_exc P k i) j name else 0) else 0) := z_sl_s _ _ _
      cases glj : z_liv P j with
      | false =>
        rw [glj] at e79 hl2 ebs ens
        rw [Bool.false_and, Bool.or_false] at ebs
        rw [if_neg (by decide), Nat.add_zero] at ens
        refine Or.inl ⟨_, m3, z_nm P - (j + 1), ?_, by omega, j + 1, rfl, hj2, rfl, fun y => by rw [z_mix_n hl2]; exact g1 (ebs ▸ y), g2, g3, g4, g5⟩
        rw [ens, ebs]
        unfold f31_188b f31_258
        simp (disch := ((try simp only [true_or, or_true, hp.k, hp.k1, hp.k2, hp.k3, hp.k4, hp.k5, hp.k6, hp.k7, hp.k8, hp.k9, hp.k10, hp.l1, hp.l2, hp.l3, hp.l4, hp.l5, hp.l6, hp.l7, hp.l8, hp.l9, hp.l10, hpk]) <;> (try omega))) only [↓reduceIte, ↓z_ite, ↓zR, ↓zB_R, ↓zB_B, ↓zB_ite, ↓zB_gI, ↓zB_pI, ↓zB_pZ, ↓zB_aK, ↓zB_G, ↓zB_lI, ↓zB_lZ, ↓zB_wI, ↓zB_wZ, ↓zB_lIl, ↓zB_wIl, zB_pI, zB_pZ, zB_lI, zB_lZ, zB_wI, zB_wZ, z_addl, z_ladd, z_mull, z_lmul, nI_add, z_subl, Nat.not_lt_zero, z_10, z_01, z_bitc, z_b0, z_b1, ↓zB_Gb, ↓zB_G0, ↓zB_G1, z_eql, z_leq, z_ltl, z_llt, z_eq, z_lt, z_m1lt, hp.k, hp.k1, hp.k2, hp.k3, hp.k4, hp.k5, hp.k6, hp.k7, hp.k8, hp.k9, hp.k10, hp.l1, hp.l2, hp.l3, hp.l4, hp.l5, hp.l6, hp.l7, hp.l8, hp.l9, hp.l10, hpk, ↓hp.g0, ↓hp.g1, ↓hp.g2, ↓hp.g3, ↓hp.g4, ↓hp.g5, ↓hp.g6, ↓hp.g7, ↓hp.g8, ↓hp.g9, ↓hp.gb, hp.gb, h01, hj2, ↓zB_c e79, zB_c e79, Nat.add_zero]
      | true =>
        rw [glj] at e79 hl2 ebs ens
        rw [if_pos rfl] at ens
        have eoj : m3 (p + 4) j = nI (z_own P j) := by rw [(hcp3.2.1.2.2 j hj2 glj).1]; exact (z_own_e hw hj2).2
        have hoj := (z_own_e hw hj2).1
        by_cases go : z_own P j = z_own P k
        · rw [if_pos go] at ens
          have eD := z_exB_in (P := P) (k := k) (i := i) (name := name) go
          obtain ⟨bw, bl, bk⟩ := z_exB_wB hH hj2 glj go.symm hn
          obtain ⟨m4, e33, b1, b2, b3⟩ := f33_sp hX hp lo hcp3 hT3 hH hj2 glj go.symm hn g3 (by rw [g5.2.2.2.1]; exact hsh.2.2.1)
          obtain ⟨m5, e7, t1, t2, t3⟩ := z_take hq h38 (by omega) (j := j) (by omega) (m := m4) (fun k hk => by rw [b3 _ (by unfold z_bi; omega)]; exact g2 k hk) b1
          have hb0 := hq.B (k := j) (by omega)
          have hb0k := hb0.k
          have F5 : z_oF q m m5 := (g5.trans (z_52_oF (q := q) b3 (by rw [b1.1, g5.2.2.2.1, hsh.2.2.1]))).trans (z_bF.oF2 (by omega) lo2 t2)
          have g35 : z_lc m5 45 (z_exc P k i) := z_lc_fr (fun a x1 x2 => t2.at (by unfold z_bi; omega)) b2
          have g45 : m5 q 14 = 0 := by rw [t2.at (by unfold z_bi; omega), b3 q (by omega)]; exact g4
          rw [eD] at ebs
          refine Or.inl ⟨_, m5, z_nm P - (j + 1), ?_, by omega, j + 1, rfl, hj2, rfl, fun y => ?_, t1, g35, g45, F5⟩
          · rw [ens, ebs]
            unfold f31_188b f31_258
            by_cases gb : (z_exB P k i (z_exc P k i) j name).length ≤ 60
            · rw [decide_eq_true gb] at e7
              rw [show decide (60 < (z_exB P k i (z_exc P k i) j name).length) = false from decide_eq_false (by omega), Bool.and_false, Bool.or_false]
              simp (disch := ((try simp only [true_or, or_true, hp.k, hp.k1, hp.k2, hp.k3, hp.k4, hp.k5, hp.k6, hp.k7, hp.k8, hp.k9, hp.k10, hp.l1, hp.l2, hp.l3, hp.l4, hp.l5, hp.l6, hp.l7, hp.l8, hp.l9, hp.l10, hq.k, hq.k1, hq.k2, hq.k3, hq.k4, hq.k5, hq.k6, hq.k7, hq.k8, hq.k9, hq.k10, hq.l1, hq.l2, hq.l3, hq.l4, hq.l5, hq.l6, hq.l7, hq.l8, hq.l9, hq.l10, hX.k37, hpk, h37k, hb0k]) <;> (try omega))) only [↓reduceIte, ↓z_ite, ↓zR, ↓zB_R, ↓zB_B, ↓zB_ite, ↓zB_gI, ↓zB_pI, ↓zB_pZ, ↓zB_aK, ↓zB_G, ↓zB_lI, ↓zB_lZ, ↓zB_wI, ↓zB_wZ, ↓zB_lIl, ↓zB_wIl, zB_pI, zB_pZ, zB_lI, zB_lZ, zB_wI, zB_wZ, z_addl, z_ladd, z_mull, z_lmul, nI_add, z_subl, Nat.not_lt_zero, z_10, z_01, z_bitc, z_b0, z_b1, ↓zB_Gb, ↓zB_G0, ↓zB_G1, z_eql, z_leq, z_ltl, z_llt, z_eq, z_lt, z_m1lt, hp.k, hp.k1, hp.k2, hp.k3, hp.k4, hp.k5, hp.k6, hp.k7, hp.k8, hp.k9, hp.k10, hp.l1, hp.l2, hp.l3, hp.l4, hp.l5, hp.l6, hp.l7, hp.l8, hp.l9, hp.l10, hq.k, hq.k1, hq.k2, hq.k3, hq.k4, hq.k5, hq.k6, hq.k7, hq.k8, hq.k9, hq.k10, hq.l1, hq.l2, hq.l3, hq.l4, hq.l5, hq.l6, hq.l7, hq.l8, hq.l9, hq.l10, hX.k37, hpk, h37k, hb0k, ↓hp.g0, ↓hp.g1, ↓hp.g2, ↓hp.g3, ↓hp.g4, ↓hp.g5, ↓hp.g6, ↓hp.g7, ↓hp.g8, ↓hp.g9, ↓hp.gb, hp.gb, ↓hq.g0, ↓hq.g1, ↓hq.g2, ↓hq.g3, ↓hq.g4, ↓hq.g5, ↓hq.g6, ↓hq.g7, ↓hq.g8, ↓hq.g9, ↓hq.gb, hq.gb, ↓hX.g37_0, ↓hX.g37_1, ↓hX.g37_2, h24, h01, hj2, ↓zB_c e79, zB_c e79, eoj, go, ↓zB_c e33, zB_c e33, ↓zB_c e7, zB_c e7, Bool.true_eq_false]
            · rw [decide_eq_false gb] at e7
              rw [show decide (60 < (z_exB P k i (z_exc P k i) j name).length) = true from decide_eq_true (by omega), Bool.and_true, Bool.or_true]
              simp (disch := ((try simp only [true_or, or_true, hp.k, hp.k1, hp.k2, hp.k3, hp.k4, hp.k5, hp.k6, hp.k7, hp.k8, hp.k9, hp.k10, hp.l1, hp.l2, hp.l3, hp.l4, hp.l5, hp.l6, hp.l7, hp.l8, hp.l9, hp.l10, hq.k, hq.k1, hq.k2, hq.k3, hq.k4, hq.k5, hq.k6, hq.k7, hq.k8, hq.k9, hq.k10, hq.l1, hq.l2, hq.l3, hq.l4, hq.l5, hq.l6, hq.l7, hq.l8, hq.l9, hq.l10, hX.k37, hpk, h37k, hb0k]) <;> (try omega))) only [↓reduceIte, ↓z_ite, ↓zR, ↓zB_R, ↓zB_B, ↓zB_ite, ↓zB_gI, ↓zB_pI, ↓zB_pZ, ↓zB_aK, ↓zB_G, ↓zB_lI, ↓zB_lZ, ↓zB_wI, ↓zB_wZ, ↓zB_lIl, ↓zB_wIl, zB_pI, zB_pZ, zB_lI, zB_lZ, zB_wI, zB_wZ, z_addl, z_ladd, z_mull, z_lmul, nI_add, z_subl, Nat.not_lt_zero, z_10, z_01, z_bitc, z_b0, z_b1, ↓zB_Gb, ↓zB_G0, ↓zB_G1, z_eql, z_leq, z_ltl, z_llt, z_eq, z_lt, z_m1lt, hp.k, hp.k1, hp.k2, hp.k3, hp.k4, hp.k5, hp.k6, hp.k7, hp.k8, hp.k9, hp.k10, hp.l1, hp.l2, hp.l3, hp.l4, hp.l5, hp.l6, hp.l7, hp.l8, hp.l9, hp.l10, hq.k, hq.k1, hq.k2, hq.k3, hq.k4, hq.k5, hq.k6, hq.k7, hq.k8, hq.k9, hq.k10, hq.l1, hq.l2, hq.l3, hq.l4, hq.l5, hq.l6, hq.l7, hq.l8, hq.l9, hq.l10, hX.k37, hpk, h37k, hb0k, ↓hp.g0, ↓hp.g1, ↓hp.g2, ↓hp.g3, ↓hp.g4, ↓hp.g5, ↓hp.g6, ↓hp.g7, ↓hp.g8, ↓hp.g9, ↓hp.gb, hp.gb, ↓hq.g0, ↓hq.g1, ↓hq.g2, ↓hq.g3, ↓hq.g4, ↓hq.g5, ↓hq.g6, ↓hq.g7, ↓hq.g8, ↓hq.g9, ↓hq.gb, hq.gb, ↓hX.g37_0, ↓hX.g37_1, ↓hX.g37_2, h24, h01, hj2, ↓zB_c e79, zB_c e79, eoj, go, ↓zB_c e33, zB_c e33, ↓zB_c e7, zB_c e7, Bool.true_eq_false]
              rfl
          · rw [ebs] at y
            have y1' : z_big P (z_exD P k i name) j = false := by
              cases hb : z_big P (z_exD P k i name) j with
              | false => rfl
              | true => rw [hb] at y; cases y
            rw [y1', Bool.false_or, Bool.true_and] at y
            have gb : (z_exB P k i (z_exc P k i) j name).length ≤ 60 := by
              have := of_decide_eq_false y; omega
            have hcq4 : z_cp m4 q (z_mix (z_ex1 P k i name) (z_hd (z_ex1 P k i name)) (z_exD P k i name) j) := z_cp_fr (show z_nm P + 1 ≤ 24 by omega) (fun a x1 x2 => b3 a (by omega)) (fun k hk a x1 x2 => b3 a (by unfold z_bi at x1; omega)) (g1 y1')
            have hmh : ∀ k' w, z_hd (z_mix (z_ex1 P k i name) (z_hd (z_ex1 P k i name)) (z_exD P k i name) j) k' w = z_hd (z_ex1 P k i name) k' w := fun k' w => by
              rw [z_mix_hd]; split <;> rfl
            have := t3 _ hcq4 (fun k' hk' => by
              have := (hw2.2.2.2.1 k' hk').2.2.2.1.1
              unfold z_cnt at *
              rw [hmh]; exact this) (show j < z_nm P + 1 by omega) (by unfold z_liv; rw [hmh]; exact hl2) gb
            rw [z_mix_s hl2, eD]
            rw [show z_hd (z_mix (z_ex1 P k i name) (z_hd (z_ex1 P k i name)) (z_exD P k i name) j) j = z_hd (z_ex1 P k i name) j from funext (hmh j)] at this
            exact this
        · rw [if_neg go, Nat.add_zero] at ens
          have eD := z_exB_id (P := P) (k := k) (i := i) (name := name) go
          rw [eD, show decide (60 < (z_bd P j).length) = false from decide_eq_false (by have := h60 j hj2; omega), Bool.and_false, Bool.or_false] at ebs
          have go2 : ¬ nI (z_own P j) = nI (z_own P k) := fun y => go ((nI_eq (by omega) (by omega)).mp y)
          refine Or.inl ⟨_, m3, z_nm P - (j + 1), ?_, by omega, j + 1, rfl, hj2, rfl, fun y => by rw [z_mix_same hl2 (by rw [eD]; exact (z_ex1_bd hj2).symm)]; exact g1 (ebs ▸ y), g2, g3, g4, g5⟩
          rw [ens, ebs]
          unfold f31_188b f31_258
          simp (disch := ((try simp only [true_or, or_true, hp.k, hp.k1, hp.k2, hp.k3, hp.k4, hp.k5, hp.k6, hp.k7, hp.k8, hp.k9, hp.k10, hp.l1, hp.l2, hp.l3, hp.l4, hp.l5, hp.l6, hp.l7, hp.l8, hp.l9, hp.l10, hpk]) <;> (try omega))) only [↓reduceIte, ↓z_ite, ↓zR, ↓zB_R, ↓zB_B, ↓zB_ite, ↓zB_gI, ↓zB_pI, ↓zB_pZ, ↓zB_aK, ↓zB_G, ↓zB_lI, ↓zB_lZ, ↓zB_wI, ↓zB_wZ, ↓zB_lIl, ↓zB_wIl, zB_pI, zB_pZ, zB_lI, zB_lZ, zB_wI, zB_wZ, z_addl, z_ladd, z_mull, z_lmul, nI_add, z_subl, Nat.not_lt_zero, z_10, z_01, z_bitc, z_b0, z_b1, ↓zB_Gb, ↓zB_G0, ↓zB_G1, z_eql, z_leq, z_ltl, z_llt, z_eq, z_lt, z_m1lt, hp.k, hp.k1, hp.k2, hp.k3, hp.k4, hp.k5, hp.k6, hp.k7, hp.k8, hp.k9, hp.k10, hp.l1, hp.l2, hp.l3, hp.l4, hp.l5, hp.l6, hp.l7, hp.l8, hp.l9, hp.l10, hpk, ↓hp.g0, ↓hp.g1, ↓hp.g2, ↓hp.g3, ↓hp.g4, ↓hp.g5, ↓hp.g6, ↓hp.g7, ↓hp.g8, ↓hp.g9, ↓hp.gb, hp.gb, h24, h01, hj2, ↓zB_c e79, zB_c e79, eoj, go2, Bool.true_eq_false, Nat.add_zero]
noncomputable def z_oext (A : z_A) (k i x : Int32) : (Int32 ⊕ Nat) × z_A :=
  if z_hm A.2.1 k = false then (.inr 2, A)
  else if z_in i (z_bd A.2.1 k.toNatClampNeg).length = false then (.inr 2, A)
  else if z_in x 16 = false then (.inr 1, A)
  else if z_wr A.2.1 = -1 then z_rf A (z_exR A.2.1 k.toNatClampNeg i.toNatClampNeg x) (z_exQ A.2.1 k.toNatClampNeg i.toNatClampNeg x)
  else (.inr 0, A)
theorem c_ext (hw : z_WA A) (h : z_CR S m A) (k i x : Int32) : ∃ S1 m1, f144 0 k i x (z_hp S m) = some ((z_oext A k i x).1, z_hp S1 m1) ∧ z_CR S1 m1 (z_oext A k i x).2 ∧ z_SS S S1 ∧ ∀ a, 2390 ≤ a → m1 a = m a := by
  have h0 := h
  obtain ⟨sn, sx, sp, hI, hCM⟩ := h0
  have hX := hI.1
  have hp := hI.2.2.1 sn hI.2.2.2.1.1
  have hn := hI.2.2.2.2.2.1
  have hc := hCM.2.2.1.1.1
  have hwf := hw.2.1.1
  have h24 := hwf.2.2.1
  unfold z_oext
  by_cases g1 : z_hm A.2.1 k = false
  · rw [if_pos g1]
    refine ⟨z_Sx S, m, ?_, z_CR_x h, z_SS.x S, fun _ _ => rfl⟩
    have e1 := f165_n hX hp hc hwf g1
    unfold f144
    simp (disch := ((try simp only [true_or, or_true, hX.k0, hX.k1, hX.k2, hX.k3, hX.k4, hX.k5, hX.k6, hX.k7, hX.l2, hX.l3, hX.l4, hX.l5, hX.l6, hX.l7]) <;> (try omega))) only [↓reduceIte, ↓z_ite, ↓zR, ↓zB_R, ↓zB_B, ↓zB_ite, ↓zB_gI, ↓zB_pI, ↓zB_pZ, ↓zB_aK, ↓zB_G, ↓zB_lI, ↓zB_lZ, ↓zB_wI, ↓zB_wZ, ↓zB_lIl, ↓zB_wIl, zB_pI, zB_pZ, zB_lI, zB_lZ, zB_wI, zB_wZ, z_addl, z_ladd, z_mull, z_lmul, nI_add, z_subl, Nat.not_lt_zero, z_10, z_01, z_bitc, z_b0, z_b1, ↓zB_Gb, ↓zB_G0, ↓zB_G1, z_eql, z_leq, z_ltl, z_llt, z_eq, z_lt, z_m1lt, hX.k0, hX.k1, hX.k2, hX.k3, hX.k4, hX.k5, hX.k6, hX.k7, hX.l2, hX.l3, hX.l4, hX.l5, hX.l6, hX.l7, ↓hX.g0_0, ↓hX.g0_1, ↓hX.g0_2, ↓hX.g0_3, ↓hX.g0_4, ↓hX.g0_5, ↓hX.g0_6, ↓hX.g0_7, ↓hX.g0_8, ↓hX.g0_9, ↓hX.g1_0, ↓hX.g1_1, ↓hX.g1_2, ↓hX.g1_3, ↓hX.g1_4, ↓hX.g1_5, ↓z_gnow hX hn, z_gnow hX hn, ↓zT_r e1, zT_r e1]
  rw [if_neg g1]
  have g1' := z_not_false g1
  have e1 := f165_y hX hp hc hwf g1'
  obtain ⟨k', hk', hl, rfl⟩ := (z_hm_iff hwf).mp g1'
  rw [nI_clamp (show k' < 2 ^ 31 by omega)]
  have hlen := hw.2.1.2 k' hk'
  by_cases g2 : z_in i (z_bd A.2.1 k').length = false
  · rw [if_pos g2]
    refine ⟨z_Sx S, m, ?_, z_CR_x h, z_SS.x S, fun _ _ => rfl⟩
    have e2 := f166_n hX hn hp hc hwf hk' hl g2
    unfold f144
    simp (disch := ((try simp only [true_or, or_true, hX.k0, hX.k1, hX.k2, hX.k3, hX.k4, hX.k5, hX.k6, hX.k7, hX.l2, hX.l3, hX.l4, hX.l5, hX.l6, hX.l7]) <;> (try omega))) only [↓reduceIte, ↓z_ite, ↓zR, ↓zB_R, ↓zB_B, ↓zB_ite, ↓zB_gI, ↓zB_pI, ↓zB_pZ, ↓zB_aK, ↓zB_G, ↓zB_lI, ↓zB_lZ, ↓zB_wI, ↓zB_wZ, ↓zB_lIl, ↓zB_wIl, zB_pI, zB_pZ, zB_lI, zB_lZ, zB_wI, zB_wZ, z_addl, z_ladd, z_mull, z_lmul, nI_add, z_subl, Nat.not_lt_zero, z_10, z_01, z_bitc, z_b0, z_b1, ↓zB_Gb, ↓zB_G0, ↓zB_G1, z_eql, z_leq, z_ltl, z_llt, z_eq, z_lt, z_m1lt, hX.k0, hX.k1, hX.k2, hX.k3, hX.k4, hX.k5, hX.k6, hX.k7, hX.l2, hX.l3, hX.l4, hX.l5, hX.l6, hX.l7, ↓hX.g0_0, ↓hX.g0_1, ↓hX.g0_2, ↓hX.g0_3, ↓hX.g0_4, ↓hX.g0_5, ↓hX.g0_6, ↓hX.g0_7, ↓hX.g0_8, ↓hX.g0_9, ↓hX.g1_0, ↓hX.g1_1, ↓hX.g1_2, ↓hX.g1_3, ↓hX.g1_4, ↓hX.g1_5, ↓z_gnow hX hn, z_gnow hX hn, ↓zT_l e1, zT_l e1, ↓zT_r e2, zT_r e2]
  rw [if_neg g2]
  obtain ⟨i', hi', rfl⟩ := (z_in_iff (by omega)).mp (z_not_false g2)
  rw [nI_clamp (show i' < 2 ^ 31 by omega)]
  have e2 := f166_y hX hn hp hc hwf hk' hl hi'
  by_cases g4 : z_in x 16 = false
  · rw [if_pos g4]
    refine ⟨z_Sx S, m, ?_, z_CR_x h, z_SS.x S, fun _ _ => rfl⟩
    unfold f144
    simp (disch := ((try simp only [true_or, or_true, hX.k0, hX.k1, hX.k2, hX.k3, hX.k4, hX.k5, hX.k6, hX.k7, hX.l2, hX.l3, hX.l4, hX.l5, hX.l6, hX.l7]) <;> (try omega))) only [↓reduceIte, ↓z_ite, ↓zR, ↓zB_R, ↓zB_B, ↓zB_ite, ↓zB_gI, ↓zB_pI, ↓zB_pZ, ↓zB_aK, ↓zB_G, ↓zB_lI, ↓zB_lZ, ↓zB_wI, ↓zB_wZ, ↓zB_lIl, ↓zB_wIl, zB_pI, zB_pZ, zB_lI, zB_lZ, zB_wI, zB_wZ, z_addl, z_ladd, z_mull, z_lmul, nI_add, z_subl, Nat.not_lt_zero, z_10, z_01, z_bitc, z_b0, z_b1, ↓zB_Gb, ↓zB_G0, ↓zB_G1, z_eql, z_leq, z_ltl, z_llt, z_eq, z_lt, z_m1lt, hX.k0, hX.k1, hX.k2, hX.k3, hX.k4, hX.k5, hX.k6, hX.k7, hX.l2, hX.l3, hX.l4, hX.l5, hX.l6, hX.l7, ↓hX.g0_0, ↓hX.g0_1, ↓hX.g0_2, ↓hX.g0_3, ↓hX.g0_4, ↓hX.g0_5, ↓hX.g0_6, ↓hX.g0_7, ↓hX.g0_8, ↓hX.g0_9, ↓hX.g1_0, ↓hX.g1_1, ↓hX.g1_2, ↓hX.g1_3, ↓hX.g1_4, ↓hX.g1_5, ↓z_gnow hX hn, z_gnow hX hn, ↓zT_l e1, zT_l e1, ↓zT_l e2, zT_l e2, ↓zT_r (f160_n (S := S) (m := m) g4), zT_r (f160_n (S := S) (m := m) g4)]
  rw [if_neg g4]
  obtain ⟨x', hx', rfl⟩ := (z_in_iff (by decide)).mp (z_not_false g4)
  have e5 := f160_y (S := S) (m := m) hx'
  by_cases g3 : z_wr A.2.1 = -1
  · rw [if_pos g3]
    obtain ⟨m1, e3, c1, r1, f14⟩ := c_rr_y hw hI hCM g3
    obtain ⟨S', m', e4, d1, d2, d3⟩ := c_tail hw hI c1 g3 f14 (ob := 37) (kd := 2) hX.k37 (OP := fun q => f31 37 (z_pid sn) q (nI k') (nI i') (nI x')) (r := z_exR A.2.1 k' i' (nI x')) (Q := z_exQ A.2.1 k' i' (nI x')) (fun m2 hpre => f31_sp hpre hwf hw.2.1.2 (z_RT_wr hwf g3) hk' hl hi' ⟨x', hx', rfl⟩)
    refine ⟨S', m', ?_, d1, d2, fun a ha => (d3 a ha).trans (r1 a ha)⟩
    unfold f144
    simp (disch := ((try simp only [true_or, or_true, hX.k0, hX.k8, hX.k9, hX.l9, hp.k, hp.k1, hp.k2, hp.k3, hp.k4, hp.k5, hp.k6, hp.k7, hp.k8, hp.k9, hp.k10, hp.l1, hp.l2, hp.l3, hp.l4, hp.l5, hp.l6, hp.l7, hp.l8, hp.l9, hp.l10]) <;> (try omega))) only [↓reduceIte, ↓z_ite, ↓zR, ↓zB_R, ↓zB_B, ↓zB_ite, ↓zB_gI, ↓zB_pI, ↓zB_pZ, ↓zB_aK, ↓zB_G, ↓zB_lI, ↓zB_lZ, ↓zB_wI, ↓zB_wZ, ↓zB_lIl, ↓zB_wIl, zB_pI, zB_pZ, zB_lI, zB_lZ, zB_wI, zB_wZ, z_addl, z_ladd, z_mull, z_lmul, nI_add, z_subl, Nat.not_lt_zero, z_10, z_01, z_bitc, z_b0, z_b1, ↓zB_Gb, ↓zB_G0, ↓zB_G1, z_eql, z_leq, z_ltl, z_llt, z_eq, z_lt, z_m1lt, hX.k0, hX.k8, hX.k9, hX.l9, hp.k, hp.k1, hp.k2, hp.k3, hp.k4, hp.k5, hp.k6, hp.k7, hp.k8, hp.k9, hp.k10, hp.l1, hp.l2, hp.l3, hp.l4, hp.l5, hp.l6, hp.l7, hp.l8, hp.l9, hp.l10, ↓hX.g0_0, ↓hX.g0_1, ↓hX.g0_2, ↓hX.g0_3, ↓hX.g0_4, ↓hX.g0_5, ↓hX.g0_6, ↓hX.g0_7, ↓hX.g0_8, ↓hX.g0_9, ↓hX.g8_0, ↓hp.g0, ↓hp.g1, ↓hp.g2, ↓hp.g3, ↓hp.g4, ↓hp.g5, ↓hp.g6, ↓hp.g7, ↓hp.g8, ↓hp.g9, ↓hp.gb, hp.gb, ↓z_gnow hX hn, z_gnow hX hn, ↓zT_l e1, zT_l e1, ↓zT_l e2, zT_l e2, ↓zT_l e5, zT_l e5, ↓zT_l e3, zT_l e3]
    exact e4
  · rw [if_neg g3]
    obtain ⟨m1, e3, c1, r1⟩ := c_rr_n hw hI hCM g3
    refine ⟨z_Sx S, m1, ?_, ⟨sn, sx, sp, hI, c1⟩, z_SS.x S, r1⟩
    unfold f144
    simp (disch := ((try simp only [true_or, or_true, hX.k0, hX.k8, hX.k9, hX.l9, hp.k, hp.k1, hp.k2, hp.k3, hp.k4, hp.k5, hp.k6, hp.k7, hp.k8, hp.k9, hp.k10, hp.l1, hp.l2, hp.l3, hp.l4, hp.l5, hp.l6, hp.l7, hp.l8, hp.l9, hp.l10]) <;> (try omega))) only [↓reduceIte, ↓z_ite, ↓zR, ↓zB_R, ↓zB_B, ↓zB_ite, ↓zB_gI, ↓zB_pI, ↓zB_pZ, ↓zB_aK, ↓zB_G, ↓zB_lI, ↓zB_lZ, ↓zB_wI, ↓zB_wZ, ↓zB_lIl, ↓zB_wIl, zB_pI, zB_pZ, zB_lI, zB_lZ, zB_wI, zB_wZ, z_addl, z_ladd, z_mull, z_lmul, nI_add, z_subl, Nat.not_lt_zero, z_10, z_01, z_bitc, z_b0, z_b1, ↓zB_Gb, ↓zB_G0, ↓zB_G1, z_eql, z_leq, z_ltl, z_llt, z_eq, z_lt, z_m1lt, hX.k0, hX.k8, hX.k9, hX.l9, hp.k, hp.k1, hp.k2, hp.k3, hp.k4, hp.k5, hp.k6, hp.k7, hp.k8, hp.k9, hp.k10, hp.l1, hp.l2, hp.l3, hp.l4, hp.l5, hp.l6, hp.l7, hp.l8, hp.l9, hp.l10, ↓hX.g0_0, ↓hX.g0_1, ↓hX.g0_2, ↓hX.g0_3, ↓hX.g0_4, ↓hX.g0_5, ↓hX.g0_6, ↓hX.g0_7, ↓hX.g0_8, ↓hX.g0_9, ↓hX.g8_0, ↓hp.g0, ↓hp.g1, ↓hp.g2, ↓hp.g3, ↓hp.g4, ↓hp.g5, ↓hp.g6, ↓hp.g7, ↓hp.g8, ↓hp.g9, ↓hp.gb, hp.gb, ↓z_gnow hX hn, z_gnow hX hn, ↓zT_l e1, zT_l e1, ↓zT_l e2, zT_l e2, ↓zT_l e5, zT_l e5, ↓zT_r e3, zT_r e3]
end
