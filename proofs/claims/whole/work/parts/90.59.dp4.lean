-- deps: 90.58.dp3
/-! an argument fewer: the class, all of it -/
section
variable {S : z_S} {m : z_m} {p q : Nat} {P : z_Pg} {A : z_A}
noncomputable def z_dpG (P : z_Pg) (k x : Nat) (j : Nat) : Nat → Int32 := if z_fam P k j = true then z_dpH (z_hd P j) (z_cnt P k) x else z_hd P j
noncomputable def z_dpDD (P : z_Pg) (k x : Nat) (j : Nat) : List z_N := z_dpD (z_bd P j) (z_cf P (z_fam P k) j) x
noncomputable def z_dpK (P : z_Pg) (k x n : Nat) : Nat := z_sl P (fun j => z_ct (z_dpc (z_bd P j) (z_cf P (z_fam P k) j) x) (z_bd P j).length) n
noncomputable def z_dpR (P : z_Pg) (k x : Nat) : Int32 := if z_dpU P k x = true then -9 else if z_free P (z_fam P k) (z_hd P k 2) (nI (z_cnt P k - 1)) = false then -1 else if z_dpE P k x = true then -7 else nI (z_dpK P k x (z_nm P))
noncomputable def z_dpQ (P : z_Pg) (k x : Nat) : z_Pg := z_mix P (z_dpG P k x) (z_dpDD P k x) (z_nm P)
theorem z_dpG_n {k x j : Nat} (h : z_fam P k j = false) : z_dpG P k x j = z_hd P j := by unfold z_dpG; rw [h, if_neg Bool.false_ne_true]
theorem z_dpG_o {k x j w : Nat} (hc : z_cnt P k ≤ 2) (hw : w < 3 ∨ w = 8) : z_dpG P k x j w = z_hd P j w := by
  unfold z_dpG
  split
  · exact z_dpH_o hw hc
  · rfl
theorem z_dpG_3 {k x j : Nat} (h : z_fam P k j = true) : z_dpG P k x j 3 = nI (z_cnt P k - 1) := by unfold z_dpG; rw [if_pos h]; exact z_dpH_3
theorem z_dpDD_len (P : z_Pg) (k x j : Nat) : (z_dpDD P k x j).length ≤ (z_bd P j).length := z_dp_len _
theorem z_dpQ_ok (hw : z_wf P) (h60 : z_b60 P) (hR : z_RT P) {k x : Nat} (hk : k < z_nm P) (hl : z_liv P k = true) (hx : x < z_cnt P k) (hf : z_free P (z_fam P k) (z_hd P k 2) (nI (z_cnt P k - 1)) = true) : z_wf (z_dpQ P k x) ∧ z_b60 (z_dpQ P k x) := by
  have h6 := hw.1.1
  have hc2 : z_cnt P k ≤ 2 := (hw.2.2.2.1 k hk).2.2.2.1.1
  have hnone : ∀ j i, j < z_nm P → i < z_nm P → z_liv P i = true → z_fam P k j = true → z_hd P i 2 = z_hd P j 2 → z_hd P i 3 = nI (z_cnt P k - 1) → z_own P i = z_own P j → False := by
    intro j i hj hi hli hfj e2 e3 eo
    unfold z_free at hf
    simp only [Bool.not_eq_true'] at hf
    have h1 := z_any_f.mp hf j hj
    rw [hfj, Bool.true_and] at h1
    have h2 := z_any_f.mp h1 i hi
    have : (z_isc P i (z_hd P k 2) (nI (z_cnt P k - 1)) && z_akin P (z_own P i) (z_own P j)) = true := by
      unfold z_isc z_akin
      rw [hli, e2, e3, eo, z_blw_refl, (z_famc hw hk hl hfj).2.2.1]; simp
    rw [this] at h2; cases h2
  refine ⟨z_mix_wf hw (fun j hj hlj => ⟨?_, ?_⟩) (fun j hj hlj => ?_) (fun i j hi hj hli hlj e2 e3 eo => ?_), z_mix_b60 h60 (fun j hj hlj => Nat.le_trans (z_dpDD_len P k x j) (h60 j hj))⟩
  · rw [z_dpG_o hc2 (Or.inl (by decide))]; simpa [z_liv] using hlj
  · by_cases hfj : z_fam P k j = true
    · obtain ⟨a, b, c, d, e, f⟩ := z_wHf_of (hw.2.2.2.1 j hj)
      have e3 : z_hd P j 3 = nI (z_cnt P k) := (z_famc hw hk hl hfj).2.2.2.trans (z_c3 hw hk)
      unfold z_wHf
      rw [z_dpG_o (w := 0) hc2 (Or.inl (by decide)), z_dpG_o (w := 1) hc2 (Or.inl (by decide)), z_dpG_o (w := 2) hc2 (Or.inl (by decide)), z_dpG_o (w := 8) hc2 (Or.inr rfl), z_dpG_3 hfj, nI_clamp (by omega)]
      refine ⟨a, b, c, ⟨by omega, rfl⟩, fun i hi => ?_, f⟩
      have ee : ∀ i, i < 2 → if i < z_cnt P k then (∃ n, n < 16 ∧ z_hd P j (4 + i) = nI n) ∧ z_ty' P (z_hd P j (6 + i)) else z_hd P j (4 + i) = -1 := fun i hi => by
        have := e i hi
        rw [e3, nI_clamp (by omega)] at this
        exact this
      have eG : z_dpG P k x j = z_dpH (z_hd P j) (z_cnt P k) x := by unfold z_dpG; rw [if_pos hfj]
      rw [eG]
      have c12 : z_cnt P k = 1 ∨ z_cnt P k = 2 := by omega
      have i01 : i = 0 ∨ i = 1 := by omega
      rcases c12 with q | q
      · rw [q] at ee ⊢
        rw [if_neg (by omega)]
        rcases i01 with rfl | rfl
        · rfl
        · have := ee 1 (by decide)
          rw [if_neg (by decide)] at this
          have e5 : z_dpH (z_hd P j) 1 x (4 + 1) = z_hd P j 5 := by
            unfold z_dpH
            rw [if_neg (by decide), if_neg (by decide), if_neg (by decide), if_neg (by omega), if_neg (by omega)]
          rw [e5]; exact this
      · rw [q] at ee ⊢
        have a0 := ee 0 (by decide)
        have a1 := ee 1 (by decide)
        rw [if_pos (by decide)] at a0 a1
        rcases i01 with rfl | rfl
        · rw [if_pos (by decide)]
          have x01 : x = 0 ∨ x = 1 := by omega
          rcases x01 with rfl | rfl
          · exact a1
          · exact a0
        · rw [if_neg (by decide)]; rfl
    · rw [z_dpG_n (by simpa using hfj)]
      exact z_wHf_of (hw.2.2.2.1 j hj)
  · exact z_dpD_wB (hw.2.2.2.2.1 j hj) (fun i h => ⟨(z_cf_dp hw hR hk hl hx hj hlj h).1, (z_cf_dp hw hR hk hl hx hj hlj h).2.1⟩) (fun i h => (z_cf_dp hw hR hk hl hx hj hlj h).2.2)
  · rw [z_dpG_o (w := 2) hc2 (Or.inl (by decide)), z_dpG_o (w := 2) hc2 (Or.inl (by decide))] at e2
    rw [z_dpG_o (w := 1) hc2 (Or.inl (by decide)), z_dpG_o (w := 1) hc2 (Or.inl (by decide))] at eo
    by_cases gi : z_fam P k i = true
    · by_cases gj : z_fam P k j = true
      · exact hw.2.2.2.2.2 i j hi hj hli hlj e2 ((z_famc hw hk hl gi).2.2.2.trans (z_famc hw hk hl gj).2.2.2.symm) eo
      · rw [z_dpG_3 gi, z_dpG_n (j := j) (by simpa using gj)] at e3
        exact (hnone i j hi hj hlj gi e2.symm e3.symm eo.symm).elim
    · by_cases gj : z_fam P k j = true
      · rw [z_dpG_3 gj, z_dpG_n (j := i) (by simpa using gi)] at e3
        exact (hnone j i hj hi hli gj e2 e3 eo).elim
      · rw [z_dpG_n (j := i) (by simpa using gi), z_dpG_n (j := j) (by simpa using gj)] at e3
        exact hw.2.2.2.2.2 i j hi hj hli hlj e2 e3 eo
/-- Signatures.narrow -/
theorem f113_sp (hpre : z_Pre S m p q P) (hw : z_wf P) (h60 : z_b60 P) (hR : z_RT P) {k x : Nat} (hk : k < z_nm P) (hlk : z_liv P k = true) (hx : x < z_cnt P k) : ∃ m', f113 53 p q (nI k) (nI x) (z_hp S m) = some (z_dpR P k x, z_hp S m') ∧ z_Post m m' q (z_dpR P k x) (z_dpQ P k x) := by
  obtain ⟨⟨hX, hp, hq⟩, ⟨lo, lo2, hpq⟩, ⟨hcp, hT⟩, ⟨hcq, h14⟩, hs22, hs30, hs38, hs54⟩ := hpre
  have h24 := hw.2.2.1
  have hpk := hp.k
  have hqk := hq.k
  have h54 := hX.2.2.2.1.2.2.2
  have h54k := h54.k
  obtain ⟨q1, q2, q3, q4, q5, q6⟩ := hcp.2.1.2.2 k hk hlk
  rw [z_c3 hw hk] at q3
  have hc2 : z_cnt P k ≤ 2 := (hw.2.2.2.1 k hk).2.2.2.1.1
  have hct : ∀ i, i < z_nm P → z_cnt P i ≤ 2 := fun i hi => (hw.2.2.2.1 i hi).2.2.2.1.1
  have e95 := f95_sp hp hcp hw hk hlk
  have hfl : ∀ i, i < z_nm P → z_fam P k i = true → z_liv P i = true := fun i _ h => z_isc_liv (z_fam_isc hk hlk h).2
  have e97 := f97_sp hp hcp hw hfl (z_hd P k 2) (nI (z_cnt P k - 1))
  have hsub : nI (z_cnt P k) - 1 = nI (z_cnt P k - 1) := z_subl (k := 1) (by omega)
  have e114 := f114_sp hp hcp hT hw hk hlk x
  have e115 := f115_sp hp hcp hT hw hR hk hlk hx
  have stay : ∀ r, r < 0 → f113 53 p q (nI k) (nI x) (z_hp S m) = some (r, z_hp S m) → z_dpR P k x = r → ∃ m', f113 53 p q (nI k) (nI x) (z_hp S m) = some (z_dpR P k x, z_hp S m') ∧ z_Post m m' q (z_dpR P k x) (z_dpQ P k x) := fun r hr e er => by
    rw [er]
    exact ⟨m, e, fun g => absurd hr g, hcq.2.2.1, z_oF.refl q m⟩
  by_cases y1 : z_dpU P k x = true
  · refine stay (-9) (by decide) ?_ (if_pos y1)
    rw [y1] at e114
    unfold f113
    simp (disch := ((try simp only [true_or, or_true, hp.k, hp.k1, hp.k2, hp.k3, hp.k4, hp.k5, hp.k6, hp.k7, hp.k8, hp.k9, hp.k10, hp.l1, hp.l2, hp.l3, hp.l4, hp.l5, hp.l6, hp.l7, hp.l8, hp.l9, hp.l10, hpk]) <;> (try omega))) only [↓reduceIte, ↓z_ite, ↓zR, ↓zB_R, ↓zB_B, ↓zB_ite, ↓zB_gI, ↓zB_pI, ↓zB_pZ, ↓zB_aK, ↓zB_G, ↓zB_lI, ↓zB_lZ, ↓zB_wI, ↓zB_wZ, ↓zB_lIl, ↓zB_wIl, zB_pI, zB_pZ, zB_lI, zB_lZ, zB_wI, zB_wZ, z_addl, z_ladd, z_mull, z_lmul, nI_add, z_subl, Nat.not_lt_zero, z_10, z_01, z_bitc, z_b0, z_b1, ↓zB_Gb, ↓zB_G0, ↓zB_G1, z_eql, z_leq, z_ltl, z_llt, z_eq, z_lt, z_m1lt, hp.k, hp.k1, hp.k2, hp.k3, hp.k4, hp.k5, hp.k6, hp.k7, hp.k8, hp.k9, hp.k10, hp.l1, hp.l2, hp.l3, hp.l4, hp.l5, hp.l6, hp.l7, hp.l8, hp.l9, hp.l10, hpk, ↓hp.g0, ↓hp.g1, ↓hp.g2, ↓hp.g3, ↓hp.g4, ↓hp.g5, ↓hp.g6, ↓hp.g7, ↓hp.g8, ↓hp.g9, ↓hp.gb, hp.gb, ↓zB_c e95, zB_c e95, ↓zB_c e114, zB_c e114, Bool.true_eq_false]
  have y1' : z_dpU P k x = false := by simpa using y1
  rw [y1'] at e114
  by_cases y2 : z_free P (z_fam P k) (z_hd P k 2) (nI (z_cnt P k - 1)) = false
  · refine stay (-1) (by decide) ?_ (by unfold z_dpR; rw [if_neg y1, if_pos y2])
    rw [y2] at e97
    unfold f113
    simp (disch := ((try simp only [true_or, or_true, hp.k, hp.k1, hp.k2, hp.k3, hp.k4, hp.k5, hp.k6, hp.k7, hp.k8, hp.k9, hp.k10, hp.l1, hp.l2, hp.l3, hp.l4, hp.l5, hp.l6, hp.l7, hp.l8, hp.l9, hp.l10, hpk]) <;> (try omega))) only [↓reduceIte, ↓z_ite, ↓zR, ↓zB_R, ↓zB_B, ↓zB_ite, ↓zB_gI, ↓zB_pI, ↓zB_pZ, ↓zB_aK, ↓zB_G, ↓zB_lI, ↓zB_lZ, ↓zB_wI, ↓zB_wZ, ↓zB_lIl, ↓zB_wIl, zB_pI, zB_pZ, zB_lI, zB_lZ, zB_wI, zB_wZ, z_addl, z_ladd, z_mull, z_lmul, nI_add, z_subl, Nat.not_lt_zero, z_10, z_01, z_bitc, z_b0, z_b1, ↓zB_Gb, ↓zB_G0, ↓zB_G1, z_eql, z_leq, z_ltl, z_llt, z_eq, z_lt, z_m1lt, hp.k, hp.k1, hp.k2, hp.k3, hp.k4, hp.k5, hp.k6, hp.k7, hp.k8, hp.k9, hp.k10, hp.l1, hp.l2, hp.l3, hp.l4, hp.l5, hp.l6, hp.l7, hp.l8, hp.l9, hp.l10, hpk, ↓hp.g0, ↓hp.g1, ↓hp.g2, ↓hp.g3, ↓hp.g4, ↓hp.g5, ↓hp.g6, ↓hp.g7, ↓hp.g8, ↓hp.g9, ↓hp.gb, hp.gb, ↓zB_c e95, zB_c e95, ↓zB_c e114, zB_c e114, h24, hk, q2, q3, hsub, ↓zB_c e97, zB_c e97]
  have y2' : z_free P (z_fam P k) (z_hd P k 2) (nI (z_cnt P k - 1)) = true := by simpa using y2
  rw [y2'] at e97
  by_cases y3 : z_dpE P k x = true
  · refine stay (-7) (by decide) ?_ (by unfold z_dpR; rw [if_neg y1, if_neg y2, if_pos y3])
    rw [y3] at e115
    unfold f113
    simp (disch := ((try simp only [true_or, or_true, hp.k, hp.k1, hp.k2, hp.k3, hp.k4, hp.k5, hp.k6, hp.k7, hp.k8, hp.k9, hp.k10, hp.l1, hp.l2, hp.l3, hp.l4, hp.l5, hp.l6, hp.l7, hp.l8, hp.l9, hp.l10, hpk]) <;> (try omega))) only [↓reduceIte, ↓z_ite, ↓zR, ↓zB_R, ↓zB_B, ↓zB_ite, ↓zB_gI, ↓zB_pI, ↓zB_pZ, ↓zB_aK, ↓zB_G, ↓zB_lI, ↓zB_lZ, ↓zB_wI, ↓zB_wZ, ↓zB_lIl, ↓zB_wIl, zB_pI, zB_pZ, zB_lI, zB_lZ, zB_wI, zB_wZ, z_addl, z_ladd, z_mull, z_lmul, nI_add, z_subl, Nat.not_lt_zero, z_10, z_01, z_bitc, z_b0, z_b1, ↓zB_Gb, ↓zB_G0, ↓zB_G1, z_eql, z_leq, z_ltl, z_llt, z_eq, z_lt, z_m1lt, hp.k, hp.k1, hp.k2, hp.k3, hp.k4, hp.k5, hp.k6, hp.k7, hp.k8, hp.k9, hp.k10, hp.l1, hp.l2, hp.l3, hp.l4, hp.l5, hp.l6, hp.l7, hp.l8, hp.l9, hp.l10, hpk, ↓hp.g0, ↓hp.g1, ↓hp.g2, ↓hp.g3, ↓hp.g4, ↓hp.g5, ↓hp.g6, ↓hp.g7, ↓hp.g8, ↓hp.g9, ↓hp.gb, hp.gb, ↓zB_c e95, zB_c e95, ↓zB_c e114, zB_c e114, h24, hk, q2, q3, hsub, ↓zB_c e97, zB_c e97, Bool.true_eq_false, ↓zB_c e115, zB_c e115]
  have y3' : z_dpE P k x = false := by simpa using y3
  rw [y3'] at e115
  have er : z_dpR P k x = nI (z_dpK P k x (z_nm P)) := by unfold z_dpR; rw [if_neg y1, if_neg y2, if_neg y3]
  have hsum : ∀ n, n ≤ z_nm P → z_dpK P k x n ≤ n * 60 := fun n hn => z_sl_le n (fun j hj hlj => Nat.le_trans (z_ct_le _) (h60 j (by omega)))
  have key := z_loopI (f := fun s => f113_66b (s.1) (s.2.1) (s.2.2.1) (s.2.2.2.1) (s.2.2.2.2.1) (s.2.2.2.2.2.1) (s.2.2.2.2.2.2)) (S := S) (fun n st m' => ∃ j, n = z_nm P - j ∧ j ≤ z_nm P ∧ st = (53, p, q, nI x, z_M (z_nm P) (z_fam P k), nI (z_dpK P k x j), nI j) ∧ z_cp m' q (z_mix P (z_dpG P k x) (z_dpDD P k x) j) ∧ z_oF q m m' ∧ m' q 14 = 0) (fun r m' => r = z_dpR P k x ∧ z_cp m' q (z_dpQ P k x) ∧ z_oF q m m' ∧ m' q 14 = 0) ?_ 1000000 (z_nm P) (53, p, q, nI x, z_M (z_nm P) (z_fam P k), 0, 0) m ⟨0, rfl, Nat.zero_le _, rfl, by rw [z_mix_0]; exact hcq, z_oF.refl q m, h14⟩ (by omega)
  · obtain ⟨r, m', e, rfl, g1, g2, g3⟩ := key
    refine ⟨m', ?_, fun _ => z_PK_0 g1 g3, g1.2.2.1, g2⟩
    unfold f113 f113_66
    simp (disch := ((try simp only [true_or, or_true, hp.k, hp.k1, hp.k2, hp.k3, hp.k4, hp.k5, hp.k6, hp.k7, hp.k8, hp.k9, hp.k10, hp.l1, hp.l2, hp.l3, hp.l4, hp.l5, hp.l6, hp.l7, hp.l8, hp.l9, hp.l10, hpk]) <;> (try omega))) only [↓reduceIte, ↓z_ite, ↓zR, ↓zB_R, ↓zB_B, ↓zB_ite, ↓zB_gI, ↓zB_pI, ↓zB_pZ, ↓zB_aK, ↓zB_G, ↓zB_lI, ↓zB_lZ, ↓zB_wI, ↓zB_wZ, ↓zB_lIl, ↓zB_wIl, zB_pI, zB_pZ, zB_lI, zB_lZ, zB_wI, zB_wZ, z_addl, z_ladd, z_mull, z_lmul, nI_add, z_subl, Nat.not_lt_zero, z_10, z_01, z_bitc, z_b0, z_b1, ↓zB_Gb, ↓zB_G0, ↓zB_G1, z_eql, z_leq, z_ltl, z_llt, z_eq, z_lt, z_m1lt, hp.k, hp.k1, hp.k2, hp.k3, hp.k4, hp.k5, hp.k6, hp.k7, hp.k8, hp.k9, hp.k10, hp.l1, hp.l2, hp.l3, hp.l4, hp.l5, hp.l6, hp.l7, hp.l8, hp.l9, hp.l10, hpk, ↓hp.g0, ↓hp.g1, ↓hp.g2, ↓hp.g3, ↓hp.g4, ↓hp.g5, ↓hp.g6, ↓hp.g7, ↓hp.g8, ↓hp.g9, ↓hp.gb, hp.gb, ↓zB_c e95, zB_c e95, ↓zB_c e114, zB_c e114, h24, hk, q2, q3, hsub, ↓zB_c e97, zB_c e97, Bool.true_eq_false, ↓zB_c e115, zB_c e115]
    exact e
  · rintro n st m1 ⟨j, rfl, hj, rfl, g1, g3, g4⟩
    have hle := hsum j hj
    have hcp1 := g3.cp hw lo (by omega) hcp
    have hT1 := g3.LT hw lo (by omega) hT
    have h011 := hcp1.2.1.1
    dsimp only
    rcases Nat.eq_or_lt_of_le hj with hj2 | hj2
    · refine Or.inr ⟨_, m1, ?_, rfl, by rw [hj2] at g1; exact g1, g3, g4⟩
      rw [er, hj2]
      unfold f113_66b f113_147
      simp (disch := ((try simp only [true_or, or_true, hp.k, hp.k1, hp.k2, hp.k3, hp.k4, hp.k5, hp.k6, hp.k7, hp.k8, hp.k9, hp.k10, hp.l1, hp.l2, hp.l3, hp.l4, hp.l5, hp.l6, hp.l7, hp.l8, hp.l9, hp.l10]) <;> (try omega))) only [↓reduceIte, ↓z_ite, ↓zR, ↓zB_R, ↓zB_B, ↓zB_ite, ↓zB_gI, ↓zB_pI, ↓zB_pZ, ↓zB_aK, ↓zB_G, ↓zB_lI, ↓zB_lZ, ↓zB_wI, ↓zB_wZ, ↓zB_lIl, ↓zB_wIl, zB_pI, zB_pZ, zB_lI, zB_lZ, zB_wI, zB_wZ, z_addl, z_ladd, z_mull, z_lmul, nI_add, z_subl, Nat.not_lt_zero, z_10, z_01, z_bitc, z_b0, z_b1, ↓zB_Gb, ↓zB_G0, ↓zB_G1, z_eql, z_leq, z_ltl, z_llt, z_eq, z_lt, z_m1lt, hp.k, hp.k1, hp.k2, hp.k3, hp.k4, hp.k5, hp.k6, hp.k7, hp.k8, hp.k9, hp.k10, hp.l1, hp.l2, hp.l3, hp.l4, hp.l5, hp.l6, hp.l7, hp.l8, hp.l9, hp.l10, ↓hp.g0, ↓hp.g1, ↓hp.g2, ↓hp.g3, ↓hp.g4, ↓hp.g5, ↓hp.g6, ↓hp.g7, ↓hp.g8, ↓hp.g9, ↓hp.gb, hp.gb, h011, Nat.lt_irrefl]
    · have e79 := f79_sp hp hcp1 (k := j) (by omega)
      have ethr : z_thr P j = z_liv P j := by unfold z_thr; rw [decide_eq_true hj2, Bool.true_and]
      rw [ethr] at e79
      cases glj : z_liv P j with
      | false =>
        rw [glj] at e79
        refine Or.inl ⟨(53, p, q, nI x, z_M (z_nm P) (z_fam P k), nI (z_dpK P k x (j + 1)), nI (j + 1)), m1, z_nm P - (j + 1), ?_, by omega, j + 1, rfl, hj2, rfl, by rw [z_mix_n glj]; exact g1, g3, g4⟩
        have ec : z_dpK P k x (j + 1) = z_dpK P k x j := by unfold z_dpK; rw [z_sl_s, glj]; rfl
        rw [ec]
        unfold f113_66b f113_141
        simp (disch := ((try simp only [true_or, or_true, hp.k, hp.k1, hp.k2, hp.k3, hp.k4, hp.k5, hp.k6, hp.k7, hp.k8, hp.k9, hp.k10, hp.l1, hp.l2, hp.l3, hp.l4, hp.l5, hp.l6, hp.l7, hp.l8, hp.l9, hp.l10, hpk]) <;> (try omega))) only [↓reduceIte, ↓z_ite, ↓zR, ↓zB_R, ↓zB_B, ↓zB_ite, ↓zB_gI, ↓zB_pI, ↓zB_pZ, ↓zB_aK, ↓zB_G, ↓zB_lI, ↓zB_lZ, ↓zB_wI, ↓zB_wZ, ↓zB_lIl, ↓zB_wIl, zB_pI, zB_pZ, zB_lI, zB_lZ, zB_wI, zB_wZ, z_addl, z_ladd, z_mull, z_lmul, nI_add, z_subl, Nat.not_lt_zero, z_10, z_01, z_bitc, z_b0, z_b1, ↓zB_Gb, ↓zB_G0, ↓zB_G1, z_eql, z_leq, z_ltl, z_llt, z_eq, z_lt, z_m1lt, hp.k, hp.k1, hp.k2, hp.k3, hp.k4, hp.k5, hp.k6, hp.k7, hp.k8, hp.k9, hp.k10, hp.l1, hp.l2, hp.l3, hp.l4, hp.l5, hp.l6, hp.l7, hp.l8, hp.l9, hp.l10, hpk, ↓hp.g0, ↓hp.g1, ↓hp.g2, ↓hp.g3, ↓hp.g4, ↓hp.g5, ↓hp.g6, ↓hp.g7, ↓hp.g8, ↓hp.g9, ↓hp.gb, hp.gb, h011, hj2, ↓zB_c e79, zB_c e79]
      | true =>
        rw [glj] at e79
        have hbit := z_M_at (n := z_nm P) (s := z_fam P k) (by omega) hj2
        have hbpk := (hp.B (k := j) (by omega)).k
        have hbqk := (hq.B (k := j) (by omega)).k
        have hmixh : ∀ w, z_hd (z_mix P (z_dpG P k x) (z_dpDD P k x) j) j w = z_hd P j w := fun w => by rw [z_mix_hd, if_neg (by omega)]
        have hmixl : z_liv (z_mix P (z_dpG P k x) (z_dpDD P k x) j) j = true := by unfold z_liv; rw [hmixh]; exact glj
        have hbdj : z_bd (z_mix P (z_dpG P k x) (z_dpDD P k x) j) j = z_bd P j := by rw [z_mix_bd, if_neg (by omega)]
        have hctm : ∀ i, i < z_nm P → z_cnt (z_mix P (z_dpG P k x) (z_dpDD P k x) j) i ≤ 2 := fun i hi => by
          unfold z_cnt
          rw [z_mix_hd]
          by_cases gg : i < j ∧ z_liv P i = true
          · rw [if_pos gg]
            by_cases gf : z_fam P k i = true
            · rw [z_dpG_3 gf, nI_clamp (by omega)]; omega
            · rw [z_dpG_n (by simpa using gf)]; exact hct i hi
          · rw [if_neg gg]; exact hct i hi
        -- the parameter
        have par : ∃ m2, f113_66b 53 p q (nI x) (z_M (z_nm P) (z_fam P k)) (nI (z_dpK P k x j)) (nI j) (z_hp S m1) = f113_106 53 p q (nI x) (z_M (z_nm P) (z_fam P k)) (nI (z_dpK P k x j)) (nI j) (z_hp S m2) ∧ z_cp m2 q (z_sM (z_mix P (z_dpG P k x) (z_dpDD P k x) j) j (z_dpG P k x j) (z_bd P j)) ∧ ∀ b, b ≠ q + 6 → b ≠ q + 7 → b ≠ q + 8 → m2 b = m1 b := by
          cases gf : z_fam P k j with
          | false =>
            rw [gf] at hbit
            refine ⟨m1, ?_, ?_, fun _ _ _ _ => rfl⟩
            · unfold f113_66b
              simp (disch := ((try simp only [true_or, or_true, hp.k, hp.k1, hp.k2, hp.k3, hp.k4, hp.k5, hp.k6, hp.k7, hp.k8, hp.k9, hp.k10, hp.l1, hp.l2, hp.l3, hp.l4, hp.l5, hp.l6, hp.l7, hp.l8, hp.l9, hp.l10, hpk]) <;> (try omega))) only [↓reduceIte, ↓z_ite, ↓zR, ↓zB_R, ↓zB_B, ↓zB_ite, ↓zB_gI, ↓zB_pI, ↓zB_pZ, ↓zB_aK, ↓zB_G, ↓zB_lI, ↓zB_lZ, ↓zB_wI, ↓zB_wZ, ↓zB_lIl, ↓zB_wIl, zB_pI, zB_pZ, zB_lI, zB_lZ, zB_wI, zB_wZ, z_addl, z_ladd, z_mull, z_lmul, nI_add, z_subl, Nat.not_lt_zero, z_10, z_01, z_bitc, z_b0, z_b1, ↓zB_Gb, ↓zB_G0, ↓zB_G1, z_eql, z_leq, z_ltl, z_llt, z_eq, z_lt, z_m1lt, hp.k, hp.k1, hp.k2, hp.k3, hp.k4, hp.k5, hp.k6, hp.k7, hp.k8, hp.k9, hp.k10, hp.l1, hp.l2, hp.l3, hp.l4, hp.l5, hp.l6, hp.l7, hp.l8, hp.l9, hp.l10, hpk, ↓hp.g0, ↓hp.g1, ↓hp.g2, ↓hp.g3, ↓hp.g4, ↓hp.g5, ↓hp.g6, ↓hp.g7, ↓hp.g8, ↓hp.g9, ↓hp.gb, hp.gb, h011, hj2, ↓zB_c e79, zB_c e79, Bool.true_eq_false, hbit, Bool.false_eq_true]
            · rw [z_dpG_n gf]
              have : z_sM (z_mix P (z_dpG P k x) (z_dpDD P k x) j) j (z_hd P j) (z_bd P j) = z_mix P (z_dpG P k x) (z_dpDD P k x) j := by
                have e := z_sM_id (P := z_mix P (z_dpG P k x) (z_dpDD P k x) j) (k := j)
                rw [hbdj, show z_hd (z_mix P (z_dpG P k x) (z_dpDD P k x) j) j = z_hd P j from funext hmixh] at e
                exact e
              rw [this]; exact g1
          | true =>
            rw [gf] at hbit
            have e3j : z_hd P j 3 = nI (z_cnt P k) := (z_famc hw hk hlk gf).2.2.2.trans (z_c3 hw hk)
            have hcj : z_cnt P j = z_cnt P k := by unfold z_cnt; rw [(z_famc hw hk hlk gf).2.2.2]
            have hl0 : z_hd P j 0 = 1 := by simpa [z_liv] using glj
            obtain ⟨m2, e76, cp2, fr2⟩ := f76_gen (P := z_mix P (z_dpG P k x) (z_dpDD P k x) j) (k := j) (c := z_cnt P k) (x := x) hq g1 h24 hctm hj2 hmixl (by rw [hmixh]; exact e3j) hc2 hx (by rw [hmixh]; exact hl0) (fun h1 => by
              rw [hmixh]
              have := (hw.2.2.2.1 j hj2).2.2.2.2.1 1 (by decide)
              rw [hcj, h1, if_neg (by decide)] at this
              exact this)
            refine ⟨m2, ?_, ?_, fr2⟩
            · unfold f113_66b
              simp (disch := ((try simp only [true_or, or_true, hp.k, hp.k1, hp.k2, hp.k3, hp.k4, hp.k5, hp.k6, hp.k7, hp.k8, hp.k9, hp.k10, hp.l1, hp.l2, hp.l3, hp.l4, hp.l5, hp.l6, hp.l7, hp.l8, hp.l9, hp.l10, hpk, hqk]) <;> (try omega))) only [↓reduceIte, ↓z_ite, ↓zR, ↓zB_R, ↓zB_B, ↓zB_ite, ↓zB_gI, ↓zB_pI, ↓zB_pZ, ↓zB_aK, ↓zB_G, ↓zB_lI, ↓zB_lZ, ↓zB_wI, ↓zB_wZ, ↓zB_lIl, ↓zB_wIl, zB_pI, zB_pZ, zB_lI, zB_lZ, zB_wI, zB_wZ, z_addl, z_ladd, z_mull, z_lmul, nI_add, z_subl, Nat.not_lt_zero, z_10, z_01, z_bitc, z_b0, z_b1, ↓zB_Gb, ↓zB_G0, ↓zB_G1, z_eql, z_leq, z_ltl, z_llt, z_eq, z_lt, z_m1lt, hp.k, hp.k1, hp.k2, hp.k3, hp.k4, hp.k5, hp.k6, hp.k7, hp.k8, hp.k9, hp.k10, hp.l1, hp.l2, hp.l3, hp.l4, hp.l5, hp.l6, hp.l7, hp.l8, hp.l9, hp.l10, hpk, hqk, ↓hp.g0, ↓hp.g1, ↓hp.g2, ↓hp.g3, ↓hp.g4, ↓hp.g5, ↓hp.g6, ↓hp.g7, ↓hp.g8, ↓hp.g9, ↓hp.gb, hp.gb, h011, hj2, ↓zB_c e79, zB_c e79, Bool.true_eq_false, hbit, ↓zB_c e76, zB_c e76]
            · have eG : z_dpG P k x j = z_dpH (z_hd P j) (z_cnt P k) x := by unfold z_dpG; rw [gf, if_pos rfl]
              rw [hbdj, show z_hd (z_mix P (z_dpG P k x) (z_dpDD P k x) j) j = z_hd P j from funext hmixh] at cp2
              rw [eG]; exact cp2
        obtain ⟨m2, e2, cp2, fr2⟩ := par
        have hF2 : z_oF q m m2 := g3.trans ⟨fun a _ _ x => fr2 a (by omega) (by omega) (by omega), by rw [fr2 22 (by omega) (by omega) (by omega)], by rw [fr2 30 (by omega) (by omega) (by omega)], by rw [fr2 38 (by omega) (by omega) (by omega)], by rw [fr2 54 (by omega) (by omega) (by omega)]⟩
        have hcp2 := hF2.cp hw lo (by omega) hcp
        have hT2 := hF2.LT hw lo (by omega) hT
        obtain ⟨m3, e3, cb3, F3⟩ := f117_sp hX hp lo hcp2 hT2 hw hR hk hlk hx hj2 glj (by rw [hF2.2.2.2.2]; exact hs54)
        obtain ⟨m4, e7, r4, F4, c4⟩ := z_take hq h54 (by omega) (show j < 24 by omega) (F3.rm (by omega) cp2.2.2.1) cb3
        have hF4 := (hF2.trans (F3.oF (Or.inr (Or.inr (Or.inr rfl))) q lo2)).trans (F4.oF2 (by omega) lo2)
        have g60 : (z_dpD (z_bd P j) (z_cf P (z_fam P k) j) x).length ≤ 60 := Nat.le_trans (z_dpDD_len P k x j) (h60 j hj2)
        rw [decide_eq_true g60] at e7
        refine Or.inl ⟨(53, p, q, nI x, z_M (z_nm P) (z_fam P k), nI (z_dpK P k x (j + 1)), nI (j + 1)), m4, z_nm P - (j + 1), ?_, by omega, j + 1, rfl, hj2, rfl, ?_, hF4, ?_⟩
        · have ec : z_dpK P k x (j + 1) = z_dpK P k x j + z_ct (z_dpc (z_bd P j) (z_cf P (z_fam P k) j) x) (z_bd P j).length := by unfold z_dpK; rw [z_sl_s, glj]; rfl
          rw [ec, e2]
          unfold f113_106 f113_141
          simp (disch := ((try simp only [true_or, or_true, hp.k, hp.k1, hp.k2, hp.k3, hp.k4, hp.k5, hp.k6, hp.k7, hp.k8, hp.k9, hp.k10, hp.l1, hp.l2, hp.l3, hp.l4, hp.l5, hp.l6, hp.l7, hp.l8, hp.l9, hp.l10, hq.k, hq.k1, hq.k2, hq.k3, hq.k4, hq.k5, hq.k6, hq.k7, hq.k8, hq.k9, hq.k10, hq.l1, hq.l2, hq.l3, hq.l4, hq.l5, hq.l6, hq.l7, hq.l8, hq.l9, hq.l10, hX.k53, hpk, hbqk, h54k]) <;> (try omega))) only [↓reduceIte, ↓z_ite, ↓zR, ↓zB_R, ↓zB_B, ↓zB_ite, ↓zB_gI, ↓zB_pI, ↓zB_pZ, ↓zB_aK, ↓zB_G, ↓zB_lI, ↓zB_lZ, ↓zB_wI, ↓zB_wZ, ↓zB_lIl, ↓zB_wIl, zB_pI, zB_pZ, zB_lI, zB_lZ, zB_wI, zB_wZ, z_addl, z_ladd, z_mull, z_lmul, nI_add, z_subl, Nat.not_lt_zero, z_10, z_01, z_bitc, z_b0, z_b1, ↓zB_Gb, ↓zB_G0, ↓zB_G1, z_eql, z_leq, z_ltl, z_llt, z_eq, z_lt, z_m1lt, hp.k, hp.k1, hp.k2, hp.k3, hp.k4, hp.k5, hp.k6, hp.k7, hp.k8, hp.k9, hp.k10, hp.l1, hp.l2, hp.l3, hp.l4, hp.l5, hp.l6, hp.l7, hp.l8, hp.l9, hp.l10, hq.k, hq.k1, hq.k2, hq.k3, hq.k4, hq.k5, hq.k6, hq.k7, hq.k8, hq.k9, hq.k10, hq.l1, hq.l2, hq.l3, hq.l4, hq.l5, hq.l6, hq.l7, hq.l8, hq.l9, hq.l10, hX.k53, hpk, hbqk, h54k, ↓hp.g0, ↓hp.g1, ↓hp.g2, ↓hp.g3, ↓hp.g4, ↓hp.g5, ↓hp.g6, ↓hp.g7, ↓hp.g8, ↓hp.g9, ↓hp.gb, hp.gb, ↓hq.g0, ↓hq.g1, ↓hq.g2, ↓hq.g3, ↓hq.g4, ↓hq.g5, ↓hq.g6, ↓hq.g7, ↓hq.g8, ↓hq.g9, ↓hq.gb, hq.gb, ↓hX.g53_0, h24, hj2, ↓zB_c e3, zB_c e3, ↓zB_c e7, zB_c e7]
        · have cp3 : z_cp m3 q (z_sM (z_mix P (z_dpG P k x) (z_dpDD P k x) j) j (z_dpG P k x j) (z_bd P j)) := F3.cp (Pj := z_sM (z_mix P (z_dpG P k x) (z_dpDD P k x) j) j (z_dpG P k x j) (z_bd P j)) (by omega) h24 cp2
          have hl1 : z_liv (z_sM (z_mix P (z_dpG P k x) (z_dpDD P k x) j) j (z_dpG P k x j) (z_bd P j)) j = true := by
            unfold z_liv; rw [z_sM_hd_s, z_dpG_o hc2 (Or.inl (by decide))]; exact glj
          have := c4 _ cp3 (fun i hi => by
            by_cases g : i = j
            · subst g
              unfold z_cnt; rw [z_sM_hd_s]
              by_cases gf : z_fam P k i = true
              · rw [z_dpG_3 gf, nI_clamp (by omega)]; omega
              · rw [z_dpG_n (by simpa using gf)]; exact hct i hj2
            · rw [z_sM_cnt g]; exact hctm i hi) hj2 hl1 g60
          rw [z_sM_2] at this
          rw [z_mix_s glj]; exact this
        · rw [F4.1 q (by unfold z_bi; omega) (by unfold z_bi; omega) (by unfold z_bi; omega) (by unfold z_bi; omega), F3.at (by omega), fr2 q (by omega) (by omega) (by omega)]; exact g4
noncomputable def z_odropP (A : z_A) (k x : Int32) : (Int32 ⊕ Nat) × z_A :=
  if z_hm A.2.1 k = false then (.inr 2, A)
  else if z_in x (z_cnt A.2.1 k.toNatClampNeg) = false then (.inr 2, A)
  else if z_wr A.2.1 = -1 then z_rf A (z_dpR A.2.1 k.toNatClampNeg x.toNatClampNeg) (z_dpQ A.2.1 k.toNatClampNeg x.toNatClampNeg)
  else (.inr 0, A)
theorem c_dropP (hw : z_WA A) (h : z_CR S m A) (k x : Int32) : ∃ S1 m1, f146 0 k x (z_hp S m) = some ((z_odropP A k x).1, z_hp S1 m1) ∧ z_CR S1 m1 (z_odropP A k x).2 ∧ z_SS S S1 ∧ ∀ a, 2390 ≤ a → m1 a = m a := by
  have h0 := h
  obtain ⟨sn, sx, sp, hI, hCM⟩ := h0
  have hX := hI.1
  have hp := hI.2.2.1 sn hI.2.2.2.1.1
  have hn := hI.2.2.2.2.2.1
  have hc := hCM.2.2.1.1.1
  have hwf := hw.2.1.1
  have h24 := hwf.2.2.1
  unfold z_odropP
  by_cases g1 : z_hm A.2.1 k = false
  · rw [if_pos g1]
    refine ⟨z_Sx S, m, ?_, z_CR_x h, z_SS.x S, fun _ _ => rfl⟩
    have e1 := f165_n hX hp hc hwf g1
    unfold f146
    simp (disch := ((try simp only [true_or, or_true, hX.k0, hX.k1, hX.k2, hX.k3, hX.k4, hX.k5, hX.k6, hX.k7, hX.l2, hX.l3, hX.l4, hX.l5, hX.l6, hX.l7]) <;> (try omega))) only [↓reduceIte, ↓z_ite, ↓zR, ↓zB_R, ↓zB_B, ↓zB_ite, ↓zB_gI, ↓zB_pI, ↓zB_pZ, ↓zB_aK, ↓zB_G, ↓zB_lI, ↓zB_lZ, ↓zB_wI, ↓zB_wZ, ↓zB_lIl, ↓zB_wIl, zB_pI, zB_pZ, zB_lI, zB_lZ, zB_wI, zB_wZ, z_addl, z_ladd, z_mull, z_lmul, nI_add, z_subl, Nat.not_lt_zero, z_10, z_01, z_bitc, z_b0, z_b1, ↓zB_Gb, ↓zB_G0, ↓zB_G1, z_eql, z_leq, z_ltl, z_llt, z_eq, z_lt, z_m1lt, hX.k0, hX.k1, hX.k2, hX.k3, hX.k4, hX.k5, hX.k6, hX.k7, hX.l2, hX.l3, hX.l4, hX.l5, hX.l6, hX.l7, ↓hX.g0_0, ↓hX.g0_1, ↓hX.g0_2, ↓hX.g0_3, ↓hX.g0_4, ↓hX.g0_5, ↓hX.g0_6, ↓hX.g0_7, ↓hX.g0_8, ↓hX.g0_9, ↓hX.g1_0, ↓hX.g1_1, ↓hX.g1_2, ↓hX.g1_3, ↓hX.g1_4, ↓hX.g1_5, ↓z_gnow hX hn, z_gnow hX hn, ↓zT_r e1, zT_r e1]
  rw [if_neg g1]
  have g1' := z_not_false g1
  have e1 := f165_y hX hp hc hwf g1'
  obtain ⟨k', hk', hl, rfl⟩ := (z_hm_iff hwf).mp g1'
  rw [nI_clamp (show k' < 2 ^ 31 by omega)]
  have hc2 : z_cnt A.2.1 k' ≤ 2 := (hwf.2.2.2.1 k' hk').2.2.2.1.1
  have e2 := f167_sp hX hn hp hc hwf hk' hl x
  by_cases g2 : z_in x (z_cnt A.2.1 k') = false
  · rw [if_pos g2]
    refine ⟨z_Sx S, m, ?_, z_CR_x h, z_SS.x S, fun _ _ => rfl⟩
    rw [g2, if_neg Bool.false_ne_true] at e2
    unfold f146
    simp (disch := ((try simp only [true_or, or_true, hX.k0, hX.k1, hX.k2, hX.k3, hX.k4, hX.k5, hX.k6, hX.k7, hX.l2, hX.l3, hX.l4, hX.l5, hX.l6, hX.l7]) <;> (try omega))) only [↓reduceIte, ↓z_ite, ↓zR, ↓zB_R, ↓zB_B, ↓zB_ite, ↓zB_gI, ↓zB_pI, ↓zB_pZ, ↓zB_aK, ↓zB_G, ↓zB_lI, ↓zB_lZ, ↓zB_wI, ↓zB_wZ, ↓zB_lIl, ↓zB_wIl, zB_pI, zB_pZ, zB_lI, zB_lZ, zB_wI, zB_wZ, z_addl, z_ladd, z_mull, z_lmul, nI_add, z_subl, Nat.not_lt_zero, z_10, z_01, z_bitc, z_b0, z_b1, ↓zB_Gb, ↓zB_G0, ↓zB_G1, z_eql, z_leq, z_ltl, z_llt, z_eq, z_lt, z_m1lt, hX.k0, hX.k1, hX.k2, hX.k3, hX.k4, hX.k5, hX.k6, hX.k7, hX.l2, hX.l3, hX.l4, hX.l5, hX.l6, hX.l7, ↓hX.g0_0, ↓hX.g0_1, ↓hX.g0_2, ↓hX.g0_3, ↓hX.g0_4, ↓hX.g0_5, ↓hX.g0_6, ↓hX.g0_7, ↓hX.g0_8, ↓hX.g0_9, ↓hX.g1_0, ↓hX.g1_1, ↓hX.g1_2, ↓hX.g1_3, ↓hX.g1_4, ↓hX.g1_5, ↓z_gnow hX hn, z_gnow hX hn, ↓zT_l e1, zT_l e1, ↓zT_r e2, zT_r e2]
  rw [if_neg g2]
  rw [if_pos (z_not_false g2)] at e2
  obtain ⟨x', hx', rfl⟩ := (z_in_iff (by omega)).mp (z_not_false g2)
  rw [nI_clamp (show x' < 2 ^ 31 by omega)]
  by_cases g3 : z_wr A.2.1 = -1
  · rw [if_pos g3]
    obtain ⟨m1, e3, c1, r1, f14⟩ := c_rr_y hw hI hCM g3
    obtain ⟨S', m', e4, d1, d2, d3⟩ := c_tail hw hI c1 g3 f14 (ob := 53) (kd := 9) hX.k53 (OP := fun q => f113 53 (z_pid sn) q (nI k') (nI x')) (r := z_dpR A.2.1 k' x') (Q := z_dpQ A.2.1 k' x') (fun m2 hpre => f113_sp hpre hwf hw.2.1.2 (z_RT_wr hwf g3) hk' hl hx')
    refine ⟨S', m', ?_, d1, d2, fun a ha => (d3 a ha).trans (r1 a ha)⟩
    unfold f146
    simp (disch := ((try simp only [true_or, or_true, hX.k0, hX.k8, hX.k9, hX.l9, hp.k, hp.k1, hp.k2, hp.k3, hp.k4, hp.k5, hp.k6, hp.k7, hp.k8, hp.k9, hp.k10, hp.l1, hp.l2, hp.l3, hp.l4, hp.l5, hp.l6, hp.l7, hp.l8, hp.l9, hp.l10]) <;> (try omega))) only [↓reduceIte, ↓z_ite, ↓zR, ↓zB_R, ↓zB_B, ↓zB_ite, ↓zB_gI, ↓zB_pI, ↓zB_pZ, ↓zB_aK, ↓zB_G, ↓zB_lI, ↓zB_lZ, ↓zB_wI, ↓zB_wZ, ↓zB_lIl, ↓zB_wIl, zB_pI, zB_pZ, zB_lI, zB_lZ, zB_wI, zB_wZ, z_addl, z_ladd, z_mull, z_lmul, nI_add, z_subl, Nat.not_lt_zero, z_10, z_01, z_bitc, z_b0, z_b1, ↓zB_Gb, ↓zB_G0, ↓zB_G1, z_eql, z_leq, z_ltl, z_llt, z_eq, z_lt, z_m1lt, hX.k0, hX.k8, hX.k9, hX.l9, hp.k, hp.k1, hp.k2, hp.k3, hp.k4, hp.k5, hp.k6, hp.k7, hp.k8, hp.k9, hp.k10, hp.l1, hp.l2, hp.l3, hp.l4, hp.l5, hp.l6, hp.l7, hp.l8, hp.l9, hp.l10, ↓hX.g0_0, ↓hX.g0_1, ↓hX.g0_2, ↓hX.g0_3, ↓hX.g0_4, ↓hX.g0_5, ↓hX.g0_6, ↓hX.g0_7, ↓hX.g0_8, ↓hX.g0_9, ↓hX.g8_0, ↓hp.g0, ↓hp.g1, ↓hp.g2, ↓hp.g3, ↓hp.g4, ↓hp.g5, ↓hp.g6, ↓hp.g7, ↓hp.g8, ↓hp.g9, ↓hp.gb, hp.gb, ↓z_gnow hX hn, z_gnow hX hn, ↓zT_l e1, zT_l e1, ↓zT_l e2, zT_l e2, ↓zT_l e3, zT_l e3]
    exact e4
  · rw [if_neg g3]
    obtain ⟨m1, e3, c1, r1⟩ := c_rr_n hw hI hCM g3
    refine ⟨z_Sx S, m1, ?_, ⟨sn, sx, sp, hI, c1⟩, z_SS.x S, r1⟩
    unfold f146
    simp (disch := ((try simp only [true_or, or_true, hX.k0, hX.k8, hX.k9, hX.l9, hp.k, hp.k1, hp.k2, hp.k3, hp.k4, hp.k5, hp.k6, hp.k7, hp.k8, hp.k9, hp.k10, hp.l1, hp.l2, hp.l3, hp.l4, hp.l5, hp.l6, hp.l7, hp.l8, hp.l9, hp.l10]) <;> (try omega))) only [↓reduceIte, ↓z_ite, ↓zR, ↓zB_R, ↓zB_B, ↓zB_ite, ↓zB_gI, ↓zB_pI, ↓zB_pZ, ↓zB_aK, ↓zB_G, ↓zB_lI, ↓zB_lZ, ↓zB_wI, ↓zB_wZ, ↓zB_lIl, ↓zB_wIl, zB_pI, zB_pZ, zB_lI, zB_lZ, zB_wI, zB_wZ, z_addl, z_ladd, z_mull, z_lmul, nI_add, z_subl, Nat.not_lt_zero, z_10, z_01, z_bitc, z_b0, z_b1, ↓zB_Gb, ↓zB_G0, ↓zB_G1, z_eql, z_leq, z_ltl, z_llt, z_eq, z_lt, z_m1lt, hX.k0, hX.k8, hX.k9, hX.l9, hp.k, hp.k1, hp.k2, hp.k3, hp.k4, hp.k5, hp.k6, hp.k7, hp.k8, hp.k9, hp.k10, hp.l1, hp.l2, hp.l3, hp.l4, hp.l5, hp.l6, hp.l7, hp.l8, hp.l9, hp.l10, ↓hX.g0_0, ↓hX.g0_1, ↓hX.g0_2, ↓hX.g0_3, ↓hX.g0_4, ↓hX.g0_5, ↓hX.g0_6, ↓hX.g0_7, ↓hX.g0_8, ↓hX.g0_9, ↓hX.g8_0, ↓hp.g0, ↓hp.g1, ↓hp.g2, ↓hp.g3, ↓hp.g4, ↓hp.g5, ↓hp.g6, ↓hp.g7, ↓hp.g8, ↓hp.g9, ↓hp.gb, hp.gb, ↓z_gnow hX hn, z_gnow hX hn, ↓zT_l e1, zT_l e1, ↓zT_l e2, zT_l e2, ↓zT_r e3, zT_r e3]
end
