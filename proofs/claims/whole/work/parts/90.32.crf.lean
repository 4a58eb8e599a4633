-- deps: 90.31.sheet
/-! a field renamed: the class, all of it -/
section
variable {S : z_S} {m : z_m} {p q : Nat} {P : z_Pg} {A : z_A}
theorem z_sl_s (P : z_Pg) (f : Nat → Nat) (n : Nat) : z_sl P f (n + 1) = z_sl P f n + (if z_liv P n = true then f n else 0) := rfl
/-- the copy while bodies are written: as it should be, if none was too large -/
def z_wrt (m m' : z_m) (q : Nat) (P1 : z_Pg) (G : Nat → Nat → Int32) (D : Nat → List z_N) (j : Nat) : Prop := (z_big P1 D j = false → z_cp m' q (z_mix P1 G D j)) ∧ z_rm60 m' q ∧ z_oF q m m' ∧ m' q 14 = m q 14
/-- Renamer.nameField -/
theorem f107_sp (hpre : z_Pre S m p q P) (hw : z_wf P) (h60 : z_b60 P) {c f n : Nat} (hc : c < z_nc P) (hf : f < 16) (hn : n < 16) (hfn : f ≠ n) (hex : z_fld P c f ≠ 0) : ∃ m', f107 21 p q (nI c) (nI f) (nI n) (z_hp S m) = some (z_rfR P c f n, z_hp S m') ∧ z_Post m m' q (z_rfR P c f n) (z_rfQ P c f n) := by
  obtain ⟨⟨hX, hp, hq⟩, ⟨lo, lo2, hpq⟩, ⟨hcp, hT⟩, ⟨hcq, h14⟩, hs22, hsh⟩ := hpre
  have h24 := hw.2.2.1
  have h6 := hw.1.1
  have hpk := hp.k
  have hqk := hq.k
  have h22 := hX.2.2.2.1.1
  have h22k := h22.k
  have e87 := f87_sp hp hcp hw hc hn
  have hb60 : ∀ j, j < z_nm P → z_liv P j = true → (z_bd P j).length ≤ 60 := fun j hj _ => h60 j hj
  by_cases ga : z_haf P c n = true
  · have er : z_rfR P c f n = -1 := if_pos ga
    rw [er]
    refine ⟨m, ?_, fun g => absurd (by decide) g, hcq.2.2.1, z_oF.refl q m⟩
    rw [ga] at e87
    unfold f107
    simp (disch := ((try simp only [true_or, or_true, hp.k, hp.k1, hp.k2, hp.k3, hp.k4, hp.k5, hp.k6, hp.k7, hp.k8, hp.k9, hp.k10, hp.l1, hp.l2, hp.l3, hp.l4, hp.l5, hp.l6, hp.l7, hp.l8, hp.l9, hp.l10, hpk]) <;> (try omega))) only [↓reduceIte, ↓z_ite, ↓zR, ↓zB_R, ↓zB_B, ↓zB_ite, ↓zB_gI, ↓zB_pI, ↓zB_pZ, ↓zB_aK, ↓zB_G, ↓zB_lI, ↓zB_lZ, ↓zB_wI, ↓zB_wZ, ↓zB_lIl, ↓zB_wIl, zB_pI, zB_pZ, zB_lI, zB_lZ, zB_wI, zB_wZ, z_addl, z_ladd, z_mull, z_lmul, nI_add, z_subl, Nat.not_lt_zero, z_10, z_01, z_bitc, z_b0, z_b1, ↓zB_Gb, ↓zB_G0, ↓zB_G1, z_eql, z_leq, z_ltl, z_llt, z_eq, z_lt, z_m1lt, hp.k, hp.k1, hp.k2, hp.k3, hp.k4, hp.k5, hp.k6, hp.k7, hp.k8, hp.k9, hp.k10, hp.l1, hp.l2, hp.l3, hp.l4, hp.l5, hp.l6, hp.l7, hp.l8, hp.l9, hp.l10, hpk, ↓hp.g0, ↓hp.g1, ↓hp.g2, ↓hp.g3, ↓hp.g4, ↓hp.g5, ↓hp.g6, ↓hp.g7, ↓hp.g8, ↓hp.g9, ↓hp.gb, hp.gb, ↓zB_c e87, zB_c e87, Bool.true_eq_false]
  · have ga' : z_haf P c n = false := by simpa using ga
    rw [ga'] at e87
    obtain ⟨m0, e73, cq0, fr0⟩ := f73_sp hq hcq hw hc hf hn hfn hex
    have hF0 : z_oF q m m0 := ⟨fun a _ _ x => fr0 a (by omega), by rw [fr0 22 (by omega)], by rw [fr0 30 (by omega)], by rw [fr0 38 (by omega)], by rw [fr0 54 (by omega)]⟩
    have hsum : ∀ k, k ≤ z_nm P → z_rfC P c f k ≤ k * 60 := fun k hk => z_sl_le k (fun j hj hlj => Nat.le_trans (z_ct_le _) (hb60 j (by omega) hlj))
    have key := z_loopI (f := fun s => f107_30b (s.1) (s.2.1) (s.2.2.1) (s.2.2.2.1) (s.2.2.2.2.1) (s.2.2.2.2.2.1) (s.2.2.2.2.2.2.1) (s.2.2.2.2.2.2.2.1) (s.2.2.2.2.2.2.2.2)) (S := S) (fun k st m' => ∃ j, k = z_nm P - j ∧ j ≤ z_nm P ∧ st = (21, p, q, nI c, nI f, nI n, nI (z_rfC P c f j), z_b (z_big P (z_rfD P c f n) j), nI j) ∧ z_wrt m m' q (z_mvF P c f n) (z_hd P) (z_rfD P c f n) j) (fun r m' => r = z_rfR P c f n ∧ z_wrt m m' q (z_mvF P c f n) (z_hd P) (z_rfD P c f n) (z_nm P)) ?_ 1000000 (z_nm P) (21, p, q, nI c, nI f, nI n, 0, 0, 0) m0 ⟨0, rfl, Nat.zero_le _, rfl, fun _ => by rw [z_mix_0]; exact cq0, cq0.2.2.1, hF0, by rw [fr0 q (by omega)]⟩ (by omega)
    · obtain ⟨r, m', e, rfl, g1, g2, g3, g4⟩ := key
      refine ⟨m', ?_, fun gr => ?_, g2, g3⟩
      · unfold f107 f107_30
        simp (disch := ((try simp only [true_or, or_true, hp.k, hp.k1, hp.k2, hp.k3, hp.k4, hp.k5, hp.k6, hp.k7, hp.k8, hp.k9, hp.k10, hp.l1, hp.l2, hp.l3, hp.l4, hp.l5, hp.l6, hp.l7, hp.l8, hp.l9, hp.l10, hpk, hqk]) <;> (try omega))) only [↓reduceIte, ↓z_ite, ↓zR, ↓zB_R, ↓zB_B, ↓zB_ite, ↓zB_gI, ↓zB_pI, ↓zB_pZ, ↓zB_aK, ↓zB_G, ↓zB_lI, ↓zB_lZ, ↓zB_wI, ↓zB_wZ, ↓zB_lIl, ↓zB_wIl, zB_pI, zB_pZ, zB_lI, zB_lZ, zB_wI, zB_wZ, z_addl, z_ladd, z_mull, z_lmul, nI_add, z_subl, Nat.not_lt_zero, z_10, z_01, z_bitc, z_b0, z_b1, ↓zB_Gb, ↓zB_G0, ↓zB_G1, z_eql, z_leq, z_ltl, z_llt, z_eq, z_lt, z_m1lt, hp.k, hp.k1, hp.k2, hp.k3, hp.k4, hp.k5, hp.k6, hp.k7, hp.k8, hp.k9, hp.k10, hp.l1, hp.l2, hp.l3, hp.l4, hp.l5, hp.l6, hp.l7, hp.l8, hp.l9, hp.l10, hpk, hqk, ↓hp.g0, ↓hp.g1, ↓hp.g2, ↓hp.g3, ↓hp.g4, ↓hp.g5, ↓hp.g6, ↓hp.g7, ↓hp.g8, ↓hp.g9, ↓hp.gb, hp.gb, ↓zB_c e87, zB_c e87, ↓zB_c e73, zB_c e73]
        exact e
      · have gb : z_big P (z_rfD P c f n) (z_nm P) = false := by
          cases q : z_big P (z_rfD P c f n) (z_nm P) with
          | false => rfl
          | true =>
            have : z_rfR P c f n = -6 := by unfold z_rfR; rw [if_neg ga, if_pos q]
            rw [this] at gr; exact absurd (by decide) gr
        exact z_PK_0 (g1 gb) (by rw [g4]; exact h14)
    · rintro k st m1 ⟨j, rfl, hj, rfl, g1, g2, g3, g4⟩
      have hcp1 := g3.cp hw lo (by omega) hcp
      have hT1 := g3.LT hw lo (by omega) hT
      have h01 := hcp1.2.1.1
      have hle := hsum j hj
      dsimp only
      rcases Nat.eq_or_lt_of_le hj with hj2 | hj2
      · refine Or.inr ⟨_, m1, ?_, rfl, by rw [hj2] at g1; exact g1, g2, g3, g4⟩
        rw [hj2]
        unfold f107_30b f107_194 f107_206
        cases gb : z_big P (z_rfD P c f n) (z_nm P) with
        | false =>
          have er : z_rfR P c f n = nI (z_rfC P c f (z_nm P)) := by unfold z_rfR; rw [if_neg ga, gb]; rfl
          rw [er]
          simp (disch := ((try simp only [true_or, or_true, hp.k, hp.k1, hp.k2, hp.k3, hp.k4, hp.k5, hp.k6, hp.k7, hp.k8, hp.k9, hp.k10, hp.l1, hp.l2, hp.l3, hp.l4, hp.l5, hp.l6, hp.l7, hp.l8, hp.l9, hp.l10]) <;> (try omega))) only [↓reduceIte, ↓z_ite, ↓zR, ↓zB_R, ↓zB_B, ↓zB_ite, ↓zB_gI, ↓zB_pI, ↓zB_pZ, ↓zB_aK, ↓zB_G, ↓zB_lI, ↓zB_lZ, ↓zB_wI, ↓zB_wZ, ↓zB_lIl, ↓zB_wIl, zB_pI, zB_pZ, zB_lI, zB_lZ, zB_wI, zB_wZ, z_addl, z_ladd, z_mull, z_lmul, nI_add, z_subl, Nat.not_lt_zero, z_10, z_01, z_bitc, z_b0, z_b1, ↓zB_Gb, ↓zB_G0, ↓zB_G1, z_eql, z_leq, z_ltl, z_llt, z_eq, z_lt, z_m1lt, hp.k, hp.k1, hp.k2, hp.k3, hp.k4, hp.k5, hp.k6, hp.k7, hp.k8, hp.k9, hp.k10, hp.l1, hp.l2, hp.l3, hp.l4, hp.l5, hp.l6, hp.l7, hp.l8, hp.l9, hp.l10, ↓hp.g0, ↓hp.g1, ↓hp.g2, ↓hp.g3, ↓hp.g4, ↓hp.g5, ↓hp.g6, ↓hp.g7, ↓hp.g8, ↓hp.g9, ↓hp.gb, hp.gb, h01, Nat.lt_irrefl]
        | true =>
          have er : z_rfR P c f n = -6 := by unfold z_rfR; rw [if_neg ga, gb]; rfl
          rw [er]
          simp (disch := ((try simp only [true_or, or_true, hp.k, hp.k1, hp.k2, hp.k3, hp.k4, hp.k5, hp.k6, hp.k7, hp.k8, hp.k9, hp.k10, hp.l1, hp.l2, hp.l3, hp.l4, hp.l5, hp.l6, hp.l7, hp.l8, hp.l9, hp.l10]) <;> (try omega))) only [↓reduceIte, ↓z_ite, ↓zR, ↓zB_R, ↓zB_B, ↓zB_ite, ↓zB_gI, ↓zB_pI, ↓zB_pZ, ↓zB_aK, ↓zB_G, ↓zB_lI, ↓zB_lZ, ↓zB_wI, ↓zB_wZ, ↓zB_lIl, ↓zB_wIl, zB_pI, zB_pZ, zB_lI, zB_lZ, zB_wI, zB_wZ, z_addl, z_ladd, z_mull, z_lmul, nI_add, z_subl, Nat.not_lt_zero, z_10, z_01, z_bitc, z_b0, z_b1, ↓zB_Gb, ↓zB_G0, ↓zB_G1, z_eql, z_leq, z_ltl, z_llt, z_eq, z_lt, z_m1lt, hp.k, hp.k1, hp.k2, hp.k3, hp.k4, hp.k5, hp.k6, hp.k7, hp.k8, hp.k9, hp.k10, hp.l1, hp.l2, hp.l3, hp.l4, hp.l5, hp.l6, hp.l7, hp.l8, hp.l9, hp.l10, ↓hp.g0, ↓hp.g1, ↓hp.g2, ↓hp.g3, ↓hp.g4, ↓hp.g5, ↓hp.g6, ↓hp.g7, ↓hp.g8, ↓hp.g9, ↓hp.gb, hp.gb, h01, Nat.lt_irrefl, Bool.true_eq_false]
      · have e79 := f79_sp hp hcp1 (k := j) (by omega)
        have ethr : z_thr P j = z_liv P j := by unfold z_thr; rw [decide_eq_true hj2, Bool.true_and]
        rw [ethr] at e79
        cases glj : z_liv P j with
        | false =>
          rw [glj] at e79
          refine Or.inl ⟨(21, p, q, nI c, nI f, nI n, nI (z_rfC P c f (j + 1)), z_b (z_big P (z_rfD P c f n) (j + 1)), nI (j + 1)), m1, z_nm P - (j + 1), ?_, by omega, j + 1, rfl, hj2, rfl, ?_, g2, g3, g4⟩
          · have ec : z_rfC P c f (j + 1) = z_rfC P c f j := by unfold z_rfC; rw [z_sl_s, glj]; rfl
            have eb : z_big P (z_rfD P c f n) (j + 1) = z_big P (z_rfD P c f n) j := by rw [z_big_s, glj]; simp
            rw [ec, eb]
            unfold f107_30b f107_188
            simp (disch := ((try simp only [true_or, or_true, hp.k, hp.k1, hp.k2, hp.k3, hp.k4, hp.k5, hp.k6, hp.k7, hp.k8, hp.k9, hp.k10, hp.l1, hp.l2, hp.l3, hp.l4, hp.l5, hp.l6, hp.l7, hp.l8, hp.l9, hp.l10, hpk]) <;> (try omega))) only [↓reduceIte, ↓z_ite, ↓zR, ↓zB_R, ↓zB_B, ↓zB_ite, ↓zB_gI, ↓zB_pI, ↓zB_pZ, ↓zB_aK, ↓zB_G, ↓zB_lI, ↓zB_lZ, ↓zB_wI, ↓zB_wZ, ↓zB_lIl, ↓zB_wIl, zB_pI, zB_pZ, zB_lI, zB_lZ, zB_wI, zB_wZ, z_addl, z_ladd, z_mull, z_lmul, nI_add, z_subl, Nat.not_lt_zero, z_10, z_01, z_bitc, z_b0, z_b1, ↓zB_Gb, ↓zB_G0, ↓zB_G1, z_eql, z_leq, z_ltl, z_llt, z_eq, z_lt, z_m1lt, hp.k, hp.k1, hp.k2, hp.k3, hp.k4, hp.k5, hp.k6, hp.k7, hp.k8, hp.k9, hp.k10, hp.l1, hp.l2, hp.l3, hp.l4, hp.l5, hp.l6, hp.l7, hp.l8, hp.l9, hp.l10, hpk, ↓hp.g0, ↓hp.g1, ↓hp.g2, ↓hp.g3, ↓hp.g4, ↓hp.g5, ↓hp.g6, ↓hp.g7, ↓hp.g8, ↓hp.g9, ↓hp.gb, hp.gb, h01, hj2, ↓zB_c e79, zB_c e79]
          · intro gb
            have gb : z_big P (z_rfD P c f n) (j + 1) = false := gb
            rw [z_big_s, glj, Bool.false_and, Bool.or_false] at gb
            rw [z_mix_n (show z_liv (z_mvF P c f n) j = false from glj)]; exact g1 gb
        | true =>
          rw [glj] at e79
          have s22 : m1 22 6 = nI 256 := by rw [g3.2.1]; exact hs22
          obtain ⟨m2, e1, cb2, F2⟩ := f1_sp h22 s22 (by decide)
          have hcp2 : z_cp m2 p P := F2.cp (by omega) h24 hcp1
          have hT2 : z_LT m2 p P := z_LT_fr hw (fun a x1 x2 => F2.at (by omega)) hT1
          obtain ⟨m3, e70, cb3, F3⟩ := f107_70_sp (q := q) (n := n) hX hp lo hcp2 hT2 hw hj2 glj cb2 (z_rfC P c f j) (by omega) (z_b (z_big P (z_rfD P c f n) j))
          have F23 := F2.trans F3
          have hF3 := g3.trans (F23.oF (Or.inl rfl) q lo2)
          obtain ⟨m4, e7, r4, F4, c4⟩ := z_take hq h22 (by omega) (show j < 24 by omega) (F23.rm (by omega) g2) cb3
          have hF4 := hF3.trans (F4.oF2 (by omega) lo2)
          have hbqk := (hq.B (k := j) (by omega)).k
          have hpbk := hp.k
          refine Or.inl ⟨(21, p, q, nI c, nI f, nI n, nI (z_rfC P c f (j + 1)), z_b (z_big P (z_rfD P c f n) (j + 1)), nI (j + 1)), m4, z_nm P - (j + 1), ?_, by omega, j + 1, rfl, hj2, rfl, fun gb => ?_, r4, hF4, ?_⟩
          · have ec : z_rfC P c f (j + 1) = z_rfC P c f j + z_ct (z_rfb P c f j) (z_bd P j).length := by unfold z_rfC; rw [z_sl_s, glj]; rfl
            rw [ec, z_big_s, glj, Bool.true_and]
            have st : f107_30b 21 p q (nI c) (nI f) (nI n) (nI (z_rfC P c f j)) (z_b (z_big P (z_rfD P c f n) j)) (nI j) (z_hp S m1) = f107_168 21 p q (nI c) (nI f) (nI n) (nI (z_rfC P c f j + z_ct (z_rfb P c f j) (z_bd P j).length)) (z_b (z_big P (z_rfD P c f n) j)) (nI j) (z_hp S m3) := by
              unfold f107_30b
              simp (disch := ((try simp only [true_or, or_true, hp.k, hp.k1, hp.k2, hp.k3, hp.k4, hp.k5, hp.k6, hp.k7, hp.k8, hp.k9, hp.k10, hp.l1, hp.l2, hp.l3, hp.l4, hp.l5, hp.l6, hp.l7, hp.l8, hp.l9, hp.l10, hX.k21, hpk, h22k]) <;> (try omega))) only [↓reduceIte, ↓z_ite, ↓zR, ↓zB_R, ↓zB_B, ↓zB_ite, ↓zB_gI, ↓zB_pI, ↓zB_pZ, ↓zB_aK, ↓zB_G, ↓zB_lI, ↓zB_lZ, ↓zB_wI, ↓zB_wZ, ↓zB_lIl, ↓zB_wIl, zB_pI, zB_pZ, zB_lI, zB_lZ, zB_wI, zB_wZ, z_addl, z_ladd, z_mull, z_lmul, nI_add, z_subl, Nat.not_lt_zero, z_10, z_01, z_bitc, z_b0, z_b1, ↓zB_Gb, ↓zB_G0, ↓zB_G1, z_eql, z_leq, z_ltl, z_llt, z_eq, z_lt, z_m1lt, hp.k, hp.k1, hp.k2, hp.k3, hp.k4, hp.k5, hp.k6, hp.k7, hp.k8, hp.k9, hp.k10, hp.l1, hp.l2, hp.l3, hp.l4, hp.l5, hp.l6, hp.l7, hp.l8, hp.l9, hp.l10, hX.k21, hpk, h22k, ↓hp.g0, ↓hp.g1, ↓hp.g2, ↓hp.g3, ↓hp.g4, ↓hp.g5, ↓hp.g6, ↓hp.g7, ↓hp.g8, ↓hp.g9, ↓hp.gb, hp.gb, ↓hX.g21_0, h01, hj2, ↓zB_c e79, zB_c e79, Bool.true_eq_false, h24, ↓zB_c e1, zB_c e1]
              exact e70
            rw [st]
            unfold f107_168 f107_188
            by_cases g60 : (z_rfD P c f n j).length ≤ 60
            · rw [decide_eq_true g60] at e7
              rw [decide_eq_false (show ¬ 60 < (z_rfD P c f n j).length by omega), Bool.or_false]
              simp (disch := ((try simp only [true_or, or_true, hq.k, hq.k1, hq.k2, hq.k3, hq.k4, hq.k5, hq.k6, hq.k7, hq.k8, hq.k9, hq.k10, hq.l1, hq.l2, hq.l3, hq.l4, hq.l5, hq.l6, hq.l7, hq.l8, hq.l9, hq.l10, hX.k21, hbqk, h22k]) <;> (try omega))) only [↓reduceIte, ↓z_ite, ↓zR, ↓zB_R, ↓zB_B, ↓zB_ite, ↓zB_gI, ↓zB_pI, ↓zB_pZ, ↓zB_aK, ↓zB_G, ↓zB_lI, ↓zB_lZ, ↓zB_wI, ↓zB_wZ, ↓zB_lIl, ↓zB_wIl, zB_pI, zB_pZ, zB_lI, zB_lZ, zB_wI, zB_wZ, z_addl, z_ladd, z_mull, z_lmul, nI_add, z_subl, Nat.not_lt_zero, z_10, z_01, z_bitc, z_b0, z_b1, ↓zB_Gb, ↓zB_G0, ↓zB_G1, z_eql, z_leq, z_ltl, z_llt, z_eq, z_lt, z_m1lt, hq.k, hq.k1, hq.k2, hq.k3, hq.k4, hq.k5, hq.k6, hq.k7, hq.k8, hq.k9, hq.k10, hq.l1, hq.l2, hq.l3, hq.l4, hq.l5, hq.l6, hq.l7, hq.l8, hq.l9, hq.l10, hX.k21, hbqk, h22k, ↓hq.g0, ↓hq.g1, ↓hq.g2, ↓hq.g3, ↓hq.g4, ↓hq.g5, ↓hq.g6, ↓hq.g7, ↓hq.g8, ↓hq.g9, ↓hq.gb, hq.gb, ↓hX.g21_0, h24, hj2, ↓zB_c e7, zB_c e7, Bool.true_eq_false]
            · rw [decide_eq_false g60] at e7
              rw [decide_eq_true (show 60 < (z_rfD P c f n j).length by omega), Bool.or_true]
              simp (disch := ((try simp only [true_or, or_true, hq.k, hq.k1, hq.k2, hq.k3, hq.k4, hq.k5, hq.k6, hq.k7, hq.k8, hq.k9, hq.k10, hq.l1, hq.l2, hq.l3, hq.l4, hq.l5, hq.l6, hq.l7, hq.l8, hq.l9, hq.l10, hX.k21, hbqk, h22k]) <;> (try omega))) only [↓reduceIte, ↓z_ite, ↓zR, ↓zB_R, ↓zB_B, ↓zB_ite, ↓zB_gI, ↓zB_pI, ↓zB_pZ, ↓zB_aK, ↓zB_G, ↓zB_lI, ↓zB_lZ, ↓zB_wI, ↓zB_wZ, ↓zB_lIl, ↓zB_wIl, zB_pI, zB_pZ, zB_lI, zB_lZ, zB_wI, zB_wZ, z_addl, z_ladd, z_mull, z_lmul, nI_add, z_subl, Nat.not_lt_zero, z_10, z_01, z_bitc, z_b0, z_b1, ↓zB_Gb, ↓zB_G0, ↓zB_G1, z_eql, z_leq, z_ltl, z_llt, z_eq, z_lt, z_m1lt, hq.k, hq.k1, hq.k2, hq.k3, hq.k4, hq.k5, hq.k6, hq.k7, hq.k8, hq.k9, hq.k10, hq.l1, hq.l2, hq.l3, hq.l4, hq.l5, hq.l6, hq.l7, hq.l8, hq.l9, hq.l10, hX.k21, hbqk, h22k, ↓hq.g0, ↓hq.g1, ↓hq.g2, ↓hq.g3, ↓hq.g4, ↓hq.g5, ↓hq.g6, ↓hq.g7, ↓hq.g8, ↓hq.g9, ↓hq.gb, hq.gb, ↓hX.g21_0, h24, hj2, ↓zB_c e7, zB_c e7]
              rfl
          · have gb : z_big P (z_rfD P c f n) (j + 1) = false := gb
            rw [z_big_s, glj, Bool.true_and] at gb
            obtain ⟨gb1, gb2⟩ := Bool.or_eq_false_iff.mp gb
            have g60 : (z_rfD P c f n j).length ≤ 60 := by have := of_decide_eq_false gb2; omega
            have hl1 : z_liv (z_mvF P c f n) j = true := glj
            rw [z_mix_s hl1]
            have hmh : ∀ w, z_hd (z_mix (z_mvF P c f n) (z_hd P) (z_rfD P c f n) j) j w = z_hd P j w := fun w => by rw [z_mix_hd, if_neg (by omega)]; rfl
            have hml : z_liv (z_mix (z_mvF P c f n) (z_hd P) (z_rfD P c f n) j) j = true := by unfold z_liv; rw [hmh]; exact glj
            have := c4 (z_mix (z_mvF P c f n) (z_hd P) (z_rfD P c f n) j) (F23.cp (Pj := z_mix (z_mvF P c f n) (z_hd P) (z_rfD P c f n) j) (by omega) h24 (g1 gb1)) (fun k hk => by
              have hk : k < z_nm P := hk
              have := (hw.2.2.2.1 k hk).2.2.2.1.1
              unfold z_cnt
              rw [z_mix_hd]
              split <;> exact this) hj2 hml g60
            have eh : z_hd (z_mix (z_mvF P c f n) (z_hd P) (z_rfD P c f n) j) j = z_hd P j := funext hmh
            rw [eh] at this; exact this
          · rw [F4.1 q (by unfold z_bi; omega) (by unfold z_bi; omega) (by unfold z_bi; omega) (by unfold z_bi; omega), F23.at (by omega)]; exact g4
/-! the result -/
theorem z_mvF_wf (hw : z_wf P) {c f n : Nat} (hc : c < z_nc P) (hf : f < 16) : z_wf (z_mvF P c f n) := by
  refine ⟨hw.1, fun c' n' hc' hn' => ?_, hw.2.2.1, fun k hk => hw.2.2.2.1 k hk, hw.2.2.2.2.1, hw.2.2.2.2.2⟩
  show (if c' = c ∧ n' = n then z_fld P c f else if c' = c ∧ n' = f then 0 else z_fld P c' n') = 0 ∨ ∃ t, z_ty (z_mvF P c f n) t ∧ (if c' = c ∧ n' = n then z_fld P c f else if c' = c ∧ n' = f then 0 else z_fld P c' n') = t + 2
  split
  · exact hw.2.1 c f hc hf
  · split
    · exact Or.inl rfl
    · exact hw.2.1 c' n' hc' hn'
/-- a node that is bound to a field has a name -/
theorem z_rfb_k {c f j i : Nat} (h : z_rfb P c f j i = true) : z_k (z_bd P j) i = 1 ∨ z_k (z_bd P j) i = 6 ∨ z_k (z_bd P j) i = 3 ∨ z_k (z_bd P j) i = 4 := by
  unfold z_rfb z_isBF z_isV at h
  have := (Bool.and_eq_true_iff.mp h).1
  simp only [Bool.or_eq_true, beq_iff_eq] at this
  rcases this with (g | g) | g | g <;> simp [g]
theorem z_a_0 {nc : Nat} {l : List z_N} {i : Nat} (hB : z_wB nc l) (hi : i < l.length) (h : z_k l i ≠ 7) : z_a l i = 0 := by
  have := (z_wN_at hB hi).2.1
  rw [if_neg (show ¬ (z_at l i).1 = 7 from h)] at this
  exact this
theorem z_rfQ_ok (hw : z_wf P) (h60 : z_b60 P) {c f n : Nat} (hc : c < z_nc P) (hf : f < 16) (hn : n < 16) (hb : z_big P (z_rfD P c f n) (z_nm P) = false) : z_wf (z_rfQ P c f n) ∧ z_b60 (z_rfQ P c f n) := by
  have hw1 := z_mvF_wf (n := n) hw hc hf
  refine ⟨z_mix_wf hw1 (fun j hj hl => ⟨by have hl : z_liv P j = true := hl; simpa [z_liv] using hl, z_wHf_of (hw1.2.2.2.1 j hj)⟩) (fun j hj hl => ?_) (fun i j hi hj hli hlj e2 e3 eo => hw.2.2.2.2.2 i j hi hj hli hlj e2 e3 eo), z_mix_b60 (P := z_mvF P c f n) h60 (fun j hj hl => z_big_f hb hj hl)⟩
  have hj : j < z_nm P := hj
  have hB := hw.2.2.2.2.1 j hj
  refine z_cat_wB hB (fun i hi => ?_)
  have hN := z_wN_at hB hi
  unfold z_rfg
  cases g : z_rfb P c f j i with
  | false =>
    rw [if_neg (by decide)]
    exact ⟨z_net.refl _, fun x hx => by rw [List.mem_singleton.mp hx]; exact hN⟩
  | true =>
    rw [if_pos rfl]
    have hk := z_rfb_k g
    by_cases g2 : (z_isV (z_bd P j) i && z_hl P j i (nI n)) = true
    · rw [if_pos g2]
      have hkv : z_k (z_bd P j) i = 1 ∨ z_k (z_bd P j) i = 6 := by
        have := (Bool.and_eq_true_iff.mp g2).1
        unfold z_isV at this
        simpa [Bool.or_eq_true, beq_iff_eq] using this
      refine ⟨?_, z_pln_wN ⟨n, hn, rfl⟩⟩
      have ha := z_a_0 hB hi (by rcases hkv with q | q <;> rw [q] <;> decide)
      have := z_net_pln (name := nI n) (v := z_v (z_bd P j) i) hkv ha
      exact this
    · rw [if_neg g2]
      refine ⟨z_net_1 rfl, fun x hx => ?_⟩
      rw [List.mem_singleton.mp hx]
      exact z_wN_nm hN (by
        show z_k (z_bd P j) i ≠ 8
        rcases hk with q | q | q | q <;> rw [q] <;> decide) ⟨n, hn, rfl⟩
noncomputable def z_orenF (A : z_A) (c f x : Int32) : (Int32 ⊕ Nat) × z_A :=
  if z_in c (z_nc A.2.1) = false then (.inr 2, A)
  else if z_in f 16 = false ∨ z_fld A.2.1 c.toNatClampNeg f.toNatClampNeg = 0 then (.inr 2, A)
  else if z_in x 16 = false ∨ x = f then (.inr 1, A)
  else if z_wr A.2.1 = -1 then z_rf A (z_rfR A.2.1 c.toNatClampNeg f.toNatClampNeg x.toNatClampNeg) (z_rfQ A.2.1 c.toNatClampNeg f.toNatClampNeg x.toNatClampNeg)
  else (.inr 0, A)
/-- requireField -/
theorem f168_y (hX : z_XS S) (hn : z_rm S 0 10 = some p) (hp : z_PS S p) (h : z_cp m p P) (hw : z_wf P) {c f : Nat} (hc : c < z_nc P) (hf : f < 16) (hex : z_fld P c f ≠ 0) : f168 0 (nI c) (nI f) (z_hp S m) = some (.inl (), z_hp S m) := by
  have h6 := hw.1.1
  have hpk := hp.k
  have e1 := f162_y hX hn hp h (x := nI c) ((z_in_iff (by omega)).mpr ⟨c, hc, rfl⟩)
  have e2 := f85_sp hp h hw hc (nI f)
  rw [if_pos ((z_in_iff (by decide)).mpr ⟨f, hf, rfl⟩), nI_clamp (by omega)] at e2
  have hne : ¬ z_ft P c f = -3 := fun q => hex ((z_ft_m3 hw hc hf).mp q)
  unfold f168
  simp (disch := ((try simp only [true_or, or_true, hX.k0, hX.k1, hX.k2, hX.k3, hX.k4, hX.k5, hX.k6, hX.k7, hX.l2, hX.l3, hX.l4, hX.l5, hX.l6, hX.l7, hpk]) <;> (try omega))) only [↓reduceIte, ↓z_ite, ↓zR, ↓zB_R, ↓zB_B, ↓zB_ite, ↓zB_gI, ↓zB_pI, ↓zB_pZ, ↓zB_aK, ↓zB_G, ↓zB_lI, ↓zB_lZ, ↓zB_wI, ↓zB_wZ, ↓zB_lIl, ↓zB_wIl, zB_pI, zB_pZ, zB_lI, zB_lZ, zB_wI, zB_wZ, z_addl, z_ladd, z_mull, z_lmul, nI_add, z_subl, Nat.not_lt_zero, z_10, z_01, z_bitc, z_b0, z_b1, ↓zB_Gb, ↓zB_G0, ↓zB_G1, z_eql, z_leq, z_ltl, z_llt, z_eq, z_lt, z_m1lt, hX.k0, hX.k1, hX.k2, hX.k3, hX.k4, hX.k5, hX.k6, hX.k7, hX.l2, hX.l3, hX.l4, hX.l5, hX.l6, hX.l7, hpk, ↓hX.g0_0, ↓hX.g0_1, ↓hX.g0_2, ↓hX.g0_3, ↓hX.g0_4, ↓hX.g0_5, ↓hX.g0_6, ↓hX.g0_7, ↓hX.g0_8, ↓hX.g0_9, ↓hX.g1_0, ↓hX.g1_1, ↓hX.g1_2, ↓hX.g1_3, ↓hX.g1_4, ↓hX.g1_5, ↓zT_l e1, zT_l e1, ↓z_gnow hX hn, z_gnow hX hn, ↓zB_c e2, zB_c e2, hne]
theorem f168_n1 (hX : z_XS S) (hn : z_rm S 0 10 = some p) (hp : z_PS S p) (h : z_cp m p P) {c f : Int32} (hc : z_in c (z_nc P) = false) : f168 0 c f (z_hp S m) = some (.inr 2, z_hp (z_Sx S) m) := by
  unfold f168
  simp (disch := ((try simp only [true_or, or_true, hX.k0, hX.k1, hX.k2, hX.k3, hX.k4, hX.k5, hX.k6, hX.k7, hX.l2, hX.l3, hX.l4, hX.l5, hX.l6, hX.l7]) <;> (try omega))) only [↓reduceIte, ↓z_ite, ↓zR, ↓zB_R, ↓zB_B, ↓zB_ite, ↓zB_gI, ↓zB_pI, ↓zB_pZ, ↓zB_aK, ↓zB_G, ↓zB_lI, ↓zB_lZ, ↓zB_wI, ↓zB_wZ, ↓zB_lIl, ↓zB_wIl, zB_pI, zB_pZ, zB_lI, zB_lZ, zB_wI, zB_wZ, z_addl, z_ladd, z_mull, z_lmul, nI_add, z_subl, Nat.not_lt_zero, z_10, z_01, z_bitc, z_b0, z_b1, ↓zB_Gb, ↓zB_G0, ↓zB_G1, z_eql, z_leq, z_ltl, z_llt, z_eq, z_lt, z_m1lt, hX.k0, hX.k1, hX.k2, hX.k3, hX.k4, hX.k5, hX.k6, hX.k7, hX.l2, hX.l3, hX.l4, hX.l5, hX.l6, hX.l7, ↓hX.g0_0, ↓hX.g0_1, ↓hX.g0_2, ↓hX.g0_3, ↓hX.g0_4, ↓hX.g0_5, ↓hX.g0_6, ↓hX.g0_7, ↓hX.g0_8, ↓hX.g0_9, ↓hX.g1_0, ↓hX.g1_1, ↓hX.g1_2, ↓hX.g1_3, ↓hX.g1_4, ↓hX.g1_5, ↓zT_r (f162_n hX hn hp h hc), zT_r (f162_n hX hn hp h hc)]
theorem f168_n2 (hX : z_XS S) (hn : z_rm S 0 10 = some p) (hp : z_PS S p) (h : z_cp m p P) (hw : z_wf P) {c : Nat} {f : Int32} (hc : c < z_nc P) (hf : z_in f 16 = false ∨ z_fld P c f.toNatClampNeg = 0) : f168 0 (nI c) f (z_hp S m) = some (.inr 2, z_hp (z_Sx S) m) := by
  have h6 := hw.1.1
  have hpk := hp.k
  have e1 := f162_y hX hn hp h (x := nI c) ((z_in_iff (by omega)).mpr ⟨c, hc, rfl⟩)
  have e2 := f85_sp hp h hw hc f
  have e3 : f85 p (nI c) f (z_hp S m) = some (-3, z_hp S m) := by
    rw [e2]
    cases g : z_in f 16 with
    | false => rw [if_neg (by decide)]
    | true =>
      rw [if_pos rfl]
      obtain ⟨f', hf', rfl⟩ := (z_in_iff (by decide)).mp g
      rw [nI_clamp (by omega)] at hf ⊢
      have : z_fld P c f' = 0 := hf.resolve_left (by rw [g]; decide)
      rw [(z_ft_m3 hw hc hf').mpr this]
  unfold f168
  simp (disch := ((try simp only [true_or, or_true, hX.k0, hX.k1, hX.k2, hX.k3, hX.k4, hX.k5, hX.k6, hX.k7, hX.l2, hX.l3, hX.l4, hX.l5, hX.l6, hX.l7, hpk]) <;> (try omega))) only [↓reduceIte, ↓z_ite, ↓zR, ↓zB_R, ↓zB_B, ↓zB_ite, ↓zB_gI, ↓zB_pI, ↓zB_pZ, ↓zB_aK, ↓zB_G, ↓zB_lI, ↓zB_lZ, ↓zB_wI, ↓zB_wZ, ↓zB_lIl, ↓zB_wIl, zB_pI, zB_pZ, zB_lI, zB_lZ, zB_wI, zB_wZ, z_addl, z_ladd, z_mull, z_lmul, nI_add, z_subl, Nat.not_lt_zero, z_10, z_01, z_bitc, z_b0, z_b1, ↓zB_Gb, ↓zB_G0, ↓zB_G1, z_eql, z_leq, z_ltl, z_llt, z_eq, z_lt, z_m1lt, hX.k0, hX.k1, hX.k2, hX.k3, hX.k4, hX.k5, hX.k6, hX.k7, hX.l2, hX.l3, hX.l4, hX.l5, hX.l6, hX.l7, hpk, ↓hX.g0_0, ↓hX.g0_1, ↓hX.g0_2, ↓hX.g0_3, ↓hX.g0_4, ↓hX.g0_5, ↓hX.g0_6, ↓hX.g0_7, ↓hX.g0_8, ↓hX.g0_9, ↓hX.g1_0, ↓hX.g1_1, ↓hX.g1_2, ↓hX.g1_3, ↓hX.g1_4, ↓hX.g1_5, ↓zT_l e1, zT_l e1, ↓z_gnow hX hn, z_gnow hX hn, ↓zB_c e3, zB_c e3, z_thw]
theorem c_renF (hw : z_WA A) (h : z_CR S m A) (c f x : Int32) : ∃ S1 m1, f141 0 c f x (z_hp S m) = some ((z_orenF A c f x).1, z_hp S1 m1) ∧ z_CR S1 m1 (z_orenF A c f x).2 ∧ z_SS S S1 ∧ ∀ a, 2390 ≤ a → m1 a = m a := by
  have h0 := h
  obtain ⟨sn, sx, sp, hI, hCM⟩ := h0
  have hX := hI.1
  have hp := hI.2.2.1 sn hI.2.2.2.1.1
  have hn := hI.2.2.2.2.2.1
  have hc := hCM.2.2.1.1.1
  have hwf := hw.2.1.1
  have h24 := hwf.2.2.1
  have h6 := hwf.1.1
  have ref : ∀ E, f141 0 c f x (z_hp S m) = some (.inr E, z_hp (z_Sx S) m) → ∃ S1 m1, f141 0 c f x (z_hp S m) = some ((((.inr E, A) : (Int32 ⊕ Nat) × z_A)).1, z_hp S1 m1) ∧ z_CR S1 m1 (((.inr E, A) : (Int32 ⊕ Nat) × z_A)).2 ∧ z_SS S S1 ∧ ∀ a, 2390 ≤ a → m1 a = m a := fun E e => ⟨z_Sx S, m, e, z_CR_x h, z_SS.x S, fun _ _ => rfl⟩
  unfold z_orenF
  by_cases g1 : z_in c (z_nc A.2.1) = false
  · rw [if_pos g1]
    refine ref 2 ?_
    unfold f141
    simp (disch := ((try simp only [true_or, or_true, hX.k0, hX.k8, hX.k9, hX.l9]) <;> (try omega))) only [↓reduceIte, ↓z_ite, ↓zR, ↓zB_R, ↓zB_B, ↓zB_ite, ↓zB_gI, ↓zB_pI, ↓zB_pZ, ↓zB_aK, ↓zB_G, ↓zB_lI, ↓zB_lZ, ↓zB_wI, ↓zB_wZ, ↓zB_lIl, ↓zB_wIl, zB_pI, zB_pZ, zB_lI, zB_lZ, zB_wI, zB_wZ, z_addl, z_ladd, z_mull, z_lmul, nI_add, z_subl, Nat.not_lt_zero, z_10, z_01, z_bitc, z_b0, z_b1, ↓zB_Gb, ↓zB_G0, ↓zB_G1, z_eql, z_leq, z_ltl, z_llt, z_eq, z_lt, z_m1lt, hX.k0, hX.k8, hX.k9, hX.l9, ↓hX.g0_0, ↓hX.g0_1, ↓hX.g0_2, ↓hX.g0_3, ↓hX.g0_4, ↓hX.g0_5, ↓hX.g0_6, ↓hX.g0_7, ↓hX.g0_8, ↓hX.g0_9, ↓hX.g8_0, ↓zT_r (f168_n1 (f := f) hX hn hp hc g1), zT_r (f168_n1 (f := f) hX hn hp hc g1)]
  rw [if_neg g1]
  obtain ⟨c', hc', rfl⟩ := (z_in_iff (by omega)).mp (z_not_false g1)
  rw [nI_clamp (show c' < 2 ^ 31 by omega)]
  by_cases g2 : z_in f 16 = false ∨ z_fld A.2.1 c' f.toNatClampNeg = 0
  · rw [if_pos g2]
    refine ref 2 ?_
    unfold f141
    simp (disch := ((try simp only [true_or, or_true, hX.k0, hX.k8, hX.k9, hX.l9]) <;> (try omega))) only [↓reduceIte, ↓z_ite, ↓zR, ↓zB_R, ↓zB_B, ↓zB_ite, ↓zB_gI, ↓zB_pI, ↓zB_pZ, ↓zB_aK, ↓zB_G, ↓zB_lI, ↓zB_lZ, ↓zB_wI, ↓zB_wZ, ↓zB_lIl, ↓zB_wIl, zB_pI, zB_pZ, zB_lI, zB_lZ, zB_wI, zB_wZ, z_addl, z_ladd, z_mull, z_lmul, nI_add, z_subl, Nat.not_lt_zero, z_10, z_01, z_bitc, z_b0, z_b1, ↓zB_Gb, ↓zB_G0, ↓zB_G1, z_eql, z_leq, z_ltl, z_llt, z_eq, z_lt, z_m1lt, hX.k0, hX.k8, hX.k9, hX.l9, ↓hX.g0_0, ↓hX.g0_1, ↓hX.g0_2, ↓hX.g0_3, ↓hX.g0_4, ↓hX.g0_5, ↓hX.g0_6, ↓hX.g0_7, ↓hX.g0_8, ↓hX.g0_9, ↓hX.g8_0, ↓zT_r (f168_n2 hX hn hp hc hwf hc' g2), zT_r (f168_n2 hX hn hp hc hwf hc' g2)]
  rw [if_neg g2]
  obtain ⟨f', hf', rfl⟩ := (z_in_iff (by decide)).mp (z_not_false (fun q => g2 (Or.inl q)))
  rw [nI_clamp (show f' < 2 ^ 31 by omega)] at g2 ⊢
  have hex : z_fld A.2.1 c' f' ≠ 0 := fun q => g2 (Or.inr q)
  have e1 := f168_y hX hn hp hc hwf hc' hf' hex
  by_cases g3 : z_in x 16 = false ∨ x = nI f'
  · rw [if_pos g3]
    refine ref 1 ?_
    unfold f141
    simp (disch := ((try simp only [true_or, or_true, hX.k0, hX.k8, hX.k9, hX.l9]) <;> (try omega))) only [↓reduceIte, ↓z_ite, ↓zR, ↓zB_R, ↓zB_B, ↓zB_ite, ↓zB_gI, ↓zB_pI, ↓zB_pZ, ↓zB_aK, ↓zB_G, ↓zB_lI, ↓zB_lZ, ↓zB_wI, ↓zB_wZ, ↓zB_lIl, ↓zB_wIl, zB_pI, zB_pZ, zB_lI, zB_lZ, zB_wI, zB_wZ, z_addl, z_ladd, z_mull, z_lmul, nI_add, z_subl, Nat.not_lt_zero, z_10, z_01, z_bitc, z_b0, z_b1, ↓zB_Gb, ↓zB_G0, ↓zB_G1, z_eql, z_leq, z_ltl, z_llt, z_eq, z_lt, z_m1lt, hX.k0, hX.k8, hX.k9, hX.l9, ↓hX.g0_0, ↓hX.g0_1, ↓hX.g0_2, ↓hX.g0_3, ↓hX.g0_4, ↓hX.g0_5, ↓hX.g0_6, ↓hX.g0_7, ↓hX.g0_8, ↓hX.g0_9, ↓hX.g8_0, ↓zT_l e1, zT_l e1, ↓zT_r (f161_n hX g3), zT_r (f161_n hX g3)]
  rw [if_neg g3]
  have e2 := f161_y (S := S) (m := m) hX (x := x) (y := nI f') (z_not_false (fun q => g3 (Or.inl q))) (fun q => g3 (Or.inr q))
  obtain ⟨n', hn', rfl⟩ := (z_in_iff (by decide)).mp (z_not_false (fun q => g3 (Or.inl q)))
  rw [nI_clamp (show n' < 2 ^ 31 by omega)]
  have hfn : f' ≠ n' := fun q => g3 (Or.inr (by rw [q]))
  by_cases g4 : z_wr A.2.1 = -1
  · rw [if_pos g4]
    obtain ⟨m1, e3, c1, r1, f14⟩ := c_rr_y hw hI hCM g4
    obtain ⟨S', m', e4, d1, d2, d3⟩ := c_tail hw hI c1 g4 f14 (ob := 21) (kd := 8) hX.k21 (OP := fun q => f107 21 (z_pid sn) q (nI c') (nI f') (nI n')) (r := z_rfR A.2.1 c' f' n') (Q := z_rfQ A.2.1 c' f' n') (fun m2 hpre => f107_sp hpre hwf hw.2.1.2 hc' hf' hn' hfn hex)
    refine ⟨S', m', ?_, d1, d2, fun a ha => (d3 a ha).trans (r1 a ha)⟩
    unfold f141
    simp (disch := ((try simp only [true_or, or_true, hX.k0, hX.k8, hX.k9, hX.l9, hp.k, hp.k1, hp.k2, hp.k3, hp.k4, hp.k5, hp.k6, hp.k7, hp.k8, hp.k9, hp.k10, hp.l1, hp.l2, hp.l3, hp.l4, hp.l5, hp.l6, hp.l7, hp.l8, hp.l9, hp.l10]) <;> (try omega))) only [↓reduceIte, ↓z_ite, ↓zR, ↓zB_R, ↓zB_B, ↓zB_ite, ↓zB_gI, ↓zB_pI, ↓zB_pZ, ↓zB_aK, ↓zB_G, ↓zB_lI, ↓zB_lZ, ↓zB_wI, ↓zB_wZ, ↓zB_lIl, ↓zB_wIl, zB_pI, zB_pZ, zB_lI, zB_lZ, zB_wI, zB_wZ, z_addl, z_ladd, z_mull, z_lmul, nI_add, z_subl, Nat.not_lt_zero, z_10, z_01, z_bitc, z_b0, z_b1, ↓zB_Gb, ↓zB_G0, ↓zB_G1, z_eql, z_leq, z_ltl, z_llt, z_eq, z_lt, z_m1lt, hX.k0, hX.k8, hX.k9, hX.l9, hp.k, hp.k1, hp.k2, hp.k3, hp.k4, hp.k5, hp.k6, hp.k7, hp.k8, hp.k9, hp.k10, hp.l1, hp.l2, hp.l3, hp.l4, hp.l5, hp.l6, hp.l7, hp.l8, hp.l9, hp.l10, ↓hX.g0_0, ↓hX.g0_1, ↓hX.g0_2, ↓hX.g0_3, ↓hX.g0_4, ↓hX.g0_5, ↓hX.g0_6, ↓hX.g0_7, ↓hX.g0_8, ↓hX.g0_9, ↓hX.g8_0, ↓hp.g0, ↓hp.g1, ↓hp.g2, ↓hp.g3, ↓hp.g4, ↓hp.g5, ↓hp.g6, ↓hp.g7, ↓hp.g8, ↓hp.g9, ↓hp.gb, hp.gb, ↓z_gnow hX hn, z_gnow hX hn, ↓zT_l e1, zT_l e1, ↓zT_l e2, zT_l e2, ↓zT_l e3, zT_l e3]
    exact e4
  · rw [if_neg g4]
    obtain ⟨m1, e3, c1, r1⟩ := c_rr_n hw hI hCM g4
    refine ⟨z_Sx S, m1, ?_, ⟨sn, sx, sp, hI, c1⟩, z_SS.x S, r1⟩
    unfold f141
    simp (disch := ((try simp only [true_or, or_true, hX.k0, hX.k8, hX.k9, hX.l9, hp.k, hp.k1, hp.k2, hp.k3, hp.k4, hp.k5, hp.k6, hp.k7, hp.k8, hp.k9, hp.k10, hp.l1, hp.l2, hp.l3, hp.l4, hp.l5, hp.l6, hp.l7, hp.l8, hp.l9, hp.l10]) <;> (try omega))) only [↓reduceIte, ↓z_ite, ↓zR, ↓zB_R, ↓zB_B, ↓zB_ite, ↓zB_gI, ↓zB_pI, ↓zB_pZ, ↓zB_aK, ↓zB_G, ↓zB_lI, ↓zB_lZ, ↓zB_wI, ↓zB_wZ, ↓zB_lIl, ↓zB_wIl, zB_pI, zB_pZ, zB_lI, zB_lZ, zB_wI, zB_wZ, z_addl, z_ladd, z_mull, z_lmul, nI_add, z_subl, Nat.not_lt_zero, z_10, z_01, z_bitc, z_b0, z_b1, ↓zB_Gb, ↓zB_G0, ↓zB_G1, z_eql, z_leq, z_ltl, z_llt, z_eq, z_lt, z_m1lt, hX.k0, hX.k8, hX.k9, hX.l9, hp.k, hp.k1, hp.k2, hp.k3, hp.k4, hp.k5, hp.k6, hp.k7, hp.k8, hp.k9, hp.k10, hp.l1, hp.l2, hp.l3, hp.l4, hp.l5, hp.l6, hp.l7, hp.l8, hp.l9, hp.l10, ↓hX.g0_0, ↓hX.g0_1, ↓hX.g0_2, ↓hX.g0_3, ↓hX.g0_4, ↓hX.g0_5, ↓hX.g0_6, ↓hX.g0_7, ↓hX.g0_8, ↓hX.g0_9, ↓hX.g8_0, ↓hp.g0, ↓hp.g1, ↓hp.g2, ↓hp.g3, ↓hp.g4, ↓hp.g5, ↓hp.g6, ↓hp.g7, ↓hp.g8, ↓hp.g9, ↓hp.gb, hp.gb, ↓z_gnow hX hn, z_gnow hX hn, ↓zT_l e1, zT_l e1, ↓zT_l e2, zT_l e2, ↓zT_r e3, zT_r e3]
end
