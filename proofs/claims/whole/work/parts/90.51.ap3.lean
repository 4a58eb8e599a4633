-- deps: 90.50.ap2
/-! an argument more: the class, all of it -/
section
variable {S : z_S} {m : z_m} {p q : Nat} {P : z_Pg} {A : z_A}
theorem z_hp_inj {m m' : z_m} (h : z_hp S m = z_hp S m') : m = m' := congrArg (fun x : q_H => x.2.2.2.1) h
/-- Program.addParameterTo, bare -/
theorem f75_raw (hq : z_PS S q) {k c : Nat} (hk : k < 24) (hc : c < 2) (h3 : m (q + 6) k = nI c) (a t : Int32) : ∃ m', f75 q (nI k) a t (z_hp S m) = some ((), z_hp S m') ∧ (∀ b, b ≠ q + 6 → b ≠ q + 7 → b ≠ q + 8 → m' b = m b) ∧ ∀ j, j ≠ k → m' (q + 6) j = m (q + 6) j := by
  generalize hm1 : z_up (z_up (z_up m (q + 7) (k * 2 + c) a) (q + 8) (k * 2 + c) t) (q + 6) k (nI (c + 1)) = m1
  have u1 : z_up m (q + 7) (k * 2 + c) a (q + 6) k = nI c := by rw [z_up_a (by omega)]; exact h3
  have u2 : z_up (z_up m (q + 7) (k * 2 + c) a) (q + 8) (k * 2 + c) t (q + 6) k = nI c := by rw [z_up_a (by omega)]; exact u1
  refine ⟨m1, ?_, fun b x1 x2 x3 => by rw [← hm1, z_up_row x1, z_up_row x3, z_up_row x2], fun j hj => by rw [← hm1, z_up_b hj, z_up_a (by omega), z_up_a (by omega)]⟩
  unfold f75
  simp (disch := ((try simp only [true_or, or_true, hq.k, hq.k1, hq.k2, hq.k3, hq.k4, hq.k5, hq.k6, hq.k7, hq.k8, hq.k9, hq.k10, hq.l1, hq.l2, hq.l3, hq.l4, hq.l5, hq.l6, hq.l7, hq.l8, hq.l9, hq.l10]) <;> (try omega))) only [↓reduceIte, ↓z_ite, ↓zR, ↓zB_R, ↓zB_B, ↓zB_ite, ↓zB_gI, ↓zB_pI, ↓zB_pZ, ↓zB_aK, ↓zB_G, ↓zB_lI, ↓zB_lZ, ↓zB_wI, ↓zB_wZ, ↓zB_lIl, ↓zB_wIl, zB_pI, zB_pZ, zB_lI, zB_lZ, zB_wI, zB_wZ, z_addl, z_ladd, z_mull, z_lmul, nI_add, z_subl, Nat.not_lt_zero, z_10, z_01, z_bitc, z_b0, z_b1, ↓zB_Gb, ↓zB_G0, ↓zB_G1, z_eql, z_leq, z_ltl, z_llt, z_eq, z_lt, z_m1lt, hq.k, hq.k1, hq.k2, hq.k3, hq.k4, hq.k5, hq.k6, hq.k7, hq.k8, hq.k9, hq.k10, hq.l1, hq.l2, hq.l3, hq.l4, hq.l5, hq.l6, hq.l7, hq.l8, hq.l9, hq.l10, ↓hq.g0, ↓hq.g1, ↓hq.g2, ↓hq.g3, ↓hq.g4, ↓hq.g5, ↓hq.g6, ↓hq.g7, ↓hq.g8, ↓hq.g9, ↓hq.gb, hq.gb, h3, u1, u2, hk, hc, hm1]
/-- what is kept while the bodies are written -/
def z_apI (P : z_Pg) (k : Nat) (v : Int32) (m m' : z_m) (q : Nat) (j : Nat) : Prop := (z_any (z_apF P k v) j = false → z_cp m' q (z_mix P (z_apG P k) (z_apDD P k v) j)) ∧ z_rm60 m' q ∧ z_oF q m m' ∧ m' q 14 = 0 ∧ ∀ i, j ≤ i → i < z_nm P → z_liv P i = true → m' (q + 6) i = z_hd P i 3
theorem f111_st (hX : z_XS S) (hp : z_PS S p) (hq : z_PS S q) (lo : 242 ≤ p) (lo2 : 242 ≤ q) (hpq : p + 179 ≤ q ∨ q + 179 ≤ p) (hcp : z_cp m p P) (hT : z_LT m p P) (hs54 : m 54 6 = nI 256) (hw : z_wf P) (hR : z_RT P) {k : Nat} (hk : k < z_nm P) (hlk : z_liv P k = true) (hc : z_cnt P k < 2) {v : Int32} {j : Nat} (hj : j < z_nm P) {m1 : z_m} (hI : z_apI P k v m m1 q j) (hl : z_liv P j = true) (c0 : Nat) (hc0 : c0 < 1000000) (F : Bool) : ∃ m', f111_54b 53 p q v (z_M (z_nm P) (z_fam P k)) (nI c0) (z_b F) (nI j) (z_hp S m1) = some (.inl (53, p, q, v, z_M (z_nm P) (z_fam P k), nI (c0 + z_ct (z_cf P (z_fam P k) j) (z_bd P j).length), z_b (F || z_apF P k v j), nI (j + 1)), z_hp S m') ∧ z_apI P k v m m' q (j + 1) := by
  obtain ⟨g1, g2, g3, g4, g5⟩ := hI
  have h24 := hw.2.2.1
  have hpk := hp.k
  have hqk := hq.k
  have h54 := hX.2.2.2.1.2.2.2
  have h54k := h54.k
  have hbpk := (hp.B (k := j) (by omega)).k
  have hbqk := (hq.B (k := j) (by omega)).k
  have hcp1 := g3.cp hw lo (by omega) hcp
  have hT1 := g3.LT hw lo (by omega) hT
  have h01 := hcp1.2.1.1
  have e79 := f79_sp hp hcp1 (k := j) (by omega)
  have ethr : z_thr P j = true := by unfold z_thr; rw [decide_eq_true hj, Bool.true_and, hl]
  rw [ethr] at e79
  have hbit := z_M_at (n := z_nm P) (s := z_fam P k) (by omega) hj
  have hct : ∀ i, i < z_nm P → z_cnt P i ≤ 2 := fun i hi => (hw.2.2.2.1 i hi).2.2.2.1.1
  have hmixh : ∀ w, z_hd (z_mix P (z_apG P k) (z_apDD P k v) j) j w = z_hd P j w := fun w => by rw [z_mix_hd, if_neg (by omega)]
  have hmixl : z_liv (z_mix P (z_apG P k) (z_apDD P k v) j) j = true := by unfold z_liv; rw [hmixh]; exact hl
  have hbdj : z_bd (z_mix P (z_apG P k) (z_apDD P k v) j) j = z_bd P j := by rw [z_mix_bd, if_neg (by omega)]
  have hfamct : z_fam P k j = true → z_hd P j 3 = nI (z_cnt P k) := fun hf => (z_famc hw hk hlk hf).2.2.2.trans (z_c3 hw hk)
  have hctm : ∀ i, i < z_nm P → z_cnt (z_mix P (z_apG P k) (z_apDD P k v) j) i ≤ 2 := fun i hi => by
    unfold z_cnt
    rw [z_mix_hd]
    by_cases gg : i < j ∧ z_liv P i = true
    · rw [if_pos gg]
      by_cases gf : z_fam P k i = true
      · rw [z_apG_3 hc gf, nI_clamp (by omega)]; omega
      · rw [z_apG_n (by simpa using gf)]; exact hct i hi
    · rw [if_neg gg]; exact hct i hi
  -- the parameter
  have par : ∃ m2, f111_54b 53 p q v (z_M (z_nm P) (z_fam P k)) (nI c0) (z_b F) (nI j) (z_hp S m1) = f111_115 53 p q v (z_M (z_nm P) (z_fam P k)) (nI c0) (z_b (F || (z_fam P k j && z_fn (z_has P j) == -1))) (nI j) (z_hp S m2) ∧ (z_any (z_apF P k v) j = false → z_cp m2 q (z_sM (z_mix P (z_apG P k) (z_apDD P k v) j) j (z_apG P k j) (z_bd P j))) ∧ (∀ b, b ≠ q + 6 → b ≠ q + 7 → b ≠ q + 8 → m2 b = m1 b) ∧ ∀ i, i ≠ j → m2 (q + 6) i = m1 (q + 6) i := by
    cases gf : z_fam P k j with
    | false =>
      rw [gf] at hbit
      refine ⟨m1, ?_, fun gF => ?_, fun _ _ _ _ => rfl, fun _ _ => rfl⟩
      · rw [Bool.false_and, Bool.or_false]
        unfold f111_54b
        simp (disch := ((try simp only [true_or, or_true, hp.k, hp.k1, hp.k2, hp.k3, hp.k4, hp.k5, hp.k6, hp.k7, hp.k8, hp.k9, hp.k10, hp.l1, hp.l2, hp.l3, hp.l4, hp.l5, hp.l6, hp.l7, hp.l8, hp.l9, hp.l10, hpk]) <;> (try omega))) only [↓reduceIte, ↓z_ite, ↓zR, ↓zB_R, ↓zB_B, ↓zB_ite, ↓zB_gI, ↓zB_pI, ↓zB_pZ, ↓zB_aK, ↓zB_G, ↓zB_lI, ↓zB_lZ, ↓zB_wI, ↓zB_wZ, ↓zB_lIl, ↓zB_wIl, zB_pI, zB_pZ, zB_lI, zB_lZ, zB_wI, zB_wZ, z_addl, z_ladd, z_mull, z_lmul, nI_add, z_subl, Nat.not_lt_zero, z_10, z_01, z_bitc, z_b0, z_b1, ↓zB_Gb, ↓zB_G0, ↓zB_G1, z_eql, z_leq, z_ltl, z_llt, z_eq, z_lt, z_m1lt, hp.k, hp.k1, hp.k2, hp.k3, hp.k4, hp.k5, hp.k6, hp.k7, hp.k8, hp.k9, hp.k10, hp.l1, hp.l2, hp.l3, hp.l4, hp.l5, hp.l6, hp.l7, hp.l8, hp.l9, hp.l10, hpk, ↓hp.g0, ↓hp.g1, ↓hp.g2, ↓hp.g3, ↓hp.g4, ↓hp.g5, ↓hp.g6, ↓hp.g7, ↓hp.g8, ↓hp.g9, ↓hp.gb, hp.gb, h01, hj, ↓zB_c e79, zB_c e79, Bool.true_eq_false, hbit, Bool.false_eq_true]
      · rw [z_apG_n gf]
        have : z_sM (z_mix P (z_apG P k) (z_apDD P k v) j) j (z_hd P j) (z_bd P j) = z_mix P (z_apG P k) (z_apDD P k v) j := by
          have e := z_sM_id (P := z_mix P (z_apG P k) (z_apDD P k v) j) (k := j)
          rw [hbdj, show z_hd (z_mix P (z_apG P k) (z_apDD P k v) j) j = z_hd P j from funext hmixh] at e
          exact e
        rw [this]; exact g1 gF
    | true =>
      rw [gf] at hbit
      have e102 := f102_sp hp hcp1 hw hj hl
      have e175 := f175_sp (S := S) (m := m1) (z_has P j)
      have h3j := g5 j (Nat.le_refl _) hj hl
      rw [hfamct gf] at h3j
      obtain ⟨m2, e75, fr2, fr2b⟩ := f75_raw hq (k := j) (by omega) hc h3j (z_fn (z_has P j)) (-1)
      refine ⟨m2, ?_, fun gF => ?_, fr2, fr2b⟩
      · rw [Bool.true_and]
        unfold f111_54b f111_106
        by_cases gn : z_fn (z_has P j) = -1
        · rw [gn] at e75 e175
          rw [gn, show ((-1 : Int32) == -1) = true from rfl, Bool.or_true]
          simp (disch := ((try simp only [true_or, or_true, hp.k, hp.k1, hp.k2, hp.k3, hp.k4, hp.k5, hp.k6, hp.k7, hp.k8, hp.k9, hp.k10, hp.l1, hp.l2, hp.l3, hp.l4, hp.l5, hp.l6, hp.l7, hp.l8, hp.l9, hp.l10, hpk, hqk]) <;> (try omega))) only [↓reduceIte, ↓z_ite, ↓zR, ↓zB_R, ↓zB_B, ↓zB_ite, ↓zB_gI, ↓zB_pI, ↓zB_pZ, ↓zB_aK, ↓zB_G, ↓zB_lI, ↓zB_lZ, ↓zB_wI, ↓zB_wZ, ↓zB_lIl, ↓zB_wIl, zB_pI, zB_pZ, zB_lI, zB_lZ, zB_wI, zB_wZ, z_addl, z_ladd, z_mull, z_lmul, nI_add, z_subl, Nat.not_lt_zero, z_10, z_01, z_bitc, z_b0, z_b1, ↓zB_Gb, ↓zB_G0, ↓zB_G1, z_eql, z_leq, z_ltl, z_llt, z_eq, z_lt, z_m1lt, hp.k, hp.k1, hp.k2, hp.k3, hp.k4, hp.k5, hp.k6, hp.k7, hp.k8, hp.k9, hp.k10, hp.l1, hp.l2, hp.l3, hp.l4, hp.l5, hp.l6, hp.l7, hp.l8, hp.l9, hp.l10, hpk, hqk, ↓hp.g0, ↓hp.g1, ↓hp.g2, ↓hp.g3, ↓hp.g4, ↓hp.g5, ↓hp.g6, ↓hp.g7, ↓hp.g8, ↓hp.g9, ↓hp.gb, hp.gb, h01, hj, ↓zB_c e79, zB_c e79, Bool.true_eq_false, hbit, ↓zB_c e102, zB_c e102, ↓zB_c e175, zB_c e175, ↓zB_c e75, zB_c e75]
          rfl
        · rw [show (z_fn (z_has P j) == -1) = false by simpa using gn, Bool.or_false]
          simp (disch := ((try simp only [true_or, or_true, hp.k, hp.k1, hp.k2, hp.k3, hp.k4, hp.k5, hp.k6, hp.k7, hp.k8, hp.k9, hp.k10, hp.l1, hp.l2, hp.l3, hp.l4, hp.l5, hp.l6, hp.l7, hp.l8, hp.l9, hp.l10, hpk, hqk]) <;> (try omega))) only [↓reduceIte, ↓z_ite, ↓zR, ↓zB_R, ↓zB_B, ↓zB_ite, ↓zB_gI, ↓zB_pI, ↓zB_pZ, ↓zB_aK, ↓zB_G, ↓zB_lI, ↓zB_lZ, ↓zB_wI, ↓zB_wZ, ↓zB_lIl, ↓zB_wIl, zB_pI, zB_pZ, zB_lI, zB_lZ, zB_wI, zB_wZ, z_addl, z_ladd, z_mull, z_lmul, nI_add, z_subl, Nat.not_lt_zero, z_10, z_01, z_bitc, z_b0, z_b1, ↓zB_Gb, ↓zB_G0, ↓zB_G1, z_eql, z_leq, z_ltl, z_llt, z_eq, z_lt, z_m1lt, hp.k, hp.k1, hp.k2, hp.k3, hp.k4, hp.k5, hp.k6, hp.k7, hp.k8, hp.k9, hp.k10, hp.l1, hp.l2, hp.l3, hp.l4, hp.l5, hp.l6, hp.l7, hp.l8, hp.l9, hp.l10, hpk, hqk, ↓hp.g0, ↓hp.g1, ↓hp.g2, ↓hp.g3, ↓hp.g4, ↓hp.g5, ↓hp.g6, ↓hp.g7, ↓hp.g8, ↓hp.g9, ↓hp.gb, hp.gb, h01, hj, ↓zB_c e79, zB_c e79, Bool.true_eq_false, hbit, ↓zB_c e102, zB_c e102, ↓zB_c e175, zB_c e175, gn, ↓zB_c e75, zB_c e75]
      · obtain ⟨m2', e75', cp2, _⟩ := f75_gen (P := z_mix P (z_apG P k) (z_apDD P k v) j) (k := j) (j := z_cnt P k) (a := z_fn (z_has P j)) (t := -1) (H' := z_apG P k j) hq (g1 gF) h24 hctm hj hmixl hc (by rw [hmixh]; exact hfamct gf) (by rw [z_apG_o (by omega) (by omega) (by omega)]; simpa [z_liv] using hl) (by rw [z_apG_o (by omega) (by omega) (by omega), hmixh]) (by rw [z_apG_o (by omega) (by omega) (by omega), hmixh]) (z_apG_3 hc gf) (by rw [z_apG_o (by omega) (by omega) (by omega), hmixh]) (z_apG_4 hc gf) (fun i hi hne => by rw [z_apG_o (by omega) (by omega) (by omega), hmixh]) (z_apG_6 gf) (fun i hi => by rw [z_apG_o (by omega) (by omega) (by omega), hmixh])
        rw [e75] at e75'
        have : z_hp S m2 = z_hp S m2' := by injection e75' with e; injection e
        rw [z_hp_inj this]
        rw [hbdj] at cp2; exact cp2
  obtain ⟨m2, e2, cp2, fr2, fr2b⟩ := par
  have hF2 : z_oF q m m2 := g3.trans ⟨fun a _ _ x => fr2 a (by omega) (by omega) (by omega), by rw [fr2 22 (by omega) (by omega) (by omega)], by rw [fr2 30 (by omega) (by omega) (by omega)], by rw [fr2 38 (by omega) (by omega) (by omega)], by rw [fr2 54 (by omega) (by omega) (by omega)]⟩
  have hcp2 := hF2.cp hw lo (by omega) hcp
  have hT2 := hF2.LT hw lo (by omega) hT
  have r2 : z_rm60 m2 q := fun i hi => by rw [fr2 _ (by unfold z_bi; omega) (by unfold z_bi; omega) (by unfold z_bi; omega)]; exact g2 i hi
  have h33 : z_hd P k 3 = 0 ∨ z_hd P k 3 = 1 := by
    rw [z_c3 hw hk]
    have : z_cnt P k = 0 ∨ z_cnt P k = 1 := by omega
    rcases this with q | q <;> rw [q]
    · exact Or.inl rfl
    · exact Or.inr rfl
  obtain ⟨m3, e3, cb3, F3⟩ := f112_sp (v := v) hX hp lo hcp2 hT2 hw hR hk hlk h33 hj hl (by rw [hF2.2.2.2.2]; exact hs54)
  obtain ⟨m4, e7, r4, F4, c4⟩ := z_take hq h54 (by omega) (show j < 24 by omega) (F3.rm (by omega) r2) cb3
  have hF4 := (hF2.trans (F3.oF (Or.inr (Or.inr (Or.inr rfl))) q lo2)).trans (F4.oF2 (by omega) lo2)
  have ce : c0 + z_ct (z_cf P (z_fam P k) j) (z_bd P j).length < 2147483648 := by
    have := z_ct_le (s := z_cf P (z_fam P k) j) (z_bd P j).length
    have := (hcp2.2.2.2 j hj hl).2.2.1
    omega
  refine ⟨m4, ?_, fun gF => ?_, r4, hF4, ?_, fun i hi1 hi2 hi3 => ?_⟩
  · rw [e2]
    unfold f111_115 f111_155 z_apF
    rw [hl, Bool.true_and]
    by_cases g60 : (z_apD (z_bd P j) (z_cf P (z_fam P k) j) v).length ≤ 60
    · rw [decide_eq_true g60] at e7
      rw [decide_eq_false (show ¬ 60 < (z_apD (z_bd P j) (z_cf P (z_fam P k) j) v).length by omega), Bool.or_false]
      simp (disch := ((try simp only [true_or, or_true, hp.k, hp.k1, hp.k2, hp.k3, hp.k4, hp.k5, hp.k6, hp.k7, hp.k8, hp.k9, hp.k10, hp.l1, hp.l2, hp.l3, hp.l4, hp.l5, hp.l6, hp.l7, hp.l8, hp.l9, hp.l10, hq.k, hq.k1, hq.k2, hq.k3, hq.k4, hq.k5, hq.k6, hq.k7, hq.k8, hq.k9, hq.k10, hq.l1, hq.l2, hq.l3, hq.l4, hq.l5, hq.l6, hq.l7, hq.l8, hq.l9, hq.l10, hX.k53, hpk, hbqk, h54k]) <;> (try omega))) only [↓reduceIte, ↓z_ite, ↓zR, ↓zB_R, ↓zB_B, ↓zB_ite, ↓zB_gI, ↓zB_pI, ↓zB_pZ, ↓zB_aK, ↓zB_G, ↓zB_lI, ↓zB_lZ, ↓zB_wI, ↓zB_wZ, ↓zB_lIl, ↓zB_wIl, zB_pI, zB_pZ, zB_lI, zB_lZ, zB_wI, zB_wZ, z_addl, z_ladd, z_mull, z_lmul, nI_add, z_subl, Nat.not_lt_zero, z_10, z_01, z_bitc, z_b0, z_b1, ↓zB_Gb, ↓zB_G0, ↓zB_G1, z_eql, z_leq, z_ltl, z_llt, z_eq, z_lt, z_m1lt, hp.k, hp.k1, hp.k2, hp.k3, hp.k4, hp.k5, hp.k6, hp.k7, hp.k8, hp.k9, hp.k10, hp.l1, hp.l2, hp.l3, hp.l4, hp.l5, hp.l6, hp.l7, hp.l8, hp.l9, hp.l10, hq.k, hq.k1, hq.k2, hq.k3, hq.k4, hq.k5, hq.k6, hq.k7, hq.k8, hq.k9, hq.k10, hq.l1, hq.l2, hq.l3, hq.l4, hq.l5, hq.l6, hq.l7, hq.l8, hq.l9, hq.l10, hX.k53, hpk, hbqk, h54k, ↓hp.g0, ↓hp.g1, ↓hp.g2, ↓hp.g3, ↓hp.g4, ↓hp.g5, ↓hp.g6, ↓hp.g7, ↓hp.g8, ↓hp.g9, ↓hp.gb, hp.gb, ↓hq.g0, ↓hq.g1, ↓hq.g2, ↓hq.g3, ↓hq.g4, ↓hq.g5, ↓hq.g6, ↓hq.g7, ↓hq.g8, ↓hq.g9, ↓hq.gb, hq.gb, ↓hX.g53_0, h24, hj, ↓zB_c e3, zB_c e3, ↓zB_c e7, zB_c e7, Bool.true_eq_false]
    · rw [decide_eq_false g60] at e7
      rw [decide_eq_true (show 60 < (z_apD (z_bd P j) (z_cf P (z_fam P k) j) v).length by omega), Bool.or_true, Bool.or_true]
      simp (disch := ((try simp only [true_or, or_true, hp.k, hp.k1, hp.k2, hp.k3, hp.k4, hp.k5, hp.k6, hp.k7, hp.k8, hp.k9, hp.k10, hp.l1, hp.l2, hp.l3, hp.l4, hp.l5, hp.l6, hp.l7, hp.l8, hp.l9, hp.l10, hq.k, hq.k1, hq.k2, hq.k3, hq.k4, hq.k5, hq.k6, hq.k7, hq.k8, hq.k9, hq.k10, hq.l1, hq.l2, hq.l3, hq.l4, hq.l5, hq.l6, hq.l7, hq.l8, hq.l9, hq.l10, hX.k53, hpk, hbqk, h54k]) <;> (try omega))) only [↓reduceIte, ↓z_ite, ↓zR, ↓zB_R, ↓zB_B, ↓zB_ite, ↓zB_gI, ↓zB_pI, ↓zB_pZ, ↓zB_aK, ↓zB_G, ↓zB_lI, ↓zB_lZ, ↓zB_wI, ↓zB_wZ, ↓zB_lIl, ↓zB_wIl, zB_pI, zB_pZ, zB_lI, zB_lZ, zB_wI, zB_wZ, z_addl, z_ladd, z_mull, z_lmul, nI_add, z_subl, Nat.not_lt_zero, z_10, z_01, z_bitc, z_b0, z_b1, ↓zB_Gb, ↓zB_G0, ↓zB_G1, z_eql, z_leq, z_ltl, z_llt, z_eq, z_lt, z_m1lt, hp.k, hp.k1, hp.k2, hp.k3, hp.k4, hp.k5, hp.k6, hp.k7, hp.k8, hp.k9, hp.k10, hp.l1, hp.l2, hp.l3, hp.l4, hp.l5, hp.l6, hp.l7, hp.l8, hp.l9, hp.l10, hq.k, hq.k1, hq.k2, hq.k3, hq.k4, hq.k5, hq.k6, hq.k7, hq.k8, hq.k9, hq.k10, hq.l1, hq.l2, hq.l3, hq.l4, hq.l5, hq.l6, hq.l7, hq.l8, hq.l9, hq.l10, hX.k53, hpk, hbqk, h54k, ↓hp.g0, ↓hp.g1, ↓hp.g2, ↓hp.g3, ↓hp.g4, ↓hp.g5, ↓hp.g6, ↓hp.g7, ↓hp.g8, ↓hp.g9, ↓hp.gb, hp.gb, ↓hq.g0, ↓hq.g1, ↓hq.g2, ↓hq.g3, ↓hq.g4, ↓hq.g5, ↓hq.g6, ↓hq.g7, ↓hq.g8, ↓hq.g9, ↓hq.gb, hq.gb, ↓hX.g53_0, h24, hj, ↓zB_c e3, zB_c e3, ↓zB_c e7, zB_c e7]
      rfl
  · have gF : (z_any (z_apF P k v) j || z_apF P k v j) = false := gF
    obtain ⟨gF1, gF2⟩ := Bool.or_eq_false_iff.mp gF
    have g60 : (z_apD (z_bd P j) (z_cf P (z_fam P k) j) v).length ≤ 60 := by
      unfold z_apF at gF2
      rw [hl, Bool.true_and] at gF2
      have := of_decide_eq_false (Bool.or_eq_false_iff.mp gF2).2
      omega
    have cp3 : z_cp m3 q (z_sM (z_mix P (z_apG P k) (z_apDD P k v) j) j (z_apG P k j) (z_bd P j)) := F3.cp (Pj := z_sM (z_mix P (z_apG P k) (z_apDD P k v) j) j (z_apG P k j) (z_bd P j)) (by omega) h24 (cp2 gF1)
    have hl1 : z_liv (z_sM (z_mix P (z_apG P k) (z_apDD P k v) j) j (z_apG P k j) (z_bd P j)) j = true := by
      unfold z_liv; rw [z_sM_hd_s, z_apG_o (by omega) (by omega) (by omega)]; exact hl
    have := c4 _ cp3 (fun i hi => by
      by_cases g : i = j
      · subst g
        unfold z_cnt; rw [z_sM_hd_s]
        by_cases gf : z_fam P k i = true
        · rw [z_apG_3 hc gf, nI_clamp (by omega)]; omega
        · rw [z_apG_n (by simpa using gf)]; exact hct i hj
      · rw [z_sM_cnt g]; exact hctm i hi) hj hl1 g60
    rw [z_sM_2] at this
    rw [z_mix_s hl]; exact this
  · rw [F4.1 q (by unfold z_bi; omega) (by unfold z_bi; omega) (by unfold z_bi; omega) (by unfold z_bi; omega), F3.at (by omega), fr2 q (by omega) (by omega) (by omega)]; exact g4
  · rw [F4.1 (q + 6) (by unfold z_bi; omega) (by unfold z_bi; omega) (by unfold z_bi; omega) (by unfold z_bi; omega), F3.at (by omega), fr2b i (by omega)]
    exact g5 i (by omega) hi2 hi3
/-- Signatures.widen -/
theorem f111_sp (hpre : z_Pre S m p q P) (hw : z_wf P) (h60 : z_b60 P) (hR : z_RT P) {k : Nat} (hk : k < z_nm P) (hlk : z_liv P k = true) (v : Int32) : ∃ m', f111 53 p q (nI k) v (z_hp S m) = some (z_apR P k v, z_hp S m') ∧ z_Post m m' q (z_apR P k v) (z_apQ P k v) := by
  obtain ⟨⟨hX, hp, hq⟩, ⟨lo, lo2, hpq⟩, ⟨hcp, hT⟩, ⟨hcq, h14⟩, hs22, hs30, hs38, hs54⟩ := hpre
  have h24 := hw.2.2.1
  have hpk := hp.k
  have h01 := hcp.2.1.1
  obtain ⟨q1, q2, q3, q4, q5, q6⟩ := hcp.2.1.2.2 k hk hlk
  rw [z_c3 hw hk] at q3
  have hc2 : z_cnt P k ≤ 2 := (hw.2.2.2.1 k hk).2.2.2.1.1
  have e95 := f95_sp hp hcp hw hk hlk
  have hfl : ∀ i, i < z_nm P → z_fam P k i = true → z_liv P i = true := fun i _ h => z_isc_liv (z_fam_isc hk hlk h).2
  have e97 := f97_sp hp hcp hw hfl (z_hd P k 2) (nI (z_cnt P k + 1))
  have stay : ∀ r, r < 0 → f111 53 p q (nI k) v (z_hp S m) = some (r, z_hp S m) → z_apR P k v = r → ∃ m', f111 53 p q (nI k) v (z_hp S m) = some (z_apR P k v, z_hp S m') ∧ z_Post m m' q (z_apR P k v) (z_apQ P k v) := fun r hr e er => by
    rw [er]
    exact ⟨m, e, fun g => absurd hr g, hcq.2.2.1, z_oF.refl q m⟩
  by_cases y1 : z_cnt P k = 2
  · refine stay (-6) (by decide) ?_ (if_pos y1)
    unfold f111
    have y1' : ¬ z_cnt P k < 2 := by omega
    simp (disch := ((try simp only [true_or, or_true, hp.k, hp.k1, hp.k2, hp.k3, hp.k4, hp.k5, hp.k6, hp.k7, hp.k8, hp.k9, hp.k10, hp.l1, hp.l2, hp.l3, hp.l4, hp.l5, hp.l6, hp.l7, hp.l8, hp.l9, hp.l10, hpk]) <;> (try omega))) only [↓reduceIte, ↓z_ite, ↓zR, ↓zB_R, ↓zB_B, ↓zB_ite, ↓zB_gI, ↓zB_pI, ↓zB_pZ, ↓zB_aK, ↓zB_G, ↓zB_lI, ↓zB_lZ, ↓zB_wI, ↓zB_wZ, ↓zB_lIl, ↓zB_wIl, zB_pI, zB_pZ, zB_lI, zB_lZ, zB_wI, zB_wZ, z_addl, z_ladd, z_mull, z_lmul, nI_add, z_subl, Nat.not_lt_zero, z_10, z_01, z_bitc, z_b0, z_b1, ↓zB_Gb, ↓zB_G0, ↓zB_G1, z_eql, z_leq, z_ltl, z_llt, z_eq, z_lt, z_m1lt, hp.k, hp.k1, hp.k2, hp.k3, hp.k4, hp.k5, hp.k6, hp.k7, hp.k8, hp.k9, hp.k10, hp.l1, hp.l2, hp.l3, hp.l4, hp.l5, hp.l6, hp.l7, hp.l8, hp.l9, hp.l10, hpk, ↓hp.g0, ↓hp.g1, ↓hp.g2, ↓hp.g3, ↓hp.g4, ↓hp.g5, ↓hp.g6, ↓hp.g7, ↓hp.g8, ↓hp.g9, ↓hp.gb, hp.gb, h24, hk, q3, y1']
  have y1' : z_cnt P k < 2 := by omega
  by_cases y2 : z_free P (z_fam P k) (z_hd P k 2) (nI (z_cnt P k + 1)) = false
  · refine stay (-1) (by decide) ?_ (by unfold z_apR; rw [if_neg y1, if_pos y2])
    rw [y2] at e97
    unfold f111
    simp (disch := ((try simp only [true_or, or_true, hp.k, hp.k1, hp.k2, hp.k3, hp.k4, hp.k5, hp.k6, hp.k7, hp.k8, hp.k9, hp.k10, hp.l1, hp.l2, hp.l3, hp.l4, hp.l5, hp.l6, hp.l7, hp.l8, hp.l9, hp.l10, hpk]) <;> (try omega))) only [↓reduceIte, ↓z_ite, ↓zR, ↓zB_R, ↓zB_B, ↓zB_ite, ↓zB_gI, ↓zB_pI, ↓zB_pZ, ↓zB_aK, ↓zB_G, ↓zB_lI, ↓zB_lZ, ↓zB_wI, ↓zB_wZ, ↓zB_lIl, ↓zB_wIl, zB_pI, zB_pZ, zB_lI, zB_lZ, zB_wI, zB_wZ, z_addl, z_ladd, z_mull, z_lmul, nI_add, z_subl, Nat.not_lt_zero, z_10, z_01, z_bitc, z_b0, z_b1, ↓zB_Gb, ↓zB_G0, ↓zB_G1, z_eql, z_leq, z_ltl, z_llt, z_eq, z_lt, z_m1lt, hp.k, hp.k1, hp.k2, hp.k3, hp.k4, hp.k5, hp.k6, hp.k7, hp.k8, hp.k9, hp.k10, hp.l1, hp.l2, hp.l3, hp.l4, hp.l5, hp.l6, hp.l7, hp.l8, hp.l9, hp.l10, hpk, ↓hp.g0, ↓hp.g1, ↓hp.g2, ↓hp.g3, ↓hp.g4, ↓hp.g5, ↓hp.g6, ↓hp.g7, ↓hp.g8, ↓hp.g9, ↓hp.gb, hp.gb, h24, hk, q3, y1', ↓zB_c e95, zB_c e95, q2, ↓zB_c e97, zB_c e97]
  have y2' : z_free P (z_fam P k) (z_hd P k 2) (nI (z_cnt P k + 1)) = true := by simpa using y2
  rw [y2'] at e97
  have er : z_apR P k v = if z_any (z_apF P k v) (z_nm P) = true then -6 else nI (z_apK P k (z_nm P)) := by unfold z_apR; rw [if_neg y1, if_neg y2]
  have hsum : ∀ n, n ≤ z_nm P → z_apK P k n ≤ n * 60 := fun n hn => z_sl_le n (fun j hj hlj => Nat.le_trans (z_ct_le _) (h60 j (by omega)))
  have key := z_loopI (f := fun s => f111_54b (s.1) (s.2.1) (s.2.2.1) (s.2.2.2.1) (s.2.2.2.2.1) (s.2.2.2.2.2.1) (s.2.2.2.2.2.2.1) (s.2.2.2.2.2.2.2)) (S := S) (fun n st m' => ∃ j, n = z_nm P - j ∧ j ≤ z_nm P ∧ st = (53, p, q, v, z_M (z_nm P) (z_fam P k), nI (z_apK P k j), z_b (z_any (z_apF P k v) j), nI j) ∧ z_apI P k v m m' q j) (fun r m' => r = z_apR P k v ∧ z_apI P k v m m' q (z_nm P)) ?_ 1000000 (z_nm P) (53, p, q, v, z_M (z_nm P) (z_fam P k), 0, 0, 0) m ⟨0, rfl, Nat.zero_le _, rfl, fun _ => by rw [z_mix_0]; exact hcq, hcq.2.2.1, z_oF.refl q m, h14, fun i _ hi hli => (hcq.2.1.2.2 i hi hli).2.2.1⟩ (by omega)
  · obtain ⟨r, m', e, rfl, g1, g2, g3, g4, _⟩ := key
    refine ⟨m', ?_, fun gr => ?_, g2, g3⟩
    · unfold f111 f111_54
      simp (disch := ((try simp only [true_or, or_true, hp.k, hp.k1, hp.k2, hp.k3, hp.k4, hp.k5, hp.k6, hp.k7, hp.k8, hp.k9, hp.k10, hp.l1, hp.l2, hp.l3, hp.l4, hp.l5, hp.l6, hp.l7, hp.l8, hp.l9, hp.l10, hpk]) <;> (try omega))) only [↓reduceIte, ↓z_ite, ↓zR, ↓zB_R, ↓zB_B, ↓zB_ite, ↓zB_gI, ↓zB_pI, ↓zB_pZ, ↓zB_aK, ↓zB_G, ↓zB_lI, ↓zB_lZ, ↓zB_wI, ↓zB_wZ, ↓zB_lIl, ↓zB_wIl, zB_pI, zB_pZ, zB_lI, zB_lZ, zB_wI, zB_wZ, z_addl, z_ladd, z_mull, z_lmul, nI_add, z_subl, Nat.not_lt_zero, z_10, z_01, z_bitc, z_b0, z_b1, ↓zB_Gb, ↓zB_G0, ↓zB_G1, z_eql, z_leq, z_ltl, z_llt, z_eq, z_lt, z_m1lt, hp.k, hp.k1, hp.k2, hp.k3, hp.k4, hp.k5, hp.k6, hp.k7, hp.k8, hp.k9, hp.k10, hp.l1, hp.l2, hp.l3, hp.l4, hp.l5, hp.l6, hp.l7, hp.l8, hp.l9, hp.l10, hpk, ↓hp.g0, ↓hp.g1, ↓hp.g2, ↓hp.g3, ↓hp.g4, ↓hp.g5, ↓hp.g6, ↓hp.g7, ↓hp.g8, ↓hp.g9, ↓hp.gb, hp.gb, h24, hk, q3, y1', ↓zB_c e95, zB_c e95, q2, ↓zB_c e97, zB_c e97, Bool.true_eq_false]
      exact e
    · have gb : z_any (z_apF P k v) (z_nm P) = false := by
        cases qq : z_any (z_apF P k v) (z_nm P) with
        | false => rfl
        | true =>
          rw [er, if_pos qq] at gr
          exact absurd (by decide) gr
      exact z_PK_0 (g1 gb) g4
  · rintro n st m1 ⟨j, rfl, hj, rfl, hI⟩
    have hle := hsum j hj
    dsimp only
    have hcp1 := hI.2.2.1.cp hw lo (by omega) hcp
    have h011 := hcp1.2.1.1
    rcases Nat.eq_or_lt_of_le hj with hj2 | hj2
    · refine Or.inr ⟨_, m1, ?_, rfl, by rw [hj2] at hI; exact hI⟩
      rw [er, hj2]
      unfold f111_54b f111_161 f111_173
      cases gb : z_any (z_apF P k v) (z_nm P) with
      | false => simp (disch := ((try simp only [true_or, or_true, hp.k, hp.k1, hp.k2, hp.k3, hp.k4, hp.k5, hp.k6, hp.k7, hp.k8, hp.k9, hp.k10, hp.l1, hp.l2, hp.l3, hp.l4, hp.l5, hp.l6, hp.l7, hp.l8, hp.l9, hp.l10]) <;> (try omega))) only [↓reduceIte, ↓z_ite, ↓zR, ↓zB_R, ↓zB_B, ↓zB_ite, ↓zB_gI, ↓zB_pI, ↓zB_pZ, ↓zB_aK, ↓zB_G, ↓zB_lI, ↓zB_lZ, ↓zB_wI, ↓zB_wZ, ↓zB_lIl, ↓zB_wIl, zB_pI, zB_pZ, zB_lI, zB_lZ, zB_wI, zB_wZ, z_addl, z_ladd, z_mull, z_lmul, nI_add, z_subl, Nat.not_lt_zero, z_10, z_01, z_bitc, z_b0, z_b1, ↓zB_Gb, ↓zB_G0, ↓zB_G1, z_eql, z_leq, z_ltl, z_llt, z_eq, z_lt, z_m1lt, hp.k, hp.k1, hp.k2, hp.k3, hp.k4, hp.k5, hp.k6, hp.k7, hp.k8, hp.k9, hp.k10, hp.l1, hp.l2, hp.l3, hp.l4, hp.l5, hp.l6, hp.l7, hp.l8, hp.l9, hp.l10, ↓hp.g0, ↓hp.g1, ↓hp.g2, ↓hp.g3, ↓hp.g4, ↓hp.g5, ↓hp.g6, ↓hp.g7, ↓hp.g8, ↓hp.g9, ↓hp.gb, hp.gb, h011, Nat.lt_irrefl, Bool.false_eq_true]
      | true => simp (disch := ((try simp only [true_or, or_true, hp.k, hp.k1, hp.k2, hp.k3, hp.k4, hp.k5, hp.k6, hp.k7, hp.k8, hp.k9, hp.k10, hp.l1, hp.l2, hp.l3, hp.l4, hp.l5, hp.l6, hp.l7, hp.l8, hp.l9, hp.l10]) <;> (try omega))) only [↓reduceIte, ↓z_ite, ↓zR, ↓zB_R, ↓zB_B, ↓zB_ite, ↓zB_gI, ↓zB_pI, ↓zB_pZ, ↓zB_aK, ↓zB_G, ↓zB_lI, ↓zB_lZ, ↓zB_wI, ↓zB_wZ, ↓zB_lIl, ↓zB_wIl, zB_pI, zB_pZ, zB_lI, zB_lZ, zB_wI, zB_wZ, z_addl, z_ladd, z_mull, z_lmul, nI_add, z_subl, Nat.not_lt_zero, z_10, z_01, z_bitc, z_b0, z_b1, ↓zB_Gb, ↓zB_G0, ↓zB_G1, z_eql, z_leq, z_ltl, z_llt, z_eq, z_lt, z_m1lt, hp.k, hp.k1, hp.k2, hp.k3, hp.k4, hp.k5, hp.k6, hp.k7, hp.k8, hp.k9, hp.k10, hp.l1, hp.l2, hp.l3, hp.l4, hp.l5, hp.l6, hp.l7, hp.l8, hp.l9, hp.l10, ↓hp.g0, ↓hp.g1, ↓hp.g2, ↓hp.g3, ↓hp.g4, ↓hp.g5, ↓hp.g6, ↓hp.g7, ↓hp.g8, ↓hp.g9, ↓hp.gb, hp.gb, h011, Nat.lt_irrefl, Bool.true_eq_false]
    · cases glj : z_liv P j with
      | false =>
        have e79 := f79_sp hp hcp1 (k := j) (by omega)
        have ethr : z_thr P j = false := by unfold z_thr; rw [glj, Bool.and_false]
        rw [ethr] at e79
        have eF : z_apF P k v j = false := by unfold z_apF; rw [glj, Bool.false_and]
        have eA : z_any (z_apF P k v) (j + 1) = z_any (z_apF P k v) j := by
          show (z_any (z_apF P k v) j || z_apF P k v j) = _
          rw [eF, Bool.or_false]
        obtain ⟨g1, g2, g3, g4, g5⟩ := hI
        refine Or.inl ⟨(53, p, q, v, z_M (z_nm P) (z_fam P k), nI (z_apK P k (j + 1)), z_b (z_any (z_apF P k v) (j + 1)), nI (j + 1)), m1, z_nm P - (j + 1), ?_, by omega, j + 1, rfl, hj2, rfl, fun gF => ?_, g2, g3, g4, fun i hi1 => g5 i (by omega)⟩
        · have ec : z_apK P k (j + 1) = z_apK P k j := by unfold z_apK; rw [z_sl_s, glj]; rfl
          rw [ec, eA]
          unfold f111_54b f111_155
          simp (disch := ((try simp only [true_or, or_true, hp.k, hp.k1, hp.k2, hp.k3, hp.k4, hp.k5, hp.k6, hp.k7, hp.k8, hp.k9, hp.k10, hp.l1, hp.l2, hp.l3, hp.l4, hp.l5, hp.l6, hp.l7, hp.l8, hp.l9, hp.l10, hpk]) <;> (try omega))) only [↓reduceIte, ↓z_ite, ↓zR, ↓zB_R, ↓zB_B, ↓zB_ite, ↓zB_gI, ↓zB_pI, ↓zB_pZ, ↓zB_aK, ↓zB_G, ↓zB_lI, ↓zB_lZ, ↓zB_wI, ↓zB_wZ, ↓zB_lIl, ↓zB_wIl, zB_pI, zB_pZ, zB_lI, zB_lZ, zB_wI, zB_wZ, z_addl, z_ladd, z_mull, z_lmul, nI_add, z_subl, Nat.not_lt_zero, z_10, z_01, z_bitc, z_b0, z_b1, ↓zB_Gb, ↓zB_G0, ↓zB_G1, z_eql, z_leq, z_ltl, z_llt, z_eq, z_lt, z_m1lt, hp.k, hp.k1, hp.k2, hp.k3, hp.k4, hp.k5, hp.k6, hp.k7, hp.k8, hp.k9, hp.k10, hp.l1, hp.l2, hp.l3, hp.l4, hp.l5, hp.l6, hp.l7, hp.l8, hp.l9, hp.l10, hpk, ↓hp.g0, ↓hp.g1, ↓hp.g2, ↓hp.g3, ↓hp.g4, ↓hp.g5, ↓hp.g6, ↓hp.g7, ↓hp.g8, ↓hp.g9, ↓hp.gb, hp.gb, h011, hj2, ↓zB_c e79, zB_c e79]
        · rw [z_mix_n glj]; rw [eA] at gF; exact g1 gF
      | true =>
        obtain ⟨m2, e2, hI2⟩ := f111_st hX hp hq lo lo2 hpq hcp hT hs54 hw hR hk hlk y1' hj2 hI glj (z_apK P k j) (by omega) (z_any (z_apF P k v) j)
        refine Or.inl ⟨_, m2, z_nm P - (j + 1), e2, by omega, j + 1, rfl, hj2, ?_, hI2⟩
        have ec : z_apK P k (j + 1) = z_apK P k j + z_ct (z_cf P (z_fam P k) j) (z_bd P j).length := by unfold z_apK; rw [z_sl_s, glj]; rfl
        rw [ec]; rfl
noncomputable def z_oaddP (A : z_A) (k v : Int32) : (Int32 ⊕ Nat) × z_A :=
  if z_hm A.2.1 k = false then (.inr 2, A)
  else if z_wr A.2.1 = -1 then z_rf A (z_apR A.2.1 k.toNatClampNeg v) (z_apQ A.2.1 k.toNatClampNeg v)
  else (.inr 0, A)
theorem c_addP (hw : z_WA A) (h : z_CR S m A) (k v : Int32) : ∃ S1 m1, f145 0 k v (z_hp S m) = some ((z_oaddP A k v).1, z_hp S1 m1) ∧ z_CR S1 m1 (z_oaddP A k v).2 ∧ z_SS S S1 ∧ ∀ a, 2390 ≤ a → m1 a = m a := by
  have h0 := h
  obtain ⟨sn, sx, sp, hI, hCM⟩ := h0
  have hX := hI.1
  have hp := hI.2.2.1 sn hI.2.2.2.1.1
  have hn := hI.2.2.2.2.2.1
  have hc := hCM.2.2.1.1.1
  have hwf := hw.2.1.1
  have h24 := hwf.2.2.1
  unfold z_oaddP
  by_cases g1 : z_hm A.2.1 k = false
  · rw [if_pos g1]
    refine ⟨z_Sx S, m, ?_, z_CR_x h, z_SS.x S, fun _ _ => rfl⟩
    have e1 := f165_n hX hp hc hwf g1
    unfold f145
    simp (disch := ((try simp only [true_or, or_true, hX.k0, hX.k1, hX.k2, hX.k3, hX.k4, hX.k5, hX.k6, hX.k7, hX.l2, hX.l3, hX.l4, hX.l5, hX.l6, hX.l7]) <;> (try omega))) only [↓reduceIte, ↓z_ite, ↓zR, ↓zB_R, ↓zB_B, ↓zB_ite, ↓zB_gI, ↓zB_pI, ↓zB_pZ, ↓zB_aK, ↓zB_G, ↓zB_lI, ↓zB_lZ, ↓zB_wI, ↓zB_wZ, ↓zB_lIl, ↓zB_wIl, zB_pI, zB_pZ, zB_lI, zB_lZ, zB_wI, zB_wZ, z_addl, z_ladd, z_mull, z_lmul, nI_add, z_subl, Nat.not_lt_zero, z_10, z_01, z_bitc, z_b0, z_b1, ↓zB_Gb, ↓zB_G0, ↓zB_G1, z_eql, z_leq, z_ltl, z_llt, z_eq, z_lt, z_m1lt, hX.k0, hX.k1, hX.k2, hX.k3, hX.k4, hX.k5, hX.k6, hX.k7, hX.l2, hX.l3, hX.l4, hX.l5, hX.l6, hX.l7, ↓hX.g0_0, ↓hX.g0_1, ↓hX.g0_2, ↓hX.g0_3, ↓hX.g0_4, ↓hX.g0_5, ↓hX.g0_6, ↓hX.g0_7, ↓hX.g0_8, ↓hX.g0_9, ↓hX.g1_0, ↓hX.g1_1, ↓hX.g1_2, ↓hX.g1_3, ↓hX.g1_4, ↓hX.g1_5, ↓z_gnow hX hn, z_gnow hX hn, ↓zT_r e1, zT_r e1]
  rw [if_neg g1]
  have g1' := z_not_false g1
  have e1 := f165_y hX hp hc hwf g1'
  obtain ⟨k', hk', hl, rfl⟩ := (z_hm_iff hwf).mp g1'
  rw [nI_clamp (show k' < 2 ^ 31 by omega)]
  by_cases g3 : z_wr A.2.1 = -1
  · rw [if_pos g3]
    obtain ⟨m1, e3, c1, r1, f14⟩ := c_rr_y hw hI hCM g3
    obtain ⟨S', m', e4, d1, d2, d3⟩ := c_tail hw hI c1 g3 f14 (ob := 53) (kd := 9) hX.k53 (OP := fun q => f111 53 (z_pid sn) q (nI k') v) (r := z_apR A.2.1 k' v) (Q := z_apQ A.2.1 k' v) (fun m2 hpre => f111_sp hpre hwf hw.2.1.2 (z_RT_wr hwf g3) hk' hl v)
    refine ⟨S', m', ?_, d1, d2, fun a ha => (d3 a ha).trans (r1 a ha)⟩
    unfold f145
    simp (disch := ((try simp only [true_or, or_true, hX.k0, hX.k8, hX.k9, hX.l9, hp.k, hp.k1, hp.k2, hp.k3, hp.k4, hp.k5, hp.k6, hp.k7, hp.k8, hp.k9, hp.k10, hp.l1, hp.l2, hp.l3, hp.l4, hp.l5, hp.l6, hp.l7, hp.l8, hp.l9, hp.l10]) <;> (try omega))) only [↓reduceIte, ↓z_ite, ↓zR, ↓zB_R, ↓zB_B, ↓zB_ite, ↓zB_gI, ↓zB_pI, ↓zB_pZ, ↓zB_aK, ↓zB_G, ↓zB_lI, ↓zB_lZ, ↓zB_wI, ↓zB_wZ, ↓zB_lIl, ↓zB_wIl, zB_pI, zB_pZ, zB_lI, zB_lZ, zB_wI, zB_wZ, z_addl, z_ladd, z_mull, z_lmul, nI_add, z_subl, Nat.not_lt_zero, z_10, z_01, z_bitc, z_b0, z_b1, ↓zB_Gb, ↓zB_G0, ↓zB_G1, z_eql, z_leq, z_ltl, z_llt, z_eq, z_lt, z_m1lt, hX.k0, hX.k8, hX.k9, hX.l9, hp.k, hp.k1, hp.k2, hp.k3, hp.k4, hp.k5, hp.k6, hp.k7, hp.k8, hp.k9, hp.k10, hp.l1, hp.l2, hp.l3, hp.l4, hp.l5, hp.l6, hp.l7, hp.l8, hp.l9, hp.l10, ↓hX.g0_0, ↓hX.g0_1, ↓hX.g0_2, ↓hX.g0_3, ↓hX.g0_4, ↓hX.g0_5, ↓hX.g0_6, ↓hX.g0_7, ↓hX.g0_8, ↓hX.g0_9, ↓hX.g8_0, ↓hp.g0, ↓hp.g1, ↓hp.g2, ↓hp.g3, ↓hp.g4, ↓hp.g5, ↓hp.g6, ↓hp.g7, ↓hp.g8, ↓hp.g9, ↓hp.gb, hp.gb, ↓z_gnow hX hn, z_gnow hX hn, ↓zT_l e1, zT_l e1, ↓zT_l e3, zT_l e3]
    exact e4
  · rw [if_neg g3]
    obtain ⟨m1, e3, c1, r1⟩ := c_rr_n hw hI hCM g3
    refine ⟨z_Sx S, m1, ?_, ⟨sn, sx, sp, hI, c1⟩, z_SS.x S, r1⟩
    unfold f145
    simp (disch := ((try simp only [true_or, or_true, hX.k0, hX.k8, hX.k9, hX.l9, hp.k, hp.k1, hp.k2, hp.k3, hp.k4, hp.k5, hp.k6, hp.k7, hp.k8, hp.k9, hp.k10, hp.l1, hp.l2, hp.l3, hp.l4, hp.l5, hp.l6, hp.l7, hp.l8, hp.l9, hp.l10]) <;> (try omega))) only [↓reduceIte, ↓z_ite, ↓zR, ↓zB_R, ↓zB_B, ↓zB_ite, ↓zB_gI, ↓zB_pI, ↓zB_pZ, ↓zB_aK, ↓zB_G, ↓zB_lI, ↓zB_lZ, ↓zB_wI, ↓zB_wZ, ↓zB_lIl, ↓zB_wIl, zB_pI, zB_pZ, zB_lI, zB_lZ, zB_wI, zB_wZ, z_addl, z_ladd, z_mull, z_lmul, nI_add, z_subl, Nat.not_lt_zero, z_10, z_01, z_bitc, z_b0, z_b1, ↓zB_Gb, ↓zB_G0, ↓zB_G1, z_eql, z_leq, z_ltl, z_llt, z_eq, z_lt, z_m1lt, hX.k0, hX.k8, hX.k9, hX.l9, hp.k, hp.k1, hp.k2, hp.k3, hp.k4, hp.k5, hp.k6, hp.k7, hp.k8, hp.k9, hp.k10, hp.l1, hp.l2, hp.l3, hp.l4, hp.l5, hp.l6, hp.l7, hp.l8, hp.l9, hp.l10, ↓hX.g0_0, ↓hX.g0_1, ↓hX.g0_2, ↓hX.g0_3, ↓hX.g0_4, ↓hX.g0_5, ↓hX.g0_6, ↓hX.g0_7, ↓hX.g0_8, ↓hX.g0_9, ↓hX.g8_0, ↓hp.g0, ↓hp.g1, ↓hp.g2, ↓hp.g3, ↓hp.g4, ↓hp.g5, ↓hp.g6, ↓hp.g7, ↓hp.g8, ↓hp.g9, ↓hp.gb, hp.gb, ↓z_gnow hX hn, z_gnow hX hn, ↓zT_l e1, zT_l e1, ↓zT_r e3, zT_r e3]
end
