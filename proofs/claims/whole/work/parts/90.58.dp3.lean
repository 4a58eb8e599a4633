-- deps: 90.57.dp2
/-! an argument fewer: the class writes -/
section
variable {S : z_S} {m : z_m} {p q : Nat} {P : z_Pg} {A : z_A}
/-- Signatures.shorten -/
theorem f117_sp (hX : z_XS S) (hp : z_PS S p) (lo : 242 ≤ p) (h : z_cp m p P) (ht : z_LT m p P) (hw : z_wf P) (hR : z_RT P) {k j x : Nat} (hk : k < z_nm P) (hlk : z_liv P k = true) (hx : x < z_cnt P k) (hj : j < z_nm P) (hl : z_liv P j = true) (hs54 : m 54 6 = nI 256) : ∃ m', f117 53 (z_bi p j) (z_M (z_nm P) (z_fam P k)) (nI x) (z_hp S m) = some (nI (z_ct (z_dpc (z_bd P j) (z_cf P (z_fam P k) j) x) (z_bd P j).length), z_hp S m') ∧ z_cb m' 54 256 (z_dpD (z_bd P j) (z_cf P (z_fam P k) j) x) ∧ z_bF 54 m m' := by
  have h24 := hw.2.2.1
  have hbp := hp.B (k := j) (by omega)
  have hbpk := hbp.k
  have h54 := hX.2.2.2.1.2.2.2
  have h54k := h54.k
  have hlen : (z_bd P j).length ≤ 60 := (h.2.2.2 j hj hl).2.2.1
  have hc2 : z_cnt P k ≤ 2 := (hw.2.2.2.1 k hk).2.2.2.1.1
  obtain ⟨m2, e1, cb2, F2⟩ := f1_sp (S := S) h54 hs54 (by decide)
  have hB := hw.2.2.2.2.1 j hj
  generalize hcf : z_cf P (z_fam P k) j = cf
  have key := z_loopI (f := fun s => f117_16b (s.1) (s.2.1) (s.2.2.1) (s.2.2.2.1) (s.2.2.2.2.1) (s.2.2.2.2.2.1) (s.2.2.2.2.2.2)) (S := S) (fun N st m' => ∃ i e, N = (z_bd P j).length - i ∧ i ≤ (z_bd P j).length ∧ e ≤ (z_bd P j).length ∧ st = (53, z_bi p j, z_M (z_nm P) (z_fam P k), nI x, nI (z_ct (z_dpc (z_bd P j) cf x) i), nI e, nI i) ∧ (e ≤ i ∨ ∃ s, s < i ∧ z_dr (z_bd P j) cf x s = true ∧ z_en (z_bd P j) s = e) ∧ (∀ s, s < i → z_dr (z_bd P j) cf x s = true → z_en (z_bd P j) s ≤ i ∨ z_en (z_bd P j) s ≤ e) ∧ z_cb m' 54 256 (z_cat (z_dpg (z_bd P j) cf x) i) ∧ z_bF 54 m m') (fun r m' => r = nI (z_ct (z_dpc (z_bd P j) cf x) (z_bd P j).length) ∧ z_cb m' 54 256 (z_dpD (z_bd P j) cf x) ∧ z_bF 54 m m') ?_ 1000000 (z_bd P j).length (53, z_bi p j, z_M (z_nm P) (z_fam P k), nI x, 0, 0, 0) m2 ⟨0, 0, rfl, Nat.zero_le _, Nat.zero_le _, rfl, Or.inl (Nat.le_refl _), fun s hs => absurd hs (Nat.not_lt_zero s), cb2, F2⟩ (by omega)
  · obtain ⟨r, m', e, rfl, g⟩ := key
    refine ⟨m', ?_, g⟩
    unfold f117 f117_16
    simp (disch := ((try simp only [true_or, or_true, hX.k53, h54k]) <;> (try omega))) only [↓reduceIte, ↓z_ite, ↓zR, ↓zB_R, ↓zB_B, ↓zB_ite, ↓zB_gI, ↓zB_pI, ↓zB_pZ, ↓zB_aK, ↓zB_G, ↓zB_lI, ↓zB_lZ, ↓zB_wI, ↓zB_wZ, ↓zB_lIl, ↓zB_wIl, zB_pI, zB_pZ, zB_lI, zB_lZ, zB_wI, zB_wZ, z_addl, z_ladd, z_mull, z_lmul, nI_add, z_subl, Nat.not_lt_zero, z_10, z_01, z_bitc, z_b0, z_b1, ↓zB_Gb, ↓zB_G0, ↓zB_G1, z_eql, z_leq, z_ltl, z_llt, z_eq, z_lt, z_m1lt, hX.k53, h54k, ↓hX.g53_0, ↓zB_c e1, zB_c e1]
    exact e
  · rintro N st m1 ⟨i, e, rfl, hi, he, rfl, hs1, hs2, g1, g2⟩
    have hcp1 : z_cp m1 p P := g2.cp (by omega) h24 h
    have hT1 : z_LT m1 p P := z_LT_fr hw (fun a x1 x2 => g2.at (by omega)) ht
    have hb1 := hcp1.2.2.2 j hj hl
    have c71 := hb1.2.1
    have hlc := z_dp_len (l := z_bd P j) (c := cf) (x := x) i
    dsimp only
    rcases Nat.eq_or_lt_of_le hi with hi2 | hi2
    · refine Or.inr ⟨_, m1, ?_, rfl, by rw [hi2] at g1; exact g1, g2⟩
      unfold f117_16b f117_120
      rw [hi2]
      simp (disch := ((try simp only [true_or, or_true, hbp.k, hbp.k1, hbp.k2, hbp.k3, hbp.k4, hbp.k5, hbp.k6, hbp.l1, hbp.l2, hbp.l3, hbp.l4, hbp.l5, hbp.l6]) <;> (try omega))) only [↓reduceIte, ↓z_ite, ↓zR, ↓zB_R, ↓zB_B, ↓zB_ite, ↓zB_gI, ↓zB_pI, ↓zB_pZ, ↓zB_aK, ↓zB_G, ↓zB_lI, ↓zB_lZ, ↓zB_wI, ↓zB_wZ, ↓zB_lIl, ↓zB_wIl, zB_pI, zB_pZ, zB_lI, zB_lZ, zB_wI, zB_wZ, z_addl, z_ladd, z_mull, z_lmul, nI_add, z_subl, Nat.not_lt_zero, z_10, z_01, z_bitc, z_b0, z_b1, ↓zB_Gb, ↓zB_G0, ↓zB_G1, z_eql, z_leq, z_ltl, z_llt, z_eq, z_lt, z_m1lt, hbp.k, hbp.k1, hbp.k2, hbp.k3, hbp.k4, hbp.k5, hbp.k6, hbp.l1, hbp.l2, hbp.l3, hbp.l4, hbp.l5, hbp.l6, ↓hbp.g0, ↓hbp.g1, ↓hbp.g2, ↓hbp.g3, ↓hbp.g4, ↓hbp.g5, c71, Nat.lt_irrefl]
    · have gone : z_dD (z_bd P j) cf x i = true → z_ct (z_dpc (z_bd P j) cf x) (i + 1) = z_ct (z_dpc (z_bd P j) cf x) i ∧ z_cat (z_dpg (z_bd P j) cf x) (i + 1) = z_cat (z_dpg (z_bd P j) cf x) i := fun hD => by
        refine ⟨?_, ?_⟩
        · have : z_dpc (z_bd P j) cf x i = false := by unfold z_dpc; rw [hD]; simp
          rw [z_ct_s, this]; rfl
        · show z_cat (z_dpg (z_bd P j) cf x) i ++ z_dpg (z_bd P j) cf x i = _
          unfold z_dpg
          rw [if_pos hD, List.append_nil]
      by_cases hie : i < e
      · -- in what goes
        obtain ⟨s, hs, hd, hse⟩ := hs1.resolve_left (by omega)
        have hD : z_dD (z_bd P j) cf x i = true := z_dD_iff.mpr ⟨s, by omega, hd, by omega⟩
        obtain ⟨a1, a2⟩ := gone hD
        refine Or.inl ⟨(53, z_bi p j, z_M (z_nm P) (z_fam P k), nI x, nI (z_ct (z_dpc (z_bd P j) cf x) (i + 1)), nI e, nI (i + 1)), m1, (z_bd P j).length - (i + 1), ?_, by omega, i + 1, e, rfl, hi2, he, rfl, Or.inr ⟨s, by omega, hd, hse⟩, fun s' hs' hd' => ?_, by rw [a2]; exact g1, g2⟩
        · rw [a1]
          unfold f117_16b f117_114
          simp (disch := ((try simp only [true_or, or_true, hbp.k, hbp.k1, hbp.k2, hbp.k3, hbp.k4, hbp.k5, hbp.k6, hbp.l1, hbp.l2, hbp.l3, hbp.l4, hbp.l5, hbp.l6]) <;> (try omega))) only [↓reduceIte, ↓z_ite, ↓zR, ↓zB_R, ↓zB_B, ↓zB_ite, ↓zB_gI, ↓zB_pI, ↓zB_pZ, ↓zB_aK, ↓zB_G, ↓zB_lI, ↓zB_lZ, ↓zB_wI, ↓zB_wZ, ↓zB_lIl, ↓zB_wIl, zB_pI, zB_pZ, zB_lI, zB_lZ, zB_wI, zB_wZ, z_addl, z_ladd, z_mull, z_lmul, nI_add, z_subl, Nat.not_lt_zero, z_10, z_01, z_bitc, z_b0, z_b1, ↓zB_Gb, ↓zB_G0, ↓zB_G1, z_eql, z_leq, z_ltl, z_llt, z_eq, z_lt, z_m1lt, hbp.k, hbp.k1, hbp.k2, hbp.k3, hbp.k4, hbp.k5, hbp.k6, hbp.l1, hbp.l2, hbp.l3, hbp.l4, hbp.l5, hbp.l6, ↓hbp.g0, ↓hbp.g1, ↓hbp.g2, ↓hbp.g3, ↓hbp.g4, ↓hbp.g5, c71, hi2, hie]
        · by_cases y : s' = i
          · subst y
            refine Or.inr ?_
            have := z_lam' hB.1 (i := s) (j := s') (by omega) hs (by omega)
            omega
          · rcases hs2 s' (by omega) hd' with z | z
            · exact Or.inl (by omega)
            · exact Or.inr z
      · have e118 := f118_sp (s := z_fam P k) hp hcp1 hT1 hw hR hj hl hi2 (show x < 2 by omega)
        rw [hcf] at e118
        have hend := (hT1 j hj hl).1 i hi2
        have hle := z_en_le hB.1 hi2
        have hgt := z_en_gt hi2
        cases hd : z_dr (z_bd P j) cf x i with
        | true =>
          rw [hd] at e118
          have hD : z_dD (z_bd P j) cf x i = true := z_dD_iff.mpr ⟨i, Nat.le_refl i, hd, hgt⟩
          obtain ⟨a1, a2⟩ := gone hD
          refine Or.inl ⟨(53, z_bi p j, z_M (z_nm P) (z_fam P k), nI x, nI (z_ct (z_dpc (z_bd P j) cf x) (i + 1)), nI (z_en (z_bd P j) i), nI (i + 1)), m1, (z_bd P j).length - (i + 1), ?_, by omega, i + 1, z_en (z_bd P j) i, rfl, hi2, hle, rfl, Or.inr ⟨i, by omega, hd, rfl⟩, fun s' hs' hd' => ?_, by rw [a2]; exact g1, g2⟩
          · rw [a1]
            unfold f117_16b f117_114
            simp (disch := ((try simp only [true_or, or_true, hbp.k, hbp.k1, hbp.k2, hbp.k3, hbp.k4, hbp.k5, hbp.k6, hbp.l1, hbp.l2, hbp.l3, hbp.l4, hbp.l5, hbp.l6]) <;> (try omega))) only [↓reduceIte, ↓z_ite, ↓zR, ↓zB_R, ↓zB_B, ↓zB_ite, ↓zB_gI, ↓zB_pI, ↓zB_pZ, ↓zB_aK, ↓zB_G, ↓zB_lI, ↓zB_lZ, ↓zB_wI, ↓zB_wZ, ↓zB_lIl, ↓zB_wIl, zB_pI, zB_pZ, zB_lI, zB_lZ, zB_wI, zB_wZ, z_addl, z_ladd, z_mull, z_lmul, nI_add, z_subl, Nat.not_lt_zero, z_10, z_01, z_bitc, z_b0, z_b1, ↓zB_Gb, ↓zB_G0, ↓zB_G1, z_eql, z_leq, z_ltl, z_llt, z_eq, z_lt, z_m1lt, hbp.k, hbp.k1, hbp.k2, hbp.k3, hbp.k4, hbp.k5, hbp.k6, hbp.l1, hbp.l2, hbp.l3, hbp.l4, hbp.l5, hbp.l6, ↓hbp.g0, ↓hbp.g1, ↓hbp.g2, ↓hbp.g3, ↓hbp.g4, ↓hbp.g5, c71, hi2, hie, ↓zB_c e118, zB_c e118, Bool.true_eq_false, hend]
          · by_cases y : s' = i
            · subst y; exact Or.inr (Nat.le_refl _)
            · rcases hs2 s' (by omega) hd' with z | z
              · exact Or.inl (by omega)
              · exact Or.inl (by omega)
        | false =>
          rw [hd] at e118
          have hD : z_dD (z_bd P j) cf x i = false := by
            cases qq : z_dD (z_bd P j) cf x i with
            | false => rfl
            | true =>
              obtain ⟨s', y1, y2, y3⟩ := z_dD_iff.mp qq
              by_cases y : s' = i
              · rw [y, hd] at y2; cases y2
              · rcases hs2 s' (by omega) y2 with z | z
                · omega
                · omega
          obtain ⟨n1, n2, n3⟩ := hb1.2.2.2.2 i hi2
          have e17 := f17_sp hbp hb1 (B := z_Bd P j) (fun i hi => ((hT1 j hj hl).2 i hi).2) hi2 (fun h7 => by
            obtain ⟨a1, a2, _⟩ := z_call_q hw hj (hR j hj hl) hi2 h7
            exact ⟨a1, by omega⟩) (z_M (z_nm P) (z_fam P k))
          rw [z_M_cf hw hR hj hl hi2, hcf] at e17
          obtain ⟨m3, e3, cb3, F3⟩ := f2_sp h54 g1 (show (z_cat (z_dpg (z_bd P j) cf x) i).length < 256 by omega) (k := (z_dpN (z_bd P j) cf i).1) (v := (z_dpN (z_bd P j) cf i).2.1) (a := (z_dpN (z_bd P j) cf i).2.2)
          have ecat : z_cat (z_dpg (z_bd P j) cf x) (i + 1) = z_cat (z_dpg (z_bd P j) cf x) i ++ [z_dpN (z_bd P j) cf i] := by
            show z_cat (z_dpg (z_bd P j) cf x) i ++ z_dpg (z_bd P j) cf x i = _
            unfold z_dpg
            rw [hD, if_neg Bool.false_ne_true]
          refine Or.inl ⟨(53, z_bi p j, z_M (z_nm P) (z_fam P k), nI x, nI (z_ct (z_dpc (z_bd P j) cf x) (i + 1)), nI e, nI (i + 1)), m3, (z_bd P j).length - (i + 1), ?_, by omega, i + 1, e, rfl, hi2, he, rfl, Or.inl (by omega), fun s' hs' hd' => ?_, by rw [ecat]; exact cb3, g2.trans F3⟩
          · unfold f117_16b f117_75 f117_110 f117_114
            have ec : z_dpc (z_bd P j) cf x i = cf i := by unfold z_dpc; rw [hD, Bool.not_false, Bool.and_true]
            rw [z_ct_s, ec]
            cases g : cf i with
            | false =>
              have hN : z_dpN (z_bd P j) cf i = z_at (z_bd P j) i := by unfold z_dpN; rw [g]; rfl
              rw [g] at e17
              rw [hN] at e3
              have e3 : f2 54 (z_k (z_bd P j) i) (z_v (z_bd P j) i) (nI (z_p (z_bd P j) i)) (z_hp S m1) = some ((), z_hp S m3) := e3
              simp (disch := ((try simp only [true_or, or_true, hbp.k, hbp.k1, hbp.k2, hbp.k3, hbp.k4, hbp.k5, hbp.k6, hbp.l1, hbp.l2, hbp.l3, hbp.l4, hbp.l5, hbp.l6, hX.k53, hbpk, h54k]) <;> (try omega))) only [↓reduceIte, ↓z_ite, ↓zR, ↓zB_R, ↓zB_B, ↓zB_ite, ↓zB_gI, ↓zB_pI, ↓zB_pZ, ↓zB_aK, ↓zB_G, ↓zB_lI, ↓zB_lZ, ↓zB_wI, ↓zB_wZ, ↓zB_lIl, ↓zB_wIl, zB_pI, zB_pZ, zB_lI, zB_lZ, zB_wI, zB_wZ, z_addl, z_ladd, z_mull, z_lmul, nI_add, z_subl, Nat.not_lt_zero, z_10, z_01, z_bitc, z_b0, z_b1, ↓zB_Gb, ↓zB_G0, ↓zB_G1, z_eql, z_leq, z_ltl, z_llt, z_eq, z_lt, z_m1lt, hbp.k, hbp.k1, hbp.k2, hbp.k3, hbp.k4, hbp.k5, hbp.k6, hbp.l1, hbp.l2, hbp.l3, hbp.l4, hbp.l5, hbp.l6, hX.k53, hbpk, h54k, ↓hbp.g0, ↓hbp.g1, ↓hbp.g2, ↓hbp.g3, ↓hbp.g4, ↓hbp.g5, ↓hX.g53_0, c71, hi2, hie, ↓zB_c e118, zB_c e118, ↓zB_c e17, zB_c e17, n1, n2, n3, Int32.sub_zero, ↓zB_c e3, zB_c e3]
              rfl
            | true =>
              have hcfi : z_cf P (z_fam P k) j i = true := by rw [hcf]; exact g
              obtain ⟨_, _, h7, ha⟩ := z_cf_dp hw hR hk hlk hx hj hl hcfi
              have hN : z_dpN (z_bd P j) cf i = (z_k (z_bd P j) i, z_v (z_bd P j) i, z_a (z_bd P j) i - 1) := by unfold z_dpN; rw [g, if_pos rfl]
              rw [g] at e17
              rw [hN] at e3
              have ep : nI (z_pn (z_k (z_bd P j) i) (z_a (z_bd P j) i - 1)) = nI (z_p (z_bd P j) i - 1) := by
                unfold z_p
                rw [h7]
                rcases ha with q | q <;> rw [q] <;> rfl
              have e3 : f2 54 (z_k (z_bd P j) i) (z_v (z_bd P j) i) (nI (z_p (z_bd P j) i - 1)) (z_hp S m1) = some ((), z_hp S m3) := by rw [← ep]; exact e3
              simp (disch := ((try simp only [true_or, or_true, hbp.k, hbp.k1, hbp.k2, hbp.k3, hbp.k4, hbp.k5, hbp.k6, hbp.l1, hbp.l2, hbp.l3, hbp.l4, hbp.l5, hbp.l6, hX.k53, hbpk, h54k]) <;> (try omega))) only [↓reduceIte, ↓z_ite, ↓zR, ↓zB_R, ↓zB_B, ↓zB_ite, ↓zB_gI, ↓zB_pI, ↓zB_pZ, ↓zB_aK, ↓zB_G, ↓zB_lI, ↓zB_lZ, ↓zB_wI, ↓zB_wZ, ↓zB_lIl, ↓zB_wIl, zB_pI, zB_pZ, zB_lI, zB_lZ, zB_wI, zB_wZ, z_addl, z_ladd, z_mull, z_lmul, nI_add, z_subl, Nat.not_lt_zero, z_10, z_01, z_bitc, z_b0, z_b1, ↓zB_Gb, ↓zB_G0, ↓zB_G1, z_eql, z_leq, z_ltl, z_llt, z_eq, z_lt, z_m1lt, hbp.k, hbp.k1, hbp.k2, hbp.k3, hbp.k4, hbp.k5, hbp.k6, hbp.l1, hbp.l2, hbp.l3, hbp.l4, hbp.l5, hbp.l6, hX.k53, hbpk, h54k, ↓hbp.g0, ↓hbp.g1, ↓hbp.g2, ↓hbp.g3, ↓hbp.g4, ↓hbp.g5, ↓hX.g53_0, c71, hi2, hie, ↓zB_c e118, zB_c e118, ↓zB_c e17, zB_c e17, Bool.true_eq_false, n1, n2, n3, ↓zB_c e3]
          · by_cases y : s' = i
            · rw [y, hd] at hd'; cases hd'
            · rcases hs2 s' (by omega) hd' with z | z
              · exact Or.inl (by omega)
              · exact Or.inr z
/-- the head of a method with a parameter fewer -/
def z_dpH (H : Nat → Int32) (c x : Nat) : Nat → Int32 := fun w => if w = 3 then nI (c - 1) else if w = 4 + (c - 1) then -1 else if w = 6 + (c - 1) then -1 else if x = 0 ∧ c = 2 ∧ w = 4 then H 5 else if x = 0 ∧ c = 2 ∧ w = 6 then H 7 else H w
theorem z_dpH_o {H : Nat → Int32} {c x w : Nat} (hw : w < 3 ∨ w = 8) (hc : c ≤ 2) : z_dpH H c x w = H w := by
  unfold z_dpH
  rw [if_neg (by omega), if_neg (by omega), if_neg (by omega), if_neg (by omega), if_neg (by omega)]
theorem z_dpH_3 {H : Nat → Int32} {c x : Nat} : z_dpH H c x 3 = nI (c - 1) := if_pos rfl
/-- Program.dropParameterOf -/
theorem f76_gen (hq : z_PS S q) (h : z_cp m q P) (h24 : z_nm P ≤ 24) (hct : ∀ k, k < z_nm P → z_cnt P k ≤ 2) {k c x : Nat} (hk : k < z_nm P) (hl : z_liv P k = true) (h3 : z_hd P k 3 = nI c) (hc : c ≤ 2) (hx : x < c) (h0 : z_hd P k 0 = 1) (hn : c = 1 → z_hd P k 5 = -1) : ∃ m', f76 q (nI k) (nI x) (z_hp S m) = some ((), z_hp S m') ∧ z_cp m' q (z_sM P k (z_dpH (z_hd P k) c x) (z_bd P k)) ∧ ∀ b, b ≠ q + 6 → b ≠ q + 7 → b ≠ q + 8 → m' b = m b := by
  obtain ⟨s1, s2, s3, s4, s5, s6⟩ := z_h1_of h hk hl
  rw [h3, nI_clamp (by omega)] at s6
  have hk24 : k < 24 := by omega
  have s3' : m (q + 6) k = nI c := by rw [s3, h3]
  have hsub : nI c - 1 = nI (c - 1) := z_subl (k := 1) (by omega)
  -- what is written
  have run : ∃ m1 a, f76 q (nI k) (nI x) (z_hp S m) = some ((), z_hp S m1) ∧ m1 (q + 6) k = nI (c - 1) ∧ (∀ j, j ≠ k → m1 (q + 6) j = m (q + 6) j) ∧ (∀ j, j ≠ k * 2 → j ≠ k * 2 + 1 → m1 (q + 7) j = m (q + 7) j) ∧ (∀ j, j ≠ k * 2 → m1 (q + 8) j = m (q + 8) j) ∧ m1 (q + 7) (k * 2 + 1) = -1 ∧ m1 (q + 7) (k * 2) = (if x = 0 then m (q + 7) (k * 2 + 1) else m (q + 7) (k * 2)) ∧ m1 (q + 8) (k * 2) = (if x = 0 then m (q + 8) (k * 2 + 1) else m (q + 8) (k * 2)) ∧ (∀ b, b ≠ q + 6 → b ≠ q + 7 → b ≠ q + 8 → m1 b = m b) ∧ a = 0 := by
    by_cases x0 : x = 0
    · subst x0
      generalize hm1 : z_up (z_up (z_up (z_up m (q + 7) (k * 2) (m (q + 7) (k * 2 + 1))) (q + 8) (k * 2) (m (q + 8) (k * 2 + 1))) (q + 7) (k * 2 + 1) (-1)) (q + 6) k (nI (c - 1)) = m1
      refine ⟨m1, 0, ?_, by rw [← hm1, z_up_s], fun j hj => by rw [← hm1, z_up_b hj, z_up_row (by omega), z_up_row (by omega), z_up_row (by omega)], fun j h1 h2 => by rw [← hm1, z_up_row (by omega), z_up_b h2, z_up_row (by omega), z_up_b h1], fun j h1 => by rw [← hm1, z_up_row (by omega), z_up_row (by omega), z_up_b h1, z_up_row (by omega)], by rw [← hm1, z_up_row (by omega), z_up_s], ?_, ?_, fun b x1 x2 x3 => by rw [← hm1, z_up_row x1, z_up_row x2, z_up_row x3, z_up_row x2], rfl⟩
      · have u1 : z_up m (q + 7) (k * 2) (m (q + 7) (k * 2 + 1)) (q + 8) (k * 2 + 1) = m (q + 8) (k * 2 + 1) := by rw [z_up_row (by omega)]
        have u2 : z_up (z_up (z_up m (q + 7) (k * 2) (m (q + 7) (k * 2 + 1))) (q + 8) (k * 2) (m (q + 8) (k * 2 + 1))) (q + 7) (k * 2 + 1) (-1) (q + 6) k = nI c := by rw [z_up_row (by omega), z_up_row (by omega), z_up_row (by omega)]; exact s3'
        unfold f76 f76_40
        have k47 : k * 2 + 1 < 48 := by omega
        have k46 : k * 2 < 48 := by omega
        simp (disch := ((try simp only [true_or, or_true, hq.k, hq.k1, hq.k2, hq.k3, hq.k4, hq.k5, hq.k6, hq.k7, hq.k8, hq.k9, hq.k10, hq.l1, hq.l2, hq.l3, hq.l4, hq.l5, hq.l6, hq.l7, hq.l8, hq.l9, hq.l10]) <;> (try omega))) only [↓reduceIte, ↓z_ite, ↓zR, ↓zB_R, ↓zB_B, ↓zB_ite, ↓zB_gI, ↓zB_pI, ↓zB_pZ, ↓zB_aK, ↓zB_G, ↓zB_lI, ↓zB_lZ, ↓zB_wI, ↓zB_wZ, ↓zB_lIl, ↓zB_wIl, zB_pI, zB_pZ, zB_lI, zB_lZ, zB_wI, zB_wZ, z_addl, z_ladd, z_mull, z_lmul, nI_add, z_subl, Nat.not_lt_zero, z_10, z_01, z_bitc, z_b0, z_b1, ↓zB_Gb, ↓zB_G0, ↓zB_G1, z_eql, z_leq, z_ltl, z_llt, z_eq, z_lt, z_m1lt, hq.k, hq.k1, hq.k2, hq.k3, hq.k4, hq.k5, hq.k6, hq.k7, hq.k8, hq.k9, hq.k10, hq.l1, hq.l2, hq.l3, hq.l4, hq.l5, hq.l6, hq.l7, hq.l8, hq.l9, hq.l10, ↓hq.g0, ↓hq.g1, ↓hq.g2, ↓hq.g3, ↓hq.g4, ↓hq.g5, ↓hq.g6, ↓hq.g7, ↓hq.g8, ↓hq.g9, ↓hq.gb, hq.gb, k47, k46, u1, u2, hk24, hsub, hm1]
      · rw [if_pos rfl, ← hm1, z_up_row (by omega), z_up_b (by omega), z_up_row (by omega), z_up_s]
      · rw [if_pos rfl, ← hm1, z_up_row (by omega), z_up_row (by omega), z_up_s]
    · generalize hm1 : z_up (z_up m (q + 7) (k * 2 + 1) (-1)) (q + 6) k (nI (c - 1)) = m1
      refine ⟨m1, 0, ?_, by rw [← hm1, z_up_s], fun j hj => by rw [← hm1, z_up_b hj, z_up_row (by omega)], fun j h1 h2 => by rw [← hm1, z_up_row (by omega), z_up_b h2], fun j h1 => by rw [← hm1, z_up_row (by omega), z_up_row (by omega)], by rw [← hm1, z_up_row (by omega), z_up_s], ?_, ?_, fun b x1 x2 x3 => by rw [← hm1, z_up_row x1, z_up_row x2], rfl⟩
      · have u2 : z_up m (q + 7) (k * 2 + 1) (-1) (q + 6) k = nI c := by rw [z_up_row (by omega)]; exact s3'
        unfold f76 f76_40
        have k47 : k * 2 + 1 < 48 := by omega
        have hx2 : x < 2147483648 := by omega
        simp (disch := ((try simp only [true_or, or_true, hq.k, hq.k1, hq.k2, hq.k3, hq.k4, hq.k5, hq.k6, hq.k7, hq.k8, hq.k9, hq.k10, hq.l1, hq.l2, hq.l3, hq.l4, hq.l5, hq.l6, hq.l7, hq.l8, hq.l9, hq.l10]) <;> (try omega))) only [↓reduceIte, ↓z_ite, ↓zR, ↓zB_R, ↓zB_B, ↓zB_ite, ↓zB_gI, ↓zB_pI, ↓zB_pZ, ↓zB_aK, ↓zB_G, ↓zB_lI, ↓zB_lZ, ↓zB_wI, ↓zB_wZ, ↓zB_lIl, ↓zB_wIl, zB_pI, zB_pZ, zB_lI, zB_lZ, zB_wI, zB_wZ, z_addl, z_ladd, z_mull, z_lmul, nI_add, z_subl, Nat.not_lt_zero, z_10, z_01, z_bitc, z_b0, z_b1, ↓zB_Gb, ↓zB_G0, ↓zB_G1, z_eql, z_leq, z_ltl, z_llt, z_eq, z_lt, z_m1lt, hq.k, hq.k1, hq.k2, hq.k3, hq.k4, hq.k5, hq.k6, hq.k7, hq.k8, hq.k9, hq.k10, hq.l1, hq.l2, hq.l3, hq.l4, hq.l5, hq.l6, hq.l7, hq.l8, hq.l9, hq.l10, ↓hq.g0, ↓hq.g1, ↓hq.g2, ↓hq.g3, ↓hq.g4, ↓hq.g5, ↓hq.g6, ↓hq.g7, ↓hq.g8, ↓hq.g9, ↓hq.gb, hq.gb, x0, k47, u2, hk24, hsub, hm1]
      · rw [if_neg x0, ← hm1, z_up_row (by omega), z_up_b (by omega)]
      · rw [if_neg x0, ← hm1, z_up_row (by omega), z_up_row (by omega)]
  obtain ⟨m1, _, e, r6, r6o, r7o, r8o, r71, r70, r80, hfr, _⟩ := run
  refine ⟨m1, e, z_cp_sM h hct hk hl ⟨hfr _ (by omega) (by omega) (by omega), hfr _ (by omega) (by omega) (by omega), hfr _ (by omega) (by omega) (by omega), hfr _ (by omega) (by omega) (by omega), fun j' hj' => ⟨by rw [hfr _ (by omega) (by omega) (by omega)], by rw [hfr _ (by omega) (by omega) (by omega)], r6o j' hj', by rw [hfr _ (by omega) (by omega) (by omega)], fun i hi => ⟨r7o _ (by omega) (by omega), r8o _ (by omega)⟩⟩⟩ (by rw [z_dpH_o (Or.inl (by omega)) hc]; exact h0) ⟨?_, ?_, ?_, ?_, fun i hi => ?_, fun i hi => ?_⟩ (fun j' hj' => by rw [hfr _ (by unfold z_bi; omega) (by unfold z_bi; omega) (by unfold z_bi; omega)]; exact h.2.2.1 j' hj') (fun j' hj' hne a x1 x2 => hfr a (by unfold z_bi at x1; omega) (by unfold z_bi at x1; omega) (by unfold z_bi at x1; omega)) (z_cb_fr (fun a x1 x2 => hfr a (by unfold z_bi at x1; omega) (by unfold z_bi at x1; omega) (by unfold z_bi at x1; omega)) (h.2.2.2 k hk hl)), hfr⟩
  · rw [hfr _ (by omega) (by omega) (by omega), z_dpH_o (Or.inl (by omega)) hc]; exact s1
  · rw [hfr _ (by omega) (by omega) (by omega), z_dpH_o (Or.inl (by omega)) hc]; exact s2
  · rw [z_dpH_3]; exact r6
  · rw [hfr _ (by omega) (by omega) (by omega), z_dpH_o (Or.inr rfl) hc]; exact s4
  · have i01 : i = 0 ∨ i = 1 := by omega
    have t0 := s5 0 (by decide)
    have t1 := s5 1 (by decide)
    rw [Nat.add_zero] at t0
    have c12 : c = 1 ∨ c = 2 := by omega
    rcases i01 with rfl | rfl
    · rw [show k * 2 + 0 = k * 2 from rfl, r70]
      rcases c12 with rfl | rfl
      · have x0 : x = 0 := by omega
        subst x0
        rw [if_pos rfl, t1]
        exact hn rfl
      · have x01 : x = 0 ∨ x = 1 := by omega
        rcases x01 with rfl | rfl
        · rw [if_pos rfl, t1]; rfl
        · rw [if_neg (by decide)]; exact t0
    · rw [r71]
      rcases c12 with rfl | rfl
      · have x0 : x = 0 := by omega
        subst x0
        exact (hn rfl).symm
      · have x01 : x = 0 ∨ x = 1 := by omega
        rcases x01 with rfl | rfl <;> rfl
  · rw [z_dpH_3, nI_clamp (by omega)] at hi
    have c2 : c = 2 := by omega
    have i0 : i = 0 := by omega
    subst c2 i0
    have t0 := s6 0 (by decide)
    have t1 := s6 1 (by decide)
    rw [Nat.add_zero] at t0
    rw [show k * 2 + 0 = k * 2 from rfl, r80]
    have x01 : x = 0 ∨ x = 1 := by omega
    rcases x01 with rfl | rfl
    · rw [if_pos rfl, t1]; rfl
    · rw [if_neg (by decide)]; exact t0
end
