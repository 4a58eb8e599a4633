-- deps: 90.72.in1
/-! a call written out: the class writes -/
section
variable {S : z_S} {m : z_m} {p q : Nat} {P : z_Pg} {A : z_A}
/-- Inliner.addBody -/
theorem f38_25_sp (hX : z_XS S) (hp : z_PS S p) (lo : 242 ≤ p) (h : z_cp m p P) (ht : z_LT m p P) (hw : z_wf P) {k i q : Nat} (hk : k < z_nm P) (hlk : z_liv P k = true) (hi : i < (z_bd P k).length) (hq : q < z_nm P) (hlq : z_liv P q = true) {n1 n2 : Int32} {L : List z_N} (hsh : z_cb m 30 256 L) (hL : L.length + 2 * (z_bd P q).length ≤ 255) : ∃ m', f38_25 29 p (nI k) (nI i) n1 n2 (z_bi p q) 0 (z_hp S m) = some ((), z_hp S m') ∧ z_cb m' 30 256 (L ++ z_inB P k i q n1 n2) ∧ z_bF 30 m m' := by
  have h24 := hw.2.2.1
  have hbp := hp.B (k := q) (by omega)
  have hbpk := hbp.k
  have hpk := hp.k
  have h30 := hX.2.2.2.1.2.1
  have h30k := h30.k
  have hlen : (z_bd P q).length ≤ 60 := (h.2.2.2 q hq hlq).2.2.1
  unfold f38_25
  have key := z_loopI (f := fun s => f38_25b (s.1) (s.2.1) (s.2.2.1) (s.2.2.2.1) (s.2.2.2.2.1) (s.2.2.2.2.2.1) (s.2.2.2.2.2.2.1) (s.2.2.2.2.2.2.2)) (S := S) (fun N st m' => ∃ j, N = (z_bd P q).length - j ∧ j ≤ (z_bd P q).length ∧ st = (29, p, nI k, nI i, n1, n2, z_bi p q, nI j) ∧ z_cb m' 30 256 (L ++ z_cat (z_ing P k i q n1 n2) j) ∧ z_bF 30 m m') (fun _ m' => z_cb m' 30 256 (L ++ z_inB P k i q n1 n2) ∧ z_bF 30 m m') ?_ 1000000 (z_bd P q).length (29, p, nI k, nI i, n1, n2, z_bi p q, 0) m ⟨0, rfl, Nat.zero_le _, rfl, by show z_cb m 30 256 (L ++ []); rw [List.append_nil]; exact hsh, z_bF.refl _ _⟩ (by omega)
  · obtain ⟨r, m', e, g⟩ := key
    exact ⟨m', e, g⟩
  · rintro N st m1 ⟨j, rfl, hj, rfl, g1, g2⟩
    have hcp1 : z_cp m1 p P := g2.cp (by omega) h24 h
    have hT1 : z_LT m1 p P := z_LT_fr hw (fun a x1 x2 => g2.at (by omega)) ht
    have hb1 := hcp1.2.2.2 q hq hlq
    have c71 := hb1.2.1
    have hcat := z_cat_le (f := z_ing P k i q n1 n2) (c := 2) j (fun j _ => z_ing_len P k i q n1 n2 j)
    have hLl : (L ++ z_cat (z_ing P k i q n1 n2) j).length ≤ 254 ∨ j = (z_bd P q).length := by
      rw [List.length_append]; omega
    dsimp only
    rcases Nat.eq_or_lt_of_le hj with hj2 | hj2
    · refine Or.inr ⟨(), m1, ?_, by rw [hj2] at g1; exact g1, g2⟩
      unfold f38_25b f38_154
      rw [hj2]
      simp (disch := ((try simp only [true_or, or_true, hbp.k, hbp.k1, hbp.k2, hbp.k3, hbp.k4, hbp.k5, hbp.k6, hbp.l1, hbp.l2, hbp.l3, hbp.l4, hbp.l5, hbp.l6]) <;> (try omega))) only [↓reduceIte, ↓z_ite, ↓zR, ↓zB_R, ↓zB_B, ↓zB_ite, ↓zB_gI, ↓zB_pI, ↓zB_pZ, ↓zB_aK, ↓zB_G, ↓zB_lI, ↓zB_lZ, ↓zB_wI, ↓zB_wZ, ↓zB_lIl, ↓zB_wIl, zB_pI, zB_pZ, zB_lI, zB_lZ, zB_wI, zB_wZ, z_addl, z_ladd, z_mull, z_lmul, nI_add, z_subl, Nat.not_lt_zero, z_10, z_01, z_bitc, z_b0, z_b1, ↓zB_Gb, ↓zB_G0, ↓zB_G1, z_eql, z_leq, z_ltl, z_llt, z_eq, z_lt, z_m1lt, hbp.k, hbp.k1, hbp.k2, hbp.k3, hbp.k4, hbp.k5, hbp.k6, hbp.l1, hbp.l2, hbp.l3, hbp.l4, hbp.l5, hbp.l6, ↓hbp.g0, ↓hbp.g1, ↓hbp.g2, ↓hbp.g3, ↓hbp.g4, ↓hbp.g5, c71, Nat.lt_irrefl]
    · have hLl : (L ++ z_cat (z_ing P k i q n1 n2) j).length + 1 < 256 := by rw [List.length_append]; omega
      obtain ⟨_, ev, _⟩ := hb1.2.2.2.2 j hj2
      have hBd : ∀ i, i < (z_bd P q).length → m1 (z_bi p q + 6) i = z_Bd P q i := fun i hi => ((hT1 q hq hlq).2 i hi).2
      have e15a := f15_sp hbp hb1 hBd hj2 (-1)
      have e15b := f15_sp hbp hb1 hBd hj2 (-2)
      have e13 := f13_sp hbp hb1 hBd hj2
      have e101 := f101_sp (S := S) hp hcp1 hw hk hlk (hT1 k hk hlk) hi (z_v (z_bd P q) j)
      have fin : ∀ m2 piece, z_ing P k i q n1 n2 j = piece → z_cb m2 30 256 ((L ++ z_cat (z_ing P k i q n1 n2) j) ++ piece) → z_cb m2 30 256 (L ++ z_cat (z_ing P k i q n1 n2) (j + 1)) := fun m2 piece e h => by
        show z_cb m2 30 256 (L ++ (z_cat (z_ing P k i q n1 n2) j ++ z_ing P k i q n1 n2 j))
        rw [e, ← List.append_assoc]; exact h
      have wr : ∃ m2, f38_25b 29 p (nI k) (nI i) n1 n2 (z_bi p q) (nI j) (z_hp S m1) = some (.inl (29, p, nI k, nI i, n1, n2, z_bi p q, nI (j + 1)), z_hp S m2) ∧ z_cb m2 30 256 (L ++ z_cat (z_ing P k i q n1 n2) (j + 1)) ∧ z_bF 30 m1 m2 := by
        obtain ⟨m3, e3, d1, d2⟩ := f3_sp h30 g1 (by omega) hbp hb1 hj2
        unfold f38_25b f38_137 f38_148
        cases b1 : z_isBL (z_bd P q) (z_Bd P q) j (-1) with
        | true =>
          rw [b1] at e15a
          obtain ⟨m2, e4, c1, c2⟩ := f4_sp h30 g1 (by omega) hbp hb1 hj2 n1
          refine ⟨m2, ?_, fin m2 _ (by unfold z_ing; rw [if_pos b1]) c1, c2⟩
          simp (disch := ((try simp only [true_or, or_true, hbp.k, hbp.k1, hbp.k2, hbp.k3, hbp.k4, hbp.k5, hbp.k6, hbp.l1, hbp.l2, hbp.l3, hbp.l4, hbp.l5, hbp.l6, hX.k29, hbpk, h30k, hpk]) <;> (try omega))) only [↓reduceIte, ↓z_ite, ↓zR, ↓zB_R, ↓zB_B, ↓zB_ite, ↓zB_gI, ↓zB_pI, ↓zB_pZ, ↓zB_aK, ↓zB_G, ↓zB_lI, ↓zB_lZ, ↓zB_wI, ↓zB_wZ, ↓zB_lIl, ↓zB_wIl, zB_pI, zB_pZ, zB_lI, zB_lZ, zB_wI, zB_wZ, z_addl, z_ladd, z_mull, z_lmul, nI_add, z_subl, Nat.not_lt_zero, z_10, z_01, z_bitc, z_b0, z_b1, ↓zB_Gb, ↓zB_G0, ↓zB_G1, z_eql, z_leq, z_ltl, z_llt, z_eq, z_lt, z_m1lt, hbp.k, hbp.k1, hbp.k2, hbp.k3, hbp.k4, hbp.k5, hbp.k6, hbp.l1, hbp.l2, hbp.l3, hbp.l4, hbp.l5, hbp.l6, hX.k29, hbpk, h30k, hpk, ↓hbp.g0, ↓hbp.g1, ↓hbp.g2, ↓hbp.g3, ↓hbp.g4, ↓hbp.g5, ↓hX.g29_0, ↓hX.g29_1, c71, hj2, ev, ↓zB_c e15a, zB_c e15a, Bool.true_eq_false, ↓zB_c e4, zB_c e4]
        | false =>
          rw [b1] at e15a
          cases b2 : z_isBL (z_bd P q) (z_Bd P q) j (-2) with
          | true =>
            rw [b2] at e15b
            obtain ⟨m2, e4, c1, c2⟩ := f4_sp h30 g1 (by omega) hbp hb1 hj2 n2
            refine ⟨m2, ?_, fin m2 _ (by unfold z_ing; rw [if_neg (by rw [b1]; exact Bool.false_ne_true), if_pos b2]) c1, c2⟩
            simp (disch := ((try simp only [true_or, or_true, hbp.k, hbp.k1, hbp.k2, hbp.k3, hbp.k4, hbp.k5, hbp.k6, hbp.l1, hbp.l2, hbp.l3, hbp.l4, hbp.l5, hbp.l6, hX.k29, hbpk, h30k, hpk]) <;> (try omega))) only [↓reduceIte, ↓z_ite, ↓zR, ↓zB_R, ↓zB_B, ↓zB_ite, ↓zB_gI, ↓zB_pI, ↓zB_pZ, ↓zB_aK, ↓zB_G, ↓zB_lI, ↓zB_lZ, ↓zB_wI, ↓zB_wZ, ↓zB_lIl, ↓zB_wIl, zB_pI, zB_pZ, zB_lI, zB_lZ, zB_wI, zB_wZ, z_addl, z_ladd, z_mull, z_lmul, nI_add, z_subl, Nat.not_lt_zero, z_10, z_01, z_bitc, z_b0, z_b1, ↓zB_Gb, ↓zB_G0, ↓zB_G1, z_eql, z_leq, z_ltl, z_llt, z_eq, z_lt, z_m1lt, hbp.k, hbp.k1, hbp.k2, hbp.k3, hbp.k4, hbp.k5, hbp.k6, hbp.l1, hbp.l2, hbp.l3, hbp.l4, hbp.l5, hbp.l6, hX.k29, hbpk, h30k, hpk, ↓hbp.g0, ↓hbp.g1, ↓hbp.g2, ↓hbp.g3, ↓hbp.g4, ↓hbp.g5, ↓hX.g29_0, ↓hX.g29_1, c71, hj2, ev, ↓zB_c e15a, zB_c e15a, ↓zB_c e15b, zB_c e15b, Bool.true_eq_false, ↓zB_c e4, zB_c e4]
          | false =>
            rw [b2] at e15b
            have plainN : (z_isF (z_bd P q) (z_Bd P q) j && z_hl P k i (z_v (z_bd P q) j)) = false → z_ing P k i q n1 n2 j = [z_at (z_bd P q) j] := fun g => by
              unfold z_ing
              rw [if_neg (by rw [b1]; exact Bool.false_ne_true), if_neg (by rw [b2]; exact Bool.false_ne_true), g, if_neg Bool.false_ne_true]
            cases b3 : z_isF (z_bd P q) (z_Bd P q) j with
            | false =>
              rw [b3] at e13
              refine ⟨m3, ?_, fin m3 _ (plainN (by rw [b3]; rfl)) d1, d2⟩
              simp (disch := ((try simp only [true_or, or_true, hbp.k, hbp.k1, hbp.k2, hbp.k3, hbp.k4, hbp.k5, hbp.k6, hbp.l1, hbp.l2, hbp.l3, hbp.l4, hbp.l5, hbp.l6, hX.k29, hbpk, h30k, hpk]) <;> (try omega))) only [↓reduceIte, ↓z_ite, ↓zR, ↓zB_R, ↓zB_B, ↓zB_ite, ↓zB_gI, ↓zB_pI, ↓zB_pZ, ↓zB_aK, ↓zB_G, ↓zB_lI, ↓zB_lZ, ↓zB_wI, ↓zB_wZ, ↓zB_lIl, ↓zB_wIl, zB_pI, zB_pZ, zB_lI, zB_lZ, zB_wI, zB_wZ, z_addl, z_ladd, z_mull, z_lmul, nI_add, z_subl, Nat.not_lt_zero, z_10, z_01, z_bitc, z_b0, z_b1, ↓zB_Gb, ↓zB_G0, ↓zB_G1, z_eql, z_leq, z_ltl, z_llt, z_eq, z_lt, z_m1lt, hbp.k, hbp.k1, hbp.k2, hbp.k3, hbp.k4, hbp.k5, hbp.k6, hbp.l1, hbp.l2, hbp.l3, hbp.l4, hbp.l5, hbp.l6, hX.k29, hbpk, h30k, hpk, ↓hbp.g0, ↓hbp.g1, ↓hbp.g2, ↓hbp.g3, ↓hbp.g4, ↓hbp.g5, ↓hX.g29_0, ↓hX.g29_1, c71, hj2, ev, ↓zB_c e15a, zB_c e15a, ↓zB_c e15b, zB_c e15b, ↓zB_c e13, zB_c e13, ↓zB_c e3, zB_c e3]
            | true =>
              rw [b3] at e13
              cases b4 : z_hl P k i (z_v (z_bd P q) j) with
              | false =>
                rw [b4] at e101
                refine ⟨m3, ?_, fin m3 _ (plainN (by rw [b3, b4]; rfl)) d1, d2⟩
                simp (disch := ((try simp only [true_or, or_true, hbp.k, hbp.k1, hbp.k2, hbp.k3, hbp.k4, hbp.k5, hbp.k6, hbp.l1, hbp.l2, hbp.l3, hbp.l4, hbp.l5, hbp.l6, hX.k29, hbpk, h30k, hpk]) <;> (try omega))) only [↓reduceIte, ↓z_ite, ↓zR, ↓zB_R, ↓zB_B, ↓zB_ite, ↓zB_gI, ↓zB_pI, ↓zB_pZ, ↓zB_aK, ↓zB_G, ↓zB_lI, ↓zB_lZ, ↓zB_wI, ↓zB_wZ, ↓zB_lIl, ↓zB_wIl, zB_pI, zB_pZ, zB_lI, zB_lZ, zB_wI, zB_wZ, z_addl, z_ladd, z_mull, z_lmul, nI_add, z_subl, Nat.not_lt_zero, z_10, z_01, z_bitc, z_b0, z_b1, ↓zB_Gb, ↓zB_G0, ↓zB_G1, z_eql, z_leq, z_ltl, z_llt, z_eq, z_lt, z_m1lt, hbp.k, hbp.k1, hbp.k2, hbp.k3, hbp.k4, hbp.k5, hbp.k6, hbp.l1, hbp.l2, hbp.l3, hbp.l4, hbp.l5, hbp.l6, hX.k29, hbpk, h30k, hpk, ↓hbp.g0, ↓hbp.g1, ↓hbp.g2, ↓hbp.g3, ↓hbp.g4, ↓hbp.g5, ↓hX.g29_0, ↓hX.g29_1, c71, hj2, ev, ↓zB_c e15a, zB_c e15a, ↓zB_c e15b, zB_c e15b, ↓zB_c e13, zB_c e13, Bool.true_eq_false, ↓zB_c e101, zB_c e101, ↓zB_c e3, zB_c e3]
              | true =>
                rw [b4] at e101
                have hkv : z_k (z_bd P q) j = 1 ∨ z_k (z_bd P q) j = 6 := by
                  unfold z_isF z_isV at b3
                  simp only [Bool.and_eq_true, Bool.or_eq_true, beq_iff_eq] at b3
                  exact b3.1
                obtain ⟨m2, e5, c1, c2⟩ := f5_sp h30 g1 (by omega) hbp hb1 hj2 hkv (z_v (z_bd P q) j)
                refine ⟨m2, ?_, fin m2 _ (by unfold z_ing; rw [if_neg (by rw [b1]; exact Bool.false_ne_true), if_neg (by rw [b2]; exact Bool.false_ne_true), b3, b4]; rfl) c1, c2⟩
                simp (disch := ((try simp only [true_or, or_true, hbp.k, hbp.k1, hbp.k2, hbp.k3, hbp.k4, hbp.k5, hbp.k6, hbp.l1, hbp.l2, hbp.l3, hbp.l4, hbp.l5, hbp.l6, hX.k29, hbpk, h30k, hpk]) <;> (try omega))) only [↓reduceIte, ↓z_ite, ↓zR, ↓zB_R, ↓zB_B, ↓zB_ite, ↓zB_gI, ↓zB_pI, ↓zB_pZ, ↓zB_aK, ↓zB_G, ↓zB_lI, ↓zB_lZ, ↓zB_wI, ↓zB_wZ, ↓zB_lIl, ↓zB_wIl, zB_pI, zB_pZ, zB_lI, zB_lZ, zB_wI, zB_wZ, z_addl, z_ladd, z_mull, z_lmul, nI_add, z_subl, Nat.not_lt_zero, z_10, z_01, z_bitc, z_b0, z_b1, ↓zB_Gb, ↓zB_G0, ↓zB_G1, z_eql, z_leq, z_ltl, z_llt, z_eq, z_lt, z_m1lt, hbp.k, hbp.k1, hbp.k2, hbp.k3, hbp.k4, hbp.k5, hbp.k6, hbp.l1, hbp.l2, hbp.l3, hbp.l4, hbp.l5, hbp.l6, hX.k29, hbpk, h30k, hpk, ↓hbp.g0, ↓hbp.g1, ↓hbp.g2, ↓hbp.g3, ↓hbp.g4, ↓hbp.g5, ↓hX.g29_0, ↓hX.g29_1, c71, hj2, ev, ↓zB_c e15a, zB_c e15a, ↓zB_c e15b, zB_c e15b, ↓zB_c e13, zB_c e13, Bool.true_eq_false, ↓zB_c e101, zB_c e101, ↓zB_c e5, zB_c e5]
      obtain ⟨m2, ew, c1, c2⟩ := wr
      exact Or.inl ⟨_, m2, (z_bd P q).length - (j + 1), ew, by omega, j + 1, rfl, hj2, rfl, c1, g2.trans c2⟩
/-- Inliner.addLet -/
theorem f37_sp (hX : z_XS S) (hp : z_PS S p) (lo : 242 ≤ p) (h : z_cp m p P) (ht : z_LT m p P) (hw : z_wf P) {k i j : Nat} (hk : k < z_nm P) (hlk : z_liv P k = true) (hi : i < (z_bd P k).length) (hj : j < z_p (z_bd P k) i) (n : Int32) {L : List z_N} (hsh : z_cb m 30 256 L) (hL : L.length + 61 ≤ 256) : ∃ m', f37 29 (z_bi p k) (nI (z_pt (z_bd P k) i j)) n (z_hp S m) = some ((), z_hp S m') ∧ z_cb m' 30 256 (L ++ z_inL P k i j n) ∧ z_bF 30 m m' := by
  have h24 := hw.2.2.1
  have hbp := hp.B (k := k) (by omega)
  have hbpk := hbp.k
  have h30 := hX.2.2.2.1.2.1
  have h30k := h30.k
  have hB := hw.2.2.2.2.1 k hk
  have hlen : (z_bd P k).length ≤ 60 := (h.2.2.2 k hk hlk).2.2.1
  have hpt := z_pt_lt hB.1 hi hj
  have hgt := z_en_gt hpt
  have hle := z_en_le hB.1 hpt
  obtain ⟨m1, e2, cb1, F1⟩ := f2_sp h30 hsh (by omega) (k := 5) (v := n) (a := 0)
  have e2 : f2 30 5 n 2 (z_hp S m) = some ((), z_hp S m1) := e2
  have hcp1 : z_cp m1 p P := F1.cp (by omega) h24 h
  have hT1 : z_LT m1 p P := z_LT_fr hw (fun a x1 x2 => F1.at (by omega)) ht
  have hend := (hT1 k hk hlk).1 _ hpt
  obtain ⟨m2, e6, cb2, F2⟩ := f6_sp h30 cb1 (show z_bb 30 (z_bi p k) by unfold z_bb z_bi; omega) hbp (hcp1.2.2.2 k hk hlk) (Nat.le_of_lt hgt) hle (by rw [List.length_append]; show L.length + 1 + _ ≤ 256; omega)
  refine ⟨m2, ?_, ?_, F1.trans F2⟩
  · unfold f37
    simp (disch := ((try simp only [true_or, or_true, hbp.k, hbp.k1, hbp.k2, hbp.k3, hbp.k4, hbp.k5, hbp.k6, hbp.l1, hbp.l2, hbp.l3, hbp.l4, hbp.l5, hbp.l6, hX.k29, hbpk, h30k]) <;> (try omega))) only [↓reduceIte, ↓z_ite, ↓zR, ↓zB_R, ↓zB_B, ↓zB_ite, ↓zB_gI, ↓zB_pI, ↓zB_pZ, ↓zB_aK, ↓zB_G, ↓zB_lI, ↓zB_lZ, ↓zB_wI, ↓zB_wZ, ↓zB_lIl, ↓zB_wIl, zB_pI, zB_pZ, zB_lI, zB_lZ, zB_wI, zB_wZ, z_addl, z_ladd, z_mull, z_lmul, nI_add, z_subl, Nat.not_lt_zero, z_10, z_01, z_bitc, z_b0, z_b1, ↓zB_Gb, ↓zB_G0, ↓zB_G1, z_eql, z_leq, z_ltl, z_llt, z_eq, z_lt, z_m1lt, hbp.k, hbp.k1, hbp.k2, hbp.k3, hbp.k4, hbp.k5, hbp.k6, hbp.l1, hbp.l2, hbp.l3, hbp.l4, hbp.l5, hbp.l6, hX.k29, hbpk, h30k, ↓hbp.g0, ↓hbp.g1, ↓hbp.g2, ↓hbp.g3, ↓hbp.g4, ↓hbp.g5, ↓hX.g29_0, ↓hX.g29_1, ↓zB_c e2, zB_c e2, hpt, hend, ↓zB_c e6, zB_c e6]
  · rw [List.append_assoc] at cb2
    exact cb2
end
