-- deps: 91.00.run 91.01.run2 91.02.run3 91.03.run4 91.04.run5 91.05.run6 91.06.crun 91.07.crun2 91.08.crun3
/-! a run: the class's machine, choosing, calling, applying -/
section
variable {P : z_Pg} {h : y_Qh} {k0 : Nat} {n : Nat} {out : y_V} {a : y_Ac} {s : List y_Ac} {S : z_S} {m : z_m} {p : Nat}
theorem y_CH_mem : ∀ {s : List y_Ac}, y_CH P h k0 s → ∀ b ∈ s, y_AW P h b
  | [], _, b, hb => by cases hb
  | c :: s, hC, b, hb => by
    rcases List.mem_cons.mp hb with rfl | hb
    · exact hC.1
    · exact y_CH_mem hC.2.2 b hb
theorem y_acts_ok (hP : y_PG P) (hC : y_CH P h k0 (a :: s)) (hI : y_HI P h a.1) : ∀ b ∈ a :: s, b.1 ≤ a.1 ∧ b.2.1 < (y_l P h b).length ∧ b.2.2.1 ≤ 4 := fun b hb => by
  have hf := y_CH_f hC b hb
  have hw := y_CH_mem hC b hb
  have hm := hI.1 b.1 hf
  exact ⟨hf, hw.1, Nat.le_trans hw.2.2.1 (y_sb_4 (z_p_3le (hP.1.1.2.2.2.2.1 _ hm.1) hw.1))⟩
theorem y_cX.R {X : y_Qs} : y_cX m X → y_cX m X := id
/-- raising -/
theorem f58_top (hP : y_PG P) (hQ : y_QI P k0 (a :: s) h n out) (hG : y_cG S m p P) (hC : y_cP m (y_up1 a :: s) h n a.1) (hst : a.2.2.1 ≤ 3) (hk : ¬ y_k P h a = 13) {e w : Int32} (he : ¬ e = -1) : ∃ m', f58 10 e w (z_hp S m) = some ((), z_hp S m') ∧ y_cX m' (y_ra P s h n out e w) ∧ y_cR m m' := by
  obtain ⟨hn, hx, hCH, hI, h20⟩ := hQ
  obtain ⟨⟨c11, c15, c16, c17⟩, hS, hO, c12, c13, hF⟩ := hC
  have hs := y_acts_ok hP hCH hI
  have hht : y_ht (y_up1 a :: s) = y_ht (a :: s) := rfl
  have hlen : (a :: s).length ≤ 500 := by omega
  obtain ⟨m', e1, x1, r1⟩ := f58_c (out := out) hP he (y_up1 a :: s) m hG c11 c15 c16 c17 hS hO hF hI (fun b hb => by
    rcases List.mem_cons.mp hb with rfl | hb
    · exact ⟨Nat.le_refl _, hCH.1.1, by show a.2.2.1 + 1 ≤ 4; omega⟩
    · exact hs b (List.mem_cons_of_mem _ hb)) hlen hn.1 (by omega) h20 1000000 (by show (a :: s).length < 1000000; omega)
  refine ⟨m', e1, ?_, r1⟩
  have : y_ra P (y_up1 a :: s) h n out e w = y_ra P s h n out e w := by
    unfold y_ra
    have : y_unw P h (y_up1 a :: s) = y_unw P h s := by
      show (if y_k P h (y_up1 a) = 13 ∧ _ then _ else _) = _
      rw [if_neg (fun q => hk q.1)]
    rw [this]
  rw [this] at x1
  exact x1
/-- finishing -/
theorem f49_top (hX : z_XS S) (hQ : y_QI P k0 (a :: s) h n out) (hC : y_cP m (y_up1 a :: s) h n a.1) {m1 : z_m} (hF : ∀ b, b ≠ 18 → b ≠ 20 → b ≠ 19 → b ≠ 10 → m1 b = m b) (h10 : ∀ j, j ≠ 14 → m1 10 j = m 10 j) {h' : y_Qh} (hO : y_cO m1 h') (hF' : y_cF m1 h' a.1) {v : y_V} {x : Int32} (hx : x = y_ec v) : ∃ m', f49 10 x (z_hp S m1) = some ((), z_hp S m') ∧ y_cX m' (y_fin s h' n out v) ∧ y_cR m m' := by
  obtain ⟨hn, _, hCH, _, _⟩ := hQ
  obtain ⟨⟨c11, c15, c16, c17⟩, hS, _, _, _, _⟩ := hC
  have n2 : y_ht s + a.2.2.2.length + (s.length + 1) ≤ n := hn.2.1
  obtain ⟨m', e, x1, r1⟩ := f49_c (S := S) (m := m1) (s := s) (n := n) (out := out) (h' := h') (v := v) (x := x) hX (by rw [h10 11 (by decide)]; exact c11) (by rw [h10 15 (by decide)]; exact c15) (by rw [h10 16 (by decide)]; exact c16) (by rw [h10 17 (by decide)]; exact c17) (by rw [hF 14 (by decide) (by decide) (by decide) (by decide)]; exact hS.1.2.2.2.1) (y_cS_fr (fun b x y j _ => by rw [hF b (by omega) (by omega) (by omega) (by omega)]) (fun j _ => by rw [hF 15 (by decide) (by decide) (by decide) (by decide)]) hS.2) hO (fun b s' hs f hf => hF' f (by
    have := y_CH_f hCH b (by rw [hs]; exact List.mem_cons_of_mem _ List.mem_cons_self)
    omega)) hx (by omega) (by omega)
  exact ⟨m', e, x1, fun b hb => (r1 b hb).trans (hF b (by omega) (by omega) (by omega) (by omega))⟩
/-- Machine.choose -/
theorem f54_c (hP : y_PG P) (hQ : y_QI P k0 (a :: s) h n out) (hG : y_cG S m p P) (hC : y_cP m (y_up1 a :: s) h n a.1) (kc : y_k P h a = 5 ∨ y_k P h a = 9 ∨ y_k P h a = 10 ∨ y_k P h a = 13) : ∃ m', f54 10 (z_bi p (y_qm h a.1)) (nI a.2.1) (nI a.2.2.1) (z_hp S m) = some ((), z_hp S m') ∧ y_cX m' (if a.2.2.1 = 0 then y_st (y_up1 a :: s) h n out a.1 (y_pt P h a 0) else if 1 < a.2.2.1 ∨ y_k P h a = 13 then y_fin s h n out (y_lv a.2.2.2) else y_st (y_up1 a :: s) (if y_k P h a = 5 then y_wl h a.1 (a.2.1 + 2) (y_lv a.2.2.2) else h) n out a.1 (y_pt P h a (if y_k P h a = 10 ∧ (y_lv a.2.2.2).2 = 0 then 2 else 1))) ∧ y_cR m m' := by
  have hQ0 := hQ
  have hC0 := hC
  obtain ⟨hX, hp, lo, hpr, hcp, hT⟩ := hG
  obtain ⟨hn, hx, hCH, hI, h20⟩ := hQ
  obtain ⟨⟨c11, c15, c16, c17⟩, hS, hO, c12, c13, hF⟩ := hC
  have hw := hP.1.1
  have h24 := hw.2.2.1
  have hm := hI.1 a.1 (Nat.le_refl _)
  have hB := hw.2.2.2.2.1 _ hm.1
  have hb := hp.B (k := y_qm h a.1) (by omega)
  have hbk := hb.k
  have h10k : z_kd S 10 = 5 := hX.k10
  have hcb := hcp.2.2.2 _ hm.1 hm.2.1
  have hl60 := hcb.2.2.1
  have hi : a.2.1 < (z_bd P (y_qm h a.1)).length := hCH.1.1
  have h61 : a.2.1 < 61 := by omega
  obtain ⟨ek, _, _⟩ := hcb.2.2.2.2 _ hi
  have e9 : ∀ j, j ≤ 300 → f9 (z_bi p (y_qm h a.1)) (nI a.2.1) (nI j) (z_hp S m) = some (nI (y_pt P h a j), z_hp S m) := fun j hj => f9_sp hb hcb hB.1 hi (fun j _ hj => (hT _ hm.1 hm.2.1).1 j hj) j hj
  have n2 : y_ht s + a.2.2.2.length + (s.length + 1) ≤ n := hn.2.1
  have hlen : (y_up1 a :: s).length ≤ 500 := by show s.length + 1 ≤ 500; omega
  have kk : y_k P h a = z_k (z_bd P (y_qm h a.1)) a.2.1 := rfl
  have hst4 := (y_acts_ok hP hCH hI a List.mem_cons_self).2.2
  by_cases s0 : a.2.2.1 = 0
  · rw [if_pos s0, s0]
    have e90 := e9 0 (by decide)
    have e90 : f9 (z_bi p (y_qm h a.1)) (nI a.2.1) 0 (z_hp S m) = some (nI (y_pt P h a 0), z_hp S m) := e90
    obtain ⟨m', e48, x1, r1⟩ := f48_c (out := out) hX hC0 hlen hn.1 (y_pt P h a 0)
    refine ⟨m', ?_, x1, r1⟩
    unfold f54
    have g0 : nI 0 = 0 := rfl
    simp (disch := ((try simp only [true_or, or_true, hX.k10, hX.k11, hX.k12, hX.k13, hX.k14, hX.k15, hX.k16, hX.k17, hX.k18, hX.k19, hX.k20, hX.l11, hX.l12, hX.l13, hX.l14, hX.l15, hX.l16, hX.l17, hX.l18, hX.l19, hX.l20, hb.k, hb.k1, hb.k2, hb.k3, hb.k4, hb.k5, hb.k6, hb.l1, hb.l2, hb.l3, hb.l4, hb.l5, hb.l6, hbk, h10k]) <;> (try omega))) only [↓reduceIte, ↓z_ite, ↓zR, ↓zB_R, ↓zB_B, ↓zB_ite, ↓zB_gI, ↓zB_pI, ↓zB_pZ, ↓zB_aK, ↓zB_G, ↓zB_lI, ↓zB_lZ, ↓zB_wI, ↓zB_wZ, ↓zB_lIl, ↓zB_wIl, zB_pI, zB_pZ, zB_lI, zB_lZ, zB_wI, zB_wZ, z_addl, z_ladd, z_mull, z_lmul, nI_add, z_subl, Nat.not_lt_zero, z_10, z_01, z_bitc, z_b0, z_b1, ↓zB_Gb, ↓zB_G0, ↓zB_G1, z_eql, z_leq, z_ltl, z_llt, z_eq, z_lt, z_m1lt, hX.k10, hX.k11, hX.k12, hX.k13, hX.k14, hX.k15, hX.k16, hX.k17, hX.k18, hX.k19, hX.k20, hX.l11, hX.l12, hX.l13, hX.l14, hX.l15, hX.l16, hX.l17, hX.l18, hX.l19, hX.l20, hb.k, hb.k1, hb.k2, hb.k3, hb.k4, hb.k5, hb.k6, hb.l1, hb.l2, hb.l3, hb.l4, hb.l5, hb.l6, hbk, h10k, ↓hX.g10_0, ↓hX.g10_1, ↓hX.g10_2, ↓hX.g10_3, ↓hX.g10_4, ↓hX.g10_5, ↓hX.g10_6, ↓hX.g10_7, ↓hX.g10_8, ↓hX.g10_9, ↓hb.g0, ↓hb.g1, ↓hb.g2, ↓hb.g3, ↓hb.g4, ↓hb.g5, g0, ↓zB_c e90, zB_c e90, ↓zB_c e48, zB_c e48]
  · rw [if_neg s0]
    have g0 : ¬ nI a.2.2.1 = 0 := fun q => s0 ((nI_eq (b := 0) (by omega) (by decide)).mp q)
    have hlv : 0 < a.2.2.2.length := by
      rw [hx]; unfold y_xc
      split <;> omega
    have elv : m 15 (y_ht s + (a.2.2.2.length - 1)) = y_ec (y_lv a.2.2.2) := hS.1.2.2.2.2 (a.2.2.2.length - 1) (by show a.2.2.2.length - 1 < a.2.2.2.length; omega)
    have c12' : m 10 12 = nI (y_ht s + a.2.2.2.length) := c12
    have e12 : nI (y_ht s + a.2.2.2.length) - 1 = nI (y_ht s + (a.2.2.2.length - 1)) := by
      rw [show y_ht s + (a.2.2.2.length - 1) = y_ht s + a.2.2.2.length - 1 by omega]
      exact z_subl (k := 1) (by omega)
    have h15 : y_ht s + (a.2.2.2.length - 1) < 501 := by omega
    by_cases s1 : 1 < a.2.2.1 ∨ y_k P h a = 13
    · rw [if_pos s1]
      obtain ⟨m', e49, x1, r1⟩ := f49_top (S := S) hX hQ0 hC0 (m1 := m) (fun _ _ _ _ _ => rfl) (fun _ _ => rfl) hO hF (v := y_lv a.2.2.2) rfl
      refine ⟨m', ?_, x1, r1⟩
      by_cases g1 : 1 < a.2.2.1
      · unfold f54 f54_48
        have g1' : (1 : Int32) < nI a.2.2.1 := (nI_ltI (a := 1) (by decide) (by omega)).mpr g1
        simp (disch := ((try simp only [true_or, or_true, hX.k10, hX.k11, hX.k12, hX.k13, hX.k14, hX.k15, hX.k16, hX.k17, hX.k18, hX.k19, hX.k20, hX.l11, hX.l12, hX.l13, hX.l14, hX.l15, hX.l16, hX.l17, hX.l18, hX.l19, hX.l20, hb.k, hb.k1, hb.k2, hb.k3, hb.k4, hb.k5, hb.k6, hb.l1, hb.l2, hb.l3, hb.l4, hb.l5, hb.l6, hbk, h10k]) <;> (try omega))) only [↓reduceIte, ↓z_ite, ↓zR, ↓zB_R, ↓zB_B, ↓zB_ite, ↓zB_gI, ↓zB_pI, ↓zB_pZ, ↓zB_aK, ↓zB_G, ↓zB_lI, ↓zB_lZ, ↓zB_wI, ↓zB_wZ, ↓zB_lIl, ↓zB_wIl, zB_pI, zB_pZ, zB_lI, zB_lZ, zB_wI, zB_wZ, z_addl, z_ladd, z_mull, z_lmul, nI_add, z_subl, Nat.not_lt_zero, z_10, z_01, z_bitc, z_b0, z_b1, ↓zB_Gb, ↓zB_G0, ↓zB_G1, z_eql, z_leq, z_ltl, z_llt, z_eq, z_lt, z_m1lt, hX.k10, hX.k11, hX.k12, hX.k13, hX.k14, hX.k15, hX.k16, hX.k17, hX.k18, hX.k19, hX.k20, hX.l11, hX.l12, hX.l13, hX.l14, hX.l15, hX.l16, hX.l17, hX.l18, hX.l19, hX.l20, hb.k, hb.k1, hb.k2, hb.k3, hb.k4, hb.k5, hb.k6, hb.l1, hb.l2, hb.l3, hb.l4, hb.l5, hb.l6, hbk, h10k, ↓hX.g10_0, ↓hX.g10_1, ↓hX.g10_2, ↓hX.g10_3, ↓hX.g10_4, ↓hX.g10_5, ↓hX.g10_6, ↓hX.g10_7, ↓hX.g10_8, ↓hX.g10_9, ↓hb.g0, ↓hb.g1, ↓hb.g2, ↓hb.g3, ↓hb.g4, ↓hb.g5, g0, c12', e12, h15, elv, h61, g1', ↓zB_c e49, zB_c e49]
      · have k13 : z_k (z_bd P (y_qm h a.1)) a.2.1 = 13 := s1.resolve_left g1
        rw [k13] at ek
        have g1' : ¬ (1 : Int32) < nI a.2.2.1 := fun q => g1 ((nI_ltI (a := 1) (by decide) (by omega)).mp q)
        unfold f54 f54_48
        simp (disch := ((try simp only [true_or, or_true, hX.k10, hX.k11, hX.k12, hX.k13, hX.k14, hX.k15, hX.k16, hX.k17, hX.k18, hX.k19, hX.k20, hX.l11, hX.l12, hX.l13, hX.l14, hX.l15, hX.l16, hX.l17, hX.l18, hX.l19, hX.l20, hb.k, hb.k1, hb.k2, hb.k3, hb.k4, hb.k5, hb.k6, hb.l1, hb.l2, hb.l3, hb.l4, hb.l5, hb.l6, hbk, h10k]) <;> (try omega))) only [↓reduceIte, ↓z_ite, ↓zR, ↓zB_R, ↓zB_B, ↓zB_ite, ↓zB_gI, ↓zB_pI, ↓zB_pZ, ↓zB_aK, ↓zB_G, ↓zB_lI, ↓zB_lZ, ↓zB_wI, ↓zB_wZ, ↓zB_lIl, ↓zB_wIl, zB_pI, zB_pZ, zB_lI, zB_lZ, zB_wI, zB_wZ, z_addl, z_ladd, z_mull, z_lmul, nI_add, z_subl, Nat.not_lt_zero, z_10, z_01, z_bitc, z_b0, z_b1, ↓zB_Gb, ↓zB_G0, ↓zB_G1, z_eql, z_leq, z_ltl, z_llt, z_eq, z_lt, z_m1lt, hX.k10, hX.k11, hX.k12, hX.k13, hX.k14, hX.k15, hX.k16, hX.k17, hX.k18, hX.k19, hX.k20, hX.l11, hX.l12, hX.l13, hX.l14, hX.l15, hX.l16, hX.l17, hX.l18, hX.l19, hX.l20, hb.k, hb.k1, hb.k2, hb.k3, hb.k4, hb.k5, hb.k6, hb.l1, hb.l2, hb.l3, hb.l4, hb.l5, hb.l6, hbk, h10k, ↓hX.g10_0, ↓hX.g10_1, ↓hX.g10_2, ↓hX.g10_3, ↓hX.g10_4, ↓hX.g10_5, ↓hX.g10_6, ↓hX.g10_7, ↓hX.g10_8, ↓hX.g10_9, ↓hb.g0, ↓hb.g1, ↓hb.g2, ↓hb.g3, ↓hb.g4, ↓hb.g5, g0, c12', e12, h15, elv, h61, ek, g1', ↓zB_c e49, zB_c e49]
    · rw [if_neg s1]
      have g1' : ¬ (1 : Int32) < nI a.2.2.1 := fun q => s1 (Or.inl ((nI_ltI (a := 1) (by decide) (by omega)).mp q))
      have k13 : ¬ z_k (z_bd P (y_qm h a.1)) a.2.1 = 13 := fun q => s1 (Or.inr q)
      have e91 : f9 (z_bi p (y_qm h a.1)) (nI a.2.1) 1 (z_hp S m) = some (nI (y_pt P h a 1), z_hp S m) := e9 1 (by decide)
      have e92 : f9 (z_bi p (y_qm h a.1)) (nI a.2.1) 2 (z_hp S m) = some (nI (y_pt P h a 2), z_hp S m) := e9 2 (by decide)
      by_cases k5 : y_k P h a = 5
      · have k5' : z_k (z_bd P (y_qm h a.1)) a.2.1 = 5 := k5
        rw [if_pos k5, if_neg (fun q => absurd (k5.symm.trans q.1) (by decide))]
        rw [k5'] at ek
        have e53 : f53 10 (nI a.2.1) (z_hp S m) = some (nI (a.1 * 62 + (a.2.1 + 2)), z_hp S m) := f53_c (S := S) hX c13 (l := 61) (Or.inr (Or.inr ⟨a.2.1, rfl, rfl, h61⟩))
        have hix : a.1 * 62 + (a.2.1 + 2) < 1240 := by omega
        generalize hm1 : z_up m 18 (a.1 * 62 + (a.2.1 + 2)) (y_ec (y_lv a.2.2.2)) = m1
        have fr1 : ∀ b, b ≠ 18 → m1 b = m b := fun b x => by rw [← hm1, z_up_row x]
        have hcp1 : z_cp m1 p P := z_cp_fr3 hw (fun a x1 x2 => fr1 a (by omega)) hcp
        have hT1 : z_LT m1 p P := z_LT_fr hw (fun a x1 x2 => fr1 a (by omega)) hT
        have e91' : f9 (z_bi p (y_qm h a.1)) (nI a.2.1) 1 (z_hp S m1) = some (nI (y_pt P h a 1), z_hp S m1) := f9_sp hb (hcp1.2.2.2 _ hm.1 hm.2.1) hB.1 hi (fun j _ hj => (hT1 _ hm.1 hm.2.1).1 j hj) 1 (by decide)
        have hC1 : y_cP m1 (y_up1 a :: s) (y_wl h a.1 (a.2.1 + 2) (y_lv a.2.2.2)) n a.1 := by
          refine ⟨⟨by rw [fr1 10 (by decide)]; exact c11, by rw [fr1 10 (by decide)]; exact c15, by rw [fr1 10 (by decide)]; exact c16, by rw [fr1 10 (by decide)]; exact c17⟩, y_cS_fr (fun b x y j _ => by rw [fr1 b (by omega)]) (fun j _ => by rw [fr1 15 (by decide)]) hS, y_cO_fr (by rw [fr1 10 (by decide)]) (fr1 19 (by decide)) (fr1 20 (by decide)) hO, by rw [fr1 10 (by decide)]; exact c12, by rw [fr1 10 (by decide)]; exact c13, fun f hf => ?_⟩
          obtain ⟨w1, w2, w3⟩ := hF f hf
          refine ⟨by rw [fr1 16 (by decide)]; exact w1, by rw [fr1 17 (by decide)]; exact w2, fun s' v' hs' hv' => ?_⟩
          have hv' : (if f = a.1 ∧ s' = a.2.1 + 2 then some (y_lv a.2.2.2) else y_ql h f s') = some v' := hv'
          by_cases g : f = a.1 ∧ s' = a.2.1 + 2
          · rw [if_pos g] at hv'
            obtain rfl := Option.some.inj hv'
            rw [g.1, g.2, ← hm1, z_up_s]
          · rw [if_neg g] at hv'
            rw [← hm1, z_up_b (by omega)]
            exact w3 s' v' hs' hv'
        obtain ⟨m', e48, x1, r1⟩ := f48_c (out := out) hX hC1 hlen hn.1 (y_pt P h a 1)
        refine ⟨m', ?_, x1, fun b hb => (r1 b hb).trans (fr1 b (by omega))⟩
        unfold f54 f54_73 f54_89 f54_90 f54_105
        simp (disch := ((try simp only [true_or, or_true, hX.k10, hX.k11, hX.k12, hX.k13, hX.k14, hX.k15, hX.k16, hX.k17, hX.k18, hX.k19, hX.k20, hX.l11, hX.l12, hX.l13, hX.l14, hX.l15, hX.l16, hX.l17, hX.l18, hX.l19, hX.l20, hb.k, hb.k1, hb.k2, hb.k3, hb.k4, hb.k5, hb.k6, hb.l1, hb.l2, hb.l3, hb.l4, hb.l5, hb.l6, hbk, h10k]) <;> (try omega))) only [↓reduceIte, ↓z_ite, ↓zR, ↓zB_R, ↓zB_B, ↓zB_ite, ↓zB_gI, ↓zB_pI, ↓zB_pZ, ↓zB_aK, ↓zB_G, ↓zB_lI, ↓zB_lZ, ↓zB_wI, ↓zB_wZ, ↓zB_lIl, ↓zB_wIl, zB_pI, zB_pZ, zB_lI, zB_lZ, zB_wI, zB_wZ, z_addl, z_ladd, z_mull, z_lmul, nI_add, z_subl, Nat.not_lt_zero, z_10, z_01, z_bitc, z_b0, z_b1, ↓zB_Gb, ↓zB_G0, ↓zB_G1, z_eql, z_leq, z_ltl, z_llt, z_eq, z_lt, z_m1lt, hX.k10, hX.k11, hX.k12, hX.k13, hX.k14, hX.k15, hX.k16, hX.k17, hX.k18, hX.k19, hX.k20, hX.l11, hX.l12, hX.l13, hX.l14, hX.l15, hX.l16, hX.l17, hX.l18, hX.l19, hX.l20, hb.k, hb.k1, hb.k2, hb.k3, hb.k4, hb.k5, hb.k6, hb.l1, hb.l2, hb.l3, hb.l4, hb.l5, hb.l6, hbk, h10k, ↓hX.g10_0, ↓hX.g10_1, ↓hX.g10_2, ↓hX.g10_3, ↓hX.g10_4, ↓hX.g10_5, ↓hX.g10_6, ↓hX.g10_7, ↓hX.g10_8, ↓hX.g10_9, ↓hb.g0, ↓hb.g1, ↓hb.g2, ↓hb.g3, ↓hb.g4, ↓hb.g5, g0, c12', e12, h15, elv, h61, ek, g1', show ¬ (5 : Int32) = 13 by decide, show ¬ (5 : Int32) = 10 by decide, ↓zB_c e53, zB_c e53, hix, hm1, ↓zB_c e91', zB_c e91', ↓zB_c e48, zB_c e48]
      · rw [if_neg k5]
        have k5' : ¬ z_k (z_bd P (y_qm h a.1)) a.2.1 = 5 := k5
        by_cases k10 : y_k P h a = 10
        · have k10' : z_k (z_bd P (y_qm h a.1)) a.2.1 = 10 := k10
          rw [k10'] at ek
          have hl1 : a.2.2.2.length = 0 + 1 := by
            have : a.2.2.1 = 1 := by
              have : ¬ 1 < a.2.2.1 := fun q => s1 (Or.inl q)
              omega
            rw [hx]; unfold y_xc; rw [if_neg (fun y => s1 (Or.inr y.1)), this]
          have v0 := hCH.1.2.2.2 0 (by omega)
          have rq0 : y_rq P h a 0 = z_Ty P (y_qm h a.1) (y_pt P h a 0) := by
            unfold y_rq
            rw [if_neg]
            rintro (⟨_, g⟩ | g | ⟨g, _⟩)
            · exact absurd g (by decide)
            · exact s1 (Or.inr g)
            · rw [k10] at g; exact absurd g (by decide)
          have eN := (z_Ty_ok (hP.rt _ hm.1 hm.2.1) hi).2
          rw [(z_Ty_ok (hP.rt _ hm.1 hm.2.1) hi).1, z_st_10 k10'] at eN
          have hnum : z_num (z_Ty P (y_qm h a.1) (y_pt P h a 0)) = true := by
            by_cases q : z_num (z_Ty P (y_qm h a.1) (z_pt (z_bd P (y_qm h a.1)) a.2.1 0)) = true
            · exact q
            · rw [if_neg q] at eN; exact absurd rfl eN
          rw [rq0] at v0
          have hv1 : (y_g a.2.2.2 0).1 = 0 := by
            rcases v0 with ⟨_, g⟩ | ⟨c, g1, g2, _⟩
            · exact g
            · rw [g2] at hnum
              have h6 := hw.1.1
              unfold z_num at hnum
              rw [show (nI c == (-1 : Int32)) = false by simpa using z_nI_m1 (d := c) (by omega), show (nI c == (-2 : Int32)) = false by simpa using z_eqm (k := 2) (a := c) (by omega) (by decide) (by decide)] at hnum
              cases hnum
          rw [y_lv_e hl1] at elv ⊢
          have eec : y_ec (y_g a.2.2.2 0) = (y_g a.2.2.2 0).2 := by unfold y_ec; rw [hv1, if_neg (by decide)]
          rw [eec] at elv
          by_cases gz : (y_g a.2.2.2 0).2 = 0
          · rw [if_pos ⟨k10, gz⟩]
            rw [gz] at elv
            obtain ⟨m', e48, x1, r1⟩ := f48_c (out := out) hX hC0 hlen hn.1 (y_pt P h a 2)
            refine ⟨m', ?_, x1, r1⟩
            unfold f54 f54_73 f54_90 f54_105
            simp (disch := ((try simp only [true_or, or_true, hX.k10, hX.k11, hX.k12, hX.k13, hX.k14, hX.k15, hX.k16, hX.k17, hX.k18, hX.k19, hX.k20, hX.l11, hX.l12, hX.l13, hX.l14, hX.l15, hX.l16, hX.l17, hX.l18, hX.l19, hX.l20, hb.k, hb.k1, hb.k2, hb.k3, hb.k4, hb.k5, hb.k6, hb.l1, hb.l2, hb.l3, hb.l4, hb.l5, hb.l6, hbk, h10k]) <;> (try omega))) only [↓reduceIte, ↓z_ite, ↓zR, ↓zB_R, ↓zB_B, ↓zB_ite, ↓zB_gI, ↓zB_pI, ↓zB_pZ, ↓zB_aK, ↓zB_G, ↓zB_lI, ↓zB_lZ, ↓zB_wI, ↓zB_wZ, ↓zB_lIl, ↓zB_wIl, zB_pI, zB_pZ, zB_lI, zB_lZ, zB_wI, zB_wZ, z_addl, z_ladd, z_mull, z_lmul, nI_add, z_subl, Nat.not_lt_zero, z_10, z_01, z_bitc, z_b0, z_b1, ↓zB_Gb, ↓zB_G0, ↓zB_G1, z_eql, z_leq, z_ltl, z_llt, z_eq, z_lt, z_m1lt, hX.k10, hX.k11, hX.k12, hX.k13, hX.k14, hX.k15, hX.k16, hX.k17, hX.k18, hX.k19, hX.k20, hX.l11, hX.l12, hX.l13, hX.l14, hX.l15, hX.l16, hX.l17, hX.l18, hX.l19, hX.l20, hb.k, hb.k1, hb.k2, hb.k3, hb.k4, hb.k5, hb.k6, hb.l1, hb.l2, hb.l3, hb.l4, hb.l5, hb.l6, hbk, h10k, ↓hX.g10_0, ↓hX.g10_1, ↓hX.g10_2, ↓hX.g10_3, ↓hX.g10_4, ↓hX.g10_5, ↓hX.g10_6, ↓hX.g10_7, ↓hX.g10_8, ↓hX.g10_9, ↓hb.g0, ↓hb.g1, ↓hb.g2, ↓hb.g3, ↓hb.g4, ↓hb.g5, g0, c12', e12, h15, elv, h61, ek, g1', show ¬ (10 : Int32) = 13 by decide, show ¬ (10 : Int32) = 5 by decide, ↓zB_c e92, zB_c e92, ↓zB_c e48, zB_c e48]
          · rw [if_neg (fun q => gz q.2)]
            obtain ⟨m', e48, x1, r1⟩ := f48_c (out := out) hX hC0 hlen hn.1 (y_pt P h a 1)
            refine ⟨m', ?_, x1, r1⟩
            unfold f54 f54_73 f54_89 f54_90 f54_105
            simp (disch := ((try simp only [true_or, or_true, hX.k10, hX.k11, hX.k12, hX.k13, hX.k14, hX.k15, hX.k16, hX.k17, hX.k18, hX.k19, hX.k20, hX.l11, hX.l12, hX.l13, hX.l14, hX.l15, hX.l16, hX.l17, hX.l18, hX.l19, hX.l20, hb.k, hb.k1, hb.k2, hb.k3, hb.k4, hb.k5, hb.k6, hb.l1, hb.l2, hb.l3, hb.l4, hb.l5, hb.l6, hbk, h10k]) <;> (try omega))) only [↓reduceIte, ↓z_ite, ↓zR, ↓zB_R, ↓zB_B, ↓zB_ite, ↓zB_gI, ↓zB_pI, ↓zB_pZ, ↓zB_aK, ↓zB_G, ↓zB_lI, ↓zB_lZ, ↓zB_wI, ↓zB_wZ, ↓zB_lIl, ↓zB_wIl, zB_pI, zB_pZ, zB_lI, zB_lZ, zB_wI, zB_wZ, z_addl, z_ladd, z_mull, z_lmul, nI_add, z_subl, Nat.not_lt_zero, z_10, z_01, z_bitc, z_b0, z_b1, ↓zB_Gb, ↓zB_G0, ↓zB_G1, z_eql, z_leq, z_ltl, z_llt, z_eq, z_lt, z_m1lt, hX.k10, hX.k11, hX.k12, hX.k13, hX.k14, hX.k15, hX.k16, hX.k17, hX.k18, hX.k19, hX.k20, hX.l11, hX.l12, hX.l13, hX.l14, hX.l15, hX.l16, hX.l17, hX.l18, hX.l19, hX.l20, hb.k, hb.k1, hb.k2, hb.k3, hb.k4, hb.k5, hb.k6, hb.l1, hb.l2, hb.l3, hb.l4, hb.l5, hb.l6, hbk, h10k, ↓hX.g10_0, ↓hX.g10_1, ↓hX.g10_2, ↓hX.g10_3, ↓hX.g10_4, ↓hX.g10_5, ↓hX.g10_6, ↓hX.g10_7, ↓hX.g10_8, ↓hX.g10_9, ↓hb.g0, ↓hb.g1, ↓hb.g2, ↓hb.g3, ↓hb.g4, ↓hb.g5, g0, c12', e12, h15, elv, h61, ek, g1', show ¬ (10 : Int32) = 13 by decide, show ¬ (10 : Int32) = 5 by decide, gz, ↓zB_c e91, zB_c e91, ↓zB_c e48, zB_c e48]
        · rw [if_neg (fun q => k10 q.1)]
          have k10' : ¬ z_k (z_bd P (y_qm h a.1)) a.2.1 = 10 := k10
          obtain ⟨m', e48, x1, r1⟩ := f48_c (out := out) hX hC0 hlen hn.1 (y_pt P h a 1)
          refine ⟨m', ?_, x1, r1⟩
          unfold f54 f54_73 f54_89 f54_90 f54_105
          simp (disch := ((try simp only [true_or, or_true, hX.k10, hX.k11, hX.k12, hX.k13, hX.k14, hX.k15, hX.k16, hX.k17, hX.k18, hX.k19, hX.k20, hX.l11, hX.l12, hX.l13, hX.l14, hX.l15, hX.l16, hX.l17, hX.l18, hX.l19, hX.l20, hb.k, hb.k1, hb.k2, hb.k3, hb.k4, hb.k5, hb.k6, hb.l1, hb.l2, hb.l3, hb.l4, hb.l5, hb.l6, hbk, h10k]) <;> (try omega))) only [↓reduceIte, ↓z_ite, ↓zR, ↓zB_R, ↓zB_B, ↓zB_ite, ↓zB_gI, ↓zB_pI, ↓zB_pZ, ↓zB_aK, ↓zB_G, ↓zB_lI, ↓zB_lZ, ↓zB_wI, ↓zB_wZ, ↓zB_lIl, ↓zB_wIl, zB_pI, zB_pZ, zB_lI, zB_lZ, zB_wI, zB_wZ, z_addl, z_ladd, z_mull, z_lmul, nI_add, z_subl, Nat.not_lt_zero, z_10, z_01, z_bitc, z_b0, z_b1, ↓zB_Gb, ↓zB_G0, ↓zB_G1, z_eql, z_leq, z_ltl, z_llt, z_eq, z_lt, z_m1lt, hX.k10, hX.k11, hX.k12, hX.k13, hX.k14, hX.k15, hX.k16, hX.k17, hX.k18, hX.k19, hX.k20, hX.l11, hX.l12, hX.l13, hX.l14, hX.l15, hX.l16, hX.l17, hX.l18, hX.l19, hX.l20, hb.k, hb.k1, hb.k2, hb.k3, hb.k4, hb.k5, hb.k6, hb.l1, hb.l2, hb.l3, hb.l4, hb.l5, hb.l6, hbk, h10k, ↓hX.g10_0, ↓hX.g10_1, ↓hX.g10_2, ↓hX.g10_3, ↓hX.g10_4, ↓hX.g10_5, ↓hX.g10_6, ↓hX.g10_7, ↓hX.g10_8, ↓hX.g10_9, ↓hb.g0, ↓hb.g1, ↓hb.g2, ↓hb.g3, ↓hb.g4, ↓hb.g5, g0, c12', e12, h15, elv, h61, ek, g1', k13, k5', k10', ↓zB_c e91, zB_c e91, ↓zB_c e48, zB_c e48]
end
