-- deps: 91.00.run 91.01.run2 91.02.run3 91.03.run4 91.04.run5 91.05.run6 91.06.crun 91.07.crun2 91.08.crun3 91.09.crun4 91.10.crun5
/-! a run: the class's machine, a turn -/
section
variable {P : z_Pg} {h : y_Qh} {k0 : Nat} {n : Nat} {out : y_V} {a : y_Ac} {s : List y_Ac} {S : z_S} {m : z_m} {p : Nat}
/-- Machine.apply -/
theorem f55_c (hP : y_PG P) (hQ : y_QI P k0 (a :: s) h n out) (hG : y_cG S m p P) (hC : y_cP m (y_up1 a :: s) h n a.1) (kk : y_k P h a = 3 ∨ y_k P h a = 4 ∨ y_k P h a = 6 ∨ y_k P h a = 7 ∨ y_k P h a = 11 ∨ y_k P h a = 12) (hsp : ¬ a.2.2.1 < y_p P h a) : ∃ m', f55 10 (z_bi p (y_qm h a.1)) (nI a.2.1) (nI a.2.2.1) (z_hp S m) = some ((), z_hp S m') ∧ y_cX m' (y_ap P a s h n out) ∧ y_cR m m' := by
  have hQ0 := hQ
  have hC0 := hC
  have hG0 := hG
  obtain ⟨hX, hp, lo, hpr, hcp, hT⟩ := hG
  obtain ⟨hn, hx, hCH, hI, h20⟩ := hQ
  obtain ⟨⟨c11, c15, c16, c17⟩, hS, hO, c12, c13, hF⟩ := hC
  have hw := hP.1.1
  have h24 := hw.2.2.1
  have h6 := hw.1.1
  have hm := hI.1 a.1 (Nat.le_refl _)
  have hB := hw.2.2.2.2.1 _ hm.1
  have hr := hP.rt _ hm.1 hm.2.1
  have hb := hp.B (k := y_qm h a.1) (by omega)
  have hbk := hb.k
  have h10k : z_kd S 10 = 5 := hX.k10
  have hcb := hcp.2.2.2 _ hm.1 hm.2.1
  have hl60 := hcb.2.2.1
  have hi : a.2.1 < (z_bd P (y_qm h a.1)).length := hCH.1.1
  have h61 : a.2.1 < 61 := by omega
  obtain ⟨ek, ev, ep⟩ := hcb.2.2.2.2 _ hi
  have n2 : y_ht s + a.2.2.2.length + (s.length + 1) ≤ n := hn.2.1
  have hqn : y_qn h + (s.length + 1) ≤ n + 1 := hn.2.2
  have n13 : ¬ y_k P h a = 13 := by rcases kk with g | g | g | g | g | g <;> rw [g] <;> decide
  have n10 : ¬ y_k P h a = 10 := by rcases kk with g | g | g | g | g | g <;> rw [g] <;> decide
  have hx : a.2.2.2.length = a.2.2.1 := by rw [hx]; unfold y_xc; rw [if_neg (fun y => n13 y.1)]
  have hsb := hCH.1.2.2.1
  have hp3 : y_p P h a ≤ 3 := z_p_3le hB hi
  have spp : ¬ y_k P h a = 7 → a.2.2.1 = y_p P h a := fun g => by
    unfold y_sb at hsb
    rw [if_neg g, if_neg n10] at hsb
    omega
  have c11' : m 10 11 = nI (s.length + 1) := c11
  have e1 : nI (s.length + 1) - 1 = nI s.length := z_subl (k := 1) (by omega)
  have hls : s.length < 501 := by omega
  have p14 : m 14 s.length = nI (y_ht s) := hS.1.2.2.2.1
  have hh : y_ht s < 501 := by omega
  have hvj : ∀ j, j < a.2.2.2.length → m 15 (y_ht s + j) = y_ec (y_g a.2.2.2 j) := fun j hj => hS.1.2.2.2.2 j hj
  have n5 : ¬ (y_k P h a = 5 ∨ y_k P h a = 9 ∨ y_k P h a = 10) := by rcases kk with g | g | g | g | g | g <;> rw [g] <;> decide
  have rqj : ∀ j, j < y_p P h a → y_rq P h a j = z_Ty P (y_qm h a.1) (y_pt P h a j) := fun j hj => by
    unfold y_rq
    rw [if_neg]
    rintro (⟨g, _⟩ | g | ⟨_, g⟩)
    · exact n5 g
    · exact n13 g
    · omega
  have vt : ∀ j, j < a.2.2.2.length → y_vt P h (y_rq P h a j) (y_g a.2.2.2 j) := hCH.1.2.2.2
  have fin : ∀ {v : y_V} {x : Int32}, x = y_ec v → ∃ m', f49 10 x (z_hp S m) = some ((), z_hp S m') ∧ y_cX m' (y_fin s h n out v) ∧ y_cR m m' := fun hx => f49_top (S := S) hX hQ0 hC0 (m1 := m) (fun _ _ _ _ _ => rfl) (fun _ _ => rfl) hO hF hx
  have ra : ∀ e w, ¬ e = -1 → a.2.2.1 ≤ 3 → ∃ m', f58 10 e w (z_hp S m) = some ((), z_hp S m') ∧ y_cX m' (y_ra P s h n out e w) ∧ y_cR m m' := fun e w he hst => f58_top (S := S) hP hQ0 hG0 hC0 hst n13 he
  have hd1 : ∀ {x : Int32}, nI 1 = x → ¬ (1 : Int32) < x := fun hx => by rw [← hx]; decide
  have hp0 : 0 < a.2.2.2.length := by
    rw [hx]
    have : 0 < y_p P h a := by
      rcases kk with g | g | g | g | g | g
      · rw [show y_p P h a = 1 from z_p_3 g]; decide
      · rw [show y_p P h a = 2 from z_p_4 g]; decide
      · rw [show y_p P h a = 1 from z_p_6 g]; decide
      · show 0 < z_p (z_bd P (y_qm h a.1)) a.2.1
        rcases z_pn_ka hB hi g with g | g | g <;> omega
      · rw [show y_p P h a = 2 from z_p_11 g]; decide
      · rw [show y_p P h a = 1 from z_p_12 g]; decide
    omega
  have b1 : y_ht s + 1 < 501 := by omega
  have he0 : m 15 (y_ht s) = y_ec (y_g a.2.2.2 0) := hvj 0 hp0
  have ep0 : m (z_bi p (y_qm h a.1) + 3) a.2.1 = nI (y_p P h a) := ep
  have head : f55 10 (z_bi p (y_qm h a.1)) (nI a.2.1) (nI a.2.2.1) (z_hp S m) = f55_45 10 (z_bi p (y_qm h a.1)) (nI a.2.1) (nI a.2.2.1) (nI (y_ht s)) (y_ec (y_g a.2.2.2 0)) (if (1 : Int32) < nI (y_p P h a) then m 15 (y_ht s + 1) else 0) (z_hp S m) := by
    by_cases g1 : (1 : Int32) < nI (y_p P h a)
    · rw [if_pos g1]
      unfold f55
      simp (disch := ((try simp only [true_or, or_true, hX.k10, hX.k11, hX.k12, hX.k13, hX.k14, hX.k15, hX.k16, hX.k17, hX.k18, hX.k19, hX.k20, hX.l11, hX.l12, hX.l13, hX.l14, hX.l15, hX.l16, hX.l17, hX.l18, hX.l19, hX.l20, hb.k, hb.k1, hb.k2, hb.k3, hb.k4, hb.k5, hb.k6, hb.l1, hb.l2, hb.l3, hb.l4, hb.l5, hb.l6, hbk, h10k]) <;> (try omega))) only [↓reduceIte, ↓z_ite, ↓zR, ↓zB_R, ↓zB_B, ↓zB_ite, ↓zB_gI, ↓zB_pI, ↓zB_pZ, ↓zB_aK, ↓zB_G, ↓zB_lI, ↓zB_lZ, ↓zB_wI, ↓zB_wZ, ↓zB_lIl, ↓zB_wIl, zB_pI, zB_pZ, zB_lI, zB_lZ, zB_wI, zB_wZ, z_addl, z_ladd, z_mull, z_lmul, nI_add, z_subl, Nat.not_lt_zero, z_10, z_01, z_bitc, z_b0, z_b1, ↓zB_Gb, ↓zB_G0, ↓zB_G1, z_eql, z_leq, z_ltl, z_llt, z_eq, z_lt, z_m1lt, hX.k10, hX.k11, hX.k12, hX.k13, hX.k14, hX.k15, hX.k16, hX.k17, hX.k18, hX.k19, hX.k20, hX.l11, hX.l12, hX.l13, hX.l14, hX.l15, hX.l16, hX.l17, hX.l18, hX.l19, hX.l20, hb.k, hb.k1, hb.k2, hb.k3, hb.k4, hb.k5, hb.k6, hb.l1, hb.l2, hb.l3, hb.l4, hb.l5, hb.l6, hbk, h10k, ↓hX.g10_0, ↓hX.g10_1, ↓hX.g10_2, ↓hX.g10_3, ↓hX.g10_4, ↓hX.g10_5, ↓hX.g10_6, ↓hX.g10_7, ↓hX.g10_8, ↓hX.g10_9, ↓hb.g0, ↓hb.g1, ↓hb.g2, ↓hb.g3, ↓hb.g4, ↓hb.g5, c11', e1, hls, p14, hh, he0, ep0, h61, g1, b1]
    · rw [if_neg g1]
      unfold f55
      simp (disch := ((try simp only [true_or, or_true, hX.k10, hX.k11, hX.k12, hX.k13, hX.k14, hX.k15, hX.k16, hX.k17, hX.k18, hX.k19, hX.k20, hX.l11, hX.l12, hX.l13, hX.l14, hX.l15, hX.l16, hX.l17, hX.l18, hX.l19, hX.l20, hb.k, hb.k1, hb.k2, hb.k3, hb.k4, hb.k5, hb.k6, hb.l1, hb.l2, hb.l3, hb.l4, hb.l5, hb.l6, hbk, h10k]) <;> (try omega))) only [↓reduceIte, ↓z_ite, ↓zR, ↓zB_R, ↓zB_B, ↓zB_ite, ↓zB_gI, ↓zB_pI, ↓zB_pZ, ↓zB_aK, ↓zB_G, ↓zB_lI, ↓zB_lZ, ↓zB_wI, ↓zB_wZ, ↓zB_lIl, ↓zB_wIl, zB_pI, zB_pZ, zB_lI, zB_lZ, zB_wI, zB_wZ, z_addl, z_ladd, z_mull, z_lmul, nI_add, z_subl, Nat.not_lt_zero, z_10, z_01, z_bitc, z_b0, z_b1, ↓zB_Gb, ↓zB_G0, ↓zB_G1, z_eql, z_leq, z_ltl, z_llt, z_eq, z_lt, z_m1lt, hX.k10, hX.k11, hX.k12, hX.k13, hX.k14, hX.k15, hX.k16, hX.k17, hX.k18, hX.k19, hX.k20, hX.l11, hX.l12, hX.l13, hX.l14, hX.l15, hX.l16, hX.l17, hX.l18, hX.l19, hX.l20, hb.k, hb.k1, hb.k2, hb.k3, hb.k4, hb.k5, hb.k6, hb.l1, hb.l2, hb.l3, hb.l4, hb.l5, hb.l6, hbk, h10k, ↓hX.g10_0, ↓hX.g10_1, ↓hX.g10_2, ↓hX.g10_3, ↓hX.g10_4, ↓hX.g10_5, ↓hX.g10_6, ↓hX.g10_7, ↓hX.g10_8, ↓hX.g10_9, ↓hb.g0, ↓hb.g1, ↓hb.g2, ↓hb.g3, ↓hb.g4, ↓hb.g5, c11', e1, hls, p14, hh, he0, ep0, h61, g1]
  rw [head]
  unfold y_ap
  by_cases k3 : y_k P h a = 3
  · have k3' : z_k (z_bd P (y_qm h a.1)) a.2.1 = 3 := k3
    have hs := spp (by rw [k3]; decide)
    have p1 : y_p P h a = 1 := z_p_3 k3
    have p1' : z_p (z_bd P (y_qm h a.1)) a.2.1 = 1 := p1
    have v0 := vt 0 (by omega)
    rw [rqj 0 (by omega)] at v0
    obtain ⟨c, f, q, hc, t1, hf, ev', ef, hq, _, tq, _⟩ := z_access hw hm.1 hr hi (Or.inl k3)
    have v0 : y_vt P h (nI c) (y_g a.2.2.2 0) := by rw [← t1]; exact v0
    have e0 : m 15 (y_ht s) = y_ec (y_g a.2.2.2 0) := hvj 0 (by omega)
    have em1 := y_vt_cls2 hw hc v0 (by omega)
    rw [k3'] at ek
    rw [ev'] at ev
    rw [if_pos k3]
    by_cases g2 : (y_g a.2.2.2 0).1 = 2
    · rw [if_pos g2]
      obtain ⟨m', e58, x1, r1⟩ := ra 4 0 (by decide) (by omega)
      refine ⟨m', ?_, x1, r1⟩
      have em2 : y_ec (y_g a.2.2.2 0) = -1 := by rw [em1]; exact g2
      rw [em2]
      unfold f55_45 f55_284
      simp (disch := ((try simp only [true_or, or_true, hX.k10, hX.k11, hX.k12, hX.k13, hX.k14, hX.k15, hX.k16, hX.k17, hX.k18, hX.k19, hX.k20, hX.l11, hX.l12, hX.l13, hX.l14, hX.l15, hX.l16, hX.l17, hX.l18, hX.l19, hX.l20, hb.k, hb.k1, hb.k2, hb.k3, hb.k4, hb.k5, hb.k6, hb.l1, hb.l2, hb.l3, hb.l4, hb.l5, hb.l6, hbk, h10k]) <;> (try omega))) only [↓reduceIte, ↓z_ite, ↓zR, ↓zB_R, ↓zB_B, ↓zB_ite, ↓zB_gI, ↓zB_pI, ↓zB_pZ, ↓zB_aK, ↓zB_G, ↓zB_lI, ↓zB_lZ, ↓zB_wI, ↓zB_wZ, ↓zB_lIl, ↓zB_wIl, zB_pI, zB_pZ, zB_lI, zB_lZ, zB_wI, zB_wZ, z_addl, z_ladd, z_mull, z_lmul, nI_add, z_subl, Nat.not_lt_zero, z_10, z_01, z_bitc, z_b0, z_b1, ↓zB_Gb, ↓zB_G0, ↓zB_G1, z_eql, z_leq, z_ltl, z_llt, z_eq, z_lt, z_m1lt, hX.k10, hX.k11, hX.k12, hX.k13, hX.k14, hX.k15, hX.k16, hX.k17, hX.k18, hX.k19, hX.k20, hX.l11, hX.l12, hX.l13, hX.l14, hX.l15, hX.l16, hX.l17, hX.l18, hX.l19, hX.l20, hb.k, hb.k1, hb.k2, hb.k3, hb.k4, hb.k5, hb.k6, hb.l1, hb.l2, hb.l3, hb.l4, hb.l5, hb.l6, hbk, h10k, ↓hX.g10_0, ↓hX.g10_1, ↓hX.g10_2, ↓hX.g10_3, ↓hX.g10_4, ↓hX.g10_5, ↓hX.g10_6, ↓hX.g10_7, ↓hX.g10_8, ↓hX.g10_9, ↓hb.g0, ↓hb.g1, ↓hb.g2, ↓hb.g3, ↓hb.g4, ↓hb.g5, z_t0, z_t1, z_t2, z_t3, z_t4, z_t5, z_t6, z_t7, z_t8, z_t9, z_t10, z_t11, z_t12, z_t13, Int.reduceEq, ek, h61, ↓zB_c e58, zB_c e58]
    · rw [if_neg g2]
      obtain ⟨v1, o, ho, v2, hco, hbo⟩ := y_vt_cls hw hc v0 g2
      have hoe : y_o a.2.2.2 = o := by unfold y_o; rw [v2, nI_clamp (by omega)]
      have em2 : y_ec (y_g a.2.2.2 0) = nI o := by unfold y_ec; rw [if_neg g2, v2]
      rw [em2]
      have ev2 : y_v P h a = nI f := ev'
      rw [hoe, ev2, nI_clamp (by omega)]
      have ef := (hO.2 o ho).2 f hf
      have hne : ¬ nI o = -1 := z_nI_m1 (by omega)
      have ex : nI o * 16 + nI f = nI (o * 16 + f) := by rw [show nI o * 16 = nI (o * 16) from z_mull _ 16, nI_add]
      have hix : o * 16 + f < 8016 := by omega
      obtain ⟨m', e49, x1, r1⟩ := fin (v := y_qf h o f) rfl
      refine ⟨m', ?_, x1, r1⟩
      unfold f55_45 f55_284
      simp (disch := ((try simp only [true_or, or_true, hX.k10, hX.k11, hX.k12, hX.k13, hX.k14, hX.k15, hX.k16, hX.k17, hX.k18, hX.k19, hX.k20, hX.l11, hX.l12, hX.l13, hX.l14, hX.l15, hX.l16, hX.l17, hX.l18, hX.l19, hX.l20, hb.k, hb.k1, hb.k2, hb.k3, hb.k4, hb.k5, hb.k6, hb.l1, hb.l2, hb.l3, hb.l4, hb.l5, hb.l6, hbk, h10k]) <;> (try omega))) only [↓reduceIte, ↓z_ite, ↓zR, ↓zB_R, ↓zB_B, ↓zB_ite, ↓zB_gI, ↓zB_pI, ↓zB_pZ, ↓zB_aK, ↓zB_G, ↓zB_lI, ↓zB_lZ, ↓zB_wI, ↓zB_wZ, ↓zB_lIl, ↓zB_wIl, zB_pI, zB_pZ, zB_lI, zB_lZ, zB_wI, zB_wZ, z_addl, z_ladd, z_mull, z_lmul, nI_add, z_subl, Nat.not_lt_zero, z_10, z_01, z_bitc, z_b0, z_b1, ↓zB_Gb, ↓zB_G0, ↓zB_G1, z_eql, z_leq, z_ltl, z_llt, z_eq, z_lt, z_m1lt, hX.k10, hX.k11, hX.k12, hX.k13, hX.k14, hX.k15, hX.k16, hX.k17, hX.k18, hX.k19, hX.k20, hX.l11, hX.l12, hX.l13, hX.l14, hX.l15, hX.l16, hX.l17, hX.l18, hX.l19, hX.l20, hb.k, hb.k1, hb.k2, hb.k3, hb.k4, hb.k5, hb.k6, hb.l1, hb.l2, hb.l3, hb.l4, hb.l5, hb.l6, hbk, h10k, ↓hX.g10_0, ↓hX.g10_1, ↓hX.g10_2, ↓hX.g10_3, ↓hX.g10_4, ↓hX.g10_5, ↓hX.g10_6, ↓hX.g10_7, ↓hX.g10_8, ↓hX.g10_9, ↓hb.g0, ↓hb.g1, ↓hb.g2, ↓hb.g3, ↓hb.g4, ↓hb.g5, z_t0, z_t1, z_t2, z_t3, z_t4, z_t5, z_t6, z_t7, z_t8, z_t9, z_t10, z_t11, z_t12, z_t13, Int.reduceEq, ek, h61, hne, ev, ex, hix, ef, ↓zB_c e49, zB_c e49]
  rw [if_neg k3]
  by_cases k4 : y_k P h a = 4
  · have k4' : z_k (z_bd P (y_qm h a.1)) a.2.1 = 4 := k4
    have hs := spp (by rw [k4]; decide)
    have p1 : y_p P h a = 2 := z_p_4 k4
    have p1' : z_p (z_bd P (y_qm h a.1)) a.2.1 = 2 := p1
    have v0 := vt 0 (by omega)
    rw [rqj 0 (by omega)] at v0
    obtain ⟨c, f, q, hc, t1, hf, ev', ef, hq, _, tq, _⟩ := z_access hw hm.1 hr hi (Or.inr k4)
    have v0 : y_vt P h (nI c) (y_g a.2.2.2 0) := by rw [← t1]; exact v0
    have e0 : m 15 (y_ht s) = y_ec (y_g a.2.2.2 0) := hvj 0 (by omega)
    have e0b : m 15 (y_ht s + 1) = y_ec (y_g a.2.2.2 1) := hvj 1 (by omega)
    have b1 : y_ht s + 1 < 501 := by omega
    have em1 := y_vt_cls2 hw hc v0 (by omega)
    rw [k4'] at ek
    rw [ev'] at ev
    have g1 : (1 : Int32) < nI 2 := by decide
    rw [p1, if_pos g1, e0b, if_pos k4]
    by_cases g2 : (y_g a.2.2.2 0).1 = 2
    · rw [if_pos g2]
      obtain ⟨m', e58, x1, r1⟩ := ra 4 0 (by decide) (by omega)
      refine ⟨m', ?_, x1, r1⟩
      have em2 : y_ec (y_g a.2.2.2 0) = -1 := by rw [em1]; exact g2
      rw [em2]
      unfold f55_45 f55_284
      simp (disch := ((try simp only [true_or, or_true, hX.k10, hX.k11, hX.k12, hX.k13, hX.k14, hX.k15, hX.k16, hX.k17, hX.k18, hX.k19, hX.k20, hX.l11, hX.l12, hX.l13, hX.l14, hX.l15, hX.l16, hX.l17, hX.l18, hX.l19, hX.l20, hb.k, hb.k1, hb.k2, hb.k3, hb.k4, hb.k5, hb.k6, hb.l1, hb.l2, hb.l3, hb.l4, hb.l5, hb.l6, hbk, h10k]) <;> (try omega))) only [↓reduceIte, ↓z_ite, ↓zR, ↓zB_R, ↓zB_B, ↓zB_ite, ↓zB_gI, ↓zB_pI, ↓zB_pZ, ↓zB_aK, ↓zB_G, ↓zB_lI, ↓zB_lZ, ↓zB_wI, ↓zB_wZ, ↓zB_lIl, ↓zB_wIl, zB_pI, zB_pZ, zB_lI, zB_lZ, zB_wI, zB_wZ, z_addl, z_ladd, z_mull, z_lmul, nI_add, z_subl, Nat.not_lt_zero, z_10, z_01, z_bitc, z_b0, z_b1, ↓zB_Gb, ↓zB_G0, ↓zB_G1, z_eql, z_leq, z_ltl, z_llt, z_eq, z_lt, z_m1lt, hX.k10, hX.k11, hX.k12, hX.k13, hX.k14, hX.k15, hX.k16, hX.k17, hX.k18, hX.k19, hX.k20, hX.l11, hX.l12, hX.l13, hX.l14, hX.l15, hX.l16, hX.l17, hX.l18, hX.l19, hX.l20, hb.k, hb.k1, hb.k2, hb.k3, hb.k4, hb.k5, hb.k6, hb.l1, hb.l2, hb.l3, hb.l4, hb.l5, hb.l6, hbk, h10k, ↓hX.g10_0, ↓hX.g10_1, ↓hX.g10_2, ↓hX.g10_3, ↓hX.g10_4, ↓hX.g10_5, ↓hX.g10_6, ↓hX.g10_7, ↓hX.g10_8, ↓hX.g10_9, ↓hb.g0, ↓hb.g1, ↓hb.g2, ↓hb.g3, ↓hb.g4, ↓hb.g5, z_t0, z_t1, z_t2, z_t3, z_t4, z_t5, z_t6, z_t7, z_t8, z_t9, z_t10, z_t11, z_t12, z_t13, Int.reduceEq, ek, h61, ↓zB_c e58, zB_c e58]
    · rw [if_neg g2]
      obtain ⟨v1, o, ho, v2, hco, hbo⟩ := y_vt_cls hw hc v0 g2
      have hoe : y_o a.2.2.2 = o := by unfold y_o; rw [v2, nI_clamp (by omega)]
      have em2 : y_ec (y_g a.2.2.2 0) = nI o := by unfold y_ec; rw [if_neg g2, v2]
      rw [em2]
      have ev2 : y_v P h a = nI f := ev'
      rw [hoe, ev2, nI_clamp (by omega)]
      have hne : ¬ nI o = -1 := z_nI_m1 (by omega)
      have ex : nI o * 16 + nI f = nI (o * 16 + f) := by rw [show nI o * 16 = nI (o * 16) from z_mull _ 16, nI_add]
      have hix : o * 16 + f < 8016 := by omega
      generalize hm1 : z_up m 20 (o * 16 + f) (y_ec (y_g a.2.2.2 1)) = m1
      have fr1 : ∀ b, b ≠ 20 → m1 b = m b := fun b x => by rw [← hm1, z_up_row x]
      have hO1 : y_cO m1 (y_wf h o f (y_g a.2.2.2 1)) := ⟨by rw [fr1 10 (by decide)]; exact hO.1, fun o' ho' => ⟨by rw [fr1 19 (by decide)]; exact (hO.2 o' ho').1, fun n' hn' => by
        show m1 20 (o' * 16 + n') = y_ec (if o' = o ∧ n' = f then y_g a.2.2.2 1 else y_qf h o' n')
        by_cases g : o' = o ∧ n' = f
        · rw [if_pos g, g.1, g.2, ← hm1, z_up_s]
        · rw [if_neg g, ← hm1, z_up_b (by omega)]
          exact (hO.2 o' ho').2 n' hn'⟩⟩
      obtain ⟨m', e49, x1, r1⟩ := f49_top (S := S) (m1 := m1) (h' := y_wf h o f (y_g a.2.2.2 1)) (v := y_g a.2.2.2 1) hX hQ0 hC0 (fun b _ x _ _ => fr1 b x) (fun j _ => by rw [fr1 10 (by decide)]) hO1 (y_cF_fr (fun b hb => fr1 b (by omega)) hF) rfl
      refine ⟨m', ?_, x1, r1⟩
      unfold f55_45 f55_284
      simp (disch := ((try simp only [true_or, or_true, hX.k10, hX.k11, hX.k12, hX.k13, hX.k14, hX.k15, hX.k16, hX.k17, hX.k18, hX.k19, hX.k20, hX.l11, hX.l12, hX.l13, hX.l14, hX.l15, hX.l16, hX.l17, hX.l18, hX.l19, hX.l20, hb.k, hb.k1, hb.k2, hb.k3, hb.k4, hb.k5, hb.k6, hb.l1, hb.l2, hb.l3, hb.l4, hb.l5, hb.l6, hbk, h10k]) <;> (try omega))) only [↓reduceIte, ↓z_ite, ↓zR, ↓zB_R, ↓zB_B, ↓zB_ite, ↓zB_gI, ↓zB_pI, ↓zB_pZ, ↓zB_aK, ↓zB_G, ↓zB_lI, ↓zB_lZ, ↓zB_wI, ↓zB_wZ, ↓zB_lIl, ↓zB_wIl, zB_pI, zB_pZ, zB_lI, zB_lZ, zB_wI, zB_wZ, z_addl, z_ladd, z_mull, z_lmul, nI_add, z_subl, Nat.not_lt_zero, z_10, z_01, z_bitc, z_b0, z_b1, ↓zB_Gb, ↓zB_G0, ↓zB_G1, z_eql, z_leq, z_ltl, z_llt, z_eq, z_lt, z_m1lt, hX.k10, hX.k11, hX.k12, hX.k13, hX.k14, hX.k15, hX.k16, hX.k17, hX.k18, hX.k19, hX.k20, hX.l11, hX.l12, hX.l13, hX.l14, hX.l15, hX.l16, hX.l17, hX.l18, hX.l19, hX.l20, hb.k, hb.k1, hb.k2, hb.k3, hb.k4, hb.k5, hb.k6, hb.l1, hb.l2, hb.l3, hb.l4, hb.l5, hb.l6, hbk, h10k, ↓hX.g10_0, ↓hX.g10_1, ↓hX.g10_2, ↓hX.g10_3, ↓hX.g10_4, ↓hX.g10_5, ↓hX.g10_6, ↓hX.g10_7, ↓hX.g10_8, ↓hX.g10_9, ↓hb.g0, ↓hb.g1, ↓hb.g2, ↓hb.g3, ↓hb.g4, ↓hb.g5, z_t0, z_t1, z_t2, z_t3, z_t4, z_t5, z_t6, z_t7, z_t8, z_t9, z_t10, z_t11, z_t12, z_t13, Int.reduceEq, ek, h61, hne, ev, ex, hix, hm1, ↓zB_c e49, zB_c e49]
  rw [if_neg k4]
  by_cases k6 : y_k P h a = 6
  · have k6' : z_k (z_bd P (y_qm h a.1)) a.2.1 = 6 := k6
    have hs := spp (by rw [k6]; decide)
    have p1 : y_p P h a = 1 := z_p_6 k6
    have p1' : z_p (z_bd P (y_qm h a.1)) a.2.1 = 1 := p1
    have e0 : m 15 (y_ht s) = y_ec (y_g a.2.2.2 0) := hvj 0 (by omega)
    rw [k6'] at ek
    rw [if_pos k6]
    obtain ⟨m1, e52, F1, O1, fr1⟩ := f52_c (m := m) hP ⟨hG0, hC0, hI, trivial, hCH.1, hn, h20⟩ k6 (v := y_g a.2.2.2 0) rfl
    obtain ⟨m', e49, x1, r1⟩ := f49_top (S := S) (m1 := m1) (h' := y_wr P h a (y_g a.2.2.2 0)) (v := y_g a.2.2.2 0) hX hQ0 hC0 (fun b x y _ _ => fr1 b x y) (fun j _ => by rw [fr1 10 (by decide) (by decide)]) O1 F1 rfl
    refine ⟨m', ?_, x1, r1⟩
    unfold f55_45 f55_284
    simp (disch := ((try simp only [true_or, or_true, hX.k10, hX.k11, hX.k12, hX.k13, hX.k14, hX.k15, hX.k16, hX.k17, hX.k18, hX.k19, hX.k20, hX.l11, hX.l12, hX.l13, hX.l14, hX.l15, hX.l16, hX.l17, hX.l18, hX.l19, hX.l20, hb.k, hb.k1, hb.k2, hb.k3, hb.k4, hb.k5, hb.k6, hb.l1, hb.l2, hb.l3, hb.l4, hb.l5, hb.l6, hbk, h10k]) <;> (try omega))) only [↓reduceIte, ↓z_ite, ↓zR, ↓zB_R, ↓zB_B, ↓zB_ite, ↓zB_gI, ↓zB_pI, ↓zB_pZ, ↓zB_aK, ↓zB_G, ↓zB_lI, ↓zB_lZ, ↓zB_wI, ↓zB_wZ, ↓zB_lIl, ↓zB_wIl, zB_pI, zB_pZ, zB_lI, zB_lZ, zB_wI, zB_wZ, z_addl, z_ladd, z_mull, z_lmul, nI_add, z_subl, Nat.not_lt_zero, z_10, z_01, z_bitc, z_b0, z_b1, ↓zB_Gb, ↓zB_G0, ↓zB_G1, z_eql, z_leq, z_ltl, z_llt, z_eq, z_lt, z_m1lt, hX.k10, hX.k11, hX.k12, hX.k13, hX.k14, hX.k15, hX.k16, hX.k17, hX.k18, hX.k19, hX.k20, hX.l11, hX.l12, hX.l13, hX.l14, hX.l15, hX.l16, hX.l17, hX.l18, hX.l19, hX.l20, hb.k, hb.k1, hb.k2, hb.k3, hb.k4, hb.k5, hb.k6, hb.l1, hb.l2, hb.l3, hb.l4, hb.l5, hb.l6, hbk, h10k, ↓hX.g10_0, ↓hX.g10_1, ↓hX.g10_2, ↓hX.g10_3, ↓hX.g10_4, ↓hX.g10_5, ↓hX.g10_6, ↓hX.g10_7, ↓hX.g10_8, ↓hX.g10_9, ↓hb.g0, ↓hb.g1, ↓hb.g2, ↓hb.g3, ↓hb.g4, ↓hb.g5, z_t0, z_t1, z_t2, z_t3, z_t4, z_t5, z_t6, z_t7, z_t8, z_t9, z_t10, z_t11, z_t12, z_t13, Int.reduceEq, ek, h61, ↓zB_c e52, zB_c e52, ↓zB_c e49, zB_c e49]
  rw [if_neg k6]
  by_cases k7 : y_k P h a = 7
  · have k7' : z_k (z_bd P (y_qm h a.1)) a.2.1 = 7 := k7
    have sb7 : y_sb (y_k P h a) (y_p P h a) = y_p P h a + 1 := by unfold y_sb; rw [if_pos k7]
    rw [sb7] at hsb
    have hpp0 : 0 < y_p P h a := by
      show 0 < z_p (z_bd P (y_qm h a.1)) a.2.1
      rcases z_pn_ka hB hi k7' with g | g | g <;> omega
    have e0 : m 15 (y_ht s) = y_ec (y_g a.2.2.2 0) := hvj 0 (by omega)
    rw [k7'] at ek
    have ep' : m (z_bi p (y_qm h a.1) + 3) a.2.1 = nI (y_p P h a) := ep
    rw [if_pos k7]
    generalize (if (1 : Int32) < nI (y_p P h a) then m 15 (y_ht s + 1) else 0) = sec
    by_cases s7 : y_p P h a < a.2.2.1
    · rw [if_pos s7]
      have hlv : 0 < a.2.2.2.length := by omega
      have elv : m 15 (y_ht s + (a.2.2.2.length - 1)) = y_ec (y_lv a.2.2.2) := hvj _ (by omega)
      have c12' : m 10 12 = nI (y_ht s + a.2.2.2.length) := c12
      have e12 : nI (y_ht s + a.2.2.2.length) - 1 = nI (y_ht s + (a.2.2.2.length - 1)) := by
        rw [show y_ht s + (a.2.2.2.length - 1) = y_ht s + a.2.2.2.length - 1 by omega]
        exact z_subl (k := 1) (by omega)
      have h15 : y_ht s + (a.2.2.2.length - 1) < 501 := by omega
      have g7 : nI (y_p P h a) < nI a.2.2.1 := (nI_ltI (by omega) (by omega)).mpr s7
      obtain ⟨m', e49, x1, r1⟩ := fin (v := y_lv a.2.2.2) rfl
      refine ⟨m', ?_, x1, r1⟩
      unfold f55_45 f55_284
      simp (disch := ((try simp only [true_or, or_true, hX.k10, hX.k11, hX.k12, hX.k13, hX.k14, hX.k15, hX.k16, hX.k17, hX.k18, hX.k19, hX.k20, hX.l11, hX.l12, hX.l13, hX.l14, hX.l15, hX.l16, hX.l17, hX.l18, hX.l19, hX.l20, hb.k, hb.k1, hb.k2, hb.k3, hb.k4, hb.k5, hb.k6, hb.l1, hb.l2, hb.l3, hb.l4, hb.l5, hb.l6, hbk, h10k]) <;> (try omega))) only [↓reduceIte, ↓z_ite, ↓zR, ↓zB_R, ↓zB_B, ↓zB_ite, ↓zB_gI, ↓zB_pI, ↓zB_pZ, ↓zB_aK, ↓zB_G, ↓zB_lI, ↓zB_lZ, ↓zB_wI, ↓zB_wZ, ↓zB_lIl, ↓zB_wIl, zB_pI, zB_pZ, zB_lI, zB_lZ, zB_wI, zB_wZ, z_addl, z_ladd, z_mull, z_lmul, nI_add, z_subl, Nat.not_lt_zero, z_10, z_01, z_bitc, z_b0, z_b1, ↓zB_Gb, ↓zB_G0, ↓zB_G1, z_eql, z_leq, z_ltl, z_llt, z_eq, z_lt, z_m1lt, hX.k10, hX.k11, hX.k12, hX.k13, hX.k14, hX.k15, hX.k16, hX.k17, hX.k18, hX.k19, hX.k20, hX.l11, hX.l12, hX.l13, hX.l14, hX.l15, hX.l16, hX.l17, hX.l18, hX.l19, hX.l20, hb.k, hb.k1, hb.k2, hb.k3, hb.k4, hb.k5, hb.k6, hb.l1, hb.l2, hb.l3, hb.l4, hb.l5, hb.l6, hbk, h10k, ↓hX.g10_0, ↓hX.g10_1, ↓hX.g10_2, ↓hX.g10_3, ↓hX.g10_4, ↓hX.g10_5, ↓hX.g10_6, ↓hX.g10_7, ↓hX.g10_8, ↓hX.g10_9, ↓hb.g0, ↓hb.g1, ↓hb.g2, ↓hb.g3, ↓hb.g4, ↓hb.g5, z_t0, z_t1, z_t2, z_t3, z_t4, z_t5, z_t6, z_t7, z_t8, z_t9, z_t10, z_t11, z_t12, z_t13, Int.reduceEq, ek, h61, ep', s7, c12', e12, h15, elv, ↓zB_c e49, zB_c e49]
    · rw [if_neg s7]
      have hs : a.2.2.1 = y_p P h a := by omega
      have v0 := vt 0 (by omega)
      rw [rqj 0 (by omega)] at v0
      obtain ⟨c, q, hc, t1, _⟩ := z_call hw hm.1 hr hi k7'
      have v0 : y_vt P h (nI c) (y_g a.2.2.2 0) := by rw [← t1]; exact v0
      have em1 := y_vt_cls2 hw hc v0 (by omega)
      have g7 : ¬ nI (y_p P h a) < nI a.2.2.1 := fun q => s7 ((nI_ltI (by omega) (by omega)).mp q)
      by_cases g2 : (y_g a.2.2.2 0).1 = 2
      · rw [if_pos g2]
        obtain ⟨m', e58, x1, r1⟩ := ra 4 0 (by decide) (by omega)
        refine ⟨m', ?_, x1, r1⟩
        have em2 : y_ec (y_g a.2.2.2 0) = -1 := by rw [em1]; exact g2
        rw [em2]
        unfold f55_45 f55_284
        simp (disch := ((try simp only [true_or, or_true, hX.k10, hX.k11, hX.k12, hX.k13, hX.k14, hX.k15, hX.k16, hX.k17, hX.k18, hX.k19, hX.k20, hX.l11, hX.l12, hX.l13, hX.l14, hX.l15, hX.l16, hX.l17, hX.l18, hX.l19, hX.l20, hb.k, hb.k1, hb.k2, hb.k3, hb.k4, hb.k5, hb.k6, hb.l1, hb.l2, hb.l3, hb.l4, hb.l5, hb.l6, hbk, h10k]) <;> (try omega))) only [↓reduceIte, ↓z_ite, ↓zR, ↓zB_R, ↓zB_B, ↓zB_ite, ↓zB_gI, ↓zB_pI, ↓zB_pZ, ↓zB_aK, ↓zB_G, ↓zB_lI, ↓zB_lZ, ↓zB_wI, ↓zB_wZ, ↓zB_lIl, ↓zB_wIl, zB_pI, zB_pZ, zB_lI, zB_lZ, zB_wI, zB_wZ, z_addl, z_ladd, z_mull, z_lmul, nI_add, z_subl, Nat.not_lt_zero, z_10, z_01, z_bitc, z_b0, z_b1, ↓zB_Gb, ↓zB_G0, ↓zB_G1, z_eql, z_leq, z_ltl, z_llt, z_eq, z_lt, z_m1lt, hX.k10, hX.k11, hX.k12, hX.k13, hX.k14, hX.k15, hX.k16, hX.k17, hX.k18, hX.k19, hX.k20, hX.l11, hX.l12, hX.l13, hX.l14, hX.l15, hX.l16, hX.l17, hX.l18, hX.l19, hX.l20, hb.k, hb.k1, hb.k2, hb.k3, hb.k4, hb.k5, hb.k6, hb.l1, hb.l2, hb.l3, hb.l4, hb.l5, hb.l6, hbk, h10k, ↓hX.g10_0, ↓hX.g10_1, ↓hX.g10_2, ↓hX.g10_3, ↓hX.g10_4, ↓hX.g10_5, ↓hX.g10_6, ↓hX.g10_7, ↓hX.g10_8, ↓hX.g10_9, ↓hb.g0, ↓hb.g1, ↓hb.g2, ↓hb.g3, ↓hb.g4, ↓hb.g5, z_t0, z_t1, z_t2, z_t3, z_t4, z_t5, z_t6, z_t7, z_t8, z_t9, z_t10, z_t11, z_t12, z_t13, Int.reduceEq, ek, h61, ep', s7, ↓zB_c e58, zB_c e58]
      · rw [if_neg g2]
        have hne : ¬ y_ec (y_g a.2.2.2 0) = -1 := by rw [em1]; exact g2
        obtain ⟨m', e57, x1, r1⟩ := f57_c (m := m) hP hQ0 hG0 hC0 k7 hs g2
        refine ⟨m', ?_, x1, r1⟩
        unfold f55_45 f55_284
        simp (disch := ((try simp only [true_or, or_true, hX.k10, hX.k11, hX.k12, hX.k13, hX.k14, hX.k15, hX.k16, hX.k17, hX.k18, hX.k19, hX.k20, hX.l11, hX.l12, hX.l13, hX.l14, hX.l15, hX.l16, hX.l17, hX.l18, hX.l19, hX.l20, hb.k, hb.k1, hb.k2, hb.k3, hb.k4, hb.k5, hb.k6, hb.l1, hb.l2, hb.l3, hb.l4, hb.l5, hb.l6, hbk, h10k]) <;> (try omega))) only [↓reduceIte, ↓z_ite, ↓zR, ↓zB_R, ↓zB_B, ↓zB_ite, ↓zB_gI, ↓zB_pI, ↓zB_pZ, ↓zB_aK, ↓zB_G, ↓zB_lI, ↓zB_lZ, ↓zB_wI, ↓zB_wZ, ↓zB_lIl, ↓zB_wIl, zB_pI, zB_pZ, zB_lI, zB_lZ, zB_wI, zB_wZ, z_addl, z_ladd, z_mull, z_lmul, nI_add, z_subl, Nat.not_lt_zero, z_10, z_01, z_bitc, z_b0, z_b1, ↓zB_Gb, ↓zB_G0, ↓zB_G1, z_eql, z_leq, z_ltl, z_llt, z_eq, z_lt, z_m1lt, hX.k10, hX.k11, hX.k12, hX.k13, hX.k14, hX.k15, hX.k16, hX.k17, hX.k18, hX.k19, hX.k20, hX.l11, hX.l12, hX.l13, hX.l14, hX.l15, hX.l16, hX.l17, hX.l18, hX.l19, hX.l20, hb.k, hb.k1, hb.k2, hb.k3, hb.k4, hb.k5, hb.k6, hb.l1, hb.l2, hb.l3, hb.l4, hb.l5, hb.l6, hbk, h10k, ↓hX.g10_0, ↓hX.g10_1, ↓hX.g10_2, ↓hX.g10_3, ↓hX.g10_4, ↓hX.g10_5, ↓hX.g10_6, ↓hX.g10_7, ↓hX.g10_8, ↓hX.g10_9, ↓hb.g0, ↓hb.g1, ↓hb.g2, ↓hb.g3, ↓hb.g4, ↓hb.g5, z_t0, z_t1, z_t2, z_t3, z_t4, z_t5, z_t6, z_t7, z_t8, z_t9, z_t10, z_t11, z_t12, z_t13, Int.reduceEq, ek, h61, ep', s7, hne, ↓zB_c e57, zB_c e57]
  rw [if_neg k7]
  by_cases k11 : y_k P h a = 11
  · have k11' : z_k (z_bd P (y_qm h a.1)) a.2.1 = 11 := k11
    have hs := spp k7
    have p1 : y_p P h a = 2 := z_p_11 k11
    have p1' : z_p (z_bd P (y_qm h a.1)) a.2.1 = 2 := p1
    have e0 : m 15 (y_ht s) = y_ec (y_g a.2.2.2 0) := hvj 0 (by omega)
    have e0b : m 15 (y_ht s + 1) = y_ec (y_g a.2.2.2 1) := hvj 1 (by omega)
    have b1 : y_ht s + 1 < 501 := by omega
    have eN := (z_Ty_ok hr hi).2
    rw [(z_Ty_ok hr hi).1, z_st_11 k11'] at eN
    have hnum : z_num (z_Ty P (y_qm h a.1) (y_pt P h a 0)) = true ∧ z_num (z_Ty P (y_qm h a.1) (y_pt P h a 1)) = true := by
      by_cases q : z_num (z_Ty P (y_qm h a.1) (z_pt (z_bd P (y_qm h a.1)) a.2.1 0)) = true ∧ z_num (z_Ty P (y_qm h a.1) (z_pt (z_bd P (y_qm h a.1)) a.2.1 1)) = true
      · exact q
      · rw [if_neg q] at eN; exact absurd rfl eN
    have num : ∀ {T v}, y_vt P h T v → z_num T = true → y_ec v = v.2 := fun {T v} hv hT => by
      have : v.1 = 0 := by
        rcases hv with ⟨_, g⟩ | ⟨c, g1, g2, _⟩
        · exact g
        · rw [g2] at hT
          unfold z_num at hT
          rw [show (nI c == (-1 : Int32)) = false by simpa using z_nI_m1 (d := c) (by omega), show (nI c == (-2 : Int32)) = false by simpa using z_eqm (k := 2) (a := c) (by omega) (by decide) (by decide)] at hT
          cases hT
      unfold y_ec; rw [this, if_neg (by decide)]
    have v0 := vt 0 (by omega)
    rw [rqj 0 (by omega)] at v0
    have v1 := vt 1 (by omega)
    rw [rqj 1 (by omega)] at v1
    rw [k11'] at ek
    have g1 : (1 : Int32) < nI 2 := by decide
    rw [p1, if_pos g1, e0b, num v0 hnum.1, num v1 hnum.2, if_pos k11]
    have e56 := f56_c (S := S) (m := m) (z_v (z_bd P (y_qm h a.1)) a.2.1) (y_g a.2.2.2 0).2 (y_g a.2.2.2 1).2
    obtain ⟨m', e49, x1, r1⟩ := fin (v := (0, y_op (y_v P h a) (y_g a.2.2.2 0).2 (y_g a.2.2.2 1).2)) (x := y_op (z_v (z_bd P (y_qm h a.1)) a.2.1) (y_g a.2.2.2 0).2 (y_g a.2.2.2 1).2) rfl
    refine ⟨m', ?_, x1, r1⟩
    unfold f55_45 f55_284
    simp (disch := ((try simp only [true_or, or_true, hX.k10, hX.k11, hX.k12, hX.k13, hX.k14, hX.k15, hX.k16, hX.k17, hX.k18, hX.k19, hX.k20, hX.l11, hX.l12, hX.l13, hX.l14, hX.l15, hX.l16, hX.l17, hX.l18, hX.l19, hX.l20, hb.k, hb.k1, hb.k2, hb.k3, hb.k4, hb.k5, hb.k6, hb.l1, hb.l2, hb.l3, hb.l4, hb.l5, hb.l6, hbk, h10k]) <;> (try omega))) only [↓reduceIte, ↓z_ite, ↓zR, ↓zB_R, ↓zB_B, ↓zB_ite, ↓zB_gI, ↓zB_pI, ↓zB_pZ, ↓zB_aK, ↓zB_G, ↓zB_lI, ↓zB_lZ, ↓zB_wI, ↓zB_wZ, ↓zB_lIl, ↓zB_wIl, zB_pI, zB_pZ, zB_lI, zB_lZ, zB_wI, zB_wZ, z_addl, z_ladd, z_mull, z_lmul, nI_add, z_subl, Nat.not_lt_zero, z_10, z_01, z_bitc, z_b0, z_b1, ↓zB_Gb, ↓zB_G0, ↓zB_G1, z_eql, z_leq, z_ltl, z_llt, z_eq, z_lt, z_m1lt, hX.k10, hX.k11, hX.k12, hX.k13, hX.k14, hX.k15, hX.k16, hX.k17, hX.k18, hX.k19, hX.k20, hX.l11, hX.l12, hX.l13, hX.l14, hX.l15, hX.l16, hX.l17, hX.l18, hX.l19, hX.l20, hb.k, hb.k1, hb.k2, hb.k3, hb.k4, hb.k5, hb.k6, hb.l1, hb.l2, hb.l3, hb.l4, hb.l5, hb.l6, hbk, h10k, ↓hX.g10_0, ↓hX.g10_1, ↓hX.g10_2, ↓hX.g10_3, ↓hX.g10_4, ↓hX.g10_5, ↓hX.g10_6, ↓hX.g10_7, ↓hX.g10_8, ↓hX.g10_9, ↓hb.g0, ↓hb.g1, ↓hb.g2, ↓hb.g3, ↓hb.g4, ↓hb.g5, z_t0, z_t1, z_t2, z_t3, z_t4, z_t5, z_t6, z_t7, z_t8, z_t9, z_t10, z_t11, z_t12, z_t13, Int.reduceEq, ek, h61, ev, ↓zB_c e56, zB_c e56, ↓zB_c e49, zB_c e49]
  rw [if_neg k11]
  have k12 : y_k P h a = 12 := by
    rcases kk with g | g | g | g | g | g
    · exact absurd g k3
    · exact absurd g k4
    · exact absurd g k6
    · exact absurd g k7
    · exact absurd g k11
    · exact g
  have k12' : z_k (z_bd P (y_qm h a.1)) a.2.1 = 12 := k12
  have hs := spp k7
  have p1 : y_p P h a = 1 := z_p_12 k12
  have p1' : z_p (z_bd P (y_qm h a.1)) a.2.1 = 1 := p1
  have e0 : m 15 (y_ht s) = y_ec (y_g a.2.2.2 0) := hvj 0 (by omega)
  have v0 := vt 0 (by omega)
  rw [rqj 0 (by omega)] at v0
  have eN := (z_Ty_ok hr hi).2
  rw [(z_Ty_ok hr hi).1, z_st_12 k12'] at eN
  have hnum : z_num (z_Ty P (y_qm h a.1) (y_pt P h a 0)) = true := by
    by_cases q : z_num (z_Ty P (y_qm h a.1) (z_pt (z_bd P (y_qm h a.1)) a.2.1 0)) = true
    · exact q
    · rw [if_neg q] at eN; exact absurd rfl eN
  have h0 : (y_g a.2.2.2 0).1 = 0 := by
    rcases v0 with ⟨_, g⟩ | ⟨c, g1, g2, _⟩
    · exact g
    · rw [g2] at hnum
      unfold z_num at hnum
      rw [show (nI c == (-1 : Int32)) = false by simpa using z_nI_m1 (d := c) (by omega), show (nI c == (-2 : Int32)) = false by simpa using z_eqm (k := 2) (a := c) (by omega) (by decide) (by decide)] at hnum
      cases hnum
  have eec : y_ec (y_g a.2.2.2 0) = (y_g a.2.2.2 0).2 := by unfold y_ec; rw [h0, if_neg (by decide)]
  rw [k12'] at ek
  rw [eec]
  obtain ⟨m', e58, x1, r1⟩ := ra 3 (y_g a.2.2.2 0).2 (by decide) (by omega)
  refine ⟨m', ?_, x1, r1⟩
  unfold f55_45 f55_284
  simp (disch := ((try simp only [true_or, or_true, hX.k10, hX.k11, hX.k12, hX.k13, hX.k14, hX.k15, hX.k16, hX.k17, hX.k18, hX.k19, hX.k20, hX.l11, hX.l12, hX.l13, hX.l14, hX.l15, hX.l16, hX.l17, hX.l18, hX.l19, hX.l20, hb.k, hb.k1, hb.k2, hb.k3, hb.k4, hb.k5, hb.k6, hb.l1, hb.l2, hb.l3, hb.l4, hb.l5, hb.l6, hbk, h10k]) <;> (try omega))) only [↓reduceIte, ↓z_ite, ↓zR, ↓zB_R, ↓zB_B, ↓zB_ite, ↓zB_gI, ↓zB_pI, ↓zB_pZ, ↓zB_aK, ↓zB_G, ↓zB_lI, ↓zB_lZ, ↓zB_wI, ↓zB_wZ, ↓zB_lIl, ↓zB_wIl, zB_pI, zB_pZ, zB_lI, zB_lZ, zB_wI, zB_wZ, z_addl, z_ladd, z_mull, z_lmul, nI_add, z_subl, Nat.not_lt_zero, z_10, z_01, z_bitc, z_b0, z_b1, ↓zB_Gb, ↓zB_G0, ↓zB_G1, z_eql, z_leq, z_ltl, z_llt, z_eq, z_lt, z_m1lt, hX.k10, hX.k11, hX.k12, hX.k13, hX.k14, hX.k15, hX.k16, hX.k17, hX.k18, hX.k19, hX.k20, hX.l11, hX.l12, hX.l13, hX.l14, hX.l15, hX.l16, hX.l17, hX.l18, hX.l19, hX.l20, hb.k, hb.k1, hb.k2, hb.k3, hb.k4, hb.k5, hb.k6, hb.l1, hb.l2, hb.l3, hb.l4, hb.l5, hb.l6, hbk, h10k, ↓hX.g10_0, ↓hX.g10_1, ↓hX.g10_2, ↓hX.g10_3, ↓hX.g10_4, ↓hX.g10_5, ↓hX.g10_6, ↓hX.g10_7, ↓hX.g10_8, ↓hX.g10_9, ↓hb.g0, ↓hb.g1, ↓hb.g2, ↓hb.g3, ↓hb.g4, ↓hb.g5, z_t0, z_t1, z_t2, z_t3, z_t4, z_t5, z_t6, z_t7, z_t8, z_t9, z_t10, z_t11, z_t12, z_t13, Int.reduceEq, ek, h61, ↓zB_c e58, zB_c e58]
end
