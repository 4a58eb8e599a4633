-- deps: 91.00.run 91.01.run2 91.02.run3 91.03.run4 91.04.run5 91.05.run6 91.06.crun 91.07.crun2
/-! a run: the class's machine, reading, writing, choosing -/
section
variable {P : z_Pg} {h : y_Qh} {k0 : Nat} {n : Nat} {out : y_V} {a : y_Ac} {s : List y_Ac} {S : z_S} {m : z_m} {p : Nat}
theorem f56_c (k x y : Int32) : f56 k x y (z_hp S m) = some (y_op k x y, z_hp S m) := by
  have e : ∀ c : Int32, (k.toInt = c.toInt) = (k = c) := fun c => propext Int32.toInt_inj
  have e0 : (k.toInt = 0) = (k = 0) := e 0
  have e1 : (k.toInt = 1) = (k = 1) := e 1
  have e2 : (k.toInt = 2) = (k = 2) := e 2
  unfold f56 f56_50 y_op
  by_cases g0 : k = 0
  · rw [if_pos (e0.mpr g0), if_pos g0]; rfl
  · rw [if_neg (fun q => g0 (e0.mp q)), if_neg g0]
    by_cases g1 : k = 1
    · rw [if_pos (e1.mpr g1), if_pos g1]; rfl
    · rw [if_neg (fun q => g1 (e1.mp q)), if_neg g1]
      by_cases g2 : k = 2
      · rw [if_pos (e2.mpr g2), if_pos g2]; rfl
      · rw [if_neg (fun q => g2 (e2.mp q)), if_neg g2]
        by_cases g3 : x < y
        · rw [if_pos g3, if_pos g3]; rfl
        · rw [if_neg g3, if_neg g3]; rfl
theorem y_slot {f sl : Nat} {x : Int32} {l : Nat} (h : sl = 1 ∧ x = -1 ∨ sl = 0 ∧ x = -2 ∨ ∃ j, sl = j + 2 ∧ x = nI j ∧ j < l) : nI f * 62 + x + 2 = nI (f * 62 + sl) := by
  rw [show nI f * 62 = nI (f * 62) from z_mull f 62]
  rcases h with ⟨rfl, rfl⟩ | ⟨rfl, rfl⟩ | ⟨j, rfl, rfl, _⟩
  · rw [Int32.add_assoc, show (-1 : Int32) + 2 = 1 from by decide]; exact z_addl _ 1
  · rw [Int32.add_assoc, show (-2 : Int32) + 2 = 0 from by decide]; exact z_addl _ 0
  · rw [nI_add, z_addl]; rfl
/-- Machine.slot -/
theorem f53_c (hX : z_XS S) (c13 : m 10 13 = nI (a.1 + 1)) {sl l : Nat} {x : Int32} (h : sl = 1 ∧ x = -1 ∨ sl = 0 ∧ x = -2 ∨ ∃ j, sl = j + 2 ∧ x = nI j ∧ j < l) : f53 10 x (z_hp S m) = some (nI (a.1 * 62 + sl), z_hp S m) := by
  have h10k : z_kd S 10 = 5 := hX.k10
  have e1 : nI (a.1 + 1) - 1 = nI a.1 := z_subl (k := 1) (by omega)
  have e2 := y_slot (f := a.1) h
  unfold f53
  simp (disch := ((try simp only [true_or, or_true, hX.k10, hX.k11, hX.k12, hX.k13, hX.k14, hX.k15, hX.k16, hX.k17, hX.k18, hX.k19, hX.k20, hX.l11, hX.l12, hX.l13, hX.l14, hX.l15, hX.l16, hX.l17, hX.l18, hX.l19, hX.l20, h10k]) <;> (try omega))) only [↓reduceIte, ↓z_ite, ↓zR, ↓zB_R, ↓zB_B, ↓zB_ite, ↓zB_gI, ↓zB_pI, ↓zB_pZ, ↓zB_aK, ↓zB_G, ↓zB_lI, ↓zB_lZ, ↓zB_wI, ↓zB_wZ, ↓zB_lIl, ↓zB_wIl, zB_pI, zB_pZ, zB_lI, zB_lZ, zB_wI, zB_wZ, z_addl, z_ladd, z_mull, z_lmul, nI_add, z_subl, Nat.not_lt_zero, z_10, z_01, z_bitc, z_b0, z_b1, ↓zB_Gb, ↓zB_G0, ↓zB_G1, z_eql, z_leq, z_ltl, z_llt, z_eq, z_lt, z_m1lt, hX.k10, hX.k11, hX.k12, hX.k13, hX.k14, hX.k15, hX.k16, hX.k17, hX.k18, hX.k19, hX.k20, hX.l11, hX.l12, hX.l13, hX.l14, hX.l15, hX.l16, hX.l17, hX.l18, hX.l19, hX.l20, h10k, ↓hX.g10_0, ↓hX.g10_1, ↓hX.g10_2, ↓hX.g10_3, ↓hX.g10_4, ↓hX.g10_5, ↓hX.g10_6, ↓hX.g10_7, ↓hX.g10_8, ↓hX.g10_9]
  rw [c13, e1, e2]
/-- what a turn knows of its node -/
def y_cN (S : z_S) (m : z_m) (p : Nat) (P : z_Pg) (h : y_Qh) (a : y_Ac) (s : List y_Ac) (n : Nat) : Prop := y_cG S m p P ∧ y_cP m (y_up1 a :: s) h n a.1 ∧ y_HI P h a.1 ∧ y_CH P h 0 [] ∧ y_AW P h a ∧ (n ≤ 500 ∧ y_ht (a :: s) + (a :: s).length ≤ n ∧ y_qn h + (a :: s).length ≤ n + 1) ∧ a.1 < 20
/-- Machine.read -/
theorem f51_c (hP : y_PG P) (hN : y_cN S m p P h a s n) (hk : y_k P h a = 1) : f51 10 (z_bi p (y_qm h a.1)) (nI a.2.1) (z_hp S m) = some (y_ec (y_rd P h a), z_hp S m) := by
  obtain ⟨⟨hX, hp, lo, hpr, hcp, hT⟩, ⟨_, _, hO, _, c13, hF⟩, hI, _, hW, hn, h20⟩ := hN
  have hw := hP.1.1
  have h24 := hw.2.2.1
  have hm := hI.1 a.1 (Nat.le_refl _)
  have hb := hp.B (k := y_qm h a.1) (by omega)
  have hbk := hb.k
  have h10k : z_kd S 10 = 5 := hX.k10
  have hcb := hcp.2.2.2 _ hm.1 hm.2.1
  have hl60 := hcb.2.2.1
  have hi : a.2.1 < (z_bd P (y_qm h a.1)).length := hW.1
  have hBd : ∀ i, i < (z_bd P (y_qm h a.1)).length → m (z_bi p (y_qm h a.1) + 6) i = z_Bd P (y_qm h a.1) i := fun i hi => ((hT _ hm.1 hm.2.1).2 i hi).2
  have e12 := f12_sp hb hcb hBd hi
  have eB := hBd _ hi
  have e1 : nI (a.1 + 1) - 1 = nI a.1 := z_subl (k := 1) (by omega)
  obtain ⟨q1, q2⟩ := y_rd_ok hP hW hI (Or.inl hk)
  have k1 : z_k (z_bd P (y_qm h a.1)) a.2.1 = 1 := hk
  have h61 : a.2.1 < 61 := by omega
  unfold y_rd
  by_cases b : y_bd P h a < 1000
  · rw [if_pos b]
    obtain ⟨sl, v, r1, r2, _, r3⟩ := q1 b
    have eb : z_isL (z_bd P (y_qm h a.1)) (z_Bd P (y_qm h a.1)) a.2.1 = true := by
      unfold z_isL z_isV; rw [k1, decide_eq_true (show z_Bd P (y_qm h a.1) a.2.1 < 1000 from b)]; rfl
    rw [eb] at e12
    have hsl : sl < 62 := by
      rcases r3 with ⟨g, _⟩ | ⟨g, _⟩ | ⟨j, g, _, hj⟩
      · omega
      · omega
      · have : j < (z_bd P (y_qm h a.1)).length := hj
        omega
    have e53 := f53_c (S := S) hX c13 r3
    have e53 : f53 10 (z_Bd P (y_qm h a.1) a.2.1) (z_hp S m) = some (nI (a.1 * 62 + sl), z_hp S m) := e53
    rw [r1, r2]
    have hix : a.1 * 62 + sl < 1240 := by omega
    have ev := (hF a.1 (Nat.le_refl _)).2.2 sl v hsl r2
    unfold f51
    simp (disch := ((try simp only [true_or, or_true, hX.k10, hX.k11, hX.k12, hX.k13, hX.k14, hX.k15, hX.k16, hX.k17, hX.k18, hX.k19, hX.k20, hX.l11, hX.l12, hX.l13, hX.l14, hX.l15, hX.l16, hX.l17, hX.l18, hX.l19, hX.l20, hb.k, hb.k1, hb.k2, hb.k3, hb.k4, hb.k5, hb.k6, hb.l1, hb.l2, hb.l3, hb.l4, hb.l5, hb.l6, hbk, h10k]) <;> (try omega))) only [↓reduceIte, ↓z_ite, ↓zR, ↓zB_R, ↓zB_B, ↓zB_ite, ↓zB_gI, ↓zB_pI, ↓zB_pZ, ↓zB_aK, ↓zB_G, ↓zB_lI, ↓zB_lZ, ↓zB_wI, ↓zB_wZ, ↓zB_lIl, ↓zB_wIl, zB_pI, zB_pZ, zB_lI, zB_lZ, zB_wI, zB_wZ, z_addl, z_ladd, z_mull, z_lmul, nI_add, z_subl, Nat.not_lt_zero, z_10, z_01, z_bitc, z_b0, z_b1, ↓zB_Gb, ↓zB_G0, ↓zB_G1, z_eql, z_leq, z_ltl, z_llt, z_eq, z_lt, z_m1lt, hX.k10, hX.k11, hX.k12, hX.k13, hX.k14, hX.k15, hX.k16, hX.k17, hX.k18, hX.k19, hX.k20, hX.l11, hX.l12, hX.l13, hX.l14, hX.l15, hX.l16, hX.l17, hX.l18, hX.l19, hX.l20, hb.k, hb.k1, hb.k2, hb.k3, hb.k4, hb.k5, hb.k6, hb.l1, hb.l2, hb.l3, hb.l4, hb.l5, hb.l6, hbk, h10k, ↓hX.g10_0, ↓hX.g10_1, ↓hX.g10_2, ↓hX.g10_3, ↓hX.g10_4, ↓hX.g10_5, ↓hX.g10_6, ↓hX.g10_7, ↓hX.g10_8, ↓hX.g10_9, ↓hb.g0, ↓hb.g1, ↓hb.g2, ↓hb.g3, ↓hb.g4, ↓hb.g5, ↓zB_c e12, zB_c e12, Bool.true_eq_false, h61, eB, ↓zB_c e53, zB_c e53, hix, ev]
    rfl
  · rw [if_neg b]
    obtain ⟨f, c, r1, r2, _, _, _, _⟩ := q2 b
    have eb : z_isL (z_bd P (y_qm h a.1)) (z_Bd P (y_qm h a.1)) a.2.1 = false := by
      unfold z_isL; rw [decide_eq_false (show ¬ z_Bd P (y_qm h a.1) a.2.1 < 1000 from b), Bool.and_false]
    rw [eb] at e12
    have r2 : z_v (z_bd P (y_qm h a.1)) a.2.1 = nI f := r2
    have ev := (hcb.2.2.2.2 _ hi).2.1
    rw [r2] at ev
    have eo := (hF a.1 (Nat.le_refl _)).2.1
    have hon : y_qo h a.1 < 501 := by
      have : y_qn h + (s.length + 1) ≤ n + 1 := hn.2.2
      have := hm.2.2.1
      omega
    have ex : nI (y_qo h a.1) * 16 + nI f = nI (y_qo h a.1 * 16 + f) := by rw [show nI (y_qo h a.1) * 16 = nI (y_qo h a.1 * 16) from z_mull _ 16, nI_add]
    have hix : y_qo h a.1 * 16 + f < 8016 := by omega
    have ef := (hO.2 _ hm.2.2.1).2 f r1
    rw [show y_v P h a = nI f from r2, nI_clamp (by omega)]
    unfold f51
    simp (disch := ((try simp only [true_or, or_true, hX.k10, hX.k11, hX.k12, hX.k13, hX.k14, hX.k15, hX.k16, hX.k17, hX.k18, hX.k19, hX.k20, hX.l11, hX.l12, hX.l13, hX.l14, hX.l15, hX.l16, hX.l17, hX.l18, hX.l19, hX.l20, hb.k, hb.k1, hb.k2, hb.k3, hb.k4, hb.k5, hb.k6, hb.l1, hb.l2, hb.l3, hb.l4, hb.l5, hb.l6, hbk, h10k]) <;> (try omega))) only [↓reduceIte, ↓z_ite, ↓zR, ↓zB_R, ↓zB_B, ↓zB_ite, ↓zB_gI, ↓zB_pI, ↓zB_pZ, ↓zB_aK, ↓zB_G, ↓zB_lI, ↓zB_lZ, ↓zB_wI, ↓zB_wZ, ↓zB_lIl, ↓zB_wIl, zB_pI, zB_pZ, zB_lI, zB_lZ, zB_wI, zB_wZ, z_addl, z_ladd, z_mull, z_lmul, nI_add, z_subl, Nat.not_lt_zero, z_10, z_01, z_bitc, z_b0, z_b1, ↓zB_Gb, ↓zB_G0, ↓zB_G1, z_eql, z_leq, z_ltl, z_llt, z_eq, z_lt, z_m1lt, hX.k10, hX.k11, hX.k12, hX.k13, hX.k14, hX.k15, hX.k16, hX.k17, hX.k18, hX.k19, hX.k20, hX.l11, hX.l12, hX.l13, hX.l14, hX.l15, hX.l16, hX.l17, hX.l18, hX.l19, hX.l20, hb.k, hb.k1, hb.k2, hb.k3, hb.k4, hb.k5, hb.k6, hb.l1, hb.l2, hb.l3, hb.l4, hb.l5, hb.l6, hbk, h10k, ↓hX.g10_0, ↓hX.g10_1, ↓hX.g10_2, ↓hX.g10_3, ↓hX.g10_4, ↓hX.g10_5, ↓hX.g10_6, ↓hX.g10_7, ↓hX.g10_8, ↓hX.g10_9, ↓hb.g0, ↓hb.g1, ↓hb.g2, ↓hb.g3, ↓hb.g4, ↓hb.g5, ↓zB_c e12, zB_c e12, h61, c13, e1, h20, eo, ev, ex, hix, ef]
/-- Machine.write -/
theorem f52_c (hP : y_PG P) (hN : y_cN S m p P h a s n) (hk : y_k P h a = 6) {v : y_V} {x : Int32} (hx : x = y_ec v) : ∃ m', f52 10 (z_bi p (y_qm h a.1)) (nI a.2.1) x (z_hp S m) = some ((), z_hp S m') ∧ y_cF m' (y_wr P h a v) a.1 ∧ y_cO m' (y_wr P h a v) ∧ ∀ b, b ≠ 18 → b ≠ 20 → m' b = m b := by
  obtain ⟨⟨hX, hp, lo, hpr, hcp, hT⟩, ⟨_, _, hO, _, c13, hF⟩, hI, _, hW, hn, h20⟩ := hN
  have hw := hP.1.1
  have h24 := hw.2.2.1
  have hm := hI.1 a.1 (Nat.le_refl _)
  have hb := hp.B (k := y_qm h a.1) (by omega)
  have hbk := hb.k
  have h10k : z_kd S 10 = 5 := hX.k10
  have hcb := hcp.2.2.2 _ hm.1 hm.2.1
  have hl60 := hcb.2.2.1
  have hi : a.2.1 < (z_bd P (y_qm h a.1)).length := hW.1
  have hBd : ∀ i, i < (z_bd P (y_qm h a.1)).length → m (z_bi p (y_qm h a.1) + 6) i = z_Bd P (y_qm h a.1) i := fun i hi => ((hT _ hm.1 hm.2.1).2 i hi).2
  have e12 := f12_sp hb hcb hBd hi
  have eB := hBd _ hi
  have e1 : nI (a.1 + 1) - 1 = nI a.1 := z_subl (k := 1) (by omega)
  obtain ⟨q1, q2⟩ := y_rd_ok hP hW hI (Or.inr hk)
  have k1 : z_k (z_bd P (y_qm h a.1)) a.2.1 = 6 := hk
  have h61 : a.2.1 < 61 := by omega
  unfold y_wr
  by_cases b : y_bd P h a < 1000
  · obtain ⟨sl, v0, r1, r2, _, r3⟩ := q1 b
    have eb : z_isL (z_bd P (y_qm h a.1)) (z_Bd P (y_qm h a.1)) a.2.1 = true := by
      unfold z_isL z_isV; rw [k1, decide_eq_true (show z_Bd P (y_qm h a.1) a.2.1 < 1000 from b)]; rfl
    rw [eb] at e12
    have hsl : sl < 62 := by
      rcases r3 with ⟨g, _⟩ | ⟨g, _⟩ | ⟨j, g, _, hj⟩
      · omega
      · omega
      · have : j < (z_bd P (y_qm h a.1)).length := hj
        omega
    have e53 : f53 10 (z_Bd P (y_qm h a.1) a.2.1) (z_hp S m) = some (nI (a.1 * 62 + sl), z_hp S m) := f53_c (S := S) hX c13 r3
    have hix : a.1 * 62 + sl < 1240 := by omega
    rw [if_pos b, r1]
    refine ⟨z_up m 18 (a.1 * 62 + sl) x, ?_, fun f hf => ?_, y_cO_fr (by rw [z_up_row (by decide)]) (z_up_row (by decide)) (z_up_row (by decide)) hO, fun b x _ => z_up_row x⟩
    · unfold f52 f52_54
      simp (disch := ((try simp only [true_or, or_true, hX.k10, hX.k11, hX.k12, hX.k13, hX.k14, hX.k15, hX.k16, hX.k17, hX.k18, hX.k19, hX.k20, hX.l11, hX.l12, hX.l13, hX.l14, hX.l15, hX.l16, hX.l17, hX.l18, hX.l19, hX.l20, hb.k, hb.k1, hb.k2, hb.k3, hb.k4, hb.k5, hb.k6, hb.l1, hb.l2, hb.l3, hb.l4, hb.l5, hb.l6, hbk, h10k]) <;> (try omega))) only [↓reduceIte, ↓z_ite, ↓zR, ↓zB_R, ↓zB_B, ↓zB_ite, ↓zB_gI, ↓zB_pI, ↓zB_pZ, ↓zB_aK, ↓zB_G, ↓zB_lI, ↓zB_lZ, ↓zB_wI, ↓zB_wZ, ↓zB_lIl, ↓zB_wIl, zB_pI, zB_pZ, zB_lI, zB_lZ, zB_wI, zB_wZ, z_addl, z_ladd, z_mull, z_lmul, nI_add, z_subl, Nat.not_lt_zero, z_10, z_01, z_bitc, z_b0, z_b1, ↓zB_Gb, ↓zB_G0, ↓zB_G1, z_eql, z_leq, z_ltl, z_llt, z_eq, z_lt, z_m1lt, hX.k10, hX.k11, hX.k12, hX.k13, hX.k14, hX.k15, hX.k16, hX.k17, hX.k18, hX.k19, hX.k20, hX.l11, hX.l12, hX.l13, hX.l14, hX.l15, hX.l16, hX.l17, hX.l18, hX.l19, hX.l20, hb.k, hb.k1, hb.k2, hb.k3, hb.k4, hb.k5, hb.k6, hb.l1, hb.l2, hb.l3, hb.l4, hb.l5, hb.l6, hbk, h10k, ↓hX.g10_0, ↓hX.g10_1, ↓hX.g10_2, ↓hX.g10_3, ↓hX.g10_4, ↓hX.g10_5, ↓hX.g10_6, ↓hX.g10_7, ↓hX.g10_8, ↓hX.g10_9, ↓hb.g0, ↓hb.g1, ↓hb.g2, ↓hb.g3, ↓hb.g4, ↓hb.g5, ↓zB_c e12, zB_c e12, Bool.true_eq_false, h61, eB, ↓zB_c e53, zB_c e53, hix]
    · obtain ⟨w1, w2, w3⟩ := hF f hf
      refine ⟨by rw [z_up_row (by decide)]; exact w1, by rw [z_up_row (by decide)]; exact w2, fun s' v' hs' hv' => ?_⟩
      have hv' : (if f = a.1 ∧ s' = sl then some v else y_ql h f s') = some v' := hv'
      by_cases g : f = a.1 ∧ s' = sl
      · rw [if_pos g] at hv'
        obtain rfl := Option.some.inj hv'
        rw [g.1, g.2, z_up_s]; exact hx
      · rw [if_neg g] at hv'
        rw [z_up_b (by omega)]
        exact w3 s' v' hs' hv'
  · obtain ⟨f, c, r1, r2, _, _, _, _⟩ := q2 b
    have eb : z_isL (z_bd P (y_qm h a.1)) (z_Bd P (y_qm h a.1)) a.2.1 = false := by
      unfold z_isL; rw [decide_eq_false (show ¬ z_Bd P (y_qm h a.1) a.2.1 < 1000 from b), Bool.and_false]
    rw [eb] at e12
    have r2 : z_v (z_bd P (y_qm h a.1)) a.2.1 = nI f := r2
    have ev := (hcb.2.2.2.2 _ hi).2.1
    rw [r2] at ev
    have eo := (hF a.1 (Nat.le_refl _)).2.1
    have hon : y_qo h a.1 < 501 := by
      have : y_qn h + (s.length + 1) ≤ n + 1 := hn.2.2
      have := hm.2.2.1
      omega
    have ex : nI (y_qo h a.1) * 16 + nI f = nI (y_qo h a.1 * 16 + f) := by rw [show nI (y_qo h a.1) * 16 = nI (y_qo h a.1 * 16) from z_mull _ 16, nI_add]
    have hix : y_qo h a.1 * 16 + f < 8016 := by omega
    rw [if_neg b, show y_v P h a = nI f from r2, nI_clamp (by omega)]
    refine ⟨z_up m 20 (y_qo h a.1 * 16 + f) x, ?_, y_cF_fr (fun b hb => z_up_row (by omega)) hF, ⟨by rw [z_up_row (by decide)]; exact hO.1, fun o ho => ⟨by rw [z_up_row (by decide)]; exact (hO.2 o ho).1, fun n' hn' => ?_⟩⟩, fun b _ y => z_up_row y⟩
    · unfold f52 f52_54
      simp (disch := ((try simp only [true_or, or_true, hX.k10, hX.k11, hX.k12, hX.k13, hX.k14, hX.k15, hX.k16, hX.k17, hX.k18, hX.k19, hX.k20, hX.l11, hX.l12, hX.l13, hX.l14, hX.l15, hX.l16, hX.l17, hX.l18, hX.l19, hX.l20, hb.k, hb.k1, hb.k2, hb.k3, hb.k4, hb.k5, hb.k6, hb.l1, hb.l2, hb.l3, hb.l4, hb.l5, hb.l6, hbk, h10k]) <;> (try omega))) only [↓reduceIte, ↓z_ite, ↓zR, ↓zB_R, ↓zB_B, ↓zB_ite, ↓zB_gI, ↓zB_pI, ↓zB_pZ, ↓zB_aK, ↓zB_G, ↓zB_lI, ↓zB_lZ, ↓zB_wI, ↓zB_wZ, ↓zB_lIl, ↓zB_wIl, zB_pI, zB_pZ, zB_lI, zB_lZ, zB_wI, zB_wZ, z_addl, z_ladd, z_mull, z_lmul, nI_add, z_subl, Nat.not_lt_zero, z_10, z_01, z_bitc, z_b0, z_b1, ↓zB_Gb, ↓zB_G0, ↓zB_G1, z_eql, z_leq, z_ltl, z_llt, z_eq, z_lt, z_m1lt, hX.k10, hX.k11, hX.k12, hX.k13, hX.k14, hX.k15, hX.k16, hX.k17, hX.k18, hX.k19, hX.k20, hX.l11, hX.l12, hX.l13, hX.l14, hX.l15, hX.l16, hX.l17, hX.l18, hX.l19, hX.l20, hb.k, hb.k1, hb.k2, hb.k3, hb.k4, hb.k5, hb.k6, hb.l1, hb.l2, hb.l3, hb.l4, hb.l5, hb.l6, hbk, h10k, ↓hX.g10_0, ↓hX.g10_1, ↓hX.g10_2, ↓hX.g10_3, ↓hX.g10_4, ↓hX.g10_5, ↓hX.g10_6, ↓hX.g10_7, ↓hX.g10_8, ↓hX.g10_9, ↓hb.g0, ↓hb.g1, ↓hb.g2, ↓hb.g3, ↓hb.g4, ↓hb.g5, ↓zB_c e12, zB_c e12, h61, c13, e1, h20, eo, ev, ex, hix]
    · show z_up m 20 (y_qo h a.1 * 16 + f) x 20 (o * 16 + n') = y_ec (if o = y_qo h a.1 ∧ n' = f then v else y_qf h o n')
      by_cases g : o = y_qo h a.1 ∧ n' = f
      · rw [if_pos g, g.1, g.2, z_up_s]; exact hx
      · rw [if_neg g, z_up_b (by omega)]
        exact (hO.2 o ho).2 n' hn'
end
