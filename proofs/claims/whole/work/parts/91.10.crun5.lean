-- deps: 91.00.run 91.01.run2 91.02.run3 91.03.run4 91.04.run5 91.05.run6 91.06.crun 91.07.crun2 91.08.crun3 91.09.crun4
/-! a run: the class's machine, calling, applying -/
section
variable {P : z_Pg} {h : y_Qh} {k0 : Nat} {n : Nat} {out : y_V} {a : y_Ac} {s : List y_Ac} {S : z_S} {m : z_m} {p : Nat}
/-- Machine.enter -/
theorem f47_c (hX : z_XS S) {f q o : Nat} {fst snd : Int32} {x y : Option y_V} (hC : m 10 11 = nI s.length ∧ m 10 15 = nI n ∧ m 10 16 = -1 ∧ m 10 17 = 0) (hS : y_cS m s) (hO : y_cO m h) (c12 : m 10 12 = nI (y_ht s)) (c13 : m 10 13 = nI f) (hF : ∀ g, g < f → m 16 g = nI (y_qm h g) ∧ m 17 g = nI (y_qo h g) ∧ ∀ s v, s < 62 → y_ql h g s = some v → m 18 (g * 62 + s) = y_ec v) (hl : s.length ≤ 500) (hn : n ≤ 500) (h20 : f < 20) (hx : ∀ v, x = some v → fst = y_ec v) (hy : ∀ v, y = some v → snd = y_ec v) : ∃ m', f47 10 (nI q) (nI o) fst snd (z_hp S m) = some ((), z_hp S m') ∧ y_cX m' (y_st s (y_en h f q o x y) n out f 0) ∧ y_cR m m' := by
  have h10k : z_kd S 10 = 5 := hX.k10
  generalize hm1 : z_up (z_up (z_up (z_up (z_up m 16 f (nI q)) 17 f (nI o)) 18 (f * 62 + 1) fst) 18 (f * 62) snd) 10 13 (nI (f + 1)) = m1
  have fr1 : ∀ b, b ≠ 10 → b ≠ 16 → b ≠ 17 → b ≠ 18 → m1 b = m b := fun b x1 x2 x3 x4 => by rw [← hm1, z_up_row x1, z_up_row x4, z_up_row x4, z_up_row x3, z_up_row x2]
  have fr10 : ∀ j, j ≠ 13 → m1 10 j = m 10 j := fun j x1 => by rw [← hm1, z_up_b x1, z_up_row (by decide), z_up_row (by decide), z_up_row (by decide), z_up_row (by decide)]
  have e16 : ∀ j, m1 16 j = if j = f then nI q else m 16 j := fun j => by
    rw [← hm1, z_up_row (by decide), z_up_row (by decide), z_up_row (by decide), z_up_row (by decide), z_up_k]
  have e17 : ∀ j, m1 17 j = if j = f then nI o else m 17 j := fun j => by
    rw [← hm1, z_up_row (by decide), z_up_row (by decide), z_up_row (by decide), z_up_k, z_up_row (by decide)]
  have e18 : ∀ j, m1 18 j = if j = f * 62 then snd else if j = f * 62 + 1 then fst else m 18 j := fun j => by
    rw [← hm1, z_up_row (by decide), z_up_k, z_up_k, z_up_row (by decide), z_up_row (by decide)]
  have hC1 : y_cP m1 s (y_en h f q o x y) n f := by
    refine ⟨⟨by rw [fr10 11 (by decide)]; exact hC.1, by rw [fr10 15 (by decide)]; exact hC.2.1, by rw [fr10 16 (by decide)]; exact hC.2.2.1, by rw [fr10 17 (by decide)]; exact hC.2.2.2⟩, y_cS_fr (fun b x1 x2 j _ => by rw [fr1 b (by omega) (by omega) (by omega) (by omega)]) (fun j _ => by rw [fr1 15 (by decide) (by decide) (by decide) (by decide)]) hS, y_cO_fr (fr10 14 (by decide)) (fr1 19 (by decide) (by decide) (by decide) (by decide)) (fr1 20 (by decide) (by decide) (by decide) (by decide)) hO, by rw [fr10 12 (by decide)]; exact c12, by rw [← hm1, z_up_s], fun g hg => ?_⟩
    rw [e16, e17]
    show (if g = f then nI q else m 16 g) = nI (if g = f then q else y_qm h g) ∧ (if g = f then nI o else m 17 g) = nI (if g = f then o else y_qo h g) ∧ ∀ s v, s < 62 → (if g = f then (if s = 1 then x else if s = 0 then y else none) else y_ql h g s) = some v → m1 18 (g * 62 + s) = y_ec v
    by_cases gg : g = f
    · rw [if_pos gg, if_pos gg, if_pos gg, if_pos gg]
      refine ⟨rfl, rfl, fun s v hs hv => ?_⟩
      rw [if_pos gg] at hv
      rw [e18, gg]
      by_cases s1 : s = 1
      · rw [if_pos s1] at hv
        rw [s1, if_neg (by omega), if_pos rfl]; exact hx v hv
      · rw [if_neg s1] at hv
        by_cases s0 : s = 0
        · rw [if_pos s0] at hv
          rw [s0, if_pos (by omega)]; exact hy v hv
        · rw [if_neg s0] at hv; cases hv
    · rw [if_neg gg, if_neg gg, if_neg gg, if_neg gg]
      obtain ⟨w1, w2, w3⟩ := hF g (by omega)
      refine ⟨w1, w2, fun s v hs hv => ?_⟩
      rw [if_neg gg] at hv
      rw [e18, if_neg (by omega), if_neg (by omega)]
      exact w3 s v hs hv
  obtain ⟨m', e48, x1, r1⟩ := f48_c (out := out) hX hC1 hl hn 0
  have e48 : f48 10 0 (z_hp S m1) = some ((), z_hp S m') := e48
  refine ⟨m', ?_, x1, fun b hb => (r1 b hb).trans (fr1 b (by omega) (by omega) (by omega) (by omega))⟩
  have g20 : nI f < 20 := (nI_ltI (b := 20) (by omega) (by decide)).mpr h20
  have i1 : nI f * 62 + 1 = nI (f * 62 + 1) := by rw [show nI f * 62 = nI (f * 62) from z_mull f 62]; exact z_addl _ 1
  have i0 : nI f * 62 = nI (f * 62) := z_mull f 62
  have b1 : f * 62 + 1 < 1240 := by omega
  have b0 : f * 62 < 1240 := by omega
  have r16 : ∀ (m0 : z_m) (j : Nat) (v : Int32) (c : Nat), z_up m0 16 j v 10 c = m0 10 c := fun m0 j v c => by rw [z_up_row (by decide)]
  have r17 : ∀ (m0 : z_m) (j : Nat) (v : Int32) (c : Nat), z_up m0 17 j v 10 c = m0 10 c := fun m0 j v c => by rw [z_up_row (by decide)]
  have r18 : ∀ (m0 : z_m) (j : Nat) (v : Int32) (c : Nat), z_up m0 18 j v 10 c = m0 10 c := fun m0 j v c => by rw [z_up_row (by decide)]
  unfold f47
  simp (disch := ((try simp only [true_or, or_true, hX.k10, hX.k11, hX.k12, hX.k13, hX.k14, hX.k15, hX.k16, hX.k17, hX.k18, hX.k19, hX.k20, hX.l11, hX.l12, hX.l13, hX.l14, hX.l15, hX.l16, hX.l17, hX.l18, hX.l19, hX.l20, h10k]) <;> (try omega))) only [↓reduceIte, ↓z_ite, ↓zR, ↓zB_R, ↓zB_B, ↓zB_ite, ↓zB_gI, ↓zB_pI, ↓zB_pZ, ↓zB_aK, ↓zB_G, ↓zB_lI, ↓zB_lZ, ↓zB_wI, ↓zB_wZ, ↓zB_lIl, ↓zB_wIl, zB_pI, zB_pZ, zB_lI, zB_lZ, zB_wI, zB_wZ, z_addl, z_ladd, z_mull, z_lmul, nI_add, z_subl, Nat.not_lt_zero, z_10, z_01, z_bitc, z_b0, z_b1, ↓zB_Gb, ↓zB_G0, ↓zB_G1, z_eql, z_leq, z_ltl, z_llt, z_eq, z_lt, z_m1lt, hX.k10, hX.k11, hX.k12, hX.k13, hX.k14, hX.k15, hX.k16, hX.k17, hX.k18, hX.k19, hX.k20, hX.l11, hX.l12, hX.l13, hX.l14, hX.l15, hX.l16, hX.l17, hX.l18, hX.l19, hX.l20, h10k, ↓hX.g10_0, ↓hX.g10_1, ↓hX.g10_2, ↓hX.g10_3, ↓hX.g10_4, ↓hX.g10_5, ↓hX.g10_6, ↓hX.g10_7, ↓hX.g10_8, ↓hX.g10_9, c13, g20, h20, r16, r17, r18, i1, i0, b1, b0, hm1, ↓zB_c e48, zB_c e48]
theorem f47_n (hX : z_XS S) {f q o : Nat} {fst snd : Int32} {h' : y_Qh} {s' : List y_Ac} (hC : m 10 15 = nI n ∧ m 10 17 = 0) (c13 : m 10 13 = nI f) (h20 : f = 20) : ∃ m', f47 10 (nI q) (nI o) fst snd (z_hp S m) = some ((), z_hp S m') ∧ y_cX m' (s', h', n, 5, 0, out) ∧ y_cR m m' := by
  have h10k : z_kd S 10 = 5 := hX.k10
  refine ⟨z_up m 10 16 5, ?_, ⟨z_up_s _ _ _ _, by rw [z_up_b (by decide)]; exact hC.2, by rw [z_up_b (by decide)]; exact hC.1, fun q => absurd (show (5 : Int32) = -1 from q) (by decide)⟩, fun a ha => z_up_row (by omega)⟩
  unfold f47
  have g20 : ¬ nI f < 20 := by rw [h20]; decide
  simp (disch := ((try simp only [true_or, or_true, hX.k10, hX.k11, hX.k12, hX.k13, hX.k14, hX.k15, hX.k16, hX.k17, hX.k18, hX.k19, hX.k20, hX.l11, hX.l12, hX.l13, hX.l14, hX.l15, hX.l16, hX.l17, hX.l18, hX.l19, hX.l20, h10k]) <;> (try omega))) only [↓reduceIte, ↓z_ite, ↓zR, ↓zB_R, ↓zB_B, ↓zB_ite, ↓zB_gI, ↓zB_pI, ↓zB_pZ, ↓zB_aK, ↓zB_G, ↓zB_lI, ↓zB_lZ, ↓zB_wI, ↓zB_wZ, ↓zB_lIl, ↓zB_wIl, zB_pI, zB_pZ, zB_lI, zB_lZ, zB_wI, zB_wZ, z_addl, z_ladd, z_mull, z_lmul, nI_add, z_subl, Nat.not_lt_zero, z_10, z_01, z_bitc, z_b0, z_b1, ↓zB_Gb, ↓zB_G0, ↓zB_G1, z_eql, z_leq, z_ltl, z_llt, z_eq, z_lt, z_m1lt, hX.k10, hX.k11, hX.k12, hX.k13, hX.k14, hX.k15, hX.k16, hX.k17, hX.k18, hX.k19, hX.k20, hX.l11, hX.l12, hX.l13, hX.l14, hX.l15, hX.l16, hX.l17, hX.l18, hX.l19, hX.l20, h10k, ↓hX.g10_0, ↓hX.g10_1, ↓hX.g10_2, ↓hX.g10_3, ↓hX.g10_4, ↓hX.g10_5, ↓hX.g10_6, ↓hX.g10_7, ↓hX.g10_8, ↓hX.g10_9, c13, g20]
theorem y_vt_cls2 (hw : z_wf P) {c : Nat} {v : y_V} (hc : c < z_nc P) (h1 : y_vt P h (nI c) v) (hq : y_qn h ≤ 501) : (y_ec v = -1) = (v.1 = 2) := by
  unfold y_ec
  by_cases g : v.1 = 2
  · rw [if_pos g]; simp [g]
  · rw [if_neg g]
    obtain ⟨_, o, ho, e, _⟩ := y_vt_cls hw hc h1 g
    rw [e]
    simp [g, z_nI_m1 (d := o) (by omega)]
/-- Machine.dispatch -/
theorem f57_c (hP : y_PG P) (hQ : y_QI P k0 (a :: s) h n out) (hG : y_cG S m p P) (hC : y_cP m (y_up1 a :: s) h n a.1) (hk : y_k P h a = 7) (hst : a.2.2.1 = y_p P h a) (hv0 : ¬ (y_g a.2.2.2 0).1 = 2) : ∃ m', f57 10 (z_bi p (y_qm h a.1)) (nI a.2.1) (nI (y_ht s)) (z_hp S m) = some ((), z_hp S m') ∧ y_cX m' (if a.1 + 1 = 20 then (y_up1 a :: s, h, n, 5, 0, out) else y_st (y_up1 a :: s) (y_en h (a.1 + 1) (y_callee P h a) (y_o a.2.2.2) (a.2.2.2[1]?) (a.2.2.2[2]?)) n out (a.1 + 1) 0) ∧ y_cR m m' := by
  have hQ0 := hQ
  have hC0 := hC
  obtain ⟨hX, hp, lo, hpr, hcp, hT⟩ := hG
  obtain ⟨hn, hx, hCH, hI, h20⟩ := hQ
  obtain ⟨⟨c11, c15, c16, c17⟩, hS, hO, c12, c13, hF⟩ := hC
  have hw := hP.1.1
  have h24 := hw.2.2.1
  have h6 := hw.1.1
  have hm := hI.1 a.1 (Nat.le_refl _)
  have hB := hw.2.2.2.2.1 _ hm.1
  have hb := hp.B (k := y_qm h a.1) (by omega)
  have hbk := hb.k
  have hpk := hp.k
  have h10k : z_kd S 10 = 5 := hX.k10
  have hcb := hcp.2.2.2 _ hm.1 hm.2.1
  have hl60 := hcb.2.2.1
  have hi : a.2.1 < (z_bd P (y_qm h a.1)).length := hCH.1.1
  have h61 : a.2.1 < 61 := by omega
  obtain ⟨_, ev, ep⟩ := hcb.2.2.2.2 _ hi
  have hx : a.2.2.2.length = a.2.2.1 := by rw [hx]; unfold y_xc; rw [hk, if_neg (fun y => absurd y.1 (by decide))]
  have n2 : y_ht s + a.2.2.2.length + (s.length + 1) ≤ n := hn.2.1
  have hlen : (y_up1 a :: s).length ≤ 500 := by show s.length + 1 ≤ 500; omega
  -- what is called
  have hd : ∃ o q, y_o a.2.2.2 = o ∧ o < y_qn h ∧ (y_g a.2.2.2 0) = (1, nI o) ∧ z_fm P (y_qc h o) (y_v P h a) (z_a (y_l P h a) a.2.1) = some q ∧ y_callee P h a = q ∧ z_cnt P q + 1 = y_p P h a ∧ q < z_nm P := by
    by_cases g : a.1 + 1 = 20
    · have hr := hP.rt _ hm.1 hm.2.1
      have k7 : z_k (z_bd P (y_qm h a.1)) a.2.1 = 7 := hk
      obtain ⟨c, q, hc, t1, fm, _, hq, hiq, hbq, tq, t2, t3⟩ := z_call hw hm.1 hr hi k7
      have hp0 : 0 < y_p P h a := by
        show 0 < z_p (z_bd P (y_qm h a.1)) a.2.1
        rcases z_pn_ka hB hi k7 with g | g | g <;> omega
      have hv := hCH.1.2.2.2 0 (by omega)
      have rq0 : y_rq P h a 0 = z_Ty P (y_qm h a.1) (y_pt P h a 0) := by
        unfold y_rq
        rw [if_neg]
        rw [hk]
        rintro (⟨g, _⟩ | g | ⟨_, g⟩)
        · exact absurd g (by decide)
        · exact absurd g (by decide)
        · omega
      rw [rq0, show z_Ty P (y_qm h a.1) (y_pt P h a 0) = nI c from t1] at hv
      obtain ⟨v1, o, ho, v2, hco, hbo⟩ := y_vt_cls hw hc hv hv0
      have hoe : y_o a.2.2.2 = o := by unfold y_o; rw [v2, nI_clamp (by
        have : y_qn h + (s.length + 1) ≤ n + 1 := hn.2.2
        omega)]
      obtain ⟨q', g1, g2, g3, g4, g5, g6, g7⟩ := z_fm_dn hP hc hco hbo fm
      refine ⟨o, q', hoe, ho, Prod.ext v1 v2, g1, by unfold y_callee; rw [hoe, show z_fm P (y_qc h o) (y_v P h a) (z_a (y_l P h a) a.2.1) = some q' from g1]; rfl, ?_, g2⟩
      rw [g5]
      have i2 := hiq
      unfold z_isc at i2
      simp only [Bool.and_eq_true, beq_iff_eq] at i2
      show (z_hd P q 3).toNatClampNeg + 1 = z_pn (z_k (z_bd P (y_qm h a.1)) a.2.1) (z_a (z_bd P (y_qm h a.1)) a.2.1)
      rw [k7, i2.2.2]
      show _ = 1 + _
      omega
    · obtain ⟨o, q, w1, w2, w3, w4, w5, w6, w7, _, _⟩ := y_call_ok (out := out) hP hCH hn hI hk hst hx hv0 (by omega)
      exact ⟨o, q, w1, w2, w3, w4, w5, w6, w7⟩
  obtain ⟨o, q, w1, w2, w3, w4, w5, w6, w7⟩ := hd
  have hqn : y_qn h + (s.length + 1) ≤ n + 1 := hn.2.2
  have e0 : m 15 (y_ht s) = nI o := by
    have : m 15 (y_ht s + 0) = y_ec (y_g a.2.2.2 0) := hS.1.2.2.2.2 0 (by show 0 < a.2.2.2.length; omega)
    rw [w3] at this; exact this
  obtain ⟨oc, _⟩ := hO.2 o w2
  have hco := (hI.2.2 o w2).1
  have e90 := f90_sp (S := S) hp hcp hw hco (y_v P h a) (z_a (y_l P h a) a.2.1)
  rw [w4] at e90
  have e90 : f90 p (nI (y_qc h o)) (z_v (z_bd P (y_qm h a.1)) a.2.1) (z_a (z_bd P (y_qm h a.1)) a.2.1) (z_hp S m) = some (nI q, z_hp S m) := e90
  have ept : nI (z_p (z_bd P (y_qm h a.1)) a.2.1) - 1 = nI (z_cnt P q) := by
    rw [show z_p (z_bd P (y_qm h a.1)) a.2.1 = z_cnt P q + 1 from w6.symm]; exact z_subl (k := 1) (by omega)
  have ear : nI (z_cnt P q) = z_a (z_bd P (y_qm h a.1)) a.2.1 := by
    obtain ⟨_, g2, _⟩ := (z_fm_some hw hco).mp w4
    unfold z_isc at g2
    simp only [Bool.and_eq_true, beq_iff_eq] at g2
    rw [← z_c3 hw w7, g2.2.2]; rfl
  have e90 : f90 p (nI (y_qc h o)) (z_v (z_bd P (y_qm h a.1)) a.2.1) (nI (z_cnt P q)) (z_hp S m) = some (nI q, z_hp S m) := by rw [ear]; exact e90
  have hct : z_cnt P q ≤ 2 := (hw.2.2.2.1 q w7).2.2.2.1.1
  have hgj : ∀ j v, a.2.2.2[j]? = some v → j < a.2.2.2.length ∧ y_g a.2.2.2 j = v := fun j v hj => by
    have := (List.getElem?_eq_some_iff.mp hj).1
    refine ⟨this, ?_⟩
    unfold y_g
    rw [List.getD_eq_getElem?_getD, hj]; rfl
  have hon : o < 501 := by omega
  have hh : y_ht s < 501 := by omega
  -- the values given
  have hvj : ∀ j, j < a.2.2.2.length → m 15 (y_ht s + j) = y_ec (y_g a.2.2.2 j) := fun j hj => hS.1.2.2.2.2 j hj
  have fin : ∀ fst snd : Int32, (∀ v, a.2.2.2[1]? = some v → fst = y_ec v) → (∀ v, a.2.2.2[2]? = some v → snd = y_ec v) → ∃ m', f47 10 (nI q) (nI o) fst snd (z_hp S m) = some ((), z_hp S m') ∧ y_cX m' (if a.1 + 1 = 20 then (y_up1 a :: s, h, n, 5, 0, out) else y_st (y_up1 a :: s) (y_en h (a.1 + 1) (y_callee P h a) (y_o a.2.2.2) (a.2.2.2[1]?) (a.2.2.2[2]?)) n out (a.1 + 1) 0) ∧ y_cR m m' := fun fst snd hf hs => by
    rw [w1, w5]
    by_cases g : a.1 + 1 = 20
    · rw [if_pos g]
      exact f47_n hX ⟨c15, c17⟩ c13 g
    · rw [if_neg g]
      exact f47_c hX ⟨c11, c15, c16, c17⟩ hS hO c12 c13 (fun g hg => hF g (by omega)) hlen hn.1 (by omega) hf hs
  have c3 : z_cnt P q = 0 ∨ z_cnt P q = 1 ∨ z_cnt P q = 2 := by omega
  rcases c3 with e | e | e
  · obtain ⟨m', e47, x1, r1⟩ := fin 0 0 (fun v hv => by have := (hgj _ _ hv).1; omega) (fun v hv => by have := (hgj _ _ hv).1; omega)
    refine ⟨m', ?_, x1, r1⟩
    rw [e] at e90 ept
    unfold f57 f57_64 f57_82
    have g0 : ¬ (0 : Int32) < nI 0 := by decide
    have g1 : ¬ (1 : Int32) < nI 0 := by decide
    simp (disch := ((try simp only [true_or, or_true, hX.k10, hX.k11, hX.k12, hX.k13, hX.k14, hX.k15, hX.k16, hX.k17, hX.k18, hX.k19, hX.k20, hX.l11, hX.l12, hX.l13, hX.l14, hX.l15, hX.l16, hX.l17, hX.l18, hX.l19, hX.l20, hb.k, hb.k1, hb.k2, hb.k3, hb.k4, hb.k5, hb.k6, hb.l1, hb.l2, hb.l3, hb.l4, hb.l5, hb.l6, hbk, hpk, h10k]) <;> (try omega))) only [↓reduceIte, ↓z_ite, ↓zR, ↓zB_R, ↓zB_B, ↓zB_ite, ↓zB_gI, ↓zB_pI, ↓zB_pZ, ↓zB_aK, ↓zB_G, ↓zB_lI, ↓zB_lZ, ↓zB_wI, ↓zB_wZ, ↓zB_lIl, ↓zB_wIl, zB_pI, zB_pZ, zB_lI, zB_lZ, zB_wI, zB_wZ, z_addl, z_ladd, z_mull, z_lmul, nI_add, z_subl, Nat.not_lt_zero, z_10, z_01, z_bitc, z_b0, z_b1, ↓zB_Gb, ↓zB_G0, ↓zB_G1, z_eql, z_leq, z_ltl, z_llt, z_eq, z_lt, z_m1lt, hX.k10, hX.k11, hX.k12, hX.k13, hX.k14, hX.k15, hX.k16, hX.k17, hX.k18, hX.k19, hX.k20, hX.l11, hX.l12, hX.l13, hX.l14, hX.l15, hX.l16, hX.l17, hX.l18, hX.l19, hX.l20, hb.k, hb.k1, hb.k2, hb.k3, hb.k4, hb.k5, hb.k6, hb.l1, hb.l2, hb.l3, hb.l4, hb.l5, hb.l6, hbk, hpk, h10k, ↓hX.g10_0, ↓hX.g10_1, ↓hX.g10_2, ↓hX.g10_3, ↓hX.g10_4, ↓hX.g10_5, ↓hX.g10_6, ↓hX.g10_7, ↓hX.g10_8, ↓hX.g10_9, ↓hb.g0, ↓hb.g1, ↓hb.g2, ↓hb.g3, ↓hb.g4, ↓hb.g5, hpr, zB_gR h10k, Option.bind_some, h61, ep, hh, e0, hon, oc, ev, ept, ↓zB_c e90, zB_c e90, g0, g1, ↓zB_c e47, zB_c e47]
  · obtain ⟨m', e47, x1, r1⟩ := fin (y_ec (y_g a.2.2.2 1)) 0 (fun v hv => by rw [(hgj _ _ hv).2]) (fun v hv => by have := (hgj _ _ hv).1; omega)
    refine ⟨m', ?_, x1, r1⟩
    rw [e] at e90 ept
    unfold f57 f57_64 f57_82
    have g0 : (0 : Int32) < nI 1 := by decide
    have g1 : ¬ (1 : Int32) < nI 1 := by decide
    have v1 := hvj 1 (by omega)
    have b1 : y_ht s + 1 < 501 := by omega
    simp (disch := ((try simp only [true_or, or_true, hX.k10, hX.k11, hX.k12, hX.k13, hX.k14, hX.k15, hX.k16, hX.k17, hX.k18, hX.k19, hX.k20, hX.l11, hX.l12, hX.l13, hX.l14, hX.l15, hX.l16, hX.l17, hX.l18, hX.l19, hX.l20, hb.k, hb.k1, hb.k2, hb.k3, hb.k4, hb.k5, hb.k6, hb.l1, hb.l2, hb.l3, hb.l4, hb.l5, hb.l6, hbk, hpk, h10k]) <;> (try omega))) only [↓reduceIte, ↓z_ite, ↓zR, ↓zB_R, ↓zB_B, ↓zB_ite, ↓zB_gI, ↓zB_pI, ↓zB_pZ, ↓zB_aK, ↓zB_G, ↓zB_lI, ↓zB_lZ, ↓zB_wI, ↓zB_wZ, ↓zB_lIl, ↓zB_wIl, zB_pI, zB_pZ, zB_lI, zB_lZ, zB_wI, zB_wZ, z_addl, z_ladd, z_mull, z_lmul, nI_add, z_subl, Nat.not_lt_zero, z_10, z_01, z_bitc, z_b0, z_b1, ↓zB_Gb, ↓zB_G0, ↓zB_G1, z_eql, z_leq, z_ltl, z_llt, z_eq, z_lt, z_m1lt, hX.k10, hX.k11, hX.k12, hX.k13, hX.k14, hX.k15, hX.k16, hX.k17, hX.k18, hX.k19, hX.k20, hX.l11, hX.l12, hX.l13, hX.l14, hX.l15, hX.l16, hX.l17, hX.l18, hX.l19, hX.l20, hb.k, hb.k1, hb.k2, hb.k3, hb.k4, hb.k5, hb.k6, hb.l1, hb.l2, hb.l3, hb.l4, hb.l5, hb.l6, hbk, hpk, h10k, ↓hX.g10_0, ↓hX.g10_1, ↓hX.g10_2, ↓hX.g10_3, ↓hX.g10_4, ↓hX.g10_5, ↓hX.g10_6, ↓hX.g10_7, ↓hX.g10_8, ↓hX.g10_9, ↓hb.g0, ↓hb.g1, ↓hb.g2, ↓hb.g3, ↓hb.g4, ↓hb.g5, hpr, zB_gR h10k, Option.bind_some, h61, ep, hh, e0, hon, oc, ev, ept, ↓zB_c e90, zB_c e90, g0, g1, b1, v1, ↓zB_c e47, zB_c e47]
  · obtain ⟨m', e47, x1, r1⟩ := fin (y_ec (y_g a.2.2.2 1)) (y_ec (y_g a.2.2.2 2)) (fun v hv => by rw [(hgj _ _ hv).2]) (fun v hv => by rw [(hgj _ _ hv).2])
    refine ⟨m', ?_, x1, r1⟩
    rw [e] at e90 ept
    unfold f57 f57_64 f57_82
    have g0 : (0 : Int32) < nI 2 := by decide
    have g1 : (1 : Int32) < nI 2 := by decide
    have v1 := hvj 1 (by omega)
    have v2 := hvj 2 (by omega)
    have b1 : y_ht s + 1 < 501 := by omega
    have b2 : y_ht s + 2 < 501 := by omega
    simp (disch := ((try simp only [true_or, or_true, hX.k10, hX.k11, hX.k12, hX.k13, hX.k14, hX.k15, hX.k16, hX.k17, hX.k18, hX.k19, hX.k20, hX.l11, hX.l12, hX.l13, hX.l14, hX.l15, hX.l16, hX.l17, hX.l18, hX.l19, hX.l20, hb.k, hb.k1, hb.k2, hb.k3, hb.k4, hb.k5, hb.k6, hb.l1, hb.l2, hb.l3, hb.l4, hb.l5, hb.l6, hbk, hpk, h10k]) <;> (try omega))) only [↓reduceIte, ↓z_ite, ↓zR, ↓zB_R, ↓zB_B, ↓zB_ite, ↓zB_gI, ↓zB_pI, ↓zB_pZ, ↓zB_aK, ↓zB_G, ↓zB_lI, ↓zB_lZ, ↓zB_wI, ↓zB_wZ, ↓zB_lIl, ↓zB_wIl, zB_pI, zB_pZ, zB_lI, zB_lZ, zB_wI, zB_wZ, z_addl, z_ladd, z_mull, z_lmul, nI_add, z_subl, Nat.not_lt_zero, z_10, z_01, z_bitc, z_b0, z_b1, ↓zB_Gb, ↓zB_G0, ↓zB_G1, z_eql, z_leq, z_ltl, z_llt, z_eq, z_lt, z_m1lt, hX.k10, hX.k11, hX.k12, hX.k13, hX.k14, hX.k15, hX.k16, hX.k17, hX.k18, hX.k19, hX.k20, hX.l11, hX.l12, hX.l13, hX.l14, hX.l15, hX.l16, hX.l17, hX.l18, hX.l19, hX.l20, hb.k, hb.k1, hb.k2, hb.k3, hb.k4, hb.k5, hb.k6, hb.l1, hb.l2, hb.l3, hb.l4, hb.l5, hb.l6, hbk, hpk, h10k, ↓hX.g10_0, ↓hX.g10_1, ↓hX.g10_2, ↓hX.g10_3, ↓hX.g10_4, ↓hX.g10_5, ↓hX.g10_6, ↓hX.g10_7, ↓hX.g10_8, ↓hX.g10_9, ↓hb.g0, ↓hb.g1, ↓hb.g2, ↓hb.g3, ↓hb.g4, ↓hb.g5, hpr, zB_gR h10k, Option.bind_some, h61, ep, hh, e0, hon, oc, ev, ept, ↓zB_c e90, zB_c e90, g0, g1, b1, b2, v1, v2, ↓zB_c e47, zB_c e47]
end
