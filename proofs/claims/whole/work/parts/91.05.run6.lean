-- deps: 91.00.run 91.01.run2 91.02.run3 91.03.run4 91.04.run5
/-! a run: a turn keeps what is so, all of it -/
section
variable {P : z_Pg} {h : y_Qh} {k0 : Nat} {n : Nat} {out : y_V} {a : y_Ac} {s : List y_Ac}
theorem y_lv_e {vs : List y_V} {j : Nat} (h : vs.length = j + 1) : y_lv vs = y_g vs j := by unfold y_lv; rw [h]; rfl
/-- a method begins -/
theorem y_call_ok (hP : y_PG P) (hC : y_CH P h k0 (a :: s)) (hn : n ≤ 500 ∧ y_ht (a :: s) + (a :: s).length ≤ n ∧ y_qn h + (a :: s).length ≤ n + 1) (hI : y_HI P h a.1) (hk : y_k P h a = 7) (hst : a.2.2.1 = y_p P h a) (hx : a.2.2.2.length = a.2.2.1) (hv0 : ¬ (y_g a.2.2.2 0).1 = 2) (h20 : a.1 + 1 < 20) : ∃ o q, y_o a.2.2.2 = o ∧ o < y_qn h ∧ (y_g a.2.2.2 0) = (1, nI o) ∧ z_fm P (y_qc h o) (y_v P h a) (z_a (y_l P h a) a.2.1) = some q ∧ y_callee P h a = q ∧ z_cnt P q + 1 = y_p P h a ∧ q < z_nm P ∧ z_liv P q = true ∧ y_NX P k0 (a :: s) n (y_st (y_up1 a :: s) (y_en h (a.1 + 1) q o (a.2.2.2[1]?) (a.2.2.2[2]?)) n out (a.1 + 1) 0) := by
  have hw := hP.1.1
  have h6 := hw.1.1
  have hff := y_CH_f hC
  have hm := hI.1 a.1 (Nat.le_refl _)
  have hB := hw.2.2.2.2.1 _ hm.1
  have hr := hP.rt _ hm.1 hm.2.1
  have hi : a.2.1 < (z_bd P (y_qm h a.1)).length := hC.1.1
  have k7 : z_k (z_bd P (y_qm h a.1)) a.2.1 = 7 := hk
  obtain ⟨c, q, hc, t1, fm, _, hq, hiq, hbq, tq, t2, t3⟩ := z_call hw hm.1 hr hi k7
  have hp0 : 0 < y_p P h a := by
    show 0 < z_p (z_bd P (y_qm h a.1)) a.2.1
    rcases z_pn_ka hB hi k7 with g | g | g <;> omega
  have hv := hC.1.2.2.2 0 (by omega)
  have rq0 : ∀ j, j < y_p P h a → y_rq P h a j = z_Ty P (y_qm h a.1) (y_pt P h a j) := fun j hj => by
    unfold y_rq
    rw [if_neg]
    rw [hk]
    rintro (⟨g, _⟩ | g | ⟨_, g⟩)
    · exact absurd g (by decide)
    · exact absurd g (by decide)
    · omega
  rw [rq0 0 hp0, show z_Ty P (y_qm h a.1) (y_pt P h a 0) = nI c from t1] at hv
  obtain ⟨v1, o, ho, v2, hco, hbo⟩ := y_vt_cls hw hc hv hv0
  have hoe : y_o a.2.2.2 = o := by unfold y_o; rw [v2, nI_clamp (by
    have := hn.2.2
    have : y_qn h + (s.length + 1) ≤ n + 1 := this
    omega)]
  obtain ⟨q', g1, g2, g3, g4, g5, g6, g7⟩ := z_fm_dn hP hc hco hbo fm
  have hcq : z_cnt P q + 1 = y_p P h a := by
    have i2 := hiq
    unfold z_isc at i2
    simp only [Bool.and_eq_true, beq_iff_eq] at i2
    show (z_hd P q 3).toNatClampNeg + 1 = z_pn (z_k (z_bd P (y_qm h a.1)) a.2.1) (z_a (z_bd P (y_qm h a.1)) a.2.1)
    rw [k7, i2.2.2]
    show _ = 1 + _
    omega
  have hce : y_callee P h a = q' := by
    unfold y_callee
    rw [hoe, show z_fm P (y_qc h o) (y_v P h a) (z_a (y_l P h a) a.2.1) = some q' from g1]; rfl
  refine ⟨o, q', hoe, ho, Prod.ext v1 v2, g1, hce, by rw [g5]; exact hcq, g2, g3, ?_⟩
  have hct2 : z_cnt P q ≤ 2 := (hw.2.2.2.1 q hq).2.2.2.1.1
  generalize hh' : y_en h (a.1 + 1) q' o (a.2.2.2[1]?) (a.2.2.2[2]?) = h'
  have em : ∀ f, f ≤ a.1 → y_qm h' f = y_qm h f := fun f hf => by rw [← hh']; exact if_neg (by omega)
  have eo : ∀ f, f ≤ a.1 → y_qo h' f = y_qo h f := fun f hf => by rw [← hh']; exact if_neg (by omega)
  have el : ∀ f, f ≤ a.1 → y_ql h' f = y_ql h f := fun f hf => by
    rw [← hh']; exact funext (fun s => if_neg (by omega))
  have em1 : y_qm h' (a.1 + 1) = q' := by rw [← hh']; exact if_pos rfl
  have eo1 : y_qo h' (a.1 + 1) = o := by rw [← hh']; exact if_pos rfl
  have el1 : ∀ s, y_ql h' (a.1 + 1) s = if s = 1 then a.2.2.2[1]? else if s = 0 then a.2.2.2[2]? else none := fun s => by rw [← hh']; exact if_pos rfl
  have en : y_qn h' = y_qn h := by rw [← hh']; rfl
  have ec : ∀ o, y_qc h' o = y_qc h o := fun o => by rw [← hh']; rfl
  have ef : ∀ o n, y_qf h' o n = y_qf h o n := fun o n => by rw [← hh']; rfl
  have hl : y_le h h' a.1 := ⟨fun f hf => ⟨em f hf, fun s hs => by rw [el f hf]; exact hs⟩, by rw [en]; exact Nat.le_refl _, fun o _ => ec o⟩
  have hgj : ∀ j v, a.2.2.2[j]? = some v → j < a.2.2.2.length ∧ y_g a.2.2.2 j = v := fun j v hj => by
    have := (List.getElem?_eq_some_iff.mp hj).1
    refine ⟨this, ?_⟩
    unfold y_g
    rw [List.getD_eq_getElem?_getD, hj]; rfl
  have hI' : y_HI P h' (a.1 + 1) := by
    refine ⟨fun f hf => ?_, fun f hf s v hs => ?_, fun o' ho' => ?_⟩
    · rcases Nat.eq_or_lt_of_le hf with g | g
      · rw [g, em1, eo1, en, ec]; exact ⟨g2, g3, ho, g4⟩
      · rw [em f (by omega), eo f (by omega), en, ec]; exact hI.1 f (by omega)
    · rcases Nat.eq_or_lt_of_le hf with g | g
      · subst g
        rw [em1]
        rw [el1] at hs
        have key : ∀ j, a.2.2.2[j + 1]? = some v → y_vt P h' (z_hd P q' (6 + j)) v := fun j hj => by
          obtain ⟨b1, b2⟩ := hgj _ _ hj
          have hjc : j < z_cnt P q := by omega
          have := hC.1.2.2.2 (j + 1) b1
          rw [b2, rq0 (j + 1) (by omega)] at this
          rw [g7 j hjc]
          refine (y_vt_fit hw this ?_).le hl
          rcases (show j = 0 ∨ j = 1 by omega) with rfl | rfl
          · refine t2.resolve_left (fun y => ?_)
            have : z_pn (z_k (z_bd P (y_qm h a.1)) a.2.1) (z_a (z_bd P (y_qm h a.1)) a.2.1) = y_p P h a := rfl
            rw [k7, y] at this
            have : 1 + 0 = y_p P h a := this
            omega
          · refine (t3.resolve_left (fun y => ?_)).resolve_left (fun y => ?_)
            · have : z_pn (z_k (z_bd P (y_qm h a.1)) a.2.1) (z_a (z_bd P (y_qm h a.1)) a.2.1) = y_p P h a := rfl
              rw [k7, y] at this
              have : 1 + 0 = y_p P h a := this
              omega
            · have : z_pn (z_k (z_bd P (y_qm h a.1)) a.2.1) (z_a (z_bd P (y_qm h a.1)) a.2.1) = y_p P h a := rfl
              rw [k7, y] at this
              have : 1 + 1 = y_p P h a := this
              omega
        by_cases s1 : s = 1
        · rw [if_pos s1] at hs
          rw [s1]; exact key 0 hs
        · rw [if_neg s1] at hs
          by_cases s0 : s = 0
          · rw [if_pos s0] at hs
            rw [s0]; exact key 1 hs
          · rw [if_neg s0] at hs; cases hs
      · rw [em f (by omega)]
        rw [el f (by omega)] at hs
        exact (hI.2.1 f (by omega) s v hs).le hl
    · rw [en] at ho'
      rw [ec]
      refine ⟨(hI.2.2 o' ho').1, fun n hn d hd => ?_⟩
      rw [ef]
      exact ((hI.2.2 o' ho').2 n hn d hd).le hl
  have eqm := em a.1 (Nat.le_refl _)
  have hC1 : y_CH P h' k0 (y_up1 a :: s) := by
    have := hC.le hl hff
    refine ⟨⟨this.1.1, this.1.2.1, ?_, this.1.2.2.2⟩, y_LK_c rfl rfl this.2.1, this.2.2⟩
    show a.2.2.1 + 1 ≤ y_sb (y_k P h' a) (y_p P h' a)
    rw [y_k_eq (P := P) (a := a) (a' := a) rfl eqm rfl, y_p_eq (P := P) (a := a) (a' := a) rfl eqm rfl, hk, hst]
    exact Nat.le_refl _
  have hB' := hw.2.2.2.2.1 _ g2
  have hr' := hP.rt _ g2 g3
  have hst' := y_st_ok (n := n) (out := out) (f := a.1 + 1) (i := 0) hC1 ⟨hn.1, hn.2.1, by rw [en]; exact hn.2.2⟩ h20 hI' (by
    have e1 : y_k P h' (y_up1 a) = y_k P h a := y_k_eq (P := P) rfl eqm rfl
    have e2 : y_p P h' (y_up1 a) = y_p P h a := y_p_eq (P := P) rfl eqm rfl
    refine ⟨?_, ?_, ?_⟩
    · show a.2.2.2.length + 1 = y_xc (y_k P h' (y_up1 a)) (a.2.2.1 + 1)
      rw [e1, hk, hx]; rfl
    · rw [if_pos ⟨e1.trans hk, by rw [e2, ← hst]; rfl⟩]; rfl
    · show z_fit P (z_Ty P (y_qm h' (a.1 + 1)) 0) (y_rq P h' (y_up1 a) a.2.2.2.length) = true
      rw [em1, y_rq_eq (P := P) (a := a) (a' := y_up1 a) rfl eqm rfl]
      have : y_rq P h a a.2.2.2.length = z_hd P q' 8 := by
        unfold y_rq
        rw [if_pos (Or.inr (Or.inr ⟨hk, by omega⟩)), g6]; exact tq
      rw [this]
      exact (z_T_ok hr').2) (by rw [em1]; exact z_tr_pos hB'.1) (fun s hs => by
    rw [em1] at hs
    rw [el1]
    rcases hs with ⟨rfl, g⟩ | ⟨rfl, g⟩ | ⟨j, _, _, g, _⟩
    · rw [if_pos rfl, List.getElem?_eq_getElem (by omega)]; rfl
    · rw [if_neg (by decide), if_pos rfl, List.getElem?_eq_getElem (by omega)]; rfl
    · exact absurd g (Nat.not_lt_zero _))
  have hp3 : y_p P h a ≤ 3 := z_p_3le hB hi
  rcases hst' with hst' | ⟨w1, w2, w3, w4⟩
  · rw [hst']; exact Or.inl (by decide : ¬ (5 : Int32) = -1)
  · refine Or.inr ⟨_, _, _, _, w2, w3, ?_⟩
    have := y_up1_mu (a := a) (s := s) (by omega)
    omega
/-- a turn -/
theorem y_go_ok (hP : y_PG P) (hQ : y_QI P k0 (a :: s) h n out) : y_NX P k0 (a :: s) n (y_go P a s h n out) := by
  obtain ⟨hn, hx, hC, hI, h20⟩ := hQ
  have hw := hP.1.1
  have h6 := hw.1.1
  have hm := hI.1 a.1 (Nat.le_refl _)
  have hB := hw.2.2.2.2.1 _ hm.1
  have hr := hP.rt _ hm.1 hm.2.1
  have hi : a.2.1 < (z_bd P (y_qm h a.1)).length := hC.1.1
  have hlr := y_le.refl h a.1
  have hp3 : y_p P h a ≤ 3 := z_p_3le hB hi
  have hst4 : a.2.2.1 ≤ 4 := Nat.le_trans hC.1.2.2.1 (y_sb_4 hp3)
  have hsb := hC.1.2.2.1
  have eT := (z_Ty_ok hr hi).1
  have eN := (z_Ty_ok hr hi).2
  have fin : ∀ {h' : y_Qh} {v : y_V}, y_le h h' a.1 → y_qn h' ≤ y_qn h + 1 → y_HI P h' a.1 → y_vt P h' (y_ty P h a) v → y_NX P k0 (a :: s) n (y_fin s h' n out v) := fun hl hq hI' hv => by
    obtain ⟨s2, out2, e, q1, q2⟩ := y_fin_ok (out := out) hw hC hn h20 hst4 hl hq hI' hv
    exact y_NX_fin e q1 q2
  have vt : ∀ j, j < a.2.2.2.length → y_vt P h (y_rq P h a j) (y_g a.2.2.2 j) := hC.1.2.2.2
  have ra : ∀ e w, ¬ e = -1 → y_NX P k0 (a :: s) n (y_ra P s h n out e w) := fun e w he => y_ra_ok hP he hC hn h20 hI
  unfold y_go
  have kk : y_k P h a = z_k (z_bd P (y_qm h a.1)) a.2.1 := rfl
  have pp : y_p P h a = z_p (z_bd P (y_qm h a.1)) a.2.1 := rfl
  have tt : y_ty P h a = z_Ty P (y_qm h a.1) a.2.1 := rfl
  have vv : y_v P h a = z_v (z_bd P (y_qm h a.1)) a.2.1 := rfl
  by_cases k0' : y_k P h a = 0
  · rw [if_pos k0']
    refine fin hlr (Nat.le_succ _) hI (Or.inl ⟨?_, rfl⟩)
    rw [tt, eT, z_st_0 (kk.symm.trans k0')]
  rw [if_neg k0']
  by_cases k1 : y_k P h a = 1
  · rw [if_pos k1]
    refine fin hlr (Nat.le_succ _) hI ?_
    obtain ⟨q1, q2⟩ := y_rd_ok hP hC.1 hI (Or.inl k1)
    unfold y_rd
    by_cases b : y_bd P h a < 1000
    · rw [if_pos b]
      obtain ⟨sl, v, r1, r2, r3, _⟩ := q1 b
      rw [r1, r2, ← r3]
      exact hI.2.1 a.1 (Nat.le_refl _) sl v r2
    · rw [if_neg b]
      obtain ⟨f, c, r1, r2, r3, r4, r5, _⟩ := q2 b
      rw [r2, nI_clamp (by omega), r4]
      exact (hI.2.2 _ hm.2.2.1).2 f r1 c r5
  rw [if_neg k1]
  by_cases k2 : y_k P h a = 2
  · rw [if_pos k2]
    refine fin hlr (Nat.le_succ _) hI (Or.inr ⟨z_own P (y_qm h a.1), (z_own_e hw hm.1).1, ?_, Or.inr ⟨rfl, y_qo h a.1, hm.2.2.1, rfl, (hI.2.2 _ hm.2.2.1).1, hm.2.2.2⟩⟩)
    rw [tt, eT, z_st_2 (kk.symm.trans k2)]; exact (z_own_e hw hm.1).2
  rw [if_neg k2]
  by_cases k8 : y_k P h a = 8
  · rw [if_pos k8]
    obtain ⟨c, hc, ec⟩ := (z_wN_at hB hi).2.2.2 k8
    have ec : y_v P h a = nI c := ec
    rw [ec, nI_clamp (by omega)]
    refine fin (y_new_le P h c a.1) (Nat.le_refl _) (y_new_HI hw hI hc) (Or.inr ⟨c, hc, ?_, Or.inr ⟨rfl, y_qn h, Nat.lt_succ_self _, rfl, ?_, ?_⟩⟩)
    · rw [tt, eT, z_st_8 (kk.symm.trans k8)]; exact ec
    · show (if y_qn h = y_qn h then c else _) < _; rw [if_pos rfl]; exact hc
    · have : y_qc (y_new P h c) (y_qn h) = c := if_pos rfl
      rw [this]; exact z_blw_refl P c
  rw [if_neg k8]
  by_cases kc : y_k P h a = 5 ∨ y_k P h a = 9 ∨ y_k P h a = 10 ∨ y_k P h a = 13
  · rw [if_pos kc]
    have n7 : ¬ y_k P h a = 7 := by rcases kc with g | g | g | g <;> rw [g] <;> decide
    have p2 : 2 ≤ y_p P h a := by
      rw [pp]
      rcases kc with g | g | g | g
      · rw [z_p_5 (kk.symm.trans g)]; decide
      · rw [z_p_9 (kk.symm.trans g)]; decide
      · rw [z_p_10 (kk.symm.trans g)]; decide
      · rw [z_p_13 (kk.symm.trans g)]; decide
    have sb2 : y_sb (y_k P h a) (y_p P h a) = 2 := by
      unfold y_sb
      rw [if_neg n7]
      rcases kc with g | g | g | g
      · rw [if_neg (by rw [g]; decide), pp, z_p_5 (kk.symm.trans g)]
      · rw [if_neg (by rw [g]; decide), pp, z_p_9 (kk.symm.trans g)]
      · rw [if_pos g]
      · rw [if_neg (by rw [g]; decide), pp, z_p_13 (kk.symm.trans g)]
    rw [sb2] at hsb
    by_cases s0 : a.2.2.1 = 0
    · rw [if_pos s0]
      rw [s0] at hx
      have hx0 : a.2.2.2.length = 0 := by rw [hx]; unfold y_xc; rw [if_neg (fun y => absurd y.2 (by decide))]
      refine y_sp_ok hP hC hn h20 hI hlr rfl hI (by omega) (by rw [sb2, s0]; decide) hst4 (fun y => n7 y.1) ?_ ?_ (fun y => absurd y (by decide))
      · rw [hx0, s0]; unfold y_xc; rw [if_neg (fun y => absurd y.2 (by decide))]
      · rw [hx0]
        by_cases k13 : y_k P h a = 13
        · have : y_rq P h a 0 = y_ty P h a := by unfold y_rq; rw [if_pos (Or.inr (Or.inl k13))]
          rw [this, tt, eT, z_st_13 (kk.symm.trans k13)]
          rw [eT, z_st_13 (kk.symm.trans k13)] at eN
          exact (z_jn_fit eN).1
        · have : y_rq P h a 0 = z_Ty P (y_qm h a.1) (y_pt P h a 0) := by
            unfold y_rq
            rw [if_neg]
            rintro (⟨_, g⟩ | g | ⟨g, _⟩)
            · exact absurd g (by decide)
            · exact k13 g
            · exact n7 g
          rw [this]; exact z_fit_refl _
    rw [if_neg s0]
    have rq1 : y_rq P h a 1 = y_ty P h a := by
      unfold y_rq
      rw [if_pos]
      rcases kc with g | g | g | g
      · exact Or.inl ⟨Or.inl g, rfl⟩
      · exact Or.inl ⟨Or.inr (Or.inl g), rfl⟩
      · exact Or.inl ⟨Or.inr (Or.inr g), rfl⟩
      · exact Or.inr (Or.inl g)
    by_cases s1 : 1 < a.2.2.1 ∨ y_k P h a = 13
    · rw [if_pos s1]
      refine fin hlr (Nat.le_succ _) hI ?_
      by_cases k13 : y_k P h a = 13
      · have hl1 : a.2.2.2.length = 0 + 1 := by
          rw [hx]
          have : a.2.2.1 = 1 ∨ a.2.2.1 = 2 := by omega
          unfold y_xc
          rcases this with g | g <;> rw [g, k13] <;> rfl
        rw [y_lv_e hl1]
        have := vt 0 (by omega)
        have e : y_rq P h a 0 = y_ty P h a := by unfold y_rq; rw [if_pos (Or.inr (Or.inl k13))]
        rw [e] at this; exact this
      · have s2 : a.2.2.1 = 2 := by rcases s1 with g | g; exact (by omega); exact absurd g k13
        have hl1 : a.2.2.2.length = 1 + 1 := by
          rw [hx]; unfold y_xc; rw [if_neg (fun y => k13 y.1), s2]
        rw [y_lv_e hl1, ← rq1]
        exact vt 1 (by omega)
    rw [if_neg s1]
    have k13 : ¬ y_k P h a = 13 := fun g => s1 (Or.inr g)
    have st1 : a.2.2.1 = 1 := by
      rcases Nat.lt_or_ge 1 a.2.2.1 with g | g
      · exact absurd (Or.inl g) s1
      · omega
    have hl1 : a.2.2.2.length = 0 + 1 := by rw [hx]; unfold y_xc; rw [if_neg (fun y => k13 y.1), st1]
    have lv0 := y_lv_e hl1
    have v0 := vt 0 (by omega)
    have rq0 : y_rq P h a 0 = z_Ty P (y_qm h a.1) (y_pt P h a 0) := by
      unfold y_rq
      rw [if_neg]
      rintro (⟨_, g⟩ | g | ⟨g, _⟩)
      · exact absurd g (by decide)
      · exact k13 g
      · exact n7 g
    have xx : a.2.2.2.length + 1 = y_xc (y_k P h a) (a.2.2.1 + 1) := by rw [hl1, st1]; unfold y_xc; rw [if_neg (fun y => k13 y.1)]
    have sbb : a.2.2.1 + 1 ≤ y_sb (y_k P h a) (y_p P h a) := by rw [sb2, st1]; decide
    by_cases k5 : y_k P h a = 5
    · have e0 : (if y_k P h a = 10 ∧ (y_lv a.2.2.2).2 = 0 then 2 else 1) = 1 := if_neg (fun y => by rw [k5] at y; exact absurd y.1 (by decide))
      rw [if_pos k5, e0, lv0]
      refine y_sp_ok hP hC hn h20 hI (y_wl_le h a.1 (a.2.1 + 2) _ a.1) rfl (y_wl_HI hI ?_) (by omega) sbb hst4 (fun y => n7 y.1) xx ?_ (fun _ _ => ?_)
      · have e : y_slt P (y_qm h a.1) (a.2.1 + 2) = z_Ty P (y_qm h a.1) (a.2.1 + 1) := by
          unfold y_slt; rw [if_neg (by omega), if_neg (by omega)]; rfl
        rw [e]
        rw [rq0] at v0; exact v0
      · rw [hl1, rq1, tt, eT, z_st_5 (kk.symm.trans k5)]; exact z_fit_refl _
      · show (if a.1 = a.1 ∧ a.2.1 + 2 = a.2.1 + 2 then some _ else _).isSome = true
        rw [if_pos ⟨rfl, rfl⟩]; rfl
    · rw [if_neg k5]
      refine y_sp_ok hP hC hn h20 hI hlr rfl hI ?_ sbb hst4 (fun y => n7 y.1) xx ?_ (fun _ y => absurd y k5)
      · by_cases g : y_k P h a = 10 ∧ (y_lv a.2.2.2).2 = 0
        · rw [if_pos g, pp, z_p_10 (kk.symm.trans g.1)]; decide
        · rw [if_neg g]; omega
      · rw [hl1, rq1, tt]
        by_cases k10 : y_k P h a = 10
        · rw [eT, z_st_10 (kk.symm.trans k10)] at eN ⊢
          by_cases gn : z_num (z_Ty P (y_qm h a.1) (z_pt (z_bd P (y_qm h a.1)) a.2.1 0)) = true
          · rw [if_pos gn] at eN ⊢
            by_cases g : y_k P h a = 10 ∧ (y_lv a.2.2.2).2 = 0
            · rw [if_pos g]; exact (z_jn_fit eN).2
            · rw [if_neg g]; exact (z_jn_fit eN).1
          · rw [if_neg gn] at eN; exact absurd rfl eN
        · have k9 : y_k P h a = 9 := by
            rcases kc with g | g | g | g
            · exact absurd g k5
            · exact g
            · exact absurd g k10
            · exact absurd g k13
          rw [if_neg (fun y => k10 y.1), eT, z_st_9 (kk.symm.trans k9)]
          exact z_fit_refl _
  rw [if_neg kc]
  have n13 : ¬ y_k P h a = 13 := fun g => kc (Or.inr (Or.inr (Or.inr g)))
  have hx : a.2.2.2.length = a.2.2.1 := by rw [hx]; unfold y_xc; rw [if_neg (fun y => n13 y.1)]
  have rqj : ∀ j, j < y_p P h a → y_rq P h a j = z_Ty P (y_qm h a.1) (y_pt P h a j) := fun j hj => by
    unfold y_rq
    rw [if_neg]
    rintro (⟨g, _⟩ | g | ⟨_, g⟩)
    · exact kc (by rcases g with g | g | g; exact Or.inl g; exact Or.inr (Or.inl g); exact Or.inr (Or.inr (Or.inl g)))
    · exact n13 g
    · omega
  have n10 : ¬ y_k P h a = 10 := fun g => kc (Or.inr (Or.inr (Or.inl g)))
  by_cases sp : a.2.2.1 < y_p P h a
  · rw [if_pos sp]
    refine y_sp_ok hP hC hn h20 hI hlr rfl hI sp ?_ hst4 (fun y => by omega) (by rw [hx]; unfold y_xc; rw [if_neg (fun y => n13 y.1)]) ?_ (fun _ g => absurd (Or.inl g) kc)
    · unfold y_sb
      by_cases g : y_k P h a = 7
      · rw [if_pos g]; omega
      · rw [if_neg g, if_neg n10]; omega
    · rw [hx, rqj _ sp]; exact z_fit_refl _
  rw [if_neg sp]
  unfold y_ap
  have spp : ¬ y_k P h a = 7 → a.2.2.1 = y_p P h a := fun g => by
    unfold y_sb at hsb
    rw [if_neg g, if_neg n10] at hsb
    omega
  by_cases k3 : y_k P h a = 3
  · rw [if_pos k3]
    have hs := spp (by rw [k3]; decide)
    have p1 : y_p P h a = 1 := z_p_3 (kk.symm.trans k3)
    have v0 := vt 0 (by omega)
    rw [rqj 0 (by omega)] at v0
    obtain ⟨c, f, q, hc, t1, hf, ev, ef, hq, _, tq, _⟩ := z_access hw hm.1 hr hi (Or.inl k3)
    have v0 : y_vt P h (nI c) (y_g a.2.2.2 0) := by rw [← t1]; exact v0
    by_cases g2 : (y_g a.2.2.2 0).1 = 2
    · rw [if_pos g2]; exact ra 4 0 (by decide)
    · rw [if_neg g2]
      obtain ⟨v1, o, ho, v2, hco, hbo⟩ := y_vt_cls hw hc v0 g2
      have hoe : y_o a.2.2.2 = o := by unfold y_o; rw [v2, nI_clamp (by
        have : y_qn h + (s.length + 1) ≤ n + 1 := hn.2.2
        omega)]
      have ev : y_v P h a = nI f := ev
      rw [hoe, ev, nI_clamp (by omega)]
      refine fin hlr (Nat.le_succ _) hI ?_
      rw [tt, tq]
      exact (hI.2.2 o ho).2 f hf q (z_fc_dn hw hP.2.2 hco hf hbo ef)
  rw [if_neg k3]
  by_cases k4 : y_k P h a = 4
  · rw [if_pos k4]
    have hs := spp (by rw [k4]; decide)
    have p1 : y_p P h a = 2 := z_p_4 (kk.symm.trans k4)
    have v0 := vt 0 (by omega)
    rw [rqj 0 (by omega)] at v0
    have v1' := vt 1 (by omega)
    rw [rqj 1 (by omega)] at v1'
    obtain ⟨c, f, q, hc, t1, hf, ev, ef, hq, _, tq, tf⟩ := z_access hw hm.1 hr hi (Or.inr k4)
    have v0 : y_vt P h (nI c) (y_g a.2.2.2 0) := by rw [← t1]; exact v0
    by_cases g2 : (y_g a.2.2.2 0).1 = 2
    · rw [if_pos g2]; exact ra 4 0 (by decide)
    · rw [if_neg g2]
      obtain ⟨v1, o, ho, v2, hco, hbo⟩ := y_vt_cls hw hc v0 g2
      have hoe : y_o a.2.2.2 = o := by unfold y_o; rw [v2, nI_clamp (by
        have : y_qn h + (s.length + 1) ≤ n + 1 := hn.2.2
        omega)]
      have ev : y_v P h a = nI f := ev
      rw [hoe, ev, nI_clamp (by omega)]
      have v1'' := y_vt_fit hw v1' (tf k4)
      refine fin (y_wf_le h o f _ a.1) (Nat.le_succ _) (y_wf_HI hI (fun d hd => ?_)) ?_
      · rw [z_fc_dn hw hP.2.2 hco hf hbo ef] at hd
        obtain rfl := Option.some.inj hd
        exact v1''
      · rw [tt, tq]; exact v1''.le (y_wf_le h o f _ a.1)
  rw [if_neg k4]
  by_cases k6 : y_k P h a = 6
  · rw [if_pos k6]
    have hs := spp (by rw [k6]; decide)
    have p1 : y_p P h a = 1 := z_p_6 (kk.symm.trans k6)
    have v0 := vt 0 (by omega)
    rw [rqj 0 (by omega)] at v0
    have v0 : y_vt P h (y_ty P h a) (y_g a.2.2.2 0) := y_vt_fit hw v0 ((z_var hw hm.1 hr hi (Or.inr k6)).2.2.2 k6)
    obtain ⟨q1, q2⟩ := y_rd_ok hP hC.1 hI (Or.inr k6)
    unfold y_wr
    by_cases b : y_bd P h a < 1000
    · rw [if_pos b]
      obtain ⟨sl, v, r1, r2, r3, _⟩ := q1 b
      rw [r1]
      exact fin (y_wl_le h a.1 sl _ a.1) (Nat.le_succ _) (y_wl_HI hI (by rw [r3]; exact v0)) (v0.le (y_wl_le h a.1 sl _ a.1))
    · rw [if_neg b]
      obtain ⟨f, c, r1, r2, r3, r4, r5, _⟩ := q2 b
      rw [r2, nI_clamp (by omega)]
      refine fin (y_wf_le h _ f _ a.1) (Nat.le_succ _) (y_wf_HI hI (fun d hd => ?_)) (v0.le (y_wf_le h _ f _ a.1))
      rw [r5] at hd
      obtain rfl := Option.some.inj hd
      rw [← r4]; exact v0
  rw [if_neg k6]
  by_cases k7 : y_k P h a = 7
  · rw [if_pos k7]
    have sb7 : y_sb (y_k P h a) (y_p P h a) = y_p P h a + 1 := by unfold y_sb; rw [if_pos k7]
    rw [sb7] at hsb
    by_cases s7 : y_p P h a < a.2.2.1
    · rw [if_pos s7]
      refine fin hlr (Nat.le_succ _) hI ?_
      have hl1 : a.2.2.2.length = y_p P h a + 1 := by omega
      rw [y_lv_e hl1]
      have := vt (y_p P h a) (by omega)
      have e : y_rq P h a (y_p P h a) = y_ty P h a := by unfold y_rq; rw [if_pos (Or.inr (Or.inr ⟨k7, rfl⟩))]
      rw [e] at this; exact this
    rw [if_neg s7]
    by_cases g2 : (y_g a.2.2.2 0).1 = 2
    · rw [if_pos g2]; exact ra 4 0 (by decide)
    rw [if_neg g2]
    by_cases g20 : a.1 + 1 = 20
    · rw [if_pos g20]; exact Or.inl (by decide : ¬ (5 : Int32) = -1)
    rw [if_neg g20]
    obtain ⟨o, q, w1, _, _, _, w2, _, _, _, w3⟩ := y_call_ok (out := out) hP hC hn hI k7 (by omega) hx g2 (by omega)
    rw [w1, w2]; exact w3
  rw [if_neg k7]
  by_cases k11 : y_k P h a = 11
  · rw [if_pos k11]
    refine fin hlr (Nat.le_succ _) hI (Or.inl ⟨?_, rfl⟩)
    rw [tt, eT, z_st_11 (kk.symm.trans k11)]
    rw [eT, z_st_11 (kk.symm.trans k11)] at eN
    split at eN
    · next g => rw [if_pos g]
    · exact absurd rfl eN
  rw [if_neg k11]
  exact ra 3 _ (by decide)
end
