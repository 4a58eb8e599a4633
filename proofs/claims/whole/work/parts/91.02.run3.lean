-- deps: 91.00.run 91.01.run2
/-! a run: a turn keeps what is so -/
section
variable {P : z_Pg} {h h' : y_Qh} {k0 : Nat} {n : Nat} {out : y_V}
def y_NX (P : z_Pg) (k0 : Nat) (s0 : List y_Ac) (n : Nat) (X : y_Qs) : Prop := ¬ X.2.2.2.1 = -1 ∨ ∃ s2 h2 n2 out2, X = (s2, h2, n2, -1, 0, out2) ∧ y_QI P k0 s2 h2 n2 out2 ∧ y_mu s2 + 6 * (500 - n2) < y_mu s0 + 6 * (500 - n)
/-- what is known of a program that is run -/
def y_PG (P : z_Pg) : Prop := (z_wf P ∧ z_b60 P) ∧ z_wr P = -1 ∧ z_fu P
theorem y_PG.rt (hP : y_PG P) : z_RT P := z_RT_wr hP.1.1 hP.2.1
/-- a field is the same from below -/
theorem z_fc_dn (hw : z_wf P) (hf : z_fu P) {c c' d f : Nat} (hc : c' < z_nc P) (hn : f < 16) (hb : z_blw P c' c = true) (h : z_fc P c f = some d) : z_fc P c' f = some d := by
  obtain ⟨h1, h2, h3⟩ := z_fc_some h
  have hcc := z_blw_le hw.1 hc hb
  have hbd := z_blw_trans hw.1 hc hb h2
  have hdc := z_blw_le hw.1 hc hbd
  cases hx : z_fc P c' f with
  | none =>
    unfold z_fc at hx
    have := z_lst_none.mp hx d (by omega)
    rw [hbd, Bool.true_and] at this
    simp at this
    exact absurd this h3
  | some d' =>
    obtain ⟨g1, g2, g3⟩ := z_fc_some hx
    rcases Nat.le_total d d' with q | q
    · have := z_blw_lin hw.1 hc g2 hbd q
      rw [hf d' d f (by omega) hn this g3 h3]
    · have := z_blw_lin hw.1 hc hbd g2 q
      rw [hf d d' f (by omega) hn this h3 g3]
/-- a method from below is the same, or overrides it -/
theorem z_fm_dn (hP : y_PG P) {c c' q : Nat} (hc : c < z_nc P) (hc' : c' < z_nc P) (hb : z_blw P c' c = true) {name cnt : Int32} (h : z_fm P c name cnt = some q) : ∃ q', z_fm P c' name cnt = some q' ∧ q' < z_nm P ∧ z_liv P q' = true ∧ z_blw P c' (z_own P q') = true ∧ z_cnt P q' = z_cnt P q ∧ z_hd P q' 8 = z_hd P q 8 ∧ ∀ j, j < z_cnt P q → z_hd P q' (6 + j) = z_hd P q (6 + j) := by
  have hw := hP.1.1
  obtain ⟨h1, h2, h3, h4⟩ := (z_fm_some hw hc).mp h
  have hbq := z_blw_trans hw.1 hc' hb h3
  cases hx : z_fm P c' name cnt with
  | none => have := (z_fm_none hw hc').mp hx q h1 h2; rw [hbq] at this; cases this
  | some q' =>
    obtain ⟨g1, g2, g3, g4⟩ := (z_fm_some hw hc').mp hx
    have hle := g4 q h1 h2 hbq
    have hbb := z_blw_lin hw.1 hc' g3 hbq hle
    refine ⟨q', rfl, g1, z_isc_liv g2, g3, ?_⟩
    by_cases ho : z_own P q' = z_own P q
    · obtain rfl := z_isc_uq hw g1 h1 g2 h2 ho
      exact ⟨rfl, rfl, fun _ _ => rfl⟩
    · have hov : z_ov P q' q = true := by
        unfold z_ov
        have i2 := h2
        unfold z_isc at i2
        simp only [Bool.and_eq_true, beq_iff_eq] at i2
        rw [i2.2.1, i2.2.2, g2, hbb]
        simp [ho]
      have hct := (z_ov_cnt hov).2
      have := z_RT_ov hw hP.2.1 g1 (z_isc_liv g2)
      unfold z_ovw at this
      have := z_any_f.mp this q h1
      rw [z_isc_liv h2, hov, Bool.true_and, Bool.true_and, Bool.not_eq_false'] at this
      unfold z_sty at this
      simp only [Bool.and_eq_true, Bool.not_eq_true', beq_iff_eq] at this
      refine ⟨hct, this.2, fun j hj => ?_⟩
      have := z_any_f.mp this.1 j (by omega)
      simpa using this
theorem y_ra_ok (hP : y_PG P) {a : y_Ac} {s : List y_Ac} {e w : Int32} (he : ¬ e = -1) (hC : y_CH P h k0 (a :: s)) (hn : n ≤ 500 ∧ y_ht (a :: s) + (a :: s).length ≤ n ∧ y_qn h + (a :: s).length ≤ n + 1) (h20 : a.1 < 20) (hI : y_HI P h a.1) : y_NX P k0 (a :: s) n (y_ra P s h n out e w) := by
  have hw := hP.1.1
  obtain ⟨n1, n2, n3⟩ := hn
  have n2 : y_ht s + a.2.2.2.length + (s.length + 1) ≤ n := n2
  have n3 : y_qn h + (s.length + 1) ≤ n + 1 := n3
  have hf := y_CH_f hC
  unfold y_ra
  cases hu : y_unw P h s with
  | none => exact Or.inl he
  | some x =>
    obtain ⟨b, s'⟩ := x
    obtain ⟨⟨q1, q2⟩, q3, q4, q5, q6, q7⟩ := y_unw_some hu hC.2.2
    have hb : b.1 ≤ a.1 := hf b (List.mem_cons_of_mem _ (q4 b List.mem_cons_self))
    have hm := hI.1 b.1 hb
    have hB := hw.2.2.2.2.1 _ hm.1
    have hr := hP.rt _ hm.1 hm.2.1
    have hbi : b.2.1 < (z_bd P (y_qm h b.1)).length := q3.1.1
    have k13 : z_k (z_bd P (y_qm h b.1)) b.2.1 = 13 := q1
    have p13 : z_p (z_bd P (y_qm h b.1)) b.2.1 = 2 := z_p_13 k13
    have hl1 := z_pt_lt hB.1 hbi (j := 1) (by omega)
    have eT := (z_Ty_ok hr hbi).1
    have eN := (z_Ty_ok hr hbi).2
    rw [z_st_13 k13] at eT
    have hCb : y_CH P h k0 ((b.1, b.2.1, 2, []) :: s') := by
      refine ⟨⟨q3.1.1, q3.1.2.1, ?_, fun j hj => absurd hj (Nat.not_lt_zero _)⟩, ?_, q3.2.2⟩
      · show 2 ≤ y_sb (z_k (z_bd P (y_qm h b.1)) b.2.1) (z_p (z_bd P (y_qm h b.1)) b.2.1)
        rw [k13, p13]; decide
      · have := q3.2.1
        cases s' with
        | nil => exact this
        | cons d s => exact this
    have q5 : y_ht s' + b.2.2.2.length + (s'.length + 1) ≤ y_ht s + s.length := q5
    have q6 : s'.length + 1 ≤ s.length := q6
    have hst := y_st_ok (n := n) (out := out) (f := b.1) (i := z_pt (z_bd P (y_qm h b.1)) b.2.1 1) hCb ⟨n1, by show y_ht s' + 0 + (s'.length + 1) ≤ n; omega, by show y_qn h + (s'.length + 1) ≤ n + 1; omega⟩ (by omega) (hI.mono hb) (by
      refine ⟨?_, ?_, ?_⟩
      · show 0 + 1 = y_xc (z_k (z_bd P (y_qm h b.1)) b.2.1) 2
        rw [k13]; rfl
      · rw [if_neg (fun y => absurd (k13.symm.trans y.1) (by decide))]
      · show z_fit P (z_Ty P (y_qm h b.1) (z_pt (z_bd P (y_qm h b.1)) b.2.1 1)) (y_rq P h b 0) = true
        have : y_rq P h b 0 = z_Ty P (y_qm h b.1) b.2.1 := by
          unfold y_rq; rw [if_pos (Or.inr (Or.inl q1))]; rfl
        rw [this, eT]
        rw [eT] at eN
        exact (z_jn_fit eN).2) hl1 (fun s hs => by
      rcases y_LV_part hB.1 hbi (by omega) hs with ⟨_, g, _⟩ | g
      · rw [k13] at g; exact absurd g (by decide)
      · exact q3.1.2.1 s g)
    rcases hst with hst | ⟨g1, g2, g3, g4⟩
    · refine Or.inl ?_
      show ¬ (y_st ((b.1, b.2.1, 2, []) :: s') h n out b.1 (y_pt P h b 1)).2.2.2.1 = -1
      rw [show y_pt P h b 1 = z_pt (z_bd P (y_qm h b.1)) b.2.1 1 from rfl, hst]
      exact (by decide : ¬ (5 : Int32) = -1)
    · refine Or.inr ⟨_, _, _, _, g2, g3, ?_⟩
      rw [g4]
      have q7 : y_mu s' + (5 - b.2.2.1) ≤ y_mu s := q7
      show y_mu s' + (5 - 2) + 5 + 6 * (500 - (n + 1)) < y_mu s + (5 - a.2.2.1) + 6 * (500 - n)
      omega
end
