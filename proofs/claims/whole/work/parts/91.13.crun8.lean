-- deps: 91.00.run 91.01.run2 91.02.run3 91.03.run4 91.04.run5 91.05.run6 91.06.crun 91.07.crun2 91.08.crun3 91.09.crun4 91.10.crun5 91.11.crun6 91.12.crun7
/-! a run: turns to the end -/
section
variable {P : z_Pg} {h : y_Qh} {k0 : Nat} {n : Nat} {out : y_V} {a : y_Ac} {s : List y_Ac} {S : z_S} {m : z_m} {p : Nat}
/-- turns -/
noncomputable def y_run (P : z_Pg) : Nat → y_Qs → y_Qs
  | 0, X => X
  | N + 1, X => match X.1 with
    | [] => X
    | a :: s => if X.2.2.2.1 = -1 then y_run P N (y_go P a s X.2.1 X.2.2.1 X.2.2.2.2.2) else X
/-- what is so between turns -/
def y_QX (P : z_Pg) (k0 : Nat) (X : y_Qs) : Prop := X.2.2.2.1 = -1 → X.2.2.2.2.1 = 0 ∧ y_QI P k0 X.1 X.2.1 X.2.2.1 X.2.2.2.2.2
def y_MU (X : y_Qs) : Nat := if X.2.2.2.1 = -1 then y_mu X.1 + 6 * (500 - X.2.2.1) else 0
theorem y_QX_go (hP : y_PG P) {X : y_Qs} (hX : X = (a :: s, h, n, -1, 0, out)) (hQ : y_QI P k0 (a :: s) h n out) : y_QX P k0 (y_go P a s h n out) ∧ y_MU (y_go P a s h n out) < y_MU X := by
  have hpos : 0 < y_MU X := by
    unfold y_MU
    rw [hX, if_pos rfl]
    have hst := (y_acts_ok hP hQ.2.2.1 hQ.2.2.2.1 a List.mem_cons_self).2.2
    show 0 < y_mu s + (5 - a.2.2.1) + _
    omega
  rcases y_go_ok (out := out) hP hQ with g | ⟨s2, h2, n2, out2, e, q1, q2⟩
  · refine ⟨fun q => absurd q g, ?_⟩
    have : y_MU (y_go P a s h n out) = 0 := by unfold y_MU; rw [if_neg g]
    omega
  · rw [e]
    refine ⟨fun _ => ⟨rfl, q1⟩, ?_⟩
    unfold y_MU
    rw [if_pos rfl, hX, if_pos rfl]
    exact q2
/-- how it ends -/
def y_how (X : y_Qs) : Int32 := if X.2.2.2.1 = -1 then X.2.2.2.2.2.1 else X.2.2.2.1
def y_val (X : y_Qs) : Int32 := if X.2.2.2.1 = -1 then (if X.2.2.2.2.2.1 = 0 then X.2.2.2.2.2.2 else if X.2.2.2.2.2.1 = 1 then nI (y_qc X.2.1 X.2.2.2.2.2.2.toNatClampNeg) else 0) else X.2.2.2.2.1
def y_fnl (X : y_Qs) : Prop := X.2.2.2.1 = -1 → X.1 = []
/-- Machine.conclude -/
theorem f44_90_c (hP : y_PG P) (hG : y_cG S m p P) (hk0 : k0 < z_nm P) (hl0 : z_liv P k0 = true) {X : y_Qs} (hf : y_fnl X) (hQ : y_QX P k0 X) (hC : y_cX m X) : ∃ m', f44_90 10 (nI k0) (z_hp S m) = some (y_how X, z_hp S m') ∧ m' 10 17 = y_val X ∧ m' 10 15 = nI X.2.2.1 ∧ y_cR m m' := by
  obtain ⟨hX, hp, lo, hpr, hcp, hT⟩ := hG
  have hw := hP.1.1
  have h24 := hw.2.2.1
  have h6 := hw.1.1
  have h10k : z_kd S 10 = 5 := hX.k10
  have hpk := hp.k
  obtain ⟨c16, c17, c15, cq⟩ := hC
  have gp : ∀ {β : Type} {f : Nat → m_M β} {m0 : z_m}, m_B (m_gR 5 10 10) f (z_hp S m0) = f p (z_hp S m0) := fun {β f m0} => by rw [zB_gR hX.k10, hpr]; rfl
  unfold y_how y_val
  by_cases ge : X.2.2.2.1 = -1
  · rw [if_pos ge, if_pos ge]
    have hnil := hf ge
    obtain ⟨_, hQI⟩ := hQ ge
    have cq := cq ge
    rw [hnil] at cq hQI
    obtain ⟨⟨_, _, _, cz⟩, _, hO, e0⟩ := cq
    have hv := hQI.2
    have e8 : m (p + 9) k0 = z_hd P k0 8 := (hcp.2.1.2.2 k0 hk0 hl0).2.2.2.1
    rw [ge] at c16
    have h24' : k0 < 24 := by omega
    rcases hv with ⟨g1, g2⟩ | ⟨c, g1, g2, g3⟩
    · rw [g1] at e8
      have ee : y_ec X.2.2.2.2.2 = X.2.2.2.2.2.2 := by unfold y_ec; rw [g2, if_neg (by decide)]
      rw [ee] at e0
      rw [g2, if_pos rfl]
      refine ⟨z_up (z_up m 10 16 0) 10 17 X.2.2.2.2.2.2, ?_, z_up_s _ _ _ _, by rw [z_up_b (by decide), z_up_b (by decide)]; exact c15, fun b hb => by rw [z_up_row (by omega), z_up_row (by omega)]⟩
      unfold f44_90 f44_117 f45 f45_46
      have r1 : z_up (z_up m 10 16 0) 10 17 X.2.2.2.2.2.2 10 16 = 0 := by rw [z_up_b (by decide), z_up_s]
      simp (disch := ((try simp only [true_or, or_true, hX.k10, hX.k11, hX.k12, hX.k13, hX.k14, hX.k15, hX.k16, hX.k17, hX.k18, hX.k19, hX.k20, hX.l11, hX.l12, hX.l13, hX.l14, hX.l15, hX.l16, hX.l17, hX.l18, hX.l19, hX.l20, hp.k, hp.k1, hp.k2, hp.k3, hp.k4, hp.k5, hp.k6, hp.k7, hp.k8, hp.k9, hp.k10, hp.l1, hp.l2, hp.l3, hp.l4, hp.l5, hp.l6, hp.l7, hp.l8, hp.l9, hp.l10, h10k, hpk]) <;> (try omega))) only [↓reduceIte, ↓z_ite, ↓zR, ↓zB_R, ↓zB_B, ↓zB_ite, ↓zB_gI, ↓zB_pI, ↓zB_pZ, ↓zB_aK, ↓zB_G, ↓zB_lI, ↓zB_lZ, ↓zB_wI, ↓zB_wZ, ↓zB_lIl, ↓zB_wIl, zB_pI, zB_pZ, zB_lI, zB_lZ, zB_wI, zB_wZ, z_addl, z_ladd, z_mull, z_lmul, nI_add, z_subl, Nat.not_lt_zero, z_10, z_01, z_bitc, z_b0, z_b1, ↓zB_Gb, ↓zB_G0, ↓zB_G1, z_eql, z_leq, z_ltl, z_llt, z_eq, z_lt, z_m1lt, hX.k10, hX.k11, hX.k12, hX.k13, hX.k14, hX.k15, hX.k16, hX.k17, hX.k18, hX.k19, hX.k20, hX.l11, hX.l12, hX.l13, hX.l14, hX.l15, hX.l16, hX.l17, hX.l18, hX.l19, hX.l20, hp.k, hp.k1, hp.k2, hp.k3, hp.k4, hp.k5, hp.k6, hp.k7, hp.k8, hp.k9, hp.k10, hp.l1, hp.l2, hp.l3, hp.l4, hp.l5, hp.l6, hp.l7, hp.l8, hp.l9, hp.l10, h10k, hpk, ↓hX.g10_0, ↓hX.g10_1, ↓hX.g10_2, ↓hX.g10_3, ↓hX.g10_4, ↓hX.g10_5, ↓hX.g10_6, ↓hX.g10_7, ↓hX.g10_8, ↓hX.g10_9, ↓hp.g0, ↓hp.g1, ↓hp.g2, ↓hp.g3, ↓hp.g4, ↓hp.g5, ↓hp.g6, ↓hp.g7, ↓hp.g8, ↓hp.g9, ↓hp.gb, hp.gb, ↓gp, c16, e0, h24', e8, r1]
    · rw [g2] at e8
      have hne : ¬ nI c = -1 := z_nI_m1 (by omega)
      rcases g3 with g3 | ⟨g3, o, ho, eo, _⟩
      · have ee : y_ec X.2.2.2.2.2 = -1 := by unfold y_ec; rw [g3, if_pos rfl]
        rw [ee] at e0
        rw [g3, if_neg (by decide), if_neg (by decide)]
        refine ⟨z_up m 10 16 2, ?_, by rw [z_up_b (by decide)]; exact cz, by rw [z_up_b (by decide)]; exact c15, fun b hb => by rw [z_up_row (by omega)]⟩
        unfold f44_90 f44_117 f45 f45_46
        have r1 : z_up m 10 16 2 10 16 = 2 := z_up_s _ _ _ _
        simp (disch := ((try simp only [true_or, or_true, hX.k10, hX.k11, hX.k12, hX.k13, hX.k14, hX.k15, hX.k16, hX.k17, hX.k18, hX.k19, hX.k20, hX.l11, hX.l12, hX.l13, hX.l14, hX.l15, hX.l16, hX.l17, hX.l18, hX.l19, hX.l20, hp.k, hp.k1, hp.k2, hp.k3, hp.k4, hp.k5, hp.k6, hp.k7, hp.k8, hp.k9, hp.k10, hp.l1, hp.l2, hp.l3, hp.l4, hp.l5, hp.l6, hp.l7, hp.l8, hp.l9, hp.l10, h10k, hpk]) <;> (try omega))) only [↓reduceIte, ↓z_ite, ↓zR, ↓zB_R, ↓zB_B, ↓zB_ite, ↓zB_gI, ↓zB_pI, ↓zB_pZ, ↓zB_aK, ↓zB_G, ↓zB_lI, ↓zB_lZ, ↓zB_wI, ↓zB_wZ, ↓zB_lIl, ↓zB_wIl, zB_pI, zB_pZ, zB_lI, zB_lZ, zB_wI, zB_wZ, z_addl, z_ladd, z_mull, z_lmul, nI_add, z_subl, Nat.not_lt_zero, z_10, z_01, z_bitc, z_b0, z_b1, ↓zB_Gb, ↓zB_G0, ↓zB_G1, z_eql, z_leq, z_ltl, z_llt, z_eq, z_lt, z_m1lt, hX.k10, hX.k11, hX.k12, hX.k13, hX.k14, hX.k15, hX.k16, hX.k17, hX.k18, hX.k19, hX.k20, hX.l11, hX.l12, hX.l13, hX.l14, hX.l15, hX.l16, hX.l17, hX.l18, hX.l19, hX.l20, hp.k, hp.k1, hp.k2, hp.k3, hp.k4, hp.k5, hp.k6, hp.k7, hp.k8, hp.k9, hp.k10, hp.l1, hp.l2, hp.l3, hp.l4, hp.l5, hp.l6, hp.l7, hp.l8, hp.l9, hp.l10, h10k, hpk, ↓hX.g10_0, ↓hX.g10_1, ↓hX.g10_2, ↓hX.g10_3, ↓hX.g10_4, ↓hX.g10_5, ↓hX.g10_6, ↓hX.g10_7, ↓hX.g10_8, ↓hX.g10_9, ↓hp.g0, ↓hp.g1, ↓hp.g2, ↓hp.g3, ↓hp.g4, ↓hp.g5, ↓hp.g6, ↓hp.g7, ↓hp.g8, ↓hp.g9, ↓hp.gb, hp.gb, ↓gp, c16, e0, h24', e8, hne, r1]
      · have hqn := hQI.1.2.2
        have hn5 := hQI.1.1
        have ee : y_ec X.2.2.2.2.2 = nI o := by unfold y_ec; rw [g3, if_neg (by decide), eo]
        rw [ee] at e0
        rw [g3, if_neg (by decide), if_pos rfl, eo, nI_clamp (by have : y_qn X.2.1 + 0 ≤ _ := hqn; omega)]
        have hon : o < 501 := by have : y_qn X.2.1 + 0 ≤ X.2.2.1 + 1 := hqn; omega
        have hno : ¬ nI o = -1 := z_nI_m1 (by omega)
        have eoc := (hO.2 o ho).1
        refine ⟨z_up (z_up m 10 16 1) 10 17 (nI (y_qc X.2.1 o)), ?_, z_up_s _ _ _ _, by rw [z_up_b (by decide), z_up_b (by decide)]; exact c15, fun b hb => by rw [z_up_row (by omega), z_up_row (by omega)]⟩
        unfold f44_90 f44_117 f45 f45_46
        have r1 : z_up (z_up m 10 16 1) 10 17 (nI (y_qc X.2.1 o)) 10 16 = 1 := by rw [z_up_b (by decide), z_up_s]
        have r2 : z_up m 10 16 1 19 o = nI (y_qc X.2.1 o) := by rw [z_up_row (by decide)]; exact eoc
        simp (disch := ((try simp only [true_or, or_true, hX.k10, hX.k11, hX.k12, hX.k13, hX.k14, hX.k15, hX.k16, hX.k17, hX.k18, hX.k19, hX.k20, hX.l11, hX.l12, hX.l13, hX.l14, hX.l15, hX.l16, hX.l17, hX.l18, hX.l19, hX.l20, hp.k, hp.k1, hp.k2, hp.k3, hp.k4, hp.k5, hp.k6, hp.k7, hp.k8, hp.k9, hp.k10, hp.l1, hp.l2, hp.l3, hp.l4, hp.l5, hp.l6, hp.l7, hp.l8, hp.l9, hp.l10, h10k, hpk]) <;> (try omega))) only [↓reduceIte, ↓z_ite, ↓zR, ↓zB_R, ↓zB_B, ↓zB_ite, ↓zB_gI, ↓zB_pI, ↓zB_pZ, ↓zB_aK, ↓zB_G, ↓zB_lI, ↓zB_lZ, ↓zB_wI, ↓zB_wZ, ↓zB_lIl, ↓zB_wIl, zB_pI, zB_pZ, zB_lI, zB_lZ, zB_wI, zB_wZ, z_addl, z_ladd, z_mull, z_lmul, nI_add, z_subl, Nat.not_lt_zero, z_10, z_01, z_bitc, z_b0, z_b1, ↓zB_Gb, ↓zB_G0, ↓zB_G1, z_eql, z_leq, z_ltl, z_llt, z_eq, z_lt, z_m1lt, hX.k10, hX.k11, hX.k12, hX.k13, hX.k14, hX.k15, hX.k16, hX.k17, hX.k18, hX.k19, hX.k20, hX.l11, hX.l12, hX.l13, hX.l14, hX.l15, hX.l16, hX.l17, hX.l18, hX.l19, hX.l20, hp.k, hp.k1, hp.k2, hp.k3, hp.k4, hp.k5, hp.k6, hp.k7, hp.k8, hp.k9, hp.k10, hp.l1, hp.l2, hp.l3, hp.l4, hp.l5, hp.l6, hp.l7, hp.l8, hp.l9, hp.l10, h10k, hpk, ↓hX.g10_0, ↓hX.g10_1, ↓hX.g10_2, ↓hX.g10_3, ↓hX.g10_4, ↓hX.g10_5, ↓hX.g10_6, ↓hX.g10_7, ↓hX.g10_8, ↓hX.g10_9, ↓hp.g0, ↓hp.g1, ↓hp.g2, ↓hp.g3, ↓hp.g4, ↓hp.g5, ↓hp.g6, ↓hp.g7, ↓hp.g8, ↓hp.g9, ↓hp.gb, hp.gb, ↓gp, c16, e0, h24', e8, hne, hno, hon, r2, r1]
  · rw [if_neg ge, if_neg ge]
    refine ⟨m, ?_, c17, c15, fun _ _ => rfl⟩
    unfold f44_90 f44_117
    have g16 : ¬ m 10 16 = -1 := by rw [c16]; exact ge
    simp (disch := ((try simp only [true_or, or_true, hX.k10, hX.k11, hX.k12, hX.k13, hX.k14, hX.k15, hX.k16, hX.k17, hX.k18, hX.k19, hX.k20, hX.l11, hX.l12, hX.l13, hX.l14, hX.l15, hX.l16, hX.l17, hX.l18, hX.l19, hX.l20, h10k]) <;> (try omega))) only [↓reduceIte, ↓z_ite, ↓zR, ↓zB_R, ↓zB_B, ↓zB_ite, ↓zB_gI, ↓zB_pI, ↓zB_pZ, ↓zB_aK, ↓zB_G, ↓zB_lI, ↓zB_lZ, ↓zB_wI, ↓zB_wZ, ↓zB_lIl, ↓zB_wIl, zB_pI, zB_pZ, zB_lI, zB_lZ, zB_wI, zB_wZ, z_addl, z_ladd, z_mull, z_lmul, nI_add, z_subl, Nat.not_lt_zero, z_10, z_01, z_bitc, z_b0, z_b1, ↓zB_Gb, ↓zB_G0, ↓zB_G1, z_eql, z_leq, z_ltl, z_llt, z_eq, z_lt, z_m1lt, hX.k10, hX.k11, hX.k12, hX.k13, hX.k14, hX.k15, hX.k16, hX.k17, hX.k18, hX.k19, hX.k20, hX.l11, hX.l12, hX.l13, hX.l14, hX.l15, hX.l16, hX.l17, hX.l18, hX.l19, hX.l20, h10k, ↓hX.g10_0, ↓hX.g10_1, ↓hX.g10_2, ↓hX.g10_3, ↓hX.g10_4, ↓hX.g10_5, ↓hX.g10_6, ↓hX.g10_7, ↓hX.g10_8, ↓hX.g10_9, g16]
    rw [c16]
theorem f44_57_c (hP : y_PG P) (hk0 : k0 < z_nm P) (hl0 : z_liv P k0 = true) : ∀ (N : Nat) (X : y_Qs) (m : z_m) (t F : Nat), y_MU X < N → t + N ≤ 9000 → N < F → y_QX P k0 X → y_cG S m p P → y_cX m X → ∃ m', m_W (fun s => f44_57b (s.1) (s.2.1) (s.2.2)) F (10, nI k0, nI t) (z_hp S m) = some (y_how (y_run P N X), z_hp S m') ∧ m' 10 17 = y_val (y_run P N X) ∧ m' 10 15 = nI (y_run P N X).2.2.1 ∧ y_cR m m'
  | 0, X, m, t, F, h1, _, _, _, _, _ => absurd h1 (Nat.not_lt_zero _)
  | N + 1, X, m, t, 0, h1, _, h3, _, _, _ => absurd h3 (Nat.not_lt_zero _)
  | N + 1, X, m, t, F + 1, h1, h2, h3, hQ, hG, hC => by
    have hw := hP.1.1
    have hX := hG.1
    have h10k : z_kd S 10 = 5 := hX.k10
    have gt : t < 10000 := by omega
    have stop : (X.1 = [] ∨ ¬ X.2.2.2.1 = -1) → ∃ m', m_W (fun s => f44_57b (s.1) (s.2.1) (s.2.2)) (F + 1) (10, nI k0, nI t) (z_hp S m) = some (y_how X, z_hp S m') ∧ m' 10 17 = y_val X ∧ m' 10 15 = nI X.2.2.1 ∧ y_cR m m' := fun hs => by
      obtain ⟨m', e, q1, q2, q3⟩ := f44_90_c hP hG hk0 hl0 (X := X) (fun ge => hs.resolve_right (fun q => q ge)) hQ hC
      refine ⟨m', ?_, q1, q2, q3⟩
      unfold m_W m_B
      have : f44_57b 10 (nI k0) (nI t) (z_hp S m) = some (.inr (y_how X), z_hp S m') := by
        unfold f44_57b
        by_cases ge : X.2.2.2.1 = -1
        · have hnil := hs.resolve_right (fun q => q ge)
          have c11 := (hC.2.2.2 ge).1.1
          rw [hnil] at c11
          have c11 : m 10 11 = nI 0 := c11
          have g0 : ¬ (0 : Int32) < nI 0 := by decide
          simp (disch := ((try simp only [true_or, or_true, hX.k10, hX.k11, hX.k12, hX.k13, hX.k14, hX.k15, hX.k16, hX.k17, hX.k18, hX.k19, hX.k20, hX.l11, hX.l12, hX.l13, hX.l14, hX.l15, hX.l16, hX.l17, hX.l18, hX.l19, hX.l20, h10k]) <;> (try omega))) only [↓reduceIte, ↓z_ite, ↓zR, ↓zB_R, ↓zB_B, ↓zB_ite, ↓zB_gI, ↓zB_pI, ↓zB_pZ, ↓zB_aK, ↓zB_G, ↓zB_lI, ↓zB_lZ, ↓zB_wI, ↓zB_wZ, ↓zB_lIl, ↓zB_wIl, zB_pI, zB_pZ, zB_lI, zB_lZ, zB_wI, zB_wZ, z_addl, z_ladd, z_mull, z_lmul, nI_add, z_subl, Nat.not_lt_zero, z_10, z_01, z_bitc, z_b0, z_b1, ↓zB_Gb, ↓zB_G0, ↓zB_G1, z_eql, z_leq, z_ltl, z_llt, z_eq, z_lt, z_m1lt, hX.k10, hX.k11, hX.k12, hX.k13, hX.k14, hX.k15, hX.k16, hX.k17, hX.k18, hX.k19, hX.k20, hX.l11, hX.l12, hX.l13, hX.l14, hX.l15, hX.l16, hX.l17, hX.l18, hX.l19, hX.l20, h10k, ↓hX.g10_0, ↓hX.g10_1, ↓hX.g10_2, ↓hX.g10_3, ↓hX.g10_4, ↓hX.g10_5, ↓hX.g10_6, ↓hX.g10_7, ↓hX.g10_8, ↓hX.g10_9, gt, c11, g0, ↓zB_c e, zB_c e]
        · have c16 : ¬ m 10 16 = -1 := by rw [hC.1]; exact ge
          by_cases g0 : (0 : Int32) < m 10 11
          · simp (disch := ((try simp only [true_or, or_true, hX.k10, hX.k11, hX.k12, hX.k13, hX.k14, hX.k15, hX.k16, hX.k17, hX.k18, hX.k19, hX.k20, hX.l11, hX.l12, hX.l13, hX.l14, hX.l15, hX.l16, hX.l17, hX.l18, hX.l19, hX.l20, h10k]) <;> (try omega))) only [↓reduceIte, ↓z_ite, ↓zR, ↓zB_R, ↓zB_B, ↓zB_ite, ↓zB_gI, ↓zB_pI, ↓zB_pZ, ↓zB_aK, ↓zB_G, ↓zB_lI, ↓zB_lZ, ↓zB_wI, ↓zB_wZ, ↓zB_lIl, ↓zB_wIl, zB_pI, zB_pZ, zB_lI, zB_lZ, zB_wI, zB_wZ, z_addl, z_ladd, z_mull, z_lmul, nI_add, z_subl, Nat.not_lt_zero, z_10, z_01, z_bitc, z_b0, z_b1, ↓zB_Gb, ↓zB_G0, ↓zB_G1, z_eql, z_leq, z_ltl, z_llt, z_eq, z_lt, z_m1lt, hX.k10, hX.k11, hX.k12, hX.k13, hX.k14, hX.k15, hX.k16, hX.k17, hX.k18, hX.k19, hX.k20, hX.l11, hX.l12, hX.l13, hX.l14, hX.l15, hX.l16, hX.l17, hX.l18, hX.l19, hX.l20, h10k, ↓hX.g10_0, ↓hX.g10_1, ↓hX.g10_2, ↓hX.g10_3, ↓hX.g10_4, ↓hX.g10_5, ↓hX.g10_6, ↓hX.g10_7, ↓hX.g10_8, ↓hX.g10_9, gt, g0, c16, ↓zB_c e, zB_c e]
          · simp (disch := ((try simp only [true_or, or_true, hX.k10, hX.k11, hX.k12, hX.k13, hX.k14, hX.k15, hX.k16, hX.k17, hX.k18, hX.k19, hX.k20, hX.l11, hX.l12, hX.l13, hX.l14, hX.l15, hX.l16, hX.l17, hX.l18, hX.l19, hX.l20, h10k]) <;> (try omega))) only [↓reduceIte, ↓z_ite, ↓zR, ↓zB_R, ↓zB_B, ↓zB_ite, ↓zB_gI, ↓zB_pI, ↓zB_pZ, ↓zB_aK, ↓zB_G, ↓zB_lI, ↓zB_lZ, ↓zB_wI, ↓zB_wZ, ↓zB_lIl, ↓zB_wIl, zB_pI, zB_pZ, zB_lI, zB_lZ, zB_wI, zB_wZ, z_addl, z_ladd, z_mull, z_lmul, nI_add, z_subl, Nat.not_lt_zero, z_10, z_01, z_bitc, z_b0, z_b1, ↓zB_Gb, ↓zB_G0, ↓zB_G1, z_eql, z_leq, z_ltl, z_llt, z_eq, z_lt, z_m1lt, hX.k10, hX.k11, hX.k12, hX.k13, hX.k14, hX.k15, hX.k16, hX.k17, hX.k18, hX.k19, hX.k20, hX.l11, hX.l12, hX.l13, hX.l14, hX.l15, hX.l16, hX.l17, hX.l18, hX.l19, hX.l20, h10k, ↓hX.g10_0, ↓hX.g10_1, ↓hX.g10_2, ↓hX.g10_3, ↓hX.g10_4, ↓hX.g10_5, ↓hX.g10_6, ↓hX.g10_7, ↓hX.g10_8, ↓hX.g10_9, gt, g0, ↓zB_c e, zB_c e]
      dsimp only
      rw [this]; rfl
    obtain ⟨acts, hh, nn, ee, ww, oo⟩ := X
    cases acts with
    | nil => exact stop (Or.inl rfl)
    | cons a s =>
      by_cases ge : ee = -1
      · subst ge
        obtain ⟨w0, hQI⟩ := hQ rfl
        have w0 : ww = 0 := w0
        subst w0
        have cq := hC.2.2.2 rfl
        obtain ⟨m1, e1, x1, r1⟩ := f50_c hP hQI hG cq
        obtain ⟨q1, q2⟩ := y_QX_go (X := (a :: s, hh, nn, -1, 0, oo)) hP rfl hQI
        obtain ⟨m', e2, x2, x3, r2⟩ := f44_57_c hP hk0 hl0 N _ m1 (t + 1) F (by omega) (by omega) (by omega) q1 (hG.fr hw r1) x1
        have er : y_run P (N + 1) (a :: s, hh, nn, -1, 0, oo) = y_run P N (y_go P a s hh nn oo) := by
          show (if (-1 : Int32) = -1 then y_run P N (y_go P a s hh nn oo) else (a :: s, hh, nn, -1, 0, oo)) = _
          rw [if_pos rfl]
        rw [er]
        refine ⟨m', ?_, x2, x3, r1.trans r2⟩
        unfold m_W m_B
        have : f44_57b 10 (nI k0) (nI t) (z_hp S m) = some (.inl (10, nI k0, nI (t + 1)), z_hp S m1) := by
          unfold f44_57b
          have c11 : m 10 11 = nI (s.length + 1) := cq.1.1
          have c16 : m 10 16 = -1 := cq.1.2.2.1
          have n2 : y_ht s + a.2.2.2.length + (s.length + 1) ≤ nn := hQI.1.2.1
          have n1 := hQI.1.1
          have gpos : (0 : Int32) < nI (s.length + 1) := by
            have : (nI 0 < nI (s.length + 1)) = (0 < s.length + 1) := z_lt (by decide) (by have : nn ≤ 500 := n1; omega)
            rw [show (0 : Int32) = nI 0 from rfl, this]; omega
          simp (disch := ((try simp only [true_or, or_true, hX.k10, hX.k11, hX.k12, hX.k13, hX.k14, hX.k15, hX.k16, hX.k17, hX.k18, hX.k19, hX.k20, hX.l11, hX.l12, hX.l13, hX.l14, hX.l15, hX.l16, hX.l17, hX.l18, hX.l19, hX.l20, h10k]) <;> (try omega))) only [↓reduceIte, ↓z_ite, ↓zR, ↓zB_R, ↓zB_B, ↓zB_ite, ↓zB_gI, ↓zB_pI, ↓zB_pZ, ↓zB_aK, ↓zB_G, ↓zB_lI, ↓zB_lZ, ↓zB_wI, ↓zB_wZ, ↓zB_lIl, ↓zB_wIl, zB_pI, zB_pZ, zB_lI, zB_lZ, zB_wI, zB_wZ, z_addl, z_ladd, z_mull, z_lmul, nI_add, z_subl, Nat.not_lt_zero, z_10, z_01, z_bitc, z_b0, z_b1, ↓zB_Gb, ↓zB_G0, ↓zB_G1, z_eql, z_leq, z_ltl, z_llt, z_eq, z_lt, z_m1lt, hX.k10, hX.k11, hX.k12, hX.k13, hX.k14, hX.k15, hX.k16, hX.k17, hX.k18, hX.k19, hX.k20, hX.l11, hX.l12, hX.l13, hX.l14, hX.l15, hX.l16, hX.l17, hX.l18, hX.l19, hX.l20, h10k, ↓hX.g10_0, ↓hX.g10_1, ↓hX.g10_2, ↓hX.g10_3, ↓hX.g10_4, ↓hX.g10_5, ↓hX.g10_6, ↓hX.g10_7, ↓hX.g10_8, ↓hX.g10_9, gt, c11, gpos, c16, ↓zB_c e1, zB_c e1]
        dsimp only
        rw [this]
        exact e2
      · have er : y_run P (N + 1) (a :: s, hh, nn, ee, ww, oo) = (a :: s, hh, nn, ee, ww, oo) := by
          show (if ee = -1 then y_run P N (y_go P a s hh nn oo) else (a :: s, hh, nn, ee, ww, oo)) = _
          rw [if_neg ge]
        rw [er]
        exact stop (Or.inr ge)
end
