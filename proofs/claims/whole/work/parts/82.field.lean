/-! a field more -/
section
variable {P : z_Pg} {c n : Nat} {v : Int32}
theorem z_addF_s : z_fld (z_addF P c n v) c n = v := if_pos ⟨rfl, rfl⟩
theorem z_addF_o {c' n' : Nat} (h : ¬ (c' = c ∧ n' = n)) : z_fld (z_addF P c n v) c' n' = z_fld P c' n' := if_neg h
theorem z_addF_wf (hw : z_wf P) (hv : ∃ t, z_ty P t ∧ v = t + 2) : z_wf (z_addF P c n v) := by
  refine ⟨hw.1, fun c' n' hc' hn' => ?_, hw.2.2.1, fun k hk => z_wH_mono (Nat.le_refl _) rfl (hw.2.2.2.1 k hk), hw.2.2.2.2.1, hw.2.2.2.2.2⟩
  by_cases g : c' = c ∧ n' = n
  · refine Or.inr ?_
    obtain ⟨t, h1, h2⟩ := hv
    refine ⟨t, h1, ?_⟩
    rw [g.1, g.2, z_addF_s]; exact h2
  · rw [z_addF_o g]
    exact hw.2.1 c' n' hc' hn'
theorem z_nfl_le : ∀ i, z_nfl P c i ≤ i
  | 0 => Nat.le_refl _
  | i + 1 => by
    have := z_nfl_le i
    show z_nfl P c i + _ ≤ i + 1
    split <;> omega
theorem z_ty_rng {t : Int32} (hw : z_wpar P) (ht : z_ty P t) : t = -1 ∨ ∃ d, d < 6 ∧ t = nI d := by
  have := hw.1
  rcases ht with g | ⟨d, h1, h2⟩
  · exact Or.inl g
  · exact Or.inr ⟨d, by omega, h2⟩
theorem z_ty_2 {t : Int32} (hw : z_wpar P) (ht : z_ty P t) : t + 2 ≠ 0 ∧ t + 2 - 2 = t := by
  rcases z_ty_rng hw ht with g | ⟨d, h1, h2⟩
  · rw [g]; decide
  · rw [h2]
    have : d = 0 ∨ d = 1 ∨ d = 2 ∨ d = 3 ∨ d = 4 ∨ d = 5 := by omega
    rcases this with g | g | g | g | g | g <;> rw [g] <;> decide
theorem z_ft_ne {P : z_Pg} (hw : z_wf P) {c n : Nat} (hc : c < z_nc P) (hn : n < 16) : (z_ft P c n = -3) = (z_fld P c n = 0) := by
  unfold z_ft
  by_cases g : z_fld P c n = 0
  · rw [if_pos g]; simp [g]
  · rw [if_neg g]
    rcases hw.2.1 c n hc hn with g2 | ⟨t, h1, h2⟩
    · exact absurd g2 g
    · rw [h2, (z_ty_2 hw.1 h1).2]
      have : ¬ t = -3 := by
        rcases z_ty_rng hw.1 h1 with g3 | ⟨d, h3, h4⟩
        · rw [g3]; decide
        · rw [h4]
          have : d = 0 ∨ d = 1 ∨ d = 2 ∨ d = 3 ∨ d = 4 ∨ d = 5 := by omega
          rcases this with g | g | g | g | g | g <;> rw [g] <;> decide
      simp [this, (z_ty_2 hw.1 h1).1]
variable {S : z_S} {m : z_m} {p : Nat}
/-- how many of its own, by the class -/
theorem f72_c (hp : z_PS S p) (h : z_cc m p P) (hw : z_wf P) (hc : c < z_nc P) : f72_23 p (nI c) 0 0 (z_hp S m) = some (nI (z_nfl P c 16), z_hp S m) := by
  have h6 := hw.1.1
  have key := z_loopI (f := fun s => f72_23b (s.1) (s.2.1) (s.2.2.1) (s.2.2.2)) (S := S) (fun k s m' => m' = m ∧ ∃ i, k = 16 - i ∧ i ≤ 16 ∧ s = (p, nI c, nI (z_nfl P c i), nI i)) (fun r m' => m' = m ∧ r = nI (z_nfl P c 16)) ?_ 1000000 16 (p, nI c, 0, 0) m ⟨rfl, 0, rfl, by decide, rfl⟩ (by decide)
  · obtain ⟨r, m', e, rfl, rfl⟩ := key
    exact e
  · rintro k s m' ⟨rfl, i, rfl, hi, rfl⟩
    dsimp only
    have hle := z_nfl_le (P := P) (c := c) i
    rcases Nat.eq_or_lt_of_le hi with hi2 | hi2
    · refine Or.inr ⟨nI (z_nfl P c 16), m', ?_, rfl, rfl⟩
      unfold f72_23b f72_56
      rw [hi2]
      simp (disch := ((try simp only [true_or, or_true, hp.k, hp.k1, hp.k2, hp.k3, hp.k4, hp.k5, hp.k6, hp.k7, hp.k8, hp.k9, hp.k10, hp.l1, hp.l2, hp.l3, hp.l4, hp.l5, hp.l6, hp.l7, hp.l8, hp.l9, hp.l10]) <;> (try omega))) only [↓reduceIte, ↓z_ite, ↓zR, ↓zB_R, ↓zB_B, ↓zB_ite, ↓zB_gI, ↓zB_pI, ↓zB_pZ, ↓zB_aK, ↓zB_G, ↓zB_lI, ↓zB_lZ, ↓zB_wI, ↓zB_wZ, ↓zB_lIl, ↓zB_wIl, zB_pI, zB_pZ, zB_lI, zB_lZ, zB_wI, zB_wZ, z_addl, z_ladd, z_mull, z_lmul, nI_add, z_subl, Nat.not_lt_zero, z_10, z_01, z_bitc, z_b0, z_b1, ↓zB_Gb, ↓zB_G0, ↓zB_G1, z_eql, z_leq, z_ltl, z_llt, z_eq, z_lt, z_m1lt, hp.k, hp.k1, hp.k2, hp.k3, hp.k4, hp.k5, hp.k6, hp.k7, hp.k8, hp.k9, hp.k10, hp.l1, hp.l2, hp.l3, hp.l4, hp.l5, hp.l6, hp.l7, hp.l8, hp.l9, hp.l10, ↓hp.g0, ↓hp.g1, ↓hp.g2, ↓hp.g3, ↓hp.g4, ↓hp.g5, ↓hp.g6, ↓hp.g7, ↓hp.g8, ↓hp.g9, ↓hp.gb, hp.gb, Nat.lt_irrefl]
    · have e := (h.2 c hc).2.2 i hi2
      have e2 := z_ft_ne hw hc hi2
      by_cases g : z_fld P c i = 0
      · refine Or.inl ⟨(p, nI c, nI (z_nfl P c (i + 1)), nI (i + 1)), m', 16 - (i + 1), ?_, by omega, rfl, i + 1, rfl, hi2, rfl⟩
        have e3 : z_nfl P c (i + 1) = z_nfl P c i := by
          show z_nfl P c i + _ = _
          rw [if_pos g]; rfl
        rw [e3]
        unfold f72_23b f72_50
        simp (disch := ((try simp only [true_or, or_true, hp.k, hp.k1, hp.k2, hp.k3, hp.k4, hp.k5, hp.k6, hp.k7, hp.k8, hp.k9, hp.k10, hp.l1, hp.l2, hp.l3, hp.l4, hp.l5, hp.l6, hp.l7, hp.l8, hp.l9, hp.l10]) <;> (try omega))) only [↓reduceIte, ↓z_ite, ↓zR, ↓zB_R, ↓zB_B, ↓zB_ite, ↓zB_gI, ↓zB_pI, ↓zB_pZ, ↓zB_aK, ↓zB_G, ↓zB_lI, ↓zB_lZ, ↓zB_wI, ↓zB_wZ, ↓zB_lIl, ↓zB_wIl, zB_pI, zB_pZ, zB_lI, zB_lZ, zB_wI, zB_wZ, z_addl, z_ladd, z_mull, z_lmul, nI_add, z_subl, Nat.not_lt_zero, z_10, z_01, z_bitc, z_b0, z_b1, ↓zB_Gb, ↓zB_G0, ↓zB_G1, z_eql, z_leq, z_ltl, z_llt, z_eq, z_lt, z_m1lt, hp.k, hp.k1, hp.k2, hp.k3, hp.k4, hp.k5, hp.k6, hp.k7, hp.k8, hp.k9, hp.k10, hp.l1, hp.l2, hp.l3, hp.l4, hp.l5, hp.l6, hp.l7, hp.l8, hp.l9, hp.l10, ↓hp.g0, ↓hp.g1, ↓hp.g2, ↓hp.g3, ↓hp.g4, ↓hp.g5, ↓hp.g6, ↓hp.g7, ↓hp.g8, ↓hp.g9, ↓hp.gb, hp.gb, hi2, e, e2, g]
      · refine Or.inl ⟨(p, nI c, nI (z_nfl P c (i + 1)), nI (i + 1)), m', 16 - (i + 1), ?_, by omega, rfl, i + 1, rfl, hi2, rfl⟩
        have e3 : z_nfl P c (i + 1) = z_nfl P c i + 1 := by
          show z_nfl P c i + _ = _
          rw [if_neg g]
        rw [e3]
        unfold f72_23b f72_50
        simp (disch := ((try simp only [true_or, or_true, hp.k, hp.k1, hp.k2, hp.k3, hp.k4, hp.k5, hp.k6, hp.k7, hp.k8, hp.k9, hp.k10, hp.l1, hp.l2, hp.l3, hp.l4, hp.l5, hp.l6, hp.l7, hp.l8, hp.l9, hp.l10]) <;> (try omega))) only [↓reduceIte, ↓z_ite, ↓zR, ↓zB_R, ↓zB_B, ↓zB_ite, ↓zB_gI, ↓zB_pI, ↓zB_pZ, ↓zB_aK, ↓zB_G, ↓zB_lI, ↓zB_lZ, ↓zB_wI, ↓zB_wZ, ↓zB_lIl, ↓zB_wIl, zB_pI, zB_pZ, zB_lI, zB_lZ, zB_wI, zB_wZ, z_addl, z_ladd, z_mull, z_lmul, nI_add, z_subl, Nat.not_lt_zero, z_10, z_01, z_bitc, z_b0, z_b1, ↓zB_Gb, ↓zB_G0, ↓zB_G1, z_eql, z_leq, z_ltl, z_llt, z_eq, z_lt, z_m1lt, hp.k, hp.k1, hp.k2, hp.k3, hp.k4, hp.k5, hp.k6, hp.k7, hp.k8, hp.k9, hp.k10, hp.l1, hp.l2, hp.l3, hp.l4, hp.l5, hp.l6, hp.l7, hp.l8, hp.l9, hp.l10, ↓hp.g0, ↓hp.g1, ↓hp.g2, ↓hp.g3, ↓hp.g4, ↓hp.g5, ↓hp.g6, ↓hp.g7, ↓hp.g8, ↓hp.g9, ↓hp.gb, hp.gb, hi2, e, e2, g]
/-- Program.addField -/
theorem f72_sp (hp : z_PS S p) (h : z_cp m p P) (hw : z_wf P) (hc : c < z_nc P) (hn : n < 16) {t : Int32} (ht : z_ty P t) : ∃ m', f72 p (nI c) (nI n) t (z_hp S m) = some (nI (z_nfl (z_addF P c n (t + 2)) c 16), z_hp S m') ∧ z_cp m' p (z_addF P c n (t + 2)) ∧ m' p 14 = 0 ∧ ∀ a, a ≠ p → a ≠ p + 3 → m' a = m a := by
  obtain ⟨⟨c1, c2⟩, ⟨d1, d2, d3⟩, e1, e2⟩ := h
  have h6 := hw.1.1
  have t2 := z_ty_2 hw.1 ht
  have r : ∀ a, a ≠ p → a ≠ p + 3 → z_up (z_up m (p + 3) (c * 16 + n) t) p 14 0 a = m a := fun a x1 x2 => by rw [z_up_row x1, z_up_row x2]
  have r0 : ∀ j, j ≠ 14 → z_up (z_up m (p + 3) (c * 16 + n) t) p 14 0 p j = m p j := fun j x1 => by rw [z_up_b x1, z_up_a (by omega)]
  have hcp : z_cp (z_up (z_up m (p + 3) (c * 16 + n) t) p 14 0) p (z_addF P c n (t + 2)) := by
    refine ⟨⟨by rw [r0 _ (by decide)]; exact c1, fun c' hc' => ⟨by rw [r _ (by omega) (by omega)]; exact (c2 c' hc').1, fun d hd => by rw [r _ (by omega) (by omega), z_blw_congr (P' := z_addF P c n (t + 2)) hw.1 (fun _ _ => rfl) hc' d]; exact (c2 c' hc').2.1 d hd, fun n' hn' => ?_⟩⟩, ⟨by rw [r0 _ (by decide)]; exact d1, by rw [r0 _ (by decide)]; exact d2, fun k hk hl => ?_⟩, fun k hk => ?_, fun k hk hl => ?_⟩
    · rw [z_up_a (by omega)]
      by_cases g : c' = c ∧ n' = n
      · obtain ⟨rfl, rfl⟩ := g
        rw [z_up_s]
        unfold z_ft
        rw [z_addF_s, if_neg t2.1, t2.2]
      · rw [z_up_b (by omega)]
        unfold z_ft
        rw [z_addF_o g]
        exact (c2 c' hc').2.2 n' hn'
    · have := d3 k hk hl
      unfold z_ch at *
      rw [r (p + 4) (by omega) (by omega), r (p + 5) (by omega) (by omega), r (p + 6) (by omega) (by omega), r (p + 7) (by omega) (by omega), r (p + 8) (by omega) (by omega), r (p + 9) (by omega) (by omega)]
      exact this
    · rw [r _ (by unfold z_bi; omega) (by unfold z_bi; omega)]; exact e1 k hk
    · exact z_cb_fr (fun a x1 x2 => r a (by unfold z_bi at x1; omega) (by unfold z_bi at x1; omega)) (e2 k hk hl)
  have ec := f72_c hp hcp.1 (z_addF_wf hw ⟨t, ht, rfl⟩) (c := c) hc
  refine ⟨_, ?_, hcp, z_up_s _ _ _ _, r⟩
  unfold f72
  simp (disch := ((try simp only [true_or, or_true, hp.k, hp.k1, hp.k2, hp.k3, hp.k4, hp.k5, hp.k6, hp.k7, hp.k8, hp.k9, hp.k10, hp.l1, hp.l2, hp.l3, hp.l4, hp.l5, hp.l6, hp.l7, hp.l8, hp.l9, hp.l10, or_true]) <;> (try omega))) only [↓reduceIte, ↓z_ite, ↓zR, ↓zB_R, ↓zB_B, ↓zB_ite, ↓zB_gI, ↓zB_pI, ↓zB_pZ, ↓zB_aK, ↓zB_G, ↓zB_lI, ↓zB_lZ, ↓zB_wI, ↓zB_wZ, ↓zB_lIl, ↓zB_wIl, zB_pI, zB_pZ, zB_lI, zB_lZ, zB_wI, zB_wZ, z_addl, z_ladd, z_mull, z_lmul, nI_add, z_subl, Nat.not_lt_zero, z_10, z_01, z_bitc, z_b0, z_b1, ↓zB_Gb, ↓zB_G0, ↓zB_G1, z_eql, z_leq, z_ltl, z_llt, z_eq, z_lt, z_m1lt, hp.k, hp.k1, hp.k2, hp.k3, hp.k4, hp.k5, hp.k6, hp.k7, hp.k8, hp.k9, hp.k10, hp.l1, hp.l2, hp.l3, hp.l4, hp.l5, hp.l6, hp.l7, hp.l8, hp.l9, hp.l10, or_true, ↓hp.g0, ↓hp.g1, ↓hp.g2, ↓hp.g3, ↓hp.g4, ↓hp.g5, ↓hp.g6, ↓hp.g7, ↓hp.g8, ↓hp.g9, ↓hp.gb, hp.gb, ec]
variable {A : z_A}
theorem c_fieldOf (hw : z_WA A) (h : z_CR S m A) (x y t : Int32) : ∃ S1 m1, f136 0 x y t (z_hp S m) = some ((z_ofieldOf A x y t).1, z_hp S1 m1) ∧ z_CR S1 m1 (z_ofieldOf A x y t).2 ∧ z_SS S S1 ∧ ∀ a, 2390 ≤ a → m1 a = m a := by
  have h0 := h
  obtain ⟨sn, sx, sp, hI, hCM⟩ := h0
  have hX := hI.1
  have hs := hI.2.2.2.1.1
  have lo := z_pid_lo sn
  have hp := hI.2.2.1 sn hs
  have hn := hI.2.2.2.2.2.1
  have hc := hCM.2.2.1.1.1
  have hwf := hw.2.1.1
  have h6 := hwf.1.1
  have ref : ∀ E, f136 0 x y t (z_hp S m) = some (.inr E, z_hp (z_Sx S) m) → ∃ S1 m1, f136 0 x y t (z_hp S m) = some ((((.inr E, A) : (Int32 ⊕ Nat) × z_A)).1, z_hp S1 m1) ∧ z_CR S1 m1 (((.inr E, A) : (Int32 ⊕ Nat) × z_A)).2 ∧ z_SS S S1 ∧ ∀ a, 2390 ≤ a → m1 a = m a := fun E e => ⟨z_Sx S, m, e, z_CR_x h, z_SS.x S, fun _ _ => rfl⟩
  unfold z_ofieldOf
  by_cases gx : z_in x (z_nc A.2.1) = false
  · rw [if_pos gx]
    refine ref 2 ?_
    unfold f136
    simp (disch := ((try simp only [true_or, or_true, hX.k0, hX.k1, hX.k2, hX.k3, hX.k4, hX.k5, hX.k6, hX.k7, hX.l2, hX.l3, hX.l4, hX.l5, hX.l6, hX.l7]) <;> (try omega))) only [↓reduceIte, ↓z_ite, ↓zR, ↓zB_R, ↓zB_B, ↓zB_ite, ↓zB_gI, ↓zB_pI, ↓zB_pZ, ↓zB_aK, ↓zB_G, ↓zB_lI, ↓zB_lZ, ↓zB_wI, ↓zB_wZ, ↓zB_lIl, ↓zB_wIl, zB_pI, zB_pZ, zB_lI, zB_lZ, zB_wI, zB_wZ, z_addl, z_ladd, z_mull, z_lmul, nI_add, z_subl, Nat.not_lt_zero, z_10, z_01, z_bitc, z_b0, z_b1, ↓zB_Gb, ↓zB_G0, ↓zB_G1, z_eql, z_leq, z_ltl, z_llt, z_eq, z_lt, z_m1lt, hX.k0, hX.k1, hX.k2, hX.k3, hX.k4, hX.k5, hX.k6, hX.k7, hX.l2, hX.l3, hX.l4, hX.l5, hX.l6, hX.l7, ↓hX.g0_0, ↓hX.g0_1, ↓hX.g0_2, ↓hX.g0_3, ↓hX.g0_4, ↓hX.g0_5, ↓hX.g0_6, ↓hX.g0_7, ↓hX.g0_8, ↓hX.g0_9, ↓hX.g1_0, ↓hX.g1_1, ↓hX.g1_2, ↓hX.g1_3, ↓hX.g1_4, ↓hX.g1_5, ↓zT_r (f162_n hX hn hp hc gx), zT_r (f162_n hX hn hp hc gx)]
  rw [if_neg gx]
  have e1 := f162_y hX hn hp hc (z_not_false gx)
  by_cases gt : (t == -1 || z_in t (z_nc A.2.1)) = false
  · rw [if_pos gt]
    refine ref 2 ?_
    have g1 : ¬ t = -1 := fun g1 => by rw [g1] at gt; simp at gt
    have g2 : z_in t (z_nc A.2.1) = false := by
      rw [show (t == -1) = false by simpa using g1] at gt
      simpa using gt
    have e2 : f163 0 t (z_hp S m) = some (.inr 2, z_hp (z_Sx S) m) := by
      unfold f163
      simp (disch := ((try simp only [true_or, or_true, hX.k0, hX.k1, hX.k2, hX.k3, hX.k4, hX.k5, hX.k6, hX.k7, hX.l2, hX.l3, hX.l4, hX.l5, hX.l6, hX.l7]) <;> (try omega))) only [↓reduceIte, ↓z_ite, ↓zR, ↓zB_R, ↓zB_B, ↓zB_ite, ↓zB_gI, ↓zB_pI, ↓zB_pZ, ↓zB_aK, ↓zB_G, ↓zB_lI, ↓zB_lZ, ↓zB_wI, ↓zB_wZ, ↓zB_lIl, ↓zB_wIl, zB_pI, zB_pZ, zB_lI, zB_lZ, zB_wI, zB_wZ, z_addl, z_ladd, z_mull, z_lmul, nI_add, z_subl, Nat.not_lt_zero, z_10, z_01, z_bitc, z_b0, z_b1, ↓zB_Gb, ↓zB_G0, ↓zB_G1, z_eql, z_leq, z_ltl, z_llt, z_eq, z_lt, z_m1lt, hX.k0, hX.k1, hX.k2, hX.k3, hX.k4, hX.k5, hX.k6, hX.k7, hX.l2, hX.l3, hX.l4, hX.l5, hX.l6, hX.l7, ↓hX.g0_0, ↓hX.g0_1, ↓hX.g0_2, ↓hX.g0_3, ↓hX.g0_4, ↓hX.g0_5, ↓hX.g0_6, ↓hX.g0_7, ↓hX.g0_8, ↓hX.g0_9, ↓hX.g1_0, ↓hX.g1_1, ↓hX.g1_2, ↓hX.g1_3, ↓hX.g1_4, ↓hX.g1_5, g1, ↓zT_r (f162_n hX hn hp hc g2), zT_r (f162_n hX hn hp hc g2)]
    unfold f136
    simp (disch := ((try simp only [true_or, or_true, hX.k0, hX.k1, hX.k2, hX.k3, hX.k4, hX.k5, hX.k6, hX.k7, hX.l2, hX.l3, hX.l4, hX.l5, hX.l6, hX.l7]) <;> (try omega))) only [↓reduceIte, ↓z_ite, ↓zR, ↓zB_R, ↓zB_B, ↓zB_ite, ↓zB_gI, ↓zB_pI, ↓zB_pZ, ↓zB_aK, ↓zB_G, ↓zB_lI, ↓zB_lZ, ↓zB_wI, ↓zB_wZ, ↓zB_lIl, ↓zB_wIl, zB_pI, zB_pZ, zB_lI, zB_lZ, zB_wI, zB_wZ, z_addl, z_ladd, z_mull, z_lmul, nI_add, z_subl, Nat.not_lt_zero, z_10, z_01, z_bitc, z_b0, z_b1, ↓zB_Gb, ↓zB_G0, ↓zB_G1, z_eql, z_leq, z_ltl, z_llt, z_eq, z_lt, z_m1lt, hX.k0, hX.k1, hX.k2, hX.k3, hX.k4, hX.k5, hX.k6, hX.k7, hX.l2, hX.l3, hX.l4, hX.l5, hX.l6, hX.l7, ↓hX.g0_0, ↓hX.g0_1, ↓hX.g0_2, ↓hX.g0_3, ↓hX.g0_4, ↓hX.g0_5, ↓hX.g0_6, ↓hX.g0_7, ↓hX.g0_8, ↓hX.g0_9, ↓hX.g1_0, ↓hX.g1_1, ↓hX.g1_2, ↓hX.g1_3, ↓hX.g1_4, ↓hX.g1_5, ↓zT_l e1, zT_l e1, ↓zT_r e2, zT_r e2]
  rw [if_neg gt]
  have ht : z_ty A.2.1 t := by
    have gt := z_not_false gt
    by_cases g1 : t = -1
    · exact Or.inl g1
    · rw [show (t == -1) = false by simpa using g1] at gt
      exact Or.inr ((z_in_iff (by omega)).mp (by simpa using gt))
  have e2 : f163 0 t (z_hp S m) = some (.inl (), z_hp S m) := by
    unfold f163 f163_10
    by_cases g1 : t = -1
    · simp (disch := ((try simp only [true_or, or_true, hX.k0, hX.k1, hX.k2, hX.k3, hX.k4, hX.k5, hX.k6, hX.k7, hX.l2, hX.l3, hX.l4, hX.l5, hX.l6, hX.l7]) <;> (try omega))) only [↓reduceIte, ↓z_ite, ↓zR, ↓zB_R, ↓zB_B, ↓zB_ite, ↓zB_gI, ↓zB_pI, ↓zB_pZ, ↓zB_aK, ↓zB_G, ↓zB_lI, ↓zB_lZ, ↓zB_wI, ↓zB_wZ, ↓zB_lIl, ↓zB_wIl, zB_pI, zB_pZ, zB_lI, zB_lZ, zB_wI, zB_wZ, z_addl, z_ladd, z_mull, z_lmul, nI_add, z_subl, Nat.not_lt_zero, z_10, z_01, z_bitc, z_b0, z_b1, ↓zB_Gb, ↓zB_G0, ↓zB_G1, z_eql, z_leq, z_ltl, z_llt, z_eq, z_lt, z_m1lt, hX.k0, hX.k1, hX.k2, hX.k3, hX.k4, hX.k5, hX.k6, hX.k7, hX.l2, hX.l3, hX.l4, hX.l5, hX.l6, hX.l7, ↓hX.g0_0, ↓hX.g0_1, ↓hX.g0_2, ↓hX.g0_3, ↓hX.g0_4, ↓hX.g0_5, ↓hX.g0_6, ↓hX.g0_7, ↓hX.g0_8, ↓hX.g0_9, ↓hX.g1_0, ↓hX.g1_1, ↓hX.g1_2, ↓hX.g1_3, ↓hX.g1_4, ↓hX.g1_5, g1]
    · have g2 : z_in t (z_nc A.2.1) = true := by
        rcases ht with g | g
        · exact absurd g g1
        · exact (z_in_iff (by omega)).mpr g
      simp (disch := ((try simp only [true_or, or_true, hX.k0, hX.k1, hX.k2, hX.k3, hX.k4, hX.k5, hX.k6, hX.k7, hX.l2, hX.l3, hX.l4, hX.l5, hX.l6, hX.l7]) <;> (try omega))) only [↓reduceIte, ↓z_ite, ↓zR, ↓zB_R, ↓zB_B, ↓zB_ite, ↓zB_gI, ↓zB_pI, ↓zB_pZ, ↓zB_aK, ↓zB_G, ↓zB_lI, ↓zB_lZ, ↓zB_wI, ↓zB_wZ, ↓zB_lIl, ↓zB_wIl, zB_pI, zB_pZ, zB_lI, zB_lZ, zB_wI, zB_wZ, z_addl, z_ladd, z_mull, z_lmul, nI_add, z_subl, Nat.not_lt_zero, z_10, z_01, z_bitc, z_b0, z_b1, ↓zB_Gb, ↓zB_G0, ↓zB_G1, z_eql, z_leq, z_ltl, z_llt, z_eq, z_lt, z_m1lt, hX.k0, hX.k1, hX.k2, hX.k3, hX.k4, hX.k5, hX.k6, hX.k7, hX.l2, hX.l3, hX.l4, hX.l5, hX.l6, hX.l7, ↓hX.g0_0, ↓hX.g0_1, ↓hX.g0_2, ↓hX.g0_3, ↓hX.g0_4, ↓hX.g0_5, ↓hX.g0_6, ↓hX.g0_7, ↓hX.g0_8, ↓hX.g0_9, ↓hX.g1_0, ↓hX.g1_1, ↓hX.g1_2, ↓hX.g1_3, ↓hX.g1_4, ↓hX.g1_5, g1, ↓zT_l (f162_y hX hn hp hc g2), zT_l (f162_y hX hn hp hc g2)]
  by_cases gy : z_in y 16 = false
  · rw [if_pos gy]
    refine ref 1 ?_
    unfold f136
    simp (disch := ((try simp only [true_or, or_true, hX.k0, hX.k1, hX.k2, hX.k3, hX.k4, hX.k5, hX.k6, hX.k7, hX.l2, hX.l3, hX.l4, hX.l5, hX.l6, hX.l7]) <;> (try omega))) only [↓reduceIte, ↓z_ite, ↓zR, ↓zB_R, ↓zB_B, ↓zB_ite, ↓zB_gI, ↓zB_pI, ↓zB_pZ, ↓zB_aK, ↓zB_G, ↓zB_lI, ↓zB_lZ, ↓zB_wI, ↓zB_wZ, ↓zB_lIl, ↓zB_wIl, zB_pI, zB_pZ, zB_lI, zB_lZ, zB_wI, zB_wZ, z_addl, z_ladd, z_mull, z_lmul, nI_add, z_subl, Nat.not_lt_zero, z_10, z_01, z_bitc, z_b0, z_b1, ↓zB_Gb, ↓zB_G0, ↓zB_G1, z_eql, z_leq, z_ltl, z_llt, z_eq, z_lt, z_m1lt, hX.k0, hX.k1, hX.k2, hX.k3, hX.k4, hX.k5, hX.k6, hX.k7, hX.l2, hX.l3, hX.l4, hX.l5, hX.l6, hX.l7, ↓hX.g0_0, ↓hX.g0_1, ↓hX.g0_2, ↓hX.g0_3, ↓hX.g0_4, ↓hX.g0_5, ↓hX.g0_6, ↓hX.g0_7, ↓hX.g0_8, ↓hX.g0_9, ↓hX.g1_0, ↓hX.g1_1, ↓hX.g1_2, ↓hX.g1_3, ↓hX.g1_4, ↓hX.g1_5, ↓zT_l e1, zT_l e1, ↓zT_l e2, zT_l e2, ↓zT_r (f160_n gy), zT_r (f160_n gy)]
  rw [if_neg gy]
  obtain ⟨c, hcn, rfl⟩ := (z_in_iff (by omega)).mp (z_not_false gx)
  obtain ⟨n, hnn, rfl⟩ := (z_in_iff (by decide)).mp (z_not_false gy)
  have e3 := f160_y (S := S) (m := m) hnn
  have e4 := f87_sp hp hc hwf hcn hnn
  rw [nI_clamp (by omega), nI_clamp (by omega)]
  by_cases gf : z_haf A.2.1 c n = true
  · rw [if_pos gf]
    refine ref 0 ?_
    rw [gf] at e4
    unfold f136
    simp (disch := ((try simp only [true_or, or_true, hX.k0, hX.k8, hX.k9, hX.l9, hp.k, hp.k1, hp.k2, hp.k3, hp.k4, hp.k5, hp.k6, hp.k7, hp.k8, hp.k9, hp.k10, hp.l1, hp.l2, hp.l3, hp.l4, hp.l5, hp.l6, hp.l7, hp.l8, hp.l9, hp.l10]) <;> (try omega))) only [↓reduceIte, ↓z_ite, ↓zR, ↓zB_R, ↓zB_B, ↓zB_ite, ↓zB_gI, ↓zB_pI, ↓zB_pZ, ↓zB_aK, ↓zB_G, ↓zB_lI, ↓zB_lZ, ↓zB_wI, ↓zB_wZ, ↓zB_lIl, ↓zB_wIl, zB_pI, zB_pZ, zB_lI, zB_lZ, zB_wI, zB_wZ, z_addl, z_ladd, z_mull, z_lmul, nI_add, z_subl, Nat.not_lt_zero, z_10, z_01, z_bitc, z_b0, z_b1, ↓zB_Gb, ↓zB_G0, ↓zB_G1, z_eql, z_leq, z_ltl, z_llt, z_eq, z_lt, z_m1lt, hX.k0, hX.k8, hX.k9, hX.l9, hp.k, hp.k1, hp.k2, hp.k3, hp.k4, hp.k5, hp.k6, hp.k7, hp.k8, hp.k9, hp.k10, hp.l1, hp.l2, hp.l3, hp.l4, hp.l5, hp.l6, hp.l7, hp.l8, hp.l9, hp.l10, ↓hX.g0_0, ↓hX.g0_1, ↓hX.g0_2, ↓hX.g0_3, ↓hX.g0_4, ↓hX.g0_5, ↓hX.g0_6, ↓hX.g0_7, ↓hX.g0_8, ↓hX.g0_9, ↓hX.g8_0, ↓hp.g0, ↓hp.g1, ↓hp.g2, ↓hp.g3, ↓hp.g4, ↓hp.g5, ↓hp.g6, ↓hp.g7, ↓hp.g8, ↓hp.g9, ↓hp.gb, hp.gb, ↓zT_l e1, zT_l e1, ↓zT_l e2, zT_l e2, ↓zT_l e3, zT_l e3, ↓z_gnow hX hn, z_gnow hX hn, ↓zB_c e4, zB_c e4, Bool.true_eq_false, z_thw]
  rw [if_neg gf]
  have gf : z_haf A.2.1 c n = false := by simpa using gf
  rw [gf] at e4
  have hD := z_CM_dp hw hI hCM
  obtain ⟨m1, e, c1, c14, fr⟩ := f72_sp (S := S) (m := z_up m 0 13 0) hp hD.2.2.1.1.1 hwf hcn hnn ht
  have hfr : ∀ a, a ≠ 9 → (a < z_pid sn ∨ z_pid sn + 179 ≤ a) → m1 a = z_up m 0 13 0 a := fun a _ ha => fr a (by omega) (by omega)
  have hWd : z_WA (z_dp A) := z_WA_dp (P := A.2.1) hw (Nat.le_refl _) hwf hw.2.1.2
  refine ⟨S, m1, ?_, ⟨sn, sx, sp, hI, z_CM_now (A := z_dp A) hWd hI hD hfr ⟨c1, Or.inl c14, fun g => ?_⟩⟩, z_SS.refl S, fun a ha => ?_⟩
  · unfold f136
    simp (disch := ((try simp only [true_or, or_true, hX.k0, hX.k8, hX.k9, hX.l9, hp.k, hp.k1, hp.k2, hp.k3, hp.k4, hp.k5, hp.k6, hp.k7, hp.k8, hp.k9, hp.k10, hp.l1, hp.l2, hp.l3, hp.l4, hp.l5, hp.l6, hp.l7, hp.l8, hp.l9, hp.l10]) <;> (try omega))) only [↓reduceIte, ↓z_ite, ↓zR, ↓zB_R, ↓zB_B, ↓zB_ite, ↓zB_gI, ↓zB_pI, ↓zB_pZ, ↓zB_aK, ↓zB_G, ↓zB_lI, ↓zB_lZ, ↓zB_wI, ↓zB_wZ, ↓zB_lIl, ↓zB_wIl, zB_pI, zB_pZ, zB_lI, zB_lZ, zB_wI, zB_wZ, z_addl, z_ladd, z_mull, z_lmul, nI_add, z_subl, Nat.not_lt_zero, z_10, z_01, z_bitc, z_b0, z_b1, ↓zB_Gb, ↓zB_G0, ↓zB_G1, z_eql, z_leq, z_ltl, z_llt, z_eq, z_lt, z_m1lt, hX.k0, hX.k8, hX.k9, hX.l9, hp.k, hp.k1, hp.k2, hp.k3, hp.k4, hp.k5, hp.k6, hp.k7, hp.k8, hp.k9, hp.k10, hp.l1, hp.l2, hp.l3, hp.l4, hp.l5, hp.l6, hp.l7, hp.l8, hp.l9, hp.l10, ↓hX.g0_0, ↓hX.g0_1, ↓hX.g0_2, ↓hX.g0_3, ↓hX.g0_4, ↓hX.g0_5, ↓hX.g0_6, ↓hX.g0_7, ↓hX.g0_8, ↓hX.g0_9, ↓hX.g8_0, ↓hp.g0, ↓hp.g1, ↓hp.g2, ↓hp.g3, ↓hp.g4, ↓hp.g5, ↓hp.g6, ↓hp.g7, ↓hp.g8, ↓hp.g9, ↓hp.gb, hp.gb, ↓zT_l e1, zT_l e1, ↓zT_l e2, zT_l e2, ↓zT_l e3, zT_l e3, ↓z_gnow hX hn, z_gnow hX hn, ↓zB_c e4, zB_c e4, ↓zB_c e, zB_c e]
    rfl
  · rw [c14] at g; exact absurd g (by decide)
  · rw [hfr a (by omega) (by unfold z_pid; omega), z_up_row (by omega)]
/-- how many of its own, by the reference -/
theorem f217_c (hM : z_MS S) {P : z_Pg} (h : z_mb m 0 P) {c : Nat} (hc : c < z_nc P) : f217_97 2390 (nI c) 0 0 (z_hp S m) = some (nI (z_nfl P c 16), z_hp S m) := by
  have h6 := h.2.1
  have key := z_loopI (f := fun s => f217_97b (s.1) (s.2.1) (s.2.2.1) (s.2.2.2)) (S := S) (fun k s m' => m' = m ∧ ∃ i, k = 16 - i ∧ i ≤ 16 ∧ s = (2390, nI c, nI (z_nfl P c i), nI i)) (fun r m' => m' = m ∧ r = nI (z_nfl P c 16)) ?_ 1000000 16 (2390, nI c, 0, 0) m ⟨rfl, 0, rfl, by decide, rfl⟩ (by decide)
  · obtain ⟨r, m', e, rfl, rfl⟩ := key
    exact e
  · rintro k s m' ⟨rfl, i, rfl, hi, rfl⟩
    dsimp only
    have hle := z_nfl_le (P := P) (c := c) i
    rcases Nat.eq_or_lt_of_le hi with hi2 | hi2
    · refine Or.inr ⟨nI (z_nfl P c 16), m', ?_, rfl, rfl⟩
      unfold f217_97b f217_131
      rw [hi2]
      simp (disch := ((try simp only [true_or, or_true, hM.k, hM.k2391, hM.k2392, hM.k2393, hM.k2394, hM.k2395, hM.k2396, hM.k2397, hM.k2398, hM.k2399, hM.k2400, hM.k2401, hM.k2402, hM.k2403, hM.k2404, hM.k2405, hM.k2406, hM.k2407, hM.k2408, hM.k2409, hM.k2410, hM.k2411, hM.k2412, hM.k2413, hM.k2414, hM.k2415, hM.k2416, hM.k2417, hM.k2418, hM.k2419, hM.k2420, hM.k2421, hM.k2422, hM.k2423, hM.l2391, hM.l2392, hM.l2393, hM.l2394, hM.l2395, hM.l2396, hM.l2397, hM.l2398, hM.l2399, hM.l2400, hM.l2401, hM.l2402, hM.l2403, hM.l2404, hM.l2405, hM.l2406, hM.l2407, hM.l2408, hM.l2409, hM.l2410, hM.l2411, hM.l2412, hM.l2413, hM.l2414, hM.l2415, hM.l2416, hM.l2417, hM.l2418, hM.l2419, hM.l2420, hM.l2421, hM.l2422, hM.l2423]) <;> (try omega))) only [↓reduceIte, ↓z_ite, ↓zR, ↓zB_R, ↓zB_B, ↓zB_ite, ↓zB_gI, ↓zB_pI, ↓zB_pZ, ↓zB_aK, ↓zB_G, ↓zB_lI, ↓zB_lZ, ↓zB_wI, ↓zB_wZ, ↓zB_lIl, ↓zB_wIl, zB_pI, zB_pZ, zB_lI, zB_lZ, zB_wI, zB_wZ, z_addl, z_ladd, z_mull, z_lmul, nI_add, z_subl, Nat.not_lt_zero, z_10, z_01, z_bitc, z_b0, z_b1, ↓zB_Gb, ↓zB_G0, ↓zB_G1, z_eql, z_leq, z_ltl, z_llt, z_eq, z_lt, z_m1lt, hM.k, hM.k2391, hM.k2392, hM.k2393, hM.k2394, hM.k2395, hM.k2396, hM.k2397, hM.k2398, hM.k2399, hM.k2400, hM.k2401, hM.k2402, hM.k2403, hM.k2404, hM.k2405, hM.k2406, hM.k2407, hM.k2408, hM.k2409, hM.k2410, hM.k2411, hM.k2412, hM.k2413, hM.k2414, hM.k2415, hM.k2416, hM.k2417, hM.k2418, hM.k2419, hM.k2420, hM.k2421, hM.k2422, hM.k2423, hM.l2391, hM.l2392, hM.l2393, hM.l2394, hM.l2395, hM.l2396, hM.l2397, hM.l2398, hM.l2399, hM.l2400, hM.l2401, hM.l2402, hM.l2403, hM.l2404, hM.l2405, hM.l2406, hM.l2407, hM.l2408, hM.l2409, hM.l2410, hM.l2411, hM.l2412, hM.l2413, hM.l2414, hM.l2415, hM.l2416, hM.l2417, hM.l2418, hM.l2419, hM.l2420, hM.l2421, hM.l2422, hM.l2423, ↓hM.g1, ↓hM.g5, ↓hM.g6, ↓hM.g7, ↓hM.g8, ↓hM.g9, ↓hM.g10, ↓hM.g11, ↓hM.g12, ↓hM.g13, ↓hM.g14, ↓hM.g16, ↓hM.g17, ↓hM.g18, ↓hM.g19, ↓hM.g21, ↓hM.g22, ↓hM.g23, ↓hM.g24, ↓hM.g25, ↓hM.g27, ↓hM.g28, ↓hM.g30, ↓hM.g31, ↓hM.g32, ↓hM.g36, ↓hM.g37, ↓hM.g39, ↓hM.g40, ↓hM.g41, ↓hM.g43, ↓hM.g45, ↓hM.g46, Nat.lt_irrefl]
    · have e := f210_sp (S := S) (B := 0) h hM rfl hc hi2
      by_cases g : z_fld P c i = 0
      · refine Or.inl ⟨(2390, nI c, nI (z_nfl P c (i + 1)), nI (i + 1)), m', 16 - (i + 1), ?_, by omega, rfl, i + 1, rfl, hi2, rfl⟩
        have e3 : z_nfl P c (i + 1) = z_nfl P c i := by
          show z_nfl P c i + _ = _
          rw [if_pos g]; rfl
        rw [e3]
        unfold f217_97b f217_122
        simp (disch := ((try simp only [true_or, or_true, hM.k, hM.k2391, hM.k2392, hM.k2393, hM.k2394, hM.k2395, hM.k2396, hM.k2397, hM.k2398, hM.k2399, hM.k2400, hM.k2401, hM.k2402, hM.k2403, hM.k2404, hM.k2405, hM.k2406, hM.k2407, hM.k2408, hM.k2409, hM.k2410, hM.k2411, hM.k2412, hM.k2413, hM.k2414, hM.k2415, hM.k2416, hM.k2417, hM.k2418, hM.k2419, hM.k2420, hM.k2421, hM.k2422, hM.k2423, hM.l2391, hM.l2392, hM.l2393, hM.l2394, hM.l2395, hM.l2396, hM.l2397, hM.l2398, hM.l2399, hM.l2400, hM.l2401, hM.l2402, hM.l2403, hM.l2404, hM.l2405, hM.l2406, hM.l2407, hM.l2408, hM.l2409, hM.l2410, hM.l2411, hM.l2412, hM.l2413, hM.l2414, hM.l2415, hM.l2416, hM.l2417, hM.l2418, hM.l2419, hM.l2420, hM.l2421, hM.l2422, hM.l2423]) <;> (try omega))) only [↓reduceIte, ↓z_ite, ↓zR, ↓zB_R, ↓zB_B, ↓zB_ite, ↓zB_gI, ↓zB_pI, ↓zB_pZ, ↓zB_aK, ↓zB_G, ↓zB_lI, ↓zB_lZ, ↓zB_wI, ↓zB_wZ, ↓zB_lIl, ↓zB_wIl, zB_pI, zB_pZ, zB_lI, zB_lZ, zB_wI, zB_wZ, z_addl, z_ladd, z_mull, z_lmul, nI_add, z_subl, Nat.not_lt_zero, z_10, z_01, z_bitc, z_b0, z_b1, ↓zB_Gb, ↓zB_G0, ↓zB_G1, z_eql, z_leq, z_ltl, z_llt, z_eq, z_lt, z_m1lt, hM.k, hM.k2391, hM.k2392, hM.k2393, hM.k2394, hM.k2395, hM.k2396, hM.k2397, hM.k2398, hM.k2399, hM.k2400, hM.k2401, hM.k2402, hM.k2403, hM.k2404, hM.k2405, hM.k2406, hM.k2407, hM.k2408, hM.k2409, hM.k2410, hM.k2411, hM.k2412, hM.k2413, hM.k2414, hM.k2415, hM.k2416, hM.k2417, hM.k2418, hM.k2419, hM.k2420, hM.k2421, hM.k2422, hM.k2423, hM.l2391, hM.l2392, hM.l2393, hM.l2394, hM.l2395, hM.l2396, hM.l2397, hM.l2398, hM.l2399, hM.l2400, hM.l2401, hM.l2402, hM.l2403, hM.l2404, hM.l2405, hM.l2406, hM.l2407, hM.l2408, hM.l2409, hM.l2410, hM.l2411, hM.l2412, hM.l2413, hM.l2414, hM.l2415, hM.l2416, hM.l2417, hM.l2418, hM.l2419, hM.l2420, hM.l2421, hM.l2422, hM.l2423, ↓hM.g1, ↓hM.g5, ↓hM.g6, ↓hM.g7, ↓hM.g8, ↓hM.g9, ↓hM.g10, ↓hM.g11, ↓hM.g12, ↓hM.g13, ↓hM.g14, ↓hM.g16, ↓hM.g17, ↓hM.g18, ↓hM.g19, ↓hM.g21, ↓hM.g22, ↓hM.g23, ↓hM.g24, ↓hM.g25, ↓hM.g27, ↓hM.g28, ↓hM.g30, ↓hM.g31, ↓hM.g32, ↓hM.g36, ↓hM.g37, ↓hM.g39, ↓hM.g40, ↓hM.g41, ↓hM.g43, ↓hM.g45, ↓hM.g46, hi2, ↓zB_c e, zB_c e, g, Nat.add_zero]
      · refine Or.inl ⟨(2390, nI c, nI (z_nfl P c (i + 1)), nI (i + 1)), m', 16 - (i + 1), ?_, by omega, rfl, i + 1, rfl, hi2, rfl⟩
        have e3 : z_nfl P c (i + 1) = z_nfl P c i + 1 := by
          show z_nfl P c i + _ = _
          rw [if_neg g]
        rw [e3]
        unfold f217_97b f217_122
        simp (disch := ((try simp only [true_or, or_true, hM.k, hM.k2391, hM.k2392, hM.k2393, hM.k2394, hM.k2395, hM.k2396, hM.k2397, hM.k2398, hM.k2399, hM.k2400, hM.k2401, hM.k2402, hM.k2403, hM.k2404, hM.k2405, hM.k2406, hM.k2407, hM.k2408, hM.k2409, hM.k2410, hM.k2411, hM.k2412, hM.k2413, hM.k2414, hM.k2415, hM.k2416, hM.k2417, hM.k2418, hM.k2419, hM.k2420, hM.k2421, hM.k2422, hM.k2423, hM.l2391, hM.l2392, hM.l2393, hM.l2394, hM.l2395, hM.l2396, hM.l2397, hM.l2398, hM.l2399, hM.l2400, hM.l2401, hM.l2402, hM.l2403, hM.l2404, hM.l2405, hM.l2406, hM.l2407, hM.l2408, hM.l2409, hM.l2410, hM.l2411, hM.l2412, hM.l2413, hM.l2414, hM.l2415, hM.l2416, hM.l2417, hM.l2418, hM.l2419, hM.l2420, hM.l2421, hM.l2422, hM.l2423]) <;> (try omega))) only [↓reduceIte, ↓z_ite, ↓zR, ↓zB_R, ↓zB_B, ↓zB_ite, ↓zB_gI, ↓zB_pI, ↓zB_pZ, ↓zB_aK, ↓zB_G, ↓zB_lI, ↓zB_lZ, ↓zB_wI, ↓zB_wZ, ↓zB_lIl, ↓zB_wIl, zB_pI, zB_pZ, zB_lI, zB_lZ, zB_wI, zB_wZ, z_addl, z_ladd, z_mull, z_lmul, nI_add, z_subl, Nat.not_lt_zero, z_10, z_01, z_bitc, z_b0, z_b1, ↓zB_Gb, ↓zB_G0, ↓zB_G1, z_eql, z_leq, z_ltl, z_llt, z_eq, z_lt, z_m1lt, hM.k, hM.k2391, hM.k2392, hM.k2393, hM.k2394, hM.k2395, hM.k2396, hM.k2397, hM.k2398, hM.k2399, hM.k2400, hM.k2401, hM.k2402, hM.k2403, hM.k2404, hM.k2405, hM.k2406, hM.k2407, hM.k2408, hM.k2409, hM.k2410, hM.k2411, hM.k2412, hM.k2413, hM.k2414, hM.k2415, hM.k2416, hM.k2417, hM.k2418, hM.k2419, hM.k2420, hM.k2421, hM.k2422, hM.k2423, hM.l2391, hM.l2392, hM.l2393, hM.l2394, hM.l2395, hM.l2396, hM.l2397, hM.l2398, hM.l2399, hM.l2400, hM.l2401, hM.l2402, hM.l2403, hM.l2404, hM.l2405, hM.l2406, hM.l2407, hM.l2408, hM.l2409, hM.l2410, hM.l2411, hM.l2412, hM.l2413, hM.l2414, hM.l2415, hM.l2416, hM.l2417, hM.l2418, hM.l2419, hM.l2420, hM.l2421, hM.l2422, hM.l2423, ↓hM.g1, ↓hM.g5, ↓hM.g6, ↓hM.g7, ↓hM.g8, ↓hM.g9, ↓hM.g10, ↓hM.g11, ↓hM.g12, ↓hM.g13, ↓hM.g14, ↓hM.g16, ↓hM.g17, ↓hM.g18, ↓hM.g19, ↓hM.g21, ↓hM.g22, ↓hM.g23, ↓hM.g24, ↓hM.g25, ↓hM.g27, ↓hM.g28, ↓hM.g30, ↓hM.g31, ↓hM.g32, ↓hM.g36, ↓hM.g37, ↓hM.g39, ↓hM.g40, ↓hM.g41, ↓hM.g43, ↓hM.g45, ↓hM.g46, hi2, ↓zB_c e, zB_c e, g]
theorem m_fieldOf (hM : z_MS S) (hw : z_WA A) (h : z_MR m A) (x y t : Int32) : (∃ v m1, f217 2390 x y t (z_hp S m) = some (v, z_hp S m1) ∧ z_MR m1 (z_ofieldOf A x y t).2 ∧ (∀ b, b < 2390 ∨ 2424 ≤ b → m1 b = m b) ∧ z_ans z_cd3 (z_ofieldOf A x y t).1 v (m1 2390 0)) ∧ z_WA (z_ofieldOf A x y t).2 := by
  have hwf := hw.2.1.1
  have h6 := hwf.1.1
  have hb := h.2.1
  have i0 := f178_0 (m := m) hM
  have i1 := f178_1 (m := m) hM
  have i2 := f178_2 (m := m) hM
  have i3 := f178_3 (m := m) hM
  have e1 := f204_sp (S := S) (B := 0) hb hM rfl x
  have e2 := f205_sp (S := S) (B := 0) hb hM rfl t
  have e3 := f180_sp (S := S) (m := m) y
  unfold z_ofieldOf
  by_cases gx : z_in x (z_nc A.2.1) = false
  · rw [if_pos gx]
    rw [gx] at e1
    refine z_m_ref hw h (E := 2) (cd := z_cd3) ⟨0, ?_⟩
    unfold f217 f217_22 f217_23 f217_61
    simp (disch := ((try simp only [true_or, or_true, hM.k, hM.k2391, hM.k2392, hM.k2393, hM.k2394, hM.k2395, hM.k2396, hM.k2397, hM.k2398, hM.k2399, hM.k2400, hM.k2401, hM.k2402, hM.k2403, hM.k2404, hM.k2405, hM.k2406, hM.k2407, hM.k2408, hM.k2409, hM.k2410, hM.k2411, hM.k2412, hM.k2413, hM.k2414, hM.k2415, hM.k2416, hM.k2417, hM.k2418, hM.k2419, hM.k2420, hM.k2421, hM.k2422, hM.k2423, hM.l2391, hM.l2392, hM.l2393, hM.l2394, hM.l2395, hM.l2396, hM.l2397, hM.l2398, hM.l2399, hM.l2400, hM.l2401, hM.l2402, hM.l2403, hM.l2404, hM.l2405, hM.l2406, hM.l2407, hM.l2408, hM.l2409, hM.l2410, hM.l2411, hM.l2412, hM.l2413, hM.l2414, hM.l2415, hM.l2416, hM.l2417, hM.l2418, hM.l2419, hM.l2420, hM.l2421, hM.l2422, hM.l2423]) <;> (try omega))) only [↓reduceIte, ↓z_ite, ↓zR, ↓zB_R, ↓zB_B, ↓zB_ite, ↓zB_gI, ↓zB_pI, ↓zB_pZ, ↓zB_aK, ↓zB_G, ↓zB_lI, ↓zB_lZ, ↓zB_wI, ↓zB_wZ, ↓zB_lIl, ↓zB_wIl, zB_pI, zB_pZ, zB_lI, zB_lZ, zB_wI, zB_wZ, z_addl, z_ladd, z_mull, z_lmul, nI_add, z_subl, Nat.not_lt_zero, z_10, z_01, z_bitc, z_b0, z_b1, ↓zB_Gb, ↓zB_G0, ↓zB_G1, z_eql, z_leq, z_ltl, z_llt, z_eq, z_lt, z_m1lt, hM.k, hM.k2391, hM.k2392, hM.k2393, hM.k2394, hM.k2395, hM.k2396, hM.k2397, hM.k2398, hM.k2399, hM.k2400, hM.k2401, hM.k2402, hM.k2403, hM.k2404, hM.k2405, hM.k2406, hM.k2407, hM.k2408, hM.k2409, hM.k2410, hM.k2411, hM.k2412, hM.k2413, hM.k2414, hM.k2415, hM.k2416, hM.k2417, hM.k2418, hM.k2419, hM.k2420, hM.k2421, hM.k2422, hM.k2423, hM.l2391, hM.l2392, hM.l2393, hM.l2394, hM.l2395, hM.l2396, hM.l2397, hM.l2398, hM.l2399, hM.l2400, hM.l2401, hM.l2402, hM.l2403, hM.l2404, hM.l2405, hM.l2406, hM.l2407, hM.l2408, hM.l2409, hM.l2410, hM.l2411, hM.l2412, hM.l2413, hM.l2414, hM.l2415, hM.l2416, hM.l2417, hM.l2418, hM.l2419, hM.l2420, hM.l2421, hM.l2422, hM.l2423, ↓hM.g1, ↓hM.g5, ↓hM.g6, ↓hM.g7, ↓hM.g8, ↓hM.g9, ↓hM.g10, ↓hM.g11, ↓hM.g12, ↓hM.g13, ↓hM.g14, ↓hM.g16, ↓hM.g17, ↓hM.g18, ↓hM.g19, ↓hM.g21, ↓hM.g22, ↓hM.g23, ↓hM.g24, ↓hM.g25, ↓hM.g27, ↓hM.g28, ↓hM.g30, ↓hM.g31, ↓hM.g32, ↓hM.g36, ↓hM.g37, ↓hM.g39, ↓hM.g40, ↓hM.g41, ↓hM.g43, ↓hM.g45, ↓hM.g46, ↓zB_c e1, zB_c e1, ↓zB_c i1, zB_c i1]
    rfl
  rw [if_neg gx]
  rw [z_not_false gx] at e1
  by_cases gt : (t == -1 || z_in t (z_nc A.2.1)) = false
  · rw [if_pos gt]
    rw [gt] at e2
    refine z_m_ref hw h (E := 2) (cd := z_cd3) ⟨0, ?_⟩
    unfold f217 f217_22 f217_23 f217_61
    simp (disch := ((try simp only [true_or, or_true, hM.k, hM.k2391, hM.k2392, hM.k2393, hM.k2394, hM.k2395, hM.k2396, hM.k2397, hM.k2398, hM.k2399, hM.k2400, hM.k2401, hM.k2402, hM.k2403, hM.k2404, hM.k2405, hM.k2406, hM.k2407, hM.k2408, hM.k2409, hM.k2410, hM.k2411, hM.k2412, hM.k2413, hM.k2414, hM.k2415, hM.k2416, hM.k2417, hM.k2418, hM.k2419, hM.k2420, hM.k2421, hM.k2422, hM.k2423, hM.l2391, hM.l2392, hM.l2393, hM.l2394, hM.l2395, hM.l2396, hM.l2397, hM.l2398, hM.l2399, hM.l2400, hM.l2401, hM.l2402, hM.l2403, hM.l2404, hM.l2405, hM.l2406, hM.l2407, hM.l2408, hM.l2409, hM.l2410, hM.l2411, hM.l2412, hM.l2413, hM.l2414, hM.l2415, hM.l2416, hM.l2417, hM.l2418, hM.l2419, hM.l2420, hM.l2421, hM.l2422, hM.l2423]) <;> (try omega))) only [↓reduceIte, ↓z_ite, ↓zR, ↓zB_R, ↓zB_B, ↓zB_ite, ↓zB_gI, ↓zB_pI, ↓zB_pZ, ↓zB_aK, ↓zB_G, ↓zB_lI, ↓zB_lZ, ↓zB_wI, ↓zB_wZ, ↓zB_lIl, ↓zB_wIl, zB_pI, zB_pZ, zB_lI, zB_lZ, zB_wI, zB_wZ, z_addl, z_ladd, z_mull, z_lmul, nI_add, z_subl, Nat.not_lt_zero, z_10, z_01, z_bitc, z_b0, z_b1, ↓zB_Gb, ↓zB_G0, ↓zB_G1, z_eql, z_leq, z_ltl, z_llt, z_eq, z_lt, z_m1lt, hM.k, hM.k2391, hM.k2392, hM.k2393, hM.k2394, hM.k2395, hM.k2396, hM.k2397, hM.k2398, hM.k2399, hM.k2400, hM.k2401, hM.k2402, hM.k2403, hM.k2404, hM.k2405, hM.k2406, hM.k2407, hM.k2408, hM.k2409, hM.k2410, hM.k2411, hM.k2412, hM.k2413, hM.k2414, hM.k2415, hM.k2416, hM.k2417, hM.k2418, hM.k2419, hM.k2420, hM.k2421, hM.k2422, hM.k2423, hM.l2391, hM.l2392, hM.l2393, hM.l2394, hM.l2395, hM.l2396, hM.l2397, hM.l2398, hM.l2399, hM.l2400, hM.l2401, hM.l2402, hM.l2403, hM.l2404, hM.l2405, hM.l2406, hM.l2407, hM.l2408, hM.l2409, hM.l2410, hM.l2411, hM.l2412, hM.l2413, hM.l2414, hM.l2415, hM.l2416, hM.l2417, hM.l2418, hM.l2419, hM.l2420, hM.l2421, hM.l2422, hM.l2423, ↓hM.g1, ↓hM.g5, ↓hM.g6, ↓hM.g7, ↓hM.g8, ↓hM.g9, ↓hM.g10, ↓hM.g11, ↓hM.g12, ↓hM.g13, ↓hM.g14, ↓hM.g16, ↓hM.g17, ↓hM.g18, ↓hM.g19, ↓hM.g21, ↓hM.g22, ↓hM.g23, ↓hM.g24, ↓hM.g25, ↓hM.g27, ↓hM.g28, ↓hM.g30, ↓hM.g31, ↓hM.g32, ↓hM.g36, ↓hM.g37, ↓hM.g39, ↓hM.g40, ↓hM.g41, ↓hM.g43, ↓hM.g45, ↓hM.g46, ↓zB_c e1, zB_c e1, ↓zB_c e2, zB_c e2, Bool.true_eq_false, ↓zB_c i1, zB_c i1]
    rfl
  rw [if_neg gt]
  rw [z_not_false gt] at e2
  have ht : z_ty A.2.1 t := by
    have gt := z_not_false gt
    by_cases g1 : t = -1
    · exact Or.inl g1
    · rw [show (t == -1) = false by simpa using g1] at gt
      exact Or.inr ((z_in_iff (by omega)).mp (by simpa using gt))
  by_cases gy : z_in y 16 = false
  · rw [if_pos gy]
    rw [gy] at e3
    refine z_m_ref hw h (E := 1) (cd := z_cd3) ⟨0, ?_⟩
    unfold f217 f217_23 f217_61
    simp (disch := ((try simp only [true_or, or_true, hM.k, hM.k2391, hM.k2392, hM.k2393, hM.k2394, hM.k2395, hM.k2396, hM.k2397, hM.k2398, hM.k2399, hM.k2400, hM.k2401, hM.k2402, hM.k2403, hM.k2404, hM.k2405, hM.k2406, hM.k2407, hM.k2408, hM.k2409, hM.k2410, hM.k2411, hM.k2412, hM.k2413, hM.k2414, hM.k2415, hM.k2416, hM.k2417, hM.k2418, hM.k2419, hM.k2420, hM.k2421, hM.k2422, hM.k2423, hM.l2391, hM.l2392, hM.l2393, hM.l2394, hM.l2395, hM.l2396, hM.l2397, hM.l2398, hM.l2399, hM.l2400, hM.l2401, hM.l2402, hM.l2403, hM.l2404, hM.l2405, hM.l2406, hM.l2407, hM.l2408, hM.l2409, hM.l2410, hM.l2411, hM.l2412, hM.l2413, hM.l2414, hM.l2415, hM.l2416, hM.l2417, hM.l2418, hM.l2419, hM.l2420, hM.l2421, hM.l2422, hM.l2423]) <;> (try omega))) only [↓reduceIte, ↓z_ite, ↓zR, ↓zB_R, ↓zB_B, ↓zB_ite, ↓zB_gI, ↓zB_pI, ↓zB_pZ, ↓zB_aK, ↓zB_G, ↓zB_lI, ↓zB_lZ, ↓zB_wI, ↓zB_wZ, ↓zB_lIl, ↓zB_wIl, zB_pI, zB_pZ, zB_lI, zB_lZ, zB_wI, zB_wZ, z_addl, z_ladd, z_mull, z_lmul, nI_add, z_subl, Nat.not_lt_zero, z_10, z_01, z_bitc, z_b0, z_b1, ↓zB_Gb, ↓zB_G0, ↓zB_G1, z_eql, z_leq, z_ltl, z_llt, z_eq, z_lt, z_m1lt, hM.k, hM.k2391, hM.k2392, hM.k2393, hM.k2394, hM.k2395, hM.k2396, hM.k2397, hM.k2398, hM.k2399, hM.k2400, hM.k2401, hM.k2402, hM.k2403, hM.k2404, hM.k2405, hM.k2406, hM.k2407, hM.k2408, hM.k2409, hM.k2410, hM.k2411, hM.k2412, hM.k2413, hM.k2414, hM.k2415, hM.k2416, hM.k2417, hM.k2418, hM.k2419, hM.k2420, hM.k2421, hM.k2422, hM.k2423, hM.l2391, hM.l2392, hM.l2393, hM.l2394, hM.l2395, hM.l2396, hM.l2397, hM.l2398, hM.l2399, hM.l2400, hM.l2401, hM.l2402, hM.l2403, hM.l2404, hM.l2405, hM.l2406, hM.l2407, hM.l2408, hM.l2409, hM.l2410, hM.l2411, hM.l2412, hM.l2413, hM.l2414, hM.l2415, hM.l2416, hM.l2417, hM.l2418, hM.l2419, hM.l2420, hM.l2421, hM.l2422, hM.l2423, ↓hM.g1, ↓hM.g5, ↓hM.g6, ↓hM.g7, ↓hM.g8, ↓hM.g9, ↓hM.g10, ↓hM.g11, ↓hM.g12, ↓hM.g13, ↓hM.g14, ↓hM.g16, ↓hM.g17, ↓hM.g18, ↓hM.g19, ↓hM.g21, ↓hM.g22, ↓hM.g23, ↓hM.g24, ↓hM.g25, ↓hM.g27, ↓hM.g28, ↓hM.g30, ↓hM.g31, ↓hM.g32, ↓hM.g36, ↓hM.g37, ↓hM.g39, ↓hM.g40, ↓hM.g41, ↓hM.g43, ↓hM.g45, ↓hM.g46, ↓zB_c e1, zB_c e1, ↓zB_c e2, zB_c e2, ↓zB_c e3, zB_c e3, Bool.true_eq_false, ↓zB_c i2, zB_c i2]
    rfl
  rw [if_neg gy]
  rw [z_not_false gy] at e3
  obtain ⟨c, hcn, rfl⟩ := (z_in_iff (by omega)).mp (z_not_false gx)
  obtain ⟨n, hnn, rfl⟩ := (z_in_iff (by decide)).mp (z_not_false gy)
  have e4 := f212_sp (S := S) (B := 0) hb hM hwf.1 rfl hcn hnn
  rw [nI_clamp (by omega), nI_clamp (by omega)]
  by_cases gf : z_haf A.2.1 c n = true
  · rw [if_pos gf]
    rw [gf] at e4
    refine z_m_ref hw h (E := 0) (cd := z_cd3) ⟨0, ?_⟩
    unfold f217 f217_23 f217_61
    simp (disch := ((try simp only [true_or, or_true, hM.k, hM.k2391, hM.k2392, hM.k2393, hM.k2394, hM.k2395, hM.k2396, hM.k2397, hM.k2398, hM.k2399, hM.k2400, hM.k2401, hM.k2402, hM.k2403, hM.k2404, hM.k2405, hM.k2406, hM.k2407, hM.k2408, hM.k2409, hM.k2410, hM.k2411, hM.k2412, hM.k2413, hM.k2414, hM.k2415, hM.k2416, hM.k2417, hM.k2418, hM.k2419, hM.k2420, hM.k2421, hM.k2422, hM.k2423, hM.l2391, hM.l2392, hM.l2393, hM.l2394, hM.l2395, hM.l2396, hM.l2397, hM.l2398, hM.l2399, hM.l2400, hM.l2401, hM.l2402, hM.l2403, hM.l2404, hM.l2405, hM.l2406, hM.l2407, hM.l2408, hM.l2409, hM.l2410, hM.l2411, hM.l2412, hM.l2413, hM.l2414, hM.l2415, hM.l2416, hM.l2417, hM.l2418, hM.l2419, hM.l2420, hM.l2421, hM.l2422, hM.l2423]) <;> (try omega))) only [↓reduceIte, ↓z_ite, ↓zR, ↓zB_R, ↓zB_B, ↓zB_ite, ↓zB_gI, ↓zB_pI, ↓zB_pZ, ↓zB_aK, ↓zB_G, ↓zB_lI, ↓zB_lZ, ↓zB_wI, ↓zB_wZ, ↓zB_lIl, ↓zB_wIl, zB_pI, zB_pZ, zB_lI, zB_lZ, zB_wI, zB_wZ, z_addl, z_ladd, z_mull, z_lmul, nI_add, z_subl, Nat.not_lt_zero, z_10, z_01, z_bitc, z_b0, z_b1, ↓zB_Gb, ↓zB_G0, ↓zB_G1, z_eql, z_leq, z_ltl, z_llt, z_eq, z_lt, z_m1lt, hM.k, hM.k2391, hM.k2392, hM.k2393, hM.k2394, hM.k2395, hM.k2396, hM.k2397, hM.k2398, hM.k2399, hM.k2400, hM.k2401, hM.k2402, hM.k2403, hM.k2404, hM.k2405, hM.k2406, hM.k2407, hM.k2408, hM.k2409, hM.k2410, hM.k2411, hM.k2412, hM.k2413, hM.k2414, hM.k2415, hM.k2416, hM.k2417, hM.k2418, hM.k2419, hM.k2420, hM.k2421, hM.k2422, hM.k2423, hM.l2391, hM.l2392, hM.l2393, hM.l2394, hM.l2395, hM.l2396, hM.l2397, hM.l2398, hM.l2399, hM.l2400, hM.l2401, hM.l2402, hM.l2403, hM.l2404, hM.l2405, hM.l2406, hM.l2407, hM.l2408, hM.l2409, hM.l2410, hM.l2411, hM.l2412, hM.l2413, hM.l2414, hM.l2415, hM.l2416, hM.l2417, hM.l2418, hM.l2419, hM.l2420, hM.l2421, hM.l2422, hM.l2423, ↓hM.g1, ↓hM.g5, ↓hM.g6, ↓hM.g7, ↓hM.g8, ↓hM.g9, ↓hM.g10, ↓hM.g11, ↓hM.g12, ↓hM.g13, ↓hM.g14, ↓hM.g16, ↓hM.g17, ↓hM.g18, ↓hM.g19, ↓hM.g21, ↓hM.g22, ↓hM.g23, ↓hM.g24, ↓hM.g25, ↓hM.g27, ↓hM.g28, ↓hM.g30, ↓hM.g31, ↓hM.g32, ↓hM.g36, ↓hM.g37, ↓hM.g39, ↓hM.g40, ↓hM.g41, ↓hM.g43, ↓hM.g45, ↓hM.g46, ↓zB_c e1, zB_c e1, ↓zB_c e2, zB_c e2, ↓zB_c e3, zB_c e3, ↓zB_c e4, zB_c e4, Bool.true_eq_false, ↓zB_c i3, zB_c i3]
    rfl
  rw [if_neg gf]
  have gf : z_haf A.2.1 c n = false := by simpa using gf
  rw [gf] at e4
  have hz := h.2.2.2.2.2.2.2.1
  have r : ∀ j, j ≠ 8 + 16 * c + n → z_up (z_up (z_up m 2390 0 0) 2391 (8 + 16 * c + n) (t + 2)) 2390 2 0 2391 j = m 2391 j := fun j x1 => by
    rw [z_up_a (by decide), z_up_b x1, z_up_a (by decide)]
  have hb2 : z_mb (z_up (z_up (z_up m 2390 0 0) 2391 (8 + 16 * c + n) (t + 2)) 2390 2 0) 0 (z_addF A.2.1 c n (t + 2)) := by
    obtain ⟨b1, b2, b3, b4, b5, b6, b7⟩ := hb
    refine ⟨b1, b2, b3, by rw [r _ (by omega)]; exact b4, by rw [r _ (by omega)]; exact b5, fun c' hc' => ?_, fun k hk => ?_⟩
    · have hc' : c' < z_nc A.2.1 := hc'
      obtain ⟨q1, q2⟩ := b6 c' hc'
      refine ⟨by rw [r _ (by omega)]; exact q1, fun n' hn' => ?_⟩
      by_cases g : c' = c ∧ n' = n
      · obtain ⟨rfl, rfl⟩ := g
        rw [z_addF_s, z_up_a (by decide), show 14200 * 0 + 8 + 16 * c' + n' = 8 + 16 * c' + n' by omega, z_up_s]
      · rw [z_addF_o g, r _ (by omega)]; exact q2 n' hn'
    · obtain ⟨q1, q2, q3, q4⟩ := b7 k hk
      have hk : k < z_nm A.2.1 := hk
      refine ⟨fun w hw2 => ?_, ?_, q3, fun i hi => ?_⟩
      · rw [r _ (by omega)]; exact q1 w hw2
      · rw [r _ (by omega)]; exact q2
      · rw [r _ (by omega), r _ (by omega), r _ (by omega)]; exact q4 i hi
  have ec := f217_c (S := S) hM hb2 (c := c) hcn
  refine ⟨⟨_, _, ?_, z_MR_dp h (m' := z_up (z_up (z_up m 2390 0 0) 2391 (8 + 16 * c + n) (t + 2)) 2390 2 0) (fun a g1 g2 => ?_) (fun j g1 g2 => ?_) (z_up_s _ _ _ _) hb2 (fun c' n' g1 g2 g3 => ?_) (fun j hj => ?_), fun b hb2 => ?_, rfl, ?_⟩, z_WA_dp hw (Nat.le_refl _) (z_addF_wf hwf ⟨t, ht, rfl⟩) hw.2.1.2⟩
  · unfold f217 f217_23 f217_61
    simp (disch := ((try simp only [true_or, or_true, hM.k, hM.k2391, hM.k2392, hM.k2393, hM.k2394, hM.k2395, hM.k2396, hM.k2397, hM.k2398, hM.k2399, hM.k2400, hM.k2401, hM.k2402, hM.k2403, hM.k2404, hM.k2405, hM.k2406, hM.k2407, hM.k2408, hM.k2409, hM.k2410, hM.k2411, hM.k2412, hM.k2413, hM.k2414, hM.k2415, hM.k2416, hM.k2417, hM.k2418, hM.k2419, hM.k2420, hM.k2421, hM.k2422, hM.k2423, hM.l2391, hM.l2392, hM.l2393, hM.l2394, hM.l2395, hM.l2396, hM.l2397, hM.l2398, hM.l2399, hM.l2400, hM.l2401, hM.l2402, hM.l2403, hM.l2404, hM.l2405, hM.l2406, hM.l2407, hM.l2408, hM.l2409, hM.l2410, hM.l2411, hM.l2412, hM.l2413, hM.l2414, hM.l2415, hM.l2416, hM.l2417, hM.l2418, hM.l2419, hM.l2420, hM.l2421, hM.l2422, hM.l2423]) <;> (try omega))) only [↓reduceIte, ↓z_ite, ↓zR, ↓zB_R, ↓zB_B, ↓zB_ite, ↓zB_gI, ↓zB_pI, ↓zB_pZ, ↓zB_aK, ↓zB_G, ↓zB_lI, ↓zB_lZ, ↓zB_wI, ↓zB_wZ, ↓zB_lIl, ↓zB_wIl, zB_pI, zB_pZ, zB_lI, zB_lZ, zB_wI, zB_wZ, z_addl, z_ladd, z_mull, z_lmul, nI_add, z_subl, Nat.not_lt_zero, z_10, z_01, z_bitc, z_b0, z_b1, ↓zB_Gb, ↓zB_G0, ↓zB_G1, z_eql, z_leq, z_ltl, z_llt, z_eq, z_lt, z_m1lt, hM.k, hM.k2391, hM.k2392, hM.k2393, hM.k2394, hM.k2395, hM.k2396, hM.k2397, hM.k2398, hM.k2399, hM.k2400, hM.k2401, hM.k2402, hM.k2403, hM.k2404, hM.k2405, hM.k2406, hM.k2407, hM.k2408, hM.k2409, hM.k2410, hM.k2411, hM.k2412, hM.k2413, hM.k2414, hM.k2415, hM.k2416, hM.k2417, hM.k2418, hM.k2419, hM.k2420, hM.k2421, hM.k2422, hM.k2423, hM.l2391, hM.l2392, hM.l2393, hM.l2394, hM.l2395, hM.l2396, hM.l2397, hM.l2398, hM.l2399, hM.l2400, hM.l2401, hM.l2402, hM.l2403, hM.l2404, hM.l2405, hM.l2406, hM.l2407, hM.l2408, hM.l2409, hM.l2410, hM.l2411, hM.l2412, hM.l2413, hM.l2414, hM.l2415, hM.l2416, hM.l2417, hM.l2418, hM.l2419, hM.l2420, hM.l2421, hM.l2422, hM.l2423, ↓hM.g1, ↓hM.g5, ↓hM.g6, ↓hM.g7, ↓hM.g8, ↓hM.g9, ↓hM.g10, ↓hM.g11, ↓hM.g12, ↓hM.g13, ↓hM.g14, ↓hM.g16, ↓hM.g17, ↓hM.g18, ↓hM.g19, ↓hM.g21, ↓hM.g22, ↓hM.g23, ↓hM.g24, ↓hM.g25, ↓hM.g27, ↓hM.g28, ↓hM.g30, ↓hM.g31, ↓hM.g32, ↓hM.g36, ↓hM.g37, ↓hM.g39, ↓hM.g40, ↓hM.g41, ↓hM.g43, ↓hM.g45, ↓hM.g46, ↓zB_c e1, zB_c e1, ↓zB_c e2, zB_c e2, ↓zB_c e3, zB_c e3, ↓zB_c e4, zB_c e4, Bool.true_eq_false, ↓zB_c i0, zB_c i0]
    exact ec
  · rw [z_up_row g1, z_up_row g2, z_up_row g1]
  · rw [z_up_b g2, z_up_a (by decide), z_up_b g1]
  · have g1 : z_nc A.2.1 ≤ c' := g1
    rw [r _ (by omega)]
    exact hz c' n' g1 g2 g3
  · rw [r _ (by omega)]
  · rw [z_up_row (by omega), z_up_row (by omega), z_up_row (by omega)]
  · rw [z_up_b (by decide), z_up_a (by decide), z_up_s]
end
