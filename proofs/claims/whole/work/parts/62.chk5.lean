/-! the checker: a program -/
def z_ovw (P : z_Pg) (k : Nat) : Bool := z_any (fun j => z_liv P j && (z_ov P k j && !z_sty P k j)) (z_nm P)
noncomputable def z_bad (P : z_Pg) (k : Nat) : Bool := by
  classical exact decide (z_liv P k = true ∧ (¬ z_rt P k (z_bd P k) ∨ z_ovw P k = true))
theorem z_bad_iff {P : z_Pg} {k : Nat} : z_bad P k = true ↔ z_liv P k = true ∧ (¬ z_rt P k (z_bd P k) ∨ z_ovw P k = true) := by
  classical
  unfold z_bad; simp
theorem z_bad_f {P : z_Pg} {k : Nat} : z_bad P k = false ↔ ¬ (z_liv P k = true ∧ (¬ z_rt P k (z_bd P k) ∨ z_ovw P k = true)) := by
  rw [← z_bad_iff]; simp
/-- the lowest wrong method, or -1 -/
noncomputable def z_wr (P : z_Pg) : Int32 := z_sch (z_bad P) nI (-1) (z_nm P) 0
/-- a body's types are laid -/
def z_TY (m : z_m) (p : Nat) (P : z_Pg) (k : Nat) : Prop := z_ce m (z_bi p k) (z_bd P k) ∧ ∀ i, i < (z_bd P k).length → m (z_bi p k + 5) i = z_T P k (z_bd P k) i ∧ m (z_bi p k + 6) i = z_bs P k (z_bd P k) (z_T P k (z_bd P k)) i
/-- what a program knows of being right -/
def z_KN (m : z_m) (p : Nat) (P : z_Pg) : Prop := (m p 14 = 0 ∨ m p 14 = 1) ∧ (m p 14 = 1 → m p 13 = z_wr P ∧ (z_wr P = -1 → ∀ k, k < z_nm P → z_liv P k = true → z_TY m p P k))
theorem z_cp_fr2 {m m' : z_m} {p : Nat} {P : z_Pg} (hw : z_nm P ≤ 24) (h0 : m' p 10 = m p 10 ∧ m' p 11 = m p 11 ∧ m' p 12 = m p 12) (h : ∀ a, p + 1 ≤ a → a ≤ p + 9 → m' a = m a) (hb : ∀ k, k < 24 → ∀ a, z_bi p k ≤ a → a ≤ z_bi p k + 3 → m' a = m a) (hc : z_cp m p P) : z_cp m' p P := by
  obtain ⟨⟨h1, h2⟩, ⟨h3, h4, h5⟩, h6, h7⟩ := hc
  refine ⟨⟨?_, ?_⟩, ⟨?_, ?_, ?_⟩, ?_, ?_⟩
  · rw [h0.1]; exact h1
  · intro c hc
    rw [h (p + 1) (by omega) (by omega), h (p + 2) (by omega) (by omega), h (p + 3) (by omega) (by omega)]
    exact h2 c hc
  · rw [h0.2.1]; exact h3
  · rw [h0.2.2]; exact h4
  · intro k hk hl
    unfold z_ch
    rw [h (p + 4) (by omega) (by omega), h (p + 5) (by omega) (by omega), h (p + 6) (by omega) (by omega), h (p + 7) (by omega) (by omega), h (p + 8) (by omega) (by omega), h (p + 9) (by omega) (by omega)]
    exact h5 k hk hl
  · intro k hk
    rw [hb k hk _ (Nat.le_refl _) (by omega)]
    exact h6 k hk
  · exact fun k hk hl => z_cb_fr (hb k (by omega)) (h7 k hk hl)
section
variable {S : z_S} {m : z_m} {p : Nat} {P : z_Pg}
theorem z_ov_cnt {i j : Nat} (h : z_ov P i j = true) : z_liv P i = true ∧ z_cnt P i = z_cnt P j := by
  unfold z_ov z_isc at h
  simp only [Bool.and_eq_true, beq_iff_eq] at h
  refine ⟨h.1.1, ?_⟩
  unfold z_cnt
  rw [h.1.2.2]
/-- Checker.overridesWrongly -/
theorem f22_sp (x : Nat) (hp : z_PS S p) (h : z_cp m p P) (hw : z_wf P) {k : Nat} (hk : k < z_nm P) : f22 x p (nI k) (z_hp S m) = some (z_b (z_ovw P k), z_hp S m) := by
  have h24 := hw.2.2.1
  have h0 := h.2.1.1
  unfold f22 f22_2
  refine (z_search (fun i => (p, nI k, nI i)) (fun j => z_liv P j && (z_ov P k j && !z_sty P k j)) (fun _ => 1) 0 (z_nm P) 0 1000000 (by omega) (fun i _ hi => ?_) ?_).trans ?_
  · have hi : i < z_nm P := by omega
    have e79 := f79_sp hp h (k := i) (by omega)
    unfold z_thr at e79
    rw [show decide (i < z_nm P) = true by simp [hi], Bool.true_and] at e79
    dsimp only
    unfold f22_2b f22_36 f22_38
    cases hl : z_liv P i with
    | false => simp (disch := ((try simp only [true_or, or_true, hp.k, hp.k1, hp.k2, hp.k3, hp.k4, hp.k5, hp.k6, hp.k7, hp.k8, hp.k9, hp.k10, hp.l1, hp.l2, hp.l3, hp.l4, hp.l5, hp.l6, hp.l7, hp.l8, hp.l9, hp.l10]) <;> (try omega))) only [↓reduceIte, ↓z_ite, ↓zR, ↓zB_R, ↓zB_B, ↓zB_ite, ↓zB_gI, ↓zB_pI, ↓zB_pZ, ↓zB_aK, ↓zB_G, ↓zB_lI, ↓zB_lZ, ↓zB_wI, ↓zB_wZ, ↓zB_lIl, ↓zB_wIl, zB_pI, zB_pZ, zB_lI, zB_lZ, zB_wI, zB_wZ, z_addl, z_ladd, z_mull, z_lmul, nI_add, z_subl, Nat.not_lt_zero, z_10, z_01, z_bitc, z_b0, z_b1, ↓zB_Gb, ↓zB_G0, ↓zB_G1, z_eql, z_leq, z_ltl, z_llt, z_eq, z_lt, z_m1lt, hp.k, hp.k1, hp.k2, hp.k3, hp.k4, hp.k5, hp.k6, hp.k7, hp.k8, hp.k9, hp.k10, hp.l1, hp.l2, hp.l3, hp.l4, hp.l5, hp.l6, hp.l7, hp.l8, hp.l9, hp.l10, ↓hp.g0, ↓hp.g1, ↓hp.g2, ↓hp.g3, ↓hp.g4, ↓hp.g5, ↓hp.g6, ↓hp.g7, ↓hp.g8, ↓hp.g9, ↓hp.gb, hp.gb, h0, hi, ↓zB_c e79, zB_c e79, hl, Bool.false_and, Bool.false_eq_true]
    | true =>
      have e93 := f93_sp hp h hw hk hi hl
      cases ho : z_ov P k i with
      | false => simp (disch := ((try simp only [true_or, or_true, hp.k, hp.k1, hp.k2, hp.k3, hp.k4, hp.k5, hp.k6, hp.k7, hp.k8, hp.k9, hp.k10, hp.l1, hp.l2, hp.l3, hp.l4, hp.l5, hp.l6, hp.l7, hp.l8, hp.l9, hp.l10]) <;> (try omega))) only [↓reduceIte, ↓z_ite, ↓zR, ↓zB_R, ↓zB_B, ↓zB_ite, ↓zB_gI, ↓zB_pI, ↓zB_pZ, ↓zB_aK, ↓zB_G, ↓zB_lI, ↓zB_lZ, ↓zB_wI, ↓zB_wZ, ↓zB_lIl, ↓zB_wIl, zB_pI, zB_pZ, zB_lI, zB_lZ, zB_wI, zB_wZ, z_addl, z_ladd, z_mull, z_lmul, nI_add, z_subl, Nat.not_lt_zero, z_10, z_01, z_bitc, z_b0, z_b1, ↓zB_Gb, ↓zB_G0, ↓zB_G1, z_eql, z_leq, z_ltl, z_llt, z_eq, z_lt, z_m1lt, hp.k, hp.k1, hp.k2, hp.k3, hp.k4, hp.k5, hp.k6, hp.k7, hp.k8, hp.k9, hp.k10, hp.l1, hp.l2, hp.l3, hp.l4, hp.l5, hp.l6, hp.l7, hp.l8, hp.l9, hp.l10, ↓hp.g0, ↓hp.g1, ↓hp.g2, ↓hp.g3, ↓hp.g4, ↓hp.g5, ↓hp.g6, ↓hp.g7, ↓hp.g8, ↓hp.g9, ↓hp.gb, hp.gb, h0, hi, ↓zB_c e79, zB_c e79, hl, ↓zB_c e93, zB_c e93, ho, Bool.false_and, Bool.and_false, Bool.false_eq_true, Bool.true_eq_false]
      | true =>
        obtain ⟨hl2, hcn⟩ := z_ov_cnt ho
        have e94 := f94_sp hp h hw hk hi hl2 hl hcn
        simp (disch := ((try simp only [true_or, or_true, hp.k, hp.k1, hp.k2, hp.k3, hp.k4, hp.k5, hp.k6, hp.k7, hp.k8, hp.k9, hp.k10, hp.l1, hp.l2, hp.l3, hp.l4, hp.l5, hp.l6, hp.l7, hp.l8, hp.l9, hp.l10]) <;> (try omega))) only [↓reduceIte, ↓z_ite, ↓zR, ↓zB_R, ↓zB_B, ↓zB_ite, ↓zB_gI, ↓zB_pI, ↓zB_pZ, ↓zB_aK, ↓zB_G, ↓zB_lI, ↓zB_lZ, ↓zB_wI, ↓zB_wZ, ↓zB_lIl, ↓zB_wIl, zB_pI, zB_pZ, zB_lI, zB_lZ, zB_wI, zB_wZ, z_addl, z_ladd, z_mull, z_lmul, nI_add, z_subl, Nat.not_lt_zero, z_10, z_01, z_bitc, z_b0, z_b1, ↓zB_Gb, ↓zB_G0, ↓zB_G1, z_eql, z_leq, z_ltl, z_llt, z_eq, z_lt, z_m1lt, hp.k, hp.k1, hp.k2, hp.k3, hp.k4, hp.k5, hp.k6, hp.k7, hp.k8, hp.k9, hp.k10, hp.l1, hp.l2, hp.l3, hp.l4, hp.l5, hp.l6, hp.l7, hp.l8, hp.l9, hp.l10, ↓hp.g0, ↓hp.g1, ↓hp.g2, ↓hp.g3, ↓hp.g4, ↓hp.g5, ↓hp.g6, ↓hp.g7, ↓hp.g8, ↓hp.g9, ↓hp.gb, hp.gb, h0, hi, ↓zB_c e79, zB_c e79, hl, ↓zB_c e93, zB_c e93, ho, ↓zB_c e94, zB_c e94, Bool.true_and, Bool.true_eq_false]
        cases z_sty P k i <;> simp
  · dsimp only
    unfold f22_2b f22_44
    simp (disch := ((try simp only [true_or, or_true, hp.k, hp.k1, hp.k2, hp.k3, hp.k4, hp.k5, hp.k6, hp.k7, hp.k8, hp.k9, hp.k10, hp.l1, hp.l2, hp.l3, hp.l4, hp.l5, hp.l6, hp.l7, hp.l8, hp.l9, hp.l10]) <;> (try omega))) only [↓reduceIte, ↓z_ite, ↓zR, ↓zB_R, ↓zB_B, ↓zB_ite, ↓zB_gI, ↓zB_pI, ↓zB_pZ, ↓zB_aK, ↓zB_G, ↓zB_lI, ↓zB_lZ, ↓zB_wI, ↓zB_wZ, ↓zB_lIl, ↓zB_wIl, zB_pI, zB_pZ, zB_lI, zB_lZ, zB_wI, zB_wZ, z_addl, z_ladd, z_mull, z_lmul, nI_add, z_subl, Nat.not_lt_zero, z_10, z_01, z_bitc, z_b0, z_b1, ↓zB_Gb, ↓zB_G0, ↓zB_G1, z_eql, z_leq, z_ltl, z_llt, z_eq, z_lt, z_m1lt, hp.k, hp.k1, hp.k2, hp.k3, hp.k4, hp.k5, hp.k6, hp.k7, hp.k8, hp.k9, hp.k10, hp.l1, hp.l2, hp.l3, hp.l4, hp.l5, hp.l6, hp.l7, hp.l8, hp.l9, hp.l10, ↓hp.g0, ↓hp.g1, ↓hp.g2, ↓hp.g3, ↓hp.g4, ↓hp.g5, ↓hp.g6, ↓hp.g7, ↓hp.g8, ↓hp.g9, ↓hp.gb, hp.gb, h0, Nat.zero_add, Nat.lt_irrefl]
  · rw [z_sch_b]; rfl
theorem z_TY_of {k : Nat} {m' : z_m} (hB : z_wB (z_nc P) (z_bd P k)) (hce : z_ce m' (z_bi p k) (z_bd P k)) (h1 : z_ok P k (z_bd P k) (m' (z_bi p k + 5))) (h2 : ∀ i, i < (z_bd P k).length → m' (z_bi p k + 6) i = z_bs P k (z_bd P k) (m' (z_bi p k + 5)) i) : z_TY m' p P k := by
  have hu := z_ok_uq hB h1 (z_T_ok ⟨_, h1⟩)
  refine ⟨hce, fun i hi => ⟨hu i hi, ?_⟩⟩
  rw [h2 i hi]
  exact z_bs_congr hB hi (fun q hq => hu _ (z_pt_lt hB.1 hi hq))
theorem z_TY_fr {k : Nat} {m' : z_m} (h : ∀ a, z_bi p k + 4 ≤ a → a ≤ z_bi p k + 6 → m' a = m a) (ht : z_TY m p P k) : z_TY m' p P k := by
  obtain ⟨h1, h2⟩ := ht
  refine ⟨fun i hi => ?_, fun i hi => ?_⟩
  · rw [h _ (Nat.le_refl _) (by omega)]; exact h1 i hi
  · rw [h (z_bi p k + 5) (by omega) (by omega), h (z_bi p k + 6) (by omega) (by omega)]; exact h2 i hi
theorem z_wr_none (h : ∀ k, k < z_nm P → z_bad P k = false) : z_wr P = -1 := z_sch_n (fun j _ h2 => h j (by omega))
theorem z_wr_some {k : Nat} (hk : k < z_nm P) (hb : z_bad P k = true) (h : ∀ j, j < k → z_bad P j = false) : z_wr P = nI k := z_sch_s (Nat.zero_le _) (by omega) hb (fun j _ h2 => h j h2)
/-- Checker.isRight -/
theorem f21_sp (hX : z_XS S) (hp : z_PS S p) (h9 : 9 < p) (h : z_cp m p P) (hw : z_wf P) (hkn : z_KN m p P) : ∃ m', f21 8 p (z_hp S m) = some (z_b (z_wr P == -1), z_hp S m') ∧ z_cp m' p P ∧ m' p 14 = 1 ∧ z_KN m' p P ∧ ∀ a, a ≠ 9 → (a < p ∨ p + 179 ≤ a) → m' a = m a := by
  have h24 := hw.2.2.1
  rcases hkn.1 with g | g
  · -- not looked at yet
    have key := z_loopI (f := fun s => f21_25b (s.1) (s.2.1) (s.2.2.1) (s.2.2.2)) (S := S) (fun n s m' => ∃ i, n = z_nm P - i ∧ i ≤ z_nm P ∧ z_cp m' p P ∧ (∀ a, a ≠ 9 → (a < p ∨ p + 179 ≤ a) → m' a = m a) ∧ ((s = (8, p, -1, nI i) ∧ (∀ j, j < i → z_bad P j = false) ∧ ∀ j, j < i → z_liv P j = true → z_TY m' p P j) ∨ (∃ k, i = k + 1 ∧ s = (8, p, nI k, nI i) ∧ z_bad P k = true ∧ ∀ j, j < k → z_bad P j = false))) (fun v m' => v = z_b (z_wr P == -1) ∧ z_cp m' p P ∧ m' p 14 = 1 ∧ z_KN m' p P ∧ ∀ a, a ≠ 9 → (a < p ∨ p + 179 ≤ a) → m' a = m a) ?_ 1000000 (z_nm P) (8, p, -1, 0) m ⟨0, rfl, Nat.zero_le _, h, fun _ _ _ => rfl, Or.inl ⟨rfl, fun j hj => by omega, fun j hj => by omega⟩⟩ (by omega)
    · obtain ⟨v, m', e, h1, h2⟩ := key
      rw [h1] at e
      refine ⟨m', ?_, h2⟩
      rw [← e]
      unfold f21 f21_25
      simp (disch := ((try simp only [true_or, or_true, hp.k, hp.k1, hp.k2, hp.k3, hp.k4, hp.k5, hp.k6, hp.k7, hp.k8, hp.k9, hp.k10, hp.l1, hp.l2, hp.l3, hp.l4, hp.l5, hp.l6, hp.l7, hp.l8, hp.l9, hp.l10]) <;> (try omega))) only [↓reduceIte, ↓z_ite, ↓zR, ↓zB_R, ↓zB_B, ↓zB_ite, ↓zB_gI, ↓zB_pI, ↓zB_pZ, ↓zB_aK, ↓zB_G, ↓zB_lI, ↓zB_lZ, ↓zB_wI, ↓zB_wZ, ↓zB_lIl, ↓zB_wIl, zB_pI, zB_pZ, zB_lI, zB_lZ, zB_wI, zB_wZ, z_addl, z_ladd, z_mull, z_lmul, nI_add, z_subl, Nat.not_lt_zero, z_10, z_01, z_bitc, z_b0, z_b1, ↓zB_Gb, ↓zB_G0, ↓zB_G1, z_eql, z_leq, z_ltl, z_llt, z_eq, z_lt, z_m1lt, hp.k, hp.k1, hp.k2, hp.k3, hp.k4, hp.k5, hp.k6, hp.k7, hp.k8, hp.k9, hp.k10, hp.l1, hp.l2, hp.l3, hp.l4, hp.l5, hp.l6, hp.l7, hp.l8, hp.l9, hp.l10, ↓hp.g0, ↓hp.g1, ↓hp.g2, ↓hp.g3, ↓hp.g4, ↓hp.g5, ↓hp.g6, ↓hp.g7, ↓hp.g8, ↓hp.g9, ↓hp.gb, hp.gb, g]
    · rintro n s m' ⟨i, rfl, hi, hc, hfr, hs⟩
      have h0 := hc.2.1.1
      have fin : ∀ w : Int32, w = z_wr P → (w = -1 → ∀ k, k < z_nm P → z_liv P k = true → z_TY m' p P k) → ∃ m2, f21_81 p w (z_hp S m') = some (z_b (z_wr P == -1), z_hp S m2) ∧ z_cp m2 p P ∧ m2 p 14 = 1 ∧ z_KN m2 p P ∧ ∀ a, a ≠ 9 → (a < p ∨ p + 179 ≤ a) → m2 a = m a := by
        intro w hw2 hty
        refine ⟨z_up (z_up m' p 13 w) p 14 1, ?_, ?_, z_up_s _ _ _ _, ⟨Or.inr (z_up_s _ _ _ _), fun _ => ⟨?_, fun g2 k hk hl => ?_⟩⟩, fun a h1 h2 => ?_⟩
        · unfold f21_81 f21_101
          rw [← hw2]
          by_cases g2 : w = -1
          · simp (disch := ((try simp only [true_or, or_true, hp.k, hp.k1, hp.k2, hp.k3, hp.k4, hp.k5, hp.k6, hp.k7, hp.k8, hp.k9, hp.k10, hp.l1, hp.l2, hp.l3, hp.l4, hp.l5, hp.l6, hp.l7, hp.l8, hp.l9, hp.l10, or_true]) <;> (try omega))) only [↓reduceIte, ↓z_ite, ↓zR, ↓zB_R, ↓zB_B, ↓zB_ite, ↓zB_gI, ↓zB_pI, ↓zB_pZ, ↓zB_aK, ↓zB_G, ↓zB_lI, ↓zB_lZ, ↓zB_wI, ↓zB_wZ, ↓zB_lIl, ↓zB_wIl, zB_pI, zB_pZ, zB_lI, zB_lZ, zB_wI, zB_wZ, z_addl, z_ladd, z_mull, z_lmul, nI_add, z_subl, Nat.not_lt_zero, z_10, z_01, z_bitc, z_b0, z_b1, ↓zB_Gb, ↓zB_G0, ↓zB_G1, z_eql, z_leq, z_ltl, z_llt, z_eq, z_lt, z_m1lt, hp.k, hp.k1, hp.k2, hp.k3, hp.k4, hp.k5, hp.k6, hp.k7, hp.k8, hp.k9, hp.k10, hp.l1, hp.l2, hp.l3, hp.l4, hp.l5, hp.l6, hp.l7, hp.l8, hp.l9, hp.l10, or_true, ↓hp.g0, ↓hp.g1, ↓hp.g2, ↓hp.g3, ↓hp.g4, ↓hp.g5, ↓hp.g6, ↓hp.g7, ↓hp.g8, ↓hp.g9, ↓hp.gb, hp.gb, g2]
            simp [z_b]
          · simp (disch := ((try simp only [true_or, or_true, hp.k, hp.k1, hp.k2, hp.k3, hp.k4, hp.k5, hp.k6, hp.k7, hp.k8, hp.k9, hp.k10, hp.l1, hp.l2, hp.l3, hp.l4, hp.l5, hp.l6, hp.l7, hp.l8, hp.l9, hp.l10, or_true]) <;> (try omega))) only [↓reduceIte, ↓z_ite, ↓zR, ↓zB_R, ↓zB_B, ↓zB_ite, ↓zB_gI, ↓zB_pI, ↓zB_pZ, ↓zB_aK, ↓zB_G, ↓zB_lI, ↓zB_lZ, ↓zB_wI, ↓zB_wZ, ↓zB_lIl, ↓zB_wIl, zB_pI, zB_pZ, zB_lI, zB_lZ, zB_wI, zB_wZ, z_addl, z_ladd, z_mull, z_lmul, nI_add, z_subl, Nat.not_lt_zero, z_10, z_01, z_bitc, z_b0, z_b1, ↓zB_Gb, ↓zB_G0, ↓zB_G1, z_eql, z_leq, z_ltl, z_llt, z_eq, z_lt, z_m1lt, hp.k, hp.k1, hp.k2, hp.k3, hp.k4, hp.k5, hp.k6, hp.k7, hp.k8, hp.k9, hp.k10, hp.l1, hp.l2, hp.l3, hp.l4, hp.l5, hp.l6, hp.l7, hp.l8, hp.l9, hp.l10, or_true, ↓hp.g0, ↓hp.g1, ↓hp.g2, ↓hp.g3, ↓hp.g4, ↓hp.g5, ↓hp.g6, ↓hp.g7, ↓hp.g8, ↓hp.g9, ↓hp.gb, hp.gb, g2]
            simp [g2, z_b]
        · refine z_cp_fr2 h24 ⟨?_, ?_, ?_⟩ (fun a h1 h2 => ?_) (fun k hk a h1 h2 => ?_) hc
          · rw [z_up_b (by decide), z_up_b (by decide)]
          · rw [z_up_b (by decide), z_up_b (by decide)]
          · rw [z_up_b (by decide), z_up_b (by decide)]
          · rw [z_up_row (by omega), z_up_row (by omega)]
          · unfold z_bi at h1; rw [z_up_row (by omega), z_up_row (by omega)]
        · rw [z_up_b (by decide), z_up_s]; exact hw2
        · refine z_TY_fr (fun a h1 h2 => ?_) (hty (hw2.trans g2) k hk hl)
          unfold z_bi at h1; rw [z_up_row (by omega), z_up_row (by omega)]
        · rw [z_up_row (by omega), z_up_row (by omega)]; exact hfr a h1 h2
      have e79 : ∀ i, i < z_nm P → f79 p (nI i) (z_hp S m') = some (z_b (z_liv P i), z_hp S m') := fun i hi => by
        have := f79_sp hp hc (k := i) (by omega)
        unfold z_thr at this
        rwa [show decide (i < z_nm P) = true by simp [hi], Bool.true_and] at this
      rcases hs with ⟨rfl, hg, hty⟩ | ⟨k, rfl, rfl, hbad, hg⟩
      · rcases Nat.eq_or_lt_of_le hi with hi2 | hi2
        · obtain ⟨m2, e, h1⟩ := fin (-1) (z_wr_none (fun k hk => hg k (by omega))).symm (fun _ k hk hl => hty k (by omega) hl)
          refine Or.inr ⟨_, m2, ?_, rfl, h1⟩
          dsimp only
          unfold f21_25b
          rw [hi2]
          simp (disch := ((try simp only [true_or, or_true, hp.k, hp.k1, hp.k2, hp.k3, hp.k4, hp.k5, hp.k6, hp.k7, hp.k8, hp.k9, hp.k10, hp.l1, hp.l2, hp.l3, hp.l4, hp.l5, hp.l6, hp.l7, hp.l8, hp.l9, hp.l10]) <;> (try omega))) only [↓reduceIte, ↓z_ite, ↓zR, ↓zB_R, ↓zB_B, ↓zB_ite, ↓zB_gI, ↓zB_pI, ↓zB_pZ, ↓zB_aK, ↓zB_G, ↓zB_lI, ↓zB_lZ, ↓zB_wI, ↓zB_wZ, ↓zB_lIl, ↓zB_wIl, zB_pI, zB_pZ, zB_lI, zB_lZ, zB_wI, zB_wZ, z_addl, z_ladd, z_mull, z_lmul, nI_add, z_subl, Nat.not_lt_zero, z_10, z_01, z_bitc, z_b0, z_b1, ↓zB_Gb, ↓zB_G0, ↓zB_G1, z_eql, z_leq, z_ltl, z_llt, z_eq, z_lt, z_m1lt, hp.k, hp.k1, hp.k2, hp.k3, hp.k4, hp.k5, hp.k6, hp.k7, hp.k8, hp.k9, hp.k10, hp.l1, hp.l2, hp.l3, hp.l4, hp.l5, hp.l6, hp.l7, hp.l8, hp.l9, hp.l10, ↓hp.g0, ↓hp.g1, ↓hp.g2, ↓hp.g3, ↓hp.g4, ↓hp.g5, ↓hp.g6, ↓hp.g7, ↓hp.g8, ↓hp.g9, ↓hp.gb, hp.gb, h0, Nat.lt_irrefl, ↓zB_c e, zB_c e]
        · cases hl : z_liv P i with
          | false =>
            have hb : z_bad P i = false := z_bad_f.mpr (fun g2 => by rw [hl] at g2; exact Bool.noConfusion g2.1)
            refine Or.inl ⟨_, m', z_nm P - (i + 1), ?_, by omega, i + 1, rfl, hi2, hc, hfr, Or.inl ⟨rfl, fun j hj => ?_, fun j hj hjl => ?_⟩⟩
            · dsimp only
              unfold f21_25b f21_75
              simp (disch := ((try simp only [true_or, or_true, hp.k, hp.k1, hp.k2, hp.k3, hp.k4, hp.k5, hp.k6, hp.k7, hp.k8, hp.k9, hp.k10, hp.l1, hp.l2, hp.l3, hp.l4, hp.l5, hp.l6, hp.l7, hp.l8, hp.l9, hp.l10]) <;> (try omega))) only [↓reduceIte, ↓z_ite, ↓zR, ↓zB_R, ↓zB_B, ↓zB_ite, ↓zB_gI, ↓zB_pI, ↓zB_pZ, ↓zB_aK, ↓zB_G, ↓zB_lI, ↓zB_lZ, ↓zB_wI, ↓zB_wZ, ↓zB_lIl, ↓zB_wIl, zB_pI, zB_pZ, zB_lI, zB_lZ, zB_wI, zB_wZ, z_addl, z_ladd, z_mull, z_lmul, nI_add, z_subl, Nat.not_lt_zero, z_10, z_01, z_bitc, z_b0, z_b1, ↓zB_Gb, ↓zB_G0, ↓zB_G1, z_eql, z_leq, z_ltl, z_llt, z_eq, z_lt, z_m1lt, hp.k, hp.k1, hp.k2, hp.k3, hp.k4, hp.k5, hp.k6, hp.k7, hp.k8, hp.k9, hp.k10, hp.l1, hp.l2, hp.l3, hp.l4, hp.l5, hp.l6, hp.l7, hp.l8, hp.l9, hp.l10, ↓hp.g0, ↓hp.g1, ↓hp.g2, ↓hp.g3, ↓hp.g4, ↓hp.g5, ↓hp.g6, ↓hp.g7, ↓hp.g8, ↓hp.g9, ↓hp.gb, hp.gb, h0, hi2, ↓zB_c (e79 i hi2), zB_c (e79 i hi2), hl]
            · rcases Nat.lt_succ_iff_lt_or_eq.mp hj with h1 | h1
              · exact hg j h1
              · rw [h1]; exact hb
            · rcases Nat.lt_succ_iff_lt_or_eq.mp hj with h1 | h1
              · exact hty j h1 hjl
              · rw [h1, hl] at hjl; cases hjl
          | true =>
            have hB := hw.2.2.2.2.1 i hi2
            have hbs := hp.B (k := i) (by omega)
            have hcb := hc.2.2.2 i hi2 hl
            obtain ⟨v, m2, e23, hkf, hv⟩ := f23_sp hX hp hw hi2 hl hbs (Or.inl ⟨i, by omega, rfl⟩) ⟨h9, by unfold z_bi; omega⟩ hB hc hcb
            have hc2 : z_cp m2 p P := z_cp_fr h24 (fun a h1 h2 => hkf a (by omega) (by unfold z_bi; omega) (by unfold z_bi; omega) (by unfold z_bi; omega)) (fun q hq a h1 h2 => hkf a (by unfold z_bi at h1; omega) (by unfold z_bi at *; omega) (by unfold z_bi at *; omega) (by unfold z_bi at *; omega)) hc
            have hfr2 : ∀ a, a ≠ 9 → (a < p ∨ p + 179 ≤ a) → m2 a = m a := fun a h1 h2 => by
              rw [hkf a h1 (by unfold z_bi; omega) (by unfold z_bi; omega) (by unfold z_bi; omega)]; exact hfr a h1 h2
            have hty2 : ∀ j, j < i → z_liv P j = true → z_TY m2 p P j := fun j hj hjl => z_TY_fr (fun a h1 h2 => hkf a (by unfold z_bi at h1; omega) (by unfold z_bi at *; omega) (by unfold z_bi at *; omega) (by unfold z_bi at *; omega)) (hty j hj hjl)
            rcases hv with ⟨rfl, h1, h2, h3⟩ | ⟨rfl, h1⟩
            · have e22 := f22_sp 8 hp hc2 hw hi2
              cases ho : z_ovw P i with
              | false =>
                have hb : z_bad P i = false := z_bad_f.mpr (fun g2 => by
                  rcases g2.2 with g3 | g3
                  · exact g3 ⟨_, h1⟩
                  · rw [ho] at g3; cases g3)
                refine Or.inl ⟨_, m2, z_nm P - (i + 1), ?_, by omega, i + 1, rfl, hi2, hc2, hfr2, Or.inl ⟨rfl, fun j hj => ?_, fun j hj hjl => ?_⟩⟩
                · dsimp only
                  unfold f21_25b f21_75
                  simp (disch := ((try simp only [true_or, or_true, hp.k, hp.k1, hp.k2, hp.k3, hp.k4, hp.k5, hp.k6, hp.k7, hp.k8, hp.k9, hp.k10, hp.l1, hp.l2, hp.l3, hp.l4, hp.l5, hp.l6, hp.l7, hp.l8, hp.l9, hp.l10, hX.k8, hX.k9, hX.l9]) <;> (try omega))) only [↓reduceIte, ↓z_ite, ↓zR, ↓zB_R, ↓zB_B, ↓zB_ite, ↓zB_gI, ↓zB_pI, ↓zB_pZ, ↓zB_aK, ↓zB_G, ↓zB_lI, ↓zB_lZ, ↓zB_wI, ↓zB_wZ, ↓zB_lIl, ↓zB_wIl, zB_pI, zB_pZ, zB_lI, zB_lZ, zB_wI, zB_wZ, z_addl, z_ladd, z_mull, z_lmul, nI_add, z_subl, Nat.not_lt_zero, z_10, z_01, z_bitc, z_b0, z_b1, ↓zB_Gb, ↓zB_G0, ↓zB_G1, z_eql, z_leq, z_ltl, z_llt, z_eq, z_lt, z_m1lt, hp.k, hp.k1, hp.k2, hp.k3, hp.k4, hp.k5, hp.k6, hp.k7, hp.k8, hp.k9, hp.k10, hp.l1, hp.l2, hp.l3, hp.l4, hp.l5, hp.l6, hp.l7, hp.l8, hp.l9, hp.l10, hX.k8, hX.k9, hX.l9, ↓hp.g0, ↓hp.g1, ↓hp.g2, ↓hp.g3, ↓hp.g4, ↓hp.g5, ↓hp.g6, ↓hp.g7, ↓hp.g8, ↓hp.g9, ↓hp.gb, hp.gb, ↓hX.g8_0, h0, hi2, ↓zB_c (e79 i hi2), zB_c (e79 i hi2), hl, ↓zB_c e23, zB_c e23, ↓zB_c e22, zB_c e22, ho, Bool.true_eq_false]
                · rcases Nat.lt_succ_iff_lt_or_eq.mp hj with h1 | h1
                  · exact hg j h1
                  · rw [h1]; exact hb
                · rcases Nat.lt_succ_iff_lt_or_eq.mp hj with h4 | h4
                  · exact hty2 j h4 hjl
                  · rw [h4]; exact z_TY_of hB h2.2.2 h1 h3
              | true =>
                have hb : z_bad P i = true := z_bad_iff.mpr ⟨hl, Or.inr ho⟩
                refine Or.inl ⟨_, m2, z_nm P - (i + 1), ?_, by omega, i + 1, rfl, hi2, hc2, hfr2, Or.inr ⟨i, rfl, rfl, hb, hg⟩⟩
                dsimp only
                unfold f21_25b f21_73 f21_75
                simp (disch := ((try simp only [true_or, or_true, hp.k, hp.k1, hp.k2, hp.k3, hp.k4, hp.k5, hp.k6, hp.k7, hp.k8, hp.k9, hp.k10, hp.l1, hp.l2, hp.l3, hp.l4, hp.l5, hp.l6, hp.l7, hp.l8, hp.l9, hp.l10, hX.k8, hX.k9, hX.l9]) <;> (try omega))) only [↓reduceIte, ↓z_ite, ↓zR, ↓zB_R, ↓zB_B, ↓zB_ite, ↓zB_gI, ↓zB_pI, ↓zB_pZ, ↓zB_aK, ↓zB_G, ↓zB_lI, ↓zB_lZ, ↓zB_wI, ↓zB_wZ, ↓zB_lIl, ↓zB_wIl, zB_pI, zB_pZ, zB_lI, zB_lZ, zB_wI, zB_wZ, z_addl, z_ladd, z_mull, z_lmul, nI_add, z_subl, Nat.not_lt_zero, z_10, z_01, z_bitc, z_b0, z_b1, ↓zB_Gb, ↓zB_G0, ↓zB_G1, z_eql, z_leq, z_ltl, z_llt, z_eq, z_lt, z_m1lt, hp.k, hp.k1, hp.k2, hp.k3, hp.k4, hp.k5, hp.k6, hp.k7, hp.k8, hp.k9, hp.k10, hp.l1, hp.l2, hp.l3, hp.l4, hp.l5, hp.l6, hp.l7, hp.l8, hp.l9, hp.l10, hX.k8, hX.k9, hX.l9, ↓hp.g0, ↓hp.g1, ↓hp.g2, ↓hp.g3, ↓hp.g4, ↓hp.g5, ↓hp.g6, ↓hp.g7, ↓hp.g8, ↓hp.g9, ↓hp.gb, hp.gb, ↓hX.g8_0, h0, hi2, ↓zB_c (e79 i hi2), zB_c (e79 i hi2), hl, ↓zB_c e23, zB_c e23, ↓zB_c e22, zB_c e22, ho, Bool.true_eq_false]
            · have hb : z_bad P i = true := z_bad_iff.mpr ⟨hl, Or.inl h1⟩
              refine Or.inl ⟨_, m2, z_nm P - (i + 1), ?_, by omega, i + 1, rfl, hi2, hc2, hfr2, Or.inr ⟨i, rfl, rfl, hb, hg⟩⟩
              dsimp only
              unfold f21_25b f21_73 f21_75
              simp (disch := ((try simp only [true_or, or_true, hp.k, hp.k1, hp.k2, hp.k3, hp.k4, hp.k5, hp.k6, hp.k7, hp.k8, hp.k9, hp.k10, hp.l1, hp.l2, hp.l3, hp.l4, hp.l5, hp.l6, hp.l7, hp.l8, hp.l9, hp.l10, hX.k8, hX.k9, hX.l9]) <;> (try omega))) only [↓reduceIte, ↓z_ite, ↓zR, ↓zB_R, ↓zB_B, ↓zB_ite, ↓zB_gI, ↓zB_pI, ↓zB_pZ, ↓zB_aK, ↓zB_G, ↓zB_lI, ↓zB_lZ, ↓zB_wI, ↓zB_wZ, ↓zB_lIl, ↓zB_wIl, zB_pI, zB_pZ, zB_lI, zB_lZ, zB_wI, zB_wZ, z_addl, z_ladd, z_mull, z_lmul, nI_add, z_subl, Nat.not_lt_zero, z_10, z_01, z_bitc, z_b0, z_b1, ↓zB_Gb, ↓zB_G0, ↓zB_G1, z_eql, z_leq, z_ltl, z_llt, z_eq, z_lt, z_m1lt, hp.k, hp.k1, hp.k2, hp.k3, hp.k4, hp.k5, hp.k6, hp.k7, hp.k8, hp.k9, hp.k10, hp.l1, hp.l2, hp.l3, hp.l4, hp.l5, hp.l6, hp.l7, hp.l8, hp.l9, hp.l10, hX.k8, hX.k9, hX.l9, ↓hp.g0, ↓hp.g1, ↓hp.g2, ↓hp.g3, ↓hp.g4, ↓hp.g5, ↓hp.g6, ↓hp.g7, ↓hp.g8, ↓hp.g9, ↓hp.gb, hp.gb, ↓hX.g8_0, h0, hi2, ↓zB_c (e79 i hi2), zB_c (e79 i hi2), hl, ↓zB_c e23, zB_c e23, Bool.true_eq_false]
      · have hne : ¬ nI k = -1 := z_nI_m1 (by omega)
        have hwk := z_wr_some (k := k) (by omega) hbad hg
        obtain ⟨m2, e, h1⟩ := fin (nI k) hwk.symm (fun g2 => absurd g2 hne)
        refine Or.inr ⟨_, m2, ?_, rfl, h1⟩
        dsimp only
        unfold f21_25b
        by_cases g3 : k + 1 < z_nm P
        · simp (disch := ((try simp only [true_or, or_true, hp.k, hp.k1, hp.k2, hp.k3, hp.k4, hp.k5, hp.k6, hp.k7, hp.k8, hp.k9, hp.k10, hp.l1, hp.l2, hp.l3, hp.l4, hp.l5, hp.l6, hp.l7, hp.l8, hp.l9, hp.l10]) <;> (try omega))) only [↓reduceIte, ↓z_ite, ↓zR, ↓zB_R, ↓zB_B, ↓zB_ite, ↓zB_gI, ↓zB_pI, ↓zB_pZ, ↓zB_aK, ↓zB_G, ↓zB_lI, ↓zB_lZ, ↓zB_wI, ↓zB_wZ, ↓zB_lIl, ↓zB_wIl, zB_pI, zB_pZ, zB_lI, zB_lZ, zB_wI, zB_wZ, z_addl, z_ladd, z_mull, z_lmul, nI_add, z_subl, Nat.not_lt_zero, z_10, z_01, z_bitc, z_b0, z_b1, ↓zB_Gb, ↓zB_G0, ↓zB_G1, z_eql, z_leq, z_ltl, z_llt, z_eq, z_lt, z_m1lt, hp.k, hp.k1, hp.k2, hp.k3, hp.k4, hp.k5, hp.k6, hp.k7, hp.k8, hp.k9, hp.k10, hp.l1, hp.l2, hp.l3, hp.l4, hp.l5, hp.l6, hp.l7, hp.l8, hp.l9, hp.l10, ↓hp.g0, ↓hp.g1, ↓hp.g2, ↓hp.g3, ↓hp.g4, ↓hp.g5, ↓hp.g6, ↓hp.g7, ↓hp.g8, ↓hp.g9, ↓hp.gb, hp.gb, h0, g3, hne, ↓zB_c e, zB_c e]
        · simp (disch := ((try simp only [true_or, or_true, hp.k, hp.k1, hp.k2, hp.k3, hp.k4, hp.k5, hp.k6, hp.k7, hp.k8, hp.k9, hp.k10, hp.l1, hp.l2, hp.l3, hp.l4, hp.l5, hp.l6, hp.l7, hp.l8, hp.l9, hp.l10]) <;> (try omega))) only [↓reduceIte, ↓z_ite, ↓zR, ↓zB_R, ↓zB_B, ↓zB_ite, ↓zB_gI, ↓zB_pI, ↓zB_pZ, ↓zB_aK, ↓zB_G, ↓zB_lI, ↓zB_lZ, ↓zB_wI, ↓zB_wZ, ↓zB_lIl, ↓zB_wIl, zB_pI, zB_pZ, zB_lI, zB_lZ, zB_wI, zB_wZ, z_addl, z_ladd, z_mull, z_lmul, nI_add, z_subl, Nat.not_lt_zero, z_10, z_01, z_bitc, z_b0, z_b1, ↓zB_Gb, ↓zB_G0, ↓zB_G1, z_eql, z_leq, z_ltl, z_llt, z_eq, z_lt, z_m1lt, hp.k, hp.k1, hp.k2, hp.k3, hp.k4, hp.k5, hp.k6, hp.k7, hp.k8, hp.k9, hp.k10, hp.l1, hp.l2, hp.l3, hp.l4, hp.l5, hp.l6, hp.l7, hp.l8, hp.l9, hp.l10, ↓hp.g0, ↓hp.g1, ↓hp.g2, ↓hp.g3, ↓hp.g4, ↓hp.g5, ↓hp.g6, ↓hp.g7, ↓hp.g8, ↓hp.g9, ↓hp.gb, hp.gb, h0, g3, ↓zB_c e, zB_c e]
  · obtain ⟨h1, h2⟩ := hkn.2 g
    refine ⟨m, ?_, h, g, hkn, fun _ _ _ => rfl⟩
    unfold f21 f21_20
    by_cases g2 : z_wr P = -1
    · simp (disch := ((try simp only [true_or, or_true, hp.k, hp.k1, hp.k2, hp.k3, hp.k4, hp.k5, hp.k6, hp.k7, hp.k8, hp.k9, hp.k10, hp.l1, hp.l2, hp.l3, hp.l4, hp.l5, hp.l6, hp.l7, hp.l8, hp.l9, hp.l10]) <;> (try omega))) only [↓reduceIte, ↓z_ite, ↓zR, ↓zB_R, ↓zB_B, ↓zB_ite, ↓zB_gI, ↓zB_pI, ↓zB_pZ, ↓zB_aK, ↓zB_G, ↓zB_lI, ↓zB_lZ, ↓zB_wI, ↓zB_wZ, ↓zB_lIl, ↓zB_wIl, zB_pI, zB_pZ, zB_lI, zB_lZ, zB_wI, zB_wZ, z_addl, z_ladd, z_mull, z_lmul, nI_add, z_subl, Nat.not_lt_zero, z_10, z_01, z_bitc, z_b0, z_b1, ↓zB_Gb, ↓zB_G0, ↓zB_G1, z_eql, z_leq, z_ltl, z_llt, z_eq, z_lt, z_m1lt, hp.k, hp.k1, hp.k2, hp.k3, hp.k4, hp.k5, hp.k6, hp.k7, hp.k8, hp.k9, hp.k10, hp.l1, hp.l2, hp.l3, hp.l4, hp.l5, hp.l6, hp.l7, hp.l8, hp.l9, hp.l10, ↓hp.g0, ↓hp.g1, ↓hp.g2, ↓hp.g3, ↓hp.g4, ↓hp.g5, ↓hp.g6, ↓hp.g7, ↓hp.g8, ↓hp.g9, ↓hp.gb, hp.gb, g, h1, g2]
      rfl
    · simp (disch := ((try simp only [true_or, or_true, hp.k, hp.k1, hp.k2, hp.k3, hp.k4, hp.k5, hp.k6, hp.k7, hp.k8, hp.k9, hp.k10, hp.l1, hp.l2, hp.l3, hp.l4, hp.l5, hp.l6, hp.l7, hp.l8, hp.l9, hp.l10]) <;> (try omega))) only [↓reduceIte, ↓z_ite, ↓zR, ↓zB_R, ↓zB_B, ↓zB_ite, ↓zB_gI, ↓zB_pI, ↓zB_pZ, ↓zB_aK, ↓zB_G, ↓zB_lI, ↓zB_lZ, ↓zB_wI, ↓zB_wZ, ↓zB_lIl, ↓zB_wIl, zB_pI, zB_pZ, zB_lI, zB_lZ, zB_wI, zB_wZ, z_addl, z_ladd, z_mull, z_lmul, nI_add, z_subl, Nat.not_lt_zero, z_10, z_01, z_bitc, z_b0, z_b1, ↓zB_Gb, ↓zB_G0, ↓zB_G1, z_eql, z_leq, z_ltl, z_llt, z_eq, z_lt, z_m1lt, hp.k, hp.k1, hp.k2, hp.k3, hp.k4, hp.k5, hp.k6, hp.k7, hp.k8, hp.k9, hp.k10, hp.l1, hp.l2, hp.l3, hp.l4, hp.l5, hp.l6, hp.l7, hp.l8, hp.l9, hp.l10, ↓hp.g0, ↓hp.g1, ↓hp.g2, ↓hp.g3, ↓hp.g4, ↓hp.g5, ↓hp.g6, ↓hp.g7, ↓hp.g8, ↓hp.g9, ↓hp.gb, hp.gb, g, h1, g2]
      simp [g2, z_b]
end
