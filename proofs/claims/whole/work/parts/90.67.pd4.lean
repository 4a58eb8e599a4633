-- deps: 90.66.pd3
/-! a method pushed down: the class, all of it -/
section
variable {S : z_S} {m : z_m} {p q : Nat} {P Q : z_Pg} {A : z_A}
theorem z_cp_own (hcq : z_cp m q P) (hw : z_wf P) {k d : Nat} (hk : k < z_nm P) (hl : z_liv P k = true) : z_cp (z_up m (q + 4) k (nI d)) q (z_sM P k (z_hset (z_hd P k) 1 (nI d)) (z_bd P k)) := by
  have hh := z_h1_of hcq hk hl
  refine z_cp_sM hcq (fun j hj => (hw.2.2.2.1 j hj).2.2.2.1.1) hk hl ⟨z_up_row (by omega), z_up_row (by omega), z_up_row (by omega), z_up_row (by omega), fun j hj => ⟨by rw [z_up_b hj], by rw [z_up_row (by omega)], by rw [z_up_row (by omega)], by rw [z_up_row (by omega)], fun i hi => ⟨by rw [z_up_row (by omega)], by rw [z_up_row (by omega)]⟩⟩⟩ (by rw [z_hset_o (by decide)]; simpa [z_liv] using hl) ?_ (fun j hj => by rw [z_up_row (by unfold z_bi; omega)]; exact hcq.2.2.1 j hj) (fun j hj hne a x1 x2 => z_up_row (by unfold z_bi at x1; omega)) (z_cb_fr (fun a x1 x2 => z_up_row (by unfold z_bi at x1; omega)) (hcq.2.2.2 k hk hl))
  obtain ⟨r1, r2, r3, r4, r5, r6⟩ := hh
  refine ⟨?_, ?_, ?_, ?_, fun i hi => ?_, fun i hi => ?_⟩
  · rw [z_up_s, z_hset_s]
  · rw [z_up_row (by omega), z_hset_o (by decide)]; exact r2
  · rw [z_up_row (by omega), z_hset_o (by decide)]; exact r3
  · rw [z_up_row (by omega), z_hset_o (by decide)]; exact r4
  · rw [z_up_row (by omega), z_hset_o (by omega)]; exact r5 i hi
  · rw [z_hset_o (by decide)] at hi
    rw [z_up_row (by omega), z_hset_o (by omega)]; exact r6 i hi
theorem z_cp_kill1 (h : z_cp m q P) (h24 : z_nm P ≤ 24) {k : Nat} (hk : k < z_nm P) : z_cp (z_up m q 12 (m q 12 &&& ((1 <<< (nI k &&& 31)) ^^^ (-1)))) q (z_sM P k (z_hset (z_hd P k) 0 0) (z_bd P k)) := by
  obtain ⟨⟨a1, a2⟩, ⟨b1, b2, b3⟩, c1, c2⟩ := h
  have hlk : z_liv (z_sM P k (z_hset (z_hd P k) 0 0) (z_bd P k)) k = false := by unfold z_liv; rw [z_sM_hd_s, z_hset_s]; rfl
  have hne : ∀ j, z_liv (z_sM P k (z_hset (z_hd P k) 0 0) (z_bd P k)) j = true → j ≠ k := fun j hj e => by rw [e, hlk] at hj; cases hj
  refine ⟨⟨by rw [z_up_b (by decide)]; exact a1, fun c hc => ?_⟩, ⟨by rw [z_up_b (by decide)]; exact b1, fun j hj => ?_, fun j hj hlj => ?_⟩, fun j hj => ?_, fun j hj hlj => ?_⟩
  · obtain ⟨x1, x2, x3⟩ := a2 c hc
    refine ⟨by rw [z_up_row (by omega)]; exact x1, fun d hd => ?_, fun n hn => by rw [z_up_row (by omega)]; exact x3 n hn⟩
    rw [z_up_row (by omega), z_sM_blw]; exact x2 d hd
  · rw [z_up_s, z_bit_and _ _ hj, z_bit_not _ hj, z_bit_shl (by omega) hj, b2 j hj]
    show _ = (decide (j < z_nm P) && _)
    by_cases y : j = k
    · subst y
      rw [hlk, decide_eq_true rfl]; simp
    · rw [z_sM_liv_o y, show decide (k = j) = false from decide_eq_false (fun q => y q.symm), Bool.not_false, Bool.and_true]
  · have y := hne j hlj
    rw [z_sM_liv_o y] at hlj
    have := b3 j hj hlj
    unfold z_ch z_cnt at *
    rw [z_up_row (by omega), z_up_row (by omega), z_up_row (by omega), z_up_row (by omega), z_up_row (by omega), z_up_row (by omega)]
    simp only [z_sM_hd_o y]
    exact this
  · rw [z_up_row (by unfold z_bi; omega)]; exact c1 j hj
  · have y := hne j hlj
    rw [z_sM_liv_o y] at hlj
    rw [z_sM_bd_o y]
    exact z_cb_fr (fun a x1 x2 => z_up_row (by unfold z_bi at x1; omega)) (c2 j hj hlj)
theorem z_pdH_cg {H H' : Nat → Int32} {d : Nat} (h : ∀ w, w ≠ 1 → H w = H' w) : z_pdH H d = z_pdH H' d := by
  funext w
  unfold z_pdH
  by_cases y : w = 1
  · rw [if_pos y, if_pos y]
  · rw [if_neg y, if_neg y, h w y, h 8 (by decide)]
theorem z_ct_mono2 {s : Nat → Bool} {a b : Nat} (h : a ≤ b) : z_ct s a ≤ z_ct s b := by
  rw [show b = a + (b - a) by omega, z_ct_add]; omega
/-- Mover.spread -/
theorem f66_sp (hp : z_PS S p) (hq : z_PS S q) (lo : 242 ≤ p) (lo2 : 242 ≤ q) (hpq : p + 179 ≤ q ∨ q + 179 ≤ p) (hcp : z_cp m p P) (hcq : z_cp m q P) (h14 : m q 14 = 0) (hw : z_wf P) (h60 : z_b60 P) {k : Nat} (hk : k < z_nm P) (hl : z_liv P k = true) (h24 : ¬ 24 < z_nm P + z_ct (z_get P k) (z_nc P) - 1) : ∃ m', f66 p q (nI k) (z_hp S m) = some ((), z_hp S m') ∧ z_cp m' q (z_pdQ P k) ∧ m' q 14 = 0 ∧ ∀ a, (a < q ∨ q + 179 ≤ a) → m' a = m a := by
  have hn24 := hw.2.2.1
  have h6 := hw.1.1
  have hqk := hq.k
  have hk24 : k < 24 := by omega
  unfold f66 f66_5
  have key := z_loopI (f := fun s => f66_5b (s.1) (s.2.1) (s.2.2.1) (s.2.2.2.1) (s.2.2.2.2)) (S := S) (fun N st m' => ∃ d, N = z_nc P - d ∧ d ≤ z_nc P ∧ st = (p, q, nI k, z_b (z_pdF P k d).1, nI d) ∧ z_cp m' q (z_pdF P k d).2 ∧ m' q 14 = 0 ∧ ∀ a, (a < q ∨ q + 179 ≤ a) → m' a = m a) (fun _ m' => z_cp m' q (z_pdQ P k) ∧ m' q 14 = 0 ∧ ∀ a, (a < q ∨ q + 179 ≤ a) → m' a = m a) ?_ 1000000 (z_nc P) (p, q, nI k, 0, 0) m ⟨0, rfl, Nat.zero_le _, rfl, hcq, h14, fun _ _ => rfl⟩ (by omega)
  · obtain ⟨r, m', e, g⟩ := key
    exact ⟨m', e, g⟩
  · rintro N st m1 ⟨d, rfl, hd, rfl, g1, g2, g3⟩
    have hcp1 : z_cp m1 p P := z_cp_fr3 hw (fun a x1 x2 => g3 a (by omega)) hcp
    have h10 := hcp1.1.1
    have ih := z_pdF_ok hw h60 hk hl d hd
    dsimp only
    rcases Nat.eq_or_lt_of_le hd with hd2 | hd2
    · rw [hd2] at g1 ih
      cases hf : (z_pdF P k (z_nc P)).1 with
      | true =>
        refine Or.inr ⟨(), m1, ?_, by unfold z_pdQ; rw [if_pos hf]; exact g1, g2, g3⟩
        rw [hd2, hf]
        unfold f66_5b f66_57 f66_75
        simp (disch := ((try simp only [true_or, or_true, hp.k, hp.k1, hp.k2, hp.k3, hp.k4, hp.k5, hp.k6, hp.k7, hp.k8, hp.k9, hp.k10, hp.l1, hp.l2, hp.l3, hp.l4, hp.l5, hp.l6, hp.l7, hp.l8, hp.l9, hp.l10]) <;> (try omega))) only [↓reduceIte, ↓z_ite, ↓zR, ↓zB_R, ↓zB_B, ↓zB_ite, ↓zB_gI, ↓zB_pI, ↓zB_pZ, ↓zB_aK, ↓zB_G, ↓zB_lI, ↓zB_lZ, ↓zB_wI, ↓zB_wZ, ↓zB_lIl, ↓zB_wIl, zB_pI, zB_pZ, zB_lI, zB_lZ, zB_wI, zB_wZ, z_addl, z_ladd, z_mull, z_lmul, nI_add, z_subl, Nat.not_lt_zero, z_10, z_01, z_bitc, z_b0, z_b1, ↓zB_Gb, ↓zB_G0, ↓zB_G1, z_eql, z_leq, z_ltl, z_llt, z_eq, z_lt, z_m1lt, hp.k, hp.k1, hp.k2, hp.k3, hp.k4, hp.k5, hp.k6, hp.k7, hp.k8, hp.k9, hp.k10, hp.l1, hp.l2, hp.l3, hp.l4, hp.l5, hp.l6, hp.l7, hp.l8, hp.l9, hp.l10, ↓hp.g0, ↓hp.g1, ↓hp.g2, ↓hp.g3, ↓hp.g4, ↓hp.g5, ↓hp.g6, ↓hp.g7, ↓hp.g8, ↓hp.g9, ↓hp.gb, hp.gb, h10, Nat.lt_irrefl, Bool.true_eq_false]
      | false =>
        rw [ih.p0 hf] at g1
        refine Or.inr ⟨(), _, ?_, by unfold z_pdQ; rw [if_neg (by rw [hf]; exact Bool.false_ne_true)]; exact z_cp_kill1 g1 hn24 hk, by rw [z_up_b (by decide)]; exact g2, fun a ha => by rw [z_up_row (by omega)]; exact g3 a ha⟩
        rw [hd2, hf]
        unfold f66_5b f66_57 f66_75
        simp (disch := ((try simp only [true_or, or_true, hp.k, hp.k1, hp.k2, hp.k3, hp.k4, hp.k5, hp.k6, hp.k7, hp.k8, hp.k9, hp.k10, hp.l1, hp.l2, hp.l3, hp.l4, hp.l5, hp.l6, hp.l7, hp.l8, hp.l9, hp.l10, hq.k, hq.k1, hq.k2, hq.k3, hq.k4, hq.k5, hq.k6, hq.k7, hq.k8, hq.k9, hq.k10, hq.l1, hq.l2, hq.l3, hq.l4, hq.l5, hq.l6, hq.l7, hq.l8, hq.l9, hq.l10]) <;> (try omega))) only [↓reduceIte, ↓z_ite, ↓zR, ↓zB_R, ↓zB_B, ↓zB_ite, ↓zB_gI, ↓zB_pI, ↓zB_pZ, ↓zB_aK, ↓zB_G, ↓zB_lI, ↓zB_lZ, ↓zB_wI, ↓zB_wZ, ↓zB_lIl, ↓zB_wIl, zB_pI, zB_pZ, zB_lI, zB_lZ, zB_wI, zB_wZ, z_addl, z_ladd, z_mull, z_lmul, nI_add, z_subl, Nat.not_lt_zero, z_10, z_01, z_bitc, z_b0, z_b1, ↓zB_Gb, ↓zB_G0, ↓zB_G1, z_eql, z_leq, z_ltl, z_llt, z_eq, z_lt, z_m1lt, hp.k, hp.k1, hp.k2, hp.k3, hp.k4, hp.k5, hp.k6, hp.k7, hp.k8, hp.k9, hp.k10, hp.l1, hp.l2, hp.l3, hp.l4, hp.l5, hp.l6, hp.l7, hp.l8, hp.l9, hp.l10, hq.k, hq.k1, hq.k2, hq.k3, hq.k4, hq.k5, hq.k6, hq.k7, hq.k8, hq.k9, hq.k10, hq.l1, hq.l2, hq.l3, hq.l4, hq.l5, hq.l6, hq.l7, hq.l8, hq.l9, hq.l10, ↓hp.g0, ↓hp.g1, ↓hp.g2, ↓hp.g3, ↓hp.g4, ↓hp.g5, ↓hp.g6, ↓hp.g7, ↓hp.g8, ↓hp.g9, ↓hp.gb, hp.gb, ↓hq.g0, ↓hq.g1, ↓hq.g2, ↓hq.g3, ↓hq.g4, ↓hq.g5, ↓hq.g6, ↓hq.g7, ↓hq.g8, ↓hq.g9, ↓hq.gb, hq.gb, h10, Nat.lt_irrefl]
    · have e65 := f65_sp hp hcp1 hw hk hl hd2
      cases hg : z_get P k d with
      | false =>
        rw [hg] at e65
        refine Or.inl ⟨(p, q, nI k, z_b (z_pdF P k (d + 1)).1, nI (d + 1)), m1, z_nc P - (d + 1), ?_, by omega, d + 1, rfl, hd2, rfl, by rw [z_pdF_n hg]; exact g1, g2, g3⟩
        rw [z_pdF_n hg]
        unfold f66_5b f66_51
        simp (disch := ((try simp only [true_or, or_true, hp.k, hp.k1, hp.k2, hp.k3, hp.k4, hp.k5, hp.k6, hp.k7, hp.k8, hp.k9, hp.k10, hp.l1, hp.l2, hp.l3, hp.l4, hp.l5, hp.l6, hp.l7, hp.l8, hp.l9, hp.l10]) <;> (try omega))) only [↓reduceIte, ↓z_ite, ↓zR, ↓zB_R, ↓zB_B, ↓zB_ite, ↓zB_gI, ↓zB_pI, ↓zB_pZ, ↓zB_aK, ↓zB_G, ↓zB_lI, ↓zB_lZ, ↓zB_wI, ↓zB_wZ, ↓zB_lIl, ↓zB_wIl, zB_pI, zB_pZ, zB_lI, zB_lZ, zB_wI, zB_wZ, z_addl, z_ladd, z_mull, z_lmul, nI_add, z_subl, Nat.not_lt_zero, z_10, z_01, z_bitc, z_b0, z_b1, ↓zB_Gb, ↓zB_G0, ↓zB_G1, z_eql, z_leq, z_ltl, z_llt, z_eq, z_lt, z_m1lt, hp.k, hp.k1, hp.k2, hp.k3, hp.k4, hp.k5, hp.k6, hp.k7, hp.k8, hp.k9, hp.k10, hp.l1, hp.l2, hp.l3, hp.l4, hp.l5, hp.l6, hp.l7, hp.l8, hp.l9, hp.l10, ↓hp.g0, ↓hp.g1, ↓hp.g2, ↓hp.g3, ↓hp.g4, ↓hp.g5, ↓hp.g6, ↓hp.g7, ↓hp.g8, ↓hp.g9, ↓hp.gb, hp.gb, h10, hd2, ↓zB_c e65, zB_c e65]
      | true =>
        rw [hg] at e65
        cases hf : (z_pdF P k d).1 with
        | false =>
          rw [ih.p0 hf] at g1
          refine Or.inl ⟨(p, q, nI k, z_b (z_pdF P k (d + 1)).1, nI (d + 1)), z_up m1 (q + 4) k (nI d), z_nc P - (d + 1), ?_, by omega, d + 1, rfl, hd2, rfl, ?_, by rw [z_up_row (by omega)]; exact g2, fun a ha => by rw [z_up_row (by omega)]; exact g3 a ha⟩
          · rw [z_pdF_y hg]
            unfold f66_5b f66_49 f66_51
            simp (disch := ((try simp only [true_or, or_true, hp.k, hp.k1, hp.k2, hp.k3, hp.k4, hp.k5, hp.k6, hp.k7, hp.k8, hp.k9, hp.k10, hp.l1, hp.l2, hp.l3, hp.l4, hp.l5, hp.l6, hp.l7, hp.l8, hp.l9, hp.l10, hq.k, hq.k1, hq.k2, hq.k3, hq.k4, hq.k5, hq.k6, hq.k7, hq.k8, hq.k9, hq.k10, hq.l1, hq.l2, hq.l3, hq.l4, hq.l5, hq.l6, hq.l7, hq.l8, hq.l9, hq.l10]) <;> (try omega))) only [↓reduceIte, ↓z_ite, ↓zR, ↓zB_R, ↓zB_B, ↓zB_ite, ↓zB_gI, ↓zB_pI, ↓zB_pZ, ↓zB_aK, ↓zB_G, ↓zB_lI, ↓zB_lZ, ↓zB_wI, ↓zB_wZ, ↓zB_lIl, ↓zB_wIl, zB_pI, zB_pZ, zB_lI, zB_lZ, zB_wI, zB_wZ, z_addl, z_ladd, z_mull, z_lmul, nI_add, z_subl, Nat.not_lt_zero, z_10, z_01, z_bitc, z_b0, z_b1, ↓zB_Gb, ↓zB_G0, ↓zB_G1, z_eql, z_leq, z_ltl, z_llt, z_eq, z_lt, z_m1lt, hp.k, hp.k1, hp.k2, hp.k3, hp.k4, hp.k5, hp.k6, hp.k7, hp.k8, hp.k9, hp.k10, hp.l1, hp.l2, hp.l3, hp.l4, hp.l5, hp.l6, hp.l7, hp.l8, hp.l9, hp.l10, hq.k, hq.k1, hq.k2, hq.k3, hq.k4, hq.k5, hq.k6, hq.k7, hq.k8, hq.k9, hq.k10, hq.l1, hq.l2, hq.l3, hq.l4, hq.l5, hq.l6, hq.l7, hq.l8, hq.l9, hq.l10, ↓hp.g0, ↓hp.g1, ↓hp.g2, ↓hp.g3, ↓hp.g4, ↓hp.g5, ↓hp.g6, ↓hp.g7, ↓hp.g8, ↓hp.g9, ↓hp.gb, hp.gb, ↓hq.g0, ↓hq.g1, ↓hq.g2, ↓hq.g3, ↓hq.g4, ↓hq.g5, ↓hq.g6, ↓hq.g7, ↓hq.g8, ↓hq.g9, ↓hq.gb, hq.gb, h10, hd2, ↓zB_c e65, zB_c e65, Bool.true_eq_false, hk24]
            rfl
          · rw [z_pdF_y hg, hf]
            exact z_cp_own g1 hw hk hl
        | true =>
          have hct := z_ct_mono2 (s := z_get P k) (show d + 1 ≤ z_nc P from hd2)
          have ec : z_ct (z_get P k) (d + 1) = z_ct (z_get P k) d + 1 := by rw [z_ct_s, hg]; rfl
          have h0 : 0 < z_ct (z_get P k) d := by
            have := ih.b1
            rw [hf] at this
            exact of_decide_eq_true this.symm
          have hnm := ih.nm
          have hwQ := (ih.wf (by omega)).1
          have hkQ : k < z_nm (z_pdF P k d).2 := by omega
          have hlQ : z_liv (z_pdF P k d).2 k = true := by unfold z_liv; rw [ih.hd 0 (by decide)]; exact hl
          obtain ⟨m2, e77, cp2, f2, fr2⟩ := f77_sp hq lo2 g1 hwQ (by omega) hkQ hlQ d
          refine Or.inl ⟨(p, q, nI k, z_b (z_pdF P k (d + 1)).1, nI (d + 1)), m2, z_nc P - (d + 1), ?_, by omega, d + 1, rfl, hd2, rfl, ?_, f2, fun a ha => (fr2 a ha).trans (g3 a ha)⟩
          · rw [z_pdF_y hg]
            unfold f66_5b f66_49 f66_51
            simp (disch := ((try simp only [true_or, or_true, hp.k, hp.k1, hp.k2, hp.k3, hp.k4, hp.k5, hp.k6, hp.k7, hp.k8, hp.k9, hp.k10, hp.l1, hp.l2, hp.l3, hp.l4, hp.l5, hp.l6, hp.l7, hp.l8, hp.l9, hp.l10, hq.k, hq.k1, hq.k2, hq.k3, hq.k4, hq.k5, hq.k6, hq.k7, hq.k8, hq.k9, hq.k10, hq.l1, hq.l2, hq.l3, hq.l4, hq.l5, hq.l6, hq.l7, hq.l8, hq.l9, hq.l10, hqk]) <;> (try omega))) only [↓reduceIte, ↓z_ite, ↓zR, ↓zB_R, ↓zB_B, ↓zB_ite, ↓zB_gI, ↓zB_pI, ↓zB_pZ, ↓zB_aK, ↓zB_G, ↓zB_lI, ↓zB_lZ, ↓zB_wI, ↓zB_wZ, ↓zB_lIl, ↓zB_wIl, zB_pI, zB_pZ, zB_lI, zB_lZ, zB_wI, zB_wZ, z_addl, z_ladd, z_mull, z_lmul, nI_add, z_subl, Nat.not_lt_zero, z_10, z_01, z_bitc, z_b0, z_b1, ↓zB_Gb, ↓zB_G0, ↓zB_G1, z_eql, z_leq, z_ltl, z_llt, z_eq, z_lt, z_m1lt, hp.k, hp.k1, hp.k2, hp.k3, hp.k4, hp.k5, hp.k6, hp.k7, hp.k8, hp.k9, hp.k10, hp.l1, hp.l2, hp.l3, hp.l4, hp.l5, hp.l6, hp.l7, hp.l8, hp.l9, hp.l10, hq.k, hq.k1, hq.k2, hq.k3, hq.k4, hq.k5, hq.k6, hq.k7, hq.k8, hq.k9, hq.k10, hq.l1, hq.l2, hq.l3, hq.l4, hq.l5, hq.l6, hq.l7, hq.l8, hq.l9, hq.l10, hqk, ↓hp.g0, ↓hp.g1, ↓hp.g2, ↓hp.g3, ↓hp.g4, ↓hp.g5, ↓hp.g6, ↓hp.g7, ↓hp.g8, ↓hp.g9, ↓hp.gb, hp.gb, ↓hq.g0, ↓hq.g1, ↓hq.g2, ↓hq.g3, ↓hq.g4, ↓hq.g5, ↓hq.g6, ↓hq.g7, ↓hq.g8, ↓hq.g9, ↓hq.gb, hq.gb, h10, hd2, ↓zB_c e65, zB_c e65, Bool.true_eq_false, ↓zB_c e77, zB_c e77]
            rfl
          · rw [z_pdF_y hg, hf, if_pos rfl]
            rw [z_pdH_cg (H' := z_hd P k) ih.hd, ih.bd] at cp2
            exact cp2
/-- Mover.moveDown -/
theorem f61_sp (hpre : z_Pre S m p q P) (hw : z_wf P) (h60 : z_b60 P) (hR : z_RT P) {k : Nat} (hk : k < z_nm P) (hl : z_liv P k = true) : ∃ m', f61 61 p q (nI k) (z_hp S m) = some (z_pdR P k, z_hp S m') ∧ z_Post m m' q (z_pdR P k) (z_pdQ P k) := by
  obtain ⟨⟨hX, hp, hq⟩, ⟨lo, lo2, hpq⟩, ⟨hcp, hT⟩, ⟨hcq, h14⟩, hsh⟩ := hpre
  have h24 := hw.2.2.1
  have h6 := hw.1.1
  have hpk := hp.k
  have hqk := hq.k
  have h10 := hcp.1.1
  have h11 := hcp.2.1.1
  have ho := z_own_e hw hk
  obtain ⟨q1, q2, q3, q4, q5, q6⟩ := hcp.2.1.2.2 k hk hl
  rw [ho.2] at q1
  have epar := (hcp.1.2 _ ho.1).1
  have e62 := f62_sp hp hcp hw (c := z_own P k)
  have e63 := f63_sp hp hcp hw (z_own P k)
  have e64 := f64_sp hp hcp hT hw hR hk hl
  have ho6 : z_own P k < 6 := by omega
  have stay : ∀ r, r < 0 → f61 61 p q (nI k) (z_hp S m) = some (r, z_hp S m) → z_pdR P k = r → ∃ m', f61 61 p q (nI k) (z_hp S m) = some (z_pdR P k, z_hp S m') ∧ z_Post m m' q (z_pdR P k) (z_pdQ P k) := fun r hr e er => by
    rw [er]
    exact ⟨m, e, fun g => absurd hr g, hcq.2.2.1, z_oF.refl q m⟩
  by_cases y1 : z_chd P k = false
  · refine stay (-10) (by decide) ?_ (if_pos y1)
    unfold z_chd at y1
    rw [y1] at e62
    unfold f61
    simp (disch := ((try simp only [true_or, or_true, hp.k, hp.k1, hp.k2, hp.k3, hp.k4, hp.k5, hp.k6, hp.k7, hp.k8, hp.k9, hp.k10, hp.l1, hp.l2, hp.l3, hp.l4, hp.l5, hp.l6, hp.l7, hp.l8, hp.l9, hp.l10]) <;> (try omega))) only [↓reduceIte, ↓z_ite, ↓zR, ↓zB_R, ↓zB_B, ↓zB_ite, ↓zB_gI, ↓zB_pI, ↓zB_pZ, ↓zB_aK, ↓zB_G, ↓zB_lI, ↓zB_lZ, ↓zB_wI, ↓zB_wZ, ↓zB_lIl, ↓zB_wIl, zB_pI, zB_pZ, zB_lI, zB_lZ, zB_wI, zB_wZ, z_addl, z_ladd, z_mull, z_lmul, nI_add, z_subl, Nat.not_lt_zero, z_10, z_01, z_bitc, z_b0, z_b1, ↓zB_Gb, ↓zB_G0, ↓zB_G1, z_eql, z_leq, z_ltl, z_llt, z_eq, z_lt, z_m1lt, hp.k, hp.k1, hp.k2, hp.k3, hp.k4, hp.k5, hp.k6, hp.k7, hp.k8, hp.k9, hp.k10, hp.l1, hp.l2, hp.l3, hp.l4, hp.l5, hp.l6, hp.l7, hp.l8, hp.l9, hp.l10, ↓hp.g0, ↓hp.g1, ↓hp.g2, ↓hp.g3, ↓hp.g4, ↓hp.g5, ↓hp.g6, ↓hp.g7, ↓hp.g8, ↓hp.g9, ↓hp.gb, hp.gb, h24, hk, q1, ↓zB_c e62, zB_c e62]
  have y1' : z_chd P k = true := by simpa using y1
  have y1'' := y1'
  unfold z_chd at y1''
  rw [y1''] at e62
  by_cases y2 : (z_mad P (z_own P k) || z_cic P k) = true
  · refine stay (-9) (by decide) ?_ (by unfold z_pdR; rw [if_neg y1, if_pos y2])
    unfold f61 f61_37
    cases ym : z_mad P (z_own P k) with
    | true =>
      rw [ym] at e63
      simp (disch := ((try simp only [true_or, or_true, hp.k, hp.k1, hp.k2, hp.k3, hp.k4, hp.k5, hp.k6, hp.k7, hp.k8, hp.k9, hp.k10, hp.l1, hp.l2, hp.l3, hp.l4, hp.l5, hp.l6, hp.l7, hp.l8, hp.l9, hp.l10]) <;> (try omega))) only [↓reduceIte, ↓z_ite, ↓zR, ↓zB_R, ↓zB_B, ↓zB_ite, ↓zB_gI, ↓zB_pI, ↓zB_pZ, ↓zB_aK, ↓zB_G, ↓zB_lI, ↓zB_lZ, ↓zB_wI, ↓zB_wZ, ↓zB_lIl, ↓zB_wIl, zB_pI, zB_pZ, zB_lI, zB_lZ, zB_wI, zB_wZ, z_addl, z_ladd, z_mull, z_lmul, nI_add, z_subl, Nat.not_lt_zero, z_10, z_01, z_bitc, z_b0, z_b1, ↓zB_Gb, ↓zB_G0, ↓zB_G1, z_eql, z_leq, z_ltl, z_llt, z_eq, z_lt, z_m1lt, hp.k, hp.k1, hp.k2, hp.k3, hp.k4, hp.k5, hp.k6, hp.k7, hp.k8, hp.k9, hp.k10, hp.l1, hp.l2, hp.l3, hp.l4, hp.l5, hp.l6, hp.l7, hp.l8, hp.l9, hp.l10, ↓hp.g0, ↓hp.g1, ↓hp.g2, ↓hp.g3, ↓hp.g4, ↓hp.g5, ↓hp.g6, ↓hp.g7, ↓hp.g8, ↓hp.g9, ↓hp.gb, hp.gb, h24, hk, q1, ↓zB_c e62, zB_c e62, Bool.true_eq_false, ↓zB_c e63, zB_c e63]
    | false =>
      rw [ym] at e63
      rw [ym, Bool.false_or] at y2
      rw [y2] at e64
      simp (disch := ((try simp only [true_or, or_true, hp.k, hp.k1, hp.k2, hp.k3, hp.k4, hp.k5, hp.k6, hp.k7, hp.k8, hp.k9, hp.k10, hp.l1, hp.l2, hp.l3, hp.l4, hp.l5, hp.l6, hp.l7, hp.l8, hp.l9, hp.l10]) <;> (try omega))) only [↓reduceIte, ↓z_ite, ↓zR, ↓zB_R, ↓zB_B, ↓zB_ite, ↓zB_gI, ↓zB_pI, ↓zB_pZ, ↓zB_aK, ↓zB_G, ↓zB_lI, ↓zB_lZ, ↓zB_wI, ↓zB_wZ, ↓zB_lIl, ↓zB_wIl, zB_pI, zB_pZ, zB_lI, zB_lZ, zB_wI, zB_wZ, z_addl, z_ladd, z_mull, z_lmul, nI_add, z_subl, Nat.not_lt_zero, z_10, z_01, z_bitc, z_b0, z_b1, ↓zB_Gb, ↓zB_G0, ↓zB_G1, z_eql, z_leq, z_ltl, z_llt, z_eq, z_lt, z_m1lt, hp.k, hp.k1, hp.k2, hp.k3, hp.k4, hp.k5, hp.k6, hp.k7, hp.k8, hp.k9, hp.k10, hp.l1, hp.l2, hp.l3, hp.l4, hp.l5, hp.l6, hp.l7, hp.l8, hp.l9, hp.l10, ↓hp.g0, ↓hp.g1, ↓hp.g2, ↓hp.g3, ↓hp.g4, ↓hp.g5, ↓hp.g6, ↓hp.g7, ↓hp.g8, ↓hp.g9, ↓hp.gb, hp.gb, h24, hk, q1, ↓zB_c e62, zB_c e62, Bool.true_eq_false, ↓zB_c e63, zB_c e63, ↓zB_c e64, zB_c e64]
  have y2' : (z_mad P (z_own P k) || z_cic P k) = false := by simpa using y2
  obtain ⟨ym, yc⟩ := Bool.or_eq_false_iff.mp y2'
  rw [ym] at e63
  rw [yc] at e64
  -- no parent has it
  have hpar : ¬ (¬ z_par P (z_own P k) = -1 ∧ (z_fm P (z_par P (z_own P k)).toNatClampNeg (z_hd P k 2) (z_hd P k 3)).isSome = true) → f61 61 p q (nI k) (z_hp S m) = f61_86 61 p q (nI k) 0 0 (z_hp S m) := fun hno => by
    rcases z_par_of hw hk with g | ⟨d, hdn, hd⟩
    · unfold f61 f61_80
      rw [g] at epar
      simp (disch := ((try simp only [true_or, or_true, hp.k, hp.k1, hp.k2, hp.k3, hp.k4, hp.k5, hp.k6, hp.k7, hp.k8, hp.k9, hp.k10, hp.l1, hp.l2, hp.l3, hp.l4, hp.l5, hp.l6, hp.l7, hp.l8, hp.l9, hp.l10]) <;> (try omega))) only [↓reduceIte, ↓z_ite, ↓zR, ↓zB_R, ↓zB_B, ↓zB_ite, ↓zB_gI, ↓zB_pI, ↓zB_pZ, ↓zB_aK, ↓zB_G, ↓zB_lI, ↓zB_lZ, ↓zB_wI, ↓zB_wZ, ↓zB_lIl, ↓zB_wIl, zB_pI, zB_pZ, zB_lI, zB_lZ, zB_wI, zB_wZ, z_addl, z_ladd, z_mull, z_lmul, nI_add, z_subl, Nat.not_lt_zero, z_10, z_01, z_bitc, z_b0, z_b1, ↓zB_Gb, ↓zB_G0, ↓zB_G1, z_eql, z_leq, z_ltl, z_llt, z_eq, z_lt, z_m1lt, hp.k, hp.k1, hp.k2, hp.k3, hp.k4, hp.k5, hp.k6, hp.k7, hp.k8, hp.k9, hp.k10, hp.l1, hp.l2, hp.l3, hp.l4, hp.l5, hp.l6, hp.l7, hp.l8, hp.l9, hp.l10, ↓hp.g0, ↓hp.g1, ↓hp.g2, ↓hp.g3, ↓hp.g4, ↓hp.g5, ↓hp.g6, ↓hp.g7, ↓hp.g8, ↓hp.g9, ↓hp.gb, hp.gb, h24, hk, q1, ↓zB_c e62, zB_c e62, Bool.true_eq_false, ↓zB_c e63, zB_c e63, ↓zB_c e64, zB_c e64, ho6, epar]
    · have gd : ¬ nI d = -1 := z_nI_m1 (by omega)
      rw [hd] at epar hno
      rw [nI_clamp (by omega)] at hno
      have e90 := f90_sp hp hcp hw hdn (z_hd P k 2) (z_hd P k 3)
      cases hf : z_fm P d (z_hd P k 2) (z_hd P k 3) with
      | some j => exact absurd ⟨gd, by rw [hf]; rfl⟩ hno
      | none =>
        rw [hf] at e90
        unfold f61 f61_80
        simp (disch := ((try simp only [true_or, or_true, hp.k, hp.k1, hp.k2, hp.k3, hp.k4, hp.k5, hp.k6, hp.k7, hp.k8, hp.k9, hp.k10, hp.l1, hp.l2, hp.l3, hp.l4, hp.l5, hp.l6, hp.l7, hp.l8, hp.l9, hp.l10, hpk]) <;> (try omega))) only [↓reduceIte, ↓z_ite, ↓zR, ↓zB_R, ↓zB_B, ↓zB_ite, ↓zB_gI, ↓zB_pI, ↓zB_pZ, ↓zB_aK, ↓zB_G, ↓zB_lI, ↓zB_lZ, ↓zB_wI, ↓zB_wZ, ↓zB_lIl, ↓zB_wIl, zB_pI, zB_pZ, zB_lI, zB_lZ, zB_wI, zB_wZ, z_addl, z_ladd, z_mull, z_lmul, nI_add, z_subl, Nat.not_lt_zero, z_10, z_01, z_bitc, z_b0, z_b1, ↓zB_Gb, ↓zB_G0, ↓zB_G1, z_eql, z_leq, z_ltl, z_llt, z_eq, z_lt, z_m1lt, hp.k, hp.k1, hp.k2, hp.k3, hp.k4, hp.k5, hp.k6, hp.k7, hp.k8, hp.k9, hp.k10, hp.l1, hp.l2, hp.l3, hp.l4, hp.l5, hp.l6, hp.l7, hp.l8, hp.l9, hp.l10, hpk, ↓hp.g0, ↓hp.g1, ↓hp.g2, ↓hp.g3, ↓hp.g4, ↓hp.g5, ↓hp.g6, ↓hp.g7, ↓hp.g8, ↓hp.g9, ↓hp.gb, hp.gb, h24, hk, q1, ↓zB_c e62, zB_c e62, Bool.true_eq_false, ↓zB_c e63, zB_c e63, ↓zB_c e64, zB_c e64, ho6, epar, gd, q2, q3, ↓zB_c e90, zB_c e90, z_oI]
  by_cases y3 : ¬ z_par P (z_own P k) = -1 ∧ (z_fm P (z_par P (z_own P k)).toNatClampNeg (z_hd P k 2) (z_hd P k 3)).isSome = true
  · refine stay (-11) (by decide) ?_ (by unfold z_pdR; rw [if_neg y1, if_neg y2, if_pos y3])
    rcases z_par_of hw hk with g | ⟨d, hdn, hd⟩
    · exact absurd g y3.1
    · have gd : ¬ nI d = -1 := z_nI_m1 (by omega)
      rw [hd] at epar y3
      rw [nI_clamp (by omega)] at y3
      have e90 := f90_sp hp hcp hw hdn (z_hd P k 2) (z_hd P k 3)
      cases hf : z_fm P d (z_hd P k 2) (z_hd P k 3) with
      | none => rw [hf] at y3; exact absurd y3.2 (by decide)
      | some j =>
        rw [hf] at e90
        have hj := ((z_fm_some hw hdn).mp hf).1
        have gj : ¬ nI j = -1 := z_nI_m1 (by omega)
        unfold f61
        simp (disch := ((try simp only [true_or, or_true, hp.k, hp.k1, hp.k2, hp.k3, hp.k4, hp.k5, hp.k6, hp.k7, hp.k8, hp.k9, hp.k10, hp.l1, hp.l2, hp.l3, hp.l4, hp.l5, hp.l6, hp.l7, hp.l8, hp.l9, hp.l10, hpk]) <;> (try omega))) only [↓reduceIte, ↓z_ite, ↓zR, ↓zB_R, ↓zB_B, ↓zB_ite, ↓zB_gI, ↓zB_pI, ↓zB_pZ, ↓zB_aK, ↓zB_G, ↓zB_lI, ↓zB_lZ, ↓zB_wI, ↓zB_wZ, ↓zB_lIl, ↓zB_wIl, zB_pI, zB_pZ, zB_lI, zB_lZ, zB_wI, zB_wZ, z_addl, z_ladd, z_mull, z_lmul, nI_add, z_subl, Nat.not_lt_zero, z_10, z_01, z_bitc, z_b0, z_b1, ↓zB_Gb, ↓zB_G0, ↓zB_G1, z_eql, z_leq, z_ltl, z_llt, z_eq, z_lt, z_m1lt, hp.k, hp.k1, hp.k2, hp.k3, hp.k4, hp.k5, hp.k6, hp.k7, hp.k8, hp.k9, hp.k10, hp.l1, hp.l2, hp.l3, hp.l4, hp.l5, hp.l6, hp.l7, hp.l8, hp.l9, hp.l10, hpk, ↓hp.g0, ↓hp.g1, ↓hp.g2, ↓hp.g3, ↓hp.g4, ↓hp.g5, ↓hp.g6, ↓hp.g7, ↓hp.g8, ↓hp.g9, ↓hp.gb, hp.gb, h24, hk, q1, ↓zB_c e62, zB_c e62, Bool.true_eq_false, ↓zB_c e63, zB_c e63, ↓zB_c e64, zB_c e64, ho6, epar, gd, q2, q3, ↓zB_c e90, zB_c e90, z_oI, gj]
  have st := hpar y3
  -- how many
  have cnt : f61_86 61 p q (nI k) 0 0 (z_hp S m) = f61_114 61 p q (nI k) (nI (z_ct (z_get P k) (z_nc P))) (z_hp S m) := by
    unfold f61_86
    have key := z_loopT (f := fun s => f61_86b (s.1) (s.2.1) (s.2.2.1) (s.2.2.2.1) (s.2.2.2.2.1) (s.2.2.2.2.2)) (S := S) (fun N st m' => ∃ d, N = z_nc P - d ∧ d ≤ z_nc P ∧ st = (61, p, q, nI k, nI (z_ct (z_get P k) d), nI d) ∧ m' = m) (fun X m' => X = f61_114 61 p q (nI k) (nI (z_ct (z_get P k) (z_nc P))) ∧ m' = m) ?_ 1000000 (z_nc P) (61, p, q, nI k, 0, 0) m ⟨0, rfl, Nat.zero_le _, rfl, rfl⟩ (by omega)
    · obtain ⟨X, m', e, rfl, rfl⟩ := key
      exact e
    · rintro N st m1 ⟨d, rfl, hd, rfl, rfl⟩
      dsimp only
      rcases Nat.eq_or_lt_of_le hd with hd2 | hd2
      · refine Or.inr ⟨_, m1, ?_, rfl, rfl⟩
        unfold f61_86b
        rw [hd2]
        simp (disch := ((try simp only [true_or, or_true, hp.k, hp.k1, hp.k2, hp.k3, hp.k4, hp.k5, hp.k6, hp.k7, hp.k8, hp.k9, hp.k10, hp.l1, hp.l2, hp.l3, hp.l4, hp.l5, hp.l6, hp.l7, hp.l8, hp.l9, hp.l10]) <;> (try omega))) only [↓reduceIte, ↓z_ite, ↓zR, ↓zB_R, ↓zB_B, ↓zB_ite, ↓zB_gI, ↓zB_pI, ↓zB_pZ, ↓zB_aK, ↓zB_G, ↓zB_lI, ↓zB_lZ, ↓zB_wI, ↓zB_wZ, ↓zB_lIl, ↓zB_wIl, zB_pI, zB_pZ, zB_lI, zB_lZ, zB_wI, zB_wZ, z_addl, z_ladd, z_mull, z_lmul, nI_add, z_subl, Nat.not_lt_zero, z_10, z_01, z_bitc, z_b0, z_b1, ↓zB_Gb, ↓zB_G0, ↓zB_G1, z_eql, z_leq, z_ltl, z_llt, z_eq, z_lt, z_m1lt, hp.k, hp.k1, hp.k2, hp.k3, hp.k4, hp.k5, hp.k6, hp.k7, hp.k8, hp.k9, hp.k10, hp.l1, hp.l2, hp.l3, hp.l4, hp.l5, hp.l6, hp.l7, hp.l8, hp.l9, hp.l10, ↓hp.g0, ↓hp.g1, ↓hp.g2, ↓hp.g3, ↓hp.g4, ↓hp.g5, ↓hp.g6, ↓hp.g7, ↓hp.g8, ↓hp.g9, ↓hp.gb, hp.gb, h10, Nat.lt_irrefl]
      · have e65 := f65_sp hp hcp hw hk hl hd2
        refine Or.inl ⟨_, m1, z_nc P - (d + 1), ?_, by omega, d + 1, rfl, hd2, rfl, rfl⟩
        rw [z_ct_s]
        unfold f61_86b f61_108
        cases hg : z_get P k d with
        | true =>
          rw [hg] at e65
          simp (disch := ((try simp only [true_or, or_true, hp.k, hp.k1, hp.k2, hp.k3, hp.k4, hp.k5, hp.k6, hp.k7, hp.k8, hp.k9, hp.k10, hp.l1, hp.l2, hp.l3, hp.l4, hp.l5, hp.l6, hp.l7, hp.l8, hp.l9, hp.l10]) <;> (try omega))) only [↓reduceIte, ↓z_ite, ↓zR, ↓zB_R, ↓zB_B, ↓zB_ite, ↓zB_gI, ↓zB_pI, ↓zB_pZ, ↓zB_aK, ↓zB_G, ↓zB_lI, ↓zB_lZ, ↓zB_wI, ↓zB_wZ, ↓zB_lIl, ↓zB_wIl, zB_pI, zB_pZ, zB_lI, zB_lZ, zB_wI, zB_wZ, z_addl, z_ladd, z_mull, z_lmul, nI_add, z_subl, Nat.not_lt_zero, z_10, z_01, z_bitc, z_b0, z_b1, ↓zB_Gb, ↓zB_G0, ↓zB_G1, z_eql, z_leq, z_ltl, z_llt, z_eq, z_lt, z_m1lt, hp.k, hp.k1, hp.k2, hp.k3, hp.k4, hp.k5, hp.k6, hp.k7, hp.k8, hp.k9, hp.k10, hp.l1, hp.l2, hp.l3, hp.l4, hp.l5, hp.l6, hp.l7, hp.l8, hp.l9, hp.l10, ↓hp.g0, ↓hp.g1, ↓hp.g2, ↓hp.g3, ↓hp.g4, ↓hp.g5, ↓hp.g6, ↓hp.g7, ↓hp.g8, ↓hp.g9, ↓hp.gb, hp.gb, h10, hd2, ↓zB_c e65, zB_c e65, Bool.true_eq_false]
          first | done | rfl
        | false =>
          rw [hg] at e65
          simp (disch := ((try simp only [true_or, or_true, hp.k, hp.k1, hp.k2, hp.k3, hp.k4, hp.k5, hp.k6, hp.k7, hp.k8, hp.k9, hp.k10, hp.l1, hp.l2, hp.l3, hp.l4, hp.l5, hp.l6, hp.l7, hp.l8, hp.l9, hp.l10]) <;> (try omega))) only [↓reduceIte, ↓z_ite, ↓zR, ↓zB_R, ↓zB_B, ↓zB_ite, ↓zB_gI, ↓zB_pI, ↓zB_pZ, ↓zB_aK, ↓zB_G, ↓zB_lI, ↓zB_lZ, ↓zB_wI, ↓zB_wZ, ↓zB_lIl, ↓zB_wIl, zB_pI, zB_pZ, zB_lI, zB_lZ, zB_wI, zB_wZ, z_addl, z_ladd, z_mull, z_lmul, nI_add, z_subl, Nat.not_lt_zero, z_10, z_01, z_bitc, z_b0, z_b1, ↓zB_Gb, ↓zB_G0, ↓zB_G1, z_eql, z_leq, z_ltl, z_llt, z_eq, z_lt, z_m1lt, hp.k, hp.k1, hp.k2, hp.k3, hp.k4, hp.k5, hp.k6, hp.k7, hp.k8, hp.k9, hp.k10, hp.l1, hp.l2, hp.l3, hp.l4, hp.l5, hp.l6, hp.l7, hp.l8, hp.l9, hp.l10, ↓hp.g0, ↓hp.g1, ↓hp.g2, ↓hp.g3, ↓hp.g4, ↓hp.g5, ↓hp.g6, ↓hp.g7, ↓hp.g8, ↓hp.g9, ↓hp.gb, hp.gb, h10, hd2, ↓zB_c e65, zB_c e65]
          first | done | rfl
  have hcl := z_ct_le (s := z_get P k) (z_nc P)
  have eadd : nI (z_nm P) + nI (z_ct (z_get P k) (z_nc P)) = nI (z_nm P + z_ct (z_get P k) (z_nc P)) := nI_add _ _
  have esub : nI (z_nm P + z_ct (z_get P k) (z_nc P)) - 1 = nI (z_nm P + z_ct (z_get P k) (z_nc P) - 1) := z_subl (k := 1) (by omega)
  have st2 := st.trans cnt
  by_cases y4 : 24 < z_nm P + z_ct (z_get P k) (z_nc P) - 1
  · refine stay (-6) (by decide) ?_ (by unfold z_pdR; rw [if_neg y1, if_neg y2, if_neg y3, if_pos y4])
    rw [st2]
    unfold f61_114
    simp (disch := ((try simp only [true_or, or_true, hp.k, hp.k1, hp.k2, hp.k3, hp.k4, hp.k5, hp.k6, hp.k7, hp.k8, hp.k9, hp.k10, hp.l1, hp.l2, hp.l3, hp.l4, hp.l5, hp.l6, hp.l7, hp.l8, hp.l9, hp.l10]) <;> (try omega))) only [↓reduceIte, ↓z_ite, ↓zR, ↓zB_R, ↓zB_B, ↓zB_ite, ↓zB_gI, ↓zB_pI, ↓zB_pZ, ↓zB_aK, ↓zB_G, ↓zB_lI, ↓zB_lZ, ↓zB_wI, ↓zB_wZ, ↓zB_lIl, ↓zB_wIl, zB_pI, zB_pZ, zB_lI, zB_lZ, zB_wI, zB_wZ, z_addl, z_ladd, z_mull, z_lmul, nI_add, z_subl, Nat.not_lt_zero, z_10, z_01, z_bitc, z_b0, z_b1, ↓zB_Gb, ↓zB_G0, ↓zB_G1, z_eql, z_leq, z_ltl, z_llt, z_eq, z_lt, z_m1lt, hp.k, hp.k1, hp.k2, hp.k3, hp.k4, hp.k5, hp.k6, hp.k7, hp.k8, hp.k9, hp.k10, hp.l1, hp.l2, hp.l3, hp.l4, hp.l5, hp.l6, hp.l7, hp.l8, hp.l9, hp.l10, ↓hp.g0, ↓hp.g1, ↓hp.g2, ↓hp.g3, ↓hp.g4, ↓hp.g5, ↓hp.g6, ↓hp.g7, ↓hp.g8, ↓hp.g9, ↓hp.gb, hp.gb, h11, eadd, esub, y4]
  obtain ⟨m1, e66, cp1, f1, fr1⟩ := f66_sp hp hq lo lo2 hpq hcp hcq h14 hw h60 hk hl y4
  obtain ⟨hQ1, hQ2, _⟩ := z_pdQ_ok hw h60 hk hl y4
  obtain ⟨m2, e21, c2, f14, kn, fr⟩ := f21_sp (S := S) hX hq (by omega) cp1 hQ1 ⟨Or.inl f1, fun g => by rw [f1] at g; exact absurd g (by decide)⟩
  have er : z_pdR P k = if z_wr (z_pdQ P k) = -1 then nI (z_ct (z_get P k) (z_nc P)) else -8 := by unfold z_pdR; rw [if_neg y1, if_neg y2, if_neg y3, if_neg y4]
  have run : f61 61 p q (nI k) (z_hp S m) = some (z_pdR P k, z_hp S m2) := by
    rw [st2, er]
    unfold f61_114 f61_155
    by_cases g : z_wr (z_pdQ P k) = -1
    · rw [g] at e21
      rw [if_pos g]
      simp (disch := ((try simp only [true_or, or_true, hp.k, hp.k1, hp.k2, hp.k3, hp.k4, hp.k5, hp.k6, hp.k7, hp.k8, hp.k9, hp.k10, hp.l1, hp.l2, hp.l3, hp.l4, hp.l5, hp.l6, hp.l7, hp.l8, hp.l9, hp.l10, hq.k, hq.k1, hq.k2, hq.k3, hq.k4, hq.k5, hq.k6, hq.k7, hq.k8, hq.k9, hq.k10, hq.l1, hq.l2, hq.l3, hq.l4, hq.l5, hq.l6, hq.l7, hq.l8, hq.l9, hq.l10, hX.k61, hX.k8, hX.k9, hX.l9, hpk, hqk]) <;> (try omega))) only [↓reduceIte, ↓z_ite, ↓zR, ↓zB_R, ↓zB_B, ↓zB_ite, ↓zB_gI, ↓zB_pI, ↓zB_pZ, ↓zB_aK, ↓zB_G, ↓zB_lI, ↓zB_lZ, ↓zB_wI, ↓zB_wZ, ↓zB_lIl, ↓zB_wIl, zB_pI, zB_pZ, zB_lI, zB_lZ, zB_wI, zB_wZ, z_addl, z_ladd, z_mull, z_lmul, nI_add, z_subl, Nat.not_lt_zero, z_10, z_01, z_bitc, z_b0, z_b1, ↓zB_Gb, ↓zB_G0, ↓zB_G1, z_eql, z_leq, z_ltl, z_llt, z_eq, z_lt, z_m1lt, hp.k, hp.k1, hp.k2, hp.k3, hp.k4, hp.k5, hp.k6, hp.k7, hp.k8, hp.k9, hp.k10, hp.l1, hp.l2, hp.l3, hp.l4, hp.l5, hp.l6, hp.l7, hp.l8, hp.l9, hp.l10, hq.k, hq.k1, hq.k2, hq.k3, hq.k4, hq.k5, hq.k6, hq.k7, hq.k8, hq.k9, hq.k10, hq.l1, hq.l2, hq.l3, hq.l4, hq.l5, hq.l6, hq.l7, hq.l8, hq.l9, hq.l10, hX.k61, hX.k8, hX.k9, hX.l9, hpk, hqk, ↓hp.g0, ↓hp.g1, ↓hp.g2, ↓hp.g3, ↓hp.g4, ↓hp.g5, ↓hp.g6, ↓hp.g7, ↓hp.g8, ↓hp.g9, ↓hp.gb, hp.gb, ↓hq.g0, ↓hq.g1, ↓hq.g2, ↓hq.g3, ↓hq.g4, ↓hq.g5, ↓hq.g6, ↓hq.g7, ↓hq.g8, ↓hq.g9, ↓hq.gb, hq.gb, ↓hX.g8_0, ↓hX.g61_0, h11, eadd, esub, y4, ↓zB_c e66, zB_c e66, ↓zB_c e21, zB_c e21, show ((-1 : Int32) == -1) = true from rfl, Bool.true_eq_false]
    · have gb : (z_wr (z_pdQ P k) == -1) = false := by simpa using g
      rw [gb] at e21
      rw [if_neg g]
      simp (disch := ((try simp only [true_or, or_true, hp.k, hp.k1, hp.k2, hp.k3, hp.k4, hp.k5, hp.k6, hp.k7, hp.k8, hp.k9, hp.k10, hp.l1, hp.l2, hp.l3, hp.l4, hp.l5, hp.l6, hp.l7, hp.l8, hp.l9, hp.l10, hq.k, hq.k1, hq.k2, hq.k3, hq.k4, hq.k5, hq.k6, hq.k7, hq.k8, hq.k9, hq.k10, hq.l1, hq.l2, hq.l3, hq.l4, hq.l5, hq.l6, hq.l7, hq.l8, hq.l9, hq.l10, hX.k61, hX.k8, hX.k9, hX.l9, hpk, hqk]) <;> (try omega))) only [↓reduceIte, ↓z_ite, ↓zR, ↓zB_R, ↓zB_B, ↓zB_ite, ↓zB_gI, ↓zB_pI, ↓zB_pZ, ↓zB_aK, ↓zB_G, ↓zB_lI, ↓zB_lZ, ↓zB_wI, ↓zB_wZ, ↓zB_lIl, ↓zB_wIl, zB_pI, zB_pZ, zB_lI, zB_lZ, zB_wI, zB_wZ, z_addl, z_ladd, z_mull, z_lmul, nI_add, z_subl, Nat.not_lt_zero, z_10, z_01, z_bitc, z_b0, z_b1, ↓zB_Gb, ↓zB_G0, ↓zB_G1, z_eql, z_leq, z_ltl, z_llt, z_eq, z_lt, z_m1lt, hp.k, hp.k1, hp.k2, hp.k3, hp.k4, hp.k5, hp.k6, hp.k7, hp.k8, hp.k9, hp.k10, hp.l1, hp.l2, hp.l3, hp.l4, hp.l5, hp.l6, hp.l7, hp.l8, hp.l9, hp.l10, hq.k, hq.k1, hq.k2, hq.k3, hq.k4, hq.k5, hq.k6, hq.k7, hq.k8, hq.k9, hq.k10, hq.l1, hq.l2, hq.l3, hq.l4, hq.l5, hq.l6, hq.l7, hq.l8, hq.l9, hq.l10, hX.k61, hX.k8, hX.k9, hX.l9, hpk, hqk, ↓hp.g0, ↓hp.g1, ↓hp.g2, ↓hp.g3, ↓hp.g4, ↓hp.g5, ↓hp.g6, ↓hp.g7, ↓hp.g8, ↓hp.g9, ↓hp.gb, hp.gb, ↓hq.g0, ↓hq.g1, ↓hq.g2, ↓hq.g3, ↓hq.g4, ↓hq.g5, ↓hq.g6, ↓hq.g7, ↓hq.g8, ↓hq.g9, ↓hq.gb, hq.gb, ↓hX.g8_0, ↓hX.g61_0, h11, eadd, esub, y4, ↓zB_c e66, zB_c e66, ↓zB_c e21, zB_c e21]
  have fr2 : ∀ a, a ≠ 9 → (a < q ∨ q + 179 ≤ a) → m2 a = m a := fun a x1 x2 => by rw [fr a x1 x2]; exact fr1 a x2
  exact ⟨m2, run, fun _ => ⟨c2, kn⟩, c2.2.2.1, fun a x1 _ x3 => fr2 a x1 x3, by rw [fr2 22 (by decide) (by omega)], by rw [fr2 30 (by decide) (by omega)], by rw [fr2 38 (by decide) (by omega)], by rw [fr2 54 (by decide) (by omega)]⟩
noncomputable def z_opush (A : z_A) (k : Int32) : (Int32 ⊕ Nat) × z_A :=
  if z_hm A.2.1 k = false then (.inr 2, A)
  else if z_wr A.2.1 = -1 then z_rf A (z_pdR A.2.1 k.toNatClampNeg) (z_pdQ A.2.1 k.toNatClampNeg)
  else (.inr 0, A)
theorem c_push (hw : z_WA A) (h : z_CR S m A) (k : Int32) : ∃ S1 m1, f148 0 k (z_hp S m) = some ((z_opush A k).1, z_hp S1 m1) ∧ z_CR S1 m1 (z_opush A k).2 ∧ z_SS S S1 ∧ ∀ a, 2390 ≤ a → m1 a = m a := by
  have h0 := h
  obtain ⟨sn, sx, sp, hI, hCM⟩ := h0
  have hX := hI.1
  have hp := hI.2.2.1 sn hI.2.2.2.1.1
  have hn := hI.2.2.2.2.2.1
  have hc := hCM.2.2.1.1.1
  have hwf := hw.2.1.1
  have h24 := hwf.2.2.1
  unfold z_opush
  by_cases g1 : z_hm A.2.1 k = false
  · rw [if_pos g1]
    refine ⟨z_Sx S, m, ?_, z_CR_x h, z_SS.x S, fun _ _ => rfl⟩
    have e1 := f165_n hX hp hc hwf g1
    unfold f148
    simp (disch := ((try simp only [true_or, or_true, hX.k0, hX.k1, hX.k2, hX.k3, hX.k4, hX.k5, hX.k6, hX.k7, hX.l2, hX.l3, hX.l4, hX.l5, hX.l6, hX.l7]) <;> (try omega))) only [↓reduceIte, ↓z_ite, ↓zR, ↓zB_R, ↓zB_B, ↓zB_ite, ↓zB_gI, ↓zB_pI, ↓zB_pZ, ↓zB_aK, ↓zB_G, ↓zB_lI, ↓zB_lZ, ↓zB_wI, ↓zB_wZ, ↓zB_lIl, ↓zB_wIl, zB_pI, zB_pZ, zB_lI, zB_lZ, zB_wI, zB_wZ, z_addl, z_ladd, z_mull, z_lmul, nI_add, z_subl, Nat.not_lt_zero, z_10, z_01, z_bitc, z_b0, z_b1, ↓zB_Gb, ↓zB_G0, ↓zB_G1, z_eql, z_leq, z_ltl, z_llt, z_eq, z_lt, z_m1lt, hX.k0, hX.k1, hX.k2, hX.k3, hX.k4, hX.k5, hX.k6, hX.k7, hX.l2, hX.l3, hX.l4, hX.l5, hX.l6, hX.l7, ↓hX.g0_0, ↓hX.g0_1, ↓hX.g0_2, ↓hX.g0_3, ↓hX.g0_4, ↓hX.g0_5, ↓hX.g0_6, ↓hX.g0_7, ↓hX.g0_8, ↓hX.g0_9, ↓hX.g1_0, ↓hX.g1_1, ↓hX.g1_2, ↓hX.g1_3, ↓hX.g1_4, ↓hX.g1_5, ↓z_gnow hX hn, z_gnow hX hn, ↓zT_r e1, zT_r e1]
  rw [if_neg g1]
  have g1' := z_not_false g1
  have e1 := f165_y hX hp hc hwf g1'
  obtain ⟨k', hk', hl, rfl⟩ := (z_hm_iff hwf).mp g1'
  rw [nI_clamp (show k' < 2 ^ 31 by omega)]
  by_cases g3 : z_wr A.2.1 = -1
  · rw [if_pos g3]
    obtain ⟨m1, e3, c1, r1, f14⟩ := c_rr_y hw hI hCM g3
    obtain ⟨S', m', e4, d1, d2, d3⟩ := c_tail hw hI c1 g3 f14 (ob := 61) (kd := 6) hX.k61 (OP := fun q => f61 61 (z_pid sn) q (nI k')) (r := z_pdR A.2.1 k') (Q := z_pdQ A.2.1 k') (fun m2 hpre => f61_sp hpre hwf hw.2.1.2 (z_RT_wr hwf g3) hk' hl)
    refine ⟨S', m', ?_, d1, d2, fun a ha => (d3 a ha).trans (r1 a ha)⟩
    unfold f148
    simp (disch := ((try simp only [true_or, or_true, hX.k0, hX.k8, hX.k9, hX.l9, hp.k, hp.k1, hp.k2, hp.k3, hp.k4, hp.k5, hp.k6, hp.k7, hp.k8, hp.k9, hp.k10, hp.l1, hp.l2, hp.l3, hp.l4, hp.l5, hp.l6, hp.l7, hp.l8, hp.l9, hp.l10]) <;> (try omega))) only [↓reduceIte, ↓z_ite, ↓zR, ↓zB_R, ↓zB_B, ↓zB_ite, ↓zB_gI, ↓zB_pI, ↓zB_pZ, ↓zB_aK, ↓zB_G, ↓zB_lI, ↓zB_lZ, ↓zB_wI, ↓zB_wZ, ↓zB_lIl, ↓zB_wIl, zB_pI, zB_pZ, zB_lI, zB_lZ, zB_wI, zB_wZ, z_addl, z_ladd, z_mull, z_lmul, nI_add, z_subl, Nat.not_lt_zero, z_10, z_01, z_bitc, z_b0, z_b1, ↓zB_Gb, ↓zB_G0, ↓zB_G1, z_eql, z_leq, z_ltl, z_llt, z_eq, z_lt, z_m1lt, hX.k0, hX.k8, hX.k9, hX.l9, hp.k, hp.k1, hp.k2, hp.k3, hp.k4, hp.k5, hp.k6, hp.k7, hp.k8, hp.k9, hp.k10, hp.l1, hp.l2, hp.l3, hp.l4, hp.l5, hp.l6, hp.l7, hp.l8, hp.l9, hp.l10, ↓hX.g0_0, ↓hX.g0_1, ↓hX.g0_2, ↓hX.g0_3, ↓hX.g0_4, ↓hX.g0_5, ↓hX.g0_6, ↓hX.g0_7, ↓hX.g0_8, ↓hX.g0_9, ↓hX.g8_0, ↓hp.g0, ↓hp.g1, ↓hp.g2, ↓hp.g3, ↓hp.g4, ↓hp.g5, ↓hp.g6, ↓hp.g7, ↓hp.g8, ↓hp.g9, ↓hp.gb, hp.gb, ↓z_gnow hX hn, z_gnow hX hn, ↓zT_l e1, zT_l e1, ↓zT_l e3, zT_l e3]
    exact e4
  · rw [if_neg g3]
    obtain ⟨m1, e3, c1, r1⟩ := c_rr_n hw hI hCM g3
    refine ⟨z_Sx S, m1, ?_, ⟨sn, sx, sp, hI, c1⟩, z_SS.x S, r1⟩
    unfold f148
    simp (disch := ((try simp only [true_or, or_true, hX.k0, hX.k8, hX.k9, hX.l9, hp.k, hp.k1, hp.k2, hp.k3, hp.k4, hp.k5, hp.k6, hp.k7, hp.k8, hp.k9, hp.k10, hp.l1, hp.l2, hp.l3, hp.l4, hp.l5, hp.l6, hp.l7, hp.l8, hp.l9, hp.l10]) <;> (try omega))) only [↓reduceIte, ↓z_ite, ↓zR, ↓zB_R, ↓zB_B, ↓zB_ite, ↓zB_gI, ↓zB_pI, ↓zB_pZ, ↓zB_aK, ↓zB_G, ↓zB_lI, ↓zB_lZ, ↓zB_wI, ↓zB_wZ, ↓zB_lIl, ↓zB_wIl, zB_pI, zB_pZ, zB_lI, zB_lZ, zB_wI, zB_wZ, z_addl, z_ladd, z_mull, z_lmul, nI_add, z_subl, Nat.not_lt_zero, z_10, z_01, z_bitc, z_b0, z_b1, ↓zB_Gb, ↓zB_G0, ↓zB_G1, z_eql, z_leq, z_ltl, z_llt, z_eq, z_lt, z_m1lt, hX.k0, hX.k8, hX.k9, hX.l9, hp.k, hp.k1, hp.k2, hp.k3, hp.k4, hp.k5, hp.k6, hp.k7, hp.k8, hp.k9, hp.k10, hp.l1, hp.l2, hp.l3, hp.l4, hp.l5, hp.l6, hp.l7, hp.l8, hp.l9, hp.l10, ↓hX.g0_0, ↓hX.g0_1, ↓hX.g0_2, ↓hX.g0_3, ↓hX.g0_4, ↓hX.g0_5, ↓hX.g0_6, ↓hX.g0_7, ↓hX.g0_8, ↓hX.g0_9, ↓hX.g8_0, ↓hp.g0, ↓hp.g1, ↓hp.g2, ↓hp.g3, ↓hp.g4, ↓hp.g5, ↓hp.g6, ↓hp.g7, ↓hp.g8, ↓hp.g9, ↓hp.gb, hp.gb, ↓z_gnow hX hn, z_gnow hX hn, ↓zT_l e1, zT_l e1, ↓zT_r e3, zT_r e3]
end
