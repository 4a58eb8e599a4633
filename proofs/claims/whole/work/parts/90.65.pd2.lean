-- deps: 90.64.pd1
/-! a method pushed down: one more like it -/
section
variable {S : z_S} {m : z_m} {p q : Nat} {P Q : z_Pg} {A : z_A}
def z_pdH (H : Nat → Int32) (d : Nat) : Nat → Int32 := fun w => if w = 1 then nI d else if w < 9 then H w else H 8
/-- while its parameters are added -/
def z_pdI (H : Nat → Int32) (d i : Nat) : Nat → Int32 := fun w => if w = 3 then nI i else if w = 4 ∧ i < 1 then -1 else if w = 5 ∧ i < 2 then -1 else z_pdH H d w
theorem z_pdI_o {H : Nat → Int32} {d i w : Nat} (h3 : w ≠ 3) (h4 : w ≠ 4) (h5 : w ≠ 5) : z_pdI H d i w = z_pdH H d w := by
  unfold z_pdI; rw [if_neg h3, if_neg (fun q => h4 q.1), if_neg (fun q => h5 q.1)]
theorem z_pdI_e {H : Nat → Int32} {d c : Nat} (h3 : H 3 = nI c) (hc : c ≤ 2) (hn : ∀ j, j < 2 → c ≤ j → H (4 + j) = -1) : z_pdI H d c = z_pdH H d := by
  funext w
  unfold z_pdI
  by_cases y3 : w = 3
  · rw [if_pos y3, y3]; exact h3.symm
  · rw [if_neg y3]
    by_cases y4 : w = 4 ∧ c < 1
    · rw [if_pos y4, y4.1]; exact (hn 0 (by decide) (by omega)).symm
    · rw [if_neg y4]
      by_cases y5 : w = 5 ∧ c < 2
      · rw [if_pos y5, y5.1]; exact (hn 1 (by decide) (by omega)).symm
      · rw [if_neg y5]
/-- Program.addMethodLike -/
theorem f77_sp (hq : z_PS S q) (lo : 242 ≤ q) (hcq : z_cp m q Q) (hw : z_wf Q) (h24 : z_nm Q < 24) {k : Nat} (hk : k < z_nm Q) (hl : z_liv Q k = true) (d : Nat) : ∃ m', f77 q (nI k) (nI d) (z_hp S m) = some ((), z_hp S m') ∧ z_cp m' q (z_addM Q (z_pdH (z_hd Q k) d) (z_bd Q k)) ∧ m' q 14 = 0 ∧ ∀ a, (a < q ∨ q + 179 ≤ a) → m' a = m a := by
  have hqk := hq.k
  have hct : ∀ j, j < z_nm Q → z_cnt Q j ≤ 2 := fun j hj => (hw.2.2.2.1 j hj).2.2.2.1.1
  have hc2 := hct k hk
  have h3 := z_c3 hw hk
  have hl0 : z_hd Q k 0 = 1 := by simpa [z_liv] using hl
  have hn : ∀ j, j < 2 → z_cnt Q k ≤ j → z_hd Q k (4 + j) = -1 := fun j hj hcj => by
    have := (hw.2.2.2.1 k hk).2.2.2.2.1 j hj
    rw [if_neg (by omega)] at this
    exact this
  obtain ⟨q1, q2, q3, q4, q5, q6⟩ := hcq.2.1.2.2 k hk hl
  obtain ⟨m1, e1, x1, f1, fr1, cb1⟩ := f74_spb (l := []) hq hcq hw h24 (nI d) (z_hd Q k 2) (z_hd Q k 8)
  have x1 : z_cpX m1 q (z_addM Q (z_pdI (z_hd Q k) d 0) []) (z_nm Q) := z_cpX_H x1 (fun w a b => by
    unfold z_pdI z_pdH z_hdr
    by_cases g0 : w = 0
    · rw [g0]; exact hl0
    · by_cases g1 : w = 1
      · rw [g1]; rfl
      · by_cases g2 : w = 2
        · rw [g2]; rfl
        · by_cases g3 : w = 3
          · rw [g3]; rfl
          · by_cases g4 : w = 4
            · rw [g4]; rfl
            · by_cases g5 : w = 5
              · rw [g5]; rfl
              · rw [if_neg g3, if_neg (fun q => g4 q.1), if_neg (fun q => g5 q.1), if_neg g1, if_neg g0, if_neg g1, if_neg g2, if_neg g3, if_neg g4, if_neg g5, if_neg a, if_neg b]
                by_cases g9 : w < 9
                · rw [if_pos g9]
                  have : w = 8 := by omega
                  rw [this]
                · rw [if_neg g9]) (fun j hj => absurd hj (Nat.not_lt_zero j))
  have cp1 := z_cpX_b x1 cb1
  have hh : ∀ i w, z_hd (z_addM Q (z_pdI (z_hd Q k) d i) []) (z_nm Q) w = z_pdI (z_hd Q k) d i w := fun i w => z_addM_hd_s w
  have hb0 := hq.B (k := z_nm Q) h24
  have hbk := hq.B (k := k) (by omega)
  -- the parameters
  have key := z_loopI (f := fun s => f77_21b (s.1) (s.2.1) (s.2.2.1) (s.2.2.2)) (S := S) (fun N st m' => ∃ i, N = z_cnt Q k - i ∧ i ≤ z_cnt Q k ∧ st = (q, nI k, nI (z_nm Q), nI i) ∧ z_cp m' q (z_addM Q (z_pdI (z_hd Q k) d i) []) ∧ m' q 14 = 0 ∧ z_cb m' (z_bi q (z_nm Q)) 60 [] ∧ ∀ a, (a < q ∨ q + 179 ≤ a) → m' a = m a) (fun _ m' => z_cp m' q (z_addM Q (z_pdH (z_hd Q k) d) (z_bd Q k)) ∧ m' q 14 = 0 ∧ ∀ a, (a < q ∨ q + 179 ≤ a) → m' a = m a) ?_ 1000000 (z_cnt Q k) (q, nI k, nI (z_nm Q), 0) m1 ⟨0, rfl, Nat.zero_le _, rfl, cp1, f1, cb1, fr1⟩ (by omega)
  · obtain ⟨r, m', e, g1, g2, g3⟩ := key
    refine ⟨m', ?_, g1, g2, g3⟩
    unfold f77 f77_21
    have hk24 : k < 24 := by omega
    simp (disch := ((try simp only [true_or, or_true, hq.k, hq.k1, hq.k2, hq.k3, hq.k4, hq.k5, hq.k6, hq.k7, hq.k8, hq.k9, hq.k10, hq.l1, hq.l2, hq.l3, hq.l4, hq.l5, hq.l6, hq.l7, hq.l8, hq.l9, hq.l10, hqk]) <;> (try omega))) only [↓reduceIte, ↓z_ite, ↓zR, ↓zB_R, ↓zB_B, ↓zB_ite, ↓zB_gI, ↓zB_pI, ↓zB_pZ, ↓zB_aK, ↓zB_G, ↓zB_lI, ↓zB_lZ, ↓zB_wI, ↓zB_wZ, ↓zB_lIl, ↓zB_wIl, zB_pI, zB_pZ, zB_lI, zB_lZ, zB_wI, zB_wZ, z_addl, z_ladd, z_mull, z_lmul, nI_add, z_subl, Nat.not_lt_zero, z_10, z_01, z_bitc, z_b0, z_b1, ↓zB_Gb, ↓zB_G0, ↓zB_G1, z_eql, z_leq, z_ltl, z_llt, z_eq, z_lt, z_m1lt, hq.k, hq.k1, hq.k2, hq.k3, hq.k4, hq.k5, hq.k6, hq.k7, hq.k8, hq.k9, hq.k10, hq.l1, hq.l2, hq.l3, hq.l4, hq.l5, hq.l6, hq.l7, hq.l8, hq.l9, hq.l10, hqk, ↓hq.g0, ↓hq.g1, ↓hq.g2, ↓hq.g3, ↓hq.g4, ↓hq.g5, ↓hq.g6, ↓hq.g7, ↓hq.g8, ↓hq.g9, ↓hq.gb, hq.gb, hk24, q2, q4, ↓zB_c e1, zB_c e1]
    exact e
  · rintro N st m2 ⟨i, rfl, hi, rfl, cp2, f2, cb2, fr2⟩
    have hk24 : k < 24 := by omega
    have hlk2 : z_liv (z_addM Q (z_pdI (z_hd Q k) d i) []) k = true := by rw [z_addM_liv_o (by omega)]; exact hl
    obtain ⟨s1, s2, s3, s4, s5, s6⟩ := cp2.2.1.2.2 k (show k < z_nm Q + 1 by omega) hlk2
    rw [z_addM_hd_o (show k ≠ z_nm Q by omega), h3] at s3
    dsimp only
    rcases Nat.eq_or_lt_of_le hi with hi2 | hi2
    · have cbk : z_cb m2 (z_bi q k) 60 (z_bd Q k) := by
        have := cp2.2.2.2 k (show k < z_nm Q + 1 by omega) hlk2
        rw [z_addM_bd_o (show k ≠ z_nm Q by omega)] at this; exact this
      obtain ⟨m3, e7, cb3, F3⟩ := f7_y hb0 cb2.1 (by decide) (show z_bb (z_bi q (z_nm Q)) (z_bi q k) by unfold z_bb z_bi; omega) cbk hbk cbk.2.2.1
      have hi3 : z_pdI (z_hd Q k) d i = z_pdH (z_hd Q k) d := by rw [hi2]; exact z_pdI_e h3 hc2 hn
      rw [hi3] at cp2
      have cp3 := z_addM_body cp2 (z_addM_ct hct (by
        rw [← hi3]
        show (z_pdI (z_hd Q k) d i 3).toNatClampNeg ≤ 2
        unfold z_pdI
        rw [if_pos rfl, nI_clamp (by omega)]; omega)) h24 (by unfold z_pdH; rw [if_neg (by decide), if_pos (by decide)]; exact hl0) F3 cb3
      refine Or.inr ⟨(), m3, ?_, cp3, ?_, fun a ha => ?_⟩
      · unfold f77_21b f77_65
        rw [hi2]
        have hb0k := hb0.k
        have hbkk := hbk.k
        simp (disch := ((try simp only [true_or, or_true, hq.k, hq.k1, hq.k2, hq.k3, hq.k4, hq.k5, hq.k6, hq.k7, hq.k8, hq.k9, hq.k10, hq.l1, hq.l2, hq.l3, hq.l4, hq.l5, hq.l6, hq.l7, hq.l8, hq.l9, hq.l10, hqk, hb0k, hbkk]) <;> (try omega))) only [↓reduceIte, ↓z_ite, ↓zR, ↓zB_R, ↓zB_B, ↓zB_ite, ↓zB_gI, ↓zB_pI, ↓zB_pZ, ↓zB_aK, ↓zB_G, ↓zB_lI, ↓zB_lZ, ↓zB_wI, ↓zB_wZ, ↓zB_lIl, ↓zB_wIl, zB_pI, zB_pZ, zB_lI, zB_lZ, zB_wI, zB_wZ, z_addl, z_ladd, z_mull, z_lmul, nI_add, z_subl, Nat.not_lt_zero, z_10, z_01, z_bitc, z_b0, z_b1, ↓zB_Gb, ↓zB_G0, ↓zB_G1, z_eql, z_leq, z_ltl, z_llt, z_eq, z_lt, z_m1lt, hq.k, hq.k1, hq.k2, hq.k3, hq.k4, hq.k5, hq.k6, hq.k7, hq.k8, hq.k9, hq.k10, hq.l1, hq.l2, hq.l3, hq.l4, hq.l5, hq.l6, hq.l7, hq.l8, hq.l9, hq.l10, hqk, hb0k, hbkk, ↓hq.g0, ↓hq.g1, ↓hq.g2, ↓hq.g3, ↓hq.g4, ↓hq.g5, ↓hq.g6, ↓hq.g7, ↓hq.g8, ↓hq.g9, ↓hq.gb, hq.gb, s3, hk24, Nat.lt_irrefl, h24, ↓zB_c e7, zB_c e7]
      · rw [F3.1 q (by unfold z_bi; omega) (by unfold z_bi; omega) (by unfold z_bi; omega) (by unfold z_bi; omega)]; exact f2
      · rw [F3.1 a (by unfold z_bi; omega) (by unfold z_bi; omega) (by unfold z_bi; omega) (by unfold z_bi; omega)]; exact fr2 a ha
    · have ea := s5 i (by omega)
      have et := s6 i (by unfold z_cnt; rw [z_addM_hd_o (show k ≠ z_nm Q by omega)]; exact hi2)
      rw [z_addM_hd_o (show k ≠ z_nm Q by omega)] at ea et
      have hi01 : i = 0 ∨ i = 1 := by omega
      obtain ⟨m3, e3, cp3, fr3⟩ := f75_gen (P := z_addM Q (z_pdI (z_hd Q k) d i) []) (k := z_nm Q) (j := i) (a := z_hd Q k (4 + i)) (t := z_hd Q k (6 + i)) (H' := z_pdI (z_hd Q k) d (i + 1)) hq cp2 (show z_nm Q + 1 ≤ 24 by omega) (z_addM_ct hct (by
        show (z_pdI (z_hd Q k) d i 3).toNatClampNeg ≤ 2
        unfold z_pdI
        rw [if_pos rfl, nI_clamp (by omega)]; omega)) (Nat.lt_succ_self _) (by
        unfold z_liv
        rw [hh, z_pdI_o (by decide) (by decide) (by decide)]
        unfold z_pdH; rw [if_neg (by decide), if_pos (by decide), hl0]; rfl) (by omega) (by rw [hh]; exact if_pos rfl) (by
        rw [z_pdI_o (by decide) (by decide) (by decide)]
        unfold z_pdH; rw [if_neg (by decide), if_pos (by decide)]; exact hl0) (by rw [hh, z_pdI_o (by decide) (by decide) (by decide), z_pdI_o (by decide) (by decide) (by decide)]) (by rw [hh, z_pdI_o (by decide) (by decide) (by decide), z_pdI_o (by decide) (by decide) (by decide)]) (if_pos rfl) (by rw [hh, z_pdI_o (by decide) (by decide) (by decide), z_pdI_o (by decide) (by decide) (by decide)]) (by rcases hi01 with rfl | rfl <;> rfl) (fun i' hi' hne => by
        rw [hh]
        rcases hi01 with rfl | rfl
        · have : i' = 1 := by omega
          subst this; rfl
        · have : i' = 0 := by omega
          subst this; rfl) (by
        rw [z_pdI_o (by omega) (by omega) (by omega)]
        unfold z_pdH; rw [if_neg (by omega), if_pos (by omega)]) (fun i' hi' => by rw [hh, z_pdI_o (by omega) (by omega) (by omega), z_pdI_o (by omega) (by omega) (by omega)])
      rw [z_sM_addM, z_addM_bd_s] at cp3
      refine Or.inl ⟨(q, nI k, nI (z_nm Q), nI (i + 1)), m3, z_cnt Q k - (i + 1), ?_, by omega, i + 1, rfl, hi2, rfl, cp3, ?_, z_cb_fr (fun a x1 x2 => fr3 a (by unfold z_bi at x1; omega) (by unfold z_bi at x1; omega) (by unfold z_bi at x1; omega)) cb2, fun a ha => ?_⟩
      · unfold f77_21b
        have k47 : k * 2 + i < 48 := by omega
        simp (disch := ((try simp only [true_or, or_true, hq.k, hq.k1, hq.k2, hq.k3, hq.k4, hq.k5, hq.k6, hq.k7, hq.k8, hq.k9, hq.k10, hq.l1, hq.l2, hq.l3, hq.l4, hq.l5, hq.l6, hq.l7, hq.l8, hq.l9, hq.l10, hqk]) <;> (try omega))) only [↓reduceIte, ↓z_ite, ↓zR, ↓zB_R, ↓zB_B, ↓zB_ite, ↓zB_gI, ↓zB_pI, ↓zB_pZ, ↓zB_aK, ↓zB_G, ↓zB_lI, ↓zB_lZ, ↓zB_wI, ↓zB_wZ, ↓zB_lIl, ↓zB_wIl, zB_pI, zB_pZ, zB_lI, zB_lZ, zB_wI, zB_wZ, z_addl, z_ladd, z_mull, z_lmul, nI_add, z_subl, Nat.not_lt_zero, z_10, z_01, z_bitc, z_b0, z_b1, ↓zB_Gb, ↓zB_G0, ↓zB_G1, z_eql, z_leq, z_ltl, z_llt, z_eq, z_lt, z_m1lt, hq.k, hq.k1, hq.k2, hq.k3, hq.k4, hq.k5, hq.k6, hq.k7, hq.k8, hq.k9, hq.k10, hq.l1, hq.l2, hq.l3, hq.l4, hq.l5, hq.l6, hq.l7, hq.l8, hq.l9, hq.l10, hqk, ↓hq.g0, ↓hq.g1, ↓hq.g2, ↓hq.g3, ↓hq.g4, ↓hq.g5, ↓hq.g6, ↓hq.g7, ↓hq.g8, ↓hq.g9, ↓hq.gb, hq.gb, s3, hk24, hi2, k47, ea, et, ↓zB_c e3, zB_c e3]
      · rw [fr3 q (by omega) (by omega) (by omega)]; exact f2
      · rw [fr3 a (by omega) (by omega) (by omega)]; exact fr2 a ha
end
