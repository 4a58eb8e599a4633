/-! a parameter more -/
section
variable {P : z_Pg} {H H' : Nat → Int32} {l : List z_N} {S : z_S} {m : z_m} {p : Nat}
/-- Program.addParameter -/
theorem f75_sp (hp : z_PS S p) (hw : z_wf P) (h24 : z_nm P < 24) (h : z_cpX m p (z_addM P H l) (z_nm P)) {j : Nat} (hj : j < 2) (h3 : H 3 = nI j) {a t : Int32} (k0 : H 0 = 1) (k0' : H' 0 = 1) (k1 : H' 1 = H 1) (k2 : H' 2 = H 2) (k3 : H' 3 = nI (j + 1)) (k8 : H' 8 = H 8) (ka : H' (4 + j) = a) (kb : ∀ i, i < 2 → i ≠ j → H' (4 + i) = H (4 + i)) (kt : H' (6 + j) = t) (ku : ∀ i, i < j → H' (6 + i) = H (6 + i)) : ∃ m', f75 p (nI (z_nm P)) a t (z_hp S m) = some ((), z_hp S m') ∧ z_cpX m' p (z_addM P H' l) (z_nm P) ∧ m' p = m p ∧ ∀ b, (b < p ∨ p + 179 ≤ b) → m' b = m b := by
  obtain ⟨hc, ⟨d1, d2, d3⟩, e1, e2⟩ := h
  have hlv : z_liv (z_addM P H l) (z_nm P) = true := by unfold z_liv; rw [z_addM_hd_s, k0]; rfl
  obtain ⟨s1, s2, s3, s4, s5, s6⟩ := d3 (z_nm P) (Nat.lt_succ_self _) hlv
  have hct : z_cnt (z_addM P H l) (z_nm P) = j := by unfold z_cnt; rw [z_addM_hd_s, h3, nI_clamp (by omega)]
  have hct' : z_cnt (z_addM P H' l) (z_nm P) = j + 1 := by unfold z_cnt; rw [z_addM_hd_s, k3, nI_clamp (by omega)]
  rw [z_addM_hd_s] at s1 s2 s3 s4
  have s3' : m (p + 6) (z_nm P) = nI j := by rw [s3, h3]
  generalize hm1 : z_up (z_up (z_up m (p + 7) (z_nm P * 2 + j) a) (p + 8) (z_nm P * 2 + j) t) (p + 6) (z_nm P) (nI (j + 1)) = m1
  have u1 : z_up m (p + 7) (z_nm P * 2 + j) a (p + 6) (z_nm P) = nI j := by rw [z_up_a (by omega)]; exact s3'
  have u2 : z_up (z_up m (p + 7) (z_nm P * 2 + j) a) (p + 8) (z_nm P * 2 + j) t (p + 6) (z_nm P) = nI j := by rw [z_up_a (by omega)]; exact u1
  have hfr : ∀ b, b ≠ p + 6 → b ≠ p + 7 → b ≠ p + 8 → m1 b = m b := fun b x1 x2 x3 => by rw [← hm1, z_up_row x1, z_up_row x3, z_up_row x2]
  refine ⟨m1, ?_, ⟨z_addM_cc ⟨?_, fun c' hc' => ⟨?_, fun d hd => ?_, fun n' hn' => ?_⟩⟩, ⟨?_, fun k hk => ?_, fun k hk hl => ?_⟩, fun k hk => ?_, fun k hk hl hne => ?_⟩, hfr p (by omega) (by omega) (by omega), fun b hb => hfr b (by omega) (by omega) (by omega)⟩
  · unfold f75
    simp (disch := ((try simp only [true_or, or_true, hp.k, hp.k1, hp.k2, hp.k3, hp.k4, hp.k5, hp.k6, hp.k7, hp.k8, hp.k9, hp.k10, hp.l1, hp.l2, hp.l3, hp.l4, hp.l5, hp.l6, hp.l7, hp.l8, hp.l9, hp.l10]) <;> (try omega))) only [↓reduceIte, ↓z_ite, ↓zR, ↓zB_R, ↓zB_B, ↓zB_ite, ↓zB_gI, ↓zB_pI, ↓zB_pZ, ↓zB_aK, ↓zB_G, ↓zB_lI, ↓zB_lZ, ↓zB_wI, ↓zB_wZ, ↓zB_lIl, ↓zB_wIl, zB_pI, zB_pZ, zB_lI, zB_lZ, zB_wI, zB_wZ, z_addl, z_ladd, z_mull, z_lmul, nI_add, z_subl, Nat.not_lt_zero, z_10, z_01, z_bitc, z_b0, z_b1, ↓zB_Gb, ↓zB_G0, ↓zB_G1, z_eql, z_leq, z_ltl, z_llt, z_eq, z_lt, z_m1lt, hp.k, hp.k1, hp.k2, hp.k3, hp.k4, hp.k5, hp.k6, hp.k7, hp.k8, hp.k9, hp.k10, hp.l1, hp.l2, hp.l3, hp.l4, hp.l5, hp.l6, hp.l7, hp.l8, hp.l9, hp.l10, ↓hp.g0, ↓hp.g1, ↓hp.g2, ↓hp.g3, ↓hp.g4, ↓hp.g5, ↓hp.g6, ↓hp.g7, ↓hp.g8, ↓hp.g9, ↓hp.gb, hp.gb, s3', u1, u2, h24, hj, hm1]
  · rw [hfr p (by omega) (by omega) (by omega)]; exact hc.1
  · rw [hfr _ (by omega) (by omega) (by omega)]; exact (hc.2 c' hc').1
  · rw [hfr _ (by omega) (by omega) (by omega)]
    have := (hc.2 c' hc').2.1 d hd
    rw [z_addM_blw] at this; exact this
  · rw [hfr _ (by omega) (by omega) (by omega)]; exact (hc.2 c' hc').2.2 n' hn'
  · rw [hfr p (by omega) (by omega) (by omega)]; exact d1
  · rw [hfr p (by omega) (by omega) (by omega), d2 k hk]
    have : z_liv (z_addM P H' l) k = z_liv (z_addM P H l) k := by
      by_cases g : k = z_nm P
      · rw [g, hlv]; unfold z_liv; rw [z_addM_hd_s, k0']; rfl
      · rw [z_addM_liv_o g, z_addM_liv_o g]
    rw [this]; rfl
  · have hk : k < z_nm P + 1 := hk
    by_cases g : k = z_nm P
    · subst g
      refine ⟨?_, ?_, ?_, ?_, fun i hi => ?_, fun i hi => ?_⟩
      · rw [z_addM_hd_s, hfr _ (by omega) (by omega) (by omega), k1]; exact s1
      · rw [z_addM_hd_s, hfr _ (by omega) (by omega) (by omega), k2]; exact s2
      · rw [z_addM_hd_s, ← hm1, z_up_s, k3]
      · rw [z_addM_hd_s, hfr _ (by omega) (by omega) (by omega), k8]; exact s4
      · rw [z_addM_hd_s, ← hm1, z_up_a (by omega), z_up_a (by omega)]
        by_cases gi : i = j
        · rw [gi, z_up_s, ka]
        · rw [z_up_b (by omega), kb i hi gi]
          have := s5 i hi
          rw [z_addM_hd_s] at this; exact this
      · rw [hct'] at hi
        rw [z_addM_hd_s, ← hm1, z_up_a (by omega)]
        by_cases gi : i = j
        · rw [gi, z_up_s, kt]
        · rw [z_up_b (by omega), z_up_a (by omega), ku i (by omega)]
          have := s6 i (by rw [hct]; omega)
          rw [z_addM_hd_s] at this; exact this
    · rw [z_addM_liv_o g] at hl
      obtain ⟨q1, q2, q3, q4, q5, q6⟩ := d3 k (show k < z_nm P + 1 from hk) (by rw [z_addM_liv_o g]; exact hl)
      have ect : z_cnt (z_addM P H' l) k = z_cnt (z_addM P H l) k := by unfold z_cnt; rw [z_addM_hd_o g, z_addM_hd_o g]
      have hct2 : z_cnt (z_addM P H l) k ≤ 2 := by unfold z_cnt; rw [z_addM_hd_o g]; exact (hw.2.2.2.1 k (by omega)).2.2.2.1.1
      simp only [z_addM_hd_o g] at q1 q2 q3 q4 q5 q6
      refine ⟨?_, ?_, ?_, ?_, fun i hi => ?_, fun i hi => ?_⟩
      · rw [z_addM_hd_o g, hfr _ (by omega) (by omega) (by omega)]; exact q1
      · rw [z_addM_hd_o g, hfr _ (by omega) (by omega) (by omega)]; exact q2
      · rw [z_addM_hd_o g, ← hm1, z_up_b g, z_up_a (by omega), z_up_a (by omega)]; exact q3
      · rw [z_addM_hd_o g, hfr _ (by omega) (by omega) (by omega)]; exact q4
      · rw [z_addM_hd_o g, ← hm1, z_up_a (by omega), z_up_a (by omega), z_up_b (by omega)]; exact q5 i hi
      · rw [z_addM_hd_o g, ← hm1, z_up_a (by omega), z_up_b (by omega), z_up_a (by omega)]; exact q6 i (by rw [← ect]; exact hi)
  · rw [hfr _ (by unfold z_bi; omega) (by unfold z_bi; omega) (by unfold z_bi; omega)]; exact e1 k hk
  · have hk : k < z_nm P + 1 := hk
    rw [z_addM_liv_o hne] at hl
    rw [z_addM_bd_o hne]
    have := e2 k (show k < z_nm P + 1 from hk) (by rw [z_addM_liv_o hne]; exact hl) hne
    rw [z_addM_bd_o hne] at this
    exact z_cb_fr (fun b x1 x2 => hfr b (by unfold z_bi at x1; omega) (by unfold z_bi at x1; omega) (by unfold z_bi at x1; omega)) this
end
