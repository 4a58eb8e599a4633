/-! a method told: the class -/
section
variable {P : z_Pg} {H H' : Nat → Int32} {l : List z_N} {S : z_S} {m : z_m} {p : Nat} {A : z_A}
theorem z_cpX_H (h : z_cpX m p (z_addM P H l) (z_nm P)) (e : ∀ w, w ≠ 6 → w ≠ 7 → H' w = H w) (e6 : ∀ j, j < (H 3).toNatClampNeg → H' (6 + j) = H (6 + j)) : z_cpX m p (z_addM P H' l) (z_nm P) := by
  have hl : ∀ k, z_liv (z_addM P H' l) k = z_liv (z_addM P H l) k := by
    intro k
    by_cases g : k = z_nm P
    · rw [g]; unfold z_liv; rw [z_addM_hd_s, z_addM_hd_s, e 0 (by decide) (by decide)]
    · rw [z_addM_liv_o g, z_addM_liv_o g]
  have hh : ∀ k w, (k ≠ z_nm P ∨ (w ≠ 6 ∧ w ≠ 7)) → z_hd (z_addM P H' l) k w = z_hd (z_addM P H l) k w := by
    intro k w hkw
    by_cases g : k = z_nm P
    · rw [g, z_addM_hd_s, z_addM_hd_s]
      rcases hkw with hkw | hkw
      · exact absurd g hkw
      · exact e w hkw.1 hkw.2
    · rw [z_addM_hd_o g, z_addM_hd_o g]
  refine ⟨⟨h.1.1, fun c hc => ⟨(h.1.2 c hc).1, fun d hd => ?_, (h.1.2 c hc).2.2⟩⟩, ⟨h.2.1.1, fun k hk => ?_, fun k hk hlk => ?_⟩, h.2.2.1, fun k hk hlk hne => ?_⟩
  · have := (h.1.2 c hc).2.1 d hd
    rw [z_addM_blw] at this ⊢; exact this
  · rw [h.2.1.2.1 k hk, hl]; rfl
  · rw [hl] at hlk
    obtain ⟨q1, q2, q3, q4, q5, q6⟩ := h.2.1.2.2 k hk hlk
    have ec : z_cnt (z_addM P H' l) k = z_cnt (z_addM P H l) k := by unfold z_cnt; rw [hh k 3 (Or.inr (by decide))]
    refine ⟨by rw [hh k 1 (Or.inr (by decide))]; exact q1, by rw [hh k 2 (Or.inr (by decide))]; exact q2, by rw [hh k 3 (Or.inr (by decide))]; exact q3, by rw [hh k 8 (Or.inr (by decide))]; exact q4, fun j hj => by rw [hh k (4 + j) (Or.inr (by omega))]; exact q5 j hj, fun j hj => ?_⟩
    rw [ec] at hj
    rw [q6 j hj]
    by_cases g : k = z_nm P
    · subst g
      rw [z_addM_hd_s, z_addM_hd_s]
      refine (e6 j ?_).symm
      unfold z_cnt at hj; rw [z_addM_hd_s] at hj; exact hj
    · exact (hh k _ (Or.inl g)).symm
  · rw [hl] at hlk
    have := h.2.2.2 k hk hlk hne
    rw [z_addM_bd_o hne] at this ⊢; exact this
theorem z_cpX_fr {m' : z_m} {k0 : Nat} (hw : z_nm P ≤ 24) (h : ∀ a, p ≤ a → a ≤ p + 9 → m' a = m a) (hb : ∀ k, k < 24 → k ≠ k0 → ∀ a, z_bi p k ≤ a → a ≤ z_bi p k + 3 → m' a = m a) (h6 : m' (z_bi p k0) 6 = m (z_bi p k0) 6) (hc : z_cpX m p P k0) : z_cpX m' p P k0 := by
  obtain ⟨c, d, e, f⟩ := hc
  refine ⟨?_, ?_, fun k hk => ?_, fun k hk hl hne => z_cb_fr (hb k (by omega) hne) (f k hk hl hne)⟩
  · unfold z_cc at *
    rw [h p (by omega) (by omega), h (p + 1) (by omega) (by omega), h (p + 2) (by omega) (by omega), h (p + 3) (by omega) (by omega)]; exact c
  · unfold z_cm z_ch at *
    rw [h p (by omega) (by omega), h (p + 4) (by omega) (by omega), h (p + 5) (by omega) (by omega), h (p + 6) (by omega) (by omega), h (p + 7) (by omega) (by omega), h (p + 8) (by omega) (by omega), h (p + 9) (by omega) (by omega)]; exact d
  · by_cases g : k = k0
    · rw [g, h6, ← g]; exact e k hk
    · rw [hb k hk g _ (Nat.le_refl _) (by omega)]; exact e k hk
theorem z_pct_le (x y : Int32) : z_pct x y ≤ 2 := by
  unfold z_pct
  split
  · split <;> decide
  · decide
/-- the parameters of what was added -/
theorem f137_tail (hw : z_WA A) {sn sx : Nat} {sp : Nat → Nat} (hI : z_ID S sn sx sp) (h : z_CM m sn sp A) (h24 : z_nm A.2.1 < 24) {c n i : Nat} {x y t : Int32} (hi : i < A.1.length) (hs : z_ts A.1 i ≤ 60) (hc : c < z_nc A.2.1) (hom : z_om A.2.1 c (nI n) (nI (z_pct x y)) = none) : ∃ m1, f137_66 0 (nI c) (nI n) x y t (nI i) (nI (z_pct x y)) (z_hp S m) = some (.inl (nI (z_nm A.2.1)), z_hp S m1) ∧ z_CM m1 sn sp (z_wn (z_dp A) (z_addM A.2.1 (z_mh (nI c) (nI n) x y t) (z_tree A.1 i))) ∧ ∀ a, 2390 ≤ a → m1 a = m a := by
  have hX := hI.1
  have hsn := hI.2.2.2.1.1
  have lo := z_pid_lo sn
  have hp := hI.2.2.1 sn hsn
  have hn := hI.2.2.2.2.2.1
  have hcp := h.2.2.1.1.1
  have hT := h.2.1
  have hwf := hw.2.1.1
  have hle := hw.1.1
  have hD := z_CM_dp hw hI h
  have hp2 := z_pct_le x y
  have ew : m 6 i = nI (min 61 (z_ts A.1 i)) := (hT.2 i hi).2.2.2.2
  have gw : ¬ 60 < min 61 (z_ts A.1 i) := by omega
  have h6n := hwf.1.1
  have e89 := f89_sp hp hcp hwf hc (nI n) (nI (z_pct x y))
  rw [hom] at e89
  have e11 : m (z_pid sn) 11 = nI (z_nm A.2.1) := hcp.2.1.1
  have ex := fun (S : z_S) (m : z_m) => f170_sp (S := S) (m := m) x
  have ey := fun (S : z_S) (m : z_m) => f170_sp (S := S) (m := m) y
  obtain ⟨m2, e74, x2, f2, fr2⟩ := f74_sp (S := S) (m := z_up m 0 13 0) (P := A.2.1) (l := z_tree A.1 i) hp hD.2.2.1.1.1 hwf h24 (nI c) (nI n) t
  -- the parameters
  have par : ∃ m3, f137_66 0 (nI c) (nI n) x y t (nI i) (nI (z_pct x y)) (z_hp S m) = f137_205 0 (nI i) (nI (z_nm A.2.1)) (z_hp S m3) ∧ z_cpX m3 (z_pid sn) (z_addM A.2.1 (z_mh (nI c) (nI n) x y t) (z_tree A.1 i)) (z_nm A.2.1) ∧ m3 (z_pid sn) 14 = 0 ∧ ∀ a, (a < z_pid sn ∨ z_pid sn + 179 ≤ a) → m3 a = z_up m 0 13 0 a := by
    have g012 : z_pct x y = 0 ∨ z_pct x y = 1 ∨ z_pct x y = 2 := by omega
    rcases g012 with g | g | g
    · refine ⟨m2, ?_, z_cpX_H x2 (fun w a b => ?_) (fun j hj => absurd hj (Nat.not_lt_zero _)), f2, fr2⟩
      · unfold f137_66 f137_180
        rw [g] at e89 ⊢
        simp (disch := ((try simp only [true_or, or_true, hX.k0, hX.k1, hX.k2, hX.k3, hX.k4, hX.k5, hX.k6, hX.k7, hX.l2, hX.l3, hX.l4, hX.l5, hX.l6, hX.l7, hp.k, hp.k1, hp.k2, hp.k3, hp.k4, hp.k5, hp.k6, hp.k7, hp.k8, hp.k9, hp.k10, hp.l1, hp.l2, hp.l3, hp.l4, hp.l5, hp.l6, hp.l7, hp.l8, hp.l9, hp.l10]) <;> (try omega))) only [↓reduceIte, ↓z_ite, ↓zR, ↓zB_R, ↓zB_B, ↓zB_ite, ↓zB_gI, ↓zB_pI, ↓zB_pZ, ↓zB_aK, ↓zB_G, ↓zB_lI, ↓zB_lZ, ↓zB_wI, ↓zB_wZ, ↓zB_lIl, ↓zB_wIl, zB_pI, zB_pZ, zB_lI, zB_lZ, zB_wI, zB_wZ, z_addl, z_ladd, z_mull, z_lmul, nI_add, z_subl, Nat.not_lt_zero, z_10, z_01, z_bitc, z_b0, z_b1, ↓zB_Gb, ↓zB_G0, ↓zB_G1, z_eql, z_leq, z_ltl, z_llt, z_eq, z_lt, z_m1lt, hX.k0, hX.k1, hX.k2, hX.k3, hX.k4, hX.k5, hX.k6, hX.k7, hX.l2, hX.l3, hX.l4, hX.l5, hX.l6, hX.l7, hp.k, hp.k1, hp.k2, hp.k3, hp.k4, hp.k5, hp.k6, hp.k7, hp.k8, hp.k9, hp.k10, hp.l1, hp.l2, hp.l3, hp.l4, hp.l5, hp.l6, hp.l7, hp.l8, hp.l9, hp.l10, ↓hX.g0_0, ↓hX.g0_1, ↓hX.g0_2, ↓hX.g0_3, ↓hX.g0_4, ↓hX.g0_5, ↓hX.g0_6, ↓hX.g0_7, ↓hX.g0_8, ↓hX.g0_9, ↓hX.g1_0, ↓hX.g1_1, ↓hX.g1_2, ↓hX.g1_3, ↓hX.g1_4, ↓hX.g1_5, ↓hp.g0, ↓hp.g1, ↓hp.g2, ↓hp.g3, ↓hp.g4, ↓hp.g5, ↓hp.g6, ↓hp.g7, ↓hp.g8, ↓hp.g9, ↓hp.gb, hp.gb, ew, hi, gw, ↓z_gnow hX hn, z_gnow hX hn, ↓zB_c e89, zB_c e89, z_oI, e11, h24, ↓zB_c e74, zB_c e74, Nat.lt_irrefl]
      · unfold z_mh z_hdr
        rw [g]
        simp [a, b]
        rfl
    · obtain ⟨m3, e75, x3, f3, fr3⟩ := f75_sp (S := S) (m := m2) (H' := z_mh (nI c) (nI n) x y t) hp hwf h24 x2 (j := 0) (by decide) rfl (a := z_pnm x) (t := z_pty x) rfl rfl rfl rfl (by unfold z_mh; rw [g]; rfl) rfl (by unfold z_mh; rw [g]; rfl) (fun w a b => by
        have : w = 1 := by omega
        subst this
        unfold z_mh; rw [g]; rfl) (by unfold z_mh; rw [g]; rfl) (fun w a => absurd a (Nat.not_lt_zero _))
      refine ⟨m3, ?_, x3, by rw [f3]; exact f2, fun a ha => (fr3 a ha).trans (fr2 a ha)⟩
      unfold f137_66 f137_180
      unfold z_pnm at e75
      rw [g] at e89 ⊢
      simp (disch := ((try simp only [true_or, or_true, hX.k0, hX.k1, hX.k2, hX.k3, hX.k4, hX.k5, hX.k6, hX.k7, hX.l2, hX.l3, hX.l4, hX.l5, hX.l6, hX.l7, hp.k, hp.k1, hp.k2, hp.k3, hp.k4, hp.k5, hp.k6, hp.k7, hp.k8, hp.k9, hp.k10, hp.l1, hp.l2, hp.l3, hp.l4, hp.l5, hp.l6, hp.l7, hp.l8, hp.l9, hp.l10]) <;> (try omega))) only [↓reduceIte, ↓z_ite, ↓zR, ↓zB_R, ↓zB_B, ↓zB_ite, ↓zB_gI, ↓zB_pI, ↓zB_pZ, ↓zB_aK, ↓zB_G, ↓zB_lI, ↓zB_lZ, ↓zB_wI, ↓zB_wZ, ↓zB_lIl, ↓zB_wIl, zB_pI, zB_pZ, zB_lI, zB_lZ, zB_wI, zB_wZ, z_addl, z_ladd, z_mull, z_lmul, nI_add, z_subl, Nat.not_lt_zero, z_10, z_01, z_bitc, z_b0, z_b1, ↓zB_Gb, ↓zB_G0, ↓zB_G1, z_eql, z_leq, z_ltl, z_llt, z_eq, z_lt, z_m1lt, hX.k0, hX.k1, hX.k2, hX.k3, hX.k4, hX.k5, hX.k6, hX.k7, hX.l2, hX.l3, hX.l4, hX.l5, hX.l6, hX.l7, hp.k, hp.k1, hp.k2, hp.k3, hp.k4, hp.k5, hp.k6, hp.k7, hp.k8, hp.k9, hp.k10, hp.l1, hp.l2, hp.l3, hp.l4, hp.l5, hp.l6, hp.l7, hp.l8, hp.l9, hp.l10, ↓hX.g0_0, ↓hX.g0_1, ↓hX.g0_2, ↓hX.g0_3, ↓hX.g0_4, ↓hX.g0_5, ↓hX.g0_6, ↓hX.g0_7, ↓hX.g0_8, ↓hX.g0_9, ↓hX.g1_0, ↓hX.g1_1, ↓hX.g1_2, ↓hX.g1_3, ↓hX.g1_4, ↓hX.g1_5, ↓hp.g0, ↓hp.g1, ↓hp.g2, ↓hp.g3, ↓hp.g4, ↓hp.g5, ↓hp.g6, ↓hp.g7, ↓hp.g8, ↓hp.g9, ↓hp.gb, hp.gb, ew, hi, gw, ↓z_gnow hX hn, z_gnow hX hn, ↓zB_c e89, zB_c e89, z_oI, e11, h24, ↓zB_c e74, zB_c e74, ↓zB_c (ex S m2), zB_c (ex S m2), ↓zB_c e75, zB_c e75, Nat.lt_irrefl, Nat.reduceLT]
    · obtain ⟨m3, e75, x3, f3, fr3⟩ := f75_sp (S := S) (m := m2) (H' := z_hdr (nI c) (nI n) 1 (z_pnm x) (-1) (z_pty x) 0 t) hp hwf h24 x2 (j := 0) (by decide) rfl (a := z_pnm x) (t := z_pty x) rfl rfl rfl rfl rfl rfl rfl (fun w a b => by
        have : w = 1 := by omega
        subst this
        rfl) rfl (fun w a => absurd a (Nat.not_lt_zero _))
      obtain ⟨m4, e75', x4, f4, fr4⟩ := f75_sp (S := S) (m := m3) (H' := z_mh (nI c) (nI n) x y t) hp hwf h24 x3 (j := 1) (by decide) rfl (a := z_pnm y) (t := z_pty y) rfl rfl rfl rfl (by unfold z_mh; rw [g]; rfl) rfl (by unfold z_mh; rw [g]; rfl) (fun w a b => by
        have : w = 0 := by omega
        subst this
        unfold z_mh; rw [g]; rfl) (by unfold z_mh; rw [g]; rfl) (fun w a => by
        have : w = 0 := by omega
        subst this
        unfold z_mh; rw [g]; rfl)
      refine ⟨m4, ?_, x4, by rw [f4, f3]; exact f2, fun a ha => (fr4 a ha).trans ((fr3 a ha).trans (fr2 a ha))⟩
      unfold f137_66 f137_180
      unfold z_pnm at e75 e75'
      rw [g] at e89 ⊢
      simp (disch := ((try simp only [true_or, or_true, hX.k0, hX.k1, hX.k2, hX.k3, hX.k4, hX.k5, hX.k6, hX.k7, hX.l2, hX.l3, hX.l4, hX.l5, hX.l6, hX.l7, hp.k, hp.k1, hp.k2, hp.k3, hp.k4, hp.k5, hp.k6, hp.k7, hp.k8, hp.k9, hp.k10, hp.l1, hp.l2, hp.l3, hp.l4, hp.l5, hp.l6, hp.l7, hp.l8, hp.l9, hp.l10]) <;> (try omega))) only [↓reduceIte, ↓z_ite, ↓zR, ↓zB_R, ↓zB_B, ↓zB_ite, ↓zB_gI, ↓zB_pI, ↓zB_pZ, ↓zB_aK, ↓zB_G, ↓zB_lI, ↓zB_lZ, ↓zB_wI, ↓zB_wZ, ↓zB_lIl, ↓zB_wIl, zB_pI, zB_pZ, zB_lI, zB_lZ, zB_wI, zB_wZ, z_addl, z_ladd, z_mull, z_lmul, nI_add, z_subl, Nat.not_lt_zero, z_10, z_01, z_bitc, z_b0, z_b1, ↓zB_Gb, ↓zB_G0, ↓zB_G1, z_eql, z_leq, z_ltl, z_llt, z_eq, z_lt, z_m1lt, hX.k0, hX.k1, hX.k2, hX.k3, hX.k4, hX.k5, hX.k6, hX.k7, hX.l2, hX.l3, hX.l4, hX.l5, hX.l6, hX.l7, hp.k, hp.k1, hp.k2, hp.k3, hp.k4, hp.k5, hp.k6, hp.k7, hp.k8, hp.k9, hp.k10, hp.l1, hp.l2, hp.l3, hp.l4, hp.l5, hp.l6, hp.l7, hp.l8, hp.l9, hp.l10, ↓hX.g0_0, ↓hX.g0_1, ↓hX.g0_2, ↓hX.g0_3, ↓hX.g0_4, ↓hX.g0_5, ↓hX.g0_6, ↓hX.g0_7, ↓hX.g0_8, ↓hX.g0_9, ↓hX.g1_0, ↓hX.g1_1, ↓hX.g1_2, ↓hX.g1_3, ↓hX.g1_4, ↓hX.g1_5, ↓hp.g0, ↓hp.g1, ↓hp.g2, ↓hp.g3, ↓hp.g4, ↓hp.g5, ↓hp.g6, ↓hp.g7, ↓hp.g8, ↓hp.g9, ↓hp.gb, hp.gb, ew, hi, gw, ↓z_gnow hX hn, z_gnow hX hn, ↓zB_c e89, zB_c e89, z_oI, e11, h24, ↓zB_c e74, zB_c e74, ↓zB_c (ex S m2), zB_c (ex S m2), ↓zB_c e75, zB_c e75, ↓zB_c (ey S m3), zB_c (ey S m3), ↓zB_c e75', zB_c e75', Nat.lt_irrefl, Nat.reduceLT]
  obtain ⟨m3, e3, x3, f3, fr3⟩ := par
  have hb := hp.B (k := z_nm A.2.1) h24
  have hT3 : z_cT m3 A.1 := z_cT_fr (fun a ha => by rw [fr3 a (by omega), z_up_row (by omega)]) hT
  obtain ⟨m4, e122, cb4, fr4, fr4b⟩ := f122_sp (S := S) (m := m3) hX hw.1 hT3 hb (x3.2.2.1 _ h24) (by unfold z_bi; omega) hi (by rw [z_tree_len hw.1 (i + 1) i (Nat.lt_succ_self _) hi]; exact hs)
  have x4 : z_cpX m4 (z_pid sn) (z_addM A.2.1 (z_mh (nI c) (nI n) x y t) (z_tree A.1 i)) (z_nm A.2.1) := by
    refine z_cpX_fr (show z_nm A.2.1 + 1 ≤ 24 by omega) (fun a g1 g2 => fr4 a (by omega) (by unfold z_bi; omega) (by unfold z_bi; omega) (by unfold z_bi; omega) (by unfold z_bi; omega)) (fun k hk hne a g1 g2 => ?_) (fr4b 6 (by decide)) x3
    unfold z_bi at g1 g2
    exact fr4 a (by omega) (by unfold z_bi; omega) (by unfold z_bi; omega) (by unfold z_bi; omega) (by unfold z_bi; omega)
  have hWd : z_WA (z_dp A) := z_WA_dp (P := A.2.1) hw (Nat.le_refl _) hwf hw.2.1.2
  have h7 : z_CM (z_ur (z_up m 0 13 0) 7 (m4 7)) sn sp (z_dp A) := z_CM_7 hWd (fun a ha => z_ur_n ha) hD
  have fr5 : ∀ a, a ≠ 9 → (a < z_pid sn ∨ z_pid sn + 179 ≤ a) → m4 a = z_ur (z_up m 0 13 0) 7 (m4 7) a := fun a _ ha => by
    by_cases g : a = 7
    · rw [g, z_ur_s]
    · rw [z_ur_n g, fr4 a g (by unfold z_bi; omega) (by unfold z_bi; omega) (by unfold z_bi; omega) (by unfold z_bi; omega), fr3 a ha]
  have f14 : m4 (z_pid sn) 14 = 0 := by rw [fr4 _ (by omega) (by unfold z_bi; omega) (by unfold z_bi; omega) (by unfold z_bi; omega) (by unfold z_bi; omega)]; exact f3
  refine ⟨m4, ?_, z_CM_now (A := z_dp A) hWd hI h7 fr5 ⟨z_cpX_b x4 cb4, Or.inl f14, fun g => ?_⟩, fun a ha => ?_⟩
  · rw [e3]
    unfold f137_205
    simp (disch := ((try simp only [true_or, or_true, hX.k0, hX.k1, hX.k2, hX.k3, hX.k4, hX.k5, hX.k6, hX.k7, hX.l2, hX.l3, hX.l4, hX.l5, hX.l6, hX.l7, hp.k, hp.k1, hp.k2, hp.k3, hp.k4, hp.k5, hp.k6, hp.k7, hp.k8, hp.k9, hp.k10, hp.l1, hp.l2, hp.l3, hp.l4, hp.l5, hp.l6, hp.l7, hp.l8, hp.l9, hp.l10]) <;> (try omega))) only [↓reduceIte, ↓z_ite, ↓zR, ↓zB_R, ↓zB_B, ↓zB_ite, ↓zB_gI, ↓zB_pI, ↓zB_pZ, ↓zB_aK, ↓zB_G, ↓zB_lI, ↓zB_lZ, ↓zB_wI, ↓zB_wZ, ↓zB_lIl, ↓zB_wIl, zB_pI, zB_pZ, zB_lI, zB_lZ, zB_wI, zB_wZ, z_addl, z_ladd, z_mull, z_lmul, nI_add, z_subl, Nat.not_lt_zero, z_10, z_01, z_bitc, z_b0, z_b1, ↓zB_Gb, ↓zB_G0, ↓zB_G1, z_eql, z_leq, z_ltl, z_llt, z_eq, z_lt, z_m1lt, hX.k0, hX.k1, hX.k2, hX.k3, hX.k4, hX.k5, hX.k6, hX.k7, hX.l2, hX.l3, hX.l4, hX.l5, hX.l6, hX.l7, hp.k, hp.k1, hp.k2, hp.k3, hp.k4, hp.k5, hp.k6, hp.k7, hp.k8, hp.k9, hp.k10, hp.l1, hp.l2, hp.l3, hp.l4, hp.l5, hp.l6, hp.l7, hp.l8, hp.l9, hp.l10, ↓hX.g0_0, ↓hX.g0_1, ↓hX.g0_2, ↓hX.g0_3, ↓hX.g0_4, ↓hX.g0_5, ↓hX.g0_6, ↓hX.g0_7, ↓hX.g0_8, ↓hX.g0_9, ↓hX.g1_0, ↓hX.g1_1, ↓hX.g1_2, ↓hX.g1_3, ↓hX.g1_4, ↓hX.g1_5, ↓hp.g0, ↓hp.g1, ↓hp.g2, ↓hp.g3, ↓hp.g4, ↓hp.g5, ↓hp.g6, ↓hp.g7, ↓hp.g8, ↓hp.g9, ↓hp.gb, hp.gb, ↓z_gnow hX hn, z_gnow hX hn, h24, ↓zB_c e122, zB_c e122]
  · rw [f14] at g; exact absurd g (by decide)
  · rw [fr5 a (by omega) (by unfold z_pid; omega), z_ur_n (by omega), z_up_row (by omega)]
theorem c_method (hw : z_WA A) (h : z_CR S m A) (c n x y t i : Int32) : ∃ S1 m1, f137 0 c n x y t i (z_hp S m) = some ((z_omethod A c n x y t i).1, z_hp S1 m1) ∧ z_CR S1 m1 (z_omethod A c n x y t i).2 ∧ z_SS S S1 ∧ ∀ a, 2390 ≤ a → m1 a = m a := by
  have h0 := h
  obtain ⟨sn, sx, sp, hI, hCM⟩ := h0
  have hX := hI.1
  have hs := hI.2.2.2.1.1
  have lo := z_pid_lo sn
  have hp := hI.2.2.1 sn hs
  have hn := hI.2.2.2.2.2.1
  have hc := hCM.2.2.1.1.1
  have hT := hCM.2.1
  have hwf := hw.2.1.1
  have h6 := hwf.1.1
  have hle := hw.1.1
  have hp2 := z_pct_le x y
  have ex := f170_sp (S := S) (m := m) x
  have ey := f170_sp (S := S) (m := m) y
  have ref : ∀ E, f137 0 c n x y t i (z_hp S m) = some (.inr E, z_hp (z_Sx S) m) → ∃ S1 m1, f137 0 c n x y t i (z_hp S m) = some ((((.inr E, A) : (Int32 ⊕ Nat) × z_A)).1, z_hp S1 m1) ∧ z_CR S1 m1 (((.inr E, A) : (Int32 ⊕ Nat) × z_A)).2 ∧ z_SS S S1 ∧ ∀ a, 2390 ≤ a → m1 a = m a := fun E e => ⟨z_Sx S, m, e, z_CR_x h, z_SS.x S, fun _ _ => rfl⟩
  unfold z_omethod
  by_cases g1 : z_in c (z_nc A.2.1) = false
  · rw [if_pos g1]
    refine ref 2 ?_
    unfold f137
    simp (disch := ((try simp only [true_or, or_true, hX.k0, hX.k1, hX.k2, hX.k3, hX.k4, hX.k5, hX.k6, hX.k7, hX.l2, hX.l3, hX.l4, hX.l5, hX.l6, hX.l7]) <;> (try omega))) only [↓reduceIte, ↓z_ite, ↓zR, ↓zB_R, ↓zB_B, ↓zB_ite, ↓zB_gI, ↓zB_pI, ↓zB_pZ, ↓zB_aK, ↓zB_G, ↓zB_lI, ↓zB_lZ, ↓zB_wI, ↓zB_wZ, ↓zB_lIl, ↓zB_wIl, zB_pI, zB_pZ, zB_lI, zB_lZ, zB_wI, zB_wZ, z_addl, z_ladd, z_mull, z_lmul, nI_add, z_subl, Nat.not_lt_zero, z_10, z_01, z_bitc, z_b0, z_b1, ↓zB_Gb, ↓zB_G0, ↓zB_G1, z_eql, z_leq, z_ltl, z_llt, z_eq, z_lt, z_m1lt, hX.k0, hX.k1, hX.k2, hX.k3, hX.k4, hX.k5, hX.k6, hX.k7, hX.l2, hX.l3, hX.l4, hX.l5, hX.l6, hX.l7, ↓hX.g0_0, ↓hX.g0_1, ↓hX.g0_2, ↓hX.g0_3, ↓hX.g0_4, ↓hX.g0_5, ↓hX.g0_6, ↓hX.g0_7, ↓hX.g0_8, ↓hX.g0_9, ↓hX.g1_0, ↓hX.g1_1, ↓hX.g1_2, ↓hX.g1_3, ↓hX.g1_4, ↓hX.g1_5, ↓zT_r (f162_n hX hn hp hc g1), zT_r (f162_n hX hn hp hc g1)]
  rw [if_neg g1]
  have e1 := f162_y hX hn hp hc (z_not_false g1)
  by_cases g2 : z_tyb (z_nc A.2.1) (z_pty x) = false
  · rw [if_pos g2]
    refine ref 2 ?_
    unfold f137
    simp (disch := ((try simp only [true_or, or_true, hX.k0, hX.k1, hX.k2, hX.k3, hX.k4, hX.k5, hX.k6, hX.k7, hX.l2, hX.l3, hX.l4, hX.l5, hX.l6, hX.l7]) <;> (try omega))) only [↓reduceIte, ↓z_ite, ↓zR, ↓zB_R, ↓zB_B, ↓zB_ite, ↓zB_gI, ↓zB_pI, ↓zB_pZ, ↓zB_aK, ↓zB_G, ↓zB_lI, ↓zB_lZ, ↓zB_wI, ↓zB_wZ, ↓zB_lIl, ↓zB_wIl, zB_pI, zB_pZ, zB_lI, zB_lZ, zB_wI, zB_wZ, z_addl, z_ladd, z_mull, z_lmul, nI_add, z_subl, Nat.not_lt_zero, z_10, z_01, z_bitc, z_b0, z_b1, ↓zB_Gb, ↓zB_G0, ↓zB_G1, z_eql, z_leq, z_ltl, z_llt, z_eq, z_lt, z_m1lt, hX.k0, hX.k1, hX.k2, hX.k3, hX.k4, hX.k5, hX.k6, hX.k7, hX.l2, hX.l3, hX.l4, hX.l5, hX.l6, hX.l7, ↓hX.g0_0, ↓hX.g0_1, ↓hX.g0_2, ↓hX.g0_3, ↓hX.g0_4, ↓hX.g0_5, ↓hX.g0_6, ↓hX.g0_7, ↓hX.g0_8, ↓hX.g0_9, ↓hX.g1_0, ↓hX.g1_1, ↓hX.g1_2, ↓hX.g1_3, ↓hX.g1_4, ↓hX.g1_5, ↓zT_l e1, zT_l e1, ↓zB_c ex, zB_c ex, ↓zT_r (f163_n hX hn hp hc g2), zT_r (f163_n hX hn hp hc g2)]
  rw [if_neg g2]
  have e2 := f163_y hX hn hp hc (z_not_false g2)
  by_cases g3 : z_tyb (z_nc A.2.1) (z_pty y) = false
  · rw [if_pos g3]
    refine ref 2 ?_
    unfold f137
    simp (disch := ((try simp only [true_or, or_true, hX.k0, hX.k1, hX.k2, hX.k3, hX.k4, hX.k5, hX.k6, hX.k7, hX.l2, hX.l3, hX.l4, hX.l5, hX.l6, hX.l7]) <;> (try omega))) only [↓reduceIte, ↓z_ite, ↓zR, ↓zB_R, ↓zB_B, ↓zB_ite, ↓zB_gI, ↓zB_pI, ↓zB_pZ, ↓zB_aK, ↓zB_G, ↓zB_lI, ↓zB_lZ, ↓zB_wI, ↓zB_wZ, ↓zB_lIl, ↓zB_wIl, zB_pI, zB_pZ, zB_lI, zB_lZ, zB_wI, zB_wZ, z_addl, z_ladd, z_mull, z_lmul, nI_add, z_subl, Nat.not_lt_zero, z_10, z_01, z_bitc, z_b0, z_b1, ↓zB_Gb, ↓zB_G0, ↓zB_G1, z_eql, z_leq, z_ltl, z_llt, z_eq, z_lt, z_m1lt, hX.k0, hX.k1, hX.k2, hX.k3, hX.k4, hX.k5, hX.k6, hX.k7, hX.l2, hX.l3, hX.l4, hX.l5, hX.l6, hX.l7, ↓hX.g0_0, ↓hX.g0_1, ↓hX.g0_2, ↓hX.g0_3, ↓hX.g0_4, ↓hX.g0_5, ↓hX.g0_6, ↓hX.g0_7, ↓hX.g0_8, ↓hX.g0_9, ↓hX.g1_0, ↓hX.g1_1, ↓hX.g1_2, ↓hX.g1_3, ↓hX.g1_4, ↓hX.g1_5, ↓zT_l e1, zT_l e1, ↓zB_c ex, zB_c ex, ↓zT_l e2, zT_l e2, ↓zB_c ey, zB_c ey, ↓zT_r (f163_n hX hn hp hc g3), zT_r (f163_n hX hn hp hc g3)]
  rw [if_neg g3]
  have e3 := f163_y hX hn hp hc (z_not_false g3)
  by_cases g4 : z_tyb (z_nc A.2.1) t = false
  · rw [if_pos g4]
    refine ref 2 ?_
    unfold f137
    simp (disch := ((try simp only [true_or, or_true, hX.k0, hX.k1, hX.k2, hX.k3, hX.k4, hX.k5, hX.k6, hX.k7, hX.l2, hX.l3, hX.l4, hX.l5, hX.l6, hX.l7]) <;> (try omega))) only [↓reduceIte, ↓z_ite, ↓zR, ↓zB_R, ↓zB_B, ↓zB_ite, ↓zB_gI, ↓zB_pI, ↓zB_pZ, ↓zB_aK, ↓zB_G, ↓zB_lI, ↓zB_lZ, ↓zB_wI, ↓zB_wZ, ↓zB_lIl, ↓zB_wIl, zB_pI, zB_pZ, zB_lI, zB_lZ, zB_wI, zB_wZ, z_addl, z_ladd, z_mull, z_lmul, nI_add, z_subl, Nat.not_lt_zero, z_10, z_01, z_bitc, z_b0, z_b1, ↓zB_Gb, ↓zB_G0, ↓zB_G1, z_eql, z_leq, z_ltl, z_llt, z_eq, z_lt, z_m1lt, hX.k0, hX.k1, hX.k2, hX.k3, hX.k4, hX.k5, hX.k6, hX.k7, hX.l2, hX.l3, hX.l4, hX.l5, hX.l6, hX.l7, ↓hX.g0_0, ↓hX.g0_1, ↓hX.g0_2, ↓hX.g0_3, ↓hX.g0_4, ↓hX.g0_5, ↓hX.g0_6, ↓hX.g0_7, ↓hX.g0_8, ↓hX.g0_9, ↓hX.g1_0, ↓hX.g1_1, ↓hX.g1_2, ↓hX.g1_3, ↓hX.g1_4, ↓hX.g1_5, ↓zT_l e1, zT_l e1, ↓zB_c ex, zB_c ex, ↓zT_l e2, zT_l e2, ↓zB_c ey, zB_c ey, ↓zT_l e3, zT_l e3, ↓zT_r (f163_n hX hn hp hc g4), zT_r (f163_n hX hn hp hc g4)]
  rw [if_neg g4]
  have e4 := f163_y hX hn hp hc (z_not_false g4)
  by_cases g5 : z_in i A.1.length = false
  · rw [if_pos g5]
    refine ref 2 ?_
    unfold f137
    simp (disch := ((try simp only [true_or, or_true, hX.k0, hX.k1, hX.k2, hX.k3, hX.k4, hX.k5, hX.k6, hX.k7, hX.l2, hX.l3, hX.l4, hX.l5, hX.l6, hX.l7]) <;> (try omega))) only [↓reduceIte, ↓z_ite, ↓zR, ↓zB_R, ↓zB_B, ↓zB_ite, ↓zB_gI, ↓zB_pI, ↓zB_pZ, ↓zB_aK, ↓zB_G, ↓zB_lI, ↓zB_lZ, ↓zB_wI, ↓zB_wZ, ↓zB_lIl, ↓zB_wIl, zB_pI, zB_pZ, zB_lI, zB_lZ, zB_wI, zB_wZ, z_addl, z_ladd, z_mull, z_lmul, nI_add, z_subl, Nat.not_lt_zero, z_10, z_01, z_bitc, z_b0, z_b1, ↓zB_Gb, ↓zB_G0, ↓zB_G1, z_eql, z_leq, z_ltl, z_llt, z_eq, z_lt, z_m1lt, hX.k0, hX.k1, hX.k2, hX.k3, hX.k4, hX.k5, hX.k6, hX.k7, hX.l2, hX.l3, hX.l4, hX.l5, hX.l6, hX.l7, ↓hX.g0_0, ↓hX.g0_1, ↓hX.g0_2, ↓hX.g0_3, ↓hX.g0_4, ↓hX.g0_5, ↓hX.g0_6, ↓hX.g0_7, ↓hX.g0_8, ↓hX.g0_9, ↓hX.g1_0, ↓hX.g1_1, ↓hX.g1_2, ↓hX.g1_3, ↓hX.g1_4, ↓hX.g1_5, ↓zT_l e1, zT_l e1, ↓zB_c ex, zB_c ex, ↓zT_l e2, zT_l e2, ↓zB_c ey, zB_c ey, ↓zT_l e3, zT_l e3, ↓zT_l e4, zT_l e4, ↓zT_r (f158_n hX hT hw.1 g5), zT_r (f158_n hX hT hw.1 g5)]
  rw [if_neg g5]
  obtain ⟨i', hi, rfl⟩ := (z_in_iff (by omega)).mp (z_not_false g5)
  have e5 := f158_y hX hT hw.1 hi
  by_cases g6 : z_in n 16 = false
  · rw [if_pos g6]
    refine ref 1 ?_
    unfold f137
    simp (disch := ((try simp only [true_or, or_true, hX.k0, hX.k1, hX.k2, hX.k3, hX.k4, hX.k5, hX.k6, hX.k7, hX.l2, hX.l3, hX.l4, hX.l5, hX.l6, hX.l7]) <;> (try omega))) only [↓reduceIte, ↓z_ite, ↓zR, ↓zB_R, ↓zB_B, ↓zB_ite, ↓zB_gI, ↓zB_pI, ↓zB_pZ, ↓zB_aK, ↓zB_G, ↓zB_lI, ↓zB_lZ, ↓zB_wI, ↓zB_wZ, ↓zB_lIl, ↓zB_wIl, zB_pI, zB_pZ, zB_lI, zB_lZ, zB_wI, zB_wZ, z_addl, z_ladd, z_mull, z_lmul, nI_add, z_subl, Nat.not_lt_zero, z_10, z_01, z_bitc, z_b0, z_b1, ↓zB_Gb, ↓zB_G0, ↓zB_G1, z_eql, z_leq, z_ltl, z_llt, z_eq, z_lt, z_m1lt, hX.k0, hX.k1, hX.k2, hX.k3, hX.k4, hX.k5, hX.k6, hX.k7, hX.l2, hX.l3, hX.l4, hX.l5, hX.l6, hX.l7, ↓hX.g0_0, ↓hX.g0_1, ↓hX.g0_2, ↓hX.g0_3, ↓hX.g0_4, ↓hX.g0_5, ↓hX.g0_6, ↓hX.g0_7, ↓hX.g0_8, ↓hX.g0_9, ↓hX.g1_0, ↓hX.g1_1, ↓hX.g1_2, ↓hX.g1_3, ↓hX.g1_4, ↓hX.g1_5, ↓zT_l e1, zT_l e1, ↓zB_c ex, zB_c ex, ↓zT_l e2, zT_l e2, ↓zB_c ey, zB_c ey, ↓zT_l e3, zT_l e3, ↓zT_l e4, zT_l e4, ↓zT_l e5, zT_l e5, ↓zT_r (f160_n g6), zT_r (f160_n g6)]
  rw [if_neg g6]
  obtain ⟨n', hn', rfl⟩ := (z_in_iff (by decide)).mp (z_not_false g6)
  have e6 := f160_y (S := S) (m := m) hn'
  by_cases g7 : z_pno x y = true
  · rw [if_pos g7]
    refine ref 1 ?_
    unfold f137
    simp (disch := ((try simp only [true_or, or_true, hX.k0, hX.k1, hX.k2, hX.k3, hX.k4, hX.k5, hX.k6, hX.k7, hX.l2, hX.l3, hX.l4, hX.l5, hX.l6, hX.l7]) <;> (try omega))) only [↓reduceIte, ↓z_ite, ↓zR, ↓zB_R, ↓zB_B, ↓zB_ite, ↓zB_gI, ↓zB_pI, ↓zB_pZ, ↓zB_aK, ↓zB_G, ↓zB_lI, ↓zB_lZ, ↓zB_wI, ↓zB_wZ, ↓zB_lIl, ↓zB_wIl, zB_pI, zB_pZ, zB_lI, zB_lZ, zB_wI, zB_wZ, z_addl, z_ladd, z_mull, z_lmul, nI_add, z_subl, Nat.not_lt_zero, z_10, z_01, z_bitc, z_b0, z_b1, ↓zB_Gb, ↓zB_G0, ↓zB_G1, z_eql, z_leq, z_ltl, z_llt, z_eq, z_lt, z_m1lt, hX.k0, hX.k1, hX.k2, hX.k3, hX.k4, hX.k5, hX.k6, hX.k7, hX.l2, hX.l3, hX.l4, hX.l5, hX.l6, hX.l7, ↓hX.g0_0, ↓hX.g0_1, ↓hX.g0_2, ↓hX.g0_3, ↓hX.g0_4, ↓hX.g0_5, ↓hX.g0_6, ↓hX.g0_7, ↓hX.g0_8, ↓hX.g0_9, ↓hX.g1_0, ↓hX.g1_1, ↓hX.g1_2, ↓hX.g1_3, ↓hX.g1_4, ↓hX.g1_5, ↓zT_l e1, zT_l e1, ↓zB_c ex, zB_c ex, ↓zT_l e2, zT_l e2, ↓zB_c ey, zB_c ey, ↓zT_l e3, zT_l e3, ↓zT_l e4, zT_l e4, ↓zT_l e5, zT_l e5, ↓zT_l e6, zT_l e6, ↓zT_r (f164_n g7), zT_r (f164_n g7)]
  rw [if_neg g7]
  have e7 := f164_y (S := S) (m := m) (show z_pno x y = false by simpa using g7)
  obtain ⟨c', hc', rfl⟩ := (z_in_iff (by omega)).mp (z_not_false g1)
  rw [nI_clamp (show i' < 2 ^ 31 by omega), nI_clamp (show c' < 2 ^ 31 by omega)]
  have start : f137 0 (nI c') (nI n') x y t (nI i') (z_hp S m) = f137_66 0 (nI c') (nI n') x y t (nI i') (nI (z_pct x y)) (z_hp S m) := by
    unfold f137 z_pct
    by_cases gy : y = -1
    · by_cases gx : x = -1
      · rw [if_pos gy, if_pos gx]
        simp (disch := ((try simp only [true_or, or_true, hX.k0, hX.k1, hX.k2, hX.k3, hX.k4, hX.k5, hX.k6, hX.k7, hX.l2, hX.l3, hX.l4, hX.l5, hX.l6, hX.l7]) <;> (try omega))) only [↓reduceIte, ↓z_ite, ↓zR, ↓zB_R, ↓zB_B, ↓zB_ite, ↓zB_gI, ↓zB_pI, ↓zB_pZ, ↓zB_aK, ↓zB_G, ↓zB_lI, ↓zB_lZ, ↓zB_wI, ↓zB_wZ, ↓zB_lIl, ↓zB_wIl, zB_pI, zB_pZ, zB_lI, zB_lZ, zB_wI, zB_wZ, z_addl, z_ladd, z_mull, z_lmul, nI_add, z_subl, Nat.not_lt_zero, z_10, z_01, z_bitc, z_b0, z_b1, ↓zB_Gb, ↓zB_G0, ↓zB_G1, z_eql, z_leq, z_ltl, z_llt, z_eq, z_lt, z_m1lt, hX.k0, hX.k1, hX.k2, hX.k3, hX.k4, hX.k5, hX.k6, hX.k7, hX.l2, hX.l3, hX.l4, hX.l5, hX.l6, hX.l7, ↓hX.g0_0, ↓hX.g0_1, ↓hX.g0_2, ↓hX.g0_3, ↓hX.g0_4, ↓hX.g0_5, ↓hX.g0_6, ↓hX.g0_7, ↓hX.g0_8, ↓hX.g0_9, ↓hX.g1_0, ↓hX.g1_1, ↓hX.g1_2, ↓hX.g1_3, ↓hX.g1_4, ↓hX.g1_5, ↓zT_l e1, zT_l e1, ↓zB_c ex, zB_c ex, ↓zT_l e2, zT_l e2, ↓zB_c ey, zB_c ey, ↓zT_l e3, zT_l e3, ↓zT_l e4, zT_l e4, ↓zT_l e5, zT_l e5, ↓zT_l e6, zT_l e6, ↓zT_l e7, zT_l e7, gx, gy]
        rfl
      · rw [if_pos gy, if_neg gx]
        simp (disch := ((try simp only [true_or, or_true, hX.k0, hX.k1, hX.k2, hX.k3, hX.k4, hX.k5, hX.k6, hX.k7, hX.l2, hX.l3, hX.l4, hX.l5, hX.l6, hX.l7]) <;> (try omega))) only [↓reduceIte, ↓z_ite, ↓zR, ↓zB_R, ↓zB_B, ↓zB_ite, ↓zB_gI, ↓zB_pI, ↓zB_pZ, ↓zB_aK, ↓zB_G, ↓zB_lI, ↓zB_lZ, ↓zB_wI, ↓zB_wZ, ↓zB_lIl, ↓zB_wIl, zB_pI, zB_pZ, zB_lI, zB_lZ, zB_wI, zB_wZ, z_addl, z_ladd, z_mull, z_lmul, nI_add, z_subl, Nat.not_lt_zero, z_10, z_01, z_bitc, z_b0, z_b1, ↓zB_Gb, ↓zB_G0, ↓zB_G1, z_eql, z_leq, z_ltl, z_llt, z_eq, z_lt, z_m1lt, hX.k0, hX.k1, hX.k2, hX.k3, hX.k4, hX.k5, hX.k6, hX.k7, hX.l2, hX.l3, hX.l4, hX.l5, hX.l6, hX.l7, ↓hX.g0_0, ↓hX.g0_1, ↓hX.g0_2, ↓hX.g0_3, ↓hX.g0_4, ↓hX.g0_5, ↓hX.g0_6, ↓hX.g0_7, ↓hX.g0_8, ↓hX.g0_9, ↓hX.g1_0, ↓hX.g1_1, ↓hX.g1_2, ↓hX.g1_3, ↓hX.g1_4, ↓hX.g1_5, ↓zT_l e1, zT_l e1, ↓zB_c ex, zB_c ex, ↓zT_l e2, zT_l e2, ↓zB_c ey, zB_c ey, ↓zT_l e3, zT_l e3, ↓zT_l e4, zT_l e4, ↓zT_l e5, zT_l e5, ↓zT_l e6, zT_l e6, ↓zT_l e7, zT_l e7, gx, gy]
        rfl
    · rw [if_neg gy]
      simp (disch := ((try simp only [true_or, or_true, hX.k0, hX.k1, hX.k2, hX.k3, hX.k4, hX.k5, hX.k6, hX.k7, hX.l2, hX.l3, hX.l4, hX.l5, hX.l6, hX.l7]) <;> (try omega))) only [↓reduceIte, ↓z_ite, ↓zR, ↓zB_R, ↓zB_B, ↓zB_ite, ↓zB_gI, ↓zB_pI, ↓zB_pZ, ↓zB_aK, ↓zB_G, ↓zB_lI, ↓zB_lZ, ↓zB_wI, ↓zB_wZ, ↓zB_lIl, ↓zB_wIl, zB_pI, zB_pZ, zB_lI, zB_lZ, zB_wI, zB_wZ, z_addl, z_ladd, z_mull, z_lmul, nI_add, z_subl, Nat.not_lt_zero, z_10, z_01, z_bitc, z_b0, z_b1, ↓zB_Gb, ↓zB_G0, ↓zB_G1, z_eql, z_leq, z_ltl, z_llt, z_eq, z_lt, z_m1lt, hX.k0, hX.k1, hX.k2, hX.k3, hX.k4, hX.k5, hX.k6, hX.k7, hX.l2, hX.l3, hX.l4, hX.l5, hX.l6, hX.l7, ↓hX.g0_0, ↓hX.g0_1, ↓hX.g0_2, ↓hX.g0_3, ↓hX.g0_4, ↓hX.g0_5, ↓hX.g0_6, ↓hX.g0_7, ↓hX.g0_8, ↓hX.g0_9, ↓hX.g1_0, ↓hX.g1_1, ↓hX.g1_2, ↓hX.g1_3, ↓hX.g1_4, ↓hX.g1_5, ↓zT_l e1, zT_l e1, ↓zB_c ex, zB_c ex, ↓zT_l e2, zT_l e2, ↓zB_c ey, zB_c ey, ↓zT_l e3, zT_l e3, ↓zT_l e4, zT_l e4, ↓zT_l e5, zT_l e5, ↓zT_l e6, zT_l e6, ↓zT_l e7, zT_l e7, gy]
      rfl
  have ew : m 6 i' = nI (min 61 (z_ts A.1 i')) := (hT.2 i' hi).2.2.2.2
  by_cases g8 : 60 < z_ts A.1 i'
  · rw [if_pos g8]
    refine ref 0 ?_
    have gw : 60 < min 61 (z_ts A.1 i') := by omega
    rw [start]
    unfold f137_66
    simp (disch := ((try simp only [true_or, or_true, hX.k0, hX.k1, hX.k2, hX.k3, hX.k4, hX.k5, hX.k6, hX.k7, hX.l2, hX.l3, hX.l4, hX.l5, hX.l6, hX.l7, hp.k, hp.k1, hp.k2, hp.k3, hp.k4, hp.k5, hp.k6, hp.k7, hp.k8, hp.k9, hp.k10, hp.l1, hp.l2, hp.l3, hp.l4, hp.l5, hp.l6, hp.l7, hp.l8, hp.l9, hp.l10]) <;> (try omega))) only [↓reduceIte, ↓z_ite, ↓zR, ↓zB_R, ↓zB_B, ↓zB_ite, ↓zB_gI, ↓zB_pI, ↓zB_pZ, ↓zB_aK, ↓zB_G, ↓zB_lI, ↓zB_lZ, ↓zB_wI, ↓zB_wZ, ↓zB_lIl, ↓zB_wIl, zB_pI, zB_pZ, zB_lI, zB_lZ, zB_wI, zB_wZ, z_addl, z_ladd, z_mull, z_lmul, nI_add, z_subl, Nat.not_lt_zero, z_10, z_01, z_bitc, z_b0, z_b1, ↓zB_Gb, ↓zB_G0, ↓zB_G1, z_eql, z_leq, z_ltl, z_llt, z_eq, z_lt, z_m1lt, hX.k0, hX.k1, hX.k2, hX.k3, hX.k4, hX.k5, hX.k6, hX.k7, hX.l2, hX.l3, hX.l4, hX.l5, hX.l6, hX.l7, hp.k, hp.k1, hp.k2, hp.k3, hp.k4, hp.k5, hp.k6, hp.k7, hp.k8, hp.k9, hp.k10, hp.l1, hp.l2, hp.l3, hp.l4, hp.l5, hp.l6, hp.l7, hp.l8, hp.l9, hp.l10, ↓hX.g0_0, ↓hX.g0_1, ↓hX.g0_2, ↓hX.g0_3, ↓hX.g0_4, ↓hX.g0_5, ↓hX.g0_6, ↓hX.g0_7, ↓hX.g0_8, ↓hX.g0_9, ↓hX.g1_0, ↓hX.g1_1, ↓hX.g1_2, ↓hX.g1_3, ↓hX.g1_4, ↓hX.g1_5, ↓hp.g0, ↓hp.g1, ↓hp.g2, ↓hp.g3, ↓hp.g4, ↓hp.g5, ↓hp.g6, ↓hp.g7, ↓hp.g8, ↓hp.g9, ↓hp.gb, hp.gb, ew, hi, gw, z_thw]
  rw [if_neg g8]
  have gw : ¬ 60 < min 61 (z_ts A.1 i') := by omega
  have e89 := f89_sp hp hc hwf hc' (nI n') (nI (z_pct x y))
  cases hom : z_om A.2.1 c' (nI n') (nI (z_pct x y)) with
  | some q =>
    rw [if_pos (show (some q).isSome = true from rfl)]
    refine ref 0 ?_
    rw [hom] at e89
    have hq := ((z_om_some hwf).mp hom).1
    have h24 := hwf.2.2.1
    have gq : ¬ nI q = -1 := z_nI_m1 (by omega)
    rw [start]
    unfold f137_66
    simp (disch := ((try simp only [true_or, or_true, hX.k0, hX.k1, hX.k2, hX.k3, hX.k4, hX.k5, hX.k6, hX.k7, hX.l2, hX.l3, hX.l4, hX.l5, hX.l6, hX.l7, hp.k, hp.k1, hp.k2, hp.k3, hp.k4, hp.k5, hp.k6, hp.k7, hp.k8, hp.k9, hp.k10, hp.l1, hp.l2, hp.l3, hp.l4, hp.l5, hp.l6, hp.l7, hp.l8, hp.l9, hp.l10]) <;> (try omega))) only [↓reduceIte, ↓z_ite, ↓zR, ↓zB_R, ↓zB_B, ↓zB_ite, ↓zB_gI, ↓zB_pI, ↓zB_pZ, ↓zB_aK, ↓zB_G, ↓zB_lI, ↓zB_lZ, ↓zB_wI, ↓zB_wZ, ↓zB_lIl, ↓zB_wIl, zB_pI, zB_pZ, zB_lI, zB_lZ, zB_wI, zB_wZ, z_addl, z_ladd, z_mull, z_lmul, nI_add, z_subl, Nat.not_lt_zero, z_10, z_01, z_bitc, z_b0, z_b1, ↓zB_Gb, ↓zB_G0, ↓zB_G1, z_eql, z_leq, z_ltl, z_llt, z_eq, z_lt, z_m1lt, hX.k0, hX.k1, hX.k2, hX.k3, hX.k4, hX.k5, hX.k6, hX.k7, hX.l2, hX.l3, hX.l4, hX.l5, hX.l6, hX.l7, hp.k, hp.k1, hp.k2, hp.k3, hp.k4, hp.k5, hp.k6, hp.k7, hp.k8, hp.k9, hp.k10, hp.l1, hp.l2, hp.l3, hp.l4, hp.l5, hp.l6, hp.l7, hp.l8, hp.l9, hp.l10, ↓hX.g0_0, ↓hX.g0_1, ↓hX.g0_2, ↓hX.g0_3, ↓hX.g0_4, ↓hX.g0_5, ↓hX.g0_6, ↓hX.g0_7, ↓hX.g0_8, ↓hX.g0_9, ↓hX.g1_0, ↓hX.g1_1, ↓hX.g1_2, ↓hX.g1_3, ↓hX.g1_4, ↓hX.g1_5, ↓hp.g0, ↓hp.g1, ↓hp.g2, ↓hp.g3, ↓hp.g4, ↓hp.g5, ↓hp.g6, ↓hp.g7, ↓hp.g8, ↓hp.g9, ↓hp.gb, hp.gb, ew, hi, gw, ↓z_gnow hX hn, z_gnow hX hn, ↓zB_c e89, zB_c e89, z_oI, gq, z_thw]
  | none =>
    rw [if_neg (by simp)]
    by_cases g9 : z_nm A.2.1 < 24
    · rw [if_pos g9]
      obtain ⟨m1, e, c1, fr⟩ := f137_tail hw hI hCM g9 (n := n') (t := t) hi (by omega) hc' hom
      exact ⟨S, m1, start.trans e, ⟨sn, sx, sp, hI, c1⟩, z_SS.refl S, fr⟩
    · rw [if_neg g9]
      refine ref 0 ?_
      rw [hom] at e89
      have e11 : m (z_pid sn) 11 = nI (z_nm A.2.1) := hc.2.1.1
      have h24 := hwf.2.2.1
      rw [start]
      unfold f137_66
      simp (disch := ((try simp only [true_or, or_true, hX.k0, hX.k1, hX.k2, hX.k3, hX.k4, hX.k5, hX.k6, hX.k7, hX.l2, hX.l3, hX.l4, hX.l5, hX.l6, hX.l7, hp.k, hp.k1, hp.k2, hp.k3, hp.k4, hp.k5, hp.k6, hp.k7, hp.k8, hp.k9, hp.k10, hp.l1, hp.l2, hp.l3, hp.l4, hp.l5, hp.l6, hp.l7, hp.l8, hp.l9, hp.l10]) <;> (try omega))) only [↓reduceIte, ↓z_ite, ↓zR, ↓zB_R, ↓zB_B, ↓zB_ite, ↓zB_gI, ↓zB_pI, ↓zB_pZ, ↓zB_aK, ↓zB_G, ↓zB_lI, ↓zB_lZ, ↓zB_wI, ↓zB_wZ, ↓zB_lIl, ↓zB_wIl, zB_pI, zB_pZ, zB_lI, zB_lZ, zB_wI, zB_wZ, z_addl, z_ladd, z_mull, z_lmul, nI_add, z_subl, Nat.not_lt_zero, z_10, z_01, z_bitc, z_b0, z_b1, ↓zB_Gb, ↓zB_G0, ↓zB_G1, z_eql, z_leq, z_ltl, z_llt, z_eq, z_lt, z_m1lt, hX.k0, hX.k1, hX.k2, hX.k3, hX.k4, hX.k5, hX.k6, hX.k7, hX.l2, hX.l3, hX.l4, hX.l5, hX.l6, hX.l7, hp.k, hp.k1, hp.k2, hp.k3, hp.k4, hp.k5, hp.k6, hp.k7, hp.k8, hp.k9, hp.k10, hp.l1, hp.l2, hp.l3, hp.l4, hp.l5, hp.l6, hp.l7, hp.l8, hp.l9, hp.l10, ↓hX.g0_0, ↓hX.g0_1, ↓hX.g0_2, ↓hX.g0_3, ↓hX.g0_4, ↓hX.g0_5, ↓hX.g0_6, ↓hX.g0_7, ↓hX.g0_8, ↓hX.g0_9, ↓hX.g1_0, ↓hX.g1_1, ↓hX.g1_2, ↓hX.g1_3, ↓hX.g1_4, ↓hX.g1_5, ↓hp.g0, ↓hp.g1, ↓hp.g2, ↓hp.g3, ↓hp.g4, ↓hp.g5, ↓hp.g6, ↓hp.g7, ↓hp.g8, ↓hp.g9, ↓hp.gb, hp.gb, ew, hi, gw, ↓z_gnow hX hn, z_gnow hX hn, ↓zB_c e89, zB_c e89, z_oI, e11, g9, z_thw]
end
