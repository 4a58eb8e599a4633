-- deps: 90.41.enc
/-! a field hidden: the class, its loops -/
section
variable {S : z_S} {m : z_m} {p q : Nat} {P : z_Pg} {A : z_A}
noncomputable def z_enc (P : z_Pg) (c f j i : Nat) : Bool := z_rfb P c f j i && (!z_isV (z_bd P j) i && !z_isT (z_bd P j) i)
noncomputable def z_enN (P : z_Pg) (c f : Nat) (g s : Int32) (j i : Nat) : z_N := if z_enc P c f j i = true then (if z_k (z_bd P j) i = 3 then (7, g, 0) else (7, s, 1)) else z_at (z_bd P j) i
noncomputable def z_enD (P : z_Pg) (c f : Nat) (g s : Int32) (j : Nat) : List z_N := z_lm (z_enN P c f g s j) (z_bd P j).length
noncomputable def z_enK (P : z_Pg) (c f : Nat) (n : Nat) : Nat := z_sl P (fun j => z_ct (z_enc P c f j) (z_bd P j).length) n
theorem z_enc_k {c f j i : Nat} (h : z_enc P c f j i = true) : z_k (z_bd P j) i = 3 ∨ z_k (z_bd P j) i = 4 := by
  unfold z_enc at h
  simp only [Bool.and_eq_true, Bool.not_eq_true'] at h
  rcases z_rfb_k h.1 with q | q | q | q
  · have := h.2.1; unfold z_isV at this; rw [q] at this; cases this
  · have := h.2.1; unfold z_isV at this; rw [q] at this; cases this
  · exact Or.inl q
  · exact Or.inr q
theorem z_enN_p {c f j i : Nat} {g s : Int32} : z_pn (z_enN P c f g s j i).1 (z_enN P c f g s j i).2.2 = z_p (z_bd P j) i := by
  unfold z_enN
  by_cases h : z_enc P c f j i = true
  · rw [if_pos h]
    rcases z_enc_k h with q | q
    · rw [if_pos q]; unfold z_p; rw [q]; rfl
    · rw [if_neg (by rw [q]; decide)]; unfold z_p; rw [q]; rfl
  · rw [if_neg h]; rfl
theorem f67_173_sp (hp : z_PS S p) (hq : z_PS S q) (hpq : p + 179 ≤ q ∨ q + 179 ≤ p) (h : z_cp m p P) (ht : z_LT m p P) (hw : z_wf P) {c f j : Nat} (hj : j < z_nm P) (hl : z_liv P j = true) {g s : Int32} (hcb : z_cb m (z_bi q j) 60 (z_bd P j)) (c0 : Nat) (hc0 : c0 < 1000000) : ∃ m', f67_173 p q (nI c) (nI f) g s (nI c0) (nI j) (z_bi p j) 0 (z_hp S m) = some (.inl (p, q, nI c, nI f, g, s, nI (c0 + z_ct (z_enc P c f j) (z_bd P j).length), nI (j + 1)), z_hp S m') ∧ z_cb m' (z_bi q j) 60 (z_enD P c f g s j) ∧ ∀ a, a ≠ z_bi q j + 1 → a ≠ z_bi q j + 2 → m' a = m a := by
  have h24 := hw.2.2.1
  have hbp := hp.B (k := j) (by omega)
  have hbpk := hbp.k
  have hbq := hq.B (k := j) (by omega)
  obtain ⟨c6, c7, cl, cR, cn⟩ := h.2.2.2 j hj hl
  have hT := (ht j hj hl).2
  have hB := hw.2.2.2.2.1 j hj
  unfold f67_173
  have key := z_loopI (f := fun s => f67_173b (s.1) (s.2.1) (s.2.2.1) (s.2.2.2.1) (s.2.2.2.2.1) (s.2.2.2.2.2.1) (s.2.2.2.2.2.2.1) (s.2.2.2.2.2.2.2.1) (s.2.2.2.2.2.2.2.2.1) (s.2.2.2.2.2.2.2.2.2)) (S := S) (fun n st m' => ∃ i, n = (z_bd P j).length - i ∧ i ≤ (z_bd P j).length ∧ st = (p, q, nI c, nI f, g, s, nI (c0 + z_ct (z_enc P c f j) i), nI j, z_bi p j, nI i) ∧ z_cb m' (z_bi q j) 60 (z_lm (fun i' => if i' < i then z_enN P c f g s j i' else z_at (z_bd P j) i') (z_bd P j).length) ∧ ∀ a, a ≠ z_bi q j + 1 → a ≠ z_bi q j + 2 → m' a = m a) (fun r m' => r = .inl (p, q, nI c, nI f, g, s, nI (c0 + z_ct (z_enc P c f j) (z_bd P j).length), nI (j + 1)) ∧ z_cb m' (z_bi q j) 60 (z_enD P c f g s j) ∧ ∀ a, a ≠ z_bi q j + 1 → a ≠ z_bi q j + 2 → m' a = m a) ?_ 1000000 (z_bd P j).length (p, q, nI c, nI f, g, s, nI c0, nI j, z_bi p j, 0) m ⟨0, rfl, Nat.zero_le _, rfl, by
    have : z_lm (fun i' => if i' < 0 then z_enN P c f g s j i' else z_at (z_bd P j) i') (z_bd P j).length = z_bd P j := by
      rw [z_lm_congr (h := z_at (z_bd P j)) (fun i _ => if_neg (by omega)), z_lm_id]
    rw [this]; exact hcb, fun _ _ _ => rfl⟩ (by omega)
  · obtain ⟨r, m', e, rfl, g⟩ := key
    exact ⟨m', e, g⟩
  · rintro n st m1 ⟨i, rfl, hi, rfl, g1, g2⟩
    have hap : ∀ a, z_bi p j ≤ a → a ≤ z_bi p j + 6 → m1 a = m a := fun a x1 x2 => g2 a (by unfold z_bi at *; omega) (by unfold z_bi at *; omega)
    have hb1 : z_cb m1 (z_bi p j) 60 (z_bd P j) := z_cb_fr (fun a x1 x2 => hap a x1 (by omega)) ⟨c6, c7, cl, cR, cn⟩
    have c71 := hb1.2.1
    have hcl := z_ct_le (s := z_enc P c f j) i
    have hlen : (z_bd P j).length ≤ 60 := cl
    dsimp only
    rcases Nat.eq_or_lt_of_le hi with hi2 | hi2
    · refine Or.inr ⟨_, m1, ?_, rfl, ?_, g2⟩
      · unfold f67_173b f67_275
        rw [hi2]
        simp (disch := ((try simp only [true_or, or_true, hp.k, hp.k1, hp.k2, hp.k3, hp.k4, hp.k5, hp.k6, hp.k7, hp.k8, hp.k9, hp.k10, hp.l1, hp.l2, hp.l3, hp.l4, hp.l5, hp.l6, hp.l7, hp.l8, hp.l9, hp.l10, hq.k, hq.k1, hq.k2, hq.k3, hq.k4, hq.k5, hq.k6, hq.k7, hq.k8, hq.k9, hq.k10, hq.l1, hq.l2, hq.l3, hq.l4, hq.l5, hq.l6, hq.l7, hq.l8, hq.l9, hq.l10, hbp.k, hbp.k1, hbp.k2, hbp.k3, hbp.k4, hbp.k5, hbp.k6, hbp.l1, hbp.l2, hbp.l3, hbp.l4, hbp.l5, hbp.l6, hbq.k, hbq.k1, hbq.k2, hbq.k3, hbq.k4, hbq.k5, hbq.k6, hbq.l1, hbq.l2, hbq.l3, hbq.l4, hbq.l5, hbq.l6]) <;> (try omega))) only [↓reduceIte, ↓z_ite, ↓zR, ↓zB_R, ↓zB_B, ↓zB_ite, ↓zB_gI, ↓zB_pI, ↓zB_pZ, ↓zB_aK, ↓zB_G, ↓zB_lI, ↓zB_lZ, ↓zB_wI, ↓zB_wZ, ↓zB_lIl, ↓zB_wIl, zB_pI, zB_pZ, zB_lI, zB_lZ, zB_wI, zB_wZ, z_addl, z_ladd, z_mull, z_lmul, nI_add, z_subl, Nat.not_lt_zero, z_10, z_01, z_bitc, z_b0, z_b1, ↓zB_Gb, ↓zB_G0, ↓zB_G1, z_eql, z_leq, z_ltl, z_llt, z_eq, z_lt, z_m1lt, hp.k, hp.k1, hp.k2, hp.k3, hp.k4, hp.k5, hp.k6, hp.k7, hp.k8, hp.k9, hp.k10, hp.l1, hp.l2, hp.l3, hp.l4, hp.l5, hp.l6, hp.l7, hp.l8, hp.l9, hp.l10, hq.k, hq.k1, hq.k2, hq.k3, hq.k4, hq.k5, hq.k6, hq.k7, hq.k8, hq.k9, hq.k10, hq.l1, hq.l2, hq.l3, hq.l4, hq.l5, hq.l6, hq.l7, hq.l8, hq.l9, hq.l10, hbp.k, hbp.k1, hbp.k2, hbp.k3, hbp.k4, hbp.k5, hbp.k6, hbp.l1, hbp.l2, hbp.l3, hbp.l4, hbp.l5, hbp.l6, hbq.k, hbq.k1, hbq.k2, hbq.k3, hbq.k4, hbq.k5, hbq.k6, hbq.l1, hbq.l2, hbq.l3, hbq.l4, hbq.l5, hbq.l6, ↓hp.g0, ↓hp.g1, ↓hp.g2, ↓hp.g3, ↓hp.g4, ↓hp.g5, ↓hp.g6, ↓hp.g7, ↓hp.g8, ↓hp.g9, ↓hp.gb, hp.gb, ↓hq.g0, ↓hq.g1, ↓hq.g2, ↓hq.g3, ↓hq.g4, ↓hq.g5, ↓hq.g6, ↓hq.g7, ↓hq.g8, ↓hq.g9, ↓hq.gb, hq.gb, ↓hbp.g0, ↓hbp.g1, ↓hbp.g2, ↓hbp.g3, ↓hbp.g4, ↓hbp.g5, ↓hbq.g0, ↓hbq.g1, ↓hbq.g2, ↓hbq.g3, ↓hbq.g4, ↓hbq.g5, c71, Nat.lt_irrefl]
      · have : z_enD P c f g s j = z_lm (fun i' => if i' < i then z_enN P c f g s j i' else z_at (z_bd P j) i') (z_bd P j).length := z_lm_congr (fun i' hi' => (if_pos (by omega)).symm)
        rw [this]; exact g1
    · have e11 := f11_sp hbp hb1 hi2
      have e16 : f16 (z_bi p j) (nI i) (nI c) (nI f) (z_hp S m1) = some (z_b (z_rfb P c f j i), z_hp S m1) := f16_sp hbp hb1 (B := z_Bd P j) (fun i hi => by rw [hap _ (by omega) (by omega)]; exact (hT i hi).2) hi2 (nI c) (nI f)
      have e18 := f18_sp hbp hb1 hB.1 hi2
      have skip : z_enc P c f j i = false → f67_173b p q (nI c) (nI f) g s (nI (c0 + z_ct (z_enc P c f j) i)) (nI j) (z_bi p j) (nI i) (z_hp S m1) = some (.inl (p, q, nI c, nI f, g, s, nI (c0 + z_ct (z_enc P c f j) i), nI j, z_bi p j, nI (i + 1)), z_hp S m1) := by
        intro gn
        unfold f67_173b f67_269
        unfold z_enc at gn
        cases y1 : z_isV (z_bd P j) i with
        | true =>
          rw [y1] at e11
          simp (disch := ((try simp only [true_or, or_true, hp.k, hp.k1, hp.k2, hp.k3, hp.k4, hp.k5, hp.k6, hp.k7, hp.k8, hp.k9, hp.k10, hp.l1, hp.l2, hp.l3, hp.l4, hp.l5, hp.l6, hp.l7, hp.l8, hp.l9, hp.l10, hq.k, hq.k1, hq.k2, hq.k3, hq.k4, hq.k5, hq.k6, hq.k7, hq.k8, hq.k9, hq.k10, hq.l1, hq.l2, hq.l3, hq.l4, hq.l5, hq.l6, hq.l7, hq.l8, hq.l9, hq.l10, hbp.k, hbp.k1, hbp.k2, hbp.k3, hbp.k4, hbp.k5, hbp.k6, hbp.l1, hbp.l2, hbp.l3, hbp.l4, hbp.l5, hbp.l6, hbq.k, hbq.k1, hbq.k2, hbq.k3, hbq.k4, hbq.k5, hbq.k6, hbq.l1, hbq.l2, hbq.l3, hbq.l4, hbq.l5, hbq.l6, hbpk]) <;> (try omega))) only [↓reduceIte, ↓z_ite, ↓zR, ↓zB_R, ↓zB_B, ↓zB_ite, ↓zB_gI, ↓zB_pI, ↓zB_pZ, ↓zB_aK, ↓zB_G, ↓zB_lI, ↓zB_lZ, ↓zB_wI, ↓zB_wZ, ↓zB_lIl, ↓zB_wIl, zB_pI, zB_pZ, zB_lI, zB_lZ, zB_wI, zB_wZ, z_addl, z_ladd, z_mull, z_lmul, nI_add, z_subl, Nat.not_lt_zero, z_10, z_01, z_bitc, z_b0, z_b1, ↓zB_Gb, ↓zB_G0, ↓zB_G1, z_eql, z_leq, z_ltl, z_llt, z_eq, z_lt, z_m1lt, hp.k, hp.k1, hp.k2, hp.k3, hp.k4, hp.k5, hp.k6, hp.k7, hp.k8, hp.k9, hp.k10, hp.l1, hp.l2, hp.l3, hp.l4, hp.l5, hp.l6, hp.l7, hp.l8, hp.l9, hp.l10, hq.k, hq.k1, hq.k2, hq.k3, hq.k4, hq.k5, hq.k6, hq.k7, hq.k8, hq.k9, hq.k10, hq.l1, hq.l2, hq.l3, hq.l4, hq.l5, hq.l6, hq.l7, hq.l8, hq.l9, hq.l10, hbp.k, hbp.k1, hbp.k2, hbp.k3, hbp.k4, hbp.k5, hbp.k6, hbp.l1, hbp.l2, hbp.l3, hbp.l4, hbp.l5, hbp.l6, hbq.k, hbq.k1, hbq.k2, hbq.k3, hbq.k4, hbq.k5, hbq.k6, hbq.l1, hbq.l2, hbq.l3, hbq.l4, hbq.l5, hbq.l6, hbpk, ↓hp.g0, ↓hp.g1, ↓hp.g2, ↓hp.g3, ↓hp.g4, ↓hp.g5, ↓hp.g6, ↓hp.g7, ↓hp.g8, ↓hp.g9, ↓hp.gb, hp.gb, ↓hq.g0, ↓hq.g1, ↓hq.g2, ↓hq.g3, ↓hq.g4, ↓hq.g5, ↓hq.g6, ↓hq.g7, ↓hq.g8, ↓hq.g9, ↓hq.gb, hq.gb, ↓hbp.g0, ↓hbp.g1, ↓hbp.g2, ↓hbp.g3, ↓hbp.g4, ↓hbp.g5, ↓hbq.g0, ↓hbq.g1, ↓hbq.g2, ↓hbq.g3, ↓hbq.g4, ↓hbq.g5, c71, hi2, ↓zB_c e11, zB_c e11, Bool.true_eq_false]
        | false =>
          rw [y1] at e11
          cases y2 : z_rfb P c f j i with
          | false =>
            rw [y2] at e16
            simp (disch := ((try simp only [true_or, or_true, hp.k, hp.k1, hp.k2, hp.k3, hp.k4, hp.k5, hp.k6, hp.k7, hp.k8, hp.k9, hp.k10, hp.l1, hp.l2, hp.l3, hp.l4, hp.l5, hp.l6, hp.l7, hp.l8, hp.l9, hp.l10, hq.k, hq.k1, hq.k2, hq.k3, hq.k4, hq.k5, hq.k6, hq.k7, hq.k8, hq.k9, hq.k10, hq.l1, hq.l2, hq.l3, hq.l4, hq.l5, hq.l6, hq.l7, hq.l8, hq.l9, hq.l10, hbp.k, hbp.k1, hbp.k2, hbp.k3, hbp.k4, hbp.k5, hbp.k6, hbp.l1, hbp.l2, hbp.l3, hbp.l4, hbp.l5, hbp.l6, hbq.k, hbq.k1, hbq.k2, hbq.k3, hbq.k4, hbq.k5, hbq.k6, hbq.l1, hbq.l2, hbq.l3, hbq.l4, hbq.l5, hbq.l6, hbpk]) <;> (try omega))) only [↓reduceIte, ↓z_ite, ↓zR, ↓zB_R, ↓zB_B, ↓zB_ite, ↓zB_gI, ↓zB_pI, ↓zB_pZ, ↓zB_aK, ↓zB_G, ↓zB_lI, ↓zB_lZ, ↓zB_wI, ↓zB_wZ, ↓zB_lIl, ↓zB_wIl, zB_pI, zB_pZ, zB_lI, zB_lZ, zB_wI, zB_wZ, z_addl, z_ladd, z_mull, z_lmul, nI_add, z_subl, Nat.not_lt_zero, z_10, z_01, z_bitc, z_b0, z_b1, ↓zB_Gb, ↓zB_G0, ↓zB_G1, z_eql, z_leq, z_ltl, z_llt, z_eq, z_lt, z_m1lt, hp.k, hp.k1, hp.k2, hp.k3, hp.k4, hp.k5, hp.k6, hp.k7, hp.k8, hp.k9, hp.k10, hp.l1, hp.l2, hp.l3, hp.l4, hp.l5, hp.l6, hp.l7, hp.l8, hp.l9, hp.l10, hq.k, hq.k1, hq.k2, hq.k3, hq.k4, hq.k5, hq.k6, hq.k7, hq.k8, hq.k9, hq.k10, hq.l1, hq.l2, hq.l3, hq.l4, hq.l5, hq.l6, hq.l7, hq.l8, hq.l9, hq.l10, hbp.k, hbp.k1, hbp.k2, hbp.k3, hbp.k4, hbp.k5, hbp.k6, hbp.l1, hbp.l2, hbp.l3, hbp.l4, hbp.l5, hbp.l6, hbq.k, hbq.k1, hbq.k2, hbq.k3, hbq.k4, hbq.k5, hbq.k6, hbq.l1, hbq.l2, hbq.l3, hbq.l4, hbq.l5, hbq.l6, hbpk, ↓hp.g0, ↓hp.g1, ↓hp.g2, ↓hp.g3, ↓hp.g4, ↓hp.g5, ↓hp.g6, ↓hp.g7, ↓hp.g8, ↓hp.g9, ↓hp.gb, hp.gb, ↓hq.g0, ↓hq.g1, ↓hq.g2, ↓hq.g3, ↓hq.g4, ↓hq.g5, ↓hq.g6, ↓hq.g7, ↓hq.g8, ↓hq.g9, ↓hq.gb, hq.gb, ↓hbp.g0, ↓hbp.g1, ↓hbp.g2, ↓hbp.g3, ↓hbp.g4, ↓hbp.g5, ↓hbq.g0, ↓hbq.g1, ↓hbq.g2, ↓hbq.g3, ↓hbq.g4, ↓hbq.g5, c71, hi2, ↓zB_c e11, zB_c e11, ↓zB_c e16, zB_c e16]
          | true =>
            rw [y2] at e16
            cases y3 : z_isT (z_bd P j) i with
            | false => rw [y1, y2, y3] at gn; cases gn
            | true =>
              rw [y3] at e18
              simp (disch := ((try simp only [true_or, or_true, hp.k, hp.k1, hp.k2, hp.k3, hp.k4, hp.k5, hp.k6, hp.k7, hp.k8, hp.k9, hp.k10, hp.l1, hp.l2, hp.l3, hp.l4, hp.l5, hp.l6, hp.l7, hp.l8, hp.l9, hp.l10, hq.k, hq.k1, hq.k2, hq.k3, hq.k4, hq.k5, hq.k6, hq.k7, hq.k8, hq.k9, hq.k10, hq.l1, hq.l2, hq.l3, hq.l4, hq.l5, hq.l6, hq.l7, hq.l8, hq.l9, hq.l10, hbp.k, hbp.k1, hbp.k2, hbp.k3, hbp.k4, hbp.k5, hbp.k6, hbp.l1, hbp.l2, hbp.l3, hbp.l4, hbp.l5, hbp.l6, hbq.k, hbq.k1, hbq.k2, hbq.k3, hbq.k4, hbq.k5, hbq.k6, hbq.l1, hbq.l2, hbq.l3, hbq.l4, hbq.l5, hbq.l6, hbpk]) <;> (try omega))) only [↓reduceIte, ↓z_ite, ↓zR, ↓zB_R, ↓zB_B, ↓zB_ite, ↓zB_gI, ↓zB_pI, ↓zB_pZ, ↓zB_aK, ↓zB_G, ↓zB_lI, ↓zB_lZ, ↓zB_wI, ↓zB_wZ, ↓zB_lIl, ↓zB_wIl, zB_pI, zB_pZ, zB_lI, zB_lZ, zB_wI, zB_wZ, z_addl, z_ladd, z_mull, z_lmul, nI_add, z_subl, Nat.not_lt_zero, z_10, z_01, z_bitc, z_b0, z_b1, ↓zB_Gb, ↓zB_G0, ↓zB_G1, z_eql, z_leq, z_ltl, z_llt, z_eq, z_lt, z_m1lt, hp.k, hp.k1, hp.k2, hp.k3, hp.k4, hp.k5, hp.k6, hp.k7, hp.k8, hp.k9, hp.k10, hp.l1, hp.l2, hp.l3, hp.l4, hp.l5, hp.l6, hp.l7, hp.l8, hp.l9, hp.l10, hq.k, hq.k1, hq.k2, hq.k3, hq.k4, hq.k5, hq.k6, hq.k7, hq.k8, hq.k9, hq.k10, hq.l1, hq.l2, hq.l3, hq.l4, hq.l5, hq.l6, hq.l7, hq.l8, hq.l9, hq.l10, hbp.k, hbp.k1, hbp.k2, hbp.k3, hbp.k4, hbp.k5, hbp.k6, hbp.l1, hbp.l2, hbp.l3, hbp.l4, hbp.l5, hbp.l6, hbq.k, hbq.k1, hbq.k2, hbq.k3, hbq.k4, hbq.k5, hbq.k6, hbq.l1, hbq.l2, hbq.l3, hbq.l4, hbq.l5, hbq.l6, hbpk, ↓hp.g0, ↓hp.g1, ↓hp.g2, ↓hp.g3, ↓hp.g4, ↓hp.g5, ↓hp.g6, ↓hp.g7, ↓hp.g8, ↓hp.g9, ↓hp.gb, hp.gb, ↓hq.g0, ↓hq.g1, ↓hq.g2, ↓hq.g3, ↓hq.g4, ↓hq.g5, ↓hq.g6, ↓hq.g7, ↓hq.g8, ↓hq.g9, ↓hq.gb, hq.gb, ↓hbp.g0, ↓hbp.g1, ↓hbp.g2, ↓hbp.g3, ↓hbp.g4, ↓hbp.g5, ↓hbq.g0, ↓hbq.g1, ↓hbq.g2, ↓hbq.g3, ↓hbq.g4, ↓hbq.g5, c71, hi2, ↓zB_c e11, zB_c e11, ↓zB_c e16, zB_c e16, Bool.true_eq_false, ↓zB_c e18, zB_c e18]
      cases gn : z_enc P c f j i with
      | false =>
        refine Or.inl ⟨(p, q, nI c, nI f, g, s, nI (c0 + z_ct (z_enc P c f j) (i + 1)), nI j, z_bi p j, nI (i + 1)), m1, (z_bd P j).length - (i + 1), ?_, by omega, i + 1, rfl, hi2, rfl, ?_, g2⟩
        · have ec : z_ct (z_enc P c f j) (i + 1) = z_ct (z_enc P c f j) i := by rw [z_ct_s, gn]; rfl
          rw [ec]; exact skip gn
        · have : z_lm (fun i' => if i' < i + 1 then z_enN P c f g s j i' else z_at (z_bd P j) i') (z_bd P j).length = z_lm (fun i' => if i' < i then z_enN P c f g s j i' else z_at (z_bd P j) i') (z_bd P j).length := z_lm_congr (fun i' hi' => by
            by_cases y : i' = i
            · subst y
              rw [if_pos (by omega), if_neg (by omega)]
              unfold z_enN
              rw [gn]; rfl
            · by_cases y2 : i' < i
              · rw [if_pos (by omega), if_pos y2]
              · rw [if_neg (by omega), if_neg y2])
          rw [this]; exact g1
      | true =>
        have gn2 := gn
        unfold z_enc at gn2
        simp only [Bool.and_eq_true, Bool.not_eq_true'] at gn2
        obtain ⟨y2, y1, y3⟩ := gn2
        rw [y1] at e11
        rw [y2] at e16
        rw [y3] at e18
        have hkp := (hb1.2.2.2.2 i hi2).1
        have ekp : z_up m1 (z_bi q j + 1) i 7 (z_bi p j + 1) i = z_k (z_bd P j) i := by rw [z_up_row (by unfold z_bi; omega)]; exact hkp
        refine Or.inl ⟨(p, q, nI c, nI f, g, s, nI (c0 + z_ct (z_enc P c f j) (i + 1)), nI j, z_bi p j, nI (i + 1)), z_up (z_up m1 (z_bi q j + 1) i 7) (z_bi q j + 2) i (z_enN P c f g s j i).2.1, (z_bd P j).length - (i + 1), ?_, by omega, i + 1, rfl, hi2, rfl, ?_, fun a ha hb => by rw [z_up_row hb, z_up_row ha]; exact g2 a ha hb⟩
        · have ec : c0 + z_ct (z_enc P c f j) (i + 1) = c0 + z_ct (z_enc P c f j) i + 1 := by rw [z_ct_s, gn]; rfl
          rw [ec]
          unfold f67_173b f67_265 f67_269 z_enN
          rw [gn]
          by_cases y4 : z_k (z_bd P j) i = 3
          · rw [if_pos rfl, if_pos y4]
            simp (disch := ((try simp only [true_or, or_true, hp.k, hp.k1, hp.k2, hp.k3, hp.k4, hp.k5, hp.k6, hp.k7, hp.k8, hp.k9, hp.k10, hp.l1, hp.l2, hp.l3, hp.l4, hp.l5, hp.l6, hp.l7, hp.l8, hp.l9, hp.l10, hq.k, hq.k1, hq.k2, hq.k3, hq.k4, hq.k5, hq.k6, hq.k7, hq.k8, hq.k9, hq.k10, hq.l1, hq.l2, hq.l3, hq.l4, hq.l5, hq.l6, hq.l7, hq.l8, hq.l9, hq.l10, hbp.k, hbp.k1, hbp.k2, hbp.k3, hbp.k4, hbp.k5, hbp.k6, hbp.l1, hbp.l2, hbp.l3, hbp.l4, hbp.l5, hbp.l6, hbq.k, hbq.k1, hbq.k2, hbq.k3, hbq.k4, hbq.k5, hbq.k6, hbq.l1, hbq.l2, hbq.l3, hbq.l4, hbq.l5, hbq.l6, hbpk]) <;> (try omega))) only [↓reduceIte, ↓z_ite, ↓zR, ↓zB_R, ↓zB_B, ↓zB_ite, ↓zB_gI, ↓zB_pI, ↓zB_pZ, ↓zB_aK, ↓zB_G, ↓zB_lI, ↓zB_lZ, ↓zB_wI, ↓zB_wZ, ↓zB_lIl, ↓zB_wIl, zB_pI, zB_pZ, zB_lI, zB_lZ, zB_wI, zB_wZ, z_addl, z_ladd, z_mull, z_lmul, nI_add, z_subl, Nat.not_lt_zero, z_10, z_01, z_bitc, z_b0, z_b1, ↓zB_Gb, ↓zB_G0, ↓zB_G1, z_eql, z_leq, z_ltl, z_llt, z_eq, z_lt, z_m1lt, hp.k, hp.k1, hp.k2, hp.k3, hp.k4, hp.k5, hp.k6, hp.k7, hp.k8, hp.k9, hp.k10, hp.l1, hp.l2, hp.l3, hp.l4, hp.l5, hp.l6, hp.l7, hp.l8, hp.l9, hp.l10, hq.k, hq.k1, hq.k2, hq.k3, hq.k4, hq.k5, hq.k6, hq.k7, hq.k8, hq.k9, hq.k10, hq.l1, hq.l2, hq.l3, hq.l4, hq.l5, hq.l6, hq.l7, hq.l8, hq.l9, hq.l10, hbp.k, hbp.k1, hbp.k2, hbp.k3, hbp.k4, hbp.k5, hbp.k6, hbp.l1, hbp.l2, hbp.l3, hbp.l4, hbp.l5, hbp.l6, hbq.k, hbq.k1, hbq.k2, hbq.k3, hbq.k4, hbq.k5, hbq.k6, hbq.l1, hbq.l2, hbq.l3, hbq.l4, hbq.l5, hbq.l6, hbpk, ↓hp.g0, ↓hp.g1, ↓hp.g2, ↓hp.g3, ↓hp.g4, ↓hp.g5, ↓hp.g6, ↓hp.g7, ↓hp.g8, ↓hp.g9, ↓hp.gb, hp.gb, ↓hq.g0, ↓hq.g1, ↓hq.g2, ↓hq.g3, ↓hq.g4, ↓hq.g5, ↓hq.g6, ↓hq.g7, ↓hq.g8, ↓hq.g9, ↓hq.gb, hq.gb, ↓hbp.g0, ↓hbp.g1, ↓hbp.g2, ↓hbp.g3, ↓hbp.g4, ↓hbp.g5, ↓hbq.g0, ↓hbq.g1, ↓hbq.g2, ↓hbq.g3, ↓hbq.g4, ↓hbq.g5, c71, hi2, ↓zB_c e11, zB_c e11, ↓zB_c e16, zB_c e16, Bool.true_eq_false, ↓zB_c e18, zB_c e18, h24, hj, ekp, y4]
          · rw [if_pos rfl, if_neg y4]
            simp (disch := ((try simp only [true_or, or_true, hp.k, hp.k1, hp.k2, hp.k3, hp.k4, hp.k5, hp.k6, hp.k7, hp.k8, hp.k9, hp.k10, hp.l1, hp.l2, hp.l3, hp.l4, hp.l5, hp.l6, hp.l7, hp.l8, hp.l9, hp.l10, hq.k, hq.k1, hq.k2, hq.k3, hq.k4, hq.k5, hq.k6, hq.k7, hq.k8, hq.k9, hq.k10, hq.l1, hq.l2, hq.l3, hq.l4, hq.l5, hq.l6, hq.l7, hq.l8, hq.l9, hq.l10, hbp.k, hbp.k1, hbp.k2, hbp.k3, hbp.k4, hbp.k5, hbp.k6, hbp.l1, hbp.l2, hbp.l3, hbp.l4, hbp.l5, hbp.l6, hbq.k, hbq.k1, hbq.k2, hbq.k3, hbq.k4, hbq.k5, hbq.k6, hbq.l1, hbq.l2, hbq.l3, hbq.l4, hbq.l5, hbq.l6, hbpk]) <;> (try omega))) only [↓reduceIte, ↓z_ite, ↓zR, ↓zB_R, ↓zB_B, ↓zB_ite, ↓zB_gI, ↓zB_pI, ↓zB_pZ, ↓zB_aK, ↓zB_G, ↓zB_lI, ↓zB_lZ, ↓zB_wI, ↓zB_wZ, ↓zB_lIl, ↓zB_wIl, zB_pI, zB_pZ, zB_lI, zB_lZ, zB_wI, zB_wZ, z_addl, z_ladd, z_mull, z_lmul, nI_add, z_subl, Nat.not_lt_zero, z_10, z_01, z_bitc, z_b0, z_b1, ↓zB_Gb, ↓zB_G0, ↓zB_G1, z_eql, z_leq, z_ltl, z_llt, z_eq, z_lt, z_m1lt, hp.k, hp.k1, hp.k2, hp.k3, hp.k4, hp.k5, hp.k6, hp.k7, hp.k8, hp.k9, hp.k10, hp.l1, hp.l2, hp.l3, hp.l4, hp.l5, hp.l6, hp.l7, hp.l8, hp.l9, hp.l10, hq.k, hq.k1, hq.k2, hq.k3, hq.k4, hq.k5, hq.k6, hq.k7, hq.k8, hq.k9, hq.k10, hq.l1, hq.l2, hq.l3, hq.l4, hq.l5, hq.l6, hq.l7, hq.l8, hq.l9, hq.l10, hbp.k, hbp.k1, hbp.k2, hbp.k3, hbp.k4, hbp.k5, hbp.k6, hbp.l1, hbp.l2, hbp.l3, hbp.l4, hbp.l5, hbp.l6, hbq.k, hbq.k1, hbq.k2, hbq.k3, hbq.k4, hbq.k5, hbq.k6, hbq.l1, hbq.l2, hbq.l3, hbq.l4, hbq.l5, hbq.l6, hbpk, ↓hp.g0, ↓hp.g1, ↓hp.g2, ↓hp.g3, ↓hp.g4, ↓hp.g5, ↓hp.g6, ↓hp.g7, ↓hp.g8, ↓hp.g9, ↓hp.gb, hp.gb, ↓hq.g0, ↓hq.g1, ↓hq.g2, ↓hq.g3, ↓hq.g4, ↓hq.g5, ↓hq.g6, ↓hq.g7, ↓hq.g8, ↓hq.g9, ↓hq.gb, hq.gb, ↓hbp.g0, ↓hbp.g1, ↓hbp.g2, ↓hbp.g3, ↓hbp.g4, ↓hbp.g5, ↓hbq.g0, ↓hbq.g1, ↓hbq.g2, ↓hbq.g3, ↓hbq.g4, ↓hbq.g5, c71, hi2, ↓zB_c e11, zB_c e11, ↓zB_c e16, zB_c e16, Bool.true_eq_false, ↓zB_c e18, zB_c e18, h24, hj, ekp, y4]
        · obtain ⟨d6, d7, dl, dR, dn⟩ := g1
          rw [z_lm_len] at d7 dl dn
          refine ⟨by rw [z_up_row (by omega), z_up_row (by omega)]; exact d6, by rw [z_up_row (by omega), z_up_row (by omega), z_lm_len]; exact d7, by rw [z_lm_len]; exact dl, dR, fun i' hi' => ?_⟩
          rw [z_lm_len] at hi'
          obtain ⟨n1, n2, n3⟩ := dn i' hi'
          by_cases y : i' = i
          · subst y
            unfold z_p z_k z_v z_a at *
            rw [z_lm_at hi', if_neg (by omega)] at n3
            rw [z_lm_at hi', if_pos (by omega), z_up_row (by omega), z_up_s, z_up_s, z_up_row (by omega), z_up_row (by omega), n3]
            refine ⟨?_, rfl, ?_⟩
            · unfold z_enN
              rw [gn, if_pos rfl]
              split <;> rfl
            · rw [z_enN_p]; rfl
          · unfold z_p z_k z_v z_a at *
            have ey : (if i' < i + 1 then z_enN P c f g s j i' else z_at (z_bd P j) i') = (if i' < i then z_enN P c f g s j i' else z_at (z_bd P j) i') := by
              by_cases y2 : i' < i
              · rw [if_pos (by omega), if_pos y2]
              · rw [if_neg (by omega), if_neg y2]
            rw [z_lm_at hi'] at n1 n2 n3
            rw [z_lm_at hi', ey, z_up_row (by omega), z_up_b y, z_up_b y, z_up_row (by omega), z_up_row (by omega), z_up_row (by omega)]
            exact ⟨n1, n2, n3⟩
end
