-- deps: 90.63.pd0
/-! a method pushed down: what the class asks, more -/
section
variable {S : z_S} {m : z_m} {p q : Nat} {P : z_Pg} {A : z_A}
theorem f64_sp (hp : z_PS S p) (h : z_cp m p P) (ht : z_LT m p P) (hw : z_wf P) (hR : z_RT P) {k : Nat} (hk : k < z_nm P) (hlk : z_liv P k = true) : f64 p (nI k) (z_hp S m) = some (z_b (z_cic P k), z_hp S m) := by
  have h24 := hw.2.2.1
  have h6 := hw.1.1
  have h0 := h.2.1.1
  have hpk := hp.k
  have ho := z_own_e hw hk
  have hok := (h.2.1.2.2 k hk hlk).1
  rw [ho.2] at hok
  have key := z_search (f := fun s => f64_2b (s.1) (s.2.1) (s.2.2)) (S := S) (m := m) (fun j => (p, nI k, nI j)) (fun j => z_liv P j && z_any (fun i => (z_k (z_bd P j) i == 7 && z_cq (z_Bd P j) i == k) && z_Ty P j (i + 1) == nI (z_own P k)) (z_bd P j).length) (fun _ => (1 : Int32)) 0 (z_nm P) 0 1000000 (by omega) (fun j _ hj => ?_) ?_
  · rw [z_sch_if0] at key
    unfold f64 f64_2
    rw [show (0 : Int32) = nI 0 from rfl, key]
    unfold z_cic
    cases z_any (fun j => z_liv P j && z_any (fun i => (z_k (z_bd P j) i == 7 && z_cq (z_Bd P j) i == k) && z_Ty P j (i + 1) == nI (z_own P k)) (z_bd P j).length) (z_nm P) <;> rfl
  · have hj : j < z_nm P := by omega
    have e79 := f79_sp hp h (k := j) (by omega)
    have ethr : z_thr P j = z_liv P j := by unfold z_thr; rw [decide_eq_true hj, Bool.true_and]
    rw [ethr] at e79
    dsimp only
    unfold f64_2b f64_78
    cases hl : z_liv P j with
    | false =>
      rw [hl] at e79
      simp (disch := ((try simp only [true_or, or_true, hp.k, hp.k1, hp.k2, hp.k3, hp.k4, hp.k5, hp.k6, hp.k7, hp.k8, hp.k9, hp.k10, hp.l1, hp.l2, hp.l3, hp.l4, hp.l5, hp.l6, hp.l7, hp.l8, hp.l9, hp.l10, hpk]) <;> (try omega))) only [↓reduceIte, ↓z_ite, ↓zR, ↓zB_R, ↓zB_B, ↓zB_ite, ↓zB_gI, ↓zB_pI, ↓zB_pZ, ↓zB_aK, ↓zB_G, ↓zB_lI, ↓zB_lZ, ↓zB_wI, ↓zB_wZ, ↓zB_lIl, ↓zB_wIl, zB_pI, zB_pZ, zB_lI, zB_lZ, zB_wI, zB_wZ, z_addl, z_ladd, z_mull, z_lmul, nI_add, z_subl, Nat.not_lt_zero, z_10, z_01, z_bitc, z_b0, z_b1, ↓zB_Gb, ↓zB_G0, ↓zB_G1, z_eql, z_leq, z_ltl, z_llt, z_eq, z_lt, z_m1lt, hp.k, hp.k1, hp.k2, hp.k3, hp.k4, hp.k5, hp.k6, hp.k7, hp.k8, hp.k9, hp.k10, hp.l1, hp.l2, hp.l3, hp.l4, hp.l5, hp.l6, hp.l7, hp.l8, hp.l9, hp.l10, hpk, ↓hp.g0, ↓hp.g1, ↓hp.g2, ↓hp.g3, ↓hp.g4, ↓hp.g5, ↓hp.g6, ↓hp.g7, ↓hp.g8, ↓hp.g9, ↓hp.gb, hp.gb, h0, hj, ↓zB_c e79, zB_c e79, Bool.false_and, Bool.false_eq_true]
    | true =>
      rw [hl] at e79
      have hbp := hp.B (k := j) (by omega)
      have hbpk := hbp.k
      have hb := h.2.2.2 j hj hl
      have hlen : (z_bd P j).length ≤ 60 := hb.2.2.1
      have c7 := hb.2.1
      have hB := hw.2.2.2.2.1 j hj
      have hT := ht j hj hl
      have inner : f64_31 p (nI k) (nI j) (z_bi p j) 0 (z_hp S m) = some (if z_any (fun i => (z_k (z_bd P j) i == 7 && z_cq (z_Bd P j) i == k) && z_Ty P j (i + 1) == nI (z_own P k)) (z_bd P j).length = true then .inr 1 else .inl (p, nI k, nI (j + 1)), z_hp S m) := by
        unfold f64_31
        have key := z_search (f := fun s => f64_31b (s.1) (s.2.1) (s.2.2.1) (s.2.2.2.1) (s.2.2.2.2)) (S := S) (m := m) (fun i => (p, nI k, nI j, z_bi p j, nI i)) (fun i => (z_k (z_bd P j) i == 7 && z_cq (z_Bd P j) i == k) && z_Ty P j (i + 1) == nI (z_own P k)) (fun _ => (Sum.inr 1 : (Nat × Int32 × Int32) ⊕ Int32)) (.inl (p, nI k, nI (j + 1))) (z_bd P j).length 0 1000000 (by omega) (fun i _ hi => ?_) ?_
        · rw [z_sch_if0] at key
          exact key
        · have hi : i < (z_bd P j).length := by omega
          have e17 := f17_sp hbp hb (B := z_Bd P j) (fun i hi => (hT.2 i hi).2) hi (fun h7 => by
            obtain ⟨a1, a2, _⟩ := z_call_q hw hj (hR j hj hl) hi h7
            exact ⟨a1, by omega⟩) (1 <<< (nI k &&& 31))
          have eC : z_isCF (z_bd P j) (z_Bd P j) i (1 <<< (nI k &&& 31)) = (z_k (z_bd P j) i == 7 && z_cq (z_Bd P j) i == k) := by
            unfold z_isCF
            by_cases g7 : z_k (z_bd P j) i = 7
            · have hq := (z_call_q hw hj (hR j hj hl) hi g7).2.1
              generalize z_cq (z_Bd P j) i = q0 at hq ⊢
              have hb := z_bit_shl (j := k) (k := q0) (by omega) (by omega)
              rw [hb]
              by_cases e : k = q0
              · subst e; simp
              · rw [decide_eq_false e]
                have : (q0 == k) = false := beq_eq_false_iff_ne.mpr (fun q => e q.symm)
                rw [this]
            · rw [show (z_k (z_bd P j) i == 7) = false by simpa using g7, Bool.false_and, Bool.false_and]
          rw [eC] at e17
          dsimp only
          unfold f64_31b f64_70 f64_72
          cases gC : (z_k (z_bd P j) i == 7 && z_cq (z_Bd P j) i == k) with
          | false =>
            rw [gC] at e17
            simp (disch := ((try simp only [true_or, or_true, hbp.k, hbp.k1, hbp.k2, hbp.k3, hbp.k4, hbp.k5, hbp.k6, hbp.l1, hbp.l2, hbp.l3, hbp.l4, hbp.l5, hbp.l6, hbpk]) <;> (try omega))) only [↓reduceIte, ↓z_ite, ↓zR, ↓zB_R, ↓zB_B, ↓zB_ite, ↓zB_gI, ↓zB_pI, ↓zB_pZ, ↓zB_aK, ↓zB_G, ↓zB_lI, ↓zB_lZ, ↓zB_wI, ↓zB_wZ, ↓zB_lIl, ↓zB_wIl, zB_pI, zB_pZ, zB_lI, zB_lZ, zB_wI, zB_wZ, z_addl, z_ladd, z_mull, z_lmul, nI_add, z_subl, Nat.not_lt_zero, z_10, z_01, z_bitc, z_b0, z_b1, ↓zB_Gb, ↓zB_G0, ↓zB_G1, z_eql, z_leq, z_ltl, z_llt, z_eq, z_lt, z_m1lt, hbp.k, hbp.k1, hbp.k2, hbp.k3, hbp.k4, hbp.k5, hbp.k6, hbp.l1, hbp.l2, hbp.l3, hbp.l4, hbp.l5, hbp.l6, hbpk, ↓hbp.g0, ↓hbp.g1, ↓hbp.g2, ↓hbp.g3, ↓hbp.g4, ↓hbp.g5, c7, hi, ↓zB_c e17, zB_c e17, Bool.false_and, Bool.false_eq_true]
          | true =>
            rw [gC] at e17
            have h7 : z_k (z_bd P j) i = 7 := by simpa using (Bool.and_eq_true_iff.mp gC).1
            have hp0 : 0 < z_p (z_bd P j) i := by unfold z_p; rw [h7]; show 0 < 1 + _; omega
            have hi1 : i + 1 < (z_bd P j).length := z_pt_lt hB.1 hi (j := 0) hp0
            have eT := (hT.2 (i + 1) hi1).1
            have eT : m (z_bi p j + 5) (i + 1) = z_Ty P j (i + 1) := eT
            by_cases gT : z_Ty P j (i + 1) = nI (z_own P k)
            · rw [show (z_Ty P j (i + 1) == nI (z_own P k)) = true by simpa using gT]
              simp (disch := ((try simp only [true_or, or_true, hp.k, hp.k1, hp.k2, hp.k3, hp.k4, hp.k5, hp.k6, hp.k7, hp.k8, hp.k9, hp.k10, hp.l1, hp.l2, hp.l3, hp.l4, hp.l5, hp.l6, hp.l7, hp.l8, hp.l9, hp.l10, hbp.k, hbp.k1, hbp.k2, hbp.k3, hbp.k4, hbp.k5, hbp.k6, hbp.l1, hbp.l2, hbp.l3, hbp.l4, hbp.l5, hbp.l6, hbpk]) <;> (try omega))) only [↓reduceIte, ↓z_ite, ↓zR, ↓zB_R, ↓zB_B, ↓zB_ite, ↓zB_gI, ↓zB_pI, ↓zB_pZ, ↓zB_aK, ↓zB_G, ↓zB_lI, ↓zB_lZ, ↓zB_wI, ↓zB_wZ, ↓zB_lIl, ↓zB_wIl, zB_pI, zB_pZ, zB_lI, zB_lZ, zB_wI, zB_wZ, z_addl, z_ladd, z_mull, z_lmul, nI_add, z_subl, Nat.not_lt_zero, z_10, z_01, z_bitc, z_b0, z_b1, ↓zB_Gb, ↓zB_G0, ↓zB_G1, z_eql, z_leq, z_ltl, z_llt, z_eq, z_lt, z_m1lt, hp.k, hp.k1, hp.k2, hp.k3, hp.k4, hp.k5, hp.k6, hp.k7, hp.k8, hp.k9, hp.k10, hp.l1, hp.l2, hp.l3, hp.l4, hp.l5, hp.l6, hp.l7, hp.l8, hp.l9, hp.l10, hbp.k, hbp.k1, hbp.k2, hbp.k3, hbp.k4, hbp.k5, hbp.k6, hbp.l1, hbp.l2, hbp.l3, hbp.l4, hbp.l5, hbp.l6, hbpk, ↓hp.g0, ↓hp.g1, ↓hp.g2, ↓hp.g3, ↓hp.g4, ↓hp.g5, ↓hp.g6, ↓hp.g7, ↓hp.g8, ↓hp.g9, ↓hp.gb, hp.gb, ↓hbp.g0, ↓hbp.g1, ↓hbp.g2, ↓hbp.g3, ↓hbp.g4, ↓hbp.g5, c7, hi, ↓zB_c e17, zB_c e17, Bool.true_eq_false, hi1, eT, h24, hk, hok, gT, Bool.true_and]
            · rw [show (z_Ty P j (i + 1) == nI (z_own P k)) = false by simpa using gT]
              simp (disch := ((try simp only [true_or, or_true, hp.k, hp.k1, hp.k2, hp.k3, hp.k4, hp.k5, hp.k6, hp.k7, hp.k8, hp.k9, hp.k10, hp.l1, hp.l2, hp.l3, hp.l4, hp.l5, hp.l6, hp.l7, hp.l8, hp.l9, hp.l10, hbp.k, hbp.k1, hbp.k2, hbp.k3, hbp.k4, hbp.k5, hbp.k6, hbp.l1, hbp.l2, hbp.l3, hbp.l4, hbp.l5, hbp.l6, hbpk]) <;> (try omega))) only [↓reduceIte, ↓z_ite, ↓zR, ↓zB_R, ↓zB_B, ↓zB_ite, ↓zB_gI, ↓zB_pI, ↓zB_pZ, ↓zB_aK, ↓zB_G, ↓zB_lI, ↓zB_lZ, ↓zB_wI, ↓zB_wZ, ↓zB_lIl, ↓zB_wIl, zB_pI, zB_pZ, zB_lI, zB_lZ, zB_wI, zB_wZ, z_addl, z_ladd, z_mull, z_lmul, nI_add, z_subl, Nat.not_lt_zero, z_10, z_01, z_bitc, z_b0, z_b1, ↓zB_Gb, ↓zB_G0, ↓zB_G1, z_eql, z_leq, z_ltl, z_llt, z_eq, z_lt, z_m1lt, hp.k, hp.k1, hp.k2, hp.k3, hp.k4, hp.k5, hp.k6, hp.k7, hp.k8, hp.k9, hp.k10, hp.l1, hp.l2, hp.l3, hp.l4, hp.l5, hp.l6, hp.l7, hp.l8, hp.l9, hp.l10, hbp.k, hbp.k1, hbp.k2, hbp.k3, hbp.k4, hbp.k5, hbp.k6, hbp.l1, hbp.l2, hbp.l3, hbp.l4, hbp.l5, hbp.l6, hbpk, ↓hp.g0, ↓hp.g1, ↓hp.g2, ↓hp.g3, ↓hp.g4, ↓hp.g5, ↓hp.g6, ↓hp.g7, ↓hp.g8, ↓hp.g9, ↓hp.gb, hp.gb, ↓hbp.g0, ↓hbp.g1, ↓hbp.g2, ↓hbp.g3, ↓hbp.g4, ↓hbp.g5, c7, hi, ↓zB_c e17, zB_c e17, Bool.true_eq_false, hi1, eT, h24, hk, hok, gT, Bool.and_false, Bool.false_eq_true]
        · dsimp only
          unfold f64_31b f64_78
          rw [Nat.zero_add]
          simp (disch := ((try simp only [true_or, or_true, hbp.k, hbp.k1, hbp.k2, hbp.k3, hbp.k4, hbp.k5, hbp.k6, hbp.l1, hbp.l2, hbp.l3, hbp.l4, hbp.l5, hbp.l6, hbpk]) <;> (try omega))) only [↓reduceIte, ↓z_ite, ↓zR, ↓zB_R, ↓zB_B, ↓zB_ite, ↓zB_gI, ↓zB_pI, ↓zB_pZ, ↓zB_aK, ↓zB_G, ↓zB_lI, ↓zB_lZ, ↓zB_wI, ↓zB_wZ, ↓zB_lIl, ↓zB_wIl, zB_pI, zB_pZ, zB_lI, zB_lZ, zB_wI, zB_wZ, z_addl, z_ladd, z_mull, z_lmul, nI_add, z_subl, Nat.not_lt_zero, z_10, z_01, z_bitc, z_b0, z_b1, ↓zB_Gb, ↓zB_G0, ↓zB_G1, z_eql, z_leq, z_ltl, z_llt, z_eq, z_lt, z_m1lt, hbp.k, hbp.k1, hbp.k2, hbp.k3, hbp.k4, hbp.k5, hbp.k6, hbp.l1, hbp.l2, hbp.l3, hbp.l4, hbp.l5, hbp.l6, hbpk, ↓hbp.g0, ↓hbp.g1, ↓hbp.g2, ↓hbp.g3, ↓hbp.g4, ↓hbp.g5, c7, Nat.lt_irrefl]
      rw [Bool.true_and]
      simp (disch := ((try simp only [true_or, or_true, hp.k, hp.k1, hp.k2, hp.k3, hp.k4, hp.k5, hp.k6, hp.k7, hp.k8, hp.k9, hp.k10, hp.l1, hp.l2, hp.l3, hp.l4, hp.l5, hp.l6, hp.l7, hp.l8, hp.l9, hp.l10, hpk]) <;> (try omega))) only [↓reduceIte, ↓z_ite, ↓zR, ↓zB_R, ↓zB_B, ↓zB_ite, ↓zB_gI, ↓zB_pI, ↓zB_pZ, ↓zB_aK, ↓zB_G, ↓zB_lI, ↓zB_lZ, ↓zB_wI, ↓zB_wZ, ↓zB_lIl, ↓zB_wIl, zB_pI, zB_pZ, zB_lI, zB_lZ, zB_wI, zB_wZ, z_addl, z_ladd, z_mull, z_lmul, nI_add, z_subl, Nat.not_lt_zero, z_10, z_01, z_bitc, z_b0, z_b1, ↓zB_Gb, ↓zB_G0, ↓zB_G1, z_eql, z_leq, z_ltl, z_llt, z_eq, z_lt, z_m1lt, hp.k, hp.k1, hp.k2, hp.k3, hp.k4, hp.k5, hp.k6, hp.k7, hp.k8, hp.k9, hp.k10, hp.l1, hp.l2, hp.l3, hp.l4, hp.l5, hp.l6, hp.l7, hp.l8, hp.l9, hp.l10, hpk, ↓hp.g0, ↓hp.g1, ↓hp.g2, ↓hp.g3, ↓hp.g4, ↓hp.g5, ↓hp.g6, ↓hp.g7, ↓hp.g8, ↓hp.g9, ↓hp.gb, hp.gb, h0, hj, ↓zB_c e79, zB_c e79, Bool.true_eq_false, h24]
      rw [inner]
      split <;> rfl
  · dsimp only
    unfold f64_2b f64_84
    rw [Nat.zero_add]
    simp (disch := ((try simp only [true_or, or_true, hp.k, hp.k1, hp.k2, hp.k3, hp.k4, hp.k5, hp.k6, hp.k7, hp.k8, hp.k9, hp.k10, hp.l1, hp.l2, hp.l3, hp.l4, hp.l5, hp.l6, hp.l7, hp.l8, hp.l9, hp.l10]) <;> (try omega))) only [↓reduceIte, ↓z_ite, ↓zR, ↓zB_R, ↓zB_B, ↓zB_ite, ↓zB_gI, ↓zB_pI, ↓zB_pZ, ↓zB_aK, ↓zB_G, ↓zB_lI, ↓zB_lZ, ↓zB_wI, ↓zB_wZ, ↓zB_lIl, ↓zB_wIl, zB_pI, zB_pZ, zB_lI, zB_lZ, zB_wI, zB_wZ, z_addl, z_ladd, z_mull, z_lmul, nI_add, z_subl, Nat.not_lt_zero, z_10, z_01, z_bitc, z_b0, z_b1, ↓zB_Gb, ↓zB_G0, ↓zB_G1, z_eql, z_leq, z_ltl, z_llt, z_eq, z_lt, z_m1lt, hp.k, hp.k1, hp.k2, hp.k3, hp.k4, hp.k5, hp.k6, hp.k7, hp.k8, hp.k9, hp.k10, hp.l1, hp.l2, hp.l3, hp.l4, hp.l5, hp.l6, hp.l7, hp.l8, hp.l9, hp.l10, ↓hp.g0, ↓hp.g1, ↓hp.g2, ↓hp.g3, ↓hp.g4, ↓hp.g5, ↓hp.g6, ↓hp.g7, ↓hp.g8, ↓hp.g9, ↓hp.gb, hp.gb, h0, Nat.lt_irrefl]
theorem f65_sp (hp : z_PS S p) (h : z_cp m p P) (hw : z_wf P) {k d : Nat} (hk : k < z_nm P) (hlk : z_liv P k = true) (hd : d < z_nc P) : f65 p (nI k) (nI d) (z_hp S m) = some (z_b (z_get P k d), z_hp S m) := by
  have h24 := hw.2.2.1
  have h6 := hw.1.1
  have hpk := hp.k
  have ho := z_own_e hw hk
  obtain ⟨q1, q2, q3, _⟩ := h.2.1.2.2 k hk hlk
  rw [ho.2] at q1
  have ep := (h.1.2 d hd).1
  have hd6 : d < 6 := by omega
  have e89 := f89_sp hp h hw hd (z_hd P k 2) (z_hd P k 3)
  unfold f65 f65_20 f65_50 f65_51 z_get
  by_cases g : z_par P d = nI (z_own P k)
  · rw [show (z_par P d == nI (z_own P k)) = true by simpa using g, Bool.true_and]
    cases gm : z_om P d (z_hd P k 2) (z_hd P k 3) with
    | none =>
      rw [gm] at e89
      simp (disch := ((try simp only [true_or, or_true, hp.k, hp.k1, hp.k2, hp.k3, hp.k4, hp.k5, hp.k6, hp.k7, hp.k8, hp.k9, hp.k10, hp.l1, hp.l2, hp.l3, hp.l4, hp.l5, hp.l6, hp.l7, hp.l8, hp.l9, hp.l10, hpk]) <;> (try omega))) only [↓reduceIte, ↓z_ite, ↓zR, ↓zB_R, ↓zB_B, ↓zB_ite, ↓zB_gI, ↓zB_pI, ↓zB_pZ, ↓zB_aK, ↓zB_G, ↓zB_lI, ↓zB_lZ, ↓zB_wI, ↓zB_wZ, ↓zB_lIl, ↓zB_wIl, zB_pI, zB_pZ, zB_lI, zB_lZ, zB_wI, zB_wZ, z_addl, z_ladd, z_mull, z_lmul, nI_add, z_subl, Nat.not_lt_zero, z_10, z_01, z_bitc, z_b0, z_b1, ↓zB_Gb, ↓zB_G0, ↓zB_G1, z_eql, z_leq, z_ltl, z_llt, z_eq, z_lt, z_m1lt, hp.k, hp.k1, hp.k2, hp.k3, hp.k4, hp.k5, hp.k6, hp.k7, hp.k8, hp.k9, hp.k10, hp.l1, hp.l2, hp.l3, hp.l4, hp.l5, hp.l6, hp.l7, hp.l8, hp.l9, hp.l10, hpk, ↓hp.g0, ↓hp.g1, ↓hp.g2, ↓hp.g3, ↓hp.g4, ↓hp.g5, ↓hp.g6, ↓hp.g7, ↓hp.g8, ↓hp.g9, ↓hp.gb, hp.gb, hd6, ep, h24, hk, q1, g, q2, q3, ↓zB_c e89, zB_c e89, z_oI]
      rfl
    | some j =>
      rw [gm] at e89
      have hj := (z_lst_some.mp gm).1
      have gj : ¬ nI j = -1 := z_nI_m1 (by omega)
      simp (disch := ((try simp only [true_or, or_true, hp.k, hp.k1, hp.k2, hp.k3, hp.k4, hp.k5, hp.k6, hp.k7, hp.k8, hp.k9, hp.k10, hp.l1, hp.l2, hp.l3, hp.l4, hp.l5, hp.l6, hp.l7, hp.l8, hp.l9, hp.l10, hpk]) <;> (try omega))) only [↓reduceIte, ↓z_ite, ↓zR, ↓zB_R, ↓zB_B, ↓zB_ite, ↓zB_gI, ↓zB_pI, ↓zB_pZ, ↓zB_aK, ↓zB_G, ↓zB_lI, ↓zB_lZ, ↓zB_wI, ↓zB_wZ, ↓zB_lIl, ↓zB_wIl, zB_pI, zB_pZ, zB_lI, zB_lZ, zB_wI, zB_wZ, z_addl, z_ladd, z_mull, z_lmul, nI_add, z_subl, Nat.not_lt_zero, z_10, z_01, z_bitc, z_b0, z_b1, ↓zB_Gb, ↓zB_G0, ↓zB_G1, z_eql, z_leq, z_ltl, z_llt, z_eq, z_lt, z_m1lt, hp.k, hp.k1, hp.k2, hp.k3, hp.k4, hp.k5, hp.k6, hp.k7, hp.k8, hp.k9, hp.k10, hp.l1, hp.l2, hp.l3, hp.l4, hp.l5, hp.l6, hp.l7, hp.l8, hp.l9, hp.l10, hpk, ↓hp.g0, ↓hp.g1, ↓hp.g2, ↓hp.g3, ↓hp.g4, ↓hp.g5, ↓hp.g6, ↓hp.g7, ↓hp.g8, ↓hp.g9, ↓hp.gb, hp.gb, hd6, ep, h24, hk, q1, g, q2, q3, ↓zB_c e89, zB_c e89, z_oI, gj]
      rfl
  · rw [show (z_par P d == nI (z_own P k)) = false by simpa using g, Bool.false_and]
    simp (disch := ((try simp only [true_or, or_true, hp.k, hp.k1, hp.k2, hp.k3, hp.k4, hp.k5, hp.k6, hp.k7, hp.k8, hp.k9, hp.k10, hp.l1, hp.l2, hp.l3, hp.l4, hp.l5, hp.l6, hp.l7, hp.l8, hp.l9, hp.l10, hpk]) <;> (try omega))) only [↓reduceIte, ↓z_ite, ↓zR, ↓zB_R, ↓zB_B, ↓zB_ite, ↓zB_gI, ↓zB_pI, ↓zB_pZ, ↓zB_aK, ↓zB_G, ↓zB_lI, ↓zB_lZ, ↓zB_wI, ↓zB_wZ, ↓zB_lIl, ↓zB_wIl, zB_pI, zB_pZ, zB_lI, zB_lZ, zB_wI, zB_wZ, z_addl, z_ladd, z_mull, z_lmul, nI_add, z_subl, Nat.not_lt_zero, z_10, z_01, z_bitc, z_b0, z_b1, ↓zB_Gb, ↓zB_G0, ↓zB_G1, z_eql, z_leq, z_ltl, z_llt, z_eq, z_lt, z_m1lt, hp.k, hp.k1, hp.k2, hp.k3, hp.k4, hp.k5, hp.k6, hp.k7, hp.k8, hp.k9, hp.k10, hp.l1, hp.l2, hp.l3, hp.l4, hp.l5, hp.l6, hp.l7, hp.l8, hp.l9, hp.l10, hpk, ↓hp.g0, ↓hp.g1, ↓hp.g2, ↓hp.g3, ↓hp.g4, ↓hp.g5, ↓hp.g6, ↓hp.g7, ↓hp.g8, ↓hp.g9, ↓hp.gb, hp.gb, hd6, ep, h24, hk, q1, g]
    rfl
end
