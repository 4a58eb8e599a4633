-- deps: 90.56.dp1
/-! an argument fewer: the class asks, and writes a body -/
section
variable {S : z_S} {m : z_m} {p q : Nat} {P : z_Pg} {A : z_A}
theorem z_cf_lt {s : Nat → Bool} {j i : Nat} (h : z_cf P s j i = true) : i < (z_bd P j).length := by
  rcases Nat.lt_or_ge i (z_bd P j).length with g | g
  · exact g
  · unfold z_cf at h
    have : z_k (z_bd P j) i = 0 := by
      unfold z_k z_at
      rw [List.getD_eq_getElem?_getD, List.getElem?_eq_none g]; rfl
    rw [this] at h; cases h
/-- what the rows need of the calls -/
theorem z_cf_dp (hw : z_wf P) (hR : z_RT P) {k j x : Nat} (hk : k < z_nm P) (hlk : z_liv P k = true) (hx : x < z_cnt P k) (hj : j < z_nm P) (hl : z_liv P j = true) {i : Nat} (h : z_cf P (z_fam P k) j i = true) : i < (z_bd P j).length ∧ 1 + x < z_p (z_bd P j) i ∧ z_k (z_bd P j) i = 7 ∧ (z_a (z_bd P j) i = 1 ∨ z_a (z_bd P j) i = 2) := by
  have hi := z_cf_lt h
  obtain ⟨h7, ha⟩ := z_cf_a hw hR hk hlk hj hl hi h
  have hc2 : z_cnt P k ≤ 2 := (hw.2.2.2.1 k hk).2.2.2.1.1
  rw [z_c3 hw hk] at ha
  refine ⟨hi, ?_, h7, ?_⟩
  · unfold z_p z_pn
    rw [h7, ha, nI_clamp (by omega)]
    simp; omega
  · have : z_cnt P k = 1 ∨ z_cnt P k = 2 := by omega
    rw [ha]
    rcases this with q | q <;> rw [q]
    · exact Or.inl rfl
    · exact Or.inr rfl
theorem f118_sp (hp : z_PS S p) (h : z_cp m p P) (ht : z_LT m p P) (hw : z_wf P) (hR : z_RT P) {s : Nat → Bool} {j i x : Nat} (hj : j < z_nm P) (hl : z_liv P j = true) (hi : i < (z_bd P j).length) (hx : x < 2) : f118 (z_bi p j) (nI i) (z_M (z_nm P) s) (nI x) (z_hp S m) = some (z_b (z_dr (z_bd P j) (z_cf P s j) x i), z_hp S m) := by
  have h24 := hw.2.2.1
  have hbp := hp.B (k := j) (by omega)
  have hbpk := hbp.k
  have hb := h.2.2.2 j hj hl
  have hlen : (z_bd P j).length ≤ 60 := hb.2.2.1
  have hT := ht j hj hl
  have hB := hw.2.2.2.2.1 j hj
  have key := z_search (f := fun s => f118_3b (s.1) (s.2.1) (s.2.2.1) (s.2.2.2.1) (s.2.2.2.2)) (S := S) (m := m) (fun t => (z_bi p j, nI i, z_M (z_nm P) s, nI x, nI t)) (fun t => z_cf P s j t && z_pt (z_bd P j) t (1 + x) == i) (fun _ => (1 : Int32)) 0 i 0 1000000 (by omega) (fun t _ ht1 => ?_) ?_
  · rw [z_sch_if0] at key
    unfold f118 f118_3
    rw [show (0 : Int32) = nI 0 from rfl, key]
    unfold z_dr
    cases z_any (fun q => z_cf P s j q && z_pt (z_bd P j) q (1 + x) == i) i with
    | true => rfl
    | false => rfl
  · have ht1 : t < i := by omega
    have htl : t < (z_bd P j).length := by omega
    have e17 := f17_sp hbp hb (B := z_Bd P j) (fun i hi => (hT.2 i hi).2) htl (fun h7 => by
      obtain ⟨a1, a2, _⟩ := z_call_q hw hj (hR j hj hl) htl h7
      exact ⟨a1, by omega⟩) (z_M (z_nm P) s)
    rw [z_M_cf hw hR hj hl htl] at e17
    have e9 := f9_sp hbp hb hB.1 htl (fun u _ hu => hT.1 u hu) (1 + x) (by omega)
    have ex : (1 : Int32) + nI x = nI (1 + x) := nI_add 1 x
    have hpt : z_pt (z_bd P j) t (1 + x) ≤ 60 := Nat.le_trans (z_pt_len hB.1 htl (1 + x)) hlen
    dsimp only
    unfold f118_3b f118_32 f118_34
    cases gc : z_cf P s j t with
    | false =>
      rw [gc] at e17
      simp (disch := ((try simp only [true_or, or_true, hbp.k, hbp.k1, hbp.k2, hbp.k3, hbp.k4, hbp.k5, hbp.k6, hbp.l1, hbp.l2, hbp.l3, hbp.l4, hbp.l5, hbp.l6, hbpk]) <;> (try omega))) only [↓reduceIte, ↓z_ite, ↓zR, ↓zB_R, ↓zB_B, ↓zB_ite, ↓zB_gI, ↓zB_pI, ↓zB_pZ, ↓zB_aK, ↓zB_G, ↓zB_lI, ↓zB_lZ, ↓zB_wI, ↓zB_wZ, ↓zB_lIl, ↓zB_wIl, zB_pI, zB_pZ, zB_lI, zB_lZ, zB_wI, zB_wZ, z_addl, z_ladd, z_mull, z_lmul, nI_add, z_subl, Nat.not_lt_zero, z_10, z_01, z_bitc, z_b0, z_b1, ↓zB_Gb, ↓zB_G0, ↓zB_G1, z_eql, z_leq, z_ltl, z_llt, z_eq, z_lt, z_m1lt, hbp.k, hbp.k1, hbp.k2, hbp.k3, hbp.k4, hbp.k5, hbp.k6, hbp.l1, hbp.l2, hbp.l3, hbp.l4, hbp.l5, hbp.l6, hbpk, ↓hbp.g0, ↓hbp.g1, ↓hbp.g2, ↓hbp.g3, ↓hbp.g4, ↓hbp.g5, ht1, ↓zB_c e17, zB_c e17, Bool.false_and, Bool.false_eq_true]
    | true =>
      rw [gc] at e17
      by_cases ge : z_pt (z_bd P j) t (1 + x) = i
      · rw [show (z_pt (z_bd P j) t (1 + x) == i) = true by simpa using ge]
        simp (disch := ((try simp only [true_or, or_true, hbp.k, hbp.k1, hbp.k2, hbp.k3, hbp.k4, hbp.k5, hbp.k6, hbp.l1, hbp.l2, hbp.l3, hbp.l4, hbp.l5, hbp.l6, hbpk]) <;> (try omega))) only [↓reduceIte, ↓z_ite, ↓zR, ↓zB_R, ↓zB_B, ↓zB_ite, ↓zB_gI, ↓zB_pI, ↓zB_pZ, ↓zB_aK, ↓zB_G, ↓zB_lI, ↓zB_lZ, ↓zB_wI, ↓zB_wZ, ↓zB_lIl, ↓zB_wIl, zB_pI, zB_pZ, zB_lI, zB_lZ, zB_wI, zB_wZ, z_addl, z_ladd, z_mull, z_lmul, nI_add, z_subl, Nat.not_lt_zero, z_10, z_01, z_bitc, z_b0, z_b1, ↓zB_Gb, ↓zB_G0, ↓zB_G1, z_eql, z_leq, z_ltl, z_llt, z_eq, z_lt, z_m1lt, hbp.k, hbp.k1, hbp.k2, hbp.k3, hbp.k4, hbp.k5, hbp.k6, hbp.l1, hbp.l2, hbp.l3, hbp.l4, hbp.l5, hbp.l6, hbpk, ↓hbp.g0, ↓hbp.g1, ↓hbp.g2, ↓hbp.g3, ↓hbp.g4, ↓hbp.g5, ht1, ↓zB_c e17, zB_c e17, Bool.true_eq_false, ex, ↓zB_c e9, zB_c e9, ge, Bool.true_and]
      · rw [show (z_pt (z_bd P j) t (1 + x) == i) = false by simpa using ge]
        simp (disch := ((try simp only [true_or, or_true, hbp.k, hbp.k1, hbp.k2, hbp.k3, hbp.k4, hbp.k5, hbp.k6, hbp.l1, hbp.l2, hbp.l3, hbp.l4, hbp.l5, hbp.l6, hbpk]) <;> (try omega))) only [↓reduceIte, ↓z_ite, ↓zR, ↓zB_R, ↓zB_B, ↓zB_ite, ↓zB_gI, ↓zB_pI, ↓zB_pZ, ↓zB_aK, ↓zB_G, ↓zB_lI, ↓zB_lZ, ↓zB_wI, ↓zB_wZ, ↓zB_lIl, ↓zB_wIl, zB_pI, zB_pZ, zB_lI, zB_lZ, zB_wI, zB_wZ, z_addl, z_ladd, z_mull, z_lmul, nI_add, z_subl, Nat.not_lt_zero, z_10, z_01, z_bitc, z_b0, z_b1, ↓zB_Gb, ↓zB_G0, ↓zB_G1, z_eql, z_leq, z_ltl, z_llt, z_eq, z_lt, z_m1lt, hbp.k, hbp.k1, hbp.k2, hbp.k3, hbp.k4, hbp.k5, hbp.k6, hbp.l1, hbp.l2, hbp.l3, hbp.l4, hbp.l5, hbp.l6, hbpk, ↓hbp.g0, ↓hbp.g1, ↓hbp.g2, ↓hbp.g3, ↓hbp.g4, ↓hbp.g5, ht1, ↓zB_c e17, zB_c e17, Bool.true_eq_false, ex, ↓zB_c e9, zB_c e9, ge, Bool.and_false, Bool.false_eq_true]
  · dsimp only
    unfold f118_3b f118_40
    rw [Nat.zero_add]
    simp (disch := ((try simp only [true_or, or_true, hbp.k, hbp.k1, hbp.k2, hbp.k3, hbp.k4, hbp.k5, hbp.k6, hbp.l1, hbp.l2, hbp.l3, hbp.l4, hbp.l5, hbp.l6, hbpk]) <;> (try omega))) only [↓reduceIte, ↓z_ite, ↓zR, ↓zB_R, ↓zB_B, ↓zB_ite, ↓zB_gI, ↓zB_pI, ↓zB_pZ, ↓zB_aK, ↓zB_G, ↓zB_lI, ↓zB_lZ, ↓zB_wI, ↓zB_wZ, ↓zB_lIl, ↓zB_wIl, zB_pI, zB_pZ, zB_lI, zB_lZ, zB_wI, zB_wZ, z_addl, z_ladd, z_mull, z_lmul, nI_add, z_subl, Nat.not_lt_zero, z_10, z_01, z_bitc, z_b0, z_b1, ↓zB_Gb, ↓zB_G0, ↓zB_G1, z_eql, z_leq, z_ltl, z_llt, z_eq, z_lt, z_m1lt, hbp.k, hbp.k1, hbp.k2, hbp.k3, hbp.k4, hbp.k5, hbp.k6, hbp.l1, hbp.l2, hbp.l3, hbp.l4, hbp.l5, hbp.l6, hbpk, ↓hbp.g0, ↓hbp.g1, ↓hbp.g2, ↓hbp.g3, ↓hbp.g4, ↓hbp.g5, Nat.lt_irrefl]
/-- is the parameter used -/
noncomputable def z_dpU (P : z_Pg) (k x : Nat) : Bool := z_any (fun j => z_fam P k j && z_any (fun i => z_isBL (z_bd P j) (z_Bd P j) i (-1 - nI x)) (z_bd P j).length) (z_nm P)
theorem f114_sp (hp : z_PS S p) (h : z_cp m p P) (ht : z_LT m p P) (hw : z_wf P) {k : Nat} (hk : k < z_nm P) (hlk : z_liv P k = true) (x : Nat) : f114 p (z_M (z_nm P) (z_fam P k)) (nI x) (z_hp S m) = some (z_b (z_dpU P k x), z_hp S m) := by
  have h24 := hw.2.2.1
  have h0 := h.2.1.1
  have key := z_search (f := fun s => f114_2b (s.1) (s.2.1) (s.2.2.1) (s.2.2.2)) (S := S) (m := m) (fun j => (p, z_M (z_nm P) (z_fam P k), nI x, nI j)) (fun j => z_fam P k j && z_any (fun i => z_isBL (z_bd P j) (z_Bd P j) i (-1 - nI x)) (z_bd P j).length) (fun _ => (1 : Int32)) 0 (z_nm P) 0 1000000 (by omega) (fun j _ hj => ?_) ?_
  · rw [z_sch_if0] at key
    unfold f114 f114_2
    rw [show (0 : Int32) = nI 0 from rfl, key]
    unfold z_dpU
    cases z_any (fun j => z_fam P k j && z_any (fun i => z_isBL (z_bd P j) (z_Bd P j) i (-1 - nI x)) (z_bd P j).length) (z_nm P) with
    | true => rfl
    | false => rfl
  · have hj : j < z_nm P := by omega
    have hbit := z_M_at (n := z_nm P) (s := z_fam P k) (by omega) hj
    have hb0 := z_bit0 (z_M (z_nm P) (z_fam P k)) j
    rw [hbit] at hb0
    dsimp only
    unfold f114_2b f114_63
    cases gf : z_fam P k j with
    | false =>
      rw [gf] at hb0
      simp (disch := ((try simp only [true_or, or_true, hp.k, hp.k1, hp.k2, hp.k3, hp.k4, hp.k5, hp.k6, hp.k7, hp.k8, hp.k9, hp.k10, hp.l1, hp.l2, hp.l3, hp.l4, hp.l5, hp.l6, hp.l7, hp.l8, hp.l9, hp.l10]) <;> (try omega))) only [↓reduceIte, ↓z_ite, ↓zR, ↓zB_R, ↓zB_B, ↓zB_ite, ↓zB_gI, ↓zB_pI, ↓zB_pZ, ↓zB_aK, ↓zB_G, ↓zB_lI, ↓zB_lZ, ↓zB_wI, ↓zB_wZ, ↓zB_lIl, ↓zB_wIl, zB_pI, zB_pZ, zB_lI, zB_lZ, zB_wI, zB_wZ, z_addl, z_ladd, z_mull, z_lmul, nI_add, z_subl, Nat.not_lt_zero, z_10, z_01, z_bitc, z_b0, z_b1, ↓zB_Gb, ↓zB_G0, ↓zB_G1, z_eql, z_leq, z_ltl, z_llt, z_eq, z_lt, z_m1lt, hp.k, hp.k1, hp.k2, hp.k3, hp.k4, hp.k5, hp.k6, hp.k7, hp.k8, hp.k9, hp.k10, hp.l1, hp.l2, hp.l3, hp.l4, hp.l5, hp.l6, hp.l7, hp.l8, hp.l9, hp.l10, ↓hp.g0, ↓hp.g1, ↓hp.g2, ↓hp.g3, ↓hp.g4, ↓hp.g5, ↓hp.g6, ↓hp.g7, ↓hp.g8, ↓hp.g9, ↓hp.gb, hp.gb, h0, hj, hb0, Bool.false_and, Bool.false_eq_true]
    | true =>
      rw [gf] at hb0
      have hl := (z_famc hw hk hlk gf).2.1
      have hbp := hp.B (k := j) (by omega)
      have hbpk := hbp.k
      have hb := h.2.2.2 j hj hl
      have hlen : (z_bd P j).length ≤ 60 := hb.2.2.1
      have c7 := hb.2.1
      have inner : f114_32 p (z_M (z_nm P) (z_fam P k)) (nI x) (nI j) (z_bi p j) 0 (z_hp S m) = some (if z_any (fun i => z_isBL (z_bd P j) (z_Bd P j) i (-1 - nI x)) (z_bd P j).length = true then .inr 1 else .inl (p, z_M (z_nm P) (z_fam P k), nI x, nI (j + 1)), z_hp S m) := by
        unfold f114_32
        have key := z_search (f := fun s => f114_32b (s.1) (s.2.1) (s.2.2.1) (s.2.2.2.1) (s.2.2.2.2.1) (s.2.2.2.2.2)) (S := S) (m := m) (fun i => (p, z_M (z_nm P) (z_fam P k), nI x, nI j, z_bi p j, nI i)) (fun i => z_isBL (z_bd P j) (z_Bd P j) i (-1 - nI x)) (fun _ => (Sum.inr 1 : (Nat × Int32 × Int32 × Int32) ⊕ Int32)) (.inl (p, z_M (z_nm P) (z_fam P k), nI x, nI (j + 1))) (z_bd P j).length 0 1000000 (by omega) (fun i _ hi => ?_) ?_
        · rw [z_sch_if0] at key
          exact key
        · have hi : i < (z_bd P j).length := by omega
          have e15 := f15_sp hbp hb (B := z_Bd P j) (fun i hi => ((ht j hj hl).2 i hi).2) hi (-1 - nI x)
          dsimp only
          unfold f114_32b f114_55
          cases gB : z_isBL (z_bd P j) (z_Bd P j) i (-1 - nI x) with
          | false =>
            rw [gB] at e15
            simp (disch := ((try simp only [true_or, or_true, hbp.k, hbp.k1, hbp.k2, hbp.k3, hbp.k4, hbp.k5, hbp.k6, hbp.l1, hbp.l2, hbp.l3, hbp.l4, hbp.l5, hbp.l6, hbpk]) <;> (try omega))) only [↓reduceIte, ↓z_ite, ↓zR, ↓zB_R, ↓zB_B, ↓zB_ite, ↓zB_gI, ↓zB_pI, ↓zB_pZ, ↓zB_aK, ↓zB_G, ↓zB_lI, ↓zB_lZ, ↓zB_wI, ↓zB_wZ, ↓zB_lIl, ↓zB_wIl, zB_pI, zB_pZ, zB_lI, zB_lZ, zB_wI, zB_wZ, z_addl, z_ladd, z_mull, z_lmul, nI_add, z_subl, Nat.not_lt_zero, z_10, z_01, z_bitc, z_b0, z_b1, ↓zB_Gb, ↓zB_G0, ↓zB_G1, z_eql, z_leq, z_ltl, z_llt, z_eq, z_lt, z_m1lt, hbp.k, hbp.k1, hbp.k2, hbp.k3, hbp.k4, hbp.k5, hbp.k6, hbp.l1, hbp.l2, hbp.l3, hbp.l4, hbp.l5, hbp.l6, hbpk, ↓hbp.g0, ↓hbp.g1, ↓hbp.g2, ↓hbp.g3, ↓hbp.g4, ↓hbp.g5, c7, hi, ↓zB_c e15, zB_c e15, Bool.false_eq_true]
          | true =>
            rw [gB] at e15
            simp (disch := ((try simp only [true_or, or_true, hbp.k, hbp.k1, hbp.k2, hbp.k3, hbp.k4, hbp.k5, hbp.k6, hbp.l1, hbp.l2, hbp.l3, hbp.l4, hbp.l5, hbp.l6, hbpk]) <;> (try omega))) only [↓reduceIte, ↓z_ite, ↓zR, ↓zB_R, ↓zB_B, ↓zB_ite, ↓zB_gI, ↓zB_pI, ↓zB_pZ, ↓zB_aK, ↓zB_G, ↓zB_lI, ↓zB_lZ, ↓zB_wI, ↓zB_wZ, ↓zB_lIl, ↓zB_wIl, zB_pI, zB_pZ, zB_lI, zB_lZ, zB_wI, zB_wZ, z_addl, z_ladd, z_mull, z_lmul, nI_add, z_subl, Nat.not_lt_zero, z_10, z_01, z_bitc, z_b0, z_b1, ↓zB_Gb, ↓zB_G0, ↓zB_G1, z_eql, z_leq, z_ltl, z_llt, z_eq, z_lt, z_m1lt, hbp.k, hbp.k1, hbp.k2, hbp.k3, hbp.k4, hbp.k5, hbp.k6, hbp.l1, hbp.l2, hbp.l3, hbp.l4, hbp.l5, hbp.l6, hbpk, ↓hbp.g0, ↓hbp.g1, ↓hbp.g2, ↓hbp.g3, ↓hbp.g4, ↓hbp.g5, c7, hi, ↓zB_c e15, zB_c e15, Bool.true_eq_false]
        · dsimp only
          unfold f114_32b f114_63
          rw [Nat.zero_add]
          simp (disch := ((try simp only [true_or, or_true, hbp.k, hbp.k1, hbp.k2, hbp.k3, hbp.k4, hbp.k5, hbp.k6, hbp.l1, hbp.l2, hbp.l3, hbp.l4, hbp.l5, hbp.l6, hbpk]) <;> (try omega))) only [↓reduceIte, ↓z_ite, ↓zR, ↓zB_R, ↓zB_B, ↓zB_ite, ↓zB_gI, ↓zB_pI, ↓zB_pZ, ↓zB_aK, ↓zB_G, ↓zB_lI, ↓zB_lZ, ↓zB_wI, ↓zB_wZ, ↓zB_lIl, ↓zB_wIl, zB_pI, zB_pZ, zB_lI, zB_lZ, zB_wI, zB_wZ, z_addl, z_ladd, z_mull, z_lmul, nI_add, z_subl, Nat.not_lt_zero, z_10, z_01, z_bitc, z_b0, z_b1, ↓zB_Gb, ↓zB_G0, ↓zB_G1, z_eql, z_leq, z_ltl, z_llt, z_eq, z_lt, z_m1lt, hbp.k, hbp.k1, hbp.k2, hbp.k3, hbp.k4, hbp.k5, hbp.k6, hbp.l1, hbp.l2, hbp.l3, hbp.l4, hbp.l5, hbp.l6, hbpk, ↓hbp.g0, ↓hbp.g1, ↓hbp.g2, ↓hbp.g3, ↓hbp.g4, ↓hbp.g5, c7, Nat.lt_irrefl]
      rw [Bool.true_and]
      simp (disch := ((try simp only [true_or, or_true, hp.k, hp.k1, hp.k2, hp.k3, hp.k4, hp.k5, hp.k6, hp.k7, hp.k8, hp.k9, hp.k10, hp.l1, hp.l2, hp.l3, hp.l4, hp.l5, hp.l6, hp.l7, hp.l8, hp.l9, hp.l10]) <;> (try omega))) only [↓reduceIte, ↓z_ite, ↓zR, ↓zB_R, ↓zB_B, ↓zB_ite, ↓zB_gI, ↓zB_pI, ↓zB_pZ, ↓zB_aK, ↓zB_G, ↓zB_lI, ↓zB_lZ, ↓zB_wI, ↓zB_wZ, ↓zB_lIl, ↓zB_wIl, zB_pI, zB_pZ, zB_lI, zB_lZ, zB_wI, zB_wZ, z_addl, z_ladd, z_mull, z_lmul, nI_add, z_subl, Nat.not_lt_zero, z_10, z_01, z_bitc, z_b0, z_b1, ↓zB_Gb, ↓zB_G0, ↓zB_G1, z_eql, z_leq, z_ltl, z_llt, z_eq, z_lt, z_m1lt, hp.k, hp.k1, hp.k2, hp.k3, hp.k4, hp.k5, hp.k6, hp.k7, hp.k8, hp.k9, hp.k10, hp.l1, hp.l2, hp.l3, hp.l4, hp.l5, hp.l6, hp.l7, hp.l8, hp.l9, hp.l10, ↓hp.g0, ↓hp.g1, ↓hp.g2, ↓hp.g3, ↓hp.g4, ↓hp.g5, ↓hp.g6, ↓hp.g7, ↓hp.g8, ↓hp.g9, ↓hp.gb, hp.gb, h0, hj, hb0, Bool.true_eq_false, h24]
      rw [inner]
      split <;> rfl
  · dsimp only
    unfold f114_2b f114_69
    rw [Nat.zero_add]
    simp (disch := ((try simp only [true_or, or_true, hp.k, hp.k1, hp.k2, hp.k3, hp.k4, hp.k5, hp.k6, hp.k7, hp.k8, hp.k9, hp.k10, hp.l1, hp.l2, hp.l3, hp.l4, hp.l5, hp.l6, hp.l7, hp.l8, hp.l9, hp.l10]) <;> (try omega))) only [↓reduceIte, ↓z_ite, ↓zR, ↓zB_R, ↓zB_B, ↓zB_ite, ↓zB_gI, ↓zB_pI, ↓zB_pZ, ↓zB_aK, ↓zB_G, ↓zB_lI, ↓zB_lZ, ↓zB_wI, ↓zB_wZ, ↓zB_lIl, ↓zB_wIl, zB_pI, zB_pZ, zB_lI, zB_lZ, zB_wI, zB_wZ, z_addl, z_ladd, z_mull, z_lmul, nI_add, z_subl, Nat.not_lt_zero, z_10, z_01, z_bitc, z_b0, z_b1, ↓zB_Gb, ↓zB_G0, ↓zB_G1, z_eql, z_leq, z_ltl, z_llt, z_eq, z_lt, z_m1lt, hp.k, hp.k1, hp.k2, hp.k3, hp.k4, hp.k5, hp.k6, hp.k7, hp.k8, hp.k9, hp.k10, hp.l1, hp.l2, hp.l3, hp.l4, hp.l5, hp.l6, hp.l7, hp.l8, hp.l9, hp.l10, ↓hp.g0, ↓hp.g1, ↓hp.g2, ↓hp.g3, ↓hp.g4, ↓hp.g5, ↓hp.g6, ↓hp.g7, ↓hp.g8, ↓hp.g9, ↓hp.gb, hp.gb, h0, Nat.lt_irrefl]
/-- has an argument an effect -/
noncomputable def z_dpE (P : z_Pg) (k x : Nat) : Bool := z_any (fun j => z_liv P j && z_any (fun i => z_cf P (z_fam P k) j i && !z_plain (z_bd P j) (z_pt (z_bd P j) i (1 + x))) (z_bd P j).length) (z_nm P)
theorem f115_sp (hp : z_PS S p) (h : z_cp m p P) (ht : z_LT m p P) (hw : z_wf P) (hR : z_RT P) {k x : Nat} (hk : k < z_nm P) (hlk : z_liv P k = true) (hx : x < z_cnt P k) : f115 p (z_M (z_nm P) (z_fam P k)) (nI x) (z_hp S m) = some (z_b (z_dpE P k x), z_hp S m) := by
  have h24 := hw.2.2.1
  have h0 := h.2.1.1
  have hpk := hp.k
  have hc2 : z_cnt P k ≤ 2 := (hw.2.2.2.1 k hk).2.2.2.1.1
  have key := z_search (f := fun s => f115_2b (s.1) (s.2.1) (s.2.2.1) (s.2.2.2)) (S := S) (m := m) (fun j => (p, z_M (z_nm P) (z_fam P k), nI x, nI j)) (fun j => z_liv P j && z_any (fun i => z_cf P (z_fam P k) j i && !z_plain (z_bd P j) (z_pt (z_bd P j) i (1 + x))) (z_bd P j).length) (fun _ => (1 : Int32)) 0 (z_nm P) 0 1000000 (by omega) (fun j _ hj => ?_) ?_
  · rw [z_sch_if0] at key
    unfold f115 f115_2
    rw [show (0 : Int32) = nI 0 from rfl, key]
    unfold z_dpE
    cases z_any (fun j => z_liv P j && z_any (fun i => z_cf P (z_fam P k) j i && !z_plain (z_bd P j) (z_pt (z_bd P j) i (1 + x))) (z_bd P j).length) (z_nm P) with
    | true => rfl
    | false => rfl
  · have hj : j < z_nm P := by omega
    have e79 := f79_sp hp h (k := j) (by omega)
    have ethr : z_thr P j = z_liv P j := by unfold z_thr; rw [decide_eq_true hj, Bool.true_and]
    rw [ethr] at e79
    dsimp only
    unfold f115_2b f115_79
    cases hl : z_liv P j with
    | false =>
      rw [hl] at e79
      simp (disch := ((try simp only [true_or, or_true, hp.k, hp.k1, hp.k2, hp.k3, hp.k4, hp.k5, hp.k6, hp.k7, hp.k8, hp.k9, hp.k10, hp.l1, hp.l2, hp.l3, hp.l4, hp.l5, hp.l6, hp.l7, hp.l8, hp.l9, hp.l10, hpk]) <;> (try omega))) only [↓reduceIte, ↓z_ite, ↓zR, ↓zB_R, ↓zB_B, ↓zB_ite, ↓zB_gI, ↓zB_pI, ↓zB_pZ, ↓zB_aK, ↓zB_G, ↓zB_lI, ↓zB_lZ, ↓zB_wI, ↓zB_wZ, ↓zB_lIl, ↓zB_wIl, zB_pI, zB_pZ, zB_lI, zB_lZ, zB_wI, zB_wZ, z_addl, z_ladd, z_mull, z_lmul, nI_add, z_subl, Nat.not_lt_zero, z_10, z_01, z_bitc, z_b0, z_b1, ↓zB_Gb, ↓zB_G0, ↓zB_G1, z_eql, z_leq, z_ltl, z_llt, z_eq, z_lt, z_m1lt, hp.k, hp.k1, hp.k2, hp.k3, hp.k4, hp.k5, hp.k6, hp.k7, hp.k8, hp.k9, hp.k10, hp.l1, hp.l2, hp.l3, hp.l4, hp.l5, hp.l6, hp.l7, hp.l8, hp.l9, hp.l10, hpk, ↓hp.g0, ↓hp.g1, ↓hp.g2, ↓hp.g3, ↓hp.g4, ↓hp.g5, ↓hp.g6, ↓hp.g7, ↓hp.g8, ↓hp.g9, ↓hp.gb, hp.gb, h0, hj, ↓zB_c e79, zB_c e79, Bool.false_and, Bool.false_eq_true]
    | true =>
      rw [hl] at e79
      have hbp := hp.B (k := j) (by omega)
      have hbpk := hbp.k
      have hb := h.2.2.2 j hj hl
      have hlen : (z_bd P j).length ≤ 60 := hb.2.2.1
      have c7 := hb.2.1
      have hB := hw.2.2.2.2.1 j hj
      have hT := ht j hj hl
      have inner : f115_32 p (z_M (z_nm P) (z_fam P k)) (nI x) (nI j) (z_bi p j) 0 (z_hp S m) = some (if z_any (fun i => z_cf P (z_fam P k) j i && !z_plain (z_bd P j) (z_pt (z_bd P j) i (1 + x))) (z_bd P j).length = true then .inr 1 else .inl (p, z_M (z_nm P) (z_fam P k), nI x, nI (j + 1)), z_hp S m) := by
        unfold f115_32
        have key := z_search (f := fun s => f115_32b (s.1) (s.2.1) (s.2.2.1) (s.2.2.2.1) (s.2.2.2.2.1) (s.2.2.2.2.2)) (S := S) (m := m) (fun i => (p, z_M (z_nm P) (z_fam P k), nI x, nI j, z_bi p j, nI i)) (fun i => z_cf P (z_fam P k) j i && !z_plain (z_bd P j) (z_pt (z_bd P j) i (1 + x))) (fun _ => (Sum.inr 1 : (Nat × Int32 × Int32 × Int32) ⊕ Int32)) (.inl (p, z_M (z_nm P) (z_fam P k), nI x, nI (j + 1))) (z_bd P j).length 0 1000000 (by omega) (fun i _ hi => ?_) ?_
        · rw [z_sch_if0] at key
          exact key
        · have hi : i < (z_bd P j).length := by omega
          have e17 := f17_sp hbp hb (B := z_Bd P j) (fun i hi => (hT.2 i hi).2) hi (fun h7 => by
            obtain ⟨a1, a2, _⟩ := z_call_q hw hj (hR j hj hl) hi h7
            exact ⟨a1, by omega⟩) (z_M (z_nm P) (z_fam P k))
          rw [z_M_cf hw hR hj hl hi] at e17
          have e9 := f9_sp hbp hb hB.1 hi (fun u _ hu => hT.1 u hu) (1 + x) (by omega)
          have ex : (1 : Int32) + nI x = nI (1 + x) := nI_add 1 x
          dsimp only
          unfold f115_32b f115_71 f115_73
          cases gc : z_cf P (z_fam P k) j i with
          | false =>
            rw [gc] at e17
            simp (disch := ((try simp only [true_or, or_true, hbp.k, hbp.k1, hbp.k2, hbp.k3, hbp.k4, hbp.k5, hbp.k6, hbp.l1, hbp.l2, hbp.l3, hbp.l4, hbp.l5, hbp.l6, hbpk]) <;> (try omega))) only [↓reduceIte, ↓z_ite, ↓zR, ↓zB_R, ↓zB_B, ↓zB_ite, ↓zB_gI, ↓zB_pI, ↓zB_pZ, ↓zB_aK, ↓zB_G, ↓zB_lI, ↓zB_lZ, ↓zB_wI, ↓zB_wZ, ↓zB_lIl, ↓zB_wIl, zB_pI, zB_pZ, zB_lI, zB_lZ, zB_wI, zB_wZ, z_addl, z_ladd, z_mull, z_lmul, nI_add, z_subl, Nat.not_lt_zero, z_10, z_01, z_bitc, z_b0, z_b1, ↓zB_Gb, ↓zB_G0, ↓zB_G1, z_eql, z_leq, z_ltl, z_llt, z_eq, z_lt, z_m1lt, hbp.k, hbp.k1, hbp.k2, hbp.k3, hbp.k4, hbp.k5, hbp.k6, hbp.l1, hbp.l2, hbp.l3, hbp.l4, hbp.l5, hbp.l6, hbpk, ↓hbp.g0, ↓hbp.g1, ↓hbp.g2, ↓hbp.g3, ↓hbp.g4, ↓hbp.g5, c7, hi, ↓zB_c e17, zB_c e17, Bool.false_and, Bool.false_eq_true]
          | true =>
            rw [gc] at e17
            have hpp := (z_cf_dp hw hR hk hlk hx hj hl gc).2.1
            have hpt := z_pt_lt hB.1 hi hpp
            have e116 := f116_sp hbp hb hB.1 hT.1 hpt
            cases gp : z_plain (z_bd P j) (z_pt (z_bd P j) i (1 + x)) with
            | true =>
              rw [gp] at e116
              simp (disch := ((try simp only [true_or, or_true, hbp.k, hbp.k1, hbp.k2, hbp.k3, hbp.k4, hbp.k5, hbp.k6, hbp.l1, hbp.l2, hbp.l3, hbp.l4, hbp.l5, hbp.l6, hbpk]) <;> (try omega))) only [↓reduceIte, ↓z_ite, ↓zR, ↓zB_R, ↓zB_B, ↓zB_ite, ↓zB_gI, ↓zB_pI, ↓zB_pZ, ↓zB_aK, ↓zB_G, ↓zB_lI, ↓zB_lZ, ↓zB_wI, ↓zB_wZ, ↓zB_lIl, ↓zB_wIl, zB_pI, zB_pZ, zB_lI, zB_lZ, zB_wI, zB_wZ, z_addl, z_ladd, z_mull, z_lmul, nI_add, z_subl, Nat.not_lt_zero, z_10, z_01, z_bitc, z_b0, z_b1, ↓zB_Gb, ↓zB_G0, ↓zB_G1, z_eql, z_leq, z_ltl, z_llt, z_eq, z_lt, z_m1lt, hbp.k, hbp.k1, hbp.k2, hbp.k3, hbp.k4, hbp.k5, hbp.k6, hbp.l1, hbp.l2, hbp.l3, hbp.l4, hbp.l5, hbp.l6, hbpk, ↓hbp.g0, ↓hbp.g1, ↓hbp.g2, ↓hbp.g3, ↓hbp.g4, ↓hbp.g5, c7, hi, ↓zB_c e17, zB_c e17, Bool.true_eq_false, ex, ↓zB_c e9, zB_c e9, ↓zB_c e116, zB_c e116, Bool.not_true, Bool.and_false, Bool.false_eq_true]
            | false =>
              rw [gp] at e116
              simp (disch := ((try simp only [true_or, or_true, hbp.k, hbp.k1, hbp.k2, hbp.k3, hbp.k4, hbp.k5, hbp.k6, hbp.l1, hbp.l2, hbp.l3, hbp.l4, hbp.l5, hbp.l6, hbpk]) <;> (try omega))) only [↓reduceIte, ↓z_ite, ↓zR, ↓zB_R, ↓zB_B, ↓zB_ite, ↓zB_gI, ↓zB_pI, ↓zB_pZ, ↓zB_aK, ↓zB_G, ↓zB_lI, ↓zB_lZ, ↓zB_wI, ↓zB_wZ, ↓zB_lIl, ↓zB_wIl, zB_pI, zB_pZ, zB_lI, zB_lZ, zB_wI, zB_wZ, z_addl, z_ladd, z_mull, z_lmul, nI_add, z_subl, Nat.not_lt_zero, z_10, z_01, z_bitc, z_b0, z_b1, ↓zB_Gb, ↓zB_G0, ↓zB_G1, z_eql, z_leq, z_ltl, z_llt, z_eq, z_lt, z_m1lt, hbp.k, hbp.k1, hbp.k2, hbp.k3, hbp.k4, hbp.k5, hbp.k6, hbp.l1, hbp.l2, hbp.l3, hbp.l4, hbp.l5, hbp.l6, hbpk, ↓hbp.g0, ↓hbp.g1, ↓hbp.g2, ↓hbp.g3, ↓hbp.g4, ↓hbp.g5, c7, hi, ↓zB_c e17, zB_c e17, Bool.true_eq_false, ex, ↓zB_c e9, zB_c e9, ↓zB_c e116, zB_c e116, Bool.not_false, Bool.true_and]
        · dsimp only
          unfold f115_32b f115_79
          rw [Nat.zero_add]
          simp (disch := ((try simp only [true_or, or_true, hbp.k, hbp.k1, hbp.k2, hbp.k3, hbp.k4, hbp.k5, hbp.k6, hbp.l1, hbp.l2, hbp.l3, hbp.l4, hbp.l5, hbp.l6, hbpk]) <;> (try omega))) only [↓reduceIte, ↓z_ite, ↓zR, ↓zB_R, ↓zB_B, ↓zB_ite, ↓zB_gI, ↓zB_pI, ↓zB_pZ, ↓zB_aK, ↓zB_G, ↓zB_lI, ↓zB_lZ, ↓zB_wI, ↓zB_wZ, ↓zB_lIl, ↓zB_wIl, zB_pI, zB_pZ, zB_lI, zB_lZ, zB_wI, zB_wZ, z_addl, z_ladd, z_mull, z_lmul, nI_add, z_subl, Nat.not_lt_zero, z_10, z_01, z_bitc, z_b0, z_b1, ↓zB_Gb, ↓zB_G0, ↓zB_G1, z_eql, z_leq, z_ltl, z_llt, z_eq, z_lt, z_m1lt, hbp.k, hbp.k1, hbp.k2, hbp.k3, hbp.k4, hbp.k5, hbp.k6, hbp.l1, hbp.l2, hbp.l3, hbp.l4, hbp.l5, hbp.l6, hbpk, ↓hbp.g0, ↓hbp.g1, ↓hbp.g2, ↓hbp.g3, ↓hbp.g4, ↓hbp.g5, c7, Nat.lt_irrefl]
      rw [Bool.true_and]
      simp (disch := ((try simp only [true_or, or_true, hp.k, hp.k1, hp.k2, hp.k3, hp.k4, hp.k5, hp.k6, hp.k7, hp.k8, hp.k9, hp.k10, hp.l1, hp.l2, hp.l3, hp.l4, hp.l5, hp.l6, hp.l7, hp.l8, hp.l9, hp.l10, hpk]) <;> (try omega))) only [↓reduceIte, ↓z_ite, ↓zR, ↓zB_R, ↓zB_B, ↓zB_ite, ↓zB_gI, ↓zB_pI, ↓zB_pZ, ↓zB_aK, ↓zB_G, ↓zB_lI, ↓zB_lZ, ↓zB_wI, ↓zB_wZ, ↓zB_lIl, ↓zB_wIl, zB_pI, zB_pZ, zB_lI, zB_lZ, zB_wI, zB_wZ, z_addl, z_ladd, z_mull, z_lmul, nI_add, z_subl, Nat.not_lt_zero, z_10, z_01, z_bitc, z_b0, z_b1, ↓zB_Gb, ↓zB_G0, ↓zB_G1, z_eql, z_leq, z_ltl, z_llt, z_eq, z_lt, z_m1lt, hp.k, hp.k1, hp.k2, hp.k3, hp.k4, hp.k5, hp.k6, hp.k7, hp.k8, hp.k9, hp.k10, hp.l1, hp.l2, hp.l3, hp.l4, hp.l5, hp.l6, hp.l7, hp.l8, hp.l9, hp.l10, hpk, ↓hp.g0, ↓hp.g1, ↓hp.g2, ↓hp.g3, ↓hp.g4, ↓hp.g5, ↓hp.g6, ↓hp.g7, ↓hp.g8, ↓hp.g9, ↓hp.gb, hp.gb, h0, hj, ↓zB_c e79, zB_c e79, Bool.true_eq_false, h24]
      rw [inner]
      split <;> rfl
  · dsimp only
    unfold f115_2b f115_85
    rw [Nat.zero_add]
    simp (disch := ((try simp only [true_or, or_true, hp.k, hp.k1, hp.k2, hp.k3, hp.k4, hp.k5, hp.k6, hp.k7, hp.k8, hp.k9, hp.k10, hp.l1, hp.l2, hp.l3, hp.l4, hp.l5, hp.l6, hp.l7, hp.l8, hp.l9, hp.l10]) <;> (try omega))) only [↓reduceIte, ↓z_ite, ↓zR, ↓zB_R, ↓zB_B, ↓zB_ite, ↓zB_gI, ↓zB_pI, ↓zB_pZ, ↓zB_aK, ↓zB_G, ↓zB_lI, ↓zB_lZ, ↓zB_wI, ↓zB_wZ, ↓zB_lIl, ↓zB_wIl, zB_pI, zB_pZ, zB_lI, zB_lZ, zB_wI, zB_wZ, z_addl, z_ladd, z_mull, z_lmul, nI_add, z_subl, Nat.not_lt_zero, z_10, z_01, z_bitc, z_b0, z_b1, ↓zB_Gb, ↓zB_G0, ↓zB_G1, z_eql, z_leq, z_ltl, z_llt, z_eq, z_lt, z_m1lt, hp.k, hp.k1, hp.k2, hp.k3, hp.k4, hp.k5, hp.k6, hp.k7, hp.k8, hp.k9, hp.k10, hp.l1, hp.l2, hp.l3, hp.l4, hp.l5, hp.l6, hp.l7, hp.l8, hp.l9, hp.l10, ↓hp.g0, ↓hp.g1, ↓hp.g2, ↓hp.g3, ↓hp.g4, ↓hp.g5, ↓hp.g6, ↓hp.g7, ↓hp.g8, ↓hp.g9, ↓hp.gb, hp.gb, h0, Nat.lt_irrefl]
end
