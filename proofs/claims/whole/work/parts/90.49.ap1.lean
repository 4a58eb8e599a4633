-- deps: 90.48.ap0
/-! an argument more: the class writes a body -/
section
variable {S : z_S} {m : z_m} {p q : Nat} {P : z_Pg} {A : z_A}
theorem z_call_cnt (hw : z_wf P) {k i : Nat} (hk : k < z_nm P) (hr : z_rt P k (z_bd P k)) (hi : i < (z_bd P k).length) (h7 : z_k (z_bd P k) i = 7) : z_hd P (z_cq (z_Bd P k) i) 3 = z_a (z_bd P k) i := by
  obtain ⟨c, q, _, _, _, h4, h5, h6, _⟩ := z_call hw hk hr hi h7
  have h24 := hw.2.2.1
  have e : z_cq (z_Bd P k) i = q := by
    unfold z_cq
    rw [h4, nI_clamp (by omega)]; omega
  rw [e]
  unfold z_isc at h6
  simp only [Bool.and_eq_true, beq_iff_eq] at h6
  exact h6.2.2
/-- the calls of a family in a body are 7 and have as many arguments as the family -/
theorem z_cf_a (hw : z_wf P) (hR : z_RT P) {k j i : Nat} (hk : k < z_nm P) (hlk : z_liv P k = true) (hj : j < z_nm P) (hl : z_liv P j = true) (hi : i < (z_bd P j).length) (h : z_cf P (z_fam P k) j i = true) : z_k (z_bd P j) i = 7 ∧ z_a (z_bd P j) i = z_hd P k 3 := by
  unfold z_cf at h
  simp only [Bool.and_eq_true, beq_iff_eq] at h
  obtain ⟨h7, hf⟩ := h
  refine ⟨h7, ?_⟩
  have hfi := (z_fam_isc hk hlk hf).2
  unfold z_isc at hfi
  simp only [Bool.and_eq_true, beq_iff_eq] at hfi
  rw [← hfi.2.2]
  exact (z_call_cnt hw hj (hR j hj hl) hi h7).symm
theorem f112_82_sp (hX : z_XS S) (hp : z_PS S p) (lo : 242 ≤ p) (h : z_cp m p P) (ht : z_LT m p P) (hw : z_wf P) (hR : z_RT P) {s : Nat → Bool} {j i : Nat} (hj : j < z_nm P) (hl : z_liv P j = true) (hi : i < (z_bd P j).length) {v : Int32} (c0 : Int32) {L : List z_N} (hsh : z_cb m 54 256 L) (hL : L.length + 60 ≤ 256) : ∃ m', f112_82 53 (z_bi p j) (z_M (z_nm P) s) v c0 (nI i) (nI i) (z_hp S m) = some (.inl (53, z_bi p j, z_M (z_nm P) s, v, c0, nI (i + 1)), z_hp S m') ∧ z_cb m' 54 256 (L ++ List.replicate (z_apc (z_bd P j) (z_cf P s j) (i + 1)) (0, v, 0)) ∧ z_bF 54 m m' := by
  have h24 := hw.2.2.1
  have hbp := hp.B (k := j) (by omega)
  have hbpk := hbp.k
  have h54 := hX.2.2.2.1.2.2.2
  have h54k := h54.k
  have hlen : (z_bd P j).length ≤ 60 := (h.2.2.2 j hj hl).2.2.1
  have hcl : ∀ n, n ≤ i + 1 → z_ct (fun q => z_cf P s j q && z_en (z_bd P j) q == i + 1) n ≤ z_apc (z_bd P j) (z_cf P s j) (i + 1) := fun n hn => by
    unfold z_apc
    rw [show i + 1 = n + (i + 1 - n) by omega, z_ct_add]; omega
  have hc60 : z_apc (z_bd P j) (z_cf P s j) (i + 1) ≤ i + 1 := z_ct_le _
  unfold f112_82
  have key := z_loopI (f := fun s => f112_82b (s.1) (s.2.1) (s.2.2.1) (s.2.2.2.1) (s.2.2.2.2.1) (s.2.2.2.2.2.1) (s.2.2.2.2.2.2)) (S := S) (fun N st m' => ∃ t, N = t ∧ t ≤ i + 1 ∧ st = (53, z_bi p j, z_M (z_nm P) s, v, c0, nI i, (if t = 0 then -1 else nI (t - 1))) ∧ z_cb m' 54 256 (L ++ List.replicate (z_apc (z_bd P j) (z_cf P s j) (i + 1) - z_ct (fun q => z_cf P s j q && z_en (z_bd P j) q == i + 1) t) (0, v, 0)) ∧ z_bF 54 m m') (fun r m' => r = .inl (53, z_bi p j, z_M (z_nm P) s, v, c0, nI (i + 1)) ∧ z_cb m' 54 256 (L ++ List.replicate (z_apc (z_bd P j) (z_cf P s j) (i + 1)) (0, v, 0)) ∧ z_bF 54 m m') ?_ 1000000 (i + 1) (53, z_bi p j, z_M (z_nm P) s, v, c0, nI i, nI i) m ⟨i + 1, rfl, Nat.le_refl _, rfl, by
    have : z_apc (z_bd P j) (z_cf P s j) (i + 1) - z_ct (fun q => z_cf P s j q && z_en (z_bd P j) q == i + 1) (i + 1) = 0 := Nat.sub_self _
    rw [this, List.replicate_zero, List.append_nil]; exact hsh, z_bF.refl _ _⟩ (by omega)
  · obtain ⟨r, m', e, rfl, g⟩ := key
    exact ⟨m', e, g⟩
  · rintro t st m1 ⟨_, rfl, ht1, rfl, g1, g2⟩
    dsimp only
    cases t with
    | zero =>
      refine Or.inr ⟨_, m1, ?_, rfl, g1, g2⟩
      unfold f112_82b f112_127
      rw [if_pos rfl]
      simp (disch := ((try simp only [true_or, or_true]) <;> (try omega))) only [↓reduceIte, ↓z_ite, ↓zR, ↓zB_R, ↓zB_B, ↓zB_ite, ↓zB_gI, ↓zB_pI, ↓zB_pZ, ↓zB_aK, ↓zB_G, ↓zB_lI, ↓zB_lZ, ↓zB_wI, ↓zB_wZ, ↓zB_lIl, ↓zB_wIl, zB_pI, zB_pZ, zB_lI, zB_lZ, zB_wI, zB_wZ, z_addl, z_ladd, z_mull, z_lmul, nI_add, z_subl, Nat.not_lt_zero, z_10, z_01, z_bitc, z_b0, z_b1, ↓zB_Gb, ↓zB_G0, ↓zB_G1, z_eql, z_leq, z_ltl, z_llt, z_eq, z_lt, z_m1lt, z_m1l]
    | succ t =>
      have hcp1 : z_cp m1 p P := g2.cp (by omega) h24 h
      have hT1 : z_LT m1 p P := z_LT_fr hw (fun a x1 x2 => g2.at (by omega)) ht
      have hb1 := hcp1.2.2.2 j hj hl
      have hti : t < (z_bd P j).length := by omega
      have hen := (hT1 j hj hl).1 t hti
      have hlen2 := z_en_le (hw.2.2.2.2.1 j hj).1 hti
      rw [if_neg (Nat.succ_ne_zero t), Nat.add_sub_cancel]
      have hnx : (if t = 0 then (-1 : Int32) else nI (t - 1)) = nI t + (-1) := by
        by_cases g : t = 0
        · rw [if_pos g, g]; rfl
        · rw [if_neg g, z_m1 (by omega)]
      have hct := z_ct_s (fun q => z_cf P s j q && z_en (z_bd P j) q == i + 1) t
      have hle := hcl (t + 1) (by omega)
      have e17 := f17_sp hbp hb1 (B := z_Bd P j) (fun i hi => ((hT1 j hj hl).2 i hi).2) hti (fun h7 => by
        obtain ⟨a1, a2, _⟩ := z_call_q hw hj (hR j hj hl) hti h7
        exact ⟨a1, by omega⟩) (z_M (z_nm P) s)
      rw [z_M_cf hw hR hj hl hti] at e17
      have skip : (z_cf P s j t && z_en (z_bd P j) t == i + 1) = false → ∃ s' m' n', f112_82b 53 (z_bi p j) (z_M (z_nm P) s) v c0 (nI i) (nI t) (z_hp S m1) = some (.inl s', z_hp S m') ∧ n' < t + 1 ∧ ∃ t', n' = t' ∧ t' ≤ i + 1 ∧ s' = (53, z_bi p j, z_M (z_nm P) s, v, c0, nI i, (if t' = 0 then -1 else nI (t' - 1))) ∧ z_cb m' 54 256 (L ++ List.replicate (z_apc (z_bd P j) (z_cf P s j) (i + 1) - z_ct (fun q => z_cf P s j q && z_en (z_bd P j) q == i + 1) t') (0, v, 0)) ∧ z_bF 54 m m' := fun gf => by
        rw [gf] at hct
        refine ⟨_, m1, t, ?_, Nat.lt_succ_self t, t, rfl, by omega, rfl, by rw [show z_ct (fun q => z_cf P s j q && z_en (z_bd P j) q == i + 1) t = z_ct (fun q => z_cf P s j q && z_en (z_bd P j) q == i + 1) (t + 1) from hct.symm]; exact g1, g2⟩
        rw [hnx]
        unfold f112_82b f112_121
        have t0 : ¬ nI t < 0 := nI_pos (by omega)
        by_cases ge : z_en (z_bd P j) t = i + 1
        · have gc : z_cf P s j t = false := by
            rw [show (z_en (z_bd P j) t == i + 1) = true by simpa using ge, Bool.and_true] at gf
            exact gf
          rw [gc] at e17
          simp (disch := ((try simp only [true_or, or_true, hbp.k, hbp.k1, hbp.k2, hbp.k3, hbp.k4, hbp.k5, hbp.k6, hbp.l1, hbp.l2, hbp.l3, hbp.l4, hbp.l5, hbp.l6, hbpk]) <;> (try omega))) only [↓reduceIte, ↓z_ite, ↓zR, ↓zB_R, ↓zB_B, ↓zB_ite, ↓zB_gI, ↓zB_pI, ↓zB_pZ, ↓zB_aK, ↓zB_G, ↓zB_lI, ↓zB_lZ, ↓zB_wI, ↓zB_wZ, ↓zB_lIl, ↓zB_wIl, zB_pI, zB_pZ, zB_lI, zB_lZ, zB_wI, zB_wZ, z_addl, z_ladd, z_mull, z_lmul, nI_add, z_subl, Nat.not_lt_zero, z_10, z_01, z_bitc, z_b0, z_b1, ↓zB_Gb, ↓zB_G0, ↓zB_G1, z_eql, z_leq, z_ltl, z_llt, z_eq, z_lt, z_m1lt, hbp.k, hbp.k1, hbp.k2, hbp.k3, hbp.k4, hbp.k5, hbp.k6, hbp.l1, hbp.l2, hbp.l3, hbp.l4, hbp.l5, hbp.l6, hbpk, ↓hbp.g0, ↓hbp.g1, ↓hbp.g2, ↓hbp.g3, ↓hbp.g4, ↓hbp.g5, t0, hti, hen, ge, ↓zB_c e17, zB_c e17]
        · simp (disch := ((try simp only [true_or, or_true, hbp.k, hbp.k1, hbp.k2, hbp.k3, hbp.k4, hbp.k5, hbp.k6, hbp.l1, hbp.l2, hbp.l3, hbp.l4, hbp.l5, hbp.l6, hbpk]) <;> (try omega))) only [↓reduceIte, ↓z_ite, ↓zR, ↓zB_R, ↓zB_B, ↓zB_ite, ↓zB_gI, ↓zB_pI, ↓zB_pZ, ↓zB_aK, ↓zB_G, ↓zB_lI, ↓zB_lZ, ↓zB_wI, ↓zB_wZ, ↓zB_lIl, ↓zB_wIl, zB_pI, zB_pZ, zB_lI, zB_lZ, zB_wI, zB_wZ, z_addl, z_ladd, z_mull, z_lmul, nI_add, z_subl, Nat.not_lt_zero, z_10, z_01, z_bitc, z_b0, z_b1, ↓zB_Gb, ↓zB_G0, ↓zB_G1, z_eql, z_leq, z_ltl, z_llt, z_eq, z_lt, z_m1lt, hbp.k, hbp.k1, hbp.k2, hbp.k3, hbp.k4, hbp.k5, hbp.k6, hbp.l1, hbp.l2, hbp.l3, hbp.l4, hbp.l5, hbp.l6, hbpk, ↓hbp.g0, ↓hbp.g1, ↓hbp.g2, ↓hbp.g3, ↓hbp.g4, ↓hbp.g5, t0, hti, hen, ge]
      cases gf : (z_cf P s j t && z_en (z_bd P j) t == i + 1) with
      | false => exact Or.inl (skip gf)
      | true =>
        rw [gf, if_pos rfl] at hct
        have gf2 := gf
        simp only [Bool.and_eq_true, beq_iff_eq] at gf2
        obtain ⟨gc, ge⟩ := gf2
        rw [gc] at e17
        obtain ⟨m2, e2, cb2, F2⟩ := f2_sp h54 g1 (by rw [List.length_append, List.length_replicate]; omega) (k := 0) (v := v) (a := 0)
        have e2 : f2 54 0 v 0 (z_hp S m1) = some ((), z_hp S m2) := e2
        refine Or.inl ⟨_, m2, t, ?_, Nat.lt_succ_self t, t, rfl, by omega, rfl, ?_, g2.trans F2⟩
        · rw [hnx]
          unfold f112_82b f112_121
          have t0 : ¬ nI t < 0 := nI_pos (by omega)
          simp (disch := ((try simp only [true_or, or_true, hbp.k, hbp.k1, hbp.k2, hbp.k3, hbp.k4, hbp.k5, hbp.k6, hbp.l1, hbp.l2, hbp.l3, hbp.l4, hbp.l5, hbp.l6, hX.k53, hbpk, h54k]) <;> (try omega))) only [↓reduceIte, ↓z_ite, ↓zR, ↓zB_R, ↓zB_B, ↓zB_ite, ↓zB_gI, ↓zB_pI, ↓zB_pZ, ↓zB_aK, ↓zB_G, ↓zB_lI, ↓zB_lZ, ↓zB_wI, ↓zB_wZ, ↓zB_lIl, ↓zB_wIl, zB_pI, zB_pZ, zB_lI, zB_lZ, zB_wI, zB_wZ, z_addl, z_ladd, z_mull, z_lmul, nI_add, z_subl, Nat.not_lt_zero, z_10, z_01, z_bitc, z_b0, z_b1, ↓zB_Gb, ↓zB_G0, ↓zB_G1, z_eql, z_leq, z_ltl, z_llt, z_eq, z_lt, z_m1lt, hbp.k, hbp.k1, hbp.k2, hbp.k3, hbp.k4, hbp.k5, hbp.k6, hbp.l1, hbp.l2, hbp.l3, hbp.l4, hbp.l5, hbp.l6, hX.k53, hbpk, h54k, ↓hbp.g0, ↓hbp.g1, ↓hbp.g2, ↓hbp.g3, ↓hbp.g4, ↓hbp.g5, ↓hX.g53_0, t0, hti, hen, ge, ↓zB_c e17, zB_c e17, Bool.true_eq_false, ↓zB_c e2, zB_c e2]
        · rw [List.append_assoc, ← List.replicate_succ'] at cb2
          rw [show z_apc (z_bd P j) (z_cf P s j) (i + 1) - z_ct (fun q => z_cf P s j q && z_en (z_bd P j) q == i + 1) t = z_apc (z_bd P j) (z_cf P s j) (i + 1) - z_ct (fun q => z_cf P s j q && z_en (z_bd P j) q == i + 1) (t + 1) + 1 by omega]
          exact cb2
/-- Signatures.lengthen -/
theorem f112_sp (hX : z_XS S) (hp : z_PS S p) (lo : 242 ≤ p) (h : z_cp m p P) (ht : z_LT m p P) (hw : z_wf P) (hR : z_RT P) {k j : Nat} (hk : k < z_nm P) (hlk : z_liv P k = true) (h3 : z_hd P k 3 = 0 ∨ z_hd P k 3 = 1) (hj : j < z_nm P) (hl : z_liv P j = true) {v : Int32} (hs54 : m 54 6 = nI 256) : ∃ m', f112 53 (z_bi p j) (z_M (z_nm P) (z_fam P k)) v (z_hp S m) = some (nI (z_ct (z_cf P (z_fam P k) j) (z_bd P j).length), z_hp S m') ∧ z_cb m' 54 256 (z_apD (z_bd P j) (z_cf P (z_fam P k) j) v) ∧ z_bF 54 m m' := by
  have h24 := hw.2.2.1
  have hbp := hp.B (k := j) (by omega)
  have hbpk := hbp.k
  have h54 := hX.2.2.2.1.2.2.2
  have h54k := h54.k
  have hlen : (z_bd P j).length ≤ 60 := (h.2.2.2 j hj hl).2.2.1
  obtain ⟨m2, e1, cb2, F2⟩ := f1_sp (S := S) h54 hs54 (by decide)
  have hB := hw.2.2.2.2.1 j hj
  have key := z_loopI (f := fun s => f112_13b (s.1) (s.2.1) (s.2.2.1) (s.2.2.2.1) (s.2.2.2.2.1) (s.2.2.2.2.2)) (S := S) (fun N st m' => ∃ i, N = (z_bd P j).length - i ∧ i ≤ (z_bd P j).length ∧ st = (53, z_bi p j, z_M (z_nm P) (z_fam P k), v, nI (z_ct (z_cf P (z_fam P k) j) i), nI i) ∧ z_cb m' 54 256 (z_cat (z_apg (z_bd P j) (z_cf P (z_fam P k) j) v) i) ∧ z_bF 54 m m') (fun r m' => r = nI (z_ct (z_cf P (z_fam P k) j) (z_bd P j).length) ∧ z_cb m' 54 256 (z_apD (z_bd P j) (z_cf P (z_fam P k) j) v) ∧ z_bF 54 m m') ?_ 1000000 (z_bd P j).length (53, z_bi p j, z_M (z_nm P) (z_fam P k), v, 0, 0) m2 ⟨0, rfl, Nat.zero_le _, rfl, cb2, F2⟩ (by omega)
  · obtain ⟨r, m', e, rfl, g⟩ := key
    refine ⟨m', ?_, g⟩
    unfold f112 f112_13
    simp (disch := ((try simp only [true_or, or_true, hX.k53, h54k]) <;> (try omega))) only [↓reduceIte, ↓z_ite, ↓zR, ↓zB_R, ↓zB_B, ↓zB_ite, ↓zB_gI, ↓zB_pI, ↓zB_pZ, ↓zB_aK, ↓zB_G, ↓zB_lI, ↓zB_lZ, ↓zB_wI, ↓zB_wZ, ↓zB_lIl, ↓zB_wIl, zB_pI, zB_pZ, zB_lI, zB_lZ, zB_wI, zB_wZ, z_addl, z_ladd, z_mull, z_lmul, nI_add, z_subl, Nat.not_lt_zero, z_10, z_01, z_bitc, z_b0, z_b1, ↓zB_Gb, ↓zB_G0, ↓zB_G1, z_eql, z_leq, z_ltl, z_llt, z_eq, z_lt, z_m1lt, hX.k53, h54k, ↓hX.g53_0, ↓zB_c e1, zB_c e1]
    exact e
  · rintro N st m1 ⟨i, rfl, hi, rfl, g1, g2⟩
    have hcp1 : z_cp m1 p P := g2.cp (by omega) h24 h
    have hT1 : z_LT m1 p P := z_LT_fr hw (fun a x1 x2 => g2.at (by omega)) ht
    have hb1 := hcp1.2.2.2 j hj hl
    have c71 := hb1.2.1
    have hlc := z_ap_len (l := z_bd P j) (s := z_cf P (z_fam P k) j) (v := v) i hi
    have hcl := z_ct_le (s := z_cf P (z_fam P k) j) i
    dsimp only
    rcases Nat.eq_or_lt_of_le hi with hi2 | hi2
    · refine Or.inr ⟨_, m1, ?_, rfl, by rw [hi2] at g1; exact g1, g2⟩
      unfold f112_13b f112_133
      rw [hi2]
      simp (disch := ((try simp only [true_or, or_true, hbp.k, hbp.k1, hbp.k2, hbp.k3, hbp.k4, hbp.k5, hbp.k6, hbp.l1, hbp.l2, hbp.l3, hbp.l4, hbp.l5, hbp.l6]) <;> (try omega))) only [↓reduceIte, ↓z_ite, ↓zR, ↓zB_R, ↓zB_B, ↓zB_ite, ↓zB_gI, ↓zB_pI, ↓zB_pZ, ↓zB_aK, ↓zB_G, ↓zB_lI, ↓zB_lZ, ↓zB_wI, ↓zB_wZ, ↓zB_lIl, ↓zB_wIl, zB_pI, zB_pZ, zB_lI, zB_lZ, zB_wI, zB_wZ, z_addl, z_ladd, z_mull, z_lmul, nI_add, z_subl, Nat.not_lt_zero, z_10, z_01, z_bitc, z_b0, z_b1, ↓zB_Gb, ↓zB_G0, ↓zB_G1, z_eql, z_leq, z_ltl, z_llt, z_eq, z_lt, z_m1lt, hbp.k, hbp.k1, hbp.k2, hbp.k3, hbp.k4, hbp.k5, hbp.k6, hbp.l1, hbp.l2, hbp.l3, hbp.l4, hbp.l5, hbp.l6, ↓hbp.g0, ↓hbp.g1, ↓hbp.g2, ↓hbp.g3, ↓hbp.g4, ↓hbp.g5, c71, Nat.lt_irrefl]
    · obtain ⟨n1, n2, n3⟩ := hb1.2.2.2.2 i hi2
      have e17 := f17_sp hbp hb1 (B := z_Bd P j) (fun i hi => ((hT1 j hj hl).2 i hi).2) hi2 (fun h7 => by
        obtain ⟨a1, a2, _⟩ := z_call_q hw hj (hR j hj hl) hi2 h7
        exact ⟨a1, by omega⟩) (z_M (z_nm P) (z_fam P k))
      rw [z_M_cf hw hR hj hl hi2] at e17
      obtain ⟨m3, e3, cb3, F3⟩ := f2_sp h54 g1 (show (z_cat (z_apg (z_bd P j) (z_cf P (z_fam P k) j) v) i).length < 256 by omega) (k := (z_apN (z_bd P j) (z_cf P (z_fam P k) j) i).1) (v := (z_apN (z_bd P j) (z_cf P (z_fam P k) j) i).2.1) (a := (z_apN (z_bd P j) (z_cf P (z_fam P k) j) i).2.2)
      have cb3 : z_cb m3 54 256 (z_cat (z_apg (z_bd P j) (z_cf P (z_fam P k) j) v) i ++ [z_apN (z_bd P j) (z_cf P (z_fam P k) j) i]) := cb3
      have F23 := g2.trans F3
      have hcp3 : z_cp m3 p P := F23.cp (by omega) h24 h
      have hT3 : z_LT m3 p P := z_LT_fr hw (fun a x1 x2 => F23.at (by omega)) ht
      obtain ⟨m4, e4, cb4, F4⟩ := f112_82_sp (s := z_fam P k) hX hp lo hcp3 hT3 hw hR hj hl hi2 (v := v) (nI (z_ct (z_cf P (z_fam P k) j) (i + 1))) cb3 (by rw [List.length_append]; show _ + 1 + 60 ≤ 256; omega)
      refine Or.inl ⟨(53, z_bi p j, z_M (z_nm P) (z_fam P k), v, nI (z_ct (z_cf P (z_fam P k) j) (i + 1)), nI (i + 1)), m4, (z_bd P j).length - (i + 1), ?_, by omega, i + 1, rfl, hi2, rfl, ?_, F23.trans F4⟩
      · unfold f112_13b f112_39 f112_74
        cases g : z_cf P (z_fam P k) j i with
        | false =>
          have hN : z_apN (z_bd P j) (z_cf P (z_fam P k) j) i = z_at (z_bd P j) i := by unfold z_apN; rw [g]; rfl
          have ec : z_ct (z_cf P (z_fam P k) j) (i + 1) = z_ct (z_cf P (z_fam P k) j) i := by rw [z_ct_s, g]; rfl
          rw [ec] at e4 ⊢
          rw [g] at e17
          rw [hN] at e3
          have e3 : f2 54 (z_k (z_bd P j) i) (z_v (z_bd P j) i) (nI (z_p (z_bd P j) i)) (z_hp S m1) = some ((), z_hp S m3) := e3
          simp (disch := ((try simp only [true_or, or_true, hbp.k, hbp.k1, hbp.k2, hbp.k3, hbp.k4, hbp.k5, hbp.k6, hbp.l1, hbp.l2, hbp.l3, hbp.l4, hbp.l5, hbp.l6, hX.k53, hbpk, h54k]) <;> (try omega))) only [↓reduceIte, ↓z_ite, ↓zR, ↓zB_R, ↓zB_B, ↓zB_ite, ↓zB_gI, ↓zB_pI, ↓zB_pZ, ↓zB_aK, ↓zB_G, ↓zB_lI, ↓zB_lZ, ↓zB_wI, ↓zB_wZ, ↓zB_lIl, ↓zB_wIl, zB_pI, zB_pZ, zB_lI, zB_lZ, zB_wI, zB_wZ, z_addl, z_ladd, z_mull, z_lmul, nI_add, z_subl, Nat.not_lt_zero, z_10, z_01, z_bitc, z_b0, z_b1, ↓zB_Gb, ↓zB_G0, ↓zB_G1, z_eql, z_leq, z_ltl, z_llt, z_eq, z_lt, z_m1lt, hbp.k, hbp.k1, hbp.k2, hbp.k3, hbp.k4, hbp.k5, hbp.k6, hbp.l1, hbp.l2, hbp.l3, hbp.l4, hbp.l5, hbp.l6, hX.k53, hbpk, h54k, ↓hbp.g0, ↓hbp.g1, ↓hbp.g2, ↓hbp.g3, ↓hbp.g4, ↓hbp.g5, ↓hX.g53_0, c71, hi2, ↓zB_c e17, zB_c e17, n1, n2, n3, Int32.add_zero, ↓zB_c e3, zB_c e3]
          exact e4
        | true =>
          obtain ⟨h7, ha⟩ := z_cf_a hw hR hk hlk hj hl hi2 g
          have hN : z_apN (z_bd P j) (z_cf P (z_fam P k) j) i = (z_k (z_bd P j) i, z_v (z_bd P j) i, z_a (z_bd P j) i + 1) := by unfold z_apN; rw [g, if_pos rfl]
          have ec : z_ct (z_cf P (z_fam P k) j) (i + 1) = z_ct (z_cf P (z_fam P k) j) i + 1 := by rw [z_ct_s, g]; rfl
          rw [ec] at e4 ⊢
          rw [g] at e17
          rw [hN] at e3
          have ep : z_pn (z_k (z_bd P j) i) (z_a (z_bd P j) i + 1) = z_p (z_bd P j) i + 1 := by
            unfold z_p
            rw [h7, ha]
            rcases h3 with q | q <;> rw [q] <;> rfl
          have e3 : f2 54 (z_k (z_bd P j) i) (z_v (z_bd P j) i) (nI (z_p (z_bd P j) i + 1)) (z_hp S m1) = some ((), z_hp S m3) := by rw [← ep]; exact e3
          simp (disch := ((try simp only [true_or, or_true, hbp.k, hbp.k1, hbp.k2, hbp.k3, hbp.k4, hbp.k5, hbp.k6, hbp.l1, hbp.l2, hbp.l3, hbp.l4, hbp.l5, hbp.l6, hX.k53, hbpk, h54k]) <;> (try omega))) only [↓reduceIte, ↓z_ite, ↓zR, ↓zB_R, ↓zB_B, ↓zB_ite, ↓zB_gI, ↓zB_pI, ↓zB_pZ, ↓zB_aK, ↓zB_G, ↓zB_lI, ↓zB_lZ, ↓zB_wI, ↓zB_wZ, ↓zB_lIl, ↓zB_wIl, zB_pI, zB_pZ, zB_lI, zB_lZ, zB_wI, zB_wZ, z_addl, z_ladd, z_mull, z_lmul, nI_add, z_subl, Nat.not_lt_zero, z_10, z_01, z_bitc, z_b0, z_b1, ↓zB_Gb, ↓zB_G0, ↓zB_G1, z_eql, z_leq, z_ltl, z_llt, z_eq, z_lt, z_m1lt, hbp.k, hbp.k1, hbp.k2, hbp.k3, hbp.k4, hbp.k5, hbp.k6, hbp.l1, hbp.l2, hbp.l3, hbp.l4, hbp.l5, hbp.l6, hX.k53, hbpk, h54k, ↓hbp.g0, ↓hbp.g1, ↓hbp.g2, ↓hbp.g3, ↓hbp.g4, ↓hbp.g5, ↓hX.g53_0, c71, hi2, ↓zB_c e17, zB_c e17, Bool.true_eq_false, n1, n2, n3, ↓zB_c e3, zB_c e3]
          exact e4
      · show z_cb m4 54 256 (z_cat (z_apg (z_bd P j) (z_cf P (z_fam P k) j) v) i ++ z_apg (z_bd P j) (z_cf P (z_fam P k) j) v i)
        rw [List.append_assoc] at cb4
        exact cb4
end
