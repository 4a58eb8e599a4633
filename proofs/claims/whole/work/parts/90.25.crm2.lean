-- deps: 90.24.crm
/-! what changes require; a method renamed: the class, all of it -/
section
variable {S : z_S} {m : z_m} {p : Nat} {P : z_Pg} {A : z_A}
theorem z_hm_iff (hw : z_wf P) {x : Int32} : z_hm P x = true ↔ ∃ k, k < z_nm P ∧ z_liv P k = true ∧ x = nI k := by
  have h24 := hw.2.2.1
  unfold z_hm
  constructor
  · intro h
    obtain ⟨h1, h2⟩ := Bool.and_eq_true_iff.mp h
    obtain ⟨k, hk, rfl⟩ := (z_in_iff (by omega)).mp h1
    rw [nI_clamp (by omega)] at h2
    exact ⟨k, hk, h2, rfl⟩
  · rintro ⟨k, hk, hl, rfl⟩
    rw [nI_clamp (by omega), hl, (z_in_iff (by omega)).mpr ⟨k, hk, rfl⟩]; rfl
theorem f165_y (hX : z_XS S) (hp : z_PS S p) (h : z_cp m p P) (hw : z_wf P) {x : Int32} (hx : z_hm P x = true) : f165 0 p x (z_hp S m) = some (.inl (), z_hp S m) := by
  have e := f80_sp hp h hw x
  have hpk := hp.k
  rw [hx] at e
  unfold f165
  simp (disch := ((try simp only [true_or, or_true, hp.k, hp.k1, hp.k2, hp.k3, hp.k4, hp.k5, hp.k6, hp.k7, hp.k8, hp.k9, hp.k10, hp.l1, hp.l2, hp.l3, hp.l4, hp.l5, hp.l6, hp.l7, hp.l8, hp.l9, hp.l10, hpk]) <;> (try omega))) only [↓reduceIte, ↓z_ite, ↓zR, ↓zB_R, ↓zB_B, ↓zB_ite, ↓zB_gI, ↓zB_pI, ↓zB_pZ, ↓zB_aK, ↓zB_G, ↓zB_lI, ↓zB_lZ, ↓zB_wI, ↓zB_wZ, ↓zB_lIl, ↓zB_wIl, zB_pI, zB_pZ, zB_lI, zB_lZ, zB_wI, zB_wZ, z_addl, z_ladd, z_mull, z_lmul, nI_add, z_subl, Nat.not_lt_zero, z_10, z_01, z_bitc, z_b0, z_b1, ↓zB_Gb, ↓zB_G0, ↓zB_G1, z_eql, z_leq, z_ltl, z_llt, z_eq, z_lt, z_m1lt, hp.k, hp.k1, hp.k2, hp.k3, hp.k4, hp.k5, hp.k6, hp.k7, hp.k8, hp.k9, hp.k10, hp.l1, hp.l2, hp.l3, hp.l4, hp.l5, hp.l6, hp.l7, hp.l8, hp.l9, hp.l10, hpk, ↓hp.g0, ↓hp.g1, ↓hp.g2, ↓hp.g3, ↓hp.g4, ↓hp.g5, ↓hp.g6, ↓hp.g7, ↓hp.g8, ↓hp.g9, ↓hp.gb, hp.gb, ↓zB_c e, zB_c e, Bool.true_eq_false]
theorem f165_n (hX : z_XS S) (hp : z_PS S p) (h : z_cp m p P) (hw : z_wf P) {x : Int32} (hx : z_hm P x = false) : f165 0 p x (z_hp S m) = some (.inr 2, z_hp (z_Sx S) m) := by
  have e := f80_sp hp h hw x
  have hpk := hp.k
  rw [hx] at e
  unfold f165
  simp (disch := ((try simp only [true_or, or_true, hp.k, hp.k1, hp.k2, hp.k3, hp.k4, hp.k5, hp.k6, hp.k7, hp.k8, hp.k9, hp.k10, hp.l1, hp.l2, hp.l3, hp.l4, hp.l5, hp.l6, hp.l7, hp.l8, hp.l9, hp.l10, hpk]) <;> (try omega))) only [↓reduceIte, ↓z_ite, ↓zR, ↓zB_R, ↓zB_B, ↓zB_ite, ↓zB_gI, ↓zB_pI, ↓zB_pZ, ↓zB_aK, ↓zB_G, ↓zB_lI, ↓zB_lZ, ↓zB_wI, ↓zB_wZ, ↓zB_lIl, ↓zB_wIl, zB_pI, zB_pZ, zB_lI, zB_lZ, zB_wI, zB_wZ, z_addl, z_ladd, z_mull, z_lmul, nI_add, z_subl, Nat.not_lt_zero, z_10, z_01, z_bitc, z_b0, z_b1, ↓zB_Gb, ↓zB_G0, ↓zB_G1, z_eql, z_leq, z_ltl, z_llt, z_eq, z_lt, z_m1lt, hp.k, hp.k1, hp.k2, hp.k3, hp.k4, hp.k5, hp.k6, hp.k7, hp.k8, hp.k9, hp.k10, hp.l1, hp.l2, hp.l3, hp.l4, hp.l5, hp.l6, hp.l7, hp.l8, hp.l9, hp.l10, hpk, ↓hp.g0, ↓hp.g1, ↓hp.g2, ↓hp.g3, ↓hp.g4, ↓hp.g5, ↓hp.g6, ↓hp.g7, ↓hp.g8, ↓hp.g9, ↓hp.gb, hp.gb, ↓zB_c e, zB_c e, z_thw]
theorem f161_y (hX : z_XS S) {x y : Int32} (hx : z_in x 16 = true) (hy : ¬ x = y) : f161 0 x y (z_hp S m) = some (.inl (), z_hp S m) := by
  obtain ⟨n, hn, rfl⟩ := (z_in_iff (by decide)).mp hx
  unfold f161
  simp (disch := ((try simp only [true_or, or_true, hX.k0, hX.k1, hX.k2, hX.k3, hX.k4, hX.k5, hX.k6, hX.k7, hX.l2, hX.l3, hX.l4, hX.l5, hX.l6, hX.l7]) <;> (try omega))) only [↓reduceIte, ↓z_ite, ↓zR, ↓zB_R, ↓zB_B, ↓zB_ite, ↓zB_gI, ↓zB_pI, ↓zB_pZ, ↓zB_aK, ↓zB_G, ↓zB_lI, ↓zB_lZ, ↓zB_wI, ↓zB_wZ, ↓zB_lIl, ↓zB_wIl, zB_pI, zB_pZ, zB_lI, zB_lZ, zB_wI, zB_wZ, z_addl, z_ladd, z_mull, z_lmul, nI_add, z_subl, Nat.not_lt_zero, z_10, z_01, z_bitc, z_b0, z_b1, ↓zB_Gb, ↓zB_G0, ↓zB_G1, z_eql, z_leq, z_ltl, z_llt, z_eq, z_lt, z_m1lt, hX.k0, hX.k1, hX.k2, hX.k3, hX.k4, hX.k5, hX.k6, hX.k7, hX.l2, hX.l3, hX.l4, hX.l5, hX.l6, hX.l7, ↓hX.g0_0, ↓hX.g0_1, ↓hX.g0_2, ↓hX.g0_3, ↓hX.g0_4, ↓hX.g0_5, ↓hX.g0_6, ↓hX.g0_7, ↓hX.g0_8, ↓hX.g0_9, ↓hX.g1_0, ↓hX.g1_1, ↓hX.g1_2, ↓hX.g1_3, ↓hX.g1_4, ↓hX.g1_5, ↓zT_l (f160_y hn), zT_l (f160_y hn), hy]
theorem f161_n (hX : z_XS S) {x y : Int32} (h : z_in x 16 = false ∨ x = y) : f161 0 x y (z_hp S m) = some (.inr 1, z_hp (z_Sx S) m) := by
  unfold f161
  cases hx : z_in x 16 with
  | false => simp (disch := ((try simp only [true_or, or_true, hX.k0, hX.k1, hX.k2, hX.k3, hX.k4, hX.k5, hX.k6, hX.k7, hX.l2, hX.l3, hX.l4, hX.l5, hX.l6, hX.l7]) <;> (try omega))) only [↓reduceIte, ↓z_ite, ↓zR, ↓zB_R, ↓zB_B, ↓zB_ite, ↓zB_gI, ↓zB_pI, ↓zB_pZ, ↓zB_aK, ↓zB_G, ↓zB_lI, ↓zB_lZ, ↓zB_wI, ↓zB_wZ, ↓zB_lIl, ↓zB_wIl, zB_pI, zB_pZ, zB_lI, zB_lZ, zB_wI, zB_wZ, z_addl, z_ladd, z_mull, z_lmul, nI_add, z_subl, Nat.not_lt_zero, z_10, z_01, z_bitc, z_b0, z_b1, ↓zB_Gb, ↓zB_G0, ↓zB_G1, z_eql, z_leq, z_ltl, z_llt, z_eq, z_lt, z_m1lt, hX.k0, hX.k1, hX.k2, hX.k3, hX.k4, hX.k5, hX.k6, hX.k7, hX.l2, hX.l3, hX.l4, hX.l5, hX.l6, hX.l7, ↓hX.g0_0, ↓hX.g0_1, ↓hX.g0_2, ↓hX.g0_3, ↓hX.g0_4, ↓hX.g0_5, ↓hX.g0_6, ↓hX.g0_7, ↓hX.g0_8, ↓hX.g0_9, ↓hX.g1_0, ↓hX.g1_1, ↓hX.g1_2, ↓hX.g1_3, ↓hX.g1_4, ↓hX.g1_5, ↓zT_r (f160_n hx), zT_r (f160_n hx)]
  | true =>
    have hy : x = y := by
      rcases h with g | g
      · rw [g] at hx; cases hx
      · exact g
    obtain ⟨n, hn, rfl⟩ := (z_in_iff (by decide)).mp hx
    simp (disch := ((try simp only [true_or, or_true, hX.k0, hX.k1, hX.k2, hX.k3, hX.k4, hX.k5, hX.k6, hX.k7, hX.l2, hX.l3, hX.l4, hX.l5, hX.l6, hX.l7]) <;> (try omega))) only [↓reduceIte, ↓z_ite, ↓zR, ↓zB_R, ↓zB_B, ↓zB_ite, ↓zB_gI, ↓zB_pI, ↓zB_pZ, ↓zB_aK, ↓zB_G, ↓zB_lI, ↓zB_lZ, ↓zB_wI, ↓zB_wZ, ↓zB_lIl, ↓zB_wIl, zB_pI, zB_pZ, zB_lI, zB_lZ, zB_wI, zB_wZ, z_addl, z_ladd, z_mull, z_lmul, nI_add, z_subl, Nat.not_lt_zero, z_10, z_01, z_bitc, z_b0, z_b1, ↓zB_Gb, ↓zB_G0, ↓zB_G1, z_eql, z_leq, z_ltl, z_llt, z_eq, z_lt, z_m1lt, hX.k0, hX.k1, hX.k2, hX.k3, hX.k4, hX.k5, hX.k6, hX.k7, hX.l2, hX.l3, hX.l4, hX.l5, hX.l6, hX.l7, ↓hX.g0_0, ↓hX.g0_1, ↓hX.g0_2, ↓hX.g0_3, ↓hX.g0_4, ↓hX.g0_5, ↓hX.g0_6, ↓hX.g0_7, ↓hX.g0_8, ↓hX.g0_9, ↓hX.g1_0, ↓hX.g1_1, ↓hX.g1_2, ↓hX.g1_3, ↓hX.g1_4, ↓hX.g1_5, ↓zT_l (f160_y hn), zT_l (f160_y hn), hy, z_thw]
/-! the result -/
theorem z_rmQ_ok (hw : z_wf P) (h60 : z_b60 P) (hR : z_RT P) {k n : Nat} (hk : k < z_nm P) (hl : z_liv P k = true) (hn : n < 16) (hf : z_free P (z_fam P k) (nI n) (z_hd P k 3) = true) : z_wf (z_rmQ P k (nI n)) ∧ z_b60 (z_rmQ P k (nI n)) := by
  have h6 := hw.1.1
  have hfam : ∀ j, z_fam P k j = true → j < z_nm P ∧ z_liv P j = true ∧ z_hd P j 2 = z_hd P k 2 ∧ z_hd P j 3 = z_hd P k 3 := by
    intro j hj
    obtain ⟨a, b⟩ := z_fam_isc hk hl hj
    unfold z_isc at b
    simp only [Bool.and_eq_true, beq_iff_eq] at b
    exact ⟨a, b.1, b.2.1, b.2.2⟩
  -- where a name is free nobody of the same class has it
  have hnone : ∀ j i, j < z_nm P → i < z_nm P → z_liv P i = true → z_fam P k j = true → z_hd P i 2 = nI n → z_hd P i 3 = z_hd P j 3 → z_own P i = z_own P j → False := by
    intro j i hj hi hli hfj e2 e3 eo
    unfold z_free at hf
    simp only [Bool.not_eq_true'] at hf
    have h1 := z_any_f.mp hf j hj
    rw [hfj, Bool.true_and] at h1
    have h2 := z_any_f.mp h1 i hi
    have : (z_isc P i (nI n) (z_hd P k 3) && z_akin P (z_own P i) (z_own P j)) = true := by
      unfold z_isc z_akin
      rw [hli, e2, e3, (hfam j hfj).2.2.2, eo, z_blw_refl]; simp
    rw [this] at h2; cases h2
  refine ⟨z_mix_wf hw (fun j hj hlj => ⟨?_, ?_⟩) (fun j hj hlj => ?_) (fun i j hi hj hli hlj e2 e3 eo => ?_), z_mix_b60 h60 (fun j hj _ => by unfold z_rmD; rw [z_lm_len]; exact h60 j hj)⟩
  · unfold z_rmG
    rw [if_neg (by omega)]
    simpa [z_liv] using hlj
  · obtain ⟨a, b, c, d, e, f⟩ := z_wHf_of (hw.2.2.2.1 j hj)
    have hG : ∀ w, w ≠ 2 → z_rmG P k (nI n) j w = z_hd P j w := fun w hw => if_neg (fun q => hw q.1)
    unfold z_wHf
    rw [hG 0 (by decide), hG 1 (by decide), hG 3 (by decide), hG 8 (by decide)]
    refine ⟨a, b, ?_, d, fun i hi => ?_, f⟩
    · unfold z_rmG
      split
      · exact ⟨n, hn, rfl⟩
      · exact c
    · rw [hG (4 + i) (by omega), hG (6 + i) (by omega)]; exact e i hi
  · refine z_lm_wB (hw.2.2.2.2.1 j hj) (fun i hi => ?_)
    have hN := z_wN_at (hw.2.2.2.2.1 j hj) hi
    unfold z_rmN
    by_cases g : z_cf P (z_fam P k) j i = true
    · rw [if_pos g]
      have h7 : z_k (z_bd P j) i = 7 := by
        unfold z_cf at g
        simpa using (Bool.and_eq_true_iff.mp g).1
      have ha := hN.2.1
      rw [if_pos (show (z_at (z_bd P j) i).1 = 7 from h7)] at ha
      refine ⟨?_, z_wN_7 ha ⟨n, hn, rfl⟩⟩
      unfold z_p; rw [h7]
    · rw [if_neg g]
      exact ⟨rfl, hN⟩
  · unfold z_rmG at e2 e3 eo
    rw [if_neg (by omega), if_neg (by omega)] at e3 eo
    by_cases gi : z_fam P k i = true
    · by_cases gj : z_fam P k j = true
      · exact hw.2.2.2.2.2 i j hi hj hli hlj ((hfam i gi).2.2.1.trans (hfam j gj).2.2.1.symm) e3 eo
      · rw [if_pos ⟨rfl, gi⟩, if_neg (fun q => gj q.2)] at e2
        exact (hnone i j hi hj hlj gi e2.symm e3.symm eo.symm).elim
    · by_cases gj : z_fam P k j = true
      · rw [if_neg (fun q => gi q.2), if_pos ⟨rfl, gj⟩] at e2
        exact (hnone j i hj hi hli gj e2 e3 eo).elim
      · rw [if_neg (fun q => gi q.2), if_neg (fun q => gj q.2)] at e2
        exact hw.2.2.2.2.2 i j hi hj hli hlj e2 e3 eo
noncomputable def z_orenM (A : z_A) (k x : Int32) : (Int32 ⊕ Nat) × z_A :=
  if z_hm A.2.1 k = false then (.inr 2, A)
  else if z_in x 16 = false ∨ x = z_hd A.2.1 k.toNatClampNeg 2 then (.inr 1, A)
  else if z_wr A.2.1 = -1 then z_rf A (z_rmR A.2.1 k.toNatClampNeg x) (z_rmQ A.2.1 k.toNatClampNeg x)
  else (.inr 0, A)
theorem c_renM (hw : z_WA A) (h : z_CR S m A) (k x : Int32) : ∃ S1 m1, f140 0 k x (z_hp S m) = some ((z_orenM A k x).1, z_hp S1 m1) ∧ z_CR S1 m1 (z_orenM A k x).2 ∧ z_SS S S1 ∧ ∀ a, 2390 ≤ a → m1 a = m a := by
  have h0 := h
  obtain ⟨sn, sx, sp, hI, hCM⟩ := h0
  have hX := hI.1
  have hp := hI.2.2.1 sn hI.2.2.2.1.1
  have hn := hI.2.2.2.2.2.1
  have hc := hCM.2.2.1.1.1
  have hwf := hw.2.1.1
  have h24 := hwf.2.2.1
  have ref : ∀ E, f140 0 k x (z_hp S m) = some (.inr E, z_hp (z_Sx S) m) → ∃ S1 m1, f140 0 k x (z_hp S m) = some ((((.inr E, A) : (Int32 ⊕ Nat) × z_A)).1, z_hp S1 m1) ∧ z_CR S1 m1 (((.inr E, A) : (Int32 ⊕ Nat) × z_A)).2 ∧ z_SS S S1 ∧ ∀ a, 2390 ≤ a → m1 a = m a := fun E e => ⟨z_Sx S, m, e, z_CR_x h, z_SS.x S, fun _ _ => rfl⟩
  unfold z_orenM
  by_cases g1 : z_hm A.2.1 k = false
  · rw [if_pos g1]
    refine ref 2 ?_
    unfold f140
    simp (disch := ((try simp only [true_or, or_true, hX.k0, hX.k8, hX.k9, hX.l9]) <;> (try omega))) only [↓reduceIte, ↓z_ite, ↓zR, ↓zB_R, ↓zB_B, ↓zB_ite, ↓zB_gI, ↓zB_pI, ↓zB_pZ, ↓zB_aK, ↓zB_G, ↓zB_lI, ↓zB_lZ, ↓zB_wI, ↓zB_wZ, ↓zB_lIl, ↓zB_wIl, zB_pI, zB_pZ, zB_lI, zB_lZ, zB_wI, zB_wZ, z_addl, z_ladd, z_mull, z_lmul, nI_add, z_subl, Nat.not_lt_zero, z_10, z_01, z_bitc, z_b0, z_b1, ↓zB_Gb, ↓zB_G0, ↓zB_G1, z_eql, z_leq, z_ltl, z_llt, z_eq, z_lt, z_m1lt, hX.k0, hX.k8, hX.k9, hX.l9, ↓hX.g0_0, ↓hX.g0_1, ↓hX.g0_2, ↓hX.g0_3, ↓hX.g0_4, ↓hX.g0_5, ↓hX.g0_6, ↓hX.g0_7, ↓hX.g0_8, ↓hX.g0_9, ↓hX.g8_0, ↓z_gnow hX hn, z_gnow hX hn, ↓zT_r (f165_n hX hp hc hwf g1), zT_r (f165_n hX hp hc hwf g1)]
  rw [if_neg g1]
  have g1' := z_not_false g1
  have e1 := f165_y hX hp hc hwf g1'
  obtain ⟨k', hk', hl, rfl⟩ := (z_hm_iff hwf).mp g1'
  rw [nI_clamp (show k' < 2 ^ 31 by omega)]
  have en : m (z_pid sn + 5) k' = z_hd A.2.1 k' 2 := (hc.2.1.2.2 k' hk' hl).2.1
  by_cases g2 : z_in x 16 = false ∨ x = z_hd A.2.1 k' 2
  · rw [if_pos g2]
    refine ref 1 ?_
    unfold f140
    simp (disch := ((try simp only [true_or, or_true, hX.k0, hX.k8, hX.k9, hX.l9, hp.k, hp.k1, hp.k2, hp.k3, hp.k4, hp.k5, hp.k6, hp.k7, hp.k8, hp.k9, hp.k10, hp.l1, hp.l2, hp.l3, hp.l4, hp.l5, hp.l6, hp.l7, hp.l8, hp.l9, hp.l10]) <;> (try omega))) only [↓reduceIte, ↓z_ite, ↓zR, ↓zB_R, ↓zB_B, ↓zB_ite, ↓zB_gI, ↓zB_pI, ↓zB_pZ, ↓zB_aK, ↓zB_G, ↓zB_lI, ↓zB_lZ, ↓zB_wI, ↓zB_wZ, ↓zB_lIl, ↓zB_wIl, zB_pI, zB_pZ, zB_lI, zB_lZ, zB_wI, zB_wZ, z_addl, z_ladd, z_mull, z_lmul, nI_add, z_subl, Nat.not_lt_zero, z_10, z_01, z_bitc, z_b0, z_b1, ↓zB_Gb, ↓zB_G0, ↓zB_G1, z_eql, z_leq, z_ltl, z_llt, z_eq, z_lt, z_m1lt, hX.k0, hX.k8, hX.k9, hX.l9, hp.k, hp.k1, hp.k2, hp.k3, hp.k4, hp.k5, hp.k6, hp.k7, hp.k8, hp.k9, hp.k10, hp.l1, hp.l2, hp.l3, hp.l4, hp.l5, hp.l6, hp.l7, hp.l8, hp.l9, hp.l10, ↓hX.g0_0, ↓hX.g0_1, ↓hX.g0_2, ↓hX.g0_3, ↓hX.g0_4, ↓hX.g0_5, ↓hX.g0_6, ↓hX.g0_7, ↓hX.g0_8, ↓hX.g0_9, ↓hX.g8_0, ↓hp.g0, ↓hp.g1, ↓hp.g2, ↓hp.g3, ↓hp.g4, ↓hp.g5, ↓hp.g6, ↓hp.g7, ↓hp.g8, ↓hp.g9, ↓hp.gb, hp.gb, ↓z_gnow hX hn, z_gnow hX hn, ↓zT_l e1, zT_l e1, h24, hk', en, ↓zT_r (f161_n hX g2), zT_r (f161_n hX g2)]
  rw [if_neg g2]
  have e2 := f161_y (S := S) (m := m) hX (x := x) (y := z_hd A.2.1 k' 2) (z_not_false (fun q => g2 (Or.inl q))) (fun q => g2 (Or.inr q))
  by_cases g3 : z_wr A.2.1 = -1
  · rw [if_pos g3]
    obtain ⟨m1, e3, c1, r1, f14⟩ := c_rr_y hw hI hCM g3
    have ht := c_tail hw hI c1 g3 f14 (ob := 21) (kd := 8) hX.k21 (OP := fun q => f106 21 (z_pid sn) q (nI k') x) (r := z_rmR A.2.1 k' x) (Q := z_rmQ A.2.1 k' x) (fun m2 hpre => f106_sp hpre hwf (z_RT_wr hwf g3) hk' hl x)
    obtain ⟨S', m', e4, d1, d2, d3⟩ := ht
    refine ⟨S', m', ?_, d1, d2, fun a ha => (d3 a ha).trans (r1 a ha)⟩
    unfold f140
    simp (disch := ((try simp only [true_or, or_true, hX.k0, hX.k8, hX.k9, hX.l9, hp.k, hp.k1, hp.k2, hp.k3, hp.k4, hp.k5, hp.k6, hp.k7, hp.k8, hp.k9, hp.k10, hp.l1, hp.l2, hp.l3, hp.l4, hp.l5, hp.l6, hp.l7, hp.l8, hp.l9, hp.l10]) <;> (try omega))) only [↓reduceIte, ↓z_ite, ↓zR, ↓zB_R, ↓zB_B, ↓zB_ite, ↓zB_gI, ↓zB_pI, ↓zB_pZ, ↓zB_aK, ↓zB_G, ↓zB_lI, ↓zB_lZ, ↓zB_wI, ↓zB_wZ, ↓zB_lIl, ↓zB_wIl, zB_pI, zB_pZ, zB_lI, zB_lZ, zB_wI, zB_wZ, z_addl, z_ladd, z_mull, z_lmul, nI_add, z_subl, Nat.not_lt_zero, z_10, z_01, z_bitc, z_b0, z_b1, ↓zB_Gb, ↓zB_G0, ↓zB_G1, z_eql, z_leq, z_ltl, z_llt, z_eq, z_lt, z_m1lt, hX.k0, hX.k8, hX.k9, hX.l9, hp.k, hp.k1, hp.k2, hp.k3, hp.k4, hp.k5, hp.k6, hp.k7, hp.k8, hp.k9, hp.k10, hp.l1, hp.l2, hp.l3, hp.l4, hp.l5, hp.l6, hp.l7, hp.l8, hp.l9, hp.l10, ↓hX.g0_0, ↓hX.g0_1, ↓hX.g0_2, ↓hX.g0_3, ↓hX.g0_4, ↓hX.g0_5, ↓hX.g0_6, ↓hX.g0_7, ↓hX.g0_8, ↓hX.g0_9, ↓hX.g8_0, ↓hp.g0, ↓hp.g1, ↓hp.g2, ↓hp.g3, ↓hp.g4, ↓hp.g5, ↓hp.g6, ↓hp.g7, ↓hp.g8, ↓hp.g9, ↓hp.gb, hp.gb, ↓z_gnow hX hn, z_gnow hX hn, ↓zT_l e1, zT_l e1, h24, hk', en, ↓zT_l e2, zT_l e2, ↓zT_l e3, zT_l e3]
    exact e4
  · rw [if_neg g3]
    obtain ⟨m1, e3, c1, r1⟩ := c_rr_n hw hI hCM g3
    refine ⟨z_Sx S, m1, ?_, ⟨sn, sx, sp, hI, c1⟩, z_SS.x S, r1⟩
    unfold f140
    simp (disch := ((try simp only [true_or, or_true, hX.k0, hX.k8, hX.k9, hX.l9, hp.k, hp.k1, hp.k2, hp.k3, hp.k4, hp.k5, hp.k6, hp.k7, hp.k8, hp.k9, hp.k10, hp.l1, hp.l2, hp.l3, hp.l4, hp.l5, hp.l6, hp.l7, hp.l8, hp.l9, hp.l10]) <;> (try omega))) only [↓reduceIte, ↓z_ite, ↓zR, ↓zB_R, ↓zB_B, ↓zB_ite, ↓zB_gI, ↓zB_pI, ↓zB_pZ, ↓zB_aK, ↓zB_G, ↓zB_lI, ↓zB_lZ, ↓zB_wI, ↓zB_wZ, ↓zB_lIl, ↓zB_wIl, zB_pI, zB_pZ, zB_lI, zB_lZ, zB_wI, zB_wZ, z_addl, z_ladd, z_mull, z_lmul, nI_add, z_subl, Nat.not_lt_zero, z_10, z_01, z_bitc, z_b0, z_b1, ↓zB_Gb, ↓zB_G0, ↓zB_G1, z_eql, z_leq, z_ltl, z_llt, z_eq, z_lt, z_m1lt, hX.k0, hX.k8, hX.k9, hX.l9, hp.k, hp.k1, hp.k2, hp.k3, hp.k4, hp.k5, hp.k6, hp.k7, hp.k8, hp.k9, hp.k10, hp.l1, hp.l2, hp.l3, hp.l4, hp.l5, hp.l6, hp.l7, hp.l8, hp.l9, hp.l10, ↓hX.g0_0, ↓hX.g0_1, ↓hX.g0_2, ↓hX.g0_3, ↓hX.g0_4, ↓hX.g0_5, ↓hX.g0_6, ↓hX.g0_7, ↓hX.g0_8, ↓hX.g0_9, ↓hX.g8_0, ↓hp.g0, ↓hp.g1, ↓hp.g2, ↓hp.g3, ↓hp.g4, ↓hp.g5, ↓hp.g6, ↓hp.g7, ↓hp.g8, ↓hp.g9, ↓hp.gb, hp.gb, ↓z_gnow hX hn, z_gnow hX hn, ↓zT_l e1, zT_l e1, h24, hk', en, ↓zT_l e2, zT_l e2, ↓zT_r e3, zT_r e3]
end
