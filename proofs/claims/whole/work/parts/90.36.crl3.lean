-- deps: 90.35.crl2 90.33.mrf
/-! a local renamed: the result, and the class's answer -/
section
variable {S : z_S} {m : z_m} {p q : Nat} {P : z_Pg} {A : z_A}
def z_okl (P : z_Pg) (k : Nat) (x : Int32) : Bool := if x < 0 then (decide (x = -1) && decide (0 < z_cnt P k)) || (decide (x = -2) && decide (1 < z_cnt P k)) else z_in x (z_bd P k).length
theorem z_okl_v {k : Nat} {x : Int32} (h : z_okl P k x = true) (hlen : (z_bd P k).length < 2 ^ 31) : z_vpl P k x := by
  unfold z_okl at h
  by_cases g : x < 0
  · rw [if_pos g] at h
    simp only [Bool.or_eq_true, Bool.and_eq_true, decide_eq_true_eq] at h
    rcases h with h | h
    · exact Or.inl h
    · exact Or.inr (Or.inl h)
  · rw [if_neg g] at h
    obtain ⟨i, hi, e⟩ := (z_in_iff hlen).mp h
    exact Or.inr (Or.inr ⟨i, hi, e⟩)
theorem z_wHf_nm {H : Nat → Int32} {i n : Nat} (h : z_wHf P H) (hi : i < (H 3).toNatClampNeg) (hn : n < 16) : z_wHf P (z_hset H (4 + i) (nI n)) := by
  obtain ⟨r1, r2, r3, r4, r5, r6⟩ := h
  have hi2 : i < 2 := by omega
  unfold z_wHf
  rw [z_hset_o (w' := 0) (by omega), z_hset_o (w' := 1) (by omega), z_hset_o (w' := 2) (by omega), z_hset_o (w' := 3) (by omega), z_hset_o (w' := 8) (by omega)]
  refine ⟨r1, r2, r3, r4, fun j hj => ?_, r6⟩
  have := r5 j hj
  rw [z_hset_o (w' := 6 + j) (by omega)]
  by_cases g : j = i
  · subst g
    rw [if_pos hi] at this ⊢
    rw [z_hset_s]
    exact ⟨⟨n, hn, rfl⟩, this.2⟩
  · rw [z_hset_o (w' := 4 + j) (by omega)]; exact this
theorem z_rlH_o {k w : Nat} {x name : Int32} (h1 : w ≠ 4) (h2 : w ≠ 5) : z_rlH P k x name w = z_hd P k w := by
  unfold z_rlH
  split
  · exact z_hset_o h1
  · split
    · exact z_hset_o h2
    · rfl
theorem z_rlQ_ok (hw : z_wf P) (h60 : z_b60 P) {k n : Nat} (hk : k < z_nm P) (hl : z_liv P k = true) {x : Int32} (hx : z_vpl P k x) (hn : n < 16) (h5 : x < 0 ∨ z_k (z_bd P k) x.toNatClampNeg = 5) (hb : ¬ 60 < (z_rlD P k x (nI n)).length) : z_wf (z_rlQ P k x (nI n)) ∧ z_b60 (z_rlQ P k x (nI n)) := by
  have hB := hw.2.2.2.2.1 k hk
  have hlen := h60 k hk
  refine ⟨z_sM_wf hw hk ?_ (z_cat_wB hB (fun i hi => ?_)) (fun _ j hj hne hlj e2 e3 eo => ?_), z_sM_b60 h60 (by omega)⟩
  · have hH := z_wHf_of (hw.2.2.2.1 k hk)
    unfold z_rlH
    by_cases g1 : x = -1
    · rw [if_pos g1]
      rcases hx with ⟨_, h⟩ | ⟨h, _⟩ | ⟨i, hi, e⟩
      · exact z_wHf_nm (i := 0) hH h hn
      · rw [g1] at h; exact absurd h (by decide)
      · exact absurd (e.symm.trans g1) (z_nI_m1 (by omega))
    · rw [if_neg g1]
      by_cases g2 : x = -2
      · rw [if_pos g2]
        rcases hx with ⟨h, _⟩ | ⟨_, h⟩ | ⟨i, hi, e⟩
        · exact absurd h g1
        · exact z_wHf_nm (i := 1) hH h hn
        · exact absurd (e.symm.trans g2) (z_eqm (k := 2) (by omega) (by decide) (by decide))
      · rw [if_neg g2]; exact hH
  · have hN := z_wN_at hB hi
    unfold z_rlg
    by_cases g : nI i = x ∨ z_rlb P k x i = true
    · rw [if_pos g]
      have h8 : z_k (z_bd P k) i ≠ 8 := by
        rcases g with g | g
        · rcases h5 with h5 | h5
          · exact absurd (by rw [g]; exact h5) (nI_pos (n := i) (by omega))
          · rw [← g, nI_clamp (by omega)] at h5; rw [h5]; decide
        · unfold z_rlb z_isBL z_isL z_isV at g
          simp only [Bool.and_eq_true, Bool.or_eq_true, beq_iff_eq] at g
          rcases g.1.1 with q | q <;> rw [q] <;> decide
      refine ⟨z_net_1 rfl, fun y hy => ?_⟩
      rw [List.mem_singleton.mp hy]
      exact z_wN_nm hN h8 ⟨n, hn, rfl⟩
    · rw [if_neg g]
      split
      · next g2 =>
        have hkv : z_k (z_bd P k) i = 1 ∨ z_k (z_bd P k) i = 6 := by
          unfold z_isF z_isV at g2
          simp only [Bool.and_eq_true, Bool.or_eq_true, beq_iff_eq] at g2
          exact g2.2.1.1
        refine ⟨?_, z_pln_wN ⟨n, hn, rfl⟩⟩
        have ha := z_a_0 hB hi (by rcases hkv with q | q <;> rw [q] <;> decide)
        exact z_net_pln (name := nI n) (v := z_v (z_bd P k) i) hkv ha
      · exact ⟨z_net.refl _, fun y hy => by rw [List.mem_singleton.mp hy]; exact hN⟩
  · rw [z_rlH_o (by decide) (by decide)] at e2 e3 eo
    exact hne (hw.2.2.2.2.2 j k hj hk hlj hl e2 e3 eo)
noncomputable def z_orenL (A : z_A) (k x name : Int32) : (Int32 ⊕ Nat) × z_A :=
  if z_hm A.2.1 k = false then (.inr 2, A)
  else if z_okl A.2.1 k.toNatClampNeg x = false then (.inr 2, A)
  else if z_in name 16 = false ∨ name = z_nol A.2.1 k.toNatClampNeg x then (.inr 1, A)
  else if z_wr A.2.1 = -1 then z_rf A (z_rlR A.2.1 k.toNatClampNeg x name) (z_rlQ A.2.1 k.toNatClampNeg x name)
  else (.inr 0, A)
/-- requireParameter -/
theorem f167_sp (hX : z_XS S) (hn : z_rm S 0 10 = some p) (hp : z_PS S p) (h : z_cp m p P) (hw : z_wf P) {k : Nat} (hk : k < z_nm P) (hl : z_liv P k = true) (y : Int32) : f167 0 (nI k) y (z_hp S m) = if z_in y (z_cnt P k) = true then some (.inl (), z_hp S m) else some (.inr 2, z_hp (z_Sx S) m) := by
  have h24 := hw.2.2.1
  have hpk := hp.k
  obtain ⟨q1, q2, q3, q4, q5, q6⟩ := h.2.1.2.2 k hk hl
  obtain ⟨h1, h2⟩ := (hw.2.2.2.1 k hk).2.2.2.1
  have ec : z_hd P k 3 = nI (z_cnt P k) := h2
  have hc2 : z_cnt P k ≤ 2 := h1
  rw [ec] at q3
  unfold f167 f167_17
  by_cases g : y < 0
  · have gi : ¬ z_in y (z_cnt P k) = true := fun q => by
      obtain ⟨j, hj, rfl⟩ := (z_in_iff (by omega)).mp q
      exact absurd g (nI_pos (by omega))
    rw [if_neg gi]
    simp (disch := ((try simp only [true_or, or_true, hX.k0, hX.k1, hX.k2, hX.k3, hX.k4, hX.k5, hX.k6, hX.k7, hX.l2, hX.l3, hX.l4, hX.l5, hX.l6, hX.l7]) <;> (try omega))) only [↓reduceIte, ↓z_ite, ↓zR, ↓zB_R, ↓zB_B, ↓zB_ite, ↓zB_gI, ↓zB_pI, ↓zB_pZ, ↓zB_aK, ↓zB_G, ↓zB_lI, ↓zB_lZ, ↓zB_wI, ↓zB_wZ, ↓zB_lIl, ↓zB_wIl, zB_pI, zB_pZ, zB_lI, zB_lZ, zB_wI, zB_wZ, z_addl, z_ladd, z_mull, z_lmul, nI_add, z_subl, Nat.not_lt_zero, z_10, z_01, z_bitc, z_b0, z_b1, ↓zB_Gb, ↓zB_G0, ↓zB_G1, z_eql, z_leq, z_ltl, z_llt, z_eq, z_lt, z_m1lt, hX.k0, hX.k1, hX.k2, hX.k3, hX.k4, hX.k5, hX.k6, hX.k7, hX.l2, hX.l3, hX.l4, hX.l5, hX.l6, hX.l7, ↓hX.g0_0, ↓hX.g0_1, ↓hX.g0_2, ↓hX.g0_3, ↓hX.g0_4, ↓hX.g0_5, ↓hX.g0_6, ↓hX.g0_7, ↓hX.g0_8, ↓hX.g0_9, ↓hX.g1_0, ↓hX.g1_1, ↓hX.g1_2, ↓hX.g1_3, ↓hX.g1_4, ↓hX.g1_5, g, z_thw]
  · obtain ⟨j, hj, rfl⟩ := nI_of g
    by_cases g2 : j < z_cnt P k
    · rw [if_pos ((z_in_iff (by omega)).mpr ⟨j, g2, rfl⟩)]
      simp (disch := ((try simp only [true_or, or_true, hX.k0, hX.k1, hX.k2, hX.k3, hX.k4, hX.k5, hX.k6, hX.k7, hX.l2, hX.l3, hX.l4, hX.l5, hX.l6, hX.l7, hp.k, hp.k1, hp.k2, hp.k3, hp.k4, hp.k5, hp.k6, hp.k7, hp.k8, hp.k9, hp.k10, hp.l1, hp.l2, hp.l3, hp.l4, hp.l5, hp.l6, hp.l7, hp.l8, hp.l9, hp.l10]) <;> (try omega))) only [↓reduceIte, ↓z_ite, ↓zR, ↓zB_R, ↓zB_B, ↓zB_ite, ↓zB_gI, ↓zB_pI, ↓zB_pZ, ↓zB_aK, ↓zB_G, ↓zB_lI, ↓zB_lZ, ↓zB_wI, ↓zB_wZ, ↓zB_lIl, ↓zB_wIl, zB_pI, zB_pZ, zB_lI, zB_lZ, zB_wI, zB_wZ, z_addl, z_ladd, z_mull, z_lmul, nI_add, z_subl, Nat.not_lt_zero, z_10, z_01, z_bitc, z_b0, z_b1, ↓zB_Gb, ↓zB_G0, ↓zB_G1, z_eql, z_leq, z_ltl, z_llt, z_eq, z_lt, z_m1lt, hX.k0, hX.k1, hX.k2, hX.k3, hX.k4, hX.k5, hX.k6, hX.k7, hX.l2, hX.l3, hX.l4, hX.l5, hX.l6, hX.l7, hp.k, hp.k1, hp.k2, hp.k3, hp.k4, hp.k5, hp.k6, hp.k7, hp.k8, hp.k9, hp.k10, hp.l1, hp.l2, hp.l3, hp.l4, hp.l5, hp.l6, hp.l7, hp.l8, hp.l9, hp.l10, ↓hX.g0_0, ↓hX.g0_1, ↓hX.g0_2, ↓hX.g0_3, ↓hX.g0_4, ↓hX.g0_5, ↓hX.g0_6, ↓hX.g0_7, ↓hX.g0_8, ↓hX.g0_9, ↓hX.g1_0, ↓hX.g1_1, ↓hX.g1_2, ↓hX.g1_3, ↓hX.g1_4, ↓hX.g1_5, ↓hp.g0, ↓hp.g1, ↓hp.g2, ↓hp.g3, ↓hp.g4, ↓hp.g5, ↓hp.g6, ↓hp.g7, ↓hp.g8, ↓hp.g9, ↓hp.gb, hp.gb, g, ↓z_gnow hX hn, z_gnow hX hn, h24, hk, q3, g2]
    · have gi : ¬ z_in (nI j) (z_cnt P k) = true := fun q => by
        obtain ⟨j', hj', e⟩ := (z_in_iff (by omega)).mp q
        rw [(nI_eq hj (by omega)).mp e] at g2; exact g2 hj'
      rw [if_neg gi]
      simp (disch := ((try simp only [true_or, or_true, hX.k0, hX.k1, hX.k2, hX.k3, hX.k4, hX.k5, hX.k6, hX.k7, hX.l2, hX.l3, hX.l4, hX.l5, hX.l6, hX.l7, hp.k, hp.k1, hp.k2, hp.k3, hp.k4, hp.k5, hp.k6, hp.k7, hp.k8, hp.k9, hp.k10, hp.l1, hp.l2, hp.l3, hp.l4, hp.l5, hp.l6, hp.l7, hp.l8, hp.l9, hp.l10]) <;> (try omega))) only [↓reduceIte, ↓z_ite, ↓zR, ↓zB_R, ↓zB_B, ↓zB_ite, ↓zB_gI, ↓zB_pI, ↓zB_pZ, ↓zB_aK, ↓zB_G, ↓zB_lI, ↓zB_lZ, ↓zB_wI, ↓zB_wZ, ↓zB_lIl, ↓zB_wIl, zB_pI, zB_pZ, zB_lI, zB_lZ, zB_wI, zB_wZ, z_addl, z_ladd, z_mull, z_lmul, nI_add, z_subl, Nat.not_lt_zero, z_10, z_01, z_bitc, z_b0, z_b1, ↓zB_Gb, ↓zB_G0, ↓zB_G1, z_eql, z_leq, z_ltl, z_llt, z_eq, z_lt, z_m1lt, hX.k0, hX.k1, hX.k2, hX.k3, hX.k4, hX.k5, hX.k6, hX.k7, hX.l2, hX.l3, hX.l4, hX.l5, hX.l6, hX.l7, hp.k, hp.k1, hp.k2, hp.k3, hp.k4, hp.k5, hp.k6, hp.k7, hp.k8, hp.k9, hp.k10, hp.l1, hp.l2, hp.l3, hp.l4, hp.l5, hp.l6, hp.l7, hp.l8, hp.l9, hp.l10, ↓hX.g0_0, ↓hX.g0_1, ↓hX.g0_2, ↓hX.g0_3, ↓hX.g0_4, ↓hX.g0_5, ↓hX.g0_6, ↓hX.g0_7, ↓hX.g0_8, ↓hX.g0_9, ↓hX.g1_0, ↓hX.g1_1, ↓hX.g1_2, ↓hX.g1_3, ↓hX.g1_4, ↓hX.g1_5, ↓hp.g0, ↓hp.g1, ↓hp.g2, ↓hp.g3, ↓hp.g4, ↓hp.g5, ↓hp.g6, ↓hp.g7, ↓hp.g8, ↓hp.g9, ↓hp.gb, hp.gb, g, ↓z_gnow hX hn, z_gnow hX hn, h24, hk, q3, g2, z_thw]
theorem z_m1m (x : Int32) : -1 - (-1 - x) = x := by
  rw [Int32.sub_eq_add_neg, Int32.neg_sub, Int32.add_comm, Int32.sub_add_cancel]
theorem z_okl_p (hw : z_wf P) {k : Nat} (hk : k < z_nm P) {x : Int32} (hx : x < 0) : z_in (-1 - x) (z_cnt P k) = z_okl P k x := by
  have hc2 : z_cnt P k ≤ 2 := (hw.2.2.2.1 k hk).2.2.2.1.1
  apply Bool.eq_iff_iff.mpr
  unfold z_okl
  rw [if_pos hx, z_in_iff (by omega)]
  simp only [Bool.or_eq_true, Bool.and_eq_true, decide_eq_true_eq]
  constructor
  · rintro ⟨j, hj, e⟩
    have ex : x = -1 - nI j := by rw [← e]; exact (z_m1m x).symm
    have hj2 : j = 0 ∨ j = 1 := by omega
    rcases hj2 with rfl | rfl
    · exact Or.inl ⟨by rw [ex]; decide, hj⟩
    · exact Or.inr ⟨by rw [ex]; decide, hj⟩
  · rintro (⟨rfl, h⟩ | ⟨rfl, h⟩)
    · exact ⟨0, h, by decide⟩
    · exact ⟨1, h, by decide⟩
theorem c_renL (hw : z_WA A) (h : z_CR S m A) (k x name : Int32) : ∃ S1 m1, f142 0 k x name (z_hp S m) = some ((z_orenL A k x name).1, z_hp S1 m1) ∧ z_CR S1 m1 (z_orenL A k x name).2 ∧ z_SS S S1 ∧ ∀ a, 2390 ≤ a → m1 a = m a := by
  have h0 := h
  obtain ⟨sn, sx, sp, hI, hCM⟩ := h0
  have hX := hI.1
  have hp := hI.2.2.1 sn hI.2.2.2.1.1
  have hpk := hp.k
  have hn := hI.2.2.2.2.2.1
  have hc := hCM.2.2.1.1.1
  have hwf := hw.2.1.1
  have h24 := hwf.2.2.1
  have ref : ∀ E, f142 0 k x name (z_hp S m) = some (.inr E, z_hp (z_Sx S) m) → ∃ S1 m1, f142 0 k x name (z_hp S m) = some ((((.inr E, A) : (Int32 ⊕ Nat) × z_A)).1, z_hp S1 m1) ∧ z_CR S1 m1 (((.inr E, A) : (Int32 ⊕ Nat) × z_A)).2 ∧ z_SS S S1 ∧ ∀ a, 2390 ≤ a → m1 a = m a := fun E e => ⟨z_Sx S, m, e, z_CR_x h, z_SS.x S, fun _ _ => rfl⟩
  unfold z_orenL
  by_cases g1 : z_hm A.2.1 k = false
  · rw [if_pos g1]
    refine ref 2 ?_
    have e1 := f165_n hX hp hc hwf g1
    unfold f142
    simp (disch := ((try simp only [true_or, or_true, hX.k0, hX.k1, hX.k2, hX.k3, hX.k4, hX.k5, hX.k6, hX.k7, hX.l2, hX.l3, hX.l4, hX.l5, hX.l6, hX.l7]) <;> (try omega))) only [↓reduceIte, ↓z_ite, ↓zR, ↓zB_R, ↓zB_B, ↓zB_ite, ↓zB_gI, ↓zB_pI, ↓zB_pZ, ↓zB_aK, ↓zB_G, ↓zB_lI, ↓zB_lZ, ↓zB_wI, ↓zB_wZ, ↓zB_lIl, ↓zB_wIl, zB_pI, zB_pZ, zB_lI, zB_lZ, zB_wI, zB_wZ, z_addl, z_ladd, z_mull, z_lmul, nI_add, z_subl, Nat.not_lt_zero, z_10, z_01, z_bitc, z_b0, z_b1, ↓zB_Gb, ↓zB_G0, ↓zB_G1, z_eql, z_leq, z_ltl, z_llt, z_eq, z_lt, z_m1lt, hX.k0, hX.k1, hX.k2, hX.k3, hX.k4, hX.k5, hX.k6, hX.k7, hX.l2, hX.l3, hX.l4, hX.l5, hX.l6, hX.l7, ↓hX.g0_0, ↓hX.g0_1, ↓hX.g0_2, ↓hX.g0_3, ↓hX.g0_4, ↓hX.g0_5, ↓hX.g0_6, ↓hX.g0_7, ↓hX.g0_8, ↓hX.g0_9, ↓hX.g1_0, ↓hX.g1_1, ↓hX.g1_2, ↓hX.g1_3, ↓hX.g1_4, ↓hX.g1_5, ↓z_gnow hX hn, z_gnow hX hn, ↓zT_r e1, zT_r e1]
  rw [if_neg g1]
  have g1' := z_not_false g1
  have e1 := f165_y hX hp hc hwf g1'
  obtain ⟨hk1, hl⟩ := Bool.and_eq_true_iff.mp g1'
  obtain ⟨k', hk', rfl⟩ := (z_in_iff (by omega)).mp hk1
  rw [nI_clamp (by omega)] at hl
  rw [nI_clamp (show k' < 2 ^ 31 by omega)]
  have hlen := hw.2.1.2 k' hk'
  -- to the second half
  have half : ∀ r, f142_30 0 (nI k') x name (z_hp S m) = r → z_okl A.2.1 k' x = true → f142 0 (nI k') x name (z_hp S m) = r := fun r hr ho => by
    by_cases x0 : x < 0
    · have e2 := f167_sp hX hn hp hc hwf hk' hl (-1 - x)
      rw [z_okl_p hwf hk' x0, if_pos ho] at e2
      unfold f142
      simp (disch := ((try simp only [true_or, or_true, hX.k0, hX.k1, hX.k2, hX.k3, hX.k4, hX.k5, hX.k6, hX.k7, hX.l2, hX.l3, hX.l4, hX.l5, hX.l6, hX.l7]) <;> (try omega))) only [↓reduceIte, ↓z_ite, ↓zR, ↓zB_R, ↓zB_B, ↓zB_ite, ↓zB_gI, ↓zB_pI, ↓zB_pZ, ↓zB_aK, ↓zB_G, ↓zB_lI, ↓zB_lZ, ↓zB_wI, ↓zB_wZ, ↓zB_lIl, ↓zB_wIl, zB_pI, zB_pZ, zB_lI, zB_lZ, zB_wI, zB_wZ, z_addl, z_ladd, z_mull, z_lmul, nI_add, z_subl, Nat.not_lt_zero, z_10, z_01, z_bitc, z_b0, z_b1, ↓zB_Gb, ↓zB_G0, ↓zB_G1, z_eql, z_leq, z_ltl, z_llt, z_eq, z_lt, z_m1lt, hX.k0, hX.k1, hX.k2, hX.k3, hX.k4, hX.k5, hX.k6, hX.k7, hX.l2, hX.l3, hX.l4, hX.l5, hX.l6, hX.l7, ↓hX.g0_0, ↓hX.g0_1, ↓hX.g0_2, ↓hX.g0_3, ↓hX.g0_4, ↓hX.g0_5, ↓hX.g0_6, ↓hX.g0_7, ↓hX.g0_8, ↓hX.g0_9, ↓hX.g1_0, ↓hX.g1_1, ↓hX.g1_2, ↓hX.g1_3, ↓hX.g1_4, ↓hX.g1_5, ↓z_gnow hX hn, z_gnow hX hn, ↓zT_l e1, zT_l e1, x0, ↓zT_l e2, zT_l e2]
      exact hr
    · have ho2 := ho
      unfold z_okl at ho2
      rw [if_neg x0] at ho2
      obtain ⟨i, hi, rfl⟩ := (z_in_iff (by omega)).mp ho2
      have e2 := f166_y hX hn hp hc hwf hk' hl hi
      unfold f142
      simp (disch := ((try simp only [true_or, or_true, hX.k0, hX.k1, hX.k2, hX.k3, hX.k4, hX.k5, hX.k6, hX.k7, hX.l2, hX.l3, hX.l4, hX.l5, hX.l6, hX.l7]) <;> (try omega))) only [↓reduceIte, ↓z_ite, ↓zR, ↓zB_R, ↓zB_B, ↓zB_ite, ↓zB_gI, ↓zB_pI, ↓zB_pZ, ↓zB_aK, ↓zB_G, ↓zB_lI, ↓zB_lZ, ↓zB_wI, ↓zB_wZ, ↓zB_lIl, ↓zB_wIl, zB_pI, zB_pZ, zB_lI, zB_lZ, zB_wI, zB_wZ, z_addl, z_ladd, z_mull, z_lmul, nI_add, z_subl, Nat.not_lt_zero, z_10, z_01, z_bitc, z_b0, z_b1, ↓zB_Gb, ↓zB_G0, ↓zB_G1, z_eql, z_leq, z_ltl, z_llt, z_eq, z_lt, z_m1lt, hX.k0, hX.k1, hX.k2, hX.k3, hX.k4, hX.k5, hX.k6, hX.k7, hX.l2, hX.l3, hX.l4, hX.l5, hX.l6, hX.l7, ↓hX.g0_0, ↓hX.g0_1, ↓hX.g0_2, ↓hX.g0_3, ↓hX.g0_4, ↓hX.g0_5, ↓hX.g0_6, ↓hX.g0_7, ↓hX.g0_8, ↓hX.g0_9, ↓hX.g1_0, ↓hX.g1_1, ↓hX.g1_2, ↓hX.g1_3, ↓hX.g1_4, ↓hX.g1_5, ↓z_gnow hX hn, z_gnow hX hn, ↓zT_l e1, zT_l e1, x0, ↓zT_l e2, zT_l e2]
      exact hr
  by_cases g2 : z_okl A.2.1 k' x = false
  · rw [if_pos g2]
    refine ref 2 ?_
    by_cases x0 : x < 0
    · have e2 := f167_sp hX hn hp hc hwf hk' hl (-1 - x)
      rw [z_okl_p hwf hk' x0, g2, if_neg (by decide)] at e2
      unfold f142
      simp (disch := ((try simp only [true_or, or_true, hX.k0, hX.k1, hX.k2, hX.k3, hX.k4, hX.k5, hX.k6, hX.k7, hX.l2, hX.l3, hX.l4, hX.l5, hX.l6, hX.l7]) <;> (try omega))) only [↓reduceIte, ↓z_ite, ↓zR, ↓zB_R, ↓zB_B, ↓zB_ite, ↓zB_gI, ↓zB_pI, ↓zB_pZ, ↓zB_aK, ↓zB_G, ↓zB_lI, ↓zB_lZ, ↓zB_wI, ↓zB_wZ, ↓zB_lIl, ↓zB_wIl, zB_pI, zB_pZ, zB_lI, zB_lZ, zB_wI, zB_wZ, z_addl, z_ladd, z_mull, z_lmul, nI_add, z_subl, Nat.not_lt_zero, z_10, z_01, z_bitc, z_b0, z_b1, ↓zB_Gb, ↓zB_G0, ↓zB_G1, z_eql, z_leq, z_ltl, z_llt, z_eq, z_lt, z_m1lt, hX.k0, hX.k1, hX.k2, hX.k3, hX.k4, hX.k5, hX.k6, hX.k7, hX.l2, hX.l3, hX.l4, hX.l5, hX.l6, hX.l7, ↓hX.g0_0, ↓hX.g0_1, ↓hX.g0_2, ↓hX.g0_3, ↓hX.g0_4, ↓hX.g0_5, ↓hX.g0_6, ↓hX.g0_7, ↓hX.g0_8, ↓hX.g0_9, ↓hX.g1_0, ↓hX.g1_1, ↓hX.g1_2, ↓hX.g1_3, ↓hX.g1_4, ↓hX.g1_5, ↓z_gnow hX hn, z_gnow hX hn, ↓zT_l e1, zT_l e1, x0, ↓zT_r e2, zT_r e2]
    · have ho2 := g2
      unfold z_okl at ho2
      rw [if_neg x0] at ho2
      have e2 := f166_n hX hn hp hc hwf hk' hl ho2
      unfold f142
      simp (disch := ((try simp only [true_or, or_true, hX.k0, hX.k1, hX.k2, hX.k3, hX.k4, hX.k5, hX.k6, hX.k7, hX.l2, hX.l3, hX.l4, hX.l5, hX.l6, hX.l7]) <;> (try omega))) only [↓reduceIte, ↓z_ite, ↓zR, ↓zB_R, ↓zB_B, ↓zB_ite, ↓zB_gI, ↓zB_pI, ↓zB_pZ, ↓zB_aK, ↓zB_G, ↓zB_lI, ↓zB_lZ, ↓zB_wI, ↓zB_wZ, ↓zB_lIl, ↓zB_wIl, zB_pI, zB_pZ, zB_lI, zB_lZ, zB_wI, zB_wZ, z_addl, z_ladd, z_mull, z_lmul, nI_add, z_subl, Nat.not_lt_zero, z_10, z_01, z_bitc, z_b0, z_b1, ↓zB_Gb, ↓zB_G0, ↓zB_G1, z_eql, z_leq, z_ltl, z_llt, z_eq, z_lt, z_m1lt, hX.k0, hX.k1, hX.k2, hX.k3, hX.k4, hX.k5, hX.k6, hX.k7, hX.l2, hX.l3, hX.l4, hX.l5, hX.l6, hX.l7, ↓hX.g0_0, ↓hX.g0_1, ↓hX.g0_2, ↓hX.g0_3, ↓hX.g0_4, ↓hX.g0_5, ↓hX.g0_6, ↓hX.g0_7, ↓hX.g0_8, ↓hX.g0_9, ↓hX.g1_0, ↓hX.g1_1, ↓hX.g1_2, ↓hX.g1_3, ↓hX.g1_4, ↓hX.g1_5, ↓z_gnow hX hn, z_gnow hX hn, ↓zT_l e1, zT_l e1, x0, ↓zT_r e2, zT_r e2]
  rw [if_neg g2]
  have g2' := z_not_false g2
  have hv := z_okl_v g2' (by omega)
  have e99 := f99_sp (S := S) hp hc hwf hk' hl (x := x) (by
    rcases hv with h | h | h
    · exact Or.inl h.1
    · exact Or.inr (Or.inl h.1)
    · exact Or.inr (Or.inr h))
  by_cases g3 : z_in name 16 = false ∨ name = z_nol A.2.1 k' x
  · rw [if_pos g3]
    refine ref 1 (half _ ?_ g2')
    unfold f142_30
    simp (disch := ((try simp only [true_or, or_true, hX.k0, hX.k8, hX.k9, hX.l9, hp.k, hp.k1, hp.k2, hp.k3, hp.k4, hp.k5, hp.k6, hp.k7, hp.k8, hp.k9, hp.k10, hp.l1, hp.l2, hp.l3, hp.l4, hp.l5, hp.l6, hp.l7, hp.l8, hp.l9, hp.l10, hpk]) <;> (try omega))) only [↓reduceIte, ↓z_ite, ↓zR, ↓zB_R, ↓zB_B, ↓zB_ite, ↓zB_gI, ↓zB_pI, ↓zB_pZ, ↓zB_aK, ↓zB_G, ↓zB_lI, ↓zB_lZ, ↓zB_wI, ↓zB_wZ, ↓zB_lIl, ↓zB_wIl, zB_pI, zB_pZ, zB_lI, zB_lZ, zB_wI, zB_wZ, z_addl, z_ladd, z_mull, z_lmul, nI_add, z_subl, Nat.not_lt_zero, z_10, z_01, z_bitc, z_b0, z_b1, ↓zB_Gb, ↓zB_G0, ↓zB_G1, z_eql, z_leq, z_ltl, z_llt, z_eq, z_lt, z_m1lt, hX.k0, hX.k8, hX.k9, hX.l9, hp.k, hp.k1, hp.k2, hp.k3, hp.k4, hp.k5, hp.k6, hp.k7, hp.k8, hp.k9, hp.k10, hp.l1, hp.l2, hp.l3, hp.l4, hp.l5, hp.l6, hp.l7, hp.l8, hp.l9, hp.l10, hpk, ↓hX.g0_0, ↓hX.g0_1, ↓hX.g0_2, ↓hX.g0_3, ↓hX.g0_4, ↓hX.g0_5, ↓hX.g0_6, ↓hX.g0_7, ↓hX.g0_8, ↓hX.g0_9, ↓hX.g8_0, ↓hp.g0, ↓hp.g1, ↓hp.g2, ↓hp.g3, ↓hp.g4, ↓hp.g5, ↓hp.g6, ↓hp.g7, ↓hp.g8, ↓hp.g9, ↓hp.gb, hp.gb, ↓z_gnow hX hn, z_gnow hX hn, ↓zB_c e99, zB_c e99, ↓zT_r (f161_n hX g3), zT_r (f161_n hX g3)]
  rw [if_neg g3]
  have e2 := f161_y (S := S) (m := m) hX (x := name) (y := z_nol A.2.1 k' x) (z_not_false (fun q => g3 (Or.inl q))) (fun q => g3 (Or.inr q))
  by_cases g4 : z_wr A.2.1 = -1
  · rw [if_pos g4]
    obtain ⟨m1, e3, c1, r1, f14⟩ := c_rr_y hw hI hCM g4
    obtain ⟨S', m', e4, d1, d2, d3⟩ := c_tail hw hI c1 g4 f14 (ob := 21) (kd := 8) hX.k21 (OP := fun q => f108 21 (z_pid sn) q (nI k') x name) (r := z_rlR A.2.1 k' x name) (Q := z_rlQ A.2.1 k' x name) (fun m2 hpre => f108_sp hpre hwf hk' hl hv name)
    refine ⟨S', m', half _ ?_ g2', d1, d2, fun a ha => (d3 a ha).trans (r1 a ha)⟩
    unfold f142_30
    simp (disch := ((try simp only [true_or, or_true, hX.k0, hX.k8, hX.k9, hX.l9, hp.k, hp.k1, hp.k2, hp.k3, hp.k4, hp.k5, hp.k6, hp.k7, hp.k8, hp.k9, hp.k10, hp.l1, hp.l2, hp.l3, hp.l4, hp.l5, hp.l6, hp.l7, hp.l8, hp.l9, hp.l10, hpk]) <;> (try omega))) only [↓reduceIte, ↓z_ite, ↓zR, ↓zB_R, ↓zB_B, ↓zB_ite, ↓zB_gI, ↓zB_pI, ↓zB_pZ, ↓zB_aK, ↓zB_G, ↓zB_lI, ↓zB_lZ, ↓zB_wI, ↓zB_wZ, ↓zB_lIl, ↓zB_wIl, zB_pI, zB_pZ, zB_lI, zB_lZ, zB_wI, zB_wZ, z_addl, z_ladd, z_mull, z_lmul, nI_add, z_subl, Nat.not_lt_zero, z_10, z_01, z_bitc, z_b0, z_b1, ↓zB_Gb, ↓zB_G0, ↓zB_G1, z_eql, z_leq, z_ltl, z_llt, z_eq, z_lt, z_m1lt, hX.k0, hX.k8, hX.k9, hX.l9, hp.k, hp.k1, hp.k2, hp.k3, hp.k4, hp.k5, hp.k6, hp.k7, hp.k8, hp.k9, hp.k10, hp.l1, hp.l2, hp.l3, hp.l4, hp.l5, hp.l6, hp.l7, hp.l8, hp.l9, hp.l10, hpk, ↓hX.g0_0, ↓hX.g0_1, ↓hX.g0_2, ↓hX.g0_3, ↓hX.g0_4, ↓hX.g0_5, ↓hX.g0_6, ↓hX.g0_7, ↓hX.g0_8, ↓hX.g0_9, ↓hX.g8_0, ↓hp.g0, ↓hp.g1, ↓hp.g2, ↓hp.g3, ↓hp.g4, ↓hp.g5, ↓hp.g6, ↓hp.g7, ↓hp.g8, ↓hp.g9, ↓hp.gb, hp.gb, ↓z_gnow hX hn, z_gnow hX hn, ↓zB_c e99, zB_c e99, ↓zT_l e2, zT_l e2, ↓zT_l e3, zT_l e3]
    exact e4
  · rw [if_neg g4]
    obtain ⟨m1, e3, c1, r1⟩ := c_rr_n hw hI hCM g4
    refine ⟨z_Sx S, m1, half _ ?_ g2', ⟨sn, sx, sp, hI, c1⟩, z_SS.x S, r1⟩
    unfold f142_30
    simp (disch := ((try simp only [true_or, or_true, hX.k0, hX.k8, hX.k9, hX.l9, hp.k, hp.k1, hp.k2, hp.k3, hp.k4, hp.k5, hp.k6, hp.k7, hp.k8, hp.k9, hp.k10, hp.l1, hp.l2, hp.l3, hp.l4, hp.l5, hp.l6, hp.l7, hp.l8, hp.l9, hp.l10, hpk]) <;> (try omega))) only [↓reduceIte, ↓z_ite, ↓zR, ↓zB_R, ↓zB_B, ↓zB_ite, ↓zB_gI, ↓zB_pI, ↓zB_pZ, ↓zB_aK, ↓zB_G, ↓zB_lI, ↓zB_lZ, ↓zB_wI, ↓zB_wZ, ↓zB_lIl, ↓zB_wIl, zB_pI, zB_pZ, zB_lI, zB_lZ, zB_wI, zB_wZ, z_addl, z_ladd, z_mull, z_lmul, nI_add, z_subl, Nat.not_lt_zero, z_10, z_01, z_bitc, z_b0, z_b1, ↓zB_Gb, ↓zB_G0, ↓zB_G1, z_eql, z_leq, z_ltl, z_llt, z_eq, z_lt, z_m1lt, hX.k0, hX.k8, hX.k9, hX.l9, hp.k, hp.k1, hp.k2, hp.k3, hp.k4, hp.k5, hp.k6, hp.k7, hp.k8, hp.k9, hp.k10, hp.l1, hp.l2, hp.l3, hp.l4, hp.l5, hp.l6, hp.l7, hp.l8, hp.l9, hp.l10, hpk, ↓hX.g0_0, ↓hX.g0_1, ↓hX.g0_2, ↓hX.g0_3, ↓hX.g0_4, ↓hX.g0_5, ↓hX.g0_6, ↓hX.g0_7, ↓hX.g0_8, ↓hX.g0_9, ↓hX.g8_0, ↓hp.g0, ↓hp.g1, ↓hp.g2, ↓hp.g3, ↓hp.g4, ↓hp.g5, ↓hp.g6, ↓hp.g7, ↓hp.g8, ↓hp.g9, ↓hp.gb, hp.gb, ↓z_gnow hX hn, z_gnow hX hn, ↓zB_c e99, zB_c e99, ↓zT_l e2, zT_l e2, ↓zT_r e3, zT_r e3]
end
