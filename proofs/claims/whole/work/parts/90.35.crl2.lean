-- deps: 90.34.crl
/-! a local renamed: the class, all of it -/
section
variable {S : z_S} {m : z_m} {p q : Nat} {P : z_Pg} {A : z_A}
theorem z_sM_2 {k : Nat} {H : Nat → Int32} {l0 l : List z_N} : z_sM (z_sM P k H l0) k (z_hd (z_sM P k H l0) k) l = z_sM P k H l := by
  unfold z_sM z_hd z_bd
  congr 5
  · funext k' w
    by_cases g : k' = k
    · rw [if_pos g]; simp [g]
    · simp [g]
  · funext k'
    by_cases g : k' = k <;> simp [g]
theorem z_sM_id {k : Nat} : z_sM P k (z_hd P k) (z_bd P k) = P := by
  unfold z_sM z_hd z_bd
  obtain ⟨a, b, c, d, e, f⟩ := P
  congr 5
  · funext k' w
    by_cases g : k' = k <;> simp [g]
  · funext k'
    by_cases g : k' = k <;> simp [g]
/-- a parameter's name, in the class's program -/
theorem z_cp_nm (hcq : z_cp m q P) (hq : 242 ≤ q) (hw : z_wf P) {k i : Nat} (hk : k < z_nm P) (hl : z_liv P k = true) (hi : i < 2) (v : Int32) : z_cp (z_up m (q + 7) (k * 2 + i) v) q (z_sM P k (z_hset (z_hd P k) (4 + i) v) (z_bd P k)) := by
  have hh := z_h1_of hcq hk hl
  refine z_cp_sM hcq (fun j hj => (hw.2.2.2.1 j hj).2.2.2.1.1) hk hl ⟨z_up_row (by omega), z_up_row (by omega), z_up_row (by omega), z_up_row (by omega), fun j hj => ⟨by rw [z_up_row (by omega)], by rw [z_up_row (by omega)], by rw [z_up_row (by omega)], by rw [z_up_row (by omega)], fun i' hi' => ⟨by rw [z_up_b (by omega)], by rw [z_up_row (by omega)]⟩⟩⟩ (by rw [z_hset_o (by omega)]; simpa [z_liv] using hl) ?_ (fun j hj => by rw [z_up_row (by unfold z_bi; omega)]; exact hcq.2.2.1 j hj) (fun j hj hne a x1 x2 => z_up_row (by unfold z_bi at x1; omega)) (z_cb_fr (fun a x1 x2 => z_up_row (by unfold z_bi at x1; omega)) (hcq.2.2.2 k hk hl))
  obtain ⟨r1, r2, r3, r4, r5, r6⟩ := hh
  refine ⟨?_, ?_, ?_, ?_, fun i' hi' => ?_, fun i' hi' => ?_⟩
  · rw [z_up_row (by omega), z_hset_o (by omega)]; exact r1
  · rw [z_up_row (by omega), z_hset_o (by omega)]; exact r2
  · rw [z_up_row (by omega), z_hset_o (by omega)]; exact r3
  · rw [z_up_row (by omega), z_hset_o (by omega)]; exact r4
  · by_cases g : i' = i
    · subst g; rw [z_up_s, z_hset_s]
    · rw [z_up_b (by omega), z_hset_o (by omega)]; exact r5 i' hi'
  · rw [z_hset_o (by omega)] at hi'
    rw [z_up_row (by omega), z_hset_o (by omega)]; exact r6 i' hi'
/-- the last of it: the name of a parameter, then the body -/
theorem f108_262_sp (hX : z_XS S) (hq : z_PS S q) (lo : 242 ≤ q) (hcq : z_cp m q P) (hw : z_wf P) {k : Nat} (hk : k < z_nm P) (hl : z_liv P k = true) {x : Int32} (hx : z_vpl P k x) (name : Int32) {c : Nat} (hsh : z_cb m 22 256 (z_rlD P k x name)) (h14 : m q 14 = 0) : ∃ m', f108_262 21 q (nI k) x name (nI c) (z_hp S m) = some (if 60 < (z_rlD P k x name).length then -6 else nI c, z_hp S m') ∧ (¬ 60 < (z_rlD P k x name).length → z_PK m' q (z_rlQ P k x name)) ∧ z_rm60 m' q ∧ z_oF q m m' := by
  have h24 := hw.2.2.1
  have h22 := hX.2.2.2.1.1
  have h22k := h22.k
  have hbq := hq.B (k := k) (by omega)
  have hbqk := hbq.k
  have hct : ∀ k, k < z_nm P → z_cnt P k ≤ 2 := fun j hj => (hw.2.2.2.1 j hj).2.2.2.1.1
  have mid : ∃ m1, f108_262 21 q (nI k) x name (nI c) (z_hp S m) = f108_282 21 q (nI k) (nI c) (z_hp S m1) ∧ z_cp m1 q (z_sM P k (z_rlH P k x name) (z_bd P k)) ∧ z_cb m1 22 256 (z_rlD P k x name) ∧ z_oF q m m1 ∧ m1 q = m q := by
    have wr : ∀ i, i < 2 → x < 0 → nI k * 2 - 1 - x = nI (k * 2 + i) → z_rlH P k x name = z_hset (z_hd P k) (4 + i) name → ∃ m1, f108_262 21 q (nI k) x name (nI c) (z_hp S m) = f108_282 21 q (nI k) (nI c) (z_hp S m1) ∧ z_cp m1 q (z_sM P k (z_rlH P k x name) (z_bd P k)) ∧ z_cb m1 22 256 (z_rlD P k x name) ∧ z_oF q m m1 ∧ m1 q = m q := fun i hi x0 ei eH => by
      refine ⟨z_up m (q + 7) (k * 2 + i) name, ?_, ?_, z_cb_fr (fun a x1 x2 => z_up_row (by omega)) hsh, ⟨fun a _ _ x => z_up_row (by omega), by rw [z_up_row (by omega)], by rw [z_up_row (by omega)], by rw [z_up_row (by omega)], by rw [z_up_row (by omega)]⟩, z_up_row (by omega)⟩
      · unfold f108_262
        rw [if_pos x0, ei]
        have hk2 : k * 2 + i < 48 := by omega
        simp (disch := ((try simp only [true_or, or_true, hq.k, hq.k1, hq.k2, hq.k3, hq.k4, hq.k5, hq.k6, hq.k7, hq.k8, hq.k9, hq.k10, hq.l1, hq.l2, hq.l3, hq.l4, hq.l5, hq.l6, hq.l7, hq.l8, hq.l9, hq.l10]) <;> (try omega))) only [↓reduceIte, ↓z_ite, ↓zR, ↓zB_R, ↓zB_B, ↓zB_ite, ↓zB_gI, ↓zB_pI, ↓zB_pZ, ↓zB_aK, ↓zB_G, ↓zB_lI, ↓zB_lZ, ↓zB_wI, ↓zB_wZ, ↓zB_lIl, ↓zB_wIl, zB_pI, zB_pZ, zB_lI, zB_lZ, zB_wI, zB_wZ, z_addl, z_ladd, z_mull, z_lmul, nI_add, z_subl, Nat.not_lt_zero, z_10, z_01, z_bitc, z_b0, z_b1, ↓zB_Gb, ↓zB_G0, ↓zB_G1, z_eql, z_leq, z_ltl, z_llt, z_eq, z_lt, z_m1lt, hq.k, hq.k1, hq.k2, hq.k3, hq.k4, hq.k5, hq.k6, hq.k7, hq.k8, hq.k9, hq.k10, hq.l1, hq.l2, hq.l3, hq.l4, hq.l5, hq.l6, hq.l7, hq.l8, hq.l9, hq.l10, ↓hq.g0, ↓hq.g1, ↓hq.g2, ↓hq.g3, ↓hq.g4, ↓hq.g5, ↓hq.g6, ↓hq.g7, ↓hq.g8, ↓hq.g9, ↓hq.gb, hq.gb, hk2]
      · rw [eH]; exact z_cp_nm hcq lo hw hk hl hi name
    rcases hx with ⟨rfl, _⟩ | ⟨rfl, _⟩ | ⟨i, hi, rfl⟩
    · exact wr 0 (by decide) (by decide) (by rw [show (2 : Int32) = nI 2 from rfl, pk_mul, Int32.sub_sub, show (1 : Int32) + -1 = 0 by decide, Int32.sub_zero]; rfl) (if_pos rfl)
    · exact wr 1 (by decide) (by decide) (by rw [show (2 : Int32) = nI 2 from rfl, pk_mul, Int32.sub_sub, show (1 : Int32) + -(nI 2) = -1 by decide, Int32.sub_neg, show (1 : Int32) = nI 1 from rfl, nI_add]) (by unfold z_rlH; rw [if_neg (by decide), if_pos rfl])
    · have hlen := (hcq.2.2.2 k hk hl).2.2.1
      have g0 : ¬ nI i < 0 := nI_pos (by omega)
      have g1 : ¬ nI i = -1 := z_nI_m1 (by omega)
      have g2 : ¬ nI i = -2 := z_eqm (k := 2) (by omega) (by decide) (by decide)
      refine ⟨m, ?_, ?_, hsh, z_oF.refl q m, rfl⟩
      · unfold f108_262
        rw [if_neg g0]
      · unfold z_rlH
        rw [if_neg g1, if_neg g2, z_sM_id]; exact hcq
  obtain ⟨m1, e1, c1, cb1, F1, q1⟩ := mid
  obtain ⟨m2, e7, r2, F2, c2⟩ := z_take hq h22 (by omega) (show k < 24 by omega) c1.2.2.1 cb1
  have hh0 : z_rlH P k x name 0 = z_hd P k 0 ∧ z_rlH P k x name 3 = z_hd P k 3 := by
    unfold z_rlH
    split
    · exact ⟨z_hset_o (by decide), z_hset_o (by decide)⟩
    · split
      · exact ⟨z_hset_o (by decide), z_hset_o (by decide)⟩
      · exact ⟨rfl, rfl⟩
  refine ⟨m2, ?_, fun g60 => ?_, r2, F1.trans (F2.oF2 (by omega) lo)⟩
  · rw [e1]
    unfold f108_282 f108_305
    by_cases g60 : (z_rlD P k x name).length ≤ 60
    · rw [decide_eq_true g60] at e7
      rw [if_neg (by omega)]
      simp (disch := ((try simp only [true_or, or_true, hq.k, hq.k1, hq.k2, hq.k3, hq.k4, hq.k5, hq.k6, hq.k7, hq.k8, hq.k9, hq.k10, hq.l1, hq.l2, hq.l3, hq.l4, hq.l5, hq.l6, hq.l7, hq.l8, hq.l9, hq.l10, hX.k21, hbqk, h22k]) <;> (try omega))) only [↓reduceIte, ↓z_ite, ↓zR, ↓zB_R, ↓zB_B, ↓zB_ite, ↓zB_gI, ↓zB_pI, ↓zB_pZ, ↓zB_aK, ↓zB_G, ↓zB_lI, ↓zB_lZ, ↓zB_wI, ↓zB_wZ, ↓zB_lIl, ↓zB_wIl, zB_pI, zB_pZ, zB_lI, zB_lZ, zB_wI, zB_wZ, z_addl, z_ladd, z_mull, z_lmul, nI_add, z_subl, Nat.not_lt_zero, z_10, z_01, z_bitc, z_b0, z_b1, ↓zB_Gb, ↓zB_G0, ↓zB_G1, z_eql, z_leq, z_ltl, z_llt, z_eq, z_lt, z_m1lt, hq.k, hq.k1, hq.k2, hq.k3, hq.k4, hq.k5, hq.k6, hq.k7, hq.k8, hq.k9, hq.k10, hq.l1, hq.l2, hq.l3, hq.l4, hq.l5, hq.l6, hq.l7, hq.l8, hq.l9, hq.l10, hX.k21, hbqk, h22k, ↓hq.g0, ↓hq.g1, ↓hq.g2, ↓hq.g3, ↓hq.g4, ↓hq.g5, ↓hq.g6, ↓hq.g7, ↓hq.g8, ↓hq.g9, ↓hq.gb, hq.gb, ↓hX.g21_0, h24, hk, ↓zB_c e7, zB_c e7, Bool.true_eq_false]
    · rw [decide_eq_false g60] at e7
      rw [if_pos (by omega)]
      simp (disch := ((try simp only [true_or, or_true, hq.k, hq.k1, hq.k2, hq.k3, hq.k4, hq.k5, hq.k6, hq.k7, hq.k8, hq.k9, hq.k10, hq.l1, hq.l2, hq.l3, hq.l4, hq.l5, hq.l6, hq.l7, hq.l8, hq.l9, hq.l10, hX.k21, hbqk, h22k]) <;> (try omega))) only [↓reduceIte, ↓z_ite, ↓zR, ↓zB_R, ↓zB_B, ↓zB_ite, ↓zB_gI, ↓zB_pI, ↓zB_pZ, ↓zB_aK, ↓zB_G, ↓zB_lI, ↓zB_lZ, ↓zB_wI, ↓zB_wZ, ↓zB_lIl, ↓zB_wIl, zB_pI, zB_pZ, zB_lI, zB_lZ, zB_wI, zB_wZ, z_addl, z_ladd, z_mull, z_lmul, nI_add, z_subl, Nat.not_lt_zero, z_10, z_01, z_bitc, z_b0, z_b1, ↓zB_Gb, ↓zB_G0, ↓zB_G1, z_eql, z_leq, z_ltl, z_llt, z_eq, z_lt, z_m1lt, hq.k, hq.k1, hq.k2, hq.k3, hq.k4, hq.k5, hq.k6, hq.k7, hq.k8, hq.k9, hq.k10, hq.l1, hq.l2, hq.l3, hq.l4, hq.l5, hq.l6, hq.l7, hq.l8, hq.l9, hq.l10, hX.k21, hbqk, h22k, ↓hq.g0, ↓hq.g1, ↓hq.g2, ↓hq.g3, ↓hq.g4, ↓hq.g5, ↓hq.g6, ↓hq.g7, ↓hq.g8, ↓hq.g9, ↓hq.gb, hq.gb, ↓hX.g21_0, h24, hk, ↓zB_c e7, zB_c e7]
  · have hl1 : z_liv (z_sM P k (z_rlH P k x name) (z_bd P k)) k = true := by unfold z_liv; rw [z_sM_hd_s, hh0.1]; exact hl
    have := c2 _ c1 (fun j hj => by
      by_cases g : j = k
      · subst g
        unfold z_cnt; rw [z_sM_hd_s, hh0.2]; exact hct j hk
      · rw [z_sM_cnt g]; exact hct j hj) hk hl1 (by omega)
    rw [z_sM_2] at this
    refine z_PK_0 this ?_
    rw [F2.1 q (by unfold z_bi; omega) (by unfold z_bi; omega) (by unfold z_bi; omega) (by unfold z_bi; omega), q1]; exact h14
/-- Renamer.local -/
theorem f108_sp (hpre : z_Pre S m p q P) (hw : z_wf P) {k : Nat} (hk : k < z_nm P) (hl : z_liv P k = true) {x : Int32} (hx : z_vpl P k x) (name : Int32) : ∃ m', f108 21 p q (nI k) x name (z_hp S m) = some (z_rlR P k x name, z_hp S m') ∧ z_Post m m' q (z_rlR P k x name) (z_rlQ P k x name) := by
  obtain ⟨⟨hX, hp, hq⟩, ⟨lo, lo2, hpq⟩, ⟨hcp, hT⟩, ⟨hcq, h14⟩, hs22, hsh⟩ := hpre
  have h24 := hw.2.2.1
  have h22 := hX.2.2.2.1.1
  have h22k := h22.k
  have hb := hp.B (k := k) (by omega)
  have hbk := hb.k
  have hpk := hp.k
  have hcb := hcp.2.2.2 k hk hl
  have c7 := hcb.2.1
  have hlen : (z_bd P k).length ≤ 60 := hcb.2.2.1
  have hB := hw.2.2.2.2.1 k hk
  have hsle : z_rls P k x ≤ 300 ∧ z_rle P k x ≤ 300 := by
    unfold z_rls z_rle
    by_cases g : x < 0
    · rw [if_pos g, if_pos g]; omega
    · rw [if_neg g, if_neg g]
      rcases hx with ⟨rfl, _⟩ | ⟨rfl, _⟩ | ⟨i, hi, rfl⟩
      · exact absurd (by decide) g
      · exact absurd (by decide) g
      · rw [nI_clamp (by omega)]
        have h1 := z_pt_len hB.1 hi 1
        have h2 := z_en_le hB.1 hi
        omega
  -- from the sheet on
  have tail : ∃ m' r, f108_86 21 q (nI k) x name (z_bi p k) (nI (z_rls P k x)) (nI (z_rle P k x)) (z_hp S m) = some (r, z_hp S m') ∧ r = (if z_any (fun i => z_rlw P k x i && z_rlc P k x name i) (z_bd P k).length = true then -2 else if 60 < (z_rlD P k x name).length then -6 else nI (z_ct (z_rlb P k x) (z_bd P k).length)) ∧ z_Post m m' q r (z_rlQ P k x name) := by
    obtain ⟨m2, e1, cb2, F2⟩ := f1_sp (S := S) h22 hs22 (by decide)
    have hcp2 : z_cp m2 p P := F2.cp (by omega) h24 hcp
    have hT2 : z_LT m2 p P := z_LT_fr hw (fun a x1 x2 => F2.at (by omega)) hT
    obtain ⟨m3, F3, hc⟩ := f108_101_sp (q := q) hX hp lo hcp2 hT2 hw hk hl hx name cb2 hsle.1 hsle.2
    have F23 := F2.trans F3
    have hF := F23.oF (Or.inl rfl) q lo2
    have st : f108_86 21 q (nI k) x name (z_bi p k) (nI (z_rls P k x)) (nI (z_rle P k x)) (z_hp S m) = f108_101 21 q (nI k) x name (z_bi p k) (nI (z_rls P k x)) (nI (z_rle P k x)) 0 0 (z_hp S m2) := by
      unfold f108_86
      simp (disch := ((try simp only [true_or, or_true, hX.k21, h22k]) <;> (try omega))) only [↓reduceIte, ↓z_ite, ↓zR, ↓zB_R, ↓zB_B, ↓zB_ite, ↓zB_gI, ↓zB_pI, ↓zB_pZ, ↓zB_aK, ↓zB_G, ↓zB_lI, ↓zB_lZ, ↓zB_wI, ↓zB_wZ, ↓zB_lIl, ↓zB_wIl, zB_pI, zB_pZ, zB_lI, zB_lZ, zB_wI, zB_wZ, z_addl, z_ladd, z_mull, z_lmul, nI_add, z_subl, Nat.not_lt_zero, z_10, z_01, z_bitc, z_b0, z_b1, ↓zB_Gb, ↓zB_G0, ↓zB_G1, z_eql, z_leq, z_ltl, z_llt, z_eq, z_lt, z_m1lt, hX.k21, h22k, ↓hX.g21_0, ↓zB_c e1, zB_c e1]
    rcases hc with ⟨ha, e⟩ | ⟨ha, e, cb3⟩
    · refine ⟨m3, -2, st.trans e, (if_pos ha).symm, fun g => absurd (by decide) g, F23.rm (by omega) hcq.2.2.1, hF⟩
    · have hcq3 : z_cp m3 q P := F23.cp (by omega) h24 hcq
      have h143 : m3 q 14 = 0 := by rw [F23.at (by omega)]; exact h14
      obtain ⟨m4, e4, P4, r4, F4⟩ := f108_262_sp (c := z_ct (z_rlb P k x) (z_bd P k).length) hX hq lo2 hcq3 hw hk hl hx name cb3 h143
      refine ⟨m4, _, (st.trans e).trans e4, ?_, fun gr => P4 (fun g => ?_), r4, hF.trans F4⟩
      · exact (if_neg (by rw [ha]; exact Bool.false_ne_true)).symm
      · rw [if_pos g] at gr
        exact absurd (by decide) gr
  obtain ⟨mt, rt, et, er, hpost⟩ := tail
  have stay : ∀ r, r < 0 → f108 21 p q (nI k) x name (z_hp S m) = some (r, z_hp S m) → z_rlR P k x name = r → ∃ m', f108 21 p q (nI k) x name (z_hp S m) = some (z_rlR P k x name, z_hp S m') ∧ z_Post m m' q (z_rlR P k x name) (z_rlQ P k x name) := fun r hr e er => by
    rw [er]
    exact ⟨m, e, fun g => absurd hr g, hcq.2.2.1, z_oF.refl q m⟩
  by_cases x0 : x < 0
  · have hs : z_rls P k x = 0 := if_pos x0
    have he : z_rle P k x = (z_bd P k).length := if_pos x0
    rw [hs, he] at et
    have e98 := f98_sp hp hcp hw hk hl name
    cases hc : z_pc P k name with
    | some j =>
      rw [hc] at e98
      have hj : j < 2 := by
        unfold z_pc at hc
        split at hc
        · cases hc; decide
        · split at hc
          · cases hc; decide
          · cases hc
      refine stay (-1) (by decide) ?_ ?_
      · have gj : ¬ nI j = -1 := z_nI_m1 (by omega)
        unfold f108 f108_28
        simp (disch := ((try simp only [true_or, or_true, hp.k, hp.k1, hp.k2, hp.k3, hp.k4, hp.k5, hp.k6, hp.k7, hp.k8, hp.k9, hp.k10, hp.l1, hp.l2, hp.l3, hp.l4, hp.l5, hp.l6, hp.l7, hp.l8, hp.l9, hp.l10, hpk]) <;> (try omega))) only [↓reduceIte, ↓z_ite, ↓zR, ↓zB_R, ↓zB_B, ↓zB_ite, ↓zB_gI, ↓zB_pI, ↓zB_pZ, ↓zB_aK, ↓zB_G, ↓zB_lI, ↓zB_lZ, ↓zB_wI, ↓zB_wZ, ↓zB_lIl, ↓zB_wIl, zB_pI, zB_pZ, zB_lI, zB_lZ, zB_wI, zB_wZ, z_addl, z_ladd, z_mull, z_lmul, nI_add, z_subl, Nat.not_lt_zero, z_10, z_01, z_bitc, z_b0, z_b1, ↓zB_Gb, ↓zB_G0, ↓zB_G1, z_eql, z_leq, z_ltl, z_llt, z_eq, z_lt, z_m1lt, hp.k, hp.k1, hp.k2, hp.k3, hp.k4, hp.k5, hp.k6, hp.k7, hp.k8, hp.k9, hp.k10, hp.l1, hp.l2, hp.l3, hp.l4, hp.l5, hp.l6, hp.l7, hp.l8, hp.l9, hp.l10, hpk, ↓hp.g0, ↓hp.g1, ↓hp.g2, ↓hp.g3, ↓hp.g4, ↓hp.g5, ↓hp.g6, ↓hp.g7, ↓hp.g8, ↓hp.g9, ↓hp.gb, hp.gb, h24, hk, x0, ↓zB_c e98, zB_c e98, z_oI, gj]
      · unfold z_rlR
        rw [if_neg (fun g => g.1 x0), if_pos ⟨x0, by rw [hc]; rfl⟩]
    | none =>
      rw [hc] at e98
      refine ⟨mt, ?_, ?_⟩
      · have e2 : z_rlR P k x name = rt := by
          rw [er]
          unfold z_rlR
          rw [if_neg (fun g => g.1 x0), if_neg (fun g => by rw [hc] at g; exact absurd g.2 (by decide))]
        rw [e2]
        unfold f108 f108_28 f108_46 f108_63
        simp (disch := ((try simp only [true_or, or_true, hp.k, hp.k1, hp.k2, hp.k3, hp.k4, hp.k5, hp.k6, hp.k7, hp.k8, hp.k9, hp.k10, hp.l1, hp.l2, hp.l3, hp.l4, hp.l5, hp.l6, hp.l7, hp.l8, hp.l9, hp.l10, hb.k, hb.k1, hb.k2, hb.k3, hb.k4, hb.k5, hb.k6, hb.l1, hb.l2, hb.l3, hb.l4, hb.l5, hb.l6, hpk]) <;> (try omega))) only [↓reduceIte, ↓z_ite, ↓zR, ↓zB_R, ↓zB_B, ↓zB_ite, ↓zB_gI, ↓zB_pI, ↓zB_pZ, ↓zB_aK, ↓zB_G, ↓zB_lI, ↓zB_lZ, ↓zB_wI, ↓zB_wZ, ↓zB_lIl, ↓zB_wIl, zB_pI, zB_pZ, zB_lI, zB_lZ, zB_wI, zB_wZ, z_addl, z_ladd, z_mull, z_lmul, nI_add, z_subl, Nat.not_lt_zero, z_10, z_01, z_bitc, z_b0, z_b1, ↓zB_Gb, ↓zB_G0, ↓zB_G1, z_eql, z_leq, z_ltl, z_llt, z_eq, z_lt, z_m1lt, hp.k, hp.k1, hp.k2, hp.k3, hp.k4, hp.k5, hp.k6, hp.k7, hp.k8, hp.k9, hp.k10, hp.l1, hp.l2, hp.l3, hp.l4, hp.l5, hp.l6, hp.l7, hp.l8, hp.l9, hp.l10, hb.k, hb.k1, hb.k2, hb.k3, hb.k4, hb.k5, hb.k6, hb.l1, hb.l2, hb.l3, hb.l4, hb.l5, hb.l6, hpk, ↓hp.g0, ↓hp.g1, ↓hp.g2, ↓hp.g3, ↓hp.g4, ↓hp.g5, ↓hp.g6, ↓hp.g7, ↓hp.g8, ↓hp.g9, ↓hp.gb, hp.gb, ↓hb.g0, ↓hb.g1, ↓hb.g2, ↓hb.g3, ↓hb.g4, ↓hb.g5, h24, hk, x0, ↓zB_c e98, zB_c e98, z_oI, c7]
        exact et
      · have e2 : z_rlR P k x name = rt := by
          rw [er]
          unfold z_rlR
          rw [if_neg (fun g => g.1 x0), if_neg (fun g => by rw [hc] at g; exact absurd g.2 (by decide))]
        rw [e2]; exact hpost
  · have hs : z_rls P k x = z_pt (z_bd P k) x.toNatClampNeg 1 := if_neg x0
    have he : z_rle P k x = z_en (z_bd P k) x.toNatClampNeg := if_neg x0
    obtain ⟨i, hi, rfl⟩ : ∃ i, i < (z_bd P k).length ∧ x = nI i := by
      rcases hx with ⟨rfl, _⟩ | ⟨rfl, _⟩ | h
      · exact absurd (by decide) x0
      · exact absurd (by decide) x0
      · exact h
    rw [nI_clamp (by omega)] at hs he
    rw [hs, he] at et
    have hk1 := (hcb.2.2.2.2 i hi).1
    by_cases g5 : z_k (z_bd P k) i = 5
    · have hT3 := (hT k hk hl)
      have e9 : f9 (z_bi p k) (nI i) 1 (z_hp S m) = some (nI (z_pt (z_bd P k) i 1), z_hp S m) := f9_sp hb hcb hB.1 hi (fun j _ hj => hT3.1 j hj) 1 (by decide)
      have e2 : z_rlR P k (nI i) name = rt := by
        rw [er]
        unfold z_rlR
        rw [if_neg (fun g => g.2 (by rw [nI_clamp (by omega)]; exact g5)), if_neg (fun g => x0 g.1)]
      have hend := hT3.1 i hi
      refine ⟨mt, ?_, by rw [e2]; exact hpost⟩
      rw [e2]
      unfold f108 f108_28 f108_46 f108_63
      simp (disch := ((try simp only [true_or, or_true, hp.k, hp.k1, hp.k2, hp.k3, hp.k4, hp.k5, hp.k6, hp.k7, hp.k8, hp.k9, hp.k10, hp.l1, hp.l2, hp.l3, hp.l4, hp.l5, hp.l6, hp.l7, hp.l8, hp.l9, hp.l10, hb.k, hb.k1, hb.k2, hb.k3, hb.k4, hb.k5, hb.k6, hb.l1, hb.l2, hb.l3, hb.l4, hb.l5, hb.l6, hpk, hbk]) <;> (try omega))) only [↓reduceIte, ↓z_ite, ↓zR, ↓zB_R, ↓zB_B, ↓zB_ite, ↓zB_gI, ↓zB_pI, ↓zB_pZ, ↓zB_aK, ↓zB_G, ↓zB_lI, ↓zB_lZ, ↓zB_wI, ↓zB_wZ, ↓zB_lIl, ↓zB_wIl, zB_pI, zB_pZ, zB_lI, zB_lZ, zB_wI, zB_wZ, z_addl, z_ladd, z_mull, z_lmul, nI_add, z_subl, Nat.not_lt_zero, z_10, z_01, z_bitc, z_b0, z_b1, ↓zB_Gb, ↓zB_G0, ↓zB_G1, z_eql, z_leq, z_ltl, z_llt, z_eq, z_lt, z_m1lt, hp.k, hp.k1, hp.k2, hp.k3, hp.k4, hp.k5, hp.k6, hp.k7, hp.k8, hp.k9, hp.k10, hp.l1, hp.l2, hp.l3, hp.l4, hp.l5, hp.l6, hp.l7, hp.l8, hp.l9, hp.l10, hb.k, hb.k1, hb.k2, hb.k3, hb.k4, hb.k5, hb.k6, hb.l1, hb.l2, hb.l3, hb.l4, hb.l5, hb.l6, hpk, hbk, ↓hp.g0, ↓hp.g1, ↓hp.g2, ↓hp.g3, ↓hp.g4, ↓hp.g5, ↓hp.g6, ↓hp.g7, ↓hp.g8, ↓hp.g9, ↓hp.gb, hp.gb, ↓hb.g0, ↓hb.g1, ↓hb.g2, ↓hb.g3, ↓hb.g4, ↓hb.g5, h24, hk, hi, hk1, g5, x0, ↓zB_c e9, zB_c e9, hend]
      exact et
    · refine stay (-10) (by decide) ?_ ?_
      · unfold f108
        simp (disch := ((try simp only [true_or, or_true, hp.k, hp.k1, hp.k2, hp.k3, hp.k4, hp.k5, hp.k6, hp.k7, hp.k8, hp.k9, hp.k10, hp.l1, hp.l2, hp.l3, hp.l4, hp.l5, hp.l6, hp.l7, hp.l8, hp.l9, hp.l10, hb.k, hb.k1, hb.k2, hb.k3, hb.k4, hb.k5, hb.k6, hb.l1, hb.l2, hb.l3, hb.l4, hb.l5, hb.l6, hpk]) <;> (try omega))) only [↓reduceIte, ↓z_ite, ↓zR, ↓zB_R, ↓zB_B, ↓zB_ite, ↓zB_gI, ↓zB_pI, ↓zB_pZ, ↓zB_aK, ↓zB_G, ↓zB_lI, ↓zB_lZ, ↓zB_wI, ↓zB_wZ, ↓zB_lIl, ↓zB_wIl, zB_pI, zB_pZ, zB_lI, zB_lZ, zB_wI, zB_wZ, z_addl, z_ladd, z_mull, z_lmul, nI_add, z_subl, Nat.not_lt_zero, z_10, z_01, z_bitc, z_b0, z_b1, ↓zB_Gb, ↓zB_G0, ↓zB_G1, z_eql, z_leq, z_ltl, z_llt, z_eq, z_lt, z_m1lt, hp.k, hp.k1, hp.k2, hp.k3, hp.k4, hp.k5, hp.k6, hp.k7, hp.k8, hp.k9, hp.k10, hp.l1, hp.l2, hp.l3, hp.l4, hp.l5, hp.l6, hp.l7, hp.l8, hp.l9, hp.l10, hb.k, hb.k1, hb.k2, hb.k3, hb.k4, hb.k5, hb.k6, hb.l1, hb.l2, hb.l3, hb.l4, hb.l5, hb.l6, hpk, ↓hp.g0, ↓hp.g1, ↓hp.g2, ↓hp.g3, ↓hp.g4, ↓hp.g5, ↓hp.g6, ↓hp.g7, ↓hp.g8, ↓hp.g9, ↓hp.gb, hp.gb, ↓hb.g0, ↓hb.g1, ↓hb.g2, ↓hb.g3, ↓hb.g4, ↓hb.g5, h24, hk, hi, hk1, g5, x0]
      · unfold z_rlR
        rw [if_pos ⟨x0, by rw [nI_clamp (by omega)]; exact g5⟩]
end
