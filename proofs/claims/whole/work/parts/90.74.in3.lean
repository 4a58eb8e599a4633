-- deps: 90.73.in2
/-! a call written out: the class, from the sheet on -/
section
variable {S : z_S} {m : z_m} {p q0 : Nat} {P : z_Pg} {A : z_A}
theorem f36_186_sp (hX : z_XS S) (hp : z_PS S p) (hq : z_PS S q0) (lo : 242 ≤ p) (lo2 : 242 ≤ q0) (hcp : z_cp m p P) (hT : z_LT m p P) (hcq : z_cp m q0 P) (h14 : m q0 14 = 0) (hs30 : m 30 6 = nI 256) (hw : z_wf P) {k i q ar : Nat} (hk : k < z_nm P) (hlk : z_liv P k = true) (hi : i < (z_bd P k).length) (hqn : q < z_nm P) (hlq : z_liv P q = true) (hBi : z_Bd P k i = nI (2000 + q)) (hp1 : z_p (z_bd P k) i = 1 + ar) (har : ar ≤ 2) {n1 n2 : Int32} (hD : z_wB (z_nc P) (z_inD P k i q ar n1 n2)) : ∃ m' r, f36_186 29 p q0 (nI k) (nI i) (z_bi p k) (nI ar) n1 n2 (z_hp S m) = some (r, z_hp S m') ∧ ((r = -8 ∧ ¬ z_rt P k (z_inD P k i q ar n1 n2)) ∨ (z_rt P k (z_inD P k i q ar n1 n2) ∧ r = if 60 < (z_inD P k i q ar n1 n2).length then -6 else nI (z_inD P k i q ar n1 n2).length)) ∧ z_Post m m' q0 r (z_sM P k (z_hd P k) (z_inD P k i q ar n1 n2)) := by
  have h24 := hw.2.2.1
  have h30 := hX.2.2.2.1.2.1
  have h30k := h30.k
  have hbp := hp.B (k := k) (by omega)
  have hbpk := hbp.k
  have hpk := hp.k
  have hqk := hq.k
  have hB := hw.2.2.2.2.1 k hk
  have hlen : (z_bd P k).length ≤ 60 := (hcp.2.2.2 k hk hlk).2.2.1
  have hlenq : (z_bd P q).length ≤ 60 := (hcp.2.2.2 q hqn hlq).2.2.1
  have hle := z_en_le hB.1 hi
  have hgt := z_en_gt hi
  have hb0 := hcp.2.2.2 k hk hlk
  -- the sheet, up to the call
  obtain ⟨m1, e1, cb1, F1⟩ := f1_sp (S := S) h30 hs30 (by decide)
  have hcp1 : z_cp m1 p P := F1.cp (by omega) h24 hcp
  have hT1 : z_LT m1 p P := z_LT_fr hw (fun a x1 x2 => F1.at (by omega)) hT
  obtain ⟨m2, e2, cb2, F2⟩ := f6_sp h30 cb1 (show z_bb 30 (z_bi p k) by unfold z_bb z_bi; omega) hbp (hcp1.2.2.2 k hk hlk) (Nat.zero_le i) (Nat.le_of_lt hi) (by show 0 + (i - 0) ≤ 256; omega)
  have F12 := F1.trans F2
  have hcp2 : z_cp m2 p P := F12.cp (by omega) h24 hcp
  have hT2 : z_LT m2 p P := z_LT_fr hw (fun a x1 x2 => F12.at (by omega)) hT
  have e2 : f6 30 (z_bi p k) 0 (nI i) (z_hp S m1) = some ((), z_hp S m2) := e2
  rw [List.nil_append] at cb2
  have l0 : (z_sub (z_bd P k) 0 i).length = i := by rw [z_sub_len (Nat.zero_le i) (Nat.le_of_lt hi)]; omega
  -- a LET
  have lets : ∀ (m3 : z_m) (L : List z_N) (t : Nat) (n : Int32), z_bF 30 m m3 → z_cb m3 30 256 L → L.length + 61 ≤ 256 → t < 1 + ar → f9 (z_bi p k) (nI i) (nI t) (z_hp S m3) = some (nI (z_pt (z_bd P k) i t), z_hp S m3) ∧ ∃ m4, f37 29 (z_bi p k) (nI (z_pt (z_bd P k) i t)) n (z_hp S m3) = some ((), z_hp S m4) ∧ z_cb m4 30 256 (L ++ z_inL P k i t n) ∧ z_bF 30 m m4 := by
    intro m3 L t n F cb hL ht
    have hcp3 : z_cp m3 p P := F.cp (by omega) h24 hcp
    have hT3 : z_LT m3 p P := z_LT_fr hw (fun a x1 x2 => F.at (by omega)) hT
    obtain ⟨m4, a1, a2, a3⟩ := f37_sp hX hp lo hcp3 hT3 hw hk hlk hi (show t < z_p (z_bd P k) i by omega) n cb hL
    exact ⟨f9_sp hbp (hcp3.2.2.2 k hk hlk) hB.1 hi (fun u _ hu => (hT3 k hk hlk).1 u hu) t (by omega), m4, a1, a2, F.trans a3⟩
  have lenL : ∀ t n, t < 1 + ar → (z_inL P k i t n).length ≤ 61 := fun t n ht => by
    have hpt := z_pt_lt hB.1 hi (show t < z_p (z_bd P k) i by omega)
    have := z_en_le hB.1 hpt
    have := z_en_gt hpt
    unfold z_inL
    rw [List.length_cons, z_sub_len (by omega) (by omega)]; omega
  have fst : ∃ m3, f36_186 29 p q0 (nI k) (nI i) (z_bi p k) (nI ar) n1 n2 (z_hp S m) = f36_226 29 p q0 (nI k) (nI i) (z_bi p k) (nI ar) n1 n2 (z_hp S m3) ∧ z_cb m3 30 256 (z_sub (z_bd P k) 0 i ++ (if 0 < ar then z_inL P k i 1 n1 else [])) ∧ z_bF 30 m m3 := by
    by_cases h0 : 0 < ar
    · obtain ⟨e9, m4, a1, a2, a3⟩ := lets m2 _ 1 n1 F12 cb2 (by omega) (by omega)
      have e9 : f9 (z_bi p k) (nI i) 1 (z_hp S m2) = some (nI (z_pt (z_bd P k) i 1), z_hp S m2) := e9
      refine ⟨m4, ?_, by rw [if_pos h0]; exact a2, a3⟩
      unfold f36_186
      simp (disch := ((try simp only [true_or, or_true, hbp.k, hbp.k1, hbp.k2, hbp.k3, hbp.k4, hbp.k5, hbp.k6, hbp.l1, hbp.l2, hbp.l3, hbp.l4, hbp.l5, hbp.l6, hX.k29, hbpk, h30k]) <;> (try omega))) only [↓reduceIte, ↓z_ite, ↓zR, ↓zB_R, ↓zB_B, ↓zB_ite, ↓zB_gI, ↓zB_pI, ↓zB_pZ, ↓zB_aK, ↓zB_G, ↓zB_lI, ↓zB_lZ, ↓zB_wI, ↓zB_wZ, ↓zB_lIl, ↓zB_wIl, zB_pI, zB_pZ, zB_lI, zB_lZ, zB_wI, zB_wZ, z_addl, z_ladd, z_mull, z_lmul, nI_add, z_subl, Nat.not_lt_zero, z_10, z_01, z_bitc, z_b0, z_b1, ↓zB_Gb, ↓zB_G0, ↓zB_G1, z_eql, z_leq, z_ltl, z_llt, z_eq, z_lt, z_m1lt, hbp.k, hbp.k1, hbp.k2, hbp.k3, hbp.k4, hbp.k5, hbp.k6, hbp.l1, hbp.l2, hbp.l3, hbp.l4, hbp.l5, hbp.l6, hX.k29, hbpk, h30k, ↓hbp.g0, ↓hbp.g1, ↓hbp.g2, ↓hbp.g3, ↓hbp.g4, ↓hbp.g5, ↓hX.g29_0, ↓hX.g29_1, ↓zB_c e1, zB_c e1, ↓zB_c e2, zB_c e2, h0, ↓zB_c e9, zB_c e9, ↓zB_c a1, zB_c a1]
    · refine ⟨m2, ?_, by rw [if_neg h0, List.append_nil]; exact cb2, F12⟩
      unfold f36_186
      simp (disch := ((try simp only [true_or, or_true, hbp.k, hbp.k1, hbp.k2, hbp.k3, hbp.k4, hbp.k5, hbp.k6, hbp.l1, hbp.l2, hbp.l3, hbp.l4, hbp.l5, hbp.l6, hX.k29, hbpk, h30k]) <;> (try omega))) only [↓reduceIte, ↓z_ite, ↓zR, ↓zB_R, ↓zB_B, ↓zB_ite, ↓zB_gI, ↓zB_pI, ↓zB_pZ, ↓zB_aK, ↓zB_G, ↓zB_lI, ↓zB_lZ, ↓zB_wI, ↓zB_wZ, ↓zB_lIl, ↓zB_wIl, zB_pI, zB_pZ, zB_lI, zB_lZ, zB_wI, zB_wZ, z_addl, z_ladd, z_mull, z_lmul, nI_add, z_subl, Nat.not_lt_zero, z_10, z_01, z_bitc, z_b0, z_b1, ↓zB_Gb, ↓zB_G0, ↓zB_G1, z_eql, z_leq, z_ltl, z_llt, z_eq, z_lt, z_m1lt, hbp.k, hbp.k1, hbp.k2, hbp.k3, hbp.k4, hbp.k5, hbp.k6, hbp.l1, hbp.l2, hbp.l3, hbp.l4, hbp.l5, hbp.l6, hX.k29, hbpk, h30k, ↓hbp.g0, ↓hbp.g1, ↓hbp.g2, ↓hbp.g3, ↓hbp.g4, ↓hbp.g5, ↓hX.g29_0, ↓hX.g29_1, ↓zB_c e1, zB_c e1, ↓zB_c e2, zB_c e2, h0]
  obtain ⟨m3, e3, cb3, F3⟩ := fst
  have l1 : (z_sub (z_bd P k) 0 i ++ (if 0 < ar then z_inL P k i 1 n1 else [])).length ≤ 60 + 61 := by
    rw [List.length_append, l0]
    split
    · have := lenL 1 n1 (by omega); omega
    · show i + 0 ≤ _; omega
  have snd : ∃ m4, f36_226 29 p q0 (nI k) (nI i) (z_bi p k) (nI ar) n1 n2 (z_hp S m3) = f36_248 29 p q0 (nI k) (nI i) (z_bi p k) n1 n2 (z_hp S m4) ∧ z_cb m4 30 256 ((z_sub (z_bd P k) 0 i ++ (if 0 < ar then z_inL P k i 1 n1 else [])) ++ (if 1 < ar then z_inL P k i 2 n2 else [])) ∧ z_bF 30 m m4 := by
    by_cases h1 : 1 < ar
    · obtain ⟨e9, m4, a1, a2, a3⟩ := lets m3 _ 2 n2 F3 cb3 (by omega) (by omega)
      have e9 : f9 (z_bi p k) (nI i) 2 (z_hp S m3) = some (nI (z_pt (z_bd P k) i 2), z_hp S m3) := e9
      refine ⟨m4, ?_, by rw [if_pos h1]; exact a2, a3⟩
      unfold f36_226
      simp (disch := ((try simp only [true_or, or_true, hbp.k, hbp.k1, hbp.k2, hbp.k3, hbp.k4, hbp.k5, hbp.k6, hbp.l1, hbp.l2, hbp.l3, hbp.l4, hbp.l5, hbp.l6, hX.k29, hbpk, h30k]) <;> (try omega))) only [↓reduceIte, ↓z_ite, ↓zR, ↓zB_R, ↓zB_B, ↓zB_ite, ↓zB_gI, ↓zB_pI, ↓zB_pZ, ↓zB_aK, ↓zB_G, ↓zB_lI, ↓zB_lZ, ↓zB_wI, ↓zB_wZ, ↓zB_lIl, ↓zB_wIl, zB_pI, zB_pZ, zB_lI, zB_lZ, zB_wI, zB_wZ, z_addl, z_ladd, z_mull, z_lmul, nI_add, z_subl, Nat.not_lt_zero, z_10, z_01, z_bitc, z_b0, z_b1, ↓zB_Gb, ↓zB_G0, ↓zB_G1, z_eql, z_leq, z_ltl, z_llt, z_eq, z_lt, z_m1lt, hbp.k, hbp.k1, hbp.k2, hbp.k3, hbp.k4, hbp.k5, hbp.k6, hbp.l1, hbp.l2, hbp.l3, hbp.l4, hbp.l5, hbp.l6, hX.k29, hbpk, h30k, ↓hbp.g0, ↓hbp.g1, ↓hbp.g2, ↓hbp.g3, ↓hbp.g4, ↓hbp.g5, ↓hX.g29_0, ↓hX.g29_1, h1, ↓zB_c e9, zB_c e9, ↓zB_c a1, zB_c a1]
    · refine ⟨m3, ?_, by rw [if_neg h1, List.append_nil]; exact cb3, F3⟩
      unfold f36_226
      simp (disch := ((try simp only [true_or, or_true, hbp.k, hbp.k1, hbp.k2, hbp.k3, hbp.k4, hbp.k5, hbp.k6, hbp.l1, hbp.l2, hbp.l3, hbp.l4, hbp.l5, hbp.l6, hX.k29, hbpk, h30k]) <;> (try omega))) only [↓reduceIte, ↓z_ite, ↓zR, ↓zB_R, ↓zB_B, ↓zB_ite, ↓zB_gI, ↓zB_pI, ↓zB_pZ, ↓zB_aK, ↓zB_G, ↓zB_lI, ↓zB_lZ, ↓zB_wI, ↓zB_wZ, ↓zB_lIl, ↓zB_wIl, zB_pI, zB_pZ, zB_lI, zB_lZ, zB_wI, zB_wZ, z_addl, z_ladd, z_mull, z_lmul, nI_add, z_subl, Nat.not_lt_zero, z_10, z_01, z_bitc, z_b0, z_b1, ↓zB_Gb, ↓zB_G0, ↓zB_G1, z_eql, z_leq, z_ltl, z_llt, z_eq, z_lt, z_m1lt, hbp.k, hbp.k1, hbp.k2, hbp.k3, hbp.k4, hbp.k5, hbp.k6, hbp.l1, hbp.l2, hbp.l3, hbp.l4, hbp.l5, hbp.l6, hX.k29, hbpk, h30k, ↓hbp.g0, ↓hbp.g1, ↓hbp.g2, ↓hbp.g3, ↓hbp.g4, ↓hbp.g5, ↓hX.g29_0, ↓hX.g29_1, h1]
  obtain ⟨m4, e4, cb4, F4⟩ := snd
  have l2 : ((z_sub (z_bd P k) 0 i ++ (if 0 < ar then z_inL P k i 1 n1 else [])) ++ (if 1 < ar then z_inL P k i 2 n2 else [])).length ≤ z_en (z_bd P k) i + 2 := by
    rw [List.length_append, List.length_append, l0]
    have ll : ∀ t n, t < 1 + ar → (z_inL P k i t n).length = 1 + (z_en (z_bd P k) (z_pt (z_bd P k) i t) - z_pt (z_bd P k) i t) ∧ z_pt (z_bd P k) i t < z_en (z_bd P k) (z_pt (z_bd P k) i t) ∧ z_en (z_bd P k) (z_pt (z_bd P k) i t) ≤ z_en (z_bd P k) i ∧ i < z_pt (z_bd P k) i t := fun t n ht => by
      have hpt := z_pt_lt hB.1 hi (show t < z_p (z_bd P k) i by omega)
      have h1 := z_en_le hB.1 hpt
      have h2 := z_en_gt hpt
      have h3 := z_pt_en hi (show t < z_p (z_bd P k) i by omega)
      have h4 := z_pt_ge (l := z_bd P k) (i := i) t
      refine ⟨?_, h2, h3, h4⟩
      unfold z_inL
      rw [List.length_cons, z_sub_len (by omega) (by omega)]; omega
    have c3 : ar = 0 ∨ ar = 1 ∨ ar = 2 := by omega
    rcases c3 with rfl | rfl | rfl
    · rw [if_neg (by decide), if_neg (by decide)]
      show i + 0 + 0 ≤ _; omega
    · rw [if_pos (by decide), if_neg (by decide)]
      obtain ⟨a1, a2, a3, a4⟩ := ll 1 n1 (by decide)
      rw [a1]
      show i + _ + 0 ≤ _; omega
    · rw [if_pos (by decide), if_pos (by decide)]
      obtain ⟨a1, a2, a3, a4⟩ := ll 1 n1 (by decide)
      obtain ⟨b1, b2, b3, b4⟩ := ll 2 n2 (by decide)
      have e2 : z_pt (z_bd P k) i 2 = z_en (z_bd P k) (z_pt (z_bd P k) i 1) := z_pt_s _ _ 1
      rw [a1, b1]; omega
  have hcp4 : z_cp m4 p P := F4.cp (by omega) h24 hcp
  have hT4 : z_LT m4 p P := z_LT_fr hw (fun a x1 x2 => F4.at (by omega)) hT
  obtain ⟨m5, e5, cb5, F5⟩ := f38_25_sp hX hp lo hcp4 hT4 hw hk hlk hi hqn hlq (n1 := n1) (n2 := n2) cb4 (by omega)
  have F45 := F4.trans F5
  have hcp5 : z_cp m5 p P := F45.cp (by omega) h24 hcp
  have hT5 : z_LT m5 p P := z_LT_fr hw (fun a x1 x2 => F45.at (by omega)) hT
  have lB : (z_inB P k i q n1 n2).length ≤ 120 := by
    have := z_cat_le (f := z_ing P k i q n1 n2) (c := 2) (z_bd P q).length (fun j _ => z_ing_len P k i q n1 n2 j)
    unfold z_inB; omega
  obtain ⟨m6, e6, cb6, F6⟩ := f6_sp h30 cb5 (show z_bb 30 (z_bi p k) by unfold z_bb z_bi; omega) hbp (hcp5.2.2.2 k hk hlk) hle (Nat.le_refl _) (by rw [List.length_append]; omega)
  have cb6 : z_cb m6 30 256 (z_inD P k i q ar n1 n2) := cb6
  have F46 := F45.trans F6
  have hcq6 : z_cp m6 q0 P := F46.cp (by omega) h24 hcq
  have hend5 := (hT5 k hk hlk).1 i hi
  have c75 := (hcp5.2.2.2 k hk hlk).2.1
  obtain ⟨v, m7, e7, K7, hv⟩ := f23_sp hX hq hw hk hlk h30 (Or.inr (Or.inl (by omega))) ⟨by omega, by decide⟩ hD hcq6 cb6
  have hBrow := ((hT4 k hk hlk).2 i hi).2
  have hBrow : m4 (z_bi p k + 6) i = nI (2000 + q) := by rw [hBrow]; exact hBi
  have esub : nI (2000 + q) - 2000 = nI q := by
    rw [show (2000 : Int32) = nI 2000 from rfl, pk_sub (by omega), Nat.add_sub_cancel_left]
  have e38 : f38 29 p (nI k) (nI i) n1 n2 (z_hp S m4) = some ((), z_hp S m5) := by
    unfold f38
    simp (disch := ((try simp only [true_or, or_true, hp.k, hp.k1, hp.k2, hp.k3, hp.k4, hp.k5, hp.k6, hp.k7, hp.k8, hp.k9, hp.k10, hp.l1, hp.l2, hp.l3, hp.l4, hp.l5, hp.l6, hp.l7, hp.l8, hp.l9, hp.l10, hbp.k, hbp.k1, hbp.k2, hbp.k3, hbp.k4, hbp.k5, hbp.k6, hbp.l1, hbp.l2, hbp.l3, hbp.l4, hbp.l5, hbp.l6]) <;> (try omega))) only [↓reduceIte, ↓z_ite, ↓zR, ↓zB_R, ↓zB_B, ↓zB_ite, ↓zB_gI, ↓zB_pI, ↓zB_pZ, ↓zB_aK, ↓zB_G, ↓zB_lI, ↓zB_lZ, ↓zB_wI, ↓zB_wZ, ↓zB_lIl, ↓zB_wIl, zB_pI, zB_pZ, zB_lI, zB_lZ, zB_wI, zB_wZ, z_addl, z_ladd, z_mull, z_lmul, nI_add, z_subl, Nat.not_lt_zero, z_10, z_01, z_bitc, z_b0, z_b1, ↓zB_Gb, ↓zB_G0, ↓zB_G1, z_eql, z_leq, z_ltl, z_llt, z_eq, z_lt, z_m1lt, hp.k, hp.k1, hp.k2, hp.k3, hp.k4, hp.k5, hp.k6, hp.k7, hp.k8, hp.k9, hp.k10, hp.l1, hp.l2, hp.l3, hp.l4, hp.l5, hp.l6, hp.l7, hp.l8, hp.l9, hp.l10, hbp.k, hbp.k1, hbp.k2, hbp.k3, hbp.k4, hbp.k5, hbp.k6, hbp.l1, hbp.l2, hbp.l3, hbp.l4, hbp.l5, hbp.l6, ↓hp.g0, ↓hp.g1, ↓hp.g2, ↓hp.g3, ↓hp.g4, ↓hp.g5, ↓hp.g6, ↓hp.g7, ↓hp.g8, ↓hp.g9, ↓hp.gb, hp.gb, ↓hbp.g0, ↓hbp.g1, ↓hbp.g2, ↓hbp.g3, ↓hbp.g4, ↓hbp.g5, h24, hk, hi, hBrow, esub, hqn]
    exact e5
  have hbqk := (hq.B (k := k) (by omega)).k
  have st : ∀ r m', (if v = 0 then some ((-8 : Int32), z_hp S m7) else (m_B (m_gR 7 q0 9) (fun r13 => m_B (m_lR r13 (nI k)) (fun r14 => m_B (m_gR 3 29 0) (fun r15 => m_B (m_aK r14 0) (fun _ => m_B (f7 r14 r15) (fun v17 => if v17 = 0 then (f36_329 (-6)) else (m_B (m_gR 3 29 0) (fun r18 => m_B (m_gI 0 r18 7) (fun v19 => f36_329 v19))))))))) (z_hp S m7)) = some (r, z_hp S m') → f36_186 29 p q0 (nI k) (nI i) (z_bi p k) (nI ar) n1 n2 (z_hp S m) = some (r, z_hp S m') := fun r m' hr => by
    rw [e3, e4, ← hr]
    unfold f36_248
    by_cases v0 : v = 0
    · rw [v0] at e7
      rw [if_pos v0]
      simp (disch := ((try simp only [true_or, or_true, hbp.k, hbp.k1, hbp.k2, hbp.k3, hbp.k4, hbp.k5, hbp.k6, hbp.l1, hbp.l2, hbp.l3, hbp.l4, hbp.l5, hbp.l6, hX.k29, hX.k8, hX.k9, hX.l9, hbpk, h30k]) <;> (try omega))) only [↓reduceIte, ↓z_ite, ↓zR, ↓zB_R, ↓zB_B, ↓zB_ite, ↓zB_gI, ↓zB_pI, ↓zB_pZ, ↓zB_aK, ↓zB_G, ↓zB_lI, ↓zB_lZ, ↓zB_wI, ↓zB_wZ, ↓zB_lIl, ↓zB_wIl, zB_pI, zB_pZ, zB_lI, zB_lZ, zB_wI, zB_wZ, z_addl, z_ladd, z_mull, z_lmul, nI_add, z_subl, Nat.not_lt_zero, z_10, z_01, z_bitc, z_b0, z_b1, ↓zB_Gb, ↓zB_G0, ↓zB_G1, z_eql, z_leq, z_ltl, z_llt, z_eq, z_lt, z_m1lt, hbp.k, hbp.k1, hbp.k2, hbp.k3, hbp.k4, hbp.k5, hbp.k6, hbp.l1, hbp.l2, hbp.l3, hbp.l4, hbp.l5, hbp.l6, hX.k29, hX.k8, hX.k9, hX.l9, hbpk, h30k, ↓hbp.g0, ↓hbp.g1, ↓hbp.g2, ↓hbp.g3, ↓hbp.g4, ↓hbp.g5, ↓hX.g8_0, ↓hX.g29_0, ↓hX.g29_1, ↓zB_c e38, zB_c e38, hi, hend5, c75, ↓zB_c e6, zB_c e6, ↓zB_c e7, zB_c e7]
    · rw [if_neg v0]
      simp (disch := ((try simp only [true_or, or_true, hbp.k, hbp.k1, hbp.k2, hbp.k3, hbp.k4, hbp.k5, hbp.k6, hbp.l1, hbp.l2, hbp.l3, hbp.l4, hbp.l5, hbp.l6, hX.k29, hX.k8, hX.k9, hX.l9, hbpk, h30k]) <;> (try omega))) only [↓reduceIte, ↓z_ite, ↓zR, ↓zB_R, ↓zB_B, ↓zB_ite, ↓zB_gI, ↓zB_pI, ↓zB_pZ, ↓zB_aK, ↓zB_G, ↓zB_lI, ↓zB_lZ, ↓zB_wI, ↓zB_wZ, ↓zB_lIl, ↓zB_wIl, zB_pI, zB_pZ, zB_lI, zB_lZ, zB_wI, zB_wZ, z_addl, z_ladd, z_mull, z_lmul, nI_add, z_subl, Nat.not_lt_zero, z_10, z_01, z_bitc, z_b0, z_b1, ↓zB_Gb, ↓zB_G0, ↓zB_G1, z_eql, z_leq, z_ltl, z_llt, z_eq, z_lt, z_m1lt, hbp.k, hbp.k1, hbp.k2, hbp.k3, hbp.k4, hbp.k5, hbp.k6, hbp.l1, hbp.l2, hbp.l3, hbp.l4, hbp.l5, hbp.l6, hX.k29, hX.k8, hX.k9, hX.l9, hbpk, h30k, ↓hbp.g0, ↓hbp.g1, ↓hbp.g2, ↓hbp.g3, ↓hbp.g4, ↓hbp.g5, ↓hX.g8_0, ↓hX.g29_0, ↓hX.g29_1, ↓zB_c e38, zB_c e38, hi, hend5, c75, ↓zB_c e6, zB_c e6, ↓zB_c e7, zB_c e7, v0]
  have k7 : ∀ a, a ≠ 9 → a ≠ 34 → a ≠ 35 → a ≠ 36 → m7 a = m6 a := fun a x1 x2 x3 x4 => K7 a x1 x2 x3 x4
  have cb7 : z_cb m7 30 256 (z_inD P k i q ar n1 n2) := z_cb_fr (fun a x1 x2 => k7 a (by omega) (by omega) (by omega) (by omega)) cb6
  have fr7 : ∀ a, a ≠ 9 → (a < 22 ∨ 61 ≤ a) → m7 a = m a := fun a x1 x2 => by
    rw [k7 a x1 (by omega) (by omega) (by omega), F46.at (by omega)]
  have oF7 : z_oF q0 m m7 := ⟨fun a x1 x2 _ => fr7 a x1 x2, by rw [k7 22 (by decide) (by decide) (by decide) (by decide), F46.at (by decide)], by rw [k7 30 (by decide) (by decide) (by decide) (by decide), F46.2 6 (by decide)], by rw [k7 38 (by decide) (by decide) (by decide) (by decide), F46.at (by decide)], by rw [k7 54 (by decide) (by decide) (by decide) (by decide), F46.at (by decide)]⟩
  have hcq7 : z_cp m7 q0 P := z_cp_fr3 hw (fun a x1 x2 => fr7 a (by omega) (by omega)) hcq
  have h147 : m7 q0 14 = 0 := by rw [fr7 q0 (by omega) (by omega)]; exact h14
  rcases hv with ⟨v1, hok, _⟩ | ⟨v0, hno⟩
  · have hrt : z_rt P k (z_inD P k i q ar n1 n2) := ⟨_, hok⟩
    obtain ⟨m8, e8, r8, F8, c8⟩ := z_take hq h30 (by omega) (show k < 24 by omega) hcq7.2.2.1 cb7
    have c7len : m8 30 7 = nI (z_inD P k i q ar n1 n2).length := by
      rw [F8.1 30 (by unfold z_bi; omega) (by unfold z_bi; omega) (by unfold z_bi; omega) (by unfold z_bi; omega)]; exact cb7.2.1
    refine ⟨m8, if 60 < (z_inD P k i q ar n1 n2).length then -6 else nI (z_inD P k i q ar n1 n2).length, st _ _ ?_, Or.inr ⟨hrt, rfl⟩, fun gr => ?_, r8, oF7.trans (F8.oF2 (by omega) lo2)⟩
    · rw [v1, if_neg (by decide)]
      unfold f36_329
      by_cases g60 : (z_inD P k i q ar n1 n2).length ≤ 60
      · rw [decide_eq_true g60] at e8
        rw [if_neg (by omega)]
        simp (disch := ((try simp only [true_or, or_true, hq.k, hq.k1, hq.k2, hq.k3, hq.k4, hq.k5, hq.k6, hq.k7, hq.k8, hq.k9, hq.k10, hq.l1, hq.l2, hq.l3, hq.l4, hq.l5, hq.l6, hq.l7, hq.l8, hq.l9, hq.l10, hX.k29, hbqk, h30k]) <;> (try omega))) only [↓reduceIte, ↓z_ite, ↓zR, ↓zB_R, ↓zB_B, ↓zB_ite, ↓zB_gI, ↓zB_pI, ↓zB_pZ, ↓zB_aK, ↓zB_G, ↓zB_lI, ↓zB_lZ, ↓zB_wI, ↓zB_wZ, ↓zB_lIl, ↓zB_wIl, zB_pI, zB_pZ, zB_lI, zB_lZ, zB_wI, zB_wZ, z_addl, z_ladd, z_mull, z_lmul, nI_add, z_subl, Nat.not_lt_zero, z_10, z_01, z_bitc, z_b0, z_b1, ↓zB_Gb, ↓zB_G0, ↓zB_G1, z_eql, z_leq, z_ltl, z_llt, z_eq, z_lt, z_m1lt, hq.k, hq.k1, hq.k2, hq.k3, hq.k4, hq.k5, hq.k6, hq.k7, hq.k8, hq.k9, hq.k10, hq.l1, hq.l2, hq.l3, hq.l4, hq.l5, hq.l6, hq.l7, hq.l8, hq.l9, hq.l10, hX.k29, hbqk, h30k, ↓hq.g0, ↓hq.g1, ↓hq.g2, ↓hq.g3, ↓hq.g4, ↓hq.g5, ↓hq.g6, ↓hq.g7, ↓hq.g8, ↓hq.g9, ↓hq.gb, hq.gb, ↓hX.g29_0, ↓hX.g29_1, h24, hk, ↓zB_c e8, zB_c e8, Bool.true_eq_false, c7len]
      · rw [decide_eq_false g60] at e8
        rw [if_pos (by omega)]
        simp (disch := ((try simp only [true_or, or_true, hq.k, hq.k1, hq.k2, hq.k3, hq.k4, hq.k5, hq.k6, hq.k7, hq.k8, hq.k9, hq.k10, hq.l1, hq.l2, hq.l3, hq.l4, hq.l5, hq.l6, hq.l7, hq.l8, hq.l9, hq.l10, hX.k29, hbqk, h30k]) <;> (try omega))) only [↓reduceIte, ↓z_ite, ↓zR, ↓zB_R, ↓zB_B, ↓zB_ite, ↓zB_gI, ↓zB_pI, ↓zB_pZ, ↓zB_aK, ↓zB_G, ↓zB_lI, ↓zB_lZ, ↓zB_wI, ↓zB_wZ, ↓zB_lIl, ↓zB_wIl, zB_pI, zB_pZ, zB_lI, zB_lZ, zB_wI, zB_wZ, z_addl, z_ladd, z_mull, z_lmul, nI_add, z_subl, Nat.not_lt_zero, z_10, z_01, z_bitc, z_b0, z_b1, ↓zB_Gb, ↓zB_G0, ↓zB_G1, z_eql, z_leq, z_ltl, z_llt, z_eq, z_lt, z_m1lt, hq.k, hq.k1, hq.k2, hq.k3, hq.k4, hq.k5, hq.k6, hq.k7, hq.k8, hq.k9, hq.k10, hq.l1, hq.l2, hq.l3, hq.l4, hq.l5, hq.l6, hq.l7, hq.l8, hq.l9, hq.l10, hX.k29, hbqk, h30k, ↓hq.g0, ↓hq.g1, ↓hq.g2, ↓hq.g3, ↓hq.g4, ↓hq.g5, ↓hq.g6, ↓hq.g7, ↓hq.g8, ↓hq.g9, ↓hq.gb, hq.gb, ↓hX.g29_0, ↓hX.g29_1, h24, hk, ↓zB_c e8, zB_c e8]
    · have g60 : (z_inD P k i q ar n1 n2).length ≤ 60 := by
        by_cases g : 60 < (z_inD P k i q ar n1 n2).length
        · rw [if_pos g] at gr; exact absurd (by decide) gr
        · omega
      have := c8 P hcq7 (fun j hj => (hw.2.2.2.1 j hj).2.2.2.1.1) hk hlk g60
      refine z_PK_0 this ?_
      rw [F8.1 q0 (by unfold z_bi; omega) (by unfold z_bi; omega) (by unfold z_bi; omega) (by unfold z_bi; omega)]; exact h147
  · refine ⟨m7, -8, st _ _ ?_, Or.inl ⟨rfl, hno⟩, fun gr => absurd (by decide) gr, hcq7.2.2.1, oF7⟩
    rw [if_pos v0]
end
