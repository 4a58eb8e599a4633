-- deps: 91.00.run 91.01.run2 91.02.run3 91.03.run4 91.04.run5 91.05.run6 91.06.crun
/-! a run: the class's machine, objects, raising -/
section
variable {P : z_Pg} {h : y_Qh} {k0 : Nat} {n : Nat} {out : y_V} {a : y_Ac} {s : List y_Ac} {S : z_S} {m : z_m} {p : Nat}
/-- the program that is run -/
def y_cG (S : z_S) (m : z_m) (p : Nat) (P : z_Pg) : Prop := z_XS S ∧ z_PS S p ∧ 62 ≤ p ∧ z_rm S 10 10 = some p ∧ z_cp m p P ∧ z_LT m p P
theorem y_cG.fr {m' : z_m} (hw : z_wf P) (hG : y_cG S m p P) (h : y_cR m m') : y_cG S m' p P := ⟨hG.1, hG.2.1, hG.2.2.1, hG.2.2.2.1, z_cp_fr3 hw (fun a x1 x2 => h a (by have := hG.2.2.1; omega)) hG.2.2.2.2.1, z_LT_fr hw (fun a x1 x2 => h a (by have := hG.2.2.1; omega)) hG.2.2.2.2.2⟩
theorem y_gp (hG : y_cG S m p P) {β : Type} {f : Nat → m_M β} {m0 : z_m} : m_B (m_gR 5 10 10) f (z_hp S m0) = f p (z_hp S m0) := by
  rw [zB_gR hG.1.k10, hG.2.2.2.1]; rfl
/-- Machine.create -/
theorem f46_c (hw : z_wf P) (hG : y_cG S m p P) {c : Nat} (hc : c < z_nc P) (hO : y_cO m h) (hn : y_qn h ≤ 500) : ∃ m', f46 10 (nI c) (z_hp S m) = some (nI (y_qn h), z_hp S m') ∧ y_cO m' (y_new P h c) ∧ (∀ j, j ≠ 14 → m' 10 j = m 10 j) ∧ ∀ a, a ≠ 10 → a ≠ 19 → a ≠ 20 → m' a = m a := by
  obtain ⟨hX, hp, lo, hpr, hcp, hT⟩ := hG
  have h6 := hw.1.1
  have h10k : z_kd S 10 = 5 := hX.k10
  have hpk := hp.k
  obtain ⟨o14, oo⟩ := hO
  have hn2 : y_qn h < 501 := by omega
  have gp : ∀ {β : Type} {f : Nat → m_M β} {m0 : z_m}, m_B (m_gR 5 10 10) f (z_hp S m0) = f p (z_hp S m0) := fun {β f m0} => by rw [zB_gR hX.k10, hpr]; rfl
  have key := z_loopI (f := fun s => f46_14b (s.1) (s.2.1) (s.2.2.1) (s.2.2.2)) (S := S) (fun N st m' => ∃ j, N = 16 - j ∧ j ≤ 16 ∧ st = (10, nI c, nI (y_qn h), nI j) ∧ m' 19 (y_qn h) = nI c ∧ (∀ i, i < j → m' 20 (y_qn h * 16 + i) = if y_isN P c i = true then -1 else 0) ∧ (∀ i, (i < y_qn h * 16 ∨ y_qn h * 16 + 16 ≤ i) → m' 20 i = m 20 i) ∧ (∀ i, i ≠ y_qn h → m' 19 i = m 19 i) ∧ ∀ a, a ≠ 19 → a ≠ 20 → m' a = m a) (fun r m' => r = nI (y_qn h) ∧ m' 10 14 = nI (y_qn h + 1) ∧ m' 19 (y_qn h) = nI c ∧ (∀ i, i < 16 → m' 20 (y_qn h * 16 + i) = if y_isN P c i = true then -1 else 0) ∧ (∀ i, (i < y_qn h * 16 ∨ y_qn h * 16 + 16 ≤ i) → m' 20 i = m 20 i) ∧ (∀ i, i ≠ y_qn h → m' 19 i = m 19 i) ∧ (∀ j, j ≠ 14 → m' 10 j = m 10 j) ∧ ∀ a, a ≠ 10 → a ≠ 19 → a ≠ 20 → m' a = m a) ?_ 1000000 16 (10, nI c, nI (y_qn h), 0) (z_up m 19 (y_qn h) (nI c)) ⟨0, rfl, by decide, rfl, z_up_s _ _ _ _, fun i hi => absurd hi (Nat.not_lt_zero _), fun i _ => by rw [z_up_row (by decide)], fun i hi => z_up_b hi, fun a x _ => z_up_row x⟩ (by decide)
  · obtain ⟨r, m', e, rfl, g1, g2, g3, g4, g5, g6, g7⟩ := key
    refine ⟨m', ?_, ⟨g1, fun o ho => ?_⟩, g6, g7⟩
    · unfold f46
      have e3 : f46_14 10 (nI c) (nI (y_qn h)) 0 (z_hp S (z_up m 19 (y_qn h) (nI c))) = some (nI (y_qn h), z_hp S m') := e
      simp (disch := ((try simp only [true_or, or_true, hX.k10, hX.k11, hX.k12, hX.k13, hX.k14, hX.k15, hX.k16, hX.k17, hX.k18, hX.k19, hX.k20, hX.l11, hX.l12, hX.l13, hX.l14, hX.l15, hX.l16, hX.l17, hX.l18, hX.l19, hX.l20, h10k]) <;> (try omega))) only [↓reduceIte, ↓z_ite, ↓zR, ↓zB_R, ↓zB_B, ↓zB_ite, ↓zB_gI, ↓zB_pI, ↓zB_pZ, ↓zB_aK, ↓zB_G, ↓zB_lI, ↓zB_lZ, ↓zB_wI, ↓zB_wZ, ↓zB_lIl, ↓zB_wIl, zB_pI, zB_pZ, zB_lI, zB_lZ, zB_wI, zB_wZ, z_addl, z_ladd, z_mull, z_lmul, nI_add, z_subl, Nat.not_lt_zero, z_10, z_01, z_bitc, z_b0, z_b1, ↓zB_Gb, ↓zB_G0, ↓zB_G1, z_eql, z_leq, z_ltl, z_llt, z_eq, z_lt, z_m1lt, hX.k10, hX.k11, hX.k12, hX.k13, hX.k14, hX.k15, hX.k16, hX.k17, hX.k18, hX.k19, hX.k20, hX.l11, hX.l12, hX.l13, hX.l14, hX.l15, hX.l16, hX.l17, hX.l18, hX.l19, hX.l20, h10k, ↓hX.g10_0, ↓hX.g10_1, ↓hX.g10_2, ↓hX.g10_3, ↓hX.g10_4, ↓hX.g10_5, ↓hX.g10_6, ↓hX.g10_7, ↓hX.g10_8, ↓hX.g10_9, o14, hn2, e3]
    · have ho : o < y_qn h + 1 := ho
      rcases Nat.lt_or_ge o (y_qn h) with g | g
      · have e1 : y_qc (y_new P h c) o = y_qc h o := if_neg (by omega)
        have e2 : ∀ n, y_qf (y_new P h c) o n = y_qf h o n := fun n => if_neg (by omega)
        rw [e1]
        refine ⟨by rw [g5 o (by omega)]; exact (oo o g).1, fun n hn => ?_⟩
        rw [e2, g4 _ (by omega)]
        exact (oo o g).2 n hn
      · obtain rfl : o = y_qn h := by omega
        have e1 : y_qc (y_new P h c) (y_qn h) = c := if_pos rfl
        have e2 : ∀ n, y_qf (y_new P h c) (y_qn h) n = (if y_isN P c n = true then 2 else 0, 0) := fun n => if_pos rfl
        rw [e1]
        refine ⟨g2, fun n hn => ?_⟩
        rw [e2, g3 n hn]
        cases y_isN P c n <;> rfl
  · rintro N st m1 ⟨j, rfl, hj, rfl, g2, g3, g4, g5, g7⟩
    have o14' : m1 10 14 = nI (y_qn h) := by rw [g7 10 (by decide) (by decide)]; exact o14
    dsimp only
    rcases Nat.eq_or_lt_of_le hj with hj2 | hj2
    · subst hj2
      refine Or.inr ⟨_, z_up m1 10 14 (nI (y_qn h + 1)), ?_, rfl, z_up_s _ _ _ _, by rw [z_up_row (by decide)]; exact g2, fun i hi => by rw [z_up_row (by decide)]; exact g3 i hi, fun i hi => by rw [z_up_row (by decide)]; exact g4 i hi, fun i hi => by rw [z_up_row (by decide)]; exact g5 i hi, fun i hi => by rw [z_up_b hi, g7 10 (by decide) (by decide)], fun a x y z => by rw [z_up_row x]; exact g7 a y z⟩
      unfold f46_14b f46_85
      simp (disch := ((try simp only [true_or, or_true, hX.k10, hX.k11, hX.k12, hX.k13, hX.k14, hX.k15, hX.k16, hX.k17, hX.k18, hX.k19, hX.k20, hX.l11, hX.l12, hX.l13, hX.l14, hX.l15, hX.l16, hX.l17, hX.l18, hX.l19, hX.l20, h10k]) <;> (try omega))) only [↓reduceIte, ↓z_ite, ↓zR, ↓zB_R, ↓zB_B, ↓zB_ite, ↓zB_gI, ↓zB_pI, ↓zB_pZ, ↓zB_aK, ↓zB_G, ↓zB_lI, ↓zB_lZ, ↓zB_wI, ↓zB_wZ, ↓zB_lIl, ↓zB_wIl, zB_pI, zB_pZ, zB_lI, zB_lZ, zB_wI, zB_wZ, z_addl, z_ladd, z_mull, z_lmul, nI_add, z_subl, Nat.not_lt_zero, z_10, z_01, z_bitc, z_b0, z_b1, ↓zB_Gb, ↓zB_G0, ↓zB_G1, z_eql, z_leq, z_ltl, z_llt, z_eq, z_lt, z_m1lt, hX.k10, hX.k11, hX.k12, hX.k13, hX.k14, hX.k15, hX.k16, hX.k17, hX.k18, hX.k19, hX.k20, hX.l11, hX.l12, hX.l13, hX.l14, hX.l15, hX.l16, hX.l17, hX.l18, hX.l19, hX.l20, h10k, ↓hX.g10_0, ↓hX.g10_1, ↓hX.g10_2, ↓hX.g10_3, ↓hX.g10_4, ↓hX.g10_5, ↓hX.g10_6, ↓hX.g10_7, ↓hX.g10_8, ↓hX.g10_9, o14', Nat.lt_irrefl]
    · have hcp1 : z_cp m1 p P := z_cp_fr3 hw (fun a x1 x2 => g7 a (by omega) (by omega)) hcp
      have e86 := f86_sp hp hcp1 hw hc hj2
      have idx : nI (y_qn h) * 16 + nI j = nI (y_qn h * 16 + j) := by rw [show nI (y_qn h) * 16 = nI (y_qn h * 16) from z_mull _ 16, nI_add]
      have hix : y_qn h * 16 + j < 8016 := by omega
      have wr : ∀ v : Int32, (v = if y_isN P c j = true then -1 else 0) → f46_14b 10 (nI c) (nI (y_qn h)) (nI j) (z_hp S m1) = some (.inl (10, nI c, nI (y_qn h), nI (j + 1)), z_hp S (z_up m1 20 (y_qn h * 16 + j) v)) → (∃ s' m' n', f46_14b 10 (nI c) (nI (y_qn h)) (nI j) (z_hp S m1) = some (.inl s', z_hp S m') ∧ n' < 16 - j ∧ ∃ j', n' = 16 - j' ∧ j' ≤ 16 ∧ s' = (10, nI c, nI (y_qn h), nI j') ∧ m' 19 (y_qn h) = nI c ∧ (∀ i, i < j' → m' 20 (y_qn h * 16 + i) = if y_isN P c i = true then -1 else 0) ∧ (∀ i, (i < y_qn h * 16 ∨ y_qn h * 16 + 16 ≤ i) → m' 20 i = m 20 i) ∧ (∀ i, i ≠ y_qn h → m' 19 i = m 19 i) ∧ ∀ a, a ≠ 19 → a ≠ 20 → m' a = m a) := fun v hv e => ⟨_, _, 16 - (j + 1), e, by omega, j + 1, rfl, hj2, rfl, by rw [z_up_row (by decide)]; exact g2, fun i hi => by
        rcases Nat.lt_or_ge i j with w | w
        · rw [z_up_b (by omega)]; exact g3 i w
        · obtain rfl : i = j := by omega
          rw [z_up_s, hv], fun i hi => by rw [z_up_b (by omega)]; exact g4 i hi, fun i hi => by rw [z_up_row (by decide)]; exact g5 i hi, fun a x y => by rw [z_up_row y]; exact g7 a x y⟩
      cases hf : z_fc P c j with
      | none =>
        rw [hf] at e86
        have e86 : f86 p (nI c) (nI j) (z_hp S m1) = some (-1, z_hp S m1) := e86
        refine Or.inl (wr 0 (by unfold y_isN; rw [hf]; rfl) ?_)
        unfold f46_14b f46_55 f46_56 f46_78
        simp (disch := ((try simp only [true_or, or_true, hX.k10, hX.k11, hX.k12, hX.k13, hX.k14, hX.k15, hX.k16, hX.k17, hX.k18, hX.k19, hX.k20, hX.l11, hX.l12, hX.l13, hX.l14, hX.l15, hX.l16, hX.l17, hX.l18, hX.l19, hX.l20, h10k, hpk]) <;> (try omega))) only [↓reduceIte, ↓z_ite, ↓zR, ↓zB_R, ↓zB_B, ↓zB_ite, ↓zB_gI, ↓zB_pI, ↓zB_pZ, ↓zB_aK, ↓zB_G, ↓zB_lI, ↓zB_lZ, ↓zB_wI, ↓zB_wZ, ↓zB_lIl, ↓zB_wIl, zB_pI, zB_pZ, zB_lI, zB_lZ, zB_wI, zB_wZ, z_addl, z_ladd, z_mull, z_lmul, nI_add, z_subl, Nat.not_lt_zero, z_10, z_01, z_bitc, z_b0, z_b1, ↓zB_Gb, ↓zB_G0, ↓zB_G1, z_eql, z_leq, z_ltl, z_llt, z_eq, z_lt, z_m1lt, hX.k10, hX.k11, hX.k12, hX.k13, hX.k14, hX.k15, hX.k16, hX.k17, hX.k18, hX.k19, hX.k20, hX.l11, hX.l12, hX.l13, hX.l14, hX.l15, hX.l16, hX.l17, hX.l18, hX.l19, hX.l20, h10k, hpk, ↓hX.g10_0, ↓hX.g10_1, ↓hX.g10_2, ↓hX.g10_3, ↓hX.g10_4, ↓hX.g10_5, ↓hX.g10_6, ↓hX.g10_7, ↓hX.g10_8, ↓hX.g10_9, ↓gp, hj2, ↓zB_c e86, zB_c e86, idx, hix]
      | some d =>
        rw [hf] at e86
        have e86 : f86 p (nI c) (nI j) (z_hp S m1) = some (nI d, z_hp S m1) := e86
        obtain ⟨d1, _, d3⟩ := z_fc_some hf
        have hdn : d < z_nc P := by omega
        have e85 := f85_sp hp hcp1 hw hdn (nI j)
        rw [if_pos ((z_in_iff (by decide)).mpr ⟨j, hj2, rfl⟩), nI_clamp (by omega), (z_fld_ty hw hdn hj2 d3).2] at e85
        have hne : ¬ nI d = -1 := z_nI_m1 (by omega)
        have eN : y_isN P c j = !(z_fld P d j - 2 == -1) := by unfold y_isN; rw [hf]
        by_cases gt : z_fld P d j - 2 = -1
        · rw [gt] at e85
          refine Or.inl (wr 0 (by rw [eN, gt]; rfl) ?_)
          unfold f46_14b f46_55 f46_56 f46_78
          simp (disch := ((try simp only [true_or, or_true, hX.k10, hX.k11, hX.k12, hX.k13, hX.k14, hX.k15, hX.k16, hX.k17, hX.k18, hX.k19, hX.k20, hX.l11, hX.l12, hX.l13, hX.l14, hX.l15, hX.l16, hX.l17, hX.l18, hX.l19, hX.l20, h10k, hpk]) <;> (try omega))) only [↓reduceIte, ↓z_ite, ↓zR, ↓zB_R, ↓zB_B, ↓zB_ite, ↓zB_gI, ↓zB_pI, ↓zB_pZ, ↓zB_aK, ↓zB_G, ↓zB_lI, ↓zB_lZ, ↓zB_wI, ↓zB_wZ, ↓zB_lIl, ↓zB_wIl, zB_pI, zB_pZ, zB_lI, zB_lZ, zB_wI, zB_wZ, z_addl, z_ladd, z_mull, z_lmul, nI_add, z_subl, Nat.not_lt_zero, z_10, z_01, z_bitc, z_b0, z_b1, ↓zB_Gb, ↓zB_G0, ↓zB_G1, z_eql, z_leq, z_ltl, z_llt, z_eq, z_lt, z_m1lt, hX.k10, hX.k11, hX.k12, hX.k13, hX.k14, hX.k15, hX.k16, hX.k17, hX.k18, hX.k19, hX.k20, hX.l11, hX.l12, hX.l13, hX.l14, hX.l15, hX.l16, hX.l17, hX.l18, hX.l19, hX.l20, h10k, hpk, ↓hX.g10_0, ↓hX.g10_1, ↓hX.g10_2, ↓hX.g10_3, ↓hX.g10_4, ↓hX.g10_5, ↓hX.g10_6, ↓hX.g10_7, ↓hX.g10_8, ↓hX.g10_9, ↓gp, hj2, ↓zB_c e86, zB_c e86, hne, ↓zB_c e85, zB_c e85, idx, hix]
        · refine Or.inl (wr (-1) (by rw [eN, show (z_fld P d j - 2 == -1) = false by simpa using gt]; rfl) ?_)
          unfold f46_14b f46_56 f46_78
          simp (disch := ((try simp only [true_or, or_true, hX.k10, hX.k11, hX.k12, hX.k13, hX.k14, hX.k15, hX.k16, hX.k17, hX.k18, hX.k19, hX.k20, hX.l11, hX.l12, hX.l13, hX.l14, hX.l15, hX.l16, hX.l17, hX.l18, hX.l19, hX.l20, h10k, hpk]) <;> (try omega))) only [↓reduceIte, ↓z_ite, ↓zR, ↓zB_R, ↓zB_B, ↓zB_ite, ↓zB_gI, ↓zB_pI, ↓zB_pZ, ↓zB_aK, ↓zB_G, ↓zB_lI, ↓zB_lZ, ↓zB_wI, ↓zB_wZ, ↓zB_lIl, ↓zB_wIl, zB_pI, zB_pZ, zB_lI, zB_lZ, zB_wI, zB_wZ, z_addl, z_ladd, z_mull, z_lmul, nI_add, z_subl, Nat.not_lt_zero, z_10, z_01, z_bitc, z_b0, z_b1, ↓zB_Gb, ↓zB_G0, ↓zB_G1, z_eql, z_leq, z_ltl, z_llt, z_eq, z_lt, z_m1lt, hX.k10, hX.k11, hX.k12, hX.k13, hX.k14, hX.k15, hX.k16, hX.k17, hX.k18, hX.k19, hX.k20, hX.l11, hX.l12, hX.l13, hX.l14, hX.l15, hX.l16, hX.l17, hX.l18, hX.l19, hX.l20, h10k, hpk, ↓hX.g10_0, ↓hX.g10_1, ↓hX.g10_2, ↓hX.g10_3, ↓hX.g10_4, ↓hX.g10_5, ↓hX.g10_6, ↓hX.g10_7, ↓hX.g10_8, ↓hX.g10_9, ↓gp, hj2, ↓zB_c e86, zB_c e86, hne, ↓zB_c e85, zB_c e85, gt, idx, hix]
/-- Machine.raiseUp -/
theorem f58_c (hP : y_PG P) {F : Nat} {e w : Int32} (he : ¬ e = -1) : ∀ (s : List y_Ac) (m : z_m), y_cG S m p P → m 10 11 = nI s.length → m 10 15 = nI n → m 10 16 = -1 → m 10 17 = 0 → y_cS m s → y_cO m h → y_cF m h F → y_HI P h F → (∀ b ∈ s, b.1 ≤ F ∧ b.2.1 < (y_l P h b).length ∧ b.2.2.1 ≤ 4) → s.length ≤ 500 → n ≤ 500 → y_ht s ≤ 500 → F < 20 → ∀ N, s.length < N → ∃ m', m_W (fun s => f58b (s.1) (s.2.1) (s.2.2)) N (10, e, w) (z_hp S m) = some ((), z_hp S m') ∧ y_cX m' (y_ra P s h n out e w) ∧ y_cR m m'
  | [], m, hG, c11, c15, c16, c17, hS, hO, hF, hI, hs, hl, hn, hht, h20, 0, hN => by omega
  | b :: s, m, hG, c11, c15, c16, c17, hS, hO, hF, hI, hs, hl, hn, hht, h20, 0, hN => by omega
  | [], m, hG, c11, c15, c16, c17, hS, hO, hF, hI, hs, hl, hn, hht, h20, N + 1, hN => by
    have h10k : z_kd S 10 = 5 := hG.1.k10
    refine ⟨z_up (z_up m 10 16 e) 10 17 w, ?_, ⟨by rw [z_up_b (by decide), z_up_s]; rfl, z_up_s _ _ _ _, by rw [z_up_b (by decide), z_up_b (by decide)]; exact c15, fun q => absurd q he⟩, fun a ha => by rw [z_up_row (by omega), z_up_row (by omega)]⟩
    have c11 : m 10 11 = nI 0 := c11
    unfold m_W m_B
    have : f58b 10 e w (z_hp S m) = some (.inr (), z_hp S (z_up (z_up m 10 16 e) 10 17 w)) := by
      unfold f58b f58_121
      have g0 : ¬ (0 : Int32) < nI 0 := by decide
      simp (disch := ((try simp only [true_or, or_true, hG.1.k10, hG.1.k11, hG.1.k12, hG.1.k13, hG.1.k14, hG.1.k15, hG.1.k16, hG.1.k17, hG.1.k18, hG.1.k19, hG.1.k20, hG.1.l11, hG.1.l12, hG.1.l13, hG.1.l14, hG.1.l15, hG.1.l16, hG.1.l17, hG.1.l18, hG.1.l19, hG.1.l20, h10k]) <;> (try omega))) only [↓reduceIte, ↓z_ite, ↓zR, ↓zB_R, ↓zB_B, ↓zB_ite, ↓zB_gI, ↓zB_pI, ↓zB_pZ, ↓zB_aK, ↓zB_G, ↓zB_lI, ↓zB_lZ, ↓zB_wI, ↓zB_wZ, ↓zB_lIl, ↓zB_wIl, zB_pI, zB_pZ, zB_lI, zB_lZ, zB_wI, zB_wZ, z_addl, z_ladd, z_mull, z_lmul, nI_add, z_subl, Nat.not_lt_zero, z_10, z_01, z_bitc, z_b0, z_b1, ↓zB_Gb, ↓zB_G0, ↓zB_G1, z_eql, z_leq, z_ltl, z_llt, z_eq, z_lt, z_m1lt, hG.1.k10, hG.1.k11, hG.1.k12, hG.1.k13, hG.1.k14, hG.1.k15, hG.1.k16, hG.1.k17, hG.1.k18, hG.1.k19, hG.1.k20, hG.1.l11, hG.1.l12, hG.1.l13, hG.1.l14, hG.1.l15, hG.1.l16, hG.1.l17, hG.1.l18, hG.1.l19, hG.1.l20, h10k, ↓hG.1.g10_0, ↓hG.1.g10_1, ↓hG.1.g10_2, ↓hG.1.g10_3, ↓hG.1.g10_4, ↓hG.1.g10_5, ↓hG.1.g10_6, ↓hG.1.g10_7, ↓hG.1.g10_8, ↓hG.1.g10_9, c11, g0]
    dsimp only
    rw [this]; rfl
  | b :: s, m, hG, c11, c15, c16, c17, hS, hO, hF, hI, hs, hl, hn, hht, h20, N + 1, hN => by
    obtain ⟨hX, hp, lo, hpr, hcp, hT⟩ := hG
    have hw := hP.1.1
    have h24 := hw.2.2.1
    have h10k : z_kd S 10 = 5 := hX.k10
    have hpk := hp.k
    obtain ⟨hbF, hbi, hb4⟩ := hs b List.mem_cons_self
    have hmm := hI.1 b.1 hbF
    have hbm := hp.B (k := y_qm h b.1) (by omega)
    have hbmk := hbm.k
    have hB := hw.2.2.2.2.1 _ hmm.1
    have hb := hcp.2.2.2 _ hmm.1 hmm.2.1
    have hl60 := hb.2.2.1
    have hbi : b.2.1 < (z_bd P (y_qm h b.1)).length := hbi
    obtain ⟨ek, _, _⟩ := hb.2.2.2.2 b.2.1 hbi
    have gp : ∀ {β : Type} {f : Nat → m_M β} {m0 : z_m}, m_B (m_gR 5 10 10) f (z_hp S m0) = f p (z_hp S m0) := fun {β f m0} => by rw [zB_gR hX.k10, hpr]; rfl
    obtain ⟨⟨p1, p2, p3, p4, p5⟩, hSs⟩ := hS
    have c11 : m 10 11 = nI (s.length + 1) := c11
    have e1 : nI (s.length + 1) - 1 = nI s.length := z_subl (k := 1) (by omega)
    have hl' : s.length + 1 ≤ 500 := hl
    have hls : s.length < 501 := by omega
    have e2 : nI (b.1 + 1) - 1 = nI b.1 := z_subl (k := 1) (by omega)
    have hb20 : b.1 < 20 := by omega
    have f16 := (hF b.1 hbF).1
    have h61 : b.2.1 < 61 := by omega
    have hm24 : y_qm h b.1 < 24 := by omega
    have gpos : (0 : Int32) < nI (s.length + 1) := by
      have : (nI 0 < nI (s.length + 1)) = (0 < s.length + 1) := z_lt (by decide) (by omega)
      rw [show (0 : Int32) = nI 0 from rfl, this]; omega
    unfold m_W m_B y_ra y_unw
    by_cases gg : y_k P h b = 13 ∧ b.2.2.1 = 1
    · rw [if_pos gg]
      obtain ⟨g13, g1⟩ := gg
      have g13 : z_k (z_bd P (y_qm h b.1)) b.2.1 = 13 := g13
      rw [g13] at ek
      rw [g1] at p2
      have hpt1 := z_pt_lt hB.1 hbi (j := 1) (by rw [z_p_13 g13]; decide)
      generalize hm3 : z_up (z_up (z_up m 10 13 (nI (b.1 + 1))) 10 12 (nI (y_ht s))) 12 s.length 2 = m3
      have fr3 : ∀ a, a ≠ 10 → a ≠ 12 → m3 a = m a := fun a x y => by rw [← hm3, z_up_row y, z_up_row x, z_up_row x]
      have fr310 : ∀ j, j ≠ 13 → j ≠ 12 → m3 10 j = m 10 j := fun j x y => by rw [← hm3, z_up_row (by decide), z_up_b y, z_up_b x]
      have fr312 : ∀ j, j ≠ s.length → m3 12 j = m 12 j := fun j x => by rw [← hm3, z_up_b x, z_up_row (by decide), z_up_row (by decide)]
      have hcp3 : z_cp m3 p P := z_cp_fr3 hw (fun a x1 x2 => fr3 a (by omega) (by omega)) hcp
      have hT3 : z_LT m3 p P := z_LT_fr hw (fun a x1 x2 => fr3 a (by omega) (by omega)) hT
      have e9 := f9_sp hbm (hcp3.2.2.2 _ hmm.1 hmm.2.1) hB.1 hbi (fun j _ hj => (hT3 _ hmm.1 hmm.2.1).1 j hj) 1 (by decide)
      have e9 : f9 (z_bi p (y_qm h b.1)) (nI b.2.1) 1 (z_hp S m3) = some (nI (z_pt (z_bd P (y_qm h b.1)) b.2.1 1), z_hp S m3) := e9
      have hP3 : y_cP m3 ((b.1, b.2.1, 2, []) :: s) h n b.1 := by
        refine ⟨⟨by rw [fr310 11 (by decide) (by decide)]; exact c11, by rw [fr310 15 (by decide) (by decide)]; exact c15, by rw [fr310 16 (by decide) (by decide)]; exact c16, by rw [fr310 17 (by decide) (by decide)]; exact c17⟩, ⟨⟨by rw [fr3 11 (by decide) (by decide)]; exact p1, by rw [← hm3, z_up_s]; rfl, by rw [fr3 13 (by decide) (by decide)]; exact p3, by rw [fr3 14 (by decide) (by decide)]; exact p4, fun j hj => absurd hj (Nat.not_lt_zero _)⟩, ?_⟩, y_cO_fr (fr310 14 (by decide) (by decide)) (fr3 19 (by decide) (by decide)) (fr3 20 (by decide) (by decide)) hO, ?_, ?_, y_cF_fr (fun a ha => fr3 a (by omega) (by omega)) (fun f hf => hF f (by omega))⟩
        · exact y_cS_fr (fun a x y j hj => by
            by_cases g : a = 12
            · subst g; exact fr312 j (by omega)
            · rw [fr3 a (by omega) g]) (fun j _ => by rw [fr3 15 (by decide) (by decide)]) hSs
        · rw [← hm3, z_up_row (by decide), z_up_s]; rfl
        · rw [← hm3, z_up_row (by decide), z_up_b (by decide), z_up_s]
      obtain ⟨m4, e48, c4, r4⟩ := f48_c (out := out) hX hP3 hl' hn (z_pt (z_bd P (y_qm h b.1)) b.2.1 1)
      refine ⟨m4, ?_, c4, fun a ha => (r4 a ha).trans (fr3 a (by omega) (by omega))⟩
      have : f58b 10 e w (z_hp S m) = some (.inr (), z_hp S m4) := by
        unfold f58b f58_64
        have q1 : z_up (z_up m 10 13 (nI (b.1 + 1))) 10 12 (nI (y_ht s)) 12 = m 12 := by rw [z_up_row (by decide), z_up_row (by decide)]
        have q2 : z_up m 10 13 (nI (b.1 + 1)) 14 s.length = nI (y_ht s) := by rw [z_up_row (by decide)]; exact p4
        have q3 : m3 11 s.length = nI b.2.1 := by rw [fr3 11 (by decide) (by decide)]; exact p1
        simp (disch := ((try simp only [true_or, or_true, hX.k10, hX.k11, hX.k12, hX.k13, hX.k14, hX.k15, hX.k16, hX.k17, hX.k18, hX.k19, hX.k20, hX.l11, hX.l12, hX.l13, hX.l14, hX.l15, hX.l16, hX.l17, hX.l18, hX.l19, hX.l20, hp.k, hp.k1, hp.k2, hp.k3, hp.k4, hp.k5, hp.k6, hp.k7, hp.k8, hp.k9, hp.k10, hp.l1, hp.l2, hp.l3, hp.l4, hp.l5, hp.l6, hp.l7, hp.l8, hp.l9, hp.l10, hbm.k, hbm.k1, hbm.k2, hbm.k3, hbm.k4, hbm.k5, hbm.k6, hbm.l1, hbm.l2, hbm.l3, hbm.l4, hbm.l5, hbm.l6, h10k, hpk, hbmk]) <;> (try omega))) only [↓reduceIte, ↓z_ite, ↓zR, ↓zB_R, ↓zB_B, ↓zB_ite, ↓zB_gI, ↓zB_pI, ↓zB_pZ, ↓zB_aK, ↓zB_G, ↓zB_lI, ↓zB_lZ, ↓zB_wI, ↓zB_wZ, ↓zB_lIl, ↓zB_wIl, zB_pI, zB_pZ, zB_lI, zB_lZ, zB_wI, zB_wZ, z_addl, z_ladd, z_mull, z_lmul, nI_add, z_subl, Nat.not_lt_zero, z_10, z_01, z_bitc, z_b0, z_b1, ↓zB_Gb, ↓zB_G0, ↓zB_G1, z_eql, z_leq, z_ltl, z_llt, z_eq, z_lt, z_m1lt, hX.k10, hX.k11, hX.k12, hX.k13, hX.k14, hX.k15, hX.k16, hX.k17, hX.k18, hX.k19, hX.k20, hX.l11, hX.l12, hX.l13, hX.l14, hX.l15, hX.l16, hX.l17, hX.l18, hX.l19, hX.l20, hp.k, hp.k1, hp.k2, hp.k3, hp.k4, hp.k5, hp.k6, hp.k7, hp.k8, hp.k9, hp.k10, hp.l1, hp.l2, hp.l3, hp.l4, hp.l5, hp.l6, hp.l7, hp.l8, hp.l9, hp.l10, hbm.k, hbm.k1, hbm.k2, hbm.k3, hbm.k4, hbm.k5, hbm.k6, hbm.l1, hbm.l2, hbm.l3, hbm.l4, hbm.l5, hbm.l6, h10k, hpk, hbmk, ↓hX.g10_0, ↓hX.g10_1, ↓hX.g10_2, ↓hX.g10_3, ↓hX.g10_4, ↓hX.g10_5, ↓hX.g10_6, ↓hX.g10_7, ↓hX.g10_8, ↓hX.g10_9, ↓hp.g0, ↓hp.g1, ↓hp.g2, ↓hp.g3, ↓hp.g4, ↓hp.g5, ↓hp.g6, ↓hp.g7, ↓hp.g8, ↓hp.g9, ↓hp.gb, hp.gb, ↓hbm.g0, ↓hbm.g1, ↓hbm.g2, ↓hbm.g3, ↓hbm.g4, ↓hbm.g5, ↓gp, c11, gpos, e1, hls, p3, e2, hb20, f16, h24, hmm.1, hm24, p1, h61, ek, p2, q2, hm3, q3, ↓zB_c e9, zB_c e9, ↓zB_c e48, zB_c e48]
      dsimp only
      rw [this]; rfl
    · rw [if_neg gg]
      have r0 : ∀ a, a ≠ 10 → z_up m 10 11 (nI s.length) a = m a := fun a x => z_up_row x
      have r10 : ∀ j, j ≠ 11 → z_up m 10 11 (nI s.length) 10 j = m 10 j := fun j x => z_up_b x
      have hR : y_cR m (z_up m 10 11 (nI s.length)) := fun a ha => r0 a (by omega)
      obtain ⟨m', e', x1, x2⟩ := f58_c hP he s (z_up m 10 11 (nI s.length)) (y_cG.fr hw ⟨hX, hp, lo, hpr, hcp, hT⟩ hR) (z_up_s _ _ _ _) (by rw [r10 15 (by decide)]; exact c15) (by rw [r10 16 (by decide)]; exact c16) (by rw [r10 17 (by decide)]; exact c17) (y_cS_fr (fun a x y j _ => by rw [r0 a (by omega)]) (fun j _ => by rw [r0 15 (by decide)]) hSs) (y_cO_fr (r10 14 (by decide)) (r0 19 (by decide)) (r0 20 (by decide)) hO) (y_cF_fr (fun a ha => r0 a (by omega)) hF) hI (fun c hc => hs c (List.mem_cons_of_mem _ hc)) (by omega) hn (by
        have : y_ht s + b.2.2.2.length ≤ 500 := hht
        omega) h20 N (by have : s.length + 1 < N + 1 := hN; omega)
      refine ⟨m', ?_, x1, hR.trans x2⟩
      have : f58b 10 e w (z_hp S m) = some (.inl (10, e, w), z_hp S (z_up m 10 11 (nI s.length))) := by
        unfold f58b f58_108
        by_cases g13 : z_k (z_bd P (y_qm h b.1)) b.2.1 = 13
        · rw [g13] at ek
          have g1 : ¬ nI b.2.2.1 = 1 := fun q => gg ⟨g13, (nI_eq (b := 1) (by omega) (by decide)).mp q⟩
          simp (disch := ((try simp only [true_or, or_true, hX.k10, hX.k11, hX.k12, hX.k13, hX.k14, hX.k15, hX.k16, hX.k17, hX.k18, hX.k19, hX.k20, hX.l11, hX.l12, hX.l13, hX.l14, hX.l15, hX.l16, hX.l17, hX.l18, hX.l19, hX.l20, hp.k, hp.k1, hp.k2, hp.k3, hp.k4, hp.k5, hp.k6, hp.k7, hp.k8, hp.k9, hp.k10, hp.l1, hp.l2, hp.l3, hp.l4, hp.l5, hp.l6, hp.l7, hp.l8, hp.l9, hp.l10, hbm.k, hbm.k1, hbm.k2, hbm.k3, hbm.k4, hbm.k5, hbm.k6, hbm.l1, hbm.l2, hbm.l3, hbm.l4, hbm.l5, hbm.l6, h10k, hpk, hbmk]) <;> (try omega))) only [↓reduceIte, ↓z_ite, ↓zR, ↓zB_R, ↓zB_B, ↓zB_ite, ↓zB_gI, ↓zB_pI, ↓zB_pZ, ↓zB_aK, ↓zB_G, ↓zB_lI, ↓zB_lZ, ↓zB_wI, ↓zB_wZ, ↓zB_lIl, ↓zB_wIl, zB_pI, zB_pZ, zB_lI, zB_lZ, zB_wI, zB_wZ, z_addl, z_ladd, z_mull, z_lmul, nI_add, z_subl, Nat.not_lt_zero, z_10, z_01, z_bitc, z_b0, z_b1, ↓zB_Gb, ↓zB_G0, ↓zB_G1, z_eql, z_leq, z_ltl, z_llt, z_eq, z_lt, z_m1lt, hX.k10, hX.k11, hX.k12, hX.k13, hX.k14, hX.k15, hX.k16, hX.k17, hX.k18, hX.k19, hX.k20, hX.l11, hX.l12, hX.l13, hX.l14, hX.l15, hX.l16, hX.l17, hX.l18, hX.l19, hX.l20, hp.k, hp.k1, hp.k2, hp.k3, hp.k4, hp.k5, hp.k6, hp.k7, hp.k8, hp.k9, hp.k10, hp.l1, hp.l2, hp.l3, hp.l4, hp.l5, hp.l6, hp.l7, hp.l8, hp.l9, hp.l10, hbm.k, hbm.k1, hbm.k2, hbm.k3, hbm.k4, hbm.k5, hbm.k6, hbm.l1, hbm.l2, hbm.l3, hbm.l4, hbm.l5, hbm.l6, h10k, hpk, hbmk, ↓hX.g10_0, ↓hX.g10_1, ↓hX.g10_2, ↓hX.g10_3, ↓hX.g10_4, ↓hX.g10_5, ↓hX.g10_6, ↓hX.g10_7, ↓hX.g10_8, ↓hX.g10_9, ↓hp.g0, ↓hp.g1, ↓hp.g2, ↓hp.g3, ↓hp.g4, ↓hp.g5, ↓hp.g6, ↓hp.g7, ↓hp.g8, ↓hp.g9, ↓hp.gb, hp.gb, ↓hbm.g0, ↓hbm.g1, ↓hbm.g2, ↓hbm.g3, ↓hbm.g4, ↓hbm.g5, ↓gp, c11, gpos, e1, hls, p3, e2, hb20, f16, h24, hmm.1, hm24, p1, h61, ek, p2, g1]
        · simp (disch := ((try simp only [true_or, or_true, hX.k10, hX.k11, hX.k12, hX.k13, hX.k14, hX.k15, hX.k16, hX.k17, hX.k18, hX.k19, hX.k20, hX.l11, hX.l12, hX.l13, hX.l14, hX.l15, hX.l16, hX.l17, hX.l18, hX.l19, hX.l20, hp.k, hp.k1, hp.k2, hp.k3, hp.k4, hp.k5, hp.k6, hp.k7, hp.k8, hp.k9, hp.k10, hp.l1, hp.l2, hp.l3, hp.l4, hp.l5, hp.l6, hp.l7, hp.l8, hp.l9, hp.l10, hbm.k, hbm.k1, hbm.k2, hbm.k3, hbm.k4, hbm.k5, hbm.k6, hbm.l1, hbm.l2, hbm.l3, hbm.l4, hbm.l5, hbm.l6, h10k, hpk, hbmk]) <;> (try omega))) only [↓reduceIte, ↓z_ite, ↓zR, ↓zB_R, ↓zB_B, ↓zB_ite, ↓zB_gI, ↓zB_pI, ↓zB_pZ, ↓zB_aK, ↓zB_G, ↓zB_lI, ↓zB_lZ, ↓zB_wI, ↓zB_wZ, ↓zB_lIl, ↓zB_wIl, zB_pI, zB_pZ, zB_lI, zB_lZ, zB_wI, zB_wZ, z_addl, z_ladd, z_mull, z_lmul, nI_add, z_subl, Nat.not_lt_zero, z_10, z_01, z_bitc, z_b0, z_b1, ↓zB_Gb, ↓zB_G0, ↓zB_G1, z_eql, z_leq, z_ltl, z_llt, z_eq, z_lt, z_m1lt, hX.k10, hX.k11, hX.k12, hX.k13, hX.k14, hX.k15, hX.k16, hX.k17, hX.k18, hX.k19, hX.k20, hX.l11, hX.l12, hX.l13, hX.l14, hX.l15, hX.l16, hX.l17, hX.l18, hX.l19, hX.l20, hp.k, hp.k1, hp.k2, hp.k3, hp.k4, hp.k5, hp.k6, hp.k7, hp.k8, hp.k9, hp.k10, hp.l1, hp.l2, hp.l3, hp.l4, hp.l5, hp.l6, hp.l7, hp.l8, hp.l9, hp.l10, hbm.k, hbm.k1, hbm.k2, hbm.k3, hbm.k4, hbm.k5, hbm.k6, hbm.l1, hbm.l2, hbm.l3, hbm.l4, hbm.l5, hbm.l6, h10k, hpk, hbmk, ↓hX.g10_0, ↓hX.g10_1, ↓hX.g10_2, ↓hX.g10_3, ↓hX.g10_4, ↓hX.g10_5, ↓hX.g10_6, ↓hX.g10_7, ↓hX.g10_8, ↓hX.g10_9, ↓hp.g0, ↓hp.g1, ↓hp.g2, ↓hp.g3, ↓hp.g4, ↓hp.g5, ↓hp.g6, ↓hp.g7, ↓hp.g8, ↓hp.g9, ↓hp.gb, hp.gb, ↓hbm.g0, ↓hbm.g1, ↓hbm.g2, ↓hbm.g3, ↓hbm.g4, ↓hbm.g5, ↓gp, c11, gpos, e1, hls, p3, e2, hb20, f16, h24, hmm.1, hm24, p1, h61, ek, g13]
      dsimp only
      rw [this]
      exact e'
end
