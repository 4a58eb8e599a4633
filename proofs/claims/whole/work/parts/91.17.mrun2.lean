-- deps: 91.00.run 91.01.run2 91.02.run3 91.03.run4 91.04.run5 91.05.run6 91.06.crun 91.07.crun2 91.08.crun3 91.09.crun4 91.10.crun5 91.11.crun6 91.12.crun7 91.13.crun8 91.14.crun9 91.15.crun10 91.16.mrun
/-! a run: the reference's machine, objects, raising, parts -/
section
variable {P : z_Pg} {h h' : y_Qh} {k0 : Nat} {n : Nat} {out : y_V} {a : y_Ac} {s : List y_Ac} {S : z_S} {m : z_m} {b : Nat} {B : Int32}
def y_rG (m : z_m) (b : Nat) (P : z_Pg) : Prop := z_mb m b P ∧ z_mLT m P
theorem y_rG.fr {m' : z_m} (hG : y_rG m b P) (h : y_rR m m') : y_rG m' b P := ⟨z_mb_fr (h.1 2391 (by decide) (by decide)) hG.1, z_mLT_fr (fun a x y => h.1 a (by omega) (by omega)) hG.2⟩
/-- makeObject -/
theorem f241_r (hM : z_MS S) (hw : z_wf P) (hB : B = nI b) (hG : z_mb m b P) {c : Nat} (hc : c < z_nc P) (hO : y_rO m h) (hn : y_qn h ≤ 500) : ∃ m', f241 2390 B (nI c) (z_hp S m) = some (nI (y_qn h), z_hp S m') ∧ y_rO m' (y_new P h c) ∧ (∀ j, j ≠ 29 → m' 2390 j = m 2390 j) ∧ ∀ a, a ≠ 2390 → a ≠ 2413 → a ≠ 2414 → a ≠ 2415 → m' a = m a := by
  have h6 := hw.1.1
  obtain ⟨o29, oo⟩ := hO
  have hn2 : y_qn h < 520 := by omega
  have key := z_loopI (f := fun s => f241_12b (s.1) (s.2.1) (s.2.2.1) (s.2.2.2)) (S := S) (fun N st m' => ∃ j, N = 16 - j ∧ j ≤ 16 ∧ st = (2390, B, nI c, nI j) ∧ m' 2413 (y_qn h) = nI c ∧ (∀ i, i < j → m' 2414 (16 * y_qn h + i) = (if y_isN P c i = true then 2 else 0) ∧ m' 2415 (16 * y_qn h + i) = 0) ∧ (∀ i, (i < 16 * y_qn h ∨ 16 * y_qn h + 16 ≤ i) → m' 2414 i = m 2414 i ∧ m' 2415 i = m 2415 i) ∧ (∀ i, i ≠ y_qn h → m' 2413 i = m 2413 i) ∧ ∀ a, a ≠ 2413 → a ≠ 2414 → a ≠ 2415 → m' a = m a) (fun r m' => r = nI (y_qn h) ∧ m' 2390 29 = nI (y_qn h + 1) ∧ m' 2413 (y_qn h) = nI c ∧ (∀ i, i < 16 → m' 2414 (16 * y_qn h + i) = (if y_isN P c i = true then 2 else 0) ∧ m' 2415 (16 * y_qn h + i) = 0) ∧ (∀ i, (i < 16 * y_qn h ∨ 16 * y_qn h + 16 ≤ i) → m' 2414 i = m 2414 i ∧ m' 2415 i = m 2415 i) ∧ (∀ i, i ≠ y_qn h → m' 2413 i = m 2413 i) ∧ (∀ j, j ≠ 29 → m' 2390 j = m 2390 j) ∧ ∀ a, a ≠ 2390 → a ≠ 2413 → a ≠ 2414 → a ≠ 2415 → m' a = m a) ?_ 1000000 16 (2390, B, nI c, 0) (z_up m 2413 (y_qn h) (nI c)) ⟨0, rfl, by decide, rfl, z_up_s _ _ _ _, fun i hi => absurd hi (Nat.not_lt_zero _), fun i _ => by rw [z_up_row (by decide), z_up_row (by decide)]; exact ⟨rfl, rfl⟩, fun i hi => z_up_b hi, fun a x _ _ => z_up_row x⟩ (by decide)
  · obtain ⟨r, m', e, rfl, g1, g2, g3, g4, g5, g6, g7⟩ := key
    refine ⟨m', ?_, ⟨g1, fun o ho => ?_⟩, g6, g7⟩
    · unfold f241
      have e3 : f241_12 2390 B (nI c) 0 (z_hp S (z_up m 2413 (y_qn h) (nI c))) = some (nI (y_qn h), z_hp S m') := e
      simp (disch := ((try simp only [true_or, or_true, hM.k, hM.k2391, hM.k2392, hM.k2393, hM.k2394, hM.k2395, hM.k2396, hM.k2397, hM.k2398, hM.k2399, hM.k2400, hM.k2401, hM.k2402, hM.k2403, hM.k2404, hM.k2405, hM.k2406, hM.k2407, hM.k2408, hM.k2409, hM.k2410, hM.k2411, hM.k2412, hM.k2413, hM.k2414, hM.k2415, hM.k2416, hM.k2417, hM.k2418, hM.k2419, hM.k2420, hM.k2421, hM.k2422, hM.k2423, hM.l2391, hM.l2392, hM.l2393, hM.l2394, hM.l2395, hM.l2396, hM.l2397, hM.l2398, hM.l2399, hM.l2400, hM.l2401, hM.l2402, hM.l2403, hM.l2404, hM.l2405, hM.l2406, hM.l2407, hM.l2408, hM.l2409, hM.l2410, hM.l2411, hM.l2412, hM.l2413, hM.l2414, hM.l2415, hM.l2416, hM.l2417, hM.l2418, hM.l2419, hM.l2420, hM.l2421, hM.l2422, hM.l2423]) <;> (try omega))) only [↓reduceIte, ↓z_ite, ↓zR, ↓zB_R, ↓zB_B, ↓zB_ite, ↓zB_gI, ↓zB_pI, ↓zB_pZ, ↓zB_aK, ↓zB_G, ↓zB_lI, ↓zB_lZ, ↓zB_wI, ↓zB_wZ, ↓zB_lIl, ↓zB_wIl, zB_pI, zB_pZ, zB_lI, zB_lZ, zB_wI, zB_wZ, z_addl, z_ladd, z_mull, z_lmul, nI_add, z_subl, Nat.not_lt_zero, z_10, z_01, z_bitc, z_b0, z_b1, ↓zB_Gb, ↓zB_G0, ↓zB_G1, z_eql, z_leq, z_ltl, z_llt, z_eq, z_lt, z_m1lt, hM.k, hM.k2391, hM.k2392, hM.k2393, hM.k2394, hM.k2395, hM.k2396, hM.k2397, hM.k2398, hM.k2399, hM.k2400, hM.k2401, hM.k2402, hM.k2403, hM.k2404, hM.k2405, hM.k2406, hM.k2407, hM.k2408, hM.k2409, hM.k2410, hM.k2411, hM.k2412, hM.k2413, hM.k2414, hM.k2415, hM.k2416, hM.k2417, hM.k2418, hM.k2419, hM.k2420, hM.k2421, hM.k2422, hM.k2423, hM.l2391, hM.l2392, hM.l2393, hM.l2394, hM.l2395, hM.l2396, hM.l2397, hM.l2398, hM.l2399, hM.l2400, hM.l2401, hM.l2402, hM.l2403, hM.l2404, hM.l2405, hM.l2406, hM.l2407, hM.l2408, hM.l2409, hM.l2410, hM.l2411, hM.l2412, hM.l2413, hM.l2414, hM.l2415, hM.l2416, hM.l2417, hM.l2418, hM.l2419, hM.l2420, hM.l2421, hM.l2422, hM.l2423, ↓hM.g1, ↓hM.g5, ↓hM.g6, ↓hM.g7, ↓hM.g8, ↓hM.g9, ↓hM.g10, ↓hM.g11, ↓hM.g12, ↓hM.g13, ↓hM.g14, ↓hM.g16, ↓hM.g17, ↓hM.g18, ↓hM.g19, ↓hM.g21, ↓hM.g22, ↓hM.g23, ↓hM.g24, ↓hM.g25, ↓hM.g27, ↓hM.g28, ↓hM.g30, ↓hM.g31, ↓hM.g32, ↓hM.g36, ↓hM.g37, ↓hM.g39, ↓hM.g40, ↓hM.g41, ↓hM.g43, ↓hM.g45, ↓hM.g46, o29, hn2, e3]
    · have ho : o < y_qn h + 1 := ho
      rcases Nat.lt_or_ge o (y_qn h) with g | g
      · have e1 : y_qc (y_new P h c) o = y_qc h o := if_neg (by omega)
        have e2 : ∀ n, y_qf (y_new P h c) o n = y_qf h o n := fun n => if_neg (by omega)
        rw [e1]
        refine ⟨by rw [g5 o (by omega)]; exact (oo o g).1, fun n hn => ?_⟩
        rw [e2, (g4 _ (by omega)).1, (g4 _ (by omega)).2]
        exact (oo o g).2 n hn
      · obtain rfl : o = y_qn h := by omega
        have e1 : y_qc (y_new P h c) (y_qn h) = c := if_pos rfl
        have e2 : ∀ n, y_qf (y_new P h c) (y_qn h) n = (if y_isN P c n = true then 2 else 0, 0) := fun n => if_pos rfl
        rw [e1]
        refine ⟨g2, fun n hn => ?_⟩
        rw [e2]
        exact g3 n hn
  · rintro N st m1 ⟨j, rfl, hj, rfl, g2, g3, g4, g5, g7⟩
    have o29' : m1 2390 29 = nI (y_qn h) := by rw [g7 2390 (by decide) (by decide) (by decide)]; exact o29
    dsimp only
    rcases Nat.eq_or_lt_of_le hj with hj2 | hj2
    · subst hj2
      refine Or.inr ⟨_, z_up m1 2390 29 (nI (y_qn h + 1)), ?_, rfl, z_up_s _ _ _ _, by rw [z_up_row (by decide)]; exact g2, fun i hi => by rw [z_up_row (by decide), z_up_row (by decide)]; exact g3 i hi, fun i hi => by rw [z_up_row (by decide), z_up_row (by decide)]; exact g4 i hi, fun i hi => by rw [z_up_row (by decide)]; exact g5 i hi, fun i hi => by rw [z_up_b hi, g7 2390 (by decide) (by decide) (by decide)], fun a x y z w => by rw [z_up_row x]; exact g7 a y z w⟩
      have r1 : z_up m1 2390 29 (nI (y_qn h + 1)) 2390 29 = nI (y_qn h + 1) := z_up_s _ _ _ _
      have r2 : nI (y_qn h + 1) - 1 = nI (y_qn h) := z_subl (k := 1) (by omega)
      unfold f241_12b f241_99
      simp (disch := ((try simp only [true_or, or_true, hM.k, hM.k2391, hM.k2392, hM.k2393, hM.k2394, hM.k2395, hM.k2396, hM.k2397, hM.k2398, hM.k2399, hM.k2400, hM.k2401, hM.k2402, hM.k2403, hM.k2404, hM.k2405, hM.k2406, hM.k2407, hM.k2408, hM.k2409, hM.k2410, hM.k2411, hM.k2412, hM.k2413, hM.k2414, hM.k2415, hM.k2416, hM.k2417, hM.k2418, hM.k2419, hM.k2420, hM.k2421, hM.k2422, hM.k2423, hM.l2391, hM.l2392, hM.l2393, hM.l2394, hM.l2395, hM.l2396, hM.l2397, hM.l2398, hM.l2399, hM.l2400, hM.l2401, hM.l2402, hM.l2403, hM.l2404, hM.l2405, hM.l2406, hM.l2407, hM.l2408, hM.l2409, hM.l2410, hM.l2411, hM.l2412, hM.l2413, hM.l2414, hM.l2415, hM.l2416, hM.l2417, hM.l2418, hM.l2419, hM.l2420, hM.l2421, hM.l2422, hM.l2423]) <;> (try omega))) only [↓reduceIte, ↓z_ite, ↓zR, ↓zB_R, ↓zB_B, ↓zB_ite, ↓zB_gI, ↓zB_pI, ↓zB_pZ, ↓zB_aK, ↓zB_G, ↓zB_lI, ↓zB_lZ, ↓zB_wI, ↓zB_wZ, ↓zB_lIl, ↓zB_wIl, zB_pI, zB_pZ, zB_lI, zB_lZ, zB_wI, zB_wZ, z_addl, z_ladd, z_mull, z_lmul, nI_add, z_subl, Nat.not_lt_zero, z_10, z_01, z_bitc, z_b0, z_b1, ↓zB_Gb, ↓zB_G0, ↓zB_G1, z_eql, z_leq, z_ltl, z_llt, z_eq, z_lt, z_m1lt, hM.k, hM.k2391, hM.k2392, hM.k2393, hM.k2394, hM.k2395, hM.k2396, hM.k2397, hM.k2398, hM.k2399, hM.k2400, hM.k2401, hM.k2402, hM.k2403, hM.k2404, hM.k2405, hM.k2406, hM.k2407, hM.k2408, hM.k2409, hM.k2410, hM.k2411, hM.k2412, hM.k2413, hM.k2414, hM.k2415, hM.k2416, hM.k2417, hM.k2418, hM.k2419, hM.k2420, hM.k2421, hM.k2422, hM.k2423, hM.l2391, hM.l2392, hM.l2393, hM.l2394, hM.l2395, hM.l2396, hM.l2397, hM.l2398, hM.l2399, hM.l2400, hM.l2401, hM.l2402, hM.l2403, hM.l2404, hM.l2405, hM.l2406, hM.l2407, hM.l2408, hM.l2409, hM.l2410, hM.l2411, hM.l2412, hM.l2413, hM.l2414, hM.l2415, hM.l2416, hM.l2417, hM.l2418, hM.l2419, hM.l2420, hM.l2421, hM.l2422, hM.l2423, ↓hM.g1, ↓hM.g5, ↓hM.g6, ↓hM.g7, ↓hM.g8, ↓hM.g9, ↓hM.g10, ↓hM.g11, ↓hM.g12, ↓hM.g13, ↓hM.g14, ↓hM.g16, ↓hM.g17, ↓hM.g18, ↓hM.g19, ↓hM.g21, ↓hM.g22, ↓hM.g23, ↓hM.g24, ↓hM.g25, ↓hM.g27, ↓hM.g28, ↓hM.g30, ↓hM.g31, ↓hM.g32, ↓hM.g36, ↓hM.g37, ↓hM.g39, ↓hM.g40, ↓hM.g41, ↓hM.g43, ↓hM.g45, ↓hM.g46, o29', Nat.lt_irrefl, r1, r2]
    · have hb1 : z_mb m1 b P := z_mb_fr (g7 2391 (by decide) (by decide) (by decide)) hG
      have e211 := f211_sp (S := S) hb1 hM hw.1 hB hc hj2
      have hix : 16 * y_qn h + j < 8320 := by omega
      have idx : 16 * nI (y_qn h) + nI j = nI (16 * y_qn h + j) := by rw [show 16 * nI (y_qn h) = nI (16 * y_qn h) from z_lmul _ 16, nI_add]
      have wr : ∀ v : Int32, (v = if y_isN P c j = true then 2 else 0) → f241_12b 2390 B (nI c) (nI j) (z_hp S m1) = some (.inl (2390, B, nI c, nI (j + 1)), z_hp S (z_up (z_up m1 2414 (16 * y_qn h + j) v) 2415 (16 * y_qn h + j) 0)) → (∃ s' m' n', f241_12b 2390 B (nI c) (nI j) (z_hp S m1) = some (.inl s', z_hp S m') ∧ n' < 16 - j ∧ ∃ j', n' = 16 - j' ∧ j' ≤ 16 ∧ s' = (2390, B, nI c, nI j') ∧ m' 2413 (y_qn h) = nI c ∧ (∀ i, i < j' → m' 2414 (16 * y_qn h + i) = (if y_isN P c i = true then 2 else 0) ∧ m' 2415 (16 * y_qn h + i) = 0) ∧ (∀ i, (i < 16 * y_qn h ∨ 16 * y_qn h + 16 ≤ i) → m' 2414 i = m 2414 i ∧ m' 2415 i = m 2415 i) ∧ (∀ i, i ≠ y_qn h → m' 2413 i = m 2413 i) ∧ ∀ a, a ≠ 2413 → a ≠ 2414 → a ≠ 2415 → m' a = m a) := fun v hv e => ⟨_, _, 16 - (j + 1), e, by omega, j + 1, rfl, hj2, rfl, by rw [z_up_row (by decide), z_up_row (by decide)]; exact g2, fun i hi => by
        rcases Nat.lt_or_ge i j with w | w
        · rw [z_up_row (by decide), z_up_b (by omega), z_up_b (by omega), z_up_row (by decide)]; exact g3 i w
        · obtain rfl : i = j := by omega
          rw [z_up_row (by decide), z_up_s, z_up_s, hv]; exact ⟨rfl, rfl⟩, fun i hi => by rw [z_up_row (by decide), z_up_b (by omega), z_up_b (by omega), z_up_row (by decide)]; exact g4 i hi, fun i hi => by rw [z_up_row (by decide), z_up_row (by decide)]; exact g5 i hi, fun a x y z => by rw [z_up_row z, z_up_row y]; exact g7 a x y z⟩
      cases hf : z_fc P c j with
      | none =>
        rw [hf] at e211
        have e211 : f211 2390 B (nI c) (nI j) (z_hp S m1) = some (-1, z_hp S m1) := e211
        refine Or.inl (wr 0 (by unfold y_isN; rw [hf]; rfl) ?_)
        unfold f241_12b f241_51 f241_52 f241_77
        simp (disch := ((try simp only [true_or, or_true, hM.k, hM.k2391, hM.k2392, hM.k2393, hM.k2394, hM.k2395, hM.k2396, hM.k2397, hM.k2398, hM.k2399, hM.k2400, hM.k2401, hM.k2402, hM.k2403, hM.k2404, hM.k2405, hM.k2406, hM.k2407, hM.k2408, hM.k2409, hM.k2410, hM.k2411, hM.k2412, hM.k2413, hM.k2414, hM.k2415, hM.k2416, hM.k2417, hM.k2418, hM.k2419, hM.k2420, hM.k2421, hM.k2422, hM.k2423, hM.l2391, hM.l2392, hM.l2393, hM.l2394, hM.l2395, hM.l2396, hM.l2397, hM.l2398, hM.l2399, hM.l2400, hM.l2401, hM.l2402, hM.l2403, hM.l2404, hM.l2405, hM.l2406, hM.l2407, hM.l2408, hM.l2409, hM.l2410, hM.l2411, hM.l2412, hM.l2413, hM.l2414, hM.l2415, hM.l2416, hM.l2417, hM.l2418, hM.l2419, hM.l2420, hM.l2421, hM.l2422, hM.l2423]) <;> (try omega))) only [↓reduceIte, ↓z_ite, ↓zR, ↓zB_R, ↓zB_B, ↓zB_ite, ↓zB_gI, ↓zB_pI, ↓zB_pZ, ↓zB_aK, ↓zB_G, ↓zB_lI, ↓zB_lZ, ↓zB_wI, ↓zB_wZ, ↓zB_lIl, ↓zB_wIl, zB_pI, zB_pZ, zB_lI, zB_lZ, zB_wI, zB_wZ, z_addl, z_ladd, z_mull, z_lmul, nI_add, z_subl, Nat.not_lt_zero, z_10, z_01, z_bitc, z_b0, z_b1, ↓zB_Gb, ↓zB_G0, ↓zB_G1, z_eql, z_leq, z_ltl, z_llt, z_eq, z_lt, z_m1lt, hM.k, hM.k2391, hM.k2392, hM.k2393, hM.k2394, hM.k2395, hM.k2396, hM.k2397, hM.k2398, hM.k2399, hM.k2400, hM.k2401, hM.k2402, hM.k2403, hM.k2404, hM.k2405, hM.k2406, hM.k2407, hM.k2408, hM.k2409, hM.k2410, hM.k2411, hM.k2412, hM.k2413, hM.k2414, hM.k2415, hM.k2416, hM.k2417, hM.k2418, hM.k2419, hM.k2420, hM.k2421, hM.k2422, hM.k2423, hM.l2391, hM.l2392, hM.l2393, hM.l2394, hM.l2395, hM.l2396, hM.l2397, hM.l2398, hM.l2399, hM.l2400, hM.l2401, hM.l2402, hM.l2403, hM.l2404, hM.l2405, hM.l2406, hM.l2407, hM.l2408, hM.l2409, hM.l2410, hM.l2411, hM.l2412, hM.l2413, hM.l2414, hM.l2415, hM.l2416, hM.l2417, hM.l2418, hM.l2419, hM.l2420, hM.l2421, hM.l2422, hM.l2423, ↓hM.g1, ↓hM.g5, ↓hM.g6, ↓hM.g7, ↓hM.g8, ↓hM.g9, ↓hM.g10, ↓hM.g11, ↓hM.g12, ↓hM.g13, ↓hM.g14, ↓hM.g16, ↓hM.g17, ↓hM.g18, ↓hM.g19, ↓hM.g21, ↓hM.g22, ↓hM.g23, ↓hM.g24, ↓hM.g25, ↓hM.g27, ↓hM.g28, ↓hM.g30, ↓hM.g31, ↓hM.g32, ↓hM.g36, ↓hM.g37, ↓hM.g39, ↓hM.g40, ↓hM.g41, ↓hM.g43, ↓hM.g45, ↓hM.g46, hj2, ↓zB_c e211, zB_c e211, o29', idx, hix, y_u14]
      | some d =>
        rw [hf] at e211
        have e211 : f211 2390 B (nI c) (nI j) (z_hp S m1) = some (nI d, z_hp S m1) := e211
        obtain ⟨d1, _, d3⟩ := z_fc_some hf
        have hdn : d < z_nc P := by omega
        have e210 := f210_sp (S := S) hb1 hM hB hdn hj2
        have hne : ¬ nI d = -1 := z_nI_m1 (by omega)
        have eN : y_isN P c j = !(z_fld P d j - 2 == -1) := by unfold y_isN; rw [hf]
        by_cases gt : z_fld P d j - 2 = -1
        · refine Or.inl (wr 0 (by rw [eN, gt]; rfl) ?_)
          unfold f241_12b f241_51 f241_52 f241_77
          simp (disch := ((try simp only [true_or, or_true, hM.k, hM.k2391, hM.k2392, hM.k2393, hM.k2394, hM.k2395, hM.k2396, hM.k2397, hM.k2398, hM.k2399, hM.k2400, hM.k2401, hM.k2402, hM.k2403, hM.k2404, hM.k2405, hM.k2406, hM.k2407, hM.k2408, hM.k2409, hM.k2410, hM.k2411, hM.k2412, hM.k2413, hM.k2414, hM.k2415, hM.k2416, hM.k2417, hM.k2418, hM.k2419, hM.k2420, hM.k2421, hM.k2422, hM.k2423, hM.l2391, hM.l2392, hM.l2393, hM.l2394, hM.l2395, hM.l2396, hM.l2397, hM.l2398, hM.l2399, hM.l2400, hM.l2401, hM.l2402, hM.l2403, hM.l2404, hM.l2405, hM.l2406, hM.l2407, hM.l2408, hM.l2409, hM.l2410, hM.l2411, hM.l2412, hM.l2413, hM.l2414, hM.l2415, hM.l2416, hM.l2417, hM.l2418, hM.l2419, hM.l2420, hM.l2421, hM.l2422, hM.l2423]) <;> (try omega))) only [↓reduceIte, ↓z_ite, ↓zR, ↓zB_R, ↓zB_B, ↓zB_ite, ↓zB_gI, ↓zB_pI, ↓zB_pZ, ↓zB_aK, ↓zB_G, ↓zB_lI, ↓zB_lZ, ↓zB_wI, ↓zB_wZ, ↓zB_lIl, ↓zB_wIl, zB_pI, zB_pZ, zB_lI, zB_lZ, zB_wI, zB_wZ, z_addl, z_ladd, z_mull, z_lmul, nI_add, z_subl, Nat.not_lt_zero, z_10, z_01, z_bitc, z_b0, z_b1, ↓zB_Gb, ↓zB_G0, ↓zB_G1, z_eql, z_leq, z_ltl, z_llt, z_eq, z_lt, z_m1lt, hM.k, hM.k2391, hM.k2392, hM.k2393, hM.k2394, hM.k2395, hM.k2396, hM.k2397, hM.k2398, hM.k2399, hM.k2400, hM.k2401, hM.k2402, hM.k2403, hM.k2404, hM.k2405, hM.k2406, hM.k2407, hM.k2408, hM.k2409, hM.k2410, hM.k2411, hM.k2412, hM.k2413, hM.k2414, hM.k2415, hM.k2416, hM.k2417, hM.k2418, hM.k2419, hM.k2420, hM.k2421, hM.k2422, hM.k2423, hM.l2391, hM.l2392, hM.l2393, hM.l2394, hM.l2395, hM.l2396, hM.l2397, hM.l2398, hM.l2399, hM.l2400, hM.l2401, hM.l2402, hM.l2403, hM.l2404, hM.l2405, hM.l2406, hM.l2407, hM.l2408, hM.l2409, hM.l2410, hM.l2411, hM.l2412, hM.l2413, hM.l2414, hM.l2415, hM.l2416, hM.l2417, hM.l2418, hM.l2419, hM.l2420, hM.l2421, hM.l2422, hM.l2423, ↓hM.g1, ↓hM.g5, ↓hM.g6, ↓hM.g7, ↓hM.g8, ↓hM.g9, ↓hM.g10, ↓hM.g11, ↓hM.g12, ↓hM.g13, ↓hM.g14, ↓hM.g16, ↓hM.g17, ↓hM.g18, ↓hM.g19, ↓hM.g21, ↓hM.g22, ↓hM.g23, ↓hM.g24, ↓hM.g25, ↓hM.g27, ↓hM.g28, ↓hM.g30, ↓hM.g31, ↓hM.g32, ↓hM.g36, ↓hM.g37, ↓hM.g39, ↓hM.g40, ↓hM.g41, ↓hM.g43, ↓hM.g45, ↓hM.g46, hj2, ↓zB_c e211, zB_c e211, hne, ↓zB_c e210, zB_c e210, gt, o29', idx, hix, y_u14]
        · refine Or.inl (wr 2 (by rw [eN, show (z_fld P d j - 2 == -1) = false by simpa using gt]; rfl) ?_)
          unfold f241_12b f241_52 f241_77
          simp (disch := ((try simp only [true_or, or_true, hM.k, hM.k2391, hM.k2392, hM.k2393, hM.k2394, hM.k2395, hM.k2396, hM.k2397, hM.k2398, hM.k2399, hM.k2400, hM.k2401, hM.k2402, hM.k2403, hM.k2404, hM.k2405, hM.k2406, hM.k2407, hM.k2408, hM.k2409, hM.k2410, hM.k2411, hM.k2412, hM.k2413, hM.k2414, hM.k2415, hM.k2416, hM.k2417, hM.k2418, hM.k2419, hM.k2420, hM.k2421, hM.k2422, hM.k2423, hM.l2391, hM.l2392, hM.l2393, hM.l2394, hM.l2395, hM.l2396, hM.l2397, hM.l2398, hM.l2399, hM.l2400, hM.l2401, hM.l2402, hM.l2403, hM.l2404, hM.l2405, hM.l2406, hM.l2407, hM.l2408, hM.l2409, hM.l2410, hM.l2411, hM.l2412, hM.l2413, hM.l2414, hM.l2415, hM.l2416, hM.l2417, hM.l2418, hM.l2419, hM.l2420, hM.l2421, hM.l2422, hM.l2423]) <;> (try omega))) only [↓reduceIte, ↓z_ite, ↓zR, ↓zB_R, ↓zB_B, ↓zB_ite, ↓zB_gI, ↓zB_pI, ↓zB_pZ, ↓zB_aK, ↓zB_G, ↓zB_lI, ↓zB_lZ, ↓zB_wI, ↓zB_wZ, ↓zB_lIl, ↓zB_wIl, zB_pI, zB_pZ, zB_lI, zB_lZ, zB_wI, zB_wZ, z_addl, z_ladd, z_mull, z_lmul, nI_add, z_subl, Nat.not_lt_zero, z_10, z_01, z_bitc, z_b0, z_b1, ↓zB_Gb, ↓zB_G0, ↓zB_G1, z_eql, z_leq, z_ltl, z_llt, z_eq, z_lt, z_m1lt, hM.k, hM.k2391, hM.k2392, hM.k2393, hM.k2394, hM.k2395, hM.k2396, hM.k2397, hM.k2398, hM.k2399, hM.k2400, hM.k2401, hM.k2402, hM.k2403, hM.k2404, hM.k2405, hM.k2406, hM.k2407, hM.k2408, hM.k2409, hM.k2410, hM.k2411, hM.k2412, hM.k2413, hM.k2414, hM.k2415, hM.k2416, hM.k2417, hM.k2418, hM.k2419, hM.k2420, hM.k2421, hM.k2422, hM.k2423, hM.l2391, hM.l2392, hM.l2393, hM.l2394, hM.l2395, hM.l2396, hM.l2397, hM.l2398, hM.l2399, hM.l2400, hM.l2401, hM.l2402, hM.l2403, hM.l2404, hM.l2405, hM.l2406, hM.l2407, hM.l2408, hM.l2409, hM.l2410, hM.l2411, hM.l2412, hM.l2413, hM.l2414, hM.l2415, hM.l2416, hM.l2417, hM.l2418, hM.l2419, hM.l2420, hM.l2421, hM.l2422, hM.l2423, ↓hM.g1, ↓hM.g5, ↓hM.g6, ↓hM.g7, ↓hM.g8, ↓hM.g9, ↓hM.g10, ↓hM.g11, ↓hM.g12, ↓hM.g13, ↓hM.g14, ↓hM.g16, ↓hM.g17, ↓hM.g18, ↓hM.g19, ↓hM.g21, ↓hM.g22, ↓hM.g23, ↓hM.g24, ↓hM.g25, ↓hM.g27, ↓hM.g28, ↓hM.g30, ↓hM.g31, ↓hM.g32, ↓hM.g36, ↓hM.g37, ↓hM.g39, ↓hM.g40, ↓hM.g41, ↓hM.g43, ↓hM.g45, ↓hM.g46, hj2, ↓zB_c e211, zB_c e211, hne, ↓zB_c e210, zB_c e210, gt, o29', idx, hix, y_u14]
theorem f246_r (f : Nat) {sl : Nat} {x : Int32} {l : Nat} (hl : l ≤ 192) (hf : f < 21) (hh : sl = 1 ∧ x = -1 ∨ sl = 0 ∧ x = -2 ∨ ∃ j, sl = j + 2 ∧ x = nI j ∧ j < l) : f246 2390 (nI f) x (z_hp S m) = some (nI (194 * f + y_sr sl), z_hp S m) ∧ 194 * f + y_sr sl < 4074 := by
  unfold f246 f246_18
  rcases hh with ⟨rfl, rfl⟩ | ⟨rfl, rfl⟩ | ⟨j, rfl, rfl, hj⟩
  · refine ⟨?_, by show 194 * f + 192 < 4074; omega⟩
    rw [if_pos (by decide), show 194 * nI f = nI (194 * f) from z_lmul f 194, show (191 : Int32) - -1 = nI 192 from by decide, nI_add]; rfl
  · refine ⟨?_, by show 194 * f + 193 < 4074; omega⟩
    rw [if_pos (by decide), show 194 * nI f = nI (194 * f) from z_lmul f 194, show (191 : Int32) - -2 = nI 193 from by decide, nI_add]; rfl
  · have e : y_sr (j + 2) = j := by unfold y_sr; rw [if_neg (by omega), if_neg (by omega)]; rfl
    rw [e]
    refine ⟨?_, by omega⟩
    rw [if_neg (nI_pos (by omega)), show 194 * nI f = nI (194 * f) from z_lmul f 194, nI_add]; rfl
/-- raiseIt -/
theorem f244_r (hP : y_PG P) (hM : z_MS S) (hB : B = nI b) {F : Nat} {e w : Int32} {L : Int32} (hL : (L = 1 ∧ e = 4 ∧ w = 0) ∨ (L = 0 ∧ e = 3)) {x : Int32} (hx : L = 0 → x = w) : ∀ (s : List y_Ac) (m : z_m), y_rG m b P → m 2390 20 = nI s.length → m 2390 33 = nI n → m 2390 34 = -1 → m 2390 35 = 0 → y_rS P h m s → y_rO m h → y_rF m h F → y_HI P h F → (∀ c ∈ s, c.1 ≤ F ∧ c.2.1 < (y_l P h c).length ∧ c.2.2.1 ≤ 4) → s.length ≤ 500 → n ≤ 500 → F < 20 → ∀ N, s.length < N → ∃ m', m_W (fun s => f244b (s.1) (s.2.1) (s.2.2.1) (s.2.2.2)) N (2390, B, L, x) (z_hp S m) = some ((), z_hp S m') ∧ y_rX P m' (y_ra P s h n out e w) ∧ y_rR m m'
  | [], m, _, _, _, _, _, _, _, _, _, _, _, _, _, 0, hN => by omega
  | c :: s, m, _, _, _, _, _, _, _, _, _, _, _, _, _, 0, hN => by omega
  | [], m, hG, c20, c33, c34, c35, hS, hO, hF, hI, hs, hl, hn, h20, N + 1, hN => by
    have he : ¬ e = -1 := by rcases hL with ⟨_, g, _⟩ | ⟨_, g⟩ <;> rw [g] <;> decide
    have c20 : m 2390 20 = nI 0 := c20
    have g0 : ¬ (0 : Int32) < nI 0 := by decide
    refine ⟨z_up (z_up m 2390 34 e) 2390 35 w, ?_, ⟨by rw [z_up_b (by decide), z_up_s]; rfl, z_up_s _ _ _ _, by rw [z_up_b (by decide), z_up_b (by decide)]; exact c33, fun q => absurd q he⟩, ⟨fun a _ y => by rw [z_up_row y, z_up_row y], fun j _ _ _ _ _ y z => by rw [z_up_b z, z_up_b y]⟩⟩
    unfold m_W m_B
    have : f244b 2390 B L x (z_hp S m) = some (.inr (), z_hp S (z_up (z_up m 2390 34 e) 2390 35 w)) := by
      unfold f244b f244_130 f244_140 f244_153
      rcases hL with ⟨g1, g2, g3⟩ | ⟨g1, g2⟩
      · subst g1 g2 g3
        simp (disch := ((try simp only [true_or, or_true, hM.k, hM.k2391, hM.k2392, hM.k2393, hM.k2394, hM.k2395, hM.k2396, hM.k2397, hM.k2398, hM.k2399, hM.k2400, hM.k2401, hM.k2402, hM.k2403, hM.k2404, hM.k2405, hM.k2406, hM.k2407, hM.k2408, hM.k2409, hM.k2410, hM.k2411, hM.k2412, hM.k2413, hM.k2414, hM.k2415, hM.k2416, hM.k2417, hM.k2418, hM.k2419, hM.k2420, hM.k2421, hM.k2422, hM.k2423, hM.l2391, hM.l2392, hM.l2393, hM.l2394, hM.l2395, hM.l2396, hM.l2397, hM.l2398, hM.l2399, hM.l2400, hM.l2401, hM.l2402, hM.l2403, hM.l2404, hM.l2405, hM.l2406, hM.l2407, hM.l2408, hM.l2409, hM.l2410, hM.l2411, hM.l2412, hM.l2413, hM.l2414, hM.l2415, hM.l2416, hM.l2417, hM.l2418, hM.l2419, hM.l2420, hM.l2421, hM.l2422, hM.l2423]) <;> (try omega))) only [↓reduceIte, ↓z_ite, ↓zR, ↓zB_R, ↓zB_B, ↓zB_ite, ↓zB_gI, ↓zB_pI, ↓zB_pZ, ↓zB_aK, ↓zB_G, ↓zB_lI, ↓zB_lZ, ↓zB_wI, ↓zB_wZ, ↓zB_lIl, ↓zB_wIl, zB_pI, zB_pZ, zB_lI, zB_lZ, zB_wI, zB_wZ, z_addl, z_ladd, z_mull, z_lmul, nI_add, z_subl, Nat.not_lt_zero, z_10, z_01, z_bitc, z_b0, z_b1, ↓zB_Gb, ↓zB_G0, ↓zB_G1, z_eql, z_leq, z_ltl, z_llt, z_eq, z_lt, z_m1lt, hM.k, hM.k2391, hM.k2392, hM.k2393, hM.k2394, hM.k2395, hM.k2396, hM.k2397, hM.k2398, hM.k2399, hM.k2400, hM.k2401, hM.k2402, hM.k2403, hM.k2404, hM.k2405, hM.k2406, hM.k2407, hM.k2408, hM.k2409, hM.k2410, hM.k2411, hM.k2412, hM.k2413, hM.k2414, hM.k2415, hM.k2416, hM.k2417, hM.k2418, hM.k2419, hM.k2420, hM.k2421, hM.k2422, hM.k2423, hM.l2391, hM.l2392, hM.l2393, hM.l2394, hM.l2395, hM.l2396, hM.l2397, hM.l2398, hM.l2399, hM.l2400, hM.l2401, hM.l2402, hM.l2403, hM.l2404, hM.l2405, hM.l2406, hM.l2407, hM.l2408, hM.l2409, hM.l2410, hM.l2411, hM.l2412, hM.l2413, hM.l2414, hM.l2415, hM.l2416, hM.l2417, hM.l2418, hM.l2419, hM.l2420, hM.l2421, hM.l2422, hM.l2423, ↓hM.g1, ↓hM.g5, ↓hM.g6, ↓hM.g7, ↓hM.g8, ↓hM.g9, ↓hM.g10, ↓hM.g11, ↓hM.g12, ↓hM.g13, ↓hM.g14, ↓hM.g16, ↓hM.g17, ↓hM.g18, ↓hM.g19, ↓hM.g21, ↓hM.g22, ↓hM.g23, ↓hM.g24, ↓hM.g25, ↓hM.g27, ↓hM.g28, ↓hM.g30, ↓hM.g31, ↓hM.g32, ↓hM.g36, ↓hM.g37, ↓hM.g39, ↓hM.g40, ↓hM.g41, ↓hM.g43, ↓hM.g45, ↓hM.g46, c20, g0]
      · have := hx g1
        subst this g1 g2
        simp (disch := ((try simp only [true_or, or_true, hM.k, hM.k2391, hM.k2392, hM.k2393, hM.k2394, hM.k2395, hM.k2396, hM.k2397, hM.k2398, hM.k2399, hM.k2400, hM.k2401, hM.k2402, hM.k2403, hM.k2404, hM.k2405, hM.k2406, hM.k2407, hM.k2408, hM.k2409, hM.k2410, hM.k2411, hM.k2412, hM.k2413, hM.k2414, hM.k2415, hM.k2416, hM.k2417, hM.k2418, hM.k2419, hM.k2420, hM.k2421, hM.k2422, hM.k2423, hM.l2391, hM.l2392, hM.l2393, hM.l2394, hM.l2395, hM.l2396, hM.l2397, hM.l2398, hM.l2399, hM.l2400, hM.l2401, hM.l2402, hM.l2403, hM.l2404, hM.l2405, hM.l2406, hM.l2407, hM.l2408, hM.l2409, hM.l2410, hM.l2411, hM.l2412, hM.l2413, hM.l2414, hM.l2415, hM.l2416, hM.l2417, hM.l2418, hM.l2419, hM.l2420, hM.l2421, hM.l2422, hM.l2423]) <;> (try omega))) only [↓reduceIte, ↓z_ite, ↓zR, ↓zB_R, ↓zB_B, ↓zB_ite, ↓zB_gI, ↓zB_pI, ↓zB_pZ, ↓zB_aK, ↓zB_G, ↓zB_lI, ↓zB_lZ, ↓zB_wI, ↓zB_wZ, ↓zB_lIl, ↓zB_wIl, zB_pI, zB_pZ, zB_lI, zB_lZ, zB_wI, zB_wZ, z_addl, z_ladd, z_mull, z_lmul, nI_add, z_subl, Nat.not_lt_zero, z_10, z_01, z_bitc, z_b0, z_b1, ↓zB_Gb, ↓zB_G0, ↓zB_G1, z_eql, z_leq, z_ltl, z_llt, z_eq, z_lt, z_m1lt, hM.k, hM.k2391, hM.k2392, hM.k2393, hM.k2394, hM.k2395, hM.k2396, hM.k2397, hM.k2398, hM.k2399, hM.k2400, hM.k2401, hM.k2402, hM.k2403, hM.k2404, hM.k2405, hM.k2406, hM.k2407, hM.k2408, hM.k2409, hM.k2410, hM.k2411, hM.k2412, hM.k2413, hM.k2414, hM.k2415, hM.k2416, hM.k2417, hM.k2418, hM.k2419, hM.k2420, hM.k2421, hM.k2422, hM.k2423, hM.l2391, hM.l2392, hM.l2393, hM.l2394, hM.l2395, hM.l2396, hM.l2397, hM.l2398, hM.l2399, hM.l2400, hM.l2401, hM.l2402, hM.l2403, hM.l2404, hM.l2405, hM.l2406, hM.l2407, hM.l2408, hM.l2409, hM.l2410, hM.l2411, hM.l2412, hM.l2413, hM.l2414, hM.l2415, hM.l2416, hM.l2417, hM.l2418, hM.l2419, hM.l2420, hM.l2421, hM.l2422, hM.l2423, ↓hM.g1, ↓hM.g5, ↓hM.g6, ↓hM.g7, ↓hM.g8, ↓hM.g9, ↓hM.g10, ↓hM.g11, ↓hM.g12, ↓hM.g13, ↓hM.g14, ↓hM.g16, ↓hM.g17, ↓hM.g18, ↓hM.g19, ↓hM.g21, ↓hM.g22, ↓hM.g23, ↓hM.g24, ↓hM.g25, ↓hM.g27, ↓hM.g28, ↓hM.g30, ↓hM.g31, ↓hM.g32, ↓hM.g36, ↓hM.g37, ↓hM.g39, ↓hM.g40, ↓hM.g41, ↓hM.g43, ↓hM.g45, ↓hM.g46, c20, g0]
    dsimp only
    rw [this]; rfl
  | c :: s, m, hG, c20, c33, c34, c35, hS, hO, hF, hI, hs, hl, hn, h20, N + 1, hN => by
    have hw := hP.1.1
    have h24 := hw.2.2.1
    obtain ⟨hcF, hci, hc4⟩ := hs c List.mem_cons_self
    have hmm := hI.1 c.1 hcF
    have hBB := hw.2.2.2.2.1 _ hmm.1
    have hl60 := hP.1.2 _ hmm.1
    have hci : c.2.1 < (z_bd P (y_qm h c.1)).length := hci
    have ek := hG.1.ek (S := S) hM hB hmm.1 hci
    obtain ⟨⟨⟨p1, p2, p3⟩, p4, p5, p6⟩, hSs⟩ := hS
    have c20 : m 2390 20 = nI (s.length + 1) := c20
    have e1 : nI (s.length + 1) - 1 = nI s.length := z_subl (k := 1) (by omega)
    have hl' : s.length + 1 ≤ 500 := hl
    have hls : s.length < 1400 := by omega
    have hc20 : c.1 < 21 := by omega
    have f02 := (hF c.1 hcF).1
    have gpos : (0 : Int32) < nI (s.length + 1) := by
      have : (nI 0 < nI (s.length + 1)) = (0 < s.length + 1) := z_lt (by decide) (by omega)
      rw [show (0 : Int32) = nI 0 from rfl, this]; omega
    unfold m_W m_B y_ra y_unw
    by_cases gg : y_k P h c = 13 ∧ c.2.2.1 = 1
    · rw [if_pos gg]
      obtain ⟨g13, g1⟩ := gg
      have g13' : z_k (z_bd P (y_qm h c.1)) c.2.1 = 13 := g13
      rw [g13'] at ek
      have p3' : m 2408 s.length = 1 := by
        rw [p3, g13, g1]; rfl
      have hpt1 := z_pt_lt hBB.1 hci (j := 1) (by rw [z_p_13 g13']; decide)
      generalize hm3 : z_up (z_up (z_up m 2390 15 (nI (c.1 + 1))) 2390 26 (nI (y_rh P h s))) 2408 s.length 2 = m3
      have fr3 : ∀ a, a ≠ 2390 → a ≠ 2408 → m3 a = m a := fun a x y => by rw [← hm3, z_up_row y, z_up_row x, z_up_row x]
      have fr390 : ∀ j, j ≠ 15 → j ≠ 26 → m3 2390 j = m 2390 j := fun j x y => by rw [← hm3, z_up_row (by decide), z_up_b y, z_up_b x]
      have fr308 : ∀ j, j ≠ s.length → m3 2408 j = m 2408 j := fun j x => by rw [← hm3, z_up_b x, z_up_row (by decide), z_up_row (by decide)]
      have hR3 : y_rR m m3 := ⟨fun a x y => fr3 a y (by omega), fun j x _ y _ _ _ _ => fr390 j x y⟩
      have hG3 := hG.fr hR3
      have hT3 := hG3.2 _ hmm.1 hmm.2.1
      have e223 := f223_sp (S := S) hM hBB.1 (by omega) (k := y_qm h c.1) (by omega) hci (fun j _ hj => (hT3 j hj).1) (j := 1) (by rw [z_p_13 g13']; decide)
      have e223 : f223 2390 (nI (y_qm h c.1)) (nI c.2.1) 1 (z_hp S m3) = some (nI (z_pt (z_bd P (y_qm h c.1)) c.2.1 1), z_hp S m3) := e223
      have erv : y_rv P h (c.1, c.2.1, 2, []) = [] := by unfold y_rv; exact List.drop_nil
      have hP3 : y_rP P m3 ((c.1, c.2.1, 2, []) :: s) h n c.1 := by
        refine ⟨⟨by rw [fr390 20 (by decide) (by decide)]; exact c20, by rw [fr390 33 (by decide) (by decide)]; exact c33, by rw [fr390 34 (by decide) (by decide)]; exact c34, by rw [fr390 35 (by decide) (by decide)]; exact c35⟩, ⟨⟨⟨by rw [fr3 2406 (by decide) (by decide)]; exact p1, by rw [fr3 2407 (by decide) (by decide)]; exact p2, ?_⟩, fun _ y => ?_, by rw [fr3 2410 (by decide) (by decide)]; exact p5, fun j hj => ?_⟩, ?_⟩, y_rO_fr (fr390 29 (by decide) (by decide)) (fun a x y => fr3 a (by omega) (by omega)) hO, ?_, ?_, y_rF_fr (fun a x y => fr3 a (by omega) (by omega)) (fun f hf => hF f (by omega))⟩
        · rw [← hm3, z_up_s]
          show (2 : Int32) = nI (y_rst (y_k P h c) 2)
          rw [g13]; rfl
        · exfalso
          have : (2 : Nat) < y_p P h c := y
          rw [show y_p P h c = 2 from z_p_13 g13] at this; omega
        · rw [erv] at hj; exact absurd hj (Nat.not_lt_zero _)
        · exact y_rS_fr (fun _ _ => rfl) (fun a x y j hj => by
            by_cases g : a = 2408
            · subst g; exact fr308 j (by omega)
            · rw [fr3 a (by omega) g]) (fun a ha j _ => by rw [fr3 a (by omega) (by omega)]) hSs
        · rw [← hm3, z_up_row (by decide), z_up_s]
          show nI (y_rh P h s) = nI (y_rh P h s + (y_rv P h (c.1, c.2.1, 2, [])).length)
          rw [erv]; rfl
        · rw [← hm3, z_up_row (by decide), z_up_b (by decide), z_up_s]
      obtain ⟨m4, e243, x4, r4⟩ := f243_r (out := out) hM hP3 hl' hn (z_pt (z_bd P (y_qm h c.1)) c.2.1 1)
      refine ⟨m4, ?_, x4, hR3.trans r4⟩
      have : f244b 2390 B L x (z_hp S m) = some (.inr (), z_hp S m4) := by
        unfold f244b f244_59
        have q1 : z_up m 2390 15 (nI (c.1 + 1)) 2410 s.length = nI (y_rh P h s) := by rw [z_up_row (by decide)]; exact p5
        have q3 : m3 2407 s.length = nI c.2.1 := by rw [fr3 2407 (by decide) (by decide)]; exact p2
        have q4 : m3 2406 s.length = nI c.1 := by rw [fr3 2406 (by decide) (by decide)]; exact p1
        simp (disch := ((try simp only [true_or, or_true, hM.k, hM.k2391, hM.k2392, hM.k2393, hM.k2394, hM.k2395, hM.k2396, hM.k2397, hM.k2398, hM.k2399, hM.k2400, hM.k2401, hM.k2402, hM.k2403, hM.k2404, hM.k2405, hM.k2406, hM.k2407, hM.k2408, hM.k2409, hM.k2410, hM.k2411, hM.k2412, hM.k2413, hM.k2414, hM.k2415, hM.k2416, hM.k2417, hM.k2418, hM.k2419, hM.k2420, hM.k2421, hM.k2422, hM.k2423, hM.l2391, hM.l2392, hM.l2393, hM.l2394, hM.l2395, hM.l2396, hM.l2397, hM.l2398, hM.l2399, hM.l2400, hM.l2401, hM.l2402, hM.l2403, hM.l2404, hM.l2405, hM.l2406, hM.l2407, hM.l2408, hM.l2409, hM.l2410, hM.l2411, hM.l2412, hM.l2413, hM.l2414, hM.l2415, hM.l2416, hM.l2417, hM.l2418, hM.l2419, hM.l2420, hM.l2421, hM.l2422, hM.l2423]) <;> (try omega))) only [↓reduceIte, ↓z_ite, ↓zR, ↓zB_R, ↓zB_B, ↓zB_ite, ↓zB_gI, ↓zB_pI, ↓zB_pZ, ↓zB_aK, ↓zB_G, ↓zB_lI, ↓zB_lZ, ↓zB_wI, ↓zB_wZ, ↓zB_lIl, ↓zB_wIl, zB_pI, zB_pZ, zB_lI, zB_lZ, zB_wI, zB_wZ, z_addl, z_ladd, z_mull, z_lmul, nI_add, z_subl, Nat.not_lt_zero, z_10, z_01, z_bitc, z_b0, z_b1, ↓zB_Gb, ↓zB_G0, ↓zB_G1, z_eql, z_leq, z_ltl, z_llt, z_eq, z_lt, z_m1lt, hM.k, hM.k2391, hM.k2392, hM.k2393, hM.k2394, hM.k2395, hM.k2396, hM.k2397, hM.k2398, hM.k2399, hM.k2400, hM.k2401, hM.k2402, hM.k2403, hM.k2404, hM.k2405, hM.k2406, hM.k2407, hM.k2408, hM.k2409, hM.k2410, hM.k2411, hM.k2412, hM.k2413, hM.k2414, hM.k2415, hM.k2416, hM.k2417, hM.k2418, hM.k2419, hM.k2420, hM.k2421, hM.k2422, hM.k2423, hM.l2391, hM.l2392, hM.l2393, hM.l2394, hM.l2395, hM.l2396, hM.l2397, hM.l2398, hM.l2399, hM.l2400, hM.l2401, hM.l2402, hM.l2403, hM.l2404, hM.l2405, hM.l2406, hM.l2407, hM.l2408, hM.l2409, hM.l2410, hM.l2411, hM.l2412, hM.l2413, hM.l2414, hM.l2415, hM.l2416, hM.l2417, hM.l2418, hM.l2419, hM.l2420, hM.l2421, hM.l2422, hM.l2423, ↓hM.g1, ↓hM.g5, ↓hM.g6, ↓hM.g7, ↓hM.g8, ↓hM.g9, ↓hM.g10, ↓hM.g11, ↓hM.g12, ↓hM.g13, ↓hM.g14, ↓hM.g16, ↓hM.g17, ↓hM.g18, ↓hM.g19, ↓hM.g21, ↓hM.g22, ↓hM.g23, ↓hM.g24, ↓hM.g25, ↓hM.g27, ↓hM.g28, ↓hM.g30, ↓hM.g31, ↓hM.g32, ↓hM.g36, ↓hM.g37, ↓hM.g39, ↓hM.g40, ↓hM.g41, ↓hM.g43, ↓hM.g45, ↓hM.g46, c20, gpos, e1, hls, p1, hc20, f02, p2, ↓zB_c ek, zB_c ek, p3', q1, hm3, q3, ↓zB_c e223, zB_c e223, q4, ↓zB_c e243, zB_c e243]
      dsimp only
      rw [this]; rfl
    · rw [if_neg gg]
      have r0 : ∀ a, a ≠ 2390 → z_up m 2390 20 (nI s.length) a = m a := fun a x => z_up_row x
      have r90 : ∀ j, j ≠ 20 → z_up m 2390 20 (nI s.length) 2390 j = m 2390 j := fun j x => z_up_b x
      have hR : y_rR m (z_up m 2390 20 (nI s.length)) := ⟨fun a _ y => r0 a y, fun j _ y _ _ _ _ _ => r90 j y⟩
      obtain ⟨m', e', x1, x2⟩ := f244_r hP hM hB hL hx s (z_up m 2390 20 (nI s.length)) (hG.fr hR) (z_up_s _ _ _ _) (by rw [r90 33 (by decide)]; exact c33) (by rw [r90 34 (by decide)]; exact c34) (by rw [r90 35 (by decide)]; exact c35) (y_rS_fr (fun _ _ => rfl) (fun a x y j _ => by rw [r0 a (by omega)]) (fun a ha j _ => by rw [r0 a (by omega)]) hSs) (y_rO_fr (r90 29 (by decide)) (fun a x y => r0 a (by omega)) hO) (y_rF_fr (fun a x y => r0 a (by omega)) hF) hI (fun d hd => hs d (List.mem_cons_of_mem _ hd)) (by omega) hn h20 N (by have : s.length + 1 < N + 1 := hN; omega)
      refine ⟨m', ?_, x1, hR.trans x2⟩
      have : f244b 2390 B L x (z_hp S m) = some (.inl (2390, B, L, x), z_hp S (z_up m 2390 20 (nI s.length))) := by
        unfold f244b f244_117
        by_cases g13 : z_k (z_bd P (y_qm h c.1)) c.2.1 = 13
        · rw [g13] at ek
          have g13' : y_k P h c = 13 := g13
          have g1 : ¬ nI (y_rst (y_k P h c) c.2.2.1) = 1 := fun q => gg ⟨g13, by
            have e2 : y_rst (y_k P h c) c.2.2.1 = c.2.2.1 := by unfold y_rst; rw [if_neg (fun q => by rw [g13'] at q; exact absurd q.1 (by decide))]
            rw [e2] at q
            exact (nI_eq (b := 1) (by omega) (by decide)).mp q⟩
          simp (disch := ((try simp only [true_or, or_true, hM.k, hM.k2391, hM.k2392, hM.k2393, hM.k2394, hM.k2395, hM.k2396, hM.k2397, hM.k2398, hM.k2399, hM.k2400, hM.k2401, hM.k2402, hM.k2403, hM.k2404, hM.k2405, hM.k2406, hM.k2407, hM.k2408, hM.k2409, hM.k2410, hM.k2411, hM.k2412, hM.k2413, hM.k2414, hM.k2415, hM.k2416, hM.k2417, hM.k2418, hM.k2419, hM.k2420, hM.k2421, hM.k2422, hM.k2423, hM.l2391, hM.l2392, hM.l2393, hM.l2394, hM.l2395, hM.l2396, hM.l2397, hM.l2398, hM.l2399, hM.l2400, hM.l2401, hM.l2402, hM.l2403, hM.l2404, hM.l2405, hM.l2406, hM.l2407, hM.l2408, hM.l2409, hM.l2410, hM.l2411, hM.l2412, hM.l2413, hM.l2414, hM.l2415, hM.l2416, hM.l2417, hM.l2418, hM.l2419, hM.l2420, hM.l2421, hM.l2422, hM.l2423]) <;> (try omega))) only [↓reduceIte, ↓z_ite, ↓zR, ↓zB_R, ↓zB_B, ↓zB_ite, ↓zB_gI, ↓zB_pI, ↓zB_pZ, ↓zB_aK, ↓zB_G, ↓zB_lI, ↓zB_lZ, ↓zB_wI, ↓zB_wZ, ↓zB_lIl, ↓zB_wIl, zB_pI, zB_pZ, zB_lI, zB_lZ, zB_wI, zB_wZ, z_addl, z_ladd, z_mull, z_lmul, nI_add, z_subl, Nat.not_lt_zero, z_10, z_01, z_bitc, z_b0, z_b1, ↓zB_Gb, ↓zB_G0, ↓zB_G1, z_eql, z_leq, z_ltl, z_llt, z_eq, z_lt, z_m1lt, hM.k, hM.k2391, hM.k2392, hM.k2393, hM.k2394, hM.k2395, hM.k2396, hM.k2397, hM.k2398, hM.k2399, hM.k2400, hM.k2401, hM.k2402, hM.k2403, hM.k2404, hM.k2405, hM.k2406, hM.k2407, hM.k2408, hM.k2409, hM.k2410, hM.k2411, hM.k2412, hM.k2413, hM.k2414, hM.k2415, hM.k2416, hM.k2417, hM.k2418, hM.k2419, hM.k2420, hM.k2421, hM.k2422, hM.k2423, hM.l2391, hM.l2392, hM.l2393, hM.l2394, hM.l2395, hM.l2396, hM.l2397, hM.l2398, hM.l2399, hM.l2400, hM.l2401, hM.l2402, hM.l2403, hM.l2404, hM.l2405, hM.l2406, hM.l2407, hM.l2408, hM.l2409, hM.l2410, hM.l2411, hM.l2412, hM.l2413, hM.l2414, hM.l2415, hM.l2416, hM.l2417, hM.l2418, hM.l2419, hM.l2420, hM.l2421, hM.l2422, hM.l2423, ↓hM.g1, ↓hM.g5, ↓hM.g6, ↓hM.g7, ↓hM.g8, ↓hM.g9, ↓hM.g10, ↓hM.g11, ↓hM.g12, ↓hM.g13, ↓hM.g14, ↓hM.g16, ↓hM.g17, ↓hM.g18, ↓hM.g19, ↓hM.g21, ↓hM.g22, ↓hM.g23, ↓hM.g24, ↓hM.g25, ↓hM.g27, ↓hM.g28, ↓hM.g30, ↓hM.g31, ↓hM.g32, ↓hM.g36, ↓hM.g37, ↓hM.g39, ↓hM.g40, ↓hM.g41, ↓hM.g43, ↓hM.g45, ↓hM.g46, c20, gpos, e1, hls, p1, hc20, f02, p2, ↓zB_c ek, zB_c ek, p3, g1]
        · simp (disch := ((try simp only [true_or, or_true, hM.k, hM.k2391, hM.k2392, hM.k2393, hM.k2394, hM.k2395, hM.k2396, hM.k2397, hM.k2398, hM.k2399, hM.k2400, hM.k2401, hM.k2402, hM.k2403, hM.k2404, hM.k2405, hM.k2406, hM.k2407, hM.k2408, hM.k2409, hM.k2410, hM.k2411, hM.k2412, hM.k2413, hM.k2414, hM.k2415, hM.k2416, hM.k2417, hM.k2418, hM.k2419, hM.k2420, hM.k2421, hM.k2422, hM.k2423, hM.l2391, hM.l2392, hM.l2393, hM.l2394, hM.l2395, hM.l2396, hM.l2397, hM.l2398, hM.l2399, hM.l2400, hM.l2401, hM.l2402, hM.l2403, hM.l2404, hM.l2405, hM.l2406, hM.l2407, hM.l2408, hM.l2409, hM.l2410, hM.l2411, hM.l2412, hM.l2413, hM.l2414, hM.l2415, hM.l2416, hM.l2417, hM.l2418, hM.l2419, hM.l2420, hM.l2421, hM.l2422, hM.l2423]) <;> (try omega))) only [↓reduceIte, ↓z_ite, ↓zR, ↓zB_R, ↓zB_B, ↓zB_ite, ↓zB_gI, ↓zB_pI, ↓zB_pZ, ↓zB_aK, ↓zB_G, ↓zB_lI, ↓zB_lZ, ↓zB_wI, ↓zB_wZ, ↓zB_lIl, ↓zB_wIl, zB_pI, zB_pZ, zB_lI, zB_lZ, zB_wI, zB_wZ, z_addl, z_ladd, z_mull, z_lmul, nI_add, z_subl, Nat.not_lt_zero, z_10, z_01, z_bitc, z_b0, z_b1, ↓zB_Gb, ↓zB_G0, ↓zB_G1, z_eql, z_leq, z_ltl, z_llt, z_eq, z_lt, z_m1lt, hM.k, hM.k2391, hM.k2392, hM.k2393, hM.k2394, hM.k2395, hM.k2396, hM.k2397, hM.k2398, hM.k2399, hM.k2400, hM.k2401, hM.k2402, hM.k2403, hM.k2404, hM.k2405, hM.k2406, hM.k2407, hM.k2408, hM.k2409, hM.k2410, hM.k2411, hM.k2412, hM.k2413, hM.k2414, hM.k2415, hM.k2416, hM.k2417, hM.k2418, hM.k2419, hM.k2420, hM.k2421, hM.k2422, hM.k2423, hM.l2391, hM.l2392, hM.l2393, hM.l2394, hM.l2395, hM.l2396, hM.l2397, hM.l2398, hM.l2399, hM.l2400, hM.l2401, hM.l2402, hM.l2403, hM.l2404, hM.l2405, hM.l2406, hM.l2407, hM.l2408, hM.l2409, hM.l2410, hM.l2411, hM.l2412, hM.l2413, hM.l2414, hM.l2415, hM.l2416, hM.l2417, hM.l2418, hM.l2419, hM.l2420, hM.l2421, hM.l2422, hM.l2423, ↓hM.g1, ↓hM.g5, ↓hM.g6, ↓hM.g7, ↓hM.g8, ↓hM.g9, ↓hM.g10, ↓hM.g11, ↓hM.g12, ↓hM.g13, ↓hM.g14, ↓hM.g16, ↓hM.g17, ↓hM.g18, ↓hM.g19, ↓hM.g21, ↓hM.g22, ↓hM.g23, ↓hM.g24, ↓hM.g25, ↓hM.g27, ↓hM.g28, ↓hM.g30, ↓hM.g31, ↓hM.g32, ↓hM.g36, ↓hM.g37, ↓hM.g39, ↓hM.g40, ↓hM.g41, ↓hM.g43, ↓hM.g45, ↓hM.g46, c20, gpos, e1, hls, p1, hc20, f02, p2, ↓zB_c ek, zB_c ek, g13]
      dsimp only
      rw [this]
      exact e'
end
