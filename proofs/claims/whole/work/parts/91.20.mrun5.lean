-- deps: 91.00.run 91.01.run2 91.02.run3 91.03.run4 91.04.run5 91.05.run6 91.06.crun 91.07.crun2 91.08.crun3 91.09.crun4 91.10.crun5 91.11.crun6 91.12.crun7 91.13.crun8 91.14.crun9 91.15.crun10 91.16.mrun 91.17.mrun2 91.18.mrun3 91.19.mrun4
/-! a run: the reference's machine, calling -/
section
variable {P : z_Pg} {h h' : y_Qh} {k0 : Nat} {n : Nat} {out : y_V} {a : y_Ac} {s : List y_Ac} {S : z_S} {m : z_m} {b : Nat} {B : Int32}
/-- what is called -/
theorem y_call_q (hP : y_PG P) (hQ : y_QI P k0 (a :: s) h n out) (hk : y_k P h a = 7) (hst : a.2.2.1 = y_p P h a) (hv0 : ¬ (y_g a.2.2.2 0).1 = 2) : ∃ o q, y_o a.2.2.2 = o ∧ o < y_qn h ∧ (y_g a.2.2.2 0) = (1, nI o) ∧ z_fm P (y_qc h o) (y_v P h a) (z_a (y_l P h a) a.2.1) = some q ∧ y_callee P h a = q ∧ z_cnt P q + 1 = y_p P h a ∧ q < z_nm P := by
  obtain ⟨hn, hx, hCH, hI, h20⟩ := hQ
  have hw := hP.1.1
  have hm := hI.1 a.1 (Nat.le_refl _)
  have hB := hw.2.2.2.2.1 _ hm.1
  have hi : a.2.1 < (z_bd P (y_qm h a.1)).length := hCH.1.1
  have hx : a.2.2.2.length = a.2.2.1 := by rw [hx]; unfold y_xc; rw [hk, if_neg (fun y => absurd y.1 (by decide))]
  by_cases g : a.1 + 1 = 20
  · have hr := hP.rt _ hm.1 hm.2.1
    have k7 : z_k (z_bd P (y_qm h a.1)) a.2.1 = 7 := hk
    obtain ⟨c, q, hc, t1, fm, _, hq, hiq, hbq, tq, t2, t3⟩ := z_call hw hm.1 hr hi k7
    have hp0 : 0 < y_p P h a := by
      show 0 < z_p (z_bd P (y_qm h a.1)) a.2.1
      rcases z_pn_ka hB hi k7 with g | g | g <;> omega
    have hv := hCH.1.2.2.2 0 (by omega)
    have rq0 : y_rq P h a 0 = z_Ty P (y_qm h a.1) (y_pt P h a 0) := by
      unfold y_rq
      rw [if_neg]
      rw [hk]
      rintro (⟨g, _⟩ | g | ⟨g, _⟩)
      · exact absurd g (by decide)
      · exact absurd g (by decide)
      · omega
    rw [rq0, show z_Ty P (y_qm h a.1) (y_pt P h a 0) = nI c from t1] at hv
    obtain ⟨v1, o, ho, v2, hco, hbo⟩ := y_vt_cls hw hc hv hv0
    have hoe : y_o a.2.2.2 = o := by unfold y_o; rw [v2, nI_clamp (by
      have : y_qn h + (s.length + 1) ≤ n + 1 := hn.2.2
      omega)]
    obtain ⟨q', g1, g2, g3, g4, g5, g6, g7⟩ := z_fm_dn hP hc hco hbo fm
    refine ⟨o, q', hoe, ho, Prod.ext v1 v2, g1, by unfold y_callee; rw [hoe, show z_fm P (y_qc h o) (y_v P h a) (z_a (y_l P h a) a.2.1) = some q' from g1]; rfl, ?_, g2⟩
    rw [g5]
    have i2 := hiq
    unfold z_isc at i2
    simp only [Bool.and_eq_true, beq_iff_eq] at i2
    show (z_hd P q 3).toNatClampNeg + 1 = z_pn (z_k (z_bd P (y_qm h a.1)) a.2.1) (z_a (z_bd P (y_qm h a.1)) a.2.1)
    rw [k7, i2.2.2]
    show _ = 1 + _
    omega
  · obtain ⟨o, q, w1, w2, w3, w4, w5, w6, w7, _, _⟩ := y_call_ok (out := out) hP hCH hn hI hk hst hx hv0 (by omega)
    exact ⟨o, q, w1, w2, w3, w4, w5, w6, w7⟩
theorem y_nsub {H c : Nat} : nI (H + c) - nI c = nI H := by
  have := pk_sub (a := H + c) (b := c) (Nat.le_add_left _ _)
  rw [this, Nat.add_sub_cancel]
/-- parameters, one by one, and what is called begins -/
theorem f248_126_r (hM : z_MS S) {H f ct l : Nat} (hct : ct ≤ 2) (hf : f < 21) (hH : H + 3 < 4000) (Q : z_m → Prop) (hQ : ∀ m', (∀ c, c ≠ 2404 → c ≠ 2405 → m' c = m c) → (∀ c, c = 2404 ∨ c = 2405 → ∀ j, (j < 194 * f ∨ 194 * f + 194 ≤ j) → m' c j = m c j) → (∀ i, i < ct → m' 2404 (194 * f + 192 + i) = m 2411 (H + 1 + i) ∧ m' 2405 (194 * f + 192 + i) = m 2412 (H + 1 + i)) → ∃ m'', f248_189 2390 (nI l) (nI H) (nI f) (z_hp S m') = some ((), z_hp S m'') ∧ Q m'') : ∃ m', f248_126 2390 (nI l) (nI ct) (nI H) (nI f) 0 (z_hp S m) = some ((), z_hp S m') ∧ Q m' := by
  have key := z_loopI (f := fun s => f248_126b (s.1) (s.2.1) (s.2.2.1) (s.2.2.2.1) (s.2.2.2.2.1) (s.2.2.2.2.2)) (S := S) (fun N st m' => ∃ j, N = ct - j ∧ j ≤ ct ∧ st = (2390, nI l, nI ct, nI H, nI f, nI j) ∧ (∀ c, c ≠ 2404 → c ≠ 2405 → m' c = m c) ∧ (∀ c, c = 2404 ∨ c = 2405 → ∀ j, (j < 194 * f ∨ 194 * f + 194 ≤ j) → m' c j = m c j) ∧ ∀ i, i < j → m' 2404 (194 * f + 192 + i) = m 2411 (H + 1 + i) ∧ m' 2405 (194 * f + 192 + i) = m 2412 (H + 1 + i)) (fun _ m' => Q m') ?_ 1000000 ct (2390, nI l, nI ct, nI H, nI f, 0) m ⟨0, rfl, Nat.zero_le _, rfl, fun _ _ _ => rfl, fun _ _ _ _ => rfl, fun i hi => absurd hi (Nat.not_lt_zero _)⟩ (by omega)
  · obtain ⟨r, m', e, q⟩ := key
    exact ⟨m', e, q⟩
  · rintro N st m1 ⟨j, rfl, hj, rfl, g1, g2, g3⟩
    dsimp only
    rcases Nat.eq_or_lt_of_le hj with g | g
    · subst g
      obtain ⟨m'', e, q⟩ := hQ m1 g1 g2 g3
      refine Or.inr ⟨(), m'', ?_, q⟩
      unfold f248_126b
      simp (disch := ((try simp only [true_or, or_true, hM.k, hM.k2391, hM.k2392, hM.k2393, hM.k2394, hM.k2395, hM.k2396, hM.k2397, hM.k2398, hM.k2399, hM.k2400, hM.k2401, hM.k2402, hM.k2403, hM.k2404, hM.k2405, hM.k2406, hM.k2407, hM.k2408, hM.k2409, hM.k2410, hM.k2411, hM.k2412, hM.k2413, hM.k2414, hM.k2415, hM.k2416, hM.k2417, hM.k2418, hM.k2419, hM.k2420, hM.k2421, hM.k2422, hM.k2423, hM.l2391, hM.l2392, hM.l2393, hM.l2394, hM.l2395, hM.l2396, hM.l2397, hM.l2398, hM.l2399, hM.l2400, hM.l2401, hM.l2402, hM.l2403, hM.l2404, hM.l2405, hM.l2406, hM.l2407, hM.l2408, hM.l2409, hM.l2410, hM.l2411, hM.l2412, hM.l2413, hM.l2414, hM.l2415, hM.l2416, hM.l2417, hM.l2418, hM.l2419, hM.l2420, hM.l2421, hM.l2422, hM.l2423]) <;> (try omega))) only [↓reduceIte, ↓z_ite, ↓zR, ↓zB_R, ↓zB_B, ↓zB_ite, ↓zB_gI, ↓zB_pI, ↓zB_pZ, ↓zB_aK, ↓zB_G, ↓zB_lI, ↓zB_lZ, ↓zB_wI, ↓zB_wZ, ↓zB_lIl, ↓zB_wIl, zB_pI, zB_pZ, zB_lI, zB_lZ, zB_wI, zB_wZ, z_addl, z_ladd, z_mull, z_lmul, nI_add, z_subl, Nat.not_lt_zero, z_10, z_01, z_bitc, z_b0, z_b1, ↓zB_Gb, ↓zB_G0, ↓zB_G1, z_eql, z_leq, z_ltl, z_llt, z_eq, z_lt, z_m1lt, hM.k, hM.k2391, hM.k2392, hM.k2393, hM.k2394, hM.k2395, hM.k2396, hM.k2397, hM.k2398, hM.k2399, hM.k2400, hM.k2401, hM.k2402, hM.k2403, hM.k2404, hM.k2405, hM.k2406, hM.k2407, hM.k2408, hM.k2409, hM.k2410, hM.k2411, hM.k2412, hM.k2413, hM.k2414, hM.k2415, hM.k2416, hM.k2417, hM.k2418, hM.k2419, hM.k2420, hM.k2421, hM.k2422, hM.k2423, hM.l2391, hM.l2392, hM.l2393, hM.l2394, hM.l2395, hM.l2396, hM.l2397, hM.l2398, hM.l2399, hM.l2400, hM.l2401, hM.l2402, hM.l2403, hM.l2404, hM.l2405, hM.l2406, hM.l2407, hM.l2408, hM.l2409, hM.l2410, hM.l2411, hM.l2412, hM.l2413, hM.l2414, hM.l2415, hM.l2416, hM.l2417, hM.l2418, hM.l2419, hM.l2420, hM.l2421, hM.l2422, hM.l2423, ↓hM.g1, ↓hM.g5, ↓hM.g6, ↓hM.g7, ↓hM.g8, ↓hM.g9, ↓hM.g10, ↓hM.g11, ↓hM.g12, ↓hM.g13, ↓hM.g14, ↓hM.g16, ↓hM.g17, ↓hM.g18, ↓hM.g19, ↓hM.g21, ↓hM.g22, ↓hM.g23, ↓hM.g24, ↓hM.g25, ↓hM.g27, ↓hM.g28, ↓hM.g30, ↓hM.g31, ↓hM.g32, ↓hM.g36, ↓hM.g37, ↓hM.g39, ↓hM.g40, ↓hM.g41, ↓hM.g43, ↓hM.g45, ↓hM.g46, Nat.lt_irrefl, ↓zB_c e, zB_c e]
    · have hjj : nI j = 0 ∨ nI j = 1 := by
        have : j = 0 ∨ j = 1 := by omega
        rcases this with rfl | rfl
        · exact Or.inl rfl
        · exact Or.inr rfl
      have sl : (1 - j = 1 ∧ -1 - nI j = -1) ∨ (1 - j = 0 ∧ -1 - nI j = -2) := by
        have : j = 0 ∨ j = 1 := by omega
        rcases this with rfl | rfl
        · exact Or.inl ⟨rfl, by decide⟩
        · exact Or.inr ⟨rfl, by decide⟩
      obtain ⟨e246, hix⟩ := f246_r (S := S) (m := m1) f (sl := 1 - j) (x := -1 - nI j) (l := 192) (Nat.le_refl _) hf (by
        rcases sl with ⟨g1, g2⟩ | ⟨g1, g2⟩
        · exact Or.inl ⟨g1, g2⟩
        · exact Or.inr (Or.inl ⟨g1, g2⟩))
      have esr : 194 * f + y_sr (1 - j) = 194 * f + 192 + j := by
        have : j = 0 ∨ j = 1 := by omega
        rcases this with rfl | rfl <;> rfl
      rw [esr] at e246 hix
      have hidx : nI H + 1 + nI j = nI (H + 1 + j) := by rw [show nI H + 1 = nI (H + 1) from z_addl H 1, nI_add]
      have h4 : H + 1 + j < 4000 := by omega
      have v1 : m1 2411 (H + 1 + j) = m 2411 (H + 1 + j) := by rw [g1 2411 (by decide) (by decide)]
      have v2 : z_up m1 2404 (194 * f + 192 + j) (m 2411 (H + 1 + j)) 2412 (H + 1 + j) = m 2412 (H + 1 + j) := by rw [z_up_row (by decide), g1 2412 (by decide) (by decide)]
      refine Or.inl ⟨_, z_up (z_up m1 2404 (194 * f + 192 + j) (m 2411 (H + 1 + j))) 2405 (194 * f + 192 + j) (m 2412 (H + 1 + j)), ct - (j + 1), ?_, by omega, j + 1, rfl, g, rfl, fun c x y => by rw [z_up_row y, z_up_row x]; exact g1 c x y, fun c hc i hi => ?_, fun i hi => ?_⟩
      · have hlt : nI j < nI ct := (nI_ltI (by omega) (by omega)).mpr g
        have hj1 : nI j + 1 = nI (j + 1) := z_addl j 1
        have hneg : (-1 : Int32) - nI j = -1 - nI j := rfl
        unfold f248_126b
        simp (disch := ((try simp only [true_or, or_true, hM.k, hM.k2391, hM.k2392, hM.k2393, hM.k2394, hM.k2395, hM.k2396, hM.k2397, hM.k2398, hM.k2399, hM.k2400, hM.k2401, hM.k2402, hM.k2403, hM.k2404, hM.k2405, hM.k2406, hM.k2407, hM.k2408, hM.k2409, hM.k2410, hM.k2411, hM.k2412, hM.k2413, hM.k2414, hM.k2415, hM.k2416, hM.k2417, hM.k2418, hM.k2419, hM.k2420, hM.k2421, hM.k2422, hM.k2423, hM.l2391, hM.l2392, hM.l2393, hM.l2394, hM.l2395, hM.l2396, hM.l2397, hM.l2398, hM.l2399, hM.l2400, hM.l2401, hM.l2402, hM.l2403, hM.l2404, hM.l2405, hM.l2406, hM.l2407, hM.l2408, hM.l2409, hM.l2410, hM.l2411, hM.l2412, hM.l2413, hM.l2414, hM.l2415, hM.l2416, hM.l2417, hM.l2418, hM.l2419, hM.l2420, hM.l2421, hM.l2422, hM.l2423]) <;> (try omega))) only [↓reduceIte, ↓z_ite, ↓zR, ↓zB_R, ↓zB_B, ↓zB_ite, ↓zB_gI, ↓zB_pI, ↓zB_pZ, ↓zB_aK, ↓zB_G, ↓zB_lI, ↓zB_lZ, ↓zB_wI, ↓zB_wZ, ↓zB_lIl, ↓zB_wIl, zB_pI, zB_pZ, zB_lI, zB_lZ, zB_wI, zB_wZ, z_addl, z_ladd, z_mull, z_lmul, nI_add, z_subl, Nat.not_lt_zero, z_10, z_01, z_bitc, z_b0, z_b1, ↓zB_Gb, ↓zB_G0, ↓zB_G1, z_eql, z_leq, z_ltl, z_llt, z_eq, z_lt, z_m1lt, hM.k, hM.k2391, hM.k2392, hM.k2393, hM.k2394, hM.k2395, hM.k2396, hM.k2397, hM.k2398, hM.k2399, hM.k2400, hM.k2401, hM.k2402, hM.k2403, hM.k2404, hM.k2405, hM.k2406, hM.k2407, hM.k2408, hM.k2409, hM.k2410, hM.k2411, hM.k2412, hM.k2413, hM.k2414, hM.k2415, hM.k2416, hM.k2417, hM.k2418, hM.k2419, hM.k2420, hM.k2421, hM.k2422, hM.k2423, hM.l2391, hM.l2392, hM.l2393, hM.l2394, hM.l2395, hM.l2396, hM.l2397, hM.l2398, hM.l2399, hM.l2400, hM.l2401, hM.l2402, hM.l2403, hM.l2404, hM.l2405, hM.l2406, hM.l2407, hM.l2408, hM.l2409, hM.l2410, hM.l2411, hM.l2412, hM.l2413, hM.l2414, hM.l2415, hM.l2416, hM.l2417, hM.l2418, hM.l2419, hM.l2420, hM.l2421, hM.l2422, hM.l2423, ↓hM.g1, ↓hM.g5, ↓hM.g6, ↓hM.g7, ↓hM.g8, ↓hM.g9, ↓hM.g10, ↓hM.g11, ↓hM.g12, ↓hM.g13, ↓hM.g14, ↓hM.g16, ↓hM.g17, ↓hM.g18, ↓hM.g19, ↓hM.g21, ↓hM.g22, ↓hM.g23, ↓hM.g24, ↓hM.g25, ↓hM.g27, ↓hM.g28, ↓hM.g30, ↓hM.g31, ↓hM.g32, ↓hM.g36, ↓hM.g37, ↓hM.g39, ↓hM.g40, ↓hM.g41, ↓hM.g43, ↓hM.g45, ↓hM.g46, g, ↓zB_c e246, zB_c e246, hidx, h4, v1, v2, hix]
      · rcases hc with rfl | rfl
        · rw [z_up_row (by decide), z_up_b (by omega)]; exact g2 _ (Or.inl rfl) i hi
        · rw [z_up_b (by omega), z_up_row (by decide)]; exact g2 _ (Or.inr rfl) i hi
      · rcases Nat.lt_or_ge i j with w | w
        · rw [z_up_row (by decide), z_up_b (by omega), z_up_b (by omega), z_up_row (by decide)]; exact g3 i w
        · obtain rfl : i = j := by omega
          rw [z_up_row (by decide), z_up_s, z_up_s]; exact ⟨rfl, rfl⟩
end
