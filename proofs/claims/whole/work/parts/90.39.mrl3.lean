-- deps: 90.38.mrl2
/-! a local renamed: the reference writes the body anew -/
section
variable {S : z_S} {m : z_m} {P : z_Pg} {A : z_A}
theorem z_rlb_w (hw : z_wf P) {k i : Nat} {x : Int32} (hlen : (z_bd P k).length ≤ 192) (hk : k < z_nm P) (hx : z_vpl P k x) (hi : i < (z_bd P k).length) (hb : z_rlb P k x i = true) : z_rlw P k x i = true := by
  have h6 := hw.1.1
  have ho := (z_own_e hw hk).1
  unfold z_rlw
  by_cases x0 : x < 0
  · have e1 : z_rls P k x = 0 := if_pos x0
    have e2 : z_rle P k x = (z_bd P k).length := if_pos x0
    rw [e1, e2, decide_eq_true (Nat.zero_le i), decide_eq_true hi]; rfl
  · obtain ⟨L, hL, rfl⟩ : ∃ L, L < (z_bd P k).length ∧ x = nI L := by
      rcases hx with ⟨e, _⟩ | ⟨e, _⟩ | h
      · rw [e] at x0; exact absurd (by decide) x0
      · rw [e] at x0; exact absurd (by decide) x0
      · exact h
    have e1 : z_rls P k (nI L) = z_en (z_bd P k) (L + 1) := by
      unfold z_rls
      rw [if_neg x0, nI_clamp (by omega), z_pt_s, z_pt_0]
    have e2 : z_rle P k (nI L) = z_en (z_bd P k) L := by
      unfold z_rle
      rw [if_neg x0, nI_clamp (by omega)]
    unfold z_rlb z_isBL z_isL at hb
    simp only [Bool.and_eq_true, beq_iff_eq, decide_eq_true_eq] at hb
    obtain ⟨⟨gv, _⟩, gb⟩ := hb
    rw [z_Bd_v gv] at gb
    rcases z_bv_c P k (z_bd P k) i (z_v (z_bd P k) i) with ⟨j, q, e⟩ | ⟨q, ⟨e, f⟩ | ⟨e, f⟩ | ⟨c, hc, e⟩ | ⟨e, _⟩⟩
    · have hj := z_le_some q
      rw [e] at gb
      have : j = L := (nI_eq (by omega) (by omega)).mp gb
      subst this
      rw [e1, e2, decide_eq_true hj.2.2.2.2, decide_eq_true hj.2.2.2.1]; rfl
    · rw [e] at gb; exact absurd gb.symm (z_nI_m1 (by omega))
    · rw [e] at gb; exact absurd gb.symm (z_eqm (k := 2) (by omega) (by decide) (by decide))
    · have := (z_fc_some hc).1
      rw [e] at gb
      have := (nI_eq (by omega) (by omega)).mp gb
      omega
    · rw [e] at gb; exact absurd gb.symm (z_eqm (k := 9) (by omega) (by decide) (by decide))
theorem f280_281_sp (hM : z_MS S) (hw : z_wf P) (h : z_mb m 0 P) (hT : z_mLT m P) {k n : Nat} (hk : k < z_nm P) (hl : z_liv P k = true) {x : Int32} (hx : z_vpl P k x) (h5 : x < 0 ∨ z_k (z_bd P k) x.toNatClampNeg = 5) (ho : z_ol m []) : ∃ m', f280_281 2390 (nI k) x (nI n) (nI (z_rls P k x)) (nI (z_rle P k x)) 0 0 (z_hp S m) = f280_428 2390 (nI k) x (nI n) (nI (z_ct (z_rlb P k x) (z_bd P k).length)) (z_hp S m') ∧ z_ol m' (z_rlD P k x (nI n)) ∧ z_eF m m' := by
  have h24 := hw.2.2.1
  have hlen := z_Pl h hk
  have hel := z_rle_le hw hk x hx hlen
  have hB := hw.2.2.2.2.1 k hk
  have hsl : z_rls P k x ≤ 300 := by
    unfold z_rls
    by_cases g : x < 0
    · rw [if_pos g]; omega
    · rw [if_neg g]
      rcases hx with ⟨rfl, _⟩ | ⟨rfl, _⟩ | ⟨i, hi, rfl⟩
      · exact absurd (by decide) g
      · exact absurd (by decide) g
      · rw [nI_clamp (by omega)]
        have h1 := z_pt_len hB.1 hi 1
        omega
  have xb : x < 1000 := by
    rcases hx with ⟨e, _⟩ | ⟨e, _⟩ | ⟨L, hL, e⟩
    · rw [e]; decide
    · rw [e]; decide
    · rw [e]; exact z_l1000 (by omega)
  unfold f280_281
  have key := z_loopT (f := fun s => f280_281b (s.1) (s.2.1) (s.2.2.1) (s.2.2.2.1) (s.2.2.2.2.1) (s.2.2.2.2.2.1) (s.2.2.2.2.2.2.1) (s.2.2.2.2.2.2.2)) (S := S) (fun N st m' => ∃ i, N = (z_bd P k).length - i ∧ i ≤ (z_bd P k).length ∧ st = (2390, nI k, x, nI n, nI (z_rls P k x), nI (z_rle P k x), nI (z_ct (z_rlb P k x) i), nI i) ∧ z_ol m' (z_cat (z_rlg P k x (nI n)) i) ∧ z_eF m m') (fun X m' => X = f280_428 2390 (nI k) x (nI n) (nI (z_ct (z_rlb P k x) (z_bd P k).length)) ∧ z_ol m' (z_rlD P k x (nI n)) ∧ z_eF m m') ?_ 1000000 (z_bd P k).length (2390, nI k, x, nI n, nI (z_rls P k x), nI (z_rle P k x), 0, 0) m ⟨0, rfl, Nat.zero_le _, rfl, ho, z_eF.refl m⟩ (by omega)
  · obtain ⟨X, m', e, rfl, g⟩ := key
    exact ⟨m', e, g⟩
  · rintro N st m1 ⟨i, rfl, hi, rfl, g1, g2⟩
    have hb1 : z_mb m1 0 P := z_mb_mF g2.mF (by decide) h
    have hT1 := z_mLT_mF g2.mF hT
    have e270 := f270_sp (S := S) hM hb1 hk
    have hcl := z_ct_le (s := z_rlb P k x) i
    have hcat := z_cat_le (f := z_rlg P k x (nI n)) (c := 2) i (fun i _ => z_rlg_len P k x (nI n) i)
    dsimp only
    rcases Nat.eq_or_lt_of_le hi with hi2 | hi2
    · refine Or.inr ⟨_, m1, ?_, rfl, by rw [hi2] at g1; exact g1, g2⟩
      unfold f280_281b
      rw [hi2]
      simp (disch := ((try simp only [true_or, or_true, hM.k, hM.k2391, hM.k2392, hM.k2393, hM.k2394, hM.k2395, hM.k2396, hM.k2397, hM.k2398, hM.k2399, hM.k2400, hM.k2401, hM.k2402, hM.k2403, hM.k2404, hM.k2405, hM.k2406, hM.k2407, hM.k2408, hM.k2409, hM.k2410, hM.k2411, hM.k2412, hM.k2413, hM.k2414, hM.k2415, hM.k2416, hM.k2417, hM.k2418, hM.k2419, hM.k2420, hM.k2421, hM.k2422, hM.k2423, hM.l2391, hM.l2392, hM.l2393, hM.l2394, hM.l2395, hM.l2396, hM.l2397, hM.l2398, hM.l2399, hM.l2400, hM.l2401, hM.l2402, hM.l2403, hM.l2404, hM.l2405, hM.l2406, hM.l2407, hM.l2408, hM.l2409, hM.l2410, hM.l2411, hM.l2412, hM.l2413, hM.l2414, hM.l2415, hM.l2416, hM.l2417, hM.l2418, hM.l2419, hM.l2420, hM.l2421, hM.l2422, hM.l2423]) <;> (try omega))) only [↓reduceIte, ↓z_ite, ↓zR, ↓zB_R, ↓zB_B, ↓zB_ite, ↓zB_gI, ↓zB_pI, ↓zB_pZ, ↓zB_aK, ↓zB_G, ↓zB_lI, ↓zB_lZ, ↓zB_wI, ↓zB_wZ, ↓zB_lIl, ↓zB_wIl, zB_pI, zB_pZ, zB_lI, zB_lZ, zB_wI, zB_wZ, z_addl, z_ladd, z_mull, z_lmul, nI_add, z_subl, Nat.not_lt_zero, z_10, z_01, z_bitc, z_b0, z_b1, ↓zB_Gb, ↓zB_G0, ↓zB_G1, z_eql, z_leq, z_ltl, z_llt, z_eq, z_lt, z_m1lt, hM.k, hM.k2391, hM.k2392, hM.k2393, hM.k2394, hM.k2395, hM.k2396, hM.k2397, hM.k2398, hM.k2399, hM.k2400, hM.k2401, hM.k2402, hM.k2403, hM.k2404, hM.k2405, hM.k2406, hM.k2407, hM.k2408, hM.k2409, hM.k2410, hM.k2411, hM.k2412, hM.k2413, hM.k2414, hM.k2415, hM.k2416, hM.k2417, hM.k2418, hM.k2419, hM.k2420, hM.k2421, hM.k2422, hM.k2423, hM.l2391, hM.l2392, hM.l2393, hM.l2394, hM.l2395, hM.l2396, hM.l2397, hM.l2398, hM.l2399, hM.l2400, hM.l2401, hM.l2402, hM.l2403, hM.l2404, hM.l2405, hM.l2406, hM.l2407, hM.l2408, hM.l2409, hM.l2410, hM.l2411, hM.l2412, hM.l2413, hM.l2414, hM.l2415, hM.l2416, hM.l2417, hM.l2418, hM.l2419, hM.l2420, hM.l2421, hM.l2422, hM.l2423, ↓hM.g1, ↓hM.g5, ↓hM.g6, ↓hM.g7, ↓hM.g8, ↓hM.g9, ↓hM.g10, ↓hM.g11, ↓hM.g12, ↓hM.g13, ↓hM.g14, ↓hM.g16, ↓hM.g17, ↓hM.g18, ↓hM.g19, ↓hM.g21, ↓hM.g22, ↓hM.g23, ↓hM.g24, ↓hM.g25, ↓hM.g27, ↓hM.g28, ↓hM.g30, ↓hM.g31, ↓hM.g32, ↓hM.g36, ↓hM.g37, ↓hM.g39, ↓hM.g40, ↓hM.g41, ↓hM.g43, ↓hM.g45, ↓hM.g46, ↓zB_c e270, zB_c e270, Nat.lt_irrefl]
    · have e266 := f266_sp (S := S) hM hb1 hk hi2
      have ek := hb1.ek hM (B := 0) rfl hk hi2
      have ev := hb1.ev hM (B := 0) rfl hk hi2
      have fin : ∀ m2 piece, z_rlg P k x (nI n) i = piece → z_ol m2 (z_cat (z_rlg P k x (nI n)) i ++ piece) → z_ol m2 (z_cat (z_rlg P k x (nI n)) (i + 1)) := fun m2 piece e h => by
        show z_ol m2 (z_cat (z_rlg P k x (nI n)) i ++ z_rlg P k x (nI n) i)
        rw [e]; exact h
      -- where it stands
      have e320 : f280_281b 2390 (nI k) x (nI n) (nI (z_rls P k x)) (nI (z_rle P k x)) (nI (z_ct (z_rlb P k x) i)) (nI i) (z_hp S m1) = f280_320 2390 (nI k) x (nI n) (nI (z_rls P k x)) (nI (z_rle P k x)) (nI (z_ct (z_rlb P k x) i)) (nI i) (z_b (z_rlw P k x i && z_isV (z_bd P k) i)) (z_hp S m1) := by
        unfold f280_281b f280_319 z_rlw
        by_cases y1 : z_rls P k x ≤ i
        · have y1' : ¬ i < z_rls P k x := by omega
          rw [decide_eq_true y1]
          by_cases y2 : i < z_rle P k x
          · rw [decide_eq_true y2]
            cases gv : z_isV (z_bd P k) i with
            | false =>
              rw [gv] at e266
              simp (disch := ((try simp only [true_or, or_true, hM.k, hM.k2391, hM.k2392, hM.k2393, hM.k2394, hM.k2395, hM.k2396, hM.k2397, hM.k2398, hM.k2399, hM.k2400, hM.k2401, hM.k2402, hM.k2403, hM.k2404, hM.k2405, hM.k2406, hM.k2407, hM.k2408, hM.k2409, hM.k2410, hM.k2411, hM.k2412, hM.k2413, hM.k2414, hM.k2415, hM.k2416, hM.k2417, hM.k2418, hM.k2419, hM.k2420, hM.k2421, hM.k2422, hM.k2423, hM.l2391, hM.l2392, hM.l2393, hM.l2394, hM.l2395, hM.l2396, hM.l2397, hM.l2398, hM.l2399, hM.l2400, hM.l2401, hM.l2402, hM.l2403, hM.l2404, hM.l2405, hM.l2406, hM.l2407, hM.l2408, hM.l2409, hM.l2410, hM.l2411, hM.l2412, hM.l2413, hM.l2414, hM.l2415, hM.l2416, hM.l2417, hM.l2418, hM.l2419, hM.l2420, hM.l2421, hM.l2422, hM.l2423]) <;> (try omega))) only [↓reduceIte, ↓z_ite, ↓zR, ↓zB_R, ↓zB_B, ↓zB_ite, ↓zB_gI, ↓zB_pI, ↓zB_pZ, ↓zB_aK, ↓zB_G, ↓zB_lI, ↓zB_lZ, ↓zB_wI, ↓zB_wZ, ↓zB_lIl, ↓zB_wIl, zB_pI, zB_pZ, zB_lI, zB_lZ, zB_wI, zB_wZ, z_addl, z_ladd, z_mull, z_lmul, nI_add, z_subl, Nat.not_lt_zero, z_10, z_01, z_bitc, z_b0, z_b1, ↓zB_Gb, ↓zB_G0, ↓zB_G1, z_eql, z_leq, z_ltl, z_llt, z_eq, z_lt, z_m1lt, hM.k, hM.k2391, hM.k2392, hM.k2393, hM.k2394, hM.k2395, hM.k2396, hM.k2397, hM.k2398, hM.k2399, hM.k2400, hM.k2401, hM.k2402, hM.k2403, hM.k2404, hM.k2405, hM.k2406, hM.k2407, hM.k2408, hM.k2409, hM.k2410, hM.k2411, hM.k2412, hM.k2413, hM.k2414, hM.k2415, hM.k2416, hM.k2417, hM.k2418, hM.k2419, hM.k2420, hM.k2421, hM.k2422, hM.k2423, hM.l2391, hM.l2392, hM.l2393, hM.l2394, hM.l2395, hM.l2396, hM.l2397, hM.l2398, hM.l2399, hM.l2400, hM.l2401, hM.l2402, hM.l2403, hM.l2404, hM.l2405, hM.l2406, hM.l2407, hM.l2408, hM.l2409, hM.l2410, hM.l2411, hM.l2412, hM.l2413, hM.l2414, hM.l2415, hM.l2416, hM.l2417, hM.l2418, hM.l2419, hM.l2420, hM.l2421, hM.l2422, hM.l2423, ↓hM.g1, ↓hM.g5, ↓hM.g6, ↓hM.g7, ↓hM.g8, ↓hM.g9, ↓hM.g10, ↓hM.g11, ↓hM.g12, ↓hM.g13, ↓hM.g14, ↓hM.g16, ↓hM.g17, ↓hM.g18, ↓hM.g19, ↓hM.g21, ↓hM.g22, ↓hM.g23, ↓hM.g24, ↓hM.g25, ↓hM.g27, ↓hM.g28, ↓hM.g30, ↓hM.g31, ↓hM.g32, ↓hM.g36, ↓hM.g37, ↓hM.g39, ↓hM.g40, ↓hM.g41, ↓hM.g43, ↓hM.g45, ↓hM.g46, ↓zB_c e270, zB_c e270, hi2, y1', y2, ↓zB_c e266, zB_c e266]
              rfl
            | true =>
              rw [gv] at e266
              simp (disch := ((try simp only [true_or, or_true, hM.k, hM.k2391, hM.k2392, hM.k2393, hM.k2394, hM.k2395, hM.k2396, hM.k2397, hM.k2398, hM.k2399, hM.k2400, hM.k2401, hM.k2402, hM.k2403, hM.k2404, hM.k2405, hM.k2406, hM.k2407, hM.k2408, hM.k2409, hM.k2410, hM.k2411, hM.k2412, hM.k2413, hM.k2414, hM.k2415, hM.k2416, hM.k2417, hM.k2418, hM.k2419, hM.k2420, hM.k2421, hM.k2422, hM.k2423, hM.l2391, hM.l2392, hM.l2393, hM.l2394, hM.l2395, hM.l2396, hM.l2397, hM.l2398, hM.l2399, hM.l2400, hM.l2401, hM.l2402, hM.l2403, hM.l2404, hM.l2405, hM.l2406, hM.l2407, hM.l2408, hM.l2409, hM.l2410, hM.l2411, hM.l2412, hM.l2413, hM.l2414, hM.l2415, hM.l2416, hM.l2417, hM.l2418, hM.l2419, hM.l2420, hM.l2421, hM.l2422, hM.l2423]) <;> (try omega))) only [↓reduceIte, ↓z_ite, ↓zR, ↓zB_R, ↓zB_B, ↓zB_ite, ↓zB_gI, ↓zB_pI, ↓zB_pZ, ↓zB_aK, ↓zB_G, ↓zB_lI, ↓zB_lZ, ↓zB_wI, ↓zB_wZ, ↓zB_lIl, ↓zB_wIl, zB_pI, zB_pZ, zB_lI, zB_lZ, zB_wI, zB_wZ, z_addl, z_ladd, z_mull, z_lmul, nI_add, z_subl, Nat.not_lt_zero, z_10, z_01, z_bitc, z_b0, z_b1, ↓zB_Gb, ↓zB_G0, ↓zB_G1, z_eql, z_leq, z_ltl, z_llt, z_eq, z_lt, z_m1lt, hM.k, hM.k2391, hM.k2392, hM.k2393, hM.k2394, hM.k2395, hM.k2396, hM.k2397, hM.k2398, hM.k2399, hM.k2400, hM.k2401, hM.k2402, hM.k2403, hM.k2404, hM.k2405, hM.k2406, hM.k2407, hM.k2408, hM.k2409, hM.k2410, hM.k2411, hM.k2412, hM.k2413, hM.k2414, hM.k2415, hM.k2416, hM.k2417, hM.k2418, hM.k2419, hM.k2420, hM.k2421, hM.k2422, hM.k2423, hM.l2391, hM.l2392, hM.l2393, hM.l2394, hM.l2395, hM.l2396, hM.l2397, hM.l2398, hM.l2399, hM.l2400, hM.l2401, hM.l2402, hM.l2403, hM.l2404, hM.l2405, hM.l2406, hM.l2407, hM.l2408, hM.l2409, hM.l2410, hM.l2411, hM.l2412, hM.l2413, hM.l2414, hM.l2415, hM.l2416, hM.l2417, hM.l2418, hM.l2419, hM.l2420, hM.l2421, hM.l2422, hM.l2423, ↓hM.g1, ↓hM.g5, ↓hM.g6, ↓hM.g7, ↓hM.g8, ↓hM.g9, ↓hM.g10, ↓hM.g11, ↓hM.g12, ↓hM.g13, ↓hM.g14, ↓hM.g16, ↓hM.g17, ↓hM.g18, ↓hM.g19, ↓hM.g21, ↓hM.g22, ↓hM.g23, ↓hM.g24, ↓hM.g25, ↓hM.g27, ↓hM.g28, ↓hM.g30, ↓hM.g31, ↓hM.g32, ↓hM.g36, ↓hM.g37, ↓hM.g39, ↓hM.g40, ↓hM.g41, ↓hM.g43, ↓hM.g45, ↓hM.g46, ↓zB_c e270, zB_c e270, hi2, y1', y2, ↓zB_c e266, zB_c e266, Bool.true_eq_false]
              rfl
          · rw [decide_eq_false y2]
            simp (disch := ((try simp only [true_or, or_true, hM.k, hM.k2391, hM.k2392, hM.k2393, hM.k2394, hM.k2395, hM.k2396, hM.k2397, hM.k2398, hM.k2399, hM.k2400, hM.k2401, hM.k2402, hM.k2403, hM.k2404, hM.k2405, hM.k2406, hM.k2407, hM.k2408, hM.k2409, hM.k2410, hM.k2411, hM.k2412, hM.k2413, hM.k2414, hM.k2415, hM.k2416, hM.k2417, hM.k2418, hM.k2419, hM.k2420, hM.k2421, hM.k2422, hM.k2423, hM.l2391, hM.l2392, hM.l2393, hM.l2394, hM.l2395, hM.l2396, hM.l2397, hM.l2398, hM.l2399, hM.l2400, hM.l2401, hM.l2402, hM.l2403, hM.l2404, hM.l2405, hM.l2406, hM.l2407, hM.l2408, hM.l2409, hM.l2410, hM.l2411, hM.l2412, hM.l2413, hM.l2414, hM.l2415, hM.l2416, hM.l2417, hM.l2418, hM.l2419, hM.l2420, hM.l2421, hM.l2422, hM.l2423]) <;> (try omega))) only [↓reduceIte, ↓z_ite, ↓zR, ↓zB_R, ↓zB_B, ↓zB_ite, ↓zB_gI, ↓zB_pI, ↓zB_pZ, ↓zB_aK, ↓zB_G, ↓zB_lI, ↓zB_lZ, ↓zB_wI, ↓zB_wZ, ↓zB_lIl, ↓zB_wIl, zB_pI, zB_pZ, zB_lI, zB_lZ, zB_wI, zB_wZ, z_addl, z_ladd, z_mull, z_lmul, nI_add, z_subl, Nat.not_lt_zero, z_10, z_01, z_bitc, z_b0, z_b1, ↓zB_Gb, ↓zB_G0, ↓zB_G1, z_eql, z_leq, z_ltl, z_llt, z_eq, z_lt, z_m1lt, hM.k, hM.k2391, hM.k2392, hM.k2393, hM.k2394, hM.k2395, hM.k2396, hM.k2397, hM.k2398, hM.k2399, hM.k2400, hM.k2401, hM.k2402, hM.k2403, hM.k2404, hM.k2405, hM.k2406, hM.k2407, hM.k2408, hM.k2409, hM.k2410, hM.k2411, hM.k2412, hM.k2413, hM.k2414, hM.k2415, hM.k2416, hM.k2417, hM.k2418, hM.k2419, hM.k2420, hM.k2421, hM.k2422, hM.k2423, hM.l2391, hM.l2392, hM.l2393, hM.l2394, hM.l2395, hM.l2396, hM.l2397, hM.l2398, hM.l2399, hM.l2400, hM.l2401, hM.l2402, hM.l2403, hM.l2404, hM.l2405, hM.l2406, hM.l2407, hM.l2408, hM.l2409, hM.l2410, hM.l2411, hM.l2412, hM.l2413, hM.l2414, hM.l2415, hM.l2416, hM.l2417, hM.l2418, hM.l2419, hM.l2420, hM.l2421, hM.l2422, hM.l2423, ↓hM.g1, ↓hM.g5, ↓hM.g6, ↓hM.g7, ↓hM.g8, ↓hM.g9, ↓hM.g10, ↓hM.g11, ↓hM.g12, ↓hM.g13, ↓hM.g14, ↓hM.g16, ↓hM.g17, ↓hM.g18, ↓hM.g19, ↓hM.g21, ↓hM.g22, ↓hM.g23, ↓hM.g24, ↓hM.g25, ↓hM.g27, ↓hM.g28, ↓hM.g30, ↓hM.g31, ↓hM.g32, ↓hM.g36, ↓hM.g37, ↓hM.g39, ↓hM.g40, ↓hM.g41, ↓hM.g43, ↓hM.g45, ↓hM.g46, ↓zB_c e270, zB_c e270, hi2, y1', y2]
            rfl
        · have y1' : i < z_rls P k x := by omega
          rw [decide_eq_false y1]
          simp (disch := ((try simp only [true_or, or_true, hM.k, hM.k2391, hM.k2392, hM.k2393, hM.k2394, hM.k2395, hM.k2396, hM.k2397, hM.k2398, hM.k2399, hM.k2400, hM.k2401, hM.k2402, hM.k2403, hM.k2404, hM.k2405, hM.k2406, hM.k2407, hM.k2408, hM.k2409, hM.k2410, hM.k2411, hM.k2412, hM.k2413, hM.k2414, hM.k2415, hM.k2416, hM.k2417, hM.k2418, hM.k2419, hM.k2420, hM.k2421, hM.k2422, hM.k2423, hM.l2391, hM.l2392, hM.l2393, hM.l2394, hM.l2395, hM.l2396, hM.l2397, hM.l2398, hM.l2399, hM.l2400, hM.l2401, hM.l2402, hM.l2403, hM.l2404, hM.l2405, hM.l2406, hM.l2407, hM.l2408, hM.l2409, hM.l2410, hM.l2411, hM.l2412, hM.l2413, hM.l2414, hM.l2415, hM.l2416, hM.l2417, hM.l2418, hM.l2419, hM.l2420, hM.l2421, hM.l2422, hM.l2423]) <;> (try omega))) only [↓reduceIte, ↓z_ite, ↓zR, ↓zB_R, ↓zB_B, ↓zB_ite, ↓zB_gI, ↓zB_pI, ↓zB_pZ, ↓zB_aK, ↓zB_G, ↓zB_lI, ↓zB_lZ, ↓zB_wI, ↓zB_wZ, ↓zB_lIl, ↓zB_wIl, zB_pI, zB_pZ, zB_lI, zB_lZ, zB_wI, zB_wZ, z_addl, z_ladd, z_mull, z_lmul, nI_add, z_subl, Nat.not_lt_zero, z_10, z_01, z_bitc, z_b0, z_b1, ↓zB_Gb, ↓zB_G0, ↓zB_G1, z_eql, z_leq, z_ltl, z_llt, z_eq, z_lt, z_m1lt, hM.k, hM.k2391, hM.k2392, hM.k2393, hM.k2394, hM.k2395, hM.k2396, hM.k2397, hM.k2398, hM.k2399, hM.k2400, hM.k2401, hM.k2402, hM.k2403, hM.k2404, hM.k2405, hM.k2406, hM.k2407, hM.k2408, hM.k2409, hM.k2410, hM.k2411, hM.k2412, hM.k2413, hM.k2414, hM.k2415, hM.k2416, hM.k2417, hM.k2418, hM.k2419, hM.k2420, hM.k2421, hM.k2422, hM.k2423, hM.l2391, hM.l2392, hM.l2393, hM.l2394, hM.l2395, hM.l2396, hM.l2397, hM.l2398, hM.l2399, hM.l2400, hM.l2401, hM.l2402, hM.l2403, hM.l2404, hM.l2405, hM.l2406, hM.l2407, hM.l2408, hM.l2409, hM.l2410, hM.l2411, hM.l2412, hM.l2413, hM.l2414, hM.l2415, hM.l2416, hM.l2417, hM.l2418, hM.l2419, hM.l2420, hM.l2421, hM.l2422, hM.l2423, ↓hM.g1, ↓hM.g5, ↓hM.g6, ↓hM.g7, ↓hM.g8, ↓hM.g9, ↓hM.g10, ↓hM.g11, ↓hM.g12, ↓hM.g13, ↓hM.g14, ↓hM.g16, ↓hM.g17, ↓hM.g18, ↓hM.g19, ↓hM.g21, ↓hM.g22, ↓hM.g23, ↓hM.g24, ↓hM.g25, ↓hM.g27, ↓hM.g28, ↓hM.g30, ↓hM.g31, ↓hM.g32, ↓hM.g36, ↓hM.g37, ↓hM.g39, ↓hM.g40, ↓hM.g41, ↓hM.g43, ↓hM.g45, ↓hM.g46, ↓zB_c e270, zB_c e270, hi2, y1', Bool.false_and]
          rfl
      have wr : ∃ m2, f280_320 2390 (nI k) x (nI n) (nI (z_rls P k x)) (nI (z_rle P k x)) (nI (z_ct (z_rlb P k x) i)) (nI i) (z_b (z_rlw P k x i && z_isV (z_bd P k) i)) (z_hp S m1) = some (.inl (2390, nI k, x, nI n, nI (z_rls P k x), nI (z_rle P k x), nI (z_ct (z_rlb P k x) (i + 1)), nI (i + 1)), z_hp S m2) ∧ z_ol m2 (z_cat (z_rlg P k x (nI n)) (i + 1)) ∧ z_eF m1 m2 := by
        obtain ⟨m3, e3, d1, d2⟩ := f261_sp (S := S) hM hb1 hk hi2 g1 (by omega)
        by_cases y1 : nI i = x
        · have k5 : z_k (z_bd P k) i = 5 := by
            rcases h5 with q | q
            · rw [← y1] at q; exact absurd q (nI_pos (by omega))
            · rw [← y1, nI_clamp (by omega)] at q; exact q
          have a0 := z_a_0 hB hi2 (by rw [k5]; decide)
          have nb : z_rlb P k x i = false := by
            unfold z_rlb z_isBL z_isL z_isV; rw [k5]; rfl
          obtain ⟨m2, e4, c1, c2⟩ := f260_sp (S := S) hM g1 (by omega) 5 (nI n) 0
          refine ⟨m2, ?_, fin m2 _ (by unfold z_rlg; rw [if_pos (Or.inl y1), k5, a0]) c1, c2⟩
          rw [z_ct_s, nb]
          unfold f280_320 f280_422
          simp (disch := ((try simp only [true_or, or_true, hM.k, hM.k2391, hM.k2392, hM.k2393, hM.k2394, hM.k2395, hM.k2396, hM.k2397, hM.k2398, hM.k2399, hM.k2400, hM.k2401, hM.k2402, hM.k2403, hM.k2404, hM.k2405, hM.k2406, hM.k2407, hM.k2408, hM.k2409, hM.k2410, hM.k2411, hM.k2412, hM.k2413, hM.k2414, hM.k2415, hM.k2416, hM.k2417, hM.k2418, hM.k2419, hM.k2420, hM.k2421, hM.k2422, hM.k2423, hM.l2391, hM.l2392, hM.l2393, hM.l2394, hM.l2395, hM.l2396, hM.l2397, hM.l2398, hM.l2399, hM.l2400, hM.l2401, hM.l2402, hM.l2403, hM.l2404, hM.l2405, hM.l2406, hM.l2407, hM.l2408, hM.l2409, hM.l2410, hM.l2411, hM.l2412, hM.l2413, hM.l2414, hM.l2415, hM.l2416, hM.l2417, hM.l2418, hM.l2419, hM.l2420, hM.l2421, hM.l2422, hM.l2423]) <;> (try omega))) only [↓reduceIte, ↓z_ite, ↓zR, ↓zB_R, ↓zB_B, ↓zB_ite, ↓zB_gI, ↓zB_pI, ↓zB_pZ, ↓zB_aK, ↓zB_G, ↓zB_lI, ↓zB_lZ, ↓zB_wI, ↓zB_wZ, ↓zB_lIl, ↓zB_wIl, zB_pI, zB_pZ, zB_lI, zB_lZ, zB_wI, zB_wZ, z_addl, z_ladd, z_mull, z_lmul, nI_add, z_subl, Nat.not_lt_zero, z_10, z_01, z_bitc, z_b0, z_b1, ↓zB_Gb, ↓zB_G0, ↓zB_G1, z_eql, z_leq, z_ltl, z_llt, z_eq, z_lt, z_m1lt, hM.k, hM.k2391, hM.k2392, hM.k2393, hM.k2394, hM.k2395, hM.k2396, hM.k2397, hM.k2398, hM.k2399, hM.k2400, hM.k2401, hM.k2402, hM.k2403, hM.k2404, hM.k2405, hM.k2406, hM.k2407, hM.k2408, hM.k2409, hM.k2410, hM.k2411, hM.k2412, hM.k2413, hM.k2414, hM.k2415, hM.k2416, hM.k2417, hM.k2418, hM.k2419, hM.k2420, hM.k2421, hM.k2422, hM.k2423, hM.l2391, hM.l2392, hM.l2393, hM.l2394, hM.l2395, hM.l2396, hM.l2397, hM.l2398, hM.l2399, hM.l2400, hM.l2401, hM.l2402, hM.l2403, hM.l2404, hM.l2405, hM.l2406, hM.l2407, hM.l2408, hM.l2409, hM.l2410, hM.l2411, hM.l2412, hM.l2413, hM.l2414, hM.l2415, hM.l2416, hM.l2417, hM.l2418, hM.l2419, hM.l2420, hM.l2421, hM.l2422, hM.l2423, ↓hM.g1, ↓hM.g5, ↓hM.g6, ↓hM.g7, ↓hM.g8, ↓hM.g9, ↓hM.g10, ↓hM.g11, ↓hM.g12, ↓hM.g13, ↓hM.g14, ↓hM.g16, ↓hM.g17, ↓hM.g18, ↓hM.g19, ↓hM.g21, ↓hM.g22, ↓hM.g23, ↓hM.g24, ↓hM.g25, ↓hM.g27, ↓hM.g28, ↓hM.g30, ↓hM.g31, ↓hM.g32, ↓hM.g36, ↓hM.g37, ↓hM.g39, ↓hM.g40, ↓hM.g41, ↓hM.g43, ↓hM.g45, ↓hM.g46, show (nI i = x) = True from eq_true y1, ↓zB_c e4, zB_c e4]
          rfl
        · cases y2 : (z_rlw P k x i && z_isV (z_bd P k) i) with
          | false =>
            have nb : z_rlb P k x i = false := by
              cases q : z_rlb P k x i with
              | false => rfl
              | true =>
                have := z_rlb_w hw hlen hk hx hi2 q
                rw [this, Bool.true_and] at y2
                unfold z_rlb z_isBL z_isL at q; rw [y2] at q; cases q
            have y12 : ¬ (nI i = x ∨ z_rlb P k x i = true) := fun r => by
              rcases r with r | r
              · exact y1 r
              · rw [nb] at r; cases r
            refine ⟨m3, ?_, fin m3 _ ?_ d1, d2⟩
            · rw [z_ct_s, nb]
              unfold f280_320 f280_374 f280_415 f280_422
              simp (disch := ((try simp only [true_or, or_true, hM.k, hM.k2391, hM.k2392, hM.k2393, hM.k2394, hM.k2395, hM.k2396, hM.k2397, hM.k2398, hM.k2399, hM.k2400, hM.k2401, hM.k2402, hM.k2403, hM.k2404, hM.k2405, hM.k2406, hM.k2407, hM.k2408, hM.k2409, hM.k2410, hM.k2411, hM.k2412, hM.k2413, hM.k2414, hM.k2415, hM.k2416, hM.k2417, hM.k2418, hM.k2419, hM.k2420, hM.k2421, hM.k2422, hM.k2423, hM.l2391, hM.l2392, hM.l2393, hM.l2394, hM.l2395, hM.l2396, hM.l2397, hM.l2398, hM.l2399, hM.l2400, hM.l2401, hM.l2402, hM.l2403, hM.l2404, hM.l2405, hM.l2406, hM.l2407, hM.l2408, hM.l2409, hM.l2410, hM.l2411, hM.l2412, hM.l2413, hM.l2414, hM.l2415, hM.l2416, hM.l2417, hM.l2418, hM.l2419, hM.l2420, hM.l2421, hM.l2422, hM.l2423]) <;> (try omega))) only [↓reduceIte, ↓z_ite, ↓zR, ↓zB_R, ↓zB_B, ↓zB_ite, ↓zB_gI, ↓zB_pI, ↓zB_pZ, ↓zB_aK, ↓zB_G, ↓zB_lI, ↓zB_lZ, ↓zB_wI, ↓zB_wZ, ↓zB_lIl, ↓zB_wIl, zB_pI, zB_pZ, zB_lI, zB_lZ, zB_wI, zB_wZ, z_addl, z_ladd, z_mull, z_lmul, nI_add, z_subl, Nat.not_lt_zero, z_10, z_01, z_bitc, z_b0, z_b1, ↓zB_Gb, ↓zB_G0, ↓zB_G1, z_eql, z_leq, z_ltl, z_llt, z_eq, z_lt, z_m1lt, hM.k, hM.k2391, hM.k2392, hM.k2393, hM.k2394, hM.k2395, hM.k2396, hM.k2397, hM.k2398, hM.k2399, hM.k2400, hM.k2401, hM.k2402, hM.k2403, hM.k2404, hM.k2405, hM.k2406, hM.k2407, hM.k2408, hM.k2409, hM.k2410, hM.k2411, hM.k2412, hM.k2413, hM.k2414, hM.k2415, hM.k2416, hM.k2417, hM.k2418, hM.k2419, hM.k2420, hM.k2421, hM.k2422, hM.k2423, hM.l2391, hM.l2392, hM.l2393, hM.l2394, hM.l2395, hM.l2396, hM.l2397, hM.l2398, hM.l2399, hM.l2400, hM.l2401, hM.l2402, hM.l2403, hM.l2404, hM.l2405, hM.l2406, hM.l2407, hM.l2408, hM.l2409, hM.l2410, hM.l2411, hM.l2412, hM.l2413, hM.l2414, hM.l2415, hM.l2416, hM.l2417, hM.l2418, hM.l2419, hM.l2420, hM.l2421, hM.l2422, hM.l2423, ↓hM.g1, ↓hM.g5, ↓hM.g6, ↓hM.g7, ↓hM.g8, ↓hM.g9, ↓hM.g10, ↓hM.g11, ↓hM.g12, ↓hM.g13, ↓hM.g14, ↓hM.g16, ↓hM.g17, ↓hM.g18, ↓hM.g19, ↓hM.g21, ↓hM.g22, ↓hM.g23, ↓hM.g24, ↓hM.g25, ↓hM.g27, ↓hM.g28, ↓hM.g30, ↓hM.g31, ↓hM.g32, ↓hM.g36, ↓hM.g37, ↓hM.g39, ↓hM.g40, ↓hM.g41, ↓hM.g43, ↓hM.g45, ↓hM.g46, y1, ↓zB_c e3, zB_c e3]
              rfl
            · unfold z_rlg
              rw [if_neg y12, if_neg]
              unfold z_isF
              intro q
              simp only [Bool.and_eq_true] at q
              rw [q.1, q.2.1.1] at y2; cases y2
          | true =>
            obtain ⟨yw, gv⟩ := Bool.and_eq_true_iff.mp y2
            have e268 := f268_sp (S := S) hM (hT1 k hk hl) (by omega) hlen hi2
            rw [z_mbn_v gv] at e268
            by_cases y3 : z_Bd P k i = x
            · have yb : z_rlb P k x i = true := by
                unfold z_rlb z_isBL z_isL; rw [gv, y3, decide_eq_true xb]; simp
              have hkv : z_k (z_bd P k) i = 1 ∨ z_k (z_bd P k) i = 6 := by
                unfold z_isV at gv
                simpa [Bool.or_eq_true, beq_iff_eq] using gv
              have a0 := z_a_0 hB hi2 (by rcases hkv with q | q <;> rw [q] <;> decide)
              obtain ⟨m2, e4, c1, c2⟩ := f260_sp (S := S) hM g1 (by omega) (z_k (z_bd P k) i) (nI n) 0
              refine ⟨m2, ?_, fin m2 _ (by unfold z_rlg; rw [if_pos (Or.inr yb), a0]) c1, c2⟩
              rw [z_ct_s, yb]
              unfold f280_320 f280_422
              simp (disch := ((try simp only [true_or, or_true, hM.k, hM.k2391, hM.k2392, hM.k2393, hM.k2394, hM.k2395, hM.k2396, hM.k2397, hM.k2398, hM.k2399, hM.k2400, hM.k2401, hM.k2402, hM.k2403, hM.k2404, hM.k2405, hM.k2406, hM.k2407, hM.k2408, hM.k2409, hM.k2410, hM.k2411, hM.k2412, hM.k2413, hM.k2414, hM.k2415, hM.k2416, hM.k2417, hM.k2418, hM.k2419, hM.k2420, hM.k2421, hM.k2422, hM.k2423, hM.l2391, hM.l2392, hM.l2393, hM.l2394, hM.l2395, hM.l2396, hM.l2397, hM.l2398, hM.l2399, hM.l2400, hM.l2401, hM.l2402, hM.l2403, hM.l2404, hM.l2405, hM.l2406, hM.l2407, hM.l2408, hM.l2409, hM.l2410, hM.l2411, hM.l2412, hM.l2413, hM.l2414, hM.l2415, hM.l2416, hM.l2417, hM.l2418, hM.l2419, hM.l2420, hM.l2421, hM.l2422, hM.l2423]) <;> (try omega))) only [↓reduceIte, ↓z_ite, ↓zR, ↓zB_R, ↓zB_B, ↓zB_ite, ↓zB_gI, ↓zB_pI, ↓zB_pZ, ↓zB_aK, ↓zB_G, ↓zB_lI, ↓zB_lZ, ↓zB_wI, ↓zB_wZ, ↓zB_lIl, ↓zB_wIl, zB_pI, zB_pZ, zB_lI, zB_lZ, zB_wI, zB_wZ, z_addl, z_ladd, z_mull, z_lmul, nI_add, z_subl, Nat.not_lt_zero, z_10, z_01, z_bitc, z_b0, z_b1, ↓zB_Gb, ↓zB_G0, ↓zB_G1, z_eql, z_leq, z_ltl, z_llt, z_eq, z_lt, z_m1lt, hM.k, hM.k2391, hM.k2392, hM.k2393, hM.k2394, hM.k2395, hM.k2396, hM.k2397, hM.k2398, hM.k2399, hM.k2400, hM.k2401, hM.k2402, hM.k2403, hM.k2404, hM.k2405, hM.k2406, hM.k2407, hM.k2408, hM.k2409, hM.k2410, hM.k2411, hM.k2412, hM.k2413, hM.k2414, hM.k2415, hM.k2416, hM.k2417, hM.k2418, hM.k2419, hM.k2420, hM.k2421, hM.k2422, hM.k2423, hM.l2391, hM.l2392, hM.l2393, hM.l2394, hM.l2395, hM.l2396, hM.l2397, hM.l2398, hM.l2399, hM.l2400, hM.l2401, hM.l2402, hM.l2403, hM.l2404, hM.l2405, hM.l2406, hM.l2407, hM.l2408, hM.l2409, hM.l2410, hM.l2411, hM.l2412, hM.l2413, hM.l2414, hM.l2415, hM.l2416, hM.l2417, hM.l2418, hM.l2419, hM.l2420, hM.l2421, hM.l2422, hM.l2423, ↓hM.g1, ↓hM.g5, ↓hM.g6, ↓hM.g7, ↓hM.g8, ↓hM.g9, ↓hM.g10, ↓hM.g11, ↓hM.g12, ↓hM.g13, ↓hM.g14, ↓hM.g16, ↓hM.g17, ↓hM.g18, ↓hM.g19, ↓hM.g21, ↓hM.g22, ↓hM.g23, ↓hM.g24, ↓hM.g25, ↓hM.g27, ↓hM.g28, ↓hM.g30, ↓hM.g31, ↓hM.g32, ↓hM.g36, ↓hM.g37, ↓hM.g39, ↓hM.g40, ↓hM.g41, ↓hM.g43, ↓hM.g45, ↓hM.g46, y1, Bool.true_eq_false, ↓zB_c e268, zB_c e268, show (z_Bd P k i = x) = True from eq_true y3, ↓zB_c ek, zB_c ek, ↓zB_c e4, zB_c e4]
            · have nb : z_rlb P k x i = false := by
                unfold z_rlb z_isBL; rw [show (z_Bd P k i == x) = false by simpa using y3, Bool.and_false]
              have y12 : ¬ (nI i = x ∨ z_rlb P k x i = true) := fun r => by
                rcases r with r | r
                · exact y1 r
                · rw [nb] at r; cases r
              have plainN : (!decide (z_Bd P k i < 1000) && z_v (z_bd P k) i == nI n) = false → z_rlg P k x (nI n) i = [z_at (z_bd P k) i] := fun q => by
                unfold z_rlg z_isF
                rw [if_neg y12, yw, gv, Bool.true_and, Bool.true_and, q, if_neg Bool.false_ne_true]
              rw [z_ct_s, nb]
              by_cases y4 : z_v (z_bd P k) i = nI n
              · by_cases y5 : z_Bd P k i < 1000
                · refine ⟨m3, ?_, fin m3 _ (plainN (by rw [decide_eq_true y5]; rfl)) d1, d2⟩
                  unfold f280_320 f280_374 f280_415 f280_422
                  simp (disch := ((try simp only [true_or, or_true, hM.k, hM.k2391, hM.k2392, hM.k2393, hM.k2394, hM.k2395, hM.k2396, hM.k2397, hM.k2398, hM.k2399, hM.k2400, hM.k2401, hM.k2402, hM.k2403, hM.k2404, hM.k2405, hM.k2406, hM.k2407, hM.k2408, hM.k2409, hM.k2410, hM.k2411, hM.k2412, hM.k2413, hM.k2414, hM.k2415, hM.k2416, hM.k2417, hM.k2418, hM.k2419, hM.k2420, hM.k2421, hM.k2422, hM.k2423, hM.l2391, hM.l2392, hM.l2393, hM.l2394, hM.l2395, hM.l2396, hM.l2397, hM.l2398, hM.l2399, hM.l2400, hM.l2401, hM.l2402, hM.l2403, hM.l2404, hM.l2405, hM.l2406, hM.l2407, hM.l2408, hM.l2409, hM.l2410, hM.l2411, hM.l2412, hM.l2413, hM.l2414, hM.l2415, hM.l2416, hM.l2417, hM.l2418, hM.l2419, hM.l2420, hM.l2421, hM.l2422, hM.l2423]) <;> (try omega))) only [↓reduceIte, ↓z_ite, ↓zR, ↓zB_R, ↓zB_B, ↓zB_ite, ↓zB_gI, ↓zB_pI, ↓zB_pZ, ↓zB_aK, ↓zB_G, ↓zB_lI, ↓zB_lZ, ↓zB_wI, ↓zB_wZ, ↓zB_lIl, ↓zB_wIl, zB_pI, zB_pZ, zB_lI, zB_lZ, zB_wI, zB_wZ, z_addl, z_ladd, z_mull, z_lmul, nI_add, z_subl, Nat.not_lt_zero, z_10, z_01, z_bitc, z_b0, z_b1, ↓zB_Gb, ↓zB_G0, ↓zB_G1, z_eql, z_leq, z_ltl, z_llt, z_eq, z_lt, z_m1lt, hM.k, hM.k2391, hM.k2392, hM.k2393, hM.k2394, hM.k2395, hM.k2396, hM.k2397, hM.k2398, hM.k2399, hM.k2400, hM.k2401, hM.k2402, hM.k2403, hM.k2404, hM.k2405, hM.k2406, hM.k2407, hM.k2408, hM.k2409, hM.k2410, hM.k2411, hM.k2412, hM.k2413, hM.k2414, hM.k2415, hM.k2416, hM.k2417, hM.k2418, hM.k2419, hM.k2420, hM.k2421, hM.k2422, hM.k2423, hM.l2391, hM.l2392, hM.l2393, hM.l2394, hM.l2395, hM.l2396, hM.l2397, hM.l2398, hM.l2399, hM.l2400, hM.l2401, hM.l2402, hM.l2403, hM.l2404, hM.l2405, hM.l2406, hM.l2407, hM.l2408, hM.l2409, hM.l2410, hM.l2411, hM.l2412, hM.l2413, hM.l2414, hM.l2415, hM.l2416, hM.l2417, hM.l2418, hM.l2419, hM.l2420, hM.l2421, hM.l2422, hM.l2423, ↓hM.g1, ↓hM.g5, ↓hM.g6, ↓hM.g7, ↓hM.g8, ↓hM.g9, ↓hM.g10, ↓hM.g11, ↓hM.g12, ↓hM.g13, ↓hM.g14, ↓hM.g16, ↓hM.g17, ↓hM.g18, ↓hM.g19, ↓hM.g21, ↓hM.g22, ↓hM.g23, ↓hM.g24, ↓hM.g25, ↓hM.g27, ↓hM.g28, ↓hM.g30, ↓hM.g31, ↓hM.g32, ↓hM.g36, ↓hM.g37, ↓hM.g39, ↓hM.g40, ↓hM.g41, ↓hM.g43, ↓hM.g45, ↓hM.g46, y1, Bool.true_eq_false, ↓zB_c e268, zB_c e268, y3, ↓zB_c ev, zB_c ev, y4, y5, ↓zB_c e3, zB_c e3]
                  rfl
                · obtain ⟨m4, e5, c1, c2⟩ := f263_sp (S := S) hM hb1 hk hi2 g1 (by omega) (nI n)
                  refine ⟨m4, ?_, fin m4 _ (by
                    unfold z_rlg z_isF
                    rw [if_neg y12, yw, gv, decide_eq_false y5, show (z_v (z_bd P k) i == nI n) = true by simpa using y4]; rfl) c1, c2⟩
                  unfold f280_320 f280_374 f280_415 f280_422
                  simp (disch := ((try simp only [true_or, or_true, hM.k, hM.k2391, hM.k2392, hM.k2393, hM.k2394, hM.k2395, hM.k2396, hM.k2397, hM.k2398, hM.k2399, hM.k2400, hM.k2401, hM.k2402, hM.k2403, hM.k2404, hM.k2405, hM.k2406, hM.k2407, hM.k2408, hM.k2409, hM.k2410, hM.k2411, hM.k2412, hM.k2413, hM.k2414, hM.k2415, hM.k2416, hM.k2417, hM.k2418, hM.k2419, hM.k2420, hM.k2421, hM.k2422, hM.k2423, hM.l2391, hM.l2392, hM.l2393, hM.l2394, hM.l2395, hM.l2396, hM.l2397, hM.l2398, hM.l2399, hM.l2400, hM.l2401, hM.l2402, hM.l2403, hM.l2404, hM.l2405, hM.l2406, hM.l2407, hM.l2408, hM.l2409, hM.l2410, hM.l2411, hM.l2412, hM.l2413, hM.l2414, hM.l2415, hM.l2416, hM.l2417, hM.l2418, hM.l2419, hM.l2420, hM.l2421, hM.l2422, hM.l2423]) <;> (try omega))) only [↓reduceIte, ↓z_ite, ↓zR, ↓zB_R, ↓zB_B, ↓zB_ite, ↓zB_gI, ↓zB_pI, ↓zB_pZ, ↓zB_aK, ↓zB_G, ↓zB_lI, ↓zB_lZ, ↓zB_wI, ↓zB_wZ, ↓zB_lIl, ↓zB_wIl, zB_pI, zB_pZ, zB_lI, zB_lZ, zB_wI, zB_wZ, z_addl, z_ladd, z_mull, z_lmul, nI_add, z_subl, Nat.not_lt_zero, z_10, z_01, z_bitc, z_b0, z_b1, ↓zB_Gb, ↓zB_G0, ↓zB_G1, z_eql, z_leq, z_ltl, z_llt, z_eq, z_lt, z_m1lt, hM.k, hM.k2391, hM.k2392, hM.k2393, hM.k2394, hM.k2395, hM.k2396, hM.k2397, hM.k2398, hM.k2399, hM.k2400, hM.k2401, hM.k2402, hM.k2403, hM.k2404, hM.k2405, hM.k2406, hM.k2407, hM.k2408, hM.k2409, hM.k2410, hM.k2411, hM.k2412, hM.k2413, hM.k2414, hM.k2415, hM.k2416, hM.k2417, hM.k2418, hM.k2419, hM.k2420, hM.k2421, hM.k2422, hM.k2423, hM.l2391, hM.l2392, hM.l2393, hM.l2394, hM.l2395, hM.l2396, hM.l2397, hM.l2398, hM.l2399, hM.l2400, hM.l2401, hM.l2402, hM.l2403, hM.l2404, hM.l2405, hM.l2406, hM.l2407, hM.l2408, hM.l2409, hM.l2410, hM.l2411, hM.l2412, hM.l2413, hM.l2414, hM.l2415, hM.l2416, hM.l2417, hM.l2418, hM.l2419, hM.l2420, hM.l2421, hM.l2422, hM.l2423, ↓hM.g1, ↓hM.g5, ↓hM.g6, ↓hM.g7, ↓hM.g8, ↓hM.g9, ↓hM.g10, ↓hM.g11, ↓hM.g12, ↓hM.g13, ↓hM.g14, ↓hM.g16, ↓hM.g17, ↓hM.g18, ↓hM.g19, ↓hM.g21, ↓hM.g22, ↓hM.g23, ↓hM.g24, ↓hM.g25, ↓hM.g27, ↓hM.g28, ↓hM.g30, ↓hM.g31, ↓hM.g32, ↓hM.g36, ↓hM.g37, ↓hM.g39, ↓hM.g40, ↓hM.g41, ↓hM.g43, ↓hM.g45, ↓hM.g46, y1, Bool.true_eq_false, ↓zB_c e268, zB_c e268, y3, ↓zB_c ev, zB_c ev, y4, y5, ↓zB_c e5, zB_c e5]
                  rfl
              · refine ⟨m3, ?_, fin m3 _ (plainN (by rw [show (z_v (z_bd P k) i == nI n) = false by simpa using y4, Bool.and_false])) d1, d2⟩
                unfold f280_320 f280_374 f280_415 f280_422
                simp (disch := ((try simp only [true_or, or_true, hM.k, hM.k2391, hM.k2392, hM.k2393, hM.k2394, hM.k2395, hM.k2396, hM.k2397, hM.k2398, hM.k2399, hM.k2400, hM.k2401, hM.k2402, hM.k2403, hM.k2404, hM.k2405, hM.k2406, hM.k2407, hM.k2408, hM.k2409, hM.k2410, hM.k2411, hM.k2412, hM.k2413, hM.k2414, hM.k2415, hM.k2416, hM.k2417, hM.k2418, hM.k2419, hM.k2420, hM.k2421, hM.k2422, hM.k2423, hM.l2391, hM.l2392, hM.l2393, hM.l2394, hM.l2395, hM.l2396, hM.l2397, hM.l2398, hM.l2399, hM.l2400, hM.l2401, hM.l2402, hM.l2403, hM.l2404, hM.l2405, hM.l2406, hM.l2407, hM.l2408, hM.l2409, hM.l2410, hM.l2411, hM.l2412, hM.l2413, hM.l2414, hM.l2415, hM.l2416, hM.l2417, hM.l2418, hM.l2419, hM.l2420, hM.l2421, hM.l2422, hM.l2423]) <;> (try omega))) only [↓reduceIte, ↓z_ite, ↓zR, ↓zB_R, ↓zB_B, ↓zB_ite, ↓zB_gI, ↓zB_pI, ↓zB_pZ, ↓zB_aK, ↓zB_G, ↓zB_lI, ↓zB_lZ, ↓zB_wI, ↓zB_wZ, ↓zB_lIl, ↓zB_wIl, zB_pI, zB_pZ, zB_lI, zB_lZ, zB_wI, zB_wZ, z_addl, z_ladd, z_mull, z_lmul, nI_add, z_subl, Nat.not_lt_zero, z_10, z_01, z_bitc, z_b0, z_b1, ↓zB_Gb, ↓zB_G0, ↓zB_G1, z_eql, z_leq, z_ltl, z_llt, z_eq, z_lt, z_m1lt, hM.k, hM.k2391, hM.k2392, hM.k2393, hM.k2394, hM.k2395, hM.k2396, hM.k2397, hM.k2398, hM.k2399, hM.k2400, hM.k2401, hM.k2402, hM.k2403, hM.k2404, hM.k2405, hM.k2406, hM.k2407, hM.k2408, hM.k2409, hM.k2410, hM.k2411, hM.k2412, hM.k2413, hM.k2414, hM.k2415, hM.k2416, hM.k2417, hM.k2418, hM.k2419, hM.k2420, hM.k2421, hM.k2422, hM.k2423, hM.l2391, hM.l2392, hM.l2393, hM.l2394, hM.l2395, hM.l2396, hM.l2397, hM.l2398, hM.l2399, hM.l2400, hM.l2401, hM.l2402, hM.l2403, hM.l2404, hM.l2405, hM.l2406, hM.l2407, hM.l2408, hM.l2409, hM.l2410, hM.l2411, hM.l2412, hM.l2413, hM.l2414, hM.l2415, hM.l2416, hM.l2417, hM.l2418, hM.l2419, hM.l2420, hM.l2421, hM.l2422, hM.l2423, ↓hM.g1, ↓hM.g5, ↓hM.g6, ↓hM.g7, ↓hM.g8, ↓hM.g9, ↓hM.g10, ↓hM.g11, ↓hM.g12, ↓hM.g13, ↓hM.g14, ↓hM.g16, ↓hM.g17, ↓hM.g18, ↓hM.g19, ↓hM.g21, ↓hM.g22, ↓hM.g23, ↓hM.g24, ↓hM.g25, ↓hM.g27, ↓hM.g28, ↓hM.g30, ↓hM.g31, ↓hM.g32, ↓hM.g36, ↓hM.g37, ↓hM.g39, ↓hM.g40, ↓hM.g41, ↓hM.g43, ↓hM.g45, ↓hM.g46, y1, Bool.true_eq_false, ↓zB_c e268, zB_c e268, y3, ↓zB_c ev, zB_c ev, y4, ↓zB_c e3, zB_c e3]
                rfl
      obtain ⟨m2, ew, c1, c2⟩ := wr
      exact Or.inl ⟨_, m2, (z_bd P k).length - (i + 1), e320.trans ew, by omega, i + 1, rfl, hi2, rfl, c1, g2.trans c2⟩
end
