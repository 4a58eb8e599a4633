-- deps: 90.77.min
/-! a call written out: the reference writes -/
section
variable {S : z_S} {m : z_m} {A : z_A} {P : z_Pg}
/-- how long the LETs are -/
theorem z_inL_len (hw : z_wf P) {k i t : Nat} (hk : k < z_nm P) (hi : i < (z_bd P k).length) (ht : t < z_p (z_bd P k) i) (n : Int32) : (z_inL P k i t n).length = 1 + (z_en (z_bd P k) (z_pt (z_bd P k) i t) - z_pt (z_bd P k) i t) ∧ z_pt (z_bd P k) i t < z_en (z_bd P k) (z_pt (z_bd P k) i t) ∧ z_en (z_bd P k) (z_pt (z_bd P k) i t) ≤ z_en (z_bd P k) i ∧ i < z_pt (z_bd P k) i t := by
  have hB := hw.2.2.2.2.1 k hk
  have hpt := z_pt_lt hB.1 hi ht
  have h1 := z_en_le hB.1 hpt
  have h2 := z_en_gt hpt
  have h3 := z_pt_en hi ht
  have h4 := z_pt_ge (l := z_bd P k) (i := i) t
  refine ⟨?_, h2, h3, h4⟩
  unfold z_inL
  rw [List.length_cons, z_sub_len (by omega) (by omega)]; omega
noncomputable def z_inP (P : z_Pg) (k i t : Nat) (n1 n2 : Int32) : List z_N := (z_sub (z_bd P k) 0 i ++ (if 0 < t then z_inL P k i 1 n1 else [])) ++ (if 1 < t then z_inL P k i 2 n2 else [])
theorem z_inP_len (hw : z_wf P) {k i t : Nat} (hk : k < z_nm P) (hi : i < (z_bd P k).length) (ht : t < z_p (z_bd P k) i) (h2 : t ≤ 2) (n1 n2 : Int32) : (z_inP P k i t n1 n2).length ≤ z_en (z_bd P k) i + 2 := by
  have hgt := z_en_gt hi
  have l0 : (z_sub (z_bd P k) 0 i).length = i := by rw [z_sub_len (Nat.zero_le i) (Nat.le_of_lt hi)]; omega
  unfold z_inP
  rw [List.length_append, List.length_append, l0]
  have c3 : t = 0 ∨ t = 1 ∨ t = 2 := by omega
  rcases c3 with rfl | rfl | rfl
  · rw [if_neg (by decide), if_neg (by decide)]
    show i + 0 + 0 ≤ _; omega
  · rw [if_pos (by decide), if_neg (by decide)]
    obtain ⟨a1, a2, a3, a4⟩ := z_inL_len hw hk hi (show 1 < z_p (z_bd P k) i by omega) n1
    rw [a1]
    show i + _ + 0 ≤ _; omega
  · rw [if_pos (by decide), if_pos (by decide)]
    obtain ⟨a1, a2, a3, a4⟩ := z_inL_len hw hk hi (show 1 < z_p (z_bd P k) i by omega) n1
    obtain ⟨b1, b2, b3, b4⟩ := z_inL_len hw hk hi (show 2 < z_p (z_bd P k) i by omega) n2
    have e2 : z_pt (z_bd P k) i 2 = z_en (z_bd P k) (z_pt (z_bd P k) i 1) := z_pt_s _ _ 1
    rw [a1, b1]; omega
theorem f284_193_sp (hM : z_MS S) (hw : z_wf P) (h60 : z_b60 P) (h : z_mb m 0 P) (hT : z_mLT m P) {k i q ar : Nat} (hk : k < z_nm P) (hlk : z_liv P k = true) (hi : i < (z_bd P k).length) (hp1 : z_p (z_bd P k) i = 1 + ar) (har : ar ≤ 2) {n1 n2 : Int32} (ho : z_ol m (z_sub (z_bd P k) 0 i)) : ∃ m', f284_193 2390 (nI k) (nI i) (nI ar) (nI q) n1 n2 0 (z_hp S m) = f284_252 2390 (nI k) (nI i) (nI q) n1 n2 (z_hp S m') ∧ z_ol m' (z_inP P k i ar n1 n2) ∧ z_eF m m' := by
  have h24 := hw.2.2.1
  have hlen := h60 k hk
  have hB := hw.2.2.2.2.1 k hk
  have hle := z_en_le hB.1 hi
  unfold f284_193
  have key := z_loopT (f := fun s => f284_193b (s.1) (s.2.1) (s.2.2.1) (s.2.2.2.1) (s.2.2.2.2.1) (s.2.2.2.2.2.1) (s.2.2.2.2.2.2.1) (s.2.2.2.2.2.2.2)) (S := S) (fun N st m' => ∃ t, N = ar - t ∧ t ≤ ar ∧ st = (2390, nI k, nI i, nI ar, nI q, n1, n2, nI t) ∧ z_ol m' (z_inP P k i t n1 n2) ∧ z_eF m m') (fun X m' => X = f284_252 2390 (nI k) (nI i) (nI q) n1 n2 ∧ z_ol m' (z_inP P k i ar n1 n2) ∧ z_eF m m') ?_ 1000000 ar (2390, nI k, nI i, nI ar, nI q, n1, n2, 0) m ⟨0, rfl, Nat.zero_le _, rfl, by unfold z_inP; rw [if_neg (by decide), if_neg (by decide), List.append_nil, List.append_nil]; exact ho, z_eF.refl m⟩ (by omega)
  · obtain ⟨X, m', e, rfl, g⟩ := key
    exact ⟨m', e, g⟩
  · rintro N st m1 ⟨t, rfl, ht, rfl, g1, g2⟩
    have hb1 : z_mb m1 0 P := z_mb_mF g2.mF (by decide) h
    have hT1 := z_mLT_mF g2.mF hT
    dsimp only
    rcases Nat.eq_or_lt_of_le ht with ht2 | ht2
    · refine Or.inr ⟨_, m1, ?_, rfl, by rw [ht2] at g1; exact g1, g2⟩
      unfold f284_193b
      rw [ht2]
      simp (disch := ((try simp only [true_or, or_true, hM.k, hM.k2391, hM.k2392, hM.k2393, hM.k2394, hM.k2395, hM.k2396, hM.k2397, hM.k2398, hM.k2399, hM.k2400, hM.k2401, hM.k2402, hM.k2403, hM.k2404, hM.k2405, hM.k2406, hM.k2407, hM.k2408, hM.k2409, hM.k2410, hM.k2411, hM.k2412, hM.k2413, hM.k2414, hM.k2415, hM.k2416, hM.k2417, hM.k2418, hM.k2419, hM.k2420, hM.k2421, hM.k2422, hM.k2423, hM.l2391, hM.l2392, hM.l2393, hM.l2394, hM.l2395, hM.l2396, hM.l2397, hM.l2398, hM.l2399, hM.l2400, hM.l2401, hM.l2402, hM.l2403, hM.l2404, hM.l2405, hM.l2406, hM.l2407, hM.l2408, hM.l2409, hM.l2410, hM.l2411, hM.l2412, hM.l2413, hM.l2414, hM.l2415, hM.l2416, hM.l2417, hM.l2418, hM.l2419, hM.l2420, hM.l2421, hM.l2422, hM.l2423]) <;> (try omega))) only [↓reduceIte, ↓z_ite, ↓zR, ↓zB_R, ↓zB_B, ↓zB_ite, ↓zB_gI, ↓zB_pI, ↓zB_pZ, ↓zB_aK, ↓zB_G, ↓zB_lI, ↓zB_lZ, ↓zB_wI, ↓zB_wZ, ↓zB_lIl, ↓zB_wIl, zB_pI, zB_pZ, zB_lI, zB_lZ, zB_wI, zB_wZ, z_addl, z_ladd, z_mull, z_lmul, nI_add, z_subl, Nat.not_lt_zero, z_10, z_01, z_bitc, z_b0, z_b1, ↓zB_Gb, ↓zB_G0, ↓zB_G1, z_eql, z_leq, z_ltl, z_llt, z_eq, z_lt, z_m1lt, hM.k, hM.k2391, hM.k2392, hM.k2393, hM.k2394, hM.k2395, hM.k2396, hM.k2397, hM.k2398, hM.k2399, hM.k2400, hM.k2401, hM.k2402, hM.k2403, hM.k2404, hM.k2405, hM.k2406, hM.k2407, hM.k2408, hM.k2409, hM.k2410, hM.k2411, hM.k2412, hM.k2413, hM.k2414, hM.k2415, hM.k2416, hM.k2417, hM.k2418, hM.k2419, hM.k2420, hM.k2421, hM.k2422, hM.k2423, hM.l2391, hM.l2392, hM.l2393, hM.l2394, hM.l2395, hM.l2396, hM.l2397, hM.l2398, hM.l2399, hM.l2400, hM.l2401, hM.l2402, hM.l2403, hM.l2404, hM.l2405, hM.l2406, hM.l2407, hM.l2408, hM.l2409, hM.l2410, hM.l2411, hM.l2412, hM.l2413, hM.l2414, hM.l2415, hM.l2416, hM.l2417, hM.l2418, hM.l2419, hM.l2420, hM.l2421, hM.l2422, hM.l2423, ↓hM.g1, ↓hM.g5, ↓hM.g6, ↓hM.g7, ↓hM.g8, ↓hM.g9, ↓hM.g10, ↓hM.g11, ↓hM.g12, ↓hM.g13, ↓hM.g14, ↓hM.g16, ↓hM.g17, ↓hM.g18, ↓hM.g19, ↓hM.g21, ↓hM.g22, ↓hM.g23, ↓hM.g24, ↓hM.g25, ↓hM.g27, ↓hM.g28, ↓hM.g30, ↓hM.g31, ↓hM.g32, ↓hM.g36, ↓hM.g37, ↓hM.g39, ↓hM.g40, ↓hM.g41, ↓hM.g43, ↓hM.g45, ↓hM.g46, Nat.lt_irrefl]
    · have hpl := z_inP_len hw hk hi (show t < z_p (z_bd P k) i by omega) (by omega) n1 n2
      have hpt := z_pt_lt hB.1 hi (show 1 + t < z_p (z_bd P k) i by omega)
      have hpe := z_en_le hB.1 hpt
      have hpg := z_en_gt hpt
      have e223 := f223_sp (S := S) hM hB.1 (show (z_bd P k).length ≤ 192 by omega) (show k < 24 by omega) hi (fun u _ hu => (hT1 k hk hlk u hu).1) (j := 1 + t) (by omega)
      have ex : (1 : Int32) + nI t = nI (1 + t) := nI_add 1 t
      obtain ⟨m2, e260, o2, F2⟩ := f260_sp (S := S) hM g1 (by omega) 5 (if t = 0 then n1 else n2) 0
      have hb2 : z_mb m2 0 P := z_mb_mF F2.mF (by decide) hb1
      have hT2 := z_mLT_mF F2.mF hT1
      have e269 := f269_sp (S := S) hM (hT2 k hk hlk) (by omega) (by omega) hpt
      have hadd : nI (z_pt (z_bd P k) i (1 + t)) + nI (z_sz (z_bd P k) (z_pt (z_bd P k) i (1 + t))) = nI (z_en (z_bd P k) (z_pt (z_bd P k) i (1 + t))) := nI_add _ _
      obtain ⟨m3, e262, o3, F3⟩ := f262_sp (S := S) hM hb2 hk (Nat.le_of_lt hpg) hpe o2 (by rw [List.length_append]; show _ + 1 + _ ≤ 400; omega)
      have o3 : z_ol m3 (z_inP P k i (t + 1) n1 n2) := by
        have : z_inP P k i (t + 1) n1 n2 = (z_inP P k i t n1 n2 ++ [(5, (if t = 0 then n1 else n2), 0)]) ++ z_sub (z_bd P k) (z_pt (z_bd P k) i (1 + t)) (z_en (z_bd P k) (z_pt (z_bd P k) i (1 + t))) := by
          have c2 : t = 0 ∨ t = 1 := by omega
          unfold z_inP z_inL
          rcases c2 with rfl | rfl
          · simp
          · simp
        rw [this]; exact o3
      refine Or.inl ⟨(2390, nI k, nI i, nI ar, nI q, n1, n2, nI (t + 1)), m3, ar - (t + 1), ?_, by omega, t + 1, rfl, ht2, rfl, o3, g2.trans (F2.trans F3)⟩
      unfold f284_193b f284_225
      by_cases t0 : t = 0
      · rw [if_pos t0] at e260
        subst t0
        simp (disch := ((try simp only [true_or, or_true, hM.k, hM.k2391, hM.k2392, hM.k2393, hM.k2394, hM.k2395, hM.k2396, hM.k2397, hM.k2398, hM.k2399, hM.k2400, hM.k2401, hM.k2402, hM.k2403, hM.k2404, hM.k2405, hM.k2406, hM.k2407, hM.k2408, hM.k2409, hM.k2410, hM.k2411, hM.k2412, hM.k2413, hM.k2414, hM.k2415, hM.k2416, hM.k2417, hM.k2418, hM.k2419, hM.k2420, hM.k2421, hM.k2422, hM.k2423, hM.l2391, hM.l2392, hM.l2393, hM.l2394, hM.l2395, hM.l2396, hM.l2397, hM.l2398, hM.l2399, hM.l2400, hM.l2401, hM.l2402, hM.l2403, hM.l2404, hM.l2405, hM.l2406, hM.l2407, hM.l2408, hM.l2409, hM.l2410, hM.l2411, hM.l2412, hM.l2413, hM.l2414, hM.l2415, hM.l2416, hM.l2417, hM.l2418, hM.l2419, hM.l2420, hM.l2421, hM.l2422, hM.l2423]) <;> (try omega))) only [↓reduceIte, ↓z_ite, ↓zR, ↓zB_R, ↓zB_B, ↓zB_ite, ↓zB_gI, ↓zB_pI, ↓zB_pZ, ↓zB_aK, ↓zB_G, ↓zB_lI, ↓zB_lZ, ↓zB_wI, ↓zB_wZ, ↓zB_lIl, ↓zB_wIl, zB_pI, zB_pZ, zB_lI, zB_lZ, zB_wI, zB_wZ, z_addl, z_ladd, z_mull, z_lmul, nI_add, z_subl, Nat.not_lt_zero, z_10, z_01, z_bitc, z_b0, z_b1, ↓zB_Gb, ↓zB_G0, ↓zB_G1, z_eql, z_leq, z_ltl, z_llt, z_eq, z_lt, z_m1lt, hM.k, hM.k2391, hM.k2392, hM.k2393, hM.k2394, hM.k2395, hM.k2396, hM.k2397, hM.k2398, hM.k2399, hM.k2400, hM.k2401, hM.k2402, hM.k2403, hM.k2404, hM.k2405, hM.k2406, hM.k2407, hM.k2408, hM.k2409, hM.k2410, hM.k2411, hM.k2412, hM.k2413, hM.k2414, hM.k2415, hM.k2416, hM.k2417, hM.k2418, hM.k2419, hM.k2420, hM.k2421, hM.k2422, hM.k2423, hM.l2391, hM.l2392, hM.l2393, hM.l2394, hM.l2395, hM.l2396, hM.l2397, hM.l2398, hM.l2399, hM.l2400, hM.l2401, hM.l2402, hM.l2403, hM.l2404, hM.l2405, hM.l2406, hM.l2407, hM.l2408, hM.l2409, hM.l2410, hM.l2411, hM.l2412, hM.l2413, hM.l2414, hM.l2415, hM.l2416, hM.l2417, hM.l2418, hM.l2419, hM.l2420, hM.l2421, hM.l2422, hM.l2423, ↓hM.g1, ↓hM.g5, ↓hM.g6, ↓hM.g7, ↓hM.g8, ↓hM.g9, ↓hM.g10, ↓hM.g11, ↓hM.g12, ↓hM.g13, ↓hM.g14, ↓hM.g16, ↓hM.g17, ↓hM.g18, ↓hM.g19, ↓hM.g21, ↓hM.g22, ↓hM.g23, ↓hM.g24, ↓hM.g25, ↓hM.g27, ↓hM.g28, ↓hM.g30, ↓hM.g31, ↓hM.g32, ↓hM.g36, ↓hM.g37, ↓hM.g39, ↓hM.g40, ↓hM.g41, ↓hM.g43, ↓hM.g45, ↓hM.g46, ht2, ex, ↓zB_c e223, zB_c e223, ↓zB_c e260, zB_c e260, ↓zB_c e269, zB_c e269, hadd, ↓zB_c e262, zB_c e262]
      · rw [if_neg t0] at e260
        simp (disch := ((try simp only [true_or, or_true, hM.k, hM.k2391, hM.k2392, hM.k2393, hM.k2394, hM.k2395, hM.k2396, hM.k2397, hM.k2398, hM.k2399, hM.k2400, hM.k2401, hM.k2402, hM.k2403, hM.k2404, hM.k2405, hM.k2406, hM.k2407, hM.k2408, hM.k2409, hM.k2410, hM.k2411, hM.k2412, hM.k2413, hM.k2414, hM.k2415, hM.k2416, hM.k2417, hM.k2418, hM.k2419, hM.k2420, hM.k2421, hM.k2422, hM.k2423, hM.l2391, hM.l2392, hM.l2393, hM.l2394, hM.l2395, hM.l2396, hM.l2397, hM.l2398, hM.l2399, hM.l2400, hM.l2401, hM.l2402, hM.l2403, hM.l2404, hM.l2405, hM.l2406, hM.l2407, hM.l2408, hM.l2409, hM.l2410, hM.l2411, hM.l2412, hM.l2413, hM.l2414, hM.l2415, hM.l2416, hM.l2417, hM.l2418, hM.l2419, hM.l2420, hM.l2421, hM.l2422, hM.l2423]) <;> (try omega))) only [↓reduceIte, ↓z_ite, ↓zR, ↓zB_R, ↓zB_B, ↓zB_ite, ↓zB_gI, ↓zB_pI, ↓zB_pZ, ↓zB_aK, ↓zB_G, ↓zB_lI, ↓zB_lZ, ↓zB_wI, ↓zB_wZ, ↓zB_lIl, ↓zB_wIl, zB_pI, zB_pZ, zB_lI, zB_lZ, zB_wI, zB_wZ, z_addl, z_ladd, z_mull, z_lmul, nI_add, z_subl, Nat.not_lt_zero, z_10, z_01, z_bitc, z_b0, z_b1, ↓zB_Gb, ↓zB_G0, ↓zB_G1, z_eql, z_leq, z_ltl, z_llt, z_eq, z_lt, z_m1lt, hM.k, hM.k2391, hM.k2392, hM.k2393, hM.k2394, hM.k2395, hM.k2396, hM.k2397, hM.k2398, hM.k2399, hM.k2400, hM.k2401, hM.k2402, hM.k2403, hM.k2404, hM.k2405, hM.k2406, hM.k2407, hM.k2408, hM.k2409, hM.k2410, hM.k2411, hM.k2412, hM.k2413, hM.k2414, hM.k2415, hM.k2416, hM.k2417, hM.k2418, hM.k2419, hM.k2420, hM.k2421, hM.k2422, hM.k2423, hM.l2391, hM.l2392, hM.l2393, hM.l2394, hM.l2395, hM.l2396, hM.l2397, hM.l2398, hM.l2399, hM.l2400, hM.l2401, hM.l2402, hM.l2403, hM.l2404, hM.l2405, hM.l2406, hM.l2407, hM.l2408, hM.l2409, hM.l2410, hM.l2411, hM.l2412, hM.l2413, hM.l2414, hM.l2415, hM.l2416, hM.l2417, hM.l2418, hM.l2419, hM.l2420, hM.l2421, hM.l2422, hM.l2423, ↓hM.g1, ↓hM.g5, ↓hM.g6, ↓hM.g7, ↓hM.g8, ↓hM.g9, ↓hM.g10, ↓hM.g11, ↓hM.g12, ↓hM.g13, ↓hM.g14, ↓hM.g16, ↓hM.g17, ↓hM.g18, ↓hM.g19, ↓hM.g21, ↓hM.g22, ↓hM.g23, ↓hM.g24, ↓hM.g25, ↓hM.g27, ↓hM.g28, ↓hM.g30, ↓hM.g31, ↓hM.g32, ↓hM.g36, ↓hM.g37, ↓hM.g39, ↓hM.g40, ↓hM.g41, ↓hM.g43, ↓hM.g45, ↓hM.g46, ht2, ex, ↓zB_c e223, zB_c e223, t0, ↓zB_c e260, zB_c e260, ↓zB_c e269, zB_c e269, hadd, ↓zB_c e262, zB_c e262]
end
