-- deps: 90.14.fam 90.15.right 90.16.mfam 90.17.reach
/-! what calls reach: the reference -/
section
variable {S : z_S} {m : z_m} {b : Nat} {P : z_Pg} {B : Int32}
/-- all bodies that are there are looked at -/
def z_mLT (m : z_m) (P : z_Pg) : Prop := ∀ k, k < z_nm P → z_liv P k = true → z_mTY m P k
theorem z_mLT_fr {m' : z_m} (h : ∀ a, 2397 ≤ a → a ≤ 2400 → m' a = m a) (ht : z_mLT m P) : z_mLT m' P := fun k hk hl j hj => by
  rw [h 2397 (by decide) (by decide), h 2398 (by decide) (by decide), h 2399 (by decide) (by decide), h 2400 (by decide) (by decide)]
  exact ht k hk hl j hj
/-- between what is marked and all that is reached -/
theorem z_rnd_up {n i j : Nat} {R : Nat → Nat → Bool} {s0 s : Nat → Bool} (h : z_rnd n R s0 s) (hj : z_clo n R s0 j = true) : z_rnd n R s0 (fun q => s q || decide (j = q)) := by
  refine ⟨fun q hq => ?_, fun q hq => ?_⟩
  · show (s q || decide (j = q)) = true
    rw [h.1 q hq]; rfl
  · rcases Bool.or_eq_true _ _ ▸ hq with h3 | h3
    · exact h.2 q h3
    · have : j = q := by simpa using h3
      subst this; exact hj
/-- what a look along marks may come to: more is marked, or nothing -/
def z_mkd (n : Nat) (s s' : Nat → Bool) (mo : Bool) : Prop := (∀ j, s j = true → s' j = true) ∧ ((mo = true ∧ z_ct s n < z_ct s' n) ∨ (mo = false ∧ s' = s))
theorem z_mkd.refl (n : Nat) (s : Nat → Bool) : z_mkd n s s false := ⟨fun _ h => h, Or.inr ⟨rfl, rfl⟩⟩
theorem z_mkd.trans {n : Nat} {s s' s'' : Nat → Bool} {a b : Bool} (h : z_mkd n s s' a) (h2 : z_mkd n s' s'' b) : z_mkd n s s'' (a || b) := by
  refine ⟨fun j hj => h2.1 j (h.1 j hj), ?_⟩
  have m1 := z_ct_mono (s := s) (s' := s') h.1 n
  have m2 := z_ct_mono (s := s') (s' := s'') h2.1 n
  rcases h.2 with ⟨rfl, g⟩ | ⟨rfl, g⟩
  · exact Or.inl ⟨rfl, by omega⟩
  · rcases h2.2 with ⟨rfl, g2⟩ | ⟨rfl, g2⟩
    · exact Or.inl ⟨rfl, by omega⟩
    · exact Or.inr ⟨rfl, by rw [g2, g]⟩
theorem z_mkd_up {n j : Nat} {s : Nat → Bool} (hj : j < n) (h : s j = false) : z_mkd n s (fun q => s q || decide (j = q)) true := by
  have mono : ∀ q, s q = true → (fun q => s q || decide (j = q)) q = true := fun q hq => by
    show (s q || decide (j = q)) = true
    rw [hq]; rfl
  exact ⟨mono, Or.inl ⟨rfl, z_ct_lt mono (i := j) (by rw [h]; decide) (by simp) hj⟩⟩
/-- one CALL -/
theorem f259_70_sp (h : z_mb m b P) (hM : z_MS S) (hw : z_wf P) (hB : B = nI b) {k i q c : Nat} (hq : q < z_nm P) (hl : z_liv P q = true) (hc : c < z_nc P) {s : Nat → Bool} (hs : z_bl m 2417 s) (hn : ∀ j, s j = true → j < z_nm P) (mo : Bool) : ∃ m' s' mo', f259_70 2390 B (nI k) (z_b mo) (nI i) (nI q) (nI c) 0 (z_hp S m) = some (.inl (2390, B, nI k, z_b (mo || mo'), nI (i + 1)), z_hp S m') ∧ z_bl m' 2417 s' ∧ z_mkd (z_nm P) s s' mo' ∧ (∀ a, a ≠ 2417 → m' a = m a) ∧ ∀ j, s' j = (s j || (decide (j < z_nm P) && (j == q || (z_ov P j q && z_blw P (z_own P j) c)))) := by
  have h1 := h.1
  have h24 := hw.2.2.1
  have h6 := hw.1.1
  have hnm := h.2.2.2.2.1
  have key := z_loopI (f := fun s => f259_70b (s.1) (s.2.1) (s.2.2.1) (s.2.2.2.1) (s.2.2.2.2.1) (s.2.2.2.2.2.1) (s.2.2.2.2.2.2.1) (s.2.2.2.2.2.2.2)) (S := S) (fun n st m' => ∃ j s' mo', n = z_nm P - j ∧ j ≤ z_nm P ∧ st = (2390, B, nI k, z_b (mo || mo'), nI i, nI q, nI c, nI j) ∧ z_bl m' 2417 s' ∧ z_mkd (z_nm P) s s' mo' ∧ (∀ a, a ≠ 2417 → m' a = m a) ∧ ∀ t, s' t = (s t || (decide (t < j) && (t == q || (z_ov P t q && z_blw P (z_own P t) c))))) (fun r m' => ∃ s' mo', r = .inl (2390, B, nI k, z_b (mo || mo'), nI (i + 1)) ∧ z_bl m' 2417 s' ∧ z_mkd (z_nm P) s s' mo' ∧ (∀ a, a ≠ 2417 → m' a = m a) ∧ ∀ t, s' t = (s t || (decide (t < z_nm P) && (t == q || (z_ov P t q && z_blw P (z_own P t) c))))) ?_ 1000000 (z_nm P) (2390, B, nI k, z_b mo, nI i, nI q, nI c, 0) m ⟨0, s, false, rfl, Nat.zero_le _, by rw [Bool.or_false]; rfl, hs, z_mkd.refl _ _, fun _ _ => rfl, fun t => by simp⟩ (by omega)
  · obtain ⟨r, m', e, s', mo', rfl, g⟩ := key
    exact ⟨m', s', mo', e, g⟩
  · rintro n st m1 ⟨j, s', mo', rfl, hj, rfl, g1, g2, g3, g4⟩
    have hb1 : z_mb m1 b P := z_mb_fr (g3 _ (by decide)) h
    have hnm1 : m1 2391 (14200 * b + 1) = nI (z_nm P) := by rw [g3 _ (by decide)]; exact hnm
    dsimp only
    rcases Nat.eq_or_lt_of_le hj with hj2 | hj2
    · refine Or.inr ⟨_, m1, ?_, s', mo', rfl, g1, g2, g3, fun t => by rw [g4 t, hj2]⟩
      unfold f259_70b f259_162
      subst hB
      rw [hj2]
      simp (disch := ((try simp only [true_or, or_true, hM.k, hM.k2391, hM.k2392, hM.k2393, hM.k2394, hM.k2395, hM.k2396, hM.k2397, hM.k2398, hM.k2399, hM.k2400, hM.k2401, hM.k2402, hM.k2403, hM.k2404, hM.k2405, hM.k2406, hM.k2407, hM.k2408, hM.k2409, hM.k2410, hM.k2411, hM.k2412, hM.k2413, hM.k2414, hM.k2415, hM.k2416, hM.k2417, hM.k2418, hM.k2419, hM.k2420, hM.k2421, hM.k2422, hM.k2423, hM.l2391, hM.l2392, hM.l2393, hM.l2394, hM.l2395, hM.l2396, hM.l2397, hM.l2398, hM.l2399, hM.l2400, hM.l2401, hM.l2402, hM.l2403, hM.l2404, hM.l2405, hM.l2406, hM.l2407, hM.l2408, hM.l2409, hM.l2410, hM.l2411, hM.l2412, hM.l2413, hM.l2414, hM.l2415, hM.l2416, hM.l2417, hM.l2418, hM.l2419, hM.l2420, hM.l2421, hM.l2422, hM.l2423]) <;> (try omega))) only [↓reduceIte, ↓z_ite, ↓zR, ↓zB_R, ↓zB_B, ↓zB_ite, ↓zB_gI, ↓zB_pI, ↓zB_pZ, ↓zB_aK, ↓zB_G, ↓zB_lI, ↓zB_lZ, ↓zB_wI, ↓zB_wZ, ↓zB_lIl, ↓zB_wIl, zB_pI, zB_pZ, zB_lI, zB_lZ, zB_wI, zB_wZ, z_addl, z_ladd, z_mull, z_lmul, nI_add, z_subl, Nat.not_lt_zero, z_10, z_01, z_bitc, z_b0, z_b1, ↓zB_Gb, ↓zB_G0, ↓zB_G1, z_eql, z_leq, z_ltl, z_llt, z_eq, z_lt, z_m1lt, hM.k, hM.k2391, hM.k2392, hM.k2393, hM.k2394, hM.k2395, hM.k2396, hM.k2397, hM.k2398, hM.k2399, hM.k2400, hM.k2401, hM.k2402, hM.k2403, hM.k2404, hM.k2405, hM.k2406, hM.k2407, hM.k2408, hM.k2409, hM.k2410, hM.k2411, hM.k2412, hM.k2413, hM.k2414, hM.k2415, hM.k2416, hM.k2417, hM.k2418, hM.k2419, hM.k2420, hM.k2421, hM.k2422, hM.k2423, hM.l2391, hM.l2392, hM.l2393, hM.l2394, hM.l2395, hM.l2396, hM.l2397, hM.l2398, hM.l2399, hM.l2400, hM.l2401, hM.l2402, hM.l2403, hM.l2404, hM.l2405, hM.l2406, hM.l2407, hM.l2408, hM.l2409, hM.l2410, hM.l2411, hM.l2412, hM.l2413, hM.l2414, hM.l2415, hM.l2416, hM.l2417, hM.l2418, hM.l2419, hM.l2420, hM.l2421, hM.l2422, hM.l2423, ↓hM.g1, ↓hM.g5, ↓hM.g6, ↓hM.g7, ↓hM.g8, ↓hM.g9, ↓hM.g10, ↓hM.g11, ↓hM.g12, ↓hM.g13, ↓hM.g14, ↓hM.g16, ↓hM.g17, ↓hM.g18, ↓hM.g19, ↓hM.g21, ↓hM.g22, ↓hM.g23, ↓hM.g24, ↓hM.g25, ↓hM.g27, ↓hM.g28, ↓hM.g30, ↓hM.g31, ↓hM.g32, ↓hM.g36, ↓hM.g37, ↓hM.g39, ↓hM.g40, ↓hM.g41, ↓hM.g43, ↓hM.g45, ↓hM.g46, hnm1, Nat.lt_irrefl]
    · have hsj := g1 j (by omega)
      have e233 := f233_sp (S := S) hb1 hM hw hB (k := q) (j := j) hq hj2
      rw [hl, Bool.true_and] at e233
      have e1 := hb1.e1 hM hB hj2
      have oj := z_own_e hw hj2
      have e208 := f208_sp (S := S) hb1 hM hw.1 hB oj.1 (d := c) (by omega)
      generalize hcd : (j == q || (z_ov P j q && z_blw P (z_own P j) c)) = cd
      have e129 : f259_70b 2390 B (nI k) (z_b (mo || mo')) (nI i) (nI q) (nI c) (nI j) (z_hp S m1) = f259_129 2390 B (nI k) (z_b (mo || mo')) (nI i) (nI q) (nI c) (nI j) (z_b cd) (z_hp S m1) := by
        unfold f259_70b f259_124 f259_128
        subst hB
        by_cases gq : j = q
        · rw [← hcd, show (j == q) = true by simpa using gq]
          subst gq
          simp (disch := ((try simp only [true_or, or_true, hM.k, hM.k2391, hM.k2392, hM.k2393, hM.k2394, hM.k2395, hM.k2396, hM.k2397, hM.k2398, hM.k2399, hM.k2400, hM.k2401, hM.k2402, hM.k2403, hM.k2404, hM.k2405, hM.k2406, hM.k2407, hM.k2408, hM.k2409, hM.k2410, hM.k2411, hM.k2412, hM.k2413, hM.k2414, hM.k2415, hM.k2416, hM.k2417, hM.k2418, hM.k2419, hM.k2420, hM.k2421, hM.k2422, hM.k2423, hM.l2391, hM.l2392, hM.l2393, hM.l2394, hM.l2395, hM.l2396, hM.l2397, hM.l2398, hM.l2399, hM.l2400, hM.l2401, hM.l2402, hM.l2403, hM.l2404, hM.l2405, hM.l2406, hM.l2407, hM.l2408, hM.l2409, hM.l2410, hM.l2411, hM.l2412, hM.l2413, hM.l2414, hM.l2415, hM.l2416, hM.l2417, hM.l2418, hM.l2419, hM.l2420, hM.l2421, hM.l2422, hM.l2423]) <;> (try omega))) only [↓reduceIte, ↓z_ite, ↓zR, ↓zB_R, ↓zB_B, ↓zB_ite, ↓zB_gI, ↓zB_pI, ↓zB_pZ, ↓zB_aK, ↓zB_G, ↓zB_lI, ↓zB_lZ, ↓zB_wI, ↓zB_wZ, ↓zB_lIl, ↓zB_wIl, zB_pI, zB_pZ, zB_lI, zB_lZ, zB_wI, zB_wZ, z_addl, z_ladd, z_mull, z_lmul, nI_add, z_subl, Nat.not_lt_zero, z_10, z_01, z_bitc, z_b0, z_b1, ↓zB_Gb, ↓zB_G0, ↓zB_G1, z_eql, z_leq, z_ltl, z_llt, z_eq, z_lt, z_m1lt, hM.k, hM.k2391, hM.k2392, hM.k2393, hM.k2394, hM.k2395, hM.k2396, hM.k2397, hM.k2398, hM.k2399, hM.k2400, hM.k2401, hM.k2402, hM.k2403, hM.k2404, hM.k2405, hM.k2406, hM.k2407, hM.k2408, hM.k2409, hM.k2410, hM.k2411, hM.k2412, hM.k2413, hM.k2414, hM.k2415, hM.k2416, hM.k2417, hM.k2418, hM.k2419, hM.k2420, hM.k2421, hM.k2422, hM.k2423, hM.l2391, hM.l2392, hM.l2393, hM.l2394, hM.l2395, hM.l2396, hM.l2397, hM.l2398, hM.l2399, hM.l2400, hM.l2401, hM.l2402, hM.l2403, hM.l2404, hM.l2405, hM.l2406, hM.l2407, hM.l2408, hM.l2409, hM.l2410, hM.l2411, hM.l2412, hM.l2413, hM.l2414, hM.l2415, hM.l2416, hM.l2417, hM.l2418, hM.l2419, hM.l2420, hM.l2421, hM.l2422, hM.l2423, ↓hM.g1, ↓hM.g5, ↓hM.g6, ↓hM.g7, ↓hM.g8, ↓hM.g9, ↓hM.g10, ↓hM.g11, ↓hM.g12, ↓hM.g13, ↓hM.g14, ↓hM.g16, ↓hM.g17, ↓hM.g18, ↓hM.g19, ↓hM.g21, ↓hM.g22, ↓hM.g23, ↓hM.g24, ↓hM.g25, ↓hM.g27, ↓hM.g28, ↓hM.g30, ↓hM.g31, ↓hM.g32, ↓hM.g36, ↓hM.g37, ↓hM.g39, ↓hM.g40, ↓hM.g41, ↓hM.g43, ↓hM.g45, ↓hM.g46, hnm1, hj2, Bool.true_or]
          rfl
        · rw [show (j == q) = false by simpa using gq, Bool.false_or] at hcd
          cases go : z_ov P j q with
          | false =>
            rw [go] at e233 hcd
            rw [← hcd]
            simp (disch := ((try simp only [true_or, or_true, hM.k, hM.k2391, hM.k2392, hM.k2393, hM.k2394, hM.k2395, hM.k2396, hM.k2397, hM.k2398, hM.k2399, hM.k2400, hM.k2401, hM.k2402, hM.k2403, hM.k2404, hM.k2405, hM.k2406, hM.k2407, hM.k2408, hM.k2409, hM.k2410, hM.k2411, hM.k2412, hM.k2413, hM.k2414, hM.k2415, hM.k2416, hM.k2417, hM.k2418, hM.k2419, hM.k2420, hM.k2421, hM.k2422, hM.k2423, hM.l2391, hM.l2392, hM.l2393, hM.l2394, hM.l2395, hM.l2396, hM.l2397, hM.l2398, hM.l2399, hM.l2400, hM.l2401, hM.l2402, hM.l2403, hM.l2404, hM.l2405, hM.l2406, hM.l2407, hM.l2408, hM.l2409, hM.l2410, hM.l2411, hM.l2412, hM.l2413, hM.l2414, hM.l2415, hM.l2416, hM.l2417, hM.l2418, hM.l2419, hM.l2420, hM.l2421, hM.l2422, hM.l2423]) <;> (try omega))) only [↓reduceIte, ↓z_ite, ↓zR, ↓zB_R, ↓zB_B, ↓zB_ite, ↓zB_gI, ↓zB_pI, ↓zB_pZ, ↓zB_aK, ↓zB_G, ↓zB_lI, ↓zB_lZ, ↓zB_wI, ↓zB_wZ, ↓zB_lIl, ↓zB_wIl, zB_pI, zB_pZ, zB_lI, zB_lZ, zB_wI, zB_wZ, z_addl, z_ladd, z_mull, z_lmul, nI_add, z_subl, Nat.not_lt_zero, z_10, z_01, z_bitc, z_b0, z_b1, ↓zB_Gb, ↓zB_G0, ↓zB_G1, z_eql, z_leq, z_ltl, z_llt, z_eq, z_lt, z_m1lt, hM.k, hM.k2391, hM.k2392, hM.k2393, hM.k2394, hM.k2395, hM.k2396, hM.k2397, hM.k2398, hM.k2399, hM.k2400, hM.k2401, hM.k2402, hM.k2403, hM.k2404, hM.k2405, hM.k2406, hM.k2407, hM.k2408, hM.k2409, hM.k2410, hM.k2411, hM.k2412, hM.k2413, hM.k2414, hM.k2415, hM.k2416, hM.k2417, hM.k2418, hM.k2419, hM.k2420, hM.k2421, hM.k2422, hM.k2423, hM.l2391, hM.l2392, hM.l2393, hM.l2394, hM.l2395, hM.l2396, hM.l2397, hM.l2398, hM.l2399, hM.l2400, hM.l2401, hM.l2402, hM.l2403, hM.l2404, hM.l2405, hM.l2406, hM.l2407, hM.l2408, hM.l2409, hM.l2410, hM.l2411, hM.l2412, hM.l2413, hM.l2414, hM.l2415, hM.l2416, hM.l2417, hM.l2418, hM.l2419, hM.l2420, hM.l2421, hM.l2422, hM.l2423, ↓hM.g1, ↓hM.g5, ↓hM.g6, ↓hM.g7, ↓hM.g8, ↓hM.g9, ↓hM.g10, ↓hM.g11, ↓hM.g12, ↓hM.g13, ↓hM.g14, ↓hM.g16, ↓hM.g17, ↓hM.g18, ↓hM.g19, ↓hM.g21, ↓hM.g22, ↓hM.g23, ↓hM.g24, ↓hM.g25, ↓hM.g27, ↓hM.g28, ↓hM.g30, ↓hM.g31, ↓hM.g32, ↓hM.g36, ↓hM.g37, ↓hM.g39, ↓hM.g40, ↓hM.g41, ↓hM.g43, ↓hM.g45, ↓hM.g46, hnm1, hj2, gq, ↓zB_c e233, zB_c e233, Bool.false_and]
            rfl
          | true =>
            rw [go, Bool.true_and] at hcd
            rw [go] at e233
            rw [hcd] at e208
            cases cd with
            | false => simp (disch := ((try simp only [true_or, or_true, hM.k, hM.k2391, hM.k2392, hM.k2393, hM.k2394, hM.k2395, hM.k2396, hM.k2397, hM.k2398, hM.k2399, hM.k2400, hM.k2401, hM.k2402, hM.k2403, hM.k2404, hM.k2405, hM.k2406, hM.k2407, hM.k2408, hM.k2409, hM.k2410, hM.k2411, hM.k2412, hM.k2413, hM.k2414, hM.k2415, hM.k2416, hM.k2417, hM.k2418, hM.k2419, hM.k2420, hM.k2421, hM.k2422, hM.k2423, hM.l2391, hM.l2392, hM.l2393, hM.l2394, hM.l2395, hM.l2396, hM.l2397, hM.l2398, hM.l2399, hM.l2400, hM.l2401, hM.l2402, hM.l2403, hM.l2404, hM.l2405, hM.l2406, hM.l2407, hM.l2408, hM.l2409, hM.l2410, hM.l2411, hM.l2412, hM.l2413, hM.l2414, hM.l2415, hM.l2416, hM.l2417, hM.l2418, hM.l2419, hM.l2420, hM.l2421, hM.l2422, hM.l2423]) <;> (try omega))) only [↓reduceIte, ↓z_ite, ↓zR, ↓zB_R, ↓zB_B, ↓zB_ite, ↓zB_gI, ↓zB_pI, ↓zB_pZ, ↓zB_aK, ↓zB_G, ↓zB_lI, ↓zB_lZ, ↓zB_wI, ↓zB_wZ, ↓zB_lIl, ↓zB_wIl, zB_pI, zB_pZ, zB_lI, zB_lZ, zB_wI, zB_wZ, z_addl, z_ladd, z_mull, z_lmul, nI_add, z_subl, Nat.not_lt_zero, z_10, z_01, z_bitc, z_b0, z_b1, ↓zB_Gb, ↓zB_G0, ↓zB_G1, z_eql, z_leq, z_ltl, z_llt, z_eq, z_lt, z_m1lt, hM.k, hM.k2391, hM.k2392, hM.k2393, hM.k2394, hM.k2395, hM.k2396, hM.k2397, hM.k2398, hM.k2399, hM.k2400, hM.k2401, hM.k2402, hM.k2403, hM.k2404, hM.k2405, hM.k2406, hM.k2407, hM.k2408, hM.k2409, hM.k2410, hM.k2411, hM.k2412, hM.k2413, hM.k2414, hM.k2415, hM.k2416, hM.k2417, hM.k2418, hM.k2419, hM.k2420, hM.k2421, hM.k2422, hM.k2423, hM.l2391, hM.l2392, hM.l2393, hM.l2394, hM.l2395, hM.l2396, hM.l2397, hM.l2398, hM.l2399, hM.l2400, hM.l2401, hM.l2402, hM.l2403, hM.l2404, hM.l2405, hM.l2406, hM.l2407, hM.l2408, hM.l2409, hM.l2410, hM.l2411, hM.l2412, hM.l2413, hM.l2414, hM.l2415, hM.l2416, hM.l2417, hM.l2418, hM.l2419, hM.l2420, hM.l2421, hM.l2422, hM.l2423, ↓hM.g1, ↓hM.g5, ↓hM.g6, ↓hM.g7, ↓hM.g8, ↓hM.g9, ↓hM.g10, ↓hM.g11, ↓hM.g12, ↓hM.g13, ↓hM.g14, ↓hM.g16, ↓hM.g17, ↓hM.g18, ↓hM.g19, ↓hM.g21, ↓hM.g22, ↓hM.g23, ↓hM.g24, ↓hM.g25, ↓hM.g27, ↓hM.g28, ↓hM.g30, ↓hM.g31, ↓hM.g32, ↓hM.g36, ↓hM.g37, ↓hM.g39, ↓hM.g40, ↓hM.g41, ↓hM.g43, ↓hM.g45, ↓hM.g46, hnm1, hj2, gq, ↓zB_c e233, zB_c e233, ↓zB_c e1, zB_c e1, oj.2, ↓zB_c e208, zB_c e208, Bool.true_eq_false]; rfl
            | true => simp (disch := ((try simp only [true_or, or_true, hM.k, hM.k2391, hM.k2392, hM.k2393, hM.k2394, hM.k2395, hM.k2396, hM.k2397, hM.k2398, hM.k2399, hM.k2400, hM.k2401, hM.k2402, hM.k2403, hM.k2404, hM.k2405, hM.k2406, hM.k2407, hM.k2408, hM.k2409, hM.k2410, hM.k2411, hM.k2412, hM.k2413, hM.k2414, hM.k2415, hM.k2416, hM.k2417, hM.k2418, hM.k2419, hM.k2420, hM.k2421, hM.k2422, hM.k2423, hM.l2391, hM.l2392, hM.l2393, hM.l2394, hM.l2395, hM.l2396, hM.l2397, hM.l2398, hM.l2399, hM.l2400, hM.l2401, hM.l2402, hM.l2403, hM.l2404, hM.l2405, hM.l2406, hM.l2407, hM.l2408, hM.l2409, hM.l2410, hM.l2411, hM.l2412, hM.l2413, hM.l2414, hM.l2415, hM.l2416, hM.l2417, hM.l2418, hM.l2419, hM.l2420, hM.l2421, hM.l2422, hM.l2423]) <;> (try omega))) only [↓reduceIte, ↓z_ite, ↓zR, ↓zB_R, ↓zB_B, ↓zB_ite, ↓zB_gI, ↓zB_pI, ↓zB_pZ, ↓zB_aK, ↓zB_G, ↓zB_lI, ↓zB_lZ, ↓zB_wI, ↓zB_wZ, ↓zB_lIl, ↓zB_wIl, zB_pI, zB_pZ, zB_lI, zB_lZ, zB_wI, zB_wZ, z_addl, z_ladd, z_mull, z_lmul, nI_add, z_subl, Nat.not_lt_zero, z_10, z_01, z_bitc, z_b0, z_b1, ↓zB_Gb, ↓zB_G0, ↓zB_G1, z_eql, z_leq, z_ltl, z_llt, z_eq, z_lt, z_m1lt, hM.k, hM.k2391, hM.k2392, hM.k2393, hM.k2394, hM.k2395, hM.k2396, hM.k2397, hM.k2398, hM.k2399, hM.k2400, hM.k2401, hM.k2402, hM.k2403, hM.k2404, hM.k2405, hM.k2406, hM.k2407, hM.k2408, hM.k2409, hM.k2410, hM.k2411, hM.k2412, hM.k2413, hM.k2414, hM.k2415, hM.k2416, hM.k2417, hM.k2418, hM.k2419, hM.k2420, hM.k2421, hM.k2422, hM.k2423, hM.l2391, hM.l2392, hM.l2393, hM.l2394, hM.l2395, hM.l2396, hM.l2397, hM.l2398, hM.l2399, hM.l2400, hM.l2401, hM.l2402, hM.l2403, hM.l2404, hM.l2405, hM.l2406, hM.l2407, hM.l2408, hM.l2409, hM.l2410, hM.l2411, hM.l2412, hM.l2413, hM.l2414, hM.l2415, hM.l2416, hM.l2417, hM.l2418, hM.l2419, hM.l2420, hM.l2421, hM.l2422, hM.l2423, ↓hM.g1, ↓hM.g5, ↓hM.g6, ↓hM.g7, ↓hM.g8, ↓hM.g9, ↓hM.g10, ↓hM.g11, ↓hM.g12, ↓hM.g13, ↓hM.g14, ↓hM.g16, ↓hM.g17, ↓hM.g18, ↓hM.g19, ↓hM.g21, ↓hM.g22, ↓hM.g23, ↓hM.g24, ↓hM.g25, ↓hM.g27, ↓hM.g28, ↓hM.g30, ↓hM.g31, ↓hM.g32, ↓hM.g36, ↓hM.g37, ↓hM.g39, ↓hM.g40, ↓hM.g41, ↓hM.g43, ↓hM.g45, ↓hM.g46, hnm1, hj2, gq, ↓zB_c e233, zB_c e233, ↓zB_c e1, zB_c e1, oj.2, ↓zB_c e208, zB_c e208, Bool.true_eq_false]; rfl
      by_cases gm : cd = true ∧ s' j = false
      · obtain ⟨rfl, gs⟩ := gm
        rw [gs] at hsj
        refine Or.inl ⟨(2390, B, nI k, z_b (mo || true), nI i, nI q, nI c, nI (j + 1)), z_up m1 2417 j 1, z_nm P - (j + 1), ?_, by omega, j + 1, fun t => s' t || decide (j = t), true, rfl, hj2, rfl, z_bl_up g1, ?_, fun a ha => by rw [z_up_row ha]; exact g3 a ha, fun t => ?_⟩
        · rw [e129, Bool.or_true]
          unfold f259_129 f259_156
          simp (disch := ((try simp only [true_or, or_true, hM.k, hM.k2391, hM.k2392, hM.k2393, hM.k2394, hM.k2395, hM.k2396, hM.k2397, hM.k2398, hM.k2399, hM.k2400, hM.k2401, hM.k2402, hM.k2403, hM.k2404, hM.k2405, hM.k2406, hM.k2407, hM.k2408, hM.k2409, hM.k2410, hM.k2411, hM.k2412, hM.k2413, hM.k2414, hM.k2415, hM.k2416, hM.k2417, hM.k2418, hM.k2419, hM.k2420, hM.k2421, hM.k2422, hM.k2423, hM.l2391, hM.l2392, hM.l2393, hM.l2394, hM.l2395, hM.l2396, hM.l2397, hM.l2398, hM.l2399, hM.l2400, hM.l2401, hM.l2402, hM.l2403, hM.l2404, hM.l2405, hM.l2406, hM.l2407, hM.l2408, hM.l2409, hM.l2410, hM.l2411, hM.l2412, hM.l2413, hM.l2414, hM.l2415, hM.l2416, hM.l2417, hM.l2418, hM.l2419, hM.l2420, hM.l2421, hM.l2422, hM.l2423]) <;> (try omega))) only [↓reduceIte, ↓z_ite, ↓zR, ↓zB_R, ↓zB_B, ↓zB_ite, ↓zB_gI, ↓zB_pI, ↓zB_pZ, ↓zB_aK, ↓zB_G, ↓zB_lI, ↓zB_lZ, ↓zB_wI, ↓zB_wZ, ↓zB_lIl, ↓zB_wIl, zB_pI, zB_pZ, zB_lI, zB_lZ, zB_wI, zB_wZ, z_addl, z_ladd, z_mull, z_lmul, nI_add, z_subl, Nat.not_lt_zero, z_10, z_01, z_bitc, z_b0, z_b1, ↓zB_Gb, ↓zB_G0, ↓zB_G1, z_eql, z_leq, z_ltl, z_llt, z_eq, z_lt, z_m1lt, hM.k, hM.k2391, hM.k2392, hM.k2393, hM.k2394, hM.k2395, hM.k2396, hM.k2397, hM.k2398, hM.k2399, hM.k2400, hM.k2401, hM.k2402, hM.k2403, hM.k2404, hM.k2405, hM.k2406, hM.k2407, hM.k2408, hM.k2409, hM.k2410, hM.k2411, hM.k2412, hM.k2413, hM.k2414, hM.k2415, hM.k2416, hM.k2417, hM.k2418, hM.k2419, hM.k2420, hM.k2421, hM.k2422, hM.k2423, hM.l2391, hM.l2392, hM.l2393, hM.l2394, hM.l2395, hM.l2396, hM.l2397, hM.l2398, hM.l2399, hM.l2400, hM.l2401, hM.l2402, hM.l2403, hM.l2404, hM.l2405, hM.l2406, hM.l2407, hM.l2408, hM.l2409, hM.l2410, hM.l2411, hM.l2412, hM.l2413, hM.l2414, hM.l2415, hM.l2416, hM.l2417, hM.l2418, hM.l2419, hM.l2420, hM.l2421, hM.l2422, hM.l2423, ↓hM.g1, ↓hM.g5, ↓hM.g6, ↓hM.g7, ↓hM.g8, ↓hM.g9, ↓hM.g10, ↓hM.g11, ↓hM.g12, ↓hM.g13, ↓hM.g14, ↓hM.g16, ↓hM.g17, ↓hM.g18, ↓hM.g19, ↓hM.g21, ↓hM.g22, ↓hM.g23, ↓hM.g24, ↓hM.g25, ↓hM.g27, ↓hM.g28, ↓hM.g30, ↓hM.g31, ↓hM.g32, ↓hM.g36, ↓hM.g37, ↓hM.g39, ↓hM.g40, ↓hM.g41, ↓hM.g43, ↓hM.g45, ↓hM.g46, hsj, Bool.true_eq_false]
          rfl
        · have := g2.trans (z_mkd_up hj2 gs)
          rw [Bool.or_true] at this; exact this
        · show (s' t || decide (j = t)) = _
          rw [g4 t]
          by_cases gt : j = t
          · subst gt
            rw [hcd]; simp
          · have e2 : decide (t < j) = decide (t < j + 1) := by
              by_cases q : t < j
              · rw [decide_eq_true q, decide_eq_true (by omega)]
              · rw [decide_eq_false q, decide_eq_false (by omega)]
            rw [decide_eq_false gt, Bool.or_false, e2]
      · refine Or.inl ⟨(2390, B, nI k, z_b (mo || mo'), nI i, nI q, nI c, nI (j + 1)), m1, z_nm P - (j + 1), ?_, by omega, j + 1, s', mo', rfl, hj2, rfl, g1, g2, g3, fun t => ?_⟩
        · rw [e129]
          unfold f259_129 f259_156
          cases cd with
          | false => simp (disch := ((try simp only [true_or, or_true, hM.k, hM.k2391, hM.k2392, hM.k2393, hM.k2394, hM.k2395, hM.k2396, hM.k2397, hM.k2398, hM.k2399, hM.k2400, hM.k2401, hM.k2402, hM.k2403, hM.k2404, hM.k2405, hM.k2406, hM.k2407, hM.k2408, hM.k2409, hM.k2410, hM.k2411, hM.k2412, hM.k2413, hM.k2414, hM.k2415, hM.k2416, hM.k2417, hM.k2418, hM.k2419, hM.k2420, hM.k2421, hM.k2422, hM.k2423, hM.l2391, hM.l2392, hM.l2393, hM.l2394, hM.l2395, hM.l2396, hM.l2397, hM.l2398, hM.l2399, hM.l2400, hM.l2401, hM.l2402, hM.l2403, hM.l2404, hM.l2405, hM.l2406, hM.l2407, hM.l2408, hM.l2409, hM.l2410, hM.l2411, hM.l2412, hM.l2413, hM.l2414, hM.l2415, hM.l2416, hM.l2417, hM.l2418, hM.l2419, hM.l2420, hM.l2421, hM.l2422, hM.l2423]) <;> (try omega))) only [↓reduceIte, ↓z_ite, ↓zR, ↓zB_R, ↓zB_B, ↓zB_ite, ↓zB_gI, ↓zB_pI, ↓zB_pZ, ↓zB_aK, ↓zB_G, ↓zB_lI, ↓zB_lZ, ↓zB_wI, ↓zB_wZ, ↓zB_lIl, ↓zB_wIl, zB_pI, zB_pZ, zB_lI, zB_lZ, zB_wI, zB_wZ, z_addl, z_ladd, z_mull, z_lmul, nI_add, z_subl, Nat.not_lt_zero, z_10, z_01, z_bitc, z_b0, z_b1, ↓zB_Gb, ↓zB_G0, ↓zB_G1, z_eql, z_leq, z_ltl, z_llt, z_eq, z_lt, z_m1lt, hM.k, hM.k2391, hM.k2392, hM.k2393, hM.k2394, hM.k2395, hM.k2396, hM.k2397, hM.k2398, hM.k2399, hM.k2400, hM.k2401, hM.k2402, hM.k2403, hM.k2404, hM.k2405, hM.k2406, hM.k2407, hM.k2408, hM.k2409, hM.k2410, hM.k2411, hM.k2412, hM.k2413, hM.k2414, hM.k2415, hM.k2416, hM.k2417, hM.k2418, hM.k2419, hM.k2420, hM.k2421, hM.k2422, hM.k2423, hM.l2391, hM.l2392, hM.l2393, hM.l2394, hM.l2395, hM.l2396, hM.l2397, hM.l2398, hM.l2399, hM.l2400, hM.l2401, hM.l2402, hM.l2403, hM.l2404, hM.l2405, hM.l2406, hM.l2407, hM.l2408, hM.l2409, hM.l2410, hM.l2411, hM.l2412, hM.l2413, hM.l2414, hM.l2415, hM.l2416, hM.l2417, hM.l2418, hM.l2419, hM.l2420, hM.l2421, hM.l2422, hM.l2423, ↓hM.g1, ↓hM.g5, ↓hM.g6, ↓hM.g7, ↓hM.g8, ↓hM.g9, ↓hM.g10, ↓hM.g11, ↓hM.g12, ↓hM.g13, ↓hM.g14, ↓hM.g16, ↓hM.g17, ↓hM.g18, ↓hM.g19, ↓hM.g21, ↓hM.g22, ↓hM.g23, ↓hM.g24, ↓hM.g25, ↓hM.g27, ↓hM.g28, ↓hM.g30, ↓hM.g31, ↓hM.g32, ↓hM.g36, ↓hM.g37, ↓hM.g39, ↓hM.g40, ↓hM.g41, ↓hM.g43, ↓hM.g45, ↓hM.g46]
          | true =>
            have gs : s' j = true := by
              cases q : s' j with
              | true => rfl
              | false => exact absurd ⟨rfl, q⟩ gm
            rw [gs] at hsj
            simp (disch := ((try simp only [true_or, or_true, hM.k, hM.k2391, hM.k2392, hM.k2393, hM.k2394, hM.k2395, hM.k2396, hM.k2397, hM.k2398, hM.k2399, hM.k2400, hM.k2401, hM.k2402, hM.k2403, hM.k2404, hM.k2405, hM.k2406, hM.k2407, hM.k2408, hM.k2409, hM.k2410, hM.k2411, hM.k2412, hM.k2413, hM.k2414, hM.k2415, hM.k2416, hM.k2417, hM.k2418, hM.k2419, hM.k2420, hM.k2421, hM.k2422, hM.k2423, hM.l2391, hM.l2392, hM.l2393, hM.l2394, hM.l2395, hM.l2396, hM.l2397, hM.l2398, hM.l2399, hM.l2400, hM.l2401, hM.l2402, hM.l2403, hM.l2404, hM.l2405, hM.l2406, hM.l2407, hM.l2408, hM.l2409, hM.l2410, hM.l2411, hM.l2412, hM.l2413, hM.l2414, hM.l2415, hM.l2416, hM.l2417, hM.l2418, hM.l2419, hM.l2420, hM.l2421, hM.l2422, hM.l2423]) <;> (try omega))) only [↓reduceIte, ↓z_ite, ↓zR, ↓zB_R, ↓zB_B, ↓zB_ite, ↓zB_gI, ↓zB_pI, ↓zB_pZ, ↓zB_aK, ↓zB_G, ↓zB_lI, ↓zB_lZ, ↓zB_wI, ↓zB_wZ, ↓zB_lIl, ↓zB_wIl, zB_pI, zB_pZ, zB_lI, zB_lZ, zB_wI, zB_wZ, z_addl, z_ladd, z_mull, z_lmul, nI_add, z_subl, Nat.not_lt_zero, z_10, z_01, z_bitc, z_b0, z_b1, ↓zB_Gb, ↓zB_G0, ↓zB_G1, z_eql, z_leq, z_ltl, z_llt, z_eq, z_lt, z_m1lt, hM.k, hM.k2391, hM.k2392, hM.k2393, hM.k2394, hM.k2395, hM.k2396, hM.k2397, hM.k2398, hM.k2399, hM.k2400, hM.k2401, hM.k2402, hM.k2403, hM.k2404, hM.k2405, hM.k2406, hM.k2407, hM.k2408, hM.k2409, hM.k2410, hM.k2411, hM.k2412, hM.k2413, hM.k2414, hM.k2415, hM.k2416, hM.k2417, hM.k2418, hM.k2419, hM.k2420, hM.k2421, hM.k2422, hM.k2423, hM.l2391, hM.l2392, hM.l2393, hM.l2394, hM.l2395, hM.l2396, hM.l2397, hM.l2398, hM.l2399, hM.l2400, hM.l2401, hM.l2402, hM.l2403, hM.l2404, hM.l2405, hM.l2406, hM.l2407, hM.l2408, hM.l2409, hM.l2410, hM.l2411, hM.l2412, hM.l2413, hM.l2414, hM.l2415, hM.l2416, hM.l2417, hM.l2418, hM.l2419, hM.l2420, hM.l2421, hM.l2422, hM.l2423, ↓hM.g1, ↓hM.g5, ↓hM.g6, ↓hM.g7, ↓hM.g8, ↓hM.g9, ↓hM.g10, ↓hM.g11, ↓hM.g12, ↓hM.g13, ↓hM.g14, ↓hM.g16, ↓hM.g17, ↓hM.g18, ↓hM.g19, ↓hM.g21, ↓hM.g22, ↓hM.g23, ↓hM.g24, ↓hM.g25, ↓hM.g27, ↓hM.g28, ↓hM.g30, ↓hM.g31, ↓hM.g32, ↓hM.g36, ↓hM.g37, ↓hM.g39, ↓hM.g40, ↓hM.g41, ↓hM.g43, ↓hM.g45, ↓hM.g46, hsj, Bool.true_eq_false]
        · rw [g4 t]
          by_cases gt : j = t
          · subst gt
            rw [hcd, decide_eq_false (Nat.lt_irrefl j), Bool.false_and, Bool.or_false, show decide (j < j + 1) = true by simp, Bool.true_and]
            have := g4 j
            rw [decide_eq_false (Nat.lt_irrefl j), Bool.false_and, Bool.or_false] at this
            cases cd with
            | false => rw [Bool.or_false]
            | true =>
              cases q : s j with
              | true => rfl
              | false => rw [q] at this; exact absurd ⟨rfl, this⟩ gm
          · have e2 : decide (t < j) = decide (t < j + 1) := by
              by_cases q : t < j
              · rw [decide_eq_true q, decide_eq_true (by omega)]
              · rw [decide_eq_false q, decide_eq_false (by omega)]
            rw [e2]
/-- reachFrom -/
theorem f259_sp (h : z_mb m b P) (hM : z_MS S) (hw : z_wf P) (hB : B = nI b) (hR : z_RT P) (hT : z_mLT m P) {k : Nat} (hk : k < z_nm P) (hl : z_liv P k = true) {s : Nat → Bool} (hs : z_bl m 2417 s) (hn : ∀ j, s j = true → j < z_nm P) : ∃ m' s' mo, f259 2390 B (nI k) (z_hp S m) = some (z_b mo, z_hp S m') ∧ z_bl m' 2417 s' ∧ z_mkd (z_nm P) s s' mo ∧ (∀ a, a ≠ 2417 → m' a = m a) ∧ ∀ j, s' j = (s j || (decide (j < z_nm P) && z_cal P k j)) := by
  have h24 := hw.2.2.1
  have h6 := hw.1.1
  have hlen := (h.2.2.2.2.2.2 k hk).2.2.1
  have hr := hR k hk hl
  have key := z_loopI (f := fun s => f259_5b (s.1) (s.2.1) (s.2.2.1) (s.2.2.2.1) (s.2.2.2.2)) (S := S) (fun n st m' => ∃ i s' mo, n = (z_bd P k).length - i ∧ i ≤ (z_bd P k).length ∧ st = (2390, B, nI k, z_b mo, nI i) ∧ z_bl m' 2417 s' ∧ z_mkd (z_nm P) s s' mo ∧ (∀ a, a ≠ 2417 → m' a = m a) ∧ ∀ j, s' j = (s j || (decide (j < z_nm P) && z_any (fun q => z_cl1 P k q j) i))) (fun r m' => ∃ s' mo, r = z_b mo ∧ z_bl m' 2417 s' ∧ z_mkd (z_nm P) s s' mo ∧ (∀ a, a ≠ 2417 → m' a = m a) ∧ ∀ j, s' j = (s j || (decide (j < z_nm P) && z_any (fun q => z_cl1 P k q j) (z_bd P k).length))) ?_ 1000000 (z_bd P k).length (2390, B, nI k, 0, 0) m ⟨0, s, false, rfl, Nat.zero_le _, rfl, hs, z_mkd.refl _ _, fun _ _ => rfl, fun t => by simp [z_any]⟩ (by omega)
  · obtain ⟨r, m', e, s', mo, rfl, g⟩ := key
    exact ⟨m', s', mo, e, g⟩
  · rintro n st m1 ⟨i, s', mo, rfl, hi, rfl, g1, g2, g3, g4⟩
    have hb1 : z_mb m1 b P := z_mb_fr (g3 _ (by decide)) h
    have e9 := hb1.e9 hM hB hk
    dsimp only
    rcases Nat.eq_or_lt_of_le hi with hi2 | hi2
    · refine Or.inr ⟨_, m1, ?_, s', mo, rfl, g1, g2, g3, fun t => by rw [g4 t, hi2]⟩
      unfold f259_5b f259_168
      rw [hi2]
      simp (disch := ((try simp only [true_or, or_true, hM.k, hM.k2391, hM.k2392, hM.k2393, hM.k2394, hM.k2395, hM.k2396, hM.k2397, hM.k2398, hM.k2399, hM.k2400, hM.k2401, hM.k2402, hM.k2403, hM.k2404, hM.k2405, hM.k2406, hM.k2407, hM.k2408, hM.k2409, hM.k2410, hM.k2411, hM.k2412, hM.k2413, hM.k2414, hM.k2415, hM.k2416, hM.k2417, hM.k2418, hM.k2419, hM.k2420, hM.k2421, hM.k2422, hM.k2423, hM.l2391, hM.l2392, hM.l2393, hM.l2394, hM.l2395, hM.l2396, hM.l2397, hM.l2398, hM.l2399, hM.l2400, hM.l2401, hM.l2402, hM.l2403, hM.l2404, hM.l2405, hM.l2406, hM.l2407, hM.l2408, hM.l2409, hM.l2410, hM.l2411, hM.l2412, hM.l2413, hM.l2414, hM.l2415, hM.l2416, hM.l2417, hM.l2418, hM.l2419, hM.l2420, hM.l2421, hM.l2422, hM.l2423]) <;> (try omega))) only [↓reduceIte, ↓z_ite, ↓zR, ↓zB_R, ↓zB_B, ↓zB_ite, ↓zB_gI, ↓zB_pI, ↓zB_pZ, ↓zB_aK, ↓zB_G, ↓zB_lI, ↓zB_lZ, ↓zB_wI, ↓zB_wZ, ↓zB_lIl, ↓zB_wIl, zB_pI, zB_pZ, zB_lI, zB_lZ, zB_wI, zB_wZ, z_addl, z_ladd, z_mull, z_lmul, nI_add, z_subl, Nat.not_lt_zero, z_10, z_01, z_bitc, z_b0, z_b1, ↓zB_Gb, ↓zB_G0, ↓zB_G1, z_eql, z_leq, z_ltl, z_llt, z_eq, z_lt, z_m1lt, hM.k, hM.k2391, hM.k2392, hM.k2393, hM.k2394, hM.k2395, hM.k2396, hM.k2397, hM.k2398, hM.k2399, hM.k2400, hM.k2401, hM.k2402, hM.k2403, hM.k2404, hM.k2405, hM.k2406, hM.k2407, hM.k2408, hM.k2409, hM.k2410, hM.k2411, hM.k2412, hM.k2413, hM.k2414, hM.k2415, hM.k2416, hM.k2417, hM.k2418, hM.k2419, hM.k2420, hM.k2421, hM.k2422, hM.k2423, hM.l2391, hM.l2392, hM.l2393, hM.l2394, hM.l2395, hM.l2396, hM.l2397, hM.l2398, hM.l2399, hM.l2400, hM.l2401, hM.l2402, hM.l2403, hM.l2404, hM.l2405, hM.l2406, hM.l2407, hM.l2408, hM.l2409, hM.l2410, hM.l2411, hM.l2412, hM.l2413, hM.l2414, hM.l2415, hM.l2416, hM.l2417, hM.l2418, hM.l2419, hM.l2420, hM.l2421, hM.l2422, hM.l2423, ↓hM.g1, ↓hM.g5, ↓hM.g6, ↓hM.g7, ↓hM.g8, ↓hM.g9, ↓hM.g10, ↓hM.g11, ↓hM.g12, ↓hM.g13, ↓hM.g14, ↓hM.g16, ↓hM.g17, ↓hM.g18, ↓hM.g19, ↓hM.g21, ↓hM.g22, ↓hM.g23, ↓hM.g24, ↓hM.g25, ↓hM.g27, ↓hM.g28, ↓hM.g30, ↓hM.g31, ↓hM.g32, ↓hM.g36, ↓hM.g37, ↓hM.g39, ↓hM.g40, ↓hM.g41, ↓hM.g43, ↓hM.g45, ↓hM.g46, ↓zB_c e9, zB_c e9, Nat.lt_irrefl]
    · have ek := hb1.ek hM hB hk hi2
      by_cases g7 : z_k (z_bd P k) i = 7
      · obtain ⟨c, q, hc, eT, ef, eB, hq, hisc, _, _, _⟩ := z_call hw hk hr hi2 g7
        have hi1 : i + 1 < (z_bd P k).length := by
          have hB := hw.2.2.2.2.1 k hk
          have := z_pt_lt hB.1 hi2 (j := 0) (by rcases z_pn_ka hB hi2 g7 with g | g | g <;> omega)
          rwa [z_pt_0] at this
        have ecq : z_ce1 P k i = q := by
          unfold z_ce1 z_cq
          show (z_Bd P k i).toNatClampNeg - 2000 = q
          rw [eB, nI_clamp (by omega)]; omega
        have hTk := hT k hk hl
        have t6 : m1 2400 (192 * k + i) = nI (2000 + q) := by
          rw [g3 _ (by decide), (hTk i hi2).2.2.2]
          unfold z_mbn
          rw [if_pos (by rw [g7]; simp)]; exact eB
        have t5 : m1 2399 (192 * k + i + 1) = nI c := by
          rw [g3 _ (by decide), Nat.add_assoc, (hTk (i + 1) hi1).2.2.1]; exact eT
        have hmem : ∀ j, s' j = true → j < z_nm P := fun j hj => by
          rw [g4 j] at hj
          rcases Bool.or_eq_true _ _ ▸ hj with x | x
          · exact hn j x
          · simpa using (Bool.and_eq_true_iff.mp x).1
        obtain ⟨m2, s2, mo2, e, c1, c2, c3, c4⟩ := f259_70_sp (S := S) (k := k) (i := i) hb1 hM hw hB hq (z_isc_liv hisc) hc g1 hmem mo
        have esub : nI (2000 + q) - 2000 = nI q := by
          rw [show (2000 : Int32) = nI 2000 from rfl, pk_sub (by omega), Nat.add_sub_cancel_left]
        refine Or.inl ⟨_, m2, (z_bd P k).length - (i + 1), ?_, by omega, i + 1, s2, mo || mo2, rfl, hi2, rfl, c1, g2.trans c2, fun a ha => (c3 a ha).trans (g3 a ha), fun t => ?_⟩
        · unfold f259_5b
          simp (disch := ((try simp only [true_or, or_true, hM.k, hM.k2391, hM.k2392, hM.k2393, hM.k2394, hM.k2395, hM.k2396, hM.k2397, hM.k2398, hM.k2399, hM.k2400, hM.k2401, hM.k2402, hM.k2403, hM.k2404, hM.k2405, hM.k2406, hM.k2407, hM.k2408, hM.k2409, hM.k2410, hM.k2411, hM.k2412, hM.k2413, hM.k2414, hM.k2415, hM.k2416, hM.k2417, hM.k2418, hM.k2419, hM.k2420, hM.k2421, hM.k2422, hM.k2423, hM.l2391, hM.l2392, hM.l2393, hM.l2394, hM.l2395, hM.l2396, hM.l2397, hM.l2398, hM.l2399, hM.l2400, hM.l2401, hM.l2402, hM.l2403, hM.l2404, hM.l2405, hM.l2406, hM.l2407, hM.l2408, hM.l2409, hM.l2410, hM.l2411, hM.l2412, hM.l2413, hM.l2414, hM.l2415, hM.l2416, hM.l2417, hM.l2418, hM.l2419, hM.l2420, hM.l2421, hM.l2422, hM.l2423]) <;> (try omega))) only [↓reduceIte, ↓z_ite, ↓zR, ↓zB_R, ↓zB_B, ↓zB_ite, ↓zB_gI, ↓zB_pI, ↓zB_pZ, ↓zB_aK, ↓zB_G, ↓zB_lI, ↓zB_lZ, ↓zB_wI, ↓zB_wZ, ↓zB_lIl, ↓zB_wIl, zB_pI, zB_pZ, zB_lI, zB_lZ, zB_wI, zB_wZ, z_addl, z_ladd, z_mull, z_lmul, nI_add, z_subl, Nat.not_lt_zero, z_10, z_01, z_bitc, z_b0, z_b1, ↓zB_Gb, ↓zB_G0, ↓zB_G1, z_eql, z_leq, z_ltl, z_llt, z_eq, z_lt, z_m1lt, hM.k, hM.k2391, hM.k2392, hM.k2393, hM.k2394, hM.k2395, hM.k2396, hM.k2397, hM.k2398, hM.k2399, hM.k2400, hM.k2401, hM.k2402, hM.k2403, hM.k2404, hM.k2405, hM.k2406, hM.k2407, hM.k2408, hM.k2409, hM.k2410, hM.k2411, hM.k2412, hM.k2413, hM.k2414, hM.k2415, hM.k2416, hM.k2417, hM.k2418, hM.k2419, hM.k2420, hM.k2421, hM.k2422, hM.k2423, hM.l2391, hM.l2392, hM.l2393, hM.l2394, hM.l2395, hM.l2396, hM.l2397, hM.l2398, hM.l2399, hM.l2400, hM.l2401, hM.l2402, hM.l2403, hM.l2404, hM.l2405, hM.l2406, hM.l2407, hM.l2408, hM.l2409, hM.l2410, hM.l2411, hM.l2412, hM.l2413, hM.l2414, hM.l2415, hM.l2416, hM.l2417, hM.l2418, hM.l2419, hM.l2420, hM.l2421, hM.l2422, hM.l2423, ↓hM.g1, ↓hM.g5, ↓hM.g6, ↓hM.g7, ↓hM.g8, ↓hM.g9, ↓hM.g10, ↓hM.g11, ↓hM.g12, ↓hM.g13, ↓hM.g14, ↓hM.g16, ↓hM.g17, ↓hM.g18, ↓hM.g19, ↓hM.g21, ↓hM.g22, ↓hM.g23, ↓hM.g24, ↓hM.g25, ↓hM.g27, ↓hM.g28, ↓hM.g30, ↓hM.g31, ↓hM.g32, ↓hM.g36, ↓hM.g37, ↓hM.g39, ↓hM.g40, ↓hM.g41, ↓hM.g43, ↓hM.g45, ↓hM.g46, ↓zB_c e9, zB_c e9, hi2, ↓zB_c ek, zB_c ek, g7, t6, t5, esub]
          exact e
        · rw [c4 t, g4 t]
          show _ = (s t || (decide (t < z_nm P) && (z_any (fun q => z_cl1 P k q t) i || z_cl1 P k i t)))
          have : z_cl1 P k i t = (t == q || (z_ov P t q && z_blw P (z_own P t) c)) := by
            unfold z_cl1
            rw [ecq, g7, eT, nI_clamp (by omega)]; rfl
          rw [this]
          cases s t <;> cases decide (t < z_nm P) <;> simp
      · refine Or.inl ⟨(2390, B, nI k, z_b mo, nI (i + 1)), m1, (z_bd P k).length - (i + 1), ?_, by omega, i + 1, s', mo, rfl, hi2, rfl, g1, g2, g3, fun t => ?_⟩
        · unfold f259_5b f259_162
          simp (disch := ((try simp only [true_or, or_true, hM.k, hM.k2391, hM.k2392, hM.k2393, hM.k2394, hM.k2395, hM.k2396, hM.k2397, hM.k2398, hM.k2399, hM.k2400, hM.k2401, hM.k2402, hM.k2403, hM.k2404, hM.k2405, hM.k2406, hM.k2407, hM.k2408, hM.k2409, hM.k2410, hM.k2411, hM.k2412, hM.k2413, hM.k2414, hM.k2415, hM.k2416, hM.k2417, hM.k2418, hM.k2419, hM.k2420, hM.k2421, hM.k2422, hM.k2423, hM.l2391, hM.l2392, hM.l2393, hM.l2394, hM.l2395, hM.l2396, hM.l2397, hM.l2398, hM.l2399, hM.l2400, hM.l2401, hM.l2402, hM.l2403, hM.l2404, hM.l2405, hM.l2406, hM.l2407, hM.l2408, hM.l2409, hM.l2410, hM.l2411, hM.l2412, hM.l2413, hM.l2414, hM.l2415, hM.l2416, hM.l2417, hM.l2418, hM.l2419, hM.l2420, hM.l2421, hM.l2422, hM.l2423]) <;> (try omega))) only [↓reduceIte, ↓z_ite, ↓zR, ↓zB_R, ↓zB_B, ↓zB_ite, ↓zB_gI, ↓zB_pI, ↓zB_pZ, ↓zB_aK, ↓zB_G, ↓zB_lI, ↓zB_lZ, ↓zB_wI, ↓zB_wZ, ↓zB_lIl, ↓zB_wIl, zB_pI, zB_pZ, zB_lI, zB_lZ, zB_wI, zB_wZ, z_addl, z_ladd, z_mull, z_lmul, nI_add, z_subl, Nat.not_lt_zero, z_10, z_01, z_bitc, z_b0, z_b1, ↓zB_Gb, ↓zB_G0, ↓zB_G1, z_eql, z_leq, z_ltl, z_llt, z_eq, z_lt, z_m1lt, hM.k, hM.k2391, hM.k2392, hM.k2393, hM.k2394, hM.k2395, hM.k2396, hM.k2397, hM.k2398, hM.k2399, hM.k2400, hM.k2401, hM.k2402, hM.k2403, hM.k2404, hM.k2405, hM.k2406, hM.k2407, hM.k2408, hM.k2409, hM.k2410, hM.k2411, hM.k2412, hM.k2413, hM.k2414, hM.k2415, hM.k2416, hM.k2417, hM.k2418, hM.k2419, hM.k2420, hM.k2421, hM.k2422, hM.k2423, hM.l2391, hM.l2392, hM.l2393, hM.l2394, hM.l2395, hM.l2396, hM.l2397, hM.l2398, hM.l2399, hM.l2400, hM.l2401, hM.l2402, hM.l2403, hM.l2404, hM.l2405, hM.l2406, hM.l2407, hM.l2408, hM.l2409, hM.l2410, hM.l2411, hM.l2412, hM.l2413, hM.l2414, hM.l2415, hM.l2416, hM.l2417, hM.l2418, hM.l2419, hM.l2420, hM.l2421, hM.l2422, hM.l2423, ↓hM.g1, ↓hM.g5, ↓hM.g6, ↓hM.g7, ↓hM.g8, ↓hM.g9, ↓hM.g10, ↓hM.g11, ↓hM.g12, ↓hM.g13, ↓hM.g14, ↓hM.g16, ↓hM.g17, ↓hM.g18, ↓hM.g19, ↓hM.g21, ↓hM.g22, ↓hM.g23, ↓hM.g24, ↓hM.g25, ↓hM.g27, ↓hM.g28, ↓hM.g30, ↓hM.g31, ↓hM.g32, ↓hM.g36, ↓hM.g37, ↓hM.g39, ↓hM.g40, ↓hM.g41, ↓hM.g43, ↓hM.g45, ↓hM.g46, ↓zB_c e9, zB_c e9, hi2, ↓zB_c ek, zB_c ek, g7]
        · rw [g4 t]
          show _ = (s t || (decide (t < z_nm P) && (z_any (fun q => z_cl1 P k q t) i || z_cl1 P k i t)))
          have : z_cl1 P k i t = false := by
            unfold z_cl1
            rw [show (z_k (z_bd P k) i == 7) = false by simpa using g7]; rfl
          rw [this, Bool.or_false]
/-- findReached, a round -/
theorem f258_39_sp (h : z_mb m b P) (hM : z_MS S) (hw : z_wf P) (hB : B = nI b) (hR : z_RT P) (hT : z_mLT m P) {k : Nat} (hk : k < z_nm P) (hl : z_liv P k = true) {s : Nat → Bool} (hs : z_bl m 2417 s) (hr : z_rnd (z_nm P) (z_cal P) (fun j => decide (j < z_nm P) && z_cal P k j) s) (hn : ∀ j, s j = true → j < z_nm P) : ∃ m' s' mo, f258_39 2390 B 0 0 (z_hp S m) = some (.inl (2390, B, z_b mo), z_hp S m') ∧ z_bl m' 2417 s' ∧ z_rnd (z_nm P) (z_cal P) (fun j => decide (j < z_nm P) && z_cal P k j) s' ∧ (∀ j, s' j = true → j < z_nm P) ∧ z_mkd (z_nm P) s s' mo ∧ (∀ a, a ≠ 2417 → m' a = m a) ∧ (mo = false → z_cls (z_nm P) (z_cal P) s') := by
  have h24 := hw.2.2.1
  have hlv : ∀ t : Nat → Bool, (∀ j, t j = true → z_clo (z_nm P) (z_cal P) (fun j => decide (j < z_nm P) && z_cal P k j) j = true) → ∀ j, j < z_nm P → t j = true → z_liv P j = true := by
    intro t ht j hj h3
    have h4 := ht j h3
    have : ∀ r j, j < z_nm P → z_ci (z_nm P) (z_cal P) (fun j => decide (j < z_nm P) && z_cal P k j) r j = true → z_liv P j = true := by
      intro r
      induction r with
      | zero => exact fun j hj h => z_cal_liv hw hR hk hl hj (Bool.and_eq_true_iff.mp h).2
      | succ r ih =>
        intro j hj h
        rcases z_c1_t.mp (show z_c1 (z_nm P) (z_cal P) (z_ci (z_nm P) (z_cal P) _ r) j = true from h) with h1 | ⟨_, i, hi, h2, h3⟩
        · exact ih j hj h1
        · exact z_cal_liv hw hR hi (ih i hi h2) hj h3
    exact this _ j hj h4
  have key := z_loopI (f := fun s => f258_39b (s.1) (s.2.1) (s.2.2.1) (s.2.2.2)) (S := S) (fun n st m' => ∃ i s' mo, n = 24 - i ∧ i ≤ 24 ∧ st = (2390, B, z_b mo, nI i) ∧ z_bl m' 2417 s' ∧ z_rnd (z_nm P) (z_cal P) (fun j => decide (j < z_nm P) && z_cal P k j) s' ∧ (∀ j, s' j = true → j < z_nm P) ∧ z_mkd (z_nm P) s s' mo ∧ (∀ a, a ≠ 2417 → m' a = m a) ∧ (mo = false → ∀ j, j < i → s j = true → ∀ t, t < z_nm P → z_cal P j t = true → s t = true)) (fun r m' => ∃ s' mo, r = .inl (2390, B, z_b mo) ∧ z_bl m' 2417 s' ∧ z_rnd (z_nm P) (z_cal P) (fun j => decide (j < z_nm P) && z_cal P k j) s' ∧ (∀ j, s' j = true → j < z_nm P) ∧ z_mkd (z_nm P) s s' mo ∧ (∀ a, a ≠ 2417 → m' a = m a) ∧ (mo = false → z_cls (z_nm P) (z_cal P) s')) ?_ 1000000 24 (2390, B, 0, 0) m ⟨0, s, false, rfl, by decide, rfl, hs, hr, hn, z_mkd.refl _ _, fun _ _ => rfl, fun _ j hj => by omega⟩ (by decide)
  · obtain ⟨r, m', e, s', mo, rfl, g⟩ := key
    exact ⟨m', s', mo, e, g⟩
  · rintro n st m1 ⟨i, s', mo, rfl, hi, rfl, g1, g2, g3, g4, g5, g6⟩
    have hb1 : z_mb m1 b P := z_mb_fr (g5 _ (by decide)) h
    have hT1 : z_mLT m1 P := z_mLT_fr (fun a x1 x2 => g5 a (by omega)) hT
    dsimp only
    rcases Nat.eq_or_lt_of_le hi with hi2 | hi2
    · refine Or.inr ⟨_, m1, ?_, s', mo, rfl, g1, g2, g3, g4, g5, fun hmo => ?_⟩
      · unfold f258_39b f258_82
        rw [hi2, if_neg (by decide)]; rfl
      · have e : s' = s := by
          rcases g4.2 with ⟨x, _⟩ | ⟨_, x⟩
          · rw [hmo] at x; cases x
          · exact x
        rw [e]
        exact fun a t ha ht h3 h4 => g6 hmo a (by omega) h3 t ht h4
    · have hsi := g1 i hi2
      cases gs : s' i with
      | false =>
        rw [gs] at hsi
        refine Or.inl ⟨(2390, B, z_b mo, nI (i + 1)), m1, 24 - (i + 1), ?_, by omega, i + 1, s', mo, rfl, hi2, rfl, g1, g2, g3, g4, g5, fun hmo j hj h3 => ?_⟩
        · unfold f258_39b f258_66 f258_70 f258_75
          cases mo with
          | false => simp (disch := ((try simp only [true_or, or_true, hM.k, hM.k2391, hM.k2392, hM.k2393, hM.k2394, hM.k2395, hM.k2396, hM.k2397, hM.k2398, hM.k2399, hM.k2400, hM.k2401, hM.k2402, hM.k2403, hM.k2404, hM.k2405, hM.k2406, hM.k2407, hM.k2408, hM.k2409, hM.k2410, hM.k2411, hM.k2412, hM.k2413, hM.k2414, hM.k2415, hM.k2416, hM.k2417, hM.k2418, hM.k2419, hM.k2420, hM.k2421, hM.k2422, hM.k2423, hM.l2391, hM.l2392, hM.l2393, hM.l2394, hM.l2395, hM.l2396, hM.l2397, hM.l2398, hM.l2399, hM.l2400, hM.l2401, hM.l2402, hM.l2403, hM.l2404, hM.l2405, hM.l2406, hM.l2407, hM.l2408, hM.l2409, hM.l2410, hM.l2411, hM.l2412, hM.l2413, hM.l2414, hM.l2415, hM.l2416, hM.l2417, hM.l2418, hM.l2419, hM.l2420, hM.l2421, hM.l2422, hM.l2423]) <;> (try omega))) only [↓reduceIte, ↓z_ite, ↓zR, ↓zB_R, ↓zB_B, ↓zB_ite, ↓zB_gI, ↓zB_pI, ↓zB_pZ, ↓zB_aK, ↓zB_G, ↓zB_lI, ↓zB_lZ, ↓zB_wI, ↓zB_wZ, ↓zB_lIl, ↓zB_wIl, zB_pI, zB_pZ, zB_lI, zB_lZ, zB_wI, zB_wZ, z_addl, z_ladd, z_mull, z_lmul, nI_add, z_subl, Nat.not_lt_zero, z_10, z_01, z_bitc, z_b0, z_b1, ↓zB_Gb, ↓zB_G0, ↓zB_G1, z_eql, z_leq, z_ltl, z_llt, z_eq, z_lt, z_m1lt, hM.k, hM.k2391, hM.k2392, hM.k2393, hM.k2394, hM.k2395, hM.k2396, hM.k2397, hM.k2398, hM.k2399, hM.k2400, hM.k2401, hM.k2402, hM.k2403, hM.k2404, hM.k2405, hM.k2406, hM.k2407, hM.k2408, hM.k2409, hM.k2410, hM.k2411, hM.k2412, hM.k2413, hM.k2414, hM.k2415, hM.k2416, hM.k2417, hM.k2418, hM.k2419, hM.k2420, hM.k2421, hM.k2422, hM.k2423, hM.l2391, hM.l2392, hM.l2393, hM.l2394, hM.l2395, hM.l2396, hM.l2397, hM.l2398, hM.l2399, hM.l2400, hM.l2401, hM.l2402, hM.l2403, hM.l2404, hM.l2405, hM.l2406, hM.l2407, hM.l2408, hM.l2409, hM.l2410, hM.l2411, hM.l2412, hM.l2413, hM.l2414, hM.l2415, hM.l2416, hM.l2417, hM.l2418, hM.l2419, hM.l2420, hM.l2421, hM.l2422, hM.l2423, ↓hM.g1, ↓hM.g5, ↓hM.g6, ↓hM.g7, ↓hM.g8, ↓hM.g9, ↓hM.g10, ↓hM.g11, ↓hM.g12, ↓hM.g13, ↓hM.g14, ↓hM.g16, ↓hM.g17, ↓hM.g18, ↓hM.g19, ↓hM.g21, ↓hM.g22, ↓hM.g23, ↓hM.g24, ↓hM.g25, ↓hM.g27, ↓hM.g28, ↓hM.g30, ↓hM.g31, ↓hM.g32, ↓hM.g36, ↓hM.g37, ↓hM.g39, ↓hM.g40, ↓hM.g41, ↓hM.g43, ↓hM.g45, ↓hM.g46, hi2, hsi]; rfl
          | true => simp (disch := ((try simp only [true_or, or_true, hM.k, hM.k2391, hM.k2392, hM.k2393, hM.k2394, hM.k2395, hM.k2396, hM.k2397, hM.k2398, hM.k2399, hM.k2400, hM.k2401, hM.k2402, hM.k2403, hM.k2404, hM.k2405, hM.k2406, hM.k2407, hM.k2408, hM.k2409, hM.k2410, hM.k2411, hM.k2412, hM.k2413, hM.k2414, hM.k2415, hM.k2416, hM.k2417, hM.k2418, hM.k2419, hM.k2420, hM.k2421, hM.k2422, hM.k2423, hM.l2391, hM.l2392, hM.l2393, hM.l2394, hM.l2395, hM.l2396, hM.l2397, hM.l2398, hM.l2399, hM.l2400, hM.l2401, hM.l2402, hM.l2403, hM.l2404, hM.l2405, hM.l2406, hM.l2407, hM.l2408, hM.l2409, hM.l2410, hM.l2411, hM.l2412, hM.l2413, hM.l2414, hM.l2415, hM.l2416, hM.l2417, hM.l2418, hM.l2419, hM.l2420, hM.l2421, hM.l2422, hM.l2423]) <;> (try omega))) only [↓reduceIte, ↓z_ite, ↓zR, ↓zB_R, ↓zB_B, ↓zB_ite, ↓zB_gI, ↓zB_pI, ↓zB_pZ, ↓zB_aK, ↓zB_G, ↓zB_lI, ↓zB_lZ, ↓zB_wI, ↓zB_wZ, ↓zB_lIl, ↓zB_wIl, zB_pI, zB_pZ, zB_lI, zB_lZ, zB_wI, zB_wZ, z_addl, z_ladd, z_mull, z_lmul, nI_add, z_subl, Nat.not_lt_zero, z_10, z_01, z_bitc, z_b0, z_b1, ↓zB_Gb, ↓zB_G0, ↓zB_G1, z_eql, z_leq, z_ltl, z_llt, z_eq, z_lt, z_m1lt, hM.k, hM.k2391, hM.k2392, hM.k2393, hM.k2394, hM.k2395, hM.k2396, hM.k2397, hM.k2398, hM.k2399, hM.k2400, hM.k2401, hM.k2402, hM.k2403, hM.k2404, hM.k2405, hM.k2406, hM.k2407, hM.k2408, hM.k2409, hM.k2410, hM.k2411, hM.k2412, hM.k2413, hM.k2414, hM.k2415, hM.k2416, hM.k2417, hM.k2418, hM.k2419, hM.k2420, hM.k2421, hM.k2422, hM.k2423, hM.l2391, hM.l2392, hM.l2393, hM.l2394, hM.l2395, hM.l2396, hM.l2397, hM.l2398, hM.l2399, hM.l2400, hM.l2401, hM.l2402, hM.l2403, hM.l2404, hM.l2405, hM.l2406, hM.l2407, hM.l2408, hM.l2409, hM.l2410, hM.l2411, hM.l2412, hM.l2413, hM.l2414, hM.l2415, hM.l2416, hM.l2417, hM.l2418, hM.l2419, hM.l2420, hM.l2421, hM.l2422, hM.l2423, ↓hM.g1, ↓hM.g5, ↓hM.g6, ↓hM.g7, ↓hM.g8, ↓hM.g9, ↓hM.g10, ↓hM.g11, ↓hM.g12, ↓hM.g13, ↓hM.g14, ↓hM.g16, ↓hM.g17, ↓hM.g18, ↓hM.g19, ↓hM.g21, ↓hM.g22, ↓hM.g23, ↓hM.g24, ↓hM.g25, ↓hM.g27, ↓hM.g28, ↓hM.g30, ↓hM.g31, ↓hM.g32, ↓hM.g36, ↓hM.g37, ↓hM.g39, ↓hM.g40, ↓hM.g41, ↓hM.g43, ↓hM.g45, ↓hM.g46, hi2, hsi, Bool.true_eq_false]; rfl
        · have e : s' = s := by
            rcases g4.2 with ⟨x, _⟩ | ⟨_, x⟩
            · rw [hmo] at x; cases x
            · exact x
          rcases Nat.lt_succ_iff_lt_or_eq.mp hj with x | x
          · exact g6 hmo j x h3
          · rw [x, ← e, gs] at h3; cases h3
      | true =>
        rw [gs] at hsi
        have hi3 := g3 i gs
        have hli := hlv s' g2.2 i hi3 gs
        obtain ⟨m2, s2, mo2, e, c1, c2, c3, c4⟩ := f259_sp (S := S) hb1 hM hw hB hR hT1 hi3 hli g1 g3
        refine Or.inl ⟨(2390, B, z_b (mo || mo2), nI (i + 1)), m2, 24 - (i + 1), ?_, by omega, i + 1, s2, mo || mo2, rfl, hi2, rfl, c1, ⟨fun q hq => c2.1 q (g2.1 q hq), fun q hq => ?_⟩, fun q hq => ?_, g4.trans c2, fun a ha => (c3 a ha).trans (g5 a ha), fun hmo j hj h3 t ht h4 => ?_⟩
        · unfold f258_39b f258_66 f258_70 f258_75
          cases mo2 with
          | true => simp (disch := ((try simp only [true_or, or_true, hM.k, hM.k2391, hM.k2392, hM.k2393, hM.k2394, hM.k2395, hM.k2396, hM.k2397, hM.k2398, hM.k2399, hM.k2400, hM.k2401, hM.k2402, hM.k2403, hM.k2404, hM.k2405, hM.k2406, hM.k2407, hM.k2408, hM.k2409, hM.k2410, hM.k2411, hM.k2412, hM.k2413, hM.k2414, hM.k2415, hM.k2416, hM.k2417, hM.k2418, hM.k2419, hM.k2420, hM.k2421, hM.k2422, hM.k2423, hM.l2391, hM.l2392, hM.l2393, hM.l2394, hM.l2395, hM.l2396, hM.l2397, hM.l2398, hM.l2399, hM.l2400, hM.l2401, hM.l2402, hM.l2403, hM.l2404, hM.l2405, hM.l2406, hM.l2407, hM.l2408, hM.l2409, hM.l2410, hM.l2411, hM.l2412, hM.l2413, hM.l2414, hM.l2415, hM.l2416, hM.l2417, hM.l2418, hM.l2419, hM.l2420, hM.l2421, hM.l2422, hM.l2423]) <;> (try omega))) only [↓reduceIte, ↓z_ite, ↓zR, ↓zB_R, ↓zB_B, ↓zB_ite, ↓zB_gI, ↓zB_pI, ↓zB_pZ, ↓zB_aK, ↓zB_G, ↓zB_lI, ↓zB_lZ, ↓zB_wI, ↓zB_wZ, ↓zB_lIl, ↓zB_wIl, zB_pI, zB_pZ, zB_lI, zB_lZ, zB_wI, zB_wZ, z_addl, z_ladd, z_mull, z_lmul, nI_add, z_subl, Nat.not_lt_zero, z_10, z_01, z_bitc, z_b0, z_b1, ↓zB_Gb, ↓zB_G0, ↓zB_G1, z_eql, z_leq, z_ltl, z_llt, z_eq, z_lt, z_m1lt, hM.k, hM.k2391, hM.k2392, hM.k2393, hM.k2394, hM.k2395, hM.k2396, hM.k2397, hM.k2398, hM.k2399, hM.k2400, hM.k2401, hM.k2402, hM.k2403, hM.k2404, hM.k2405, hM.k2406, hM.k2407, hM.k2408, hM.k2409, hM.k2410, hM.k2411, hM.k2412, hM.k2413, hM.k2414, hM.k2415, hM.k2416, hM.k2417, hM.k2418, hM.k2419, hM.k2420, hM.k2421, hM.k2422, hM.k2423, hM.l2391, hM.l2392, hM.l2393, hM.l2394, hM.l2395, hM.l2396, hM.l2397, hM.l2398, hM.l2399, hM.l2400, hM.l2401, hM.l2402, hM.l2403, hM.l2404, hM.l2405, hM.l2406, hM.l2407, hM.l2408, hM.l2409, hM.l2410, hM.l2411, hM.l2412, hM.l2413, hM.l2414, hM.l2415, hM.l2416, hM.l2417, hM.l2418, hM.l2419, hM.l2420, hM.l2421, hM.l2422, hM.l2423, ↓hM.g1, ↓hM.g5, ↓hM.g6, ↓hM.g7, ↓hM.g8, ↓hM.g9, ↓hM.g10, ↓hM.g11, ↓hM.g12, ↓hM.g13, ↓hM.g14, ↓hM.g16, ↓hM.g17, ↓hM.g18, ↓hM.g19, ↓hM.g21, ↓hM.g22, ↓hM.g23, ↓hM.g24, ↓hM.g25, ↓hM.g27, ↓hM.g28, ↓hM.g30, ↓hM.g31, ↓hM.g32, ↓hM.g36, ↓hM.g37, ↓hM.g39, ↓hM.g40, ↓hM.g41, ↓hM.g43, ↓hM.g45, ↓hM.g46, hi2, hsi, ↓zB_c e, zB_c e, Bool.true_eq_false, Bool.or_true]; rfl
          | false =>
            cases mo with
            | false => simp (disch := ((try simp only [true_or, or_true, hM.k, hM.k2391, hM.k2392, hM.k2393, hM.k2394, hM.k2395, hM.k2396, hM.k2397, hM.k2398, hM.k2399, hM.k2400, hM.k2401, hM.k2402, hM.k2403, hM.k2404, hM.k2405, hM.k2406, hM.k2407, hM.k2408, hM.k2409, hM.k2410, hM.k2411, hM.k2412, hM.k2413, hM.k2414, hM.k2415, hM.k2416, hM.k2417, hM.k2418, hM.k2419, hM.k2420, hM.k2421, hM.k2422, hM.k2423, hM.l2391, hM.l2392, hM.l2393, hM.l2394, hM.l2395, hM.l2396, hM.l2397, hM.l2398, hM.l2399, hM.l2400, hM.l2401, hM.l2402, hM.l2403, hM.l2404, hM.l2405, hM.l2406, hM.l2407, hM.l2408, hM.l2409, hM.l2410, hM.l2411, hM.l2412, hM.l2413, hM.l2414, hM.l2415, hM.l2416, hM.l2417, hM.l2418, hM.l2419, hM.l2420, hM.l2421, hM.l2422, hM.l2423]) <;> (try omega))) only [↓reduceIte, ↓z_ite, ↓zR, ↓zB_R, ↓zB_B, ↓zB_ite, ↓zB_gI, ↓zB_pI, ↓zB_pZ, ↓zB_aK, ↓zB_G, ↓zB_lI, ↓zB_lZ, ↓zB_wI, ↓zB_wZ, ↓zB_lIl, ↓zB_wIl, zB_pI, zB_pZ, zB_lI, zB_lZ, zB_wI, zB_wZ, z_addl, z_ladd, z_mull, z_lmul, nI_add, z_subl, Nat.not_lt_zero, z_10, z_01, z_bitc, z_b0, z_b1, ↓zB_Gb, ↓zB_G0, ↓zB_G1, z_eql, z_leq, z_ltl, z_llt, z_eq, z_lt, z_m1lt, hM.k, hM.k2391, hM.k2392, hM.k2393, hM.k2394, hM.k2395, hM.k2396, hM.k2397, hM.k2398, hM.k2399, hM.k2400, hM.k2401, hM.k2402, hM.k2403, hM.k2404, hM.k2405, hM.k2406, hM.k2407, hM.k2408, hM.k2409, hM.k2410, hM.k2411, hM.k2412, hM.k2413, hM.k2414, hM.k2415, hM.k2416, hM.k2417, hM.k2418, hM.k2419, hM.k2420, hM.k2421, hM.k2422, hM.k2423, hM.l2391, hM.l2392, hM.l2393, hM.l2394, hM.l2395, hM.l2396, hM.l2397, hM.l2398, hM.l2399, hM.l2400, hM.l2401, hM.l2402, hM.l2403, hM.l2404, hM.l2405, hM.l2406, hM.l2407, hM.l2408, hM.l2409, hM.l2410, hM.l2411, hM.l2412, hM.l2413, hM.l2414, hM.l2415, hM.l2416, hM.l2417, hM.l2418, hM.l2419, hM.l2420, hM.l2421, hM.l2422, hM.l2423, ↓hM.g1, ↓hM.g5, ↓hM.g6, ↓hM.g7, ↓hM.g8, ↓hM.g9, ↓hM.g10, ↓hM.g11, ↓hM.g12, ↓hM.g13, ↓hM.g14, ↓hM.g16, ↓hM.g17, ↓hM.g18, ↓hM.g19, ↓hM.g21, ↓hM.g22, ↓hM.g23, ↓hM.g24, ↓hM.g25, ↓hM.g27, ↓hM.g28, ↓hM.g30, ↓hM.g31, ↓hM.g32, ↓hM.g36, ↓hM.g37, ↓hM.g39, ↓hM.g40, ↓hM.g41, ↓hM.g43, ↓hM.g45, ↓hM.g46, hi2, hsi, ↓zB_c e, zB_c e, Bool.true_eq_false, Bool.or_false]; rfl
            | true => simp (disch := ((try simp only [true_or, or_true, hM.k, hM.k2391, hM.k2392, hM.k2393, hM.k2394, hM.k2395, hM.k2396, hM.k2397, hM.k2398, hM.k2399, hM.k2400, hM.k2401, hM.k2402, hM.k2403, hM.k2404, hM.k2405, hM.k2406, hM.k2407, hM.k2408, hM.k2409, hM.k2410, hM.k2411, hM.k2412, hM.k2413, hM.k2414, hM.k2415, hM.k2416, hM.k2417, hM.k2418, hM.k2419, hM.k2420, hM.k2421, hM.k2422, hM.k2423, hM.l2391, hM.l2392, hM.l2393, hM.l2394, hM.l2395, hM.l2396, hM.l2397, hM.l2398, hM.l2399, hM.l2400, hM.l2401, hM.l2402, hM.l2403, hM.l2404, hM.l2405, hM.l2406, hM.l2407, hM.l2408, hM.l2409, hM.l2410, hM.l2411, hM.l2412, hM.l2413, hM.l2414, hM.l2415, hM.l2416, hM.l2417, hM.l2418, hM.l2419, hM.l2420, hM.l2421, hM.l2422, hM.l2423]) <;> (try omega))) only [↓reduceIte, ↓z_ite, ↓zR, ↓zB_R, ↓zB_B, ↓zB_ite, ↓zB_gI, ↓zB_pI, ↓zB_pZ, ↓zB_aK, ↓zB_G, ↓zB_lI, ↓zB_lZ, ↓zB_wI, ↓zB_wZ, ↓zB_lIl, ↓zB_wIl, zB_pI, zB_pZ, zB_lI, zB_lZ, zB_wI, zB_wZ, z_addl, z_ladd, z_mull, z_lmul, nI_add, z_subl, Nat.not_lt_zero, z_10, z_01, z_bitc, z_b0, z_b1, ↓zB_Gb, ↓zB_G0, ↓zB_G1, z_eql, z_leq, z_ltl, z_llt, z_eq, z_lt, z_m1lt, hM.k, hM.k2391, hM.k2392, hM.k2393, hM.k2394, hM.k2395, hM.k2396, hM.k2397, hM.k2398, hM.k2399, hM.k2400, hM.k2401, hM.k2402, hM.k2403, hM.k2404, hM.k2405, hM.k2406, hM.k2407, hM.k2408, hM.k2409, hM.k2410, hM.k2411, hM.k2412, hM.k2413, hM.k2414, hM.k2415, hM.k2416, hM.k2417, hM.k2418, hM.k2419, hM.k2420, hM.k2421, hM.k2422, hM.k2423, hM.l2391, hM.l2392, hM.l2393, hM.l2394, hM.l2395, hM.l2396, hM.l2397, hM.l2398, hM.l2399, hM.l2400, hM.l2401, hM.l2402, hM.l2403, hM.l2404, hM.l2405, hM.l2406, hM.l2407, hM.l2408, hM.l2409, hM.l2410, hM.l2411, hM.l2412, hM.l2413, hM.l2414, hM.l2415, hM.l2416, hM.l2417, hM.l2418, hM.l2419, hM.l2420, hM.l2421, hM.l2422, hM.l2423, ↓hM.g1, ↓hM.g5, ↓hM.g6, ↓hM.g7, ↓hM.g8, ↓hM.g9, ↓hM.g10, ↓hM.g11, ↓hM.g12, ↓hM.g13, ↓hM.g14, ↓hM.g16, ↓hM.g17, ↓hM.g18, ↓hM.g19, ↓hM.g21, ↓hM.g22, ↓hM.g23, ↓hM.g24, ↓hM.g25, ↓hM.g27, ↓hM.g28, ↓hM.g30, ↓hM.g31, ↓hM.g32, ↓hM.g36, ↓hM.g37, ↓hM.g39, ↓hM.g40, ↓hM.g41, ↓hM.g43, ↓hM.g45, ↓hM.g46, hi2, hsi, ↓zB_c e, zB_c e, Bool.true_eq_false, Bool.or_false]; rfl
        · rw [c4 q] at hq
          rcases Bool.or_eq_true _ _ ▸ hq with x | x
          · exact g2.2 q x
          · obtain ⟨x1, x2⟩ := Bool.and_eq_true_iff.mp x
            exact z_clo_c i q hi3 (by simpa using x1) (g2.2 i gs) x2
        · rw [c4 q] at hq
          rcases Bool.or_eq_true _ _ ▸ hq with x | x
          · exact g3 q x
          · simpa using (Bool.and_eq_true_iff.mp x).1
        · obtain ⟨hm1, hm2⟩ := Bool.or_eq_false_iff.mp hmo
          have e1 : s' = s := by
            rcases g4.2 with ⟨x, _⟩ | ⟨_, x⟩
            · rw [hm1] at x; cases x
            · exact x
          have e2 : s2 = s' := by
            rcases c2.2 with ⟨x, _⟩ | ⟨_, x⟩
            · rw [hm2] at x; cases x
            · exact x
          rcases Nat.lt_succ_iff_lt_or_eq.mp hj with x | x
          · exact g6 hm1 j x h3 t ht h4
          · subst x
            have := c4 t
            rw [h4, decide_eq_true ht, Bool.true_and, Bool.or_true, e2, e1] at this
            exact this
theorem z_clo_cut {n : Nat} {R : Nat → Nat → Bool} {s0 : Nat → Bool} {j : Nat} (hj : j < n) : z_clo n R (fun j => decide (j < n) && s0 j) j = z_clo n R s0 j := by
  have h1 : ∀ r j, j < n → z_ci n R (fun j => decide (j < n) && s0 j) r j = z_ci n R s0 r j := by
    intro r
    induction r with
    | zero => intro j hj; show (decide (j < n) && s0 j) = s0 j; rw [decide_eq_true hj, Bool.true_and]
    | succ r ih =>
      intro j hj
      show (z_ci n R _ r j || (decide (j < n) && z_any (fun i => z_ci n R _ r i && R i j) n)) = (z_ci n R _ r j || (decide (j < n) && z_any (fun i => z_ci n R _ r i && R i j) n))
      rw [ih j hj]
      have : z_any (fun i => z_ci n R (fun j => decide (j < n) && s0 j) r i && R i j) n = z_any (fun i => z_ci n R s0 r i && R i j) n := z_any_congr (fun i hi => by rw [ih i hi])
      rw [this]
  exact h1 n j hj
/-- findReached -/
theorem f258_sp (h : z_mb m b P) (hM : z_MS S) (hw : z_wf P) (hB : B = nI b) (hR : z_RT P) (hT : z_mLT m P) {k : Nat} (hk : k < z_nm P) (hl : z_liv P k = true) : ∃ m', f258 2390 B (nI k) (z_hp S m) = some ((), z_hp S m') ∧ (∀ j, j < z_nm P → m' 2417 j = z_b (z_rch P k j)) ∧ ∀ a, a ≠ 2417 → m' a = m a := by
  have h24 := hw.2.2.1
  have rounds : ∀ n (s : Nat → Bool) (m1 : z_m) (N : Nat), n = z_nm P - z_ct s (z_nm P) → n + 1 < N → z_bl m1 2417 s → z_rnd (z_nm P) (z_cal P) (fun j => decide (j < z_nm P) && z_cal P k j) s → (∀ j, s j = true → j < z_nm P) → (∀ a, a ≠ 2417 → m1 a = m a) → ∃ m', m_W (fun s => f258_30b (s.1) (s.2.1) (s.2.2)) N (2390, B, 1) (z_hp S m1) = some ((), z_hp S m') ∧ (∀ j, j < z_nm P → m' 2417 j = z_b (z_rch P k j)) ∧ ∀ a, a ≠ 2417 → m' a = m a := by
    intro n
    induction n using Nat.strongRecOn with
    | _ n ih =>
      intro s m1 N hn hN g1 g2 g4 g3
      obtain ⟨N, rfl⟩ : ∃ N', N = N' + 2 := ⟨N - 2, by omega⟩
      obtain ⟨m2, s', mo, e, c1, c2, c3, c4, c5, c6⟩ := f258_39_sp (S := S) (z_mb_fr (g3 _ (by decide)) h) hM hw hB hR (z_mLT_fr (fun a x1 x2 => g3 a (by omega)) hT) hk hl g1 g2 g4
      have e2 : f258_30b 2390 B 1 (z_hp S m1) = some (.inl (2390, B, z_b mo), z_hp S m2) := by
        unfold f258_30b
        rw [if_neg (by decide)]; exact e
      rcases c4.2 with ⟨rfl, c7⟩ | ⟨rfl, c7⟩
      · have := z_ct_le (s := s') (z_nm P)
        obtain ⟨m', e3, r⟩ := ih (z_nm P - z_ct s' (z_nm P)) (by omega) s' m2 (N + 1) rfl (by omega) c1 c2 c3 (fun a ha => (c5 a ha).trans (g3 a ha))
        refine ⟨m', ?_, r⟩
        show m_B (f258_30b 2390 B 1) _ _ = _
        rw [zB_c e2]; exact e3
      · refine ⟨m2, ?_, fun j hj => ?_, fun a ha => (c5 a ha).trans (g3 a ha)⟩
        · show m_B (f258_30b 2390 B 1) _ _ = _
          rw [zB_c e2]
          show m_B (f258_30b 2390 B 0) _ _ = _
          unfold f258_30b f258_85
          rw [if_pos rfl]; rfl
        · have : s' = z_clo (z_nm P) (z_cal P) (fun j => decide (j < z_nm P) && z_cal P k j) := z_clo_eq c2.1 (c6 rfl) c2.2
          rw [c1 j (by omega), this, z_clo_cut hj]; rfl
  have key := z_loopI (f := fun s => f258_2b (s.1) (s.2.1) (s.2.2.1) (s.2.2.2)) (S := S) (fun n st m' => ∃ i, n = 24 - i ∧ i ≤ 24 ∧ st = (2390, B, nI k, nI i) ∧ (∀ j, j < i → m' 2417 j = 0) ∧ ∀ a, a ≠ 2417 → m' a = m a) (fun _ m' => (∀ j, j < z_nm P → m' 2417 j = z_b (z_rch P k j)) ∧ ∀ a, a ≠ 2417 → m' a = m a) ?_ 1000000 24 (2390, B, nI k, 0) m ⟨0, rfl, by decide, rfl, fun j hj => by omega, fun _ _ => rfl⟩ (by decide)
  · obtain ⟨r, m', e, g⟩ := key
    exact ⟨m', e, g⟩
  · rintro n st m1 ⟨i, rfl, hi, rfl, g1, g2⟩
    dsimp only
    rcases Nat.eq_or_lt_of_le hi with hi2 | hi2
    · obtain ⟨m2, s2, mo2, e2, c1, c2, c3, c4⟩ := f259_sp (S := S) (z_mb_fr (g2 _ (by decide)) h) hM hw hB hR (z_mLT_fr (fun a x1 x2 => g2 a (by omega)) hT) hk hl (s := fun _ => false) (fun j hj => g1 j (by omega)) (fun j hj => absurd hj (by decide))
      have es : s2 = fun j => decide (j < z_nm P) && z_cal P k j := by
        funext j; rw [c4 j, Bool.false_or]
      obtain ⟨m', e, r⟩ := rounds _ s2 m2 1000000 rfl (by omega) c1 (by rw [es]; exact ⟨fun j hj => hj, fun j hj => z_clo_0 hj⟩) (fun j hj => by rw [es] at hj; simpa using (Bool.and_eq_true_iff.mp hj).1) (fun a ha => (c3 a ha).trans (g2 a ha))
      refine Or.inr ⟨(), m', ?_, r⟩
      unfold f258_2b f258_21 f258_30
      rw [hi2, if_neg (by decide)]
      simp (disch := ((try simp only [true_or, or_true, hM.k, hM.k2391, hM.k2392, hM.k2393, hM.k2394, hM.k2395, hM.k2396, hM.k2397, hM.k2398, hM.k2399, hM.k2400, hM.k2401, hM.k2402, hM.k2403, hM.k2404, hM.k2405, hM.k2406, hM.k2407, hM.k2408, hM.k2409, hM.k2410, hM.k2411, hM.k2412, hM.k2413, hM.k2414, hM.k2415, hM.k2416, hM.k2417, hM.k2418, hM.k2419, hM.k2420, hM.k2421, hM.k2422, hM.k2423, hM.l2391, hM.l2392, hM.l2393, hM.l2394, hM.l2395, hM.l2396, hM.l2397, hM.l2398, hM.l2399, hM.l2400, hM.l2401, hM.l2402, hM.l2403, hM.l2404, hM.l2405, hM.l2406, hM.l2407, hM.l2408, hM.l2409, hM.l2410, hM.l2411, hM.l2412, hM.l2413, hM.l2414, hM.l2415, hM.l2416, hM.l2417, hM.l2418, hM.l2419, hM.l2420, hM.l2421, hM.l2422, hM.l2423]) <;> (try omega))) only [↓reduceIte, ↓z_ite, ↓zR, ↓zB_R, ↓zB_B, ↓zB_ite, ↓zB_gI, ↓zB_pI, ↓zB_pZ, ↓zB_aK, ↓zB_G, ↓zB_lI, ↓zB_lZ, ↓zB_wI, ↓zB_wZ, ↓zB_lIl, ↓zB_wIl, zB_pI, zB_pZ, zB_lI, zB_lZ, zB_wI, zB_wZ, z_addl, z_ladd, z_mull, z_lmul, nI_add, z_subl, Nat.not_lt_zero, z_10, z_01, z_bitc, z_b0, z_b1, ↓zB_Gb, ↓zB_G0, ↓zB_G1, z_eql, z_leq, z_ltl, z_llt, z_eq, z_lt, z_m1lt, hM.k, hM.k2391, hM.k2392, hM.k2393, hM.k2394, hM.k2395, hM.k2396, hM.k2397, hM.k2398, hM.k2399, hM.k2400, hM.k2401, hM.k2402, hM.k2403, hM.k2404, hM.k2405, hM.k2406, hM.k2407, hM.k2408, hM.k2409, hM.k2410, hM.k2411, hM.k2412, hM.k2413, hM.k2414, hM.k2415, hM.k2416, hM.k2417, hM.k2418, hM.k2419, hM.k2420, hM.k2421, hM.k2422, hM.k2423, hM.l2391, hM.l2392, hM.l2393, hM.l2394, hM.l2395, hM.l2396, hM.l2397, hM.l2398, hM.l2399, hM.l2400, hM.l2401, hM.l2402, hM.l2403, hM.l2404, hM.l2405, hM.l2406, hM.l2407, hM.l2408, hM.l2409, hM.l2410, hM.l2411, hM.l2412, hM.l2413, hM.l2414, hM.l2415, hM.l2416, hM.l2417, hM.l2418, hM.l2419, hM.l2420, hM.l2421, hM.l2422, hM.l2423, ↓hM.g1, ↓hM.g5, ↓hM.g6, ↓hM.g7, ↓hM.g8, ↓hM.g9, ↓hM.g10, ↓hM.g11, ↓hM.g12, ↓hM.g13, ↓hM.g14, ↓hM.g16, ↓hM.g17, ↓hM.g18, ↓hM.g19, ↓hM.g21, ↓hM.g22, ↓hM.g23, ↓hM.g24, ↓hM.g25, ↓hM.g27, ↓hM.g28, ↓hM.g30, ↓hM.g31, ↓hM.g32, ↓hM.g36, ↓hM.g37, ↓hM.g39, ↓hM.g40, ↓hM.g41, ↓hM.g43, ↓hM.g45, ↓hM.g46, ↓zB_c e2, zB_c e2]
      rw [zB_c e]; rfl
    · refine Or.inl ⟨(2390, B, nI k, nI (i + 1)), z_up m1 2417 i 0, 24 - (i + 1), ?_, by omega, i + 1, rfl, hi2, rfl, fun j hj => ?_, fun a ha => by rw [z_up_row ha]; exact g2 a ha⟩
      · unfold f258_2b
        simp (disch := ((try simp only [true_or, or_true, hM.k, hM.k2391, hM.k2392, hM.k2393, hM.k2394, hM.k2395, hM.k2396, hM.k2397, hM.k2398, hM.k2399, hM.k2400, hM.k2401, hM.k2402, hM.k2403, hM.k2404, hM.k2405, hM.k2406, hM.k2407, hM.k2408, hM.k2409, hM.k2410, hM.k2411, hM.k2412, hM.k2413, hM.k2414, hM.k2415, hM.k2416, hM.k2417, hM.k2418, hM.k2419, hM.k2420, hM.k2421, hM.k2422, hM.k2423, hM.l2391, hM.l2392, hM.l2393, hM.l2394, hM.l2395, hM.l2396, hM.l2397, hM.l2398, hM.l2399, hM.l2400, hM.l2401, hM.l2402, hM.l2403, hM.l2404, hM.l2405, hM.l2406, hM.l2407, hM.l2408, hM.l2409, hM.l2410, hM.l2411, hM.l2412, hM.l2413, hM.l2414, hM.l2415, hM.l2416, hM.l2417, hM.l2418, hM.l2419, hM.l2420, hM.l2421, hM.l2422, hM.l2423]) <;> (try omega))) only [↓reduceIte, ↓z_ite, ↓zR, ↓zB_R, ↓zB_B, ↓zB_ite, ↓zB_gI, ↓zB_pI, ↓zB_pZ, ↓zB_aK, ↓zB_G, ↓zB_lI, ↓zB_lZ, ↓zB_wI, ↓zB_wZ, ↓zB_lIl, ↓zB_wIl, zB_pI, zB_pZ, zB_lI, zB_lZ, zB_wI, zB_wZ, z_addl, z_ladd, z_mull, z_lmul, nI_add, z_subl, Nat.not_lt_zero, z_10, z_01, z_bitc, z_b0, z_b1, ↓zB_Gb, ↓zB_G0, ↓zB_G1, z_eql, z_leq, z_ltl, z_llt, z_eq, z_lt, z_m1lt, hM.k, hM.k2391, hM.k2392, hM.k2393, hM.k2394, hM.k2395, hM.k2396, hM.k2397, hM.k2398, hM.k2399, hM.k2400, hM.k2401, hM.k2402, hM.k2403, hM.k2404, hM.k2405, hM.k2406, hM.k2407, hM.k2408, hM.k2409, hM.k2410, hM.k2411, hM.k2412, hM.k2413, hM.k2414, hM.k2415, hM.k2416, hM.k2417, hM.k2418, hM.k2419, hM.k2420, hM.k2421, hM.k2422, hM.k2423, hM.l2391, hM.l2392, hM.l2393, hM.l2394, hM.l2395, hM.l2396, hM.l2397, hM.l2398, hM.l2399, hM.l2400, hM.l2401, hM.l2402, hM.l2403, hM.l2404, hM.l2405, hM.l2406, hM.l2407, hM.l2408, hM.l2409, hM.l2410, hM.l2411, hM.l2412, hM.l2413, hM.l2414, hM.l2415, hM.l2416, hM.l2417, hM.l2418, hM.l2419, hM.l2420, hM.l2421, hM.l2422, hM.l2423, ↓hM.g1, ↓hM.g5, ↓hM.g6, ↓hM.g7, ↓hM.g8, ↓hM.g9, ↓hM.g10, ↓hM.g11, ↓hM.g12, ↓hM.g13, ↓hM.g14, ↓hM.g16, ↓hM.g17, ↓hM.g18, ↓hM.g19, ↓hM.g21, ↓hM.g22, ↓hM.g23, ↓hM.g24, ↓hM.g25, ↓hM.g27, ↓hM.g28, ↓hM.g30, ↓hM.g31, ↓hM.g32, ↓hM.g36, ↓hM.g37, ↓hM.g39, ↓hM.g40, ↓hM.g41, ↓hM.g43, ↓hM.g45, ↓hM.g46, hi2]
      · rcases Nat.lt_succ_iff_lt_or_eq.mp hj with x | x
        · rw [z_up_b (by omega)]; exact g1 j x
        · rw [x, z_up_s]
end
