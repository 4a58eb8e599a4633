-- deps: 90.09.bits
/-! banks copied; begin -/
section
variable {S : z_S} {m : z_m} {A : z_A}
/-- copyBank -/
theorem f203_sp (hM : z_MS S) {a b : Nat} {Ba Bb : Int32} (hBa : Ba = nI a) (hBb : Bb = nI b) (ha : a < 13) (hb : b < 13) (hab : a ≠ b) : ∃ m', f203 2390 Ba Bb (z_hp S m) = some ((), z_hp S m') ∧ (∀ j, j < 14200 → m' 2391 (14200 * b + j) = m 2391 (14200 * a + j)) ∧ (∀ j, (j < 14200 * b ∨ 14200 * b + 14200 ≤ j) → m' 2391 j = m 2391 j) ∧ ∀ r, r ≠ 2391 → m' r = m r := by
  subst hBa hBb
  unfold f203 f203_2
  have key := z_loopI (f := fun s => f203_2b (s.1) (s.2.1) (s.2.2.1) (s.2.2.2)) (S := S) (fun n s m' => ∃ i, n = 14200 - i ∧ i ≤ 14200 ∧ s = (2390, nI a, nI b, nI i) ∧ (∀ j, j < i → m' 2391 (14200 * b + j) = m 2391 (14200 * a + j)) ∧ (∀ j, (j < 14200 * b ∨ 14200 * b + 14200 ≤ j) → m' 2391 j = m 2391 j) ∧ ∀ r, r ≠ 2391 → m' r = m r) (fun _ m' => (∀ j, j < 14200 → m' 2391 (14200 * b + j) = m 2391 (14200 * a + j)) ∧ (∀ j, (j < 14200 * b ∨ 14200 * b + 14200 ≤ j) → m' 2391 j = m 2391 j) ∧ ∀ r, r ≠ 2391 → m' r = m r) ?_ 1000000 14200 (2390, nI a, nI b, 0) m ⟨0, rfl, by decide, rfl, fun j hj => by omega, fun _ _ => rfl, fun _ _ => rfl⟩ (by decide)
  · obtain ⟨r, m', e, h⟩ := key
    exact ⟨m', e, h⟩
  · rintro n s m' ⟨i, rfl, hi, rfl, g1, g2, g3⟩
    dsimp only
    rcases Nat.eq_or_lt_of_le hi with hi2 | hi2
    · refine Or.inr ⟨(), m', ?_, fun j hj => g1 j (by omega), g2, g3⟩
      unfold f203_2b f203_39
      rw [hi2]
      simp (disch := ((try simp only [true_or, or_true, hM.k, hM.k2391, hM.k2392, hM.k2393, hM.k2394, hM.k2395, hM.k2396, hM.k2397, hM.k2398, hM.k2399, hM.k2400, hM.k2401, hM.k2402, hM.k2403, hM.k2404, hM.k2405, hM.k2406, hM.k2407, hM.k2408, hM.k2409, hM.k2410, hM.k2411, hM.k2412, hM.k2413, hM.k2414, hM.k2415, hM.k2416, hM.k2417, hM.k2418, hM.k2419, hM.k2420, hM.k2421, hM.k2422, hM.k2423, hM.l2391, hM.l2392, hM.l2393, hM.l2394, hM.l2395, hM.l2396, hM.l2397, hM.l2398, hM.l2399, hM.l2400, hM.l2401, hM.l2402, hM.l2403, hM.l2404, hM.l2405, hM.l2406, hM.l2407, hM.l2408, hM.l2409, hM.l2410, hM.l2411, hM.l2412, hM.l2413, hM.l2414, hM.l2415, hM.l2416, hM.l2417, hM.l2418, hM.l2419, hM.l2420, hM.l2421, hM.l2422, hM.l2423]) <;> (try omega))) only [↓reduceIte, ↓z_ite, ↓zR, ↓zB_R, ↓zB_B, ↓zB_ite, ↓zB_gI, ↓zB_pI, ↓zB_pZ, ↓zB_aK, ↓zB_G, ↓zB_lI, ↓zB_lZ, ↓zB_wI, ↓zB_wZ, ↓zB_lIl, ↓zB_wIl, zB_pI, zB_pZ, zB_lI, zB_lZ, zB_wI, zB_wZ, z_addl, z_ladd, z_mull, z_lmul, nI_add, z_subl, Nat.not_lt_zero, z_10, z_01, z_bitc, z_b0, z_b1, ↓zB_Gb, ↓zB_G0, ↓zB_G1, z_eql, z_leq, z_ltl, z_llt, z_eq, z_lt, z_m1lt, hM.k, hM.k2391, hM.k2392, hM.k2393, hM.k2394, hM.k2395, hM.k2396, hM.k2397, hM.k2398, hM.k2399, hM.k2400, hM.k2401, hM.k2402, hM.k2403, hM.k2404, hM.k2405, hM.k2406, hM.k2407, hM.k2408, hM.k2409, hM.k2410, hM.k2411, hM.k2412, hM.k2413, hM.k2414, hM.k2415, hM.k2416, hM.k2417, hM.k2418, hM.k2419, hM.k2420, hM.k2421, hM.k2422, hM.k2423, hM.l2391, hM.l2392, hM.l2393, hM.l2394, hM.l2395, hM.l2396, hM.l2397, hM.l2398, hM.l2399, hM.l2400, hM.l2401, hM.l2402, hM.l2403, hM.l2404, hM.l2405, hM.l2406, hM.l2407, hM.l2408, hM.l2409, hM.l2410, hM.l2411, hM.l2412, hM.l2413, hM.l2414, hM.l2415, hM.l2416, hM.l2417, hM.l2418, hM.l2419, hM.l2420, hM.l2421, hM.l2422, hM.l2423, ↓hM.g1, ↓hM.g5, ↓hM.g6, ↓hM.g7, ↓hM.g8, ↓hM.g9, ↓hM.g10, ↓hM.g11, ↓hM.g12, ↓hM.g13, ↓hM.g14, ↓hM.g16, ↓hM.g17, ↓hM.g18, ↓hM.g19, ↓hM.g21, ↓hM.g22, ↓hM.g23, ↓hM.g24, ↓hM.g25, ↓hM.g27, ↓hM.g28, ↓hM.g30, ↓hM.g31, ↓hM.g32, ↓hM.g36, ↓hM.g37, ↓hM.g39, ↓hM.g40, ↓hM.g41, ↓hM.g43, ↓hM.g45, ↓hM.g46, Nat.lt_irrefl]
    · refine Or.inl ⟨(2390, nI a, nI b, nI (i + 1)), z_up m' 2391 (14200 * b + i) (m' 2391 (14200 * a + i)), 14200 - (i + 1), ?_, by omega, i + 1, rfl, hi2, rfl, fun j hj => ?_, fun j hj => ?_, fun r hr => ?_⟩
      · unfold f203_2b
        simp (disch := ((try simp only [true_or, or_true, hM.k, hM.k2391, hM.k2392, hM.k2393, hM.k2394, hM.k2395, hM.k2396, hM.k2397, hM.k2398, hM.k2399, hM.k2400, hM.k2401, hM.k2402, hM.k2403, hM.k2404, hM.k2405, hM.k2406, hM.k2407, hM.k2408, hM.k2409, hM.k2410, hM.k2411, hM.k2412, hM.k2413, hM.k2414, hM.k2415, hM.k2416, hM.k2417, hM.k2418, hM.k2419, hM.k2420, hM.k2421, hM.k2422, hM.k2423, hM.l2391, hM.l2392, hM.l2393, hM.l2394, hM.l2395, hM.l2396, hM.l2397, hM.l2398, hM.l2399, hM.l2400, hM.l2401, hM.l2402, hM.l2403, hM.l2404, hM.l2405, hM.l2406, hM.l2407, hM.l2408, hM.l2409, hM.l2410, hM.l2411, hM.l2412, hM.l2413, hM.l2414, hM.l2415, hM.l2416, hM.l2417, hM.l2418, hM.l2419, hM.l2420, hM.l2421, hM.l2422, hM.l2423]) <;> (try omega))) only [↓reduceIte, ↓z_ite, ↓zR, ↓zB_R, ↓zB_B, ↓zB_ite, ↓zB_gI, ↓zB_pI, ↓zB_pZ, ↓zB_aK, ↓zB_G, ↓zB_lI, ↓zB_lZ, ↓zB_wI, ↓zB_wZ, ↓zB_lIl, ↓zB_wIl, zB_pI, zB_pZ, zB_lI, zB_lZ, zB_wI, zB_wZ, z_addl, z_ladd, z_mull, z_lmul, nI_add, z_subl, Nat.not_lt_zero, z_10, z_01, z_bitc, z_b0, z_b1, ↓zB_Gb, ↓zB_G0, ↓zB_G1, z_eql, z_leq, z_ltl, z_llt, z_eq, z_lt, z_m1lt, hM.k, hM.k2391, hM.k2392, hM.k2393, hM.k2394, hM.k2395, hM.k2396, hM.k2397, hM.k2398, hM.k2399, hM.k2400, hM.k2401, hM.k2402, hM.k2403, hM.k2404, hM.k2405, hM.k2406, hM.k2407, hM.k2408, hM.k2409, hM.k2410, hM.k2411, hM.k2412, hM.k2413, hM.k2414, hM.k2415, hM.k2416, hM.k2417, hM.k2418, hM.k2419, hM.k2420, hM.k2421, hM.k2422, hM.k2423, hM.l2391, hM.l2392, hM.l2393, hM.l2394, hM.l2395, hM.l2396, hM.l2397, hM.l2398, hM.l2399, hM.l2400, hM.l2401, hM.l2402, hM.l2403, hM.l2404, hM.l2405, hM.l2406, hM.l2407, hM.l2408, hM.l2409, hM.l2410, hM.l2411, hM.l2412, hM.l2413, hM.l2414, hM.l2415, hM.l2416, hM.l2417, hM.l2418, hM.l2419, hM.l2420, hM.l2421, hM.l2422, hM.l2423, ↓hM.g1, ↓hM.g5, ↓hM.g6, ↓hM.g7, ↓hM.g8, ↓hM.g9, ↓hM.g10, ↓hM.g11, ↓hM.g12, ↓hM.g13, ↓hM.g14, ↓hM.g16, ↓hM.g17, ↓hM.g18, ↓hM.g19, ↓hM.g21, ↓hM.g22, ↓hM.g23, ↓hM.g24, ↓hM.g25, ↓hM.g27, ↓hM.g28, ↓hM.g30, ↓hM.g31, ↓hM.g32, ↓hM.g36, ↓hM.g37, ↓hM.g39, ↓hM.g40, ↓hM.g41, ↓hM.g43, ↓hM.g45, ↓hM.g46, hi2]
      · rcases Nat.lt_succ_iff_lt_or_eq.mp hj with x | x
        · rw [z_up_b (by omega)]; exact g1 j x
        · rw [x, z_up_s]; exact g2 _ (by omega)
      · rw [z_up_b (by omega)]; exact g2 j hj
      · rw [z_up_row hr]; exact g3 r hr
theorem z_mb_cp {a b : Nat} {P : z_Pg} {m' : z_m} (hb : b < 13) (h1 : ∀ j, j < 14200 → m' 2391 (14200 * b + j) = m 2391 (14200 * a + j)) (h : z_mb m a P) : z_mb m' b P := by
  obtain ⟨b1, b2, b3, b4, b5, b6, b7⟩ := h
  refine ⟨hb, b2, b3, ?_, ?_, fun c hc => ?_, fun k hk => ?_⟩
  · exact (h1 0 (by decide)).trans b4
  · exact (h1 1 (by decide)).trans b5
  · obtain ⟨q1, q2⟩ := b6 c hc
    refine ⟨?_, fun n hn => ?_⟩
    · have := h1 (2 + c) (by omega)
      rw [← Nat.add_assoc, ← Nat.add_assoc] at this
      exact this.trans q1
    · have := h1 (8 + 16 * c + n) (by omega)
      rw [show 14200 * b + (8 + 16 * c + n) = 14200 * b + 8 + 16 * c + n by omega, show 14200 * a + (8 + 16 * c + n) = 14200 * a + 8 + 16 * c + n by omega] at this
      exact this.trans (q2 n hn)
  · obtain ⟨q1, q2, q3, q4⟩ := b7 k hk
    refine ⟨fun w hw => ?_, ?_, q3, fun i hi => ?_⟩
    · have := h1 (104 + 10 * k + w) (by omega)
      rw [show 14200 * b + (104 + 10 * k + w) = 14200 * b + 104 + 10 * k + w by omega, show 14200 * a + (104 + 10 * k + w) = 14200 * a + 104 + 10 * k + w by omega] at this
      exact this.trans (q1 w hw)
    · have := h1 (104 + 10 * k + 9) (by omega)
      rw [show 14200 * b + (104 + 10 * k + 9) = 14200 * b + 104 + 10 * k + 9 by omega, show 14200 * a + (104 + 10 * k + 9) = 14200 * a + 104 + 10 * k + 9 by omega] at this
      exact this.trans q2
    · obtain ⟨p1, p2, p3⟩ := q4 i hi
      have t1 := h1 (344 + 576 * k + i) (by omega)
      have t2 := h1 (344 + 576 * k + i + 192) (by omega)
      have t3 := h1 (344 + 576 * k + i + 384) (by omega)
      rw [show 14200 * b + (344 + 576 * k + i) = 14200 * b + 344 + 576 * k + i by omega, show 14200 * a + (344 + 576 * k + i) = 14200 * a + 344 + 576 * k + i by omega] at t1
      rw [show 14200 * b + (344 + 576 * k + i + 192) = 14200 * b + 344 + 576 * k + i + 192 by omega, show 14200 * a + (344 + 576 * k + i + 192) = 14200 * a + 344 + 576 * k + i + 192 by omega] at t2
      rw [show 14200 * b + (344 + 576 * k + i + 384) = 14200 * b + 344 + 576 * k + i + 384 by omega, show 14200 * a + (344 + 576 * k + i + 384) = 14200 * a + 344 + 576 * k + i + 384 by omega] at t3
      exact ⟨t1.trans p1, t2.trans p2, t3.trans p3⟩
theorem z_mz_cp {a b nc : Nat} {m' : z_m} (h1 : ∀ j, j < 14200 → m' 2391 (14200 * b + j) = m 2391 (14200 * a + j)) (h : z_mz m a nc) : z_mz m' b nc := fun c n g1 g2 g3 => by
  have := h1 (8 + 16 * c + n) (by omega)
  rw [show 14200 * b + (8 + 16 * c + n) = 14200 * b + 8 + 16 * c + n by omega, show 14200 * a + (8 + 16 * c + n) = 14200 * a + 8 + 16 * c + n by omega] at this
  exact this.trans (h c n g1 g2 g3)
/-- another bank stays -/
theorem z_mb_st {b c : Nat} {P : z_Pg} {m' : z_m} (hbc : b ≠ c) (h2 : ∀ j, (j < 14200 * c ∨ 14200 * c + 14200 ≤ j) → m' 2391 j = m 2391 j) (h : z_mb m b P) : z_mb m' b P := by
  obtain ⟨b1, b2, b3, b4, b5, b6, b7⟩ := h
  have r : ∀ j, j < 14200 → m' 2391 (14200 * b + j) = m 2391 (14200 * b + j) := fun j hj => h2 _ (by omega)
  exact z_mb_cp b1 r ⟨b1, b2, b3, b4, b5, b6, b7⟩
theorem z_mz_st {b c nc : Nat} {m' : z_m} (hbc : b ≠ c) (h2 : ∀ j, (j < 14200 * c ∨ 14200 * c + 14200 ≤ j) → m' 2391 j = m 2391 j) (h : z_mz m b nc) : z_mz m' b nc :=
  z_mz_cp (a := b) (fun j hj => h2 _ (by omega)) h
/-! begin -/
/-- how many are there -/
def z_mny (P : z_Pg) : Nat := z_ct (z_liv P) (z_nm P)
noncomputable def z_obegin (A : z_A) : (Int32 ⊕ Nat) × z_A := if z_wr A.2.1 = -1 then (.inl (nI (z_mny A.2.1)), (A.1, A.2.1, some A.2.1, [], A.2.2.2.2)) else (.inr 0, A)
theorem f81_sp {p : Nat} {P : z_Pg} (hp : z_PS S p) (h : z_cp m p P) (hw : z_wf P) : f81 p (z_hp S m) = some (nI (z_mny P), z_hp S m) := by
  have e := f309_sp (S := S) (m := m) (n := z_nm P) (s := z_liv P) (F := m p 12) hw.2.2.1 (fun j hj => h.2.1.2.1 j hj)
  unfold f81
  simp (disch := ((try simp only [true_or, or_true, hp.k, hp.k1, hp.k2, hp.k3, hp.k4, hp.k5, hp.k6, hp.k7, hp.k8, hp.k9, hp.k10, hp.l1, hp.l2, hp.l3, hp.l4, hp.l5, hp.l6, hp.l7, hp.l8, hp.l9, hp.l10]) <;> (try omega))) only [↓reduceIte, ↓z_ite, ↓zR, ↓zB_R, ↓zB_B, ↓zB_ite, ↓zB_gI, ↓zB_pI, ↓zB_pZ, ↓zB_aK, ↓zB_G, ↓zB_lI, ↓zB_lZ, ↓zB_wI, ↓zB_wZ, ↓zB_lIl, ↓zB_wIl, zB_pI, zB_pZ, zB_lI, zB_lZ, zB_wI, zB_wZ, z_addl, z_ladd, z_mull, z_lmul, nI_add, z_subl, Nat.not_lt_zero, z_10, z_01, z_bitc, z_b0, z_b1, ↓zB_Gb, ↓zB_G0, ↓zB_G1, z_eql, z_leq, z_ltl, z_llt, z_eq, z_lt, z_m1lt, hp.k, hp.k1, hp.k2, hp.k3, hp.k4, hp.k5, hp.k6, hp.k7, hp.k8, hp.k9, hp.k10, hp.l1, hp.l2, hp.l3, hp.l4, hp.l5, hp.l6, hp.l7, hp.l8, hp.l9, hp.l10, ↓hp.g0, ↓hp.g1, ↓hp.g2, ↓hp.g3, ↓hp.g4, ↓hp.g5, ↓hp.g6, ↓hp.g7, ↓hp.g8, ↓hp.g9, ↓hp.gb, hp.gb, ↓zB_c e, zB_c e]
  rfl
theorem z_CM_bg (hw : z_WA A) {sn sx : Nat} {sp : Nat → Nat} (hI : z_ID S sn sx sp) (h : z_CM m sn sp A) {m' : z_m} {Bg : z_Pg} (h0 : m' 0 12 = 1) (h13 : m' 0 13 = 0) (hm : ∀ a, a ≠ 0 → (a < 62 ∨ 241 ≤ a) → m' a = m a) (hR : ∀ k, k < 24 → m' (z_bi 62 k) 6 = nI 60) (hk : z_PK m' 62 Bg) : z_CM m' sn sp (A.1, A.2.1, some Bg, [], A.2.2.2.2) := by
  obtain ⟨⟨a1, a2, a3, a4, a5, a6⟩, hT, ⟨h1, h2, h3, h4⟩, h5, h6⟩ := h
  refine ⟨⟨fun s hs k hk2 => ?_, hR, ?_, ?_, ?_, ?_⟩, ?_, ⟨?_, ⟨h0, hk⟩, h13, fun i hi => absurd hi (Nat.not_lt_zero _)⟩, ?_, ?_⟩
  · rw [hm _ (by have := z_pid_lo s; unfold z_bi; omega) (by have := z_pid_lo s; unfold z_bi; omega)]; exact a1 s hs k hk2
  · rw [hm _ (by decide) (by decide)]; exact a3
  · rw [hm _ (by decide) (by decide)]; exact a4
  · rw [hm _ (by decide) (by decide)]; exact a5
  · rw [hm _ (by decide) (by decide)]; exact a6
  · exact z_cT_fr (fun a ha => hm a (by omega) (by omega)) hT
  · exact z_PK_fr (z_wf_nm hw.2.1.1) (fun a x1 x2 => hm a (by have := z_pid_lo sn; omega) (by have := z_pid_lo sn; omega)) h1
  · rw [hm 10 (by decide) (by decide)]; exact h5
  · rw [hm 10 (by decide) (by decide)]; exact h6
theorem c_begin (hw : z_WA A) (h : z_CR S m A) : ∃ S1 m1, f139 0 (z_hp S m) = some ((z_obegin A).1, z_hp S1 m1) ∧ z_CR S1 m1 (z_obegin A).2 ∧ z_SS S S1 ∧ ∀ a, 2390 ≤ a → m1 a = m a := by
  have h0 := h
  obtain ⟨sn, sx, sp, hI, hCM⟩ := h0
  have hX := hI.1
  have hs := hI.2.2.2.1.1
  have lo := z_pid_lo sn
  have hp := hI.2.2.1 sn hs
  have hpk := hp.k
  have h62 := hI.2.1
  have h62k := h62.k
  have hn := hI.2.2.2.2.2.1
  have hwf := hw.2.1.1
  unfold z_obegin
  by_cases g : z_wr A.2.1 = -1
  · rw [if_pos g]
    obtain ⟨m1, e, c1, r1, _⟩ := c_rr_y hw hI hCM g
    have hc0 : z_cp (z_up m1 0 13 0) (z_pid sn) A.2.1 := (z_PK_fr (z_wf_nm hwf) (fun a x1 _ => z_up_row (by omega)) c1.2.2.1.1).1
    obtain ⟨m2, e70, cp2, f14, fr2⟩ := f70_sp (S := S) (m := z_up m1 0 13 0) h62 hp (by omega) hc0 hwf (fun k hk => by rw [z_up_row (by unfold z_bi; omega)]; exact c1.1.2.1 k hk)
    have hcn : z_cp (z_up m2 0 12 1) (z_pid sn) A.2.1 := (z_PK_fr (z_wf_nm hwf) (fun a x1 _ => by rw [z_up_row (by omega), fr2 a (by omega), z_up_row (by omega)]) c1.2.2.1.1).1
    have e81 := f81_sp (S := S) hp hcn hwf
    refine ⟨S, z_up m2 0 12 1, ?_, ⟨sn, sx, sp, hI, z_CM_bg hw hI c1 (z_up_s _ _ _ _) ?_ (fun a x1 x2 => ?_) (fun k hk => ?_) ?_⟩, z_SS.refl S, fun a ha => ?_⟩
    · unfold f139
      simp (disch := ((try simp only [true_or, or_true, hX.k0, hX.k8, hX.k9, hX.l9, hp.k, hp.k1, hp.k2, hp.k3, hp.k4, hp.k5, hp.k6, hp.k7, hp.k8, hp.k9, hp.k10, hp.l1, hp.l2, hp.l3, hp.l4, hp.l5, hp.l6, hp.l7, hp.l8, hp.l9, hp.l10, h62.k, h62.k1, h62.k2, h62.k3, h62.k4, h62.k5, h62.k6, h62.k7, h62.k8, h62.k9, h62.k10, h62.l1, h62.l2, h62.l3, h62.l4, h62.l5, h62.l6, h62.l7, h62.l8, h62.l9, h62.l10, hpk, h62k]) <;> (try omega))) only [↓reduceIte, ↓z_ite, ↓zR, ↓zB_R, ↓zB_B, ↓zB_ite, ↓zB_gI, ↓zB_pI, ↓zB_pZ, ↓zB_aK, ↓zB_G, ↓zB_lI, ↓zB_lZ, ↓zB_wI, ↓zB_wZ, ↓zB_lIl, ↓zB_wIl, zB_pI, zB_pZ, zB_lI, zB_lZ, zB_wI, zB_wZ, z_addl, z_ladd, z_mull, z_lmul, nI_add, z_subl, Nat.not_lt_zero, z_10, z_01, z_bitc, z_b0, z_b1, ↓zB_Gb, ↓zB_G0, ↓zB_G1, z_eql, z_leq, z_ltl, z_llt, z_eq, z_lt, z_m1lt, hX.k0, hX.k8, hX.k9, hX.l9, hp.k, hp.k1, hp.k2, hp.k3, hp.k4, hp.k5, hp.k6, hp.k7, hp.k8, hp.k9, hp.k10, hp.l1, hp.l2, hp.l3, hp.l4, hp.l5, hp.l6, hp.l7, hp.l8, hp.l9, hp.l10, h62.k, h62.k1, h62.k2, h62.k3, h62.k4, h62.k5, h62.k6, h62.k7, h62.k8, h62.k9, h62.k10, h62.l1, h62.l2, h62.l3, h62.l4, h62.l5, h62.l6, h62.l7, h62.l8, h62.l9, h62.l10, hpk, h62k, ↓hX.g0_0, ↓hX.g0_1, ↓hX.g0_2, ↓hX.g0_3, ↓hX.g0_4, ↓hX.g0_5, ↓hX.g0_6, ↓hX.g0_7, ↓hX.g0_8, ↓hX.g0_9, ↓hX.g8_0, ↓hp.g0, ↓hp.g1, ↓hp.g2, ↓hp.g3, ↓hp.g4, ↓hp.g5, ↓hp.g6, ↓hp.g7, ↓hp.g8, ↓hp.g9, ↓hp.gb, hp.gb, ↓h62.g0, ↓h62.g1, ↓h62.g2, ↓h62.g3, ↓h62.g4, ↓h62.g5, ↓h62.g6, ↓h62.g7, ↓h62.g8, ↓h62.g9, ↓h62.gb, h62.gb, ↓z_gnow hX hn, z_gnow hX hn, ↓zT_l e, zT_l e, ↓zB_c e70, zB_c e70, ↓zB_c e81, zB_c e81]
    · rw [z_up_b (by decide), fr2 0 (by decide), z_up_s]
    · rw [z_up_row x1, fr2 a (by omega), z_up_row x1]
    · rw [z_up_row (by unfold z_bi; omega)]; exact cp2.2.2.1 k hk
    · refine z_PK_fr (m := m2) (z_wf_nm hwf) (fun a x1 _ => z_up_row (by omega)) ⟨cp2, Or.inl f14, fun q => ?_⟩
      rw [f14] at q; exact absurd q (by decide)
    · rw [z_up_row (by omega), fr2 a (by omega), z_up_row (by omega)]; exact r1 a ha
  · rw [if_neg g]
    obtain ⟨m1, e, c1, r1⟩ := c_rr_n hw hI hCM g
    refine ⟨z_Sx S, m1, ?_, ⟨sn, sx, sp, hI, c1⟩, z_SS.x S, r1⟩
    unfold f139
    simp (disch := ((try simp only [true_or, or_true, hX.k0, hX.k8, hX.k9, hX.l9, hp.k, hp.k1, hp.k2, hp.k3, hp.k4, hp.k5, hp.k6, hp.k7, hp.k8, hp.k9, hp.k10, hp.l1, hp.l2, hp.l3, hp.l4, hp.l5, hp.l6, hp.l7, hp.l8, hp.l9, hp.l10]) <;> (try omega))) only [↓reduceIte, ↓z_ite, ↓zR, ↓zB_R, ↓zB_B, ↓zB_ite, ↓zB_gI, ↓zB_pI, ↓zB_pZ, ↓zB_aK, ↓zB_G, ↓zB_lI, ↓zB_lZ, ↓zB_wI, ↓zB_wZ, ↓zB_lIl, ↓zB_wIl, zB_pI, zB_pZ, zB_lI, zB_lZ, zB_wI, zB_wZ, z_addl, z_ladd, z_mull, z_lmul, nI_add, z_subl, Nat.not_lt_zero, z_10, z_01, z_bitc, z_b0, z_b1, ↓zB_Gb, ↓zB_G0, ↓zB_G1, z_eql, z_leq, z_ltl, z_llt, z_eq, z_lt, z_m1lt, hX.k0, hX.k8, hX.k9, hX.l9, hp.k, hp.k1, hp.k2, hp.k3, hp.k4, hp.k5, hp.k6, hp.k7, hp.k8, hp.k9, hp.k10, hp.l1, hp.l2, hp.l3, hp.l4, hp.l5, hp.l6, hp.l7, hp.l8, hp.l9, hp.l10, ↓hX.g0_0, ↓hX.g0_1, ↓hX.g0_2, ↓hX.g0_3, ↓hX.g0_4, ↓hX.g0_5, ↓hX.g0_6, ↓hX.g0_7, ↓hX.g0_8, ↓hX.g0_9, ↓hX.g8_0, ↓hp.g0, ↓hp.g1, ↓hp.g2, ↓hp.g3, ↓hp.g4, ↓hp.g5, ↓hp.g6, ↓hp.g7, ↓hp.g8, ↓hp.g9, ↓hp.gb, hp.gb, ↓z_gnow hX hn, z_gnow hX hn, ↓zT_r e, zT_r e]
theorem f237_c (hM : z_MS S) {P : z_Pg} (h : z_mb m 0 P) (hw : z_wf P) : f237_43 2390 0 0 (z_hp S m) = some (nI (z_mny P), z_hp S m) := by
  have h24 := h.2.2.1
  have hnm : m 2391 1 = nI (z_nm P) := h.2.2.2.2.1
  unfold f237_43
  refine (z_fold (fun i (a : Nat) => (2390, nI a, nI i)) (fun i a => a + (if z_liv P i = true then 1 else 0)) nI (z_nm P) 0 1000000 (by omega) (fun i a hi => ?_) (fun a => ?_)).trans ?_
  · have e0 := h.e0 hM (B := 0) rfl hi
    have e01 := (hw.2.2.2.1 i hi).1
    unfold f237_43b
    have ez : z_hd P i 0 = nI (if z_liv P i = true then 1 else 0) := by
      rcases e01 with g | g
      · rw [if_neg (by unfold z_liv; rw [g]; decide), g]; rfl
      · rw [if_pos (by unfold z_liv; rw [g]; decide), g]; rfl
    simp (disch := ((try simp only [true_or, or_true, hM.k, hM.k2391, hM.k2392, hM.k2393, hM.k2394, hM.k2395, hM.k2396, hM.k2397, hM.k2398, hM.k2399, hM.k2400, hM.k2401, hM.k2402, hM.k2403, hM.k2404, hM.k2405, hM.k2406, hM.k2407, hM.k2408, hM.k2409, hM.k2410, hM.k2411, hM.k2412, hM.k2413, hM.k2414, hM.k2415, hM.k2416, hM.k2417, hM.k2418, hM.k2419, hM.k2420, hM.k2421, hM.k2422, hM.k2423, hM.l2391, hM.l2392, hM.l2393, hM.l2394, hM.l2395, hM.l2396, hM.l2397, hM.l2398, hM.l2399, hM.l2400, hM.l2401, hM.l2402, hM.l2403, hM.l2404, hM.l2405, hM.l2406, hM.l2407, hM.l2408, hM.l2409, hM.l2410, hM.l2411, hM.l2412, hM.l2413, hM.l2414, hM.l2415, hM.l2416, hM.l2417, hM.l2418, hM.l2419, hM.l2420, hM.l2421, hM.l2422, hM.l2423]) <;> (try omega))) only [↓reduceIte, ↓z_ite, ↓zR, ↓zB_R, ↓zB_B, ↓zB_ite, ↓zB_gI, ↓zB_pI, ↓zB_pZ, ↓zB_aK, ↓zB_G, ↓zB_lI, ↓zB_lZ, ↓zB_wI, ↓zB_wZ, ↓zB_lIl, ↓zB_wIl, zB_pI, zB_pZ, zB_lI, zB_lZ, zB_wI, zB_wZ, z_addl, z_ladd, z_mull, z_lmul, nI_add, z_subl, Nat.not_lt_zero, z_10, z_01, z_bitc, z_b0, z_b1, ↓zB_Gb, ↓zB_G0, ↓zB_G1, z_eql, z_leq, z_ltl, z_llt, z_eq, z_lt, z_m1lt, hM.k, hM.k2391, hM.k2392, hM.k2393, hM.k2394, hM.k2395, hM.k2396, hM.k2397, hM.k2398, hM.k2399, hM.k2400, hM.k2401, hM.k2402, hM.k2403, hM.k2404, hM.k2405, hM.k2406, hM.k2407, hM.k2408, hM.k2409, hM.k2410, hM.k2411, hM.k2412, hM.k2413, hM.k2414, hM.k2415, hM.k2416, hM.k2417, hM.k2418, hM.k2419, hM.k2420, hM.k2421, hM.k2422, hM.k2423, hM.l2391, hM.l2392, hM.l2393, hM.l2394, hM.l2395, hM.l2396, hM.l2397, hM.l2398, hM.l2399, hM.l2400, hM.l2401, hM.l2402, hM.l2403, hM.l2404, hM.l2405, hM.l2406, hM.l2407, hM.l2408, hM.l2409, hM.l2410, hM.l2411, hM.l2412, hM.l2413, hM.l2414, hM.l2415, hM.l2416, hM.l2417, hM.l2418, hM.l2419, hM.l2420, hM.l2421, hM.l2422, hM.l2423, ↓hM.g1, ↓hM.g5, ↓hM.g6, ↓hM.g7, ↓hM.g8, ↓hM.g9, ↓hM.g10, ↓hM.g11, ↓hM.g12, ↓hM.g13, ↓hM.g14, ↓hM.g16, ↓hM.g17, ↓hM.g18, ↓hM.g19, ↓hM.g21, ↓hM.g22, ↓hM.g23, ↓hM.g24, ↓hM.g25, ↓hM.g27, ↓hM.g28, ↓hM.g30, ↓hM.g31, ↓hM.g32, ↓hM.g36, ↓hM.g37, ↓hM.g39, ↓hM.g40, ↓hM.g41, ↓hM.g43, ↓hM.g45, ↓hM.g46, hnm, hi, ↓zB_c e0, zB_c e0, ez, nI_add]
  · unfold f237_43b f237_69
    simp (disch := ((try simp only [true_or, or_true, hM.k, hM.k2391, hM.k2392, hM.k2393, hM.k2394, hM.k2395, hM.k2396, hM.k2397, hM.k2398, hM.k2399, hM.k2400, hM.k2401, hM.k2402, hM.k2403, hM.k2404, hM.k2405, hM.k2406, hM.k2407, hM.k2408, hM.k2409, hM.k2410, hM.k2411, hM.k2412, hM.k2413, hM.k2414, hM.k2415, hM.k2416, hM.k2417, hM.k2418, hM.k2419, hM.k2420, hM.k2421, hM.k2422, hM.k2423, hM.l2391, hM.l2392, hM.l2393, hM.l2394, hM.l2395, hM.l2396, hM.l2397, hM.l2398, hM.l2399, hM.l2400, hM.l2401, hM.l2402, hM.l2403, hM.l2404, hM.l2405, hM.l2406, hM.l2407, hM.l2408, hM.l2409, hM.l2410, hM.l2411, hM.l2412, hM.l2413, hM.l2414, hM.l2415, hM.l2416, hM.l2417, hM.l2418, hM.l2419, hM.l2420, hM.l2421, hM.l2422, hM.l2423]) <;> (try omega))) only [↓reduceIte, ↓z_ite, ↓zR, ↓zB_R, ↓zB_B, ↓zB_ite, ↓zB_gI, ↓zB_pI, ↓zB_pZ, ↓zB_aK, ↓zB_G, ↓zB_lI, ↓zB_lZ, ↓zB_wI, ↓zB_wZ, ↓zB_lIl, ↓zB_wIl, zB_pI, zB_pZ, zB_lI, zB_lZ, zB_wI, zB_wZ, z_addl, z_ladd, z_mull, z_lmul, nI_add, z_subl, Nat.not_lt_zero, z_10, z_01, z_bitc, z_b0, z_b1, ↓zB_Gb, ↓zB_G0, ↓zB_G1, z_eql, z_leq, z_ltl, z_llt, z_eq, z_lt, z_m1lt, hM.k, hM.k2391, hM.k2392, hM.k2393, hM.k2394, hM.k2395, hM.k2396, hM.k2397, hM.k2398, hM.k2399, hM.k2400, hM.k2401, hM.k2402, hM.k2403, hM.k2404, hM.k2405, hM.k2406, hM.k2407, hM.k2408, hM.k2409, hM.k2410, hM.k2411, hM.k2412, hM.k2413, hM.k2414, hM.k2415, hM.k2416, hM.k2417, hM.k2418, hM.k2419, hM.k2420, hM.k2421, hM.k2422, hM.k2423, hM.l2391, hM.l2392, hM.l2393, hM.l2394, hM.l2395, hM.l2396, hM.l2397, hM.l2398, hM.l2399, hM.l2400, hM.l2401, hM.l2402, hM.l2403, hM.l2404, hM.l2405, hM.l2406, hM.l2407, hM.l2408, hM.l2409, hM.l2410, hM.l2411, hM.l2412, hM.l2413, hM.l2414, hM.l2415, hM.l2416, hM.l2417, hM.l2418, hM.l2419, hM.l2420, hM.l2421, hM.l2422, hM.l2423, ↓hM.g1, ↓hM.g5, ↓hM.g6, ↓hM.g7, ↓hM.g8, ↓hM.g9, ↓hM.g10, ↓hM.g11, ↓hM.g12, ↓hM.g13, ↓hM.g14, ↓hM.g16, ↓hM.g17, ↓hM.g18, ↓hM.g19, ↓hM.g21, ↓hM.g22, ↓hM.g23, ↓hM.g24, ↓hM.g25, ↓hM.g27, ↓hM.g28, ↓hM.g30, ↓hM.g31, ↓hM.g32, ↓hM.g36, ↓hM.g37, ↓hM.g39, ↓hM.g40, ↓hM.g41, ↓hM.g43, ↓hM.g45, ↓hM.g46, hnm, Nat.lt_irrefl]
  · have : ∀ n, z_fo (fun i a => a + (if z_liv P i = true then 1 else 0)) n 0 = z_ct (z_liv P) n := by
      intro n
      induction n with
      | zero => rfl
      | succ n ih => show z_fo _ n 0 + _ = z_ct (z_liv P) n + _; rw [ih]
    rw [this]; rfl
theorem m_begin (hM : z_MS S) (hw : z_WA A) (h : z_MR m A) : (∃ v m1, f237 2390 (z_hp S m) = some (v, z_hp S m1) ∧ z_MR m1 (z_obegin A).2 ∧ (∀ b, b < 2390 ∨ 2424 ≤ b → m1 b = m b) ∧ z_ans z_cd1 (z_obegin A).1 v (m1 2390 0)) ∧ z_WA (z_obegin A).2 := by
  have hwf := hw.2.1.1
  obtain ⟨m1, e, hF, _⟩ := f235_sp (S := S) (B := 0) h.2.1 hM hwf rfl
  have h1 := z_MR_LF h hF
  have i0 := f178_0 (m := m1) hM
  have i1 := f178_1 (m := m1) hM
  unfold z_obegin
  by_cases g : z_wr A.2.1 = -1
  · rw [if_pos g]
    rw [g] at e
    obtain ⟨m2, e203, cp, st, fr⟩ := f203_sp (S := S) (m := z_up m1 2390 0 0) (a := 0) (b := 1) (Ba := 0) (Bb := 1) hM rfl rfl (by decide) (by decide) (by decide)
    generalize hm3 : z_up (z_up m2 2390 3 1) 2390 2 0 = m3
    have r3 : ∀ a, a ≠ 2390 → m3 a = m2 a := fun a ha => by rw [← hm3, z_up_row ha, z_up_row ha]
    have r3b : ∀ j, j ≠ 2 → j ≠ 3 → m3 2390 j = m2 2390 j := fun j j1 j2 => by rw [← hm3, z_up_b j1, z_up_b j2]
    have hb0 : z_mb m1 0 A.2.1 := h1.2.1
    have hb0' : z_mb (z_up m1 2390 0 0) 0 A.2.1 := z_mb_fr (z_up_row (by decide)) hb0
    have hb3 : z_mb m3 0 A.2.1 := z_mb_fr (r3 _ (by decide)) (z_mb_st (by decide) st hb0')
    have ec := f237_c (S := S) hM hb3 hwf
    have f1 : ∀ a, a ≠ 2390 → a ≠ 2391 → m3 a = m1 a := fun a g1 g2 => by rw [r3 a g1, fr a g2, z_up_row g1]
    have f2 : ∀ j, j ≠ 0 → j ≠ 2 → j ≠ 3 → m3 2390 j = m1 2390 j := fun j g1 g2 g3 => by rw [r3b j g2 g3, fr _ (by decide), z_up_b g1]
    obtain ⟨a1, a2, a3, a4, a5, a6, a7, a8, a9⟩ := h1
    refine ⟨⟨_, m3, ?_, ⟨?_, hb3, ⟨?_, ?_⟩, ?_, fun i hi => absurd hi (Nat.not_lt_zero _), ?_, ?_, ?_, fun i hi => absurd hi (Nat.not_lt_zero _)⟩, fun b hb => ?_, rfl, ?_⟩, hw.1, hw.2.1, fun Bg hBg => ?_, Nat.zero_le _, fun i hi => absurd hi (Nat.not_lt_zero _)⟩
    · unfold f237 f237_15
      simp (disch := ((try simp only [true_or, or_true, hM.k, hM.k2391, hM.k2392, hM.k2393, hM.k2394, hM.k2395, hM.k2396, hM.k2397, hM.k2398, hM.k2399, hM.k2400, hM.k2401, hM.k2402, hM.k2403, hM.k2404, hM.k2405, hM.k2406, hM.k2407, hM.k2408, hM.k2409, hM.k2410, hM.k2411, hM.k2412, hM.k2413, hM.k2414, hM.k2415, hM.k2416, hM.k2417, hM.k2418, hM.k2419, hM.k2420, hM.k2421, hM.k2422, hM.k2423, hM.l2391, hM.l2392, hM.l2393, hM.l2394, hM.l2395, hM.l2396, hM.l2397, hM.l2398, hM.l2399, hM.l2400, hM.l2401, hM.l2402, hM.l2403, hM.l2404, hM.l2405, hM.l2406, hM.l2407, hM.l2408, hM.l2409, hM.l2410, hM.l2411, hM.l2412, hM.l2413, hM.l2414, hM.l2415, hM.l2416, hM.l2417, hM.l2418, hM.l2419, hM.l2420, hM.l2421, hM.l2422, hM.l2423]) <;> (try omega))) only [↓reduceIte, ↓z_ite, ↓zR, ↓zB_R, ↓zB_B, ↓zB_ite, ↓zB_gI, ↓zB_pI, ↓zB_pZ, ↓zB_aK, ↓zB_G, ↓zB_lI, ↓zB_lZ, ↓zB_wI, ↓zB_wZ, ↓zB_lIl, ↓zB_wIl, zB_pI, zB_pZ, zB_lI, zB_lZ, zB_wI, zB_wZ, z_addl, z_ladd, z_mull, z_lmul, nI_add, z_subl, Nat.not_lt_zero, z_10, z_01, z_bitc, z_b0, z_b1, ↓zB_Gb, ↓zB_G0, ↓zB_G1, z_eql, z_leq, z_ltl, z_llt, z_eq, z_lt, z_m1lt, hM.k, hM.k2391, hM.k2392, hM.k2393, hM.k2394, hM.k2395, hM.k2396, hM.k2397, hM.k2398, hM.k2399, hM.k2400, hM.k2401, hM.k2402, hM.k2403, hM.k2404, hM.k2405, hM.k2406, hM.k2407, hM.k2408, hM.k2409, hM.k2410, hM.k2411, hM.k2412, hM.k2413, hM.k2414, hM.k2415, hM.k2416, hM.k2417, hM.k2418, hM.k2419, hM.k2420, hM.k2421, hM.k2422, hM.k2423, hM.l2391, hM.l2392, hM.l2393, hM.l2394, hM.l2395, hM.l2396, hM.l2397, hM.l2398, hM.l2399, hM.l2400, hM.l2401, hM.l2402, hM.l2403, hM.l2404, hM.l2405, hM.l2406, hM.l2407, hM.l2408, hM.l2409, hM.l2410, hM.l2411, hM.l2412, hM.l2413, hM.l2414, hM.l2415, hM.l2416, hM.l2417, hM.l2418, hM.l2419, hM.l2420, hM.l2421, hM.l2422, hM.l2423, ↓hM.g1, ↓hM.g5, ↓hM.g6, ↓hM.g7, ↓hM.g8, ↓hM.g9, ↓hM.g10, ↓hM.g11, ↓hM.g12, ↓hM.g13, ↓hM.g14, ↓hM.g16, ↓hM.g17, ↓hM.g18, ↓hM.g19, ↓hM.g21, ↓hM.g22, ↓hM.g23, ↓hM.g24, ↓hM.g25, ↓hM.g27, ↓hM.g28, ↓hM.g30, ↓hM.g31, ↓hM.g32, ↓hM.g36, ↓hM.g37, ↓hM.g39, ↓hM.g40, ↓hM.g41, ↓hM.g43, ↓hM.g45, ↓hM.g46, ↓zB_c e, zB_c e, ↓zB_c i0, zB_c i0, ↓zB_c e203, zB_c e203, hm3]
      exact ec
    · exact z_mT_fr (f2 4 (by decide) (by decide) (by decide)) (fun a x1 x2 => f1 a (by omega) (by omega)) a1
    · show m3 2390 3 = 1
      rw [← hm3, z_up_b (by decide), z_up_s]
    · exact z_mb_fr (r3 _ (by decide)) (z_mb_cp (a := 0) (by decide) cp hb0')
    · show m3 2390 2 = nI 0
      rw [← hm3]; exact z_up_s _ _ _ _
    · rw [f2 35 (by decide) (by decide) (by decide)]; exact a6
    · rw [f2 33 (by decide) (by decide) (by decide)]; exact a7
    · exact z_mz_fr (r3 _ (by decide)) (z_mz_st (by decide) st (z_mz_fr (z_up_row (by decide)) a8))
    · rw [f1 b (by omega) (by omega)]; exact hF b (by omega) (by omega) (by omega) (by omega)
    · rw [r3b 0 (by decide) (by decide), fr _ (by decide), z_up_s]
    · have : A.2.1 = Bg := by simpa using hBg
      rw [← this]; exact hw.2.1
  · rw [if_neg g]
    refine ⟨⟨0, z_up m1 2390 0 1, ?_, z_MR_ref h1 1, fun b hb => ?_, z_up_s _ _ _ _⟩, hw⟩
    · unfold f237 f237_15
      simp (disch := ((try simp only [true_or, or_true, hM.k, hM.k2391, hM.k2392, hM.k2393, hM.k2394, hM.k2395, hM.k2396, hM.k2397, hM.k2398, hM.k2399, hM.k2400, hM.k2401, hM.k2402, hM.k2403, hM.k2404, hM.k2405, hM.k2406, hM.k2407, hM.k2408, hM.k2409, hM.k2410, hM.k2411, hM.k2412, hM.k2413, hM.k2414, hM.k2415, hM.k2416, hM.k2417, hM.k2418, hM.k2419, hM.k2420, hM.k2421, hM.k2422, hM.k2423, hM.l2391, hM.l2392, hM.l2393, hM.l2394, hM.l2395, hM.l2396, hM.l2397, hM.l2398, hM.l2399, hM.l2400, hM.l2401, hM.l2402, hM.l2403, hM.l2404, hM.l2405, hM.l2406, hM.l2407, hM.l2408, hM.l2409, hM.l2410, hM.l2411, hM.l2412, hM.l2413, hM.l2414, hM.l2415, hM.l2416, hM.l2417, hM.l2418, hM.l2419, hM.l2420, hM.l2421, hM.l2422, hM.l2423]) <;> (try omega))) only [↓reduceIte, ↓z_ite, ↓zR, ↓zB_R, ↓zB_B, ↓zB_ite, ↓zB_gI, ↓zB_pI, ↓zB_pZ, ↓zB_aK, ↓zB_G, ↓zB_lI, ↓zB_lZ, ↓zB_wI, ↓zB_wZ, ↓zB_lIl, ↓zB_wIl, zB_pI, zB_pZ, zB_lI, zB_lZ, zB_wI, zB_wZ, z_addl, z_ladd, z_mull, z_lmul, nI_add, z_subl, Nat.not_lt_zero, z_10, z_01, z_bitc, z_b0, z_b1, ↓zB_Gb, ↓zB_G0, ↓zB_G1, z_eql, z_leq, z_ltl, z_llt, z_eq, z_lt, z_m1lt, hM.k, hM.k2391, hM.k2392, hM.k2393, hM.k2394, hM.k2395, hM.k2396, hM.k2397, hM.k2398, hM.k2399, hM.k2400, hM.k2401, hM.k2402, hM.k2403, hM.k2404, hM.k2405, hM.k2406, hM.k2407, hM.k2408, hM.k2409, hM.k2410, hM.k2411, hM.k2412, hM.k2413, hM.k2414, hM.k2415, hM.k2416, hM.k2417, hM.k2418, hM.k2419, hM.k2420, hM.k2421, hM.k2422, hM.k2423, hM.l2391, hM.l2392, hM.l2393, hM.l2394, hM.l2395, hM.l2396, hM.l2397, hM.l2398, hM.l2399, hM.l2400, hM.l2401, hM.l2402, hM.l2403, hM.l2404, hM.l2405, hM.l2406, hM.l2407, hM.l2408, hM.l2409, hM.l2410, hM.l2411, hM.l2412, hM.l2413, hM.l2414, hM.l2415, hM.l2416, hM.l2417, hM.l2418, hM.l2419, hM.l2420, hM.l2421, hM.l2422, hM.l2423, ↓hM.g1, ↓hM.g5, ↓hM.g6, ↓hM.g7, ↓hM.g8, ↓hM.g9, ↓hM.g10, ↓hM.g11, ↓hM.g12, ↓hM.g13, ↓hM.g14, ↓hM.g16, ↓hM.g17, ↓hM.g18, ↓hM.g19, ↓hM.g21, ↓hM.g22, ↓hM.g23, ↓hM.g24, ↓hM.g25, ↓hM.g27, ↓hM.g28, ↓hM.g30, ↓hM.g31, ↓hM.g32, ↓hM.g36, ↓hM.g37, ↓hM.g39, ↓hM.g40, ↓hM.g41, ↓hM.g43, ↓hM.g45, ↓hM.g46, ↓zB_c e, zB_c e, g, ↓zB_c i1, zB_c i1]
    · rw [z_up_row (by omega)]; exact hF b (by omega) (by omega) (by omega) (by omega)
end
