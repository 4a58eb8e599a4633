-- deps: 90.10.begin 90.11.settle 90.12.push 90.13.commit 90.14.fam 90.15.right 90.16.mfam 90.17.reach 90.18.mreach 90.19.names
/-! what a change needs, and what it leaves -/
/-- the class's program p, and its copy q -/
def z_Pre (S : z_S) (m : z_m) (p q : Nat) (P : z_Pg) : Prop := (z_XS S ∧ z_PS S p ∧ z_PS S q) ∧ (242 ≤ p ∧ 242 ≤ q ∧ (p + 179 ≤ q ∨ q + 179 ≤ p)) ∧ (z_cp m p P ∧ z_LT m p P) ∧ (z_cp m q P ∧ m q 14 = 0) ∧ m 22 6 = nI 256 ∧ m 30 6 = nI 256 ∧ m 38 6 = nI 256 ∧ m 54 6 = nI 256
/-- what a change may touch: its scratch, and the copy -/
def z_oF (q : Nat) (m m' : z_m) : Prop := (∀ a, a ≠ 9 → (a < 22 ∨ 61 ≤ a) → (a < q ∨ q + 179 ≤ a) → m' a = m a) ∧ m' 22 6 = m 22 6 ∧ m' 30 6 = m 30 6 ∧ m' 38 6 = m 38 6 ∧ m' 54 6 = m 54 6
theorem z_oF.refl (q : Nat) (m : z_m) : z_oF q m m := ⟨fun _ _ _ _ => rfl, rfl, rfl, rfl, rfl⟩
theorem z_oF.trans {q : Nat} {m m' m'' : z_m} (h : z_oF q m m') (h2 : z_oF q m' m'') : z_oF q m m'' := ⟨fun a x y z => (h2.1 a x y z).trans (h.1 a x y z), h2.2.1.trans h.2.1, h2.2.2.1.trans h.2.2.1, h2.2.2.2.1.trans h.2.2.2.1, h2.2.2.2.2.trans h.2.2.2.2⟩
/-- all bodies of the copy have their room -/
def z_rm60 (m : z_m) (q : Nat) : Prop := ∀ k, k < 24 → m (z_bi q k) 6 = nI 60
def z_Post (m m' : z_m) (q : Nat) (r : Int32) (Q : z_Pg) : Prop := (¬ r < 0 → z_PK m' q Q) ∧ z_rm60 m' q ∧ z_oF q m m'
theorem z_PK_0 {m : z_m} {q : Nat} {Q : z_Pg} (h : z_cp m q Q) (h14 : m q 14 = 0) : z_PK m q Q := ⟨h, Or.inl h14, fun g => by rw [h14] at g; exact absurd g (by decide)⟩
section
variable {S : z_S} {m : z_m} {A : z_A}
/-- a change by the class, once the program is right -/
theorem c_tail (hw : z_WA A) {sn sx : Nat} {sp : Nat → Nat} (hI : z_ID S sn sx sp) (h : z_CM m sn sp A) (hr : z_wr A.2.1 = -1) (h14 : m (z_pid sn) 14 = 1) {ob kd : Nat} (hob : z_kd S ob = kd) {OP : Nat → m_M Int32} {r : Int32} {Q : z_Pg} (hop : ∀ m2, z_Pre S m2 (z_pid sn) (z_pid sx) A.2.1 → ∃ m', OP (z_pid sx) (z_hp S m2) = some (r, z_hp S m') ∧ z_Post m2 m' (z_pid sx) r Q) : ∃ S' m', m_B (f172 0) (fun r18 => m_B (m_aK ob kd) (fun _ => m_B (OP r18) (fun v20 => m_B (m_aK 0 11) (fun _ => m_B (f173 0 v20) (fun v22 => m_R (.inl v22 : Int32 ⊕ Nat)))))) (z_hp S m) = some ((z_rf A r Q).1, z_hp S' m') ∧ z_CR S' m' (z_rf A r Q).2 ∧ z_SS S S' ∧ ∀ a, 2390 ≤ a → m' a = m a := by
  have hX := hI.1
  have hI0 := hI
  obtain ⟨_, h62, hPS, ⟨i1, i2, i3⟩, ⟨j1, j2, j3⟩, n10, n11, n241⟩ := hI0
  have hp := hPS sn i1
  have hq := hPS sx i2
  have hwf := hw.2.1.1
  have lo := z_pid_lo sn
  have lo2 := z_pid_lo sx
  have hap : z_pid sx + 179 ≤ z_pid sn ∨ z_pid sn + 179 ≤ z_pid sx := by have := z_pid_ap j1; omega
  have hCM := h
  obtain ⟨hR, hT, ⟨h1, h2, h3, h4⟩, h5, h6⟩ := h
  obtain ⟨m2, e70, c1, c2, c3⟩ := f70_sp (S := S) hq hp hap h1.1 hwf (hR.1 sx i2)
  have hKN := (h1.2.2 h14).2 hr
  have fn : ∀ a, z_pid sn ≤ a → a < z_pid sn + 179 → m2 a = m a := fun a x1 x2 => c3 a (by omega)
  have hpre : z_Pre S m2 (z_pid sn) (z_pid sx) A.2.1 := by
    refine ⟨⟨hX, hp, hq⟩, ⟨lo, lo2, by omega⟩, ⟨(z_PK_fr (z_wf_nm hwf) fn h1).1, z_LT_fr hwf fn hKN⟩, ⟨c1, c2⟩, ?_, ?_, ?_, ?_⟩
    · rw [c3 22 (by omega)]; exact hR.2.2.1
    · rw [c3 30 (by omega)]; exact hR.2.2.2.1
    · rw [c3 38 (by omega)]; exact hR.2.2.2.2.1
    · rw [c3 54 (by omega)]; exact hR.2.2.2.2.2
  obtain ⟨m3, eop, po1, po2, po3⟩ := hop m2 hpre
  obtain ⟨of1, of2, of3, of4, of5⟩ := po3
  have fr : ∀ a, a ≠ 9 → (a < 22 ∨ 61 ≤ a) → (a < z_pid sx ∨ z_pid sx + 179 ≤ a) → m3 a = m a := fun a x y z => (of1 a x y z).trans (c3 a z)
  have hap' : ∀ s, s ≠ sx → z_pid s + 179 ≤ z_pid sx ∨ z_pid sx + 179 ≤ z_pid s := fun s hs => by have := z_pid_ap hs; omega
  have hCM3 : z_CM m3 sn sp A := by
    refine ⟨⟨fun s hs k hk => ?_, fun k hk => ?_, ?_, ?_, ?_, ?_⟩, z_cT_fr (fun a ha => fr a (by omega) (by omega) (by omega)) hT, ⟨z_PK_fr (z_wf_nm hwf) (fun a x1 x2 => fr a (by omega) (by omega) (by omega)) h1, ?_, ?_, fun i hi => ?_⟩, ?_, ?_⟩
    · by_cases g : s = sx
      · rw [g]; exact po2 k hk
      · have := hap' s g
        have := z_pid_lo s
        rw [fr _ (by unfold z_bi; omega) (by unfold z_bi; omega) (by unfold z_bi; omega)]; exact hR.1 s hs k hk
    · rw [fr _ (by unfold z_bi; omega) (by unfold z_bi; omega) (by unfold z_bi; omega)]; exact hR.2.1 k hk
    · rw [of2, c3 22 (by omega)]; exact hR.2.2.1
    · rw [of3, c3 30 (by omega)]; exact hR.2.2.2.1
    · rw [of4, c3 38 (by omega)]; exact hR.2.2.2.2.1
    · rw [of5, c3 54 (by omega)]; exact hR.2.2.2.2.2
    · rw [fr 0 (by decide) (by decide) (by omega)]
      cases hb : A.2.2.1 with
      | none => rw [hb] at h2; exact h2
      | some Bg =>
        rw [hb] at h2
        exact ⟨h2.1, z_PK_fr (z_wf_nm (hw.2.2.1 Bg hb).1) (fun a x1 x2 => fr a (by omega) (by omega) (by omega)) h2.2⟩
    · rw [fr 0 (by decide) (by decide) (by omega)]; exact h3
    · have hi10 : i < 10 := Nat.lt_of_lt_of_le hi hw.2.2.2.1
      have := hap' (sp i) (j2 i hi10).2
      have := z_pid_lo (sp i)
      exact z_PK_fr (z_wf_nm (hw.2.2.2.2 i hi).1) (fun a x1 x2 => fr a (by omega) (by omega) (by omega)) (h4 i hi)
    · rw [fr 10 (by decide) (by decide) (by omega)]; exact h5
    · rw [fr 10 (by decide) (by decide) (by omega)]; exact h6
  obtain ⟨S', m', e173, d1, d2, d3⟩ := f173_sp hw hI hCM3 (r := r) (Q := Q) po1
  have hpk := hp.k
  have hqk := hq.k
  refine ⟨S', m', ?_, d1, d2, fun a ha => ?_⟩
  · have e172 : f172 0 (z_hp S m) = some (z_pid sx, z_hp S m2) := by
      unfold f172
      rw [zB_gR hX.k0, n11, Option.bind_some, zB_gR hX.k0, n10, Option.bind_some, zB_aK hqk, zB_c e70, zB_gR hX.k0, n11, Option.bind_some]
      rfl
    rw [zB_c e172, zB_aK hob, zB_c eop, zB_aK hX.k0, zB_C e173]
    show some (Sum.inl r, _) = _
    unfold z_rf
    split <;> rfl
  · rw [d3 a ha, fr a (by omega) (by omega) (by have := hI.2.2.2.1.2.1; unfold z_pid; omega)]
/-! the same, of the reference -/
/-- what a change of the reference may touch -/
def z_mF (m m' : z_m) : Prop := (∀ j, (j < 28400 ∨ 42600 ≤ j) → m' 2391 j = m 2391 j) ∧ (∀ a, 2392 ≤ a → a ≤ 2415 → m' a = m a) ∧ (∀ j, j < 36 → m' 2390 j = m 2390 j) ∧ ∀ a, a < 2390 ∨ 2424 ≤ a → m' a = m a
theorem z_mF.refl (m : z_m) : z_mF m m := ⟨fun _ _ => rfl, fun _ _ _ => rfl, fun _ _ => rfl, fun _ _ => rfl⟩
theorem z_mF.trans {m m' m'' : z_m} (h : z_mF m m') (h2 : z_mF m' m'') : z_mF m m'' := ⟨fun j x => (h2.1 j x).trans (h.1 j x), fun a x y => (h2.2.1 a x y).trans (h.2.1 a x y), fun j x => (h2.2.2.1 j x).trans (h.2.2.1 j x), fun a x => (h2.2.2.2 a x).trans (h.2.2.2 a x)⟩
theorem z_mb_mF {m' : z_m} {b : Nat} {P : z_Pg} (h : z_mF m m') (hb : b ≠ 2) (hm : z_mb m b P) : z_mb m' b P := z_mb_st (c := 2) hb (fun j hj => h.1 j (by omega)) hm
theorem z_mz_mF {m' : z_m} {b nc : Nat} (h : z_mF m m') (hb : b ≠ 2) (hm : z_mz m b nc) : z_mz m' b nc := z_mz_st (c := 2) hb (fun j hj => h.1 j (by omega)) hm
theorem z_MR_mF {m' : z_m} (h : z_mF m m') (hR : z_MR m A) : z_MR m' A := by
  obtain ⟨a1, a2, a3, a4, a5, a6, a7, a8, a9⟩ := hR
  refine ⟨z_mT_fr (h.2.2.1 4 (by decide)) (fun a x1 x2 => h.2.1 a (by omega) (by omega)) a1, z_mb_mF h (by decide) a2, ?_, by rw [h.2.2.1 2 (by decide)]; exact a4, fun i hi => z_mb_mF h (by omega) (a5 i hi), by rw [h.2.2.1 35 (by decide)]; exact a6, by rw [h.2.2.1 33 (by decide)]; exact a7, z_mz_mF h (by decide) a8, fun i hi => z_mz_mF h (by omega) (a9 i hi)⟩
  rw [h.2.2.1 3 (by decide)]
  cases hb : A.2.2.1 with
  | none => rw [hb] at a3; exact a3
  | some Bg => rw [hb] at a3; exact ⟨a3.1, z_mb_mF h (by decide) a3.2⟩
theorem z_mLT_mF {m' : z_m} {P : z_Pg} (h : z_mF m m') (ht : z_mLT m P) : z_mLT m' P := z_mLT_fr (fun a x1 x2 => h.2.1 a (by omega) (by omega)) ht
/-- isRight -/
theorem f272_sp (hM : z_MS S) (hw : z_WA A) (h : z_MR m A) : ∃ m1, f272 2390 (z_hp S m) = some (z_b (z_wr A.2.1 == -1), z_hp S m1) ∧ z_MR m1 A ∧ (z_wr A.2.1 = -1 → z_mLT m1 A.2.1) ∧ z_LF m m1 := by
  obtain ⟨m1, e, hF, hT⟩ := f235_sp (S := S) (B := 0) h.2.1 hM hw.2.1.1 rfl
  refine ⟨m1, ?_, z_MR_LF h hF, hT, hF⟩
  unfold f272 f272_14
  by_cases g : z_wr A.2.1 = -1
  · rw [g] at e
    simp (disch := ((try simp only [true_or, or_true, hM.k, hM.k2391, hM.k2392, hM.k2393, hM.k2394, hM.k2395, hM.k2396, hM.k2397, hM.k2398, hM.k2399, hM.k2400, hM.k2401, hM.k2402, hM.k2403, hM.k2404, hM.k2405, hM.k2406, hM.k2407, hM.k2408, hM.k2409, hM.k2410, hM.k2411, hM.k2412, hM.k2413, hM.k2414, hM.k2415, hM.k2416, hM.k2417, hM.k2418, hM.k2419, hM.k2420, hM.k2421, hM.k2422, hM.k2423, hM.l2391, hM.l2392, hM.l2393, hM.l2394, hM.l2395, hM.l2396, hM.l2397, hM.l2398, hM.l2399, hM.l2400, hM.l2401, hM.l2402, hM.l2403, hM.l2404, hM.l2405, hM.l2406, hM.l2407, hM.l2408, hM.l2409, hM.l2410, hM.l2411, hM.l2412, hM.l2413, hM.l2414, hM.l2415, hM.l2416, hM.l2417, hM.l2418, hM.l2419, hM.l2420, hM.l2421, hM.l2422, hM.l2423]) <;> (try omega))) only [↓reduceIte, ↓z_ite, ↓zR, ↓zB_R, ↓zB_B, ↓zB_ite, ↓zB_gI, ↓zB_pI, ↓zB_pZ, ↓zB_aK, ↓zB_G, ↓zB_lI, ↓zB_lZ, ↓zB_wI, ↓zB_wZ, ↓zB_lIl, ↓zB_wIl, zB_pI, zB_pZ, zB_lI, zB_lZ, zB_wI, zB_wZ, z_addl, z_ladd, z_mull, z_lmul, nI_add, z_subl, Nat.not_lt_zero, z_10, z_01, z_bitc, z_b0, z_b1, ↓zB_Gb, ↓zB_G0, ↓zB_G1, z_eql, z_leq, z_ltl, z_llt, z_eq, z_lt, z_m1lt, hM.k, hM.k2391, hM.k2392, hM.k2393, hM.k2394, hM.k2395, hM.k2396, hM.k2397, hM.k2398, hM.k2399, hM.k2400, hM.k2401, hM.k2402, hM.k2403, hM.k2404, hM.k2405, hM.k2406, hM.k2407, hM.k2408, hM.k2409, hM.k2410, hM.k2411, hM.k2412, hM.k2413, hM.k2414, hM.k2415, hM.k2416, hM.k2417, hM.k2418, hM.k2419, hM.k2420, hM.k2421, hM.k2422, hM.k2423, hM.l2391, hM.l2392, hM.l2393, hM.l2394, hM.l2395, hM.l2396, hM.l2397, hM.l2398, hM.l2399, hM.l2400, hM.l2401, hM.l2402, hM.l2403, hM.l2404, hM.l2405, hM.l2406, hM.l2407, hM.l2408, hM.l2409, hM.l2410, hM.l2411, hM.l2412, hM.l2413, hM.l2414, hM.l2415, hM.l2416, hM.l2417, hM.l2418, hM.l2419, hM.l2420, hM.l2421, hM.l2422, hM.l2423, ↓hM.g1, ↓hM.g5, ↓hM.g6, ↓hM.g7, ↓hM.g8, ↓hM.g9, ↓hM.g10, ↓hM.g11, ↓hM.g12, ↓hM.g13, ↓hM.g14, ↓hM.g16, ↓hM.g17, ↓hM.g18, ↓hM.g19, ↓hM.g21, ↓hM.g22, ↓hM.g23, ↓hM.g24, ↓hM.g25, ↓hM.g27, ↓hM.g28, ↓hM.g30, ↓hM.g31, ↓hM.g32, ↓hM.g36, ↓hM.g37, ↓hM.g39, ↓hM.g40, ↓hM.g41, ↓hM.g43, ↓hM.g45, ↓hM.g46, ↓zB_c e, zB_c e, g, show ((-1 : Int32) == -1) = true from rfl]
    rfl
  · have : (z_wr A.2.1 == -1) = false := by simpa using g
    simp (disch := ((try simp only [true_or, or_true, hM.k, hM.k2391, hM.k2392, hM.k2393, hM.k2394, hM.k2395, hM.k2396, hM.k2397, hM.k2398, hM.k2399, hM.k2400, hM.k2401, hM.k2402, hM.k2403, hM.k2404, hM.k2405, hM.k2406, hM.k2407, hM.k2408, hM.k2409, hM.k2410, hM.k2411, hM.k2412, hM.k2413, hM.k2414, hM.k2415, hM.k2416, hM.k2417, hM.k2418, hM.k2419, hM.k2420, hM.k2421, hM.k2422, hM.k2423, hM.l2391, hM.l2392, hM.l2393, hM.l2394, hM.l2395, hM.l2396, hM.l2397, hM.l2398, hM.l2399, hM.l2400, hM.l2401, hM.l2402, hM.l2403, hM.l2404, hM.l2405, hM.l2406, hM.l2407, hM.l2408, hM.l2409, hM.l2410, hM.l2411, hM.l2412, hM.l2413, hM.l2414, hM.l2415, hM.l2416, hM.l2417, hM.l2418, hM.l2419, hM.l2420, hM.l2421, hM.l2422, hM.l2423]) <;> (try omega))) only [↓reduceIte, ↓z_ite, ↓zR, ↓zB_R, ↓zB_B, ↓zB_ite, ↓zB_gI, ↓zB_pI, ↓zB_pZ, ↓zB_aK, ↓zB_G, ↓zB_lI, ↓zB_lZ, ↓zB_wI, ↓zB_wZ, ↓zB_lIl, ↓zB_wIl, zB_pI, zB_pZ, zB_lI, zB_lZ, zB_wI, zB_wZ, z_addl, z_ladd, z_mull, z_lmul, nI_add, z_subl, Nat.not_lt_zero, z_10, z_01, z_bitc, z_b0, z_b1, ↓zB_Gb, ↓zB_G0, ↓zB_G1, z_eql, z_leq, z_ltl, z_llt, z_eq, z_lt, z_m1lt, hM.k, hM.k2391, hM.k2392, hM.k2393, hM.k2394, hM.k2395, hM.k2396, hM.k2397, hM.k2398, hM.k2399, hM.k2400, hM.k2401, hM.k2402, hM.k2403, hM.k2404, hM.k2405, hM.k2406, hM.k2407, hM.k2408, hM.k2409, hM.k2410, hM.k2411, hM.k2412, hM.k2413, hM.k2414, hM.k2415, hM.k2416, hM.k2417, hM.k2418, hM.k2419, hM.k2420, hM.k2421, hM.k2422, hM.k2423, hM.l2391, hM.l2392, hM.l2393, hM.l2394, hM.l2395, hM.l2396, hM.l2397, hM.l2398, hM.l2399, hM.l2400, hM.l2401, hM.l2402, hM.l2403, hM.l2404, hM.l2405, hM.l2406, hM.l2407, hM.l2408, hM.l2409, hM.l2410, hM.l2411, hM.l2412, hM.l2413, hM.l2414, hM.l2415, hM.l2416, hM.l2417, hM.l2418, hM.l2419, hM.l2420, hM.l2421, hM.l2422, hM.l2423, ↓hM.g1, ↓hM.g5, ↓hM.g6, ↓hM.g7, ↓hM.g8, ↓hM.g9, ↓hM.g10, ↓hM.g11, ↓hM.g12, ↓hM.g13, ↓hM.g14, ↓hM.g16, ↓hM.g17, ↓hM.g18, ↓hM.g19, ↓hM.g21, ↓hM.g22, ↓hM.g23, ↓hM.g24, ↓hM.g25, ↓hM.g27, ↓hM.g28, ↓hM.g30, ↓hM.g31, ↓hM.g32, ↓hM.g36, ↓hM.g37, ↓hM.g39, ↓hM.g40, ↓hM.g41, ↓hM.g43, ↓hM.g45, ↓hM.g46, ↓zB_c e, zB_c e, g, this]
    rfl
/-- where a change begins: not refused, all looked at -/
def z_m0 (m : z_m) (A : z_A) : Prop := z_MR m A ∧ z_mLT m A.2.1 ∧ m 2390 0 = 0
theorem z_m0_mF {m' : z_m} (h : z_mF m m') (h0 : z_m0 m A) : z_m0 m' A := ⟨z_MR_mF h h0.1, z_mLT_mF h h0.2.1, by rw [h.2.2.1 0 (by decide)]; exact h0.2.2⟩
/-- the change is refused with a reason -/
theorem m_no {F : m_M Int32} (hw : z_WA A) {r : Int32} {Q : z_Pg} (hr : r < 0) {cd : Nat → Int32} {m' : z_m} (e : F (z_hp S m) = some (r, z_hp S m')) (h0 : z_MR m' A) (hc : m' 2390 0 = 0) (hfr : ∀ b, b < 2390 ∨ 2424 ≤ b → m' b = m b) : (∃ v m1, F (z_hp S m) = some (v, z_hp S m1) ∧ z_MR m1 (z_rf A r Q).2 ∧ (∀ b, b < 2390 ∨ 2424 ≤ b → m1 b = m b) ∧ z_ans cd (z_rf A r Q).1 v (m1 2390 0)) ∧ z_WA (z_rf A r Q).2 := by
  unfold z_rf
  rw [if_pos hr]
  exact ⟨⟨r, m', e, h0, hfr, rfl, hc⟩, hw⟩
/-- the change is done -/
theorem m_yes {F : m_M Int32} (hw : z_WA A) {r : Int32} {Q : z_Pg} (hr : ¬ r < 0) {cd : Nat → Int32} {m' : z_m} (e : F (z_hp S m) = some (r, z_hp S m')) (h0 : z_MR m' (z_push A Q)) (hc : m' 2390 0 = 0) (hfr : ∀ b, b < 2390 ∨ 2424 ≤ b → m' b = m b) (hQ : z_wf Q) (h60 : z_b60 Q) (hnc : z_nc Q = z_nc A.2.1) : (∃ v m1, F (z_hp S m) = some (v, z_hp S m1) ∧ z_MR m1 (z_rf A r Q).2 ∧ (∀ b, b < 2390 ∨ 2424 ≤ b → m1 b = m b) ∧ z_ans cd (z_rf A r Q).1 v (m1 2390 0)) ∧ z_WA (z_rf A r Q).2 := by
  unfold z_rf
  rw [if_neg hr]
  exact ⟨⟨r, m', e, h0, hfr, rfl, hc⟩, z_push_WA hw hQ h60 hnc⟩
/-- the copy that is worked on -/
theorem f203_w (hM : z_MS S) (h : z_m0 m A) : ∃ m', f203 2390 0 2 (z_hp S m) = some ((), z_hp S m') ∧ z_m0 m' A ∧ z_mb m' 2 A.2.1 ∧ z_mz m' 2 (z_nc A.2.1) ∧ z_mF m m' ∧ ∀ r, r ≠ 2391 → m' r = m r := by
  obtain ⟨m', e, c1, c2, c3⟩ := f203_sp (S := S) (m := m) (a := 0) (b := 2) (Ba := 0) (Bb := 2) hM rfl rfl (by decide) (by decide) (by decide)
  have hF : z_mF m m' := ⟨fun j hj => c2 j (by omega), fun a x1 x2 => c3 a (by omega), fun j hj => by rw [c3 _ (by decide)], fun a ha => c3 a (by omega)⟩
  exact ⟨m', e, z_m0_mF hF h, z_mb_cp (by decide) c1 h.1.2.1, z_mz_cp c1 h.1.2.2.2.2.2.2.2.1, hF, c3⟩
end
