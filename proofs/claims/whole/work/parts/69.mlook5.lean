/-! the reference's look: a body -/
section
variable {S : z_S} {m : z_m} {b k i : Nat} {P : z_Pg} {B : Int32} {l : List z_N}
/-- a node's type is known -/
def z_kn (P : z_Pg) (k : Nat) (l : List z_N) (y : Nat → Int32) (i : Nat) : Prop := z_tk P (y i) ∧ (∀ q, q < z_p l i → y (z_pt l i q) ≠ -9) ∧ (((∃ q, q < z_p l i ∧ y (z_pt l i q) = -3) ∧ y i = -3) ∨ ((∀ q, q < z_p l i → y (z_pt l i q) ≠ -3) ∧ ((z_k l i = 1 ∨ z_k l i = 6) → ∀ j, z_le l i (z_v l i) = some j → y (j + 1) ≠ -9) ∧ y i = z_st P k l y i))
theorem z_kn_up {nc : Nat} (hw : z_wB nc l) {y y' : Nat → Int32} {i0 : Nat} (h0 : y i0 = -9) (hy : ∀ j, j ≠ i0 → y' j = y j) (hi : i < l.length) (hne : i ≠ i0) (h : z_kn P k l y i) : z_kn P k l y' i := by
  obtain ⟨h1, h2, h3⟩ := h
  have hq : ∀ q, q < z_p l i → y' (z_pt l i q) = y (z_pt l i q) := fun q hq => hy _ (fun g => h2 q hq (by rw [g]; exact h0))
  refine ⟨by rw [hy i hne]; exact h1, fun q hq2 => by rw [hq q hq2]; exact h2 q hq2, ?_⟩
  rcases h3 with ⟨⟨q, h4, h5⟩, h6⟩ | ⟨h4, h5, h6⟩
  · exact Or.inl ⟨⟨q, h4, by rw [hq q h4]; exact h5⟩, by rw [hy i hne]; exact h6⟩
  · have hl : (z_k l i = 1 ∨ z_k l i = 6) → ∀ j, z_le l i (z_v l i) = some j → y' (j + 1) = y (j + 1) := fun g j hj => hy _ (fun g2 => h5 g j hj (by rw [g2]; exact h0))
    refine Or.inr ⟨fun q hq2 => by rw [hq q hq2]; exact h4 q hq2, fun g j hj => by rw [hl g j hj]; exact h5 g j hj, ?_⟩
    rw [hy i hne, h6, z_st_congr2 hw hi hq hl]
/-- at most one way, also where a name is bound to what is wrong -/
theorem z_kn_uq (hw : z_wB (z_nc P) l) {y T : Nat → Int32} (h : ∀ i, i < l.length → z_kn P k l y i) (hT : z_ok P k l T) : ∀ i, i < l.length → y i = T i := by
  refine z_ind hw.1 (M := fun i => y i = T i) (fun i hi h1 h2 => ?_)
  rcases (h i hi).2.2 with ⟨⟨q, h4, h5⟩, h6⟩ | ⟨h4, h5, h6⟩
  · exfalso
    have := (hT.1 _ (z_pt_lt hw.1 hi h4)).2
    rw [← h1 q h4] at this
    exact this h5
  · rw [h6, (hT.1 i hi).1]
    exact z_st_congr hw hi h1 (fun j a b c _ => h2 j a b c)
/-- how many types are not known -/
def z_cu (y : Nat → Int32) : Nat → Nat
  | 0 => 0
  | n + 1 => z_cu y n + (if y n = -9 then 1 else 0)
theorem z_cu_le (y : Nat → Int32) : ∀ n, z_cu y n ≤ n
  | 0 => Nat.le_refl _
  | n + 1 => by have := z_cu_le y n; unfold z_cu; split <;> omega
theorem z_cu_eq {y y' : Nat → Int32} : ∀ {n : Nat}, (∀ j, j < n → y' j = y j) → z_cu y' n = z_cu y n
  | 0, _ => rfl
  | n + 1, h => by unfold z_cu; rw [z_cu_eq (fun j hj => h j (by omega)), h n (Nat.lt_succ_self n)]
theorem z_cu_lt {y y' : Nat → Int32} {i0 : Nat} (h0 : y i0 = -9) (h1 : y' i0 ≠ -9) (hy : ∀ j, j ≠ i0 → y' j = y j) : ∀ {n : Nat}, i0 < n → z_cu y' n < z_cu y n
  | 0, h => by omega
  | n + 1, h => by
    unfold z_cu
    rcases Nat.lt_succ_iff_lt_or_eq.mp h with h2 | h2
    · have := z_cu_lt h0 h1 hy h2
      rw [hy n (by omega)]; omega
    · rw [← h2, z_cu_eq (fun j hj => hy j (by omega)), if_neg h1, if_pos h0]; omega
/-- the rows of a look, part way -/
def z_LK (m : z_m) (P : z_Pg) (k : Nat) (l : List z_N) : Prop := (∀ j, j < l.length → m 2397 (192 * k + j) = nI (z_sz l j) ∧ m 2398 (192 * k + j) = z_oI (z_pa l j)) ∧ ∀ j, j < l.length → (z_my m k j = -9 ∧ m 2400 (192 * k + j) = z_mb0 P k l j) ∨ (z_kn P k l (z_my m k) j ∧ (z_my m k j ≠ -3 → m 2400 (192 * k + j) = z_mbn P k l (z_my m k) j))
theorem z_LK.k9 {P : z_Pg} (h : z_LK m P k l) {j : Nat} (hj : j < l.length) : z_my m k j = -9 ∨ z_tk P (z_my m k j) := by
  rcases h.2 j hj with h1 | h1
  · exact Or.inl h1.1
  · exact Or.inr h1.1.1
theorem z_mbn_congr {nc : Nat} (hw : z_wB nc l) {T T' : Nat → Int32} (hi : i < l.length) (hp : ∀ j, j < z_p l i → T (z_pt l i j) = T' (z_pt l i j)) : z_mbn P k l T i = z_mbn P k l T' i := by
  unfold z_mbn
  rw [z_bs_congr hw hi hp]
/-- one node is looked at -/
theorem z_LK_step (h : z_mb m b P) (hM : z_MS S) (hw : z_wf P) (hB : B = nI b) (hk : k < z_nm P) (hi : i < (z_bd P k).length) (hL : z_LK m P k (z_bd P k)) (h9 : z_my m k i = -9) : ∃ v r, f228 2390 B (nI k) (nI i) (z_hp S m) = some (r, z_hp S (z_up m 2400 (192 * k + i) v)) ∧ z_LK (z_up (z_up m 2400 (192 * k + i) v) 2399 (192 * k + i) r) P k (z_bd P k) ∧ z_sr P k (z_bd P k) (z_my m k) i r := by
  have hlen := (h.2.2.2.2.2.2 k hk).2.2.1
  have hwB := hw.2.2.2.2.1 k hk
  have hbn : m 2400 (192 * k + i) = z_mb0 P k (z_bd P k) i := by
    rcases hL.2 i hi with h1 | h1
    · exact h1.2
    · exact absurd h9 (h1.1.1.n9 hw.1.1)
  have hlek : ∀ j, z_le (z_bd P k) i (z_v (z_bd P k) i) = some j → z_my m k (j + 1) = -9 ∨ z_tk P (z_my m k (j + 1)) := fun j hj => by
    have := (z_le_some hj).1
    exact hL.k9 (by omega)
  obtain ⟨v, r, e, h1, h2, h3⟩ := f228_sp h hM hw hB hk hi (fun j hj => (hL.1 j hj).1) (fun q hq => hL.k9 (z_pt_lt hwB.1 hi hq)) hbn (fun _ => hlek)
  refine ⟨v, r, e, ⟨fun j hj => ?_, fun j hj => ?_⟩, h1⟩
  · rw [z_up_row (by decide), z_up_row (by decide), z_up_row (by decide), z_up_row (by decide)]
    exact hL.1 j hj
  · generalize hm2 : z_up (z_up m 2400 (192 * k + i) v) 2399 (192 * k + i) r = m2
    have ey : z_my m2 k i = r := by rw [← hm2]; exact z_up_s _ _ _ _
    have eyn : ∀ j, j ≠ i → z_my m2 k j = z_my m k j := fun j hj => by
      rw [← hm2]; unfold z_my
      rw [z_up_b (by omega), z_up_row (by decide)]
    have eb : m2 2400 (192 * k + i) = v := by rw [← hm2, z_up_row (by decide), z_up_s]
    have ebn : ∀ j, j ≠ i → m2 2400 (192 * k + j) = m 2400 (192 * k + j) := fun j hj => by
      rw [← hm2, z_up_row (by decide), z_up_b (by omega)]
    by_cases hji : j = i
    · subst hji
      rw [ey, eb]
      by_cases hr : r = -9
      · exact Or.inl ⟨hr, h2 hr⟩
      · right
        rcases h1 with ⟨_, g⟩ | ⟨g1, g2, g3⟩ | ⟨g1, g2⟩
        · exact absurd g hr
        · have hpn : ∀ q, q < z_p (z_bd P k) j → z_my m2 k (z_pt (z_bd P k) j q) = z_my m k (z_pt (z_bd P k) j q) := fun q hq => eyn _ (by have := z_pt_ge (l := z_bd P k) (i := j) q; omega)
          refine ⟨⟨by rw [ey, g3]; exact Or.inl rfl, fun q hq => by rw [hpn q hq]; exact g1 q hq, Or.inl ⟨?_, by rw [ey]; exact g3⟩⟩, fun g => absurd g3 g⟩
          obtain ⟨q, hq, hq2⟩ := g2
          exact ⟨q, hq, by rw [hpn q hq]; exact hq2⟩
        · have hpn : ∀ q, q < z_p (z_bd P k) j → z_my m2 k (z_pt (z_bd P k) j q) = z_my m k (z_pt (z_bd P k) j q) := fun q hq => eyn _ (by have := z_pt_ge (l := z_bd P k) (i := j) q; omega)
          have hrst : r = z_st P k (z_bd P k) (z_my m k) j := by
            rw [g2]
            split
            · rename_i g; rw [if_pos g] at g2; exact absurd g2 hr
            · rfl
          have hln : (z_k (z_bd P k) j = 1 ∨ z_k (z_bd P k) j = 6) → ∀ q, z_le (z_bd P k) j (z_v (z_bd P k) j) = some q → z_my m k (q + 1) ≠ -9 := by
            intro g q hq g9
            apply hr
            rw [g2, if_pos]
            refine ⟨g, ?_⟩
            unfold z_tb
            rw [hq]; exact g9
          have hlne : ∀ q, z_le (z_bd P k) j (z_v (z_bd P k) j) = some q → z_my m2 k (q + 1) = z_my m k (q + 1) := fun q hq => eyn _ (by
            obtain ⟨h5, _, _, h6, h7⟩ := z_le_some hq
            have := z_en_gt (l := z_bd P k) (i := q + 1) (by omega)
            omega)
          have htk : z_tk P r := by
            rw [hrst]
            refine z_st_tk hw hk hwB hi (fun q hq => ?_) (fun g q hq => ?_)
            · rcases hL.k9 (z_pt_lt hwB.1 hi hq) with g | g
              · exact absurd g (g1 q hq).1
              · exact g
            · rcases hlek q hq with g3 | g3
              · exact absurd g3 (hln g q hq)
              · exact g3
          refine ⟨⟨by rw [ey]; exact htk, fun q hq => by rw [hpn q hq]; exact (g1 q hq).1, Or.inr ⟨fun q hq => by rw [hpn q hq]; exact (g1 q hq).2, fun g q hq => by rw [hlne q hq]; exact hln g q hq, ?_⟩⟩, fun g => ?_⟩
          · rw [ey, hrst, z_st_congr2 hwB hi hpn (fun _ q hq => hlne q hq)]
          · rw [h3 g hr, z_mbn_congr hwB hi hpn]
    · rw [eyn j hji, ebn j hji]
      rcases hL.2 j hj with h4 | ⟨h4, h5⟩
      · exact Or.inl h4
      · refine Or.inr ⟨z_kn_up hwB h9 eyn hj hji h4, fun g => ?_⟩
        rw [h5 g]
        refine z_mbn_congr hwB hj (fun q hq => (eyn _ (fun g2 => h4.2.1 q hq (by rw [g2]; exact h9))).symm)
/-- a body that is looked at -/
def z_mTY (m : z_m) (P : z_Pg) (k : Nat) : Prop := ∀ j, j < (z_bd P k).length → m 2397 (192 * k + j) = nI (z_sz (z_bd P k) j) ∧ m 2398 (192 * k + j) = z_oI (z_pa (z_bd P k) j) ∧ m 2399 (192 * k + j) = z_T P k (z_bd P k) j ∧ m 2400 (192 * k + j) = z_mbn P k (z_bd P k) (z_T P k (z_bd P k)) j
theorem z_LK_F {m m' : z_m} (h : z_lF k m m') {v r : Int32} (hi : i < 192) : z_lF k m (z_up (z_up m' 2400 (192 * k + i) v) 2399 (192 * k + i) r) := (h.up (by omega) (by omega)).up (by omega) (by omega)
/-- all of a round -/
theorem f232_in (h : z_mb m b P) (hM : z_MS S) (hw : z_wf P) (hB : B = nI b) (hk : k < z_nm P) (hL : z_LK m P k (z_bd P k)) : ∃ m' mo, f232_108 2390 B (nI k) (nI (192 * k)) (nI (z_bd P k).length) 0 (nI ((z_bd P k).length - 1)) (z_hp S m) = some (.inl (2390, B, nI k, nI (192 * k), nI (z_bd P k).length, z_b mo), z_hp S m') ∧ z_lF k m m' ∧ z_LK m' P k (z_bd P k) ∧ ((mo = true ∧ z_cu (z_my m' k) (z_bd P k).length < z_cu (z_my m k) (z_bd P k).length) ∨ (mo = false ∧ ∀ j, j < (z_bd P k).length → z_my m' k j = -9 → z_sr P k (z_bd P k) (z_my m' k) j (-9))) := by
  have h24 := h.2.2.1
  have hlen := (h.2.2.2.2.2.2 k hk).2.2.1
  have hwB := hw.2.2.2.2.1 k hk
  have hpos := z_tr_pos hwB.1
  unfold f232_108
  have key := z_loopI (f := fun s => f232_108b (s.1) (s.2.1) (s.2.2.1) (s.2.2.2.1) (s.2.2.2.2.1) (s.2.2.2.2.2.1) (s.2.2.2.2.2.2)) (S := S) (fun n s m' => ∃ mo, n ≤ (z_bd P k).length ∧ s = (2390, B, nI k, nI (192 * k), nI (z_bd P k).length, z_b mo, z_pI n) ∧ z_lF k m m' ∧ z_LK m' P k (z_bd P k) ∧ ((mo = true ∧ z_cu (z_my m' k) (z_bd P k).length < z_cu (z_my m k) (z_bd P k).length) ∨ (mo = false ∧ z_my m' k = z_my m k ∧ ∀ j, n ≤ j → j < (z_bd P k).length → z_my m' k j = -9 → z_sr P k (z_bd P k) (z_my m' k) j (-9)))) (fun r m' => ∃ mo, r = .inl (2390, B, nI k, nI (192 * k), nI (z_bd P k).length, z_b mo) ∧ z_lF k m m' ∧ z_LK m' P k (z_bd P k) ∧ ((mo = true ∧ z_cu (z_my m' k) (z_bd P k).length < z_cu (z_my m k) (z_bd P k).length) ∨ (mo = false ∧ ∀ j, j < (z_bd P k).length → z_my m' k j = -9 → z_sr P k (z_bd P k) (z_my m' k) j (-9)))) ?_ 1000000 (z_bd P k).length (2390, B, nI k, nI (192 * k), nI (z_bd P k).length, 0, nI ((z_bd P k).length - 1)) m ⟨false, Nat.le_refl _, by rw [show (z_bd P k).length = (z_bd P k).length - 1 + 1 by omega, z_pI_s]; rfl, z_lF.refl k m, hL, Or.inr ⟨rfl, rfl, fun j h1 h2 => by omega⟩⟩ (by omega)
  · obtain ⟨r, m', e, mo, rfl, h1⟩ := key
    exact ⟨m', mo, e, h1⟩
  · rintro n s m' ⟨mo, hn, rfl, hF, hK, hs⟩
    cases n with
    | zero =>
      refine Or.inr ⟨_, m', ?_, mo, rfl, hF, hK, ?_⟩
      · dsimp only
        unfold f232_108b f232_176
        simp (disch := ((try simp only [true_or, or_true, hM.k, hM.k2391, hM.k2392, hM.k2393, hM.k2394, hM.k2395, hM.k2396, hM.k2397, hM.k2398, hM.k2399, hM.k2400, hM.k2401, hM.k2402, hM.k2403, hM.k2404, hM.k2405, hM.k2406, hM.k2407, hM.k2408, hM.k2409, hM.k2410, hM.k2411, hM.k2412, hM.k2413, hM.k2414, hM.k2415, hM.k2416, hM.k2417, hM.k2418, hM.k2419, hM.k2420, hM.k2421, hM.k2422, hM.k2423, hM.l2391, hM.l2392, hM.l2393, hM.l2394, hM.l2395, hM.l2396, hM.l2397, hM.l2398, hM.l2399, hM.l2400, hM.l2401, hM.l2402, hM.l2403, hM.l2404, hM.l2405, hM.l2406, hM.l2407, hM.l2408, hM.l2409, hM.l2410, hM.l2411, hM.l2412, hM.l2413, hM.l2414, hM.l2415, hM.l2416, hM.l2417, hM.l2418, hM.l2419, hM.l2420, hM.l2421, hM.l2422, hM.l2423]) <;> (try omega))) only [↓reduceIte, ↓z_ite, ↓zR, ↓zB_R, ↓zB_B, ↓zB_ite, ↓zB_gI, ↓zB_pI, ↓zB_pZ, ↓zB_aK, ↓zB_G, ↓zB_lI, ↓zB_lZ, ↓zB_wI, ↓zB_wZ, ↓zB_lIl, ↓zB_wIl, zB_pI, zB_pZ, zB_lI, zB_lZ, zB_wI, zB_wZ, z_addl, z_ladd, z_mull, z_lmul, nI_add, z_subl, Nat.not_lt_zero, z_10, z_01, z_bitc, z_b0, z_b1, ↓zB_Gb, ↓zB_G0, ↓zB_G1, z_eql, z_leq, z_ltl, z_llt, z_eq, z_lt, z_m1lt, hM.k, hM.k2391, hM.k2392, hM.k2393, hM.k2394, hM.k2395, hM.k2396, hM.k2397, hM.k2398, hM.k2399, hM.k2400, hM.k2401, hM.k2402, hM.k2403, hM.k2404, hM.k2405, hM.k2406, hM.k2407, hM.k2408, hM.k2409, hM.k2410, hM.k2411, hM.k2412, hM.k2413, hM.k2414, hM.k2415, hM.k2416, hM.k2417, hM.k2418, hM.k2419, hM.k2420, hM.k2421, hM.k2422, hM.k2423, hM.l2391, hM.l2392, hM.l2393, hM.l2394, hM.l2395, hM.l2396, hM.l2397, hM.l2398, hM.l2399, hM.l2400, hM.l2401, hM.l2402, hM.l2403, hM.l2404, hM.l2405, hM.l2406, hM.l2407, hM.l2408, hM.l2409, hM.l2410, hM.l2411, hM.l2412, hM.l2413, hM.l2414, hM.l2415, hM.l2416, hM.l2417, hM.l2418, hM.l2419, hM.l2420, hM.l2421, hM.l2422, hM.l2423, ↓hM.g1, ↓hM.g5, ↓hM.g6, ↓hM.g7, ↓hM.g8, ↓hM.g9, ↓hM.g10, ↓hM.g11, ↓hM.g12, ↓hM.g13, ↓hM.g14, ↓hM.g16, ↓hM.g17, ↓hM.g18, ↓hM.g19, ↓hM.g21, ↓hM.g22, ↓hM.g23, ↓hM.g24, ↓hM.g25, ↓hM.g27, ↓hM.g28, ↓hM.g30, ↓hM.g31, ↓hM.g32, ↓hM.g36, ↓hM.g37, ↓hM.g39, ↓hM.g40, ↓hM.g41, ↓hM.g43, ↓hM.g45, ↓hM.g46, z_pI_0, z_m1l]
      · rcases hs with h1 | ⟨h1, _, h2⟩
        · exact Or.inl h1
        · exact Or.inr ⟨h1, fun j hj => h2 j (Nat.zero_le _) hj⟩
    | succ i =>
      have hi : i < (z_bd P k).length := by omega
      have hmb := z_mb_fr (hF.1 2391 (by decide) (by decide) (by decide) (by decide)) h
      have hy : z_my m' k i = m' 2399 (192 * k + i) := rfl
      by_cases h9 : z_my m' k i = -9
      · obtain ⟨v, r, e, hK2, hsr⟩ := z_LK_step hmb hM hw hB hk hi hK h9
        have hF2 := z_LK_F hF (v := v) (r := r) (i := i) (by omega)
        have e0 : m' 2399 (192 * k + i) = -9 := h9
        generalize hm2 : z_up (z_up m' 2400 (192 * k + i) v) 2399 (192 * k + i) r = m2 at hK2 hF2
        have er : m2 2399 (192 * k + i) = r := by rw [← hm2, z_up_s]
        have eyn : ∀ j, j ≠ i → z_my m2 k j = z_my m' k j := fun j hj => by
          rw [← hm2]; unfold z_my
          rw [z_up_b (by omega), z_up_row (by decide)]
        refine Or.inl ⟨(2390, B, nI k, nI (192 * k), nI (z_bd P k).length, z_b (mo || r != -9), z_pI i), m2, i, ?_, by omega, mo || r != -9, by omega, rfl, hF2, hK2, ?_⟩
        · dsimp only
          unfold f232_108b f232_163 f232_168 f232_170
          cases mo with
          | true =>
            simp (disch := ((try simp only [true_or, or_true, hM.k, hM.k2391, hM.k2392, hM.k2393, hM.k2394, hM.k2395, hM.k2396, hM.k2397, hM.k2398, hM.k2399, hM.k2400, hM.k2401, hM.k2402, hM.k2403, hM.k2404, hM.k2405, hM.k2406, hM.k2407, hM.k2408, hM.k2409, hM.k2410, hM.k2411, hM.k2412, hM.k2413, hM.k2414, hM.k2415, hM.k2416, hM.k2417, hM.k2418, hM.k2419, hM.k2420, hM.k2421, hM.k2422, hM.k2423, hM.l2391, hM.l2392, hM.l2393, hM.l2394, hM.l2395, hM.l2396, hM.l2397, hM.l2398, hM.l2399, hM.l2400, hM.l2401, hM.l2402, hM.l2403, hM.l2404, hM.l2405, hM.l2406, hM.l2407, hM.l2408, hM.l2409, hM.l2410, hM.l2411, hM.l2412, hM.l2413, hM.l2414, hM.l2415, hM.l2416, hM.l2417, hM.l2418, hM.l2419, hM.l2420, hM.l2421, hM.l2422, hM.l2423]) <;> (try omega))) only [↓reduceIte, ↓z_ite, ↓zR, ↓zB_R, ↓zB_B, ↓zB_ite, ↓zB_gI, ↓zB_pI, ↓zB_pZ, ↓zB_aK, ↓zB_G, ↓zB_lI, ↓zB_lZ, ↓zB_wI, ↓zB_wZ, ↓zB_lIl, ↓zB_wIl, zB_pI, zB_pZ, zB_lI, zB_lZ, zB_wI, zB_wZ, z_addl, z_ladd, z_mull, z_lmul, nI_add, z_subl, Nat.not_lt_zero, z_10, z_01, z_bitc, z_b0, z_b1, ↓zB_Gb, ↓zB_G0, ↓zB_G1, z_eql, z_leq, z_ltl, z_llt, z_eq, z_lt, z_m1lt, hM.k, hM.k2391, hM.k2392, hM.k2393, hM.k2394, hM.k2395, hM.k2396, hM.k2397, hM.k2398, hM.k2399, hM.k2400, hM.k2401, hM.k2402, hM.k2403, hM.k2404, hM.k2405, hM.k2406, hM.k2407, hM.k2408, hM.k2409, hM.k2410, hM.k2411, hM.k2412, hM.k2413, hM.k2414, hM.k2415, hM.k2416, hM.k2417, hM.k2418, hM.k2419, hM.k2420, hM.k2421, hM.k2422, hM.k2423, hM.l2391, hM.l2392, hM.l2393, hM.l2394, hM.l2395, hM.l2396, hM.l2397, hM.l2398, hM.l2399, hM.l2400, hM.l2401, hM.l2402, hM.l2403, hM.l2404, hM.l2405, hM.l2406, hM.l2407, hM.l2408, hM.l2409, hM.l2410, hM.l2411, hM.l2412, hM.l2413, hM.l2414, hM.l2415, hM.l2416, hM.l2417, hM.l2418, hM.l2419, hM.l2420, hM.l2421, hM.l2422, hM.l2423, ↓hM.g1, ↓hM.g5, ↓hM.g6, ↓hM.g7, ↓hM.g8, ↓hM.g9, ↓hM.g10, ↓hM.g11, ↓hM.g12, ↓hM.g13, ↓hM.g14, ↓hM.g16, ↓hM.g17, ↓hM.g18, ↓hM.g19, ↓hM.g21, ↓hM.g22, ↓hM.g23, ↓hM.g24, ↓hM.g25, ↓hM.g27, ↓hM.g28, ↓hM.g30, ↓hM.g31, ↓hM.g32, ↓hM.g36, ↓hM.g37, ↓hM.g39, ↓hM.g40, ↓hM.g41, ↓hM.g43, ↓hM.g45, ↓hM.g46, z_pI_s, nI_pos, z_pI_e, e0, ↓zB_c e, zB_c e, Bool.true_eq_false, hm2, Bool.true_or]
            rfl
          | false =>
            by_cases hr : r = -9
            · subst hr
              simp (disch := ((try simp only [true_or, or_true, hM.k, hM.k2391, hM.k2392, hM.k2393, hM.k2394, hM.k2395, hM.k2396, hM.k2397, hM.k2398, hM.k2399, hM.k2400, hM.k2401, hM.k2402, hM.k2403, hM.k2404, hM.k2405, hM.k2406, hM.k2407, hM.k2408, hM.k2409, hM.k2410, hM.k2411, hM.k2412, hM.k2413, hM.k2414, hM.k2415, hM.k2416, hM.k2417, hM.k2418, hM.k2419, hM.k2420, hM.k2421, hM.k2422, hM.k2423, hM.l2391, hM.l2392, hM.l2393, hM.l2394, hM.l2395, hM.l2396, hM.l2397, hM.l2398, hM.l2399, hM.l2400, hM.l2401, hM.l2402, hM.l2403, hM.l2404, hM.l2405, hM.l2406, hM.l2407, hM.l2408, hM.l2409, hM.l2410, hM.l2411, hM.l2412, hM.l2413, hM.l2414, hM.l2415, hM.l2416, hM.l2417, hM.l2418, hM.l2419, hM.l2420, hM.l2421, hM.l2422, hM.l2423]) <;> (try omega))) only [↓reduceIte, ↓z_ite, ↓zR, ↓zB_R, ↓zB_B, ↓zB_ite, ↓zB_gI, ↓zB_pI, ↓zB_pZ, ↓zB_aK, ↓zB_G, ↓zB_lI, ↓zB_lZ, ↓zB_wI, ↓zB_wZ, ↓zB_lIl, ↓zB_wIl, zB_pI, zB_pZ, zB_lI, zB_lZ, zB_wI, zB_wZ, z_addl, z_ladd, z_mull, z_lmul, nI_add, z_subl, Nat.not_lt_zero, z_10, z_01, z_bitc, z_b0, z_b1, ↓zB_Gb, ↓zB_G0, ↓zB_G1, z_eql, z_leq, z_ltl, z_llt, z_eq, z_lt, z_m1lt, hM.k, hM.k2391, hM.k2392, hM.k2393, hM.k2394, hM.k2395, hM.k2396, hM.k2397, hM.k2398, hM.k2399, hM.k2400, hM.k2401, hM.k2402, hM.k2403, hM.k2404, hM.k2405, hM.k2406, hM.k2407, hM.k2408, hM.k2409, hM.k2410, hM.k2411, hM.k2412, hM.k2413, hM.k2414, hM.k2415, hM.k2416, hM.k2417, hM.k2418, hM.k2419, hM.k2420, hM.k2421, hM.k2422, hM.k2423, hM.l2391, hM.l2392, hM.l2393, hM.l2394, hM.l2395, hM.l2396, hM.l2397, hM.l2398, hM.l2399, hM.l2400, hM.l2401, hM.l2402, hM.l2403, hM.l2404, hM.l2405, hM.l2406, hM.l2407, hM.l2408, hM.l2409, hM.l2410, hM.l2411, hM.l2412, hM.l2413, hM.l2414, hM.l2415, hM.l2416, hM.l2417, hM.l2418, hM.l2419, hM.l2420, hM.l2421, hM.l2422, hM.l2423, ↓hM.g1, ↓hM.g5, ↓hM.g6, ↓hM.g7, ↓hM.g8, ↓hM.g9, ↓hM.g10, ↓hM.g11, ↓hM.g12, ↓hM.g13, ↓hM.g14, ↓hM.g16, ↓hM.g17, ↓hM.g18, ↓hM.g19, ↓hM.g21, ↓hM.g22, ↓hM.g23, ↓hM.g24, ↓hM.g25, ↓hM.g27, ↓hM.g28, ↓hM.g30, ↓hM.g31, ↓hM.g32, ↓hM.g36, ↓hM.g37, ↓hM.g39, ↓hM.g40, ↓hM.g41, ↓hM.g43, ↓hM.g45, ↓hM.g46, z_pI_s, nI_pos, z_pI_e, e0, ↓zB_c e, zB_c e, hm2, er]
              rfl
            · simp (disch := ((try simp only [true_or, or_true, hM.k, hM.k2391, hM.k2392, hM.k2393, hM.k2394, hM.k2395, hM.k2396, hM.k2397, hM.k2398, hM.k2399, hM.k2400, hM.k2401, hM.k2402, hM.k2403, hM.k2404, hM.k2405, hM.k2406, hM.k2407, hM.k2408, hM.k2409, hM.k2410, hM.k2411, hM.k2412, hM.k2413, hM.k2414, hM.k2415, hM.k2416, hM.k2417, hM.k2418, hM.k2419, hM.k2420, hM.k2421, hM.k2422, hM.k2423, hM.l2391, hM.l2392, hM.l2393, hM.l2394, hM.l2395, hM.l2396, hM.l2397, hM.l2398, hM.l2399, hM.l2400, hM.l2401, hM.l2402, hM.l2403, hM.l2404, hM.l2405, hM.l2406, hM.l2407, hM.l2408, hM.l2409, hM.l2410, hM.l2411, hM.l2412, hM.l2413, hM.l2414, hM.l2415, hM.l2416, hM.l2417, hM.l2418, hM.l2419, hM.l2420, hM.l2421, hM.l2422, hM.l2423]) <;> (try omega))) only [↓reduceIte, ↓z_ite, ↓zR, ↓zB_R, ↓zB_B, ↓zB_ite, ↓zB_gI, ↓zB_pI, ↓zB_pZ, ↓zB_aK, ↓zB_G, ↓zB_lI, ↓zB_lZ, ↓zB_wI, ↓zB_wZ, ↓zB_lIl, ↓zB_wIl, zB_pI, zB_pZ, zB_lI, zB_lZ, zB_wI, zB_wZ, z_addl, z_ladd, z_mull, z_lmul, nI_add, z_subl, Nat.not_lt_zero, z_10, z_01, z_bitc, z_b0, z_b1, ↓zB_Gb, ↓zB_G0, ↓zB_G1, z_eql, z_leq, z_ltl, z_llt, z_eq, z_lt, z_m1lt, hM.k, hM.k2391, hM.k2392, hM.k2393, hM.k2394, hM.k2395, hM.k2396, hM.k2397, hM.k2398, hM.k2399, hM.k2400, hM.k2401, hM.k2402, hM.k2403, hM.k2404, hM.k2405, hM.k2406, hM.k2407, hM.k2408, hM.k2409, hM.k2410, hM.k2411, hM.k2412, hM.k2413, hM.k2414, hM.k2415, hM.k2416, hM.k2417, hM.k2418, hM.k2419, hM.k2420, hM.k2421, hM.k2422, hM.k2423, hM.l2391, hM.l2392, hM.l2393, hM.l2394, hM.l2395, hM.l2396, hM.l2397, hM.l2398, hM.l2399, hM.l2400, hM.l2401, hM.l2402, hM.l2403, hM.l2404, hM.l2405, hM.l2406, hM.l2407, hM.l2408, hM.l2409, hM.l2410, hM.l2411, hM.l2412, hM.l2413, hM.l2414, hM.l2415, hM.l2416, hM.l2417, hM.l2418, hM.l2419, hM.l2420, hM.l2421, hM.l2422, hM.l2423, ↓hM.g1, ↓hM.g5, ↓hM.g6, ↓hM.g7, ↓hM.g8, ↓hM.g9, ↓hM.g10, ↓hM.g11, ↓hM.g12, ↓hM.g13, ↓hM.g14, ↓hM.g16, ↓hM.g17, ↓hM.g18, ↓hM.g19, ↓hM.g21, ↓hM.g22, ↓hM.g23, ↓hM.g24, ↓hM.g25, ↓hM.g27, ↓hM.g28, ↓hM.g30, ↓hM.g31, ↓hM.g32, ↓hM.g36, ↓hM.g37, ↓hM.g39, ↓hM.g40, ↓hM.g41, ↓hM.g43, ↓hM.g45, ↓hM.g46, z_pI_s, nI_pos, z_pI_e, e0, ↓zB_c e, zB_c e, hm2, er, hr]
              simp [hr, z_b]
        · by_cases hr : r = -9
          · have hyy : z_my m2 k = z_my m' k := by
              funext j
              by_cases hj : j = i
              · subst hj; rw [h9, ← hr]; exact er
              · exact eyn j hj
            rcases hs with ⟨h1, h2⟩ | ⟨h1, h2, h3⟩
            · exact Or.inl ⟨by rw [h1]; rfl, by rw [hyy]; exact h2⟩
            · refine Or.inr ⟨by rw [h1, hr]; rfl, by rw [hyy]; exact h2, fun j hj1 hj2 hj9 => ?_⟩
              rw [hyy] at hj9 ⊢
              rcases Nat.eq_or_lt_of_le hj1 with h4 | h4
              · rw [← h4, ← hr]; exact hsr
              · exact h3 j h4 hj2 hj9
          · have hlt := z_cu_lt (y := z_my m' k) (y' := z_my m2 k) h9 (by show m2 2399 (192 * k + i) ≠ -9; rw [er]; exact hr) eyn hi
            left
            refine ⟨by cases mo <;> simp [hr], ?_⟩
            rcases hs with ⟨_, h2⟩ | ⟨_, h2, _⟩
            · omega
            · rw [h2] at hlt; exact hlt
      · have e0 : ¬ m' 2399 (192 * k + i) = -9 := h9
        refine Or.inl ⟨_, m', i, ?_, by omega, mo, by omega, rfl, hF, hK, ?_⟩
        · dsimp only
          unfold f232_108b f232_170
          simp (disch := ((try simp only [true_or, or_true, hM.k, hM.k2391, hM.k2392, hM.k2393, hM.k2394, hM.k2395, hM.k2396, hM.k2397, hM.k2398, hM.k2399, hM.k2400, hM.k2401, hM.k2402, hM.k2403, hM.k2404, hM.k2405, hM.k2406, hM.k2407, hM.k2408, hM.k2409, hM.k2410, hM.k2411, hM.k2412, hM.k2413, hM.k2414, hM.k2415, hM.k2416, hM.k2417, hM.k2418, hM.k2419, hM.k2420, hM.k2421, hM.k2422, hM.k2423, hM.l2391, hM.l2392, hM.l2393, hM.l2394, hM.l2395, hM.l2396, hM.l2397, hM.l2398, hM.l2399, hM.l2400, hM.l2401, hM.l2402, hM.l2403, hM.l2404, hM.l2405, hM.l2406, hM.l2407, hM.l2408, hM.l2409, hM.l2410, hM.l2411, hM.l2412, hM.l2413, hM.l2414, hM.l2415, hM.l2416, hM.l2417, hM.l2418, hM.l2419, hM.l2420, hM.l2421, hM.l2422, hM.l2423]) <;> (try omega))) only [↓reduceIte, ↓z_ite, ↓zR, ↓zB_R, ↓zB_B, ↓zB_ite, ↓zB_gI, ↓zB_pI, ↓zB_pZ, ↓zB_aK, ↓zB_G, ↓zB_lI, ↓zB_lZ, ↓zB_wI, ↓zB_wZ, ↓zB_lIl, ↓zB_wIl, zB_pI, zB_pZ, zB_lI, zB_lZ, zB_wI, zB_wZ, z_addl, z_ladd, z_mull, z_lmul, nI_add, z_subl, Nat.not_lt_zero, z_10, z_01, z_bitc, z_b0, z_b1, ↓zB_Gb, ↓zB_G0, ↓zB_G1, z_eql, z_leq, z_ltl, z_llt, z_eq, z_lt, z_m1lt, hM.k, hM.k2391, hM.k2392, hM.k2393, hM.k2394, hM.k2395, hM.k2396, hM.k2397, hM.k2398, hM.k2399, hM.k2400, hM.k2401, hM.k2402, hM.k2403, hM.k2404, hM.k2405, hM.k2406, hM.k2407, hM.k2408, hM.k2409, hM.k2410, hM.k2411, hM.k2412, hM.k2413, hM.k2414, hM.k2415, hM.k2416, hM.k2417, hM.k2418, hM.k2419, hM.k2420, hM.k2421, hM.k2422, hM.k2423, hM.l2391, hM.l2392, hM.l2393, hM.l2394, hM.l2395, hM.l2396, hM.l2397, hM.l2398, hM.l2399, hM.l2400, hM.l2401, hM.l2402, hM.l2403, hM.l2404, hM.l2405, hM.l2406, hM.l2407, hM.l2408, hM.l2409, hM.l2410, hM.l2411, hM.l2412, hM.l2413, hM.l2414, hM.l2415, hM.l2416, hM.l2417, hM.l2418, hM.l2419, hM.l2420, hM.l2421, hM.l2422, hM.l2423, ↓hM.g1, ↓hM.g5, ↓hM.g6, ↓hM.g7, ↓hM.g8, ↓hM.g9, ↓hM.g10, ↓hM.g11, ↓hM.g12, ↓hM.g13, ↓hM.g14, ↓hM.g16, ↓hM.g17, ↓hM.g18, ↓hM.g19, ↓hM.g21, ↓hM.g22, ↓hM.g23, ↓hM.g24, ↓hM.g25, ↓hM.g27, ↓hM.g28, ↓hM.g30, ↓hM.g31, ↓hM.g32, ↓hM.g36, ↓hM.g37, ↓hM.g39, ↓hM.g40, ↓hM.g41, ↓hM.g43, ↓hM.g45, ↓hM.g46, z_pI_s, nI_pos, z_pI_e, e0]
        · rcases hs with h1 | ⟨h1, h2, h3⟩
          · exact Or.inl h1
          · refine Or.inr ⟨h1, h2, fun j hj1 hj2 hj9 => ?_⟩
            rcases Nat.eq_or_lt_of_le hj1 with h4 | h4
            · rw [← h4] at hj9; exact absurd hj9 h9
            · exact h3 j h4 hj2 hj9
/-- look -/
theorem f232_sp (h : z_mb m b P) (hM : z_MS S) (hw : z_wf P) (hB : B = nI b) (hk : k < z_nm P) : ∃ m' v, f232 2390 B (nI k) (z_hp S m) = some (v, z_hp S m') ∧ z_lF k m m' ∧ ((v = 1 ∧ z_rt P k (z_bd P k) ∧ z_mTY m' P k) ∨ (v = 0 ∧ ¬ z_rt P k (z_bd P k))) := by
  have h24 := h.2.2.1
  have hlen := (h.2.2.2.2.2.2 k hk).2.2.1
  have hwB := hw.2.2.2.2.1 k hk
  have hpos := z_tr_pos hwB.1
  have h6 := hw.1.1
  obtain ⟨m1, e224, hF1, hm1⟩ := f224_sp h hM hB hk hwB
  have hb1 := z_mb_fr (hF1.1 2391 (by decide) (by decide) (by decide) (by decide)) h
  have e9 := hb1.e9 hM hB hk
  -- what names are bound to
  have bind : ∃ m2, f232_25 2390 B (nI k) (nI (192 * k)) (nI (z_bd P k).length) 0 (z_hp S m1) = f232_91 2390 B (nI k) (nI (192 * k)) (nI (z_bd P k).length) (z_hp S m2) ∧ z_lF k m m2 ∧ z_LK m2 P k (z_bd P k) := by
    have key : ∀ n q m', n = (z_bd P k).length - q → q ≤ (z_bd P k).length → z_lF k m m' → (∀ j, j < (z_bd P k).length → m' 2397 (192 * k + j) = nI (z_sz (z_bd P k) j) ∧ m' 2398 (192 * k + j) = z_oI (z_pa (z_bd P k) j) ∧ m' 2399 (192 * k + j) = -9) → (∀ j, j < q → m' 2400 (192 * k + j) = z_mb0 P k (z_bd P k) j) → ∀ N, n < N → ∃ m2, m_W (fun s => f232_25b (s.1) (s.2.1) (s.2.2.1) (s.2.2.2.1) (s.2.2.2.2.1) (s.2.2.2.2.2)) N (2390, B, nI k, nI (192 * k), nI (z_bd P k).length, nI q) (z_hp S m') = f232_91 2390 B (nI k) (nI (192 * k)) (nI (z_bd P k).length) (z_hp S m2) ∧ z_lF k m m2 ∧ z_LK m2 P k (z_bd P k) := by
      intro n
      induction n with
      | zero =>
        intro q m' hn hq hF hrow hbd N hN
        obtain ⟨N', rfl⟩ : ∃ N', N = N' + 1 := ⟨N - 1, by omega⟩
        refine ⟨m', ?_, hF, fun j hj => ⟨(hrow j hj).1, (hrow j hj).2.1⟩, fun j hj => Or.inl ⟨(hrow j hj).2.2, hbd j (by omega)⟩⟩
        have hq2 : q = (z_bd P k).length := by omega
        unfold m_W
        show m_B (f232_25b 2390 B (nI k) (nI (192 * k)) (nI (z_bd P k).length) (nI q)) _ _ = _
        unfold f232_25b
        rw [hq2]
        simp (disch := ((try simp only [true_or, or_true, hM.k, hM.k2391, hM.k2392, hM.k2393, hM.k2394, hM.k2395, hM.k2396, hM.k2397, hM.k2398, hM.k2399, hM.k2400, hM.k2401, hM.k2402, hM.k2403, hM.k2404, hM.k2405, hM.k2406, hM.k2407, hM.k2408, hM.k2409, hM.k2410, hM.k2411, hM.k2412, hM.k2413, hM.k2414, hM.k2415, hM.k2416, hM.k2417, hM.k2418, hM.k2419, hM.k2420, hM.k2421, hM.k2422, hM.k2423, hM.l2391, hM.l2392, hM.l2393, hM.l2394, hM.l2395, hM.l2396, hM.l2397, hM.l2398, hM.l2399, hM.l2400, hM.l2401, hM.l2402, hM.l2403, hM.l2404, hM.l2405, hM.l2406, hM.l2407, hM.l2408, hM.l2409, hM.l2410, hM.l2411, hM.l2412, hM.l2413, hM.l2414, hM.l2415, hM.l2416, hM.l2417, hM.l2418, hM.l2419, hM.l2420, hM.l2421, hM.l2422, hM.l2423]) <;> (try omega))) only [↓reduceIte, ↓z_ite, ↓zR, ↓zB_R, ↓zB_B, ↓zB_ite, ↓zB_gI, ↓zB_pI, ↓zB_pZ, ↓zB_aK, ↓zB_G, ↓zB_lI, ↓zB_lZ, ↓zB_wI, ↓zB_wZ, ↓zB_lIl, ↓zB_wIl, zB_pI, zB_pZ, zB_lI, zB_lZ, zB_wI, zB_wZ, z_addl, z_ladd, z_mull, z_lmul, nI_add, z_subl, Nat.not_lt_zero, z_10, z_01, z_bitc, z_b0, z_b1, ↓zB_Gb, ↓zB_G0, ↓zB_G1, z_eql, z_leq, z_ltl, z_llt, z_eq, z_lt, z_m1lt, hM.k, hM.k2391, hM.k2392, hM.k2393, hM.k2394, hM.k2395, hM.k2396, hM.k2397, hM.k2398, hM.k2399, hM.k2400, hM.k2401, hM.k2402, hM.k2403, hM.k2404, hM.k2405, hM.k2406, hM.k2407, hM.k2408, hM.k2409, hM.k2410, hM.k2411, hM.k2412, hM.k2413, hM.k2414, hM.k2415, hM.k2416, hM.k2417, hM.k2418, hM.k2419, hM.k2420, hM.k2421, hM.k2422, hM.k2423, hM.l2391, hM.l2392, hM.l2393, hM.l2394, hM.l2395, hM.l2396, hM.l2397, hM.l2398, hM.l2399, hM.l2400, hM.l2401, hM.l2402, hM.l2403, hM.l2404, hM.l2405, hM.l2406, hM.l2407, hM.l2408, hM.l2409, hM.l2410, hM.l2411, hM.l2412, hM.l2413, hM.l2414, hM.l2415, hM.l2416, hM.l2417, hM.l2418, hM.l2419, hM.l2420, hM.l2421, hM.l2422, hM.l2423, ↓hM.g1, ↓hM.g5, ↓hM.g6, ↓hM.g7, ↓hM.g8, ↓hM.g9, ↓hM.g10, ↓hM.g11, ↓hM.g12, ↓hM.g13, ↓hM.g14, ↓hM.g16, ↓hM.g17, ↓hM.g18, ↓hM.g19, ↓hM.g21, ↓hM.g22, ↓hM.g23, ↓hM.g24, ↓hM.g25, ↓hM.g27, ↓hM.g28, ↓hM.g30, ↓hM.g31, ↓hM.g32, ↓hM.g36, ↓hM.g37, ↓hM.g39, ↓hM.g40, ↓hM.g41, ↓hM.g43, ↓hM.g45, ↓hM.g46, Nat.lt_irrefl]
        unfold m_B
        cases f232_91 2390 B (nI k) (nI (192 * k)) (nI (z_bd P k).length) (z_hp S m') <;> rfl
      | succ n ih =>
        intro q m' hn hq hF hrow hbd N hN
        obtain ⟨N', rfl⟩ : ∃ N', N = N' + 1 := ⟨N - 1, by omega⟩
        have hq2 : q < (z_bd P k).length := by omega
        have hmb := z_mb_fr (hF.1 2391 (by decide) (by decide) (by decide) (by decide)) h
        have ek := hmb.ek hM hB hk hq2
        have ev := hmb.ev hM hB hk hq2
        have e1 : f232_25b 2390 B (nI k) (nI (192 * k)) (nI (z_bd P k).length) (nI q) (z_hp S m') = some (.inl (2390, B, nI k, nI (192 * k), nI (z_bd P k).length, nI (q + 1)), z_hp S (z_up m' 2400 (192 * k + q) (z_mb0 P k (z_bd P k) q))) := by
          unfold f232_25b f232_63 f232_84 z_mb0
          by_cases g : z_k (z_bd P k) q = 1 ∨ z_k (z_bd P k) q = 6
          · obtain ⟨n, hn, en⟩ := z_v_nm hwB hq2 (by rcases g with g | g <;> simp [g])
            have e225 := f225_sp hmb hM hw hB hk (fun j hj => (hrow j hj).2.1) hq2 hn
            rw [if_pos g, en]
            rcases g with g | g
            · simp (disch := ((try simp only [true_or, or_true, hM.k, hM.k2391, hM.k2392, hM.k2393, hM.k2394, hM.k2395, hM.k2396, hM.k2397, hM.k2398, hM.k2399, hM.k2400, hM.k2401, hM.k2402, hM.k2403, hM.k2404, hM.k2405, hM.k2406, hM.k2407, hM.k2408, hM.k2409, hM.k2410, hM.k2411, hM.k2412, hM.k2413, hM.k2414, hM.k2415, hM.k2416, hM.k2417, hM.k2418, hM.k2419, hM.k2420, hM.k2421, hM.k2422, hM.k2423, hM.l2391, hM.l2392, hM.l2393, hM.l2394, hM.l2395, hM.l2396, hM.l2397, hM.l2398, hM.l2399, hM.l2400, hM.l2401, hM.l2402, hM.l2403, hM.l2404, hM.l2405, hM.l2406, hM.l2407, hM.l2408, hM.l2409, hM.l2410, hM.l2411, hM.l2412, hM.l2413, hM.l2414, hM.l2415, hM.l2416, hM.l2417, hM.l2418, hM.l2419, hM.l2420, hM.l2421, hM.l2422, hM.l2423]) <;> (try omega))) only [↓reduceIte, ↓z_ite, ↓zR, ↓zB_R, ↓zB_B, ↓zB_ite, ↓zB_gI, ↓zB_pI, ↓zB_pZ, ↓zB_aK, ↓zB_G, ↓zB_lI, ↓zB_lZ, ↓zB_wI, ↓zB_wZ, ↓zB_lIl, ↓zB_wIl, zB_pI, zB_pZ, zB_lI, zB_lZ, zB_wI, zB_wZ, z_addl, z_ladd, z_mull, z_lmul, nI_add, z_subl, Nat.not_lt_zero, z_10, z_01, z_bitc, z_b0, z_b1, ↓zB_Gb, ↓zB_G0, ↓zB_G1, z_eql, z_leq, z_ltl, z_llt, z_eq, z_lt, z_m1lt, hM.k, hM.k2391, hM.k2392, hM.k2393, hM.k2394, hM.k2395, hM.k2396, hM.k2397, hM.k2398, hM.k2399, hM.k2400, hM.k2401, hM.k2402, hM.k2403, hM.k2404, hM.k2405, hM.k2406, hM.k2407, hM.k2408, hM.k2409, hM.k2410, hM.k2411, hM.k2412, hM.k2413, hM.k2414, hM.k2415, hM.k2416, hM.k2417, hM.k2418, hM.k2419, hM.k2420, hM.k2421, hM.k2422, hM.k2423, hM.l2391, hM.l2392, hM.l2393, hM.l2394, hM.l2395, hM.l2396, hM.l2397, hM.l2398, hM.l2399, hM.l2400, hM.l2401, hM.l2402, hM.l2403, hM.l2404, hM.l2405, hM.l2406, hM.l2407, hM.l2408, hM.l2409, hM.l2410, hM.l2411, hM.l2412, hM.l2413, hM.l2414, hM.l2415, hM.l2416, hM.l2417, hM.l2418, hM.l2419, hM.l2420, hM.l2421, hM.l2422, hM.l2423, ↓hM.g1, ↓hM.g5, ↓hM.g6, ↓hM.g7, ↓hM.g8, ↓hM.g9, ↓hM.g10, ↓hM.g11, ↓hM.g12, ↓hM.g13, ↓hM.g14, ↓hM.g16, ↓hM.g17, ↓hM.g18, ↓hM.g19, ↓hM.g21, ↓hM.g22, ↓hM.g23, ↓hM.g24, ↓hM.g25, ↓hM.g27, ↓hM.g28, ↓hM.g30, ↓hM.g31, ↓hM.g32, ↓hM.g36, ↓hM.g37, ↓hM.g39, ↓hM.g40, ↓hM.g41, ↓hM.g43, ↓hM.g45, ↓hM.g46, hq2, ↓zB_c ek, zB_c ek, g, ↓zB_c ev, zB_c ev, en, ↓zB_c e225, zB_c e225]
            · simp (disch := ((try simp only [true_or, or_true, hM.k, hM.k2391, hM.k2392, hM.k2393, hM.k2394, hM.k2395, hM.k2396, hM.k2397, hM.k2398, hM.k2399, hM.k2400, hM.k2401, hM.k2402, hM.k2403, hM.k2404, hM.k2405, hM.k2406, hM.k2407, hM.k2408, hM.k2409, hM.k2410, hM.k2411, hM.k2412, hM.k2413, hM.k2414, hM.k2415, hM.k2416, hM.k2417, hM.k2418, hM.k2419, hM.k2420, hM.k2421, hM.k2422, hM.k2423, hM.l2391, hM.l2392, hM.l2393, hM.l2394, hM.l2395, hM.l2396, hM.l2397, hM.l2398, hM.l2399, hM.l2400, hM.l2401, hM.l2402, hM.l2403, hM.l2404, hM.l2405, hM.l2406, hM.l2407, hM.l2408, hM.l2409, hM.l2410, hM.l2411, hM.l2412, hM.l2413, hM.l2414, hM.l2415, hM.l2416, hM.l2417, hM.l2418, hM.l2419, hM.l2420, hM.l2421, hM.l2422, hM.l2423]) <;> (try omega))) only [↓reduceIte, ↓z_ite, ↓zR, ↓zB_R, ↓zB_B, ↓zB_ite, ↓zB_gI, ↓zB_pI, ↓zB_pZ, ↓zB_aK, ↓zB_G, ↓zB_lI, ↓zB_lZ, ↓zB_wI, ↓zB_wZ, ↓zB_lIl, ↓zB_wIl, zB_pI, zB_pZ, zB_lI, zB_lZ, zB_wI, zB_wZ, z_addl, z_ladd, z_mull, z_lmul, nI_add, z_subl, Nat.not_lt_zero, z_10, z_01, z_bitc, z_b0, z_b1, ↓zB_Gb, ↓zB_G0, ↓zB_G1, z_eql, z_leq, z_ltl, z_llt, z_eq, z_lt, z_m1lt, hM.k, hM.k2391, hM.k2392, hM.k2393, hM.k2394, hM.k2395, hM.k2396, hM.k2397, hM.k2398, hM.k2399, hM.k2400, hM.k2401, hM.k2402, hM.k2403, hM.k2404, hM.k2405, hM.k2406, hM.k2407, hM.k2408, hM.k2409, hM.k2410, hM.k2411, hM.k2412, hM.k2413, hM.k2414, hM.k2415, hM.k2416, hM.k2417, hM.k2418, hM.k2419, hM.k2420, hM.k2421, hM.k2422, hM.k2423, hM.l2391, hM.l2392, hM.l2393, hM.l2394, hM.l2395, hM.l2396, hM.l2397, hM.l2398, hM.l2399, hM.l2400, hM.l2401, hM.l2402, hM.l2403, hM.l2404, hM.l2405, hM.l2406, hM.l2407, hM.l2408, hM.l2409, hM.l2410, hM.l2411, hM.l2412, hM.l2413, hM.l2414, hM.l2415, hM.l2416, hM.l2417, hM.l2418, hM.l2419, hM.l2420, hM.l2421, hM.l2422, hM.l2423, ↓hM.g1, ↓hM.g5, ↓hM.g6, ↓hM.g7, ↓hM.g8, ↓hM.g9, ↓hM.g10, ↓hM.g11, ↓hM.g12, ↓hM.g13, ↓hM.g14, ↓hM.g16, ↓hM.g17, ↓hM.g18, ↓hM.g19, ↓hM.g21, ↓hM.g22, ↓hM.g23, ↓hM.g24, ↓hM.g25, ↓hM.g27, ↓hM.g28, ↓hM.g30, ↓hM.g31, ↓hM.g32, ↓hM.g36, ↓hM.g37, ↓hM.g39, ↓hM.g40, ↓hM.g41, ↓hM.g43, ↓hM.g45, ↓hM.g46, hq2, ↓zB_c ek, zB_c ek, g, show ¬ (6 : Int32) = 1 by decide, ↓zB_c ev, zB_c ev, en, ↓zB_c e225, zB_c e225]
          · have g1 : ¬ z_k (z_bd P k) q = 1 := fun g2 => g (Or.inl g2)
            have g2 : ¬ z_k (z_bd P k) q = 6 := fun g2 => g (Or.inr g2)
            rw [if_neg g]
            simp (disch := ((try simp only [true_or, or_true, hM.k, hM.k2391, hM.k2392, hM.k2393, hM.k2394, hM.k2395, hM.k2396, hM.k2397, hM.k2398, hM.k2399, hM.k2400, hM.k2401, hM.k2402, hM.k2403, hM.k2404, hM.k2405, hM.k2406, hM.k2407, hM.k2408, hM.k2409, hM.k2410, hM.k2411, hM.k2412, hM.k2413, hM.k2414, hM.k2415, hM.k2416, hM.k2417, hM.k2418, hM.k2419, hM.k2420, hM.k2421, hM.k2422, hM.k2423, hM.l2391, hM.l2392, hM.l2393, hM.l2394, hM.l2395, hM.l2396, hM.l2397, hM.l2398, hM.l2399, hM.l2400, hM.l2401, hM.l2402, hM.l2403, hM.l2404, hM.l2405, hM.l2406, hM.l2407, hM.l2408, hM.l2409, hM.l2410, hM.l2411, hM.l2412, hM.l2413, hM.l2414, hM.l2415, hM.l2416, hM.l2417, hM.l2418, hM.l2419, hM.l2420, hM.l2421, hM.l2422, hM.l2423]) <;> (try omega))) only [↓reduceIte, ↓z_ite, ↓zR, ↓zB_R, ↓zB_B, ↓zB_ite, ↓zB_gI, ↓zB_pI, ↓zB_pZ, ↓zB_aK, ↓zB_G, ↓zB_lI, ↓zB_lZ, ↓zB_wI, ↓zB_wZ, ↓zB_lIl, ↓zB_wIl, zB_pI, zB_pZ, zB_lI, zB_lZ, zB_wI, zB_wZ, z_addl, z_ladd, z_mull, z_lmul, nI_add, z_subl, Nat.not_lt_zero, z_10, z_01, z_bitc, z_b0, z_b1, ↓zB_Gb, ↓zB_G0, ↓zB_G1, z_eql, z_leq, z_ltl, z_llt, z_eq, z_lt, z_m1lt, hM.k, hM.k2391, hM.k2392, hM.k2393, hM.k2394, hM.k2395, hM.k2396, hM.k2397, hM.k2398, hM.k2399, hM.k2400, hM.k2401, hM.k2402, hM.k2403, hM.k2404, hM.k2405, hM.k2406, hM.k2407, hM.k2408, hM.k2409, hM.k2410, hM.k2411, hM.k2412, hM.k2413, hM.k2414, hM.k2415, hM.k2416, hM.k2417, hM.k2418, hM.k2419, hM.k2420, hM.k2421, hM.k2422, hM.k2423, hM.l2391, hM.l2392, hM.l2393, hM.l2394, hM.l2395, hM.l2396, hM.l2397, hM.l2398, hM.l2399, hM.l2400, hM.l2401, hM.l2402, hM.l2403, hM.l2404, hM.l2405, hM.l2406, hM.l2407, hM.l2408, hM.l2409, hM.l2410, hM.l2411, hM.l2412, hM.l2413, hM.l2414, hM.l2415, hM.l2416, hM.l2417, hM.l2418, hM.l2419, hM.l2420, hM.l2421, hM.l2422, hM.l2423, ↓hM.g1, ↓hM.g5, ↓hM.g6, ↓hM.g7, ↓hM.g8, ↓hM.g9, ↓hM.g10, ↓hM.g11, ↓hM.g12, ↓hM.g13, ↓hM.g14, ↓hM.g16, ↓hM.g17, ↓hM.g18, ↓hM.g19, ↓hM.g21, ↓hM.g22, ↓hM.g23, ↓hM.g24, ↓hM.g25, ↓hM.g27, ↓hM.g28, ↓hM.g30, ↓hM.g31, ↓hM.g32, ↓hM.g36, ↓hM.g37, ↓hM.g39, ↓hM.g40, ↓hM.g41, ↓hM.g43, ↓hM.g45, ↓hM.g46, hq2, ↓zB_c ek, zB_c ek, g1, g2]
        obtain ⟨m2, h1, h2⟩ := ih (q + 1) _ (by omega) hq2 (hF.up (v := z_mb0 P k (z_bd P k) q) (r := 2400) (j := 192 * k + q) (by omega) (by omega)) (fun j hj => by
          rw [z_up_row (by decide), z_up_row (by decide), z_up_row (by decide)]; exact hrow j hj) (fun j hj => by
          rcases Nat.lt_succ_iff_lt_or_eq.mp hj with h3 | h3
          · rw [z_up_b (by omega)]; exact hbd j h3
          · rw [h3, z_up_s]) N' (by omega)
        refine ⟨m2, ?_, h2⟩
        rw [← h1]
        conv => lhs; unfold m_W
        show m_B (f232_25b 2390 B (nI k) (nI (192 * k)) (nI (z_bd P k).length) (nI q)) _ _ = _
        rw [zB_c e1]
    exact key _ 0 m1 rfl (Nat.zero_le _) hF1 (fun j hj => ⟨(hm1 j hj).1, (hm1 j hj).2.1, (hm1 j hj).2.2.1⟩) (fun j hj => by omega) 1000000 (by omega)
  obtain ⟨m2, e2, hF2, hK2⟩ := bind
  have start : f232 2390 B (nI k) (z_hp S m) = f232_94 2390 B (nI k) (nI (192 * k)) (nI (z_bd P k).length) 1 (z_hp S m2) := by
    unfold f232
    simp (disch := ((try simp only [true_or, or_true, hM.k, hM.k2391, hM.k2392, hM.k2393, hM.k2394, hM.k2395, hM.k2396, hM.k2397, hM.k2398, hM.k2399, hM.k2400, hM.k2401, hM.k2402, hM.k2403, hM.k2404, hM.k2405, hM.k2406, hM.k2407, hM.k2408, hM.k2409, hM.k2410, hM.k2411, hM.k2412, hM.k2413, hM.k2414, hM.k2415, hM.k2416, hM.k2417, hM.k2418, hM.k2419, hM.k2420, hM.k2421, hM.k2422, hM.k2423, hM.l2391, hM.l2392, hM.l2393, hM.l2394, hM.l2395, hM.l2396, hM.l2397, hM.l2398, hM.l2399, hM.l2400, hM.l2401, hM.l2402, hM.l2403, hM.l2404, hM.l2405, hM.l2406, hM.l2407, hM.l2408, hM.l2409, hM.l2410, hM.l2411, hM.l2412, hM.l2413, hM.l2414, hM.l2415, hM.l2416, hM.l2417, hM.l2418, hM.l2419, hM.l2420, hM.l2421, hM.l2422, hM.l2423]) <;> (try omega))) only [↓reduceIte, ↓z_ite, ↓zR, ↓zB_R, ↓zB_B, ↓zB_ite, ↓zB_gI, ↓zB_pI, ↓zB_pZ, ↓zB_aK, ↓zB_G, ↓zB_lI, ↓zB_lZ, ↓zB_wI, ↓zB_wZ, ↓zB_lIl, ↓zB_wIl, zB_pI, zB_pZ, zB_lI, zB_lZ, zB_wI, zB_wZ, z_addl, z_ladd, z_mull, z_lmul, nI_add, z_subl, Nat.not_lt_zero, z_10, z_01, z_bitc, z_b0, z_b1, ↓zB_Gb, ↓zB_G0, ↓zB_G1, z_eql, z_leq, z_ltl, z_llt, z_eq, z_lt, z_m1lt, hM.k, hM.k2391, hM.k2392, hM.k2393, hM.k2394, hM.k2395, hM.k2396, hM.k2397, hM.k2398, hM.k2399, hM.k2400, hM.k2401, hM.k2402, hM.k2403, hM.k2404, hM.k2405, hM.k2406, hM.k2407, hM.k2408, hM.k2409, hM.k2410, hM.k2411, hM.k2412, hM.k2413, hM.k2414, hM.k2415, hM.k2416, hM.k2417, hM.k2418, hM.k2419, hM.k2420, hM.k2421, hM.k2422, hM.k2423, hM.l2391, hM.l2392, hM.l2393, hM.l2394, hM.l2395, hM.l2396, hM.l2397, hM.l2398, hM.l2399, hM.l2400, hM.l2401, hM.l2402, hM.l2403, hM.l2404, hM.l2405, hM.l2406, hM.l2407, hM.l2408, hM.l2409, hM.l2410, hM.l2411, hM.l2412, hM.l2413, hM.l2414, hM.l2415, hM.l2416, hM.l2417, hM.l2418, hM.l2419, hM.l2420, hM.l2421, hM.l2422, hM.l2423, ↓hM.g1, ↓hM.g5, ↓hM.g6, ↓hM.g7, ↓hM.g8, ↓hM.g9, ↓hM.g10, ↓hM.g11, ↓hM.g12, ↓hM.g13, ↓hM.g14, ↓hM.g16, ↓hM.g17, ↓hM.g18, ↓hM.g19, ↓hM.g21, ↓hM.g22, ↓hM.g23, ↓hM.g24, ↓hM.g25, ↓hM.g27, ↓hM.g28, ↓hM.g30, ↓hM.g31, ↓hM.g32, ↓hM.g36, ↓hM.g37, ↓hM.g39, ↓hM.g40, ↓hM.g41, ↓hM.g43, ↓hM.g45, ↓hM.g46, ↓zB_c e224, zB_c e224, ↓zB_c e9, zB_c e9]
    rw [e2]; rfl
  rw [start]
  unfold f232_94
  have key := z_loopI (f := fun s => f232_94b (s.1) (s.2.1) (s.2.2.1) (s.2.2.2.1) (s.2.2.2.2.1) (s.2.2.2.2.2)) (S := S) (fun n s m' => z_lF k m m' ∧ z_LK m' P k (z_bd P k) ∧ ((n = z_cu (z_my m' k) (z_bd P k).length + 1 ∧ s = (2390, B, nI k, nI (192 * k), nI (z_bd P k).length, 1)) ∨ (n = 0 ∧ s = (2390, B, nI k, nI (192 * k), nI (z_bd P k).length, 0) ∧ ∀ j, j < (z_bd P k).length → z_my m' k j = -9 → z_sr P k (z_bd P k) (z_my m' k) j (-9)))) (fun v m' => z_lF k m m' ∧ ((v = 1 ∧ z_rt P k (z_bd P k) ∧ z_mTY m' P k) ∨ (v = 0 ∧ ¬ z_rt P k (z_bd P k)))) ?_ 1000000 (z_cu (z_my m2 k) (z_bd P k).length + 1) (2390, B, nI k, nI (192 * k), nI (z_bd P k).length, 1) m2 ⟨hF2, hK2, Or.inl ⟨rfl, rfl⟩⟩ (by have := z_cu_le (z_my m2 k) (z_bd P k).length; omega)
  · obtain ⟨v, m', e, h1, h2⟩ := key
    exact ⟨m', v, e, h1, h2⟩
  · rintro n s m' ⟨hF, hK, hs⟩
    have hmb := z_mb_fr (hF.1 2391 (by decide) (by decide) (by decide) (by decide)) h
    rcases hs with ⟨rfl, rfl⟩ | ⟨rfl, rfl, hst⟩
    · obtain ⟨m3, mo, e, hF3, hK3, h3⟩ := f232_in hmb hM hw hB hk hK
      dsimp only
      rcases h3 with ⟨rfl, h4⟩ | ⟨rfl, h4⟩
      · refine Or.inl ⟨_, m3, z_cu (z_my m3 k) (z_bd P k).length + 1, ?_, by omega, hF.trans hF3, hK3, Or.inl ⟨rfl, rfl⟩⟩
        unfold f232_94b
        simp (disch := ((try simp only [true_or, or_true, hM.k, hM.k2391, hM.k2392, hM.k2393, hM.k2394, hM.k2395, hM.k2396, hM.k2397, hM.k2398, hM.k2399, hM.k2400, hM.k2401, hM.k2402, hM.k2403, hM.k2404, hM.k2405, hM.k2406, hM.k2407, hM.k2408, hM.k2409, hM.k2410, hM.k2411, hM.k2412, hM.k2413, hM.k2414, hM.k2415, hM.k2416, hM.k2417, hM.k2418, hM.k2419, hM.k2420, hM.k2421, hM.k2422, hM.k2423, hM.l2391, hM.l2392, hM.l2393, hM.l2394, hM.l2395, hM.l2396, hM.l2397, hM.l2398, hM.l2399, hM.l2400, hM.l2401, hM.l2402, hM.l2403, hM.l2404, hM.l2405, hM.l2406, hM.l2407, hM.l2408, hM.l2409, hM.l2410, hM.l2411, hM.l2412, hM.l2413, hM.l2414, hM.l2415, hM.l2416, hM.l2417, hM.l2418, hM.l2419, hM.l2420, hM.l2421, hM.l2422, hM.l2423]) <;> (try omega))) only [↓reduceIte, ↓z_ite, ↓zR, ↓zB_R, ↓zB_B, ↓zB_ite, ↓zB_gI, ↓zB_pI, ↓zB_pZ, ↓zB_aK, ↓zB_G, ↓zB_lI, ↓zB_lZ, ↓zB_wI, ↓zB_wZ, ↓zB_lIl, ↓zB_wIl, zB_pI, zB_pZ, zB_lI, zB_lZ, zB_wI, zB_wZ, z_addl, z_ladd, z_mull, z_lmul, nI_add, z_subl, Nat.not_lt_zero, z_10, z_01, z_bitc, z_b0, z_b1, ↓zB_Gb, ↓zB_G0, ↓zB_G1, z_eql, z_leq, z_ltl, z_llt, z_eq, z_lt, z_m1lt, hM.k, hM.k2391, hM.k2392, hM.k2393, hM.k2394, hM.k2395, hM.k2396, hM.k2397, hM.k2398, hM.k2399, hM.k2400, hM.k2401, hM.k2402, hM.k2403, hM.k2404, hM.k2405, hM.k2406, hM.k2407, hM.k2408, hM.k2409, hM.k2410, hM.k2411, hM.k2412, hM.k2413, hM.k2414, hM.k2415, hM.k2416, hM.k2417, hM.k2418, hM.k2419, hM.k2420, hM.k2421, hM.k2422, hM.k2423, hM.l2391, hM.l2392, hM.l2393, hM.l2394, hM.l2395, hM.l2396, hM.l2397, hM.l2398, hM.l2399, hM.l2400, hM.l2401, hM.l2402, hM.l2403, hM.l2404, hM.l2405, hM.l2406, hM.l2407, hM.l2408, hM.l2409, hM.l2410, hM.l2411, hM.l2412, hM.l2413, hM.l2414, hM.l2415, hM.l2416, hM.l2417, hM.l2418, hM.l2419, hM.l2420, hM.l2421, hM.l2422, hM.l2423, ↓hM.g1, ↓hM.g5, ↓hM.g6, ↓hM.g7, ↓hM.g8, ↓hM.g9, ↓hM.g10, ↓hM.g11, ↓hM.g12, ↓hM.g13, ↓hM.g14, ↓hM.g16, ↓hM.g17, ↓hM.g18, ↓hM.g19, ↓hM.g21, ↓hM.g22, ↓hM.g23, ↓hM.g24, ↓hM.g25, ↓hM.g27, ↓hM.g28, ↓hM.g30, ↓hM.g31, ↓hM.g32, ↓hM.g36, ↓hM.g37, ↓hM.g39, ↓hM.g40, ↓hM.g41, ↓hM.g43, ↓hM.g45, ↓hM.g46]
        exact e
      · refine Or.inl ⟨_, m3, 0, ?_, by omega, hF.trans hF3, hK3, Or.inr ⟨rfl, rfl, h4⟩⟩
        unfold f232_94b
        simp (disch := ((try simp only [true_or, or_true, hM.k, hM.k2391, hM.k2392, hM.k2393, hM.k2394, hM.k2395, hM.k2396, hM.k2397, hM.k2398, hM.k2399, hM.k2400, hM.k2401, hM.k2402, hM.k2403, hM.k2404, hM.k2405, hM.k2406, hM.k2407, hM.k2408, hM.k2409, hM.k2410, hM.k2411, hM.k2412, hM.k2413, hM.k2414, hM.k2415, hM.k2416, hM.k2417, hM.k2418, hM.k2419, hM.k2420, hM.k2421, hM.k2422, hM.k2423, hM.l2391, hM.l2392, hM.l2393, hM.l2394, hM.l2395, hM.l2396, hM.l2397, hM.l2398, hM.l2399, hM.l2400, hM.l2401, hM.l2402, hM.l2403, hM.l2404, hM.l2405, hM.l2406, hM.l2407, hM.l2408, hM.l2409, hM.l2410, hM.l2411, hM.l2412, hM.l2413, hM.l2414, hM.l2415, hM.l2416, hM.l2417, hM.l2418, hM.l2419, hM.l2420, hM.l2421, hM.l2422, hM.l2423]) <;> (try omega))) only [↓reduceIte, ↓z_ite, ↓zR, ↓zB_R, ↓zB_B, ↓zB_ite, ↓zB_gI, ↓zB_pI, ↓zB_pZ, ↓zB_aK, ↓zB_G, ↓zB_lI, ↓zB_lZ, ↓zB_wI, ↓zB_wZ, ↓zB_lIl, ↓zB_wIl, zB_pI, zB_pZ, zB_lI, zB_lZ, zB_wI, zB_wZ, z_addl, z_ladd, z_mull, z_lmul, nI_add, z_subl, Nat.not_lt_zero, z_10, z_01, z_bitc, z_b0, z_b1, ↓zB_Gb, ↓zB_G0, ↓zB_G1, z_eql, z_leq, z_ltl, z_llt, z_eq, z_lt, z_m1lt, hM.k, hM.k2391, hM.k2392, hM.k2393, hM.k2394, hM.k2395, hM.k2396, hM.k2397, hM.k2398, hM.k2399, hM.k2400, hM.k2401, hM.k2402, hM.k2403, hM.k2404, hM.k2405, hM.k2406, hM.k2407, hM.k2408, hM.k2409, hM.k2410, hM.k2411, hM.k2412, hM.k2413, hM.k2414, hM.k2415, hM.k2416, hM.k2417, hM.k2418, hM.k2419, hM.k2420, hM.k2421, hM.k2422, hM.k2423, hM.l2391, hM.l2392, hM.l2393, hM.l2394, hM.l2395, hM.l2396, hM.l2397, hM.l2398, hM.l2399, hM.l2400, hM.l2401, hM.l2402, hM.l2403, hM.l2404, hM.l2405, hM.l2406, hM.l2407, hM.l2408, hM.l2409, hM.l2410, hM.l2411, hM.l2412, hM.l2413, hM.l2414, hM.l2415, hM.l2416, hM.l2417, hM.l2418, hM.l2419, hM.l2420, hM.l2421, hM.l2422, hM.l2423, ↓hM.g1, ↓hM.g5, ↓hM.g6, ↓hM.g7, ↓hM.g8, ↓hM.g9, ↓hM.g10, ↓hM.g11, ↓hM.g12, ↓hM.g13, ↓hM.g14, ↓hM.g16, ↓hM.g17, ↓hM.g18, ↓hM.g19, ↓hM.g21, ↓hM.g22, ↓hM.g23, ↓hM.g24, ↓hM.g25, ↓hM.g27, ↓hM.g28, ↓hM.g30, ↓hM.g31, ↓hM.g32, ↓hM.g36, ↓hM.g37, ↓hM.g39, ↓hM.g40, ↓hM.g41, ↓hM.g43, ↓hM.g45, ↓hM.g46]
        exact e
    · -- all is known
      have hall : ∀ j, j < (z_bd P k).length → z_my m' k j ≠ -9 := by
        refine z_ind hwB.1 (M := fun j => z_my m' k j ≠ -9) (fun i hi h1 h2 g => ?_)
        rcases hst i hi g with ⟨⟨q, hq, h3⟩, _⟩ | ⟨_, _, h3⟩ | ⟨h3, h4⟩
        · exact h1 q hq h3
        · exact absurd h3 (by decide)
        · have hle2 : ∀ j, z_le (z_bd P k) i (z_v (z_bd P k) i) = some j → z_tk P (z_my m' k (j + 1)) := fun j hj => by
            obtain ⟨h5, _, _, h6, h7⟩ := z_le_some hj
            rcases hK.k9 (j := j + 1) (by omega) with h8 | h8
            · exact absurd h8 (h2 j h5 h6 h7)
            · exact h8
          have hpt : ∀ q, q < z_p (z_bd P k) i → z_tk P (z_my m' k (z_pt (z_bd P k) i q)) := fun q hq => by
            rcases hK.k9 (z_pt_lt hwB.1 hi hq) with h5 | h5
            · exact absurd h5 (h3 q hq).1
            · exact h5
          split at h4
          · rename_i g2
            obtain ⟨n, hn, en⟩ := z_v_nm hwB hi (by rcases g2.1 with g3 | g3 <;> simp [g3])
            have := z_tb_tk (T := z_my m' k) (i := i) (l := z_bd P k) hw hk hn (fun j _ _ _ _ _ e => hle2 j (by rw [en]; exact e))
            rw [en] at g2
            exact this.n9 h6 g2.2
          · have := z_st_tk (T := z_my m' k) hw hk hwB hi hpt (fun _ => hle2)
            exact this.n9 h6 h4.symm
      have hkn : ∀ j, j < (z_bd P k).length → z_kn P k (z_bd P k) (z_my m' k) j := fun j hj => by
        rcases hK.2 j hj with h1 | h1
        · exact absurd h1.1 (hall j hj)
        · exact h1.1
      have e8 := hmb.e8 hM hB hk
      have ey0 : m' 2399 (192 * k) = z_my m' k 0 := rfl
      have h0 := hall 0 hpos
      dsimp only
      by_cases h3 : z_my m' k 0 = -3
      · refine Or.inr ⟨0, m', ?_, hF, Or.inr ⟨rfl, ?_⟩⟩
        · unfold f232_94b f232_179 f232_227 f232_228
          simp (disch := ((try simp only [true_or, or_true, hM.k, hM.k2391, hM.k2392, hM.k2393, hM.k2394, hM.k2395, hM.k2396, hM.k2397, hM.k2398, hM.k2399, hM.k2400, hM.k2401, hM.k2402, hM.k2403, hM.k2404, hM.k2405, hM.k2406, hM.k2407, hM.k2408, hM.k2409, hM.k2410, hM.k2411, hM.k2412, hM.k2413, hM.k2414, hM.k2415, hM.k2416, hM.k2417, hM.k2418, hM.k2419, hM.k2420, hM.k2421, hM.k2422, hM.k2423, hM.l2391, hM.l2392, hM.l2393, hM.l2394, hM.l2395, hM.l2396, hM.l2397, hM.l2398, hM.l2399, hM.l2400, hM.l2401, hM.l2402, hM.l2403, hM.l2404, hM.l2405, hM.l2406, hM.l2407, hM.l2408, hM.l2409, hM.l2410, hM.l2411, hM.l2412, hM.l2413, hM.l2414, hM.l2415, hM.l2416, hM.l2417, hM.l2418, hM.l2419, hM.l2420, hM.l2421, hM.l2422, hM.l2423]) <;> (try omega))) only [↓reduceIte, ↓z_ite, ↓zR, ↓zB_R, ↓zB_B, ↓zB_ite, ↓zB_gI, ↓zB_pI, ↓zB_pZ, ↓zB_aK, ↓zB_G, ↓zB_lI, ↓zB_lZ, ↓zB_wI, ↓zB_wZ, ↓zB_lIl, ↓zB_wIl, zB_pI, zB_pZ, zB_lI, zB_lZ, zB_wI, zB_wZ, z_addl, z_ladd, z_mull, z_lmul, nI_add, z_subl, Nat.not_lt_zero, z_10, z_01, z_bitc, z_b0, z_b1, ↓zB_Gb, ↓zB_G0, ↓zB_G1, z_eql, z_leq, z_ltl, z_llt, z_eq, z_lt, z_m1lt, hM.k, hM.k2391, hM.k2392, hM.k2393, hM.k2394, hM.k2395, hM.k2396, hM.k2397, hM.k2398, hM.k2399, hM.k2400, hM.k2401, hM.k2402, hM.k2403, hM.k2404, hM.k2405, hM.k2406, hM.k2407, hM.k2408, hM.k2409, hM.k2410, hM.k2411, hM.k2412, hM.k2413, hM.k2414, hM.k2415, hM.k2416, hM.k2417, hM.k2418, hM.k2419, hM.k2420, hM.k2421, hM.k2422, hM.k2423, hM.l2391, hM.l2392, hM.l2393, hM.l2394, hM.l2395, hM.l2396, hM.l2397, hM.l2398, hM.l2399, hM.l2400, hM.l2401, hM.l2402, hM.l2403, hM.l2404, hM.l2405, hM.l2406, hM.l2407, hM.l2408, hM.l2409, hM.l2410, hM.l2411, hM.l2412, hM.l2413, hM.l2414, hM.l2415, hM.l2416, hM.l2417, hM.l2418, hM.l2419, hM.l2420, hM.l2421, hM.l2422, hM.l2423, ↓hM.g1, ↓hM.g5, ↓hM.g6, ↓hM.g7, ↓hM.g8, ↓hM.g9, ↓hM.g10, ↓hM.g11, ↓hM.g12, ↓hM.g13, ↓hM.g14, ↓hM.g16, ↓hM.g17, ↓hM.g18, ↓hM.g19, ↓hM.g21, ↓hM.g22, ↓hM.g23, ↓hM.g24, ↓hM.g25, ↓hM.g27, ↓hM.g28, ↓hM.g30, ↓hM.g31, ↓hM.g32, ↓hM.g36, ↓hM.g37, ↓hM.g39, ↓hM.g40, ↓hM.g41, ↓hM.g43, ↓hM.g45, ↓hM.g46, ey0, h3]
        · rintro ⟨T, hT⟩
          have := z_kn_uq hwB hkn hT 0 hpos
          rw [h3] at this
          exact (hT.1 0 hpos).2 this.symm
      · have e227 := f227_sp hmb hM hw.1 hB (hkn 0 hpos).1.tw (z_tw_ty (hw.2.2.2.1 k hk).2.2.2.2.2)
        have hgood : ∀ j, j < (z_bd P k).length → z_my m' k j ≠ -3 := by
          intro j
          induction j using Nat.strongRecOn with
          | ind j ih =>
            intro hj g
            rcases Nat.eq_zero_or_pos j with hz | hz
            · rw [hz] at g; exact h3 g
            · obtain ⟨a, ha⟩ := z_pa_ex hwB.1 hz hj
              obtain ⟨q, hq, e⟩ := z_pa_is hwB.1 hj ha
              have haj := (z_pa_some ha).1
              rcases (hkn a (by omega)).2.2 with ⟨_, h4⟩ | ⟨h4, _⟩
              · exact ih a haj (by omega) h4
              · exact h4 q hq (by rw [e]; exact g)
        have heq : ∀ j, j < (z_bd P k).length → z_my m' k j = z_st P k (z_bd P k) (z_my m' k) j := fun j hj => by
          rcases (hkn j hj).2.2 with ⟨_, h4⟩ | ⟨_, _, h4⟩
          · exact absurd h4 (hgood j hj)
          · exact h4
        cases hf : z_fit P (z_my m' k 0) (z_hd P k 8) with
        | true =>
          have hok : z_ok P k (z_bd P k) (z_my m' k) := ⟨fun j hj => ⟨heq j hj, hgood j hj⟩, hf⟩
          have huq := z_ok_uq hwB hok (z_T_ok ⟨_, hok⟩)
          refine Or.inr ⟨1, m', ?_, hF, Or.inl ⟨rfl, ⟨_, hok⟩, fun j hj => ⟨(hK.1 j hj).1, (hK.1 j hj).2, huq j hj, ?_⟩⟩⟩
          · unfold f232_94b f232_179 f232_227 f232_228
            simp (disch := ((try simp only [true_or, or_true, hM.k, hM.k2391, hM.k2392, hM.k2393, hM.k2394, hM.k2395, hM.k2396, hM.k2397, hM.k2398, hM.k2399, hM.k2400, hM.k2401, hM.k2402, hM.k2403, hM.k2404, hM.k2405, hM.k2406, hM.k2407, hM.k2408, hM.k2409, hM.k2410, hM.k2411, hM.k2412, hM.k2413, hM.k2414, hM.k2415, hM.k2416, hM.k2417, hM.k2418, hM.k2419, hM.k2420, hM.k2421, hM.k2422, hM.k2423, hM.l2391, hM.l2392, hM.l2393, hM.l2394, hM.l2395, hM.l2396, hM.l2397, hM.l2398, hM.l2399, hM.l2400, hM.l2401, hM.l2402, hM.l2403, hM.l2404, hM.l2405, hM.l2406, hM.l2407, hM.l2408, hM.l2409, hM.l2410, hM.l2411, hM.l2412, hM.l2413, hM.l2414, hM.l2415, hM.l2416, hM.l2417, hM.l2418, hM.l2419, hM.l2420, hM.l2421, hM.l2422, hM.l2423]) <;> (try omega))) only [↓reduceIte, ↓z_ite, ↓zR, ↓zB_R, ↓zB_B, ↓zB_ite, ↓zB_gI, ↓zB_pI, ↓zB_pZ, ↓zB_aK, ↓zB_G, ↓zB_lI, ↓zB_lZ, ↓zB_wI, ↓zB_wZ, ↓zB_lIl, ↓zB_wIl, zB_pI, zB_pZ, zB_lI, zB_lZ, zB_wI, zB_wZ, z_addl, z_ladd, z_mull, z_lmul, nI_add, z_subl, Nat.not_lt_zero, z_10, z_01, z_bitc, z_b0, z_b1, ↓zB_Gb, ↓zB_G0, ↓zB_G1, z_eql, z_leq, z_ltl, z_llt, z_eq, z_lt, z_m1lt, hM.k, hM.k2391, hM.k2392, hM.k2393, hM.k2394, hM.k2395, hM.k2396, hM.k2397, hM.k2398, hM.k2399, hM.k2400, hM.k2401, hM.k2402, hM.k2403, hM.k2404, hM.k2405, hM.k2406, hM.k2407, hM.k2408, hM.k2409, hM.k2410, hM.k2411, hM.k2412, hM.k2413, hM.k2414, hM.k2415, hM.k2416, hM.k2417, hM.k2418, hM.k2419, hM.k2420, hM.k2421, hM.k2422, hM.k2423, hM.l2391, hM.l2392, hM.l2393, hM.l2394, hM.l2395, hM.l2396, hM.l2397, hM.l2398, hM.l2399, hM.l2400, hM.l2401, hM.l2402, hM.l2403, hM.l2404, hM.l2405, hM.l2406, hM.l2407, hM.l2408, hM.l2409, hM.l2410, hM.l2411, hM.l2412, hM.l2413, hM.l2414, hM.l2415, hM.l2416, hM.l2417, hM.l2418, hM.l2419, hM.l2420, hM.l2421, hM.l2422, hM.l2423, ↓hM.g1, ↓hM.g5, ↓hM.g6, ↓hM.g7, ↓hM.g8, ↓hM.g9, ↓hM.g10, ↓hM.g11, ↓hM.g12, ↓hM.g13, ↓hM.g14, ↓hM.g16, ↓hM.g17, ↓hM.g18, ↓hM.g19, ↓hM.g21, ↓hM.g22, ↓hM.g23, ↓hM.g24, ↓hM.g25, ↓hM.g27, ↓hM.g28, ↓hM.g30, ↓hM.g31, ↓hM.g32, ↓hM.g36, ↓hM.g37, ↓hM.g39, ↓hM.g40, ↓hM.g41, ↓hM.g43, ↓hM.g45, ↓hM.g46, ey0, h3, h0, ↓zB_c e8, zB_c e8, ↓zB_c e227, zB_c e227, hf, Bool.true_eq_false]
          · rcases hK.2 j hj with h4 | ⟨_, h4⟩
            · exact absurd h4.1 (hall j hj)
            · rw [h4 (hgood j hj)]
              exact z_mbn_congr hwB hj (fun q hq => huq _ (z_pt_lt hwB.1 hj hq))
        | false =>
          refine Or.inr ⟨0, m', ?_, hF, Or.inr ⟨rfl, ?_⟩⟩
          · unfold f232_94b f232_179 f232_227 f232_228
            simp (disch := ((try simp only [true_or, or_true, hM.k, hM.k2391, hM.k2392, hM.k2393, hM.k2394, hM.k2395, hM.k2396, hM.k2397, hM.k2398, hM.k2399, hM.k2400, hM.k2401, hM.k2402, hM.k2403, hM.k2404, hM.k2405, hM.k2406, hM.k2407, hM.k2408, hM.k2409, hM.k2410, hM.k2411, hM.k2412, hM.k2413, hM.k2414, hM.k2415, hM.k2416, hM.k2417, hM.k2418, hM.k2419, hM.k2420, hM.k2421, hM.k2422, hM.k2423, hM.l2391, hM.l2392, hM.l2393, hM.l2394, hM.l2395, hM.l2396, hM.l2397, hM.l2398, hM.l2399, hM.l2400, hM.l2401, hM.l2402, hM.l2403, hM.l2404, hM.l2405, hM.l2406, hM.l2407, hM.l2408, hM.l2409, hM.l2410, hM.l2411, hM.l2412, hM.l2413, hM.l2414, hM.l2415, hM.l2416, hM.l2417, hM.l2418, hM.l2419, hM.l2420, hM.l2421, hM.l2422, hM.l2423]) <;> (try omega))) only [↓reduceIte, ↓z_ite, ↓zR, ↓zB_R, ↓zB_B, ↓zB_ite, ↓zB_gI, ↓zB_pI, ↓zB_pZ, ↓zB_aK, ↓zB_G, ↓zB_lI, ↓zB_lZ, ↓zB_wI, ↓zB_wZ, ↓zB_lIl, ↓zB_wIl, zB_pI, zB_pZ, zB_lI, zB_lZ, zB_wI, zB_wZ, z_addl, z_ladd, z_mull, z_lmul, nI_add, z_subl, Nat.not_lt_zero, z_10, z_01, z_bitc, z_b0, z_b1, ↓zB_Gb, ↓zB_G0, ↓zB_G1, z_eql, z_leq, z_ltl, z_llt, z_eq, z_lt, z_m1lt, hM.k, hM.k2391, hM.k2392, hM.k2393, hM.k2394, hM.k2395, hM.k2396, hM.k2397, hM.k2398, hM.k2399, hM.k2400, hM.k2401, hM.k2402, hM.k2403, hM.k2404, hM.k2405, hM.k2406, hM.k2407, hM.k2408, hM.k2409, hM.k2410, hM.k2411, hM.k2412, hM.k2413, hM.k2414, hM.k2415, hM.k2416, hM.k2417, hM.k2418, hM.k2419, hM.k2420, hM.k2421, hM.k2422, hM.k2423, hM.l2391, hM.l2392, hM.l2393, hM.l2394, hM.l2395, hM.l2396, hM.l2397, hM.l2398, hM.l2399, hM.l2400, hM.l2401, hM.l2402, hM.l2403, hM.l2404, hM.l2405, hM.l2406, hM.l2407, hM.l2408, hM.l2409, hM.l2410, hM.l2411, hM.l2412, hM.l2413, hM.l2414, hM.l2415, hM.l2416, hM.l2417, hM.l2418, hM.l2419, hM.l2420, hM.l2421, hM.l2422, hM.l2423, ↓hM.g1, ↓hM.g5, ↓hM.g6, ↓hM.g7, ↓hM.g8, ↓hM.g9, ↓hM.g10, ↓hM.g11, ↓hM.g12, ↓hM.g13, ↓hM.g14, ↓hM.g16, ↓hM.g17, ↓hM.g18, ↓hM.g19, ↓hM.g21, ↓hM.g22, ↓hM.g23, ↓hM.g24, ↓hM.g25, ↓hM.g27, ↓hM.g28, ↓hM.g30, ↓hM.g31, ↓hM.g32, ↓hM.g36, ↓hM.g37, ↓hM.g39, ↓hM.g40, ↓hM.g41, ↓hM.g43, ↓hM.g45, ↓hM.g46, ey0, h3, h0, ↓zB_c e8, zB_c e8, ↓zB_c e227, zB_c e227, hf]
          · rintro ⟨T, hT⟩
            have := z_kn_uq hwB hkn hT 0 hpos
            rw [this, hT.2] at hf; cases hf
end
