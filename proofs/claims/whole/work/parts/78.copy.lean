/-! programs copied -/
def z_cpR (m : z_m) (p q j n : Nat) : z_m := z_ur m (p + j) (va_cpy (m (q + j)) (m (p + j)) 0 0 n)
theorem z_cpR_n {m : z_m} {p q j n a : Nat} (h : a ≠ p + j) : z_cpR m p q j n a = m a := z_ur_n h
theorem z_cpR_s {m : z_m} {p q j n i : Nat} (h : i < n) : z_cpR m p q j n (p + j) i = m (q + j) i := by
  unfold z_cpR
  rw [z_ur_s, pk_cpy_in (Nat.zero_le _) (by omega), Nat.zero_add, Nat.sub_zero]
section
variable {S : z_S} {m : z_m} {p q : Nat} {P : z_Pg}
theorem zB_cp1 (hp : z_PS S p) (hq : z_PS S q) {β : Type} {f : Unit → m_M β} : m_B (m_cp (q + 1) 0 (p + 1) 0 6) f (z_hp S m) = f () (z_hp S (z_cpR m p q 1 6)) := zB_cpl hq.k1 hp.k1 (by rw [hq.l1]; decide) (by rw [hp.l1]; decide) (by decide)
theorem zB_cp2 (hp : z_PS S p) (hq : z_PS S q) {β : Type} {f : Unit → m_M β} : m_B (m_cp (q + 2) 0 (p + 2) 0 6) f (z_hp S m) = f () (z_hp S (z_cpR m p q 2 6)) := zB_cpl hq.k2 hp.k2 (by rw [hq.l2]; decide) (by rw [hp.l2]; decide) (by decide)
theorem zB_cp3 (hp : z_PS S p) (hq : z_PS S q) {β : Type} {f : Unit → m_M β} : m_B (m_cp (q + 3) 0 (p + 3) 0 96) f (z_hp S m) = f () (z_hp S (z_cpR m p q 3 96)) := zB_cpl hq.k3 hp.k3 (by rw [hq.l3]; decide) (by rw [hp.l3]; decide) (by decide)
theorem zB_cp4 (hp : z_PS S p) (hq : z_PS S q) {β : Type} {f : Unit → m_M β} : m_B (m_cp (q + 4) 0 (p + 4) 0 24) f (z_hp S m) = f () (z_hp S (z_cpR m p q 4 24)) := zB_cpl hq.k4 hp.k4 (by rw [hq.l4]; decide) (by rw [hp.l4]; decide) (by decide)
theorem zB_cp5 (hp : z_PS S p) (hq : z_PS S q) {β : Type} {f : Unit → m_M β} : m_B (m_cp (q + 5) 0 (p + 5) 0 24) f (z_hp S m) = f () (z_hp S (z_cpR m p q 5 24)) := zB_cpl hq.k5 hp.k5 (by rw [hq.l5]; decide) (by rw [hp.l5]; decide) (by decide)
theorem zB_cp6 (hp : z_PS S p) (hq : z_PS S q) {β : Type} {f : Unit → m_M β} : m_B (m_cp (q + 6) 0 (p + 6) 0 24) f (z_hp S m) = f () (z_hp S (z_cpR m p q 6 24)) := zB_cpl hq.k6 hp.k6 (by rw [hq.l6]; decide) (by rw [hp.l6]; decide) (by decide)
theorem zB_cp7 (hp : z_PS S p) (hq : z_PS S q) {β : Type} {f : Unit → m_M β} : m_B (m_cp (q + 7) 0 (p + 7) 0 48) f (z_hp S m) = f () (z_hp S (z_cpR m p q 7 48)) := zB_cpl hq.k7 hp.k7 (by rw [hq.l7]; decide) (by rw [hp.l7]; decide) (by decide)
theorem zB_cp8 (hp : z_PS S p) (hq : z_PS S q) {β : Type} {f : Unit → m_M β} : m_B (m_cp (q + 8) 0 (p + 8) 0 48) f (z_hp S m) = f () (z_hp S (z_cpR m p q 8 48)) := zB_cpl hq.k8 hp.k8 (by rw [hq.l8]; decide) (by rw [hp.l8]; decide) (by decide)
theorem zB_cp9 (hp : z_PS S p) (hq : z_PS S q) {β : Type} {f : Unit → m_M β} : m_B (m_cp (q + 9) 0 (p + 9) 0 24) f (z_hp S m) = f () (z_hp S (z_cpR m p q 9 24)) := zB_cpl hq.k9 hp.k9 (by rw [hq.l9]; decide) (by rw [hp.l9]; decide) (by decide)
def z_cpA (m : z_m) (p q : Nat) : z_m := (z_cpR (z_cpR (z_cpR (z_cpR (z_cpR (z_cpR (z_cpR (z_cpR (z_cpR (z_up (z_up (z_up (z_up m p 10 (m q 10)) p 11 (m q 11)) p 12 (m q 12)) p 14 0) p q 1 6) p q 2 6) p q 3 96) p q 4 24) p q 5 24) p q 6 24) p q 7 48) p q 8 48) p q 9 24)
theorem z_cpA_o {a : Nat} (h : a < p ∨ p + 10 ≤ a) : z_cpA m p q a = m a := by
  unfold z_cpA
  rw [z_cpR_n (by omega), z_cpR_n (by omega), z_cpR_n (by omega), z_cpR_n (by omega), z_cpR_n (by omega), z_cpR_n (by omega), z_cpR_n (by omega), z_cpR_n (by omega), z_cpR_n (by omega), z_up_row (by omega), z_up_row (by omega), z_up_row (by omega), z_up_row (by omega)]
theorem z_cpA_f {j : Nat} (h1 : j ≠ 10) (h2 : j ≠ 11) (h3 : j ≠ 12) (h4 : j ≠ 14) : z_cpA m p q p j = m p j := by
  unfold z_cpA
  rw [z_cpR_n (by omega), z_cpR_n (by omega), z_cpR_n (by omega), z_cpR_n (by omega), z_cpR_n (by omega), z_cpR_n (by omega), z_cpR_n (by omega), z_cpR_n (by omega), z_cpR_n (by omega), z_up_b h4, z_up_b h3, z_up_b h2, z_up_b h1]
theorem z_cpA_f4 : z_cpA m p q p 10 = m q 10 ∧ z_cpA m p q p 11 = m q 11 ∧ z_cpA m p q p 12 = m q 12 ∧ z_cpA m p q p 14 = 0 := by
  unfold z_cpA
  rw [z_cpR_n (by omega), z_cpR_n (by omega), z_cpR_n (by omega), z_cpR_n (by omega), z_cpR_n (by omega), z_cpR_n (by omega), z_cpR_n (by omega), z_cpR_n (by omega), z_cpR_n (by omega)]
  refine ⟨?_, ?_, ?_, z_up_s _ _ _ _⟩
  · rw [z_up_b (by decide), z_up_b (by decide), z_up_b (by decide), z_up_s]
  · rw [z_up_b (by decide), z_up_b (by decide), z_up_s]
  · rw [z_up_b (by decide), z_up_s]

theorem z_cpA_1 (hpq : p + 179 ≤ q ∨ q + 179 ≤ p) {i : Nat} (hi : i < 6) : z_cpA m p q (p + 1) i = m (q + 1) i := by
  unfold z_cpA
  rw [z_cpR_n (by omega), z_cpR_n (by omega), z_cpR_n (by omega), z_cpR_n (by omega), z_cpR_n (by omega), z_cpR_n (by omega), z_cpR_n (by omega), z_cpR_n (by omega), z_cpR_s hi, z_up_row (by omega), z_up_row (by omega), z_up_row (by omega), z_up_row (by omega)]
theorem z_cpA_2 (hpq : p + 179 ≤ q ∨ q + 179 ≤ p) {i : Nat} (hi : i < 6) : z_cpA m p q (p + 2) i = m (q + 2) i := by
  unfold z_cpA
  rw [z_cpR_n (by omega), z_cpR_n (by omega), z_cpR_n (by omega), z_cpR_n (by omega), z_cpR_n (by omega), z_cpR_n (by omega), z_cpR_n (by omega), z_cpR_s hi, z_cpR_n (by omega), z_up_row (by omega), z_up_row (by omega), z_up_row (by omega), z_up_row (by omega)]
theorem z_cpA_3 (hpq : p + 179 ≤ q ∨ q + 179 ≤ p) {i : Nat} (hi : i < 96) : z_cpA m p q (p + 3) i = m (q + 3) i := by
  unfold z_cpA
  rw [z_cpR_n (by omega), z_cpR_n (by omega), z_cpR_n (by omega), z_cpR_n (by omega), z_cpR_n (by omega), z_cpR_n (by omega), z_cpR_s hi, z_cpR_n (by omega), z_cpR_n (by omega), z_up_row (by omega), z_up_row (by omega), z_up_row (by omega), z_up_row (by omega)]
theorem z_cpA_4 (hpq : p + 179 ≤ q ∨ q + 179 ≤ p) {i : Nat} (hi : i < 24) : z_cpA m p q (p + 4) i = m (q + 4) i := by
  unfold z_cpA
  rw [z_cpR_n (by omega), z_cpR_n (by omega), z_cpR_n (by omega), z_cpR_n (by omega), z_cpR_n (by omega), z_cpR_s hi, z_cpR_n (by omega), z_cpR_n (by omega), z_cpR_n (by omega), z_up_row (by omega), z_up_row (by omega), z_up_row (by omega), z_up_row (by omega)]
theorem z_cpA_5 (hpq : p + 179 ≤ q ∨ q + 179 ≤ p) {i : Nat} (hi : i < 24) : z_cpA m p q (p + 5) i = m (q + 5) i := by
  unfold z_cpA
  rw [z_cpR_n (by omega), z_cpR_n (by omega), z_cpR_n (by omega), z_cpR_n (by omega), z_cpR_s hi, z_cpR_n (by omega), z_cpR_n (by omega), z_cpR_n (by omega), z_cpR_n (by omega), z_up_row (by omega), z_up_row (by omega), z_up_row (by omega), z_up_row (by omega)]
theorem z_cpA_6 (hpq : p + 179 ≤ q ∨ q + 179 ≤ p) {i : Nat} (hi : i < 24) : z_cpA m p q (p + 6) i = m (q + 6) i := by
  unfold z_cpA
  rw [z_cpR_n (by omega), z_cpR_n (by omega), z_cpR_n (by omega), z_cpR_s hi, z_cpR_n (by omega), z_cpR_n (by omega), z_cpR_n (by omega), z_cpR_n (by omega), z_cpR_n (by omega), z_up_row (by omega), z_up_row (by omega), z_up_row (by omega), z_up_row (by omega)]
theorem z_cpA_7 (hpq : p + 179 ≤ q ∨ q + 179 ≤ p) {i : Nat} (hi : i < 48) : z_cpA m p q (p + 7) i = m (q + 7) i := by
  unfold z_cpA
  rw [z_cpR_n (by omega), z_cpR_n (by omega), z_cpR_s hi, z_cpR_n (by omega), z_cpR_n (by omega), z_cpR_n (by omega), z_cpR_n (by omega), z_cpR_n (by omega), z_cpR_n (by omega), z_up_row (by omega), z_up_row (by omega), z_up_row (by omega), z_up_row (by omega)]
theorem z_cpA_8 (hpq : p + 179 ≤ q ∨ q + 179 ≤ p) {i : Nat} (hi : i < 48) : z_cpA m p q (p + 8) i = m (q + 8) i := by
  unfold z_cpA
  rw [z_cpR_n (by omega), z_cpR_s hi, z_cpR_n (by omega), z_cpR_n (by omega), z_cpR_n (by omega), z_cpR_n (by omega), z_cpR_n (by omega), z_cpR_n (by omega), z_cpR_n (by omega), z_up_row (by omega), z_up_row (by omega), z_up_row (by omega), z_up_row (by omega)]
theorem z_cpA_9 (hpq : p + 179 ≤ q ∨ q + 179 ≤ p) {i : Nat} (hi : i < 24) : z_cpA m p q (p + 9) i = m (q + 9) i := by
  unfold z_cpA
  rw [z_cpR_s hi, z_cpR_n (by omega), z_cpR_n (by omega), z_cpR_n (by omega), z_cpR_n (by omega), z_cpR_n (by omega), z_cpR_n (by omega), z_cpR_n (by omega), z_cpR_n (by omega), z_up_row (by omega), z_up_row (by omega), z_up_row (by omega), z_up_row (by omega)]
/-- Program.copyFrom -/
theorem f70_sp (hp : z_PS S p) (hq : z_PS S q) (hpq : p + 179 ≤ q ∨ q + 179 ≤ p) (h : z_cp m q P) (hw : z_wf P) (hr : ∀ k, k < 24 → m (z_bi p k) 6 = nI 60) : ∃ m', f70 p q (z_hp S m) = some ((), z_hp S m') ∧ z_cp m' p P ∧ m' p 14 = 0 ∧ ∀ a, (a < p ∨ p + 179 ≤ a) → m' a = m a := by
  have h24 := hw.2.2.1
  have h6 := hw.1.1
  obtain ⟨⟨c1, c2⟩, ⟨d1, d2, d3⟩, e1, e2⟩ := h
  have hcc : z_cc (z_cpA m p q) p P := by
    refine ⟨by rw [z_cpA_f4.1]; exact c1, fun c hc => ?_⟩
    rw [z_cpA_1 hpq (show c < 6 by omega), z_cpA_2 hpq (show c < 6 by omega)]
    refine ⟨(c2 c hc).1, (c2 c hc).2.1, fun n hn => ?_⟩
    rw [z_cpA_3 hpq (show c * 16 + n < 96 by omega)]
    exact (c2 c hc).2.2 n hn
  have hcm : z_cm (z_cpA m p q) p P := by
    refine ⟨by rw [z_cpA_f4.2.1]; exact d1, by rw [z_cpA_f4.2.2.1]; exact d2, fun k hk hl => ?_⟩
    obtain ⟨g1, g2, g3, g4, g5, g6⟩ := d3 k hk hl
    have hn := (hw.2.2.2.1 k hk).2.2.2.1.1
    refine ⟨?_, ?_, ?_, ?_, fun j hj => ?_, fun j hj => ?_⟩
    · rw [z_cpA_4 hpq (show k < 24 by omega)]; exact g1
    · rw [z_cpA_5 hpq (show k < 24 by omega)]; exact g2
    · rw [z_cpA_6 hpq (show k < 24 by omega)]; exact g3
    · rw [z_cpA_9 hpq (show k < 24 by omega)]; exact g4
    · rw [z_cpA_7 hpq (show k * 2 + j < 48 by omega)]; exact g5 j hj
    · rw [z_cpA_8 hpq (show k * 2 + j < 48 by omega)]; exact g6 j hj
  have start : f70 p q (z_hp S m) = f70_166 p q 0 (z_hp S (z_cpA m p q)) := by
    have a1 : z_up m p 10 (m q 10) q 11 = m q 11 := z_up_a (by omega)
    have a2 : z_up (z_up m p 10 (m q 10)) p 11 (m q 11) q 12 = m q 12 := by rw [z_up_a (by omega), z_up_a (by omega)]
    unfold f70 z_cpA
    simp (disch := ((try simp only [true_or, or_true, hp.k, hp.k1, hp.k2, hp.k3, hp.k4, hp.k5, hp.k6, hp.k7, hp.k8, hp.k9, hp.k10, hp.l1, hp.l2, hp.l3, hp.l4, hp.l5, hp.l6, hp.l7, hp.l8, hp.l9, hp.l10, hq.k, hq.k1, hq.k2, hq.k3, hq.k4, hq.k5, hq.k6, hq.k7, hq.k8, hq.k9, hq.k10, hq.l1, hq.l2, hq.l3, hq.l4, hq.l5, hq.l6, hq.l7, hq.l8, hq.l9, hq.l10, or_true]) <;> (try omega))) only [↓reduceIte, ↓z_ite, ↓zR, ↓zB_R, ↓zB_B, ↓zB_ite, ↓zB_gI, ↓zB_pI, ↓zB_pZ, ↓zB_aK, ↓zB_G, ↓zB_lI, ↓zB_lZ, ↓zB_wI, ↓zB_wZ, ↓zB_lIl, ↓zB_wIl, zB_pI, zB_pZ, zB_lI, zB_lZ, zB_wI, zB_wZ, z_addl, z_ladd, z_mull, z_lmul, nI_add, z_subl, Nat.not_lt_zero, z_10, z_01, z_bitc, z_b0, z_b1, ↓zB_Gb, ↓zB_G0, ↓zB_G1, z_eql, z_leq, z_ltl, z_llt, z_eq, z_lt, z_m1lt, hp.k, hp.k1, hp.k2, hp.k3, hp.k4, hp.k5, hp.k6, hp.k7, hp.k8, hp.k9, hp.k10, hp.l1, hp.l2, hp.l3, hp.l4, hp.l5, hp.l6, hp.l7, hp.l8, hp.l9, hp.l10, hq.k, hq.k1, hq.k2, hq.k3, hq.k4, hq.k5, hq.k6, hq.k7, hq.k8, hq.k9, hq.k10, hq.l1, hq.l2, hq.l3, hq.l4, hq.l5, hq.l6, hq.l7, hq.l8, hq.l9, hq.l10, or_true, ↓hp.g0, ↓hp.g1, ↓hp.g2, ↓hp.g3, ↓hp.g4, ↓hp.g5, ↓hp.g6, ↓hp.g7, ↓hp.g8, ↓hp.g9, ↓hp.gb, hp.gb, ↓hq.g0, ↓hq.g1, ↓hq.g2, ↓hq.g3, ↓hq.g4, ↓hq.g5, ↓hq.g6, ↓hq.g7, ↓hq.g8, ↓hq.g9, ↓hq.gb, hq.gb, a1, a2, ↓zB_cp1 hp hq, ↓zB_cp2 hp hq, ↓zB_cp3 hp hq, ↓zB_cp4 hp hq, ↓zB_cp5 hp hq, ↓zB_cp6 hp hq, ↓zB_cp7 hp hq, ↓zB_cp8 hp hq, ↓zB_cp9 hp hq]
  rw [start]
  unfold f70_166
  have key := z_loopI (f := fun s => f70_166b (s.1) (s.2.1) (s.2.2)) (S := S) (fun n s m' => ∃ k, n = z_nm P - k ∧ k ≤ z_nm P ∧ s = (p, q, nI k) ∧ (∀ a, a < p + 10 ∨ p + 179 ≤ a → m' a = z_cpA m p q a) ∧ (∀ j, j < 24 → m' (z_bi p j) 6 = nI 60) ∧ (∀ j, j < k → z_liv P j = true → z_cb m' (z_bi p j) 60 (z_bd P j))) (fun _ m' => (∀ a, a < p + 10 ∨ p + 179 ≤ a → m' a = z_cpA m p q a) ∧ (∀ j, j < 24 → m' (z_bi p j) 6 = nI 60) ∧ (∀ j, j < z_nm P → z_liv P j = true → z_cb m' (z_bi p j) 60 (z_bd P j))) ?_ 1000000 (z_nm P) (p, q, 0) (z_cpA m p q) ⟨0, rfl, Nat.zero_le _, rfl, fun _ _ => rfl, fun j hj => ?_, fun j hj => by omega⟩ (by omega)
  · obtain ⟨r, m', e, g1, g2, g3⟩ := key
    refine ⟨m', e, ?_, ?_, fun a ha => ?_⟩
    · obtain ⟨x1, x2⟩ := hcc
      obtain ⟨y1, y2, y3⟩ := hcm
      have r0 : ∀ a, p ≤ a → a ≤ p + 9 → m' a = z_cpA m p q a := fun a _ h2 => g1 a (by omega)
      refine ⟨⟨?_, ?_⟩, ⟨?_, ?_, ?_⟩, g2, g3⟩
      · rw [r0 p (by omega) (by omega)]; exact x1
      · intro c hc
        rw [r0 (p + 1) (by omega) (by omega), r0 (p + 2) (by omega) (by omega), r0 (p + 3) (by omega) (by omega)]
        exact x2 c hc
      · rw [r0 p (by omega) (by omega)]; exact y1
      · rw [r0 p (by omega) (by omega)]; exact y2
      · intro k hk hl
        unfold z_ch
        rw [r0 (p + 4) (by omega) (by omega), r0 (p + 5) (by omega) (by omega), r0 (p + 6) (by omega) (by omega), r0 (p + 7) (by omega) (by omega), r0 (p + 8) (by omega) (by omega), r0 (p + 9) (by omega) (by omega)]
        exact y3 k hk hl
    · rw [g1 p (by omega)]; exact z_cpA_f4.2.2.2
    · rw [g1 a (by omega)]; exact z_cpA_o (by omega)
  · rintro n s m' ⟨k, rfl, hk, rfl, g1, g2, g3⟩
    have m11 : m' p 11 = nI (z_nm P) := by rw [g1 p (by omega), z_cpA_f4.2.1]; exact d1
    have m12 : z_bit (m' p 12) k = (decide (k < z_nm P) && z_liv P k) := by rw [g1 p (by omega), z_cpA_f4.2.2.1]; exact d2 k (by omega)
    dsimp only
    rcases Nat.eq_or_lt_of_le hk with hk2 | hk2
    · refine Or.inr ⟨(), m', ?_, g1, g2, fun j hj hl => g3 j (by omega) hl⟩
      unfold f70_166b f70_204
      rw [hk2] at *
      simp (disch := ((try simp only [true_or, or_true, hp.k, hp.k1, hp.k2, hp.k3, hp.k4, hp.k5, hp.k6, hp.k7, hp.k8, hp.k9, hp.k10, hp.l1, hp.l2, hp.l3, hp.l4, hp.l5, hp.l6, hp.l7, hp.l8, hp.l9, hp.l10, hq.k, hq.k1, hq.k2, hq.k3, hq.k4, hq.k5, hq.k6, hq.k7, hq.k8, hq.k9, hq.k10, hq.l1, hq.l2, hq.l3, hq.l4, hq.l5, hq.l6, hq.l7, hq.l8, hq.l9, hq.l10]) <;> (try omega))) only [↓reduceIte, ↓z_ite, ↓zR, ↓zB_R, ↓zB_B, ↓zB_ite, ↓zB_gI, ↓zB_pI, ↓zB_pZ, ↓zB_aK, ↓zB_G, ↓zB_lI, ↓zB_lZ, ↓zB_wI, ↓zB_wZ, ↓zB_lIl, ↓zB_wIl, zB_pI, zB_pZ, zB_lI, zB_lZ, zB_wI, zB_wZ, z_addl, z_ladd, z_mull, z_lmul, nI_add, z_subl, Nat.not_lt_zero, z_10, z_01, z_bitc, z_b0, z_b1, ↓zB_Gb, ↓zB_G0, ↓zB_G1, z_eql, z_leq, z_ltl, z_llt, z_eq, z_lt, z_m1lt, hp.k, hp.k1, hp.k2, hp.k3, hp.k4, hp.k5, hp.k6, hp.k7, hp.k8, hp.k9, hp.k10, hp.l1, hp.l2, hp.l3, hp.l4, hp.l5, hp.l6, hp.l7, hp.l8, hp.l9, hp.l10, hq.k, hq.k1, hq.k2, hq.k3, hq.k4, hq.k5, hq.k6, hq.k7, hq.k8, hq.k9, hq.k10, hq.l1, hq.l2, hq.l3, hq.l4, hq.l5, hq.l6, hq.l7, hq.l8, hq.l9, hq.l10, ↓hp.g0, ↓hp.g1, ↓hp.g2, ↓hp.g3, ↓hp.g4, ↓hp.g5, ↓hp.g6, ↓hp.g7, ↓hp.g8, ↓hp.g9, ↓hp.gb, hp.gb, ↓hq.g0, ↓hq.g1, ↓hq.g2, ↓hq.g3, ↓hq.g4, ↓hq.g5, ↓hq.g6, ↓hq.g7, ↓hq.g8, ↓hq.g9, ↓hq.gb, hq.gb, m11, Nat.lt_irrefl]
    · have e79 : f79 p (nI k) (z_hp S m') = some (z_b (z_liv P k), z_hp S m') := by
        unfold f79 f79_17
        rw [show decide (k < z_nm P) = true by simp [hk2], Bool.true_and] at m12
        simp (disch := ((try simp only [true_or, or_true, hp.k, hp.k1, hp.k2, hp.k3, hp.k4, hp.k5, hp.k6, hp.k7, hp.k8, hp.k9, hp.k10, hp.l1, hp.l2, hp.l3, hp.l4, hp.l5, hp.l6, hp.l7, hp.l8, hp.l9, hp.l10]) <;> (try omega))) only [↓reduceIte, ↓z_ite, ↓zR, ↓zB_R, ↓zB_B, ↓zB_ite, ↓zB_gI, ↓zB_pI, ↓zB_pZ, ↓zB_aK, ↓zB_G, ↓zB_lI, ↓zB_lZ, ↓zB_wI, ↓zB_wZ, ↓zB_lIl, ↓zB_wIl, zB_pI, zB_pZ, zB_lI, zB_lZ, zB_wI, zB_wZ, z_addl, z_ladd, z_mull, z_lmul, nI_add, z_subl, Nat.not_lt_zero, z_10, z_01, z_bitc, z_b0, z_b1, ↓zB_Gb, ↓zB_G0, ↓zB_G1, z_eql, z_leq, z_ltl, z_llt, z_eq, z_lt, z_m1lt, hp.k, hp.k1, hp.k2, hp.k3, hp.k4, hp.k5, hp.k6, hp.k7, hp.k8, hp.k9, hp.k10, hp.l1, hp.l2, hp.l3, hp.l4, hp.l5, hp.l6, hp.l7, hp.l8, hp.l9, hp.l10, ↓hp.g0, ↓hp.g1, ↓hp.g2, ↓hp.g3, ↓hp.g4, ↓hp.g5, ↓hp.g6, ↓hp.g7, ↓hp.g8, ↓hp.g9, ↓hp.gb, hp.gb, m12]
        exact z_ifb
      cases hl : z_liv P k with
      | false =>
        refine Or.inl ⟨_, m', z_nm P - (k + 1), ?_, by omega, k + 1, rfl, hk2, rfl, g1, g2, fun j hj hjl => ?_⟩
        · unfold f70_166b f70_198
          simp (disch := ((try simp only [true_or, or_true, hp.k, hp.k1, hp.k2, hp.k3, hp.k4, hp.k5, hp.k6, hp.k7, hp.k8, hp.k9, hp.k10, hp.l1, hp.l2, hp.l3, hp.l4, hp.l5, hp.l6, hp.l7, hp.l8, hp.l9, hp.l10, hq.k, hq.k1, hq.k2, hq.k3, hq.k4, hq.k5, hq.k6, hq.k7, hq.k8, hq.k9, hq.k10, hq.l1, hq.l2, hq.l3, hq.l4, hq.l5, hq.l6, hq.l7, hq.l8, hq.l9, hq.l10]) <;> (try omega))) only [↓reduceIte, ↓z_ite, ↓zR, ↓zB_R, ↓zB_B, ↓zB_ite, ↓zB_gI, ↓zB_pI, ↓zB_pZ, ↓zB_aK, ↓zB_G, ↓zB_lI, ↓zB_lZ, ↓zB_wI, ↓zB_wZ, ↓zB_lIl, ↓zB_wIl, zB_pI, zB_pZ, zB_lI, zB_lZ, zB_wI, zB_wZ, z_addl, z_ladd, z_mull, z_lmul, nI_add, z_subl, Nat.not_lt_zero, z_10, z_01, z_bitc, z_b0, z_b1, ↓zB_Gb, ↓zB_G0, ↓zB_G1, z_eql, z_leq, z_ltl, z_llt, z_eq, z_lt, z_m1lt, hp.k, hp.k1, hp.k2, hp.k3, hp.k4, hp.k5, hp.k6, hp.k7, hp.k8, hp.k9, hp.k10, hp.l1, hp.l2, hp.l3, hp.l4, hp.l5, hp.l6, hp.l7, hp.l8, hp.l9, hp.l10, hq.k, hq.k1, hq.k2, hq.k3, hq.k4, hq.k5, hq.k6, hq.k7, hq.k8, hq.k9, hq.k10, hq.l1, hq.l2, hq.l3, hq.l4, hq.l5, hq.l6, hq.l7, hq.l8, hq.l9, hq.l10, ↓hp.g0, ↓hp.g1, ↓hp.g2, ↓hp.g3, ↓hp.g4, ↓hp.g5, ↓hp.g6, ↓hp.g7, ↓hp.g8, ↓hp.g9, ↓hp.gb, hp.gb, ↓hq.g0, ↓hq.g1, ↓hq.g2, ↓hq.g3, ↓hq.g4, ↓hq.g5, ↓hq.g6, ↓hq.g7, ↓hq.g8, ↓hq.g9, ↓hq.gb, hq.gb, m11, hk2, ↓zB_c e79, zB_c e79, hl]
        · rcases Nat.lt_succ_iff_lt_or_eq.mp hj with h1 | h1
          · exact g3 j h1 hjl
          · rw [h1, hl] at hjl; cases hjl
      | true =>
        have hcb : z_cb m' (z_bi q k) 60 (z_bd P k) := z_cb_fr (fun a x1 x2 => by unfold z_bi at x1 x2; rw [g1 a (by omega), z_cpA_o (by omega)]) (e2 k hk2 hl)
        obtain ⟨m2, e, h1, h2, h3⟩ := f7_y (hp.B (k := k) (by omega)) (g2 k (by omega)) (by decide) (show z_bb (z_bi p k) (z_bi q k) by unfold z_bb z_bi; omega) hcb (hq.B (k := k) (by omega)) hcb.2.2.1
        refine Or.inl ⟨_, m2, z_nm P - (k + 1), ?_, by omega, k + 1, rfl, hk2, rfl, fun a ha => ?_, fun j hj => ?_, fun j hj hjl => ?_⟩
        · have hbk := (hp.B (k := k) (by omega)).k
          unfold f70_166b f70_198
          simp (disch := ((try simp only [true_or, or_true, hp.k, hp.k1, hp.k2, hp.k3, hp.k4, hp.k5, hp.k6, hp.k7, hp.k8, hp.k9, hp.k10, hp.l1, hp.l2, hp.l3, hp.l4, hp.l5, hp.l6, hp.l7, hp.l8, hp.l9, hp.l10, hq.k, hq.k1, hq.k2, hq.k3, hq.k4, hq.k5, hq.k6, hq.k7, hq.k8, hq.k9, hq.k10, hq.l1, hq.l2, hq.l3, hq.l4, hq.l5, hq.l6, hq.l7, hq.l8, hq.l9, hq.l10, hbk]) <;> (try omega))) only [↓reduceIte, ↓z_ite, ↓zR, ↓zB_R, ↓zB_B, ↓zB_ite, ↓zB_gI, ↓zB_pI, ↓zB_pZ, ↓zB_aK, ↓zB_G, ↓zB_lI, ↓zB_lZ, ↓zB_wI, ↓zB_wZ, ↓zB_lIl, ↓zB_wIl, zB_pI, zB_pZ, zB_lI, zB_lZ, zB_wI, zB_wZ, z_addl, z_ladd, z_mull, z_lmul, nI_add, z_subl, Nat.not_lt_zero, z_10, z_01, z_bitc, z_b0, z_b1, ↓zB_Gb, ↓zB_G0, ↓zB_G1, z_eql, z_leq, z_ltl, z_llt, z_eq, z_lt, z_m1lt, hp.k, hp.k1, hp.k2, hp.k3, hp.k4, hp.k5, hp.k6, hp.k7, hp.k8, hp.k9, hp.k10, hp.l1, hp.l2, hp.l3, hp.l4, hp.l5, hp.l6, hp.l7, hp.l8, hp.l9, hp.l10, hq.k, hq.k1, hq.k2, hq.k3, hq.k4, hq.k5, hq.k6, hq.k7, hq.k8, hq.k9, hq.k10, hq.l1, hq.l2, hq.l3, hq.l4, hq.l5, hq.l6, hq.l7, hq.l8, hq.l9, hq.l10, hbk, ↓hp.g0, ↓hp.g1, ↓hp.g2, ↓hp.g3, ↓hp.g4, ↓hp.g5, ↓hp.g6, ↓hp.g7, ↓hp.g8, ↓hp.g9, ↓hp.gb, hp.gb, ↓hq.g0, ↓hq.g1, ↓hq.g2, ↓hq.g3, ↓hq.g4, ↓hq.g5, ↓hq.g6, ↓hq.g7, ↓hq.g8, ↓hq.g9, ↓hq.gb, hq.gb, m11, hk2, ↓zB_c e79, zB_c e79, hl, ↓zB_c e, zB_c e, Bool.true_eq_false]
        · rw [h2 a (by unfold z_bi; omega) (by unfold z_bi; omega) (by unfold z_bi; omega) (by unfold z_bi; omega)]; exact g1 a ha
        · by_cases g : j = k
          · rw [g, h3 6 (by decide)]; exact g2 k (by omega)
          · rw [h2 _ (by unfold z_bi; omega) (by unfold z_bi; omega) (by unfold z_bi; omega) (by unfold z_bi; omega)]; exact g2 j hj
        · rcases Nat.lt_succ_iff_lt_or_eq.mp hj with x1 | x1
          · exact z_cb_bF (show z_bb (z_bi p k) (z_bi p j) by unfold z_bb z_bi; omega) ⟨h2, h3⟩ (g3 j x1 hjl)
          · rw [x1]; exact h1
  · rw [z_cpA_o (by unfold z_bi; omega)]; exact hr j hj
end
