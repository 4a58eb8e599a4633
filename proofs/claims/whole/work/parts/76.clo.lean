/-! what is reached in steps -/
def z_c1 (n : Nat) (R : Nat → Nat → Bool) (s : Nat → Bool) : Nat → Bool := fun j => s j || (decide (j < n) && z_any (fun i => s i && R i j) n)
def z_ci (n : Nat) (R : Nat → Nat → Bool) (s0 : Nat → Bool) : Nat → (Nat → Bool)
  | 0 => s0
  | r + 1 => z_c1 n R (z_ci n R s0 r)
def z_clo (n : Nat) (R : Nat → Nat → Bool) (s0 : Nat → Bool) : Nat → Bool := z_ci n R s0 n
/-- closed under the steps -/
def z_cls (n : Nat) (R : Nat → Nat → Bool) (D : Nat → Bool) : Prop := ∀ i j, i < n → j < n → D i = true → R i j = true → D j = true
/-- how many below n -/
def z_ct (s : Nat → Bool) : Nat → Nat
  | 0 => 0
  | n + 1 => z_ct s n + (if s n = true then 1 else 0)
section
variable {n : Nat} {R : Nat → Nat → Bool} {s0 s s' D : Nat → Bool}
theorem z_c1_t {j : Nat} : z_c1 n R s j = true ↔ s j = true ∨ (j < n ∧ ∃ i, i < n ∧ s i = true ∧ R i j = true) := by
  unfold z_c1
  simp only [Bool.or_eq_true, Bool.and_eq_true, decide_eq_true_eq, z_any_iff]
theorem z_ct_le : ∀ m, z_ct s m ≤ m
  | 0 => Nat.le_refl _
  | m + 1 => by have := z_ct_le m; unfold z_ct; split <;> omega
theorem z_ct_mono (h : ∀ j, s j = true → s' j = true) : ∀ m, z_ct s m ≤ z_ct s' m
  | 0 => Nat.le_refl _
  | m + 1 => by
    have := z_ct_mono h m
    unfold z_ct
    by_cases g : s m = true
    · rw [if_pos g, if_pos (h m g)]; omega
    · rw [if_neg g]; omega
theorem z_ct_lt (h : ∀ j, s j = true → s' j = true) {i : Nat} (h1 : ¬ s i = true) (h2 : s' i = true) : ∀ {m}, i < m → z_ct s m < z_ct s' m
  | 0, hm => by omega
  | m + 1, hm => by
    unfold z_ct
    rcases Nat.lt_succ_iff_lt_or_eq.mp hm with g | g
    · have := z_ct_lt h h1 h2 g
      by_cases g2 : s m = true
      · rw [if_pos g2, if_pos (h m g2)]; omega
      · rw [if_neg g2]; omega
    · have := z_ct_mono h m
      rw [← g, if_neg h1, if_pos h2] at *; omega
theorem z_ct_full (h : ∀ m', m' ≤ n → z_ct s m' = m' → True) : z_ct s n = n → ∀ j, j < n → s j = true := by
  clear h
  induction n with
  | zero => intro _ j hj; omega
  | succ n ih =>
    intro h j hj
    unfold z_ct at h
    have := z_ct_le (s := s) n
    by_cases g : s n = true
    · rw [if_pos g] at h
      rcases Nat.lt_succ_iff_lt_or_eq.mp hj with g2 | g2
      · exact ih (by omega) j g2
      · rw [g2]; exact g
    · rw [if_neg g] at h; omega
theorem z_ci_mono (r : Nat) : ∀ j, z_ci n R s0 r j = true → z_ci n R s0 (r + 1) j = true := fun _ h => z_c1_t.mpr (Or.inl h)
theorem z_cls_1 (h : z_cls n R s) : z_c1 n R s = s := by
  funext j
  cases hs : s j with
  | true => exact z_c1_t.mpr (Or.inl hs)
  | false =>
    cases hc : z_c1 n R s j with
    | false => rfl
    | true =>
      rcases z_c1_t.mp hc with h1 | ⟨h1, i, h2, h3, h4⟩
      · rw [hs] at h1; cases h1
      · have := h i j h2 h1 h3 h4
        rw [hs] at this; cases this
theorem z_cls_2 (h : ∀ j, j < n → z_c1 n R s j = s j) : z_cls n R s := fun i j hi hj h1 h2 => by
  rw [← h j hj]; exact z_c1_t.mpr (Or.inr ⟨hj, i, hi, h1, h2⟩)
theorem z_ci_stay (r : Nat) (h : z_cls n R (z_ci n R s0 r)) : ∀ q, z_ci n R s0 (r + q) = z_ci n R s0 r
  | 0 => rfl
  | q + 1 => by
    show z_c1 n R (z_ci n R s0 (r + q)) = _
    rw [z_ci_stay r h q]; exact z_cls_1 h
theorem z_ci_grow : ∀ r, r ≤ n → z_cls n R (z_ci n R s0 r) ∨ r < z_ct (z_ci n R s0 (r + 1)) n := by
  intro r hr
  by_cases hc : z_cls n R (z_ci n R s0 r)
  · exact Or.inl hc
  · right
    have hne : ∃ j, j < n ∧ ¬ z_ci n R s0 r j = true ∧ z_ci n R s0 (r + 1) j = true := by
      refine Classical.byContradiction (fun g => hc (z_cls_2 (fun j hj => ?_)))
      cases h1 : z_ci n R s0 r j with
      | true => exact z_ci_mono r j h1
      | false =>
        cases h2 : z_c1 n R (z_ci n R s0 r) j with
        | false => rfl
        | true => exact absurd ⟨j, hj, by rw [h1]; exact Bool.noConfusion, h2⟩ g
    obtain ⟨j, hj, h1, h2⟩ := hne
    have hlt := z_ct_lt (z_ci_mono (n := n) (R := R) (s0 := s0) r) h1 h2 hj
    cases r with
    | zero => omega
    | succ r =>
      rcases z_ci_grow r (by omega) with h3 | h3
      · exfalso
        have := z_ci_stay r h3 1
        rw [this] at hc; exact hc h3
      · omega
/-- it is closed -/
theorem z_clo_c : z_cls n R (z_clo n R s0) := by
  rcases z_ci_grow (n := n) (R := R) (s0 := s0) n (Nat.le_refl _) with h | h
  · exact h
  · have := z_ct_le (s := z_ci n R s0 (n + 1)) n
    omega
theorem z_clo_0 {j : Nat} (h : s0 j = true) : z_clo n R s0 j = true := by
  unfold z_clo
  have : ∀ r, z_ci n R s0 r j = true := by
    intro r
    induction r with
    | zero => exact h
    | succ r ih => exact z_ci_mono r j ih
  exact this n
/-- and the least such -/
theorem z_ci_min (h0 : ∀ j, s0 j = true → D j = true) (hD : z_cls n R D) : ∀ r j, z_ci n R s0 r j = true → D j = true := by
  intro r
  induction r with
  | zero => exact h0
  | succ r ih =>
    intro j hj
    rcases z_c1_t.mp hj with h1 | ⟨h1, i, h2, h3, h4⟩
    · exact ih j h1
    · exact hD i j h2 h1 (ih i h3) h4
theorem z_clo_min (h0 : ∀ j, s0 j = true → D j = true) (hD : z_cls n R D) {j : Nat} (h : z_clo n R s0 j = true) : D j = true := z_ci_min h0 hD n j h
/-- a set between that is closed is it -/
theorem z_clo_eq (h0 : ∀ j, s0 j = true → D j = true) (hD : z_cls n R D) (h : ∀ j, D j = true → z_clo n R s0 j = true) : D = z_clo n R s0 := by
  funext j
  cases h1 : D j with
  | true => exact (h j h1).symm
  | false =>
    cases h2 : z_clo n R s0 j with
    | false => rfl
    | true => rw [z_clo_min h0 hD h2] at h1; cases h1
theorem z_ci_clo (r : Nat) {j : Nat} (h : z_ci n R s0 r j = true) : z_clo n R s0 j = true := z_ci_min (fun _ h => z_clo_0 h) z_clo_c r j h
end
/-! families, and what calls reach -/
def z_famR (P : z_Pg) (k : Nat) (i j : Nat) : Bool := z_isc P j (z_hd P k 2) (z_hd P k 3) && z_akin P (z_own P j) (z_own P i)
def z_fam (P : z_Pg) (k : Nat) : Nat → Bool := z_clo (z_nm P) (z_famR P k) (fun j => j == k)
/-- the callee of a CALL -/
noncomputable def z_ce1 (P : z_Pg) (i q : Nat) : Nat := z_cq (z_bs P i (z_bd P i) (z_T P i (z_bd P i))) q
noncomputable def z_cal (P : z_Pg) (i j : Nat) : Bool := z_any (fun q => z_k (z_bd P i) q == 7 && (j == z_ce1 P i q || (z_ov P j (z_ce1 P i q) && z_blw P (z_own P j) (z_T P i (z_bd P i) (q + 1)).toNatClampNeg))) (z_bd P i).length
noncomputable def z_rch (P : z_Pg) (k : Nat) : Nat → Bool := z_clo (z_nm P) (z_cal P) (z_cal P k)
/-- a bit mask for a set of methods -/
def z_msk (F : Int32) (n : Nat) (s : Nat → Bool) : Prop := ∀ j, j < 32 → z_bit F j = (decide (j < n) && s j)
