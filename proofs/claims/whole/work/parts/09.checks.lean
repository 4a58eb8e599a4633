/-! each row of our code tables keeps what q_lok asks; the calls' frames and locals fit -/
def q_has (L : List (Nat × Nat × Nat × Nat)) (r : Nat × Nat × Nat × Nat) : Bool := L.any fun x => Nat.beq x.1 r.1 && (Nat.beq x.2.1 r.2.1 && (Nat.beq x.2.2.1 r.2.2.1 && Nat.beq x.2.2.2 r.2.2.2))
theorem q_has_mem {L : List (Nat × Nat × Nat × Nat)} {r : Nat × Nat × Nat × Nat} (h : q_has L r = true) : r ∈ L := by
  obtain ⟨x, hx, h2⟩ := List.any_eq_true.mp h
  simp only [Bool.and_eq_true, Nat.beq_eq] at h2
  obtain ⟨a, b, c, d⟩ := x
  obtain ⟨a', b', c', d'⟩ := r
  obtain ⟨rfl, rfl, rfl, rfl⟩ := h2
  exact hx
def q_fit (a fr lo : Nat) : Bool := decide ((q_mr a).2.2.2.2.2.2.1 + 1 ≤ fr ∧ 8 + ((q_mr a).2.2.2.1 + 11) + (q_mr a).2.2.2.2.2.2.2 ≤ lo ∧ a < 340)
/-- a callee is of the kind that its instruction calls -/
def q_knd (k a : Nat) : Bool := if k = 3 then !(q_mr a).2.1 && (!(q_mr a).2.2.1 && ((q_hs a).isEmpty && decide ((q_mr a).1 < 13))) else if k = 4 then (q_mr a).2.1 else if k = 40 then (q_mr a).2.1 && (q_hs a).isEmpty else (q_mr a).2.2.1 && (!(q_mr a).2.1 && ((q_hs a).isEmpty && Nat.beq (q_mr a).2.2.2.2.1 0))
def q_lkb (nL own fr lo : Nat) (e : q_I) : Bool := match e with
  | (pc, i, len, a, b) => match i with
    | .bipush _ => decide (len = 2)
    | .sipush _ => decide (len = 3)
    | .ldc cp => decide (len = 2) && (decide (b ≠ 0) || q_has (q_LK own) (cp, 8, a, 0))
    | .ldc_w cp => decide (len = 3) && (decide (b ≠ 0) || q_has (q_LK own) (cp, 8, a, 0))
    | .iload _ => decide (len = 2)
    | .aload _ => decide (len = 2)
    | .istore k => decide (len = 2 ∧ k < nL)
    | .astore k => decide (len = 2 ∧ k < nL)
    | .istore_n k => decide (len = 1 ∧ k.val < nL)
    | .astore_n k => decide (len = 1 ∧ k.val < nL)
    | .iinc _ _ => decide (len = 3)
    | .goto off => decide (len = 3 ∧ (pc : Int) + off = (a : Int))
    | .ifCond _ off => decide (len = 3 ∧ (pc : Int) + off = (a : Int))
    | .if_icmp _ off => decide (len = 3 ∧ (pc : Int) + off = (a : Int))
    | .tableswitch d _ _ offs => decide (0 ≤ (pc : Int) + d) && offs.toList.all (fun off => decide (0 ≤ (pc : Int) + off))
    | .getfield cp => decide (len = 3 ∧ a < q_NF b) && q_has (q_LK own) (cp, 1, a, b)
    | .putfield cp => decide (len = 3 ∧ a < q_NF b) && q_has (q_LK own) (cp, 1, a, b)
    | .newarray _ => decide (len = 2)
    | .anewarray cp => decide (len = 3) && q_has (q_LK own) (cp, 7, a, b)
    | .new cp => decide (len = 3) && (decide (b ≠ 0) || q_has (q_LK own) (cp, 6, a, b))
    | .invokespecial cp => decide (len = 3 ∧ b ≠ 11 ∧ b ≠ 12 ∧ b ≠ 13) && (q_has (q_LK own) (cp, 5, a, b) && (decide (2 ≤ b) || (q_fit a fr lo && q_knd 5 a)))
    | .invokestatic cp => decide (len = 3 ∧ b ≠ 10) && (q_has (q_LK own) (cp, 4, a, b) && (decide (2 ≤ b) || (q_fit a fr lo && q_knd (if b = 0 then 4 else 40) a)))
    | .invokevirtual cp => decide (len = 3 ∧ b = 0) && (q_has (q_LK own) (cp, 3, a, b) && (decide (2 ≤ b) || (q_fit a fr lo && q_knd 3 a)))
    | _ => decide (len = 1)
theorem q_lki_of {own cp op a b : Nat} (h : q_has (q_LK own) (cp, op, a, b) = true) (ho : op = 3 ∨ op = 4 ∨ op = 5) : q_lki own cp a b := by
  have h1 := q_lro own _ (q_has_mem h)
  refine ⟨fun hb => ?_, fun hb => ?_, fun hb => ?_, fun hb => ?_, fun hb => ?_, fun hb => ?_⟩ <;> subst hb <;> rcases ho with rfl | rfl | rfl <;> exact h1 _ (List.mem_singleton.mpr rfl)
theorem q_fit_of {b a fr lo : Nat} {i : Instr} {g : Bool} (h : (decide (2 ≤ b) || (q_fit a fr lo && g)) = true) (hc : q_cal i b = true) : g = true ∧ (q_mr a).2.2.2.2.2.2.1 + 1 ≤ fr ∧ 8 + ((q_mr a).2.2.2.1 + 11) + (q_mr a).2.2.2.2.2.2.2 ≤ lo ∧ a < 340 := by
  have hb : b < 2 := by
    unfold q_cal at hc
    split at hc
    · exact of_decide_eq_true hc
    · exact of_decide_eq_true hc
    · exact of_decide_eq_true hc
    · cases hc
  rw [decide_eq_false (by omega), Bool.false_or, Bool.and_eq_true] at h
  exact ⟨h.2, of_decide_eq_true h.1⟩
def q_kin (i : Instr) (b : Nat) : Nat := match i with
  | .invokevirtual _ => 3
  | .invokestatic _ => if b = 0 then 4 else 40
  | _ => 5
/-- what a checked row gives -/
theorem q_lkb_ok {nL own fr lo pc len a b : Nat} {i : Instr} (h : q_lkb nL own fr lo (pc, i, len, a, b) = true) : q_lok nL own i len a b pc ∧ (q_cal i b = true → q_knd (q_kin i b) a = true ∧ (q_mr a).2.2.2.2.2.2.1 + 1 ≤ fr ∧ 8 + ((q_mr a).2.2.2.1 + 11) + (q_mr a).2.2.2.2.2.2.2 ≤ lo ∧ a < 340) ∧ (∀ cp, i = .invokevirtual cp → b = 0) := by
  cases i with
  | ldc cp =>
    simp only [q_lkb, Bool.and_eq_true, Bool.or_eq_true, decide_eq_true_eq] at h
    exact ⟨⟨h.1, fun hb => q_lro own _ (q_has_mem (h.2.resolve_left (fun g => g hb))) _ (List.mem_singleton.mpr rfl)⟩, (fun hc => by cases hc), (fun _ hc => by cases hc)⟩
  | ldc_w cp =>
    simp only [q_lkb, Bool.and_eq_true, Bool.or_eq_true, decide_eq_true_eq] at h
    exact ⟨⟨h.1, fun hb => q_lro own _ (q_has_mem (h.2.resolve_left (fun g => g hb))) _ (List.mem_singleton.mpr rfl)⟩, (fun hc => by cases hc), (fun _ hc => by cases hc)⟩
  | getfield cp =>
    simp only [q_lkb, Bool.and_eq_true, decide_eq_true_eq] at h
    exact ⟨⟨h.1.1, h.1.2, q_lro own _ (q_has_mem h.2) _ (List.mem_singleton.mpr rfl)⟩, (fun hc => by cases hc), (fun _ hc => by cases hc)⟩
  | putfield cp =>
    simp only [q_lkb, Bool.and_eq_true, decide_eq_true_eq] at h
    exact ⟨⟨h.1.1, h.1.2, q_lro own _ (q_has_mem h.2) _ (List.mem_singleton.mpr rfl)⟩, (fun hc => by cases hc), (fun _ hc => by cases hc)⟩
  | anewarray cp =>
    simp only [q_lkb, Bool.and_eq_true, decide_eq_true_eq] at h
    exact ⟨⟨h.1, q_lro own _ (q_has_mem h.2) _ (List.mem_singleton.mpr rfl)⟩, (fun hc => by cases hc), (fun _ hc => by cases hc)⟩
  | new cp =>
    simp only [q_lkb, Bool.and_eq_true, Bool.or_eq_true, decide_eq_true_eq] at h
    exact ⟨⟨h.1, fun hb => q_lro own _ (q_has_mem (h.2.resolve_left (fun g => g hb))) _ (List.mem_singleton.mpr rfl)⟩, (fun hc => by cases hc), (fun _ hc => by cases hc)⟩
  | tableswitch d lo9 hi offs =>
    simp only [q_lkb, Bool.and_eq_true, decide_eq_true_eq, List.all_eq_true] at h
    exact ⟨⟨h.1, h.2⟩, (fun hc => by cases hc), (fun _ hc => by cases hc)⟩
  | invokespecial cp =>
    simp only [q_lkb, Bool.and_eq_true, decide_eq_true_eq] at h
    exact ⟨⟨h.1.1, h.1.2.1, h.1.2.2.1, h.1.2.2.2, q_lki_of h.2.1 (Or.inr (Or.inr rfl))⟩, fun hc => q_fit_of (i := .invokespecial cp) h.2.2 hc, (fun _ hc => by cases hc)⟩
  | invokestatic cp =>
    simp only [q_lkb, Bool.and_eq_true, decide_eq_true_eq] at h
    exact ⟨⟨h.1.1, h.1.2, q_lki_of h.2.1 (Or.inr (Or.inl rfl))⟩, fun hc => q_fit_of (i := .invokestatic cp) h.2.2 hc, (fun _ hc => by cases hc)⟩
  | invokevirtual cp =>
    simp only [q_lkb, Bool.and_eq_true, decide_eq_true_eq] at h
    exact ⟨⟨h.1.1, q_lki_of h.2.1 (Or.inl rfl)⟩, fun hc => q_fit_of (i := .invokevirtual cp) h.2.2 hc, fun _ _ => h.1.2⟩
  | _ => exact ⟨by simpa [q_lkb, q_lok] using h, (fun hc => by cases hc), (fun _ hc => by cases hc)⟩
/-- many facts side by side -/
def q_conj (P : Nat → Prop) : Nat → Nat → Prop
  | _, 0 => True
  | k, n + 1 => P k ∧ q_conj P (k + 1) n
theorem q_conj_at {P : Nat → Prop} : ∀ (n k y : Nat), q_conj P k n → k ≤ y → y < k + n → P y
  | 0, k, y, _, h1, h2 => by omega
  | n + 1, k, y, ⟨h, hr⟩, h1, h2 => by
    by_cases hy : y = k
    · rw [hy]; exact h
    · exact q_conj_at n (k + 1) y hr (by omega) (by omega)
theorem q_conj_app {P : Nat → Prop} : ∀ (n k m : Nat), q_conj P k n → q_conj P (k + n) m → q_conj P k (n + m)
  | 0, k, m, _, h => by rw [Nat.zero_add]; exact h
  | n + 1, k, m, ⟨h, hr⟩, h2 => by
    rw [show n + 1 + m = (n + m) + 1 by omega]
    exact ⟨h, q_conj_app n (k + 1) m hr (by rw [show k + 1 + n = k + (n + 1) by omega]; exact h2)⟩

def q_kok (y : Nat) : Bool := (q_cs.getD y []).all (q_lkb (q_mr y).2.2.2.1 (q_mr y).1 (q_mr y).2.2.2.2.2.2.1 (q_mr y).2.2.2.2.2.2.2)
theorem q_kok_0 : ∀ y, y < 20 → q_kok (y + 0) = true := by decide +kernel
theorem q_kok_20 : ∀ y, y < 20 → q_kok (y + 20) = true := by decide +kernel
theorem q_kok_40 : ∀ y, y < 20 → q_kok (y + 40) = true := by decide +kernel
theorem q_kok_60 : ∀ y, y < 20 → q_kok (y + 60) = true := by decide +kernel
theorem q_kok_80 : ∀ y, y < 20 → q_kok (y + 80) = true := by decide +kernel
theorem q_kok_100 : ∀ y, y < 20 → q_kok (y + 100) = true := by decide +kernel
theorem q_kok_120 : ∀ y, y < 20 → q_kok (y + 120) = true := by decide +kernel
theorem q_kok_140 : ∀ y, y < 20 → q_kok (y + 140) = true := by decide +kernel
theorem q_kok_160 : ∀ y, y < 20 → q_kok (y + 160) = true := by decide +kernel
theorem q_kok_180 : ∀ y, y < 20 → q_kok (y + 180) = true := by decide +kernel
theorem q_kok_200 : ∀ y, y < 20 → q_kok (y + 200) = true := by decide +kernel
theorem q_kok_220 : ∀ y, y < 20 → q_kok (y + 220) = true := by decide +kernel
theorem q_kok_240 : ∀ y, y < 20 → q_kok (y + 240) = true := by decide +kernel
theorem q_kok_260 : ∀ y, y < 20 → q_kok (y + 260) = true := by decide +kernel
theorem q_kok_280 : ∀ y, y < 20 → q_kok (y + 280) = true := by decide +kernel
theorem q_kok_300 : ∀ y, y < 20 → q_kok (y + 300) = true := by decide +kernel
theorem q_kok_320 : ∀ y, y < 20 → q_kok (y + 320) = true := by decide +kernel
theorem q_kok_340 : ∀ y, y < 1 → q_kok (y + 340) = true := by decide +kernel
theorem q_koks : ∀ y, y < 341 → q_kok y = true := by
  intro y hy
  have key : ∀ k n : Nat, (∀ y, y < n → q_kok (y + k) = true) → k ≤ y → y < k + n → q_kok y = true := fun k n h h1 h2 => by
    have := h (y - k) (by omega)
    rwa [Nat.sub_add_cancel h1] at this
  rcases Nat.lt_or_ge y 20 with h0 | h0
  · exact key 0 20 q_kok_0 (by omega) (by omega)
  rcases Nat.lt_or_ge y 40 with h20 | h20
  · exact key 20 20 q_kok_20 (by omega) (by omega)
  rcases Nat.lt_or_ge y 60 with h40 | h40
  · exact key 40 20 q_kok_40 (by omega) (by omega)
  rcases Nat.lt_or_ge y 80 with h60 | h60
  · exact key 60 20 q_kok_60 (by omega) (by omega)
  rcases Nat.lt_or_ge y 100 with h80 | h80
  · exact key 80 20 q_kok_80 (by omega) (by omega)
  rcases Nat.lt_or_ge y 120 with h100 | h100
  · exact key 100 20 q_kok_100 (by omega) (by omega)
  rcases Nat.lt_or_ge y 140 with h120 | h120
  · exact key 120 20 q_kok_120 (by omega) (by omega)
  rcases Nat.lt_or_ge y 160 with h140 | h140
  · exact key 140 20 q_kok_140 (by omega) (by omega)
  rcases Nat.lt_or_ge y 180 with h160 | h160
  · exact key 160 20 q_kok_160 (by omega) (by omega)
  rcases Nat.lt_or_ge y 200 with h180 | h180
  · exact key 180 20 q_kok_180 (by omega) (by omega)
  rcases Nat.lt_or_ge y 220 with h200 | h200
  · exact key 200 20 q_kok_200 (by omega) (by omega)
  rcases Nat.lt_or_ge y 240 with h220 | h220
  · exact key 220 20 q_kok_220 (by omega) (by omega)
  rcases Nat.lt_or_ge y 260 with h240 | h240
  · exact key 240 20 q_kok_240 (by omega) (by omega)
  rcases Nat.lt_or_ge y 280 with h260 | h260
  · exact key 260 20 q_kok_260 (by omega) (by omega)
  rcases Nat.lt_or_ge y 300 with h280 | h280
  · exact key 280 20 q_kok_280 (by omega) (by omega)
  rcases Nat.lt_or_ge y 320 with h300 | h300
  · exact key 300 20 q_kok_300 (by omega) (by omega)
  rcases Nat.lt_or_ge y 340 with h320 | h320
  · exact key 320 20 q_kok_320 (by omega) (by omega)
  rcases Nat.lt_or_ge y 341 with h340 | h340
  · exact key 340 1 q_kok_340 (by omega) (by omega)
  omega
