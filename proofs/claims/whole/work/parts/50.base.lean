/-! a heap out of what never changes (kinds, lengths, references ..) and its ints; rules that run a function on it -/
abbrev z_S : Type := Nat × (Nat → Nat) × (Nat → Nat) × (Nat → Nat → Option Nat) × (Nat → Nat → Int64) × Nat × Nat
abbrev z_m : Type := Nat → Nat → Int32
def z_hp (S : z_S) (m : z_m) : q_H := (S.1, S.2.1, S.2.2.1, m, S.2.2.2.1, S.2.2.2.2.1, S.2.2.2.2.2.1, S.2.2.2.2.2.2)
def z_kd (S : z_S) (r : Nat) : Nat := S.2.1 r
def z_ln (S : z_S) (r : Nat) : Nat := S.2.2.1 r
def z_rm (S : z_S) (r j : Nat) : Option Nat := S.2.2.2.1 r j
def z_up (m : z_m) (k j : Nat) (v : Int32) : z_m := fun a b => if a = k ∧ b = j then v else m a b
theorem z_up_s (m : z_m) (k j : Nat) (v : Int32) : z_up m k j v k j = v := if_pos ⟨rfl, rfl⟩
theorem z_up_a {m : z_m} {k j : Nat} {v : Int32} {a b : Nat} (h : a ≠ k) : z_up m k j v a b = m a b := if_neg (fun g => h g.1)
theorem z_up_b {m : z_m} {k j : Nat} {v : Int32} {a b : Nat} (h : b ≠ j) : z_up m k j v a b = m a b := if_neg (fun g => h g.2)
theorem z_up_k (m : z_m) (k j : Nat) (v : Int32) (b : Nat) : z_up m k j v k b = if b = j then v else m k b := by
  unfold z_up; by_cases h : b = j <;> simp [h]
/-- a whole row -/
def z_ur (m : z_m) (k : Nat) (f : Nat → Int32) : z_m := fun a => if a = k then f else m a
theorem z_ins {k n : Nat} (h : k < n) (hn : n ≤ 2147483648) : q_ins (nI k) n = true := by
  unfold q_ins
  have h1 := nI_in (c := k) (N := k + 1) (by omega)
  rcases Nat.lt_or_ge (k + 1) (2 ^ 31) with h2 | h2
  · have := h1 h2
    have hc := nI_clamp (n := k) (by omega)
    have hp := nI_pos (n := k) (by omega)
    simp only [hc, hp, decide_false, Bool.false_or, Bool.not_eq_true', decide_eq_false_iff_not]; omega
  · have hc := nI_clamp (n := k) (by omega)
    have hp := nI_pos (n := k) (by omega)
    simp only [hc, hp, decide_false, Bool.false_or, Bool.not_eq_true', decide_eq_false_iff_not]; omega
section
variable {α β : Type} {S : z_S} {m : z_m} {c r a k : Nat} {v : Int32}
theorem zR (x : α) : m_R x (z_hp S m) = some (x, z_hp S m) := rfl
theorem zB_R (x : α) (f : α → m_M β) : m_B (m_R x) f (z_hp S m) = f x (z_hp S m) := rfl
theorem zB_B {γ : Type} {x : m_M α} {g : α → m_M γ} {f : γ → m_M β} : m_B (m_B x g) f (z_hp S m) = m_B x (fun y => m_B (g y) f) (z_hp S m) := by
  unfold m_B; cases x (z_hp S m) <;> rfl
theorem zB_ite {p : Prop} [Decidable p] {x y : m_M α} {f : α → m_M β} : m_B (if p then x else y) f (z_hp S m) = if p then m_B x f (z_hp S m) else m_B y f (z_hp S m) := by
  by_cases h : p <;> simp [h]
theorem zB_gI {f : Int32 → m_M β} (hk : z_kd S r = c) : m_B (m_gI c r a) f (z_hp S m) = f (m r a) (z_hp S m) := by
  unfold m_B m_gI; rw [show q_kd (z_hp S m) r = z_kd S r from rfl, if_pos hk]; rfl
theorem zB_gR {f : Nat → m_M β} (hk : z_kd S r = c) : m_B (m_gR c r a) f (z_hp S m) = (z_rm S r a).bind (fun v => f v (z_hp S m)) := by
  unfold m_B m_gR; rw [show q_kd (z_hp S m) r = z_kd S r from rfl, if_pos hk, show q_rm (z_hp S m) r a = z_rm S r a from rfl]
  cases z_rm S r a <;> rfl
theorem zB_pI {f : Unit → m_M β} (hk : z_kd S r = c) : m_B (m_pI c r a v) f (z_hp S m) = f () (z_hp S (z_up m r a v)) := by
  unfold m_B m_pI; rw [show q_kd (z_hp S m) r = z_kd S r from rfl, if_pos hk]; rfl
theorem zB_pZ {f : Unit → m_M β} (hk : z_kd S r = c) (hv : v = 0 ∨ v = 1) : m_B (m_pZ c r a v) f (z_hp S m) = f () (z_hp S (z_up m r a v)) := by
  unfold m_B m_pZ; rw [show q_kd (z_hp S m) r = z_kd S r from rfl, if_pos ⟨hk, hv⟩]; rfl
theorem zB_aK {f : Unit → m_M β} (hk : z_kd S r = c) : m_B (m_aK r c) f (z_hp S m) = f () (z_hp S m) := by
  unfold m_B m_aK; rw [show q_kd (z_hp S m) r = z_kd S r from rfl, if_pos hk]
theorem zB_G {p : Prop} [Decidable p] {f : Unit → m_M β} (h : p) : m_B (m_G p) f (z_hp S m) = f () (z_hp S m) := by
  unfold m_B m_G; rw [if_pos h]
theorem zB_lI {f : Int32 → m_M β} (hk : z_kd S r = 20) (hi : k < z_ln S r) (hl : z_ln S r ≤ 2147483648) : m_B (m_lI r (nI k)) f (z_hp S m) = f (m r k) (z_hp S m) := by
  unfold m_B m_lI; rw [show q_kd (z_hp S m) r = z_kd S r from rfl, show q_ln (z_hp S m) r = z_ln S r from rfl, if_pos ⟨hk, z_ins hi hl⟩, nI_clamp (by omega)]; rfl
theorem zB_lZ {f : Int32 → m_M β} (hk : z_kd S r = 21) (hi : k < z_ln S r) (hl : z_ln S r ≤ 2147483648) : m_B (m_lZ r (nI k)) f (z_hp S m) = f (m r k) (z_hp S m) := by
  unfold m_B m_lZ; rw [show q_kd (z_hp S m) r = z_kd S r from rfl, show q_ln (z_hp S m) r = z_ln S r from rfl, if_pos ⟨hk, z_ins hi hl⟩, nI_clamp (by omega)]; rfl
theorem zB_lR {f : Nat → m_M β} (hk : z_kd S r = 23 ∨ z_kd S r = 24) (hi : k < z_ln S r) (hl : z_ln S r ≤ 2147483648) : m_B (m_lR r (nI k)) f (z_hp S m) = (z_rm S r k).bind (fun v => f v (z_hp S m)) := by
  unfold m_B m_lR; rw [show q_kd (z_hp S m) r = z_kd S r from rfl, show q_ln (z_hp S m) r = z_ln S r from rfl, if_pos ⟨hk, z_ins hi hl⟩, nI_clamp (by omega), show q_rm (z_hp S m) r k = z_rm S r k from rfl]
  cases z_rm S r k <;> rfl
theorem zB_wI {f : Unit → m_M β} (hk : z_kd S r = 20) (hi : k < z_ln S r) (hl : z_ln S r ≤ 2147483648) : m_B (m_wI r (nI k) v) f (z_hp S m) = f () (z_hp S (z_up m r k v)) := by
  unfold m_B m_wI; rw [show q_kd (z_hp S m) r = z_kd S r from rfl, show q_ln (z_hp S m) r = z_ln S r from rfl, if_pos ⟨hk, z_ins hi hl⟩, nI_clamp (by omega)]; rfl
theorem zB_wZ {f : Unit → m_M β} (hk : z_kd S r = 21) (hi : k < z_ln S r) (hl : z_ln S r ≤ 2147483648) (hv : v = 0 ∨ v = 1) : m_B (m_wZ r (nI k) v) f (z_hp S m) = f () (z_hp S (z_up m r k v)) := by
  unfold m_B m_wZ; rw [show q_kd (z_hp S m) r = z_kd S r from rfl, show q_ln (z_hp S m) r = z_ln S r from rfl, if_pos ⟨⟨hk, z_ins hi hl⟩, hv⟩, nI_clamp (by omega)]; rfl
/-- a call that is known -/
theorem zB_c {f : α → m_M β} {g : m_M α} {x : α} {m' : z_m} (e : g (z_hp S m) = some (x, z_hp S m')) : m_B g f (z_hp S m) = f x (z_hp S m') := by
  unfold m_B; rw [e]
theorem z_ite {p : Prop} [Decidable p] {f g : m_M β} : (if p then f else g) (z_hp S m) = if p then f (z_hp S m) else g (z_hp S m) := by
  by_cases h : p <;> simp [h]
/-- a loop, step by step -/
theorem z_path {σ R : Type} {f : σ → m_M (σ ⊕ R)} (st : Nat → σ) (mm : Nat → z_m) {r : R} {m' : z_m} : ∀ (k a N : Nat), k < N → (∀ i, a ≤ i → i < a + k → f (st i) (z_hp S (mm i)) = some (.inl (st (i + 1)), z_hp S (mm (i + 1)))) → f (st (a + k)) (z_hp S (mm (a + k))) = some (.inr r, z_hp S m') → m_W f N (st a) (z_hp S (mm a)) = some (r, z_hp S m')
  | 0, a, N + 1, _, _, he => by
    unfold m_W m_B; rw [Nat.add_zero] at he; rw [he]; rfl
  | k + 1, a, N + 1, hN, hs, he => by
    unfold m_W m_B; rw [hs a (Nat.le_refl a) (by omega)]
    exact z_path st mm k (a + 1) N (by omega) (fun i h1 h2 => hs i (by omega) (by omega)) (by rw [show a + 1 + k = a + (k + 1) by omega]; exact he)
/-- a loop with an invariant and a measure -/
theorem z_loop {σ R : Type} {f : σ → m_M (σ ⊕ R)} (I : σ → z_m → Prop) (μ : σ → Nat) (Q : R → z_m → Prop) (hs : ∀ s m, I s m → (∃ s' m', f s (z_hp S m) = some (.inl s', z_hp S m') ∧ I s' m' ∧ μ s' < μ s) ∨ (∃ r m', f s (z_hp S m) = some (.inr r, z_hp S m') ∧ Q r m')) : ∀ (N : Nat) (s : σ) (m : z_m), I s m → μ s < N → ∃ r m', m_W f N s (z_hp S m) = some (r, z_hp S m') ∧ Q r m'
  | 0, _, _, _, h => absurd h (Nat.not_lt_zero _)
  | N + 1, s, m, hI, hN => by
    unfold m_W m_B
    rcases hs s m hI with ⟨s', m', e, h1, h2⟩ | ⟨r, m', e, hQ⟩
    · rw [e]
      exact z_loop I μ Q hs N s' m' h1 (by omega)
    · rw [e]
      exact ⟨r, m', rfl, hQ⟩
end
/-- the first place, if there is one -/
def z_sch {R : Type} (c : Nat → Bool) (x : Nat → R) (d : R) : Nat → Nat → R
  | 0, _ => d
  | n + 1, i => if c i then x i else z_sch c x d n (i + 1)
theorem z_sch_n {R : Type} {c : Nat → Bool} {x : Nat → R} {d : R} : ∀ {n i : Nat}, (∀ j, i ≤ j → j < i + n → c j = false) → z_sch c x d n i = d
  | 0, _, _ => rfl
  | n + 1, i, h => by
    unfold z_sch; rw [h i (Nat.le_refl i) (by omega)]
    exact z_sch_n (fun j h1 h2 => h j (by omega) (by omega))
theorem z_sch_s {R : Type} {c : Nat → Bool} {x : Nat → R} {d : R} : ∀ {n i k : Nat}, i ≤ k → k < i + n → c k = true → (∀ j, i ≤ j → j < k → c j = false) → z_sch c x d n i = x k
  | 0, i, k, h1, h2, _, _ => by omega
  | n + 1, i, k, h1, h2, hk, hj => by
    unfold z_sch
    rcases Nat.eq_or_lt_of_le h1 with rfl | h
    · rw [hk]; rfl
    · rw [hj i (Nat.le_refl i) h]
      exact z_sch_s h (by omega) hk (fun j h3 h4 => hj j (by omega) h4)
theorem z_sch_c {R : Type} {c : Nat → Bool} {x : Nat → R} {d : R} : ∀ {n i : Nat}, (z_sch c x d n i = d ∧ ∀ j, i ≤ j → j < i + n → c j = false) ∨ ∃ k, i ≤ k ∧ k < i + n ∧ c k = true ∧ (∀ j, i ≤ j → j < k → c j = false) ∧ z_sch c x d n i = x k
  | 0, _ => Or.inl ⟨rfl, fun j h1 h2 => by omega⟩
  | n + 1, i => by
    unfold z_sch
    cases h : c i with
    | true => exact Or.inr ⟨i, Nat.le_refl i, by omega, h, fun j h1 h2 => by omega, rfl⟩
    | false =>
      rcases z_sch_c (c := c) (x := x) (d := d) (n := n) (i := i + 1) with ⟨h1, h2⟩ | ⟨k, h1, h2, h3, h4, h5⟩
      · refine Or.inl ⟨h1, fun j h3 h4 => ?_⟩
        rcases Nat.eq_or_lt_of_le h3 with rfl | h5
        · exact h
        · exact h2 j h5 (by omega)
      · refine Or.inr ⟨k, by omega, by omega, h3, fun j h6 h7 => ?_, h5⟩
        rcases Nat.eq_or_lt_of_le h6 with rfl | h8
        · exact h
        · exact h4 j h8 h7
theorem z_search {σ R : Type} {f : σ → m_M (σ ⊕ R)} {S : z_S} {m : z_m} (st : Nat → σ) (c : Nat → Bool) (x : Nat → R) (d : R) : ∀ (n a N : Nat), n < N → (∀ i, a ≤ i → i < a + n → f (st i) (z_hp S m) = if c i = true then some (.inr (x i), z_hp S m) else some (.inl (st (i + 1)), z_hp S m)) → f (st (a + n)) (z_hp S m) = some (.inr d, z_hp S m) → m_W f N (st a) (z_hp S m) = some (z_sch c x d n a, z_hp S m)
  | 0, a, N + 1, _, _, he => by
    unfold m_W m_B; rw [Nat.add_zero] at he; rw [he]; rfl
  | n + 1, a, N + 1, hN, hs, he => by
    unfold m_W m_B z_sch; rw [hs a (Nat.le_refl a) (by omega)]
    cases c a with
    | true => rfl
    | false => exact z_search st c x d n (a + 1) N (by omega) (fun i h1 h2 => hs i (by omega) (by omega)) (by rw [show a + 1 + n = a + (n + 1) by omega]; exact he)
/-- a sum along a loop -/
def z_fo {γ : Type} (g : Nat → γ → γ) : Nat → γ → γ
  | 0, a => a
  | n + 1, a => g n (z_fo g n a)
theorem z_fold {σ R γ : Type} {f : σ → m_M (σ ⊕ R)} {S : z_S} {m : z_m} (st : Nat → γ → σ) (g : Nat → γ → γ) (out : γ → R) (n : Nat) (a0 : γ) (N : Nat) (hN : n < N) (hs : ∀ i a, i < n → f (st i a) (z_hp S m) = some (.inl (st (i + 1) (g i a)), z_hp S m)) (he : ∀ a, f (st n a) (z_hp S m) = some (.inr (out a), z_hp S m)) : m_W f N (st 0 a0) (z_hp S m) = some (out (z_fo g n a0), z_hp S m) := by
  refine z_path (fun i => st i (z_fo g i a0)) (fun _ => m) n 0 N hN (fun i _ h => ?_) ?_
  · exact hs i _ (by omega)
  · rw [Nat.zero_add]; exact he _
/-! small ints -/
theorem z_addl (a k : Nat) : nI a + no_index (OfNat.ofNat k : Int32) = nI (a + OfNat.ofNat k) := nI_add a k
theorem z_ladd (a k : Nat) : no_index (OfNat.ofNat k : Int32) + nI a = nI (OfNat.ofNat k + a) := nI_add k a
theorem z_mull (a k : Nat) : nI a * no_index (OfNat.ofNat k : Int32) = nI (a * OfNat.ofNat k) := pk_mul a k
theorem z_lmul (a k : Nat) : no_index (OfNat.ofNat k : Int32) * nI a = nI (OfNat.ofNat k * a) := pk_mul k a
theorem z_subl {a k : Nat} (h : k ≤ a) : nI a - no_index (OfNat.ofNat k : Int32) = nI (a - OfNat.ofNat k) := pk_sub h
theorem z_m1 {a : Nat} (h : 0 < a) : nI a + (-1) = nI (a - 1) := by
  obtain ⟨b, rfl⟩ : ∃ b, a = b + 1 := ⟨a - 1, by omega⟩
  exact pk_m1 b
theorem z_eql {a k : Nat} (ha : a < 2147483648) (hk : k < 2147483648) : (nI a = no_index (OfNat.ofNat k : Int32)) = (a = OfNat.ofNat k) := propext (nI_eq ha hk)
theorem z_leq {a k : Nat} (ha : a < 2147483648) (hk : k < 2147483648) : (no_index (OfNat.ofNat k : Int32) = nI a) = (OfNat.ofNat k = a) := propext (nI_eq hk ha)
theorem z_ltl {a k : Nat} (ha : a < 2147483648) (hk : k < 2147483648) : (nI a < no_index (OfNat.ofNat k : Int32)) = (a < OfNat.ofNat k) := propext (nI_ltI ha hk)
theorem z_llt {a k : Nat} (ha : a < 2147483648) (hk : k < 2147483648) : (no_index (OfNat.ofNat k : Int32) < nI a) = (OfNat.ofNat k < a) := propext (nI_ltI hk ha)
theorem z_eq {a b : Nat} (ha : a < 2147483648) (hb : b < 2147483648) : (nI a = nI b) = (a = b) := propext (nI_eq ha hb)
theorem z_lt {a b : Nat} (ha : a < 2147483648) (hb : b < 2147483648) : (nI a < nI b) = (a < b) := propext (nI_ltI ha hb)
theorem z_m1lt : (-1 : Int32) < 0 := by decide
theorem z_ltI {x y : Int32} : x < y ↔ x.toInt < y.toInt := Int32.lt_iff_toInt_lt
theorem z_eqm {a k : Nat} (ha : a < 2147483648) (hk : k ≤ 1000) (h0 : 0 < k) : ¬ nI a = - no_index (OfNat.ofNat k : Int32) := by
  intro h
  have h1 := congrArg Int32.toInt h
  rw [nI_toInt ha, Int32.toInt_neg, show (OfNat.ofNat k : Int32) = nI k from rfl, nI_toInt (by omega)] at h1
  rw [Int.bmod_def] at h1
  omega
def z_b (p : Bool) : Int32 := if p = true then 1 else 0
def z_oI (o : Option Nat) : Int32 := match o with
  | none => -1
  | some k => nI k
theorem z_b0 (p : Bool) : (z_b p = 0) = (p = false) := by cases p <;> simp [z_b]
theorem z_b1 (p : Bool) : (z_b p = 1) = (p = true) := by cases p <;> simp [z_b]
theorem z_b01 (p : Bool) : z_b p = 0 ∨ z_b p = 1 := by cases p <;> simp [z_b]
section
variable {β : Type} {S : z_S} {m : z_m}
theorem zB_Gb {p : Bool} {f : Unit → m_M β} : m_B (m_G (z_b p = 0 ∨ z_b p = 1)) f (z_hp S m) = f () (z_hp S m) := zB_G (z_b01 p)
theorem zB_G0 {f : Unit → m_M β} : m_B (m_G ((0 : Int32) = 0 ∨ (0 : Int32) = 1)) f (z_hp S m) = f () (z_hp S m) := zB_G (by decide)
theorem zB_G1 {f : Unit → m_M β} : m_B (m_G ((1 : Int32) = 0 ∨ (1 : Int32) = 1)) f (z_hp S m) = f () (z_hp S m) := zB_G (by decide)
theorem z_ifb {p : Bool} : (if p = true then some ((1 : Int32), z_hp S m) else some ((0 : Int32), z_hp S m)) = some (z_b p, z_hp S m) := by cases p <;> rfl
end
/-! bits -/
def z_bit (x : Int32) (k : Nat) : Bool := (q_ush x (nI k) &&& 1) == 1
theorem z_bitc (x : Int32) (k : Nat) : (q_ush x (nI k) &&& 1 = 1) = (z_bit x k = true) := by
  unfold z_bit; simp
theorem z_bit_tb (x : Int32) {k : Nat} (hk : k < 32) : z_bit x k = x.toBitVec.toNat.testBit k := by
  have h1 : (((nI k).toUInt32 &&& Int32.toUInt32 31).toBitVec % 32).toNat = k := by
    have : ∀ k, k < 32 → (((nI k).toUInt32 &&& Int32.toUInt32 31).toBitVec % 32).toNat = k := by decide
    exact this k hk
  have h2 := pk_ushr x (nI k) k h1
  have h3 := pk_and (q_ush x (nI k)) (m := 1) 1 rfl
  unfold z_bit
  rw [h3, show (q_ush x (nI k)).toBitVec.toNat = x.toBitVec.toNat / 2 ^ k from h2]
  have h4 : x.toBitVec.toNat / 2 ^ k % 2 ^ 1 < 2 := Nat.mod_lt _ (by decide)
  rw [Nat.testBit_eq_decide_div_mod_eq]
  rw [show (2 : Nat) ^ 1 = 2 from rfl] at h4 ⊢
  have h5 : x.toBitVec.toNat / 2 ^ k % 2 = 0 ∨ x.toBitVec.toNat / 2 ^ k % 2 = 1 := by omega
  rcases h5 with h5 | h5 <;> rw [h5] <;> decide
theorem z_bit_or (x y : Int32) {k : Nat} (hk : k < 32) : z_bit (x ||| y) k = (z_bit x k || z_bit y k) := by
  rw [z_bit_tb _ hk, z_bit_tb _ hk, z_bit_tb _ hk, Int32.toBitVec_or, BitVec.toNat_or, Nat.testBit_or]
theorem z_bit_and (x y : Int32) {k : Nat} (hk : k < 32) : z_bit (x &&& y) k = (z_bit x k && z_bit y k) := by
  rw [z_bit_tb _ hk, z_bit_tb _ hk, z_bit_tb _ hk, Int32.toBitVec_and, BitVec.toNat_and, Nat.testBit_and]
theorem z_bit_not (x : Int32) {k : Nat} (hk : k < 32) : z_bit (x ^^^ (-1)) k = !z_bit x k := by
  rw [z_bit_tb _ hk, z_bit_tb _ hk, Int32.toBitVec_xor, BitVec.toNat_xor, Nat.testBit_xor]
  have : ∀ k, k < 32 → (-1 : Int32).toBitVec.toNat.testBit k = true := by decide
  rw [this k hk]; simp
theorem z_bit_0 {k : Nat} (hk : k < 32) : z_bit 0 k = false := by
  rw [z_bit_tb _ hk]
  have : ∀ k, k < 32 → (0 : Int32).toBitVec.toNat.testBit k = false := by decide
  exact this k hk
theorem z_bit_shl {j k : Nat} (hj : j < 32) (hk : k < 32) : z_bit (1 <<< (nI j &&& 31)) k = decide (j = k) := by
  have : ∀ j, j < 32 → ∀ k, k < 32 → z_bit (1 <<< (nI j &&& 31)) k = decide (j = k) := by decide
  exact this j hj k hk
theorem z_bit_ext {x y : Int32} (h : ∀ k, k < 32 → z_bit x k = z_bit y k) : x = y := by
  apply Int32.toBitVec_inj.mp
  apply BitVec.eq_of_getLsbD_eq
  intro i hi
  have := h i hi
  rw [z_bit_tb _ hi, z_bit_tb _ hi] at this
  exact this
/-- is it an index -/
def z_in (x : Int32) (n : Nat) : Bool := !decide (x < 0) && decide (x < nI n)
theorem z_in_iff {x : Int32} {n : Nat} (hn : n < 2147483648) : z_in x n = true ↔ ∃ j, j < n ∧ x = nI j := by
  unfold z_in
  simp only [Bool.and_eq_true, Bool.not_eq_true', decide_eq_false_iff_not, decide_eq_true_eq]
  constructor
  · intro ⟨h1, h2⟩
    obtain ⟨j, h3, rfl⟩ := nI_of h1
    exact ⟨j, (nI_ltI h3 hn).mp h2, rfl⟩
  · rintro ⟨j, h1, rfl⟩
    exact ⟨nI_pos (by omega), (nI_ltI (by omega) hn).mpr h1⟩
/-- the last place below n -/
def z_lst (c : Nat → Bool) : Nat → Option Nat
  | 0 => none
  | n + 1 => if c n = true then some n else z_lst c n
theorem z_lst_none {c : Nat → Bool} : ∀ {n : Nat}, z_lst c n = none ↔ ∀ i, i < n → c i = false
  | 0 => by simp [z_lst]
  | n + 1 => by
    unfold z_lst
    cases h : c n with
    | true =>
      simp only [if_true, reduceCtorEq, false_iff]
      intro g
      have := g n (Nat.lt_succ_self n)
      rw [h] at this; cases this
    | false =>
      simp only [Bool.false_eq_true, if_false]
      rw [z_lst_none]
      constructor
      · intro g i hi
        rcases Nat.lt_succ_iff_lt_or_eq.mp hi with h1 | h1
        · exact g i h1
        · rw [h1]; exact h
      · exact fun g i hi => g i (by omega)
theorem z_lst_some {c : Nat → Bool} : ∀ {n k : Nat}, z_lst c n = some k ↔ k < n ∧ c k = true ∧ ∀ i, k < i → i < n → c i = false
  | 0, k => by simp [z_lst]
  | n + 1, k => by
    unfold z_lst
    cases h : c n with
    | true =>
      simp only [if_true, Option.some.injEq]
      constructor
      · rintro rfl
        exact ⟨Nat.lt_succ_self _, h, fun i h1 h2 => by omega⟩
      · intro ⟨h1, h2, h3⟩
        rcases Nat.lt_succ_iff_lt_or_eq.mp h1 with h4 | h4
        · have := h3 n h4 (Nat.lt_succ_self n)
          rw [h] at this; cases this
        · exact h4.symm
    | false =>
      simp only [Bool.false_eq_true, if_false]
      rw [z_lst_some]
      constructor
      · intro ⟨h1, h2, h3⟩
        refine ⟨by omega, h2, fun i h4 h5 => ?_⟩
        rcases Nat.lt_succ_iff_lt_or_eq.mp h5 with h6 | h6
        · exact h3 i h4 h6
        · rw [h6]; exact h
      · intro ⟨h1, h2, h3⟩
        refine ⟨?_, h2, fun i h4 h5 => h3 i h4 (by omega)⟩
        rcases Nat.lt_succ_iff_lt_or_eq.mp h1 with h6 | h6
        · exact h6
        · rw [h6, h] at h2; cases h2
theorem z_sch_uq {c : Nat → Bool} {n : Nat} (h : ∀ i j, i < n → j < n → c i = true → c j = true → i = j) : z_sch c nI (-1) n 0 = z_oI (z_lst c n) := by
  rcases z_sch_c (c := c) (x := nI) (d := -1) (n := n) (i := 0) with ⟨h1, h2⟩ | ⟨k, h1, h2, h3, h4, h5⟩
  · rw [h1, z_lst_none.mpr (fun i hi => h2 i (Nat.zero_le _) (by omega))]; rfl
  · rw [h5, z_lst_some.mpr ⟨by omega, h3, fun i h6 h7 => ?_⟩]; rfl
    cases hc : c i with
    | false => rfl
    | true => have := h i k h7 (by omega) hc h3; omega
/-- is there one -/
def z_any (c : Nat → Bool) : Nat → Bool
  | 0 => false
  | n + 1 => z_any c n || c n
theorem z_any_iff {c : Nat → Bool} : ∀ {n : Nat}, z_any c n = true ↔ ∃ i, i < n ∧ c i = true
  | 0 => by simp [z_any]
  | n + 1 => by
    unfold z_any
    rw [Bool.or_eq_true, z_any_iff]
    constructor
    · rintro (⟨i, h1, h2⟩ | h)
      · exact ⟨i, by omega, h2⟩
      · exact ⟨n, Nat.lt_succ_self n, h⟩
    · rintro ⟨i, h1, h2⟩
      rcases Nat.lt_succ_iff_lt_or_eq.mp h1 with h3 | h3
      · exact Or.inl ⟨i, h3, h2⟩
      · exact Or.inr (by rw [← h3]; exact h2)
theorem z_any_f {c : Nat → Bool} {n : Nat} : z_any c n = false ↔ ∀ i, i < n → c i = false := by
  constructor
  · intro h i hi
    cases hc : c i with
    | false => rfl
    | true => rw [z_any_iff.mpr ⟨i, hi, hc⟩] at h; cases h
  · intro h
    cases ha : z_any c n with
    | false => rfl
    | true =>
      obtain ⟨i, h1, h2⟩ := z_any_iff.mp ha
      rw [h i h1] at h2; cases h2
theorem z_any_congr {c c' : Nat → Bool} {n : Nat} (h : ∀ i, i < n → c i = c' i) : z_any c n = z_any c' n := by
  induction n with
  | zero => rfl
  | succ n ih =>
    unfold z_any
    rw [ih (fun i hi => h i (by omega)), h n (Nat.lt_succ_self n)]
theorem z_sch_b {c : Nat → Bool} {n : Nat} : z_sch c (fun _ => (1 : Int32)) 0 n 0 = z_b (z_any c n) := by
  rcases z_sch_c (c := c) (x := fun _ => (1 : Int32)) (d := 0) (n := n) (i := 0) with ⟨h1, h2⟩ | ⟨k, h1, h2, h3, h4, h5⟩
  · rw [h1, z_any_f.mpr (fun i hi => h2 i (Nat.zero_le _) (by omega))]; rfl
  · rw [h5, z_any_iff.mpr ⟨k, by omega, h3⟩]; rfl
theorem z_sch_nb {c : Nat → Bool} {n : Nat} : z_sch c (fun _ => (0 : Int32)) 1 n 0 = z_b (!z_any c n) := by
  rcases z_sch_c (c := c) (x := fun _ => (0 : Int32)) (d := 1) (n := n) (i := 0) with ⟨h1, h2⟩ | ⟨k, h1, h2, h3, h4, h5⟩
  · rw [h1, z_any_f.mpr (fun i hi => h2 i (Nat.zero_le _) (by omega))]; rfl
  · rw [h5, z_any_iff.mpr ⟨k, by omega, h3⟩]; rfl
/-- loops that count down to -1 -/
def z_pI (n : Nat) : Int32 := nI n + (-1)
theorem z_pI_s (n : Nat) : z_pI (n + 1) = nI n := pk_m1 n
theorem z_pI_0 : z_pI 0 = -1 := rfl
theorem z_pI_e (n : Nat) : nI n + (-1) = z_pI n := rfl
theorem z_pI_m (n : Nat) : nI n - 1 = z_pI n := by unfold z_pI; rw [Int32.sub_eq_add_neg]
theorem z_down {σ R : Type} {f : σ → m_M (σ ⊕ R)} {S : z_S} {m : z_m} (st : Nat → σ) (c : Nat → Bool) (x : Nat → R) (d : R) : ∀ (n N : Nat), n < N → (∀ i, i < n → f (st (i + 1)) (z_hp S m) = if c i = true then some (.inr (x i), z_hp S m) else some (.inl (st i), z_hp S m)) → f (st 0) (z_hp S m) = some (.inr d, z_hp S m) → m_W f N (st n) (z_hp S m) = some ((match z_lst c n with | some i => x i | none => d), z_hp S m)
  | 0, N + 1, _, _, he => by
    unfold m_W m_B; rw [he]; rfl
  | n + 1, N + 1, hN, hs, he => by
    unfold m_W m_B z_lst; rw [hs n (Nat.lt_succ_self n)]
    cases c n with
    | true => rfl
    | false => exact z_down st c x d n N (by omega) (fun i h => hs i (by omega)) he
theorem z_oI_e {o : Option Nat} : (match o with | some i => nI i | none => -1) = z_oI o := by cases o <;> rfl
theorem z_oI_m {o : Option Nat} (h : ∀ k, o = some k → k < 2147483648) : (z_oI o = -1) = (o = none) := by
  cases o with
  | none => simp [z_oI]
  | some k =>
    have h1 : ¬ nI k = -1 := by
      intro e
      have h2 := nI_pos (h k rfl)
      rw [e] at h2; exact h2 (by decide)
    simp [z_oI, h1]
theorem z_m1l : ((-1 : Int32) < 0) = True := by decide
theorem z_down' {σ R : Type} {f : σ → m_M (σ ⊕ R)} {S : z_S} {m : z_m} {s0 : σ} (st : Nat → σ) (c : Nat → Bool) (x : Nat → R) (d : R) (n N : Nat) (hN : n < N) (h0 : s0 = st n) (hs : ∀ i, i < n → f (st (i + 1)) (z_hp S m) = if c i = true then some (.inr (x i), z_hp S m) else some (.inl (st i), z_hp S m)) (he : f (st 0) (z_hp S m) = some (.inr d, z_hp S m)) : m_W f N s0 (z_hp S m) = some ((match z_lst c n with | some i => x i | none => d), z_hp S m) := by
  rw [h0]; exact z_down st c x d n N hN hs he
/-- a loop with an invariant that carries its measure -/
theorem z_loopI {σ R : Type} {f : σ → m_M (σ ⊕ R)} {S : z_S} (I : Nat → σ → z_m → Prop) (Q : R → z_m → Prop) (hs : ∀ n s m, I n s m → (∃ s' m' n', f s (z_hp S m) = some (.inl s', z_hp S m') ∧ n' < n ∧ I n' s' m') ∨ (∃ r m', f s (z_hp S m) = some (.inr r, z_hp S m') ∧ Q r m')) : ∀ (N n : Nat) (s : σ) (m : z_m), I n s m → n < N → ∃ r m', m_W f N s (z_hp S m) = some (r, z_hp S m') ∧ Q r m'
  | 0, _, _, _, _, h => absurd h (Nat.not_lt_zero _)
  | N + 1, n, s, m, hI, hN => by
    unfold m_W m_B
    rcases hs n s m hI with ⟨s', m', n', e, h1, h2⟩ | ⟨r, m', e, hQ⟩
    · rw [e]
      exact z_loopI I Q hs N n' s' m' h2 (by omega)
    · rw [e]
      exact ⟨r, m', rfl, hQ⟩
theorem z_t0 : (0 : Int32).toInt = 0 := rfl
theorem z_t1 : (1 : Int32).toInt = 1 := rfl
theorem z_t2 : (2 : Int32).toInt = 2 := rfl
theorem z_t3 : (3 : Int32).toInt = 3 := rfl
theorem z_t4 : (4 : Int32).toInt = 4 := rfl
theorem z_t5 : (5 : Int32).toInt = 5 := rfl
theorem z_t6 : (6 : Int32).toInt = 6 := rfl
theorem z_t7 : (7 : Int32).toInt = 7 := rfl
theorem z_t8 : (8 : Int32).toInt = 8 := rfl
theorem z_t9 : (9 : Int32).toInt = 9 := rfl
theorem z_t10 : (10 : Int32).toInt = 10 := rfl
theorem z_t11 : (11 : Int32).toInt = 11 := rfl
theorem z_t12 : (12 : Int32).toInt = 12 := rfl
theorem z_t13 : (13 : Int32).toInt = 13 := rfl
theorem z_10 : ((1 : Int32) = 0) = False := by decide
theorem z_01 : ((0 : Int32) = 1) = False := by decide
theorem zB_lIl {β : Type} {S : z_S} {m : z_m} {r k : Nat} {f : Int32 → m_M β} (hk : z_kd S r = 20) (hi : k < z_ln S r) (hl : z_ln S r ≤ 2147483648) : m_B (m_lI r (no_index (OfNat.ofNat k : Int32))) f (z_hp S m) = f (m r (OfNat.ofNat k)) (z_hp S m) := zB_lI hk hi hl
theorem zB_wIl {β : Type} {S : z_S} {m : z_m} {r k : Nat} {v : Int32} {f : Unit → m_M β} (hk : z_kd S r = 20) (hi : k < z_ln S r) (hl : z_ln S r ≤ 2147483648) : m_B (m_wI r (no_index (OfNat.ofNat k : Int32)) v) f (z_hp S m) = f () (z_hp S (z_up m r (OfNat.ofNat k) v)) := zB_wI hk hi hl
