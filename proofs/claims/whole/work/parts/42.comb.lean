/-! combinators of the functions that a program reads off the code, and what they give back -/
def q_g {α : Type} (c : Prop) [Decidable c] (x : Option α) : Option α := if c then x else none
theorem q_g_some {α : Type} {c : Prop} [Decidable c] {x : Option α} {r : α} (h : q_g c x = some r) : c ∧ x = some r := by
  unfold q_g at h
  split at h
  · rename_i hc; exact ⟨hc, h⟩
  · cases h
def q_o {α β : Type} (x : Option α) (f : α → Option β) : Option β := match x with
  | none => none
  | some a => f a
theorem q_o_some {α β : Type} {x : Option α} {f : α → Option β} {r : β} (h : q_o x f = some r) : ∃ a, x = some a ∧ f a = some r := by
  cases x with
  | none => cases h
  | some a => exact ⟨a, rfl, h⟩
def q_b {α β γ : Type} (x : Option (α × γ)) (f : α → γ → Option β) : Option β := match x with
  | none => none
  | some (a, c) => f a c
theorem q_b_some {α β γ : Type} {x : Option (α × γ)} {f : α → γ → Option β} {r : β} (h : q_b x f = some r) : ∃ a c, x = some (a, c) ∧ f a c = some r := by
  cases x with
  | none => cases h
  | some a => exact ⟨a.1, a.2, rfl, h⟩
/-- a call that may throw: on with its answer, or with what is thrown -/
def q_x {α β γ : Type} (x : Option ((α ⊕ Nat) × γ)) (f : α → γ → Option β) (e : Nat → γ → Option β) : Option β := match x with
  | none => none
  | some (.inl a, c) => f a c
  | some (.inr E, c) => e E c
theorem q_x_some {α β γ : Type} {x : Option ((α ⊕ Nat) × γ)} {f : α → γ → Option β} {e : Nat → γ → Option β} {r : β} (h : q_x x f e = some r) : (∃ a c, x = some (.inl a, c) ∧ f a c = some r) ∨ (∃ E c, x = some (.inr E, c) ∧ e E c = some r) := by
  cases x with
  | none => cases h
  | some p =>
    obtain ⟨a, c⟩ := p
    cases a with
    | inl a => exact Or.inl ⟨a, c, rfl, h⟩
    | inr E => exact Or.inr ⟨E, c, rfl, h⟩
/-- a loop: again with .inl, out with .inr -/
def q_lp {σ R : Type} (f : σ → Option (σ ⊕ R)) : Nat → σ → Option R
  | 0, _ => none
  | n + 1, s => match f s with
    | none => none
    | some (.inl s') => q_lp f n s'
    | some (.inr r) => some r
def q_xK {σ R : Type} (P : σ → Prop) (K : R → Prop) (x : σ ⊕ R) : Prop := match x with
  | .inl s => P s
  | .inr r => K r
theorem q_lp_ok {σ R : Type} {f : σ → Option (σ ⊕ R)} {P : σ → Prop} {K : R → Prop} (hb : ∀ s x, f s = some x → q_xK P K x → P s) : ∀ (n : Nat) (s : σ) (r : R), q_lp f n s = some r → K r → P s
  | 0, _, _, h, _ => by cases h
  | n + 1, s, r, h, hK => by
    unfold q_lp at h
    split at h
    · cases h
    · rename_i s' he
      exact hb s _ he (q_lp_ok hb n s' r h hK)
    · rename_i r' he
      cases h
      exact hb s _ he hK
theorem q_map_some {α β : Type} {f : α → β} {x : Option α} {r : β} (h : x.map f = some r) : ∃ a, x = some a ∧ f a = r := Option.map_eq_some_iff.mp h
/-- how a method ends, read off the function's answer -/
abbrev q_KI (o : q_O) (h2 : q_H) (r : Int32 × q_H) : Prop := o = .inl (some (.int r.1)) ∧ h2 = r.2
abbrev q_KA (o : q_O) (h2 : q_H) (r : Nat × q_H) : Prop := o = .inl (some (.ref r.1)) ∧ h2 = r.2
abbrev q_KV (o : q_O) (h2 : q_H) (r : q_H) : Prop := o = .inl none ∧ h2 = r
def q_oX {α : Type} (f : α → Option Value) (r : α ⊕ Nat) : q_O := match r with
  | .inl v => .inl (f v)
  | .inr E => .inr E
abbrev q_KIX (o : q_O) (h2 : q_H) (r : (Int32 ⊕ Nat) × q_H) : Prop := o = q_oX (fun v => some (.int v)) r.1 ∧ h2 = r.2
abbrev q_KVX (o : q_O) (h2 : q_H) (r : (Unit ⊕ Nat) × q_H) : Prop := o = q_oX (fun _ => none) r.1 ∧ h2 = r.2
theorem q_cod {y pc : Nat} {l : List q_I} {v : Instr × Nat × Nat × Nat} (h : q_cs.getD y [] = l) (h2 : l.lookup pc = some v) : q_code y pc = some v := by unfold q_code; rw [h]; exact h2
theorem q_pk {L L' : List (Nat × Value)} (ps : List Nat) (h : ps.filterMap (fun i => L[i]?) = L') : ∀ q ∈ L', q ∈ L := fun q hq => by
  rw [← h] at hq
  obtain ⟨i, -, hi⟩ := List.mem_filterMap.mp hq
  exact List.mem_of_getElem? hi
theorem q_nd_look {L : List (Nat × Value)} (h : va_nd (L.map (fun q => q.1)) = true) : ∀ q ∈ L, q_lk L q.1 = some q.2 := by
  induction L with
  | nil => intro q hq; cases hq
  | cons u r ih =>
    intro q hq
    simp only [List.map_cons, va_nd, Bool.and_eq_true, decide_eq_true_eq] at h
    unfold q_lk
    rw [List.lookup_cons]
    rcases List.mem_cons.mp hq with rfl | hq
    · simp
    · have hne : (q.1 == u.1) = false := by
        have : q.1 ≠ u.1 := fun e => h.1 (by rw [← e]; exact List.mem_map.mpr ⟨q, hq, rfl⟩)
        simpa using this
      rw [hne]
      exact ih h.2 q hq
theorem q_LvS {L : List (Nat × Value)} (h : va_nd (L.map (fun q => q.1)) = true) (hc : L.all (fun q => Nat.beq q.2.category 1) = true) : q_Lv L L := ⟨q_nd_look h, fun q hq => Nat.eq_of_beq_eq_true (List.all_eq_true.mp hc q hq)⟩
section QBR
variable {sc : Option (Nat × (Nat → Int32))} {y pc : Nat} {L : List (Nat × Value)} {st : List Value} {h h2 : q_H} {o : q_O} {α : Type} {X Y : Option α} {r : α} {off : Int} {t b : Nat} {x z : Int32}
theorem ev_if_eq (hc : q_code y pc = some (.ifCond .eq off, 3, t, b)) (hb : b < 1000) (hf : (if x = 0 then X else Y) = some r) (k1 : x = 0 → X = some r → q_Ev sc y t L st h o h2) (k2 : ¬ x = 0 → Y = some r → q_Ev sc y (pc + 3) L st h o h2) : q_Ev sc y pc L (.int x :: st) h o h2 := ev_if hc hb (by dsimp only [q_c1]; split at hf <;> rename_i g <;> first | (rw [if_pos g]; exact k1 g hf) | (rw [if_neg g]; exact k2 g hf))
theorem ev_if_ne (hc : q_code y pc = some (.ifCond .ne off, 3, t, b)) (hb : b < 1000) (hf : (if x = 0 then X else Y) = some r) (k1 : x = 0 → X = some r → q_Ev sc y (pc + 3) L st h o h2) (k2 : ¬ x = 0 → Y = some r → q_Ev sc y t L st h o h2) : q_Ev sc y pc L (.int x :: st) h o h2 := ev_if hc hb (by dsimp only [q_c1]; split at hf <;> rename_i g <;> first | (rw [if_pos g]; exact k1 g hf) | (rw [if_neg g]; exact k2 g hf))
theorem ev_if_lt (hc : q_code y pc = some (.ifCond .lt off, 3, t, b)) (hb : b < 1000) (hf : (if x < 0 then X else Y) = some r) (k1 : x < 0 → X = some r → q_Ev sc y t L st h o h2) (k2 : ¬ x < 0 → Y = some r → q_Ev sc y (pc + 3) L st h o h2) : q_Ev sc y pc L (.int x :: st) h o h2 := ev_if hc hb (by dsimp only [q_c1]; split at hf <;> rename_i g <;> first | (rw [if_pos g]; exact k1 g hf) | (rw [if_neg g]; exact k2 g hf))
theorem ev_if_ge (hc : q_code y pc = some (.ifCond .ge off, 3, t, b)) (hb : b < 1000) (hf : (if x < 0 then X else Y) = some r) (k1 : x < 0 → X = some r → q_Ev sc y (pc + 3) L st h o h2) (k2 : ¬ x < 0 → Y = some r → q_Ev sc y t L st h o h2) : q_Ev sc y pc L (.int x :: st) h o h2 := ev_if hc hb (by dsimp only [q_c1]; split at hf <;> rename_i g <;> first | (rw [if_pos g]; exact k1 g hf) | (rw [if_neg g]; exact k2 g hf))
theorem ev_if_gt (hc : q_code y pc = some (.ifCond .gt off, 3, t, b)) (hb : b < 1000) (hf : (if 0 < x then X else Y) = some r) (k1 : 0 < x → X = some r → q_Ev sc y t L st h o h2) (k2 : ¬ 0 < x → Y = some r → q_Ev sc y (pc + 3) L st h o h2) : q_Ev sc y pc L (.int x :: st) h o h2 := ev_if hc hb (by dsimp only [q_c1]; split at hf <;> rename_i g <;> first | (rw [if_pos g]; exact k1 g hf) | (rw [if_neg g]; exact k2 g hf))
theorem ev_if_le (hc : q_code y pc = some (.ifCond .le off, 3, t, b)) (hb : b < 1000) (hf : (if 0 < x then X else Y) = some r) (k1 : 0 < x → X = some r → q_Ev sc y (pc + 3) L st h o h2) (k2 : ¬ 0 < x → Y = some r → q_Ev sc y t L st h o h2) : q_Ev sc y pc L (.int x :: st) h o h2 := ev_if hc hb (by dsimp only [q_c1]; split at hf <;> rename_i g <;> first | (rw [if_pos g]; exact k1 g hf) | (rw [if_neg g]; exact k2 g hf))
theorem ev_ic_eq (hc : q_code y pc = some (.if_icmp .eq off, 3, t, b)) (hb : b < 1000) (hf : (if x = z then X else Y) = some r) (k1 : x = z → X = some r → q_Ev sc y t L st h o h2) (k2 : ¬ x = z → Y = some r → q_Ev sc y (pc + 3) L st h o h2) : q_Ev sc y pc L (.int z :: .int x :: st) h o h2 := ev_icmp hc hb (by dsimp only [q_c1]; split at hf <;> rename_i g <;> first | (rw [if_pos g]; exact k1 g hf) | (rw [if_neg g]; exact k2 g hf))
theorem ev_ic_ne (hc : q_code y pc = some (.if_icmp .ne off, 3, t, b)) (hb : b < 1000) (hf : (if x = z then X else Y) = some r) (k1 : x = z → X = some r → q_Ev sc y (pc + 3) L st h o h2) (k2 : ¬ x = z → Y = some r → q_Ev sc y t L st h o h2) : q_Ev sc y pc L (.int z :: .int x :: st) h o h2 := ev_icmp hc hb (by dsimp only [q_c1]; split at hf <;> rename_i g <;> first | (rw [if_pos g]; exact k1 g hf) | (rw [if_neg g]; exact k2 g hf))
theorem ev_ic_lt (hc : q_code y pc = some (.if_icmp .lt off, 3, t, b)) (hb : b < 1000) (hf : (if x < z then X else Y) = some r) (k1 : x < z → X = some r → q_Ev sc y t L st h o h2) (k2 : ¬ x < z → Y = some r → q_Ev sc y (pc + 3) L st h o h2) : q_Ev sc y pc L (.int z :: .int x :: st) h o h2 := ev_icmp hc hb (by dsimp only [q_c1]; split at hf <;> rename_i g <;> first | (rw [if_pos g]; exact k1 g hf) | (rw [if_neg g]; exact k2 g hf))
theorem ev_ic_ge (hc : q_code y pc = some (.if_icmp .ge off, 3, t, b)) (hb : b < 1000) (hf : (if x < z then X else Y) = some r) (k1 : x < z → X = some r → q_Ev sc y (pc + 3) L st h o h2) (k2 : ¬ x < z → Y = some r → q_Ev sc y t L st h o h2) : q_Ev sc y pc L (.int z :: .int x :: st) h o h2 := ev_icmp hc hb (by dsimp only [q_c1]; split at hf <;> rename_i g <;> first | (rw [if_pos g]; exact k1 g hf) | (rw [if_neg g]; exact k2 g hf))
theorem ev_ic_gt (hc : q_code y pc = some (.if_icmp .gt off, 3, t, b)) (hb : b < 1000) (hf : (if z < x then X else Y) = some r) (k1 : z < x → X = some r → q_Ev sc y t L st h o h2) (k2 : ¬ z < x → Y = some r → q_Ev sc y (pc + 3) L st h o h2) : q_Ev sc y pc L (.int z :: .int x :: st) h o h2 := ev_icmp hc hb (by dsimp only [q_c1]; split at hf <;> rename_i g <;> first | (rw [if_pos g]; exact k1 g hf) | (rw [if_neg g]; exact k2 g hf))
theorem ev_ic_le (hc : q_code y pc = some (.if_icmp .le off, 3, t, b)) (hb : b < 1000) (hf : (if z < x then X else Y) = some r) (k1 : z < x → X = some r → q_Ev sc y (pc + 3) L st h o h2) (k2 : ¬ z < x → Y = some r → q_Ev sc y t L st h o h2) : q_Ev sc y pc L (.int z :: .int x :: st) h o h2 := ev_icmp hc hb (by dsimp only [q_c1]; split at hf <;> rename_i g <;> first | (rw [if_pos g]; exact k1 g hf) | (rw [if_neg g]; exact k2 g hf))
/-- stores, with the new list of locals written out -/
theorem ev_is2 {L' : List (Nat × Value)} {j : Nat} {a : Nat} (hc : q_code y pc = some (.istore j, 2, a, b)) (hb : b < 1000) (hL : q_set L j (.int x) = L') (k : q_Ev sc y (pc + 2) L' st h o h2) : q_Ev sc y pc L (.int x :: st) h o h2 := ev_istore hc hb (hL ▸ k)
theorem ev_is1 {L' : List (Nat × Value)} {j : Fin 4} {a : Nat} (hc : q_code y pc = some (.istore_n j, 1, a, b)) (hb : b < 1000) (hL : q_set L j.val (.int x) = L') (k : q_Ev sc y (pc + 1) L' st h o h2) : q_Ev sc y pc L (.int x :: st) h o h2 := ev_istore_n hc hb (hL ▸ k)
theorem ev_as2 {L' : List (Nat × Value)} {j a v : Nat} (hc : q_code y pc = some (.astore j, 2, a, b)) (hb : b < 1000) (hL : q_set L j (.ref v) = L') (k : q_Ev sc y (pc + 2) L' st h o h2) : q_Ev sc y pc L (.ref v :: st) h o h2 := ev_astore hc hb (hL ▸ k)
theorem ev_as1 {L' : List (Nat × Value)} {j : Fin 4} {a v : Nat} (hc : q_code y pc = some (.astore_n j, 1, a, b)) (hb : b < 1000) (hL : q_set L j.val (.ref v) = L') (k : q_Ev sc y (pc + 1) L' st h o h2) : q_Ev sc y pc L (.ref v :: st) h o h2 := ev_astore_n hc hb (hL ▸ k)
theorem ev_inc {L' : List (Nat × Value)} {j a : Nat} {n : Int} {v : Int32} (hc : q_code y pc = some (.iinc j n, 3, a, b)) (hb : b < 1000) (hl : L.lookup j = some (.int x)) (hv : x + Int32.ofInt n = v) (hL : q_set L j (.int v) = L') (k : q_Ev sc y (pc + 3) L' st h o h2) : q_Ev sc y pc L st h o h2 := ev_iinc hc hb hl (by rw [hv]; exact hL ▸ k)
theorem ev_ic {n : Int} {a : Nat} {v : Int32} (hc : q_code y pc = some (.iconst n, 1, a, b)) (hb : b < 1000) (hv : Int32.ofInt n = v) (k : q_Ev sc y (pc + 1) L (.int v :: st) h o h2) : q_Ev sc y pc L st h o h2 := ev_iconst hc hb (hv ▸ k)
theorem ev_bi {n : Int} {a : Nat} {v : Int32} (hc : q_code y pc = some (.bipush n, 2, a, b)) (hb : b < 1000) (hv : (Int8.ofInt n).toInt32 = v) (k : q_Ev sc y (pc + 2) L (.int v :: st) h o h2) : q_Ev sc y pc L st h o h2 := ev_bipush hc hb (hv ▸ k)
theorem ev_si {n : Int} {a : Nat} {v : Int32} (hc : q_code y pc = some (.sipush n, 3, a, b)) (hb : b < 1000) (hv : (Int16.ofInt n).toInt32 = v) (k : q_Ev sc y (pc + 3) L (.int v :: st) h o h2) : q_Ev sc y pc L st h o h2 := ev_sipush hc hb (hv ▸ k)
end QBR
