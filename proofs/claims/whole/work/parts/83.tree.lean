/-! told nodes as one row -/
/-- one behind another -/
def z_cat (f : Nat → List z_N) : Nat → List z_N
  | 0 => []
  | n + 1 => z_cat f n ++ f n
def z_tre (τ : List z_TN) : Nat → Nat → List z_N
  | 0, _ => []
  | f + 1, i => (z_tat τ i).1 :: z_cat (fun q => z_tre τ f (z_tq (z_tat τ i) q)) (z_tn (z_tat τ i))
def z_tree (τ : List z_TN) (i : Nat) : List z_N := z_tre τ (i + 1) i
/-- a pile of nodes, told one after another -/
def z_pil (τ : List z_TN) : List Nat → List z_N
  | [] => []
  | i :: s => z_tree τ i ++ z_pil τ s
theorem z_cat_congr {f g : Nat → List z_N} : ∀ n, (∀ q, q < n → f q = g q) → z_cat f n = z_cat g n
  | 0, _ => rfl
  | n + 1, h => by
    show z_cat f n ++ f n = z_cat g n ++ g n
    rw [z_cat_congr n (fun q hq => h q (by omega)), h n (by omega)]
theorem z_cat_len {f : Nat → List z_N} {g : Nat → Nat} : ∀ n, (∀ q, q < n → (f q).length = g q) → (z_cat f n).length = z_su g n
  | 0, _ => rfl
  | n + 1, h => by
    show (z_cat f n ++ f n).length = z_su g n + g n
    rw [List.length_append, z_cat_len n (fun q hq => h q (by omega)), h n (by omega)]
theorem z_cat_wl {f : Nat → List z_N} : ∀ n, (∀ q, q < n → ∀ c l, z_wl c l = true → z_wl (c + 1) (f q ++ l) = true) → ∀ c l, z_wl c l = true → z_wl (c + n) (z_cat f n ++ l) = true
  | 0, _, _, _, h => h
  | n + 1, hf, c, l, h => by
    show z_wl (c + (n + 1)) ((z_cat f n ++ f n) ++ l) = true
    rw [List.append_assoc, show c + (n + 1) = (c + 1) + n by omega]
    exact z_cat_wl n (fun q hq => hf q (by omega)) (c + 1) (f n ++ l) (hf n (by omega) c l h)
theorem z_cat_mem {f : Nat → List z_N} {x : z_N} : ∀ n, x ∈ z_cat f n → ∃ q, q < n ∧ x ∈ f q
  | 0, h => absurd h (List.not_mem_nil)
  | n + 1, h => by
    rcases List.mem_append.mp (show x ∈ z_cat f n ++ f n from h) with h1 | h1
    · obtain ⟨q, h2, h3⟩ := z_cat_mem n h1
      exact ⟨q, by omega, h3⟩
    · exact ⟨n, by omega, h1⟩
theorem z_su_congr {f g : Nat → Nat} : ∀ n, (∀ q, q < n → f q = g q) → z_su f n = z_su g n
  | 0, _ => rfl
  | n + 1, h => by
    show z_su f n + f n = z_su g n + g n
    rw [z_su_congr n (fun q hq => h q (by omega)), h n (by omega)]
section
variable {τ : List z_TN} {nc : Nat}
theorem z_tre_f (hW : z_tW nc τ) : ∀ (f g i : Nat), i < f → i < g → i < τ.length → z_tre τ f i = z_tre τ g i
  | 0, _, _, h, _, _ => absurd h (Nat.not_lt_zero _)
  | _ + 1, 0, _, _, h, _ => absurd h (Nat.not_lt_zero _)
  | f + 1, g + 1, i, h1, h2, h3 => by
    show (z_tat τ i).1 :: z_cat (fun q => z_tre τ f (z_tq (z_tat τ i) q)) (z_tn (z_tat τ i)) = (z_tat τ i).1 :: z_cat (fun q => z_tre τ g (z_tq (z_tat τ i) q)) (z_tn (z_tat τ i))
    congr 1
    refine z_cat_congr _ (fun q hq => ?_)
    have := (hW.2 i h3).2.2 q hq
    exact z_tre_f hW f g _ (by omega) (by omega) (by omega)
theorem z_tree_eq (hW : z_tW nc τ) {i : Nat} (hi : i < τ.length) : z_tree τ i = (z_tat τ i).1 :: z_cat (fun q => z_tree τ (z_tq (z_tat τ i) q)) (z_tn (z_tat τ i)) := by
  show (z_tat τ i).1 :: z_cat (fun q => z_tre τ i (z_tq (z_tat τ i) q)) (z_tn (z_tat τ i)) = _
  congr 1
  refine z_cat_congr _ (fun q hq => ?_)
  have := (hW.2 i hi).2.2 q hq
  exact z_tre_f hW _ _ _ this (Nat.lt_succ_self _) (by omega)
theorem z_ts_at (hW : z_tW nc τ) {i : Nat} (hi : i < τ.length) : z_ts τ i = 1 + z_su (fun q => z_ts τ (z_tq (z_tat τ i) q)) (z_tn (z_tat τ i)) := by
  have key : ∀ n (σ : List z_TN), σ.length = n → (∀ j, j < σ.length → ∀ q, q < z_tn (z_tat σ j) → z_tq (z_tat σ j) q < j) → ∀ i, i < σ.length → z_ts σ i = 1 + z_su (fun q => z_ts σ (z_tq (z_tat σ i) q)) (z_tn (z_tat σ i)) := by
    intro n
    induction n with
    | zero => intro σ h _ i hi; omega
    | succ n ih =>
      intro σ h hp i hi
      have hne : σ ≠ [] := by intro h2; rw [h2] at h; cases h
      obtain ⟨ρ, t, e⟩ : ∃ ρ t, σ = ρ ++ [t] := ⟨_, _, (List.dropLast_concat_getLast hne).symm⟩
      subst e
      rw [List.length_append] at h hi
      have hl : ρ.length = n := by simpa using h
      have hi : i < ρ.length + 1 := hi
      rcases Nat.lt_succ_iff_lt_or_eq.mp hi with h1 | h1
      · have hp2 : ∀ j, j < ρ.length → ∀ q, q < z_tn (z_tat ρ j) → z_tq (z_tat ρ j) q < j := fun j hj q hq => by
          have := hp j (by rw [List.length_append]; exact Nat.lt_succ_of_lt hj) q
          rw [z_tat_old ρ t hj] at this
          exact this hq
        rw [z_ts_old ρ t h1, z_tat_old ρ t h1, ih ρ hl hp2 i h1]
        congr 1
        refine z_su_congr _ (fun q hq => ?_)
        rw [z_ts_old ρ t (by have := hp2 i h1 q hq; omega)]
      · rw [h1, z_ts_new, z_tat_new]
        congr 1
        refine z_su_congr _ (fun q hq => ?_)
        have := hp ρ.length (by rw [List.length_append]; exact Nat.lt_succ_self _) q
        rw [z_tat_new] at this
        rw [z_ts_old ρ t (this hq)]
  exact key _ τ rfl (fun j hj => (hW.2 j hj).2.2) i hi
theorem z_tree_len (hW : z_tW nc τ) : ∀ (n i : Nat), i < n → i < τ.length → (z_tree τ i).length = z_ts τ i
  | 0, _, h, _ => absurd h (Nat.not_lt_zero _)
  | n + 1, i, h, hi => by
    rw [z_tree_eq hW hi, z_ts_at hW hi, List.length_cons, Nat.add_comm]
    congr 1
    refine z_cat_len _ (fun q hq => ?_)
    have := (hW.2 i hi).2.2 q hq
    exact z_tree_len hW n _ (by omega) (by omega)
theorem z_tree_wl (hW : z_tW nc τ) : ∀ (n i : Nat), i < n → i < τ.length → ∀ c l, z_wl c l = true → z_wl (c + 1) (z_tree τ i ++ l) = true
  | 0, _, h, _ => absurd h (Nat.not_lt_zero _)
  | n + 1, i, h, hi => by
    intro c l hl
    rw [z_tree_eq hW hi]
    show z_wl (c + z_pn (z_tat τ i).1.1 (z_tat τ i).1.2.2) _ = true
    refine z_cat_wl _ (fun q hq => ?_) c l hl
    have := (hW.2 i hi).2.2 q hq
    exact z_tree_wl hW n _ (by omega) (by omega)
theorem z_tree_mem (hW : z_tW nc τ) : ∀ (n i : Nat), i < n → i < τ.length → ∀ x ∈ z_tree τ i, z_wN nc x
  | 0, _, h, _ => absurd h (Nat.not_lt_zero _)
  | n + 1, i, h, hi => by
    intro x hx
    rw [z_tree_eq hW hi] at hx
    rcases List.mem_cons.mp hx with h1 | h1
    · rw [h1]; exact (hW.2 i hi).1
    · obtain ⟨q, hq, h2⟩ := z_cat_mem _ h1
      have := (hW.2 i hi).2.2 q hq
      exact z_tree_mem hW n _ (by omega) (by omega) x h2
theorem z_tree_wB (hW : z_tW nc τ) {i : Nat} (hi : i < τ.length) : z_wB nc (z_tree τ i) := by
  refine ⟨?_, z_tree_mem hW (i + 1) i (Nat.lt_succ_self _) hi⟩
  have := z_tree_wl hW (i + 1) i (Nat.lt_succ_self _) hi 0 [] rfl
  rw [List.append_nil] at this
  exact this
theorem z_pil_cat (f : Nat → Nat) (s : List Nat) : ∀ (k n : Nat), z_pil τ ((List.range' k n).map f ++ s) = z_cat (fun q => z_tree τ (f (k + q))) n ++ z_pil τ s
  | _, 0 => rfl
  | k, n + 1 => by
    rw [List.range'_succ, List.map_cons, List.cons_append]
    show z_tree τ (f k) ++ z_pil τ ((List.range' (k + 1) n).map f ++ s) = _
    rw [z_pil_cat f s (k + 1) n, ← List.append_assoc]
    congr 1
    have : ∀ n, z_tree τ (f k) ++ z_cat (fun q => z_tree τ (f (k + 1 + q))) n = z_cat (fun q => z_tree τ (f (k + q))) (n + 1) := by
      intro n
      induction n with
      | zero => simp [z_cat]
      | succ n ih =>
        show z_tree τ (f k) ++ (z_cat (fun q => z_tree τ (f (k + 1 + q))) n ++ z_tree τ (f (k + 1 + n))) = z_cat (fun q => z_tree τ (f (k + q))) (n + 1) ++ z_tree τ (f (k + (n + 1)))
        rw [← List.append_assoc, ih, show k + 1 + n = k + (n + 1) by omega]
    exact this n
end
