-- deps: 90.20.chg
/-! rows made place by place, and out of pieces -/
def z_lm (g : Nat → z_N) (n : Nat) : List z_N := (List.range n).map g
section
variable {g h : Nat → z_N} {n i : Nat} {l : List z_N}
theorem z_lm_len : (z_lm g n).length = n := by unfold z_lm; simp
theorem z_lm_at (hi : i < n) : z_at (z_lm g n) i = g i := by
  unfold z_at z_lm
  rw [List.getD_eq_getElem?_getD, List.getElem?_map, List.getElem?_range hi]
  rfl
theorem z_lm_congr (h1 : ∀ i, i < n → g i = h i) : z_lm g n = z_lm h n := by
  unfold z_lm
  refine List.map_congr_left (fun i hi => h1 i ?_)
  simpa using hi
theorem z_lm_id : z_lm (z_at l) l.length = l := by
  refine List.ext_getElem? (fun i => ?_)
  unfold z_lm
  rw [List.getElem?_map]
  rcases Nat.lt_or_ge i l.length with g | g
  · rw [List.getElem?_range g, List.getElem?_eq_getElem g]
    unfold z_at
    rw [Option.map_some, List.getD_eq_getElem?_getD, List.getElem?_eq_getElem g]; rfl
  · rw [List.getElem?_eq_none (by simpa using g), List.getElem?_eq_none g]; rfl
/-- rows of one length, with as many parts at each place -/
theorem z_wl_pn : ∀ (l l' : List z_N) (c : Nat), l.length = l'.length → (∀ i, i < l.length → z_p l i = z_p l' i) → z_wl c l = z_wl c l'
  | [], [], _, _, _ => rfl
  | [], _ :: _, _, h, _ => absurd h (by simp)
  | _ :: _, [], _, h, _ => absurd h (by simp)
  | x :: t, y :: s, c, h, hp => by
    cases c with
    | zero => rfl
    | succ c =>
      have h0 : z_pn x.1 x.2.2 = z_pn y.1 y.2.2 := hp 0 (by simp)
      show z_wl (c + z_pn x.1 x.2.2) t = z_wl (c + z_pn y.1 y.2.2) s
      rw [h0]
      exact z_wl_pn t s _ (by simpa using h) (fun i hi => hp (i + 1) (by simpa using hi))
theorem z_mem_at {x : z_N} (hx : x ∈ l) : ∃ i, i < l.length ∧ x = z_at l i := by
  obtain ⟨i, hi, e⟩ := List.getElem_of_mem hx
  refine ⟨i, hi, ?_⟩
  unfold z_at
  rw [List.getD_eq_getElem?_getD, List.getElem?_eq_getElem hi]
  exact e.symm
theorem z_lm_wB {nc : Nat} (hB : z_wB nc l) (h1 : ∀ i, i < l.length → z_pn (g i).1 (g i).2.2 = z_p l i ∧ z_wN nc (g i)) : z_wB nc (z_lm g l.length) := by
  refine ⟨?_, fun x hx => ?_⟩
  · have := z_wl_pn (z_lm g l.length) l 1 z_lm_len (fun i hi => by
      rw [z_lm_len] at hi
      have e : z_p (z_lm g l.length) i = z_pn (g i).1 (g i).2.2 := by
        unfold z_p z_k z_a; rw [z_lm_at hi]
      rw [e]; exact (h1 i hi).1)
    show z_wl 1 (z_lm g l.length) = true
    rw [this]; exact hB.1
  · obtain ⟨i, hi, rfl⟩ := z_mem_at hx
    rw [z_lm_len] at hi
    rw [z_lm_at hi]; exact (h1 i hi).2
/-- nodes have the effect of others -/
def z_net (a b : List z_N) : Prop := ∀ c t, z_wl c (a ++ t) = z_wl c (b ++ t)
theorem z_net.refl (a : List z_N) : z_net a a := fun _ _ => rfl
theorem z_net.trans {a b c : List z_N} (h : z_net a b) (h2 : z_net b c) : z_net a c := fun k t => (h k t).trans (h2 k t)
theorem z_net.symm {a b : List z_N} (h : z_net a b) : z_net b a := fun k t => (h k t).symm
theorem z_net_cons (x : z_N) {a b : List z_N} (h : z_net a b) : z_net (x :: a) (x :: b) := fun c t => by
  cases c with
  | zero => rfl
  | succ c => exact h _ t
theorem z_net_pre (x : List z_N) {a b : List z_N} (h : z_net a b) : z_net (x ++ a) (x ++ b) := by
  induction x with
  | nil => exact h
  | cons y x ih => exact z_net_cons y ih
theorem z_net_app {a b c d : List z_N} (h : z_net a b) (h2 : z_net c d) : z_net (a ++ c) (b ++ d) := fun k t => by
  rw [List.append_assoc, List.append_assoc, h k (c ++ t)]
  have := z_net_pre b h2 k t
  rw [List.append_assoc, List.append_assoc] at this
  exact this
theorem z_net_1 {x y : z_N} (h : z_pn x.1 x.2.2 = z_pn y.1 y.2.2) : z_net [x] [y] := fun c t => by
  cases c with
  | zero => rfl
  | succ c => show z_wl (c + z_pn x.1 x.2.2) t = z_wl (c + z_pn y.1 y.2.2) t; rw [h]
theorem z_net_wl {a b : List z_N} (h : z_net a b) (c : Nat) : z_wl c a = z_wl c b := by
  have := h c []
  rw [List.append_nil, List.append_nil] at this
  exact this
/-- a variable made plain is as good as the variable -/
theorem z_net_pln {k name v a : Int32} (hk : k = 1 ∨ k = 6) (ha : a = 0) : z_net (z_pln k name) [(k, v, a)] := fun c t => by
  cases c with
  | zero => rfl
  | succ c =>
    rcases hk with rfl | rfl
    · show z_wl (c + z_pn 3 0) ((2, 0, 0) :: t) = z_wl (c + z_pn 1 a) t
      rw [show z_pn 3 0 = 1 by decide, ha, show z_pn 1 0 = 0 by decide]
      show z_wl (c + z_pn 2 0) t = _
      rw [show z_pn 2 0 = 0 by decide]
    · show z_wl (c + z_pn 4 0) ((2, 0, 0) :: t) = z_wl (c + z_pn 6 a) t
      rw [show z_pn 4 0 = 2 by decide, ha, show z_pn 6 0 = 1 by decide]
      show z_wl (c + 1 + z_pn 2 0) t = _
      rw [show z_pn 2 0 = 0 by decide]
theorem z_cat_net {f g : Nat → List z_N} : ∀ n, (∀ i, i < n → z_net (f i) (g i)) → z_net (z_cat f n) (z_cat g n)
  | 0, _ => z_net.refl _
  | n + 1, h => z_net_app (z_cat_net n (fun i hi => h i (by omega))) (h n (by omega))
theorem z_cat_one : ∀ n, n ≤ l.length → z_cat (fun i => [z_at l i]) n = l.take n
  | 0, _ => rfl
  | n + 1, h => by
    show z_cat (fun i => [z_at l i]) n ++ [z_at l n] = l.take (n + 1)
    rw [z_cat_one n (by omega)]
    have e : z_at l n = l[n] := by
      unfold z_at
      rw [List.getD_eq_getElem?_getD, List.getElem?_eq_getElem h]; rfl
    rw [e, List.take_succ_eq_append_getElem h]
theorem z_cat_all : z_cat (fun i => [z_at l i]) l.length = l := by rw [z_cat_one _ (Nat.le_refl _), List.take_length]
/-- a body out of pieces, one for each node -/
theorem z_cat_wB {nc : Nat} {f : Nat → List z_N} (hB : z_wB nc l) (h1 : ∀ i, i < l.length → z_net (f i) [z_at l i] ∧ ∀ x ∈ f i, z_wN nc x) : z_wB nc (z_cat f l.length) := by
  refine ⟨?_, fun x hx => ?_⟩
  · have := z_net_wl (z_cat_net (f := f) (g := fun i => [z_at l i]) l.length (fun i hi => (h1 i hi).1)) 1
    show z_wl 1 (z_cat f l.length) = true
    rw [this, z_cat_all]; exact hB.1
  · obtain ⟨i, hi, hx2⟩ := z_cat_mem _ hx
    exact (h1 i hi).2 x hx2
theorem z_pln_wN {nc : Nat} {k name : Int32} (hn : ∃ n, n < 16 ∧ name = nI n) : ∀ x ∈ z_pln k name, z_wN nc x := by
  intro x hx
  unfold z_pln at hx
  rcases List.mem_cons.mp hx with rfl | hx
  · split
    · exact z_wN_3 hn
    · exact z_wN_4 hn
  · rcases List.mem_cons.mp hx with rfl | hx
    · exact z_wN_2
    · exact absurd hx (List.not_mem_nil)
/-- another name for a node that has one -/
theorem z_wN_nm {nc : Nat} {y : z_N} {name : Int32} (h : z_wN nc y) (h8 : y.1 ≠ 8) (hn : ∃ n, n < 16 ∧ name = nI n) : z_wN nc (y.1, name, y.2.2) := ⟨h.1, h.2.1, fun _ => hn, fun g => absurd g h8⟩
end
