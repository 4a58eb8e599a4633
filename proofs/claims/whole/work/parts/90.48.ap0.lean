-- deps: 90.47.men3
/-! an argument more: the rows -/
section
variable {l : List z_N} {s : Nat → Bool} {v : Int32}
/-- how many of a set are closed here -/
def z_apc (l : List z_N) (s : Nat → Bool) (i : Nat) : Nat := z_ct (fun j => s j && z_en l j == i) i
/-- how many of a set are open behind here -/
def z_apo (l : List z_N) (s : Nat → Bool) (i : Nat) : Nat := z_ct (fun j => s j && decide (i < z_en l j)) i
def z_apN (l : List z_N) (s : Nat → Bool) (i : Nat) : z_N := if s i = true then (z_k l i, z_v l i, z_a l i + 1) else z_at l i
def z_apg (l : List z_N) (s : Nat → Bool) (v : Int32) (i : Nat) : List z_N := z_apN l s i :: List.replicate (z_apc l s (i + 1)) (0, v, 0)
def z_apD (l : List z_N) (s : Nat → Bool) (v : Int32) : List z_N := z_cat (z_apg l s v) l.length
theorem z_ct_dj {a b c : Nat → Bool} : ∀ n, (∀ j, j < n → (if a j = true then 1 else 0) + (if b j = true then 1 else 0) = (if c j = true then 1 else (0 : Nat))) → z_ct a n + z_ct b n = z_ct c n
  | 0, _ => rfl
  | n + 1, h => by
    have h1 := z_ct_dj (a := a) (b := b) (c := c) n (fun j hj => h j (by omega))
    have h2 := h n (by omega)
    rw [z_ct_s, z_ct_s, z_ct_s]; omega
theorem z_ap_st {i : Nat} (hi : i < l.length) : z_apo l s (i + 1) + z_apc l s (i + 1) = z_apo l s i + (if s i = true then 1 else 0) := by
  unfold z_apo z_apc
  rw [z_ct_dj (c := fun j => s j && decide (i < z_en l j)) (i + 1) (fun j _ => ?_)]
  · rw [z_ct_s]
    have := z_en_gt hi
    cases g : s i with
    | true => rw [decide_eq_true this]; rfl
    | false => rfl
  · cases g : s j with
    | false => rfl
    | true =>
      by_cases h1 : i + 1 < z_en l j
      · rw [decide_eq_true h1, decide_eq_true (show i < z_en l j by omega), show (z_en l j == i + 1) = false by simp; omega]; rfl
      · rw [decide_eq_false h1]
        by_cases h2 : z_en l j = i + 1
        · rw [show (z_en l j == i + 1) = true by simpa using h2, decide_eq_true (show i < z_en l j by omega)]; rfl
        · rw [show (z_en l j == i + 1) = false by simpa using h2, decide_eq_false (show ¬ i < z_en l j by omega)]; rfl
theorem z_ap_len : ∀ i, i ≤ l.length → (z_cat (z_apg l s v) i).length + z_apo l s i = i + z_ct s i
  | 0, _ => rfl
  | i + 1, hi => by
    have h1 := z_ap_len i (by omega)
    have h2 := z_ap_st (s := s) (show i < l.length by omega)
    rw [z_ct_s]
    show (z_cat (z_apg l s v) i ++ z_apg l s v i).length + _ = _
    rw [List.length_append]
    have h3 : (z_apg l s v i).length = z_apc l s (i + 1) + 1 := by unfold z_apg; rw [List.length_cons, List.length_replicate]
    omega
theorem z_apo_0 (ht : z_tr l) : z_apo l s l.length = 0 := by
  unfold z_apo
  have : ∀ n, n ≤ l.length → z_ct (fun j => s j && decide (l.length < z_en l j)) n = 0 := by
    intro n
    induction n with
    | zero => intro _; rfl
    | succ n ih =>
      intro hn
      rw [z_ct_s, ih (by omega)]
      have := z_en_le ht (i := n) (by omega)
      rw [decide_eq_false (show ¬ l.length < z_en l n by omega), Bool.and_false]; rfl
  exact this _ (Nat.le_refl _)
theorem z_apD_len (ht : z_tr l) : (z_apD l s v).length = l.length + z_ct s l.length := by
  have := z_ap_len (s := s) (v := v) (l := l) l.length (Nat.le_refl _)
  rw [z_apo_0 ht] at this; exact this
theorem z_wl_rep (v : Int32) : ∀ (r c : Nat) (t : List z_N), z_wl (c + r) (List.replicate r (0, v, 0) ++ t) = z_wl c t
  | 0, _, _ => rfl
  | r + 1, c, t => by
    rw [List.replicate_succ, List.cons_append, show c + (r + 1) = (c + r) + 1 by omega]
    show z_wl (c + r + z_pn 0 0) _ = _
    exact z_wl_rep v r c t
/-- a tree comes of it -/
theorem z_ap_wl (ht : z_tr l) (hs : ∀ i, i < l.length → s i = true → z_pn (z_k l i) (z_a l i + 1) = z_p l i + 1) : ∀ i, i ≤ l.length → ∃ c, z_wl c (l.drop i) = true ∧ ∀ t, z_wl 1 (z_cat (z_apg l s v) i ++ t) = z_wl (c + z_apo l s i) t
  | 0, _ => ⟨1, ht, fun _ => rfl⟩
  | i + 1, hi => by
    obtain ⟨c, h1, h2⟩ := z_ap_wl ht hs i (by omega)
    have hi' : i < l.length := by omega
    have ed : l.drop i = z_at l i :: l.drop (i + 1) := by
      rw [List.drop_eq_getElem_cons hi']
      unfold z_at
      rw [List.getD_eq_getElem?_getD, List.getElem?_eq_getElem hi']; rfl
    rw [ed] at h1
    cases c with
    | zero => cases h1
    | succ c =>
      refine ⟨c + z_p l i, h1, fun t => ?_⟩
      show z_wl 1 ((z_cat (z_apg l s v) i ++ z_apg l s v i) ++ t) = _
      rw [List.append_assoc, h2]
      unfold z_apg
      rw [List.cons_append, show c + 1 + z_apo l s i = (c + z_apo l s i) + 1 by omega]
      show z_wl (c + z_apo l s i + z_pn (z_apN l s i).1 (z_apN l s i).2.2) _ = _
      have hp : z_pn (z_apN l s i).1 (z_apN l s i).2.2 = z_p l i + (if s i = true then 1 else 0) := by
        unfold z_apN
        by_cases g : s i = true
        · rw [if_pos g, if_pos g]; exact hs i hi' g
        · rw [if_neg g, if_neg g]; rfl
      have hst := z_ap_st (s := s) hi'
      rw [hp, show c + z_apo l s i + (z_p l i + (if s i = true then 1 else 0)) = (c + z_p l i + z_apo l s (i + 1)) + z_apc l s (i + 1) by omega]
      exact z_wl_rep v _ _ t
theorem z_apD_tr (ht : z_tr l) (hs : ∀ i, i < l.length → s i = true → z_pn (z_k l i) (z_a l i + 1) = z_p l i + 1) : z_tr (z_apD l s v) := by
  obtain ⟨c, h1, h2⟩ := z_ap_wl (v := v) ht hs l.length (Nat.le_refl _)
  have := h2 []
  rw [List.append_nil, z_apo_0 ht] at this
  unfold z_tr z_apD
  rw [this]
  rw [List.drop_length] at h1
  exact h1
theorem z_cat_mem2 {f : Nat → List z_N} {x : z_N} {n : Nat} (h : x ∈ z_cat f n) : ∃ q, q < n ∧ x ∈ f q := z_cat_mem n h
theorem z_apD_wB {nc : Nat} (hB : z_wB nc l) (hs : ∀ i, i < l.length → s i = true → z_k l i = 7 ∧ (z_a l i = 0 ∨ z_a l i = 1)) : z_wB nc (z_apD l s v) := by
  refine ⟨z_apD_tr hB.1 (fun i hi h => ?_), fun x hx => ?_⟩
  · obtain ⟨h7, ha⟩ := hs i hi h
    unfold z_p
    rw [h7]
    rcases ha with q | q <;> rw [q] <;> rfl
  · obtain ⟨i, hi, hx⟩ := z_cat_mem2 hx
    have hN := z_wN_at hB hi
    unfold z_apg at hx
    rcases List.mem_cons.mp hx with rfl | hx
    · unfold z_apN
      by_cases g : s i = true
      · rw [if_pos g]
        obtain ⟨h7, ha⟩ := hs i hi g
        have hn := hN.2.2.1 (Or.inr (Or.inr (Or.inr (Or.inr (Or.inr h7)))))
        have h77 : z_k l i = 7 := h7
        rw [h77]
        refine z_wN_7 ?_ hn
        rcases ha with q | q <;> rw [q]
        · exact Or.inr (Or.inl rfl)
        · exact Or.inr (Or.inr rfl)
      · rw [if_neg g]; exact hN
    · rw [List.eq_of_mem_replicate hx]
      exact ⟨⟨0, by decide, rfl⟩, rfl, fun q => by simp at q, fun q => by simp at q⟩
end
