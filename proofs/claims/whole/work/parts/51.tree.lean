/-! bodies: rows of nodes, each ahead of its parts -/
abbrev z_N : Type := Int32 × Int32 × Int32
def z_pn (k a : Int32) : Nat := if k = 3 ∨ k = 6 ∨ k = 12 then 1 else if k = 4 ∨ k = 5 ∨ k = 9 ∨ k = 11 ∨ k = 13 then 2 else if k = 7 then 1 + a.toNatClampNeg else if k = 10 then 3 else 0
def z_at (l : List z_N) (i : Nat) : z_N := l.getD i (0, 0, 0)
def z_k (l : List z_N) (i : Nat) : Int32 := (z_at l i).1
def z_v (l : List z_N) (i : Nat) : Int32 := (z_at l i).2.1
def z_a (l : List z_N) (i : Nat) : Int32 := (z_at l i).2.2
def z_p (l : List z_N) (i : Nat) : Nat := z_pn (z_k l i) (z_a l i)
/-- how long the first p of consecutive trees are, out of the sizes at each place -/
def z_sk : Nat → List Nat → Nat
  | 0, _ => 0
  | _ + 1, [] => 0
  | p + 1, a :: s => a + z_sk p ((a :: s).drop a)
theorem z_sk_nil : ∀ p : Nat, z_sk p [] = 0
  | 0 => rfl
  | _ + 1 => rfl
theorem z_sk_add : ∀ (p q : Nat) (s : List Nat), z_sk (p + q) s = z_sk p s + z_sk q (s.drop (z_sk p s))
  | 0, q, s => by simp [z_sk]
  | p + 1, q, [] => by simp [z_sk_nil]
  | p + 1, q, a :: s => by
    rw [show p + 1 + q = (p + q) + 1 by omega]
    show a + z_sk (p + q) ((a :: s).drop a) = (a + z_sk p ((a :: s).drop a)) + z_sk q ((a :: s).drop (a + z_sk p ((a :: s).drop a)))
    rw [z_sk_add p q, List.drop_drop, Nat.add_assoc]
theorem z_sk_1 (s : List Nat) : z_sk 1 s = s.getD 0 0 := by
  cases s with
  | nil => rfl
  | cons a s => simp [z_sk]
theorem z_sk_succ (p : Nat) (s : List Nat) : z_sk (p + 1) s = z_sk p s + s.getD (z_sk p s) 0 := by
  rw [z_sk_add p 1, z_sk_1]
  simp [List.getD]
def z_szs : List z_N → List Nat
  | [] => []
  | x :: l => (1 + z_sk (z_pn x.1 x.2.2) (z_szs l)) :: z_szs l
theorem z_szs_len : ∀ l : List z_N, (z_szs l).length = l.length
  | [] => rfl
  | x :: l => by simp [z_szs, z_szs_len l]
theorem z_szs_drop : ∀ (i : Nat) (l : List z_N), (z_szs l).drop i = z_szs (l.drop i)
  | 0, l => rfl
  | i + 1, [] => by simp [z_szs]
  | i + 1, x :: l => by simp [z_szs, z_szs_drop i l]
def z_sz (l : List z_N) (i : Nat) : Nat := (z_szs l).getD i 0
def z_en (l : List z_N) (i : Nat) : Nat := i + z_sz l i
/-- where a part of a node begins -/
def z_pt (l : List z_N) (i j : Nat) : Nat := i + 1 + z_sk j (z_szs (l.drop (i + 1)))
theorem z_pt_0 (l : List z_N) (i : Nat) : z_pt l i 0 = i + 1 := rfl
theorem z_pt_s (l : List z_N) (i j : Nat) : z_pt l i (j + 1) = z_en l (z_pt l i j) := by
  unfold z_pt z_en z_sz
  rw [z_sk_succ, ← z_szs_drop]
  simp [List.getD]
  omega
theorem z_drop_cons {l : List z_N} {i : Nat} (h : i < l.length) : l.drop i = z_at l i :: l.drop (i + 1) := by
  rw [List.drop_eq_getElem_cons h]
  unfold z_at
  rw [List.getD_eq_getElem?_getD, List.getElem?_eq_getElem h]
  rfl
theorem z_sz_eq {l : List z_N} {i : Nat} (h : i < l.length) : z_sz l i = 1 + z_sk (z_p l i) (z_szs (l.drop (i + 1))) := by
  have h1 : z_sz l i = ((z_szs l).drop i).getD 0 0 := by unfold z_sz; simp [List.getD]
  rw [h1, z_szs_drop, z_drop_cons h]
  rfl
theorem z_en_eq {l : List z_N} {i : Nat} (h : i < l.length) : z_en l i = z_pt l i (z_p l i) := by
  unfold z_en z_pt
  rw [z_sz_eq h]
  omega
theorem z_sz_out {l : List z_N} {i : Nat} (h : l.length ≤ i) : z_sz l i = 0 := by
  unfold z_sz
  rw [List.getD_eq_getElem?_getD, List.getElem?_eq_none (by rw [z_szs_len]; exact h)]
  rfl
theorem z_en_gt {l : List z_N} {i : Nat} (h : i < l.length) : i < z_en l i := by
  unfold z_en
  rw [z_sz_eq h]; omega
/-- so many trees, one behind another, and nothing else -/
def z_wl : Nat → List z_N → Bool
  | c, [] => c == 0
  | 0, _ :: _ => false
  | c + 1, x :: l => z_wl (c + z_pn x.1 x.2.2) l
theorem z_wl_suf : ∀ (n : Nat) (l : List z_N), l.length ≤ n → ∀ c j, z_wl c l = true → j ≤ c → z_wl (c - j) (l.drop (z_sk j (z_szs l))) = true ∧ z_sk j (z_szs l) ≤ l.length
  | n, l, hn, c, 0, h, _ => by
    refine ⟨?_, Nat.zero_le _⟩
    show z_wl (c - 0) (l.drop 0) = true
    exact h
  | n, [], hn, c, j + 1, h, hj => by
    unfold z_wl at h
    have : c = 0 := by simpa using h
    omega
  | 0, x :: t, hn, c, j + 1, h, hj => by simp at hn
  | n + 1, x :: t, hn, 0, j + 1, h, hj => by omega
  | n + 1, x :: t, hn, c + 1, j + 1, h, hj => by
    have hl : t.length ≤ n := by simpa using hn
    unfold z_wl at h
    obtain ⟨h1, h2⟩ := z_wl_suf n t hl (c + z_pn x.1 x.2.2) (z_pn x.1 x.2.2) h (by omega)
    rw [show c + z_pn x.1 x.2.2 - z_pn x.1 x.2.2 = c by omega] at h1
    obtain ⟨h3, h4⟩ := z_wl_suf n (t.drop (z_sk (z_pn x.1 x.2.2) (z_szs t))) (by rw [List.length_drop]; omega) c j h1 (by omega)
    have e : z_sk (j + 1) (z_szs (x :: t)) = (z_sk (z_pn x.1 x.2.2) (z_szs t) + 1) + z_sk j (z_szs (t.drop (z_sk (z_pn x.1 x.2.2) (z_szs t)))) := by
      show (1 + z_sk (z_pn x.1 x.2.2) (z_szs t)) + z_sk j (((1 + z_sk (z_pn x.1 x.2.2) (z_szs t)) :: z_szs t).drop (1 + z_sk (z_pn x.1 x.2.2) (z_szs t))) = _
      rw [Nat.add_comm 1, List.drop_succ_cons, z_szs_drop]
    rw [e]
    constructor
    · rw [show c + 1 - (j + 1) = c - j by omega, ← List.drop_drop, List.drop_succ_cons]
      exact h3
    · rw [List.length_drop] at h4
      rw [List.length_cons]; omega
theorem z_wl_pos {c : Nat} {l : List z_N} (h : z_wl (c + 1) l = true) : 0 < l.length := by
  cases l with
  | nil => unfold z_wl at h; simp at h
  | cons x t => simp
theorem z_wl_0 {l : List z_N} (h : z_wl 0 l = true) : l = [] := by
  cases l with
  | nil => rfl
  | cons x t => unfold z_wl at h; simp at h
theorem z_wl_drop : ∀ (i c : Nat) (l : List z_N), z_wl c l = true → i ≤ l.length → ∃ c', z_wl c' (l.drop i) = true
  | 0, c, l, h, _ => ⟨c, h⟩
  | i + 1, c, [], h, hi => by simp at hi
  | i + 1, 0, x :: t, h, hi => by unfold z_wl at h; simp at h
  | i + 1, c + 1, x :: t, h, hi => by
    unfold z_wl at h
    exact z_wl_drop i _ t h (by simpa using hi)
/-- a body is one tree -/
def z_tr (l : List z_N) : Prop := z_wl 1 l = true
section
variable {l : List z_N} {i : Nat}
theorem z_tr_pos (h : z_tr l) : 0 < l.length := z_wl_pos (c := 0) h
theorem z_tr_suf (h : z_tr l) (hi : i < l.length) : ∃ c, z_wl (c + z_p l i) (l.drop (i + 1)) = true := by
  obtain ⟨c, hc⟩ := z_wl_drop i 1 l h (Nat.le_of_lt hi)
  rw [z_drop_cons hi] at hc
  cases c with
  | zero => unfold z_wl at hc; simp at hc
  | succ c => exact ⟨c, hc⟩
theorem z_pt_le (h : z_tr l) (hi : i < l.length) {j : Nat} (hj : j ≤ z_p l i) : z_pt l i j ≤ l.length := by
  obtain ⟨c, hc⟩ := z_tr_suf h hi
  have := (z_wl_suf _ _ (Nat.le_refl _) _ j hc (by omega)).2
  unfold z_pt
  rw [List.length_drop] at this
  omega
theorem z_pt_lt (h : z_tr l) (hi : i < l.length) {j : Nat} (hj : j < z_p l i) : z_pt l i j < l.length := by
  obtain ⟨c, hc⟩ := z_tr_suf h hi
  have h1 := (z_wl_suf _ _ (Nat.le_refl _) _ j hc (by omega)).1
  rw [show c + z_p l i - j = (c + z_p l i - j - 1) + 1 by omega] at h1
  have h2 := z_wl_pos h1
  rw [List.length_drop, List.length_drop] at h2
  unfold z_pt
  omega
theorem z_en_le (h : z_tr l) (hi : i < l.length) : z_en l i ≤ l.length := by
  rw [z_en_eq hi]; exact z_pt_le h hi (Nat.le_refl _)
theorem z_en_0 (h : z_tr l) : z_en l 0 = l.length := by
  have h1 := (z_wl_suf _ _ (Nat.le_refl _) 1 1 h (Nat.le_refl 1))
  have h2 := z_wl_0 h1.1
  rw [z_sk_1] at h1 h2
  unfold z_en z_sz
  have h3 := congrArg List.length h2
  rw [List.length_drop, List.length_nil] at h3
  omega
theorem z_pt_ge (j : Nat) : i < z_pt l i j := by unfold z_pt; omega
/-- what lies within a node lies within one of its parts -/
theorem z_within (hi : i < l.length) {j : Nat} (h1 : i < j) (h2 : j < z_en l i) : ∃ q, q < z_p l i ∧ z_pt l i q ≤ j ∧ j < z_pt l i (q + 1) := by
  rw [z_en_eq hi] at h2
  have key : ∀ n, j < z_pt l i n → ∃ q, q < n ∧ z_pt l i q ≤ j ∧ j < z_pt l i (q + 1) := by
    intro n
    induction n with
    | zero => intro h; rw [z_pt_0] at h; omega
    | succ n ih =>
      intro h
      rcases Nat.lt_or_ge j (z_pt l i n) with h3 | h3
      · obtain ⟨q, h4, h5⟩ := ih h3
        exact ⟨q, by omega, h5⟩
      · exact ⟨n, by omega, h3, h⟩
  exact key _ h2
theorem z_pt_mono {j j' : Nat} (h : j ≤ j') : z_pt l i j ≤ z_pt l i j' := by
  induction h with
  | refl => exact Nat.le_refl _
  | step _ ih =>
    refine Nat.le_trans ih ?_
    rw [z_pt_s]; unfold z_en; omega
theorem z_pt_en (hi : i < l.length) {j : Nat} (hj : j < z_p l i) : z_en l (z_pt l i j) ≤ z_en l i := by
  rw [← z_pt_s, z_en_eq hi]
  exact z_pt_mono hj
/-- nodes are within one another or apart -/
theorem z_lam (h : z_tr l) : ∀ (n i j : Nat), z_en l i - i ≤ n → i < l.length → i < j → j < z_en l i → z_en l j ≤ z_en l i
  | 0, i, j, hn, hi, h1, h2 => by omega
  | n + 1, i, j, hn, hi, h1, h2 => by
    obtain ⟨q, hq, h3, h4⟩ := z_within hi h1 h2
    have h5 := z_pt_en hi hq
    rw [z_pt_s] at h4
    rcases Nat.eq_or_lt_of_le h3 with h6 | h6
    · rw [← h6]; exact h5
    · have h7 := z_pt_ge (l := l) (i := i) q
      exact Nat.le_trans (z_lam h n (z_pt l i q) j (by omega) (z_pt_lt h hi hq) h6 h4) h5
theorem z_lam' (h : z_tr l) {j : Nat} (hi : i < l.length) (h1 : i < j) (h2 : j < z_en l i) : z_en l j ≤ z_en l i := z_lam h _ i j (Nat.le_refl _) hi h1 h2
theorem z_pt_gj (h : z_tr l) (hi : i < l.length) : ∀ j, j ≤ z_p l i → i + 1 + j ≤ z_pt l i j
  | 0, _ => Nat.le_refl _
  | j + 1, hj => by
    have h1 := z_pt_gj h hi j (by omega)
    have h2 := z_en_gt (z_pt_lt h hi (j := j) (by omega))
    rw [z_pt_s]; omega
theorem z_p_lt (h : z_tr l) (hi : i < l.length) : z_p l i < l.length := by
  have h1 := z_pt_gj h hi _ (Nat.le_refl _)
  have h2 := z_pt_le h hi (Nat.le_refl _)
  omega
end
