/-! types and what is bound, in the abstract -/
/-- the innermost LET of a name in whose b a place stands -/
def z_le (l : List z_N) (p : Nat) (name : Int32) : Option Nat := z_lst (fun i => z_k l i == 5 && (z_v l i == name && (decide (p < z_en l i) && decide (z_en l (i + 1) ≤ p)))) p
/-- what a name at a place is bound to: a LET, -1, -2, 1000 and a class; -9 -/
def z_bv (P : z_Pg) (k : Nat) (l : List z_N) (p : Nat) (name : Int32) : Int32 := match z_le l p name with
  | some i => nI i
  | none => if 0 < z_cnt P k ∧ z_hd P k 4 = name then -1 else if 1 < z_cnt P k ∧ z_hd P k 5 = name then -2 else match z_fc P (z_own P k) name.toNatClampNeg with
    | some c => nI (1000 + c)
    | none => -9
def z_fit (P : z_Pg) (t w : Int32) : Bool := t == -2 || (t == w || (decide (0 ≤ t) && (decide (0 ≤ w) && z_blw P t.toNatClampNeg w.toNatClampNeg)))
def z_jn (P : z_Pg) (a b : Int32) : Int32 := if z_fit P b a = true then a else if z_fit P a b = true then b else -3
def z_num (t : Int32) : Bool := t == -1 || t == -2
/-- the type of what is bound -/
def z_tb (P : z_Pg) (k : Nat) (l : List z_N) (T : Nat → Int32) (p : Nat) (name : Int32) : Int32 := match z_le l p name with
  | some i => T (i + 1)
  | none => if 0 < z_cnt P k ∧ z_hd P k 4 = name then z_hd P k 6 else if 1 < z_cnt P k ∧ z_hd P k 5 = name then z_hd P k 7 else match z_fc P (z_own P k) name.toNatClampNeg with
    | some c => z_fld P c name.toNatClampNeg - 2
    | none => -3
def z_ac (P : z_Pg) (t name : Int32) : Option Nat := if t < 0 then none else z_fc P t.toNatClampNeg name.toNatClampNeg
def z_cl (P : z_Pg) (t name cnt : Int32) : Option Nat := if t < 0 then none else z_fm P t.toNatClampNeg name cnt
def z_tA (P : z_Pg) (t0 t1 name : Int32) (put : Bool) : Int32 := match z_ac P t0 name with
  | some c => if put = true then (if z_fit P t1 (z_fld P c name.toNatClampNeg - 2) = true then z_fld P c name.toNatClampNeg - 2 else -3) else z_fld P c name.toNatClampNeg - 2
  | none => -3
def z_tC (P : z_Pg) (t0 t1 t2 name cnt : Int32) : Int32 := match z_cl P t0 name cnt with
  | some q => if (cnt = 0 ∨ z_fit P t1 (z_hd P q 6) = true) ∧ (cnt = 0 ∨ cnt = 1 ∨ z_fit P t2 (z_hd P q 7) = true) then z_hd P q 8 else -3
  | none => -3
/-- the type of a node out of those of its parts and LETs -/
def z_st (P : z_Pg) (k : Nat) (l : List z_N) (T : Nat → Int32) (i : Nat) : Int32 :=
  if z_k l i = 0 then -1
  else if z_k l i = 1 then z_tb P k l T i (z_v l i)
  else if z_k l i = 2 then z_hd P k 1
  else if z_k l i = 3 then z_tA P (T (z_pt l i 0)) 0 (z_v l i) false
  else if z_k l i = 4 then z_tA P (T (z_pt l i 0)) (T (z_pt l i 1)) (z_v l i) true
  else if z_k l i = 5 then T (z_pt l i 1)
  else if z_k l i = 6 then (if z_fit P (T (z_pt l i 0)) (z_tb P k l T i (z_v l i)) = true then z_tb P k l T i (z_v l i) else -3)
  else if z_k l i = 7 then z_tC P (T (z_pt l i 0)) (T (z_pt l i 1)) (T (z_pt l i 2)) (z_v l i) (z_a l i)
  else if z_k l i = 8 then z_v l i
  else if z_k l i = 9 then T (z_pt l i 1)
  else if z_k l i = 10 then (if z_num (T (z_pt l i 0)) = true then z_jn P (T (z_pt l i 1)) (T (z_pt l i 2)) else -3)
  else if z_k l i = 11 then (if z_num (T (z_pt l i 0)) = true ∧ z_num (T (z_pt l i 1)) = true then -1 else -3)
  else if z_k l i = 12 then (if z_num (T (z_pt l i 0)) = true then -2 else -3)
  else if z_k l i = 13 then z_jn P (T (z_pt l i 0)) (T (z_pt l i 1))
  else -3
/-- what a node is bound to, as the class tells it -/
def z_bs (P : z_Pg) (k : Nat) (l : List z_N) (T : Nat → Int32) (i : Nat) : Int32 :=
  if z_k l i = 1 ∨ z_k l i = 6 then z_bv P k l i (z_v l i)
  else if z_k l i = 3 ∨ z_k l i = 4 then (match z_ac P (T (z_pt l i 0)) (z_v l i) with | some c => nI (1000 + c) | none => 0)
  else if z_k l i = 7 then (match z_cl P (T (z_pt l i 0)) (z_v l i) (z_a l i) with | some q => nI (2000 + q) | none => 0)
  else 0
/-- these are the types of a right body -/
def z_ok (P : z_Pg) (k : Nat) (l : List z_N) (T : Nat → Int32) : Prop := (∀ i, i < l.length → T i = z_st P k l T i ∧ T i ≠ -3) ∧ z_fit P (T 0) (z_hd P k 8) = true
section
variable {P : z_Pg} {k : Nat} {l : List z_N}
theorem z_le_some {p i : Nat} {name : Int32} (h : z_le l p name = some i) : i < p ∧ z_k l i = 5 ∧ z_v l i = name ∧ p < z_en l i ∧ z_en l (i + 1) ≤ p := by
  obtain ⟨h1, h2, _⟩ := z_lst_some.mp h
  simp only [Bool.and_eq_true, beq_iff_eq, decide_eq_true_eq] at h2
  exact ⟨h1, h2.1, h2.2.1, h2.2.2.1, h2.2.2.2⟩
theorem z_tb_congr {T T' : Nat → Int32} {p : Nat} {name : Int32} (h : ∀ i, i < p → p < z_en l i → z_en l (i + 1) ≤ p → z_k l i = 5 → T (i + 1) = T' (i + 1)) : z_tb P k l T p name = z_tb P k l T' p name := by
  unfold z_tb
  split
  · rename_i i e
    obtain ⟨h1, h2, h3, h4, h5⟩ := z_le_some e
    exact h i h1 h4 h5 h2
  · rfl
theorem z_wN_at {nc : Nat} (h : z_wB nc l) {i : Nat} (hi : i < l.length) : z_wN nc (z_at l i) := by
  refine h.2 _ ?_
  unfold z_at
  rw [List.getD_eq_getElem?_getD, List.getElem?_eq_getElem hi]
  exact List.getElem_mem hi
theorem z_pn_ka {nc : Nat} (h : z_wB nc l) {i : Nat} (hi : i < l.length) : z_k l i = 7 → z_a l i = 0 ∧ z_p l i = 1 ∨ z_a l i = 1 ∧ z_p l i = 2 ∨ z_a l i = 2 ∧ z_p l i = 3 := by
  intro h7
  have h1 := (z_wN_at h hi).2.1
  rw [if_pos (show (z_at l i).1 = 7 from h7)] at h1
  have e : z_p l i = 1 + (z_a l i).toNatClampNeg := by unfold z_p z_pn; rw [h7]; rfl
  rw [e]
  rcases h1 with h1 | h1 | h1
  · exact Or.inl ⟨h1, by rw [show z_a l i = 0 from h1]; rfl⟩
  · exact Or.inr (Or.inl ⟨h1, by rw [show z_a l i = 1 from h1]; rfl⟩)
  · exact Or.inr (Or.inr ⟨h1, by rw [show z_a l i = 2 from h1]; rfl⟩)
theorem z_st_0 {T : Nat → Int32} {i : Nat} (h : z_k l i = 0) : z_st P k l T i = -1 := by unfold z_st; rw [h]; rw [if_pos rfl]
theorem z_st_1 {T : Nat → Int32} {i : Nat} (h : z_k l i = 1) : z_st P k l T i = z_tb P k l T i (z_v l i) := by unfold z_st; rw [h]; rw [if_neg (by decide), if_pos rfl]
theorem z_st_2 {T : Nat → Int32} {i : Nat} (h : z_k l i = 2) : z_st P k l T i = z_hd P k 1 := by unfold z_st; rw [h]; rw [if_neg (by decide), if_neg (by decide), if_pos rfl]
theorem z_st_3 {T : Nat → Int32} {i : Nat} (h : z_k l i = 3) : z_st P k l T i = z_tA P (T (z_pt l i 0)) 0 (z_v l i) false := by unfold z_st; rw [h]; rw [if_neg (by decide), if_neg (by decide), if_neg (by decide), if_pos rfl]
theorem z_st_4 {T : Nat → Int32} {i : Nat} (h : z_k l i = 4) : z_st P k l T i = z_tA P (T (z_pt l i 0)) (T (z_pt l i 1)) (z_v l i) true := by unfold z_st; rw [h]; rw [if_neg (by decide), if_neg (by decide), if_neg (by decide), if_neg (by decide), if_pos rfl]
theorem z_st_5 {T : Nat → Int32} {i : Nat} (h : z_k l i = 5) : z_st P k l T i = T (z_pt l i 1) := by unfold z_st; rw [h]; rw [if_neg (by decide), if_neg (by decide), if_neg (by decide), if_neg (by decide), if_neg (by decide), if_pos rfl]
theorem z_st_6 {T : Nat → Int32} {i : Nat} (h : z_k l i = 6) : z_st P k l T i = (if z_fit P (T (z_pt l i 0)) (z_tb P k l T i (z_v l i)) = true then z_tb P k l T i (z_v l i) else -3) := by unfold z_st; rw [h]; rw [if_neg (by decide), if_neg (by decide), if_neg (by decide), if_neg (by decide), if_neg (by decide), if_neg (by decide), if_pos rfl]
theorem z_st_7 {T : Nat → Int32} {i : Nat} (h : z_k l i = 7) : z_st P k l T i = z_tC P (T (z_pt l i 0)) (T (z_pt l i 1)) (T (z_pt l i 2)) (z_v l i) (z_a l i) := by unfold z_st; rw [h]; rw [if_neg (by decide), if_neg (by decide), if_neg (by decide), if_neg (by decide), if_neg (by decide), if_neg (by decide), if_neg (by decide), if_pos rfl]
theorem z_st_8 {T : Nat → Int32} {i : Nat} (h : z_k l i = 8) : z_st P k l T i = z_v l i := by unfold z_st; rw [h]; rw [if_neg (by decide), if_neg (by decide), if_neg (by decide), if_neg (by decide), if_neg (by decide), if_neg (by decide), if_neg (by decide), if_neg (by decide), if_pos rfl]
theorem z_st_9 {T : Nat → Int32} {i : Nat} (h : z_k l i = 9) : z_st P k l T i = T (z_pt l i 1) := by unfold z_st; rw [h]; rw [if_neg (by decide), if_neg (by decide), if_neg (by decide), if_neg (by decide), if_neg (by decide), if_neg (by decide), if_neg (by decide), if_neg (by decide), if_neg (by decide), if_pos rfl]
theorem z_st_10 {T : Nat → Int32} {i : Nat} (h : z_k l i = 10) : z_st P k l T i = (if z_num (T (z_pt l i 0)) = true then z_jn P (T (z_pt l i 1)) (T (z_pt l i 2)) else -3) := by unfold z_st; rw [h]; rw [if_neg (by decide), if_neg (by decide), if_neg (by decide), if_neg (by decide), if_neg (by decide), if_neg (by decide), if_neg (by decide), if_neg (by decide), if_neg (by decide), if_neg (by decide), if_pos rfl]
theorem z_st_11 {T : Nat → Int32} {i : Nat} (h : z_k l i = 11) : z_st P k l T i = (if z_num (T (z_pt l i 0)) = true ∧ z_num (T (z_pt l i 1)) = true then -1 else -3) := by unfold z_st; rw [h]; rw [if_neg (by decide), if_neg (by decide), if_neg (by decide), if_neg (by decide), if_neg (by decide), if_neg (by decide), if_neg (by decide), if_neg (by decide), if_neg (by decide), if_neg (by decide), if_neg (by decide), if_pos rfl]
theorem z_st_12 {T : Nat → Int32} {i : Nat} (h : z_k l i = 12) : z_st P k l T i = (if z_num (T (z_pt l i 0)) = true then -2 else -3) := by unfold z_st; rw [h]; rw [if_neg (by decide), if_neg (by decide), if_neg (by decide), if_neg (by decide), if_neg (by decide), if_neg (by decide), if_neg (by decide), if_neg (by decide), if_neg (by decide), if_neg (by decide), if_neg (by decide), if_neg (by decide), if_pos rfl]
theorem z_st_13 {T : Nat → Int32} {i : Nat} (h : z_k l i = 13) : z_st P k l T i = z_jn P (T (z_pt l i 0)) (T (z_pt l i 1)) := by unfold z_st; rw [h]; rw [if_neg (by decide), if_neg (by decide), if_neg (by decide), if_neg (by decide), if_neg (by decide), if_neg (by decide), if_neg (by decide), if_neg (by decide), if_neg (by decide), if_neg (by decide), if_neg (by decide), if_neg (by decide), if_neg (by decide), if_pos rfl]
theorem z_p_0 {i : Nat} (h : z_k l i = 0) : z_p l i = 0 := by unfold z_p; rw [h]; rfl
theorem z_p_1 {i : Nat} (h : z_k l i = 1) : z_p l i = 0 := by unfold z_p; rw [h]; rfl
theorem z_p_2 {i : Nat} (h : z_k l i = 2) : z_p l i = 0 := by unfold z_p; rw [h]; rfl
theorem z_p_3 {i : Nat} (h : z_k l i = 3) : z_p l i = 1 := by unfold z_p; rw [h]; rfl
theorem z_p_4 {i : Nat} (h : z_k l i = 4) : z_p l i = 2 := by unfold z_p; rw [h]; rfl
theorem z_p_5 {i : Nat} (h : z_k l i = 5) : z_p l i = 2 := by unfold z_p; rw [h]; rfl
theorem z_p_6 {i : Nat} (h : z_k l i = 6) : z_p l i = 1 := by unfold z_p; rw [h]; rfl
theorem z_p_8 {i : Nat} (h : z_k l i = 8) : z_p l i = 0 := by unfold z_p; rw [h]; rfl
theorem z_p_9 {i : Nat} (h : z_k l i = 9) : z_p l i = 2 := by unfold z_p; rw [h]; rfl
theorem z_p_10 {i : Nat} (h : z_k l i = 10) : z_p l i = 3 := by unfold z_p; rw [h]; rfl
theorem z_p_11 {i : Nat} (h : z_k l i = 11) : z_p l i = 2 := by unfold z_p; rw [h]; rfl
theorem z_p_12 {i : Nat} (h : z_k l i = 12) : z_p l i = 1 := by unfold z_p; rw [h]; rfl
theorem z_p_13 {i : Nat} (h : z_k l i = 13) : z_p l i = 2 := by unfold z_p; rw [h]; rfl
theorem z_kc {nc : Nat} (h : z_wB nc l) {i : Nat} (hi : i < l.length) : z_k l i = 0 ∨ z_k l i = 1 ∨ z_k l i = 2 ∨ z_k l i = 3 ∨ z_k l i = 4 ∨ z_k l i = 5 ∨ z_k l i = 6 ∨ z_k l i = 7 ∨ z_k l i = 8 ∨ z_k l i = 9 ∨ z_k l i = 10 ∨ z_k l i = 11 ∨ z_k l i = 12 ∨ z_k l i = 13 := by
  obtain ⟨k, hk, e⟩ := (z_wN_at h hi).1
  have e : z_k l i = nI k := e
  rw [e]
  have : ∀ k, k < 14 → nI k = 0 ∨ nI k = 1 ∨ nI k = 2 ∨ nI k = 3 ∨ nI k = 4 ∨ nI k = 5 ∨ nI k = 6 ∨ nI k = 7 ∨ nI k = 8 ∨ nI k = 9 ∨ nI k = 10 ∨ nI k = 11 ∨ nI k = 12 ∨ nI k = 13 := by decide
  exact this k hk
theorem z_st_congr {nc : Nat} (hw : z_wB nc l) {T T' : Nat → Int32} {i : Nat} (hi : i < l.length) (hp : ∀ j, j < z_p l i → T (z_pt l i j) = T' (z_pt l i j)) (hl : ∀ j, j < i → i < z_en l j → z_en l (j + 1) ≤ i → z_k l j = 5 → T (j + 1) = T' (j + 1)) : z_st P k l T i = z_st P k l T' i := by
  have hb := z_tb_congr (P := P) (k := k) (name := z_v l i) hl
  rcases z_kc hw hi with h | h | h | h | h | h | h | h | h | h | h | h | h | h
  · rw [z_st_0 h, z_st_0 h]
  · rw [z_st_1 h, z_st_1 h, hb]
  · rw [z_st_2 h, z_st_2 h]
  · rw [z_p_3 h] at hp
    rw [z_st_3 h, z_st_3 h, hp 0 (by decide)]
  · rw [z_p_4 h] at hp
    rw [z_st_4 h, z_st_4 h, hp 0 (by decide), hp 1 (by decide)]
  · rw [z_p_5 h] at hp
    rw [z_st_5 h, z_st_5 h, hp 1 (by decide)]
  · rw [z_p_6 h] at hp
    rw [z_st_6 h, z_st_6 h, hb, hp 0 (by decide)]
  · rw [z_st_7 h, z_st_7 h]
    rcases z_pn_ka hw hi h with ⟨h1, h2⟩ | ⟨h1, h2⟩ | ⟨h1, h2⟩
    · rw [h2] at hp
      rw [hp 0 (by decide), h1]
      unfold z_tC; simp
    · rw [h2] at hp
      rw [hp 0 (by decide), hp 1 (by decide), h1]
      unfold z_tC; simp
    · rw [h2] at hp
      rw [hp 0 (by decide), hp 1 (by decide), hp 2 (by decide)]
  · rw [z_st_8 h, z_st_8 h]
  · rw [z_p_9 h] at hp
    rw [z_st_9 h, z_st_9 h, hp 1 (by decide)]
  · rw [z_p_10 h] at hp
    rw [z_st_10 h, z_st_10 h, hp 0 (by decide), hp 1 (by decide), hp 2 (by decide)]
  · rw [z_p_11 h] at hp
    rw [z_st_11 h, z_st_11 h, hp 0 (by decide), hp 1 (by decide)]
  · rw [z_p_12 h] at hp
    rw [z_st_12 h, z_st_12 h, hp 0 (by decide)]
  · rw [z_p_13 h] at hp
    rw [z_st_13 h, z_st_13 h, hp 0 (by decide), hp 1 (by decide)]
/-- by what is behind: parts and what is ahead of a place come first -/
theorem z_ind (ht : z_tr l) {M : Nat → Prop} (h : ∀ i, i < l.length → (∀ j, j < z_p l i → M (z_pt l i j)) → (∀ j, j < i → i < z_en l j → z_en l (j + 1) ≤ i → M (j + 1)) → M i) : ∀ i, i < l.length → M i := by
  have key : ∀ n i, z_en l i * (l.length + 1) - i < n → i < l.length → M i := by
    intro n
    induction n with
    | zero => intro i h1; omega
    | succ n ih =>
      intro i hn hi
      have hgt := z_en_gt hi
      have small : ∀ j, j < l.length → (z_en l j < z_en l i ∨ (z_en l j = z_en l i ∧ i < j)) → z_en l j * (l.length + 1) - j < n := by
        intro j hj hlt
        have hgj := z_en_gt hj
        rcases hlt with h1 | ⟨h1, h2⟩
        · have h3 : (z_en l j + 1) * (l.length + 1) ≤ z_en l i * (l.length + 1) := Nat.mul_le_mul_right _ h1
          rw [Nat.add_mul] at h3
          omega
        · rw [h1]
          have h3 : 1 * (l.length + 1) ≤ z_en l i * (l.length + 1) := Nat.mul_le_mul_right _ (by omega)
          omega
      refine h i hi (fun j hj => ?_) (fun j h1 h2 h3 => ?_)
      · have h4 := z_pt_lt ht hi hj
        have h5 := z_pt_en hi hj
        have h6 := z_pt_ge (l := l) (i := i) j
        exact ih _ (small _ h4 (by omega)) h4
      · have h4 : j + 1 < l.length := by omega
        exact ih _ (small _ h4 (by have := z_en_gt h4; omega)) h4
  exact fun i => key _ i (Nat.lt_succ_self _)
/-- there is at most one way -/
theorem z_ok_uq {nc : Nat} (hw : z_wB nc l) {T T' : Nat → Int32} (h : z_ok P k l T) (h' : z_ok P k l T') : ∀ i, i < l.length → T i = T' i := by
  refine z_ind hw.1 (M := fun i => T i = T' i) (fun i hi h1 h2 => ?_)
  rw [(h.1 i hi).1, (h'.1 i hi).1]
  exact z_st_congr hw hi h1 (fun j a b c _ => h2 j a b c)
end
/-- the types of a right body -/
noncomputable def z_T (P : z_Pg) (k : Nat) (l : List z_N) : Nat → Int32 := by
  classical exact if h : ∃ T, z_ok P k l T then Classical.choose h else fun _ => 0
def z_rt (P : z_Pg) (k : Nat) (l : List z_N) : Prop := ∃ T, z_ok P k l T
theorem z_T_ok {P : z_Pg} {k : Nat} {l : List z_N} (h : z_rt P k l) : z_ok P k l (z_T P k l) := by
  classical
  unfold z_T
  rw [dif_pos (show ∃ T, z_ok P k l T from h)]
  exact Classical.choose_spec h
