-- deps: 90.54.map3
/-! an argument fewer: the rows -/
section
variable {l : List z_N} {c : Nat → Bool} {x : Nat}
/-- an argument that goes -/
def z_dr (l : List z_N) (c : Nat → Bool) (x s : Nat) : Bool := z_any (fun q => c q && z_pt l q (1 + x) == s) s
/-- within one -/
def z_dD (l : List z_N) (c : Nat → Bool) (x i : Nat) : Bool := z_any (fun s => z_dr l c x s && decide (i < z_en l s)) (i + 1)
def z_dpN (l : List z_N) (c : Nat → Bool) (i : Nat) : z_N := if c i = true then (z_k l i, z_v l i, z_a l i - 1) else z_at l i
def z_dpg (l : List z_N) (c : Nat → Bool) (x i : Nat) : List z_N := if z_dD l c x i = true then [] else [z_dpN l c i]
def z_dpD (l : List z_N) (c : Nat → Bool) (x : Nat) : List z_N := z_cat (z_dpg l c x) l.length
def z_dpc (l : List z_N) (c : Nat → Bool) (x i : Nat) : Bool := c i && !z_dD l c x i
theorem z_dD_iff {i : Nat} : z_dD l c x i = true ↔ ∃ s, s ≤ i ∧ z_dr l c x s = true ∧ i < z_en l s := by
  unfold z_dD
  rw [z_any_iff]
  constructor
  · rintro ⟨s, hs, h⟩
    obtain ⟨h1, h2⟩ := Bool.and_eq_true_iff.mp h
    exact ⟨s, by omega, h1, of_decide_eq_true h2⟩
  · rintro ⟨s, hs, h1, h2⟩
    exact ⟨s, by omega, by rw [h1, decide_eq_true h2]; rfl⟩
theorem z_dr_iff {s : Nat} : z_dr l c x s = true ↔ ∃ q, c q = true ∧ z_pt l q (1 + x) = s := by
  unfold z_dr
  rw [z_any_iff]
  constructor
  · rintro ⟨q, hq, h⟩
    simp only [Bool.and_eq_true, beq_iff_eq] at h
    exact ⟨q, h⟩
  · rintro ⟨q, h1, h2⟩
    refine ⟨q, ?_, by rw [h1, show (z_pt l q (1 + x) == s) = true by simpa using h2]; rfl⟩
    rw [← h2]; exact z_pt_ge (1 + x)
/-- a part has one parent -/
theorem z_pt_inj (ht : z_tr l) {i q j j' : Nat} (hi : i < l.length) (hq : q < l.length) (hj : j < z_p l i) (hj' : j' < z_p l q) (hlt : i < q) (h : z_pt l i j = z_pt l q j') : False := by
  have h1 : z_pt l i j < z_en l i := by
    rw [z_en_eq hi]
    have := z_pt_s l i j
    have h2 := z_pt_mono (l := l) (i := i) (show j + 1 ≤ z_p l i by omega)
    have h3 := z_en_gt (z_pt_lt ht hi hj)
    omega
  have h2 := z_pt_ge (l := l) (i := q) j'
  have hqe : q < z_en l i := by omega
  obtain ⟨j0, hj0, a1, a2⟩ := z_within hi hlt hqe
  rw [z_pt_s] at a2
  have hpl := z_pt_lt ht hi hj0
  have h3 : z_en l q ≤ z_en l (z_pt l i j0) := by
    rcases Nat.eq_or_lt_of_le a1 with e | e
    · rw [e]; exact Nat.le_refl _
    · exact z_lam' ht hpl e a2
  have h4 : z_pt l q j' < z_en l q := by
    rw [z_en_eq hq]
    have := z_pt_s l q j'
    have h2 := z_pt_mono (l := l) (i := q) (show j' + 1 ≤ z_p l q by omega)
    have h3 := z_en_gt (z_pt_lt ht hq hj')
    omega
  rcases Nat.lt_or_ge j0 j with y | y
  · have h5 := z_pt_mono (l := l) (i := i) (show j0 + 1 ≤ j by omega)
    rw [z_pt_s] at h5
    omega
  · have h5 := z_pt_mono (l := l) (i := i) (show j ≤ j0 by omega)
    omega
theorem z_pt_jj {i j j' : Nat} (hl : i < l.length) (ht : z_tr l) (hj : j < z_p l i) (hj' : j' < z_p l i) (h : z_pt l i j = z_pt l i j') : j = j' := by
  have key : ∀ a b, a < b → b < z_p l i → z_pt l i a < z_pt l i b := fun a b hab hb => by
    have h1 := z_pt_mono (l := l) (i := i) (show a + 1 ≤ b by omega)
    rw [z_pt_s] at h1
    have h2 := z_en_gt (z_pt_lt ht hl (show a < z_p l i by omega))
    omega
  rcases Nat.lt_trichotomy j j' with y | y | y
  · have := key j j' y hj'; omega
  · exact y
  · have := key j' j y hj; omega
/-- which parts go -/
theorem z_dr_pt (ht : z_tr l) (hc : ∀ q, c q = true → q < l.length ∧ 1 + x < z_p l q) {i j : Nat} (hi : i < l.length) (hj : j < z_p l i) : z_dr l c x (z_pt l i j) = true ↔ c i = true ∧ j = 1 + x := by
  rw [z_dr_iff]
  constructor
  · rintro ⟨q, h1, h2⟩
    obtain ⟨hq, hp⟩ := hc q h1
    rcases Nat.lt_trichotomy i q with y | y | y
    · exact (z_pt_inj ht hi hq hj hp y h2.symm).elim
    · subst y
      exact ⟨h1, (z_pt_jj hi ht hp hj h2).symm⟩
    · exact (z_pt_inj ht hq hi hp hj y h2).elim
  · rintro ⟨h1, rfl⟩
    exact ⟨i, h1, rfl⟩
/-- trees one behind another -/
def z_chn (l : List z_N) : Nat → List Nat → Prop
  | i, [] => i = l.length
  | i, s :: R => s = i ∧ i < l.length ∧ z_chn l (z_en l i) R
/-- the parts from one on -/
def z_pts (l : List z_N) (i : Nat) : Nat → Nat → List Nat
  | _, 0 => []
  | j, n + 1 => z_pt l i j :: z_pts l i (j + 1) n
theorem z_chn_pts (ht : z_tr l) {i : Nat} (hi : i < l.length) {R : List Nat} (hR : z_chn l (z_en l i) R) : ∀ n j, j + n = z_p l i → z_chn l (z_pt l i j) (z_pts l i j n ++ R)
  | 0, j, h => by
    have : j = z_p l i := by omega
    subst this
    rw [← z_en_eq hi]; exact hR
  | n + 1, j, h => ⟨rfl, z_pt_lt ht hi (by omega), by rw [← z_pt_s]; exact z_chn_pts ht hi hR n (j + 1) (by omega)⟩
theorem z_pts_no (ht : z_tr l) (hc : ∀ q, c q = true → q < l.length ∧ 1 + x < z_p l q) {i : Nat} (hi : i < l.length) : ∀ n j, j + n ≤ z_p l i → (c i = true → 1 + x < j ∨ j + n ≤ 1 + x) → (z_pts l i j n).filter (z_dr l c x) = [] ∧ ((z_pts l i j n).filter (fun s => !z_dr l c x s)).length = n
  | 0, _, _, _ => ⟨rfl, rfl⟩
  | n + 1, j, h, hx => by
    obtain ⟨a1, a2⟩ := z_pts_no ht hc hi n (j + 1) (by omega) (fun g => by have := hx g; omega)
    have hd : z_dr l c x (z_pt l i j) = false := by
      cases q : z_dr l c x (z_pt l i j) with
      | false => rfl
      | true =>
        obtain ⟨g1, g2⟩ := (z_dr_pt ht hc hi (by omega)).mp q
        have := hx g1
        omega
    refine ⟨?_, ?_⟩
    · show (z_pt l i j :: _).filter _ = _
      rw [List.filter_cons_of_neg (by rw [hd]; exact Bool.false_ne_true)]; exact a1
    · show ((z_pt l i j :: _).filter _).length = _
      rw [List.filter_cons_of_pos (by rw [hd]; rfl), List.length_cons, a2]
theorem z_pts_app (l : List z_N) (i : Nat) : ∀ n j m, z_pts l i j (n + m) = z_pts l i j n ++ z_pts l i (j + n) m
  | 0, j, m => by rw [Nat.zero_add]; rfl
  | n + 1, j, m => by
    rw [show n + 1 + m = (n + m) + 1 by omega]
    show z_pt l i j :: z_pts l i (j + 1) (n + m) = _
    rw [z_pts_app l i n (j + 1) m, show j + 1 + n = j + (n + 1) by omega]; rfl
/-- the parts of a node: which stay, which go -/
theorem z_pts_all (ht : z_tr l) (hc : ∀ q, c q = true → q < l.length ∧ 1 + x < z_p l q) {i : Nat} (hi : i < l.length) : (z_pts l i 0 (z_p l i)).filter (z_dr l c x) = (if c i = true then [z_pt l i (1 + x)] else []) ∧ ((z_pts l i 0 (z_p l i)).filter (fun s => !z_dr l c x s)).length + (if c i = true then 1 else 0) = z_p l i := by
  by_cases g : c i = true
  · rw [if_pos g, if_pos g]
    have hp := (hc i g).2
    have e : z_p l i = (1 + x) + (1 + (z_p l i - (1 + x) - 1)) := by omega
    have e2 : z_pts l i 0 (z_p l i) = z_pts l i 0 (1 + x) ++ (z_pt l i (1 + x) :: z_pts l i (1 + x + 1) (z_p l i - (1 + x) - 1)) := by
      conv => lhs; rw [e]
      rw [z_pts_app, Nat.zero_add, Nat.add_comm 1 (z_p l i - (1 + x) - 1)]; rfl
    rw [e2, List.filter_append, List.filter_append]
    obtain ⟨a1, a2⟩ := z_pts_no ht hc hi (1 + x) 0 (by omega) (fun _ => Or.inr (by omega))
    obtain ⟨b1, b2⟩ := z_pts_no ht hc hi (z_p l i - (1 + x) - 1) (1 + x + 1) (by omega) (fun _ => Or.inl (by omega))
    have hd : z_dr l c x (z_pt l i (1 + x)) = true := (z_dr_pt ht hc hi hp).mpr ⟨g, rfl⟩
    rw [List.filter_cons_of_pos hd, List.filter_cons_of_neg (by rw [hd]; decide), a1, b1, List.length_append, a2, b2]
    exact ⟨rfl, by omega⟩
  · rw [if_neg g, if_neg g]
    obtain ⟨a1, a2⟩ := z_pts_no ht hc hi (z_p l i) 0 (by omega) (fun q => absurd q g)
    exact ⟨a1, by rw [a2]; omega⟩
/-- outside of all that goes -/
def z_out (l : List z_N) (c : Nat → Bool) (x i : Nat) : Prop := ∀ s, z_dr l c x s = true → s < i → z_en l s ≤ i
theorem z_out_D {i : Nat} (h : z_out l c x i) (hd : z_dr l c x i = false) : z_dD l c x i = false := by
  cases q : z_dD l c x i with
  | false => rfl
  | true =>
    obtain ⟨s, h1, h2, h3⟩ := z_dD_iff.mp q
    by_cases e : s = i
    · rw [e, hd] at h2; cases h2
    · have := h s h2 (by omega)
      omega
theorem z_out_s {i : Nat} (h : z_out l c x i) (hd : z_dr l c x i = false) : z_out l c x (i + 1) := fun s hs hlt => by
  by_cases e : s = i
  · rw [e, hd] at hs; cases hs
  · have := h s hs (by omega); omega
theorem z_out_j (ht : z_tr l) {i : Nat} (hi : i < l.length) (h : z_out l c x i) : z_out l c x (z_en l i) := fun s hs hlt => by
  rcases Nat.lt_trichotomy s i with y | y | y
  · have := h s hs y
    have := z_en_gt hi
    omega
  · rw [y]; exact Nat.le_refl _
  · exact z_lam' ht hi y hlt
theorem z_dcat_j {i : Nat} (hi : z_dr l c x i = true) : ∀ n, i ≤ n → n ≤ z_en l i → z_cat (z_dpg l c x) n = z_cat (z_dpg l c x) i := by
  intro n hn
  induction n with
  | zero => intro _; rw [show i = 0 by omega]
  | succ n ih =>
    intro hn2
    by_cases e : i = n + 1
    · rw [e]
    · have h1 := ih (by omega) (by omega)
      show z_cat (z_dpg l c x) n ++ z_dpg l c x n = _
      have : z_dpg l c x n = [] := by
        unfold z_dpg
        rw [if_pos (z_dD_iff.mpr ⟨i, by omega, hi, by omega⟩)]
      rw [this, List.append_nil, h1]
/-- what is left is a tree -/
theorem z_dp_wl (ht : z_tr l) (hc : ∀ q, c q = true → q < l.length ∧ 1 + x < z_p l q) (hp : ∀ q, c q = true → z_pn (z_k l q) (z_a l q - 1) + 1 = z_p l q) : ∀ (n i : Nat) (R : List Nat), l.length - i ≤ n → z_chn l i R → z_out l c x i → (∀ t, z_wl 1 (z_cat (z_dpg l c x) i ++ t) = z_wl ((R.filter (fun s => !z_dr l c x s)).length) t) → z_wl 1 (z_dpD l c x) = true
  | n, i, [], _, hR, _, h => by
    have hR : i = l.length := hR
    subst hR
    have := h []
    rw [List.append_nil] at this
    unfold z_dpD
    rw [this]; rfl
  | 0, i, s :: R, hn, hR, _, _ => by
    have := hR.2.1
    omega
  | n + 1, i, s :: R, hn, hR, ho, h => by
    obtain ⟨rfl, hi, hR⟩ := hR
    by_cases hd : z_dr l c x s = true
    · have hgt := z_en_gt hi
      have hle := z_en_le ht hi
      refine z_dp_wl ht hc hp n (z_en l s) R (by omega) hR (z_out_j ht hi ho) (fun t => ?_)
      rw [z_dcat_j hd _ (by omega) (Nat.le_refl _), h, List.filter_cons_of_neg (by rw [hd]; decide)]
    · have hd : z_dr l c x s = false := by simpa using hd
      have hD := z_out_D ho hd
      have hch := z_chn_pts ht hi hR (z_p l s) 0 (Nat.zero_add _)
      obtain ⟨a1, a2⟩ := z_pts_all ht hc hi
      refine z_dp_wl ht hc hp n (s + 1) (z_pts l s 0 (z_p l s) ++ R) (by omega) hch (z_out_s ho hd) (fun t => ?_)
      show z_wl 1 ((z_cat (z_dpg l c x) s ++ z_dpg l c x s) ++ t) = _
      have : z_dpg l c x s = [z_dpN l c s] := by unfold z_dpg; rw [hD]; rfl
      rw [this, List.append_assoc, h, List.filter_cons_of_pos (by rw [hd]; rfl), List.length_cons, List.filter_append, List.length_append]
      show z_wl ((R.filter (fun s => !z_dr l c x s)).length + z_pn (z_dpN l c s).1 (z_dpN l c s).2.2) t = _
      congr 1
      have : z_pn (z_dpN l c s).1 (z_dpN l c s).2.2 + (if c s = true then 1 else 0) = z_p l s := by
        unfold z_dpN
        by_cases g : c s = true
        · rw [if_pos g, if_pos g]; exact hp s g
        · rw [if_neg g, if_neg g]; rfl
      omega
theorem z_dpD_tr (ht : z_tr l) (hc : ∀ q, c q = true → q < l.length ∧ 1 + x < z_p l q) (hp : ∀ q, c q = true → z_pn (z_k l q) (z_a l q - 1) + 1 = z_p l q) : z_tr (z_dpD l c x) := by
  have hl := z_tr_pos ht
  have h0 : z_dr l c x 0 = false := rfl
  refine z_dp_wl ht hc hp l.length 0 [0] (by omega) ⟨rfl, hl, (z_en_0 ht)⟩ (fun s _ h => absurd h (Nat.not_lt_zero s)) (fun t => ?_)
  rw [List.filter_cons_of_pos (by rw [h0]; rfl)]; rfl
theorem z_dpg_len (i : Nat) : (z_dpg l c x i).length ≤ 1 := by
  unfold z_dpg; split
  · exact Nat.zero_le _
  · exact Nat.le_refl _
theorem z_dp_len (i : Nat) : (z_cat (z_dpg l c x) i).length ≤ i := by
  have := z_cat_le (f := z_dpg l c x) (c := 1) i (fun i _ => z_dpg_len i)
  omega
theorem z_dpD_wB {nc : Nat} (hB : z_wB nc l) (hc : ∀ q, c q = true → q < l.length ∧ 1 + x < z_p l q) (hs : ∀ q, c q = true → z_k l q = 7 ∧ (z_a l q = 1 ∨ z_a l q = 2)) : z_wB nc (z_dpD l c x) := by
  refine ⟨z_dpD_tr hB.1 hc (fun q hq => ?_), fun y hy => ?_⟩
  · obtain ⟨h7, ha⟩ := hs q hq
    unfold z_p
    rw [h7]
    rcases ha with e | e <;> rw [e] <;> rfl
  · obtain ⟨i, hi, hy⟩ := z_cat_mem2 hy
    unfold z_dpg at hy
    split at hy
    · cases hy
    · rw [List.mem_singleton.mp hy]
      have hN := z_wN_at hB hi
      unfold z_dpN
      by_cases g : c i = true
      · rw [if_pos g]
        obtain ⟨h7, ha⟩ := hs i g
        have hn := hN.2.2.1 (Or.inr (Or.inr (Or.inr (Or.inr (Or.inr h7)))))
        rw [h7]
        refine z_wN_7 ?_ hn
        rcases ha with e | e <;> rw [e]
        · exact Or.inl rfl
        · exact Or.inr (Or.inl rfl)
      · rw [if_neg g]; exact hN
end
