-- deps: 90.81.lc2 90.82.ex0
/-! what is like another piece -/
section
variable {P : z_Pg} {k q i r s : Nat}
abbrev z_Lc : Type := List (Int32 × Int32 × Int32)
def z_g (c : z_Lc) (j : Nat) : Int32 × Int32 × Int32 := c.getD j (0, 0, 0)
theorem z_g_app {c : z_Lc} {x : Int32 × Int32 × Int32} {j : Nat} (hj : j < c.length) : z_g (c ++ [x]) j = z_g c j := by
  unfold z_g
  rw [List.getD_eq_getElem?_getD, List.getElem?_append_left hj, ← List.getD_eq_getElem?_getD]
theorem z_g_last {c : z_Lc} {x : Int32 × Int32 × Int32} : z_g (c ++ [x]) c.length = x := by
  unfold z_g
  rw [List.getD_eq_getElem?_getD, List.getElem?_append_right (Nat.le_refl _), Nat.sub_self]; rfl
theorem z_lix_c (c : z_Lc) (x : Int32) : (z_lix c x = -1 ∧ ∀ j, j < c.length → (z_g c j).1 ≠ x) ∨ ∃ j, j < c.length ∧ (z_g c j).1 = x ∧ (∀ j', j' < j → (z_g c j').1 ≠ x) ∧ z_lix c x = nI j := by
  unfold z_lix
  rcases z_sch_c (c := fun j => (c.getD j (0, 0, 0)).1 == x) (x := nI) (d := -1) (n := c.length) (i := 0) with ⟨h1, h2⟩ | ⟨j, h1, h2, h3, h4, h5⟩
  · exact Or.inl ⟨h1, fun j hj => by simpa [z_g] using h2 j (Nat.zero_le _) (by omega)⟩
  · exact Or.inr ⟨j, by omega, by simpa [z_g] using h3, fun j' hj' => by simpa [z_g] using h4 j' (Nat.zero_le _) hj', h5⟩
/-- where the local of a bound is -/
def z_bnd (P : z_Pg) (q : Nat) (x : Int32) : Prop := (x = -1 ∧ 0 < z_cnt P q) ∨ (x = -2 ∧ 1 < z_cnt P q) ∨ ∃ j, j + 1 < (z_bd P q).length ∧ z_k (z_bd P q) j = 5 ∧ x = nI j
theorem z_oub (hw : z_wf P) (hq : q < z_nm P) (hl : (z_bd P q).length ≤ 192) (hr : z_rt P q (z_bd P q)) {x : Nat} (hx : x < (z_bd P q).length) {y : Int32} (h : z_isO (z_bd P q) (z_Bd P q) x y = true) : (z_k (z_bd P q) x = 1 ∨ z_k (z_bd P q) x = 6) ∧ z_bnd P q (z_Bd P q x) ∧ z_v (z_bd P q) x = z_nol P q (z_Bd P q x) ∧ z_Ty P q x = z_tol P q (z_Bd P q x) ∧ z_Bd P q x < 1000 := by
  have hB := hw.2.2.2.2.1 q hq
  unfold z_isO z_isL z_isV at h
  simp only [Bool.and_eq_true, Bool.or_eq_true, beq_iff_eq, decide_eq_true_eq] at h
  obtain ⟨⟨hkv, h1⟩, _⟩ := h
  obtain ⟨e0, e1, e2, _⟩ := z_var hw hq hr hx hkv
  refine ⟨hkv, ?_⟩
  have h6 := hw.1.1
  rw [e2]
  rcases e1 with ⟨j, hj, ej⟩ | ⟨hl, hc, eh, ej⟩ | ⟨hl, hc, eh, ej⟩ | ⟨n, c, hn, ev, hl, hf, hc, ej⟩
  · obtain ⟨a1, a2, a3, a4, a5⟩ := z_le_some hj
    have n1 := z_nI_m1 (d := j) (by omega)
    have n2 : ¬ nI j = -2 := z_eqm (k := 2) (by omega) (by decide) (by decide)
    have hge := z_en_gt (l := z_bd P q) (i := j + 1) (by omega)
    refine ⟨Or.inr (Or.inr ⟨j, by omega, a2, ej⟩), ?_, ?_, h1⟩
    · unfold z_nol; rw [ej, if_neg n1, if_neg n2, nI_clamp (by omega), if_pos a2, a3]
    · unfold z_tb z_tol; rw [hj, ej, if_neg n1, if_neg n2, nI_clamp (by omega)]
  · refine ⟨Or.inl ⟨ej, hc⟩, ?_, ?_, h1⟩
    · unfold z_nol; rw [ej, if_pos rfl, eh]
    · unfold z_tb z_tol; rw [hl, ej, if_pos rfl]; dsimp only; rw [if_pos ⟨hc, eh⟩]
  · have hne : ¬ (0 < z_cnt P q ∧ z_hd P q 4 = z_v (z_bd P q) x) := fun g => by
      unfold z_bv at e0
      rw [hl] at e0; dsimp only at e0
      rw [if_pos g, ej] at e0
      exact absurd e0 (by decide)
    refine ⟨Or.inr (Or.inl ⟨ej, hc⟩), ?_, ?_, h1⟩
    · unfold z_nol; rw [ej, if_neg (by decide), if_pos rfl, eh]
    · unfold z_tb z_tol; rw [hl, ej, if_neg (show ¬ (-2 : Int32) = -1 by decide), if_pos rfl]; dsimp only; rw [if_neg hne, if_pos ⟨hc, eh⟩]
  · rw [ej] at h1
    exact absurd h1 ((by decide : ∀ c, c < 6 → ¬ nI (1000 + c) < 1000) c (by omega))
/-- a list of locals -/
def z_ldp (P : z_Pg) (q : Nat) (d : z_Lc) : Prop := (∀ a b, a < b → b < d.length → (z_g d a).1 ≠ (z_g d b).1) ∧ ∀ j, j < d.length → z_bnd P q (z_g d j).1 ∧ (z_g d j).2.1 = z_nol P q (z_g d j).1 ∧ (z_g d j).2.2 = z_tol P q (z_g d j).1
theorem z_ldp_nil : z_ldp P q [] := ⟨fun a b _ hb => absurd hb (Nat.not_lt_zero _), fun j hj => absurd hj (Nat.not_lt_zero _)⟩
theorem z_ldp_add {d : z_Lc} (h : z_ldp P q d) {x v : Int32} (hx : z_bnd P q x) (hv : v = z_nol P q x) (hn : z_lix d x = -1) (hl : d.length < 1000) : z_ldp P q (d ++ [(x, v, z_tol P q x)]) := by
  have hno : ∀ j, j < d.length → (z_g d j).1 ≠ x := by
    rcases z_lix_c d x with ⟨_, h2⟩ | ⟨j, h1, _, _, h4⟩
    · exact h2
    · rw [h4] at hn; exact absurd hn (z_nI_m1 (by omega))
  refine ⟨fun a b hab hb => ?_, fun j hj => ?_⟩
  · rw [List.length_append] at hb
    have hb : b < d.length + 1 := hb
    rw [z_g_app (show a < d.length by omega)]
    rcases Nat.lt_or_ge b d.length with g | g
    · rw [z_g_app g]; exact h.1 a b hab g
    · obtain rfl : b = d.length := by omega
      rw [z_g_last]; exact hno a (by omega)
  · rw [List.length_append] at hj
    have hj : j < d.length + 1 := hj
    rcases Nat.lt_or_ge j d.length with g | g
    · rw [z_g_app g]; exact h.2 j g
    · obtain rfl : j = d.length := by omega
      rw [z_g_last]; exact ⟨hx, hv, rfl⟩
theorem z_ldp_ix {d : z_Lc} (h : z_ldp P q d) {j : Nat} (hj : j < d.length) : z_lix d (z_g d j).1 = nI j := by
  rcases z_lix_c d (z_g d j).1 with ⟨_, h2⟩ | ⟨j', h1, h2, h3, h4⟩
  · exact absurd rfl (h2 j hj)
  · rw [h4]
    rcases Nat.lt_trichotomy j j' with g | g | g
    · exact absurd rfl (h3 j g)
    · rw [g]
    · exact absurd h2 (h.1 j' j g hj)
noncomputable def z_rad (P : z_Pg) (k x : Nat) (c : z_Lc) : z_Lc := if z_lix c (z_Bd P k x) = -1 then c ++ [(z_Bd P k x, z_v (z_bd P k) x, z_tol P k (z_Bd P k x))] else c
/-- the locals of a piece -/
noncomputable def z_rlo (P : z_Pg) (k i : Nat) : Nat → z_Lc
  | 0 => []
  | n + 1 => if z_ou P k i n = true then z_rad P k (i + n) (z_rlo P k i n) else z_rlo P k i n
noncomputable def z_clc (P : z_Pg) (k i : Nat) : Nat → z_Lc
  | 0 => []
  | n + 1 => if z_ou P k i n = true then z_lad P k (i + n) (z_clc P k i n) else z_clc P k i n
theorem z_rad_len (P : z_Pg) (k x : Nat) (c : z_Lc) : c.length ≤ (z_rad P k x c).length ∧ (z_rad P k x c).length ≤ c.length + 1 := by
  unfold z_rad
  split
  · rw [List.length_append]; exact ⟨Nat.le_add_right _ _, Nat.le_refl _⟩
  · exact ⟨Nat.le_refl _, Nat.le_succ _⟩
theorem z_rlo_len (P : z_Pg) (k i : Nat) : ∀ n, (z_rlo P k i n).length ≤ n
  | 0 => Nat.le_refl 0
  | n + 1 => by
    have ih := z_rlo_len P k i n
    unfold z_rlo
    split
    · have := (z_rad_len P k (i + n) (z_rlo P k i n)).2; omega
    · omega
theorem z_clc_e (P : z_Pg) (k i : Nat) : ∀ n, n ≤ 1000 → z_clc P k i n = (z_rlo P k i n).take 3
  | 0, _ => rfl
  | n + 1, hn => by
    have ih := z_clc_e P k i n (by omega)
    have hlen := z_rlo_len P k i n
    unfold z_clc z_rlo
    by_cases g : z_ou P k i n = true
    · rw [if_pos g, if_pos g, ih]
      unfold z_lad z_rad
      rcases Nat.lt_or_ge (z_rlo P k i n).length 3 with h | h
      · rw [List.take_of_length_le (show (z_rlo P k i n).length ≤ 3 by omega)]
        by_cases y : z_lix (z_rlo P k i n) (z_Bd P k (i + n)) = -1
        · rw [if_pos ⟨y, h⟩, if_pos y, List.take_of_length_le (by rw [List.length_append]; exact h)]
        · rw [if_neg (fun w => y w.1), if_neg y, List.take_of_length_le (by omega)]
      · rw [if_neg (fun w => by have := w.2; rw [List.length_take] at this; omega)]
        split
        · rw [List.take_append_of_le_length h]
        · rfl
    · rw [if_neg g, if_neg g, ih]
theorem z_rlo_dp (hw : z_wf P) (hk : k < z_nm P) (hl : (z_bd P k).length ≤ 192) (hr : z_rt P k (z_bd P k)) : ∀ n, i + n ≤ (z_bd P k).length → z_ldp P k (z_rlo P k i n) ∧ (∀ t, t < n → z_ou P k i t = true → ∃ j, j < (z_rlo P k i n).length ∧ (z_g (z_rlo P k i n) j).1 = z_Bd P k (i + t)) ∧ ∀ j, j < (z_rlo P k i n).length → ∃ t, t < n ∧ z_ou P k i t = true ∧ (z_g (z_rlo P k i n) j).1 = z_Bd P k (i + t)
  | 0, _ => ⟨z_ldp_nil, fun t ht => absurd ht (Nat.not_lt_zero _), fun j hj => absurd hj (Nat.not_lt_zero _)⟩
  | n + 1, hn => by
    obtain ⟨i1, i2, i3⟩ := z_rlo_dp hw hk hl hr n (by omega)
    have hlen := z_rlo_len P k i n
    unfold z_rlo
    by_cases g : z_ou P k i n = true
    · rw [if_pos g]
      obtain ⟨_, o1, o2, _, _⟩ := z_oub hw hk hl hr (x := i + n) (by omega) g
      unfold z_rad
      by_cases y : z_lix (z_rlo P k i n) (z_Bd P k (i + n)) = -1
      · rw [if_pos y]
        refine ⟨z_ldp_add i1 o1 o2 y (by omega), fun t ht ho => ?_, fun j hj => ?_⟩
        · rcases Nat.lt_or_ge t n with g1 | g1
          · obtain ⟨j, hj, e⟩ := i2 t g1 ho
            exact ⟨j, by rw [List.length_append]; exact Nat.lt_of_lt_of_le hj (Nat.le_add_right _ _), by rw [z_g_app hj]; exact e⟩
          · obtain rfl : t = n := by omega
            exact ⟨_, by rw [List.length_append]; exact Nat.lt_succ_self _, by rw [z_g_last]⟩
        · rw [List.length_append] at hj
          have hj : j < (z_rlo P k i n).length + 1 := hj
          rcases Nat.lt_or_ge j (z_rlo P k i n).length with g1 | g1
          · obtain ⟨t, ht, ho, e⟩ := i3 j g1
            exact ⟨t, by omega, ho, by rw [z_g_app g1]; exact e⟩
          · obtain rfl : j = (z_rlo P k i n).length := by omega
            exact ⟨n, by omega, g, by rw [z_g_last]⟩
      · rw [if_neg y]
        refine ⟨i1, fun t ht ho => ?_, fun j hj => ?_⟩
        · rcases Nat.lt_or_ge t n with g1 | g1
          · exact i2 t g1 ho
          · obtain rfl : t = n := by omega
            rcases z_lix_c (z_rlo P k i t) (z_Bd P k (i + t)) with ⟨h1, _⟩ | ⟨j, h1, h2, _, _⟩
            · exact absurd h1 y
            · exact ⟨j, h1, h2⟩
        · obtain ⟨t, ht, ho, e⟩ := i3 j hj
          exact ⟨t, by omega, ho, e⟩
    · rw [if_neg g]
      refine ⟨i1, fun t ht ho => ?_, fun j hj => ?_⟩
      · rcases Nat.lt_or_ge t n with g1 | g1
        · exact i2 t g1 ho
        · obtain rfl : t = n := by omega
          exact absurd ho g
      · obtain ⟨t, ht, ho, e⟩ := i3 j hj
        exact ⟨t, by omega, ho, e⟩
/-- the class, node by node -/
noncomputable def z_lkc (P : z_Pg) (k i : Nat) (c : z_Lc) (q r t : Nat) (d : z_Lc) : Bool := z_k (z_bd P k) (i + t) == z_k (z_bd P q) (r + t) && (z_p (z_bd P k) (i + t) == z_p (z_bd P q) (r + t) && (z_ou P k i t == z_ou P q r t && (if z_ou P k i t = true then z_lix c (z_Bd P k (i + t)) == z_lan P q (r + t) d else z_v (z_bd P k) (i + t) == z_v (z_bd P q) (r + t))))
noncomputable def z_lks (P : z_Pg) (k i : Nat) (c : z_Lc) (q r : Nat) : Nat → Option z_Lc
  | 0 => some []
  | n + 1 => match z_lks P k i c q r n with
    | none => none
    | some d => if z_lkc P k i c q r n d = true then some (if z_ou P k i n = true then z_lad P q (r + n) d else d) else none
noncomputable def z_lk (P : z_Pg) (k i : Nat) (c : z_Lc) (q r : Nat) : Option z_Lc := if z_sz (z_bd P q) r = z_sz (z_bd P k) i then (match z_lks P k i c q r (z_sz (z_bd P k) i) with
  | none => none
  | some d => if z_lty d c = true then some d else none) else none
/-- the reference, node by node -/
noncomputable def z_ridx (P : z_Pg) (q x : Nat) (d : z_Lc) : Int32 := if z_lix d (z_Bd P q x) = -1 then nI d.length else z_lix d (z_Bd P q x)
noncomputable def z_mB (P : z_Pg) (k x : Nat) : Int32 := z_mbn P k (z_bd P k) (z_Ty P k) x
noncomputable def z_rsm (P : z_Pg) (k i q r t : Nat) : Bool := if z_Bd P k (i + t) < 1000 then decide (z_Bd P q (r + t) < 1000) && z_Bd P k (i + t) - nI i == z_Bd P q (r + t) - nI r else z_Bd P k (i + t) == z_Bd P q (r + t)
noncomputable def z_rkc (P : z_Pg) (k i : Nat) (c : z_Lc) (q r t : Nat) (d : z_Lc) : Bool := z_k (z_bd P q) (r + t) == z_k (z_bd P k) (i + t) && (z_a (z_bd P q) (r + t) == z_a (z_bd P k) (i + t) && (if z_isV (z_bd P k) (i + t) = true then (if (z_ou P k i t && z_ou P q r t) = true then (z_k (z_bd P k) (i + t) == 1 && (z_ridx P q (r + t) d == z_lix c (z_Bd P k (i + t)) && z_tol P k (z_Bd P k (i + t)) == z_tol P q (z_Bd P q (r + t)))) else (z_ou P k i t == z_ou P q r t && (z_rsm P k i q r t && z_v (z_bd P k) (i + t) == z_v (z_bd P q) (r + t)))) else (z_v (z_bd P k) (i + t) == z_v (z_bd P q) (r + t) && z_mB P k (i + t) == z_mB P q (r + t))))
noncomputable def z_rks (P : z_Pg) (k i : Nat) (c : z_Lc) (q r : Nat) : Nat → Option z_Lc
  | 0 => some []
  | n + 1 => match z_rks P k i c q r n with
    | none => none
    | some d => if z_rkc P k i c q r n d = true then some (if z_ou P k i n = true then z_rad P q (r + n) d else d) else none
end
