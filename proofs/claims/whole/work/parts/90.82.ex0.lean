-- deps: 90.81.lc2
/-! two pieces of one form -/
section
variable {P : z_Pg} {l l' : List z_N} {i r s : Nat}
theorem z_pp_pt (h1 : z_tr l) (h2 : z_tr l') (hi : i < l.length) (hr : r < l'.length) (e1 : z_en l i = i + s) (e2 : z_en l' r = r + s) (hp : ∀ t, t < s → z_p l (i + t) = z_p l' (r + t)) : ∀ n t, s ≤ t + n → t < s → (∃ u, t < u ∧ u ≤ s ∧ z_en l (i + t) = i + u ∧ z_en l' (r + t) = r + u) ∧ ∀ j, j ≤ z_p l (i + t) → ∃ u, t < u ∧ u ≤ s ∧ z_pt l (i + t) j = i + u ∧ z_pt l' (r + t) j = r + u
  | 0, t, hn, ht => by omega
  | n + 1, t, hn, ht => by
    have hl1 := z_en_le h1 hi
    have hl2 := z_en_le h2 hr
    have ht1 : i + t < l.length := by omega
    have ht2 : r + t < l'.length := by omega
    have hen : z_en l (i + t) ≤ i + s := by
      rw [← e1]
      rcases Nat.eq_zero_or_pos t with g | g
      · rw [g]; exact Nat.le_refl _
      · exact z_lam' h1 hi (by omega) (by omega)
    have hj : ∀ j, j ≤ z_p l (i + t) → ∃ u, t < u ∧ u ≤ s ∧ z_pt l (i + t) j = i + u ∧ z_pt l' (r + t) j = r + u := by
      intro j
      induction j with
      | zero => exact fun _ => ⟨t + 1, by omega, by omega, by rw [z_pt_0]; omega, by rw [z_pt_0]; omega⟩
      | succ j ih =>
        intro hj
        obtain ⟨u, u1, u2, u3, u4⟩ := ih (by omega)
        have hlt := z_pt_lt h1 ht1 (j := j) (by omega)
        have hg := z_en_gt hlt
        have hx := z_pt_en (l := l) ht1 (j := j) (by omega)
        have hus : u < s := by omega
        obtain ⟨⟨w, w1, w2, w3, w4⟩, _⟩ := z_pp_pt h1 h2 hi hr e1 e2 hp n u (by omega) hus
        exact ⟨w, by omega, w2, by rw [z_pt_s, u3, w3], by rw [z_pt_s, u4, w4]⟩
    refine ⟨?_, hj⟩
    obtain ⟨u, u1, u2, u3, u4⟩ := hj (z_p l (i + t)) (Nat.le_refl _)
    refine ⟨u, u1, u2, by rw [z_en_eq ht1]; exact u3, ?_⟩
    rw [z_en_eq ht2, ← hp t ht]; exact u4
theorem z_pp_en (h1 : z_tr l) (h2 : z_tr l') (hi : i < l.length) (hr : r < l'.length) (e1 : z_en l i = i + s) (e2 : z_en l' r = r + s) (hp : ∀ t, t < s → z_p l (i + t) = z_p l' (r + t)) {t : Nat} (ht : t < s) : ∃ u, t < u ∧ u ≤ s ∧ z_en l (i + t) = i + u ∧ z_en l' (r + t) = r + u := (z_pp_pt h1 h2 hi hr e1 e2 hp s t (by omega) ht).1
theorem z_pp_part (h1 : z_tr l) (h2 : z_tr l') (hi : i < l.length) (hr : r < l'.length) (e1 : z_en l i = i + s) (e2 : z_en l' r = r + s) (hp : ∀ t, t < s → z_p l (i + t) = z_p l' (r + t)) {t : Nat} (ht : t < s) {j : Nat} (hj : j < z_p l (i + t)) : ∃ u, t < u ∧ u < s ∧ z_pt l (i + t) j = i + u ∧ z_pt l' (r + t) j = r + u := by
  have hl1 := z_en_le h1 hi
  have ht1 : i + t < l.length := by omega
  obtain ⟨⟨w, w1, w2, w3, w4⟩, h⟩ := z_pp_pt h1 h2 hi hr e1 e2 hp s t (by omega) ht
  obtain ⟨u, u1, u2, u3, u4⟩ := h j (by omega)
  have hlt := z_pt_lt h1 ht1 hj
  have hg := z_en_gt hlt
  have hx := z_pt_en (l := l) ht1 hj
  exact ⟨u, u1, by omega, u3, u4⟩
theorem z_pp_le (h1 : z_tr l) (h2 : z_tr l') (hi : i < l.length) (hr : r < l'.length) (e1 : z_en l i = i + s) (e2 : z_en l' r = r + s) (hp : ∀ t, t < s → z_p l (i + t) = z_p l' (r + t)) (hk : ∀ t, t < s → z_k l (i + t) = z_k l' (r + t)) (hv : ∀ t, t < s → z_k l (i + t) = 5 → z_v l (i + t) = z_v l' (r + t)) {t : Nat} (ht : t < s) (name : Int32) : (∃ j, j < t ∧ z_le l (i + t) name = some (i + j) ∧ z_le l' (r + t) name = some (r + j)) ∨ ((∀ x, z_le l (i + t) name = some x → x < i) ∧ ∀ x, z_le l' (r + t) name = some x → x < r) := by
  have hc : ∀ j, j < t → (z_k l (i + j) == 5 && (z_v l (i + j) == name && (decide (i + t < z_en l (i + j)) && decide (z_en l (i + j + 1) ≤ i + t)))) = (z_k l' (r + j) == 5 && (z_v l' (r + j) == name && (decide (r + t < z_en l' (r + j)) && decide (z_en l' (r + j + 1) ≤ r + t)))) := fun j hj => by
    rw [← hk j (by omega)]
    by_cases g : z_k l (i + j) = 5
    · rw [← hv j (by omega) g]
      obtain ⟨u, _, _, u3, u4⟩ := z_pp_en h1 h2 hi hr e1 e2 hp (t := j) (by omega)
      obtain ⟨w, _, _, w3, w4⟩ := z_pp_en h1 h2 hi hr e1 e2 hp (t := j + 1) (by omega)
      rw [u3, u4, show i + j + 1 = i + (j + 1) by omega, show r + j + 1 = r + (j + 1) by omega, w3, w4]
      rw [show decide (i + t < i + u) = decide (r + t < r + u) from decide_eq_decide.mpr (by omega), show decide (i + w ≤ i + t) = decide (r + w ≤ r + t) from decide_eq_decide.mpr (by omega)]
    · rw [show (z_k l (i + j) == 5) = false by simpa using g, Bool.false_and, Bool.false_and]
  have a2 : (∀ x, z_le l (i + t) name = some x → x < i) → ∀ x, z_le l' (r + t) name = some x → x < r := fun ha y hy => by
    rcases Nat.lt_or_ge y r with g | g
    · exact g
    · exfalso
      obtain ⟨j, rfl⟩ : ∃ j, y = r + j := ⟨y - r, by omega⟩
      obtain ⟨y1, y2, _⟩ := z_lst_some.mp hy
      have hjt : j < t := by omega
      have c1 := (hc j hjt).trans y2
      cases hx : z_le l (i + t) name with
      | none =>
        have := z_lst_none.mp hx (i + j) (by omega)
        rw [c1] at this; cases this
      | some x =>
        have hxi := ha x hx
        have := (z_lst_some.mp hx).2.2 (i + j) (by omega) (by omega)
        rw [c1] at this; cases this
  cases hx : z_le l (i + t) name with
  | none =>
    refine Or.inr ⟨fun x h => (by cases h), a2 (fun x h => by rw [hx] at h; cases h)⟩
  | some x =>
    rcases Nat.lt_or_ge x i with g | g
    · refine Or.inr ⟨fun y h => (by cases h; exact g), a2 (fun y h => by rw [hx] at h; cases h; exact g)⟩
    · obtain ⟨j, rfl⟩ : ∃ j, x = i + j := ⟨x - i, by omega⟩
      obtain ⟨x1, x2, x3⟩ := z_lst_some.mp hx
      have hjt : j < t := by omega
      refine Or.inl ⟨j, hjt, rfl, ?_⟩
      refine z_lst_some.mpr ⟨by omega, (hc j hjt).symm.trans x2, fun y y1 y2 => ?_⟩
      obtain ⟨j', rfl⟩ : ∃ j', y = r + j' := ⟨y - r, by omega⟩
      exact (hc j' (by omega)).symm.trans (x3 (i + j') (by omega) (by omega))
end
section
variable {P : z_Pg} {k q i r s : Nat}
/-- the same pieces have the same types -/
theorem z_pp_st {nc : Nat} {l l' : List z_N} {T T' : Nat → Int32} {x y : Nat} (hB : z_wB nc l) (hx : x < l.length) (hk : z_k l x = z_k l' y) (hv : z_v l x = z_v l' y) (ha : z_a l x = z_a l' y) (ho : z_hd P k 1 = z_hd P q 1) (hp : ∀ j, j < z_p l x → T (z_pt l x j) = T' (z_pt l' y j)) (hb : z_k l x = 1 ∨ z_k l x = 6 → z_tb P k l T x (z_v l x) = z_tb P q l' T' y (z_v l' y)) : z_st P k l T x = z_st P q l' T' y := by
  rcases z_kc hB hx with h | h | h | h | h | h | h | h | h | h | h | h | h | h
  · rw [z_st_0 h, z_st_0 (hk ▸ h)]
  · rw [z_st_1 h, z_st_1 (hk ▸ h), hb (Or.inl h)]
  · rw [z_st_2 h, z_st_2 (hk ▸ h), ho]
  · rw [z_p_3 h] at hp
    rw [z_st_3 h, z_st_3 (hk ▸ h), hp 0 (by decide), hv]
  · rw [z_p_4 h] at hp
    rw [z_st_4 h, z_st_4 (hk ▸ h), hp 0 (by decide), hp 1 (by decide), hv]
  · rw [z_p_5 h] at hp
    rw [z_st_5 h, z_st_5 (hk ▸ h), hp 1 (by decide)]
  · rw [z_p_6 h] at hp
    rw [z_st_6 h, z_st_6 (hk ▸ h), hb (Or.inr h), hp 0 (by decide)]
  · rw [z_st_7 h, z_st_7 (hk ▸ h), ← ha, ← hv]
    rcases z_pn_ka hB hx h with ⟨h1, h2⟩ | ⟨h1, h2⟩ | ⟨h1, h2⟩
    · rw [h2] at hp
      rw [hp 0 (by decide), h1]
      unfold z_tC; simp
    · rw [h2] at hp
      rw [hp 0 (by decide), hp 1 (by decide), h1]
      unfold z_tC; simp
    · rw [h2] at hp
      rw [hp 0 (by decide), hp 1 (by decide), hp 2 (by decide)]
  · rw [z_st_8 h, z_st_8 (hk ▸ h), hv]
  · rw [z_p_9 h] at hp
    rw [z_st_9 h, z_st_9 (hk ▸ h), hp 1 (by decide)]
  · rw [z_p_10 h] at hp
    rw [z_st_10 h, z_st_10 (hk ▸ h), hp 0 (by decide), hp 1 (by decide), hp 2 (by decide)]
  · rw [z_p_11 h] at hp
    rw [z_st_11 h, z_st_11 (hk ▸ h), hp 0 (by decide), hp 1 (by decide)]
  · rw [z_p_12 h] at hp
    rw [z_st_12 h, z_st_12 (hk ▸ h), hp 0 (by decide)]
  · rw [z_p_13 h] at hp
    rw [z_st_13 h, z_st_13 (hk ▸ h), hp 0 (by decide), hp 1 (by decide)]
theorem z_pp_bs {nc : Nat} {l l' : List z_N} {T T' : Nat → Int32} {x y : Nat} (hB : z_wB nc l) (hx : x < l.length) (hk : z_k l x = z_k l' y) (hv : z_v l x = z_v l' y) (ha : z_a l x = z_a l' y) (hp : ∀ j, j < z_p l x → T (z_pt l x j) = T' (z_pt l' y j)) (hn : ¬ (z_k l x = 1 ∨ z_k l x = 6)) : z_bs P k l T x = z_bs P q l' T' y := by
  unfold z_bs
  rw [← hk, ← hv, ← ha, if_neg hn, if_neg hn]
  by_cases h : z_k l x = 3 ∨ z_k l x = 4
  · have : 0 < z_p l x := by
      rcases h with h | h
      · rw [z_p_3 h]; decide
      · rw [z_p_4 h]; decide
    rw [if_pos h, if_pos h, hp 0 this]
  · rw [if_neg h, if_neg h]
    by_cases h : z_k l x = 7
    · have : 0 < z_p l x := by rcases z_pn_ka hB hx h with ⟨_, h2⟩ | ⟨_, h2⟩ | ⟨_, h2⟩ <;> rw [h2] <;> decide
      rw [if_pos h, if_pos h, hp 0 this]
    · rw [if_neg h, if_neg h]
/-- two pieces whose nodes are the same but for what is bound outside of them -/
def z_two (P : z_Pg) (k i q r s : Nat) : Prop := z_en (z_bd P k) i = i + s ∧ z_en (z_bd P q) r = r + s ∧ ∀ t, t < s → z_k (z_bd P k) (i + t) = z_k (z_bd P q) (r + t) ∧ z_a (z_bd P k) (i + t) = z_a (z_bd P q) (r + t)
/-- bound outside of the piece -/
noncomputable def z_ou (P : z_Pg) (k i t : Nat) : Bool := z_isO (z_bd P k) (z_Bd P k) (i + t) (nI i)
/-- a variable that isn't -/
theorem z_nou (hw : z_wf P) (hk : k < z_nm P) (h60 : (z_bd P k).length ≤ 192) (hr : z_rt P k (z_bd P k)) {x : Nat} (hx : x < (z_bd P k).length) (hi : i < (z_bd P k).length) (hv : z_k (z_bd P k) x = 1 ∨ z_k (z_bd P k) x = 6) (h : z_isO (z_bd P k) (z_Bd P k) x (nI i) = false) : (∃ j, i ≤ j ∧ j < x ∧ z_le (z_bd P k) x (z_v (z_bd P k) x) = some j ∧ z_Bd P k x = nI j) ∨ (z_le (z_bd P k) x (z_v (z_bd P k) x) = none ∧ ∃ n c, n < 16 ∧ z_v (z_bd P k) x = nI n ∧ z_fc P (z_own P k) n = some c ∧ c < z_nc P ∧ z_Bd P k x = nI (1000 + c) ∧ z_Ty P k x = z_fld P c n - 2) := by
  obtain ⟨e0, e1, e2, _⟩ := z_var hw hk hr hx hv
  have hno : ∀ y, z_Bd P k x = y → y < 1000 → y < nI i → False := fun y ey y1 y2 => by
    unfold z_isO z_isL z_isV at h
    rw [ey, decide_eq_true y1, decide_eq_true y2] at h
    rcases hv with g | g <;> simp [g] at h
  rcases e1 with ⟨j, hj, ej⟩ | ⟨_, _, _, ej⟩ | ⟨_, _, _, ej⟩ | ⟨n, c, hn, ev, hl, hf, hc, ej⟩
  · have hjx := (z_le_some hj).1
    rcases Nat.lt_or_ge j i with g | g
    · exact (hno _ ej ((nI_ltI (a := j) (b := 1000) (by omega) (by decide)).mpr (by omega)) ((nI_ltI (by omega) (by omega)).mpr g)).elim
    · exact Or.inl ⟨j, g, hjx, hj, ej⟩
  · exact (hno _ ej (by decide) (z_ltI.mpr (by rw [nI_toInt (by omega)]; exact Int.lt_of_lt_of_le (by decide : (-1 : Int32).toInt < 0) (Int.natCast_nonneg i)))).elim
  · exact (hno _ ej (by decide) (z_ltI.mpr (by rw [nI_toInt (by omega)]; exact Int.lt_of_lt_of_le (by decide : (-2 : Int32).toInt < 0) (Int.natCast_nonneg i)))).elim
  · rw [← ev] at hl
    refine Or.inr ⟨hl, n, c, hn, ev, hf, hc, ej, ?_⟩
    rw [e2]
    have h6 := hw.1.1
    unfold z_bv at e0
    unfold z_tb
    rw [hl] at e0 ⊢
    dsimp only at e0 ⊢
    have big : nI (1000 + c) ≠ -1 ∧ nI (1000 + c) ≠ -2 := (by decide : ∀ c, c < 6 → nI (1000 + c) ≠ -1 ∧ nI (1000 + c) ≠ -2) c (by omega)
    by_cases g1 : 0 < z_cnt P k ∧ z_hd P k 4 = z_v (z_bd P k) x
    · rw [if_pos g1, ej] at e0; exact absurd e0 big.1
    · rw [if_neg g1] at e0 ⊢
      by_cases g2 : 1 < z_cnt P k ∧ z_hd P k 5 = z_v (z_bd P k) x
      · rw [if_pos g2, ej] at e0; exact absurd e0 big.2
      · rw [if_neg g2]
        rw [ev, nI_clamp (show n < 2 ^ 31 by omega), hf]
theorem z_two.p (h : z_two P k i q r s) {t : Nat} (ht : t < s) : z_p (z_bd P k) (i + t) = z_p (z_bd P q) (r + t) := by
  unfold z_p; rw [(h.2.2 t ht).1, (h.2.2 t ht).2]
/-- what a variable of both is bound to, if not outside -/
theorem z_pp_var (hw : z_wf P) (hk : k < z_nm P) (hq : q < z_nm P) (hlk : (z_bd P k).length ≤ 192) (hlq : (z_bd P q).length ≤ 192) (r1 : z_rt P k (z_bd P k)) (r2 : z_rt P q (z_bd P q)) (hi : i < (z_bd P k).length) (hr : r < (z_bd P q).length) (h : z_two P k i q r s) (ho : z_own P k = z_own P q) (hv : ∀ t, t < s → z_ou P k i t = z_ou P q r t ∧ (z_ou P k i t = false → z_v (z_bd P k) (i + t) = z_v (z_bd P q) (r + t))) {t : Nat} (ht : t < s) (hkv : z_k (z_bd P k) (i + t) = 1 ∨ z_k (z_bd P k) (i + t) = 6) (hou : z_ou P k i t = false) : (∃ j, j < t ∧ z_le (z_bd P k) (i + t) (z_v (z_bd P k) (i + t)) = some (i + j) ∧ z_le (z_bd P q) (r + t) (z_v (z_bd P q) (r + t)) = some (r + j) ∧ z_Bd P k (i + t) = nI (i + j) ∧ z_Bd P q (r + t) = nI (r + j)) ∨ ∃ n c, n < 16 ∧ c < z_nc P ∧ z_Bd P k (i + t) = nI (1000 + c) ∧ z_Bd P q (r + t) = nI (1000 + c) ∧ z_Ty P k (i + t) = z_fld P c n - 2 ∧ z_Ty P q (r + t) = z_fld P c n - 2 := by
  have hB1 := hw.2.2.2.2.1 k hk
  have hB2 := hw.2.2.2.2.1 q hq
  have hl1 := z_en_le hB1.1 hi
  have hl2 := z_en_le hB2.1 hr
  have q1 := h.1
  have q2 := h.2.1
  obtain ⟨hv1, hv2⟩ := hv t ht
  have ev := hv2 hou
  have k5 : ∀ y, y < s → z_k (z_bd P k) (i + y) = 5 → z_v (z_bd P k) (i + y) = z_v (z_bd P q) (r + y) := fun y hy h5 => (hv y hy).2 (by
    unfold z_ou z_isO z_isL z_isV
    rw [h5]; rfl)
  have n1 := z_nou hw hk hlk r1 (x := i + t) (by omega) hi hkv hou
  have n2 := z_nou hw hq hlq r2 (x := r + t) (by omega) hr (by rw [← (h.2.2 t ht).1]; exact hkv) (by have := hv1.symm.trans hou; exact this)
  have hle := z_pp_le hB1.1 hB2.1 hi hr q1 q2 (fun t ht => h.p ht) (fun t ht => (h.2.2 t ht).1) k5 ht (z_v (z_bd P k) (i + t))
  rw [← ev] at n2 ⊢
  rcases n1 with ⟨j, j1, j2, j3, j4⟩ | ⟨j3, n, c, hn, e1, e2, hc, e3, e4⟩
  · rcases hle with ⟨y, y1, y2, y3⟩ | ⟨y1, _⟩
    · rcases n2 with ⟨j', _, _, a3, a4⟩ | ⟨a3, _⟩
      · rw [y3] at a3
        obtain rfl : r + y = j' := by simpa using a3
        rw [y2] at j3
        obtain rfl : i + y = j := by simpa using j3
        exact Or.inl ⟨y, y1, y2, y3, j4, a4⟩
      · rw [y3] at a3; cases a3
    · have := y1 j j3; omega
  · rcases hle with ⟨y, y1, y2, y3⟩ | ⟨_, y2⟩
    · rw [y2] at j3; cases j3
    · rcases n2 with ⟨j', a1, _, a3, a4⟩ | ⟨a3, n', c', hn', b1, b2, hc', b3, b4⟩
      · have := y2 j' a3; omega
      · rw [e1] at b1
        obtain rfl : n = n' := (nI_eq (by omega) (by omega)).mp b1
        rw [← ho, e2] at b2
        obtain rfl : c = c' := by simpa using b2
        exact Or.inr ⟨n, c, hn, hc, e3, b3, e4, b4⟩
theorem z_pp_ty (hw : z_wf P) (hk : k < z_nm P) (hq : q < z_nm P) (hlk : (z_bd P k).length ≤ 192) (hlq : (z_bd P q).length ≤ 192) (r1 : z_rt P k (z_bd P k)) (r2 : z_rt P q (z_bd P q)) (hi : i < (z_bd P k).length) (hr : r < (z_bd P q).length) (h : z_two P k i q r s) (ho : z_own P k = z_own P q) (hv : ∀ t, t < s → z_ou P k i t = z_ou P q r t ∧ (z_ou P k i t = false → z_v (z_bd P k) (i + t) = z_v (z_bd P q) (r + t))) (hT : ∀ t, t < s → z_ou P k i t = true → z_Ty P k (i + t) = z_Ty P q (r + t)) : ∀ t, t < s → z_Ty P k (i + t) = z_Ty P q (r + t) := by
  have hB1 := hw.2.2.2.2.1 k hk
  have hB2 := hw.2.2.2.2.1 q hq
  have hl1 := z_en_le hB1.1 hi
  have hl2 := z_en_le hB2.1 hr
  have q1 := h.1
  have q2 := h.2.1
  have key : ∀ x, x < (z_bd P k).length → ∀ t, t < s → x = i + t → z_Ty P k (i + t) = z_Ty P q (r + t) := by
    refine z_ind hB1.1 (M := fun x => ∀ t, t < s → x = i + t → z_Ty P k (i + t) = z_Ty P q (r + t)) (fun x hx h1 h2 t ht ex => ?_)
    subst ex
    cases hou : z_ou P k i t with
    | true => exact hT t ht hou
    | false =>
      have ev := (hv t ht).2 hou
      by_cases hkv : z_k (z_bd P k) (i + t) = 1 ∨ z_k (z_bd P k) (i + t) = 6
      · rcases z_pp_var hw hk hq hlk hlq r1 r2 hi hr h ho hv ht hkv hou with ⟨j, hj, e1, e2, _, _⟩ | ⟨n, c, _, _, _, _, e1, e2⟩
        · obtain ⟨_, _, _, c2, c3⟩ := z_le_some e1
          have hM := h2 (i + j) (by omega) c2 c3 (j + 1) (by omega) (by omega)
          have v1 := (z_var hw hk r1 (i := i + t) (by omega) hkv).2.2.1
          have v2 := (z_var hw hq r2 (i := r + t) (by omega) (by rw [← (h.2.2 t ht).1]; exact hkv)).2.2.1
          rw [v1, v2]
          unfold z_tb
          rw [e1, e2]
          exact hM
        · rw [e1, e2]
      · rw [(z_Ty_ok r1 (i := i + t) (by omega)).1, (z_Ty_ok r2 (i := r + t) (by omega)).1]
        refine z_pp_st hB1 (by omega) (h.2.2 t ht).1 ev (h.2.2 t ht).2 (by rw [(z_own_e hw hk).2, (z_own_e hw hq).2, ho]) (fun j hj => ?_) (fun g => absurd g hkv)
        obtain ⟨u, u1, u2, u3, u4⟩ := z_pp_part hB1.1 hB2.1 hi hr q1 q2 (fun t ht => h.p ht) ht hj
        rw [u3, u4]
        exact h1 j hj u u2 u3
  intro t ht
  exact key (i + t) (by omega) t ht rfl
theorem z_pp_bd (hw : z_wf P) (hk : k < z_nm P) (hq : q < z_nm P) (hlk : (z_bd P k).length ≤ 192) (hlq : (z_bd P q).length ≤ 192) (r1 : z_rt P k (z_bd P k)) (r2 : z_rt P q (z_bd P q)) (hi : i < (z_bd P k).length) (hr : r < (z_bd P q).length) (h : z_two P k i q r s) (ho : z_own P k = z_own P q) (hv : ∀ t, t < s → z_ou P k i t = z_ou P q r t ∧ (z_ou P k i t = false → z_v (z_bd P k) (i + t) = z_v (z_bd P q) (r + t))) (hT : ∀ t, t < s → z_ou P k i t = true → z_Ty P k (i + t) = z_Ty P q (r + t)) {t : Nat} (ht : t < s) (hn : ¬ (z_k (z_bd P k) (i + t) = 1 ∨ z_k (z_bd P k) (i + t) = 6)) : z_Bd P k (i + t) = z_Bd P q (r + t) := by
  have hB1 := hw.2.2.2.2.1 k hk
  have hB2 := hw.2.2.2.2.1 q hq
  have hl1 := z_en_le hB1.1 hi
  have hl2 := z_en_le hB2.1 hr
  have q1 := h.1
  have q2 := h.2.1
  have hou : z_ou P k i t = false := by
    unfold z_ou z_isO z_isL z_isV
    rw [show (z_k (z_bd P k) (i + t) == 1) = false by simpa using fun g => hn (Or.inl g), show (z_k (z_bd P k) (i + t) == 6) = false by simpa using fun g => hn (Or.inr g)]; rfl
  refine z_pp_bs hB1 (by omega) (h.2.2 t ht).1 ((hv t ht).2 hou) (h.2.2 t ht).2 (fun j hj => ?_) hn
  obtain ⟨u, u1, u2, u3, u4⟩ := z_pp_part hB1.1 hB2.1 hi hr q1 q2 (fun t ht => h.p ht) ht hj
  rw [u3, u4]
  exact z_pp_ty hw hk hq hlk hlq r1 r2 hi hr h ho hv hT u u2
end
