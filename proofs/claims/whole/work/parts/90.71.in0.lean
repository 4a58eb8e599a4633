-- deps: 90.70.mpd3
/-! a call written out: the rows -/
section
variable {S : z_S} {m : z_m} {p q : Nat} {P : z_Pg} {A : z_A}
theorem z_wl_app : ∀ (l t : List z_N) (c1 c : Nat), z_wl c1 l = true → z_wl (c + c1) (l ++ t) = z_wl c t
  | [], t, c1, c, h => by
    have : c1 = 0 := by unfold z_wl at h; simpa using h
    subst this; rfl
  | x :: l, t, 0, c, h => by cases h
  | x :: l, t, c1 + 1, c, h => by
    have h : z_wl (c1 + z_pn x.1 x.2.2) l = true := h
    show z_wl (c + c1 + z_pn x.1 x.2.2) (l ++ t) = _
    rw [Nat.add_assoc]
    exact z_wl_app l t _ c h
theorem z_wl_pre : ∀ (n : Nat) (l : List z_N), l.length ≤ n → ∀ c j, z_wl c l = true → j ≤ c → z_wl j (l.take (z_sk j (z_szs l))) = true
  | n, l, hn, c, 0, h, _ => by
    show z_wl 0 (l.take 0) = true
    rfl
  | n, [], hn, c, j + 1, h, hj => by
    unfold z_wl at h
    have : c = 0 := by simpa using h
    omega
  | 0, x :: t, hn, c, j + 1, h, hj => by simp at hn
  | n + 1, x :: t, hn, 0, j + 1, h, hj => by omega
  | n + 1, x :: t, hn, c + 1, j + 1, h, hj => by
    have hl : t.length ≤ n := by simpa using hn
    unfold z_wl at h
    obtain ⟨h1, h2⟩ := z_wl_suf n t hl (c + z_pn x.1 x.2.2) (z_pn x.1 x.2.2) h (by omega)
    rw [show c + z_pn x.1 x.2.2 - z_pn x.1 x.2.2 = c by omega] at h1
    have i1 := z_wl_pre n t hl (c + z_pn x.1 x.2.2) (z_pn x.1 x.2.2) h (by omega)
    have i2 := z_wl_pre n (t.drop (z_sk (z_pn x.1 x.2.2) (z_szs t))) (by rw [List.length_drop]; omega) c j h1 (by omega)
    have e : z_sk (j + 1) (z_szs (x :: t)) = (z_sk (z_pn x.1 x.2.2) (z_szs t) + z_sk j (z_szs (t.drop (z_sk (z_pn x.1 x.2.2) (z_szs t))))) + 1 := by
      show (1 + z_sk (z_pn x.1 x.2.2) (z_szs t)) + z_sk j (((1 + z_sk (z_pn x.1 x.2.2) (z_szs t)) :: z_szs t).drop (1 + z_sk (z_pn x.1 x.2.2) (z_szs t))) = _
      rw [Nat.add_comm 1, List.drop_succ_cons, z_szs_drop]; omega
    rw [e, List.take_succ_cons]
    show z_wl (j + z_pn x.1 x.2.2) (t.take _) = true
    rw [List.take_add, z_wl_app _ _ _ _ i1]
    exact i2
/-- a tree within a tree -/
theorem z_sub_tr {l : List z_N} (ht : z_tr l) {i : Nat} (hi : i < l.length) : z_tr (z_sub l i (z_en l i)) := by
  obtain ⟨c, hc⟩ := z_wl_drop i 1 l ht (by omega)
  have hc1 : 1 ≤ c := by
    cases c with
    | zero =>
      rw [List.drop_eq_getElem_cons hi] at hc
      cases hc
    | succ c => omega
  have := z_wl_pre (l.drop i).length (l.drop i) (Nat.le_refl _) c 1 hc hc1
  have e : z_sk 1 (z_szs (l.drop i)) = z_sz l i := by
    rw [z_sk_1, ← z_szs_drop]
    unfold z_sz
    rw [List.getD_eq_getElem?_getD, List.getD_eq_getElem?_getD, List.getElem?_drop, Nat.add_zero]
  rw [e] at this
  unfold z_tr z_sub z_en
  rw [show i + z_sz l i - i = z_sz l i by omega]
  exact this
theorem z_net_tr {a b : List z_N} (ha : z_tr a) (hb : z_tr b) : z_net a b := fun c t => by
  cases c with
  | zero =>
    have h1 := z_tr_pos ha
    have h2 := z_tr_pos hb
    cases a with
    | nil => exact absurd h1 (Nat.lt_irrefl 0)
    | cons x a =>
      cases b with
      | nil => exact absurd h2 (Nat.lt_irrefl 0)
      | cons y b => rfl
  | succ c => rw [z_wl_app a t 1 c ha, z_wl_app b t 1 c hb]
theorem z_sub_cut (l : List z_N) {i j : Nat} (hij : i ≤ j) (hj : j ≤ l.length) : l = z_sub l 0 i ++ (z_sub l i j ++ z_sub l j l.length) := by
  unfold z_sub
  rw [List.drop_zero, Nat.sub_zero, List.take_of_length_le (l := l.drop j) (by rw [List.length_drop]; omega)]
  have : (l.drop i).take (j - i) ++ l.drop j = l.drop i := by
    have e : l.drop j = (l.drop i).drop (j - i) := by rw [List.drop_drop, show i + (j - i) = j by omega]
    rw [e, List.take_append_drop]
  rw [this, List.take_append_drop]
/-- a tree put in the place of another -/
theorem z_put_tr {l b : List z_N} (ht : z_tr l) {i : Nat} (hi : i < l.length) (hb : z_tr b) : z_tr (z_sub l 0 i ++ (b ++ z_sub l (z_en l i) l.length)) := by
  have hle := z_en_le ht hi
  have hgt := z_en_gt hi
  have h1 : z_wl 1 (z_sub l 0 i ++ (z_sub l i (z_en l i) ++ z_sub l (z_en l i) l.length)) = true := by
    rw [← z_sub_cut l (by omega) hle]; exact ht
  unfold z_tr
  rw [← h1]
  have hn := z_net_pre (z_sub l 0 i) (z_net_app (z_net_tr hb (z_sub_tr ht hi)) (z_net.refl (z_sub l (z_en l i) l.length)))
  have := hn 1 []
  rw [List.append_nil, List.append_nil] at this
  exact this
theorem z_sub_mem {l : List z_N} {i j : Nat} {x : z_N} (h : x ∈ z_sub l i j) : x ∈ l := by
  unfold z_sub at h
  exact List.mem_of_mem_drop (List.mem_of_mem_take h)
theorem z_let_tr {n : Int32} {a b : List z_N} (ha : z_tr a) (hb : z_tr b) : z_tr ((5, n, 0) :: (a ++ b)) := by
  show z_wl (0 + z_pn 5 0) (a ++ b) = true
  have : 0 + z_pn 5 0 = 1 + 1 := rfl
  rw [this, z_wl_app a b 1 1 ha]; exact hb
/-! what is written -/
noncomputable def z_ing (P : z_Pg) (k i q : Nat) (n1 n2 : Int32) (j : Nat) : List z_N := if z_isBL (z_bd P q) (z_Bd P q) j (-1) = true then [(z_k (z_bd P q) j, n1, z_a (z_bd P q) j)] else if z_isBL (z_bd P q) (z_Bd P q) j (-2) = true then [(z_k (z_bd P q) j, n2, z_a (z_bd P q) j)] else if (z_isF (z_bd P q) (z_Bd P q) j && z_hl P k i (z_v (z_bd P q) j)) = true then z_pln (z_k (z_bd P q) j) (z_v (z_bd P q) j) else [z_at (z_bd P q) j]
noncomputable def z_inB (P : z_Pg) (k i q : Nat) (n1 n2 : Int32) : List z_N := z_cat (z_ing P k i q n1 n2) (z_bd P q).length
def z_inL (P : z_Pg) (k i j : Nat) (n : Int32) : List z_N := (5, n, 0) :: z_sub (z_bd P k) (z_pt (z_bd P k) i j) (z_en (z_bd P k) (z_pt (z_bd P k) i j))
noncomputable def z_inD (P : z_Pg) (k i q ar : Nat) (n1 n2 : Int32) : List z_N := ((((z_sub (z_bd P k) 0 i) ++ (if 0 < ar then z_inL P k i 1 n1 else [])) ++ (if 1 < ar then z_inL P k i 2 n2 else [])) ++ z_inB P k i q n1 n2) ++ z_sub (z_bd P k) (z_en (z_bd P k) i) (z_bd P k).length
theorem z_ing_len (P : z_Pg) (k i q : Nat) (n1 n2 : Int32) (j : Nat) : (z_ing P k i q n1 n2 j).length ≤ 2 := by
  unfold z_ing
  split
  · exact Nat.le_succ 1
  · split
    · exact Nat.le_succ 1
    · split
      · rw [z_pln_len]; exact Nat.le_refl _
      · exact Nat.le_succ 1
theorem z_inB_wB (hw : z_wf P) {k i q t1 t2 : Nat} (hq : q < z_nm P) (h1 : t1 < 16) (h2 : t2 < 16) : z_wB (z_nc P) (z_inB P k i q (nI t1) (nI t2)) := by
  have hB := hw.2.2.2.2.1 q hq
  refine z_cat_wB hB (fun j hj => ?_)
  have hN := z_wN_at hB hj
  have h8 : ∀ x, z_isBL (z_bd P q) (z_Bd P q) j x = true → z_k (z_bd P q) j ≠ 8 := fun x h => by
    unfold z_isBL z_isL z_isV at h
    simp only [Bool.and_eq_true, Bool.or_eq_true, beq_iff_eq] at h
    rcases h.1.1 with e | e <;> rw [e] <;> decide
  unfold z_ing
  split
  · next g =>
    refine ⟨z_net_1 rfl, fun y hy => ?_⟩
    rw [List.mem_singleton.mp hy]
    exact z_wN_nm hN (h8 _ g) ⟨t1, h1, rfl⟩
  · split
    · next g =>
      refine ⟨z_net_1 rfl, fun y hy => ?_⟩
      rw [List.mem_singleton.mp hy]
      exact z_wN_nm hN (h8 _ g) ⟨t2, h2, rfl⟩
    · split
      · next g =>
        have hkv : z_k (z_bd P q) j = 1 ∨ z_k (z_bd P q) j = 6 := by
          unfold z_isF z_isV at g
          simp only [Bool.and_eq_true, Bool.or_eq_true, beq_iff_eq] at g
          exact g.1.1
        obtain ⟨n, hn, ev⟩ := z_v_nm hB hj (by rcases hkv with e | e <;> simp [e])
        rw [ev]
        refine ⟨?_, z_pln_wN ⟨n, hn, rfl⟩⟩
        have ha := z_a_0 hB hj (by rcases hkv with e | e <;> rw [e] <;> decide)
        exact z_net_pln (name := nI n) (v := z_v (z_bd P q) j) hkv ha
      · exact ⟨z_net.refl _, fun y hy => by rw [List.mem_singleton.mp hy]; exact hN⟩
theorem z_inD_wB (hw : z_wf P) {k i q ar t1 t2 : Nat} (hk : k < z_nm P) (hi : i < (z_bd P k).length) (hq : q < z_nm P) (h1 : t1 < 16) (h2 : t2 < 16) (hp : ar < z_p (z_bd P k) i) (har : ar ≤ 2) : z_wB (z_nc P) (z_inD P k i q ar (nI t1) (nI t2)) := by
  have hB := hw.2.2.2.2.1 k hk
  have hBB := z_inB_wB (k := k) (i := i) hw hq h1 h2
  have sub : ∀ j, j < z_p (z_bd P k) i → z_tr (z_sub (z_bd P k) (z_pt (z_bd P k) i j) (z_en (z_bd P k) (z_pt (z_bd P k) i j))) := fun j hj => z_sub_tr hB.1 (z_pt_lt hB.1 hi hj)
  have lw : ∀ n, n < 16 → z_wN (z_nc P) (5, nI n, 0) := fun n hn => ⟨⟨5, by decide, rfl⟩, rfl, fun _ => ⟨n, hn, rfl⟩, fun g => absurd (show (5 : Int32) = 8 from g) (by decide)⟩
  have sw : ∀ {a b : Nat} {x : z_N}, x ∈ z_sub (z_bd P k) a b → z_wN (z_nc P) x := fun h => hB.2 _ (z_sub_mem h)
  refine ⟨?_, fun x hx => ?_⟩
  · have key : ∃ b, z_inD P k i q ar (nI t1) (nI t2) = z_sub (z_bd P k) 0 i ++ (b ++ z_sub (z_bd P k) (z_en (z_bd P k) i) (z_bd P k).length) ∧ z_tr b := by
      unfold z_inD
      have c3 : ar = 0 ∨ ar = 1 ∨ ar = 2 := by omega
      rcases c3 with rfl | rfl | rfl
      · refine ⟨z_inB P k i q (nI t1) (nI t2), ?_, hBB.1⟩
        rw [if_neg (by decide), if_neg (by decide)]; simp
      · refine ⟨(5, nI t1, 0) :: (z_sub (z_bd P k) (z_pt (z_bd P k) i 1) (z_en (z_bd P k) (z_pt (z_bd P k) i 1)) ++ z_inB P k i q (nI t1) (nI t2)), ?_, z_let_tr (sub 1 hp) hBB.1⟩
        rw [if_pos (by decide), if_neg (by decide)]
        unfold z_inL; simp
      · refine ⟨(5, nI t1, 0) :: (z_sub (z_bd P k) (z_pt (z_bd P k) i 1) (z_en (z_bd P k) (z_pt (z_bd P k) i 1)) ++ ((5, nI t2, 0) :: (z_sub (z_bd P k) (z_pt (z_bd P k) i 2) (z_en (z_bd P k) (z_pt (z_bd P k) i 2)) ++ z_inB P k i q (nI t1) (nI t2)))), ?_, z_let_tr (sub 1 (by omega)) (z_let_tr (sub 2 hp) hBB.1)⟩
        rw [if_pos (by decide), if_pos (by decide)]
        unfold z_inL; simp
    obtain ⟨b, e, hb⟩ := key
    rw [e]
    exact z_put_tr hB.1 hi hb
  · unfold z_inD at hx
    rcases List.mem_append.mp hx with hx | hx
    · rcases List.mem_append.mp hx with hx | hx
      · rcases List.mem_append.mp hx with hx | hx
        · rcases List.mem_append.mp hx with hx | hx
          · exact sw hx
          · split at hx
            · unfold z_inL at hx
              rcases List.mem_cons.mp hx with rfl | hx
              · exact lw t1 h1
              · exact sw hx
            · cases hx
        · split at hx
          · unfold z_inL at hx
            rcases List.mem_cons.mp hx with rfl | hx
            · exact lw t2 h2
            · exact sw hx
          · cases hx
      · exact hBB.2 x hx
    · exact sw hx
end
