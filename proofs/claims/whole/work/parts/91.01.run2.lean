-- deps: 91.00.run
/-! a run: what stays so -/
section
variable {P : z_Pg} {h h' : y_Qh} {k0 : Nat} {n : Nat} {out : y_V}
/-- more is known -/
def y_le (h h' : y_Qh) (F : Nat) : Prop := (∀ f, f ≤ F → y_qm h' f = y_qm h f ∧ ∀ s, (y_ql h f s).isSome = true → (y_ql h' f s).isSome = true) ∧ y_qn h ≤ y_qn h' ∧ ∀ o, o < y_qn h → y_qc h' o = y_qc h o
theorem y_le.refl (h : y_Qh) (F : Nat) : y_le h h F := ⟨fun _ _ => ⟨rfl, fun _ g => g⟩, Nat.le_refl _, fun _ _ => rfl⟩
theorem y_vt.le {F : Nat} (hl : y_le h h' F) {T : Int32} {v : y_V} (hv : y_vt P h T v) : y_vt P h' T v := by
  rcases hv with g | ⟨c, g1, g2, g3⟩
  · exact Or.inl g
  · refine Or.inr ⟨c, g1, g2, ?_⟩
    rcases g3 with g | ⟨g4, o, g5, g6, g7⟩
    · exact Or.inl g
    · exact Or.inr ⟨g4, o, Nat.lt_of_lt_of_le g5 hl.2.1, g6, by rw [hl.2.2 o g5]; exact g7⟩
theorem y_l_eq {a a' : y_Ac} (h1 : a'.1 = a.1) (h2 : y_qm h' a.1 = y_qm h a.1) : y_l P h' a' = y_l P h a := by unfold y_l; rw [h1, h2]
theorem y_rq_eq {a a' : y_Ac} (h1 : a'.1 = a.1) (h2 : y_qm h' a.1 = y_qm h a.1) (h3 : a'.2.1 = a.2.1) (j : Nat) : y_rq P h' a' j = y_rq P h a j := by
  unfold y_rq y_k y_p y_ty y_pt
  rw [y_l_eq (P := P) h1 h2, h3, h1, h2]
theorem y_ty_eq {a a' : y_Ac} (h1 : a'.1 = a.1) (h2 : y_qm h' a.1 = y_qm h a.1) (h3 : a'.2.1 = a.2.1) : y_ty P h' a' = y_ty P h a := by
  unfold y_ty; rw [h1, h2, h3]
theorem y_k_eq {a a' : y_Ac} (h1 : a'.1 = a.1) (h2 : y_qm h' a.1 = y_qm h a.1) (h3 : a'.2.1 = a.2.1) : y_k P h' a' = y_k P h a := by
  unfold y_k; rw [y_l_eq (P := P) h1 h2, h3]
theorem y_p_eq {a a' : y_Ac} (h1 : a'.1 = a.1) (h2 : y_qm h' a.1 = y_qm h a.1) (h3 : a'.2.1 = a.2.1) : y_p P h' a' = y_p P h a := by
  unfold y_p; rw [y_l_eq (P := P) h1 h2, h3]
theorem y_AW.le {F : Nat} (hl : y_le h h' F) {a : y_Ac} (ha : a.1 ≤ F) (hw : y_AW P h a) : y_AW P h' a := by
  have e := (hl.1 a.1 ha).1
  refine ⟨by rw [y_l_eq (P := P) (a := a) (a' := a) rfl e]; exact hw.1, fun s hs => (hl.1 a.1 ha).2 s (hw.2.1 s (by rw [← e]; exact hs)), by rw [y_k_eq (P := P) (a := a) (a' := a) rfl e rfl, y_p_eq (P := P) (a := a) (a' := a) rfl e rfl]; exact hw.2.2.1, fun j hj => ?_⟩
  rw [y_rq_eq (P := P) (a := a) (a' := a) rfl e rfl]
  exact (hw.2.2.2 j hj).le hl
theorem y_LK.le {F : Nat} (hl : y_le h h' F) {a : y_Ac} {s : List y_Ac} (ha : a.1 ≤ F) (hs : ∀ b ∈ s, b.1 ≤ F) (hk : y_LK P h k0 a s) : y_LK P h' k0 a s := by
  have e := (hl.1 a.1 ha).1
  cases s with
  | nil => exact ⟨hk.1, by rw [y_ty_eq (P := P) (a := a) (a' := a) rfl e rfl]; exact hk.2⟩
  | cons b s =>
    have eb := (hl.1 b.1 (hs b List.mem_cons_self)).1
    obtain ⟨h1, h2, h3⟩ := hk
    refine ⟨?_, ?_, ?_⟩
    · rw [y_k_eq (P := P) (a := b) (a' := b) rfl eb rfl]; exact h1
    · rw [y_k_eq (P := P) (a := b) (a' := b) rfl eb rfl, y_p_eq (P := P) (a := b) (a' := b) rfl eb rfl]; exact h2
    · rw [y_ty_eq (P := P) (a := a) (a' := a) rfl e rfl, y_rq_eq (P := P) (a := b) (a' := b) rfl eb rfl]; exact h3
theorem y_CH.le {F : Nat} (hl : y_le h h' F) : ∀ {s : List y_Ac}, (∀ b ∈ s, b.1 ≤ F) → y_CH P h k0 s → y_CH P h' k0 s
  | [], _, _ => trivial
  | a :: s, hs, hc => ⟨hc.1.le hl (hs a List.mem_cons_self), hc.2.1.le hl (hs a List.mem_cons_self) (fun b hb => hs b (List.mem_cons_of_mem _ hb)), y_CH.le hl (fun b hb => hs b (List.mem_cons_of_mem _ hb)) hc.2.2⟩
theorem y_CH_f : ∀ {s : List y_Ac} {a : y_Ac}, y_CH P h k0 (a :: s) → ∀ b ∈ a :: s, b.1 ≤ a.1
  | [], a, _, b, hb => by rw [List.mem_singleton.mp hb]; exact Nat.le_refl _
  | c :: s, a, hc, b, hb => by
    rcases List.mem_cons.mp hb with rfl | hb
    · exact Nat.le_refl _
    · have ih := y_CH_f hc.2.2 b hb
      have := hc.2.1.2.1
      split at this <;> omega
theorem y_vt_fit {T W : Int32} {v : y_V} (hw : z_wf P) (hv : y_vt P h T v) (hf : z_fit P T W = true) : y_vt P h W v := by
  have h6 := hw.1.1
  unfold z_fit at hf
  rcases hv with ⟨g1, g2⟩ | ⟨c, g1, g2, g3⟩
  · rw [g1] at hf
    have : W = -1 := by
      simp only [Bool.or_eq_true, beq_iff_eq, Bool.and_eq_true, decide_eq_true_eq] at hf
      rcases hf with g | g | ⟨g, _⟩
      · exact absurd g (by decide)
      · exact g.symm
      · exact absurd g (by decide)
    exact Or.inl ⟨this, g2⟩
  · subst g2
    simp only [Bool.or_eq_true, beq_iff_eq, Bool.and_eq_true, decide_eq_true_eq] at hf
    rcases hf with g | g | ⟨_, g, gb⟩
    · exact absurd g (z_eqm (k := 2) (by omega) (by decide) (by decide))
    · exact Or.inr ⟨c, g1, g.symm, g3⟩
    · have gW : ¬ W < 0 := fun y => by
        have a1 := Int32.lt_iff_toInt_lt.mp y
        have a2 := Int32.le_iff_toInt_le.mp g
        omega
      obtain ⟨d, d1, rfl⟩ := nI_of gW
      rw [nI_clamp (by omega), nI_clamp (by omega)] at gb
      have hd := z_blw_le hw.1 g1 gb
      refine Or.inr ⟨d, by omega, rfl, ?_⟩
      rcases g3 with g | ⟨g4, o, g5, g6, g7⟩
      · exact Or.inl g
      · exact Or.inr ⟨g4, o, g5, g6, g7.1, z_blw_trans hw.1 g7.1 g7.2 gb⟩
theorem z_fit_refl (t : Int32) : z_fit P t t = true := by unfold z_fit; simp
theorem y_LV_part {m i w s : Nat} (hB : z_tr (z_bd P m)) (hi : i < (z_bd P m).length) (hw : w < z_p (z_bd P m) i) (h : y_LV P m (z_pt (z_bd P m) i w) s) : (s = i + 2 ∧ z_k (z_bd P m) i = 5 ∧ w = 1) ∨ y_LV P m i s := by
  rcases h with h | h | ⟨j, e, h5, h1, h2, h3⟩
  · exact Or.inr (Or.inl h)
  · exact Or.inr (Or.inr (Or.inl h))
  · have hlt := z_pt_lt hB hi hw
    have hpe := z_pt_en hi hw
    have hg := z_en_gt hlt
    have hgi := z_pt_ge (l := z_bd P m) (i := i) w
    rcases Nat.lt_trichotomy j i with g | g | g
    · refine Or.inr (Or.inr (Or.inr ⟨j, e, h5, g, by omega, ?_⟩))
      rcases Nat.lt_or_ge i (z_en (z_bd P m) (j + 1)) with q | q
      · exfalso
        rcases Nat.eq_or_lt_of_le (show j + 1 ≤ i by omega) with r | r
        · rw [r] at h3; omega
        · have := z_lam' hB (i := j + 1) (by omega) r q
          omega
      · exact q
    · subst g
      refine Or.inl ⟨e, h5, ?_⟩
      rw [z_p_5 h5] at hw
      rcases Nat.eq_zero_or_pos w with q | q
      · rw [q, z_pt_0] at h3
        have := z_en_gt (l := z_bd P m) (i := j + 1) (by rw [q, z_pt_0] at hlt; exact hlt)
        omega
      · omega
    · exfalso
      obtain ⟨q, q1, q2, q3⟩ := z_within hi g (by omega)
      have hql := z_pt_lt hB hi q1
      have e4 : z_en (z_bd P m) j ≤ z_pt (z_bd P m) i (q + 1) := by
        rw [z_pt_s]
        rcases Nat.eq_or_lt_of_le q2 with r | r
        · rw [r]; exact Nat.le_refl _
        · rw [z_pt_s] at q3
          exact z_lam' hB hql r q3
      rcases Nat.lt_or_ge q w with r | r
      · have := z_pt_mono (l := z_bd P m) (i := i) (show q + 1 ≤ w by omega)
        omega
      · have := z_pt_mono (l := z_bd P m) (i := i) r
        omega
theorem y_HI.mono {F F' : Nat} (hF : F' ≤ F) (hi : y_HI P h F) : y_HI P h F' := ⟨fun f hf => hi.1 f (by omega), fun f hf => hi.2.1 f (by omega), hi.2.2⟩
theorem y_g_app {vs : List y_V} {v : y_V} {j : Nat} (hj : j < vs.length) : y_g (vs ++ [v]) j = y_g vs j := by
  unfold y_g
  rw [List.getD_eq_getElem?_getD, List.getElem?_append_left hj, ← List.getD_eq_getElem?_getD]
theorem y_g_last {vs : List y_V} {v : y_V} : y_g (vs ++ [v]) vs.length = v := by
  unfold y_g
  rw [List.getD_eq_getElem?_getD, List.getElem?_append_right (Nat.le_refl _), Nat.sub_self]; rfl
theorem y_sb_4 {k : Int32} {p : Nat} (hp : p ≤ 3) : y_sb k p ≤ 4 := by
  unfold y_sb
  split
  · omega
  · split <;> omega
theorem z_p_3le {nc : Nat} {l : List z_N} (hB : z_wB nc l) {i : Nat} (hi : i < l.length) : z_p l i ≤ 3 := by
  rcases z_kc hB hi with e | e | e | e | e | e | e | e | e | e | e | e | e | e
  · rw [z_p_0 e]; decide
  · rw [z_p_1 e]; decide
  · rw [z_p_2 e]; decide
  · rw [z_p_3 e]; decide
  · rw [z_p_4 e]; decide
  · rw [z_p_5 e]; decide
  · rw [z_p_6 e]; decide
  · rcases z_pn_ka hB hi e with ⟨_, g⟩ | ⟨_, g⟩ | ⟨_, g⟩ <;> rw [g] <;> decide
  · rw [z_p_8 e]; decide
  · rw [z_p_9 e]; decide
  · rw [z_p_10 e]; decide
  · rw [z_p_11 e]; decide
  · rw [z_p_12 e]; decide
  · rw [z_p_13 e]; decide
/-- a value comes of a node -/
theorem y_fin_ok (hw : z_wf P) {a : y_Ac} {s : List y_Ac} {v : y_V} (hC : y_CH P h k0 (a :: s)) (hn : n ≤ 500 ∧ y_ht (a :: s) + (a :: s).length ≤ n ∧ y_qn h + (a :: s).length ≤ n + 1) (h20 : a.1 < 20) (hst : a.2.2.1 ≤ 4) (hl : y_le h h' a.1) (hq : y_qn h' ≤ y_qn h + 1) (hI : y_HI P h' a.1) (hv : y_vt P h' (y_ty P h a) v) : ∃ s2 out2, y_fin s h' n out v = (s2, h', n, -1, 0, out2) ∧ y_QI P k0 s2 h' n out2 ∧ y_mu s2 < y_mu (a :: s) := by
  obtain ⟨n1, n2, n3⟩ := hn
  have n2 : y_ht s + a.2.2.2.length + (s.length + 1) ≤ n := n2
  have n3 : y_qn h + (s.length + 1) ≤ n + 1 := n3
  have hmu : y_mu s < y_mu (a :: s) := by show y_mu s < y_mu s + (5 - a.2.2.1); omega
  cases s with
  | nil =>
    obtain ⟨k1, k2⟩ := hC.2.1
    refine ⟨[], v, rfl, ⟨⟨n1, ?_, ?_⟩, y_vt_fit hw hv k2⟩, hmu⟩
    · show 0 + 0 ≤ n; omega
    · show y_qn h' + 0 ≤ n + 1
      have : y_qn h + 1 ≤ n + 1 := n3
      omega
  | cons b s =>
    obtain ⟨k1, k2, k3⟩ := hC.2.1
    have hf := y_CH_f hC
    have hb : b.1 ≤ a.1 := hf b (List.mem_cons_of_mem _ List.mem_cons_self)
    have hCs : y_CH P h' k0 (b :: s) := hC.2.2.le hl (fun c hc => hf c (List.mem_cons_of_mem _ hc))
    have eb := (hl.1 b.1 hb).1
    refine ⟨(b.1, b.2.1, b.2.2.1, b.2.2.2 ++ [v]) :: s, out, rfl, ⟨⟨n1, ?_, ?_⟩, ?_, ⟨⟨hCs.1.1, hCs.1.2.1, hCs.1.2.2.1, fun j hj => ?_⟩, ?_, hCs.2.2⟩, hI.mono hb, Nat.lt_of_le_of_lt hb h20⟩, ?_⟩
    · have n2 : y_ht s + b.2.2.2.length + a.2.2.2.length + (s.length + 1 + 1) ≤ n := n2
      show y_ht s + (b.2.2.2 ++ [v]).length + (s.length + 1) ≤ n
      rw [List.length_append]
      show y_ht s + (b.2.2.2.length + 1) + (s.length + 1) ≤ n
      omega
    · have n3 : y_qn h + (s.length + 1 + 1) ≤ n + 1 := n3
      show y_qn h' + (s.length + 1) ≤ n + 1
      omega
    · show (b.2.2.2 ++ [v]).length = y_xc (y_k P h' b) b.2.2.1
      rw [List.length_append, y_k_eq (P := P) (a := b) (a' := b) rfl eb rfl]
      exact k1
    · have hj : j < (b.2.2.2 ++ [v]).length := hj
      rw [List.length_append] at hj
      have hj : j < b.2.2.2.length + 1 := hj
      show y_vt P h' (y_rq P h' b j) (y_g (b.2.2.2 ++ [v]) j)
      rcases Nat.lt_or_ge j b.2.2.2.length with g | g
      · rw [y_g_app g]; exact hCs.1.2.2.2 j g
      · obtain rfl : j = b.2.2.2.length := by omega
        rw [y_g_last, y_rq_eq (P := P) (a := b) (a' := b) rfl eb rfl]
        exact y_vt_fit hw hv k3
    · have := hCs.2.1
      cases s with
      | nil => exact this
      | cons d s => exact this
    · exact hmu
/-- a node begins -/
theorem y_st_ok {s : List y_Ac} {f i : Nat} (hC : y_CH P h k0 s) (hn : n ≤ 500 ∧ y_ht s + s.length ≤ n ∧ y_qn h + s.length ≤ n + 1) (h20 : f < 20) (hI : y_HI P h f) (hL : y_LK P h k0 (f, i, 0, []) s) (hi : i < (z_bd P (y_qm h f)).length) (hV : ∀ s, y_LV P (y_qm h f) i s → (y_ql h f s).isSome = true) : (y_st s h n out f i = (s, h, n, 5, 0, out)) ∨ (n < 500 ∧ y_st s h n out f i = ((f, i, 0, []) :: s, h, n + 1, -1, 0, out) ∧ y_QI P k0 ((f, i, 0, []) :: s) h (n + 1) out ∧ y_mu ((f, i, 0, []) :: s) = y_mu s + 5) := by
  unfold y_st
  by_cases g : n = 500
  · rw [if_pos g]; exact Or.inl rfl
  · rw [if_neg g]
    obtain ⟨n1, n2, n3⟩ := hn
    refine Or.inr ⟨by omega, rfl, ⟨⟨by omega, ?_, ?_⟩, ?_, ⟨⟨hi, hV, Nat.zero_le _, fun j hj => absurd hj (Nat.not_lt_zero _)⟩, hL, hC⟩, hI, h20⟩, rfl⟩
    · show y_ht s + 0 + (s.length + 1) ≤ n + 1; omega
    · show y_qn h + (s.length + 1) ≤ n + 1 + 1; omega
    · show 0 = y_xc _ 0
      unfold y_xc
      rw [if_neg (fun q => absurd q.2 (by decide))]
theorem y_up1_mu {a : y_Ac} {s : List y_Ac} (h : a.2.2.1 ≤ 4) : y_mu (y_up1 a :: s) + 1 = y_mu (a :: s) := by
  show y_mu s + (5 - (a.2.2.1 + 1)) + 1 = y_mu s + (5 - a.2.2.1)
  omega
theorem y_unw_some {a : y_Ac} {s' : List y_Ac} : ∀ {s : List y_Ac}, y_unw P h s = some (a, s') → y_CH P h k0 s → (y_k P h a = 13 ∧ a.2.2.1 = 1) ∧ y_CH P h k0 (a :: s') ∧ (∀ b ∈ a :: s', b ∈ s) ∧ y_ht (a :: s') + (a :: s').length ≤ y_ht s + s.length ∧ (a :: s').length ≤ s.length ∧ y_mu (a :: s') ≤ y_mu s
  | [], hu, _ => by cases hu
  | b :: s, hu, hC => by
    unfold y_unw at hu
    by_cases g : y_k P h b = 13 ∧ b.2.2.1 = 1
    · rw [if_pos g] at hu
      obtain ⟨rfl, rfl⟩ := Prod.mk.inj (Option.some.inj hu)
      exact ⟨g, hC, fun _ q => q, Nat.le_refl _, Nat.le_refl _, Nat.le_refl _⟩
    · rw [if_neg g] at hu
      obtain ⟨q1, q2, q3, q4, q5, q6⟩ := y_unw_some hu hC.2.2
      refine ⟨q1, q2, fun c hc => List.mem_cons_of_mem _ (q3 c hc), ?_, ?_, ?_⟩
      · show _ ≤ y_ht s + b.2.2.2.length + (s.length + 1); omega
      · show _ ≤ s.length + 1; omega
      · show _ ≤ y_mu s + (5 - b.2.2.1); omega
theorem z_jn_fit {a b : Int32} (h : z_jn P a b ≠ -3) : z_fit P a (z_jn P a b) = true ∧ z_fit P b (z_jn P a b) = true := by
  unfold z_jn at *
  by_cases g : z_fit P b a = true
  · rw [if_pos g]; exact ⟨z_fit_refl a, g⟩
  · rw [if_neg g] at h ⊢
    by_cases g2 : z_fit P a b = true
    · rw [if_pos g2]; exact ⟨g2, z_fit_refl b⟩
    · rw [if_neg g2] at h; exact absurd rfl h
end
