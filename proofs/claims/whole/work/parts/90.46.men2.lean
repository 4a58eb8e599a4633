-- deps: 90.45.men
/-! a field hidden: the reference, both methods -/
section
variable {S : z_S} {m : z_m} {A : z_A} {P : z_Pg}
theorem z_rw2_0 (m : z_m) (j : Nat) : z_rw2 m j 0 (fun _ => (0, 0, 0)) := fun i hi => absurd hi (Nat.not_lt_zero i)
/-- a node more -/
theorem f202_3 (hM : z_MS S) {j i : Nat} (hj : j < 24) (hi : i < 192) (K V a : Int32) : ∃ m', f202 2390 2 (nI j) (nI i) K V a (z_hp S m) = some ((), z_hp S m') ∧ z_bF2 j m m' ∧ ∀ g, z_rw2 m j i g → z_rw2 m' j (i + 1) (fun i' => if i' = i then (K, V, a) else g i') := by
  refine ⟨_, f202_sp (S := S) (m := m) hM (B := 2) (b := 2) rfl (by decide) hj hi K V a, ⟨fun a ha => by rw [z_up_row ha, z_up_row ha, z_up_row ha], fun q hq => by rw [z_up_b (by omega), z_up_b (by omega), z_up_b (by omega)]⟩, fun g hr i' hi' => ?_⟩
  by_cases y : i' = i
  · subst y
    dsimp only
    rw [if_pos rfl]
    refine ⟨?_, ?_, ?_⟩
    · rw [z_up_b (by omega), z_up_b (by omega), show 14200 * 2 + 344 + 576 * j + i' = 28400 + 344 + 576 * j + i' by omega, z_up_s]
    · rw [z_up_b (by omega), show 14200 * 2 + 344 + 576 * j + i' + 192 = 28400 + 344 + 576 * j + i' + 192 by omega, z_up_s]
    · rw [show 14200 * 2 + 344 + 576 * j + i' + 384 = 28400 + 344 + 576 * j + i' + 384 by omega, z_up_s]
  · dsimp only
    rw [if_neg y, z_up_b (by omega), z_up_b (by omega), z_up_b (by omega), z_up_b (by omega), z_up_b (by omega), z_up_b (by omega), z_up_b (by omega), z_up_b (by omega), z_up_b (by omega)]
    exact hr i' (by omega)
/-- what a method laid in the copy leaves be -/
def z_laF (k : Nat) (m m' : z_m) : Prop := (∀ a, a ≠ 2391 → m' a = m a) ∧ ∀ j, (j < 28504 + 10 * k ∨ 28504 + 10 * k + 10 ≤ j) → (j < 28744 + 576 * k ∨ 28744 + 576 * k + 576 ≤ j) → m' 2391 j = m 2391 j
theorem z_laF.trans {k : Nat} {m m' m'' : z_m} (h : z_laF k m m') (h2 : z_laF k m' m'') : z_laF k m m'' := ⟨fun a x => (h2.1 a x).trans (h.1 a x), fun j x y => (h2.2 j x y).trans (h.2 j x y)⟩
theorem z_hF.laF {k : Nat} {m m' : z_m} (h : z_hF 2 k m m') : z_laF k m m' := ⟨h.1, fun j x _ => h.2 j (by omega)⟩
theorem z_bF2.laF {k : Nat} {m m' : z_m} (h : z_bF2 k m m') : z_laF k m m' := ⟨h.1, fun j _ y => h.2 j (by omega)⟩
/-- the heads and rows of a method laid -/
def z_ly (m : z_m) (k : Nat) (H : Nat → Int32) (l : List z_N) : Prop := (∀ w, w < 9 → m 2391 (14200 * 2 + 104 + 10 * k + w) = H w) ∧ m 2391 (14200 * 2 + 104 + 10 * k + 9) = nI l.length ∧ ∀ j, j < l.length → m 2391 (14200 * 2 + 344 + 576 * k + j) = z_k l j ∧ m 2391 (14200 * 2 + 344 + 576 * k + j + 192) = z_v l j ∧ m 2391 (14200 * 2 + 344 + 576 * k + j + 384) = z_a l j
theorem z_ly_fr {m' : z_m} {k : Nat} {H : Nat → Int32} {l : List z_N} (h : z_ly m k H l) (hl : l.length ≤ 192) (h1 : ∀ j, (28504 + 10 * k ≤ j ∧ j < 28504 + 10 * k + 10) ∨ (28744 + 576 * k ≤ j ∧ j < 28744 + 576 * k + 576) → m' 2391 j = m 2391 j) : z_ly m' k H l := ⟨fun w hw => by rw [h1 _ (by omega)]; exact h.1 w hw, by rw [h1 _ (by omega)]; exact h.2.1, fun j hj => by rw [h1 _ (by omega), h1 _ (by omega), h1 _ (by omega)]; exact h.2.2 j hj⟩
/-- a copy with a method more -/
theorem z_mb_ly {m' : z_m} {k : Nat} {H : Nat → Int32} {l : List z_N} (h : z_mb m 2 P) (hk : k = z_nm P) (h24 : k < 24) (hy : z_ly m' k H l) (hl : l.length ≤ 192) (h1 : m' 2391 28401 = nI (k + 1)) (hfr : ∀ j, j ≠ 28401 → (j < 28504 + 10 * k ∨ 28504 + 10 * k + 10 ≤ j) → (j < 28744 + 576 * k ∨ 28744 + 576 * k + 576 ≤ j) → m' 2391 j = m 2391 j) : z_mb m' 2 (z_addM P H l) := by
  subst hk
  exact z_mb_add h h24 h1 hy.1 hy.2.1 hl hy.2.2 (fun j x1 x2 x3 x4 x5 => hfr j (by omega) (by omega) (by omega))
/-- the getter laid -/
theorem f306_g (hM : z_MS S) {k c f : Nat} (hk : k < 24) (g t : Int32) : ∃ m1 m2 m3, f220 2390 2 (nI k) (nI c) g t (z_hp S m) = some ((), z_hp S m1) ∧ f202 2390 2 (nI k) 0 1 (nI f) 0 (z_hp S m1) = some ((), z_hp S m2) ∧ f197 2390 2 (nI k) 9 1 (z_hp S m2) = some ((), z_hp S m3) ∧ z_ly m3 k (z_hdr (nI c) g 0 (-1) (-1) (-1) (-1) t) [(1, nI f, 0)] ∧ z_laF k m m3 := by
  obtain ⟨m1, e1, hs1, F1⟩ := f220_sp (S := S) (m := m) (B := 2) (b := 2) (k := k) hM rfl (by decide) hk (nI c) g t
  obtain ⟨m2, e2, F2, r2⟩ := f202_3 (S := S) (m := m1) hM (j := k) (i := 0) hk (by decide) 1 (nI f) 0
  have r2 := r2 _ (z_rw2_0 m1 k)
  have e3 := f197_sp (S := S) (m := m2) (B := 2) (b := 2) (k := k) (W := 9) (w := 9) (v := 1) hM rfl rfl (by decide) hk (by decide)
  have F3 : z_hF 2 k m2 (z_hx m2 2 k 9 1) := (z_hF.refl 2 k m2).x (by decide)
  refine ⟨m1, m2, _, e1, e2, e3, ⟨fun w hw => ?_, ?_, fun j hj => ?_⟩, (F1.laF.trans F2.laF).trans F3.laF⟩
  · rw [z_hx_r, if_neg (by omega), F2.2 _ (by omega), hs1 w (by omega)]; exact if_neg (by omega)
  · rw [z_hx_r, if_pos rfl]; rfl
  · have hj : j < 1 := hj
    have j0 : j = 0 := by omega
    subst j0
    rw [z_hx_o (by omega) (by omega), z_hx_o (by omega) (by omega), z_hx_o (by omega) (by omega)]
    exact r2 0 (by decide)
/-- the setter laid -/
theorem f306_s (hM : z_MS S) {k c f : Nat} (hk : k < 24) (s o t : Int32) : ∃ m1 m2 m3 m4 m5 m6 m7, f220 2390 2 (nI k) (nI c) s t (z_hp S m) = some ((), z_hp S m1) ∧ f197 2390 2 (nI k) 3 1 (z_hp S m1) = some ((), z_hp S m2) ∧ f197 2390 2 (nI k) 4 o (z_hp S m2) = some ((), z_hp S m3) ∧ f197 2390 2 (nI k) 6 t (z_hp S m3) = some ((), z_hp S m4) ∧ f202 2390 2 (nI k) 0 6 (nI f) 0 (z_hp S m4) = some ((), z_hp S m5) ∧ f202 2390 2 (nI k) 1 1 o 0 (z_hp S m5) = some ((), z_hp S m6) ∧ f197 2390 2 (nI k) 9 2 (z_hp S m6) = some ((), z_hp S m7) ∧ z_ly m7 k (z_hdr (nI c) s 1 o (-1) t (-1) t) [(6, nI f, 0), (1, o, 0)] ∧ z_laF k m m7 := by
  obtain ⟨m1, e1, hs1, F1⟩ := f220_sp (S := S) (m := m) (B := 2) (b := 2) (k := k) hM rfl (by decide) hk (nI c) s t
  have e2 := f197_sp (S := S) (m := m1) (B := 2) (b := 2) (k := k) (W := 3) (w := 3) (v := 1) hM rfl rfl (by decide) hk (by decide)
  have e3 := f197_sp (S := S) (m := z_hx m1 2 k 3 1) (B := 2) (b := 2) (k := k) (W := 4) (w := 4) (v := o) hM rfl rfl (by decide) hk (by decide)
  have e4 := f197_sp (S := S) (m := z_hx (z_hx m1 2 k 3 1) 2 k 4 o) (B := 2) (b := 2) (k := k) (W := 6) (w := 6) (v := t) hM rfl rfl (by decide) hk (by decide)
  have F4 : z_hF 2 k m (z_hx (z_hx (z_hx m1 2 k 3 1) 2 k 4 o) 2 k 6 t) := ((F1.x (by decide)).x (by decide)).x (by decide)
  have hs4 := ((hs1.x (w := 3) (v := 1)).x (w := 4) (v := o)).x (w := 6) (v := t)
  generalize z_hx (z_hx (z_hx m1 2 k 3 1) 2 k 4 o) 2 k 6 t = m4 at e4 F4 hs4
  obtain ⟨m5, e5, F5, r5⟩ := f202_3 (S := S) (m := m4) hM (j := k) (i := 0) hk (by decide) 6 (nI f) 0
  obtain ⟨m6, e6, F6, r6⟩ := f202_3 (S := S) (m := m5) hM (j := k) (i := 1) hk (by decide) 1 o 0
  have r6 := r6 _ (r5 _ (z_rw2_0 m4 k))
  have e7 := f197_sp (S := S) (m := m6) (B := 2) (b := 2) (k := k) (W := 9) (w := 9) (v := 2) hM rfl rfl (by decide) hk (by decide)
  have F7 : z_hF 2 k m6 (z_hx m6 2 k 9 2) := (z_hF.refl 2 k m6).x (by decide)
  refine ⟨m1, _, _, m4, m5, m6, _, e1, e2, e3, e4, e5, e6, e7, ⟨fun w hw => ?_, ?_, fun j hj => ?_⟩, ((F4.laF.trans F5.laF).trans F6.laF).trans F7.laF⟩
  · rw [z_hx_r, if_neg (by omega), F6.2 _ (by omega), F5.2 _ (by omega), hs4 w (by omega)]
    have g : w = 0 ∨ w = 1 ∨ w = 2 ∨ w = 3 ∨ w = 4 ∨ w = 5 ∨ w = 6 ∨ w = 7 ∨ w = 8 := by omega
    rcases g with g | g | g | g | g | g | g | g | g <;> subst g <;> rfl
  · rw [z_hx_r, if_pos rfl]; rfl
  · have hj : j < 2 := hj
    rw [z_hx_o (by omega) (by omega), z_hx_o (by omega) (by omega), z_hx_o (by omega) (by omega)]
    have j0 : j = 0 ∨ j = 1 := by omega
    rcases j0 with rfl | rfl
    · exact r6 0 (by decide)
    · exact r6 1 (by decide)
end
