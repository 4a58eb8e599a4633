-- deps: 91.00.run 91.01.run2 91.02.run3 91.03.run4 91.04.run5 91.05.run6
/-! a run: the class's machine -/
section
variable {P : z_Pg} {h : y_Qh} {k0 : Nat} {n : Nat} {out : y_V} {a : y_Ac} {s : List y_Ac} {S : z_S} {m : z_m} {p : Nat}
def y_cS (m : z_m) : List y_Ac → Prop
  | [] => True
  | a :: s => (m 11 s.length = nI a.2.1 ∧ m 12 s.length = nI a.2.2.1 ∧ m 13 s.length = nI (a.1 + 1) ∧ m 14 s.length = nI (y_ht s) ∧ ∀ j, j < a.2.2.2.length → m 15 (y_ht s + j) = y_ec (y_g a.2.2.2 j)) ∧ y_cS m s
/-- frames -/
def y_cF (m : z_m) (h : y_Qh) (F : Nat) : Prop := ∀ f, f ≤ F → m 16 f = nI (y_qm h f) ∧ m 17 f = nI (y_qo h f) ∧ ∀ s v, s < 62 → y_ql h f s = some v → m 18 (f * 62 + s) = y_ec v
/-- objects -/
def y_cO (m : z_m) (h : y_Qh) : Prop := m 10 14 = nI (y_qn h) ∧ ∀ o, o < y_qn h → m 19 o = nI (y_qc h o) ∧ ∀ n, n < 16 → m 20 (o * 16 + n) = y_ec (y_qf h o n)
def y_cQ (m : z_m) (s : List y_Ac) (h : y_Qh) (n : Nat) (out : y_V) : Prop := (m 10 11 = nI s.length ∧ m 10 15 = nI n ∧ m 10 16 = -1 ∧ m 10 17 = 0) ∧ y_cS m s ∧ y_cO m h ∧ match s with
  | [] => m 15 0 = y_ec out
  | a :: _ => m 10 12 = nI (y_ht s) ∧ y_cF m h a.1
/-- what a run leaves be -/
def y_cR (m m' : z_m) : Prop := ∀ a, a < 10 ∨ 20 < a → m' a = m a
theorem y_cR.refl (m : z_m) : y_cR m m := fun _ _ => rfl
theorem y_cR.trans {m m' m'' : z_m} (h : y_cR m m') (h2 : y_cR m' m'') : y_cR m m'' := fun a x => (h2 a x).trans (h a x)
def y_cX (m : z_m) (X : y_Qs) : Prop := m 10 16 = X.2.2.2.1 ∧ m 10 17 = X.2.2.2.2.1 ∧ m 10 15 = nI X.2.2.1 ∧ (X.2.2.2.1 = -1 → y_cQ m X.1 X.2.1 X.2.2.1 X.2.2.2.2.2)
theorem y_cS_fr {m' : z_m} : ∀ {s : List y_Ac}, (∀ a, 11 ≤ a → a ≤ 14 → ∀ j, j < s.length → m' a j = m a j) → (∀ j, j < y_ht s → m' 15 j = m 15 j) → y_cS m s → y_cS m' s
  | [], _, _, _ => trivial
  | a :: s, h1, h2, hs => by
    have e : s.length < (a :: s).length := Nat.lt_succ_self _
    refine ⟨⟨by rw [h1 11 (by decide) (by decide) _ e]; exact hs.1.1, by rw [h1 12 (by decide) (by decide) _ e]; exact hs.1.2.1, by rw [h1 13 (by decide) (by decide) _ e]; exact hs.1.2.2.1, by rw [h1 14 (by decide) (by decide) _ e]; exact hs.1.2.2.2.1, fun j hj => ?_⟩, y_cS_fr (fun b x y j hj => h1 b x y j (Nat.lt_trans hj e)) (fun j hj => h2 j (Nat.lt_of_lt_of_le hj (Nat.le_add_right _ _))) hs.2⟩
    rw [h2 _ (Nat.add_lt_add_left hj _)]
    exact hs.1.2.2.2.2 j hj
theorem y_cF_fr {m' : z_m} {F : Nat} (h1 : ∀ a, a = 16 ∨ a = 17 ∨ a = 18 → m' a = m a) (hF : y_cF m h F) : y_cF m' h F := fun f hf => by
  rw [h1 16 (by decide), h1 17 (by decide), h1 18 (by decide)]; exact hF f hf
theorem y_cO_fr {m' : z_m} (h0 : m' 10 14 = m 10 14) (h1 : m' 19 = m 19) (h2 : m' 20 = m 20) (hO : y_cO m h) : y_cO m' h := by
  unfold y_cO at *
  rw [h0, h1, h2]; exact hO
/-- ready to begin a node -/
def y_cP (m : z_m) (s : List y_Ac) (h : y_Qh) (n f : Nat) : Prop := (m 10 11 = nI s.length ∧ m 10 15 = nI n ∧ m 10 16 = -1 ∧ m 10 17 = 0) ∧ y_cS m s ∧ y_cO m h ∧ m 10 12 = nI (y_ht s) ∧ m 10 13 = nI (f + 1) ∧ y_cF m h f
/-- Machine.start -/
theorem f48_c (hX : z_XS S) {f : Nat} (hP : y_cP m s h n f) (hl : s.length ≤ 500) (hn : n ≤ 500) (i : Nat) : ∃ m', f48 10 (nI i) (z_hp S m) = some ((), z_hp S m') ∧ y_cX m' (y_st s h n out f i) ∧ y_cR m m' := by
  obtain ⟨⟨c11, c15, c16, c17⟩, hS, hO, c12, c13, hF⟩ := hP
  have h10k : z_kd S 10 = 5 := hX.k10
  unfold y_st
  by_cases g : n = 500
  · rw [if_pos g]
    refine ⟨z_up m 10 16 5, ?_, ⟨z_up_s _ _ _ _, by rw [z_up_b (by decide)]; exact c17, by rw [z_up_b (by decide)]; exact c15, fun q => absurd (show (5 : Int32) = -1 from q) (by decide)⟩, fun a ha => z_up_row (by omega)⟩
    unfold f48
    have g2 : ¬ n < 500 := by omega
    simp (disch := ((try simp only [true_or, or_true, hX.k10, hX.k11, hX.k12, hX.k13, hX.k14, hX.k15, hX.k16, hX.k17, hX.k18, hX.k19, hX.k20, hX.l11, hX.l12, hX.l13, hX.l14, hX.l15, hX.l16, hX.l17, hX.l18, hX.l19, hX.l20, h10k]) <;> (try omega))) only [↓reduceIte, ↓z_ite, ↓zR, ↓zB_R, ↓zB_B, ↓zB_ite, ↓zB_gI, ↓zB_pI, ↓zB_pZ, ↓zB_aK, ↓zB_G, ↓zB_lI, ↓zB_lZ, ↓zB_wI, ↓zB_wZ, ↓zB_lIl, ↓zB_wIl, zB_pI, zB_pZ, zB_lI, zB_lZ, zB_wI, zB_wZ, z_addl, z_ladd, z_mull, z_lmul, nI_add, z_subl, Nat.not_lt_zero, z_10, z_01, z_bitc, z_b0, z_b1, ↓zB_Gb, ↓zB_G0, ↓zB_G1, z_eql, z_leq, z_ltl, z_llt, z_eq, z_lt, z_m1lt, hX.k10, hX.k11, hX.k12, hX.k13, hX.k14, hX.k15, hX.k16, hX.k17, hX.k18, hX.k19, hX.k20, hX.l11, hX.l12, hX.l13, hX.l14, hX.l15, hX.l16, hX.l17, hX.l18, hX.l19, hX.l20, h10k, ↓hX.g10_0, ↓hX.g10_1, ↓hX.g10_2, ↓hX.g10_3, ↓hX.g10_4, ↓hX.g10_5, ↓hX.g10_6, ↓hX.g10_7, ↓hX.g10_8, ↓hX.g10_9, c15, g2]
  · rw [if_neg g]
    have hn2 : n < 500 := by omega
    have hl2 : s.length < 501 := by omega
    have key : ∃ m', f48 10 (nI i) (z_hp S m) = some ((), z_hp S m') ∧ m' 10 11 = nI (s.length + 1) ∧ m' 10 15 = nI (n + 1) ∧ m' 11 s.length = nI i ∧ m' 12 s.length = 0 ∧ m' 13 s.length = nI (f + 1) ∧ m' 14 s.length = nI (y_ht s) ∧ (∀ a j, (11 ≤ a ∧ a ≤ 14 → j ≠ s.length) → (a = 10 → j ≠ 11 ∧ j ≠ 15) → m' a j = m a j) := by
      refine ⟨z_up (z_up (z_up (z_up (z_up (z_up m 11 s.length (nI i)) 12 s.length 0) 13 s.length (nI (f + 1))) 14 s.length (nI (y_ht s))) 10 15 (nI (n + 1))) 10 11 (nI (s.length + 1)), ?_, z_up_s _ _ _ _, ?_, ?_, ?_, ?_, ?_, fun a j x1 x2 => ?_⟩
      · unfold f48
        have r : ∀ (m0 : z_m) (b j : Nat) (v : Int32) (c : Nat), b ≠ 10 → z_up m0 b j v 10 c = m0 10 c := fun m0 b j v c hb => by rw [z_up_row (Ne.symm hb)]
        have r11 : ∀ (m0 : z_m) (j : Nat) (v : Int32) (c : Nat), z_up m0 11 j v 10 c = m0 10 c := fun m0 j v c => r m0 11 j v c (by decide)
        have r12 : ∀ (m0 : z_m) (j : Nat) (v : Int32) (c : Nat), z_up m0 12 j v 10 c = m0 10 c := fun m0 j v c => r m0 12 j v c (by decide)
        have r13 : ∀ (m0 : z_m) (j : Nat) (v : Int32) (c : Nat), z_up m0 13 j v 10 c = m0 10 c := fun m0 j v c => r m0 13 j v c (by decide)
        have r14 : ∀ (m0 : z_m) (j : Nat) (v : Int32) (c : Nat), z_up m0 14 j v 10 c = m0 10 c := fun m0 j v c => r m0 14 j v c (by decide)
        have r15 : ∀ (m0 : z_m) (v : Int32), z_up m0 10 15 v 10 11 = m0 10 11 := fun m0 v => z_up_b (by decide)
        simp (disch := ((try simp only [true_or, or_true, hX.k10, hX.k11, hX.k12, hX.k13, hX.k14, hX.k15, hX.k16, hX.k17, hX.k18, hX.k19, hX.k20, hX.l11, hX.l12, hX.l13, hX.l14, hX.l15, hX.l16, hX.l17, hX.l18, hX.l19, hX.l20, h10k]) <;> (try omega))) only [↓reduceIte, ↓z_ite, ↓zR, ↓zB_R, ↓zB_B, ↓zB_ite, ↓zB_gI, ↓zB_pI, ↓zB_pZ, ↓zB_aK, ↓zB_G, ↓zB_lI, ↓zB_lZ, ↓zB_wI, ↓zB_wZ, ↓zB_lIl, ↓zB_wIl, zB_pI, zB_pZ, zB_lI, zB_lZ, zB_wI, zB_wZ, z_addl, z_ladd, z_mull, z_lmul, nI_add, z_subl, Nat.not_lt_zero, z_10, z_01, z_bitc, z_b0, z_b1, ↓zB_Gb, ↓zB_G0, ↓zB_G1, z_eql, z_leq, z_ltl, z_llt, z_eq, z_lt, z_m1lt, hX.k10, hX.k11, hX.k12, hX.k13, hX.k14, hX.k15, hX.k16, hX.k17, hX.k18, hX.k19, hX.k20, hX.l11, hX.l12, hX.l13, hX.l14, hX.l15, hX.l16, hX.l17, hX.l18, hX.l19, hX.l20, h10k, ↓hX.g10_0, ↓hX.g10_1, ↓hX.g10_2, ↓hX.g10_3, ↓hX.g10_4, ↓hX.g10_5, ↓hX.g10_6, ↓hX.g10_7, ↓hX.g10_8, ↓hX.g10_9, c15, hn2, c11, hl2, r11, r12, r13, r14, r15, c13, c12]
      · rw [z_up_b (by decide), z_up_s]
      · rw [z_up_row (by decide), z_up_row (by decide), z_up_row (by decide), z_up_row (by decide), z_up_row (by decide), z_up_s]
      · rw [z_up_row (by decide), z_up_row (by decide), z_up_row (by decide), z_up_row (by decide), z_up_s]
      · rw [z_up_row (by decide), z_up_row (by decide), z_up_row (by decide), z_up_s]
      · rw [z_up_row (by decide), z_up_row (by decide), z_up_s]
      · by_cases g10 : a = 10
        · subst g10
          rw [z_up_b (x2 rfl).1, z_up_b (x2 rfl).2, z_up_row (by decide), z_up_row (by decide), z_up_row (by decide), z_up_row (by decide)]
        · rw [z_up_row g10, z_up_row g10]
          by_cases g1 : 11 ≤ a ∧ a ≤ 14
          · rw [z_up_b (x1 g1), z_up_b (x1 g1), z_up_b (x1 g1), z_up_b (x1 g1)]
          · rw [z_up_row (by omega), z_up_row (by omega), z_up_row (by omega), z_up_row (by omega)]
    obtain ⟨m', e, d11, d15, p1, p2, p3, p4, fr⟩ := key
    have fr10 : ∀ j, j ≠ 11 → j ≠ 15 → m' 10 j = m 10 j := fun j x y => fr 10 j (fun q => absurd q.1 (by decide)) (fun _ => ⟨x, y⟩)
    have frr : ∀ a, a < 10 ∨ 14 < a → m' a = m a := fun a ha => funext (fun j => fr a j (fun q => by omega) (fun q => by omega))
    refine ⟨m', e, ⟨by rw [fr10 16 (by decide) (by decide)]; exact c16, by rw [fr10 17 (by decide) (by decide)]; exact c17, d15, fun _ => ⟨⟨d11, d15, by rw [fr10 16 (by decide) (by decide)]; exact c16, by rw [fr10 17 (by decide) (by decide)]; exact c17⟩, ⟨⟨p1, p2, p3, p4, fun j hj => absurd hj (Nat.not_lt_zero _)⟩, ?_⟩, y_cO_fr (fr10 14 (by decide) (by decide)) (frr 19 (by decide)) (frr 20 (by decide)) hO, ?_, y_cF_fr (fun a ha => frr a (by omega)) hF⟩⟩, fun a ha => frr a (by omega)⟩
    · exact y_cS_fr (fun a x y j hj => fr a j (fun _ => Nat.ne_of_lt hj) (fun q => by omega)) (fun j _ => by rw [frr 15 (by decide)]) hS
    · rw [fr10 12 (by decide) (by decide)]; exact c12
/-- Machine.finish -/
theorem f49_c (hX : z_XS S) {h' : y_Qh} {v : y_V} {x : Int32} (c11 : m 10 11 = nI (s.length + 1)) (c15 : m 10 15 = nI n) (c16 : m 10 16 = -1) (c17 : m 10 17 = 0) (c14 : m 14 s.length = nI (y_ht s)) (hS : y_cS m s) (hO : y_cO m h') (hF : ∀ b s', s = b :: s' → y_cF m h' b.1) (hx : x = y_ec v) (hl : s.length ≤ 500) (hht : y_ht s ≤ 500) : ∃ m', f49 10 x (z_hp S m) = some ((), z_hp S m') ∧ y_cX m' (y_fin s h' n out v) ∧ y_cR m m' := by
  have h10k : z_kd S 10 = 5 := hX.k10
  have hl2 : s.length < 501 := by omega
  have hh2 : y_ht s < 501 := by omega
  have key : ∃ m', f49 10 x (z_hp S m) = some ((), z_hp S m') ∧ m' 10 11 = nI s.length ∧ m' 10 12 = nI (y_ht s + 1) ∧ m' 15 (y_ht s) = x ∧ (∀ j, j ≠ 11 → j ≠ 12 → m' 10 j = m 10 j) ∧ (∀ j, j ≠ y_ht s → m' 15 j = m 15 j) ∧ ∀ a, a ≠ 10 → a ≠ 15 → m' a = m a := by
    refine ⟨z_up (z_up (z_up (z_up m 10 11 (nI s.length)) 10 12 (nI (y_ht s))) 15 (y_ht s) x) 10 12 (nI (y_ht s + 1)), ?_, ?_, z_up_s _ _ _ _, ?_, fun j x1 x2 => ?_, fun j x1 => ?_, fun a x1 x2 => ?_⟩
    · unfold f49
      have r15 : ∀ (m0 : z_m) (j : Nat) (v : Int32) (c : Nat), z_up m0 15 j v 10 c = m0 10 c := fun m0 j v c => by rw [z_up_row (by decide)]
      have r1 : z_up m 10 11 (nI s.length) 10 11 = nI s.length := z_up_s _ _ _ _
      have r2 : z_up m 10 11 (nI s.length) 14 s.length = nI (y_ht s) := by rw [z_up_row (by decide)]; exact c14
      have r3 : z_up (z_up m 10 11 (nI s.length)) 10 12 (nI (y_ht s)) 10 12 = nI (y_ht s) := z_up_s _ _ _ _
      have e1 : nI (s.length + 1) - 1 = nI s.length := z_subl (k := 1) (by omega)
      simp (disch := ((try simp only [true_or, or_true, hX.k10, hX.k11, hX.k12, hX.k13, hX.k14, hX.k15, hX.k16, hX.k17, hX.k18, hX.k19, hX.k20, hX.l11, hX.l12, hX.l13, hX.l14, hX.l15, hX.l16, hX.l17, hX.l18, hX.l19, hX.l20, h10k]) <;> (try omega))) only [↓reduceIte, ↓z_ite, ↓zR, ↓zB_R, ↓zB_B, ↓zB_ite, ↓zB_gI, ↓zB_pI, ↓zB_pZ, ↓zB_aK, ↓zB_G, ↓zB_lI, ↓zB_lZ, ↓zB_wI, ↓zB_wZ, ↓zB_lIl, ↓zB_wIl, zB_pI, zB_pZ, zB_lI, zB_lZ, zB_wI, zB_wZ, z_addl, z_ladd, z_mull, z_lmul, nI_add, z_subl, Nat.not_lt_zero, z_10, z_01, z_bitc, z_b0, z_b1, ↓zB_Gb, ↓zB_G0, ↓zB_G1, z_eql, z_leq, z_ltl, z_llt, z_eq, z_lt, z_m1lt, hX.k10, hX.k11, hX.k12, hX.k13, hX.k14, hX.k15, hX.k16, hX.k17, hX.k18, hX.k19, hX.k20, hX.l11, hX.l12, hX.l13, hX.l14, hX.l15, hX.l16, hX.l17, hX.l18, hX.l19, hX.l20, h10k, ↓hX.g10_0, ↓hX.g10_1, ↓hX.g10_2, ↓hX.g10_3, ↓hX.g10_4, ↓hX.g10_5, ↓hX.g10_6, ↓hX.g10_7, ↓hX.g10_8, ↓hX.g10_9, c11, e1, r1, hl2, r2, r3, hh2, r15]
    · rw [z_up_b (by decide), z_up_row (by decide), z_up_b (by decide), z_up_s]
    · rw [z_up_row (by decide), z_up_s]
    · rw [z_up_b x2, z_up_row (by decide), z_up_b x2, z_up_b x1]
    · rw [z_up_row (by decide), z_up_b x1, z_up_row (by decide), z_up_row (by decide)]
    · rw [z_up_row x1, z_up_row x2, z_up_row x1, z_up_row x1]
  obtain ⟨m', e, d11, d12, d15, fr10, fr15, fr⟩ := key
  have hO' : y_cO m' h' := y_cO_fr (fr10 14 (by decide) (by decide)) (fr 19 (by decide) (by decide)) (fr 20 (by decide) (by decide)) hO
  have hS' : y_cS m' s := y_cS_fr (fun a x y j hj => by rw [fr a (by omega) (by omega)]) (fun j hj => fr15 j (by omega)) hS
  have d16 : m' 10 16 = -1 := by rw [fr10 16 (by decide) (by decide)]; exact c16
  have d17 : m' 10 17 = 0 := by rw [fr10 17 (by decide) (by decide)]; exact c17
  have dn : m' 10 15 = nI n := by rw [fr10 15 (by decide) (by decide)]; exact c15
  refine ⟨m', e, ?_, fun a ha => fr a (by omega) (by omega)⟩
  cases s with
  | nil => exact ⟨d16, d17, dn, fun _ => ⟨⟨d11, dn, d16, d17⟩, trivial, hO', d15.trans hx⟩⟩
  | cons b s =>
    refine ⟨d16, d17, dn, fun _ => ⟨⟨d11, dn, d16, d17⟩, ⟨⟨hS'.1.1, hS'.1.2.1, hS'.1.2.2.1, hS'.1.2.2.2.1, fun j hj => ?_⟩, hS'.2⟩, hO', ?_, y_cF_fr (fun a ha => fr a (by omega) (by omega)) (hF b s rfl)⟩⟩
    · have hj : j < (b.2.2.2 ++ [v]).length := hj
      rw [List.length_append] at hj
      have hj : j < b.2.2.2.length + 1 := hj
      show m' 15 (y_ht s + j) = y_ec (y_g (b.2.2.2 ++ [v]) j)
      rcases Nat.lt_or_ge j b.2.2.2.length with g | g
      · rw [y_g_app g]; exact hS'.1.2.2.2.2 j g
      · obtain rfl : j = b.2.2.2.length := by omega
        rw [y_g_last]; exact d15.trans hx
    · rw [d12]
      show nI (y_ht s + b.2.2.2.length + 1) = nI (y_ht s + (b.2.2.2 ++ [v]).length)
      rw [List.length_append]; rfl
end
