/-! telling nodes: class and reference do the same -/
def z_cd1 (_ : Nat) : Int32 := 1
def z_cdv (E : Nat) : Int32 := if E = 1 then 1 else 2
def z_cd2 (E : Nat) : Int32 := if E = 2 then 1 else 2
def z_cd3 (E : Nat) : Int32 := if E = 2 then 1 else if E = 1 then 2 else 3
/-- the reference's answer v, its refusal c -/
def z_ans (cd : Nat → Int32) (r : Int32 ⊕ Nat) (v c : Int32) : Prop := match r with
  | .inl w => v = w ∧ c = 0
  | .inr E => c = cd E
/-- a node is added -/
def z_nd (A : z_A) (t : z_TN) : (Int32 ⊕ Nat) × z_A := if A.1.length = 150 then (.inr 0, A) else (.inl (nI A.1.length), (A.1 ++ [t], A.2))
def z_onumber (A : z_A) (x : Int32) : (Int32 ⊕ Nat) × z_A := z_nd A ((0, x, 0), 0, 0, 0)
def z_ovar (A : z_A) (n : Int32) : (Int32 ⊕ Nat) × z_A := if z_in n 16 = false then (.inr 1, A) else z_nd A ((1, n, 0), 0, 0, 0)
def z_oself (A : z_A) : (Int32 ⊕ Nat) × z_A := z_nd A ((2, 0, 0), 0, 0, 0)
def z_ofield (A : z_A) (o : Int32) (n : Int32) : (Int32 ⊕ Nat) × z_A := if z_in o A.1.length = false then (.inr 2, A) else if z_in n 16 = false then (.inr 1, A) else z_nd A ((3, n, 0), o.toNatClampNeg, 0, 0)
def z_oput (A : z_A) (o : Int32) (n : Int32) (x : Int32) : (Int32 ⊕ Nat) × z_A := if z_in o A.1.length = false then (.inr 2, A) else if z_in x A.1.length = false then (.inr 2, A) else if z_in n 16 = false then (.inr 1, A) else z_nd A ((4, n, 0), o.toNatClampNeg, x.toNatClampNeg, 0)
def z_olet (A : z_A) (n : Int32) (x : Int32) (b : Int32) : (Int32 ⊕ Nat) × z_A := if z_in x A.1.length = false then (.inr 2, A) else if (b == -1 || z_in b A.1.length) = false then (.inr 2, A) else if z_in n 16 = false then (.inr 1, A) else z_nd A (if b = -1 then ((6, n, 0), x.toNatClampNeg, 0, 0) else ((5, n, 0), x.toNatClampNeg, b.toNatClampNeg, 0))
def z_ocall (A : z_A) (o : Int32) (n : Int32) (a : Int32) (b : Int32) : (Int32 ⊕ Nat) × z_A := if z_in o A.1.length = false then (.inr 2, A) else if (a == -1 || z_in a A.1.length) = false then (.inr 2, A) else if (b == -1 || z_in b A.1.length) = false then (.inr 2, A) else if z_in n 16 = false then (.inr 1, A) else if (!(a == -1 && b != -1)) = false then (.inr 1, A) else z_nd A (if a = -1 then ((7, n, 0), o.toNatClampNeg, 0, 0) else if b = -1 then ((7, n, 1), o.toNatClampNeg, a.toNatClampNeg, 0) else ((7, n, 2), o.toNatClampNeg, a.toNatClampNeg, b.toNatClampNeg))
def z_omake (A : z_A) (c : Int32) : (Int32 ⊕ Nat) × z_A := if z_in c (z_nc A.2.1) = false then (.inr 2, A) else z_nd A ((8, c, 0), 0, 0, 0)
def z_otwo (A : z_A) (k : Int32) (a : Int32) (b : Int32) : (Int32 ⊕ Nat) × z_A := if z_in a A.1.length = false then (.inr 2, A) else if z_in b A.1.length = false then (.inr 2, A) else if z_in k 6 = false then (.inr 1, A) else z_nd A (if k = 0 then ((9, 0, 0), a.toNatClampNeg, b.toNatClampNeg, 0) else if k = 1 then ((13, 0, 0), a.toNatClampNeg, b.toNatClampNeg, 0) else ((11, k - 2, 0), a.toNatClampNeg, b.toNatClampNeg, 0))
def z_otest (A : z_A) (c : Int32) (s : Int32) (d : Int32) : (Int32 ⊕ Nat) × z_A := if z_in c A.1.length = false then (.inr 2, A) else if z_in s A.1.length = false then (.inr 2, A) else if z_in d A.1.length = false then (.inr 2, A) else z_nd A ((10, 0, 0), c.toNatClampNeg, s.toNatClampNeg, d.toNatClampNeg)
def z_oraise (A : z_A) (a : Int32) : (Int32 ⊕ Nat) × z_A := if z_in a A.1.length = false then (.inr 2, A) else z_nd A ((12, 0, 0), a.toNatClampNeg, 0, 0)
section
variable {S : z_S} {m : z_m} {A : z_A}
theorem z_not_false {b : Bool} (h : ¬ b = false) : b = true := by cases b; exact absurd rfl h; rfl
/-- the class adds a node -/
theorem z_c_nd (hw : z_WA A) (h : z_CR S m A) (hX : z_XS S) (hT : z_cT m A.1) {F : m_M (Int32 ⊕ Nat)} {K V A0 A1 A2 : Int32} {t : z_TN} (hk : t.1.1 = K) (hv : t.1.2.1 = V) (hF : A.1.length < 150 → ∀ m', f120 1 K V A0 A1 A2 (z_hp S m) = some (nI A.1.length, z_hp S m') → F (z_hp S m) = some (.inl (nI A.1.length), z_hp S m')) (hF0 : A.1.length = 150 → F (z_hp S m) = some (.inr 0, z_hp (z_Sx S) m)) (h3 : z_tn t ≤ 3) (hp : ∀ q, q < z_tn t → z_tq t q < A.1.length) (h0 : A0 = if 0 < z_tn t then nI (z_tq t 0) else -1) (h1 : A1 = if 1 < z_tn t then nI (z_tq t 1) else -1) (h2 : A2 = if 2 < z_tn t then nI (z_tq t 2) else -1) : ∃ S1 m1, F (z_hp S m) = some ((z_nd A t).1, z_hp S1 m1) ∧ z_CR S1 m1 (z_nd A t).2 ∧ z_SS S S1 ∧ ∀ a, 2390 ≤ a → m1 a = m a := by
  have hl := hw.1.1
  unfold z_nd
  by_cases g : A.1.length = 150
  · rw [if_pos g]
    exact ⟨_, m, hF0 g, z_CR_x h, z_SS.x S, fun _ _ => rfl⟩
  · rw [if_neg g]
    obtain ⟨m1, e, hT1, hfr⟩ := f120_sp hX hw.1 hT (by omega) (t := t) h3 hp h0 h1 h2
    rw [hk, hv] at e
    exact ⟨S, m1, hF (by omega) m1 e, z_CR_told hw h hfr hT1, z_SS.refl S, fun a ha => hfr a (Or.inr (by omega))⟩
theorem f184_0 (y : Int32) : f184 2390 0 y (z_hp S m) = some (1, z_hp S m) := by
  unfold f184 f184_31
  simp (disch := ((try simp only [true_or, or_true]) <;> (try omega))) only [↓reduceIte, ↓z_ite, ↓zR, ↓zB_R, ↓zB_B, ↓zB_ite, ↓zB_gI, ↓zB_pI, ↓zB_pZ, ↓zB_aK, ↓zB_G, ↓zB_lI, ↓zB_lZ, ↓zB_wI, ↓zB_wZ, ↓zB_lIl, ↓zB_wIl, zB_pI, zB_pZ, zB_lI, zB_lZ, zB_wI, zB_wZ, z_addl, z_ladd, z_mull, z_lmul, nI_add, z_subl, Nat.not_lt_zero, z_10, z_01, z_bitc, z_b0, z_b1, ↓zB_Gb, ↓zB_G0, ↓zB_G1, z_eql, z_leq, z_ltl, z_llt, z_eq, z_lt, z_m1lt]
theorem f184_1 (hM : z_MS S) {τ : List z_TN} (h : z_mT m τ) (hl : τ.length ≤ 150) (b : Bool) : f184 2390 1 (z_b b) (z_hp S m) = some (if b = false then 2 else if τ.length = 150 then 3 else 0, z_hp S m) := f184_sp hM h hl true b
/-- the reference adds a node, or has no room -/
theorem z_m_nd (hM : z_MS S) (hw : z_WA A) (h : z_MR m A) {F : m_M Int32} {K V a F0 F1 F2 : Int32} {t : z_TN} {cd : Nat → Int32} (ht : t.1 = (K, V, a)) (hF : A.1.length < 150 → ∀ v m', f182 2390 K V a F0 F1 F2 (z_hp S (z_up m 2390 0 0)) = some (v, z_hp S m') → F (z_hp S m) = some (v, z_hp S m')) (hF0 : A.1.length = 150 → ∃ v, F (z_hp S m) = some (v, z_hp S (z_up m 2390 0 (cd 0)))) (hwn : z_wN (z_nc A.2.1) t.1) (h3 : z_tn t ≤ 3) (hp : ∀ q, q < z_tn t → z_tq t q < A.1.length) (h0 : 0 < z_tn t → F0 = nI (z_tq t 0)) (h1 : 1 < z_tn t → F1 = nI (z_tq t 1)) (h2 : 2 < z_tn t → F2 = nI (z_tq t 2)) : (∃ v m1, F (z_hp S m) = some (v, z_hp S m1) ∧ z_MR m1 (z_nd A t).2 ∧ (∀ b, b < 2390 ∨ 2424 ≤ b → m1 b = m b) ∧ z_ans cd (z_nd A t).1 v (m1 2390 0)) ∧ z_WA (z_nd A t).2 := by
  have hl := hw.1.1
  unfold z_nd
  by_cases g : A.1.length = 150
  · rw [if_pos g]
    obtain ⟨v, e⟩ := hF0 g
    exact ⟨⟨v, _, e, z_MR_ref h _, fun b hb => z_up_row (by omega), z_up_s _ _ _ _⟩, hw⟩
  · rw [if_neg g]
    have hr := z_MR_ref h 0
    obtain ⟨m1, e, hT1, hfr, hf0⟩ := f182_sp (S := S) hM hw.1 hr.1 (by omega) (F0 := F0) (F1 := F1) (F2 := F2) hwn h3 hp h0 h1 h2
    rw [ht] at e
    refine ⟨⟨_, m1, hF (by omega) _ m1 e, z_MR_told (A := A) hr hfr (fun j g1 _ => hf0 j g1) hT1, fun b hb => ?_, rfl, ?_⟩, z_tW_add hw.1 (by omega) hwn h3 hp, hw.2⟩
    · rw [hfr b (by omega) (by omega) (by omega) (by omega) (by omega) (by omega), z_up_row (by omega)]
    · rw [hf0 0 (by decide), z_up_s]
theorem c_number (hw : z_WA A) (h : z_CR S m A) (x : Int32) : ∃ S1 m1, f124 0 x (z_hp S m) = some ((z_onumber A x).1, z_hp S1 m1) ∧ z_CR S1 m1 (z_onumber A x).2 ∧ z_SS S S1 ∧ ∀ a, 2390 ≤ a → m1 a = m a := by
  have h0 := h
  obtain ⟨sn, sx, sp, hI, hCM⟩ := h0
  have hX := hI.1
  have hT := hCM.2.1
  have hl := hw.1.1
  unfold z_onumber
  have ht : z_tn ((0, x, 0), 0, 0, 0) = 0 := by show z_pn 0 0 = 0; decide
  refine z_c_nd hw h hX hT (t := ((0, x, 0), 0, 0, 0)) (K := 0) (V := x) (A0 := (-1)) (A1 := (-1)) (A2 := (-1)) rfl rfl (fun g m1 e => ?_) (fun g => ?_) (by rw [ht]; decide) (fun q hq => ?_) (by rw [ht]; rfl) (by rw [ht]; rfl) (by rw [ht]; rfl)
  · unfold f124
    simp (disch := ((try simp only [true_or, or_true, hX.k0, hX.k1, hX.k2, hX.k3, hX.k4, hX.k5, hX.k6, hX.k7, hX.l2, hX.l3, hX.l4, hX.l5, hX.l6, hX.l7]) <;> (try omega))) only [↓reduceIte, ↓z_ite, ↓zR, ↓zB_R, ↓zB_B, ↓zB_ite, ↓zB_gI, ↓zB_pI, ↓zB_pZ, ↓zB_aK, ↓zB_G, ↓zB_lI, ↓zB_lZ, ↓zB_wI, ↓zB_wZ, ↓zB_lIl, ↓zB_wIl, zB_pI, zB_pZ, zB_lI, zB_lZ, zB_wI, zB_wZ, z_addl, z_ladd, z_mull, z_lmul, nI_add, z_subl, Nat.not_lt_zero, z_10, z_01, z_bitc, z_b0, z_b1, ↓zB_Gb, ↓zB_G0, ↓zB_G1, z_eql, z_leq, z_ltl, z_llt, z_eq, z_lt, z_m1lt, hX.k0, hX.k1, hX.k2, hX.k3, hX.k4, hX.k5, hX.k6, hX.k7, hX.l2, hX.l3, hX.l4, hX.l5, hX.l6, hX.l7, ↓hX.g0_0, ↓hX.g0_1, ↓hX.g0_2, ↓hX.g0_3, ↓hX.g0_4, ↓hX.g0_5, ↓hX.g0_6, ↓hX.g0_7, ↓hX.g0_8, ↓hX.g0_9, ↓hX.g1_0, ↓hX.g1_1, ↓hX.g1_2, ↓hX.g1_3, ↓hX.g1_4, ↓hX.g1_5, ↓zT_l (f157_y hX hT g), zT_l (f157_y hX hT g), ↓zB_c e, zB_c e]
  · unfold f124
    simp (disch := ((try simp only [true_or, or_true, hX.k0, hX.k1, hX.k2, hX.k3, hX.k4, hX.k5, hX.k6, hX.k7, hX.l2, hX.l3, hX.l4, hX.l5, hX.l6, hX.l7]) <;> (try omega))) only [↓reduceIte, ↓z_ite, ↓zR, ↓zB_R, ↓zB_B, ↓zB_ite, ↓zB_gI, ↓zB_pI, ↓zB_pZ, ↓zB_aK, ↓zB_G, ↓zB_lI, ↓zB_lZ, ↓zB_wI, ↓zB_wZ, ↓zB_lIl, ↓zB_wIl, zB_pI, zB_pZ, zB_lI, zB_lZ, zB_wI, zB_wZ, z_addl, z_ladd, z_mull, z_lmul, nI_add, z_subl, Nat.not_lt_zero, z_10, z_01, z_bitc, z_b0, z_b1, ↓zB_Gb, ↓zB_G0, ↓zB_G1, z_eql, z_leq, z_ltl, z_llt, z_eq, z_lt, z_m1lt, hX.k0, hX.k1, hX.k2, hX.k3, hX.k4, hX.k5, hX.k6, hX.k7, hX.l2, hX.l3, hX.l4, hX.l5, hX.l6, hX.l7, ↓hX.g0_0, ↓hX.g0_1, ↓hX.g0_2, ↓hX.g0_3, ↓hX.g0_4, ↓hX.g0_5, ↓hX.g0_6, ↓hX.g0_7, ↓hX.g0_8, ↓hX.g0_9, ↓hX.g1_0, ↓hX.g1_1, ↓hX.g1_2, ↓hX.g1_3, ↓hX.g1_4, ↓hX.g1_5, ↓zT_r (f157_n hX hT g), zT_r (f157_n hX hT g)]
  · rw [ht] at hq
    omega
theorem c_var (hw : z_WA A) (h : z_CR S m A) (n : Int32) : ∃ S1 m1, f125 0 n (z_hp S m) = some ((z_ovar A n).1, z_hp S1 m1) ∧ z_CR S1 m1 (z_ovar A n).2 ∧ z_SS S S1 ∧ ∀ a, 2390 ≤ a → m1 a = m a := by
  have h0 := h
  obtain ⟨sn, sx, sp, hI, hCM⟩ := h0
  have hX := hI.1
  have hT := hCM.2.1
  have hl := hw.1.1
  unfold z_ovar
  by_cases gn : z_in n 16 = false
  · rw [if_pos gn]
    refine ⟨z_Sx S, m, ?_, z_CR_x h, z_SS.x S, fun _ _ => rfl⟩
    unfold f125
    simp (disch := ((try simp only [true_or, or_true, hX.k0, hX.k1, hX.k2, hX.k3, hX.k4, hX.k5, hX.k6, hX.k7, hX.l2, hX.l3, hX.l4, hX.l5, hX.l6, hX.l7]) <;> (try omega))) only [↓reduceIte, ↓z_ite, ↓zR, ↓zB_R, ↓zB_B, ↓zB_ite, ↓zB_gI, ↓zB_pI, ↓zB_pZ, ↓zB_aK, ↓zB_G, ↓zB_lI, ↓zB_lZ, ↓zB_wI, ↓zB_wZ, ↓zB_lIl, ↓zB_wIl, zB_pI, zB_pZ, zB_lI, zB_lZ, zB_wI, zB_wZ, z_addl, z_ladd, z_mull, z_lmul, nI_add, z_subl, Nat.not_lt_zero, z_10, z_01, z_bitc, z_b0, z_b1, ↓zB_Gb, ↓zB_G0, ↓zB_G1, z_eql, z_leq, z_ltl, z_llt, z_eq, z_lt, z_m1lt, hX.k0, hX.k1, hX.k2, hX.k3, hX.k4, hX.k5, hX.k6, hX.k7, hX.l2, hX.l3, hX.l4, hX.l5, hX.l6, hX.l7, ↓hX.g0_0, ↓hX.g0_1, ↓hX.g0_2, ↓hX.g0_3, ↓hX.g0_4, ↓hX.g0_5, ↓hX.g0_6, ↓hX.g0_7, ↓hX.g0_8, ↓hX.g0_9, ↓hX.g1_0, ↓hX.g1_1, ↓hX.g1_2, ↓hX.g1_3, ↓hX.g1_4, ↓hX.g1_5, ↓zT_r (f160_n gn), zT_r (f160_n gn)]
  rw [if_neg gn]
  obtain ⟨qn, hn, rfl⟩ := (z_in_iff (by omega)).mp (z_not_false gn)
  have ht : z_tn ((1, nI qn, 0), 0, 0, 0) = 0 := by show z_pn 1 0 = 0; decide
  refine z_c_nd hw h hX hT (t := ((1, nI qn, 0), 0, 0, 0)) (K := 1) (V := nI qn) (A0 := (-1)) (A1 := (-1)) (A2 := (-1)) rfl rfl (fun g m1 e => ?_) (fun g => ?_) (by rw [ht]; decide) (fun q hq => ?_) (by rw [ht]; rfl) (by rw [ht]; rfl) (by rw [ht]; rfl)
  · unfold f125
    simp (disch := ((try simp only [true_or, or_true, hX.k0, hX.k1, hX.k2, hX.k3, hX.k4, hX.k5, hX.k6, hX.k7, hX.l2, hX.l3, hX.l4, hX.l5, hX.l6, hX.l7]) <;> (try omega))) only [↓reduceIte, ↓z_ite, ↓zR, ↓zB_R, ↓zB_B, ↓zB_ite, ↓zB_gI, ↓zB_pI, ↓zB_pZ, ↓zB_aK, ↓zB_G, ↓zB_lI, ↓zB_lZ, ↓zB_wI, ↓zB_wZ, ↓zB_lIl, ↓zB_wIl, zB_pI, zB_pZ, zB_lI, zB_lZ, zB_wI, zB_wZ, z_addl, z_ladd, z_mull, z_lmul, nI_add, z_subl, Nat.not_lt_zero, z_10, z_01, z_bitc, z_b0, z_b1, ↓zB_Gb, ↓zB_G0, ↓zB_G1, z_eql, z_leq, z_ltl, z_llt, z_eq, z_lt, z_m1lt, hX.k0, hX.k1, hX.k2, hX.k3, hX.k4, hX.k5, hX.k6, hX.k7, hX.l2, hX.l3, hX.l4, hX.l5, hX.l6, hX.l7, ↓hX.g0_0, ↓hX.g0_1, ↓hX.g0_2, ↓hX.g0_3, ↓hX.g0_4, ↓hX.g0_5, ↓hX.g0_6, ↓hX.g0_7, ↓hX.g0_8, ↓hX.g0_9, ↓hX.g1_0, ↓hX.g1_1, ↓hX.g1_2, ↓hX.g1_3, ↓hX.g1_4, ↓hX.g1_5, ↓zT_l (f160_y hn), zT_l (f160_y hn), ↓zT_l (f157_y hX hT g), zT_l (f157_y hX hT g), ↓zB_c e, zB_c e]
  · unfold f125
    simp (disch := ((try simp only [true_or, or_true, hX.k0, hX.k1, hX.k2, hX.k3, hX.k4, hX.k5, hX.k6, hX.k7, hX.l2, hX.l3, hX.l4, hX.l5, hX.l6, hX.l7]) <;> (try omega))) only [↓reduceIte, ↓z_ite, ↓zR, ↓zB_R, ↓zB_B, ↓zB_ite, ↓zB_gI, ↓zB_pI, ↓zB_pZ, ↓zB_aK, ↓zB_G, ↓zB_lI, ↓zB_lZ, ↓zB_wI, ↓zB_wZ, ↓zB_lIl, ↓zB_wIl, zB_pI, zB_pZ, zB_lI, zB_lZ, zB_wI, zB_wZ, z_addl, z_ladd, z_mull, z_lmul, nI_add, z_subl, Nat.not_lt_zero, z_10, z_01, z_bitc, z_b0, z_b1, ↓zB_Gb, ↓zB_G0, ↓zB_G1, z_eql, z_leq, z_ltl, z_llt, z_eq, z_lt, z_m1lt, hX.k0, hX.k1, hX.k2, hX.k3, hX.k4, hX.k5, hX.k6, hX.k7, hX.l2, hX.l3, hX.l4, hX.l5, hX.l6, hX.l7, ↓hX.g0_0, ↓hX.g0_1, ↓hX.g0_2, ↓hX.g0_3, ↓hX.g0_4, ↓hX.g0_5, ↓hX.g0_6, ↓hX.g0_7, ↓hX.g0_8, ↓hX.g0_9, ↓hX.g1_0, ↓hX.g1_1, ↓hX.g1_2, ↓hX.g1_3, ↓hX.g1_4, ↓hX.g1_5, ↓zT_l (f160_y hn), zT_l (f160_y hn), ↓zT_r (f157_n hX hT g), zT_r (f157_n hX hT g)]
  · rw [ht] at hq
    omega
theorem c_self (hw : z_WA A) (h : z_CR S m A) : ∃ S1 m1, f126 0  (z_hp S m) = some ((z_oself A).1, z_hp S1 m1) ∧ z_CR S1 m1 (z_oself A).2 ∧ z_SS S S1 ∧ ∀ a, 2390 ≤ a → m1 a = m a := by
  have h0 := h
  obtain ⟨sn, sx, sp, hI, hCM⟩ := h0
  have hX := hI.1
  have hT := hCM.2.1
  have hl := hw.1.1
  unfold z_oself
  have ht : z_tn ((2, 0, 0), 0, 0, 0) = 0 := by show z_pn 2 0 = 0; decide
  refine z_c_nd hw h hX hT (t := ((2, 0, 0), 0, 0, 0)) (K := 2) (V := 0) (A0 := (-1)) (A1 := (-1)) (A2 := (-1)) rfl rfl (fun g m1 e => ?_) (fun g => ?_) (by rw [ht]; decide) (fun q hq => ?_) (by rw [ht]; rfl) (by rw [ht]; rfl) (by rw [ht]; rfl)
  · unfold f126
    simp (disch := ((try simp only [true_or, or_true, hX.k0, hX.k1, hX.k2, hX.k3, hX.k4, hX.k5, hX.k6, hX.k7, hX.l2, hX.l3, hX.l4, hX.l5, hX.l6, hX.l7]) <;> (try omega))) only [↓reduceIte, ↓z_ite, ↓zR, ↓zB_R, ↓zB_B, ↓zB_ite, ↓zB_gI, ↓zB_pI, ↓zB_pZ, ↓zB_aK, ↓zB_G, ↓zB_lI, ↓zB_lZ, ↓zB_wI, ↓zB_wZ, ↓zB_lIl, ↓zB_wIl, zB_pI, zB_pZ, zB_lI, zB_lZ, zB_wI, zB_wZ, z_addl, z_ladd, z_mull, z_lmul, nI_add, z_subl, Nat.not_lt_zero, z_10, z_01, z_bitc, z_b0, z_b1, ↓zB_Gb, ↓zB_G0, ↓zB_G1, z_eql, z_leq, z_ltl, z_llt, z_eq, z_lt, z_m1lt, hX.k0, hX.k1, hX.k2, hX.k3, hX.k4, hX.k5, hX.k6, hX.k7, hX.l2, hX.l3, hX.l4, hX.l5, hX.l6, hX.l7, ↓hX.g0_0, ↓hX.g0_1, ↓hX.g0_2, ↓hX.g0_3, ↓hX.g0_4, ↓hX.g0_5, ↓hX.g0_6, ↓hX.g0_7, ↓hX.g0_8, ↓hX.g0_9, ↓hX.g1_0, ↓hX.g1_1, ↓hX.g1_2, ↓hX.g1_3, ↓hX.g1_4, ↓hX.g1_5, ↓zT_l (f157_y hX hT g), zT_l (f157_y hX hT g), ↓zB_c e, zB_c e]
  · unfold f126
    simp (disch := ((try simp only [true_or, or_true, hX.k0, hX.k1, hX.k2, hX.k3, hX.k4, hX.k5, hX.k6, hX.k7, hX.l2, hX.l3, hX.l4, hX.l5, hX.l6, hX.l7]) <;> (try omega))) only [↓reduceIte, ↓z_ite, ↓zR, ↓zB_R, ↓zB_B, ↓zB_ite, ↓zB_gI, ↓zB_pI, ↓zB_pZ, ↓zB_aK, ↓zB_G, ↓zB_lI, ↓zB_lZ, ↓zB_wI, ↓zB_wZ, ↓zB_lIl, ↓zB_wIl, zB_pI, zB_pZ, zB_lI, zB_lZ, zB_wI, zB_wZ, z_addl, z_ladd, z_mull, z_lmul, nI_add, z_subl, Nat.not_lt_zero, z_10, z_01, z_bitc, z_b0, z_b1, ↓zB_Gb, ↓zB_G0, ↓zB_G1, z_eql, z_leq, z_ltl, z_llt, z_eq, z_lt, z_m1lt, hX.k0, hX.k1, hX.k2, hX.k3, hX.k4, hX.k5, hX.k6, hX.k7, hX.l2, hX.l3, hX.l4, hX.l5, hX.l6, hX.l7, ↓hX.g0_0, ↓hX.g0_1, ↓hX.g0_2, ↓hX.g0_3, ↓hX.g0_4, ↓hX.g0_5, ↓hX.g0_6, ↓hX.g0_7, ↓hX.g0_8, ↓hX.g0_9, ↓hX.g1_0, ↓hX.g1_1, ↓hX.g1_2, ↓hX.g1_3, ↓hX.g1_4, ↓hX.g1_5, ↓zT_r (f157_n hX hT g), zT_r (f157_n hX hT g)]
  · rw [ht] at hq
    omega
theorem c_field (hw : z_WA A) (h : z_CR S m A) (o : Int32) (n : Int32) : ∃ S1 m1, f127 0 o n (z_hp S m) = some ((z_ofield A o n).1, z_hp S1 m1) ∧ z_CR S1 m1 (z_ofield A o n).2 ∧ z_SS S S1 ∧ ∀ a, 2390 ≤ a → m1 a = m a := by
  have h0 := h
  obtain ⟨sn, sx, sp, hI, hCM⟩ := h0
  have hX := hI.1
  have hT := hCM.2.1
  have hl := hw.1.1
  unfold z_ofield
  by_cases go : z_in o A.1.length = false
  · rw [if_pos go]
    refine ⟨z_Sx S, m, ?_, z_CR_x h, z_SS.x S, fun _ _ => rfl⟩
    unfold f127
    simp (disch := ((try simp only [true_or, or_true, hX.k0, hX.k1, hX.k2, hX.k3, hX.k4, hX.k5, hX.k6, hX.k7, hX.l2, hX.l3, hX.l4, hX.l5, hX.l6, hX.l7]) <;> (try omega))) only [↓reduceIte, ↓z_ite, ↓zR, ↓zB_R, ↓zB_B, ↓zB_ite, ↓zB_gI, ↓zB_pI, ↓zB_pZ, ↓zB_aK, ↓zB_G, ↓zB_lI, ↓zB_lZ, ↓zB_wI, ↓zB_wZ, ↓zB_lIl, ↓zB_wIl, zB_pI, zB_pZ, zB_lI, zB_lZ, zB_wI, zB_wZ, z_addl, z_ladd, z_mull, z_lmul, nI_add, z_subl, Nat.not_lt_zero, z_10, z_01, z_bitc, z_b0, z_b1, ↓zB_Gb, ↓zB_G0, ↓zB_G1, z_eql, z_leq, z_ltl, z_llt, z_eq, z_lt, z_m1lt, hX.k0, hX.k1, hX.k2, hX.k3, hX.k4, hX.k5, hX.k6, hX.k7, hX.l2, hX.l3, hX.l4, hX.l5, hX.l6, hX.l7, ↓hX.g0_0, ↓hX.g0_1, ↓hX.g0_2, ↓hX.g0_3, ↓hX.g0_4, ↓hX.g0_5, ↓hX.g0_6, ↓hX.g0_7, ↓hX.g0_8, ↓hX.g0_9, ↓hX.g1_0, ↓hX.g1_1, ↓hX.g1_2, ↓hX.g1_3, ↓hX.g1_4, ↓hX.g1_5, ↓zT_r (f158_n hX hT hw.1 go), zT_r (f158_n hX hT hw.1 go)]
  rw [if_neg go]
  obtain ⟨qo, ho, rfl⟩ := (z_in_iff (by omega)).mp (z_not_false go)
  by_cases gn : z_in n 16 = false
  · rw [if_pos gn]
    refine ⟨z_Sx S, m, ?_, z_CR_x h, z_SS.x S, fun _ _ => rfl⟩
    unfold f127
    simp (disch := ((try simp only [true_or, or_true, hX.k0, hX.k1, hX.k2, hX.k3, hX.k4, hX.k5, hX.k6, hX.k7, hX.l2, hX.l3, hX.l4, hX.l5, hX.l6, hX.l7]) <;> (try omega))) only [↓reduceIte, ↓z_ite, ↓zR, ↓zB_R, ↓zB_B, ↓zB_ite, ↓zB_gI, ↓zB_pI, ↓zB_pZ, ↓zB_aK, ↓zB_G, ↓zB_lI, ↓zB_lZ, ↓zB_wI, ↓zB_wZ, ↓zB_lIl, ↓zB_wIl, zB_pI, zB_pZ, zB_lI, zB_lZ, zB_wI, zB_wZ, z_addl, z_ladd, z_mull, z_lmul, nI_add, z_subl, Nat.not_lt_zero, z_10, z_01, z_bitc, z_b0, z_b1, ↓zB_Gb, ↓zB_G0, ↓zB_G1, z_eql, z_leq, z_ltl, z_llt, z_eq, z_lt, z_m1lt, hX.k0, hX.k1, hX.k2, hX.k3, hX.k4, hX.k5, hX.k6, hX.k7, hX.l2, hX.l3, hX.l4, hX.l5, hX.l6, hX.l7, ↓hX.g0_0, ↓hX.g0_1, ↓hX.g0_2, ↓hX.g0_3, ↓hX.g0_4, ↓hX.g0_5, ↓hX.g0_6, ↓hX.g0_7, ↓hX.g0_8, ↓hX.g0_9, ↓hX.g1_0, ↓hX.g1_1, ↓hX.g1_2, ↓hX.g1_3, ↓hX.g1_4, ↓hX.g1_5, ↓zT_l (f158_y hX hT hw.1 ho), zT_l (f158_y hX hT hw.1 ho), ↓zT_r (f160_n gn), zT_r (f160_n gn)]
  rw [if_neg gn]
  obtain ⟨qn, hn, rfl⟩ := (z_in_iff (by omega)).mp (z_not_false gn)
  rw [nI_clamp (show qo < 2 ^ 31 by omega)]
  have ht : z_tn ((3, nI qn, 0), qo, 0, 0) = 1 := by show z_pn 3 0 = 1; decide
  refine z_c_nd hw h hX hT (t := ((3, nI qn, 0), qo, 0, 0)) (K := 3) (V := nI qn) (A0 := (nI qo)) (A1 := (-1)) (A2 := (-1)) rfl rfl (fun g m1 e => ?_) (fun g => ?_) (by rw [ht]; decide) (fun q hq => ?_) (by rw [ht]; rfl) (by rw [ht]; rfl) (by rw [ht]; rfl)
  · unfold f127
    simp (disch := ((try simp only [true_or, or_true, hX.k0, hX.k1, hX.k2, hX.k3, hX.k4, hX.k5, hX.k6, hX.k7, hX.l2, hX.l3, hX.l4, hX.l5, hX.l6, hX.l7]) <;> (try omega))) only [↓reduceIte, ↓z_ite, ↓zR, ↓zB_R, ↓zB_B, ↓zB_ite, ↓zB_gI, ↓zB_pI, ↓zB_pZ, ↓zB_aK, ↓zB_G, ↓zB_lI, ↓zB_lZ, ↓zB_wI, ↓zB_wZ, ↓zB_lIl, ↓zB_wIl, zB_pI, zB_pZ, zB_lI, zB_lZ, zB_wI, zB_wZ, z_addl, z_ladd, z_mull, z_lmul, nI_add, z_subl, Nat.not_lt_zero, z_10, z_01, z_bitc, z_b0, z_b1, ↓zB_Gb, ↓zB_G0, ↓zB_G1, z_eql, z_leq, z_ltl, z_llt, z_eq, z_lt, z_m1lt, hX.k0, hX.k1, hX.k2, hX.k3, hX.k4, hX.k5, hX.k6, hX.k7, hX.l2, hX.l3, hX.l4, hX.l5, hX.l6, hX.l7, ↓hX.g0_0, ↓hX.g0_1, ↓hX.g0_2, ↓hX.g0_3, ↓hX.g0_4, ↓hX.g0_5, ↓hX.g0_6, ↓hX.g0_7, ↓hX.g0_8, ↓hX.g0_9, ↓hX.g1_0, ↓hX.g1_1, ↓hX.g1_2, ↓hX.g1_3, ↓hX.g1_4, ↓hX.g1_5, ↓zT_l (f158_y hX hT hw.1 ho), zT_l (f158_y hX hT hw.1 ho), ↓zT_l (f160_y hn), zT_l (f160_y hn), ↓zT_l (f157_y hX hT g), zT_l (f157_y hX hT g), ↓zB_c e, zB_c e]
  · unfold f127
    simp (disch := ((try simp only [true_or, or_true, hX.k0, hX.k1, hX.k2, hX.k3, hX.k4, hX.k5, hX.k6, hX.k7, hX.l2, hX.l3, hX.l4, hX.l5, hX.l6, hX.l7]) <;> (try omega))) only [↓reduceIte, ↓z_ite, ↓zR, ↓zB_R, ↓zB_B, ↓zB_ite, ↓zB_gI, ↓zB_pI, ↓zB_pZ, ↓zB_aK, ↓zB_G, ↓zB_lI, ↓zB_lZ, ↓zB_wI, ↓zB_wZ, ↓zB_lIl, ↓zB_wIl, zB_pI, zB_pZ, zB_lI, zB_lZ, zB_wI, zB_wZ, z_addl, z_ladd, z_mull, z_lmul, nI_add, z_subl, Nat.not_lt_zero, z_10, z_01, z_bitc, z_b0, z_b1, ↓zB_Gb, ↓zB_G0, ↓zB_G1, z_eql, z_leq, z_ltl, z_llt, z_eq, z_lt, z_m1lt, hX.k0, hX.k1, hX.k2, hX.k3, hX.k4, hX.k5, hX.k6, hX.k7, hX.l2, hX.l3, hX.l4, hX.l5, hX.l6, hX.l7, ↓hX.g0_0, ↓hX.g0_1, ↓hX.g0_2, ↓hX.g0_3, ↓hX.g0_4, ↓hX.g0_5, ↓hX.g0_6, ↓hX.g0_7, ↓hX.g0_8, ↓hX.g0_9, ↓hX.g1_0, ↓hX.g1_1, ↓hX.g1_2, ↓hX.g1_3, ↓hX.g1_4, ↓hX.g1_5, ↓zT_l (f158_y hX hT hw.1 ho), zT_l (f158_y hX hT hw.1 ho), ↓zT_l (f160_y hn), zT_l (f160_y hn), ↓zT_r (f157_n hX hT g), zT_r (f157_n hX hT g)]
  · rw [ht] at hq
    have : q = 0 := by omega
    subst this
    · show qo < A.1.length; omega
theorem c_put (hw : z_WA A) (h : z_CR S m A) (o : Int32) (n : Int32) (x : Int32) : ∃ S1 m1, f128 0 o n x (z_hp S m) = some ((z_oput A o n x).1, z_hp S1 m1) ∧ z_CR S1 m1 (z_oput A o n x).2 ∧ z_SS S S1 ∧ ∀ a, 2390 ≤ a → m1 a = m a := by
  have h0 := h
  obtain ⟨sn, sx, sp, hI, hCM⟩ := h0
  have hX := hI.1
  have hT := hCM.2.1
  have hl := hw.1.1
  unfold z_oput
  by_cases go : z_in o A.1.length = false
  · rw [if_pos go]
    refine ⟨z_Sx S, m, ?_, z_CR_x h, z_SS.x S, fun _ _ => rfl⟩
    unfold f128
    simp (disch := ((try simp only [true_or, or_true, hX.k0, hX.k1, hX.k2, hX.k3, hX.k4, hX.k5, hX.k6, hX.k7, hX.l2, hX.l3, hX.l4, hX.l5, hX.l6, hX.l7]) <;> (try omega))) only [↓reduceIte, ↓z_ite, ↓zR, ↓zB_R, ↓zB_B, ↓zB_ite, ↓zB_gI, ↓zB_pI, ↓zB_pZ, ↓zB_aK, ↓zB_G, ↓zB_lI, ↓zB_lZ, ↓zB_wI, ↓zB_wZ, ↓zB_lIl, ↓zB_wIl, zB_pI, zB_pZ, zB_lI, zB_lZ, zB_wI, zB_wZ, z_addl, z_ladd, z_mull, z_lmul, nI_add, z_subl, Nat.not_lt_zero, z_10, z_01, z_bitc, z_b0, z_b1, ↓zB_Gb, ↓zB_G0, ↓zB_G1, z_eql, z_leq, z_ltl, z_llt, z_eq, z_lt, z_m1lt, hX.k0, hX.k1, hX.k2, hX.k3, hX.k4, hX.k5, hX.k6, hX.k7, hX.l2, hX.l3, hX.l4, hX.l5, hX.l6, hX.l7, ↓hX.g0_0, ↓hX.g0_1, ↓hX.g0_2, ↓hX.g0_3, ↓hX.g0_4, ↓hX.g0_5, ↓hX.g0_6, ↓hX.g0_7, ↓hX.g0_8, ↓hX.g0_9, ↓hX.g1_0, ↓hX.g1_1, ↓hX.g1_2, ↓hX.g1_3, ↓hX.g1_4, ↓hX.g1_5, ↓zT_r (f158_n hX hT hw.1 go), zT_r (f158_n hX hT hw.1 go)]
  rw [if_neg go]
  obtain ⟨qo, ho, rfl⟩ := (z_in_iff (by omega)).mp (z_not_false go)
  by_cases gx : z_in x A.1.length = false
  · rw [if_pos gx]
    refine ⟨z_Sx S, m, ?_, z_CR_x h, z_SS.x S, fun _ _ => rfl⟩
    unfold f128
    simp (disch := ((try simp only [true_or, or_true, hX.k0, hX.k1, hX.k2, hX.k3, hX.k4, hX.k5, hX.k6, hX.k7, hX.l2, hX.l3, hX.l4, hX.l5, hX.l6, hX.l7]) <;> (try omega))) only [↓reduceIte, ↓z_ite, ↓zR, ↓zB_R, ↓zB_B, ↓zB_ite, ↓zB_gI, ↓zB_pI, ↓zB_pZ, ↓zB_aK, ↓zB_G, ↓zB_lI, ↓zB_lZ, ↓zB_wI, ↓zB_wZ, ↓zB_lIl, ↓zB_wIl, zB_pI, zB_pZ, zB_lI, zB_lZ, zB_wI, zB_wZ, z_addl, z_ladd, z_mull, z_lmul, nI_add, z_subl, Nat.not_lt_zero, z_10, z_01, z_bitc, z_b0, z_b1, ↓zB_Gb, ↓zB_G0, ↓zB_G1, z_eql, z_leq, z_ltl, z_llt, z_eq, z_lt, z_m1lt, hX.k0, hX.k1, hX.k2, hX.k3, hX.k4, hX.k5, hX.k6, hX.k7, hX.l2, hX.l3, hX.l4, hX.l5, hX.l6, hX.l7, ↓hX.g0_0, ↓hX.g0_1, ↓hX.g0_2, ↓hX.g0_3, ↓hX.g0_4, ↓hX.g0_5, ↓hX.g0_6, ↓hX.g0_7, ↓hX.g0_8, ↓hX.g0_9, ↓hX.g1_0, ↓hX.g1_1, ↓hX.g1_2, ↓hX.g1_3, ↓hX.g1_4, ↓hX.g1_5, ↓zT_l (f158_y hX hT hw.1 ho), zT_l (f158_y hX hT hw.1 ho), ↓zT_r (f158_n hX hT hw.1 gx), zT_r (f158_n hX hT hw.1 gx)]
  rw [if_neg gx]
  obtain ⟨qx, hx, rfl⟩ := (z_in_iff (by omega)).mp (z_not_false gx)
  by_cases gn : z_in n 16 = false
  · rw [if_pos gn]
    refine ⟨z_Sx S, m, ?_, z_CR_x h, z_SS.x S, fun _ _ => rfl⟩
    unfold f128
    simp (disch := ((try simp only [true_or, or_true, hX.k0, hX.k1, hX.k2, hX.k3, hX.k4, hX.k5, hX.k6, hX.k7, hX.l2, hX.l3, hX.l4, hX.l5, hX.l6, hX.l7]) <;> (try omega))) only [↓reduceIte, ↓z_ite, ↓zR, ↓zB_R, ↓zB_B, ↓zB_ite, ↓zB_gI, ↓zB_pI, ↓zB_pZ, ↓zB_aK, ↓zB_G, ↓zB_lI, ↓zB_lZ, ↓zB_wI, ↓zB_wZ, ↓zB_lIl, ↓zB_wIl, zB_pI, zB_pZ, zB_lI, zB_lZ, zB_wI, zB_wZ, z_addl, z_ladd, z_mull, z_lmul, nI_add, z_subl, Nat.not_lt_zero, z_10, z_01, z_bitc, z_b0, z_b1, ↓zB_Gb, ↓zB_G0, ↓zB_G1, z_eql, z_leq, z_ltl, z_llt, z_eq, z_lt, z_m1lt, hX.k0, hX.k1, hX.k2, hX.k3, hX.k4, hX.k5, hX.k6, hX.k7, hX.l2, hX.l3, hX.l4, hX.l5, hX.l6, hX.l7, ↓hX.g0_0, ↓hX.g0_1, ↓hX.g0_2, ↓hX.g0_3, ↓hX.g0_4, ↓hX.g0_5, ↓hX.g0_6, ↓hX.g0_7, ↓hX.g0_8, ↓hX.g0_9, ↓hX.g1_0, ↓hX.g1_1, ↓hX.g1_2, ↓hX.g1_3, ↓hX.g1_4, ↓hX.g1_5, ↓zT_l (f158_y hX hT hw.1 ho), zT_l (f158_y hX hT hw.1 ho), ↓zT_l (f158_y hX hT hw.1 hx), zT_l (f158_y hX hT hw.1 hx), ↓zT_r (f160_n gn), zT_r (f160_n gn)]
  rw [if_neg gn]
  obtain ⟨qn, hn, rfl⟩ := (z_in_iff (by omega)).mp (z_not_false gn)
  rw [nI_clamp (show qo < 2 ^ 31 by omega)]
  rw [nI_clamp (show qx < 2 ^ 31 by omega)]
  have ht : z_tn ((4, nI qn, 0), qo, qx, 0) = 2 := by show z_pn 4 0 = 2; decide
  refine z_c_nd hw h hX hT (t := ((4, nI qn, 0), qo, qx, 0)) (K := 4) (V := nI qn) (A0 := (nI qo)) (A1 := (nI qx)) (A2 := (-1)) rfl rfl (fun g m1 e => ?_) (fun g => ?_) (by rw [ht]; decide) (fun q hq => ?_) (by rw [ht]; rfl) (by rw [ht]; rfl) (by rw [ht]; rfl)
  · unfold f128
    simp (disch := ((try simp only [true_or, or_true, hX.k0, hX.k1, hX.k2, hX.k3, hX.k4, hX.k5, hX.k6, hX.k7, hX.l2, hX.l3, hX.l4, hX.l5, hX.l6, hX.l7]) <;> (try omega))) only [↓reduceIte, ↓z_ite, ↓zR, ↓zB_R, ↓zB_B, ↓zB_ite, ↓zB_gI, ↓zB_pI, ↓zB_pZ, ↓zB_aK, ↓zB_G, ↓zB_lI, ↓zB_lZ, ↓zB_wI, ↓zB_wZ, ↓zB_lIl, ↓zB_wIl, zB_pI, zB_pZ, zB_lI, zB_lZ, zB_wI, zB_wZ, z_addl, z_ladd, z_mull, z_lmul, nI_add, z_subl, Nat.not_lt_zero, z_10, z_01, z_bitc, z_b0, z_b1, ↓zB_Gb, ↓zB_G0, ↓zB_G1, z_eql, z_leq, z_ltl, z_llt, z_eq, z_lt, z_m1lt, hX.k0, hX.k1, hX.k2, hX.k3, hX.k4, hX.k5, hX.k6, hX.k7, hX.l2, hX.l3, hX.l4, hX.l5, hX.l6, hX.l7, ↓hX.g0_0, ↓hX.g0_1, ↓hX.g0_2, ↓hX.g0_3, ↓hX.g0_4, ↓hX.g0_5, ↓hX.g0_6, ↓hX.g0_7, ↓hX.g0_8, ↓hX.g0_9, ↓hX.g1_0, ↓hX.g1_1, ↓hX.g1_2, ↓hX.g1_3, ↓hX.g1_4, ↓hX.g1_5, ↓zT_l (f158_y hX hT hw.1 ho), zT_l (f158_y hX hT hw.1 ho), ↓zT_l (f158_y hX hT hw.1 hx), zT_l (f158_y hX hT hw.1 hx), ↓zT_l (f160_y hn), zT_l (f160_y hn), ↓zT_l (f157_y hX hT g), zT_l (f157_y hX hT g), ↓zB_c e, zB_c e]
  · unfold f128
    simp (disch := ((try simp only [true_or, or_true, hX.k0, hX.k1, hX.k2, hX.k3, hX.k4, hX.k5, hX.k6, hX.k7, hX.l2, hX.l3, hX.l4, hX.l5, hX.l6, hX.l7]) <;> (try omega))) only [↓reduceIte, ↓z_ite, ↓zR, ↓zB_R, ↓zB_B, ↓zB_ite, ↓zB_gI, ↓zB_pI, ↓zB_pZ, ↓zB_aK, ↓zB_G, ↓zB_lI, ↓zB_lZ, ↓zB_wI, ↓zB_wZ, ↓zB_lIl, ↓zB_wIl, zB_pI, zB_pZ, zB_lI, zB_lZ, zB_wI, zB_wZ, z_addl, z_ladd, z_mull, z_lmul, nI_add, z_subl, Nat.not_lt_zero, z_10, z_01, z_bitc, z_b0, z_b1, ↓zB_Gb, ↓zB_G0, ↓zB_G1, z_eql, z_leq, z_ltl, z_llt, z_eq, z_lt, z_m1lt, hX.k0, hX.k1, hX.k2, hX.k3, hX.k4, hX.k5, hX.k6, hX.k7, hX.l2, hX.l3, hX.l4, hX.l5, hX.l6, hX.l7, ↓hX.g0_0, ↓hX.g0_1, ↓hX.g0_2, ↓hX.g0_3, ↓hX.g0_4, ↓hX.g0_5, ↓hX.g0_6, ↓hX.g0_7, ↓hX.g0_8, ↓hX.g0_9, ↓hX.g1_0, ↓hX.g1_1, ↓hX.g1_2, ↓hX.g1_3, ↓hX.g1_4, ↓hX.g1_5, ↓zT_l (f158_y hX hT hw.1 ho), zT_l (f158_y hX hT hw.1 ho), ↓zT_l (f158_y hX hT hw.1 hx), zT_l (f158_y hX hT hw.1 hx), ↓zT_l (f160_y hn), zT_l (f160_y hn), ↓zT_r (f157_n hX hT g), zT_r (f157_n hX hT g)]
  · rw [ht] at hq
    have : q = 0 ∨ q = 1 := by omega
    rcases this with g | g <;> subst g
    · show qo < A.1.length; omega
    · show qx < A.1.length; omega
theorem c_let (hw : z_WA A) (h : z_CR S m A) (n : Int32) (x : Int32) (b : Int32) : ∃ S1 m1, f129 0 n x b (z_hp S m) = some ((z_olet A n x b).1, z_hp S1 m1) ∧ z_CR S1 m1 (z_olet A n x b).2 ∧ z_SS S S1 ∧ ∀ a, 2390 ≤ a → m1 a = m a := by
  have h0 := h
  obtain ⟨sn, sx, sp, hI, hCM⟩ := h0
  have hX := hI.1
  have hT := hCM.2.1
  have hl := hw.1.1
  unfold z_olet
  by_cases gx : z_in x A.1.length = false
  · rw [if_pos gx]
    refine ⟨z_Sx S, m, ?_, z_CR_x h, z_SS.x S, fun _ _ => rfl⟩
    unfold f129 f129_34
    simp (disch := ((try simp only [true_or, or_true, hX.k0, hX.k1, hX.k2, hX.k3, hX.k4, hX.k5, hX.k6, hX.k7, hX.l2, hX.l3, hX.l4, hX.l5, hX.l6, hX.l7]) <;> (try omega))) only [↓reduceIte, ↓z_ite, ↓zR, ↓zB_R, ↓zB_B, ↓zB_ite, ↓zB_gI, ↓zB_pI, ↓zB_pZ, ↓zB_aK, ↓zB_G, ↓zB_lI, ↓zB_lZ, ↓zB_wI, ↓zB_wZ, ↓zB_lIl, ↓zB_wIl, zB_pI, zB_pZ, zB_lI, zB_lZ, zB_wI, zB_wZ, z_addl, z_ladd, z_mull, z_lmul, nI_add, z_subl, Nat.not_lt_zero, z_10, z_01, z_bitc, z_b0, z_b1, ↓zB_Gb, ↓zB_G0, ↓zB_G1, z_eql, z_leq, z_ltl, z_llt, z_eq, z_lt, z_m1lt, hX.k0, hX.k1, hX.k2, hX.k3, hX.k4, hX.k5, hX.k6, hX.k7, hX.l2, hX.l3, hX.l4, hX.l5, hX.l6, hX.l7, ↓hX.g0_0, ↓hX.g0_1, ↓hX.g0_2, ↓hX.g0_3, ↓hX.g0_4, ↓hX.g0_5, ↓hX.g0_6, ↓hX.g0_7, ↓hX.g0_8, ↓hX.g0_9, ↓hX.g1_0, ↓hX.g1_1, ↓hX.g1_2, ↓hX.g1_3, ↓hX.g1_4, ↓hX.g1_5, ↓zT_r (f158_n hX hT hw.1 gx), zT_r (f158_n hX hT hw.1 gx)]
  rw [if_neg gx]
  obtain ⟨qx, hx, rfl⟩ := (z_in_iff (by omega)).mp (z_not_false gx)
  by_cases gb : (b == -1 || z_in b A.1.length) = false
  · rw [if_pos gb]
    rw [Bool.or_eq_false_iff] at gb
    have gb1 : ¬ b = -1 := by simpa using gb.1
    refine ⟨z_Sx S, m, ?_, z_CR_x h, z_SS.x S, fun _ _ => rfl⟩
    unfold f129 f129_34
    simp (disch := ((try simp only [true_or, or_true, hX.k0, hX.k1, hX.k2, hX.k3, hX.k4, hX.k5, hX.k6, hX.k7, hX.l2, hX.l3, hX.l4, hX.l5, hX.l6, hX.l7]) <;> (try omega))) only [↓reduceIte, ↓z_ite, ↓zR, ↓zB_R, ↓zB_B, ↓zB_ite, ↓zB_gI, ↓zB_pI, ↓zB_pZ, ↓zB_aK, ↓zB_G, ↓zB_lI, ↓zB_lZ, ↓zB_wI, ↓zB_wZ, ↓zB_lIl, ↓zB_wIl, zB_pI, zB_pZ, zB_lI, zB_lZ, zB_wI, zB_wZ, z_addl, z_ladd, z_mull, z_lmul, nI_add, z_subl, Nat.not_lt_zero, z_10, z_01, z_bitc, z_b0, z_b1, ↓zB_Gb, ↓zB_G0, ↓zB_G1, z_eql, z_leq, z_ltl, z_llt, z_eq, z_lt, z_m1lt, hX.k0, hX.k1, hX.k2, hX.k3, hX.k4, hX.k5, hX.k6, hX.k7, hX.l2, hX.l3, hX.l4, hX.l5, hX.l6, hX.l7, ↓hX.g0_0, ↓hX.g0_1, ↓hX.g0_2, ↓hX.g0_3, ↓hX.g0_4, ↓hX.g0_5, ↓hX.g0_6, ↓hX.g0_7, ↓hX.g0_8, ↓hX.g0_9, ↓hX.g1_0, ↓hX.g1_1, ↓hX.g1_2, ↓hX.g1_3, ↓hX.g1_4, ↓hX.g1_5, ↓zT_l (f158_y hX hT hw.1 hx), zT_l (f158_y hX hT hw.1 hx), ↓zT_r (f159_n hX hT hw.1 gb1 gb.2), zT_r (f159_n hX hT hw.1 gb1 gb.2)]
  rw [if_neg gb]
  have eb : f159 0 b (z_hp S m) = some (.inl (), z_hp S m) ∧ (b = -1 ∨ ∃ j, j < A.1.length ∧ b = nI j) := by
    have gbt := z_not_false gb
    rw [Bool.or_eq_true] at gbt
    rcases gbt with g | g
    · have g2 : b = -1 := by simpa using g
      exact ⟨by rw [g2]; exact f159_m hX, Or.inl g2⟩
    · obtain ⟨j, hj, rfl⟩ := (z_in_iff (by omega)).mp g
      exact ⟨f159_y hX hT hw.1 hj, Or.inr ⟨j, hj, rfl⟩⟩
  by_cases gn : z_in n 16 = false
  · rw [if_pos gn]
    refine ⟨z_Sx S, m, ?_, z_CR_x h, z_SS.x S, fun _ _ => rfl⟩
    unfold f129 f129_34
    simp (disch := ((try simp only [true_or, or_true, hX.k0, hX.k1, hX.k2, hX.k3, hX.k4, hX.k5, hX.k6, hX.k7, hX.l2, hX.l3, hX.l4, hX.l5, hX.l6, hX.l7]) <;> (try omega))) only [↓reduceIte, ↓z_ite, ↓zR, ↓zB_R, ↓zB_B, ↓zB_ite, ↓zB_gI, ↓zB_pI, ↓zB_pZ, ↓zB_aK, ↓zB_G, ↓zB_lI, ↓zB_lZ, ↓zB_wI, ↓zB_wZ, ↓zB_lIl, ↓zB_wIl, zB_pI, zB_pZ, zB_lI, zB_lZ, zB_wI, zB_wZ, z_addl, z_ladd, z_mull, z_lmul, nI_add, z_subl, Nat.not_lt_zero, z_10, z_01, z_bitc, z_b0, z_b1, ↓zB_Gb, ↓zB_G0, ↓zB_G1, z_eql, z_leq, z_ltl, z_llt, z_eq, z_lt, z_m1lt, hX.k0, hX.k1, hX.k2, hX.k3, hX.k4, hX.k5, hX.k6, hX.k7, hX.l2, hX.l3, hX.l4, hX.l5, hX.l6, hX.l7, ↓hX.g0_0, ↓hX.g0_1, ↓hX.g0_2, ↓hX.g0_3, ↓hX.g0_4, ↓hX.g0_5, ↓hX.g0_6, ↓hX.g0_7, ↓hX.g0_8, ↓hX.g0_9, ↓hX.g1_0, ↓hX.g1_1, ↓hX.g1_2, ↓hX.g1_3, ↓hX.g1_4, ↓hX.g1_5, ↓zT_l (f158_y hX hT hw.1 hx), zT_l (f158_y hX hT hw.1 hx), ↓zT_l eb.1, zT_l eb.1, ↓zT_r (f160_n gn), zT_r (f160_n gn)]
  rw [if_neg gn]
  obtain ⟨qn, hn, rfl⟩ := (z_in_iff (by omega)).mp (z_not_false gn)
  rw [nI_clamp (show qx < 2 ^ 31 by omega)]
  rcases eb.2 with g | ⟨j, hj, g⟩
  · subst g
    rw [if_pos rfl]
    have ht : z_tn ((6, nI qn, 0), qx, 0, 0) = 1 := by show z_pn 6 0 = 1; decide
    refine z_c_nd hw h hX hT (t := ((6, nI qn, 0), qx, 0, 0)) (K := 6) (V := nI qn) (A0 := (nI qx)) (A1 := (-1)) (A2 := (-1)) rfl rfl (fun g m1 e => ?_) (fun g => ?_) (by rw [ht]; decide) (fun q hq => ?_) (by rw [ht]; rfl) (by rw [ht]; rfl) (by rw [ht]; rfl)
    · unfold f129 f129_34
      simp (disch := ((try simp only [true_or, or_true, hX.k0, hX.k1, hX.k2, hX.k3, hX.k4, hX.k5, hX.k6, hX.k7, hX.l2, hX.l3, hX.l4, hX.l5, hX.l6, hX.l7]) <;> (try omega))) only [↓reduceIte, ↓z_ite, ↓zR, ↓zB_R, ↓zB_B, ↓zB_ite, ↓zB_gI, ↓zB_pI, ↓zB_pZ, ↓zB_aK, ↓zB_G, ↓zB_lI, ↓zB_lZ, ↓zB_wI, ↓zB_wZ, ↓zB_lIl, ↓zB_wIl, zB_pI, zB_pZ, zB_lI, zB_lZ, zB_wI, zB_wZ, z_addl, z_ladd, z_mull, z_lmul, nI_add, z_subl, Nat.not_lt_zero, z_10, z_01, z_bitc, z_b0, z_b1, ↓zB_Gb, ↓zB_G0, ↓zB_G1, z_eql, z_leq, z_ltl, z_llt, z_eq, z_lt, z_m1lt, hX.k0, hX.k1, hX.k2, hX.k3, hX.k4, hX.k5, hX.k6, hX.k7, hX.l2, hX.l3, hX.l4, hX.l5, hX.l6, hX.l7, ↓hX.g0_0, ↓hX.g0_1, ↓hX.g0_2, ↓hX.g0_3, ↓hX.g0_4, ↓hX.g0_5, ↓hX.g0_6, ↓hX.g0_7, ↓hX.g0_8, ↓hX.g0_9, ↓hX.g1_0, ↓hX.g1_1, ↓hX.g1_2, ↓hX.g1_3, ↓hX.g1_4, ↓hX.g1_5, ↓zT_l (f158_y hX hT hw.1 hx), zT_l (f158_y hX hT hw.1 hx), ↓zT_l eb.1, zT_l eb.1, ↓zT_l (f160_y hn), zT_l (f160_y hn), ↓zT_l (f157_y hX hT g), zT_l (f157_y hX hT g), ↓zB_c e, zB_c e]
    · unfold f129 f129_34
      simp (disch := ((try simp only [true_or, or_true, hX.k0, hX.k1, hX.k2, hX.k3, hX.k4, hX.k5, hX.k6, hX.k7, hX.l2, hX.l3, hX.l4, hX.l5, hX.l6, hX.l7]) <;> (try omega))) only [↓reduceIte, ↓z_ite, ↓zR, ↓zB_R, ↓zB_B, ↓zB_ite, ↓zB_gI, ↓zB_pI, ↓zB_pZ, ↓zB_aK, ↓zB_G, ↓zB_lI, ↓zB_lZ, ↓zB_wI, ↓zB_wZ, ↓zB_lIl, ↓zB_wIl, zB_pI, zB_pZ, zB_lI, zB_lZ, zB_wI, zB_wZ, z_addl, z_ladd, z_mull, z_lmul, nI_add, z_subl, Nat.not_lt_zero, z_10, z_01, z_bitc, z_b0, z_b1, ↓zB_Gb, ↓zB_G0, ↓zB_G1, z_eql, z_leq, z_ltl, z_llt, z_eq, z_lt, z_m1lt, hX.k0, hX.k1, hX.k2, hX.k3, hX.k4, hX.k5, hX.k6, hX.k7, hX.l2, hX.l3, hX.l4, hX.l5, hX.l6, hX.l7, ↓hX.g0_0, ↓hX.g0_1, ↓hX.g0_2, ↓hX.g0_3, ↓hX.g0_4, ↓hX.g0_5, ↓hX.g0_6, ↓hX.g0_7, ↓hX.g0_8, ↓hX.g0_9, ↓hX.g1_0, ↓hX.g1_1, ↓hX.g1_2, ↓hX.g1_3, ↓hX.g1_4, ↓hX.g1_5, ↓zT_l (f158_y hX hT hw.1 hx), zT_l (f158_y hX hT hw.1 hx), ↓zT_l eb.1, zT_l eb.1, ↓zT_l (f160_y hn), zT_l (f160_y hn), ↓zT_r (f157_n hX hT g), zT_r (f157_n hX hT g)]
    · rw [ht] at hq
      have : q = 0 := by omega
      subst this
      · show qx < A.1.length; omega
  · subst g
    have hne : ¬ nI j = -1 := z_nI_m1 (by omega)
    rw [if_neg hne, nI_clamp (show j < 2 ^ 31 by omega)]
    have ht : z_tn ((5, nI qn, 0), qx, j, 0) = 2 := by show z_pn 5 0 = 2; decide
    refine z_c_nd hw h hX hT (t := ((5, nI qn, 0), qx, j, 0)) (K := 5) (V := nI qn) (A0 := (nI qx)) (A1 := (nI j)) (A2 := (-1)) rfl rfl (fun g m1 e => ?_) (fun g => ?_) (by rw [ht]; decide) (fun q hq => ?_) (by rw [ht]; rfl) (by rw [ht]; rfl) (by rw [ht]; rfl)
    · unfold f129 f129_34
      simp (disch := ((try simp only [true_or, or_true, hX.k0, hX.k1, hX.k2, hX.k3, hX.k4, hX.k5, hX.k6, hX.k7, hX.l2, hX.l3, hX.l4, hX.l5, hX.l6, hX.l7]) <;> (try omega))) only [↓reduceIte, ↓z_ite, ↓zR, ↓zB_R, ↓zB_B, ↓zB_ite, ↓zB_gI, ↓zB_pI, ↓zB_pZ, ↓zB_aK, ↓zB_G, ↓zB_lI, ↓zB_lZ, ↓zB_wI, ↓zB_wZ, ↓zB_lIl, ↓zB_wIl, zB_pI, zB_pZ, zB_lI, zB_lZ, zB_wI, zB_wZ, z_addl, z_ladd, z_mull, z_lmul, nI_add, z_subl, Nat.not_lt_zero, z_10, z_01, z_bitc, z_b0, z_b1, ↓zB_Gb, ↓zB_G0, ↓zB_G1, z_eql, z_leq, z_ltl, z_llt, z_eq, z_lt, z_m1lt, hX.k0, hX.k1, hX.k2, hX.k3, hX.k4, hX.k5, hX.k6, hX.k7, hX.l2, hX.l3, hX.l4, hX.l5, hX.l6, hX.l7, ↓hX.g0_0, ↓hX.g0_1, ↓hX.g0_2, ↓hX.g0_3, ↓hX.g0_4, ↓hX.g0_5, ↓hX.g0_6, ↓hX.g0_7, ↓hX.g0_8, ↓hX.g0_9, ↓hX.g1_0, ↓hX.g1_1, ↓hX.g1_2, ↓hX.g1_3, ↓hX.g1_4, ↓hX.g1_5, ↓zT_l (f158_y hX hT hw.1 hx), zT_l (f158_y hX hT hw.1 hx), ↓zT_l eb.1, zT_l eb.1, ↓zT_l (f160_y hn), zT_l (f160_y hn), ↓zT_l (f157_y hX hT g), zT_l (f157_y hX hT g), ↓zB_c e, zB_c e, hne]
    · unfold f129 f129_34
      simp (disch := ((try simp only [true_or, or_true, hX.k0, hX.k1, hX.k2, hX.k3, hX.k4, hX.k5, hX.k6, hX.k7, hX.l2, hX.l3, hX.l4, hX.l5, hX.l6, hX.l7]) <;> (try omega))) only [↓reduceIte, ↓z_ite, ↓zR, ↓zB_R, ↓zB_B, ↓zB_ite, ↓zB_gI, ↓zB_pI, ↓zB_pZ, ↓zB_aK, ↓zB_G, ↓zB_lI, ↓zB_lZ, ↓zB_wI, ↓zB_wZ, ↓zB_lIl, ↓zB_wIl, zB_pI, zB_pZ, zB_lI, zB_lZ, zB_wI, zB_wZ, z_addl, z_ladd, z_mull, z_lmul, nI_add, z_subl, Nat.not_lt_zero, z_10, z_01, z_bitc, z_b0, z_b1, ↓zB_Gb, ↓zB_G0, ↓zB_G1, z_eql, z_leq, z_ltl, z_llt, z_eq, z_lt, z_m1lt, hX.k0, hX.k1, hX.k2, hX.k3, hX.k4, hX.k5, hX.k6, hX.k7, hX.l2, hX.l3, hX.l4, hX.l5, hX.l6, hX.l7, ↓hX.g0_0, ↓hX.g0_1, ↓hX.g0_2, ↓hX.g0_3, ↓hX.g0_4, ↓hX.g0_5, ↓hX.g0_6, ↓hX.g0_7, ↓hX.g0_8, ↓hX.g0_9, ↓hX.g1_0, ↓hX.g1_1, ↓hX.g1_2, ↓hX.g1_3, ↓hX.g1_4, ↓hX.g1_5, ↓zT_l (f158_y hX hT hw.1 hx), zT_l (f158_y hX hT hw.1 hx), ↓zT_l eb.1, zT_l eb.1, ↓zT_l (f160_y hn), zT_l (f160_y hn), ↓zT_r (f157_n hX hT g), zT_r (f157_n hX hT g), hne]
    · rw [ht] at hq
      have : q = 0 ∨ q = 1 := by omega
      rcases this with g | g <;> subst g
      · show qx < A.1.length; omega
      · show j < A.1.length; omega
theorem c_call (hw : z_WA A) (h : z_CR S m A) (o : Int32) (n : Int32) (a : Int32) (b : Int32) : ∃ S1 m1, f130 0 o n a b (z_hp S m) = some ((z_ocall A o n a b).1, z_hp S1 m1) ∧ z_CR S1 m1 (z_ocall A o n a b).2 ∧ z_SS S S1 ∧ ∀ a, 2390 ≤ a → m1 a = m a := by
  have h0 := h
  obtain ⟨sn, sx, sp, hI, hCM⟩ := h0
  have hX := hI.1
  have hT := hCM.2.1
  have hl := hw.1.1
  unfold z_ocall
  by_cases go : z_in o A.1.length = false
  · rw [if_pos go]
    refine ⟨z_Sx S, m, ?_, z_CR_x h, z_SS.x S, fun _ _ => rfl⟩
    unfold f130 f130_42
    simp (disch := ((try simp only [true_or, or_true, hX.k0, hX.k1, hX.k2, hX.k3, hX.k4, hX.k5, hX.k6, hX.k7, hX.l2, hX.l3, hX.l4, hX.l5, hX.l6, hX.l7]) <;> (try omega))) only [↓reduceIte, ↓z_ite, ↓zR, ↓zB_R, ↓zB_B, ↓zB_ite, ↓zB_gI, ↓zB_pI, ↓zB_pZ, ↓zB_aK, ↓zB_G, ↓zB_lI, ↓zB_lZ, ↓zB_wI, ↓zB_wZ, ↓zB_lIl, ↓zB_wIl, zB_pI, zB_pZ, zB_lI, zB_lZ, zB_wI, zB_wZ, z_addl, z_ladd, z_mull, z_lmul, nI_add, z_subl, Nat.not_lt_zero, z_10, z_01, z_bitc, z_b0, z_b1, ↓zB_Gb, ↓zB_G0, ↓zB_G1, z_eql, z_leq, z_ltl, z_llt, z_eq, z_lt, z_m1lt, hX.k0, hX.k1, hX.k2, hX.k3, hX.k4, hX.k5, hX.k6, hX.k7, hX.l2, hX.l3, hX.l4, hX.l5, hX.l6, hX.l7, ↓hX.g0_0, ↓hX.g0_1, ↓hX.g0_2, ↓hX.g0_3, ↓hX.g0_4, ↓hX.g0_5, ↓hX.g0_6, ↓hX.g0_7, ↓hX.g0_8, ↓hX.g0_9, ↓hX.g1_0, ↓hX.g1_1, ↓hX.g1_2, ↓hX.g1_3, ↓hX.g1_4, ↓hX.g1_5, ↓zT_r (f158_n hX hT hw.1 go), zT_r (f158_n hX hT hw.1 go)]
  rw [if_neg go]
  obtain ⟨qo, ho, rfl⟩ := (z_in_iff (by omega)).mp (z_not_false go)
  by_cases ga : (a == -1 || z_in a A.1.length) = false
  · rw [if_pos ga]
    rw [Bool.or_eq_false_iff] at ga
    have ga1 : ¬ a = -1 := by simpa using ga.1
    refine ⟨z_Sx S, m, ?_, z_CR_x h, z_SS.x S, fun _ _ => rfl⟩
    unfold f130 f130_42
    simp (disch := ((try simp only [true_or, or_true, hX.k0, hX.k1, hX.k2, hX.k3, hX.k4, hX.k5, hX.k6, hX.k7, hX.l2, hX.l3, hX.l4, hX.l5, hX.l6, hX.l7]) <;> (try omega))) only [↓reduceIte, ↓z_ite, ↓zR, ↓zB_R, ↓zB_B, ↓zB_ite, ↓zB_gI, ↓zB_pI, ↓zB_pZ, ↓zB_aK, ↓zB_G, ↓zB_lI, ↓zB_lZ, ↓zB_wI, ↓zB_wZ, ↓zB_lIl, ↓zB_wIl, zB_pI, zB_pZ, zB_lI, zB_lZ, zB_wI, zB_wZ, z_addl, z_ladd, z_mull, z_lmul, nI_add, z_subl, Nat.not_lt_zero, z_10, z_01, z_bitc, z_b0, z_b1, ↓zB_Gb, ↓zB_G0, ↓zB_G1, z_eql, z_leq, z_ltl, z_llt, z_eq, z_lt, z_m1lt, hX.k0, hX.k1, hX.k2, hX.k3, hX.k4, hX.k5, hX.k6, hX.k7, hX.l2, hX.l3, hX.l4, hX.l5, hX.l6, hX.l7, ↓hX.g0_0, ↓hX.g0_1, ↓hX.g0_2, ↓hX.g0_3, ↓hX.g0_4, ↓hX.g0_5, ↓hX.g0_6, ↓hX.g0_7, ↓hX.g0_8, ↓hX.g0_9, ↓hX.g1_0, ↓hX.g1_1, ↓hX.g1_2, ↓hX.g1_3, ↓hX.g1_4, ↓hX.g1_5, ↓zT_l (f158_y hX hT hw.1 ho), zT_l (f158_y hX hT hw.1 ho), ↓zT_r (f159_n hX hT hw.1 ga1 ga.2), zT_r (f159_n hX hT hw.1 ga1 ga.2)]
  rw [if_neg ga]
  have ea : f159 0 a (z_hp S m) = some (.inl (), z_hp S m) ∧ (a = -1 ∨ ∃ j, j < A.1.length ∧ a = nI j) := by
    have gat := z_not_false ga
    rw [Bool.or_eq_true] at gat
    rcases gat with g | g
    · have g2 : a = -1 := by simpa using g
      exact ⟨by rw [g2]; exact f159_m hX, Or.inl g2⟩
    · obtain ⟨j, hj, rfl⟩ := (z_in_iff (by omega)).mp g
      exact ⟨f159_y hX hT hw.1 hj, Or.inr ⟨j, hj, rfl⟩⟩
  by_cases gb : (b == -1 || z_in b A.1.length) = false
  · rw [if_pos gb]
    rw [Bool.or_eq_false_iff] at gb
    have gb1 : ¬ b = -1 := by simpa using gb.1
    refine ⟨z_Sx S, m, ?_, z_CR_x h, z_SS.x S, fun _ _ => rfl⟩
    unfold f130 f130_42
    simp (disch := ((try simp only [true_or, or_true, hX.k0, hX.k1, hX.k2, hX.k3, hX.k4, hX.k5, hX.k6, hX.k7, hX.l2, hX.l3, hX.l4, hX.l5, hX.l6, hX.l7]) <;> (try omega))) only [↓reduceIte, ↓z_ite, ↓zR, ↓zB_R, ↓zB_B, ↓zB_ite, ↓zB_gI, ↓zB_pI, ↓zB_pZ, ↓zB_aK, ↓zB_G, ↓zB_lI, ↓zB_lZ, ↓zB_wI, ↓zB_wZ, ↓zB_lIl, ↓zB_wIl, zB_pI, zB_pZ, zB_lI, zB_lZ, zB_wI, zB_wZ, z_addl, z_ladd, z_mull, z_lmul, nI_add, z_subl, Nat.not_lt_zero, z_10, z_01, z_bitc, z_b0, z_b1, ↓zB_Gb, ↓zB_G0, ↓zB_G1, z_eql, z_leq, z_ltl, z_llt, z_eq, z_lt, z_m1lt, hX.k0, hX.k1, hX.k2, hX.k3, hX.k4, hX.k5, hX.k6, hX.k7, hX.l2, hX.l3, hX.l4, hX.l5, hX.l6, hX.l7, ↓hX.g0_0, ↓hX.g0_1, ↓hX.g0_2, ↓hX.g0_3, ↓hX.g0_4, ↓hX.g0_5, ↓hX.g0_6, ↓hX.g0_7, ↓hX.g0_8, ↓hX.g0_9, ↓hX.g1_0, ↓hX.g1_1, ↓hX.g1_2, ↓hX.g1_3, ↓hX.g1_4, ↓hX.g1_5, ↓zT_l (f158_y hX hT hw.1 ho), zT_l (f158_y hX hT hw.1 ho), ↓zT_l ea.1, zT_l ea.1, ↓zT_r (f159_n hX hT hw.1 gb1 gb.2), zT_r (f159_n hX hT hw.1 gb1 gb.2)]
  rw [if_neg gb]
  have eb : f159 0 b (z_hp S m) = some (.inl (), z_hp S m) ∧ (b = -1 ∨ ∃ j, j < A.1.length ∧ b = nI j) := by
    have gbt := z_not_false gb
    rw [Bool.or_eq_true] at gbt
    rcases gbt with g | g
    · have g2 : b = -1 := by simpa using g
      exact ⟨by rw [g2]; exact f159_m hX, Or.inl g2⟩
    · obtain ⟨j, hj, rfl⟩ := (z_in_iff (by omega)).mp g
      exact ⟨f159_y hX hT hw.1 hj, Or.inr ⟨j, hj, rfl⟩⟩
  by_cases gn : z_in n 16 = false
  · rw [if_pos gn]
    refine ⟨z_Sx S, m, ?_, z_CR_x h, z_SS.x S, fun _ _ => rfl⟩
    unfold f130 f130_42
    simp (disch := ((try simp only [true_or, or_true, hX.k0, hX.k1, hX.k2, hX.k3, hX.k4, hX.k5, hX.k6, hX.k7, hX.l2, hX.l3, hX.l4, hX.l5, hX.l6, hX.l7]) <;> (try omega))) only [↓reduceIte, ↓z_ite, ↓zR, ↓zB_R, ↓zB_B, ↓zB_ite, ↓zB_gI, ↓zB_pI, ↓zB_pZ, ↓zB_aK, ↓zB_G, ↓zB_lI, ↓zB_lZ, ↓zB_wI, ↓zB_wZ, ↓zB_lIl, ↓zB_wIl, zB_pI, zB_pZ, zB_lI, zB_lZ, zB_wI, zB_wZ, z_addl, z_ladd, z_mull, z_lmul, nI_add, z_subl, Nat.not_lt_zero, z_10, z_01, z_bitc, z_b0, z_b1, ↓zB_Gb, ↓zB_G0, ↓zB_G1, z_eql, z_leq, z_ltl, z_llt, z_eq, z_lt, z_m1lt, hX.k0, hX.k1, hX.k2, hX.k3, hX.k4, hX.k5, hX.k6, hX.k7, hX.l2, hX.l3, hX.l4, hX.l5, hX.l6, hX.l7, ↓hX.g0_0, ↓hX.g0_1, ↓hX.g0_2, ↓hX.g0_3, ↓hX.g0_4, ↓hX.g0_5, ↓hX.g0_6, ↓hX.g0_7, ↓hX.g0_8, ↓hX.g0_9, ↓hX.g1_0, ↓hX.g1_1, ↓hX.g1_2, ↓hX.g1_3, ↓hX.g1_4, ↓hX.g1_5, ↓zT_l (f158_y hX hT hw.1 ho), zT_l (f158_y hX hT hw.1 ho), ↓zT_l ea.1, zT_l ea.1, ↓zT_l eb.1, zT_l eb.1, ↓zT_r (f160_n gn), zT_r (f160_n gn)]
  rw [if_neg gn]
  obtain ⟨qn, hn, rfl⟩ := (z_in_iff (by omega)).mp (z_not_false gn)
  by_cases gp : (!(a == -1 && b != -1)) = false
  · rw [if_pos gp]
    have gp2 : a = -1 ∧ ¬ b = -1 := by simpa using gp
    refine ⟨z_Sx S, m, ?_, z_CR_x h, z_SS.x S, fun _ _ => rfl⟩
    unfold f130 f130_42
    rw [gp2.1] at ea ⊢
    simp (disch := ((try simp only [true_or, or_true, hX.k0, hX.k1, hX.k2, hX.k3, hX.k4, hX.k5, hX.k6, hX.k7, hX.l2, hX.l3, hX.l4, hX.l5, hX.l6, hX.l7]) <;> (try omega))) only [↓reduceIte, ↓z_ite, ↓zR, ↓zB_R, ↓zB_B, ↓zB_ite, ↓zB_gI, ↓zB_pI, ↓zB_pZ, ↓zB_aK, ↓zB_G, ↓zB_lI, ↓zB_lZ, ↓zB_wI, ↓zB_wZ, ↓zB_lIl, ↓zB_wIl, zB_pI, zB_pZ, zB_lI, zB_lZ, zB_wI, zB_wZ, z_addl, z_ladd, z_mull, z_lmul, nI_add, z_subl, Nat.not_lt_zero, z_10, z_01, z_bitc, z_b0, z_b1, ↓zB_Gb, ↓zB_G0, ↓zB_G1, z_eql, z_leq, z_ltl, z_llt, z_eq, z_lt, z_m1lt, hX.k0, hX.k1, hX.k2, hX.k3, hX.k4, hX.k5, hX.k6, hX.k7, hX.l2, hX.l3, hX.l4, hX.l5, hX.l6, hX.l7, ↓hX.g0_0, ↓hX.g0_1, ↓hX.g0_2, ↓hX.g0_3, ↓hX.g0_4, ↓hX.g0_5, ↓hX.g0_6, ↓hX.g0_7, ↓hX.g0_8, ↓hX.g0_9, ↓hX.g1_0, ↓hX.g1_1, ↓hX.g1_2, ↓hX.g1_3, ↓hX.g1_4, ↓hX.g1_5, ↓zT_l (f158_y hX hT hw.1 ho), zT_l (f158_y hX hT hw.1 ho), ↓zT_l ea.1, zT_l ea.1, ↓zT_l eb.1, zT_l eb.1, ↓zT_l (f160_y hn), zT_l (f160_y hn), gp2.2, z_thw]
  rw [if_neg gp]
  have gp2 : a = -1 → b = -1 := by
    intro g1
    have := z_not_false gp
    rw [g1] at this; simpa using this
  rw [nI_clamp (show qo < 2 ^ 31 by omega)]
  rcases ea.2 with g | ⟨j, hj, g⟩
  · subst g
    have gb := gp2 rfl
    subst gb
    rw [if_pos rfl]
    have ht : z_tn ((7, nI qn, 0), qo, 0, 0) = 1 := by show z_pn 7 0 = 1; decide
    refine z_c_nd hw h hX hT (t := ((7, nI qn, 0), qo, 0, 0)) (K := 7) (V := nI qn) (A0 := (nI qo)) (A1 := (-1)) (A2 := (-1)) rfl rfl (fun g m1 e => ?_) (fun g => ?_) (by rw [ht]; decide) (fun q hq => ?_) (by rw [ht]; rfl) (by rw [ht]; rfl) (by rw [ht]; rfl)
    · unfold f130 f130_42
      simp (disch := ((try simp only [true_or, or_true, hX.k0, hX.k1, hX.k2, hX.k3, hX.k4, hX.k5, hX.k6, hX.k7, hX.l2, hX.l3, hX.l4, hX.l5, hX.l6, hX.l7]) <;> (try omega))) only [↓reduceIte, ↓z_ite, ↓zR, ↓zB_R, ↓zB_B, ↓zB_ite, ↓zB_gI, ↓zB_pI, ↓zB_pZ, ↓zB_aK, ↓zB_G, ↓zB_lI, ↓zB_lZ, ↓zB_wI, ↓zB_wZ, ↓zB_lIl, ↓zB_wIl, zB_pI, zB_pZ, zB_lI, zB_lZ, zB_wI, zB_wZ, z_addl, z_ladd, z_mull, z_lmul, nI_add, z_subl, Nat.not_lt_zero, z_10, z_01, z_bitc, z_b0, z_b1, ↓zB_Gb, ↓zB_G0, ↓zB_G1, z_eql, z_leq, z_ltl, z_llt, z_eq, z_lt, z_m1lt, hX.k0, hX.k1, hX.k2, hX.k3, hX.k4, hX.k5, hX.k6, hX.k7, hX.l2, hX.l3, hX.l4, hX.l5, hX.l6, hX.l7, ↓hX.g0_0, ↓hX.g0_1, ↓hX.g0_2, ↓hX.g0_3, ↓hX.g0_4, ↓hX.g0_5, ↓hX.g0_6, ↓hX.g0_7, ↓hX.g0_8, ↓hX.g0_9, ↓hX.g1_0, ↓hX.g1_1, ↓hX.g1_2, ↓hX.g1_3, ↓hX.g1_4, ↓hX.g1_5, ↓zT_l (f158_y hX hT hw.1 ho), zT_l (f158_y hX hT hw.1 ho), ↓zT_l ea.1, zT_l ea.1, ↓zT_l eb.1, zT_l eb.1, ↓zT_l (f160_y hn), zT_l (f160_y hn), ↓zT_l (f157_y hX hT g), zT_l (f157_y hX hT g), ↓zB_c e, zB_c e]
    · unfold f130 f130_42
      simp (disch := ((try simp only [true_or, or_true, hX.k0, hX.k1, hX.k2, hX.k3, hX.k4, hX.k5, hX.k6, hX.k7, hX.l2, hX.l3, hX.l4, hX.l5, hX.l6, hX.l7]) <;> (try omega))) only [↓reduceIte, ↓z_ite, ↓zR, ↓zB_R, ↓zB_B, ↓zB_ite, ↓zB_gI, ↓zB_pI, ↓zB_pZ, ↓zB_aK, ↓zB_G, ↓zB_lI, ↓zB_lZ, ↓zB_wI, ↓zB_wZ, ↓zB_lIl, ↓zB_wIl, zB_pI, zB_pZ, zB_lI, zB_lZ, zB_wI, zB_wZ, z_addl, z_ladd, z_mull, z_lmul, nI_add, z_subl, Nat.not_lt_zero, z_10, z_01, z_bitc, z_b0, z_b1, ↓zB_Gb, ↓zB_G0, ↓zB_G1, z_eql, z_leq, z_ltl, z_llt, z_eq, z_lt, z_m1lt, hX.k0, hX.k1, hX.k2, hX.k3, hX.k4, hX.k5, hX.k6, hX.k7, hX.l2, hX.l3, hX.l4, hX.l5, hX.l6, hX.l7, ↓hX.g0_0, ↓hX.g0_1, ↓hX.g0_2, ↓hX.g0_3, ↓hX.g0_4, ↓hX.g0_5, ↓hX.g0_6, ↓hX.g0_7, ↓hX.g0_8, ↓hX.g0_9, ↓hX.g1_0, ↓hX.g1_1, ↓hX.g1_2, ↓hX.g1_3, ↓hX.g1_4, ↓hX.g1_5, ↓zT_l (f158_y hX hT hw.1 ho), zT_l (f158_y hX hT hw.1 ho), ↓zT_l ea.1, zT_l ea.1, ↓zT_l eb.1, zT_l eb.1, ↓zT_l (f160_y hn), zT_l (f160_y hn), ↓zT_r (f157_n hX hT g), zT_r (f157_n hX hT g)]
    · rw [ht] at hq
      have : q = 0 := by omega
      subst this
      · show qo < A.1.length; omega
  · subst g
    have hne : ¬ nI j = -1 := z_nI_m1 (by omega)
    rw [if_neg hne, nI_clamp (show j < 2 ^ 31 by omega)]
    rcases eb.2 with g | ⟨i, hi, g⟩
    · subst g
      rw [if_pos rfl]
      have ht : z_tn ((7, nI qn, 1), qo, j, 0) = 2 := by show z_pn 7 1 = 2; decide
      refine z_c_nd hw h hX hT (t := ((7, nI qn, 1), qo, j, 0)) (K := 7) (V := nI qn) (A0 := (nI qo)) (A1 := (nI j)) (A2 := (-1)) rfl rfl (fun g m1 e => ?_) (fun g => ?_) (by rw [ht]; decide) (fun q hq => ?_) (by rw [ht]; rfl) (by rw [ht]; rfl) (by rw [ht]; rfl)
      · unfold f130 f130_42
        simp (disch := ((try simp only [true_or, or_true, hX.k0, hX.k1, hX.k2, hX.k3, hX.k4, hX.k5, hX.k6, hX.k7, hX.l2, hX.l3, hX.l4, hX.l5, hX.l6, hX.l7]) <;> (try omega))) only [↓reduceIte, ↓z_ite, ↓zR, ↓zB_R, ↓zB_B, ↓zB_ite, ↓zB_gI, ↓zB_pI, ↓zB_pZ, ↓zB_aK, ↓zB_G, ↓zB_lI, ↓zB_lZ, ↓zB_wI, ↓zB_wZ, ↓zB_lIl, ↓zB_wIl, zB_pI, zB_pZ, zB_lI, zB_lZ, zB_wI, zB_wZ, z_addl, z_ladd, z_mull, z_lmul, nI_add, z_subl, Nat.not_lt_zero, z_10, z_01, z_bitc, z_b0, z_b1, ↓zB_Gb, ↓zB_G0, ↓zB_G1, z_eql, z_leq, z_ltl, z_llt, z_eq, z_lt, z_m1lt, hX.k0, hX.k1, hX.k2, hX.k3, hX.k4, hX.k5, hX.k6, hX.k7, hX.l2, hX.l3, hX.l4, hX.l5, hX.l6, hX.l7, ↓hX.g0_0, ↓hX.g0_1, ↓hX.g0_2, ↓hX.g0_3, ↓hX.g0_4, ↓hX.g0_5, ↓hX.g0_6, ↓hX.g0_7, ↓hX.g0_8, ↓hX.g0_9, ↓hX.g1_0, ↓hX.g1_1, ↓hX.g1_2, ↓hX.g1_3, ↓hX.g1_4, ↓hX.g1_5, ↓zT_l (f158_y hX hT hw.1 ho), zT_l (f158_y hX hT hw.1 ho), ↓zT_l ea.1, zT_l ea.1, ↓zT_l eb.1, zT_l eb.1, ↓zT_l (f160_y hn), zT_l (f160_y hn), ↓zT_l (f157_y hX hT g), zT_l (f157_y hX hT g), ↓zB_c e, zB_c e, hne]
      · unfold f130 f130_42
        simp (disch := ((try simp only [true_or, or_true, hX.k0, hX.k1, hX.k2, hX.k3, hX.k4, hX.k5, hX.k6, hX.k7, hX.l2, hX.l3, hX.l4, hX.l5, hX.l6, hX.l7]) <;> (try omega))) only [↓reduceIte, ↓z_ite, ↓zR, ↓zB_R, ↓zB_B, ↓zB_ite, ↓zB_gI, ↓zB_pI, ↓zB_pZ, ↓zB_aK, ↓zB_G, ↓zB_lI, ↓zB_lZ, ↓zB_wI, ↓zB_wZ, ↓zB_lIl, ↓zB_wIl, zB_pI, zB_pZ, zB_lI, zB_lZ, zB_wI, zB_wZ, z_addl, z_ladd, z_mull, z_lmul, nI_add, z_subl, Nat.not_lt_zero, z_10, z_01, z_bitc, z_b0, z_b1, ↓zB_Gb, ↓zB_G0, ↓zB_G1, z_eql, z_leq, z_ltl, z_llt, z_eq, z_lt, z_m1lt, hX.k0, hX.k1, hX.k2, hX.k3, hX.k4, hX.k5, hX.k6, hX.k7, hX.l2, hX.l3, hX.l4, hX.l5, hX.l6, hX.l7, ↓hX.g0_0, ↓hX.g0_1, ↓hX.g0_2, ↓hX.g0_3, ↓hX.g0_4, ↓hX.g0_5, ↓hX.g0_6, ↓hX.g0_7, ↓hX.g0_8, ↓hX.g0_9, ↓hX.g1_0, ↓hX.g1_1, ↓hX.g1_2, ↓hX.g1_3, ↓hX.g1_4, ↓hX.g1_5, ↓zT_l (f158_y hX hT hw.1 ho), zT_l (f158_y hX hT hw.1 ho), ↓zT_l ea.1, zT_l ea.1, ↓zT_l eb.1, zT_l eb.1, ↓zT_l (f160_y hn), zT_l (f160_y hn), ↓zT_r (f157_n hX hT g), zT_r (f157_n hX hT g), hne]
      · rw [ht] at hq
        have : q = 0 ∨ q = 1 := by omega
        rcases this with g | g <;> subst g
        · show qo < A.1.length; omega
        · show j < A.1.length; omega
    · subst g
      have hne2 : ¬ nI i = -1 := z_nI_m1 (by omega)
      rw [if_neg hne2, nI_clamp (show i < 2 ^ 31 by omega)]
      have ht : z_tn ((7, nI qn, 2), qo, j, i) = 3 := by show z_pn 7 2 = 3; decide
      refine z_c_nd hw h hX hT (t := ((7, nI qn, 2), qo, j, i)) (K := 7) (V := nI qn) (A0 := (nI qo)) (A1 := (nI j)) (A2 := (nI i)) rfl rfl (fun g m1 e => ?_) (fun g => ?_) (by rw [ht]; decide) (fun q hq => ?_) (by rw [ht]; rfl) (by rw [ht]; rfl) (by rw [ht]; rfl)
      · unfold f130 f130_42
        simp (disch := ((try simp only [true_or, or_true, hX.k0, hX.k1, hX.k2, hX.k3, hX.k4, hX.k5, hX.k6, hX.k7, hX.l2, hX.l3, hX.l4, hX.l5, hX.l6, hX.l7]) <;> (try omega))) only [↓reduceIte, ↓z_ite, ↓zR, ↓zB_R, ↓zB_B, ↓zB_ite, ↓zB_gI, ↓zB_pI, ↓zB_pZ, ↓zB_aK, ↓zB_G, ↓zB_lI, ↓zB_lZ, ↓zB_wI, ↓zB_wZ, ↓zB_lIl, ↓zB_wIl, zB_pI, zB_pZ, zB_lI, zB_lZ, zB_wI, zB_wZ, z_addl, z_ladd, z_mull, z_lmul, nI_add, z_subl, Nat.not_lt_zero, z_10, z_01, z_bitc, z_b0, z_b1, ↓zB_Gb, ↓zB_G0, ↓zB_G1, z_eql, z_leq, z_ltl, z_llt, z_eq, z_lt, z_m1lt, hX.k0, hX.k1, hX.k2, hX.k3, hX.k4, hX.k5, hX.k6, hX.k7, hX.l2, hX.l3, hX.l4, hX.l5, hX.l6, hX.l7, ↓hX.g0_0, ↓hX.g0_1, ↓hX.g0_2, ↓hX.g0_3, ↓hX.g0_4, ↓hX.g0_5, ↓hX.g0_6, ↓hX.g0_7, ↓hX.g0_8, ↓hX.g0_9, ↓hX.g1_0, ↓hX.g1_1, ↓hX.g1_2, ↓hX.g1_3, ↓hX.g1_4, ↓hX.g1_5, ↓zT_l (f158_y hX hT hw.1 ho), zT_l (f158_y hX hT hw.1 ho), ↓zT_l ea.1, zT_l ea.1, ↓zT_l eb.1, zT_l eb.1, ↓zT_l (f160_y hn), zT_l (f160_y hn), ↓zT_l (f157_y hX hT g), zT_l (f157_y hX hT g), ↓zB_c e, zB_c e, hne]
      · unfold f130 f130_42
        simp (disch := ((try simp only [true_or, or_true, hX.k0, hX.k1, hX.k2, hX.k3, hX.k4, hX.k5, hX.k6, hX.k7, hX.l2, hX.l3, hX.l4, hX.l5, hX.l6, hX.l7]) <;> (try omega))) only [↓reduceIte, ↓z_ite, ↓zR, ↓zB_R, ↓zB_B, ↓zB_ite, ↓zB_gI, ↓zB_pI, ↓zB_pZ, ↓zB_aK, ↓zB_G, ↓zB_lI, ↓zB_lZ, ↓zB_wI, ↓zB_wZ, ↓zB_lIl, ↓zB_wIl, zB_pI, zB_pZ, zB_lI, zB_lZ, zB_wI, zB_wZ, z_addl, z_ladd, z_mull, z_lmul, nI_add, z_subl, Nat.not_lt_zero, z_10, z_01, z_bitc, z_b0, z_b1, ↓zB_Gb, ↓zB_G0, ↓zB_G1, z_eql, z_leq, z_ltl, z_llt, z_eq, z_lt, z_m1lt, hX.k0, hX.k1, hX.k2, hX.k3, hX.k4, hX.k5, hX.k6, hX.k7, hX.l2, hX.l3, hX.l4, hX.l5, hX.l6, hX.l7, ↓hX.g0_0, ↓hX.g0_1, ↓hX.g0_2, ↓hX.g0_3, ↓hX.g0_4, ↓hX.g0_5, ↓hX.g0_6, ↓hX.g0_7, ↓hX.g0_8, ↓hX.g0_9, ↓hX.g1_0, ↓hX.g1_1, ↓hX.g1_2, ↓hX.g1_3, ↓hX.g1_4, ↓hX.g1_5, ↓zT_l (f158_y hX hT hw.1 ho), zT_l (f158_y hX hT hw.1 ho), ↓zT_l ea.1, zT_l ea.1, ↓zT_l eb.1, zT_l eb.1, ↓zT_l (f160_y hn), zT_l (f160_y hn), ↓zT_r (f157_n hX hT g), zT_r (f157_n hX hT g), hne]
      · rw [ht] at hq
        have : q = 0 ∨ q = 1 ∨ q = 2 := by omega
        rcases this with g | g | g <;> subst g
        · show qo < A.1.length; omega
        · show j < A.1.length; omega
        · show i < A.1.length; omega
theorem c_make (hw : z_WA A) (h : z_CR S m A) (c : Int32) : ∃ S1 m1, f131 0 c (z_hp S m) = some ((z_omake A c).1, z_hp S1 m1) ∧ z_CR S1 m1 (z_omake A c).2 ∧ z_SS S S1 ∧ ∀ a, 2390 ≤ a → m1 a = m a := by
  have h0 := h
  obtain ⟨sn, sx, sp, hI, hCM⟩ := h0
  have hX := hI.1
  have hT := hCM.2.1
  have hl := hw.1.1
  unfold z_omake
  by_cases gc : z_in c (z_nc A.2.1) = false
  · rw [if_pos gc]
    refine ⟨z_Sx S, m, ?_, z_CR_x h, z_SS.x S, fun _ _ => rfl⟩
    unfold f131
    simp (disch := ((try simp only [true_or, or_true, hX.k0, hX.k1, hX.k2, hX.k3, hX.k4, hX.k5, hX.k6, hX.k7, hX.l2, hX.l3, hX.l4, hX.l5, hX.l6, hX.l7]) <;> (try omega))) only [↓reduceIte, ↓z_ite, ↓zR, ↓zB_R, ↓zB_B, ↓zB_ite, ↓zB_gI, ↓zB_pI, ↓zB_pZ, ↓zB_aK, ↓zB_G, ↓zB_lI, ↓zB_lZ, ↓zB_wI, ↓zB_wZ, ↓zB_lIl, ↓zB_wIl, zB_pI, zB_pZ, zB_lI, zB_lZ, zB_wI, zB_wZ, z_addl, z_ladd, z_mull, z_lmul, nI_add, z_subl, Nat.not_lt_zero, z_10, z_01, z_bitc, z_b0, z_b1, ↓zB_Gb, ↓zB_G0, ↓zB_G1, z_eql, z_leq, z_ltl, z_llt, z_eq, z_lt, z_m1lt, hX.k0, hX.k1, hX.k2, hX.k3, hX.k4, hX.k5, hX.k6, hX.k7, hX.l2, hX.l3, hX.l4, hX.l5, hX.l6, hX.l7, ↓hX.g0_0, ↓hX.g0_1, ↓hX.g0_2, ↓hX.g0_3, ↓hX.g0_4, ↓hX.g0_5, ↓hX.g0_6, ↓hX.g0_7, ↓hX.g0_8, ↓hX.g0_9, ↓hX.g1_0, ↓hX.g1_1, ↓hX.g1_2, ↓hX.g1_3, ↓hX.g1_4, ↓hX.g1_5, ↓zT_r (f162_n hX hI.2.2.2.2.2.1 (hI.2.2.1 sn hI.2.2.2.1.1) hCM.2.2.1.1.1 gc), zT_r (f162_n hX hI.2.2.2.2.2.1 (hI.2.2.1 sn hI.2.2.2.1.1) hCM.2.2.1.1.1 gc)]
  rw [if_neg gc]
  have gct := z_not_false gc
  have ht : z_tn ((8, c, 0), 0, 0, 0) = 0 := by show z_pn 8 0 = 0; decide
  refine z_c_nd hw h hX hT (t := ((8, c, 0), 0, 0, 0)) (K := 8) (V := c) (A0 := (-1)) (A1 := (-1)) (A2 := (-1)) rfl rfl (fun g m1 e => ?_) (fun g => ?_) (by rw [ht]; decide) (fun q hq => ?_) (by rw [ht]; rfl) (by rw [ht]; rfl) (by rw [ht]; rfl)
  · unfold f131
    simp (disch := ((try simp only [true_or, or_true, hX.k0, hX.k1, hX.k2, hX.k3, hX.k4, hX.k5, hX.k6, hX.k7, hX.l2, hX.l3, hX.l4, hX.l5, hX.l6, hX.l7]) <;> (try omega))) only [↓reduceIte, ↓z_ite, ↓zR, ↓zB_R, ↓zB_B, ↓zB_ite, ↓zB_gI, ↓zB_pI, ↓zB_pZ, ↓zB_aK, ↓zB_G, ↓zB_lI, ↓zB_lZ, ↓zB_wI, ↓zB_wZ, ↓zB_lIl, ↓zB_wIl, zB_pI, zB_pZ, zB_lI, zB_lZ, zB_wI, zB_wZ, z_addl, z_ladd, z_mull, z_lmul, nI_add, z_subl, Nat.not_lt_zero, z_10, z_01, z_bitc, z_b0, z_b1, ↓zB_Gb, ↓zB_G0, ↓zB_G1, z_eql, z_leq, z_ltl, z_llt, z_eq, z_lt, z_m1lt, hX.k0, hX.k1, hX.k2, hX.k3, hX.k4, hX.k5, hX.k6, hX.k7, hX.l2, hX.l3, hX.l4, hX.l5, hX.l6, hX.l7, ↓hX.g0_0, ↓hX.g0_1, ↓hX.g0_2, ↓hX.g0_3, ↓hX.g0_4, ↓hX.g0_5, ↓hX.g0_6, ↓hX.g0_7, ↓hX.g0_8, ↓hX.g0_9, ↓hX.g1_0, ↓hX.g1_1, ↓hX.g1_2, ↓hX.g1_3, ↓hX.g1_4, ↓hX.g1_5, ↓zT_l (f162_y hX hI.2.2.2.2.2.1 (hI.2.2.1 sn hI.2.2.2.1.1) hCM.2.2.1.1.1 gct), zT_l (f162_y hX hI.2.2.2.2.2.1 (hI.2.2.1 sn hI.2.2.2.1.1) hCM.2.2.1.1.1 gct), ↓zT_l (f157_y hX hT g), zT_l (f157_y hX hT g), ↓zB_c e, zB_c e]
  · unfold f131
    simp (disch := ((try simp only [true_or, or_true, hX.k0, hX.k1, hX.k2, hX.k3, hX.k4, hX.k5, hX.k6, hX.k7, hX.l2, hX.l3, hX.l4, hX.l5, hX.l6, hX.l7]) <;> (try omega))) only [↓reduceIte, ↓z_ite, ↓zR, ↓zB_R, ↓zB_B, ↓zB_ite, ↓zB_gI, ↓zB_pI, ↓zB_pZ, ↓zB_aK, ↓zB_G, ↓zB_lI, ↓zB_lZ, ↓zB_wI, ↓zB_wZ, ↓zB_lIl, ↓zB_wIl, zB_pI, zB_pZ, zB_lI, zB_lZ, zB_wI, zB_wZ, z_addl, z_ladd, z_mull, z_lmul, nI_add, z_subl, Nat.not_lt_zero, z_10, z_01, z_bitc, z_b0, z_b1, ↓zB_Gb, ↓zB_G0, ↓zB_G1, z_eql, z_leq, z_ltl, z_llt, z_eq, z_lt, z_m1lt, hX.k0, hX.k1, hX.k2, hX.k3, hX.k4, hX.k5, hX.k6, hX.k7, hX.l2, hX.l3, hX.l4, hX.l5, hX.l6, hX.l7, ↓hX.g0_0, ↓hX.g0_1, ↓hX.g0_2, ↓hX.g0_3, ↓hX.g0_4, ↓hX.g0_5, ↓hX.g0_6, ↓hX.g0_7, ↓hX.g0_8, ↓hX.g0_9, ↓hX.g1_0, ↓hX.g1_1, ↓hX.g1_2, ↓hX.g1_3, ↓hX.g1_4, ↓hX.g1_5, ↓zT_l (f162_y hX hI.2.2.2.2.2.1 (hI.2.2.1 sn hI.2.2.2.1.1) hCM.2.2.1.1.1 gct), zT_l (f162_y hX hI.2.2.2.2.2.1 (hI.2.2.1 sn hI.2.2.2.1.1) hCM.2.2.1.1.1 gct), ↓zT_r (f157_n hX hT g), zT_r (f157_n hX hT g)]
  · rw [ht] at hq
    omega
theorem c_two (hw : z_WA A) (h : z_CR S m A) (k : Int32) (a : Int32) (b : Int32) : ∃ S1 m1, f132 0 k a b (z_hp S m) = some ((z_otwo A k a b).1, z_hp S1 m1) ∧ z_CR S1 m1 (z_otwo A k a b).2 ∧ z_SS S S1 ∧ ∀ a, 2390 ≤ a → m1 a = m a := by
  have h0 := h
  obtain ⟨sn, sx, sp, hI, hCM⟩ := h0
  have hX := hI.1
  have hT := hCM.2.1
  have hl := hw.1.1
  unfold z_otwo
  by_cases ga : z_in a A.1.length = false
  · rw [if_pos ga]
    refine ⟨z_Sx S, m, ?_, z_CR_x h, z_SS.x S, fun _ _ => rfl⟩
    unfold f132 f132_19
    simp (disch := ((try simp only [true_or, or_true, hX.k0, hX.k1, hX.k2, hX.k3, hX.k4, hX.k5, hX.k6, hX.k7, hX.l2, hX.l3, hX.l4, hX.l5, hX.l6, hX.l7]) <;> (try omega))) only [↓reduceIte, ↓z_ite, ↓zR, ↓zB_R, ↓zB_B, ↓zB_ite, ↓zB_gI, ↓zB_pI, ↓zB_pZ, ↓zB_aK, ↓zB_G, ↓zB_lI, ↓zB_lZ, ↓zB_wI, ↓zB_wZ, ↓zB_lIl, ↓zB_wIl, zB_pI, zB_pZ, zB_lI, zB_lZ, zB_wI, zB_wZ, z_addl, z_ladd, z_mull, z_lmul, nI_add, z_subl, Nat.not_lt_zero, z_10, z_01, z_bitc, z_b0, z_b1, ↓zB_Gb, ↓zB_G0, ↓zB_G1, z_eql, z_leq, z_ltl, z_llt, z_eq, z_lt, z_m1lt, hX.k0, hX.k1, hX.k2, hX.k3, hX.k4, hX.k5, hX.k6, hX.k7, hX.l2, hX.l3, hX.l4, hX.l5, hX.l6, hX.l7, ↓hX.g0_0, ↓hX.g0_1, ↓hX.g0_2, ↓hX.g0_3, ↓hX.g0_4, ↓hX.g0_5, ↓hX.g0_6, ↓hX.g0_7, ↓hX.g0_8, ↓hX.g0_9, ↓hX.g1_0, ↓hX.g1_1, ↓hX.g1_2, ↓hX.g1_3, ↓hX.g1_4, ↓hX.g1_5, ↓zT_r (f158_n hX hT hw.1 ga), zT_r (f158_n hX hT hw.1 ga)]
  rw [if_neg ga]
  obtain ⟨qa, ha, rfl⟩ := (z_in_iff (by omega)).mp (z_not_false ga)
  by_cases gb : z_in b A.1.length = false
  · rw [if_pos gb]
    refine ⟨z_Sx S, m, ?_, z_CR_x h, z_SS.x S, fun _ _ => rfl⟩
    unfold f132 f132_19
    simp (disch := ((try simp only [true_or, or_true, hX.k0, hX.k1, hX.k2, hX.k3, hX.k4, hX.k5, hX.k6, hX.k7, hX.l2, hX.l3, hX.l4, hX.l5, hX.l6, hX.l7]) <;> (try omega))) only [↓reduceIte, ↓z_ite, ↓zR, ↓zB_R, ↓zB_B, ↓zB_ite, ↓zB_gI, ↓zB_pI, ↓zB_pZ, ↓zB_aK, ↓zB_G, ↓zB_lI, ↓zB_lZ, ↓zB_wI, ↓zB_wZ, ↓zB_lIl, ↓zB_wIl, zB_pI, zB_pZ, zB_lI, zB_lZ, zB_wI, zB_wZ, z_addl, z_ladd, z_mull, z_lmul, nI_add, z_subl, Nat.not_lt_zero, z_10, z_01, z_bitc, z_b0, z_b1, ↓zB_Gb, ↓zB_G0, ↓zB_G1, z_eql, z_leq, z_ltl, z_llt, z_eq, z_lt, z_m1lt, hX.k0, hX.k1, hX.k2, hX.k3, hX.k4, hX.k5, hX.k6, hX.k7, hX.l2, hX.l3, hX.l4, hX.l5, hX.l6, hX.l7, ↓hX.g0_0, ↓hX.g0_1, ↓hX.g0_2, ↓hX.g0_3, ↓hX.g0_4, ↓hX.g0_5, ↓hX.g0_6, ↓hX.g0_7, ↓hX.g0_8, ↓hX.g0_9, ↓hX.g1_0, ↓hX.g1_1, ↓hX.g1_2, ↓hX.g1_3, ↓hX.g1_4, ↓hX.g1_5, ↓zT_l (f158_y hX hT hw.1 ha), zT_l (f158_y hX hT hw.1 ha), ↓zT_r (f158_n hX hT hw.1 gb), zT_r (f158_n hX hT hw.1 gb)]
  rw [if_neg gb]
  obtain ⟨qb, hb, rfl⟩ := (z_in_iff (by omega)).mp (z_not_false gb)
  by_cases gk : z_in k 6 = false
  · rw [if_pos gk]
    refine ⟨z_Sx S, m, ?_, z_CR_x h, z_SS.x S, fun _ _ => rfl⟩
    unfold f132 f132_19
    by_cases gneg : k < 0
    · simp (disch := ((try simp only [true_or, or_true, hX.k0, hX.k1, hX.k2, hX.k3, hX.k4, hX.k5, hX.k6, hX.k7, hX.l2, hX.l3, hX.l4, hX.l5, hX.l6, hX.l7]) <;> (try omega))) only [↓reduceIte, ↓z_ite, ↓zR, ↓zB_R, ↓zB_B, ↓zB_ite, ↓zB_gI, ↓zB_pI, ↓zB_pZ, ↓zB_aK, ↓zB_G, ↓zB_lI, ↓zB_lZ, ↓zB_wI, ↓zB_wZ, ↓zB_lIl, ↓zB_wIl, zB_pI, zB_pZ, zB_lI, zB_lZ, zB_wI, zB_wZ, z_addl, z_ladd, z_mull, z_lmul, nI_add, z_subl, Nat.not_lt_zero, z_10, z_01, z_bitc, z_b0, z_b1, ↓zB_Gb, ↓zB_G0, ↓zB_G1, z_eql, z_leq, z_ltl, z_llt, z_eq, z_lt, z_m1lt, hX.k0, hX.k1, hX.k2, hX.k3, hX.k4, hX.k5, hX.k6, hX.k7, hX.l2, hX.l3, hX.l4, hX.l5, hX.l6, hX.l7, ↓hX.g0_0, ↓hX.g0_1, ↓hX.g0_2, ↓hX.g0_3, ↓hX.g0_4, ↓hX.g0_5, ↓hX.g0_6, ↓hX.g0_7, ↓hX.g0_8, ↓hX.g0_9, ↓hX.g1_0, ↓hX.g1_1, ↓hX.g1_2, ↓hX.g1_3, ↓hX.g1_4, ↓hX.g1_5, ↓zT_l (f158_y hX hT hw.1 ha), zT_l (f158_y hX hT hw.1 ha), ↓zT_l (f158_y hX hT hw.1 hb), zT_l (f158_y hX hT hw.1 hb), gneg, z_thw]
    · obtain ⟨j, hj, rfl⟩ := nI_of gneg
      have g2 : 5 < j := Nat.lt_of_not_le (fun g3 => by rw [(z_in_iff (n := 6) (by decide)).mpr ⟨j, by omega, rfl⟩] at gk; cases gk)
      simp (disch := ((try simp only [true_or, or_true, hX.k0, hX.k1, hX.k2, hX.k3, hX.k4, hX.k5, hX.k6, hX.k7, hX.l2, hX.l3, hX.l4, hX.l5, hX.l6, hX.l7]) <;> (try omega))) only [↓reduceIte, ↓z_ite, ↓zR, ↓zB_R, ↓zB_B, ↓zB_ite, ↓zB_gI, ↓zB_pI, ↓zB_pZ, ↓zB_aK, ↓zB_G, ↓zB_lI, ↓zB_lZ, ↓zB_wI, ↓zB_wZ, ↓zB_lIl, ↓zB_wIl, zB_pI, zB_pZ, zB_lI, zB_lZ, zB_wI, zB_wZ, z_addl, z_ladd, z_mull, z_lmul, nI_add, z_subl, Nat.not_lt_zero, z_10, z_01, z_bitc, z_b0, z_b1, ↓zB_Gb, ↓zB_G0, ↓zB_G1, z_eql, z_leq, z_ltl, z_llt, z_eq, z_lt, z_m1lt, hX.k0, hX.k1, hX.k2, hX.k3, hX.k4, hX.k5, hX.k6, hX.k7, hX.l2, hX.l3, hX.l4, hX.l5, hX.l6, hX.l7, ↓hX.g0_0, ↓hX.g0_1, ↓hX.g0_2, ↓hX.g0_3, ↓hX.g0_4, ↓hX.g0_5, ↓hX.g0_6, ↓hX.g0_7, ↓hX.g0_8, ↓hX.g0_9, ↓hX.g1_0, ↓hX.g1_1, ↓hX.g1_2, ↓hX.g1_3, ↓hX.g1_4, ↓hX.g1_5, ↓zT_l (f158_y hX hT hw.1 ha), zT_l (f158_y hX hT hw.1 ha), ↓zT_l (f158_y hX hT hw.1 hb), zT_l (f158_y hX hT hw.1 hb), g2, z_thw]
  rw [if_neg gk]
  obtain ⟨qk, hk, rfl⟩ := (z_in_iff (by decide)).mp (z_not_false gk)
  rw [nI_clamp (show qa < 2 ^ 31 by omega)]
  rw [nI_clamp (show qb < 2 ^ 31 by omega)]
  by_cases g0 : nI qk = 0
  · rw [if_pos g0]
    have g0n : qk = 0 := (nI_eq (by omega) (by decide)).mp g0
    subst g0n
    have ht : z_tn ((9, 0, 0), qa, qb, 0) = 2 := by show z_pn 9 0 = 2; decide
    refine z_c_nd hw h hX hT (t := ((9, 0, 0), qa, qb, 0)) (K := 9) (V := 0) (A0 := (nI qa)) (A1 := (nI qb)) (A2 := (-1)) rfl rfl (fun g m1 e => ?_) (fun g => ?_) (by rw [ht]; decide) (fun q hq => ?_) (by rw [ht]; rfl) (by rw [ht]; rfl) (by rw [ht]; rfl)
    · unfold f132 f132_19
      simp (disch := ((try simp only [true_or, or_true, hX.k0, hX.k1, hX.k2, hX.k3, hX.k4, hX.k5, hX.k6, hX.k7, hX.l2, hX.l3, hX.l4, hX.l5, hX.l6, hX.l7]) <;> (try omega))) only [↓reduceIte, ↓z_ite, ↓zR, ↓zB_R, ↓zB_B, ↓zB_ite, ↓zB_gI, ↓zB_pI, ↓zB_pZ, ↓zB_aK, ↓zB_G, ↓zB_lI, ↓zB_lZ, ↓zB_wI, ↓zB_wZ, ↓zB_lIl, ↓zB_wIl, zB_pI, zB_pZ, zB_lI, zB_lZ, zB_wI, zB_wZ, z_addl, z_ladd, z_mull, z_lmul, nI_add, z_subl, Nat.not_lt_zero, z_10, z_01, z_bitc, z_b0, z_b1, ↓zB_Gb, ↓zB_G0, ↓zB_G1, z_eql, z_leq, z_ltl, z_llt, z_eq, z_lt, z_m1lt, hX.k0, hX.k1, hX.k2, hX.k3, hX.k4, hX.k5, hX.k6, hX.k7, hX.l2, hX.l3, hX.l4, hX.l5, hX.l6, hX.l7, ↓hX.g0_0, ↓hX.g0_1, ↓hX.g0_2, ↓hX.g0_3, ↓hX.g0_4, ↓hX.g0_5, ↓hX.g0_6, ↓hX.g0_7, ↓hX.g0_8, ↓hX.g0_9, ↓hX.g1_0, ↓hX.g1_1, ↓hX.g1_2, ↓hX.g1_3, ↓hX.g1_4, ↓hX.g1_5, ↓zT_l (f158_y hX hT hw.1 ha), zT_l (f158_y hX hT hw.1 ha), ↓zT_l (f158_y hX hT hw.1 hb), zT_l (f158_y hX hT hw.1 hb), ↓zT_l (f157_y hX hT g), zT_l (f157_y hX hT g), ↓zB_c e, zB_c e, show ¬ (5 : Nat) < 0 by decide]
    · unfold f132 f132_19
      simp (disch := ((try simp only [true_or, or_true, hX.k0, hX.k1, hX.k2, hX.k3, hX.k4, hX.k5, hX.k6, hX.k7, hX.l2, hX.l3, hX.l4, hX.l5, hX.l6, hX.l7]) <;> (try omega))) only [↓reduceIte, ↓z_ite, ↓zR, ↓zB_R, ↓zB_B, ↓zB_ite, ↓zB_gI, ↓zB_pI, ↓zB_pZ, ↓zB_aK, ↓zB_G, ↓zB_lI, ↓zB_lZ, ↓zB_wI, ↓zB_wZ, ↓zB_lIl, ↓zB_wIl, zB_pI, zB_pZ, zB_lI, zB_lZ, zB_wI, zB_wZ, z_addl, z_ladd, z_mull, z_lmul, nI_add, z_subl, Nat.not_lt_zero, z_10, z_01, z_bitc, z_b0, z_b1, ↓zB_Gb, ↓zB_G0, ↓zB_G1, z_eql, z_leq, z_ltl, z_llt, z_eq, z_lt, z_m1lt, hX.k0, hX.k1, hX.k2, hX.k3, hX.k4, hX.k5, hX.k6, hX.k7, hX.l2, hX.l3, hX.l4, hX.l5, hX.l6, hX.l7, ↓hX.g0_0, ↓hX.g0_1, ↓hX.g0_2, ↓hX.g0_3, ↓hX.g0_4, ↓hX.g0_5, ↓hX.g0_6, ↓hX.g0_7, ↓hX.g0_8, ↓hX.g0_9, ↓hX.g1_0, ↓hX.g1_1, ↓hX.g1_2, ↓hX.g1_3, ↓hX.g1_4, ↓hX.g1_5, ↓zT_l (f158_y hX hT hw.1 ha), zT_l (f158_y hX hT hw.1 ha), ↓zT_l (f158_y hX hT hw.1 hb), zT_l (f158_y hX hT hw.1 hb), ↓zT_r (f157_n hX hT g), zT_r (f157_n hX hT g), show ¬ (5 : Nat) < 0 by decide]
    · rw [ht] at hq
      have : q = 0 ∨ q = 1 := by omega
      rcases this with g | g <;> subst g
      · show qa < A.1.length; omega
      · show qb < A.1.length; omega
  rw [if_neg g0]
  have g0n : ¬ qk = 0 := fun g => g0 (by rw [g]; rfl)
  by_cases g1 : nI qk = 1
  · rw [if_pos g1]
    have g1n : qk = 1 := (nI_eq (by omega) (by decide)).mp g1
    subst g1n
    have ht : z_tn ((13, 0, 0), qa, qb, 0) = 2 := by show z_pn 13 0 = 2; decide
    refine z_c_nd hw h hX hT (t := ((13, 0, 0), qa, qb, 0)) (K := 13) (V := 0) (A0 := (nI qa)) (A1 := (nI qb)) (A2 := (-1)) rfl rfl (fun g m1 e => ?_) (fun g => ?_) (by rw [ht]; decide) (fun q hq => ?_) (by rw [ht]; rfl) (by rw [ht]; rfl) (by rw [ht]; rfl)
    · unfold f132 f132_19
      simp (disch := ((try simp only [true_or, or_true, hX.k0, hX.k1, hX.k2, hX.k3, hX.k4, hX.k5, hX.k6, hX.k7, hX.l2, hX.l3, hX.l4, hX.l5, hX.l6, hX.l7]) <;> (try omega))) only [↓reduceIte, ↓z_ite, ↓zR, ↓zB_R, ↓zB_B, ↓zB_ite, ↓zB_gI, ↓zB_pI, ↓zB_pZ, ↓zB_aK, ↓zB_G, ↓zB_lI, ↓zB_lZ, ↓zB_wI, ↓zB_wZ, ↓zB_lIl, ↓zB_wIl, zB_pI, zB_pZ, zB_lI, zB_lZ, zB_wI, zB_wZ, z_addl, z_ladd, z_mull, z_lmul, nI_add, z_subl, Nat.not_lt_zero, z_10, z_01, z_bitc, z_b0, z_b1, ↓zB_Gb, ↓zB_G0, ↓zB_G1, z_eql, z_leq, z_ltl, z_llt, z_eq, z_lt, z_m1lt, hX.k0, hX.k1, hX.k2, hX.k3, hX.k4, hX.k5, hX.k6, hX.k7, hX.l2, hX.l3, hX.l4, hX.l5, hX.l6, hX.l7, ↓hX.g0_0, ↓hX.g0_1, ↓hX.g0_2, ↓hX.g0_3, ↓hX.g0_4, ↓hX.g0_5, ↓hX.g0_6, ↓hX.g0_7, ↓hX.g0_8, ↓hX.g0_9, ↓hX.g1_0, ↓hX.g1_1, ↓hX.g1_2, ↓hX.g1_3, ↓hX.g1_4, ↓hX.g1_5, ↓zT_l (f158_y hX hT hw.1 ha), zT_l (f158_y hX hT hw.1 ha), ↓zT_l (f158_y hX hT hw.1 hb), zT_l (f158_y hX hT hw.1 hb), ↓zT_l (f157_y hX hT g), zT_l (f157_y hX hT g), ↓zB_c e, zB_c e, show ¬ (5 : Nat) < 1 by decide, show ¬ (1 : Nat) = 0 by decide]
    · unfold f132 f132_19
      simp (disch := ((try simp only [true_or, or_true, hX.k0, hX.k1, hX.k2, hX.k3, hX.k4, hX.k5, hX.k6, hX.k7, hX.l2, hX.l3, hX.l4, hX.l5, hX.l6, hX.l7]) <;> (try omega))) only [↓reduceIte, ↓z_ite, ↓zR, ↓zB_R, ↓zB_B, ↓zB_ite, ↓zB_gI, ↓zB_pI, ↓zB_pZ, ↓zB_aK, ↓zB_G, ↓zB_lI, ↓zB_lZ, ↓zB_wI, ↓zB_wZ, ↓zB_lIl, ↓zB_wIl, zB_pI, zB_pZ, zB_lI, zB_lZ, zB_wI, zB_wZ, z_addl, z_ladd, z_mull, z_lmul, nI_add, z_subl, Nat.not_lt_zero, z_10, z_01, z_bitc, z_b0, z_b1, ↓zB_Gb, ↓zB_G0, ↓zB_G1, z_eql, z_leq, z_ltl, z_llt, z_eq, z_lt, z_m1lt, hX.k0, hX.k1, hX.k2, hX.k3, hX.k4, hX.k5, hX.k6, hX.k7, hX.l2, hX.l3, hX.l4, hX.l5, hX.l6, hX.l7, ↓hX.g0_0, ↓hX.g0_1, ↓hX.g0_2, ↓hX.g0_3, ↓hX.g0_4, ↓hX.g0_5, ↓hX.g0_6, ↓hX.g0_7, ↓hX.g0_8, ↓hX.g0_9, ↓hX.g1_0, ↓hX.g1_1, ↓hX.g1_2, ↓hX.g1_3, ↓hX.g1_4, ↓hX.g1_5, ↓zT_l (f158_y hX hT hw.1 ha), zT_l (f158_y hX hT hw.1 ha), ↓zT_l (f158_y hX hT hw.1 hb), zT_l (f158_y hX hT hw.1 hb), ↓zT_r (f157_n hX hT g), zT_r (f157_n hX hT g), show ¬ (5 : Nat) < 1 by decide, show ¬ (1 : Nat) = 0 by decide]
    · rw [ht] at hq
      have : q = 0 ∨ q = 1 := by omega
      rcases this with g | g <;> subst g
      · show qa < A.1.length; omega
      · show qb < A.1.length; omega
  rw [if_neg g1]
  have g1n : ¬ qk = 1 := fun g => g1 (by rw [g]; rfl)
  have e2 : nI qk - 2 = nI (qk - 2) := pk_sub (b := 2) (by omega)
  have ht : z_tn ((11, nI qk - 2, 0), qa, qb, 0) = 2 := by show z_pn 11 0 = 2; decide
  refine z_c_nd hw h hX hT (t := ((11, nI qk - 2, 0), qa, qb, 0)) (K := 11) (V := nI qk - 2) (A0 := (nI qa)) (A1 := (nI qb)) (A2 := (-1)) rfl rfl (fun g m1 e => ?_) (fun g => ?_) (by rw [ht]; decide) (fun q hq => ?_) (by rw [ht]; rfl) (by rw [ht]; rfl) (by rw [ht]; rfl)
  · unfold f132 f132_19
    simp (disch := ((try simp only [true_or, or_true, hX.k0, hX.k1, hX.k2, hX.k3, hX.k4, hX.k5, hX.k6, hX.k7, hX.l2, hX.l3, hX.l4, hX.l5, hX.l6, hX.l7]) <;> (try omega))) only [↓reduceIte, ↓z_ite, ↓zR, ↓zB_R, ↓zB_B, ↓zB_ite, ↓zB_gI, ↓zB_pI, ↓zB_pZ, ↓zB_aK, ↓zB_G, ↓zB_lI, ↓zB_lZ, ↓zB_wI, ↓zB_wZ, ↓zB_lIl, ↓zB_wIl, zB_pI, zB_pZ, zB_lI, zB_lZ, zB_wI, zB_wZ, z_addl, z_ladd, z_mull, z_lmul, nI_add, z_subl, Nat.not_lt_zero, z_10, z_01, z_bitc, z_b0, z_b1, ↓zB_Gb, ↓zB_G0, ↓zB_G1, z_eql, z_leq, z_ltl, z_llt, z_eq, z_lt, z_m1lt, hX.k0, hX.k1, hX.k2, hX.k3, hX.k4, hX.k5, hX.k6, hX.k7, hX.l2, hX.l3, hX.l4, hX.l5, hX.l6, hX.l7, ↓hX.g0_0, ↓hX.g0_1, ↓hX.g0_2, ↓hX.g0_3, ↓hX.g0_4, ↓hX.g0_5, ↓hX.g0_6, ↓hX.g0_7, ↓hX.g0_8, ↓hX.g0_9, ↓hX.g1_0, ↓hX.g1_1, ↓hX.g1_2, ↓hX.g1_3, ↓hX.g1_4, ↓hX.g1_5, ↓zT_l (f158_y hX hT hw.1 ha), zT_l (f158_y hX hT hw.1 ha), ↓zT_l (f158_y hX hT hw.1 hb), zT_l (f158_y hX hT hw.1 hb), ↓zT_l (f157_y hX hT g), zT_l (f157_y hX hT g), ↓zB_c e, zB_c e, show ¬ 5 < qk by omega, g0n, g1n, e2]
  · unfold f132 f132_19
    simp (disch := ((try simp only [true_or, or_true, hX.k0, hX.k1, hX.k2, hX.k3, hX.k4, hX.k5, hX.k6, hX.k7, hX.l2, hX.l3, hX.l4, hX.l5, hX.l6, hX.l7]) <;> (try omega))) only [↓reduceIte, ↓z_ite, ↓zR, ↓zB_R, ↓zB_B, ↓zB_ite, ↓zB_gI, ↓zB_pI, ↓zB_pZ, ↓zB_aK, ↓zB_G, ↓zB_lI, ↓zB_lZ, ↓zB_wI, ↓zB_wZ, ↓zB_lIl, ↓zB_wIl, zB_pI, zB_pZ, zB_lI, zB_lZ, zB_wI, zB_wZ, z_addl, z_ladd, z_mull, z_lmul, nI_add, z_subl, Nat.not_lt_zero, z_10, z_01, z_bitc, z_b0, z_b1, ↓zB_Gb, ↓zB_G0, ↓zB_G1, z_eql, z_leq, z_ltl, z_llt, z_eq, z_lt, z_m1lt, hX.k0, hX.k1, hX.k2, hX.k3, hX.k4, hX.k5, hX.k6, hX.k7, hX.l2, hX.l3, hX.l4, hX.l5, hX.l6, hX.l7, ↓hX.g0_0, ↓hX.g0_1, ↓hX.g0_2, ↓hX.g0_3, ↓hX.g0_4, ↓hX.g0_5, ↓hX.g0_6, ↓hX.g0_7, ↓hX.g0_8, ↓hX.g0_9, ↓hX.g1_0, ↓hX.g1_1, ↓hX.g1_2, ↓hX.g1_3, ↓hX.g1_4, ↓hX.g1_5, ↓zT_l (f158_y hX hT hw.1 ha), zT_l (f158_y hX hT hw.1 ha), ↓zT_l (f158_y hX hT hw.1 hb), zT_l (f158_y hX hT hw.1 hb), ↓zT_r (f157_n hX hT g), zT_r (f157_n hX hT g), show ¬ 5 < qk by omega, g0n, g1n, e2]
  · rw [ht] at hq
    have : q = 0 ∨ q = 1 := by omega
    rcases this with g | g <;> subst g
    · show qa < A.1.length; omega
    · show qb < A.1.length; omega
theorem c_test (hw : z_WA A) (h : z_CR S m A) (c : Int32) (s : Int32) (d : Int32) : ∃ S1 m1, f133 0 c s d (z_hp S m) = some ((z_otest A c s d).1, z_hp S1 m1) ∧ z_CR S1 m1 (z_otest A c s d).2 ∧ z_SS S S1 ∧ ∀ a, 2390 ≤ a → m1 a = m a := by
  have h0 := h
  obtain ⟨sn, sx, sp, hI, hCM⟩ := h0
  have hX := hI.1
  have hT := hCM.2.1
  have hl := hw.1.1
  unfold z_otest
  by_cases gc : z_in c A.1.length = false
  · rw [if_pos gc]
    refine ⟨z_Sx S, m, ?_, z_CR_x h, z_SS.x S, fun _ _ => rfl⟩
    unfold f133
    simp (disch := ((try simp only [true_or, or_true, hX.k0, hX.k1, hX.k2, hX.k3, hX.k4, hX.k5, hX.k6, hX.k7, hX.l2, hX.l3, hX.l4, hX.l5, hX.l6, hX.l7]) <;> (try omega))) only [↓reduceIte, ↓z_ite, ↓zR, ↓zB_R, ↓zB_B, ↓zB_ite, ↓zB_gI, ↓zB_pI, ↓zB_pZ, ↓zB_aK, ↓zB_G, ↓zB_lI, ↓zB_lZ, ↓zB_wI, ↓zB_wZ, ↓zB_lIl, ↓zB_wIl, zB_pI, zB_pZ, zB_lI, zB_lZ, zB_wI, zB_wZ, z_addl, z_ladd, z_mull, z_lmul, nI_add, z_subl, Nat.not_lt_zero, z_10, z_01, z_bitc, z_b0, z_b1, ↓zB_Gb, ↓zB_G0, ↓zB_G1, z_eql, z_leq, z_ltl, z_llt, z_eq, z_lt, z_m1lt, hX.k0, hX.k1, hX.k2, hX.k3, hX.k4, hX.k5, hX.k6, hX.k7, hX.l2, hX.l3, hX.l4, hX.l5, hX.l6, hX.l7, ↓hX.g0_0, ↓hX.g0_1, ↓hX.g0_2, ↓hX.g0_3, ↓hX.g0_4, ↓hX.g0_5, ↓hX.g0_6, ↓hX.g0_7, ↓hX.g0_8, ↓hX.g0_9, ↓hX.g1_0, ↓hX.g1_1, ↓hX.g1_2, ↓hX.g1_3, ↓hX.g1_4, ↓hX.g1_5, ↓zT_r (f158_n hX hT hw.1 gc), zT_r (f158_n hX hT hw.1 gc)]
  rw [if_neg gc]
  obtain ⟨qc, hc, rfl⟩ := (z_in_iff (by omega)).mp (z_not_false gc)
  by_cases gs : z_in s A.1.length = false
  · rw [if_pos gs]
    refine ⟨z_Sx S, m, ?_, z_CR_x h, z_SS.x S, fun _ _ => rfl⟩
    unfold f133
    simp (disch := ((try simp only [true_or, or_true, hX.k0, hX.k1, hX.k2, hX.k3, hX.k4, hX.k5, hX.k6, hX.k7, hX.l2, hX.l3, hX.l4, hX.l5, hX.l6, hX.l7]) <;> (try omega))) only [↓reduceIte, ↓z_ite, ↓zR, ↓zB_R, ↓zB_B, ↓zB_ite, ↓zB_gI, ↓zB_pI, ↓zB_pZ, ↓zB_aK, ↓zB_G, ↓zB_lI, ↓zB_lZ, ↓zB_wI, ↓zB_wZ, ↓zB_lIl, ↓zB_wIl, zB_pI, zB_pZ, zB_lI, zB_lZ, zB_wI, zB_wZ, z_addl, z_ladd, z_mull, z_lmul, nI_add, z_subl, Nat.not_lt_zero, z_10, z_01, z_bitc, z_b0, z_b1, ↓zB_Gb, ↓zB_G0, ↓zB_G1, z_eql, z_leq, z_ltl, z_llt, z_eq, z_lt, z_m1lt, hX.k0, hX.k1, hX.k2, hX.k3, hX.k4, hX.k5, hX.k6, hX.k7, hX.l2, hX.l3, hX.l4, hX.l5, hX.l6, hX.l7, ↓hX.g0_0, ↓hX.g0_1, ↓hX.g0_2, ↓hX.g0_3, ↓hX.g0_4, ↓hX.g0_5, ↓hX.g0_6, ↓hX.g0_7, ↓hX.g0_8, ↓hX.g0_9, ↓hX.g1_0, ↓hX.g1_1, ↓hX.g1_2, ↓hX.g1_3, ↓hX.g1_4, ↓hX.g1_5, ↓zT_l (f158_y hX hT hw.1 hc), zT_l (f158_y hX hT hw.1 hc), ↓zT_r (f158_n hX hT hw.1 gs), zT_r (f158_n hX hT hw.1 gs)]
  rw [if_neg gs]
  obtain ⟨qs, hs, rfl⟩ := (z_in_iff (by omega)).mp (z_not_false gs)
  by_cases gd : z_in d A.1.length = false
  · rw [if_pos gd]
    refine ⟨z_Sx S, m, ?_, z_CR_x h, z_SS.x S, fun _ _ => rfl⟩
    unfold f133
    simp (disch := ((try simp only [true_or, or_true, hX.k0, hX.k1, hX.k2, hX.k3, hX.k4, hX.k5, hX.k6, hX.k7, hX.l2, hX.l3, hX.l4, hX.l5, hX.l6, hX.l7]) <;> (try omega))) only [↓reduceIte, ↓z_ite, ↓zR, ↓zB_R, ↓zB_B, ↓zB_ite, ↓zB_gI, ↓zB_pI, ↓zB_pZ, ↓zB_aK, ↓zB_G, ↓zB_lI, ↓zB_lZ, ↓zB_wI, ↓zB_wZ, ↓zB_lIl, ↓zB_wIl, zB_pI, zB_pZ, zB_lI, zB_lZ, zB_wI, zB_wZ, z_addl, z_ladd, z_mull, z_lmul, nI_add, z_subl, Nat.not_lt_zero, z_10, z_01, z_bitc, z_b0, z_b1, ↓zB_Gb, ↓zB_G0, ↓zB_G1, z_eql, z_leq, z_ltl, z_llt, z_eq, z_lt, z_m1lt, hX.k0, hX.k1, hX.k2, hX.k3, hX.k4, hX.k5, hX.k6, hX.k7, hX.l2, hX.l3, hX.l4, hX.l5, hX.l6, hX.l7, ↓hX.g0_0, ↓hX.g0_1, ↓hX.g0_2, ↓hX.g0_3, ↓hX.g0_4, ↓hX.g0_5, ↓hX.g0_6, ↓hX.g0_7, ↓hX.g0_8, ↓hX.g0_9, ↓hX.g1_0, ↓hX.g1_1, ↓hX.g1_2, ↓hX.g1_3, ↓hX.g1_4, ↓hX.g1_5, ↓zT_l (f158_y hX hT hw.1 hc), zT_l (f158_y hX hT hw.1 hc), ↓zT_l (f158_y hX hT hw.1 hs), zT_l (f158_y hX hT hw.1 hs), ↓zT_r (f158_n hX hT hw.1 gd), zT_r (f158_n hX hT hw.1 gd)]
  rw [if_neg gd]
  obtain ⟨qd, hd, rfl⟩ := (z_in_iff (by omega)).mp (z_not_false gd)
  rw [nI_clamp (show qc < 2 ^ 31 by omega)]
  rw [nI_clamp (show qs < 2 ^ 31 by omega)]
  rw [nI_clamp (show qd < 2 ^ 31 by omega)]
  have ht : z_tn ((10, 0, 0), qc, qs, qd) = 3 := by show z_pn 10 0 = 3; decide
  refine z_c_nd hw h hX hT (t := ((10, 0, 0), qc, qs, qd)) (K := 10) (V := 0) (A0 := (nI qc)) (A1 := (nI qs)) (A2 := (nI qd)) rfl rfl (fun g m1 e => ?_) (fun g => ?_) (by rw [ht]; decide) (fun q hq => ?_) (by rw [ht]; rfl) (by rw [ht]; rfl) (by rw [ht]; rfl)
  · unfold f133
    simp (disch := ((try simp only [true_or, or_true, hX.k0, hX.k1, hX.k2, hX.k3, hX.k4, hX.k5, hX.k6, hX.k7, hX.l2, hX.l3, hX.l4, hX.l5, hX.l6, hX.l7]) <;> (try omega))) only [↓reduceIte, ↓z_ite, ↓zR, ↓zB_R, ↓zB_B, ↓zB_ite, ↓zB_gI, ↓zB_pI, ↓zB_pZ, ↓zB_aK, ↓zB_G, ↓zB_lI, ↓zB_lZ, ↓zB_wI, ↓zB_wZ, ↓zB_lIl, ↓zB_wIl, zB_pI, zB_pZ, zB_lI, zB_lZ, zB_wI, zB_wZ, z_addl, z_ladd, z_mull, z_lmul, nI_add, z_subl, Nat.not_lt_zero, z_10, z_01, z_bitc, z_b0, z_b1, ↓zB_Gb, ↓zB_G0, ↓zB_G1, z_eql, z_leq, z_ltl, z_llt, z_eq, z_lt, z_m1lt, hX.k0, hX.k1, hX.k2, hX.k3, hX.k4, hX.k5, hX.k6, hX.k7, hX.l2, hX.l3, hX.l4, hX.l5, hX.l6, hX.l7, ↓hX.g0_0, ↓hX.g0_1, ↓hX.g0_2, ↓hX.g0_3, ↓hX.g0_4, ↓hX.g0_5, ↓hX.g0_6, ↓hX.g0_7, ↓hX.g0_8, ↓hX.g0_9, ↓hX.g1_0, ↓hX.g1_1, ↓hX.g1_2, ↓hX.g1_3, ↓hX.g1_4, ↓hX.g1_5, ↓zT_l (f158_y hX hT hw.1 hc), zT_l (f158_y hX hT hw.1 hc), ↓zT_l (f158_y hX hT hw.1 hs), zT_l (f158_y hX hT hw.1 hs), ↓zT_l (f158_y hX hT hw.1 hd), zT_l (f158_y hX hT hw.1 hd), ↓zT_l (f157_y hX hT g), zT_l (f157_y hX hT g), ↓zB_c e, zB_c e]
  · unfold f133
    simp (disch := ((try simp only [true_or, or_true, hX.k0, hX.k1, hX.k2, hX.k3, hX.k4, hX.k5, hX.k6, hX.k7, hX.l2, hX.l3, hX.l4, hX.l5, hX.l6, hX.l7]) <;> (try omega))) only [↓reduceIte, ↓z_ite, ↓zR, ↓zB_R, ↓zB_B, ↓zB_ite, ↓zB_gI, ↓zB_pI, ↓zB_pZ, ↓zB_aK, ↓zB_G, ↓zB_lI, ↓zB_lZ, ↓zB_wI, ↓zB_wZ, ↓zB_lIl, ↓zB_wIl, zB_pI, zB_pZ, zB_lI, zB_lZ, zB_wI, zB_wZ, z_addl, z_ladd, z_mull, z_lmul, nI_add, z_subl, Nat.not_lt_zero, z_10, z_01, z_bitc, z_b0, z_b1, ↓zB_Gb, ↓zB_G0, ↓zB_G1, z_eql, z_leq, z_ltl, z_llt, z_eq, z_lt, z_m1lt, hX.k0, hX.k1, hX.k2, hX.k3, hX.k4, hX.k5, hX.k6, hX.k7, hX.l2, hX.l3, hX.l4, hX.l5, hX.l6, hX.l7, ↓hX.g0_0, ↓hX.g0_1, ↓hX.g0_2, ↓hX.g0_3, ↓hX.g0_4, ↓hX.g0_5, ↓hX.g0_6, ↓hX.g0_7, ↓hX.g0_8, ↓hX.g0_9, ↓hX.g1_0, ↓hX.g1_1, ↓hX.g1_2, ↓hX.g1_3, ↓hX.g1_4, ↓hX.g1_5, ↓zT_l (f158_y hX hT hw.1 hc), zT_l (f158_y hX hT hw.1 hc), ↓zT_l (f158_y hX hT hw.1 hs), zT_l (f158_y hX hT hw.1 hs), ↓zT_l (f158_y hX hT hw.1 hd), zT_l (f158_y hX hT hw.1 hd), ↓zT_r (f157_n hX hT g), zT_r (f157_n hX hT g)]
  · rw [ht] at hq
    have : q = 0 ∨ q = 1 ∨ q = 2 := by omega
    rcases this with g | g | g <;> subst g
    · show qc < A.1.length; omega
    · show qs < A.1.length; omega
    · show qd < A.1.length; omega
theorem c_raise (hw : z_WA A) (h : z_CR S m A) (a : Int32) : ∃ S1 m1, f134 0 a (z_hp S m) = some ((z_oraise A a).1, z_hp S1 m1) ∧ z_CR S1 m1 (z_oraise A a).2 ∧ z_SS S S1 ∧ ∀ a, 2390 ≤ a → m1 a = m a := by
  have h0 := h
  obtain ⟨sn, sx, sp, hI, hCM⟩ := h0
  have hX := hI.1
  have hT := hCM.2.1
  have hl := hw.1.1
  unfold z_oraise
  by_cases ga : z_in a A.1.length = false
  · rw [if_pos ga]
    refine ⟨z_Sx S, m, ?_, z_CR_x h, z_SS.x S, fun _ _ => rfl⟩
    unfold f134
    simp (disch := ((try simp only [true_or, or_true, hX.k0, hX.k1, hX.k2, hX.k3, hX.k4, hX.k5, hX.k6, hX.k7, hX.l2, hX.l3, hX.l4, hX.l5, hX.l6, hX.l7]) <;> (try omega))) only [↓reduceIte, ↓z_ite, ↓zR, ↓zB_R, ↓zB_B, ↓zB_ite, ↓zB_gI, ↓zB_pI, ↓zB_pZ, ↓zB_aK, ↓zB_G, ↓zB_lI, ↓zB_lZ, ↓zB_wI, ↓zB_wZ, ↓zB_lIl, ↓zB_wIl, zB_pI, zB_pZ, zB_lI, zB_lZ, zB_wI, zB_wZ, z_addl, z_ladd, z_mull, z_lmul, nI_add, z_subl, Nat.not_lt_zero, z_10, z_01, z_bitc, z_b0, z_b1, ↓zB_Gb, ↓zB_G0, ↓zB_G1, z_eql, z_leq, z_ltl, z_llt, z_eq, z_lt, z_m1lt, hX.k0, hX.k1, hX.k2, hX.k3, hX.k4, hX.k5, hX.k6, hX.k7, hX.l2, hX.l3, hX.l4, hX.l5, hX.l6, hX.l7, ↓hX.g0_0, ↓hX.g0_1, ↓hX.g0_2, ↓hX.g0_3, ↓hX.g0_4, ↓hX.g0_5, ↓hX.g0_6, ↓hX.g0_7, ↓hX.g0_8, ↓hX.g0_9, ↓hX.g1_0, ↓hX.g1_1, ↓hX.g1_2, ↓hX.g1_3, ↓hX.g1_4, ↓hX.g1_5, ↓zT_r (f158_n hX hT hw.1 ga), zT_r (f158_n hX hT hw.1 ga)]
  rw [if_neg ga]
  obtain ⟨qa, ha, rfl⟩ := (z_in_iff (by omega)).mp (z_not_false ga)
  rw [nI_clamp (show qa < 2 ^ 31 by omega)]
  have ht : z_tn ((12, 0, 0), qa, 0, 0) = 1 := by show z_pn 12 0 = 1; decide
  refine z_c_nd hw h hX hT (t := ((12, 0, 0), qa, 0, 0)) (K := 12) (V := 0) (A0 := (nI qa)) (A1 := (-1)) (A2 := (-1)) rfl rfl (fun g m1 e => ?_) (fun g => ?_) (by rw [ht]; decide) (fun q hq => ?_) (by rw [ht]; rfl) (by rw [ht]; rfl) (by rw [ht]; rfl)
  · unfold f134
    simp (disch := ((try simp only [true_or, or_true, hX.k0, hX.k1, hX.k2, hX.k3, hX.k4, hX.k5, hX.k6, hX.k7, hX.l2, hX.l3, hX.l4, hX.l5, hX.l6, hX.l7]) <;> (try omega))) only [↓reduceIte, ↓z_ite, ↓zR, ↓zB_R, ↓zB_B, ↓zB_ite, ↓zB_gI, ↓zB_pI, ↓zB_pZ, ↓zB_aK, ↓zB_G, ↓zB_lI, ↓zB_lZ, ↓zB_wI, ↓zB_wZ, ↓zB_lIl, ↓zB_wIl, zB_pI, zB_pZ, zB_lI, zB_lZ, zB_wI, zB_wZ, z_addl, z_ladd, z_mull, z_lmul, nI_add, z_subl, Nat.not_lt_zero, z_10, z_01, z_bitc, z_b0, z_b1, ↓zB_Gb, ↓zB_G0, ↓zB_G1, z_eql, z_leq, z_ltl, z_llt, z_eq, z_lt, z_m1lt, hX.k0, hX.k1, hX.k2, hX.k3, hX.k4, hX.k5, hX.k6, hX.k7, hX.l2, hX.l3, hX.l4, hX.l5, hX.l6, hX.l7, ↓hX.g0_0, ↓hX.g0_1, ↓hX.g0_2, ↓hX.g0_3, ↓hX.g0_4, ↓hX.g0_5, ↓hX.g0_6, ↓hX.g0_7, ↓hX.g0_8, ↓hX.g0_9, ↓hX.g1_0, ↓hX.g1_1, ↓hX.g1_2, ↓hX.g1_3, ↓hX.g1_4, ↓hX.g1_5, ↓zT_l (f158_y hX hT hw.1 ha), zT_l (f158_y hX hT hw.1 ha), ↓zT_l (f157_y hX hT g), zT_l (f157_y hX hT g), ↓zB_c e, zB_c e]
  · unfold f134
    simp (disch := ((try simp only [true_or, or_true, hX.k0, hX.k1, hX.k2, hX.k3, hX.k4, hX.k5, hX.k6, hX.k7, hX.l2, hX.l3, hX.l4, hX.l5, hX.l6, hX.l7]) <;> (try omega))) only [↓reduceIte, ↓z_ite, ↓zR, ↓zB_R, ↓zB_B, ↓zB_ite, ↓zB_gI, ↓zB_pI, ↓zB_pZ, ↓zB_aK, ↓zB_G, ↓zB_lI, ↓zB_lZ, ↓zB_wI, ↓zB_wZ, ↓zB_lIl, ↓zB_wIl, zB_pI, zB_pZ, zB_lI, zB_lZ, zB_wI, zB_wZ, z_addl, z_ladd, z_mull, z_lmul, nI_add, z_subl, Nat.not_lt_zero, z_10, z_01, z_bitc, z_b0, z_b1, ↓zB_Gb, ↓zB_G0, ↓zB_G1, z_eql, z_leq, z_ltl, z_llt, z_eq, z_lt, z_m1lt, hX.k0, hX.k1, hX.k2, hX.k3, hX.k4, hX.k5, hX.k6, hX.k7, hX.l2, hX.l3, hX.l4, hX.l5, hX.l6, hX.l7, ↓hX.g0_0, ↓hX.g0_1, ↓hX.g0_2, ↓hX.g0_3, ↓hX.g0_4, ↓hX.g0_5, ↓hX.g0_6, ↓hX.g0_7, ↓hX.g0_8, ↓hX.g0_9, ↓hX.g1_0, ↓hX.g1_1, ↓hX.g1_2, ↓hX.g1_3, ↓hX.g1_4, ↓hX.g1_5, ↓zT_l (f158_y hX hT hw.1 ha), zT_l (f158_y hX hT hw.1 ha), ↓zT_r (f157_n hX hT g), zT_r (f157_n hX hT g)]
  · rw [ht] at hq
    have : q = 0 := by omega
    subst this
    · show qa < A.1.length; omega
end
