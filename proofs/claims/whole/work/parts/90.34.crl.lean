-- deps: 90.33.mrf
/-! a local renamed: the class -/
/-- a local or a place of a method -/
def z_vpl (P : z_Pg) (k : Nat) (x : Int32) : Prop := (x = -1 ∧ 0 < z_cnt P k) ∨ (x = -2 ∧ 1 < z_cnt P k) ∨ ∃ i, i < (z_bd P k).length ∧ x = nI i
/-- where the b of a local begins and ends -/
def z_rls (P : z_Pg) (k : Nat) (x : Int32) : Nat := if x < 0 then 0 else z_pt (z_bd P k) x.toNatClampNeg 1
def z_rle (P : z_Pg) (k : Nat) (x : Int32) : Nat := if x < 0 then (z_bd P k).length else z_en (z_bd P k) x.toNatClampNeg
def z_rlw (P : z_Pg) (k : Nat) (x : Int32) (i : Nat) : Bool := decide (z_rls P k x ≤ i) && decide (i < z_rle P k x)
noncomputable def z_rlb (P : z_Pg) (k : Nat) (x : Int32) (i : Nat) : Bool := z_isBL (z_bd P k) (z_Bd P k) i x
/-- would be bound to another one -/
noncomputable def z_rlc (P : z_Pg) (k : Nat) (x name : Int32) (i : Nat) : Bool := if z_rlb P k x i = true then (match z_le (z_bd P k) i name with
  | some j => decide (x < nI j)
  | none => false) else (!decide (x < 0) && (z_isO (z_bd P k) (z_Bd P k) i x && z_v (z_bd P k) i == name))
noncomputable def z_rlg (P : z_Pg) (k : Nat) (x name : Int32) (i : Nat) : List z_N := if nI i = x ∨ z_rlb P k x i = true then [(z_k (z_bd P k) i, name, z_a (z_bd P k) i)] else if (z_rlw P k x i && (z_isF (z_bd P k) (z_Bd P k) i && z_v (z_bd P k) i == name)) = true then z_pln (z_k (z_bd P k) i) name else [z_at (z_bd P k) i]
noncomputable def z_rlD (P : z_Pg) (k : Nat) (x name : Int32) : List z_N := z_cat (z_rlg P k x name) (z_bd P k).length
noncomputable def z_rlR (P : z_Pg) (k : Nat) (x name : Int32) : Int32 :=
  if ¬ x < 0 ∧ z_k (z_bd P k) x.toNatClampNeg ≠ 5 then -10
  else if x < 0 ∧ (z_pc P k name).isSome = true then -1
  else if z_any (fun i => z_rlw P k x i && z_rlc P k x name i) (z_bd P k).length = true then -2
  else if 60 < (z_rlD P k x name).length then -6
  else nI (z_ct (z_rlb P k x) (z_bd P k).length)
def z_rlH (P : z_Pg) (k : Nat) (x name : Int32) : Nat → Int32 := if x = -1 then z_hset (z_hd P k) 4 name else if x = -2 then z_hset (z_hd P k) 5 name else z_hd P k
noncomputable def z_rlQ (P : z_Pg) (k : Nat) (x name : Int32) : z_Pg := z_sM P k (z_rlH P k x name) (z_rlD P k x name)
section
variable {S : z_S} {m : z_m} {p q : Nat} {P : z_Pg} {A : z_A}
theorem z_rlg_len (P : z_Pg) (k : Nat) (x name : Int32) (i : Nat) : (z_rlg P k x name i).length ≤ 2 := by
  unfold z_rlg
  split
  · exact Nat.le_succ 1
  · split
    · rw [z_pln_len]; exact Nat.le_refl _
    · exact Nat.le_succ 1
/-- Renamer.isCaptured -/
theorem f109_sp (hp : z_PS S p) (h : z_cp m p P) (ht : z_LT m p P) (hw : z_wf P) {k i : Nat} (hk : k < z_nm P) (hl : z_liv P k = true) (hi : i < (z_bd P k).length) (x name : Int32) : f109 (z_bi p k) (nI i) x name (z_hp S m) = some (z_b (z_rlc P k x name i), z_hp S m) := by
  have h24 := hw.2.2.1
  have hb := hp.B (k := k) (by omega)
  have hbk := hb.k
  have hcb := h.2.2.2 k hk hl
  have hlen : (z_bd P k).length ≤ 60 := hcb.2.2.1
  have hB := hw.2.2.2.2.1 k hk
  have hT := ht k hk hl
  have hBd : ∀ i, i < (z_bd P k).length → m (z_bi p k + 6) i = z_Bd P k i := fun i hi => (hT.2 i hi).2
  have e15 := f15_sp hb hcb hBd hi x
  have e15 : f15 (z_bi p k) (nI i) x (z_hp S m) = some (z_b (z_rlb P k x i), z_hp S m) := e15
  have e14 := f14_sp hb hcb hBd hi x
  have e10 := f10_sp hb hcb hT.1 hB.1 hi (name := name)
  have ev := (hcb.2.2.2.2 i hi).2.1
  unfold f109 f109_33 f109_34 f109_62 f109_63 z_rlc
  cases g : z_rlb P k x i with
  | true =>
    rw [g] at e15
    rw [if_pos rfl]
    cases h1 : z_le (z_bd P k) i name with
    | none =>
      rw [h1] at e10
      simp (disch := ((try simp only [true_or, or_true, hb.k, hb.k1, hb.k2, hb.k3, hb.k4, hb.k5, hb.k6, hb.l1, hb.l2, hb.l3, hb.l4, hb.l5, hb.l6, hbk]) <;> (try omega))) only [↓reduceIte, ↓z_ite, ↓zR, ↓zB_R, ↓zB_B, ↓zB_ite, ↓zB_gI, ↓zB_pI, ↓zB_pZ, ↓zB_aK, ↓zB_G, ↓zB_lI, ↓zB_lZ, ↓zB_wI, ↓zB_wZ, ↓zB_lIl, ↓zB_wIl, zB_pI, zB_pZ, zB_lI, zB_lZ, zB_wI, zB_wZ, z_addl, z_ladd, z_mull, z_lmul, nI_add, z_subl, Nat.not_lt_zero, z_10, z_01, z_bitc, z_b0, z_b1, ↓zB_Gb, ↓zB_G0, ↓zB_G1, z_eql, z_leq, z_ltl, z_llt, z_eq, z_lt, z_m1lt, hb.k, hb.k1, hb.k2, hb.k3, hb.k4, hb.k5, hb.k6, hb.l1, hb.l2, hb.l3, hb.l4, hb.l5, hb.l6, hbk, ↓hb.g0, ↓hb.g1, ↓hb.g2, ↓hb.g3, ↓hb.g4, ↓hb.g5, ↓zB_c e15, zB_c e15, Bool.true_eq_false, ↓zB_c e10, zB_c e10, z_oI]
      rfl
    | some j =>
      rw [h1] at e10
      have hj := (z_le_some h1).1
      have gj : ¬ nI j = -1 := z_nI_m1 (by omega)
      dsimp only
      by_cases g2 : x < nI j
      · rw [decide_eq_true g2]
        simp (disch := ((try simp only [true_or, or_true, hb.k, hb.k1, hb.k2, hb.k3, hb.k4, hb.k5, hb.k6, hb.l1, hb.l2, hb.l3, hb.l4, hb.l5, hb.l6, hbk]) <;> (try omega))) only [↓reduceIte, ↓z_ite, ↓zR, ↓zB_R, ↓zB_B, ↓zB_ite, ↓zB_gI, ↓zB_pI, ↓zB_pZ, ↓zB_aK, ↓zB_G, ↓zB_lI, ↓zB_lZ, ↓zB_wI, ↓zB_wZ, ↓zB_lIl, ↓zB_wIl, zB_pI, zB_pZ, zB_lI, zB_lZ, zB_wI, zB_wZ, z_addl, z_ladd, z_mull, z_lmul, nI_add, z_subl, Nat.not_lt_zero, z_10, z_01, z_bitc, z_b0, z_b1, ↓zB_Gb, ↓zB_G0, ↓zB_G1, z_eql, z_leq, z_ltl, z_llt, z_eq, z_lt, z_m1lt, hb.k, hb.k1, hb.k2, hb.k3, hb.k4, hb.k5, hb.k6, hb.l1, hb.l2, hb.l3, hb.l4, hb.l5, hb.l6, hbk, ↓hb.g0, ↓hb.g1, ↓hb.g2, ↓hb.g3, ↓hb.g4, ↓hb.g5, ↓zB_c e15, zB_c e15, Bool.true_eq_false, ↓zB_c e10, zB_c e10, z_oI, gj, g2]
        rfl
      · rw [decide_eq_false g2]
        simp (disch := ((try simp only [true_or, or_true, hb.k, hb.k1, hb.k2, hb.k3, hb.k4, hb.k5, hb.k6, hb.l1, hb.l2, hb.l3, hb.l4, hb.l5, hb.l6, hbk]) <;> (try omega))) only [↓reduceIte, ↓z_ite, ↓zR, ↓zB_R, ↓zB_B, ↓zB_ite, ↓zB_gI, ↓zB_pI, ↓zB_pZ, ↓zB_aK, ↓zB_G, ↓zB_lI, ↓zB_lZ, ↓zB_wI, ↓zB_wZ, ↓zB_lIl, ↓zB_wIl, zB_pI, zB_pZ, zB_lI, zB_lZ, zB_wI, zB_wZ, z_addl, z_ladd, z_mull, z_lmul, nI_add, z_subl, Nat.not_lt_zero, z_10, z_01, z_bitc, z_b0, z_b1, ↓zB_Gb, ↓zB_G0, ↓zB_G1, z_eql, z_leq, z_ltl, z_llt, z_eq, z_lt, z_m1lt, hb.k, hb.k1, hb.k2, hb.k3, hb.k4, hb.k5, hb.k6, hb.l1, hb.l2, hb.l3, hb.l4, hb.l5, hb.l6, hbk, ↓hb.g0, ↓hb.g1, ↓hb.g2, ↓hb.g3, ↓hb.g4, ↓hb.g5, ↓zB_c e15, zB_c e15, Bool.true_eq_false, ↓zB_c e10, zB_c e10, z_oI, gj, g2]
        rfl
  | false =>
    rw [g] at e15
    rw [if_neg Bool.false_ne_true]
    by_cases g2 : x < 0
    · rw [decide_eq_true g2]
      simp (disch := ((try simp only [true_or, or_true, hb.k, hb.k1, hb.k2, hb.k3, hb.k4, hb.k5, hb.k6, hb.l1, hb.l2, hb.l3, hb.l4, hb.l5, hb.l6, hbk]) <;> (try omega))) only [↓reduceIte, ↓z_ite, ↓zR, ↓zB_R, ↓zB_B, ↓zB_ite, ↓zB_gI, ↓zB_pI, ↓zB_pZ, ↓zB_aK, ↓zB_G, ↓zB_lI, ↓zB_lZ, ↓zB_wI, ↓zB_wZ, ↓zB_lIl, ↓zB_wIl, zB_pI, zB_pZ, zB_lI, zB_lZ, zB_wI, zB_wZ, z_addl, z_ladd, z_mull, z_lmul, nI_add, z_subl, Nat.not_lt_zero, z_10, z_01, z_bitc, z_b0, z_b1, ↓zB_Gb, ↓zB_G0, ↓zB_G1, z_eql, z_leq, z_ltl, z_llt, z_eq, z_lt, z_m1lt, hb.k, hb.k1, hb.k2, hb.k3, hb.k4, hb.k5, hb.k6, hb.l1, hb.l2, hb.l3, hb.l4, hb.l5, hb.l6, hbk, ↓hb.g0, ↓hb.g1, ↓hb.g2, ↓hb.g3, ↓hb.g4, ↓hb.g5, ↓zB_c e15, zB_c e15, g2, Bool.not_true, Bool.false_and]
      rfl
    · rw [decide_eq_false g2]
      cases g3 : z_isO (z_bd P k) (z_Bd P k) i x with
      | false =>
        rw [g3] at e14
        simp (disch := ((try simp only [true_or, or_true, hb.k, hb.k1, hb.k2, hb.k3, hb.k4, hb.k5, hb.k6, hb.l1, hb.l2, hb.l3, hb.l4, hb.l5, hb.l6, hbk]) <;> (try omega))) only [↓reduceIte, ↓z_ite, ↓zR, ↓zB_R, ↓zB_B, ↓zB_ite, ↓zB_gI, ↓zB_pI, ↓zB_pZ, ↓zB_aK, ↓zB_G, ↓zB_lI, ↓zB_lZ, ↓zB_wI, ↓zB_wZ, ↓zB_lIl, ↓zB_wIl, zB_pI, zB_pZ, zB_lI, zB_lZ, zB_wI, zB_wZ, z_addl, z_ladd, z_mull, z_lmul, nI_add, z_subl, Nat.not_lt_zero, z_10, z_01, z_bitc, z_b0, z_b1, ↓zB_Gb, ↓zB_G0, ↓zB_G1, z_eql, z_leq, z_ltl, z_llt, z_eq, z_lt, z_m1lt, hb.k, hb.k1, hb.k2, hb.k3, hb.k4, hb.k5, hb.k6, hb.l1, hb.l2, hb.l3, hb.l4, hb.l5, hb.l6, hbk, ↓hb.g0, ↓hb.g1, ↓hb.g2, ↓hb.g3, ↓hb.g4, ↓hb.g5, ↓zB_c e15, zB_c e15, g2, ↓zB_c e14, zB_c e14, Bool.not_false, Bool.true_and, Bool.false_and]
        rfl
      | true =>
        rw [g3] at e14
        by_cases g4 : z_v (z_bd P k) i = name
        · rw [show (z_v (z_bd P k) i == name) = true by simpa using g4]
          simp (disch := ((try simp only [true_or, or_true, hb.k, hb.k1, hb.k2, hb.k3, hb.k4, hb.k5, hb.k6, hb.l1, hb.l2, hb.l3, hb.l4, hb.l5, hb.l6, hbk]) <;> (try omega))) only [↓reduceIte, ↓z_ite, ↓zR, ↓zB_R, ↓zB_B, ↓zB_ite, ↓zB_gI, ↓zB_pI, ↓zB_pZ, ↓zB_aK, ↓zB_G, ↓zB_lI, ↓zB_lZ, ↓zB_wI, ↓zB_wZ, ↓zB_lIl, ↓zB_wIl, zB_pI, zB_pZ, zB_lI, zB_lZ, zB_wI, zB_wZ, z_addl, z_ladd, z_mull, z_lmul, nI_add, z_subl, Nat.not_lt_zero, z_10, z_01, z_bitc, z_b0, z_b1, ↓zB_Gb, ↓zB_G0, ↓zB_G1, z_eql, z_leq, z_ltl, z_llt, z_eq, z_lt, z_m1lt, hb.k, hb.k1, hb.k2, hb.k3, hb.k4, hb.k5, hb.k6, hb.l1, hb.l2, hb.l3, hb.l4, hb.l5, hb.l6, hbk, ↓hb.g0, ↓hb.g1, ↓hb.g2, ↓hb.g3, ↓hb.g4, ↓hb.g5, ↓zB_c e15, zB_c e15, g2, ↓zB_c e14, zB_c e14, Bool.true_eq_false, hi, ev, g4, Bool.not_false, Bool.true_and]
          rfl
        · rw [show (z_v (z_bd P k) i == name) = false by simpa using g4]
          simp (disch := ((try simp only [true_or, or_true, hb.k, hb.k1, hb.k2, hb.k3, hb.k4, hb.k5, hb.k6, hb.l1, hb.l2, hb.l3, hb.l4, hb.l5, hb.l6, hbk]) <;> (try omega))) only [↓reduceIte, ↓z_ite, ↓zR, ↓zB_R, ↓zB_B, ↓zB_ite, ↓zB_gI, ↓zB_pI, ↓zB_pZ, ↓zB_aK, ↓zB_G, ↓zB_lI, ↓zB_lZ, ↓zB_wI, ↓zB_wZ, ↓zB_lIl, ↓zB_wIl, zB_pI, zB_pZ, zB_lI, zB_lZ, zB_wI, zB_wZ, z_addl, z_ladd, z_mull, z_lmul, nI_add, z_subl, Nat.not_lt_zero, z_10, z_01, z_bitc, z_b0, z_b1, ↓zB_Gb, ↓zB_G0, ↓zB_G1, z_eql, z_leq, z_ltl, z_llt, z_eq, z_lt, z_m1lt, hb.k, hb.k1, hb.k2, hb.k3, hb.k4, hb.k5, hb.k6, hb.l1, hb.l2, hb.l3, hb.l4, hb.l5, hb.l6, hbk, ↓hb.g0, ↓hb.g1, ↓hb.g2, ↓hb.g3, ↓hb.g4, ↓hb.g5, ↓zB_c e15, zB_c e15, g2, ↓zB_c e14, zB_c e14, Bool.true_eq_false, hi, ev, g4, Bool.not_false, Bool.true_and]
          rfl
/-- the body anew, or something is caught -/
theorem f108_101_sp (hX : z_XS S) (hp : z_PS S p) (lo : 242 ≤ p) (h : z_cp m p P) (ht : z_LT m p P) (hw : z_wf P) {k : Nat} (hk : k < z_nm P) (hl : z_liv P k = true) {x : Int32} (hx : z_vpl P k x) (name : Int32) (hsh : z_cb m 22 256 []) (hs : z_rls P k x ≤ 300) (he : z_rle P k x ≤ 300) : ∃ m', z_bF 22 m m' ∧ ((z_any (fun i => z_rlw P k x i && z_rlc P k x name i) (z_bd P k).length = true ∧ f108_101 21 q (nI k) x name (z_bi p k) (nI (z_rls P k x)) (nI (z_rle P k x)) 0 0 (z_hp S m) = some (-2, z_hp S m')) ∨ (z_any (fun i => z_rlw P k x i && z_rlc P k x name i) (z_bd P k).length = false ∧ f108_101 21 q (nI k) x name (z_bi p k) (nI (z_rls P k x)) (nI (z_rle P k x)) 0 0 (z_hp S m) = f108_262 21 q (nI k) x name (nI (z_ct (z_rlb P k x) (z_bd P k).length)) (z_hp S m') ∧ z_cb m' 22 256 (z_rlD P k x name))) := by
  have h24 := hw.2.2.1
  have hbp := hp.B (k := k) (by omega)
  have hbpk := hbp.k
  have h22 := hX.2.2.2.1.1
  have h22k := h22.k
  have hB := hw.2.2.2.2.1 k hk
  have hcbp := h.2.2.2 k hk hl
  have hlen : (z_bd P k).length ≤ 60 := hcbp.2.2.1
  unfold f108_101
  have key := z_loopT (f := fun s => f108_101b (s.1) (s.2.1) (s.2.2.1) (s.2.2.2.1) (s.2.2.2.2.1) (s.2.2.2.2.2.1) (s.2.2.2.2.2.2.1) (s.2.2.2.2.2.2.2.1) (s.2.2.2.2.2.2.2.2.1) (s.2.2.2.2.2.2.2.2.2)) (S := S) (fun n st m' => ∃ i, n = (z_bd P k).length - i ∧ i ≤ (z_bd P k).length ∧ st = (21, q, nI k, x, name, z_bi p k, nI (z_rls P k x), nI (z_rle P k x), nI (z_ct (z_rlb P k x) i), nI i) ∧ z_cb m' 22 256 (z_cat (z_rlg P k x name) i) ∧ z_bF 22 m m' ∧ z_any (fun i => z_rlw P k x i && z_rlc P k x name i) i = false) (fun X m' => z_bF 22 m m' ∧ ((z_any (fun i => z_rlw P k x i && z_rlc P k x name i) (z_bd P k).length = true ∧ X = m_R (-2)) ∨ (z_any (fun i => z_rlw P k x i && z_rlc P k x name i) (z_bd P k).length = false ∧ X = f108_262 21 q (nI k) x name (nI (z_ct (z_rlb P k x) (z_bd P k).length)) ∧ z_cb m' 22 256 (z_rlD P k x name)))) ?_ 1000000 (z_bd P k).length (21, q, nI k, x, name, z_bi p k, nI (z_rls P k x), nI (z_rle P k x), 0, 0) m ⟨0, rfl, Nat.zero_le _, rfl, hsh, z_bF.refl _ _, rfl⟩ (by omega)
  · obtain ⟨X, m', e, g1, g2⟩ := key
    refine ⟨m', g1, ?_⟩
    rcases g2 with ⟨g2, rfl⟩ | ⟨g2, rfl, g3⟩
    · exact Or.inl ⟨g2, e⟩
    · exact Or.inr ⟨g2, e, g3⟩
  · rintro n st m1 ⟨i, rfl, hi, rfl, g1, g2, g3⟩
    have hcp1 : z_cp m1 p P := g2.cp (by omega) h24 h
    have hT1 : z_LT m1 p P := z_LT_fr hw (fun a x1 x2 => g2.at (by omega)) ht
    have hb1 := hcp1.2.2.2 k hk hl
    have c71 := hb1.2.1
    have hcl := z_ct_le (s := z_rlb P k x) i
    have hcat := z_cat_le (f := z_rlg P k x name) (c := 2) i (fun i _ => z_rlg_len P k x name i)
    dsimp only
    rcases Nat.eq_or_lt_of_le hi with hi2 | hi2
    · refine Or.inr ⟨_, m1, ?_, g2, Or.inr ⟨by rw [← hi2]; exact g3, rfl, by rw [hi2] at g1; exact g1⟩⟩
      unfold f108_101b
      rw [hi2]
      simp (disch := ((try simp only [true_or, or_true, hbp.k, hbp.k1, hbp.k2, hbp.k3, hbp.k4, hbp.k5, hbp.k6, hbp.l1, hbp.l2, hbp.l3, hbp.l4, hbp.l5, hbp.l6]) <;> (try omega))) only [↓reduceIte, ↓z_ite, ↓zR, ↓zB_R, ↓zB_B, ↓zB_ite, ↓zB_gI, ↓zB_pI, ↓zB_pZ, ↓zB_aK, ↓zB_G, ↓zB_lI, ↓zB_lZ, ↓zB_wI, ↓zB_wZ, ↓zB_lIl, ↓zB_wIl, zB_pI, zB_pZ, zB_lI, zB_lZ, zB_wI, zB_wZ, z_addl, z_ladd, z_mull, z_lmul, nI_add, z_subl, Nat.not_lt_zero, z_10, z_01, z_bitc, z_b0, z_b1, ↓zB_Gb, ↓zB_G0, ↓zB_G1, z_eql, z_leq, z_ltl, z_llt, z_eq, z_lt, z_m1lt, hbp.k, hbp.k1, hbp.k2, hbp.k3, hbp.k4, hbp.k5, hbp.k6, hbp.l1, hbp.l2, hbp.l3, hbp.l4, hbp.l5, hbp.l6, ↓hbp.g0, ↓hbp.g1, ↓hbp.g2, ↓hbp.g3, ↓hbp.g4, ↓hbp.g5, c71, Nat.lt_irrefl]
    · have hBd : ∀ i, i < (z_bd P k).length → m1 (z_bi p k + 6) i = z_Bd P k i := fun i hi => ((hT1 k hk hl).2 i hi).2
      have e109 := f109_sp hp hcp1 hT1 hw hk hl hi2 x name
      have e15 : f15 (z_bi p k) (nI i) x (z_hp S m1) = some (z_b (z_rlb P k x i), z_hp S m1) := f15_sp hbp hb1 hBd hi2 x
      have e13 := f13_sp hbp hb1 hBd hi2
      have ev := (hb1.2.2.2.2 i hi2).2.1
      have e130 : f108_101b 21 q (nI k) x name (z_bi p k) (nI (z_rls P k x)) (nI (z_rle P k x)) (nI (z_ct (z_rlb P k x) i)) (nI i) (z_hp S m1) = f108_130 21 q (nI k) x name (z_bi p k) (nI (z_rls P k x)) (nI (z_rle P k x)) (nI (z_ct (z_rlb P k x) i)) (nI i) (z_b (z_rlw P k x i)) (z_hp S m1) := by
        unfold f108_101b f108_129 z_rlw
        by_cases y1 : z_rls P k x ≤ i
        · have y1' : ¬ i < z_rls P k x := by omega
          by_cases y2 : i < z_rle P k x
          · rw [decide_eq_true y1, decide_eq_true y2]
            simp (disch := ((try simp only [true_or, or_true, hbp.k, hbp.k1, hbp.k2, hbp.k3, hbp.k4, hbp.k5, hbp.k6, hbp.l1, hbp.l2, hbp.l3, hbp.l4, hbp.l5, hbp.l6]) <;> (try omega))) only [↓reduceIte, ↓z_ite, ↓zR, ↓zB_R, ↓zB_B, ↓zB_ite, ↓zB_gI, ↓zB_pI, ↓zB_pZ, ↓zB_aK, ↓zB_G, ↓zB_lI, ↓zB_lZ, ↓zB_wI, ↓zB_wZ, ↓zB_lIl, ↓zB_wIl, zB_pI, zB_pZ, zB_lI, zB_lZ, zB_wI, zB_wZ, z_addl, z_ladd, z_mull, z_lmul, nI_add, z_subl, Nat.not_lt_zero, z_10, z_01, z_bitc, z_b0, z_b1, ↓zB_Gb, ↓zB_G0, ↓zB_G1, z_eql, z_leq, z_ltl, z_llt, z_eq, z_lt, z_m1lt, hbp.k, hbp.k1, hbp.k2, hbp.k3, hbp.k4, hbp.k5, hbp.k6, hbp.l1, hbp.l2, hbp.l3, hbp.l4, hbp.l5, hbp.l6, ↓hbp.g0, ↓hbp.g1, ↓hbp.g2, ↓hbp.g3, ↓hbp.g4, ↓hbp.g5, c71, hi2, y1', y2]
            rfl
          · rw [decide_eq_true y1, decide_eq_false y2]
            simp (disch := ((try simp only [true_or, or_true, hbp.k, hbp.k1, hbp.k2, hbp.k3, hbp.k4, hbp.k5, hbp.k6, hbp.l1, hbp.l2, hbp.l3, hbp.l4, hbp.l5, hbp.l6]) <;> (try omega))) only [↓reduceIte, ↓z_ite, ↓zR, ↓zB_R, ↓zB_B, ↓zB_ite, ↓zB_gI, ↓zB_pI, ↓zB_pZ, ↓zB_aK, ↓zB_G, ↓zB_lI, ↓zB_lZ, ↓zB_wI, ↓zB_wZ, ↓zB_lIl, ↓zB_wIl, zB_pI, zB_pZ, zB_lI, zB_lZ, zB_wI, zB_wZ, z_addl, z_ladd, z_mull, z_lmul, nI_add, z_subl, Nat.not_lt_zero, z_10, z_01, z_bitc, z_b0, z_b1, ↓zB_Gb, ↓zB_G0, ↓zB_G1, z_eql, z_leq, z_ltl, z_llt, z_eq, z_lt, z_m1lt, hbp.k, hbp.k1, hbp.k2, hbp.k3, hbp.k4, hbp.k5, hbp.k6, hbp.l1, hbp.l2, hbp.l3, hbp.l4, hbp.l5, hbp.l6, ↓hbp.g0, ↓hbp.g1, ↓hbp.g2, ↓hbp.g3, ↓hbp.g4, ↓hbp.g5, c71, hi2, y1', y2]
            rfl
        · have y1' : i < z_rls P k x := by omega
          rw [decide_eq_false y1]
          simp (disch := ((try simp only [true_or, or_true, hbp.k, hbp.k1, hbp.k2, hbp.k3, hbp.k4, hbp.k5, hbp.k6, hbp.l1, hbp.l2, hbp.l3, hbp.l4, hbp.l5, hbp.l6]) <;> (try omega))) only [↓reduceIte, ↓z_ite, ↓zR, ↓zB_R, ↓zB_B, ↓zB_ite, ↓zB_gI, ↓zB_pI, ↓zB_pZ, ↓zB_aK, ↓zB_G, ↓zB_lI, ↓zB_lZ, ↓zB_wI, ↓zB_wZ, ↓zB_lIl, ↓zB_wIl, zB_pI, zB_pZ, zB_lI, zB_lZ, zB_wI, zB_wZ, z_addl, z_ladd, z_mull, z_lmul, nI_add, z_subl, Nat.not_lt_zero, z_10, z_01, z_bitc, z_b0, z_b1, ↓zB_Gb, ↓zB_G0, ↓zB_G1, z_eql, z_leq, z_ltl, z_llt, z_eq, z_lt, z_m1lt, hbp.k, hbp.k1, hbp.k2, hbp.k3, hbp.k4, hbp.k5, hbp.k6, hbp.l1, hbp.l2, hbp.l3, hbp.l4, hbp.l5, hbp.l6, ↓hbp.g0, ↓hbp.g1, ↓hbp.g2, ↓hbp.g3, ↓hbp.g4, ↓hbp.g5, c71, hi2, y1', Bool.false_and]
          rfl
      by_cases gc : (z_rlw P k x i && z_rlc P k x name i) = true
      · obtain ⟨y1, y2⟩ := Bool.and_eq_true_iff.mp gc
        refine Or.inr ⟨m_R (-2), m1, ?_, g2, Or.inl ⟨z_any_iff.mpr ⟨i, hi2, gc⟩, rfl⟩⟩
        rw [e130, y1]
        rw [y2] at e109
        unfold f108_130 f108_151
        simp (disch := ((try simp only [true_or, or_true, hbp.k, hbp.k1, hbp.k2, hbp.k3, hbp.k4, hbp.k5, hbp.k6, hbp.l1, hbp.l2, hbp.l3, hbp.l4, hbp.l5, hbp.l6]) <;> (try omega))) only [↓reduceIte, ↓z_ite, ↓zR, ↓zB_R, ↓zB_B, ↓zB_ite, ↓zB_gI, ↓zB_pI, ↓zB_pZ, ↓zB_aK, ↓zB_G, ↓zB_lI, ↓zB_lZ, ↓zB_wI, ↓zB_wZ, ↓zB_lIl, ↓zB_wIl, zB_pI, zB_pZ, zB_lI, zB_lZ, zB_wI, zB_wZ, z_addl, z_ladd, z_mull, z_lmul, nI_add, z_subl, Nat.not_lt_zero, z_10, z_01, z_bitc, z_b0, z_b1, ↓zB_Gb, ↓zB_G0, ↓zB_G1, z_eql, z_leq, z_ltl, z_llt, z_eq, z_lt, z_m1lt, hbp.k, hbp.k1, hbp.k2, hbp.k3, hbp.k4, hbp.k5, hbp.k6, hbp.l1, hbp.l2, hbp.l3, hbp.l4, hbp.l5, hbp.l6, ↓hbp.g0, ↓hbp.g1, ↓hbp.g2, ↓hbp.g3, ↓hbp.g4, ↓hbp.g5, ↓zB_c e109, zB_c e109, Bool.true_eq_false]
      · have gc' : (z_rlw P k x i && z_rlc P k x name i) = false := by simpa using gc
        have g3' : z_any (fun i => z_rlw P k x i && z_rlc P k x name i) (i + 1) = false := by
          show (z_any (fun i => z_rlw P k x i && z_rlc P k x name i) i || (z_rlw P k x i && z_rlc P k x name i)) = false
          rw [g3, gc']; rfl
        have e154 : f108_130 21 q (nI k) x name (z_bi p k) (nI (z_rls P k x)) (nI (z_rle P k x)) (nI (z_ct (z_rlb P k x) i)) (nI i) (z_b (z_rlw P k x i)) (z_hp S m1) = f108_154 21 q (nI k) x name (z_bi p k) (nI (z_rls P k x)) (nI (z_rle P k x)) (nI (z_ct (z_rlb P k x) i)) (nI i) (z_b (z_rlw P k x i)) (z_hp S m1) := by
          unfold f108_130
          cases y : z_rlw P k x i with
          | false => simp (disch := ((try simp only [true_or, or_true, hbp.k, hbp.k1, hbp.k2, hbp.k3, hbp.k4, hbp.k5, hbp.k6, hbp.l1, hbp.l2, hbp.l3, hbp.l4, hbp.l5, hbp.l6]) <;> (try omega))) only [↓reduceIte, ↓z_ite, ↓zR, ↓zB_R, ↓zB_B, ↓zB_ite, ↓zB_gI, ↓zB_pI, ↓zB_pZ, ↓zB_aK, ↓zB_G, ↓zB_lI, ↓zB_lZ, ↓zB_wI, ↓zB_wZ, ↓zB_lIl, ↓zB_wIl, zB_pI, zB_pZ, zB_lI, zB_lZ, zB_wI, zB_wZ, z_addl, z_ladd, z_mull, z_lmul, nI_add, z_subl, Nat.not_lt_zero, z_10, z_01, z_bitc, z_b0, z_b1, ↓zB_Gb, ↓zB_G0, ↓zB_G1, z_eql, z_leq, z_ltl, z_llt, z_eq, z_lt, z_m1lt, hbp.k, hbp.k1, hbp.k2, hbp.k3, hbp.k4, hbp.k5, hbp.k6, hbp.l1, hbp.l2, hbp.l3, hbp.l4, hbp.l5, hbp.l6, ↓hbp.g0, ↓hbp.g1, ↓hbp.g2, ↓hbp.g3, ↓hbp.g4, ↓hbp.g5]
          | true =>
            rw [y, Bool.true_and] at gc'
            rw [gc'] at e109
            simp (disch := ((try simp only [true_or, or_true, hbp.k, hbp.k1, hbp.k2, hbp.k3, hbp.k4, hbp.k5, hbp.k6, hbp.l1, hbp.l2, hbp.l3, hbp.l4, hbp.l5, hbp.l6]) <;> (try omega))) only [↓reduceIte, ↓z_ite, ↓zR, ↓zB_R, ↓zB_B, ↓zB_ite, ↓zB_gI, ↓zB_pI, ↓zB_pZ, ↓zB_aK, ↓zB_G, ↓zB_lI, ↓zB_lZ, ↓zB_wI, ↓zB_wZ, ↓zB_lIl, ↓zB_wIl, zB_pI, zB_pZ, zB_lI, zB_lZ, zB_wI, zB_wZ, z_addl, z_ladd, z_mull, z_lmul, nI_add, z_subl, Nat.not_lt_zero, z_10, z_01, z_bitc, z_b0, z_b1, ↓zB_Gb, ↓zB_G0, ↓zB_G1, z_eql, z_leq, z_ltl, z_llt, z_eq, z_lt, z_m1lt, hbp.k, hbp.k1, hbp.k2, hbp.k3, hbp.k4, hbp.k5, hbp.k6, hbp.l1, hbp.l2, hbp.l3, hbp.l4, hbp.l5, hbp.l6, ↓hbp.g0, ↓hbp.g1, ↓hbp.g2, ↓hbp.g3, ↓hbp.g4, ↓hbp.g5, ↓zB_c e109, zB_c e109, Bool.true_eq_false]
        have fin : ∀ m2 piece, z_rlg P k x name i = piece → z_cb m2 22 256 (z_cat (z_rlg P k x name) i ++ piece) → z_cb m2 22 256 (z_cat (z_rlg P k x name) (i + 1)) := fun m2 piece e h => by
          show z_cb m2 22 256 (z_cat (z_rlg P k x name) i ++ z_rlg P k x name i)
          rw [e]; exact h
        -- what is written
        have wr : ∃ m2, f108_173 21 q (nI k) x name (z_bi p k) (nI (z_rls P k x)) (nI (z_rle P k x)) (nI (z_ct (z_rlb P k x) (i + 1))) (nI i) (z_b (z_rlw P k x i)) (z_b (z_rlb P k x i)) (z_hp S m1) = some (.inl (21, q, nI k, x, name, z_bi p k, nI (z_rls P k x), nI (z_rle P k x), nI (z_ct (z_rlb P k x) (i + 1)), nI (i + 1)), z_hp S m2) ∧ z_cb m2 22 256 (z_cat (z_rlg P k x name) (i + 1)) ∧ z_bF 22 m1 m2 := by
          obtain ⟨m2, e4, c1, c2⟩ := f4_sp h22 g1 (by omega) hbp hb1 hi2 name
          obtain ⟨m3, e3, d1, d2⟩ := f3_sp h22 g1 (by omega) hbp hb1 hi2
          by_cases y1 : nI i = x
          · refine ⟨m2, ?_, fin m2 _ (by unfold z_rlg; rw [if_pos (Or.inl y1)]) c1, c2⟩
            unfold f108_173 f108_185 f108_256
            simp (disch := ((try simp only [true_or, or_true, hbp.k, hbp.k1, hbp.k2, hbp.k3, hbp.k4, hbp.k5, hbp.k6, hbp.l1, hbp.l2, hbp.l3, hbp.l4, hbp.l5, hbp.l6, hX.k21, h22k]) <;> (try omega))) only [↓reduceIte, ↓z_ite, ↓zR, ↓zB_R, ↓zB_B, ↓zB_ite, ↓zB_gI, ↓zB_pI, ↓zB_pZ, ↓zB_aK, ↓zB_G, ↓zB_lI, ↓zB_lZ, ↓zB_wI, ↓zB_wZ, ↓zB_lIl, ↓zB_wIl, zB_pI, zB_pZ, zB_lI, zB_lZ, zB_wI, zB_wZ, z_addl, z_ladd, z_mull, z_lmul, nI_add, z_subl, Nat.not_lt_zero, z_10, z_01, z_bitc, z_b0, z_b1, ↓zB_Gb, ↓zB_G0, ↓zB_G1, z_eql, z_leq, z_ltl, z_llt, z_eq, z_lt, z_m1lt, hbp.k, hbp.k1, hbp.k2, hbp.k3, hbp.k4, hbp.k5, hbp.k6, hbp.l1, hbp.l2, hbp.l3, hbp.l4, hbp.l5, hbp.l6, hX.k21, h22k, ↓hbp.g0, ↓hbp.g1, ↓hbp.g2, ↓hbp.g3, ↓hbp.g4, ↓hbp.g5, ↓hX.g21_0, show (nI i = x) = True from eq_true y1, ↓zB_c e4, zB_c e4]
          · cases y2 : z_rlb P k x i with
            | true =>
              refine ⟨m2, ?_, fin m2 _ (by unfold z_rlg; rw [if_pos (Or.inr y2)]) c1, c2⟩
              unfold f108_173 f108_185 f108_256
              simp (disch := ((try simp only [true_or, or_true, hbp.k, hbp.k1, hbp.k2, hbp.k3, hbp.k4, hbp.k5, hbp.k6, hbp.l1, hbp.l2, hbp.l3, hbp.l4, hbp.l5, hbp.l6, hX.k21, h22k]) <;> (try omega))) only [↓reduceIte, ↓z_ite, ↓zR, ↓zB_R, ↓zB_B, ↓zB_ite, ↓zB_gI, ↓zB_pI, ↓zB_pZ, ↓zB_aK, ↓zB_G, ↓zB_lI, ↓zB_lZ, ↓zB_wI, ↓zB_wZ, ↓zB_lIl, ↓zB_wIl, zB_pI, zB_pZ, zB_lI, zB_lZ, zB_wI, zB_wZ, z_addl, z_ladd, z_mull, z_lmul, nI_add, z_subl, Nat.not_lt_zero, z_10, z_01, z_bitc, z_b0, z_b1, ↓zB_Gb, ↓zB_G0, ↓zB_G1, z_eql, z_leq, z_ltl, z_llt, z_eq, z_lt, z_m1lt, hbp.k, hbp.k1, hbp.k2, hbp.k3, hbp.k4, hbp.k5, hbp.k6, hbp.l1, hbp.l2, hbp.l3, hbp.l4, hbp.l5, hbp.l6, hX.k21, h22k, ↓hbp.g0, ↓hbp.g1, ↓hbp.g2, ↓hbp.g3, ↓hbp.g4, ↓hbp.g5, ↓hX.g21_0, y1, Bool.true_eq_false, ↓zB_c e4, zB_c e4]
            | false =>
              have y12 : ¬ (nI i = x ∨ z_rlb P k x i = true) := fun r => by
                rcases r with r | r
                · exact y1 r
                · rw [y2] at r; cases r
              have plainN : (z_rlw P k x i && (z_isF (z_bd P k) (z_Bd P k) i && z_v (z_bd P k) i == name)) = false → z_rlg P k x name i = [z_at (z_bd P k) i] := fun r => by
                unfold z_rlg; rw [if_neg y12, r, if_neg (by decide)]
              cases y3 : z_rlw P k x i with
              | false =>
                refine ⟨m3, ?_, fin m3 _ (plainN (by rw [y3]; rfl)) d1, d2⟩
                unfold f108_173 f108_245 f108_256
                simp (disch := ((try simp only [true_or, or_true, hbp.k, hbp.k1, hbp.k2, hbp.k3, hbp.k4, hbp.k5, hbp.k6, hbp.l1, hbp.l2, hbp.l3, hbp.l4, hbp.l5, hbp.l6, hX.k21, h22k]) <;> (try omega))) only [↓reduceIte, ↓z_ite, ↓zR, ↓zB_R, ↓zB_B, ↓zB_ite, ↓zB_gI, ↓zB_pI, ↓zB_pZ, ↓zB_aK, ↓zB_G, ↓zB_lI, ↓zB_lZ, ↓zB_wI, ↓zB_wZ, ↓zB_lIl, ↓zB_wIl, zB_pI, zB_pZ, zB_lI, zB_lZ, zB_wI, zB_wZ, z_addl, z_ladd, z_mull, z_lmul, nI_add, z_subl, Nat.not_lt_zero, z_10, z_01, z_bitc, z_b0, z_b1, ↓zB_Gb, ↓zB_G0, ↓zB_G1, z_eql, z_leq, z_ltl, z_llt, z_eq, z_lt, z_m1lt, hbp.k, hbp.k1, hbp.k2, hbp.k3, hbp.k4, hbp.k5, hbp.k6, hbp.l1, hbp.l2, hbp.l3, hbp.l4, hbp.l5, hbp.l6, hX.k21, h22k, ↓hbp.g0, ↓hbp.g1, ↓hbp.g2, ↓hbp.g3, ↓hbp.g4, ↓hbp.g5, ↓hX.g21_0, y1, ↓zB_c e3, zB_c e3]
              | true =>
                cases y4 : z_isF (z_bd P k) (z_Bd P k) i with
                | false =>
                  rw [y4] at e13
                  refine ⟨m3, ?_, fin m3 _ (plainN (by rw [y3, y4]; rfl)) d1, d2⟩
                  unfold f108_173 f108_245 f108_256
                  simp (disch := ((try simp only [true_or, or_true, hbp.k, hbp.k1, hbp.k2, hbp.k3, hbp.k4, hbp.k5, hbp.k6, hbp.l1, hbp.l2, hbp.l3, hbp.l4, hbp.l5, hbp.l6, hX.k21, h22k, hbpk]) <;> (try omega))) only [↓reduceIte, ↓z_ite, ↓zR, ↓zB_R, ↓zB_B, ↓zB_ite, ↓zB_gI, ↓zB_pI, ↓zB_pZ, ↓zB_aK, ↓zB_G, ↓zB_lI, ↓zB_lZ, ↓zB_wI, ↓zB_wZ, ↓zB_lIl, ↓zB_wIl, zB_pI, zB_pZ, zB_lI, zB_lZ, zB_wI, zB_wZ, z_addl, z_ladd, z_mull, z_lmul, nI_add, z_subl, Nat.not_lt_zero, z_10, z_01, z_bitc, z_b0, z_b1, ↓zB_Gb, ↓zB_G0, ↓zB_G1, z_eql, z_leq, z_ltl, z_llt, z_eq, z_lt, z_m1lt, hbp.k, hbp.k1, hbp.k2, hbp.k3, hbp.k4, hbp.k5, hbp.k6, hbp.l1, hbp.l2, hbp.l3, hbp.l4, hbp.l5, hbp.l6, hX.k21, h22k, hbpk, ↓hbp.g0, ↓hbp.g1, ↓hbp.g2, ↓hbp.g3, ↓hbp.g4, ↓hbp.g5, ↓hX.g21_0, y1, Bool.true_eq_false, ↓zB_c e13, zB_c e13, ↓zB_c e3, zB_c e3]
                | true =>
                  rw [y4] at e13
                  by_cases y5 : z_v (z_bd P k) i = name
                  · have hkv : z_k (z_bd P k) i = 1 ∨ z_k (z_bd P k) i = 6 := by
                      unfold z_isF z_isV at y4
                      have := (Bool.and_eq_true_iff.mp y4).1
                      simpa [Bool.or_eq_true, beq_iff_eq] using this
                    obtain ⟨m4, e5, k1, k2⟩ := f5_sp h22 g1 (by omega) hbp hb1 hi2 hkv name
                    refine ⟨m4, ?_, fin m4 _ (by unfold z_rlg; rw [if_neg y12, y3, y4, show (z_v (z_bd P k) i == name) = true by simpa using y5]; rfl) k1, k2⟩
                    unfold f108_173 f108_256
                    simp (disch := ((try simp only [true_or, or_true, hbp.k, hbp.k1, hbp.k2, hbp.k3, hbp.k4, hbp.k5, hbp.k6, hbp.l1, hbp.l2, hbp.l3, hbp.l4, hbp.l5, hbp.l6, hX.k21, h22k, hbpk]) <;> (try omega))) only [↓reduceIte, ↓z_ite, ↓zR, ↓zB_R, ↓zB_B, ↓zB_ite, ↓zB_gI, ↓zB_pI, ↓zB_pZ, ↓zB_aK, ↓zB_G, ↓zB_lI, ↓zB_lZ, ↓zB_wI, ↓zB_wZ, ↓zB_lIl, ↓zB_wIl, zB_pI, zB_pZ, zB_lI, zB_lZ, zB_wI, zB_wZ, z_addl, z_ladd, z_mull, z_lmul, nI_add, z_subl, Nat.not_lt_zero, z_10, z_01, z_bitc, z_b0, z_b1, ↓zB_Gb, ↓zB_G0, ↓zB_G1, z_eql, z_leq, z_ltl, z_llt, z_eq, z_lt, z_m1lt, hbp.k, hbp.k1, hbp.k2, hbp.k3, hbp.k4, hbp.k5, hbp.k6, hbp.l1, hbp.l2, hbp.l3, hbp.l4, hbp.l5, hbp.l6, hX.k21, h22k, hbpk, ↓hbp.g0, ↓hbp.g1, ↓hbp.g2, ↓hbp.g3, ↓hbp.g4, ↓hbp.g5, ↓hX.g21_0, y1, Bool.true_eq_false, ↓zB_c e13, zB_c e13, hi2, ev, y5, ↓zB_c e5, zB_c e5]
                  · refine ⟨m3, ?_, fin m3 _ (plainN (by rw [y3, y4, show (z_v (z_bd P k) i == name) = false by simpa using y5]; rfl)) d1, d2⟩
                    unfold f108_173 f108_245 f108_256
                    simp (disch := ((try simp only [true_or, or_true, hbp.k, hbp.k1, hbp.k2, hbp.k3, hbp.k4, hbp.k5, hbp.k6, hbp.l1, hbp.l2, hbp.l3, hbp.l4, hbp.l5, hbp.l6, hX.k21, h22k, hbpk]) <;> (try omega))) only [↓reduceIte, ↓z_ite, ↓zR, ↓zB_R, ↓zB_B, ↓zB_ite, ↓zB_gI, ↓zB_pI, ↓zB_pZ, ↓zB_aK, ↓zB_G, ↓zB_lI, ↓zB_lZ, ↓zB_wI, ↓zB_wZ, ↓zB_lIl, ↓zB_wIl, zB_pI, zB_pZ, zB_lI, zB_lZ, zB_wI, zB_wZ, z_addl, z_ladd, z_mull, z_lmul, nI_add, z_subl, Nat.not_lt_zero, z_10, z_01, z_bitc, z_b0, z_b1, ↓zB_Gb, ↓zB_G0, ↓zB_G1, z_eql, z_leq, z_ltl, z_llt, z_eq, z_lt, z_m1lt, hbp.k, hbp.k1, hbp.k2, hbp.k3, hbp.k4, hbp.k5, hbp.k6, hbp.l1, hbp.l2, hbp.l3, hbp.l4, hbp.l5, hbp.l6, hX.k21, h22k, hbpk, ↓hbp.g0, ↓hbp.g1, ↓hbp.g2, ↓hbp.g3, ↓hbp.g4, ↓hbp.g5, ↓hX.g21_0, y1, Bool.true_eq_false, ↓zB_c e13, zB_c e13, hi2, ev, y5, ↓zB_c e3, zB_c e3]
        obtain ⟨m2, ew, c1, c2⟩ := wr
        refine Or.inl ⟨(21, q, nI k, x, name, z_bi p k, nI (z_rls P k x), nI (z_rle P k x), nI (z_ct (z_rlb P k x) (i + 1)), nI (i + 1)), m2, (z_bd P k).length - (i + 1), ?_, by omega, i + 1, rfl, hi2, rfl, c1, g2.trans c2, g3'⟩
        rw [e130, e154]
        unfold f108_154
        cases y2 : z_rlb P k x i with
        | false =>
          rw [y2] at e15 ew
          have ec : z_ct (z_rlb P k x) (i + 1) = z_ct (z_rlb P k x) i := by rw [z_ct_s, y2]; rfl
          rw [ec] at ew ⊢
          simp (disch := ((try simp only [true_or, or_true, hbp.k, hbp.k1, hbp.k2, hbp.k3, hbp.k4, hbp.k5, hbp.k6, hbp.l1, hbp.l2, hbp.l3, hbp.l4, hbp.l5, hbp.l6, hbpk]) <;> (try omega))) only [↓reduceIte, ↓z_ite, ↓zR, ↓zB_R, ↓zB_B, ↓zB_ite, ↓zB_gI, ↓zB_pI, ↓zB_pZ, ↓zB_aK, ↓zB_G, ↓zB_lI, ↓zB_lZ, ↓zB_wI, ↓zB_wZ, ↓zB_lIl, ↓zB_wIl, zB_pI, zB_pZ, zB_lI, zB_lZ, zB_wI, zB_wZ, z_addl, z_ladd, z_mull, z_lmul, nI_add, z_subl, Nat.not_lt_zero, z_10, z_01, z_bitc, z_b0, z_b1, ↓zB_Gb, ↓zB_G0, ↓zB_G1, z_eql, z_leq, z_ltl, z_llt, z_eq, z_lt, z_m1lt, hbp.k, hbp.k1, hbp.k2, hbp.k3, hbp.k4, hbp.k5, hbp.k6, hbp.l1, hbp.l2, hbp.l3, hbp.l4, hbp.l5, hbp.l6, hbpk, ↓hbp.g0, ↓hbp.g1, ↓hbp.g2, ↓hbp.g3, ↓hbp.g4, ↓hbp.g5, ↓zB_c e15, zB_c e15]
          exact ew
        | true =>
          rw [y2] at e15 ew
          have ec : z_ct (z_rlb P k x) (i + 1) = z_ct (z_rlb P k x) i + 1 := by rw [z_ct_s, y2]; rfl
          rw [ec] at ew ⊢
          simp (disch := ((try simp only [true_or, or_true, hbp.k, hbp.k1, hbp.k2, hbp.k3, hbp.k4, hbp.k5, hbp.k6, hbp.l1, hbp.l2, hbp.l3, hbp.l4, hbp.l5, hbp.l6, hbpk]) <;> (try omega))) only [↓reduceIte, ↓z_ite, ↓zR, ↓zB_R, ↓zB_B, ↓zB_ite, ↓zB_gI, ↓zB_pI, ↓zB_pZ, ↓zB_aK, ↓zB_G, ↓zB_lI, ↓zB_lZ, ↓zB_wI, ↓zB_wZ, ↓zB_lIl, ↓zB_wIl, zB_pI, zB_pZ, zB_lI, zB_lZ, zB_wI, zB_wZ, z_addl, z_ladd, z_mull, z_lmul, nI_add, z_subl, Nat.not_lt_zero, z_10, z_01, z_bitc, z_b0, z_b1, ↓zB_Gb, ↓zB_G0, ↓zB_G1, z_eql, z_leq, z_ltl, z_llt, z_eq, z_lt, z_m1lt, hbp.k, hbp.k1, hbp.k2, hbp.k3, hbp.k4, hbp.k5, hbp.k6, hbp.l1, hbp.l2, hbp.l3, hbp.l4, hbp.l5, hbp.l6, hbpk, ↓hbp.g0, ↓hbp.g1, ↓hbp.g2, ↓hbp.g3, ↓hbp.g4, ↓hbp.g5, ↓zB_c e15, zB_c e15, Bool.true_eq_false]
          exact ew
end
