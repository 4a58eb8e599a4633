-- deps: 90.36.crl3
/-! a local renamed: the reference -/
section
variable {S : z_S} {m : z_m} {P : z_Pg} {A : z_A}
/-- what a name at a place may be bound to -/
theorem z_bv_c (P : z_Pg) (k : Nat) (l : List z_N) (i : Nat) (n : Int32) : (∃ j, z_le l i n = some j ∧ z_bv P k l i n = nI j) ∨ (z_le l i n = none ∧ ((z_bv P k l i n = -1 ∧ 0 < z_cnt P k ∧ z_hd P k 4 = n) ∨ (z_bv P k l i n = -2 ∧ 1 < z_cnt P k ∧ z_hd P k 5 = n) ∨ (∃ c, z_fc P (z_own P k) n.toNatClampNeg = some c ∧ z_bv P k l i n = nI (1000 + c)) ∨ (z_bv P k l i n = -9 ∧ ∀ T, z_tb P k l T i n = -3))) := by
  unfold z_bv
  cases h : z_le l i n with
  | some j => exact Or.inl ⟨j, rfl, rfl⟩
  | none =>
    refine Or.inr ⟨rfl, ?_⟩
    dsimp only
    by_cases g1 : 0 < z_cnt P k ∧ z_hd P k 4 = n
    · rw [if_pos g1]; exact Or.inl ⟨rfl, g1⟩
    · rw [if_neg g1]
      by_cases g2 : 1 < z_cnt P k ∧ z_hd P k 5 = n
      · rw [if_pos g2]; exact Or.inr (Or.inl ⟨rfl, g2⟩)
      · rw [if_neg g2]
        cases hf : z_fc P (z_own P k) n.toNatClampNeg with
        | some c => exact Or.inr (Or.inr (Or.inl ⟨c, rfl, rfl⟩))
        | none =>
          refine Or.inr (Or.inr (Or.inr ⟨rfl, fun T => ?_⟩))
          unfold z_tb
          rw [h]
          dsimp only
          rw [if_neg g1, if_neg g2, hf]
theorem z_Bd_v {k i : Nat} (h : z_isV (z_bd P k) i = true) : z_Bd P k i = z_bv P k (z_bd P k) i (z_v (z_bd P k) i) := by
  unfold z_isV at h
  have h : z_k (z_bd P k) i = 1 ∨ z_k (z_bd P k) i = 6 := by simpa [Bool.or_eq_true, beq_iff_eq] using h
  show z_bs _ _ _ _ _ = _
  unfold z_bs
  rw [if_pos h]
/-- a variable of a right body is bound -/
theorem z_Bd_9 (hw : z_wf P) (hR : z_RT P) {k i : Nat} (hlen : (z_bd P k).length ≤ 192) (hk : k < z_nm P) (hl : z_liv P k = true) (hi : i < (z_bd P k).length) (h : z_isV (z_bd P k) i = true) : z_Bd P k i ≠ -9 := by
  rw [z_Bd_v h]
  intro g
  obtain ⟨T, hT, _⟩ := hR k hk hl
  obtain ⟨h1, h2⟩ := hT i hi
  have hn : z_tb P k (z_bd P k) T i (z_v (z_bd P k) i) = -3 := by
    rcases z_bv_c P k (z_bd P k) i (z_v (z_bd P k) i) with ⟨j, q, e⟩ | ⟨_, ⟨e, _⟩ | ⟨e, _⟩ | ⟨c, hc, e⟩ | ⟨_, e⟩⟩
    · rw [g] at e
      have := (z_le_some q).1
      exact absurd e.symm (z_eqm (k := 9) (by omega) (by decide) (by decide))
    · rw [g] at e; exact absurd e (by decide)
    · rw [g] at e; exact absurd e (by decide)
    · rw [g] at e
      have := (z_fc_some hc).1
      have := (z_own_e hw hk).1
      have := hw.1.1
      exact absurd e.symm (z_eqm (k := 9) (by omega) (by decide) (by decide))
    · exact e T
  have h : z_k (z_bd P k) i = 1 ∨ z_k (z_bd P k) i = 6 := by unfold z_isV at h; simpa [Bool.or_eq_true, beq_iff_eq] using h
  apply h2
  rw [h1]
  rcases h with h | h
  · have : z_st P k (z_bd P k) T i = z_tb P k (z_bd P k) T i (z_v (z_bd P k) i) := by unfold z_st; rw [h]; rfl
    rw [this, hn]
  · have : z_st P k (z_bd P k) T i = if z_fit P (T (z_pt (z_bd P k) i 0)) (z_tb P k (z_bd P k) T i (z_v (z_bd P k) i)) = true then z_tb P k (z_bd P k) T i (z_v (z_bd P k) i) else -3 := by unfold z_st; rw [h]; rfl
    rw [this, hn]
    split <;> rfl
theorem z_m1l2 {b : Nat} (h : b < 2147483648) : (-1 : Int32) < nI b := by
  rw [z_ltI, nI_toInt h, show (-1 : Int32).toInt = -1 from rfl]; omega
theorem z_m2l2 {b : Nat} (h : b < 2147483648) : (-2 : Int32) < nI b := by
  rw [z_ltI, nI_toInt h, show (-2 : Int32).toInt = -2 from rfl]; omega
theorem z_l1000 {j : Nat} (h : j < 1000) : nI j < 1000 := (nI_ltI (a := j) (b := 1000) (by omega) (by decide)).mpr h
theorem z_nl0 {j : Nat} (h : j < 2147483648) : ¬ nI j < nI 0 := fun q => nI_pos h q
/-- a LET that begins in the v of another stands about nothing in its b -/
theorem z_lam3 {l : List z_N} (ht : z_tr l) {L j i : Nat} (hi : i < l.length) (h1 : L < j) (h2 : j < z_en l (L + 1)) (h3 : z_en l (L + 1) ≤ i) (h4 : i < z_en l j) : False := by
  by_cases g : j = L + 1
  · subst g; omega
  · have := z_lam' ht (i := L + 1) (j := j) (by omega) (by omega) h2
    omega
noncomputable def z_rcap (P : z_Pg) (k : Nat) (x name : Int32) (i : Nat) : Bool := z_isV (z_bd P k) i && (if z_Bd P k i = x then ((!(z_bv P k (z_bd P k) i name == -9) && decide (z_bv P k (z_bd P k) i name < 1000)) && !decide (z_bv P k (z_bd P k) i name < nI (z_rls P k x))) else (z_v (z_bd P k) i == name && ((!(z_Bd P k i == -9) && decide (z_Bd P k i < 1000)) && decide (z_Bd P k i < nI (z_rls P k x)))))
theorem z_big1 {c : Nat} (h : c < 6) : ¬ nI (1000 + c) < 1000 := by
  have : ∀ c, c < 6 → ¬ nI (1000 + c) < 1000 := by decide
  exact this c h
theorem z_cap_eq (hw : z_wf P) (hR : z_RT P) {k i : Nat} (hlen : (z_bd P k).length ≤ 192) (hk : k < z_nm P) (hl : z_liv P k = true) {x : Int32} (hx : z_vpl P k x) (h5 : x < 0 ∨ z_k (z_bd P k) x.toNatClampNeg = 5) {name : Int32} (hpc : ¬ (x < 0 ∧ (z_pc P k name).isSome = true)) (hne : ¬ name = z_nol P k x) (hi : i < (z_bd P k).length) (hs : z_rls P k x ≤ i) : z_rcap P k x name i = z_rlc P k x name i := by
  have ht := (hw.2.2.2.2.1 k hk).1
  have h6 := hw.1.1
  have ho := (z_own_e hw hk).1
  cases gv : z_isV (z_bd P k) i with
  | false =>
    have e1 : z_rlb P k x i = false := by unfold z_rlb z_isBL z_isL; rw [gv]; rfl
    have e2 : z_isO (z_bd P k) (z_Bd P k) i x = false := by unfold z_isO z_isL; rw [gv]; rfl
    unfold z_rcap z_rlc
    rw [gv, e1, e2, if_neg Bool.false_ne_true]; simp
  | true =>
    have h9 := z_Bd_9 hw hR hlen hk hl hi gv
    have eb := z_Bd_v gv
    have lo : ∀ L, x = nI L → L < (z_bd P k).length → z_rls P k x = z_en (z_bd P k) (L + 1) ∧ L < z_rls P k x ∧ ¬ x < 0 := fun L e hL => by
      have x0 : ¬ x < 0 := by rw [e]; exact nI_pos (by omega)
      have e1 : z_rls P k x = z_en (z_bd P k) (L + 1) := by
        unfold z_rls
        rw [if_neg x0, e, nI_clamp (by omega), z_pt_s, z_pt_0]
      have h8 : L + 1 < (z_bd P k).length := by
        have hLp : 0 < z_p (z_bd P k) L := by
          have : z_k (z_bd P k) L = 5 := by
            rcases h5 with q | q
            · exact absurd q x0
            · rw [e, nI_clamp (by omega)] at q; exact q
          unfold z_p; rw [this]; simp [z_pn]
        exact z_pt_lt ht hL hLp
      have := z_en_gt h8
      exact ⟨e1, by omega, x0⟩
    have xb : x < 1000 := by
      rcases hx with ⟨e, _⟩ | ⟨e, _⟩ | ⟨L, hL, e⟩
      · rw [e]; decide
      · rw [e]; decide
      · rw [e]; exact (nI_ltI (a := L) (b := 1000) (by omega) (by decide)).mpr (by omega)
    by_cases g : z_Bd P k i = x
    · have e1 : z_rlb P k x i = true := by
        unfold z_rlb z_isBL z_isL; rw [gv, g, decide_eq_true xb]; simp
      unfold z_rcap z_rlc
      rw [gv, e1, if_pos g, if_pos rfl, Bool.true_and]
      rcases z_bv_c P k (z_bd P k) i name with ⟨j, q, e⟩ | ⟨q, e⟩
      · have hj := z_le_some q
        rw [q, e]
        dsimp only
        have j9 : (nI j == -9) = false := by simpa using z_eqm (a := j) (k := 9) (by omega) (by decide) (by decide)
        rw [j9, decide_eq_true (z_l1000 (j := j) (by omega))]
        rcases hx with ⟨ex, _⟩ | ⟨ex, _⟩ | ⟨L, hL, ex⟩
        · have : z_rls P k x = 0 := if_pos (by rw [ex]; decide)
          rw [this, decide_eq_false (z_nl0 (j := j) (by omega)), decide_eq_true (by rw [ex]; exact z_m1l2 (by omega))]; rfl
        · have : z_rls P k x = 0 := if_pos (by rw [ex]; decide)
          rw [this, decide_eq_false (z_nl0 (j := j) (by omega)), decide_eq_true (by rw [ex]; exact z_m2l2 (by omega))]; rfl
        · obtain ⟨l1, l2, l3⟩ := lo L ex hL
          have hiff : (¬ nI j < nI (z_rls P k x)) ↔ x < nI j := by
            rw [ex] at l1 l2 hs
            rw [ex, nI_ltI (by omega) (by omega)]
            rw [nI_ltI (by omega) (by omega)]
            constructor
            · intro h; omega
            · intro h h'
              exact z_lam3 ht hi h (by omega) (by omega) hj.2.2.2.1
          by_cases y : x < nI j
          · rw [decide_eq_true y, decide_eq_false (hiff.mpr y)]; rfl
          · rw [decide_eq_false y, decide_eq_true (Classical.not_not.mp (fun h => y (hiff.mp h)))]; rfl
      · rw [q]
        dsimp only
        rcases e with ⟨e, _⟩ | ⟨e, _⟩ | ⟨c, hc, e⟩ | ⟨e, _⟩
        · rw [e, decide_eq_true (z_m1l2 (b := z_rls P k x) (by omega))]; decide
        · rw [e, decide_eq_true (z_m2l2 (b := z_rls P k x) (by omega))]; decide
        · have := (z_fc_some hc).1
          rw [e, decide_eq_false (z_big1 (by omega))]; simp
        · rw [e]; simp
    · have e1 : z_rlb P k x i = false := by
        unfold z_rlb z_isBL; rw [show (z_Bd P k i == x) = false by simpa using g, Bool.and_false]
      unfold z_rcap z_rlc
      rw [gv, e1, if_neg g, if_neg Bool.false_ne_true, Bool.true_and]
      have n9 : (z_Bd P k i == -9) = false := by simpa using h9
      have eO : z_isO (z_bd P k) (z_Bd P k) i x = (decide (z_Bd P k i < 1000) && decide (z_Bd P k i < x)) := by
        unfold z_isO z_isL; rw [gv, Bool.true_and]
      rw [n9, eO]
      by_cases gn : z_v (z_bd P k) i = name
      · rw [show (z_v (z_bd P k) i == name) = true by simpa using gn]
        rw [gn] at eb
        by_cases x0 : x < 0
        · have : z_rls P k x = 0 := if_pos x0
          rw [this, decide_eq_true x0]
          have hnone : z_pc P k name = none := by
            cases q : z_pc P k name with
            | none => rfl
            | some j => exact absurd ⟨x0, by rw [q]; rfl⟩ hpc
          unfold z_pc at hnone
          by_cases y1 : 0 < z_cnt P k ∧ z_hd P k 4 = name
          · rw [if_pos y1] at hnone; cases hnone
          · rw [if_neg y1] at hnone
            by_cases y2 : 1 < z_cnt P k ∧ z_hd P k 5 = name
            · rw [if_pos y2] at hnone; cases hnone
            · rcases z_bv_c P k (z_bd P k) i name with ⟨j, q, e⟩ | ⟨q, ⟨e, f⟩ | ⟨e, f⟩ | ⟨c, hc, e⟩ | ⟨e, _⟩⟩
              · have := (z_le_some q).1
                rw [eb, e, decide_eq_false (z_nl0 (j := j) (by omega))]; simp
              · exact absurd f y1
              · exact absurd f y2
              · have := (z_fc_some hc).1
                rw [eb, e, decide_eq_false (z_big1 (by omega))]; simp
              · exact absurd (eb.trans e) h9
        · obtain ⟨L, hL, ex⟩ : ∃ L, L < (z_bd P k).length ∧ x = nI L := by
            rcases hx with ⟨e, _⟩ | ⟨e, _⟩ | h
            · rw [e] at x0; exact absurd (by decide) x0
            · rw [e] at x0; exact absurd (by decide) x0
            · exact h
          obtain ⟨l1, l2, _⟩ := lo L ex hL
          rw [decide_eq_false x0]
          have hiff : z_Bd P k i < nI (z_rls P k x) ↔ z_Bd P k i < x := by
            rcases z_bv_c P k (z_bd P k) i name with ⟨j, q, e⟩ | ⟨q, ⟨e, f⟩ | ⟨e, f⟩ | ⟨c, hc, e⟩ | ⟨e, _⟩⟩
            · have hj := z_le_some q
              rw [eb, e] at g ⊢
              rw [ex] at g l1 l2 hs ⊢
              have hne : j ≠ L := fun q => g (by rw [q])
              rw [nI_ltI (by omega) (by omega), nI_ltI (by omega) (by omega)]
              constructor
              · intro h
                by_cases y : j < L
                · exact y
                · exact (z_lam3 ht hi (L := L) (j := j) (by omega) (by omega) (by omega) hj.2.2.2.1).elim
              · intro h; omega
            · rw [ex] at hs
              rw [eb, e, ex]
              exact ⟨fun _ => z_m1l2 (by omega), fun _ => z_m1l2 (by omega)⟩
            · rw [ex] at hs
              rw [eb, e, ex]
              exact ⟨fun _ => z_m2l2 (by omega), fun _ => z_m2l2 (by omega)⟩
            · have := (z_fc_some hc).1
              rw [ex] at hs l1 l2
              rw [eb, e, ex, nI_ltI (by omega) (by omega), nI_ltI (by omega) (by omega)]
              constructor <;> intro h <;> omega
            · exact absurd (eb.trans e) h9
          by_cases y : z_Bd P k i < x
          · rw [decide_eq_true y, decide_eq_true (hiff.mpr y)]; simp
          · rw [decide_eq_false y, decide_eq_false (fun h => y (hiff.mp h))]; simp
      · rw [show (z_v (z_bd P k) i == name) = false by simpa using gn]; simp
end
