/-! what the class asks of a program, and of a body -/
section
variable {S : z_S} {m : z_m} {p : Nat} {P : z_Pg}
theorem z_om_some (hw : z_wf P) {c k : Nat} {name cnt : Int32} : z_om P c name cnt = some k ↔ k < z_nm P ∧ z_isc P k name cnt = true ∧ z_own P k = c := by
  unfold z_om
  rw [z_lst_some]
  simp only [Bool.and_eq_true, beq_iff_eq]
  constructor
  · exact fun ⟨h1, h2, _⟩ => ⟨h1, h2.1, h2.2⟩
  · intro ⟨h1, h2, h3⟩
    refine ⟨h1, ⟨h2, h3⟩, fun i h4 h5 => ?_⟩
    cases hs : (z_isc P i name cnt && z_own P i == c) with
    | false => rfl
    | true =>
      simp only [Bool.and_eq_true, beq_iff_eq] at hs
      have := z_isc_uq hw h5 h1 hs.1 h2 (hs.2.trans h3.symm)
      omega
theorem z_om_none {c : Nat} {name cnt : Int32} : z_om P c name cnt = none ↔ ∀ k, k < z_nm P → z_isc P k name cnt = true → z_own P k ≠ c := by
  unfold z_om
  rw [z_lst_none]
  constructor
  · intro h k hk h1 h2
    have := h k hk
    rw [h1, h2] at this; simp at this
  · intro h k hk
    cases hs : z_isc P k name cnt with
    | false => rfl
    | true => have := h k hk hs; simpa using this
theorem z_fm_some (hw : z_wf P) {c k : Nat} (hc : c < z_nc P) {name cnt : Int32} : z_fm P c name cnt = some k ↔ k < z_nm P ∧ z_isc P k name cnt = true ∧ z_blw P c (z_own P k) = true ∧ ∀ j, j < z_nm P → z_isc P j name cnt = true → z_blw P c (z_own P j) = true → z_own P j ≤ z_own P k := by
  unfold z_fm
  constructor
  · intro h
    rw [Option.bind_eq_some_iff] at h
    obtain ⟨d, h1, h2⟩ := h
    obtain ⟨h3, h4, h5⟩ := z_lst_some.mp h1
    obtain ⟨h6, h7, h8⟩ := (z_om_some hw).mp h2
    rw [Bool.and_eq_true] at h4
    refine ⟨h6, h7, by rw [h8]; exact h4.1, fun j hj hs hb => ?_⟩
    rw [h8]
    rcases Nat.lt_or_ge d (z_own P j) with h9 | h9
    · have h10 := z_blw_le hw.1 hc hb
      have h11 := h5 _ h9 (by omega)
      rw [hb, (z_om_some hw).mpr ⟨hj, hs, rfl⟩] at h11
      simp at h11
    · exact h9
  · intro ⟨h1, h2, h3, h4⟩
    have h5 : z_lst (fun d => z_blw P c d && (z_om P d name cnt).isSome) (c + 1) = some (z_own P k) := by
      refine z_lst_some.mpr ⟨Nat.lt_succ_of_le (z_blw_le hw.1 hc h3), ?_, fun i h5 h6 => ?_⟩
      · rw [h3, (z_om_some hw).mpr ⟨h1, h2, rfl⟩]; rfl
      · cases hb : z_blw P c i with
        | false => rfl
        | true =>
          cases ho : z_om P i name cnt with
          | none => rfl
          | some j =>
            obtain ⟨h7, h8, h9⟩ := (z_om_some hw).mp ho
            have := h4 j h7 h8 (by rw [h9]; exact hb)
            omega
    rw [h5]
    exact (z_om_some hw).mpr ⟨h1, h2, rfl⟩
theorem z_fm_none (hw : z_wf P) {c : Nat} (hc : c < z_nc P) {name cnt : Int32} : z_fm P c name cnt = none ↔ ∀ j, j < z_nm P → z_isc P j name cnt = true → z_blw P c (z_own P j) = false := by
  unfold z_fm
  rw [Option.bind_eq_none_iff]
  constructor
  · intro h j hj hs
    cases hb : z_blw P c (z_own P j) with
    | false => rfl
    | true =>
      have h1 : (fun d => z_blw P c d && (z_om P d name cnt).isSome) (z_own P j) = true := by
        show (z_blw P c (z_own P j) && (z_om P (z_own P j) name cnt).isSome) = true
        rw [hb, (z_om_some hw).mpr ⟨hj, hs, rfl⟩]; rfl
      cases hl : z_lst (fun d => z_blw P c d && (z_om P d name cnt).isSome) (c + 1) with
      | none =>
        have := z_lst_none.mp hl (z_own P j) (Nat.lt_succ_of_le (z_blw_le hw.1 hc hb))
        exact Bool.noConfusion (h1.symm.trans this)
      | some d =>
        have h2 := h d hl
        have h3 := (z_lst_some.mp hl).2.1
        rw [h2] at h3; simp at h3
  · intro h d hd
    cases ho : z_om P d name cnt with
    | none => rfl
    | some j =>
      obtain ⟨h7, h8, h9⟩ := (z_om_some hw).mp ho
      have h3 := (z_lst_some.mp hd).2.1
      rw [← h9, h j h7 h8] at h3; simp at h3
/-- the best of the first methods -/
def z_bm (P : z_Pg) (c : Nat) (name cnt : Int32) : Nat → Option Nat
  | 0 => none
  | i + 1 => if (z_isc P i name cnt && (z_blw P c (z_own P i) && (match z_bm P c name cnt i with | none => true | some f => decide (z_own P f < z_own P i)))) = true then some i else z_bm P c name cnt i
theorem z_bm_c {c : Nat} {name cnt : Int32} : ∀ n, (z_bm P c name cnt n = none ∧ ∀ j, j < n → z_isc P j name cnt = true → z_blw P c (z_own P j) = false) ∨ ∃ k, z_bm P c name cnt n = some k ∧ k < n ∧ z_isc P k name cnt = true ∧ z_blw P c (z_own P k) = true ∧ ∀ j, j < n → z_isc P j name cnt = true → z_blw P c (z_own P j) = true → z_own P j ≤ z_own P k := by
  intro n
  induction n with
  | zero => exact Or.inl ⟨rfl, fun j h => by omega⟩
  | succ n ih =>
    unfold z_bm
    rcases ih with ⟨h1, h2⟩ | ⟨k, h1, h2, h3, h4, h5⟩
    · rw [h1]
      cases hs : z_isc P n name cnt with
      | false =>
        refine Or.inl ⟨by simp, fun j hj hjs => ?_⟩
        rcases Nat.lt_succ_iff_lt_or_eq.mp hj with h6 | h6
        · exact h2 j h6 hjs
        · rw [h6, hs] at hjs; cases hjs
      | true =>
        cases hb : z_blw P c (z_own P n) with
        | false =>
          refine Or.inl ⟨by simp, fun j hj hjs => ?_⟩
          rcases Nat.lt_succ_iff_lt_or_eq.mp hj with h6 | h6
          · exact h2 j h6 hjs
          · rw [h6]; exact hb
        | true =>
          refine Or.inr ⟨n, by simp, Nat.lt_succ_self n, hs, hb, fun j hj hjs hjb => ?_⟩
          rcases Nat.lt_succ_iff_lt_or_eq.mp hj with h6 | h6
          · rw [h2 j h6 hjs] at hjb; cases hjb
          · rw [h6]; exact Nat.le_refl _
    · rw [h1]
      cases hs : z_isc P n name cnt with
      | false =>
        refine Or.inr ⟨k, by simp, by omega, h3, h4, fun j hj hjs hjb => ?_⟩
        rcases Nat.lt_succ_iff_lt_or_eq.mp hj with h6 | h6
        · exact h5 j h6 hjs hjb
        · rw [h6, hs] at hjs; cases hjs
      | true =>
        cases hb : z_blw P c (z_own P n) with
        | false =>
          refine Or.inr ⟨k, by simp, by omega, h3, h4, fun j hj hjs hjb => ?_⟩
          rcases Nat.lt_succ_iff_lt_or_eq.mp hj with h6 | h6
          · exact h5 j h6 hjs hjb
          · rw [h6, hb] at hjb; cases hjb
        | true =>
          by_cases hlt : z_own P k < z_own P n
          · refine Or.inr ⟨n, by simp [hlt], Nat.lt_succ_self n, hs, hb, fun j hj hjs hjb => ?_⟩
            rcases Nat.lt_succ_iff_lt_or_eq.mp hj with h6 | h6
            · have := h5 j h6 hjs hjb; omega
            · rw [h6]; exact Nat.le_refl _
          · refine Or.inr ⟨k, by simp [hlt], by omega, h3, h4, fun j hj hjs hjb => ?_⟩
            rcases Nat.lt_succ_iff_lt_or_eq.mp hj with h6 | h6
            · exact h5 j h6 hjs hjb
            · rw [h6]; omega
theorem z_bm_e (hw : z_wf P) {c : Nat} (hc : c < z_nc P) {name cnt : Int32} : z_bm P c name cnt (z_nm P) = z_fm P c name cnt := by
  rcases z_bm_c (P := P) (c := c) (name := name) (cnt := cnt) (z_nm P) with ⟨h1, h2⟩ | ⟨k, h1, h2, h3, h4, h5⟩
  · rw [h1, (z_fm_none hw hc).mpr h2]
  · rw [h1, (z_fm_some hw hc).mpr ⟨h2, h3, h4, h5⟩]
theorem f90_sp (hp : z_PS S p) (h : z_cp m p P) (hw : z_wf P) {c : Nat} (hc : c < z_nc P) (name cnt : Int32) : f90 p (nI c) name cnt (z_hp S m) = some (z_oI (z_fm P c name cnt), z_hp S m) := by
  have h6 := hw.1.1
  have h24 := hw.2.2.1
  have h0 := h.2.1.1
  unfold f90 f90_6
  rw [← z_bm_e hw hc]
  refine z_path (fun i => (p, nI c, name, cnt, z_oI (z_bm P c name cnt i), nI i)) (fun _ => m) (z_nm P) 0 1000000 (by omega) (fun i _ hi => ?_) ?_
  · have hi : i < z_nm P := by omega
    have hb := h.2.1.2.1 i (by omega)
    simp only [hi, decide_true, Bool.true_and] at hb
    have ho := z_own_e hw hi
    dsimp only
    rw [show z_bm P c name cnt (i + 1) = if (z_isc P i name cnt && (z_blw P c (z_own P i) && (match z_bm P c name cnt i with | none => true | some f => decide (z_own P f < z_own P i)))) = true then some i else z_bm P c name cnt i from rfl]
    unfold f90_6b f90_54 f90_55 f90_105 f90_109
    cases hl : z_liv P i with
    | false =>
      have hs : z_isc P i name cnt = false := by unfold z_isc; rw [hl]; rfl
      simp (disch := ((try simp only [true_or, or_true, hp.k, hp.k1, hp.k2, hp.k3, hp.k4, hp.k5, hp.k6, hp.k7, hp.k8, hp.k9, hp.k10, hp.l1, hp.l2, hp.l3, hp.l4, hp.l5, hp.l6, hp.l7, hp.l8, hp.l9, hp.l10]) <;> (try omega))) only [↓reduceIte, ↓z_ite, ↓zR, ↓zB_R, ↓zB_B, ↓zB_ite, ↓zB_gI, ↓zB_pI, ↓zB_pZ, ↓zB_aK, ↓zB_G, ↓zB_lI, ↓zB_lZ, ↓zB_wI, ↓zB_wZ, zB_pI, zB_pZ, zB_lI, zB_lZ, zB_wI, zB_wZ, z_addl, z_ladd, z_mull, z_lmul, nI_add, z_subl, z_10, z_01, z_bitc, z_b0, z_b1, ↓zB_Gb, ↓zB_G0, ↓zB_G1, z_eql, z_leq, z_ltl, z_llt, z_eq, z_lt, z_m1lt, hp.k, hp.k1, hp.k2, hp.k3, hp.k4, hp.k5, hp.k6, hp.k7, hp.k8, hp.k9, hp.k10, hp.l1, hp.l2, hp.l3, hp.l4, hp.l5, hp.l6, hp.l7, hp.l8, hp.l9, hp.l10, ↓hp.g0, ↓hp.g1, ↓hp.g2, ↓hp.g3, ↓hp.g4, ↓hp.g5, ↓hp.g6, ↓hp.g7, ↓hp.g8, ↓hp.g9, ↓hp.gb, hp.gb, h0, hi, hb, hl, hs, Bool.false_eq_true, Bool.false_and]
    | true =>
      have h2 := h.2.1.2.2 i hi hl
      by_cases g1 : z_hd P i 2 = name
      · by_cases g2 : z_hd P i 3 = cnt
        · have hs : z_isc P i name cnt = true := by unfold z_isc; rw [hl, g1, g2]; simp
          have hd := (h.1.2 c hc).2.1 (z_own P i) (by omega)
          cases hbl : z_blw P c (z_own P i) with
          | false =>
            simp (disch := ((try simp only [true_or, or_true, hp.k, hp.k1, hp.k2, hp.k3, hp.k4, hp.k5, hp.k6, hp.k7, hp.k8, hp.k9, hp.k10, hp.l1, hp.l2, hp.l3, hp.l4, hp.l5, hp.l6, hp.l7, hp.l8, hp.l9, hp.l10]) <;> (try omega))) only [↓reduceIte, ↓z_ite, ↓zR, ↓zB_R, ↓zB_B, ↓zB_ite, ↓zB_gI, ↓zB_pI, ↓zB_pZ, ↓zB_aK, ↓zB_G, ↓zB_lI, ↓zB_lZ, ↓zB_wI, ↓zB_wZ, zB_pI, zB_pZ, zB_lI, zB_lZ, zB_wI, zB_wZ, z_addl, z_ladd, z_mull, z_lmul, nI_add, z_subl, z_10, z_01, z_bitc, z_b0, z_b1, ↓zB_Gb, ↓zB_G0, ↓zB_G1, z_eql, z_leq, z_ltl, z_llt, z_eq, z_lt, z_m1lt, hp.k, hp.k1, hp.k2, hp.k3, hp.k4, hp.k5, hp.k6, hp.k7, hp.k8, hp.k9, hp.k10, hp.l1, hp.l2, hp.l3, hp.l4, hp.l5, hp.l6, hp.l7, hp.l8, hp.l9, hp.l10, ↓hp.g0, ↓hp.g1, ↓hp.g2, ↓hp.g3, ↓hp.g4, ↓hp.g5, ↓hp.g6, ↓hp.g7, ↓hp.g8, ↓hp.g9, ↓hp.gb, hp.gb, h0, hi, hb, hl, hs, h2.2.1, h2.2.2.1, g1, g2, h2.1, ho.2, hd, hbl, Bool.false_eq_true, Bool.false_and, Bool.and_false]
            try simp
          | true =>
            rcases z_bm_c (P := P) (c := c) (name := name) (cnt := cnt) i with ⟨e, _⟩ | ⟨k, e, hk, h3, h4, _⟩
            · rw [e]
              simp (disch := ((try simp only [true_or, or_true, hp.k, hp.k1, hp.k2, hp.k3, hp.k4, hp.k5, hp.k6, hp.k7, hp.k8, hp.k9, hp.k10, hp.l1, hp.l2, hp.l3, hp.l4, hp.l5, hp.l6, hp.l7, hp.l8, hp.l9, hp.l10]) <;> (try omega))) only [↓reduceIte, ↓z_ite, ↓zR, ↓zB_R, ↓zB_B, ↓zB_ite, ↓zB_gI, ↓zB_pI, ↓zB_pZ, ↓zB_aK, ↓zB_G, ↓zB_lI, ↓zB_lZ, ↓zB_wI, ↓zB_wZ, zB_pI, zB_pZ, zB_lI, zB_lZ, zB_wI, zB_wZ, z_addl, z_ladd, z_mull, z_lmul, nI_add, z_subl, z_10, z_01, z_bitc, z_b0, z_b1, ↓zB_Gb, ↓zB_G0, ↓zB_G1, z_eql, z_leq, z_ltl, z_llt, z_eq, z_lt, z_m1lt, hp.k, hp.k1, hp.k2, hp.k3, hp.k4, hp.k5, hp.k6, hp.k7, hp.k8, hp.k9, hp.k10, hp.l1, hp.l2, hp.l3, hp.l4, hp.l5, hp.l6, hp.l7, hp.l8, hp.l9, hp.l10, ↓hp.g0, ↓hp.g1, ↓hp.g2, ↓hp.g3, ↓hp.g4, ↓hp.g5, ↓hp.g6, ↓hp.g7, ↓hp.g8, ↓hp.g9, ↓hp.gb, hp.gb, h0, hi, hb, hl, hs, h2.2.1, h2.2.2.1, g1, g2, h2.1, ho.2, hd, hbl, z_oI]
              simp
            · rw [e]
              have h5 := h.2.1.2.2 k (by omega) (z_isc_liv h3)
              have hk' := z_own_e hw (k := k) (by omega)
              have hn : ¬ nI k = -1 := z_nI_m1 (by omega)
              simp (disch := ((try simp only [true_or, or_true, hp.k, hp.k1, hp.k2, hp.k3, hp.k4, hp.k5, hp.k6, hp.k7, hp.k8, hp.k9, hp.k10, hp.l1, hp.l2, hp.l3, hp.l4, hp.l5, hp.l6, hp.l7, hp.l8, hp.l9, hp.l10]) <;> (try omega))) only [↓reduceIte, ↓z_ite, ↓zR, ↓zB_R, ↓zB_B, ↓zB_ite, ↓zB_gI, ↓zB_pI, ↓zB_pZ, ↓zB_aK, ↓zB_G, ↓zB_lI, ↓zB_lZ, ↓zB_wI, ↓zB_wZ, zB_pI, zB_pZ, zB_lI, zB_lZ, zB_wI, zB_wZ, z_addl, z_ladd, z_mull, z_lmul, nI_add, z_subl, z_10, z_01, z_bitc, z_b0, z_b1, ↓zB_Gb, ↓zB_G0, ↓zB_G1, z_eql, z_leq, z_ltl, z_llt, z_eq, z_lt, z_m1lt, hp.k, hp.k1, hp.k2, hp.k3, hp.k4, hp.k5, hp.k6, hp.k7, hp.k8, hp.k9, hp.k10, hp.l1, hp.l2, hp.l3, hp.l4, hp.l5, hp.l6, hp.l7, hp.l8, hp.l9, hp.l10, ↓hp.g0, ↓hp.g1, ↓hp.g2, ↓hp.g3, ↓hp.g4, ↓hp.g5, ↓hp.g6, ↓hp.g7, ↓hp.g8, ↓hp.g9, ↓hp.gb, hp.gb, h0, hi, hb, hl, hs, h2.2.1, h2.2.2.1, g1, g2, h2.1, ho.2, hd, hbl, z_oI, hn, h5.1, hk'.2]
              by_cases g3 : z_own P k < z_own P i <;> simp [g3]
        · have hs : z_isc P i name cnt = false := by unfold z_isc; rw [hl]; simp [g2]
          simp (disch := ((try simp only [true_or, or_true, hp.k, hp.k1, hp.k2, hp.k3, hp.k4, hp.k5, hp.k6, hp.k7, hp.k8, hp.k9, hp.k10, hp.l1, hp.l2, hp.l3, hp.l4, hp.l5, hp.l6, hp.l7, hp.l8, hp.l9, hp.l10]) <;> (try omega))) only [↓reduceIte, ↓z_ite, ↓zR, ↓zB_R, ↓zB_B, ↓zB_ite, ↓zB_gI, ↓zB_pI, ↓zB_pZ, ↓zB_aK, ↓zB_G, ↓zB_lI, ↓zB_lZ, ↓zB_wI, ↓zB_wZ, zB_pI, zB_pZ, zB_lI, zB_lZ, zB_wI, zB_wZ, z_addl, z_ladd, z_mull, z_lmul, nI_add, z_subl, z_10, z_01, z_bitc, z_b0, z_b1, ↓zB_Gb, ↓zB_G0, ↓zB_G1, z_eql, z_leq, z_ltl, z_llt, z_eq, z_lt, z_m1lt, hp.k, hp.k1, hp.k2, hp.k3, hp.k4, hp.k5, hp.k6, hp.k7, hp.k8, hp.k9, hp.k10, hp.l1, hp.l2, hp.l3, hp.l4, hp.l5, hp.l6, hp.l7, hp.l8, hp.l9, hp.l10, ↓hp.g0, ↓hp.g1, ↓hp.g2, ↓hp.g3, ↓hp.g4, ↓hp.g5, ↓hp.g6, ↓hp.g7, ↓hp.g8, ↓hp.g9, ↓hp.gb, hp.gb, h0, hi, hb, hl, hs, h2.2.1, h2.2.2.1, g1, g2, Bool.false_eq_true, Bool.false_and]
      · have hs : z_isc P i name cnt = false := by unfold z_isc; rw [hl]; simp [g1]
        simp (disch := ((try simp only [true_or, or_true, hp.k, hp.k1, hp.k2, hp.k3, hp.k4, hp.k5, hp.k6, hp.k7, hp.k8, hp.k9, hp.k10, hp.l1, hp.l2, hp.l3, hp.l4, hp.l5, hp.l6, hp.l7, hp.l8, hp.l9, hp.l10]) <;> (try omega))) only [↓reduceIte, ↓z_ite, ↓zR, ↓zB_R, ↓zB_B, ↓zB_ite, ↓zB_gI, ↓zB_pI, ↓zB_pZ, ↓zB_aK, ↓zB_G, ↓zB_lI, ↓zB_lZ, ↓zB_wI, ↓zB_wZ, zB_pI, zB_pZ, zB_lI, zB_lZ, zB_wI, zB_wZ, z_addl, z_ladd, z_mull, z_lmul, nI_add, z_subl, z_10, z_01, z_bitc, z_b0, z_b1, ↓zB_Gb, ↓zB_G0, ↓zB_G1, z_eql, z_leq, z_ltl, z_llt, z_eq, z_lt, z_m1lt, hp.k, hp.k1, hp.k2, hp.k3, hp.k4, hp.k5, hp.k6, hp.k7, hp.k8, hp.k9, hp.k10, hp.l1, hp.l2, hp.l3, hp.l4, hp.l5, hp.l6, hp.l7, hp.l8, hp.l9, hp.l10, ↓hp.g0, ↓hp.g1, ↓hp.g2, ↓hp.g3, ↓hp.g4, ↓hp.g5, ↓hp.g6, ↓hp.g7, ↓hp.g8, ↓hp.g9, ↓hp.gb, hp.gb, h0, hi, hb, hl, hs, h2.2.1, h2.2.2.1, g1, Bool.false_eq_true, Bool.false_and]
  · unfold f90_6b f90_115
    simp (disch := ((try simp only [true_or, or_true, hp.k, hp.k1, hp.k2, hp.k3, hp.k4, hp.k5, hp.k6, hp.k7, hp.k8, hp.k9, hp.k10, hp.l1, hp.l2, hp.l3, hp.l4, hp.l5, hp.l6, hp.l7, hp.l8, hp.l9, hp.l10]) <;> (try omega))) only [↓reduceIte, ↓z_ite, ↓zR, ↓zB_R, ↓zB_B, ↓zB_ite, ↓zB_gI, ↓zB_pI, ↓zB_pZ, ↓zB_aK, ↓zB_G, ↓zB_lI, ↓zB_lZ, ↓zB_wI, ↓zB_wZ, zB_pI, zB_pZ, zB_lI, zB_lZ, zB_wI, zB_wZ, z_addl, z_ladd, z_mull, z_lmul, nI_add, z_subl, z_10, z_01, z_bitc, z_b0, z_b1, ↓zB_Gb, ↓zB_G0, ↓zB_G1, z_eql, z_leq, z_ltl, z_llt, z_eq, z_lt, z_m1lt, hp.k, hp.k1, hp.k2, hp.k3, hp.k4, hp.k5, hp.k6, hp.k7, hp.k8, hp.k9, hp.k10, hp.l1, hp.l2, hp.l3, hp.l4, hp.l5, hp.l6, hp.l7, hp.l8, hp.l9, hp.l10, ↓hp.g0, ↓hp.g1, ↓hp.g2, ↓hp.g3, ↓hp.g4, ↓hp.g5, ↓hp.g6, ↓hp.g7, ↓hp.g8, ↓hp.g9, ↓hp.gb, hp.gb, h0, Nat.zero_add, Nat.lt_irrefl]
theorem f91_sp (hp : z_PS S p) (h : z_cp m p P) (hw : z_wf P) {c : Nat} (hc : c < z_nc P) (name cnt : Int32) : f91 p (nI c) name cnt (z_hp S m) = some (z_b (z_ham P c name cnt), z_hp S m) := by
  have h6 := hw.1.1
  have h24 := hw.2.2.1
  have h0 := h.2.1.1
  unfold f91 f91_3
  refine (z_search (fun i => (p, nI c, name, cnt, nI i)) (fun k => z_isc P k name cnt && z_akin P (z_own P k) c) (fun _ => 1) 0 (z_nm P) 0 1000000 (by omega) (fun i _ hi => ?_) ?_).trans ?_
  · have hi : i < z_nm P := by omega
    have ho := z_own_e hw hi
    dsimp only
    unfold f91_3b f91_38 f91_40
    cases hs : z_isc P i name cnt with
    | false => simp (disch := ((try simp only [true_or, or_true, hp.k, hp.k1, hp.k2, hp.k3, hp.k4, hp.k5, hp.k6, hp.k7, hp.k8, hp.k9, hp.k10, hp.l1, hp.l2, hp.l3, hp.l4, hp.l5, hp.l6, hp.l7, hp.l8, hp.l9, hp.l10]) <;> (try omega))) only [↓reduceIte, ↓z_ite, ↓zR, ↓zB_R, ↓zB_B, ↓zB_ite, ↓zB_gI, ↓zB_pI, ↓zB_pZ, ↓zB_aK, ↓zB_G, ↓zB_lI, ↓zB_lZ, ↓zB_wI, ↓zB_wZ, zB_pI, zB_pZ, zB_lI, zB_lZ, zB_wI, zB_wZ, z_addl, z_ladd, z_mull, z_lmul, nI_add, z_subl, z_10, z_01, z_bitc, z_b0, z_b1, ↓zB_Gb, ↓zB_G0, ↓zB_G1, z_eql, z_leq, z_ltl, z_llt, z_eq, z_lt, z_m1lt, hp.k, hp.k1, hp.k2, hp.k3, hp.k4, hp.k5, hp.k6, hp.k7, hp.k8, hp.k9, hp.k10, hp.l1, hp.l2, hp.l3, hp.l4, hp.l5, hp.l6, hp.l7, hp.l8, hp.l9, hp.l10, ↓hp.g0, ↓hp.g1, ↓hp.g2, ↓hp.g3, ↓hp.g4, ↓hp.g5, ↓hp.g6, ↓hp.g7, ↓hp.g8, ↓hp.g9, ↓hp.gb, hp.gb, h0, hi, ↓zB_c (f88_sp hp h hw hi name cnt), zB_c (f88_sp hp h hw hi name cnt), hs, Bool.false_and, Bool.false_eq_true]
    | true =>
      have h2 := (h.2.1.2.2 i hi (z_isc_liv hs)).1
      simp (disch := ((try simp only [true_or, or_true, hp.k, hp.k1, hp.k2, hp.k3, hp.k4, hp.k5, hp.k6, hp.k7, hp.k8, hp.k9, hp.k10, hp.l1, hp.l2, hp.l3, hp.l4, hp.l5, hp.l6, hp.l7, hp.l8, hp.l9, hp.l10]) <;> (try omega))) only [↓reduceIte, ↓z_ite, ↓zR, ↓zB_R, ↓zB_B, ↓zB_ite, ↓zB_gI, ↓zB_pI, ↓zB_pZ, ↓zB_aK, ↓zB_G, ↓zB_lI, ↓zB_lZ, ↓zB_wI, ↓zB_wZ, zB_pI, zB_pZ, zB_lI, zB_lZ, zB_wI, zB_wZ, z_addl, z_ladd, z_mull, z_lmul, nI_add, z_subl, z_10, z_01, z_bitc, z_b0, z_b1, ↓zB_Gb, ↓zB_G0, ↓zB_G1, z_eql, z_leq, z_ltl, z_llt, z_eq, z_lt, z_m1lt, hp.k, hp.k1, hp.k2, hp.k3, hp.k4, hp.k5, hp.k6, hp.k7, hp.k8, hp.k9, hp.k10, hp.l1, hp.l2, hp.l3, hp.l4, hp.l5, hp.l6, hp.l7, hp.l8, hp.l9, hp.l10, ↓hp.g0, ↓hp.g1, ↓hp.g2, ↓hp.g3, ↓hp.g4, ↓hp.g5, ↓hp.g6, ↓hp.g7, ↓hp.g8, ↓hp.g9, ↓hp.gb, hp.gb, h0, hi, ↓zB_c (f88_sp hp h hw hi name cnt), zB_c (f88_sp hp h hw hi name cnt), hs, h2, ho.2, ↓zB_c (f83_sp hp h hw ho.1 hc), zB_c (f83_sp hp h hw ho.1 hc)]
      cases z_akin P (z_own P i) c <;> simp
  · dsimp only
    unfold f91_3b f91_46
    simp (disch := ((try simp only [true_or, or_true, hp.k, hp.k1, hp.k2, hp.k3, hp.k4, hp.k5, hp.k6, hp.k7, hp.k8, hp.k9, hp.k10, hp.l1, hp.l2, hp.l3, hp.l4, hp.l5, hp.l6, hp.l7, hp.l8, hp.l9, hp.l10]) <;> (try omega))) only [↓reduceIte, ↓z_ite, ↓zR, ↓zB_R, ↓zB_B, ↓zB_ite, ↓zB_gI, ↓zB_pI, ↓zB_pZ, ↓zB_aK, ↓zB_G, ↓zB_lI, ↓zB_lZ, ↓zB_wI, ↓zB_wZ, zB_pI, zB_pZ, zB_lI, zB_lZ, zB_wI, zB_wZ, z_addl, z_ladd, z_mull, z_lmul, nI_add, z_subl, z_10, z_01, z_bitc, z_b0, z_b1, ↓zB_Gb, ↓zB_G0, ↓zB_G1, z_eql, z_leq, z_ltl, z_llt, z_eq, z_lt, z_m1lt, hp.k, hp.k1, hp.k2, hp.k3, hp.k4, hp.k5, hp.k6, hp.k7, hp.k8, hp.k9, hp.k10, hp.l1, hp.l2, hp.l3, hp.l4, hp.l5, hp.l6, hp.l7, hp.l8, hp.l9, hp.l10, ↓hp.g0, ↓hp.g1, ↓hp.g2, ↓hp.g3, ↓hp.g4, ↓hp.g5, ↓hp.g6, ↓hp.g7, ↓hp.g8, ↓hp.g9, ↓hp.gb, hp.gb, h0, Nat.zero_add, Nat.lt_irrefl]
  · rw [z_sch_b]; rfl
theorem f92_sp (hp : z_PS S p) (h : z_cp m p P) (hw : z_wf P) {c : Nat} (hc : c < z_nc P) (name cnt : Int32) : f92 p (nI c) name cnt (z_hp S m) = some (z_b (z_hmb P c name cnt), z_hp S m) := by
  have h6 := hw.1.1
  have h24 := hw.2.2.1
  have h0 := h.2.1.1
  unfold f92 f92_3
  refine (z_search (fun i => (p, nI c, name, cnt, nI i)) (fun k => z_isc P k name cnt && (z_own P k != c && z_blw P (z_own P k) c)) (fun _ => 1) 0 (z_nm P) 0 1000000 (by omega) (fun i _ hi => ?_) ?_).trans ?_
  · have hi : i < z_nm P := by omega
    have ho := z_own_e hw hi
    dsimp only
    unfold f92_3b f92_49 f92_51
    cases hs : z_isc P i name cnt with
    | false => simp (disch := ((try simp only [true_or, or_true, hp.k, hp.k1, hp.k2, hp.k3, hp.k4, hp.k5, hp.k6, hp.k7, hp.k8, hp.k9, hp.k10, hp.l1, hp.l2, hp.l3, hp.l4, hp.l5, hp.l6, hp.l7, hp.l8, hp.l9, hp.l10]) <;> (try omega))) only [↓reduceIte, ↓z_ite, ↓zR, ↓zB_R, ↓zB_B, ↓zB_ite, ↓zB_gI, ↓zB_pI, ↓zB_pZ, ↓zB_aK, ↓zB_G, ↓zB_lI, ↓zB_lZ, ↓zB_wI, ↓zB_wZ, zB_pI, zB_pZ, zB_lI, zB_lZ, zB_wI, zB_wZ, z_addl, z_ladd, z_mull, z_lmul, nI_add, z_subl, z_10, z_01, z_bitc, z_b0, z_b1, ↓zB_Gb, ↓zB_G0, ↓zB_G1, z_eql, z_leq, z_ltl, z_llt, z_eq, z_lt, z_m1lt, hp.k, hp.k1, hp.k2, hp.k3, hp.k4, hp.k5, hp.k6, hp.k7, hp.k8, hp.k9, hp.k10, hp.l1, hp.l2, hp.l3, hp.l4, hp.l5, hp.l6, hp.l7, hp.l8, hp.l9, hp.l10, ↓hp.g0, ↓hp.g1, ↓hp.g2, ↓hp.g3, ↓hp.g4, ↓hp.g5, ↓hp.g6, ↓hp.g7, ↓hp.g8, ↓hp.g9, ↓hp.gb, hp.gb, h0, hi, ↓zB_c (f88_sp hp h hw hi name cnt), zB_c (f88_sp hp h hw hi name cnt), hs, Bool.false_and, Bool.false_eq_true]
    | true =>
      have h2 := (h.2.1.2.2 i hi (z_isc_liv hs)).1
      simp (disch := ((try simp only [true_or, or_true, hp.k, hp.k1, hp.k2, hp.k3, hp.k4, hp.k5, hp.k6, hp.k7, hp.k8, hp.k9, hp.k10, hp.l1, hp.l2, hp.l3, hp.l4, hp.l5, hp.l6, hp.l7, hp.l8, hp.l9, hp.l10]) <;> (try omega))) only [↓reduceIte, ↓z_ite, ↓zR, ↓zB_R, ↓zB_B, ↓zB_ite, ↓zB_gI, ↓zB_pI, ↓zB_pZ, ↓zB_aK, ↓zB_G, ↓zB_lI, ↓zB_lZ, ↓zB_wI, ↓zB_wZ, zB_pI, zB_pZ, zB_lI, zB_lZ, zB_wI, zB_wZ, z_addl, z_ladd, z_mull, z_lmul, nI_add, z_subl, z_10, z_01, z_bitc, z_b0, z_b1, ↓zB_Gb, ↓zB_G0, ↓zB_G1, z_eql, z_leq, z_ltl, z_llt, z_eq, z_lt, z_m1lt, hp.k, hp.k1, hp.k2, hp.k3, hp.k4, hp.k5, hp.k6, hp.k7, hp.k8, hp.k9, hp.k10, hp.l1, hp.l2, hp.l3, hp.l4, hp.l5, hp.l6, hp.l7, hp.l8, hp.l9, hp.l10, ↓hp.g0, ↓hp.g1, ↓hp.g2, ↓hp.g3, ↓hp.g4, ↓hp.g5, ↓hp.g6, ↓hp.g7, ↓hp.g8, ↓hp.g9, ↓hp.gb, hp.gb, h0, hi, ↓zB_c (f88_sp hp h hw hi name cnt), zB_c (f88_sp hp h hw hi name cnt), hs, h2, ho.2, ↓zB_c (f82_sp hp h hw ho.1 (show c < 32 by omega)), zB_c (f82_sp hp h hw ho.1 (show c < 32 by omega))]
      by_cases g : z_own P i = c
      · simp [g]
      · cases z_blw P (z_own P i) c <;> simp [g]
  · dsimp only
    unfold f92_3b f92_57
    simp (disch := ((try simp only [true_or, or_true, hp.k, hp.k1, hp.k2, hp.k3, hp.k4, hp.k5, hp.k6, hp.k7, hp.k8, hp.k9, hp.k10, hp.l1, hp.l2, hp.l3, hp.l4, hp.l5, hp.l6, hp.l7, hp.l8, hp.l9, hp.l10]) <;> (try omega))) only [↓reduceIte, ↓z_ite, ↓zR, ↓zB_R, ↓zB_B, ↓zB_ite, ↓zB_gI, ↓zB_pI, ↓zB_pZ, ↓zB_aK, ↓zB_G, ↓zB_lI, ↓zB_lZ, ↓zB_wI, ↓zB_wZ, zB_pI, zB_pZ, zB_lI, zB_lZ, zB_wI, zB_wZ, z_addl, z_ladd, z_mull, z_lmul, nI_add, z_subl, z_10, z_01, z_bitc, z_b0, z_b1, ↓zB_Gb, ↓zB_G0, ↓zB_G1, z_eql, z_leq, z_ltl, z_llt, z_eq, z_lt, z_m1lt, hp.k, hp.k1, hp.k2, hp.k3, hp.k4, hp.k5, hp.k6, hp.k7, hp.k8, hp.k9, hp.k10, hp.l1, hp.l2, hp.l3, hp.l4, hp.l5, hp.l6, hp.l7, hp.l8, hp.l9, hp.l10, ↓hp.g0, ↓hp.g1, ↓hp.g2, ↓hp.g3, ↓hp.g4, ↓hp.g5, ↓hp.g6, ↓hp.g7, ↓hp.g8, ↓hp.g9, ↓hp.gb, hp.gb, h0, Nat.zero_add, Nat.lt_irrefl]
  · rw [z_sch_b]; rfl
theorem f93_sp (hp : z_PS S p) (h : z_cp m p P) (hw : z_wf P) {i j : Nat} (hi : i < z_nm P) (hj : j < z_nm P) (hl : z_liv P j = true) : f93 p (nI i) (nI j) (z_hp S m) = some (z_b (z_ov P i j), z_hp S m) := by
  have h6 := hw.1.1
  have h24 := hw.2.2.1
  have h2 := h.2.1.2.2 j hj hl
  have ho := z_own_e hw hi
  have ho2 := z_own_e hw hj
  unfold f93 f93_58 f93_59 z_ov
  cases hs : z_isc P i (z_hd P j 2) (z_hd P j 3) with
  | false =>
    simp (disch := ((try simp only [true_or, or_true, hp.k, hp.k1, hp.k2, hp.k3, hp.k4, hp.k5, hp.k6, hp.k7, hp.k8, hp.k9, hp.k10, hp.l1, hp.l2, hp.l3, hp.l4, hp.l5, hp.l6, hp.l7, hp.l8, hp.l9, hp.l10]) <;> (try omega))) only [↓reduceIte, ↓z_ite, ↓zR, ↓zB_R, ↓zB_B, ↓zB_ite, ↓zB_gI, ↓zB_pI, ↓zB_pZ, ↓zB_aK, ↓zB_G, ↓zB_lI, ↓zB_lZ, ↓zB_wI, ↓zB_wZ, zB_pI, zB_pZ, zB_lI, zB_lZ, zB_wI, zB_wZ, z_addl, z_ladd, z_mull, z_lmul, nI_add, z_subl, z_10, z_01, z_bitc, z_b0, z_b1, ↓zB_Gb, ↓zB_G0, ↓zB_G1, z_eql, z_leq, z_ltl, z_llt, z_eq, z_lt, z_m1lt, hp.k, hp.k1, hp.k2, hp.k3, hp.k4, hp.k5, hp.k6, hp.k7, hp.k8, hp.k9, hp.k10, hp.l1, hp.l2, hp.l3, hp.l4, hp.l5, hp.l6, hp.l7, hp.l8, hp.l9, hp.l10, ↓hp.g0, ↓hp.g1, ↓hp.g2, ↓hp.g3, ↓hp.g4, ↓hp.g5, ↓hp.g6, ↓hp.g7, ↓hp.g8, ↓hp.g9, ↓hp.gb, hp.gb, h2.2.1, h2.2.2.1, ↓zB_c (f88_sp hp h hw hi (z_hd P j 2) (z_hd P j 3)), zB_c (f88_sp hp h hw hi (z_hd P j 2) (z_hd P j 3)), hs]
    simp [z_b]
  | true =>
    have h3 := (h.2.1.2.2 i hi (z_isc_liv hs)).1
    simp (disch := ((try simp only [true_or, or_true, hp.k, hp.k1, hp.k2, hp.k3, hp.k4, hp.k5, hp.k6, hp.k7, hp.k8, hp.k9, hp.k10, hp.l1, hp.l2, hp.l3, hp.l4, hp.l5, hp.l6, hp.l7, hp.l8, hp.l9, hp.l10]) <;> (try omega))) only [↓reduceIte, ↓z_ite, ↓zR, ↓zB_R, ↓zB_B, ↓zB_ite, ↓zB_gI, ↓zB_pI, ↓zB_pZ, ↓zB_aK, ↓zB_G, ↓zB_lI, ↓zB_lZ, ↓zB_wI, ↓zB_wZ, zB_pI, zB_pZ, zB_lI, zB_lZ, zB_wI, zB_wZ, z_addl, z_ladd, z_mull, z_lmul, nI_add, z_subl, z_10, z_01, z_bitc, z_b0, z_b1, ↓zB_Gb, ↓zB_G0, ↓zB_G1, z_eql, z_leq, z_ltl, z_llt, z_eq, z_lt, z_m1lt, hp.k, hp.k1, hp.k2, hp.k3, hp.k4, hp.k5, hp.k6, hp.k7, hp.k8, hp.k9, hp.k10, hp.l1, hp.l2, hp.l3, hp.l4, hp.l5, hp.l6, hp.l7, hp.l8, hp.l9, hp.l10, ↓hp.g0, ↓hp.g1, ↓hp.g2, ↓hp.g3, ↓hp.g4, ↓hp.g5, ↓hp.g6, ↓hp.g7, ↓hp.g8, ↓hp.g9, ↓hp.gb, hp.gb, h2.2.1, h2.2.2.1, ↓zB_c (f88_sp hp h hw hi (z_hd P j 2) (z_hd P j 3)), zB_c (f88_sp hp h hw hi (z_hd P j 2) (z_hd P j 3)), hs, h2.1, h3, ho.2, ho2.2, ↓zB_c (f82_sp hp h hw ho.1 (show z_own P j < 32 by omega)), zB_c (f82_sp hp h hw ho.1 (show z_own P j < 32 by omega))]
    by_cases g : z_own P i = z_own P j
    · simp [g, z_b]
    · cases z_blw P (z_own P i) (z_own P j) <;> simp [g, z_b]
theorem f94_sp (hp : z_PS S p) (h : z_cp m p P) (hw : z_wf P) {i j : Nat} (hi : i < z_nm P) (hj : j < z_nm P) (hl : z_liv P i = true) (hl2 : z_liv P j = true) (hc : z_cnt P i = z_cnt P j) : f94 p (nI i) (nI j) (z_hp S m) = some (z_b (z_sty P i j), z_hp S m) := by
  have h24 := hw.2.2.1
  have h2 := h.2.1.2.2 i hi hl
  have h3 := h.2.1.2.2 j hj hl2
  have hn := (hw.2.2.2.1 i hi).2.2.2.1
  unfold f94 f94_2
  refine (z_search (fun q => (p, nI i, nI j, nI q)) (fun q => z_hd P i (6 + q) != z_hd P j (6 + q)) (fun _ => 0) (z_b (z_hd P i 8 == z_hd P j 8)) (z_cnt P i) 0 1000000 (by omega) (fun q _ hq => ?_) ?_).trans ?_
  · have hq : q < z_cnt P i := by omega
    have h4 := h2.2.2.2.2.2 q hq
    have h5 := h3.2.2.2.2.2 q (by omega)
    dsimp only
    unfold f94_2b f94_35
    simp (disch := ((try simp only [true_or, or_true, hp.k, hp.k1, hp.k2, hp.k3, hp.k4, hp.k5, hp.k6, hp.k7, hp.k8, hp.k9, hp.k10, hp.l1, hp.l2, hp.l3, hp.l4, hp.l5, hp.l6, hp.l7, hp.l8, hp.l9, hp.l10]) <;> (try omega))) only [↓reduceIte, ↓z_ite, ↓zR, ↓zB_R, ↓zB_B, ↓zB_ite, ↓zB_gI, ↓zB_pI, ↓zB_pZ, ↓zB_aK, ↓zB_G, ↓zB_lI, ↓zB_lZ, ↓zB_wI, ↓zB_wZ, zB_pI, zB_pZ, zB_lI, zB_lZ, zB_wI, zB_wZ, z_addl, z_ladd, z_mull, z_lmul, nI_add, z_subl, z_10, z_01, z_bitc, z_b0, z_b1, ↓zB_Gb, ↓zB_G0, ↓zB_G1, z_eql, z_leq, z_ltl, z_llt, z_eq, z_lt, z_m1lt, hp.k, hp.k1, hp.k2, hp.k3, hp.k4, hp.k5, hp.k6, hp.k7, hp.k8, hp.k9, hp.k10, hp.l1, hp.l2, hp.l3, hp.l4, hp.l5, hp.l6, hp.l7, hp.l8, hp.l9, hp.l10, ↓hp.g0, ↓hp.g1, ↓hp.g2, ↓hp.g3, ↓hp.g4, ↓hp.g5, ↓hp.g6, ↓hp.g7, ↓hp.g8, ↓hp.g9, ↓hp.gb, hp.gb, h2.2.2.1, hn.2, hq, h4, h5]
    by_cases g : z_hd P i (6 + q) = z_hd P j (6 + q) <;> simp [g]
  · dsimp only
    unfold f94_2b f94_43 f94_63
    simp (disch := ((try simp only [true_or, or_true, hp.k, hp.k1, hp.k2, hp.k3, hp.k4, hp.k5, hp.k6, hp.k7, hp.k8, hp.k9, hp.k10, hp.l1, hp.l2, hp.l3, hp.l4, hp.l5, hp.l6, hp.l7, hp.l8, hp.l9, hp.l10]) <;> (try omega))) only [↓reduceIte, ↓z_ite, ↓zR, ↓zB_R, ↓zB_B, ↓zB_ite, ↓zB_gI, ↓zB_pI, ↓zB_pZ, ↓zB_aK, ↓zB_G, ↓zB_lI, ↓zB_lZ, ↓zB_wI, ↓zB_wZ, zB_pI, zB_pZ, zB_lI, zB_lZ, zB_wI, zB_wZ, z_addl, z_ladd, z_mull, z_lmul, nI_add, z_subl, z_10, z_01, z_bitc, z_b0, z_b1, ↓zB_Gb, ↓zB_G0, ↓zB_G1, z_eql, z_leq, z_ltl, z_llt, z_eq, z_lt, z_m1lt, hp.k, hp.k1, hp.k2, hp.k3, hp.k4, hp.k5, hp.k6, hp.k7, hp.k8, hp.k9, hp.k10, hp.l1, hp.l2, hp.l3, hp.l4, hp.l5, hp.l6, hp.l7, hp.l8, hp.l9, hp.l10, ↓hp.g0, ↓hp.g1, ↓hp.g2, ↓hp.g3, ↓hp.g4, ↓hp.g5, ↓hp.g6, ↓hp.g7, ↓hp.g8, ↓hp.g9, ↓hp.gb, hp.gb, h2.2.2.1, hn.2, Nat.zero_add, Nat.lt_irrefl, h2.2.2.2.1, h3.2.2.2.1]
    by_cases g : z_hd P i 8 = z_hd P j 8 <;> simp [g, z_b]
  · unfold z_sty
    rcases z_sch_c (c := fun q => z_hd P i (6 + q) != z_hd P j (6 + q)) (x := fun _ => (0 : Int32)) (d := z_b (z_hd P i 8 == z_hd P j 8)) (n := z_cnt P i) (i := 0) with ⟨h1, h2⟩ | ⟨k, h1, h2, h3, h4, h5⟩
    · rw [h1, z_any_f.mpr (fun q hq => h2 q (Nat.zero_le _) (by omega))]; simp
    · rw [h5, z_any_iff.mpr ⟨k, by omega, h3⟩]; simp [z_b]
theorem f98_sp (hp : z_PS S p) (h : z_cp m p P) (hw : z_wf P) {k : Nat} (hk : k < z_nm P) (hl : z_liv P k = true) (name : Int32) : f98 p (nI k) name (z_hp S m) = some (z_oI (z_pc P k name), z_hp S m) := by
  have h24 := hw.2.2.1
  have h2 := h.2.1.2.2 k hk hl
  have hn := (hw.2.2.2.1 k hk).2.2.2.1
  unfold f98 f98_2
  refine (z_search (fun q => (p, nI k, name, nI q)) (fun q => z_hd P k (4 + q) == name) nI (-1) (z_cnt P k) 0 1000000 (by omega) (fun q _ hq => ?_) ?_).trans ?_
  · have hq : q < z_cnt P k := by omega
    have h4 := h2.2.2.2.2.1 q (by omega)
    dsimp only
    unfold f98_2b f98_26
    simp (disch := ((try simp only [true_or, or_true, hp.k, hp.k1, hp.k2, hp.k3, hp.k4, hp.k5, hp.k6, hp.k7, hp.k8, hp.k9, hp.k10, hp.l1, hp.l2, hp.l3, hp.l4, hp.l5, hp.l6, hp.l7, hp.l8, hp.l9, hp.l10]) <;> (try omega))) only [↓reduceIte, ↓z_ite, ↓zR, ↓zB_R, ↓zB_B, ↓zB_ite, ↓zB_gI, ↓zB_pI, ↓zB_pZ, ↓zB_aK, ↓zB_G, ↓zB_lI, ↓zB_lZ, ↓zB_wI, ↓zB_wZ, zB_pI, zB_pZ, zB_lI, zB_lZ, zB_wI, zB_wZ, z_addl, z_ladd, z_mull, z_lmul, nI_add, z_subl, z_10, z_01, z_bitc, z_b0, z_b1, ↓zB_Gb, ↓zB_G0, ↓zB_G1, z_eql, z_leq, z_ltl, z_llt, z_eq, z_lt, z_m1lt, hp.k, hp.k1, hp.k2, hp.k3, hp.k4, hp.k5, hp.k6, hp.k7, hp.k8, hp.k9, hp.k10, hp.l1, hp.l2, hp.l3, hp.l4, hp.l5, hp.l6, hp.l7, hp.l8, hp.l9, hp.l10, ↓hp.g0, ↓hp.g1, ↓hp.g2, ↓hp.g3, ↓hp.g4, ↓hp.g5, ↓hp.g6, ↓hp.g7, ↓hp.g8, ↓hp.g9, ↓hp.gb, hp.gb, h2.2.2.1, hn.2, hq, h4]
    by_cases g : z_hd P k (4 + q) = name <;> simp [g]
  · dsimp only
    unfold f98_2b f98_34
    simp (disch := ((try simp only [true_or, or_true, hp.k, hp.k1, hp.k2, hp.k3, hp.k4, hp.k5, hp.k6, hp.k7, hp.k8, hp.k9, hp.k10, hp.l1, hp.l2, hp.l3, hp.l4, hp.l5, hp.l6, hp.l7, hp.l8, hp.l9, hp.l10]) <;> (try omega))) only [↓reduceIte, ↓z_ite, ↓zR, ↓zB_R, ↓zB_B, ↓zB_ite, ↓zB_gI, ↓zB_pI, ↓zB_pZ, ↓zB_aK, ↓zB_G, ↓zB_lI, ↓zB_lZ, ↓zB_wI, ↓zB_wZ, zB_pI, zB_pZ, zB_lI, zB_lZ, zB_wI, zB_wZ, z_addl, z_ladd, z_mull, z_lmul, nI_add, z_subl, z_10, z_01, z_bitc, z_b0, z_b1, ↓zB_Gb, ↓zB_G0, ↓zB_G1, z_eql, z_leq, z_ltl, z_llt, z_eq, z_lt, z_m1lt, hp.k, hp.k1, hp.k2, hp.k3, hp.k4, hp.k5, hp.k6, hp.k7, hp.k8, hp.k9, hp.k10, hp.l1, hp.l2, hp.l3, hp.l4, hp.l5, hp.l6, hp.l7, hp.l8, hp.l9, hp.l10, ↓hp.g0, ↓hp.g1, ↓hp.g2, ↓hp.g3, ↓hp.g4, ↓hp.g5, ↓hp.g6, ↓hp.g7, ↓hp.g8, ↓hp.g9, ↓hp.gb, hp.gb, h2.2.2.1, hn.2, Nat.zero_add, Nat.lt_irrefl]
  · unfold z_pc
    have : z_cnt P k = 0 ∨ z_cnt P k = 1 ∨ z_cnt P k = 2 := by omega
    rcases this with e | e | e <;> rw [e]
    · simp [z_sch, z_oI]
    · by_cases g : z_hd P k 4 = name <;> simp [z_sch, z_oI, g] <;> try rfl
    · by_cases g : z_hd P k 4 = name <;> by_cases g2 : z_hd P k 5 = name <;> simp [z_sch, z_oI, g, g2] <;> try rfl
end
section
variable {S : z_S} {m : z_m} {b R : Nat} {l : List z_N}
theorem z_en_out {i : Nat} (h : l.length ≤ i) : z_en l i = i := by unfold z_en; rw [z_sz_out h]; rfl
theorem z_pt_len (ht : z_tr l) {i : Nat} (hi : i < l.length) : ∀ j, z_pt l i j ≤ l.length
  | 0 => by rw [z_pt_0]; exact hi
  | j + 1 => by
    have h1 := z_pt_len ht hi j
    rw [z_pt_s]
    rcases Nat.eq_or_lt_of_le h1 with h2 | h2
    · rw [z_en_out (by omega)]; exact h1
    · exact z_en_le ht h2
theorem z_pt_out {i q : Nat} (h : l.length ≤ z_pt l i q) : ∀ j, q ≤ j → z_pt l i j = z_pt l i q := by
  intro j hj
  induction hj with
  | refl => rfl
  | step _ ih => rw [z_pt_s, ih, z_en_out h]
/-- Body.part -/
theorem f9_sp (hb : z_BS S b R) (h : z_cb m b R l) (ht : z_tr l) {i : Nat} (hi : i < l.length) (he : ∀ j, i < j → j < l.length → m (b + 4) j = nI (z_en l j)) (j : Nat) (hj : j ≤ 300) : f9 b (nI i) (nI j) (z_hp S m) = some (nI (z_pt l i j), z_hp S m) := by
  obtain ⟨_, h1, hR, hR2, h2⟩ := h
  unfold f9 f9_7
  simp (disch := ((try simp only [true_or, or_true]) <;> (try omega))) only [↓reduceIte, ↓z_ite, ↓zR, ↓zB_R, ↓zB_B, ↓zB_ite, ↓zB_gI, ↓zB_pI, ↓zB_pZ, ↓zB_aK, ↓zB_G, ↓zB_lI, ↓zB_lZ, ↓zB_wI, ↓zB_wZ, zB_pI, zB_pZ, zB_lI, zB_lZ, zB_wI, zB_wZ, z_addl, z_ladd, z_mull, z_lmul, nI_add, z_subl, z_10, z_01, z_bitc, z_b0, z_b1, ↓zB_Gb, ↓zB_G0, ↓zB_G1, z_eql, z_leq, z_ltl, z_llt, z_eq, z_lt, z_m1lt]
  have key := z_loopI (f := fun s => f9_7b (s.1) (s.2.1) (s.2.2.1) (s.2.2.2)) (S := S) (fun n s m' => ∃ q, q ≤ j ∧ n = j - q ∧ s = (b, nI j, nI (z_pt l i q), nI q) ∧ m' = m) (fun r m' => r = nI (z_pt l i j) ∧ m' = m) ?_ 1000000 j (b, nI j, nI (i + 1), 0) m ⟨0, by omega, by omega, rfl, rfl⟩ (by omega)
  · obtain ⟨r, m', e, rfl, rfl⟩ := key
    exact e
  · rintro n s m' ⟨q, hq, rfl, rfl, rfl⟩
    have hlen := z_pt_len ht hi q
    have hgt := z_pt_ge (l := l) (i := i) q
    rcases Nat.eq_or_lt_of_le hq with rfl | h4
    · refine Or.inr ⟨_, _, ?_, rfl, rfl⟩
      dsimp only
      unfold f9_7b f9_34
      simp (disch := ((try simp only [true_or, or_true]) <;> (try omega))) only [↓reduceIte, ↓z_ite, ↓zR, ↓zB_R, ↓zB_B, ↓zB_ite, ↓zB_gI, ↓zB_pI, ↓zB_pZ, ↓zB_aK, ↓zB_G, ↓zB_lI, ↓zB_lZ, ↓zB_wI, ↓zB_wZ, zB_pI, zB_pZ, zB_lI, zB_lZ, zB_wI, zB_wZ, z_addl, z_ladd, z_mull, z_lmul, nI_add, z_subl, z_10, z_01, z_bitc, z_b0, z_b1, ↓zB_Gb, ↓zB_G0, ↓zB_G1, z_eql, z_leq, z_ltl, z_llt, z_eq, z_lt, z_m1lt, Nat.lt_irrefl]
    · rcases Nat.eq_or_lt_of_le hlen with h5 | h5
      · refine Or.inr ⟨_, _, ?_, congrArg nI (z_pt_out (l := l) (i := i) (q := q) (by omega) j hq).symm, rfl⟩
        dsimp only
        unfold f9_7b f9_34
        simp (disch := ((try simp only [true_or, or_true, hb.k, hb.k1, hb.k2, hb.k3, hb.k4, hb.k5, hb.k6, hb.l1, hb.l2, hb.l3, hb.l4, hb.l5, hb.l6]) <;> (try omega))) only [↓reduceIte, ↓z_ite, ↓zR, ↓zB_R, ↓zB_B, ↓zB_ite, ↓zB_gI, ↓zB_pI, ↓zB_pZ, ↓zB_aK, ↓zB_G, ↓zB_lI, ↓zB_lZ, ↓zB_wI, ↓zB_wZ, zB_pI, zB_pZ, zB_lI, zB_lZ, zB_wI, zB_wZ, z_addl, z_ladd, z_mull, z_lmul, nI_add, z_subl, z_10, z_01, z_bitc, z_b0, z_b1, ↓zB_Gb, ↓zB_G0, ↓zB_G1, z_eql, z_leq, z_ltl, z_llt, z_eq, z_lt, z_m1lt, hb.k, hb.k1, hb.k2, hb.k3, hb.k4, hb.k5, hb.k6, hb.l1, hb.l2, hb.l3, hb.l4, hb.l5, hb.l6, ↓hb.g0, ↓hb.g1, ↓hb.g2, ↓hb.g3, ↓hb.g4, ↓hb.g5, h1, h4, h5, Nat.lt_irrefl]
      · refine Or.inl ⟨_, _, j - (q + 1), ?_, by omega, q + 1, h4, rfl, rfl, rfl⟩
        have h6 := he _ hgt h5
        dsimp only
        unfold f9_7b
        simp (disch := ((try simp only [true_or, or_true, hb.k, hb.k1, hb.k2, hb.k3, hb.k4, hb.k5, hb.k6, hb.l1, hb.l2, hb.l3, hb.l4, hb.l5, hb.l6]) <;> (try omega))) only [↓reduceIte, ↓z_ite, ↓zR, ↓zB_R, ↓zB_B, ↓zB_ite, ↓zB_gI, ↓zB_pI, ↓zB_pZ, ↓zB_aK, ↓zB_G, ↓zB_lI, ↓zB_lZ, ↓zB_wI, ↓zB_wZ, zB_pI, zB_pZ, zB_lI, zB_lZ, zB_wI, zB_wZ, z_addl, z_ladd, z_mull, z_lmul, nI_add, z_subl, z_10, z_01, z_bitc, z_b0, z_b1, ↓zB_Gb, ↓zB_G0, ↓zB_G1, z_eql, z_leq, z_ltl, z_llt, z_eq, z_lt, z_m1lt, hb.k, hb.k1, hb.k2, hb.k3, hb.k4, hb.k5, hb.k6, hb.l1, hb.l2, hb.l3, hb.l4, hb.l5, hb.l6, ↓hb.g0, ↓hb.g1, ↓hb.g2, ↓hb.g3, ↓hb.g4, ↓hb.g5, h1, h4, h5, h6, z_pt_s]
/-- Body.letAround -/
theorem f10_sp (hb : z_BS S b R) (h : z_cb m b R l) (he : z_ce m b l) (ht : z_tr l) {i : Nat} (hi : i < l.length) {name : Int32} : f10 b (nI i) name (z_hp S m) = some (z_oI (z_le l i name), z_hp S m) := by
  obtain ⟨_, h1, hR, hR2, h2⟩ := h
  unfold f10 f10_4
  refine (z_down' (fun q => (b, nI i, name, z_pI q)) (fun q => z_k l q == 5 && (z_v l q == name && (decide (i < z_en l q) && decide (z_en l (q + 1) ≤ i)))) nI (-1) i 1000000 (by omega) (by rw [z_pI_m]) (fun q hq => ?_) ?_).trans ?_
  · have h3 := h2 q (by omega)
    have h4 := he q (by omega)
    have h5 := he (q + 1) (by omega)
    have h6 := z_en_le ht (i := q) (by omega)
    have h7 := z_en_le ht (i := q + 1) (by omega)
    dsimp only
    unfold f10_4b f10_50 f10_52
    simp (disch := ((try simp only [true_or, or_true, hb.k, hb.k1, hb.k2, hb.k3, hb.k4, hb.k5, hb.k6, hb.l1, hb.l2, hb.l3, hb.l4, hb.l5, hb.l6]) <;> (try omega))) only [↓reduceIte, ↓z_ite, ↓zR, ↓zB_R, ↓zB_B, ↓zB_ite, ↓zB_gI, ↓zB_pI, ↓zB_pZ, ↓zB_aK, ↓zB_G, ↓zB_lI, ↓zB_lZ, ↓zB_wI, ↓zB_wZ, zB_pI, zB_pZ, zB_lI, zB_lZ, zB_wI, zB_wZ, z_addl, z_ladd, z_mull, z_lmul, nI_add, z_subl, z_10, z_01, z_bitc, z_b0, z_b1, ↓zB_Gb, ↓zB_G0, ↓zB_G1, z_eql, z_leq, z_ltl, z_llt, z_eq, z_lt, z_m1lt, hb.k, hb.k1, hb.k2, hb.k3, hb.k4, hb.k5, hb.k6, hb.l1, hb.l2, hb.l3, hb.l4, hb.l5, hb.l6, ↓hb.g0, ↓hb.g1, ↓hb.g2, ↓hb.g3, ↓hb.g4, ↓hb.g5, z_pI_s, z_pI_e, nI_pos, h3.1, h3.2.1, h4, h5]
    by_cases g1 : z_k l q = 5 <;> by_cases g2 : z_v l q = name <;> by_cases g3 : i < z_en l q <;> by_cases g4 : i < z_en l (q + 1) <;> simp [g1, g2, g3, g4] <;> omega
  · dsimp only
    unfold f10_4b f10_58
    simp (disch := ((try simp only [true_or, or_true]) <;> (try omega))) only [↓reduceIte, ↓z_ite, ↓zR, ↓zB_R, ↓zB_B, ↓zB_ite, ↓zB_gI, ↓zB_pI, ↓zB_pZ, ↓zB_aK, ↓zB_G, ↓zB_lI, ↓zB_lZ, ↓zB_wI, ↓zB_wZ, zB_pI, zB_pZ, zB_lI, zB_lZ, zB_wI, zB_wZ, z_addl, z_ladd, z_mull, z_lmul, nI_add, z_subl, z_10, z_01, z_bitc, z_b0, z_b1, ↓zB_Gb, ↓zB_G0, ↓zB_G1, z_eql, z_leq, z_ltl, z_llt, z_eq, z_lt, z_m1lt, z_pI_0, z_m1l]
  · rw [z_oI_e]; rfl
def z_isV (l : List z_N) (i : Nat) : Bool := z_k l i == 1 || z_k l i == 6
def z_isL (l : List z_N) (B : Nat → Int32) (i : Nat) : Bool := z_isV l i && decide (B i < 1000)
def z_isF (l : List z_N) (B : Nat → Int32) (i : Nat) : Bool := z_isV l i && !decide (B i < 1000)
def z_isO (l : List z_N) (B : Nat → Int32) (i : Nat) (r : Int32) : Bool := z_isL l B i && decide (B i < r)
def z_isBL (l : List z_N) (B : Nat → Int32) (i : Nat) (x : Int32) : Bool := z_isL l B i && B i == x
def z_isBF (l : List z_N) (B : Nat → Int32) (i : Nat) (c name : Int32) : Bool := (z_isV l i || (z_k l i == 3 || z_k l i == 4)) && (B i == 1000 + c && z_v l i == name)
def z_cq (B : Nat → Int32) (i : Nat) : Nat := (B i).toNatClampNeg - 2000
def z_isCF (l : List z_N) (B : Nat → Int32) (i : Nat) (F : Int32) : Bool := z_k l i == 7 && z_bit F (z_cq B i)
def z_isT (l : List z_N) (i : Nat) : Bool := decide (0 < z_p l i) && z_k l (i + 1) == 2
theorem f11_sp (hb : z_BS S b R) (h : z_cb m b R l) {i : Nat} (hi : i < l.length) : f11 b (nI i) (z_hp S m) = some (z_b (z_isV l i), z_hp S m) := by
  obtain ⟨_, h1, hR, hR2, h2⟩ := h
  unfold f11 f11_21 f11_26 z_isV
  simp (disch := ((try simp only [true_or, or_true, hb.k, hb.k1, hb.k2, hb.k3, hb.k4, hb.k5, hb.k6, hb.l1, hb.l2, hb.l3, hb.l4, hb.l5, hb.l6]) <;> (try omega))) only [↓reduceIte, ↓z_ite, ↓zR, ↓zB_R, ↓zB_B, ↓zB_ite, ↓zB_gI, ↓zB_pI, ↓zB_pZ, ↓zB_aK, ↓zB_G, ↓zB_lI, ↓zB_lZ, ↓zB_wI, ↓zB_wZ, zB_pI, zB_pZ, zB_lI, zB_lZ, zB_wI, zB_wZ, z_addl, z_ladd, z_mull, z_lmul, nI_add, z_subl, z_10, z_01, z_bitc, z_b0, z_b1, ↓zB_Gb, ↓zB_G0, ↓zB_G1, z_eql, z_leq, z_ltl, z_llt, z_eq, z_lt, z_m1lt, hb.k, hb.k1, hb.k2, hb.k3, hb.k4, hb.k5, hb.k6, hb.l1, hb.l2, hb.l3, hb.l4, hb.l5, hb.l6, ↓hb.g0, ↓hb.g1, ↓hb.g2, ↓hb.g3, ↓hb.g4, ↓hb.g5, (h2 i hi).1]
  by_cases g1 : z_k l i = 1 <;> by_cases g2 : z_k l i = 6 <;> simp [g1, g2, z_b]
variable {B : Nat → Int32}
theorem f12_sp (hb : z_BS S b R) (h : z_cb m b R l) (hB : ∀ i, i < l.length → m (b + 6) i = B i) {i : Nat} (hi : i < l.length) : f12 b (nI i) (z_hp S m) = some (z_b (z_isL l B i), z_hp S m) := by
  have hR := h.2.2.1
  have hR2 := h.2.2.2.1
  unfold f12 f12_24 f12_25 z_isL
  simp (disch := ((try simp only [true_or, or_true, hb.k, hb.k1, hb.k2, hb.k3, hb.k4, hb.k5, hb.k6, hb.l1, hb.l2, hb.l3, hb.l4, hb.l5, hb.l6]) <;> (try omega))) only [↓reduceIte, ↓z_ite, ↓zR, ↓zB_R, ↓zB_B, ↓zB_ite, ↓zB_gI, ↓zB_pI, ↓zB_pZ, ↓zB_aK, ↓zB_G, ↓zB_lI, ↓zB_lZ, ↓zB_wI, ↓zB_wZ, zB_pI, zB_pZ, zB_lI, zB_lZ, zB_wI, zB_wZ, z_addl, z_ladd, z_mull, z_lmul, nI_add, z_subl, z_10, z_01, z_bitc, z_b0, z_b1, ↓zB_Gb, ↓zB_G0, ↓zB_G1, z_eql, z_leq, z_ltl, z_llt, z_eq, z_lt, z_m1lt, hb.k, hb.k1, hb.k2, hb.k3, hb.k4, hb.k5, hb.k6, hb.l1, hb.l2, hb.l3, hb.l4, hb.l5, hb.l6, ↓hb.g0, ↓hb.g1, ↓hb.g2, ↓hb.g3, ↓hb.g4, ↓hb.g5, hB i hi, ↓zB_c (f11_sp hb h hi), zB_c (f11_sp hb h hi)]
  cases z_isV l i <;> by_cases g : B i < 1000 <;> simp [g, z_b]
theorem f13_sp (hb : z_BS S b R) (h : z_cb m b R l) (hB : ∀ i, i < l.length → m (b + 6) i = B i) {i : Nat} (hi : i < l.length) : f13 b (nI i) (z_hp S m) = some (z_b (z_isF l B i), z_hp S m) := by
  have hR := h.2.2.1
  have hR2 := h.2.2.2.1
  unfold f13 f13_24 f13_25 z_isF
  simp (disch := ((try simp only [true_or, or_true, hb.k, hb.k1, hb.k2, hb.k3, hb.k4, hb.k5, hb.k6, hb.l1, hb.l2, hb.l3, hb.l4, hb.l5, hb.l6]) <;> (try omega))) only [↓reduceIte, ↓z_ite, ↓zR, ↓zB_R, ↓zB_B, ↓zB_ite, ↓zB_gI, ↓zB_pI, ↓zB_pZ, ↓zB_aK, ↓zB_G, ↓zB_lI, ↓zB_lZ, ↓zB_wI, ↓zB_wZ, zB_pI, zB_pZ, zB_lI, zB_lZ, zB_wI, zB_wZ, z_addl, z_ladd, z_mull, z_lmul, nI_add, z_subl, z_10, z_01, z_bitc, z_b0, z_b1, ↓zB_Gb, ↓zB_G0, ↓zB_G1, z_eql, z_leq, z_ltl, z_llt, z_eq, z_lt, z_m1lt, hb.k, hb.k1, hb.k2, hb.k3, hb.k4, hb.k5, hb.k6, hb.l1, hb.l2, hb.l3, hb.l4, hb.l5, hb.l6, ↓hb.g0, ↓hb.g1, ↓hb.g2, ↓hb.g3, ↓hb.g4, ↓hb.g5, hB i hi, ↓zB_c (f11_sp hb h hi), zB_c (f11_sp hb h hi)]
  cases z_isV l i <;> by_cases g : B i < 1000 <;> simp [g, z_b]
theorem f14_sp (hb : z_BS S b R) (h : z_cb m b R l) (hB : ∀ i, i < l.length → m (b + 6) i = B i) {i : Nat} (hi : i < l.length) (r : Int32) : f14 b (nI i) r (z_hp S m) = some (z_b (z_isO l B i r), z_hp S m) := by
  have hR := h.2.2.1
  have hR2 := h.2.2.2.1
  unfold f14 f14_22 f14_23 z_isO
  simp (disch := ((try simp only [true_or, or_true, hb.k, hb.k1, hb.k2, hb.k3, hb.k4, hb.k5, hb.k6, hb.l1, hb.l2, hb.l3, hb.l4, hb.l5, hb.l6]) <;> (try omega))) only [↓reduceIte, ↓z_ite, ↓zR, ↓zB_R, ↓zB_B, ↓zB_ite, ↓zB_gI, ↓zB_pI, ↓zB_pZ, ↓zB_aK, ↓zB_G, ↓zB_lI, ↓zB_lZ, ↓zB_wI, ↓zB_wZ, zB_pI, zB_pZ, zB_lI, zB_lZ, zB_wI, zB_wZ, z_addl, z_ladd, z_mull, z_lmul, nI_add, z_subl, z_10, z_01, z_bitc, z_b0, z_b1, ↓zB_Gb, ↓zB_G0, ↓zB_G1, z_eql, z_leq, z_ltl, z_llt, z_eq, z_lt, z_m1lt, hb.k, hb.k1, hb.k2, hb.k3, hb.k4, hb.k5, hb.k6, hb.l1, hb.l2, hb.l3, hb.l4, hb.l5, hb.l6, ↓hb.g0, ↓hb.g1, ↓hb.g2, ↓hb.g3, ↓hb.g4, ↓hb.g5, hB i hi, ↓zB_c (f12_sp hb h hB hi), zB_c (f12_sp hb h hB hi)]
  cases z_isL l B i <;> by_cases g : B i < r <;> simp [g, z_b]
theorem f15_sp (hb : z_BS S b R) (h : z_cb m b R l) (hB : ∀ i, i < l.length → m (b + 6) i = B i) {i : Nat} (hi : i < l.length) (r : Int32) : f15 b (nI i) r (z_hp S m) = some (z_b (z_isBL l B i r), z_hp S m) := by
  have hR := h.2.2.1
  have hR2 := h.2.2.2.1
  unfold f15 f15_22 f15_23 z_isBL
  simp (disch := ((try simp only [true_or, or_true, hb.k, hb.k1, hb.k2, hb.k3, hb.k4, hb.k5, hb.k6, hb.l1, hb.l2, hb.l3, hb.l4, hb.l5, hb.l6]) <;> (try omega))) only [↓reduceIte, ↓z_ite, ↓zR, ↓zB_R, ↓zB_B, ↓zB_ite, ↓zB_gI, ↓zB_pI, ↓zB_pZ, ↓zB_aK, ↓zB_G, ↓zB_lI, ↓zB_lZ, ↓zB_wI, ↓zB_wZ, zB_pI, zB_pZ, zB_lI, zB_lZ, zB_wI, zB_wZ, z_addl, z_ladd, z_mull, z_lmul, nI_add, z_subl, z_10, z_01, z_bitc, z_b0, z_b1, ↓zB_Gb, ↓zB_G0, ↓zB_G1, z_eql, z_leq, z_ltl, z_llt, z_eq, z_lt, z_m1lt, hb.k, hb.k1, hb.k2, hb.k3, hb.k4, hb.k5, hb.k6, hb.l1, hb.l2, hb.l3, hb.l4, hb.l5, hb.l6, ↓hb.g0, ↓hb.g1, ↓hb.g2, ↓hb.g3, ↓hb.g4, ↓hb.g5, hB i hi, ↓zB_c (f12_sp hb h hB hi), zB_c (f12_sp hb h hB hi)]
  cases z_isL l B i <;> by_cases g : B i = r <;> simp [g, z_b]
theorem f16_sp (hb : z_BS S b R) (h : z_cb m b R l) (hB : ∀ i, i < l.length → m (b + 6) i = B i) {i : Nat} (hi : i < l.length) (c name : Int32) : f16 b (nI i) c name (z_hp S m) = some (z_b (z_isBF l B i c name), z_hp S m) := by
  have hR := h.2.2.1
  have hR2 := h.2.2.2.1
  have h2 := h.2.2.2.2 i hi
  unfold f16 f16_28 f16_33 f16_68 f16_69 z_isBF
  simp (disch := ((try simp only [true_or, or_true, hb.k, hb.k1, hb.k2, hb.k3, hb.k4, hb.k5, hb.k6, hb.l1, hb.l2, hb.l3, hb.l4, hb.l5, hb.l6]) <;> (try omega))) only [↓reduceIte, ↓z_ite, ↓zR, ↓zB_R, ↓zB_B, ↓zB_ite, ↓zB_gI, ↓zB_pI, ↓zB_pZ, ↓zB_aK, ↓zB_G, ↓zB_lI, ↓zB_lZ, ↓zB_wI, ↓zB_wZ, zB_pI, zB_pZ, zB_lI, zB_lZ, zB_wI, zB_wZ, z_addl, z_ladd, z_mull, z_lmul, nI_add, z_subl, z_10, z_01, z_bitc, z_b0, z_b1, ↓zB_Gb, ↓zB_G0, ↓zB_G1, z_eql, z_leq, z_ltl, z_llt, z_eq, z_lt, z_m1lt, hb.k, hb.k1, hb.k2, hb.k3, hb.k4, hb.k5, hb.k6, hb.l1, hb.l2, hb.l3, hb.l4, hb.l5, hb.l6, ↓hb.g0, ↓hb.g1, ↓hb.g2, ↓hb.g3, ↓hb.g4, ↓hb.g5, hB i hi, ↓zB_c (f11_sp hb h hi), zB_c (f11_sp hb h hi), h2.1, h2.2.1]
  cases z_isV l i <;> by_cases g1 : z_k l i = 3 <;> by_cases g2 : z_k l i = 4 <;> by_cases g3 : B i = 1000 + c <;> by_cases g4 : z_v l i = name <;> simp [g1, g2, g3, g4, z_b]
theorem f17_sp (hb : z_BS S b R) (h : z_cb m b R l) (hB : ∀ i, i < l.length → m (b + 6) i = B i) {i : Nat} (hi : i < l.length) (hq : z_k l i = 7 → B i = nI (2000 + z_cq B i) ∧ z_cq B i < 32) (F : Int32) : f17 b (nI i) F (z_hp S m) = some (z_b (z_isCF l B i F), z_hp S m) := by
  have hR := h.2.2.1
  have hR2 := h.2.2.2.1
  have h2 := h.2.2.2.2 i hi
  unfold f17 f17_33 f17_34 z_isCF
  by_cases g : z_k l i = 7
  · obtain ⟨h3, h4⟩ := hq g
    have h5 : 2000 + z_cq B i - 2000 = z_cq B i := by omega
    simp (disch := ((try simp only [true_or, or_true, hb.k, hb.k1, hb.k2, hb.k3, hb.k4, hb.k5, hb.k6, hb.l1, hb.l2, hb.l3, hb.l4, hb.l5, hb.l6]) <;> (try omega))) only [↓reduceIte, ↓z_ite, ↓zR, ↓zB_R, ↓zB_B, ↓zB_ite, ↓zB_gI, ↓zB_pI, ↓zB_pZ, ↓zB_aK, ↓zB_G, ↓zB_lI, ↓zB_lZ, ↓zB_wI, ↓zB_wZ, zB_pI, zB_pZ, zB_lI, zB_lZ, zB_wI, zB_wZ, z_addl, z_ladd, z_mull, z_lmul, nI_add, z_subl, z_10, z_01, z_bitc, z_b0, z_b1, ↓zB_Gb, ↓zB_G0, ↓zB_G1, z_eql, z_leq, z_ltl, z_llt, z_eq, z_lt, z_m1lt, hb.k, hb.k1, hb.k2, hb.k3, hb.k4, hb.k5, hb.k6, hb.l1, hb.l2, hb.l3, hb.l4, hb.l5, hb.l6, ↓hb.g0, ↓hb.g1, ↓hb.g2, ↓hb.g3, ↓hb.g4, ↓hb.g5, hB i hi, h2.1, g, h3, h5]
    cases z_bit F (z_cq B i) <;> simp [z_b]
  · simp (disch := ((try simp only [true_or, or_true, hb.k, hb.k1, hb.k2, hb.k3, hb.k4, hb.k5, hb.k6, hb.l1, hb.l2, hb.l3, hb.l4, hb.l5, hb.l6]) <;> (try omega))) only [↓reduceIte, ↓z_ite, ↓zR, ↓zB_R, ↓zB_B, ↓zB_ite, ↓zB_gI, ↓zB_pI, ↓zB_pZ, ↓zB_aK, ↓zB_G, ↓zB_lI, ↓zB_lZ, ↓zB_wI, ↓zB_wZ, zB_pI, zB_pZ, zB_lI, zB_lZ, zB_wI, zB_wZ, z_addl, z_ladd, z_mull, z_lmul, nI_add, z_subl, z_10, z_01, z_bitc, z_b0, z_b1, ↓zB_Gb, ↓zB_G0, ↓zB_G1, z_eql, z_leq, z_ltl, z_llt, z_eq, z_lt, z_m1lt, hb.k, hb.k1, hb.k2, hb.k3, hb.k4, hb.k5, hb.k6, hb.l1, hb.l2, hb.l3, hb.l4, hb.l5, hb.l6, ↓hb.g0, ↓hb.g1, ↓hb.g2, ↓hb.g3, ↓hb.g4, ↓hb.g5, h2.1, g]
    simp [g, z_b]
theorem f18_sp (hb : z_BS S b R) (h : z_cb m b R l) (ht : z_tr l) {i : Nat} (hi : i < l.length) : f18 b (nI i) (z_hp S m) = some (z_b (z_isT l i), z_hp S m) := by
  have hR := h.2.2.1
  have hR2 := h.2.2.2.1
  have h2 := h.2.2.2.2 i hi
  have hpl := z_p_lt ht hi
  unfold f18 f18_25 f18_26 z_isT
  by_cases g : 0 < z_p l i
  · have h3 := z_pt_lt ht hi g
    rw [z_pt_0] at h3
    simp (disch := ((try simp only [true_or, or_true, hb.k, hb.k1, hb.k2, hb.k3, hb.k4, hb.k5, hb.k6, hb.l1, hb.l2, hb.l3, hb.l4, hb.l5, hb.l6]) <;> (try omega))) only [↓reduceIte, ↓z_ite, ↓zR, ↓zB_R, ↓zB_B, ↓zB_ite, ↓zB_gI, ↓zB_pI, ↓zB_pZ, ↓zB_aK, ↓zB_G, ↓zB_lI, ↓zB_lZ, ↓zB_wI, ↓zB_wZ, zB_pI, zB_pZ, zB_lI, zB_lZ, zB_wI, zB_wZ, z_addl, z_ladd, z_mull, z_lmul, nI_add, z_subl, z_10, z_01, z_bitc, z_b0, z_b1, ↓zB_Gb, ↓zB_G0, ↓zB_G1, z_eql, z_leq, z_ltl, z_llt, z_eq, z_lt, z_m1lt, hb.k, hb.k1, hb.k2, hb.k3, hb.k4, hb.k5, hb.k6, hb.l1, hb.l2, hb.l3, hb.l4, hb.l5, hb.l6, ↓hb.g0, ↓hb.g1, ↓hb.g2, ↓hb.g3, ↓hb.g4, ↓hb.g5, h2.2.2, g, (h.2.2.2.2 (i + 1) h3).1]
    by_cases g2 : z_k l (i + 1) = 2 <;> simp [g2, z_b]
  · simp (disch := ((try simp only [true_or, or_true, hb.k, hb.k1, hb.k2, hb.k3, hb.k4, hb.k5, hb.k6, hb.l1, hb.l2, hb.l3, hb.l4, hb.l5, hb.l6]) <;> (try omega))) only [↓reduceIte, ↓z_ite, ↓zR, ↓zB_R, ↓zB_B, ↓zB_ite, ↓zB_gI, ↓zB_pI, ↓zB_pZ, ↓zB_aK, ↓zB_G, ↓zB_lI, ↓zB_lZ, ↓zB_wI, ↓zB_wZ, zB_pI, zB_pZ, zB_lI, zB_lZ, zB_wI, zB_wZ, z_addl, z_ladd, z_mull, z_lmul, nI_add, z_subl, z_10, z_01, z_bitc, z_b0, z_b1, ↓zB_Gb, ↓zB_G0, ↓zB_G1, z_eql, z_leq, z_ltl, z_llt, z_eq, z_lt, z_m1lt, hb.k, hb.k1, hb.k2, hb.k3, hb.k4, hb.k5, hb.k6, hb.l1, hb.l2, hb.l3, hb.l4, hb.l5, hb.l6, ↓hb.g0, ↓hb.g1, ↓hb.g2, ↓hb.g3, ↓hb.g4, ↓hb.g5, h2.2.2, g]
    simp [z_b]
end
