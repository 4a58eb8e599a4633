-- deps: 90.20.chg
/-! programs changed, method by method -/
def z_sM (P : z_Pg) (j : Nat) (H : Nat → Int32) (l : List z_N) : z_Pg := (P.1, P.2.1, P.2.2.1, P.2.2.2.1, fun k w => if k = j then H w else z_hd P k w, fun k => if k = j then l else z_bd P k)
section
variable {P : z_Pg} {j k : Nat} {H : Nat → Int32} {l : List z_N}
theorem z_sM_hd_s (w : Nat) : z_hd (z_sM P j H l) j w = H w := if_pos rfl
theorem z_sM_hd_o (h : k ≠ j) (w : Nat) : z_hd (z_sM P j H l) k w = z_hd P k w := if_neg h
theorem z_sM_bd_s : z_bd (z_sM P j H l) j = l := if_pos rfl
theorem z_sM_bd_o (h : k ≠ j) : z_bd (z_sM P j H l) k = z_bd P k := if_neg h
theorem z_sM_liv_o (h : k ≠ j) : z_liv (z_sM P j H l) k = z_liv P k := by unfold z_liv; rw [z_sM_hd_o h]
/-- above and below is of the classes alone -/
theorem z_blw_par {P P' : z_Pg} (h : P'.2.1 = P.2.1) (c d : Nat) : z_blw P' c d = z_blw P c d := by
  have : ∀ n c d, z_an P' n c d = z_an P n c d := by
    intro n
    induction n with
    | zero => intro c d; rfl
    | succ n ih => intro c d; unfold z_an z_par; rw [h]; simp only [ih]
  exact this _ _ _
theorem z_sM_blw (c d : Nat) : z_blw (z_sM P j H l) c d = z_blw P c d := z_blw_par (P := P) (P' := z_sM P j H l) rfl c d
/-- what the class holds of one method -/
def z_h1 (m : z_m) (p j : Nat) (H : Nat → Int32) : Prop := m (p + 4) j = H 1 ∧ m (p + 5) j = H 2 ∧ m (p + 6) j = H 3 ∧ m (p + 9) j = H 8 ∧ (∀ i, i < 2 → m (p + 7) (j * 2 + i) = H (4 + i)) ∧ ∀ i, i < (H 3).toNatClampNeg → m (p + 8) (j * 2 + i) = H (6 + i)
/-- the heads of all other methods stay -/
def z_hO (m m' : z_m) (p j : Nat) : Prop := m' p = m p ∧ m' (p + 1) = m (p + 1) ∧ m' (p + 2) = m (p + 2) ∧ m' (p + 3) = m (p + 3) ∧ ∀ k, k ≠ j → m' (p + 4) k = m (p + 4) k ∧ m' (p + 5) k = m (p + 5) k ∧ m' (p + 6) k = m (p + 6) k ∧ m' (p + 9) k = m (p + 9) k ∧ ∀ i, i < 2 → m' (p + 7) (k * 2 + i) = m (p + 7) (k * 2 + i) ∧ m' (p + 8) (k * 2 + i) = m (p + 8) (k * 2 + i)
theorem z_hO.refl (m : z_m) (p j : Nat) : z_hO m m p j := ⟨rfl, rfl, rfl, rfl, fun _ _ => ⟨rfl, rfl, rfl, rfl, fun _ _ => ⟨rfl, rfl⟩⟩⟩
theorem z_hO.trans {m m' m'' : z_m} {p j : Nat} (h : z_hO m m' p j) (h2 : z_hO m' m'' p j) : z_hO m m'' p j := by
  obtain ⟨a1, a2, a3, a4, a5⟩ := h
  obtain ⟨b1, b2, b3, b4, b5⟩ := h2
  refine ⟨b1.trans a1, b2.trans a2, b3.trans a3, b4.trans a4, fun k hk => ?_⟩
  obtain ⟨c1, c2, c3, c4, c5⟩ := a5 k hk
  obtain ⟨d1, d2, d3, d4, d5⟩ := b5 k hk
  exact ⟨d1.trans c1, d2.trans c2, d3.trans c3, d4.trans c4, fun i hi => ⟨(d5 i hi).1.trans (c5 i hi).1, (d5 i hi).2.trans (c5 i hi).2⟩⟩
/-- no head at all is touched -/
theorem z_hO.same {m m' : z_m} {p : Nat} (j : Nat) (h : ∀ a, p ≤ a → a ≤ p + 9 → m' a = m a) : z_hO m m' p j := by
  refine ⟨h _ (by omega) (by omega), h _ (by omega) (by omega), h _ (by omega) (by omega), h _ (by omega) (by omega), fun k _ => ⟨?_, ?_, ?_, ?_, fun i _ => ⟨?_, ?_⟩⟩⟩ <;> rw [h _ (by omega) (by omega)]
theorem z_cp_sM {m m' : z_m} {p : Nat} (h : z_cp m p P) (hct : ∀ k, k < z_nm P → z_cnt P k ≤ 2) (hj : j < z_nm P) (hl : z_liv P j = true) (hO : z_hO m m' p j) (hH0 : H 0 = 1) (h1 : z_h1 m' p j H) (hr : z_rm60 m' p) (hb : ∀ k, k < z_nm P → k ≠ j → ∀ a, z_bi p k ≤ a → a ≤ z_bi p k + 3 → m' a = m a) (hbj : z_cb m' (z_bi p j) 60 l) : z_cp m' p (z_sM P j H l) := by
  obtain ⟨⟨c1, c2⟩, ⟨d1, d2, d3⟩, e1, e2⟩ := h
  obtain ⟨o0, o1, o2, o3, o4⟩ := hO
  have hlv : ∀ k, z_liv (z_sM P j H l) k = z_liv P k := by
    intro k
    by_cases g : k = j
    · rw [g, hl]; unfold z_liv; rw [z_sM_hd_s, hH0]; rfl
    · exact z_sM_liv_o g
  refine ⟨⟨by rw [o0]; exact c1, fun c hc => ?_⟩, ⟨by rw [o0]; exact d1, fun k hk => ?_, fun k hk hlk => ?_⟩, hr, fun k hk hlk => ?_⟩
  · rw [o1, o2, o3]
    obtain ⟨q1, q2, q3⟩ := c2 c hc
    exact ⟨q1, fun d hd => by rw [z_sM_blw]; exact q2 d hd, q3⟩
  · rw [o0, d2 k hk, hlv]; rfl
  · have hk : k < z_nm P := hk
    by_cases g : k = j
    · subst g
      obtain ⟨q1, q2, q3, q4, q5, q6⟩ := h1
      unfold z_ch z_cnt
      simp only [z_sM_hd_s]
      exact ⟨q1, q2, q3, q4, q5, q6⟩
    · rw [hlv] at hlk
      obtain ⟨q1, q2, q3, q4, q5, q6⟩ := d3 k hk hlk
      obtain ⟨r1, r2, r3, r4, r5⟩ := o4 k g
      have ec : z_cnt (z_sM P j H l) k = z_cnt P k := by unfold z_cnt; rw [z_sM_hd_o g]
      unfold z_ch
      rw [ec]
      simp only [z_sM_hd_o g]
      exact ⟨r1.trans q1, r2.trans q2, r3.trans q3, r4.trans q4, fun i hi => (r5 i hi).1.trans (q5 i hi), fun i hi => (r5 i (by have := hct k hk; omega)).2.trans (q6 i hi)⟩
  · have hk : k < z_nm P := hk
    rw [hlv] at hlk
    by_cases g : k = j
    · subst g
      rw [z_sM_bd_s]; exact hbj
    · rw [z_sM_bd_o g]
      exact z_cb_fr (hb k hk g) (e2 k hk hlk)
theorem z_h1_of {m : z_m} {p : Nat} (h : z_cp m p P) (hj : j < z_nm P) (hl : z_liv P j = true) : z_h1 m p j (z_hd P j) := by
  obtain ⟨q1, q2, q3, q4, q5, q6⟩ := h.2.1.2.2 j hj hl
  exact ⟨q1, q2, q3, q4, q5, q6⟩
/-! all methods that are there changed, the first ones so far -/
def z_mix (P : z_Pg) (H : Nat → Nat → Int32) (D : Nat → List z_N) (n : Nat) : z_Pg := (P.1, P.2.1, P.2.2.1, P.2.2.2.1, fun k w => if k < n ∧ z_liv P k = true then H k w else z_hd P k w, fun k => if k < n ∧ z_liv P k = true then D k else z_bd P k)
variable {G : Nat → Nat → Int32} {D : Nat → List z_N} {n : Nat}
theorem z_mix_0 : z_mix P G D 0 = P := by
  unfold z_mix
  have e1 : (fun k w => if k < 0 ∧ z_liv P k = true then G k w else z_hd P k w) = P.2.2.2.2.1 := by funext k w; rw [if_neg (by omega)]; rfl
  have e2 : (fun k => if k < 0 ∧ z_liv P k = true then D k else z_bd P k) = P.2.2.2.2.2 := by funext k; rw [if_neg (by omega)]; rfl
  rw [e1, e2]
theorem z_mix_hd {w : Nat} : z_hd (z_mix P G D n) k w = if k < n ∧ z_liv P k = true then G k w else z_hd P k w := rfl
theorem z_mix_bd : z_bd (z_mix P G D n) k = if k < n ∧ z_liv P k = true then D k else z_bd P k := rfl
theorem z_mix_s (hl : z_liv P n = true) : z_mix P G D (n + 1) = z_sM (z_mix P G D n) n (G n) (D n) := by
  unfold z_sM
  show (P.1, P.2.1, P.2.2.1, P.2.2.2.1, _, _) = (P.1, P.2.1, P.2.2.1, P.2.2.2.1, _, _)
  have e1 : (fun k w => if k < n + 1 ∧ z_liv P k = true then G k w else z_hd P k w) = (fun k w => if k = n then G n w else z_hd (z_mix P G D n) k w) := by
    funext k w
    by_cases g : k = n
    · subst g; rw [if_pos ⟨by omega, hl⟩, if_pos rfl]
    · rw [if_neg g, z_mix_hd]
      by_cases g2 : k < n ∧ z_liv P k = true
      · rw [if_pos g2, if_pos ⟨by omega, g2.2⟩]
      · rw [if_neg g2, if_neg (fun q => g2 ⟨by omega, q.2⟩)]
  have e2 : (fun k => if k < n + 1 ∧ z_liv P k = true then D k else z_bd P k) = (fun k => if k = n then D n else z_bd (z_mix P G D n) k) := by
    funext k
    by_cases g : k = n
    · subst g; rw [if_pos ⟨by omega, hl⟩, if_pos rfl]
    · rw [if_neg g, z_mix_bd]
      by_cases g2 : k < n ∧ z_liv P k = true
      · rw [if_pos g2, if_pos ⟨by omega, g2.2⟩]
      · rw [if_neg g2, if_neg (fun q => g2 ⟨by omega, q.2⟩)]
  rw [e1, e2]
theorem z_mix_n (hl : z_liv P n = false) : z_mix P G D (n + 1) = z_mix P G D n := by
  unfold z_mix
  have e : ∀ k, (k < n + 1 ∧ z_liv P k = true) ↔ (k < n ∧ z_liv P k = true) := by
    intro k
    constructor
    · rintro ⟨h1, h2⟩
      refine ⟨?_, h2⟩
      rcases Nat.lt_succ_iff_lt_or_eq.mp h1 with g | g
      · exact g
      · rw [g, hl] at h2; cases h2
    · rintro ⟨h1, h2⟩; exact ⟨by omega, h2⟩
  simp only [e]
/-- a head by itself -/
def z_wHf (P : z_Pg) (H : Nat → Int32) : Prop := (H 0 = 0 ∨ H 0 = 1) ∧ ((H 1).toNatClampNeg < z_nc P ∧ H 1 = nI (H 1).toNatClampNeg) ∧ (∃ n, n < 16 ∧ H 2 = nI n) ∧ ((H 3).toNatClampNeg ≤ 2 ∧ H 3 = nI (H 3).toNatClampNeg) ∧ (∀ j, j < 2 → if j < (H 3).toNatClampNeg then (∃ n, n < 16 ∧ H (4 + j) = nI n) ∧ z_ty' P (H (6 + j)) else H (4 + j) = -1) ∧ z_ty P (H 8)
theorem z_wHf_of (h : z_wH P k) : z_wHf P (z_hd P k) := h
theorem z_mix_liv (hG : ∀ k, k < n → z_liv P k = true → G k 0 = 1) : z_liv (z_mix P G D n) k = z_liv P k := by
  unfold z_liv
  rw [z_mix_hd]
  by_cases g : k < n ∧ z_liv P k = true
  · rw [if_pos g, hG k g.1 g.2]
    exact g.2.symm
  · rw [if_neg g]
theorem z_mix_wf (hw : z_wf P) (hG : ∀ k, k < z_nm P → z_liv P k = true → G k 0 = 1 ∧ z_wHf P (G k)) (hD : ∀ k, k < z_nm P → z_liv P k = true → z_wB (z_nc P) (D k)) (hu : ∀ j k, j < z_nm P → k < z_nm P → z_liv P j = true → z_liv P k = true → G j 2 = G k 2 → G j 3 = G k 3 → (G j 1).toNatClampNeg = (G k 1).toNatClampNeg → j = k) : z_wf (z_mix P G D (z_nm P)) := by
  have hlv : ∀ k, z_liv (z_mix P G D (z_nm P)) k = z_liv P k := fun k => z_mix_liv (fun k h1 h2 => (hG k h1 h2).1)
  refine ⟨hw.1, hw.2.1, hw.2.2.1, fun k hk => ?_, fun k hk => ?_, fun j k hj hk lj lk e2 e3 eo => ?_⟩
  · have hk : k < z_nm P := hk
    cases hl : z_liv P k with
    | true =>
      have e : ∀ w, z_hd (z_mix P G D (z_nm P)) k w = G k w := fun w => by rw [z_mix_hd, if_pos ⟨hk, hl⟩]
      have := (hG k hk hl).2
      unfold z_wH z_own z_cnt
      simp only [e]
      exact this
    | false =>
      have e : ∀ w, z_hd (z_mix P G D (z_nm P)) k w = z_hd P k w := fun w => by rw [z_mix_hd, if_neg (fun q => by rw [hl] at q; cases q.2)]
      have := hw.2.2.2.1 k hk
      unfold z_wH z_own z_cnt at *
      simp only [e]
      exact this
  · have hk : k < z_nm P := hk
    rw [z_mix_bd]
    split
    · rename_i g; exact hD k hk g.2
    · exact hw.2.2.2.2.1 k hk
  · have hj : j < z_nm P := hj
    have hk : k < z_nm P := hk
    rw [hlv] at lj lk
    unfold z_own at eo
    rw [z_mix_hd, z_mix_hd, if_pos ⟨hj, lj⟩, if_pos ⟨hk, lk⟩] at e2 e3 eo
    exact hu j k hj hk lj lk e2 e3 eo
theorem z_mix_b60 (h60 : z_b60 P) (hD : ∀ k, k < z_nm P → z_liv P k = true → (D k).length ≤ 60) : z_b60 (z_mix P G D (z_nm P)) := fun k hk => by
  have hk : k < z_nm P := hk
  rw [z_mix_bd]
  split
  · rename_i g; exact hD k hk g.2
  · exact h60 k hk
/-- a body is too large -/
def z_big (P : z_Pg) (D : Nat → List z_N) (n : Nat) : Bool := z_any (fun k => z_liv P k && decide (60 < (D k).length)) n
theorem z_big_f (h : z_big P D n = false) {k : Nat} (hk : k < n) (hl : z_liv P k = true) : (D k).length ≤ 60 := by
  have := z_any_f.mp h k hk
  rw [hl, Bool.true_and] at this
  have := of_decide_eq_false this
  omega
end
