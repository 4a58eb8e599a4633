/-! programs in the abstract: classes, fields (type and 2, or 0), methods (heads of nine words, bodies) -/
abbrev z_Pg : Type := Nat × (Nat → Int32) × (Nat → Nat → Int32) × Nat × (Nat → Nat → Int32) × (Nat → List z_N)
def z_nc (P : z_Pg) : Nat := P.1
def z_par (P : z_Pg) (c : Nat) : Int32 := P.2.1 c
def z_fld (P : z_Pg) (c n : Nat) : Int32 := P.2.2.1 c n
def z_nm (P : z_Pg) : Nat := P.2.2.2.1
def z_hd (P : z_Pg) (k w : Nat) : Int32 := P.2.2.2.2.1 k w
def z_bd (P : z_Pg) (k : Nat) : List z_N := P.2.2.2.2.2 k
/-! above and below -/
def z_an (P : z_Pg) : Nat → Nat → Nat → Bool
  | 0, _, _ => false
  | n + 1, c, d => c == d || (z_par P c != -1 && z_an P n (z_par P c).toNatClampNeg d)
/-- a class is another one, or below it -/
def z_blw (P : z_Pg) (c d : Nat) : Bool := z_an P (c + 1) c d
def z_akin (P : z_Pg) (c d : Nat) : Bool := z_blw P c d || z_blw P d c
/-- parents are earlier classes -/
def z_wpar (P : z_Pg) : Prop := z_nc P ≤ 6 ∧ ∀ c, c < z_nc P → z_par P c = -1 ∨ ∃ d, d < c ∧ z_par P c = nI d
theorem z_nI_m1 {d : Nat} (h : d < 2147483648) : ¬ nI d = -1 := by
  intro e
  have h1 := nI_pos (n := d) h
  rw [e] at h1
  exact h1 (by decide)
theorem z_par_c {P : z_Pg} (hw : z_wpar P) {c : Nat} (hc : c < z_nc P) : (z_par P c = -1) ∨ ∃ d, d < c ∧ z_par P c = nI d ∧ z_par P c ≠ -1 ∧ (z_par P c).toNatClampNeg = d := by
  rcases hw.2 c hc with h | ⟨d, h1, h2⟩
  · exact Or.inl h
  · have := hw.1
    refine Or.inr ⟨d, h1, h2, ?_, ?_⟩
    · rw [h2]; exact z_nI_m1 (by omega)
    · rw [h2]; exact nI_clamp (by omega)
theorem z_an_fuel {P : z_Pg} (hw : z_wpar P) : ∀ (n m c d : Nat), c < z_nc P → c < n → c < m → z_an P n c d = z_an P m c d
  | 0, _, _, _, _, h, _ => by omega
  | _ + 1, 0, _, _, _, _, h => by omega
  | n + 1, m + 1, c, d, hc, h1, h2 => by
    unfold z_an
    rcases z_par_c hw hc with h | ⟨e, h3, h4, h5, h6⟩
    · rw [h]; simp
    · rw [h6, z_an_fuel hw n m e d (by omega) (by omega) (by omega)]
theorem z_blw_eq {P : z_Pg} (hw : z_wpar P) {c : Nat} (hc : c < z_nc P) (d : Nat) : z_blw P c d = (c == d || (z_par P c != -1 && z_blw P (z_par P c).toNatClampNeg d)) := by
  unfold z_blw
  rcases z_par_c hw hc with h | ⟨e, h3, h4, h5, h6⟩
  · rw [show z_an P (c + 1) c d = (c == d || (z_par P c != -1 && z_an P c (z_par P c).toNatClampNeg d)) from rfl, h]; simp
  · rw [show z_an P (c + 1) c d = (c == d || (z_par P c != -1 && z_an P c (z_par P c).toNatClampNeg d)) from rfl, h6, z_an_fuel hw c (e + 1) e d (by omega) h3 (by omega)]
theorem z_blw_refl (P : z_Pg) (c : Nat) : z_blw P c c = true := by unfold z_blw z_an; simp
/-- along the parents -/
theorem z_blw_ind {P : z_Pg} (hw : z_wpar P) {M : Nat → Nat → Prop} (h0 : ∀ c, c < z_nc P → M c c) (hs : ∀ c e d, c < z_nc P → e < c → z_par P c = nI e → z_blw P e d = true → M e d → M c d) : ∀ c d, c < z_nc P → z_blw P c d = true → M c d := by
  have key : ∀ n c d, c < n → c < z_nc P → z_blw P c d = true → M c d := by
    intro n
    induction n with
    | zero => intro c d h; omega
    | succ n ih =>
      intro c d h hc hb
      rw [z_blw_eq hw hc] at hb
      rcases Bool.or_eq_true_iff.mp hb with h1 | h1
      · rw [← eq_of_beq h1]; exact h0 c hc
      · obtain ⟨h2, h3⟩ := Bool.and_eq_true_iff.mp h1
        rcases z_par_c hw hc with h4 | ⟨e, h5, h6, h7, h8⟩
        · rw [h4] at h2; cases h2
        · rw [h8] at h3
          exact hs c e d hc h5 h6 h3 (ih e d (by omega) (by omega) h3)
  exact fun c d => key (c + 1) c d (Nat.lt_succ_self c)
theorem z_blw_le {P : z_Pg} (hw : z_wpar P) {c d : Nat} (hc : c < z_nc P) (h : z_blw P c d = true) : d ≤ c :=
  z_blw_ind hw (M := fun c d => d ≤ c) (fun _ _ => Nat.le_refl _) (fun _ _ _ _ h1 _ _ h2 => by omega) c d hc h
theorem z_blw_step {P : z_Pg} (hw : z_wpar P) {c e d : Nat} (hc : c < z_nc P) (he : e < c) (hp : z_par P c = nI e) (h : z_blw P e d = true) : z_blw P c d = true := by
  have := hw.1
  rw [z_blw_eq hw hc, hp, nI_clamp (by omega), h]
  have : nI e ≠ -1 := z_nI_m1 (by omega)
  simp [this]
theorem z_blw_trans {P : z_Pg} (hw : z_wpar P) {c d e : Nat} (hc : c < z_nc P) (h : z_blw P c d = true) (h2 : z_blw P d e = true) : z_blw P c e = true :=
  z_blw_ind hw (M := fun c d => z_blw P d e = true → z_blw P c e = true) (fun _ _ h => h) (fun _ _ _ hc he hp _ ih hx => z_blw_step hw hc he hp (ih hx)) c d hc h h2
/-- what is above one class lies in a row -/
theorem z_blw_lin {P : z_Pg} (hw : z_wpar P) {c d e : Nat} (hc : c < z_nc P) (h : z_blw P c d = true) (h2 : z_blw P c e = true) (hde : e ≤ d) : z_blw P d e = true := by
  refine z_blw_ind hw (M := fun c d => ∀ e, z_blw P c e = true → e ≤ d → z_blw P d e = true) (fun _ _ _ h _ => h) ?_ c d hc h e h2 hde
  intro c p d hc hp hpar hpd ih e hce hed
  rw [z_blw_eq hw hc] at hce
  have hdp := z_blw_le hw (by omega) hpd
  rcases Bool.or_eq_true_iff.mp hce with h1 | h1
  · have := eq_of_beq h1; omega
  · have h3 := (Bool.and_eq_true_iff.mp h1).2
    have := hw.1
    rw [hpar, nI_clamp (by omega)] at h3
    exact ih e h3 hed
/-! fields and methods -/
def z_fc (P : z_Pg) (c n : Nat) : Option Nat := z_lst (fun d => z_blw P c d && z_fld P d n != 0) (c + 1)
def z_liv (P : z_Pg) (k : Nat) : Bool := z_hd P k 0 == 1
def z_own (P : z_Pg) (k : Nat) : Nat := (z_hd P k 1).toNatClampNeg
/-- a method that is there, has a name and so many parameters -/
def z_isc (P : z_Pg) (k : Nat) (name cnt : Int32) : Bool := z_liv P k && (z_hd P k 2 == name && z_hd P k 3 == cnt)
def z_om (P : z_Pg) (c : Nat) (name cnt : Int32) : Option Nat := z_lst (fun k => z_isc P k name cnt && z_own P k == c) (z_nm P)
def z_fm (P : z_Pg) (c : Nat) (name cnt : Int32) : Option Nat := (z_lst (fun d => z_blw P c d && (z_om P d name cnt).isSome) (c + 1)).bind (fun d => z_om P d name cnt)
def z_am (P : z_Pg) (c : Nat) (name cnt : Int32) : Bool := (List.range (z_nm P)).any (fun k => z_isc P k name cnt && z_akin P (z_own P k) c)
/-- a type of ours: a number, a class -/
def z_ty (P : z_Pg) (t : Int32) : Prop := t = -1 ∨ ∃ c, c < z_nc P ∧ t = nI c
def z_ty' (P : z_Pg) (t : Int32) : Prop := t = -2 ∨ z_ty P t
def z_wN (nc : Nat) (x : z_N) : Prop := (∃ k, k < 14 ∧ x.1 = nI k) ∧ (if x.1 = 7 then x.2.2 = 0 ∨ x.2.2 = 1 ∨ x.2.2 = 2 else x.2.2 = 0) ∧ ((x.1 = 1 ∨ x.1 = 3 ∨ x.1 = 4 ∨ x.1 = 5 ∨ x.1 = 6 ∨ x.1 = 7) → ∃ n, n < 16 ∧ x.2.1 = nI n) ∧ (x.1 = 8 → ∃ n, n < nc ∧ x.2.1 = nI n)
/-- a body that may be kept -/
def z_wB (nc : Nat) (l : List z_N) : Prop := z_tr l ∧ ∀ x ∈ l, z_wN nc x
def z_cnt (P : z_Pg) (k : Nat) : Nat := (z_hd P k 3).toNatClampNeg
/-- a head as it should be -/
def z_wH (P : z_Pg) (k : Nat) : Prop := (z_hd P k 0 = 0 ∨ z_hd P k 0 = 1) ∧ (z_own P k < z_nc P ∧ z_hd P k 1 = nI (z_own P k)) ∧ (∃ n, n < 16 ∧ z_hd P k 2 = nI n) ∧ (z_cnt P k ≤ 2 ∧ z_hd P k 3 = nI (z_cnt P k)) ∧ (∀ j, j < 2 → if j < z_cnt P k then (∃ n, n < 16 ∧ z_hd P k (4 + j) = nI n) ∧ z_ty' P (z_hd P k (6 + j)) else z_hd P k (4 + j) = -1) ∧ z_ty P (z_hd P k 8)
def z_uq (P : z_Pg) : Prop := ∀ j k, j < z_nm P → k < z_nm P → z_liv P j = true → z_liv P k = true → z_hd P j 2 = z_hd P k 2 → z_hd P j 3 = z_hd P k 3 → z_own P j = z_own P k → j = k
/-- a program as it should be -/
def z_wf (P : z_Pg) : Prop := z_wpar P ∧ (∀ c n, c < z_nc P → n < 16 → z_fld P c n = 0 ∨ ∃ t, z_ty P t ∧ z_fld P c n = t + 2) ∧ z_nm P ≤ 24 ∧ (∀ k, k < z_nm P → z_wH P k) ∧ (∀ k, k < z_nm P → z_wB (z_nc P) (z_bd P k)) ∧ z_uq P
