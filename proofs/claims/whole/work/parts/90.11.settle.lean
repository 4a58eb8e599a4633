-- deps:
/-! programs of before: the class's references -/
section
variable {β : Type} {S S' : z_S} {m m' : z_m} {A : z_A}
theorem z_kd_r (S : z_S) (k j : Nat) (v : Option Nat) (r : Nat) : z_kd (z_Sr S k j v) r = z_kd S r := rfl
theorem z_ln_r (S : z_S) (k j : Nat) (v : Option Nat) (r : Nat) : z_ln (z_Sr S k j v) r = z_ln S r := rfl
theorem z_rm_r (S : z_S) (k j : Nat) (v : Option Nat) (r i : Nat) : z_rm (z_Sr S k j v) r i = if r = k ∧ i = j then v else z_rm S r i := rfl
theorem zB_pR {c r a v : Nat} {f : Unit → m_M β} (hk : z_kd S r = c) : m_B (m_pR c r a v) f (z_hp S m) = f () (z_hp (z_Sr S r a (some v)) m) := by
  unfold m_B m_pR; rw [show q_kd (z_hp S m) r = z_kd S r from rfl, if_pos hk]; rfl
theorem zB_wR {r k v : Nat} {f : Unit → m_M β} (hk : z_kd S r = 23) (hv : z_kd S v = 7) (hi : k < z_ln S r) (hl : z_ln S r ≤ 2147483648) : m_B (m_wR r (nI k) v) f (z_hp S m) = f () (z_hp (z_Sr S r k (some v)) m) := by
  unfold m_B m_wR; rw [show q_kd (z_hp S m) r = z_kd S r from rfl, show q_kd (z_hp S m) v = z_kd S v from rfl, show q_ln (z_hp S m) r = z_ln S r from rfl, if_pos ⟨Or.inl ⟨hk, hv⟩, z_ins hi hl⟩, nI_clamp (by omega)]; rfl
/-- only which programs are now, the spare one and those before -/
def z_S01 (S S' : z_S) : Prop := S'.1 = S.1 ∧ S'.2.1 = S.2.1 ∧ S'.2.2.1 = S.2.2.1 ∧ (∀ r j, (r = 0 ∧ (j = 10 ∨ j = 11)) ∨ r = 241 ∨ z_rm S' r j = z_rm S r j) ∧ S'.2.2.2.2 = S.2.2.2.2
theorem z_S01.refl (S : z_S) : z_S01 S S := ⟨rfl, rfl, rfl, fun _ _ => Or.inr (Or.inr rfl), rfl⟩
theorem z_S01.r (h : z_S01 S S') {k j : Nat} {v : Option Nat} (hk : (k = 0 ∧ (j = 10 ∨ j = 11)) ∨ k = 241) : z_S01 S (z_Sr S' k j v) := by
  obtain ⟨h1, h2, h3, h4, h5⟩ := h
  refine ⟨h1, h2, h3, fun r i => ?_, h5⟩
  rw [z_rm_r]
  by_cases g : r = k ∧ i = j
  · obtain ⟨rfl, rfl⟩ := g
    rcases hk with hk | hk
    · exact Or.inl hk
    · exact Or.inr (Or.inl hk)
  · rw [if_neg g]; exact h4 r i
theorem z_S01.SS (h : z_S01 S S') : z_SS S S' := by
  obtain ⟨h1, h2, h3, h4, h5⟩ := h
  refine ⟨h1, h2, h3, fun j => ?_, by rw [h5], by rw [h5]; omega, by rw [h5]; omega⟩
  rcases h4 2390 j with g | g | g
  · omega
  · omega
  · exact g
theorem z_S01.kd (h : z_S01 S S') (r : Nat) : z_kd S' r = z_kd S r := by unfold z_kd; rw [h.2.1]
theorem z_S01.ln (h : z_S01 S S') (r : Nat) : z_ln S' r = z_ln S r := by unfold z_ln; rw [h.2.2.1]
theorem z_S01.rm (h : z_S01 S S') {r : Nat} (h0 : r ≠ 0) (h2 : r ≠ 241) (j : Nat) : z_rm S' r j = z_rm S r j := by
  rcases h.2.2.2.1 r j with g | g | g
  · exact absurd g.1 h0
  · exact absurd g h2
  · exact g
theorem z_S01.BS (h : z_S01 S S') {b R : Nat} (h0 : b ≠ 0) (h2 : b ≠ 241) (hb : z_BS S b R) : z_BS S' b R := by
  refine ⟨by rw [h.kd]; exact hb.1, fun j hj => ?_⟩
  rw [h.rm h0 h2, h.kd, h.ln]; exact hb.2 j hj
theorem z_S01.PS (h : z_S01 S S') {p : Nat} (h0 : p ≠ 0) (h2 : p + 179 ≤ 241 ∨ 242 ≤ p) (hp : z_PS S p) : z_PS S' p := by
  refine ⟨by rw [h.kd]; exact hp.1, fun j hj => ?_, fun k hk => ?_⟩
  · rw [h.rm h0 (by omega), h.kd, h.ln]; exact hp.2.1 j hj
  · rw [h.rm (by omega) (by omega)]
    exact ⟨(hp.2.2 k hk).1, h.BS (by unfold z_bi; omega) (by unfold z_bi; omega) (hp.2.2 k hk).2⟩
theorem z_S01.XS (h : z_S01 S S') (hX : z_XS S) : z_XS S' := by
  obtain ⟨a, b, c, ⟨d1, d2, d3, d4⟩, e1, e2⟩ := hX
  refine ⟨fun e he => by rw [h.kd]; exact a e he, fun e he => ?_, fun e he => by rw [h.kd, h.ln]; exact c e he, ⟨h.BS (by decide) (by decide) d1, h.BS (by decide) (by decide) d2, h.BS (by decide) (by decide) d3, h.BS (by decide) (by decide) d4⟩, by rw [h.kd]; exact e1, by rw [h.ln]; exact e2⟩
  have : ∀ e ∈ z_xr, ¬ (e.1 = 0 ∧ (e.2.1 = 10 ∨ e.2.1 = 11)) ∧ ¬ e.1 = 241 := by decide
  rcases h.2.2.2.1 e.1 e.2.1 with g | g | g
  · exact absurd g (this e he).1
  · exact absurd g (this e he).2
  · rw [g]; exact b e he
theorem z_S01.ID (h : z_S01 S S') {sn sx : Nat} {sp : Nat → Nat} (hI : z_ID S sn sx sp) {sn' sx' : Nat} {sp' : Nat → Nat} (h1 : sn' < 12 ∧ sx' < 12 ∧ ∀ i, i < 10 → sp' i < 12) (h2 : sn' ≠ sx' ∧ (∀ i, i < 10 → sp' i ≠ sn' ∧ sp' i ≠ sx') ∧ ∀ i j, i < 10 → j < 10 → i ≠ j → sp' i ≠ sp' j) (h3 : z_rm S' 0 10 = some (z_pid sn')) (h4 : z_rm S' 0 11 = some (z_pid sx')) (h5 : ∀ i, i < 10 → z_rm S' 241 i = some (z_pid (sp' i))) : z_ID S' sn' sx' sp' :=
  ⟨h.XS hI.1, h.PS (by decide) (by decide) hI.2.1, fun s hs => h.PS (by unfold z_pid; omega) (by unfold z_pid; omega) (hI.2.2.1 s hs), h1, h2, h3, h4, h5⟩
/-- the places of before, one later -/
def z_rot (sp : Nat → Nat) (i : Nat) : Nat := if i < 9 then sp (i + 1) else sp 0
/-- SmithyBench.forgetOldest -/
theorem f174_sp {sn sx : Nat} {sp : Nat → Nat} (hI : z_ID S sn sx sp) : ∃ S', f174 0 (z_hp S m) = some ((), z_hp S' (z_up m 0 13 9)) ∧ z_S01 S S' ∧ z_ID S' sn sx (z_rot sp) := by
  have hX := hI.1
  have hI0 := hI
  obtain ⟨_, _, _, ⟨i1, i2, i3⟩, ⟨j1, j2, j3⟩, n10, n11, n241⟩ := hI0
  have k241 : z_kd S 241 = 23 := hX.2.2.2.2.1
  have l241 : z_ln S 241 = 10 := hX.2.2.2.2.2
  have kp : ∀ s, s < 12 → z_kd S (z_pid s) = 7 := fun s hs => (hI.2.2.1 s hs).k
  have key : ∀ n k, n = 10 - k → 1 ≤ k → k ≤ 10 → ∀ (N : Nat) (S1 : z_S), n < N → z_S01 S S1 → (∀ i, z_rm S1 0 i = z_rm S 0 i) → (∀ i, i < 10 → z_rm S1 241 i = some (z_pid (if i < k - 1 then sp (i + 1) else sp i))) → ∃ S', m_W (fun s => f174_9b (s.1) (s.2.1) (s.2.2)) N (0, z_pid (sp 0), nI k) (z_hp S1 m) = some ((), z_hp S' (z_up m 0 13 9)) ∧ z_S01 S S' ∧ (∀ i, z_rm S' 0 i = z_rm S 0 i) ∧ ∀ i, i < 10 → z_rm S' 241 i = some (z_pid (z_rot sp i)) := by
    intro n
    induction n with
    | zero =>
      intro k h1 h2 h3 N S1 hN h01 h0 hs
      have hk : k = 10 := by omega
      subst hk
      obtain ⟨N, rfl⟩ : ∃ N', N = N' + 1 := ⟨N - 1, by omega⟩
      have g9 : z_rm S1 0 9 = some 241 := by rw [h0]; exact hX.2.1 (0, 9, 241) (by decide)
      have q0 : z_kd S1 0 = 11 := by rw [h01.kd]; exact hX.k0
      have q241 : z_kd S1 241 = 23 := by rw [h01.kd]; exact k241
      have q241l : z_ln S1 241 = 10 := by rw [h01.ln]; exact l241
      have qp : z_kd S1 (z_pid (sp 0)) = 7 := by rw [h01.kd]; exact kp _ (i3 0 (by decide))
      refine ⟨z_Sr S1 241 9 (some (z_pid (sp 0))), ?_, h01.r (Or.inr rfl), fun i => ?_, fun i hi => ?_⟩
      · have e : f174_9b 0 (z_pid (sp 0)) (nI 10) (z_hp S1 m) = some (.inr (), z_hp (z_Sr S1 241 9 (some (z_pid (sp 0)))) (z_up m 0 13 9)) := by
          unfold f174_9b f174_35
          rw [if_neg (by decide)]
          rw [show (9 : Int32) = nI 9 from rfl]
          simp only [zB_B]
          rw [zB_gR q0, g9]
          simp only [Option.bind_some, zB_B]
          rw [zB_wR q241 qp (by rw [q241l]; decide) (by rw [q241l]; decide)]
          simp only [zB_B]
          rw [zB_pI (by rw [z_kd_r]; exact q0)]
          rfl
        show m_B (f174_9b 0 (z_pid (sp 0)) (nI 10)) _ _ = _
        rw [zB_C e]; rfl
      · rw [z_rm_r, if_neg (by omega), h0]
      · rw [z_rm_r]
        unfold z_rot
        by_cases g : i = 9
        · rw [if_pos ⟨rfl, g⟩, if_neg (by omega)]
        · rw [if_neg (by omega), hs i hi, if_pos (show i < 10 - 1 by omega), if_pos (show i < 9 by omega)]
    | succ n ih =>
      intro k h1 h2 h3 N S1 hN h01 h0 hs
      obtain ⟨N, rfl⟩ : ∃ N', N = N' + 1 := ⟨N - 1, by omega⟩
      have g9 : z_rm S1 0 9 = some 241 := by rw [h0]; exact hX.2.1 (0, 9, 241) (by decide)
      have q0 : z_kd S1 0 = 11 := by rw [h01.kd]; exact hX.k0
      have q241 : z_kd S1 241 = 23 := by rw [h01.kd]; exact k241
      have q241l : z_ln S1 241 = 10 := by rw [h01.ln]; exact l241
      have hk10 : k < 10 := by omega
      have gk : z_rm S1 241 k = some (z_pid (sp k)) := by rw [hs k hk10, if_neg (by omega)]
      have qp : z_kd S1 (z_pid (sp k)) = 7 := by rw [h01.kd]; exact kp _ (i3 k hk10)
      have e : f174_9b 0 (z_pid (sp 0)) (nI k) (z_hp S1 m) = some (.inl (0, z_pid (sp 0), nI (k + 1)), z_hp (z_Sr S1 241 (k - 1) (some (z_pid (sp k)))) m) := by
        unfold f174_9b
        have lt : nI k < 10 := (nI_ltI (a := k) (b := 10) (by omega) (by decide)).mpr hk10
        rw [if_pos lt]
        rw [zB_gR q0, g9, Option.bind_some, zB_gR q0, g9, Option.bind_some, zB_lR (Or.inl q241) (by rw [q241l]; exact hk10) (by rw [q241l]; decide), gk, Option.bind_some, show nI k - 1 = nI (k - 1) from pk_sub (b := 1) h2, zB_wR q241 qp (by rw [q241l]; omega) (by rw [q241l]; decide)]
        rw [show nI k + 1 = nI (k + 1) from nI_add k 1]
        rfl
      obtain ⟨S2, e2, r⟩ := ih (k + 1) (by omega) (by omega) (by omega) N (z_Sr S1 241 (k - 1) (some (z_pid (sp k)))) (by omega) (h01.r (Or.inr rfl)) (fun i => by rw [z_rm_r, if_neg (by omega), h0]) (fun i hi => by
        rw [z_rm_r]
        by_cases g : i = k - 1
        · rw [if_pos ⟨rfl, g⟩, if_pos (by omega), show i + 1 = k by omega]
        · rw [if_neg (by omega), hs i hi]
          by_cases g2 : i < k - 1
          · rw [if_pos g2, if_pos (by omega)]
          · rw [if_neg g2, if_neg (by omega)])
      refine ⟨S2, ?_, r⟩
      show m_B (f174_9b 0 (z_pid (sp 0)) (nI k)) _ _ = _
      rw [zB_C e]; exact e2
  have g9 : z_rm S 0 9 = some 241 := hX.2.1 (0, 9, 241) (by decide)
  obtain ⟨S', e, h01, r0, r2⟩ := key 9 1 rfl (by decide) (by decide) 1000000 S (by decide) (z_S01.refl S) (fun _ => rfl) (fun i hi => by rw [if_neg (by omega)]; exact n241 i hi)
  have hrot : ∀ i, i < 10 → ∃ j, j < 10 ∧ z_rot sp i = sp j ∧ (i < 9 → j = i + 1) ∧ (¬ i < 9 → j = 0) := by
    intro i hi
    unfold z_rot
    by_cases g : i < 9
    · exact ⟨i + 1, by omega, if_pos g, fun _ => rfl, fun q => absurd g q⟩
    · exact ⟨0, by decide, if_neg g, fun q => absurd q g, fun _ => rfl⟩
  refine ⟨S', ?_, h01, h01.ID hI ⟨i1, i2, fun i hi => ?_⟩ ⟨j1, fun i hi => ?_, fun i j hi hj hij => ?_⟩ (by rw [r0]; exact n10) (by rw [r0]; exact n11) r2⟩
  · unfold f174 f174_9
    rw [zB_gR hX.k0, g9, Option.bind_some, show (0 : Int32) = nI 0 from rfl, zB_lR (Or.inl k241) (by rw [l241]; decide) (by rw [l241]; decide), n241 0 (by decide), Option.bind_some]
    exact e
  · obtain ⟨j, hj, e2, _⟩ := hrot i hi
    rw [e2]; exact i3 j hj
  · obtain ⟨j, hj, e2, _⟩ := hrot i hi
    rw [e2]; exact j2 j hj
  · obtain ⟨a, ha, e2, a1, a2⟩ := hrot i hi
    obtain ⟨b, hb, e3, b1, b2⟩ := hrot j hj
    rw [e2, e3]
    exact j3 a b ha hb (by omega)
end
