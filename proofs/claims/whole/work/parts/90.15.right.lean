-- deps:
/-! what is so in a right body -/
section
variable {P : z_Pg} {k i : Nat}
/-- bodies and types of a method -/
noncomputable abbrev z_Ty (P : z_Pg) (k : Nat) : Nat → Int32 := z_T P k (z_bd P k)
noncomputable abbrev z_Bd (P : z_Pg) (k : Nat) : Nat → Int32 := z_bs P k (z_bd P k) (z_T P k (z_bd P k))
theorem z_wr_rt (h : z_wr P = -1) (hk : k < z_nm P) (h24 : z_nm P ≤ 24) (hl : z_liv P k = true) : z_rt P k (z_bd P k) ∧ z_ovw P k = false := by
  have hb : z_bad P k = false := by
    unfold z_wr at h
    rcases z_sch_c (c := z_bad P) (x := nI) (d := -1) (n := z_nm P) (i := 0) with ⟨_, h2⟩ | ⟨j, h1, h2, h3, _, h5⟩
    · exact h2 k (Nat.zero_le _) (by omega)
    · exfalso
      rw [h5] at h
      exact z_nI_m1 (by omega) h
  have h1 := z_bad_f.mp hb
  refine ⟨?_, ?_⟩
  · exact Classical.byContradiction (fun q => h1 ⟨hl, Or.inl q⟩)
  · cases q : z_ovw P k with
    | false => rfl
    | true => exact absurd ⟨hl, Or.inr q⟩ h1
theorem z_Ty_ok (hr : z_rt P k (z_bd P k)) (hi : i < (z_bd P k).length) : z_Ty P k i = z_st P k (z_bd P k) (z_Ty P k) i ∧ z_Ty P k i ≠ -3 := (z_T_ok hr).1 i hi
theorem z_Ty_tk (hw : z_wf P) (hk : k < z_nm P) (hr : z_rt P k (z_bd P k)) : ∀ i, i < (z_bd P k).length → z_tk P (z_Ty P k i) := by
  have hB := hw.2.2.2.2.1 k hk
  refine z_ind hB.1 (M := fun i => z_tk P (z_Ty P k i)) (fun i hi h1 h2 => ?_)
  rw [(z_Ty_ok hr hi).1]
  exact z_st_tk hw hk hB hi h1 (fun _ j hj => by
    obtain ⟨a, _, _, b, c⟩ := z_le_some hj
    exact h2 j a b c)
/-- an object's class -/
theorem z_tk_cl {t : Int32} (h : z_tk P t) (h0 : ¬ t < 0) : ∃ c, c < z_nc P ∧ t = nI c := by
  rcases h with g | g | g | g
  · rw [g] at h0; exact absurd (by decide) h0
  · rw [g] at h0; exact absurd (by decide) h0
  · rw [g] at h0; exact absurd (by decide) h0
  · exact g
theorem z_call (hw : z_wf P) (hk : k < z_nm P) (hr : z_rt P k (z_bd P k)) (hi : i < (z_bd P k).length) (h7 : z_k (z_bd P k) i = 7) : ∃ c q, c < z_nc P ∧ z_Ty P k (i + 1) = nI c ∧ z_fm P c (z_v (z_bd P k) i) (z_a (z_bd P k) i) = some q ∧ z_Bd P k i = nI (2000 + q) ∧ q < z_nm P ∧ z_isc P q (z_v (z_bd P k) i) (z_a (z_bd P k) i) = true ∧ z_blw P c (z_own P q) = true ∧ z_Ty P k i = z_hd P q 8 ∧ ((z_a (z_bd P k) i = 0 ∨ z_fit P (z_Ty P k (z_pt (z_bd P k) i 1)) (z_hd P q 6) = true) ∧ (z_a (z_bd P k) i = 0 ∨ z_a (z_bd P k) i = 1 ∨ z_fit P (z_Ty P k (z_pt (z_bd P k) i 2)) (z_hd P q 7) = true)) := by
  have hB := hw.2.2.2.2.1 k hk
  obtain ⟨e, hne⟩ := z_Ty_ok hr hi
  rw [z_st_7 h7] at e
  have hp : 0 < z_p (z_bd P k) i := by
    rcases z_pn_ka hB hi h7 with g | g | g <;> omega
  have h1 := z_pt_lt hB.1 hi hp
  rw [z_pt_0] at h1
  have htk := z_Ty_tk hw hk hr _ h1
  rw [z_pt_0] at e
  unfold z_tC z_cl at e
  by_cases g : z_Ty P k (i + 1) < 0
  · rw [if_pos g] at e; exact absurd e hne
  · rw [if_neg g] at e
    obtain ⟨c, hc, ec⟩ := z_tk_cl htk g
    have h6 := hw.1.1
    rw [ec, nI_clamp (by omega)] at e
    cases hf : z_fm P c (z_v (z_bd P k) i) (z_a (z_bd P k) i) with
    | none => rw [hf] at e; exact absurd e hne
    | some q =>
      rw [hf] at e
      dsimp only at e
      obtain ⟨f1, f2, f3, _⟩ := (z_fm_some hw hc).mp hf
      split at e
      · rename_i g2
        refine ⟨c, q, hc, ec, hf, ?_, f1, f2, f3, e, g2⟩
        show z_bs P k (z_bd P k) (z_Ty P k) i = _
        unfold z_bs
        rw [h7, if_neg (by decide), if_neg (by decide), if_pos rfl, z_pt_0]
        unfold z_cl
        rw [if_neg g, ec, nI_clamp (by omega), hf]
      · exact absurd e hne
theorem z_call_q (hw : z_wf P) (hk : k < z_nm P) (hr : z_rt P k (z_bd P k)) (hi : i < (z_bd P k).length) (h7 : z_k (z_bd P k) i = 7) : z_Bd P k i = nI (2000 + z_cq (z_Bd P k) i) ∧ z_cq (z_Bd P k) i < z_nm P ∧ z_liv P (z_cq (z_Bd P k) i) = true := by
  obtain ⟨c, q, _, _, _, h4, h5, h6, _⟩ := z_call hw hk hr hi h7
  have h24 := hw.2.2.1
  have e : z_cq (z_Bd P k) i = q := by
    unfold z_cq
    rw [h4, nI_clamp (by omega)]; omega
  rw [e]
  exact ⟨h4, h5, z_isc_liv h6⟩
theorem z_access (hw : z_wf P) (hk : k < z_nm P) (hr : z_rt P k (z_bd P k)) (hi : i < (z_bd P k).length) (hv : z_k (z_bd P k) i = 3 ∨ z_k (z_bd P k) i = 4) : ∃ c n q, c < z_nc P ∧ z_Ty P k (i + 1) = nI c ∧ n < 16 ∧ z_v (z_bd P k) i = nI n ∧ z_fc P c n = some q ∧ q < z_nc P ∧ z_Bd P k i = nI (1000 + q) ∧ z_Ty P k i = z_fld P q n - 2 ∧ (z_k (z_bd P k) i = 4 → z_fit P (z_Ty P k (z_pt (z_bd P k) i 1)) (z_fld P q n - 2) = true) := by
  have hB := hw.2.2.2.2.1 k hk
  obtain ⟨e, hne⟩ := z_Ty_ok hr hi
  have h6 := hw.1.1
  obtain ⟨n, hn, ev⟩ := z_v_nm hB hi (by rcases hv with g | g <;> simp [g])
  have hp : 0 < z_p (z_bd P k) i := by
    rcases hv with g | g
    · rw [z_p_3 g]; decide
    · rw [z_p_4 g]; decide
  have h1 := z_pt_lt hB.1 hi hp
  rw [z_pt_0] at h1
  have htk := z_Ty_tk hw hk hr _ h1
  have key : ∃ t1 pu, z_Ty P k i = z_tA P (z_Ty P k (i + 1)) t1 (z_v (z_bd P k) i) pu ∧ (z_k (z_bd P k) i = 4 → pu = true ∧ t1 = z_Ty P k (z_pt (z_bd P k) i 1)) := by
    rcases hv with g | g
    · rw [z_st_3 g, z_pt_0] at e
      exact ⟨_, _, e, fun q => by rw [g] at q; exact absurd q (by decide)⟩
    · rw [z_st_4 g, z_pt_0] at e
      exact ⟨_, _, e, fun _ => ⟨rfl, rfl⟩⟩
  obtain ⟨t1, pu, e, hpu⟩ := key
  unfold z_tA z_ac at e
  by_cases g : z_Ty P k (i + 1) < 0
  · rw [if_pos g] at e; exact absurd e hne
  · rw [if_neg g] at e
    obtain ⟨c, hc, ec⟩ := z_tk_cl htk g
    rw [ec, nI_clamp (show c < 2 ^ 31 by omega), ev, nI_clamp (show n < 2 ^ 31 by omega)] at e
    cases hf : z_fc P c n with
    | none => rw [hf] at e; exact absurd e hne
    | some q =>
      rw [hf] at e
      dsimp only at e
      have hq := z_fc_some hf
      refine ⟨c, n, q, hc, ec, hn, ev, hf, by omega, ?_, ?_, fun g4 => ?_⟩
      · show z_bs P k (z_bd P k) (z_Ty P k) i = _
        unfold z_bs
        rw [if_neg (by rcases hv with g | g <;> rw [g] <;> decide), if_pos hv, z_pt_0]
        unfold z_ac
        rw [if_neg g, ec, nI_clamp (show c < 2 ^ 31 by omega), ev, nI_clamp (show n < 2 ^ 31 by omega), hf]
      · split at e
        · split at e
          · exact e
          · exact absurd e hne
        · exact e
      · obtain ⟨h1, h2⟩ := hpu g4
        rw [h1, if_pos rfl] at e
        rw [← h2]
        split at e
        · rename_i g5; exact g5
        · exact absurd e hne
/-- what a variable may be bound to -/
def z_vb (P : z_Pg) (k : Nat) (l : List z_N) (i : Nat) (x : Int32) : Prop := (∃ j, z_le l i (z_v l i) = some j ∧ x = nI j) ∨ (z_le l i (z_v l i) = none ∧ 0 < z_cnt P k ∧ z_hd P k 4 = z_v l i ∧ x = -1) ∨ (z_le l i (z_v l i) = none ∧ 1 < z_cnt P k ∧ z_hd P k 5 = z_v l i ∧ x = -2) ∨ ∃ n c, n < 16 ∧ z_v l i = nI n ∧ z_le l i (nI n) = none ∧ z_fc P (z_own P k) n = some c ∧ c < z_nc P ∧ x = nI (1000 + c)
theorem z_var (hw : z_wf P) (hk : k < z_nm P) (hr : z_rt P k (z_bd P k)) (hi : i < (z_bd P k).length) (hv : z_k (z_bd P k) i = 1 ∨ z_k (z_bd P k) i = 6) : z_Bd P k i = z_bv P k (z_bd P k) i (z_v (z_bd P k) i) ∧ z_vb P k (z_bd P k) i (z_Bd P k i) ∧ z_Ty P k i = z_tb P k (z_bd P k) (z_Ty P k) i (z_v (z_bd P k) i) ∧ (z_k (z_bd P k) i = 6 → z_fit P (z_Ty P k (i + 1)) (z_Ty P k i) = true) := by
  have hB := hw.2.2.2.2.1 k hk
  obtain ⟨e, hne⟩ := z_Ty_ok hr hi
  have h6 := hw.1.1
  obtain ⟨n, hn, ev⟩ := z_v_nm hB hi (by rcases hv with g | g <;> simp [g])
  have e0 : z_Bd P k i = z_bv P k (z_bd P k) i (z_v (z_bd P k) i) := by
    show z_bs P k (z_bd P k) (z_Ty P k) i = _
    unfold z_bs
    rw [if_pos hv]
  have et : z_Ty P k i = z_tb P k (z_bd P k) (z_Ty P k) i (z_v (z_bd P k) i) ∧ (z_k (z_bd P k) i = 6 → z_fit P (z_Ty P k (i + 1)) (z_Ty P k i) = true) := by
    rcases hv with g | g
    · rw [z_st_1 g] at e
      exact ⟨e, fun q => by rw [g] at q; exact absurd q (by decide)⟩
    · rw [z_st_6 g, z_pt_0] at e
      split at e
      · rename_i g2
        exact ⟨e, fun _ => by rw [e]; exact g2⟩
      · exact absurd e hne
  refine ⟨e0, ?_, et⟩
  rw [e0]
  have e1 := et.1
  unfold z_tb at e1
  unfold z_bv z_vb
  cases hl : z_le (z_bd P k) i (z_v (z_bd P k) i) with
  | some j => exact Or.inl ⟨j, rfl, rfl⟩
  | none =>
    rw [hl] at e1
    dsimp only at e1 ⊢
    by_cases g1 : 0 < z_cnt P k ∧ z_hd P k 4 = z_v (z_bd P k) i
    · rw [if_pos g1]; exact Or.inr (Or.inl ⟨rfl, g1.1, g1.2, rfl⟩)
    · rw [if_neg g1] at e1 ⊢
      by_cases g2 : 1 < z_cnt P k ∧ z_hd P k 5 = z_v (z_bd P k) i
      · rw [if_pos g2]; exact Or.inr (Or.inr (Or.inl ⟨rfl, g2.1, g2.2, rfl⟩))
      · rw [if_neg g2] at e1 ⊢
        rw [ev, nI_clamp (show n < 2 ^ 31 by omega)] at e1 ⊢
        cases hf : z_fc P (z_own P k) n with
        | none => rw [hf] at e1; exact absurd e1 hne
        | some c =>
          have hq := z_fc_some hf
          have ho := (z_own_e hw hk).1
          rw [ev] at hl
          exact Or.inr (Or.inr (Or.inr ⟨n, c, hn, rfl, hl, hf, by omega, rfl⟩))
/-- what a place of a body is bound to is an int that is no -9 -/
theorem z_vb_r {l : List z_N} {x : Int32} (hw : z_wf P) (hl : l.length ≤ 192) (hi : i < l.length) (h : z_vb P k l i x) : (x < 1000 ↔ ¬ ∃ c, x = nI (1000 + c) ∧ c < z_nc P) ∧ x ≠ -9 ∧ (x = -1 ∨ x = -2 ∨ (∃ j, j < i ∧ x = nI j) ∨ ∃ c, c < z_nc P ∧ x = nI (1000 + c)) := by
  have h6 := hw.1.1
  have big : ∀ c, c < 6 → ¬ nI (1000 + c) < 1000 ∧ nI (1000 + c) ≠ -9 := by decide
  rcases h with ⟨j, hj, rfl⟩ | ⟨_, _, _, rfl⟩ | ⟨_, _, _, rfl⟩ | ⟨n, c, _, _, _, _, hc, rfl⟩
  · have := (z_le_some hj).1
    have lt : nI j < 1000 := (nI_ltI (a := j) (b := 1000) (by omega) (by decide)).mpr (by omega)
    refine ⟨⟨fun _ ⟨c, e, hc⟩ => ?_, fun _ => lt⟩, ?_, Or.inr (Or.inr (Or.inl ⟨j, this, rfl⟩))⟩
    · rw [e] at lt; exact (big c (by omega)).1 lt
    · intro e
      have := nI_pos (n := j) (by omega)
      rw [e] at this; exact this (by decide)
  · refine ⟨⟨fun _ ⟨c, e, hc⟩ => ?_, fun _ => by decide⟩, by decide, Or.inl rfl⟩
    exact (big c (by omega)).1 (e ▸ (by decide : (-1 : Int32) < 1000))
  · refine ⟨⟨fun _ ⟨c, e, hc⟩ => ?_, fun _ => by decide⟩, by decide, Or.inr (Or.inl rfl)⟩
    exact (big c (by omega)).1 (e ▸ (by decide : (-2 : Int32) < 1000))
  · exact ⟨⟨fun g => absurd g (big c (by omega)).1, fun g => absurd ⟨c, rfl, hc⟩ g⟩, (big c (by omega)).2, Or.inr (Or.inr (Or.inr ⟨c, hc, rfl⟩))⟩
end
