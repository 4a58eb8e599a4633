/-! another class, another field -/
def z_addC (P : z_Pg) (x : Int32) : z_Pg := (z_nc P + 1, fun c => if c = z_nc P then x else z_par P c, fun c n => if c = z_nc P then 0 else z_fld P c n, P.2.2.2)
def z_addF (P : z_Pg) (c n : Nat) (v : Int32) : z_Pg := (P.1, P.2.1, fun c' n' => if c' = c ∧ n' = n then v else z_fld P c' n', P.2.2.2)
section
variable {P : z_Pg} {x : Int32}
theorem z_an_congr {P P' : z_Pg} (hw : z_wpar P) (h : ∀ c, c < z_nc P → z_par P' c = z_par P c) : ∀ (n c d : Nat), c < z_nc P → z_an P' n c d = z_an P n c d
  | 0, _, _, _ => rfl
  | n + 1, c, d, hc => by
    unfold z_an
    rw [h c hc]
    rcases z_par_c hw hc with g | ⟨e, g1, g2, g3, g4⟩
    · rw [g]; simp
    · rw [g4, z_an_congr hw h n e d (by omega)]
theorem z_blw_congr {P P' : z_Pg} (hw : z_wpar P) (h : ∀ c, c < z_nc P → z_par P' c = z_par P c) {c : Nat} (hc : c < z_nc P) (d : Nat) : z_blw P' c d = z_blw P c d := z_an_congr hw h _ c d hc
theorem z_addC_par (c : Nat) (hc : c < z_nc P) : z_par (z_addC P x) c = z_par P c := by
  show (if c = z_nc P then x else z_par P c) = _
  rw [if_neg (by omega)]
theorem z_ty_mono {P P' : z_Pg} (h : z_nc P ≤ z_nc P') {t : Int32} (ht : z_ty P t) : z_ty P' t := by
  rcases ht with g | ⟨c, h1, h2⟩
  · exact Or.inl g
  · exact Or.inr ⟨c, by omega, h2⟩
theorem z_wN_mono {nc nc' : Nat} (h : nc ≤ nc') {y : z_N} (hy : z_wN nc y) : z_wN nc' y := ⟨hy.1, hy.2.1, hy.2.2.1, fun g => by
  obtain ⟨n, h1, h2⟩ := hy.2.2.2 g
  exact ⟨n, by omega, h2⟩⟩
theorem z_wB_mono {nc nc' : Nat} (h : nc ≤ nc') {l : List z_N} (hl : z_wB nc l) : z_wB nc' l := ⟨hl.1, fun y hy => z_wN_mono h (hl.2 y hy)⟩
theorem z_wH_mono {P P' : z_Pg} (h : z_nc P ≤ z_nc P') (he : P'.2.2.2 = P.2.2.2) {k : Nat} (hk : z_wH P k) : z_wH P' k := by
  have ehd : ∀ w, z_hd P' k w = z_hd P k w := fun w => by unfold z_hd; rw [he]
  have eo : z_own P' k = z_own P k := by unfold z_own; rw [ehd]
  have ec : z_cnt P' k = z_cnt P k := by unfold z_cnt; rw [ehd]
  obtain ⟨h1, h2, h3, h4, h5, h6⟩ := hk
  unfold z_wH
  rw [eo, ec, ehd, ehd, ehd, ehd, ehd]
  refine ⟨h1, ⟨by omega, h2.2⟩, h3, h4, fun j hj => ?_, z_ty_mono h h6⟩
  have := h5 j hj
  rw [ehd, ehd]
  split
  · rename_i g
    rw [if_pos g] at this
    refine ⟨this.1, ?_⟩
    rcases this.2 with g2 | g2
    · exact Or.inl g2
    · exact Or.inr (z_ty_mono h g2)
  · rename_i g
    rw [if_neg g] at this; exact this
theorem z_addC_wf (hw : z_wf P) (h6 : z_nc P < 6) (hx : x = -1 ∨ ∃ d, d < z_nc P ∧ x = nI d) : z_wf (z_addC P x) := by
  have hle : z_nc P ≤ z_nc (z_addC P x) := Nat.le_succ _
  refine ⟨⟨h6, fun c hc => ?_⟩, fun c n hc hn => ?_, hw.2.2.1, fun k hk => z_wH_mono hle rfl (hw.2.2.2.1 k hk), fun k hk => z_wB_mono hle (hw.2.2.2.2.1 k hk), hw.2.2.2.2.2⟩
  · show (if c = z_nc P then x else z_par P c) = -1 ∨ ∃ d, d < c ∧ (if c = z_nc P then x else z_par P c) = nI d
    by_cases g : c = z_nc P
    · rw [if_pos g, g]; exact hx
    · rw [if_neg g]; exact hw.1.2 c (by have : c < z_nc P + 1 := hc; omega)
  · show (if c = z_nc P then 0 else z_fld P c n) = 0 ∨ ∃ t, z_ty (z_addC P x) t ∧ (if c = z_nc P then 0 else z_fld P c n) = t + 2
    by_cases g : c = z_nc P
    · rw [if_pos g]; exact Or.inl rfl
    · rw [if_neg g]
      rcases hw.2.1 c n (by have : c < z_nc P + 1 := hc; omega) hn with g2 | ⟨t, g2, g3⟩
      · exact Or.inl g2
      · exact Or.inr ⟨t, z_ty_mono hle g2, g3⟩
variable {S : z_S} {m : z_m} {p : Nat}
/-- Program.addClass -/
theorem f71_sp (hp : z_PS S p) (h : z_cp m p P) (hw : z_wf P) (h6 : z_nc P < 6) (hx : x = -1 ∨ ∃ d, d < z_nc P ∧ x = nI d) : ∃ m', f71 p x (z_hp S m) = some (nI (z_nc P), z_hp S m') ∧ z_cp m' p (z_addC P x) ∧ m' p 14 = 0 ∧ ∀ a, a ≠ p → a ≠ p + 1 → a ≠ p + 2 → a ≠ p + 3 → m' a = m a := by
  obtain ⟨⟨c1, c2⟩, ⟨d1, d2, d3⟩, e1, e2⟩ := h
  have h24 := hw.2.2.1
  obtain ⟨w, ew, hw2⟩ : ∃ w : Int32, (f71 p x (z_hp S m) = f71_35 p (nI (z_nc P)) (p + 2) (nI (z_nc P)) (1 <<< (nI (z_nc P) &&& 31)) w (z_hp S (z_up m (p + 1) (z_nc P) x))) ∧ ∀ d, d < 32 → z_bit w d = (x != -1 && z_blw P x.toNatClampNeg d) := by
    rcases hx with g | ⟨d, hd, g⟩
    · refine ⟨0, ?_, fun d hd => by rw [z_bit_0 hd, g]; rfl⟩
      unfold f71
      simp (disch := ((try simp only [true_or, or_true, hp.k, hp.k1, hp.k2, hp.k3, hp.k4, hp.k5, hp.k6, hp.k7, hp.k8, hp.k9, hp.k10, hp.l1, hp.l2, hp.l3, hp.l4, hp.l5, hp.l6, hp.l7, hp.l8, hp.l9, hp.l10]) <;> (try omega))) only [↓reduceIte, ↓z_ite, ↓zR, ↓zB_R, ↓zB_B, ↓zB_ite, ↓zB_gI, ↓zB_pI, ↓zB_pZ, ↓zB_aK, ↓zB_G, ↓zB_lI, ↓zB_lZ, ↓zB_wI, ↓zB_wZ, ↓zB_lIl, ↓zB_wIl, zB_pI, zB_pZ, zB_lI, zB_lZ, zB_wI, zB_wZ, z_addl, z_ladd, z_mull, z_lmul, nI_add, z_subl, Nat.not_lt_zero, z_10, z_01, z_bitc, z_b0, z_b1, ↓zB_Gb, ↓zB_G0, ↓zB_G1, z_eql, z_leq, z_ltl, z_llt, z_eq, z_lt, z_m1lt, hp.k, hp.k1, hp.k2, hp.k3, hp.k4, hp.k5, hp.k6, hp.k7, hp.k8, hp.k9, hp.k10, hp.l1, hp.l2, hp.l3, hp.l4, hp.l5, hp.l6, hp.l7, hp.l8, hp.l9, hp.l10, ↓hp.g0, ↓hp.g1, ↓hp.g2, ↓hp.g3, ↓hp.g4, ↓hp.g5, ↓hp.g6, ↓hp.g7, ↓hp.g8, ↓hp.g9, ↓hp.gb, hp.gb, c1, g]
    · refine ⟨m (p + 2) d, ?_, fun d' hd' => ?_⟩
      · have hne : ¬ nI d = -1 := z_nI_m1 (by omega)
        have u : z_up m (p + 1) (z_nc P) (nI d) (p + 2) d = m (p + 2) d := z_up_a (by omega)
        unfold f71
        rw [g]
        simp (disch := ((try simp only [true_or, or_true, hp.k, hp.k1, hp.k2, hp.k3, hp.k4, hp.k5, hp.k6, hp.k7, hp.k8, hp.k9, hp.k10, hp.l1, hp.l2, hp.l3, hp.l4, hp.l5, hp.l6, hp.l7, hp.l8, hp.l9, hp.l10]) <;> (try omega))) only [↓reduceIte, ↓z_ite, ↓zR, ↓zB_R, ↓zB_B, ↓zB_ite, ↓zB_gI, ↓zB_pI, ↓zB_pZ, ↓zB_aK, ↓zB_G, ↓zB_lI, ↓zB_lZ, ↓zB_wI, ↓zB_wZ, ↓zB_lIl, ↓zB_wIl, zB_pI, zB_pZ, zB_lI, zB_lZ, zB_wI, zB_wZ, z_addl, z_ladd, z_mull, z_lmul, nI_add, z_subl, Nat.not_lt_zero, z_10, z_01, z_bitc, z_b0, z_b1, ↓zB_Gb, ↓zB_G0, ↓zB_G1, z_eql, z_leq, z_ltl, z_llt, z_eq, z_lt, z_m1lt, hp.k, hp.k1, hp.k2, hp.k3, hp.k4, hp.k5, hp.k6, hp.k7, hp.k8, hp.k9, hp.k10, hp.l1, hp.l2, hp.l3, hp.l4, hp.l5, hp.l6, hp.l7, hp.l8, hp.l9, hp.l10, ↓hp.g0, ↓hp.g1, ↓hp.g2, ↓hp.g3, ↓hp.g4, ↓hp.g5, ↓hp.g6, ↓hp.g7, ↓hp.g8, ↓hp.g9, ↓hp.gb, hp.gb, c1, hne, u]
      · have hne : nI d ≠ -1 := z_nI_m1 (by omega)
        rw [g, nI_clamp (by omega), (c2 d hd).2.1 d' hd']
        simp [hne]
  rw [ew]
  generalize hm1 : z_up (z_up m (p + 1) (z_nc P) x) (p + 2) (z_nc P) ((1 <<< (nI (z_nc P) &&& 31)) ||| w) = m1
  have start : f71_35 p (nI (z_nc P)) (p + 2) (nI (z_nc P)) (1 <<< (nI (z_nc P) &&& 31)) w (z_hp S (z_up m (p + 1) (z_nc P) x)) = f71_39 p (nI (z_nc P)) 0 (z_hp S m1) := by
    rw [← hm1]
    unfold f71_35
    simp (disch := ((try simp only [true_or, or_true, hp.k, hp.k1, hp.k2, hp.k3, hp.k4, hp.k5, hp.k6, hp.k7, hp.k8, hp.k9, hp.k10, hp.l1, hp.l2, hp.l3, hp.l4, hp.l5, hp.l6, hp.l7, hp.l8, hp.l9, hp.l10]) <;> (try omega))) only [↓reduceIte, ↓z_ite, ↓zR, ↓zB_R, ↓zB_B, ↓zB_ite, ↓zB_gI, ↓zB_pI, ↓zB_pZ, ↓zB_aK, ↓zB_G, ↓zB_lI, ↓zB_lZ, ↓zB_wI, ↓zB_wZ, ↓zB_lIl, ↓zB_wIl, zB_pI, zB_pZ, zB_lI, zB_lZ, zB_wI, zB_wZ, z_addl, z_ladd, z_mull, z_lmul, nI_add, z_subl, Nat.not_lt_zero, z_10, z_01, z_bitc, z_b0, z_b1, ↓zB_Gb, ↓zB_G0, ↓zB_G1, z_eql, z_leq, z_ltl, z_llt, z_eq, z_lt, z_m1lt, hp.k, hp.k1, hp.k2, hp.k3, hp.k4, hp.k5, hp.k6, hp.k7, hp.k8, hp.k9, hp.k10, hp.l1, hp.l2, hp.l3, hp.l4, hp.l5, hp.l6, hp.l7, hp.l8, hp.l9, hp.l10, ↓hp.g0, ↓hp.g1, ↓hp.g2, ↓hp.g3, ↓hp.g4, ↓hp.g5, ↓hp.g6, ↓hp.g7, ↓hp.g8, ↓hp.g9, ↓hp.gb, hp.gb]
  rw [start]
  unfold f71_39
  have hfr1 : ∀ a, a ≠ p + 1 → a ≠ p + 2 → m1 a = m a := fun a g1 g2 => by rw [← hm1, z_up_row g2, z_up_row g1]
  have key := z_loopI (f := fun s => f71_39b (s.1) (s.2.1) (s.2.2)) (S := S) (fun n s m' => ∃ i, n = 16 - i ∧ i ≤ 16 ∧ s = (p, nI (z_nc P), nI i) ∧ (∀ a, a ≠ p + 3 → m' a = m1 a) ∧ (∀ j, j < z_nc P * 16 → m' (p + 3) j = m (p + 3) j) ∧ ∀ j, j < i → m' (p + 3) (z_nc P * 16 + j) = -3) (fun v m' => v = nI (z_nc P) ∧ m' p 10 = nI (z_nc P + 1) ∧ m' p 14 = 0 ∧ (∀ j, j ≠ 10 → j ≠ 14 → m' p j = m1 p j) ∧ (∀ a, a ≠ p → a ≠ p + 3 → m' a = m1 a) ∧ (∀ j, j < z_nc P * 16 → m' (p + 3) j = m (p + 3) j) ∧ ∀ j, j < 16 → m' (p + 3) (z_nc P * 16 + j) = -3) ?_ 1000000 16 (p, nI (z_nc P), 0) m1 ⟨0, rfl, by decide, rfl, fun _ _ => rfl, fun j hj => by rw [hfr1 _ (by omega) (by omega)], fun j hj => by omega⟩ (by decide)
  · obtain ⟨v, m', e, rfl, g10, g14, g1, g2, g3, g4⟩ := key
    have r1 : m' (p + 1) = m1 (p + 1) := g2 _ (by omega) (by omega)
    have r2 : m' (p + 2) = m1 (p + 2) := g2 _ (by omega) (by omega)
    have r0 : ∀ a, a ≠ p → a ≠ p + 1 → a ≠ p + 2 → a ≠ p + 3 → m' a = m a := fun a x1 x2 x3 x4 => by rw [g2 a x1 x4, hfr1 a x2 x3]
    refine ⟨m', e, ⟨⟨g10, fun c hc => ?_⟩, ⟨?_, ?_, fun k hk hl => ?_⟩, fun k hk => ?_, fun k hk hl => ?_⟩, g14, r0⟩
    · have hc : c < z_nc P + 1 := hc
      rw [r1, r2]
      by_cases g : c = z_nc P
      · subst g
        refine ⟨?_, fun d hd => ?_, fun n hn => ?_⟩
        · rw [← hm1, z_up_a (by omega), z_up_s]
          show x = if z_nc P = z_nc P then x else _
          rw [if_pos rfl]
        · rw [← hm1, z_up_s, z_bit_or _ _ hd, z_bit_shl (by omega) hd, hw2 d hd]
          rw [z_blw_eq (z_addC_wf hw h6 hx).1 (show z_nc P < z_nc (z_addC P x) from Nat.lt_succ_self _)]
          have ep : z_par (z_addC P x) (z_nc P) = x := if_pos rfl
          rw [ep]
          have e3 : (z_nc P == d) = decide (z_nc P = d) := rfl
          rcases hx with gx | ⟨d', hd', gx⟩
          · subst gx; simp [e3]
          · have : z_blw (z_addC P x) x.toNatClampNeg d = z_blw P x.toNatClampNeg d := by
              rw [gx, nI_clamp (by omega)]
              exact z_blw_congr hw.1 (fun c hc => z_addC_par c hc) hd' d
            rw [this, e3]
        · rw [g4 n hn]
          show -3 = z_ft (z_addC P x) (z_nc P) n
          unfold z_ft
          have : z_fld (z_addC P x) (z_nc P) n = 0 := if_pos rfl
          rw [this]; rfl
      · have hc2 : c < z_nc P := by omega
        refine ⟨?_, fun d hd => ?_, fun n hn => ?_⟩
        · rw [← hm1, z_up_a (by omega), z_up_b g, z_addC_par c hc2]; exact (c2 c hc2).1
        · rw [← hm1, z_up_b g, z_up_a (by omega), z_blw_congr hw.1 (fun c hc => z_addC_par c hc) hc2 d]; exact (c2 c hc2).2.1 d hd
        · rw [g3 _ (by omega)]
          have : z_ft (z_addC P x) c n = z_ft P c n := by
            unfold z_ft
            have : z_fld (z_addC P x) c n = z_fld P c n := if_neg g
            rw [this]
          rw [this]; exact (c2 c hc2).2.2 n hn
    · rw [g1 11 (by decide) (by decide), hfr1 p (by omega) (by omega)]; exact d1
    · rw [g1 12 (by decide) (by decide), hfr1 p (by omega) (by omega)]; exact d2
    · have := d3 k hk hl
      unfold z_ch at *
      rw [r0 (p + 4) (by omega) (by omega) (by omega) (by omega), r0 (p + 5) (by omega) (by omega) (by omega) (by omega), r0 (p + 6) (by omega) (by omega) (by omega) (by omega), r0 (p + 7) (by omega) (by omega) (by omega) (by omega), r0 (p + 8) (by omega) (by omega) (by omega) (by omega), r0 (p + 9) (by omega) (by omega) (by omega) (by omega)]
      exact this
    · rw [r0 _ (by unfold z_bi; omega) (by unfold z_bi; omega) (by unfold z_bi; omega) (by unfold z_bi; omega)]; exact e1 k hk
    · exact z_cb_fr (fun a x1 x2 => r0 a (by unfold z_bi at x1; omega) (by unfold z_bi at x1; omega) (by unfold z_bi at x1; omega) (by unfold z_bi at x1; omega)) (e2 k hk hl)
  · rintro n s m' ⟨i, rfl, hi, rfl, g1, g2, g3⟩
    dsimp only
    rcases Nat.eq_or_lt_of_le hi with hi2 | hi2
    · refine Or.inr ⟨nI (z_nc P), z_up (z_up m' p 10 (nI (z_nc P + 1))) p 14 0, ?_, rfl, ?_, z_up_s _ _ _ _, fun j x1 x2 => ?_, fun a x1 x2 => ?_, fun j hj => ?_, fun j hj => ?_⟩
      · have m10 : m' p 10 = nI (z_nc P) := by rw [g1 p (by omega), hfr1 p (by omega) (by omega)]; exact c1
        unfold f71_39b f71_64
        rw [hi2]
        simp (disch := ((try simp only [true_or, or_true, hp.k, hp.k1, hp.k2, hp.k3, hp.k4, hp.k5, hp.k6, hp.k7, hp.k8, hp.k9, hp.k10, hp.l1, hp.l2, hp.l3, hp.l4, hp.l5, hp.l6, hp.l7, hp.l8, hp.l9, hp.l10, or_true]) <;> (try omega))) only [↓reduceIte, ↓z_ite, ↓zR, ↓zB_R, ↓zB_B, ↓zB_ite, ↓zB_gI, ↓zB_pI, ↓zB_pZ, ↓zB_aK, ↓zB_G, ↓zB_lI, ↓zB_lZ, ↓zB_wI, ↓zB_wZ, ↓zB_lIl, ↓zB_wIl, zB_pI, zB_pZ, zB_lI, zB_lZ, zB_wI, zB_wZ, z_addl, z_ladd, z_mull, z_lmul, nI_add, z_subl, Nat.not_lt_zero, z_10, z_01, z_bitc, z_b0, z_b1, ↓zB_Gb, ↓zB_G0, ↓zB_G1, z_eql, z_leq, z_ltl, z_llt, z_eq, z_lt, z_m1lt, hp.k, hp.k1, hp.k2, hp.k3, hp.k4, hp.k5, hp.k6, hp.k7, hp.k8, hp.k9, hp.k10, hp.l1, hp.l2, hp.l3, hp.l4, hp.l5, hp.l6, hp.l7, hp.l8, hp.l9, hp.l10, or_true, ↓hp.g0, ↓hp.g1, ↓hp.g2, ↓hp.g3, ↓hp.g4, ↓hp.g5, ↓hp.g6, ↓hp.g7, ↓hp.g8, ↓hp.g9, ↓hp.gb, hp.gb, m10, Nat.lt_irrefl]
      · rw [z_up_b (by decide), z_up_s]
      · rw [z_up_b x2, z_up_b x1, g1 p (by omega)]
      · rw [z_up_row x1, z_up_row x1]; exact g1 a x2
      · rw [z_up_a (by omega), z_up_a (by omega)]; exact g2 j hj
      · rw [z_up_a (by omega), z_up_a (by omega)]; exact g3 j (by omega)
    · refine Or.inl ⟨_, z_up m' (p + 3) (z_nc P * 16 + i) (-3), 16 - (i + 1), ?_, by omega, i + 1, rfl, hi2, rfl, fun a x1 => ?_, fun j hj => ?_, fun j hj => ?_⟩
      · unfold f71_39b
        simp (disch := ((try simp only [true_or, or_true, hp.k, hp.k1, hp.k2, hp.k3, hp.k4, hp.k5, hp.k6, hp.k7, hp.k8, hp.k9, hp.k10, hp.l1, hp.l2, hp.l3, hp.l4, hp.l5, hp.l6, hp.l7, hp.l8, hp.l9, hp.l10]) <;> (try omega))) only [↓reduceIte, ↓z_ite, ↓zR, ↓zB_R, ↓zB_B, ↓zB_ite, ↓zB_gI, ↓zB_pI, ↓zB_pZ, ↓zB_aK, ↓zB_G, ↓zB_lI, ↓zB_lZ, ↓zB_wI, ↓zB_wZ, ↓zB_lIl, ↓zB_wIl, zB_pI, zB_pZ, zB_lI, zB_lZ, zB_wI, zB_wZ, z_addl, z_ladd, z_mull, z_lmul, nI_add, z_subl, Nat.not_lt_zero, z_10, z_01, z_bitc, z_b0, z_b1, ↓zB_Gb, ↓zB_G0, ↓zB_G1, z_eql, z_leq, z_ltl, z_llt, z_eq, z_lt, z_m1lt, hp.k, hp.k1, hp.k2, hp.k3, hp.k4, hp.k5, hp.k6, hp.k7, hp.k8, hp.k9, hp.k10, hp.l1, hp.l2, hp.l3, hp.l4, hp.l5, hp.l6, hp.l7, hp.l8, hp.l9, hp.l10, ↓hp.g0, ↓hp.g1, ↓hp.g2, ↓hp.g3, ↓hp.g4, ↓hp.g5, ↓hp.g6, ↓hp.g7, ↓hp.g8, ↓hp.g9, ↓hp.gb, hp.gb, hi2]
      · rw [z_up_row x1]; exact g1 a x1
      · rw [z_up_b (by omega)]; exact g2 j hj
      · rcases Nat.lt_succ_iff_lt_or_eq.mp hj with x1 | x1
        · rw [z_up_b (by omega)]; exact g3 j x1
        · rw [x1, z_up_s]
end
