-- deps: 90.81.lc2 90.82.ex0 90.83.ex1
/-! both ways to look for likes find the same -/
section
variable {P : z_Pg} {k q i r s : Nat}
theorem z_lty_iff {c d : z_Lc} : z_lty c d = true ↔ c.length = d.length ∧ ∀ j, j < c.length → (z_g c j).2.2 = (z_g d j).2.2 := by
  unfold z_lty
  rw [Bool.and_eq_true, decide_eq_true_eq, Bool.not_eq_true', z_any_f]
  constructor
  · exact fun ⟨h1, h2⟩ => ⟨h1, fun j hj => by simpa [z_g] using h2 j hj⟩
  · exact fun ⟨h1, h2⟩ => ⟨h1, fun j hj => by simpa [z_g] using h2 j hj⟩
theorem z_p_a {nc : Nat} {l l' : List z_N} {x y : Nat} (h1 : z_wB nc l) (h2 : z_wB nc l') (hx : x < l.length) (hy : y < l'.length) (hk : z_k l x = z_k l' y) : z_p l x = z_p l' y ↔ z_a l x = z_a l' y := by
  constructor
  · intro hp
    by_cases g : z_k l x = 7
    · rcases z_pn_ka h1 hx g with ⟨a1, a2⟩ | ⟨a1, a2⟩ | ⟨a1, a2⟩ <;> rcases z_pn_ka h2 hy (hk ▸ g) with ⟨b1, b2⟩ | ⟨b1, b2⟩ | ⟨b1, b2⟩ <;> first | (exfalso; omega) | (rw [a1, b1])
    · rw [z_a_0 h1 hx g, z_a_0 h2 hy (hk ▸ g)]
  · intro ha
    unfold z_p; rw [hk, ha]
/-- what is known of both pieces -/
def z_lkH (P : z_Pg) (k i q r s : Nat) (c : z_Lc) : Prop := (z_wf P ∧ z_b60 P ∧ z_RT P) ∧ (k < z_nm P ∧ z_liv P k = true ∧ q < z_nm P ∧ z_liv P q = true) ∧ (i < (z_bd P k).length ∧ r < (z_bd P q).length) ∧ (z_en (z_bd P k) i = i + s ∧ z_en (z_bd P q) r = r + s) ∧ z_own P k = z_own P q ∧ (c = z_rlo P k i s ∧ c.length ≤ 2) ∧ ∀ t, t < s → z_ou P k i t = true → z_k (z_bd P k) (i + t) ≠ 6
theorem z_lkH.r1 {c : z_Lc} (h : z_lkH P k i q r s c) : z_rt P k (z_bd P k) := h.1.2.2 k h.2.1.1 h.2.1.2.1
theorem z_lkH.r2 {c : z_Lc} (h : z_lkH P k i q r s c) : z_rt P q (z_bd P q) := h.1.2.2 q h.2.1.2.2.1 h.2.1.2.2.2
theorem z_lkH.l1 {c : z_Lc} (h : z_lkH P k i q r s c) : (z_bd P k).length ≤ 192 := Nat.le_trans (h.1.2.1 k h.2.1.1) (by decide)
theorem z_lkH.l2 {c : z_Lc} (h : z_lkH P k i q r s c) : (z_bd P q).length ≤ 192 := Nat.le_trans (h.1.2.1 q h.2.1.2.2.1) (by decide)
theorem z_lkH.b1 {c : z_Lc} (h : z_lkH P k i q r s c) : z_wB (z_nc P) (z_bd P k) := h.1.1.2.2.2.2.1 k h.2.1.1
theorem z_lkH.b2 {c : z_Lc} (h : z_lkH P k i q r s c) : z_wB (z_nc P) (z_bd P q) := h.1.1.2.2.2.2.1 q h.2.1.2.2.1
theorem z_lkH.e1 {c : z_Lc} (h : z_lkH P k i q r s c) : i + s ≤ (z_bd P k).length := by
  have := z_en_le h.b1.1 h.2.2.1.1; rw [h.2.2.2.1.1] at this; exact this
theorem z_lkH.e2 {c : z_Lc} (h : z_lkH P k i q r s c) : r + s ≤ (z_bd P q).length := by
  have := z_en_le h.b2.1 h.2.2.1.2; rw [h.2.2.2.1.2] at this; exact this
theorem z_lkH.dp {c : z_Lc} (h : z_lkH P k i q r s c) : z_ldp P k c ∧ (∀ t, t < s → z_ou P k i t = true → ∃ j, j < c.length ∧ (z_g c j).1 = z_Bd P k (i + t)) ∧ ∀ j, j < c.length → ∃ t, t < s ∧ z_ou P k i t = true ∧ (z_g c j).1 = z_Bd P k (i + t) := by
  rw [h.2.2.2.2.2.1.1]
  exact z_rlo_dp h.1.1 h.2.1.1 h.l1 h.r1 s h.e1
theorem z_lkH.ix {c : z_Lc} (h : z_lkH P k i q r s c) {t : Nat} (ht : t < s) (ho : z_ou P k i t = true) : ∃ j, j < c.length ∧ z_lix c (z_Bd P k (i + t)) = nI j ∧ (z_g c j).1 = z_Bd P k (i + t) ∧ (z_g c j).2.2 = z_tol P k (z_Bd P k (i + t)) := by
  obtain ⟨h1, h2, _⟩ := h.dp
  obtain ⟨j, hj, e⟩ := h2 t ht ho
  exact ⟨j, hj, by rw [← e]; exact z_ldp_ix h1 hj, e, by rw [← e]; exact (h1.2 j hj).2.2⟩
theorem z_ou_v {t : Nat} (h : z_ou P k i t = true) : z_isV (z_bd P k) (i + t) = true := by
  unfold z_ou z_isO z_isL at h
  simp only [Bool.and_eq_true] at h
  exact h.1.1
theorem z_lad_eq {d : z_Lc} {x : Nat} (h : d.length < 3) : z_lad P q x d = z_rad P q x d ∧ z_lan P q x d = z_ridx P q x d := by
  unfold z_lad z_rad z_lan z_ridx
  by_cases g : z_lix d (z_Bd P q x) = -1
  · exact ⟨by rw [if_pos ⟨g, h⟩, if_pos g], by rw [if_pos ⟨g, h⟩, if_pos g]⟩
  · exact ⟨by rw [if_neg (fun y => g y.1), if_neg g], by rw [if_neg (fun y => g y.1), if_neg g]⟩
/-- what the reference finds the class finds -/
theorem z_lk_A {c : z_Lc} (h : z_lkH P k i q r s c) : ∀ n d, n ≤ s → z_rks P k i c q r n = some d → z_lks P k i c q r n = some d ∧ z_ldp P q d ∧ d.length ≤ c.length ∧ (∀ j, j < d.length → (z_g d j).2.2 = (z_g c j).2.2) ∧ (∀ t, t < n → z_ou P k i t = true → ∃ j, j < d.length ∧ z_lix c (z_Bd P k (i + t)) = nI j) ∧ d.length ≤ n
  | 0, d, _, hd => by
    obtain rfl : [] = d := Option.some.inj hd
    exact ⟨rfl, z_ldp_nil, Nat.zero_le _, fun j hj => absurd hj (Nat.not_lt_zero _), fun t ht => absurd ht (Nat.not_lt_zero _), Nat.le_refl _⟩
  | n + 1, d, hn, hd => by
    unfold z_rks at hd
    cases h0 : z_rks P k i c q r n with
    | none => rw [h0] at hd; cases hd
    | some d0 =>
      rw [h0] at hd
      dsimp only at hd
      obtain ⟨i1, i2, i3, i4, i5, i6⟩ := z_lk_A h n d0 (by omega) h0
      have hcl := h.2.2.2.2.2.1.2
      have e1 := h.e1
      have e2 := h.e2
      by_cases g : z_rkc P k i c q r n d0 = true
      · rw [if_pos g] at hd
        obtain rfl := Option.some.inj hd
        have hg := g
        unfold z_rkc at g
        simp only [Bool.and_eq_true, beq_iff_eq] at g
        obtain ⟨gk, ga, gr⟩ := g
        have gp := (z_p_a h.b1 h.b2 (x := i + n) (y := r + n) (by omega) (by omega) gk.symm).mpr ga.symm
        obtain ⟨q1, q2⟩ := z_lad_eq (P := P) (q := q) (d := d0) (x := r + n) (by omega)
        have hkey : z_lkc P k i c q r n d0 = true ∧ (z_ou P k i n = true → z_ou P q r n = true ∧ z_ridx P q (r + n) d0 = z_lix c (z_Bd P k (i + n)) ∧ z_tol P k (z_Bd P k (i + n)) = z_tol P q (z_Bd P q (r + n))) := by
          unfold z_lkc
          simp only [Bool.and_eq_true, beq_iff_eq]
          by_cases gv : z_isV (z_bd P k) (i + n) = true
          · rw [if_pos gv] at gr
            by_cases go : z_ou P k i n = true ∧ z_ou P q r n = true
            · rw [if_pos go] at gr
              simp only [Bool.and_eq_true, beq_iff_eq] at gr
              obtain ⟨w1, w2, w3⟩ := gr
              refine ⟨⟨gk.symm, gp, by rw [go.1, go.2], ?_⟩, fun _ => ⟨go.2, w2, w3⟩⟩
              rw [if_pos go.1, q2, w2]; exact beq_self_eq_true _
            · rw [if_neg go] at gr
              simp only [Bool.and_eq_true, beq_iff_eq] at gr
              obtain ⟨w1, w2, w3⟩ := gr
              have wf : ¬ z_ou P k i n = true := fun y => go ⟨y, w1 ▸ y⟩
              refine ⟨⟨gk.symm, gp, w1, ?_⟩, fun y => absurd y wf⟩
              rw [if_neg wf, w3]; exact beq_self_eq_true _
          · rw [if_neg gv] at gr
            simp only [Bool.and_eq_true, beq_iff_eq] at gr
            have wf : ¬ z_ou P k i n = true := fun y => gv (z_ou_v y)
            have wf2 : ¬ z_ou P q r n = true := fun y => gv (by
              have := z_ou_v y
              unfold z_isV at this ⊢
              rw [← gk]; exact this)
            refine ⟨⟨gk.symm, gp, by rw [show z_ou P k i n = false by simpa using wf, show z_ou P q r n = false by simpa using wf2], ?_⟩, fun y => absurd y wf⟩
            rw [if_neg wf, gr.1]; exact beq_self_eq_true _
        obtain ⟨hl, ho⟩ := hkey
        refine ⟨?_, ?_⟩
        · unfold z_lks
          rw [i1]
          dsimp only
          rw [if_pos hl, q1]
        · by_cases go : z_ou P k i n = true
          · rw [if_pos go]
            obtain ⟨o1, o2, o3⟩ := ho go
            obtain ⟨j, hj, ej, eg, et⟩ := h.ix (t := n) (by omega) go
            obtain ⟨_, p1, p2, p3, _⟩ := z_oub h.1.1 h.2.1.2.2.1 h.l2 h.r2 (x := r + n) (by omega) o1
            unfold z_ridx at o2
            unfold z_rad
            by_cases y : z_lix d0 (z_Bd P q (r + n)) = -1
            · rw [if_pos y] at o2 ⊢
              rw [ej] at o2
              obtain rfl : d0.length = j := (nI_eq (by omega) (by omega)).mp o2
              refine ⟨z_ldp_add i2 p1 p2 y (by omega), by rw [List.length_append]; exact hj, fun j' hj' => ?_, fun t ht hot => ?_, by rw [List.length_append]; exact Nat.succ_le_succ i6⟩
              · rw [List.length_append] at hj'
                have hj' : j' < d0.length + 1 := hj'
                rcases Nat.lt_or_ge j' d0.length with g1 | g1
                · rw [z_g_app g1]; exact i4 j' g1
                · obtain rfl : j' = d0.length := by omega
                  rw [z_g_last, et]; exact o3.symm
              · rw [List.length_append]
                rcases Nat.lt_or_ge t n with g1 | g1
                · obtain ⟨j', w1, w2⟩ := i5 t g1 hot
                  exact ⟨j', Nat.lt_of_lt_of_le w1 (Nat.le_add_right _ _), w2⟩
                · obtain rfl : t = n := by omega
                  exact ⟨d0.length, Nat.lt_succ_self _, ej⟩
            · rw [if_neg y] at o2 ⊢
              refine ⟨i2, i3, i4, fun t ht hot => ?_, by omega⟩
              rcases Nat.lt_or_ge t n with g1 | g1
              · exact i5 t g1 hot
              · obtain rfl : t = n := by omega
                rcases z_lix_c d0 (z_Bd P q (r + t)) with ⟨w1, _⟩ | ⟨j', w1, _, _, w4⟩
                · exact absurd w1 y
                · exact ⟨j', w1, by rw [← o2, w4]⟩
          · rw [if_neg go]
            refine ⟨i2, i3, i4, fun t ht hot => ?_, by omega⟩
            rcases Nat.lt_or_ge t n with g1 | g1
            · exact i5 t g1 hot
            · obtain rfl : t = n := by omega
              exact absurd hot go
      · rw [if_neg g] at hd; cases hd
/-- what the class has found so far -/
theorem z_lk_B {c : z_Lc} (h : z_lkH P k i q r s c) : ∀ n d, n ≤ s → z_lks P k i c q r n = some d → (z_ldp P q d ∧ d.length ≤ c.length) ∧ (∀ t, t < n → ∃ d0, z_lks P k i c q r t = some d0 ∧ z_lkc P k i c q r t d0 = true ∧ d0.length ≤ c.length) ∧ ∀ t, t < n → z_ou P k i t = true → z_ou P q r t = true ∧ ∃ j, j < d.length ∧ j < c.length ∧ z_lix c (z_Bd P k (i + t)) = nI j ∧ (z_g d j).1 = z_Bd P q (r + t) ∧ (z_g d j).2.2 = z_tol P q (z_Bd P q (r + t)) ∧ (z_g c j).2.2 = z_tol P k (z_Bd P k (i + t))
  | 0, d, _, hd => by
    obtain rfl : [] = d := Option.some.inj hd
    exact ⟨⟨z_ldp_nil, Nat.zero_le _⟩, fun t ht => absurd ht (Nat.not_lt_zero _), fun t ht => absurd ht (Nat.not_lt_zero _)⟩
  | n + 1, d, hn, hd => by
    have hd2 := hd
    unfold z_lks at hd
    cases h0 : z_lks P k i c q r n with
    | none => rw [h0] at hd; cases hd
    | some d0 =>
      rw [h0] at hd
      dsimp only at hd
      obtain ⟨⟨i1, i0⟩, i2, i3⟩ := z_lk_B h n d0 (by omega) h0
      have hcl := h.2.2.2.2.2.1.2
      have e1 := h.e1
      have e2 := h.e2
      by_cases g : z_lkc P k i c q r n d0 = true
      · rw [if_pos g] at hd
        obtain rfl := Option.some.inj hd
        have g' := g
        unfold z_lkc at g'
        simp only [Bool.and_eq_true, beq_iff_eq] at g'
        obtain ⟨gk, gp, go, gr⟩ := g'
        by_cases ho : z_ou P k i n = true
        · rw [if_pos ho] at gr ⊢
          have gr : z_lix c (z_Bd P k (i + n)) = z_lan P q (r + n) d0 := by simpa using gr
          have ho2 : z_ou P q r n = true := go ▸ ho
          obtain ⟨j, hj, ej, eg, et⟩ := h.ix (t := n) (by omega) ho
          obtain ⟨_, p1, p2, p3, _⟩ := z_oub h.1.1 h.2.1.2.2.1 h.l2 h.r2 (x := r + n) (by omega) ho2
          rw [ej] at gr
          unfold z_lan at gr
          unfold z_lad
          by_cases y : z_lix d0 (z_Bd P q (r + n)) = -1 ∧ d0.length < 3
          · rw [if_pos y] at gr ⊢
            obtain rfl : j = d0.length := (nI_eq (by omega) (by omega)).mp gr
            refine ⟨⟨z_ldp_add i1 p1 p2 y.1 (by omega), by rw [List.length_append]; exact hj⟩, fun t ht => ?_, fun t ht hot => ?_⟩
            · rcases Nat.lt_or_ge t n with g1 | g1
              · exact i2 t g1
              · obtain rfl : t = n := by omega
                exact ⟨d0, h0, g, i0⟩
            · rcases Nat.lt_or_ge t n with g1 | g1
              · obtain ⟨w0, j', w1, w2, w3, w4, w5, w6⟩ := i3 t g1 hot
                exact ⟨w0, j', by rw [List.length_append]; exact Nat.lt_of_lt_of_le w1 (Nat.le_add_right _ _), w2, w3, by rw [z_g_app w1]; exact w4, by rw [z_g_app w1]; exact w5, w6⟩
              · obtain rfl : t = n := by omega
                exact ⟨ho2, d0.length, by rw [List.length_append]; exact Nat.lt_succ_self _, hj, ej, by rw [z_g_last], by rw [z_g_last], et⟩
          · rw [if_neg y] at gr ⊢
            have hj2 : j < d0.length ∧ (z_g d0 j).1 = z_Bd P q (r + n) := by
              rcases z_lix_c d0 (z_Bd P q (r + n)) with ⟨w1, _⟩ | ⟨j', w1, w2, _, w4⟩
              · rw [w1] at gr; exact absurd gr (z_nI_m1 (by omega))
              · rw [w4] at gr
                obtain rfl : j = j' := (nI_eq (by omega) (by omega)).mp gr
                exact ⟨w1, w2⟩
            refine ⟨⟨i1, i0⟩, fun t ht => ?_, fun t ht hot => ?_⟩
            · rcases Nat.lt_or_ge t n with g1 | g1
              · exact i2 t g1
              · obtain rfl : t = n := by omega
                exact ⟨d0, h0, g, i0⟩
            · rcases Nat.lt_or_ge t n with g1 | g1
              · exact i3 t g1 hot
              · obtain rfl : t = n := by omega
                exact ⟨ho2, j, hj2.1, hj, ej, hj2.2, by rw [← hj2.2]; exact (i1.2 j hj2.1).2.2, et⟩
        · rw [if_neg ho]
          refine ⟨⟨i1, i0⟩, fun t ht => ?_, fun t ht hot => ?_⟩
          · rcases Nat.lt_or_ge t n with g1 | g1
            · exact i2 t g1
            · obtain rfl : t = n := by omega
              exact ⟨d0, h0, g, i0⟩
          · rcases Nat.lt_or_ge t n with g1 | g1
            · exact i3 t g1 hot
            · obtain rfl : t = n := by omega
              exact absurd hot ho
      · rw [if_neg g] at hd; cases hd
theorem z_lk_two {c : z_Lc} (h : z_lkH P k i q r s c) {d : z_Lc} (hd : z_lks P k i c q r s = some d) : z_two P k i q r s ∧ ∀ t, t < s → z_ou P k i t = z_ou P q r t ∧ (z_ou P k i t = false → z_v (z_bd P k) (i + t) = z_v (z_bd P q) (r + t)) := by
  obtain ⟨_, h2, _⟩ := z_lk_B h s d (Nat.le_refl _) hd
  have e1 := h.e1
  have e2 := h.e2
  refine ⟨⟨h.2.2.2.1.1, h.2.2.2.1.2, fun t ht => ?_⟩, fun t ht => ?_⟩
  · obtain ⟨d0, _, g, _⟩ := h2 t ht
    unfold z_lkc at g
    simp only [Bool.and_eq_true, beq_iff_eq] at g
    exact ⟨g.1, (z_p_a h.b1 h.b2 (x := i + t) (y := r + t) (by omega) (by omega) g.1).mp g.2.1⟩
  · obtain ⟨d0, _, g, _⟩ := h2 t ht
    unfold z_lkc at g
    simp only [Bool.and_eq_true, beq_iff_eq] at g
    obtain ⟨_, _, g3, g4⟩ := g
    exact ⟨g3, fun y => by rw [if_neg (by rw [y]; decide)] at g4; simpa using g4⟩
theorem z_nI_lt1000 {a : Nat} (h : a < 1000) : nI a < 1000 := (nI_ltI (a := a) (b := 1000) (by omega) (by decide)).mpr h
/-- what the class finds the reference finds -/
theorem z_lk_C {c : z_Lc} (h : z_lkH P k i q r s c) {d : z_Lc} (hd : z_lks P k i c q r s = some d) (hty : z_lty d c = true) : ∀ n, n ≤ s → z_rks P k i c q r n = z_lks P k i c q r n ∧ z_lks P k i c q r n ≠ none := by
  obtain ⟨h2, hv⟩ := z_lk_two h hd
  obtain ⟨⟨b0, b1⟩, b2, b3⟩ := z_lk_B h s d (Nat.le_refl _) hd
  have e1 := h.e1
  have e2 := h.e2
  obtain ⟨t1, t2⟩ := z_lty_iff.mp hty
  have hT : ∀ t, t < s → z_ou P k i t = true → z_tol P k (z_Bd P k (i + t)) = z_tol P q (z_Bd P q (r + t)) := fun t ht ho => by
    obtain ⟨_, j, w1, w2, _, _, w5, w6⟩ := b3 t ht ho
    rw [← w5, ← w6]; exact (t2 j w1).symm
  have hT2 : ∀ t, t < s → z_ou P k i t = true → z_Ty P k (i + t) = z_Ty P q (r + t) := fun t ht ho => by
    rw [(z_oub h.1.1 h.2.1.1 h.l1 h.r1 (x := i + t) (by omega) ho).2.2.2.1, (z_oub h.1.1 h.2.1.2.2.1 h.l2 h.r2 (x := r + t) (by omega) ((b3 t ht ho).1)).2.2.2.1]
    exact hT t ht ho
  intro n
  induction n with
  | zero => exact fun _ => ⟨rfl, by intro g; cases g⟩
  | succ n ih =>
    intro hn
    obtain ⟨i1, i2⟩ := ih (by omega)
    obtain ⟨d0, f1, f2, f3⟩ := b2 n (by omega)
    have hcl := h.2.2.2.2.2.1.2
    have g := f2
    unfold z_lkc at g
    simp only [Bool.and_eq_true, beq_iff_eq] at g
    obtain ⟨gk, gp, go, gr⟩ := g
    have ga := (z_p_a h.b1 h.b2 (x := i + n) (y := r + n) (by omega) (by omega) gk).mp gp
    obtain ⟨q1, q2⟩ := z_lad_eq (P := P) (q := q) (d := d0) (x := r + n) (by omega)
    have key : z_rkc P k i c q r n d0 = true := by
      unfold z_rkc
      rw [gk, ga, beq_self_eq_true, beq_self_eq_true, Bool.true_and, Bool.true_and]
      by_cases gv : z_isV (z_bd P k) (i + n) = true
      · rw [if_pos gv]
        have hkv : z_k (z_bd P k) (i + n) = 1 ∨ z_k (z_bd P k) (i + n) = 6 := by
          unfold z_isV at gv
          simpa using gv
        by_cases ho : z_ou P k i n = true
        · rw [← go, ho, Bool.and_self, if_pos rfl]
          rw [if_pos ho] at gr
          have gr : z_lix c (z_Bd P k (i + n)) = z_lan P q (r + n) d0 := by simpa using gr
          have k1 : z_k (z_bd P q) (r + n) = 1 := by
            rw [← gk]
            exact hkv.resolve_right (h.2.2.2.2.2.2 n (by omega) ho)
          rw [k1, gr, q2, hT n (by omega) ho]
          simp
        · have ho' : z_ou P k i n = false := by simpa using ho
          rw [← go, ho', Bool.and_self, if_neg (by decide)]
          rw [if_neg ho] at gr
          have gr : z_v (z_bd P k) (i + n) = z_v (z_bd P q) (r + n) := by simpa using gr
          rw [gr]
          have : z_rsm P k i q r n = true := by
            unfold z_rsm
            rcases z_pp_var h.1.1 h.2.1.1 h.2.1.2.2.1 h.l1 h.l2 h.r1 h.r2 h.2.2.1.1 h.2.2.1.2 h2 h.2.2.2.2.1 hv (t := n) (by omega) hkv ho' with ⟨j, hj, _, _, x3, x4⟩ | ⟨m, c', _, hc', x3, x4, _⟩
            · have l1 := h.l1
              have l2 := h.l2
              rw [x3, x4, if_pos (z_nI_lt1000 (by omega)), decide_eq_true (z_nI_lt1000 (show r + j < 1000 by omega)), Bool.true_and]
              rw [pk_sub (show i ≤ i + j by omega), pk_sub (show r ≤ r + j by omega), show i + j - i = j by omega, show r + j - r = j by omega]
              exact beq_self_eq_true _
            · rw [x3, x4, if_neg ((by decide : ∀ c, c < 6 → ¬ nI (1000 + c) < 1000) c' (by have := h.1.1.1.1; omega))]
              exact beq_self_eq_true _
          rw [this]; simp
      · rw [if_neg gv]
        have hkv : ¬ (z_k (z_bd P k) (i + n) = 1 ∨ z_k (z_bd P k) (i + n) = 6) := fun y => gv (by unfold z_isV; simpa using y)
        have ho' : z_ou P k i n = false := by
          cases y : z_ou P k i n with
          | false => rfl
          | true => exact absurd (z_ou_v y) gv
        rw [if_neg (by rw [ho']; decide)] at gr
        have gr : z_v (z_bd P k) (i + n) = z_v (z_bd P q) (r + n) := by simpa using gr
        have hb := z_pp_bd h.1.1 h.2.1.1 h.2.1.2.2.1 h.l1 h.l2 h.r1 h.r2 h.2.2.1.1 h.2.2.1.2 h2 h.2.2.2.2.1 hv hT2 (t := n) (by omega) hkv
        have hm : z_mB P k (i + n) = z_mB P q (r + n) := by
          have hb : z_bs P k (z_bd P k) (z_Ty P k) (i + n) = z_bs P q (z_bd P q) (z_Ty P q) (r + n) := hb
          unfold z_mB z_mbn
          rw [gk, hb]
        rw [gr, hm]; simp
    have w1 : z_rks P k i c q r (n + 1) = some (if z_ou P k i n = true then z_rad P q (r + n) d0 else d0) := by
      unfold z_rks
      rw [i1, f1]; dsimp only; rw [if_pos key]
    have w2 : z_lks P k i c q r (n + 1) = some (if z_ou P k i n = true then z_lad P q (r + n) d0 else d0) := by
      unfold z_lks
      rw [f1]; dsimp only; rw [if_pos f2]
    rw [w1, w2, q1]
    exact ⟨rfl, by intro g; cases g⟩
/-- the same -/
theorem z_lk_eq {c : z_Lc} (h : z_lkH P k i q r s c) : z_rks P k i c q r s = (match z_lks P k i c q r s with | none => none | some d => if z_lty d c = true then some d else none) := by
  cases hd : z_lks P k i c q r s with
  | none =>
    dsimp only
    cases hr : z_rks P k i c q r s with
    | none => rfl
    | some d => have := (z_lk_A h s d (Nat.le_refl _) hr).1; rw [hd] at this; cases this
  | some d =>
    dsimp only
    by_cases g : z_lty d c = true
    · rw [if_pos g, ← hd]; exact (z_lk_C h hd g s (Nat.le_refl _)).1
    · rw [if_neg g]
      cases hr : z_rks P k i c q r s with
      | none => rfl
      | some d' =>
        exfalso
        obtain ⟨a1, a2, a3, a4, a5, _⟩ := z_lk_A h s d' (Nat.le_refl _) hr
        rw [hd] at a1
        obtain rfl := Option.some.inj a1
        refine g (z_lty_iff.mpr ⟨?_, a4⟩)
        have hcl := h.2.2.2.2.2.1.2
        rcases Nat.eq_zero_or_pos c.length with w | w
        · omega
        · obtain ⟨c1, _, c3⟩ := h.dp
          obtain ⟨t, ht, ho, et⟩ := c3 (c.length - 1) (by omega)
          obtain ⟨j, hj, ej⟩ := a5 t ht ho
          rw [← et, z_ldp_ix c1 (by omega)] at ej
          have := (nI_eq (by omega) (by omega)).mp ej
          omega
/-- the locals that are found, and how many -/
theorem z_lk_dp {c : z_Lc} (h : z_lkH P k i q r s c) {d : z_Lc} (hd : z_lks P k i c q r s = some d) (hty : z_lty d c = true) : z_ldp P q d ∧ d.length = c.length ∧ d.length ≤ s ∧ z_rks P k i c q r s = some d := by
  have e := (z_lk_C h hd hty s (Nat.le_refl _)).1
  rw [hd] at e
  obtain ⟨_, a2, _, _, _, a6⟩ := z_lk_A h s d (Nat.le_refl _) e
  exact ⟨a2, (z_lty_iff.mp hty).1, a6, e⟩
end
