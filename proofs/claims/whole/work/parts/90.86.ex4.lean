-- deps: 90.81.lc2 90.82.ex0 90.83.ex1 90.84.ex2 90.85.ex3
/-! nodes taken out: a body with calls in place of likes -/
section
variable {S : z_S} {m : z_m} {p q : Nat} {P : z_Pg} {A : z_A}
def z_exV (d : z_Lc) : List z_N := d.map (fun x => (1, x.2.1, 0))
def z_exC (name : Int32) (d : z_Lc) : List z_N := (7, name, nI d.length) :: (2, 0, 0) :: z_exV d
noncomputable def z_exs (P : z_Pg) (k i : Nat) (c : z_Lc) (q : Nat) (name : Int32) : Nat → Nat × List z_N × Nat
  | 0 => (0, [], 0)
  | n + 1 => if n < (z_exs P k i c q name n).1 then z_exs P k i c q name n else match z_lk P k i c q n with
    | none => ((z_exs P k i c q name n).1, (z_exs P k i c q name n).2.1 ++ [z_at (z_bd P q) n], (z_exs P k i c q name n).2.2)
    | some d => (z_en (z_bd P q) n, (z_exs P k i c q name n).2.1 ++ z_exC name d, (z_exs P k i c q name n).2.2 + 1)
theorem z_exs_skip {k i n : Nat} {c : z_Lc} {name : Int32} (h : n < (z_exs P k i c q name n).1) : z_exs P k i c q name (n + 1) = z_exs P k i c q name n := by
  show (if n < (z_exs P k i c q name n).1 then z_exs P k i c q name n else _) = _
  rw [if_pos h]
theorem z_exs_none {k i n : Nat} {c : z_Lc} {name : Int32} (h : ¬ n < (z_exs P k i c q name n).1) (hn : z_lk P k i c q n = none) : z_exs P k i c q name (n + 1) = ((z_exs P k i c q name n).1, (z_exs P k i c q name n).2.1 ++ [z_at (z_bd P q) n], (z_exs P k i c q name n).2.2) := by
  show (if n < (z_exs P k i c q name n).1 then z_exs P k i c q name n else _) = _
  rw [if_neg h, hn]
theorem z_exs_some {k i n : Nat} {c d : z_Lc} {name : Int32} (h : ¬ n < (z_exs P k i c q name n).1) (hn : z_lk P k i c q n = some d) : z_exs P k i c q name (n + 1) = (z_en (z_bd P q) n, (z_exs P k i c q name n).2.1 ++ z_exC name d, (z_exs P k i c q name n).2.2 + 1) := by
  show (if n < (z_exs P k i c q name n).1 then z_exs P k i c q name n else _) = _
  rw [if_neg h, hn]
/-- what is known when nodes are taken out -/
def z_exH (P : z_Pg) (k i : Nat) (c : z_Lc) : Prop := (z_wf P ∧ z_b60 P ∧ z_RT P) ∧ (k < z_nm P ∧ z_liv P k = true) ∧ i < (z_bd P k).length ∧ (c = z_rlo P k i (z_sz (z_bd P k) i) ∧ c.length ≤ 2) ∧ z_exO P k i = false
theorem z_exH.lk {k i r : Nat} {c d : z_Lc} (h : z_exH P k i c) (hq : q < z_nm P) (hlq : z_liv P q = true) (ho : z_own P k = z_own P q) (hr : r < (z_bd P q).length) (hd : z_lk P k i c q r = some d) : z_lkH P k i q r (z_sz (z_bd P k) i) c ∧ z_sz (z_bd P q) r = z_sz (z_bd P k) i ∧ z_lks P k i c q r (z_sz (z_bd P k) i) = some d ∧ z_lty d c = true := by
  unfold z_lk at hd
  by_cases gs : z_sz (z_bd P q) r = z_sz (z_bd P k) i
  · rw [if_pos gs] at hd
    refine ⟨⟨h.1, ⟨h.2.1.1, h.2.1.2, hq, hlq⟩, ⟨h.2.2.1, hr⟩, ⟨rfl, by unfold z_en; rw [gs]⟩, ho, h.2.2.2.1, fun t ht hot g6 => ?_⟩, gs, ?_⟩
    · have := z_any_f.mp h.2.2.2.2 t ht
      rw [hot, g6] at this; cases this
    · cases hx : z_lks P k i c q r (z_sz (z_bd P k) i) with
      | none => rw [hx] at hd; cases hd
      | some d' =>
        rw [hx] at hd
        dsimp only at hd
        by_cases y : z_lty d' c = true
        · rw [if_pos y] at hd
          obtain rfl := Option.some.inj hd
          exact ⟨rfl, y⟩
        · rw [if_neg y] at hd; cases hd
  · rw [if_neg gs] at hd; cases hd
theorem z_exH.ld {k i r : Nat} {c d : z_Lc} (h : z_exH P k i c) (hq : q < z_nm P) (hlq : z_liv P q = true) (ho : z_own P k = z_own P q) (hr : r < (z_bd P q).length) (hd : z_lk P k i c q r = some d) : z_ldp P q d ∧ d.length = c.length ∧ d.length ≤ z_sz (z_bd P q) r ∧ d.length ≤ 2 := by
  obtain ⟨h1, h2, h3, h4⟩ := h.lk hq hlq ho hr hd
  obtain ⟨a1, a2, a3, _⟩ := z_lk_dp h1 h3 h4
  have := h.2.2.2.1.2
  exact ⟨a1, a2, by rw [h2]; exact a3, by omega⟩
theorem z_exV_wl (d : z_Lc) : ∀ n, n = d.length → z_wl n (z_exV d) = true := by
  induction d with
  | nil => intro n hn; subst hn; rfl
  | cons x d ih =>
    intro n hn
    subst hn
    show z_wl (d.length + z_pn 1 0) (z_exV d) = true
    exact ih _ rfl
theorem z_exC_tr (name : Int32) {d : z_Lc} (hd : d.length ≤ 2) : z_tr (z_exC name d) := by
  show z_wl (0 + z_pn 7 (nI d.length)) ((2, 0, 0) :: z_exV d) = true
  have : z_pn 7 (nI d.length) = d.length + 1 := by
    show 1 + (nI d.length).toNatClampNeg = _
    rw [nI_clamp (by omega)]; omega
  rw [this, Nat.zero_add]
  show z_wl (d.length + z_pn 2 0) (z_exV d) = true
  exact z_exV_wl d _ rfl
theorem z_exC_len (name : Int32) (d : z_Lc) : (z_exC name d).length = d.length + 2 := by unfold z_exC z_exV; simp
theorem z_nol_nm (hw : z_wf P) (hq : q < z_nm P) (hl : (z_bd P q).length ≤ 192) {x : Int32} (h : z_bnd P q x) : ∃ n, n < 16 ∧ z_nol P q x = nI n := by
  have hB := hw.2.2.2.2.1 q hq
  have hH := (hw.2.2.2.1 q hq).2.2.2.2.1
  unfold z_nol
  rcases h with ⟨rfl, hc⟩ | ⟨rfl, hc⟩ | ⟨j, h1, h5, rfl⟩
  · rw [if_pos rfl]
    have := hH 0 (by decide)
    rw [if_pos hc] at this
    exact this.1
  · rw [if_neg (by decide), if_pos rfl]
    have := hH 1 (by decide)
    rw [if_pos hc] at this
    exact this.1
  · rw [if_neg (z_nI_m1 (by omega)), if_neg (z_eqm (k := 2) (by omega) (by decide) (by decide)), nI_clamp (by omega), if_pos h5]
    exact z_v_nm hB (by omega) (by simp [h5])
theorem z_exC_wN (hw : z_wf P) (hq : q < z_nm P) (hl : (z_bd P q).length ≤ 192) {name : Int32} (hn : ∃ n, n < 16 ∧ name = nI n) {d : z_Lc} (hd : z_ldp P q d) (h2 : d.length ≤ 2) : ∀ x ∈ z_exC name d, z_wN (z_nc P) x := by
  intro x hx
  unfold z_exC at hx
  rcases List.mem_cons.mp hx with rfl | hx
  · refine ⟨⟨7, by decide, rfl⟩, ?_, fun _ => hn, fun g => absurd (show (7 : Int32) = 8 from g) (by decide)⟩
    show (if (7 : Int32) = 7 then nI d.length = 0 ∨ nI d.length = 1 ∨ nI d.length = 2 else nI d.length = 0)
    rw [if_pos rfl]
    have : d.length = 0 ∨ d.length = 1 ∨ d.length = 2 := by omega
    rcases this with g | g | g <;> rw [g] <;> decide
  · rcases List.mem_cons.mp hx with rfl | hx
    · exact ⟨⟨2, by decide, rfl⟩, rfl, fun g => absurd g (by decide), fun g => absurd (show (2 : Int32) = 8 from g) (by decide)⟩
    · unfold z_exV at hx
      obtain ⟨y, hy, rfl⟩ := List.mem_map.mp hx
      obtain ⟨j, hj, ej⟩ := List.getElem_of_mem hy
      have e : z_g d j = y := by unfold z_g; rw [List.getD_eq_getElem?_getD, List.getElem?_eq_getElem hj, ej]; rfl
      have hv := (hd.2 j hj).2.1
      have hb := (hd.2 j hj).1
      rw [e] at hv hb
      obtain ⟨n, hn, en⟩ := z_nol_nm hw hq hl hb
      refine ⟨⟨1, by decide, rfl⟩, rfl, fun _ => ⟨n, hn, by show y.2.1 = nI n; rw [hv, en]⟩, fun g => absurd (show (1 : Int32) = 8 from g) (by decide)⟩
/-- a body so far -/
theorem z_exs_ok {k i : Nat} {c : z_Lc} (h : z_exH P k i c) (hq : q < z_nm P) (hlq : z_liv P q = true) (ho : z_own P k = z_own P q) {name : Int32} (hn : ∃ n, n < 16 ∧ name = nI n) : ∀ n, n ≤ (z_bd P q).length → max n (z_exs P k i c q name n).1 ≤ (z_bd P q).length ∧ (z_exs P k i c q name n).2.1.length ≤ 3 * max n (z_exs P k i c q name n).1 ∧ z_net (z_exs P k i c q name n).2.1 (z_sub (z_bd P q) 0 (max n (z_exs P k i c q name n).1)) ∧ (∀ x ∈ (z_exs P k i c q name n).2.1, z_wN (z_nc P) x) ∧ (z_exs P k i c q name n).2.2 ≤ n
  | 0, _ => ⟨Nat.zero_le _, Nat.zero_le _, z_net.refl _, (fun x hx => by cases hx), Nat.le_refl _⟩
  | n + 1, hn1 => by
    obtain ⟨i1, i2, i3, i4, i5⟩ := z_exs_ok h hq hlq ho hn n (by omega)
    have hB := h.1.1.2.2.2.2.1 q hq
    have hl := h.1.2.1 q hq
    by_cases g : n < (z_exs P k i c q name n).1
    · rw [z_exs_skip g]
      have e1 : max n (z_exs P k i c q name n).1 = (z_exs P k i c q name n).1 := by omega
      have e2 : max (n + 1) (z_exs P k i c q name n).1 = (z_exs P k i c q name n).1 := by omega
      rw [e1] at i1 i2 i3
      rw [e2]
      exact ⟨i1, i2, i3, i4, by omega⟩
    · have e1 : max n (z_exs P k i c q name n).1 = n := by omega
      rw [e1] at i1 i2 i3
      have hgt := z_en_gt (l := z_bd P q) (i := n) (by omega)
      have hle := z_en_le hB.1 (i := n) (by omega)
      cases hx : z_lk P k i c q n with
      | none =>
        rw [z_exs_none g hx]
        dsimp only
        have e2 : max (n + 1) (z_exs P k i c q name n).1 = n + 1 := by omega
        rw [e2]
        refine ⟨hn1, by rw [List.length_append]; show _ + 1 ≤ _; omega, ?_, fun x hx => ?_, by omega⟩
        · rw [z_sub_snoc (Nat.zero_le n) (by omega)]
          exact z_net_app i3 (z_net.refl _)
        · rcases List.mem_append.mp hx with hx | hx
          · exact i4 x hx
          · rw [List.mem_singleton.mp hx]; exact z_wN_at hB (by omega)
      | some d =>
        rw [z_exs_some g hx]
        dsimp only
        have e2 : max (n + 1) (z_en (z_bd P q) n) = z_en (z_bd P q) n := by omega
        rw [e2]
        obtain ⟨d1, d2, d3, d4⟩ := h.ld hq hlq ho (r := n) (by omega) hx
        have hsz : z_en (z_bd P q) n = n + z_sz (z_bd P q) n := rfl
        refine ⟨hle, by rw [List.length_append, z_exC_len]; omega, ?_, fun x hx => ?_, by omega⟩
        · have e3 : z_sub (z_bd P q) 0 (z_en (z_bd P q) n) = z_sub (z_bd P q) 0 n ++ z_sub (z_bd P q) n (z_en (z_bd P q) n) := by
            unfold z_sub
            rw [List.drop_zero, Nat.sub_zero, Nat.sub_zero, hsz, show n + z_sz (z_bd P q) n - n = z_sz (z_bd P q) n by omega, List.take_add]
          rw [e3]
          exact z_net_app i3 (z_net_tr (z_exC_tr name d4) (z_sub_tr hB.1 (by omega)))
        · rcases List.mem_append.mp hx with hx | hx
          · exact i4 x hx
          · exact z_exC_wN h.1.1 hq (by omega) hn d1 d4 x hx
noncomputable def z_exB (P : z_Pg) (k i : Nat) (c : z_Lc) (q : Nat) (name : Int32) : List z_N := (z_exs P k i c q name (z_bd P q).length).2.1
noncomputable def z_exK (P : z_Pg) (k i : Nat) (c : z_Lc) (q : Nat) (name : Int32) : Nat := (z_exs P k i c q name (z_bd P q).length).2.2
theorem z_exB_wB {k i : Nat} {c : z_Lc} (h : z_exH P k i c) (hq : q < z_nm P) (hlq : z_liv P q = true) (ho : z_own P k = z_own P q) {name : Int32} (hn : ∃ n, n < 16 ∧ name = nI n) : z_wB (z_nc P) (z_exB P k i c q name) ∧ (z_exB P k i c q name).length ≤ 180 ∧ z_exK P k i c q name ≤ 60 := by
  obtain ⟨i1, i2, i3, i4, i5⟩ := z_exs_ok h hq hlq ho hn _ (Nat.le_refl _)
  have hB := h.1.1.2.2.2.2.1 q hq
  have hl := h.1.2.1 q hq
  have e1 : max (z_bd P q).length (z_exs P k i c q name (z_bd P q).length).1 = (z_bd P q).length := by omega
  rw [e1] at i2 i3
  refine ⟨⟨?_, i4⟩, by show (z_exs P k i c q name (z_bd P q).length).2.1.length ≤ 180; omega, by show (z_exs P k i c q name (z_bd P q).length).2.2 ≤ 60; omega⟩
  show z_wl 1 (z_exs P k i c q name (z_bd P q).length).2.1 = true
  rw [z_net_wl i3]
  unfold z_sub
  rw [List.drop_zero, Nat.sub_zero, List.take_length]
  exact hB.1
/-- Extractor.replaceLikes, a call written -/
theorem f33_106_sp (hX : z_XS S) (hp : z_PS S p) (lo : 242 ≤ p) (h : z_cp m p P) (ht : z_LT m p P) (hw : z_wf P) {K I name C : Int32} {j : Nat} (hq : q < z_nm P) (hlq : z_liv P q = true) (hj : j < (z_bd P q).length) {d : z_Lc} (hd : z_lc m 49 d) {L : List z_N} (hL : z_cb m 38 256 L) (hlen : L.length + d.length ≤ 250) : ∃ m', f33_106 37 p K I (nI q) name (z_bi p q) C (nI j) 0 (z_hp S m) = some (.inl (37, p, K, I, nI q, name, z_bi p q, C + 1, nI (z_en (z_bd P q) j), nI (j + 1)), z_hp S m') ∧ z_cb m' 38 256 (L ++ z_exV d) ∧ z_bF 38 m m' := by
  have h24 := hw.2.2.1
  have hpk := hp.k
  have hb := hp.B (k := q) (by omega)
  have hbk := hb.k
  have h38 := hX.2.2.2.1.2.2.1
  have h38k := h38.k
  have h49k : z_kd S 49 = 4 := hX.k49
  have hl60 : (z_bd P q).length ≤ 60 := (h.2.2.2 q hq hlq).2.2.1
  have hend : m (z_bi p q + 4) j = nI (z_en (z_bd P q) j) := (ht q hq hlq).1 _ hj
  obtain ⟨d3, dl, dr⟩ := hd
  have key := z_loopI (f := fun s => f33_106b (s.1) (s.2.1) (s.2.2.1) (s.2.2.2.1) (s.2.2.2.2.1) (s.2.2.2.2.2.1) (s.2.2.2.2.2.2.1) (s.2.2.2.2.2.2.2.1) (s.2.2.2.2.2.2.2.2.1) (s.2.2.2.2.2.2.2.2.2)) (S := S) (fun N st m' => ∃ t, N = d.length - t ∧ t ≤ d.length ∧ st = (37, p, K, I, nI q, name, z_bi p q, C, nI j, nI t) ∧ z_cb m' 38 256 (L ++ z_exV (d.take t)) ∧ z_bF 38 m m') (fun v m' => v = .inl (37, p, K, I, nI q, name, z_bi p q, C + 1, nI (z_en (z_bd P q) j), nI (j + 1)) ∧ z_cb m' 38 256 (L ++ z_exV d) ∧ z_bF 38 m m') ?_ 1000000 d.length (37, p, K, I, nI q, name, z_bi p q, C, nI j, 0) m ⟨0, rfl, Nat.zero_le _, rfl, by rw [List.take_zero]; show z_cb m 38 256 (L ++ []); rw [List.append_nil]; exact hL, z_bF.refl _ _⟩ (by omega)
  · obtain ⟨v, m', e, rfl, g1, g2⟩ := key
    exact ⟨m', e, g1, g2⟩
  · rintro N st m1 ⟨t, rfl, htl, rfl, g1, g2⟩
    have d31 : m1 49 3 = nI d.length := by rw [g2.at (by omega)]; exact d3
    have hend1 : m1 (z_bi p q + 4) j = nI (z_en (z_bd P q) j) := by rw [g2.at (by unfold z_bi; omega)]; exact hend
    dsimp only
    rcases Nat.eq_or_lt_of_le htl with ht2 | ht2
    · refine Or.inr ⟨_, m1, ?_, rfl, by rw [ht2, List.take_length] at g1; exact g1, g2⟩
      unfold f33_106b f33_143 f33_156
      rw [ht2]
      simp (disch := ((try simp only [true_or, or_true, hX.k37, hX.k49, hX.k50, hX.k51, hX.k52, hX.l50, hX.l51, hX.l52, hb.k, hb.k1, hb.k2, hb.k3, hb.k4, hb.k5, hb.k6, hb.l1, hb.l2, hb.l3, hb.l4, hb.l5, hb.l6, h49k]) <;> (try omega))) only [↓reduceIte, ↓z_ite, ↓zR, ↓zB_R, ↓zB_B, ↓zB_ite, ↓zB_gI, ↓zB_pI, ↓zB_pZ, ↓zB_aK, ↓zB_G, ↓zB_lI, ↓zB_lZ, ↓zB_wI, ↓zB_wZ, ↓zB_lIl, ↓zB_wIl, zB_pI, zB_pZ, zB_lI, zB_lZ, zB_wI, zB_wZ, z_addl, z_ladd, z_mull, z_lmul, nI_add, z_subl, Nat.not_lt_zero, z_10, z_01, z_bitc, z_b0, z_b1, ↓zB_Gb, ↓zB_G0, ↓zB_G1, z_eql, z_leq, z_ltl, z_llt, z_eq, z_lt, z_m1lt, hX.k37, hX.k49, hX.k50, hX.k51, hX.k52, hX.l50, hX.l51, hX.l52, hb.k, hb.k1, hb.k2, hb.k3, hb.k4, hb.k5, hb.k6, hb.l1, hb.l2, hb.l3, hb.l4, hb.l5, hb.l6, h49k, ↓hX.g37_0, ↓hX.g37_1, ↓hX.g37_2, ↓hX.g49_0, ↓hX.g49_1, ↓hX.g49_2, ↓hb.g0, ↓hb.g1, ↓hb.g2, ↓hb.g3, ↓hb.g4, ↓hb.g5, d31, hj, hend1, Nat.lt_irrefl]
    · have ht3 : t < 3 := by omega
      have en : m1 51 t = (z_g d t).2.1 := by rw [g2.at (by omega)]; exact (dr t ht2).2.1
      obtain ⟨m2, e2, c1, c2⟩ := f2_sp h38 g1 (by rw [List.length_append]; unfold z_exV; rw [List.length_map, List.length_take]; omega) (k := 1) (v := (z_g d t).2.1) (a := 0)
      have e2 : f2 38 1 (z_g d t).2.1 0 (z_hp S m1) = some ((), z_hp S m2) := e2
      refine Or.inl ⟨_, m2, d.length - (t + 1), ?_, by omega, t + 1, rfl, by omega, rfl, ?_, g2.trans c2⟩
      · unfold f33_106b
        simp (disch := ((try simp only [true_or, or_true, hX.k37, hX.k49, hX.k50, hX.k51, hX.k52, hX.l50, hX.l51, hX.l52, hb.k, hb.k1, hb.k2, hb.k3, hb.k4, hb.k5, hb.k6, hb.l1, hb.l2, hb.l3, hb.l4, hb.l5, hb.l6, h49k, h38k]) <;> (try omega))) only [↓reduceIte, ↓z_ite, ↓zR, ↓zB_R, ↓zB_B, ↓zB_ite, ↓zB_gI, ↓zB_pI, ↓zB_pZ, ↓zB_aK, ↓zB_G, ↓zB_lI, ↓zB_lZ, ↓zB_wI, ↓zB_wZ, ↓zB_lIl, ↓zB_wIl, zB_pI, zB_pZ, zB_lI, zB_lZ, zB_wI, zB_wZ, z_addl, z_ladd, z_mull, z_lmul, nI_add, z_subl, Nat.not_lt_zero, z_10, z_01, z_bitc, z_b0, z_b1, ↓zB_Gb, ↓zB_G0, ↓zB_G1, z_eql, z_leq, z_ltl, z_llt, z_eq, z_lt, z_m1lt, hX.k37, hX.k49, hX.k50, hX.k51, hX.k52, hX.l50, hX.l51, hX.l52, hb.k, hb.k1, hb.k2, hb.k3, hb.k4, hb.k5, hb.k6, hb.l1, hb.l2, hb.l3, hb.l4, hb.l5, hb.l6, h49k, h38k, ↓hX.g37_0, ↓hX.g37_1, ↓hX.g37_2, ↓hX.g49_0, ↓hX.g49_1, ↓hX.g49_2, ↓hb.g0, ↓hb.g1, ↓hb.g2, ↓hb.g3, ↓hb.g4, ↓hb.g5, d31, ht2, ht3, en, ↓zB_c e2, zB_c e2]
      · rw [List.append_assoc] at c1
        have : z_exV (d.take (t + 1)) = z_exV (d.take t) ++ [(1, (z_g d t).2.1, 0)] := by
          unfold z_exV
          rw [List.take_add_one, List.map_append]
          congr 1
          unfold z_g
          rw [List.getD_eq_getElem?_getD, List.getElem?_eq_getElem ht2]; rfl
        rw [this]; exact c1
/-- Extractor.replaceLikes -/
theorem f33_sp (hX : z_XS S) (hp : z_PS S p) (lo : 242 ≤ p) (h : z_cp m p P) (ht : z_LT m p P) {k i : Nat} {c : z_Lc} (hH : z_exH P k i c) (hq : q < z_nm P) (hlq : z_liv P q = true) (ho : z_own P k = z_own P q) {name : Int32} (hn : ∃ n, n < 16 ∧ name = nI n) (hc : z_lc m 45 c) (h38m : m 38 6 = nI 256) : ∃ m', f33 37 p (nI k) (nI i) (nI q) name (z_hp S m) = some (nI (z_exK P k i c q name), z_hp S m') ∧ z_cb m' 38 256 (z_exB P k i c q name) ∧ z_lc m' 45 c ∧ ∀ a, a < 38 ∨ 52 < a → m' a = m a := by
  have hw := hH.1.1
  have hR := hH.1.2.2
  have h24 := hw.2.2.1
  have hk := hH.2.1.1
  have hpk := hp.k
  have hb := hp.B (k := q) (by omega)
  have hbk := hb.k
  have h38 := hX.2.2.2.1.2.2.1
  have h38k := h38.k
  have h37k : z_kd S 37 = 2 := hX.k37
  have h49k : z_kd S 49 = 4 := hX.k49
  have hB := hw.2.2.2.2.1 q hq
  have hl60 : (z_bd P q).length ≤ 60 := (h.2.2.2 q hq hlq).2.2.1
  obtain ⟨m0, e0, cb0, F0⟩ := f1_sp (S := S) h38 h38m (by decide)
  have key := z_loopI (f := fun s => f33_25b (s.1) (s.2.1) (s.2.2.1) (s.2.2.2.1) (s.2.2.2.2.1) (s.2.2.2.2.2.1) (s.2.2.2.2.2.2.1) (s.2.2.2.2.2.2.2.1) (s.2.2.2.2.2.2.2.2.1) (s.2.2.2.2.2.2.2.2.2)) (S := S) (fun N st m' => ∃ j, N = (z_bd P q).length - j ∧ j ≤ (z_bd P q).length ∧ st = (37, p, nI k, nI i, nI q, name, z_bi p q, nI (z_exs P k i c q name j).2.2, nI (z_exs P k i c q name j).1, nI j) ∧ z_cb m' 38 256 (z_exs P k i c q name j).2.1 ∧ z_lc m' 45 c ∧ ∀ a, a < 38 ∨ 52 < a → m' a = m a) (fun v m' => v = nI (z_exK P k i c q name) ∧ z_cb m' 38 256 (z_exB P k i c q name) ∧ z_lc m' 45 c ∧ ∀ a, a < 38 ∨ 52 < a → m' a = m a) ?_ 1000000 (z_bd P q).length (37, p, nI k, nI i, nI q, name, z_bi p q, 0, 0, 0) m0 ⟨0, rfl, Nat.zero_le _, rfl, cb0, z_lc_fr (fun a x1 x2 => F0.at (by omega)) hc, fun a ha => F0.at (by omega)⟩ (by omega)
  · obtain ⟨v, m', e, rfl, g1, g2, g3⟩ := key
    refine ⟨m', ?_, g1, g2, g3⟩
    unfold f33
    have e3 : f33_25 37 p (nI k) (nI i) (nI q) name (z_bi p q) 0 0 0 (z_hp S m0) = some (nI (z_exK P k i c q name), z_hp S m') := e
    simp (disch := ((try simp only [true_or, or_true, hX.k37, hp.k, hp.k1, hp.k2, hp.k3, hp.k4, hp.k5, hp.k6, hp.k7, hp.k8, hp.k9, hp.k10, hp.l1, hp.l2, hp.l3, hp.l4, hp.l5, hp.l6, hp.l7, hp.l8, hp.l9, hp.l10, hpk, h38k]) <;> (try omega))) only [↓reduceIte, ↓z_ite, ↓zR, ↓zB_R, ↓zB_B, ↓zB_ite, ↓zB_gI, ↓zB_pI, ↓zB_pZ, ↓zB_aK, ↓zB_G, ↓zB_lI, ↓zB_lZ, ↓zB_wI, ↓zB_wZ, ↓zB_lIl, ↓zB_wIl, zB_pI, zB_pZ, zB_lI, zB_lZ, zB_wI, zB_wZ, z_addl, z_ladd, z_mull, z_lmul, nI_add, z_subl, Nat.not_lt_zero, z_10, z_01, z_bitc, z_b0, z_b1, ↓zB_Gb, ↓zB_G0, ↓zB_G1, z_eql, z_leq, z_ltl, z_llt, z_eq, z_lt, z_m1lt, hX.k37, hp.k, hp.k1, hp.k2, hp.k3, hp.k4, hp.k5, hp.k6, hp.k7, hp.k8, hp.k9, hp.k10, hp.l1, hp.l2, hp.l3, hp.l4, hp.l5, hp.l6, hp.l7, hp.l8, hp.l9, hp.l10, hpk, h38k, ↓hX.g37_0, ↓hX.g37_1, ↓hX.g37_2, ↓hp.g0, ↓hp.g1, ↓hp.g2, ↓hp.g3, ↓hp.g4, ↓hp.g5, ↓hp.g6, ↓hp.g7, ↓hp.g8, ↓hp.g9, ↓hp.gb, hp.gb, h24, hq, ↓zB_c e0, zB_c e0, e3]
  · rintro N st m1 ⟨j, rfl, hjl, rfl, g1, g2, g3⟩
    have hcp1 : z_cp m1 p P := z_cp_fr3 hw (fun a x1 x2 => g3 a (by omega)) h
    have hT1 : z_LT m1 p P := z_LT_fr hw (fun a x1 x2 => g3 a (by omega)) ht
    have hb1 := hcp1.2.2.2 q hq hlq
    have c71 := hb1.2.1
    obtain ⟨i1, i2, i3, i4, i5⟩ := z_exs_ok hH hq hlq ho hn j hjl
    dsimp only
    rcases Nat.eq_or_lt_of_le hjl with hj2 | hj2
    · refine Or.inr ⟨nI (z_exs P k i c q name j).2.2, m1, ?_, by rw [hj2]; rfl, by rw [hj2] at g1; exact g1, g2, g3⟩
      unfold f33_25b f33_162
      rw [hj2]
      simp (disch := ((try simp only [true_or, or_true, hb.k, hb.k1, hb.k2, hb.k3, hb.k4, hb.k5, hb.k6, hb.l1, hb.l2, hb.l3, hb.l4, hb.l5, hb.l6]) <;> (try omega))) only [↓reduceIte, ↓z_ite, ↓zR, ↓zB_R, ↓zB_B, ↓zB_ite, ↓zB_gI, ↓zB_pI, ↓zB_pZ, ↓zB_aK, ↓zB_G, ↓zB_lI, ↓zB_lZ, ↓zB_wI, ↓zB_wZ, ↓zB_lIl, ↓zB_wIl, zB_pI, zB_pZ, zB_lI, zB_lZ, zB_wI, zB_wZ, z_addl, z_ladd, z_mull, z_lmul, nI_add, z_subl, Nat.not_lt_zero, z_10, z_01, z_bitc, z_b0, z_b1, ↓zB_Gb, ↓zB_G0, ↓zB_G1, z_eql, z_leq, z_ltl, z_llt, z_eq, z_lt, z_m1lt, hb.k, hb.k1, hb.k2, hb.k3, hb.k4, hb.k5, hb.k6, hb.l1, hb.l2, hb.l3, hb.l4, hb.l5, hb.l6, ↓hb.g0, ↓hb.g1, ↓hb.g2, ↓hb.g3, ↓hb.g4, ↓hb.g5, c71, Nat.lt_irrefl]
    · by_cases gs : j < (z_exs P k i c q name j).1
      · have es : (nI j < nI (z_exs P k i c q name j).1) = True := eq_true ((nI_ltI (by omega) (by omega)).mpr gs)
        refine Or.inl ⟨_, m1, (z_bd P q).length - (j + 1), ?_, by omega, j + 1, rfl, by omega, rfl, by rw [z_exs_skip gs]; exact g1, g2, g3⟩
        unfold f33_25b f33_156
        rw [z_exs_skip gs]
        simp (disch := ((try simp only [true_or, or_true, hb.k, hb.k1, hb.k2, hb.k3, hb.k4, hb.k5, hb.k6, hb.l1, hb.l2, hb.l3, hb.l4, hb.l5, hb.l6]) <;> (try omega))) only [↓reduceIte, ↓z_ite, ↓zR, ↓zB_R, ↓zB_B, ↓zB_ite, ↓zB_gI, ↓zB_pI, ↓zB_pZ, ↓zB_aK, ↓zB_G, ↓zB_lI, ↓zB_lZ, ↓zB_wI, ↓zB_wZ, ↓zB_lIl, ↓zB_wIl, zB_pI, zB_pZ, zB_lI, zB_lZ, zB_wI, zB_wZ, z_addl, z_ladd, z_mull, z_lmul, nI_add, z_subl, Nat.not_lt_zero, z_10, z_01, z_bitc, z_b0, z_b1, ↓zB_Gb, ↓zB_G0, ↓zB_G1, z_eql, z_leq, z_ltl, z_llt, z_eq, z_lt, z_m1lt, hb.k, hb.k1, hb.k2, hb.k3, hb.k4, hb.k5, hb.k6, hb.l1, hb.l2, hb.l3, hb.l4, hb.l5, hb.l6, ↓hb.g0, ↓hb.g1, ↓hb.g2, ↓hb.g3, ↓hb.g4, ↓hb.g5, c71, hj2, es]
      · have es : (nI j < nI (z_exs P k i c q name j).1) = False := eq_false (fun y => gs ((nI_ltI (by omega) (by omega)).mp y))
        have e1 : max j (z_exs P k i c q name j).1 = j := by omega
        rw [e1] at i2
        obtain ⟨m2, e34, d1, d2⟩ := f34_sp hX hp lo hcp1 hT1 hw hR hk hH.2.1.2 hH.2.2.1 hq hlq hj2 g2
        have g12 : z_cb m2 38 256 (z_exs P k i c q name j).2.1 := z_cb_fr (fun a x1 x2 => d2 a (by omega)) g1
        have g22 : z_lc m2 45 c := z_lc_fr (fun a x1 x2 => d2 a (by omega)) g2
        have hcp2 : z_cp m2 p P := z_cp_fr3 hw (fun a x1 x2 => d2 a (by omega)) hcp1
        have hT2 : z_LT m2 p P := z_LT_fr hw (fun a x1 x2 => d2 a (by omega)) hT1
        have hb2 := hcp2.2.2.2 q hq hlq
        cases hx : z_lk P k i c q j with
        | none =>
          rw [hx] at e34
          have e34 : f34 37 p (nI k) (nI i) (nI q) (nI j) (z_hp S m1) = some (0, z_hp S m2) := e34
          obtain ⟨m3, e3, c1, c2⟩ := f3_sp h38 g12 (by omega) hb hb2 hj2
          refine Or.inl ⟨_, m3, (z_bd P q).length - (j + 1), ?_, by omega, j + 1, rfl, by omega, rfl, by rw [z_exs_none gs hx]; exact c1, z_lc_fr (fun a x1 x2 => c2.at (by omega)) g22, fun a ha => by rw [c2.at (by omega), d2 a (by omega), g3 a ha]⟩
          unfold f33_25b f33_156
          rw [z_exs_none gs hx]
          simp (disch := ((try simp only [true_or, or_true, hb.k, hb.k1, hb.k2, hb.k3, hb.k4, hb.k5, hb.k6, hb.l1, hb.l2, hb.l3, hb.l4, hb.l5, hb.l6, hX.k37, h37k, h38k]) <;> (try omega))) only [↓reduceIte, ↓z_ite, ↓zR, ↓zB_R, ↓zB_B, ↓zB_ite, ↓zB_gI, ↓zB_pI, ↓zB_pZ, ↓zB_aK, ↓zB_G, ↓zB_lI, ↓zB_lZ, ↓zB_wI, ↓zB_wZ, ↓zB_lIl, ↓zB_wIl, zB_pI, zB_pZ, zB_lI, zB_lZ, zB_wI, zB_wZ, z_addl, z_ladd, z_mull, z_lmul, nI_add, z_subl, Nat.not_lt_zero, z_10, z_01, z_bitc, z_b0, z_b1, ↓zB_Gb, ↓zB_G0, ↓zB_G1, z_eql, z_leq, z_ltl, z_llt, z_eq, z_lt, z_m1lt, hb.k, hb.k1, hb.k2, hb.k3, hb.k4, hb.k5, hb.k6, hb.l1, hb.l2, hb.l3, hb.l4, hb.l5, hb.l6, hX.k37, h37k, h38k, ↓hb.g0, ↓hb.g1, ↓hb.g2, ↓hb.g3, ↓hb.g4, ↓hb.g5, ↓hX.g37_0, ↓hX.g37_1, ↓hX.g37_2, c71, hj2, es, ↓zB_c e34, zB_c e34, ↓zB_c e3, zB_c e3]
        | some d =>
          rw [hx] at e34
          have e34 : f34 37 p (nI k) (nI i) (nI q) (nI j) (z_hp S m1) = some (1, z_hp S m2) := e34
          have hd := d1 d hx
          obtain ⟨p1, p2, p3, p4⟩ := hH.ld hq hlq ho hj2 hx
          have d3 := hd.1
          obtain ⟨m3, e3, c1, c2⟩ := f2_sp h38 g12 (by omega) (k := 7) (v := name) (a := nI d.length)
          have epn : nI (z_pn 7 (nI d.length)) = nI (1 + d.length) := by
            show nI (1 + (nI d.length).toNatClampNeg) = _
            rw [nI_clamp (by omega)]
          rw [epn] at e3
          obtain ⟨m4, e4, c3, c4⟩ := f2_sp h38 c1 (by rw [List.length_append]; show _ + 1 < _; omega) (k := 2) (v := 0) (a := 0)
          have e4 : f2 38 2 0 0 (z_hp S m3) = some ((), z_hp S m4) := e4
          have F4 := c2.trans c4
          have hcp4 : z_cp m4 p P := F4.cp (by omega) h24 hcp2
          have hT4 : z_LT m4 p P := z_LT_fr hw (fun a x1 x2 => F4.at (by omega)) hT2
          obtain ⟨m5, e5, c5, c6⟩ := f33_106_sp (K := nI k) (I := nI i) (name := name) (C := nI (z_exs P k i c q name j).2.2) hX hp lo hcp4 hT4 hw hq hlq hj2 (z_lc_fr (fun a x1 x2 => F4.at (by omega)) hd) c3 (by rw [List.length_append, List.length_append]; show _ + 1 + 1 + _ ≤ _; omega)
          have F5 := F4.trans c6
          refine Or.inl ⟨_, m5, (z_bd P q).length - (j + 1), ?_, by omega, j + 1, rfl, by omega, rfl, ?_, z_lc_fr (fun a x1 x2 => F5.at (by omega)) g22, fun a ha => by rw [F5.at (by omega), d2 a (by omega), g3 a ha]⟩
          · unfold f33_25b
            rw [z_exs_some gs hx]
            simp (disch := ((try simp only [true_or, or_true, hb.k, hb.k1, hb.k2, hb.k3, hb.k4, hb.k5, hb.k6, hb.l1, hb.l2, hb.l3, hb.l4, hb.l5, hb.l6, hX.k37, hX.k49, hX.k50, hX.k51, hX.k52, hX.l50, hX.l51, hX.l52, h37k, h38k, h49k]) <;> (try omega))) only [↓reduceIte, ↓z_ite, ↓zR, ↓zB_R, ↓zB_B, ↓zB_ite, ↓zB_gI, ↓zB_pI, ↓zB_pZ, ↓zB_aK, ↓zB_G, ↓zB_lI, ↓zB_lZ, ↓zB_wI, ↓zB_wZ, ↓zB_lIl, ↓zB_wIl, zB_pI, zB_pZ, zB_lI, zB_lZ, zB_wI, zB_wZ, z_addl, z_ladd, z_mull, z_lmul, nI_add, z_subl, Nat.not_lt_zero, z_10, z_01, z_bitc, z_b0, z_b1, ↓zB_Gb, ↓zB_G0, ↓zB_G1, z_eql, z_leq, z_ltl, z_llt, z_eq, z_lt, z_m1lt, hb.k, hb.k1, hb.k2, hb.k3, hb.k4, hb.k5, hb.k6, hb.l1, hb.l2, hb.l3, hb.l4, hb.l5, hb.l6, hX.k37, hX.k49, hX.k50, hX.k51, hX.k52, hX.l50, hX.l51, hX.l52, h37k, h38k, h49k, ↓hb.g0, ↓hb.g1, ↓hb.g2, ↓hb.g3, ↓hb.g4, ↓hb.g5, ↓hX.g37_0, ↓hX.g37_1, ↓hX.g37_2, ↓hX.g49_0, ↓hX.g49_1, ↓hX.g49_2, c71, hj2, es, ↓zB_c e34, zB_c e34, d3, ↓zB_c e3, zB_c e3, ↓zB_c e4, zB_c e4]
            rw [show nI ((z_exs P k i c q name j).2.2 + 1) = nI (z_exs P k i c q name j).2.2 + 1 from (nI_add _ 1).symm]
            exact e5
          · rw [z_exs_some gs hx]
            dsimp only
            unfold z_exC
            rw [List.append_assoc, List.append_assoc] at c5
            exact c5
end
