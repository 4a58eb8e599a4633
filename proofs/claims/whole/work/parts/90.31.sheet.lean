-- deps: 90.30.dead
/-! bodies written on a sheet, and taken -/
section
variable {S : z_S} {m : z_m} {p q : Nat} {P : z_Pg} {A : z_A}
/-- a loop that ends with a call -/
theorem z_loopT {σ R : Type} {f : σ → m_M (σ ⊕ R)} {S : z_S} (I : Nat → σ → z_m → Prop) (Q : m_M R → z_m → Prop) (hs : ∀ n s m, I n s m → (∃ s' m' n', f s (z_hp S m) = some (.inl s', z_hp S m') ∧ n' < n ∧ I n' s' m') ∨ (∃ X m', f s (z_hp S m) = m_B X (fun r => m_R (.inr r)) (z_hp S m') ∧ Q X m')) : ∀ (N n : Nat) (s : σ) (m : z_m), I n s m → n < N → ∃ X m', m_W f N s (z_hp S m) = X (z_hp S m') ∧ Q X m'
  | 0, _, _, _, _, h => absurd h (Nat.not_lt_zero _)
  | N + 1, n, s, m, hI, hN => by
    unfold m_W
    rcases hs n s m hI with ⟨s', m', n', e, h1, h2⟩ | ⟨X, m', e, hQ⟩
    · obtain ⟨X, m'', e2, hQ⟩ := z_loopT I Q hs N n' s' m' h2 (by omega)
      refine ⟨X, m'', ?_, hQ⟩
      rw [zB_c e]; exact e2
    · refine ⟨X, m', ?_, hQ⟩
      unfold m_B at e ⊢
      rw [e]
      cases X (z_hp S m') with
      | none => rfl
      | some v => rfl
/-- a body taken from a sheet -/
theorem z_take (hq : z_PS S q) {sh : Nat} (hsh : z_BS S sh 256) (hap : sh + 7 ≤ q) {j : Nat} (hj : j < 24) (hr : z_rm60 m q) {l : List z_N} (hl : z_cb m sh 256 l) : ∃ m', f7 (z_bi q j) sh (z_hp S m) = some (z_b (decide (l.length ≤ 60)), z_hp S m') ∧ z_rm60 m' q ∧ z_bF (z_bi q j) m m' ∧ ∀ Pj, z_cp m q Pj → (∀ k, k < z_nm Pj → z_cnt Pj k ≤ 2) → j < z_nm Pj → z_liv Pj j = true → l.length ≤ 60 → z_cp m' q (z_sM Pj j (z_hd Pj j) l) := by
  have hb := hq.B hj
  by_cases g : l.length ≤ 60
  · obtain ⟨m', e, c1, c2⟩ := f7_y hb (hr j hj) (by decide) (show z_bb (z_bi q j) sh by unfold z_bb z_bi; omega) hl hsh g
    have fr : ∀ a, a ≠ z_bi q j → a ≠ z_bi q j + 1 → a ≠ z_bi q j + 2 → a ≠ z_bi q j + 3 → m' a = m a := c2.1
    have hr' : z_rm60 m' q := fun k hk => by
      by_cases x : k = j
      · rw [x, c2.2 6 (by decide)]; exact hr j hj
      · rw [fr _ (by unfold z_bi; omega) (by unfold z_bi; omega) (by unfold z_bi; omega) (by unfold z_bi; omega)]; exact hr k hk
    refine ⟨m', by rw [decide_eq_true g]; exact e, hr', c2, fun Pj hc hct hjn hlv _ => ?_⟩
    have sm : ∀ a, q ≤ a → a ≤ q + 9 → m' a = m a := fun a x1 x2 => fr a (by unfold z_bi; omega) (by unfold z_bi; omega) (by unfold z_bi; omega) (by unfold z_bi; omega)
    refine z_cp_sM hc hct hjn hlv (z_hO.same j sm) (by simpa [z_liv] using hlv) ?_ hr' (fun k hk hne a x1 x2 => fr a (by unfold z_bi at *; omega) (by unfold z_bi at *; omega) (by unfold z_bi at *; omega) (by unfold z_bi at *; omega)) c1
    have hh := z_h1_of hc hjn hlv
    unfold z_h1 at *
    rw [sm _ (by omega) (by omega), sm _ (by omega) (by omega), sm _ (by omega) (by omega), sm _ (by omega) (by omega), sm _ (by omega) (by omega), sm _ (by omega) (by omega)]
    exact hh
  · refine ⟨m, ?_, hr, z_bF.refl _ _, fun _ _ _ _ _ x => absurd x g⟩
    rw [decide_eq_false g]
    exact f7_n hb (hr j hj) (by decide) hl hsh (by omega)
/-- a sheet is scratch -/
theorem z_bF.oF {sh : Nat} {m m' : z_m} (h : z_bF sh m m') (hs : sh = 22 ∨ sh = 30 ∨ sh = 38 ∨ sh = 54) (q : Nat) (hq : 242 ≤ q) : z_oF q m m' := by
  have hb : ∀ j, j ≠ 7 → m' sh j = m sh j := h.2
  refine ⟨fun a _ x _ => h.1 a (by omega) (by omega) (by omega) (by omega), ?_, ?_, ?_, ?_⟩
  · by_cases g : sh = 22
    · rw [g] at hb; exact hb 6 (by decide)
    · rw [h.1 22 (by omega) (by omega) (by omega) (by omega)]
  · by_cases g : sh = 30
    · rw [g] at hb; exact hb 6 (by decide)
    · rw [h.1 30 (by omega) (by omega) (by omega) (by omega)]
  · by_cases g : sh = 38
    · rw [g] at hb; exact hb 6 (by decide)
    · rw [h.1 38 (by omega) (by omega) (by omega) (by omega)]
  · by_cases g : sh = 54
    · rw [g] at hb; exact hb 6 (by decide)
    · rw [h.1 54 (by omega) (by omega) (by omega) (by omega)]
theorem z_bF.oF2 {j : Nat} {m m' : z_m} (hj : j < 24) (hq : 242 ≤ q) (h : z_bF (z_bi q j) m m') : z_oF q m m' :=
  ⟨fun a _ _ x => h.1 a (by unfold z_bi; omega) (by unfold z_bi; omega) (by unfold z_bi; omega) (by unfold z_bi; omega), by rw [h.1 22 (by unfold z_bi; omega) (by unfold z_bi; omega) (by unfold z_bi; omega) (by unfold z_bi; omega)], by rw [h.1 30 (by unfold z_bi; omega) (by unfold z_bi; omega) (by unfold z_bi; omega) (by unfold z_bi; omega)], by rw [h.1 38 (by unfold z_bi; omega) (by unfold z_bi; omega) (by unfold z_bi; omega) (by unfold z_bi; omega)], by rw [h.1 54 (by unfold z_bi; omega) (by unfold z_bi; omega) (by unfold z_bi; omega) (by unfold z_bi; omega)]⟩
/-- the program that is read stays -/
theorem z_oF.cp {m' : z_m} (hw : z_wf P) (hF : z_oF q m m') (hp : 242 ≤ p) (hpq : p + 179 ≤ q ∨ q + 179 ≤ p) (h : z_cp m p P) : z_cp m' p P := z_cp_fr hw.2.2.1 (fun a x1 x2 => hF.1 a (by omega) (by omega) (by omega)) (fun k hk a x1 x2 => hF.1 a (by unfold z_bi at *; omega) (by unfold z_bi at *; omega) (by unfold z_bi at *; omega)) h
theorem z_oF.LT {m' : z_m} (hw : z_wf P) (hF : z_oF q m m') (hp : 242 ≤ p) (hpq : p + 179 ≤ q ∨ q + 179 ≤ p) (h : z_LT m p P) : z_LT m' p P := z_LT_fr hw (fun a x1 x2 => hF.1 a (by omega) (by omega) (by omega)) h
/-- the copy, where only a sheet is written -/
theorem z_bF.cp {sh : Nat} {m m' : z_m} {Pj : z_Pg} (h : z_bF sh m m') (hs : sh + 7 ≤ q) (h24 : z_nm Pj ≤ 24) (hc : z_cp m q Pj) : z_cp m' q Pj := z_cp_fr h24 (fun a x1 x2 => h.1 a (by omega) (by omega) (by omega) (by omega)) (fun k hk a x1 x2 => h.1 a (by unfold z_bi at x1; omega) (by unfold z_bi at x1; omega) (by unfold z_bi at x1; omega) (by unfold z_bi at x1; omega)) hc
theorem z_bF.rm {sh : Nat} {m m' : z_m} (h : z_bF sh m m') (hs : sh + 7 ≤ q) (hr : z_rm60 m q) : z_rm60 m' q := fun k hk => by rw [h.1 _ (by unfold z_bi; omega) (by unfold z_bi; omega) (by unfold z_bi; omega) (by unfold z_bi; omega)]; exact hr k hk
theorem z_bF.at {sh : Nat} {m m' : z_m} (h : z_bF sh m m') {a : Nat} (ha : a < sh ∨ sh + 4 ≤ a) : m' a = m a := h.1 a (by omega) (by omega) (by omega) (by omega)
theorem z_big_s (P : z_Pg) (D : Nat → List z_N) (n : Nat) : z_big P D (n + 1) = (z_big P D n || (z_liv P n && decide (60 < (D n).length))) := rfl
/-! a field renamed: the class -/
/-- the field's word moves -/
def z_mvF (P : z_Pg) (c f n : Nat) : z_Pg := (P.1, P.2.1, fun c' n' => if c' = c ∧ n' = n then z_fld P c f else if c' = c ∧ n' = f then 0 else z_fld P c' n', P.2.2.2)
noncomputable def z_rfb (P : z_Pg) (c f j i : Nat) : Bool := z_isBF (z_bd P j) (z_Bd P j) i (nI c) (nI f)
noncomputable def z_rfg (P : z_Pg) (c f n j i : Nat) : List z_N := if z_rfb P c f j i = true then (if (z_isV (z_bd P j) i && z_hl P j i (nI n)) = true then z_pln (z_k (z_bd P j) i) (nI n) else [(z_k (z_bd P j) i, nI n, z_a (z_bd P j) i)]) else [z_at (z_bd P j) i]
noncomputable def z_rfD (P : z_Pg) (c f n j : Nat) : List z_N := z_cat (z_rfg P c f n j) (z_bd P j).length
noncomputable def z_rfC (P : z_Pg) (c f k : Nat) : Nat := z_sl P (fun j => z_ct (z_rfb P c f j) (z_bd P j).length) k
noncomputable def z_rfR (P : z_Pg) (c f n : Nat) : Int32 := if z_haf P c n = true then -1 else if z_big P (z_rfD P c f n) (z_nm P) = true then -6 else nI (z_rfC P c f (z_nm P))
noncomputable def z_rfQ (P : z_Pg) (c f n : Nat) : z_Pg := z_mix (z_mvF P c f n) (z_hd P) (z_rfD P c f n) (z_nm P)
theorem z_pln_len (k name : Int32) : (z_pln k name).length = 2 := rfl
theorem z_rfg_len (P : z_Pg) (c f n j i : Nat) : 1 ≤ (z_rfg P c f n j i).length ∧ (z_rfg P c f n j i).length ≤ 2 := by
  unfold z_rfg
  split
  · split
    · rw [z_pln_len]; omega
    · exact ⟨Nat.le_refl _, Nat.le_succ 1⟩
  · exact ⟨Nat.le_refl _, Nat.le_succ 1⟩
theorem z_cat_le {f : Nat → List z_N} {c : Nat} : ∀ n, (∀ i, i < n → (f i).length ≤ c) → (z_cat f n).length ≤ n * c
  | 0, _ => Nat.zero_le _
  | n + 1, h => by
    have := z_cat_le (f := f) (c := c) n (fun i hi => h i (by omega))
    have h2 := h n (by omega)
    show (z_cat f n ++ f n).length ≤ (n + 1) * c
    rw [List.length_append, Nat.succ_mul]; omega
/-- Program.moveField -/
theorem f73_sp (hq : z_PS S q) (h : z_cp m q P) (hw : z_wf P) {c f n : Nat} (hc : c < z_nc P) (hf : f < 16) (hn : n < 16) (hfn : f ≠ n) (hex : z_fld P c f ≠ 0) : ∃ m', f73 q (nI c) (nI f) (nI n) (z_hp S m) = some ((), z_hp S m') ∧ z_cp m' q (z_mvF P c f n) ∧ ∀ a, a ≠ q + 3 → m' a = m a := by
  have h6 := hw.1.1
  have h24 := hw.2.2.1
  obtain ⟨⟨c1, c2⟩, ⟨d1, d2, d3⟩, e1, e2⟩ := h
  have eft := (z_fld_ty hw hc hf hex).2
  have ev := (c2 c hc).2.2 f hf
  refine ⟨z_up (z_up m (q + 3) (c * 16 + n) (z_ft P c f)) (q + 3) (c * 16 + f) (-3), ?_, ⟨⟨by rw [z_up_row (by omega), z_up_row (by omega)]; exact c1, fun c' hc' => ?_⟩, ⟨by rw [z_up_row (by omega), z_up_row (by omega)]; exact d1, fun k hk => ?_, fun k hk hl => ?_⟩, fun k hk => ?_, fun k hk hl => ?_⟩, fun a ha => by rw [z_up_row ha, z_up_row ha]⟩
  · unfold f73
    simp (disch := ((try simp only [true_or, or_true, hq.k, hq.k1, hq.k2, hq.k3, hq.k4, hq.k5, hq.k6, hq.k7, hq.k8, hq.k9, hq.k10, hq.l1, hq.l2, hq.l3, hq.l4, hq.l5, hq.l6, hq.l7, hq.l8, hq.l9, hq.l10]) <;> (try omega))) only [↓reduceIte, ↓z_ite, ↓zR, ↓zB_R, ↓zB_B, ↓zB_ite, ↓zB_gI, ↓zB_pI, ↓zB_pZ, ↓zB_aK, ↓zB_G, ↓zB_lI, ↓zB_lZ, ↓zB_wI, ↓zB_wZ, ↓zB_lIl, ↓zB_wIl, zB_pI, zB_pZ, zB_lI, zB_lZ, zB_wI, zB_wZ, z_addl, z_ladd, z_mull, z_lmul, nI_add, z_subl, Nat.not_lt_zero, z_10, z_01, z_bitc, z_b0, z_b1, ↓zB_Gb, ↓zB_G0, ↓zB_G1, z_eql, z_leq, z_ltl, z_llt, z_eq, z_lt, z_m1lt, hq.k, hq.k1, hq.k2, hq.k3, hq.k4, hq.k5, hq.k6, hq.k7, hq.k8, hq.k9, hq.k10, hq.l1, hq.l2, hq.l3, hq.l4, hq.l5, hq.l6, hq.l7, hq.l8, hq.l9, hq.l10, ↓hq.g0, ↓hq.g1, ↓hq.g2, ↓hq.g3, ↓hq.g4, ↓hq.g5, ↓hq.g6, ↓hq.g7, ↓hq.g8, ↓hq.g9, ↓hq.gb, hq.gb, ev]
  · obtain ⟨q1, q2, q3⟩ := c2 c' hc'
    rw [z_up_row (by omega), z_up_row (by omega)]
    refine ⟨q1, fun d hd => ?_, fun n' hn' => ?_⟩
    · rw [z_up_row (by omega), z_up_row (by omega), z_blw_par (P := P) (P' := z_mvF P c f n) rfl]; exact q2 d hd
    · have hft : z_ft (z_mvF P c f n) c' n' = if c' = c ∧ n' = n then z_ft P c f else if c' = c ∧ n' = f then -3 else z_ft P c' n' := by
        unfold z_ft
        show (if (if c' = c ∧ n' = n then z_fld P c f else if c' = c ∧ n' = f then 0 else z_fld P c' n') = 0 then (-3 : Int32) else (if c' = c ∧ n' = n then z_fld P c f else if c' = c ∧ n' = f then 0 else z_fld P c' n') - 2) = _
        by_cases g1 : c' = c ∧ n' = n
        · simp only [if_pos g1]
        · simp only [if_neg g1]
          by_cases g2 : c' = c ∧ n' = f
          · simp only [if_pos g2]; rfl
          · simp only [if_neg g2]
      rw [hft]
      by_cases g1 : c' = c ∧ n' = n
      · obtain ⟨rfl, rfl⟩ := g1
        rw [if_pos ⟨rfl, rfl⟩, z_up_b (by omega), z_up_s]
      · rw [if_neg g1]
        by_cases g2 : c' = c ∧ n' = f
        · obtain ⟨rfl, rfl⟩ := g2
          rw [if_pos ⟨rfl, rfl⟩, z_up_s]
        · rw [if_neg g2, z_up_b (by omega), z_up_b (by omega)]; exact q3 n' hn'
  · rw [z_up_row (by omega), z_up_row (by omega)]; exact d2 k hk
  · have := d3 k hk hl
    unfold z_ch at *
    rw [z_up_row (by omega), z_up_row (by omega), z_up_row (by omega), z_up_row (by omega), z_up_row (by omega), z_up_row (by omega), z_up_row (by omega), z_up_row (by omega), z_up_row (by omega), z_up_row (by omega), z_up_row (by omega), z_up_row (by omega)]
    exact this
  · rw [z_up_row (by unfold z_bi; omega), z_up_row (by unfold z_bi; omega)]; exact e1 k hk
  · exact z_cb_fr (fun a x1 x2 => by rw [z_up_row (by unfold z_bi at x1; omega), z_up_row (by unfold z_bi at x1; omega)]) (e2 k hk hl)
/-- a body written anew -/
theorem f107_70_sp (hX : z_XS S) (hp : z_PS S p) (lo : 242 ≤ p) (h : z_cp m p P) (ht : z_LT m p P) (hw : z_wf P) {c f n j : Nat} (hj : j < z_nm P) (hl : z_liv P j = true) (hsh : z_cb m 22 256 []) (c0 : Nat) (hc0 : c0 < 1000000) (F : Int32) : ∃ m', f107_70 21 p q (nI c) (nI f) (nI n) (nI c0) F (nI j) (z_bi p j) 0 (z_hp S m) = f107_168 21 p q (nI c) (nI f) (nI n) (nI (c0 + z_ct (z_rfb P c f j) (z_bd P j).length)) F (nI j) (z_hp S m') ∧ z_cb m' 22 256 (z_rfD P c f n j) ∧ z_bF 22 m m' := by
  have h24 := hw.2.2.1
  have hbp := hp.B (k := j) (by omega)
  have hbpk := hbp.k
  have hpk := hp.k
  have h22 := hX.2.2.2.1.1
  have h22k := h22.k
  have hB := hw.2.2.2.2.1 j hj
  have hcbp := h.2.2.2 j hj hl
  have hlen : (z_bd P j).length ≤ 60 := hcbp.2.2.1
  have hT := ht j hj hl
  unfold f107_70
  have key := z_loopT (f := fun s => f107_70b (s.1) (s.2.1) (s.2.2.1) (s.2.2.2.1) (s.2.2.2.2.1) (s.2.2.2.2.2.1) (s.2.2.2.2.2.2.1) (s.2.2.2.2.2.2.2.1) (s.2.2.2.2.2.2.2.2.1) (s.2.2.2.2.2.2.2.2.2.1) (s.2.2.2.2.2.2.2.2.2.2)) (S := S) (fun k st m' => ∃ i, k = (z_bd P j).length - i ∧ i ≤ (z_bd P j).length ∧ st = (21, p, q, nI c, nI f, nI n, nI (c0 + z_ct (z_rfb P c f j) i), F, nI j, z_bi p j, nI i) ∧ z_cb m' 22 256 (z_cat (z_rfg P c f n j) i) ∧ z_bF 22 m m') (fun X m' => X = f107_168 21 p q (nI c) (nI f) (nI n) (nI (c0 + z_ct (z_rfb P c f j) (z_bd P j).length)) F (nI j) ∧ z_cb m' 22 256 (z_rfD P c f n j) ∧ z_bF 22 m m') ?_ 1000000 (z_bd P j).length (21, p, q, nI c, nI f, nI n, nI c0, F, nI j, z_bi p j, 0) m ⟨0, rfl, Nat.zero_le _, rfl, hsh, z_bF.refl _ _⟩ (by omega)
  · obtain ⟨X, m', e, rfl, g⟩ := key
    exact ⟨m', e, g⟩
  · rintro k st m1 ⟨i, rfl, hi, rfl, g1, g2⟩
    have hcp1 : z_cp m1 p P := g2.cp (by omega) h24 h
    have hT1 : z_LT m1 p P := z_LT_fr hw (fun a x1 x2 => g2.at (by omega)) ht
    have hb1 := hcp1.2.2.2 j hj hl
    have c71 := hb1.2.1
    have hcl := z_ct_le (s := z_rfb P c f j) i
    have hcat := z_cat_le (f := z_rfg P c f n j) (c := 2) i (fun i _ => (z_rfg_len P c f n j i).2)
    dsimp only
    rcases Nat.eq_or_lt_of_le hi with hi2 | hi2
    · refine Or.inr ⟨_, m1, ?_, rfl, by rw [hi2] at g1; exact g1, g2⟩
      unfold f107_70b
      rw [hi2]
      simp (disch := ((try simp only [true_or, or_true, hp.k, hp.k1, hp.k2, hp.k3, hp.k4, hp.k5, hp.k6, hp.k7, hp.k8, hp.k9, hp.k10, hp.l1, hp.l2, hp.l3, hp.l4, hp.l5, hp.l6, hp.l7, hp.l8, hp.l9, hp.l10, hbp.k, hbp.k1, hbp.k2, hbp.k3, hbp.k4, hbp.k5, hbp.k6, hbp.l1, hbp.l2, hbp.l3, hbp.l4, hbp.l5, hbp.l6]) <;> (try omega))) only [↓reduceIte, ↓z_ite, ↓zR, ↓zB_R, ↓zB_B, ↓zB_ite, ↓zB_gI, ↓zB_pI, ↓zB_pZ, ↓zB_aK, ↓zB_G, ↓zB_lI, ↓zB_lZ, ↓zB_wI, ↓zB_wZ, ↓zB_lIl, ↓zB_wIl, zB_pI, zB_pZ, zB_lI, zB_lZ, zB_wI, zB_wZ, z_addl, z_ladd, z_mull, z_lmul, nI_add, z_subl, Nat.not_lt_zero, z_10, z_01, z_bitc, z_b0, z_b1, ↓zB_Gb, ↓zB_G0, ↓zB_G1, z_eql, z_leq, z_ltl, z_llt, z_eq, z_lt, z_m1lt, hp.k, hp.k1, hp.k2, hp.k3, hp.k4, hp.k5, hp.k6, hp.k7, hp.k8, hp.k9, hp.k10, hp.l1, hp.l2, hp.l3, hp.l4, hp.l5, hp.l6, hp.l7, hp.l8, hp.l9, hp.l10, hbp.k, hbp.k1, hbp.k2, hbp.k3, hbp.k4, hbp.k5, hbp.k6, hbp.l1, hbp.l2, hbp.l3, hbp.l4, hbp.l5, hbp.l6, ↓hp.g0, ↓hp.g1, ↓hp.g2, ↓hp.g3, ↓hp.g4, ↓hp.g5, ↓hp.g6, ↓hp.g7, ↓hp.g8, ↓hp.g9, ↓hp.gb, hp.gb, ↓hbp.g0, ↓hbp.g1, ↓hbp.g2, ↓hbp.g3, ↓hbp.g4, ↓hbp.g5, c71, Nat.lt_irrefl]
    · have e16 := f16_sp hbp hb1 (B := z_Bd P j) (fun i hi => ((hT1 j hj hl).2 i hi).2) hi2 (nI c) (nI f)
      have e16 : f16 (z_bi p j) (nI i) (nI c) (nI f) (z_hp S m1) = some (z_b (z_rfb P c f j i), z_hp S m1) := e16
      have fin : ∀ m2 piece, z_rfg P c f n j i = piece → z_cb m2 22 256 (z_cat (z_rfg P c f n j) i ++ piece) → z_cb m2 22 256 (z_cat (z_rfg P c f n j) (i + 1)) := fun m2 piece e h => by
        show z_cb m2 22 256 (z_cat (z_rfg P c f n j) i ++ z_rfg P c f n j i)
        rw [e]; exact h
      cases g : z_rfb P c f j i with
      | false =>
        rw [g] at e16
        obtain ⟨m2, e3, c1, c2⟩ := f3_sp h22 g1 (by omega) hbp hb1 hi2
        refine Or.inl ⟨(21, p, q, nI c, nI f, nI n, nI (c0 + z_ct (z_rfb P c f j) (i + 1)), F, nI j, z_bi p j, nI (i + 1)), m2, (z_bd P j).length - (i + 1), ?_, by omega, i + 1, rfl, hi2, rfl, fin m2 _ (by unfold z_rfg; rw [g]; rfl) c1, g2.trans c2⟩
        rw [z_ct_s, g]
        unfold f107_70b f107_162
        simp (disch := ((try simp only [true_or, or_true, hp.k, hp.k1, hp.k2, hp.k3, hp.k4, hp.k5, hp.k6, hp.k7, hp.k8, hp.k9, hp.k10, hp.l1, hp.l2, hp.l3, hp.l4, hp.l5, hp.l6, hp.l7, hp.l8, hp.l9, hp.l10, hbp.k, hbp.k1, hbp.k2, hbp.k3, hbp.k4, hbp.k5, hbp.k6, hbp.l1, hbp.l2, hbp.l3, hbp.l4, hbp.l5, hbp.l6, hX.k21, hbpk, h22k]) <;> (try omega))) only [↓reduceIte, ↓z_ite, ↓zR, ↓zB_R, ↓zB_B, ↓zB_ite, ↓zB_gI, ↓zB_pI, ↓zB_pZ, ↓zB_aK, ↓zB_G, ↓zB_lI, ↓zB_lZ, ↓zB_wI, ↓zB_wZ, ↓zB_lIl, ↓zB_wIl, zB_pI, zB_pZ, zB_lI, zB_lZ, zB_wI, zB_wZ, z_addl, z_ladd, z_mull, z_lmul, nI_add, z_subl, Nat.not_lt_zero, z_10, z_01, z_bitc, z_b0, z_b1, ↓zB_Gb, ↓zB_G0, ↓zB_G1, z_eql, z_leq, z_ltl, z_llt, z_eq, z_lt, z_m1lt, hp.k, hp.k1, hp.k2, hp.k3, hp.k4, hp.k5, hp.k6, hp.k7, hp.k8, hp.k9, hp.k10, hp.l1, hp.l2, hp.l3, hp.l4, hp.l5, hp.l6, hp.l7, hp.l8, hp.l9, hp.l10, hbp.k, hbp.k1, hbp.k2, hbp.k3, hbp.k4, hbp.k5, hbp.k6, hbp.l1, hbp.l2, hbp.l3, hbp.l4, hbp.l5, hbp.l6, hX.k21, hbpk, h22k, ↓hp.g0, ↓hp.g1, ↓hp.g2, ↓hp.g3, ↓hp.g4, ↓hp.g5, ↓hp.g6, ↓hp.g7, ↓hp.g8, ↓hp.g9, ↓hp.gb, hp.gb, ↓hbp.g0, ↓hbp.g1, ↓hbp.g2, ↓hbp.g3, ↓hbp.g4, ↓hbp.g5, ↓hX.g21_0, c71, hi2, ↓zB_c e16, zB_c e16, ↓zB_c e3, zB_c e3]
        rfl
      | true =>
        rw [g] at e16
        have e11 := f11_sp hbp hb1 hi2
        have named : (z_isV (z_bd P j) i && z_hl P j i (nI n)) = false → ∃ m2, f107_149 21 p q (nI c) (nI f) (nI n) (nI (c0 + z_ct (z_rfb P c f j) i + 1)) F (nI j) (z_bi p j) (nI i) (z_hp S m1) = some (.inl (21, p, q, nI c, nI f, nI n, nI (c0 + z_ct (z_rfb P c f j) i + 1), F, nI j, z_bi p j, nI (i + 1)), z_hp S m2) ∧ z_cb m2 22 256 (z_cat (z_rfg P c f n j) (i + 1)) ∧ z_bF 22 m1 m2 := by
          intro gn
          obtain ⟨m2, e4, c1, c2⟩ := f4_sp h22 g1 (by omega) hbp hb1 hi2 (nI n)
          refine ⟨m2, ?_, fin m2 _ (by unfold z_rfg; rw [g, gn]; rfl) c1, c2⟩
          unfold f107_149 f107_162
          simp (disch := ((try simp only [true_or, or_true, hp.k, hp.k1, hp.k2, hp.k3, hp.k4, hp.k5, hp.k6, hp.k7, hp.k8, hp.k9, hp.k10, hp.l1, hp.l2, hp.l3, hp.l4, hp.l5, hp.l6, hp.l7, hp.l8, hp.l9, hp.l10, hbp.k, hbp.k1, hbp.k2, hbp.k3, hbp.k4, hbp.k5, hbp.k6, hbp.l1, hbp.l2, hbp.l3, hbp.l4, hbp.l5, hbp.l6, hX.k21, hbpk, h22k]) <;> (try omega))) only [↓reduceIte, ↓z_ite, ↓zR, ↓zB_R, ↓zB_B, ↓zB_ite, ↓zB_gI, ↓zB_pI, ↓zB_pZ, ↓zB_aK, ↓zB_G, ↓zB_lI, ↓zB_lZ, ↓zB_wI, ↓zB_wZ, ↓zB_lIl, ↓zB_wIl, zB_pI, zB_pZ, zB_lI, zB_lZ, zB_wI, zB_wZ, z_addl, z_ladd, z_mull, z_lmul, nI_add, z_subl, Nat.not_lt_zero, z_10, z_01, z_bitc, z_b0, z_b1, ↓zB_Gb, ↓zB_G0, ↓zB_G1, z_eql, z_leq, z_ltl, z_llt, z_eq, z_lt, z_m1lt, hp.k, hp.k1, hp.k2, hp.k3, hp.k4, hp.k5, hp.k6, hp.k7, hp.k8, hp.k9, hp.k10, hp.l1, hp.l2, hp.l3, hp.l4, hp.l5, hp.l6, hp.l7, hp.l8, hp.l9, hp.l10, hbp.k, hbp.k1, hbp.k2, hbp.k3, hbp.k4, hbp.k5, hbp.k6, hbp.l1, hbp.l2, hbp.l3, hbp.l4, hbp.l5, hbp.l6, hX.k21, hbpk, h22k, ↓hp.g0, ↓hp.g1, ↓hp.g2, ↓hp.g3, ↓hp.g4, ↓hp.g5, ↓hp.g6, ↓hp.g7, ↓hp.g8, ↓hp.g9, ↓hp.gb, hp.gb, ↓hbp.g0, ↓hbp.g1, ↓hbp.g2, ↓hbp.g3, ↓hbp.g4, ↓hbp.g5, ↓hX.g21_0, ↓zB_c e4, zB_c e4]
        cases gv : z_isV (z_bd P j) i with
        | false =>
          rw [gv] at e11
          obtain ⟨m2, e5, c1, c2⟩ := named (by rw [gv]; rfl)
          refine Or.inl ⟨(21, p, q, nI c, nI f, nI n, nI (c0 + z_ct (z_rfb P c f j) (i + 1)), F, nI j, z_bi p j, nI (i + 1)), m2, (z_bd P j).length - (i + 1), ?_, by omega, i + 1, rfl, hi2, rfl, c1, g2.trans c2⟩
          rw [z_ct_s, g]
          unfold f107_70b
          simp (disch := ((try simp only [true_or, or_true, hp.k, hp.k1, hp.k2, hp.k3, hp.k4, hp.k5, hp.k6, hp.k7, hp.k8, hp.k9, hp.k10, hp.l1, hp.l2, hp.l3, hp.l4, hp.l5, hp.l6, hp.l7, hp.l8, hp.l9, hp.l10, hbp.k, hbp.k1, hbp.k2, hbp.k3, hbp.k4, hbp.k5, hbp.k6, hbp.l1, hbp.l2, hbp.l3, hbp.l4, hbp.l5, hbp.l6, hX.k21, hbpk, h22k]) <;> (try omega))) only [↓reduceIte, ↓z_ite, ↓zR, ↓zB_R, ↓zB_B, ↓zB_ite, ↓zB_gI, ↓zB_pI, ↓zB_pZ, ↓zB_aK, ↓zB_G, ↓zB_lI, ↓zB_lZ, ↓zB_wI, ↓zB_wZ, ↓zB_lIl, ↓zB_wIl, zB_pI, zB_pZ, zB_lI, zB_lZ, zB_wI, zB_wZ, z_addl, z_ladd, z_mull, z_lmul, nI_add, z_subl, Nat.not_lt_zero, z_10, z_01, z_bitc, z_b0, z_b1, ↓zB_Gb, ↓zB_G0, ↓zB_G1, z_eql, z_leq, z_ltl, z_llt, z_eq, z_lt, z_m1lt, hp.k, hp.k1, hp.k2, hp.k3, hp.k4, hp.k5, hp.k6, hp.k7, hp.k8, hp.k9, hp.k10, hp.l1, hp.l2, hp.l3, hp.l4, hp.l5, hp.l6, hp.l7, hp.l8, hp.l9, hp.l10, hbp.k, hbp.k1, hbp.k2, hbp.k3, hbp.k4, hbp.k5, hbp.k6, hbp.l1, hbp.l2, hbp.l3, hbp.l4, hbp.l5, hbp.l6, hX.k21, hbpk, h22k, ↓hp.g0, ↓hp.g1, ↓hp.g2, ↓hp.g3, ↓hp.g4, ↓hp.g5, ↓hp.g6, ↓hp.g7, ↓hp.g8, ↓hp.g9, ↓hp.gb, hp.gb, ↓hbp.g0, ↓hbp.g1, ↓hbp.g2, ↓hbp.g3, ↓hbp.g4, ↓hbp.g5, ↓hX.g21_0, c71, hi2, ↓zB_c e16, zB_c e16, Bool.true_eq_false, ↓zB_c e11, zB_c e11]
          exact e5
        | true =>
          rw [gv] at e11
          have e101 := f101_sp hp hcp1 hw hj hl (hT1 j hj hl) hi2 (nI n)
          cases gh : z_hl P j i (nI n) with
          | false =>
            rw [gh] at e101
            obtain ⟨m2, e5, c1, c2⟩ := named (by rw [gv, gh]; rfl)
            refine Or.inl ⟨(21, p, q, nI c, nI f, nI n, nI (c0 + z_ct (z_rfb P c f j) (i + 1)), F, nI j, z_bi p j, nI (i + 1)), m2, (z_bd P j).length - (i + 1), ?_, by omega, i + 1, rfl, hi2, rfl, c1, g2.trans c2⟩
            rw [z_ct_s, g]
            unfold f107_70b
            simp (disch := ((try simp only [true_or, or_true, hp.k, hp.k1, hp.k2, hp.k3, hp.k4, hp.k5, hp.k6, hp.k7, hp.k8, hp.k9, hp.k10, hp.l1, hp.l2, hp.l3, hp.l4, hp.l5, hp.l6, hp.l7, hp.l8, hp.l9, hp.l10, hbp.k, hbp.k1, hbp.k2, hbp.k3, hbp.k4, hbp.k5, hbp.k6, hbp.l1, hbp.l2, hbp.l3, hbp.l4, hbp.l5, hbp.l6, hX.k21, hbpk, h22k, hpk]) <;> (try omega))) only [↓reduceIte, ↓z_ite, ↓zR, ↓zB_R, ↓zB_B, ↓zB_ite, ↓zB_gI, ↓zB_pI, ↓zB_pZ, ↓zB_aK, ↓zB_G, ↓zB_lI, ↓zB_lZ, ↓zB_wI, ↓zB_wZ, ↓zB_lIl, ↓zB_wIl, zB_pI, zB_pZ, zB_lI, zB_lZ, zB_wI, zB_wZ, z_addl, z_ladd, z_mull, z_lmul, nI_add, z_subl, Nat.not_lt_zero, z_10, z_01, z_bitc, z_b0, z_b1, ↓zB_Gb, ↓zB_G0, ↓zB_G1, z_eql, z_leq, z_ltl, z_llt, z_eq, z_lt, z_m1lt, hp.k, hp.k1, hp.k2, hp.k3, hp.k4, hp.k5, hp.k6, hp.k7, hp.k8, hp.k9, hp.k10, hp.l1, hp.l2, hp.l3, hp.l4, hp.l5, hp.l6, hp.l7, hp.l8, hp.l9, hp.l10, hbp.k, hbp.k1, hbp.k2, hbp.k3, hbp.k4, hbp.k5, hbp.k6, hbp.l1, hbp.l2, hbp.l3, hbp.l4, hbp.l5, hbp.l6, hX.k21, hbpk, h22k, hpk, ↓hp.g0, ↓hp.g1, ↓hp.g2, ↓hp.g3, ↓hp.g4, ↓hp.g5, ↓hp.g6, ↓hp.g7, ↓hp.g8, ↓hp.g9, ↓hp.gb, hp.gb, ↓hbp.g0, ↓hbp.g1, ↓hbp.g2, ↓hbp.g3, ↓hbp.g4, ↓hbp.g5, ↓hX.g21_0, c71, hi2, ↓zB_c e16, zB_c e16, Bool.true_eq_false, ↓zB_c e11, zB_c e11, ↓zB_c e101, zB_c e101]
            exact e5
          | true =>
            rw [gh] at e101
            have hkv : z_k (z_bd P j) i = 1 ∨ z_k (z_bd P j) i = 6 := by
              unfold z_isV at gv
              simpa [Bool.or_eq_true, beq_iff_eq] using gv
            obtain ⟨m2, e5, c1, c2⟩ := f5_sp h22 g1 (by omega) hbp hb1 hi2 hkv (nI n)
            refine Or.inl ⟨(21, p, q, nI c, nI f, nI n, nI (c0 + z_ct (z_rfb P c f j) (i + 1)), F, nI j, z_bi p j, nI (i + 1)), m2, (z_bd P j).length - (i + 1), ?_, by omega, i + 1, rfl, hi2, rfl, fin m2 _ (by unfold z_rfg; rw [g, gv, gh]; rfl) c1, g2.trans c2⟩
            rw [z_ct_s, g]
            unfold f107_70b f107_162
            simp (disch := ((try simp only [true_or, or_true, hp.k, hp.k1, hp.k2, hp.k3, hp.k4, hp.k5, hp.k6, hp.k7, hp.k8, hp.k9, hp.k10, hp.l1, hp.l2, hp.l3, hp.l4, hp.l5, hp.l6, hp.l7, hp.l8, hp.l9, hp.l10, hbp.k, hbp.k1, hbp.k2, hbp.k3, hbp.k4, hbp.k5, hbp.k6, hbp.l1, hbp.l2, hbp.l3, hbp.l4, hbp.l5, hbp.l6, hX.k21, hbpk, h22k, hpk]) <;> (try omega))) only [↓reduceIte, ↓z_ite, ↓zR, ↓zB_R, ↓zB_B, ↓zB_ite, ↓zB_gI, ↓zB_pI, ↓zB_pZ, ↓zB_aK, ↓zB_G, ↓zB_lI, ↓zB_lZ, ↓zB_wI, ↓zB_wZ, ↓zB_lIl, ↓zB_wIl, zB_pI, zB_pZ, zB_lI, zB_lZ, zB_wI, zB_wZ, z_addl, z_ladd, z_mull, z_lmul, nI_add, z_subl, Nat.not_lt_zero, z_10, z_01, z_bitc, z_b0, z_b1, ↓zB_Gb, ↓zB_G0, ↓zB_G1, z_eql, z_leq, z_ltl, z_llt, z_eq, z_lt, z_m1lt, hp.k, hp.k1, hp.k2, hp.k3, hp.k4, hp.k5, hp.k6, hp.k7, hp.k8, hp.k9, hp.k10, hp.l1, hp.l2, hp.l3, hp.l4, hp.l5, hp.l6, hp.l7, hp.l8, hp.l9, hp.l10, hbp.k, hbp.k1, hbp.k2, hbp.k3, hbp.k4, hbp.k5, hbp.k6, hbp.l1, hbp.l2, hbp.l3, hbp.l4, hbp.l5, hbp.l6, hX.k21, hbpk, h22k, hpk, ↓hp.g0, ↓hp.g1, ↓hp.g2, ↓hp.g3, ↓hp.g4, ↓hp.g5, ↓hp.g6, ↓hp.g7, ↓hp.g8, ↓hp.g9, ↓hp.gb, hp.gb, ↓hbp.g0, ↓hbp.g1, ↓hbp.g2, ↓hbp.g3, ↓hbp.g4, ↓hbp.g5, ↓hX.g21_0, c71, hi2, ↓zB_c e16, zB_c e16, Bool.true_eq_false, ↓zB_c e11, zB_c e11, ↓zB_c e101, zB_c e101, ↓zB_c e5, zB_c e5]
            rfl
end
