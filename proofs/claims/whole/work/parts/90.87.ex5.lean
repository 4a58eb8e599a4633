-- deps: 90.81.lc2 90.82.ex0 90.83.ex1 90.84.ex2 90.85.ex3 90.86.ex4
/-! nodes taken out: what comes of it -/
section
variable {S : z_S} {m : z_m} {p q : Nat} {P : z_Pg} {A : z_A}
def z_exG (P : z_Pg) (k : Nat) (c : z_Lc) (name ty : Int32) (t : Nat) : Nat → Int32 := z_hdr (nI (z_own P k)) name (nI t) (if 0 < t then (z_g c 0).2.1 else -1) (if 1 < t then (z_g c 1).2.1 else -1) (if 0 < t then (z_g c 0).2.2 else -1) (if 1 < t then (z_g c 1).2.2 else -1) ty
noncomputable def z_exc (P : z_Pg) (k i : Nat) : z_Lc := z_rlo P k i (z_sz (z_bd P k) i)
noncomputable def z_ex1 (P : z_Pg) (k i : Nat) (name : Int32) : z_Pg := z_addM P (z_exG P k (z_exc P k i) name (z_Ty P k i) (z_exc P k i).length) (z_sub (z_bd P k) i (z_en (z_bd P k) i))
noncomputable def z_exD (P : z_Pg) (k i : Nat) (name : Int32) (j : Nat) : List z_N := if z_own P j = z_own P k then z_exB P k i (z_exc P k i) j name else z_bd P j
noncomputable def z_exN (P : z_Pg) (k i : Nat) (name : Int32) (n : Nat) : Nat := z_sl P (fun j => if z_own P j = z_own P k then z_exK P k i (z_exc P k i) j name else 0) n
noncomputable def z_exQ (P : z_Pg) (k i : Nat) (name : Int32) : z_Pg := z_mix (z_ex1 P k i name) (z_hd (z_ex1 P k i name)) (z_exD P k i name) (z_nm P)
noncomputable def z_exR (P : z_Pg) (k i : Nat) (name : Int32) : Int32 :=
  if z_Ty P k i = -2 then -10
  else if z_exO P k i = true then -5
  else if 2 < (z_exc P k i).length then -6
  else if z_ham P (z_own P k) name (nI (z_exc P k i).length) = true then -1
  else if ¬ z_nm P < 24 then -6
  else if z_big P (z_exD P k i name) (z_nm P) = true then -6
  else nI (100 * z_nm P + z_exN P k i name (z_nm P))
theorem z_ex1_hd {k i : Nat} {name : Int32} {j : Nat} (hj : j < z_nm P) (w : Nat) : z_hd (z_ex1 P k i name) j w = z_hd P j w := z_addM_hd_o (by omega) w
theorem z_ex1_bd {k i : Nat} {name : Int32} {j : Nat} (hj : j < z_nm P) : z_bd (z_ex1 P k i name) j = z_bd P j := z_addM_bd_o (by omega)
theorem z_ex1_liv {k i : Nat} {name : Int32} {j : Nat} (hj : j < z_nm P) : z_liv (z_ex1 P k i name) j = z_liv P j := z_addM_liv_o (by omega)
theorem z_exc_ty (hw : z_wf P) {k : Nat} (hk : k < z_nm P) (hl : (z_bd P k).length ≤ 192) (hr : z_rt P k (z_bd P k)) {x : Int32} (h : z_bnd P k x) : z_ty' P (z_tol P k x) := by
  unfold z_tol
  rcases h with ⟨rfl, hc⟩ | ⟨rfl, hc⟩ | ⟨j, h1, h5, rfl⟩
  · rw [if_pos rfl]; exact z_bd_ty hw hk hc
  · rw [if_neg (by decide), if_pos rfl]; exact z_bd_ty hw hk hc
  · rw [if_neg (z_nI_m1 (by omega)), if_neg (z_eqm (k := 2) (by omega) (by decide) (by decide)), nI_clamp (by omega)]
    have := z_Ty_tk hw hk hr (j + 1) h1
    have hne := (z_Ty_ok hr h1).2
    rcases this with g | g | g | g
    · exact absurd g hne
    · exact Or.inl g
    · exact Or.inr (Or.inl g)
    · exact Or.inr (Or.inr g)
theorem z_ex1_wf {k i : Nat} (hH : z_exH P k i (z_exc P k i)) {name : Int32} (hn : ∃ n, n < 16 ∧ name = nI n) (h24 : z_nm P < 24) (hty : ¬ z_Ty P k i = -2) (hno : ¬ z_ham P (z_own P k) name (nI (z_exc P k i).length) = true) : z_wf (z_ex1 P k i name) ∧ z_b60 (z_ex1 P k i name) := by
  have hw := hH.1.1
  have h6 := hw.1.1
  have hk := hH.2.1.1
  have hi := hH.2.2.1
  have hl60 := hH.1.2.1 k hk
  have hr := hH.1.2.2 k hk hH.2.1.2
  have hB := hw.2.2.2.2.1 k hk
  have hle : i + z_sz (z_bd P k) i ≤ (z_bd P k).length := z_en_le hB.1 hi
  have hgt := z_en_gt hi
  have hen := z_en_le hB.1 hi
  obtain ⟨d1, _, _⟩ := z_rlo_dp (i := i) hw hk (by omega) hr (z_sz (z_bd P k) i) hle
  have hc2 := hH.2.2.2.1.2
  have hown := (z_own_e hw hk)
  have hh : ∀ w, z_hd (z_ex1 P k i name) (z_nm P) w = z_exG P k (z_exc P k i) name (z_Ty P k i) (z_exc P k i).length w := fun w => z_addM_hd_s w
  have ho : z_own (z_ex1 P k i name) (z_nm P) = z_own P k := by unfold z_own; rw [hh]; exact nI_clamp (by unfold z_own at *; omega)
  have hct : z_cnt (z_ex1 P k i name) (z_nm P) = (z_exc P k i).length := by unfold z_cnt; rw [hh]; exact nI_clamp (by omega)
  refine ⟨z_addM_wf hw h24 ?_ ⟨z_sub_tr hB.1 hi, fun x hx => hB.2 _ (z_sub_mem hx)⟩ (fun j hj hl e2 e3 eo => z_ham_no hno hj hl e2 e3 (eo.trans (nI_clamp (by omega)))), z_addM_b60 hH.1.2.1 (by rw [z_sub_len (by omega) hen]; omega)⟩
  have hp : ∀ t, t < (z_exc P k i).length → (∃ n, n < 16 ∧ (z_g (z_exc P k i) t).2.1 = nI n) ∧ z_ty' P (z_g (z_exc P k i) t).2.2 := fun t ht => by
    obtain ⟨b1, b2, b3⟩ := d1.2 t ht
    have e : z_rlo P k i (z_sz (z_bd P k) i) = z_exc P k i := rfl
    rw [e] at b1 b2 b3
    rw [b2, b3]
    exact ⟨z_nol_nm hw hk (by omega) b1, z_exc_ty hw hk (by omega) hr b1⟩
  have : z_wH (z_ex1 P k i name) (z_nm P) := by
    unfold z_wH
    rw [ho, hct]
    simp only [hh]
    refine ⟨Or.inr rfl, ⟨hown.1, rfl⟩, hn, ⟨hc2, rfl⟩, fun j hj => ?_, ?_⟩
    · have : j = 0 ∨ j = 1 := by omega
      rcases this with rfl | rfl
      · by_cases g : 0 < (z_exc P k i).length
        · rw [if_pos g]
          have a1 : z_exG P k (z_exc P k i) name (z_Ty P k i) (z_exc P k i).length (4 + 0) = (z_g (z_exc P k i) 0).2.1 := by
            show (if 0 < (z_exc P k i).length then _ else _) = _; rw [if_pos g]
          have a2 : z_exG P k (z_exc P k i) name (z_Ty P k i) (z_exc P k i).length (6 + 0) = (z_g (z_exc P k i) 0).2.2 := by
            show (if 0 < (z_exc P k i).length then _ else _) = _; rw [if_pos g]
          rw [a1, a2]; exact hp 0 g
        · rw [if_neg g]
          show (if 0 < (z_exc P k i).length then _ else _) = _; rw [if_neg g]
      · by_cases g : 1 < (z_exc P k i).length
        · rw [if_pos g]
          have a1 : z_exG P k (z_exc P k i) name (z_Ty P k i) (z_exc P k i).length (4 + 1) = (z_g (z_exc P k i) 1).2.1 := by
            show (if 1 < (z_exc P k i).length then _ else _) = _; rw [if_pos g]
          have a2 : z_exG P k (z_exc P k i) name (z_Ty P k i) (z_exc P k i).length (6 + 1) = (z_g (z_exc P k i) 1).2.2 := by
            show (if 1 < (z_exc P k i).length then _ else _) = _; rw [if_pos g]
          rw [a1, a2]; exact hp 1 g
        · rw [if_neg g]
          show (if 1 < (z_exc P k i).length then _ else _) = _; rw [if_neg g]
    · have htk := z_Ty_tk hw hk hr i hi
      have hne := (z_Ty_ok hr hi).2
      rcases htk with g | g | g | g
      · exact absurd g hne
      · exact absurd g hty
      · exact Or.inl g
      · exact Or.inr g
  exact this
theorem z_exQ_hd {k i : Nat} {name : Int32} (j w : Nat) : z_hd (z_exQ P k i name) j w = z_hd (z_ex1 P k i name) j w := by
  show z_hd (z_mix _ _ _ _) j w = _
  rw [z_mix_hd]; split <;> rfl
theorem z_exQ_ok {k i : Nat} (hH : z_exH P k i (z_exc P k i)) {name : Int32} (hn : ∃ n, n < 16 ∧ name = nI n) (h24 : z_nm P < 24) (hty : ¬ z_Ty P k i = -2) (hno : ¬ z_ham P (z_own P k) name (nI (z_exc P k i).length) = true) (hbig : z_big P (z_exD P k i name) (z_nm P) = false) : z_wf (z_exQ P k i name) ∧ z_b60 (z_exQ P k i name) := by
  have hw := hH.1.1
  obtain ⟨hw2, hb2⟩ := z_ex1_wf hH hn h24 hty hno
  have hbd : ∀ j, z_bd (z_exQ P k i name) j = if j < z_nm P ∧ z_liv (z_ex1 P k i name) j = true then z_exD P k i name j else z_bd (z_ex1 P k i name) j := fun j => z_mix_bd
  have hhd := z_exQ_hd (P := P) (k := k) (i := i) (name := name)
  refine ⟨⟨hw2.1, hw2.2.1, hw2.2.2.1, fun k' hk => ?_, fun k' hk => ?_, fun i' j hi hj li lj e2 e3 eo => ?_⟩, fun k' hk => ?_⟩
  · have := hw2.2.2.2.1 k' hk
    unfold z_wH z_own z_cnt at *
    simp only [hhd]
    exact this
  · rw [hbd]
    split
    · next h =>
      have hl := h.2
      rw [z_ex1_liv h.1] at hl
      unfold z_exD
      split
      · next ho => exact (z_exB_wB hH h.1 hl ho.symm hn).1
      · exact hw.2.2.2.2.1 k' h.1
    · exact hw2.2.2.2.2.1 k' hk
  · unfold z_liv at li lj
    unfold z_own at eo
    rw [hhd] at li lj
    simp only [hhd] at e2 e3 eo
    exact hw2.2.2.2.2.2 i' j hi hj li lj e2 e3 eo
  · rw [hbd]
    split
    · next h =>
      have hl := h.2
      rw [z_ex1_liv h.1] at hl
      exact z_big_f hbig h.1 hl
    · exact hb2 k' hk
/-- the new method's head, a parameter more -/
theorem z_exG_3 (P : z_Pg) (k : Nat) (c : z_Lc) (name ty : Int32) (t : Nat) : z_exG P k c name ty t 3 = nI t := rfl
/-- Extractor.takeOut: the new method -/
theorem f31_113_sp (hX : z_XS S) (hp : z_PS S p) (hq : z_PS S q) (lo2 : 242 ≤ q) (hpq : p + 179 ≤ q ∨ q + 179 ≤ p) (hcp : z_cp m p P) (hT : z_LT m p P) (hcq : z_cp m q P) (lo : 242 ≤ p) {k i : Nat} (hH : z_exH P k i (z_exc P k i)) (h24 : z_nm P < 24) {name : Int32} (hlc : z_lc m 45 (z_exc P k i)) : ∃ m1 m6, f74 q (nI (z_own P k)) name (z_Ty P k i) (z_hp S m) = some (nI (z_nm P), z_hp S m1) ∧ f31_113 37 p q (nI k) (nI i) name (z_bi p k) (nI (z_own P k)) (nI (z_nm P)) 0 (z_hp S m1) = f31_188 37 p q (nI k) (nI i) name (nI (z_own P k)) (nI (z_nm P)) 0 0 0 (z_hp S m6) ∧ z_cp m6 q (z_ex1 P k i name) ∧ m6 q 14 = 0 ∧ ∀ a, (a < q ∨ q + 179 ≤ a) → m6 a = m a := by
  have hw := hH.1.1
  have h6 := hw.1.1
  have hk := hH.2.1.1
  have hi := hH.2.2.1
  have hlk := hH.2.1.2
  have hqk := hq.k
  have hpk := hp.k
  have h45k : z_kd S 45 = 4 := hX.k45
  have hc2 := hH.2.2.2.1.2
  have hB := hw.2.2.2.2.1 k hk
  have hl60 := hH.1.2.1 k hk
  have hle := z_en_le hB.1 hi
  have hgt := z_en_gt hi
  have hct : ∀ k, k < z_nm P → z_cnt P k ≤ 2 := fun j hj => (hw.2.2.2.1 j hj).2.2.2.1.1
  have hb0 := hq.B (k := z_nm P) (by omega)
  have hb0k := hb0.k
  have hbp := hp.B (k := k) (by omega)
  obtain ⟨m1, e1, x1, f1, fr1, cb1⟩ := f74_spb (l := []) hq hcq hw (by omega) (nI (z_own P k)) name (z_Ty P k i)
  have x1 : z_cpX m1 q (z_addM P (z_exG P k (z_exc P k i) name (z_Ty P k i) 0) []) (z_nm P) := z_cpX_H x1 (fun w a b => by
    unfold z_exG z_hdr
    by_cases g0 : w = 0
    · rw [g0]; rfl
    · by_cases g1 : w = 1
      · rw [g1]; rfl
      · by_cases g2 : w = 2
        · rw [g2]; rfl
        · by_cases g3 : w = 3
          · rw [g3]; rfl
          · simp only [if_neg g0, if_neg g1, if_neg g2, if_neg g3, if_neg a, if_neg b, Nat.lt_irrefl, Nat.not_lt_zero, if_false]) (fun j hj => absurd hj (Nat.not_lt_zero j))
  have cp1 := z_cpX_b x1 cb1
  have hcap : ∀ t, t ≤ 2 → ∀ k', k' < z_nm P + 1 → z_cnt (z_addM P (z_exG P k (z_exc P k i) name (z_Ty P k i) t) []) k' ≤ 2 := fun t ht => z_addM_ct hct (by rw [z_exG_3, nI_clamp (by omega)]; exact ht)
  have key := z_loopT (f := fun s => f31_113b (s.1) (s.2.1) (s.2.2.1) (s.2.2.2.1) (s.2.2.2.2.1) (s.2.2.2.2.2.1) (s.2.2.2.2.2.2.1) (s.2.2.2.2.2.2.2.1) (s.2.2.2.2.2.2.2.2.1) (s.2.2.2.2.2.2.2.2.2)) (S := S) (fun N st m' => ∃ t, N = (z_exc P k i).length - t ∧ t ≤ (z_exc P k i).length ∧ st = (37, p, q, nI k, nI i, name, z_bi p k, nI (z_own P k), nI (z_nm P), nI t) ∧ z_cp m' q (z_addM P (z_exG P k (z_exc P k i) name (z_Ty P k i) t) []) ∧ z_cb m' (z_bi q (z_nm P)) 60 [] ∧ m' q 14 = 0 ∧ ∀ a, (a < q ∨ q + 179 ≤ a) → m' a = m a) (fun X m' => X = f31_157 37 p q (nI k) (nI i) name (z_bi p k) (nI (z_own P k)) (nI (z_nm P)) ∧ z_cp m' q (z_addM P (z_exG P k (z_exc P k i) name (z_Ty P k i) (z_exc P k i).length) []) ∧ z_cb m' (z_bi q (z_nm P)) 60 [] ∧ m' q 14 = 0 ∧ ∀ a, (a < q ∨ q + 179 ≤ a) → m' a = m a) ?_ 1000000 (z_exc P k i).length (37, p, q, nI k, nI i, name, z_bi p k, nI (z_own P k), nI (z_nm P), 0) m1 ⟨0, rfl, Nat.zero_le _, rfl, cp1, cb1, f1, fr1⟩ (by omega)
  · obtain ⟨X, m2, e, rfl, g1, g2, g3, g4⟩ := key
    have hcp2 : z_cp m2 p P := z_cp_fr3 hw (fun a x1 x2 => g4 a (by omega)) hcp
    have hT2 : z_LT m2 p P := z_LT_fr hw (fun a x1 x2 => g4 a (by omega)) hT
    have hend : m2 (z_bi p k + 4) i = nI (z_en (z_bd P k) i) := (hT2 k hk hlk).1 _ hi
    obtain ⟨m6, e6, cb6, F6⟩ := f6_sp hb0 g2 (show z_bb (z_bi q (z_nm P)) (z_bi p k) by unfold z_bb z_bi; omega) hbp (hcp2.2.2.2 k hk hlk) (Nat.le_of_lt hgt) hle (by show 0 + _ ≤ 60; omega)
    rw [List.nil_append] at cb6
    refine ⟨m1, m6, e1, ?_, ?_, ?_, fun a ha => ?_⟩
    · have e : f31_113 37 p q (nI k) (nI i) name (z_bi p k) (nI (z_own P k)) (nI (z_nm P)) 0 (z_hp S m1) = f31_157 37 p q (nI k) (nI i) name (z_bi p k) (nI (z_own P k)) (nI (z_nm P)) (z_hp S m2) := e
      rw [e]
      unfold f31_157
      simp (disch := ((try simp only [true_or, or_true, hq.k, hq.k1, hq.k2, hq.k3, hq.k4, hq.k5, hq.k6, hq.k7, hq.k8, hq.k9, hq.k10, hq.l1, hq.l2, hq.l3, hq.l4, hq.l5, hq.l6, hq.l7, hq.l8, hq.l9, hq.l10, hbp.k, hbp.k1, hbp.k2, hbp.k3, hbp.k4, hbp.k5, hbp.k6, hbp.l1, hbp.l2, hbp.l3, hbp.l4, hbp.l5, hbp.l6, hb0k]) <;> (try omega))) only [↓reduceIte, ↓z_ite, ↓zR, ↓zB_R, ↓zB_B, ↓zB_ite, ↓zB_gI, ↓zB_pI, ↓zB_pZ, ↓zB_aK, ↓zB_G, ↓zB_lI, ↓zB_lZ, ↓zB_wI, ↓zB_wZ, ↓zB_lIl, ↓zB_wIl, zB_pI, zB_pZ, zB_lI, zB_lZ, zB_wI, zB_wZ, z_addl, z_ladd, z_mull, z_lmul, nI_add, z_subl, Nat.not_lt_zero, z_10, z_01, z_bitc, z_b0, z_b1, ↓zB_Gb, ↓zB_G0, ↓zB_G1, z_eql, z_leq, z_ltl, z_llt, z_eq, z_lt, z_m1lt, hq.k, hq.k1, hq.k2, hq.k3, hq.k4, hq.k5, hq.k6, hq.k7, hq.k8, hq.k9, hq.k10, hq.l1, hq.l2, hq.l3, hq.l4, hq.l5, hq.l6, hq.l7, hq.l8, hq.l9, hq.l10, hbp.k, hbp.k1, hbp.k2, hbp.k3, hbp.k4, hbp.k5, hbp.k6, hbp.l1, hbp.l2, hbp.l3, hbp.l4, hbp.l5, hbp.l6, hb0k, ↓hq.g0, ↓hq.g1, ↓hq.g2, ↓hq.g3, ↓hq.g4, ↓hq.g5, ↓hq.g6, ↓hq.g7, ↓hq.g8, ↓hq.g9, ↓hq.gb, hq.gb, ↓hbp.g0, ↓hbp.g1, ↓hbp.g2, ↓hbp.g3, ↓hbp.g4, ↓hbp.g5, h24, hi, hend, ↓zB_c e6, zB_c e6]
    · exact z_addM_body g1 (hcap _ hc2) h24 rfl F6 cb6
    · rw [F6.at (by unfold z_bi; omega)]; exact g3
    · rw [F6.at (by unfold z_bi; omega)]; exact g4 a ha
  · rintro N st m2 ⟨t, rfl, htl, rfl, g1, g2, g3, g4⟩
    have hlc2 : z_lc m2 45 (z_exc P k i) := z_lc_fr (fun a x1 x2 => g4 a (by omega)) hlc
    obtain ⟨c3, _, cr⟩ := hlc2
    dsimp only
    rcases Nat.eq_or_lt_of_le htl with ht2 | ht2
    · refine Or.inr ⟨_, m2, ?_, rfl, by rw [ht2] at g1; exact g1, g2, g3, g4⟩
      unfold f31_113b
      rw [ht2]
      simp (disch := ((try simp only [true_or, or_true, hX.k37, h45k]) <;> (try omega))) only [↓reduceIte, ↓z_ite, ↓zR, ↓zB_R, ↓zB_B, ↓zB_ite, ↓zB_gI, ↓zB_pI, ↓zB_pZ, ↓zB_aK, ↓zB_G, ↓zB_lI, ↓zB_lZ, ↓zB_wI, ↓zB_wZ, ↓zB_lIl, ↓zB_wIl, zB_pI, zB_pZ, zB_lI, zB_lZ, zB_wI, zB_wZ, z_addl, z_ladd, z_mull, z_lmul, nI_add, z_subl, Nat.not_lt_zero, z_10, z_01, z_bitc, z_b0, z_b1, ↓zB_Gb, ↓zB_G0, ↓zB_G1, z_eql, z_leq, z_ltl, z_llt, z_eq, z_lt, z_m1lt, hX.k37, h45k, ↓hX.g37_0, ↓hX.g37_1, ↓hX.g37_2, c3, Nat.lt_irrefl]
    · have ht3 : t < 3 := by omega
      obtain ⟨_, cn, ct⟩ := cr t ht2
      have cn : m2 47 t = (z_g (z_exc P k i) t).2.1 := cn
      have ct : m2 48 t = (z_g (z_exc P k i) t).2.2 := ct
      have hh : ∀ w, z_hd (z_addM P (z_exG P k (z_exc P k i) name (z_Ty P k i) t) []) (z_nm P) w = z_exG P k (z_exc P k i) name (z_Ty P k i) t w := fun w => z_addM_hd_s w
      have t01 : t = 0 ∨ t = 1 := by omega
      obtain ⟨m4, e4, cp4, fr4⟩ := f75_gen (k := z_nm P) (j := t) (a := (z_g (z_exc P k i) t).2.1) (t := (z_g (z_exc P k i) t).2.2) (H' := z_exG P k (z_exc P k i) name (z_Ty P k i) (t + 1)) hq g1 (show z_nm P + 1 ≤ 24 by omega) (hcap t (by omega)) (Nat.lt_succ_self _) (by unfold z_liv; rw [hh]; rfl) (by omega) (by rw [hh, z_exG_3]) rfl (by rw [hh]; rfl) (by rw [hh]; rfl) (z_exG_3 _ _ _ _ _ _) (by rw [hh]; rfl) (by rcases t01 with rfl | rfl <;> rfl) (fun i' hi' hne => by
        rw [hh]
        rcases t01 with rfl | rfl
        · obtain rfl : i' = 1 := by omega
          rfl
        · obtain rfl : i' = 0 := by omega
          rfl) (by rcases t01 with rfl | rfl <;> rfl) (fun i' hi' => by
        rw [hh]
        rcases t01 with rfl | rfl
        · exact absurd hi' (Nat.not_lt_zero _)
        · obtain rfl : i' = 0 := by omega
          rfl)
      have cp4 : z_cp m4 q (z_addM P (z_exG P k (z_exc P k i) name (z_Ty P k i) (t + 1)) []) := by
        have := cp4
        rw [z_sM_addM, z_addM_bd_s] at this
        exact this
      refine Or.inl ⟨_, m4, (z_exc P k i).length - (t + 1), ?_, by omega, t + 1, rfl, by omega, rfl, cp4, z_cb_fr (fun a x1 x2 => fr4 a (by unfold z_bi at x1; omega) (by unfold z_bi at x1; omega) (by unfold z_bi at x1; omega)) g2, by rw [fr4 q (by omega) (by omega) (by omega)]; exact g3, fun a ha => by rw [fr4 a (by omega) (by omega) (by omega)]; exact g4 a ha⟩
      unfold f31_113b
      simp (disch := ((try simp only [true_or, or_true, hX.k37, hX.k45, hX.k46, hX.k47, hX.k48, hX.l46, hX.l47, hX.l48, h45k, hqk]) <;> (try omega))) only [↓reduceIte, ↓z_ite, ↓zR, ↓zB_R, ↓zB_B, ↓zB_ite, ↓zB_gI, ↓zB_pI, ↓zB_pZ, ↓zB_aK, ↓zB_G, ↓zB_lI, ↓zB_lZ, ↓zB_wI, ↓zB_wZ, ↓zB_lIl, ↓zB_wIl, zB_pI, zB_pZ, zB_lI, zB_lZ, zB_wI, zB_wZ, z_addl, z_ladd, z_mull, z_lmul, nI_add, z_subl, Nat.not_lt_zero, z_10, z_01, z_bitc, z_b0, z_b1, ↓zB_Gb, ↓zB_G0, ↓zB_G1, z_eql, z_leq, z_ltl, z_llt, z_eq, z_lt, z_m1lt, hX.k37, hX.k45, hX.k46, hX.k47, hX.k48, hX.l46, hX.l47, hX.l48, h45k, hqk, ↓hX.g37_0, ↓hX.g37_1, ↓hX.g37_2, ↓hX.g45_0, ↓hX.g45_1, ↓hX.g45_2, c3, ht2, ht3, cn, ct, ↓zB_c e4, zB_c e4]
end
