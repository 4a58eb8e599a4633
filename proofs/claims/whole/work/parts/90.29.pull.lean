-- deps: 90.27.mrm 90.28.tell
/-! a method pulled up -/
/-- a word of a head -/
def z_hset (H : Nat → Int32) (w0 : Nat) (v : Int32) : Nat → Int32 := fun w => if w = w0 then v else H w
theorem z_hset_s {H : Nat → Int32} {w : Nat} {v : Int32} : z_hset H w v w = v := if_pos rfl
theorem z_hset_o {H : Nat → Int32} {w w' : Nat} {v : Int32} (h : w' ≠ w) : z_hset H w v w' = H w' := if_neg h
theorem z_wHf_own {P : z_Pg} {H : Nat → Int32} {d : Nat} (h : z_wHf P H) (hd : d < z_nc P) (h6 : z_nc P ≤ 6) : z_wHf P (z_hset H 1 (nI d)) := by
  obtain ⟨a, b, c, e, f, g⟩ := h
  unfold z_wHf
  rw [z_hset_o (show 0 ≠ 1 by decide), z_hset_s, z_hset_o (show 2 ≠ 1 by decide), z_hset_o (show 3 ≠ 1 by decide), z_hset_o (show 8 ≠ 1 by decide), nI_clamp (by omega)]
  refine ⟨a, ⟨hd, rfl⟩, c, e, fun i hi => ?_, g⟩
  rw [z_hset_o (show 4 + i ≠ 1 by omega), z_hset_o (show 6 + i ≠ 1 by omega)]
  exact f i hi
noncomputable def z_puQ (P : z_Pg) (k : Nat) : z_Pg := z_sM P k (z_hset (z_hd P k) 1 (z_par P (z_own P k))) (z_bd P k)
noncomputable def z_puR (P : z_Pg) (k : Nat) : Int32 := if z_par P (z_own P k) = -1 then -10 else match z_fm P (z_par P (z_own P k)).toNatClampNeg (z_hd P k 2) (z_hd P k 3) with
  | some q => if nI (z_own P q) = z_par P (z_own P k) then -1 else -11
  | none => if z_wr (z_puQ P k) = -1 then z_par P (z_own P k) else -8
section
variable {S : z_S} {m : z_m} {p q : Nat} {P : z_Pg} {A : z_A}
theorem z_sM_cnt {k j : Nat} {H : Nat → Int32} {l : List z_N} (h : k ≠ j) : z_cnt (z_sM P j H l) k = z_cnt P k := by unfold z_cnt; rw [z_sM_hd_o h]
/-- one method changed: as it should be -/
theorem z_sM_wf (hw : z_wf P) {k : Nat} (hk : k < z_nm P) {H : Nat → Int32} {l : List z_N} (hH : z_wHf P H) (hl : z_wB (z_nc P) l) (hu : H 0 = 1 → ∀ j, j < z_nm P → j ≠ k → z_liv P j = true → z_hd P j 2 = H 2 → z_hd P j 3 = H 3 → z_own P j = (H 1).toNatClampNeg → False) : z_wf (z_sM P k H l) := by
  refine ⟨hw.1, hw.2.1, hw.2.2.1, fun j hj => ?_, fun j hj => ?_, fun i j hi hj li lj e2 e3 eo => ?_⟩
  · have hj : j < z_nm P := hj
    by_cases g : j = k
    · subst g
      unfold z_wH z_own z_cnt
      simp only [z_sM_hd_s]
      exact hH
    · have := hw.2.2.2.1 j hj
      unfold z_wH z_own z_cnt at *
      simp only [z_sM_hd_o g]
      exact this
  · have hj : j < z_nm P := hj
    by_cases g : j = k
    · rw [g, z_sM_bd_s]; exact hl
    · rw [z_sM_bd_o g]; exact hw.2.2.2.2.1 j hj
  · have hi : i < z_nm P := hi
    have hj : j < z_nm P := hj
    by_cases gi : i = k
    · by_cases gj : j = k
      · rw [gi, gj]
      · exfalso
        subst gi
        have l1 : H 0 = 1 := by unfold z_liv at li; rw [z_sM_hd_s] at li; simpa using li
        rw [z_sM_liv_o gj] at lj
        unfold z_own at eo
        rw [z_sM_hd_s, z_sM_hd_o gj] at e2 e3 eo
        exact hu l1 j hj gj lj e2.symm e3.symm eo.symm
    · by_cases gj : j = k
      · exfalso
        subst gj
        have l1 : H 0 = 1 := by unfold z_liv at lj; rw [z_sM_hd_s] at lj; simpa using lj
        rw [z_sM_liv_o gi] at li
        unfold z_own at eo
        rw [z_sM_hd_s, z_sM_hd_o gi] at e2 e3 eo
        exact hu l1 i hi gi li e2 e3 eo
      · rw [z_sM_liv_o gi] at li
        rw [z_sM_liv_o gj] at lj
        unfold z_own at eo
        rw [z_sM_hd_o gi, z_sM_hd_o gj] at e2 e3 eo
        exact hw.2.2.2.2.2 i j hi hj li lj e2 e3 eo
theorem z_sM_b60 (h60 : z_b60 P) {k : Nat} {H : Nat → Int32} {l : List z_N} (hl : l.length ≤ 60) : z_b60 (z_sM P k H l) := fun j hj => by
  have hj : j < z_nm P := hj
  by_cases g : j = k
  · rw [g, z_sM_bd_s]; exact hl
  · rw [z_sM_bd_o g]; exact h60 j hj
theorem z_puQ_wf (hw : z_wf P) {k d : Nat} (hk : k < z_nm P) (hl : z_liv P k = true) (hd : z_par P (z_own P k) = nI d) (hdn : d < z_nc P) (hno : z_fm P d (z_hd P k 2) (z_hd P k 3) = none) : z_wf (z_puQ P k) := by
  have h6 := hw.1.1
  unfold z_puQ
  rw [hd]
  refine z_sM_wf hw hk (z_wHf_own (z_wHf_of (hw.2.2.2.1 k hk)) hdn h6) (hw.2.2.2.2.1 k hk) (fun _ j hj hne lj e2 e3 eo => ?_)
  rw [z_hset_o (by decide)] at e2 e3
  rw [z_hset_s, nI_clamp (by omega)] at eo
  have := (z_fm_none hw hdn).mp hno j hj (by unfold z_isc; rw [lj, e2, e3]; simp)
  rw [eo, z_blw_refl] at this; cases this
/-- what is above a class -/
theorem z_par_of (hw : z_wf P) {k : Nat} (hk : k < z_nm P) : z_par P (z_own P k) = -1 ∨ ∃ d, d < z_nc P ∧ z_par P (z_own P k) = nI d := by
  have ho := (z_own_e hw hk).1
  rcases hw.1.2 _ ho with g | ⟨d, h1, h2⟩
  · exact Or.inl g
  · exact Or.inr ⟨d, by omega, h2⟩
/-- Mover.moveUp -/
theorem f60_sp (hpre : z_Pre S m p q P) (hw : z_wf P) {k : Nat} (hk : k < z_nm P) (hl : z_liv P k = true) : ∃ m', f60 61 p q (nI k) (z_hp S m) = some (z_puR P k, z_hp S m') ∧ z_Post m m' q (z_puR P k) (z_puQ P k) := by
  obtain ⟨⟨hX, hp, hq⟩, ⟨lo, lo2, hpq⟩, ⟨hcp, hT⟩, ⟨hcq, h14⟩, hsh⟩ := hpre
  have h24 := hw.2.2.1
  have h6 := hw.1.1
  have hpk := hp.k
  have ho := z_own_e hw hk
  obtain ⟨q1, q2, q3, q4, q5, q6⟩ := hcp.2.1.2.2 k hk hl
  rw [ho.2] at q1
  have epar := (hcp.1.2 _ ho.1).1
  have stay : ∀ r, r < 0 → f60 61 p q (nI k) (z_hp S m) = some (r, z_hp S m) → z_puR P k = r → ∃ m', f60 61 p q (nI k) (z_hp S m) = some (z_puR P k, z_hp S m') ∧ z_Post m m' q (z_puR P k) (z_puQ P k) := fun r hr e er => by
    rw [er]
    exact ⟨m, e, fun g => absurd hr g, hcq.2.2.1, z_oF.refl q m⟩
  rcases z_par_of hw hk with g | ⟨d, hdn, hd⟩
  · refine stay (-10) (by decide) ?_ (if_pos g)
    unfold f60
    rw [g] at epar
    simp (disch := ((try simp only [true_or, or_true, hp.k, hp.k1, hp.k2, hp.k3, hp.k4, hp.k5, hp.k6, hp.k7, hp.k8, hp.k9, hp.k10, hp.l1, hp.l2, hp.l3, hp.l4, hp.l5, hp.l6, hp.l7, hp.l8, hp.l9, hp.l10]) <;> (try omega))) only [↓reduceIte, ↓z_ite, ↓zR, ↓zB_R, ↓zB_B, ↓zB_ite, ↓zB_gI, ↓zB_pI, ↓zB_pZ, ↓zB_aK, ↓zB_G, ↓zB_lI, ↓zB_lZ, ↓zB_wI, ↓zB_wZ, ↓zB_lIl, ↓zB_wIl, zB_pI, zB_pZ, zB_lI, zB_lZ, zB_wI, zB_wZ, z_addl, z_ladd, z_mull, z_lmul, nI_add, z_subl, Nat.not_lt_zero, z_10, z_01, z_bitc, z_b0, z_b1, ↓zB_Gb, ↓zB_G0, ↓zB_G1, z_eql, z_leq, z_ltl, z_llt, z_eq, z_lt, z_m1lt, hp.k, hp.k1, hp.k2, hp.k3, hp.k4, hp.k5, hp.k6, hp.k7, hp.k8, hp.k9, hp.k10, hp.l1, hp.l2, hp.l3, hp.l4, hp.l5, hp.l6, hp.l7, hp.l8, hp.l9, hp.l10, ↓hp.g0, ↓hp.g1, ↓hp.g2, ↓hp.g3, ↓hp.g4, ↓hp.g5, ↓hp.g6, ↓hp.g7, ↓hp.g8, ↓hp.g9, ↓hp.gb, hp.gb, h24, hk, q1, epar]
  · have gd : ¬ nI d = -1 := z_nI_m1 (by omega)
    rw [hd] at epar
    have e90 := f90_sp hp hcp hw hdn (z_hd P k 2) (z_hd P k 3)
    have er : z_puR P k = match z_fm P d (z_hd P k 2) (z_hd P k 3) with
      | some q => if nI (z_own P q) = nI d then -1 else -11
      | none => if z_wr (z_puQ P k) = -1 then nI d else -8 := by
      unfold z_puR
      rw [hd, if_neg gd, nI_clamp (by omega)]
    cases hf : z_fm P d (z_hd P k 2) (z_hd P k 3) with
    | some j =>
      rw [hf] at er e90
      obtain ⟨f1, f2, f3, _⟩ := (z_fm_some hw hdn).mp hf
      have oj := z_own_e hw f1
      have qj := (hcp.2.1.2.2 j f1 (z_isc_liv f2)).1
      rw [oj.2] at qj
      have gj : ¬ nI j = -1 := z_nI_m1 (by omega)
      by_cases g2 : z_own P j = d
      · refine stay (-1) (by decide) ?_ (er.trans (if_pos (by rw [g2])))
        unfold f60 f60_66
        simp (disch := ((try simp only [true_or, or_true, hp.k, hp.k1, hp.k2, hp.k3, hp.k4, hp.k5, hp.k6, hp.k7, hp.k8, hp.k9, hp.k10, hp.l1, hp.l2, hp.l3, hp.l4, hp.l5, hp.l6, hp.l7, hp.l8, hp.l9, hp.l10, hpk]) <;> (try omega))) only [↓reduceIte, ↓z_ite, ↓zR, ↓zB_R, ↓zB_B, ↓zB_ite, ↓zB_gI, ↓zB_pI, ↓zB_pZ, ↓zB_aK, ↓zB_G, ↓zB_lI, ↓zB_lZ, ↓zB_wI, ↓zB_wZ, ↓zB_lIl, ↓zB_wIl, zB_pI, zB_pZ, zB_lI, zB_lZ, zB_wI, zB_wZ, z_addl, z_ladd, z_mull, z_lmul, nI_add, z_subl, Nat.not_lt_zero, z_10, z_01, z_bitc, z_b0, z_b1, ↓zB_Gb, ↓zB_G0, ↓zB_G1, z_eql, z_leq, z_ltl, z_llt, z_eq, z_lt, z_m1lt, hp.k, hp.k1, hp.k2, hp.k3, hp.k4, hp.k5, hp.k6, hp.k7, hp.k8, hp.k9, hp.k10, hp.l1, hp.l2, hp.l3, hp.l4, hp.l5, hp.l6, hp.l7, hp.l8, hp.l9, hp.l10, hpk, ↓hp.g0, ↓hp.g1, ↓hp.g2, ↓hp.g3, ↓hp.g4, ↓hp.g5, ↓hp.g6, ↓hp.g7, ↓hp.g8, ↓hp.g9, ↓hp.gb, hp.gb, h24, hk, q1, epar, gd, q2, q3, ↓zB_c e90, zB_c e90, z_oI, gj, f1, qj, g2, ho.1, show z_own P k < 6 from by omega]
      · have g3 : ¬ nI (z_own P j) = nI d := fun e => g2 ((nI_eq (by have := oj.1; omega) (by omega)).mp e)
        refine stay (-11) (by decide) ?_ (er.trans (if_neg g3))
        unfold f60 f60_66
        simp (disch := ((try simp only [true_or, or_true, hp.k, hp.k1, hp.k2, hp.k3, hp.k4, hp.k5, hp.k6, hp.k7, hp.k8, hp.k9, hp.k10, hp.l1, hp.l2, hp.l3, hp.l4, hp.l5, hp.l6, hp.l7, hp.l8, hp.l9, hp.l10, hpk]) <;> (try omega))) only [↓reduceIte, ↓z_ite, ↓zR, ↓zB_R, ↓zB_B, ↓zB_ite, ↓zB_gI, ↓zB_pI, ↓zB_pZ, ↓zB_aK, ↓zB_G, ↓zB_lI, ↓zB_lZ, ↓zB_wI, ↓zB_wZ, ↓zB_lIl, ↓zB_wIl, zB_pI, zB_pZ, zB_lI, zB_lZ, zB_wI, zB_wZ, z_addl, z_ladd, z_mull, z_lmul, nI_add, z_subl, Nat.not_lt_zero, z_10, z_01, z_bitc, z_b0, z_b1, ↓zB_Gb, ↓zB_G0, ↓zB_G1, z_eql, z_leq, z_ltl, z_llt, z_eq, z_lt, z_m1lt, hp.k, hp.k1, hp.k2, hp.k3, hp.k4, hp.k5, hp.k6, hp.k7, hp.k8, hp.k9, hp.k10, hp.l1, hp.l2, hp.l3, hp.l4, hp.l5, hp.l6, hp.l7, hp.l8, hp.l9, hp.l10, hpk, ↓hp.g0, ↓hp.g1, ↓hp.g2, ↓hp.g3, ↓hp.g4, ↓hp.g5, ↓hp.g6, ↓hp.g7, ↓hp.g8, ↓hp.g9, ↓hp.gb, hp.gb, h24, hk, q1, epar, gd, q2, q3, ↓zB_c e90, zB_c e90, z_oI, gj, f1, qj, g3, ho.1, show z_own P k < 6 from by omega]
    | none =>
      rw [hf] at er e90
      have hwQ := z_puQ_wf hw hk hl hd hdn hf
      have hh := z_h1_of hcq hk hl
      have hcq2 : z_cp (z_up m (q + 4) k (nI d)) q (z_puQ P k) := by
        refine z_cp_sM hcq (fun j hj => (hw.2.2.2.1 j hj).2.2.2.1.1) hk hl ⟨z_up_row (by omega), z_up_row (by omega), z_up_row (by omega), z_up_row (by omega), fun j hj => ⟨by rw [z_up_b hj], by rw [z_up_row (by omega)], by rw [z_up_row (by omega)], by rw [z_up_row (by omega)], fun i hi => ⟨by rw [z_up_row (by omega)], by rw [z_up_row (by omega)]⟩⟩⟩ (by rw [z_hset_o (by decide)]; simpa [z_liv] using hl) ?_ (fun j hj => by rw [z_up_row (by unfold z_bi; omega)]; exact hcq.2.2.1 j hj) (fun j hj hne a x1 x2 => z_up_row (by unfold z_bi at x1; omega)) (z_cb_fr (fun a x1 x2 => z_up_row (by unfold z_bi at x1; omega)) (hcq.2.2.2 k hk hl))
        obtain ⟨r1, r2, r3, r4, r5, r6⟩ := hh
        refine ⟨?_, ?_, ?_, ?_, fun i hi => ?_, fun i hi => ?_⟩
        · rw [z_up_s, z_hset_s, hd]
        · rw [z_up_row (by omega), z_hset_o (by decide)]; exact r2
        · rw [z_up_row (by omega), z_hset_o (by decide)]; exact r3
        · rw [z_up_row (by omega), z_hset_o (by decide)]; exact r4
        · rw [z_up_row (by omega), z_hset_o (by omega)]; exact r5 i hi
        · rw [z_hset_o (by decide)] at hi
          rw [z_up_row (by omega), z_hset_o (by omega)]; exact r6 i hi
      have h14' : z_up m (q + 4) k (nI d) q 14 = 0 := by rw [z_up_a (by omega)]; exact h14
      obtain ⟨m', e21, c1, f14, kn, fr⟩ := f21_sp (S := S) hX hq (by omega) hcq2 hwQ ⟨Or.inl h14', fun g => by rw [h14'] at g; exact absurd g (by decide)⟩
      have hqk := hq.k
      have run : ∀ r, (if z_wr (z_puQ P k) = -1 then nI d else -8) = r → f60 61 p q (nI k) (z_hp S m) = some (r, z_hp S m') := by
        intro r hr
        rw [← hr]
        unfold f60 f60_93
        by_cases g : z_wr (z_puQ P k) = -1
        · rw [g] at e21
          rw [if_pos g]
          simp (disch := ((try simp only [true_or, or_true, hp.k, hp.k1, hp.k2, hp.k3, hp.k4, hp.k5, hp.k6, hp.k7, hp.k8, hp.k9, hp.k10, hp.l1, hp.l2, hp.l3, hp.l4, hp.l5, hp.l6, hp.l7, hp.l8, hp.l9, hp.l10, hq.k, hq.k1, hq.k2, hq.k3, hq.k4, hq.k5, hq.k6, hq.k7, hq.k8, hq.k9, hq.k10, hq.l1, hq.l2, hq.l3, hq.l4, hq.l5, hq.l6, hq.l7, hq.l8, hq.l9, hq.l10, hX.k61, hX.k8, hX.k9, hX.l9, hpk, hqk]) <;> (try omega))) only [↓reduceIte, ↓z_ite, ↓zR, ↓zB_R, ↓zB_B, ↓zB_ite, ↓zB_gI, ↓zB_pI, ↓zB_pZ, ↓zB_aK, ↓zB_G, ↓zB_lI, ↓zB_lZ, ↓zB_wI, ↓zB_wZ, ↓zB_lIl, ↓zB_wIl, zB_pI, zB_pZ, zB_lI, zB_lZ, zB_wI, zB_wZ, z_addl, z_ladd, z_mull, z_lmul, nI_add, z_subl, Nat.not_lt_zero, z_10, z_01, z_bitc, z_b0, z_b1, ↓zB_Gb, ↓zB_G0, ↓zB_G1, z_eql, z_leq, z_ltl, z_llt, z_eq, z_lt, z_m1lt, hp.k, hp.k1, hp.k2, hp.k3, hp.k4, hp.k5, hp.k6, hp.k7, hp.k8, hp.k9, hp.k10, hp.l1, hp.l2, hp.l3, hp.l4, hp.l5, hp.l6, hp.l7, hp.l8, hp.l9, hp.l10, hq.k, hq.k1, hq.k2, hq.k3, hq.k4, hq.k5, hq.k6, hq.k7, hq.k8, hq.k9, hq.k10, hq.l1, hq.l2, hq.l3, hq.l4, hq.l5, hq.l6, hq.l7, hq.l8, hq.l9, hq.l10, hX.k61, hX.k8, hX.k9, hX.l9, hpk, hqk, ↓hp.g0, ↓hp.g1, ↓hp.g2, ↓hp.g3, ↓hp.g4, ↓hp.g5, ↓hp.g6, ↓hp.g7, ↓hp.g8, ↓hp.g9, ↓hp.gb, hp.gb, ↓hq.g0, ↓hq.g1, ↓hq.g2, ↓hq.g3, ↓hq.g4, ↓hq.g5, ↓hq.g6, ↓hq.g7, ↓hq.g8, ↓hq.g9, ↓hq.gb, hq.gb, ↓hX.g8_0, ↓hX.g61_0, h24, hk, q1, epar, gd, q2, q3, ↓zB_c e90, zB_c e90, z_oI, ho.1, show z_own P k < 6 from by omega, ↓zB_c e21, zB_c e21, show ((-1 : Int32) == -1) = true from rfl, Bool.true_eq_false]
        · have gb : (z_wr (z_puQ P k) == -1) = false := by simpa using g
          rw [gb] at e21
          rw [if_neg g]
          simp (disch := ((try simp only [true_or, or_true, hp.k, hp.k1, hp.k2, hp.k3, hp.k4, hp.k5, hp.k6, hp.k7, hp.k8, hp.k9, hp.k10, hp.l1, hp.l2, hp.l3, hp.l4, hp.l5, hp.l6, hp.l7, hp.l8, hp.l9, hp.l10, hq.k, hq.k1, hq.k2, hq.k3, hq.k4, hq.k5, hq.k6, hq.k7, hq.k8, hq.k9, hq.k10, hq.l1, hq.l2, hq.l3, hq.l4, hq.l5, hq.l6, hq.l7, hq.l8, hq.l9, hq.l10, hX.k61, hX.k8, hX.k9, hX.l9, hpk, hqk]) <;> (try omega))) only [↓reduceIte, ↓z_ite, ↓zR, ↓zB_R, ↓zB_B, ↓zB_ite, ↓zB_gI, ↓zB_pI, ↓zB_pZ, ↓zB_aK, ↓zB_G, ↓zB_lI, ↓zB_lZ, ↓zB_wI, ↓zB_wZ, ↓zB_lIl, ↓zB_wIl, zB_pI, zB_pZ, zB_lI, zB_lZ, zB_wI, zB_wZ, z_addl, z_ladd, z_mull, z_lmul, nI_add, z_subl, Nat.not_lt_zero, z_10, z_01, z_bitc, z_b0, z_b1, ↓zB_Gb, ↓zB_G0, ↓zB_G1, z_eql, z_leq, z_ltl, z_llt, z_eq, z_lt, z_m1lt, hp.k, hp.k1, hp.k2, hp.k3, hp.k4, hp.k5, hp.k6, hp.k7, hp.k8, hp.k9, hp.k10, hp.l1, hp.l2, hp.l3, hp.l4, hp.l5, hp.l6, hp.l7, hp.l8, hp.l9, hp.l10, hq.k, hq.k1, hq.k2, hq.k3, hq.k4, hq.k5, hq.k6, hq.k7, hq.k8, hq.k9, hq.k10, hq.l1, hq.l2, hq.l3, hq.l4, hq.l5, hq.l6, hq.l7, hq.l8, hq.l9, hq.l10, hX.k61, hX.k8, hX.k9, hX.l9, hpk, hqk, ↓hp.g0, ↓hp.g1, ↓hp.g2, ↓hp.g3, ↓hp.g4, ↓hp.g5, ↓hp.g6, ↓hp.g7, ↓hp.g8, ↓hp.g9, ↓hp.gb, hp.gb, ↓hq.g0, ↓hq.g1, ↓hq.g2, ↓hq.g3, ↓hq.g4, ↓hq.g5, ↓hq.g6, ↓hq.g7, ↓hq.g8, ↓hq.g9, ↓hq.gb, hq.gb, ↓hX.g8_0, ↓hX.g61_0, h24, hk, q1, epar, gd, q2, q3, ↓zB_c e90, zB_c e90, z_oI, ho.1, show z_own P k < 6 from by omega, ↓zB_c e21, zB_c e21]
      have fr2 : ∀ a, a ≠ 9 → (a < q ∨ q + 179 ≤ a) → m' a = m a := fun a x1 x2 => by rw [fr a x1 x2, z_up_row (by omega)]
      refine ⟨m', run _ er.symm, fun _ => ⟨c1, kn⟩, c1.2.2.1, fun a x1 _ x3 => fr2 a x1 x3, by rw [fr2 22 (by decide) (by omega)], by rw [fr2 30 (by decide) (by omega)], by rw [fr2 38 (by decide) (by omega)], by rw [fr2 54 (by decide) (by omega)]⟩
noncomputable def z_opull (A : z_A) (k : Int32) : (Int32 ⊕ Nat) × z_A :=
  if z_hm A.2.1 k = false then (.inr 2, A)
  else if z_wr A.2.1 = -1 then z_rf A (z_puR A.2.1 k.toNatClampNeg) (z_puQ A.2.1 k.toNatClampNeg)
  else (.inr 0, A)
theorem c_pull (hw : z_WA A) (h : z_CR S m A) (k : Int32) : ∃ S1 m1, f147 0 k (z_hp S m) = some ((z_opull A k).1, z_hp S1 m1) ∧ z_CR S1 m1 (z_opull A k).2 ∧ z_SS S S1 ∧ ∀ a, 2390 ≤ a → m1 a = m a := by
  have h0 := h
  obtain ⟨sn, sx, sp, hI, hCM⟩ := h0
  have hX := hI.1
  have hp := hI.2.2.1 sn hI.2.2.2.1.1
  have hn := hI.2.2.2.2.2.1
  have hc := hCM.2.2.1.1.1
  have hwf := hw.2.1.1
  have h24 := hwf.2.2.1
  unfold z_opull
  by_cases g1 : z_hm A.2.1 k = false
  · rw [if_pos g1]
    refine ⟨z_Sx S, m, ?_, z_CR_x h, z_SS.x S, fun _ _ => rfl⟩
    unfold f147
    simp (disch := ((try simp only [true_or, or_true, hX.k0, hX.k8, hX.k9, hX.l9]) <;> (try omega))) only [↓reduceIte, ↓z_ite, ↓zR, ↓zB_R, ↓zB_B, ↓zB_ite, ↓zB_gI, ↓zB_pI, ↓zB_pZ, ↓zB_aK, ↓zB_G, ↓zB_lI, ↓zB_lZ, ↓zB_wI, ↓zB_wZ, ↓zB_lIl, ↓zB_wIl, zB_pI, zB_pZ, zB_lI, zB_lZ, zB_wI, zB_wZ, z_addl, z_ladd, z_mull, z_lmul, nI_add, z_subl, Nat.not_lt_zero, z_10, z_01, z_bitc, z_b0, z_b1, ↓zB_Gb, ↓zB_G0, ↓zB_G1, z_eql, z_leq, z_ltl, z_llt, z_eq, z_lt, z_m1lt, hX.k0, hX.k8, hX.k9, hX.l9, ↓hX.g0_0, ↓hX.g0_1, ↓hX.g0_2, ↓hX.g0_3, ↓hX.g0_4, ↓hX.g0_5, ↓hX.g0_6, ↓hX.g0_7, ↓hX.g0_8, ↓hX.g0_9, ↓hX.g8_0, ↓z_gnow hX hn, z_gnow hX hn, ↓zT_r (f165_n hX hp hc hwf g1), zT_r (f165_n hX hp hc hwf g1)]
  rw [if_neg g1]
  have g1' := z_not_false g1
  have e1 := f165_y hX hp hc hwf g1'
  obtain ⟨k', hk', hl, rfl⟩ := (z_hm_iff hwf).mp g1'
  rw [nI_clamp (show k' < 2 ^ 31 by omega)]
  by_cases g3 : z_wr A.2.1 = -1
  · rw [if_pos g3]
    obtain ⟨m1, e3, c1, r1, f14⟩ := c_rr_y hw hI hCM g3
    obtain ⟨S', m', e4, d1, d2, d3⟩ := c_tail hw hI c1 g3 f14 (ob := 61) (kd := 6) hX.k61 (OP := fun q => f60 61 (z_pid sn) q (nI k')) (r := z_puR A.2.1 k') (Q := z_puQ A.2.1 k') (fun m2 hpre => f60_sp hpre hwf hk' hl)
    refine ⟨S', m', ?_, d1, d2, fun a ha => (d3 a ha).trans (r1 a ha)⟩
    unfold f147
    simp (disch := ((try simp only [true_or, or_true, hX.k0, hX.k8, hX.k9, hX.l9, hp.k, hp.k1, hp.k2, hp.k3, hp.k4, hp.k5, hp.k6, hp.k7, hp.k8, hp.k9, hp.k10, hp.l1, hp.l2, hp.l3, hp.l4, hp.l5, hp.l6, hp.l7, hp.l8, hp.l9, hp.l10]) <;> (try omega))) only [↓reduceIte, ↓z_ite, ↓zR, ↓zB_R, ↓zB_B, ↓zB_ite, ↓zB_gI, ↓zB_pI, ↓zB_pZ, ↓zB_aK, ↓zB_G, ↓zB_lI, ↓zB_lZ, ↓zB_wI, ↓zB_wZ, ↓zB_lIl, ↓zB_wIl, zB_pI, zB_pZ, zB_lI, zB_lZ, zB_wI, zB_wZ, z_addl, z_ladd, z_mull, z_lmul, nI_add, z_subl, Nat.not_lt_zero, z_10, z_01, z_bitc, z_b0, z_b1, ↓zB_Gb, ↓zB_G0, ↓zB_G1, z_eql, z_leq, z_ltl, z_llt, z_eq, z_lt, z_m1lt, hX.k0, hX.k8, hX.k9, hX.l9, hp.k, hp.k1, hp.k2, hp.k3, hp.k4, hp.k5, hp.k6, hp.k7, hp.k8, hp.k9, hp.k10, hp.l1, hp.l2, hp.l3, hp.l4, hp.l5, hp.l6, hp.l7, hp.l8, hp.l9, hp.l10, ↓hX.g0_0, ↓hX.g0_1, ↓hX.g0_2, ↓hX.g0_3, ↓hX.g0_4, ↓hX.g0_5, ↓hX.g0_6, ↓hX.g0_7, ↓hX.g0_8, ↓hX.g0_9, ↓hX.g8_0, ↓hp.g0, ↓hp.g1, ↓hp.g2, ↓hp.g3, ↓hp.g4, ↓hp.g5, ↓hp.g6, ↓hp.g7, ↓hp.g8, ↓hp.g9, ↓hp.gb, hp.gb, ↓z_gnow hX hn, z_gnow hX hn, ↓zT_l e1, zT_l e1, ↓zT_l e3, zT_l e3]
    exact e4
  · rw [if_neg g3]
    obtain ⟨m1, e3, c1, r1⟩ := c_rr_n hw hI hCM g3
    refine ⟨z_Sx S, m1, ?_, ⟨sn, sx, sp, hI, c1⟩, z_SS.x S, r1⟩
    unfold f147
    simp (disch := ((try simp only [true_or, or_true, hX.k0, hX.k8, hX.k9, hX.l9, hp.k, hp.k1, hp.k2, hp.k3, hp.k4, hp.k5, hp.k6, hp.k7, hp.k8, hp.k9, hp.k10, hp.l1, hp.l2, hp.l3, hp.l4, hp.l5, hp.l6, hp.l7, hp.l8, hp.l9, hp.l10]) <;> (try omega))) only [↓reduceIte, ↓z_ite, ↓zR, ↓zB_R, ↓zB_B, ↓zB_ite, ↓zB_gI, ↓zB_pI, ↓zB_pZ, ↓zB_aK, ↓zB_G, ↓zB_lI, ↓zB_lZ, ↓zB_wI, ↓zB_wZ, ↓zB_lIl, ↓zB_wIl, zB_pI, zB_pZ, zB_lI, zB_lZ, zB_wI, zB_wZ, z_addl, z_ladd, z_mull, z_lmul, nI_add, z_subl, Nat.not_lt_zero, z_10, z_01, z_bitc, z_b0, z_b1, ↓zB_Gb, ↓zB_G0, ↓zB_G1, z_eql, z_leq, z_ltl, z_llt, z_eq, z_lt, z_m1lt, hX.k0, hX.k8, hX.k9, hX.l9, hp.k, hp.k1, hp.k2, hp.k3, hp.k4, hp.k5, hp.k6, hp.k7, hp.k8, hp.k9, hp.k10, hp.l1, hp.l2, hp.l3, hp.l4, hp.l5, hp.l6, hp.l7, hp.l8, hp.l9, hp.l10, ↓hX.g0_0, ↓hX.g0_1, ↓hX.g0_2, ↓hX.g0_3, ↓hX.g0_4, ↓hX.g0_5, ↓hX.g0_6, ↓hX.g0_7, ↓hX.g0_8, ↓hX.g0_9, ↓hX.g8_0, ↓hp.g0, ↓hp.g1, ↓hp.g2, ↓hp.g3, ↓hp.g4, ↓hp.g5, ↓hp.g6, ↓hp.g7, ↓hp.g8, ↓hp.g9, ↓hp.gb, hp.gb, ↓z_gnow hX hn, z_gnow hX hn, ↓zT_l e1, zT_l e1, ↓zT_r e3, zT_r e3]
/-- isAboveHas -/
theorem f283_sp (hM : z_MS S) (h : z_mb m 0 P) (hw : z_wf P) {c : Nat} (hc : c < z_nc P) (name cnt : Int32) : f283 2390 (nI c) name cnt (z_hp S m) = some (z_b (z_any (fun d => d != c && (z_blw P c d && (z_om P d name cnt).isSome)) (z_nc P)), z_hp S m) := by
  have h6 := hw.1.1
  have h0 : m 2391 0 = nI (z_nc P) := h.2.2.2.1
  unfold f283 f283_6
  refine (z_fold (fun i (a : Bool) => (2390, nI c, name, cnt, z_b a, nI i)) (fun i a => a || (i != c && (z_blw P c i && (z_om P i name cnt).isSome))) z_b (z_nc P) false 1000000 (by omega) (fun i a hi => ?_) (fun a => ?_)).trans ?_
  · dsimp only
    unfold f283_6b f283_52 f283_56 f283_57
    cases a with
    | true => simp (disch := ((try simp only [true_or, or_true, hM.k, hM.k2391, hM.k2392, hM.k2393, hM.k2394, hM.k2395, hM.k2396, hM.k2397, hM.k2398, hM.k2399, hM.k2400, hM.k2401, hM.k2402, hM.k2403, hM.k2404, hM.k2405, hM.k2406, hM.k2407, hM.k2408, hM.k2409, hM.k2410, hM.k2411, hM.k2412, hM.k2413, hM.k2414, hM.k2415, hM.k2416, hM.k2417, hM.k2418, hM.k2419, hM.k2420, hM.k2421, hM.k2422, hM.k2423, hM.l2391, hM.l2392, hM.l2393, hM.l2394, hM.l2395, hM.l2396, hM.l2397, hM.l2398, hM.l2399, hM.l2400, hM.l2401, hM.l2402, hM.l2403, hM.l2404, hM.l2405, hM.l2406, hM.l2407, hM.l2408, hM.l2409, hM.l2410, hM.l2411, hM.l2412, hM.l2413, hM.l2414, hM.l2415, hM.l2416, hM.l2417, hM.l2418, hM.l2419, hM.l2420, hM.l2421, hM.l2422, hM.l2423]) <;> (try omega))) only [↓reduceIte, ↓z_ite, ↓zR, ↓zB_R, ↓zB_B, ↓zB_ite, ↓zB_gI, ↓zB_pI, ↓zB_pZ, ↓zB_aK, ↓zB_G, ↓zB_lI, ↓zB_lZ, ↓zB_wI, ↓zB_wZ, ↓zB_lIl, ↓zB_wIl, zB_pI, zB_pZ, zB_lI, zB_lZ, zB_wI, zB_wZ, z_addl, z_ladd, z_mull, z_lmul, nI_add, z_subl, Nat.not_lt_zero, z_10, z_01, z_bitc, z_b0, z_b1, ↓zB_Gb, ↓zB_G0, ↓zB_G1, z_eql, z_leq, z_ltl, z_llt, z_eq, z_lt, z_m1lt, hM.k, hM.k2391, hM.k2392, hM.k2393, hM.k2394, hM.k2395, hM.k2396, hM.k2397, hM.k2398, hM.k2399, hM.k2400, hM.k2401, hM.k2402, hM.k2403, hM.k2404, hM.k2405, hM.k2406, hM.k2407, hM.k2408, hM.k2409, hM.k2410, hM.k2411, hM.k2412, hM.k2413, hM.k2414, hM.k2415, hM.k2416, hM.k2417, hM.k2418, hM.k2419, hM.k2420, hM.k2421, hM.k2422, hM.k2423, hM.l2391, hM.l2392, hM.l2393, hM.l2394, hM.l2395, hM.l2396, hM.l2397, hM.l2398, hM.l2399, hM.l2400, hM.l2401, hM.l2402, hM.l2403, hM.l2404, hM.l2405, hM.l2406, hM.l2407, hM.l2408, hM.l2409, hM.l2410, hM.l2411, hM.l2412, hM.l2413, hM.l2414, hM.l2415, hM.l2416, hM.l2417, hM.l2418, hM.l2419, hM.l2420, hM.l2421, hM.l2422, hM.l2423, ↓hM.g1, ↓hM.g5, ↓hM.g6, ↓hM.g7, ↓hM.g8, ↓hM.g9, ↓hM.g10, ↓hM.g11, ↓hM.g12, ↓hM.g13, ↓hM.g14, ↓hM.g16, ↓hM.g17, ↓hM.g18, ↓hM.g19, ↓hM.g21, ↓hM.g22, ↓hM.g23, ↓hM.g24, ↓hM.g25, ↓hM.g27, ↓hM.g28, ↓hM.g30, ↓hM.g31, ↓hM.g32, ↓hM.g36, ↓hM.g37, ↓hM.g39, ↓hM.g40, ↓hM.g41, ↓hM.g43, ↓hM.g45, ↓hM.g46, h0, hi, Bool.true_eq_false, Bool.true_or]; rfl
    | false =>
      by_cases gc : i = c
      · subst gc
        simp (disch := ((try simp only [true_or, or_true, hM.k, hM.k2391, hM.k2392, hM.k2393, hM.k2394, hM.k2395, hM.k2396, hM.k2397, hM.k2398, hM.k2399, hM.k2400, hM.k2401, hM.k2402, hM.k2403, hM.k2404, hM.k2405, hM.k2406, hM.k2407, hM.k2408, hM.k2409, hM.k2410, hM.k2411, hM.k2412, hM.k2413, hM.k2414, hM.k2415, hM.k2416, hM.k2417, hM.k2418, hM.k2419, hM.k2420, hM.k2421, hM.k2422, hM.k2423, hM.l2391, hM.l2392, hM.l2393, hM.l2394, hM.l2395, hM.l2396, hM.l2397, hM.l2398, hM.l2399, hM.l2400, hM.l2401, hM.l2402, hM.l2403, hM.l2404, hM.l2405, hM.l2406, hM.l2407, hM.l2408, hM.l2409, hM.l2410, hM.l2411, hM.l2412, hM.l2413, hM.l2414, hM.l2415, hM.l2416, hM.l2417, hM.l2418, hM.l2419, hM.l2420, hM.l2421, hM.l2422, hM.l2423]) <;> (try omega))) only [↓reduceIte, ↓z_ite, ↓zR, ↓zB_R, ↓zB_B, ↓zB_ite, ↓zB_gI, ↓zB_pI, ↓zB_pZ, ↓zB_aK, ↓zB_G, ↓zB_lI, ↓zB_lZ, ↓zB_wI, ↓zB_wZ, ↓zB_lIl, ↓zB_wIl, zB_pI, zB_pZ, zB_lI, zB_lZ, zB_wI, zB_wZ, z_addl, z_ladd, z_mull, z_lmul, nI_add, z_subl, Nat.not_lt_zero, z_10, z_01, z_bitc, z_b0, z_b1, ↓zB_Gb, ↓zB_G0, ↓zB_G1, z_eql, z_leq, z_ltl, z_llt, z_eq, z_lt, z_m1lt, hM.k, hM.k2391, hM.k2392, hM.k2393, hM.k2394, hM.k2395, hM.k2396, hM.k2397, hM.k2398, hM.k2399, hM.k2400, hM.k2401, hM.k2402, hM.k2403, hM.k2404, hM.k2405, hM.k2406, hM.k2407, hM.k2408, hM.k2409, hM.k2410, hM.k2411, hM.k2412, hM.k2413, hM.k2414, hM.k2415, hM.k2416, hM.k2417, hM.k2418, hM.k2419, hM.k2420, hM.k2421, hM.k2422, hM.k2423, hM.l2391, hM.l2392, hM.l2393, hM.l2394, hM.l2395, hM.l2396, hM.l2397, hM.l2398, hM.l2399, hM.l2400, hM.l2401, hM.l2402, hM.l2403, hM.l2404, hM.l2405, hM.l2406, hM.l2407, hM.l2408, hM.l2409, hM.l2410, hM.l2411, hM.l2412, hM.l2413, hM.l2414, hM.l2415, hM.l2416, hM.l2417, hM.l2418, hM.l2419, hM.l2420, hM.l2421, hM.l2422, hM.l2423, ↓hM.g1, ↓hM.g5, ↓hM.g6, ↓hM.g7, ↓hM.g8, ↓hM.g9, ↓hM.g10, ↓hM.g11, ↓hM.g12, ↓hM.g13, ↓hM.g14, ↓hM.g16, ↓hM.g17, ↓hM.g18, ↓hM.g19, ↓hM.g21, ↓hM.g22, ↓hM.g23, ↓hM.g24, ↓hM.g25, ↓hM.g27, ↓hM.g28, ↓hM.g30, ↓hM.g31, ↓hM.g32, ↓hM.g36, ↓hM.g37, ↓hM.g39, ↓hM.g40, ↓hM.g41, ↓hM.g43, ↓hM.g45, ↓hM.g46, h0, hi, bne_self_eq_false, Bool.false_and, Bool.or_false]; rfl
      · have gb : (i != c) = true := by simpa using gc
        have e1 := f208_sp (S := S) h hM hw.1 (B := 0) rfl hc (d := i) (by omega)
        have e2 := f213_sp (S := S) h hM hw (B := 0) rfl hi name cnt
        rw [gb]
        cases g1 : z_blw P c i with
        | false =>
          rw [g1] at e1
          simp (disch := ((try simp only [true_or, or_true, hM.k, hM.k2391, hM.k2392, hM.k2393, hM.k2394, hM.k2395, hM.k2396, hM.k2397, hM.k2398, hM.k2399, hM.k2400, hM.k2401, hM.k2402, hM.k2403, hM.k2404, hM.k2405, hM.k2406, hM.k2407, hM.k2408, hM.k2409, hM.k2410, hM.k2411, hM.k2412, hM.k2413, hM.k2414, hM.k2415, hM.k2416, hM.k2417, hM.k2418, hM.k2419, hM.k2420, hM.k2421, hM.k2422, hM.k2423, hM.l2391, hM.l2392, hM.l2393, hM.l2394, hM.l2395, hM.l2396, hM.l2397, hM.l2398, hM.l2399, hM.l2400, hM.l2401, hM.l2402, hM.l2403, hM.l2404, hM.l2405, hM.l2406, hM.l2407, hM.l2408, hM.l2409, hM.l2410, hM.l2411, hM.l2412, hM.l2413, hM.l2414, hM.l2415, hM.l2416, hM.l2417, hM.l2418, hM.l2419, hM.l2420, hM.l2421, hM.l2422, hM.l2423]) <;> (try omega))) only [↓reduceIte, ↓z_ite, ↓zR, ↓zB_R, ↓zB_B, ↓zB_ite, ↓zB_gI, ↓zB_pI, ↓zB_pZ, ↓zB_aK, ↓zB_G, ↓zB_lI, ↓zB_lZ, ↓zB_wI, ↓zB_wZ, ↓zB_lIl, ↓zB_wIl, zB_pI, zB_pZ, zB_lI, zB_lZ, zB_wI, zB_wZ, z_addl, z_ladd, z_mull, z_lmul, nI_add, z_subl, Nat.not_lt_zero, z_10, z_01, z_bitc, z_b0, z_b1, ↓zB_Gb, ↓zB_G0, ↓zB_G1, z_eql, z_leq, z_ltl, z_llt, z_eq, z_lt, z_m1lt, hM.k, hM.k2391, hM.k2392, hM.k2393, hM.k2394, hM.k2395, hM.k2396, hM.k2397, hM.k2398, hM.k2399, hM.k2400, hM.k2401, hM.k2402, hM.k2403, hM.k2404, hM.k2405, hM.k2406, hM.k2407, hM.k2408, hM.k2409, hM.k2410, hM.k2411, hM.k2412, hM.k2413, hM.k2414, hM.k2415, hM.k2416, hM.k2417, hM.k2418, hM.k2419, hM.k2420, hM.k2421, hM.k2422, hM.k2423, hM.l2391, hM.l2392, hM.l2393, hM.l2394, hM.l2395, hM.l2396, hM.l2397, hM.l2398, hM.l2399, hM.l2400, hM.l2401, hM.l2402, hM.l2403, hM.l2404, hM.l2405, hM.l2406, hM.l2407, hM.l2408, hM.l2409, hM.l2410, hM.l2411, hM.l2412, hM.l2413, hM.l2414, hM.l2415, hM.l2416, hM.l2417, hM.l2418, hM.l2419, hM.l2420, hM.l2421, hM.l2422, hM.l2423, ↓hM.g1, ↓hM.g5, ↓hM.g6, ↓hM.g7, ↓hM.g8, ↓hM.g9, ↓hM.g10, ↓hM.g11, ↓hM.g12, ↓hM.g13, ↓hM.g14, ↓hM.g16, ↓hM.g17, ↓hM.g18, ↓hM.g19, ↓hM.g21, ↓hM.g22, ↓hM.g23, ↓hM.g24, ↓hM.g25, ↓hM.g27, ↓hM.g28, ↓hM.g30, ↓hM.g31, ↓hM.g32, ↓hM.g36, ↓hM.g37, ↓hM.g39, ↓hM.g40, ↓hM.g41, ↓hM.g43, ↓hM.g45, ↓hM.g46, h0, hi, gc, ↓zB_c e1, zB_c e1, Bool.true_and, Bool.false_and, Bool.or_false]; rfl
        | true =>
          rw [g1] at e1
          cases g2 : z_om P i name cnt with
          | none =>
            rw [g2] at e2
            simp (disch := ((try simp only [true_or, or_true, hM.k, hM.k2391, hM.k2392, hM.k2393, hM.k2394, hM.k2395, hM.k2396, hM.k2397, hM.k2398, hM.k2399, hM.k2400, hM.k2401, hM.k2402, hM.k2403, hM.k2404, hM.k2405, hM.k2406, hM.k2407, hM.k2408, hM.k2409, hM.k2410, hM.k2411, hM.k2412, hM.k2413, hM.k2414, hM.k2415, hM.k2416, hM.k2417, hM.k2418, hM.k2419, hM.k2420, hM.k2421, hM.k2422, hM.k2423, hM.l2391, hM.l2392, hM.l2393, hM.l2394, hM.l2395, hM.l2396, hM.l2397, hM.l2398, hM.l2399, hM.l2400, hM.l2401, hM.l2402, hM.l2403, hM.l2404, hM.l2405, hM.l2406, hM.l2407, hM.l2408, hM.l2409, hM.l2410, hM.l2411, hM.l2412, hM.l2413, hM.l2414, hM.l2415, hM.l2416, hM.l2417, hM.l2418, hM.l2419, hM.l2420, hM.l2421, hM.l2422, hM.l2423]) <;> (try omega))) only [↓reduceIte, ↓z_ite, ↓zR, ↓zB_R, ↓zB_B, ↓zB_ite, ↓zB_gI, ↓zB_pI, ↓zB_pZ, ↓zB_aK, ↓zB_G, ↓zB_lI, ↓zB_lZ, ↓zB_wI, ↓zB_wZ, ↓zB_lIl, ↓zB_wIl, zB_pI, zB_pZ, zB_lI, zB_lZ, zB_wI, zB_wZ, z_addl, z_ladd, z_mull, z_lmul, nI_add, z_subl, Nat.not_lt_zero, z_10, z_01, z_bitc, z_b0, z_b1, ↓zB_Gb, ↓zB_G0, ↓zB_G1, z_eql, z_leq, z_ltl, z_llt, z_eq, z_lt, z_m1lt, hM.k, hM.k2391, hM.k2392, hM.k2393, hM.k2394, hM.k2395, hM.k2396, hM.k2397, hM.k2398, hM.k2399, hM.k2400, hM.k2401, hM.k2402, hM.k2403, hM.k2404, hM.k2405, hM.k2406, hM.k2407, hM.k2408, hM.k2409, hM.k2410, hM.k2411, hM.k2412, hM.k2413, hM.k2414, hM.k2415, hM.k2416, hM.k2417, hM.k2418, hM.k2419, hM.k2420, hM.k2421, hM.k2422, hM.k2423, hM.l2391, hM.l2392, hM.l2393, hM.l2394, hM.l2395, hM.l2396, hM.l2397, hM.l2398, hM.l2399, hM.l2400, hM.l2401, hM.l2402, hM.l2403, hM.l2404, hM.l2405, hM.l2406, hM.l2407, hM.l2408, hM.l2409, hM.l2410, hM.l2411, hM.l2412, hM.l2413, hM.l2414, hM.l2415, hM.l2416, hM.l2417, hM.l2418, hM.l2419, hM.l2420, hM.l2421, hM.l2422, hM.l2423, ↓hM.g1, ↓hM.g5, ↓hM.g6, ↓hM.g7, ↓hM.g8, ↓hM.g9, ↓hM.g10, ↓hM.g11, ↓hM.g12, ↓hM.g13, ↓hM.g14, ↓hM.g16, ↓hM.g17, ↓hM.g18, ↓hM.g19, ↓hM.g21, ↓hM.g22, ↓hM.g23, ↓hM.g24, ↓hM.g25, ↓hM.g27, ↓hM.g28, ↓hM.g30, ↓hM.g31, ↓hM.g32, ↓hM.g36, ↓hM.g37, ↓hM.g39, ↓hM.g40, ↓hM.g41, ↓hM.g43, ↓hM.g45, ↓hM.g46, h0, hi, gc, ↓zB_c e1, zB_c e1, ↓zB_c e2, zB_c e2, z_oI, Bool.true_eq_false, Bool.true_and, Option.isSome_none, Bool.or_false]; rfl
          | some j =>
            rw [g2] at e2
            have hj := ((z_om_some hw).mp g2).1
            have h24 := hw.2.2.1
            have gj : ¬ nI j = -1 := z_nI_m1 (by omega)
            simp (disch := ((try simp only [true_or, or_true, hM.k, hM.k2391, hM.k2392, hM.k2393, hM.k2394, hM.k2395, hM.k2396, hM.k2397, hM.k2398, hM.k2399, hM.k2400, hM.k2401, hM.k2402, hM.k2403, hM.k2404, hM.k2405, hM.k2406, hM.k2407, hM.k2408, hM.k2409, hM.k2410, hM.k2411, hM.k2412, hM.k2413, hM.k2414, hM.k2415, hM.k2416, hM.k2417, hM.k2418, hM.k2419, hM.k2420, hM.k2421, hM.k2422, hM.k2423, hM.l2391, hM.l2392, hM.l2393, hM.l2394, hM.l2395, hM.l2396, hM.l2397, hM.l2398, hM.l2399, hM.l2400, hM.l2401, hM.l2402, hM.l2403, hM.l2404, hM.l2405, hM.l2406, hM.l2407, hM.l2408, hM.l2409, hM.l2410, hM.l2411, hM.l2412, hM.l2413, hM.l2414, hM.l2415, hM.l2416, hM.l2417, hM.l2418, hM.l2419, hM.l2420, hM.l2421, hM.l2422, hM.l2423]) <;> (try omega))) only [↓reduceIte, ↓z_ite, ↓zR, ↓zB_R, ↓zB_B, ↓zB_ite, ↓zB_gI, ↓zB_pI, ↓zB_pZ, ↓zB_aK, ↓zB_G, ↓zB_lI, ↓zB_lZ, ↓zB_wI, ↓zB_wZ, ↓zB_lIl, ↓zB_wIl, zB_pI, zB_pZ, zB_lI, zB_lZ, zB_wI, zB_wZ, z_addl, z_ladd, z_mull, z_lmul, nI_add, z_subl, Nat.not_lt_zero, z_10, z_01, z_bitc, z_b0, z_b1, ↓zB_Gb, ↓zB_G0, ↓zB_G1, z_eql, z_leq, z_ltl, z_llt, z_eq, z_lt, z_m1lt, hM.k, hM.k2391, hM.k2392, hM.k2393, hM.k2394, hM.k2395, hM.k2396, hM.k2397, hM.k2398, hM.k2399, hM.k2400, hM.k2401, hM.k2402, hM.k2403, hM.k2404, hM.k2405, hM.k2406, hM.k2407, hM.k2408, hM.k2409, hM.k2410, hM.k2411, hM.k2412, hM.k2413, hM.k2414, hM.k2415, hM.k2416, hM.k2417, hM.k2418, hM.k2419, hM.k2420, hM.k2421, hM.k2422, hM.k2423, hM.l2391, hM.l2392, hM.l2393, hM.l2394, hM.l2395, hM.l2396, hM.l2397, hM.l2398, hM.l2399, hM.l2400, hM.l2401, hM.l2402, hM.l2403, hM.l2404, hM.l2405, hM.l2406, hM.l2407, hM.l2408, hM.l2409, hM.l2410, hM.l2411, hM.l2412, hM.l2413, hM.l2414, hM.l2415, hM.l2416, hM.l2417, hM.l2418, hM.l2419, hM.l2420, hM.l2421, hM.l2422, hM.l2423, ↓hM.g1, ↓hM.g5, ↓hM.g6, ↓hM.g7, ↓hM.g8, ↓hM.g9, ↓hM.g10, ↓hM.g11, ↓hM.g12, ↓hM.g13, ↓hM.g14, ↓hM.g16, ↓hM.g17, ↓hM.g18, ↓hM.g19, ↓hM.g21, ↓hM.g22, ↓hM.g23, ↓hM.g24, ↓hM.g25, ↓hM.g27, ↓hM.g28, ↓hM.g30, ↓hM.g31, ↓hM.g32, ↓hM.g36, ↓hM.g37, ↓hM.g39, ↓hM.g40, ↓hM.g41, ↓hM.g43, ↓hM.g45, ↓hM.g46, h0, hi, gc, ↓zB_c e1, zB_c e1, ↓zB_c e2, zB_c e2, z_oI, gj, Bool.true_eq_false, Bool.true_and, Option.isSome_some, Bool.or_true]; rfl
  · dsimp only
    unfold f283_6b f283_65
    simp (disch := ((try simp only [true_or, or_true, hM.k, hM.k2391, hM.k2392, hM.k2393, hM.k2394, hM.k2395, hM.k2396, hM.k2397, hM.k2398, hM.k2399, hM.k2400, hM.k2401, hM.k2402, hM.k2403, hM.k2404, hM.k2405, hM.k2406, hM.k2407, hM.k2408, hM.k2409, hM.k2410, hM.k2411, hM.k2412, hM.k2413, hM.k2414, hM.k2415, hM.k2416, hM.k2417, hM.k2418, hM.k2419, hM.k2420, hM.k2421, hM.k2422, hM.k2423, hM.l2391, hM.l2392, hM.l2393, hM.l2394, hM.l2395, hM.l2396, hM.l2397, hM.l2398, hM.l2399, hM.l2400, hM.l2401, hM.l2402, hM.l2403, hM.l2404, hM.l2405, hM.l2406, hM.l2407, hM.l2408, hM.l2409, hM.l2410, hM.l2411, hM.l2412, hM.l2413, hM.l2414, hM.l2415, hM.l2416, hM.l2417, hM.l2418, hM.l2419, hM.l2420, hM.l2421, hM.l2422, hM.l2423]) <;> (try omega))) only [↓reduceIte, ↓z_ite, ↓zR, ↓zB_R, ↓zB_B, ↓zB_ite, ↓zB_gI, ↓zB_pI, ↓zB_pZ, ↓zB_aK, ↓zB_G, ↓zB_lI, ↓zB_lZ, ↓zB_wI, ↓zB_wZ, ↓zB_lIl, ↓zB_wIl, zB_pI, zB_pZ, zB_lI, zB_lZ, zB_wI, zB_wZ, z_addl, z_ladd, z_mull, z_lmul, nI_add, z_subl, Nat.not_lt_zero, z_10, z_01, z_bitc, z_b0, z_b1, ↓zB_Gb, ↓zB_G0, ↓zB_G1, z_eql, z_leq, z_ltl, z_llt, z_eq, z_lt, z_m1lt, hM.k, hM.k2391, hM.k2392, hM.k2393, hM.k2394, hM.k2395, hM.k2396, hM.k2397, hM.k2398, hM.k2399, hM.k2400, hM.k2401, hM.k2402, hM.k2403, hM.k2404, hM.k2405, hM.k2406, hM.k2407, hM.k2408, hM.k2409, hM.k2410, hM.k2411, hM.k2412, hM.k2413, hM.k2414, hM.k2415, hM.k2416, hM.k2417, hM.k2418, hM.k2419, hM.k2420, hM.k2421, hM.k2422, hM.k2423, hM.l2391, hM.l2392, hM.l2393, hM.l2394, hM.l2395, hM.l2396, hM.l2397, hM.l2398, hM.l2399, hM.l2400, hM.l2401, hM.l2402, hM.l2403, hM.l2404, hM.l2405, hM.l2406, hM.l2407, hM.l2408, hM.l2409, hM.l2410, hM.l2411, hM.l2412, hM.l2413, hM.l2414, hM.l2415, hM.l2416, hM.l2417, hM.l2418, hM.l2419, hM.l2420, hM.l2421, hM.l2422, hM.l2423, ↓hM.g1, ↓hM.g5, ↓hM.g6, ↓hM.g7, ↓hM.g8, ↓hM.g9, ↓hM.g10, ↓hM.g11, ↓hM.g12, ↓hM.g13, ↓hM.g14, ↓hM.g16, ↓hM.g17, ↓hM.g18, ↓hM.g19, ↓hM.g21, ↓hM.g22, ↓hM.g23, ↓hM.g24, ↓hM.g25, ↓hM.g27, ↓hM.g28, ↓hM.g30, ↓hM.g31, ↓hM.g32, ↓hM.g36, ↓hM.g37, ↓hM.g39, ↓hM.g40, ↓hM.g41, ↓hM.g43, ↓hM.g45, ↓hM.g46, h0, Nat.lt_irrefl]
  · rw [z_fo_any]
/-- the next one above that has a method -/
theorem z_fm_above (hw : z_wf P) {d : Nat} (hd : d < z_nc P) {name cnt : Int32} (h : z_om P d name cnt = none) : z_any (fun c => c != d && (z_blw P d c && (z_om P c name cnt).isSome)) (z_nc P) = (z_fm P d name cnt).isSome := by
  cases hf : z_fm P d name cnt with
  | none =>
    refine z_any_f.mpr (fun c hc => ?_)
    cases hq : (c != d && (z_blw P d c && (z_om P c name cnt).isSome)) with
    | false => rfl
    | true =>
      obtain ⟨_, h2⟩ := Bool.and_eq_true_iff.mp hq
      obtain ⟨h3, h4⟩ := Bool.and_eq_true_iff.mp h2
      obtain ⟨j, hj⟩ := Option.isSome_iff_exists.mp h4
      obtain ⟨j1, j2, j3⟩ := (z_om_some hw).mp hj
      have := (z_fm_none hw hd).mp hf j j1 j2
      rw [j3, h3] at this; cases this
  | some j =>
    obtain ⟨f1, f2, f3, _⟩ := (z_fm_some hw hd).mp hf
    refine z_any_iff.mpr ⟨z_own P j, (z_own_e hw f1).1, ?_⟩
    have hne : z_own P j ≠ d := z_om_none.mp h j f1 f2
    have : z_om P (z_own P j) name cnt = some j := (z_om_some hw).mpr ⟨f1, f2, rfl⟩
    rw [f3, this]
    simpa using hne
theorem z_om_fm (hw : z_wf P) {d j : Nat} (hd : d < z_nc P) {name cnt : Int32} (h : z_om P d name cnt = some j) : z_fm P d name cnt = some j := by
  obtain ⟨j1, j2, j3⟩ := (z_om_some hw).mp h
  refine (z_fm_some hw hd).mpr ⟨j1, j2, by rw [j3]; exact z_blw_refl P d, fun i hi h1 h2 => ?_⟩
  rw [j3]; exact z_blw_le hw.1 hd h2
theorem m_pull (hM : z_MS S) (hw : z_WA A) (h : z_MR m A) (k : Int32) : (∃ v m1, f301 2390 k (z_hp S m) = some (v, z_hp S m1) ∧ z_MR m1 (z_opull A k).2 ∧ (∀ b, b < 2390 ∨ 2424 ≤ b → m1 b = m b) ∧ z_ans z_cd2 (z_opull A k).1 v (m1 2390 0)) ∧ z_WA (z_opull A k).2 := by
  have hwf := hw.2.1.1
  have h24 := hwf.2.2.1
  have h6 := hwf.1.1
  have h60 := hw.2.1.2
  have i1 := f178_1 (m := m) hM
  have e206 := f206_b (S := S) hM h k
  unfold z_opull
  by_cases g1 : z_hm A.2.1 k = false
  · rw [if_pos g1]
    refine z_m_ref hw h (E := 2) (cd := z_cd2) ⟨0, ?_⟩
    rw [g1] at e206
    unfold f301 f301_26
    simp (disch := ((try simp only [true_or, or_true, hM.k, hM.k2391, hM.k2392, hM.k2393, hM.k2394, hM.k2395, hM.k2396, hM.k2397, hM.k2398, hM.k2399, hM.k2400, hM.k2401, hM.k2402, hM.k2403, hM.k2404, hM.k2405, hM.k2406, hM.k2407, hM.k2408, hM.k2409, hM.k2410, hM.k2411, hM.k2412, hM.k2413, hM.k2414, hM.k2415, hM.k2416, hM.k2417, hM.k2418, hM.k2419, hM.k2420, hM.k2421, hM.k2422, hM.k2423, hM.l2391, hM.l2392, hM.l2393, hM.l2394, hM.l2395, hM.l2396, hM.l2397, hM.l2398, hM.l2399, hM.l2400, hM.l2401, hM.l2402, hM.l2403, hM.l2404, hM.l2405, hM.l2406, hM.l2407, hM.l2408, hM.l2409, hM.l2410, hM.l2411, hM.l2412, hM.l2413, hM.l2414, hM.l2415, hM.l2416, hM.l2417, hM.l2418, hM.l2419, hM.l2420, hM.l2421, hM.l2422, hM.l2423]) <;> (try omega))) only [↓reduceIte, ↓z_ite, ↓zR, ↓zB_R, ↓zB_B, ↓zB_ite, ↓zB_gI, ↓zB_pI, ↓zB_pZ, ↓zB_aK, ↓zB_G, ↓zB_lI, ↓zB_lZ, ↓zB_wI, ↓zB_wZ, ↓zB_lIl, ↓zB_wIl, zB_pI, zB_pZ, zB_lI, zB_lZ, zB_wI, zB_wZ, z_addl, z_ladd, z_mull, z_lmul, nI_add, z_subl, Nat.not_lt_zero, z_10, z_01, z_bitc, z_b0, z_b1, ↓zB_Gb, ↓zB_G0, ↓zB_G1, z_eql, z_leq, z_ltl, z_llt, z_eq, z_lt, z_m1lt, hM.k, hM.k2391, hM.k2392, hM.k2393, hM.k2394, hM.k2395, hM.k2396, hM.k2397, hM.k2398, hM.k2399, hM.k2400, hM.k2401, hM.k2402, hM.k2403, hM.k2404, hM.k2405, hM.k2406, hM.k2407, hM.k2408, hM.k2409, hM.k2410, hM.k2411, hM.k2412, hM.k2413, hM.k2414, hM.k2415, hM.k2416, hM.k2417, hM.k2418, hM.k2419, hM.k2420, hM.k2421, hM.k2422, hM.k2423, hM.l2391, hM.l2392, hM.l2393, hM.l2394, hM.l2395, hM.l2396, hM.l2397, hM.l2398, hM.l2399, hM.l2400, hM.l2401, hM.l2402, hM.l2403, hM.l2404, hM.l2405, hM.l2406, hM.l2407, hM.l2408, hM.l2409, hM.l2410, hM.l2411, hM.l2412, hM.l2413, hM.l2414, hM.l2415, hM.l2416, hM.l2417, hM.l2418, hM.l2419, hM.l2420, hM.l2421, hM.l2422, hM.l2423, ↓hM.g1, ↓hM.g5, ↓hM.g6, ↓hM.g7, ↓hM.g8, ↓hM.g9, ↓hM.g10, ↓hM.g11, ↓hM.g12, ↓hM.g13, ↓hM.g14, ↓hM.g16, ↓hM.g17, ↓hM.g18, ↓hM.g19, ↓hM.g21, ↓hM.g22, ↓hM.g23, ↓hM.g24, ↓hM.g25, ↓hM.g27, ↓hM.g28, ↓hM.g30, ↓hM.g31, ↓hM.g32, ↓hM.g36, ↓hM.g37, ↓hM.g39, ↓hM.g40, ↓hM.g41, ↓hM.g43, ↓hM.g45, ↓hM.g46, ↓zB_c e206, zB_c e206, ↓zB_c i1, zB_c i1]
    rfl
  rw [if_neg g1]
  have g1' := z_not_false g1
  rw [g1'] at e206
  obtain ⟨k', hk', hl, rfl⟩ := (z_hm_iff hwf).mp g1'
  rw [nI_clamp (show k' < 2 ^ 31 by omega)]
  by_cases g3 : ¬ z_wr A.2.1 = -1
  · rw [if_neg g3]
    obtain ⟨m1, e272, h1, fr1⟩ := m_gono (S := S) hM hw h g3
    have i2 := f178_2 (m := m1) hM
    refine m_ref2 (m1 := m1) hw h1 fr1 (E := 0) (cd := z_cd2) ⟨0, ?_⟩
    unfold f301 f301_26
    simp (disch := ((try simp only [true_or, or_true, hM.k, hM.k2391, hM.k2392, hM.k2393, hM.k2394, hM.k2395, hM.k2396, hM.k2397, hM.k2398, hM.k2399, hM.k2400, hM.k2401, hM.k2402, hM.k2403, hM.k2404, hM.k2405, hM.k2406, hM.k2407, hM.k2408, hM.k2409, hM.k2410, hM.k2411, hM.k2412, hM.k2413, hM.k2414, hM.k2415, hM.k2416, hM.k2417, hM.k2418, hM.k2419, hM.k2420, hM.k2421, hM.k2422, hM.k2423, hM.l2391, hM.l2392, hM.l2393, hM.l2394, hM.l2395, hM.l2396, hM.l2397, hM.l2398, hM.l2399, hM.l2400, hM.l2401, hM.l2402, hM.l2403, hM.l2404, hM.l2405, hM.l2406, hM.l2407, hM.l2408, hM.l2409, hM.l2410, hM.l2411, hM.l2412, hM.l2413, hM.l2414, hM.l2415, hM.l2416, hM.l2417, hM.l2418, hM.l2419, hM.l2420, hM.l2421, hM.l2422, hM.l2423]) <;> (try omega))) only [↓reduceIte, ↓z_ite, ↓zR, ↓zB_R, ↓zB_B, ↓zB_ite, ↓zB_gI, ↓zB_pI, ↓zB_pZ, ↓zB_aK, ↓zB_G, ↓zB_lI, ↓zB_lZ, ↓zB_wI, ↓zB_wZ, ↓zB_lIl, ↓zB_wIl, zB_pI, zB_pZ, zB_lI, zB_lZ, zB_wI, zB_wZ, z_addl, z_ladd, z_mull, z_lmul, nI_add, z_subl, Nat.not_lt_zero, z_10, z_01, z_bitc, z_b0, z_b1, ↓zB_Gb, ↓zB_G0, ↓zB_G1, z_eql, z_leq, z_ltl, z_llt, z_eq, z_lt, z_m1lt, hM.k, hM.k2391, hM.k2392, hM.k2393, hM.k2394, hM.k2395, hM.k2396, hM.k2397, hM.k2398, hM.k2399, hM.k2400, hM.k2401, hM.k2402, hM.k2403, hM.k2404, hM.k2405, hM.k2406, hM.k2407, hM.k2408, hM.k2409, hM.k2410, hM.k2411, hM.k2412, hM.k2413, hM.k2414, hM.k2415, hM.k2416, hM.k2417, hM.k2418, hM.k2419, hM.k2420, hM.k2421, hM.k2422, hM.k2423, hM.l2391, hM.l2392, hM.l2393, hM.l2394, hM.l2395, hM.l2396, hM.l2397, hM.l2398, hM.l2399, hM.l2400, hM.l2401, hM.l2402, hM.l2403, hM.l2404, hM.l2405, hM.l2406, hM.l2407, hM.l2408, hM.l2409, hM.l2410, hM.l2411, hM.l2412, hM.l2413, hM.l2414, hM.l2415, hM.l2416, hM.l2417, hM.l2418, hM.l2419, hM.l2420, hM.l2421, hM.l2422, hM.l2423, ↓hM.g1, ↓hM.g5, ↓hM.g6, ↓hM.g7, ↓hM.g8, ↓hM.g9, ↓hM.g10, ↓hM.g11, ↓hM.g12, ↓hM.g13, ↓hM.g14, ↓hM.g16, ↓hM.g17, ↓hM.g18, ↓hM.g19, ↓hM.g21, ↓hM.g22, ↓hM.g23, ↓hM.g24, ↓hM.g25, ↓hM.g27, ↓hM.g28, ↓hM.g30, ↓hM.g31, ↓hM.g32, ↓hM.g36, ↓hM.g37, ↓hM.g39, ↓hM.g40, ↓hM.g41, ↓hM.g43, ↓hM.g45, ↓hM.g46, ↓zB_c e206, zB_c e206, Bool.true_eq_false, ↓zB_c e272, zB_c e272, ↓zB_c i2, zB_c i2]
    rfl
  have g3 := Classical.not_not.mp g3
  rw [if_pos g3]
  obtain ⟨m1, e272, e178, h0, fr0⟩ := m_go (S := S) hM hw h g3
  generalize hm2 : z_up m1 2390 0 0 = m2 at e178 h0 fr0
  have hb := h0.1.2.1
  have ho := z_own_e hwf hk'
  have e1 := hb.e1 hM (B := 0) rfl hk'
  rw [ho.2] at e1
  have e2 := hb.e2 hM (B := 0) rfl hk'
  have e3 := hb.e3 hM (B := 0) rfl hk'
  have e207 := f207_sp (S := S) hb hM (B := 0) rfl ho.1
  rcases z_par_of hwf hk' with g | ⟨d, hdn, hd⟩
  · have er : z_puR A.2.1 k' = -10 := if_pos g
    rw [er]
    rw [g] at e207
    refine m_no hw (by decide) (m' := m2) ?_ h0.1 h0.2.2 fr0
    unfold f301 f301_26
    simp (disch := ((try simp only [true_or, or_true, hM.k, hM.k2391, hM.k2392, hM.k2393, hM.k2394, hM.k2395, hM.k2396, hM.k2397, hM.k2398, hM.k2399, hM.k2400, hM.k2401, hM.k2402, hM.k2403, hM.k2404, hM.k2405, hM.k2406, hM.k2407, hM.k2408, hM.k2409, hM.k2410, hM.k2411, hM.k2412, hM.k2413, hM.k2414, hM.k2415, hM.k2416, hM.k2417, hM.k2418, hM.k2419, hM.k2420, hM.k2421, hM.k2422, hM.k2423, hM.l2391, hM.l2392, hM.l2393, hM.l2394, hM.l2395, hM.l2396, hM.l2397, hM.l2398, hM.l2399, hM.l2400, hM.l2401, hM.l2402, hM.l2403, hM.l2404, hM.l2405, hM.l2406, hM.l2407, hM.l2408, hM.l2409, hM.l2410, hM.l2411, hM.l2412, hM.l2413, hM.l2414, hM.l2415, hM.l2416, hM.l2417, hM.l2418, hM.l2419, hM.l2420, hM.l2421, hM.l2422, hM.l2423]) <;> (try omega))) only [↓reduceIte, ↓z_ite, ↓zR, ↓zB_R, ↓zB_B, ↓zB_ite, ↓zB_gI, ↓zB_pI, ↓zB_pZ, ↓zB_aK, ↓zB_G, ↓zB_lI, ↓zB_lZ, ↓zB_wI, ↓zB_wZ, ↓zB_lIl, ↓zB_wIl, zB_pI, zB_pZ, zB_lI, zB_lZ, zB_wI, zB_wZ, z_addl, z_ladd, z_mull, z_lmul, nI_add, z_subl, Nat.not_lt_zero, z_10, z_01, z_bitc, z_b0, z_b1, ↓zB_Gb, ↓zB_G0, ↓zB_G1, z_eql, z_leq, z_ltl, z_llt, z_eq, z_lt, z_m1lt, hM.k, hM.k2391, hM.k2392, hM.k2393, hM.k2394, hM.k2395, hM.k2396, hM.k2397, hM.k2398, hM.k2399, hM.k2400, hM.k2401, hM.k2402, hM.k2403, hM.k2404, hM.k2405, hM.k2406, hM.k2407, hM.k2408, hM.k2409, hM.k2410, hM.k2411, hM.k2412, hM.k2413, hM.k2414, hM.k2415, hM.k2416, hM.k2417, hM.k2418, hM.k2419, hM.k2420, hM.k2421, hM.k2422, hM.k2423, hM.l2391, hM.l2392, hM.l2393, hM.l2394, hM.l2395, hM.l2396, hM.l2397, hM.l2398, hM.l2399, hM.l2400, hM.l2401, hM.l2402, hM.l2403, hM.l2404, hM.l2405, hM.l2406, hM.l2407, hM.l2408, hM.l2409, hM.l2410, hM.l2411, hM.l2412, hM.l2413, hM.l2414, hM.l2415, hM.l2416, hM.l2417, hM.l2418, hM.l2419, hM.l2420, hM.l2421, hM.l2422, hM.l2423, ↓hM.g1, ↓hM.g5, ↓hM.g6, ↓hM.g7, ↓hM.g8, ↓hM.g9, ↓hM.g10, ↓hM.g11, ↓hM.g12, ↓hM.g13, ↓hM.g14, ↓hM.g16, ↓hM.g17, ↓hM.g18, ↓hM.g19, ↓hM.g21, ↓hM.g22, ↓hM.g23, ↓hM.g24, ↓hM.g25, ↓hM.g27, ↓hM.g28, ↓hM.g30, ↓hM.g31, ↓hM.g32, ↓hM.g36, ↓hM.g37, ↓hM.g39, ↓hM.g40, ↓hM.g41, ↓hM.g43, ↓hM.g45, ↓hM.g46, ↓zB_c e206, zB_c e206, Bool.true_eq_false, ↓zB_c e272, zB_c e272, ↓zB_c e178, zB_c e178, ↓zB_c e1, zB_c e1, ↓zB_c e207, zB_c e207]
  · have gd : ¬ nI d = -1 := z_nI_m1 (by omega)
    rw [hd] at e207
    have e213 := f213_sp (S := S) hb hM hwf (B := 0) rfl hdn (z_hd A.2.1 k' 2) (z_hd A.2.1 k' 3)
    have e283 := f283_sp (S := S) hM hb hwf hdn (z_hd A.2.1 k' 2) (z_hd A.2.1 k' 3)
    have er : z_puR A.2.1 k' = match z_fm A.2.1 d (z_hd A.2.1 k' 2) (z_hd A.2.1 k' 3) with
      | some q => if nI (z_own A.2.1 q) = nI d then -1 else -11
      | none => if z_wr (z_puQ A.2.1 k') = -1 then nI d else -8 := by
      unfold z_puR
      rw [hd, if_neg gd, nI_clamp (by omega)]
    cases hom : z_om A.2.1 d (z_hd A.2.1 k' 2) (z_hd A.2.1 k' 3) with
    | some j =>
      rw [z_om_fm hwf hdn hom] at er
      have er : z_puR A.2.1 k' = -1 := er.trans (if_pos (by rw [((z_om_some hwf).mp hom).2.2]))
      rw [hom] at e213
      have gj : ¬ nI j = -1 := z_nI_m1 (by have := ((z_om_some hwf).mp hom).1; omega)
      rw [er]
      refine m_no hw (by decide) (m' := m2) ?_ h0.1 h0.2.2 fr0
      unfold f301 f301_26
      simp (disch := ((try simp only [true_or, or_true, hM.k, hM.k2391, hM.k2392, hM.k2393, hM.k2394, hM.k2395, hM.k2396, hM.k2397, hM.k2398, hM.k2399, hM.k2400, hM.k2401, hM.k2402, hM.k2403, hM.k2404, hM.k2405, hM.k2406, hM.k2407, hM.k2408, hM.k2409, hM.k2410, hM.k2411, hM.k2412, hM.k2413, hM.k2414, hM.k2415, hM.k2416, hM.k2417, hM.k2418, hM.k2419, hM.k2420, hM.k2421, hM.k2422, hM.k2423, hM.l2391, hM.l2392, hM.l2393, hM.l2394, hM.l2395, hM.l2396, hM.l2397, hM.l2398, hM.l2399, hM.l2400, hM.l2401, hM.l2402, hM.l2403, hM.l2404, hM.l2405, hM.l2406, hM.l2407, hM.l2408, hM.l2409, hM.l2410, hM.l2411, hM.l2412, hM.l2413, hM.l2414, hM.l2415, hM.l2416, hM.l2417, hM.l2418, hM.l2419, hM.l2420, hM.l2421, hM.l2422, hM.l2423]) <;> (try omega))) only [↓reduceIte, ↓z_ite, ↓zR, ↓zB_R, ↓zB_B, ↓zB_ite, ↓zB_gI, ↓zB_pI, ↓zB_pZ, ↓zB_aK, ↓zB_G, ↓zB_lI, ↓zB_lZ, ↓zB_wI, ↓zB_wZ, ↓zB_lIl, ↓zB_wIl, zB_pI, zB_pZ, zB_lI, zB_lZ, zB_wI, zB_wZ, z_addl, z_ladd, z_mull, z_lmul, nI_add, z_subl, Nat.not_lt_zero, z_10, z_01, z_bitc, z_b0, z_b1, ↓zB_Gb, ↓zB_G0, ↓zB_G1, z_eql, z_leq, z_ltl, z_llt, z_eq, z_lt, z_m1lt, hM.k, hM.k2391, hM.k2392, hM.k2393, hM.k2394, hM.k2395, hM.k2396, hM.k2397, hM.k2398, hM.k2399, hM.k2400, hM.k2401, hM.k2402, hM.k2403, hM.k2404, hM.k2405, hM.k2406, hM.k2407, hM.k2408, hM.k2409, hM.k2410, hM.k2411, hM.k2412, hM.k2413, hM.k2414, hM.k2415, hM.k2416, hM.k2417, hM.k2418, hM.k2419, hM.k2420, hM.k2421, hM.k2422, hM.k2423, hM.l2391, hM.l2392, hM.l2393, hM.l2394, hM.l2395, hM.l2396, hM.l2397, hM.l2398, hM.l2399, hM.l2400, hM.l2401, hM.l2402, hM.l2403, hM.l2404, hM.l2405, hM.l2406, hM.l2407, hM.l2408, hM.l2409, hM.l2410, hM.l2411, hM.l2412, hM.l2413, hM.l2414, hM.l2415, hM.l2416, hM.l2417, hM.l2418, hM.l2419, hM.l2420, hM.l2421, hM.l2422, hM.l2423, ↓hM.g1, ↓hM.g5, ↓hM.g6, ↓hM.g7, ↓hM.g8, ↓hM.g9, ↓hM.g10, ↓hM.g11, ↓hM.g12, ↓hM.g13, ↓hM.g14, ↓hM.g16, ↓hM.g17, ↓hM.g18, ↓hM.g19, ↓hM.g21, ↓hM.g22, ↓hM.g23, ↓hM.g24, ↓hM.g25, ↓hM.g27, ↓hM.g28, ↓hM.g30, ↓hM.g31, ↓hM.g32, ↓hM.g36, ↓hM.g37, ↓hM.g39, ↓hM.g40, ↓hM.g41, ↓hM.g43, ↓hM.g45, ↓hM.g46, ↓zB_c e206, zB_c e206, Bool.true_eq_false, ↓zB_c e272, zB_c e272, ↓zB_c e178, zB_c e178, ↓zB_c e1, zB_c e1, ↓zB_c e207, zB_c e207, gd, ↓zB_c e2, zB_c e2, ↓zB_c e3, zB_c e3, ↓zB_c e213, zB_c e213, z_oI, gj]
    | none =>
      rw [hom] at e213
      rw [z_fm_above hwf hdn hom] at e283
      cases hf : z_fm A.2.1 d (z_hd A.2.1 k' 2) (z_hd A.2.1 k' 3) with
      | some j =>
        rw [hf] at er e283
        obtain ⟨f1, f2, f3, _⟩ := (z_fm_some hwf hdn).mp hf
        have hne : z_own A.2.1 j ≠ d := z_om_none.mp hom j f1 f2
        have er : z_puR A.2.1 k' = -11 := er.trans (if_neg (fun e => hne ((nI_eq (by have := (z_own_e hwf f1).1; omega) (by omega)).mp e)))
        rw [er]
        refine m_no hw (by decide) (m' := m2) ?_ h0.1 h0.2.2 fr0
        unfold f301 f301_26
        simp (disch := ((try simp only [true_or, or_true, hM.k, hM.k2391, hM.k2392, hM.k2393, hM.k2394, hM.k2395, hM.k2396, hM.k2397, hM.k2398, hM.k2399, hM.k2400, hM.k2401, hM.k2402, hM.k2403, hM.k2404, hM.k2405, hM.k2406, hM.k2407, hM.k2408, hM.k2409, hM.k2410, hM.k2411, hM.k2412, hM.k2413, hM.k2414, hM.k2415, hM.k2416, hM.k2417, hM.k2418, hM.k2419, hM.k2420, hM.k2421, hM.k2422, hM.k2423, hM.l2391, hM.l2392, hM.l2393, hM.l2394, hM.l2395, hM.l2396, hM.l2397, hM.l2398, hM.l2399, hM.l2400, hM.l2401, hM.l2402, hM.l2403, hM.l2404, hM.l2405, hM.l2406, hM.l2407, hM.l2408, hM.l2409, hM.l2410, hM.l2411, hM.l2412, hM.l2413, hM.l2414, hM.l2415, hM.l2416, hM.l2417, hM.l2418, hM.l2419, hM.l2420, hM.l2421, hM.l2422, hM.l2423]) <;> (try omega))) only [↓reduceIte, ↓z_ite, ↓zR, ↓zB_R, ↓zB_B, ↓zB_ite, ↓zB_gI, ↓zB_pI, ↓zB_pZ, ↓zB_aK, ↓zB_G, ↓zB_lI, ↓zB_lZ, ↓zB_wI, ↓zB_wZ, ↓zB_lIl, ↓zB_wIl, zB_pI, zB_pZ, zB_lI, zB_lZ, zB_wI, zB_wZ, z_addl, z_ladd, z_mull, z_lmul, nI_add, z_subl, Nat.not_lt_zero, z_10, z_01, z_bitc, z_b0, z_b1, ↓zB_Gb, ↓zB_G0, ↓zB_G1, z_eql, z_leq, z_ltl, z_llt, z_eq, z_lt, z_m1lt, hM.k, hM.k2391, hM.k2392, hM.k2393, hM.k2394, hM.k2395, hM.k2396, hM.k2397, hM.k2398, hM.k2399, hM.k2400, hM.k2401, hM.k2402, hM.k2403, hM.k2404, hM.k2405, hM.k2406, hM.k2407, hM.k2408, hM.k2409, hM.k2410, hM.k2411, hM.k2412, hM.k2413, hM.k2414, hM.k2415, hM.k2416, hM.k2417, hM.k2418, hM.k2419, hM.k2420, hM.k2421, hM.k2422, hM.k2423, hM.l2391, hM.l2392, hM.l2393, hM.l2394, hM.l2395, hM.l2396, hM.l2397, hM.l2398, hM.l2399, hM.l2400, hM.l2401, hM.l2402, hM.l2403, hM.l2404, hM.l2405, hM.l2406, hM.l2407, hM.l2408, hM.l2409, hM.l2410, hM.l2411, hM.l2412, hM.l2413, hM.l2414, hM.l2415, hM.l2416, hM.l2417, hM.l2418, hM.l2419, hM.l2420, hM.l2421, hM.l2422, hM.l2423, ↓hM.g1, ↓hM.g5, ↓hM.g6, ↓hM.g7, ↓hM.g8, ↓hM.g9, ↓hM.g10, ↓hM.g11, ↓hM.g12, ↓hM.g13, ↓hM.g14, ↓hM.g16, ↓hM.g17, ↓hM.g18, ↓hM.g19, ↓hM.g21, ↓hM.g22, ↓hM.g23, ↓hM.g24, ↓hM.g25, ↓hM.g27, ↓hM.g28, ↓hM.g30, ↓hM.g31, ↓hM.g32, ↓hM.g36, ↓hM.g37, ↓hM.g39, ↓hM.g40, ↓hM.g41, ↓hM.g43, ↓hM.g45, ↓hM.g46, ↓zB_c e206, zB_c e206, Bool.true_eq_false, ↓zB_c e272, zB_c e272, ↓zB_c e178, zB_c e178, ↓zB_c e1, zB_c e1, ↓zB_c e207, zB_c e207, gd, ↓zB_c e2, zB_c e2, ↓zB_c e3, zB_c e3, ↓zB_c e213, zB_c e213, z_oI, ↓zB_c e283, zB_c e283, Option.isSome_some]
      | none =>
        rw [hf] at er e283
        have er : z_puR A.2.1 k' = if z_wr (z_puQ A.2.1 k') = -1 then nI d else -8 := er
        have hwQ := z_puQ_wf hwf hk' hl hd hdn hf
        have h60Q : z_b60 (z_puQ A.2.1 k') := z_sM_b60 h60 (h60 k' hk')
        obtain ⟨m3, e203, h3, mb3, mz3, mF3, fr3⟩ := f203_w (S := S) hM h0
        have hx : z_mb (z_hx m3 2 k' 1 (nI d)) 2 (z_puQ A.2.1 k') := by
          have := z_mb_hx (v := nI d) mb3 hk' (w := 1) (by decide)
          unfold z_puQ; rw [hd]; exact this
        have hK := z_hx_wK (m := m3) (k := k') (w := 1) (v := nI d) (by omega) (by decide)
        have h4 := z_m0_wK hK h3
        obtain ⟨m5, e235, hF5, _⟩ := f235_sp (S := S) (B := 2) hx hM hwQ rfl
        have h5 := z_MR_LF h4.1 hF5
        have c5 : m5 2390 0 = 0 := by rw [hF5 _ (by decide) (by decide) (by decide) (by decide)]; exact h4.2.2
        have fr5 : ∀ b, b < 2390 ∨ 2424 ≤ b → m5 b = m b := fun b hb => by
          rw [hF5 b (by omega) (by omega) (by omega) (by omega), hK.mF.2.2.2 b hb, mF3.2.2.2 b hb]; exact fr0 b hb
        by_cases g : z_wr (z_puQ A.2.1 k') = -1
        · have er : z_puR A.2.1 k' = nI d := er.trans (if_pos g)
          rw [g] at e235
          rw [er]
          have e2391 : m5 2391 = z_hx m3 2 k' 1 (nI d) 2391 := hF5 _ (by decide) (by decide) (by decide) (by decide)
          obtain ⟨m6, e271, t1, t2, t3⟩ := f271_y (S := S) (Q := z_puQ A.2.1 k') hM hw h5 (z_mb_fr e2391 hx) (z_mz_fr e2391 (hK.mz mz3)) rfl (fun j hj _ => h60Q j hj)
          refine m_yes hw (nI_pos (by omega)) (m' := m6) ?_ t1 (by rw [t3 0 (by decide)]; exact c5) (fun b hb => by rw [t2 b (by omega) (by omega)]; exact fr5 b hb) hwQ h60Q rfl
          unfold f301 f301_26
          simp (disch := ((try simp only [true_or, or_true, hM.k, hM.k2391, hM.k2392, hM.k2393, hM.k2394, hM.k2395, hM.k2396, hM.k2397, hM.k2398, hM.k2399, hM.k2400, hM.k2401, hM.k2402, hM.k2403, hM.k2404, hM.k2405, hM.k2406, hM.k2407, hM.k2408, hM.k2409, hM.k2410, hM.k2411, hM.k2412, hM.k2413, hM.k2414, hM.k2415, hM.k2416, hM.k2417, hM.k2418, hM.k2419, hM.k2420, hM.k2421, hM.k2422, hM.k2423, hM.l2391, hM.l2392, hM.l2393, hM.l2394, hM.l2395, hM.l2396, hM.l2397, hM.l2398, hM.l2399, hM.l2400, hM.l2401, hM.l2402, hM.l2403, hM.l2404, hM.l2405, hM.l2406, hM.l2407, hM.l2408, hM.l2409, hM.l2410, hM.l2411, hM.l2412, hM.l2413, hM.l2414, hM.l2415, hM.l2416, hM.l2417, hM.l2418, hM.l2419, hM.l2420, hM.l2421, hM.l2422, hM.l2423]) <;> (try omega))) only [↓reduceIte, ↓z_ite, ↓zR, ↓zB_R, ↓zB_B, ↓zB_ite, ↓zB_gI, ↓zB_pI, ↓zB_pZ, ↓zB_aK, ↓zB_G, ↓zB_lI, ↓zB_lZ, ↓zB_wI, ↓zB_wZ, ↓zB_lIl, ↓zB_wIl, zB_pI, zB_pZ, zB_lI, zB_lZ, zB_wI, zB_wZ, z_addl, z_ladd, z_mull, z_lmul, nI_add, z_subl, Nat.not_lt_zero, z_10, z_01, z_bitc, z_b0, z_b1, ↓zB_Gb, ↓zB_G0, ↓zB_G1, z_eql, z_leq, z_ltl, z_llt, z_eq, z_lt, z_m1lt, hM.k, hM.k2391, hM.k2392, hM.k2393, hM.k2394, hM.k2395, hM.k2396, hM.k2397, hM.k2398, hM.k2399, hM.k2400, hM.k2401, hM.k2402, hM.k2403, hM.k2404, hM.k2405, hM.k2406, hM.k2407, hM.k2408, hM.k2409, hM.k2410, hM.k2411, hM.k2412, hM.k2413, hM.k2414, hM.k2415, hM.k2416, hM.k2417, hM.k2418, hM.k2419, hM.k2420, hM.k2421, hM.k2422, hM.k2423, hM.l2391, hM.l2392, hM.l2393, hM.l2394, hM.l2395, hM.l2396, hM.l2397, hM.l2398, hM.l2399, hM.l2400, hM.l2401, hM.l2402, hM.l2403, hM.l2404, hM.l2405, hM.l2406, hM.l2407, hM.l2408, hM.l2409, hM.l2410, hM.l2411, hM.l2412, hM.l2413, hM.l2414, hM.l2415, hM.l2416, hM.l2417, hM.l2418, hM.l2419, hM.l2420, hM.l2421, hM.l2422, hM.l2423, ↓hM.g1, ↓hM.g5, ↓hM.g6, ↓hM.g7, ↓hM.g8, ↓hM.g9, ↓hM.g10, ↓hM.g11, ↓hM.g12, ↓hM.g13, ↓hM.g14, ↓hM.g16, ↓hM.g17, ↓hM.g18, ↓hM.g19, ↓hM.g21, ↓hM.g22, ↓hM.g23, ↓hM.g24, ↓hM.g25, ↓hM.g27, ↓hM.g28, ↓hM.g30, ↓hM.g31, ↓hM.g32, ↓hM.g36, ↓hM.g37, ↓hM.g39, ↓hM.g40, ↓hM.g41, ↓hM.g43, ↓hM.g45, ↓hM.g46, ↓zB_c e206, zB_c e206, Bool.true_eq_false, ↓zB_c e272, zB_c e272, ↓zB_c e178, zB_c e178, ↓zB_c e1, zB_c e1, ↓zB_c e207, zB_c e207, gd, ↓zB_c e2, zB_c e2, ↓zB_c e3, zB_c e3, ↓zB_c e213, zB_c e213, z_oI, ↓zB_c e283, zB_c e283, Option.isSome_none, ↓zB_c e203, zB_c e203, ↓r197_2_1 (k := k') hM (show k' < 24 by omega), ↓zB_c e235, zB_c e235, ↓zB_c e271, zB_c e271]
        · have er : z_puR A.2.1 k' = -8 := er.trans (if_neg g)
          rw [er]
          refine m_no hw (by decide) (m' := m5) ?_ h5 c5 fr5
          unfold f301 f301_26
          simp (disch := ((try simp only [true_or, or_true, hM.k, hM.k2391, hM.k2392, hM.k2393, hM.k2394, hM.k2395, hM.k2396, hM.k2397, hM.k2398, hM.k2399, hM.k2400, hM.k2401, hM.k2402, hM.k2403, hM.k2404, hM.k2405, hM.k2406, hM.k2407, hM.k2408, hM.k2409, hM.k2410, hM.k2411, hM.k2412, hM.k2413, hM.k2414, hM.k2415, hM.k2416, hM.k2417, hM.k2418, hM.k2419, hM.k2420, hM.k2421, hM.k2422, hM.k2423, hM.l2391, hM.l2392, hM.l2393, hM.l2394, hM.l2395, hM.l2396, hM.l2397, hM.l2398, hM.l2399, hM.l2400, hM.l2401, hM.l2402, hM.l2403, hM.l2404, hM.l2405, hM.l2406, hM.l2407, hM.l2408, hM.l2409, hM.l2410, hM.l2411, hM.l2412, hM.l2413, hM.l2414, hM.l2415, hM.l2416, hM.l2417, hM.l2418, hM.l2419, hM.l2420, hM.l2421, hM.l2422, hM.l2423]) <;> (try omega))) only [↓reduceIte, ↓z_ite, ↓zR, ↓zB_R, ↓zB_B, ↓zB_ite, ↓zB_gI, ↓zB_pI, ↓zB_pZ, ↓zB_aK, ↓zB_G, ↓zB_lI, ↓zB_lZ, ↓zB_wI, ↓zB_wZ, ↓zB_lIl, ↓zB_wIl, zB_pI, zB_pZ, zB_lI, zB_lZ, zB_wI, zB_wZ, z_addl, z_ladd, z_mull, z_lmul, nI_add, z_subl, Nat.not_lt_zero, z_10, z_01, z_bitc, z_b0, z_b1, ↓zB_Gb, ↓zB_G0, ↓zB_G1, z_eql, z_leq, z_ltl, z_llt, z_eq, z_lt, z_m1lt, hM.k, hM.k2391, hM.k2392, hM.k2393, hM.k2394, hM.k2395, hM.k2396, hM.k2397, hM.k2398, hM.k2399, hM.k2400, hM.k2401, hM.k2402, hM.k2403, hM.k2404, hM.k2405, hM.k2406, hM.k2407, hM.k2408, hM.k2409, hM.k2410, hM.k2411, hM.k2412, hM.k2413, hM.k2414, hM.k2415, hM.k2416, hM.k2417, hM.k2418, hM.k2419, hM.k2420, hM.k2421, hM.k2422, hM.k2423, hM.l2391, hM.l2392, hM.l2393, hM.l2394, hM.l2395, hM.l2396, hM.l2397, hM.l2398, hM.l2399, hM.l2400, hM.l2401, hM.l2402, hM.l2403, hM.l2404, hM.l2405, hM.l2406, hM.l2407, hM.l2408, hM.l2409, hM.l2410, hM.l2411, hM.l2412, hM.l2413, hM.l2414, hM.l2415, hM.l2416, hM.l2417, hM.l2418, hM.l2419, hM.l2420, hM.l2421, hM.l2422, hM.l2423, ↓hM.g1, ↓hM.g5, ↓hM.g6, ↓hM.g7, ↓hM.g8, ↓hM.g9, ↓hM.g10, ↓hM.g11, ↓hM.g12, ↓hM.g13, ↓hM.g14, ↓hM.g16, ↓hM.g17, ↓hM.g18, ↓hM.g19, ↓hM.g21, ↓hM.g22, ↓hM.g23, ↓hM.g24, ↓hM.g25, ↓hM.g27, ↓hM.g28, ↓hM.g30, ↓hM.g31, ↓hM.g32, ↓hM.g36, ↓hM.g37, ↓hM.g39, ↓hM.g40, ↓hM.g41, ↓hM.g43, ↓hM.g45, ↓hM.g46, ↓zB_c e206, zB_c e206, Bool.true_eq_false, ↓zB_c e272, zB_c e272, ↓zB_c e178, zB_c e178, ↓zB_c e1, zB_c e1, ↓zB_c e207, zB_c e207, gd, ↓zB_c e2, zB_c e2, ↓zB_c e3, zB_c e3, ↓zB_c e213, zB_c e213, z_oI, ↓zB_c e283, zB_c e283, Option.isSome_none, ↓zB_c e203, zB_c e203, ↓r197_2_1 (k := k') hM (show k' < 24 by omega), ↓zB_c e235, zB_c e235, g]
end
