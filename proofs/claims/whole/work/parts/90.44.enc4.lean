-- deps: 90.43.enc3
/-! a field hidden: the class, all of it -/
section
variable {S : z_S} {m : z_m} {p q : Nat} {P : z_Pg} {A : z_A}
theorem z_cp_fr3 {m' : z_m} (hw : z_wf P) (h : ∀ a, p ≤ a → a < p + 179 → m' a = m a) (hcp : z_cp m p P) : z_cp m' p P := z_cp_fr hw.2.2.1 (fun a x1 x2 => h a (by omega) (by omega)) (fun k hk a x1 x2 => h a (by unfold z_bi at *; omega) (by have := hw.2.2.1; unfold z_bi at *; omega)) hcp
theorem z_addM_body {m' : z_m} {H : Nat → Int32} {l l' : List z_N} (h : z_cp m q (z_addM P H l)) (hct : ∀ k, k < z_nm P + 1 → z_cnt (z_addM P H l) k ≤ 2) (h24 : z_nm P < 24) (h0 : H 0 = 1) (hF : z_bF (z_bi q (z_nm P)) m m') (hb : z_cb m' (z_bi q (z_nm P)) 60 l') : z_cp m' q (z_addM P H l') := by
  have := z_cp_body h hct (k := z_nm P) (Nat.lt_succ_self _) h24 (by unfold z_liv; rw [z_addM_hd_s, h0]; rfl) hF hb
  rw [z_sM_addM, show z_hd (z_addM P H l) (z_nm P) = H from funext z_addM_hd_s] at this
  exact this
theorem z_addM_ct {H : Nat → Int32} {l : List z_N} (hct : ∀ k, k < z_nm P → z_cnt P k ≤ 2) (h3 : (H 3).toNatClampNeg ≤ 2) : ∀ k, k < z_nm P + 1 → z_cnt (z_addM P H l) k ≤ 2 := fun k hk => by
  unfold z_cnt
  by_cases g : k = z_nm P
  · rw [g, z_addM_hd_s]; exact h3
  · rw [z_addM_hd_o g]; exact hct k (by omega)
/-- both methods -/
theorem f67_a (hq : z_PS S q) (lo : 242 ≤ q) (hcq : z_cp m q P) (hw : z_wf P) {c f g s : Nat} (hc : c < z_nc P) (hf : f < 16) (hg : g < 16) (hs : s < 16) (hex : z_fld P c f ≠ 0) (h24 : z_nm P < 23) (hno : ¬ z_ham P c (nI g) 0 = true) : ∃ m1 m2 m3 m6, f74 q (nI c) (nI g) (z_fld P c f - 2) (z_hp S m) = some (nI (z_nm P), z_hp S m1) ∧ f2 (z_bi q (z_nm P)) 1 (nI f) 0 (z_hp S m1) = some ((), z_hp S m2) ∧ f74 q (nI c) (nI s) (z_fld P c f - 2) (z_hp S m2) = some (nI (z_nm P + 1), z_hp S m3) ∧ (∀ l1, f67_93 l1 q (nI c) (nI f) (nI g) (nI s) (z_fld P c f - 2) (nI (z_nm P + 1)) (z_enO f) (z_hp S m3) = f67_140 l1 q (nI c) (nI f) (nI g) (nI s) 0 0 (z_hp S m6)) ∧ z_cp m6 q (z_en2 P c f (nI g) (nI s)) ∧ m6 q 14 = 0 ∧ ∀ a, (a < q ∨ q + 179 ≤ a) → m6 a = m a := by
  have h6 := hw.1.1
  have hqk := hq.k
  have hct : ∀ k, k < z_nm P → z_cnt P k ≤ 2 := fun j hj => (hw.2.2.2.1 j hj).2.2.2.1.1
  have hw1 := z_en1_wf hw hc hf hg hex (by omega) hno
  have hb0 := hq.B (k := z_nm P) (by omega)
  have hb1 := hq.B (k := z_nm P + 1) (by omega)
  have hb1k := hb1.k
  have hb0k := hb0.k
  -- the getter
  obtain ⟨m1, e1, x1, f1, fr1, cb1⟩ := f74_spb (l := []) hq hcq hw (by omega) (nI c) (nI g) (z_fld P c f - 2)
  have x1 : z_cpX m1 q (z_addM P (z_enG P c f (nI g)) []) (z_nm P) := z_cpX_H x1 (fun w a b => by
    unfold z_enG z_hdr
    by_cases g0 : w = 0
    · rw [g0]; rfl
    · by_cases g1 : w = 1
      · rw [g1]; rfl
      · by_cases g2 : w = 2
        · rw [g2]; rfl
        · by_cases g3 : w = 3
          · rw [g3]; rfl
          · simp only [if_neg g0, if_neg g1, if_neg g2, if_neg g3, if_neg a, if_neg b]) (fun j hj => absurd hj (Nat.not_lt_zero j))
  have cp1 := z_cpX_b x1 cb1
  obtain ⟨m2, e2, cb2, F2⟩ := f2_sp hb0 cb1 (show ([] : List z_N).length < 60 by decide) (k := 1) (v := nI f) (a := 0)
  have e2 : f2 (z_bi q (z_nm P)) 1 (nI f) 0 (z_hp S m1) = some ((), z_hp S m2) := e2
  have cp2 : z_cp m2 q (z_en1 P c f (nI g)) := z_addM_body cp1 (z_addM_ct hct (by show (0 : Int32).toNatClampNeg ≤ 2; decide)) (by omega) rfl F2 cb2
  have fr2 : ∀ a, (a < q ∨ q + 179 ≤ a) → m2 a = m a := fun a ha => by rw [F2.1 a (by unfold z_bi; omega) (by unfold z_bi; omega) (by unfold z_bi; omega) (by unfold z_bi; omega)]; exact fr1 a ha
  -- the setter
  obtain ⟨m3, e3, x3, f3, fr3, cb3⟩ := f74_spb (l := []) hq cp2 hw1 (show z_nm P + 1 < 24 by omega) (nI c) (nI s) (z_fld P c f - 2)
  have cp3 := z_cpX_b x3 cb3
  have hct1 : ∀ k, k < z_nm P + 1 → z_cnt (z_en1 P c f (nI g)) k ≤ 2 := z_addM_ct hct (by show (0 : Int32).toNatClampNeg ≤ 2; decide)
  have hh3 : ∀ w, z_hd (z_addM (z_en1 P c f (nI g)) (z_hdr (nI c) (nI s) 0 (-1) (-1) 0 0 (z_fld P c f - 2)) []) (z_nm P + 1) w = z_hdr (nI c) (nI s) 0 (-1) (-1) 0 0 (z_fld P c f - 2) w := fun w => z_addM_hd_s (P := z_en1 P c f (nI g)) w
  obtain ⟨m4, e4, cp4, fr4⟩ := f75_gen (k := z_nm P + 1) (j := 0) (a := z_enO f) (t := z_fld P c f - 2) (H' := z_enS P c f (nI s)) hq cp3 (show z_nm P + 2 ≤ 24 by omega) (z_addM_ct hct1 (by show (0 : Int32).toNatClampNeg ≤ 2; decide)) (show z_nm P + 1 < z_nm P + 2 by omega) (by unfold z_liv; rw [hh3]; rfl) (by decide) (by rw [hh3]; rfl) rfl (by rw [hh3]; rfl) (by rw [hh3]; rfl) rfl (by rw [hh3]; rfl) rfl (fun i hi hne => by
    have : i = 1 := by omega
    subst this
    rw [hh3]; rfl) rfl (fun i hi => absurd hi (Nat.not_lt_zero i))
  have cp4 : z_cp m4 q (z_addM (z_en1 P c f (nI g)) (z_enS P c f (nI s)) []) := by
    have := cp4
    rw [show z_nm P + 1 = z_nm (z_en1 P c f (nI g)) from rfl, z_sM_addM, z_addM_bd_s] at this
    exact this
  have cb4 : z_cb m4 (z_bi q (z_nm P + 1)) 60 [] := z_cb_fr (fun a x1 x2 => fr4 a (by unfold z_bi at x1; omega) (by unfold z_bi at x1; omega) (by unfold z_bi at x1; omega)) cb3
  obtain ⟨m5, e5, cb5, F5⟩ := f2_sp hb1 cb4 (show ([] : List z_N).length < 60 by decide) (k := 6) (v := nI f) (a := 0)
  have e5 : f2 (z_bi q (z_nm P + 1)) 6 (nI f) 1 (z_hp S m4) = some ((), z_hp S m5) := e5
  obtain ⟨m6, e6, cb6, F6⟩ := f2_sp hb1 cb5 (show ([] ++ [((6 : Int32), nI f, (0 : Int32))] : List z_N).length < 60 from (show 1 < 60 by decide)) (k := 1) (v := z_enO f) (a := 0)
  have e6 : f2 (z_bi q (z_nm P + 1)) 1 (z_enO f) 0 (z_hp S m5) = some ((), z_hp S m6) := e6
  have cp6 : z_cp m6 q (z_en2 P c f (nI g) (nI s)) := z_addM_body (P := z_en1 P c f (nI g)) cp4 (z_addM_ct hct1 (by show (1 : Int32).toNatClampNeg ≤ 2; decide)) (show z_nm P + 1 < 24 by omega) rfl (F5.trans F6) cb6
  refine ⟨m1, m2, m3, m6, e1, e2, e3, fun l1 => ?_, cp6, ?_, fun a ha => ?_⟩
  · unfold f67_93
    have h24' : z_nm P + 1 < 24 := by omega
    simp (disch := ((try simp only [true_or, or_true, hq.k, hq.k1, hq.k2, hq.k3, hq.k4, hq.k5, hq.k6, hq.k7, hq.k8, hq.k9, hq.k10, hq.l1, hq.l2, hq.l3, hq.l4, hq.l5, hq.l6, hq.l7, hq.l8, hq.l9, hq.l10, hb1.k, hb1.k1, hb1.k2, hb1.k3, hb1.k4, hb1.k5, hb1.k6, hb1.l1, hb1.l2, hb1.l3, hb1.l4, hb1.l5, hb1.l6, hqk, hb1k]) <;> (try omega))) only [↓reduceIte, ↓z_ite, ↓zR, ↓zB_R, ↓zB_B, ↓zB_ite, ↓zB_gI, ↓zB_pI, ↓zB_pZ, ↓zB_aK, ↓zB_G, ↓zB_lI, ↓zB_lZ, ↓zB_wI, ↓zB_wZ, ↓zB_lIl, ↓zB_wIl, zB_pI, zB_pZ, zB_lI, zB_lZ, zB_wI, zB_wZ, z_addl, z_ladd, z_mull, z_lmul, nI_add, z_subl, Nat.not_lt_zero, z_10, z_01, z_bitc, z_b0, z_b1, ↓zB_Gb, ↓zB_G0, ↓zB_G1, z_eql, z_leq, z_ltl, z_llt, z_eq, z_lt, z_m1lt, hq.k, hq.k1, hq.k2, hq.k3, hq.k4, hq.k5, hq.k6, hq.k7, hq.k8, hq.k9, hq.k10, hq.l1, hq.l2, hq.l3, hq.l4, hq.l5, hq.l6, hq.l7, hq.l8, hq.l9, hq.l10, hb1.k, hb1.k1, hb1.k2, hb1.k3, hb1.k4, hb1.k5, hb1.k6, hb1.l1, hb1.l2, hb1.l3, hb1.l4, hb1.l5, hb1.l6, hqk, hb1k, ↓hq.g0, ↓hq.g1, ↓hq.g2, ↓hq.g3, ↓hq.g4, ↓hq.g5, ↓hq.g6, ↓hq.g7, ↓hq.g8, ↓hq.g9, ↓hq.gb, hq.gb, ↓hb1.g0, ↓hb1.g1, ↓hb1.g2, ↓hb1.g3, ↓hb1.g4, ↓hb1.g5, ↓zB_c e4, zB_c e4, h24', ↓zB_c e5, zB_c e5, ↓zB_c e6, zB_c e6]
  · rw [F6.1 q (by unfold z_bi; omega) (by unfold z_bi; omega) (by unfold z_bi; omega) (by unfold z_bi; omega), F5.1 q (by unfold z_bi; omega) (by unfold z_bi; omega) (by unfold z_bi; omega) (by unfold z_bi; omega), fr4 q (by omega) (by omega) (by omega)]; exact f3
  · rw [F6.1 a (by unfold z_bi; omega) (by unfold z_bi; omega) (by unfold z_bi; omega) (by unfold z_bi; omega), F5.1 a (by unfold z_bi; omega) (by unfold z_bi; omega) (by unfold z_bi; omega) (by unfold z_bi; omega), fr4 a (by omega) (by omega) (by omega), fr3 a ha]; exact fr2 a ha
/-- Mover.hide -/
theorem f67_sp (hpre : z_Pre S m p q P) (hw : z_wf P) (h60 : z_b60 P) {c f g s : Nat} (hc : c < z_nc P) (hf : f < 16) (hg : g < 16) (hs : s < 16) (hex : z_fld P c f ≠ 0) : ∃ m', f67 61 p q (nI c) (nI f) (nI g) (nI s) (z_hp S m) = some (z_enR P c f (nI g) (nI s), z_hp S m') ∧ z_Post m m' q (z_enR P c f (nI g) (nI s)) (z_enQ P c f (nI g) (nI s)) := by
  obtain ⟨⟨hX, hp, hq⟩, ⟨lo, lo2, hpq⟩, ⟨hcp, hT⟩, ⟨hcq, h14⟩, hsh⟩ := hpre
  have h24 := hw.2.2.1
  have h6 := hw.1.1
  have hpk := hp.k
  have hqk := hq.k
  have h11 := hcp.2.1.1
  have e1 := f91_sp hp hcp hw hc (nI g) 0
  have e2 := f91_sp hp hcp hw hc (nI s) 1
  have e3 := f85_sp hp hcp hw hc (nI f)
  rw [if_pos ((z_in_iff (by decide)).mpr ⟨f, hf, rfl⟩), nI_clamp (by omega), (z_fld_ty hw hc hf hex).2] at e3
  have stay : ∀ r, r < 0 → f67 61 p q (nI c) (nI f) (nI g) (nI s) (z_hp S m) = some (r, z_hp S m) → z_enR P c f (nI g) (nI s) = r → ∃ m', f67 61 p q (nI c) (nI f) (nI g) (nI s) (z_hp S m) = some (z_enR P c f (nI g) (nI s), z_hp S m') ∧ z_Post m m' q (z_enR P c f (nI g) (nI s)) (z_enQ P c f (nI g) (nI s)) := fun r hr e er => by
    rw [er]
    exact ⟨m, e, fun g => absurd hr g, hcq.2.2.1, z_oF.refl q m⟩
  by_cases y1 : z_ham P c (nI g) 0 = true
  · refine stay (-1) (by decide) ?_ (if_pos y1)
    rw [y1] at e1
    unfold f67 f67_22
    simp (disch := ((try simp only [true_or, or_true, hp.k, hp.k1, hp.k2, hp.k3, hp.k4, hp.k5, hp.k6, hp.k7, hp.k8, hp.k9, hp.k10, hp.l1, hp.l2, hp.l3, hp.l4, hp.l5, hp.l6, hp.l7, hp.l8, hp.l9, hp.l10, hpk]) <;> (try omega))) only [↓reduceIte, ↓z_ite, ↓zR, ↓zB_R, ↓zB_B, ↓zB_ite, ↓zB_gI, ↓zB_pI, ↓zB_pZ, ↓zB_aK, ↓zB_G, ↓zB_lI, ↓zB_lZ, ↓zB_wI, ↓zB_wZ, ↓zB_lIl, ↓zB_wIl, zB_pI, zB_pZ, zB_lI, zB_lZ, zB_wI, zB_wZ, z_addl, z_ladd, z_mull, z_lmul, nI_add, z_subl, Nat.not_lt_zero, z_10, z_01, z_bitc, z_b0, z_b1, ↓zB_Gb, ↓zB_G0, ↓zB_G1, z_eql, z_leq, z_ltl, z_llt, z_eq, z_lt, z_m1lt, hp.k, hp.k1, hp.k2, hp.k3, hp.k4, hp.k5, hp.k6, hp.k7, hp.k8, hp.k9, hp.k10, hp.l1, hp.l2, hp.l3, hp.l4, hp.l5, hp.l6, hp.l7, hp.l8, hp.l9, hp.l10, hpk, ↓hp.g0, ↓hp.g1, ↓hp.g2, ↓hp.g3, ↓hp.g4, ↓hp.g5, ↓hp.g6, ↓hp.g7, ↓hp.g8, ↓hp.g9, ↓hp.gb, hp.gb, ↓zB_c e1, zB_c e1, Bool.true_eq_false]
  have y1' : z_ham P c (nI g) 0 = false := by simpa using y1
  rw [y1'] at e1
  by_cases y2 : z_ham P c (nI s) 1 = true
  · refine stay (-1) (by decide) ?_ (by unfold z_enR; rw [if_neg y1, if_pos y2])
    rw [y2] at e2
    unfold f67 f67_22
    simp (disch := ((try simp only [true_or, or_true, hp.k, hp.k1, hp.k2, hp.k3, hp.k4, hp.k5, hp.k6, hp.k7, hp.k8, hp.k9, hp.k10, hp.l1, hp.l2, hp.l3, hp.l4, hp.l5, hp.l6, hp.l7, hp.l8, hp.l9, hp.l10, hpk]) <;> (try omega))) only [↓reduceIte, ↓z_ite, ↓zR, ↓zB_R, ↓zB_B, ↓zB_ite, ↓zB_gI, ↓zB_pI, ↓zB_pZ, ↓zB_aK, ↓zB_G, ↓zB_lI, ↓zB_lZ, ↓zB_wI, ↓zB_wZ, ↓zB_lIl, ↓zB_wIl, zB_pI, zB_pZ, zB_lI, zB_lZ, zB_wI, zB_wZ, z_addl, z_ladd, z_mull, z_lmul, nI_add, z_subl, Nat.not_lt_zero, z_10, z_01, z_bitc, z_b0, z_b1, ↓zB_Gb, ↓zB_G0, ↓zB_G1, z_eql, z_leq, z_ltl, z_llt, z_eq, z_lt, z_m1lt, hp.k, hp.k1, hp.k2, hp.k3, hp.k4, hp.k5, hp.k6, hp.k7, hp.k8, hp.k9, hp.k10, hp.l1, hp.l2, hp.l3, hp.l4, hp.l5, hp.l6, hp.l7, hp.l8, hp.l9, hp.l10, hpk, ↓hp.g0, ↓hp.g1, ↓hp.g2, ↓hp.g3, ↓hp.g4, ↓hp.g5, ↓hp.g6, ↓hp.g7, ↓hp.g8, ↓hp.g9, ↓hp.gb, hp.gb, ↓zB_c e1, zB_c e1, ↓zB_c e2, zB_c e2, Bool.true_eq_false]
  have y2' : z_ham P c (nI s) 1 = false := by simpa using y2
  rw [y2'] at e2
  by_cases y3 : 22 < z_nm P
  · refine stay (-6) (by decide) ?_ (by unfold z_enR; rw [if_neg y1, if_neg y2, if_pos y3])
    unfold f67
    have y3' : 24 < z_nm P + 2 := by omega
    simp (disch := ((try simp only [true_or, or_true, hp.k, hp.k1, hp.k2, hp.k3, hp.k4, hp.k5, hp.k6, hp.k7, hp.k8, hp.k9, hp.k10, hp.l1, hp.l2, hp.l3, hp.l4, hp.l5, hp.l6, hp.l7, hp.l8, hp.l9, hp.l10, hpk]) <;> (try omega))) only [↓reduceIte, ↓z_ite, ↓zR, ↓zB_R, ↓zB_B, ↓zB_ite, ↓zB_gI, ↓zB_pI, ↓zB_pZ, ↓zB_aK, ↓zB_G, ↓zB_lI, ↓zB_lZ, ↓zB_wI, ↓zB_wZ, ↓zB_lIl, ↓zB_wIl, zB_pI, zB_pZ, zB_lI, zB_lZ, zB_wI, zB_wZ, z_addl, z_ladd, z_mull, z_lmul, nI_add, z_subl, Nat.not_lt_zero, z_10, z_01, z_bitc, z_b0, z_b1, ↓zB_Gb, ↓zB_G0, ↓zB_G1, z_eql, z_leq, z_ltl, z_llt, z_eq, z_lt, z_m1lt, hp.k, hp.k1, hp.k2, hp.k3, hp.k4, hp.k5, hp.k6, hp.k7, hp.k8, hp.k9, hp.k10, hp.l1, hp.l2, hp.l3, hp.l4, hp.l5, hp.l6, hp.l7, hp.l8, hp.l9, hp.l10, hpk, ↓hp.g0, ↓hp.g1, ↓hp.g2, ↓hp.g3, ↓hp.g4, ↓hp.g5, ↓hp.g6, ↓hp.g7, ↓hp.g8, ↓hp.g9, ↓hp.gb, hp.gb, ↓zB_c e1, zB_c e1, ↓zB_c e2, zB_c e2, h11, y3']
  have y3' : ¬ 24 < z_nm P + 2 := by omega
  have er : z_enR P c f (nI g) (nI s) = nI (z_enK P c f (z_nm P)) := by unfold z_enR; rw [if_neg y1, if_neg y2, if_neg y3]
  obtain ⟨m1, m2, m3, m6, a1, a2, a3, a4, cp6, f6, fr6⟩ := f67_a hq lo2 hcq hw hc hf hg hs hex (by omega) y1
  have hb0 := hq.B (k := z_nm P) (by omega)
  have hb0k := hb0.k
  have hn24 : z_nm P < 24 := by omega
  have st : f67 61 p q (nI c) (nI f) (nI g) (nI s) (z_hp S m) = f67_140 p q (nI c) (nI f) (nI g) (nI s) 0 0 (z_hp S m6) := by
    rw [← a4 p]
    unfold f67 z_enO
    by_cases f0 : f = 0
    · subst f0
      rw [if_pos rfl]
      simp (disch := ((try simp only [true_or, or_true, hp.k, hp.k1, hp.k2, hp.k3, hp.k4, hp.k5, hp.k6, hp.k7, hp.k8, hp.k9, hp.k10, hp.l1, hp.l2, hp.l3, hp.l4, hp.l5, hp.l6, hp.l7, hp.l8, hp.l9, hp.l10, hq.k, hq.k1, hq.k2, hq.k3, hq.k4, hq.k5, hq.k6, hq.k7, hq.k8, hq.k9, hq.k10, hq.l1, hq.l2, hq.l3, hq.l4, hq.l5, hq.l6, hq.l7, hq.l8, hq.l9, hq.l10, hpk, hqk, hb0.k, hb0.k1, hb0.k2, hb0.k3, hb0.k4, hb0.k5, hb0.k6, hb0.l1, hb0.l2, hb0.l3, hb0.l4, hb0.l5, hb0.l6, hb0k]) <;> (try omega))) only [↓reduceIte, ↓z_ite, ↓zR, ↓zB_R, ↓zB_B, ↓zB_ite, ↓zB_gI, ↓zB_pI, ↓zB_pZ, ↓zB_aK, ↓zB_G, ↓zB_lI, ↓zB_lZ, ↓zB_wI, ↓zB_wZ, ↓zB_lIl, ↓zB_wIl, zB_pI, zB_pZ, zB_lI, zB_lZ, zB_wI, zB_wZ, z_addl, z_ladd, z_mull, z_lmul, nI_add, z_subl, Nat.not_lt_zero, z_10, z_01, z_bitc, z_b0, z_b1, ↓zB_Gb, ↓zB_G0, ↓zB_G1, z_eql, z_leq, z_ltl, z_llt, z_eq, z_lt, z_m1lt, hp.k, hp.k1, hp.k2, hp.k3, hp.k4, hp.k5, hp.k6, hp.k7, hp.k8, hp.k9, hp.k10, hp.l1, hp.l2, hp.l3, hp.l4, hp.l5, hp.l6, hp.l7, hp.l8, hp.l9, hp.l10, hq.k, hq.k1, hq.k2, hq.k3, hq.k4, hq.k5, hq.k6, hq.k7, hq.k8, hq.k9, hq.k10, hq.l1, hq.l2, hq.l3, hq.l4, hq.l5, hq.l6, hq.l7, hq.l8, hq.l9, hq.l10, hpk, hqk, hb0.k, hb0.k1, hb0.k2, hb0.k3, hb0.k4, hb0.k5, hb0.k6, hb0.l1, hb0.l2, hb0.l3, hb0.l4, hb0.l5, hb0.l6, hb0k, ↓hp.g0, ↓hp.g1, ↓hp.g2, ↓hp.g3, ↓hp.g4, ↓hp.g5, ↓hp.g6, ↓hp.g7, ↓hp.g8, ↓hp.g9, ↓hp.gb, hp.gb, ↓hq.g0, ↓hq.g1, ↓hq.g2, ↓hq.g3, ↓hq.g4, ↓hq.g5, ↓hq.g6, ↓hq.g7, ↓hq.g8, ↓hq.g9, ↓hq.gb, hq.gb, ↓hb0.g0, ↓hb0.g1, ↓hb0.g2, ↓hb0.g3, ↓hb0.g4, ↓hb0.g5, ↓zB_c e1, zB_c e1, ↓zB_c e2, zB_c e2, h11, y3', ↓zB_c e3, zB_c e3, ↓zB_c a1, zB_c a1, hn24, ↓zB_c a2, zB_c a2, ↓zB_c a3, zB_c a3]
      first | done | rfl
    · rw [if_neg f0]
      simp (disch := ((try simp only [true_or, or_true, hp.k, hp.k1, hp.k2, hp.k3, hp.k4, hp.k5, hp.k6, hp.k7, hp.k8, hp.k9, hp.k10, hp.l1, hp.l2, hp.l3, hp.l4, hp.l5, hp.l6, hp.l7, hp.l8, hp.l9, hp.l10, hq.k, hq.k1, hq.k2, hq.k3, hq.k4, hq.k5, hq.k6, hq.k7, hq.k8, hq.k9, hq.k10, hq.l1, hq.l2, hq.l3, hq.l4, hq.l5, hq.l6, hq.l7, hq.l8, hq.l9, hq.l10, hpk, hqk, hb0.k, hb0.k1, hb0.k2, hb0.k3, hb0.k4, hb0.k5, hb0.k6, hb0.l1, hb0.l2, hb0.l3, hb0.l4, hb0.l5, hb0.l6, hb0k]) <;> (try omega))) only [↓reduceIte, ↓z_ite, ↓zR, ↓zB_R, ↓zB_B, ↓zB_ite, ↓zB_gI, ↓zB_pI, ↓zB_pZ, ↓zB_aK, ↓zB_G, ↓zB_lI, ↓zB_lZ, ↓zB_wI, ↓zB_wZ, ↓zB_lIl, ↓zB_wIl, zB_pI, zB_pZ, zB_lI, zB_lZ, zB_wI, zB_wZ, z_addl, z_ladd, z_mull, z_lmul, nI_add, z_subl, Nat.not_lt_zero, z_10, z_01, z_bitc, z_b0, z_b1, ↓zB_Gb, ↓zB_G0, ↓zB_G1, z_eql, z_leq, z_ltl, z_llt, z_eq, z_lt, z_m1lt, hp.k, hp.k1, hp.k2, hp.k3, hp.k4, hp.k5, hp.k6, hp.k7, hp.k8, hp.k9, hp.k10, hp.l1, hp.l2, hp.l3, hp.l4, hp.l5, hp.l6, hp.l7, hp.l8, hp.l9, hp.l10, hq.k, hq.k1, hq.k2, hq.k3, hq.k4, hq.k5, hq.k6, hq.k7, hq.k8, hq.k9, hq.k10, hq.l1, hq.l2, hq.l3, hq.l4, hq.l5, hq.l6, hq.l7, hq.l8, hq.l9, hq.l10, hpk, hqk, hb0.k, hb0.k1, hb0.k2, hb0.k3, hb0.k4, hb0.k5, hb0.k6, hb0.l1, hb0.l2, hb0.l3, hb0.l4, hb0.l5, hb0.l6, hb0k, ↓hp.g0, ↓hp.g1, ↓hp.g2, ↓hp.g3, ↓hp.g4, ↓hp.g5, ↓hp.g6, ↓hp.g7, ↓hp.g8, ↓hp.g9, ↓hp.gb, hp.gb, ↓hq.g0, ↓hq.g1, ↓hq.g2, ↓hq.g3, ↓hq.g4, ↓hq.g5, ↓hq.g6, ↓hq.g7, ↓hq.g8, ↓hq.g9, ↓hq.gb, hq.gb, ↓hb0.g0, ↓hb0.g1, ↓hb0.g2, ↓hb0.g3, ↓hb0.g4, ↓hb0.g5, ↓zB_c e1, zB_c e1, ↓zB_c e2, zB_c e2, h11, y3', ↓zB_c e3, zB_c e3, ↓zB_c a1, zB_c a1, hn24, ↓zB_c a2, zB_c a2, ↓zB_c a3, zB_c a3, f0]
      first | done | rfl
  have hsum : ∀ k, k ≤ z_nm P → z_enK P c f k ≤ k * 60 := fun k hk => z_sl_le k (fun j hj hlj => Nat.le_trans (z_ct_le _) (h60 j (by omega)))
  unfold f67_140 at st
  have key := z_loopI (f := fun s => f67_140b (s.1) (s.2.1) (s.2.2.1) (s.2.2.2.1) (s.2.2.2.2.1) (s.2.2.2.2.2.1) (s.2.2.2.2.2.2.1) (s.2.2.2.2.2.2.2)) (S := S) (fun n st m' => ∃ j, n = z_nm P - j ∧ j ≤ z_nm P ∧ st = (p, q, nI c, nI f, nI g, nI s, nI (z_enK P c f j), nI j) ∧ z_cp m' q (z_mix (z_en2 P c f (nI g) (nI s)) (z_hd (z_en2 P c f (nI g) (nI s))) (z_enD P c f (nI g) (nI s)) j) ∧ m' q 14 = 0 ∧ ∀ a, (a < q ∨ q + 179 ≤ a) → m' a = m a) (fun r m' => r = z_enR P c f (nI g) (nI s) ∧ z_cp m' q (z_enQ P c f (nI g) (nI s)) ∧ m' q 14 = 0 ∧ ∀ a, (a < q ∨ q + 179 ≤ a) → m' a = m a) ?_ 1000000 (z_nm P) (p, q, nI c, nI f, nI g, nI s, 0, 0) m6 ⟨0, rfl, Nat.zero_le _, rfl, by rw [z_mix_0]; exact cp6, f6, fr6⟩ (by omega)
  · obtain ⟨r, m', e, rfl, g1, g2, g3⟩ := key
    exact ⟨m', st.trans e, fun _ => z_PK_0 g1 g2, g1.2.2.1, fun a _ _ x => g3 a x, by rw [g3 22 (by omega)], by rw [g3 30 (by omega)], by rw [g3 38 (by omega)], by rw [g3 54 (by omega)]⟩
  · rintro n st m1 ⟨j, rfl, hj, rfl, g1, g2, g3⟩
    have hcp1 : z_cp m1 p P := z_cp_fr3 hw (fun a x1 x2 => g3 a (by omega)) hcp
    have hT1 : z_LT m1 p P := z_LT_fr hw (fun a x1 x2 => g3 a (by omega)) hT
    have h01 := hcp1.2.1.1
    have hle := hsum j hj
    dsimp only
    rcases Nat.eq_or_lt_of_le hj with hj2 | hj2
    · refine Or.inr ⟨_, m1, ?_, rfl, by rw [hj2] at g1; exact g1, g2, g3⟩
      rw [er, hj2]
      unfold f67_140b f67_281
      simp (disch := ((try simp only [true_or, or_true, hp.k, hp.k1, hp.k2, hp.k3, hp.k4, hp.k5, hp.k6, hp.k7, hp.k8, hp.k9, hp.k10, hp.l1, hp.l2, hp.l3, hp.l4, hp.l5, hp.l6, hp.l7, hp.l8, hp.l9, hp.l10]) <;> (try omega))) only [↓reduceIte, ↓z_ite, ↓zR, ↓zB_R, ↓zB_B, ↓zB_ite, ↓zB_gI, ↓zB_pI, ↓zB_pZ, ↓zB_aK, ↓zB_G, ↓zB_lI, ↓zB_lZ, ↓zB_wI, ↓zB_wZ, ↓zB_lIl, ↓zB_wIl, zB_pI, zB_pZ, zB_lI, zB_lZ, zB_wI, zB_wZ, z_addl, z_ladd, z_mull, z_lmul, nI_add, z_subl, Nat.not_lt_zero, z_10, z_01, z_bitc, z_b0, z_b1, ↓zB_Gb, ↓zB_G0, ↓zB_G1, z_eql, z_leq, z_ltl, z_llt, z_eq, z_lt, z_m1lt, hp.k, hp.k1, hp.k2, hp.k3, hp.k4, hp.k5, hp.k6, hp.k7, hp.k8, hp.k9, hp.k10, hp.l1, hp.l2, hp.l3, hp.l4, hp.l5, hp.l6, hp.l7, hp.l8, hp.l9, hp.l10, ↓hp.g0, ↓hp.g1, ↓hp.g2, ↓hp.g3, ↓hp.g4, ↓hp.g5, ↓hp.g6, ↓hp.g7, ↓hp.g8, ↓hp.g9, ↓hp.gb, hp.gb, h01, Nat.lt_irrefl]
    · have e79 := f79_sp hp hcp1 (k := j) (by omega)
      have ethr : z_thr P j = z_liv P j := by unfold z_thr; rw [decide_eq_true hj2, Bool.true_and]
      rw [ethr] at e79
      have hl2 : z_liv (z_en2 P c f (nI g) (nI s)) j = z_liv P j := z_en2_liv hj2
      cases glj : z_liv P j with
      | false =>
        rw [glj] at e79 hl2
        refine Or.inl ⟨(p, q, nI c, nI f, nI g, nI s, nI (z_enK P c f (j + 1)), nI (j + 1)), m1, z_nm P - (j + 1), ?_, by omega, j + 1, rfl, hj2, rfl, by rw [z_mix_n hl2]; exact g1, g2, g3⟩
        have ec : z_enK P c f (j + 1) = z_enK P c f j := by unfold z_enK; rw [z_sl_s, glj]; rfl
        rw [ec]
        unfold f67_140b f67_275
        simp (disch := ((try simp only [true_or, or_true, hp.k, hp.k1, hp.k2, hp.k3, hp.k4, hp.k5, hp.k6, hp.k7, hp.k8, hp.k9, hp.k10, hp.l1, hp.l2, hp.l3, hp.l4, hp.l5, hp.l6, hp.l7, hp.l8, hp.l9, hp.l10, hpk]) <;> (try omega))) only [↓reduceIte, ↓z_ite, ↓zR, ↓zB_R, ↓zB_B, ↓zB_ite, ↓zB_gI, ↓zB_pI, ↓zB_pZ, ↓zB_aK, ↓zB_G, ↓zB_lI, ↓zB_lZ, ↓zB_wI, ↓zB_wZ, ↓zB_lIl, ↓zB_wIl, zB_pI, zB_pZ, zB_lI, zB_lZ, zB_wI, zB_wZ, z_addl, z_ladd, z_mull, z_lmul, nI_add, z_subl, Nat.not_lt_zero, z_10, z_01, z_bitc, z_b0, z_b1, ↓zB_Gb, ↓zB_G0, ↓zB_G1, z_eql, z_leq, z_ltl, z_llt, z_eq, z_lt, z_m1lt, hp.k, hp.k1, hp.k2, hp.k3, hp.k4, hp.k5, hp.k6, hp.k7, hp.k8, hp.k9, hp.k10, hp.l1, hp.l2, hp.l3, hp.l4, hp.l5, hp.l6, hp.l7, hp.l8, hp.l9, hp.l10, hpk, ↓hp.g0, ↓hp.g1, ↓hp.g2, ↓hp.g3, ↓hp.g4, ↓hp.g5, ↓hp.g6, ↓hp.g7, ↓hp.g8, ↓hp.g9, ↓hp.gb, hp.gb, h01, hj2, ↓zB_c e79, zB_c e79]
      | true =>
        rw [glj] at e79 hl2
        have hmixh : ∀ k w, z_hd (z_mix (z_en2 P c f (nI g) (nI s)) (z_hd (z_en2 P c f (nI g) (nI s))) (z_enD P c f (nI g) (nI s)) j) k w = z_hd (z_en2 P c f (nI g) (nI s)) k w := fun k w => by
          rw [z_mix_hd]; split <;> rfl
        have hmixl : z_liv (z_mix (z_en2 P c f (nI g) (nI s)) (z_hd (z_en2 P c f (nI g) (nI s))) (z_enD P c f (nI g) (nI s)) j) j = true := by
          unfold z_liv; rw [hmixh]; exact hl2
        have hbdj : z_bd (z_mix (z_en2 P c f (nI g) (nI s)) (z_hd (z_en2 P c f (nI g) (nI s))) (z_enD P c f (nI g) (nI s)) j) j = z_bd P j := by rw [z_mix_bd, if_neg (by omega)]; exact z_en2_bd hj2
        have hcbq : z_cb m1 (z_bi q j) 60 (z_bd P j) := by
          have := g1.2.2.2 j (show j < z_nm P + 2 by omega) hmixl
          rw [hbdj] at this; exact this
        obtain ⟨m2, e2', cb2, fr2⟩ := f67_173_sp (g := nI g) (s := nI s) hp hq (by omega) hcp1 hT1 hw hj2 glj hcbq (z_enK P c f j) (by omega)
        refine Or.inl ⟨(p, q, nI c, nI f, nI g, nI s, nI (z_enK P c f (j + 1)), nI (j + 1)), m2, z_nm P - (j + 1), ?_, by omega, j + 1, rfl, hj2, rfl, ?_, ?_, fun a ha => ?_⟩
        · have ec : z_enK P c f (j + 1) = z_enK P c f j + z_ct (z_enc P c f j) (z_bd P j).length := by unfold z_enK; rw [z_sl_s, glj]; rfl
          rw [ec]
          unfold f67_140b
          simp (disch := ((try simp only [true_or, or_true, hp.k, hp.k1, hp.k2, hp.k3, hp.k4, hp.k5, hp.k6, hp.k7, hp.k8, hp.k9, hp.k10, hp.l1, hp.l2, hp.l3, hp.l4, hp.l5, hp.l6, hp.l7, hp.l8, hp.l9, hp.l10, hpk]) <;> (try omega))) only [↓reduceIte, ↓z_ite, ↓zR, ↓zB_R, ↓zB_B, ↓zB_ite, ↓zB_gI, ↓zB_pI, ↓zB_pZ, ↓zB_aK, ↓zB_G, ↓zB_lI, ↓zB_lZ, ↓zB_wI, ↓zB_wZ, ↓zB_lIl, ↓zB_wIl, zB_pI, zB_pZ, zB_lI, zB_lZ, zB_wI, zB_wZ, z_addl, z_ladd, z_mull, z_lmul, nI_add, z_subl, Nat.not_lt_zero, z_10, z_01, z_bitc, z_b0, z_b1, ↓zB_Gb, ↓zB_G0, ↓zB_G1, z_eql, z_leq, z_ltl, z_llt, z_eq, z_lt, z_m1lt, hp.k, hp.k1, hp.k2, hp.k3, hp.k4, hp.k5, hp.k6, hp.k7, hp.k8, hp.k9, hp.k10, hp.l1, hp.l2, hp.l3, hp.l4, hp.l5, hp.l6, hp.l7, hp.l8, hp.l9, hp.l10, hpk, ↓hp.g0, ↓hp.g1, ↓hp.g2, ↓hp.g3, ↓hp.g4, ↓hp.g5, ↓hp.g6, ↓hp.g7, ↓hp.g8, ↓hp.g9, ↓hp.gb, hp.gb, h01, hj2, ↓zB_c e79, zB_c e79, Bool.true_eq_false, h24]
          exact e2'
        · rw [z_mix_s hl2]
          have hct2 : ∀ k, k < z_nm P + 2 → z_cnt (z_mix (z_en2 P c f (nI g) (nI s)) (z_hd (z_en2 P c f (nI g) (nI s))) (z_enD P c f (nI g) (nI s)) j) k ≤ 2 := fun k hk => by
            have hw2 := z_en2_wf hw hc hf hg hs hex (by omega) y1 y2
            have := (hw2.2.2.2.1 k hk).2.2.2.1.1
            unfold z_cnt at *
            rw [hmixh]; exact this
          have hF : z_bF (z_bi q j) m1 m2 := ⟨fun a _ x2 x3 _ => fr2 a x2 x3, fun i _ => by rw [fr2 _ (by omega) (by omega)]⟩
          have := z_cp_body g1 hct2 (k := j) (show j < z_nm P + 2 by omega) (show z_nm P + 2 ≤ 24 by omega) hmixl hF cb2
          rw [show z_hd (z_mix (z_en2 P c f (nI g) (nI s)) (z_hd (z_en2 P c f (nI g) (nI s))) (z_enD P c f (nI g) (nI s)) j) j = z_hd (z_en2 P c f (nI g) (nI s)) j from funext (hmixh j)] at this
          exact this
        · rw [fr2 q (by unfold z_bi; omega) (by unfold z_bi; omega)]; exact g2
        · rw [fr2 a (by unfold z_bi; omega) (by unfold z_bi; omega)]; exact g3 a ha
noncomputable def z_oenc (A : z_A) (c f g s : Int32) : (Int32 ⊕ Nat) × z_A :=
  if z_in c (z_nc A.2.1) = false then (.inr 2, A)
  else if z_in f 16 = false ∨ z_fld A.2.1 c.toNatClampNeg f.toNatClampNeg = 0 then (.inr 2, A)
  else if z_in g 16 = false then (.inr 1, A)
  else if z_in s 16 = false then (.inr 1, A)
  else if z_wr A.2.1 = -1 then z_rf A (z_enR A.2.1 c.toNatClampNeg f.toNatClampNeg g s) (z_enQ A.2.1 c.toNatClampNeg f.toNatClampNeg g s)
  else (.inr 0, A)
theorem c_enc (hw : z_WA A) (h : z_CR S m A) (c f g s : Int32) : ∃ S1 m1, f149 0 c f g s (z_hp S m) = some ((z_oenc A c f g s).1, z_hp S1 m1) ∧ z_CR S1 m1 (z_oenc A c f g s).2 ∧ z_SS S S1 ∧ ∀ a, 2390 ≤ a → m1 a = m a := by
  have h0 := h
  obtain ⟨sn, sx, sp, hI, hCM⟩ := h0
  have hX := hI.1
  have hp := hI.2.2.1 sn hI.2.2.2.1.1
  have hn := hI.2.2.2.2.2.1
  have hc := hCM.2.2.1.1.1
  have hwf := hw.2.1.1
  have h24 := hwf.2.2.1
  have h6 := hwf.1.1
  have ref : ∀ E, f149 0 c f g s (z_hp S m) = some (.inr E, z_hp (z_Sx S) m) → ∃ S1 m1, f149 0 c f g s (z_hp S m) = some ((((.inr E, A) : (Int32 ⊕ Nat) × z_A)).1, z_hp S1 m1) ∧ z_CR S1 m1 (((.inr E, A) : (Int32 ⊕ Nat) × z_A)).2 ∧ z_SS S S1 ∧ ∀ a, 2390 ≤ a → m1 a = m a := fun E e => ⟨z_Sx S, m, e, z_CR_x h, z_SS.x S, fun _ _ => rfl⟩
  unfold z_oenc
  by_cases g1 : z_in c (z_nc A.2.1) = false
  · rw [if_pos g1]
    refine ref 2 ?_
    unfold f149
    simp (disch := ((try simp only [true_or, or_true, hX.k0, hX.k8, hX.k9, hX.l9]) <;> (try omega))) only [↓reduceIte, ↓z_ite, ↓zR, ↓zB_R, ↓zB_B, ↓zB_ite, ↓zB_gI, ↓zB_pI, ↓zB_pZ, ↓zB_aK, ↓zB_G, ↓zB_lI, ↓zB_lZ, ↓zB_wI, ↓zB_wZ, ↓zB_lIl, ↓zB_wIl, zB_pI, zB_pZ, zB_lI, zB_lZ, zB_wI, zB_wZ, z_addl, z_ladd, z_mull, z_lmul, nI_add, z_subl, Nat.not_lt_zero, z_10, z_01, z_bitc, z_b0, z_b1, ↓zB_Gb, ↓zB_G0, ↓zB_G1, z_eql, z_leq, z_ltl, z_llt, z_eq, z_lt, z_m1lt, hX.k0, hX.k8, hX.k9, hX.l9, ↓hX.g0_0, ↓hX.g0_1, ↓hX.g0_2, ↓hX.g0_3, ↓hX.g0_4, ↓hX.g0_5, ↓hX.g0_6, ↓hX.g0_7, ↓hX.g0_8, ↓hX.g0_9, ↓hX.g8_0, ↓zT_r (f168_n1 (f := f) hX hn hp hc g1), zT_r (f168_n1 (f := f) hX hn hp hc g1)]
  rw [if_neg g1]
  obtain ⟨c', hc', rfl⟩ := (z_in_iff (by omega)).mp (z_not_false g1)
  rw [nI_clamp (show c' < 2 ^ 31 by omega)]
  by_cases g2 : z_in f 16 = false ∨ z_fld A.2.1 c' f.toNatClampNeg = 0
  · rw [if_pos g2]
    refine ref 2 ?_
    unfold f149
    simp (disch := ((try simp only [true_or, or_true, hX.k0, hX.k8, hX.k9, hX.l9]) <;> (try omega))) only [↓reduceIte, ↓z_ite, ↓zR, ↓zB_R, ↓zB_B, ↓zB_ite, ↓zB_gI, ↓zB_pI, ↓zB_pZ, ↓zB_aK, ↓zB_G, ↓zB_lI, ↓zB_lZ, ↓zB_wI, ↓zB_wZ, ↓zB_lIl, ↓zB_wIl, zB_pI, zB_pZ, zB_lI, zB_lZ, zB_wI, zB_wZ, z_addl, z_ladd, z_mull, z_lmul, nI_add, z_subl, Nat.not_lt_zero, z_10, z_01, z_bitc, z_b0, z_b1, ↓zB_Gb, ↓zB_G0, ↓zB_G1, z_eql, z_leq, z_ltl, z_llt, z_eq, z_lt, z_m1lt, hX.k0, hX.k8, hX.k9, hX.l9, ↓hX.g0_0, ↓hX.g0_1, ↓hX.g0_2, ↓hX.g0_3, ↓hX.g0_4, ↓hX.g0_5, ↓hX.g0_6, ↓hX.g0_7, ↓hX.g0_8, ↓hX.g0_9, ↓hX.g8_0, ↓zT_r (f168_n2 hX hn hp hc hwf hc' g2), zT_r (f168_n2 hX hn hp hc hwf hc' g2)]
  rw [if_neg g2]
  obtain ⟨f', hf', rfl⟩ := (z_in_iff (by decide)).mp (z_not_false (fun q => g2 (Or.inl q)))
  rw [nI_clamp (show f' < 2 ^ 31 by omega)] at g2 ⊢
  have hex : z_fld A.2.1 c' f' ≠ 0 := fun q => g2 (Or.inr q)
  have e1 := f168_y hX hn hp hc hwf hc' hf' hex
  by_cases g3 : z_in g 16 = false
  · rw [if_pos g3]
    refine ref 1 ?_
    unfold f149
    simp (disch := ((try simp only [true_or, or_true, hX.k0, hX.k8, hX.k9, hX.l9]) <;> (try omega))) only [↓reduceIte, ↓z_ite, ↓zR, ↓zB_R, ↓zB_B, ↓zB_ite, ↓zB_gI, ↓zB_pI, ↓zB_pZ, ↓zB_aK, ↓zB_G, ↓zB_lI, ↓zB_lZ, ↓zB_wI, ↓zB_wZ, ↓zB_lIl, ↓zB_wIl, zB_pI, zB_pZ, zB_lI, zB_lZ, zB_wI, zB_wZ, z_addl, z_ladd, z_mull, z_lmul, nI_add, z_subl, Nat.not_lt_zero, z_10, z_01, z_bitc, z_b0, z_b1, ↓zB_Gb, ↓zB_G0, ↓zB_G1, z_eql, z_leq, z_ltl, z_llt, z_eq, z_lt, z_m1lt, hX.k0, hX.k8, hX.k9, hX.l9, ↓hX.g0_0, ↓hX.g0_1, ↓hX.g0_2, ↓hX.g0_3, ↓hX.g0_4, ↓hX.g0_5, ↓hX.g0_6, ↓hX.g0_7, ↓hX.g0_8, ↓hX.g0_9, ↓hX.g8_0, ↓zT_l e1, zT_l e1, ↓zT_r (f160_n (S := S) (m := m) g3), zT_r (f160_n (S := S) (m := m) g3)]
  rw [if_neg g3]
  obtain ⟨gn, hgn, rfl⟩ := (z_in_iff (by decide)).mp (z_not_false g3)
  have e2 := f160_y (S := S) (m := m) hgn
  by_cases g4 : z_in s 16 = false
  · rw [if_pos g4]
    refine ref 1 ?_
    unfold f149
    simp (disch := ((try simp only [true_or, or_true, hX.k0, hX.k8, hX.k9, hX.l9]) <;> (try omega))) only [↓reduceIte, ↓z_ite, ↓zR, ↓zB_R, ↓zB_B, ↓zB_ite, ↓zB_gI, ↓zB_pI, ↓zB_pZ, ↓zB_aK, ↓zB_G, ↓zB_lI, ↓zB_lZ, ↓zB_wI, ↓zB_wZ, ↓zB_lIl, ↓zB_wIl, zB_pI, zB_pZ, zB_lI, zB_lZ, zB_wI, zB_wZ, z_addl, z_ladd, z_mull, z_lmul, nI_add, z_subl, Nat.not_lt_zero, z_10, z_01, z_bitc, z_b0, z_b1, ↓zB_Gb, ↓zB_G0, ↓zB_G1, z_eql, z_leq, z_ltl, z_llt, z_eq, z_lt, z_m1lt, hX.k0, hX.k8, hX.k9, hX.l9, ↓hX.g0_0, ↓hX.g0_1, ↓hX.g0_2, ↓hX.g0_3, ↓hX.g0_4, ↓hX.g0_5, ↓hX.g0_6, ↓hX.g0_7, ↓hX.g0_8, ↓hX.g0_9, ↓hX.g8_0, ↓zT_l e1, zT_l e1, ↓zT_l e2, zT_l e2, ↓zT_r (f160_n (S := S) (m := m) g4), zT_r (f160_n (S := S) (m := m) g4)]
  rw [if_neg g4]
  obtain ⟨sn', hsn, rfl⟩ := (z_in_iff (by decide)).mp (z_not_false g4)
  have e3 := f160_y (S := S) (m := m) hsn
  by_cases g5 : z_wr A.2.1 = -1
  · rw [if_pos g5]
    obtain ⟨m1, e4, c1, r1, f14⟩ := c_rr_y hw hI hCM g5
    obtain ⟨S', m', e5, d1, d2, d3⟩ := c_tail hw hI c1 g5 f14 (ob := 61) (kd := 6) hX.k61 (OP := fun q => f67 61 (z_pid sn) q (nI c') (nI f') (nI gn) (nI sn')) (r := z_enR A.2.1 c' f' (nI gn) (nI sn')) (Q := z_enQ A.2.1 c' f' (nI gn) (nI sn')) (fun m2 hpre => f67_sp hpre hwf hw.2.1.2 hc' hf' hgn hsn hex)
    refine ⟨S', m', ?_, d1, d2, fun a ha => (d3 a ha).trans (r1 a ha)⟩
    unfold f149
    simp (disch := ((try simp only [true_or, or_true, hX.k0, hX.k8, hX.k9, hX.l9, hp.k, hp.k1, hp.k2, hp.k3, hp.k4, hp.k5, hp.k6, hp.k7, hp.k8, hp.k9, hp.k10, hp.l1, hp.l2, hp.l3, hp.l4, hp.l5, hp.l6, hp.l7, hp.l8, hp.l9, hp.l10]) <;> (try omega))) only [↓reduceIte, ↓z_ite, ↓zR, ↓zB_R, ↓zB_B, ↓zB_ite, ↓zB_gI, ↓zB_pI, ↓zB_pZ, ↓zB_aK, ↓zB_G, ↓zB_lI, ↓zB_lZ, ↓zB_wI, ↓zB_wZ, ↓zB_lIl, ↓zB_wIl, zB_pI, zB_pZ, zB_lI, zB_lZ, zB_wI, zB_wZ, z_addl, z_ladd, z_mull, z_lmul, nI_add, z_subl, Nat.not_lt_zero, z_10, z_01, z_bitc, z_b0, z_b1, ↓zB_Gb, ↓zB_G0, ↓zB_G1, z_eql, z_leq, z_ltl, z_llt, z_eq, z_lt, z_m1lt, hX.k0, hX.k8, hX.k9, hX.l9, hp.k, hp.k1, hp.k2, hp.k3, hp.k4, hp.k5, hp.k6, hp.k7, hp.k8, hp.k9, hp.k10, hp.l1, hp.l2, hp.l3, hp.l4, hp.l5, hp.l6, hp.l7, hp.l8, hp.l9, hp.l10, ↓hX.g0_0, ↓hX.g0_1, ↓hX.g0_2, ↓hX.g0_3, ↓hX.g0_4, ↓hX.g0_5, ↓hX.g0_6, ↓hX.g0_7, ↓hX.g0_8, ↓hX.g0_9, ↓hX.g8_0, ↓hp.g0, ↓hp.g1, ↓hp.g2, ↓hp.g3, ↓hp.g4, ↓hp.g5, ↓hp.g6, ↓hp.g7, ↓hp.g8, ↓hp.g9, ↓hp.gb, hp.gb, ↓z_gnow hX hn, z_gnow hX hn, ↓zT_l e1, zT_l e1, ↓zT_l e2, zT_l e2, ↓zT_l e3, zT_l e3, ↓zT_l e4, zT_l e4]
    exact e5
  · rw [if_neg g5]
    obtain ⟨m1, e4, c1, r1⟩ := c_rr_n hw hI hCM g5
    refine ⟨z_Sx S, m1, ?_, ⟨sn, sx, sp, hI, c1⟩, z_SS.x S, r1⟩
    unfold f149
    simp (disch := ((try simp only [true_or, or_true, hX.k0, hX.k8, hX.k9, hX.l9, hp.k, hp.k1, hp.k2, hp.k3, hp.k4, hp.k5, hp.k6, hp.k7, hp.k8, hp.k9, hp.k10, hp.l1, hp.l2, hp.l3, hp.l4, hp.l5, hp.l6, hp.l7, hp.l8, hp.l9, hp.l10]) <;> (try omega))) only [↓reduceIte, ↓z_ite, ↓zR, ↓zB_R, ↓zB_B, ↓zB_ite, ↓zB_gI, ↓zB_pI, ↓zB_pZ, ↓zB_aK, ↓zB_G, ↓zB_lI, ↓zB_lZ, ↓zB_wI, ↓zB_wZ, ↓zB_lIl, ↓zB_wIl, zB_pI, zB_pZ, zB_lI, zB_lZ, zB_wI, zB_wZ, z_addl, z_ladd, z_mull, z_lmul, nI_add, z_subl, Nat.not_lt_zero, z_10, z_01, z_bitc, z_b0, z_b1, ↓zB_Gb, ↓zB_G0, ↓zB_G1, z_eql, z_leq, z_ltl, z_llt, z_eq, z_lt, z_m1lt, hX.k0, hX.k8, hX.k9, hX.l9, hp.k, hp.k1, hp.k2, hp.k3, hp.k4, hp.k5, hp.k6, hp.k7, hp.k8, hp.k9, hp.k10, hp.l1, hp.l2, hp.l3, hp.l4, hp.l5, hp.l6, hp.l7, hp.l8, hp.l9, hp.l10, ↓hX.g0_0, ↓hX.g0_1, ↓hX.g0_2, ↓hX.g0_3, ↓hX.g0_4, ↓hX.g0_5, ↓hX.g0_6, ↓hX.g0_7, ↓hX.g0_8, ↓hX.g0_9, ↓hX.g8_0, ↓hp.g0, ↓hp.g1, ↓hp.g2, ↓hp.g3, ↓hp.g4, ↓hp.g5, ↓hp.g6, ↓hp.g7, ↓hp.g8, ↓hp.g9, ↓hp.gb, hp.gb, ↓z_gnow hX hn, z_gnow hX hn, ↓zT_l e1, zT_l e1, ↓zT_l e2, zT_l e2, ↓zT_l e3, zT_l e3, ↓zT_r e4, zT_r e4]
end
