-- deps: 90.40.mrl4
/-! a field hidden: the class -/
section
variable {P : z_Pg} {H : Nat → Int32} {l : List z_N}
variable {S : z_S} {m : z_m} {p : Nat}
/-- Program.addMethod, its body empty -/
theorem f74_spb (hp : z_PS S p) (h : z_cp m p P) (hw : z_wf P) (h24 : z_nm P < 24) (c n t : Int32) : ∃ m', f74 p c n t (z_hp S m) = some (nI (z_nm P), z_hp S m') ∧ z_cpX m' p (z_addM P (z_hdr c n 0 (-1) (-1) 0 0 t) l) (z_nm P) ∧ m' p 14 = 0 ∧ (∀ a, (a < p ∨ p + 179 ≤ a) → m' a = m a) ∧ z_cb m' (z_bi p (z_nm P)) 60 [] := by
  obtain ⟨hc, ⟨d1, d2, d3⟩, e1, e2⟩ := h
  have hbs := (hp.2.2 (z_nm P) h24).2
  have hbr := (hp.2.2 (z_nm P) h24).1
  generalize hm1 : z_up (z_up (z_up (z_up (z_up (z_up (z_up m p 12 (m p 12 ||| (1 <<< (nI (z_nm P) &&& 31)))) (p + 4) (z_nm P) c) (p + 5) (z_nm P) n) (p + 6) (z_nm P) 0) (p + 7) (z_nm P * 2) (-1)) (p + 7) (z_nm P * 2 + 1) (-1)) (p + 9) (z_nm P) t = m1
  have hfr : ∀ a, a ≠ p → a ≠ p + 4 → a ≠ p + 5 → a ≠ p + 6 → a ≠ p + 7 → a ≠ p + 9 → m1 a = m a := fun a x1 x2 x3 x4 x5 x6 => by
    rw [← hm1, z_up_row x6, z_up_row x5, z_up_row x5, z_up_row x4, z_up_row x3, z_up_row x2, z_up_row x1]
  have hfp : ∀ j, j ≠ 12 → m1 p j = m p j := fun j x1 => by
    rw [← hm1, z_up_a (by omega), z_up_a (by omega), z_up_a (by omega), z_up_a (by omega), z_up_a (by omega), z_up_a (by omega), z_up_b x1]
  obtain ⟨m2, ec, c2, hF⟩ := f1_sp (m := m1) hbs (by rw [hfr _ (by unfold z_bi; omega) (by unfold z_bi; omega) (by unfold z_bi; omega) (by unfold z_bi; omega) (by unfold z_bi; omega) (by unfold z_bi; omega)]; exact e1 _ h24) (by decide)
  have h2 : ∀ a, a ≤ p + 10 → m2 a = m1 a := fun a x1 => hF.1 a (by unfold z_bi; omega) (by unfold z_bi; omega) (by unfold z_bi; omega) (by unfold z_bi; omega)
  have d1' : m2 p 11 = nI (z_nm P) := by rw [h2 p (by omega), hfp 11 (by decide)]; exact d1
  refine ⟨z_up (z_up m2 p 11 (nI (z_nm P + 1))) p 14 0, ?_, ⟨z_addM_cc ⟨?_, fun c' hc' => ⟨?_, fun d hd => ?_, fun n' hn' => ?_⟩⟩, ⟨?_, fun k hk => ?_, fun k hk hl => ?_⟩, fun k hk => ?_, fun k hk hl hne => ?_⟩, z_up_s _ _ _ _, fun a ha => ?_, ?_⟩
  · unfold f74
    simp (disch := ((try simp only [true_or, or_true, hp.k, hp.k1, hp.k2, hp.k3, hp.k4, hp.k5, hp.k6, hp.k7, hp.k8, hp.k9, hp.k10, hp.l1, hp.l2, hp.l3, hp.l4, hp.l5, hp.l6, hp.l7, hp.l8, hp.l9, hp.l10, hbs.k, hbs.k1, hbs.k2, hbs.k3, hbs.k4, hbs.k5, hbs.k6, hbs.l1, hbs.l2, hbs.l3, hbs.l4, hbs.l5, hbs.l6, or_true]) <;> (try omega))) only [↓reduceIte, ↓z_ite, ↓zR, ↓zB_R, ↓zB_B, ↓zB_ite, ↓zB_gI, ↓zB_pI, ↓zB_pZ, ↓zB_aK, ↓zB_G, ↓zB_lI, ↓zB_lZ, ↓zB_wI, ↓zB_wZ, ↓zB_lIl, ↓zB_wIl, zB_pI, zB_pZ, zB_lI, zB_lZ, zB_wI, zB_wZ, z_addl, z_ladd, z_mull, z_lmul, nI_add, z_subl, Nat.not_lt_zero, z_10, z_01, z_bitc, z_b0, z_b1, ↓zB_Gb, ↓zB_G0, ↓zB_G1, z_eql, z_leq, z_ltl, z_llt, z_eq, z_lt, z_m1lt, hp.k, hp.k1, hp.k2, hp.k3, hp.k4, hp.k5, hp.k6, hp.k7, hp.k8, hp.k9, hp.k10, hp.l1, hp.l2, hp.l3, hp.l4, hp.l5, hp.l6, hp.l7, hp.l8, hp.l9, hp.l10, hbs.k, hbs.k1, hbs.k2, hbs.k3, hbs.k4, hbs.k5, hbs.k6, hbs.l1, hbs.l2, hbs.l3, hbs.l4, hbs.l5, hbs.l6, or_true, ↓hp.g0, ↓hp.g1, ↓hp.g2, ↓hp.g3, ↓hp.g4, ↓hp.g5, ↓hp.g6, ↓hp.g7, ↓hp.g8, ↓hp.g9, ↓hp.gb, hp.gb, ↓hbs.g0, ↓hbs.g1, ↓hbs.g2, ↓hbs.g3, ↓hbs.g4, ↓hbs.g5, d1, h24, hbr, hm1, ↓zB_c ec, zB_c ec, d1']
  · rw [z_up_b (by decide), z_up_b (by decide), h2 p (by omega), hfp 10 (by decide)]; exact hc.1
  · rw [z_up_a (by omega), z_up_a (by omega), h2 _ (by omega), hfr _ (by omega) (by omega) (by omega) (by omega) (by omega) (by omega)]; exact (hc.2 c' hc').1
  · rw [z_up_a (by omega), z_up_a (by omega), h2 _ (by omega), hfr _ (by omega) (by omega) (by omega) (by omega) (by omega) (by omega)]; exact (hc.2 c' hc').2.1 d hd
  · rw [z_up_a (by omega), z_up_a (by omega), h2 _ (by omega), hfr _ (by omega) (by omega) (by omega) (by omega) (by omega) (by omega)]; exact (hc.2 c' hc').2.2 n' hn'
  · rw [z_up_b (by decide), z_up_s]; rfl
  · rw [z_up_b (by decide), z_up_b (by decide), h2 p (by omega), ← hm1, z_up_a (by omega), z_up_a (by omega), z_up_a (by omega), z_up_a (by omega), z_up_a (by omega), z_up_a (by omega), z_up_s, z_bit_or _ _ hk, z_bit_shl (by omega) hk, d2 k hk]
    show _ = (decide (k < z_nm P + 1) && z_liv (z_addM P _ l) k)
    by_cases g : k = z_nm P
    · rw [g]
      have : z_liv (z_addM P (z_hdr c n 0 (-1) (-1) 0 0 t) l) (z_nm P) = true := by
        unfold z_liv; rw [z_addM_hd_s]; rfl
      rw [this]; simp
    · rw [z_addM_liv_o g, show decide (z_nm P = k) = false from decide_eq_false (fun e => g e.symm)]
      by_cases g2 : k < z_nm P
      · simp [g2, show k < z_nm P + 1 by omega]
      · simp [g2, show ¬ k < z_nm P + 1 by omega]
  · have hk : k < z_nm P + 1 := hk
    by_cases g : k = z_nm P
    · subst g
      refine ⟨?_, ?_, ?_, ?_, fun j hj => ?_, fun j hj => ?_⟩
      · rw [z_addM_hd_s, z_up_a (by omega), z_up_a (by omega), h2 _ (by omega), ← hm1, z_up_a (by omega), z_up_a (by omega), z_up_a (by omega), z_up_a (by omega), z_up_a (by omega), z_up_s]; rfl
      · rw [z_addM_hd_s, z_up_a (by omega), z_up_a (by omega), h2 _ (by omega), ← hm1, z_up_a (by omega), z_up_a (by omega), z_up_a (by omega), z_up_a (by omega), z_up_s]; rfl
      · rw [z_addM_hd_s, z_up_a (by omega), z_up_a (by omega), h2 _ (by omega), ← hm1, z_up_a (by omega), z_up_a (by omega), z_up_a (by omega), z_up_s]; rfl
      · rw [z_addM_hd_s, z_up_a (by omega), z_up_a (by omega), h2 _ (by omega), ← hm1, z_up_s]; rfl
      · rw [z_addM_hd_s, z_up_a (by omega), z_up_a (by omega), h2 _ (by omega), ← hm1, z_up_a (by omega)]
        have : j = 0 ∨ j = 1 := by omega
        rcases this with g | g
        · rw [g, z_up_b (by omega), show z_nm P * 2 + 0 = z_nm P * 2 from rfl, z_up_s]; rfl
        · rw [g, z_up_s]; rfl
      · have : z_cnt (z_addM P (z_hdr c n 0 (-1) (-1) 0 0 t) l) (z_nm P) = 0 := by unfold z_cnt; rw [z_addM_hd_s]; rfl
        rw [this] at hj; exact absurd hj (Nat.not_lt_zero _)
    · rw [z_addM_liv_o g] at hl
      obtain ⟨q1, q2, q3, q4, q5, q6⟩ := d3 k (by omega) hl
      have ect : z_cnt (z_addM P (z_hdr c n 0 (-1) (-1) 0 0 t) l) k = z_cnt P k := by unfold z_cnt; rw [z_addM_hd_o g]
      refine ⟨?_, ?_, ?_, ?_, fun j hj => ?_, fun j hj => ?_⟩
      · rw [z_addM_hd_o g, z_up_a (by omega), z_up_a (by omega), h2 _ (by omega), ← hm1, z_up_a (by omega), z_up_a (by omega), z_up_a (by omega), z_up_a (by omega), z_up_a (by omega), z_up_b g, z_up_a (by omega)]; exact q1
      · rw [z_addM_hd_o g, z_up_a (by omega), z_up_a (by omega), h2 _ (by omega), ← hm1, z_up_a (by omega), z_up_a (by omega), z_up_a (by omega), z_up_a (by omega), z_up_b g, z_up_a (by omega), z_up_a (by omega)]; exact q2
      · rw [z_addM_hd_o g, z_up_a (by omega), z_up_a (by omega), h2 _ (by omega), ← hm1, z_up_a (by omega), z_up_a (by omega), z_up_a (by omega), z_up_b g, z_up_a (by omega), z_up_a (by omega), z_up_a (by omega)]; exact q3
      · rw [z_addM_hd_o g, z_up_a (by omega), z_up_a (by omega), h2 _ (by omega), ← hm1, z_up_b g, z_up_a (by omega), z_up_a (by omega), z_up_a (by omega), z_up_a (by omega), z_up_a (by omega), z_up_a (by omega)]; exact q4
      · rw [z_addM_hd_o g, z_up_a (by omega), z_up_a (by omega), h2 _ (by omega), ← hm1, z_up_a (by omega), z_up_b (by omega), z_up_b (by omega), z_up_a (by omega), z_up_a (by omega), z_up_a (by omega), z_up_a (by omega)]; exact q5 j hj
      · rw [ect] at hj
        rw [z_addM_hd_o g, z_up_a (by omega), z_up_a (by omega), h2 _ (by omega), hfr _ (by omega) (by omega) (by omega) (by omega) (by omega) (by omega)]; exact q6 j hj
  · rw [z_up_a (by unfold z_bi; omega), z_up_a (by unfold z_bi; omega)]
    by_cases g : k = z_nm P
    · rw [g]; exact c2.1
    · rw [hF.1 _ (by unfold z_bi; omega) (by unfold z_bi; omega) (by unfold z_bi; omega) (by unfold z_bi; omega), hfr _ (by unfold z_bi; omega) (by unfold z_bi; omega) (by unfold z_bi; omega) (by unfold z_bi; omega) (by unfold z_bi; omega) (by unfold z_bi; omega)]; exact e1 k hk
  · have hk : k < z_nm P + 1 := hk
    rw [z_addM_liv_o hne] at hl
    rw [z_addM_bd_o hne]
    refine z_cb_fr (fun a x1 x2 => ?_) (e2 k (by omega) hl)
    unfold z_bi at x1 x2
    rw [z_up_row (by omega), z_up_row (by omega), hF.1 _ (by unfold z_bi; omega) (by unfold z_bi; omega) (by unfold z_bi; omega) (by unfold z_bi; omega), hfr _ (by omega) (by omega) (by omega) (by omega) (by omega) (by omega)]
  · rw [z_up_row (by omega), z_up_row (by omega), hF.1 _ (by unfold z_bi; omega) (by unfold z_bi; omega) (by unfold z_bi; omega) (by unfold z_bi; omega), hfr _ (by omega) (by omega) (by omega) (by omega) (by omega) (by omega)]
  · refine z_cb_fr (fun a x1 x2 => ?_) c2
    unfold z_bi at x1 x2
    rw [z_up_row (by omega), z_up_row (by omega)]
end
section
variable {P : z_Pg} {H : Nat → Int32} {l : List z_N}
variable {S : z_S} {m : z_m} {q : Nat}
theorem z_sM_addM {H' : Nat → Int32} {l' : List z_N} : z_sM (z_addM P H l) (z_nm P) H' l' = z_addM P H' l' := by
  unfold z_sM z_addM z_hd z_bd z_nm
  congr 5
  · funext k' w
    by_cases g : k' = P.2.2.2.1 <;> simp [g]
  · funext k'
    by_cases g : k' = P.2.2.2.1 <;> simp [g]
/-- a body written anew -/
theorem z_cp_body {m' : z_m} (h : z_cp m q P) (hct : ∀ k, k < z_nm P → z_cnt P k ≤ 2) {k : Nat} (hk : k < z_nm P) (h24 : z_nm P ≤ 24) (hl : z_liv P k = true) (hF : z_bF (z_bi q k) m m') (hb : z_cb m' (z_bi q k) 60 l) : z_cp m' q (z_sM P k (z_hd P k) l) := by
  have fr : ∀ a, (a < z_bi q k ∨ z_bi q k + 3 < a) → m' a = m a := fun a ha => hF.1 a (by omega) (by omega) (by omega) (by omega)
  have fr0 : ∀ a, a ≤ q + 10 → m' a = m a := fun a ha => fr a (by unfold z_bi; omega)
  refine z_cp_sM h hct hk hl ⟨fr0 _ (by omega), fr0 _ (by omega), fr0 _ (by omega), fr0 _ (by omega), fun j hj => ⟨by rw [fr0 _ (by omega)], by rw [fr0 _ (by omega)], by rw [fr0 _ (by omega)], by rw [fr0 _ (by omega)], fun i hi => ⟨by rw [fr0 _ (by omega)], by rw [fr0 _ (by omega)]⟩⟩⟩ (by simpa [z_liv] using hl) ?_ (fun j hj => ?_) (fun j hj hne a x1 x2 => fr a (by unfold z_bi at *; omega)) hb
  · have := z_h1_of h hk hl
    unfold z_h1 at *
    rw [fr0 (q + 4) (by omega), fr0 (q + 5) (by omega), fr0 (q + 6) (by omega), fr0 (q + 9) (by omega), fr0 (q + 7) (by omega), fr0 (q + 8) (by omega)]; exact this
  · by_cases g : j = k
    · rw [g, hF.2 6 (by decide)]; exact h.2.2.1 k (by omega)
    · rw [fr _ (by unfold z_bi; omega)]; exact h.2.2.1 j hj
/-- Program.addParameterTo, of any method -/
theorem f75_gen (hq : z_PS S q) (h : z_cp m q P) (h24 : z_nm P ≤ 24) (hct : ∀ k, k < z_nm P → z_cnt P k ≤ 2) {k j : Nat} (hk : k < z_nm P) (hl : z_liv P k = true) (hj : j < 2) (h3 : z_hd P k 3 = nI j) {a t : Int32} {H' : Nat → Int32} (k0 : H' 0 = 1) (k1 : H' 1 = z_hd P k 1) (k2 : H' 2 = z_hd P k 2) (k3 : H' 3 = nI (j + 1)) (k8 : H' 8 = z_hd P k 8) (ka : H' (4 + j) = a) (kb : ∀ i, i < 2 → i ≠ j → H' (4 + i) = z_hd P k (4 + i)) (kt : H' (6 + j) = t) (ku : ∀ i, i < j → H' (6 + i) = z_hd P k (6 + i)) : ∃ m', f75 q (nI k) a t (z_hp S m) = some ((), z_hp S m') ∧ z_cp m' q (z_sM P k H' (z_bd P k)) ∧ ∀ b, b ≠ q + 6 → b ≠ q + 7 → b ≠ q + 8 → m' b = m b := by
  obtain ⟨s1, s2, s3, s4, s5, s6⟩ := z_h1_of h hk hl
  rw [h3, nI_clamp (by omega)] at s6
  generalize hm1 : z_up (z_up (z_up m (q + 7) (k * 2 + j) a) (q + 8) (k * 2 + j) t) (q + 6) k (nI (j + 1)) = m1
  have s3' : m (q + 6) k = nI j := by rw [s3, h3]
  have u1 : z_up m (q + 7) (k * 2 + j) a (q + 6) k = nI j := by rw [z_up_a (by omega)]; exact s3'
  have u2 : z_up (z_up m (q + 7) (k * 2 + j) a) (q + 8) (k * 2 + j) t (q + 6) k = nI j := by rw [z_up_a (by omega)]; exact u1
  have hfr : ∀ b, b ≠ q + 6 → b ≠ q + 7 → b ≠ q + 8 → m1 b = m b := fun b x1 x2 x3 => by rw [← hm1, z_up_row x1, z_up_row x3, z_up_row x2]
  have hk24 : k < 24 := by omega
  refine ⟨m1, ?_, z_cp_sM h hct hk hl ⟨hfr _ (by omega) (by omega) (by omega), hfr _ (by omega) (by omega) (by omega), hfr _ (by omega) (by omega) (by omega), hfr _ (by omega) (by omega) (by omega), fun j' hj' => ⟨by rw [hfr _ (by omega) (by omega) (by omega)], by rw [hfr _ (by omega) (by omega) (by omega)], by rw [← hm1, z_up_b hj', z_up_a (by omega), z_up_a (by omega)], by rw [hfr _ (by omega) (by omega) (by omega)], fun i hi => ⟨by rw [← hm1, z_up_a (by omega), z_up_a (by omega), z_up_b (by omega)], by rw [← hm1, z_up_a (by omega), z_up_b (by omega), z_up_a (by omega)]⟩⟩⟩ k0 ⟨?_, ?_, ?_, ?_, fun i hi => ?_, fun i hi => ?_⟩ (fun j' hj' => by rw [hfr _ (by unfold z_bi; omega) (by unfold z_bi; omega) (by unfold z_bi; omega)]; exact h.2.2.1 j' hj') (fun j' hj' hne a x1 x2 => hfr a (by unfold z_bi at x1; omega) (by unfold z_bi at x1; omega) (by unfold z_bi at x1; omega)) (z_cb_fr (fun a x1 x2 => hfr a (by unfold z_bi at x1; omega) (by unfold z_bi at x1; omega) (by unfold z_bi at x1; omega)) (h.2.2.2 k hk hl)), hfr⟩
  · unfold f75
    simp (disch := ((try simp only [true_or, or_true, hq.k, hq.k1, hq.k2, hq.k3, hq.k4, hq.k5, hq.k6, hq.k7, hq.k8, hq.k9, hq.k10, hq.l1, hq.l2, hq.l3, hq.l4, hq.l5, hq.l6, hq.l7, hq.l8, hq.l9, hq.l10]) <;> (try omega))) only [↓reduceIte, ↓z_ite, ↓zR, ↓zB_R, ↓zB_B, ↓zB_ite, ↓zB_gI, ↓zB_pI, ↓zB_pZ, ↓zB_aK, ↓zB_G, ↓zB_lI, ↓zB_lZ, ↓zB_wI, ↓zB_wZ, ↓zB_lIl, ↓zB_wIl, zB_pI, zB_pZ, zB_lI, zB_lZ, zB_wI, zB_wZ, z_addl, z_ladd, z_mull, z_lmul, nI_add, z_subl, Nat.not_lt_zero, z_10, z_01, z_bitc, z_b0, z_b1, ↓zB_Gb, ↓zB_G0, ↓zB_G1, z_eql, z_leq, z_ltl, z_llt, z_eq, z_lt, z_m1lt, hq.k, hq.k1, hq.k2, hq.k3, hq.k4, hq.k5, hq.k6, hq.k7, hq.k8, hq.k9, hq.k10, hq.l1, hq.l2, hq.l3, hq.l4, hq.l5, hq.l6, hq.l7, hq.l8, hq.l9, hq.l10, ↓hq.g0, ↓hq.g1, ↓hq.g2, ↓hq.g3, ↓hq.g4, ↓hq.g5, ↓hq.g6, ↓hq.g7, ↓hq.g8, ↓hq.g9, ↓hq.gb, hq.gb, s3', u1, u2, h24, hk24, hj, hm1]
  · rw [hfr _ (by omega) (by omega) (by omega), k1]; exact s1
  · rw [hfr _ (by omega) (by omega) (by omega), k2]; exact s2
  · rw [← hm1, z_up_s, k3]
  · rw [hfr _ (by omega) (by omega) (by omega), k8]; exact s4
  · rw [← hm1, z_up_a (by omega), z_up_a (by omega)]
    by_cases gi : i = j
    · rw [gi, z_up_s, ka]
    · rw [z_up_b (by omega), kb i hi gi]; exact s5 i hi
  · rw [k3, nI_clamp (by omega)] at hi
    rw [← hm1, z_up_a (by omega)]
    by_cases gi : i = j
    · rw [gi, z_up_s, kt]
    · rw [z_up_b (by omega), z_up_a (by omega), ku i (by omega)]; exact s6 i (by omega)
end
