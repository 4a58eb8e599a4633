/-! a method more -/
def z_hdr (c n ct a0 a1 t0 t1 t : Int32) : Nat → Int32 := fun w => if w = 0 then 1 else if w = 1 then c else if w = 2 then n else if w = 3 then ct else if w = 4 then a0 else if w = 5 then a1 else if w = 6 then t0 else if w = 7 then t1 else t
def z_addM (P : z_Pg) (H : Nat → Int32) (l : List z_N) : z_Pg := (P.1, P.2.1, P.2.2.1, z_nm P + 1, fun k w => if k = z_nm P then H w else z_hd P k w, fun k => if k = z_nm P then l else z_bd P k)
/-- the class's program but for the body of k0 -/
def z_cpX (m : z_m) (p : Nat) (P : z_Pg) (k0 : Nat) : Prop := z_cc m p P ∧ z_cm m p P ∧ (∀ k, k < 24 → m (z_bi p k) 6 = nI 60) ∧ ∀ k, k < z_nm P → z_liv P k = true → k ≠ k0 → z_cb m (z_bi p k) 60 (z_bd P k)
section
variable {P : z_Pg} {H : Nat → Int32} {l : List z_N}
theorem z_addM_hd_s (w : Nat) : z_hd (z_addM P H l) (z_nm P) w = H w := if_pos rfl
theorem z_addM_hd_o {k : Nat} (h : k ≠ z_nm P) (w : Nat) : z_hd (z_addM P H l) k w = z_hd P k w := if_neg h
theorem z_addM_bd_s : z_bd (z_addM P H l) (z_nm P) = l := if_pos rfl
theorem z_addM_bd_o {k : Nat} (h : k ≠ z_nm P) : z_bd (z_addM P H l) k = z_bd P k := if_neg h
theorem z_addM_liv_o {k : Nat} (h : k ≠ z_nm P) : z_liv (z_addM P H l) k = z_liv P k := by unfold z_liv; rw [z_addM_hd_o h]
theorem z_addM_blw (c d : Nat) : z_blw (z_addM P H l) c d = z_blw P c d := by
  have : ∀ n c d, z_an (z_addM P H l) n c d = z_an P n c d := by
    intro n
    induction n with
    | zero => intro c d; rfl
    | succ n ih => intro c d; unfold z_an; simp only [ih]; rfl
  exact this _ _ _
variable {S : z_S} {m : z_m} {p : Nat}
theorem z_addM_cc (h : z_cc m p P) : z_cc m p (z_addM P H l) := by
  refine ⟨h.1, fun c hc => ⟨(h.2 c hc).1, fun d hd => ?_, (h.2 c hc).2.2⟩⟩
  rw [z_addM_blw]; exact (h.2 c hc).2.1 d hd
/-- Program.addMethod -/
theorem f74_sp (hp : z_PS S p) (h : z_cp m p P) (hw : z_wf P) (h24 : z_nm P < 24) (c n t : Int32) : ∃ m', f74 p c n t (z_hp S m) = some (nI (z_nm P), z_hp S m') ∧ z_cpX m' p (z_addM P (z_hdr c n 0 (-1) (-1) 0 0 t) l) (z_nm P) ∧ m' p 14 = 0 ∧ ∀ a, (a < p ∨ p + 179 ≤ a) → m' a = m a := by
  obtain ⟨hc, ⟨d1, d2, d3⟩, e1, e2⟩ := h
  have hbs := (hp.2.2 (z_nm P) h24).2
  have hbr := (hp.2.2 (z_nm P) h24).1
  generalize hm1 : z_up (z_up (z_up (z_up (z_up (z_up (z_up m p 12 (m p 12 ||| (1 <<< (nI (z_nm P) &&& 31)))) (p + 4) (z_nm P) c) (p + 5) (z_nm P) n) (p + 6) (z_nm P) 0) (p + 7) (z_nm P * 2) (-1)) (p + 7) (z_nm P * 2 + 1) (-1)) (p + 9) (z_nm P) t = m1
  have hfr : ∀ a, a ≠ p → a ≠ p + 4 → a ≠ p + 5 → a ≠ p + 6 → a ≠ p + 7 → a ≠ p + 9 → m1 a = m a := fun a x1 x2 x3 x4 x5 x6 => by
    rw [← hm1, z_up_row x6, z_up_row x5, z_up_row x5, z_up_row x4, z_up_row x3, z_up_row x2, z_up_row x1]
  have hfp : ∀ j, j ≠ 12 → m1 p j = m p j := fun j x1 => by
    rw [← hm1, z_up_a (by omega), z_up_a (by omega), z_up_a (by omega), z_up_a (by omega), z_up_a (by omega), z_up_a (by omega), z_up_b x1]
  obtain ⟨m2, ec, c2, hF⟩ := f1_sp (m := m1) hbs (by rw [hfr _ (by unfold z_bi; omega) (by unfold z_bi; omega) (by unfold z_bi; omega) (by unfold z_bi; omega) (by unfold z_bi; omega) (by unfold z_bi; omega)]; exact e1 _ h24) (by decide)
  have h2 : ∀ a, a ≤ p + 10 → m2 a = m1 a := fun a x1 => hF.1 a (by unfold z_bi; omega) (by unfold z_bi; omega) (by unfold z_bi; omega) (by unfold z_bi; omega)
  have d1' : m2 p 11 = nI (z_nm P) := by rw [h2 p (by omega), hfp 11 (by decide)]; exact d1
  refine ⟨z_up (z_up m2 p 11 (nI (z_nm P + 1))) p 14 0, ?_, ⟨z_addM_cc ⟨?_, fun c' hc' => ⟨?_, fun d hd => ?_, fun n' hn' => ?_⟩⟩, ⟨?_, fun k hk => ?_, fun k hk hl => ?_⟩, fun k hk => ?_, fun k hk hl hne => ?_⟩, z_up_s _ _ _ _, fun a ha => ?_⟩
  · unfold f74
    simp (disch := ((try simp only [true_or, or_true, hp.k, hp.k1, hp.k2, hp.k3, hp.k4, hp.k5, hp.k6, hp.k7, hp.k8, hp.k9, hp.k10, hp.l1, hp.l2, hp.l3, hp.l4, hp.l5, hp.l6, hp.l7, hp.l8, hp.l9, hp.l10, hbs.k, hbs.k1, hbs.k2, hbs.k3, hbs.k4, hbs.k5, hbs.k6, hbs.l1, hbs.l2, hbs.l3, hbs.l4, hbs.l5, hbs.l6, or_true]) <;> (try omega))) only [↓reduceIte, ↓z_ite, ↓zR, ↓zB_R, ↓zB_B, ↓zB_ite, ↓zB_gI, ↓zB_pI, ↓zB_pZ, ↓zB_aK, ↓zB_G, ↓zB_lI, ↓zB_lZ, ↓zB_wI, ↓zB_wZ, ↓zB_lIl, ↓zB_wIl, zB_pI, zB_pZ, zB_lI, zB_lZ, zB_wI, zB_wZ, z_addl, z_ladd, z_mull, z_lmul, nI_add, z_subl, Nat.not_lt_zero, z_10, z_01, z_bitc, z_b0, z_b1, ↓zB_Gb, ↓zB_G0, ↓zB_G1, z_eql, z_leq, z_ltl, z_llt, z_eq, z_lt, z_m1lt, hp.k, hp.k1, hp.k2, hp.k3, hp.k4, hp.k5, hp.k6, hp.k7, hp.k8, hp.k9, hp.k10, hp.l1, hp.l2, hp.l3, hp.l4, hp.l5, hp.l6, hp.l7, hp.l8, hp.l9, hp.l10, hbs.k, hbs.k1, hbs.k2, hbs.k3, hbs.k4, hbs.k5, hbs.k6, hbs.l1, hbs.l2, hbs.l3, hbs.l4, hbs.l5, hbs.l6, or_true, ↓hp.g0, ↓hp.g1, ↓hp.g2, ↓hp.g3, ↓hp.g4, ↓hp.g5, ↓hp.g6, ↓hp.g7, ↓hp.g8, ↓hp.g9, ↓hp.gb, hp.gb, ↓hbs.g0, ↓hbs.g1, ↓hbs.g2, ↓hbs.g3, ↓hbs.g4, ↓hbs.g5, d1, h24, hbr, hm1, ↓zB_c ec, zB_c ec, d1']
  · rw [z_up_b (by decide), z_up_b (by decide), h2 p (by omega), hfp 10 (by decide)]; exact hc.1
  · rw [z_up_a (by omega), z_up_a (by omega), h2 _ (by omega), hfr _ (by omega) (by omega) (by omega) (by omega) (by omega) (by omega)]; exact (hc.2 c' hc').1
  · rw [z_up_a (by omega), z_up_a (by omega), h2 _ (by omega), hfr _ (by omega) (by omega) (by omega) (by omega) (by omega) (by omega)]; exact (hc.2 c' hc').2.1 d hd
  · rw [z_up_a (by omega), z_up_a (by omega), h2 _ (by omega), hfr _ (by omega) (by omega) (by omega) (by omega) (by omega) (by omega)]; exact (hc.2 c' hc').2.2 n' hn'
  · rw [z_up_b (by decide), z_up_s]; rfl
  · rw [z_up_b (by decide), z_up_b (by decide), h2 p (by omega), ← hm1, z_up_a (by omega), z_up_a (by omega), z_up_a (by omega), z_up_a (by omega), z_up_a (by omega), z_up_a (by omega), z_up_s, z_bit_or _ _ hk, z_bit_shl (by omega) hk, d2 k hk]
    show _ = (decide (k < z_nm P + 1) && z_liv (z_addM P _ l) k)
    by_cases g : k = z_nm P
    · rw [g]
      have : z_liv (z_addM P (z_hdr c n 0 (-1) (-1) 0 0 t) l) (z_nm P) = true := by
        unfold z_liv; rw [z_addM_hd_s]; rfl
      rw [this]; simp
    · rw [z_addM_liv_o g, show decide (z_nm P = k) = false from decide_eq_false (fun e => g e.symm)]
      by_cases g2 : k < z_nm P
      · simp [g2, show k < z_nm P + 1 by omega]
      · simp [g2, show ¬ k < z_nm P + 1 by omega]
  · have hk : k < z_nm P + 1 := hk
    by_cases g : k = z_nm P
    · subst g
      refine ⟨?_, ?_, ?_, ?_, fun j hj => ?_, fun j hj => ?_⟩
      · rw [z_addM_hd_s, z_up_a (by omega), z_up_a (by omega), h2 _ (by omega), ← hm1, z_up_a (by omega), z_up_a (by omega), z_up_a (by omega), z_up_a (by omega), z_up_a (by omega), z_up_s]; rfl
      · rw [z_addM_hd_s, z_up_a (by omega), z_up_a (by omega), h2 _ (by omega), ← hm1, z_up_a (by omega), z_up_a (by omega), z_up_a (by omega), z_up_a (by omega), z_up_s]; rfl
      · rw [z_addM_hd_s, z_up_a (by omega), z_up_a (by omega), h2 _ (by omega), ← hm1, z_up_a (by omega), z_up_a (by omega), z_up_a (by omega), z_up_s]; rfl
      · rw [z_addM_hd_s, z_up_a (by omega), z_up_a (by omega), h2 _ (by omega), ← hm1, z_up_s]; rfl
      · rw [z_addM_hd_s, z_up_a (by omega), z_up_a (by omega), h2 _ (by omega), ← hm1, z_up_a (by omega)]
        have : j = 0 ∨ j = 1 := by omega
        rcases this with g | g
        · rw [g, z_up_b (by omega), show z_nm P * 2 + 0 = z_nm P * 2 from rfl, z_up_s]; rfl
        · rw [g, z_up_s]; rfl
      · have : z_cnt (z_addM P (z_hdr c n 0 (-1) (-1) 0 0 t) l) (z_nm P) = 0 := by unfold z_cnt; rw [z_addM_hd_s]; rfl
        rw [this] at hj; exact absurd hj (Nat.not_lt_zero _)
    · rw [z_addM_liv_o g] at hl
      obtain ⟨q1, q2, q3, q4, q5, q6⟩ := d3 k (by omega) hl
      have ect : z_cnt (z_addM P (z_hdr c n 0 (-1) (-1) 0 0 t) l) k = z_cnt P k := by unfold z_cnt; rw [z_addM_hd_o g]
      refine ⟨?_, ?_, ?_, ?_, fun j hj => ?_, fun j hj => ?_⟩
      · rw [z_addM_hd_o g, z_up_a (by omega), z_up_a (by omega), h2 _ (by omega), ← hm1, z_up_a (by omega), z_up_a (by omega), z_up_a (by omega), z_up_a (by omega), z_up_a (by omega), z_up_b g, z_up_a (by omega)]; exact q1
      · rw [z_addM_hd_o g, z_up_a (by omega), z_up_a (by omega), h2 _ (by omega), ← hm1, z_up_a (by omega), z_up_a (by omega), z_up_a (by omega), z_up_a (by omega), z_up_b g, z_up_a (by omega), z_up_a (by omega)]; exact q2
      · rw [z_addM_hd_o g, z_up_a (by omega), z_up_a (by omega), h2 _ (by omega), ← hm1, z_up_a (by omega), z_up_a (by omega), z_up_a (by omega), z_up_b g, z_up_a (by omega), z_up_a (by omega), z_up_a (by omega)]; exact q3
      · rw [z_addM_hd_o g, z_up_a (by omega), z_up_a (by omega), h2 _ (by omega), ← hm1, z_up_b g, z_up_a (by omega), z_up_a (by omega), z_up_a (by omega), z_up_a (by omega), z_up_a (by omega), z_up_a (by omega)]; exact q4
      · rw [z_addM_hd_o g, z_up_a (by omega), z_up_a (by omega), h2 _ (by omega), ← hm1, z_up_a (by omega), z_up_b (by omega), z_up_b (by omega), z_up_a (by omega), z_up_a (by omega), z_up_a (by omega), z_up_a (by omega)]; exact q5 j hj
      · rw [ect] at hj
        rw [z_addM_hd_o g, z_up_a (by omega), z_up_a (by omega), h2 _ (by omega), hfr _ (by omega) (by omega) (by omega) (by omega) (by omega) (by omega)]; exact q6 j hj
  · rw [z_up_a (by unfold z_bi; omega), z_up_a (by unfold z_bi; omega)]
    by_cases g : k = z_nm P
    · rw [g]; exact c2.1
    · rw [hF.1 _ (by unfold z_bi; omega) (by unfold z_bi; omega) (by unfold z_bi; omega) (by unfold z_bi; omega), hfr _ (by unfold z_bi; omega) (by unfold z_bi; omega) (by unfold z_bi; omega) (by unfold z_bi; omega) (by unfold z_bi; omega) (by unfold z_bi; omega)]; exact e1 k hk
  · have hk : k < z_nm P + 1 := hk
    rw [z_addM_liv_o hne] at hl
    rw [z_addM_bd_o hne]
    refine z_cb_fr (fun a x1 x2 => ?_) (e2 k (by omega) hl)
    unfold z_bi at x1 x2
    rw [z_up_row (by omega), z_up_row (by omega), hF.1 _ (by unfold z_bi; omega) (by unfold z_bi; omega) (by unfold z_bi; omega) (by unfold z_bi; omega), hfr _ (by omega) (by omega) (by omega) (by omega) (by omega) (by omega)]
  · rw [z_up_row (by omega), z_up_row (by omega), hF.1 _ (by unfold z_bi; omega) (by unfold z_bi; omega) (by unfold z_bi; omega) (by unfold z_bi; omega), hfr _ (by omega) (by omega) (by omega) (by omega) (by omega) (by omega)]
end
