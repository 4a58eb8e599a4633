-- deps: 91.00.run 91.01.run2 91.02.run3 91.03.run4 91.04.run5 91.05.run6 91.06.crun 91.07.crun2 91.08.crun3 91.09.crun4 91.10.crun5 91.11.crun6 91.12.crun7 91.13.crun8
/-! a run: the class, all of it -/
section
variable {P : z_Pg} {A : z_A} {S : z_S} {m : z_m} {p : Nat}
def y_hE : y_Qh := (fun _ => 0, fun _ => 0, fun _ _ => none, 0, fun _ => 0, fun _ _ => (0, 0))
def y_h0 (P : z_Pg) (k c : Nat) (f s : Int32) : y_Qh := y_en (y_new P y_hE c) 0 k 0 (if 0 < z_cnt P k then some (0, f) else none) (if 1 < z_cnt P k then some (0, s) else none)
def y_X0 (P : z_Pg) (k c : Nat) (f s : Int32) : y_Qs := y_st [] (y_h0 P k c f s) 0 (0, 0) 0 0
theorem y_X0_e (P : z_Pg) (k c : Nat) (f s : Int32) : y_X0 P k c f s = ([(0, 0, 0, [])], y_h0 P k c f s, 1, -1, 0, (0, 0)) := rfl
noncomputable def y_XE (P : z_Pg) (k c : Nat) (f s : Int32) : y_Qs := y_run P 3100 (y_X0 P k c f s)
/-- may it be run -/
def y_may (P : z_Pg) (k c : Nat) : Prop := k < z_nm P ∧ z_liv P k = true ∧ c < z_nc P ∧ z_blw P c (z_own P k) = true ∧ ∀ j, j < z_cnt P k → z_hd P k (6 + j) = -1
theorem y_X0_ok (hP : y_PG P) {k c : Nat} (hm : y_may P k c) (f s : Int32) : y_QX P k (y_X0 P k c f s) ∧ y_MU (y_X0 P k c f s) < 3100 := by
  obtain ⟨hk, hl, hc, hb, hj⟩ := hm
  have hw := hP.1.1
  have hB := hw.2.2.2.2.1 k hk
  have hr := hP.rt k hk hl
  rw [y_X0_e]
  have em : y_qm (y_h0 P k c f s) 0 = k := rfl
  have eo : y_qo (y_h0 P k c f s) 0 = 0 := rfl
  have en : y_qn (y_h0 P k c f s) = 1 := rfl
  have ec : y_qc (y_h0 P k c f s) 0 = c := rfl
  have el : ∀ t, y_ql (y_h0 P k c f s) 0 t = if t = 1 then (if 0 < z_cnt P k then some (0, f) else none) else if t = 0 then (if 1 < z_cnt P k then some (0, s) else none) else none := fun t => rfl
  have hI : y_HI P (y_h0 P k c f s) 0 := by
    refine ⟨fun g hg => ?_, fun g hg t v hv => ?_, fun o ho => ?_⟩
    · obtain rfl : g = 0 := by omega
      rw [em, eo, en, ec]; exact ⟨hk, hl, by decide, hb⟩
    · obtain rfl : g = 0 := by omega
      rw [el] at hv
      rw [em]
      by_cases t1 : t = 1
      · rw [if_pos t1] at hv
        by_cases g0 : 0 < z_cnt P k
        · rw [if_pos g0] at hv
          obtain rfl := Option.some.inj hv
          refine Or.inl ⟨?_, rfl⟩
          rw [t1]; exact hj 0 g0
        · rw [if_neg g0] at hv; cases hv
      · rw [if_neg t1] at hv
        by_cases t0 : t = 0
        · rw [if_pos t0] at hv
          by_cases g0 : 1 < z_cnt P k
          · rw [if_pos g0] at hv
            obtain rfl := Option.some.inj hv
            refine Or.inl ⟨?_, rfl⟩
            rw [t0]; exact hj 1 g0
          · rw [if_neg g0] at hv; cases hv
        · rw [if_neg t0] at hv; cases hv
    · have h1 := y_new_HI (F := 0) (h := y_hE) (c := c) hw
      have ho : o < 1 := ho
      obtain rfl : o = 0 := by omega
      rw [ec]
      refine ⟨hc, fun n hn d hd => ?_⟩
      have e2 : y_qf (y_h0 P k c f s) 0 n = (if y_isN P c n = true then 2 else 0, 0) := rfl
      rw [e2]
      obtain ⟨f1, _, f3⟩ := z_fc_some hd
      have hty := (z_fld_ty hw (c := d) (by omega) hn f3).1
      have eN : y_isN P c n = !(z_fld P d n - 2 == -1) := by unfold y_isN; rw [hd]
      rw [eN]
      generalize z_fld P d n - 2 = T at hty ⊢
      rcases hty with g1 | ⟨c', g1, g2⟩
      · subst g1; exact Or.inl ⟨rfl, rfl⟩
      · have h6 := hw.1.1
        subst g2
        have : (nI c' == (-1 : Int32)) = false := by simpa using z_nI_m1 (d := c') (by omega)
        rw [this]
        exact Or.inr ⟨c', g1, rfl, Or.inl rfl⟩
  refine ⟨fun _ => ⟨rfl, ⟨⟨(by decide : (1 : Nat) ≤ 500), by show 0 + 0 + 1 ≤ 1; omega, by show 1 + 1 ≤ 1 + 1; omega⟩, ?_, ⟨⟨?_, fun t ht => ?_, Nat.zero_le _, fun j hj => absurd hj (Nat.not_lt_zero _)⟩, ⟨rfl, ?_⟩, trivial⟩, hI, by show (0 : Nat) < 20; decide⟩⟩, ?_⟩
  · show 0 = y_xc _ 0
    unfold y_xc
    rw [if_neg (fun q => absurd q.2 (by decide))]
  · show 0 < (z_bd P k).length
    exact z_tr_pos hB.1
  · have ht : y_LV P k 0 t := ht
    show (y_ql (y_h0 P k c f s) 0 t).isSome = true
    rw [el]
    rcases ht with ⟨rfl, g⟩ | ⟨rfl, g⟩ | ⟨j, _, _, g, _⟩
    · rw [if_pos rfl, if_pos g]; rfl
    · rw [if_neg (by decide), if_pos rfl, if_pos g]; rfl
    · exact absurd g (Nat.not_lt_zero _)
  · show z_fit P (z_Ty P k 0) (z_hd P k 8) = true
    exact (z_T_ok hr).2
  · unfold y_MU
    rw [if_pos rfl]
    show 0 + (5 - 0) + 6 * (500 - 1) < 3100
    decide
theorem z_XS_r (hX : z_XS S) (v : Option Nat) : z_XS (z_Sr S 10 10 v) := by
  obtain ⟨h1, h2, h3, ⟨b1, b2, b3, b4⟩, h5, h6⟩ := hX
  have bs : ∀ {b : Nat}, b ≠ 10 → z_BS S b 256 → z_BS (z_Sr S 10 10 v) b 256 := fun hb h => ⟨h.1, fun j hj => ⟨by rw [z_rm_r, if_neg (fun q => hb q.1)]; exact (h.2 j hj).1, (h.2 j hj).2⟩⟩
  refine ⟨h1, fun e he => ?_, h3, ⟨bs (by decide) b1, bs (by decide) b2, bs (by decide) b3, bs (by decide) b4⟩, h5, h6⟩
  rw [z_rm_r, if_neg ((by decide : ∀ e ∈ z_xr, ¬ (e.1 = 10 ∧ e.2.1 = 10)) e he)]
  exact h2 e he
theorem z_PS_r {q : Nat} (lo : 62 ≤ q) (hp : z_PS S q) (v : Option Nat) : z_PS (z_Sr S 10 10 v) q := by
  refine ⟨hp.1, fun j hj => ⟨by rw [z_rm_r, if_neg (by omega)]; exact (hp.2.1 j hj).1, (hp.2.1 j hj).2⟩, fun k hk => ⟨by rw [z_rm_r, if_neg (by omega)]; exact (hp.2.2 k hk).1, (hp.2.2 k hk).2.1, fun j hj => ⟨by rw [z_rm_r, if_neg (by unfold z_bi; omega)]; exact ((hp.2.2 k hk).2.2 j hj).1, ((hp.2.2 k hk).2.2 j hj).2⟩⟩⟩
theorem z_ID_r {sn sx : Nat} {sp : Nat → Nat} (hI : z_ID S sn sx sp) (v : Option Nat) : z_ID (z_Sr S 10 10 v) sn sx sp := by
  obtain ⟨h1, h2, h3, h4, h5, h6, h7, h8⟩ := hI
  refine ⟨z_XS_r h1 v, z_PS_r (by decide) h2 v, fun s hs => z_PS_r (by have := z_pid_lo s; omega) (h3 s hs) v, h4, h5, ?_, ?_, fun i hi => ?_⟩
  · rw [z_rm_r, if_neg (by decide)]; exact h6
  · rw [z_rm_r, if_neg (by decide)]; exact h7
  · rw [z_rm_r, if_neg (by omega)]; exact h8 i hi
theorem z_SS_r (S : z_S) (v : Option Nat) : z_SS S (z_Sr S 10 10 v) := ⟨rfl, rfl, rfl, fun j => by
  show q_up S.2.2.2.1 10 10 v 2390 j = S.2.2.2.1 2390 j
  unfold q_up
  rw [if_neg (by omega)], rfl, Nat.le_succ _, Nat.le_add_right _ _⟩
/-- Machine.perform -/
theorem f44_c (hP : y_PG P) (hX : z_XS S) (hp : z_PS S p) (lo : 62 ≤ p) (hcp : z_cp m p P) (hT : z_LT m p P) {k c : Nat} (hm : y_may P k c) (f s : Int32) : ∃ m', f44 10 p (nI k) (nI c) f s (z_hp S m) = some (y_how (y_XE P k c f s), z_hp (z_Sr S 10 10 (some p)) m') ∧ m' 10 17 = y_val (y_XE P k c f s) ∧ m' 10 15 = nI (y_XE P k c f s).2.2.1 ∧ y_cR m m' := by
  have hw := hP.1.1
  have h10k : z_kd S 10 = 5 := hX.k10
  obtain ⟨hk, hl, hc, hb, hj⟩ := hm
  have hX1 := z_XS_r hX (some p)
  have hp1 := z_PS_r lo hp (some p)
  generalize hm1 : z_up (z_up (z_up (z_up (z_up (z_up (z_up m 10 11 0) 10 12 0) 10 13 0) 10 14 0) 10 15 0) 10 17 0) 10 16 (-1) = m1
  have fr1 : ∀ b, b ≠ 10 → m1 b = m b := fun b x => by rw [← hm1, z_up_row x, z_up_row x, z_up_row x, z_up_row x, z_up_row x, z_up_row x, z_up_row x]
  have e11 : m1 10 11 = 0 := by rw [← hm1, z_up_b (by decide), z_up_b (by decide), z_up_b (by decide), z_up_b (by decide), z_up_b (by decide), z_up_b (by decide), z_up_s]
  have e12 : m1 10 12 = 0 := by rw [← hm1, z_up_b (by decide), z_up_b (by decide), z_up_b (by decide), z_up_b (by decide), z_up_b (by decide), z_up_s]
  have e13 : m1 10 13 = 0 := by rw [← hm1, z_up_b (by decide), z_up_b (by decide), z_up_b (by decide), z_up_b (by decide), z_up_s]
  have e14 : m1 10 14 = 0 := by rw [← hm1, z_up_b (by decide), z_up_b (by decide), z_up_b (by decide), z_up_s]
  have e15 : m1 10 15 = 0 := by rw [← hm1, z_up_b (by decide), z_up_b (by decide), z_up_s]
  have e17 : m1 10 17 = 0 := by rw [← hm1, z_up_b (by decide), z_up_s]
  have e16 : m1 10 16 = -1 := by rw [← hm1, z_up_s]
  have hG0 : y_cG (z_Sr S 10 10 (some p)) m p P := ⟨hX1, hp1, lo, by rw [z_rm_r, if_pos ⟨rfl, rfl⟩], hcp, hT⟩
  have hG : y_cG (z_Sr S 10 10 (some p)) m1 p P := hG0.fr hw (fun b hb => fr1 b (by omega))
  obtain ⟨m2, e46, o2, t10, t2⟩ := f46_c (m := m1) (h := y_hE) hw hG hc ⟨e14, fun o ho => absurd ho (Nat.not_lt_zero _)⟩ (Nat.zero_le _)
  have e46 : f46 10 (nI c) (z_hp (z_Sr S 10 10 (some p)) m1) = some (nI 0, z_hp (z_Sr S 10 10 (some p)) m2) := e46
  obtain ⟨m3, e47, x3, r3⟩ := f47_c (S := z_Sr S 10 10 (some p)) (m := m2) (s := []) (h := y_new P y_hE c) (n := 0) (out := (0, 0)) (f := 0) (q := k) (o := 0) (fst := f) (snd := s) (x := if 0 < z_cnt P k then some (0, f) else none) (y := if 1 < z_cnt P k then some (0, s) else none) hX1 ⟨by rw [t10 11 (by decide)]; exact e11, by rw [t10 15 (by decide)]; exact e15, by rw [t10 16 (by decide)]; exact e16, by rw [t10 17 (by decide)]; exact e17⟩ trivial o2 (by rw [t10 12 (by decide)]; exact e12) (by rw [t10 13 (by decide)]; exact e13) (fun g hg => absurd hg (Nat.not_lt_zero _)) (Nat.zero_le _) (Nat.zero_le _) (by decide) (fun v hv => by
    split at hv
    · obtain rfl := Option.some.inj hv; rfl
    · cases hv) (fun v hv => by
    split at hv
    · obtain rfl := Option.some.inj hv; rfl
    · cases hv)
  have hR : y_cR m m3 := fun b hb => by rw [r3 b hb, t2 b (by omega) (by omega) (by omega), fr1 b (by omega)]
  obtain ⟨q1, q2⟩ := y_X0_ok hP ⟨hk, hl, hc, hb, hj⟩ f s
  obtain ⟨m4, e4, x4, x5, r4⟩ := f44_57_c (S := z_Sr S 10 10 (some p)) (p := p) hP hk hl 3100 (y_X0 P k c f s) m3 0 1000000 q2 (by decide) (by decide) q1 (hG0.fr hw hR) x3
  refine ⟨m4, ?_, x4, x5, hR.trans r4⟩
  unfold f44
  have h10k1 : z_kd (z_Sr S 10 10 (some p)) 10 = 5 := h10k
  have e4 : f44_57 10 (nI k) 0 (z_hp (z_Sr S 10 10 (some p)) m3) = some (y_how (y_XE P k c f s), z_hp (z_Sr S 10 10 (some p)) m4) := e4
  rw [zB_pR h10k]
  simp (disch := ((try simp only [true_or, or_true, h10k1]) <;> (try omega))) only [↓reduceIte, ↓z_ite, ↓zR, ↓zB_R, ↓zB_B, ↓zB_ite, ↓zB_gI, ↓zB_pI, ↓zB_pZ, ↓zB_aK, ↓zB_G, ↓zB_lI, ↓zB_lZ, ↓zB_wI, ↓zB_wZ, ↓zB_lIl, ↓zB_wIl, zB_pI, zB_pZ, zB_lI, zB_lZ, zB_wI, zB_wZ, z_addl, z_ladd, z_mull, z_lmul, nI_add, z_subl, Nat.not_lt_zero, z_10, z_01, z_bitc, z_b0, z_b1, ↓zB_Gb, ↓zB_G0, ↓zB_G1, z_eql, z_leq, z_ltl, z_llt, z_eq, z_lt, z_m1lt, h10k1, hm1, ↓zB_c e46, zB_c e46, ↓zB_c e47, zB_c e47, e4]
/-- the state with another last run -/
def z_lr (A : z_A) (v n : Int32) : z_A := (A.1, A.2.1, A.2.2.1, A.2.2.2.1, v, n)
theorem z_CM_lr (hw : z_WA A) {sn : Nat} {sp : Nat → Nat} (h : z_CM m sn sp A) {m' : z_m} (hR : y_cR m m') {v n : Int32} (h17 : m' 10 17 = v) (h15 : m' 10 15 = n) : z_CM m' sn sp (z_lr A v n) := by
  obtain ⟨h1, h2, h3, _, _⟩ := h
  refine ⟨z_RM_fr (fun a ha => hR a (by omega)) h1, ?_, ?_, h17, h15⟩
  · unfold z_cT at *
    show m' 1 6 = nI A.1.length ∧ _
    rw [hR 1 (by decide), hR 2 (by decide), hR 3 (by decide), hR 4 (by decide), hR 5 (by decide), hR 6 (by decide)]
    exact h2
  · exact z_CP_fr (A := A) hw (hR 0 (by decide)) (fun a ha => hR a (by omega)) h3
end
