-- deps: 91.00.run 91.01.run2 91.02.run3 91.03.run4 91.04.run5 91.05.run6 91.06.crun 91.07.crun2 91.08.crun3 91.09.crun4 91.10.crun5 91.11.crun6 91.12.crun7 91.13.crun8 91.14.crun9
/-! a run: the class's answer -/
section
variable {P : z_Pg} {A : z_A} {S : z_S} {m : z_m} {p : Nat}
/-- parameters are numbers -/
def y_pars (P : z_Pg) (k : Nat) : Bool := !z_any (fun j => z_hd P k (6 + j) != -1) (z_cnt P k)
noncomputable def y_ans (A : z_A) (P : z_Pg) (k c f s : Int32) : (Int32 ⊕ Nat) × z_A :=
  if z_hm P k = false then (.inr 2, A)
  else if z_in c (z_nc P) = false then (.inr 2, A)
  else if z_blw P c.toNatClampNeg (z_own P k.toNatClampNeg) = false then (.inr 1, A)
  else if y_pars P k.toNatClampNeg = false then (.inr 1, A)
  else if z_wr P = -1 then (.inl (y_how (y_XE P k.toNatClampNeg c.toNatClampNeg f s)), z_lr A (y_val (y_XE P k.toNatClampNeg c.toNatClampNeg f s)) (nI (y_XE P k.toNatClampNeg c.toNatClampNeg f s).2.2.1))
  else (.inr 0, A)
noncomputable def z_orun (A : z_A) (k c f s b : Int32) : (Int32 ⊕ Nat) × z_A :=
  if b = 0 then y_ans A A.2.1 k c f s
  else match A.2.2.1 with
    | none => (.inr 0, A)
    | some Bg => y_ans A Bg k c f s
theorem z_search2 {σ R : Type} {f : σ → m_M (σ ⊕ R)} {S : z_S} {m : z_m} (st : Nat → σ) (c : Nat → Bool) (Y : R × q_H) : ∀ (n a N : Nat), n < N → (∀ i, a ≤ i → i < a + n → f (st i) (z_hp S m) = if c i = true then some (.inr Y.1, Y.2) else some (.inl (st (i + 1)), z_hp S m)) → ((∀ i, a ≤ i → i < a + n → c i = false) → f (st (a + n)) (z_hp S m) = some (.inr Y.1, Y.2)) → m_W f N (st a) (z_hp S m) = some Y
  | 0, a, N + 1, _, _, he => by
    have he := he (fun i h1 h2 => by omega)
    unfold m_W m_B
    rw [Nat.add_zero] at he
    rw [he]; rfl
  | n + 1, a, N + 1, hN, hs, he => by
    unfold m_W m_B
    rw [hs a (Nat.le_refl a) (by omega)]
    cases hc : c a with
    | true => rfl
    | false => exact z_search2 st c Y n (a + 1) N (by omega) (fun i h1 h2 => hs i (by omega) (by omega)) (fun hall => by
      rw [show a + 1 + n = a + (n + 1) by omega]
      exact he (fun i h1 h2 => by
        rcases Nat.eq_or_lt_of_le h1 with rfl | g
        · exact hc
        · exact hall i g (by omega)))
/-- one program or the other -/
theorem c_run_p (hw : z_WA A) {sn sx : Nat} {sp : Nat → Nat} (hI : z_ID S sn sx sp) (hCM : z_CM m sn sp A) (hw' : z_wf P ∧ z_b60 P) (hfu : z_fu P) (hp : z_PS S p) (lo : 62 ≤ p) (hcp : z_cp m p P) (hy : z_wr P = -1 → ∃ m1, f169 0 p (z_hp S m) = some (.inl (), z_hp S m1) ∧ z_CM m1 sn sp A ∧ (∀ a, 2390 ≤ a → m1 a = m a) ∧ z_cp m1 p P ∧ z_LT m1 p P) (hn : ¬ z_wr P = -1 → ∃ m1, f169 0 p (z_hp S m) = some (.inr 0, z_hp (z_Sx S) m1) ∧ z_CM m1 sn sp A ∧ ∀ a, 2390 ≤ a → m1 a = m a) (k c f s : Int32) : ∃ S1 m1, f154_39 0 k c f s p (z_hp S m) = some ((y_ans A P k c f s).1, z_hp S1 m1) ∧ z_CR S1 m1 (y_ans A P k c f s).2 ∧ z_SS S S1 ∧ ∀ a, 2390 ≤ a → m1 a = m a := by
  have hX := hI.1
  have hw := hw
  obtain ⟨hwf, h60⟩ := hw'
  have h24 := hwf.2.2.1
  have h6 := hwf.1.1
  have hpk := hp.k
  have h0k : z_kd S 0 = 11 := hX.k0
  have h10k : z_kd S 10 = 5 := hX.k10
  have hCR : z_CR S m A := ⟨sn, sx, sp, hI, hCM⟩
  have refx : ∀ E, f154_39 0 k c f s p (z_hp S m) = some (.inr E, z_hp (z_Sx S) m) → ∃ S1 m1, f154_39 0 k c f s p (z_hp S m) = some ((((.inr E, A) : (Int32 ⊕ Nat) × z_A)).1, z_hp S1 m1) ∧ z_CR S1 m1 (((.inr E, A) : (Int32 ⊕ Nat) × z_A)).2 ∧ z_SS S S1 ∧ ∀ a, 2390 ≤ a → m1 a = m a := fun E e => ⟨z_Sx S, m, e, z_CR_x hCR, z_SS.x S, fun _ _ => rfl⟩
  unfold y_ans
  by_cases g1 : z_hm P k = false
  · rw [if_pos g1]
    refine refx 2 ?_
    have e1 := f165_n hX hp hcp hwf g1
    unfold f154_39
    simp (disch := ((try simp only [true_or, or_true, hX.k0, hX.k8, hX.k9, hX.l9]) <;> (try omega))) only [↓reduceIte, ↓z_ite, ↓zR, ↓zB_R, ↓zB_B, ↓zB_ite, ↓zB_gI, ↓zB_pI, ↓zB_pZ, ↓zB_aK, ↓zB_G, ↓zB_lI, ↓zB_lZ, ↓zB_wI, ↓zB_wZ, ↓zB_lIl, ↓zB_wIl, zB_pI, zB_pZ, zB_lI, zB_lZ, zB_wI, zB_wZ, z_addl, z_ladd, z_mull, z_lmul, nI_add, z_subl, Nat.not_lt_zero, z_10, z_01, z_bitc, z_b0, z_b1, ↓zB_Gb, ↓zB_G0, ↓zB_G1, z_eql, z_leq, z_ltl, z_llt, z_eq, z_lt, z_m1lt, hX.k0, hX.k8, hX.k9, hX.l9, ↓hX.g0_0, ↓hX.g0_1, ↓hX.g0_2, ↓hX.g0_3, ↓hX.g0_4, ↓hX.g0_5, ↓hX.g0_6, ↓hX.g0_7, ↓hX.g0_8, ↓hX.g0_9, ↓hX.g8_0, ↓zT_r e1, zT_r e1]
  rw [if_neg g1]
  have g1' := z_not_false g1
  have e1 := f165_y hX hp hcp hwf g1'
  obtain ⟨k', hk', hl, rfl⟩ := (z_hm_iff hwf).mp g1'
  rw [nI_clamp (show k' < 2 ^ 31 by omega)]
  have e78 := f78_sp hp hcp c
  by_cases g2 : z_in c (z_nc P) = false
  · rw [if_pos g2]
    refine refx 2 ?_
    rw [g2] at e78
    unfold f154_39
    simp (disch := ((try simp only [true_or, or_true, hX.k0, hX.k8, hX.k9, hX.l9, hpk]) <;> (try omega))) only [↓reduceIte, ↓z_ite, ↓zR, ↓zB_R, ↓zB_B, ↓zB_ite, ↓zB_gI, ↓zB_pI, ↓zB_pZ, ↓zB_aK, ↓zB_G, ↓zB_lI, ↓zB_lZ, ↓zB_wI, ↓zB_wZ, ↓zB_lIl, ↓zB_wIl, zB_pI, zB_pZ, zB_lI, zB_lZ, zB_wI, zB_wZ, z_addl, z_ladd, z_mull, z_lmul, nI_add, z_subl, Nat.not_lt_zero, z_10, z_01, z_bitc, z_b0, z_b1, ↓zB_Gb, ↓zB_G0, ↓zB_G1, z_eql, z_leq, z_ltl, z_llt, z_eq, z_lt, z_m1lt, hX.k0, hX.k8, hX.k9, hX.l9, hpk, ↓hX.g0_0, ↓hX.g0_1, ↓hX.g0_2, ↓hX.g0_3, ↓hX.g0_4, ↓hX.g0_5, ↓hX.g0_6, ↓hX.g0_7, ↓hX.g0_8, ↓hX.g0_9, ↓hX.g8_0, ↓zT_l e1, zT_l e1, ↓zB_c e78, zB_c e78, z_thw]
  rw [if_neg g2]
  rw [z_not_false g2] at e78
  obtain ⟨c', hc', rfl⟩ := (z_in_iff (by omega)).mp (z_not_false g2)
  rw [nI_clamp (show c' < 2 ^ 31 by omega)]
  have how := z_own_e hwf hk'
  have e82 := f82_sp hp hcp hwf hc' (d := z_own P k') (by omega)
  have eo : m (p + 4) k' = nI (z_own P k') := by rw [(hcp.2.1.2.2 k' hk' hl).1]; exact how.2
  have hk24 : k' < 24 := by omega
  by_cases g3 : z_blw P c' (z_own P k') = false
  · rw [if_pos g3]
    refine refx 1 ?_
    rw [g3] at e82
    unfold f154_39
    simp (disch := ((try simp only [true_or, or_true, hX.k0, hX.k8, hX.k9, hX.l9, hp.k, hp.k1, hp.k2, hp.k3, hp.k4, hp.k5, hp.k6, hp.k7, hp.k8, hp.k9, hp.k10, hp.l1, hp.l2, hp.l3, hp.l4, hp.l5, hp.l6, hp.l7, hp.l8, hp.l9, hp.l10, hpk]) <;> (try omega))) only [↓reduceIte, ↓z_ite, ↓zR, ↓zB_R, ↓zB_B, ↓zB_ite, ↓zB_gI, ↓zB_pI, ↓zB_pZ, ↓zB_aK, ↓zB_G, ↓zB_lI, ↓zB_lZ, ↓zB_wI, ↓zB_wZ, ↓zB_lIl, ↓zB_wIl, zB_pI, zB_pZ, zB_lI, zB_lZ, zB_wI, zB_wZ, z_addl, z_ladd, z_mull, z_lmul, nI_add, z_subl, Nat.not_lt_zero, z_10, z_01, z_bitc, z_b0, z_b1, ↓zB_Gb, ↓zB_G0, ↓zB_G1, z_eql, z_leq, z_ltl, z_llt, z_eq, z_lt, z_m1lt, hX.k0, hX.k8, hX.k9, hX.l9, hp.k, hp.k1, hp.k2, hp.k3, hp.k4, hp.k5, hp.k6, hp.k7, hp.k8, hp.k9, hp.k10, hp.l1, hp.l2, hp.l3, hp.l4, hp.l5, hp.l6, hp.l7, hp.l8, hp.l9, hp.l10, hpk, ↓hX.g0_0, ↓hX.g0_1, ↓hX.g0_2, ↓hX.g0_3, ↓hX.g0_4, ↓hX.g0_5, ↓hX.g0_6, ↓hX.g0_7, ↓hX.g0_8, ↓hX.g0_9, ↓hX.g8_0, ↓hp.g0, ↓hp.g1, ↓hp.g2, ↓hp.g3, ↓hp.g4, ↓hp.g5, ↓hp.g6, ↓hp.g7, ↓hp.g8, ↓hp.g9, ↓hp.gb, hp.gb, ↓zT_l e1, zT_l e1, ↓zB_c e78, zB_c e78, Bool.true_eq_false, hk24, eo, ↓zB_c e82, zB_c e82, z_thw]
  rw [if_neg g3]
  rw [z_not_false g3] at e82
  have st : ∀ x, f154_98 0 (nI k') (nI c') f s p 0 (z_hp S m) = x → f154_39 0 (nI k') (nI c') f s p (z_hp S m) = x := fun x hx => by
    rw [← hx]
    unfold f154_39
    simp (disch := ((try simp only [true_or, or_true, hX.k0, hX.k8, hX.k9, hX.l9, hp.k, hp.k1, hp.k2, hp.k3, hp.k4, hp.k5, hp.k6, hp.k7, hp.k8, hp.k9, hp.k10, hp.l1, hp.l2, hp.l3, hp.l4, hp.l5, hp.l6, hp.l7, hp.l8, hp.l9, hp.l10, hpk]) <;> (try omega))) only [↓reduceIte, ↓z_ite, ↓zR, ↓zB_R, ↓zB_B, ↓zB_ite, ↓zB_gI, ↓zB_pI, ↓zB_pZ, ↓zB_aK, ↓zB_G, ↓zB_lI, ↓zB_lZ, ↓zB_wI, ↓zB_wZ, ↓zB_lIl, ↓zB_wIl, zB_pI, zB_pZ, zB_lI, zB_lZ, zB_wI, zB_wZ, z_addl, z_ladd, z_mull, z_lmul, nI_add, z_subl, Nat.not_lt_zero, z_10, z_01, z_bitc, z_b0, z_b1, ↓zB_Gb, ↓zB_G0, ↓zB_G1, z_eql, z_leq, z_ltl, z_llt, z_eq, z_lt, z_m1lt, hX.k0, hX.k8, hX.k9, hX.l9, hp.k, hp.k1, hp.k2, hp.k3, hp.k4, hp.k5, hp.k6, hp.k7, hp.k8, hp.k9, hp.k10, hp.l1, hp.l2, hp.l3, hp.l4, hp.l5, hp.l6, hp.l7, hp.l8, hp.l9, hp.l10, hpk, ↓hX.g0_0, ↓hX.g0_1, ↓hX.g0_2, ↓hX.g0_3, ↓hX.g0_4, ↓hX.g0_5, ↓hX.g0_6, ↓hX.g0_7, ↓hX.g0_8, ↓hX.g0_9, ↓hX.g8_0, ↓hp.g0, ↓hp.g1, ↓hp.g2, ↓hp.g3, ↓hp.g4, ↓hp.g5, ↓hp.g6, ↓hp.g7, ↓hp.g8, ↓hp.g9, ↓hp.gb, hp.gb, ↓zT_l e1, zT_l e1, ↓zB_c e78, zB_c e78, Bool.true_eq_false, hk24, eo, ↓zB_c e82, zB_c e82]
  have hct2 : z_cnt P k' ≤ 2 := (hwf.2.2.2.1 k' hk').2.2.2.1.1
  have e3 : m (p + 6) k' = nI (z_cnt P k') := by rw [(hcp.2.1.2.2 k' hk' hl).2.2.1]; exact z_c3 hwf hk'
  have ety : ∀ j, j < z_cnt P k' → m (p + 8) (k' * 2 + j) = z_hd P k' (6 + j) := (hcp.2.1.2.2 k' hk' hl).2.2.2.2.2
  -- parameters, one by one
  have loop : ∀ (r : Int32 ⊕ Nat) (S1 : z_S) (m1 : z_m), (y_pars P k' = true → f154_143 0 (nI k') (nI c') f s p (z_hp S m) = some (r, z_hp S1 m1)) → (y_pars P k' = false → r = .inr 1 ∧ S1 = z_Sx S ∧ m1 = m) → f154_98 0 (nI k') (nI c') f s p 0 (z_hp S m) = some (r, z_hp S1 m1) := fun r S1 m1 ht hf => by
    unfold f154_98
    have key := z_search2 (f := fun s => f154_98b (s.1) (s.2.1) (s.2.2.1) (s.2.2.2.1) (s.2.2.2.2.1) (s.2.2.2.2.2.1) (s.2.2.2.2.2.2)) (S := S) (m := m) (fun j => (0, nI k', nI c', f, s, p, nI j)) (fun j => z_hd P k' (6 + j) != -1) (r, z_hp S1 m1) (z_cnt P k') 0 1000000 (by omega) ?_ ?_
    · exact key
    · intro j _ hj
      have hj : j < z_cnt P k' := by omega
      have ej := ety j hj
      have hix : k' * 2 + j < 48 := by omega
      dsimp only
      by_cases gt : z_hd P k' (6 + j) = -1
      · rw [show (z_hd P k' (6 + j) != -1) = false by simpa using gt, if_neg Bool.false_ne_true]
        rw [gt] at ej
        unfold f154_98b
        simp (disch := ((try simp only [true_or, or_true, hp.k, hp.k1, hp.k2, hp.k3, hp.k4, hp.k5, hp.k6, hp.k7, hp.k8, hp.k9, hp.k10, hp.l1, hp.l2, hp.l3, hp.l4, hp.l5, hp.l6, hp.l7, hp.l8, hp.l9, hp.l10, hpk]) <;> (try omega))) only [↓reduceIte, ↓z_ite, ↓zR, ↓zB_R, ↓zB_B, ↓zB_ite, ↓zB_gI, ↓zB_pI, ↓zB_pZ, ↓zB_aK, ↓zB_G, ↓zB_lI, ↓zB_lZ, ↓zB_wI, ↓zB_wZ, ↓zB_lIl, ↓zB_wIl, zB_pI, zB_pZ, zB_lI, zB_lZ, zB_wI, zB_wZ, z_addl, z_ladd, z_mull, z_lmul, nI_add, z_subl, Nat.not_lt_zero, z_10, z_01, z_bitc, z_b0, z_b1, ↓zB_Gb, ↓zB_G0, ↓zB_G1, z_eql, z_leq, z_ltl, z_llt, z_eq, z_lt, z_m1lt, hp.k, hp.k1, hp.k2, hp.k3, hp.k4, hp.k5, hp.k6, hp.k7, hp.k8, hp.k9, hp.k10, hp.l1, hp.l2, hp.l3, hp.l4, hp.l5, hp.l6, hp.l7, hp.l8, hp.l9, hp.l10, hpk, ↓hp.g0, ↓hp.g1, ↓hp.g2, ↓hp.g3, ↓hp.g4, ↓hp.g5, ↓hp.g6, ↓hp.g7, ↓hp.g8, ↓hp.g9, ↓hp.gb, hp.gb, hk24, e3, hj, nI_add, hix, ej]
      · rw [show (z_hd P k' (6 + j) != -1) = true by simpa using gt, if_pos rfl]
        have hfa : y_pars P k' = false := by
          unfold y_pars
          rw [z_any_iff.mpr ⟨j, hj, by simpa using gt⟩]; rfl
        obtain ⟨h1, h2, h3⟩ := hf hfa
        subst h1 h2 h3
        have eth : (m_thr 1 : m_M (Int32 ⊕ Nat)) (z_hp S m1) = some (.inr 1, z_hp (z_Sx S) m1) := z_thw
        unfold f154_98b f154_126
        simp (disch := ((try simp only [true_or, or_true, hp.k, hp.k1, hp.k2, hp.k3, hp.k4, hp.k5, hp.k6, hp.k7, hp.k8, hp.k9, hp.k10, hp.l1, hp.l2, hp.l3, hp.l4, hp.l5, hp.l6, hp.l7, hp.l8, hp.l9, hp.l10, hpk]) <;> (try omega))) only [↓reduceIte, ↓z_ite, ↓zR, ↓zB_R, ↓zB_B, ↓zB_ite, ↓zB_gI, ↓zB_pI, ↓zB_pZ, ↓zB_aK, ↓zB_G, ↓zB_lI, ↓zB_lZ, ↓zB_wI, ↓zB_wZ, ↓zB_lIl, ↓zB_wIl, zB_pI, zB_pZ, zB_lI, zB_lZ, zB_wI, zB_wZ, z_addl, z_ladd, z_mull, z_lmul, nI_add, z_subl, Nat.not_lt_zero, z_10, z_01, z_bitc, z_b0, z_b1, ↓zB_Gb, ↓zB_G0, ↓zB_G1, z_eql, z_leq, z_ltl, z_llt, z_eq, z_lt, z_m1lt, hp.k, hp.k1, hp.k2, hp.k3, hp.k4, hp.k5, hp.k6, hp.k7, hp.k8, hp.k9, hp.k10, hp.l1, hp.l2, hp.l3, hp.l4, hp.l5, hp.l6, hp.l7, hp.l8, hp.l9, hp.l10, hpk, ↓hp.g0, ↓hp.g1, ↓hp.g2, ↓hp.g3, ↓hp.g4, ↓hp.g5, ↓hp.g6, ↓hp.g7, ↓hp.g8, ↓hp.g9, ↓hp.gb, hp.gb, hk24, e3, hj, nI_add, hix, ej, gt, ↓zB_C eth, zB_C eth]
    · intro hall
      have hta : y_pars P k' = true := by
        unfold y_pars
        rw [z_any_f.mpr (fun j hj => hall j (Nat.zero_le _) (by omega))]; rfl
      have e143 := ht hta
      dsimp only
      unfold f154_98b
      rw [Nat.zero_add]
      simp (disch := ((try simp only [true_or, or_true, hp.k, hp.k1, hp.k2, hp.k3, hp.k4, hp.k5, hp.k6, hp.k7, hp.k8, hp.k9, hp.k10, hp.l1, hp.l2, hp.l3, hp.l4, hp.l5, hp.l6, hp.l7, hp.l8, hp.l9, hp.l10, hpk]) <;> (try omega))) only [↓reduceIte, ↓z_ite, ↓zR, ↓zB_R, ↓zB_B, ↓zB_ite, ↓zB_gI, ↓zB_pI, ↓zB_pZ, ↓zB_aK, ↓zB_G, ↓zB_lI, ↓zB_lZ, ↓zB_wI, ↓zB_wZ, ↓zB_lIl, ↓zB_wIl, zB_pI, zB_pZ, zB_lI, zB_lZ, zB_wI, zB_wZ, z_addl, z_ladd, z_mull, z_lmul, nI_add, z_subl, Nat.not_lt_zero, z_10, z_01, z_bitc, z_b0, z_b1, ↓zB_Gb, ↓zB_G0, ↓zB_G1, z_eql, z_leq, z_ltl, z_llt, z_eq, z_lt, z_m1lt, hp.k, hp.k1, hp.k2, hp.k3, hp.k4, hp.k5, hp.k6, hp.k7, hp.k8, hp.k9, hp.k10, hp.l1, hp.l2, hp.l3, hp.l4, hp.l5, hp.l6, hp.l7, hp.l8, hp.l9, hp.l10, hpk, ↓hp.g0, ↓hp.g1, ↓hp.g2, ↓hp.g3, ↓hp.g4, ↓hp.g5, ↓hp.g6, ↓hp.g7, ↓hp.g8, ↓hp.g9, ↓hp.gb, hp.gb, hk24, e3, Nat.lt_irrefl]
      unfold m_B
      rw [e143]; rfl
  by_cases g4 : y_pars P k' = false
  · rw [if_pos g4]
    exact refx 1 (st _ (loop (.inr 1) (z_Sx S) m (fun q => by rw [g4] at q; cases q) (fun _ => ⟨rfl, rfl, rfl⟩)))
  rw [if_neg g4]
  have g4' := z_not_false g4
  by_cases g5 : z_wr P = -1
  · rw [if_pos g5]
    obtain ⟨m1, e169, c1, r1, hcp1, hT1⟩ := hy g5
    have hPG : y_PG P := ⟨⟨hwf, h60⟩, g5, hfu⟩
    have hmay : y_may P k' c' := ⟨hk', hl, hc', z_not_false g3, fun j hj => by
      have := g4'
      unfold y_pars at this
      rw [Bool.not_eq_true'] at this
      have := z_any_f.mp this j hj
      simpa using this⟩
    obtain ⟨m2, e44, q17, q15, R⟩ := f44_c (m := m1) hPG hX hp lo hcp1 hT1 hmay f s
    refine ⟨z_Sr S 10 10 (some p), m2, st _ (loop _ _ _ (fun _ => ?_) (fun q => absurd q g4)), ⟨sn, sx, sp, z_ID_r hI _, z_CM_lr hw c1 R q17 q15⟩, z_SS_r S _, fun a ha => by rw [R a (by omega)]; exact r1 a ha⟩
    unfold f154_143
    simp (disch := ((try simp only [true_or, or_true, hX.k0, hX.k8, hX.k9, hX.l9, h0k, h10k]) <;> (try omega))) only [↓reduceIte, ↓z_ite, ↓zR, ↓zB_R, ↓zB_B, ↓zB_ite, ↓zB_gI, ↓zB_pI, ↓zB_pZ, ↓zB_aK, ↓zB_G, ↓zB_lI, ↓zB_lZ, ↓zB_wI, ↓zB_wZ, ↓zB_lIl, ↓zB_wIl, zB_pI, zB_pZ, zB_lI, zB_lZ, zB_wI, zB_wZ, z_addl, z_ladd, z_mull, z_lmul, nI_add, z_subl, Nat.not_lt_zero, z_10, z_01, z_bitc, z_b0, z_b1, ↓zB_Gb, ↓zB_G0, ↓zB_G1, z_eql, z_leq, z_ltl, z_llt, z_eq, z_lt, z_m1lt, hX.k0, hX.k8, hX.k9, hX.l9, h0k, h10k, ↓hX.g0_0, ↓hX.g0_1, ↓hX.g0_2, ↓hX.g0_3, ↓hX.g0_4, ↓hX.g0_5, ↓hX.g0_6, ↓hX.g0_7, ↓hX.g0_8, ↓hX.g0_9, ↓hX.g8_0, ↓zT_l e169, zT_l e169, ↓zB_C e44, zB_C e44]
  · rw [if_neg g5]
    obtain ⟨m1, e169, c1, r1⟩ := hn g5
    refine ⟨z_Sx S, m1, st _ (loop _ _ _ (fun _ => ?_) (fun q => absurd q g4)), ⟨sn, sx, sp, hI, c1⟩, z_SS.x S, r1⟩
    unfold f154_143
    simp (disch := ((try simp only [true_or, or_true, hX.k0, hX.k8, hX.k9, hX.l9]) <;> (try omega))) only [↓reduceIte, ↓z_ite, ↓zR, ↓zB_R, ↓zB_B, ↓zB_ite, ↓zB_gI, ↓zB_pI, ↓zB_pZ, ↓zB_aK, ↓zB_G, ↓zB_lI, ↓zB_lZ, ↓zB_wI, ↓zB_wZ, ↓zB_lIl, ↓zB_wIl, zB_pI, zB_pZ, zB_lI, zB_lZ, zB_wI, zB_wZ, z_addl, z_ladd, z_mull, z_lmul, nI_add, z_subl, Nat.not_lt_zero, z_10, z_01, z_bitc, z_b0, z_b1, ↓zB_Gb, ↓zB_G0, ↓zB_G1, z_eql, z_leq, z_ltl, z_llt, z_eq, z_lt, z_m1lt, hX.k0, hX.k8, hX.k9, hX.l9, ↓hX.g0_0, ↓hX.g0_1, ↓hX.g0_2, ↓hX.g0_3, ↓hX.g0_4, ↓hX.g0_5, ↓hX.g0_6, ↓hX.g0_7, ↓hX.g0_8, ↓hX.g0_9, ↓hX.g8_0, ↓zT_r e169, zT_r e169]
theorem c_rightB (hw : z_WA A) {sn sx : Nat} {sp : Nat → Nat} (hI : z_ID S sn sx sp) (h : z_CM m sn sp A) {Bg : z_Pg} (hB : A.2.2.1 = some Bg) : ∃ m1, f21 8 62 (z_hp S m) = some (z_b (z_wr Bg == -1), z_hp S m1) ∧ z_CM m1 sn sp A ∧ (∀ a, 2390 ≤ a → m1 a = m a) ∧ m1 62 14 = 1 ∧ z_PK m1 62 Bg := by
  obtain ⟨hR, hT, ⟨h1, h2, h3, h4⟩, h5, h6⟩ := h
  have h2' := h2
  rw [hB] at h2'
  obtain ⟨m1, e, g1, g2, g3, g4⟩ := f21_sp hI.1 hI.2.1 (by decide) h2'.2.1 (hw.2.2.1 Bg hB).1 h2'.2.2
  have r0 : ∀ a, a < 62 → a ≠ 9 → m1 a = m a := fun a ha h9 => g4 a h9 (by omega)
  have r1 : ∀ a, 241 ≤ a → m1 a = m a := fun a ha => g4 a (by omega) (by omega)
  refine ⟨m1, e, ⟨?_, ?_, ⟨?_, ?_, ?_, fun i hi => ?_⟩, ?_, ?_⟩, fun a ha => r1 a (by omega), g2, ⟨g1, g3⟩⟩
  · obtain ⟨a1, a2, a3, a4, a5, a6⟩ := hR
    refine ⟨fun s hs k hk => by rw [r1 _ (by have := z_pid_lo s; unfold z_bi; omega)]; exact a1 s hs k hk, fun k hk => g1.2.2.1 k hk, by rw [r0 _ (by decide) (by decide)]; exact a3, by rw [r0 _ (by decide) (by decide)]; exact a4, by rw [r0 _ (by decide) (by decide)]; exact a5, by rw [r0 _ (by decide) (by decide)]; exact a6⟩
  · unfold z_cT at *
    rw [r0 1 (by decide) (by decide), r0 2 (by decide) (by decide), r0 3 (by decide) (by decide), r0 4 (by decide) (by decide), r0 5 (by decide) (by decide), r0 6 (by decide) (by decide)]
    exact hT
  · exact z_PK_fr (z_wf_nm hw.2.1.1) (fun a x1 x2 => r1 a (by have := z_pid_lo sn; omega)) h1
  · rw [hB]
    refine ⟨by rw [r0 0 (by decide) (by decide)]; exact h2'.1, g1, g3⟩
  · rw [r0 0 (by decide) (by decide)]; exact h3
  · exact z_PK_fr (z_wf_nm (hw.2.2.2.2 i hi).1) (fun a x1 x2 => r1 a (by have := z_pid_lo (sp i); omega)) (h4 i hi)
  · rw [r0 10 (by decide) (by decide)]; exact h5
  · rw [r0 10 (by decide) (by decide)]; exact h6
/-- fields unique, in all that may be run -/
def z_FU (A : z_A) : Prop := z_fu A.2.1 ∧ (∀ Bg, A.2.2.1 = some Bg → z_fu Bg) ∧ ∀ i, i < A.2.2.2.1.length → z_fu (z_pat A.2.2.2.1 i)
theorem c_run (hw : z_WA A) (hf : z_FU A) (h : z_CR S m A) (k c f s b : Int32) : ∃ S1 m1, f154 0 k c f s b (z_hp S m) = some ((z_orun A k c f s b).1, z_hp S1 m1) ∧ z_CR S1 m1 (z_orun A k c f s b).2 ∧ z_SS S S1 ∧ ∀ a, 2390 ≤ a → m1 a = m a := by
  obtain ⟨sn, sx, sp, hI, hCM⟩ := h
  have hX := hI.1
  have hn := hI.2.2.2.2.2.1
  have h0k : z_kd S 0 = 11 := hX.k0
  unfold z_orun
  by_cases hb : b = 0
  · rw [if_pos hb]
    have hp := hI.2.2.1 sn hI.2.2.2.1.1
    have lo := z_pid_lo sn
    obtain ⟨S1, m1, e, r⟩ := c_run_p (p := z_pid sn) hw hI hCM hw.2.1 hf.1 hp (by omega) hCM.2.2.1.1.1 (fun g => by
      obtain ⟨m1, e1, c1, r1, f14⟩ := c_rr_y hw hI hCM g
      exact ⟨m1, e1, c1, r1, c1.2.2.1.1.1, (c1.2.2.1.1.2.2 f14).2 g⟩) (fun g => c_rr_n hw hI hCM g) k c f s
    refine ⟨S1, m1, ?_, r⟩
    unfold f154 f154_23
    rw [if_pos hb, if_pos hb, z_gnow hX hn]
    exact e
  · rw [if_neg hb]
    cases hB : A.2.2.1 with
    | none =>
      have h2 := hCM.2.2.1.2.1
      rw [hB] at h2
      refine ⟨z_Sx S, m, ?_, z_CR_x ⟨sn, sx, sp, hI, hCM⟩, z_SS.x S, fun _ _ => rfl⟩
      unfold f154
      rw [if_neg hb]
      have h2 : m 0 12 = 0 := h2
      simp (disch := ((try simp only [true_or, or_true, hX.k0, hX.k8, hX.k9, hX.l9, h0k]) <;> (try omega))) only [↓reduceIte, ↓z_ite, ↓zR, ↓zB_R, ↓zB_B, ↓zB_ite, ↓zB_gI, ↓zB_pI, ↓zB_pZ, ↓zB_aK, ↓zB_G, ↓zB_lI, ↓zB_lZ, ↓zB_wI, ↓zB_wZ, ↓zB_lIl, ↓zB_wIl, zB_pI, zB_pZ, zB_lI, zB_lZ, zB_wI, zB_wZ, z_addl, z_ladd, z_mull, z_lmul, nI_add, z_subl, Nat.not_lt_zero, z_10, z_01, z_bitc, z_b0, z_b1, ↓zB_Gb, ↓zB_G0, ↓zB_G1, z_eql, z_leq, z_ltl, z_llt, z_eq, z_lt, z_m1lt, hX.k0, hX.k8, hX.k9, hX.l9, h0k, ↓hX.g0_0, ↓hX.g0_1, ↓hX.g0_2, ↓hX.g0_3, ↓hX.g0_4, ↓hX.g0_5, ↓hX.g0_6, ↓hX.g0_7, ↓hX.g0_8, ↓hX.g0_9, ↓hX.g8_0, h2, z_thw]
    | some Bg =>
      have h2 := hCM.2.2.1.2.1
      rw [hB] at h2
      have h2 : m 0 12 = 1 ∧ z_PK m 62 Bg := h2
      obtain ⟨m1, e21, c1, r1, f14, pk⟩ := c_rightB hw hI hCM hB
      obtain ⟨S1, m2, e, r⟩ := c_run_p (p := 62) hw hI hCM (hw.2.2.1 Bg hB) (hf.2.1 Bg hB) hI.2.1 (by decide) h2.2.1 (fun g => by
        refine ⟨m1, ?_, c1, r1, pk.1, (pk.2.2 f14).2 g⟩
        rw [g] at e21
        unfold f169
        simp (disch := ((try simp only [true_or, or_true, hX.k0, hX.k8, hX.k9, hX.l9]) <;> (try omega))) only [↓reduceIte, ↓z_ite, ↓zR, ↓zB_R, ↓zB_B, ↓zB_ite, ↓zB_gI, ↓zB_pI, ↓zB_pZ, ↓zB_aK, ↓zB_G, ↓zB_lI, ↓zB_lZ, ↓zB_wI, ↓zB_wZ, ↓zB_lIl, ↓zB_wIl, zB_pI, zB_pZ, zB_lI, zB_lZ, zB_wI, zB_wZ, z_addl, z_ladd, z_mull, z_lmul, nI_add, z_subl, Nat.not_lt_zero, z_10, z_01, z_bitc, z_b0, z_b1, ↓zB_Gb, ↓zB_G0, ↓zB_G1, z_eql, z_leq, z_ltl, z_llt, z_eq, z_lt, z_m1lt, hX.k0, hX.k8, hX.k9, hX.l9, ↓hX.g0_0, ↓hX.g0_1, ↓hX.g0_2, ↓hX.g0_3, ↓hX.g0_4, ↓hX.g0_5, ↓hX.g0_6, ↓hX.g0_7, ↓hX.g0_8, ↓hX.g0_9, ↓hX.g8_0, ↓zB_c e21, zB_c e21, show ((-1 : Int32) == -1) = true from rfl, Bool.true_eq_false]) (fun g => by
        refine ⟨m1, ?_, c1, r1⟩
        rw [show (z_wr Bg == -1) = false by simpa using g] at e21
        unfold f169
        simp (disch := ((try simp only [true_or, or_true, hX.k0, hX.k8, hX.k9, hX.l9]) <;> (try omega))) only [↓reduceIte, ↓z_ite, ↓zR, ↓zB_R, ↓zB_B, ↓zB_ite, ↓zB_gI, ↓zB_pI, ↓zB_pZ, ↓zB_aK, ↓zB_G, ↓zB_lI, ↓zB_lZ, ↓zB_wI, ↓zB_wZ, ↓zB_lIl, ↓zB_wIl, zB_pI, zB_pZ, zB_lI, zB_lZ, zB_wI, zB_wZ, z_addl, z_ladd, z_mull, z_lmul, nI_add, z_subl, Nat.not_lt_zero, z_10, z_01, z_bitc, z_b0, z_b1, ↓zB_Gb, ↓zB_G0, ↓zB_G1, z_eql, z_leq, z_ltl, z_llt, z_eq, z_lt, z_m1lt, hX.k0, hX.k8, hX.k9, hX.l9, ↓hX.g0_0, ↓hX.g0_1, ↓hX.g0_2, ↓hX.g0_3, ↓hX.g0_4, ↓hX.g0_5, ↓hX.g0_6, ↓hX.g0_7, ↓hX.g0_8, ↓hX.g0_9, ↓hX.g8_0, ↓zB_c e21, zB_c e21, z_thw]) k c f s
      refine ⟨S1, m2, ?_, r⟩
      unfold f154 f154_23
      rw [if_neg hb]
      have h1 := h2.1
      have g62 : ∀ {β : Type} {f : Nat → m_M β} {m0 : z_m}, m_B (m_gR 11 0 8) f (z_hp S m0) = f 62 (z_hp S m0) := fun {β f m0} => by rw [zB_gR hX.k0, hX.2.1 (0, 8, 62) (by decide)]; rfl
      simp (disch := ((try simp only [true_or, or_true, hX.k0, hX.k8, hX.k9, hX.l9, h0k]) <;> (try omega))) only [↓reduceIte, ↓z_ite, ↓zR, ↓zB_R, ↓zB_B, ↓zB_ite, ↓zB_gI, ↓zB_pI, ↓zB_pZ, ↓zB_aK, ↓zB_G, ↓zB_lI, ↓zB_lZ, ↓zB_wI, ↓zB_wZ, ↓zB_lIl, ↓zB_wIl, zB_pI, zB_pZ, zB_lI, zB_lZ, zB_wI, zB_wZ, z_addl, z_ladd, z_mull, z_lmul, nI_add, z_subl, Nat.not_lt_zero, z_10, z_01, z_bitc, z_b0, z_b1, ↓zB_Gb, ↓zB_G0, ↓zB_G1, z_eql, z_leq, z_ltl, z_llt, z_eq, z_lt, z_m1lt, hX.k0, hX.k8, hX.k9, hX.l9, h0k, ↓hX.g0_0, ↓hX.g0_1, ↓hX.g0_2, ↓hX.g0_3, ↓hX.g0_4, ↓hX.g0_5, ↓hX.g0_6, ↓hX.g0_7, ↓hX.g0_8, ↓hX.g0_9, ↓hX.g8_0, h1, hb, ↓g62]
      exact e
end
