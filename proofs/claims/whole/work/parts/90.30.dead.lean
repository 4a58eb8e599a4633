-- deps: 90.29.pull
/-! what nothing reaches -/
noncomputable def z_kpt (P : z_Pg) (k j : Nat) : Bool := z_rch P k j || j == k
noncomputable def z_rdG (P : z_Pg) (k j : Nat) : Nat → Int32 := if z_kpt P k j = true then z_hd P j else z_hset (z_hd P j) 0 0
noncomputable def z_rdQ (P : z_Pg) (k : Nat) : z_Pg := z_mix P (z_rdG P k) (z_bd P) (z_nm P)
noncomputable def z_rdC (P : z_Pg) (k n : Nat) : Nat := z_ct (fun j => z_liv P j && !z_kpt P k j) n
section
variable {S : z_S} {m : z_m} {p q : Nat} {P : z_Pg} {A : z_A}
theorem z_mix_wf2 {G : Nat → Nat → Int32} {D : Nat → List z_N} (hw : z_wf P) (hG : ∀ k, k < z_nm P → z_liv P k = true → z_wHf P (G k)) (hD : ∀ k, k < z_nm P → z_liv P k = true → z_wB (z_nc P) (D k)) (hu : ∀ j k, j < z_nm P → k < z_nm P → z_liv P j = true → z_liv P k = true → G j 0 = 1 → G k 0 = 1 → G j 2 = G k 2 → G j 3 = G k 3 → (G j 1).toNatClampNeg = (G k 1).toNatClampNeg → j = k) : z_wf (z_mix P G D (z_nm P)) := by
  refine ⟨hw.1, hw.2.1, hw.2.2.1, fun k hk => ?_, fun k hk => ?_, fun j k hj hk lj lk e2 e3 eo => ?_⟩
  · have hk : k < z_nm P := hk
    cases hl : z_liv P k with
    | true =>
      have e : ∀ w, z_hd (z_mix P G D (z_nm P)) k w = G k w := fun w => by rw [z_mix_hd, if_pos ⟨hk, hl⟩]
      have := hG k hk hl
      unfold z_wH z_own z_cnt
      simp only [e]
      exact this
    | false =>
      have e : ∀ w, z_hd (z_mix P G D (z_nm P)) k w = z_hd P k w := fun w => by rw [z_mix_hd, if_neg (fun q => by rw [hl] at q; cases q.2)]
      have := hw.2.2.2.1 k hk
      unfold z_wH z_own z_cnt at *
      simp only [e]
      exact this
  · have hk : k < z_nm P := hk
    rw [z_mix_bd]
    split
    · rename_i g; exact hD k hk g.2
    · exact hw.2.2.2.2.1 k hk
  · have hj : j < z_nm P := hj
    have hk : k < z_nm P := hk
    have lv : ∀ i, i < z_nm P → z_liv (z_mix P G D (z_nm P)) i = true → z_liv P i = true ∧ G i 0 = 1 := by
      intro i hi h
      unfold z_liv at h
      rw [z_mix_hd] at h
      by_cases g : i < z_nm P ∧ z_liv P i = true
      · rw [if_pos g] at h; exact ⟨g.2, by simpa using h⟩
      · rw [if_neg g] at h
        exact absurd ⟨hi, h⟩ g
    obtain ⟨lj1, lj2⟩ := lv j hj lj
    obtain ⟨lk1, lk2⟩ := lv k hk lk
    unfold z_own at eo
    rw [z_mix_hd, z_mix_hd, if_pos ⟨hj, lj1⟩, if_pos ⟨hk, lk1⟩] at e2 e3 eo
    exact hu j k hj hk lj1 lk1 lj2 lk2 e2 e3 eo
theorem z_rdQ_ok (hw : z_wf P) (h60 : z_b60 P) (k : Nat) : z_wf (z_rdQ P k) ∧ z_b60 (z_rdQ P k) := by
  have e : ∀ j w, w ≠ 0 → z_rdG P k j w = z_hd P j w := fun j w hw0 => by
    unfold z_rdG
    split
    · rfl
    · exact z_hset_o hw0
  refine ⟨z_mix_wf2 hw (fun j hj hl => ?_) (fun j hj _ => hw.2.2.2.2.1 j hj) (fun i j hi hj li lj _ _ e2 e3 eo => ?_), z_mix_b60 h60 (fun j hj _ => h60 j hj)⟩
  · obtain ⟨a, b, c, d, f, g⟩ := z_wHf_of (hw.2.2.2.1 j hj)
    unfold z_wHf
    rw [e j 1 (by decide), e j 2 (by decide), e j 3 (by decide), e j 8 (by decide)]
    refine ⟨?_, b, c, d, fun i hi => ?_, g⟩
    · unfold z_rdG
      split
      · exact a
      · exact Or.inl z_hset_s
    · rw [e j (4 + i) (by omega), e j (6 + i) (by omega)]; exact f i hi
  · rw [e i 1 (by decide), e j 1 (by decide)] at eo
    rw [e i 2 (by decide), e j 2 (by decide)] at e2
    rw [e i 3 (by decide), e j 3 (by decide)] at e3
    exact hw.2.2.2.2.2 i j hi hj li lj e2 e3 eo
theorem z_rdQ_liv {k j : Nat} (hj : j < z_nm P) : z_liv (z_rdQ P k) j = (z_liv P j && z_kpt P k j) := by
  unfold z_rdQ z_liv
  rw [z_mix_hd]
  cases hl : z_liv P j with
  | true =>
    rw [if_pos ⟨hj, rfl⟩]
    unfold z_rdG
    have h1 : (z_hd P j 0 == 1) = true := hl
    cases hk : z_kpt P k j with
    | true => rw [if_pos rfl, h1]; rfl
    | false => rw [if_neg (by decide), z_hset_s, h1]; rfl
  | false =>
    rw [if_neg (fun q => by cases q.2)]
    have h1 : (z_hd P j 0 == 1) = false := hl
    rw [h1]; rfl
/-- only some methods are gone -/
theorem z_cp_kill {m' : z_m} (hw : z_wf P) (h : z_cp m q P) {k : Nat} (h0 : ∀ j, j ≠ 12 → m' q j = m q j) (hfr : ∀ a, a ≠ q → m' a = m a) (hb : ∀ j, j < 32 → z_bit (m' q 12) j = (decide (j < z_nm P) && (z_liv P j && z_kpt P k j))) : z_cp m' q (z_rdQ P k) := by
  have h24 := hw.2.2.1
  obtain ⟨⟨c1, c2⟩, ⟨d1, d2, d3⟩, e1, e2⟩ := h
  have hhd : ∀ j w, w ≠ 0 → z_hd (z_rdQ P k) j w = z_hd P j w := fun j w hw0 => by
    unfold z_rdQ
    rw [z_mix_hd]
    split
    · unfold z_rdG
      split
      · rfl
      · exact z_hset_o hw0
    · rfl
  have hbd : ∀ j, z_bd (z_rdQ P k) j = z_bd P j := fun j => by
    unfold z_rdQ
    rw [z_mix_bd]
    split <;> rfl
  refine ⟨⟨by rw [h0 10 (by decide)]; exact c1, fun c hc => ?_⟩, ⟨by rw [h0 11 (by decide)]; exact d1, fun j hj => ?_, fun j hj hl => ?_⟩, fun j hj => ?_, fun j hj hl => ?_⟩
  · rw [hfr (q + 1) (by omega), hfr (q + 2) (by omega), hfr (q + 3) (by omega)]
    obtain ⟨q1, q2, q3⟩ := c2 c hc
    exact ⟨q1, fun d hd => by rw [z_blw_par (P := P) (P' := z_rdQ P k) rfl]; exact q2 d hd, q3⟩
  · rw [hb j hj]
    show _ = (decide (j < z_nm P) && z_liv (z_rdQ P k) j)
    by_cases g : j < z_nm P
    · rw [z_rdQ_liv g]
    · rw [decide_eq_false g]; rfl
  · have hj : j < z_nm P := hj
    rw [z_rdQ_liv hj] at hl
    obtain ⟨q1, q2, q3, q4, q5, q6⟩ := d3 j hj (Bool.and_eq_true_iff.mp hl).1
    unfold z_ch z_cnt
    rw [hhd j 1 (by decide), hhd j 2 (by decide), hhd j 3 (by decide), hhd j 8 (by decide), hfr (q + 4) (by omega), hfr (q + 5) (by omega), hfr (q + 6) (by omega), hfr (q + 9) (by omega), hfr (q + 7) (by omega), hfr (q + 8) (by omega)]
    exact ⟨q1, q2, q3, q4, fun i hi => by rw [hhd j (4 + i) (by omega)]; exact q5 i hi, fun i hi => by rw [hhd j (6 + i) (by omega)]; exact q6 i hi⟩
  · rw [hfr _ (by unfold z_bi; omega)]; exact e1 j hj
  · have hj : j < z_nm P := hj
    rw [z_rdQ_liv hj] at hl
    rw [hbd]
    exact z_cb_fr (fun a x1 x2 => hfr a (by unfold z_bi at x1; omega)) (e2 j hj (Bool.and_eq_true_iff.mp hl).1)
theorem z_ct_s (s : Nat → Bool) (n : Nat) : z_ct s (n + 1) = z_ct s n + (if s n = true then 1 else 0) := rfl
/-- Mover.sweep -/
theorem f68_sp (hpre : z_Pre S m p q P) (hw : z_wf P) (hR : z_RT P) {k : Nat} (hk : k < z_nm P) (hl : z_liv P k = true) : ∃ m', f68 61 p q (nI k) (z_hp S m) = some (nI (z_rdC P k (z_nm P)), z_hp S m') ∧ z_Post m m' q (nI (z_rdC P k (z_nm P))) (z_rdQ P k) := by
  obtain ⟨⟨hX, hp, hq⟩, ⟨lo, lo2, hpq⟩, ⟨hcp, hT⟩, ⟨hcq, h14⟩, hsh⟩ := hpre
  have h24 := hw.2.2.1
  have hpk := hp.k
  have e103 := f103_sp hp hcp hw hR hT hk hl
  have eset : z_M (z_nm P) (z_rch P k) ||| (1 <<< (nI k &&& 31)) = z_M (z_nm P) (z_kpt P k) := by
    rw [z_M_set (by omega) hk]
    exact z_M_congr (fun j _ => by
      unfold z_kpt
      have : (j == k) = decide (k = j) := by
        by_cases g : j = k
        · subst g; simp
        · rw [decide_eq_false (fun x => g x.symm)]; simpa using g
      rw [this])
  have key := z_loopI (f := fun s => f68_17b (s.1) (s.2.1) (s.2.2.1) (s.2.2.2.1) (s.2.2.2.2)) (S := S) (fun n st m' => ∃ j, n = z_nm P - j ∧ j ≤ z_nm P ∧ st = (p, q, z_M (z_nm P) (z_kpt P k), nI (z_rdC P k j), nI j) ∧ (∀ i, i ≠ 12 → m' q i = m q i) ∧ (∀ a, a ≠ q → m' a = m a) ∧ ∀ i, i < 32 → z_bit (m' q 12) i = (decide (i < z_nm P) && (z_liv P i && (!decide (i < j) || z_kpt P k i)))) (fun r m' => r = nI (z_rdC P k (z_nm P)) ∧ (∀ i, i ≠ 12 → m' q i = m q i) ∧ (∀ a, a ≠ q → m' a = m a) ∧ ∀ i, i < 32 → z_bit (m' q 12) i = (decide (i < z_nm P) && (z_liv P i && z_kpt P k i))) ?_ 1000000 (z_nm P) (p, q, z_M (z_nm P) (z_kpt P k), 0, 0) m ⟨0, rfl, Nat.zero_le _, rfl, fun _ _ => rfl, fun _ _ => rfl, fun i hi => by rw [hcq.2.1.2.1 i hi]; simp⟩ (by omega)
  · obtain ⟨r, m', e, rfl, g1, g2, g3⟩ := key
    have hc := z_cp_kill hw hcq g1 g2 g3
    have fr : ∀ a, (a < q ∨ q + 179 ≤ a) → m' a = m a := fun a ha => g2 a (by omega)
    refine ⟨m', ?_, fun _ => z_PK_0 hc (by rw [g1 14 (by decide)]; exact h14), hc.2.2.1, fun a _ _ x => fr a x, by rw [fr 22 (by omega)], by rw [fr 30 (by omega)], by rw [fr 38 (by omega)], by rw [fr 54 (by omega)]⟩
    unfold f68 f68_17
    rw [zB_aK hpk, zB_c e103, eset]
    exact e
  · rintro n st m1 ⟨j, rfl, hj, rfl, g1, g2, g3⟩
    have hcp1 : z_cp m1 p P := z_cp_fr h24 (fun a x1 x2 => g2 a (by omega)) (fun k hk a x1 x2 => g2 a (by unfold z_bi at *; omega)) hcp
    have h01 := hcp1.2.1.1
    dsimp only
    rcases Nat.eq_or_lt_of_le hj with hj2 | hj2
    · refine Or.inr ⟨_, m1, ?_, rfl, g1, g2, fun i hi => ?_⟩
      · unfold f68_17b f68_73
        rw [hj2]
        simp (disch := ((try simp only [true_or, or_true, hp.k, hp.k1, hp.k2, hp.k3, hp.k4, hp.k5, hp.k6, hp.k7, hp.k8, hp.k9, hp.k10, hp.l1, hp.l2, hp.l3, hp.l4, hp.l5, hp.l6, hp.l7, hp.l8, hp.l9, hp.l10]) <;> (try omega))) only [↓reduceIte, ↓z_ite, ↓zR, ↓zB_R, ↓zB_B, ↓zB_ite, ↓zB_gI, ↓zB_pI, ↓zB_pZ, ↓zB_aK, ↓zB_G, ↓zB_lI, ↓zB_lZ, ↓zB_wI, ↓zB_wZ, ↓zB_lIl, ↓zB_wIl, zB_pI, zB_pZ, zB_lI, zB_lZ, zB_wI, zB_wZ, z_addl, z_ladd, z_mull, z_lmul, nI_add, z_subl, Nat.not_lt_zero, z_10, z_01, z_bitc, z_b0, z_b1, ↓zB_Gb, ↓zB_G0, ↓zB_G1, z_eql, z_leq, z_ltl, z_llt, z_eq, z_lt, z_m1lt, hp.k, hp.k1, hp.k2, hp.k3, hp.k4, hp.k5, hp.k6, hp.k7, hp.k8, hp.k9, hp.k10, hp.l1, hp.l2, hp.l3, hp.l4, hp.l5, hp.l6, hp.l7, hp.l8, hp.l9, hp.l10, ↓hp.g0, ↓hp.g1, ↓hp.g2, ↓hp.g3, ↓hp.g4, ↓hp.g5, ↓hp.g6, ↓hp.g7, ↓hp.g8, ↓hp.g9, ↓hp.gb, hp.gb, h01, Nat.lt_irrefl]
      · rw [g3 i hi]
        by_cases x : i < z_nm P
        · rw [decide_eq_true x, show decide (i < j) = true by simpa using (show i < j by omega)]; rfl
        · rw [decide_eq_false x]; rfl
    · have e79 := f79_sp hp hcp1 (k := j) (by omega)
      have ethr : z_thr P j = z_liv P j := by unfold z_thr; rw [decide_eq_true hj2, Bool.true_and]
      rw [ethr] at e79
      have hbit := z_M_at (n := z_nm P) (s := z_kpt P k) (by omega) hj2
      have skip : (z_liv P j && !z_kpt P k j) = false → f68_17b p q (z_M (z_nm P) (z_kpt P k)) (nI (z_rdC P k j)) (nI j) (z_hp S m1) = some (.inl (p, q, z_M (z_nm P) (z_kpt P k), nI (z_rdC P k j), nI (j + 1)), z_hp S m1) → (∃ s' m' n', f68_17b p q (z_M (z_nm P) (z_kpt P k)) (nI (z_rdC P k j)) (nI j) (z_hp S m1) = some (.inl s', z_hp S m') ∧ n' < z_nm P - j ∧ ∃ j_1, n' = z_nm P - j_1 ∧ j_1 ≤ z_nm P ∧ s' = (p, q, z_M (z_nm P) (z_kpt P k), nI (z_rdC P k j_1), nI j_1) ∧ (∀ i, i ≠ 12 → m' q i = m q i) ∧ (∀ a, a ≠ q → m' a = m a) ∧ ∀ i, i < 32 → z_bit (m' q 12) i = (decide (i < z_nm P) && (z_liv P i && (!decide (i < j_1) || z_kpt P k i)))) := by
        intro hc he
        have ec : z_rdC P k (j + 1) = z_rdC P k j := by
          unfold z_rdC
          rw [z_ct_s, hc]; rfl
        refine ⟨_, m1, z_nm P - (j + 1), he, by omega, j + 1, rfl, hj2, by rw [ec], g1, g2, fun i hi => ?_⟩
        rw [g3 i hi]
        by_cases x : i = j
        · subst x
          rw [decide_eq_false (Nat.lt_irrefl i), show decide (i < i + 1) = true by simp]
          cases q1 : z_liv P i with
          | false => rfl
          | true =>
            rw [q1, Bool.true_and] at hc
            cases q2 : z_kpt P k i with
            | true => rfl
            | false => rw [q2] at hc; cases hc
        · have e2 : decide (i < j) = decide (i < j + 1) := by
            by_cases y : i < j
            · rw [decide_eq_true y, decide_eq_true (by omega)]
            · rw [decide_eq_false y, decide_eq_false (by omega)]
          rw [e2]
      cases glj : z_liv P j with
      | false =>
        rw [glj] at e79
        refine Or.inl (skip (by rw [glj]; rfl) ?_)
        unfold f68_17b f68_67
        simp (disch := ((try simp only [true_or, or_true, hp.k, hp.k1, hp.k2, hp.k3, hp.k4, hp.k5, hp.k6, hp.k7, hp.k8, hp.k9, hp.k10, hp.l1, hp.l2, hp.l3, hp.l4, hp.l5, hp.l6, hp.l7, hp.l8, hp.l9, hp.l10, hpk]) <;> (try omega))) only [↓reduceIte, ↓z_ite, ↓zR, ↓zB_R, ↓zB_B, ↓zB_ite, ↓zB_gI, ↓zB_pI, ↓zB_pZ, ↓zB_aK, ↓zB_G, ↓zB_lI, ↓zB_lZ, ↓zB_wI, ↓zB_wZ, ↓zB_lIl, ↓zB_wIl, zB_pI, zB_pZ, zB_lI, zB_lZ, zB_wI, zB_wZ, z_addl, z_ladd, z_mull, z_lmul, nI_add, z_subl, Nat.not_lt_zero, z_10, z_01, z_bitc, z_b0, z_b1, ↓zB_Gb, ↓zB_G0, ↓zB_G1, z_eql, z_leq, z_ltl, z_llt, z_eq, z_lt, z_m1lt, hp.k, hp.k1, hp.k2, hp.k3, hp.k4, hp.k5, hp.k6, hp.k7, hp.k8, hp.k9, hp.k10, hp.l1, hp.l2, hp.l3, hp.l4, hp.l5, hp.l6, hp.l7, hp.l8, hp.l9, hp.l10, hpk, ↓hp.g0, ↓hp.g1, ↓hp.g2, ↓hp.g3, ↓hp.g4, ↓hp.g5, ↓hp.g6, ↓hp.g7, ↓hp.g8, ↓hp.g9, ↓hp.gb, hp.gb, h01, hj2, ↓zB_c e79, zB_c e79]
      | true =>
        rw [glj] at e79
        cases gk : z_kpt P k j with
        | true =>
          rw [gk] at hbit
          refine Or.inl (skip (by rw [glj, gk]; rfl) ?_)
          unfold f68_17b f68_67
          simp (disch := ((try simp only [true_or, or_true, hp.k, hp.k1, hp.k2, hp.k3, hp.k4, hp.k5, hp.k6, hp.k7, hp.k8, hp.k9, hp.k10, hp.l1, hp.l2, hp.l3, hp.l4, hp.l5, hp.l6, hp.l7, hp.l8, hp.l9, hp.l10, hpk]) <;> (try omega))) only [↓reduceIte, ↓z_ite, ↓zR, ↓zB_R, ↓zB_B, ↓zB_ite, ↓zB_gI, ↓zB_pI, ↓zB_pZ, ↓zB_aK, ↓zB_G, ↓zB_lI, ↓zB_lZ, ↓zB_wI, ↓zB_wZ, ↓zB_lIl, ↓zB_wIl, zB_pI, zB_pZ, zB_lI, zB_lZ, zB_wI, zB_wZ, z_addl, z_ladd, z_mull, z_lmul, nI_add, z_subl, Nat.not_lt_zero, z_10, z_01, z_bitc, z_b0, z_b1, ↓zB_Gb, ↓zB_G0, ↓zB_G1, z_eql, z_leq, z_ltl, z_llt, z_eq, z_lt, z_m1lt, hp.k, hp.k1, hp.k2, hp.k3, hp.k4, hp.k5, hp.k6, hp.k7, hp.k8, hp.k9, hp.k10, hp.l1, hp.l2, hp.l3, hp.l4, hp.l5, hp.l6, hp.l7, hp.l8, hp.l9, hp.l10, hpk, ↓hp.g0, ↓hp.g1, ↓hp.g2, ↓hp.g3, ↓hp.g4, ↓hp.g5, ↓hp.g6, ↓hp.g7, ↓hp.g8, ↓hp.g9, ↓hp.gb, hp.gb, h01, hj2, ↓zB_c e79, zB_c e79, Bool.true_eq_false, hbit]
        | false =>
          rw [gk] at hbit
          have ec : z_rdC P k (j + 1) = z_rdC P k j + 1 := by
            unfold z_rdC
            rw [z_ct_s, glj, gk]; rfl
          refine Or.inl ⟨(p, q, z_M (z_nm P) (z_kpt P k), nI (z_rdC P k (j + 1)), nI (j + 1)), z_up m1 q 12 (m1 q 12 &&& ((1 <<< (nI j &&& 31)) ^^^ (-1))), z_nm P - (j + 1), ?_, by omega, j + 1, rfl, hj2, rfl, fun i hi => by rw [z_up_b hi]; exact g1 i hi, fun a ha => by rw [z_up_row ha]; exact g2 a ha, fun i hi => ?_⟩
          · rw [ec]
            unfold f68_17b f68_67
            simp (disch := ((try simp only [true_or, or_true, hp.k, hp.k1, hp.k2, hp.k3, hp.k4, hp.k5, hp.k6, hp.k7, hp.k8, hp.k9, hp.k10, hp.l1, hp.l2, hp.l3, hp.l4, hp.l5, hp.l6, hp.l7, hp.l8, hp.l9, hp.l10, hq.k, hq.k1, hq.k2, hq.k3, hq.k4, hq.k5, hq.k6, hq.k7, hq.k8, hq.k9, hq.k10, hq.l1, hq.l2, hq.l3, hq.l4, hq.l5, hq.l6, hq.l7, hq.l8, hq.l9, hq.l10, hpk]) <;> (try omega))) only [↓reduceIte, ↓z_ite, ↓zR, ↓zB_R, ↓zB_B, ↓zB_ite, ↓zB_gI, ↓zB_pI, ↓zB_pZ, ↓zB_aK, ↓zB_G, ↓zB_lI, ↓zB_lZ, ↓zB_wI, ↓zB_wZ, ↓zB_lIl, ↓zB_wIl, zB_pI, zB_pZ, zB_lI, zB_lZ, zB_wI, zB_wZ, z_addl, z_ladd, z_mull, z_lmul, nI_add, z_subl, Nat.not_lt_zero, z_10, z_01, z_bitc, z_b0, z_b1, ↓zB_Gb, ↓zB_G0, ↓zB_G1, z_eql, z_leq, z_ltl, z_llt, z_eq, z_lt, z_m1lt, hp.k, hp.k1, hp.k2, hp.k3, hp.k4, hp.k5, hp.k6, hp.k7, hp.k8, hp.k9, hp.k10, hp.l1, hp.l2, hp.l3, hp.l4, hp.l5, hp.l6, hp.l7, hp.l8, hp.l9, hp.l10, hq.k, hq.k1, hq.k2, hq.k3, hq.k4, hq.k5, hq.k6, hq.k7, hq.k8, hq.k9, hq.k10, hq.l1, hq.l2, hq.l3, hq.l4, hq.l5, hq.l6, hq.l7, hq.l8, hq.l9, hq.l10, hpk, ↓hp.g0, ↓hp.g1, ↓hp.g2, ↓hp.g3, ↓hp.g4, ↓hp.g5, ↓hp.g6, ↓hp.g7, ↓hp.g8, ↓hp.g9, ↓hp.gb, hp.gb, ↓hq.g0, ↓hq.g1, ↓hq.g2, ↓hq.g3, ↓hq.g4, ↓hq.g5, ↓hq.g6, ↓hq.g7, ↓hq.g8, ↓hq.g9, ↓hq.gb, hq.gb, h01, hj2, ↓zB_c e79, zB_c e79, Bool.true_eq_false, hbit, Bool.false_eq_true]
          · rw [z_up_s, z_bit_and _ _ hi, z_bit_not _ hi, z_bit_shl (by omega) hi, g3 i hi]
            by_cases x : i = j
            · subst x
              rw [show decide (i < i + 1) = true by simp, gk]; simp
            · rw [show decide (j = i) = false from decide_eq_false (fun y => x y.symm), Bool.not_false, Bool.and_true]
              have e2 : decide (i < j) = decide (i < j + 1) := by
                by_cases y : i < j
                · rw [decide_eq_true y, decide_eq_true (by omega)]
                · rw [decide_eq_false y, decide_eq_false (by omega)]
              rw [e2]
noncomputable def z_odead (A : z_A) (k : Int32) : (Int32 ⊕ Nat) × z_A :=
  if z_hm A.2.1 k = false then (.inr 2, A)
  else if z_wr A.2.1 = -1 then z_rf A (nI (z_rdC A.2.1 k.toNatClampNeg (z_nm A.2.1))) (z_rdQ A.2.1 k.toNatClampNeg)
  else (.inr 0, A)
theorem c_dead (hw : z_WA A) (h : z_CR S m A) (k : Int32) : ∃ S1 m1, f150 0 k (z_hp S m) = some ((z_odead A k).1, z_hp S1 m1) ∧ z_CR S1 m1 (z_odead A k).2 ∧ z_SS S S1 ∧ ∀ a, 2390 ≤ a → m1 a = m a := by
  have h0 := h
  obtain ⟨sn, sx, sp, hI, hCM⟩ := h0
  have hX := hI.1
  have hp := hI.2.2.1 sn hI.2.2.2.1.1
  have hn := hI.2.2.2.2.2.1
  have hc := hCM.2.2.1.1.1
  have hwf := hw.2.1.1
  have h24 := hwf.2.2.1
  unfold z_odead
  by_cases g1 : z_hm A.2.1 k = false
  · rw [if_pos g1]
    refine ⟨z_Sx S, m, ?_, z_CR_x h, z_SS.x S, fun _ _ => rfl⟩
    unfold f150
    simp (disch := ((try simp only [true_or, or_true, hX.k0, hX.k8, hX.k9, hX.l9]) <;> (try omega))) only [↓reduceIte, ↓z_ite, ↓zR, ↓zB_R, ↓zB_B, ↓zB_ite, ↓zB_gI, ↓zB_pI, ↓zB_pZ, ↓zB_aK, ↓zB_G, ↓zB_lI, ↓zB_lZ, ↓zB_wI, ↓zB_wZ, ↓zB_lIl, ↓zB_wIl, zB_pI, zB_pZ, zB_lI, zB_lZ, zB_wI, zB_wZ, z_addl, z_ladd, z_mull, z_lmul, nI_add, z_subl, Nat.not_lt_zero, z_10, z_01, z_bitc, z_b0, z_b1, ↓zB_Gb, ↓zB_G0, ↓zB_G1, z_eql, z_leq, z_ltl, z_llt, z_eq, z_lt, z_m1lt, hX.k0, hX.k8, hX.k9, hX.l9, ↓hX.g0_0, ↓hX.g0_1, ↓hX.g0_2, ↓hX.g0_3, ↓hX.g0_4, ↓hX.g0_5, ↓hX.g0_6, ↓hX.g0_7, ↓hX.g0_8, ↓hX.g0_9, ↓hX.g8_0, ↓z_gnow hX hn, z_gnow hX hn, ↓zT_r (f165_n hX hp hc hwf g1), zT_r (f165_n hX hp hc hwf g1)]
  rw [if_neg g1]
  have g1' := z_not_false g1
  have e1 := f165_y hX hp hc hwf g1'
  obtain ⟨k', hk', hl, rfl⟩ := (z_hm_iff hwf).mp g1'
  rw [nI_clamp (show k' < 2 ^ 31 by omega)]
  by_cases g3 : z_wr A.2.1 = -1
  · rw [if_pos g3]
    obtain ⟨m1, e3, c1, r1, f14⟩ := c_rr_y hw hI hCM g3
    obtain ⟨S', m', e4, d1, d2, d3⟩ := c_tail hw hI c1 g3 f14 (ob := 61) (kd := 6) hX.k61 (OP := fun q => f68 61 (z_pid sn) q (nI k')) (r := nI (z_rdC A.2.1 k' (z_nm A.2.1))) (Q := z_rdQ A.2.1 k') (fun m2 hpre => f68_sp hpre hwf (z_RT_wr hwf g3) hk' hl)
    refine ⟨S', m', ?_, d1, d2, fun a ha => (d3 a ha).trans (r1 a ha)⟩
    unfold f150
    simp (disch := ((try simp only [true_or, or_true, hX.k0, hX.k8, hX.k9, hX.l9, hp.k, hp.k1, hp.k2, hp.k3, hp.k4, hp.k5, hp.k6, hp.k7, hp.k8, hp.k9, hp.k10, hp.l1, hp.l2, hp.l3, hp.l4, hp.l5, hp.l6, hp.l7, hp.l8, hp.l9, hp.l10]) <;> (try omega))) only [↓reduceIte, ↓z_ite, ↓zR, ↓zB_R, ↓zB_B, ↓zB_ite, ↓zB_gI, ↓zB_pI, ↓zB_pZ, ↓zB_aK, ↓zB_G, ↓zB_lI, ↓zB_lZ, ↓zB_wI, ↓zB_wZ, ↓zB_lIl, ↓zB_wIl, zB_pI, zB_pZ, zB_lI, zB_lZ, zB_wI, zB_wZ, z_addl, z_ladd, z_mull, z_lmul, nI_add, z_subl, Nat.not_lt_zero, z_10, z_01, z_bitc, z_b0, z_b1, ↓zB_Gb, ↓zB_G0, ↓zB_G1, z_eql, z_leq, z_ltl, z_llt, z_eq, z_lt, z_m1lt, hX.k0, hX.k8, hX.k9, hX.l9, hp.k, hp.k1, hp.k2, hp.k3, hp.k4, hp.k5, hp.k6, hp.k7, hp.k8, hp.k9, hp.k10, hp.l1, hp.l2, hp.l3, hp.l4, hp.l5, hp.l6, hp.l7, hp.l8, hp.l9, hp.l10, ↓hX.g0_0, ↓hX.g0_1, ↓hX.g0_2, ↓hX.g0_3, ↓hX.g0_4, ↓hX.g0_5, ↓hX.g0_6, ↓hX.g0_7, ↓hX.g0_8, ↓hX.g0_9, ↓hX.g8_0, ↓hp.g0, ↓hp.g1, ↓hp.g2, ↓hp.g3, ↓hp.g4, ↓hp.g5, ↓hp.g6, ↓hp.g7, ↓hp.g8, ↓hp.g9, ↓hp.gb, hp.gb, ↓z_gnow hX hn, z_gnow hX hn, ↓zT_l e1, zT_l e1, ↓zT_l e3, zT_l e3]
    exact e4
  · rw [if_neg g3]
    obtain ⟨m1, e3, c1, r1⟩ := c_rr_n hw hI hCM g3
    refine ⟨z_Sx S, m1, ?_, ⟨sn, sx, sp, hI, c1⟩, z_SS.x S, r1⟩
    unfold f150
    simp (disch := ((try simp only [true_or, or_true, hX.k0, hX.k8, hX.k9, hX.l9, hp.k, hp.k1, hp.k2, hp.k3, hp.k4, hp.k5, hp.k6, hp.k7, hp.k8, hp.k9, hp.k10, hp.l1, hp.l2, hp.l3, hp.l4, hp.l5, hp.l6, hp.l7, hp.l8, hp.l9, hp.l10]) <;> (try omega))) only [↓reduceIte, ↓z_ite, ↓zR, ↓zB_R, ↓zB_B, ↓zB_ite, ↓zB_gI, ↓zB_pI, ↓zB_pZ, ↓zB_aK, ↓zB_G, ↓zB_lI, ↓zB_lZ, ↓zB_wI, ↓zB_wZ, ↓zB_lIl, ↓zB_wIl, zB_pI, zB_pZ, zB_lI, zB_lZ, zB_wI, zB_wZ, z_addl, z_ladd, z_mull, z_lmul, nI_add, z_subl, Nat.not_lt_zero, z_10, z_01, z_bitc, z_b0, z_b1, ↓zB_Gb, ↓zB_G0, ↓zB_G1, z_eql, z_leq, z_ltl, z_llt, z_eq, z_lt, z_m1lt, hX.k0, hX.k8, hX.k9, hX.l9, hp.k, hp.k1, hp.k2, hp.k3, hp.k4, hp.k5, hp.k6, hp.k7, hp.k8, hp.k9, hp.k10, hp.l1, hp.l2, hp.l3, hp.l4, hp.l5, hp.l6, hp.l7, hp.l8, hp.l9, hp.l10, ↓hX.g0_0, ↓hX.g0_1, ↓hX.g0_2, ↓hX.g0_3, ↓hX.g0_4, ↓hX.g0_5, ↓hX.g0_6, ↓hX.g0_7, ↓hX.g0_8, ↓hX.g0_9, ↓hX.g8_0, ↓hp.g0, ↓hp.g1, ↓hp.g2, ↓hp.g3, ↓hp.g4, ↓hp.g5, ↓hp.g6, ↓hp.g7, ↓hp.g8, ↓hp.g9, ↓hp.gb, hp.gb, ↓z_gnow hX hn, z_gnow hX hn, ↓zT_l e1, zT_l e1, ↓zT_r e3, zT_r e3]
/-- a method that stays as it is -/
theorem z_mix_id {G : Nat → Nat → Int32} {D : Nat → List z_N} {n : Nat} (hG : G n = z_hd P n) (hD : D n = z_bd P n) : z_mix P G D (n + 1) = z_mix P G D n := by
  cases hl : z_liv P n with
  | false => exact z_mix_n hl
  | true =>
    rw [z_mix_s hl]
    have e1 : (fun k w => if k = n then G n w else z_hd (z_mix P G D n) k w) = (z_mix P G D n).2.2.2.2.1 := by
      funext k w
      by_cases g : k = n
      · subst g
        rw [if_pos rfl, hG]
        show _ = (if k < k ∧ z_liv P k = true then G k w else z_hd P k w)
        rw [if_neg (by omega)]
      · rw [if_neg g]; rfl
    have e2 : (fun k => if k = n then D n else z_bd (z_mix P G D n) k) = (z_mix P G D n).2.2.2.2.2 := by
      funext k
      by_cases g : k = n
      · subst g
        rw [if_pos rfl, hD]
        show _ = (if k < k ∧ z_liv P k = true then D k else z_bd P k)
        rw [if_neg (by omega)]
      · rw [if_neg g]; rfl
    unfold z_sM
    rw [e1, e2]
theorem m_dead (hM : z_MS S) (hw : z_WA A) (h : z_MR m A) (k : Int32) : (∃ v m1, f307 2390 k (z_hp S m) = some (v, z_hp S m1) ∧ z_MR m1 (z_odead A k).2 ∧ (∀ b, b < 2390 ∨ 2424 ≤ b → m1 b = m b) ∧ z_ans z_cd2 (z_odead A k).1 v (m1 2390 0)) ∧ z_WA (z_odead A k).2 := by
  have hwf := hw.2.1.1
  have h24 := hwf.2.2.1
  have h60 := hw.2.1.2
  have i1 := f178_1 (m := m) hM
  have e206 := f206_b (S := S) hM h k
  unfold z_odead
  by_cases g1 : z_hm A.2.1 k = false
  · rw [if_pos g1]
    refine z_m_ref hw h (E := 2) (cd := z_cd2) ⟨0, ?_⟩
    rw [g1] at e206
    unfold f307 f307_26
    simp (disch := ((try simp only [true_or, or_true, hM.k, hM.k2391, hM.k2392, hM.k2393, hM.k2394, hM.k2395, hM.k2396, hM.k2397, hM.k2398, hM.k2399, hM.k2400, hM.k2401, hM.k2402, hM.k2403, hM.k2404, hM.k2405, hM.k2406, hM.k2407, hM.k2408, hM.k2409, hM.k2410, hM.k2411, hM.k2412, hM.k2413, hM.k2414, hM.k2415, hM.k2416, hM.k2417, hM.k2418, hM.k2419, hM.k2420, hM.k2421, hM.k2422, hM.k2423, hM.l2391, hM.l2392, hM.l2393, hM.l2394, hM.l2395, hM.l2396, hM.l2397, hM.l2398, hM.l2399, hM.l2400, hM.l2401, hM.l2402, hM.l2403, hM.l2404, hM.l2405, hM.l2406, hM.l2407, hM.l2408, hM.l2409, hM.l2410, hM.l2411, hM.l2412, hM.l2413, hM.l2414, hM.l2415, hM.l2416, hM.l2417, hM.l2418, hM.l2419, hM.l2420, hM.l2421, hM.l2422, hM.l2423]) <;> (try omega))) only [↓reduceIte, ↓z_ite, ↓zR, ↓zB_R, ↓zB_B, ↓zB_ite, ↓zB_gI, ↓zB_pI, ↓zB_pZ, ↓zB_aK, ↓zB_G, ↓zB_lI, ↓zB_lZ, ↓zB_wI, ↓zB_wZ, ↓zB_lIl, ↓zB_wIl, zB_pI, zB_pZ, zB_lI, zB_lZ, zB_wI, zB_wZ, z_addl, z_ladd, z_mull, z_lmul, nI_add, z_subl, Nat.not_lt_zero, z_10, z_01, z_bitc, z_b0, z_b1, ↓zB_Gb, ↓zB_G0, ↓zB_G1, z_eql, z_leq, z_ltl, z_llt, z_eq, z_lt, z_m1lt, hM.k, hM.k2391, hM.k2392, hM.k2393, hM.k2394, hM.k2395, hM.k2396, hM.k2397, hM.k2398, hM.k2399, hM.k2400, hM.k2401, hM.k2402, hM.k2403, hM.k2404, hM.k2405, hM.k2406, hM.k2407, hM.k2408, hM.k2409, hM.k2410, hM.k2411, hM.k2412, hM.k2413, hM.k2414, hM.k2415, hM.k2416, hM.k2417, hM.k2418, hM.k2419, hM.k2420, hM.k2421, hM.k2422, hM.k2423, hM.l2391, hM.l2392, hM.l2393, hM.l2394, hM.l2395, hM.l2396, hM.l2397, hM.l2398, hM.l2399, hM.l2400, hM.l2401, hM.l2402, hM.l2403, hM.l2404, hM.l2405, hM.l2406, hM.l2407, hM.l2408, hM.l2409, hM.l2410, hM.l2411, hM.l2412, hM.l2413, hM.l2414, hM.l2415, hM.l2416, hM.l2417, hM.l2418, hM.l2419, hM.l2420, hM.l2421, hM.l2422, hM.l2423, ↓hM.g1, ↓hM.g5, ↓hM.g6, ↓hM.g7, ↓hM.g8, ↓hM.g9, ↓hM.g10, ↓hM.g11, ↓hM.g12, ↓hM.g13, ↓hM.g14, ↓hM.g16, ↓hM.g17, ↓hM.g18, ↓hM.g19, ↓hM.g21, ↓hM.g22, ↓hM.g23, ↓hM.g24, ↓hM.g25, ↓hM.g27, ↓hM.g28, ↓hM.g30, ↓hM.g31, ↓hM.g32, ↓hM.g36, ↓hM.g37, ↓hM.g39, ↓hM.g40, ↓hM.g41, ↓hM.g43, ↓hM.g45, ↓hM.g46, ↓zB_c e206, zB_c e206, ↓zB_c i1, zB_c i1]
    rfl
  rw [if_neg g1]
  have g1' := z_not_false g1
  rw [g1'] at e206
  obtain ⟨k', hk', hl, rfl⟩ := (z_hm_iff hwf).mp g1'
  rw [nI_clamp (show k' < 2 ^ 31 by omega)]
  by_cases g3 : ¬ z_wr A.2.1 = -1
  · rw [if_neg g3]
    obtain ⟨m1, e272, h1, fr1⟩ := m_gono (S := S) hM hw h g3
    have i2 := f178_2 (m := m1) hM
    refine m_ref2 (m1 := m1) hw h1 fr1 (E := 0) (cd := z_cd2) ⟨0, ?_⟩
    unfold f307 f307_26
    simp (disch := ((try simp only [true_or, or_true, hM.k, hM.k2391, hM.k2392, hM.k2393, hM.k2394, hM.k2395, hM.k2396, hM.k2397, hM.k2398, hM.k2399, hM.k2400, hM.k2401, hM.k2402, hM.k2403, hM.k2404, hM.k2405, hM.k2406, hM.k2407, hM.k2408, hM.k2409, hM.k2410, hM.k2411, hM.k2412, hM.k2413, hM.k2414, hM.k2415, hM.k2416, hM.k2417, hM.k2418, hM.k2419, hM.k2420, hM.k2421, hM.k2422, hM.k2423, hM.l2391, hM.l2392, hM.l2393, hM.l2394, hM.l2395, hM.l2396, hM.l2397, hM.l2398, hM.l2399, hM.l2400, hM.l2401, hM.l2402, hM.l2403, hM.l2404, hM.l2405, hM.l2406, hM.l2407, hM.l2408, hM.l2409, hM.l2410, hM.l2411, hM.l2412, hM.l2413, hM.l2414, hM.l2415, hM.l2416, hM.l2417, hM.l2418, hM.l2419, hM.l2420, hM.l2421, hM.l2422, hM.l2423]) <;> (try omega))) only [↓reduceIte, ↓z_ite, ↓zR, ↓zB_R, ↓zB_B, ↓zB_ite, ↓zB_gI, ↓zB_pI, ↓zB_pZ, ↓zB_aK, ↓zB_G, ↓zB_lI, ↓zB_lZ, ↓zB_wI, ↓zB_wZ, ↓zB_lIl, ↓zB_wIl, zB_pI, zB_pZ, zB_lI, zB_lZ, zB_wI, zB_wZ, z_addl, z_ladd, z_mull, z_lmul, nI_add, z_subl, Nat.not_lt_zero, z_10, z_01, z_bitc, z_b0, z_b1, ↓zB_Gb, ↓zB_G0, ↓zB_G1, z_eql, z_leq, z_ltl, z_llt, z_eq, z_lt, z_m1lt, hM.k, hM.k2391, hM.k2392, hM.k2393, hM.k2394, hM.k2395, hM.k2396, hM.k2397, hM.k2398, hM.k2399, hM.k2400, hM.k2401, hM.k2402, hM.k2403, hM.k2404, hM.k2405, hM.k2406, hM.k2407, hM.k2408, hM.k2409, hM.k2410, hM.k2411, hM.k2412, hM.k2413, hM.k2414, hM.k2415, hM.k2416, hM.k2417, hM.k2418, hM.k2419, hM.k2420, hM.k2421, hM.k2422, hM.k2423, hM.l2391, hM.l2392, hM.l2393, hM.l2394, hM.l2395, hM.l2396, hM.l2397, hM.l2398, hM.l2399, hM.l2400, hM.l2401, hM.l2402, hM.l2403, hM.l2404, hM.l2405, hM.l2406, hM.l2407, hM.l2408, hM.l2409, hM.l2410, hM.l2411, hM.l2412, hM.l2413, hM.l2414, hM.l2415, hM.l2416, hM.l2417, hM.l2418, hM.l2419, hM.l2420, hM.l2421, hM.l2422, hM.l2423, ↓hM.g1, ↓hM.g5, ↓hM.g6, ↓hM.g7, ↓hM.g8, ↓hM.g9, ↓hM.g10, ↓hM.g11, ↓hM.g12, ↓hM.g13, ↓hM.g14, ↓hM.g16, ↓hM.g17, ↓hM.g18, ↓hM.g19, ↓hM.g21, ↓hM.g22, ↓hM.g23, ↓hM.g24, ↓hM.g25, ↓hM.g27, ↓hM.g28, ↓hM.g30, ↓hM.g31, ↓hM.g32, ↓hM.g36, ↓hM.g37, ↓hM.g39, ↓hM.g40, ↓hM.g41, ↓hM.g43, ↓hM.g45, ↓hM.g46, ↓zB_c e206, zB_c e206, Bool.true_eq_false, ↓zB_c e272, zB_c e272, ↓zB_c i2, zB_c i2]
    rfl
  have g3 := Classical.not_not.mp g3
  rw [if_pos g3]
  obtain ⟨m1, e272, e178, h0, fr0⟩ := m_go (S := S) hM hw h g3
  generalize hm2 : z_up m1 2390 0 0 = m2 at e178 h0 fr0
  have hR := z_RT_wr hwf g3
  obtain ⟨m3, e258, bl3, fr3⟩ := f258_sp (S := S) (B := 0) h0.1.2.1 hM hwf rfl hR h0.2.1 hk' hl
  have hmF3 : z_mF m2 m3 := ⟨fun j _ => by rw [fr3 _ (by decide)], fun a x1 x2 => fr3 a (by omega), fun j _ => by rw [fr3 _ (by decide)], fun a ha => fr3 a (by omega)⟩
  have h3 := z_m0_mF hmF3 h0
  obtain ⟨m4, e203, h4, mb4, mz4, mF4, fr4⟩ := f203_w (S := S) hM h3
  obtain ⟨hQ1, hQ2⟩ := z_rdQ_ok hwf h60 k'
  have fr04 : ∀ b, b < 2390 ∨ 2424 ≤ b → m4 b = m b := fun b hb => by rw [mF4.2.2.2 b hb, hmF3.2.2.2 b hb]; exact fr0 b hb
  have hct := z_ct_le (s := fun j => z_liv A.2.1 j && !z_kpt A.2.1 k' j) (z_nm A.2.1)
  have rpos : ¬ nI (z_rdC A.2.1 k' (z_nm A.2.1)) < 0 := nI_pos (by unfold z_rdC; omega)
  have key := z_loopI (f := fun s => f307_50b (s.1) (s.2.1) (s.2.2.1) (s.2.2.2)) (S := S) (fun n' st m' => ∃ j, n' = z_nm A.2.1 - j ∧ j ≤ z_nm A.2.1 ∧ st = (2390, nI k', nI (z_rdC A.2.1 k' j), nI j) ∧ z_mb m' 2 (z_mix A.2.1 (z_rdG A.2.1 k') (z_bd A.2.1) j) ∧ z_wK m4 m') (fun r m' => r = nI (z_rdC A.2.1 k' (z_nm A.2.1)) ∧ z_MR m' (z_push A (z_rdQ A.2.1 k')) ∧ m' 2390 0 = 0 ∧ ∀ b, b < 2390 ∨ 2424 ≤ b → m' b = m b) ?_ 1000000 (z_nm A.2.1) (2390, nI k', 0, 0) m4 ⟨0, rfl, Nat.zero_le _, rfl, by rw [z_mix_0]; exact mb4, z_wK.refl m4⟩ (by omega)
  · obtain ⟨r, m5, e, rfl, g5, g6, g7⟩ := key
    refine m_yes hw rpos (m' := m5) ?_ g5 g6 g7 hQ1 hQ2 rfl
    unfold f307 f307_26 f307_50
    simp (disch := ((try simp only [true_or, or_true, hM.k, hM.k2391, hM.k2392, hM.k2393, hM.k2394, hM.k2395, hM.k2396, hM.k2397, hM.k2398, hM.k2399, hM.k2400, hM.k2401, hM.k2402, hM.k2403, hM.k2404, hM.k2405, hM.k2406, hM.k2407, hM.k2408, hM.k2409, hM.k2410, hM.k2411, hM.k2412, hM.k2413, hM.k2414, hM.k2415, hM.k2416, hM.k2417, hM.k2418, hM.k2419, hM.k2420, hM.k2421, hM.k2422, hM.k2423, hM.l2391, hM.l2392, hM.l2393, hM.l2394, hM.l2395, hM.l2396, hM.l2397, hM.l2398, hM.l2399, hM.l2400, hM.l2401, hM.l2402, hM.l2403, hM.l2404, hM.l2405, hM.l2406, hM.l2407, hM.l2408, hM.l2409, hM.l2410, hM.l2411, hM.l2412, hM.l2413, hM.l2414, hM.l2415, hM.l2416, hM.l2417, hM.l2418, hM.l2419, hM.l2420, hM.l2421, hM.l2422, hM.l2423]) <;> (try omega))) only [↓reduceIte, ↓z_ite, ↓zR, ↓zB_R, ↓zB_B, ↓zB_ite, ↓zB_gI, ↓zB_pI, ↓zB_pZ, ↓zB_aK, ↓zB_G, ↓zB_lI, ↓zB_lZ, ↓zB_wI, ↓zB_wZ, ↓zB_lIl, ↓zB_wIl, zB_pI, zB_pZ, zB_lI, zB_lZ, zB_wI, zB_wZ, z_addl, z_ladd, z_mull, z_lmul, nI_add, z_subl, Nat.not_lt_zero, z_10, z_01, z_bitc, z_b0, z_b1, ↓zB_Gb, ↓zB_G0, ↓zB_G1, z_eql, z_leq, z_ltl, z_llt, z_eq, z_lt, z_m1lt, hM.k, hM.k2391, hM.k2392, hM.k2393, hM.k2394, hM.k2395, hM.k2396, hM.k2397, hM.k2398, hM.k2399, hM.k2400, hM.k2401, hM.k2402, hM.k2403, hM.k2404, hM.k2405, hM.k2406, hM.k2407, hM.k2408, hM.k2409, hM.k2410, hM.k2411, hM.k2412, hM.k2413, hM.k2414, hM.k2415, hM.k2416, hM.k2417, hM.k2418, hM.k2419, hM.k2420, hM.k2421, hM.k2422, hM.k2423, hM.l2391, hM.l2392, hM.l2393, hM.l2394, hM.l2395, hM.l2396, hM.l2397, hM.l2398, hM.l2399, hM.l2400, hM.l2401, hM.l2402, hM.l2403, hM.l2404, hM.l2405, hM.l2406, hM.l2407, hM.l2408, hM.l2409, hM.l2410, hM.l2411, hM.l2412, hM.l2413, hM.l2414, hM.l2415, hM.l2416, hM.l2417, hM.l2418, hM.l2419, hM.l2420, hM.l2421, hM.l2422, hM.l2423, ↓hM.g1, ↓hM.g5, ↓hM.g6, ↓hM.g7, ↓hM.g8, ↓hM.g9, ↓hM.g10, ↓hM.g11, ↓hM.g12, ↓hM.g13, ↓hM.g14, ↓hM.g16, ↓hM.g17, ↓hM.g18, ↓hM.g19, ↓hM.g21, ↓hM.g22, ↓hM.g23, ↓hM.g24, ↓hM.g25, ↓hM.g27, ↓hM.g28, ↓hM.g30, ↓hM.g31, ↓hM.g32, ↓hM.g36, ↓hM.g37, ↓hM.g39, ↓hM.g40, ↓hM.g41, ↓hM.g43, ↓hM.g45, ↓hM.g46, ↓zB_c e206, zB_c e206, Bool.true_eq_false, ↓zB_c e272, zB_c e272, ↓zB_c e178, zB_c e178, ↓zB_c e258, zB_c e258, ↓zB_c e203, zB_c e203]
    exact e
  · rintro n' st m5 ⟨j, rfl, hj, rfl, g1, g2⟩
    have h5 := z_m0_wK g2 h4
    have e265 := f265_sp (S := S) hM h5.1.2.1
    dsimp only
    rcases Nat.eq_or_lt_of_le hj with hj2 | hj2
    · obtain ⟨m6, e271, c1, c2, c3⟩ := f271_y (S := S) (Q := z_rdQ A.2.1 k') hM hw h5.1 (by rw [hj2] at g1; exact g1) (g2.mz mz4) rfl (fun q hq hq1 => hQ2 q hq)
      refine Or.inr ⟨_, m6, ?_, rfl, c1, by rw [c3 0 (by decide)]; exact h5.2.2, fun b hb => ?_⟩
      · rw [hj2]
        unfold f307_50b f307_100
        simp (disch := ((try simp only [true_or, or_true, hM.k, hM.k2391, hM.k2392, hM.k2393, hM.k2394, hM.k2395, hM.k2396, hM.k2397, hM.k2398, hM.k2399, hM.k2400, hM.k2401, hM.k2402, hM.k2403, hM.k2404, hM.k2405, hM.k2406, hM.k2407, hM.k2408, hM.k2409, hM.k2410, hM.k2411, hM.k2412, hM.k2413, hM.k2414, hM.k2415, hM.k2416, hM.k2417, hM.k2418, hM.k2419, hM.k2420, hM.k2421, hM.k2422, hM.k2423, hM.l2391, hM.l2392, hM.l2393, hM.l2394, hM.l2395, hM.l2396, hM.l2397, hM.l2398, hM.l2399, hM.l2400, hM.l2401, hM.l2402, hM.l2403, hM.l2404, hM.l2405, hM.l2406, hM.l2407, hM.l2408, hM.l2409, hM.l2410, hM.l2411, hM.l2412, hM.l2413, hM.l2414, hM.l2415, hM.l2416, hM.l2417, hM.l2418, hM.l2419, hM.l2420, hM.l2421, hM.l2422, hM.l2423]) <;> (try omega))) only [↓reduceIte, ↓z_ite, ↓zR, ↓zB_R, ↓zB_B, ↓zB_ite, ↓zB_gI, ↓zB_pI, ↓zB_pZ, ↓zB_aK, ↓zB_G, ↓zB_lI, ↓zB_lZ, ↓zB_wI, ↓zB_wZ, ↓zB_lIl, ↓zB_wIl, zB_pI, zB_pZ, zB_lI, zB_lZ, zB_wI, zB_wZ, z_addl, z_ladd, z_mull, z_lmul, nI_add, z_subl, Nat.not_lt_zero, z_10, z_01, z_bitc, z_b0, z_b1, ↓zB_Gb, ↓zB_G0, ↓zB_G1, z_eql, z_leq, z_ltl, z_llt, z_eq, z_lt, z_m1lt, hM.k, hM.k2391, hM.k2392, hM.k2393, hM.k2394, hM.k2395, hM.k2396, hM.k2397, hM.k2398, hM.k2399, hM.k2400, hM.k2401, hM.k2402, hM.k2403, hM.k2404, hM.k2405, hM.k2406, hM.k2407, hM.k2408, hM.k2409, hM.k2410, hM.k2411, hM.k2412, hM.k2413, hM.k2414, hM.k2415, hM.k2416, hM.k2417, hM.k2418, hM.k2419, hM.k2420, hM.k2421, hM.k2422, hM.k2423, hM.l2391, hM.l2392, hM.l2393, hM.l2394, hM.l2395, hM.l2396, hM.l2397, hM.l2398, hM.l2399, hM.l2400, hM.l2401, hM.l2402, hM.l2403, hM.l2404, hM.l2405, hM.l2406, hM.l2407, hM.l2408, hM.l2409, hM.l2410, hM.l2411, hM.l2412, hM.l2413, hM.l2414, hM.l2415, hM.l2416, hM.l2417, hM.l2418, hM.l2419, hM.l2420, hM.l2421, hM.l2422, hM.l2423, ↓hM.g1, ↓hM.g5, ↓hM.g6, ↓hM.g7, ↓hM.g8, ↓hM.g9, ↓hM.g10, ↓hM.g11, ↓hM.g12, ↓hM.g13, ↓hM.g14, ↓hM.g16, ↓hM.g17, ↓hM.g18, ↓hM.g19, ↓hM.g21, ↓hM.g22, ↓hM.g23, ↓hM.g24, ↓hM.g25, ↓hM.g27, ↓hM.g28, ↓hM.g30, ↓hM.g31, ↓hM.g32, ↓hM.g36, ↓hM.g37, ↓hM.g39, ↓hM.g40, ↓hM.g41, ↓hM.g43, ↓hM.g45, ↓hM.g46, ↓zB_c e265, zB_c e265, Nat.lt_irrefl, ↓zB_c e271, zB_c e271]
      · rw [c2 b (by omega) (by omega), g2.mF.2.2.2 b hb]; exact fr04 b hb
    · have e0 := h5.1.2.1.e0 hM (B := 0) rfl hj2
      have e01 := (hwf.2.2.2.1 j hj2).1
      have hbj : m5 2417 j = z_b (z_rch A.2.1 k' j) := by
        rw [g2.2.1 2417 (by decide) (by decide) (by decide), fr4 _ (by decide)]; exact bl3 j hj2
      have skip : (z_kpt A.2.1 k' j = true ∨ z_liv A.2.1 j = false) → f307_50b 2390 (nI k') (nI (z_rdC A.2.1 k' j)) (nI j) (z_hp S m5) = some (.inl (2390, nI k', nI (z_rdC A.2.1 k' j), nI (j + 1)), z_hp S m5) → (∃ s' m' n', f307_50b 2390 (nI k') (nI (z_rdC A.2.1 k' j)) (nI j) (z_hp S m5) = some (.inl s', z_hp S m') ∧ n' < z_nm A.2.1 - j ∧ ∃ j_1, n' = z_nm A.2.1 - j_1 ∧ j_1 ≤ z_nm A.2.1 ∧ s' = (2390, nI k', nI (z_rdC A.2.1 k' j_1), nI j_1) ∧ z_mb m' 2 (z_mix A.2.1 (z_rdG A.2.1 k') (z_bd A.2.1) j_1) ∧ z_wK m4 m') := by
        intro hc he
        have ec : z_rdC A.2.1 k' (j + 1) = z_rdC A.2.1 k' j := by
          unfold z_rdC
          rw [z_ct_s]
          rcases hc with q | q <;> rw [q] <;> simp
        refine ⟨_, m5, z_nm A.2.1 - (j + 1), he, by omega, j + 1, rfl, hj2, by rw [ec], ?_, g2⟩
        rcases hc with q | q
        · rw [z_mix_id (by unfold z_rdG; rw [if_pos q]) rfl]; exact g1
        · rw [z_mix_n q]; exact g1
      by_cases gjk : j = k'
      · refine Or.inl (skip (Or.inl (by unfold z_kpt; rw [show (j == k') = true by simpa using gjk, Bool.or_true])) ?_)
        unfold f307_50b f307_94
        subst gjk
        simp (disch := ((try simp only [true_or, or_true, hM.k, hM.k2391, hM.k2392, hM.k2393, hM.k2394, hM.k2395, hM.k2396, hM.k2397, hM.k2398, hM.k2399, hM.k2400, hM.k2401, hM.k2402, hM.k2403, hM.k2404, hM.k2405, hM.k2406, hM.k2407, hM.k2408, hM.k2409, hM.k2410, hM.k2411, hM.k2412, hM.k2413, hM.k2414, hM.k2415, hM.k2416, hM.k2417, hM.k2418, hM.k2419, hM.k2420, hM.k2421, hM.k2422, hM.k2423, hM.l2391, hM.l2392, hM.l2393, hM.l2394, hM.l2395, hM.l2396, hM.l2397, hM.l2398, hM.l2399, hM.l2400, hM.l2401, hM.l2402, hM.l2403, hM.l2404, hM.l2405, hM.l2406, hM.l2407, hM.l2408, hM.l2409, hM.l2410, hM.l2411, hM.l2412, hM.l2413, hM.l2414, hM.l2415, hM.l2416, hM.l2417, hM.l2418, hM.l2419, hM.l2420, hM.l2421, hM.l2422, hM.l2423]) <;> (try omega))) only [↓reduceIte, ↓z_ite, ↓zR, ↓zB_R, ↓zB_B, ↓zB_ite, ↓zB_gI, ↓zB_pI, ↓zB_pZ, ↓zB_aK, ↓zB_G, ↓zB_lI, ↓zB_lZ, ↓zB_wI, ↓zB_wZ, ↓zB_lIl, ↓zB_wIl, zB_pI, zB_pZ, zB_lI, zB_lZ, zB_wI, zB_wZ, z_addl, z_ladd, z_mull, z_lmul, nI_add, z_subl, Nat.not_lt_zero, z_10, z_01, z_bitc, z_b0, z_b1, ↓zB_Gb, ↓zB_G0, ↓zB_G1, z_eql, z_leq, z_ltl, z_llt, z_eq, z_lt, z_m1lt, hM.k, hM.k2391, hM.k2392, hM.k2393, hM.k2394, hM.k2395, hM.k2396, hM.k2397, hM.k2398, hM.k2399, hM.k2400, hM.k2401, hM.k2402, hM.k2403, hM.k2404, hM.k2405, hM.k2406, hM.k2407, hM.k2408, hM.k2409, hM.k2410, hM.k2411, hM.k2412, hM.k2413, hM.k2414, hM.k2415, hM.k2416, hM.k2417, hM.k2418, hM.k2419, hM.k2420, hM.k2421, hM.k2422, hM.k2423, hM.l2391, hM.l2392, hM.l2393, hM.l2394, hM.l2395, hM.l2396, hM.l2397, hM.l2398, hM.l2399, hM.l2400, hM.l2401, hM.l2402, hM.l2403, hM.l2404, hM.l2405, hM.l2406, hM.l2407, hM.l2408, hM.l2409, hM.l2410, hM.l2411, hM.l2412, hM.l2413, hM.l2414, hM.l2415, hM.l2416, hM.l2417, hM.l2418, hM.l2419, hM.l2420, hM.l2421, hM.l2422, hM.l2423, ↓hM.g1, ↓hM.g5, ↓hM.g6, ↓hM.g7, ↓hM.g8, ↓hM.g9, ↓hM.g10, ↓hM.g11, ↓hM.g12, ↓hM.g13, ↓hM.g14, ↓hM.g16, ↓hM.g17, ↓hM.g18, ↓hM.g19, ↓hM.g21, ↓hM.g22, ↓hM.g23, ↓hM.g24, ↓hM.g25, ↓hM.g27, ↓hM.g28, ↓hM.g30, ↓hM.g31, ↓hM.g32, ↓hM.g36, ↓hM.g37, ↓hM.g39, ↓hM.g40, ↓hM.g41, ↓hM.g43, ↓hM.g45, ↓hM.g46, ↓zB_c e265, zB_c e265, hj2]
      · have gjk' : (j == k') = false := by simpa using gjk
        cases grc : z_rch A.2.1 k' j with
        | true =>
          rw [grc] at hbj
          refine Or.inl (skip (Or.inl (by unfold z_kpt; rw [grc]; rfl)) ?_)
          unfold f307_50b f307_94
          simp (disch := ((try simp only [true_or, or_true, hM.k, hM.k2391, hM.k2392, hM.k2393, hM.k2394, hM.k2395, hM.k2396, hM.k2397, hM.k2398, hM.k2399, hM.k2400, hM.k2401, hM.k2402, hM.k2403, hM.k2404, hM.k2405, hM.k2406, hM.k2407, hM.k2408, hM.k2409, hM.k2410, hM.k2411, hM.k2412, hM.k2413, hM.k2414, hM.k2415, hM.k2416, hM.k2417, hM.k2418, hM.k2419, hM.k2420, hM.k2421, hM.k2422, hM.k2423, hM.l2391, hM.l2392, hM.l2393, hM.l2394, hM.l2395, hM.l2396, hM.l2397, hM.l2398, hM.l2399, hM.l2400, hM.l2401, hM.l2402, hM.l2403, hM.l2404, hM.l2405, hM.l2406, hM.l2407, hM.l2408, hM.l2409, hM.l2410, hM.l2411, hM.l2412, hM.l2413, hM.l2414, hM.l2415, hM.l2416, hM.l2417, hM.l2418, hM.l2419, hM.l2420, hM.l2421, hM.l2422, hM.l2423]) <;> (try omega))) only [↓reduceIte, ↓z_ite, ↓zR, ↓zB_R, ↓zB_B, ↓zB_ite, ↓zB_gI, ↓zB_pI, ↓zB_pZ, ↓zB_aK, ↓zB_G, ↓zB_lI, ↓zB_lZ, ↓zB_wI, ↓zB_wZ, ↓zB_lIl, ↓zB_wIl, zB_pI, zB_pZ, zB_lI, zB_lZ, zB_wI, zB_wZ, z_addl, z_ladd, z_mull, z_lmul, nI_add, z_subl, Nat.not_lt_zero, z_10, z_01, z_bitc, z_b0, z_b1, ↓zB_Gb, ↓zB_G0, ↓zB_G1, z_eql, z_leq, z_ltl, z_llt, z_eq, z_lt, z_m1lt, hM.k, hM.k2391, hM.k2392, hM.k2393, hM.k2394, hM.k2395, hM.k2396, hM.k2397, hM.k2398, hM.k2399, hM.k2400, hM.k2401, hM.k2402, hM.k2403, hM.k2404, hM.k2405, hM.k2406, hM.k2407, hM.k2408, hM.k2409, hM.k2410, hM.k2411, hM.k2412, hM.k2413, hM.k2414, hM.k2415, hM.k2416, hM.k2417, hM.k2418, hM.k2419, hM.k2420, hM.k2421, hM.k2422, hM.k2423, hM.l2391, hM.l2392, hM.l2393, hM.l2394, hM.l2395, hM.l2396, hM.l2397, hM.l2398, hM.l2399, hM.l2400, hM.l2401, hM.l2402, hM.l2403, hM.l2404, hM.l2405, hM.l2406, hM.l2407, hM.l2408, hM.l2409, hM.l2410, hM.l2411, hM.l2412, hM.l2413, hM.l2414, hM.l2415, hM.l2416, hM.l2417, hM.l2418, hM.l2419, hM.l2420, hM.l2421, hM.l2422, hM.l2423, ↓hM.g1, ↓hM.g5, ↓hM.g6, ↓hM.g7, ↓hM.g8, ↓hM.g9, ↓hM.g10, ↓hM.g11, ↓hM.g12, ↓hM.g13, ↓hM.g14, ↓hM.g16, ↓hM.g17, ↓hM.g18, ↓hM.g19, ↓hM.g21, ↓hM.g22, ↓hM.g23, ↓hM.g24, ↓hM.g25, ↓hM.g27, ↓hM.g28, ↓hM.g30, ↓hM.g31, ↓hM.g32, ↓hM.g36, ↓hM.g37, ↓hM.g39, ↓hM.g40, ↓hM.g41, ↓hM.g43, ↓hM.g45, ↓hM.g46, ↓zB_c e265, zB_c e265, hj2, gjk, hbj, Bool.true_eq_false]
        | false =>
          rw [grc] at hbj
          have gkp : z_kpt A.2.1 k' j = false := by unfold z_kpt; rw [grc, gjk']; rfl
          cases glj : z_liv A.2.1 j with
          | false =>
            have hl0 : ¬ z_hd A.2.1 j 0 = 1 := by
              intro q; unfold z_liv at glj; rw [q] at glj; cases glj
            refine Or.inl (skip (Or.inr glj) ?_)
            unfold f307_50b f307_94
            simp (disch := ((try simp only [true_or, or_true, hM.k, hM.k2391, hM.k2392, hM.k2393, hM.k2394, hM.k2395, hM.k2396, hM.k2397, hM.k2398, hM.k2399, hM.k2400, hM.k2401, hM.k2402, hM.k2403, hM.k2404, hM.k2405, hM.k2406, hM.k2407, hM.k2408, hM.k2409, hM.k2410, hM.k2411, hM.k2412, hM.k2413, hM.k2414, hM.k2415, hM.k2416, hM.k2417, hM.k2418, hM.k2419, hM.k2420, hM.k2421, hM.k2422, hM.k2423, hM.l2391, hM.l2392, hM.l2393, hM.l2394, hM.l2395, hM.l2396, hM.l2397, hM.l2398, hM.l2399, hM.l2400, hM.l2401, hM.l2402, hM.l2403, hM.l2404, hM.l2405, hM.l2406, hM.l2407, hM.l2408, hM.l2409, hM.l2410, hM.l2411, hM.l2412, hM.l2413, hM.l2414, hM.l2415, hM.l2416, hM.l2417, hM.l2418, hM.l2419, hM.l2420, hM.l2421, hM.l2422, hM.l2423]) <;> (try omega))) only [↓reduceIte, ↓z_ite, ↓zR, ↓zB_R, ↓zB_B, ↓zB_ite, ↓zB_gI, ↓zB_pI, ↓zB_pZ, ↓zB_aK, ↓zB_G, ↓zB_lI, ↓zB_lZ, ↓zB_wI, ↓zB_wZ, ↓zB_lIl, ↓zB_wIl, zB_pI, zB_pZ, zB_lI, zB_lZ, zB_wI, zB_wZ, z_addl, z_ladd, z_mull, z_lmul, nI_add, z_subl, Nat.not_lt_zero, z_10, z_01, z_bitc, z_b0, z_b1, ↓zB_Gb, ↓zB_G0, ↓zB_G1, z_eql, z_leq, z_ltl, z_llt, z_eq, z_lt, z_m1lt, hM.k, hM.k2391, hM.k2392, hM.k2393, hM.k2394, hM.k2395, hM.k2396, hM.k2397, hM.k2398, hM.k2399, hM.k2400, hM.k2401, hM.k2402, hM.k2403, hM.k2404, hM.k2405, hM.k2406, hM.k2407, hM.k2408, hM.k2409, hM.k2410, hM.k2411, hM.k2412, hM.k2413, hM.k2414, hM.k2415, hM.k2416, hM.k2417, hM.k2418, hM.k2419, hM.k2420, hM.k2421, hM.k2422, hM.k2423, hM.l2391, hM.l2392, hM.l2393, hM.l2394, hM.l2395, hM.l2396, hM.l2397, hM.l2398, hM.l2399, hM.l2400, hM.l2401, hM.l2402, hM.l2403, hM.l2404, hM.l2405, hM.l2406, hM.l2407, hM.l2408, hM.l2409, hM.l2410, hM.l2411, hM.l2412, hM.l2413, hM.l2414, hM.l2415, hM.l2416, hM.l2417, hM.l2418, hM.l2419, hM.l2420, hM.l2421, hM.l2422, hM.l2423, ↓hM.g1, ↓hM.g5, ↓hM.g6, ↓hM.g7, ↓hM.g8, ↓hM.g9, ↓hM.g10, ↓hM.g11, ↓hM.g12, ↓hM.g13, ↓hM.g14, ↓hM.g16, ↓hM.g17, ↓hM.g18, ↓hM.g19, ↓hM.g21, ↓hM.g22, ↓hM.g23, ↓hM.g24, ↓hM.g25, ↓hM.g27, ↓hM.g28, ↓hM.g30, ↓hM.g31, ↓hM.g32, ↓hM.g36, ↓hM.g37, ↓hM.g39, ↓hM.g40, ↓hM.g41, ↓hM.g43, ↓hM.g45, ↓hM.g46, ↓zB_c e265, zB_c e265, hj2, gjk, hbj, ↓zB_c e0, zB_c e0, hl0]
          | true =>
            have hl0 : z_hd A.2.1 j 0 = 1 := by simpa [z_liv] using glj
            have ec : z_rdC A.2.1 k' (j + 1) = z_rdC A.2.1 k' j + 1 := by
              unfold z_rdC
              rw [z_ct_s, glj, gkp]; rfl
            refine Or.inl ⟨(2390, nI k', nI (z_rdC A.2.1 k' (j + 1)), nI (j + 1)), z_hx m5 2 j 0 0, z_nm A.2.1 - (j + 1), ?_, by omega, j + 1, rfl, hj2, rfl, ?_, g2.trans (z_hx_wK (by omega) (by decide))⟩
            · rw [ec]
              unfold f307_50b f307_94
              simp (disch := ((try simp only [true_or, or_true, hM.k, hM.k2391, hM.k2392, hM.k2393, hM.k2394, hM.k2395, hM.k2396, hM.k2397, hM.k2398, hM.k2399, hM.k2400, hM.k2401, hM.k2402, hM.k2403, hM.k2404, hM.k2405, hM.k2406, hM.k2407, hM.k2408, hM.k2409, hM.k2410, hM.k2411, hM.k2412, hM.k2413, hM.k2414, hM.k2415, hM.k2416, hM.k2417, hM.k2418, hM.k2419, hM.k2420, hM.k2421, hM.k2422, hM.k2423, hM.l2391, hM.l2392, hM.l2393, hM.l2394, hM.l2395, hM.l2396, hM.l2397, hM.l2398, hM.l2399, hM.l2400, hM.l2401, hM.l2402, hM.l2403, hM.l2404, hM.l2405, hM.l2406, hM.l2407, hM.l2408, hM.l2409, hM.l2410, hM.l2411, hM.l2412, hM.l2413, hM.l2414, hM.l2415, hM.l2416, hM.l2417, hM.l2418, hM.l2419, hM.l2420, hM.l2421, hM.l2422, hM.l2423]) <;> (try omega))) only [↓reduceIte, ↓z_ite, ↓zR, ↓zB_R, ↓zB_B, ↓zB_ite, ↓zB_gI, ↓zB_pI, ↓zB_pZ, ↓zB_aK, ↓zB_G, ↓zB_lI, ↓zB_lZ, ↓zB_wI, ↓zB_wZ, ↓zB_lIl, ↓zB_wIl, zB_pI, zB_pZ, zB_lI, zB_lZ, zB_wI, zB_wZ, z_addl, z_ladd, z_mull, z_lmul, nI_add, z_subl, Nat.not_lt_zero, z_10, z_01, z_bitc, z_b0, z_b1, ↓zB_Gb, ↓zB_G0, ↓zB_G1, z_eql, z_leq, z_ltl, z_llt, z_eq, z_lt, z_m1lt, hM.k, hM.k2391, hM.k2392, hM.k2393, hM.k2394, hM.k2395, hM.k2396, hM.k2397, hM.k2398, hM.k2399, hM.k2400, hM.k2401, hM.k2402, hM.k2403, hM.k2404, hM.k2405, hM.k2406, hM.k2407, hM.k2408, hM.k2409, hM.k2410, hM.k2411, hM.k2412, hM.k2413, hM.k2414, hM.k2415, hM.k2416, hM.k2417, hM.k2418, hM.k2419, hM.k2420, hM.k2421, hM.k2422, hM.k2423, hM.l2391, hM.l2392, hM.l2393, hM.l2394, hM.l2395, hM.l2396, hM.l2397, hM.l2398, hM.l2399, hM.l2400, hM.l2401, hM.l2402, hM.l2403, hM.l2404, hM.l2405, hM.l2406, hM.l2407, hM.l2408, hM.l2409, hM.l2410, hM.l2411, hM.l2412, hM.l2413, hM.l2414, hM.l2415, hM.l2416, hM.l2417, hM.l2418, hM.l2419, hM.l2420, hM.l2421, hM.l2422, hM.l2423, ↓hM.g1, ↓hM.g5, ↓hM.g6, ↓hM.g7, ↓hM.g8, ↓hM.g9, ↓hM.g10, ↓hM.g11, ↓hM.g12, ↓hM.g13, ↓hM.g14, ↓hM.g16, ↓hM.g17, ↓hM.g18, ↓hM.g19, ↓hM.g21, ↓hM.g22, ↓hM.g23, ↓hM.g24, ↓hM.g25, ↓hM.g27, ↓hM.g28, ↓hM.g30, ↓hM.g31, ↓hM.g32, ↓hM.g36, ↓hM.g37, ↓hM.g39, ↓hM.g40, ↓hM.g41, ↓hM.g43, ↓hM.g45, ↓hM.g46, ↓zB_c e265, zB_c e265, hj2, gjk, hbj, ↓zB_c e0, zB_c e0, hl0, ↓r197_2_0 (k := j) hM (show j < 24 by omega)]
            · rw [z_mix_s glj]
              have hmh : ∀ w, z_hd (z_mix A.2.1 (z_rdG A.2.1 k') (z_bd A.2.1) j) j w = z_hd A.2.1 j w := fun w => by rw [z_mix_hd, if_neg (by omega)]
              have hmb : z_bd (z_mix A.2.1 (z_rdG A.2.1 k') (z_bd A.2.1) j) j = z_bd A.2.1 j := by rw [z_mix_bd, if_neg (by omega)]
              have := z_mb_hx (v := 0) g1 (j := j) hj2 (w := 0) (by decide)
              rw [hmb] at this
              have eG : z_rdG A.2.1 k' j = fun w' => if w' = 0 then 0 else z_hd (z_mix A.2.1 (z_rdG A.2.1 k') (z_bd A.2.1) j) j w' := by
                have e1 : z_rdG A.2.1 k' j = z_hset (z_hd A.2.1 j) 0 0 := if_neg (by rw [gkp]; decide)
                rw [e1]
                funext w
                show (if w = 0 then 0 else z_hd A.2.1 j w) = (if w = 0 then 0 else z_hd (z_mix A.2.1 (z_rdG A.2.1 k') (z_bd A.2.1) j) j w)
                rw [hmh]
              rw [eG]; exact this
end
