-- deps: 90.81.lc2 90.82.ex0 90.83.ex1 90.84.ex2
/-! nodes taken out: the class looks -/
section
variable {S : z_S} {m : z_m} {p q : Nat} {P : z_Pg} {A : z_A}
/-- a local from outside is SET -/
noncomputable def z_exO (P : z_Pg) (k i : Nat) : Bool := z_any (fun t => z_ou P k i t && z_k (z_bd P k) (i + t) == 6) (z_sz (z_bd P k) i)
theorem z_lc_fr {m' : z_m} {L : Nat} {c : z_Lc} (h : ∀ a, L ≤ a → a ≤ L + 3 → m' a = m a) (hc : z_lc m L c) : z_lc m' L c := by
  unfold z_lc at *
  rw [h L (by omega) (by omega), h (L + 1) (by omega) (by omega), h (L + 2) (by omega) (by omega), h (L + 3) (by omega) (by omega)]
  exact hc
theorem z_bnd_hx (hq : (z_bd P q).length ≤ 192) {x : Int32} (h : z_bnd P q x) : (x = -1 ∧ 0 < z_cnt P q) ∨ (x = -2 ∧ 1 < z_cnt P q) ∨ ∃ j, j + 1 < (z_bd P q).length ∧ x = nI j := by
  rcases h with g | g | ⟨j, h1, _, h2⟩
  · exact Or.inl g
  · exact Or.inr (Or.inl g)
  · exact Or.inr (Or.inr ⟨j, h1, h2⟩)
/-- Extractor.noteLocals -/
theorem f32_sp (hX : z_XS S) (hp : z_PS S p) (lo : 242 ≤ p) (h : z_cp m p P) (ht : z_LT m p P) (hw : z_wf P) (hR : z_RT P) {k i : Nat} (hk : k < z_nm P) (hlk : z_liv P k = true) (hi : i < (z_bd P k).length) : ∃ m', f32 37 p (nI k) (nI i) (z_hp S m) = some (z_b (!z_exO P k i), z_hp S m') ∧ (z_exO P k i = false → z_lc m' 45 (z_clc P k i (z_sz (z_bd P k) i))) ∧ ∀ a, a < 45 ∨ 48 < a → m' a = m a := by
  have h24 := hw.2.2.1
  have hpk := hp.k
  have hbp := hp.B (k := k) (by omega)
  have hbpk := hbp.k
  have hB := hw.2.2.2.2.1 k hk
  have hlen : (z_bd P k).length ≤ 60 := (h.2.2.2 k hk hlk).2.2.1
  have hle : i + z_sz (z_bd P k) i ≤ (z_bd P k).length := z_en_le hB.1 hi
  have h45k : z_kd S 45 = 4 := hX.k45
  have h0 : z_lc (z_up m 45 3 0) 45 [] := ⟨z_up_s _ _ _ _, by decide, fun j hj => absurd hj (Nat.not_lt_zero _)⟩
  have key := z_loopI (f := fun s => f32_19b (s.1) (s.2.1) (s.2.2.1) (s.2.2.2.1) (s.2.2.2.2.1) (s.2.2.2.2.2)) (S := S) (fun N st m' => ∃ t, N = z_sz (z_bd P k) i - t ∧ t ≤ z_sz (z_bd P k) i ∧ st = (37, p, nI k, nI i, z_bi p k, nI (i + t)) ∧ z_lc m' 45 (z_clc P k i t) ∧ (∀ a, a < 45 ∨ 48 < a → m' a = m a) ∧ ∀ u, u < t → (z_ou P k i u && z_k (z_bd P k) (i + u) == 6) = false) (fun r m' => ((r = 0 ∧ z_exO P k i = true) ∨ (r = 1 ∧ z_exO P k i = false ∧ z_lc m' 45 (z_clc P k i (z_sz (z_bd P k) i)))) ∧ ∀ a, a < 45 ∨ 48 < a → m' a = m a) ?_ 1000000 (z_sz (z_bd P k) i) (37, p, nI k, nI i, z_bi p k, nI (i + 0)) (z_up m 45 3 0) ⟨0, rfl, Nat.zero_le _, rfl, h0, fun a ha => z_up_row (by omega), fun u hu => absurd hu (Nat.not_lt_zero _)⟩ (by omega)
  · obtain ⟨r, m', e, g1, g2⟩ := key
    have e2 : f32 37 p (nI k) (nI i) (z_hp S m) = some (r, z_hp S m') := by
      rw [Nat.add_zero] at e
      unfold f32
      have e3 : f32_19 37 p (nI k) (nI i) (z_bi p k) (nI i) (z_hp S (z_up m 45 3 0)) = some (r, z_hp S m') := e
      simp (disch := ((try simp only [true_or, or_true, hX.k37, hp.k, hp.k1, hp.k2, hp.k3, hp.k4, hp.k5, hp.k6, hp.k7, hp.k8, hp.k9, hp.k10, hp.l1, hp.l2, hp.l3, hp.l4, hp.l5, hp.l6, hp.l7, hp.l8, hp.l9, hp.l10, hpk, h45k]) <;> (try omega))) only [↓reduceIte, ↓z_ite, ↓zR, ↓zB_R, ↓zB_B, ↓zB_ite, ↓zB_gI, ↓zB_pI, ↓zB_pZ, ↓zB_aK, ↓zB_G, ↓zB_lI, ↓zB_lZ, ↓zB_wI, ↓zB_wZ, ↓zB_lIl, ↓zB_wIl, zB_pI, zB_pZ, zB_lI, zB_lZ, zB_wI, zB_wZ, z_addl, z_ladd, z_mull, z_lmul, nI_add, z_subl, Nat.not_lt_zero, z_10, z_01, z_bitc, z_b0, z_b1, ↓zB_Gb, ↓zB_G0, ↓zB_G1, z_eql, z_leq, z_ltl, z_llt, z_eq, z_lt, z_m1lt, hX.k37, hp.k, hp.k1, hp.k2, hp.k3, hp.k4, hp.k5, hp.k6, hp.k7, hp.k8, hp.k9, hp.k10, hp.l1, hp.l2, hp.l3, hp.l4, hp.l5, hp.l6, hp.l7, hp.l8, hp.l9, hp.l10, hpk, h45k, ↓hX.g37_0, ↓hX.g37_1, ↓hX.g37_2, ↓hp.g0, ↓hp.g1, ↓hp.g2, ↓hp.g3, ↓hp.g4, ↓hp.g5, ↓hp.g6, ↓hp.g7, ↓hp.g8, ↓hp.g9, ↓hp.gb, hp.gb, h24, hk, e3]
    rcases g1 with ⟨rfl, g1⟩ | ⟨rfl, g1, g3⟩
    · exact ⟨m', (by rw [e2, g1]; rfl), (fun y => by rw [g1] at y; cases y), g2⟩
    · exact ⟨m', (by rw [e2, g1]; rfl), fun _ => g3, g2⟩
  · rintro N st m1 ⟨t, rfl, htl, rfl, g1, g2, g3⟩
    have hcp1 : z_cp m1 p P := z_cp_fr3 hw (fun a x1 x2 => g2 a (by omega)) h
    have hT1 : z_LT m1 p P := z_LT_fr hw (fun a x1 x2 => g2 a (by omega)) ht
    have hb1 := hcp1.2.2.2 k hk hlk
    have hend : m1 (z_bi p k + 4) i = nI (i + z_sz (z_bd P k) i) := (hT1 k hk hlk).1 _ hi
    dsimp only
    rcases Nat.eq_or_lt_of_le htl with ht2 | ht2
    · refine Or.inr ⟨1, m1, ?_, Or.inr ⟨rfl, ?_, by rw [ht2] at g1; exact g1⟩, g2⟩
      · unfold f32_19b f32_78
        rw [ht2]
        simp (disch := ((try simp only [true_or, or_true, hbp.k, hbp.k1, hbp.k2, hbp.k3, hbp.k4, hbp.k5, hbp.k6, hbp.l1, hbp.l2, hbp.l3, hbp.l4, hbp.l5, hbp.l6]) <;> (try omega))) only [↓reduceIte, ↓z_ite, ↓zR, ↓zB_R, ↓zB_B, ↓zB_ite, ↓zB_gI, ↓zB_pI, ↓zB_pZ, ↓zB_aK, ↓zB_G, ↓zB_lI, ↓zB_lZ, ↓zB_wI, ↓zB_wZ, ↓zB_lIl, ↓zB_wIl, zB_pI, zB_pZ, zB_lI, zB_lZ, zB_wI, zB_wZ, z_addl, z_ladd, z_mull, z_lmul, nI_add, z_subl, Nat.not_lt_zero, z_10, z_01, z_bitc, z_b0, z_b1, ↓zB_Gb, ↓zB_G0, ↓zB_G1, z_eql, z_leq, z_ltl, z_llt, z_eq, z_lt, z_m1lt, hbp.k, hbp.k1, hbp.k2, hbp.k3, hbp.k4, hbp.k5, hbp.k6, hbp.l1, hbp.l2, hbp.l3, hbp.l4, hbp.l5, hbp.l6, ↓hbp.g0, ↓hbp.g1, ↓hbp.g2, ↓hbp.g3, ↓hbp.g4, ↓hbp.g5, hi, hend, Nat.lt_irrefl]
      · exact z_any_f.mpr (fun u hu => g3 u (by omega))
    · have hlt : i + t < i + z_sz (z_bd P k) i := by omega
      have hit : i + t < (z_bd P k).length := by omega
      obtain ⟨ek, _, _⟩ := hb1.2.2.2.2 (i + t) hit
      have hBd : ∀ i, i < (z_bd P k).length → m1 (z_bi p k + 6) i = z_Bd P k i := fun i hi => ((hT1 k hk hlk).2 i hi).2
      have e14 := f14_sp hbp hb1 hBd hit (nI i)
      cases ho : z_ou P k i t with
      | false =>
        rw [show z_isO (z_bd P k) (z_Bd P k) (i + t) (nI i) = false from ho] at e14
        refine Or.inl ⟨_, m1, z_sz (z_bd P k) i - (t + 1), ?_, by omega, t + 1, rfl, by omega, rfl, ?_, g2, ?_⟩
        · unfold f32_19b f32_72
          simp (disch := ((try simp only [true_or, or_true, hbp.k, hbp.k1, hbp.k2, hbp.k3, hbp.k4, hbp.k5, hbp.k6, hbp.l1, hbp.l2, hbp.l3, hbp.l4, hbp.l5, hbp.l6, hbpk]) <;> (try omega))) only [↓reduceIte, ↓z_ite, ↓zR, ↓zB_R, ↓zB_B, ↓zB_ite, ↓zB_gI, ↓zB_pI, ↓zB_pZ, ↓zB_aK, ↓zB_G, ↓zB_lI, ↓zB_lZ, ↓zB_wI, ↓zB_wZ, ↓zB_lIl, ↓zB_wIl, zB_pI, zB_pZ, zB_lI, zB_lZ, zB_wI, zB_wZ, z_addl, z_ladd, z_mull, z_lmul, nI_add, z_subl, Nat.not_lt_zero, z_10, z_01, z_bitc, z_b0, z_b1, ↓zB_Gb, ↓zB_G0, ↓zB_G1, z_eql, z_leq, z_ltl, z_llt, z_eq, z_lt, z_m1lt, hbp.k, hbp.k1, hbp.k2, hbp.k3, hbp.k4, hbp.k5, hbp.k6, hbp.l1, hbp.l2, hbp.l3, hbp.l4, hbp.l5, hbp.l6, hbpk, ↓hbp.g0, ↓hbp.g1, ↓hbp.g2, ↓hbp.g3, ↓hbp.g4, ↓hbp.g5, hi, hend, hlt, ↓zB_c e14, zB_c e14]
          rfl
        · unfold z_clc; rw [ho, if_neg (by decide)]; exact g1
        · intro u hu
          rcases Nat.lt_or_ge u t with w | w
          · exact g3 u w
          · obtain rfl : u = t := by omega
            rw [ho]; rfl
      | true =>
        rw [show z_isO (z_bd P k) (z_Bd P k) (i + t) (nI i) = true from ho] at e14
        by_cases g6 : z_k (z_bd P k) (i + t) = 6
        · refine Or.inr ⟨0, m1, ?_, Or.inl ⟨rfl, z_any_iff.mpr ⟨t, ht2, by rw [ho, g6]; rfl⟩⟩, g2⟩
          unfold f32_19b f32_58
          rw [g6] at ek
          simp (disch := ((try simp only [true_or, or_true, hbp.k, hbp.k1, hbp.k2, hbp.k3, hbp.k4, hbp.k5, hbp.k6, hbp.l1, hbp.l2, hbp.l3, hbp.l4, hbp.l5, hbp.l6, hbpk]) <;> (try omega))) only [↓reduceIte, ↓z_ite, ↓zR, ↓zB_R, ↓zB_B, ↓zB_ite, ↓zB_gI, ↓zB_pI, ↓zB_pZ, ↓zB_aK, ↓zB_G, ↓zB_lI, ↓zB_lZ, ↓zB_wI, ↓zB_wZ, ↓zB_lIl, ↓zB_wIl, zB_pI, zB_pZ, zB_lI, zB_lZ, zB_wI, zB_wZ, z_addl, z_ladd, z_mull, z_lmul, nI_add, z_subl, Nat.not_lt_zero, z_10, z_01, z_bitc, z_b0, z_b1, ↓zB_Gb, ↓zB_G0, ↓zB_G1, z_eql, z_leq, z_ltl, z_llt, z_eq, z_lt, z_m1lt, hbp.k, hbp.k1, hbp.k2, hbp.k3, hbp.k4, hbp.k5, hbp.k6, hbp.l1, hbp.l2, hbp.l3, hbp.l4, hbp.l5, hbp.l6, hbpk, ↓hbp.g0, ↓hbp.g1, ↓hbp.g2, ↓hbp.g3, ↓hbp.g4, ↓hbp.g5, hi, hend, hlt, hit, ↓zB_c e14, zB_c e14, Bool.true_eq_false, ek]
        · obtain ⟨_, o1, _⟩ := z_oub hw hk (by omega) (hR k hk hlk) hit (y := nI i) ho
          obtain ⟨m2, e41, c1, c2⟩ := f41_45 hX hp lo hcp1 hT1 hw hk hlk hit (z_bnd_hx (by omega) o1) g1
          refine Or.inl ⟨_, m2, z_sz (z_bd P k) i - (t + 1), ?_, by omega, t + 1, rfl, by omega, rfl, ?_, fun a ha => (c2 a ha).trans (g2 a ha), ?_⟩
          · unfold f32_19b f32_72
            simp (disch := ((try simp only [true_or, or_true, hbp.k, hbp.k1, hbp.k2, hbp.k3, hbp.k4, hbp.k5, hbp.k6, hbp.l1, hbp.l2, hbp.l3, hbp.l4, hbp.l5, hbp.l6, hX.k37, hbpk, h45k]) <;> (try omega))) only [↓reduceIte, ↓z_ite, ↓zR, ↓zB_R, ↓zB_B, ↓zB_ite, ↓zB_gI, ↓zB_pI, ↓zB_pZ, ↓zB_aK, ↓zB_G, ↓zB_lI, ↓zB_lZ, ↓zB_wI, ↓zB_wZ, ↓zB_lIl, ↓zB_wIl, zB_pI, zB_pZ, zB_lI, zB_lZ, zB_wI, zB_wZ, z_addl, z_ladd, z_mull, z_lmul, nI_add, z_subl, Nat.not_lt_zero, z_10, z_01, z_bitc, z_b0, z_b1, ↓zB_Gb, ↓zB_G0, ↓zB_G1, z_eql, z_leq, z_ltl, z_llt, z_eq, z_lt, z_m1lt, hbp.k, hbp.k1, hbp.k2, hbp.k3, hbp.k4, hbp.k5, hbp.k6, hbp.l1, hbp.l2, hbp.l3, hbp.l4, hbp.l5, hbp.l6, hX.k37, hbpk, h45k, ↓hbp.g0, ↓hbp.g1, ↓hbp.g2, ↓hbp.g3, ↓hbp.g4, ↓hbp.g5, ↓hX.g37_0, ↓hX.g37_1, ↓hX.g37_2, hi, hend, hlt, hit, ↓zB_c e14, zB_c e14, Bool.true_eq_false, ek, g6, ↓zB_c e41, zB_c e41]
            rfl
          · unfold z_clc; rw [ho, if_pos rfl]; exact c1
          · intro u hu
            rcases Nat.lt_or_ge u t with w | w
            · exact g3 u w
            · obtain rfl : u = t := by omega
              rw [ho, show (z_k (z_bd P k) (i + u) == 6) = false by simpa using g6]; rfl
/-- Extractor.isLike -/
theorem f34_sp (hX : z_XS S) (hp : z_PS S p) (lo : 242 ≤ p) (h : z_cp m p P) (ht : z_LT m p P) (hw : z_wf P) (hR : z_RT P) {k i q r : Nat} (hk : k < z_nm P) (hlk : z_liv P k = true) (hi : i < (z_bd P k).length) (hq : q < z_nm P) (hlq : z_liv P q = true) (hr : r < (z_bd P q).length) {c : z_Lc} (hc : z_lc m 45 c) : ∃ m', f34 37 p (nI k) (nI i) (nI q) (nI r) (z_hp S m) = some (z_b (z_lk P k i c q r).isSome, z_hp S m') ∧ (∀ d, z_lk P k i c q r = some d → z_lc m' 49 d) ∧ ∀ a, a < 49 ∨ 52 < a → m' a = m a := by
  have h24 := hw.2.2.1
  have hpk := hp.k
  have hb := hp.B (k := k) (by omega)
  have hbk := hb.k
  have hb' := hp.B (k := q) (by omega)
  have hbk' := hb'.k
  have hB := hw.2.2.2.2.1 k hk
  have hB' := hw.2.2.2.2.1 q hq
  have hlen : (z_bd P k).length ≤ 60 := (h.2.2.2 k hk hlk).2.2.1
  have hlen' : (z_bd P q).length ≤ 60 := (h.2.2.2 q hq hlq).2.2.1
  have hle : i + z_sz (z_bd P k) i ≤ (z_bd P k).length := z_en_le hB.1 hi
  have hle' : r + z_sz (z_bd P q) r ≤ (z_bd P q).length := z_en_le hB'.1 hr
  have h45k : z_kd S 45 = 4 := hX.k45
  have h49k : z_kd S 49 = 4 := hX.k49
  have h0 : z_lc (z_up m 49 3 0) 49 [] := ⟨z_up_s _ _ _ _, by decide, fun j hj => absurd hj (Nat.not_lt_zero _)⟩
  have f0 : ∀ a, a < 49 ∨ 52 < a → z_up m 49 3 0 a = m a := fun a ha => z_up_row (by omega)
  have hend : m (z_bi p k + 4) i = nI (i + z_sz (z_bd P k) i) := (ht k hk hlk).1 _ hi
  have hend' : m (z_bi p q + 4) r = nI (r + z_sz (z_bd P q) r) := (ht q hq hlq).1 _ hr
  have hend'' : z_up m 49 3 0 (z_bi p q + 4) r = nI (r + z_sz (z_bd P q) r) := by rw [f0 _ (by unfold z_bi; omega)]; exact hend'
  have s1 : nI (i + z_sz (z_bd P k) i) - nI i = nI (z_sz (z_bd P k) i) := by rw [pk_sub (by omega), show i + z_sz (z_bd P k) i - i = z_sz (z_bd P k) i by omega]
  have s2 : nI (r + z_sz (z_bd P q) r) - nI r = nI (z_sz (z_bd P q) r) := by rw [pk_sub (by omega), show r + z_sz (z_bd P q) r - r = z_sz (z_bd P q) r by omega]
  by_cases gs : z_sz (z_bd P q) r = z_sz (z_bd P k) i
  · have key := z_loopI (f := fun s => f34_57b (s.1) (s.2.1) (s.2.2.1) (s.2.2.2.1) (s.2.2.2.2.1) (s.2.2.2.2.2.1) (s.2.2.2.2.2.2.1) (s.2.2.2.2.2.2.2.1) (s.2.2.2.2.2.2.2.2)) (S := S) (fun N st m' => ∃ t d, N = z_sz (z_bd P k) i - t ∧ t ≤ z_sz (z_bd P k) i ∧ st = (37, p, nI i, nI q, nI r, z_bi p k, z_bi p q, nI (z_sz (z_bd P k) i), nI t) ∧ z_lks P k i c q r t = some d ∧ z_lc m' 49 d ∧ (∀ a, a < 49 ∨ 52 < a → m' a = m a)) (fun v m' => (v = z_b (z_lk P k i c q r).isSome ∧ ∀ d, z_lk P k i c q r = some d → z_lc m' 49 d) ∧ ∀ a, a < 49 ∨ 52 < a → m' a = m a) ?_ 1000000 (z_sz (z_bd P k) i) (37, p, nI i, nI q, nI r, z_bi p k, z_bi p q, nI (z_sz (z_bd P k) i), 0) (z_up m 49 3 0) ⟨0, [], rfl, Nat.zero_le _, rfl, rfl, h0, f0⟩ (by omega)
    · obtain ⟨v, m', e, ⟨g1, g2⟩, g3⟩ := key
      refine ⟨m', ?_, g2, g3⟩
      rw [← g1]
      rw [gs] at s2
      unfold f34
      have e3 : f34_57 37 p (nI i) (nI q) (nI r) (z_bi p k) (z_bi p q) (nI (z_sz (z_bd P k) i)) 0 (z_hp S (z_up m 49 3 0)) = some (v, z_hp S m') := e
      simp (disch := ((try simp only [true_or, or_true, hX.k37, hp.k, hp.k1, hp.k2, hp.k3, hp.k4, hp.k5, hp.k6, hp.k7, hp.k8, hp.k9, hp.k10, hp.l1, hp.l2, hp.l3, hp.l4, hp.l5, hp.l6, hp.l7, hp.l8, hp.l9, hp.l10, hb.k, hb.k1, hb.k2, hb.k3, hb.k4, hb.k5, hb.k6, hb.l1, hb.l2, hb.l3, hb.l4, hb.l5, hb.l6, hb'.k, hb'.k1, hb'.k2, hb'.k3, hb'.k4, hb'.k5, hb'.k6, hb'.l1, hb'.l2, hb'.l3, hb'.l4, hb'.l5, hb'.l6, hpk, h49k]) <;> (try omega))) only [↓reduceIte, ↓z_ite, ↓zR, ↓zB_R, ↓zB_B, ↓zB_ite, ↓zB_gI, ↓zB_pI, ↓zB_pZ, ↓zB_aK, ↓zB_G, ↓zB_lI, ↓zB_lZ, ↓zB_wI, ↓zB_wZ, ↓zB_lIl, ↓zB_wIl, zB_pI, zB_pZ, zB_lI, zB_lZ, zB_wI, zB_wZ, z_addl, z_ladd, z_mull, z_lmul, nI_add, z_subl, Nat.not_lt_zero, z_10, z_01, z_bitc, z_b0, z_b1, ↓zB_Gb, ↓zB_G0, ↓zB_G1, z_eql, z_leq, z_ltl, z_llt, z_eq, z_lt, z_m1lt, hX.k37, hp.k, hp.k1, hp.k2, hp.k3, hp.k4, hp.k5, hp.k6, hp.k7, hp.k8, hp.k9, hp.k10, hp.l1, hp.l2, hp.l3, hp.l4, hp.l5, hp.l6, hp.l7, hp.l8, hp.l9, hp.l10, hb.k, hb.k1, hb.k2, hb.k3, hb.k4, hb.k5, hb.k6, hb.l1, hb.l2, hb.l3, hb.l4, hb.l5, hb.l6, hb'.k, hb'.k1, hb'.k2, hb'.k3, hb'.k4, hb'.k5, hb'.k6, hb'.l1, hb'.l2, hb'.l3, hb'.l4, hb'.l5, hb'.l6, hpk, h49k, ↓hX.g37_0, ↓hX.g37_1, ↓hX.g37_2, ↓hp.g0, ↓hp.g1, ↓hp.g2, ↓hp.g3, ↓hp.g4, ↓hp.g5, ↓hp.g6, ↓hp.g7, ↓hp.g8, ↓hp.g9, ↓hp.gb, hp.gb, ↓hb.g0, ↓hb.g1, ↓hb.g2, ↓hb.g3, ↓hb.g4, ↓hb.g5, ↓hb'.g0, ↓hb'.g1, ↓hb'.g2, ↓hb'.g3, ↓hb'.g4, ↓hb'.g5, h24, hk, hq, hi, hr, hend, hend'', s1, s2, gs, e3]
    · rintro N st m1 ⟨t, d, rfl, htl, rfl, g0, g1, g2⟩
      have hcp1 : z_cp m1 p P := z_cp_fr3 hw (fun a x1 x2 => g2 a (by omega)) h
      have hT1 : z_LT m1 p P := z_LT_fr hw (fun a x1 x2 => g2 a (by omega)) ht
      have hc1 : z_lc m1 45 c := z_lc_fr (fun a x1 x2 => g2 a (by omega)) hc
      have hb1 := hcp1.2.2.2 k hk hlk
      have hb2 := hcp1.2.2.2 q hq hlq
      have hs : ∀ u, u < t → ∃ d, z_lks P k i c q r u = some d := fun u hu => by
        have : ∀ n, (z_lks P k i c q r (u + n)).isSome = true → (z_lks P k i c q r u).isSome = true := by
          intro n
          induction n with
          | zero => exact id
          | succ n ih =>
            intro g
            refine ih ?_
            rw [← Nat.add_assoc] at g
            unfold z_lks at g
            cases hx : z_lks P k i c q r (u + n) with
            | none => rw [hx] at g; cases g
            | some d => rfl
        have := this (t - u) (by rw [show u + (t - u) = t by omega, g0]; rfl)
        exact Option.isSome_iff_exists.mp this
      dsimp only
      rcases Nat.eq_or_lt_of_le htl with ht2 | ht2
      · have e42 := f42_sp hX g1 hc1
        rw [ht2] at g0
        have elk : z_lk P k i c q r = if z_lty d c = true then some d else none := by
          unfold z_lk; rw [if_pos gs, g0]
        refine Or.inr ⟨z_b (z_lty d c), m1, ?_, ⟨?_, ?_⟩, g2⟩
        · unfold f34_57b f34_225
          rw [ht2]
          simp (disch := ((try simp only [true_or, or_true, hX.k37, h49k, h45k]) <;> (try omega))) only [↓reduceIte, ↓z_ite, ↓zR, ↓zB_R, ↓zB_B, ↓zB_ite, ↓zB_gI, ↓zB_pI, ↓zB_pZ, ↓zB_aK, ↓zB_G, ↓zB_lI, ↓zB_lZ, ↓zB_wI, ↓zB_wZ, ↓zB_lIl, ↓zB_wIl, zB_pI, zB_pZ, zB_lI, zB_lZ, zB_wI, zB_wZ, z_addl, z_ladd, z_mull, z_lmul, nI_add, z_subl, Nat.not_lt_zero, z_10, z_01, z_bitc, z_b0, z_b1, ↓zB_Gb, ↓zB_G0, ↓zB_G1, z_eql, z_leq, z_ltl, z_llt, z_eq, z_lt, z_m1lt, hX.k37, h49k, h45k, ↓hX.g37_0, ↓hX.g37_1, ↓hX.g37_2, Nat.lt_irrefl, ↓zB_c e42, zB_c e42]
        · rw [elk]; cases z_lty d c <;> rfl
        · intro d' hd'
          rw [elk] at hd'
          by_cases y : z_lty d c = true
          · rw [if_pos y] at hd'
            obtain rfl := Option.some.inj hd'
            exact g1
          · rw [if_neg y] at hd'; cases hd'
      · have hit : i + t < (z_bd P k).length := by omega
        have hrt : r + t < (z_bd P q).length := by omega
        obtain ⟨ek, ev, ep⟩ := hb1.2.2.2.2 (i + t) hit
        obtain ⟨ek', ev', ep'⟩ := hb2.2.2.2.2 (r + t) hrt
        have hBd : ∀ i, i < (z_bd P k).length → m1 (z_bi p k + 6) i = z_Bd P k i := fun i hi => ((hT1 k hk hlk).2 i hi).2
        have hBd' : ∀ i, i < (z_bd P q).length → m1 (z_bi p q + 6) i = z_Bd P q i := fun i hi => ((hT1 q hq hlq).2 i hi).2
        have eB := hBd (i + t) hit
        have e14 := f14_sp hb hb1 hBd hit (nI i)
        have e14' := f14_sp hb' hb2 hBd' hrt (nI r)
        have hpl := z_p_lt hB.1 hit
        have hpl' := z_p_lt hB'.1 hrt
        have bad : z_lkc P k i c q r t d = false → z_lk P k i c q r = none := fun y => by
          have e1 : z_lks P k i c q r (t + 1) = none := by
            unfold z_lks
            rw [g0]; dsimp only; rw [y, if_neg (by decide)]
          have e2 : ∀ n, z_lks P k i c q r (t + 1 + n) = none := by
            intro n
            induction n with
            | zero => exact e1
            | succ n ih =>
              rw [← Nat.add_assoc]
              unfold z_lks
              rw [ih]
          have e3 := e2 (z_sz (z_bd P k) i - (t + 1))
          rw [show t + 1 + (z_sz (z_bd P k) i - (t + 1)) = z_sz (z_bd P k) i by omega] at e3
          unfold z_lk; rw [if_pos gs, e3]
        have stop : ∀ m2, z_lkc P k i c q r t d = false → (∀ a, a < 49 ∨ 52 < a → m2 a = m1 a) → ((0 : Int32) = z_b (z_lk P k i c q r).isSome ∧ ∀ d, z_lk P k i c q r = some d → z_lc m2 49 d) ∧ ∀ a, a < 49 ∨ 52 < a → m2 a = m a := fun m2 y F => ⟨⟨by rw [bad y]; rfl, fun d' hd' => by rw [bad y] at hd'; cases hd'⟩, fun a ha => (F a ha).trans (g2 a ha)⟩
        have cont : ∀ m2, z_lkc P k i c q r t d = true → z_lc m2 49 (if z_ou P k i t = true then z_lad P q (r + t) d else d) → (∀ a, a < 49 ∨ 52 < a → m2 a = m1 a) → ∃ t' d', z_sz (z_bd P k) i - (t + 1) = z_sz (z_bd P k) i - t' ∧ t' ≤ z_sz (z_bd P k) i ∧ ((37, p, nI i, nI q, nI r, z_bi p k, z_bi p q, nI (z_sz (z_bd P k) i), nI (t + 1)) : Nat × Nat × Int32 × Int32 × Int32 × Nat × Nat × Int32 × Int32) = (37, p, nI i, nI q, nI r, z_bi p k, z_bi p q, nI (z_sz (z_bd P k) i), nI t') ∧ z_lks P k i c q r t' = some d' ∧ z_lc m2 49 d' ∧ (∀ a, a < 49 ∨ 52 < a → m2 a = m a) := fun m2 y hd F => ⟨t + 1, _, rfl, by omega, rfl, by
          show (match z_lks P k i c q r t with | none => none | some d => if z_lkc P k i c q r t d = true then some (if z_ou P k i t = true then z_lad P q (r + t) d else d) else none) = _
          rw [g0]; dsimp only; rw [if_pos y], hd, fun a ha => (F a ha).trans (g2 a ha)⟩
        have pkk : nI i + nI t = nI (i + t) := nI_add i t
        have pkk' : nI r + nI t = nI (r + t) := nI_add r t
        have htz : t < z_sz (z_bd P k) i := ht2
        by_cases c1 : z_k (z_bd P k) (i + t) = z_k (z_bd P q) (r + t)
        · by_cases c2 : z_p (z_bd P k) (i + t) = z_p (z_bd P q) (r + t)
          · cases ho : z_ou P k i t with
            | false =>
              rw [show z_isO (z_bd P k) (z_Bd P k) (i + t) (nI i) = false from ho] at e14
              cases ho' : z_ou P q r t with
              | true =>
                rw [show z_isO (z_bd P q) (z_Bd P q) (r + t) (nI r) = true from ho'] at e14'
                refine Or.inr ⟨0, m1, ?_, stop m1 (by unfold z_lkc; rw [ho, ho']; simp) (fun _ _ => rfl)⟩
                unfold f34_57b f34_141
                simp (disch := ((try simp only [true_or, or_true, hb.k, hb.k1, hb.k2, hb.k3, hb.k4, hb.k5, hb.k6, hb.l1, hb.l2, hb.l3, hb.l4, hb.l5, hb.l6, hb'.k, hb'.k1, hb'.k2, hb'.k3, hb'.k4, hb'.k5, hb'.k6, hb'.l1, hb'.l2, hb'.l3, hb'.l4, hb'.l5, hb'.l6, hbk, hbk']) <;> (try omega))) only [↓reduceIte, ↓z_ite, ↓zR, ↓zB_R, ↓zB_B, ↓zB_ite, ↓zB_gI, ↓zB_pI, ↓zB_pZ, ↓zB_aK, ↓zB_G, ↓zB_lI, ↓zB_lZ, ↓zB_wI, ↓zB_wZ, ↓zB_lIl, ↓zB_wIl, zB_pI, zB_pZ, zB_lI, zB_lZ, zB_wI, zB_wZ, z_addl, z_ladd, z_mull, z_lmul, nI_add, z_subl, Nat.not_lt_zero, z_10, z_01, z_bitc, z_b0, z_b1, ↓zB_Gb, ↓zB_G0, ↓zB_G1, z_eql, z_leq, z_ltl, z_llt, z_eq, z_lt, z_m1lt, hb.k, hb.k1, hb.k2, hb.k3, hb.k4, hb.k5, hb.k6, hb.l1, hb.l2, hb.l3, hb.l4, hb.l5, hb.l6, hb'.k, hb'.k1, hb'.k2, hb'.k3, hb'.k4, hb'.k5, hb'.k6, hb'.l1, hb'.l2, hb'.l3, hb'.l4, hb'.l5, hb'.l6, hbk, hbk', ↓hb.g0, ↓hb.g1, ↓hb.g2, ↓hb.g3, ↓hb.g4, ↓hb.g5, ↓hb'.g0, ↓hb'.g1, ↓hb'.g2, ↓hb'.g3, ↓hb'.g4, ↓hb'.g5, htz, pkk, pkk', hit, hrt, ek, ek', ep, ep', c1, c2, ↓zB_c e14, zB_c e14, ↓zB_c e14', zB_c e14']
                rfl
              | false =>
                rw [show z_isO (z_bd P q) (z_Bd P q) (r + t) (nI r) = false from ho'] at e14'
                by_cases c3 : z_v (z_bd P k) (i + t) = z_v (z_bd P q) (r + t)
                · refine Or.inl ⟨_, m1, z_sz (z_bd P k) i - (t + 1), ?_, by omega, cont m1 (by unfold z_lkc; rw [ho, ho', c1, c2, c3]; simp) (by rw [ho, if_neg (by decide)]; exact g1) (fun _ _ => rfl)⟩
                  unfold f34_57b f34_210
                  simp (disch := ((try simp only [true_or, or_true, hb.k, hb.k1, hb.k2, hb.k3, hb.k4, hb.k5, hb.k6, hb.l1, hb.l2, hb.l3, hb.l4, hb.l5, hb.l6, hb'.k, hb'.k1, hb'.k2, hb'.k3, hb'.k4, hb'.k5, hb'.k6, hb'.l1, hb'.l2, hb'.l3, hb'.l4, hb'.l5, hb'.l6, hbk, hbk']) <;> (try omega))) only [↓reduceIte, ↓z_ite, ↓zR, ↓zB_R, ↓zB_B, ↓zB_ite, ↓zB_gI, ↓zB_pI, ↓zB_pZ, ↓zB_aK, ↓zB_G, ↓zB_lI, ↓zB_lZ, ↓zB_wI, ↓zB_wZ, ↓zB_lIl, ↓zB_wIl, zB_pI, zB_pZ, zB_lI, zB_lZ, zB_wI, zB_wZ, z_addl, z_ladd, z_mull, z_lmul, nI_add, z_subl, Nat.not_lt_zero, z_10, z_01, z_bitc, z_b0, z_b1, ↓zB_Gb, ↓zB_G0, ↓zB_G1, z_eql, z_leq, z_ltl, z_llt, z_eq, z_lt, z_m1lt, hb.k, hb.k1, hb.k2, hb.k3, hb.k4, hb.k5, hb.k6, hb.l1, hb.l2, hb.l3, hb.l4, hb.l5, hb.l6, hb'.k, hb'.k1, hb'.k2, hb'.k3, hb'.k4, hb'.k5, hb'.k6, hb'.l1, hb'.l2, hb'.l3, hb'.l4, hb'.l5, hb'.l6, hbk, hbk', ↓hb.g0, ↓hb.g1, ↓hb.g2, ↓hb.g3, ↓hb.g4, ↓hb.g5, ↓hb'.g0, ↓hb'.g1, ↓hb'.g2, ↓hb'.g3, ↓hb'.g4, ↓hb'.g5, htz, pkk, pkk', hit, hrt, ek, ek', ep, ep', c1, c2, ↓zB_c e14, zB_c e14, ↓zB_c e14', zB_c e14', ev, ev', c3]
                · refine Or.inr ⟨0, m1, ?_, stop m1 (by unfold z_lkc; rw [ho, ho']; simp [c3]) (fun _ _ => rfl)⟩
                  unfold f34_57b f34_210 f34_217
                  simp (disch := ((try simp only [true_or, or_true, hb.k, hb.k1, hb.k2, hb.k3, hb.k4, hb.k5, hb.k6, hb.l1, hb.l2, hb.l3, hb.l4, hb.l5, hb.l6, hb'.k, hb'.k1, hb'.k2, hb'.k3, hb'.k4, hb'.k5, hb'.k6, hb'.l1, hb'.l2, hb'.l3, hb'.l4, hb'.l5, hb'.l6, hbk, hbk']) <;> (try omega))) only [↓reduceIte, ↓z_ite, ↓zR, ↓zB_R, ↓zB_B, ↓zB_ite, ↓zB_gI, ↓zB_pI, ↓zB_pZ, ↓zB_aK, ↓zB_G, ↓zB_lI, ↓zB_lZ, ↓zB_wI, ↓zB_wZ, ↓zB_lIl, ↓zB_wIl, zB_pI, zB_pZ, zB_lI, zB_lZ, zB_wI, zB_wZ, z_addl, z_ladd, z_mull, z_lmul, nI_add, z_subl, Nat.not_lt_zero, z_10, z_01, z_bitc, z_b0, z_b1, ↓zB_Gb, ↓zB_G0, ↓zB_G1, z_eql, z_leq, z_ltl, z_llt, z_eq, z_lt, z_m1lt, hb.k, hb.k1, hb.k2, hb.k3, hb.k4, hb.k5, hb.k6, hb.l1, hb.l2, hb.l3, hb.l4, hb.l5, hb.l6, hb'.k, hb'.k1, hb'.k2, hb'.k3, hb'.k4, hb'.k5, hb'.k6, hb'.l1, hb'.l2, hb'.l3, hb'.l4, hb'.l5, hb'.l6, hbk, hbk', ↓hb.g0, ↓hb.g1, ↓hb.g2, ↓hb.g3, ↓hb.g4, ↓hb.g5, ↓hb'.g0, ↓hb'.g1, ↓hb'.g2, ↓hb'.g3, ↓hb'.g4, ↓hb'.g5, htz, pkk, pkk', hit, hrt, ek, ek', ep, ep', c1, c2, ↓zB_c e14, zB_c e14, ↓zB_c e14', zB_c e14', ev, ev', c3]
            | true =>
              rw [show z_isO (z_bd P k) (z_Bd P k) (i + t) (nI i) = true from ho] at e14
              cases ho' : z_ou P q r t with
              | false =>
                rw [show z_isO (z_bd P q) (z_Bd P q) (r + t) (nI r) = false from ho'] at e14'
                refine Or.inr ⟨0, m1, ?_, stop m1 (by unfold z_lkc; rw [ho, ho']; simp) (fun _ _ => rfl)⟩
                unfold f34_57b f34_141
                simp (disch := ((try simp only [true_or, or_true, hb.k, hb.k1, hb.k2, hb.k3, hb.k4, hb.k5, hb.k6, hb.l1, hb.l2, hb.l3, hb.l4, hb.l5, hb.l6, hb'.k, hb'.k1, hb'.k2, hb'.k3, hb'.k4, hb'.k5, hb'.k6, hb'.l1, hb'.l2, hb'.l3, hb'.l4, hb'.l5, hb'.l6, hbk, hbk']) <;> (try omega))) only [↓reduceIte, ↓z_ite, ↓zR, ↓zB_R, ↓zB_B, ↓zB_ite, ↓zB_gI, ↓zB_pI, ↓zB_pZ, ↓zB_aK, ↓zB_G, ↓zB_lI, ↓zB_lZ, ↓zB_wI, ↓zB_wZ, ↓zB_lIl, ↓zB_wIl, zB_pI, zB_pZ, zB_lI, zB_lZ, zB_wI, zB_wZ, z_addl, z_ladd, z_mull, z_lmul, nI_add, z_subl, Nat.not_lt_zero, z_10, z_01, z_bitc, z_b0, z_b1, ↓zB_Gb, ↓zB_G0, ↓zB_G1, z_eql, z_leq, z_ltl, z_llt, z_eq, z_lt, z_m1lt, hb.k, hb.k1, hb.k2, hb.k3, hb.k4, hb.k5, hb.k6, hb.l1, hb.l2, hb.l3, hb.l4, hb.l5, hb.l6, hb'.k, hb'.k1, hb'.k2, hb'.k3, hb'.k4, hb'.k5, hb'.k6, hb'.l1, hb'.l2, hb'.l3, hb'.l4, hb'.l5, hb'.l6, hbk, hbk', ↓hb.g0, ↓hb.g1, ↓hb.g2, ↓hb.g3, ↓hb.g4, ↓hb.g5, ↓hb'.g0, ↓hb'.g1, ↓hb'.g2, ↓hb'.g3, ↓hb'.g4, ↓hb'.g5, htz, pkk, pkk', hit, hrt, ek, ek', ep, ep', c1, c2, ↓zB_c e14, zB_c e14, ↓zB_c e14', zB_c e14']
                rfl
              | true =>
                rw [show z_isO (z_bd P q) (z_Bd P q) (r + t) (nI r) = true from ho'] at e14'
                obtain ⟨_, o1, _⟩ := z_oub hw hq (by omega) (hR q hq hlq) hrt (y := nI r) ho'
                have e40 := f40_45 hX hc1 (z_Bd P k (i + t))
                obtain ⟨m2, e41, d1, d2⟩ := f41_49 hX hp lo hcp1 hT1 hw hq hlq hrt (z_bnd_hx (by omega) o1) g1
                by_cases c3 : z_lix c (z_Bd P k (i + t)) = z_lan P q (r + t) d
                · refine Or.inl ⟨_, m2, z_sz (z_bd P k) i - (t + 1), ?_, by omega, cont m2 (by unfold z_lkc; rw [ho, ho', c1, c2, c3]; simp) (by rw [ho, if_pos rfl]; exact d1) d2⟩
                  unfold f34_57b f34_210
                  simp (disch := ((try simp only [true_or, or_true, hb.k, hb.k1, hb.k2, hb.k3, hb.k4, hb.k5, hb.k6, hb.l1, hb.l2, hb.l3, hb.l4, hb.l5, hb.l6, hb'.k, hb'.k1, hb'.k2, hb'.k3, hb'.k4, hb'.k5, hb'.k6, hb'.l1, hb'.l2, hb'.l3, hb'.l4, hb'.l5, hb'.l6, hX.k37, hbk, hbk', h45k, h49k]) <;> (try omega))) only [↓reduceIte, ↓z_ite, ↓zR, ↓zB_R, ↓zB_B, ↓zB_ite, ↓zB_gI, ↓zB_pI, ↓zB_pZ, ↓zB_aK, ↓zB_G, ↓zB_lI, ↓zB_lZ, ↓zB_wI, ↓zB_wZ, ↓zB_lIl, ↓zB_wIl, zB_pI, zB_pZ, zB_lI, zB_lZ, zB_wI, zB_wZ, z_addl, z_ladd, z_mull, z_lmul, nI_add, z_subl, Nat.not_lt_zero, z_10, z_01, z_bitc, z_b0, z_b1, ↓zB_Gb, ↓zB_G0, ↓zB_G1, z_eql, z_leq, z_ltl, z_llt, z_eq, z_lt, z_m1lt, hb.k, hb.k1, hb.k2, hb.k3, hb.k4, hb.k5, hb.k6, hb.l1, hb.l2, hb.l3, hb.l4, hb.l5, hb.l6, hb'.k, hb'.k1, hb'.k2, hb'.k3, hb'.k4, hb'.k5, hb'.k6, hb'.l1, hb'.l2, hb'.l3, hb'.l4, hb'.l5, hb'.l6, hX.k37, hbk, hbk', h45k, h49k, ↓hb.g0, ↓hb.g1, ↓hb.g2, ↓hb.g3, ↓hb.g4, ↓hb.g5, ↓hb'.g0, ↓hb'.g1, ↓hb'.g2, ↓hb'.g3, ↓hb'.g4, ↓hb'.g5, ↓hX.g37_0, ↓hX.g37_1, ↓hX.g37_2, htz, pkk, pkk', hit, hrt, ek, ek', ep, ep', c1, c2, ↓zB_c e14, zB_c e14, ↓zB_c e14', zB_c e14', eB, ↓zB_c e40, zB_c e40, ↓zB_c e41, zB_c e41, c3, Bool.true_eq_false]
                · refine Or.inr ⟨0, m2, ?_, stop m2 (by unfold z_lkc; rw [ho, ho']; simp [c3]) d2⟩
                  unfold f34_57b f34_210 f34_217
                  simp (disch := ((try simp only [true_or, or_true, hb.k, hb.k1, hb.k2, hb.k3, hb.k4, hb.k5, hb.k6, hb.l1, hb.l2, hb.l3, hb.l4, hb.l5, hb.l6, hb'.k, hb'.k1, hb'.k2, hb'.k3, hb'.k4, hb'.k5, hb'.k6, hb'.l1, hb'.l2, hb'.l3, hb'.l4, hb'.l5, hb'.l6, hX.k37, hbk, hbk', h45k, h49k]) <;> (try omega))) only [↓reduceIte, ↓z_ite, ↓zR, ↓zB_R, ↓zB_B, ↓zB_ite, ↓zB_gI, ↓zB_pI, ↓zB_pZ, ↓zB_aK, ↓zB_G, ↓zB_lI, ↓zB_lZ, ↓zB_wI, ↓zB_wZ, ↓zB_lIl, ↓zB_wIl, zB_pI, zB_pZ, zB_lI, zB_lZ, zB_wI, zB_wZ, z_addl, z_ladd, z_mull, z_lmul, nI_add, z_subl, Nat.not_lt_zero, z_10, z_01, z_bitc, z_b0, z_b1, ↓zB_Gb, ↓zB_G0, ↓zB_G1, z_eql, z_leq, z_ltl, z_llt, z_eq, z_lt, z_m1lt, hb.k, hb.k1, hb.k2, hb.k3, hb.k4, hb.k5, hb.k6, hb.l1, hb.l2, hb.l3, hb.l4, hb.l5, hb.l6, hb'.k, hb'.k1, hb'.k2, hb'.k3, hb'.k4, hb'.k5, hb'.k6, hb'.l1, hb'.l2, hb'.l3, hb'.l4, hb'.l5, hb'.l6, hX.k37, hbk, hbk', h45k, h49k, ↓hb.g0, ↓hb.g1, ↓hb.g2, ↓hb.g3, ↓hb.g4, ↓hb.g5, ↓hb'.g0, ↓hb'.g1, ↓hb'.g2, ↓hb'.g3, ↓hb'.g4, ↓hb'.g5, ↓hX.g37_0, ↓hX.g37_1, ↓hX.g37_2, htz, pkk, pkk', hit, hrt, ek, ek', ep, ep', c1, c2, ↓zB_c e14, zB_c e14, ↓zB_c e14', zB_c e14', eB, ↓zB_c e40, zB_c e40, ↓zB_c e41, zB_c e41, c3, Bool.true_eq_false]
          · refine Or.inr ⟨0, m1, ?_, stop m1 (by unfold z_lkc; simp [c2]) (fun _ _ => rfl)⟩
            unfold f34_57b f34_115
            simp (disch := ((try simp only [true_or, or_true, hb.k, hb.k1, hb.k2, hb.k3, hb.k4, hb.k5, hb.k6, hb.l1, hb.l2, hb.l3, hb.l4, hb.l5, hb.l6, hb'.k, hb'.k1, hb'.k2, hb'.k3, hb'.k4, hb'.k5, hb'.k6, hb'.l1, hb'.l2, hb'.l3, hb'.l4, hb'.l5, hb'.l6, hbk, hbk']) <;> (try omega))) only [↓reduceIte, ↓z_ite, ↓zR, ↓zB_R, ↓zB_B, ↓zB_ite, ↓zB_gI, ↓zB_pI, ↓zB_pZ, ↓zB_aK, ↓zB_G, ↓zB_lI, ↓zB_lZ, ↓zB_wI, ↓zB_wZ, ↓zB_lIl, ↓zB_wIl, zB_pI, zB_pZ, zB_lI, zB_lZ, zB_wI, zB_wZ, z_addl, z_ladd, z_mull, z_lmul, nI_add, z_subl, Nat.not_lt_zero, z_10, z_01, z_bitc, z_b0, z_b1, ↓zB_Gb, ↓zB_G0, ↓zB_G1, z_eql, z_leq, z_ltl, z_llt, z_eq, z_lt, z_m1lt, hb.k, hb.k1, hb.k2, hb.k3, hb.k4, hb.k5, hb.k6, hb.l1, hb.l2, hb.l3, hb.l4, hb.l5, hb.l6, hb'.k, hb'.k1, hb'.k2, hb'.k3, hb'.k4, hb'.k5, hb'.k6, hb'.l1, hb'.l2, hb'.l3, hb'.l4, hb'.l5, hb'.l6, hbk, hbk', ↓hb.g0, ↓hb.g1, ↓hb.g2, ↓hb.g3, ↓hb.g4, ↓hb.g5, ↓hb'.g0, ↓hb'.g1, ↓hb'.g2, ↓hb'.g3, ↓hb'.g4, ↓hb'.g5, htz, pkk, pkk', hit, hrt, ek, ek', ep, ep', c1, z_eq (show z_p (z_bd P k) (i + t) < 2147483648 by omega) (show z_p (z_bd P q) (r + t) < 2147483648 by omega), c2]
        · refine Or.inr ⟨0, m1, ?_, stop m1 (by unfold z_lkc; simp [c1]) (fun _ _ => rfl)⟩
          unfold f34_57b f34_115
          simp (disch := ((try simp only [true_or, or_true, hb.k, hb.k1, hb.k2, hb.k3, hb.k4, hb.k5, hb.k6, hb.l1, hb.l2, hb.l3, hb.l4, hb.l5, hb.l6, hb'.k, hb'.k1, hb'.k2, hb'.k3, hb'.k4, hb'.k5, hb'.k6, hb'.l1, hb'.l2, hb'.l3, hb'.l4, hb'.l5, hb'.l6, hbk, hbk']) <;> (try omega))) only [↓reduceIte, ↓z_ite, ↓zR, ↓zB_R, ↓zB_B, ↓zB_ite, ↓zB_gI, ↓zB_pI, ↓zB_pZ, ↓zB_aK, ↓zB_G, ↓zB_lI, ↓zB_lZ, ↓zB_wI, ↓zB_wZ, ↓zB_lIl, ↓zB_wIl, zB_pI, zB_pZ, zB_lI, zB_lZ, zB_wI, zB_wZ, z_addl, z_ladd, z_mull, z_lmul, nI_add, z_subl, Nat.not_lt_zero, z_10, z_01, z_bitc, z_b0, z_b1, ↓zB_Gb, ↓zB_G0, ↓zB_G1, z_eql, z_leq, z_ltl, z_llt, z_eq, z_lt, z_m1lt, hb.k, hb.k1, hb.k2, hb.k3, hb.k4, hb.k5, hb.k6, hb.l1, hb.l2, hb.l3, hb.l4, hb.l5, hb.l6, hb'.k, hb'.k1, hb'.k2, hb'.k3, hb'.k4, hb'.k5, hb'.k6, hb'.l1, hb'.l2, hb'.l3, hb'.l4, hb'.l5, hb'.l6, hbk, hbk', ↓hb.g0, ↓hb.g1, ↓hb.g2, ↓hb.g3, ↓hb.g4, ↓hb.g5, ↓hb'.g0, ↓hb'.g1, ↓hb'.g2, ↓hb'.g3, ↓hb'.g4, ↓hb'.g5, htz, pkk, pkk', hit, hrt, ek, ek', c1]
  · refine ⟨z_up m 49 3 0, ?_, fun d hd => ?_, f0⟩
    · have elk : z_lk P k i c q r = none := by unfold z_lk; rw [if_neg gs]
      rw [elk]
      have gs2 : ¬ nI (z_sz (z_bd P q) r) = nI (z_sz (z_bd P k) i) := fun y => gs ((nI_eq (by omega) (by omega)).mp y)
      unfold f34
      simp (disch := ((try simp only [true_or, or_true, hX.k37, hp.k, hp.k1, hp.k2, hp.k3, hp.k4, hp.k5, hp.k6, hp.k7, hp.k8, hp.k9, hp.k10, hp.l1, hp.l2, hp.l3, hp.l4, hp.l5, hp.l6, hp.l7, hp.l8, hp.l9, hp.l10, hb.k, hb.k1, hb.k2, hb.k3, hb.k4, hb.k5, hb.k6, hb.l1, hb.l2, hb.l3, hb.l4, hb.l5, hb.l6, hb'.k, hb'.k1, hb'.k2, hb'.k3, hb'.k4, hb'.k5, hb'.k6, hb'.l1, hb'.l2, hb'.l3, hb'.l4, hb'.l5, hb'.l6, hpk, h49k]) <;> (try omega))) only [↓reduceIte, ↓z_ite, ↓zR, ↓zB_R, ↓zB_B, ↓zB_ite, ↓zB_gI, ↓zB_pI, ↓zB_pZ, ↓zB_aK, ↓zB_G, ↓zB_lI, ↓zB_lZ, ↓zB_wI, ↓zB_wZ, ↓zB_lIl, ↓zB_wIl, zB_pI, zB_pZ, zB_lI, zB_lZ, zB_wI, zB_wZ, z_addl, z_ladd, z_mull, z_lmul, nI_add, z_subl, Nat.not_lt_zero, z_10, z_01, z_bitc, z_b0, z_b1, ↓zB_Gb, ↓zB_G0, ↓zB_G1, z_eql, z_leq, z_ltl, z_llt, z_eq, z_lt, z_m1lt, hX.k37, hp.k, hp.k1, hp.k2, hp.k3, hp.k4, hp.k5, hp.k6, hp.k7, hp.k8, hp.k9, hp.k10, hp.l1, hp.l2, hp.l3, hp.l4, hp.l5, hp.l6, hp.l7, hp.l8, hp.l9, hp.l10, hb.k, hb.k1, hb.k2, hb.k3, hb.k4, hb.k5, hb.k6, hb.l1, hb.l2, hb.l3, hb.l4, hb.l5, hb.l6, hb'.k, hb'.k1, hb'.k2, hb'.k3, hb'.k4, hb'.k5, hb'.k6, hb'.l1, hb'.l2, hb'.l3, hb'.l4, hb'.l5, hb'.l6, hpk, h49k, ↓hX.g37_0, ↓hX.g37_1, ↓hX.g37_2, ↓hp.g0, ↓hp.g1, ↓hp.g2, ↓hp.g3, ↓hp.g4, ↓hp.g5, ↓hp.g6, ↓hp.g7, ↓hp.g8, ↓hp.g9, ↓hp.gb, hp.gb, ↓hb.g0, ↓hb.g1, ↓hb.g2, ↓hb.g3, ↓hb.g4, ↓hb.g5, ↓hb'.g0, ↓hb'.g1, ↓hb'.g2, ↓hb'.g3, ↓hb'.g4, ↓hb'.g5, h24, hk, hq, hi, hr, hend, hend'', s1, s2, gs2]
      rfl
    · unfold z_lk at hd; rw [if_neg gs] at hd; cases hd
end
