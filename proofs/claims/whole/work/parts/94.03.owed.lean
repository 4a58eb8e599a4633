-- deps: 91.24.mrun9 91.30.fu 92.00.law 92.01.law 92.02.law 92.03.law 92.04.law 92.05.law 92.06.law 92.07.law 92.08.law 93.00.new 93.01.new2 93.02.new3 93.03.new4 94.00.step 94.01.rng 94.02.blk
/-! the law, to its end -/
section
variable {S : z_S} {m : z_m} {A : z_A} {Ln j : Nat} {xs : Nat → Int32}
theorem s_run (hj : j + 7 ≤ Ln) (hL : Ln ≤ 3584) (hI : z_I S m A) : z_go (f340_2211 Ln xs 0 2390 2424 (nI j)) S m j := by
  have hI0 := hI
  obtain ⟨⟨hCR, hMR⟩, ⟨hw, hf⟩, _⟩ := hI0
  have G1 : ∀ {β : Type} (f : Unit → m_M β), m_B (m_G (q_ins (nI j + 1) Ln = true)) f = f () := fun f => m_BG (z_qi1 hj hL) f
  have G2 : ∀ {β : Type} (f : Unit → m_M β), m_B (m_G (q_ins (nI j + 2) Ln = true)) f = f () := fun f => m_BG (z_qi2 hj hL) f
  have G3 : ∀ {β : Type} (f : Unit → m_M β), m_B (m_G (q_ins (nI j + 3) Ln = true)) f = f () := fun f => m_BG (z_qi3 hj hL) f
  have G4 : ∀ {β : Type} (f : Unit → m_M β), m_B (m_G (q_ins (nI j + 4) Ln = true)) f = f () := fun f => m_BG (z_qi4 hj hL) f
  have G5 : ∀ {β : Type} (f : Unit → m_M β), m_B (m_G (q_ins (nI j + 5) Ln = true)) f = f () := fun f => m_BG (z_qi5 hj hL) f
  by_cases h5 : xs (nI j + 5).toNatClampNeg = 0
  · have hb : f340_2211 Ln xs 0 2390 2424 (nI j) = z_blk (z_wrap (f154 0 (xs (nI j + 1).toNatClampNeg) (xs (nI j + 2).toNatClampNeg) (xs (nI j + 3).toNatClampNeg) (xs (nI j + 4).toNatClampNeg) 0) z_e3) (f252 2390 (xs (nI j + 1).toNatClampNeg) (xs (nI j + 2).toNatClampNeg) (xs (nI j + 3).toNatClampNeg) (xs (nI j + 4).toNatClampNeg) 0) (nI j) := by
      unfold f340_2211 f340_2250
      simp only [G1, G2, G3, G4, G5, if_pos h5]
      rfl
    rw [hb]
    exact ⟨_, z_blk_ok hI (c_run hw hf hCR _ _ _ _ _) (fun S m h1 h2 => m_run h1 hw hf h2 _ _ _ _ _) (u_run hf _ _ _ _ _) (g_run _ _ _ _ _) z_wk_3⟩
  · have hb : f340_2211 Ln xs 0 2390 2424 (nI j) = z_blk (z_wrap (f154 0 (xs (nI j + 1).toNatClampNeg) (xs (nI j + 2).toNatClampNeg) (xs (nI j + 3).toNatClampNeg) (xs (nI j + 4).toNatClampNeg) 1) z_e3) (f252 2390 (xs (nI j + 1).toNatClampNeg) (xs (nI j + 2).toNatClampNeg) (xs (nI j + 3).toNatClampNeg) (xs (nI j + 4).toNatClampNeg) 1) (nI j) := by
      unfold f340_2211 f340_2250
      simp only [G1, G2, G3, G4, G5, if_neg h5]
      rfl
    rw [hb]
    exact ⟨_, z_blk_ok hI (c_run hw hf hCR _ _ _ _ _) (fun S m h1 h2 => m_run h1 hw hf h2 _ _ _ _ _) (u_run hf _ _ _ _ _) (g_run _ _ _ _ _) z_wk_3⟩
theorem z_aK0 (hI : z_I S m A) : m_aK 0 11 (z_hp S m) = some ((), z_hp S m) := by
  have k0 : z_kd S 0 = 11 := by obtain ⟨⟨⟨_, _, _, hID, _⟩, _⟩, _⟩ := hI; exact hID.1.k0
  unfold m_aK
  rw [show q_kd (z_hp S m) 0 = z_kd S 0 from rfl, if_pos k0]
theorem z_aKm {m : z_m} (hM : z_MS S) : m_aK 2390 12 (z_hp S m) = some ((), z_hp S m) := by
  unfold m_aK
  rw [show q_kd (z_hp S m) 2390 = z_kd S 2390 from rfl, if_pos hM.k]
theorem s_wrong (hI : z_I S m A) : z_go (f340_1190 Ln xs 0 2390 2424 (nI j)) S m j := by
  have hI0 := hI
  obtain ⟨⟨hCR, hMR⟩, ⟨hw, hf⟩, hMS, h22, hl⟩ := hI0
  obtain ⟨m1, e1, c1, f1⟩ := c_wrong hw hCR
  obtain ⟨m2, e2, c2, f2⟩ := m_wrong hMS hw (z_MR_fr (fun a x _ => f1 a x) hMR)
  refine ⟨A, S, m2, ?_, ⟨⟨z_CR_fr hw c1 (fun a ha => f2 a (Or.inl ha)), c2⟩, ⟨hw, hf⟩, hMS, h22, hl⟩, Nat.le_succ _, Nat.le_add_right _ _⟩
  unfold f340_1190
  refine Rn_B (z_aK0 hI) (Rn_B e1 (Rn_B (z_aKm hMS) (Rn_B e2 ?_)))
  rw [if_pos rfl]; rfl
theorem s_value (hI : z_I S m A) : z_go (f340_2331 Ln xs 0 2390 2424 (nI j)) S m j := by
  have hI0 := hI
  obtain ⟨⟨hCR, hMR⟩, ⟨hw, hf⟩, hMS, h22, hl⟩ := hI0
  obtain ⟨m2, e2, c2, f2⟩ := m_value hMS hMR
  refine ⟨A, S, m2, ?_, ⟨⟨z_CR_fr hw hCR (fun a ha => f2 a (Or.inl ha)), c2⟩, ⟨hw, hf⟩, hMS, h22, hl⟩, Nat.le_succ _, Nat.le_add_right _ _⟩
  unfold f340_2331
  refine Rn_B (z_aK0 hI) (Rn_B (c_value hCR) (Rn_B (z_aKm hMS) (Rn_B e2 ?_)))
  rw [if_pos rfl]; rfl
theorem s_steps (hI : z_I S m A) : z_go (f340_2344 Ln xs 0 2390 2424 (nI j)) S m j := by
  have hI0 := hI
  obtain ⟨⟨hCR, hMR⟩, ⟨hw, hf⟩, hMS, h22, hl⟩ := hI0
  obtain ⟨m2, e2, c2, f2⟩ := m_steps hMS hMR
  refine ⟨A, S, m2, ?_, ⟨⟨z_CR_fr hw hCR (fun a ha => f2 a (Or.inl ha)), c2⟩, ⟨hw, hf⟩, hMS, h22, hl⟩, Nat.le_succ _, Nat.le_add_right _ _⟩
  unfold f340_2344
  refine Rn_B (z_aK0 hI) (Rn_B (c_steps hCR) (Rn_B (z_aKm hMS) (Rn_B e2 ?_)))
  rw [if_pos rfl]; rfl
theorem z_lim (hj : j ≤ Ln) (hL : Ln ≤ 3584) : ((Int32.ofNat Ln) - 7 < nI j) = (Ln < j + 7) := by
  show (nI Ln - 7 < nI j) = _
  rcases Nat.lt_or_ge Ln 7 with g | g
  · have hp : ¬ nI j < 0 := nI_pos (by omega)
    have h7 : nI Ln - 7 < 0 := by
      have : Ln = 0 ∨ Ln = 1 ∨ Ln = 2 ∨ Ln = 3 ∨ Ln = 4 ∨ Ln = 5 ∨ Ln = 6 := by omega
      rcases this with rfl | rfl | rfl | rfl | rfl | rfl | rfl <;> decide
    have : nI Ln - 7 < nI j := by
      rw [Int32.lt_iff_toInt_lt] at hp h7 ⊢
      omega
    exact propext ⟨fun _ => by omega, fun _ => this⟩
  · have e : nI Ln - 7 = nI (Ln - 7) := z_subl (k := 7) g
    rw [e, z_lt (by omega) (by omega)]
    exact propext ⟨fun h => by omega, fun h => by omega⟩
theorem s_all (hj : j + 7 ≤ Ln) (hL : Ln ≤ 3584) (hI : z_I S m A) : z_go (f340_23b Ln xs 0 2390 2424 (nI j)) S m j := by
  have hx : ¬ ((Int32.ofNat Ln) - 7 < nI j) := by rw [z_lim (by omega) hL]; omega
  unfold f340_23b
  rw [if_neg hx, m_BG (z_ins (by omega) (by omega))]
  generalize ((xs (nI j).toNatClampNeg) &&& 63).toInt = op
  by_cases h0 : op = 0
  · rw [if_pos h0]; exact s_number hj hL hI
  rw [if_neg h0]
  by_cases h1 : op = 1
  · rw [if_pos h1]; exact s_var hj hL hI
  rw [if_neg h1]
  by_cases h2 : op = 2
  · rw [if_pos h2]; exact s_self hj hL hI
  rw [if_neg h2]
  by_cases h3 : op = 3
  · rw [if_pos h3]; exact s_field hj hL hI
  rw [if_neg h3]
  by_cases h4 : op = 4
  · rw [if_pos h4]; exact s_put hj hL hI
  rw [if_neg h4]
  by_cases h5 : op = 5
  · rw [if_pos h5]; exact s_let hj hL hI
  rw [if_neg h5]
  by_cases h6 : op = 6
  · rw [if_pos h6]; exact s_call hj hL hI
  rw [if_neg h6]
  by_cases h7 : op = 7
  · rw [if_pos h7]; exact s_make hj hL hI
  rw [if_neg h7]
  by_cases h8 : op = 8
  · rw [if_pos h8]; exact s_two hj hL hI
  rw [if_neg h8]
  by_cases h9 : op = 9
  · rw [if_pos h9]; exact s_test hj hL hI
  rw [if_neg h9]
  by_cases h10 : op = 10
  · rw [if_pos h10]; exact s_raise hj hL hI
  rw [if_neg h10]
  by_cases h11 : op = 11
  · rw [if_pos h11]; exact s_class hj hL hI
  rw [if_neg h11]
  by_cases h12 : op = 12
  · rw [if_pos h12]; exact s_fieldOf hj hL hI
  rw [if_neg h12]
  by_cases h13 : op = 13
  · rw [if_pos h13]; exact s_method hj hL hI
  rw [if_neg h13]
  by_cases h14 : op = 14
  · rw [if_pos h14]; exact s_wrong hI
  rw [if_neg h14]
  by_cases h15 : op = 15
  · rw [if_pos h15]; exact s_begin hj hL hI
  rw [if_neg h15]
  by_cases h16 : op = 16
  · rw [if_pos h16]; exact s_renM hj hL hI
  rw [if_neg h16]
  by_cases h17 : op = 17
  · rw [if_pos h17]; exact s_renF hj hL hI
  rw [if_neg h17]
  by_cases h18 : op = 18
  · rw [if_pos h18]; exact s_renL hj hL hI
  rw [if_neg h18]
  by_cases h19 : op = 19
  · rw [if_pos h19]; exact s_inl hj hL hI
  rw [if_neg h19]
  by_cases h20 : op = 20
  · rw [if_pos h20]; exact s_ext hj hL hI
  rw [if_neg h20]
  by_cases h21 : op = 21
  · rw [if_pos h21]; exact s_addP hj hL hI
  rw [if_neg h21]
  by_cases h22 : op = 22
  · rw [if_pos h22]; exact s_dropP hj hL hI
  rw [if_neg h22]
  by_cases h23 : op = 23
  · rw [if_pos h23]; exact s_pull hj hL hI
  rw [if_neg h23]
  by_cases h24 : op = 24
  · rw [if_pos h24]; exact s_push hj hL hI
  rw [if_neg h24]
  by_cases h25 : op = 25
  · rw [if_pos h25]; exact s_enc hj hL hI
  rw [if_neg h25]
  by_cases h26 : op = 26
  · rw [if_pos h26]; exact s_dead hj hL hI
  rw [if_neg h26]
  by_cases h27 : op = 27
  · rw [if_pos h27]; exact s_undo hj hL hI
  rw [if_neg h27]
  by_cases h28 : op = 28
  · rw [if_pos h28]; exact s_tell hj hL hI
  rw [if_neg h28]
  by_cases h29 : op = 29
  · rw [if_pos h29]; exact s_node hj hL hI
  rw [if_neg h29]
  by_cases h30 : op = 30
  · rw [if_pos h30]; exact s_run hj hL hI
  rw [if_neg h30]
  by_cases h31 : op = 31
  · rw [if_pos h31]; exact s_value hI
  rw [if_neg h31]
  by_cases h32 : op = 32
  · rw [if_pos h32]; exact s_steps hI
  rw [if_neg h32]
  have hI0 := hI
  exact ⟨A, S, m, rfl, hI, Nat.le_succ _, Nat.le_add_right _ _⟩
theorem s_loop (hL : Ln ≤ 3584) : ∀ (d j F : Nat) (S : z_S) (m : z_m) (A : z_A), Ln < j + 7 * d + 7 → d < F → j ≤ Ln → z_I S m A → ∃ S2 m2, m_W (fun s => f340_23b Ln xs (s.1) (s.2.1) (s.2.2.1) (s.2.2.2)) F (0, 2390, 2424, nI j) (z_hp S m) = some (1, z_hp S2 m2) ∧ S2.2.2.2.2.2.1 ≤ S.2.2.2.2.2.1 + d ∧ S2.2.2.2.2.2.2 ≤ S.2.2.2.2.2.2 + 6 * d
  | d, j, 0, S, m, A, _, hF, _, _ => absurd hF (Nat.not_lt_zero _)
  | d, j, F + 1, S, m, A, hd, hF, hj, hI => by
    by_cases hx : Ln < j + 7
    · refine ⟨S, m, ?_, Nat.le_add_right _ _, Nat.le_add_right _ _⟩
      refine mW_e (f := fun s => f340_23b Ln xs (s.1) (s.2.1) (s.2.2.1) (s.2.2.2)) ?_
      show f340_23b Ln xs 0 2390 2424 (nI j) (z_hp S m) = _
      unfold f340_23b
      rw [if_pos (by rw [z_lim hj hL]; exact hx)]; rfl
    · cases d with
      | zero => omega
      | succ d =>
        obtain ⟨A', S1, m1, e1, hI1, b1, b2⟩ := s_all (xs := xs) (Ln := Ln) (j := j) (by omega) hL hI
        rw [show nI j + 7 = nI (j + 7) from z_addl j 7] at e1
        obtain ⟨S2, m2, e2, d1, d2⟩ := s_loop hL d (j + 7) F S1 m1 A' (by omega) (by omega) (by omega) hI1
        exact ⟨S2, m2, mW_s (f := fun s => f340_23b Ln xs (s.1) (s.2.1) (s.2.2.1) (s.2.2.2)) e1 e2, by omega, by omega⟩
theorem z_FU_A0 : z_FU z_A0 := ⟨fun c d n hc => absurd hc (Nat.not_lt_zero _), (fun Bg h => by cases h), fun i hi => absurd hi (Nat.not_lt_zero _)⟩
theorem q_owed : q_Owed := fun L xs hL => by
  obtain ⟨S1, m1, S2, m2, S3, m3, S4, m4, S, m, e1, e2, e3, e4, e5, hCR, hMR, hMS, ⟨h22, hl⟩, hcc, hss⟩ := z_first
  obtain ⟨S', m', e6, d1, d2⟩ := s_loop (xs := xs) hL 512 0 1000000 S m z_A0 (by omega) (by decide) (Nat.zero_le _) ⟨⟨hCR, hMR⟩, ⟨z_A0_W, z_FU_A0⟩, hMS, h22, hl⟩
  have e6 : f340_23 L xs 0 2390 2424 0 (z_hp S m) = some (1, z_hp S' m') := e6
  have hf : f340 L xs q_h0 = some (1, z_hp S' m') := by
    unfold f340
    exact Rn_B e1 (Rn_B e2 (Rn_B e3 (Rn_B e4 (Rn_B e5 e6))))
  obtain ⟨n, hn⟩ := f340_cl hf
  refine ⟨n, z_hp S' m', hn, ?_, ?_⟩
  · show S'.2.2.2.2.2.1 ≤ 601024
    omega
  · show S'.2.2.2.2.2.2 ≤ 7293034
    omega
end
