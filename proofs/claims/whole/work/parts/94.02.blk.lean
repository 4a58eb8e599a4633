-- deps: 91.24.mrun9 91.30.fu 92.00.law 92.01.law 92.02.law 92.03.law 92.04.law 92.05.law 92.06.law 92.07.law 92.08.law 93.00.new 93.01.new2 93.02.new3 93.03.new4 94.00.step 94.01.rng
/-! the law's blocks -/
section
variable {S : z_S} {m : z_m} {A : z_A} {Ln j : Nat} {xs : Nat → Int32}
def z_go (F : m_M ((Nat × Nat × Nat × Int32) ⊕ Int32)) (S : z_S) (m : z_m) (j : Nat) : Prop := ∃ A' S2 m2, F (z_hp S m) = some (.inl (0, 2390, 2424, (nI j + 7)), z_hp S2 m2) ∧ z_I S2 m2 A' ∧ S2.2.2.2.2.2.1 ≤ S.2.2.2.2.2.1 + 1 ∧ S2.2.2.2.2.2.2 ≤ S.2.2.2.2.2.2 + 6
theorem z_qi1 (hj : j + 7 ≤ Ln) (hL : Ln ≤ 3584) : q_ins (nI j + 1) Ln = true := by
  rw [show nI j + 1 = nI (j + 1) from z_addl j 1]
  exact z_ins (by omega) (by omega)
theorem z_qi2 (hj : j + 7 ≤ Ln) (hL : Ln ≤ 3584) : q_ins (nI j + 2) Ln = true := by
  rw [show nI j + 2 = nI (j + 2) from z_addl j 2]
  exact z_ins (by omega) (by omega)
theorem z_qi3 (hj : j + 7 ≤ Ln) (hL : Ln ≤ 3584) : q_ins (nI j + 3) Ln = true := by
  rw [show nI j + 3 = nI (j + 3) from z_addl j 3]
  exact z_ins (by omega) (by omega)
theorem z_qi4 (hj : j + 7 ≤ Ln) (hL : Ln ≤ 3584) : q_ins (nI j + 4) Ln = true := by
  rw [show nI j + 4 = nI (j + 4) from z_addl j 4]
  exact z_ins (by omega) (by omega)
theorem z_qi5 (hj : j + 7 ≤ Ln) (hL : Ln ≤ 3584) : q_ins (nI j + 5) Ln = true := by
  rw [show nI j + 5 = nI (j + 5) from z_addl j 5]
  exact z_ins (by omega) (by omega)
theorem z_qi6 (hj : j + 7 ≤ Ln) (hL : Ln ≤ 3584) : q_ins (nI j + 6) Ln = true := by
  rw [show nI j + 6 = nI (j + 6) from z_addl j 6]
  exact z_ins (by omega) (by omega)
theorem s_number (hj : j + 7 ≤ Ln) (hL : Ln ≤ 3584) (hI : z_I S m A) : z_go (f340_188 Ln xs 0 2390 2424 (nI j)) S m j := by
  have hI0 := hI
  obtain ⟨⟨hCR, hMR⟩, ⟨hw, hf⟩, _⟩ := hI0
  have G1 : ∀ {β : Type} (f : Unit → m_M β), m_B (m_G (q_ins (nI j + 1) Ln = true)) f = f () := fun f => m_BG (z_qi1 hj hL) f
  have hb : f340_188 Ln xs 0 2390 2424 (nI j) = z_blk (z_wrap (f124 0 (xs (nI j + 1).toNatClampNeg)) z_ea) (f185 2390 (xs (nI j + 1).toNatClampNeg)) (nI j) := by
    unfold f340_188
    simp only [G1]
    rfl
  rw [hb]
  exact ⟨_, z_blk_ok hI (c_number hw hCR _) (fun S m h1 h2 => m_number h1 hw h2 _) (u_number hf _) (g_number _) z_wk_a⟩
theorem s_var (hj : j + 7 ≤ Ln) (hL : Ln ≤ 3584) (hI : z_I S m A) : z_go (f340_244 Ln xs 0 2390 2424 (nI j)) S m j := by
  have hI0 := hI
  obtain ⟨⟨hCR, hMR⟩, ⟨hw, hf⟩, _⟩ := hI0
  have G1 : ∀ {β : Type} (f : Unit → m_M β), m_B (m_G (q_ins (nI j + 1) Ln = true)) f = f () := fun f => m_BG (z_qi1 hj hL) f
  have hb : f340_244 Ln xs 0 2390 2424 (nI j) = z_blk (z_wrap (f125 0 (xs (nI j + 1).toNatClampNeg)) z_ev) (f186 2390 (xs (nI j + 1).toNatClampNeg)) (nI j) := by
    unfold f340_244
    simp only [G1]
    rfl
  rw [hb]
  exact ⟨_, z_blk_ok hI (c_var hw hCR _) (fun S m h1 h2 => m_var h1 hw h2 _) (u_var hf _) (g_var _) z_wk_v⟩
theorem s_self (hj : j + 7 ≤ Ln) (hL : Ln ≤ 3584) (hI : z_I S m A) : z_go (f340_300 Ln xs 0 2390 2424 (nI j)) S m j := by
  have hI0 := hI
  obtain ⟨⟨hCR, hMR⟩, ⟨hw, hf⟩, _⟩ := hI0
  have hb : f340_300 Ln xs 0 2390 2424 (nI j) = z_blk (z_wrap (f126 0 ) z_ea) (f187 2390 ) (nI j) := by
    unfold f340_300
    rfl
  rw [hb]
  exact ⟨_, z_blk_ok hI (c_self hw hCR ) (fun S m h1 h2 => m_self h1 hw h2 ) (u_self hf ) (g_self ) z_wk_a⟩
theorem s_field (hj : j + 7 ≤ Ln) (hL : Ln ≤ 3584) (hI : z_I S m A) : z_go (f340_344 Ln xs 0 2390 2424 (nI j)) S m j := by
  have hI0 := hI
  obtain ⟨⟨hCR, hMR⟩, ⟨hw, hf⟩, _⟩ := hI0
  have G1 : ∀ {β : Type} (f : Unit → m_M β), m_B (m_G (q_ins (nI j + 1) Ln = true)) f = f () := fun f => m_BG (z_qi1 hj hL) f
  have G2 : ∀ {β : Type} (f : Unit → m_M β), m_B (m_G (q_ins (nI j + 2) Ln = true)) f = f () := fun f => m_BG (z_qi2 hj hL) f
  have hb : f340_344 Ln xs 0 2390 2424 (nI j) = z_blk (z_wrap (f127 0 (xs (nI j + 1).toNatClampNeg) (xs (nI j + 2).toNatClampNeg)) z_e3) (f188 2390 (xs (nI j + 1).toNatClampNeg) (xs (nI j + 2).toNatClampNeg)) (nI j) := by
    unfold f340_344
    simp only [G1, G2]
    rfl
  rw [hb]
  exact ⟨_, z_blk_ok hI (c_field hw hCR _ _) (fun S m h1 h2 => m_field h1 hw h2 _ _) (u_field hf _ _) (g_field _ _) z_wk_3⟩
theorem s_put (hj : j + 7 ≤ Ln) (hL : Ln ≤ 3584) (hI : z_I S m A) : z_go (f340_412 Ln xs 0 2390 2424 (nI j)) S m j := by
  have hI0 := hI
  obtain ⟨⟨hCR, hMR⟩, ⟨hw, hf⟩, _⟩ := hI0
  have G1 : ∀ {β : Type} (f : Unit → m_M β), m_B (m_G (q_ins (nI j + 1) Ln = true)) f = f () := fun f => m_BG (z_qi1 hj hL) f
  have G2 : ∀ {β : Type} (f : Unit → m_M β), m_B (m_G (q_ins (nI j + 2) Ln = true)) f = f () := fun f => m_BG (z_qi2 hj hL) f
  have G3 : ∀ {β : Type} (f : Unit → m_M β), m_B (m_G (q_ins (nI j + 3) Ln = true)) f = f () := fun f => m_BG (z_qi3 hj hL) f
  have hb : f340_412 Ln xs 0 2390 2424 (nI j) = z_blk (z_wrap (f128 0 (xs (nI j + 1).toNatClampNeg) (xs (nI j + 2).toNatClampNeg) (xs (nI j + 3).toNatClampNeg)) z_e3) (f189 2390 (xs (nI j + 1).toNatClampNeg) (xs (nI j + 2).toNatClampNeg) (xs (nI j + 3).toNatClampNeg)) (nI j) := by
    unfold f340_412
    simp only [G1, G2, G3]
    rfl
  rw [hb]
  exact ⟨_, z_blk_ok hI (c_put hw hCR _ _ _) (fun S m h1 h2 => m_put h1 hw h2 _ _ _) (u_put hf _ _ _) (g_put _ _ _) z_wk_3⟩
theorem s_let (hj : j + 7 ≤ Ln) (hL : Ln ≤ 3584) (hI : z_I S m A) : z_go (f340_492 Ln xs 0 2390 2424 (nI j)) S m j := by
  have hI0 := hI
  obtain ⟨⟨hCR, hMR⟩, ⟨hw, hf⟩, _⟩ := hI0
  have G1 : ∀ {β : Type} (f : Unit → m_M β), m_B (m_G (q_ins (nI j + 1) Ln = true)) f = f () := fun f => m_BG (z_qi1 hj hL) f
  have G2 : ∀ {β : Type} (f : Unit → m_M β), m_B (m_G (q_ins (nI j + 2) Ln = true)) f = f () := fun f => m_BG (z_qi2 hj hL) f
  have G3 : ∀ {β : Type} (f : Unit → m_M β), m_B (m_G (q_ins (nI j + 3) Ln = true)) f = f () := fun f => m_BG (z_qi3 hj hL) f
  have hb : f340_492 Ln xs 0 2390 2424 (nI j) = z_blk (z_wrap (f129 0 (xs (nI j + 1).toNatClampNeg) (xs (nI j + 2).toNatClampNeg) (xs (nI j + 3).toNatClampNeg)) z_e3) (f190 2390 (xs (nI j + 1).toNatClampNeg) (xs (nI j + 2).toNatClampNeg) (xs (nI j + 3).toNatClampNeg)) (nI j) := by
    unfold f340_492
    simp only [G1, G2, G3]
    rfl
  rw [hb]
  exact ⟨_, z_blk_ok hI (c_let hw hCR _ _ _) (fun S m h1 h2 => m_let h1 hw h2 _ _ _) (u_let hf _ _ _) (g_let _ _ _) z_wk_3⟩
theorem s_call (hj : j + 7 ≤ Ln) (hL : Ln ≤ 3584) (hI : z_I S m A) : z_go (f340_572 Ln xs 0 2390 2424 (nI j)) S m j := by
  have hI0 := hI
  obtain ⟨⟨hCR, hMR⟩, ⟨hw, hf⟩, _⟩ := hI0
  have G1 : ∀ {β : Type} (f : Unit → m_M β), m_B (m_G (q_ins (nI j + 1) Ln = true)) f = f () := fun f => m_BG (z_qi1 hj hL) f
  have G2 : ∀ {β : Type} (f : Unit → m_M β), m_B (m_G (q_ins (nI j + 2) Ln = true)) f = f () := fun f => m_BG (z_qi2 hj hL) f
  have G3 : ∀ {β : Type} (f : Unit → m_M β), m_B (m_G (q_ins (nI j + 3) Ln = true)) f = f () := fun f => m_BG (z_qi3 hj hL) f
  have G4 : ∀ {β : Type} (f : Unit → m_M β), m_B (m_G (q_ins (nI j + 4) Ln = true)) f = f () := fun f => m_BG (z_qi4 hj hL) f
  have hb : f340_572 Ln xs 0 2390 2424 (nI j) = z_blk (z_wrap (f130 0 (xs (nI j + 1).toNatClampNeg) (xs (nI j + 2).toNatClampNeg) (xs (nI j + 3).toNatClampNeg) (xs (nI j + 4).toNatClampNeg)) z_e3) (f191 2390 (xs (nI j + 1).toNatClampNeg) (xs (nI j + 2).toNatClampNeg) (xs (nI j + 3).toNatClampNeg) (xs (nI j + 4).toNatClampNeg)) (nI j) := by
    unfold f340_572
    simp only [G1, G2, G3, G4]
    rfl
  rw [hb]
  exact ⟨_, z_blk_ok hI (c_call hw hCR _ _ _ _) (fun S m h1 h2 => m_call h1 hw h2 _ _ _ _) (u_call hf _ _ _ _) (g_call _ _ _ _) z_wk_3⟩
theorem s_make (hj : j + 7 ≤ Ln) (hL : Ln ≤ 3584) (hI : z_I S m A) : z_go (f340_664 Ln xs 0 2390 2424 (nI j)) S m j := by
  have hI0 := hI
  obtain ⟨⟨hCR, hMR⟩, ⟨hw, hf⟩, _⟩ := hI0
  have G1 : ∀ {β : Type} (f : Unit → m_M β), m_B (m_G (q_ins (nI j + 1) Ln = true)) f = f () := fun f => m_BG (z_qi1 hj hL) f
  have hb : f340_664 Ln xs 0 2390 2424 (nI j) = z_blk (z_wrap (f131 0 (xs (nI j + 1).toNatClampNeg)) z_e2) (f192 2390 (xs (nI j + 1).toNatClampNeg)) (nI j) := by
    unfold f340_664
    simp only [G1]
    rfl
  rw [hb]
  exact ⟨_, z_blk_ok hI (c_make hw hCR _) (fun S m h1 h2 => m_make h1 hw h2 _) (u_make hf _) (g_make _) z_wk_2⟩
theorem s_two (hj : j + 7 ≤ Ln) (hL : Ln ≤ 3584) (hI : z_I S m A) : z_go (f340_720 Ln xs 0 2390 2424 (nI j)) S m j := by
  have hI0 := hI
  obtain ⟨⟨hCR, hMR⟩, ⟨hw, hf⟩, _⟩ := hI0
  have G1 : ∀ {β : Type} (f : Unit → m_M β), m_B (m_G (q_ins (nI j + 1) Ln = true)) f = f () := fun f => m_BG (z_qi1 hj hL) f
  have G2 : ∀ {β : Type} (f : Unit → m_M β), m_B (m_G (q_ins (nI j + 2) Ln = true)) f = f () := fun f => m_BG (z_qi2 hj hL) f
  have G3 : ∀ {β : Type} (f : Unit → m_M β), m_B (m_G (q_ins (nI j + 3) Ln = true)) f = f () := fun f => m_BG (z_qi3 hj hL) f
  have hb : f340_720 Ln xs 0 2390 2424 (nI j) = z_blk (z_wrap (f132 0 (xs (nI j + 1).toNatClampNeg) (xs (nI j + 2).toNatClampNeg) (xs (nI j + 3).toNatClampNeg)) z_e3) (f193 2390 (xs (nI j + 1).toNatClampNeg) (xs (nI j + 2).toNatClampNeg) (xs (nI j + 3).toNatClampNeg)) (nI j) := by
    unfold f340_720
    simp only [G1, G2, G3]
    rfl
  rw [hb]
  exact ⟨_, z_blk_ok hI (c_two hw hCR _ _ _) (fun S m h1 h2 => m_two h1 hw h2 _ _ _) (u_two hf _ _ _) (g_two _ _ _) z_wk_3⟩
theorem s_test (hj : j + 7 ≤ Ln) (hL : Ln ≤ 3584) (hI : z_I S m A) : z_go (f340_800 Ln xs 0 2390 2424 (nI j)) S m j := by
  have hI0 := hI
  obtain ⟨⟨hCR, hMR⟩, ⟨hw, hf⟩, _⟩ := hI0
  have G1 : ∀ {β : Type} (f : Unit → m_M β), m_B (m_G (q_ins (nI j + 1) Ln = true)) f = f () := fun f => m_BG (z_qi1 hj hL) f
  have G2 : ∀ {β : Type} (f : Unit → m_M β), m_B (m_G (q_ins (nI j + 2) Ln = true)) f = f () := fun f => m_BG (z_qi2 hj hL) f
  have G3 : ∀ {β : Type} (f : Unit → m_M β), m_B (m_G (q_ins (nI j + 3) Ln = true)) f = f () := fun f => m_BG (z_qi3 hj hL) f
  have hb : f340_800 Ln xs 0 2390 2424 (nI j) = z_blk (z_wrap (f133 0 (xs (nI j + 1).toNatClampNeg) (xs (nI j + 2).toNatClampNeg) (xs (nI j + 3).toNatClampNeg)) z_e2) (f194 2390 (xs (nI j + 1).toNatClampNeg) (xs (nI j + 2).toNatClampNeg) (xs (nI j + 3).toNatClampNeg)) (nI j) := by
    unfold f340_800
    simp only [G1, G2, G3]
    rfl
  rw [hb]
  exact ⟨_, z_blk_ok hI (c_test hw hCR _ _ _) (fun S m h1 h2 => m_test h1 hw h2 _ _ _) (u_test hf _ _ _) (g_test _ _ _) z_wk_2⟩
theorem s_raise (hj : j + 7 ≤ Ln) (hL : Ln ≤ 3584) (hI : z_I S m A) : z_go (f340_880 Ln xs 0 2390 2424 (nI j)) S m j := by
  have hI0 := hI
  obtain ⟨⟨hCR, hMR⟩, ⟨hw, hf⟩, _⟩ := hI0
  have G1 : ∀ {β : Type} (f : Unit → m_M β), m_B (m_G (q_ins (nI j + 1) Ln = true)) f = f () := fun f => m_BG (z_qi1 hj hL) f
  have hb : f340_880 Ln xs 0 2390 2424 (nI j) = z_blk (z_wrap (f134 0 (xs (nI j + 1).toNatClampNeg)) z_e2) (f195 2390 (xs (nI j + 1).toNatClampNeg)) (nI j) := by
    unfold f340_880
    simp only [G1]
    rfl
  rw [hb]
  exact ⟨_, z_blk_ok hI (c_raise hw hCR _) (fun S m h1 h2 => m_raise h1 hw h2 _) (u_raise hf _) (g_raise _) z_wk_2⟩
theorem s_class (hj : j + 7 ≤ Ln) (hL : Ln ≤ 3584) (hI : z_I S m A) : z_go (f340_936 Ln xs 0 2390 2424 (nI j)) S m j := by
  have hI0 := hI
  obtain ⟨⟨hCR, hMR⟩, ⟨hw, hf⟩, _⟩ := hI0
  have G1 : ∀ {β : Type} (f : Unit → m_M β), m_B (m_G (q_ins (nI j + 1) Ln = true)) f = f () := fun f => m_BG (z_qi1 hj hL) f
  have hb : f340_936 Ln xs 0 2390 2424 (nI j) = z_blk (z_wrap (f135 0 (xs (nI j + 1).toNatClampNeg)) z_e2) (f216 2390 (xs (nI j + 1).toNatClampNeg)) (nI j) := by
    unfold f340_936
    simp only [G1]
    rfl
  rw [hb]
  exact ⟨_, z_blk_ok hI (c_class hw hCR _) (fun S m h1 h2 => m_class h1 hw h2 _) (u_class hw hf _) (g_class _) z_wk_2⟩
theorem s_fieldOf (hj : j + 7 ≤ Ln) (hL : Ln ≤ 3584) (hI : z_I S m A) : z_go (f340_992 Ln xs 0 2390 2424 (nI j)) S m j := by
  have hI0 := hI
  obtain ⟨⟨hCR, hMR⟩, ⟨hw, hf⟩, _⟩ := hI0
  have G1 : ∀ {β : Type} (f : Unit → m_M β), m_B (m_G (q_ins (nI j + 1) Ln = true)) f = f () := fun f => m_BG (z_qi1 hj hL) f
  have G2 : ∀ {β : Type} (f : Unit → m_M β), m_B (m_G (q_ins (nI j + 2) Ln = true)) f = f () := fun f => m_BG (z_qi2 hj hL) f
  have G3 : ∀ {β : Type} (f : Unit → m_M β), m_B (m_G (q_ins (nI j + 3) Ln = true)) f = f () := fun f => m_BG (z_qi3 hj hL) f
  have hb : f340_992 Ln xs 0 2390 2424 (nI j) = z_blk (z_wrap (f136 0 (xs (nI j + 1).toNatClampNeg) (xs (nI j + 2).toNatClampNeg) (xs (nI j + 3).toNatClampNeg)) z_e3) (f217 2390 (xs (nI j + 1).toNatClampNeg) (xs (nI j + 2).toNatClampNeg) (xs (nI j + 3).toNatClampNeg)) (nI j) := by
    unfold f340_992
    simp only [G1, G2, G3]
    rfl
  rw [hb]
  exact ⟨_, z_blk_ok hI (c_fieldOf hw hCR _ _ _) (fun S m h1 h2 => m_fieldOf h1 hw h2 _ _ _) (u_fieldOf hw hf _ _ _) (g_fieldOf _ _ _) z_wk_3⟩
theorem s_method (hj : j + 7 ≤ Ln) (hL : Ln ≤ 3584) (hI : z_I S m A) : z_go (f340_1072 Ln xs 0 2390 2424 (nI j)) S m j := by
  have hI0 := hI
  obtain ⟨⟨hCR, hMR⟩, ⟨hw, hf⟩, _⟩ := hI0
  have G1 : ∀ {β : Type} (f : Unit → m_M β), m_B (m_G (q_ins (nI j + 1) Ln = true)) f = f () := fun f => m_BG (z_qi1 hj hL) f
  have G2 : ∀ {β : Type} (f : Unit → m_M β), m_B (m_G (q_ins (nI j + 2) Ln = true)) f = f () := fun f => m_BG (z_qi2 hj hL) f
  have G3 : ∀ {β : Type} (f : Unit → m_M β), m_B (m_G (q_ins (nI j + 3) Ln = true)) f = f () := fun f => m_BG (z_qi3 hj hL) f
  have G4 : ∀ {β : Type} (f : Unit → m_M β), m_B (m_G (q_ins (nI j + 4) Ln = true)) f = f () := fun f => m_BG (z_qi4 hj hL) f
  have G5 : ∀ {β : Type} (f : Unit → m_M β), m_B (m_G (q_ins (nI j + 5) Ln = true)) f = f () := fun f => m_BG (z_qi5 hj hL) f
  have G6 : ∀ {β : Type} (f : Unit → m_M β), m_B (m_G (q_ins (nI j + 6) Ln = true)) f = f () := fun f => m_BG (z_qi6 hj hL) f
  have hb : f340_1072 Ln xs 0 2390 2424 (nI j) = z_blk (z_wrap (f137 0 (xs (nI j + 1).toNatClampNeg) (xs (nI j + 2).toNatClampNeg) (xs (nI j + 3).toNatClampNeg) (xs (nI j + 4).toNatClampNeg) (xs (nI j + 5).toNatClampNeg) (xs (nI j + 6).toNatClampNeg)) z_e3) (f219 2390 (xs (nI j + 1).toNatClampNeg) (xs (nI j + 2).toNatClampNeg) (xs (nI j + 3).toNatClampNeg) (xs (nI j + 4).toNatClampNeg) (xs (nI j + 5).toNatClampNeg) (xs (nI j + 6).toNatClampNeg)) (nI j) := by
    unfold f340_1072
    simp only [G1, G2, G3, G4, G5, G6]
    rfl
  rw [hb]
  exact ⟨_, z_blk_ok hI (c_method hw hCR _ _ _ _ _ _) (fun S m h1 h2 => m_method h1 hw h2 _ _ _ _ _ _) (u_method hf _ _ _ _ _ _) (g_method _ _ _ _ _ _) z_wk_3⟩
theorem s_begin (hj : j + 7 ≤ Ln) (hL : Ln ≤ 3584) (hI : z_I S m A) : z_go (f340_1203 Ln xs 0 2390 2424 (nI j)) S m j := by
  have hI0 := hI
  obtain ⟨⟨hCR, hMR⟩, ⟨hw, hf⟩, _⟩ := hI0
  have hb : f340_1203 Ln xs 0 2390 2424 (nI j) = z_blk (z_wrap (f139 0 ) z_ea) (f237 2390 ) (nI j) := by
    unfold f340_1203
    rfl
  rw [hb]
  exact ⟨_, z_blk_ok hI (c_begin hw hCR ) (fun S m h1 h2 => m_begin h1 hw h2 ) (u_begin hf ) (g_begin ) z_wk_a⟩
theorem s_renM (hj : j + 7 ≤ Ln) (hL : Ln ≤ 3584) (hI : z_I S m A) : z_go (f340_1247 Ln xs 0 2390 2424 (nI j)) S m j := by
  have hI0 := hI
  obtain ⟨⟨hCR, hMR⟩, ⟨hw, hf⟩, _⟩ := hI0
  have G1 : ∀ {β : Type} (f : Unit → m_M β), m_B (m_G (q_ins (nI j + 1) Ln = true)) f = f () := fun f => m_BG (z_qi1 hj hL) f
  have G2 : ∀ {β : Type} (f : Unit → m_M β), m_B (m_G (q_ins (nI j + 2) Ln = true)) f = f () := fun f => m_BG (z_qi2 hj hL) f
  have hb : f340_1247 Ln xs 0 2390 2424 (nI j) = z_blk (z_wrap (f140 0 (xs (nI j + 1).toNatClampNeg) (xs (nI j + 2).toNatClampNeg)) z_e3) (f275 2390 (xs (nI j + 1).toNatClampNeg) (xs (nI j + 2).toNatClampNeg)) (nI j) := by
    unfold f340_1247
    simp only [G1, G2]
    rfl
  rw [hb]
  exact ⟨_, z_blk_ok hI (c_renM hw hCR _ _) (fun S m h1 h2 => m_renM h1 hw h2 _ _) (u_renM hw hf _ _) (g_renM _ _) z_wk_3⟩
theorem s_renF (hj : j + 7 ≤ Ln) (hL : Ln ≤ 3584) (hI : z_I S m A) : z_go (f340_1315 Ln xs 0 2390 2424 (nI j)) S m j := by
  have hI0 := hI
  obtain ⟨⟨hCR, hMR⟩, ⟨hw, hf⟩, _⟩ := hI0
  have G1 : ∀ {β : Type} (f : Unit → m_M β), m_B (m_G (q_ins (nI j + 1) Ln = true)) f = f () := fun f => m_BG (z_qi1 hj hL) f
  have G2 : ∀ {β : Type} (f : Unit → m_M β), m_B (m_G (q_ins (nI j + 2) Ln = true)) f = f () := fun f => m_BG (z_qi2 hj hL) f
  have G3 : ∀ {β : Type} (f : Unit → m_M β), m_B (m_G (q_ins (nI j + 3) Ln = true)) f = f () := fun f => m_BG (z_qi3 hj hL) f
  have hb : f340_1315 Ln xs 0 2390 2424 (nI j) = z_blk (z_wrap (f141 0 (xs (nI j + 1).toNatClampNeg) (xs (nI j + 2).toNatClampNeg) (xs (nI j + 3).toNatClampNeg)) z_e3) (f279 2390 (xs (nI j + 1).toNatClampNeg) (xs (nI j + 2).toNatClampNeg) (xs (nI j + 3).toNatClampNeg)) (nI j) := by
    unfold f340_1315
    simp only [G1, G2, G3]
    rfl
  rw [hb]
  exact ⟨_, z_blk_ok hI (c_renF hw hCR _ _ _) (fun S m h1 h2 => m_renF h1 hw h2 _ _ _) (u_renF hw hf _ _ _) (g_renF _ _ _) z_wk_3⟩
theorem s_renL (hj : j + 7 ≤ Ln) (hL : Ln ≤ 3584) (hI : z_I S m A) : z_go (f340_1395 Ln xs 0 2390 2424 (nI j)) S m j := by
  have hI0 := hI
  obtain ⟨⟨hCR, hMR⟩, ⟨hw, hf⟩, _⟩ := hI0
  have G1 : ∀ {β : Type} (f : Unit → m_M β), m_B (m_G (q_ins (nI j + 1) Ln = true)) f = f () := fun f => m_BG (z_qi1 hj hL) f
  have G2 : ∀ {β : Type} (f : Unit → m_M β), m_B (m_G (q_ins (nI j + 2) Ln = true)) f = f () := fun f => m_BG (z_qi2 hj hL) f
  have G3 : ∀ {β : Type} (f : Unit → m_M β), m_B (m_G (q_ins (nI j + 3) Ln = true)) f = f () := fun f => m_BG (z_qi3 hj hL) f
  have hb : f340_1395 Ln xs 0 2390 2424 (nI j) = z_blk (z_wrap (f142 0 (xs (nI j + 1).toNatClampNeg) (xs (nI j + 2).toNatClampNeg) (xs (nI j + 3).toNatClampNeg)) z_e3) (f280 2390 (xs (nI j + 1).toNatClampNeg) (xs (nI j + 2).toNatClampNeg) (xs (nI j + 3).toNatClampNeg)) (nI j) := by
    unfold f340_1395
    simp only [G1, G2, G3]
    rfl
  rw [hb]
  exact ⟨_, z_blk_ok hI (c_renL hw hCR _ _ _) (fun S m h1 h2 => m_renL h1 hw h2 _ _ _) (u_renL hw hf _ _ _) (g_renL _ _ _) z_wk_3⟩
theorem s_inl (hj : j + 7 ≤ Ln) (hL : Ln ≤ 3584) (hI : z_I S m A) : z_go (f340_1475 Ln xs 0 2390 2424 (nI j)) S m j := by
  have hI0 := hI
  obtain ⟨⟨hCR, hMR⟩, ⟨hw, hf⟩, _⟩ := hI0
  have G1 : ∀ {β : Type} (f : Unit → m_M β), m_B (m_G (q_ins (nI j + 1) Ln = true)) f = f () := fun f => m_BG (z_qi1 hj hL) f
  have G2 : ∀ {β : Type} (f : Unit → m_M β), m_B (m_G (q_ins (nI j + 2) Ln = true)) f = f () := fun f => m_BG (z_qi2 hj hL) f
  have hb : f340_1475 Ln xs 0 2390 2424 (nI j) = z_blk (z_wrap (f143 0 (xs (nI j + 1).toNatClampNeg) (xs (nI j + 2).toNatClampNeg)) z_e2) (f284 2390 (xs (nI j + 1).toNatClampNeg) (xs (nI j + 2).toNatClampNeg)) (nI j) := by
    unfold f340_1475
    simp only [G1, G2]
    rfl
  rw [hb]
  exact ⟨_, z_blk_ok hI (c_inl hw hCR _ _) (fun S m h1 h2 => m_inl h1 hw h2 _ _) (u_inl hw hf _ _) (g_inl _ _) z_wk_2⟩
theorem s_ext (hj : j + 7 ≤ Ln) (hL : Ln ≤ 3584) (hI : z_I S m A) : z_go (f340_1543 Ln xs 0 2390 2424 (nI j)) S m j := by
  have hI0 := hI
  obtain ⟨⟨hCR, hMR⟩, ⟨hw, hf⟩, _⟩ := hI0
  have G1 : ∀ {β : Type} (f : Unit → m_M β), m_B (m_G (q_ins (nI j + 1) Ln = true)) f = f () := fun f => m_BG (z_qi1 hj hL) f
  have G2 : ∀ {β : Type} (f : Unit → m_M β), m_B (m_G (q_ins (nI j + 2) Ln = true)) f = f () := fun f => m_BG (z_qi2 hj hL) f
  have G3 : ∀ {β : Type} (f : Unit → m_M β), m_B (m_G (q_ins (nI j + 3) Ln = true)) f = f () := fun f => m_BG (z_qi3 hj hL) f
  have hb : f340_1543 Ln xs 0 2390 2424 (nI j) = z_blk (z_wrap (f144 0 (xs (nI j + 1).toNatClampNeg) (xs (nI j + 2).toNatClampNeg) (xs (nI j + 3).toNatClampNeg)) z_e3) (f292 2390 (xs (nI j + 1).toNatClampNeg) (xs (nI j + 2).toNatClampNeg) (xs (nI j + 3).toNatClampNeg)) (nI j) := by
    unfold f340_1543
    simp only [G1, G2, G3]
    rfl
  rw [hb]
  exact ⟨_, z_blk_ok hI (c_ext hw hCR _ _ _) (fun S m h1 h2 => m_ext h1 hw h2 _ _ _) (u_ext hw hf _ _ _) (g_ext _ _ _) z_wk_3⟩
theorem s_addP (hj : j + 7 ≤ Ln) (hL : Ln ≤ 3584) (hI : z_I S m A) : z_go (f340_1623 Ln xs 0 2390 2424 (nI j)) S m j := by
  have hI0 := hI
  obtain ⟨⟨hCR, hMR⟩, ⟨hw, hf⟩, _⟩ := hI0
  have G1 : ∀ {β : Type} (f : Unit → m_M β), m_B (m_G (q_ins (nI j + 1) Ln = true)) f = f () := fun f => m_BG (z_qi1 hj hL) f
  have G2 : ∀ {β : Type} (f : Unit → m_M β), m_B (m_G (q_ins (nI j + 2) Ln = true)) f = f () := fun f => m_BG (z_qi2 hj hL) f
  have hb : f340_1623 Ln xs 0 2390 2424 (nI j) = z_blk (z_wrap (f145 0 (xs (nI j + 1).toNatClampNeg) (xs (nI j + 2).toNatClampNeg)) z_e2) (f295 2390 (xs (nI j + 1).toNatClampNeg) (xs (nI j + 2).toNatClampNeg)) (nI j) := by
    unfold f340_1623
    simp only [G1, G2]
    rfl
  rw [hb]
  exact ⟨_, z_blk_ok hI (c_addP hw hCR _ _) (fun S m h1 h2 => m_addP h1 hw h2 _ _) (u_addP hw hf _ _) (g_addP _ _) z_wk_2⟩
theorem s_dropP (hj : j + 7 ≤ Ln) (hL : Ln ≤ 3584) (hI : z_I S m A) : z_go (f340_1691 Ln xs 0 2390 2424 (nI j)) S m j := by
  have hI0 := hI
  obtain ⟨⟨hCR, hMR⟩, ⟨hw, hf⟩, _⟩ := hI0
  have G1 : ∀ {β : Type} (f : Unit → m_M β), m_B (m_G (q_ins (nI j + 1) Ln = true)) f = f () := fun f => m_BG (z_qi1 hj hL) f
  have G2 : ∀ {β : Type} (f : Unit → m_M β), m_B (m_G (q_ins (nI j + 2) Ln = true)) f = f () := fun f => m_BG (z_qi2 hj hL) f
  have hb : f340_1691 Ln xs 0 2390 2424 (nI j) = z_blk (z_wrap (f146 0 (xs (nI j + 1).toNatClampNeg) (xs (nI j + 2).toNatClampNeg)) z_e2) (f300 2390 (xs (nI j + 1).toNatClampNeg) (xs (nI j + 2).toNatClampNeg)) (nI j) := by
    unfold f340_1691
    simp only [G1, G2]
    rfl
  rw [hb]
  exact ⟨_, z_blk_ok hI (c_dropP hw hCR _ _) (fun S m h1 h2 => m_dropP h1 hw h2 _ _) (u_dropP hw hf _ _) (g_dropP _ _) z_wk_2⟩
theorem s_pull (hj : j + 7 ≤ Ln) (hL : Ln ≤ 3584) (hI : z_I S m A) : z_go (f340_1759 Ln xs 0 2390 2424 (nI j)) S m j := by
  have hI0 := hI
  obtain ⟨⟨hCR, hMR⟩, ⟨hw, hf⟩, _⟩ := hI0
  have G1 : ∀ {β : Type} (f : Unit → m_M β), m_B (m_G (q_ins (nI j + 1) Ln = true)) f = f () := fun f => m_BG (z_qi1 hj hL) f
  have hb : f340_1759 Ln xs 0 2390 2424 (nI j) = z_blk (z_wrap (f147 0 (xs (nI j + 1).toNatClampNeg)) z_e2) (f301 2390 (xs (nI j + 1).toNatClampNeg)) (nI j) := by
    unfold f340_1759
    simp only [G1]
    rfl
  rw [hb]
  exact ⟨_, z_blk_ok hI (c_pull hw hCR _) (fun S m h1 h2 => m_pull h1 hw h2 _) (u_pull hw hf _) (g_pull _) z_wk_2⟩
theorem s_push (hj : j + 7 ≤ Ln) (hL : Ln ≤ 3584) (hI : z_I S m A) : z_go (f340_1815 Ln xs 0 2390 2424 (nI j)) S m j := by
  have hI0 := hI
  obtain ⟨⟨hCR, hMR⟩, ⟨hw, hf⟩, _⟩ := hI0
  have G1 : ∀ {β : Type} (f : Unit → m_M β), m_B (m_G (q_ins (nI j + 1) Ln = true)) f = f () := fun f => m_BG (z_qi1 hj hL) f
  have hb : f340_1815 Ln xs 0 2390 2424 (nI j) = z_blk (z_wrap (f148 0 (xs (nI j + 1).toNatClampNeg)) z_e2) (f303 2390 (xs (nI j + 1).toNatClampNeg)) (nI j) := by
    unfold f340_1815
    simp only [G1]
    rfl
  rw [hb]
  exact ⟨_, z_blk_ok hI (c_push hw hCR _) (fun S m h1 h2 => m_push h1 hw h2 _) (u_push hw hf _) (g_push _) z_wk_2⟩
theorem s_enc (hj : j + 7 ≤ Ln) (hL : Ln ≤ 3584) (hI : z_I S m A) : z_go (f340_1871 Ln xs 0 2390 2424 (nI j)) S m j := by
  have hI0 := hI
  obtain ⟨⟨hCR, hMR⟩, ⟨hw, hf⟩, _⟩ := hI0
  have G1 : ∀ {β : Type} (f : Unit → m_M β), m_B (m_G (q_ins (nI j + 1) Ln = true)) f = f () := fun f => m_BG (z_qi1 hj hL) f
  have G2 : ∀ {β : Type} (f : Unit → m_M β), m_B (m_G (q_ins (nI j + 2) Ln = true)) f = f () := fun f => m_BG (z_qi2 hj hL) f
  have G3 : ∀ {β : Type} (f : Unit → m_M β), m_B (m_G (q_ins (nI j + 3) Ln = true)) f = f () := fun f => m_BG (z_qi3 hj hL) f
  have G4 : ∀ {β : Type} (f : Unit → m_M β), m_B (m_G (q_ins (nI j + 4) Ln = true)) f = f () := fun f => m_BG (z_qi4 hj hL) f
  have hb : f340_1871 Ln xs 0 2390 2424 (nI j) = z_blk (z_wrap (f149 0 (xs (nI j + 1).toNatClampNeg) (xs (nI j + 2).toNatClampNeg) (xs (nI j + 3).toNatClampNeg) (xs (nI j + 4).toNatClampNeg)) z_e3) (f306 2390 (xs (nI j + 1).toNatClampNeg) (xs (nI j + 2).toNatClampNeg) (xs (nI j + 3).toNatClampNeg) (xs (nI j + 4).toNatClampNeg)) (nI j) := by
    unfold f340_1871
    simp only [G1, G2, G3, G4]
    rfl
  rw [hb]
  exact ⟨_, z_blk_ok hI (c_enc hw hCR _ _ _ _) (fun S m h1 h2 => m_enc h1 hw h2 _ _ _ _) (u_enc hw hf _ _ _ _) (g_enc _ _ _ _) z_wk_3⟩
theorem s_dead (hj : j + 7 ≤ Ln) (hL : Ln ≤ 3584) (hI : z_I S m A) : z_go (f340_1963 Ln xs 0 2390 2424 (nI j)) S m j := by
  have hI0 := hI
  obtain ⟨⟨hCR, hMR⟩, ⟨hw, hf⟩, _⟩ := hI0
  have G1 : ∀ {β : Type} (f : Unit → m_M β), m_B (m_G (q_ins (nI j + 1) Ln = true)) f = f () := fun f => m_BG (z_qi1 hj hL) f
  have hb : f340_1963 Ln xs 0 2390 2424 (nI j) = z_blk (z_wrap (f150 0 (xs (nI j + 1).toNatClampNeg)) z_e2) (f307 2390 (xs (nI j + 1).toNatClampNeg)) (nI j) := by
    unfold f340_1963
    simp only [G1]
    rfl
  rw [hb]
  exact ⟨_, z_blk_ok hI (c_dead hw hCR _) (fun S m h1 h2 => m_dead h1 hw h2 _) (u_dead hw hf _) (g_dead _) z_wk_2⟩
theorem s_undo (hj : j + 7 ≤ Ln) (hL : Ln ≤ 3584) (hI : z_I S m A) : z_go (f340_2019 Ln xs 0 2390 2424 (nI j)) S m j := by
  have hI0 := hI
  obtain ⟨⟨hCR, hMR⟩, ⟨hw, hf⟩, _⟩ := hI0
  have hb : f340_2019 Ln xs 0 2390 2424 (nI j) = z_blk (z_wrap (f151 0 ) z_ea) (f308 2390 ) (nI j) := by
    unfold f340_2019
    rfl
  rw [hb]
  exact ⟨_, z_blk_ok hI (c_undo hw hCR ) (fun S m h1 h2 => m_undo h1 hw h2 ) (u_undo hf ) (g_undo ) z_wk_a⟩
theorem s_tell (hj : j + 7 ≤ Ln) (hL : Ln ≤ 3584) (hI : z_I S m A) : z_go (f340_2063 Ln xs 0 2390 2424 (nI j)) S m j := by
  have hI0 := hI
  obtain ⟨⟨hCR, hMR⟩, ⟨hw, hf⟩, _⟩ := hI0
  have G1 : ∀ {β : Type} (f : Unit → m_M β), m_B (m_G (q_ins (nI j + 1) Ln = true)) f = f () := fun f => m_BG (z_qi1 hj hL) f
  have G2 : ∀ {β : Type} (f : Unit → m_M β), m_B (m_G (q_ins (nI j + 2) Ln = true)) f = f () := fun f => m_BG (z_qi2 hj hL) f
  have hb : f340_2063 Ln xs 0 2390 2424 (nI j) = z_blk (z_wrap (f152 0 (xs (nI j + 1).toNatClampNeg) (xs (nI j + 2).toNatClampNeg)) z_et) (f238 2390 (xs (nI j + 1).toNatClampNeg) (xs (nI j + 2).toNatClampNeg)) (nI j) := by
    unfold f340_2063
    simp only [G1, G2]
    rfl
  rw [hb]
  exact ⟨_, z_blk_ok hI (c_tell hw hCR _ _) (fun S m h1 h2 => m_tell h1 hw h2 _ _) (u_tell hf _ _) (g_tell _ _) z_wk_t⟩
theorem s_node (hj : j + 7 ≤ Ln) (hL : Ln ≤ 3584) (hI : z_I S m A) : z_go (f340_2131 Ln xs 0 2390 2424 (nI j)) S m j := by
  have hI0 := hI
  obtain ⟨⟨hCR, hMR⟩, ⟨hw, hf⟩, _⟩ := hI0
  have G1 : ∀ {β : Type} (f : Unit → m_M β), m_B (m_G (q_ins (nI j + 1) Ln = true)) f = f () := fun f => m_BG (z_qi1 hj hL) f
  have G2 : ∀ {β : Type} (f : Unit → m_M β), m_B (m_G (q_ins (nI j + 2) Ln = true)) f = f () := fun f => m_BG (z_qi2 hj hL) f
  have G3 : ∀ {β : Type} (f : Unit → m_M β), m_B (m_G (q_ins (nI j + 3) Ln = true)) f = f () := fun f => m_BG (z_qi3 hj hL) f
  have hb : f340_2131 Ln xs 0 2390 2424 (nI j) = z_blk (z_wrap (f153 0 (xs (nI j + 1).toNatClampNeg) (xs (nI j + 2).toNatClampNeg) (xs (nI j + 3).toNatClampNeg)) z_et) (f240 2390 (xs (nI j + 1).toNatClampNeg) (xs (nI j + 2).toNatClampNeg) (xs (nI j + 3).toNatClampNeg)) (nI j) := by
    unfold f340_2131
    simp only [G1, G2, G3]
    rfl
  rw [hb]
  exact ⟨_, z_blk_ok hI (c_node hw hCR _ _ _) (fun S m h1 h2 => m_node h1 hw h2 _ _ _) (u_node hf _ _ _) (g_node _ _ _) z_wk_t⟩
end
