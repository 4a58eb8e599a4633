-- deps: 91.24.mrun9 91.30.fu 92.00.law 92.01.law 92.02.law 92.03.law 92.04.law 92.05.law 92.06.law 92.07.law 92.08.law 93.00.new 93.01.new2 93.02.new3 93.03.new4
/-! one call on both sides -/
section
variable {α β : Type} {S S1 S' : z_S} {m m1 m' : z_m} {A A' : z_A}
theorem z_CR_fr (hw : z_WA A) (h : z_CR S m A) (hr : ∀ a, a < 2390 → m' a = m a) : z_CR S m' A := by
  obtain ⟨sn, sx, sp, hI, ⟨⟨a1, a2, a3, a4, a5, a6⟩, t1, ⟨c1, c2, c3, c4⟩, l1, l2⟩⟩ := h
  have hsn := hI.2.2.2.1.1
  have hsp := hI.2.2.2.1.2.2
  have h10 := hw.2.2.2.1
  refine ⟨sn, sx, sp, hI, ⟨⟨fun s hs k hk => by rw [hr _ (by unfold z_bi z_pid; omega)]; exact a1 s hs k hk, fun k hk => by rw [hr _ (by unfold z_bi; omega)]; exact a2 k hk, by rw [hr _ (by decide)]; exact a3, by rw [hr _ (by decide)]; exact a4, by rw [hr _ (by decide)]; exact a5, by rw [hr _ (by decide)]; exact a6⟩, z_cT_fr (fun a ha => hr a (by omega)) t1, ⟨z_PK_fr (z_wf_nm hw.2.1.1) (fun a x y => hr a (by unfold z_pid at y; omega)) c1, ?_, by rw [hr 0 (by decide)]; exact c3, fun i hi => z_PK_fr (z_wf_nm (hw.2.2.2.2 i hi).1) (fun a x y => hr a (by have := hsp i (by omega); unfold z_pid at y; omega)) (c4 i hi)⟩, by rw [hr 10 (by decide)]; exact l1, by rw [hr 10 (by decide)]; exact l2⟩⟩
  cases hb : A.2.2.1 with
  | none => rw [hb] at c2; dsimp only at c2 ⊢; rw [hr 0 (by decide)]; exact c2
  | some Bg =>
    rw [hb] at c2
    dsimp only at c2 ⊢
    rw [hr 0 (by decide)]
    exact ⟨c2.1, z_PK_fr (z_wf_nm (hw.2.2.1 Bg hb).1) (fun a _ y => hr a (by omega)) c2.2⟩
/-- what is so between two calls -/
def z_I (S : z_S) (m : z_m) (A : z_A) : Prop := (z_CR S m A ∧ z_MR m A) ∧ (z_WA A ∧ z_FU A) ∧ z_MS S ∧ z_kd S 2424 = 22 ∧ z_ln S 2424 = 1
def z_SJ (S : z_S) (v : Int64) : z_S := (S.1, S.2.1, S.2.2.1, S.2.2.2.1, q_up S.2.2.2.2.1 2424 0 v, S.2.2.2.2.2.1, S.2.2.2.2.2.2)
theorem z_wJ {v : Int64} (hk : z_kd S 2424 = 22) (hl : z_ln S 2424 = 1) : m_wJ 2424 0 v (z_hp S m) = some ((), z_hp (z_SJ S v) m) := by
  unfold m_wJ
  rw [show q_kd (z_hp S m) 2424 = z_kd S 2424 from rfl, show q_ln (z_hp S m) 2424 = z_ln S 2424 from rfl, hl, if_pos ⟨hk, rfl⟩]; rfl
theorem z_lJ (hk : z_kd S 2424 = 22) (hl : z_ln S 2424 = 1) : m_lJ 2424 0 (z_hp S m) = some (S.2.2.2.2.1 2424 0, z_hp S m) := by
  unfold m_lJ
  rw [show q_kd (z_hp S m) 2424 = z_kd S 2424 from rfl, show q_ln (z_hp S m) 2424 = z_ln S 2424 from rfl, hl, if_pos ⟨hk, rfl⟩]; rfl
/-- a call of the class, what it throws as a number -/
def z_wrap (C : m_M (Int32 ⊕ Nat)) (E : Nat → m_M Int32) : m_M Int32 := m_B (m_aK 0 11) (fun _ => m_T C (fun v2 => m_B (m_wJ 2424 0 (v2.toInt64)) (fun _ => m_R 0)) (fun E3 => m_B (m_G (E3 < 3)) (fun _ => E E3)))
/-- both calls, and what they answer compared -/
def z_blk (W M : m_M Int32) (j : Int32) : m_M ((Nat × Nat × Nat × Int32) ⊕ Int32) := m_B W (fun v2 => m_B (m_aK 2390 12) (fun _ => m_B M (fun v5 => m_B (m_aK 2390 12) (fun _ => m_B (f177 2390) (fun v7 => if v7 = v2 then (if v2 = 0 then (m_B (m_lJ 2424 0) (fun v8 => if (lg_cmp v8 (v5.toInt64)) = 0 then (m_R (.inl (0, 2390, 2424, (j + 7)))) else (m_B (m_R 0) (fun r => m_R (.inr r))))) else (m_R (.inl (0, 2390, 2424, (j + 7))))) else (m_B (m_R 0) (fun r => m_R (.inr r))))))))
theorem m_BG {p : Prop} [Decidable p] (h : p) (f : Unit → m_M β) : m_B (m_G p) f = f () := by
  funext x
  unfold m_B m_G
  rw [if_pos h]
theorem z_cmp0 (x : Int64) : lg_cmp x x = 0 := by
  unfold lg_cmp
  simp
/-- which exceptions -/
def z_il (r : Int32 ⊕ Nat) (l : List Nat) : Prop := match r with
  | .inl _ => True
  | .inr E => E ∈ l
/-- the wrapper knows these exceptions -/
def z_wk (E : Nat → m_M Int32) (cd : Nat → Int32) (l : List Nat) : Prop := ∀ e ∈ l, e < 3 ∧ E e = m_R (cd e) ∧ cd e ≠ 0
theorem z_blk_ok {C : m_M (Int32 ⊕ Nat)} {E : Nat → m_M Int32} {M : m_M Int32} {r : Int32 ⊕ Nat} {l : List Nat} {cd : Nat → Int32} {j : Int32} (hI : z_I S m A) (hC : ∃ S1 m1, C (z_hp S m) = some (r, z_hp S1 m1) ∧ z_CR S1 m1 A' ∧ z_SS S S1 ∧ ∀ a, 2390 ≤ a → m1 a = m a) (hM : ∀ (S : z_S) (m : z_m), z_MS S → z_MR m A → (∃ v m1, M (z_hp S m) = some (v, z_hp S m1) ∧ z_MR m1 A' ∧ (∀ b, b < 2390 ∨ 2424 ≤ b → m1 b = m b) ∧ z_ans cd r v (m1 2390 0)) ∧ z_WA A') (hF : z_FU A') (hl : z_il r l) (hk : z_wk E cd l) : ∃ S2 m2, z_blk (z_wrap C E) M j (z_hp S m) = some (.inl (0, 2390, 2424, (j + 7)), z_hp S2 m2) ∧ z_I S2 m2 A' ∧ S2.2.2.2.2.2.1 ≤ S.2.2.2.2.2.1 + 1 ∧ S2.2.2.2.2.2.2 ≤ S.2.2.2.2.2.2 + 6 := by
  obtain ⟨⟨hCR, hMR⟩, ⟨hw, hf⟩, hMS, h22, hl1⟩ := hI
  obtain ⟨S1, m1, e1, c1, s1, f1⟩ := hC
  have hMS1 := z_MS_SS s1 hMS
  have k0 : z_kd S 0 = 11 := by obtain ⟨_, _, _, hID, _⟩ := hCR; exact hID.1.k0
  have g22 : z_kd S1 2424 = 22 := by unfold z_kd; rw [s1.2.1]; exact h22
  have gl1 : z_ln S1 2424 = 1 := by unfold z_ln; rw [s1.2.2.1]; exact hl1
  have hMR1 : z_MR m1 A := z_MR_fr (fun a x _ => f1 a x) hMR
  have mk : ∀ (S2 : z_S), z_CR S2 m1 A' → z_MS S2 → z_kd S2 2424 = 22 → z_ln S2 2424 = 1 → S2.2.2.2.2.2.1 = S1.2.2.2.2.2.1 → S2.2.2.2.2.2.2 = S1.2.2.2.2.2.2 → ∀ m2, z_MR m2 A' → (∀ b, b < 2390 ∨ 2424 ≤ b → m2 b = m1 b) → z_WA A' → z_I S2 m2 A' ∧ S2.2.2.2.2.2.1 ≤ S.2.2.2.2.2.1 + 1 ∧ S2.2.2.2.2.2.2 ≤ S.2.2.2.2.2.2 + 6 := fun S2 q1 q2 q3 q4 q5 q6 m2 r1 r2 r3 => ⟨⟨⟨z_CR_fr r3 q1 (fun a ha => r2 a (Or.inl ha)), r1⟩, ⟨r3, hF⟩, q2, q3, q4⟩, by rw [q5]; exact s1.2.2.2.2.2.1, by rw [q6]; exact s1.2.2.2.2.2.2⟩
  have e177 : ∀ (S2 : z_S) (m2 : z_m), z_MS S2 → f177 2390 (z_hp S2 m2) = some (m2 2390 0, z_hp S2 m2) := fun S2 m2 hM2 => by
    unfold f177
    rw [zB_gI hM2.k]; rfl
  have eaK : ∀ (S2 : z_S) (m2 : z_m), z_MS S2 → m_aK 2390 12 (z_hp S2 m2) = some ((), z_hp S2 m2) := fun S2 m2 hM2 => by
    unfold m_aK
    rw [show q_kd (z_hp S2 m2) 2390 = z_kd S2 2390 from rfl, if_pos hM2.k]
  have ea0 : m_aK 0 11 (z_hp S m) = some ((), z_hp S m) := by
    unfold m_aK
    rw [show q_kd (z_hp S m) 0 = z_kd S 0 from rfl, if_pos k0]
  cases r with
  | inl v =>
    obtain ⟨⟨v', m2, e2, r1, r2, rfl, r4⟩, hw'⟩ := hM (z_SJ S1 v.toInt64) m1 hMS1 hMR1
    have eW : z_wrap C E (z_hp S m) = some (0, z_hp (z_SJ S1 v'.toInt64) m1) := by
      unfold z_wrap
      refine Rn_B ea0 ?_
      unfold m_T
      rw [e1]
      exact Rn_B (z_wJ g22 gl1) rfl
    obtain ⟨x1, x2⟩ := mk (z_SJ S1 v'.toInt64) c1 hMS1 g22 gl1 rfl rfl m2 r1 r2 hw'
    refine ⟨_, m2, ?_, x1, x2⟩
    unfold z_blk
    refine Rn_B eW (Rn_B (eaK (z_SJ S1 v'.toInt64) m1 hMS1) (Rn_B e2 (Rn_B (eaK (z_SJ S1 v'.toInt64) m2 hMS1) (Rn_B (e177 (z_SJ S1 v'.toInt64) m2 hMS1) ?_))))
    rw [if_pos r4, if_pos rfl]
    refine Rn_B (z_lJ (S := z_SJ S1 v'.toInt64) g22 gl1) ?_
    have : (z_SJ S1 v'.toInt64).2.2.2.2.1 2424 0 = v'.toInt64 := by
      show q_up S1.2.2.2.2.1 2424 0 v'.toInt64 2424 0 = _
      unfold q_up
      exact if_pos ⟨rfl, rfl⟩
    rw [this, z_cmp0, if_pos rfl]; rfl
  | inr e =>
    obtain ⟨⟨v', m2, e2, r1, r2, r4⟩, hw'⟩ := hM S1 m1 hMS1 hMR1
    obtain ⟨k1, k2, k3⟩ := hk e hl
    have r4 : m2 2390 0 = cd e := r4
    have eW : z_wrap C E (z_hp S m) = some (cd e, z_hp S1 m1) := by
      unfold z_wrap
      refine Rn_B ea0 ?_
      unfold m_T
      rw [e1]
      dsimp only
      rw [m_BG k1, k2]; rfl
    obtain ⟨x1, x2⟩ := mk S1 c1 hMS1 g22 gl1 rfl rfl m2 r1 r2 hw'
    refine ⟨_, m2, ?_, x1, x2⟩
    unfold z_blk
    refine Rn_B eW (Rn_B (eaK S1 m1 hMS1) (Rn_B e2 (Rn_B (eaK S1 m2 hMS1) (Rn_B (e177 S1 m2 hMS1) ?_))))
    rw [if_pos r4, if_neg k3]; rfl
end
