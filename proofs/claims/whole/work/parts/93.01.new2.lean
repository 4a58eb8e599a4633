-- deps: 93.00.new
/-! a program is made -/
section
variable {β : Type} {S S' S0 S1 : z_S} {m m' m0 m1 : z_m} {n w n1 w1 : Nat}
def z_ps : List (Nat × Nat × Nat) := [(0, 20, 6), (1, 20, 6), (2, 20, 96), (3, 20, 24), (4, 20, 24), (5, 20, 24), (6, 20, 48), (7, 20, 48), (8, 20, 24), (9, 24, 24)]
theorem z_f69_e (l0 : Nat) : f69 l0 = z_fb 7 l0 z_ps (m_B (m_pI 7 l0 13 (-1)) (fun _ => f69_92 l0 0)) := rfl
/-- k bodies of a program made -/
def z_pi (S0 : z_S) (m0 : z_m) (k : Nat) (S : z_S) (m : z_m) : Prop := z_E S0 m0 S m (11 + 7 * k) (15 + 324 + 374 * k) ∧ z_kd S S0.1 = 7 ∧ (∀ j, j < 10 → z_rm S S0.1 j = some (S0.1 + 1 + j) ∧ z_kd S (S0.1 + 1 + j) = (if j = 9 then 24 else 20) ∧ z_ln S (S0.1 + 1 + j) = z_pl j) ∧ ∀ i, i < k → z_rm S (S0.1 + 10) i = some (z_bi S0.1 i) ∧ z_BS S (z_bi S0.1 i) 60 ∧ m (z_bi S0.1 i) 6 = nI 60
theorem z_pi_l (h : S0.1 + 179 ≤ 1000000) : ∀ (d k F : Nat) (S : z_S) (m : z_m), k + d = 24 → d < F → z_pi S0 m0 k S m → ∃ S' m', m_W (fun s => f69_92b (s.1) (s.2)) F (S0.1, nI k) (z_hp S m) = some ((), z_hp S' m') ∧ z_pi S0 m0 24 S' m'
  | 0, k, F + 1, S, m, hd, _, hP => by
    obtain rfl : k = 24 := by omega
    refine ⟨S, m, ?_, hP⟩
    unfold m_W m_B
    rfl
  | d + 1, k, F + 1, S, m, hd, hF, hP => by
    obtain ⟨hE, h7, hA, hB⟩ := hP
    have hk : k < 24 := by omega
    have h1 : S.1 = S0.1 + (11 + 7 * k) := hE.1
    obtain ⟨r9, k9, l9⟩ := hA 9 (by decide)
    have r9 : z_rm S S0.1 9 = some (S0.1 + 10) := r9
    have k9 : z_kd S (S0.1 + 10) = 24 := k9
    have l9 : z_ln S (S0.1 + 10) = 24 := l9
    obtain ⟨S1, m1, e0, E1, B1, c1⟩ := z_nB (S := S) (m := m) (R := 60) (x := 60) rfl (by decide) (by omega)
    have kb : z_kd S1 S.1 = 0 := B1.1
    have k9' : z_kd S1 (S0.1 + 10) = 24 := by rw [(E1.2.2.2.1 _ (by omega)).1]; exact k9
    have l9' : z_ln S1 (S0.1 + 10) = 24 := by rw [(E1.2.2.2.1 _ (by omega)).2.1]; exact l9
    have hlt : nI k < 24 := (nI_ltI (b := 24) (by omega) (by decide)).mpr hk
    have step : f69_92b S0.1 (nI k) (z_hp S m) = some (.inl (S0.1, nI (k + 1)), z_hp (z_Sr S1 (S0.1 + 10) k (some S.1)) m1) := by
      have ew := zB_wR4 (S := S1) (m := m1) (r := S0.1 + 10) (k := k) (v := S.1) (f := fun _ => (m_R (.inl (S0.1, nI k + 1)) : m_M ((Nat × Int32) ⊕ Unit))) k9' kb (by omega) (by omega)
      unfold f69_92b
      rw [if_pos hlt, zB_gR h7, r9]
      show m_B (m_nO 0) _ (z_hp S m) = _
      rw [zB_nO (show S.1 < 1000000 by omega)]
      show m_B (f0 S.1 60) _ (z_hp (z_Sn S 0 8) (z_u0 m S.1)) = _
      unfold m_B at ew ⊢
      rw [e0]
      dsimp only
      rw [ew, z_addl k 1]; rfl
    have E2 := (hE.trans E1).r (l := S0.1 + 10) (j := k) (v := some S.1) (by omega)
    have hP2 : z_pi S0 m0 (k + 1) (z_Sr S1 (S0.1 + 10) k (some S.1)) m1 := by
      refine ⟨?_, ?_, fun j hj => ?_, fun i hi => ?_⟩
      · have q1 : 11 + 7 * k + 7 = 11 + 7 * (k + 1) := by omega
        have q2 : 15 + 324 + 374 * k + (8 + 6 * (60 + 1)) = 15 + 324 + 374 * (k + 1) := by omega
        rw [q1, q2] at E2
        exact E2
      · rw [z_kd_r, (E1.2.2.2.1 _ (by omega)).1]; exact h7
      · obtain ⟨x1, x2, x3⟩ := hA j hj
        refine ⟨?_, ?_, ?_⟩
        · rw [z_rm_r, if_neg (fun q => by omega), (E1.2.2.2.1 _ (by omega)).2.2.1]; exact x1
        · rw [z_kd_r, (E1.2.2.2.1 _ (by omega)).1]; exact x2
        · rw [z_ln_r, (E1.2.2.2.1 _ (by omega)).2.1]; exact x3
      · have bsr : ∀ b, b ≠ S0.1 + 10 → z_BS S1 b 60 → z_BS (z_Sr S1 (S0.1 + 10) k (some S.1)) b 60 := fun b hb hB => ⟨hB.1, fun j hj => ⟨by rw [z_rm_r, if_neg (fun q => hb q.1)]; exact (hB.2 j hj).1, (hB.2 j hj).2⟩⟩
        rcases Nat.lt_or_ge i k with g | g
        · obtain ⟨x1, x2, x3⟩ := hB i g
          have hbi : z_bi S0.1 i = S0.1 + 11 + 7 * i := rfl
          refine ⟨?_, bsr _ (by omega) (z_BS_E E1 (by omega) x2), ?_⟩
          · rw [z_rm_r, if_neg (fun q => by omega), (E1.2.2.2.1 _ (by omega)).2.2.1]; exact x1
          · rw [(E1.2.2.2.1 _ (by omega)).2.2.2]; exact x3
        · obtain rfl : i = k := by omega
          have hbi : z_bi S0.1 i = S.1 := by unfold z_bi; omega
          rw [hbi]
          exact ⟨by rw [z_rm_r, if_pos ⟨rfl, rfl⟩], bsr _ (by omega) B1, c1⟩
    obtain ⟨S', m', q1, q2⟩ := z_pi_l h d (k + 1) F _ m1 (by omega) (by omega) hP2
    refine ⟨S', m', ?_, q2⟩
    unfold m_W m_B
    dsimp only
    rw [step]
    exact q1
theorem z_nP (h : S.1 + 179 ≤ 1000000) : ∃ S' m', f69 S.1 (z_hp (z_Sn S 7 15) (z_u0 m S.1)) = some ((), z_hp S' m') ∧ z_E S m S' m' 179 9315 ∧ z_PS S' S.1 ∧ ∀ k, k < 24 → m' (z_bi S.1 k) 6 = nI 60 := by
  have hk : z_kd (z_Sn S 7 15) S.1 = 7 := by rw [z_kd_n, if_pos rfl]
  obtain ⟨S1, m1, q1, q2, q3, q4, q5⟩ := z_fb_sp (S0 := S) (m0 := m) (c := 7) (l0 := S.1) (K := m_B (m_pI 7 S.1 13 (-1)) (fun _ => f69_92 S.1 0)) z_ps (z_Sn S 7 15) (z_u0 m S.1) 1 15 (z_E_n S m 7 15) (Nat.le_refl _) (Nat.lt_succ_self _) hk (show S.1 + 1 + 10 ≤ 1000000 by omega) (by decide) (by decide)
  have hk1 : z_kd S1 S.1 = 7 := by rw [(q3 S.1 (Nat.lt_succ_self _)).1]; exact hk
  have hP : z_pi S m 0 S1 (z_up m1 S.1 13 (-1)) := by
    refine ⟨q2.i (Nat.le_refl _) (Or.inr ⟨hk1, rfl⟩), hk1, fun j hj => ?_, fun i hi => absurd hi (Nat.not_lt_zero _)⟩
    have hj2 : j = 0 ∨ j = 1 ∨ j = 2 ∨ j = 3 ∨ j = 4 ∨ j = 5 ∨ j = 6 ∨ j = 7 ∨ j = 8 ∨ j = 9 := by omega
    have key := q4 j (j, (if j = 9 then 24 else 20), z_pl j) (by rcases hj2 with rfl | rfl | rfl | rfl | rfl | rfl | rfl | rfl | rfl | rfl <;> rfl)
    exact ⟨key.2.2, key.1, key.2.1⟩
  obtain ⟨S', m', r1, hE, r7, rA, rB⟩ := z_pi_l h 24 0 1000000 S1 _ (by omega) (by omega) hP
  have r1 : f69_92 S.1 0 (z_hp S1 (z_up m1 S.1 13 (-1))) = some ((), z_hp S' m') := r1
  refine ⟨S', m', ?_, hE, ⟨r7, rA, fun k hk => ⟨(rB k hk).1, (rB k hk).2.1⟩⟩, fun k hk => (rB k hk).2.2⟩
  rw [z_f69_e, q1, zB_pI hk1]
  exact r1
theorem z_PS_E {p : Nat} (h : z_E S m S' m' n w) (hp : p + 179 ≤ S.1) (hP : z_PS S p) : z_PS S' p := by
  have a4 := h.2.2.2.1
  refine ⟨by rw [(a4 p (by omega)).1]; exact hP.1, fun j hj => ?_, fun k hk => ?_⟩
  · obtain ⟨x1, x2, x3⟩ := hP.2.1 j hj
    exact ⟨by rw [(a4 p (by omega)).2.2.1]; exact x1, by rw [(a4 _ (by omega)).1]; exact x2, by rw [(a4 _ (by omega)).2.1]; exact x3⟩
  · obtain ⟨x1, x2⟩ := hP.2.2 k hk
    exact ⟨by rw [(a4 _ (by omega)).2.2.1]; exact x1, z_BS_E h (by unfold z_bi; omega) x2⟩
end
