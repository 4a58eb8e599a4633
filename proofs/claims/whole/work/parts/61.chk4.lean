/-! the checker: Checker.isRightBody -/
section
variable {S : z_S} {m : z_m} {p b R k : Nat} {P : z_Pg} {l : List z_N}
/-- the open nodes F (0) .. F (d - 1), what is done D, while the last place looked at is i: those that end behind i are open or done -/
def z_OP (m : z_m) (l : List z_N) (F : Nat → Nat) (D : Nat → Prop) (d i : Nat) : Prop := (∀ q, q < d → m 9 q = nI (F q) ∧ F q ≤ i ∧ i < z_en l (F q) ∧ ¬ D (F q)) ∧ (∀ q q', q < q' → q' < d → F q < F q') ∧ (∀ j, j ≤ i → z_en l j ≤ i → D j) ∧ (∀ j, j ≤ i → i < z_en l j → (∃ q, q < d ∧ F q = j) ∨ (z_en l j = i + 1 ∧ D j)) ∧ ∀ j, D j → z_en l j ≤ i + 1
theorem z_inc {F : Nat → Nat} {d : Nat} (h : ∀ q q', q < q' → q' < d → F q < F q') : ∀ q, q < d → q ≤ F q
  | 0, _ => Nat.zero_le _
  | q + 1, hq => by
    have h1 := z_inc h q (by omega)
    have h2 := h q (q + 1) (by omega) hq
    omega
/-- the memory that the checker may change -/
def z_kF (b : Nat) (m m' : z_m) : Prop := ∀ a, a ≠ 9 → a ≠ b + 4 → a ≠ b + 5 → a ≠ b + 6 → m' a = m a
theorem z_kF.refl (b : Nat) (m : z_m) : z_kF b m m := fun _ _ _ _ _ => rfl
theorem z_kF.trans {b : Nat} {m m' m'' : z_m} (h : z_kF b m m') (h2 : z_kF b m' m'') : z_kF b m m'' := fun a h3 h4 h5 h6 => (h2 a h3 h4 h5 h6).trans (h a h3 h4 h5 h6)
theorem f23_in (hX : z_XS S) (hp : z_PS S p) (hw : z_wf P) (hk : k < z_nm P) (hl : z_liv P k = true) (hb : z_BS S b R) (ha : z_ap p b) (h9 : 9 < p ∧ 9 < b) (hB : z_wB (z_nc P) l) {i : Nat} (hi : i < l.length) : ∀ (N d : Nat) (F : Nat → Nat) (D : Nat → Prop) (m : z_m), d < N → d ≤ i + 1 → z_CK m p P b R l → z_DN m P k b l D → z_OP m l F D d i → (∃ (m' : z_m) (d' : Nat) (F' : Nat → Nat) (D' : Nat → Prop), m_W (fun s => f23_31b (s.1) (s.2.1) (s.2.2.1) (s.2.2.2.1) (s.2.2.2.2.1) (s.2.2.2.2.2)) N (8, p, nI k, b, nI d, nI i) (z_hp S m) = some (.inl (8, p, nI k, b, nI d', nI (i + 1)), z_hp S m') ∧ d' ≤ i + 1 ∧ z_CK m' p P b R l ∧ z_DN m' P k b l D' ∧ (∀ q, q < d' → m' 9 q = nI (F' q) ∧ F' q < i + 1 ∧ i + 1 < z_en l (F' q) ∧ ¬ D' (F' q)) ∧ (∀ q q', q < q' → q' < d' → F' q < F' q') ∧ (∀ j, j < i + 1 → z_en l j ≤ i + 1 → D' j) ∧ (∀ j, j < i + 1 → i + 1 < z_en l j → ∃ q, q < d' ∧ F' q = j) ∧ (∀ j, D' j → z_en l j ≤ i + 1) ∧ z_kF b m m') ∨ (∃ m', m_W (fun s => f23_31b (s.1) (s.2.1) (s.2.2.1) (s.2.2.2.1) (s.2.2.2.2.1) (s.2.2.2.2.2)) N (8, p, nI k, b, nI d, nI i) (z_hp S m) = some (.inr 0, z_hp S m') ∧ z_kF b m m' ∧ ¬ z_rt P k l)
  | 0, d, F, D, m, hN, _, _, _, _ => by omega
  | N + 1, d, F, D, m, hN, hd1, hc, hD, hO => by
    have hR := hc.2.1.2.2.1
    have hR2 := hc.2.1.2.2.2.1
    have h24 := hw.2.2.1
    obtain ⟨o1, o2, o3, o4, o5⟩ := hO
    have exitc : (∀ q, q < d → i + 1 < z_en l (F q)) → (∀ q, q < d → m 9 q = nI (F q) ∧ F q < i + 1 ∧ i + 1 < z_en l (F q) ∧ ¬ D (F q)) ∧ (∀ q q', q < q' → q' < d → F q < F q') ∧ (∀ j, j < i + 1 → z_en l j ≤ i + 1 → D j) ∧ (∀ j, j < i + 1 → i + 1 < z_en l j → ∃ q, q < d ∧ F q = j) ∧ (∀ j, D j → z_en l j ≤ i + 1) ∧ z_kF b m m := by
      intro hall
      refine ⟨fun q hq => ⟨(o1 q hq).1, by have := (o1 q hq).2.1; omega, hall q hq, (o1 q hq).2.2.2⟩, o2, fun j h1 h2 => ?_, fun j h1 h2 => ?_, o5, z_kF.refl b m⟩
      · rcases Nat.lt_or_ge i (z_en l j) with h3 | h3
        · rcases o4 j (by omega) h3 with ⟨q, hq, e⟩ | ⟨_, h4⟩
          · have := hall q hq; rw [e] at this; omega
          · exact h4
        · exact o3 j (by omega) h3
      · rcases o4 j (by omega) (by omega) with h3 | ⟨h3, _⟩
        · exact h3
        · omega
    unfold m_W m_B
    unfold f23_31b f23_111 f23_103
    rcases Nat.eq_zero_or_pos d with hd0 | hd0
    · left
      refine ⟨m, d, F, D, ?_, hd1, hc, hD, exitc (fun q hq => by omega)⟩
      subst hd0
      simp (disch := ((try simp only [true_or, or_true]) <;> (try omega))) only [↓reduceIte, ↓z_ite, ↓zR, ↓zB_R, ↓zB_B, ↓zB_ite, ↓zB_gI, ↓zB_pI, ↓zB_pZ, ↓zB_aK, ↓zB_G, ↓zB_lI, ↓zB_lZ, ↓zB_wI, ↓zB_wZ, ↓zB_lIl, ↓zB_wIl, zB_pI, zB_pZ, zB_lI, zB_lZ, zB_wI, zB_wZ, z_addl, z_ladd, z_mull, z_lmul, nI_add, z_subl, Nat.not_lt_zero, z_10, z_01, z_bitc, z_b0, z_b1, ↓zB_Gb, ↓zB_G0, ↓zB_G1, z_eql, z_leq, z_ltl, z_llt, z_eq, z_lt, z_m1lt, Nat.lt_irrefl]
    · have ht := o1 (d - 1) (by omega)
      have hFi := ht.2.1
      have hlt : F (d - 1) < l.length := by omega
      have hen := hc.2.2 _ hlt
      have hle := z_en_le hB.1 hlt
      by_cases g : z_en l (F (d - 1)) = i + 1
      · -- popped
        have hparts : ∀ q, q < z_p l (F (d - 1)) → D (z_pt l (F (d - 1)) q) := by
          intro q hq
          have h1 := z_pt_en hlt hq
          have h2 := z_pt_ge (l := l) (i := F (d - 1)) q
          have h3 := z_en_gt (z_pt_lt hB.1 hlt hq)
          rcases Nat.lt_or_ge i (z_en l (z_pt l (F (d - 1)) q)) with h4 | h4
          · rcases o4 _ (by omega) h4 with ⟨q', hq', e⟩ | ⟨_, h5⟩
            · exfalso
              rcases Nat.lt_or_ge q' (d - 1) with h6 | h6
              · have := o2 q' (d - 1) h6 (by omega); omega
              · rw [show q' = d - 1 by omega] at e; omega
            · exact h5
          · exact o3 _ (by omega) h4
        have hlets : ∀ j, j < F (d - 1) → F (d - 1) < z_en l j → z_en l (j + 1) ≤ F (d - 1) → D (j + 1) := fun j h1 h2 h3 => o3 (j + 1) (by omega) (by omega)
        -- after bound is cleared
        have hc1 : z_CK (z_up m (b + 6) (F (d - 1)) 0) p P b R l := z_CK_fr h24 ha (fun a _ h6 => z_up_row h6) hc
        have r5 : z_up m (b + 6) (F (d - 1)) 0 (b + 5) = m (b + 5) := z_up_row (by omega)
        obtain ⟨v, e24, hv⟩ := f24_sp (k := k) hp hw hk hl hb hc1 ha hB hlt (fun q hq => by rw [r5]; exact (hD.2 _ (hparts q hq)).2.2.2) (fun j h1 h2 h3 _ => by rw [r5]; exact (hD.2 _ (hlets j h1 h2 h3)).2.2.2) (z_up_s _ _ _ _)
        rw [r5] at e24 hv
        have tw := z_st_tw (T := m (b + 5)) hw hk hB hlt (fun q hq => (hD.2 _ (hparts q hq)).2.2.2) (fun j h1 h2 h3 _ => (hD.2 _ (hlets j h1 h2 h3)).2.2.2)
        have hc2 : z_CK (z_up (z_up (z_up m (b + 6) (F (d - 1)) 0) (b + 6) (F (d - 1)) v) (b + 5) (F (d - 1)) (z_st P k l (m (b + 5)) (F (d - 1)))) p P b R l := z_CK_fr h24 ha (fun a h5 h6 => by rw [z_up_row h5, z_up_row h6]) hc1
        have hk2 : z_kF b m (z_up (z_up (z_up m (b + 6) (F (d - 1)) 0) (b + 6) (F (d - 1)) v) (b + 5) (F (d - 1)) (z_st P k l (m (b + 5)) (F (d - 1)))) := fun a _ _ h5 h6 => by rw [z_up_row h5, z_up_row h6, z_up_row h6]
        by_cases g3 : z_st P k l (m (b + 5)) (F (d - 1)) = -3
        · right
          refine ⟨_, ?_, hk2, ?_⟩
          · simp (disch := ((try simp only [true_or, or_true, hb.k, hb.k1, hb.k2, hb.k3, hb.k4, hb.k5, hb.k6, hb.l1, hb.l2, hb.l3, hb.l4, hb.l5, hb.l6, hX.k8, hX.k9, hX.l9]) <;> (try omega))) only [↓reduceIte, ↓z_ite, ↓zR, ↓zB_R, ↓zB_B, ↓zB_ite, ↓zB_gI, ↓zB_pI, ↓zB_pZ, ↓zB_aK, ↓zB_G, ↓zB_lI, ↓zB_lZ, ↓zB_wI, ↓zB_wZ, ↓zB_lIl, ↓zB_wIl, zB_pI, zB_pZ, zB_lI, zB_lZ, zB_wI, zB_wZ, z_addl, z_ladd, z_mull, z_lmul, nI_add, z_subl, Nat.not_lt_zero, z_10, z_01, z_bitc, z_b0, z_b1, ↓zB_Gb, ↓zB_G0, ↓zB_G1, z_eql, z_leq, z_ltl, z_llt, z_eq, z_lt, z_m1lt, hb.k, hb.k1, hb.k2, hb.k3, hb.k4, hb.k5, hb.k6, hb.l1, hb.l2, hb.l3, hb.l4, hb.l5, hb.l6, hX.k8, hX.k9, hX.l9, ↓hb.g0, ↓hb.g1, ↓hb.g2, ↓hb.g3, ↓hb.g4, ↓hb.g5, ↓hX.g8_0, hd0, ht.1, hen, g, ↓zB_c e24, zB_c e24, z_up_s, g3]
          · rintro ⟨T, hT⟩
            have hu := z_DN_uq hB hD hT
            have h1 := (hT.1 _ hlt).2
            apply h1
            rw [(hT.1 _ hlt).1, ← g3]
            exact (z_st_congr hB hlt (fun q hq => hu _ (z_pt_lt hB.1 hlt hq) (hparts q hq)) (fun j h2 h3 h4 _ => hu _ (by omega) (hlets j h2 h3 h4))).symm
        · -- go on
          have hD2 : z_DN (z_up (z_up (z_up m (b + 6) (F (d - 1)) 0) (b + 6) (F (d - 1)) v) (b + 5) (F (d - 1)) (z_st P k l (m (b + 5)) (F (d - 1)))) P k b l D := z_DN_fr (fun j hj => by
            have hne : j ≠ F (d - 1) := fun e => ht.2.2.2 (e ▸ hj)
            refine ⟨?_, ?_⟩
            · rw [z_up_b hne, z_up_row (by omega), z_up_row (by omega)]
            · rw [z_up_row (by omega), z_up_b hne, z_up_b hne]) hB hD
          generalize hm2 : z_up (z_up (z_up m (b + 6) (F (d - 1)) 0) (b + 6) (F (d - 1)) v) (b + 5) (F (d - 1)) (z_st P k l (m (b + 5)) (F (d - 1))) = m2 at hc2 hk2 hD2
          have e5 : m2 (b + 5) (F (d - 1)) = z_st P k l (m (b + 5)) (F (d - 1)) := by rw [← hm2, z_up_s]
          have e6 : m2 (b + 6) (F (d - 1)) = v := by rw [← hm2, z_up_row (by omega), z_up_s]
          have e9 : m2 9 = m 9 := by rw [← hm2, z_up_row (by omega), z_up_row (by omega), z_up_row (by omega)]
          have eqD : ∀ j, D j → m2 (b + 5) j = m (b + 5) j := fun j hj => by
            have hne : j ≠ F (d - 1) := fun e => ht.2.2.2 (e ▸ hj)
            rw [← hm2, z_up_b hne, z_up_row (by omega), z_up_row (by omega)]
          have est : z_st P k l (m2 (b + 5)) (F (d - 1)) = z_st P k l (m (b + 5)) (F (d - 1)) := z_st_congr hB hlt (fun q hq => eqD _ (hparts q hq)) (fun j h2 h3 h4 _ => eqD _ (hlets j h2 h3 h4))
          have ebs : z_bs P k l (m2 (b + 5)) (F (d - 1)) = z_bs P k l (m (b + 5)) (F (d - 1)) := z_bs_congr hB hlt (fun q hq => eqD _ (hparts q hq))
          have hD3 : z_DN m2 P k b l (fun j => D j ∨ j = F (d - 1)) := by
            refine ⟨fun j hj => ?_, fun j hj => ?_⟩
            · rcases hj with hj | rfl
              · obtain ⟨h1, h2, h3⟩ := hD2.1 j hj
                exact ⟨h1, fun q hq => Or.inl (h2 q hq), fun q h4 h5 h6 => Or.inl (h3 q h4 h5 h6)⟩
              · exact ⟨hlt, fun q hq => Or.inl (hparts q hq), fun q h4 h5 h6 => Or.inl (hlets q h4 h5 h6)⟩
            · rcases hj with hj | rfl
              · exact hD2.2 j hj
              · rw [e5, e6, est, ebs]
                exact ⟨rfl, g3, hv g3, tw⟩
          have hO3 : z_OP m2 l F (fun j => D j ∨ j = F (d - 1)) (d - 1) i := by
            refine ⟨fun q hq => ?_, fun q q' h1 h2 => o2 q q' h1 (by omega), fun j h1 h2 => Or.inl (o3 j h1 h2), fun j h1 h2 => ?_, fun j h1 => by rcases h1 with h1 | h1; exact o5 j h1; rw [h1]; omega⟩
            · have h3 := o1 q (by omega)
              have h4 := o2 q (d - 1) hq (by omega)
              rw [e9]
              exact ⟨h3.1, h3.2.1, h3.2.2.1, fun h5 => by rcases h5 with h5 | h5; exact h3.2.2.2 h5; omega⟩
            · rcases o4 j h1 h2 with ⟨q, hq, e⟩ | ⟨h3, h4⟩
              · rcases Nat.lt_or_ge q (d - 1) with h5 | h5
                · exact Or.inl ⟨q, h5, e⟩
                · rw [show q = d - 1 by omega] at e
                  exact Or.inr ⟨by rw [← e]; exact g, Or.inr e.symm⟩
              · exact Or.inr ⟨h3, Or.inl h4⟩
          have ih := f23_in hX hp hw hk hl hb ha h9 hB hi N (d - 1) F _ m2 (by omega) (by omega) hc2 hD3 hO3
          have estep : ∀ (X : Option (((Nat × Nat × Int32 × Nat × Int32 × Int32) ⊕ Int32) × q_H)), m_W (fun s => f23_31b (s.1) (s.2.1) (s.2.2.1) (s.2.2.2.1) (s.2.2.2.2.1) (s.2.2.2.2.2)) N (8, p, nI k, b, nI (d - 1), nI i) (z_hp S m2) = X → m_W (fun s => f23_31b (s.1) (s.2.1) (s.2.2.1) (s.2.2.2.1) (s.2.2.2.2.1) (s.2.2.2.2.2)) (N + 1) (8, p, nI k, b, nI d, nI i) (z_hp S m) = X := by
            intro X hX2
            rw [← hX2]
            show m_B (f23_31b 8 p (nI k) b (nI d) (nI i)) _ _ = _
            have e1 : f23_31b 8 p (nI k) b (nI d) (nI i) (z_hp S m) = some (.inl (8, p, nI k, b, nI (d - 1), nI i), z_hp S m2) := by
              rw [← hm2]
              unfold f23_31b f23_111 f23_103
              simp (disch := ((try simp only [true_or, or_true, hb.k, hb.k1, hb.k2, hb.k3, hb.k4, hb.k5, hb.k6, hb.l1, hb.l2, hb.l3, hb.l4, hb.l5, hb.l6, hX.k8, hX.k9, hX.l9]) <;> (try omega))) only [↓reduceIte, ↓z_ite, ↓zR, ↓zB_R, ↓zB_B, ↓zB_ite, ↓zB_gI, ↓zB_pI, ↓zB_pZ, ↓zB_aK, ↓zB_G, ↓zB_lI, ↓zB_lZ, ↓zB_wI, ↓zB_wZ, ↓zB_lIl, ↓zB_wIl, zB_pI, zB_pZ, zB_lI, zB_lZ, zB_wI, zB_wZ, z_addl, z_ladd, z_mull, z_lmul, nI_add, z_subl, Nat.not_lt_zero, z_10, z_01, z_bitc, z_b0, z_b1, ↓zB_Gb, ↓zB_G0, ↓zB_G1, z_eql, z_leq, z_ltl, z_llt, z_eq, z_lt, z_m1lt, hb.k, hb.k1, hb.k2, hb.k3, hb.k4, hb.k5, hb.k6, hb.l1, hb.l2, hb.l3, hb.l4, hb.l5, hb.l6, hX.k8, hX.k9, hX.l9, ↓hb.g0, ↓hb.g1, ↓hb.g2, ↓hb.g3, ↓hb.g4, ↓hb.g5, ↓hX.g8_0, hd0, ht.1, hen, g, ↓zB_c e24, zB_c e24, z_up_s, g3, z_m1]
            rw [zB_c e1]
          rcases ih with ⟨m', d', F', D', h1, h2, h3, h4, h5, h6, h7, h8, h11, h10⟩ | ⟨m', h1, h2, h3⟩
          · exact Or.inl ⟨m', d', F', D', estep _ h1, h2, h3, h4, h5, h6, h7, h8, h11, hk2.trans h10⟩
          · exact Or.inr ⟨m', estep _ h1, hk2.trans h2, h3⟩
      · left
        refine ⟨m, d, F, D, ?_, hd1, hc, hD, exitc (fun q hq => ?_)⟩
        · simp (disch := ((try simp only [true_or, or_true, hb.k, hb.k1, hb.k2, hb.k3, hb.k4, hb.k5, hb.k6, hb.l1, hb.l2, hb.l3, hb.l4, hb.l5, hb.l6, hX.k8, hX.k9, hX.l9]) <;> (try omega))) only [↓reduceIte, ↓z_ite, ↓zR, ↓zB_R, ↓zB_B, ↓zB_ite, ↓zB_gI, ↓zB_pI, ↓zB_pZ, ↓zB_aK, ↓zB_G, ↓zB_lI, ↓zB_lZ, ↓zB_wI, ↓zB_wZ, ↓zB_lIl, ↓zB_wIl, zB_pI, zB_pZ, zB_lI, zB_lZ, zB_wI, zB_wZ, z_addl, z_ladd, z_mull, z_lmul, nI_add, z_subl, Nat.not_lt_zero, z_10, z_01, z_bitc, z_b0, z_b1, ↓zB_Gb, ↓zB_G0, ↓zB_G1, z_eql, z_leq, z_ltl, z_llt, z_eq, z_lt, z_m1lt, hb.k, hb.k1, hb.k2, hb.k3, hb.k4, hb.k5, hb.k6, hb.l1, hb.l2, hb.l3, hb.l4, hb.l5, hb.l6, hX.k8, hX.k9, hX.l9, ↓hb.g0, ↓hb.g1, ↓hb.g2, ↓hb.g3, ↓hb.g4, ↓hb.g5, ↓hX.g8_0, hd0, ht.1, hen, g]
        · have h1 := ht.2.2.1
          have h2 := (o1 q hq).2.2.1
          rcases Nat.lt_or_ge q (d - 1) with h3 | h3
          · have h4 := o2 q (d - 1) h3 (by omega)
            have h5 := z_lam' hB.1 (i := F q) (by omega) h4 (by omega)
            omega
          · rw [show q = d - 1 by omega]; omega
/-- Checker.isRightBody -/
theorem f23_sp (hX : z_XS S) (hp : z_PS S p) (hw : z_wf P) (hk : k < z_nm P) (hl : z_liv P k = true) (hb : z_BS S b R) (ha : z_ap p b) (h9 : 9 < p ∧ 9 < b) (hB : z_wB (z_nc P) l) (h : z_cp m p P) (hcb : z_cb m b R l) : ∃ v m', f23 8 p (nI k) b (z_hp S m) = some (v, z_hp S m') ∧ z_kF b m m' ∧ ((v = 1 ∧ z_ok P k l (m' (b + 5)) ∧ z_CK m' p P b R l ∧ ∀ i, i < l.length → m' (b + 6) i = z_bs P k l (m' (b + 5)) i) ∨ (v = 0 ∧ ¬ z_rt P k l)) := by
  have hR := hcb.2.2.1
  have hR2 := hcb.2.2.2.1
  have h24 := hw.2.2.1
  obtain ⟨m1, e8, hce, hm1⟩ := f8_sp hb hcb hB.1
  have hc1 : z_CK m1 p P b R l := ⟨z_cp_ap h24 ha (fun a h4 _ _ => hm1 a h4) h, z_cb_fr (fun a h3 h4 => hm1 a (by omega)) hcb, hce⟩
  have hk1 : z_kF b m m1 := fun a _ h4 _ _ => hm1 a h4
  unfold f23
  simp (disch := ((try simp only [true_or, or_true, hb.k, hb.k1, hb.k2, hb.k3, hb.k4, hb.k5, hb.k6, hb.l1, hb.l2, hb.l3, hb.l4, hb.l5, hb.l6]) <;> (try omega))) only [↓reduceIte, ↓z_ite, ↓zR, ↓zB_R, ↓zB_B, ↓zB_ite, ↓zB_gI, ↓zB_pI, ↓zB_pZ, ↓zB_aK, ↓zB_G, ↓zB_lI, ↓zB_lZ, ↓zB_wI, ↓zB_wZ, ↓zB_lIl, ↓zB_wIl, zB_pI, zB_pZ, zB_lI, zB_lZ, zB_wI, zB_wZ, z_addl, z_ladd, z_mull, z_lmul, nI_add, z_subl, Nat.not_lt_zero, z_10, z_01, z_bitc, z_b0, z_b1, ↓zB_Gb, ↓zB_G0, ↓zB_G1, z_eql, z_leq, z_ltl, z_llt, z_eq, z_lt, z_m1lt, hb.k, hb.k1, hb.k2, hb.k3, hb.k4, hb.k5, hb.k6, hb.l1, hb.l2, hb.l3, hb.l4, hb.l5, hb.l6, ↓hb.g0, ↓hb.g1, ↓hb.g2, ↓hb.g3, ↓hb.g4, ↓hb.g5, ↓zB_c e8, zB_c e8]
  unfold f23_10
  have key := z_loopI (f := fun s => f23_10b (s.1) (s.2.1) (s.2.2.1) (s.2.2.2.1) (s.2.2.2.2.1) (s.2.2.2.2.2)) (S := S) (fun n s m' => ∃ (i d : Nat) (F : Nat → Nat) (D : Nat → Prop), n = l.length - i ∧ i ≤ l.length ∧ s = (8, p, nI k, b, nI d, nI i) ∧ d ≤ i ∧ z_CK m' p P b R l ∧ z_DN m' P k b l D ∧ (∀ q, q < d → m' 9 q = nI (F q) ∧ F q < i ∧ i < z_en l (F q) ∧ ¬ D (F q)) ∧ (∀ q q', q < q' → q' < d → F q < F q') ∧ (∀ j, j < i → z_en l j ≤ i → D j) ∧ (∀ j, j < i → i < z_en l j → ∃ q, q < d ∧ F q = j) ∧ (∀ j, D j → z_en l j ≤ i) ∧ z_kF b m m') (fun v m' => z_kF b m m' ∧ ((v = 1 ∧ z_ok P k l (m' (b + 5)) ∧ z_CK m' p P b R l ∧ ∀ i, i < l.length → m' (b + 6) i = z_bs P k l (m' (b + 5)) i) ∨ (v = 0 ∧ ¬ z_rt P k l))) ?_ 1000000 l.length (8, p, nI k, b, 0, 0) m1 ⟨0, 0, fun _ => 0, fun _ => False, rfl, Nat.zero_le _, rfl, Nat.le_refl _, hc1, ⟨fun j hj => hj.elim, fun j hj => hj.elim⟩, fun q hq => by omega, fun q q' h1 h2 => by omega, fun j hj => by omega, fun j hj => by omega, fun j hj => hj.elim, hk1⟩ (by omega)
  · obtain ⟨v, m', e, h1, h2⟩ := key
    exact ⟨v, m', e, h1, h2⟩
  · rintro n s m' ⟨i, d, F, D, rfl, hi, rfl, hd, hc, hD, o1, o2, o3, o4, o5, hkf⟩
    have hn := hc.2.1.2.1
    dsimp only
    rcases Nat.eq_or_lt_of_le hi with hi2 | hi2
    · -- the end
      have hall : ∀ j, j < l.length → D j := fun j hj => o3 j (by omega) (by rw [hi2]; exact z_en_le hB.1 hj)
      have hpos := z_tr_pos hB.1
      have h0 := hD.2 0 (hall 0 hpos)
      have hh := hc.1.2.1.2.2 k hk hl
      have e84 := f84_sp hp hc.1 hw h0.2.2.2 (z_tw_ty (hw.2.2.2.1 k hk).2.2.2.2.2)
      refine Or.inr ⟨z_b (z_fit P (m' (b + 5) 0) (z_hd P k 8)), m', ?_, hkf, ?_⟩
      · unfold f23_10b f23_117
        rw [hi2]
        simp (disch := ((try simp only [true_or, or_true, hb.k, hb.k1, hb.k2, hb.k3, hb.k4, hb.k5, hb.k6, hb.l1, hb.l2, hb.l3, hb.l4, hb.l5, hb.l6, hp.k, hp.k1, hp.k2, hp.k3, hp.k4, hp.k5, hp.k6, hp.k7, hp.k8, hp.k9, hp.k10, hp.l1, hp.l2, hp.l3, hp.l4, hp.l5, hp.l6, hp.l7, hp.l8, hp.l9, hp.l10]) <;> (try omega))) only [↓reduceIte, ↓z_ite, ↓zR, ↓zB_R, ↓zB_B, ↓zB_ite, ↓zB_gI, ↓zB_pI, ↓zB_pZ, ↓zB_aK, ↓zB_G, ↓zB_lI, ↓zB_lZ, ↓zB_wI, ↓zB_wZ, ↓zB_lIl, ↓zB_wIl, zB_pI, zB_pZ, zB_lI, zB_lZ, zB_wI, zB_wZ, z_addl, z_ladd, z_mull, z_lmul, nI_add, z_subl, Nat.not_lt_zero, z_10, z_01, z_bitc, z_b0, z_b1, ↓zB_Gb, ↓zB_G0, ↓zB_G1, z_eql, z_leq, z_ltl, z_llt, z_eq, z_lt, z_m1lt, hb.k, hb.k1, hb.k2, hb.k3, hb.k4, hb.k5, hb.k6, hb.l1, hb.l2, hb.l3, hb.l4, hb.l5, hb.l6, hp.k, hp.k1, hp.k2, hp.k3, hp.k4, hp.k5, hp.k6, hp.k7, hp.k8, hp.k9, hp.k10, hp.l1, hp.l2, hp.l3, hp.l4, hp.l5, hp.l6, hp.l7, hp.l8, hp.l9, hp.l10, ↓hb.g0, ↓hb.g1, ↓hb.g2, ↓hb.g3, ↓hb.g4, ↓hb.g5, ↓hp.g0, ↓hp.g1, ↓hp.g2, ↓hp.g3, ↓hp.g4, ↓hp.g5, ↓hp.g6, ↓hp.g7, ↓hp.g8, ↓hp.g9, ↓hp.gb, hp.gb, hn, Nat.lt_irrefl, hh.2.2.2.1, ↓zB_c e84, zB_c e84]
      · cases hf : z_fit P (m' (b + 5) 0) (z_hd P k 8) with
        | true =>
          refine Or.inl ⟨rfl, ⟨fun j hj => ?_, hf⟩, hc, fun j hj => (hD.2 j (hall j hj)).2.2.1⟩
          exact ⟨(hD.2 j (hall j hj)).1, (hD.2 j (hall j hj)).2.1⟩
        | false =>
          refine Or.inr ⟨rfl, ?_⟩
          rintro ⟨T, hT⟩
          have := z_DN_uq hB hD hT 0 hpos (hall 0 hpos)
          rw [this, hT.2] at hf; cases hf
    · have hgt := z_en_gt hi2
      have hc2 : z_CK (z_up m' 9 d (nI i)) p P b R l := by
        obtain ⟨g1, g2, g3⟩ := hc
        refine ⟨z_cp_fr h24 (fun a h1 h2 => z_up_row (by omega)) (fun q hq a h1 h2 => z_up_row (by unfold z_bi at h1; omega)) g1, z_cb_fr (fun a h1 h2 => z_up_row (by omega)) g2, fun j hj => ?_⟩
        rw [z_up_a (by omega)]; exact g3 j hj
      have hD2 : z_DN (z_up m' 9 d (nI i)) P k b l D := z_DN_fr (fun j hj => ⟨z_up_a (by omega), z_up_a (by omega)⟩) hB hD
      have hO : z_OP (z_up m' 9 d (nI i)) l (fun q => if q = d then i else F q) D (d + 1) i := by
        refine ⟨fun q hq => ?_, fun q q' h1 h2 => ?_, fun j h1 h2 => by (rcases Nat.eq_or_lt_of_le h1 with h3 | h3; (rw [h3] at h2; omega); exact o3 j h3 h2), fun j h1 h2 => ?_, fun j hj => Nat.le_succ_of_le (o5 j hj)⟩
        · by_cases g : q = d
          · subst g
            simp only [if_true]
            exact ⟨z_up_s _ _ _ _, Nat.le_refl _, hgt, fun g => by have := o5 i g; omega⟩
          · simp only [g, if_false]
            have := o1 q (by omega)
            rw [z_up_b g]
            exact ⟨this.1, by omega, this.2.2.1, this.2.2.2⟩
        · have g1 : q ≠ d := by omega
          simp only [g1, if_false]
          by_cases g2 : q' = d
          · simp only [g2, if_true]; exact (o1 q (by omega)).2.1
          · simp only [g2, if_false]; exact o2 q q' h1 (by omega)
        · left
          by_cases g : j = i
          · exact ⟨d, by omega, by simp [g]⟩
          · obtain ⟨q, hq, e⟩ := o4 j (by omega) h2
            exact ⟨q, by omega, (if_neg (by omega)).trans e⟩
      have hkf2 : z_kF b m (z_up m' 9 d (nI i)) := hkf.trans (fun a h1 _ _ _ => z_up_row h1)
      have e0 : ∀ X, f23_31 8 p (nI k) b (nI (d + 1)) (nI i) (z_hp S (z_up m' 9 d (nI i))) = X → f23_10b 8 p (nI k) b (nI d) (nI i) (z_hp S m') = X := by
        intro X hX2
        rw [← hX2]
        unfold f23_10b
        simp (disch := ((try simp only [true_or, or_true, hb.k, hb.k1, hb.k2, hb.k3, hb.k4, hb.k5, hb.k6, hb.l1, hb.l2, hb.l3, hb.l4, hb.l5, hb.l6, hX.k8, hX.k9, hX.l9]) <;> (try omega))) only [↓reduceIte, ↓z_ite, ↓zR, ↓zB_R, ↓zB_B, ↓zB_ite, ↓zB_gI, ↓zB_pI, ↓zB_pZ, ↓zB_aK, ↓zB_G, ↓zB_lI, ↓zB_lZ, ↓zB_wI, ↓zB_wZ, ↓zB_lIl, ↓zB_wIl, zB_pI, zB_pZ, zB_lI, zB_lZ, zB_wI, zB_wZ, z_addl, z_ladd, z_mull, z_lmul, nI_add, z_subl, Nat.not_lt_zero, z_10, z_01, z_bitc, z_b0, z_b1, ↓zB_Gb, ↓zB_G0, ↓zB_G1, z_eql, z_leq, z_ltl, z_llt, z_eq, z_lt, z_m1lt, hb.k, hb.k1, hb.k2, hb.k3, hb.k4, hb.k5, hb.k6, hb.l1, hb.l2, hb.l3, hb.l4, hb.l5, hb.l6, hX.k8, hX.k9, hX.l9, ↓hb.g0, ↓hb.g1, ↓hb.g2, ↓hb.g3, ↓hb.g4, ↓hb.g5, ↓hX.g8_0, hn, hi2]
      rcases f23_in hX hp hw hk hl hb ha h9 hB hi2 1000000 (d + 1) _ D _ (by omega) (by omega) hc2 hD2 hO with ⟨m2, d', F', D', h1, h2, h3, h4, h5, h6, h7, h8, h11, h10⟩ | ⟨m2, h1, h2, h3⟩
      · exact Or.inl ⟨_, m2, l.length - (i + 1), e0 _ h1, by omega, i + 1, d', F', D', rfl, hi2, rfl, h2, h3, h4, h5, h6, h7, h8, h11, hkf2.trans h10⟩
      · exact Or.inr ⟨0, m2, e0 _ h1, hkf2.trans h2, Or.inr ⟨rfl, h3⟩⟩
end
