/-! the checker: accesses, calls, a node, a body -/
section
variable {S : z_S} {m : z_m} {p b R k i : Nat} {P : z_Pg} {l : List z_N}
theorem z_oI_s (q : Nat) : z_oI (some q) = nI q := rfl
theorem z_oI_n : z_oI none = -1 := rfl
/-- Checker.typeOfAccess -/
theorem f28_sp (hp : z_PS S p) (hw : z_wf P) (hb : z_BS S b R) (hc : z_CK m p P b R l) (ha : z_ap p b) (hB : z_wB (z_nc P) l) (hi : i < l.length) (hv : z_k l i = 3 ∨ z_k l i = 4) (hT : ∀ q, q < z_p l i → z_tw P (m (b + 5) (z_pt l i q))) : ∃ v, f28 p b (nI i) (z_hp S m) = some (z_st P k l (m (b + 5)) i, z_hp S (z_up m (b + 6) i v)) ∧ (z_st P k l (m (b + 5)) i ≠ -3 → v = z_bs P k l (m (b + 5)) i) := by
  obtain ⟨h, hcb, hce⟩ := hc
  have hR := hcb.2.2.1
  have hR2 := hcb.2.2.2.1
  have h24 := hw.2.2.1
  have h6 := hw.1.1
  have h2 := hcb.2.2.2.2 i hi
  obtain ⟨n, hn, en⟩ := z_v_nm hB hi (by rcases hv with g | g <;> simp [g])
  have hpl := z_p_lt hB.1 hi
  have hp0 : 0 < z_p l i := by
    rcases hv with g | g
    · rw [z_p_3 g]; decide
    · rw [z_p_4 g]; decide
  have hlt := z_pt_lt hB.1 hi hp0
  have hT0 := hT 0 hp0
  rw [z_pt_0] at hlt hT0
  have est : z_st P k l (m (b + 5)) i = z_tA P (m (b + 5) (i + 1)) (m (b + 5) (z_pt l i 1)) (nI n) (z_k l i == 4) := by
    rcases hv with g | g
    · rw [z_st_3 g, en, g, z_pt_0]
      unfold z_tA
      cases z_ac P (m (b + 5) (i + 1)) (nI n) <;> rfl
    · rw [z_st_4 g, en, g, z_pt_0]; rfl
  have ebs : z_bs P k l (m (b + 5)) i = (match z_ac P (m (b + 5) (i + 1)) (nI n) with | some c => nI (1000 + c) | none => 0) := by
    unfold z_bs
    have : ¬ (z_k l i = 1 ∨ z_k l i = 6) := by rcases hv with g | g <;> rw [g] <;> decide
    rw [if_neg this, if_pos hv, en, z_pt_0]
    all_goals (cases z_ac P (m (b + 5) (i + 1)) (nI n) <;> rfl)
  rw [est, ebs]
  unfold f28 f28_28
  by_cases ht : m (b + 5) (i + 1) < 0
  · have e : z_ac P (m (b + 5) (i + 1)) (nI n) = none := by unfold z_ac; rw [if_pos ht]
    refine ⟨m (b + 6) i, ?_, fun g => ?_⟩
    · simp (disch := ((try simp only [true_or, or_true, hb.k, hb.k1, hb.k2, hb.k3, hb.k4, hb.k5, hb.k6, hb.l1, hb.l2, hb.l3, hb.l4, hb.l5, hb.l6, hp.k, hp.k1, hp.k2, hp.k3, hp.k4, hp.k5, hp.k6, hp.k7, hp.k8, hp.k9, hp.k10, hp.l1, hp.l2, hp.l3, hp.l4, hp.l5, hp.l6, hp.l7, hp.l8, hp.l9, hp.l10]) <;> (try omega))) only [↓reduceIte, ↓z_ite, ↓zR, ↓zB_R, ↓zB_B, ↓zB_ite, ↓zB_gI, ↓zB_pI, ↓zB_pZ, ↓zB_aK, ↓zB_G, ↓zB_lI, ↓zB_lZ, ↓zB_wI, ↓zB_wZ, ↓zB_lIl, ↓zB_wIl, zB_pI, zB_pZ, zB_lI, zB_lZ, zB_wI, zB_wZ, z_addl, z_ladd, z_mull, z_lmul, nI_add, z_subl, Nat.not_lt_zero, z_10, z_01, z_bitc, z_b0, z_b1, ↓zB_Gb, ↓zB_G0, ↓zB_G1, z_eql, z_leq, z_ltl, z_llt, z_eq, z_lt, z_m1lt, hb.k, hb.k1, hb.k2, hb.k3, hb.k4, hb.k5, hb.k6, hb.l1, hb.l2, hb.l3, hb.l4, hb.l5, hb.l6, hp.k, hp.k1, hp.k2, hp.k3, hp.k4, hp.k5, hp.k6, hp.k7, hp.k8, hp.k9, hp.k10, hp.l1, hp.l2, hp.l3, hp.l4, hp.l5, hp.l6, hp.l7, hp.l8, hp.l9, hp.l10, ↓hb.g0, ↓hb.g1, ↓hb.g2, ↓hb.g3, ↓hb.g4, ↓hb.g5, ↓hp.g0, ↓hp.g1, ↓hp.g2, ↓hp.g3, ↓hp.g4, ↓hp.g5, ↓hp.g6, ↓hp.g7, ↓hp.g8, ↓hp.g9, ↓hp.gb, hp.gb, ht]
      unfold z_tA
      rw [e, z_up_id]
    · exfalso; apply g; unfold z_tA; rw [e]
  · obtain ⟨c, hcc, ec⟩ : ∃ c, c < z_nc P ∧ m (b + 5) (i + 1) = nI c := by
      rcases hT0 with g | g
      · exact absurd g ht
      · exact g
    have eac : z_ac P (m (b + 5) (i + 1)) (nI n) = z_fc P c n := by unfold z_ac; rw [if_neg ht, ec, nI_clamp (by omega), nI_clamp (by omega)]
    rw [ec] at ht eac ⊢
    have e86 := f86_sp hp h hw hcc hn
    cases e1 : z_fc P c n with
    | none =>
      rw [e1] at e86 eac
      refine ⟨m (b + 6) i, ?_, fun g => ?_⟩
      · simp (disch := ((try simp only [true_or, or_true, hb.k, hb.k1, hb.k2, hb.k3, hb.k4, hb.k5, hb.k6, hb.l1, hb.l2, hb.l3, hb.l4, hb.l5, hb.l6, hp.k, hp.k1, hp.k2, hp.k3, hp.k4, hp.k5, hp.k6, hp.k7, hp.k8, hp.k9, hp.k10, hp.l1, hp.l2, hp.l3, hp.l4, hp.l5, hp.l6, hp.l7, hp.l8, hp.l9, hp.l10]) <;> (try omega))) only [↓reduceIte, ↓z_ite, ↓zR, ↓zB_R, ↓zB_B, ↓zB_ite, ↓zB_gI, ↓zB_pI, ↓zB_pZ, ↓zB_aK, ↓zB_G, ↓zB_lI, ↓zB_lZ, ↓zB_wI, ↓zB_wZ, ↓zB_lIl, ↓zB_wIl, zB_pI, zB_pZ, zB_lI, zB_lZ, zB_wI, zB_wZ, z_addl, z_ladd, z_mull, z_lmul, nI_add, z_subl, Nat.not_lt_zero, z_10, z_01, z_bitc, z_b0, z_b1, ↓zB_Gb, ↓zB_G0, ↓zB_G1, z_eql, z_leq, z_ltl, z_llt, z_eq, z_lt, z_m1lt, hb.k, hb.k1, hb.k2, hb.k3, hb.k4, hb.k5, hb.k6, hb.l1, hb.l2, hb.l3, hb.l4, hb.l5, hb.l6, hp.k, hp.k1, hp.k2, hp.k3, hp.k4, hp.k5, hp.k6, hp.k7, hp.k8, hp.k9, hp.k10, hp.l1, hp.l2, hp.l3, hp.l4, hp.l5, hp.l6, hp.l7, hp.l8, hp.l9, hp.l10, ↓hb.g0, ↓hb.g1, ↓hb.g2, ↓hb.g3, ↓hb.g4, ↓hb.g5, ↓hp.g0, ↓hp.g1, ↓hp.g2, ↓hp.g3, ↓hp.g4, ↓hp.g5, ↓hp.g6, ↓hp.g7, ↓hp.g8, ↓hp.g9, ↓hp.gb, hp.gb, ec, ht, h2.2.1, en, ↓zB_c e86, zB_c e86, z_oI_n]
        unfold z_tA
        rw [eac, z_up_id]
      · exfalso; apply g; unfold z_tA; rw [eac]
    | some d =>
      rw [e1] at e86 eac
      obtain ⟨h3, h4, h5⟩ := z_fc_some e1
      have hty := z_fld_ty hw (c := d) (by omega) hn h5
      refine ⟨nI (1000 + d), ?_, fun _ => by rw [eac]⟩
      have hx : z_CK (z_up m (b + 6) i (nI (1000 + d))) p P b R l := z_CK_fr h24 ha (fun a _ h6 => z_up_row h6) ⟨h, hcb, hce⟩
      have h8 : ¬ nI d = -1 := z_nI_m1 (by omega)
      have h9 : z_in (nI n) 16 = true := (z_in_iff (by decide)).mpr ⟨n, hn, rfl⟩
      have e85 := f85_sp hp hx.1 hw (c := d) (by omega) (nI n)
      rw [h9, if_pos rfl, nI_clamp (by omega), hty.2] at e85
      have h2' := hx.2.1.2.2.2.2 i hi
      unfold z_tA
      rw [eac]
      dsimp only
      rw [nI_clamp (by omega)]
      unfold f28_80 f28_107 f28_114
      rcases hv with g | g
      · rw [g]
        simp (disch := ((try simp only [true_or, or_true, hb.k, hb.k1, hb.k2, hb.k3, hb.k4, hb.k5, hb.k6, hb.l1, hb.l2, hb.l3, hb.l4, hb.l5, hb.l6, hp.k, hp.k1, hp.k2, hp.k3, hp.k4, hp.k5, hp.k6, hp.k7, hp.k8, hp.k9, hp.k10, hp.l1, hp.l2, hp.l3, hp.l4, hp.l5, hp.l6, hp.l7, hp.l8, hp.l9, hp.l10]) <;> (try omega))) only [↓reduceIte, ↓z_ite, ↓zR, ↓zB_R, ↓zB_B, ↓zB_ite, ↓zB_gI, ↓zB_pI, ↓zB_pZ, ↓zB_aK, ↓zB_G, ↓zB_lI, ↓zB_lZ, ↓zB_wI, ↓zB_wZ, ↓zB_lIl, ↓zB_wIl, zB_pI, zB_pZ, zB_lI, zB_lZ, zB_wI, zB_wZ, z_addl, z_ladd, z_mull, z_lmul, nI_add, z_subl, Nat.not_lt_zero, z_10, z_01, z_bitc, z_b0, z_b1, ↓zB_Gb, ↓zB_G0, ↓zB_G1, z_eql, z_leq, z_ltl, z_llt, z_eq, z_lt, z_m1lt, hb.k, hb.k1, hb.k2, hb.k3, hb.k4, hb.k5, hb.k6, hb.l1, hb.l2, hb.l3, hb.l4, hb.l5, hb.l6, hp.k, hp.k1, hp.k2, hp.k3, hp.k4, hp.k5, hp.k6, hp.k7, hp.k8, hp.k9, hp.k10, hp.l1, hp.l2, hp.l3, hp.l4, hp.l5, hp.l6, hp.l7, hp.l8, hp.l9, hp.l10, ↓hb.g0, ↓hb.g1, ↓hb.g2, ↓hb.g3, ↓hb.g4, ↓hb.g5, ↓hp.g0, ↓hp.g1, ↓hp.g2, ↓hp.g3, ↓hp.g4, ↓hp.g5, ↓hp.g6, ↓hp.g7, ↓hp.g8, ↓hp.g9, ↓hp.gb, hp.gb, ec, ht, h2.2.1, h2'.2.1, en, ↓zB_c e86, zB_c e86, z_oI_s, h8, ↓zB_c e85, zB_c e85, h2'.1, g]
        rfl
      · have hp1 : 1 < z_p l i := by rw [z_p_4 g]; decide
        have h7 : z_up m (b + 6) i (nI (1000 + d)) (b + 5) (z_pt l i 1) = m (b + 5) (z_pt l i 1) := z_up_a (by omega)
        have e9 := f9_sp hb hx.2.1 hB.1 hi (fun j _ hj => hx.2.2 j hj) 1 (by decide)
        have hlt1 := z_pt_lt hB.1 hi hp1
        have e84 := f84_sp hp hx.1 hw (hT 1 hp1) (z_tw_ty hty.1)
        rw [g]
        simp (disch := ((try simp only [true_or, or_true, hb.k, hb.k1, hb.k2, hb.k3, hb.k4, hb.k5, hb.k6, hb.l1, hb.l2, hb.l3, hb.l4, hb.l5, hb.l6, hp.k, hp.k1, hp.k2, hp.k3, hp.k4, hp.k5, hp.k6, hp.k7, hp.k8, hp.k9, hp.k10, hp.l1, hp.l2, hp.l3, hp.l4, hp.l5, hp.l6, hp.l7, hp.l8, hp.l9, hp.l10]) <;> (try omega))) only [↓reduceIte, ↓z_ite, ↓zR, ↓zB_R, ↓zB_B, ↓zB_ite, ↓zB_gI, ↓zB_pI, ↓zB_pZ, ↓zB_aK, ↓zB_G, ↓zB_lI, ↓zB_lZ, ↓zB_wI, ↓zB_wZ, ↓zB_lIl, ↓zB_wIl, zB_pI, zB_pZ, zB_lI, zB_lZ, zB_wI, zB_wZ, z_addl, z_ladd, z_mull, z_lmul, nI_add, z_subl, Nat.not_lt_zero, z_10, z_01, z_bitc, z_b0, z_b1, ↓zB_Gb, ↓zB_G0, ↓zB_G1, z_eql, z_leq, z_ltl, z_llt, z_eq, z_lt, z_m1lt, hb.k, hb.k1, hb.k2, hb.k3, hb.k4, hb.k5, hb.k6, hb.l1, hb.l2, hb.l3, hb.l4, hb.l5, hb.l6, hp.k, hp.k1, hp.k2, hp.k3, hp.k4, hp.k5, hp.k6, hp.k7, hp.k8, hp.k9, hp.k10, hp.l1, hp.l2, hp.l3, hp.l4, hp.l5, hp.l6, hp.l7, hp.l8, hp.l9, hp.l10, ↓hb.g0, ↓hb.g1, ↓hb.g2, ↓hb.g3, ↓hb.g4, ↓hb.g5, ↓hp.g0, ↓hp.g1, ↓hp.g2, ↓hp.g3, ↓hp.g4, ↓hp.g5, ↓hp.g6, ↓hp.g7, ↓hp.g8, ↓hp.g9, ↓hp.gb, hp.gb, ec, ht, h2.2.1, h2'.2.1, en, ↓zB_c e86, zB_c e86, z_oI_s, h8, ↓zB_c e85, zB_c e85, h2'.1, g, show ¬ (4 : Int32) = 3 by decide]
        rw [show (1 : Int32) = nI 1 from rfl]
        simp (disch := ((try simp only [true_or, or_true, hb.k, hb.k1, hb.k2, hb.k3, hb.k4, hb.k5, hb.k6, hb.l1, hb.l2, hb.l3, hb.l4, hb.l5, hb.l6, hp.k, hp.k1, hp.k2, hp.k3, hp.k4, hp.k5, hp.k6, hp.k7, hp.k8, hp.k9, hp.k10, hp.l1, hp.l2, hp.l3, hp.l4, hp.l5, hp.l6, hp.l7, hp.l8, hp.l9, hp.l10]) <;> (try omega))) only [↓reduceIte, ↓z_ite, ↓zR, ↓zB_R, ↓zB_B, ↓zB_ite, ↓zB_gI, ↓zB_pI, ↓zB_pZ, ↓zB_aK, ↓zB_G, ↓zB_lI, ↓zB_lZ, ↓zB_wI, ↓zB_wZ, ↓zB_lIl, ↓zB_wIl, zB_pI, zB_pZ, zB_lI, zB_lZ, zB_wI, zB_wZ, z_addl, z_ladd, z_mull, z_lmul, nI_add, z_subl, Nat.not_lt_zero, z_10, z_01, z_bitc, z_b0, z_b1, ↓zB_Gb, ↓zB_G0, ↓zB_G1, z_eql, z_leq, z_ltl, z_llt, z_eq, z_lt, z_m1lt, hb.k, hb.k1, hb.k2, hb.k3, hb.k4, hb.k5, hb.k6, hb.l1, hb.l2, hb.l3, hb.l4, hb.l5, hb.l6, hp.k, hp.k1, hp.k2, hp.k3, hp.k4, hp.k5, hp.k6, hp.k7, hp.k8, hp.k9, hp.k10, hp.l1, hp.l2, hp.l3, hp.l4, hp.l5, hp.l6, hp.l7, hp.l8, hp.l9, hp.l10, ↓hb.g0, ↓hb.g1, ↓hb.g2, ↓hb.g3, ↓hb.g4, ↓hb.g5, ↓hp.g0, ↓hp.g1, ↓hp.g2, ↓hp.g3, ↓hp.g4, ↓hp.g5, ↓hp.g6, ↓hp.g7, ↓hp.g8, ↓hp.g9, ↓hp.gb, hp.gb, ↓zB_c e9, zB_c e9, h7, ↓zB_c e84, zB_c e84]
        cases z_fit P (m (b + 5) (z_pt l i 1)) (z_fld P d n - 2) <;> simp
/-- Checker.typeOfCall -/
theorem f29_sp (hp : z_PS S p) (hw : z_wf P) (hb : z_BS S b R) (hc : z_CK m p P b R l) (ha : z_ap p b) (hB : z_wB (z_nc P) l) (hi : i < l.length) (hv : z_k l i = 7) (hT : ∀ q, q < z_p l i → z_tw P (m (b + 5) (z_pt l i q))) : ∃ v, f29 p b (nI i) (z_hp S m) = some (z_st P k l (m (b + 5)) i, z_hp S (z_up m (b + 6) i v)) ∧ (z_st P k l (m (b + 5)) i ≠ -3 → v = z_bs P k l (m (b + 5)) i) := by
  obtain ⟨h, hcb, hce⟩ := hc
  have hR := hcb.2.2.1
  have hR2 := hcb.2.2.2.1
  have h24 := hw.2.2.1
  have h6 := hw.1.1
  have h2 := hcb.2.2.2.2 i hi
  have hpl := z_p_lt hB.1 hi
  obtain ⟨a, ea, ep, ha2⟩ : ∃ a, z_a l i = nI a ∧ z_p l i = a + 1 ∧ a ≤ 2 := by
    rcases z_pn_ka hB hi hv with ⟨g1, g2⟩ | ⟨g1, g2⟩ | ⟨g1, g2⟩
    · exact ⟨0, g1, g2, by decide⟩
    · exact ⟨1, g1, g2, by decide⟩
    · exact ⟨2, g1, g2, by decide⟩
  have hlt := z_pt_lt hB.1 hi (show 0 < z_p l i by omega)
  have hT0 := hT 0 (by omega)
  rw [z_pt_0] at hlt hT0
  have ebs : z_bs P k l (m (b + 5)) i = (match z_cl P (m (b + 5) (i + 1)) (z_v l i) (nI a) with | some q => nI (2000 + q) | none => 0) := by
    unfold z_bs
    rw [hv, ← ea, z_pt_0]; rfl
  rw [z_st_7 hv, ebs, z_pt_0, ea]
  unfold f29 f29_40
  by_cases ht : m (b + 5) (i + 1) < 0
  · have e : z_cl P (m (b + 5) (i + 1)) (z_v l i) (nI a) = none := by unfold z_cl; rw [if_pos ht]
    refine ⟨m (b + 6) i, ?_, fun g => ?_⟩
    · simp (disch := ((try simp only [true_or, or_true, hb.k, hb.k1, hb.k2, hb.k3, hb.k4, hb.k5, hb.k6, hb.l1, hb.l2, hb.l3, hb.l4, hb.l5, hb.l6, hp.k, hp.k1, hp.k2, hp.k3, hp.k4, hp.k5, hp.k6, hp.k7, hp.k8, hp.k9, hp.k10, hp.l1, hp.l2, hp.l3, hp.l4, hp.l5, hp.l6, hp.l7, hp.l8, hp.l9, hp.l10]) <;> (try omega))) only [↓reduceIte, ↓z_ite, ↓zR, ↓zB_R, ↓zB_B, ↓zB_ite, ↓zB_gI, ↓zB_pI, ↓zB_pZ, ↓zB_aK, ↓zB_G, ↓zB_lI, ↓zB_lZ, ↓zB_wI, ↓zB_wZ, ↓zB_lIl, ↓zB_wIl, zB_pI, zB_pZ, zB_lI, zB_lZ, zB_wI, zB_wZ, z_addl, z_ladd, z_mull, z_lmul, nI_add, z_subl, Nat.not_lt_zero, z_10, z_01, z_bitc, z_b0, z_b1, ↓zB_Gb, ↓zB_G0, ↓zB_G1, z_eql, z_leq, z_ltl, z_llt, z_eq, z_lt, z_m1lt, hb.k, hb.k1, hb.k2, hb.k3, hb.k4, hb.k5, hb.k6, hb.l1, hb.l2, hb.l3, hb.l4, hb.l5, hb.l6, hp.k, hp.k1, hp.k2, hp.k3, hp.k4, hp.k5, hp.k6, hp.k7, hp.k8, hp.k9, hp.k10, hp.l1, hp.l2, hp.l3, hp.l4, hp.l5, hp.l6, hp.l7, hp.l8, hp.l9, hp.l10, ↓hb.g0, ↓hb.g1, ↓hb.g2, ↓hb.g3, ↓hb.g4, ↓hb.g5, ↓hp.g0, ↓hp.g1, ↓hp.g2, ↓hp.g3, ↓hp.g4, ↓hp.g5, ↓hp.g6, ↓hp.g7, ↓hp.g8, ↓hp.g9, ↓hp.gb, hp.gb, ht, h2.2.2]
      unfold z_tC
      rw [e, z_up_id]
    · exfalso; apply g; unfold z_tC; rw [e]
  · obtain ⟨c, hcc, ec⟩ : ∃ c, c < z_nc P ∧ m (b + 5) (i + 1) = nI c := by
      rcases hT0 with g | g
      · exact absurd g ht
      · exact g
    have eac : z_cl P (m (b + 5) (i + 1)) (z_v l i) (nI a) = z_fm P c (z_v l i) (nI a) := by unfold z_cl; rw [if_neg ht, ec, nI_clamp (by omega)]
    rw [ec] at ht eac ⊢
    have e90 := f90_sp hp h hw hcc (z_v l i) (nI a)
    have e2 : nI (z_p l i) - 1 = nI a := by rw [ep]; exact nI_pred a
    cases e1 : z_fm P c (z_v l i) (nI a) with
    | none =>
      rw [e1] at e90 eac
      refine ⟨m (b + 6) i, ?_, fun g => ?_⟩
      · simp (disch := ((try simp only [true_or, or_true, hb.k, hb.k1, hb.k2, hb.k3, hb.k4, hb.k5, hb.k6, hb.l1, hb.l2, hb.l3, hb.l4, hb.l5, hb.l6, hp.k, hp.k1, hp.k2, hp.k3, hp.k4, hp.k5, hp.k6, hp.k7, hp.k8, hp.k9, hp.k10, hp.l1, hp.l2, hp.l3, hp.l4, hp.l5, hp.l6, hp.l7, hp.l8, hp.l9, hp.l10]) <;> (try omega))) only [↓reduceIte, ↓z_ite, ↓zR, ↓zB_R, ↓zB_B, ↓zB_ite, ↓zB_gI, ↓zB_pI, ↓zB_pZ, ↓zB_aK, ↓zB_G, ↓zB_lI, ↓zB_lZ, ↓zB_wI, ↓zB_wZ, ↓zB_lIl, ↓zB_wIl, zB_pI, zB_pZ, zB_lI, zB_lZ, zB_wI, zB_wZ, z_addl, z_ladd, z_mull, z_lmul, nI_add, z_subl, Nat.not_lt_zero, z_10, z_01, z_bitc, z_b0, z_b1, ↓zB_Gb, ↓zB_G0, ↓zB_G1, z_eql, z_leq, z_ltl, z_llt, z_eq, z_lt, z_m1lt, hb.k, hb.k1, hb.k2, hb.k3, hb.k4, hb.k5, hb.k6, hb.l1, hb.l2, hb.l3, hb.l4, hb.l5, hb.l6, hp.k, hp.k1, hp.k2, hp.k3, hp.k4, hp.k5, hp.k6, hp.k7, hp.k8, hp.k9, hp.k10, hp.l1, hp.l2, hp.l3, hp.l4, hp.l5, hp.l6, hp.l7, hp.l8, hp.l9, hp.l10, ↓hb.g0, ↓hb.g1, ↓hb.g2, ↓hb.g3, ↓hb.g4, ↓hb.g5, ↓hp.g0, ↓hp.g1, ↓hp.g2, ↓hp.g3, ↓hp.g4, ↓hp.g5, ↓hp.g6, ↓hp.g7, ↓hp.g8, ↓hp.g9, ↓hp.gb, hp.gb, ec, ht, h2.2.1, h2.2.2, show z_p l i - 1 = a by omega, ↓zB_c e90, zB_c e90, z_oI_n]
        unfold z_tC
        rw [eac, z_up_id]
      · exfalso; apply g; unfold z_tC; rw [eac]
    | some q =>
      rw [e1] at e90 eac
      obtain ⟨h3, h4, h5, _⟩ := (z_fm_some hw hcc).mp e1
      refine ⟨nI (2000 + q), ?_, fun _ => by rw [eac]⟩
      have hx : z_CK (z_up m (b + 6) i (nI (2000 + q))) p P b R l := z_CK_fr h24 ha (fun a _ h6 => z_up_row h6) ⟨h, hcb, hce⟩
      have h8 : ¬ nI q = -1 := z_nI_m1 (by omega)
      have hql := z_isc_liv h4
      have hqh := hx.1.2.1.2.2 q h3 hql
      have hqc : z_cnt P q = a := by
        have h9 : z_hd P q 3 = nI a := by
          unfold z_isc at h4
          simp only [Bool.and_eq_true, beq_iff_eq] at h4
          exact h4.2.2
        unfold z_cnt
        rw [h9, nI_clamp (by omega)]
      unfold z_tC
      rw [eac]
      dsimp only
      simp (disch := ((try simp only [true_or, or_true, hb.k, hb.k1, hb.k2, hb.k3, hb.k4, hb.k5, hb.k6, hb.l1, hb.l2, hb.l3, hb.l4, hb.l5, hb.l6, hp.k, hp.k1, hp.k2, hp.k3, hp.k4, hp.k5, hp.k6, hp.k7, hp.k8, hp.k9, hp.k10, hp.l1, hp.l2, hp.l3, hp.l4, hp.l5, hp.l6, hp.l7, hp.l8, hp.l9, hp.l10]) <;> (try omega))) only [↓reduceIte, ↓z_ite, ↓zR, ↓zB_R, ↓zB_B, ↓zB_ite, ↓zB_gI, ↓zB_pI, ↓zB_pZ, ↓zB_aK, ↓zB_G, ↓zB_lI, ↓zB_lZ, ↓zB_wI, ↓zB_wZ, ↓zB_lIl, ↓zB_wIl, zB_pI, zB_pZ, zB_lI, zB_lZ, zB_wI, zB_wZ, z_addl, z_ladd, z_mull, z_lmul, nI_add, z_subl, Nat.not_lt_zero, z_10, z_01, z_bitc, z_b0, z_b1, ↓zB_Gb, ↓zB_G0, ↓zB_G1, z_eql, z_leq, z_ltl, z_llt, z_eq, z_lt, z_m1lt, hb.k, hb.k1, hb.k2, hb.k3, hb.k4, hb.k5, hb.k6, hb.l1, hb.l2, hb.l3, hb.l4, hb.l5, hb.l6, hp.k, hp.k1, hp.k2, hp.k3, hp.k4, hp.k5, hp.k6, hp.k7, hp.k8, hp.k9, hp.k10, hp.l1, hp.l2, hp.l3, hp.l4, hp.l5, hp.l6, hp.l7, hp.l8, hp.l9, hp.l10, ↓hb.g0, ↓hb.g1, ↓hb.g2, ↓hb.g3, ↓hb.g4, ↓hb.g5, ↓hp.g0, ↓hp.g1, ↓hp.g2, ↓hp.g3, ↓hp.g4, ↓hp.g5, ↓hp.g6, ↓hp.g7, ↓hp.g8, ↓hp.g9, ↓hp.gb, hp.gb, ec, ht, h2.2.1, h2.2.2, show z_p l i - 1 = a by omega, ↓zB_c e90, zB_c e90, z_oI_s, h8]
      unfold f29_66
      refine (z_search (fun j => (p, b, nI i, nI a, nI q, nI j)) (fun j => !z_fit P (m (b + 5) (z_pt l i (j + 1))) (z_hd P q (6 + j))) (fun _ => -3) (z_hd P q 8) a 0 1000000 (by omega) (fun j _ hj => ?_) ?_).trans ?_
      · have hj : j < a := by omega
        have h9 := hqh.2.2.2.2.2 j (by omega)
        have h7 : z_up m (b + 6) i (nI (2000 + q)) (b + 5) (z_pt l i (j + 1)) = m (b + 5) (z_pt l i (j + 1)) := z_up_a (by omega)
        have e9 := f9_sp hb hx.2.1 hB.1 hi (fun j _ hj => hx.2.2 j hj) (j + 1) (by omega)
        have hlt1 := z_pt_lt hB.1 hi (j := j + 1) (by omega)
        have e84 := f84_sp hp hx.1 hw (hT (j + 1) (by omega)) (z_tw_ty' (z_bd_ty hw h3 (j := j) (by omega)))
        dsimp only
        unfold f29_66b f29_106
        simp (disch := ((try simp only [true_or, or_true, hb.k, hb.k1, hb.k2, hb.k3, hb.k4, hb.k5, hb.k6, hb.l1, hb.l2, hb.l3, hb.l4, hb.l5, hb.l6, hp.k, hp.k1, hp.k2, hp.k3, hp.k4, hp.k5, hp.k6, hp.k7, hp.k8, hp.k9, hp.k10, hp.l1, hp.l2, hp.l3, hp.l4, hp.l5, hp.l6, hp.l7, hp.l8, hp.l9, hp.l10]) <;> (try omega))) only [↓reduceIte, ↓z_ite, ↓zR, ↓zB_R, ↓zB_B, ↓zB_ite, ↓zB_gI, ↓zB_pI, ↓zB_pZ, ↓zB_aK, ↓zB_G, ↓zB_lI, ↓zB_lZ, ↓zB_wI, ↓zB_wZ, ↓zB_lIl, ↓zB_wIl, zB_pI, zB_pZ, zB_lI, zB_lZ, zB_wI, zB_wZ, z_addl, z_ladd, z_mull, z_lmul, nI_add, z_subl, Nat.not_lt_zero, z_10, z_01, z_bitc, z_b0, z_b1, ↓zB_Gb, ↓zB_G0, ↓zB_G1, z_eql, z_leq, z_ltl, z_llt, z_eq, z_lt, z_m1lt, hb.k, hb.k1, hb.k2, hb.k3, hb.k4, hb.k5, hb.k6, hb.l1, hb.l2, hb.l3, hb.l4, hb.l5, hb.l6, hp.k, hp.k1, hp.k2, hp.k3, hp.k4, hp.k5, hp.k6, hp.k7, hp.k8, hp.k9, hp.k10, hp.l1, hp.l2, hp.l3, hp.l4, hp.l5, hp.l6, hp.l7, hp.l8, hp.l9, hp.l10, ↓hb.g0, ↓hb.g1, ↓hb.g2, ↓hb.g3, ↓hb.g4, ↓hb.g5, ↓hp.g0, ↓hp.g1, ↓hp.g2, ↓hp.g3, ↓hp.g4, ↓hp.g5, ↓hp.g6, ↓hp.g7, ↓hp.g8, ↓hp.g9, ↓hp.gb, hp.gb, hj, ↓zB_c e9, zB_c e9, h7, h9, ↓zB_c e84, zB_c e84]
        cases z_fit P (m (b + 5) (z_pt l i (j + 1))) (z_hd P q (6 + j)) <;> simp
      · dsimp only
        unfold f29_66b f29_115
        simp (disch := ((try simp only [true_or, or_true, hb.k, hb.k1, hb.k2, hb.k3, hb.k4, hb.k5, hb.k6, hb.l1, hb.l2, hb.l3, hb.l4, hb.l5, hb.l6, hp.k, hp.k1, hp.k2, hp.k3, hp.k4, hp.k5, hp.k6, hp.k7, hp.k8, hp.k9, hp.k10, hp.l1, hp.l2, hp.l3, hp.l4, hp.l5, hp.l6, hp.l7, hp.l8, hp.l9, hp.l10]) <;> (try omega))) only [↓reduceIte, ↓z_ite, ↓zR, ↓zB_R, ↓zB_B, ↓zB_ite, ↓zB_gI, ↓zB_pI, ↓zB_pZ, ↓zB_aK, ↓zB_G, ↓zB_lI, ↓zB_lZ, ↓zB_wI, ↓zB_wZ, ↓zB_lIl, ↓zB_wIl, zB_pI, zB_pZ, zB_lI, zB_lZ, zB_wI, zB_wZ, z_addl, z_ladd, z_mull, z_lmul, nI_add, z_subl, Nat.not_lt_zero, z_10, z_01, z_bitc, z_b0, z_b1, ↓zB_Gb, ↓zB_G0, ↓zB_G1, z_eql, z_leq, z_ltl, z_llt, z_eq, z_lt, z_m1lt, hb.k, hb.k1, hb.k2, hb.k3, hb.k4, hb.k5, hb.k6, hb.l1, hb.l2, hb.l3, hb.l4, hb.l5, hb.l6, hp.k, hp.k1, hp.k2, hp.k3, hp.k4, hp.k5, hp.k6, hp.k7, hp.k8, hp.k9, hp.k10, hp.l1, hp.l2, hp.l3, hp.l4, hp.l5, hp.l6, hp.l7, hp.l8, hp.l9, hp.l10, ↓hb.g0, ↓hb.g1, ↓hb.g2, ↓hb.g3, ↓hb.g4, ↓hb.g5, ↓hp.g0, ↓hp.g1, ↓hp.g2, ↓hp.g3, ↓hp.g4, ↓hp.g5, ↓hp.g6, ↓hp.g7, ↓hp.g8, ↓hp.g9, ↓hp.gb, hp.gb, Nat.zero_add, Nat.lt_irrefl, hqh.2.2.2.1]
      · have : a = 0 ∨ a = 1 ∨ a = 2 := by omega
        rcases this with g | g | g <;> rw [g]
        · simp [z_sch, nI_0]
        · cases g1 : z_fit P (m (b + 5) (z_pt l i 1)) (z_hd P q 6) <;> simp [z_sch, g1, show ¬ nI 1 = 0 by decide, show nI 1 = 1 from rfl]
        · cases g1 : z_fit P (m (b + 5) (z_pt l i 1)) (z_hd P q 6) <;> cases g2 : z_fit P (m (b + 5) (z_pt l i 2)) (z_hd P q 7) <;> simp [z_sch, g1, g2, show ¬ nI 2 = 0 by decide, show ¬ nI 2 = 1 by decide]
/-- Checker.typeAt -/
theorem f24_sp (hp : z_PS S p) (hw : z_wf P) (hk : k < z_nm P) (hl : z_liv P k = true) (hb : z_BS S b R) (hc : z_CK m p P b R l) (ha : z_ap p b) (hB : z_wB (z_nc P) l) (hi : i < l.length) (hT : ∀ q, q < z_p l i → z_tw P (m (b + 5) (z_pt l i q))) (hL : ∀ j, j < i → i < z_en l j → z_en l (j + 1) ≤ i → z_k l j = 5 → z_tw P (m (b + 5) (j + 1))) (h0 : m (b + 6) i = 0) : ∃ v, f24 p (nI k) b (nI i) (z_hp S m) = some (z_st P k l (m (b + 5)) i, z_hp S (z_up m (b + 6) i v)) ∧ (z_st P k l (m (b + 5)) i ≠ -3 → v = z_bs P k l (m (b + 5)) i) := by
  have hcb := hc.2.1
  have hR := hcb.2.2.1
  have hR2 := hcb.2.2.2.1
  have h24 := hw.2.2.1
  have h2 := hcb.2.2.2.2 i hi
  have hh := hc.1.2.1.2.2 k hk hl
  have e0 : f9 b (nI i) 0 (z_hp S m) = some (nI (z_pt l i 0), z_hp S m) := f9_sp hb hcb hB.1 hi (fun j _ hj => hc.2.2 j hj) 0 (by decide)
  have e1 : f9 b (nI i) 1 (z_hp S m) = some (nI (z_pt l i 1), z_hp S m) := f9_sp hb hcb hB.1 hi (fun j _ hj => hc.2.2 j hj) 1 (by decide)
  have e2 : f9 b (nI i) 2 (z_hp S m) = some (nI (z_pt l i 2), z_hp S m) := f9_sp hb hcb hB.1 hi (fun j _ hj => hc.2.2 j hj) 2 (by decide)
  have l0 := z_pt_len hB.1 hi 0
  have l1 := z_pt_len hB.1 hi 1
  have l2 := z_pt_len hB.1 hi 2
  have done : ∀ x : Int32, x = z_st P k l (m (b + 5)) i → z_bs P k l (m (b + 5)) i = 0 → ∃ v, some (x, z_hp S m) = some (z_st P k l (m (b + 5)) i, z_hp S (z_up m (b + 6) i v)) ∧ (z_st P k l (m (b + 5)) i ≠ -3 → v = z_bs P k l (m (b + 5)) i) := fun x hx hbs => ⟨m (b + 6) i, by rw [z_up_id, hx], fun _ => by rw [h0, hbs]⟩
  unfold f24 f24_175 f24_196 f24_198 f24_214
  rcases z_kc hB hi with g | g | g | g | g | g | g | g | g | g | g | g | g | g
  · simp (disch := ((try simp only [true_or, or_true, hb.k, hb.k1, hb.k2, hb.k3, hb.k4, hb.k5, hb.k6, hb.l1, hb.l2, hb.l3, hb.l4, hb.l5, hb.l6, hp.k, hp.k1, hp.k2, hp.k3, hp.k4, hp.k5, hp.k6, hp.k7, hp.k8, hp.k9, hp.k10, hp.l1, hp.l2, hp.l3, hp.l4, hp.l5, hp.l6, hp.l7, hp.l8, hp.l9, hp.l10]) <;> (try omega))) only [↓reduceIte, ↓z_ite, ↓zR, ↓zB_R, ↓zB_B, ↓zB_ite, ↓zB_gI, ↓zB_pI, ↓zB_pZ, ↓zB_aK, ↓zB_G, ↓zB_lI, ↓zB_lZ, ↓zB_wI, ↓zB_wZ, ↓zB_lIl, ↓zB_wIl, zB_pI, zB_pZ, zB_lI, zB_lZ, zB_wI, zB_wZ, z_addl, z_ladd, z_mull, z_lmul, nI_add, z_subl, Nat.not_lt_zero, z_10, z_01, z_bitc, z_b0, z_b1, ↓zB_Gb, ↓zB_G0, ↓zB_G1, z_eql, z_leq, z_ltl, z_llt, z_eq, z_lt, z_m1lt, hb.k, hb.k1, hb.k2, hb.k3, hb.k4, hb.k5, hb.k6, hb.l1, hb.l2, hb.l3, hb.l4, hb.l5, hb.l6, hp.k, hp.k1, hp.k2, hp.k3, hp.k4, hp.k5, hp.k6, hp.k7, hp.k8, hp.k9, hp.k10, hp.l1, hp.l2, hp.l3, hp.l4, hp.l5, hp.l6, hp.l7, hp.l8, hp.l9, hp.l10, ↓hb.g0, ↓hb.g1, ↓hb.g2, ↓hb.g3, ↓hb.g4, ↓hb.g5, ↓hp.g0, ↓hp.g1, ↓hp.g2, ↓hp.g3, ↓hp.g4, ↓hp.g5, ↓hp.g6, ↓hp.g7, ↓hp.g8, ↓hp.g9, ↓hp.gb, hp.gb, z_t0, z_t1, z_t2, z_t3, z_t4, z_t5, z_t6, z_t7, z_t8, z_t9, z_t10, z_t11, z_t12, z_t13, Int.reduceEq, h2.1, g, ↓zB_c e0, zB_c e0, ↓zB_c e1, zB_c e1]
    exact done _ (z_st_0 g).symm (by unfold z_bs; rw [g]; rfl)
  · obtain ⟨v, h3, h4⟩ := f27_sp hp hw hk hl hb hc ha hB hi (Or.inl g) (fun g2 => absurd (g.symm.trans g2) (by decide)) hL
    refine ⟨v, ?_, h4⟩
    simp (disch := ((try simp only [true_or, or_true, hb.k, hb.k1, hb.k2, hb.k3, hb.k4, hb.k5, hb.k6, hb.l1, hb.l2, hb.l3, hb.l4, hb.l5, hb.l6, hp.k, hp.k1, hp.k2, hp.k3, hp.k4, hp.k5, hp.k6, hp.k7, hp.k8, hp.k9, hp.k10, hp.l1, hp.l2, hp.l3, hp.l4, hp.l5, hp.l6, hp.l7, hp.l8, hp.l9, hp.l10]) <;> (try omega))) only [↓reduceIte, ↓z_ite, ↓zR, ↓zB_R, ↓zB_B, ↓zB_ite, ↓zB_gI, ↓zB_pI, ↓zB_pZ, ↓zB_aK, ↓zB_G, ↓zB_lI, ↓zB_lZ, ↓zB_wI, ↓zB_wZ, ↓zB_lIl, ↓zB_wIl, zB_pI, zB_pZ, zB_lI, zB_lZ, zB_wI, zB_wZ, z_addl, z_ladd, z_mull, z_lmul, nI_add, z_subl, Nat.not_lt_zero, z_10, z_01, z_bitc, z_b0, z_b1, ↓zB_Gb, ↓zB_G0, ↓zB_G1, z_eql, z_leq, z_ltl, z_llt, z_eq, z_lt, z_m1lt, hb.k, hb.k1, hb.k2, hb.k3, hb.k4, hb.k5, hb.k6, hb.l1, hb.l2, hb.l3, hb.l4, hb.l5, hb.l6, hp.k, hp.k1, hp.k2, hp.k3, hp.k4, hp.k5, hp.k6, hp.k7, hp.k8, hp.k9, hp.k10, hp.l1, hp.l2, hp.l3, hp.l4, hp.l5, hp.l6, hp.l7, hp.l8, hp.l9, hp.l10, ↓hb.g0, ↓hb.g1, ↓hb.g2, ↓hb.g3, ↓hb.g4, ↓hb.g5, ↓hp.g0, ↓hp.g1, ↓hp.g2, ↓hp.g3, ↓hp.g4, ↓hp.g5, ↓hp.g6, ↓hp.g7, ↓hp.g8, ↓hp.g9, ↓hp.gb, hp.gb, z_t0, z_t1, z_t2, z_t3, z_t4, z_t5, z_t6, z_t7, z_t8, z_t9, z_t10, z_t11, z_t12, z_t13, Int.reduceEq, h2.1, g, ↓zB_c e0, zB_c e0, ↓zB_c e1, zB_c e1, ↓zB_c h3, zB_c h3]
  · simp (disch := ((try simp only [true_or, or_true, hb.k, hb.k1, hb.k2, hb.k3, hb.k4, hb.k5, hb.k6, hb.l1, hb.l2, hb.l3, hb.l4, hb.l5, hb.l6, hp.k, hp.k1, hp.k2, hp.k3, hp.k4, hp.k5, hp.k6, hp.k7, hp.k8, hp.k9, hp.k10, hp.l1, hp.l2, hp.l3, hp.l4, hp.l5, hp.l6, hp.l7, hp.l8, hp.l9, hp.l10]) <;> (try omega))) only [↓reduceIte, ↓z_ite, ↓zR, ↓zB_R, ↓zB_B, ↓zB_ite, ↓zB_gI, ↓zB_pI, ↓zB_pZ, ↓zB_aK, ↓zB_G, ↓zB_lI, ↓zB_lZ, ↓zB_wI, ↓zB_wZ, ↓zB_lIl, ↓zB_wIl, zB_pI, zB_pZ, zB_lI, zB_lZ, zB_wI, zB_wZ, z_addl, z_ladd, z_mull, z_lmul, nI_add, z_subl, Nat.not_lt_zero, z_10, z_01, z_bitc, z_b0, z_b1, ↓zB_Gb, ↓zB_G0, ↓zB_G1, z_eql, z_leq, z_ltl, z_llt, z_eq, z_lt, z_m1lt, hb.k, hb.k1, hb.k2, hb.k3, hb.k4, hb.k5, hb.k6, hb.l1, hb.l2, hb.l3, hb.l4, hb.l5, hb.l6, hp.k, hp.k1, hp.k2, hp.k3, hp.k4, hp.k5, hp.k6, hp.k7, hp.k8, hp.k9, hp.k10, hp.l1, hp.l2, hp.l3, hp.l4, hp.l5, hp.l6, hp.l7, hp.l8, hp.l9, hp.l10, ↓hb.g0, ↓hb.g1, ↓hb.g2, ↓hb.g3, ↓hb.g4, ↓hb.g5, ↓hp.g0, ↓hp.g1, ↓hp.g2, ↓hp.g3, ↓hp.g4, ↓hp.g5, ↓hp.g6, ↓hp.g7, ↓hp.g8, ↓hp.g9, ↓hp.gb, hp.gb, z_t0, z_t1, z_t2, z_t3, z_t4, z_t5, z_t6, z_t7, z_t8, z_t9, z_t10, z_t11, z_t12, z_t13, Int.reduceEq, h2.1, g, ↓zB_c e0, zB_c e0, ↓zB_c e1, zB_c e1, hh.1]
    exact done _ (z_st_2 g).symm (by unfold z_bs; rw [g]; rfl)
  · obtain ⟨v, h3, h4⟩ := f28_sp hp hw hb hc ha hB hi (Or.inl g) hT
    refine ⟨v, ?_, h4⟩
    simp (disch := ((try simp only [true_or, or_true, hb.k, hb.k1, hb.k2, hb.k3, hb.k4, hb.k5, hb.k6, hb.l1, hb.l2, hb.l3, hb.l4, hb.l5, hb.l6, hp.k, hp.k1, hp.k2, hp.k3, hp.k4, hp.k5, hp.k6, hp.k7, hp.k8, hp.k9, hp.k10, hp.l1, hp.l2, hp.l3, hp.l4, hp.l5, hp.l6, hp.l7, hp.l8, hp.l9, hp.l10]) <;> (try omega))) only [↓reduceIte, ↓z_ite, ↓zR, ↓zB_R, ↓zB_B, ↓zB_ite, ↓zB_gI, ↓zB_pI, ↓zB_pZ, ↓zB_aK, ↓zB_G, ↓zB_lI, ↓zB_lZ, ↓zB_wI, ↓zB_wZ, ↓zB_lIl, ↓zB_wIl, zB_pI, zB_pZ, zB_lI, zB_lZ, zB_wI, zB_wZ, z_addl, z_ladd, z_mull, z_lmul, nI_add, z_subl, Nat.not_lt_zero, z_10, z_01, z_bitc, z_b0, z_b1, ↓zB_Gb, ↓zB_G0, ↓zB_G1, z_eql, z_leq, z_ltl, z_llt, z_eq, z_lt, z_m1lt, hb.k, hb.k1, hb.k2, hb.k3, hb.k4, hb.k5, hb.k6, hb.l1, hb.l2, hb.l3, hb.l4, hb.l5, hb.l6, hp.k, hp.k1, hp.k2, hp.k3, hp.k4, hp.k5, hp.k6, hp.k7, hp.k8, hp.k9, hp.k10, hp.l1, hp.l2, hp.l3, hp.l4, hp.l5, hp.l6, hp.l7, hp.l8, hp.l9, hp.l10, ↓hb.g0, ↓hb.g1, ↓hb.g2, ↓hb.g3, ↓hb.g4, ↓hb.g5, ↓hp.g0, ↓hp.g1, ↓hp.g2, ↓hp.g3, ↓hp.g4, ↓hp.g5, ↓hp.g6, ↓hp.g7, ↓hp.g8, ↓hp.g9, ↓hp.gb, hp.gb, z_t0, z_t1, z_t2, z_t3, z_t4, z_t5, z_t6, z_t7, z_t8, z_t9, z_t10, z_t11, z_t12, z_t13, Int.reduceEq, h2.1, g, ↓zB_c e0, zB_c e0, ↓zB_c e1, zB_c e1, ↓zB_c h3, zB_c h3]
  · obtain ⟨v, h3, h4⟩ := f28_sp hp hw hb hc ha hB hi (Or.inr g) hT
    refine ⟨v, ?_, h4⟩
    simp (disch := ((try simp only [true_or, or_true, hb.k, hb.k1, hb.k2, hb.k3, hb.k4, hb.k5, hb.k6, hb.l1, hb.l2, hb.l3, hb.l4, hb.l5, hb.l6, hp.k, hp.k1, hp.k2, hp.k3, hp.k4, hp.k5, hp.k6, hp.k7, hp.k8, hp.k9, hp.k10, hp.l1, hp.l2, hp.l3, hp.l4, hp.l5, hp.l6, hp.l7, hp.l8, hp.l9, hp.l10]) <;> (try omega))) only [↓reduceIte, ↓z_ite, ↓zR, ↓zB_R, ↓zB_B, ↓zB_ite, ↓zB_gI, ↓zB_pI, ↓zB_pZ, ↓zB_aK, ↓zB_G, ↓zB_lI, ↓zB_lZ, ↓zB_wI, ↓zB_wZ, ↓zB_lIl, ↓zB_wIl, zB_pI, zB_pZ, zB_lI, zB_lZ, zB_wI, zB_wZ, z_addl, z_ladd, z_mull, z_lmul, nI_add, z_subl, Nat.not_lt_zero, z_10, z_01, z_bitc, z_b0, z_b1, ↓zB_Gb, ↓zB_G0, ↓zB_G1, z_eql, z_leq, z_ltl, z_llt, z_eq, z_lt, z_m1lt, hb.k, hb.k1, hb.k2, hb.k3, hb.k4, hb.k5, hb.k6, hb.l1, hb.l2, hb.l3, hb.l4, hb.l5, hb.l6, hp.k, hp.k1, hp.k2, hp.k3, hp.k4, hp.k5, hp.k6, hp.k7, hp.k8, hp.k9, hp.k10, hp.l1, hp.l2, hp.l3, hp.l4, hp.l5, hp.l6, hp.l7, hp.l8, hp.l9, hp.l10, ↓hb.g0, ↓hb.g1, ↓hb.g2, ↓hb.g3, ↓hb.g4, ↓hb.g5, ↓hp.g0, ↓hp.g1, ↓hp.g2, ↓hp.g3, ↓hp.g4, ↓hp.g5, ↓hp.g6, ↓hp.g7, ↓hp.g8, ↓hp.g9, ↓hp.gb, hp.gb, z_t0, z_t1, z_t2, z_t3, z_t4, z_t5, z_t6, z_t7, z_t8, z_t9, z_t10, z_t11, z_t12, z_t13, Int.reduceEq, h2.1, g, ↓zB_c e0, zB_c e0, ↓zB_c e1, zB_c e1, ↓zB_c h3, zB_c h3]
  · simp (disch := ((try simp only [true_or, or_true, hb.k, hb.k1, hb.k2, hb.k3, hb.k4, hb.k5, hb.k6, hb.l1, hb.l2, hb.l3, hb.l4, hb.l5, hb.l6, hp.k, hp.k1, hp.k2, hp.k3, hp.k4, hp.k5, hp.k6, hp.k7, hp.k8, hp.k9, hp.k10, hp.l1, hp.l2, hp.l3, hp.l4, hp.l5, hp.l6, hp.l7, hp.l8, hp.l9, hp.l10]) <;> (try omega))) only [↓reduceIte, ↓z_ite, ↓zR, ↓zB_R, ↓zB_B, ↓zB_ite, ↓zB_gI, ↓zB_pI, ↓zB_pZ, ↓zB_aK, ↓zB_G, ↓zB_lI, ↓zB_lZ, ↓zB_wI, ↓zB_wZ, ↓zB_lIl, ↓zB_wIl, zB_pI, zB_pZ, zB_lI, zB_lZ, zB_wI, zB_wZ, z_addl, z_ladd, z_mull, z_lmul, nI_add, z_subl, Nat.not_lt_zero, z_10, z_01, z_bitc, z_b0, z_b1, ↓zB_Gb, ↓zB_G0, ↓zB_G1, z_eql, z_leq, z_ltl, z_llt, z_eq, z_lt, z_m1lt, hb.k, hb.k1, hb.k2, hb.k3, hb.k4, hb.k5, hb.k6, hb.l1, hb.l2, hb.l3, hb.l4, hb.l5, hb.l6, hp.k, hp.k1, hp.k2, hp.k3, hp.k4, hp.k5, hp.k6, hp.k7, hp.k8, hp.k9, hp.k10, hp.l1, hp.l2, hp.l3, hp.l4, hp.l5, hp.l6, hp.l7, hp.l8, hp.l9, hp.l10, ↓hb.g0, ↓hb.g1, ↓hb.g2, ↓hb.g3, ↓hb.g4, ↓hb.g5, ↓hp.g0, ↓hp.g1, ↓hp.g2, ↓hp.g3, ↓hp.g4, ↓hp.g5, ↓hp.g6, ↓hp.g7, ↓hp.g8, ↓hp.g9, ↓hp.gb, hp.gb, z_t0, z_t1, z_t2, z_t3, z_t4, z_t5, z_t6, z_t7, z_t8, z_t9, z_t10, z_t11, z_t12, z_t13, Int.reduceEq, h2.1, g, ↓zB_c e0, zB_c e0, ↓zB_c e1, zB_c e1]
    exact done _ (z_st_5 g).symm (by unfold z_bs; rw [g]; rfl)
  · obtain ⟨v, h3, h4⟩ := f27_sp hp hw hk hl hb hc ha hB hi (Or.inr g) (fun _ => by have := hT 0 (by rw [z_p_6 g]; decide); rwa [z_pt_0] at this) hL
    refine ⟨v, ?_, h4⟩
    simp (disch := ((try simp only [true_or, or_true, hb.k, hb.k1, hb.k2, hb.k3, hb.k4, hb.k5, hb.k6, hb.l1, hb.l2, hb.l3, hb.l4, hb.l5, hb.l6, hp.k, hp.k1, hp.k2, hp.k3, hp.k4, hp.k5, hp.k6, hp.k7, hp.k8, hp.k9, hp.k10, hp.l1, hp.l2, hp.l3, hp.l4, hp.l5, hp.l6, hp.l7, hp.l8, hp.l9, hp.l10]) <;> (try omega))) only [↓reduceIte, ↓z_ite, ↓zR, ↓zB_R, ↓zB_B, ↓zB_ite, ↓zB_gI, ↓zB_pI, ↓zB_pZ, ↓zB_aK, ↓zB_G, ↓zB_lI, ↓zB_lZ, ↓zB_wI, ↓zB_wZ, ↓zB_lIl, ↓zB_wIl, zB_pI, zB_pZ, zB_lI, zB_lZ, zB_wI, zB_wZ, z_addl, z_ladd, z_mull, z_lmul, nI_add, z_subl, Nat.not_lt_zero, z_10, z_01, z_bitc, z_b0, z_b1, ↓zB_Gb, ↓zB_G0, ↓zB_G1, z_eql, z_leq, z_ltl, z_llt, z_eq, z_lt, z_m1lt, hb.k, hb.k1, hb.k2, hb.k3, hb.k4, hb.k5, hb.k6, hb.l1, hb.l2, hb.l3, hb.l4, hb.l5, hb.l6, hp.k, hp.k1, hp.k2, hp.k3, hp.k4, hp.k5, hp.k6, hp.k7, hp.k8, hp.k9, hp.k10, hp.l1, hp.l2, hp.l3, hp.l4, hp.l5, hp.l6, hp.l7, hp.l8, hp.l9, hp.l10, ↓hb.g0, ↓hb.g1, ↓hb.g2, ↓hb.g3, ↓hb.g4, ↓hb.g5, ↓hp.g0, ↓hp.g1, ↓hp.g2, ↓hp.g3, ↓hp.g4, ↓hp.g5, ↓hp.g6, ↓hp.g7, ↓hp.g8, ↓hp.g9, ↓hp.gb, hp.gb, z_t0, z_t1, z_t2, z_t3, z_t4, z_t5, z_t6, z_t7, z_t8, z_t9, z_t10, z_t11, z_t12, z_t13, Int.reduceEq, h2.1, g, ↓zB_c e0, zB_c e0, ↓zB_c e1, zB_c e1, ↓zB_c h3, zB_c h3]
  · obtain ⟨v, h3, h4⟩ := f29_sp hp hw hb hc ha hB hi g hT
    refine ⟨v, ?_, h4⟩
    simp (disch := ((try simp only [true_or, or_true, hb.k, hb.k1, hb.k2, hb.k3, hb.k4, hb.k5, hb.k6, hb.l1, hb.l2, hb.l3, hb.l4, hb.l5, hb.l6, hp.k, hp.k1, hp.k2, hp.k3, hp.k4, hp.k5, hp.k6, hp.k7, hp.k8, hp.k9, hp.k10, hp.l1, hp.l2, hp.l3, hp.l4, hp.l5, hp.l6, hp.l7, hp.l8, hp.l9, hp.l10]) <;> (try omega))) only [↓reduceIte, ↓z_ite, ↓zR, ↓zB_R, ↓zB_B, ↓zB_ite, ↓zB_gI, ↓zB_pI, ↓zB_pZ, ↓zB_aK, ↓zB_G, ↓zB_lI, ↓zB_lZ, ↓zB_wI, ↓zB_wZ, ↓zB_lIl, ↓zB_wIl, zB_pI, zB_pZ, zB_lI, zB_lZ, zB_wI, zB_wZ, z_addl, z_ladd, z_mull, z_lmul, nI_add, z_subl, Nat.not_lt_zero, z_10, z_01, z_bitc, z_b0, z_b1, ↓zB_Gb, ↓zB_G0, ↓zB_G1, z_eql, z_leq, z_ltl, z_llt, z_eq, z_lt, z_m1lt, hb.k, hb.k1, hb.k2, hb.k3, hb.k4, hb.k5, hb.k6, hb.l1, hb.l2, hb.l3, hb.l4, hb.l5, hb.l6, hp.k, hp.k1, hp.k2, hp.k3, hp.k4, hp.k5, hp.k6, hp.k7, hp.k8, hp.k9, hp.k10, hp.l1, hp.l2, hp.l3, hp.l4, hp.l5, hp.l6, hp.l7, hp.l8, hp.l9, hp.l10, ↓hb.g0, ↓hb.g1, ↓hb.g2, ↓hb.g3, ↓hb.g4, ↓hb.g5, ↓hp.g0, ↓hp.g1, ↓hp.g2, ↓hp.g3, ↓hp.g4, ↓hp.g5, ↓hp.g6, ↓hp.g7, ↓hp.g8, ↓hp.g9, ↓hp.gb, hp.gb, z_t0, z_t1, z_t2, z_t3, z_t4, z_t5, z_t6, z_t7, z_t8, z_t9, z_t10, z_t11, z_t12, z_t13, Int.reduceEq, h2.1, g, ↓zB_c e0, zB_c e0, ↓zB_c e1, zB_c e1, ↓zB_c h3, zB_c h3]
  · simp (disch := ((try simp only [true_or, or_true, hb.k, hb.k1, hb.k2, hb.k3, hb.k4, hb.k5, hb.k6, hb.l1, hb.l2, hb.l3, hb.l4, hb.l5, hb.l6, hp.k, hp.k1, hp.k2, hp.k3, hp.k4, hp.k5, hp.k6, hp.k7, hp.k8, hp.k9, hp.k10, hp.l1, hp.l2, hp.l3, hp.l4, hp.l5, hp.l6, hp.l7, hp.l8, hp.l9, hp.l10]) <;> (try omega))) only [↓reduceIte, ↓z_ite, ↓zR, ↓zB_R, ↓zB_B, ↓zB_ite, ↓zB_gI, ↓zB_pI, ↓zB_pZ, ↓zB_aK, ↓zB_G, ↓zB_lI, ↓zB_lZ, ↓zB_wI, ↓zB_wZ, ↓zB_lIl, ↓zB_wIl, zB_pI, zB_pZ, zB_lI, zB_lZ, zB_wI, zB_wZ, z_addl, z_ladd, z_mull, z_lmul, nI_add, z_subl, Nat.not_lt_zero, z_10, z_01, z_bitc, z_b0, z_b1, ↓zB_Gb, ↓zB_G0, ↓zB_G1, z_eql, z_leq, z_ltl, z_llt, z_eq, z_lt, z_m1lt, hb.k, hb.k1, hb.k2, hb.k3, hb.k4, hb.k5, hb.k6, hb.l1, hb.l2, hb.l3, hb.l4, hb.l5, hb.l6, hp.k, hp.k1, hp.k2, hp.k3, hp.k4, hp.k5, hp.k6, hp.k7, hp.k8, hp.k9, hp.k10, hp.l1, hp.l2, hp.l3, hp.l4, hp.l5, hp.l6, hp.l7, hp.l8, hp.l9, hp.l10, ↓hb.g0, ↓hb.g1, ↓hb.g2, ↓hb.g3, ↓hb.g4, ↓hb.g5, ↓hp.g0, ↓hp.g1, ↓hp.g2, ↓hp.g3, ↓hp.g4, ↓hp.g5, ↓hp.g6, ↓hp.g7, ↓hp.g8, ↓hp.g9, ↓hp.gb, hp.gb, z_t0, z_t1, z_t2, z_t3, z_t4, z_t5, z_t6, z_t7, z_t8, z_t9, z_t10, z_t11, z_t12, z_t13, Int.reduceEq, h2.1, g, ↓zB_c e0, zB_c e0, ↓zB_c e1, zB_c e1, h2.2.1]
    exact done _ (z_st_8 g).symm (by unfold z_bs; rw [g]; rfl)
  · simp (disch := ((try simp only [true_or, or_true, hb.k, hb.k1, hb.k2, hb.k3, hb.k4, hb.k5, hb.k6, hb.l1, hb.l2, hb.l3, hb.l4, hb.l5, hb.l6, hp.k, hp.k1, hp.k2, hp.k3, hp.k4, hp.k5, hp.k6, hp.k7, hp.k8, hp.k9, hp.k10, hp.l1, hp.l2, hp.l3, hp.l4, hp.l5, hp.l6, hp.l7, hp.l8, hp.l9, hp.l10]) <;> (try omega))) only [↓reduceIte, ↓z_ite, ↓zR, ↓zB_R, ↓zB_B, ↓zB_ite, ↓zB_gI, ↓zB_pI, ↓zB_pZ, ↓zB_aK, ↓zB_G, ↓zB_lI, ↓zB_lZ, ↓zB_wI, ↓zB_wZ, ↓zB_lIl, ↓zB_wIl, zB_pI, zB_pZ, zB_lI, zB_lZ, zB_wI, zB_wZ, z_addl, z_ladd, z_mull, z_lmul, nI_add, z_subl, Nat.not_lt_zero, z_10, z_01, z_bitc, z_b0, z_b1, ↓zB_Gb, ↓zB_G0, ↓zB_G1, z_eql, z_leq, z_ltl, z_llt, z_eq, z_lt, z_m1lt, hb.k, hb.k1, hb.k2, hb.k3, hb.k4, hb.k5, hb.k6, hb.l1, hb.l2, hb.l3, hb.l4, hb.l5, hb.l6, hp.k, hp.k1, hp.k2, hp.k3, hp.k4, hp.k5, hp.k6, hp.k7, hp.k8, hp.k9, hp.k10, hp.l1, hp.l2, hp.l3, hp.l4, hp.l5, hp.l6, hp.l7, hp.l8, hp.l9, hp.l10, ↓hb.g0, ↓hb.g1, ↓hb.g2, ↓hb.g3, ↓hb.g4, ↓hb.g5, ↓hp.g0, ↓hp.g1, ↓hp.g2, ↓hp.g3, ↓hp.g4, ↓hp.g5, ↓hp.g6, ↓hp.g7, ↓hp.g8, ↓hp.g9, ↓hp.gb, hp.gb, z_t0, z_t1, z_t2, z_t3, z_t4, z_t5, z_t6, z_t7, z_t8, z_t9, z_t10, z_t11, z_t12, z_t13, Int.reduceEq, h2.1, g, ↓zB_c e0, zB_c e0, ↓zB_c e1, zB_c e1]
    exact done _ (z_st_9 g).symm (by unfold z_bs; rw [g]; rfl)
  · simp (disch := ((try simp only [true_or, or_true, hb.k, hb.k1, hb.k2, hb.k3, hb.k4, hb.k5, hb.k6, hb.l1, hb.l2, hb.l3, hb.l4, hb.l5, hb.l6, hp.k, hp.k1, hp.k2, hp.k3, hp.k4, hp.k5, hp.k6, hp.k7, hp.k8, hp.k9, hp.k10, hp.l1, hp.l2, hp.l3, hp.l4, hp.l5, hp.l6, hp.l7, hp.l8, hp.l9, hp.l10]) <;> (try omega))) only [↓reduceIte, ↓z_ite, ↓zR, ↓zB_R, ↓zB_B, ↓zB_ite, ↓zB_gI, ↓zB_pI, ↓zB_pZ, ↓zB_aK, ↓zB_G, ↓zB_lI, ↓zB_lZ, ↓zB_wI, ↓zB_wZ, ↓zB_lIl, ↓zB_wIl, zB_pI, zB_pZ, zB_lI, zB_lZ, zB_wI, zB_wZ, z_addl, z_ladd, z_mull, z_lmul, nI_add, z_subl, Nat.not_lt_zero, z_10, z_01, z_bitc, z_b0, z_b1, ↓zB_Gb, ↓zB_G0, ↓zB_G1, z_eql, z_leq, z_ltl, z_llt, z_eq, z_lt, z_m1lt, hb.k, hb.k1, hb.k2, hb.k3, hb.k4, hb.k5, hb.k6, hb.l1, hb.l2, hb.l3, hb.l4, hb.l5, hb.l6, hp.k, hp.k1, hp.k2, hp.k3, hp.k4, hp.k5, hp.k6, hp.k7, hp.k8, hp.k9, hp.k10, hp.l1, hp.l2, hp.l3, hp.l4, hp.l5, hp.l6, hp.l7, hp.l8, hp.l9, hp.l10, ↓hb.g0, ↓hb.g1, ↓hb.g2, ↓hb.g3, ↓hb.g4, ↓hb.g5, ↓hp.g0, ↓hp.g1, ↓hp.g2, ↓hp.g3, ↓hp.g4, ↓hp.g5, ↓hp.g6, ↓hp.g7, ↓hp.g8, ↓hp.g9, ↓hp.gb, hp.gb, z_t0, z_t1, z_t2, z_t3, z_t4, z_t5, z_t6, z_t7, z_t8, z_t9, z_t10, z_t11, z_t12, z_t13, Int.reduceEq, h2.1, g, ↓zB_c e0, zB_c e0, ↓zB_c e1, zB_c e1, ↓zB_c e2, zB_c e2, ↓zB_c (f25_sp (S := S) (m := m) (m (b + 5) (z_pt l i 0))), zB_c (f25_sp (S := S) (m := m) (m (b + 5) (z_pt l i 0))), ↓zB_c (f26_sp hp hc.1 hw (hT 1 (by rw [z_p_10 g]; decide)) (hT 2 (by rw [z_p_10 g]; decide))), zB_c (f26_sp hp hc.1 hw (hT 1 (by rw [z_p_10 g]; decide)) (hT 2 (by rw [z_p_10 g]; decide)))]
    cases gg : z_num (m (b + 5) (z_pt l i 0)) with
    | false =>
      simp only [if_true]
      exact done _ (by rw [z_st_10 g, gg]; rfl) (by unfold z_bs; rw [g]; rfl)
    | true =>
      simp only [Bool.true_eq_false, if_false]
      exact done _ (by rw [z_st_10 g, gg]; rfl) (by unfold z_bs; rw [g]; rfl)
  · simp (disch := ((try simp only [true_or, or_true, hb.k, hb.k1, hb.k2, hb.k3, hb.k4, hb.k5, hb.k6, hb.l1, hb.l2, hb.l3, hb.l4, hb.l5, hb.l6, hp.k, hp.k1, hp.k2, hp.k3, hp.k4, hp.k5, hp.k6, hp.k7, hp.k8, hp.k9, hp.k10, hp.l1, hp.l2, hp.l3, hp.l4, hp.l5, hp.l6, hp.l7, hp.l8, hp.l9, hp.l10]) <;> (try omega))) only [↓reduceIte, ↓z_ite, ↓zR, ↓zB_R, ↓zB_B, ↓zB_ite, ↓zB_gI, ↓zB_pI, ↓zB_pZ, ↓zB_aK, ↓zB_G, ↓zB_lI, ↓zB_lZ, ↓zB_wI, ↓zB_wZ, ↓zB_lIl, ↓zB_wIl, zB_pI, zB_pZ, zB_lI, zB_lZ, zB_wI, zB_wZ, z_addl, z_ladd, z_mull, z_lmul, nI_add, z_subl, Nat.not_lt_zero, z_10, z_01, z_bitc, z_b0, z_b1, ↓zB_Gb, ↓zB_G0, ↓zB_G1, z_eql, z_leq, z_ltl, z_llt, z_eq, z_lt, z_m1lt, hb.k, hb.k1, hb.k2, hb.k3, hb.k4, hb.k5, hb.k6, hb.l1, hb.l2, hb.l3, hb.l4, hb.l5, hb.l6, hp.k, hp.k1, hp.k2, hp.k3, hp.k4, hp.k5, hp.k6, hp.k7, hp.k8, hp.k9, hp.k10, hp.l1, hp.l2, hp.l3, hp.l4, hp.l5, hp.l6, hp.l7, hp.l8, hp.l9, hp.l10, ↓hb.g0, ↓hb.g1, ↓hb.g2, ↓hb.g3, ↓hb.g4, ↓hb.g5, ↓hp.g0, ↓hp.g1, ↓hp.g2, ↓hp.g3, ↓hp.g4, ↓hp.g5, ↓hp.g6, ↓hp.g7, ↓hp.g8, ↓hp.g9, ↓hp.gb, hp.gb, z_t0, z_t1, z_t2, z_t3, z_t4, z_t5, z_t6, z_t7, z_t8, z_t9, z_t10, z_t11, z_t12, z_t13, Int.reduceEq, h2.1, g, ↓zB_c e0, zB_c e0, ↓zB_c e1, zB_c e1, ↓zB_c (f25_sp (S := S) (m := m) (m (b + 5) (z_pt l i 0))), zB_c (f25_sp (S := S) (m := m) (m (b + 5) (z_pt l i 0))), ↓zB_c (f25_sp (S := S) (m := m) (m (b + 5) (z_pt l i 1))), zB_c (f25_sp (S := S) (m := m) (m (b + 5) (z_pt l i 1)))]
    cases gg : z_num (m (b + 5) (z_pt l i 0)) with
    | false =>
      simp only [if_true]
      exact done _ (by rw [z_st_11 g, gg]; rfl) (by unfold z_bs; rw [g]; rfl)
    | true =>
      simp only [Bool.true_eq_false, if_false]
      cases gg2 : z_num (m (b + 5) (z_pt l i 1)) with
      | false =>
        simp only [if_true]
        exact done _ (by rw [z_st_11 g, gg, gg2]; rfl) (by unfold z_bs; rw [g]; rfl)
      | true =>
        simp only [Bool.true_eq_false, if_false]
        exact done _ (by rw [z_st_11 g, gg, gg2]; rfl) (by unfold z_bs; rw [g]; rfl)
  · simp (disch := ((try simp only [true_or, or_true, hb.k, hb.k1, hb.k2, hb.k3, hb.k4, hb.k5, hb.k6, hb.l1, hb.l2, hb.l3, hb.l4, hb.l5, hb.l6, hp.k, hp.k1, hp.k2, hp.k3, hp.k4, hp.k5, hp.k6, hp.k7, hp.k8, hp.k9, hp.k10, hp.l1, hp.l2, hp.l3, hp.l4, hp.l5, hp.l6, hp.l7, hp.l8, hp.l9, hp.l10]) <;> (try omega))) only [↓reduceIte, ↓z_ite, ↓zR, ↓zB_R, ↓zB_B, ↓zB_ite, ↓zB_gI, ↓zB_pI, ↓zB_pZ, ↓zB_aK, ↓zB_G, ↓zB_lI, ↓zB_lZ, ↓zB_wI, ↓zB_wZ, ↓zB_lIl, ↓zB_wIl, zB_pI, zB_pZ, zB_lI, zB_lZ, zB_wI, zB_wZ, z_addl, z_ladd, z_mull, z_lmul, nI_add, z_subl, Nat.not_lt_zero, z_10, z_01, z_bitc, z_b0, z_b1, ↓zB_Gb, ↓zB_G0, ↓zB_G1, z_eql, z_leq, z_ltl, z_llt, z_eq, z_lt, z_m1lt, hb.k, hb.k1, hb.k2, hb.k3, hb.k4, hb.k5, hb.k6, hb.l1, hb.l2, hb.l3, hb.l4, hb.l5, hb.l6, hp.k, hp.k1, hp.k2, hp.k3, hp.k4, hp.k5, hp.k6, hp.k7, hp.k8, hp.k9, hp.k10, hp.l1, hp.l2, hp.l3, hp.l4, hp.l5, hp.l6, hp.l7, hp.l8, hp.l9, hp.l10, ↓hb.g0, ↓hb.g1, ↓hb.g2, ↓hb.g3, ↓hb.g4, ↓hb.g5, ↓hp.g0, ↓hp.g1, ↓hp.g2, ↓hp.g3, ↓hp.g4, ↓hp.g5, ↓hp.g6, ↓hp.g7, ↓hp.g8, ↓hp.g9, ↓hp.gb, hp.gb, z_t0, z_t1, z_t2, z_t3, z_t4, z_t5, z_t6, z_t7, z_t8, z_t9, z_t10, z_t11, z_t12, z_t13, Int.reduceEq, h2.1, g, ↓zB_c e0, zB_c e0, ↓zB_c e1, zB_c e1, ↓zB_c (f25_sp (S := S) (m := m) (m (b + 5) (z_pt l i 0))), zB_c (f25_sp (S := S) (m := m) (m (b + 5) (z_pt l i 0)))]
    cases gg : z_num (m (b + 5) (z_pt l i 0)) with
    | false =>
      simp only [if_true]
      exact done _ (by rw [z_st_12 g, gg]; rfl) (by unfold z_bs; rw [g]; rfl)
    | true =>
      simp only [Bool.true_eq_false, if_false]
      exact done _ (by rw [z_st_12 g, gg]; rfl) (by unfold z_bs; rw [g]; rfl)
  · simp (disch := ((try simp only [true_or, or_true, hb.k, hb.k1, hb.k2, hb.k3, hb.k4, hb.k5, hb.k6, hb.l1, hb.l2, hb.l3, hb.l4, hb.l5, hb.l6, hp.k, hp.k1, hp.k2, hp.k3, hp.k4, hp.k5, hp.k6, hp.k7, hp.k8, hp.k9, hp.k10, hp.l1, hp.l2, hp.l3, hp.l4, hp.l5, hp.l6, hp.l7, hp.l8, hp.l9, hp.l10]) <;> (try omega))) only [↓reduceIte, ↓z_ite, ↓zR, ↓zB_R, ↓zB_B, ↓zB_ite, ↓zB_gI, ↓zB_pI, ↓zB_pZ, ↓zB_aK, ↓zB_G, ↓zB_lI, ↓zB_lZ, ↓zB_wI, ↓zB_wZ, ↓zB_lIl, ↓zB_wIl, zB_pI, zB_pZ, zB_lI, zB_lZ, zB_wI, zB_wZ, z_addl, z_ladd, z_mull, z_lmul, nI_add, z_subl, Nat.not_lt_zero, z_10, z_01, z_bitc, z_b0, z_b1, ↓zB_Gb, ↓zB_G0, ↓zB_G1, z_eql, z_leq, z_ltl, z_llt, z_eq, z_lt, z_m1lt, hb.k, hb.k1, hb.k2, hb.k3, hb.k4, hb.k5, hb.k6, hb.l1, hb.l2, hb.l3, hb.l4, hb.l5, hb.l6, hp.k, hp.k1, hp.k2, hp.k3, hp.k4, hp.k5, hp.k6, hp.k7, hp.k8, hp.k9, hp.k10, hp.l1, hp.l2, hp.l3, hp.l4, hp.l5, hp.l6, hp.l7, hp.l8, hp.l9, hp.l10, ↓hb.g0, ↓hb.g1, ↓hb.g2, ↓hb.g3, ↓hb.g4, ↓hb.g5, ↓hp.g0, ↓hp.g1, ↓hp.g2, ↓hp.g3, ↓hp.g4, ↓hp.g5, ↓hp.g6, ↓hp.g7, ↓hp.g8, ↓hp.g9, ↓hp.gb, hp.gb, z_t0, z_t1, z_t2, z_t3, z_t4, z_t5, z_t6, z_t7, z_t8, z_t9, z_t10, z_t11, z_t12, z_t13, Int.reduceEq, h2.1, g, ↓zB_c e0, zB_c e0, ↓zB_c e1, zB_c e1, ↓zB_c (f26_sp hp hc.1 hw (hT 0 (by rw [z_p_13 g]; decide)) (hT 1 (by rw [z_p_13 g]; decide))), zB_c (f26_sp hp hc.1 hw (hT 0 (by rw [z_p_13 g]; decide)) (hT 1 (by rw [z_p_13 g]; decide)))]
    exact done _ (z_st_13 g).symm (by unfold z_bs; rw [g]; rfl)
end
