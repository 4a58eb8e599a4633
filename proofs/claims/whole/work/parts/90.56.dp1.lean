-- deps: 90.55.dp0
/-! an argument fewer: what the class asks -/
section
variable {S : z_S} {m : z_m} {p q : Nat} {P : z_Pg} {A : z_A}
theorem z_sch_if {R : Type} {c : Nat → Bool} {r d : R} {n a : Nat} : z_sch c (fun _ => r) d n a = if z_any (fun t => c (a + t)) n = true then r else d := by
  rcases z_sch_c (c := c) (x := fun _ => r) (d := d) (n := n) (i := a) with ⟨h1, h2⟩ | ⟨k, h1, h2, h3, _, h5⟩
  · rw [h1, if_neg]
    intro h
    obtain ⟨t, ht, hc⟩ := z_any_iff.mp h
    rw [h2 (a + t) (by omega) (by omega)] at hc; cases hc
  · rw [h5, if_pos (z_any_iff.mpr ⟨k - a, by omega, by rw [show a + (k - a) = k by omega]; exact h3⟩)]
theorem z_sch_if0 {R : Type} {c : Nat → Bool} {r d : R} {n : Nat} : z_sch c (fun _ => r) d n 0 = if z_any c n = true then r else d := by
  rw [z_sch_if]
  have : (fun t => c (0 + t)) = c := funext (fun t => by rw [Nat.zero_add])
  rw [this]
theorem z_bit0 (M : Int32) (i : Nat) : (q_ush M (nI i) &&& 1 = 0) = (z_bit M i = false) := by
  have h1 := z_bitc M i
  have h01 := z_b01 (z_bit M i)
  have hex := pk_and (q_ush M (nI i)) (m := 1) 1 rfl
  have hor : q_ush M (nI i) &&& 1 = 0 ∨ q_ush M (nI i) &&& 1 = 1 := by
    rw [hex]
    have : (q_ush M (nI i)).toBitVec.toNat % 2 ^ 1 = 0 ∨ (q_ush M (nI i)).toBitVec.toNat % 2 ^ 1 = 1 := by omega
    rcases this with q | q <;> rw [q]
    · exact Or.inl rfl
    · exact Or.inr rfl
  rcases hor with q | q
  · rw [q] at h1 ⊢
    cases g : z_bit M i with
    | true => rw [g] at h1; exact absurd (h1.mpr rfl) (by decide)
    | false => simp
  · rw [q] at h1 ⊢
    cases g : z_bit M i with
    | true => simp
    | false => rw [g] at h1; exact absurd (h1.mp rfl) (by decide)
/-- a plain node -/
def z_okn (l : List z_N) (i : Nat) : Bool := z_k l i == 0 || (z_k l i == 1 || (z_k l i == 2 || (z_k l i == 11 || (z_k l i == 3 && z_isT l i))))
def z_plain (l : List z_N) (a : Nat) : Bool := !z_any (fun t => !z_okn l (a + t)) (z_en l a - a)
/-- Signatures.isPlain -/
theorem f116_sp {b R : Nat} {l : List z_N} (hb : z_BS S b R) (h : z_cb m b R l) (ht : z_tr l) (he : ∀ i, i < l.length → m (b + 4) i = nI (z_en l i)) {a : Nat} (ha : a < l.length) : f116 b (nI a) (z_hp S m) = some (z_b (z_plain l a), z_hp S m) := by
  have hR := h.2.2.1
  have hR2 := h.2.2.2.1
  have hbk := hb.k
  have hea := he a ha
  have hle := z_en_le ht ha
  have hgt := z_en_gt ha
  have key := z_search (f := fun s => f116_2b (s.1) (s.2.1) (s.2.2)) (S := S) (m := m) (fun i => (b, nI a, nI i)) (fun i => !z_okn l i) (fun _ => (0 : Int32)) 1 (z_en l a - a) a 1000000 (by omega) (fun i hi1 hi2 => ?_) ?_
  · rw [z_sch_if] at key
    unfold f116 f116_2 z_plain
    rw [key]
    cases z_any (fun t => !z_okn l (a + t)) (z_en l a - a) with
    | true => rfl
    | false => rfl
  · have hil : i < l.length := by omega
    have hie : i < z_en l a := by omega
    obtain ⟨n1, n2, n3⟩ := h.2.2.2.2 i hil
    have e18 := f18_sp hb h ht hil
    dsimp only
    unfold f116_2b f116_33 f116_38 f116_57 f116_58 f116_76 f116_78 z_okn
    by_cases k0 : z_k l i = 0
    · rw [k0]
      rw [k0] at n1
      simp (disch := ((try simp only [true_or, or_true, hb.k, hb.k1, hb.k2, hb.k3, hb.k4, hb.k5, hb.k6, hb.l1, hb.l2, hb.l3, hb.l4, hb.l5, hb.l6, hbk]) <;> (try omega))) only [↓reduceIte, ↓z_ite, ↓zR, ↓zB_R, ↓zB_B, ↓zB_ite, ↓zB_gI, ↓zB_pI, ↓zB_pZ, ↓zB_aK, ↓zB_G, ↓zB_lI, ↓zB_lZ, ↓zB_wI, ↓zB_wZ, ↓zB_lIl, ↓zB_wIl, zB_pI, zB_pZ, zB_lI, zB_lZ, zB_wI, zB_wZ, z_addl, z_ladd, z_mull, z_lmul, nI_add, z_subl, Nat.not_lt_zero, z_10, z_01, z_bitc, z_b0, z_b1, ↓zB_Gb, ↓zB_G0, ↓zB_G1, z_eql, z_leq, z_ltl, z_llt, z_eq, z_lt, z_m1lt, hb.k, hb.k1, hb.k2, hb.k3, hb.k4, hb.k5, hb.k6, hb.l1, hb.l2, hb.l3, hb.l4, hb.l5, hb.l6, hbk, ↓hb.g0, ↓hb.g1, ↓hb.g2, ↓hb.g3, ↓hb.g4, ↓hb.g5, ha, hea, hie, hil, n1]
      first | done | rfl
    by_cases k1 : z_k l i = 1
    · rw [k1]
      rw [k1] at n1
      simp (disch := ((try simp only [true_or, or_true, hb.k, hb.k1, hb.k2, hb.k3, hb.k4, hb.k5, hb.k6, hb.l1, hb.l2, hb.l3, hb.l4, hb.l5, hb.l6, hbk]) <;> (try omega))) only [↓reduceIte, ↓z_ite, ↓zR, ↓zB_R, ↓zB_B, ↓zB_ite, ↓zB_gI, ↓zB_pI, ↓zB_pZ, ↓zB_aK, ↓zB_G, ↓zB_lI, ↓zB_lZ, ↓zB_wI, ↓zB_wZ, ↓zB_lIl, ↓zB_wIl, zB_pI, zB_pZ, zB_lI, zB_lZ, zB_wI, zB_wZ, z_addl, z_ladd, z_mull, z_lmul, nI_add, z_subl, Nat.not_lt_zero, z_10, z_01, z_bitc, z_b0, z_b1, ↓zB_Gb, ↓zB_G0, ↓zB_G1, z_eql, z_leq, z_ltl, z_llt, z_eq, z_lt, z_m1lt, hb.k, hb.k1, hb.k2, hb.k3, hb.k4, hb.k5, hb.k6, hb.l1, hb.l2, hb.l3, hb.l4, hb.l5, hb.l6, hbk, ↓hb.g0, ↓hb.g1, ↓hb.g2, ↓hb.g3, ↓hb.g4, ↓hb.g5, ha, hea, hie, hil, n1]
      first | done | rfl
    by_cases k2 : z_k l i = 2
    · rw [k2]
      rw [k2] at n1
      simp (disch := ((try simp only [true_or, or_true, hb.k, hb.k1, hb.k2, hb.k3, hb.k4, hb.k5, hb.k6, hb.l1, hb.l2, hb.l3, hb.l4, hb.l5, hb.l6, hbk]) <;> (try omega))) only [↓reduceIte, ↓z_ite, ↓zR, ↓zB_R, ↓zB_B, ↓zB_ite, ↓zB_gI, ↓zB_pI, ↓zB_pZ, ↓zB_aK, ↓zB_G, ↓zB_lI, ↓zB_lZ, ↓zB_wI, ↓zB_wZ, ↓zB_lIl, ↓zB_wIl, zB_pI, zB_pZ, zB_lI, zB_lZ, zB_wI, zB_wZ, z_addl, z_ladd, z_mull, z_lmul, nI_add, z_subl, Nat.not_lt_zero, z_10, z_01, z_bitc, z_b0, z_b1, ↓zB_Gb, ↓zB_G0, ↓zB_G1, z_eql, z_leq, z_ltl, z_llt, z_eq, z_lt, z_m1lt, hb.k, hb.k1, hb.k2, hb.k3, hb.k4, hb.k5, hb.k6, hb.l1, hb.l2, hb.l3, hb.l4, hb.l5, hb.l6, hbk, ↓hb.g0, ↓hb.g1, ↓hb.g2, ↓hb.g3, ↓hb.g4, ↓hb.g5, ha, hea, hie, hil, n1]
      first | done | rfl
    by_cases k3 : z_k l i = 3
    · rw [k3]
      rw [k3] at n1
      cases hT : z_isT l i with
      | true =>
        rw [hT] at e18
        simp (disch := ((try simp only [true_or, or_true, hb.k, hb.k1, hb.k2, hb.k3, hb.k4, hb.k5, hb.k6, hb.l1, hb.l2, hb.l3, hb.l4, hb.l5, hb.l6, hbk]) <;> (try omega))) only [↓reduceIte, ↓z_ite, ↓zR, ↓zB_R, ↓zB_B, ↓zB_ite, ↓zB_gI, ↓zB_pI, ↓zB_pZ, ↓zB_aK, ↓zB_G, ↓zB_lI, ↓zB_lZ, ↓zB_wI, ↓zB_wZ, ↓zB_lIl, ↓zB_wIl, zB_pI, zB_pZ, zB_lI, zB_lZ, zB_wI, zB_wZ, z_addl, z_ladd, z_mull, z_lmul, nI_add, z_subl, Nat.not_lt_zero, z_10, z_01, z_bitc, z_b0, z_b1, ↓zB_Gb, ↓zB_G0, ↓zB_G1, z_eql, z_leq, z_ltl, z_llt, z_eq, z_lt, z_m1lt, hb.k, hb.k1, hb.k2, hb.k3, hb.k4, hb.k5, hb.k6, hb.l1, hb.l2, hb.l3, hb.l4, hb.l5, hb.l6, hbk, ↓hb.g0, ↓hb.g1, ↓hb.g2, ↓hb.g3, ↓hb.g4, ↓hb.g5, ha, hea, hie, hil, n1, ↓zB_c e18, zB_c e18, Bool.true_eq_false]
        first | done | rfl
      | false =>
        rw [hT] at e18
        simp (disch := ((try simp only [true_or, or_true, hb.k, hb.k1, hb.k2, hb.k3, hb.k4, hb.k5, hb.k6, hb.l1, hb.l2, hb.l3, hb.l4, hb.l5, hb.l6, hbk]) <;> (try omega))) only [↓reduceIte, ↓z_ite, ↓zR, ↓zB_R, ↓zB_B, ↓zB_ite, ↓zB_gI, ↓zB_pI, ↓zB_pZ, ↓zB_aK, ↓zB_G, ↓zB_lI, ↓zB_lZ, ↓zB_wI, ↓zB_wZ, ↓zB_lIl, ↓zB_wIl, zB_pI, zB_pZ, zB_lI, zB_lZ, zB_wI, zB_wZ, z_addl, z_ladd, z_mull, z_lmul, nI_add, z_subl, Nat.not_lt_zero, z_10, z_01, z_bitc, z_b0, z_b1, ↓zB_Gb, ↓zB_G0, ↓zB_G1, z_eql, z_leq, z_ltl, z_llt, z_eq, z_lt, z_m1lt, hb.k, hb.k1, hb.k2, hb.k3, hb.k4, hb.k5, hb.k6, hb.l1, hb.l2, hb.l3, hb.l4, hb.l5, hb.l6, hbk, ↓hb.g0, ↓hb.g1, ↓hb.g2, ↓hb.g3, ↓hb.g4, ↓hb.g5, ha, hea, hie, hil, n1, ↓zB_c e18, zB_c e18]
        first | done | rfl
    by_cases k11 : z_k l i = 11
    · rw [k11]
      rw [k11] at n1
      simp (disch := ((try simp only [true_or, or_true, hb.k, hb.k1, hb.k2, hb.k3, hb.k4, hb.k5, hb.k6, hb.l1, hb.l2, hb.l3, hb.l4, hb.l5, hb.l6, hbk]) <;> (try omega))) only [↓reduceIte, ↓z_ite, ↓zR, ↓zB_R, ↓zB_B, ↓zB_ite, ↓zB_gI, ↓zB_pI, ↓zB_pZ, ↓zB_aK, ↓zB_G, ↓zB_lI, ↓zB_lZ, ↓zB_wI, ↓zB_wZ, ↓zB_lIl, ↓zB_wIl, zB_pI, zB_pZ, zB_lI, zB_lZ, zB_wI, zB_wZ, z_addl, z_ladd, z_mull, z_lmul, nI_add, z_subl, Nat.not_lt_zero, z_10, z_01, z_bitc, z_b0, z_b1, ↓zB_Gb, ↓zB_G0, ↓zB_G1, z_eql, z_leq, z_ltl, z_llt, z_eq, z_lt, z_m1lt, hb.k, hb.k1, hb.k2, hb.k3, hb.k4, hb.k5, hb.k6, hb.l1, hb.l2, hb.l3, hb.l4, hb.l5, hb.l6, hbk, ↓hb.g0, ↓hb.g1, ↓hb.g2, ↓hb.g3, ↓hb.g4, ↓hb.g5, ha, hea, hie, hil, n1]
      first | done | rfl
    · have : ((!(z_k l i == 0 || (z_k l i == 1 || (z_k l i == 2 || (z_k l i == 11 || (z_k l i == 3 && z_isT l i))))))) = true := by
        simp [k0, k1, k2, k3, k11]
      rw [this]
      simp (disch := ((try simp only [true_or, or_true, hb.k, hb.k1, hb.k2, hb.k3, hb.k4, hb.k5, hb.k6, hb.l1, hb.l2, hb.l3, hb.l4, hb.l5, hb.l6, hbk]) <;> (try omega))) only [↓reduceIte, ↓z_ite, ↓zR, ↓zB_R, ↓zB_B, ↓zB_ite, ↓zB_gI, ↓zB_pI, ↓zB_pZ, ↓zB_aK, ↓zB_G, ↓zB_lI, ↓zB_lZ, ↓zB_wI, ↓zB_wZ, ↓zB_lIl, ↓zB_wIl, zB_pI, zB_pZ, zB_lI, zB_lZ, zB_wI, zB_wZ, z_addl, z_ladd, z_mull, z_lmul, nI_add, z_subl, Nat.not_lt_zero, z_10, z_01, z_bitc, z_b0, z_b1, ↓zB_Gb, ↓zB_G0, ↓zB_G1, z_eql, z_leq, z_ltl, z_llt, z_eq, z_lt, z_m1lt, hb.k, hb.k1, hb.k2, hb.k3, hb.k4, hb.k5, hb.k6, hb.l1, hb.l2, hb.l3, hb.l4, hb.l5, hb.l6, hbk, ↓hb.g0, ↓hb.g1, ↓hb.g2, ↓hb.g3, ↓hb.g4, ↓hb.g5, ha, hea, hie, hil, n1, k0, k1, k2, k3, k11]
      first | done | rfl
  · dsimp only
    unfold f116_2b f116_84
    have : a + (z_en l a - a) = z_en l a := by omega
    rw [this]
    simp (disch := ((try simp only [true_or, or_true, hb.k, hb.k1, hb.k2, hb.k3, hb.k4, hb.k5, hb.k6, hb.l1, hb.l2, hb.l3, hb.l4, hb.l5, hb.l6, hbk]) <;> (try omega))) only [↓reduceIte, ↓z_ite, ↓zR, ↓zB_R, ↓zB_B, ↓zB_ite, ↓zB_gI, ↓zB_pI, ↓zB_pZ, ↓zB_aK, ↓zB_G, ↓zB_lI, ↓zB_lZ, ↓zB_wI, ↓zB_wZ, ↓zB_lIl, ↓zB_wIl, zB_pI, zB_pZ, zB_lI, zB_lZ, zB_wI, zB_wZ, z_addl, z_ladd, z_mull, z_lmul, nI_add, z_subl, Nat.not_lt_zero, z_10, z_01, z_bitc, z_b0, z_b1, ↓zB_Gb, ↓zB_G0, ↓zB_G1, z_eql, z_leq, z_ltl, z_llt, z_eq, z_lt, z_m1lt, hb.k, hb.k1, hb.k2, hb.k3, hb.k4, hb.k5, hb.k6, hb.l1, hb.l2, hb.l3, hb.l4, hb.l5, hb.l6, hbk, ↓hb.g0, ↓hb.g1, ↓hb.g2, ↓hb.g3, ↓hb.g4, ↓hb.g5, ha, hea, Nat.lt_irrefl]
end
