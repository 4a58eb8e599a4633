-- deps:
/-! how many bits -/
theorem z_and8 {a b M N : Nat} (ha : a < 256) (hM : M < 256) : (a + 256 * b) &&& (M + 256 * N) = (a &&& M) + 256 * (b &&& N) := by
  apply Nat.eq_of_testBit_eq
  intro i
  have e : ∀ u v, u < 256 → (u + 256 * v).testBit i = if i < 8 then u.testBit i else v.testBit (i - 8) := fun u v hu => by
    rw [show u + 256 * v = 2 ^ 8 * v + u by omega, Nat.testBit_two_pow_mul_add _ (show u < 2 ^ 8 from hu)]
  rw [Nat.testBit_and, e a b ha, e M N hM, e _ _ (Nat.lt_of_le_of_lt Nat.and_le_left ha)]
  split <;> rw [Nat.testBit_and]
def z_g1 (a : Nat) : Nat := a - (a / 2 &&& 85)
def z_g2 (u : Nat) : Nat := (u &&& 51) + (u / 4 &&& 51)
def z_pb (a : Nat) : Nat := z_ct (fun j => a.testBit j) 8
theorem z_tb1 : ∀ a, a < 256 → ∀ r, r < 2 → (a / 2 + 128 * r) &&& 85 = a / 2 &&& 85 ∧ (a / 2 &&& 85) ≤ a ∧ a / 2 + 128 * r < 256 := by decide +kernel
theorem z_tb2 : ∀ u, u < 256 → ∀ r, r < 4 → (u / 4 + 64 * r) &&& 51 = u / 4 &&& 51 ∧ u / 4 + 64 * r < 256 := by decide +kernel
theorem z_tb3 : ∀ a, a < 256 → ∀ r, r < 5 → (z_g2 (z_g1 a) + z_g2 (z_g1 a) / 16 + 16 * r) &&& 15 = z_pb a ∧ z_g2 (z_g1 a) + z_g2 (z_g1 a) / 16 + 16 * r < 256 ∧ z_g2 (z_g1 a) % 16 < 5 ∧ z_g1 a < 256 ∧ z_pb a ≤ 8 := by decide +kernel
theorem z_tb4 : ∀ a, a < 25 → a &&& 63 = a := by decide +kernel
/-- the sum as it is found -/
def z_npop (X : Nat) : Nat :=
  let v1 := X - (X / 2 &&& 1431655765)
  let v2 := (v1 &&& 858993459) + (v1 / 4 &&& 858993459)
  let v3 := (v2 + v2 / 16) &&& 252645135
  let v4 := v3 + v3 / 256
  (v4 + v4 / 65536) &&& 63
theorem z_and3 {a b c M0 M1 M2 N : Nat} (ha : a < 256) (hb : b < 256) (hc : c < 256) (h0 : M0 < 256) (h1 : M1 < 256) (h2 : M2 < 256) : (a + 256 * (b + 256 * c)) &&& (M0 + 256 * (M1 + 256 * (M2 + 256 * N))) = (a &&& M0) + 256 * ((b &&& M1) + 256 * (c &&& M2)) := by
  rw [z_and8 ha h0, z_and8 hb h1]
  have := z_and8 (b := 0) (N := N) hc h2
  rw [Nat.mul_zero, Nat.add_zero, Nat.zero_and, Nat.mul_zero, Nat.add_zero] at this
  rw [this]
theorem z_npop_e {a b c : Nat} (ha : a < 256) (hb : b < 256) (hc : c < 256) : z_npop (a + 256 * (b + 256 * c)) = z_pb a + z_pb b + z_pb c := by
  have y : (a + 256 * (b + 256 * c)) / 2 &&& 1431655765 = (a / 2 &&& 85) + 256 * ((b / 2 &&& 85) + 256 * (c / 2 &&& 85)) := by
    have t1 := z_tb1 a ha (b % 2) (by omega)
    have t2 := z_tb1 b hb (c % 2) (by omega)
    have t3 := z_tb1 c hc 0 (by omega)
    rw [show (a + 256 * (b + 256 * c)) / 2 = (a / 2 + 128 * (b % 2)) + 256 * ((b / 2 + 128 * (c % 2)) + 256 * (c / 2)) by omega, show 1431655765 = 85 + 256 * (85 + 256 * (85 + 256 * 85)) from rfl, z_and3 t1.2.2 t2.2.2 (by omega) (by decide) (by decide) (by decide), t1.1, t2.1]
  have v1 : (a + 256 * (b + 256 * c)) - ((a + 256 * (b + 256 * c)) / 2 &&& 1431655765) = z_g1 a + 256 * (z_g1 b + 256 * z_g1 c) := by
    rw [y]
    have t1 := (z_tb1 a ha 0 (by omega)).2.1
    have t2 := (z_tb1 b hb 0 (by omega)).2.1
    have t3 := (z_tb1 c hc 0 (by omega)).2.1
    unfold z_g1; omega
  obtain ⟨_, _, _, la, _⟩ := z_tb3 a ha 0 (by decide)
  obtain ⟨_, _, _, lb, _⟩ := z_tb3 b hb 0 (by decide)
  obtain ⟨_, _, lc5, lc, _⟩ := z_tb3 c hc 0 (by decide)
  have v2 : ((z_g1 a + 256 * (z_g1 b + 256 * z_g1 c)) &&& 858993459) + ((z_g1 a + 256 * (z_g1 b + 256 * z_g1 c)) / 4 &&& 858993459) = z_g2 (z_g1 a) + 256 * (z_g2 (z_g1 b) + 256 * z_g2 (z_g1 c)) := by
    have t1 := z_tb2 (z_g1 a) la (z_g1 b % 4) (by omega)
    have t2 := z_tb2 (z_g1 b) lb (z_g1 c % 4) (by omega)
    rw [show (z_g1 a + 256 * (z_g1 b + 256 * z_g1 c)) / 4 = (z_g1 a / 4 + 64 * (z_g1 b % 4)) + 256 * ((z_g1 b / 4 + 64 * (z_g1 c % 4)) + 256 * (z_g1 c / 4)) by omega, show 858993459 = 51 + 256 * (51 + 256 * (51 + 256 * 51)) from rfl, z_and3 la lb lc (by decide) (by decide) (by decide), z_and3 t1.2 t2.2 (by omega) (by decide) (by decide) (by decide), t1.1, t2.1]
    unfold z_g2; omega
  have r1 : z_g2 (z_g1 b) % 16 < 5 := (z_tb3 b hb 0 (by decide)).2.2.1
  have q1 := z_tb3 a ha (z_g2 (z_g1 b) % 16) r1
  have q2 := z_tb3 b hb (z_g2 (z_g1 c) % 16) lc5
  have q3 := z_tb3 c hc 0 (by decide)
  have v3 : (z_g2 (z_g1 a) + 256 * (z_g2 (z_g1 b) + 256 * z_g2 (z_g1 c)) + (z_g2 (z_g1 a) + 256 * (z_g2 (z_g1 b) + 256 * z_g2 (z_g1 c))) / 16) &&& 252645135 = z_pb a + 256 * (z_pb b + 256 * z_pb c) := by
    have e : z_g2 (z_g1 a) + 256 * (z_g2 (z_g1 b) + 256 * z_g2 (z_g1 c)) + (z_g2 (z_g1 a) + 256 * (z_g2 (z_g1 b) + 256 * z_g2 (z_g1 c))) / 16 = (z_g2 (z_g1 a) + z_g2 (z_g1 a) / 16 + 16 * (z_g2 (z_g1 b) % 16)) + 256 * ((z_g2 (z_g1 b) + z_g2 (z_g1 b) / 16 + 16 * (z_g2 (z_g1 c) % 16)) + 256 * (z_g2 (z_g1 c) + z_g2 (z_g1 c) / 16 + 16 * 0)) := by
      generalize z_g2 (z_g1 a) = u
      generalize z_g2 (z_g1 b) = v
      generalize z_g2 (z_g1 c) = w
      omega
    rw [e, show 252645135 = 15 + 256 * (15 + 256 * (15 + 256 * 15)) from rfl, z_and3 q1.2.1 q2.2.1 q3.2.1 (by decide) (by decide) (by decide), q1.1, q2.1, q3.1]
  have pa := q1.2.2.2.2
  have pb := q2.2.2.2.2
  have pc := q3.2.2.2.2
  have v5 : ∀ x y z : Nat, x ≤ 8 → y ≤ 8 → z ≤ 8 → (x + 256 * (y + 256 * z) + (x + 256 * (y + 256 * z)) / 256 + (x + 256 * (y + 256 * z) + (x + 256 * (y + 256 * z)) / 256) / 65536) &&& 63 = x + y + z := by
    intro x y z hx hy hz
    have e : x + 256 * (y + 256 * z) + (x + 256 * (y + 256 * z)) / 256 + (x + 256 * (y + 256 * z) + (x + 256 * (y + 256 * z)) / 256) / 65536 = (x + y + z) + 256 * (y + z + 256 * z) := by omega
    rw [e, show 63 = 63 + 256 * 0 from rfl, z_and8 (by omega) (by decide), Nat.and_zero, z_tb4 _ (by omega)]
    rfl
  show ((((a + 256 * (b + 256 * c)) - ((a + 256 * (b + 256 * c)) / 2 &&& 1431655765) &&& 858993459) + (((a + 256 * (b + 256 * c)) - ((a + 256 * (b + 256 * c)) / 2 &&& 1431655765)) / 4 &&& 858993459) + ((((a + 256 * (b + 256 * c)) - ((a + 256 * (b + 256 * c)) / 2 &&& 1431655765) &&& 858993459) + (((a + 256 * (b + 256 * c)) - ((a + 256 * (b + 256 * c)) / 2 &&& 1431655765)) / 4 &&& 858993459)) / 16)) &&& 252645135) + _ + _ &&& 63 = _
  rw [v1, v2, v3]
  exact v5 _ _ _ pa pb pc
theorem z_ct_add (s : Nat → Bool) (n : Nat) : ∀ k, z_ct s (n + k) = z_ct s n + z_ct (fun j => s (n + j)) k
  | 0 => rfl
  | k + 1 => by
    show z_ct s (n + k) + _ = z_ct s n + (z_ct (fun j => s (n + j)) k + _)
    rw [z_ct_add s n k, Nat.add_assoc]
    rfl
theorem z_ct_congr {s t : Nat → Bool} : ∀ {n : Nat}, (∀ j, j < n → s j = t j) → z_ct s n = z_ct t n
  | 0, _ => rfl
  | n + 1, h => by
    show z_ct s n + _ = z_ct t n + _
    rw [z_ct_congr (fun j hj => h j (by omega)), h n (by omega)]
theorem z_ct_cut {s : Nat → Bool} {n : Nat} : ∀ k, n ≤ k → z_ct (fun j => decide (j < n) && s j) k = z_ct s n
  | 0, h => by
    have : n = 0 := by omega
    rw [this]; rfl
  | k + 1, h => by
    rcases Nat.eq_or_lt_of_le h with g | g
    · rw [g]
      exact z_ct_congr (fun j hj => by rw [show decide (j < k + 1) = true by simpa using hj]; rfl)
    · show z_ct (fun j => decide (j < n) && s j) k + (if (decide (k < n) && s k) = true then 1 else 0) = _
      rw [z_ct_cut k (by omega), show decide (k < n) = false by simp; omega]
      rfl
theorem z_npop_ct {X : Nat} (h : X < 2 ^ 24) : z_npop X = z_ct (fun j => X.testBit j) 24 := by
  have e : X = X % 256 + 256 * (X / 256 % 256 + 256 * (X / 65536)) := by omega
  have h1 : X % 256 < 256 := by omega
  have h2 : X / 256 % 256 < 256 := by omega
  have h3 : X / 65536 < 256 := by omega
  generalize X % 256 = a at *
  generalize X / 256 % 256 = b at *
  generalize X / 65536 = c at *
  subst e
  rw [z_npop_e h1 h2 h3, show 24 = 8 + (8 + 8) from rfl, z_ct_add, z_ct_add]
  have t : ∀ i u v, u < 256 → (u + 256 * v).testBit i = if i < 8 then u.testBit i else v.testBit (i - 8) := fun i u v hu => by
    rw [show u + 256 * v = 2 ^ 8 * v + u by omega, Nat.testBit_two_pow_mul_add _ (show u < 2 ^ 8 from hu)]
  rw [Nat.add_assoc]
  unfold z_pb
  congr 1
  · exact z_ct_congr (fun j hj => by rw [t _ _ _ h1, if_pos hj])
  · congr 1
    · exact z_ct_congr (fun j hj => by rw [t _ _ _ h1, if_neg (by omega), show 8 + j - 8 = j by omega, t _ _ _ h2, if_pos hj])
    · exact z_ct_congr (fun j hj => by rw [t _ _ _ h1, if_neg (by omega), show 8 + (8 + j) - 8 = 8 + j by omega, t _ _ _ h2, if_neg (by omega), show 8 + j - 8 = j by omega])
theorem z_nI_bv (x : Int32) : nI x.toBitVec.toNat = x := by
  apply Int32.toBitVec_inj.mp
  apply BitVec.eq_of_toNat_eq
  exact pk_tn x.toBitVec.isLt
theorem z_nI_and {a M : Nat} (ha : a < 2 ^ 32) (hM : M < 2 ^ 32) : nI a &&& nI M = nI (a &&& M) := by
  apply Int32.toBitVec_inj.mp
  apply BitVec.eq_of_toNat_eq
  rw [Int32.toBitVec_and, BitVec.toNat_and, pk_tn ha, pk_tn hM, pk_tn (Nat.lt_of_le_of_lt Nat.and_le_left ha)]
theorem z_ushN {n : Nat} (hn : n < 2 ^ 32) (s : Int32) (k : Nat) (hs : ((s.toUInt32 &&& Int32.toUInt32 31).toBitVec % 32).toNat = k) : q_ush (nI n) s = nI (n / 2 ^ k) := pk_ushrN hn s k hs
section
variable {S : z_S} {m : z_m} {n : Nat} {s : Nat → Bool} {F : Int32}
theorem z_msk_lt (hn : n ≤ 24) (h : z_msk F n s) : F.toBitVec.toNat < 2 ^ 24 := by
  apply Nat.lt_pow_two_of_testBit
  intro i hi
  rcases Nat.lt_or_ge i 32 with g | g
  · have := h i g
    rw [z_bit_tb _ g, show decide (i < n) = false by simp; omega] at this
    rw [this]; rfl
  · exact Nat.testBit_lt_two_pow (Nat.lt_of_lt_of_le F.toBitVec.isLt (Nat.pow_le_pow_right (by decide) g))
/-- Integer.bitCount -/
theorem f309_sp (hn : n ≤ 24) (h : z_msk F n s) : f309 F (z_hp S m) = some (nI (z_ct s n), z_hp S m) := by
  have hX := z_msk_lt hn h
  have hb : ∀ j, j < 24 → F.toBitVec.toNat.testBit j = (decide (j < n) && s j) := fun j hj => by rw [← z_bit_tb _ (show j < 32 by omega)]; exact h j (by omega)
  have e0 := z_nI_bv F
  generalize F.toBitVec.toNat = X at hX hb e0
  subst e0
  have y1 : X / 2 &&& 1431655765 ≤ X / 2 := Nat.and_le_left
  have v1e : nI X - (q_ush (nI X) 1 &&& Int32.ofNat 1431655765) = nI (X - (X / 2 &&& 1431655765)) := by
    rw [z_ushN (by omega) 1 1 (by decide), show Int32.ofNat 1431655765 = nI 1431655765 from rfl, z_nI_and (by omega) (by decide)]
    rw [show X / 2 ^ 1 = X / 2 from rfl]
    exact pk_sub (by omega)
  have v1l : X - (X / 2 &&& 1431655765) < 2 ^ 24 := by omega
  have hv : z_npop X = z_ct s n := by
    rw [z_npop_ct hX, z_ct_congr (t := fun j => decide (j < n) && s j) hb]
    exact z_ct_cut 24 hn
  unfold z_npop at hv
  unfold f309
  rw [v1e]
  generalize X - (X / 2 &&& 1431655765) = V1 at *
  have y2 : V1 &&& 858993459 ≤ V1 := Nat.and_le_left
  have y3 : V1 / 4 &&& 858993459 ≤ V1 / 4 := Nat.and_le_left
  have v2e : (nI V1 &&& Int32.ofNat 858993459) + (q_ush (nI V1) 2 &&& Int32.ofNat 858993459) = nI ((V1 &&& 858993459) + (V1 / 4 &&& 858993459)) := by
    rw [z_ushN (by omega) 2 2 (by decide), show Int32.ofNat 858993459 = nI 858993459 from rfl, z_nI_and (by omega) (by decide), z_nI_and (by omega) (by decide), nI_add]
  rw [v2e]
  have v2l : (V1 &&& 858993459) + (V1 / 4 &&& 858993459) < 2 ^ 25 := by omega
  dsimp only at hv
  generalize (V1 &&& 858993459) + (V1 / 4 &&& 858993459) = V2 at *
  have y4 : V2 + V2 / 16 &&& 252645135 ≤ V2 + V2 / 16 := Nat.and_le_left
  have v3e : (nI V2 + q_ush (nI V2) 4) &&& Int32.ofNat 252645135 = nI (V2 + V2 / 16 &&& 252645135) := by
    rw [z_ushN (by omega) 4 4 (by decide), show Int32.ofNat 252645135 = nI 252645135 from rfl, nI_add, z_nI_and (by omega) (by decide)]
  rw [v3e]
  have v3l : V2 + V2 / 16 &&& 252645135 < 2 ^ 26 := by omega
  generalize V2 + V2 / 16 &&& 252645135 = V3 at *
  have v4e : nI V3 + q_ush (nI V3) 8 = nI (V3 + V3 / 256) := by
    rw [z_ushN (by omega) 8 8 (by decide), nI_add]
  rw [v4e]
  have v4l : V3 + V3 / 256 < 2 ^ 27 := by omega
  generalize V3 + V3 / 256 = V4 at *
  have v5e : nI V4 + q_ush (nI V4) 16 = nI (V4 + V4 / 65536) := by
    rw [z_ushN (by omega) 16 16 (by decide), nI_add]
  rw [v5e, show (63 : Int32) = nI 63 from rfl, z_nI_and (by omega) (by decide), hv]
  rfl
end
