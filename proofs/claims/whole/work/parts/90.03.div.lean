/-! hundreds -/
theorem z_div100 {j : Nat} (h : j < 2 ^ 31) : nI j / 100 = nI (j / 100) := by
  apply Int32.toInt_inj.mp
  rw [Int32.toInt_div_of_ne_right _ _ (by decide), nI_toInt h, nI_toInt (by omega), show (100 : Int32).toInt = ((100 : Nat) : Int) from rfl, ← Int.ofNat_tdiv]
theorem z_pnm_nI {j : Nat} (h : j < 2 ^ 31) : z_pnm (nI j) = nI (j % 100) := by
  unfold z_pnm
  rw [z_div100 h]
  have e : nI (j / 100) * 100 = nI (j / 100 * 100) := (Int32.ofNat_mul _ _).symm
  rw [e]
  have e2 : nI j = nI (j % 100) + nI (j / 100 * 100) := by
    rw [nI_add]; congr 1; omega
  rw [e2, Int32.add_sub_cancel]
