-- deps: 90.71.in0
/-! a call written out: when it is right -/
section
variable {S : z_S} {m : z_m} {p : Nat} {P : z_Pg} {A : z_A}
/-- a program with other bodies -/
def z_wb (P : z_Pg) (D : Nat → List z_N) : z_Pg := (P.1, P.2.1, P.2.2.1, P.2.2.2.1, P.2.2.2.2.1, D)
theorem z_wb_blw (D : Nat → List z_N) : z_blw (z_wb P D) = z_blw P := funext (fun c => funext (fun d => z_blw_par (P := P) (P' := z_wb P D) rfl c d))
theorem z_wb_fc (D : Nat → List z_N) : z_fc (z_wb P D) = z_fc P := by
  funext c n
  unfold z_fc
  rw [z_wb_blw]; rfl
theorem z_wb_fm (D : Nat → List z_N) : z_fm (z_wb P D) = z_fm P := by
  funext c n t
  unfold z_fm
  rw [z_wb_blw]; rfl
theorem z_wb_fit (D : Nat → List z_N) : z_fit (z_wb P D) = z_fit P := by
  funext t w
  unfold z_fit
  rw [z_wb_blw]
theorem z_wb_jn (D : Nat → List z_N) : z_jn (z_wb P D) = z_jn P := by
  funext a b
  unfold z_jn
  rw [z_wb_fit]
theorem z_wb_ac (D : Nat → List z_N) : z_ac (z_wb P D) = z_ac P := by
  funext t n
  unfold z_ac
  rw [z_wb_fc]
theorem z_wb_cl (D : Nat → List z_N) : z_cl (z_wb P D) = z_cl P := by
  funext t n c
  unfold z_cl
  rw [z_wb_fm]
theorem z_wb_tb (D : Nat → List z_N) : z_tb (z_wb P D) = z_tb P := by
  funext k l T p name
  unfold z_tb
  rw [z_wb_fc]; rfl
theorem z_wb_tA (D : Nat → List z_N) : z_tA (z_wb P D) = z_tA P := by
  funext t0 t1 name put
  unfold z_tA
  rw [z_wb_ac, z_wb_fit]; rfl
theorem z_wb_tC (D : Nat → List z_N) : z_tC (z_wb P D) = z_tC P := by
  funext t0 t1 t2 name cnt
  unfold z_tC
  rw [z_wb_cl, z_wb_fit]; rfl
theorem z_wb_st (D : Nat → List z_N) : z_st (z_wb P D) = z_st P := by
  funext k l T i
  unfold z_st
  rw [z_wb_tb, z_wb_tA, z_wb_tC, z_wb_jn, z_wb_fit]; rfl
theorem z_wb_rt (D : Nat → List z_N) (j : Nat) (l : List z_N) : z_rt (z_wb P D) j l = z_rt P j l := by
  unfold z_rt z_ok
  rw [z_wb_st, z_wb_fit]; rfl
theorem z_wb_ovw (D : Nat → List z_N) (j : Nat) : z_ovw (z_wb P D) j = z_ovw P j := by
  unfold z_ovw z_ov
  rw [z_wb_blw]; rfl
theorem z_sM_wb {k : Nat} {l : List z_N} : z_sM P k (z_hd P k) l = z_wb P (fun j => if j = k then l else z_bd P j) := by
  unfold z_sM z_wb
  congr 5
  funext j w
  by_cases g : j = k
  · rw [if_pos g, g]; rfl
  · rw [if_neg g]; rfl
theorem z_wr_body (hw : z_wf P) (hr : z_wr P = -1) {k : Nat} (hk : k < z_nm P) (hl : z_liv P k = true) (l : List z_N) : z_wr (z_sM P k (z_hd P k) l) = -1 ↔ z_rt P k l := by
  have h24 := hw.2.2.1
  rw [z_sM_wb]
  constructor
  · intro h
    have := (z_wr_rt h (k := k) hk h24 hl).1
    rw [show z_bd (z_wb P (fun j => if j = k then l else z_bd P j)) k = l from if_pos rfl, z_wb_rt] at this
    exact this
  · intro h
    refine z_wr_none (fun j hj => z_bad_f.mpr (fun hb => ?_))
    obtain ⟨hlj, hbad⟩ := hb
    have hj : j < z_nm P := hj
    have hlj : z_liv P j = true := hlj
    obtain ⟨r1, r2⟩ := z_wr_rt hr hj h24 hlj
    rcases hbad with hb | hb
    · apply hb
      rw [z_wb_rt]
      by_cases g : j = k
      · rw [g, show z_bd (z_wb P (fun j => if j = k then l else z_bd P j)) k = l from if_pos rfl]
        exact h
      · rw [show z_bd (z_wb P (fun j => if j = k then l else z_bd P j)) j = z_bd P j from if_neg g]
        exact r1
    · rw [z_wb_ovw] at hb
      rw [r2] at hb; cases hb
/-- parameters that are not there are not bound to -/
theorem z_isBL_1 {k j : Nat} (h : z_isBL (z_bd P k) (z_Bd P k) j (-1) = true) (hlen : j < 2147483648) (hw : z_wf P) (hk : k < z_nm P) : 0 < z_cnt P k := by
  have h6 := hw.1.1
  have ho := (z_own_e hw hk).1
  unfold z_isBL z_isL at h
  simp only [Bool.and_eq_true, beq_iff_eq] at h
  obtain ⟨⟨gv, _⟩, gb⟩ := h
  rw [z_Bd_v gv] at gb
  rcases z_bv_c P k (z_bd P k) j (z_v (z_bd P k) j) with ⟨i, q, e⟩ | ⟨q, ⟨e, f⟩ | ⟨e, f⟩ | ⟨c, hc, e⟩ | ⟨e, _⟩⟩
  · rw [e] at gb
    have := (z_le_some q).1
    exact absurd gb (z_nI_m1 (by omega))
  · exact f.1
  · rw [e] at gb; exact absurd gb (by decide)
  · have := (z_fc_some hc).1
    rw [e] at gb; exact absurd gb (z_nI_m1 (by omega))
  · rw [e] at gb; exact absurd gb (by decide)
theorem z_isBL_2 {k j : Nat} (h : z_isBL (z_bd P k) (z_Bd P k) j (-2) = true) (hlen : j < 2147483648) (hw : z_wf P) (hk : k < z_nm P) : 1 < z_cnt P k := by
  have h6 := hw.1.1
  have ho := (z_own_e hw hk).1
  unfold z_isBL z_isL at h
  simp only [Bool.and_eq_true, beq_iff_eq] at h
  obtain ⟨⟨gv, _⟩, gb⟩ := h
  rw [z_Bd_v gv] at gb
  rcases z_bv_c P k (z_bd P k) j (z_v (z_bd P k) j) with ⟨i, q, e⟩ | ⟨q, ⟨e, f⟩ | ⟨e, f⟩ | ⟨c, hc, e⟩ | ⟨e, _⟩⟩
  · rw [e] at gb
    have := (z_le_some q).1
    exact absurd gb (z_eqm (k := 2) (by omega) (by decide) (by decide))
  · rw [e] at gb; exact absurd gb (by decide)
  · exact f.1
  · have := (z_fc_some hc).1
    rw [e] at gb; exact absurd gb (z_eqm (k := 2) (by omega) (by decide) (by decide))
  · rw [e] at gb; exact absurd gb (by decide)
theorem z_inB_cg (hw : z_wf P) {k i q : Nat} (hq : q < z_nm P) (hlen : (z_bd P q).length ≤ 192) {n1 n2 n1' n2' : Int32} (h1 : 0 < z_cnt P q → n1 = n1') (h2 : 1 < z_cnt P q → n2 = n2') : z_inB P k i q n1 n2 = z_inB P k i q n1' n2' := by
  unfold z_inB
  refine z_cat_congr _ (fun j hj => ?_)
  unfold z_ing
  by_cases g1 : z_isBL (z_bd P q) (z_Bd P q) j (-1) = true
  · rw [if_pos g1, if_pos g1, h1 (z_isBL_1 g1 (by omega) hw hq)]
  · rw [if_neg g1, if_neg g1]
    by_cases g2 : z_isBL (z_bd P q) (z_Bd P q) j (-2) = true
    · rw [if_pos g2, if_pos g2, h2 (z_isBL_2 g2 (by omega) hw hq)]
    · rw [if_neg g2, if_neg g2]
/-- names that are taken -/
def z_inS (P : z_Pg) (k q : Nat) (n : Nat) : Bool := z_has P k n || z_has P q n
noncomputable def z_n1 (P : z_Pg) (k q : Nat) : Int32 := z_fn (z_inS P k q)
noncomputable def z_n2 (P : z_Pg) (k q : Nat) : Int32 := z_fn (fun n => nI n == z_n1 P k q || z_inS P k q n)
/-- a name, or none of 16 where it is not needed -/
def z_nz (b : Bool) (n : Int32) : Int32 := if b = true then n else 0

noncomputable def z_inN (P : z_Pg) (k i : Nat) : List z_N := z_inD P k i (z_cq (z_Bd P k) i) (z_a (z_bd P k) i).toNatClampNeg (z_n1 P k (z_cq (z_Bd P k) i)) (z_n2 P k (z_cq (z_Bd P k) i))
noncomputable def z_inR (P : z_Pg) (k i : Nat) : Int32 :=
  if (z_k (z_bd P k) i == 7 && z_isT (z_bd P k) i) = false then -10
  else if z_hmb P (z_own P k) (z_v (z_bd P k) i) (z_a (z_bd P k) i) = true then -3
  else if z_rch P (z_cq (z_Bd P k) i) (z_cq (z_Bd P k) i) = true then -4
  else if 0 < (z_a (z_bd P k) i).toNatClampNeg ∧ z_n1 P k (z_cq (z_Bd P k) i) = -1 then -6
  else if 1 < (z_a (z_bd P k) i).toNatClampNeg ∧ z_n2 P k (z_cq (z_Bd P k) i) = -1 then -6
  else if ¬ z_wr (z_sM P k (z_hd P k) (z_inN P k i)) = -1 then -8
  else if 60 < (z_inN P k i).length then -6
  else nI (z_inN P k i).length
noncomputable def z_inQ (P : z_Pg) (k i : Nat) : z_Pg := z_sM P k (z_hd P k) (z_inN P k i)
end
