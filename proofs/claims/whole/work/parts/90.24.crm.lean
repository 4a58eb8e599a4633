-- deps: 90.21.upd 90.23.lists
/-! a method renamed: the class -/
/-- a CALL that is bound to one of a set -/
noncomputable def z_cf (P : z_Pg) (s : Nat → Bool) (k i : Nat) : Bool := z_k (z_bd P k) i == 7 && s (z_cq (z_Bd P k) i)
/-- a sum over the methods that are there -/
def z_sl (P : z_Pg) (f : Nat → Nat) : Nat → Nat
  | 0 => 0
  | n + 1 => z_sl P f n + (if z_liv P n = true then f n else 0)
def z_rmG (P : z_Pg) (k : Nat) (x : Int32) (j : Nat) : Nat → Int32 := fun w => if w = 2 ∧ z_fam P k j = true then x else z_hd P j w
noncomputable def z_rmN (P : z_Pg) (k : Nat) (x : Int32) (j i : Nat) : z_N := if z_cf P (z_fam P k) j i = true then (7, x, z_a (z_bd P j) i) else z_at (z_bd P j) i
noncomputable def z_rmD (P : z_Pg) (k : Nat) (x : Int32) (j : Nat) : List z_N := z_lm (z_rmN P k x j) (z_bd P j).length
noncomputable def z_rmR (P : z_Pg) (k : Nat) (x : Int32) : Int32 := if z_free P (z_fam P k) x (z_hd P k 3) = false then -1 else nI (z_sl P (fun j => z_ct (z_cf P (z_fam P k) j) (z_bd P j).length) (z_nm P))
noncomputable def z_rmQ (P : z_Pg) (k : Nat) (x : Int32) : z_Pg := z_mix P (z_rmG P k x) (z_rmD P k x) (z_nm P)
theorem z_sl_le {P : z_Pg} {f : Nat → Nat} {c : Nat} : ∀ n, (∀ k, k < n → z_liv P k = true → f k ≤ c) → z_sl P f n ≤ n * c
  | 0, _ => Nat.zero_le _
  | n + 1, h => by
    have := z_sl_le (f := f) (c := c) n (fun k hk => h k (by omega))
    have e : (n + 1) * c = n * c + c := Nat.succ_mul n c
    unfold z_sl
    split
    · rename_i hl
      have := h n (by omega) hl
      omega
    · omega
section
variable {S : z_S} {m : z_m} {p q : Nat} {P : z_Pg}
theorem z_M_cf {s : Nat → Bool} (hw : z_wf P) (hR : z_RT P) {k i : Nat} (hk : k < z_nm P) (hl : z_liv P k = true) (hi : i < (z_bd P k).length) : z_isCF (z_bd P k) (z_Bd P k) i (z_M (z_nm P) s) = z_cf P s k i := by
  unfold z_isCF z_cf
  by_cases g : z_k (z_bd P k) i = 7
  · have := (z_call_q hw hk (hR k hk hl) hi g).2.1
    rw [z_M_at (by have := hw.2.2.1; omega) this]
  · have : (z_k (z_bd P k) i == 7) = false := by simpa using g
    rw [this]; rfl
/-- the copy's own things -/
def z_qF (q : Nat) (m m' : z_m) : Prop := (∀ a, (a < q ∨ q + 179 ≤ a) → m' a = m a) ∧ m' q 14 = m q 14
theorem z_qF.oF {m m' : z_m} (h : z_qF q m m') (hq : 242 ≤ q) : z_oF q m m' := ⟨fun a _ _ x => h.1 a x, by rw [h.1 22 (by omega)], by rw [h.1 30 (by omega)], by rw [h.1 38 (by omega)], by rw [h.1 54 (by omega)]⟩
theorem z_qF.trans {m m' m'' : z_m} (h : z_qF q m m') (h2 : z_qF q m' m'') : z_qF q m m'' := ⟨fun a x => (h2.1 a x).trans (h.1 a x), h2.2.trans h.2⟩
/-- all CALLs of a body -/
theorem f106_85_sp (hp : z_PS S p) (hq : z_PS S q) (hpq : p + 179 ≤ q ∨ q + 179 ≤ p) (h : z_cp m p P) (ht : z_LT m p P) (hw : z_wf P) (hR : z_RT P) {k j : Nat} (hj : j < z_nm P) (hl : z_liv P j = true) {x : Int32} (hcb : z_cb m (z_bi q j) 60 (z_bd P j)) (c0 : Nat) (hc0 : c0 < 1000000) : ∃ m', f106_85 p q x (z_M (z_nm P) (z_fam P k)) (nI c0) (nI j) (z_bi p j) 0 (z_hp S m) = some (.inl (p, q, x, z_M (z_nm P) (z_fam P k), nI (c0 + z_ct (z_cf P (z_fam P k) j) (z_bd P j).length), nI (j + 1)), z_hp S m') ∧ z_cb m' (z_bi q j) 60 (z_rmD P k x j) ∧ ∀ a, a ≠ z_bi q j + 2 → m' a = m a := by
  have h24 := hw.2.2.1
  have hbp := hp.B (k := j) (by omega)
  have hbpk := hbp.k
  have hbq := hq.B (k := j) (by omega)
  obtain ⟨c6, c7, cl, cR, cn⟩ := h.2.2.2 j hj hl
  have hT := (ht j hj hl).2
  unfold f106_85
  have key := z_loopI (f := fun s => f106_85b (s.1) (s.2.1) (s.2.2.1) (s.2.2.2.1) (s.2.2.2.2.1) (s.2.2.2.2.2.1) (s.2.2.2.2.2.2.1) (s.2.2.2.2.2.2.2)) (S := S) (fun n st m' => ∃ i, n = (z_bd P j).length - i ∧ i ≤ (z_bd P j).length ∧ st = (p, q, x, z_M (z_nm P) (z_fam P k), nI (c0 + z_ct (z_cf P (z_fam P k) j) i), nI j, z_bi p j, nI i) ∧ z_cb m' (z_bi q j) 60 (z_lm (fun i' => if i' < i then z_rmN P k x j i' else z_at (z_bd P j) i') (z_bd P j).length) ∧ ∀ a, a ≠ z_bi q j + 2 → m' a = m a) (fun r m' => r = .inl (p, q, x, z_M (z_nm P) (z_fam P k), nI (c0 + z_ct (z_cf P (z_fam P k) j) (z_bd P j).length), nI (j + 1)) ∧ z_cb m' (z_bi q j) 60 (z_rmD P k x j) ∧ ∀ a, a ≠ z_bi q j + 2 → m' a = m a) ?_ 1000000 (z_bd P j).length (p, q, x, z_M (z_nm P) (z_fam P k), nI c0, nI j, z_bi p j, 0) m ⟨0, rfl, Nat.zero_le _, rfl, by
    have : z_lm (fun i' => if i' < 0 then z_rmN P k x j i' else z_at (z_bd P j) i') (z_bd P j).length = z_bd P j := by
      rw [z_lm_congr (h := z_at (z_bd P j)) (fun i _ => if_neg (by omega)), z_lm_id]
    rw [this]; exact hcb, fun _ _ => rfl⟩ (by omega)
  · obtain ⟨r, m', e, rfl, g⟩ := key
    exact ⟨m', e, g⟩
  · rintro n st m1 ⟨i, rfl, hi, rfl, g1, g2⟩
    have hap : ∀ a, z_bi p j ≤ a → a ≤ z_bi p j + 6 → m1 a = m a := fun a x1 x2 => g2 a (by unfold z_bi at *; omega)
    have hb1 : z_cb m1 (z_bi p j) 60 (z_bd P j) := z_cb_fr (fun a x1 x2 => hap a x1 (by omega)) ⟨c6, c7, cl, cR, cn⟩
    have c71 := hb1.2.1
    have hcl := z_ct_le (s := z_cf P (z_fam P k) j) i
    have hlen : (z_bd P j).length ≤ 60 := cl
    dsimp only
    rcases Nat.eq_or_lt_of_le hi with hi2 | hi2
    · refine Or.inr ⟨_, m1, ?_, rfl, ?_, g2⟩
      · unfold f106_85b f106_134
        rw [hi2]
        simp (disch := ((try simp only [true_or, or_true, hp.k, hp.k1, hp.k2, hp.k3, hp.k4, hp.k5, hp.k6, hp.k7, hp.k8, hp.k9, hp.k10, hp.l1, hp.l2, hp.l3, hp.l4, hp.l5, hp.l6, hp.l7, hp.l8, hp.l9, hp.l10, hq.k, hq.k1, hq.k2, hq.k3, hq.k4, hq.k5, hq.k6, hq.k7, hq.k8, hq.k9, hq.k10, hq.l1, hq.l2, hq.l3, hq.l4, hq.l5, hq.l6, hq.l7, hq.l8, hq.l9, hq.l10, hbp.k, hbp.k1, hbp.k2, hbp.k3, hbp.k4, hbp.k5, hbp.k6, hbp.l1, hbp.l2, hbp.l3, hbp.l4, hbp.l5, hbp.l6, hbq.k, hbq.k1, hbq.k2, hbq.k3, hbq.k4, hbq.k5, hbq.k6, hbq.l1, hbq.l2, hbq.l3, hbq.l4, hbq.l5, hbq.l6]) <;> (try omega))) only [↓reduceIte, ↓z_ite, ↓zR, ↓zB_R, ↓zB_B, ↓zB_ite, ↓zB_gI, ↓zB_pI, ↓zB_pZ, ↓zB_aK, ↓zB_G, ↓zB_lI, ↓zB_lZ, ↓zB_wI, ↓zB_wZ, ↓zB_lIl, ↓zB_wIl, zB_pI, zB_pZ, zB_lI, zB_lZ, zB_wI, zB_wZ, z_addl, z_ladd, z_mull, z_lmul, nI_add, z_subl, Nat.not_lt_zero, z_10, z_01, z_bitc, z_b0, z_b1, ↓zB_Gb, ↓zB_G0, ↓zB_G1, z_eql, z_leq, z_ltl, z_llt, z_eq, z_lt, z_m1lt, hp.k, hp.k1, hp.k2, hp.k3, hp.k4, hp.k5, hp.k6, hp.k7, hp.k8, hp.k9, hp.k10, hp.l1, hp.l2, hp.l3, hp.l4, hp.l5, hp.l6, hp.l7, hp.l8, hp.l9, hp.l10, hq.k, hq.k1, hq.k2, hq.k3, hq.k4, hq.k5, hq.k6, hq.k7, hq.k8, hq.k9, hq.k10, hq.l1, hq.l2, hq.l3, hq.l4, hq.l5, hq.l6, hq.l7, hq.l8, hq.l9, hq.l10, hbp.k, hbp.k1, hbp.k2, hbp.k3, hbp.k4, hbp.k5, hbp.k6, hbp.l1, hbp.l2, hbp.l3, hbp.l4, hbp.l5, hbp.l6, hbq.k, hbq.k1, hbq.k2, hbq.k3, hbq.k4, hbq.k5, hbq.k6, hbq.l1, hbq.l2, hbq.l3, hbq.l4, hbq.l5, hbq.l6, ↓hp.g0, ↓hp.g1, ↓hp.g2, ↓hp.g3, ↓hp.g4, ↓hp.g5, ↓hp.g6, ↓hp.g7, ↓hp.g8, ↓hp.g9, ↓hp.gb, hp.gb, ↓hq.g0, ↓hq.g1, ↓hq.g2, ↓hq.g3, ↓hq.g4, ↓hq.g5, ↓hq.g6, ↓hq.g7, ↓hq.g8, ↓hq.g9, ↓hq.gb, hq.gb, ↓hbp.g0, ↓hbp.g1, ↓hbp.g2, ↓hbp.g3, ↓hbp.g4, ↓hbp.g5, ↓hbq.g0, ↓hbq.g1, ↓hbq.g2, ↓hbq.g3, ↓hbq.g4, ↓hbq.g5, c71, Nat.lt_irrefl]
      · have : z_rmD P k x j = z_lm (fun i' => if i' < i then z_rmN P k x j i' else z_at (z_bd P j) i') (z_bd P j).length := z_lm_congr (fun i' hi' => (if_pos (by omega)).symm)
        rw [this]; exact g1
    · have e17 := f17_sp hbp hb1 (B := z_Bd P j) (fun i hi => by rw [hap _ (by omega) (by omega)]; exact (hT i hi).2) hi2 (fun h7 => by
        obtain ⟨a1, a2, _⟩ := z_call_q hw hj (hR j hj hl) hi2 h7
        exact ⟨a1, by omega⟩) (z_M (z_nm P) (z_fam P k))
      rw [z_M_cf hw hR hj hl hi2] at e17
      cases g : z_cf P (z_fam P k) j i with
      | false =>
        rw [g] at e17
        refine Or.inl ⟨(p, q, x, z_M (z_nm P) (z_fam P k), nI (c0 + z_ct (z_cf P (z_fam P k) j) (i + 1)), nI j, z_bi p j, nI (i + 1)), m1, (z_bd P j).length - (i + 1), ?_, by omega, i + 1, rfl, hi2, rfl, ?_, g2⟩
        · have ec : z_ct (z_cf P (z_fam P k) j) (i + 1) = z_ct (z_cf P (z_fam P k) j) i := by
            show z_ct _ i + (if z_cf P (z_fam P k) j i = true then 1 else 0) = _
            rw [g]; rfl
          rw [ec]
          unfold f106_85b f106_128
          simp (disch := ((try simp only [true_or, or_true, hp.k, hp.k1, hp.k2, hp.k3, hp.k4, hp.k5, hp.k6, hp.k7, hp.k8, hp.k9, hp.k10, hp.l1, hp.l2, hp.l3, hp.l4, hp.l5, hp.l6, hp.l7, hp.l8, hp.l9, hp.l10, hq.k, hq.k1, hq.k2, hq.k3, hq.k4, hq.k5, hq.k6, hq.k7, hq.k8, hq.k9, hq.k10, hq.l1, hq.l2, hq.l3, hq.l4, hq.l5, hq.l6, hq.l7, hq.l8, hq.l9, hq.l10, hbp.k, hbp.k1, hbp.k2, hbp.k3, hbp.k4, hbp.k5, hbp.k6, hbp.l1, hbp.l2, hbp.l3, hbp.l4, hbp.l5, hbp.l6, hbq.k, hbq.k1, hbq.k2, hbq.k3, hbq.k4, hbq.k5, hbq.k6, hbq.l1, hbq.l2, hbq.l3, hbq.l4, hbq.l5, hbq.l6, hbpk]) <;> (try omega))) only [↓reduceIte, ↓z_ite, ↓zR, ↓zB_R, ↓zB_B, ↓zB_ite, ↓zB_gI, ↓zB_pI, ↓zB_pZ, ↓zB_aK, ↓zB_G, ↓zB_lI, ↓zB_lZ, ↓zB_wI, ↓zB_wZ, ↓zB_lIl, ↓zB_wIl, zB_pI, zB_pZ, zB_lI, zB_lZ, zB_wI, zB_wZ, z_addl, z_ladd, z_mull, z_lmul, nI_add, z_subl, Nat.not_lt_zero, z_10, z_01, z_bitc, z_b0, z_b1, ↓zB_Gb, ↓zB_G0, ↓zB_G1, z_eql, z_leq, z_ltl, z_llt, z_eq, z_lt, z_m1lt, hp.k, hp.k1, hp.k2, hp.k3, hp.k4, hp.k5, hp.k6, hp.k7, hp.k8, hp.k9, hp.k10, hp.l1, hp.l2, hp.l3, hp.l4, hp.l5, hp.l6, hp.l7, hp.l8, hp.l9, hp.l10, hq.k, hq.k1, hq.k2, hq.k3, hq.k4, hq.k5, hq.k6, hq.k7, hq.k8, hq.k9, hq.k10, hq.l1, hq.l2, hq.l3, hq.l4, hq.l5, hq.l6, hq.l7, hq.l8, hq.l9, hq.l10, hbp.k, hbp.k1, hbp.k2, hbp.k3, hbp.k4, hbp.k5, hbp.k6, hbp.l1, hbp.l2, hbp.l3, hbp.l4, hbp.l5, hbp.l6, hbq.k, hbq.k1, hbq.k2, hbq.k3, hbq.k4, hbq.k5, hbq.k6, hbq.l1, hbq.l2, hbq.l3, hbq.l4, hbq.l5, hbq.l6, hbpk, ↓hp.g0, ↓hp.g1, ↓hp.g2, ↓hp.g3, ↓hp.g4, ↓hp.g5, ↓hp.g6, ↓hp.g7, ↓hp.g8, ↓hp.g9, ↓hp.gb, hp.gb, ↓hq.g0, ↓hq.g1, ↓hq.g2, ↓hq.g3, ↓hq.g4, ↓hq.g5, ↓hq.g6, ↓hq.g7, ↓hq.g8, ↓hq.g9, ↓hq.gb, hq.gb, ↓hbp.g0, ↓hbp.g1, ↓hbp.g2, ↓hbp.g3, ↓hbp.g4, ↓hbp.g5, ↓hbq.g0, ↓hbq.g1, ↓hbq.g2, ↓hbq.g3, ↓hbq.g4, ↓hbq.g5, c71, hi2, ↓zB_c e17, zB_c e17]
        · have : z_lm (fun i' => if i' < i + 1 then z_rmN P k x j i' else z_at (z_bd P j) i') (z_bd P j).length = z_lm (fun i' => if i' < i then z_rmN P k x j i' else z_at (z_bd P j) i') (z_bd P j).length := z_lm_congr (fun i' hi' => by
            by_cases y : i' = i
            · subst y
              rw [if_pos (by omega), if_neg (by omega)]
              unfold z_rmN
              rw [g]; rfl
            · by_cases y2 : i' < i
              · rw [if_pos (by omega), if_pos y2]
              · rw [if_neg (by omega), if_neg y2])
          rw [this]; exact g1
      | true =>
        rw [g] at e17
        refine Or.inl ⟨(p, q, x, z_M (z_nm P) (z_fam P k), nI (c0 + z_ct (z_cf P (z_fam P k) j) (i + 1)), nI j, z_bi p j, nI (i + 1)), z_up m1 (z_bi q j + 2) i x, (z_bd P j).length - (i + 1), ?_, by omega, i + 1, rfl, hi2, rfl, ?_, fun a ha => by rw [z_up_row ha]; exact g2 a ha⟩
        · have ec : c0 + z_ct (z_cf P (z_fam P k) j) (i + 1) = c0 + z_ct (z_cf P (z_fam P k) j) i + 1 := by
            show c0 + (z_ct _ i + (if z_cf P (z_fam P k) j i = true then 1 else 0)) = _
            rw [g]; rfl
          rw [ec]
          unfold f106_85b f106_128
          simp (disch := ((try simp only [true_or, or_true, hp.k, hp.k1, hp.k2, hp.k3, hp.k4, hp.k5, hp.k6, hp.k7, hp.k8, hp.k9, hp.k10, hp.l1, hp.l2, hp.l3, hp.l4, hp.l5, hp.l6, hp.l7, hp.l8, hp.l9, hp.l10, hq.k, hq.k1, hq.k2, hq.k3, hq.k4, hq.k5, hq.k6, hq.k7, hq.k8, hq.k9, hq.k10, hq.l1, hq.l2, hq.l3, hq.l4, hq.l5, hq.l6, hq.l7, hq.l8, hq.l9, hq.l10, hbp.k, hbp.k1, hbp.k2, hbp.k3, hbp.k4, hbp.k5, hbp.k6, hbp.l1, hbp.l2, hbp.l3, hbp.l4, hbp.l5, hbp.l6, hbq.k, hbq.k1, hbq.k2, hbq.k3, hbq.k4, hbq.k5, hbq.k6, hbq.l1, hbq.l2, hbq.l3, hbq.l4, hbq.l5, hbq.l6, hbpk]) <;> (try omega))) only [↓reduceIte, ↓z_ite, ↓zR, ↓zB_R, ↓zB_B, ↓zB_ite, ↓zB_gI, ↓zB_pI, ↓zB_pZ, ↓zB_aK, ↓zB_G, ↓zB_lI, ↓zB_lZ, ↓zB_wI, ↓zB_wZ, ↓zB_lIl, ↓zB_wIl, zB_pI, zB_pZ, zB_lI, zB_lZ, zB_wI, zB_wZ, z_addl, z_ladd, z_mull, z_lmul, nI_add, z_subl, Nat.not_lt_zero, z_10, z_01, z_bitc, z_b0, z_b1, ↓zB_Gb, ↓zB_G0, ↓zB_G1, z_eql, z_leq, z_ltl, z_llt, z_eq, z_lt, z_m1lt, hp.k, hp.k1, hp.k2, hp.k3, hp.k4, hp.k5, hp.k6, hp.k7, hp.k8, hp.k9, hp.k10, hp.l1, hp.l2, hp.l3, hp.l4, hp.l5, hp.l6, hp.l7, hp.l8, hp.l9, hp.l10, hq.k, hq.k1, hq.k2, hq.k3, hq.k4, hq.k5, hq.k6, hq.k7, hq.k8, hq.k9, hq.k10, hq.l1, hq.l2, hq.l3, hq.l4, hq.l5, hq.l6, hq.l7, hq.l8, hq.l9, hq.l10, hbp.k, hbp.k1, hbp.k2, hbp.k3, hbp.k4, hbp.k5, hbp.k6, hbp.l1, hbp.l2, hbp.l3, hbp.l4, hbp.l5, hbp.l6, hbq.k, hbq.k1, hbq.k2, hbq.k3, hbq.k4, hbq.k5, hbq.k6, hbq.l1, hbq.l2, hbq.l3, hbq.l4, hbq.l5, hbq.l6, hbpk, ↓hp.g0, ↓hp.g1, ↓hp.g2, ↓hp.g3, ↓hp.g4, ↓hp.g5, ↓hp.g6, ↓hp.g7, ↓hp.g8, ↓hp.g9, ↓hp.gb, hp.gb, ↓hq.g0, ↓hq.g1, ↓hq.g2, ↓hq.g3, ↓hq.g4, ↓hq.g5, ↓hq.g6, ↓hq.g7, ↓hq.g8, ↓hq.g9, ↓hq.gb, hq.gb, ↓hbp.g0, ↓hbp.g1, ↓hbp.g2, ↓hbp.g3, ↓hbp.g4, ↓hbp.g5, ↓hbq.g0, ↓hbq.g1, ↓hbq.g2, ↓hbq.g3, ↓hbq.g4, ↓hbq.g5, c71, hi2, ↓zB_c e17, zB_c e17, Bool.true_eq_false, h24, hj]
        · obtain ⟨d6, d7, dl, dR, dn⟩ := g1
          rw [z_lm_len] at d7 dl dn
          refine ⟨by rw [z_up_row (by omega)]; exact d6, by rw [z_up_row (by omega), z_lm_len]; exact d7, by rw [z_lm_len]; exact dl, dR, fun i' hi' => ?_⟩
          rw [z_lm_len] at hi'
          obtain ⟨n1, n2, n3⟩ := dn i' hi'
          have h7 : z_k (z_bd P j) i = 7 := by
            unfold z_cf at g
            simpa using (Bool.and_eq_true_iff.mp g).1
          by_cases y : i' = i
          · subst y
            unfold z_p z_k z_v z_a at *
            rw [z_lm_at hi', if_neg (by omega)] at n1 n3
            rw [z_lm_at hi', if_pos (by omega), z_up_row (by omega), z_up_s, z_up_row (by omega)]
            unfold z_rmN
            rw [g]
            refine ⟨by rw [n1]; exact h7, rfl, ?_⟩
            rw [n3]
            show nI (z_pn (z_at (z_bd P j) i').1 _) = nI (z_pn 7 _)
            rw [h7]; rfl
          · unfold z_p z_k z_v z_a at *
            have ey : (if i' < i + 1 then z_rmN P k x j i' else z_at (z_bd P j) i') = (if i' < i then z_rmN P k x j i' else z_at (z_bd P j) i') := by
              by_cases y2 : i' < i
              · rw [if_pos (by omega), if_pos y2]
              · rw [if_neg (by omega), if_neg y2]
            rw [z_lm_at hi'] at n1 n2 n3
            rw [z_lm_at hi', ey, z_up_row (by omega), z_up_b y, z_up_row (by omega)]
            exact ⟨n1, n2, n3⟩
/-- Renamer.nameMethod -/
theorem f106_sp (hpre : z_Pre S m p q P) (hw : z_wf P) (hR : z_RT P) {k : Nat} (hk : k < z_nm P) (hl : z_liv P k = true) (x : Int32) : ∃ m', f106 21 p q (nI k) x (z_hp S m) = some (z_rmR P k x, z_hp S m') ∧ z_Post m m' q (z_rmR P k x) (z_rmQ P k x) := by
  obtain ⟨⟨hX, hp, hq⟩, ⟨lo, lo2, hpq⟩, ⟨hcp, hT⟩, ⟨hcq, h14⟩, hsh⟩ := hpre
  have h24 := hw.2.2.1
  have h0 := hcp.2.1.1
  have hpk := hp.k
  have e95 := f95_sp hp hcp hw hk hl
  have hfl : ∀ i, i < z_nm P → z_fam P k i = true → z_liv P i = true := fun i _ h => z_isc_liv (z_fam_isc hk hl h).2
  have e97 := f97_sp hp hcp hw hfl x (z_hd P k 3)
  have hk3 := (hcp.2.1.2.2 k hk hl).2.2.1
  have hb60 : ∀ j, j < z_nm P → z_liv P j = true → (z_bd P j).length ≤ 60 := fun j hj hlj => (hcp.2.2.2 j hj hlj).2.2.1
  by_cases gf : z_free P (z_fam P k) x (z_hd P k 3) = false
  · have er : z_rmR P k x = -1 := if_pos gf
    rw [er]
    refine ⟨m, ?_, fun g => absurd (by decide) g, hcq.2.2.1, z_oF.refl q m⟩
    rw [gf] at e97
    unfold f106
    simp (disch := ((try simp only [true_or, or_true, hp.k, hp.k1, hp.k2, hp.k3, hp.k4, hp.k5, hp.k6, hp.k7, hp.k8, hp.k9, hp.k10, hp.l1, hp.l2, hp.l3, hp.l4, hp.l5, hp.l6, hp.l7, hp.l8, hp.l9, hp.l10, hpk]) <;> (try omega))) only [↓reduceIte, ↓z_ite, ↓zR, ↓zB_R, ↓zB_B, ↓zB_ite, ↓zB_gI, ↓zB_pI, ↓zB_pZ, ↓zB_aK, ↓zB_G, ↓zB_lI, ↓zB_lZ, ↓zB_wI, ↓zB_wZ, ↓zB_lIl, ↓zB_wIl, zB_pI, zB_pZ, zB_lI, zB_lZ, zB_wI, zB_wZ, z_addl, z_ladd, z_mull, z_lmul, nI_add, z_subl, Nat.not_lt_zero, z_10, z_01, z_bitc, z_b0, z_b1, ↓zB_Gb, ↓zB_G0, ↓zB_G1, z_eql, z_leq, z_ltl, z_llt, z_eq, z_lt, z_m1lt, hp.k, hp.k1, hp.k2, hp.k3, hp.k4, hp.k5, hp.k6, hp.k7, hp.k8, hp.k9, hp.k10, hp.l1, hp.l2, hp.l3, hp.l4, hp.l5, hp.l6, hp.l7, hp.l8, hp.l9, hp.l10, hpk, ↓hp.g0, ↓hp.g1, ↓hp.g2, ↓hp.g3, ↓hp.g4, ↓hp.g5, ↓hp.g6, ↓hp.g7, ↓hp.g8, ↓hp.g9, ↓hp.gb, hp.gb, ↓zB_c e95, zB_c e95, h24, hk, hk3, ↓zB_c e97, zB_c e97]
  · have gf' : z_free P (z_fam P k) x (z_hd P k 3) = true := by simpa using gf
    rw [gf'] at e97
    have er : z_rmR P k x = nI (z_sl P (fun j => z_ct (z_cf P (z_fam P k) j) (z_bd P j).length) (z_nm P)) := if_neg gf
    have hsum : ∀ n, n ≤ z_nm P → z_sl P (fun j => z_ct (z_cf P (z_fam P k) j) (z_bd P j).length) n ≤ n * 60 := fun n hn => z_sl_le n (fun j hj hlj => Nat.le_trans (z_ct_le _) (hb60 j (by omega) hlj))
    have key := z_loopI (f := fun s => f106_32b (s.1) (s.2.1) (s.2.2.1) (s.2.2.2.1) (s.2.2.2.2.1) (s.2.2.2.2.2)) (S := S) (fun n st m' => ∃ j, n = z_nm P - j ∧ j ≤ z_nm P ∧ st = (p, q, x, z_M (z_nm P) (z_fam P k), nI (z_sl P (fun j => z_ct (z_cf P (z_fam P k) j) (z_bd P j).length) j), nI j) ∧ z_cp m' q (z_mix P (z_rmG P k x) (z_rmD P k x) j) ∧ z_qF q m m') (fun r m' => r = z_rmR P k x ∧ z_cp m' q (z_rmQ P k x) ∧ z_qF q m m') ?_ 1000000 (z_nm P) (p, q, x, z_M (z_nm P) (z_fam P k), 0, 0) m ⟨0, rfl, Nat.zero_le _, rfl, by rw [z_mix_0]; exact hcq, fun _ _ => rfl, rfl⟩ (by omega)
    · obtain ⟨r, m', e, rfl, g1, g2⟩ := key
      refine ⟨m', ?_, fun _ => z_PK_0 g1 (by rw [g2.2]; exact h14), g1.2.2.1, g2.oF lo2⟩
      unfold f106
      simp (disch := ((try simp only [true_or, or_true, hp.k, hp.k1, hp.k2, hp.k3, hp.k4, hp.k5, hp.k6, hp.k7, hp.k8, hp.k9, hp.k10, hp.l1, hp.l2, hp.l3, hp.l4, hp.l5, hp.l6, hp.l7, hp.l8, hp.l9, hp.l10, hpk]) <;> (try omega))) only [↓reduceIte, ↓z_ite, ↓zR, ↓zB_R, ↓zB_B, ↓zB_ite, ↓zB_gI, ↓zB_pI, ↓zB_pZ, ↓zB_aK, ↓zB_G, ↓zB_lI, ↓zB_lZ, ↓zB_wI, ↓zB_wZ, ↓zB_lIl, ↓zB_wIl, zB_pI, zB_pZ, zB_lI, zB_lZ, zB_wI, zB_wZ, z_addl, z_ladd, z_mull, z_lmul, nI_add, z_subl, Nat.not_lt_zero, z_10, z_01, z_bitc, z_b0, z_b1, ↓zB_Gb, ↓zB_G0, ↓zB_G1, z_eql, z_leq, z_ltl, z_llt, z_eq, z_lt, z_m1lt, hp.k, hp.k1, hp.k2, hp.k3, hp.k4, hp.k5, hp.k6, hp.k7, hp.k8, hp.k9, hp.k10, hp.l1, hp.l2, hp.l3, hp.l4, hp.l5, hp.l6, hp.l7, hp.l8, hp.l9, hp.l10, hpk, ↓hp.g0, ↓hp.g1, ↓hp.g2, ↓hp.g3, ↓hp.g4, ↓hp.g5, ↓hp.g6, ↓hp.g7, ↓hp.g8, ↓hp.g9, ↓hp.gb, hp.gb, ↓zB_c e95, zB_c e95, h24, hk, hk3, ↓zB_c e97, zB_c e97, Bool.true_eq_false]
      exact e
    · rintro n st m1 ⟨j, rfl, hj, rfl, g1, g2⟩
      have hcp1 : z_cp m1 p P := z_cp_fr h24 (fun a x1 x2 => g2.1 a (by omega)) (fun k hk a x1 x2 => g2.1 a (by unfold z_bi at *; omega)) hcp
      have hT1 : z_LT m1 p P := z_LT_fr hw (fun a x1 x2 => g2.1 a (by omega)) hT
      have h01 := hcp1.2.1.1
      have hle := hsum j hj
      dsimp only
      rcases Nat.eq_or_lt_of_le hj with hj2 | hj2
      · refine Or.inr ⟨_, m1, ?_, rfl, by rw [hj2] at g1; exact g1, g2⟩
        rw [er, hj2]
        unfold f106_32b f106_140
        simp (disch := ((try simp only [true_or, or_true, hp.k, hp.k1, hp.k2, hp.k3, hp.k4, hp.k5, hp.k6, hp.k7, hp.k8, hp.k9, hp.k10, hp.l1, hp.l2, hp.l3, hp.l4, hp.l5, hp.l6, hp.l7, hp.l8, hp.l9, hp.l10]) <;> (try omega))) only [↓reduceIte, ↓z_ite, ↓zR, ↓zB_R, ↓zB_B, ↓zB_ite, ↓zB_gI, ↓zB_pI, ↓zB_pZ, ↓zB_aK, ↓zB_G, ↓zB_lI, ↓zB_lZ, ↓zB_wI, ↓zB_wZ, ↓zB_lIl, ↓zB_wIl, zB_pI, zB_pZ, zB_lI, zB_lZ, zB_wI, zB_wZ, z_addl, z_ladd, z_mull, z_lmul, nI_add, z_subl, Nat.not_lt_zero, z_10, z_01, z_bitc, z_b0, z_b1, ↓zB_Gb, ↓zB_G0, ↓zB_G1, z_eql, z_leq, z_ltl, z_llt, z_eq, z_lt, z_m1lt, hp.k, hp.k1, hp.k2, hp.k3, hp.k4, hp.k5, hp.k6, hp.k7, hp.k8, hp.k9, hp.k10, hp.l1, hp.l2, hp.l3, hp.l4, hp.l5, hp.l6, hp.l7, hp.l8, hp.l9, hp.l10, ↓hp.g0, ↓hp.g1, ↓hp.g2, ↓hp.g3, ↓hp.g4, ↓hp.g5, ↓hp.g6, ↓hp.g7, ↓hp.g8, ↓hp.g9, ↓hp.gb, hp.gb, h01, Nat.lt_irrefl]
      · have e79 := f79_sp hp hcp1 (k := j) (by omega)
        have ethr : z_thr P j = z_liv P j := by unfold z_thr; rw [decide_eq_true hj2, Bool.true_and]
        rw [ethr] at e79
        cases glj : z_liv P j with
        | false =>
          rw [glj] at e79
          refine Or.inl ⟨(p, q, x, z_M (z_nm P) (z_fam P k), nI (z_sl P (fun j => z_ct (z_cf P (z_fam P k) j) (z_bd P j).length) (j + 1)), nI (j + 1)), m1, z_nm P - (j + 1), ?_, by omega, j + 1, rfl, hj2, rfl, by rw [z_mix_n glj]; exact g1, g2⟩
          have ec : z_sl P (fun j => z_ct (z_cf P (z_fam P k) j) (z_bd P j).length) (j + 1) = z_sl P (fun j => z_ct (z_cf P (z_fam P k) j) (z_bd P j).length) j := by
            show z_sl P _ j + (if z_liv P j = true then _ else 0) = _
            rw [glj]; rfl
          rw [ec]
          unfold f106_32b f106_134
          simp (disch := ((try simp only [true_or, or_true, hp.k, hp.k1, hp.k2, hp.k3, hp.k4, hp.k5, hp.k6, hp.k7, hp.k8, hp.k9, hp.k10, hp.l1, hp.l2, hp.l3, hp.l4, hp.l5, hp.l6, hp.l7, hp.l8, hp.l9, hp.l10, hpk]) <;> (try omega))) only [↓reduceIte, ↓z_ite, ↓zR, ↓zB_R, ↓zB_B, ↓zB_ite, ↓zB_gI, ↓zB_pI, ↓zB_pZ, ↓zB_aK, ↓zB_G, ↓zB_lI, ↓zB_lZ, ↓zB_wI, ↓zB_wZ, ↓zB_lIl, ↓zB_wIl, zB_pI, zB_pZ, zB_lI, zB_lZ, zB_wI, zB_wZ, z_addl, z_ladd, z_mull, z_lmul, nI_add, z_subl, Nat.not_lt_zero, z_10, z_01, z_bitc, z_b0, z_b1, ↓zB_Gb, ↓zB_G0, ↓zB_G1, z_eql, z_leq, z_ltl, z_llt, z_eq, z_lt, z_m1lt, hp.k, hp.k1, hp.k2, hp.k3, hp.k4, hp.k5, hp.k6, hp.k7, hp.k8, hp.k9, hp.k10, hp.l1, hp.l2, hp.l3, hp.l4, hp.l5, hp.l6, hp.l7, hp.l8, hp.l9, hp.l10, hpk, ↓hp.g0, ↓hp.g1, ↓hp.g2, ↓hp.g3, ↓hp.g4, ↓hp.g5, ↓hp.g6, ↓hp.g7, ↓hp.g8, ↓hp.g9, ↓hp.gb, hp.gb, h01, hj2, ↓zB_c e79, zB_c e79]
        | true =>
          rw [glj] at e79
          have hbit := z_M_at (n := z_nm P) (s := z_fam P k) (by omega) hj2
          have hmixl : z_liv (z_mix P (z_rmG P k x) (z_rmD P k x) j) j = true := by
            unfold z_liv; rw [z_mix_hd, if_neg (by omega)]; exact glj
          have hbdj : z_bd (z_mix P (z_rmG P k x) (z_rmD P k x) j) j = z_bd P j := by rw [z_mix_bd, if_neg (by omega)]
          have hcbq : z_cb m1 (z_bi q j) 60 (z_bd P j) := by
            have := g1.2.2.2 j hj2 hmixl
            rw [hbdj] at this; exact this
          have hh1 := z_h1_of g1 (j := j) hj2 hmixl
          have hhd : ∀ w, z_hd (z_mix P (z_rmG P k x) (z_rmD P k x) j) j w = z_hd P j w := fun w => by rw [z_mix_hd, if_neg (by omega)]
          unfold z_h1 at hh1
          simp only [hhd] at hh1
          -- the name
          have nam : ∃ m2, f106_32b p q x (z_M (z_nm P) (z_fam P k)) (nI (z_sl P (fun j => z_ct (z_cf P (z_fam P k) j) (z_bd P j).length) j)) (nI j) (z_hp S m1) = f106_85 p q x (z_M (z_nm P) (z_fam P k)) (nI (z_sl P (fun j => z_ct (z_cf P (z_fam P k) j) (z_bd P j).length) j)) (nI j) (z_bi p j) 0 (z_hp S m2) ∧ z_h1 m2 q j (z_rmG P k x j) ∧ z_hO m1 m2 q j ∧ ∀ a, a ≠ q + 5 → m2 a = m1 a := by
            obtain ⟨q1, q2, q3, q4, q5, q6⟩ := hh1
            cases gfm : z_fam P k j with
            | false =>
              rw [gfm] at hbit
              refine ⟨m1, ?_, ?_, z_hO.refl _ _ _, fun _ _ => rfl⟩
              · unfold f106_32b f106_73
                simp (disch := ((try simp only [true_or, or_true, hp.k, hp.k1, hp.k2, hp.k3, hp.k4, hp.k5, hp.k6, hp.k7, hp.k8, hp.k9, hp.k10, hp.l1, hp.l2, hp.l3, hp.l4, hp.l5, hp.l6, hp.l7, hp.l8, hp.l9, hp.l10, hq.k, hq.k1, hq.k2, hq.k3, hq.k4, hq.k5, hq.k6, hq.k7, hq.k8, hq.k9, hq.k10, hq.l1, hq.l2, hq.l3, hq.l4, hq.l5, hq.l6, hq.l7, hq.l8, hq.l9, hq.l10, hpk]) <;> (try omega))) only [↓reduceIte, ↓z_ite, ↓zR, ↓zB_R, ↓zB_B, ↓zB_ite, ↓zB_gI, ↓zB_pI, ↓zB_pZ, ↓zB_aK, ↓zB_G, ↓zB_lI, ↓zB_lZ, ↓zB_wI, ↓zB_wZ, ↓zB_lIl, ↓zB_wIl, zB_pI, zB_pZ, zB_lI, zB_lZ, zB_wI, zB_wZ, z_addl, z_ladd, z_mull, z_lmul, nI_add, z_subl, Nat.not_lt_zero, z_10, z_01, z_bitc, z_b0, z_b1, ↓zB_Gb, ↓zB_G0, ↓zB_G1, z_eql, z_leq, z_ltl, z_llt, z_eq, z_lt, z_m1lt, hp.k, hp.k1, hp.k2, hp.k3, hp.k4, hp.k5, hp.k6, hp.k7, hp.k8, hp.k9, hp.k10, hp.l1, hp.l2, hp.l3, hp.l4, hp.l5, hp.l6, hp.l7, hp.l8, hp.l9, hp.l10, hq.k, hq.k1, hq.k2, hq.k3, hq.k4, hq.k5, hq.k6, hq.k7, hq.k8, hq.k9, hq.k10, hq.l1, hq.l2, hq.l3, hq.l4, hq.l5, hq.l6, hq.l7, hq.l8, hq.l9, hq.l10, hpk, ↓hp.g0, ↓hp.g1, ↓hp.g2, ↓hp.g3, ↓hp.g4, ↓hp.g5, ↓hp.g6, ↓hp.g7, ↓hp.g8, ↓hp.g9, ↓hp.gb, hp.gb, ↓hq.g0, ↓hq.g1, ↓hq.g2, ↓hq.g3, ↓hq.g4, ↓hq.g5, ↓hq.g6, ↓hq.g7, ↓hq.g8, ↓hq.g9, ↓hq.gb, hq.gb, h01, hj2, ↓zB_c e79, zB_c e79, hbit, Bool.false_eq_true, Bool.true_eq_false, h24]
              · unfold z_h1 z_rmG
                rw [gfm]
                simp only [Bool.false_eq_true, and_false, if_false]
                exact ⟨q1, q2, q3, q4, q5, q6⟩
            | true =>
              rw [gfm] at hbit
              refine ⟨z_up m1 (q + 5) j x, ?_, ?_, ⟨z_up_row (by omega), z_up_row (by omega), z_up_row (by omega), z_up_row (by omega), fun k' hk' => ⟨by rw [z_up_row (by omega)], by rw [z_up_b hk'], by rw [z_up_row (by omega)], by rw [z_up_row (by omega)], fun i hi => ⟨by rw [z_up_row (by omega)], by rw [z_up_row (by omega)]⟩⟩⟩, fun a ha => z_up_row ha⟩
              · unfold f106_32b f106_73
                simp (disch := ((try simp only [true_or, or_true, hp.k, hp.k1, hp.k2, hp.k3, hp.k4, hp.k5, hp.k6, hp.k7, hp.k8, hp.k9, hp.k10, hp.l1, hp.l2, hp.l3, hp.l4, hp.l5, hp.l6, hp.l7, hp.l8, hp.l9, hp.l10, hq.k, hq.k1, hq.k2, hq.k3, hq.k4, hq.k5, hq.k6, hq.k7, hq.k8, hq.k9, hq.k10, hq.l1, hq.l2, hq.l3, hq.l4, hq.l5, hq.l6, hq.l7, hq.l8, hq.l9, hq.l10, hpk]) <;> (try omega))) only [↓reduceIte, ↓z_ite, ↓zR, ↓zB_R, ↓zB_B, ↓zB_ite, ↓zB_gI, ↓zB_pI, ↓zB_pZ, ↓zB_aK, ↓zB_G, ↓zB_lI, ↓zB_lZ, ↓zB_wI, ↓zB_wZ, ↓zB_lIl, ↓zB_wIl, zB_pI, zB_pZ, zB_lI, zB_lZ, zB_wI, zB_wZ, z_addl, z_ladd, z_mull, z_lmul, nI_add, z_subl, Nat.not_lt_zero, z_10, z_01, z_bitc, z_b0, z_b1, ↓zB_Gb, ↓zB_G0, ↓zB_G1, z_eql, z_leq, z_ltl, z_llt, z_eq, z_lt, z_m1lt, hp.k, hp.k1, hp.k2, hp.k3, hp.k4, hp.k5, hp.k6, hp.k7, hp.k8, hp.k9, hp.k10, hp.l1, hp.l2, hp.l3, hp.l4, hp.l5, hp.l6, hp.l7, hp.l8, hp.l9, hp.l10, hq.k, hq.k1, hq.k2, hq.k3, hq.k4, hq.k5, hq.k6, hq.k7, hq.k8, hq.k9, hq.k10, hq.l1, hq.l2, hq.l3, hq.l4, hq.l5, hq.l6, hq.l7, hq.l8, hq.l9, hq.l10, hpk, ↓hp.g0, ↓hp.g1, ↓hp.g2, ↓hp.g3, ↓hp.g4, ↓hp.g5, ↓hp.g6, ↓hp.g7, ↓hp.g8, ↓hp.g9, ↓hp.gb, hp.gb, ↓hq.g0, ↓hq.g1, ↓hq.g2, ↓hq.g3, ↓hq.g4, ↓hq.g5, ↓hq.g6, ↓hq.g7, ↓hq.g8, ↓hq.g9, ↓hq.gb, hq.gb, h01, hj2, ↓zB_c e79, zB_c e79, hbit, Bool.true_eq_false, h24]
              · unfold z_h1 z_rmG
                rw [gfm]
                refine ⟨?_, ?_, ?_, ?_, fun i hi => ?_, fun i hi => ?_⟩
                · rw [z_up_row (by omega)]; exact q1
                · rw [z_up_s]; exact (if_pos ⟨rfl, rfl⟩).symm
                · rw [z_up_row (by omega)]; exact q3
                · rw [z_up_row (by omega)]; exact q4
                · rw [z_up_row (by omega), if_neg (by omega)]; exact q5 i hi
                · rw [z_up_row (by omega), if_neg (by omega)]; exact q6 i hi
          obtain ⟨m2, e2, hh2, hO2, fr2⟩ := nam
          have hcp2 : z_cp m2 p P := z_cp_fr h24 (fun a x1 x2 => fr2 a (by omega)) (fun k hk a x1 x2 => fr2 a (by unfold z_bi at *; omega)) hcp1
          have hT2 : z_LT m2 p P := z_LT_fr hw (fun a x1 x2 => fr2 a (by omega)) hT1
          have hcb2 : z_cb m2 (z_bi q j) 60 (z_bd P j) := z_cb_fr (fun a x1 x2 => fr2 a (by unfold z_bi at *; omega)) hcbq
          obtain ⟨m3, e3, hcb3, fr3⟩ := f106_85_sp (k := k) (x := x) hp hq (by omega) hcp2 hT2 hw hR hj2 glj hcb2 (z_sl P (fun j => z_ct (z_cf P (z_fam P k) j) (z_bd P j).length) j) (by omega)
          have fr23 : ∀ a, a ≠ q + 5 → a ≠ z_bi q j + 2 → m3 a = m1 a := fun a x1 x2 => (fr3 a x2).trans (fr2 a x1)
          refine Or.inl ⟨(p, q, x, z_M (z_nm P) (z_fam P k), nI (z_sl P (fun j => z_ct (z_cf P (z_fam P k) j) (z_bd P j).length) (j + 1)), nI (j + 1)), m3, z_nm P - (j + 1), ?_, by omega, j + 1, rfl, hj2, rfl, ?_, fun a ha => ?_, ?_⟩
          · have ec : z_sl P (fun j => z_ct (z_cf P (z_fam P k) j) (z_bd P j).length) (j + 1) = z_sl P (fun j => z_ct (z_cf P (z_fam P k) j) (z_bd P j).length) j + z_ct (z_cf P (z_fam P k) j) (z_bd P j).length := by
              show z_sl P _ j + (if z_liv P j = true then _ else 0) = _
              rw [if_pos glj]
            rw [ec, e2]; exact e3
          · rw [z_mix_s glj]
            have hO3 : z_hO m2 m3 q j := z_hO.same j (fun a x1 x2 => fr3 a (by unfold z_bi; omega))
            refine z_cp_sM g1 (fun k' hk' => ?_) hj2 hmixl (hO2.trans hO3) ?_ ?_ (fun k' hk' => ?_) (fun k' hk' hne a x1 x2 => fr23 a (by unfold z_bi at *; omega) (by unfold z_bi at *; omega)) hcb3
            · have hk' : k' < z_nm P := hk'
              unfold z_cnt
              rw [z_mix_hd]
              have hc := (hw.2.2.2.1 k' hk').2.2.2.1.1
              split
              · unfold z_rmG; rw [if_neg (by omega)]; exact hc
              · exact hc
            · unfold z_rmG
              rw [if_neg (by omega)]
              simpa [z_liv] using glj
            · unfold z_h1 at *
              rw [fr3 (q + 4) (by unfold z_bi; omega), fr3 (q + 5) (by unfold z_bi; omega), fr3 (q + 6) (by unfold z_bi; omega), fr3 (q + 9) (by unfold z_bi; omega), fr3 (q + 7) (by unfold z_bi; omega), fr3 (q + 8) (by unfold z_bi; omega)]
              exact hh2
            · rw [fr23 _ (by unfold z_bi; omega) (by unfold z_bi; omega)]; exact g1.2.2.1 k' hk'
          · rw [fr23 a (by omega) (by unfold z_bi; omega)]; exact g2.1 a ha
          · rw [fr23 q (by omega) (by unfold z_bi; omega)]; exact g2.2
end
