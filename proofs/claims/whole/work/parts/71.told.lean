/-! throwing; the nodes that were told -/
def z_Sx (S : z_S) : z_S := (S.1, S.2.1, S.2.2.1, S.2.2.2.1, S.2.2.2.2.1, S.2.2.2.2.2.1 + 1, S.2.2.2.2.2.2 + 6)
def z_Sj (S : z_S) (k j : Nat) (v : Int64) : z_S := (S.1, S.2.1, S.2.2.1, S.2.2.2.1, q_up S.2.2.2.2.1 k j v, S.2.2.2.2.2.1, S.2.2.2.2.2.2)
def z_Sr (S : z_S) (k j : Nat) (v : Option Nat) : z_S := (S.1, S.2.1, S.2.2.1, q_up S.2.2.2.1 k j v, S.2.2.2.2.1, S.2.2.2.2.2.1, S.2.2.2.2.2.2)
section
variable {α β : Type} {S S' : z_S} {m m' : z_m} {E : Nat}
theorem z_thw : (m_thr E : m_M (α ⊕ Nat)) (z_hp S m) = some (.inr E, z_hp (z_Sx S) m) := rfl
theorem zT_l {g : m_M (α ⊕ Nat)} {f : α → m_M β} {e : Nat → m_M β} {x : α} (h : g (z_hp S m) = some (.inl x, z_hp S' m')) : m_T g f e (z_hp S m) = f x (z_hp S' m') := by
  unfold m_T; rw [h]
theorem zT_r {g : m_M (α ⊕ Nat)} {f : α → m_M β} {e : Nat → m_M β} {x : Nat} (h : g (z_hp S m) = some (.inr x, z_hp S' m')) : m_T g f e (z_hp S m) = e x (z_hp S' m') := by
  unfold m_T; rw [h]
/-- a call that is known and changes more than ints -/
theorem zB_C {f : α → m_M β} {g : m_M α} {x : α} (e : g (z_hp S m) = some (x, z_hp S' m')) : m_B g f (z_hp S m) = f x (z_hp S' m') := by
  unfold m_B; rw [e]
end
theorem z_kd_x (S : z_S) (r : Nat) : z_kd (z_Sx S) r = z_kd S r := rfl
theorem z_ln_x (S : z_S) (r : Nat) : z_ln (z_Sx S) r = z_ln S r := rfl
/-- a node with its parts -/
abbrev z_TN : Type := z_N × Nat × Nat × Nat
def z_tq (t : z_TN) (q : Nat) : Nat := if q = 0 then t.2.1 else if q = 1 then t.2.2.1 else t.2.2.2
def z_tn (t : z_TN) : Nat := z_pn t.1.1 t.1.2.2
def z_td : z_TN := ((0, 0, 0), 0, 0, 0)
def z_tat (τ : List z_TN) (i : Nat) : z_TN := τ.getD i z_td
/-- a sum over parts -/
def z_su (f : Nat → Nat) : Nat → Nat
  | 0 => 0
  | n + 1 => z_su f n + f n
/-- how many nodes there are in each -/
def z_tss (τ : List z_TN) : List Nat := τ.foldl (fun s t => s ++ [1 + z_su (fun q => s.getD (z_tq t q) 0) (z_tn t)]) []
def z_ts (τ : List z_TN) (i : Nat) : Nat := (z_tss τ).getD i 0
theorem z_tss_snoc (τ : List z_TN) (t : z_TN) : z_tss (τ ++ [t]) = z_tss τ ++ [1 + z_su (fun q => z_ts τ (z_tq t q)) (z_tn t)] := by
  unfold z_tss z_ts
  rw [List.foldl_append]; rfl
theorem z_tss_len (τ : List z_TN) : (z_tss τ).length = τ.length := by
  have key : ∀ n (τ : List z_TN), τ.length = n → (z_tss τ).length = τ.length := by
    intro n
    induction n with
    | zero => intro τ h; rw [List.eq_nil_of_length_eq_zero h]; rfl
    | succ n ih =>
      intro τ h
      have hne : τ ≠ [] := by intro h2; rw [h2] at h; cases h
      rw [← List.dropLast_concat_getLast hne, z_tss_snoc, List.length_append, List.length_append, ih]
      · rfl
      · rw [List.length_dropLast, h]; rfl
  exact key _ τ rfl
theorem z_ts_old (τ : List z_TN) (t : z_TN) {i : Nat} (hi : i < τ.length) : z_ts (τ ++ [t]) i = z_ts τ i := by
  unfold z_ts
  rw [z_tss_snoc, List.getD_eq_getElem?_getD, List.getD_eq_getElem?_getD, List.getElem?_append_left (by rw [z_tss_len]; exact hi)]
theorem z_ts_new (τ : List z_TN) (t : z_TN) : z_ts (τ ++ [t]) τ.length = 1 + z_su (fun q => z_ts τ (z_tq t q)) (z_tn t) := by
  show (z_tss (τ ++ [t])).getD τ.length 0 = _
  rw [z_tss_snoc, List.getD_eq_getElem?_getD, List.getElem?_append_right (by rw [z_tss_len]; exact Nat.le_refl _), z_tss_len]
  simp
theorem z_tat_old (τ : List z_TN) (t : z_TN) {i : Nat} (hi : i < τ.length) : z_tat (τ ++ [t]) i = z_tat τ i := by
  unfold z_tat
  rw [List.getD_eq_getElem?_getD, List.getD_eq_getElem?_getD, List.getElem?_append_left hi]
theorem z_tat_new (τ : List z_TN) (t : z_TN) : z_tat (τ ++ [t]) τ.length = t := by
  unfold z_tat
  rw [List.getD_eq_getElem?_getD, List.getElem?_append_right (Nat.le_refl _)]
  simp
/-- nodes as they should be -/
def z_tW (nc : Nat) (τ : List z_TN) : Prop := τ.length ≤ 150 ∧ ∀ i, i < τ.length → z_wN nc (z_tat τ i).1 ∧ z_tn (z_tat τ i) ≤ 3 ∧ ∀ q, q < z_tn (z_tat τ i) → z_tq (z_tat τ i) q < i
theorem z_tW_add {nc : Nat} {τ : List z_TN} {t : z_TN} (h : z_tW nc τ) (hl : τ.length < 150) (ht : z_wN nc t.1) (h3 : z_tn t ≤ 3) (hp : ∀ q, q < z_tn t → z_tq t q < τ.length) : z_tW nc (τ ++ [t]) := by
  refine ⟨by rw [List.length_append]; exact hl, fun i hi => ?_⟩
  rw [List.length_append] at hi
  rcases Nat.lt_succ_iff_lt_or_eq.mp (show i < τ.length + 1 from hi) with h1 | h1
  · rw [z_tat_old τ t h1]; exact h.2 i h1
  · rw [h1, z_tat_new]; exact ⟨ht, h3, hp⟩
/-- the class's told nodes -/
def z_cT (m : z_m) (τ : List z_TN) : Prop := m 1 6 = nI τ.length ∧ ∀ i, i < τ.length → m 2 i = (z_tat τ i).1.1 ∧ m 3 i = (z_tat τ i).1.2.1 ∧ m 4 i = nI (z_tn (z_tat τ i)) ∧ (∀ q, q < z_tn (z_tat τ i) → m 5 (i * 3 + q) = nI (z_tq (z_tat τ i) q)) ∧ m 6 i = nI (min 61 (z_ts τ i))
/-- the reference's told nodes -/
def z_mT (m : z_m) (τ : List z_TN) : Prop := m 2390 4 = nI τ.length ∧ ∀ i, i < τ.length → m 2392 i = (z_tat τ i).1.1 ∧ m 2393 i = (z_tat τ i).1.2.1 ∧ m 2394 i = (z_tat τ i).1.2.2 ∧ (∀ q, q < z_tn (z_tat τ i) → m 2395 (3 * i + q) = nI (z_tq (z_tat τ i) q)) ∧ m 2396 i = nI (min 1000 (z_ts τ i))
section
variable {S : z_S} {m : z_m} {τ : List z_TN}
/-- Told.addPart -/
theorem f121_n (i : Int32) : f121 1 i (-1) (z_hp S m) = some ((), z_hp S m) := by
  unfold f121
  simp (disch := ((try simp only [true_or, or_true]) <;> (try omega))) only [↓reduceIte, ↓z_ite, ↓zR, ↓zB_R, ↓zB_B, ↓zB_ite, ↓zB_gI, ↓zB_pI, ↓zB_pZ, ↓zB_aK, ↓zB_G, ↓zB_lI, ↓zB_lZ, ↓zB_wI, ↓zB_wZ, ↓zB_lIl, ↓zB_wIl, zB_pI, zB_pZ, zB_lI, zB_lZ, zB_wI, zB_wZ, z_addl, z_ladd, z_mull, z_lmul, nI_add, z_subl, Nat.not_lt_zero, z_10, z_01, z_bitc, z_b0, z_b1, ↓zB_Gb, ↓zB_G0, ↓zB_G1, z_eql, z_leq, z_ltl, z_llt, z_eq, z_lt, z_m1lt]
theorem f121_sp (hX : z_XS S) {i j p w v : Nat} (hi : i < 150) (hj : j < 150) (hp : p < 3) (h4 : m 4 i = nI p) (hji : j ≠ i) (h6 : m 6 i = nI w) (h6j : m 6 j = nI v) (hw : w ≤ 61) (hv : v ≤ 61) : f121 1 (nI i) (nI j) (z_hp S m) = some ((), z_hp S (z_up (z_up (z_up m 5 (i * 3 + p) (nI j)) 4 i (nI (p + 1))) 6 i (nI (min 61 (w + v))))) := by
  have hne : ¬ nI j = -1 := z_nI_m1 (by omega)
  have a1 : z_up m 5 (i * 3 + p) (nI j) 4 i = nI p := by rw [z_up_a (by decide)]; exact h4
  have a2 : z_up (z_up m 5 (i * 3 + p) (nI j)) 4 i (nI (p + 1)) 6 i = nI w := by rw [z_up_a (by decide), z_up_a (by decide)]; exact h6
  have a3 : z_up (z_up m 5 (i * 3 + p) (nI j)) 4 i (nI (p + 1)) 6 j = nI v := by rw [z_up_a (by decide), z_up_a (by decide)]; exact h6j
  unfold f121
  simp (disch := ((try simp only [true_or, or_true, hX.k1, hX.k2, hX.k3, hX.k4, hX.k5, hX.k6, hX.k7, hX.l2, hX.l3, hX.l4, hX.l5, hX.l6, hX.l7]) <;> (try omega))) only [↓reduceIte, ↓z_ite, ↓zR, ↓zB_R, ↓zB_B, ↓zB_ite, ↓zB_gI, ↓zB_pI, ↓zB_pZ, ↓zB_aK, ↓zB_G, ↓zB_lI, ↓zB_lZ, ↓zB_wI, ↓zB_wZ, ↓zB_lIl, ↓zB_wIl, zB_pI, zB_pZ, zB_lI, zB_lZ, zB_wI, zB_wZ, z_addl, z_ladd, z_mull, z_lmul, nI_add, z_subl, Nat.not_lt_zero, z_10, z_01, z_bitc, z_b0, z_b1, ↓zB_Gb, ↓zB_G0, ↓zB_G1, z_eql, z_leq, z_ltl, z_llt, z_eq, z_lt, z_m1lt, hX.k1, hX.k2, hX.k3, hX.k4, hX.k5, hX.k6, hX.k7, hX.l2, hX.l3, hX.l4, hX.l5, hX.l6, hX.l7, ↓hX.g1_0, ↓hX.g1_1, ↓hX.g1_2, ↓hX.g1_3, ↓hX.g1_4, ↓hX.g1_5, hne, h4, a1, a2, a3]
  have : (if w + v < 61 then nI (w + v) else 61) = nI (min 61 (w + v)) := by
    split
    · rename_i g; rw [Nat.min_eq_right (by omega)]
    · rename_i g; rw [Nat.min_eq_left (by omega)]; rfl
  rw [this]
/-- a new node, some of its parts laid -/
def z_NP (m m' : z_m) (τ : List z_TN) (t : z_TN) (n : Nat) : Prop := (m' 2 τ.length = t.1.1 ∧ m' 3 τ.length = t.1.2.1 ∧ m' 4 τ.length = nI n ∧ (∀ q, q < n → m' 5 (τ.length * 3 + q) = nI (z_tq t q)) ∧ m' 6 τ.length = nI (min 61 (1 + z_su (fun q => z_ts τ (z_tq t q)) n))) ∧ (∀ a, a ≠ 2 → a ≠ 3 → a ≠ 4 → a ≠ 5 → a ≠ 6 → m' a = m a) ∧ (∀ a i, i < τ.length → a ≠ 5 → m' a i = m a i) ∧ ∀ i, i < τ.length * 3 → m' 5 i = m 5 i
theorem z_NP_step (hX : z_XS S) (h : z_cT m τ) (hl : τ.length < 150) {t : z_TN} {n : Nat} (hn : n < 3) {m' : z_m} (hN : z_NP m m' τ t n) (hq : z_tq t n < τ.length) : ∃ m'', f121 1 (nI τ.length) (nI (z_tq t n)) (z_hp S m') = some ((), z_hp S m'') ∧ z_NP m m'' τ t (n + 1) := by
  obtain ⟨⟨h1, h2, h3, h4, h5⟩, h6, h7, h8⟩ := hN
  have h9 : m' 6 (z_tq t n) = nI (min 61 (z_ts τ (z_tq t n))) := by
    rw [h7 6 _ hq (by decide)]
    exact (h.2 _ hq).2.2.2.2
  refine ⟨_, f121_sp hX hl (by omega) hn h3 (by omega) h5 h9 (Nat.min_le_left _ _) (Nat.min_le_left _ _), ⟨?_, ?_, ?_, fun q hq2 => ?_, ?_⟩, fun a g1 g2 g3 g4 g5 => ?_, fun a i hi ha => ?_, fun i hi => ?_⟩
  · rw [z_up_a (by decide), z_up_a (by decide), z_up_a (by decide)]; exact h1
  · rw [z_up_a (by decide), z_up_a (by decide), z_up_a (by decide)]; exact h2
  · rw [z_up_a (by decide), z_up_s]
  · rw [z_up_a (by decide), z_up_a (by decide)]
    rcases Nat.lt_succ_iff_lt_or_eq.mp hq2 with g | g
    · rw [z_up_b (by omega)]; exact h4 q g
    · rw [g, z_up_s]
  · rw [z_up_s]
    congr 1
    show min 61 (min 61 (1 + z_su (fun q => z_ts τ (z_tq t q)) n) + min 61 (z_ts τ (z_tq t n))) = min 61 (1 + (z_su (fun q => z_ts τ (z_tq t q)) n + z_ts τ (z_tq t n)))
    omega
  · rw [z_up_row g5, z_up_row g3, z_up_row g4]; exact h6 a g1 g2 g3 g4 g5
  · rw [z_up_b (by omega), z_up_b (by omega), z_up_a ha]; exact h7 a i hi ha
  · rw [z_up_a (by decide), z_up_a (by decide), z_up_b (by omega)]; exact h8 i hi
theorem z_cT_new {nc : Nat} (hW : z_tW nc τ) (h : z_cT m τ) {t : z_TN} {m' : z_m} (hN : z_NP m m' τ t (z_tn t)) : z_cT (z_up m' 1 6 (nI (τ.length + 1))) (τ ++ [t]) := by
  obtain ⟨⟨h1, h2, h3, h4, h5⟩, h6, h7, h8⟩ := hN
  refine ⟨by rw [z_up_s, List.length_append]; rfl, fun i hi => ?_⟩
  rw [List.length_append] at hi
  rw [z_up_row (by decide), z_up_row (by decide), z_up_row (by decide), z_up_row (by decide), z_up_row (by decide)]
  rcases Nat.lt_succ_iff_lt_or_eq.mp (show i < τ.length + 1 from hi) with g | g
  · rw [z_tat_old τ t g, z_ts_old τ t g, h7 2 i g (by decide), h7 3 i g (by decide), h7 4 i g (by decide), h7 6 i g (by decide)]
    obtain ⟨a1, a2, a3, a4, a5⟩ := h.2 i g
    exact ⟨a1, a2, a3, fun q hq => by
      rcases Nat.lt_or_ge (i * 3 + q) (τ.length * 3) with g2 | g2
      · rw [h8 _ g2]; exact a4 q hq
      · exfalso
        have := (hW.2 i g).2.1
        omega, a5⟩
  · rw [g, z_tat_new, z_ts_new]
    exact ⟨h1, h2, h3, h4, h5⟩
end
