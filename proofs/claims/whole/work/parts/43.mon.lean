/-! functions on the heap, and rules that read a program off the code along with them -/
abbrev m_M (α : Type) := q_H → Option (α × q_H)
def m_B {α β : Type} (m : m_M α) (f : α → m_M β) : m_M β := fun h => match m h with
  | none => none
  | some (a, h1) => f a h1
theorem m_B_some {α β : Type} {m : m_M α} {f : α → m_M β} {h : q_H} {r : β × q_H} (e : m_B m f h = some r) : ∃ a h1, m h = some (a, h1) ∧ f a h1 = some r := by
  unfold m_B at e
  split at e
  · cases e
  · rename_i a h1 he; exact ⟨a, h1, he, e⟩
def m_R {α : Type} (a : α) : m_M α := fun h => some (a, h)
theorem m_R_inv {α : Type} {a : α} {h : q_H} {x : α × q_H} (e : m_R a h = some x) : x = (a, h) := (Option.some.inj e).symm
def m_G (c : Prop) [Decidable c] : m_M Unit := fun h => if c then some ((), h) else none
theorem m_G_some {α : Type} {c : Prop} [Decidable c] {f : Unit → m_M α} {h : q_H} {r : α × q_H} (e : m_B (m_G c) f h = some r) : c ∧ f () h = some r := by
  obtain ⟨a, h1, e1, e2⟩ := m_B_some e
  unfold m_G at e1
  split at e1
  · rename_i g; cases e1; exact ⟨g, e2⟩
  · cases e1
def m_aK (r k : Nat) : m_M Unit := fun h => if q_kd h r = k then some ((), h) else none
theorem m_aK_some {α : Type} {r k : Nat} {f : Unit → m_M α} {h : q_H} {x : α × q_H} (e : m_B (m_aK r k) f h = some x) : q_kd h r = k ∧ f () h = some x := by
  obtain ⟨a, h1, e1, e2⟩ := m_B_some e
  unfold m_aK at e1
  split at e1
  · rename_i g; cases e1; exact ⟨g, e2⟩
  · cases e1
def m_thr {α : Type} (E : Nat) : m_M (α ⊕ Nat) := fun h => some (.inr E, q_ex1 h)
def m_T {α β : Type} (m : m_M (α ⊕ Nat)) (f : α → m_M β) (e : Nat → m_M β) : m_M β := fun h => match m h with
  | none => none
  | some (.inl a, h1) => f a h1
  | some (.inr E, h1) => e E h1
theorem m_T_some {α β : Type} {m : m_M (α ⊕ Nat)} {f : α → m_M β} {e : Nat → m_M β} {h : q_H} {r : β × q_H} (g : m_T m f e h = some r) : (∃ a h1, m h = some (.inl a, h1) ∧ f a h1 = some r) ∨ (∃ E h1, m h = some (.inr E, h1) ∧ e E h1 = some r) := by
  unfold m_T at g
  split at g
  · cases g
  · rename_i a h1 he; exact Or.inl ⟨a, h1, he, g⟩
  · rename_i E h1 he; exact Or.inr ⟨E, h1, he, g⟩
def m_W {σ R : Type} (f : σ → m_M (σ ⊕ R)) : Nat → σ → m_M R
  | 0, _ => fun _ => none
  | n + 1, s => m_B (f s) (fun x => match x with
    | .inl s' => m_W f n s'
    | .inr r => m_R r)
def m_yK {σ R : Type} (P : σ → q_H → Prop) (K : R × q_H → Prop) (x : (σ ⊕ R) × q_H) : Prop := match x with
  | (.inl s, h) => P s h
  | (.inr r, h) => K (r, h)
theorem m_W_ok {σ R : Type} {f : σ → m_M (σ ⊕ R)} {P : σ → q_H → Prop} {K : R × q_H → Prop} (hb : ∀ s h x, f s h = some x → m_yK P K x → P s h) : ∀ (n : Nat) (s : σ) (h : q_H) (r : R × q_H), m_W f n s h = some r → K r → P s h
  | 0, _, _, _, h, _ => by cases h
  | n + 1, s, h, r, e, hK => by
    unfold m_W at e
    obtain ⟨a, h1, e1, e2⟩ := m_B_some e
    cases a with
    | inl s' => exact hb s h _ e1 (m_W_ok hb n s' h1 r e2 hK)
    | inr r' =>
      have := m_R_inv e2
      subst this
      exact hb s h _ e1 hK
/-- out of a loop -/
theorem m_inr_some {σ R : Type} {m : m_M R} {h : q_H} {x : (σ ⊕ R) × q_H} (e : m_B m (fun r => m_R (Sum.inr r)) h = some x) : ∃ r, m h = some r ∧ x = (.inr r.1, r.2) := by
  obtain ⟨a, h1, e1, e2⟩ := m_B_some e
  exact ⟨(a, h1), e1, m_R_inv e2⟩
abbrev m_KU (o : q_O) (h2 : q_H) (r : Unit × q_H) : Prop := o = .inl none ∧ h2 = r.2
theorem m_iteA {α : Type} {c : Prop} [Decidable c] {X Y : m_M α} {h : q_H} {r : α × q_H} (e : (if c then X else Y) h = some r) : (if c then X h else Y h) = some r := by
  split at e <;> rename_i g
  · rw [if_pos g]; exact e
  · rw [if_neg g]; exact e
theorem m_iteM {α : Type} {c : Prop} [Decidable c] {X Y : m_M α} {h : q_H} {r : α × q_H} (e : (if c then X else Y) h = some r) : (c ∧ X h = some r) ∨ (¬ c ∧ Y h = some r) := by
  split at e <;> rename_i g
  · exact Or.inl ⟨g, e⟩
  · exact Or.inr ⟨g, e⟩
section QEM
variable {sc : Option (Nat × (Nat → Int32))} {y pc : Nat} {L : List (Nat × Value)} {st : List Value} {h h2 : q_H} {o : q_O} {α : Type} {z : α × q_H}
def m_gI (k r j : Nat) : m_M Int32 := fun h => if q_kd h r = k then some (q_im h r j, h) else none
theorem em_gI {cp a b k : Nat} {f : Int32 → m_M α} (hc : q_code y pc = some (.getfield cp, 3, a, b)) (hb : b < 13) (hg : q_fg b a < 2) (hf : m_B (m_gI b k a) f h = some z) (kk : ∀ v, f v h = some z → q_Ev sc y (pc + 3) L (.int v :: st) h o h2) : q_Ev sc y pc L (.ref k :: st) h o h2 := by
  obtain ⟨v, h1, e, hf⟩ := m_B_some hf
  unfold m_gI at e
  split at e
  · rename_i g
    cases e
    exact ev_getI hc g hb hg (kk _ hf)
  · cases e
def m_gR (k r j : Nat) : m_M Nat := fun h => if q_kd h r = k then (q_rm h r j).map (fun v => (v, h)) else none
theorem em_gR {cp a b k : Nat} {f : Nat → m_M α} (hc : q_code y pc = some (.getfield cp, 3, a, b)) (hb : b < 13) (hg : q_fg b a = 2) (hf : m_B (m_gR b k a) f h = some z) (kk : ∀ v, f v h = some z → q_Ev sc y (pc + 3) L (.ref v :: st) h o h2) : q_Ev sc y pc L (.ref k :: st) h o h2 := by
  obtain ⟨v, h1, e, hf⟩ := m_B_some hf
  unfold m_gR at e
  split at e
  · rename_i g
    obtain ⟨r, e1, e2⟩ := Option.map_eq_some_iff.mp e
    cases e2
    exact ev_getR hc g hb hg e1 (kk _ hf)
  · cases e
def m_pI (k r j : Nat) (v : Int32) : m_M Unit := fun h => if q_kd h r = k then some ((), q_si h r j v) else none
theorem em_pI {cp a b k : Nat} {x : Int32} {f : Unit → m_M α} (hc : q_code y pc = some (.putfield cp, 3, a, b)) (hb : b < 13) (hok : (!(q_fin b a) || ((q_mr y).2.2.1 && (q_mr y).1 == b)) = true) (hg : q_fg b a = 0) (hf : m_B (m_pI b k a x) f h = some z) (kk : f () (q_si h k a x) = some z → q_Ev sc y (pc + 3) L (st) (q_si h k a x) o h2) : q_Ev sc y pc L (.int x :: .ref k :: st) h o h2 := by
  obtain ⟨v, h1, e, hf⟩ := m_B_some hf
  unfold m_pI at e
  split at e
  · rename_i g
    cases e
    exact ev_putI hc g hb hok hg (kk hf)
  · cases e
def m_pZ (k r j : Nat) (v : Int32) : m_M Unit := fun h => if q_kd h r = k ∧ (v = 0 ∨ v = 1) then some ((), q_si h r j v) else none
theorem em_pZ {cp a b k : Nat} {x : Int32} {f : Unit → m_M α} (hc : q_code y pc = some (.putfield cp, 3, a, b)) (hb : b < 13) (hok : (!(q_fin b a) || ((q_mr y).2.2.1 && (q_mr y).1 == b)) = true) (hg : q_fg b a = 1) (hf : m_B (m_pZ b k a x) f h = some z) (kk : f () (q_si h k a x) = some z → q_Ev sc y (pc + 3) L (st) (q_si h k a x) o h2) : q_Ev sc y pc L (.int x :: .ref k :: st) h o h2 := by
  obtain ⟨v, h1, e, hf⟩ := m_B_some hf
  unfold m_pZ at e
  split at e
  · rename_i g
    cases e
    exact ev_putZ hc g.1 hb hok hg g.2 (kk hf)
  · cases e
def m_pR (k r j v : Nat) : m_M Unit := fun h => if q_kd h r = k then some ((), q_sr h r j (some v)) else none
theorem em_pR {cp a b k x : Nat} {f : Unit → m_M α} (hc : q_code y pc = some (.putfield cp, 3, a, b)) (hb : b < 13) (hok : (!(q_fin b a) || ((q_mr y).2.2.1 && (q_mr y).1 == b)) = true) (hg : q_fg b a = 2) (hf : m_B (m_pR b k a x) f h = some z) (kk : f () (q_sr h k a (some x)) = some z → q_Ev sc y (pc + 3) L (st) (q_sr h k a (some x)) o h2) : q_Ev sc y pc L (.ref x :: .ref k :: st) h o h2 := by
  obtain ⟨v, h1, e, hf⟩ := m_B_some hf
  unfold m_pR at e
  split at e
  · rename_i g
    cases e
    exact ev_putR hc g hb hok hg (kk hf)
  · cases e
def m_lI (r : Nat) (i : Int32) : m_M Int32 := fun h => if q_kd h r = 20 ∧ q_ins i (q_ln h r) = true then some (q_im h r i.toNatClampNeg, h) else none
theorem em_lI {a b k : Nat} {i : Int32} {f : Int32 → m_M α} (hc : q_code y pc = some (.iaload, 1, a, b)) (hb : b < 1000) (hf : m_B (m_lI k i) f h = some z) (kk : ∀ v, f v h = some z → q_Ev none y (pc + 1) L (.int v :: st) h o h2) : q_Ev none y pc L (.int i :: .ref k :: st) h o h2 := by
  obtain ⟨v, h1, e, hf⟩ := m_B_some hf
  unfold m_lI at e
  split at e
  · rename_i g
    cases e
    exact ev_iald hc hb g.1 g.2 (kk _ hf)
  · cases e
def m_lZ (r : Nat) (i : Int32) : m_M Int32 := fun h => if q_kd h r = 21 ∧ q_ins i (q_ln h r) = true then some (q_im h r i.toNatClampNeg, h) else none
theorem em_lZ {a b k : Nat} {i : Int32} {f : Int32 → m_M α} (hc : q_code y pc = some (.baload, 1, a, b)) (hb : b < 1000) (hf : m_B (m_lZ k i) f h = some z) (kk : ∀ v, f v h = some z → q_Ev sc y (pc + 1) L (.int v :: st) h o h2) : q_Ev sc y pc L (.int i :: .ref k :: st) h o h2 := by
  obtain ⟨v, h1, e, hf⟩ := m_B_some hf
  unfold m_lZ at e
  split at e
  · rename_i g
    cases e
    exact ev_bald hc hb g.1 g.2 (kk _ hf)
  · cases e
def m_lJ (r : Nat) (i : Int32) : m_M Int64 := fun h => if q_kd h r = 22 ∧ q_ins i (q_ln h r) = true then some (q_jm h r i.toNatClampNeg, h) else none
theorem em_lJ {a b k : Nat} {i : Int32} {f : Int64 → m_M α} (hc : q_code y pc = some (.laload, 1, a, b)) (hb : b < 1000) (hf : m_B (m_lJ k i) f h = some z) (kk : ∀ v, f v h = some z → q_Ev sc y (pc + 1) L (.long v :: st) h o h2) : q_Ev sc y pc L (.int i :: .ref k :: st) h o h2 := by
  obtain ⟨v, h1, e, hf⟩ := m_B_some hf
  unfold m_lJ at e
  split at e
  · rename_i g
    cases e
    exact ev_jald hc hb g.1 g.2 (kk _ hf)
  · cases e
def m_lR (r : Nat) (i : Int32) : m_M Nat := fun h => if (q_kd h r = 23 ∨ q_kd h r = 24) ∧ q_ins i (q_ln h r) = true then (q_rm h r i.toNatClampNeg).map (fun v => (v, h)) else none
theorem em_lR {a b k : Nat} {i : Int32} {f : Nat → m_M α} (hc : q_code y pc = some (.aaload, 1, a, b)) (hb : b < 1000) (hf : m_B (m_lR k i) f h = some z) (kk : ∀ v, f v h = some z → q_Ev sc y (pc + 1) L (.ref v :: st) h o h2) : q_Ev sc y pc L (.int i :: .ref k :: st) h o h2 := by
  obtain ⟨v, h1, e, hf⟩ := m_B_some hf
  unfold m_lR at e
  split at e
  · rename_i g
    obtain ⟨r, e1, e2⟩ := Option.map_eq_some_iff.mp e
    cases e2
    exact ev_aald hc hb g.1 g.2 e1 (kk _ hf)
  · cases e
def m_wI (r : Nat) (i v : Int32) : m_M Unit := fun h => if q_kd h r = 20 ∧ q_ins i (q_ln h r) = true then some ((), q_si h r i.toNatClampNeg v) else none
theorem em_wI {a b k : Nat} {i x : Int32} {f : Unit → m_M α} (hc : q_code y pc = some (.iastore, 1, a, b)) (hb : b < 1000) (hf : m_B (m_wI k i x) f h = some z) (kk : f () (q_si h k i.toNatClampNeg x) = some z → q_Ev sc y (pc + 1) L (st) (q_si h k i.toNatClampNeg x) o h2) : q_Ev sc y pc L (.int x :: .int i :: .ref k :: st) h o h2 := by
  obtain ⟨v, h1, e, hf⟩ := m_B_some hf
  unfold m_wI at e
  split at e
  · rename_i g
    cases e
    exact ev_iast hc hb g.1 g.2 (kk hf)
  · cases e
def m_wZ (r : Nat) (i v : Int32) : m_M Unit := fun h => if (q_kd h r = 21 ∧ q_ins i (q_ln h r) = true) ∧ (v = 0 ∨ v = 1) then some ((), q_si h r i.toNatClampNeg v) else none
theorem em_wZ {a b k : Nat} {i x : Int32} {f : Unit → m_M α} (hc : q_code y pc = some (.bastore, 1, a, b)) (hb : b < 1000) (hf : m_B (m_wZ k i x) f h = some z) (kk : f () (q_si h k i.toNatClampNeg x) = some z → q_Ev sc y (pc + 1) L (st) (q_si h k i.toNatClampNeg x) o h2) : q_Ev sc y pc L (.int x :: .int i :: .ref k :: st) h o h2 := by
  obtain ⟨v, h1, e, hf⟩ := m_B_some hf
  unfold m_wZ at e
  split at e
  · rename_i g
    cases e
    exact ev_bast hc hb g.1.1 g.1.2 g.2 (kk hf)
  · cases e
def m_wJ (r : Nat) (i : Int32) (v : Int64) : m_M Unit := fun h => if q_kd h r = 22 ∧ q_ins i (q_ln h r) = true then some ((), q_sj h r i.toNatClampNeg v) else none
theorem em_wJ {a b k : Nat} {i : Int32} {x : Int64} {f : Unit → m_M α} (hc : q_code y pc = some (.lastore, 1, a, b)) (hb : b < 1000) (hf : m_B (m_wJ k i x) f h = some z) (kk : f () (q_sj h k i.toNatClampNeg x) = some z → q_Ev sc y (pc + 1) L (st) (q_sj h k i.toNatClampNeg x) o h2) : q_Ev sc y pc L (.long x :: .int i :: .ref k :: st) h o h2 := by
  obtain ⟨v, h1, e, hf⟩ := m_B_some hf
  unfold m_wJ at e
  split at e
  · rename_i g
    cases e
    exact ev_jast hc hb g.1 g.2 (kk hf)
  · cases e
def m_wR (r : Nat) (i : Int32) (v : Nat) : m_M Unit := fun h => if ((q_kd h r = 23 ∧ q_kd h v = 7) ∨ (q_kd h r = 24 ∧ q_kd h v = 0)) ∧ q_ins i (q_ln h r) = true then some ((), q_sr h r i.toNatClampNeg (some v)) else none
theorem em_wR {a b k x : Nat} {i : Int32} {f : Unit → m_M α} (hc : q_code y pc = some (.aastore, 1, a, b)) (hb : b < 1000) (hf : m_B (m_wR k i x) f h = some z) (kk : f () (q_sr h k i.toNatClampNeg (some x)) = some z → q_Ev sc y (pc + 1) L (st) (q_sr h k i.toNatClampNeg (some x)) o h2) : q_Ev sc y pc L (.ref x :: .int i :: .ref k :: st) h o h2 := by
  obtain ⟨v, h1, e, hf⟩ := m_B_some hf
  unfold m_wR at e
  split at e
  · rename_i g
    cases e
    exact ev_aast hc hb g.1 g.2 (kk hf)
  · cases e
def m_cp (k0 : Nat) (sp : Int32) (k1 : Nat) (dp n : Int32) : m_M Unit := fun h => if (q_kd h k0 = 20 ∧ q_kd h k1 = 20) ∧ (¬ sp < 0 ∧ ¬ dp < 0 ∧ ¬ n < 0) ∧ (sp.toNatClampNeg + n.toNatClampNeg ≤ q_ln h k0 ∧ dp.toNatClampNeg + n.toNatClampNeg ≤ q_ln h k1) then some ((), q_cpyH h k0 k1 sp.toNatClampNeg dp.toNatClampNeg n.toNatClampNeg) else none
theorem em_cp {cp a k0 k1 : Nat} {sp dp n : Int32} {f : Unit → m_M α} (hc : q_code y pc = some (.invokestatic cp, 3, a, 13)) (hs : q_sum st ≤ 8) (hf : m_B (m_cp k0 sp k1 dp n) f h = some z) (kk : f () (q_cpyH h k0 k1 sp.toNatClampNeg dp.toNatClampNeg n.toNatClampNeg) = some z → q_Ev sc y (pc + 3) L (st) (q_cpyH h k0 k1 sp.toNatClampNeg dp.toNatClampNeg n.toNatClampNeg) o h2) : q_Ev sc y pc L (.int n :: .int dp :: .ref k1 :: .int sp :: .ref k0 :: st) h o h2 := by
  obtain ⟨v, h1, e, hf⟩ := m_B_some hf
  unfold m_cp at e
  split at e
  · rename_i g
    cases e
    exact ev_copy hc g hs (kk hf)
  · cases e
def m_nO (a : Nat) : m_M Nat := fun h => if q_n h < q_SC then some (q_n h, q_mk h a (q_NF a)) else none
theorem em_nO {cp a : Nat} {f : Nat → m_M α} (hc : q_code y pc = some (.new cp, 3, a, 0)) (ha : a < 13) (hf : m_B (m_nO a) f h = some z) (kk : ∀ v h1, f v h1 = some z → q_Ev sc y (pc + 3) L (.ref v :: st) h1 o h2) : q_Ev sc y pc L st h o h2 := by
  obtain ⟨v, h1, e, hf⟩ := m_B_some hf
  unfold m_nO at e
  split at e
  · rename_i g
    cases e
    exact ev_newo hc ha g (kk _ _ hf)
  · cases e
def m_nA (k : Nat) (x : Int32) : m_M Nat := fun h => if ¬ x < 0 ∧ x.toNatClampNeg ≤ 1000000 ∧ q_n h < q_SC then some (q_n h, q_mk h k x.toNatClampNeg) else none
theorem em_nI {a b : Nat} {x : Int32} {f : Nat → m_M α} (hc : q_code y pc = some (.newarray .int, 2, a, b)) (hb : b < 1000) (hf : m_B (m_nA 20 x) f h = some z) (kk : ∀ v h1, f v h1 = some z → q_Ev sc y (pc + 2) L (.ref v :: st) h1 o h2) : q_Ev sc y pc L (.int x :: st) h o h2 := by
  obtain ⟨v, h1, e, hf⟩ := m_B_some hf
  unfold m_nA at e
  split at e
  · rename_i g
    cases e
    exact ev_newi hc hb g (kk _ _ hf)
  · cases e
theorem em_nZ {a b : Nat} {x : Int32} {f : Nat → m_M α} (hc : q_code y pc = some (.newarray .boolean, 2, a, b)) (hb : b < 1000) (hf : m_B (m_nA 21 x) f h = some z) (kk : ∀ v h1, f v h1 = some z → q_Ev sc y (pc + 2) L (.ref v :: st) h1 o h2) : q_Ev sc y pc L (.int x :: st) h o h2 := by
  obtain ⟨v, h1, e, hf⟩ := m_B_some hf
  unfold m_nA at e
  split at e
  · rename_i g
    cases e
    exact ev_newz hc hb g (kk _ _ hf)
  · cases e
theorem em_nJ {a b : Nat} {x : Int32} {f : Nat → m_M α} (hc : q_code y pc = some (.newarray .long, 2, a, b)) (hb : b < 1000) (hf : m_B (m_nA 22 x) f h = some z) (kk : ∀ v h1, f v h1 = some z → q_Ev sc y (pc + 2) L (.ref v :: st) h1 o h2) : q_Ev sc y pc L (.int x :: st) h o h2 := by
  obtain ⟨v, h1, e, hf⟩ := m_B_some hf
  unfold m_nA at e
  split at e
  · rename_i g
    cases e
    exact ev_newj hc hb g (kk _ _ hf)
  · cases e
theorem em_nR {cp a b : Nat} {x : Int32} {f : Nat → m_M α} (hc : q_code y pc = some (.anewarray cp, 3, a, b)) (hb : b < 1000) (ha : a = 3 ∨ a = 4) (hf : m_B (m_nA (20 + a) x) f h = some z) (kk : ∀ v h1, f v h1 = some z → q_Ev sc y (pc + 3) L (.ref v :: st) h1 o h2) : q_Ev sc y pc L (.int x :: st) h o h2 := by
  obtain ⟨v, h1, e, hf⟩ := m_B_some hf
  unfold m_nA at e
  split at e
  · rename_i g
    cases e
    exact ev_newr hc hb ha g (kk _ _ hf)
  · cases e
theorem em_if_eq {x : Int32} {X Y : m_M α} {off : Int} {t b : Nat} (hc : q_code y pc = some (.ifCond .eq off, 3, t, b)) (hb : b < 1000) (hf : (if x = 0 then X else Y) h = some z) (k1 : x = 0 → X h = some z → q_Ev sc y t L st h o h2) (k2 : ¬ x = 0 → Y h = some z → q_Ev sc y (pc + 3) L st h o h2) : q_Ev sc y pc L (.int x :: st) h o h2 := ev_if_eq hc hb (m_iteA hf) k1 k2
theorem em_ic_eq {x w : Int32} {X Y : m_M α} {off : Int} {t b : Nat} (hc : q_code y pc = some (.if_icmp .eq off, 3, t, b)) (hb : b < 1000) (hf : (if x = w then X else Y) h = some z) (k1 : x = w → X h = some z → q_Ev sc y t L st h o h2) (k2 : ¬ x = w → Y h = some z → q_Ev sc y (pc + 3) L st h o h2) : q_Ev sc y pc L (.int w :: .int x :: st) h o h2 := ev_ic_eq hc hb (m_iteA hf) k1 k2
theorem em_if_ne {x : Int32} {X Y : m_M α} {off : Int} {t b : Nat} (hc : q_code y pc = some (.ifCond .ne off, 3, t, b)) (hb : b < 1000) (hf : (if x = 0 then X else Y) h = some z) (k1 : x = 0 → X h = some z → q_Ev sc y (pc + 3) L st h o h2) (k2 : ¬ x = 0 → Y h = some z → q_Ev sc y t L st h o h2) : q_Ev sc y pc L (.int x :: st) h o h2 := ev_if_ne hc hb (m_iteA hf) k1 k2
theorem em_ic_ne {x w : Int32} {X Y : m_M α} {off : Int} {t b : Nat} (hc : q_code y pc = some (.if_icmp .ne off, 3, t, b)) (hb : b < 1000) (hf : (if x = w then X else Y) h = some z) (k1 : x = w → X h = some z → q_Ev sc y (pc + 3) L st h o h2) (k2 : ¬ x = w → Y h = some z → q_Ev sc y t L st h o h2) : q_Ev sc y pc L (.int w :: .int x :: st) h o h2 := ev_ic_ne hc hb (m_iteA hf) k1 k2
theorem em_if_lt {x : Int32} {X Y : m_M α} {off : Int} {t b : Nat} (hc : q_code y pc = some (.ifCond .lt off, 3, t, b)) (hb : b < 1000) (hf : (if x < 0 then X else Y) h = some z) (k1 : x < 0 → X h = some z → q_Ev sc y t L st h o h2) (k2 : ¬ x < 0 → Y h = some z → q_Ev sc y (pc + 3) L st h o h2) : q_Ev sc y pc L (.int x :: st) h o h2 := ev_if_lt hc hb (m_iteA hf) k1 k2
theorem em_ic_lt {x w : Int32} {X Y : m_M α} {off : Int} {t b : Nat} (hc : q_code y pc = some (.if_icmp .lt off, 3, t, b)) (hb : b < 1000) (hf : (if x < w then X else Y) h = some z) (k1 : x < w → X h = some z → q_Ev sc y t L st h o h2) (k2 : ¬ x < w → Y h = some z → q_Ev sc y (pc + 3) L st h o h2) : q_Ev sc y pc L (.int w :: .int x :: st) h o h2 := ev_ic_lt hc hb (m_iteA hf) k1 k2
theorem em_if_ge {x : Int32} {X Y : m_M α} {off : Int} {t b : Nat} (hc : q_code y pc = some (.ifCond .ge off, 3, t, b)) (hb : b < 1000) (hf : (if x < 0 then X else Y) h = some z) (k1 : x < 0 → X h = some z → q_Ev sc y (pc + 3) L st h o h2) (k2 : ¬ x < 0 → Y h = some z → q_Ev sc y t L st h o h2) : q_Ev sc y pc L (.int x :: st) h o h2 := ev_if_ge hc hb (m_iteA hf) k1 k2
theorem em_ic_ge {x w : Int32} {X Y : m_M α} {off : Int} {t b : Nat} (hc : q_code y pc = some (.if_icmp .ge off, 3, t, b)) (hb : b < 1000) (hf : (if x < w then X else Y) h = some z) (k1 : x < w → X h = some z → q_Ev sc y (pc + 3) L st h o h2) (k2 : ¬ x < w → Y h = some z → q_Ev sc y t L st h o h2) : q_Ev sc y pc L (.int w :: .int x :: st) h o h2 := ev_ic_ge hc hb (m_iteA hf) k1 k2
theorem em_if_gt {x : Int32} {X Y : m_M α} {off : Int} {t b : Nat} (hc : q_code y pc = some (.ifCond .gt off, 3, t, b)) (hb : b < 1000) (hf : (if 0 < x then X else Y) h = some z) (k1 : 0 < x → X h = some z → q_Ev sc y t L st h o h2) (k2 : ¬ 0 < x → Y h = some z → q_Ev sc y (pc + 3) L st h o h2) : q_Ev sc y pc L (.int x :: st) h o h2 := ev_if_gt hc hb (m_iteA hf) k1 k2
theorem em_ic_gt {x w : Int32} {X Y : m_M α} {off : Int} {t b : Nat} (hc : q_code y pc = some (.if_icmp .gt off, 3, t, b)) (hb : b < 1000) (hf : (if w < x then X else Y) h = some z) (k1 : w < x → X h = some z → q_Ev sc y t L st h o h2) (k2 : ¬ w < x → Y h = some z → q_Ev sc y (pc + 3) L st h o h2) : q_Ev sc y pc L (.int w :: .int x :: st) h o h2 := ev_ic_gt hc hb (m_iteA hf) k1 k2
theorem em_if_le {x : Int32} {X Y : m_M α} {off : Int} {t b : Nat} (hc : q_code y pc = some (.ifCond .le off, 3, t, b)) (hb : b < 1000) (hf : (if 0 < x then X else Y) h = some z) (k1 : 0 < x → X h = some z → q_Ev sc y (pc + 3) L st h o h2) (k2 : ¬ 0 < x → Y h = some z → q_Ev sc y t L st h o h2) : q_Ev sc y pc L (.int x :: st) h o h2 := ev_if_le hc hb (m_iteA hf) k1 k2
theorem em_ic_le {x w : Int32} {X Y : m_M α} {off : Int} {t b : Nat} (hc : q_code y pc = some (.if_icmp .le off, 3, t, b)) (hb : b < 1000) (hf : (if w < x then X else Y) h = some z) (k1 : w < x → X h = some z → q_Ev sc y (pc + 3) L st h o h2) (k2 : ¬ w < x → Y h = some z → q_Ev sc y t L st h o h2) : q_Ev sc y pc L (.int w :: .int x :: st) h o h2 := ev_ic_le hc hb (m_iteA hf) k1 k2
theorem em_call {i : Instr} {a b : Nat} {β : Type} {m : m_M β} {v : β → Option Value} {st' : List Value} {f : β → m_M α} (hc : q_code y pc = some (i, 3, a, b)) (hr : q_ret i (q_mr y).2.2.2.2.1 st = none) (hk : q_cal i b = true) (hok : q_cok (q_mr a) st h = true) (hd : st.drop (q_mr a).2.2.2.2.2.1 = st') (hcl : ∀ x : β × q_H, m h = some x → q_Cl a (st.take (q_mr a).2.2.2.2.2.1).reverse h (.inl (v x.1)) x.2) (hf : m_B m f h = some z) (kk : ∀ u h1, f u h1 = some z → q_Ev sc y (pc + 3) L ((v u).toList ++ st') h1 o h2) : q_Ev sc y pc L st h o h2 := by
  obtain ⟨u, h1, e, hf⟩ := m_B_some hf
  subst hd
  exact ev_call hc hr hk hok (hcl _ e) (kk _ _ hf)
/-- a call that may throw -/
theorem em_callX {cp a b : Nat} {β : Type} {m : m_M (β ⊕ Nat)} {v : β → Option Value} {st' : List Value} {f : β → m_M α} {g : Nat → m_M α} (hc : q_code y pc = some (.invokevirtual cp, 3, a, b)) (hb : b < 2) (hok : q_cok (q_mr a) st h = true) (hd : st.drop (q_mr a).2.2.2.2.2.1 = st') (hcl : ∀ x : (β ⊕ Nat) × q_H, m h = some x → q_Cl a (st.take (q_mr a).2.2.2.2.2.1).reverse h (q_oX v x.1) x.2) (hh : q_hs y = []) (hf : m_T m f g h = some z) (kk : ∀ u h1, f u h1 = some z → q_Ev sc y (pc + 3) L ((v u).toList ++ st') h1 o h2) (kE : ∀ E h1, g E h1 = some z → E < 3 ∧ o = .inr E ∧ h2 = h1) : q_Ev sc y pc L st h o h2 := by
  rcases m_T_some hf with ⟨u, h1, e, hf⟩ | ⟨E, h1, e, hf⟩
  · subst hd
    exact ev_call hc rfl (decide_eq_true hb) hok (hcl _ e) (kk _ _ hf)
  · obtain ⟨hE, rfl, rfl⟩ := kE E h1 hf
    exact ev_callX hc hb hok (hcl _ e) hE hh
theorem em_throw {cp a b E : Nat} (hc : q_code y pc = some (.new cp, 3, a, b)) (hb : 1000 ≤ b) (hE : b - 1000 = E) (hh : q_hs y = []) (hs : q_sum st ≤ 8) : q_Ev sc y pc L st h (.inr E) (q_ex1 h) := hE ▸ ev_throw hc hb hh hs
theorem q_retZ {x : Int32} (g : x = 0 ∨ x = 1) : q_ret .ireturn 2 [.int x] = some (some (.int x)) := by
  dsimp only [q_ret]; rw [if_pos (Or.inr ⟨rfl, g⟩)]
end QEM
