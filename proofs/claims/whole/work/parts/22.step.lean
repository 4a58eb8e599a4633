/-! one instruction of the pure machine is one of the machine -/
def q_Fr (D : va_G) (b : Option Nat) (A : Nat → Prop) (s : State) (H0 : Heap) (ws0 : va_W) (nL : Nat) (h : q_H) (lv : List (Nat × Value)) (st : List Value) (H : Heap) (locs : List Loc) (ls : Array Slot) (str : List Value) : Prop :=
  ∃ (tys : List (ClassId × FieldType)) (ws : va_W) (lvr : List (Nat × Value)), q_Wd b tys h ws ∧ va_P D q_cl ws H ∧ va_K D q_cl tys s ∧ va_D A ws ∧ va_S A H0 H locs ∧ q_Le (q_am b ws0) (q_am b ws) ∧ lv_has ls nL lvr ∧ q_Ls (q_am b ws) lv lvr ∧ q_Vs (q_am b ws) st str ∧ (∀ q ∈ lv, q.1 < nL)
def q_Env (p : Program) (s : State) (m : MethodId) (args : Array Value) (meth : Method) (c : Code) (R : Room) (H0 : Heap) (A : Nat → Prop) (b : Option Nat) (sc : Option (Nat × (Nat → Int32))) (own : Nat) (ini : Bool) (nL : Nat) (cc : ByteArray) : Prop :=
  p.tables.exec = Jvm.exec ∧ c.code = cc ∧ c.maxLocals = nL ∧ s.vm.findClass (q_R own) = some m.cls ∧ (∀ w ∈ q_ALL, w.before args s = true) ∧ (∀ q, H0.size ≤ q → A q) ∧ 1 ≤ R.frames ∧ 60 ≤ R.locals ∧ (ini = true → meth.name = "<init>") ∧
  (∀ L xs, sc = some (L, xs) → ∃ ba, b = some ba ∧ va_X ba L xs s H0 ∧ ba < H0.size ∧ ¬ A ba) ∧ va_AO "SmithyBench$Program" s ∧ va_AO "SmithyBench$Body" s
section QSTEP
variable {p : Program} {l : Launch} {e : Env} {R : Room} {s : State} {m : MethodId} {args : Array Value} {below : List Frame} {meth : Method} {c : Code} {Q : State → Prop}
variable {D : va_G} {b : Option Nat} {A : Nat → Prop} {H0 : Heap} {ws0 : va_W} {nL k0 j0 : Nat} {sc : Option (Nat × (Nat → Int32))} {own : Nat} {ini : Bool} {cc : ByteArray}
/-- from this point of the pure machine the machine comes to Q, however the pure heap lies in its own -/
def q_Go (p : Program) (l : Launch) (e : Env) (R : Room) (s : State) (m : MethodId) (args : Array Value) (below : List Frame) (meth : Method) (c : Code) (Q : State → Prop) (D : va_G) (b : Option Nat) (A : Nat → Prop) (H0 : Heap) (ws0 : va_W) (nL k0 j0 : Nat) (pt : q_P) : Prop :=
  ∀ (H : Heap) (locs : List Loc) (ls : Array Slot) (str : List Value) (cells slots : Nat), q_Fr D b A s H0 ws0 nL pt.2.2.2 pt.2.1 pt.2.2.1 H locs ls str → cells + k0 = q_cc pt.2.2.2 → slots + j0 = q_ss pt.2.2.2 → W p l e R s m args below meth c H locs cells slots Q (F0 m pt.1 ls str)
theorem q_bin_inv {f : Int32 → Int32 → Int32} {pc : Nat} {lv : List (Nat × Value)} {st : List Value} {h : q_H} {pt : q_P} (hs : q_bin f pc lv st h = some pt) : ∃ x y r, st = .int y :: .int x :: r ∧ pt = (pc + 1, lv, .int (f x y) :: r, h) := by
  unfold q_bin at hs
  split at hs
  · cases hs; exact ⟨_, _, _, rfl, rfl⟩
  · cases hs
theorem q_lt_of {lv : List (Nat × Value)} {i : Nat} {v : Value} (h : ∀ q ∈ lv, q.1 < nL) (hk : q_lk lv i = some v) : i < nL := by
  induction lv with
  | nil => cases hk
  | cons q r ih =>
    unfold q_lk at hk
    obtain ⟨j, u⟩ := q
    rw [List.lookup_cons] at hk
    split at hk
    · rename_i hj
      rw [show i = j from by simpa using hj]
      exact h (j, u) List.mem_cons_self
    · exact ih (fun q hq => h q (List.mem_cons_of_mem _ hq)) hk
theorem q_sv_lt {lv : List (Nat × Value)} {i : Nat} {v : Value} (h : ∀ q ∈ lv, q.1 < nL) (hi : i < nL) : ∀ q ∈ q_sv lv i v, q.1 < nL := by
  intro q hq
  rcases List.mem_cons.mp hq with rfl | hq
  · exact hi
  · exact h q (List.mem_filter.mp hq).1
theorem q_lval {ls : Array Slot} {lvr : List (Nat × Value)} (hl : lv_has ls nL lvr) {k i : Nat} {x : Value} (hk : lvr[k]? = some (i, x)) : ls[i]? = some (.val x) := lv_at hl k hk
theorem q_lsz {ls : Array Slot} {lvr : List (Nat × Value)} (hl : lv_has ls nL lvr) {i : Nat} {v : Value} (h : ls[i]? = some (.val v)) : i < nL := by
  rw [← hl.1]; exact (Array.getElem?_eq_some_iff.mp h).1
theorem q_ld_inv {i len pc : Nat} {lv : List (Nat × Value)} {st : List Value} {h : q_H} {pt : q_P} (hs : q_ld i len pc lv st h true = some pt) : ∃ x, q_lk lv i = some (.int x) ∧ pt = (pc + len, lv, .int x :: st, h) := by
  unfold q_ld at hs
  split at hs
  · rename_i x hx; cases hs; exact ⟨x, hx, rfl⟩
  · cases hs
  · cases hs
theorem q_lda_inv {i len pc : Nat} {lv : List (Nat × Value)} {st : List Value} {h : q_H} {pt : q_P} (hs : q_ld i len pc lv st h false = some pt) : ∃ x, q_lk lv i = some (.ref x) ∧ pt = (pc + len, lv, .ref x :: st, h) := by
  unfold q_ld at hs
  split at hs
  · cases hs
  · rename_i x hx; cases hs; exact ⟨x, hx, rfl⟩
  · cases hs
theorem q_sto_inv {i len pc : Nat} {lv : List (Nat × Value)} {st : List Value} {h : q_H} {pt : q_P} (hs : q_sto i len pc lv st h true = some pt) : ∃ x r, st = .int x :: r ∧ pt = (pc + len, q_sv lv i (.int x), r, h) := by
  unfold q_sto at hs
  split at hs
  · cases hs; exact ⟨_, _, rfl, rfl⟩
  · cases hs
  · cases hs
theorem q_stoa_inv {i len pc : Nat} {lv : List (Nat × Value)} {st : List Value} {h : q_H} {pt : q_P} (hs : q_sto i len pc lv st h false = some pt) : ∃ x r, st = .ref x :: r ∧ pt = (pc + len, q_sv lv i (.ref x), r, h) := by
  unfold q_sto at hs
  split at hs
  · cases hs
  · cases hs; exact ⟨_, _, rfl, rfl⟩
  · cases hs
/-- a number is pushed -/
theorem q_push {pc' : Nat} {lv : List (Nat × Value)} {st : List Value} {h : q_H} {v : Int32} {H : Heap} {locs : List Loc} {ls : Array Slot} {str : List Value} {cells slots : Nat}
    (k : q_Go p l e R s m args below meth c Q D b A H0 ws0 nL k0 j0 (pc', lv, .int v :: st, h)) (hF : q_Fr D b A s H0 ws0 nL h lv st H locs ls str) (h1 : cells + k0 = q_cc h) (h2 : slots + j0 = q_ss h) : W p l e R s m args below meth c H locs cells slots Q (F0 m pc' ls (.int v :: str)) := by
  obtain ⟨tys, ws, lvr, hW, hP, hK, hD, hS, hX, hl, hL, hV, hn⟩ := hF
  exact k _ _ _ _ _ _ ⟨tys, ws, lvr, hW, hP, hK, hD, hS, hX, hl, hL, ⟨_, _, rfl, rfl, hV⟩, hn⟩ h1 h2
/-- a local is read -/
theorem q_iload {i pc len : Nat} {lv : List (Nat × Value)} {st : List Value} {h : q_H} {pt : q_P}
    (row : ∀ {H : Heap} {locs : List Loc} {ls : Array Slot} {str : List Value} {cells slots : Nat} {x : Int32}, ls[i]? = some (.val (.int x)) → W p l e R s m args below meth c H locs cells slots Q (F0 m (pc + len) ls (.int x :: str)) → W p l e R s m args below meth c H locs cells slots Q (F0 m pc ls str))
    (hs : q_ld i len pc lv st h true = some pt) (k : q_Go p l e R s m args below meth c Q D b A H0 ws0 nL k0 j0 pt) : q_Go p l e R s m args below meth c Q D b A H0 ws0 nL k0 j0 (pc, lv, st, h) := by
  obtain ⟨x, hx, rfl⟩ := q_ld_inv hs
  intro H locs ls str cells slots hF h1 h2
  obtain ⟨tys, ws, lvr, hW, hP, hK, hD, hS, hX, hl, hL, hV, hn⟩ := id hF
  obtain ⟨k9, x9, a1, a2⟩ := hL.look hx
  cases a2
  exact row (lv_at hl k9 a1) (q_push k hF h1 h2)
theorem q_aload {i pc len : Nat} {lv : List (Nat × Value)} {st : List Value} {h : q_H} {pt : q_P}
    (row : ∀ {H : Heap} {locs : List Loc} {ls : Array Slot} {str : List Value} {cells slots : Nat} {x : Nat}, ls[i]? = some (.val (.ref x)) → W p l e R s m args below meth c H locs cells slots Q (F0 m (pc + len) ls (.ref x :: str)) → W p l e R s m args below meth c H locs cells slots Q (F0 m pc ls str))
    (hs : q_ld i len pc lv st h false = some pt) (k : q_Go p l e R s m args below meth c Q D b A H0 ws0 nL k0 j0 pt) : q_Go p l e R s m args below meth c Q D b A H0 ws0 nL k0 j0 (pc, lv, st, h) := by
  obtain ⟨x, hx, rfl⟩ := q_lda_inv hs
  intro H locs ls str cells slots hF h1 h2
  obtain ⟨tys, ws, lvr, hW, hP, hK, hD, hS, hX, hl, hL, hV, hn⟩ := hF
  obtain ⟨k9, x9, a1, a2⟩ := hL.look hx
  obtain ⟨a, a3, rfl⟩ := id a2
  exact row (lv_at hl k9 a1) (k _ _ _ _ _ _ ⟨tys, ws, lvr, hW, hP, hK, hD, hS, hX, hl, hL, ⟨_, _, rfl, a2, hV⟩, hn⟩ h1 h2)
/-- a local is written -/
theorem q_istore {i pc len : Nat} {lv : List (Nat × Value)} {st : List Value} {h : q_H} {pt : q_P} (hi : i < nL)
    (row : ∀ {H : Heap} {locs : List Loc} {ls : Array Slot} {str : List Value} {cells slots : Nat} {x : Int32} {lvr lvr' : List (Nat × Value)}, lv_has ls nL lvr → (i, Value.int x) :: lvr.filter (fun q => !(q.1 == i) && !(q.1 + 1 == i && q.2.category == 2)) = lvr' → (∀ ls' : Array Slot, lv_has ls' nL lvr' → W p l e R s m args below meth c H locs cells slots Q (F0 m (pc + len) ls' str)) → W p l e R s m args below meth c H locs cells slots Q (F0 m pc ls (.int x :: str)))
    (hs : q_sto i len pc lv st h true = some pt) (k : q_Go p l e R s m args below meth c Q D b A H0 ws0 nL k0 j0 pt) : q_Go p l e R s m args below meth c Q D b A H0 ws0 nL k0 j0 (pc, lv, st, h) := by
  obtain ⟨x, r, rfl, rfl⟩ := q_sto_inv hs
  intro H locs ls str cells slots hF h1 h2
  obtain ⟨tys, ws, lvr, hW, hP, hK, hD, hS, hX, hl, hL, ⟨_, t, rfl, rfl, hV⟩, hn⟩ := hF
  refine row hl rfl (fun ls' hl' => k _ _ _ _ _ _ ⟨tys, ws, _, hW, hP, hK, hD, hS, hX, hl', hL.sto (show q_V (q_am b ws) (.int x) (.int x) from rfl), hV, q_sv_lt hn hi⟩ h1 h2)
theorem q_astore {i pc len : Nat} {lv : List (Nat × Value)} {st : List Value} {h : q_H} {pt : q_P} (hi : i < nL)
    (row : ∀ {H : Heap} {locs : List Loc} {ls : Array Slot} {str : List Value} {cells slots : Nat} {x : Nat} {lvr lvr' : List (Nat × Value)}, lv_has ls nL lvr → (i, Value.ref x) :: lvr.filter (fun q => !(q.1 == i) && !(q.1 + 1 == i && q.2.category == 2)) = lvr' → (∀ ls' : Array Slot, lv_has ls' nL lvr' → W p l e R s m args below meth c H locs cells slots Q (F0 m (pc + len) ls' str)) → W p l e R s m args below meth c H locs cells slots Q (F0 m pc ls (.ref x :: str)))
    (hs : q_sto i len pc lv st h false = some pt) (k : q_Go p l e R s m args below meth c Q D b A H0 ws0 nL k0 j0 pt) : q_Go p l e R s m args below meth c Q D b A H0 ws0 nL k0 j0 (pc, lv, st, h) := by
  obtain ⟨x, r, rfl, rfl⟩ := q_stoa_inv hs
  intro H locs ls str cells slots hF h1 h2
  obtain ⟨tys, ws, lvr, hW, hP, hK, hD, hS, hX, hl, hL, ⟨_, t, rfl, hx, hV⟩, hn⟩ := hF
  obtain ⟨a, a3, rfl⟩ := id hx
  refine row hl rfl (fun ls' hl' => k _ _ _ _ _ _ ⟨tys, ws, _, hW, hP, hK, hD, hS, hX, hl', hL.sto hx, hV, q_sv_lt hn hi⟩ h1 h2)
/-- a branch -/
theorem q_branch {cnd : ClassFile.Cond} {t pc : Nat} {lv : List (Nat × Value)} {r : List Value} {h : q_H} {x y : Int32} {H : Heap} {locs : List Loc} {ls : Array Slot} {str : List Value} {cells slots : Nat}
    (k : q_Go p l e R s m args below meth c Q D b A H0 ws0 nL k0 j0 (q_c1 cnd t pc lv r h x y)) (hF : q_Fr D b A s H0 ws0 nL h lv r H locs ls str) (h1 : cells + k0 = q_cc h) (h2 : slots + j0 = q_ss h) :
    W p l e R s m args below meth c H locs cells slots Q (F0 m (q_c1 cnd t pc lv r h x y).1 ls str) := by
  have e1 : (q_c1 cnd t pc lv r h x y).2 = (lv, r, h) := by cases cnd <;> (dsimp only [q_c1]; split <;> rfl)
  refine k H locs ls str cells slots ?_ ?_ ?_ <;> rw [e1] <;> assumption
end QSTEP
