/-! the pure machine without fuel: a method goes on from a point and ends; locals in the order of their numbers -/
theorem q_more : ∀ (n : Nat) (sc : Option (Nat × (Nat → Int32))) (y pc : Nat) (lv : List (Nat × Value)) (st : List Value) (h : q_H) (r : q_O × q_H), q_ex sc n y pc lv st h = some r → q_ex sc (n + 1) y pc lv st h = some r
  | 0, _, _, _, _, _, _, _, hs => by cases hs
  | n + 1, sc, y, pc, lv, st, h, r, hs => by
    unfold q_ex at hs ⊢
    split at hs
    · cases hs
    · split at hs
      · exact hs
      · split at hs
        · split at hs
          · rename_i h1 h2
            rw [if_pos h1, if_pos h2]
            split at hs
            · rename_i v h3 he
              rw [q_more n _ _ _ _ _ _ _ he]
              exact q_more n _ _ _ _ _ _ _ hs
            · rename_i E h3 he
              rw [q_more n _ _ _ _ _ _ _ he]
              dsimp only
              split at hs
              · rename_i hE
                rw [if_pos hE]
                split at hs
                · exact hs
                · split at hs
                  · rename_i hh
                    exact q_more n _ _ _ _ _ _ _ hs
                  · cases hs
              · cases hs
            · cases hs
          · cases hs
        · rename_i h1
          rw [if_neg h1]
          split at hs
          · rename_i h2
            rw [if_pos h2]
            exact hs
          · rename_i h2
            rw [if_neg h2]
            split at hs
            · exact q_more n _ _ _ _ _ _ _ hs
            · cases hs
theorem q_more' {n m : Nat} {sc : Option (Nat × (Nat → Int32))} {y pc : Nat} {lv : List (Nat × Value)} {st : List Value} {h : q_H} {r : q_O × q_H} (hs : q_ex sc n y pc lv st h = some r) (hm : n ≤ m) : q_ex sc m y pc lv st h = some r := by
  induction hm with
  | refl => exact hs
  | step _ ih => exact q_more _ _ _ _ _ _ _ _ ih
def q_insr : List (Nat × Value) → Nat → Value → List (Nat × Value)
  | [], i, v => [(i, v)]
  | q :: r, i, v => if i < q.1 then (i, v) :: q :: r else q :: q_insr r i v
def q_set (L : List (Nat × Value)) (i : Nat) (v : Value) : List (Nat × Value) := q_insr (L.filter (fun q => !(q.1 == i))) i v
theorem q_insr_mem {i : Nat} {v : Value} {x : Nat × Value} : ∀ {L : List (Nat × Value)}, x ∈ q_insr L i v → x = (i, v) ∨ x ∈ L
  | [], h => Or.inl (List.mem_singleton.mp h)
  | q :: r, h => by
    unfold q_insr at h
    split at h
    · rcases List.mem_cons.mp h with h | h
      · exact Or.inl h
      · exact Or.inr h
    · rcases List.mem_cons.mp h with h | h
      · exact Or.inr (by rw [h]; exact List.mem_cons_self)
      · rcases q_insr_mem h with h | h
        · exact Or.inl h
        · exact Or.inr (List.mem_cons_of_mem _ h)
/-- the locals that are known -/
def q_Lv (L lv : List (Nat × Value)) : Prop := (∀ q ∈ L, q_lk lv q.1 = some q.2) ∧ ∀ q ∈ lv, q.2.category = 1
theorem q_Lv.look {L lv : List (Nat × Value)} (h : q_Lv L lv) {i : Nat} {v : Value} (hl : L.lookup i = some v) : q_lk lv i = some v := h.1 _ (q_lookup_mem hl)
theorem q_lk_rmv {i j : Nat} (hij : j ≠ i) : ∀ {lv : List (Nat × Value)}, (∀ q ∈ lv, q.2.category = 1) → q_lk (q_rmv lv i) j = q_lk lv j
  | [], _ => rfl
  | (k, u) :: r, hc => by
    have ih := q_lk_rmv hij (lv := r) (fun q hq => hc q (List.mem_cons_of_mem _ hq))
    have hu := hc (k, u) List.mem_cons_self
    unfold q_lk q_rmv at *
    rw [List.filter_cons]
    dsimp only at hu
    split
    · rw [List.lookup_cons, List.lookup_cons, ih]
    · rename_i hf
      have hk : k = i := by
        by_cases hk : k = i
        · exact hk
        · exact absurd (by simp [hk, hu]) hf
      rw [ih, List.lookup_cons]
      have : (j == k) = false := by simpa [hk] using hij
      rw [this]
theorem q_Lv.sto {L lv : List (Nat × Value)} (h : q_Lv L lv) {i : Nat} {v : Value} (hv : v.category = 1) : q_Lv (q_set L i v) (q_sv lv i v) := by
  refine ⟨fun q hq => ?_, fun q hq => ?_⟩
  · rcases q_insr_mem hq with rfl | hq
    · unfold q_lk q_sv
      rw [List.lookup_cons]; simp
    · obtain ⟨h1, h2⟩ := List.mem_filter.mp hq
      have hne : q.1 ≠ i := by simpa using h2
      have : q_lk (q_sv lv i v) q.1 = q_lk (q_rmv lv i) q.1 := by
        unfold q_lk q_sv
        rw [List.lookup_cons]
        have : (q.1 == i) = false := by simpa using hne
        rw [this]
      rw [this, q_lk_rmv hne h.2]
      exact h.1 q h1
  · rcases List.mem_cons.mp hq with rfl | hq
    · exact hv
    · exact h.2 q (List.mem_filter.mp hq).1
theorem q_Lv.sub {L L' lv : List (Nat × Value)} (h : q_Lv L lv) (hs : ∀ q ∈ L', q ∈ L) : q_Lv L' lv := ⟨fun q hq => h.1 q (hs q hq), h.2⟩
/-- method y, from pc with these locals, stack and heap, ends so -/
def q_Ev (sc : Option (Nat × (Nat → Int32))) (y pc : Nat) (L : List (Nat × Value)) (st : List Value) (h : q_H) (o : q_O) (h2 : q_H) : Prop := ∀ lv, q_Lv L lv → ∃ n, q_ex sc n y pc lv st h = some (o, h2)
/-- method y with these arguments ends so -/
def q_Cl (y : Nat) (as : List Value) (h : q_H) (o : q_O) (h2 : q_H) : Prop := ∃ n, q_ex none n y 0 (lv_args 0 as) [] h = some (o, h2)
section QEV
variable {sc : Option (Nat × (Nat → Int32))} {y pc : Nat} {L : List (Nat × Value)} {st : List Value} {h h2 : q_H} {o : q_O}
theorem ev_weak {L' : List (Nat × Value)} (hs : ∀ q ∈ L', q ∈ L) (k : q_Ev sc y pc L' st h o h2) : q_Ev sc y pc L st h o h2 := fun lv hl => k lv (hl.sub hs)
theorem q_ex_step {n pc' len a b : Nat} {i : Instr} {lv lv' : List (Nat × Value)} {st' : List Value} {h' : q_H} {r : q_O × q_H} (hc : q_code y pc = some (i, len, a, b)) (hr : q_ret i (q_mr y).2.2.2.2.1 st = none) (hk : q_cal i b = false) (hb : b < 1000) (hs : q_st sc (q_mr y).1 (q_mr y).2.2.1 i len a b pc lv st h = some (pc', lv', st', h')) (k : q_ex sc n y pc' lv' st' h' = some r) : q_ex sc (n + 1) y pc lv st h = some r := by
  unfold q_ex
  rw [hc]
  dsimp only
  rw [hr]
  dsimp only
  rw [if_neg (by rw [hk]; exact Bool.noConfusion), if_neg (by omega), hs]
  exact k
/-- one step that leaves the locals -/
theorem ev_st {pc' len a b : Nat} {i : Instr} {st' : List Value} {h' : q_H} (hc : q_code y pc = some (i, len, a, b)) (hr : q_ret i (q_mr y).2.2.2.2.1 st = none) (hk : q_cal i b = false) (hb : b < 1000) (hs : ∀ lv, q_st sc (q_mr y).1 (q_mr y).2.2.1 i len a b pc lv st h = some (pc', lv, st', h')) (k : q_Ev sc y pc' L st' h' o h2) : q_Ev sc y pc L st h o h2 := fun lv hl => by
  obtain ⟨n, hn⟩ := k lv hl
  exact ⟨n + 1, q_ex_step hc hr hk hb (hs lv) hn⟩
theorem ev_iconst {n : Int} {a b : Nat} (hc : q_code y pc = some (.iconst n, 1, a, b)) (hb : b < 1000) (k : q_Ev sc y (pc + 1) L (.int (Int32.ofInt n) :: st) h o h2) : q_Ev sc y pc L st h o h2 := ev_st hc rfl rfl hb (fun _ => rfl) k
theorem ev_bipush {n : Int} {a b : Nat} (hc : q_code y pc = some (.bipush n, 2, a, b)) (hb : b < 1000) (k : q_Ev sc y (pc + 2) L (.int (Int8.ofInt n).toInt32 :: st) h o h2) : q_Ev sc y pc L st h o h2 := ev_st hc rfl rfl hb (fun _ => rfl) k
theorem ev_sipush {n : Int} {a b : Nat} (hc : q_code y pc = some (.sipush n, 3, a, b)) (hb : b < 1000) (k : q_Ev sc y (pc + 3) L (.int (Int16.ofInt n).toInt32 :: st) h o h2) : q_Ev sc y pc L st h o h2 := ev_st hc rfl rfl hb (fun _ => rfl) k
theorem ev_ldc {cp a : Nat} (hc : q_code y pc = some (.ldc cp, 2, a, 0)) (k : q_Ev sc y (pc + 2) L (.int (Int32.ofNat a) :: st) h o h2) : q_Ev sc y pc L st h o h2 := ev_st hc rfl rfl (by decide) (fun _ => rfl) k
theorem ev_ldc_w {cp a : Nat} (hc : q_code y pc = some (.ldc_w cp, 3, a, 0)) (k : q_Ev sc y (pc + 3) L (.int (Int32.ofNat a) :: st) h o h2) : q_Ev sc y pc L st h o h2 := ev_st hc rfl rfl (by decide) (fun _ => rfl) k
theorem ev_ld {i : Instr} {j len a b : Nat} {v : Value} (hc : q_code y pc = some (i, len, a, b)) (hr : q_ret i (q_mr y).2.2.2.2.1 st = none) (hk : q_cal i b = false) (hb : b < 1000) (hl : L.lookup j = some v) (hs : ∀ lv, q_lk lv j = some v → q_st sc (q_mr y).1 (q_mr y).2.2.1 i len a b pc lv st h = some (pc + len, lv, v :: st, h)) (k : q_Ev sc y (pc + len) L (v :: st) h o h2) : q_Ev sc y pc L st h o h2 := fun lv hv => by
  obtain ⟨n, hn⟩ := k lv hv
  exact ⟨n + 1, q_ex_step hc hr hk hb (hs lv (hv.look hl)) hn⟩
theorem ev_iload {j a b : Nat} {x : Int32} (hc : q_code y pc = some (.iload j, 2, a, b)) (hb : b < 1000) (hl : L.lookup j = some (.int x)) (k : q_Ev sc y (pc + 2) L (.int x :: st) h o h2) : q_Ev sc y pc L st h o h2 := ev_ld hc rfl rfl hb hl (fun lv hv => by dsimp only [q_st, q_ld]; rw [hv]; rfl) k
theorem ev_iload_n {j : Fin 4} {a b : Nat} {x : Int32} (hc : q_code y pc = some (.iload_n j, 1, a, b)) (hb : b < 1000) (hl : L.lookup j.val = some (.int x)) (k : q_Ev sc y (pc + 1) L (.int x :: st) h o h2) : q_Ev sc y pc L st h o h2 := ev_ld hc rfl rfl hb hl (fun lv hv => by dsimp only [q_st, q_ld]; rw [hv]; rfl) k
theorem ev_aload {j a b : Nat} {x : Nat} (hc : q_code y pc = some (.aload j, 2, a, b)) (hb : b < 1000) (hl : L.lookup j = some (.ref x)) (k : q_Ev sc y (pc + 2) L (.ref x :: st) h o h2) : q_Ev sc y pc L st h o h2 := ev_ld hc rfl rfl hb hl (fun lv hv => by dsimp only [q_st, q_ld]; rw [hv]; rfl) k
theorem ev_aload_n {j : Fin 4} {a b : Nat} {x : Nat} (hc : q_code y pc = some (.aload_n j, 1, a, b)) (hb : b < 1000) (hl : L.lookup j.val = some (.ref x)) (k : q_Ev sc y (pc + 1) L (.ref x :: st) h o h2) : q_Ev sc y pc L st h o h2 := ev_ld hc rfl rfl hb hl (fun lv hv => by dsimp only [q_st, q_ld]; rw [hv]; rfl) k
theorem ev_sto {i : Instr} {j len a b : Nat} {v : Value} {st' : List Value} (hc : q_code y pc = some (i, len, a, b)) (hr : q_ret i (q_mr y).2.2.2.2.1 st = none) (hk : q_cal i b = false) (hb : b < 1000) (hv1 : v.category = 1) (hs : ∀ lv, q_Lv L lv → q_st sc (q_mr y).1 (q_mr y).2.2.1 i len a b pc lv st h = some (pc + len, q_sv lv j v, st', h)) (k : q_Ev sc y (pc + len) (q_set L j v) st' h o h2) : q_Ev sc y pc L st h o h2 := fun lv hv => by
  obtain ⟨n, hn⟩ := k _ (hv.sto hv1)
  exact ⟨n + 1, q_ex_step hc hr hk hb (hs lv hv) hn⟩
theorem ev_istore {j a b : Nat} {x : Int32} (hc : q_code y pc = some (.istore j, 2, a, b)) (hb : b < 1000) (k : q_Ev sc y (pc + 2) (q_set L j (.int x)) st h o h2) : q_Ev sc y pc L (.int x :: st) h o h2 := ev_sto hc rfl rfl hb rfl (fun _ _ => rfl) k
theorem ev_istore_n {j : Fin 4} {a b : Nat} {x : Int32} (hc : q_code y pc = some (.istore_n j, 1, a, b)) (hb : b < 1000) (k : q_Ev sc y (pc + 1) (q_set L j.val (.int x)) st h o h2) : q_Ev sc y pc L (.int x :: st) h o h2 := ev_sto hc rfl rfl hb rfl (fun _ _ => rfl) k
theorem ev_astore {j a b : Nat} {x : Nat} (hc : q_code y pc = some (.astore j, 2, a, b)) (hb : b < 1000) (k : q_Ev sc y (pc + 2) (q_set L j (.ref x)) st h o h2) : q_Ev sc y pc L (.ref x :: st) h o h2 := ev_sto hc rfl rfl hb rfl (fun _ _ => rfl) k
theorem ev_astore_n {j : Fin 4} {a b : Nat} {x : Nat} (hc : q_code y pc = some (.astore_n j, 1, a, b)) (hb : b < 1000) (k : q_Ev sc y (pc + 1) (q_set L j.val (.ref x)) st h o h2) : q_Ev sc y pc L (.ref x :: st) h o h2 := ev_sto hc rfl rfl hb rfl (fun _ _ => rfl) k
theorem ev_iinc {j a b : Nat} {n : Int} {x : Int32} (hc : q_code y pc = some (.iinc j n, 3, a, b)) (hb : b < 1000) (hl : L.lookup j = some (.int x)) (k : q_Ev sc y (pc + 3) (q_set L j (.int (x + Int32.ofInt n))) st h o h2) : q_Ev sc y pc L st h o h2 := ev_sto hc rfl rfl hb rfl (fun lv hv => by dsimp only [q_st]; rw [hv.look hl]) k
theorem ev_iadd {x z : Int32} {a b : Nat} (hc : q_code y pc = some (.iadd, 1, a, b)) (hb : b < 1000) (k : q_Ev sc y (pc + 1) L (.int (x + z) :: st) h o h2) : q_Ev sc y pc L (.int z :: .int x :: st) h o h2 := ev_st hc rfl rfl hb (fun _ => rfl) k
theorem ev_isub {x z : Int32} {a b : Nat} (hc : q_code y pc = some (.isub, 1, a, b)) (hb : b < 1000) (k : q_Ev sc y (pc + 1) L (.int (x - z) :: st) h o h2) : q_Ev sc y pc L (.int z :: .int x :: st) h o h2 := ev_st hc rfl rfl hb (fun _ => rfl) k
theorem ev_imul {x z : Int32} {a b : Nat} (hc : q_code y pc = some (.imul, 1, a, b)) (hb : b < 1000) (k : q_Ev sc y (pc + 1) L (.int (x * z) :: st) h o h2) : q_Ev sc y pc L (.int z :: .int x :: st) h o h2 := ev_st hc rfl rfl hb (fun _ => rfl) k
theorem ev_iand {x z : Int32} {a b : Nat} (hc : q_code y pc = some (.iand, 1, a, b)) (hb : b < 1000) (k : q_Ev sc y (pc + 1) L (.int (x &&& z) :: st) h o h2) : q_Ev sc y pc L (.int z :: .int x :: st) h o h2 := ev_st hc rfl rfl hb (fun _ => rfl) k
theorem ev_ior {x z : Int32} {a b : Nat} (hc : q_code y pc = some (.ior, 1, a, b)) (hb : b < 1000) (k : q_Ev sc y (pc + 1) L (.int (x ||| z) :: st) h o h2) : q_Ev sc y pc L (.int z :: .int x :: st) h o h2 := ev_st hc rfl rfl hb (fun _ => rfl) k
theorem ev_ixor {x z : Int32} {a b : Nat} (hc : q_code y pc = some (.ixor, 1, a, b)) (hb : b < 1000) (k : q_Ev sc y (pc + 1) L (.int (x ^^^ z) :: st) h o h2) : q_Ev sc y pc L (.int z :: .int x :: st) h o h2 := ev_st hc rfl rfl hb (fun _ => rfl) k
theorem ev_ishl {x z : Int32} {a b : Nat} (hc : q_code y pc = some (.ishl, 1, a, b)) (hb : b < 1000) (k : q_Ev sc y (pc + 1) L (.int (x <<< (z &&& 31)) :: st) h o h2) : q_Ev sc y pc L (.int z :: .int x :: st) h o h2 := ev_st hc rfl rfl hb (fun _ => rfl) k
/-- >>> -/
def q_ush (x z : Int32) : Int32 := (x.toUInt32 >>> (z.toUInt32 &&& Int32.toUInt32 31)).toInt32
theorem ev_iushr {x z : Int32} {a b : Nat} (hc : q_code y pc = some (.iushr, 1, a, b)) (hb : b < 1000) (k : q_Ev sc y (pc + 1) L (.int (q_ush x z) :: st) h o h2) : q_Ev sc y pc L (.int z :: .int x :: st) h o h2 := ev_st hc rfl rfl hb (fun _ => rfl) k
theorem ev_idiv {x z : Int32} {a b : Nat} (hc : q_code y pc = some (.idiv, 1, a, b)) (hb : b < 1000) (hz : ¬ z = 0) (k : q_Ev sc y (pc + 1) L (.int (x / z) :: st) h o h2) : q_Ev sc y pc L (.int z :: .int x :: st) h o h2 := ev_st hc rfl rfl hb (fun _ => by dsimp only [q_st]; rw [if_neg hz]) k
theorem ev_irem {x z : Int32} {a b : Nat} (hc : q_code y pc = some (.irem, 1, a, b)) (hb : b < 1000) (hz : ¬ z = 0) (k : q_Ev sc y (pc + 1) L (.int (x - x / z * z) :: st) h o h2) : q_Ev sc y pc L (.int z :: .int x :: st) h o h2 := ev_st hc rfl rfl hb (fun _ => by dsimp only [q_st]; rw [if_neg hz]) k
theorem ev_ineg {x : Int32} {a b : Nat} (hc : q_code y pc = some (.ineg, 1, a, b)) (hb : b < 1000) (k : q_Ev sc y (pc + 1) L (.int (-x) :: st) h o h2) : q_Ev sc y pc L (.int x :: st) h o h2 := ev_st hc rfl rfl hb (fun _ => rfl) k
theorem ev_i2l {x : Int32} {a b : Nat} (hc : q_code y pc = some (.i2l, 1, a, b)) (hb : b < 1000) (k : q_Ev sc y (pc + 1) L (.long x.toInt64 :: st) h o h2) : q_Ev sc y pc L (.int x :: st) h o h2 := ev_st hc rfl rfl hb (fun _ => rfl) k
theorem ev_lcmp {x z : Int64} {a b : Nat} (hc : q_code y pc = some (.lcmp, 1, a, b)) (hb : b < 1000) (k : q_Ev sc y (pc + 1) L (.int (lg_cmp x z) :: st) h o h2) : q_Ev sc y pc L (.long z :: .long x :: st) h o h2 := ev_st hc rfl rfl hb (fun _ => rfl) k
theorem ev_dup {v : Value} {a b : Nat} (hc : q_code y pc = some (.dup, 1, a, b)) (hb : b < 1000) (hv : v.category = 1) (k : q_Ev sc y (pc + 1) L (v :: v :: st) h o h2) : q_Ev sc y pc L (v :: st) h o h2 := ev_st hc rfl rfl hb (fun _ => by dsimp only [q_st]; rw [if_pos hv]) k
theorem ev_dup2 {v w : Value} {a b : Nat} (hc : q_code y pc = some (.dup2, 1, a, b)) (hb : b < 1000) (hv : v.category = 1) (hw : w.category = 1) (k : q_Ev sc y (pc + 1) L (v :: w :: v :: w :: st) h o h2) : q_Ev sc y pc L (v :: w :: st) h o h2 := ev_st hc rfl rfl hb (fun _ => by dsimp only [q_st]; rw [if_pos ⟨hv, hw⟩]) k
theorem ev_pop {v : Value} {a b : Nat} (hc : q_code y pc = some (.pop, 1, a, b)) (hb : b < 1000) (hv : v.category = 1) (k : q_Ev sc y (pc + 1) L st h o h2) : q_Ev sc y pc L (v :: st) h o h2 := ev_st hc rfl rfl hb (fun _ => by dsimp only [q_st]; rw [if_pos hv]) k
theorem ev_goto {off : Int} {t b : Nat} (hc : q_code y pc = some (.goto off, 3, t, b)) (hb : b < 1000) (k : q_Ev sc y t L st h o h2) : q_Ev sc y pc L st h o h2 := ev_st hc rfl rfl hb (fun _ => rfl) k
/-- a branch by two numbers; c: the condition of the row that is taken in the listing's sense -/
theorem ev_c1 {cnd : ClassFile.Cond} {t len a b : Nat} {i : Instr} {x z : Int32} {st0 : List Value} (hc : q_code y pc = some (i, len, a, b)) (hr : q_ret i (q_mr y).2.2.2.2.1 st0 = none) (hk : q_cal i b = false) (hb : b < 1000) (hs : ∀ lv, q_st sc (q_mr y).1 (q_mr y).2.2.1 i len a b pc lv st0 h = some (q_c1 cnd t pc lv st h x z))
    (k : q_Ev sc y (q_c1 cnd t pc [] st h x z).1 L st h o h2) : q_Ev sc y pc L st0 h o h2 := fun lv hv => by
  obtain ⟨n, hn⟩ := k lv hv
  have e1 : q_c1 cnd t pc lv st h x z = ((q_c1 cnd t pc [] st h x z).1, lv, st, h) := by cases cnd <;> (dsimp only [q_c1]; split <;> rfl)
  exact ⟨n + 1, q_ex_step hc hr hk hb ((hs lv).trans (congrArg some e1)) hn⟩
theorem ev_if {cnd : ClassFile.Cond} {off : Int} {t b : Nat} {x : Int32} (hc : q_code y pc = some (.ifCond cnd off, 3, t, b)) (hb : b < 1000) (k : q_Ev sc y (q_c1 cnd t pc [] st h x 0).1 L st h o h2) : q_Ev sc y pc L (.int x :: st) h o h2 := ev_c1 hc rfl rfl hb (fun _ => rfl) k
theorem ev_icmp {cnd : ClassFile.Cond} {off : Int} {t b : Nat} {x z : Int32} (hc : q_code y pc = some (.if_icmp cnd off, 3, t, b)) (hb : b < 1000) (k : q_Ev sc y (q_c1 cnd t pc [] st h x z).1 L st h o h2) : q_Ev sc y pc L (.int z :: .int x :: st) h o h2 := ev_c1 hc rfl rfl hb (fun _ => rfl) k
end QEV
