/-! the main induction -/
def q_Run (n : Nat) : Prop := ∀ (sc : Option (Nat × (Nat → Int32))) (y pc : Nat) (lv : List (Nat × Value)) (st : List Value) (h : q_H) (o : q_O) (h2 : q_H), q_ex sc n y pc lv st h = some (o, h2) →
  ∀ (p : Program) (l : Launch) (e : Env) (R : Room) (s : State) (m : MethodId) (args : Array Value) (below : List Frame) (meth : Method) (c : Code) (Q : State → Prop) (D : va_G) (b : Option Nat) (A : Nat → Prop) (ws0 : va_W) (k0 j0 : Nat) (cc : ByteArray),
    q_Env p s m args meth c R s.heap A b sc (q_mr y).1 (q_mr y).2.2.1 (q_mr y).2.2.2.1 cc → q_X0 A s s.heap → l.stackTraces = false → (q_mr y).2.2.2.2.2.2.1 ≤ R.frames → (q_mr y).2.2.2.2.2.2.2 ≤ R.locals → meth.locks = false → ((∃ E, o = .inr E) ∨ q_hs y ≠ [] → c.exceptionTable.toList = tableOf (q_hh y)) → q_Cok y cc → y < 341 → q_cc h2 ≤ R.cells + k0 → q_ss h2 ≤ R.slots + j0 →
    (∀ v, o = .inl v → ∀ pc i len a bb lv st, q_code y pc = some (i, len, a, bb) → q_ret i (q_mr y).2.2.2.2.1 st = some v → q_Go p l e R s m args below meth c Q D b A s.heap ws0 (q_mr y).2.2.2.1 k0 j0 (pc, lv, st, h2)) →
    (∀ E, o = .inr E → ∃ mc ms Qc, mc + k0 = q_cc h2 ∧ ms + j0 = q_ss h2 ∧ Q = vx_MQ below Qc (q_XC D b A ws0 h2 (.inr E)) args s mc ms A) →
    q_Go p l e R s m args below meth c Q D b A s.heap ws0 (q_mr y).2.2.2.1 k0 j0 (pc, lv, st, h)
theorem q_ret_inv {i : Instr} {ret : Nat} {st : List Value} {v : Option Value} (h : q_ret i ret st = some v) :
    (i = .return_ ∧ st = [] ∧ ret = 0 ∧ v = none) ∨ (i = .ireturn ∧ ∃ x, st = [.int x] ∧ (ret = 1 ∨ (ret = 2 ∧ (x = 0 ∨ x = 1))) ∧ v = some (.int x)) ∨ (i = .areturn ∧ ∃ k, st = [.ref k] ∧ ret = 3 ∧ v = some (.ref k)) := by
  unfold q_ret at h
  split at h
  · split at h
    · split at h
      · rename_i h9; cases h; exact Or.inl ⟨rfl, rfl, h9, rfl⟩
      · cases h
    · cases h
  · split at h
    · split at h
      · rename_i h9; cases h; exact Or.inr (Or.inl ⟨rfl, _, rfl, h9, rfl⟩)
      · cases h
    · cases h
  · split at h
    · split at h
      · rename_i h9; cases h; exact Or.inr (Or.inr ⟨rfl, _, rfl, h9, rfl⟩)
      · cases h
    · cases h
  · cases h
theorem q_hf_inv {pc E : Nat} {k nx : Nat} : ∀ {hs : List (Nat × Nat × Nat × Nat × Nat × Nat × Nat)}, q_hf hs pc E = some (k, nx) →
    ∃ pre r suf, hs = pre ++ r :: suf ∧ (∀ z ∈ pre, ¬ (z.1 ≤ pc ∧ pc < z.2.1 ∧ z.2.2.2.2.1 = E)) ∧ (r.1 ≤ pc ∧ pc < r.2.1 ∧ r.2.2.2.2.1 = E) ∧ r.2.2.2.2.2.1 = k ∧ r.2.2.2.2.2.2 = nx
  | [], h => by cases h
  | (s, e, hp, cp, E', k', nx') :: l, h => by
    unfold q_hf at h
    split at h
    · rename_i h9
      cases h
      exact ⟨[], _, l, rfl, fun _ hz => (List.not_mem_nil hz).elim, h9, rfl, rfl⟩
    · rename_i h9
      obtain ⟨pre, r, suf, e1, e2, e3, e4, e5⟩ := q_hf_inv h
      refine ⟨(s, e, hp, cp, E', k', nx') :: pre, r, suf, by rw [e1]; rfl, fun z hz => ?_, e3, e4, e5⟩
      rcases List.mem_cons.mp hz with rfl | hz
      · exact h9
      · exact e2 z hz
theorem q_slen : ∀ (vs : List Value), (lg_sl vs).length = q_sum vs
  | [] => rfl
  | v :: r => by
    have ih := q_slen r
    unfold lg_sl q_sum at *
    rw [List.flatMap_cons, List.length_append, ih, List.map_cons, List.sum_cons]
    cases v <;> simp [Value.category] <;> omega
theorem q_Ls_lt {am : Nat → Option Nat} {n : Nat} : ∀ {lv lvr : List (Nat × Value)}, q_Ls am lv lvr → (∀ q ∈ lvr, q.1 < n) → ∀ q ∈ lv, q.1 < n
  | [], _, _, _, q, hq => by cases hq
  | u :: r, w, ⟨x, t, h1, h2, h3⟩, hh, q, hq => by
    subst h1
    rcases List.mem_cons.mp hq with rfl | hq
    · exact hh (_, x) List.mem_cons_self
    · exact q_Ls_lt h3 (fun z hz => hh z (List.mem_cons_of_mem _ hz)) q hq
theorem q_frlo : ∀ y, y < 341 → 1 ≤ (q_mr y).2.2.2.2.2.2.1 ∧ 60 ≤ (q_mr y).2.2.2.2.2.2.2 := by decide +kernel
theorem q_lookup_mem {α : Type} {pc : Nat} {v : α} : ∀ {l : List (Nat × α)}, l.lookup pc = some v → (pc, v) ∈ l
  | [], h => by cases h
  | (j, u) :: r, h => by
    rw [List.lookup_cons] at h
    split at h
    · rename_i hj
      cases h
      rw [show pc = j from by simpa using hj]
      exact List.mem_cons_self
    · exact List.mem_cons_of_mem _ (q_lookup_mem h)
theorem q_Cok_of {y : Nat} {cc : ByteArray} (hy : y < 341) (hd : ∀ e ∈ q_cs.getD y [], decode cc e.1 = .ok (e.2.1, e.2.2.1)) : q_Cok y cc := by
  intro pc i len a b hc
  have h1 := q_koks y hy
  have h2 := q_thks y hy
  unfold q_code at hc
  unfold q_kok at h1
  rw [Bool.and_eq_true] at h2
  have h3 := h2.1
  unfold q_thall at h3
  generalize q_cs.getD y [] = L at hc h1 h3 hd
  have hm : (pc, i, len, a, b) ∈ L := q_lookup_mem hc
  rw [List.all_eq_true] at h1 h3
  have hdd := hd _ hm
  dsimp only at hdd
  have g := q_lkb_ok (h1 _ hm)
  exact ⟨hdd, g.1, g.2.1, g.2.2, h3 _ hm⟩
theorem q_Cok_m {y : Nat} (hy : y < 340) : q_Cok y (q_bytes y) := q_Cok_of (by omega) (fun e he => by
  have h := q_dall y hy
  unfold q_dok at h
  generalize q_cs.getD y [] = L at h he
  rw [List.all_eq_true] at h
  exact of_decide_eq_true (h e he))
/-- the contract out of the runs -/
theorem q_con_of {n : Nat} (hrun : q_Run n) : q_Con n := by
  intro a as h o h3 ha he hsum l D b tys ws sz asr mc ms hl hW hV hmc hms
  obtain ⟨y1, y2, y3, y4, y5⟩ := q_mpf ha
  have hbody : ∀ p e s m args below meth c s₁, BodyLoose p l (q_y a) (headSpec (q_wsm a) (q_room a mc ms)) (q_bytes a) (q_mr a).2.2.2.1 (q_rty (q_mr a).2.2.2.2.1) e s m args below meth c s₁ → c.maxLocals = (q_mr a).2.2.2.1 → c.exceptionTable.toList = tableOf (q_hh a) → va_Pc asr (q_B D b tys h ws sz) args s →
      W p l e (headSpec (q_wsm a) (q_room a mc ms)).room s m args below meth c s.heap [] 0 0 (vx_MQ below (q_Qc D b (va_A ws sz) ws h3 o) (q_XC D b (va_A ws sz) ws h3 o) args s mc ms (va_A ws sz)) (entryFrame m args (q_mr a).2.2.2.1) := by
    intro p e s m args below meth c s₁ B hml htab hPc
    obtain ⟨rfl, hsz, hP, hK, hD, hX0⟩ := hPc
    subst hsz
    have hts : ∀ w ∈ q_ALL, w.before asr.toArray s = true := fun w hw => atoms_spec (ws := q_wsm a) B.pre w (List.mem_cons_of_mem _ hw)
    have hown : s.vm.findClass (q_R (q_mr a).1) = some m.cls := by rw [← y2]; exact findClass_of_methodNamed B.named
    have hfl := q_frlo a (by omega)
    have E : q_Env p s m asr.toArray meth c (q_room a mc ms) s.heap (va_A ws s.heap.size) b none (q_mr a).1 (q_mr a).2.2.1 (q_mr a).2.2.2.1 (q_bytes a) :=
      ⟨B.exec, B.bytes, hml, hown, hts, fun q h => Or.inr h, hfl.1, hfl.2, (fun h => by rw [(name_of_methodNamed B.named B.method).1]; exact y5 h), (fun L xs h => by cases h), hX0.2.2.2.1, hX0.2.2.2.2.1⟩
    have hlen : (lg_sl asr).length ≤ (q_mr a).2.2.2.1 := by rw [q_slen, hV.sum]; exact hsum
    have hl9 := lv_entry asr (n := (q_mr a).2.2.2.1) hlen
    rw [lg_entry_eq]
    generalize (lg_sl asr ++ List.replicate ((q_mr a).2.2.2.1 - (lg_sl asr).length) Slot.unset).toArray = ls at hl9 ⊢
    have hr := B.returns
    have hlocks := B.notSynchronized
    have go := hrun none a 0 (lv_args 0 as) [] h o h3 he p l e (q_room a mc ms) s m asr.toArray below meth c (vx_MQ below (q_Qc D b (va_A ws s.heap.size) ws h3 o) (q_XC D b (va_A ws s.heap.size) ws h3 o) asr.toArray s mc ms (va_A ws s.heap.size)) D b (va_A ws s.heap.size) ws (q_cc h) (q_ss h) (q_bytes a) E hX0 hl (Nat.le_refl _) (Nat.le_refl _) hlocks (fun _ => htab) (q_Cok_m ha) (by omega) (Nat.le_of_eq hmc.symm) (Nat.le_of_eq hms.symm)
      (fun v hv pc i len a9 bb lv st hcode hret => by
        intro H locs ls str cells slots hF h1 h2
        obtain ⟨tys', ws', lvr, hW', hP', hK', hD', hS', hX', hl', hL', hV', hn'⟩ := hF
        obtain ⟨hdg, hlk, -⟩ := q_Cok_m ha pc i len a9 bb hcode
        have hcm : cells = mc := by have h1' : cells + q_cc h = q_cc h3 := h1; omega
        have hsm : slots = ms := by have h2' : slots + q_ss h = q_ss h3 := h2; omega
        subst hcm; subst hsm; subst hv
        have fin : ∀ (w : Option Value), q_Vo (q_am b ws') v w → ∀ t : State, t.heap = H → s.WarmedH t.vm → q_Qc D b (va_A ws s.heap.size) ws h3 (.inl v) asr.toArray s (.returned w) t := fun w hw t ht hWt => ⟨⟨w, rfl, tys', ws', hw, hW', by rw [ht]; exact hP', va_K.moved hWt.alike hK', hD', hX'⟩, hS'.F ht⟩
        rcases q_ret_inv hret with ⟨rfl, rfl, h9, rfl⟩ | ⟨rfl, x, rfl, h9, rfl⟩ | ⟨rfl, k, rfl, h9, rfl⟩
        · cases (show len = 1 from hlk)
          cases hV'
          exact vx_ret (W.vret B.exec B.bytes (by rw [hr, h9]; rfl) (fin none rfl) hS'.2.2 hdg hlocks)
        · cases (show len = 1 from hlk)
          obtain ⟨_, _, rfl, rfl, hV'⟩ := hV'
          cases hV'
          rcases h9 with h9 | ⟨h9, hx⟩
          · exact vx_ret (W.zret (ty := .int) B.exec B.bytes (by rw [hr, h9]; rfl) rfl (fin (some (.int x)) ⟨_, rfl, rfl⟩) hS'.2.2 hdg hlocks)
          · exact vx_ret (W.zret (ty := .boolean) B.exec B.bytes (by rw [hr, h9]; rfl) (q_fitz hx).1 (fin (some (.int x)) ⟨_, rfl, rfl⟩) hS'.2.2 hdg hlocks)
        · cases (show len = 1 from hlk)
          obtain ⟨_, _, rfl, ⟨ad, h8, rfl⟩, hV'⟩ := hV'
          cases hV'
          exact vx_ret (W.aret (rt := .object "SmithyBench$Program") B.exec B.bytes (by rw [hr, h9]; rfl) (Or.inl ⟨_, rfl⟩) (Or.inr ⟨ad, rfl⟩) (fin (some (.ref ad)) ⟨_, rfl, ad, h8, rfl⟩) hS'.2.2 hdg hlocks))
      (fun E hE => ⟨mc, ms, q_Qc D b (va_A ws s.heap.size) ws h3 o, hmc, hms, by rw [hE]⟩)
    refine go s.heap [] ls [] 0 0 ⟨tys, ws, lv_args 0 asr, hW, hP, hK, hD.self, va_S.rf, q_Le.rf, hl9, hV.args 0, rfl, q_Ls_lt (hV.args 0) (fun q hq => ?_)⟩ (Nat.zero_add _) (Nat.zero_add _)
    exact q_lsz hl9 (hl9.2.2 q hq)
  by_cases hemp : (q_hs a).isEmpty = true
  · have hwsm : q_wsm a = Cond.code (q_y a) (q_bytes a) (q_mr a).2.2.2.1 (q_rty (q_mr a).2.2.2.2.1) :: q_ALL := by unfold q_wsm q_cw; rw [if_pos hemp]
    refine vx_ofW y1 hwsm (fun p e s m args below meth c s₁ B hml ht hPc => hbody p e s m args below meth c s₁ B hml ?_ hPc)
    have h0 : q_hh a = [] := by unfold q_hh; rw [List.isEmpty_iff.mp hemp]; rfl
    rw [h0]
    exact List.eq_nil_iff_forall_not_mem.mpr ht
  · have hwsm : q_wsm a = Cond.codeWith (q_y a) (q_bytes a) (q_mr a).2.2.2.1 (q_rty (q_mr a).2.2.2.2.1) (q_hh a) :: q_ALL := by unfold q_wsm q_cw; rw [if_neg hemp]; rfl
    exact vx_ofWH y1 hwsm (fun p e s m args below meth c s₁ B hml hPc => hbody p e s m args below meth c s₁ B hml (vx_table (x := q_y a) B (atoms_spec (ws := q_wsm a) B.pre (Cond.codeWith (q_y a) (q_bytes a) (q_mr a).2.2.2.1 (q_rty (q_mr a).2.2.2.2.1) (q_hh a)) (by rw [hwsm]; exact List.mem_cons_self))) hPc)
