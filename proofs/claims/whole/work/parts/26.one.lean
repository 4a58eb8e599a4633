/-! ONE STEP: every instruction that stays within its method -/
section QONE
variable {p : Program} {l : Launch} {e : Env} {R : Room} {s : State} {m : MethodId} {args : Array Value} {below : List Frame} {meth : Method} {c : Code} {Q : State → Prop}
variable {D : va_G} {b : Option Nat} {A : Nat → Prop} {H0 : Heap} {ws0 : va_W} {nL k0 j0 : Nat} {sc : Option (Nat × (Nat → Int32))} {own : Nat} {ini : Bool} {cc : ByteArray}
/-- a row that takes two numbers and gives one -/
theorem q_bin2 {f : Int32 → Int32 → Int32} {pc : Nat} {lv : List (Nat × Value)} {st : List Value} {h : q_H} {pt : q_P}
    (row : ∀ {H : Heap} {locs : List Loc} {ls : Array Slot} {str : List Value} {cells slots : Nat} {x y : Int32}, W p l e R s m args below meth c H locs cells slots Q (F0 m (pc + 1) ls (.int (f x y) :: str)) → W p l e R s m args below meth c H locs cells slots Q (F0 m pc ls (.int y :: .int x :: str)))
    (hs : q_bin f pc lv st h = some pt) (k : q_Go p l e R s m args below meth c Q D b A H0 ws0 nL k0 j0 pt) : q_Go p l e R s m args below meth c Q D b A H0 ws0 nL k0 j0 (pc, lv, st, h) := by
  obtain ⟨x, y, r, rfl, rfl⟩ := q_bin_inv hs
  intro H locs ls str cells slots (hF : q_Fr D b A s H0 ws0 nL h lv (.int y :: .int x :: r) H locs ls str) h1 h2
  obtain ⟨tys, ws, lvr, hW, hP, hK, hD, hS, hX, hl, hL, ⟨_, _, rfl, rfl, _, t, rfl, rfl, hV⟩, hn⟩ := hF
  exact row (k _ _ _ _ _ _ ⟨tys, ws, lvr, hW, hP, hK, hD, hS, hX, hl, hL, ⟨_, _, rfl, rfl, hV⟩, hn⟩ h1 h2)
/-- a number is pushed by a row -/
theorem q_push1 {v : Int32} {pc len : Nat} {lv : List (Nat × Value)} {st : List Value} {h : q_H}
    (row : ∀ {H : Heap} {locs : List Loc} {ls : Array Slot} {str : List Value} {cells slots : Nat}, W p l e R s m args below meth c H locs cells slots Q (F0 m (pc + len) ls (.int v :: str)) → W p l e R s m args below meth c H locs cells slots Q (F0 m pc ls str))
    (k : q_Go p l e R s m args below meth c Q D b A H0 ws0 nL k0 j0 (pc + len, lv, .int v :: st, h)) : q_Go p l e R s m args below meth c Q D b A H0 ws0 nL k0 j0 (pc, lv, st, h) := fun H locs ls str cells slots hF h1 h2 => row (q_push k hF h1 h2)
theorem q_cond1 {cnd : ClassFile.Cond} {off : Int} {t pc : Nat} {lv : List (Nat × Value)} {r : List Value} {h : q_H} {x : Int32} (hx : p.tables.exec = Jvm.exec) (hb : c.code = cc) (hd : decode cc pc = .ok (.ifCond cnd off, 3)) (ht : (pc : Int) + off = (t : Int))
    (k : q_Go p l e R s m args below meth c Q D b A H0 ws0 nL k0 j0 (q_c1 cnd t pc lv r h x 0)) : q_Go p l e R s m args below meth c Q D b A H0 ws0 nL k0 j0 (pc, lv, .int x :: r, h) := by
  intro H locs ls str cells slots (hF : q_Fr D b A s H0 ws0 nL h lv (.int x :: r) H locs ls str) h1 h2
  obtain ⟨tys, ws, lvr, hW, hP, hK, hD, hS, hX, hl, hL, ⟨_, tt, rfl, rfl, hV⟩, hn⟩ := hF
  have kk := q_branch (cells := cells) (slots := slots) k ⟨tys, ws, lvr, hW, hP, hK, hD, hS, hX, hl, hL, hV, hn⟩ h1 h2
  cases cnd with
  | eq => refine lv_if_eq hx hb hd ht (fun g => ?_) (fun g => ?_) <;> simpa [q_c1, g] using kk
  | ne => refine lv_if_ne hx hb hd ht (fun g => ?_) (fun g => ?_) <;> simpa [q_c1, g] using kk
  | lt => refine lv_if_lt hx hb hd ht (fun g => ?_) (fun g => ?_) <;> simpa [q_c1, g] using kk
  | ge => exact lv_if_ge hx hb hd ht (fun g => by simpa [q_c1, Int32.not_lt.mpr g] using kk) (fun g => by simpa [q_c1, Int32.not_le.mp g] using kk)
  | gt => refine lv_if_gt hx hb hd ht (fun g => ?_) (fun g => ?_) <;> simpa [q_c1, g] using kk
  | le => exact lv_if_le hx hb hd ht (fun g => by simpa [q_c1, Int32.not_lt.mpr g] using kk) (fun g => by simpa [q_c1, Int32.not_le.mp g] using kk)
theorem q_cond2 {cnd : ClassFile.Cond} {off : Int} {t pc : Nat} {lv : List (Nat × Value)} {r : List Value} {h : q_H} {x y : Int32} (hx : p.tables.exec = Jvm.exec) (hb : c.code = cc) (hd : decode cc pc = .ok (.if_icmp cnd off, 3)) (ht : (pc : Int) + off = (t : Int))
    (k : q_Go p l e R s m args below meth c Q D b A H0 ws0 nL k0 j0 (q_c1 cnd t pc lv r h x y)) : q_Go p l e R s m args below meth c Q D b A H0 ws0 nL k0 j0 (pc, lv, .int y :: .int x :: r, h) := by
  intro H locs ls str cells slots (hF : q_Fr D b A s H0 ws0 nL h lv (.int y :: .int x :: r) H locs ls str) h1 h2
  obtain ⟨tys, ws, lvr, hW, hP, hK, hD, hS, hX, hl, hL, ⟨_, _, rfl, rfl, _, tt, rfl, rfl, hV⟩, hn⟩ := hF
  have kk := q_branch (cells := cells) (slots := slots) k ⟨tys, ws, lvr, hW, hP, hK, hD, hS, hX, hl, hL, hV, hn⟩ h1 h2
  cases cnd with
  | eq => refine lv_icmp_eq hx hb hd ht (fun g => ?_) (fun g => ?_) <;> simpa [q_c1, g] using kk
  | ne => refine lv_icmp_ne hx hb hd ht (fun g => ?_) (fun g => ?_) <;> simpa [q_c1, g] using kk
  | lt => refine lv_icmp_lt hx hb hd ht (fun g => ?_) (fun g => ?_) <;> simpa [q_c1, g] using kk
  | ge => exact lv_icmp_ge hx hb hd ht (fun g => by simpa [q_c1, Int32.not_lt.mpr g] using kk) (fun g => by simpa [q_c1, Int32.not_le.mp g] using kk)
  | gt => refine lv_icmp_gt hx hb hd ht (fun g => ?_) (fun g => ?_) <;> simpa [q_c1, g] using kk
  | le => exact lv_icmp_le hx hb hd ht (fun g => by simpa [q_c1, Int32.not_lt.mpr g] using kk) (fun g => by simpa [q_c1, Int32.not_le.mp g] using kk)
theorem q_blt_inv {bb pc : Nat} {lv : List (Nat × Value)} {st : List Value} {h : q_H} {pt : q_P} (hs : q_blt bb pc lv st h = some pt) :
    (bb = 10 ∧ ∃ k r, st = .ref k :: r ∧ q_sum r ≤ 8 ∧ pt = (pc + 3, lv, r, h)) ∨ (bb = 11 ∧ ∃ x y r, st = .int y :: .int x :: r ∧ q_sum r ≤ 8 ∧ pt = (pc + 3, lv, .int (if x < y then y else x) :: r, h)) ∨
    (bb = 12 ∧ ∃ x y r, st = .int y :: .int x :: r ∧ q_sum r ≤ 8 ∧ pt = (pc + 3, lv, .int (if y < x then y else x) :: r, h)) ∨ (bb = 13 ∧ q_cpy pc lv st h = some pt) := by
  unfold q_blt at hs
  split at hs
  · rename_i hb
    split at hs
    · split at hs
      · rename_i h2; cases hs; exact Or.inl ⟨hb, _, _, rfl, h2, rfl⟩
      · cases hs
    · cases hs
  · split at hs
    · rename_i hb
      split at hs
      · split at hs
        · rename_i h2; cases hs; exact Or.inr (Or.inl ⟨hb, _, _, _, rfl, h2, rfl⟩)
        · cases hs
      · cases hs
    · split at hs
      · rename_i hb
        split at hs
        · split at hs
          · rename_i h2; cases hs; exact Or.inr (Or.inr (Or.inl ⟨hb, _, _, _, rfl, h2, rfl⟩))
          · cases hs
        · cases hs
      · split at hs
        · rename_i hb; exact Or.inr (Or.inr (Or.inr ⟨hb, hs⟩))
        · cases hs
theorem q_spec {cp a bb pc : Nat} {lv : List (Nat × Value)} {st : List Value} {h : q_H} {pt : q_P} (E : q_Env p s m args meth c R H0 A b sc own ini nL cc) (hd : decode cc pc = .ok (.invokespecial cp, 3)) (n11 : bb ≠ 11) (n12 : bb ≠ 12) (n13 : bb ≠ 13) (hw : q_lki own cp a bb)
    (hs : q_blt bb pc lv st h = some pt) (k : q_Go p l e R s m args below meth c Q D b A H0 ws0 nL k0 j0 pt) : q_Go p l e R s m args below meth c Q D b A H0 ws0 nL k0 j0 (pc, lv, st, h) := by
  obtain ⟨hx, hb, hml, hown, hts, hA, hRf, hRl, -, -, -⟩ := E
  intro H locs ls str cells slots (hF : q_Fr D b A s H0 ws0 nL h lv st H locs ls str) (h1 : cells + k0 = q_cc h) (h2 : slots + j0 = q_ss h)
  obtain ⟨tys, ws, lvr, hW, hP, hK, hD, hS, hX, hl, hL, hV, hn⟩ := hF
  rcases q_blt_inv hs with ⟨h9, k9, r, rfl, h8, rfl⟩ | ⟨h9, -⟩ | ⟨h9, -⟩ | ⟨h9, -⟩
  · obtain ⟨_, t, rfl, ⟨ad, h3, rfl⟩, hV⟩ := hV
    have hsum : (t.map fun v => v.category).sum ≤ 8 := by have := hV.sum; unfold q_sum at this h8; omega
    refine W.objInit hx hb hown (hts _ (q_in (hw.2.2.1 h9) rfl)) (hts _ (q_in q_oinst rfl)) (hts _ (q_in q_ocode rfl)) rfl (by rw [hml]; exact hl.1) rfl hd hRf ?_ (k _ _ _ _ _ _ ⟨tys, ws, lvr, hW, hP, hK, hD, hS, hX, hl, hL, hV, hn⟩ h1 h2)
    have h7 := lv_room (m := m) (pc := pc) (ls := ls) (rest := .ref ad :: t) hsum
    show 2 * (F0 m pc ls (.ref ad :: t)).monitorRoom + (t.map fun v => v.category).sum + 12 ≤ R.locals
    omega
  · exact absurd h9 n11
  · exact absurd h9 n12
  · exact absurd h9 n13
theorem q_stat {cp a bb pc : Nat} {lv : List (Nat × Value)} {st : List Value} {h : q_H} {pt : q_P} (E : q_Env p s m args meth c R H0 A b sc own ini nL cc) (hd : decode cc pc = .ok (.invokestatic cp, 3)) (n10 : bb ≠ 10) (hw : q_lki own cp a bb) (hc : q_cc pt.2.2.2 ≤ R.cells + k0) (hss : q_ss pt.2.2.2 ≤ R.slots + j0)
    (hs : q_blt bb pc lv st h = some pt) (k : q_Go p l e R s m args below meth c Q D b A H0 ws0 nL k0 j0 pt) : q_Go p l e R s m args below meth c Q D b A H0 ws0 nL k0 j0 (pc, lv, st, h) := by
  have E' := E
  obtain ⟨hx, hb, hml, hown, hts, hA, hRf, hRl, -, -, -⟩ := E
  rcases q_blt_inv hs with ⟨h9, -⟩ | ⟨h9, x, y, r, rfl, h8, rfl⟩ | ⟨h9, x, y, r, rfl, h8, rfl⟩ | ⟨h9, hs⟩
  · exact absurd h9 n10
  · intro H locs ls str cells slots (hF : q_Fr D b A s H0 ws0 nL h lv (.int y :: .int x :: r) H locs ls str) (h1 : cells + k0 = q_cc h) (h2 : slots + j0 = q_ss h)
    obtain ⟨tys, ws, lvr, hW, hP, hK, hD, hS, hX, hl, hL, ⟨_, _, rfl, rfl, _, t, rfl, rfl, hV⟩, hn⟩ := hF
    have hsum : (t.map fun v => v.category).sum ≤ 8 := by have := hV.sum; unfold q_sum at this h8; omega
    have hc' : q_cc h ≤ R.cells + k0 := hc
    have hs' : q_ss h ≤ R.slots + j0 := hss
    exact va_mmax hx hb (by rw [hml, hl.1]) hown (hts _ (q_in (hw.2.2.2.1 h9) rfl)) (hts _ (q_in q_maxS rfl)) (hts _ (q_in q_mathI rfl)) (hts _ (q_in q_maxC rfl)) hRf (by omega) (by omega) (by omega) hd (k _ _ _ _ _ _ ⟨tys, ws, lvr, hW, hP, hK, hD, hS, hX, hl, hL, ⟨_, _, rfl, rfl, hV⟩, hn⟩ h1 h2)
  · intro H locs ls str cells slots (hF : q_Fr D b A s H0 ws0 nL h lv (.int y :: .int x :: r) H locs ls str) (h1 : cells + k0 = q_cc h) (h2 : slots + j0 = q_ss h)
    obtain ⟨tys, ws, lvr, hW, hP, hK, hD, hS, hX, hl, hL, ⟨_, _, rfl, rfl, _, t, rfl, rfl, hV⟩, hn⟩ := hF
    have hsum : (t.map fun v => v.category).sum ≤ 8 := by have := hV.sum; unfold q_sum at this h8; omega
    have hc' : q_cc h ≤ R.cells + k0 := hc
    have hs' : q_ss h ≤ R.slots + j0 := hss
    exact va_mmin hx hb (by rw [hml, hl.1]) hown (hts _ (q_in (hw.2.2.2.2.1 h9) rfl)) (hts _ (q_in q_minS rfl)) (hts _ (q_in q_mathI rfl)) (hts _ (q_in q_minC rfl)) hRf (by omega) (by omega) (by omega) hd (k _ _ _ _ _ _ ⟨tys, ws, lvr, hW, hP, hK, hD, hS, hX, hl, hL, ⟨_, _, rfl, rfl, hV⟩, hn⟩ h1 h2)
  · exact q_copy E' hd (hw.2.2.2.2.2 h9) hs k
/-- ONE STEP -/
theorem q_step {i : Instr} {len a bb pc : Nat} {lv : List (Nat × Value)} {st : List Value} {h : q_H} {pt : q_P} (E : q_Env p s m args meth c R H0 A b sc own ini nL cc) (hd : decode cc pc = .ok (i, len)) (hk : q_lok nL own i len a bb pc) (hc : q_cc pt.2.2.2 ≤ R.cells + k0) (hss : q_ss pt.2.2.2 ≤ R.slots + j0)
    (hs : q_st sc own ini i len a bb pc lv st h = some pt) (k : q_Go p l e R s m args below meth c Q D b A H0 ws0 nL k0 j0 pt) : q_Go p l e R s m args below meth c Q D b A H0 ws0 nL k0 j0 (pc, lv, st, h) := by
  have hx := E.1
  have hb := E.2.1
  have hown := E.2.2.2.1
  have hts := E.2.2.2.2.1
  cases i with
  | iconst n => cases (show len = 1 from hk); cases hs; exact q_push1 (fun kk => lv_iconst hx hb hd rfl kk) k
  | bipush n => cases (show len = 2 from hk); cases hs; exact q_push1 (fun kk => lv_bipush hx hb hd rfl kk) k
  | sipush n => cases (show len = 3 from hk); cases hs; exact q_push1 (fun kk => lv_sipush hx hb hd rfl kk) k
  | ldc cp =>
    obtain ⟨rfl, hw⟩ := hk
    dsimp only [q_st] at hs
    split at hs
    · rename_i h0; cases hs; exact q_push1 (fun kk => lv_ldc hx hb hown (hts _ (q_in (hw h0) rfl)) hd kk) k
    · cases hs
  | ldc_w cp =>
    obtain ⟨rfl, hw⟩ := hk
    dsimp only [q_st] at hs
    split at hs
    · rename_i h0; cases hs; exact q_push1 (fun kk => lv_ldcw hx hb hown (hts _ (q_in (hw h0) rfl)) hd kk) k
    · cases hs
  | iload_n n => cases (show len = 1 from hk); exact q_iload (fun g kk => lv_iload_n hx hb hd rfl g kk) hs k
  | iload n => cases (show len = 2 from hk); exact q_iload (fun g kk => lv_iload hx hb hd g kk) hs k
  | aload_n n => cases (show len = 1 from hk); exact q_aload (fun g kk => lv_aload_n hx hb hd rfl g kk) hs k
  | aload n => cases (show len = 2 from hk); exact q_aload (fun g kk => lv_aload hx hb hd g kk) hs k
  | istore_n n => obtain ⟨rfl, hi⟩ := hk; exact q_istore hi (fun g1 g2 kk => lv_istore_n hx hb hd rfl g1 hi g2 kk) hs k
  | istore n => obtain ⟨rfl, hi⟩ := hk; exact q_istore hi (fun g1 g2 kk => lv_istore hx hb hd g1 hi g2 kk) hs k
  | astore_n n => obtain ⟨rfl, hi⟩ := hk; exact q_astore hi (fun g1 g2 kk => lv_astore_n hx hb hd rfl g1 hi g2 kk) hs k
  | astore n => obtain ⟨rfl, hi⟩ := hk; exact q_astore hi (fun g1 g2 kk => lv_astore hx hb hd g1 hi g2 kk) hs k
  | iinc j n =>
    cases (show len = 3 from hk)
    dsimp only [q_st] at hs
    split at hs
    · rename_i x hx9
      cases hs
      intro H locs ls str cells slots (hF : q_Fr D b A s H0 ws0 nL h lv st H locs ls str) h1 h2
      obtain ⟨tys, ws, lvr, hW, hP, hK, hD, hS, hX, hl, hL, hV, hn⟩ := hF
      obtain ⟨k9, x9, a1, a2⟩ := hL.look hx9
      cases a2
      exact lv_iinc hx hb hd hl a1 rfl (q_lt_of hn hx9) rfl (fun ls' hl' => k _ _ _ _ _ _ ⟨tys, ws, _, hW, hP, hK, hD, hS, hX, hl', hL.sto (show q_V (q_am b ws) (.int _) (.int _) from rfl), hV, q_sv_lt hn (q_lt_of hn hx9)⟩ h1 h2)
    · cases hs
  | iadd => cases (show len = 1 from hk); exact q_bin2 (fun kk => lv_iadd hx hb hd kk) hs k
  | isub => cases (show len = 1 from hk); exact q_bin2 (fun kk => lv_isub hx hb hd kk) hs k
  | imul => cases (show len = 1 from hk); exact q_bin2 (fun kk => lv_imul hx hb hd kk) hs k
  | iand => cases (show len = 1 from hk); exact q_bin2 (fun kk => lv_iand hx hb hd kk) hs k
  | ior => cases (show len = 1 from hk); exact q_bin2 (fun kk => lv_ior hx hb hd kk) hs k
  | ixor => cases (show len = 1 from hk); exact q_bin2 (fun kk => lv_ixor hx hb hd kk) hs k
  | ishl => cases (show len = 1 from hk); exact q_bin2 (fun kk => lv_ishl hx hb hd kk) hs k
  | iushr => cases (show len = 1 from hk); exact q_bin2 (f := fun x y => (x.toUInt32 >>> (y.toUInt32 &&& Int32.toUInt32 31)).toInt32) (fun kk => lv_iushr hx hb hd rfl kk) hs k
  | idiv =>
    cases (show len = 1 from hk)
    dsimp only [q_st] at hs
    split at hs
    · split at hs
      · cases hs
      · rename_i y x r h0
        cases hs
        intro H locs ls str cells slots (hF : q_Fr D b A s H0 ws0 nL h lv (.int y :: .int x :: r) H locs ls str) h1 h2
        obtain ⟨tys, ws, lvr, hW, hP, hK, hD, hS, hX, hl, hL, ⟨_, _, rfl, rfl, _, t, rfl, rfl, hV⟩, hn⟩ := hF
        exact lv_idiv hx hb hd h0 (k _ _ _ _ _ _ ⟨tys, ws, lvr, hW, hP, hK, hD, hS, hX, hl, hL, ⟨_, _, rfl, rfl, hV⟩, hn⟩ h1 h2)
    · cases hs
  | irem =>
    cases (show len = 1 from hk)
    dsimp only [q_st] at hs
    split at hs
    · split at hs
      · cases hs
      · rename_i y x r h0
        cases hs
        intro H locs ls str cells slots (hF : q_Fr D b A s H0 ws0 nL h lv (.int y :: .int x :: r) H locs ls str) h1 h2
        obtain ⟨tys, ws, lvr, hW, hP, hK, hD, hS, hX, hl, hL, ⟨_, _, rfl, rfl, _, t, rfl, rfl, hV⟩, hn⟩ := hF
        exact lv_irem hx hb hd h0 (k _ _ _ _ _ _ ⟨tys, ws, lvr, hW, hP, hK, hD, hS, hX, hl, hL, ⟨_, _, rfl, rfl, hV⟩, hn⟩ h1 h2)
    · cases hs
  | ineg =>
    cases (show len = 1 from hk)
    dsimp only [q_st] at hs
    split at hs
    · rename_i x r
      cases hs
      intro H locs ls str cells slots (hF : q_Fr D b A s H0 ws0 nL h lv (.int x :: r) H locs ls str) h1 h2
      obtain ⟨tys, ws, lvr, hW, hP, hK, hD, hS, hX, hl, hL, ⟨_, t, rfl, rfl, hV⟩, hn⟩ := hF
      exact lv_ineg hx hb hd (k _ _ _ _ _ _ ⟨tys, ws, lvr, hW, hP, hK, hD, hS, hX, hl, hL, ⟨_, _, rfl, rfl, hV⟩, hn⟩ h1 h2)
    · cases hs
  | i2l =>
    cases (show len = 1 from hk)
    dsimp only [q_st] at hs
    split at hs
    · rename_i x r
      cases hs
      intro H locs ls str cells slots (hF : q_Fr D b A s H0 ws0 nL h lv (.int x :: r) H locs ls str) h1 h2
      obtain ⟨tys, ws, lvr, hW, hP, hK, hD, hS, hX, hl, hL, ⟨_, t, rfl, rfl, hV⟩, hn⟩ := hF
      exact lv_i2l hx hb hd rfl (k _ _ _ _ _ _ ⟨tys, ws, lvr, hW, hP, hK, hD, hS, hX, hl, hL, ⟨_, _, rfl, rfl, hV⟩, hn⟩ h1 h2)
    · cases hs
  | lcmp =>
    cases (show len = 1 from hk)
    dsimp only [q_st] at hs
    split at hs
    · rename_i y x r
      cases hs
      intro H locs ls str cells slots (hF : q_Fr D b A s H0 ws0 nL h lv (.long y :: .long x :: r) H locs ls str) h1 h2
      obtain ⟨tys, ws, lvr, hW, hP, hK, hD, hS, hX, hl, hL, ⟨_, _, rfl, rfl, _, t, rfl, rfl, hV⟩, hn⟩ := hF
      exact W.lcmp hx hb hd (k _ _ _ _ _ _ ⟨tys, ws, lvr, hW, hP, hK, hD, hS, hX, hl, hL, ⟨_, _, rfl, rfl, hV⟩, hn⟩ h1 h2)
    · cases hs
  | dup =>
    cases (show len = 1 from hk)
    dsimp only [q_st] at hs
    split at hs
    · split at hs
      · rename_i v r h9
        cases hs
        intro H locs ls str cells slots (hF : q_Fr D b A s H0 ws0 nL h lv (v :: r) H locs ls str) h1 h2
        obtain ⟨tys, ws, lvr, hW, hP, hK, hD, hS, hX, hl, hL, ⟨w, t, rfl, hv, hV⟩, hn⟩ := hF
        exact lv_dup hx hb hd (by rw [← hv.cat]; exact h9) (k _ _ _ _ _ _ ⟨tys, ws, lvr, hW, hP, hK, hD, hS, hX, hl, hL, ⟨_, _, rfl, hv, _, _, rfl, hv, hV⟩, hn⟩ h1 h2)
      · cases hs
    · cases hs
  | dup2 =>
    cases (show len = 1 from hk)
    dsimp only [q_st] at hs
    split at hs
    · split at hs
      · rename_i v v2 r h9
        cases hs
        intro H locs ls str cells slots (hF : q_Fr D b A s H0 ws0 nL h lv (v :: v2 :: r) H locs ls str) h1 h2
        obtain ⟨tys, ws, lvr, hW, hP, hK, hD, hS, hX, hl, hL, ⟨w, _, rfl, hv, w2, t, rfl, hv2, hV⟩, hn⟩ := hF
        exact lv_dup2_11 hx hb hd (by rw [← hv.cat]; exact h9.1) (by rw [← hv2.cat]; exact h9.2) (k _ _ _ _ _ _ ⟨tys, ws, lvr, hW, hP, hK, hD, hS, hX, hl, hL, ⟨_, _, rfl, hv, _, _, rfl, hv2, _, _, rfl, hv, _, _, rfl, hv2, hV⟩, hn⟩ h1 h2)
      · cases hs
    · cases hs
  | pop =>
    cases (show len = 1 from hk)
    dsimp only [q_st] at hs
    split at hs
    · split at hs
      · rename_i v r h9
        cases hs
        intro H locs ls str cells slots (hF : q_Fr D b A s H0 ws0 nL h lv (v :: r) H locs ls str) h1 h2
        obtain ⟨tys, ws, lvr, hW, hP, hK, hD, hS, hX, hl, hL, ⟨w, t, rfl, hv, hV⟩, hn⟩ := hF
        exact lv_pop hx hb hd (by rw [← hv.cat]; exact h9) (k _ _ _ _ _ _ ⟨tys, ws, lvr, hW, hP, hK, hD, hS, hX, hl, hL, hV, hn⟩ h1 h2)
      · cases hs
    · cases hs
  | goto off =>
    obtain ⟨rfl, ht⟩ := hk
    cases hs
    intro H locs ls str cells slots hF h1 h2
    exact lv_goto hx hb hd ht (k _ _ _ _ _ _ hF h1 h2)
  | ifCond cnd off =>
    obtain ⟨rfl, ht⟩ := hk
    dsimp only [q_st] at hs
    split at hs
    · cases hs; exact q_cond1 hx hb hd ht k
    · cases hs
  | if_icmp cnd off =>
    obtain ⟨rfl, ht⟩ := hk
    dsimp only [q_st] at hs
    split at hs
    · cases hs; exact q_cond2 hx hb hd ht k
    · cases hs
  | tableswitch d lo hi offs =>
    obtain ⟨hd0, hoffs⟩ := hk
    dsimp only [q_st] at hs
    split at hs
    · rename_i x r
      split at hs
      · rename_i h9
        cases hs
        intro H locs ls str cells slots (hF : q_Fr D b A s H0 ws0 nL h lv (.int x :: r) H locs ls str) h1 h2
        obtain ⟨tys, ws, lvr, hW, hP, hK, hD, hS, hX, hl, hL, ⟨_, t, rfl, rfl, hV⟩, hn⟩ := hF
        exact lv_tableOut hx hb hd h9 (Int.toNat_of_nonneg hd0).symm (k _ _ _ _ _ _ ⟨tys, ws, lvr, hW, hP, hK, hD, hS, hX, hl, hL, hV, hn⟩ h1 h2)
      · rename_i h9
        split at hs
        · rename_i off ho
          cases hs
          intro H locs ls str cells slots (hF : q_Fr D b A s H0 ws0 nL h lv (.int x :: r) H locs ls str) h1 h2
          obtain ⟨tys, ws, lvr, hW, hP, hK, hD, hS, hX, hl, hL, ⟨_, t, rfl, rfl, hV⟩, hn⟩ := hF
          exact lv_tableIn hx hb hd (fun g => h9 (Or.inl g)) (fun g => h9 (Or.inr g)) ho (Int.toNat_of_nonneg (hoffs off (Array.mem_toList_iff.mpr (Array.mem_of_getElem? ho)))).symm (k _ _ _ _ _ _ ⟨tys, ws, lvr, hW, hP, hK, hD, hS, hX, hl, hL, hV, hn⟩ h1 h2)
        · cases hs
    · cases hs
  | getfield cp => obtain ⟨rfl, ha, hw⟩ := hk; exact q_getf E hd ha hw hs k
  | putfield cp => obtain ⟨rfl, ha, hw⟩ := hk; exact q_putf E hd ha hw hs k
  | iaload => cases (show len = 1 from hk); exact q_iald E hd hs k
  | baload => cases (show len = 1 from hk); exact q_bald E hd hs k
  | iastore => cases (show len = 1 from hk); exact q_iast E hd hs k
  | bastore => cases (show len = 1 from hk); exact q_bast E hd hs k
  | laload =>
    cases (show len = 1 from hk)
    dsimp only [q_st] at hs
    split at hs
    · split at hs
      · rename_i h9; cases hs; exact q_jald (st := []) (pt := (0, [], [], h)) E hd h9.1 h9.2 k
      · cases hs
    · cases hs
  | lastore =>
    cases (show len = 1 from hk)
    dsimp only [q_st] at hs
    split at hs
    · split at hs
      · rename_i h9; cases hs; exact q_jast E hd h9.1 h9.2 k
      · cases hs
    · cases hs
  | aaload => cases (show len = 1 from hk); exact q_aald E hd hs k
  | aastore => cases (show len = 1 from hk); exact q_aast E hd hs k
  | arraylength =>
    cases (show len = 1 from hk)
    dsimp only [q_st] at hs
    split at hs
    · split at hs
      · rename_i k9 r h9
        split at hs
        · rename_i L xs
          cases hs
          intro H locs ls str cells slots (hF : q_Fr D b A s H0 ws0 nL h lv (.ref k9 :: r) H locs ls str) h1 h2
          obtain ⟨tys, ws, lvr, hW, hP, hK, hD, hS, hX, hl, hL, ⟨_, t, rfl, ⟨ad, h3, rfl⟩, hV⟩, hn⟩ := hF
          obtain ⟨ba, g1, g2, g3, g4⟩ := E.2.2.2.2.2.2.2.2.2.1 L xs rfl
          have hab : ad = ba := by
            unfold q_am at h3
            rw [if_pos h9, g1] at h3
            exact (Option.some.inj h3).symm
          subst hab
          exact va_slen hx hb g2 g3 g4 hS hd (k _ _ _ _ _ _ ⟨tys, ws, lvr, hW, hP, hK, hD, hS, hX, hl, hL, ⟨_, _, rfl, rfl, hV⟩, hn⟩ h1 h2)
        · cases hs
      · cases hs
    · cases hs
  | newarray at9 =>
    cases (show len = 2 from hk)
    dsimp only [q_st] at hs
    split at hs
    · exact q_newi E hd rfl q_arrI rfl (Or.inl ⟨Or.inl rfl, rfl⟩) (by decide) hc hss hs k
    · exact q_newi E hd rfl q_arrZ rfl (Or.inl ⟨Or.inr rfl, rfl⟩) (by decide) hc hss hs k
    · exact q_newi E hd rfl q_arrJ rfl (Or.inr ⟨rfl, rfl⟩) (by decide) hc hss hs k
    · cases hs
  | anewarray cp =>
    obtain ⟨rfl, hw⟩ := hk
    dsimp only [q_st] at hs
    split at hs
    · rename_i h9; exact q_newr E hd h9 hw hc hss hs k
    · cases hs
  | new cp =>
    obtain ⟨rfl, hw⟩ := hk
    dsimp only [q_st] at hs
    split at hs
    · rename_i h9; cases hs; exact q_newo E hd h9.2.1 h9.2.2 (hw h9.1) hc hss k
    · cases hs
  | invokespecial cp => obtain ⟨rfl, n1, n2, n3, hw⟩ := hk; exact q_spec E hd n1 n2 n3 hw hs k
  | invokestatic cp => obtain ⟨rfl, n1, hw⟩ := hk; exact q_stat E hd n1 hw hc hss hs k
  | _ => cases hs
end QONE
