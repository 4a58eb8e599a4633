/-! arrays -/
section QARR
variable {p : Program} {l : Launch} {e : Env} {R : Room} {s : State} {m : MethodId} {args : Array Value} {below : List Frame} {meth : Method} {c : Code} {Q : State → Prop}
variable {D : va_G} {b : Option Nat} {A : Nat → Prop} {H0 : Heap} {ws0 : va_W} {nL k0 j0 : Nat} {sc : Option (Nat × (Nat → Int32))} {own : Nat} {ini : Bool} {cc : ByteArray}
theorem q_insP {i : Int32} {n : Nat} (h : q_ins i n = true) : vp_in i n := by
  unfold q_ins at h
  unfold vp_in
  simpa using h
theorem q_ald_inv {kd pc : Nat} {lv : List (Nat × Value)} {st : List Value} {h : q_H} {pt : q_P} (hs : q_ald sc kd pc lv st h = some pt) :
    ∃ i k r, st = .int i :: .ref k :: r ∧ ((k = q_SC ∧ kd = 20 ∧ ∃ L xs, sc = some (L, xs) ∧ q_ins i L = true ∧ pt = (pc + 1, lv, .int (xs i.toNatClampNeg) :: r, h)) ∨ (True ∧ q_kd h k = kd ∧ q_ins i (q_ln h k) = true ∧ pt = (pc + 1, lv, .int (q_im h k i.toNatClampNeg) :: r, h))) := by
  unfold q_ald at hs
  split at hs
  · split at hs
    · split at hs
      · rename_i hk
        split at hs
        · rename_i h2
          cases hs
          exact ⟨_, _, _, rfl, Or.inl ⟨hk, h2.1, _, _, rfl, h2.2, rfl⟩⟩
        · cases hs
      · split at hs
        · rename_i h2
          cases hs
          exact ⟨_, _, _, rfl, Or.inr ⟨trivial, h2.1, h2.2, rfl⟩⟩
        · cases hs
    · split at hs
      · rename_i h2
        cases hs
        exact ⟨_, _, _, rfl, Or.inr ⟨trivial, h2.1, h2.2, rfl⟩⟩
      · cases hs
  · cases hs
/-- an int or boolean array in the world -/
theorem q_at_arr {tys : List (ClassId × FieldType)} {h : q_H} {ws : va_W} {k a kd : Nat} (hW : q_Wd b tys h ws) (hk : q_kd h k = kd) (hkd : kd = 20 ∨ kd = 21) (ha : q_am b ws k = some a) :
    ∃ (cA : ClassId) (t0 : Nat), ws[k]? = some (a, .inl (cA, (q_ln h k, .inl (q_im h k)))) ∧ tys[t0]? = some (cA, q_at kd) := by
  obtain ⟨e9, h4, h5, h6⟩ := q_at_ref hW (by rw [hk]; omega) ha
  rcases h6 with ⟨h7, -⟩ | ⟨-, cA, t0, h8, rfl⟩ | ⟨h7, -⟩ | ⟨h7, -⟩
  · omega
  · exact ⟨cA, t0, h4, by rw [← hk]; exact h8⟩
  · omega
  · omega
theorem q_at_long {tys : List (ClassId × FieldType)} {h : q_H} {ws : va_W} {k a : Nat} (hW : q_Wd b tys h ws) (hk : q_kd h k = 22) (ha : q_am b ws k = some a) :
    ∃ (cA : ClassId) (t0 : Nat), ws[k]? = some (a, .inl (cA, (q_ln h k, .inr (.inl (q_jm h k))))) ∧ tys[t0]? = some (cA, .long) := by
  obtain ⟨e9, h4, h5, h6⟩ := q_at_ref hW (by rw [hk]; omega) ha
  rcases h6 with ⟨h7, -⟩ | ⟨h7, -⟩ | ⟨-, cA, t0, h8, rfl⟩ | ⟨h7, -⟩
  · omega
  · omega
  · rw [hk] at h8; exact ⟨cA, t0, h4, h8⟩
  · omega
theorem q_at_refs {tys : List (ClassId × FieldType)} {h : q_H} {ws : va_W} {k a : Nat} (hW : q_Wd b tys h ws) (hk : q_kd h k = 23 ∨ q_kd h k = 24) (ha : q_am b ws k = some a) :
    ∃ (cA : ClassId) (t0 : Nat) (f' : Nat → Option Nat), ws[k]? = some (a, .inl (cA, (q_ln h k, .inr (.inr (.inr (.inr f')))))) ∧ tys[t0]? = some (cA, q_at (q_kd h k)) ∧ ∀ j, q_Ro (q_am b ws) (q_rm h k j) (f' j) := by
  obtain ⟨e9, h4, h5, h6⟩ := q_at_ref hW (by omega) ha
  rcases h6 with ⟨h7, -⟩ | ⟨h7, -⟩ | ⟨h7, -⟩ | ⟨-, cA, t0, f', h8, rfl, h9⟩
  · omega
  · omega
  · omega
  · exact ⟨cA, t0, f', h4, h8, h9⟩
theorem q_iald {pc : Nat} {lv : List (Nat × Value)} {st : List Value} {h : q_H} {pt : q_P} (E : q_Env p s m args meth c R H0 A b sc own ini nL cc) (hd : decode cc pc = .ok (.iaload, 1))
    (hs : q_ald sc 20 pc lv st h = some pt) (k : q_Go p l e R s m args below meth c Q D b A H0 ws0 nL k0 j0 pt) : q_Go p l e R s m args below meth c Q D b A H0 ws0 nL k0 j0 (pc, lv, st, h) := by
  obtain ⟨hx, hb, hml, hown, hts, hA, -, -, -, hsc, -⟩ := E
  intro H locs ls str cells slots (hF : q_Fr D b A s H0 ws0 nL h lv st H locs ls str) (h1 : cells + k0 = q_cc h) (h2 : slots + j0 = q_ss h)
  obtain ⟨tys, ws, lvr, hW, hP, hK, hD, hS, hX, hl, hL, hV, hn⟩ := hF
  obtain ⟨i, k9, r, rfl, ⟨hk, -, L, xs, hxs, hin, rfl⟩ | ⟨hk, hkd, hin, rfl⟩⟩ := q_ald_inv hs
  · obtain ⟨_, _, rfl, rfl, _, t, rfl, ⟨ad, h3, rfl⟩, hV⟩ := hV
    obtain ⟨ba, g1, g2, g3, g4⟩ := hsc L xs hxs
    have hab : ad = ba := by
      unfold q_am at h3
      rw [if_pos hk, g1] at h3
      exact (Option.some.inj h3).symm
    subst hab
    exact va_sld hx hb g2 g3 g4 hS (q_insP hin) hd (k _ _ _ _ _ _ ⟨tys, ws, lvr, hW, hP, hK, hD, hS, hX, hl, hL, ⟨_, _, rfl, rfl, hV⟩, hn⟩ h1 h2)
  · obtain ⟨_, _, rfl, rfl, _, t, rfl, ⟨ad, h3, rfl⟩, hV⟩ := hV
    obtain ⟨cA, t0, h4, h5⟩ := q_at_arr hW hkd (Or.inl rfl) h3
    exact va_iald hx hb hK hP k9 t0 h4 h5 (q_insP hin) hd (k _ _ _ _ _ _ ⟨tys, ws, lvr, hW, hP, hK, hD, hS, hX, hl, hL, ⟨_, _, rfl, rfl, hV⟩, hn⟩ h1 h2)
theorem q_bald {pc : Nat} {lv : List (Nat × Value)} {st : List Value} {h : q_H} {pt : q_P} (E : q_Env p s m args meth c R H0 A b sc own ini nL cc) (hd : decode cc pc = .ok (.baload, 1))
    (hs : q_ald none 21 pc lv st h = some pt) (k : q_Go p l e R s m args below meth c Q D b A H0 ws0 nL k0 j0 pt) : q_Go p l e R s m args below meth c Q D b A H0 ws0 nL k0 j0 (pc, lv, st, h) := by
  obtain ⟨hx, hb, hml, hown, hts, hA, -, -, -, hsc, -⟩ := E
  intro H locs ls str cells slots (hF : q_Fr D b A s H0 ws0 nL h lv st H locs ls str) (h1 : cells + k0 = q_cc h) (h2 : slots + j0 = q_ss h)
  obtain ⟨tys, ws, lvr, hW, hP, hK, hD, hS, hX, hl, hL, hV, hn⟩ := hF
  obtain ⟨i, k9, r, rfl, ⟨hk, hz, -⟩ | ⟨hk, hkd, hin, rfl⟩⟩ := q_ald_inv hs
  · cases hz
  · obtain ⟨_, _, rfl, rfl, _, t, rfl, ⟨ad, h3, rfl⟩, hV⟩ := hV
    obtain ⟨cA, t0, h4, h5⟩ := q_at_arr hW hkd (Or.inr rfl) h3
    exact va_zald hx hb hK hP k9 t0 h4 h5 (q_insP hin) hd (k _ _ _ _ _ _ ⟨tys, ws, lvr, hW, hP, hK, hD, hS, hX, hl, hL, ⟨_, _, rfl, rfl, hV⟩, hn⟩ h1 h2)
theorem q_ast_inv {kd pc : Nat} {lv : List (Nat × Value)} {st : List Value} {h : q_H} {pt : q_P} (hs : q_ast kd pc lv st h = some pt) :
    ∃ x i k r, st = .int x :: .int i :: .ref k :: r ∧ q_kd h k = kd ∧ q_ins i (q_ln h k) = true ∧ (kd = 20 ∨ x = 0 ∨ x = 1) ∧ pt = (pc + 1, lv, r, q_si h k i.toNatClampNeg x) := by
  unfold q_ast at hs
  split at hs
  · split at hs
    · rename_i h2
      cases hs
      exact ⟨_, _, _, _, rfl, h2.1.1, h2.1.2, h2.2, rfl⟩
    · cases hs
  · cases hs
theorem q_Wseti {tys : List (ClassId × FieldType)} {h : q_H} {ws : va_W} {k9 ad kd t0 j : Nat} {x : Int32} {cA : ClassId} (hW : q_Wd b tys h ws) (hkd : q_kd h k9 = kd) (h8 : kd = 20 ∨ kd = 21) (h4 : ws[k9]? = some (ad, .inl (cA, (q_ln h k9, .inl (q_im h k9))))) (h5 : tys[t0]? = some (cA, q_at kd)) :
    q_Wd b tys (q_si h k9 j x) (ws.set k9 (ad, .inl (cA, (q_ln h k9, .inl (upd (q_im h k9) j x))))) := by
  refine hW.set h4 rfl rfl rfl (fun j hj => ⟨q_up_row _ _ _ _ hj, rfl, rfl⟩) (Or.inr (Or.inl ⟨by rw [hkd]; exact h8, cA, t0, by rw [hkd]; exact h5, ?_⟩))
  exact congrArg (fun f => (Sum.inl (cA, (q_ln h k9, Sum.inl f)) : va_E)) (q_up_upd _ _ _ _).symm
theorem q_iast {pc : Nat} {lv : List (Nat × Value)} {st : List Value} {h : q_H} {pt : q_P} (E : q_Env p s m args meth c R H0 A b sc own ini nL cc) (hd : decode cc pc = .ok (.iastore, 1))
    (hs : q_ast 20 pc lv st h = some pt) (k : q_Go p l e R s m args below meth c Q D b A H0 ws0 nL k0 j0 pt) : q_Go p l e R s m args below meth c Q D b A H0 ws0 nL k0 j0 (pc, lv, st, h) := by
  obtain ⟨hx, hb, hml, hown, hts, hA, -, -, -, hsc, -⟩ := E
  intro H locs ls str cells slots (hF : q_Fr D b A s H0 ws0 nL h lv st H locs ls str) (h1 : cells + k0 = q_cc h) (h2 : slots + j0 = q_ss h)
  obtain ⟨tys, ws, lvr, hW, hP, hK, hD, hS, hX, hl, hL, hV, hn⟩ := hF
  obtain ⟨x, i, k9, r, rfl, hkd, hin, -, rfl⟩ := q_ast_inv hs
  obtain ⟨_, _, rfl, rfl, _, _, rfl, rfl, _, t, rfl, ⟨ad, h3, rfl⟩, hV⟩ := hV
  obtain ⟨cA, t0, h4, h5⟩ := q_at_arr hW hkd (Or.inl rfl) h3
  have ham := q_am_set (b := b) (e := .inl (cA, (q_ln h k9, .inl (upd (q_im h k9) i.toNatClampNeg x)))) h4
  exact va_iast hx hb hK hP hD hS k9 t0 h4 h5 (q_insP hin) hd (fun H1 locs1 hP1 hD1 hS1 => k _ _ _ _ _ _ ⟨tys, _, lvr, q_Wseti hW hkd (Or.inl rfl) h4 h5, hP1, hK, hD1, hS1, by rw [ham]; exact hX, hl, by rw [ham]; exact hL, by rw [ham]; exact hV, hn⟩ h1 h2)
theorem q_bast {pc : Nat} {lv : List (Nat × Value)} {st : List Value} {h : q_H} {pt : q_P} (E : q_Env p s m args meth c R H0 A b sc own ini nL cc) (hd : decode cc pc = .ok (.bastore, 1))
    (hs : q_ast 21 pc lv st h = some pt) (k : q_Go p l e R s m args below meth c Q D b A H0 ws0 nL k0 j0 pt) : q_Go p l e R s m args below meth c Q D b A H0 ws0 nL k0 j0 (pc, lv, st, h) := by
  obtain ⟨hx, hb, hml, hown, hts, hA, -, -, -, hsc, -⟩ := E
  intro H locs ls str cells slots (hF : q_Fr D b A s H0 ws0 nL h lv st H locs ls str) (h1 : cells + k0 = q_cc h) (h2 : slots + j0 = q_ss h)
  obtain ⟨tys, ws, lvr, hW, hP, hK, hD, hS, hX, hl, hL, hV, hn⟩ := hF
  obtain ⟨x, i, k9, r, rfl, hkd, hin, hx01, rfl⟩ := q_ast_inv hs
  obtain ⟨_, _, rfl, rfl, _, _, rfl, rfl, _, t, rfl, ⟨ad, h3, rfl⟩, hV⟩ := hV
  obtain ⟨cA, t0, h4, h5⟩ := q_at_arr hW hkd (Or.inr rfl) h3
  have hz : vp_nar .boolean x = x := by
    rcases hx01 with h | h | h
    · cases h
    · rw [h]; decide +kernel
    · rw [h]; decide +kernel
  have ham := q_am_set (b := b) (e := .inl (cA, (q_ln h k9, .inl (upd (q_im h k9) i.toNatClampNeg x)))) h4
  exact va_zast hx hb hK hP hD hS k9 t0 h4 h5 (q_insP hin) hd (fun H1 locs1 hP1 hD1 hS1 => by
    rw [hz] at hP1 hD1
    exact k _ _ _ _ _ _ ⟨tys, _, lvr, q_Wseti hW hkd (Or.inr rfl) h4 h5, hP1, hK, hD1, hS1, by rw [ham]; exact hX, hl, by rw [ham]; exact hL, by rw [ham]; exact hV, hn⟩ h1 h2)
theorem q_jald {pc : Nat} {lv : List (Nat × Value)} {st : List Value} {h : q_H} {pt : q_P} {i : Int32} {k9 : Nat} {r : List Value} (E : q_Env p s m args meth c R H0 A b sc own ini nL cc) (hd : decode cc pc = .ok (.laload, 1))
    (hkd : q_kd h k9 = 22) (hin : q_ins i (q_ln h k9) = true) (k : q_Go p l e R s m args below meth c Q D b A H0 ws0 nL k0 j0 (pc + 1, lv, .long (q_jm h k9 i.toNatClampNeg) :: r, h)) : q_Go p l e R s m args below meth c Q D b A H0 ws0 nL k0 j0 (pc, lv, .int i :: .ref k9 :: r, h) := by
  obtain ⟨hx, hb, hml, hown, hts, hA, -, -, -, hsc, -⟩ := E
  intro H locs ls str cells slots (hF : q_Fr D b A s H0 ws0 nL h lv (.int i :: .ref k9 :: r) H locs ls str) (h1 : cells + k0 = q_cc h) (h2 : slots + j0 = q_ss h)
  obtain ⟨tys, ws, lvr, hW, hP, hK, hD, hS, hX, hl, hL, hV, hn⟩ := hF
  obtain ⟨_, _, rfl, rfl, _, t, rfl, ⟨ad, h3, rfl⟩, hV⟩ := hV
  obtain ⟨cA, t0, h4, h5⟩ := q_at_long hW hkd h3
  exact va_lald hx hb hK hP k9 t0 h4 h5 (q_insP hin) hd (k _ _ _ _ _ _ ⟨tys, ws, lvr, hW, hP, hK, hD, hS, hX, hl, hL, ⟨_, _, rfl, rfl, hV⟩, hn⟩ h1 h2)
theorem q_jast {pc : Nat} {lv : List (Nat × Value)} {h : q_H} {x : Int64} {i : Int32} {k9 : Nat} {r : List Value} (E : q_Env p s m args meth c R H0 A b sc own ini nL cc) (hd : decode cc pc = .ok (.lastore, 1))
    (hkd : q_kd h k9 = 22) (hin : q_ins i (q_ln h k9) = true) (k : q_Go p l e R s m args below meth c Q D b A H0 ws0 nL k0 j0 (pc + 1, lv, r, q_sj h k9 i.toNatClampNeg x)) : q_Go p l e R s m args below meth c Q D b A H0 ws0 nL k0 j0 (pc, lv, .long x :: .int i :: .ref k9 :: r, h) := by
  obtain ⟨hx, hb, hml, hown, hts, hA, -, -, -, hsc, -⟩ := E
  intro H locs ls str cells slots (hF : q_Fr D b A s H0 ws0 nL h lv (.long x :: .int i :: .ref k9 :: r) H locs ls str) (h1 : cells + k0 = q_cc h) (h2 : slots + j0 = q_ss h)
  obtain ⟨tys, ws, lvr, hW, hP, hK, hD, hS, hX, hl, hL, hV, hn⟩ := hF
  obtain ⟨_, _, rfl, rfl, _, _, rfl, rfl, _, t, rfl, ⟨ad, h3, rfl⟩, hV⟩ := hV
  obtain ⟨cA, t0, h4, h5⟩ := q_at_long hW hkd h3
  have ham := q_am_set (b := b) (e := .inl (cA, (q_ln h k9, .inr (.inl (vp_updL (q_jm h k9) i.toNatClampNeg x))))) h4
  refine va_last hx hb hK hP hD hS k9 t0 h4 h5 (q_insP hin) hd (fun H1 locs1 hP1 hD1 hS1 => k _ _ _ _ _ _ ⟨tys, _, lvr, ?_, hP1, hK, hD1, hS1, by rw [ham]; exact hX, hl, by rw [ham]; exact hL, by rw [ham]; exact hV, hn⟩ h1 h2)
  refine hW.set h4 rfl rfl rfl (fun j hj => ⟨rfl, rfl, q_up_row _ _ _ _ hj⟩) (Or.inr (Or.inr (Or.inl ⟨hkd, cA, t0, by rw [hkd]; exact h5, ?_⟩)))
  exact congrArg (fun f => (Sum.inl (cA, (q_ln h k9, Sum.inr (Sum.inl f))) : va_E)) (q_up_updL _ _ _ _).symm
theorem q_qld_inv {pc : Nat} {lv : List (Nat × Value)} {st : List Value} {h : q_H} {pt : q_P} (hs : q_qld pc lv st h = some pt) :
    ∃ i k r, st = .int i :: .ref k :: r ∧ (q_kd h k = 23 ∨ q_kd h k = 24) ∧ q_ins i (q_ln h k) = true ∧ pt = (pc + 1, lv, va_rf (q_rm h k i.toNatClampNeg) :: r, h) := by
  unfold q_qld at hs
  split at hs
  · split at hs
    · rename_i h2
      cases hs
      exact ⟨_, _, _, rfl, h2.1, h2.2, rfl⟩
    · cases hs
  · cases hs
theorem q_aald {pc : Nat} {lv : List (Nat × Value)} {st : List Value} {h : q_H} {pt : q_P} (E : q_Env p s m args meth c R H0 A b sc own ini nL cc) (hd : decode cc pc = .ok (.aaload, 1))
    (hs : q_qld pc lv st h = some pt) (k : q_Go p l e R s m args below meth c Q D b A H0 ws0 nL k0 j0 pt) : q_Go p l e R s m args below meth c Q D b A H0 ws0 nL k0 j0 (pc, lv, st, h) := by
  obtain ⟨hx, hb, hml, hown, hts, hA, -, -, -, hsc, -⟩ := E
  intro H locs ls str cells slots (hF : q_Fr D b A s H0 ws0 nL h lv st H locs ls str) (h1 : cells + k0 = q_cc h) (h2 : slots + j0 = q_ss h)
  obtain ⟨tys, ws, lvr, hW, hP, hK, hD, hS, hX, hl, hL, hV, hn⟩ := hF
  obtain ⟨i, k9, r, rfl, hkd, hin, rfl⟩ := q_qld_inv hs
  obtain ⟨_, _, rfl, rfl, _, t, rfl, ⟨ad, h3, rfl⟩, hV⟩ := hV
  obtain ⟨cA, t0, f', h4, h5, h6⟩ := q_at_refs hW hkd h3
  have kk := k _ _ _ _ _ _ ⟨tys, ws, lvr, hW, hP, hK, hD, hS, hX, hl, hL, ⟨_, _, rfl, q_vrf (h6 i.toNatClampNeg), hV⟩, hn⟩ h1 h2
  rcases hkd with hkd | hkd
  · rw [hkd] at h5
    exact va_aldq hx hb hK hP k9 t0 h4 h5 (q_insP hin) hd kk
  · rw [hkd] at h5
    exact va_aldq hx hb hK hP k9 t0 h4 h5 (q_insP hin) hd kk
theorem q_qst_inv {pc : Nat} {lv : List (Nat × Value)} {st : List Value} {h : q_H} {pt : q_P} (hs : q_qst pc lv st h = some pt) :
    ∃ v i k r, st = .ref v :: .int i :: .ref k :: r ∧ ((q_kd h k = 23 ∧ q_kd h v = 7) ∨ (q_kd h k = 24 ∧ q_kd h v = 0)) ∧ q_ins i (q_ln h k) = true ∧ pt = (pc + 1, lv, r, q_sr h k i.toNatClampNeg (some v)) := by
  unfold q_qst at hs
  split at hs
  · split at hs
    · rename_i h2
      cases hs
      exact ⟨_, _, _, _, rfl, h2.1, h2.2, rfl⟩
    · cases hs
  · cases hs
theorem q_at_obj {tys : List (ClassId × FieldType)} {h : q_H} {ws : va_W} {k a kd : Nat} (hW : q_Wd b tys h ws) (hk : q_kd h k = kd) (hkd : kd < 13) (ha : q_am b ws k = some a) :
    ∃ fs, ws[k]? = some (a, .inr (kd, fs)) := by
  obtain ⟨e9, h4, h5, h6⟩ := q_at_ref hW (by rw [hk]; omega) ha
  rcases h6 with ⟨h7, -, fs, rfl, -⟩ | ⟨h7, -⟩ | ⟨h7, -⟩ | ⟨h7, -⟩
  · exact ⟨fs, by rw [← hk]; exact h4⟩
  · omega
  · omega
  · omega
theorem q_aast {pc : Nat} {lv : List (Nat × Value)} {st : List Value} {h : q_H} {pt : q_P} (E : q_Env p s m args meth c R H0 A b sc own ini nL cc) (hd : decode cc pc = .ok (.aastore, 1))
    (hs : q_qst pc lv st h = some pt) (k : q_Go p l e R s m args below meth c Q D b A H0 ws0 nL k0 j0 pt) : q_Go p l e R s m args below meth c Q D b A H0 ws0 nL k0 j0 (pc, lv, st, h) := by
  obtain ⟨hx, hb, hml, hown, hts, hA, -, -, -, hsc, -⟩ := E
  intro H locs ls str cells slots (hF : q_Fr D b A s H0 ws0 nL h lv st H locs ls str) (h1 : cells + k0 = q_cc h) (h2 : slots + j0 = q_ss h)
  obtain ⟨tys, ws, lvr, hW, hP, hK, hD, hS, hX, hl, hL, hV, hn⟩ := hF
  obtain ⟨v9, i, k9, r, rfl, hkd, hin, rfl⟩ := q_qst_inv hs
  obtain ⟨_, _, rfl, ⟨av, h9, rfl⟩, _, _, rfl, rfl, _, t, rfl, ⟨ad, h3, rfl⟩, hV⟩ := hV
  obtain ⟨cA, t0, f', h4, h5, h6⟩ := q_at_refs hW (by omega) h3
  have fin : ∀ (H1 : Heap) (locs1 : List Loc), va_P D q_cl (ws.set k9 (ad, .inl (cA, (q_ln h k9, .inr (.inr (.inr (.inr (va_up f' i.toNatClampNeg (some av))))))))) H1 → va_D A (ws.set k9 (ad, .inl (cA, (q_ln h k9, .inr (.inr (.inr (.inr (va_up f' i.toNatClampNeg (some av))))))))) → va_S A H0 H1 locs1 → W p l e R s m args below meth c H1 locs1 cells slots Q (F0 m (pc + 1) ls t) := by
    intro H1 locs1 hP1 hD1 hS1
    have ham := q_am_set (b := b) (e := .inl (cA, (q_ln h k9, .inr (.inr (.inr (.inr (va_up f' i.toNatClampNeg (some av)))))))) h4
    refine k _ _ _ _ _ _ ⟨tys, _, lvr, ?_, hP1, hK, hD1, hS1, by rw [ham]; exact hX, hl, by rw [ham]; exact hL, by rw [ham]; exact hV, hn⟩ h1 h2
    refine hW.set h4 rfl rfl rfl (fun j hj => ⟨rfl, q_up_row _ _ _ _ hj, rfl⟩) (Or.inr (Or.inr (Or.inr ⟨by omega, cA, t0, _, h5, rfl, fun j => ?_⟩)))
    show q_Ro (q_am b ws) (q_up (q_rm h) k9 i.toNatClampNeg (some v9) k9 j) _
    rw [q_up_up]
    unfold va_up
    split
    · exact ⟨av, h9, rfl⟩
    · exact h6 j
  rcases hkd with ⟨g1, g2⟩ | ⟨g1, g2⟩
  · obtain ⟨fs, h7⟩ := q_at_obj hW g2 (by omega) h9
    rw [g1] at h5
    exact va_astq (r := (q_R 7, q_T 7, q_NF 7)) hx hb hK hP hD hS k9 t0 v9 7 h4 h5 h7 (q_clat (by omega)) (q_insP hin) hd fin
  · obtain ⟨fs, h7⟩ := q_at_obj hW g2 (by omega) h9
    rw [g1] at h5
    exact va_astq (r := (q_R 0, q_T 0, q_NF 0)) hx hb hK hP hD hS k9 t0 v9 0 h4 h5 h7 (q_clat (by omega)) (q_insP hin) hd fin
end QARR
