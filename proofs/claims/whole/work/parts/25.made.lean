/-! what is made, arrays copied, calls that are no methods of ours; then one step -/
section QMADE
variable {p : Program} {l : Launch} {e : Env} {R : Room} {s : State} {m : MethodId} {args : Array Value} {below : List Frame} {meth : Method} {c : Code} {Q : State → Prop}
variable {D : va_G} {b : Option Nat} {A : Nat → Prop} {H0 : Heap} {ws0 : va_W} {nL k0 j0 : Nat} {sc : Option (Nat × (Nat → Int32))} {own : Nat} {ini : Bool} {cc : ByteArray}
theorem q_arr_inv {kd len pc : Nat} {lv : List (Nat × Value)} {st : List Value} {h : q_H} {pt : q_P} (hs : q_arr kd len pc lv st h = some pt) :
    ∃ x r, st = .int x :: r ∧ ¬ x < 0 ∧ x.toNatClampNeg ≤ 1000000 ∧ q_n h < q_SC ∧ pt = (pc + len, lv, .ref (q_n h) :: r, q_mk h kd x.toNatClampNeg) := by
  unfold q_arr at hs
  split at hs
  · split at hs
    · rename_i h2
      cases hs
      exact ⟨_, _, rfl, h2.1, h2.2.1, h2.2.2, rfl⟩
    · cases hs
  · cases hs
theorem q_row_same {α : Type} (f : Nat → Nat → α) (k : Nat) (v : α) : q_row f k v k = fun _ => v := by funext x; simp [q_row]
theorem q_row_ne {α : Type} (f : Nat → Nat → α) (k : Nat) (v : α) {j : Nat} (h : j ≠ k) : q_row f k v j = f j := by funext x; simp [q_row, h]
theorem q_vne {α : Type} (f : Nat → α) (k : Nat) (v : α) {j : Nat} (h : j ≠ k) : va_up f k v j = f j := by simp [va_up, h]
theorem q_vsame {α : Type} (f : Nat → α) (k : Nat) (v : α) : va_up f k v k = v := by simp [va_up]
/-- the world behind a making -/
theorem q_Wmk {tys t2 : List (ClassId × FieldType)} {h : q_H} {ws : va_W} {q kd ln : Nat} {w : va_E} (hW : q_Wd b tys h ws) (hlt : q_n h < q_SC) (he : q_E (q_am b (ws ++ [(q, w)])) (tys ++ t2) kd ln (fun _ => 0) (fun _ => none) (fun _ => 0) w) : q_Wd b (tys ++ t2) (q_mk h kd ln) (ws ++ [(q, w)]) := by
  refine hW.app hlt rfl (fun j hj => ⟨q_vne _ _ _ hj, q_vne _ _ _ hj, q_row_ne _ _ _ hj, q_row_ne _ _ _ hj, q_row_ne _ _ _ hj⟩) ?_
  show q_E _ _ (va_up _ _ _ _) (va_up _ _ _ _) (q_row _ _ _ _) (q_row _ _ _ _) (q_row _ _ _ _) w
  rw [q_vsame, q_vsame, q_row_same, q_row_same, q_row_same]
  exact he
theorem q_made {pc' kd ln : Nat} {lv : List (Nat × Value)} {r : List Value} {h : q_H} {H1 : Heap} {locs : List Loc} {ls : Array Slot} {t : List Value} {cells slots q : Nat} {tys t2 : List (ClassId × FieldType)} {ws : va_W} {lvr : List (Nat × Value)} {w : va_E}
    (k : q_Go p l e R s m args below meth c Q D b A H0 ws0 nL k0 j0 (pc', lv, .ref (q_n h) :: r, q_mk h kd ln)) (hW : q_Wd b tys h ws) (hlt : q_n h < q_SC) (he : q_E (q_am b (ws ++ [(q, w)])) (tys ++ t2) kd ln (fun _ => 0) (fun _ => none) (fun _ => 0) w)
    (hK : va_K D q_cl (tys ++ t2) s) (hP : va_P D q_cl (ws ++ [(q, w)]) H1) (hD : va_D A (ws ++ [(q, w)])) (hS : va_S A H0 H1 locs) (hX : q_Le (q_am b ws0) (q_am b ws)) (hl : lv_has ls nL lvr) (hL : q_Ls (q_am b ws) lv lvr) (hV : q_Vs (q_am b ws) r t) (hn : ∀ q ∈ lv, q.1 < nL)
    (h1 : cells + k0 = q_cc h) (h2 : slots + j0 = q_ss h) : W p l e R s m args below meth c H1 locs (cells + 1) (slots + ln) Q (F0 m pc' ls (.ref q :: t)) := by
  refine k _ _ _ _ _ _ ⟨_, _, lvr, q_Wmk hW hlt he, hP, hK, hD, hS, fun a b h => q_am_app _ _ (hX a b h), hl, hL.mono q_am_app, ⟨_, _, rfl, ⟨q, ?_, rfl⟩, hV.mono q_am_app⟩, hn⟩ (by show cells + 1 + k0 = q_cc h + 1; omega) (by show slots + ln + j0 = q_ss h + ln; omega)
  rw [← hW.1]
  exact q_am_new (by rw [hW.1]; exact hlt)
theorem q_newi {kd pc : Nat} {ty : FieldType} {at9 : ArrayType} {lv : List (Nat × Value)} {st : List Value} {h : q_H} {pt : q_P} (E : q_Env p s m args meth c R H0 A b sc own ini nL cc) (hd : decode cc pc = .ok (.newarray at9, 2))
    (hty : newarray.typeOf at9 = ty) (hw : Cond.arrayClass ty ∈ lw_tbl) (hat : q_at kd = ty) (hkd : (kd = 20 ∨ kd = 21) ∧ defaultValue ty = .int 0 ∨ kd = 22 ∧ defaultValue ty = .long 0) (hcb : componentBytes ty ≤ 8)
    (hc : q_cc pt.2.2.2 ≤ R.cells + k0) (hss : q_ss pt.2.2.2 ≤ R.slots + j0)
    (hs : q_arr kd 2 pc lv st h = some pt) (k : q_Go p l e R s m args below meth c Q D b A H0 ws0 nL k0 j0 pt) : q_Go p l e R s m args below meth c Q D b A H0 ws0 nL k0 j0 (pc, lv, st, h) := by
  obtain ⟨hx, hb, hml, hown, hts, hA, -, -, -, hsc, -⟩ := E
  intro H locs ls str cells slots (hF : q_Fr D b A s H0 ws0 nL h lv st H locs ls str) (h1 : cells + k0 = q_cc h) (h2 : slots + j0 = q_ss h)
  obtain ⟨tys, ws, lvr, hW, hP, hK, hD, hS, hX, hl, hL, hV, hn⟩ := hF
  obtain ⟨x, r, rfl, g1, g2, g3, rfl⟩ := q_arr_inv hs
  obtain ⟨_, t, rfl, rfl, hV⟩ := hV
  have hc' : q_cc h + 1 ≤ R.cells + k0 := hc
  have hs' : q_ss h + x.toNatClampNeg ≤ R.slots + j0 := hss
  have hbytes : x.toNatClampNeg * componentBytes ty ≤ 536870912 := Nat.le_trans (Nat.mul_le_mul g2 hcb) (by decide)
  have hlast : ∀ cA : ClassId, (tys ++ [(cA, ty)])[tys.length]? = some (cA, q_at kd) := fun cA => by rw [hat]; simp
  rcases hkd with ⟨hkd, hdf⟩ | ⟨hkd, hdf⟩
  · exact va_newa (a0 := (x.toNatClampNeg, .inl (fun _ => 0))) hx hb (by rw [hty]; exact hts _ (q_in hw rfl)) hty hK hP hD hS hA (fun cA => by rw [hdf]; rfl) g1 rfl hbytes (by omega) (by omega) hd (fun q cA H1 hK1 hP1 hD1 hS1 =>
      q_made k hW g3 (Or.inr (Or.inl ⟨hkd, cA, tys.length, hlast cA, rfl⟩)) hK1 hP1 hD1 hS1 hX hl hL hV hn h1 h2)
  · exact va_newa (a0 := (x.toNatClampNeg, .inr (.inl (fun _ => 0)))) hx hb (by rw [hty]; exact hts _ (q_in hw rfl)) hty hK hP hD hS hA (fun cA => by rw [hdf]; rfl) g1 rfl hbytes (by omega) (by omega) hd (fun q cA H1 hK1 hP1 hD1 hS1 =>
      q_made k hW g3 (Or.inr (Or.inr (Or.inl ⟨hkd, cA, tys.length, hlast cA, rfl⟩))) hK1 hP1 hD1 hS1 hX hl hL hV hn h1 h2)
theorem q_newr {a cp pc : Nat} {lv : List (Nat × Value)} {st : List Value} {h : q_H} {pt : q_P} (E : q_Env p s m args meth c R H0 A b sc own ini nL cc) (hd : decode cc pc = .ok (.anewarray cp, 3)) (ha : a = 3 ∨ a = 4)
    (hw : Cond.classLink (q_R own) cp (q_R (if a = 3 then 7 else 0)) ∈ lw_tbl) (hc : q_cc pt.2.2.2 ≤ R.cells + k0) (hss : q_ss pt.2.2.2 ≤ R.slots + j0)
    (hs : q_arr (20 + a) 3 pc lv st h = some pt) (k : q_Go p l e R s m args below meth c Q D b A H0 ws0 nL k0 j0 pt) : q_Go p l e R s m args below meth c Q D b A H0 ws0 nL k0 j0 (pc, lv, st, h) := by
  obtain ⟨hx, hb, hml, hown, hts, hA, -, -, -, hsc, hoP, hoB⟩ := E
  intro H locs ls str cells slots (hF : q_Fr D b A s H0 ws0 nL h lv st H locs ls str) (h1 : cells + k0 = q_cc h) (h2 : slots + j0 = q_ss h)
  obtain ⟨tys, ws, lvr, hW, hP, hK, hD, hS, hX, hl, hL, hV, hn⟩ := hF
  obtain ⟨x, r, rfl, g1, g2, g3, rfl⟩ := q_arr_inv hs
  obtain ⟨_, t, rfl, rfl, hV⟩ := hV
  have hc' : q_cc h + 1 ≤ R.cells + k0 := hc
  have hs' : q_ss h + x.toNatClampNeg ≤ R.slots + j0 := hss
  rcases ha with rfl | rfl
  · exact va_newq (C := "SmithyBench$Program") (N' := x.toNatClampNeg) hx hb hown (hts _ (q_in hw rfl)) hoP hK hP hD hS hA g1 rfl (by omega) (by omega) (by omega) hd (fun q cA H1 hK1 hP1 hD1 hS1 =>
      q_made k hW g3 (Or.inr (Or.inr (Or.inr ⟨Or.inl rfl, cA, tys.length, _, by simp [q_at], rfl, fun _ => rfl⟩))) hK1 hP1 hD1 hS1 hX hl hL hV hn h1 h2)
  · exact va_newq (C := "SmithyBench$Body") (N' := x.toNatClampNeg) hx hb hown (hts _ (q_in hw rfl)) hoB hK hP hD hS hA g1 rfl (by omega) (by omega) (by omega) hd (fun q cA H1 hK1 hP1 hD1 hS1 =>
      q_made k hW g3 (Or.inr (Or.inr (Or.inr ⟨Or.inr rfl, cA, tys.length, _, by simp [q_at], rfl, fun _ => rfl⟩))) hK1 hP1 hD1 hS1 hX hl hL hV hn h1 h2)
/-- what a new object's fields hold -/
def q_f0 (c : Nat) : List Value := (List.range (q_NF c)).map (fun j => defaultValue (q_ty c j))
theorem q_f0_at {c j : Nat} (hj : j < q_NF c) : (q_f0 c)[j]? = some (defaultValue (q_ty c j)) := by
  unfold q_f0
  rw [List.getElem?_map, List.getElem?_range hj]; rfl
theorem q_newo {a cp pc : Nat} {lv : List (Nat × Value)} {st : List Value} {h : q_H} (E : q_Env p s m args meth c R H0 A b sc own ini nL cc) (hd : decode cc pc = .ok (.new cp, 3)) (ha : a < 13) (hlt : q_n h < q_SC)
    (hw : Cond.classLink (q_R own) cp (q_R a) ∈ lw_tbl) (hc : q_cc h + 1 ≤ R.cells + k0) (hss : q_ss h + q_NF a ≤ R.slots + j0)
    (k : q_Go p l e R s m args below meth c Q D b A H0 ws0 nL k0 j0 (pc + 3, lv, .ref (q_n h) :: st, q_mk h a (q_NF a))) : q_Go p l e R s m args below meth c Q D b A H0 ws0 nL k0 j0 (pc, lv, st, h) := by
  obtain ⟨hx, hb, hml, hown, hts, hA, -, -, -, hsc, -⟩ := E
  intro H locs ls str cells slots (hF : q_Fr D b A s H0 ws0 nL h lv st H locs ls str) (h1 : cells + k0 = q_cc h) (h2 : slots + j0 = q_ss h)
  obtain ⟨tys, ws, lvr, hW, hP, hK, hD, hS, hX, hl, hL, hV, hn⟩ := hF
  refine va_new (Ts := q_ALL) (own := q_R own) (fs := q_f0 a) hx hb hts (fun w hw' => q_in (q_wsin ha w hw') (q_good_lay hw')) (q_ty a) (q_tyok ha) hown (hts _ (q_in hw rfl)) (hts _ (q_in (q_instI ha) rfl)) (hts _ (q_in (q_initI ha) rfl)) hK hP hD hS hA (q_clat ha) (fun j hj => ?_) (by omega) (by omega) hd (fun q H1 hP1 hD1 hS1 => ?_)
  · unfold vp_V
    rw [List.getD_eq_getElem?_getD, q_f0_at hj]; rfl
  · have hK' : va_K D q_cl (tys ++ []) s := by rw [List.append_nil]; exact hK
    refine q_made k hW hlt (Or.inl ⟨ha, rfl, q_f0 a, rfl, by simp [q_f0], fun j hj => ⟨_, q_f0_at hj, ?_⟩⟩) hK' hP1 hD1 hS1 hX hl hL hV hn h1 h2
    unfold q_F
    rcases q_tags a ha j hj with ⟨g1, g2⟩ | ⟨g1, g2⟩ | ⟨g1, g2⟩
    · rw [g1, if_neg (by decide), g2]; rfl
    · rw [g1, if_neg (by decide), g2]; rfl
    · rw [g1, if_pos rfl]
      refine ⟨none, rfl, ?_⟩
      generalize q_ty a j = ty at g2
      cases ty <;> first | rfl | cases g2
theorem q_cpy_inv {pc : Nat} {lv : List (Nat × Value)} {st : List Value} {h : q_H} {pt : q_P} (hs : q_cpy pc lv st h = some pt) :
    ∃ n dp k1 sp k0 r, st = .int n :: .int dp :: .ref k1 :: .int sp :: .ref k0 :: r ∧ ((q_kd h k0 = 20 ∧ q_kd h k1 = 20) ∧ (¬ sp < 0 ∧ ¬ dp < 0 ∧ ¬ n < 0) ∧ (sp.toNatClampNeg + n.toNatClampNeg ≤ q_ln h k0 ∧ dp.toNatClampNeg + n.toNatClampNeg ≤ q_ln h k1) ∧ q_sum r ≤ 8) ∧
      pt = (pc + 3, lv, r, (h.1, h.2.1, h.2.2.1, va_up (q_im h) k1 (va_cpy (q_im h k0) (q_im h k1) sp.toNatClampNeg dp.toNatClampNeg n.toNatClampNeg), h.2.2.2.2)) := by
  unfold q_cpy at hs
  split at hs
  · split at hs
    · rename_i h2
      cases hs
      exact ⟨_, _, _, _, _, _, rfl, h2, rfl⟩
    · cases hs
  · cases hs
theorem q_copy {cp pc : Nat} {lv : List (Nat × Value)} {st : List Value} {h : q_H} {pt : q_P} (E : q_Env p s m args meth c R H0 A b sc own ini nL cc) (hd : decode cc pc = .ok (.invokestatic cp, 3)) (hw : Cond.methodLink (q_R own) cp arraycopyName ∈ lw_tbl)
    (hs : q_cpy pc lv st h = some pt) (k : q_Go p l e R s m args below meth c Q D b A H0 ws0 nL k0 j0 pt) : q_Go p l e R s m args below meth c Q D b A H0 ws0 nL k0 j0 (pc, lv, st, h) := by
  obtain ⟨hx, hb, hml, hown, hts, hA, hRf, hRl, -, hsc, -⟩ := E
  intro H locs ls str cells slots (hF : q_Fr D b A s H0 ws0 nL h lv st H locs ls str) (h1 : cells + k0 = q_cc h) (h2 : slots + j0 = q_ss h)
  obtain ⟨tys, ws, lvr, hW, hP, hK, hD, hS, hX, hl, hL, hV, hn⟩ := hF
  obtain ⟨n, dp, k1, sp, k9, r, rfl, ⟨⟨g1, g2⟩, ⟨g3, g4, g5⟩, ⟨g6, g7⟩, g8⟩, rfl⟩ := q_cpy_inv hs
  obtain ⟨_, _, rfl, rfl, _, _, rfl, rfl, _, _, rfl, ⟨a1, m1, rfl⟩, _, _, rfl, rfl, _, t, rfl, ⟨a0, m0, rfl⟩, hV⟩ := hV
  obtain ⟨cA0, t0, u0, v0⟩ := q_at_arr hW g1 (Or.inl rfl) m0
  obtain ⟨cA1, t1, u1, v1⟩ := q_at_arr hW g2 (Or.inl rfl) m1
  have ham := q_am_set (b := b) (e := .inl (cA1, (q_ln h k1, .inl (va_cpy (q_im h k9) (q_im h k1) sp.toNatClampNeg dp.toNatClampNeg n.toNatClampNeg)))) u1
  have hsum : (t.map fun v => v.category).sum ≤ 8 := by have := hV.sum; unfold q_sum at this g8; omega
  refine va_copyi (ty := .int) hx hb (by rw [hml, hl.1]) hown (hts _ (q_in hw rfl)) (hts _ (q_in q_acN rfl)) (hts _ (q_in q_acS rfl)) (hts _ (q_in q_sysI rfl)) hK hP hD hS k9 k1 t0 t1 u0 u1 v0 v1 rfl g3 g4 g5 g6 g7 (fun _ _ => rfl) hRf ?_ hd (fun H1 locs1 hP1 hD1 hS1 => k _ _ _ _ _ _ ⟨tys, _, lvr, ?_, hP1, hK, hD1, hS1, by rw [ham]; exact hX, hl, by rw [ham]; exact hL, by rw [ham]; exact hV, hn⟩ h1 h2)
  · have hnw : nativeFrameWords "java/lang/System" "arraycopy" 5 ≤ 30 := by decide +kernel
    omega
  · refine hW.set u1 rfl rfl rfl (fun j hj => ⟨q_vne _ _ _ hj, rfl, rfl⟩) (Or.inr (Or.inl ⟨Or.inl g2, cA1, t1, by rw [g2]; exact v1, ?_⟩))
    exact congrArg (fun f => (Sum.inl (cA1, (q_ln h k1, Sum.inl f)) : va_E)) (q_vsame _ _ _).symm
end QMADE
