/-! fields, arrays, what is made -/
section QMEM
variable {p : Program} {l : Launch} {e : Env} {R : Room} {s : State} {m : MethodId} {args : Array Value} {below : List Frame} {meth : Method} {c : Code} {Q : State → Prop}
variable {D : va_G} {b : Option Nat} {A : Nat → Prop} {H0 : Heap} {ws0 : va_W} {nL k0 j0 : Nat} {sc : Option (Nat × (Nat → Int32))} {own : Nat} {ini : Bool} {cc : ByteArray}
theorem q_vrf {am : Nat → Option Nat} {o o' : Option Nat} (h : q_Ro am o o') : q_V am (va_rf o) (va_rf o') := by
  cases o with
  | none => cases h; rfl
  | some k => obtain ⟨a, h1, rfl⟩ := h; exact ⟨a, h1, rfl⟩
theorem q_rfc {o : Option Nat} : (va_rf o).category = 1 := by cases o <;> rfl
theorem q_get_inv {a b pc : Nat} {lv : List (Nat × Value)} {st : List Value} {h : q_H} {pt : q_P} (hs : q_get a b pc lv st h = some pt) :
    ∃ k r, st = .ref k :: r ∧ (q_kd h k = b ∧ b < 13) ∧ ((q_fg b a = 2 ∧ pt = (pc + 3, lv, va_rf (q_rm h k a) :: r, h)) ∨ (q_fg b a < 2 ∧ pt = (pc + 3, lv, .int (q_im h k a) :: r, h))) := by
  unfold q_get at hs
  split at hs
  · split at hs
    · rename_i hc
      split at hs
      · rename_i h2
        cases hs
        exact ⟨_, _, rfl, hc, Or.inl ⟨h2, rfl⟩⟩
      · split at hs
        · rename_i h2
          cases hs
          exact ⟨_, _, rfl, hc, Or.inr ⟨h2, rfl⟩⟩
        · cases hs
    · cases hs
  · cases hs
theorem q_put_inv {a b pc : Nat} {ok : Bool} {lv : List (Nat × Value)} {st : List Value} {h : q_H} {pt : q_P} (hs : q_put a b pc ok lv st h = some pt) :
    ∃ v k r, st = v :: .ref k :: r ∧ (q_kd h k = b ∧ b < 13) ∧ ok = true ∧ ((∃ x, v = .int x ∧ (q_fg b a = 0 ∨ (q_fg b a = 1 ∧ (x = 0 ∨ x = 1))) ∧ pt = (pc + 3, lv, r, q_si h k a x)) ∨ (∃ j, v = .ref j ∧ q_fg b a = 2 ∧ pt = (pc + 3, lv, r, q_sr h k a (some j))) ∨ (v = .null ∧ q_fg b a = 2 ∧ pt = (pc + 3, lv, r, q_sr h k a none))) := by
  unfold q_put at hs
  split at hs
  · split at hs
    · rename_i hc
      split at hs
      · rename_i h2
        cases hs
        exact ⟨_, _, _, rfl, hc.1, hc.2, Or.inl ⟨_, rfl, h2, rfl⟩⟩
      · cases hs
    · cases hs
  · split at hs
    · rename_i hc
      split at hs
      · rename_i h2
        cases hs
        exact ⟨_, _, _, rfl, hc.1, hc.2, Or.inr (Or.inl ⟨_, rfl, h2, rfl⟩)⟩
      · cases hs
    · cases hs
  · split at hs
    · rename_i hc
      split at hs
      · rename_i h2
        cases hs
        exact ⟨_, _, _, rfl, hc.1, hc.2, Or.inr (Or.inr ⟨rfl, h2, rfl⟩)⟩
      · cases hs
    · cases hs
  · cases hs
/-- a field is read -/
theorem q_getf {cp a bb pc : Nat} {lv : List (Nat × Value)} {st : List Value} {h : q_H} {pt : q_P} (E : q_Env p s m args meth c R H0 A b sc own ini nL cc) (hd : decode cc pc = .ok (.getfield cp, 3)) (ha : a < q_NF bb) (hw : Cond.fieldLink (q_R own) cp (q_T bb a).1 (q_T bb a).2.1 (q_T bb a).2.2.1 ∈ lw_tbl)
    (hs : q_get a bb pc lv st h = some pt) (k : q_Go p l e R s m args below meth c Q D b A H0 ws0 nL k0 j0 pt) : q_Go p l e R s m args below meth c Q D b A H0 ws0 nL k0 j0 (pc, lv, st, h) := by
  obtain ⟨hx, hb, hml, hown, hts, hA, -, -, -, -, -⟩ := E
  intro H locs ls str cells slots (hF : q_Fr D b A s H0 ws0 nL h lv st H locs ls str) (h1 : cells + k0 = q_cc h) (h2 : slots + j0 = q_ss h)
  obtain ⟨tys, ws, lvr, hW, hP, hK, hD, hS, hX, hl, hL, hV, hn⟩ := hF
  obtain ⟨k9, r, rfl, ⟨hkd, hb13⟩, hs⟩ := q_get_inv hs
  obtain ⟨_, t, rfl, ⟨ad, h3, rfl⟩, hV⟩ := hV
  obtain ⟨e9, h4, h5, h6⟩ := q_at_ref hW (by rw [hkd]; omega) h3
  rcases h6 with ⟨-, hln, fs, rfl, hfl, hff⟩ | ⟨h7, -⟩ | ⟨h7, -⟩ | ⟨h7, -⟩
  · rw [hkd] at h4 hln hff
    obtain ⟨v, hv, hf⟩ := hff a (by rw [hln]; exact ha)
    have row := fun kk => va_get (l := l) (e := e) (R := R) (below := below) (meth := meth) (locs := locs) (cells := cells) (slots := slots) (Q := Q) (ls := ls) (rest := t) (D := D) (Ts := q_ALL) (own := q_R own) hx hb hts (fun w hw' => q_in (q_wsin hb13 w hw') (q_good_lay hw')) hown hK hP k9 h4 (q_clat hb13) a ha (hts _ (q_in hw rfl)) (fun x hx' => hx') hv hd kk
    unfold q_F at hf
    rcases hs with ⟨htg, rfl⟩ | ⟨htg, rfl⟩
    · rw [if_pos htg] at hf
      obtain ⟨o', ho, rfl⟩ := hf
      exact row (k _ _ _ _ _ _ ⟨tys, ws, lvr, hW, hP, hK, hD, hS, hX, hl, hL, ⟨_, _, rfl, q_vrf ho, hV⟩, hn⟩ h1 h2)
    · rw [if_neg (Nat.ne_of_lt htg)] at hf
      subst hf
      exact row (k _ _ _ _ _ _ ⟨tys, ws, lvr, hW, hP, hK, hD, hS, hX, hl, hL, ⟨_, _, rfl, rfl, hV⟩, hn⟩ h1 h2)
  · omega
  · omega
  · omega
theorem q_fitr {ty : FieldType} (h : q_isr ty = true) (o : Option Nat) : narrow ty (va_rf o) = va_rf o ∧ fits ty (va_rf o) = true := by
  cases ty <;> first | (cases o <;> exact ⟨rfl, rfl⟩) | cases h
theorem q_fiti (x : Int32) : narrow .int (.int x) = .int x ∧ fits .int (.int x) = true := ⟨rfl, rfl⟩
theorem q_fitz {x : Int32} (h : x = 0 ∨ x = 1) : narrow .boolean (.int x) = .int x ∧ fits .boolean (.int x) = true := by
  rcases h with rfl | rfl <;> exact ⟨by decide +kernel, by decide +kernel⟩
/-- a field is written: the row, whether it's final or not -/
theorem q_putr {cp a bb pc : Nat} {H : Heap} {locs : List Loc} {ls : Array Slot} {t : List Value} {cells slots : Nat} {tys : List (ClassId × FieldType)} {ws : va_W} {k9 ad : Nat} {fs : List Value} {v : Value} (E : q_Env p s m args meth c R H0 A b sc own ini nL cc) (hd : decode cc pc = .ok (.putfield cp, 3)) (hb13 : bb < 13) (ha : a < q_NF bb) (hw : Cond.fieldLink (q_R own) cp (q_T bb a).1 (q_T bb a).2.1 (q_T bb a).2.2.1 ∈ lw_tbl)
    (hok : (!(q_fin bb a) || (ini && own == bb)) = true) (hP : va_P D q_cl ws H) (hK : va_K D q_cl tys s) (hD : va_D A ws) (hS : va_S A H0 H locs) (h4 : ws[k9]? = some (ad, .inr (bb, fs))) (hfit : narrow (q_ty bb a) v = v ∧ fits (q_ty bb a) v = true) (hfl : a < fs.length)
    (kk : ∀ (H1 : Heap) (locs1 : List Loc), va_P D q_cl (ws.set k9 (ad, .inr (bb, fs.set a v))) H1 → va_D A (ws.set k9 (ad, .inr (bb, fs.set a v))) → va_S A H0 H1 locs1 → W p l e R s m args below meth c H1 locs1 cells slots Q (F0 m (pc + 3) ls t)) : W p l e R s m args below meth c H locs cells slots Q (F0 m pc ls (v :: .ref ad :: t)) := by
  obtain ⟨hx, hb, hml, hown, hts, hA, -, -, hini, -, -⟩ := E
  have hff := q_finT bb hb13 a ha
  cases hfin : q_fin bb a with
  | false => exact va_put (Ts := q_ALL) (own := q_R own) hx hb hts (fun w hw' => q_in (q_wsin hb13 w hw') (q_good_lay hw')) (q_ty bb) (q_tyok hb13) (q_nm hb13) hown hK hP hD hS k9 h4 (q_clat hb13) a ha (hts _ (q_in hw rfl)) (fun x hx' => hx') (hff.trans hfin) (q_tyok hb13 a ha) hfit.1 hfit.2 hfl hd kk
  | true =>
    rw [hfin] at hok
    have h9 : ini = true ∧ own = bb := by simpa using hok
    exact va_putF (Ts := q_ALL) (own := q_R own) hx hb hts (fun w hw' => q_in (q_wsin hb13 w hw') (q_good_lay hw')) (q_ty bb) (q_tyok hb13) (q_nm hb13) hown hK hP hD hS k9 h4 (q_clat hb13) a ha (hts _ (q_in hw rfl)) (fun x hx' => hx') (hff.trans hfin) (hini h9.1) (by rw [q_decl hb13 a ha, h9.2]) (q_tyok hb13 a ha) hfit.1 hfit.2 hfl hd kk
/-- the world behind a field's write -/
theorem q_Wset {tys : List (ClassId × FieldType)} {h h' : q_H} {ws : va_W} {k9 ad bb a : Nat} {fs : List Value} {v : Value} (hW : q_Wd b tys h ws) (h4 : ws[k9]? = some (ad, .inr (bb, fs))) (hkd : q_kd h k9 = bb) (hb13 : bb < 13) (hln : q_ln h k9 = q_NF bb) (hfl : fs.length = q_ln h k9) (hff : ∀ j, j < q_ln h k9 → ∃ v, fs[j]? = some v ∧ q_F (q_am b ws) (q_fg bb j) (q_im h k9 j) (q_rm h k9 j) v)
    (ha : a < q_NF bb) (hn : q_n h' = q_n h) (hk' : q_kd h' = q_kd h) (hl' : q_ln h' = q_ln h) (ho : ∀ j, j ≠ k9 → q_im h' j = q_im h j ∧ q_rm h' j = q_rm h j ∧ q_jm h' j = q_jm h j) (hoo : ∀ j, j ≠ a → q_im h' k9 j = q_im h k9 j ∧ q_rm h' k9 j = q_rm h k9 j)
    (hv : q_F (q_am b ws) (q_fg bb a) (q_im h' k9 a) (q_rm h' k9 a) v) : q_Wd b tys h' (ws.set k9 (ad, .inr (bb, fs.set a v))) := by
  refine hW.set h4 hn hk' hl' ho (Or.inl ⟨by rw [hkd]; exact hb13, by rw [hkd]; exact hln, fs.set a v, by rw [hkd], by rw [List.length_set]; exact hfl, fun j hj => ?_⟩)
  by_cases hja : j = a
  · subst hja
    exact ⟨v, by rw [List.getElem?_set_self (by rw [hfl]; exact hj)], by rw [hkd]; exact hv⟩
  · obtain ⟨w, w1, w2⟩ := hff j hj
    obtain ⟨i1, i2⟩ := hoo j hja
    exact ⟨w, by rw [List.getElem?_set_ne (Ne.symm hja)]; exact w1, by rw [hkd, i1, i2]; exact w2⟩
theorem q_putf {cp a bb pc : Nat} {lv : List (Nat × Value)} {st : List Value} {h : q_H} {pt : q_P} (E : q_Env p s m args meth c R H0 A b sc own ini nL cc) (hd : decode cc pc = .ok (.putfield cp, 3)) (ha : a < q_NF bb) (hw : Cond.fieldLink (q_R own) cp (q_T bb a).1 (q_T bb a).2.1 (q_T bb a).2.2.1 ∈ lw_tbl)
    (hs : q_put a bb pc (!(q_fin bb a) || (ini && own == bb)) lv st h = some pt) (k : q_Go p l e R s m args below meth c Q D b A H0 ws0 nL k0 j0 pt) : q_Go p l e R s m args below meth c Q D b A H0 ws0 nL k0 j0 (pc, lv, st, h) := by
  intro H locs ls str cells slots (hF : q_Fr D b A s H0 ws0 nL h lv st H locs ls str) (h1 : cells + k0 = q_cc h) (h2 : slots + j0 = q_ss h)
  obtain ⟨tys, ws, lvr, hW, hP, hK, hD, hS, hX, hl, hL, hV, hn⟩ := hF
  have key : ∀ {v : Value} {k9 : Nat} {r : List Value} {str : List Value} {h' : q_H}, q_Vs (q_am b ws) (v :: .ref k9 :: r) str → (q_kd h k9 = bb ∧ bb < 13) → (!(q_fin bb a) || (ini && own == bb)) = true → q_n h' = q_n h → q_kd h' = q_kd h → q_ln h' = q_ln h → q_cc h' = q_cc h → q_ss h' = q_ss h →
      (∀ j, j ≠ k9 → q_im h' j = q_im h j ∧ q_rm h' j = q_rm h j ∧ q_jm h' j = q_jm h j) → (∀ j, j ≠ a → q_im h' k9 j = q_im h k9 j ∧ q_rm h' k9 j = q_rm h k9 j) →
      (∀ x, q_V (q_am b ws) v x → q_F (q_am b ws) (q_fg bb a) (q_im h' k9 a) (q_rm h' k9 a) x ∧ (narrow (q_ty bb a) x = x ∧ fits (q_ty bb a) x = true)) →
      q_Go p l e R s m args below meth c Q D b A H0 ws0 nL k0 j0 (pc + 3, lv, r, h') → W p l e R s m args below meth c H locs cells slots Q (F0 m pc ls str) := by
    intro v k9 r str h' hV hkb hok e1 e2 e3 e4 e5 ho hoo hvv k
    obtain ⟨hkd, hb13⟩ := hkb
    obtain ⟨x, _, rfl, hx, _, t, rfl, ⟨ad, h3, rfl⟩, hV⟩ := hV
    obtain ⟨e9, h4, h5, h6⟩ := q_at_ref hW (by rw [hkd]; omega) h3
    rcases h6 with ⟨-, hln, fs, rfl, hfl, hff⟩ | ⟨h7, -⟩ | ⟨h7, -⟩ | ⟨h7, -⟩
    · rw [hkd] at h4 hln hff
      obtain ⟨g1, g2⟩ := hvv x hx
      refine q_putr E hd hb13 ha hw hok hP hK hD hS h4 g2 (by rw [hfl, hln]; exact ha) (fun H1 locs1 hP1 hD1 hS1 => ?_)
      have ham := q_am_set (b := b) (e := .inr (bb, fs.set a x)) h4
      exact k _ _ _ _ _ _ ⟨tys, _, lvr, q_Wset hW h4 hkd hb13 hln hfl hff ha e1 e2 e3 ho hoo g1, hP1, hK, hD1, hS1, by rw [ham]; exact hX, hl, by rw [ham]; exact hL, by rw [ham]; exact hV, hn⟩ (by rw [h1]; exact e4.symm) (by rw [h2]; exact e5.symm)
    · omega
    · omega
    · omega
  obtain ⟨v, k9, r, rfl, hc, hok, hs⟩ := q_put_inv hs
  rcases hs with ⟨x, rfl, htg, rfl⟩ | ⟨j9, rfl, htg, rfl⟩ | ⟨rfl, htg, rfl⟩
  · refine key (h' := q_si h k9 a x) hV hc hok rfl rfl rfl rfl rfl (fun j hj => ⟨q_up_row _ _ _ _ hj, rfl, rfl⟩) (fun j hj => ⟨q_up_ne _ _ _ _ hj, rfl⟩) (fun y hy => ?_) k
    cases hy
    refine ⟨?_, ?_⟩
    · unfold q_F
      rw [if_neg (by omega)]
      exact congrArg Value.int (q_up_same _ _ _ _).symm
    · rcases q_tags bb hc.2 a ha with ⟨g1, g2⟩ | ⟨g1, g2⟩ | ⟨g1, g2⟩
      · rw [g2]; exact q_fiti x
      · rw [g2]; exact q_fitz (htg.resolve_left (by omega)).2
      · omega
  · refine key (h' := q_sr h k9 a (some j9)) hV hc hok rfl rfl rfl rfl rfl (fun j hj => ⟨rfl, q_up_row _ _ _ _ hj, rfl⟩) (fun j hj => ⟨rfl, q_up_ne _ _ _ _ hj⟩) (fun y hy => ?_) k
    obtain ⟨ad, g1, rfl⟩ := hy
    refine ⟨?_, ?_⟩
    · unfold q_F
      rw [if_pos htg]
      exact ⟨some ad, by show q_Ro _ (q_up _ _ _ _ _ _) _; rw [q_up_same]; exact ⟨ad, g1, rfl⟩, rfl⟩
    · rcases q_tags bb hc.2 a ha with ⟨g2, -⟩ | ⟨g2, -⟩ | ⟨g2, g3⟩
      · omega
      · omega
      · exact q_fitr g3 (some ad)
  · refine key (h' := q_sr h k9 a none) hV hc hok rfl rfl rfl rfl rfl (fun j hj => ⟨rfl, q_up_row _ _ _ _ hj, rfl⟩) (fun j hj => ⟨rfl, q_up_ne _ _ _ _ hj⟩) (fun y hy => ?_) k
    cases hy
    refine ⟨?_, ?_⟩
    · unfold q_F
      rw [if_pos htg]
      exact ⟨none, by show q_Ro _ (q_up _ _ _ _ _ _) _; rw [q_up_same]; rfl, rfl⟩
    · rcases q_tags bb hc.2 a ha with ⟨g2, -⟩ | ⟨g2, -⟩ | ⟨g2, g3⟩
      · omega
      · omega
      · exact q_fitr g3 none
end QMEM
