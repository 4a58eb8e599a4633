/-! the pure heap and the machine's: ids are places in the world's list -/
def q_am (b : Option Nat) (ws : va_W) (k : Nat) : Option Nat := if k = q_SC then b else (ws[k]?).map (fun q => q.1)
def q_V (am : Nat → Option Nat) (v w : Value) : Prop := match v with
  | .int x => w = .int x
  | .long x => w = .long x
  | .null => w = .null
  | .ref k => ∃ a, am k = some a ∧ w = .ref a
  | _ => False
def q_Ro (am : Nat → Option Nat) (o o' : Option Nat) : Prop := match o with
  | none => o' = none
  | some k => ∃ a, am k = some a ∧ o' = some a
def q_Vs (am : Nat → Option Nat) : List Value → List Value → Prop
  | [], w => w = []
  | v :: r, w => ∃ x t, w = x :: t ∧ q_V am v x ∧ q_Vs am r t
def q_Ls (am : Nat → Option Nat) : List (Nat × Value) → List (Nat × Value) → Prop
  | [], w => w = []
  | q :: r, w => ∃ x t, w = (q.1, x) :: t ∧ q_V am q.2 x ∧ q_Ls am r t
def q_at (kd : Nat) : FieldType := if kd = 20 then .int else if kd = 21 then .boolean else if kd = 22 then .long else if kd = 23 then .object "SmithyBench$Program" else .object "SmithyBench$Body"
def q_F (am : Nat → Option Nat) (tag : Nat) (i : Int32) (r : Option Nat) (v : Value) : Prop := if tag = 2 then ∃ o', q_Ro am r o' ∧ v = va_rf o' else v = .int i
def q_E (am : Nat → Option Nat) (tys : List (ClassId × FieldType)) (kd ln : Nat) (im : Nat → Int32) (rm : Nat → Option Nat) (jm : Nat → Int64) (w : va_E) : Prop :=
  (kd < 13 ∧ ln = q_NF kd ∧ ∃ fs, w = .inr (kd, fs) ∧ fs.length = ln ∧ ∀ j, j < ln → ∃ v, fs[j]? = some v ∧ q_F am (q_fg kd j) (im j) (rm j) v) ∨
  ((kd = 20 ∨ kd = 21) ∧ ∃ (cA : ClassId) (t0 : Nat), tys[t0]? = some (cA, q_at kd) ∧ w = .inl (cA, (ln, .inl im))) ∨
  (kd = 22 ∧ ∃ (cA : ClassId) (t0 : Nat), tys[t0]? = some (cA, q_at kd) ∧ w = .inl (cA, (ln, .inr (.inl jm)))) ∨
  ((kd = 23 ∨ kd = 24) ∧ ∃ (cA : ClassId) (t0 : Nat) (f' : Nat → Option Nat), tys[t0]? = some (cA, q_at kd) ∧ w = .inl (cA, (ln, .inr (.inr (.inr (.inr f'))))) ∧ ∀ j, q_Ro am (rm j) (f' j))
def q_Wd (b : Option Nat) (tys : List (ClassId × FieldType)) (h : q_H) (ws : va_W) : Prop :=
  ws.length = q_n h ∧ q_n h ≤ q_SC ∧ q_kd h q_SC = 99 ∧ ∀ k e, ws[k]? = some e → q_E (q_am b ws) tys (q_kd h k) (q_ln h k) (q_im h k) (q_rm h k) (q_jm h k) e.2
def q_Le (am am' : Nat → Option Nat) : Prop := ∀ k a, am k = some a → am' k = some a
theorem q_V.mono {am am' : Nat → Option Nat} (h : q_Le am am') {v w : Value} (hv : q_V am v w) : q_V am' v w := by
  cases v <;> try exact hv
  obtain ⟨a, h1, h2⟩ := hv
  exact ⟨a, h _ _ h1, h2⟩
theorem q_Ro.mono {am am' : Nat → Option Nat} (h : q_Le am am') {v w : Option Nat} (hv : q_Ro am v w) : q_Ro am' v w := by
  cases v <;> try exact hv
  obtain ⟨a, h1, h2⟩ := hv
  exact ⟨a, h _ _ h1, h2⟩
theorem q_Vs.mono {am am' : Nat → Option Nat} (h : q_Le am am') : ∀ {v w : List Value}, q_Vs am v w → q_Vs am' v w
  | [], _, hv => hv
  | _ :: _, _, ⟨x, t, h1, h2, h3⟩ => ⟨x, t, h1, h2.mono h, h3.mono h⟩
theorem q_Ls.mono {am am' : Nat → Option Nat} (h : q_Le am am') : ∀ {v w : List (Nat × Value)}, q_Ls am v w → q_Ls am' v w
  | [], _, hv => hv
  | _ :: _, _, ⟨x, t, h1, h2, h3⟩ => ⟨x, t, h1, h2.mono h, h3.mono h⟩
theorem q_F.mono {am am' : Nat → Option Nat} (h : q_Le am am') {tag : Nat} {i : Int32} {r : Option Nat} {v : Value} (hv : q_F am tag i r v) : q_F am' tag i r v := by
  unfold q_F at hv ⊢
  by_cases ht : tag = 2
  · rw [if_pos ht] at hv ⊢
    obtain ⟨o, h1, h2⟩ := hv
    exact ⟨o, h1.mono h, h2⟩
  · rw [if_neg ht] at hv ⊢
    exact hv
theorem q_E.mono {am am' : Nat → Option Nat} (h : q_Le am am') {tys t2 : List (ClassId × FieldType)} {kd ln : Nat} {im : Nat → Int32} {rm : Nat → Option Nat} {jm : Nat → Int64} {w : va_E} (hv : q_E am tys kd ln im rm jm w) : q_E am' (tys ++ t2) kd ln im rm jm w := by
  have ht : ∀ {t0 : Nat} {x : ClassId × FieldType}, tys[t0]? = some x → (tys ++ t2)[t0]? = some x := fun {t0 x} hx => by
    rw [List.getElem?_append_left (List.getElem?_eq_some_iff.mp hx).1]; exact hx
  rcases hv with ⟨h1, h2, fs, h3, h4, h5⟩ | ⟨h1, cA, t0, h2, h3⟩ | ⟨h1, cA, t0, h2, h3⟩ | ⟨h1, cA, t0, f', h2, h3, h4⟩
  · exact Or.inl ⟨h1, h2, fs, h3, h4, fun j hj => by obtain ⟨v, a1, a2⟩ := h5 j hj; exact ⟨v, a1, a2.mono h⟩⟩
  · exact Or.inr (Or.inl ⟨h1, cA, t0, ht h2, h3⟩)
  · exact Or.inr (Or.inr (Or.inl ⟨h1, cA, t0, ht h2, h3⟩))
  · exact Or.inr (Or.inr (Or.inr ⟨h1, cA, t0, f', ht h2, h3, fun j => (h4 j).mono h⟩))
theorem q_Le.rf {am : Nat → Option Nat} : q_Le am am := fun _ _ h => h
theorem q_am_set {b : Option Nat} {ws : va_W} {k a : Nat} {e0 e : va_E} (hk : ws[k]? = some (a, e0)) : q_am b (ws.set k (a, e)) = q_am b ws := by
  funext j
  unfold q_am
  split
  · rfl
  · by_cases hj : j = k
    · subst hj
      have hl := (List.getElem?_eq_some_iff.mp hk).1
      rw [List.getElem?_set_self hl, hk]; rfl
    · rw [List.getElem?_set_ne (Ne.symm hj)]
theorem q_am_app {b : Option Nat} {ws : va_W} {x : Nat × va_E} : q_Le (q_am b ws) (q_am b (ws ++ [x])) := by
  intro k a h
  unfold q_am at h ⊢
  split at h
  · rename_i hk; rw [if_pos hk]; exact h
  · rename_i hk
    rw [if_neg hk]
    cases hw : ws[k]? with
    | none => rw [hw] at h; cases h
    | some e =>
      rw [List.getElem?_append_left (List.getElem?_eq_some_iff.mp hw).1, hw]
      rw [hw] at h
      exact h
theorem q_am_new {b : Option Nat} {ws : va_W} {q : Nat} {x : va_E} (h : ws.length < q_SC) : q_am b (ws ++ [(q, x)]) ws.length = some q := by
  unfold q_am
  rw [if_neg (Nat.ne_of_lt h)]
  simp
/-- what an id stands for -/
theorem q_at_ref {b : Option Nat} {tys : List (ClassId × FieldType)} {h : q_H} {ws : va_W} {k a : Nat} (hW : q_Wd b tys h ws) (hk : q_kd h k ≠ 99) (ha : q_am b ws k = some a) :
    ∃ e, ws[k]? = some (a, e) ∧ k < q_n h ∧ q_E (q_am b ws) tys (q_kd h k) (q_ln h k) (q_im h k) (q_rm h k) (q_jm h k) e := by
  obtain ⟨h1, h2, h3, h4⟩ := hW
  unfold q_am at ha
  split at ha
  · rename_i hs; subst hs; exact absurd h3 hk
  · cases hw : ws[k]? with
    | none => rw [hw] at ha; cases ha
    | some e =>
      rw [hw] at ha
      obtain ⟨a', e'⟩ := e
      cases ha
      exact ⟨e', rfl, by rw [← h1]; exact (List.getElem?_eq_some_iff.mp hw).1, h4 k _ hw⟩
theorem q_up_same {α : Type} (f : Nat → Nat → α) (k j : Nat) (v : α) : q_up f k j v k j = v := by simp [q_up]
theorem q_up_row {α : Type} (f : Nat → Nat → α) (k j : Nat) (v : α) {k' : Nat} (h : k' ≠ k) : q_up f k j v k' = f k' := by funext x; simp [q_up, h]
theorem q_up_ne {α : Type} (f : Nat → Nat → α) (k j : Nat) (v : α) {j' : Nat} (h : j' ≠ j) : q_up f k j v k j' = f k j' := by simp [q_up, h]
theorem q_up_upd (f : Nat → Nat → Int32) (k j : Nat) (v : Int32) : q_up f k j v k = upd (f k) j v := by funext x; simp [q_up, upd]
theorem q_up_updL (f : Nat → Nat → Int64) (k j : Nat) (v : Int64) : q_up f k j v k = vp_updL (f k) j v := by funext x; simp [q_up, vp_updL]
theorem q_up_up {α : Type} (f : Nat → Nat → α) (k j : Nat) (v : α) : q_up f k j v k = va_up (f k) j v := by funext x; simp [q_up, va_up]
/-- one entry is changed, and its id's row; its kind and length stay -/
theorem q_Wd.set {b : Option Nat} {tys : List (ClassId × FieldType)} {h h' : q_H} {ws : va_W} {k a : Nat} {e0 e : va_E} (hW : q_Wd b tys h ws) (hk : ws[k]? = some (a, e0)) (hn : q_n h' = q_n h) (hkd : q_kd h' = q_kd h) (hln : q_ln h' = q_ln h)
    (ho : ∀ j, j ≠ k → q_im h' j = q_im h j ∧ q_rm h' j = q_rm h j ∧ q_jm h' j = q_jm h j) (he : q_E (q_am b ws) tys (q_kd h k) (q_ln h k) (q_im h' k) (q_rm h' k) (q_jm h' k) e) : q_Wd b tys h' (ws.set k (a, e)) := by
  obtain ⟨h1, h2, h3, h4⟩ := hW
  refine ⟨by rw [List.length_set, hn, h1], by rw [hn]; exact h2, by rw [hkd]; exact h3, fun j x hx => ?_⟩
  rw [q_am_set hk, hkd, hln]
  by_cases hj : j = k
  · subst hj
    rw [List.getElem?_set_self (List.getElem?_eq_some_iff.mp hk).1] at hx
    cases hx
    exact he
  · rw [List.getElem?_set_ne (Ne.symm hj)] at hx
    obtain ⟨i1, i2, i3⟩ := ho j hj
    rw [i1, i2, i3]
    exact h4 j x hx
/-- one entry comes -/
theorem q_Wd.app {b : Option Nat} {tys t2 : List (ClassId × FieldType)} {h h' : q_H} {ws : va_W} {q : Nat} {e : va_E} (hW : q_Wd b tys h ws) (hlt : q_n h < q_SC) (hn : q_n h' = q_n h + 1)
    (ho : ∀ j, j ≠ q_n h → q_kd h' j = q_kd h j ∧ q_ln h' j = q_ln h j ∧ q_im h' j = q_im h j ∧ q_rm h' j = q_rm h j ∧ q_jm h' j = q_jm h j) (he : q_E (q_am b (ws ++ [(q, e)])) (tys ++ t2) (q_kd h' (q_n h)) (q_ln h' (q_n h)) (q_im h' (q_n h)) (q_rm h' (q_n h)) (q_jm h' (q_n h)) e) : q_Wd b (tys ++ t2) h' (ws ++ [(q, e)]) := by
  obtain ⟨h1, h2, h3, h4⟩ := hW
  refine ⟨by rw [List.length_append, hn, h1]; rfl, by rw [hn]; exact hlt, by rw [(ho q_SC (Nat.ne_of_gt hlt)).1]; exact h3, fun j x hx => ?_⟩
  by_cases hj : j < ws.length
  · rw [List.getElem?_append_left hj] at hx
    obtain ⟨i0, i1, i2, i3, i4⟩ := ho j (by rw [← h1]; exact Nat.ne_of_lt hj)
    rw [i0, i1, i2, i3, i4]
    exact (h4 j x hx).mono q_am_app
  · rw [List.getElem?_append_right (by omega)] at hx
    have hz : j - ws.length < 1 := (List.getElem?_eq_some_iff.mp hx).1
    have hj0 : j = ws.length := by omega
    subst hj0
    rw [Nat.sub_self] at hx
    cases hx
    rw [h1]
    exact he
/-! locals -/
theorem q_V.cat {am : Nat → Option Nat} {v w : Value} (h : q_V am v w) : v.category = w.category := by
  cases v with
  | int x => cases h; rfl
  | long x => cases h; rfl
  | null => cases h; rfl
  | ref k => obtain ⟨a, -, rfl⟩ := h; rfl
  | _ => exact h.elim
theorem q_Ls.look {am : Nat → Option Nat} {i : Nat} {v : Value} : ∀ {lv lvr : List (Nat × Value)}, q_Ls am lv lvr → q_lk lv i = some v → ∃ (k : Nat) (x : Value), lvr[k]? = some (i, x) ∧ q_V am v x
  | [], _, _, h => by cases h
  | (j, u) :: r, w, ⟨x, t, h1, h2, h3⟩, h => by
    subst h1
    unfold q_lk at h
    rw [List.lookup_cons] at h
    split at h
    · rename_i hj
      cases h
      exact ⟨0, x, by rw [show i = j from by simpa using hj]; rfl, h2⟩
    · obtain ⟨k, y, a1, a2⟩ := q_Ls.look h3 h
      exact ⟨k + 1, y, a1, a2⟩
theorem q_Ls.rmv {am : Nat → Option Nat} {i : Nat} : ∀ {lv lvr : List (Nat × Value)}, q_Ls am lv lvr → q_Ls am (q_rmv lv i) (lvr.filter (fun q => !(q.1 == i) && !(q.1 + 1 == i && q.2.category == 2)))
  | [], _, h => by cases h; rfl
  | (j, u) :: r, w, ⟨x, t, h1, h2, h3⟩ => by
    subst h1
    have ih := q_Ls.rmv (i := i) h3
    unfold q_rmv at ih ⊢
    rw [List.filter_cons, List.filter_cons]
    have hc := h2.cat
    dsimp only at hc
    rw [← hc]
    split
    · exact ⟨x, _, rfl, h2, ih⟩
    · exact ih
theorem q_Ls.sto {am : Nat → Option Nat} {i : Nat} {v x : Value} {lv lvr : List (Nat × Value)} (h : q_Ls am lv lvr) (hv : q_V am v x) : q_Ls am (q_sv lv i v) ((i, x) :: lvr.filter (fun q => !(q.1 == i) && !(q.1 + 1 == i && q.2.category == 2))) :=
  ⟨x, _, rfl, hv, h.rmv⟩
theorem lv_has.less {ls : Array Slot} {n : Nat} {l l' : List (Nat × Value)} (h : lv_has ls n l) (hs : ∀ q ∈ l', q ∈ l) : lv_has ls n l' := ⟨h.1, h.2.1, fun q hq => h.2.2 q (hs q hq)⟩
theorem q_Vs.sum {am : Nat → Option Nat} : ∀ {st str : List Value}, q_Vs am st str → q_sum str = q_sum st
  | [], _, h => by cases h; rfl
  | v :: r, w, ⟨x, t, h1, h2, h3⟩ => by
    subst h1
    have := q_Vs.sum h3
    unfold q_sum at this ⊢
    rw [List.map_cons, List.sum_cons, List.map_cons, List.sum_cons, this, h2.cat]
theorem q_Vs.drop {am : Nat → Option Nat} : ∀ (n : Nat) {st str : List Value}, q_Vs am st str → q_Vs am (st.drop n) (str.drop n)
  | 0, _, _, h => h
  | n + 1, [], _, h => by cases h; rfl
  | n + 1, v :: r, w, ⟨x, t, h1, h2, h3⟩ => by subst h1; exact q_Vs.drop n h3
theorem q_Vs.take {am : Nat → Option Nat} : ∀ (n : Nat) {st str : List Value}, q_Vs am st str → q_Vs am (st.take n) (str.take n)
  | 0, _, _, _ => by rw [List.take_zero, List.take_zero]; rfl
  | n + 1, [], _, h => by cases h; rfl
  | n + 1, v :: r, w, ⟨x, t, h1, h2, h3⟩ => by subst h1; exact ⟨x, _, rfl, h2, q_Vs.take n h3⟩
theorem q_Vs.app {am : Nat → Option Nat} : ∀ {a a' b b' : List Value}, q_Vs am a a' → q_Vs am b b' → q_Vs am (a ++ b) (a' ++ b')
  | [], _, _, _, h, h2 => by cases h; exact h2
  | v :: r, _, _, _, ⟨x, t, h1, h2, h3⟩, h4 => by subst h1; exact ⟨x, _, rfl, h2, q_Vs.app h3 h4⟩
theorem q_Vs.rev {am : Nat → Option Nat} : ∀ {a a' : List Value}, q_Vs am a a' → q_Vs am a.reverse a'.reverse
  | [], _, h => by cases h; rfl
  | v :: r, _, ⟨x, t, h1, h2, h3⟩ => by
    subst h1
    rw [List.reverse_cons, List.reverse_cons]
    exact (q_Vs.rev h3).app ⟨x, [], rfl, h2, rfl⟩
theorem q_Vs.len {am : Nat → Option Nat} : ∀ {a a' : List Value}, q_Vs am a a' → a'.length = a.length
  | [], _, h => by cases h; rfl
  | v :: r, _, ⟨x, t, h1, h2, h3⟩ => by subst h1; simp [q_Vs.len h3]
theorem q_Vs.args {am : Nat → Option Nat} : ∀ {a a' : List Value} (i : Nat), q_Vs am a a' → q_Ls am (lv_args i a) (lv_args i a')
  | [], _, _, h => by cases h; rfl
  | v :: r, _, i, ⟨x, t, h1, h2, h3⟩ => by
    subst h1
    exact ⟨x, _, rfl, h2, by rw [h2.cat]; exact h3.args _⟩
