-- deps:
/-! a run in the abstract -/
section
/-- a value: kind (0 number, 1 object, 2 nothing), number -/
abbrev y_V : Type := Int32 × Int32
def y_ec (v : y_V) : Int32 := if v.1 = 2 then -1 else v.2
/-- what is being found: frame, place, stage, values of its parts -/
abbrev y_Ac : Type := Nat × Nat × Nat × List y_V
/-- methods and objects of frames, locals, how many objects, their classes, their fields -/
abbrev y_Qh : Type := (Nat → Nat) × (Nat → Nat) × (Nat → Nat → Option y_V) × Nat × (Nat → Nat) × (Nat → Nat → y_V)
def y_qm (h : y_Qh) (f : Nat) : Nat := h.1 f
def y_qo (h : y_Qh) (f : Nat) : Nat := h.2.1 f
def y_ql (h : y_Qh) (f s : Nat) : Option y_V := h.2.2.1 f s
def y_qn (h : y_Qh) : Nat := h.2.2.2.1
def y_qc (h : y_Qh) (o : Nat) : Nat := h.2.2.2.2.1 o
def y_qf (h : y_Qh) (o n : Nat) : y_V := h.2.2.2.2.2 o n
/-- what is being found, heap, steps, how it ended, its number, what came of it -/
abbrev y_Qs : Type := List y_Ac × y_Qh × Nat × Int32 × Int32 × y_V
def y_st (s : List y_Ac) (h : y_Qh) (n : Nat) (out : y_V) (f i : Nat) : y_Qs := if n = 500 then (s, h, n, 5, 0, out) else ((f, i, 0, []) :: s, h, n + 1, -1, 0, out)
def y_fin (s : List y_Ac) (h : y_Qh) (n : Nat) (out v : y_V) : y_Qs := match s with
  | [] => ([], h, n, -1, 0, v)
  | b :: s' => ((b.1, b.2.1, b.2.2.1, b.2.2.2 ++ [v]) :: s', h, n, -1, 0, out)
def y_l (P : z_Pg) (h : y_Qh) (a : y_Ac) : List z_N := z_bd P (y_qm h a.1)
def y_k (P : z_Pg) (h : y_Qh) (a : y_Ac) : Int32 := z_k (y_l P h a) a.2.1
def y_p (P : z_Pg) (h : y_Qh) (a : y_Ac) : Nat := z_p (y_l P h a) a.2.1
def y_v (P : z_Pg) (h : y_Qh) (a : y_Ac) : Int32 := z_v (y_l P h a) a.2.1
def y_pt (P : z_Pg) (h : y_Qh) (a : y_Ac) (j : Nat) : Nat := z_pt (y_l P h a) a.2.1 j
noncomputable def y_ty (P : z_Pg) (h : y_Qh) (a : y_Ac) : Int32 := z_Ty P (y_qm h a.1) a.2.1
def y_unw (P : z_Pg) (h : y_Qh) : List y_Ac → Option (y_Ac × List y_Ac)
  | [] => none
  | a :: s => if y_k P h a = 13 ∧ a.2.2.1 = 1 then some (a, s) else y_unw P h s
def y_ra (P : z_Pg) (s : List y_Ac) (h : y_Qh) (n : Nat) (out : y_V) (e w : Int32) : y_Qs := match y_unw P h s with
  | none => ([], h, n, e, w, out)
  | some (a, s') => y_st ((a.1, a.2.1, 2, []) :: s') h n out a.1 (y_pt P h a 1)
def y_g (vs : List y_V) (j : Nat) : y_V := vs.getD j (0, 0)
def y_lv (vs : List y_V) : y_V := y_g vs (vs.length - 1)
def y_sl (x : Int32) : Nat := (x + 2).toNatClampNeg
/-- a local written -/
def y_wl (h : y_Qh) (f s : Nat) (v : y_V) : y_Qh := (h.1, h.2.1, fun f' s' => if f' = f ∧ s' = s then some v else y_ql h f' s', h.2.2.2)
/-- a field written -/
def y_wf (h : y_Qh) (o n : Nat) (v : y_V) : y_Qh := (h.1, h.2.1, h.2.2.1, h.2.2.2.1, h.2.2.2.2.1, fun o' n' => if o' = o ∧ n' = n then v else y_qf h o' n')
def y_isN (P : z_Pg) (c n : Nat) : Bool := match z_fc P c n with
  | none => false
  | some d => !(z_fld P d n - 2 == -1)
/-- an object more -/
def y_new (P : z_Pg) (h : y_Qh) (c : Nat) : y_Qh := (h.1, h.2.1, h.2.2.1, y_qn h + 1, fun o => if o = y_qn h then c else y_qc h o, fun o n => if o = y_qn h then (if y_isN P c n = true then 2 else 0, 0) else y_qf h o n)
/-- a frame more -/
def y_en (h : y_Qh) (f q o : Nat) (x y : Option y_V) : y_Qh := (fun f' => if f' = f then q else y_qm h f', fun f' => if f' = f then o else y_qo h f', fun f' s => if f' = f then (if s = 1 then x else if s = 0 then y else none) else y_ql h f' s, h.2.2.2)
noncomputable def y_bd (P : z_Pg) (h : y_Qh) (a : y_Ac) : Int32 := z_Bd P (y_qm h a.1) a.2.1
noncomputable def y_rd (P : z_Pg) (h : y_Qh) (a : y_Ac) : y_V := if y_bd P h a < 1000 then (y_ql h a.1 (y_sl (y_bd P h a))).getD (0, 0) else y_qf h (y_qo h a.1) (y_v P h a).toNatClampNeg
noncomputable def y_wr (P : z_Pg) (h : y_Qh) (a : y_Ac) (v : y_V) : y_Qh := if y_bd P h a < 1000 then y_wl h a.1 (y_sl (y_bd P h a)) v else y_wf h (y_qo h a.1) (y_v P h a).toNatClampNeg v
def y_op (k x y : Int32) : Int32 := if k = 0 then x + y else if k = 1 then x - y else if k = 2 then x * y else if x < y then 1 else 0
def y_up1 (a : y_Ac) : y_Ac := (a.1, a.2.1, a.2.2.1 + 1, a.2.2.2)
def y_o (vs : List y_V) : Nat := (y_g vs 0).2.toNatClampNeg
def y_callee (P : z_Pg) (h : y_Qh) (a : y_Ac) : Nat := (z_fm P (y_qc h (y_o a.2.2.2)) (y_v P h a) (z_a (y_l P h a) a.2.1)).getD 0
noncomputable def y_ap (P : z_Pg) (a : y_Ac) (s : List y_Ac) (h : y_Qh) (n : Nat) (out : y_V) : y_Qs :=
  if y_k P h a = 3 then (if (y_g a.2.2.2 0).1 = 2 then y_ra P s h n out 4 0 else y_fin s h n out (y_qf h (y_o a.2.2.2) (y_v P h a).toNatClampNeg))
  else if y_k P h a = 4 then (if (y_g a.2.2.2 0).1 = 2 then y_ra P s h n out 4 0 else y_fin s (y_wf h (y_o a.2.2.2) (y_v P h a).toNatClampNeg (y_g a.2.2.2 1)) n out (y_g a.2.2.2 1))
  else if y_k P h a = 6 then y_fin s (y_wr P h a (y_g a.2.2.2 0)) n out (y_g a.2.2.2 0)
  else if y_k P h a = 7 then (if y_p P h a < a.2.2.1 then y_fin s h n out (y_lv a.2.2.2) else if (y_g a.2.2.2 0).1 = 2 then y_ra P s h n out 4 0 else if a.1 + 1 = 20 then (y_up1 a :: s, h, n, 5, 0, out) else y_st (y_up1 a :: s) (y_en h (a.1 + 1) (y_callee P h a) (y_o a.2.2.2) (a.2.2.2[1]?) (a.2.2.2[2]?)) n out (a.1 + 1) 0)
  else if y_k P h a = 11 then y_fin s h n out (0, y_op (y_v P h a) (y_g a.2.2.2 0).2 (y_g a.2.2.2 1).2)
  else y_ra P s h n out 3 (y_g a.2.2.2 0).2
/-- a turn -/
noncomputable def y_go (P : z_Pg) (a : y_Ac) (s : List y_Ac) (h : y_Qh) (n : Nat) (out : y_V) : y_Qs :=
  if y_k P h a = 0 then y_fin s h n out (0, y_v P h a)
  else if y_k P h a = 1 then y_fin s h n out (y_rd P h a)
  else if y_k P h a = 2 then y_fin s h n out (1, nI (y_qo h a.1))
  else if y_k P h a = 8 then y_fin s (y_new P h (y_v P h a).toNatClampNeg) n out (1, nI (y_qn h))
  else if y_k P h a = 5 ∨ y_k P h a = 9 ∨ y_k P h a = 10 ∨ y_k P h a = 13 then
    (if a.2.2.1 = 0 then y_st (y_up1 a :: s) h n out a.1 (y_pt P h a 0)
     else if 1 < a.2.2.1 ∨ y_k P h a = 13 then y_fin s h n out (y_lv a.2.2.2)
     else y_st (y_up1 a :: s) (if y_k P h a = 5 then y_wl h a.1 (a.2.1 + 2) (y_lv a.2.2.2) else h) n out a.1 (y_pt P h a (if y_k P h a = 10 ∧ (y_lv a.2.2.2).2 = 0 then 2 else 1)))
  else if a.2.2.1 < y_p P h a then y_st (y_up1 a :: s) h n out a.1 (y_pt P h a a.2.2.1)
  else y_ap P a s h n out
/-! what is always so -/
/-- a value of a type -/
def y_vt (P : z_Pg) (h : y_Qh) (T : Int32) (v : y_V) : Prop := (T = -1 ∧ v.1 = 0) ∨ ∃ c, c < z_nc P ∧ T = nI c ∧ (v.1 = 2 ∨ (v.1 = 1 ∧ ∃ o, o < y_qn h ∧ v.2 = nI o ∧ y_qc h o < z_nc P ∧ z_blw P (y_qc h o) c = true))
noncomputable def y_slt (P : z_Pg) (m s : Nat) : Int32 := if s = 1 then z_hd P m 6 else if s = 0 then z_hd P m 7 else z_Ty P m (s - 1)
def y_HI (P : z_Pg) (h : y_Qh) (F : Nat) : Prop := (∀ f, f ≤ F → y_qm h f < z_nm P ∧ z_liv P (y_qm h f) = true ∧ y_qo h f < y_qn h ∧ z_blw P (y_qc h (y_qo h f)) (z_own P (y_qm h f)) = true) ∧ (∀ f, f ≤ F → ∀ s v, y_ql h f s = some v → y_vt P h (y_slt P (y_qm h f) s) v) ∧ ∀ o, o < y_qn h → y_qc h o < z_nc P ∧ ∀ n, n < 16 → ∀ d, z_fc P (y_qc h o) n = some d → y_vt P h (z_fld P d n - 2) (y_qf h o n)
/-- a local that may be read at a place -/
def y_LV (P : z_Pg) (m i s : Nat) : Prop := (s = 1 ∧ 0 < z_cnt P m) ∨ (s = 0 ∧ 1 < z_cnt P m) ∨ ∃ j, s = j + 2 ∧ z_k (z_bd P m) j = 5 ∧ j < i ∧ i < z_en (z_bd P m) j ∧ z_en (z_bd P m) (j + 1) ≤ i
/-- what a part's value must fit -/
noncomputable def y_rq (P : z_Pg) (h : y_Qh) (a : y_Ac) (j : Nat) : Int32 := if ((y_k P h a = 5 ∨ y_k P h a = 9 ∨ y_k P h a = 10) ∧ j = 1) ∨ y_k P h a = 13 ∨ (y_k P h a = 7 ∧ j = y_p P h a) then y_ty P h a else z_Ty P (y_qm h a.1) (y_pt P h a j)
def y_sb (k : Int32) (p : Nat) : Nat := if k = 7 then p + 1 else if k = 10 then 2 else p
def y_xc (k : Int32) (st : Nat) : Nat := if k = 13 ∧ st = 2 then 1 else st
def y_AW (P : z_Pg) (h : y_Qh) (a : y_Ac) : Prop := a.2.1 < (y_l P h a).length ∧ (∀ s, y_LV P (y_qm h a.1) a.2.1 s → (y_ql h a.1 s).isSome = true) ∧ a.2.2.1 ≤ y_sb (y_k P h a) (y_p P h a) ∧ ∀ j, j < a.2.2.2.length → y_vt P h (y_rq P h a j) (y_g a.2.2.2 j)
def y_LK (P : z_Pg) (h : y_Qh) (k0 : Nat) (a : y_Ac) (s : List y_Ac) : Prop := match s with
  | [] => a.1 = 0 ∧ z_fit P (y_ty P h a) (z_hd P k0 8) = true
  | b :: _ => b.2.2.2.length + 1 = y_xc (y_k P h b) b.2.2.1 ∧ (if y_k P h b = 7 ∧ b.2.2.1 = y_p P h b + 1 then a.1 = b.1 + 1 else a.1 = b.1) ∧ z_fit P (y_ty P h a) (y_rq P h b b.2.2.2.length) = true
def y_CH (P : z_Pg) (h : y_Qh) (k0 : Nat) : List y_Ac → Prop
  | [] => True
  | a :: s => y_AW P h a ∧ y_LK P h k0 a s ∧ y_CH P h k0 s
def y_ht : List y_Ac → Nat
  | [] => 0
  | a :: s => y_ht s + a.2.2.2.length
def y_QI (P : z_Pg) (k0 : Nat) (s : List y_Ac) (h : y_Qh) (n : Nat) (out : y_V) : Prop := (n ≤ 500 ∧ y_ht s + s.length ≤ n ∧ y_qn h + s.length ≤ n + 1) ∧ match s with
  | [] => y_vt P h (z_hd P k0 8) out
  | a :: _ => a.2.2.2.length = y_xc (y_k P h a) a.2.2.1 ∧ y_CH P h k0 s ∧ y_HI P h a.1 ∧ a.1 < 20
/-- what becomes less -/
def y_mu : List y_Ac → Nat
  | [] => 0
  | a :: s => y_mu s + (5 - a.2.2.1)
/-- one field of a name on each way up -/
def z_fu (P : z_Pg) : Prop := ∀ c d n, c < z_nc P → n < 16 → z_blw P c d = true → z_fld P c n ≠ 0 → z_fld P d n ≠ 0 → c = d
end
