/-! THE PURE MACHINE: the same instructions over a pure heap. Things have numbers (ids); an id's kind is its class (below 13), or 20 + a kind of array (0 int, 1 boolean, 2 long, 3 Program[], 4 Body[]). -/
/-- how many ids, kinds, lengths, ints, references, longs; cells and slots made so far -/
abbrev q_H : Type := Nat × (Nat → Nat) × (Nat → Nat) × (Nat → Nat → Int32) × (Nat → Nat → Option Nat) × (Nat → Nat → Int64) × Nat × Nat
abbrev q_n (h : q_H) : Nat := h.1
abbrev q_kd (h : q_H) : Nat → Nat := h.2.1
abbrev q_ln (h : q_H) : Nat → Nat := h.2.2.1
abbrev q_im (h : q_H) : Nat → Nat → Int32 := h.2.2.2.1
abbrev q_rm (h : q_H) : Nat → Nat → Option Nat := h.2.2.2.2.1
abbrev q_jm (h : q_H) : Nat → Nat → Int64 := h.2.2.2.2.2.1
abbrev q_cc (h : q_H) : Nat := h.2.2.2.2.2.2.1
abbrev q_ss (h : q_H) : Nat := h.2.2.2.2.2.2.2
def q_up {α : Type} (f : Nat → Nat → α) (k j : Nat) (v : α) : Nat → Nat → α := fun a b => if a = k ∧ b = j then v else f a b
def q_row {α : Type} (f : Nat → Nat → α) (k : Nat) (v : α) : Nat → Nat → α := fun a b => if a = k then v else f a b
def q_si (h : q_H) (k j : Nat) (v : Int32) : q_H := (h.1, h.2.1, h.2.2.1, q_up h.2.2.2.1 k j v, h.2.2.2.2)
def q_sr (h : q_H) (k j : Nat) (v : Option Nat) : q_H := (h.1, h.2.1, h.2.2.1, h.2.2.2.1, q_up h.2.2.2.2.1 k j v, h.2.2.2.2.2)
def q_sj (h : q_H) (k j : Nat) (v : Int64) : q_H := (h.1, h.2.1, h.2.2.1, h.2.2.2.1, h.2.2.2.2.1, q_up h.2.2.2.2.2.1 k j v, h.2.2.2.2.2.2)
/-- a new thing of a kind and a length -/
def q_mk (h : q_H) (kd ln : Nat) : q_H := (h.1 + 1, va_up h.2.1 h.1 kd, va_up h.2.2.1 h.1 ln, q_row h.2.2.2.1 h.1 0, q_row h.2.2.2.2.1 h.1 none, q_row h.2.2.2.2.2.1 h.1 0, h.2.2.2.2.2.2.1 + 1, h.2.2.2.2.2.2.2 + ln)
/-- an exception is made: a cell of six slots that no id names -/
def q_ex1 (h : q_H) : q_H := (h.1, h.2.1, h.2.2.1, h.2.2.2.1, h.2.2.2.2.1, h.2.2.2.2.2.1, h.2.2.2.2.2.2.1 + 1, h.2.2.2.2.2.2.2 + 6)
/-- the script's id -/
def q_SC : Nat := 1000000
def q_lk (lv : List (Nat × Value)) (i : Nat) : Option Value := lv.lookup i
def q_rmv (lv : List (Nat × Value)) (i : Nat) : List (Nat × Value) := lv.filter (fun q => !(q.1 == i) && !(q.1 + 1 == i && q.2.category == 2))
def q_sv (lv : List (Nat × Value)) (i : Nat) (v : Value) : List (Nat × Value) := (i, v) :: q_rmv lv i
def q_sum (st : List Value) : Nat := (st.map fun v => v.category).sum
/-- a frame's point -/
abbrev q_P : Type := Nat × List (Nat × Value) × List Value × q_H
def q_ins (i : Int32) (n : Nat) : Bool := !(decide (i < 0) || decide (n ≤ i.toNatClampNeg))
def q_ld (i : Nat) (len pc : Nat) (lv : List (Nat × Value)) (st : List Value) (h : q_H) (int : Bool) : Option q_P :=
  match q_lk lv i with
  | some (.int x) => if int then some (pc + len, lv, .int x :: st, h) else none
  | some (.ref x) => if int then none else some (pc + len, lv, .ref x :: st, h)
  | _ => none
def q_sto (i : Nat) (len pc : Nat) (lv : List (Nat × Value)) (st : List Value) (h : q_H) (int : Bool) : Option q_P :=
  match st with
  | .int x :: r => if int then some (pc + len, q_sv lv i (.int x), r, h) else none
  | .ref x :: r => if int then none else some (pc + len, q_sv lv i (.ref x), r, h)
  | _ => none
def q_bin (f : Int32 → Int32 → Int32) (pc : Nat) (lv : List (Nat × Value)) (st : List Value) (h : q_H) : Option q_P :=
  match st with
  | .int y :: .int x :: r => some (pc + 1, lv, .int (f x y) :: r, h)
  | _ => none
def q_c1 (c : ClassFile.Cond) (t pc : Nat) (lv : List (Nat × Value)) (r : List Value) (h : q_H) (x y : Int32) : q_P :=
  match c with
  | .eq => if x = y then (t, lv, r, h) else (pc + 3, lv, r, h)
  | .ne => if x = y then (pc + 3, lv, r, h) else (t, lv, r, h)
  | .lt => if x < y then (t, lv, r, h) else (pc + 3, lv, r, h)
  | .ge => if x < y then (pc + 3, lv, r, h) else (t, lv, r, h)
  | .gt => if y < x then (t, lv, r, h) else (pc + 3, lv, r, h)
  | .le => if y < x then (pc + 3, lv, r, h) else (t, lv, r, h)
def q_get (a b pc : Nat) (lv : List (Nat × Value)) (st : List Value) (h : q_H) : Option q_P :=
  match st with
  | .ref k :: r => if q_kd h k = b ∧ b < 13 then (if q_fg b a = 2 then some (pc + 3, lv, va_rf (q_rm h k a) :: r, h) else if q_fg b a < 2 then some (pc + 3, lv, .int (q_im h k a) :: r, h) else none) else none
  | _ => none
def q_put (a b pc : Nat) (ok : Bool) (lv : List (Nat × Value)) (st : List Value) (h : q_H) : Option q_P :=
  match st with
  | .int x :: .ref k :: r => if (q_kd h k = b ∧ b < 13) ∧ ok = true then (if q_fg b a = 0 ∨ (q_fg b a = 1 ∧ (x = 0 ∨ x = 1)) then some (pc + 3, lv, r, q_si h k a x) else none) else none
  | .ref j :: .ref k :: r => if (q_kd h k = b ∧ b < 13) ∧ ok = true then (if q_fg b a = 2 then some (pc + 3, lv, r, q_sr h k a (some j)) else none) else none
  | .null :: .ref k :: r => if (q_kd h k = b ∧ b < 13) ∧ ok = true then (if q_fg b a = 2 then some (pc + 3, lv, r, q_sr h k a none) else none) else none
  | _ => none
def q_ald (sc : Option (Nat × (Nat → Int32))) (kd pc : Nat) (lv : List (Nat × Value)) (st : List Value) (h : q_H) : Option q_P :=
  match st with
  | .int i :: .ref k :: r =>
    (match sc with
    | some (L, xs) => if k = q_SC then (if kd = 20 ∧ q_ins i L = true then some (pc + 1, lv, .int (xs i.toNatClampNeg) :: r, h) else none) else (if q_kd h k = kd ∧ q_ins i (q_ln h k) = true then some (pc + 1, lv, .int (q_im h k i.toNatClampNeg) :: r, h) else none)
    | none => if q_kd h k = kd ∧ q_ins i (q_ln h k) = true then some (pc + 1, lv, .int (q_im h k i.toNatClampNeg) :: r, h) else none)
  | _ => none
def q_ast (kd pc : Nat) (lv : List (Nat × Value)) (st : List Value) (h : q_H) : Option q_P :=
  match st with
  | .int x :: .int i :: .ref k :: r => if (q_kd h k = kd ∧ q_ins i (q_ln h k) = true) ∧ (kd = 20 ∨ x = 0 ∨ x = 1) then some (pc + 1, lv, r, q_si h k i.toNatClampNeg x) else none
  | _ => none
def q_qld (pc : Nat) (lv : List (Nat × Value)) (st : List Value) (h : q_H) : Option q_P :=
  match st with
  | .int i :: .ref k :: r => if (q_kd h k = 23 ∨ q_kd h k = 24) ∧ q_ins i (q_ln h k) = true then some (pc + 1, lv, va_rf (q_rm h k i.toNatClampNeg) :: r, h) else none
  | _ => none
def q_qst (pc : Nat) (lv : List (Nat × Value)) (st : List Value) (h : q_H) : Option q_P :=
  match st with
  | .ref v :: .int i :: .ref k :: r => if ((q_kd h k = 23 ∧ q_kd h v = 7) ∨ (q_kd h k = 24 ∧ q_kd h v = 0)) ∧ q_ins i (q_ln h k) = true then some (pc + 1, lv, r, q_sr h k i.toNatClampNeg (some v)) else none
  | _ => none
def q_arr (kd len pc : Nat) (lv : List (Nat × Value)) (st : List Value) (h : q_H) : Option q_P :=
  match st with
  | .int x :: r => if ¬ x < 0 ∧ x.toNatClampNeg ≤ 1000000 ∧ q_n h < q_SC then some (pc + len, lv, .ref (q_n h) :: r, q_mk h kd x.toNatClampNeg) else none
  | _ => none
/-- arrays copied -/
def q_cpy (pc : Nat) (lv : List (Nat × Value)) (st : List Value) (h : q_H) : Option q_P :=
  match st with
  | .int n :: .int dp :: .ref k1 :: .int sp :: .ref k0 :: r =>
    if (q_kd h k0 = 20 ∧ q_kd h k1 = 20) ∧ (¬ sp < 0 ∧ ¬ dp < 0 ∧ ¬ n < 0) ∧ (sp.toNatClampNeg + n.toNatClampNeg ≤ q_ln h k0 ∧ dp.toNatClampNeg + n.toNatClampNeg ≤ q_ln h k1) ∧ q_sum r ≤ 8
    then some (pc + 3, lv, r, (h.1, h.2.1, h.2.2.1, va_up (q_im h) k1 (va_cpy (q_im h k0) (q_im h k1) sp.toNatClampNeg dp.toNatClampNeg n.toNatClampNeg), h.2.2.2.2)) else none
  | _ => none
/-- calls that are no methods of ours -/
def q_blt (b pc : Nat) (lv : List (Nat × Value)) (st : List Value) (h : q_H) : Option q_P :=
  if b = 10 then (match st with | .ref _ :: r => if q_sum r ≤ 8 then some (pc + 3, lv, r, h) else none | _ => none)
  else if b = 11 then (match st with | .int y :: .int x :: r => if q_sum r ≤ 8 then some (pc + 3, lv, .int (if x < y then y else x) :: r, h) else none | _ => none)
  else if b = 12 then (match st with | .int y :: .int x :: r => if q_sum r ≤ 8 then some (pc + 3, lv, .int (if y < x then y else x) :: r, h) else none | _ => none)
  else if b = 13 then q_cpy pc lv st h
  else none
/-- one instruction that stays within its method; own: the class and whether this is its constructor -/
def q_st (sc : Option (Nat × (Nat → Int32))) (own : Nat) (ini : Bool) (i : Instr) (len a b pc : Nat) (lv : List (Nat × Value)) (st : List Value) (h : q_H) : Option q_P :=
  match i with
  | .iconst n => some (pc + len, lv, .int (Int32.ofInt n) :: st, h)
  | .bipush n => some (pc + len, lv, .int (Int8.ofInt n).toInt32 :: st, h)
  | .sipush n => some (pc + len, lv, .int (Int16.ofInt n).toInt32 :: st, h)
  | .ldc _ => if b = 0 then some (pc + len, lv, .int (Int32.ofNat a) :: st, h) else none
  | .ldc_w _ => if b = 0 then some (pc + len, lv, .int (Int32.ofNat a) :: st, h) else none
  | .iload_n k => q_ld k.val len pc lv st h true
  | .iload k => q_ld k len pc lv st h true
  | .aload_n k => q_ld k.val len pc lv st h false
  | .aload k => q_ld k len pc lv st h false
  | .istore_n k => q_sto k.val len pc lv st h true
  | .istore k => q_sto k len pc lv st h true
  | .astore_n k => q_sto k.val len pc lv st h false
  | .astore k => q_sto k len pc lv st h false
  | .iinc k n => (match q_lk lv k with | some (.int x) => some (pc + len, q_sv lv k (.int (x + Int32.ofInt n)), st, h) | _ => none)
  | .iadd => q_bin (fun x y => x + y) pc lv st h
  | .isub => q_bin (fun x y => x - y) pc lv st h
  | .imul => q_bin (fun x y => x * y) pc lv st h
  | .iand => q_bin (fun x y => x &&& y) pc lv st h
  | .ior => q_bin (fun x y => x ||| y) pc lv st h
  | .ixor => q_bin (fun x y => x ^^^ y) pc lv st h
  | .ishl => q_bin (fun x y => x <<< (y &&& 31)) pc lv st h
  | .iushr => q_bin (fun x y => (x.toUInt32 >>> (y.toUInt32 &&& Int32.toUInt32 31)).toInt32) pc lv st h
  | .idiv => (match st with | .int y :: .int x :: r => if y = 0 then none else some (pc + 1, lv, .int (x / y) :: r, h) | _ => none)
  | .irem => (match st with | .int y :: .int x :: r => if y = 0 then none else some (pc + 1, lv, .int (x - x / y * y) :: r, h) | _ => none)
  | .ineg => (match st with | .int x :: r => some (pc + 1, lv, .int (-x) :: r, h) | _ => none)
  | .i2l => (match st with | .int x :: r => some (pc + 1, lv, .long x.toInt64 :: r, h) | _ => none)
  | .lcmp => (match st with | .long y :: .long x :: r => some (pc + 1, lv, .int (lg_cmp x y) :: r, h) | _ => none)
  | .dup => (match st with | v :: r => if v.category = 1 then some (pc + 1, lv, v :: v :: r, h) else none | _ => none)
  | .dup2 => (match st with | v :: w :: r => if v.category = 1 ∧ w.category = 1 then some (pc + 1, lv, v :: w :: v :: w :: r, h) else none | _ => none)
  | .pop => (match st with | v :: r => if v.category = 1 then some (pc + 1, lv, r, h) else none | _ => none)
  | .goto _ => some (a, lv, st, h)
  | .ifCond c _ => (match st with | .int x :: r => some (q_c1 c a pc lv r h x 0) | _ => none)
  | .if_icmp c _ => (match st with | .int y :: .int x :: r => some (q_c1 c a pc lv r h x y) | _ => none)
  | .tableswitch d lo hi offs => (match st with
    | .int x :: r => if x.toInt < lo ∨ hi < x.toInt then some (((pc : Int) + d).toNat, lv, r, h) else (match offs[(x.toInt - lo).toNat]? with | some off => some (((pc : Int) + off).toNat, lv, r, h) | none => none)
    | _ => none)
  | .getfield _ => q_get a b pc lv st h
  | .putfield _ => q_put a b pc (!(q_fin b a) || (ini && own == b)) lv st h
  | .iaload => q_ald sc 20 pc lv st h
  | .baload => q_ald none 21 pc lv st h
  | .iastore => q_ast 20 pc lv st h
  | .bastore => q_ast 21 pc lv st h
  | .laload => (match st with | .int i :: .ref k :: r => if q_kd h k = 22 ∧ q_ins i (q_ln h k) = true then some (pc + 1, lv, .long (q_jm h k i.toNatClampNeg) :: r, h) else none | _ => none)
  | .lastore => (match st with | .long x :: .int i :: .ref k :: r => if q_kd h k = 22 ∧ q_ins i (q_ln h k) = true then some (pc + 1, lv, r, q_sj h k i.toNatClampNeg x) else none | _ => none)
  | .aaload => q_qld pc lv st h
  | .aastore => q_qst pc lv st h
  | .arraylength => (match st with | .ref k :: r => if k = q_SC then (match sc with | some (L, _) => some (pc + 1, lv, .int (Int32.ofNat L) :: r, h) | none => none) else none | _ => none)
  | .newarray t => (match t with | .int => q_arr 20 len pc lv st h | .boolean => q_arr 21 len pc lv st h | .long => q_arr 22 len pc lv st h | _ => none)
  | .anewarray _ => if a = 3 ∨ a = 4 then q_arr (20 + a) len pc lv st h else none
  | .new _ => if b = 0 ∧ a < 13 ∧ q_n h < q_SC then some (pc + 3, lv, .ref (q_n h) :: st, q_mk h a (q_NF a)) else none
  | .invokespecial _ => q_blt b pc lv st h
  | .invokestatic _ => q_blt b pc lv st h
  | _ => none
/-- how a method ends: it returns, or throws an exception of ours by its number -/
abbrev q_O : Type := Option Value ⊕ Nat
/-- what an instruction returns, if it ends its method: 'ret' as q_Mr tells it -/
def q_ret (i : Instr) (ret : Nat) (st : List Value) : Option (Option Value) := match i with
  | .return_ => (match st with | [] => if ret = 0 then some none else none | _ => none)
  | .ireturn => (match st with | [.int x] => if ret = 1 ∨ (ret = 2 ∧ (x = 0 ∨ x = 1)) then some (some (.int x)) else none | _ => none)
  | .areturn => (match st with | [.ref k] => if ret = 3 then some (some (.ref k)) else none | _ => none)
  | _ => none
def q_vir (i : Instr) : Bool := match i with
  | .invokevirtual _ => true
  | _ => false
/-- the first handler of a class over a place -/
def q_hf (hs : List (Nat × Nat × Nat × Nat × Nat × Nat × Nat)) (pc E : Nat) : Option (Nat × Nat) := match hs with
  | [] => none
  | (s, e, _, _, E', k, nx) :: l => if s ≤ pc ∧ pc < e ∧ E' = E then some (k, nx) else q_hf l pc E
/-- may this be called: enough arguments, an object of the class for a method that isn't static, little else on the stack -/
def q_cok (r : q_Mr) (st : List Value) (h : q_H) : Bool :=
  decide (r.2.2.2.2.2.1 ≤ st.length) && decide (q_sum (st.drop r.2.2.2.2.2.1) ≤ 8) && decide (q_sum (st.take r.2.2.2.2.2.1) ≤ r.2.2.2.1) &&
  (r.2.1 || (match (st.take r.2.2.2.2.2.1).reverse with | .ref k :: _ => r.2.2.1 || decide (q_kd h k = r.1) | _ => false))
/-- the pure machine: method y goes on from pc, with so much fuel -/
def q_ex (sc : Option (Nat × (Nat → Int32))) : Nat → Nat → Nat → List (Nat × Value) → List Value → q_H → Option (q_O × q_H)
  | 0, _, _, _, _, _ => none
  | n + 1, y, pc, lv, st, h =>
    match q_code y pc with
    | none => none
    | some (i, len, a, b) =>
      match q_ret i (q_mr y).2.2.2.2.1 st with
      | some v => some (.inl v, h)
      | none =>
        if q_cal i b = true then
          (if q_cok (q_mr a) st h = true then
            (match q_ex none n a 0 (lv_args 0 (st.take (q_mr a).2.2.2.2.2.1).reverse) [] h with
            | some (.inl v, h2) => q_ex sc n y (pc + 3) lv (v.toList ++ st.drop (q_mr a).2.2.2.2.2.1) h2
            | some (.inr E, h2) => if E < 3 ∧ q_vir i = true then (match q_hs y with
              | [] => some (.inr E, h2)
              | hs => (match q_hf hs pc E with
                | some (k, nx) => q_ex sc n y nx (q_rmv lv k) [] h2
                | none => none)) else none
            | none => none)
          else none)
        else if 1000 ≤ b then
          (match q_hs y with
          | [] => if q_sum st ≤ 8 then some (.inr (b - 1000), q_ex1 h) else none
          | _ => none)
        else (match q_st sc (q_mr y).1 (q_mr y).2.2.1 i len a b pc lv st h with
          | some (pc', lv', st', h') => q_ex sc n y pc' lv' st' h'
          | none => none)
