/-! telling nodes: class and reference do the same -/
def z_cd1 (_ : Nat) : Int32 := 1
def z_cdv (E : Nat) : Int32 := if E = 1 then 1 else 2
def z_cd2 (E : Nat) : Int32 := if E = 2 then 1 else 2
def z_cd3 (E : Nat) : Int32 := if E = 2 then 1 else if E = 1 then 2 else 3
/-- the reference's answer v, its refusal c -/
def z_an (cd : Nat → Int32) (r : Int32 ⊕ Nat) (v c : Int32) : Prop := match r with
  | .inl w => v = w ∧ c = 0
  | .inr E => c = cd E
/-- a node is added -/
def z_nd (A : z_A) (t : z_TN) : (Int32 ⊕ Nat) × z_A := if A.1.length = 150 then (.inr 0, A) else (.inl (nI A.1.length), (A.1 ++ [t], A.2))
def z_onumber (A : z_A) (x : Int32) : (Int32 ⊕ Nat) × z_A := z_nd A ((0, x, 0), 0, 0, 0)
def z_ovar (A : z_A) (n : Int32) : (Int32 ⊕ Nat) × z_A := if z_in n 16 = false then (.inr 1, A) else z_nd A ((1, n, 0), 0, 0, 0)
def z_oself (A : z_A) : (Int32 ⊕ Nat) × z_A := z_nd A ((2, 0, 0), 0, 0, 0)
def z_ofield (A : z_A) (o : Int32) (n : Int32) : (Int32 ⊕ Nat) × z_A := if z_in o A.1.length = false then (.inr 2, A) else if z_in n 16 = false then (.inr 1, A) else z_nd A ((3, n, 0), o.toNatClampNeg, 0, 0)
def z_oput (A : z_A) (o : Int32) (n : Int32) (v : Int32) : (Int32 ⊕ Nat) × z_A := if z_in o A.1.length = false then (.inr 2, A) else if z_in v A.1.length = false then (.inr 2, A) else if z_in n 16 = false then (.inr 1, A) else z_nd A ((4, n, 0), o.toNatClampNeg, v.toNatClampNeg, 0)
def z_olet (A : z_A) (n : Int32) (v : Int32) (b : Int32) : (Int32 ⊕ Nat) × z_A := if z_in v A.1.length = false then (.inr 2, A) else if (b == -1 || z_in b A.1.length) = false then (.inr 2, A) else if z_in n 16 = false then (.inr 1, A) else z_nd A (if b = -1 then ((6, n, 0), v.toNatClampNeg, 0, 0) else ((5, n, 0), v.toNatClampNeg, b.toNatClampNeg, 0))
def z_ocall (A : z_A) (o : Int32) (n : Int32) (a : Int32) (b : Int32) : (Int32 ⊕ Nat) × z_A := if z_in o A.1.length = false then (.inr 2, A) else if (a == -1 || z_in a A.1.length) = false then (.inr 2, A) else if (b == -1 || z_in b A.1.length) = false then (.inr 2, A) else if z_in n 16 = false then (.inr 1, A) else if (!(a == -1 && b != -1)) = false then (.inr 1, A) else z_nd A (if a = -1 then ((7, n, 0), o.toNatClampNeg, 0, 0) else if b = -1 then ((7, n, 1), o.toNatClampNeg, a.toNatClampNeg, 0) else ((7, n, 2), o.toNatClampNeg, a.toNatClampNeg, b.toNatClampNeg))
def z_omake (A : z_A) (c : Int32) : (Int32 ⊕ Nat) × z_A := if z_in c (z_nc A.2.1) = false then (.inr 2, A) else z_nd A ((8, c, 0), 0, 0, 0)
def z_otwo (A : z_A) (k : Int32) (a : Int32) (b : Int32) : (Int32 ⊕ Nat) × z_A := if z_in a A.1.length = false then (.inr 2, A) else if z_in b A.1.length = false then (.inr 2, A) else if z_in k 6 = false then (.inr 1, A) else z_nd A (if k = 0 then ((9, 0, 0), a.toNatClampNeg, b.toNatClampNeg, 0) else if k = 1 then ((13, 0, 0), a.toNatClampNeg, b.toNatClampNeg, 0) else ((11, k - 2, 0), a.toNatClampNeg, b.toNatClampNeg, 0))
def z_otest (A : z_A) (c : Int32) (s : Int32) (d : Int32) : (Int32 ⊕ Nat) × z_A := if z_in c A.1.length = false then (.inr 2, A) else if z_in s A.1.length = false then (.inr 2, A) else if z_in d A.1.length = false then (.inr 2, A) else z_nd A ((10, 0, 0), c.toNatClampNeg, s.toNatClampNeg, d.toNatClampNeg)
def z_oraise (A : z_A) (a : Int32) : (Int32 ⊕ Nat) × z_A := if z_in a A.1.length = false then (.inr 2, A) else z_nd A ((12, 0, 0), a.toNatClampNeg, 0, 0)
