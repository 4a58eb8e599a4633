/-! rules for fields, arrays, calls -/
section QEV2
variable {sc : Option (Nat × (Nat → Int32))} {y pc : Nat} {L : List (Nat × Value)} {st : List Value} {h h1 h2 : q_H} {o : q_O}
theorem ev_getI {cp a b k : Nat} (hc : q_code y pc = some (.getfield cp, 3, a, b)) (hk : q_kd h k = b) (hb : b < 13) (hg : q_fg b a < 2) (kk : q_Ev sc y (pc + 3) L (.int (q_im h k a) :: st) h o h2) : q_Ev sc y pc L (.ref k :: st) h o h2 :=
  ev_st hc rfl rfl (by omega) (fun lv => by dsimp only [q_st, q_get]; rw [if_pos ⟨hk, hb⟩, if_neg (Nat.ne_of_lt hg), if_pos hg]) kk
theorem ev_getR {cp a b k r : Nat} (hc : q_code y pc = some (.getfield cp, 3, a, b)) (hk : q_kd h k = b) (hb : b < 13) (hg : q_fg b a = 2) (hr : q_rm h k a = some r) (kk : q_Ev sc y (pc + 3) L (.ref r :: st) h o h2) : q_Ev sc y pc L (.ref k :: st) h o h2 :=
  ev_st hc rfl rfl (by omega) (fun lv => by dsimp only [q_st, q_get]; rw [if_pos ⟨hk, hb⟩, if_pos hg, hr]; rfl) kk
theorem ev_putI {cp a b k : Nat} {x : Int32} (hc : q_code y pc = some (.putfield cp, 3, a, b)) (hk : q_kd h k = b) (hb : b < 13) (hok : (!(q_fin b a) || ((q_mr y).2.2.1 && (q_mr y).1 == b)) = true) (hg : q_fg b a = 0) (kk : q_Ev sc y (pc + 3) L st (q_si h k a x) o h2) : q_Ev sc y pc L (.int x :: .ref k :: st) h o h2 :=
  ev_st hc rfl rfl (by omega) (fun lv => by dsimp only [q_st, q_put]; rw [if_pos ⟨⟨hk, hb⟩, hok⟩, if_pos (Or.inl hg)]) kk
theorem ev_putZ {cp a b k : Nat} {x : Int32} (hc : q_code y pc = some (.putfield cp, 3, a, b)) (hk : q_kd h k = b) (hb : b < 13) (hok : (!(q_fin b a) || ((q_mr y).2.2.1 && (q_mr y).1 == b)) = true) (hg : q_fg b a = 1) (hx : x = 0 ∨ x = 1) (kk : q_Ev sc y (pc + 3) L st (q_si h k a x) o h2) : q_Ev sc y pc L (.int x :: .ref k :: st) h o h2 :=
  ev_st hc rfl rfl (by omega) (fun lv => by dsimp only [q_st, q_put]; rw [if_pos ⟨⟨hk, hb⟩, hok⟩, if_pos (Or.inr ⟨hg, hx⟩)]) kk
theorem ev_putR {cp a b k j : Nat} (hc : q_code y pc = some (.putfield cp, 3, a, b)) (hk : q_kd h k = b) (hb : b < 13) (hok : (!(q_fin b a) || ((q_mr y).2.2.1 && (q_mr y).1 == b)) = true) (hg : q_fg b a = 2) (kk : q_Ev sc y (pc + 3) L st (q_sr h k a (some j)) o h2) : q_Ev sc y pc L (.ref j :: .ref k :: st) h o h2 :=
  ev_st hc rfl rfl (by omega) (fun lv => by dsimp only [q_st, q_put]; rw [if_pos ⟨⟨hk, hb⟩, hok⟩, if_pos hg]) kk
theorem ev_iald {k a b : Nat} {i : Int32} (hc : q_code y pc = some (.iaload, 1, a, b)) (hb : b < 1000) (hk : q_kd h k = 20) (hi : q_ins i (q_ln h k) = true) (kk : q_Ev none y (pc + 1) L (.int (q_im h k i.toNatClampNeg) :: st) h o h2) : q_Ev none y pc L (.int i :: .ref k :: st) h o h2 :=
  ev_st hc rfl rfl hb (fun lv => by dsimp only [q_st, q_ald]; rw [if_pos ⟨hk, hi⟩]) kk
theorem ev_sald {a b Ln : Nat} {xs : Nat → Int32} {i : Int32} (hc : q_code y pc = some (.iaload, 1, a, b)) (hb : b < 1000) (hi : q_ins i Ln = true) (kk : q_Ev (some (Ln, xs)) y (pc + 1) L (.int (xs i.toNatClampNeg) :: st) h o h2) : q_Ev (some (Ln, xs)) y pc L (.int i :: .ref q_SC :: st) h o h2 :=
  ev_st hc rfl rfl hb (fun lv => by dsimp only [q_st, q_ald]; rw [if_pos rfl, if_pos ⟨rfl, hi⟩]) kk
theorem ev_slen {a b Ln : Nat} {xs : Nat → Int32} (hc : q_code y pc = some (.arraylength, 1, a, b)) (hb : b < 1000) (kk : q_Ev (some (Ln, xs)) y (pc + 1) L (.int (Int32.ofNat Ln) :: st) h o h2) : q_Ev (some (Ln, xs)) y pc L (.ref q_SC :: st) h o h2 :=
  ev_st hc rfl rfl hb (fun lv => by dsimp only [q_st]; rw [if_pos rfl]) kk
theorem ev_bald {k a b : Nat} {i : Int32} (hc : q_code y pc = some (.baload, 1, a, b)) (hb : b < 1000) (hk : q_kd h k = 21) (hi : q_ins i (q_ln h k) = true) (kk : q_Ev sc y (pc + 1) L (.int (q_im h k i.toNatClampNeg) :: st) h o h2) : q_Ev sc y pc L (.int i :: .ref k :: st) h o h2 :=
  ev_st hc rfl rfl hb (fun lv => by dsimp only [q_st, q_ald]; rw [if_pos ⟨hk, hi⟩]) kk
theorem ev_iast {k a b : Nat} {i x : Int32} (hc : q_code y pc = some (.iastore, 1, a, b)) (hb : b < 1000) (hk : q_kd h k = 20) (hi : q_ins i (q_ln h k) = true) (kk : q_Ev sc y (pc + 1) L st (q_si h k i.toNatClampNeg x) o h2) : q_Ev sc y pc L (.int x :: .int i :: .ref k :: st) h o h2 :=
  ev_st hc rfl rfl hb (fun lv => by dsimp only [q_st, q_ast]; rw [if_pos ⟨⟨hk, hi⟩, Or.inl rfl⟩]) kk
theorem ev_bast {k a b : Nat} {i x : Int32} (hc : q_code y pc = some (.bastore, 1, a, b)) (hb : b < 1000) (hk : q_kd h k = 21) (hi : q_ins i (q_ln h k) = true) (hx : x = 0 ∨ x = 1) (kk : q_Ev sc y (pc + 1) L st (q_si h k i.toNatClampNeg x) o h2) : q_Ev sc y pc L (.int x :: .int i :: .ref k :: st) h o h2 :=
  ev_st hc rfl rfl hb (fun lv => by dsimp only [q_st, q_ast]; rw [if_pos ⟨⟨hk, hi⟩, Or.inr hx⟩]) kk
theorem ev_jald {k a b : Nat} {i : Int32} (hc : q_code y pc = some (.laload, 1, a, b)) (hb : b < 1000) (hk : q_kd h k = 22) (hi : q_ins i (q_ln h k) = true) (kk : q_Ev sc y (pc + 1) L (.long (q_jm h k i.toNatClampNeg) :: st) h o h2) : q_Ev sc y pc L (.int i :: .ref k :: st) h o h2 :=
  ev_st hc rfl rfl hb (fun lv => by dsimp only [q_st]; rw [if_pos ⟨hk, hi⟩]) kk
theorem ev_jast {k a b : Nat} {i : Int32} {x : Int64} (hc : q_code y pc = some (.lastore, 1, a, b)) (hb : b < 1000) (hk : q_kd h k = 22) (hi : q_ins i (q_ln h k) = true) (kk : q_Ev sc y (pc + 1) L st (q_sj h k i.toNatClampNeg x) o h2) : q_Ev sc y pc L (.long x :: .int i :: .ref k :: st) h o h2 :=
  ev_st hc rfl rfl hb (fun lv => by dsimp only [q_st]; rw [if_pos ⟨hk, hi⟩]) kk
theorem ev_aald {k a b r : Nat} {i : Int32} (hc : q_code y pc = some (.aaload, 1, a, b)) (hb : b < 1000) (hk : q_kd h k = 23 ∨ q_kd h k = 24) (hi : q_ins i (q_ln h k) = true) (hr : q_rm h k i.toNatClampNeg = some r) (kk : q_Ev sc y (pc + 1) L (.ref r :: st) h o h2) : q_Ev sc y pc L (.int i :: .ref k :: st) h o h2 :=
  ev_st hc rfl rfl hb (fun lv => by dsimp only [q_st, q_qld]; rw [if_pos ⟨hk, hi⟩, hr]; rfl) kk
theorem ev_aast {k a b v : Nat} {i : Int32} (hc : q_code y pc = some (.aastore, 1, a, b)) (hb : b < 1000) (hk : (q_kd h k = 23 ∧ q_kd h v = 7) ∨ (q_kd h k = 24 ∧ q_kd h v = 0)) (hi : q_ins i (q_ln h k) = true) (kk : q_Ev sc y (pc + 1) L st (q_sr h k i.toNatClampNeg (some v)) o h2) : q_Ev sc y pc L (.ref v :: .int i :: .ref k :: st) h o h2 :=
  ev_st hc rfl rfl hb (fun lv => by dsimp only [q_st, q_qst]; rw [if_pos ⟨hk, hi⟩]) kk
theorem ev_objinit {cp a k : Nat} (hc : q_code y pc = some (.invokespecial cp, 3, a, 10)) (hs : q_sum st ≤ 8) (kk : q_Ev sc y (pc + 3) L st h o h2) : q_Ev sc y pc L (.ref k :: st) h o h2 :=
  ev_st hc rfl rfl (by decide) (fun lv => by dsimp only [q_st, q_blt]; rw [if_pos rfl, if_pos hs]) kk
theorem ev_max {cp a : Nat} {x z : Int32} (hc : q_code y pc = some (.invokestatic cp, 3, a, 11)) (hs : q_sum st ≤ 8) (kk : q_Ev sc y (pc + 3) L (.int (if x < z then z else x) :: st) h o h2) : q_Ev sc y pc L (.int z :: .int x :: st) h o h2 :=
  ev_st hc rfl rfl (by decide) (fun lv => by dsimp only [q_st, q_blt]; rw [if_neg (by decide), if_pos rfl, if_pos hs]) kk
theorem ev_min {cp a : Nat} {x z : Int32} (hc : q_code y pc = some (.invokestatic cp, 3, a, 12)) (hs : q_sum st ≤ 8) (kk : q_Ev sc y (pc + 3) L (.int (if z < x then z else x) :: st) h o h2) : q_Ev sc y pc L (.int z :: .int x :: st) h o h2 :=
  ev_st hc rfl rfl (by decide) (fun lv => by dsimp only [q_st, q_blt]; rw [if_neg (by decide), if_neg (by decide), if_pos rfl, if_pos hs]) kk
/-- the heap behind a copying of arrays -/
def q_cpyH (h : q_H) (k0 k1 : Nat) (sp dp n : Nat) : q_H := (h.1, h.2.1, h.2.2.1, va_up (q_im h) k1 (va_cpy (q_im h k0) (q_im h k1) sp dp n), h.2.2.2.2)
theorem ev_copy {cp a k0 k1 : Nat} {sp dp n : Int32} (hc : q_code y pc = some (.invokestatic cp, 3, a, 13)) (hg : (q_kd h k0 = 20 ∧ q_kd h k1 = 20) ∧ (¬ sp < 0 ∧ ¬ dp < 0 ∧ ¬ n < 0) ∧ (sp.toNatClampNeg + n.toNatClampNeg ≤ q_ln h k0 ∧ dp.toNatClampNeg + n.toNatClampNeg ≤ q_ln h k1)) (hs : q_sum st ≤ 8) (kk : q_Ev sc y (pc + 3) L st (q_cpyH h k0 k1 sp.toNatClampNeg dp.toNatClampNeg n.toNatClampNeg) o h2) : q_Ev sc y pc L (.int n :: .int dp :: .ref k1 :: .int sp :: .ref k0 :: st) h o h2 :=
  ev_st hc rfl rfl (by decide) (fun lv => by dsimp only [q_st, q_blt, q_cpy]; rw [if_neg (by decide), if_neg (by decide), if_neg (by decide), if_pos rfl, if_pos ⟨hg.1, hg.2.1, hg.2.2, hs⟩]; rfl) kk
theorem ev_newo {cp a : Nat} (hc : q_code y pc = some (.new cp, 3, a, 0)) (ha : a < 13) (hn : q_n h < q_SC) (kk : q_Ev sc y (pc + 3) L (.ref (q_n h) :: st) (q_mk h a (q_NF a)) o h2) : q_Ev sc y pc L st h o h2 :=
  ev_st hc rfl rfl (by decide) (fun lv => by dsimp only [q_st]; rw [if_pos ⟨rfl, ha, hn⟩]) kk
theorem ev_newi {a b : Nat} {x : Int32} (hc : q_code y pc = some (.newarray .int, 2, a, b)) (hb : b < 1000) (hx : ¬ x < 0 ∧ x.toNatClampNeg ≤ 1000000 ∧ q_n h < q_SC) (kk : q_Ev sc y (pc + 2) L (.ref (q_n h) :: st) (q_mk h 20 x.toNatClampNeg) o h2) : q_Ev sc y pc L (.int x :: st) h o h2 :=
  ev_st hc rfl rfl hb (fun lv => by dsimp only [q_st, q_arr]; rw [if_pos hx]) kk
theorem ev_newz {a b : Nat} {x : Int32} (hc : q_code y pc = some (.newarray .boolean, 2, a, b)) (hb : b < 1000) (hx : ¬ x < 0 ∧ x.toNatClampNeg ≤ 1000000 ∧ q_n h < q_SC) (kk : q_Ev sc y (pc + 2) L (.ref (q_n h) :: st) (q_mk h 21 x.toNatClampNeg) o h2) : q_Ev sc y pc L (.int x :: st) h o h2 :=
  ev_st hc rfl rfl hb (fun lv => by dsimp only [q_st, q_arr]; rw [if_pos hx]) kk
theorem ev_newj {a b : Nat} {x : Int32} (hc : q_code y pc = some (.newarray .long, 2, a, b)) (hb : b < 1000) (hx : ¬ x < 0 ∧ x.toNatClampNeg ≤ 1000000 ∧ q_n h < q_SC) (kk : q_Ev sc y (pc + 2) L (.ref (q_n h) :: st) (q_mk h 22 x.toNatClampNeg) o h2) : q_Ev sc y pc L (.int x :: st) h o h2 :=
  ev_st hc rfl rfl hb (fun lv => by dsimp only [q_st, q_arr]; rw [if_pos hx]) kk
theorem ev_newr {cp a b : Nat} {x : Int32} (hc : q_code y pc = some (.anewarray cp, 3, a, b)) (hb : b < 1000) (ha : a = 3 ∨ a = 4) (hx : ¬ x < 0 ∧ x.toNatClampNeg ≤ 1000000 ∧ q_n h < q_SC) (kk : q_Ev sc y (pc + 3) L (.ref (q_n h) :: st) (q_mk h (20 + a) x.toNatClampNeg) o h2) : q_Ev sc y pc L (.int x :: st) h o h2 :=
  ev_st hc rfl rfl hb (fun lv => by dsimp only [q_st, q_arr]; rw [if_pos ha, if_pos hx]) kk
/-- a switch over numbers -/
theorem ev_tsw {d lo hi : Int} {offs : Array Int} {len a b : Nat} {x : Int32} (hc : q_code y pc = some (.tableswitch d lo hi offs, len, a, b)) (hb : b < 1000) {t : Nat} (ht : (if x.toInt < lo ∨ hi < x.toInt then some ((pc : Int) + d).toNat else (offs[(x.toInt - lo).toNat]?).map (fun off => ((pc : Int) + off).toNat)) = some t) (kk : q_Ev sc y t L st h o h2) : q_Ev sc y pc L (.int x :: st) h o h2 :=
  ev_st hc rfl rfl hb (fun lv => by
    dsimp only [q_st]
    split at ht
    · rename_i h9; rw [if_pos h9]; cases ht; rfl
    · rename_i h9
      rw [if_neg h9]
      cases ho : offs[(x.toInt - lo).toNat]? with
      | none => rw [ho] at ht; cases ht
      | some off => rw [ho] at ht; cases ht; rfl) kk
theorem ev_ret {i : Instr} {len a b : Nat} {v : Option Value} (hc : q_code y pc = some (i, len, a, b)) (hr : q_ret i (q_mr y).2.2.2.2.1 st = some v) : q_Ev sc y pc L st h (.inl v) h := fun lv hl => ⟨1, by
  unfold q_ex
  rw [hc]
  dsimp only
  rw [hr]⟩
/-- what a call asks, but the receiver's class -/
def q_cok0 (r : q_Mr) (st : List Value) : Bool := decide (r.2.2.2.2.2.1 ≤ st.length) && decide (q_sum (st.drop r.2.2.2.2.2.1) ≤ 8) && decide (q_sum (st.take r.2.2.2.2.2.1) ≤ r.2.2.2.1)
theorem q_cokS {r : q_Mr} (h0 : q_cok0 r st = true) (hs : r.2.1 = true) : q_cok r st h = true := by
  unfold q_cok0 at h0
  unfold q_cok
  rw [h0, hs]; rfl
theorem q_cokV {r : q_Mr} {k : Nat} {as : List Value} (h0 : q_cok0 r st = true) (ht : (st.take r.2.2.2.2.2.1).reverse = .ref k :: as) (hk : r.2.2.1 = true ∨ q_kd h k = r.1) : q_cok r st h = true := by
  unfold q_cok0 at h0
  unfold q_cok
  rw [h0, ht]
  simp only [Bool.true_and, Bool.or_eq_true, decide_eq_true_eq]
  exact Or.inr hk
theorem ev_call {i : Instr} {a b : Nat} {v : Option Value} (hc : q_code y pc = some (i, 3, a, b)) (hr : q_ret i (q_mr y).2.2.2.2.1 st = none) (hk : q_cal i b = true) (hok : q_cok (q_mr a) st h = true) (hcl : q_Cl a (st.take (q_mr a).2.2.2.2.2.1).reverse h (.inl v) h1) (kk : q_Ev sc y (pc + 3) L (v.toList ++ st.drop (q_mr a).2.2.2.2.2.1) h1 o h2) : q_Ev sc y pc L st h o h2 := fun lv hl => by
  obtain ⟨n1, e1⟩ := hcl
  obtain ⟨n2, e2⟩ := kk lv hl
  refine ⟨max n1 n2 + 1, ?_⟩
  unfold q_ex
  rw [hc]
  dsimp only
  rw [hr]
  dsimp only
  rw [if_pos hk, if_pos hok, q_more' e1 (Nat.le_max_left _ _)]
  exact q_more' e2 (Nat.le_max_right _ _)
/-- the callee throws, and so does this method -/
theorem ev_callX {cp a b E : Nat} (hc : q_code y pc = some (.invokevirtual cp, 3, a, b)) (hb : b < 2) (hok : q_cok (q_mr a) st h = true) (hcl : q_Cl a (st.take (q_mr a).2.2.2.2.2.1).reverse h (.inr E) h1) (hE : E < 3) (hh : q_hs y = []) : q_Ev sc y pc L st h (.inr E) h1 := fun lv hl => by
  obtain ⟨n1, e1⟩ := hcl
  refine ⟨n1 + 1, ?_⟩
  unfold q_ex
  rw [hc]
  dsimp only [q_ret]
  rw [if_pos (by unfold q_cal; exact decide_eq_true hb), if_pos hok, e1]
  dsimp only
  rw [if_pos ⟨hE, rfl⟩, hh]
/-- the callee throws, and this method catches -/
theorem ev_callC {cp a b E k nx : Nat} (hc : q_code y pc = some (.invokevirtual cp, 3, a, b)) (hb : b < 2) (hok : q_cok (q_mr a) st h = true) (hcl : q_Cl a (st.take (q_mr a).2.2.2.2.2.1).reverse h (.inr E) h1) (hE : E < 3) (hh : q_hf (q_hs y) pc E = some (k, nx)) (kk : q_Ev sc y nx (L.filter (fun q => !(q.1 == k))) [] h1 o h2) : q_Ev sc y pc L st h o h2 := fun lv hl => by
  obtain ⟨n1, e1⟩ := hcl
  have hl2 : q_Lv (L.filter (fun q => !(q.1 == k))) (q_rmv lv k) := by
    refine ⟨fun q hq => ?_, fun q hq => hl.2 q (List.mem_filter.mp hq).1⟩
    obtain ⟨g1, g2⟩ := List.mem_filter.mp hq
    rw [q_lk_rmv (by simpa using g2) hl.2]
    exact hl.1 q g1
  obtain ⟨n2, e2⟩ := kk _ hl2
  refine ⟨max n1 n2 + 1, ?_⟩
  unfold q_ex
  rw [hc]
  dsimp only [q_ret]
  rw [if_pos (by unfold q_cal; exact decide_eq_true hb), if_pos hok, q_more' e1 (Nat.le_max_left _ _)]
  dsimp only
  rw [if_pos ⟨hE, rfl⟩]
  cases hq : q_hs y with
  | nil => rw [hq] at hh; cases hh
  | cons r l =>
    dsimp only
    rw [← hq, hh]
    exact q_more' e2 (Nat.le_max_right _ _)
theorem ev_throw {cp a b : Nat} (hc : q_code y pc = some (.new cp, 3, a, b)) (hb : 1000 ≤ b) (hh : q_hs y = []) (hs : q_sum st ≤ 8) : q_Ev sc y pc L st h (.inr (b - 1000)) (q_ex1 h) := fun lv hl => ⟨1, by
  unfold q_ex
  rw [hc]
  dsimp only [q_ret]
  rw [if_neg (by unfold q_cal; exact Bool.noConfusion), if_pos hb, hh]
  dsimp only
  rw [if_pos hs]⟩
/-- from a method's entry -/
theorem q_Cl.of {y : Nat} {as : List Value} {L : List (Nat × Value)} (hL : lv_args 0 as = L) (hn : q_Lv L L) (k : q_Ev none y 0 L [] h o h2) : q_Cl y as h o h2 := by
  obtain ⟨n, e⟩ := k L hn
  exact ⟨n, by rw [hL]; exact e⟩
end QEV2
