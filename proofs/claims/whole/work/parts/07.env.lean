/-! words of the tables, facts of classes and fields, what a row of our code tables must keep -/
def q_ALL : List Cond := lw_tbl.filter goodWord
theorem q_in {w : Cond} (h : w ∈ lw_tbl) (hg : goodWord w = true) : w ∈ q_ALL := List.mem_filter.mpr ⟨h, hg⟩
def q_y (a : Nat) : MethodName := q_mn.getD a ⟨"", "", ""⟩
def q_lki (own cp a b : Nat) : Prop :=
  (b = 0 → Cond.methodLink (q_R own) cp (q_y a) ∈ lw_tbl) ∧ (b = 1 → Cond.methodLinkNest (q_R own) cp (q_y a) "SmithyBench" ∈ lw_tbl) ∧ (b = 10 → Cond.methodLink (q_R own) cp Lib.objectInit ∈ lw_tbl) ∧
  (b = 11 → Cond.methodLink (q_R own) cp Lib.Math.max.name ∈ lw_tbl) ∧ (b = 12 → Cond.methodLink (q_R own) cp Lib.Math.min.name ∈ lw_tbl) ∧ (b = 13 → Cond.methodLink (q_R own) cp arraycopyName ∈ lw_tbl)
def q_lok (nL own : Nat) (i : Instr) (len a b pc : Nat) : Prop := match i with
  | .bipush _ => len = 2
  | .sipush _ => len = 3
  | .ldc cp => len = 2 ∧ (b = 0 → Cond.constant (q_R own) cp (Int32.ofNat a) ∈ lw_tbl)
  | .ldc_w cp => len = 3 ∧ (b = 0 → Cond.constant (q_R own) cp (Int32.ofNat a) ∈ lw_tbl)
  | .iload _ => len = 2
  | .aload _ => len = 2
  | .istore k => len = 2 ∧ k < nL
  | .astore k => len = 2 ∧ k < nL
  | .istore_n k => len = 1 ∧ k.val < nL
  | .astore_n k => len = 1 ∧ k.val < nL
  | .iinc _ _ => len = 3
  | .goto off => len = 3 ∧ (pc : Int) + off = (a : Int)
  | .ifCond _ off => len = 3 ∧ (pc : Int) + off = (a : Int)
  | .if_icmp _ off => len = 3 ∧ (pc : Int) + off = (a : Int)
  | .tableswitch d _ _ offs => 0 ≤ (pc : Int) + d ∧ ∀ off ∈ offs.toList, 0 ≤ (pc : Int) + off
  | .getfield cp => len = 3 ∧ a < q_NF b ∧ Cond.fieldLink (q_R own) cp (q_T b a).1 (q_T b a).2.1 (q_T b a).2.2.1 ∈ lw_tbl
  | .putfield cp => len = 3 ∧ a < q_NF b ∧ Cond.fieldLink (q_R own) cp (q_T b a).1 (q_T b a).2.1 (q_T b a).2.2.1 ∈ lw_tbl
  | .newarray _ => len = 2
  | .anewarray cp => len = 3 ∧ Cond.classLink (q_R own) cp (q_R (if a = 3 then 7 else 0)) ∈ lw_tbl
  | .new cp => len = 3 ∧ (b = 0 → Cond.classLink (q_R own) cp (q_R a) ∈ lw_tbl)
  | .invokespecial cp => len = 3 ∧ b ≠ 11 ∧ b ≠ 12 ∧ b ≠ 13 ∧ q_lki own cp a b
  | .invokestatic cp => len = 3 ∧ b ≠ 10 ∧ q_lki own cp a b
  | .invokevirtual cp => len = 3 ∧ q_lki own cp a b
  | _ => len = 1
theorem q_c13 {P : Nat → Prop} (h : P 0 ∧ P 1 ∧ P 2 ∧ P 3 ∧ P 4 ∧ P 5 ∧ P 6 ∧ P 7 ∧ P 8 ∧ P 9 ∧ P 10 ∧ P 11 ∧ P 12) {c : Nat} (hc : c < 13) : P c := by
  obtain ⟨a0, a1, a2, a3, a4, a5, a6, a7, a8, a9, a10, a11, a12⟩ := h
  rcases (show c = 0 ∨ c = 1 ∨ c = 2 ∨ c = 3 ∨ c = 4 ∨ c = 5 ∨ c = 6 ∨ c = 7 ∨ c = 8 ∨ c = 9 ∨ c = 10 ∨ c = 11 ∨ c = 12 by omega) with rfl | rfl | rfl | rfl | rfl | rfl | rfl | rfl | rfl | rfl | rfl | rfl | rfl <;> assumption
theorem q_clat {c : Nat} (hc : c < 13) : q_cl[c]? = some (q_R c, q_T c, q_NF c) := q_c13 (P := fun c => q_cl[c]? = some (q_R c, q_T c, q_NF c)) ⟨rfl, rfl, rfl, rfl, rfl, rfl, rfl, rfl, rfl, rfl, rfl, rfl, rfl⟩ hc
theorem q_nm {c : Nat} (hc : c < 13) : ∀ a, a < q_NF c → ∀ b, b < q_NF c → a ≠ b → (q_T c a).2.1 ≠ (q_T c b).2.1 := q_c13 (P := fun c => ∀ a, a < q_NF c → ∀ b, b < q_NF c → a ≠ b → (q_T c a).2.1 ≠ (q_T c b).2.1) ⟨nmX0, nmX1, nmX2, nmX3, nmX4, nmX5, nmX6, nmX7, nmX8, nmX9, nmX10, nmX11, nmX12⟩ hc
theorem q_tyok {c : Nat} (hc : c < 13) : ∀ k, k < q_NF c → parseFieldDescriptor (q_T c k).2.2.1 = some (q_ty c k) := q_c13 (P := fun c => ∀ k, k < q_NF c → parseFieldDescriptor (q_T c k).2.2.1 = some (q_ty c k)) ⟨tyX0_ok, tyX1_ok, tyX2_ok, tyX3_ok, tyX4_ok, tyX5_ok, tyX6_ok, tyX7_ok, tyX8_ok, tyX9_ok, tyX10_ok, tyX11_ok, tyX12_ok⟩ hc
def q_isr (t : FieldType) : Bool := match t with
  | .object _ => true
  | .array _ => true
  | _ => false
theorem q_tags : ∀ c, c < 13 → ∀ k, k < q_NF c → (q_fg c k = 0 ∧ q_ty c k = .int ∨ q_fg c k = 1 ∧ q_ty c k = .boolean ∨ q_fg c k = 2 ∧ q_isr (q_ty c k) = true) := by decide +kernel
theorem q_finT : ∀ c, c < 13 → ∀ k, k < q_NF c → ((q_T c k).2.2.2 = q_fin c k) := by decide +kernel
theorem q_decl {c : Nat} (hc : c < 13) : ∀ k, k < q_NF c → (q_T c k).1 = q_R c := q_c13 (P := fun c => ∀ k, k < q_NF c → (q_T c k).1 = q_R c) ⟨by decide +kernel, by decide +kernel, by decide +kernel, by decide +kernel, by decide +kernel, by decide +kernel, by decide +kernel, by decide +kernel, by decide +kernel, by decide +kernel, by decide +kernel, by decide +kernel, by decide +kernel⟩ hc
theorem q_oinst : Cond.instanceMethod Lib.objectInit ∈ lw_tbl := List.mem_of_getElem? (i := 163) (by decide +kernel)
theorem q_ocode : Cond.code Lib.objectInit ⟨#[0xb1]⟩ 1 none ∈ lw_tbl := List.mem_of_getElem? (i := 164) (by decide +kernel)
theorem q_maxS : Cond.static Lib.Math.max.name ∈ lw_tbl := List.mem_of_getElem? (i := 1205) (by decide +kernel)
theorem q_maxC : Cond.code Lib.Math.max.name Lib.Math.max.code 2 (some .int) ∈ lw_tbl := List.mem_of_getElem? (i := 1206) (by decide +kernel)
theorem q_minS : Cond.static Lib.Math.min.name ∈ lw_tbl := List.mem_of_getElem? (i := 761) (by decide +kernel)
theorem q_minC : Cond.code Lib.Math.min.name Lib.Math.min.code 2 (some .int) ∈ lw_tbl := List.mem_of_getElem? (i := 762) (by decide +kernel)
theorem q_mathI : Cond.initialized "java/lang/Math" ∈ lw_tbl := List.mem_of_getElem? (i := 152) (by decide +kernel)
theorem q_acN : Cond.native arraycopyName ∈ lw_tbl := List.mem_of_getElem? (i := 992) (by decide +kernel)
theorem q_acS : Cond.static arraycopyName ∈ lw_tbl := List.mem_of_getElem? (i := 991) (by decide +kernel)
theorem q_sysI : Cond.initialized "java/lang/System" ∈ lw_tbl := List.mem_of_getElem? (i := 155) (by decide +kernel)
theorem q_arrI : Cond.arrayClass .int ∈ lw_tbl := List.mem_of_getElem? (i := 195) (by decide +kernel)
theorem q_arrZ : Cond.arrayClass .boolean ∈ lw_tbl := List.mem_of_getElem? (i := 1669) (by decide +kernel)
theorem q_arrJ : Cond.arrayClass .long ∈ lw_tbl := List.mem_of_getElem? (i := 2193) (by decide +kernel)
theorem q_aoP : Cond.arrayOver (.object "SmithyBench$Program") ∈ lw_tbl := List.mem_of_getElem? (i := 533) (by decide +kernel)
theorem q_aoB : Cond.arrayOver (.object "SmithyBench$Body") ∈ lw_tbl := List.mem_of_getElem? (i := 443) (by decide +kernel)
theorem q_mem_of {ws : List Cond} (ps : List Nat) (h : ps.map (fun i => lw_tbl[i]?) = ws.map some) {w : Cond} (hw : w ∈ ws) : w ∈ lw_tbl := by
  have h1 : some w ∈ ws.map some := List.mem_map.mpr ⟨w, hw, rfl⟩
  rw [← h] at h1
  obtain ⟨i, -, hi⟩ := List.mem_map.mp h1
  exact List.mem_of_getElem? hi
theorem q_ws0 : ∀ w ∈ u_ws (q_R 0) (q_T 0) (q_NF 0), w ∈ lw_tbl := fun w hw => q_mem_of (ws := u_ws (q_R 0) (q_T 0) (q_NF 0)) [338, 340, 342, 344, 346, 348, 350, 352] (by decide +kernel) hw
theorem q_ws1 : ∀ w ∈ u_ws (q_R 1) (q_T 1) (q_NF 1), w ∈ lw_tbl := fun w hw => q_mem_of (ws := u_ws (q_R 1) (q_T 1) (q_NF 1)) [203] (by decide +kernel) hw
theorem q_ws2 : ∀ w ∈ u_ws (q_R 2) (q_T 2) (q_NF 2), w ∈ lw_tbl := fun w hw => q_mem_of (ws := u_ws (q_R 2) (q_T 2) (q_NF 2)) [407, 409, 411] (by decide +kernel) hw
theorem q_ws3 : ∀ w ∈ u_ws (q_R 3) (q_T 3) (q_NF 3), w ∈ lw_tbl := fun w hw => q_mem_of (ws := u_ws (q_R 3) (q_T 3) (q_NF 3)) [369, 371] (by decide +kernel) hw
theorem q_ws4 : ∀ w ∈ u_ws (q_R 4) (q_T 4) (q_NF 4), w ∈ lw_tbl := fun w hw => q_mem_of (ws := u_ws (q_R 4) (q_T 4) (q_NF 4)) [395, 397, 399, 401] (by decide +kernel) hw
theorem q_ws5 : ∀ w ∈ u_ws (q_R 5) (q_T 5) (q_NF 5), w ∈ lw_tbl := fun w hw => q_mem_of (ws := u_ws (q_R 5) (q_T 5) (q_NF 5)) [232, 234, 236, 238, 240, 242, 244, 246, 248, 250, 252, 254, 256, 258, 260, 262, 264, 266] (by decide +kernel) hw
theorem q_ws6 : ∀ w ∈ u_ws (q_R 6) (q_T 6) (q_NF 6), w ∈ lw_tbl := fun w hw => q_mem_of (ws := u_ws (q_R 6) (q_T 6) (q_NF 6)) [433] (by decide +kernel) hw
theorem q_ws7 : ∀ w ∈ u_ws (q_R 7) (q_T 7) (q_NF 7), w ∈ lw_tbl := fun w hw => q_mem_of (ws := u_ws (q_R 7) (q_T 7) (q_NF 7)) [502, 504, 506, 508, 510, 512, 514, 516, 518, 520, 522, 524, 526, 528, 530] (by decide +kernel) hw
theorem q_ws8 : ∀ w ∈ u_ws (q_R 8) (q_T 8) (q_NF 8), w ∈ lw_tbl := fun w hw => q_mem_of (ws := u_ws (q_R 8) (q_T 8) (q_NF 8)) [356] (by decide +kernel) hw
theorem q_ws9 : ∀ w ∈ u_ws (q_R 9) (q_T 9) (q_NF 9), w ∈ lw_tbl := fun w hw => q_mem_of (ws := u_ws (q_R 9) (q_T 9) (q_NF 9)) [423] (by decide +kernel) hw
theorem q_ws10 : ∀ w ∈ u_ws (q_R 10) (q_T 10) (q_NF 10), w ∈ lw_tbl := fun w hw => q_mem_of (ws := u_ws (q_R 10) (q_T 10) (q_NF 10)) [180, 182, 184, 186, 188, 190, 192] (by decide +kernel) hw
theorem q_ws11 : ∀ w ∈ u_ws (q_R 11) (q_T 11) (q_NF 11), w ∈ lw_tbl := fun w hw => q_mem_of (ws := u_ws (q_R 11) (q_T 11) (q_NF 11)) [548, 550, 552, 554, 556, 558, 560, 562, 564, 566, 568, 570, 572, 574] (by decide +kernel) hw
theorem q_ws12 : ∀ w ∈ u_ws (q_R 12) (q_T 12) (q_NF 12), w ∈ lw_tbl := fun w hw => q_mem_of (ws := u_ws (q_R 12) (q_T 12) (q_NF 12)) [1574, 1576, 1578, 1580, 1582, 1584, 1586, 1588, 1590, 1592, 1594, 1596, 1598, 1600, 1602, 1604, 1606, 1608, 1610, 1612, 1614, 1616, 1618, 1620, 1622, 1624, 1626, 1628, 1630, 1632, 1634, 1636, 1638, 1640, 1642, 1644, 1646, 1648, 1650, 1652, 1654, 1656, 1658, 1660, 1662, 1664, 1666] (by decide +kernel) hw
theorem q_wsin {c : Nat} (hc : c < 13) : ∀ w ∈ u_ws (q_R c) (q_T c) (q_NF c), w ∈ lw_tbl := q_c13 (P := fun c => ∀ w ∈ u_ws (q_R c) (q_T c) (q_NF c), w ∈ lw_tbl) ⟨q_ws0, q_ws1, q_ws2, q_ws3, q_ws4, q_ws5, q_ws6, q_ws7, q_ws8, q_ws9, q_ws10, q_ws11, q_ws12⟩ hc
theorem q_instI {c : Nat} (hc : c < 13) : Cond.instantiable (q_R c) (q_NF c) ∈ lw_tbl := q_c13 (P := fun c => Cond.instantiable (q_R c) (q_NF c) ∈ lw_tbl) ⟨List.mem_of_getElem? (i := 276) (by decide +kernel), List.mem_of_getElem? (i := 197) (by decide +kernel), List.mem_of_getElem? (i := 375) (by decide +kernel), List.mem_of_getElem? (i := 360) (by decide +kernel), List.mem_of_getElem? (i := 383) (by decide +kernel), List.mem_of_getElem? (i := 207) (by decide +kernel), List.mem_of_getElem? (i := 427) (by decide +kernel), List.mem_of_getElem? (i := 437) (by decide +kernel), List.mem_of_getElem? (i := 270) (by decide +kernel), List.mem_of_getElem? (i := 415) (by decide +kernel), List.mem_of_getElem? (i := 166) (by decide +kernel), List.mem_of_getElem? (i := 158) (by decide +kernel), List.mem_of_getElem? (i := 1521) (by decide +kernel)⟩ hc
theorem q_initI {c : Nat} (hc : c < 13) : Cond.initialized (q_R c) ∈ lw_tbl := q_c13 (P := fun c => Cond.initialized (q_R c) ∈ lw_tbl) ⟨List.mem_of_getElem? (i := 140) (by decide +kernel), List.mem_of_getElem? (i := 137) (by decide +kernel), List.mem_of_getElem? (i := 142) (by decide +kernel), List.mem_of_getElem? (i := 141) (by decide +kernel), List.mem_of_getElem? (i := 143) (by decide +kernel), List.mem_of_getElem? (i := 138) (by decide +kernel), List.mem_of_getElem? (i := 145) (by decide +kernel), List.mem_of_getElem? (i := 146) (by decide +kernel), List.mem_of_getElem? (i := 139) (by decide +kernel), List.mem_of_getElem? (i := 144) (by decide +kernel), List.mem_of_getElem? (i := 136) (by decide +kernel), List.mem_of_getElem? (i := 135) (by decide +kernel), List.mem_of_getElem? (i := 147) (by decide +kernel)⟩ hc
theorem q_good_lay {c : Nat} {w : Cond} (h : w ∈ u_ws (q_R c) (q_T c) (q_NF c)) : goodWord w = true := by
  obtain ⟨k, -, rfl⟩ := List.mem_map.mp h
  unfold u_lay
  split <;> rfl
