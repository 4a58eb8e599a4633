/-! throws and handlers: what the tables say of each -/
def q_EN (E : Nat) : String := if E = 0 then "java/lang/IllegalStateException" else if E = 1 then "java/lang/IllegalArgumentException" else "java/lang/IndexOutOfBoundsException"
def q_ik (E : Nat) : Nat := if E = 0 then 117 else if E = 1 then 101 else 318
def q_ic (E : Nat) : Nat := if E = 0 then 121 else if E = 1 then 105 else 322
def q_hcp (E : Nat) : Nat := if E = 0 then 13 else if E = 1 then 18 else 28
/-- throw sites: the text, the length of its load -/
def q_ths : List (Nat × Nat) := [(103, 2), (111, 2), (119, 2), (136, 2), (153, 2), (158, 2), (163, 2), (269, 3), (296, 3), (310, 3), (312, 3), (320, 3), (326, 3), (331, 3), (346, 3), (348, 3), (350, 3), (352, 3), (320, 3), (357, 3), (359, 3), (361, 3), (366, 3), (368, 3), (357, 3), (373, 3), (375, 3)]
/-- words that warm states keep, though they are no 'good' ones -/
def q_nk (w : Cond) : Bool := match w with
  | .castable _ _ => true
  | .declares _ => true
  | .methodLinkNest _ _ _ _ => true
  | _ => false
def q_nms : List String := ["java/lang/RuntimeException", "java/lang/Exception"]
def q_code (y pc : Nat) : Option (Instr × Nat × Nat × Nat) := (q_cs.getD y []).lookup pc
def q_isI (x : Option (Instr × Nat × Nat × Nat)) (i : Instr) (len : Nat) : Bool := match x with
  | some (j, n, _, _) => decide (j = i) && Nat.beq n len
  | none => false
theorem q_isI_of {x : Option (Instr × Nat × Nat × Nat)} {i : Instr} {len : Nat} (h : q_isI x i len = true) : ∃ a b, x = some (i, len, a, b) := by
  unfold q_isI at h
  split at h
  · simp only [Bool.and_eq_true, decide_eq_true_eq, Nat.beq_eq] at h
    obtain ⟨rfl, rfl⟩ := h
    exact ⟨_, _, rfl⟩
  · cases h
def q_thok (y : Nat) (e : q_I) : Bool := Nat.blt e.2.2.2.2 1000 || (q_isI (some e.2) (.new (q_ik (e.2.2.2.2 - 1000))) 3 && (Nat.blt (e.2.2.2.2 - 1000) 3 && (Nat.beq (q_mr y).1 11 && ((q_hs y).isEmpty && (q_isI (q_code y (e.1 + 3)) .dup 1 && ((q_strs.any fun r => Nat.beq r.1 (q_ths.getD e.2.2.2.1 (0, 0)).1) &&
  ((q_isI (q_code y (e.1 + 4)) (.ldc (q_ths.getD e.2.2.2.1 (0, 0)).1) 2 && (q_isI (q_code y (e.1 + 6)) (.invokespecial (q_ic (e.2.2.2.2 - 1000))) 3 && q_isI (q_code y (e.1 + 9)) .athrow 1)) ||
   (q_isI (q_code y (e.1 + 4)) (.ldc_w (q_ths.getD e.2.2.2.1 (0, 0)).1) 3 && (q_isI (q_code y (e.1 + 7)) (.invokespecial (q_ic (e.2.2.2.2 - 1000))) 3 && q_isI (q_code y (e.1 + 10)) .athrow 1)))))))))
def q_thall (y : Nat) : Bool := (q_cs.getD y []).all (q_thok y)
def q_hok (y : Nat) : Bool := (q_hs y).all fun r => Nat.blt r.2.2.2.2.1 3 && (Nat.beq r.2.2.2.1 (q_hcp r.2.2.2.2.1) && (Nat.beq (q_mr y).1 13 && (Nat.blt r.2.2.2.2.2.1 (q_mr y).2.2.2.1 &&
  ((match q_code y r.2.2.1 with | some (.astore_n k, 1, _, _) => Nat.beq k.val r.2.2.2.2.2.1 && Nat.beq r.2.2.2.2.2.2 (r.2.2.1 + 1) | some (.astore k, 2, _, _) => Nat.beq k r.2.2.2.2.2.1 && Nat.beq r.2.2.2.2.2.2 (r.2.2.1 + 2) | _ => false)))))
theorem q_thk_0 : ∀ y, y < 20 → (q_thall (y + 0) && q_hok (y + 0)) = true := by decide +kernel
theorem q_thk_20 : ∀ y, y < 20 → (q_thall (y + 20) && q_hok (y + 20)) = true := by decide +kernel
theorem q_thk_40 : ∀ y, y < 20 → (q_thall (y + 40) && q_hok (y + 40)) = true := by decide +kernel
theorem q_thk_60 : ∀ y, y < 20 → (q_thall (y + 60) && q_hok (y + 60)) = true := by decide +kernel
theorem q_thk_80 : ∀ y, y < 20 → (q_thall (y + 80) && q_hok (y + 80)) = true := by decide +kernel
theorem q_thk_100 : ∀ y, y < 20 → (q_thall (y + 100) && q_hok (y + 100)) = true := by decide +kernel
theorem q_thk_120 : ∀ y, y < 20 → (q_thall (y + 120) && q_hok (y + 120)) = true := by decide +kernel
theorem q_thk_140 : ∀ y, y < 20 → (q_thall (y + 140) && q_hok (y + 140)) = true := by decide +kernel
theorem q_thk_160 : ∀ y, y < 20 → (q_thall (y + 160) && q_hok (y + 160)) = true := by decide +kernel
theorem q_thk_180 : ∀ y, y < 20 → (q_thall (y + 180) && q_hok (y + 180)) = true := by decide +kernel
theorem q_thk_200 : ∀ y, y < 20 → (q_thall (y + 200) && q_hok (y + 200)) = true := by decide +kernel
theorem q_thk_220 : ∀ y, y < 20 → (q_thall (y + 220) && q_hok (y + 220)) = true := by decide +kernel
theorem q_thk_240 : ∀ y, y < 20 → (q_thall (y + 240) && q_hok (y + 240)) = true := by decide +kernel
theorem q_thk_260 : ∀ y, y < 20 → (q_thall (y + 260) && q_hok (y + 260)) = true := by decide +kernel
theorem q_thk_280 : ∀ y, y < 20 → (q_thall (y + 280) && q_hok (y + 280)) = true := by decide +kernel
theorem q_thk_300 : ∀ y, y < 20 → (q_thall (y + 300) && q_hok (y + 300)) = true := by decide +kernel
theorem q_thk_320 : ∀ y, y < 20 → (q_thall (y + 320) && q_hok (y + 320)) = true := by decide +kernel
theorem q_thk_340 : ∀ y, y < 1 → (q_thall (y + 340) && q_hok (y + 340)) = true := by decide +kernel
theorem q_thks : ∀ y, y < 341 → (q_thall y && q_hok y) = true := by
  intro y hy
  have key : ∀ k n : Nat, (∀ y, y < n → (q_thall (y + k) && q_hok (y + k)) = true) → k ≤ y → y < k + n → (q_thall y && q_hok y) = true := fun k n h h1 h2 => by
    have := h (y - k) (by omega)
    rwa [Nat.sub_add_cancel h1] at this
  rcases Nat.lt_or_ge y 20 with h0 | h0
  · exact key 0 20 q_thk_0 (by omega) (by omega)
  rcases Nat.lt_or_ge y 40 with h20 | h20
  · exact key 20 20 q_thk_20 (by omega) (by omega)
  rcases Nat.lt_or_ge y 60 with h40 | h40
  · exact key 40 20 q_thk_40 (by omega) (by omega)
  rcases Nat.lt_or_ge y 80 with h60 | h60
  · exact key 60 20 q_thk_60 (by omega) (by omega)
  rcases Nat.lt_or_ge y 100 with h80 | h80
  · exact key 80 20 q_thk_80 (by omega) (by omega)
  rcases Nat.lt_or_ge y 120 with h100 | h100
  · exact key 100 20 q_thk_100 (by omega) (by omega)
  rcases Nat.lt_or_ge y 140 with h120 | h120
  · exact key 120 20 q_thk_120 (by omega) (by omega)
  rcases Nat.lt_or_ge y 160 with h140 | h140
  · exact key 140 20 q_thk_140 (by omega) (by omega)
  rcases Nat.lt_or_ge y 180 with h160 | h160
  · exact key 160 20 q_thk_160 (by omega) (by omega)
  rcases Nat.lt_or_ge y 200 with h180 | h180
  · exact key 180 20 q_thk_180 (by omega) (by omega)
  rcases Nat.lt_or_ge y 220 with h200 | h200
  · exact key 200 20 q_thk_200 (by omega) (by omega)
  rcases Nat.lt_or_ge y 240 with h220 | h220
  · exact key 220 20 q_thk_220 (by omega) (by omega)
  rcases Nat.lt_or_ge y 260 with h240 | h240
  · exact key 240 20 q_thk_240 (by omega) (by omega)
  rcases Nat.lt_or_ge y 280 with h260 | h260
  · exact key 260 20 q_thk_260 (by omega) (by omega)
  rcases Nat.lt_or_ge y 300 with h280 | h280
  · exact key 280 20 q_thk_280 (by omega) (by omega)
  rcases Nat.lt_or_ge y 320 with h300 | h300
  · exact key 300 20 q_thk_300 (by omega) (by omega)
  rcases Nat.lt_or_ge y 340 with h320 | h320
  · exact key 320 20 q_thk_320 (by omega) (by omega)
  rcases Nat.lt_or_ge y 341 with h340 | h340
  · exact key 340 1 q_thk_340 (by omega) (by omega)
  omega
theorem q_thw0 : Cond.classLink "SmithyBench" 117 "java/lang/IllegalStateException" ∈ lw_tbl ∧ Cond.initialized "java/lang/IllegalStateException" ∈ lw_tbl ∧ Cond.classLink "SmithyBenchLaw" 13 "java/lang/IllegalStateException" ∈ lw_tbl ∧ Cond.castable "java/lang/IllegalStateException" "java/lang/IllegalStateException" ∈ lw_tbl := ⟨List.mem_of_getElem? (i := 684) (by decide +kernel), List.mem_of_getElem? (i := 151) (by decide +kernel), List.mem_of_getElem? (i := 675) (by decide +kernel), List.mem_of_getElem? (i := 686) (by decide +kernel)⟩
theorem q_tha0 : ∀ w ∈ vx_atS "SmithyBench" 121 "java/lang/IllegalStateException" q_nms, w ∈ lw_tbl := by decide +kernel
theorem q_thg0 : ∀ w ∈ Cond.classLink "SmithyBench" 117 "java/lang/IllegalStateException" :: Cond.initialized "java/lang/IllegalStateException" :: vx_atS "SmithyBench" 121 "java/lang/IllegalStateException" q_nms, vx_ot w = true := by decide +kernel
theorem q_thgd0 : ∀ w ∈ vx_atS "SmithyBench" 121 "java/lang/IllegalStateException" q_nms, (goodWord w || q_nk w) = true := by decide +kernel
theorem q_thf0 : Bundle.fit "java/lang/IllegalStateException" = true := by decide +kernel
theorem q_thw1 : Cond.classLink "SmithyBench" 101 "java/lang/IllegalArgumentException" ∈ lw_tbl ∧ Cond.initialized "java/lang/IllegalArgumentException" ∈ lw_tbl ∧ Cond.classLink "SmithyBenchLaw" 18 "java/lang/IllegalArgumentException" ∈ lw_tbl ∧ Cond.castable "java/lang/IllegalArgumentException" "java/lang/IllegalArgumentException" ∈ lw_tbl := ⟨List.mem_of_getElem? (i := 775) (by decide +kernel), List.mem_of_getElem? (i := 153) (by decide +kernel), List.mem_of_getElem? (i := 766) (by decide +kernel), List.mem_of_getElem? (i := 777) (by decide +kernel)⟩
theorem q_tha1 : ∀ w ∈ vx_atS "SmithyBench" 105 "java/lang/IllegalArgumentException" q_nms, w ∈ lw_tbl := by decide +kernel
theorem q_thg1 : ∀ w ∈ Cond.classLink "SmithyBench" 101 "java/lang/IllegalArgumentException" :: Cond.initialized "java/lang/IllegalArgumentException" :: vx_atS "SmithyBench" 105 "java/lang/IllegalArgumentException" q_nms, vx_ot w = true := by decide +kernel
theorem q_thgd1 : ∀ w ∈ vx_atS "SmithyBench" 105 "java/lang/IllegalArgumentException" q_nms, (goodWord w || q_nk w) = true := by decide +kernel
theorem q_thf1 : Bundle.fit "java/lang/IllegalArgumentException" = true := by decide +kernel
theorem q_thw2 : Cond.classLink "SmithyBench" 318 "java/lang/IndexOutOfBoundsException" ∈ lw_tbl ∧ Cond.initialized "java/lang/IndexOutOfBoundsException" ∈ lw_tbl ∧ Cond.classLink "SmithyBenchLaw" 28 "java/lang/IndexOutOfBoundsException" ∈ lw_tbl ∧ Cond.castable "java/lang/IndexOutOfBoundsException" "java/lang/IndexOutOfBoundsException" ∈ lw_tbl := ⟨List.mem_of_getElem? (i := 810) (by decide +kernel), List.mem_of_getElem? (i := 154) (by decide +kernel), List.mem_of_getElem? (i := 801) (by decide +kernel), List.mem_of_getElem? (i := 812) (by decide +kernel)⟩
theorem q_tha2 : ∀ w ∈ vx_atS "SmithyBench" 322 "java/lang/IndexOutOfBoundsException" q_nms, w ∈ lw_tbl := by decide +kernel
theorem q_thg2 : ∀ w ∈ Cond.classLink "SmithyBench" 318 "java/lang/IndexOutOfBoundsException" :: Cond.initialized "java/lang/IndexOutOfBoundsException" :: vx_atS "SmithyBench" 322 "java/lang/IndexOutOfBoundsException" q_nms, vx_ot w = true := by decide +kernel
theorem q_thgd2 : ∀ w ∈ vx_atS "SmithyBench" 322 "java/lang/IndexOutOfBoundsException" q_nms, (goodWord w || q_nk w) = true := by decide +kernel
theorem q_thf2 : Bundle.fit "java/lang/IndexOutOfBoundsException" = true := by decide +kernel
theorem q_thn : ∀ n ∈ q_nms, Bundle.fit n = true := by decide +kernel
