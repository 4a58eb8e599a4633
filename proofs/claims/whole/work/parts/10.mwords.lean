/-! words of the methods -/
def q_cw (y : Nat) : Cond := if (q_hs y).isEmpty = true then .code (q_y y) (q_bytes y) (q_mr y).2.2.2.1 (q_rty (q_mr y).2.2.2.2.1) else .codeWith (q_y y) (q_bytes y) (q_mr y).2.2.2.1 (q_rty (q_mr y).2.2.2.2.1) ((q_hs y).map fun r => (r.1, r.2.1, r.2.2.1, r.2.2.2.1))
def q_mw0 (y : Nat) : List Cond := (if (q_mr y).2.1 = true then [.static (q_y y)] else if (q_mr y).2.2.1 = true then [.instanceMethod (q_y y)] else [.instanceMethod (q_y y), .selects (q_R (q_mr y).1) (q_y y) (q_y y)]) ++ [.initialized (q_R (q_mr y).1)]
def q_mw (y : Nat) : List Cond := q_mw0 y ++ [q_cw y]
def q_mp (y : Nat) : Bool := plainName (q_y y).cls && (decide ((q_y y).cls = q_R (q_mr y).1) && (decide ((q_y y).cls ≠ "java/lang/invoke/MethodHandle" ∧ (q_y y).cls ≠ "java/lang/invoke/VarHandle") && (decide ((parseMethodDescriptor (q_y y).desc).map (fun d => d.parameters.length) = some ((q_mr y).2.2.2.2.2.1 - if (q_mr y).2.1 = true then 0 else 1)) && (!(q_mr y).2.2.1 || decide ((q_y y).name = "<init>")))))
theorem q_tb1 {w : Cond} (h : w ∈ tables_1_1) : w ∈ lw_tbl := List.mem_append_right _ (List.mem_append_left _ h)
theorem q_tb2 {w : Cond} (h : w ∈ tables_1_2) : w ∈ lw_tbl := List.mem_append_right _ (List.mem_append_right _ (List.mem_append_left _ h))
theorem q_tb3 {w : Cond} (h : w ∈ tables_1_3) : w ∈ lw_tbl := List.mem_append_right _ (List.mem_append_right _ (List.mem_append_right _ (List.mem_append_left _ h)))
theorem q_tb4 {w : Cond} (h : w ∈ tables_1_4) : w ∈ lw_tbl := List.mem_append_right _ (List.mem_append_right _ (List.mem_append_right _ (List.mem_append_right _ (List.mem_append_left _ h))))
theorem q_tb5 {w : Cond} (h : w ∈ tables_1_5) : w ∈ lw_tbl := List.mem_append_right _ (List.mem_append_right _ (List.mem_append_right _ (List.mem_append_right _ (List.mem_append_right _ (List.mem_append_left _ h)))))
theorem q_tb6 {w : Cond} (h : w ∈ tables_1_6) : w ∈ lw_tbl := List.mem_append_right _ (List.mem_append_right _ (List.mem_append_right _ (List.mem_append_right _ (List.mem_append_right _ (List.mem_append_right _ (List.mem_append_left _ h))))))
theorem q_tb7 {w : Cond} (h : w ∈ tables_1_7) : w ∈ lw_tbl := List.mem_append_right _ (List.mem_append_right _ (List.mem_append_right _ (List.mem_append_right _ (List.mem_append_right _ (List.mem_append_right _ (List.mem_append_right _ (List.mem_append_left _ h)))))))
theorem q_tb8 {w : Cond} (h : w ∈ tables_1_8) : w ∈ lw_tbl := List.mem_append_right _ (List.mem_append_right _ (List.mem_append_right _ (List.mem_append_right _ (List.mem_append_right _ (List.mem_append_right _ (List.mem_append_right _ (List.mem_append_right _ (List.mem_append_left _ h))))))))
theorem q_tb9 {w : Cond} (h : w ∈ tables_1_9) : w ∈ lw_tbl := List.mem_append_right _ (List.mem_append_right _ (List.mem_append_right _ (List.mem_append_right _ (List.mem_append_right _ (List.mem_append_right _ (List.mem_append_right _ (List.mem_append_right _ (List.mem_append_right _ (h)))))))))
theorem q_mw_0 : ∀ y, y < 20 → ∀ w ∈ q_mw0 (y + 0), w ∈ lw_tbl := fun y hy w hw => q_mem_of (ws := (List.range 20).flatMap fun y => q_mw0 (y + 0)) [278, 140, 958, 959, 140, 971, 972, 140, 1099, 1100, 140, 1115, 1116, 140, 1111, 1112, 140, 1209, 1210, 140, 995, 996, 140, 594, 595, 140, 598, 599, 140, 609, 610, 140, 1095, 1096, 140, 1153, 1154, 140, 1162, 1163, 140, 1158, 1159, 140, 1149, 1150, 140, 1091, 1092, 140, 1056, 1057, 140, 1177, 1178, 140, 1198, 1199, 140] (by decide +kernel) (List.mem_flatMap.mpr ⟨y, List.mem_range.mpr hy, hw⟩)
theorem q_mp_0 : ∀ y, y < 20 → q_mp (y + 0) = true := by decide +kernel
set_option maxRecDepth 100000 in
theorem q_cw_0 : q_cw 0 ∈ lw_tbl := q_tb1 (List.mem_of_getElem? (i := 145) rfl)
set_option maxRecDepth 100000 in
theorem q_cw_1 : q_cw 1 ∈ lw_tbl := q_tb4 (List.mem_of_getElem? (i := 106) rfl)
set_option maxRecDepth 100000 in
theorem q_cw_2 : q_cw 2 ∈ lw_tbl := q_tb4 (List.mem_of_getElem? (i := 119) rfl)
set_option maxRecDepth 100000 in
theorem q_cw_3 : q_cw 3 ∈ lw_tbl := q_tb5 (List.mem_of_getElem? (i := 7) rfl)
set_option maxRecDepth 100000 in
theorem q_cw_4 : q_cw 4 ∈ lw_tbl := q_tb5 (List.mem_of_getElem? (i := 23) rfl)
set_option maxRecDepth 100000 in
theorem q_cw_5 : q_cw 5 ∈ lw_tbl := q_tb5 (List.mem_of_getElem? (i := 19) rfl)
set_option maxRecDepth 100000 in
theorem q_cw_6 : q_cw 6 ∈ lw_tbl := q_tb5 (List.mem_of_getElem? (i := 117) rfl)
set_option maxRecDepth 100000 in
theorem q_cw_7 : q_cw 7 ∈ lw_tbl := q_tb4 (List.mem_of_getElem? (i := 143) rfl)
set_option maxRecDepth 100000 in
theorem q_cw_8 : q_cw 8 ∈ lw_tbl := q_tb2 (List.mem_of_getElem? (i := 222) rfl)
set_option maxRecDepth 100000 in
theorem q_cw_9 : q_cw 9 ∈ lw_tbl := q_tb2 (List.mem_of_getElem? (i := 226) rfl)
set_option maxRecDepth 100000 in
theorem q_cw_10 : q_cw 10 ∈ lw_tbl := q_tb2 (List.mem_of_getElem? (i := 237) rfl)
set_option maxRecDepth 100000 in
theorem q_cw_11 : q_cw 11 ∈ lw_tbl := q_tb5 (List.mem_of_getElem? (i := 3) rfl)
set_option maxRecDepth 100000 in
theorem q_cw_12 : q_cw 12 ∈ lw_tbl := q_tb5 (List.mem_of_getElem? (i := 61) rfl)
set_option maxRecDepth 100000 in
theorem q_cw_13 : q_cw 13 ∈ lw_tbl := q_tb5 (List.mem_of_getElem? (i := 70) rfl)
set_option maxRecDepth 100000 in
theorem q_cw_14 : q_cw 14 ∈ lw_tbl := q_tb5 (List.mem_of_getElem? (i := 66) rfl)
set_option maxRecDepth 100000 in
theorem q_cw_15 : q_cw 15 ∈ lw_tbl := q_tb5 (List.mem_of_getElem? (i := 57) rfl)
set_option maxRecDepth 100000 in
theorem q_cw_16 : q_cw 16 ∈ lw_tbl := q_tb4 (List.mem_of_getElem? (i := 239) rfl)
set_option maxRecDepth 100000 in
theorem q_cw_17 : q_cw 17 ∈ lw_tbl := q_tb4 (List.mem_of_getElem? (i := 204) rfl)
set_option maxRecDepth 100000 in
theorem q_cw_18 : q_cw 18 ∈ lw_tbl := q_tb5 (List.mem_of_getElem? (i := 85) rfl)
set_option maxRecDepth 100000 in
theorem q_cw_19 : q_cw 19 ∈ lw_tbl := q_tb5 (List.mem_of_getElem? (i := 106) rfl)
set_option maxRecDepth 100000 in
theorem q_cwg_0 : q_conj (fun y => q_cw y ∈ lw_tbl) 0 20 := ⟨q_cw_0, q_cw_1, q_cw_2, q_cw_3, q_cw_4, q_cw_5, q_cw_6, q_cw_7, q_cw_8, q_cw_9, q_cw_10, q_cw_11, q_cw_12, q_cw_13, q_cw_14, q_cw_15, q_cw_16, q_cw_17, q_cw_18, q_cw_19, trivial⟩
set_option maxRecDepth 100000 in
theorem q_dg_0 : q_conj (fun y => q_dok (q_bytes y) (q_cs.getD y []) = true) 0 20 := ⟨qd_0, qd_1, qd_2, qd_3, qd_4, qd_5, qd_6, qd_7, qd_8, qd_9, qd_10, qd_11, qd_12, qd_13, qd_14, qd_15, qd_16, qd_17, qd_18, qd_19, trivial⟩
theorem q_mw_20 : ∀ y, y < 20 → ∀ w ∈ q_mw0 (y + 20), w ∈ lw_tbl := fun y hy w hw => q_mem_of (ws := (List.range 20).flatMap fun y => q_mw0 (y + 20)) [199, 137, 582, 583, 137, 646, 0, 137, 590, 591, 137, 602, 137, 639, 137, 642, 137, 606, 137, 629, 137, 632, 137, 377, 142, 1239, 1240, 142, 1244, 23, 142, 1266, 24, 142, 1271, 25, 142, 362, 141, 1173, 1174, 141, 1216, 21, 141, 1221, 22, 141, 385, 143] (by decide +kernel) (List.mem_flatMap.mpr ⟨y, List.mem_range.mpr hy, hw⟩)
theorem q_mp_20 : ∀ y, y < 20 → q_mp (y + 20) = true := by decide +kernel
set_option maxRecDepth 100000 in
theorem q_cw_20 : q_cw 20 ∈ lw_tbl := q_tb1 (List.mem_of_getElem? (i := 66) rfl)
set_option maxRecDepth 100000 in
theorem q_cw_21 : q_cw 21 ∈ lw_tbl := q_tb2 (List.mem_of_getElem? (i := 210) rfl)
set_option maxRecDepth 100000 in
theorem q_cw_22 : q_cw 22 ∈ lw_tbl := q_tb3 (List.mem_of_getElem? (i := 33) rfl)
set_option maxRecDepth 100000 in
theorem q_cw_23 : q_cw 23 ∈ lw_tbl := q_tb2 (List.mem_of_getElem? (i := 218) rfl)
set_option maxRecDepth 100000 in
theorem q_cw_24 : q_cw 24 ∈ lw_tbl := q_tb2 (List.mem_of_getElem? (i := 229) rfl)
set_option maxRecDepth 100000 in
theorem q_cw_25 : q_cw 25 ∈ lw_tbl := q_tb3 (List.mem_of_getElem? (i := 26) rfl)
set_option maxRecDepth 100000 in
theorem q_cw_26 : q_cw 26 ∈ lw_tbl := q_tb3 (List.mem_of_getElem? (i := 29) rfl)
set_option maxRecDepth 100000 in
theorem q_cw_27 : q_cw 27 ∈ lw_tbl := q_tb2 (List.mem_of_getElem? (i := 233) rfl)
set_option maxRecDepth 100000 in
theorem q_cw_28 : q_cw 28 ∈ lw_tbl := q_tb3 (List.mem_of_getElem? (i := 16) rfl)
set_option maxRecDepth 100000 in
theorem q_cw_29 : q_cw 29 ∈ lw_tbl := q_tb3 (List.mem_of_getElem? (i := 19) rfl)
set_option maxRecDepth 100000 in
theorem q_cw_30 : q_cw 30 ∈ lw_tbl := q_tb2 (List.mem_of_getElem? (i := 4) rfl)
set_option maxRecDepth 100000 in
theorem q_cw_31 : q_cw 31 ∈ lw_tbl := q_tb5 (List.mem_of_getElem? (i := 147) rfl)
set_option maxRecDepth 100000 in
theorem q_cw_32 : q_cw 32 ∈ lw_tbl := q_tb5 (List.mem_of_getElem? (i := 151) rfl)
set_option maxRecDepth 100000 in
theorem q_cw_33 : q_cw 33 ∈ lw_tbl := q_tb5 (List.mem_of_getElem? (i := 173) rfl)
set_option maxRecDepth 100000 in
theorem q_cw_34 : q_cw 34 ∈ lw_tbl := q_tb5 (List.mem_of_getElem? (i := 178) rfl)
set_option maxRecDepth 100000 in
theorem q_cw_35 : q_cw 35 ∈ lw_tbl := q_tb1 (List.mem_of_getElem? (i := 229) rfl)
set_option maxRecDepth 100000 in
theorem q_cw_36 : q_cw 36 ∈ lw_tbl := q_tb5 (List.mem_of_getElem? (i := 81) rfl)
set_option maxRecDepth 100000 in
theorem q_cw_37 : q_cw 37 ∈ lw_tbl := q_tb5 (List.mem_of_getElem? (i := 123) rfl)
set_option maxRecDepth 100000 in
theorem q_cw_38 : q_cw 38 ∈ lw_tbl := q_tb5 (List.mem_of_getElem? (i := 128) rfl)
set_option maxRecDepth 100000 in
theorem q_cw_39 : q_cw 39 ∈ lw_tbl := q_tb2 (List.mem_of_getElem? (i := 12) rfl)
set_option maxRecDepth 100000 in
theorem q_cwg_20 : q_conj (fun y => q_cw y ∈ lw_tbl) 20 20 := ⟨q_cw_20, q_cw_21, q_cw_22, q_cw_23, q_cw_24, q_cw_25, q_cw_26, q_cw_27, q_cw_28, q_cw_29, q_cw_30, q_cw_31, q_cw_32, q_cw_33, q_cw_34, q_cw_35, q_cw_36, q_cw_37, q_cw_38, q_cw_39, trivial⟩
set_option maxRecDepth 100000 in
theorem q_dg_20 : q_conj (fun y => q_dok (q_bytes y) (q_cs.getD y []) = true) 20 20 := ⟨qd_20, qd_21, qd_22, qd_23, qd_24, qd_25, qd_26, qd_27, qd_28, qd_29, qd_30, qd_31, qd_32, qd_33, qd_34, qd_35, qd_36, qd_37, qd_38, qd_39, trivial⟩
theorem q_mw_40 : ∀ y, y < 20 → ∀ w ∈ q_mw0 (y + 40), w ∈ lw_tbl := fun y hy w hw => q_mem_of (ws := (List.range 20).flatMap fun y => q_mw0 (y + 40)) [1252, 1253, 143, 1248, 1249, 143, 1275, 1276, 143, 209, 138, 1457, 1458, 138, 1518, 40, 138, 1462, 28, 138, 1468, 29, 138, 1472, 30, 138, 1480, 32, 138, 1476, 31, 138, 1484, 33, 138, 1506, 38, 138, 1489, 34, 138, 1493, 35, 138, 1498, 36, 138, 1509, 138, 1513, 39, 138, 1502, 37, 138, 429, 145] (by decide +kernel) (List.mem_flatMap.mpr ⟨y, List.mem_range.mpr hy, hw⟩)
theorem q_mp_40 : ∀ y, y < 20 → q_mp (y + 40) = true := by decide +kernel
set_option maxRecDepth 100000 in
theorem q_cw_40 : q_cw 40 ∈ lw_tbl := q_tb5 (List.mem_of_getElem? (i := 160) rfl)
set_option maxRecDepth 100000 in
theorem q_cw_41 : q_cw 41 ∈ lw_tbl := q_tb5 (List.mem_of_getElem? (i := 156) rfl)
set_option maxRecDepth 100000 in
theorem q_cw_42 : q_cw 42 ∈ lw_tbl := q_tb5 (List.mem_of_getElem? (i := 183) rfl)
set_option maxRecDepth 100000 in
theorem q_cw_43 : q_cw 43 ∈ lw_tbl := q_tb1 (List.mem_of_getElem? (i := 76) rfl)
set_option maxRecDepth 100000 in
theorem q_cw_44 : q_cw 44 ∈ lw_tbl := q_tb6 (List.mem_of_getElem? (i := 125) rfl)
set_option maxRecDepth 100000 in
theorem q_cw_45 : q_cw 45 ∈ lw_tbl := q_tb6 (List.mem_of_getElem? (i := 185) rfl)
set_option maxRecDepth 100000 in
theorem q_cw_46 : q_cw 46 ∈ lw_tbl := q_tb6 (List.mem_of_getElem? (i := 129) rfl)
set_option maxRecDepth 100000 in
theorem q_cw_47 : q_cw 47 ∈ lw_tbl := q_tb6 (List.mem_of_getElem? (i := 135) rfl)
set_option maxRecDepth 100000 in
theorem q_cw_48 : q_cw 48 ∈ lw_tbl := q_tb6 (List.mem_of_getElem? (i := 139) rfl)
set_option maxRecDepth 100000 in
theorem q_cw_49 : q_cw 49 ∈ lw_tbl := q_tb6 (List.mem_of_getElem? (i := 147) rfl)
set_option maxRecDepth 100000 in
theorem q_cw_50 : q_cw 50 ∈ lw_tbl := q_tb6 (List.mem_of_getElem? (i := 143) rfl)
set_option maxRecDepth 100000 in
theorem q_cw_51 : q_cw 51 ∈ lw_tbl := q_tb6 (List.mem_of_getElem? (i := 151) rfl)
set_option maxRecDepth 100000 in
theorem q_cw_52 : q_cw 52 ∈ lw_tbl := q_tb6 (List.mem_of_getElem? (i := 173) rfl)
set_option maxRecDepth 100000 in
theorem q_cw_53 : q_cw 53 ∈ lw_tbl := q_tb6 (List.mem_of_getElem? (i := 156) rfl)
set_option maxRecDepth 100000 in
theorem q_cw_54 : q_cw 54 ∈ lw_tbl := q_tb6 (List.mem_of_getElem? (i := 160) rfl)
set_option maxRecDepth 100000 in
theorem q_cw_55 : q_cw 55 ∈ lw_tbl := q_tb6 (List.mem_of_getElem? (i := 165) rfl)
set_option maxRecDepth 100000 in
theorem q_cw_56 : q_cw 56 ∈ lw_tbl := q_tb6 (List.mem_of_getElem? (i := 176) rfl)
set_option maxRecDepth 100000 in
theorem q_cw_57 : q_cw 57 ∈ lw_tbl := q_tb6 (List.mem_of_getElem? (i := 180) rfl)
set_option maxRecDepth 100000 in
theorem q_cw_58 : q_cw 58 ∈ lw_tbl := q_tb6 (List.mem_of_getElem? (i := 169) rfl)
set_option maxRecDepth 100000 in
theorem q_cw_59 : q_cw 59 ∈ lw_tbl := q_tb2 (List.mem_of_getElem? (i := 56) rfl)
set_option maxRecDepth 100000 in
theorem q_cwg_40 : q_conj (fun y => q_cw y ∈ lw_tbl) 40 20 := ⟨q_cw_40, q_cw_41, q_cw_42, q_cw_43, q_cw_44, q_cw_45, q_cw_46, q_cw_47, q_cw_48, q_cw_49, q_cw_50, q_cw_51, q_cw_52, q_cw_53, q_cw_54, q_cw_55, q_cw_56, q_cw_57, q_cw_58, q_cw_59, trivial⟩
set_option maxRecDepth 100000 in
theorem q_dg_40 : q_conj (fun y => q_dok (q_bytes y) (q_cs.getD y []) = true) 40 20 := ⟨qd_40, qd_41, qd_42, qd_43, qd_44, qd_45, qd_46, qd_47, qd_48, qd_49, qd_50, qd_51, qd_52, qd_53, qd_54, qd_55, qd_56, qd_57, qd_58, qd_59, trivial⟩
theorem q_mw_60 : ∀ y, y < 20 → ∀ w ∈ q_mw0 (y + 60), w ∈ lw_tbl := fun y hy w hw => q_mem_of (ws := (List.range 20).flatMap fun y => q_mw0 (y + 60)) [1348, 1349, 145, 1361, 1362, 145, 1365, 145, 1368, 145, 1372, 145, 1376, 145, 1380, 145, 1396, 1397, 145, 1415, 1416, 145, 439, 146, 987, 988, 146, 899, 900, 146, 923, 924, 146, 1086, 1087, 146, 954, 955, 146, 962, 963, 146, 1330, 1331, 146, 1383, 1384, 146, 864, 865, 146, 586, 587, 146] (by decide +kernel) (List.mem_flatMap.mpr ⟨y, List.mem_range.mpr hy, hw⟩)
theorem q_mp_60 : ∀ y, y < 20 → q_mp (y + 60) = true := by decide +kernel
set_option maxRecDepth 100000 in
theorem q_cw_60 : q_cw 60 ∈ lw_tbl := q_tb6 (List.mem_of_getElem? (i := 16) rfl)
set_option maxRecDepth 100000 in
theorem q_cw_61 : q_cw 61 ∈ lw_tbl := q_tb6 (List.mem_of_getElem? (i := 29) rfl)
set_option maxRecDepth 100000 in
theorem q_cw_62 : q_cw 62 ∈ lw_tbl := q_tb6 (List.mem_of_getElem? (i := 32) rfl)
set_option maxRecDepth 100000 in
theorem q_cw_63 : q_cw 63 ∈ lw_tbl := q_tb6 (List.mem_of_getElem? (i := 35) rfl)
set_option maxRecDepth 100000 in
theorem q_cw_64 : q_cw 64 ∈ lw_tbl := q_tb6 (List.mem_of_getElem? (i := 39) rfl)
set_option maxRecDepth 100000 in
theorem q_cw_65 : q_cw 65 ∈ lw_tbl := q_tb6 (List.mem_of_getElem? (i := 43) rfl)
set_option maxRecDepth 100000 in
theorem q_cw_66 : q_cw 66 ∈ lw_tbl := q_tb6 (List.mem_of_getElem? (i := 47) rfl)
set_option maxRecDepth 100000 in
theorem q_cw_67 : q_cw 67 ∈ lw_tbl := q_tb6 (List.mem_of_getElem? (i := 64) rfl)
set_option maxRecDepth 100000 in
theorem q_cw_68 : q_cw 68 ∈ lw_tbl := q_tb6 (List.mem_of_getElem? (i := 83) rfl)
set_option maxRecDepth 100000 in
theorem q_cw_69 : q_cw 69 ∈ lw_tbl := q_tb2 (List.mem_of_getElem? (i := 66) rfl)
set_option maxRecDepth 100000 in
theorem q_cw_70 : q_cw 70 ∈ lw_tbl := q_tb4 (List.mem_of_getElem? (i := 135) rfl)
set_option maxRecDepth 100000 in
theorem q_cw_71 : q_cw 71 ∈ lw_tbl := q_tb4 (List.mem_of_getElem? (i := 47) rfl)
set_option maxRecDepth 100000 in
theorem q_cw_72 : q_cw 72 ∈ lw_tbl := q_tb4 (List.mem_of_getElem? (i := 71) rfl)
set_option maxRecDepth 100000 in
theorem q_cw_73 : q_cw 73 ∈ lw_tbl := q_tb4 (List.mem_of_getElem? (i := 234) rfl)
set_option maxRecDepth 100000 in
theorem q_cw_74 : q_cw 74 ∈ lw_tbl := q_tb4 (List.mem_of_getElem? (i := 102) rfl)
set_option maxRecDepth 100000 in
theorem q_cw_75 : q_cw 75 ∈ lw_tbl := q_tb4 (List.mem_of_getElem? (i := 110) rfl)
set_option maxRecDepth 100000 in
theorem q_cw_76 : q_cw 76 ∈ lw_tbl := q_tb5 (List.mem_of_getElem? (i := 238) rfl)
set_option maxRecDepth 100000 in
theorem q_cw_77 : q_cw 77 ∈ lw_tbl := q_tb6 (List.mem_of_getElem? (i := 51) rfl)
set_option maxRecDepth 100000 in
theorem q_cw_78 : q_cw 78 ∈ lw_tbl := q_tb4 (List.mem_of_getElem? (i := 12) rfl)
set_option maxRecDepth 100000 in
theorem q_cw_79 : q_cw 79 ∈ lw_tbl := q_tb2 (List.mem_of_getElem? (i := 214) rfl)
set_option maxRecDepth 100000 in
theorem q_cwg_60 : q_conj (fun y => q_cw y ∈ lw_tbl) 60 20 := ⟨q_cw_60, q_cw_61, q_cw_62, q_cw_63, q_cw_64, q_cw_65, q_cw_66, q_cw_67, q_cw_68, q_cw_69, q_cw_70, q_cw_71, q_cw_72, q_cw_73, q_cw_74, q_cw_75, q_cw_76, q_cw_77, q_cw_78, q_cw_79, trivial⟩
set_option maxRecDepth 100000 in
theorem q_dg_60 : q_conj (fun y => q_dok (q_bytes y) (q_cs.getD y []) = true) 60 20 := ⟨qd_60, qd_61, qd_62, qd_63, qd_64, qd_65, qd_66, qd_67, qd_68, qd_69, qd_70, qd_71, qd_72, qd_73, qd_74, qd_75, qd_76, qd_77, qd_78, qd_79, trivial⟩
theorem q_mw_80 : ∀ y, y < 20 → ∀ w ∈ q_mw0 (y + 80), w ∈ lw_tbl := fun y hy w hw => q_mem_of (ws := (List.range 20).flatMap fun y => q_mw0 (y + 80)) [1021, 1022, 146, 1000, 1001, 146, 657, 658, 146, 918, 919, 146, 625, 626, 146, 621, 622, 146, 617, 618, 146, 914, 915, 146, 653, 654, 146, 948, 949, 146, 635, 636, 146, 1051, 1052, 146, 1181, 1182, 146, 649, 650, 146, 661, 662, 146, 1039, 1040, 146, 1044, 14, 146, 1047, 1048, 146, 613, 614, 146, 1136, 1137, 146] (by decide +kernel) (List.mem_flatMap.mpr ⟨y, List.mem_range.mpr hy, hw⟩)
theorem q_mp_80 : ∀ y, y < 20 → q_mp (y + 80) = true := by decide +kernel
set_option maxRecDepth 100000 in
theorem q_cw_80 : q_cw 80 ∈ lw_tbl := q_tb4 (List.mem_of_getElem? (i := 169) rfl)
set_option maxRecDepth 100000 in
theorem q_cw_81 : q_cw 81 ∈ lw_tbl := q_tb4 (List.mem_of_getElem? (i := 148) rfl)
set_option maxRecDepth 100000 in
theorem q_cw_82 : q_cw 82 ∈ lw_tbl := q_tb3 (List.mem_of_getElem? (i := 45) rfl)
set_option maxRecDepth 100000 in
theorem q_cw_83 : q_cw 83 ∈ lw_tbl := q_tb4 (List.mem_of_getElem? (i := 66) rfl)
set_option maxRecDepth 100000 in
theorem q_cw_84 : q_cw 84 ∈ lw_tbl := q_tb3 (List.mem_of_getElem? (i := 13) rfl)
set_option maxRecDepth 100000 in
theorem q_cw_85 : q_cw 85 ∈ lw_tbl := q_tb3 (List.mem_of_getElem? (i := 9) rfl)
set_option maxRecDepth 100000 in
theorem q_cw_86 : q_cw 86 ∈ lw_tbl := q_tb3 (List.mem_of_getElem? (i := 5) rfl)
set_option maxRecDepth 100000 in
theorem q_cw_87 : q_cw 87 ∈ lw_tbl := q_tb4 (List.mem_of_getElem? (i := 62) rfl)
set_option maxRecDepth 100000 in
theorem q_cw_88 : q_cw 88 ∈ lw_tbl := q_tb3 (List.mem_of_getElem? (i := 41) rfl)
set_option maxRecDepth 100000 in
theorem q_cw_89 : q_cw 89 ∈ lw_tbl := q_tb4 (List.mem_of_getElem? (i := 96) rfl)
set_option maxRecDepth 100000 in
theorem q_cw_90 : q_cw 90 ∈ lw_tbl := q_tb3 (List.mem_of_getElem? (i := 23) rfl)
set_option maxRecDepth 100000 in
theorem q_cw_91 : q_cw 91 ∈ lw_tbl := q_tb4 (List.mem_of_getElem? (i := 199) rfl)
set_option maxRecDepth 100000 in
theorem q_cw_92 : q_cw 92 ∈ lw_tbl := q_tb5 (List.mem_of_getElem? (i := 89) rfl)
set_option maxRecDepth 100000 in
theorem q_cw_93 : q_cw 93 ∈ lw_tbl := q_tb3 (List.mem_of_getElem? (i := 37) rfl)
set_option maxRecDepth 100000 in
theorem q_cw_94 : q_cw 94 ∈ lw_tbl := q_tb3 (List.mem_of_getElem? (i := 49) rfl)
set_option maxRecDepth 100000 in
theorem q_cw_95 : q_cw 95 ∈ lw_tbl := q_tb4 (List.mem_of_getElem? (i := 187) rfl)
set_option maxRecDepth 100000 in
theorem q_cw_96 : q_cw 96 ∈ lw_tbl := q_tb4 (List.mem_of_getElem? (i := 191) rfl)
set_option maxRecDepth 100000 in
theorem q_cw_97 : q_cw 97 ∈ lw_tbl := q_tb4 (List.mem_of_getElem? (i := 195) rfl)
set_option maxRecDepth 100000 in
theorem q_cw_98 : q_cw 98 ∈ lw_tbl := q_tb3 (List.mem_of_getElem? (i := 1) rfl)
set_option maxRecDepth 100000 in
theorem q_cw_99 : q_cw 99 ∈ lw_tbl := q_tb5 (List.mem_of_getElem? (i := 44) rfl)
set_option maxRecDepth 100000 in
theorem q_cwg_80 : q_conj (fun y => q_cw y ∈ lw_tbl) 80 20 := ⟨q_cw_80, q_cw_81, q_cw_82, q_cw_83, q_cw_84, q_cw_85, q_cw_86, q_cw_87, q_cw_88, q_cw_89, q_cw_90, q_cw_91, q_cw_92, q_cw_93, q_cw_94, q_cw_95, q_cw_96, q_cw_97, q_cw_98, q_cw_99, trivial⟩
set_option maxRecDepth 100000 in
theorem q_dg_80 : q_conj (fun y => q_dok (q_bytes y) (q_cs.getD y []) = true) 80 20 := ⟨qd_80, qd_81, qd_82, qd_83, qd_84, qd_85, qd_86, qd_87, qd_88, qd_89, qd_90, qd_91, qd_92, qd_93, qd_94, qd_95, qd_96, qd_97, qd_98, qd_99, trivial⟩
theorem q_mw_100 : ∀ y, y < 20 → ∀ w ∈ q_mw0 (y + 100), w ∈ lw_tbl := fun y hy w hw => q_mem_of (ws := (List.range 20).flatMap fun y => q_mw0 (y + 100)) [1256, 1257, 146, 1105, 1106, 146, 1194, 1195, 146, 1185, 1186, 146, 1190, 20, 146, 272, 139, 1035, 1036, 139, 1081, 1082, 139, 1140, 1141, 139, 1146, 139, 417, 144, 1289, 1290, 144, 1300, 26, 144, 1314, 1315, 144, 1318, 144, 1322, 144, 1326, 144, 1335, 27, 144, 1338, 144, 168, 136] (by decide +kernel) (List.mem_flatMap.mpr ⟨y, List.mem_range.mpr hy, hw⟩)
theorem q_mp_100 : ∀ y, y < 20 → q_mp (y + 100) = true := by decide +kernel
set_option maxRecDepth 100000 in
theorem q_cw_100 : q_cw 100 ∈ lw_tbl := q_tb5 (List.mem_of_getElem? (i := 164) rfl)
set_option maxRecDepth 100000 in
theorem q_cw_101 : q_cw 101 ∈ lw_tbl := q_tb5 (List.mem_of_getElem? (i := 13) rfl)
set_option maxRecDepth 100000 in
theorem q_cw_102 : q_cw 102 ∈ lw_tbl := q_tb5 (List.mem_of_getElem? (i := 102) rfl)
set_option maxRecDepth 100000 in
theorem q_cw_103 : q_cw 103 ∈ lw_tbl := q_tb5 (List.mem_of_getElem? (i := 93) rfl)
set_option maxRecDepth 100000 in
theorem q_cw_104 : q_cw 104 ∈ lw_tbl := q_tb5 (List.mem_of_getElem? (i := 97) rfl)
set_option maxRecDepth 100000 in
theorem q_cw_105 : q_cw 105 ∈ lw_tbl := q_tb1 (List.mem_of_getElem? (i := 139) rfl)
set_option maxRecDepth 100000 in
theorem q_cw_106 : q_cw 106 ∈ lw_tbl := q_tb4 (List.mem_of_getElem? (i := 183) rfl)
set_option maxRecDepth 100000 in
theorem q_cw_107 : q_cw 107 ∈ lw_tbl := q_tb4 (List.mem_of_getElem? (i := 229) rfl)
set_option maxRecDepth 100000 in
theorem q_cw_108 : q_cw 108 ∈ lw_tbl := q_tb5 (List.mem_of_getElem? (i := 48) rfl)
set_option maxRecDepth 100000 in
theorem q_cw_109 : q_cw 109 ∈ lw_tbl := q_tb5 (List.mem_of_getElem? (i := 53) rfl)
set_option maxRecDepth 100000 in
theorem q_cw_110 : q_cw 110 ∈ lw_tbl := q_tb2 (List.mem_of_getElem? (i := 44) rfl)
set_option maxRecDepth 100000 in
theorem q_cw_111 : q_cw 111 ∈ lw_tbl := q_tb5 (List.mem_of_getElem? (i := 197) rfl)
set_option maxRecDepth 100000 in
theorem q_cw_112 : q_cw 112 ∈ lw_tbl := q_tb5 (List.mem_of_getElem? (i := 207) rfl)
set_option maxRecDepth 100000 in
theorem q_cw_113 : q_cw 113 ∈ lw_tbl := q_tb5 (List.mem_of_getElem? (i := 222) rfl)
set_option maxRecDepth 100000 in
theorem q_cw_114 : q_cw 114 ∈ lw_tbl := q_tb5 (List.mem_of_getElem? (i := 225) rfl)
set_option maxRecDepth 100000 in
theorem q_cw_115 : q_cw 115 ∈ lw_tbl := q_tb5 (List.mem_of_getElem? (i := 229) rfl)
set_option maxRecDepth 100000 in
theorem q_cw_116 : q_cw 116 ∈ lw_tbl := q_tb5 (List.mem_of_getElem? (i := 233) rfl)
set_option maxRecDepth 100000 in
theorem q_cw_117 : q_cw 117 ∈ lw_tbl := q_tb6 (List.mem_of_getElem? (i := 2) rfl)
set_option maxRecDepth 100000 in
theorem q_cw_118 : q_cw 118 ∈ lw_tbl := q_tb6 (List.mem_of_getElem? (i := 5) rfl)
set_option maxRecDepth 100000 in
theorem q_cw_119 : q_cw 119 ∈ lw_tbl := q_tb1 (List.mem_of_getElem? (i := 35) rfl)
set_option maxRecDepth 100000 in
theorem q_cwg_100 : q_conj (fun y => q_cw y ∈ lw_tbl) 100 20 := ⟨q_cw_100, q_cw_101, q_cw_102, q_cw_103, q_cw_104, q_cw_105, q_cw_106, q_cw_107, q_cw_108, q_cw_109, q_cw_110, q_cw_111, q_cw_112, q_cw_113, q_cw_114, q_cw_115, q_cw_116, q_cw_117, q_cw_118, q_cw_119, trivial⟩
set_option maxRecDepth 100000 in
theorem q_dg_100 : q_conj (fun y => q_dok (q_bytes y) (q_cs.getD y []) = true) 100 20 := ⟨qd_100, qd_101, qd_102, qd_103, qd_104, qd_105, qd_106, qd_107, qd_108, qd_109, qd_110, qd_111, qd_112, qd_113, qd_114, qd_115, qd_116, qd_117, qd_118, qd_119, trivial⟩
theorem q_mw_120 : ∀ y, y < 20 → ∀ w ∈ q_mw0 (y + 120), w ∈ lw_tbl := fun y hy w hw => q_mem_of (ws := (List.range 20).flatMap fun y => q_mw0 (y + 120)) [753, 754, 136, 758, 3, 136, 966, 967, 136, 160, 135, 677, 678, 135, 768, 769, 135, 795, 796, 135, 803, 804, 135, 830, 831, 135, 837, 838, 135, 848, 849, 135, 856, 857, 135, 872, 873, 135, 880, 881, 135, 887, 888, 135, 894, 895, 135, 906, 907, 135, 930, 931, 135, 578, 579, 135, 978, 979, 135] (by decide +kernel) (List.mem_flatMap.mpr ⟨y, List.mem_range.mpr hy, hw⟩)
theorem q_mp_120 : ∀ y, y < 20 → q_mp (y + 120) = true := by decide +kernel
set_option maxRecDepth 100000 in
theorem q_cw_120 : q_cw 120 ∈ lw_tbl := q_tb3 (List.mem_of_getElem? (i := 141) rfl)
set_option maxRecDepth 100000 in
theorem q_cw_121 : q_cw 121 ∈ lw_tbl := q_tb3 (List.mem_of_getElem? (i := 145) rfl)
set_option maxRecDepth 100000 in
theorem q_cw_122 : q_cw 122 ∈ lw_tbl := q_tb4 (List.mem_of_getElem? (i := 114) rfl)
set_option maxRecDepth 100000 in
theorem q_cw_123 : q_cw 123 ∈ lw_tbl := q_tb1 (List.mem_of_getElem? (i := 27) rfl)
set_option maxRecDepth 100000 in
theorem q_cw_124 : q_cw 124 ∈ lw_tbl := q_tb3 (List.mem_of_getElem? (i := 65) rfl)
set_option maxRecDepth 100000 in
theorem q_cw_125 : q_cw 125 ∈ lw_tbl := q_tb3 (List.mem_of_getElem? (i := 156) rfl)
set_option maxRecDepth 100000 in
theorem q_cw_126 : q_cw 126 ∈ lw_tbl := q_tb3 (List.mem_of_getElem? (i := 183) rfl)
set_option maxRecDepth 100000 in
theorem q_cw_127 : q_cw 127 ∈ lw_tbl := q_tb3 (List.mem_of_getElem? (i := 191) rfl)
set_option maxRecDepth 100000 in
theorem q_cw_128 : q_cw 128 ∈ lw_tbl := q_tb3 (List.mem_of_getElem? (i := 218) rfl)
set_option maxRecDepth 100000 in
theorem q_cw_129 : q_cw 129 ∈ lw_tbl := q_tb3 (List.mem_of_getElem? (i := 225) rfl)
set_option maxRecDepth 100000 in
theorem q_cw_130 : q_cw 130 ∈ lw_tbl := q_tb3 (List.mem_of_getElem? (i := 236) rfl)
set_option maxRecDepth 100000 in
theorem q_cw_131 : q_cw 131 ∈ lw_tbl := q_tb4 (List.mem_of_getElem? (i := 4) rfl)
set_option maxRecDepth 100000 in
theorem q_cw_132 : q_cw 132 ∈ lw_tbl := q_tb4 (List.mem_of_getElem? (i := 20) rfl)
set_option maxRecDepth 100000 in
theorem q_cw_133 : q_cw 133 ∈ lw_tbl := q_tb4 (List.mem_of_getElem? (i := 28) rfl)
set_option maxRecDepth 100000 in
theorem q_cw_134 : q_cw 134 ∈ lw_tbl := q_tb4 (List.mem_of_getElem? (i := 35) rfl)
set_option maxRecDepth 100000 in
theorem q_cw_135 : q_cw 135 ∈ lw_tbl := q_tb4 (List.mem_of_getElem? (i := 42) rfl)
set_option maxRecDepth 100000 in
theorem q_cw_136 : q_cw 136 ∈ lw_tbl := q_tb4 (List.mem_of_getElem? (i := 54) rfl)
set_option maxRecDepth 100000 in
theorem q_cw_137 : q_cw 137 ∈ lw_tbl := q_tb4 (List.mem_of_getElem? (i := 78) rfl)
set_option maxRecDepth 100000 in
theorem q_cw_138 : q_cw 138 ∈ lw_tbl := q_tb2 (List.mem_of_getElem? (i := 206) rfl)
set_option maxRecDepth 100000 in
theorem q_cw_139 : q_cw 139 ∈ lw_tbl := q_tb4 (List.mem_of_getElem? (i := 126) rfl)
set_option maxRecDepth 100000 in
theorem q_cwg_120 : q_conj (fun y => q_cw y ∈ lw_tbl) 120 20 := ⟨q_cw_120, q_cw_121, q_cw_122, q_cw_123, q_cw_124, q_cw_125, q_cw_126, q_cw_127, q_cw_128, q_cw_129, q_cw_130, q_cw_131, q_cw_132, q_cw_133, q_cw_134, q_cw_135, q_cw_136, q_cw_137, q_cw_138, q_cw_139, trivial⟩
set_option maxRecDepth 100000 in
theorem q_dg_120 : q_conj (fun y => q_dok (q_bytes y) (q_cs.getD y []) = true) 120 20 := ⟨qd_120, qd_121, qd_122, qd_123, qd_124, qd_125, qd_126, qd_127, qd_128, qd_129, qd_130, qd_131, qd_132, qd_133, qd_134, qd_135, qd_136, qd_137, qd_138, qd_139, trivial⟩
theorem q_mw_140 : ∀ y, y < 20 → ∀ w ∈ q_mw0 (y + 140), w ∈ lw_tbl := fun y hy w hw => q_mem_of (ws := (List.range 20).flatMap fun y => q_mw0 (y + 140)) [1013, 1014, 135, 1071, 1072, 135, 1123, 1124, 135, 1169, 1170, 135, 1235, 1236, 135, 1285, 1286, 135, 1310, 1311, 135, 1344, 1345, 135, 1357, 1358, 135, 1392, 1393, 135, 1411, 1412, 135, 1423, 1424, 135, 1431, 1432, 135, 1441, 1442, 135, 1449, 1450, 135, 665, 666, 135, 669, 670, 135, 682, 1, 135, 808, 5, 135, 842, 6, 135] (by decide +kernel) (List.mem_flatMap.mpr ⟨y, List.mem_range.mpr hy, hw⟩)
theorem q_mp_140 : ∀ y, y < 20 → q_mp (y + 140) = true := by decide +kernel
set_option maxRecDepth 100000 in
theorem q_cw_140 : q_cw 140 ∈ lw_tbl := q_tb4 (List.mem_of_getElem? (i := 161) rfl)
set_option maxRecDepth 100000 in
theorem q_cw_141 : q_cw 141 ∈ lw_tbl := q_tb4 (List.mem_of_getElem? (i := 219) rfl)
set_option maxRecDepth 100000 in
theorem q_cw_142 : q_cw 142 ∈ lw_tbl := q_tb5 (List.mem_of_getElem? (i := 31) rfl)
set_option maxRecDepth 100000 in
theorem q_cw_143 : q_cw 143 ∈ lw_tbl := q_tb5 (List.mem_of_getElem? (i := 77) rfl)
set_option maxRecDepth 100000 in
theorem q_cw_144 : q_cw 144 ∈ lw_tbl := q_tb5 (List.mem_of_getElem? (i := 143) rfl)
set_option maxRecDepth 100000 in
theorem q_cw_145 : q_cw 145 ∈ lw_tbl := q_tb5 (List.mem_of_getElem? (i := 193) rfl)
set_option maxRecDepth 100000 in
theorem q_cw_146 : q_cw 146 ∈ lw_tbl := q_tb5 (List.mem_of_getElem? (i := 218) rfl)
set_option maxRecDepth 100000 in
theorem q_cw_147 : q_cw 147 ∈ lw_tbl := q_tb6 (List.mem_of_getElem? (i := 12) rfl)
set_option maxRecDepth 100000 in
theorem q_cw_148 : q_cw 148 ∈ lw_tbl := q_tb6 (List.mem_of_getElem? (i := 25) rfl)
set_option maxRecDepth 100000 in
theorem q_cw_149 : q_cw 149 ∈ lw_tbl := q_tb6 (List.mem_of_getElem? (i := 60) rfl)
set_option maxRecDepth 100000 in
theorem q_cw_150 : q_cw 150 ∈ lw_tbl := q_tb6 (List.mem_of_getElem? (i := 79) rfl)
set_option maxRecDepth 100000 in
theorem q_cw_151 : q_cw 151 ∈ lw_tbl := q_tb6 (List.mem_of_getElem? (i := 91) rfl)
set_option maxRecDepth 100000 in
theorem q_cw_152 : q_cw 152 ∈ lw_tbl := q_tb6 (List.mem_of_getElem? (i := 99) rfl)
set_option maxRecDepth 100000 in
theorem q_cw_153 : q_cw 153 ∈ lw_tbl := q_tb6 (List.mem_of_getElem? (i := 109) rfl)
set_option maxRecDepth 100000 in
theorem q_cw_154 : q_cw 154 ∈ lw_tbl := q_tb6 (List.mem_of_getElem? (i := 117) rfl)
set_option maxRecDepth 100000 in
theorem q_cw_155 : q_cw 155 ∈ lw_tbl := q_tb3 (List.mem_of_getElem? (i := 53) rfl)
set_option maxRecDepth 100000 in
theorem q_cw_156 : q_cw 156 ∈ lw_tbl := q_tb3 (List.mem_of_getElem? (i := 57) rfl)
set_option maxRecDepth 100000 in
theorem q_cw_157 : q_cw 157 ∈ lw_tbl := q_tb3 (List.mem_of_getElem? (i := 69) rfl)
set_option maxRecDepth 100000 in
theorem q_cw_158 : q_cw 158 ∈ lw_tbl := q_tb3 (List.mem_of_getElem? (i := 195) rfl)
set_option maxRecDepth 100000 in
theorem q_cw_159 : q_cw 159 ∈ lw_tbl := q_tb3 (List.mem_of_getElem? (i := 229) rfl)
set_option maxRecDepth 100000 in
theorem q_cwg_140 : q_conj (fun y => q_cw y ∈ lw_tbl) 140 20 := ⟨q_cw_140, q_cw_141, q_cw_142, q_cw_143, q_cw_144, q_cw_145, q_cw_146, q_cw_147, q_cw_148, q_cw_149, q_cw_150, q_cw_151, q_cw_152, q_cw_153, q_cw_154, q_cw_155, q_cw_156, q_cw_157, q_cw_158, q_cw_159, trivial⟩
set_option maxRecDepth 100000 in
theorem q_dg_140 : q_conj (fun y => q_dok (q_bytes y) (q_cs.getD y []) = true) 140 20 := ⟨qd_140, qd_141, qd_142, qd_143, qd_144, qd_145, qd_146, qd_147, qd_148, qd_149, qd_150, qd_151, qd_152, qd_153, qd_154, qd_155, qd_156, qd_157, qd_158, qd_159, trivial⟩
theorem q_mw_160 : ∀ y, y < 20 → ∀ w ∈ q_mw0 (y + 160), w ∈ lw_tbl := fun y hy w hw => q_mem_of (ws := (List.range 20).flatMap fun y => q_mw0 (y + 160)) [773, 4, 135, 1027, 12, 135, 861, 7, 135, 911, 8, 135, 938, 9, 135, 1018, 11, 135, 1132, 19, 135, 1128, 18, 135, 1076, 17, 135, 983, 10, 135, 934, 135, 941, 135, 1032, 13, 135, 1061, 15, 135, 1065, 16, 135, 1202, 135, 1523, 147, 1671, 1672, 147, 1680, 41, 147, 1697, 147] (by decide +kernel) (List.mem_flatMap.mpr ⟨y, List.mem_range.mpr hy, hw⟩)
theorem q_mp_160 : ∀ y, y < 20 → q_mp (y + 160) = true := by decide +kernel
set_option maxRecDepth 100000 in
theorem q_cw_160 : q_cw 160 ∈ lw_tbl := q_tb3 (List.mem_of_getElem? (i := 160) rfl)
set_option maxRecDepth 100000 in
theorem q_cw_161 : q_cw 161 ∈ lw_tbl := q_tb4 (List.mem_of_getElem? (i := 174) rfl)
set_option maxRecDepth 100000 in
theorem q_cw_162 : q_cw 162 ∈ lw_tbl := q_tb4 (List.mem_of_getElem? (i := 8) rfl)
set_option maxRecDepth 100000 in
theorem q_cw_163 : q_cw 163 ∈ lw_tbl := q_tb4 (List.mem_of_getElem? (i := 58) rfl)
set_option maxRecDepth 100000 in
theorem q_cw_164 : q_cw 164 ∈ lw_tbl := q_tb4 (List.mem_of_getElem? (i := 85) rfl)
set_option maxRecDepth 100000 in
theorem q_cw_165 : q_cw 165 ∈ lw_tbl := q_tb4 (List.mem_of_getElem? (i := 165) rfl)
set_option maxRecDepth 100000 in
theorem q_cw_166 : q_cw 166 ∈ lw_tbl := q_tb5 (List.mem_of_getElem? (i := 39) rfl)
set_option maxRecDepth 100000 in
theorem q_cw_167 : q_cw 167 ∈ lw_tbl := q_tb5 (List.mem_of_getElem? (i := 35) rfl)
set_option maxRecDepth 100000 in
theorem q_cw_168 : q_cw 168 ∈ lw_tbl := q_tb4 (List.mem_of_getElem? (i := 223) rfl)
set_option maxRecDepth 100000 in
theorem q_cw_169 : q_cw 169 ∈ lw_tbl := q_tb4 (List.mem_of_getElem? (i := 130) rfl)
set_option maxRecDepth 100000 in
theorem q_cw_170 : q_cw 170 ∈ lw_tbl := q_tb4 (List.mem_of_getElem? (i := 81) rfl)
set_option maxRecDepth 100000 in
theorem q_cw_171 : q_cw 171 ∈ lw_tbl := q_tb4 (List.mem_of_getElem? (i := 88) rfl)
set_option maxRecDepth 100000 in
theorem q_cw_172 : q_cw 172 ∈ lw_tbl := q_tb4 (List.mem_of_getElem? (i := 179) rfl)
set_option maxRecDepth 100000 in
theorem q_cw_173 : q_cw 173 ∈ lw_tbl := q_tb4 (List.mem_of_getElem? (i := 208) rfl)
set_option maxRecDepth 100000 in
theorem q_cw_174 : q_cw 174 ∈ lw_tbl := q_tb4 (List.mem_of_getElem? (i := 212) rfl)
set_option maxRecDepth 100000 in
theorem q_cw_175 : q_cw 175 ∈ lw_tbl := q_tb5 (List.mem_of_getElem? (i := 109) rfl)
set_option maxRecDepth 100000 in
theorem q_cw_176 : q_cw 176 ∈ lw_tbl := q_tb6 (List.mem_of_getElem? (i := 190) rfl)
set_option maxRecDepth 100000 in
theorem q_cw_177 : q_cw 177 ∈ lw_tbl := q_tb7 (List.mem_of_getElem? (i := 99) rfl)
set_option maxRecDepth 100000 in
theorem q_cw_178 : q_cw 178 ∈ lw_tbl := q_tb7 (List.mem_of_getElem? (i := 107) rfl)
set_option maxRecDepth 100000 in
theorem q_cw_179 : q_cw 179 ∈ lw_tbl := q_tb7 (List.mem_of_getElem? (i := 124) rfl)
set_option maxRecDepth 100000 in
theorem q_cwg_160 : q_conj (fun y => q_cw y ∈ lw_tbl) 160 20 := ⟨q_cw_160, q_cw_161, q_cw_162, q_cw_163, q_cw_164, q_cw_165, q_cw_166, q_cw_167, q_cw_168, q_cw_169, q_cw_170, q_cw_171, q_cw_172, q_cw_173, q_cw_174, q_cw_175, q_cw_176, q_cw_177, q_cw_178, q_cw_179, trivial⟩
set_option maxRecDepth 100000 in
theorem q_dg_160 : q_conj (fun y => q_dok (q_bytes y) (q_cs.getD y []) = true) 160 20 := ⟨qd_160, qd_161, qd_162, qd_163, qd_164, qd_165, qd_166, qd_167, qd_168, qd_169, qd_170, qd_171, qd_172, qd_173, qd_174, qd_175, qd_176, qd_177, qd_178, qd_179, trivial⟩
theorem q_mw_180 : ∀ y, y < 20 → ∀ w ∈ q_mw0 (y + 180), w ∈ lw_tbl := fun y hy w hw => q_mem_of (ws := (List.range 20).flatMap fun y => q_mw0 (y + 180)) [1694, 147, 1709, 43, 147, 1684, 42, 147, 1687, 147, 1713, 44, 147, 1675, 1676, 147, 1690, 1691, 147, 1700, 1701, 147, 1704, 1705, 147, 1716, 1717, 147, 1720, 1721, 147, 1724, 1725, 147, 1728, 1729, 147, 1736, 1737, 147, 1740, 1741, 147, 1744, 1745, 147, 1793, 54, 147, 1801, 56, 147, 1813, 59, 147, 1837, 64, 147] (by decide +kernel) (List.mem_flatMap.mpr ⟨y, List.mem_range.mpr hy, hw⟩)
theorem q_mp_180 : ∀ y, y < 20 → q_mp (y + 180) = true := by decide +kernel
set_option maxRecDepth 100000 in
theorem q_cw_180 : q_cw 180 ∈ lw_tbl := q_tb7 (List.mem_of_getElem? (i := 121) rfl)
set_option maxRecDepth 100000 in
theorem q_cw_181 : q_cw 181 ∈ lw_tbl := q_tb7 (List.mem_of_getElem? (i := 136) rfl)
set_option maxRecDepth 100000 in
theorem q_cw_182 : q_cw 182 ∈ lw_tbl := q_tb7 (List.mem_of_getElem? (i := 111) rfl)
set_option maxRecDepth 100000 in
theorem q_cw_183 : q_cw 183 ∈ lw_tbl := q_tb7 (List.mem_of_getElem? (i := 114) rfl)
set_option maxRecDepth 100000 in
theorem q_cw_184 : q_cw 184 ∈ lw_tbl := q_tb7 (List.mem_of_getElem? (i := 140) rfl)
set_option maxRecDepth 100000 in
theorem q_cw_185 : q_cw 185 ∈ lw_tbl := q_tb7 (List.mem_of_getElem? (i := 103) rfl)
set_option maxRecDepth 100000 in
theorem q_cw_186 : q_cw 186 ∈ lw_tbl := q_tb7 (List.mem_of_getElem? (i := 118) rfl)
set_option maxRecDepth 100000 in
theorem q_cw_187 : q_cw 187 ∈ lw_tbl := q_tb7 (List.mem_of_getElem? (i := 128) rfl)
set_option maxRecDepth 100000 in
theorem q_cw_188 : q_cw 188 ∈ lw_tbl := q_tb7 (List.mem_of_getElem? (i := 132) rfl)
set_option maxRecDepth 100000 in
theorem q_cw_189 : q_cw 189 ∈ lw_tbl := q_tb7 (List.mem_of_getElem? (i := 144) rfl)
set_option maxRecDepth 100000 in
theorem q_cw_190 : q_cw 190 ∈ lw_tbl := q_tb7 (List.mem_of_getElem? (i := 148) rfl)
set_option maxRecDepth 100000 in
theorem q_cw_191 : q_cw 191 ∈ lw_tbl := q_tb7 (List.mem_of_getElem? (i := 152) rfl)
set_option maxRecDepth 100000 in
theorem q_cw_192 : q_cw 192 ∈ lw_tbl := q_tb7 (List.mem_of_getElem? (i := 156) rfl)
set_option maxRecDepth 100000 in
theorem q_cw_193 : q_cw 193 ∈ lw_tbl := q_tb7 (List.mem_of_getElem? (i := 164) rfl)
set_option maxRecDepth 100000 in
theorem q_cw_194 : q_cw 194 ∈ lw_tbl := q_tb7 (List.mem_of_getElem? (i := 168) rfl)
set_option maxRecDepth 100000 in
theorem q_cw_195 : q_cw 195 ∈ lw_tbl := q_tb7 (List.mem_of_getElem? (i := 172) rfl)
set_option maxRecDepth 100000 in
theorem q_cw_196 : q_cw 196 ∈ lw_tbl := q_tb7 (List.mem_of_getElem? (i := 220) rfl)
set_option maxRecDepth 100000 in
theorem q_cw_197 : q_cw 197 ∈ lw_tbl := q_tb7 (List.mem_of_getElem? (i := 228) rfl)
set_option maxRecDepth 100000 in
theorem q_cw_198 : q_cw 198 ∈ lw_tbl := q_tb8 (List.mem_of_getElem? (i := 0) rfl)
set_option maxRecDepth 100000 in
theorem q_cw_199 : q_cw 199 ∈ lw_tbl := q_tb8 (List.mem_of_getElem? (i := 24) rfl)
set_option maxRecDepth 100000 in
theorem q_cwg_180 : q_conj (fun y => q_cw y ∈ lw_tbl) 180 20 := ⟨q_cw_180, q_cw_181, q_cw_182, q_cw_183, q_cw_184, q_cw_185, q_cw_186, q_cw_187, q_cw_188, q_cw_189, q_cw_190, q_cw_191, q_cw_192, q_cw_193, q_cw_194, q_cw_195, q_cw_196, q_cw_197, q_cw_198, q_cw_199, trivial⟩
set_option maxRecDepth 100000 in
theorem q_dg_180 : q_conj (fun y => q_dok (q_bytes y) (q_cs.getD y []) = true) 180 20 := ⟨qd_180, qd_181, qd_182, qd_183, qd_184, qd_185, qd_186, qd_187, qd_188, qd_189, qd_190, qd_191, qd_192, qd_193, qd_194, qd_195, qd_196, qd_197, qd_198, qd_199, trivial⟩
theorem q_mw_200 : ∀ y, y < 20 → ∀ w ∈ q_mw0 (y + 200), w ∈ lw_tbl := fun y hy w hw => q_mem_of (ws := (List.range 20).flatMap fun y => q_mw0 (y + 200)) [1845, 66, 147, 1841, 65, 147, 1809, 58, 147, 1901, 79, 147, 1733, 45, 147, 1757, 46, 147, 1909, 80, 147, 1773, 50, 147, 1769, 49, 147, 1765, 48, 147, 1777, 51, 147, 1853, 68, 147, 1761, 47, 147, 1789, 53, 147, 1885, 76, 147, 1997, 97, 147, 1748, 1749, 147, 1752, 1753, 147, 1785, 52, 147, 1780, 1781, 147] (by decide +kernel) (List.mem_flatMap.mpr ⟨y, List.mem_range.mpr hy, hw⟩)
theorem q_mp_200 : ∀ y, y < 20 → q_mp (y + 200) = true := by decide +kernel
set_option maxRecDepth 100000 in
theorem q_cw_200 : q_cw 200 ∈ lw_tbl := q_tb8 (List.mem_of_getElem? (i := 32) rfl)
set_option maxRecDepth 100000 in
theorem q_cw_201 : q_cw 201 ∈ lw_tbl := q_tb8 (List.mem_of_getElem? (i := 28) rfl)
set_option maxRecDepth 100000 in
theorem q_cw_202 : q_cw 202 ∈ lw_tbl := q_tb7 (List.mem_of_getElem? (i := 236) rfl)
set_option maxRecDepth 100000 in
theorem q_cw_203 : q_cw 203 ∈ lw_tbl := q_tb8 (List.mem_of_getElem? (i := 88) rfl)
set_option maxRecDepth 100000 in
theorem q_cw_204 : q_cw 204 ∈ lw_tbl := q_tb7 (List.mem_of_getElem? (i := 160) rfl)
set_option maxRecDepth 100000 in
theorem q_cw_205 : q_cw 205 ∈ lw_tbl := q_tb7 (List.mem_of_getElem? (i := 184) rfl)
set_option maxRecDepth 100000 in
theorem q_cw_206 : q_cw 206 ∈ lw_tbl := q_tb8 (List.mem_of_getElem? (i := 96) rfl)
set_option maxRecDepth 100000 in
theorem q_cw_207 : q_cw 207 ∈ lw_tbl := q_tb7 (List.mem_of_getElem? (i := 200) rfl)
set_option maxRecDepth 100000 in
theorem q_cw_208 : q_cw 208 ∈ lw_tbl := q_tb7 (List.mem_of_getElem? (i := 196) rfl)
set_option maxRecDepth 100000 in
theorem q_cw_209 : q_cw 209 ∈ lw_tbl := q_tb7 (List.mem_of_getElem? (i := 192) rfl)
set_option maxRecDepth 100000 in
theorem q_cw_210 : q_cw 210 ∈ lw_tbl := q_tb7 (List.mem_of_getElem? (i := 204) rfl)
set_option maxRecDepth 100000 in
theorem q_cw_211 : q_cw 211 ∈ lw_tbl := q_tb8 (List.mem_of_getElem? (i := 40) rfl)
set_option maxRecDepth 100000 in
theorem q_cw_212 : q_cw 212 ∈ lw_tbl := q_tb7 (List.mem_of_getElem? (i := 188) rfl)
set_option maxRecDepth 100000 in
theorem q_cw_213 : q_cw 213 ∈ lw_tbl := q_tb7 (List.mem_of_getElem? (i := 216) rfl)
set_option maxRecDepth 100000 in
theorem q_cw_214 : q_cw 214 ∈ lw_tbl := q_tb8 (List.mem_of_getElem? (i := 72) rfl)
set_option maxRecDepth 100000 in
theorem q_cw_215 : q_cw 215 ∈ lw_tbl := q_tb8 (List.mem_of_getElem? (i := 184) rfl)
set_option maxRecDepth 100000 in
theorem q_cw_216 : q_cw 216 ∈ lw_tbl := q_tb7 (List.mem_of_getElem? (i := 176) rfl)
set_option maxRecDepth 100000 in
theorem q_cw_217 : q_cw 217 ∈ lw_tbl := q_tb7 (List.mem_of_getElem? (i := 180) rfl)
set_option maxRecDepth 100000 in
theorem q_cw_218 : q_cw 218 ∈ lw_tbl := q_tb7 (List.mem_of_getElem? (i := 212) rfl)
set_option maxRecDepth 100000 in
theorem q_cw_219 : q_cw 219 ∈ lw_tbl := q_tb7 (List.mem_of_getElem? (i := 208) rfl)
set_option maxRecDepth 100000 in
theorem q_cwg_200 : q_conj (fun y => q_cw y ∈ lw_tbl) 200 20 := ⟨q_cw_200, q_cw_201, q_cw_202, q_cw_203, q_cw_204, q_cw_205, q_cw_206, q_cw_207, q_cw_208, q_cw_209, q_cw_210, q_cw_211, q_cw_212, q_cw_213, q_cw_214, q_cw_215, q_cw_216, q_cw_217, q_cw_218, q_cw_219, trivial⟩
set_option maxRecDepth 100000 in
theorem q_dg_200 : q_conj (fun y => q_dok (q_bytes y) (q_cs.getD y []) = true) 200 20 := ⟨qd_200, qd_201, qd_202, qd_203, qd_204, qd_205, qd_206, qd_207, qd_208, qd_209, qd_210, qd_211, qd_212, qd_213, qd_214, qd_215, qd_216, qd_217, qd_218, qd_219, trivial⟩
theorem q_mw_220 : ∀ y, y < 20 → ∀ w ∈ q_mw0 (y + 220), w ∈ lw_tbl := fun y hy w hw => q_mem_of (ws := (List.range 20).flatMap fun y => q_mw0 (y + 220)) [1797, 55, 147, 1805, 57, 147, 1833, 63, 147, 1861, 70, 147, 1829, 62, 147, 1849, 67, 147, 1869, 72, 147, 1873, 73, 147, 1857, 69, 147, 1865, 71, 147, 1877, 74, 147, 1881, 75, 147, 1825, 61, 147, 1893, 78, 147, 1889, 77, 147, 1821, 60, 147, 1816, 1817, 147, 1896, 1897, 147, 1904, 1905, 147, 1925, 83, 147] (by decide +kernel) (List.mem_flatMap.mpr ⟨y, List.mem_range.mpr hy, hw⟩)
theorem q_mp_220 : ∀ y, y < 20 → q_mp (y + 220) = true := by decide +kernel
set_option maxRecDepth 100000 in
theorem q_cw_220 : q_cw 220 ∈ lw_tbl := q_tb7 (List.mem_of_getElem? (i := 224) rfl)
set_option maxRecDepth 100000 in
theorem q_cw_221 : q_cw 221 ∈ lw_tbl := q_tb7 (List.mem_of_getElem? (i := 232) rfl)
set_option maxRecDepth 100000 in
theorem q_cw_222 : q_cw 222 ∈ lw_tbl := q_tb8 (List.mem_of_getElem? (i := 20) rfl)
set_option maxRecDepth 100000 in
theorem q_cw_223 : q_cw 223 ∈ lw_tbl := q_tb8 (List.mem_of_getElem? (i := 48) rfl)
set_option maxRecDepth 100000 in
theorem q_cw_224 : q_cw 224 ∈ lw_tbl := q_tb8 (List.mem_of_getElem? (i := 16) rfl)
set_option maxRecDepth 100000 in
theorem q_cw_225 : q_cw 225 ∈ lw_tbl := q_tb8 (List.mem_of_getElem? (i := 36) rfl)
set_option maxRecDepth 100000 in
theorem q_cw_226 : q_cw 226 ∈ lw_tbl := q_tb8 (List.mem_of_getElem? (i := 56) rfl)
set_option maxRecDepth 100000 in
theorem q_cw_227 : q_cw 227 ∈ lw_tbl := q_tb8 (List.mem_of_getElem? (i := 60) rfl)
set_option maxRecDepth 100000 in
theorem q_cw_228 : q_cw 228 ∈ lw_tbl := q_tb8 (List.mem_of_getElem? (i := 44) rfl)
set_option maxRecDepth 100000 in
theorem q_cw_229 : q_cw 229 ∈ lw_tbl := q_tb8 (List.mem_of_getElem? (i := 52) rfl)
set_option maxRecDepth 100000 in
theorem q_cw_230 : q_cw 230 ∈ lw_tbl := q_tb8 (List.mem_of_getElem? (i := 64) rfl)
set_option maxRecDepth 100000 in
theorem q_cw_231 : q_cw 231 ∈ lw_tbl := q_tb8 (List.mem_of_getElem? (i := 68) rfl)
set_option maxRecDepth 100000 in
theorem q_cw_232 : q_cw 232 ∈ lw_tbl := q_tb8 (List.mem_of_getElem? (i := 12) rfl)
set_option maxRecDepth 100000 in
theorem q_cw_233 : q_cw 233 ∈ lw_tbl := q_tb8 (List.mem_of_getElem? (i := 80) rfl)
set_option maxRecDepth 100000 in
theorem q_cw_234 : q_cw 234 ∈ lw_tbl := q_tb8 (List.mem_of_getElem? (i := 76) rfl)
set_option maxRecDepth 100000 in
theorem q_cw_235 : q_cw 235 ∈ lw_tbl := q_tb8 (List.mem_of_getElem? (i := 8) rfl)
set_option maxRecDepth 100000 in
theorem q_cw_236 : q_cw 236 ∈ lw_tbl := q_tb8 (List.mem_of_getElem? (i := 4) rfl)
set_option maxRecDepth 100000 in
theorem q_cw_237 : q_cw 237 ∈ lw_tbl := q_tb8 (List.mem_of_getElem? (i := 84) rfl)
set_option maxRecDepth 100000 in
theorem q_cw_238 : q_cw 238 ∈ lw_tbl := q_tb8 (List.mem_of_getElem? (i := 92) rfl)
set_option maxRecDepth 100000 in
theorem q_cw_239 : q_cw 239 ∈ lw_tbl := q_tb8 (List.mem_of_getElem? (i := 112) rfl)
set_option maxRecDepth 100000 in
theorem q_cwg_220 : q_conj (fun y => q_cw y ∈ lw_tbl) 220 20 := ⟨q_cw_220, q_cw_221, q_cw_222, q_cw_223, q_cw_224, q_cw_225, q_cw_226, q_cw_227, q_cw_228, q_cw_229, q_cw_230, q_cw_231, q_cw_232, q_cw_233, q_cw_234, q_cw_235, q_cw_236, q_cw_237, q_cw_238, q_cw_239, trivial⟩
set_option maxRecDepth 100000 in
theorem q_dg_220 : q_conj (fun y => q_dok (q_bytes y) (q_cs.getD y []) = true) 220 20 := ⟨qd_220, qd_221, qd_222, qd_223, qd_224, qd_225, qd_226, qd_227, qd_228, qd_229, qd_230, qd_231, qd_232, qd_233, qd_234, qd_235, qd_236, qd_237, qd_238, qd_239, trivial⟩
theorem q_mw_240 : ∀ y, y < 20 → ∀ w ∈ q_mw0 (y + 240), w ∈ lw_tbl := fun y hy w hw => q_mem_of (ws := (List.range 20).flatMap fun y => q_mw0 (y + 240)) [1920, 1921, 147, 1933, 84, 147, 1965, 92, 147, 1941, 86, 147, 1957, 90, 147, 1949, 88, 147, 1937, 85, 147, 1945, 87, 147, 1953, 89, 147, 1961, 91, 147, 1969, 93, 147, 1973, 94, 147, 1928, 1929, 147, 1976, 1977, 147, 1980, 1981, 147, 1913, 81, 147, 1917, 82, 147, 1993, 96, 147, 2076, 113, 147, 2080, 114, 147] (by decide +kernel) (List.mem_flatMap.mpr ⟨y, List.mem_range.mpr hy, hw⟩)
theorem q_mp_240 : ∀ y, y < 20 → q_mp (y + 240) = true := by decide +kernel
set_option maxRecDepth 100000 in
theorem q_cw_240 : q_cw 240 ∈ lw_tbl := q_tb8 (List.mem_of_getElem? (i := 108) rfl)
set_option maxRecDepth 100000 in
theorem q_cw_241 : q_cw 241 ∈ lw_tbl := q_tb8 (List.mem_of_getElem? (i := 120) rfl)
set_option maxRecDepth 100000 in
theorem q_cw_242 : q_cw 242 ∈ lw_tbl := q_tb8 (List.mem_of_getElem? (i := 152) rfl)
set_option maxRecDepth 100000 in
theorem q_cw_243 : q_cw 243 ∈ lw_tbl := q_tb8 (List.mem_of_getElem? (i := 128) rfl)
set_option maxRecDepth 100000 in
theorem q_cw_244 : q_cw 244 ∈ lw_tbl := q_tb8 (List.mem_of_getElem? (i := 144) rfl)
set_option maxRecDepth 100000 in
theorem q_cw_245 : q_cw 245 ∈ lw_tbl := q_tb8 (List.mem_of_getElem? (i := 136) rfl)
set_option maxRecDepth 100000 in
theorem q_cw_246 : q_cw 246 ∈ lw_tbl := q_tb8 (List.mem_of_getElem? (i := 124) rfl)
set_option maxRecDepth 100000 in
theorem q_cw_247 : q_cw 247 ∈ lw_tbl := q_tb8 (List.mem_of_getElem? (i := 132) rfl)
set_option maxRecDepth 100000 in
theorem q_cw_248 : q_cw 248 ∈ lw_tbl := q_tb8 (List.mem_of_getElem? (i := 140) rfl)
set_option maxRecDepth 100000 in
theorem q_cw_249 : q_cw 249 ∈ lw_tbl := q_tb8 (List.mem_of_getElem? (i := 148) rfl)
set_option maxRecDepth 100000 in
theorem q_cw_250 : q_cw 250 ∈ lw_tbl := q_tb8 (List.mem_of_getElem? (i := 156) rfl)
set_option maxRecDepth 100000 in
theorem q_cw_251 : q_cw 251 ∈ lw_tbl := q_tb8 (List.mem_of_getElem? (i := 160) rfl)
set_option maxRecDepth 100000 in
theorem q_cw_252 : q_cw 252 ∈ lw_tbl := q_tb8 (List.mem_of_getElem? (i := 116) rfl)
set_option maxRecDepth 100000 in
theorem q_cw_253 : q_cw 253 ∈ lw_tbl := q_tb8 (List.mem_of_getElem? (i := 164) rfl)
set_option maxRecDepth 100000 in
theorem q_cw_254 : q_cw 254 ∈ lw_tbl := q_tb8 (List.mem_of_getElem? (i := 168) rfl)
set_option maxRecDepth 100000 in
theorem q_cw_255 : q_cw 255 ∈ lw_tbl := q_tb8 (List.mem_of_getElem? (i := 100) rfl)
set_option maxRecDepth 100000 in
theorem q_cw_256 : q_cw 256 ∈ lw_tbl := q_tb8 (List.mem_of_getElem? (i := 104) rfl)
set_option maxRecDepth 100000 in
theorem q_cw_257 : q_cw 257 ∈ lw_tbl := q_tb8 (List.mem_of_getElem? (i := 180) rfl)
set_option maxRecDepth 100000 in
theorem q_cw_258 : q_cw 258 ∈ lw_tbl := q_tb9 (List.mem_of_getElem? (i := 23) rfl)
set_option maxRecDepth 100000 in
theorem q_cw_259 : q_cw 259 ∈ lw_tbl := q_tb9 (List.mem_of_getElem? (i := 27) rfl)
set_option maxRecDepth 100000 in
theorem q_cwg_240 : q_conj (fun y => q_cw y ∈ lw_tbl) 240 20 := ⟨q_cw_240, q_cw_241, q_cw_242, q_cw_243, q_cw_244, q_cw_245, q_cw_246, q_cw_247, q_cw_248, q_cw_249, q_cw_250, q_cw_251, q_cw_252, q_cw_253, q_cw_254, q_cw_255, q_cw_256, q_cw_257, q_cw_258, q_cw_259, trivial⟩
set_option maxRecDepth 100000 in
theorem q_dg_240 : q_conj (fun y => q_dok (q_bytes y) (q_cs.getD y []) = true) 240 20 := ⟨qd_240, qd_241, qd_242, qd_243, qd_244, qd_245, qd_246, qd_247, qd_248, qd_249, qd_250, qd_251, qd_252, qd_253, qd_254, qd_255, qd_256, qd_257, qd_258, qd_259, trivial⟩
theorem q_mw_260 : ∀ y, y < 20 → ∀ w ∈ q_mw0 (y + 260), w ∈ lw_tbl := fun y hy w hw => q_mem_of (ws := (List.range 20).flatMap fun y => q_mw0 (y + 260)) [2041, 107, 147, 2037, 106, 147, 2092, 117, 147, 2048, 108, 147, 2052, 109, 147, 2001, 98, 147, 2033, 105, 147, 2044, 147, 2013, 101, 147, 2060, 110, 147, 2005, 99, 147, 2017, 102, 147, 1989, 95, 147, 2088, 116, 147, 2084, 115, 147, 1984, 1985, 147, 2009, 100, 147, 2025, 103, 147, 2029, 104, 147, 2020, 2021, 147] (by decide +kernel) (List.mem_flatMap.mpr ⟨y, List.mem_range.mpr hy, hw⟩)
theorem q_mp_260 : ∀ y, y < 20 → q_mp (y + 260) = true := by decide +kernel
set_option maxRecDepth 100000 in
theorem q_cw_260 : q_cw 260 ∈ lw_tbl := q_tb8 (List.mem_of_getElem? (i := 228) rfl)
set_option maxRecDepth 100000 in
theorem q_cw_261 : q_cw 261 ∈ lw_tbl := q_tb8 (List.mem_of_getElem? (i := 224) rfl)
set_option maxRecDepth 100000 in
theorem q_cw_262 : q_cw 262 ∈ lw_tbl := q_tb9 (List.mem_of_getElem? (i := 39) rfl)
set_option maxRecDepth 100000 in
theorem q_cw_263 : q_cw 263 ∈ lw_tbl := q_tb8 (List.mem_of_getElem? (i := 235) rfl)
set_option maxRecDepth 100000 in
theorem q_cw_264 : q_cw 264 ∈ lw_tbl := q_tb8 (List.mem_of_getElem? (i := 239) rfl)
set_option maxRecDepth 100000 in
theorem q_cw_265 : q_cw 265 ∈ lw_tbl := q_tb8 (List.mem_of_getElem? (i := 188) rfl)
set_option maxRecDepth 100000 in
theorem q_cw_266 : q_cw 266 ∈ lw_tbl := q_tb8 (List.mem_of_getElem? (i := 220) rfl)
set_option maxRecDepth 100000 in
theorem q_cw_267 : q_cw 267 ∈ lw_tbl := q_tb8 (List.mem_of_getElem? (i := 231) rfl)
set_option maxRecDepth 100000 in
theorem q_cw_268 : q_cw 268 ∈ lw_tbl := q_tb8 (List.mem_of_getElem? (i := 200) rfl)
set_option maxRecDepth 100000 in
theorem q_cw_269 : q_cw 269 ∈ lw_tbl := q_tb9 (List.mem_of_getElem? (i := 7) rfl)
set_option maxRecDepth 100000 in
theorem q_cw_270 : q_cw 270 ∈ lw_tbl := q_tb8 (List.mem_of_getElem? (i := 192) rfl)
set_option maxRecDepth 100000 in
theorem q_cw_271 : q_cw 271 ∈ lw_tbl := q_tb8 (List.mem_of_getElem? (i := 204) rfl)
set_option maxRecDepth 100000 in
theorem q_cw_272 : q_cw 272 ∈ lw_tbl := q_tb8 (List.mem_of_getElem? (i := 176) rfl)
set_option maxRecDepth 100000 in
theorem q_cw_273 : q_cw 273 ∈ lw_tbl := q_tb9 (List.mem_of_getElem? (i := 35) rfl)
set_option maxRecDepth 100000 in
theorem q_cw_274 : q_cw 274 ∈ lw_tbl := q_tb9 (List.mem_of_getElem? (i := 31) rfl)
set_option maxRecDepth 100000 in
theorem q_cw_275 : q_cw 275 ∈ lw_tbl := q_tb8 (List.mem_of_getElem? (i := 172) rfl)
set_option maxRecDepth 100000 in
theorem q_cw_276 : q_cw 276 ∈ lw_tbl := q_tb8 (List.mem_of_getElem? (i := 196) rfl)
set_option maxRecDepth 100000 in
theorem q_cw_277 : q_cw 277 ∈ lw_tbl := q_tb8 (List.mem_of_getElem? (i := 212) rfl)
set_option maxRecDepth 100000 in
theorem q_cw_278 : q_cw 278 ∈ lw_tbl := q_tb8 (List.mem_of_getElem? (i := 216) rfl)
set_option maxRecDepth 100000 in
theorem q_cw_279 : q_cw 279 ∈ lw_tbl := q_tb8 (List.mem_of_getElem? (i := 208) rfl)
set_option maxRecDepth 100000 in
theorem q_cwg_260 : q_conj (fun y => q_cw y ∈ lw_tbl) 260 20 := ⟨q_cw_260, q_cw_261, q_cw_262, q_cw_263, q_cw_264, q_cw_265, q_cw_266, q_cw_267, q_cw_268, q_cw_269, q_cw_270, q_cw_271, q_cw_272, q_cw_273, q_cw_274, q_cw_275, q_cw_276, q_cw_277, q_cw_278, q_cw_279, trivial⟩
set_option maxRecDepth 100000 in
theorem q_dg_260 : q_conj (fun y => q_dok (q_bytes y) (q_cs.getD y []) = true) 260 20 := ⟨qd_260, qd_261, qd_262, qd_263, qd_264, qd_265, qd_266, qd_267, qd_268, qd_269, qd_270, qd_271, qd_272, qd_273, qd_274, qd_275, qd_276, qd_277, qd_278, qd_279, trivial⟩
theorem q_mw_280 : ∀ y, y < 20 → ∀ w ∈ q_mw0 (y + 280), w ∈ lw_tbl := fun y hy w hw => q_mem_of (ws := (List.range 20).flatMap fun y => q_mw0 (y + 280)) [2055, 2056, 147, 2064, 111, 147, 2072, 112, 147, 2163, 130, 147, 2067, 2068, 147, 2096, 118, 147, 2104, 119, 147, 2112, 121, 147, 2127, 147, 2120, 123, 147, 2124, 124, 147, 2108, 120, 147, 2099, 2100, 147, 2116, 122, 147, 2135, 125, 147, 2130, 2131, 147, 2151, 128, 147, 2143, 126, 147, 2147, 127, 147, 2155, 129, 147] (by decide +kernel) (List.mem_flatMap.mpr ⟨y, List.mem_range.mpr hy, hw⟩)
theorem q_mp_280 : ∀ y, y < 20 → q_mp (y + 280) = true := by decide +kernel
set_option maxRecDepth 100000 in
theorem q_cw_280 : q_cw 280 ∈ lw_tbl := q_tb9 (List.mem_of_getElem? (i := 3) rfl)
set_option maxRecDepth 100000 in
theorem q_cw_281 : q_cw 281 ∈ lw_tbl := q_tb9 (List.mem_of_getElem? (i := 11) rfl)
set_option maxRecDepth 100000 in
theorem q_cw_282 : q_cw 282 ∈ lw_tbl := q_tb9 (List.mem_of_getElem? (i := 19) rfl)
set_option maxRecDepth 100000 in
theorem q_cw_283 : q_cw 283 ∈ lw_tbl := q_tb9 (List.mem_of_getElem? (i := 110) rfl)
set_option maxRecDepth 100000 in
theorem q_cw_284 : q_cw 284 ∈ lw_tbl := q_tb9 (List.mem_of_getElem? (i := 15) rfl)
set_option maxRecDepth 100000 in
theorem q_cw_285 : q_cw 285 ∈ lw_tbl := q_tb9 (List.mem_of_getElem? (i := 43) rfl)
set_option maxRecDepth 100000 in
theorem q_cw_286 : q_cw 286 ∈ lw_tbl := q_tb9 (List.mem_of_getElem? (i := 51) rfl)
set_option maxRecDepth 100000 in
theorem q_cw_287 : q_cw 287 ∈ lw_tbl := q_tb9 (List.mem_of_getElem? (i := 59) rfl)
set_option maxRecDepth 100000 in
theorem q_cw_288 : q_cw 288 ∈ lw_tbl := q_tb9 (List.mem_of_getElem? (i := 74) rfl)
set_option maxRecDepth 100000 in
theorem q_cw_289 : q_cw 289 ∈ lw_tbl := q_tb9 (List.mem_of_getElem? (i := 67) rfl)
set_option maxRecDepth 100000 in
theorem q_cw_290 : q_cw 290 ∈ lw_tbl := q_tb9 (List.mem_of_getElem? (i := 71) rfl)
set_option maxRecDepth 100000 in
theorem q_cw_291 : q_cw 291 ∈ lw_tbl := q_tb9 (List.mem_of_getElem? (i := 55) rfl)
set_option maxRecDepth 100000 in
theorem q_cw_292 : q_cw 292 ∈ lw_tbl := q_tb9 (List.mem_of_getElem? (i := 47) rfl)
set_option maxRecDepth 100000 in
theorem q_cw_293 : q_cw 293 ∈ lw_tbl := q_tb9 (List.mem_of_getElem? (i := 63) rfl)
set_option maxRecDepth 100000 in
theorem q_cw_294 : q_cw 294 ∈ lw_tbl := q_tb9 (List.mem_of_getElem? (i := 82) rfl)
set_option maxRecDepth 100000 in
theorem q_cw_295 : q_cw 295 ∈ lw_tbl := q_tb9 (List.mem_of_getElem? (i := 78) rfl)
set_option maxRecDepth 100000 in
theorem q_cw_296 : q_cw 296 ∈ lw_tbl := q_tb9 (List.mem_of_getElem? (i := 98) rfl)
set_option maxRecDepth 100000 in
theorem q_cw_297 : q_cw 297 ∈ lw_tbl := q_tb9 (List.mem_of_getElem? (i := 90) rfl)
set_option maxRecDepth 100000 in
theorem q_cw_298 : q_cw 298 ∈ lw_tbl := q_tb9 (List.mem_of_getElem? (i := 94) rfl)
set_option maxRecDepth 100000 in
theorem q_cw_299 : q_cw 299 ∈ lw_tbl := q_tb9 (List.mem_of_getElem? (i := 102) rfl)
set_option maxRecDepth 100000 in
theorem q_cwg_280 : q_conj (fun y => q_cw y ∈ lw_tbl) 280 20 := ⟨q_cw_280, q_cw_281, q_cw_282, q_cw_283, q_cw_284, q_cw_285, q_cw_286, q_cw_287, q_cw_288, q_cw_289, q_cw_290, q_cw_291, q_cw_292, q_cw_293, q_cw_294, q_cw_295, q_cw_296, q_cw_297, q_cw_298, q_cw_299, trivial⟩
set_option maxRecDepth 100000 in
theorem q_dg_280 : q_conj (fun y => q_dok (q_bytes y) (q_cs.getD y []) = true) 280 20 := ⟨qd_280, qd_281, qd_282, qd_283, qd_284, qd_285, qd_286, qd_287, qd_288, qd_289, qd_290, qd_291, qd_292, qd_293, qd_294, qd_295, qd_296, qd_297, qd_298, qd_299, trivial⟩
theorem q_mw_300 : ∀ y, y < 20 → ∀ w ∈ q_mw0 (y + 300), w ∈ lw_tbl := fun y hy w hw => q_mem_of (ws := (List.range 20).flatMap fun y => q_mw0 (y + 300)) [2138, 2139, 147, 2158, 2159, 147, 2171, 131, 147, 2166, 2167, 147, 2175, 132, 147, 2179, 133, 147, 2182, 2183, 147, 2186, 2187, 147, 2190, 2191, 147, 1004, 156, 673, 134, 764, 134, 792, 134, 799, 134, 827, 134, 834, 134, 845, 134, 853, 134, 869, 134, 877, 134] (by decide +kernel) (List.mem_flatMap.mpr ⟨y, List.mem_range.mpr hy, hw⟩)
theorem q_mp_300 : ∀ y, y < 20 → q_mp (y + 300) = true := by decide +kernel
set_option maxRecDepth 100000 in
theorem q_cw_300 : q_cw 300 ∈ lw_tbl := q_tb9 (List.mem_of_getElem? (i := 86) rfl)
set_option maxRecDepth 100000 in
theorem q_cw_301 : q_cw 301 ∈ lw_tbl := q_tb9 (List.mem_of_getElem? (i := 106) rfl)
set_option maxRecDepth 100000 in
theorem q_cw_302 : q_cw 302 ∈ lw_tbl := q_tb9 (List.mem_of_getElem? (i := 118) rfl)
set_option maxRecDepth 100000 in
theorem q_cw_303 : q_cw 303 ∈ lw_tbl := q_tb9 (List.mem_of_getElem? (i := 114) rfl)
set_option maxRecDepth 100000 in
theorem q_cw_304 : q_cw 304 ∈ lw_tbl := q_tb9 (List.mem_of_getElem? (i := 122) rfl)
set_option maxRecDepth 100000 in
theorem q_cw_305 : q_cw 305 ∈ lw_tbl := q_tb9 (List.mem_of_getElem? (i := 126) rfl)
set_option maxRecDepth 100000 in
theorem q_cw_306 : q_cw 306 ∈ lw_tbl := q_tb9 (List.mem_of_getElem? (i := 130) rfl)
set_option maxRecDepth 100000 in
theorem q_cw_307 : q_cw 307 ∈ lw_tbl := q_tb9 (List.mem_of_getElem? (i := 134) rfl)
set_option maxRecDepth 100000 in
theorem q_cw_308 : q_cw 308 ∈ lw_tbl := q_tb9 (List.mem_of_getElem? (i := 138) rfl)
set_option maxRecDepth 100000 in
theorem q_cw_309 : q_cw 309 ∈ lw_tbl := q_tb4 (List.mem_of_getElem? (i := 151) rfl)
set_option maxRecDepth 100000 in
theorem q_cw_310 : q_cw 310 ∈ lw_tbl := q_tb3 (List.mem_of_getElem? (i := 60) rfl)
set_option maxRecDepth 100000 in
theorem q_cw_311 : q_cw 311 ∈ lw_tbl := q_tb3 (List.mem_of_getElem? (i := 151) rfl)
set_option maxRecDepth 100000 in
theorem q_cw_312 : q_cw 312 ∈ lw_tbl := q_tb3 (List.mem_of_getElem? (i := 179) rfl)
set_option maxRecDepth 100000 in
theorem q_cw_313 : q_cw 313 ∈ lw_tbl := q_tb3 (List.mem_of_getElem? (i := 186) rfl)
set_option maxRecDepth 100000 in
theorem q_cw_314 : q_cw 314 ∈ lw_tbl := q_tb3 (List.mem_of_getElem? (i := 214) rfl)
set_option maxRecDepth 100000 in
theorem q_cw_315 : q_cw 315 ∈ lw_tbl := q_tb3 (List.mem_of_getElem? (i := 221) rfl)
set_option maxRecDepth 100000 in
theorem q_cw_316 : q_cw 316 ∈ lw_tbl := q_tb3 (List.mem_of_getElem? (i := 232) rfl)
set_option maxRecDepth 100000 in
theorem q_cw_317 : q_cw 317 ∈ lw_tbl := q_tb4 (List.mem_of_getElem? (i := 0) rfl)
set_option maxRecDepth 100000 in
theorem q_cw_318 : q_cw 318 ∈ lw_tbl := q_tb4 (List.mem_of_getElem? (i := 16) rfl)
set_option maxRecDepth 100000 in
theorem q_cw_319 : q_cw 319 ∈ lw_tbl := q_tb4 (List.mem_of_getElem? (i := 24) rfl)
set_option maxRecDepth 100000 in
theorem q_cwg_300 : q_conj (fun y => q_cw y ∈ lw_tbl) 300 20 := ⟨q_cw_300, q_cw_301, q_cw_302, q_cw_303, q_cw_304, q_cw_305, q_cw_306, q_cw_307, q_cw_308, q_cw_309, q_cw_310, q_cw_311, q_cw_312, q_cw_313, q_cw_314, q_cw_315, q_cw_316, q_cw_317, q_cw_318, q_cw_319, trivial⟩
set_option maxRecDepth 100000 in
theorem q_dg_300 : q_conj (fun y => q_dok (q_bytes y) (q_cs.getD y []) = true) 300 20 := ⟨qd_300, qd_301, qd_302, qd_303, qd_304, qd_305, qd_306, qd_307, qd_308, qd_309, qd_310, qd_311, qd_312, qd_313, qd_314, qd_315, qd_316, qd_317, qd_318, qd_319, trivial⟩
theorem q_mw_320 : ∀ y, y < 20 → ∀ w ∈ q_mw0 (y + 320), w ∈ lw_tbl := fun y hy w hw => q_mem_of (ws := (List.range 20).flatMap fun y => q_mw0 (y + 320)) [884, 134, 891, 134, 903, 134, 927, 134, 975, 134, 1010, 134, 1068, 134, 1120, 134, 1166, 134, 1232, 134, 1282, 134, 1307, 134, 1341, 134, 1354, 134, 1389, 134, 1408, 134, 1420, 134, 1428, 134, 1438, 134, 1446, 134] (by decide +kernel) (List.mem_flatMap.mpr ⟨y, List.mem_range.mpr hy, hw⟩)
theorem q_mp_320 : ∀ y, y < 20 → q_mp (y + 320) = true := by decide +kernel
set_option maxRecDepth 100000 in
theorem q_cw_320 : q_cw 320 ∈ lw_tbl := q_tb4 (List.mem_of_getElem? (i := 31) rfl)
set_option maxRecDepth 100000 in
theorem q_cw_321 : q_cw 321 ∈ lw_tbl := q_tb4 (List.mem_of_getElem? (i := 38) rfl)
set_option maxRecDepth 100000 in
theorem q_cw_322 : q_cw 322 ∈ lw_tbl := q_tb4 (List.mem_of_getElem? (i := 50) rfl)
set_option maxRecDepth 100000 in
theorem q_cw_323 : q_cw 323 ∈ lw_tbl := q_tb4 (List.mem_of_getElem? (i := 74) rfl)
set_option maxRecDepth 100000 in
theorem q_cw_324 : q_cw 324 ∈ lw_tbl := q_tb4 (List.mem_of_getElem? (i := 122) rfl)
set_option maxRecDepth 100000 in
theorem q_cw_325 : q_cw 325 ∈ lw_tbl := q_tb4 (List.mem_of_getElem? (i := 157) rfl)
set_option maxRecDepth 100000 in
theorem q_cw_326 : q_cw 326 ∈ lw_tbl := q_tb4 (List.mem_of_getElem? (i := 215) rfl)
set_option maxRecDepth 100000 in
theorem q_cw_327 : q_cw 327 ∈ lw_tbl := q_tb5 (List.mem_of_getElem? (i := 27) rfl)
set_option maxRecDepth 100000 in
theorem q_cw_328 : q_cw 328 ∈ lw_tbl := q_tb5 (List.mem_of_getElem? (i := 73) rfl)
set_option maxRecDepth 100000 in
theorem q_cw_329 : q_cw 329 ∈ lw_tbl := q_tb5 (List.mem_of_getElem? (i := 139) rfl)
set_option maxRecDepth 100000 in
theorem q_cw_330 : q_cw 330 ∈ lw_tbl := q_tb5 (List.mem_of_getElem? (i := 189) rfl)
set_option maxRecDepth 100000 in
theorem q_cw_331 : q_cw 331 ∈ lw_tbl := q_tb5 (List.mem_of_getElem? (i := 214) rfl)
set_option maxRecDepth 100000 in
theorem q_cw_332 : q_cw 332 ∈ lw_tbl := q_tb6 (List.mem_of_getElem? (i := 8) rfl)
set_option maxRecDepth 100000 in
theorem q_cw_333 : q_cw 333 ∈ lw_tbl := q_tb6 (List.mem_of_getElem? (i := 21) rfl)
set_option maxRecDepth 100000 in
theorem q_cw_334 : q_cw 334 ∈ lw_tbl := q_tb6 (List.mem_of_getElem? (i := 56) rfl)
set_option maxRecDepth 100000 in
theorem q_cw_335 : q_cw 335 ∈ lw_tbl := q_tb6 (List.mem_of_getElem? (i := 75) rfl)
set_option maxRecDepth 100000 in
theorem q_cw_336 : q_cw 336 ∈ lw_tbl := q_tb6 (List.mem_of_getElem? (i := 87) rfl)
set_option maxRecDepth 100000 in
theorem q_cw_337 : q_cw 337 ∈ lw_tbl := q_tb6 (List.mem_of_getElem? (i := 95) rfl)
set_option maxRecDepth 100000 in
theorem q_cw_338 : q_cw 338 ∈ lw_tbl := q_tb6 (List.mem_of_getElem? (i := 105) rfl)
set_option maxRecDepth 100000 in
theorem q_cw_339 : q_cw 339 ∈ lw_tbl := q_tb6 (List.mem_of_getElem? (i := 113) rfl)
set_option maxRecDepth 100000 in
theorem q_cwg_320 : q_conj (fun y => q_cw y ∈ lw_tbl) 320 20 := ⟨q_cw_320, q_cw_321, q_cw_322, q_cw_323, q_cw_324, q_cw_325, q_cw_326, q_cw_327, q_cw_328, q_cw_329, q_cw_330, q_cw_331, q_cw_332, q_cw_333, q_cw_334, q_cw_335, q_cw_336, q_cw_337, q_cw_338, q_cw_339, trivial⟩
set_option maxRecDepth 100000 in
theorem q_dg_320 : q_conj (fun y => q_dok (q_bytes y) (q_cs.getD y []) = true) 320 20 := ⟨qd_320, qd_321, qd_322, qd_323, qd_324, qd_325, qd_326, qd_327, qd_328, qd_329, qd_330, qd_331, qd_332, qd_333, qd_334, qd_335, qd_336, qd_337, qd_338, qd_339, trivial⟩
theorem q_mws0 : ∀ y, y < 340 → ∀ w ∈ q_mw0 y, w ∈ lw_tbl := by
  intro y hy
  have key : ∀ k n : Nat, (∀ y, y < n → ∀ w ∈ q_mw0 (y + k), w ∈ lw_tbl) → k ≤ y → y < k + n → ∀ w ∈ q_mw0 y, w ∈ lw_tbl := fun k n h h1 h2 => by
    have := h (y - k) (by omega)
    rwa [Nat.sub_add_cancel h1] at this
  rcases Nat.lt_or_ge y 20 with h0 | h0
  · exact key 0 20 q_mw_0 (by omega) (by omega)
  rcases Nat.lt_or_ge y 40 with h20 | h20
  · exact key 20 20 q_mw_20 (by omega) (by omega)
  rcases Nat.lt_or_ge y 60 with h40 | h40
  · exact key 40 20 q_mw_40 (by omega) (by omega)
  rcases Nat.lt_or_ge y 80 with h60 | h60
  · exact key 60 20 q_mw_60 (by omega) (by omega)
  rcases Nat.lt_or_ge y 100 with h80 | h80
  · exact key 80 20 q_mw_80 (by omega) (by omega)
  rcases Nat.lt_or_ge y 120 with h100 | h100
  · exact key 100 20 q_mw_100 (by omega) (by omega)
  rcases Nat.lt_or_ge y 140 with h120 | h120
  · exact key 120 20 q_mw_120 (by omega) (by omega)
  rcases Nat.lt_or_ge y 160 with h140 | h140
  · exact key 140 20 q_mw_140 (by omega) (by omega)
  rcases Nat.lt_or_ge y 180 with h160 | h160
  · exact key 160 20 q_mw_160 (by omega) (by omega)
  rcases Nat.lt_or_ge y 200 with h180 | h180
  · exact key 180 20 q_mw_180 (by omega) (by omega)
  rcases Nat.lt_or_ge y 220 with h200 | h200
  · exact key 200 20 q_mw_200 (by omega) (by omega)
  rcases Nat.lt_or_ge y 240 with h220 | h220
  · exact key 220 20 q_mw_220 (by omega) (by omega)
  rcases Nat.lt_or_ge y 260 with h240 | h240
  · exact key 240 20 q_mw_240 (by omega) (by omega)
  rcases Nat.lt_or_ge y 280 with h260 | h260
  · exact key 260 20 q_mw_260 (by omega) (by omega)
  rcases Nat.lt_or_ge y 300 with h280 | h280
  · exact key 280 20 q_mw_280 (by omega) (by omega)
  rcases Nat.lt_or_ge y 320 with h300 | h300
  · exact key 300 20 q_mw_300 (by omega) (by omega)
  rcases Nat.lt_or_ge y 340 with h320 | h320
  · exact key 320 20 q_mw_320 (by omega) (by omega)
  omega
theorem q_mps : ∀ y, y < 340 → q_mp y = true := by
  intro y hy
  have key : ∀ k n : Nat, (∀ y, y < n → q_mp (y + k) = true) → k ≤ y → y < k + n → q_mp y = true := fun k n h h1 h2 => by
    have := h (y - k) (by omega)
    rwa [Nat.sub_add_cancel h1] at this
  rcases Nat.lt_or_ge y 20 with h0 | h0
  · exact key 0 20 q_mp_0 (by omega) (by omega)
  rcases Nat.lt_or_ge y 40 with h20 | h20
  · exact key 20 20 q_mp_20 (by omega) (by omega)
  rcases Nat.lt_or_ge y 60 with h40 | h40
  · exact key 40 20 q_mp_40 (by omega) (by omega)
  rcases Nat.lt_or_ge y 80 with h60 | h60
  · exact key 60 20 q_mp_60 (by omega) (by omega)
  rcases Nat.lt_or_ge y 100 with h80 | h80
  · exact key 80 20 q_mp_80 (by omega) (by omega)
  rcases Nat.lt_or_ge y 120 with h100 | h100
  · exact key 100 20 q_mp_100 (by omega) (by omega)
  rcases Nat.lt_or_ge y 140 with h120 | h120
  · exact key 120 20 q_mp_120 (by omega) (by omega)
  rcases Nat.lt_or_ge y 160 with h140 | h140
  · exact key 140 20 q_mp_140 (by omega) (by omega)
  rcases Nat.lt_or_ge y 180 with h160 | h160
  · exact key 160 20 q_mp_160 (by omega) (by omega)
  rcases Nat.lt_or_ge y 200 with h180 | h180
  · exact key 180 20 q_mp_180 (by omega) (by omega)
  rcases Nat.lt_or_ge y 220 with h200 | h200
  · exact key 200 20 q_mp_200 (by omega) (by omega)
  rcases Nat.lt_or_ge y 240 with h220 | h220
  · exact key 220 20 q_mp_220 (by omega) (by omega)
  rcases Nat.lt_or_ge y 260 with h240 | h240
  · exact key 240 20 q_mp_240 (by omega) (by omega)
  rcases Nat.lt_or_ge y 280 with h260 | h260
  · exact key 260 20 q_mp_260 (by omega) (by omega)
  rcases Nat.lt_or_ge y 300 with h280 | h280
  · exact key 280 20 q_mp_280 (by omega) (by omega)
  rcases Nat.lt_or_ge y 320 with h300 | h300
  · exact key 300 20 q_mp_300 (by omega) (by omega)
  rcases Nat.lt_or_ge y 340 with h320 | h320
  · exact key 320 20 q_mp_320 (by omega) (by omega)
  omega
theorem q_cws : ∀ y, y < 340 → q_cw y ∈ lw_tbl := by
  intro y hy
  rcases Nat.lt_or_ge y 20 with h0 | h0
  · exact q_conj_at (P := fun y => q_cw y ∈ lw_tbl) 20 0 y q_cwg_0 (by omega) (by omega)
  rcases Nat.lt_or_ge y 40 with h20 | h20
  · exact q_conj_at (P := fun y => q_cw y ∈ lw_tbl) 20 20 y q_cwg_20 (by omega) (by omega)
  rcases Nat.lt_or_ge y 60 with h40 | h40
  · exact q_conj_at (P := fun y => q_cw y ∈ lw_tbl) 20 40 y q_cwg_40 (by omega) (by omega)
  rcases Nat.lt_or_ge y 80 with h60 | h60
  · exact q_conj_at (P := fun y => q_cw y ∈ lw_tbl) 20 60 y q_cwg_60 (by omega) (by omega)
  rcases Nat.lt_or_ge y 100 with h80 | h80
  · exact q_conj_at (P := fun y => q_cw y ∈ lw_tbl) 20 80 y q_cwg_80 (by omega) (by omega)
  rcases Nat.lt_or_ge y 120 with h100 | h100
  · exact q_conj_at (P := fun y => q_cw y ∈ lw_tbl) 20 100 y q_cwg_100 (by omega) (by omega)
  rcases Nat.lt_or_ge y 140 with h120 | h120
  · exact q_conj_at (P := fun y => q_cw y ∈ lw_tbl) 20 120 y q_cwg_120 (by omega) (by omega)
  rcases Nat.lt_or_ge y 160 with h140 | h140
  · exact q_conj_at (P := fun y => q_cw y ∈ lw_tbl) 20 140 y q_cwg_140 (by omega) (by omega)
  rcases Nat.lt_or_ge y 180 with h160 | h160
  · exact q_conj_at (P := fun y => q_cw y ∈ lw_tbl) 20 160 y q_cwg_160 (by omega) (by omega)
  rcases Nat.lt_or_ge y 200 with h180 | h180
  · exact q_conj_at (P := fun y => q_cw y ∈ lw_tbl) 20 180 y q_cwg_180 (by omega) (by omega)
  rcases Nat.lt_or_ge y 220 with h200 | h200
  · exact q_conj_at (P := fun y => q_cw y ∈ lw_tbl) 20 200 y q_cwg_200 (by omega) (by omega)
  rcases Nat.lt_or_ge y 240 with h220 | h220
  · exact q_conj_at (P := fun y => q_cw y ∈ lw_tbl) 20 220 y q_cwg_220 (by omega) (by omega)
  rcases Nat.lt_or_ge y 260 with h240 | h240
  · exact q_conj_at (P := fun y => q_cw y ∈ lw_tbl) 20 240 y q_cwg_240 (by omega) (by omega)
  rcases Nat.lt_or_ge y 280 with h260 | h260
  · exact q_conj_at (P := fun y => q_cw y ∈ lw_tbl) 20 260 y q_cwg_260 (by omega) (by omega)
  rcases Nat.lt_or_ge y 300 with h280 | h280
  · exact q_conj_at (P := fun y => q_cw y ∈ lw_tbl) 20 280 y q_cwg_280 (by omega) (by omega)
  rcases Nat.lt_or_ge y 320 with h300 | h300
  · exact q_conj_at (P := fun y => q_cw y ∈ lw_tbl) 20 300 y q_cwg_300 (by omega) (by omega)
  rcases Nat.lt_or_ge y 340 with h320 | h320
  · exact q_conj_at (P := fun y => q_cw y ∈ lw_tbl) 20 320 y q_cwg_320 (by omega) (by omega)
  omega
theorem q_dall : ∀ y, y < 340 → q_dok (q_bytes y) (q_cs.getD y []) = true := by
  intro y hy
  rcases Nat.lt_or_ge y 20 with h0 | h0
  · exact q_conj_at (P := fun y => q_dok (q_bytes y) (q_cs.getD y []) = true) 20 0 y q_dg_0 (by omega) (by omega)
  rcases Nat.lt_or_ge y 40 with h20 | h20
  · exact q_conj_at (P := fun y => q_dok (q_bytes y) (q_cs.getD y []) = true) 20 20 y q_dg_20 (by omega) (by omega)
  rcases Nat.lt_or_ge y 60 with h40 | h40
  · exact q_conj_at (P := fun y => q_dok (q_bytes y) (q_cs.getD y []) = true) 20 40 y q_dg_40 (by omega) (by omega)
  rcases Nat.lt_or_ge y 80 with h60 | h60
  · exact q_conj_at (P := fun y => q_dok (q_bytes y) (q_cs.getD y []) = true) 20 60 y q_dg_60 (by omega) (by omega)
  rcases Nat.lt_or_ge y 100 with h80 | h80
  · exact q_conj_at (P := fun y => q_dok (q_bytes y) (q_cs.getD y []) = true) 20 80 y q_dg_80 (by omega) (by omega)
  rcases Nat.lt_or_ge y 120 with h100 | h100
  · exact q_conj_at (P := fun y => q_dok (q_bytes y) (q_cs.getD y []) = true) 20 100 y q_dg_100 (by omega) (by omega)
  rcases Nat.lt_or_ge y 140 with h120 | h120
  · exact q_conj_at (P := fun y => q_dok (q_bytes y) (q_cs.getD y []) = true) 20 120 y q_dg_120 (by omega) (by omega)
  rcases Nat.lt_or_ge y 160 with h140 | h140
  · exact q_conj_at (P := fun y => q_dok (q_bytes y) (q_cs.getD y []) = true) 20 140 y q_dg_140 (by omega) (by omega)
  rcases Nat.lt_or_ge y 180 with h160 | h160
  · exact q_conj_at (P := fun y => q_dok (q_bytes y) (q_cs.getD y []) = true) 20 160 y q_dg_160 (by omega) (by omega)
  rcases Nat.lt_or_ge y 200 with h180 | h180
  · exact q_conj_at (P := fun y => q_dok (q_bytes y) (q_cs.getD y []) = true) 20 180 y q_dg_180 (by omega) (by omega)
  rcases Nat.lt_or_ge y 220 with h200 | h200
  · exact q_conj_at (P := fun y => q_dok (q_bytes y) (q_cs.getD y []) = true) 20 200 y q_dg_200 (by omega) (by omega)
  rcases Nat.lt_or_ge y 240 with h220 | h220
  · exact q_conj_at (P := fun y => q_dok (q_bytes y) (q_cs.getD y []) = true) 20 220 y q_dg_220 (by omega) (by omega)
  rcases Nat.lt_or_ge y 260 with h240 | h240
  · exact q_conj_at (P := fun y => q_dok (q_bytes y) (q_cs.getD y []) = true) 20 240 y q_dg_240 (by omega) (by omega)
  rcases Nat.lt_or_ge y 280 with h260 | h260
  · exact q_conj_at (P := fun y => q_dok (q_bytes y) (q_cs.getD y []) = true) 20 260 y q_dg_260 (by omega) (by omega)
  rcases Nat.lt_or_ge y 300 with h280 | h280
  · exact q_conj_at (P := fun y => q_dok (q_bytes y) (q_cs.getD y []) = true) 20 280 y q_dg_280 (by omega) (by omega)
  rcases Nat.lt_or_ge y 320 with h300 | h300
  · exact q_conj_at (P := fun y => q_dok (q_bytes y) (q_cs.getD y []) = true) 20 300 y q_dg_300 (by omega) (by omega)
  rcases Nat.lt_or_ge y 340 with h320 | h320
  · exact q_conj_at (P := fun y => q_dok (q_bytes y) (q_cs.getD y []) = true) 20 320 y q_dg_320 (by omega) (by omega)
  omega
theorem q_mws : ∀ y, y < 340 → ∀ w ∈ q_mw y, w ∈ lw_tbl := fun y hy w hw => (List.mem_append.mp hw).elim (fun h => q_mws0 y hy w h) (fun h => by rw [List.mem_singleton.mp h]; exact q_cws y hy)
