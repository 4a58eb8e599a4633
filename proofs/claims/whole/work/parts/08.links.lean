/-! the tables are what the program is: decode rows, links, words of the methods; all by the kernel -/
def q_bs : List ByteArray := [prog_2_method_1_code, prog_2_method_2_code, prog_2_method_3_code, prog_2_method_4_code, prog_2_method_5_code, prog_2_method_6_code, prog_2_method_7_code, prog_2_method_8_code, prog_2_method_9_code, prog_2_method_10_code, prog_2_method_11_code, prog_2_method_12_code, prog_2_method_13_code, prog_2_method_14_code, prog_2_method_15_code, prog_2_method_16_code, prog_2_method_17_code, prog_2_method_18_code, prog_2_method_19_code, prog_2_method_20_code, prog_3_method_1_code, prog_3_method_2_code, prog_3_method_3_code, prog_3_method_4_code, prog_3_method_5_code, prog_3_method_6_code, prog_3_method_7_code, prog_3_method_8_code, prog_3_method_9_code, prog_3_method_10_code, prog_4_method_1_code, prog_4_method_2_code, prog_4_method_3_code, prog_4_method_4_code, prog_4_method_5_code, prog_5_method_1_code, prog_5_method_2_code, prog_5_method_3_code, prog_5_method_4_code, prog_6_method_1_code, prog_6_method_2_code, prog_6_method_3_code, prog_6_method_4_code, prog_7_method_1_code, prog_7_method_2_code, prog_7_method_3_code, prog_7_method_4_code, prog_7_method_5_code, prog_7_method_6_code, prog_7_method_7_code, prog_7_method_8_code, prog_7_method_9_code, prog_7_method_10_code, prog_7_method_11_code, prog_7_method_12_code, prog_7_method_13_code, prog_7_method_14_code, prog_7_method_15_code, prog_7_method_16_code, prog_8_method_1_code, prog_8_method_2_code, prog_8_method_3_code, prog_8_method_4_code, prog_8_method_5_code, prog_8_method_6_code, prog_8_method_7_code, prog_8_method_8_code, prog_8_method_9_code, prog_8_method_10_code, prog_9_method_1_code, prog_9_method_2_code, prog_9_method_3_code, prog_9_method_4_code, prog_9_method_5_code, prog_9_method_6_code, prog_9_method_7_code, prog_9_method_8_code, prog_9_method_9_code, prog_9_method_10_code, prog_9_method_11_code, prog_9_method_12_code, prog_9_method_13_code, prog_9_method_14_code, prog_9_method_15_code, prog_9_method_16_code, prog_9_method_17_code, prog_9_method_18_code, prog_9_method_19_code, prog_9_method_20_code, prog_9_method_21_code, prog_9_method_22_code, prog_9_method_23_code, prog_9_method_24_code, prog_9_method_25_code, prog_9_method_26_code, prog_9_method_27_code, prog_9_method_28_code, prog_9_method_29_code, prog_9_method_30_code, prog_9_method_31_code, prog_9_method_32_code, prog_9_method_33_code, prog_9_method_34_code, prog_9_method_35_code, prog_9_method_36_code, prog_10_method_1_code, prog_10_method_2_code, prog_10_method_3_code, prog_10_method_4_code, prog_10_method_5_code, prog_11_method_1_code, prog_11_method_2_code, prog_11_method_3_code, prog_11_method_4_code, prog_11_method_5_code, prog_11_method_6_code, prog_11_method_7_code, prog_11_method_8_code, prog_11_method_9_code, prog_12_method_1_code, prog_12_method_2_code, prog_12_method_3_code, prog_12_method_4_code, prog_1_method_1_code, prog_1_method_2_code, prog_1_method_3_code, prog_1_method_4_code, prog_1_method_5_code, prog_1_method_6_code, prog_1_method_7_code, prog_1_method_8_code, prog_1_method_9_code, prog_1_method_10_code, prog_1_method_11_code, prog_1_method_12_code, prog_1_method_13_code, prog_1_method_14_code, prog_1_method_15_code, prog_1_method_16_code, prog_1_method_17_code, prog_1_method_18_code, prog_1_method_19_code, prog_1_method_20_code, prog_1_method_21_code, prog_1_method_22_code, prog_1_method_23_code, prog_1_method_24_code, prog_1_method_25_code, prog_1_method_26_code, prog_1_method_27_code, prog_1_method_28_code, prog_1_method_29_code, prog_1_method_30_code, prog_1_method_31_code, prog_1_method_32_code, prog_1_method_33_code, prog_1_method_34_code, prog_1_method_35_code, prog_1_method_36_code, prog_1_method_37_code, prog_1_method_38_code, prog_1_method_39_code, prog_1_method_40_code, prog_1_method_41_code, prog_1_method_42_code, prog_1_method_43_code, prog_1_method_44_code, prog_1_method_45_code, prog_1_method_46_code, prog_1_method_47_code, prog_1_method_48_code, prog_1_method_49_code, prog_1_method_50_code, prog_1_method_51_code, prog_1_method_52_code, prog_1_method_53_code, prog_14_method_1_code, prog_14_method_2_code, prog_14_method_3_code, prog_14_method_4_code, prog_14_method_5_code, prog_14_method_6_code, prog_14_method_7_code, prog_14_method_8_code, prog_14_method_9_code, prog_14_method_10_code, prog_14_method_11_code, prog_14_method_12_code, prog_14_method_13_code, prog_14_method_14_code, prog_14_method_15_code, prog_14_method_16_code, prog_14_method_17_code, prog_14_method_18_code, prog_14_method_19_code, prog_14_method_20_code, prog_14_method_21_code, prog_14_method_22_code, prog_14_method_23_code, prog_14_method_24_code, prog_14_method_25_code, prog_14_method_26_code, prog_14_method_27_code, prog_14_method_28_code, prog_14_method_29_code, prog_14_method_30_code, prog_14_method_31_code, prog_14_method_32_code, prog_14_method_33_code, prog_14_method_34_code, prog_14_method_35_code, prog_14_method_36_code, prog_14_method_37_code, prog_14_method_38_code, prog_14_method_39_code, prog_14_method_40_code, prog_14_method_41_code, prog_14_method_42_code, prog_14_method_43_code, prog_14_method_44_code, prog_14_method_45_code, prog_14_method_46_code, prog_14_method_47_code, prog_14_method_48_code, prog_14_method_49_code, prog_14_method_50_code, prog_14_method_51_code, prog_14_method_52_code, prog_14_method_53_code, prog_14_method_54_code, prog_14_method_55_code, prog_14_method_56_code, prog_14_method_57_code, prog_14_method_58_code, prog_14_method_59_code, prog_14_method_60_code, prog_14_method_61_code, prog_14_method_62_code, prog_14_method_63_code, prog_14_method_64_code, prog_14_method_65_code, prog_14_method_66_code, prog_14_method_67_code, prog_14_method_68_code, prog_14_method_69_code, prog_14_method_70_code, prog_14_method_71_code, prog_14_method_72_code, prog_14_method_73_code, prog_14_method_74_code, prog_14_method_75_code, prog_14_method_76_code, prog_14_method_77_code, prog_14_method_78_code, prog_14_method_79_code, prog_14_method_80_code, prog_14_method_81_code, prog_14_method_82_code, prog_14_method_83_code, prog_14_method_84_code, prog_14_method_85_code, prog_14_method_86_code, prog_14_method_87_code, prog_14_method_88_code, prog_14_method_89_code, prog_14_method_90_code, prog_14_method_91_code, prog_14_method_92_code, prog_14_method_93_code, prog_14_method_94_code, prog_14_method_95_code, prog_14_method_96_code, prog_14_method_97_code, prog_14_method_98_code, prog_14_method_99_code, prog_14_method_100_code, prog_14_method_101_code, prog_14_method_102_code, prog_14_method_103_code, prog_14_method_104_code, prog_14_method_105_code, prog_14_method_106_code, prog_14_method_107_code, prog_14_method_108_code, prog_14_method_109_code, prog_14_method_110_code, prog_14_method_111_code, prog_14_method_112_code, prog_14_method_113_code, prog_14_method_114_code, prog_14_method_115_code, prog_14_method_116_code, prog_14_method_117_code, prog_14_method_118_code, prog_14_method_119_code, prog_14_method_120_code, prog_14_method_121_code, prog_14_method_122_code, prog_14_method_123_code, prog_14_method_124_code, prog_14_method_125_code, prog_14_method_126_code, prog_14_method_127_code, prog_14_method_128_code, prog_14_method_129_code, prog_14_method_130_code, prog_14_method_131_code, prog_14_method_132_code, prog_14_method_133_code, prog_19_method_49_code, method_3_code, method_4_code, method_5_code, method_6_code, method_7_code, method_8_code, method_9_code, method_10_code, method_11_code, method_12_code, method_13_code, method_14_code, method_15_code, method_16_code, method_17_code, method_18_code, method_19_code, method_20_code, method_21_code, method_22_code, method_23_code, method_24_code, method_25_code, method_26_code, method_27_code, method_28_code, method_29_code, method_30_code, method_31_code, method_32_code, code]
def q_bytes (y : Nat) : ByteArray := q_bs.getD y .empty
def q_rty (r : Nat) : Option FieldType := if r = 0 then none else if r = 1 then some .int else if r = 2 then some .boolean else some (.object "SmithyBench$Program")
def q_lw (own : Nat) (r : Nat × Nat × Nat × Nat) : List Cond := match r with
  | (cp, op, a, b) =>
    if op < 3 then [.fieldLink (q_R own) cp (q_T b a).1 (q_T b a).2.1 (q_T b a).2.2.1]
    else if op < 6 then (if b = 0 then [.methodLink (q_R own) cp (q_y a)] else if b = 1 then [.methodLinkNest (q_R own) cp (q_y a) "SmithyBench"] else if b = 10 then [.methodLink (q_R own) cp Lib.objectInit] else if b = 11 then [.methodLink (q_R own) cp Lib.Math.max.name] else if b = 12 then [.methodLink (q_R own) cp Lib.Math.min.name] else if b = 13 then [.methodLink (q_R own) cp arraycopyName] else [])
    else if op = 6 then [.classLink (q_R own) cp (q_R a)]
    else if op = 7 then [.classLink (q_R own) cp (q_R (if a = 3 then 7 else 0))]
    else [.constant (q_R own) cp (Int32.ofNat a)]
def q_LK0_0 : List (Nat × Nat × Nat × Nat) := [(3, 5, 0, 10), (9, 1, 6, 0), (15, 1, 0, 0), (19, 1, 1, 0), (22, 1, 2, 0), (25, 1, 3, 0), (28, 1, 4, 0), (31, 1, 5, 0), (34, 1, 7, 0), (37, 3, 2, 0), (41, 3, 3, 0), (45, 4, 0, 13), (51, 3, 9, 0), (55, 3, 11, 0), (59, 3, 12, 0)]
theorem q_lr0_0 : ∀ r ∈ q_LK0_0, ∀ w ∈ q_lw 0 r, w ∈ lw_tbl := fun r hr w hw => q_mem_of (ws := q_LK0_0.flatMap (q_lw 0)) [280, 328, 281, 291, 302, 308, 314, 320, 329, 1102, 1212, 998, 597, 1094, 1152] (by decide +kernel) (List.mem_flatMap.mpr ⟨r, hr, hw⟩)
def q_LKo0 : List (Nat × Nat × Nat × Nat) := q_LK0_0
theorem q_lro0 : ∀ r ∈ q_LKo0, ∀ w ∈ q_lw 0 r, w ∈ lw_tbl := by
  intro r h
  unfold q_LKo0 at h
  rcases h with h
  · exact q_lr0_0 r h
def q_LK1_0 : List (Nat × Nat × Nat × Nat) := [(3, 5, 0, 10), (9, 1, 0, 1), (15, 1, 14, 7), (21, 1, 13, 7), (25, 1, 11, 7), (28, 3, 79, 0), (32, 1, 9, 7), (36, 3, 23, 0), (40, 3, 22, 0), (44, 3, 93, 0), (48, 3, 94, 0), (51, 3, 8, 0), (56, 1, 7, 0), (59, 1, 3, 0), (62, 1, 5, 0), (65, 1, 4, 0), (68, 4, 24, 0), (72, 1, 8, 7), (75, 3, 84, 0), (78, 3, 9, 0), (82, 1, 0, 0), (85, 4, 27, 0), (88, 1, 3, 7), (91, 4, 28, 0), (95, 4, 29, 0), (98, 1, 1, 0), (101, 4, 25, 0), (104, 4, 26, 0), (108, 3, 10, 0), (111, 3, 98, 0), (114, 3, 86, 0), (117, 1, 7, 7), (120, 3, 85, 0), (123, 1, 2, 0), (126, 3, 90, 0)]
theorem q_lr1_0 : ∀ r ∈ q_LK1_0, ∀ w ∈ q_lw 1 r, w ∈ lw_tbl := fun r hr w hw => q_mem_of (ws := q_LK1_0.flatMap (q_lw 1)) [201, 202, 500, 498, 489, 585, 478, 589, 644, 648, 660, 593, 333, 312, 323, 316, 601, 473, 624, 604, 286, 605, 453, 628, 631, 297, 638, 641, 608, 612, 616, 469, 620, 307, 634] (by decide +kernel) (List.mem_flatMap.mpr ⟨r, hr, hw⟩)
def q_LKo1 : List (Nat × Nat × Nat × Nat) := q_LK1_0
theorem q_lro1 : ∀ r ∈ q_LKo1, ∀ w ∈ q_lw 1 r, w ∈ lw_tbl := by
  intro r h
  unfold q_LKo1 at h
  rcases h with h
  · exact q_lr1_0 r h
def q_LK2_0 : List (Nat × Nat × Nat × Nat) := [(3, 5, 0, 10), (9, 6, 0, 0), (11, 5, 0, 0), (14, 1, 0, 2), (20, 6, 4, 0), (22, 5, 39, 1), (23, 1, 1, 2), (27, 1, 2, 2), (30, 1, 9, 7), (36, 1, 4, 0), (40, 3, 32, 0), (44, 1, 3, 4), (48, 1, 3, 7), (51, 3, 91, 0), (55, 1, 11, 7), (58, 3, 74, 0), (62, 1, 1, 4), (65, 1, 2, 4), (66, 3, 75, 0), (70, 1, 3, 0), (73, 3, 6, 0), (77, 3, 79, 0), (81, 3, 33, 0), (85, 3, 7, 0), (89, 3, 14, 0), (93, 1, 0, 0), (96, 3, 41, 0), (100, 3, 1, 0), (103, 1, 7, 0), (106, 3, 34, 0), (110, 3, 3, 0), (114, 3, 2, 0), (117, 1, 2, 0), (120, 1, 5, 0), (123, 3, 40, 0), (127, 1, 1, 0), (130, 3, 42, 0)]
theorem q_lr2_0 : ∀ r ∈ q_LK2_0, ∀ w ∈ q_lw 2 r, w ∈ lw_tbl := fun r hr w hw => q_mem_of (ws := q_LK2_0.flatMap (q_lw 2)) [379, 380, 381, 404, 382, 384, 405, 406, 477, 315, 1242, 394, 452, 1259, 492, 1260, 390, 392, 1261, 309, 1262, 1263, 1264, 1280, 1246, 284, 1247, 1268, 334, 1269, 1278, 1279, 305, 324, 1273, 298, 1274] (by decide +kernel) (List.mem_flatMap.mpr ⟨r, hr, hw⟩)
def q_LKo2 : List (Nat × Nat × Nat × Nat) := q_LK2_0
theorem q_lro2 : ∀ r ∈ q_LKo2, ∀ w ∈ q_lw 2 r, w ∈ lw_tbl := by
  intro r h
  unfold q_LKo2 at h
  rcases h with h
  · exact q_lr2_0 r h
def q_LK3_0 : List (Nat × Nat × Nat × Nat) := [(3, 5, 0, 10), (9, 6, 0, 0), (11, 5, 0, 0), (14, 1, 0, 3), (20, 1, 1, 3), (24, 1, 9, 7), (30, 1, 0, 0), (34, 3, 18, 0), (38, 1, 2, 0), (41, 1, 3, 7), (44, 1, 1, 0), (47, 3, 92, 0), (51, 1, 5, 0), (54, 3, 103, 0), (58, 3, 102, 0), (61, 4, 175, 1), (64, 4, 0, 11), (70, 3, 1, 0), (73, 3, 6, 0), (77, 3, 9, 0), (80, 3, 37, 0), (83, 3, 38, 0), (87, 1, 3, 0), (90, 1, 7, 0), (94, 3, 23, 0), (100, 3, 7, 0), (104, 3, 2, 0), (108, 3, 15, 0), (112, 3, 4, 0), (115, 3, 13, 0), (118, 3, 101, 0), (121, 3, 5, 0), (124, 3, 3, 0)]
theorem q_lr3_0 : ∀ r ∈ q_LK3_0, ∀ w ∈ q_lw 3 r, w ∈ lw_tbl := fun r hr w hw => q_mem_of (ws := q_LK3_0.flatMap (q_lw 3)) [364, 365, 366, 367, 368, 476, 282, 1176, 303, 451, 292, 1180, 321, 1184, 1193, 1201, 1204, 1207, 1208, 1213, 1214, 1219, 310, 331, 1229, 1230, 1218, 1223, 1224, 1225, 1226, 1227, 1228] (by decide +kernel) (List.mem_flatMap.mpr ⟨r, hr, hw⟩)
def q_LKo3 : List (Nat × Nat × Nat × Nat) := q_LK3_0
theorem q_lro3 : ∀ r ∈ q_LKo3, ∀ w ∈ q_lw 3 r, w ∈ lw_tbl := by
  intro r h
  unfold q_LKo3 at h
  rcases h with h
  · exact q_lr3_0 r h
def q_LK4_0 : List (Nat × Nat × Nat × Nat) := [(3, 5, 0, 10), (9, 1, 0, 4), (15, 1, 1, 4), (18, 1, 2, 4), (21, 1, 3, 4), (25, 1, 9, 7), (31, 1, 5, 0), (34, 3, 40, 0), (38, 1, 1, 0), (41, 3, 100, 0)]
theorem q_lr4_0 : ∀ r ∈ q_LK4_0, ∀ w ∈ q_lw 4 r, w ∈ lw_tbl := fun r hr w hw => q_mem_of (ws := q_LK4_0.flatMap (q_lw 4)) [387, 388, 389, 391, 393, 481, 322, 1251, 295, 1255] (by decide +kernel) (List.mem_flatMap.mpr ⟨r, hr, hw⟩)
def q_LKo4 : List (Nat × Nat × Nat × Nat) := q_LK4_0
theorem q_lro4 : ∀ r ∈ q_LKo4, ∀ w ∈ q_lw 4 r, w ∈ lw_tbl := by
  intro r h
  unfold q_LKo4 at h
  rcases h with h
  · exact q_lr4_0 r h
def q_LK5_0 : List (Nat × Nat × Nat × Nat) := [(3, 5, 0, 10), (9, 1, 0, 5), (15, 1, 1, 5), (18, 1, 2, 5), (21, 1, 3, 5), (24, 1, 4, 5), (27, 1, 5, 5), (30, 1, 6, 5), (33, 1, 7, 5), (36, 1, 8, 5), (39, 1, 9, 5), (42, 1, 10, 5), (46, 1, 11, 5), (50, 1, 12, 5), (53, 1, 13, 5), (56, 1, 14, 5), (59, 1, 15, 5), (62, 1, 17, 5), (65, 1, 16, 5), (68, 3, 46, 0), (72, 3, 47, 0), (76, 3, 50, 0), (79, 1, 8, 7), (84, 3, 45, 0), (88, 3, 86, 0), (92, 3, 85, 0), (95, 3, 48, 0), (99, 1, 9, 7), (103, 1, 0, 0), (108, 1, 1, 0), (111, 3, 49, 0), (114, 3, 51, 0), (118, 3, 54, 0), (122, 1, 2, 0), (125, 3, 9, 0), (128, 3, 55, 0), (131, 3, 12, 0), (135, 1, 5, 0), (138, 3, 53, 0), (141, 3, 58, 0)]
theorem q_lr5_0 : ∀ r ∈ q_LK5_0, ∀ w ∈ q_lw 5 r, w ∈ lw_tbl := fun r hr w hw => q_mem_of (ws := q_LK5_0.flatMap (q_lw 5)) [211, 212, 213, 214, 215, 216, 217, 218, 219, 220, 221, 222, 223, 224, 225, 226, 227, 230, 229, 1460, 1466, 1474, 472, 1516, 1464, 1465, 1470, 483, 288, 299, 1478, 1482, 1491, 306, 1495, 1496, 1486, 325, 1487, 1500] (by decide +kernel) (List.mem_flatMap.mpr ⟨r, hr, hw⟩)
def q_LK5_1 : List (Nat × Nat × Nat × Nat) := [(144, 3, 52, 0), (147, 4, 56, 0), (151, 3, 57, 0), (154, 3, 90, 0)]
theorem q_lr5_1 : ∀ r ∈ q_LK5_1, ∀ w ∈ q_lw 5 r, w ∈ lw_tbl := fun r hr w hw => q_mem_of (ws := q_LK5_1.flatMap (q_lw 5)) [1504, 1508, 1511, 1515] (by decide +kernel) (List.mem_flatMap.mpr ⟨r, hr, hw⟩)
def q_LKo5 : List (Nat × Nat × Nat × Nat) := q_LK5_0 ++ q_LK5_1
theorem q_lro5 : ∀ r ∈ q_LKo5, ∀ w ∈ q_lw 5 r, w ∈ lw_tbl := by
  intro r h
  unfold q_LKo5 at h
  simp only [List.mem_append] at h
  rcases h with h | h
  · exact q_lr5_0 r h
  · exact q_lr5_1 r h
def q_LK6_0 : List (Nat × Nat × Nat × Nat) := [(3, 5, 0, 10), (9, 1, 0, 6), (15, 1, 0, 7), (21, 1, 3, 7), (24, 1, 4, 7), (27, 1, 5, 7), (30, 3, 90, 0), (34, 3, 21, 0), (40, 4, 62, 0), (44, 4, 63, 0), (47, 4, 64, 0), (50, 1, 10, 7), (54, 4, 65, 0), (58, 1, 11, 7), (61, 4, 66, 0), (65, 3, 79, 0), (69, 1, 9, 7), (73, 1, 7, 0), (78, 1, 0, 0), (81, 1, 1, 0), (84, 3, 17, 0), (88, 1, 4, 0), (91, 3, 89, 0), (94, 3, 77, 0), (98, 1, 12, 7), (101, 3, 91, 0), (105, 3, 85, 0), (109, 3, 74, 0), (112, 3, 2, 0), (116, 3, 75, 0), (119, 3, 11, 0), (122, 3, 16, 0), (125, 3, 18, 0), (128, 3, 103, 0)]
theorem q_lr6_0 : ∀ r ∈ q_LK6_0, ∀ w ∈ q_lw 6 r, w ∈ lw_tbl := fun r hr w hw => q_mem_of (ws := q_LK6_0.flatMap (q_lw 6)) [431, 432, 446, 450, 456, 463, 1351, 1352, 1364, 1367, 1371, 486, 1375, 493, 1379, 1370, 482, 335, 287, 296, 1374, 317, 1378, 1382, 496, 1399, 1400, 1401, 1402, 1403, 1404, 1405, 1406, 1418] (by decide +kernel) (List.mem_flatMap.mpr ⟨r, hr, hw⟩)
def q_LKo6 : List (Nat × Nat × Nat × Nat) := q_LK6_0
theorem q_lro6 : ∀ r ∈ q_LKo6, ∀ w ∈ q_lw 6 r, w ∈ lw_tbl := by
  intro r h
  unfold q_LKo6 at h
  rcases h with h
  · exact q_lr6_0 r h
def q_LK7_0 : List (Nat × Nat × Nat × Nat) := [(3, 5, 0, 10), (9, 1, 0, 7), (15, 1, 1, 7), (18, 1, 2, 7), (21, 1, 3, 7), (24, 1, 4, 7), (27, 1, 5, 7), (30, 1, 6, 7), (33, 1, 7, 7), (36, 1, 8, 7), (39, 7, 4, 0), (41, 1, 9, 7), (45, 1, 13, 7), (39, 6, 0, 0), (49, 5, 0, 0), (52, 1, 10, 7), (55, 1, 11, 7), (58, 1, 12, 7), (61, 1, 14, 7), (65, 4, 0, 13), (71, 3, 79, 0), (75, 3, 7, 0), (79, 3, 1, 0), (82, 3, 74, 0), (86, 3, 75, 0), (90, 4, 309, 0), (96, 3, 82, 0), (100, 3, 83, 0), (103, 3, 88, 0), (107, 3, 96, 0), (111, 3, 91, 0), (114, 1, 0, 0), (117, 1, 1, 0), (120, 1, 4, 0), (123, 3, 98, 0), (126, 3, 10, 0), (129, 3, 19, 0), (133, 3, 104, 0), (136, 1, 7, 0), (139, 1, 5, 0)]
theorem q_lr7_0 : ∀ r ∈ q_LK7_0, ∀ w ∈ q_lw 7 r, w ∈ lw_tbl := fun r hr w hw => q_mem_of (ws := q_LK7_0.flatMap (q_lw 7)) [441, 445, 447, 448, 449, 455, 460, 465, 468, 471, 442, 475, 497, 442, 444, 485, 488, 495, 501, 990, 993, 994, 957, 1386, 1387, 1003, 656, 917, 652, 1042, 1050, 289, 300, 319, 1108, 1109, 1197, 1188, 337, 327] (by decide +kernel) (List.mem_flatMap.mpr ⟨r, hr, hw⟩)
def q_LK7_1 : List (Nat × Nat × Nat × Nat) := [(142, 3, 93, 0)]
theorem q_lr7_1 : ∀ r ∈ q_LK7_1, ∀ w ∈ q_lw 7 r, w ∈ lw_tbl := fun r hr w hw => q_mem_of (ws := q_LK7_1.flatMap (q_lw 7)) [1192] (by decide +kernel) (List.mem_flatMap.mpr ⟨r, hr, hw⟩)
def q_LKo7 : List (Nat × Nat × Nat × Nat) := q_LK7_0 ++ q_LK7_1
theorem q_lro7 : ∀ r ∈ q_LKo7, ∀ w ∈ q_lw 7 r, w ∈ lw_tbl := by
  intro r h
  unfold q_LKo7 at h
  simp only [List.mem_append] at h
  rcases h with h | h
  · exact q_lr7_0 r h
  · exact q_lr7_1 r h
def q_LK8_0 : List (Nat × Nat × Nat × Nat) := [(3, 5, 0, 10), (9, 6, 0, 0), (11, 5, 0, 0), (14, 1, 0, 8), (20, 3, 95, 0), (26, 1, 5, 7), (30, 3, 97, 0), (34, 1, 11, 7), (38, 3, 79, 0), (42, 1, 4, 7), (45, 1, 9, 7), (49, 1, 7, 0), (52, 3, 17, 0), (56, 1, 1, 0), (59, 3, 87, 0), (62, 3, 73, 0), (66, 3, 1, 0), (69, 3, 16, 0), (72, 3, 3, 0), (76, 3, 11, 0), (79, 3, 101, 0), (82, 3, 5, 0), (86, 3, 4, 0), (89, 3, 7, 0), (93, 1, 0, 0), (96, 3, 98, 0), (100, 3, 9, 0), (103, 1, 3, 0), (106, 4, 109, 0), (110, 3, 15, 0), (113, 3, 13, 0), (116, 1, 6, 7), (119, 3, 10, 0), (122, 3, 14, 0)]
theorem q_lr8_0 : ∀ r ∈ q_LK8_0, ∀ w ∈ q_lw 8 r, w ∈ lw_tbl := fun r hr w hw => q_mem_of (ws := q_LK8_0.flatMap (q_lw 8)) [274, 275, 277, 355, 1038, 462, 1046, 490, 1054, 458, 479, 330, 1055, 293, 1084, 1085, 1089, 1090, 1098, 1103, 1104, 1110, 1114, 1118, 285, 1143, 1144, 313, 1145, 1148, 1161, 466, 1156, 1157] (by decide +kernel) (List.mem_flatMap.mpr ⟨r, hr, hw⟩)
def q_LKo8 : List (Nat × Nat × Nat × Nat) := q_LK8_0
theorem q_lro8 : ∀ r ∈ q_LKo8, ∀ w ∈ q_lw 8 r, w ∈ lw_tbl := by
  intro r h
  unfold q_LKo8 at h
  rcases h with h
  · exact q_lr8_0 r h
def q_LK9_0 : List (Nat × Nat × Nat × Nat) := [(3, 5, 0, 10), (9, 6, 0, 0), (11, 5, 0, 0), (14, 1, 0, 9), (20, 1, 5, 7), (26, 3, 95, 0), (30, 1, 4, 7), (33, 3, 97, 0), (37, 1, 11, 7), (41, 3, 79, 0), (45, 3, 102, 0), (48, 4, 175, 1), (51, 3, 75, 0), (55, 1, 9, 7), (59, 3, 112, 0), (63, 3, 7, 0), (67, 3, 1, 0), (70, 1, 7, 0), (73, 3, 17, 0), (77, 1, 0, 0), (80, 1, 1, 0), (83, 1, 2, 0), (86, 3, 2, 0), (89, 1, 3, 0), (92, 4, 114, 0), (96, 4, 115, 0), (99, 3, 76, 0), (103, 3, 117, 0), (106, 3, 15, 0), (109, 3, 9, 0), (113, 4, 116, 0), (117, 3, 18, 0), (120, 4, 118, 0)]
theorem q_lr9_0 : ∀ r ∈ q_LK9_0, ∀ w ∈ q_lw 9 r, w ∈ lw_tbl := fun r hr w hw => q_mem_of (ws := q_LK9_0.flatMap (q_lw 9)) [419, 420, 421, 422, 461, 1292, 457, 1293, 491, 1294, 1295, 1296, 1297, 480, 1298, 1305, 1302, 332, 1303, 283, 294, 304, 1304, 311, 1317, 1321, 1329, 1333, 1320, 1324, 1325, 1328, 1337] (by decide +kernel) (List.mem_flatMap.mpr ⟨r, hr, hw⟩)
def q_LKo9 : List (Nat × Nat × Nat × Nat) := q_LK9_0
theorem q_lro9 : ∀ r ∈ q_LKo9, ∀ w ∈ q_lw 9 r, w ∈ lw_tbl := by
  intro r h
  unfold q_LKo9 at h
  rcases h with h
  · exact q_lr9_0 r h
def q_LK10_0 : List (Nat × Nat × Nat × Nat) := [(3, 5, 0, 10), (9, 1, 0, 10), (15, 1, 1, 10), (18, 1, 2, 10), (21, 1, 3, 10), (24, 1, 4, 10), (27, 1, 5, 10), (30, 1, 6, 10), (34, 3, 121, 0), (38, 4, 0, 12), (44, 3, 1, 0), (49, 3, 2, 0)]
theorem q_lr10_0 : ∀ r ∈ q_LK10_0, ∀ w ∈ q_lw 10 r, w ∈ lw_tbl := fun r hr w hw => q_mem_of (ws := q_LK10_0.flatMap (q_lw 10)) [170, 171, 172, 173, 174, 175, 177, 178, 756, 760, 969, 970] (by decide +kernel) (List.mem_flatMap.mpr ⟨r, hr, hw⟩)
def q_LKo10 : List (Nat × Nat × Nat × Nat) := q_LK10_0
theorem q_lro10 : ∀ r ∈ q_LKo10, ∀ w ∈ q_lw 10 r, w ∈ lw_tbl := by
  intro r h
  unfold q_LKo10 at h
  rcases h with h
  · exact q_lr10_0 r h
def q_LK11_0 : List (Nat × Nat × Nat × Nat) := [(1, 5, 0, 10), (7, 6, 10, 0), (9, 5, 119, 1), (10, 1, 0, 11), (16, 6, 1, 0), (18, 5, 20, 1), (19, 1, 1, 11), (23, 6, 5, 0), (25, 5, 43, 1), (26, 1, 2, 11), (30, 6, 8, 0), (32, 5, 105, 1), (33, 1, 3, 11), (37, 6, 3, 0), (39, 5, 35, 0), (42, 1, 4, 11), (46, 6, 2, 0), (48, 5, 30, 1), (49, 1, 5, 11), (53, 6, 9, 0), (55, 5, 110, 1), (56, 1, 6, 11), (60, 6, 6, 0), (62, 5, 59, 0), (63, 1, 7, 11), (67, 6, 7, 0), (69, 5, 69, 0), (70, 1, 8, 11), (67, 7, 3, 7), (74, 1, 9, 11), (78, 1, 10, 11), (81, 1, 11, 11), (84, 3, 157, 0), (87, 3, 120, 0), (91, 3, 160, 0), (95, 3, 158, 0), (98, 3, 159, 0), (105, 5, 0, 14), (108, 3, 162, 0), (113, 1, 10, 7)]
theorem q_lr11_0 : ∀ r ∈ q_LK11_0, ∀ w ∈ q_lw 11 r, w ∈ lw_tbl := fun r hr w hw => q_mem_of (ws := q_LK11_0.flatMap (q_lw 11)) [162, 165, 167, 534, 196, 198, 535, 206, 208, 536, 269, 271, 537, 359, 361, 538, 374, 376, 539, 414, 416, 540, 426, 428, 541, 436, 438, 542, 436, 543, 544, 545, 680, 752, 771, 806, 840, 859, 487] (by decide +kernel) (List.mem_flatMap.mpr ⟨r, hr, hw⟩)
def q_LK11_1 : List (Nat × Nat × Nat × Nat) := [(121, 5, 0, 14), (122, 1, 13, 11), (125, 3, 71, 0), (129, 3, 163, 0), (132, 3, 87, 0), (138, 3, 72, 0), (142, 4, 170, 0), (145, 3, 164, 0), (149, 1, 4, 10), (155, 3, 89, 0), (160, 1, 11, 7), (165, 3, 74, 0), (168, 3, 75, 0), (172, 1, 9, 7), (176, 3, 122, 0), (180, 3, 21, 0), (184, 1, 13, 7), (187, 3, 169, 0), (191, 3, 70, 0), (194, 1, 12, 11), (198, 3, 81, 0), (202, 3, 165, 0), (206, 1, 4, 7), (209, 3, 161, 0), (212, 3, 172, 0), (216, 3, 106, 0), (220, 3, 173, 0), (223, 3, 168, 0), (226, 3, 107, 0), (230, 3, 167, 0), (233, 3, 166, 0), (236, 3, 99, 0), (240, 3, 108, 0), (243, 3, 36, 0), (246, 3, 31, 0), (249, 3, 111, 0), (252, 3, 113, 0), (255, 3, 60, 0), (259, 3, 61, 0), (262, 3, 67, 0)]
theorem q_lr11_1 : ∀ r ∈ q_LK11_1, ∀ w ∈ q_lw 11 r, w ∈ lw_tbl := fun r hr w hw => q_mem_of (ws := q_LK11_1.flatMap (q_lw 11)) [547, 898, 909, 913, 922, 933, 936, 176, 947, 494, 953, 961, 484, 965, 581, 499, 981, 986, 546, 999, 1016, 459, 1025, 1030, 1034, 1059, 1074, 1080, 1126, 1130, 1135, 1139, 1172, 1238, 1288, 1313, 1347, 1360, 1395] (by decide +kernel) (List.mem_flatMap.mpr ⟨r, hr, hw⟩)
def q_LK11_2 : List (Nat × Nat × Nat × Nat) := [(266, 3, 68, 0), (271, 1, 3, 7), (274, 1, 5, 7), (277, 1, 6, 7), (280, 1, 8, 7), (283, 1, 7, 0), (288, 3, 95, 0), (291, 4, 309, 0), (298, 1, 0, 0), (301, 1, 1, 0), (304, 1, 4, 0), (307, 1, 5, 0), (314, 3, 78, 0), (322, 5, 0, 14), (323, 3, 82, 0), (328, 1, 7, 7), (333, 3, 44, 0), (337, 1, 17, 5), (340, 1, 15, 5), (343, 1, 6, 10), (354, 4, 171, 0), (363, 3, 80, 0), (370, 3, 85, 0), (377, 3, 174, 0)]
theorem q_lr11_2 : ∀ r ∈ q_LK11_2, ∀ w ∈ q_lw 11 r, w ∈ lw_tbl := fun r hr w hw => q_mem_of (ws := q_LK11_2.flatMap (q_lw 11)) [1414, 454, 464, 467, 474, 336, 1434, 1435, 290, 301, 318, 326, 863, 1453, 470, 1456, 231, 228, 179, 940, 1020, 1078, 1063] (by decide +kernel) (List.mem_flatMap.mpr ⟨r, hr, hw⟩)
def q_LKo11 : List (Nat × Nat × Nat × Nat) := q_LK11_0 ++ q_LK11_1 ++ q_LK11_2
theorem q_lro11 : ∀ r ∈ q_LKo11, ∀ w ∈ q_lw 11 r, w ∈ lw_tbl := by
  intro r h
  unfold q_LKo11 at h
  simp only [List.mem_append] at h
  rcases h with (h | h) | h
  · exact q_lr11_0 r h
  · exact q_lr11_1 r h
  · exact q_lr11_2 r h
def q_LK12_0 : List (Nat × Nat × Nat × Nat) := [(1, 5, 0, 10), (7, 8, 184600, 0), (8, 1, 1, 12), (14, 1, 5, 12), (17, 1, 6, 12), (20, 1, 7, 12), (23, 1, 8, 12), (26, 1, 9, 12), (29, 1, 10, 12), (32, 1, 11, 12), (35, 1, 12, 12), (38, 1, 13, 12), (41, 1, 14, 12), (44, 1, 16, 12), (47, 1, 17, 12), (50, 1, 18, 12), (53, 1, 19, 12), (56, 1, 21, 12), (59, 1, 22, 12), (62, 1, 23, 12), (65, 1, 24, 12), (68, 1, 25, 12), (71, 1, 27, 12), (74, 1, 28, 12), (77, 1, 30, 12), (80, 1, 31, 12), (83, 1, 32, 12), (86, 1, 36, 12), (90, 1, 37, 12), (93, 1, 39, 12), (96, 1, 40, 12), (99, 1, 41, 12), (102, 1, 43, 12), (105, 1, 45, 12), (108, 1, 46, 12), (111, 1, 0, 12), (115, 4, 179, 0), (119, 1, 4, 12), (122, 4, 183, 0), (126, 3, 178, 0)]
theorem q_lr12_0 : ∀ r ∈ q_LK12_0, ∀ w ∈ q_lw 12 r, w ∈ lw_tbl := fun r hr w hw => q_mem_of (ws := q_LK12_0.flatMap (q_lw 12)) [1525, 1526, 1528, 1532, 1533, 1534, 1535, 1536, 1537, 1538, 1539, 1540, 1541, 1543, 1544, 1545, 1546, 1548, 1549, 1550, 1551, 1552, 1554, 1555, 1557, 1558, 1559, 1563, 1564, 1566, 1567, 1568, 1570, 1572, 1573, 1527, 1696, 1531, 1686, 1678] (by decide +kernel) (List.mem_flatMap.mpr ⟨r, hr, hw⟩)
def q_LK12_1 : List (Nat × Nat × Nat × Nat) := [(130, 3, 182, 0), (134, 4, 180, 0), (137, 3, 181, 0), (140, 3, 184, 0), (144, 3, 204, 0), (148, 3, 198, 0), (152, 3, 196, 0), (155, 3, 207, 0), (158, 3, 208, 0), (161, 3, 210, 0), (164, 3, 209, 0), (167, 3, 213, 0), (171, 1, 2, 12), (174, 3, 205, 0), (177, 3, 212, 0), (180, 3, 218, 0), (183, 3, 220, 0), (187, 3, 197, 0), (191, 3, 221, 0), (195, 3, 202, 0), (199, 3, 199, 0), (202, 3, 201, 0), (205, 3, 222, 0), (208, 3, 200, 0), (211, 3, 211, 0), (214, 3, 223, 0), (217, 3, 229, 0), (220, 3, 226, 0), (223, 3, 227, 0), (226, 3, 230, 0), (229, 3, 231, 0), (232, 3, 214, 0), (235, 3, 224, 0), (238, 3, 225, 0), (241, 3, 228, 0), (244, 3, 233, 0), (247, 3, 232, 0), (250, 3, 234, 0), (253, 3, 235, 0), (257, 3, 203, 0)]
theorem q_lr12_1 : ∀ r ∈ q_LK12_1, ∀ w ∈ q_lw 12 r, w ∈ lw_tbl := fun r hr w hw => q_mem_of (ws := q_LK12_1.flatMap (q_lw 12)) [1682, 1693, 1707, 1711, 1731, 1811, 1791, 1771, 1767, 1775, 1763, 1787, 1529, 1755, 1759, 1783, 1795, 1799, 1803, 1807, 1835, 1839, 1831, 1843, 1851, 1859, 1863, 1867, 1871, 1875, 1879, 1883, 1827, 1847, 1855, 1891, 1823, 1887, 1819, 1899] (by decide +kernel) (List.mem_flatMap.mpr ⟨r, hr, hw⟩)
def q_LK12_2 : List (Nat × Nat × Nat × Nat) := [(260, 1, 3, 12), (264, 3, 206, 0), (267, 3, 255, 0), (270, 3, 239, 0), (273, 1, 29, 12), (276, 1, 26, 12), (279, 1, 33, 12), (282, 1, 34, 12), (285, 1, 20, 12), (288, 1, 15, 12), (291, 3, 243, 0), (294, 1, 35, 12), (297, 3, 246, 0), (300, 3, 245, 0), (304, 3, 248, 0), (307, 3, 249, 0), (310, 3, 244, 0), (314, 3, 242, 0), (317, 3, 241, 0), (320, 3, 250, 0), (324, 3, 251, 0), (328, 3, 247, 0), (331, 3, 256, 0), (334, 3, 215, 0), (338, 3, 259, 0), (341, 1, 38, 12), (344, 3, 260, 0), (347, 3, 261, 0), (350, 3, 270, 0), (353, 3, 273, 0), (356, 3, 272, 0), (360, 3, 257, 0), (363, 3, 265, 0), (367, 3, 276, 0), (370, 3, 271, 0), (373, 3, 268, 0), (376, 3, 266, 0), (379, 3, 277, 0), (382, 3, 278, 0), (385, 4, 267, 0)]
theorem q_lr12_2 : ∀ r ∈ q_LK12_2, ∀ w ∈ q_lw 12 r, w ∈ lw_tbl := fun r hr w hw => q_mem_of (ws := q_LK12_2.flatMap (q_lw 12)) [1530, 1907, 1911, 1923, 1556, 1553, 1560, 1561, 1547, 1542, 1939, 1562, 1935, 1947, 1951, 1959, 1955, 1963, 1931, 1967, 1971, 1943, 1915, 1995, 2078, 1565, 2039, 2035, 2003, 2086, 1987, 1991, 1999, 2007, 2015, 2011, 2031, 2023, 2027, 2043] (by decide +kernel) (List.mem_flatMap.mpr ⟨r, hr, hw⟩)
def q_LK12_3 : List (Nat × Nat × Nat × Nat) := [(388, 3, 263, 0), (391, 3, 264, 0), (394, 3, 269, 0), (397, 3, 281, 0), (401, 3, 282, 0), (404, 3, 258, 0), (407, 3, 274, 0), (410, 3, 262, 0), (413, 3, 285, 0), (416, 1, 42, 12), (419, 1, 44, 12), (422, 3, 290, 0), (426, 4, 288, 0), (430, 3, 286, 0), (433, 3, 291, 0), (436, 3, 287, 0), (439, 3, 293, 0), (442, 3, 289, 0), (445, 3, 294, 0), (448, 3, 296, 0), (451, 3, 297, 0), (454, 3, 298, 0), (457, 3, 299, 0), (460, 3, 283, 0), (463, 3, 302, 0), (466, 3, 304, 0), (469, 3, 305, 0)]
theorem q_lr12_3 : ∀ r ∈ q_LK12_3, ∀ w ∈ q_lw 12 r, w ∈ lw_tbl := fun r hr w hw => q_mem_of (ws := q_LK12_3.flatMap (q_lw 12)) [2046, 2050, 2058, 2062, 2070, 2074, 2082, 2090, 2094, 1569, 1571, 2122, 2126, 2102, 2106, 2110, 2114, 2118, 2133, 2149, 2141, 2145, 2153, 2161, 2169, 2173, 2177] (by decide +kernel) (List.mem_flatMap.mpr ⟨r, hr, hw⟩)
def q_LKo12 : List (Nat × Nat × Nat × Nat) := q_LK12_0 ++ q_LK12_1 ++ q_LK12_2 ++ q_LK12_3
theorem q_lro12 : ∀ r ∈ q_LKo12, ∀ w ∈ q_lw 12 r, w ∈ lw_tbl := by
  intro r h
  unfold q_LKo12 at h
  simp only [List.mem_append] at h
  rcases h with ((h | h) | h) | h
  · exact q_lr12_0 r h
  · exact q_lr12_1 r h
  · exact q_lr12_2 r h
  · exact q_lr12_3 r h
def q_LK13_0 : List (Nat × Nat × Nat × Nat) := [(7, 3, 124, 0), (15, 3, 125, 0), (20, 3, 126, 0), (24, 3, 127, 0), (30, 3, 128, 0), (34, 3, 129, 0), (37, 3, 130, 0), (41, 3, 131, 0), (44, 3, 132, 0), (47, 3, 133, 0), (50, 3, 134, 0), (53, 3, 135, 0), (56, 3, 136, 0), (59, 3, 137, 0), (63, 3, 139, 0), (66, 3, 140, 0), (69, 3, 141, 0), (72, 3, 142, 0), (75, 3, 143, 0), (78, 3, 144, 0), (81, 3, 145, 0), (84, 3, 146, 0), (87, 3, 147, 0), (90, 3, 148, 0), (93, 3, 149, 0), (96, 3, 150, 0), (99, 3, 151, 0), (102, 3, 152, 0), (105, 3, 153, 0), (108, 3, 154, 0), (8, 6, 11, 0), (112, 5, 123, 0), (113, 6, 12, 0), (115, 5, 176, 0), (116, 4, 310, 0), (121, 3, 185, 0), (122, 3, 177, 0), (125, 4, 311, 0), (127, 3, 186, 0), (128, 4, 312, 0)]
theorem q_lr13_0 : ∀ r ∈ q_LK13_0, ∀ w ∈ q_lw 13 r, w ∈ lw_tbl := fun r hr w hw => q_mem_of (ws := q_LK13_0.flatMap (q_lw 13)) [676, 767, 794, 802, 829, 836, 847, 855, 871, 879, 886, 893, 905, 929, 977, 1012, 1070, 1122, 1168, 1234, 1284, 1309, 1343, 1356, 1391, 1410, 1422, 1430, 1440, 1448, 157, 159, 1520, 1522, 672, 1674, 1670, 763, 1689, 791] (by decide +kernel) (List.mem_flatMap.mpr ⟨r, hr, hw⟩)
def q_LK13_1 : List (Nat × Nat × Nat × Nat) := [(131, 3, 187, 0), (132, 4, 313, 0), (135, 3, 188, 0), (136, 4, 314, 0), (139, 3, 189, 0), (140, 4, 315, 0), (142, 3, 190, 0), (143, 4, 316, 0), (146, 3, 191, 0), (147, 4, 317, 0), (149, 3, 192, 0), (150, 4, 318, 0), (152, 3, 193, 0), (153, 4, 319, 0), (155, 3, 194, 0), (156, 4, 320, 0), (158, 3, 195, 0), (159, 4, 321, 0), (161, 3, 216, 0), (162, 4, 322, 0), (164, 3, 217, 0), (165, 4, 323, 0), (168, 3, 219, 0), (169, 3, 138, 0), (172, 3, 236, 0), (173, 4, 324, 0), (175, 3, 237, 0), (176, 4, 325, 0), (178, 3, 275, 0), (179, 4, 326, 0), (181, 3, 279, 0), (182, 4, 327, 0), (184, 3, 280, 0), (185, 4, 328, 0), (187, 3, 284, 0), (188, 4, 329, 0), (190, 3, 292, 0), (191, 4, 330, 0), (193, 3, 295, 0), (194, 4, 331, 0)]
theorem q_lr13_1 : ∀ r ∈ q_LK13_1, ∀ w ∈ q_lw 13 r, w ∈ lw_tbl := fun r hr w hw => q_mem_of (ws := q_LK13_1.flatMap (q_lw 13)) [1699, 798, 1703, 826, 1715, 833, 1719, 844, 1723, 852, 1727, 868, 1735, 876, 1739, 883, 1743, 890, 1747, 902, 1751, 926, 1779, 577, 1815, 974, 1895, 1009, 1983, 1067, 2019, 1119, 2054, 1165, 2066, 1231, 2098, 1281, 2129, 1306] (by decide +kernel) (List.mem_flatMap.mpr ⟨r, hr, hw⟩)
def q_LK13_2 : List (Nat × Nat × Nat × Nat) := [(196, 3, 300, 0), (197, 4, 332, 0), (199, 3, 301, 0), (200, 4, 333, 0), (202, 3, 303, 0), (203, 4, 334, 0), (205, 3, 306, 0), (206, 4, 335, 0), (208, 3, 307, 0), (209, 4, 336, 0), (211, 3, 308, 0), (212, 4, 337, 0), (214, 3, 238, 0), (215, 4, 338, 0), (217, 3, 240, 0), (218, 4, 339, 0), (221, 3, 252, 0), (222, 3, 155, 0), (225, 3, 253, 0), (226, 3, 156, 0), (229, 3, 254, 0)]
theorem q_lr13_2 : ∀ r ∈ q_LK13_2, ∀ w ∈ q_lw 13 r, w ∈ lw_tbl := fun r hr w hw => q_mem_of (ws := q_LK13_2.flatMap (q_lw 13)) [2137, 1340, 2157, 1353, 2165, 1388, 2181, 1407, 2185, 1419, 2189, 1427, 1903, 1437, 1919, 1445, 1927, 664, 1975, 668, 1979] (by decide +kernel) (List.mem_flatMap.mpr ⟨r, hr, hw⟩)
def q_LKo13 : List (Nat × Nat × Nat × Nat) := q_LK13_0 ++ q_LK13_1 ++ q_LK13_2
theorem q_lro13 : ∀ r ∈ q_LKo13, ∀ w ∈ q_lw 13 r, w ∈ lw_tbl := by
  intro r h
  unfold q_LKo13 at h
  simp only [List.mem_append] at h
  rcases h with (h | h) | h
  · exact q_lr13_0 r h
  · exact q_lr13_1 r h
  · exact q_lr13_2 r h
def q_LK14_0 : List (Nat × Nat × Nat × Nat) := [(265, 8, 1431655765, 0), (266, 8, 858993459, 0), (267, 8, 252645135, 0)]
theorem q_lr14_0 : ∀ r ∈ q_LK14_0, ∀ w ∈ q_lw 14 r, w ∈ lw_tbl := fun r hr w hw => q_mem_of (ws := q_LK14_0.flatMap (q_lw 14)) [1006, 1007, 1008] (by decide +kernel) (List.mem_flatMap.mpr ⟨r, hr, hw⟩)
def q_LKo14 : List (Nat × Nat × Nat × Nat) := q_LK14_0
theorem q_lro14 : ∀ r ∈ q_LKo14, ∀ w ∈ q_lw 14 r, w ∈ lw_tbl := by
  intro r h
  unfold q_LKo14 at h
  rcases h with h
  · exact q_lr14_0 r h
def q_LK (own : Nat) : List (Nat × Nat × Nat × Nat) := match own with
  | 0 => q_LKo0
  | 1 => q_LKo1
  | 2 => q_LKo2
  | 3 => q_LKo3
  | 4 => q_LKo4
  | 5 => q_LKo5
  | 6 => q_LKo6
  | 7 => q_LKo7
  | 8 => q_LKo8
  | 9 => q_LKo9
  | 10 => q_LKo10
  | 11 => q_LKo11
  | 12 => q_LKo12
  | 13 => q_LKo13
  | 14 => q_LKo14
  | _ => []
theorem q_lro : ∀ own, ∀ r ∈ q_LK own, ∀ w ∈ q_lw own r, w ∈ lw_tbl := by
  intro own
  match own with
  | 0 => exact q_lro0
  | 1 => exact q_lro1
  | 2 => exact q_lro2
  | 3 => exact q_lro3
  | 4 => exact q_lro4
  | 5 => exact q_lro5
  | 6 => exact q_lro6
  | 7 => exact q_lro7
  | 8 => exact q_lro8
  | 9 => exact q_lro9
  | 10 => exact q_lro10
  | 11 => exact q_lro11
  | 12 => exact q_lro12
  | 13 => exact q_lro13
  | 14 => exact q_lro14
  | n + 15 => exact (fun r h => nomatch h)
