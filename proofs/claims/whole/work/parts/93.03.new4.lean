-- deps: 93.00.new 93.01.new2 93.02.new3
/-! everything is made -/
set_option maxRecDepth 10000
section
theorem z_q0 : q_h0 = z_hp (0, fun _ => 99, fun _ => 0, fun _ _ => none, fun _ _ => 0, 0, 0) (fun _ _ => 0) := rfl
def z_A0 : z_A := ([], z_P0, none, [], 0, 0)
theorem z_first : ∃ S1 m1 S2 m2 S3 m3 S4 m4 S m, m_nO 11 q_h0 = some (0, z_hp S1 m1) ∧ f123 0 (z_hp S1 m1) = some ((), z_hp S2 m2) ∧ m_nO 12 (z_hp S2 m2) = some (2390, z_hp S3 m3) ∧ f176 2390 (z_hp S3 m3) = some ((), z_hp S4 m4) ∧ m_nA 22 1 (z_hp S4 m4) = some (2424, z_hp S m) ∧ z_CR S m z_A0 ∧ z_MR m z_A0 ∧ z_MS S ∧ (z_kd S 2424 = 22 ∧ z_ln S 2424 = 1) ∧ S.2.2.2.2.2.1 = 2425 ∧ S.2.2.2.2.2.2 = 387623 := by
  have T0 : z_Tc (0, fun _ => 99, fun _ => 0, fun _ _ => none, fun _ _ => 0, 0, 0) (fun _ _ => 0) 0 0 [] [] [] [] [] := by
    have nn : ∀ {α : Type} {P : α → Prop}, ∀ e ∈ ([] : List α), P e := fun _ h => by cases h
    have hL : z_Lf (0, fun _ => 99, fun _ => 0, fun _ _ => none, fun _ _ => 0, 0, 0) (fun _ _ => 0) [] [] [] [] [] := ⟨nn, nn, nn, nn, nn⟩
    exact ⟨⟨rfl, rfl, rfl⟩, fun a ha => absurd ha (Nat.not_lt_zero _), hL⟩
  obtain ⟨S1, m1, e1, T1⟩ := st_nO (c := 11) (N' := 1) (w' := 14) T0 rfl rfl (by decide)
  obtain ⟨A2, a2, S2, m2, d2, e2, T2⟩ := st_new (c := 10) (F := f119) (N' := 8) (w' := 1251) [(0, 20, 150), (1, 20, 150), (2, 20, 150), (3, 20, 450), (4, 20, 150), (5, 20, 180)] rfl T1 rfl rfl (by decide) (by decide) (by decide)
  obtain ⟨S3, m3, e3, T3⟩ := st_pR (c := 11) (l := 0) (j := 0) (v := 1) T2 (by decide) (by decide) (by decide) (by decide)
  obtain ⟨A4, a4, S4, m4, d4, e4, T4⟩ := st_new (c := 1) (F := f20) (N' := 10) (w' := 1508) [(0, 20, 256)] rfl T3 rfl rfl (by decide) (by decide) (by decide)
  obtain ⟨S5, m5, e5, T5⟩ := st_pR (c := 11) (l := 0) (j := 1) (v := 8) T4 (by decide) (by decide) (by decide) (by decide)
  obtain ⟨A6, a6, S6, m6, d6, e6, T6⟩ := st_new (c := 5) (F := f43) (N' := 21) (w' := 13828) [(0, 20, 501), (1, 20, 501), (2, 20, 501), (3, 20, 501), (4, 20, 501), (5, 20, 20), (6, 20, 20), (7, 20, 1240), (8, 20, 501), (9, 20, 8016)] rfl T5 rfl rfl (by decide) (by decide) (by decide)
  obtain ⟨S7, m7, e7, T7⟩ := st_pR (c := 11) (l := 0) (j := 2) (v := 10) T6 (by decide) (by decide) (by decide) (by decide)
  obtain ⟨S8, m8, e8, T8⟩ := st_nO (c := 8) (N' := 22) (w' := 13829) T7 rfl rfl (by decide)
  obtain ⟨A9, a9, S9, m9, d9, e9, T9⟩ := st_bd (R := 256) (x := 256) (N' := 29) (w' := 15379) rfl (by decide) T8 rfl rfl (by decide)
  obtain ⟨S10, m10, e10, T10⟩ := st_pR (c := 8) (l := 21) (j := 0) (v := 22) T9 (by decide) (by decide) (by decide) (by decide)
  have c10 : f105 21 (z_hp S8 m8) = some ((), z_hp S10 m10) := by
    unfold f105
    exact Rn_B d9 (Rn_B e9 (Rn_B e10 (rfl)))
  obtain ⟨S11, m11, e11, T11⟩ := st_pR (c := 11) (l := 0) (j := 3) (v := 21) T10 (by decide) (by decide) (by decide) (by decide)
  obtain ⟨S12, m12, e12, T12⟩ := st_nO (c := 3) (N' := 30) (w' := 15381) T11 rfl rfl (by decide)
  have g1 := st_gR (c := 11) (l := 0) (j := 1) (v := 8) T12 (by decide) (by decide)
  obtain ⟨A13, a13, S13, m13, d13, e13, T13⟩ := st_bd (R := 256) (x := 256) (N' := 37) (w' := 16931) rfl (by decide) T12 rfl rfl (by decide)
  obtain ⟨S14, m14, e14, T14⟩ := st_pR (c := 3) (l := 29) (j := 0) (v := 30) T13 (by decide) (by decide) (by decide) (by decide)
  obtain ⟨S15, m15, e15, T15⟩ := st_pR (c := 3) (l := 29) (j := 1) (v := 8) T14 (by decide) (by decide) (by decide) (by decide)
  have c15 : f35 29 8 (z_hp S12 m12) = some ((), z_hp S15 m15) := by
    unfold f35
    exact Rn_B d13 (Rn_B e13 (Rn_B e14 (Rn_B e15 (rfl))))
  obtain ⟨S16, m16, e16, T16⟩ := st_pR (c := 11) (l := 0) (j := 4) (v := 29) T15 (by decide) (by decide) (by decide) (by decide)
  obtain ⟨S17, m17, e17, T17⟩ := st_nO (c := 2) (N' := 38) (w' := 16934) T16 rfl rfl (by decide)
  obtain ⟨A18, a18, S18, m18, d18, e18, T18⟩ := st_bd (R := 256) (x := 256) (N' := 45) (w' := 18484) rfl (by decide) T17 rfl rfl (by decide)
  obtain ⟨S19, m19, e19, T19⟩ := st_pR (c := 2) (l := 37) (j := 0) (v := 38) T18 (by decide) (by decide) (by decide) (by decide)
  obtain ⟨A20, a20, S20, m20, d20, e20, T20⟩ := st_new (c := 4) (F := f39) (N' := 49) (w' := 18497) [(0, 20, 3), (1, 20, 3), (2, 20, 3)] rfl T19 rfl rfl (by decide) (by decide) (by decide)
  obtain ⟨S21, m21, e21, T21⟩ := st_pR (c := 2) (l := 37) (j := 1) (v := 45) T20 (by decide) (by decide) (by decide) (by decide)
  obtain ⟨A22, a22, S22, m22, d22, e22, T22⟩ := st_new (c := 4) (F := f39) (N' := 53) (w' := 18510) [(0, 20, 3), (1, 20, 3), (2, 20, 3)] rfl T21 rfl rfl (by decide) (by decide) (by decide)
  obtain ⟨S23, m23, e23, T23⟩ := st_pR (c := 2) (l := 37) (j := 2) (v := 49) T22 (by decide) (by decide) (by decide) (by decide)
  have c23 : f30 37 (z_hp S17 m17) = some ((), z_hp S23 m23) := by
    unfold f30
    exact Rn_B d18 (Rn_B e18 (Rn_B e19 (Rn_B d20 (Rn_B e20 (Rn_B e21 (Rn_B d22 (Rn_B e22 (Rn_B e23 (rfl)))))))))
  obtain ⟨S24, m24, e24, T24⟩ := st_pR (c := 11) (l := 0) (j := 5) (v := 37) T23 (by decide) (by decide) (by decide) (by decide)
  obtain ⟨S25, m25, e25, T25⟩ := st_nO (c := 9) (N' := 54) (w' := 18511) T24 rfl rfl (by decide)
  obtain ⟨A26, a26, S26, m26, d26, e26, T26⟩ := st_bd (R := 256) (x := 256) (N' := 61) (w' := 20061) rfl (by decide) T25 rfl rfl (by decide)
  obtain ⟨S27, m27, e27, T27⟩ := st_pR (c := 9) (l := 53) (j := 0) (v := 54) T26 (by decide) (by decide) (by decide) (by decide)
  have c27 : f110 53 (z_hp S25 m25) = some ((), z_hp S27 m27) := by
    unfold f110
    exact Rn_B d26 (Rn_B e26 (Rn_B e27 (rfl)))
  obtain ⟨S28, m28, e28, T28⟩ := st_pR (c := 11) (l := 0) (j := 6) (v := 53) T27 (by decide) (by decide) (by decide) (by decide)
  obtain ⟨S29, m29, e29, T29⟩ := st_nO (c := 6) (N' := 62) (w' := 20062) T28 rfl rfl (by decide)
  have g2 := st_gR (c := 11) (l := 0) (j := 1) (v := 8) T29 (by decide) (by decide)
  obtain ⟨S30, m30, e30, T30⟩ := st_pR (c := 6) (l := 61) (j := 0) (v := 8) T29 (by decide) (by decide) (by decide) (by decide)
  have c30 : f59 61 8 (z_hp S29 m29) = some ((), z_hp S30 m30) := by
    unfold f59
    exact Rn_B e30 (rfl)
  obtain ⟨S31, m31, e31, T31⟩ := st_pR (c := 11) (l := 0) (j := 7) (v := 61) T30 (by decide) (by decide) (by decide) (by decide)
  obtain ⟨A32, a32, S32, m32, d32, e32, T32⟩ := st_pg (N' := 241) (w' := 29377) T31 rfl rfl (by decide)
  obtain ⟨S33, m33, e33, T33⟩ := st_pR (c := 11) (l := 0) (j := 8) (v := 62) T32 (by decide) (by decide) (by decide) (by decide)
  obtain ⟨S34, m34, e34, T34⟩ := st_nA (k := 23) (L := 10) (x := 10) (N' := 242) (w' := 29387) T33 rfl (by decide) rfl rfl (by decide)
  obtain ⟨S35, m35, e35, T35⟩ := st_pR (c := 11) (l := 0) (j := 9) (v := 241) T34 (by decide) (by decide) (by decide) (by decide)
  obtain ⟨A36, a36, S36, m36, d36, e36, T36⟩ := st_pg (N' := 421) (w' := 38702) T35 rfl rfl (by decide)
  obtain ⟨S37, m37, e37, T37⟩ := st_pR (c := 11) (l := 0) (j := 10) (v := 242) T36 (by decide) (by decide) (by decide) (by decide)
  obtain ⟨A38, a38, S38, m38, d38, e38, T38⟩ := st_pg (N' := 600) (w' := 48017) T37 rfl rfl (by decide)
  obtain ⟨S39, m39, e39, T39⟩ := st_pR (c := 11) (l := 0) (j := 11) (v := 421) T38 (by decide) (by decide) (by decide) (by decide)
  have g3 := st_gR (c := 11) (l := 0) (j := 9) (v := 241) T39 (by decide) (by decide)
  obtain ⟨A40, a40, S40, m40, d40, e40, T40⟩ := st_pg (N' := 779) (w' := 57332) T39 rfl rfl (by decide)
  obtain ⟨S41, m41, e41, T41⟩ := st_wR (l := 241) (j := 0) (v := 600) (L := 10) (x := 0) T40 rfl (by decide) (by decide) (by decide) (by decide) (by decide) (by decide) (by decide)
  have b0 : f123_144b 0 0 (z_hp S39 m39) = some (.inl (0, 1), (z_hp S41 m41)) := by
    unfold f123_144b
    rw [if_pos (by decide)]
    exact Rn_B g3 (Rn_B d40 (Rn_B e40 (Rn_B e41 rfl)))
  have g4 := st_gR (c := 11) (l := 0) (j := 9) (v := 241) T41 (by decide) (by decide)
  obtain ⟨A42, a42, S42, m42, d42, e42, T42⟩ := st_pg (N' := 958) (w' := 66647) T41 rfl rfl (by decide)
  obtain ⟨S43, m43, e43, T43⟩ := st_wR (l := 241) (j := 1) (v := 779) (L := 10) (x := 1) T42 rfl (by decide) (by decide) (by decide) (by decide) (by decide) (by decide) (by decide)
  have b1 : f123_144b 0 1 (z_hp S41 m41) = some (.inl (0, 2), (z_hp S43 m43)) := by
    unfold f123_144b
    rw [if_pos (by decide)]
    exact Rn_B g4 (Rn_B d42 (Rn_B e42 (Rn_B e43 rfl)))
  have g5 := st_gR (c := 11) (l := 0) (j := 9) (v := 241) T43 (by decide) (by decide)
  obtain ⟨A44, a44, S44, m44, d44, e44, T44⟩ := st_pg (N' := 1137) (w' := 75962) T43 rfl rfl (by decide)
  obtain ⟨S45, m45, e45, T45⟩ := st_wR (l := 241) (j := 2) (v := 958) (L := 10) (x := 2) T44 rfl (by decide) (by decide) (by decide) (by decide) (by decide) (by decide) (by decide)
  have b2 : f123_144b 0 2 (z_hp S43 m43) = some (.inl (0, 3), (z_hp S45 m45)) := by
    unfold f123_144b
    rw [if_pos (by decide)]
    exact Rn_B g5 (Rn_B d44 (Rn_B e44 (Rn_B e45 rfl)))
  have g6 := st_gR (c := 11) (l := 0) (j := 9) (v := 241) T45 (by decide) (by decide)
  obtain ⟨A46, a46, S46, m46, d46, e46, T46⟩ := st_pg (N' := 1316) (w' := 85277) T45 rfl rfl (by decide)
  obtain ⟨S47, m47, e47, T47⟩ := st_wR (l := 241) (j := 3) (v := 1137) (L := 10) (x := 3) T46 rfl (by decide) (by decide) (by decide) (by decide) (by decide) (by decide) (by decide)
  have b3 : f123_144b 0 3 (z_hp S45 m45) = some (.inl (0, 4), (z_hp S47 m47)) := by
    unfold f123_144b
    rw [if_pos (by decide)]
    exact Rn_B g6 (Rn_B d46 (Rn_B e46 (Rn_B e47 rfl)))
  have g7 := st_gR (c := 11) (l := 0) (j := 9) (v := 241) T47 (by decide) (by decide)
  obtain ⟨A48, a48, S48, m48, d48, e48, T48⟩ := st_pg (N' := 1495) (w' := 94592) T47 rfl rfl (by decide)
  obtain ⟨S49, m49, e49, T49⟩ := st_wR (l := 241) (j := 4) (v := 1316) (L := 10) (x := 4) T48 rfl (by decide) (by decide) (by decide) (by decide) (by decide) (by decide) (by decide)
  have b4 : f123_144b 0 4 (z_hp S47 m47) = some (.inl (0, 5), (z_hp S49 m49)) := by
    unfold f123_144b
    rw [if_pos (by decide)]
    exact Rn_B g7 (Rn_B d48 (Rn_B e48 (Rn_B e49 rfl)))
  have g8 := st_gR (c := 11) (l := 0) (j := 9) (v := 241) T49 (by decide) (by decide)
  obtain ⟨A50, a50, S50, m50, d50, e50, T50⟩ := st_pg (N' := 1674) (w' := 103907) T49 rfl rfl (by decide)
  obtain ⟨S51, m51, e51, T51⟩ := st_wR (l := 241) (j := 5) (v := 1495) (L := 10) (x := 5) T50 rfl (by decide) (by decide) (by decide) (by decide) (by decide) (by decide) (by decide)
  have b5 : f123_144b 0 5 (z_hp S49 m49) = some (.inl (0, 6), (z_hp S51 m51)) := by
    unfold f123_144b
    rw [if_pos (by decide)]
    exact Rn_B g8 (Rn_B d50 (Rn_B e50 (Rn_B e51 rfl)))
  have g9 := st_gR (c := 11) (l := 0) (j := 9) (v := 241) T51 (by decide) (by decide)
  obtain ⟨A52, a52, S52, m52, d52, e52, T52⟩ := st_pg (N' := 1853) (w' := 113222) T51 rfl rfl (by decide)
  obtain ⟨S53, m53, e53, T53⟩ := st_wR (l := 241) (j := 6) (v := 1674) (L := 10) (x := 6) T52 rfl (by decide) (by decide) (by decide) (by decide) (by decide) (by decide) (by decide)
  have b6 : f123_144b 0 6 (z_hp S51 m51) = some (.inl (0, 7), (z_hp S53 m53)) := by
    unfold f123_144b
    rw [if_pos (by decide)]
    exact Rn_B g9 (Rn_B d52 (Rn_B e52 (Rn_B e53 rfl)))
  have g10 := st_gR (c := 11) (l := 0) (j := 9) (v := 241) T53 (by decide) (by decide)
  obtain ⟨A54, a54, S54, m54, d54, e54, T54⟩ := st_pg (N' := 2032) (w' := 122537) T53 rfl rfl (by decide)
  obtain ⟨S55, m55, e55, T55⟩ := st_wR (l := 241) (j := 7) (v := 1853) (L := 10) (x := 7) T54 rfl (by decide) (by decide) (by decide) (by decide) (by decide) (by decide) (by decide)
  have b7 : f123_144b 0 7 (z_hp S53 m53) = some (.inl (0, 8), (z_hp S55 m55)) := by
    unfold f123_144b
    rw [if_pos (by decide)]
    exact Rn_B g10 (Rn_B d54 (Rn_B e54 (Rn_B e55 rfl)))
  have g11 := st_gR (c := 11) (l := 0) (j := 9) (v := 241) T55 (by decide) (by decide)
  obtain ⟨A56, a56, S56, m56, d56, e56, T56⟩ := st_pg (N' := 2211) (w' := 131852) T55 rfl rfl (by decide)
  obtain ⟨S57, m57, e57, T57⟩ := st_wR (l := 241) (j := 8) (v := 2032) (L := 10) (x := 8) T56 rfl (by decide) (by decide) (by decide) (by decide) (by decide) (by decide) (by decide)
  have b8 : f123_144b 0 8 (z_hp S55 m55) = some (.inl (0, 9), (z_hp S57 m57)) := by
    unfold f123_144b
    rw [if_pos (by decide)]
    exact Rn_B g11 (Rn_B d56 (Rn_B e56 (Rn_B e57 rfl)))
  have g12 := st_gR (c := 11) (l := 0) (j := 9) (v := 241) T57 (by decide) (by decide)
  obtain ⟨A58, a58, S58, m58, d58, e58, T58⟩ := st_pg (N' := 2390) (w' := 141167) T57 rfl rfl (by decide)
  obtain ⟨S59, m59, e59, T59⟩ := st_wR (l := 241) (j := 9) (v := 2211) (L := 10) (x := 9) T58 rfl (by decide) (by decide) (by decide) (by decide) (by decide) (by decide) (by decide)
  have b9 : f123_144b 0 9 (z_hp S57 m57) = some (.inl (0, 10), (z_hp S59 m59)) := by
    unfold f123_144b
    rw [if_pos (by decide)]
    exact Rn_B g12 (Rn_B d58 (Rn_B e58 (Rn_B e59 rfl)))
  have b10 : f123_144b 0 10 (z_hp S59 m59) = some (.inr (), (z_hp S59 m59)) := by
    unfold f123_144b
    rw [if_neg (by decide)]; rfl
  have cl : f123_144 0 0 (z_hp S39 m39) = some ((), (z_hp S59 m59)) := mW_s (f := fun s => f123_144b (s.1) (s.2)) (F := 999999) b0 (mW_s (f := fun s => f123_144b (s.1) (s.2)) (F := 999998) b1 (mW_s (f := fun s => f123_144b (s.1) (s.2)) (F := 999997) b2 (mW_s (f := fun s => f123_144b (s.1) (s.2)) (F := 999996) b3 (mW_s (f := fun s => f123_144b (s.1) (s.2)) (F := 999995) b4 (mW_s (f := fun s => f123_144b (s.1) (s.2)) (F := 999994) b5 (mW_s (f := fun s => f123_144b (s.1) (s.2)) (F := 999993) b6 (mW_s (f := fun s => f123_144b (s.1) (s.2)) (F := 999992) b7 (mW_s (f := fun s => f123_144b (s.1) (s.2)) (F := 999991) b8 (mW_s (f := fun s => f123_144b (s.1) (s.2)) (F := 999990) b9 (mW_e (f := fun s => f123_144b (s.1) (s.2)) (F := 999989) b10))))))))))
  have cX : f123 0 (z_hp S1 m1) = some ((), (z_hp S59 m59)) := by
    unfold f123
    exact Rn_B d2 (Rn_B e2 (Rn_B e3 (Rn_B d4 (Rn_B e4 (Rn_B e5 (Rn_B d6 (Rn_B e6 (Rn_B e7 (Rn_B e8 (Rn_B c10 (Rn_B e11 (Rn_B e12 (Rn_B g1 (Rn_B c15 (Rn_B e16 (Rn_B e17 (Rn_B c23 (Rn_B e24 (Rn_B e25 (Rn_B c27 (Rn_B e28 (Rn_B e29 (Rn_B g2 (Rn_B c30 (Rn_B e31 (Rn_B d32 (Rn_B e32 (Rn_B e33 (Rn_B e34 (Rn_B e35 (Rn_B d36 (Rn_B e36 (Rn_B e37 (Rn_B d38 (Rn_B e38 (Rn_B e39 (cl)))))))))))))))))))))))))))))))))))))
  obtain ⟨A60, a60, S60, m60, d60, e60, T60⟩ := st_new (c := 12) (F := f176) (N' := 2424) (w' := 387622) [(1, 20, 184600), (5, 20, 150), (6, 20, 150), (7, 20, 150), (8, 20, 450), (9, 20, 150), (10, 20, 4608), (11, 20, 4608), (12, 20, 4608), (13, 20, 4608), (14, 20, 400), (16, 20, 21), (17, 20, 21), (18, 20, 4074), (19, 20, 4074), (21, 20, 1400), (22, 20, 1400), (23, 20, 1400), (24, 20, 1400), (25, 20, 1400), (27, 20, 4000), (28, 20, 4000), (30, 20, 520), (31, 20, 8320), (32, 20, 8320), (36, 21, 24), (37, 21, 24), (39, 20, 400), (40, 20, 400), (41, 20, 400), (43, 20, 64), (45, 20, 64), (46, 20, 200)] rfl T59 rfl rfl (by decide) (by decide) (by decide)
  obtain ⟨S61, m61, e61, T61⟩ := st_nA (k := 22) (L := 1) (x := 1) (N' := 2425) (w' := 387623) T60 rfl (by decide) rfl rfl (by decide)
  obtain ⟨⟨_, hcc, hss⟩, hG, l1, l2, l3, l4, l5⟩ := T61
  have kz : ∀ a c, (a, c) ∈ _ → c ≠ 0 → c ≠ 7 → ∀ j, m61 a j = 0 := fun a c h h0 h7 j => by
    obtain ⟨x1, x2⟩ := l1 (a, c) h
    exact (hG a x1).1 (by rw [show z_kd S61 a = c from x2]; exact h0) (by rw [show z_kd S61 a = c from x2]; exact h7) j
  have r91 : ∀ j, m61 2391 j = 0 := fun j => by
    obtain ⟨x1, x2, _⟩ := l3 (2391, 20, 184600) (by decide)
    exact (hG 2391 x1).1 (by rw [show z_kd S61 2391 = 20 from x2]; decide) (by rw [show z_kd S61 2391 = 20 from x2]; decide) j
  have r90 : ∀ j, m61 2390 j = 0 := kz 2390 12 (by decide) (by decide) (by decide)
  have r0 : ∀ j, m61 0 j = 0 := kz 0 11 (by decide) (by decide) (by decide)
  have r1 : ∀ j, m61 1 j = 0 := kz 1 10 (by decide) (by decide) (by decide)
  have r10 : ∀ j, m61 10 j = 0 := kz 10 5 (by decide) (by decide) (by decide)
  have hpl : ∀ s, s < 12 → z_pid s ∈ [62, 242, 421, 600, 779, 958, 1137, 1316, 1495, 1674, 1853, 2032, 2211] := by
    intro s hs
    have : s = 0 ∨ s = 1 ∨ s = 2 ∨ s = 3 ∨ s = 4 ∨ s = 5 ∨ s = 6 ∨ s = 7 ∨ s = 8 ∨ s = 9 ∨ s = 10 ∨ s = 11 := by omega
    rcases this with rfl | rfl | rfl | rfl | rfl | rfl | rfl | rfl | rfl | rfl | rfl | rfl <;> decide
  have hX : z_XS S61 := by
    refine ⟨fun e he => (l1 e ((by decide : ∀ e ∈ z_xk, e ∈ _) e he)).2, fun e he => (l2 e ((by decide : ∀ e ∈ z_xr, e ∈ _) e he)).2, fun e he => (l3 (e.1, 20, e.2) ((by decide : ∀ e ∈ z_xa, (e.1, 20, e.2) ∈ _) e he)).2, ⟨(l4 (22, 256) (by decide)).2.1, (l4 (30, 256) (by decide)).2.1, (l4 (38, 256) (by decide)).2.1, (l4 (54, 256) (by decide)).2.1⟩, (l3 (241, 23, 10) (by decide)).2⟩
  have hz0 : (0 : Int32) = nI 0 := rfl
  have c242 : z_cp m61 242 z_P0 := by
    obtain ⟨x1, x2, x3⟩ := l5 242 (by decide)
    have x1 : 242 + 179 ≤ S61.1 := x1
    have pz : ∀ j, j ≠ 13 → m61 242 j = 0 := (hG 242 (by omega)).2.1 x2.1
    exact ⟨⟨pz 10 (by decide), fun c hc => absurd hc (Nat.not_lt_zero _)⟩, ⟨pz 11 (by decide), fun k hk => by rw [pz 12 (by decide), z_bit_0 hk]; rfl, fun k hk => absurd hk (Nat.not_lt_zero _)⟩, x3, fun k hk => absurd hk (Nat.not_lt_zero _)⟩
  have k242 : z_KN m61 242 z_P0 := by
    obtain ⟨x1, x2, x3⟩ := l5 242 (by decide)
    have x1 : 242 + 179 ≤ S61.1 := x1
    have pz : m61 242 14 = 0 := (hG 242 (by omega)).2.1 x2.1 14 (by decide)
    exact ⟨Or.inl pz, fun q => by rw [pz] at q; exact absurd q (by decide)⟩
  refine ⟨S1, m1, _, _, _, _, S60, m60, S61, m61, e1, cX, d60, e60, e61, ⟨0, 1, fun i => i + 2, ⟨hX, (l5 62 (by decide)).2.1, fun s hs => (l5 (z_pid s) (hpl s hs)).2.1, ⟨by decide, by decide, fun i hi => by show i + 2 < 12; omega⟩, ⟨by decide, fun i hi => ⟨by show i + 2 ≠ 0; omega, by show i + 2 ≠ 1; omega⟩, fun i j _ _ h => by show i + 2 ≠ j + 2; omega⟩, (l2 (0, 10, 242) (by decide)).2, (l2 (0, 11, 421) (by decide)).2, fun i hi => ?_⟩, ⟨fun s hs k hk => (l5 (z_pid s) (hpl s hs)).2.2 k hk, (l5 62 (by decide)).2.2, (l4 (22, 256) (by decide)).2.2, (l4 (30, 256) (by decide)).2.2, (l4 (38, 256) (by decide)).2.2, (l4 (54, 256) (by decide)).2.2⟩, ⟨r1 6, fun i hi => absurd hi (Nat.not_lt_zero _)⟩, ⟨⟨c242, k242⟩, r0 12, r0 13, fun i hi => absurd hi (Nat.not_lt_zero _)⟩, r10 17, r10 15⟩, ⟨⟨r90 4, fun i hi => absurd hi (Nat.not_lt_zero _)⟩, ⟨by decide, by decide, by decide, r91 _, r91 _, fun c hc => absurd hc (Nat.not_lt_zero _), fun k hk => absurd hk (Nat.not_lt_zero _)⟩, r90 3, r90 2, fun i hi => absurd hi (Nat.not_lt_zero _), r90 35, r90 33, fun c n _ _ _ => r91 _, fun i hi => absurd hi (Nat.not_lt_zero _)⟩, ⟨(l1 (2390, 12) (by decide)).2, fun e he => ?_⟩, (l3 (2424, 22, 1) (by decide)).2, hcc, hss⟩
  · have hi2 : i = 0 ∨ i = 1 ∨ i = 2 ∨ i = 3 ∨ i = 4 ∨ i = 5 ∨ i = 6 ∨ i = 7 ∨ i = 8 ∨ i = 9 := by omega
    rcases hi2 with rfl | rfl | rfl | rfl | rfl | rfl | rfl | rfl | rfl | rfl
    · exact (l2 (241, 0, 600) (by decide)).2
    · exact (l2 (241, 1, 779) (by decide)).2
    · exact (l2 (241, 2, 958) (by decide)).2
    · exact (l2 (241, 3, 1137) (by decide)).2
    · exact (l2 (241, 4, 1316) (by decide)).2
    · exact (l2 (241, 5, 1495) (by decide)).2
    · exact (l2 (241, 6, 1674) (by decide)).2
    · exact (l2 (241, 7, 1853) (by decide)).2
    · exact (l2 (241, 8, 2032) (by decide)).2
    · exact (l2 (241, 9, 2211) (by decide)).2
  · exact ⟨(l2 (2390, e.1, e.2.1) ((by decide : ∀ e ∈ z_mrow, (2390, e.1, e.2.1) ∈ _) e he)).2, (l3 (e.2.1, e.2.2.1, e.2.2.2) ((by decide : ∀ e ∈ z_mrow, (e.2.1, e.2.2.1, e.2.2.2) ∈ _) e he)).2⟩
theorem z_A0_W : z_WA z_A0 := by
  have hw : z_wf z_P0 := ⟨⟨by decide, fun c hc => absurd hc (Nat.not_lt_zero _)⟩, fun c n hc => absurd hc (Nat.not_lt_zero _), by decide, fun k hk => absurd hk (Nat.not_lt_zero _), fun k hk => absurd hk (Nat.not_lt_zero _), fun j k hj => absurd hj (Nat.not_lt_zero _)⟩
  have h60 : z_b60 z_P0 := fun k hk => absurd hk (Nat.not_lt_zero _)
  exact ⟨⟨by decide, fun i hi => absurd hi (Nat.not_lt_zero _)⟩, ⟨hw, h60⟩, (fun Bg h => by cases h), by decide, fun i hi => absurd hi (Nat.not_lt_zero _)⟩
end
