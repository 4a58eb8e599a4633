-- deps: 91.00.run 91.01.run2 91.02.run3 91.03.run4 91.04.run5 91.05.run6 91.06.crun 91.07.crun2 91.08.crun3 91.09.crun4 91.10.crun5 91.11.crun6 91.12.crun7 91.13.crun8 91.14.crun9 91.15.crun10
/-! a run: the reference's machine -/
section
variable {P : z_Pg} {h h' : y_Qh} {k0 : Nat} {n : Nat} {out : y_V} {a : y_Ac} {s : List y_Ac} {S : z_S} {m : z_m}
def y_rst (k : Int32) (st : Nat) : Nat := if k = 10 ∧ st = 2 then 3 else st
def y_dr (k : Int32) (p st : Nat) : Nat := if (k = 5 ∨ k = 10) ∧ st = 2 then 1 else if k = 7 ∧ st = p + 1 then p else 0
def y_rv (P : z_Pg) (h : y_Qh) (a : y_Ac) : List y_V := a.2.2.2.drop (y_dr (y_k P h a) (y_p P h a) a.2.2.1)
def y_rh (P : z_Pg) (h : y_Qh) : List y_Ac → Nat
  | [] => 0
  | a :: s => y_rh P h s + (y_rv P h a).length
def y_rf (P : z_Pg) (h : y_Qh) (a : y_Ac) : Nat := a.1 + 1 + (if y_k P h a = 7 ∧ a.2.2.1 = y_p P h a + 1 then 1 else 0)
def y_rS (P : z_Pg) (h : y_Qh) (m : z_m) : List y_Ac → Prop
  | [] => True
  | a :: s => ((m 2406 s.length = nI a.1 ∧ m 2407 s.length = nI a.2.1 ∧ m 2408 s.length = nI (y_rst (y_k P h a) a.2.2.1)) ∧ ((y_k P h a = 10 → a.2.2.1 ≤ 1) → a.2.2.1 < y_p P h a → m 2409 s.length = nI (y_pt P h a a.2.2.1)) ∧ m 2410 s.length = nI (y_rh P h s) ∧ ∀ j, j < (y_rv P h a).length → m 2411 (y_rh P h s + j) = (y_g (y_rv P h a) j).1 ∧ m 2412 (y_rh P h s + j) = (y_g (y_rv P h a) j).2) ∧ y_rS P h m s
def y_sr (s : Nat) : Nat := if s = 1 then 192 else if s = 0 then 193 else s - 2
def y_rF (m : z_m) (h : y_Qh) (F : Nat) : Prop := ∀ f, f ≤ F → m 2402 f = nI (y_qm h f) ∧ m 2403 f = nI (y_qo h f) ∧ ∀ s v, s < 62 → y_ql h f s = some v → m 2404 (194 * f + y_sr s) = v.1 ∧ m 2405 (194 * f + y_sr s) = v.2
def y_rO (m : z_m) (h : y_Qh) : Prop := m 2390 29 = nI (y_qn h) ∧ ∀ o, o < y_qn h → m 2413 o = nI (y_qc h o) ∧ ∀ n, n < 16 → m 2414 (16 * o + n) = (y_qf h o n).1 ∧ m 2415 (16 * o + n) = (y_qf h o n).2
def y_rQ (P : z_Pg) (m : z_m) (s : List y_Ac) (h : y_Qh) (n : Nat) (out : y_V) : Prop := (m 2390 20 = nI s.length ∧ m 2390 33 = nI n ∧ m 2390 34 = -1 ∧ m 2390 35 = 0) ∧ y_rS P h m s ∧ y_rO m h ∧ match s with
  | [] => m 2411 0 = out.1 ∧ m 2412 0 = out.2
  | a :: _ => m 2390 26 = nI (y_rh P h s) ∧ m 2390 15 = nI (y_rf P h a) ∧ y_rF m h a.1
/-- what a run of the reference leaves be -/
def y_rR (m m' : z_m) : Prop := (∀ a, a < 2402 ∨ 2415 < a → a ≠ 2390 → m' a = m a) ∧ ∀ j, j ≠ 15 → j ≠ 20 → j ≠ 26 → j ≠ 29 → j ≠ 33 → j ≠ 34 → j ≠ 35 → m' 2390 j = m 2390 j
theorem y_rR.refl (m : z_m) : y_rR m m := ⟨fun _ _ _ => rfl, fun _ _ _ _ _ _ _ _ => rfl⟩
theorem y_rR.trans {m m' m'' : z_m} (h : y_rR m m') (h2 : y_rR m' m'') : y_rR m m'' := ⟨fun a x y => (h2.1 a x y).trans (h.1 a x y), fun j a b c d e f g => (h2.2 j a b c d e f g).trans (h.2 j a b c d e f g)⟩
def y_rX (P : z_Pg) (m : z_m) (X : y_Qs) : Prop := m 2390 34 = X.2.2.2.1 ∧ m 2390 35 = X.2.2.2.2.1 ∧ m 2390 33 = nI X.2.2.1 ∧ (X.2.2.2.1 = -1 → y_rQ P m X.1 X.2.1 X.2.2.1 X.2.2.2.2.2)
/-- ready to begin a node -/
def y_rP (P : z_Pg) (m : z_m) (s : List y_Ac) (h : y_Qh) (n f : Nat) : Prop := (m 2390 20 = nI s.length ∧ m 2390 33 = nI n ∧ m 2390 34 = -1 ∧ m 2390 35 = 0) ∧ y_rS P h m s ∧ y_rO m h ∧ m 2390 26 = nI (y_rh P h s) ∧ m 2390 15 = nI (f + 1) ∧ y_rF m h f
theorem y_rv_eq {a : y_Ac} (h2 : y_qm h' a.1 = y_qm h a.1) : y_rv P h' a = y_rv P h a := by
  unfold y_rv
  rw [y_k_eq (P := P) (a := a) (a' := a) rfl h2 rfl, y_p_eq (P := P) (a := a) (a' := a) rfl h2 rfl]
theorem y_rh_eq : ∀ {s : List y_Ac}, (∀ b ∈ s, y_qm h' b.1 = y_qm h b.1) → y_rh P h' s = y_rh P h s
  | [], _ => rfl
  | a :: s, hs => by
    show y_rh P h' s + (y_rv P h' a).length = y_rh P h s + (y_rv P h a).length
    rw [y_rh_eq (fun b hb => hs b (List.mem_cons_of_mem _ hb)), y_rv_eq (hs a List.mem_cons_self)]
theorem y_rS_fr {m' : z_m} : ∀ {s : List y_Ac}, (∀ b ∈ s, y_qm h' b.1 = y_qm h b.1) → (∀ a, 2406 ≤ a → a ≤ 2410 → ∀ j, j < s.length → m' a j = m a j) → (∀ a, a = 2411 ∨ a = 2412 → ∀ j, j < y_rh P h s → m' a j = m a j) → y_rS P h m s → y_rS P h' m' s
  | [], _, _, _, _ => trivial
  | a :: s, hq, h1, h2, hs => by
    have e : s.length < (a :: s).length := Nat.lt_succ_self _
    have qa := hq a List.mem_cons_self
    have ek : y_k P h' a = y_k P h a := y_k_eq (P := P) rfl qa rfl
    have ep : y_p P h' a = y_p P h a := y_p_eq (P := P) rfl qa rfl
    have ept : ∀ j, y_pt P h' a j = y_pt P h a j := fun j => by unfold y_pt; rw [y_l_eq (P := P) (a := a) (a' := a) rfl qa]
    have erv : y_rv P h' a = y_rv P h a := y_rv_eq qa
    have erh : y_rh P h' s = y_rh P h s := y_rh_eq (fun b hb => hq b (List.mem_cons_of_mem _ hb))
    obtain ⟨⟨⟨g1, g2, g3⟩, g4, g5, g6⟩, gs⟩ := hs
    refine ⟨⟨⟨by rw [h1 2406 (by decide) (by decide) _ e]; exact g1, by rw [h1 2407 (by decide) (by decide) _ e]; exact g2, by rw [h1 2408 (by decide) (by decide) _ e, ek]; exact g3⟩, fun x y => ?_, by rw [h1 2410 (by decide) (by decide) _ e, erh]; exact g5, fun j hj => ?_⟩, y_rS_fr (fun b hb => hq b (List.mem_cons_of_mem _ hb)) (fun b x y j hj => h1 b x y j (Nat.lt_trans hj e)) (fun b hb j hj => h2 b hb j (Nat.lt_of_lt_of_le hj (Nat.le_add_right _ _))) gs⟩
    · rw [h1 2409 (by decide) (by decide) _ e, ept]
      rw [ek] at x
      rw [ep] at y
      exact g4 x y
    · rw [erv] at hj ⊢
      rw [erh, h2 2411 (Or.inl rfl) _ (Nat.add_lt_add_left hj _), h2 2412 (Or.inr rfl) _ (Nat.add_lt_add_left hj _)]
      exact g6 j hj
theorem y_rF_fr {m' : z_m} {F : Nat} (h1 : ∀ a, 2402 ≤ a → a ≤ 2405 → m' a = m a) (hF : y_rF m h F) : y_rF m' h F := fun f hf => by
  rw [h1 2402 (by decide) (by decide), h1 2403 (by decide) (by decide), h1 2404 (by decide) (by decide), h1 2405 (by decide) (by decide)]; exact hF f hf
theorem y_rO_fr {m' : z_m} (h0 : m' 2390 29 = m 2390 29) (h1 : ∀ a, 2413 ≤ a → a ≤ 2415 → m' a = m a) (hO : y_rO m h) : y_rO m' h := by
  unfold y_rO at *
  rw [h0, h1 2413 (by decide) (by decide), h1 2414 (by decide) (by decide), h1 2415 (by decide) (by decide)]; exact hO
theorem y_u90 (m0 : z_m) (b j : Nat) (v : Int32) (c : Nat) (hb : 2390 < b) : z_up m0 b j v 2390 c = m0 2390 c := by rw [z_up_row (by omega)]
theorem y_u02 (m0 : z_m) (j : Nat) (v : Int32) (c : Nat) : z_up m0 2402 j v 2390 c = m0 2390 c := y_u90 m0 2402 j v c (by decide)
theorem y_u03 (m0 : z_m) (j : Nat) (v : Int32) (c : Nat) : z_up m0 2403 j v 2390 c = m0 2390 c := y_u90 m0 2403 j v c (by decide)
theorem y_u04 (m0 : z_m) (j : Nat) (v : Int32) (c : Nat) : z_up m0 2404 j v 2390 c = m0 2390 c := y_u90 m0 2404 j v c (by decide)
theorem y_u05 (m0 : z_m) (j : Nat) (v : Int32) (c : Nat) : z_up m0 2405 j v 2390 c = m0 2390 c := y_u90 m0 2405 j v c (by decide)
theorem y_u06 (m0 : z_m) (j : Nat) (v : Int32) (c : Nat) : z_up m0 2406 j v 2390 c = m0 2390 c := y_u90 m0 2406 j v c (by decide)
theorem y_u07 (m0 : z_m) (j : Nat) (v : Int32) (c : Nat) : z_up m0 2407 j v 2390 c = m0 2390 c := y_u90 m0 2407 j v c (by decide)
theorem y_u08 (m0 : z_m) (j : Nat) (v : Int32) (c : Nat) : z_up m0 2408 j v 2390 c = m0 2390 c := y_u90 m0 2408 j v c (by decide)
theorem y_u09 (m0 : z_m) (j : Nat) (v : Int32) (c : Nat) : z_up m0 2409 j v 2390 c = m0 2390 c := y_u90 m0 2409 j v c (by decide)
theorem y_u10 (m0 : z_m) (j : Nat) (v : Int32) (c : Nat) : z_up m0 2410 j v 2390 c = m0 2390 c := y_u90 m0 2410 j v c (by decide)
theorem y_u11 (m0 : z_m) (j : Nat) (v : Int32) (c : Nat) : z_up m0 2411 j v 2390 c = m0 2390 c := y_u90 m0 2411 j v c (by decide)
theorem y_u12 (m0 : z_m) (j : Nat) (v : Int32) (c : Nat) : z_up m0 2412 j v 2390 c = m0 2390 c := y_u90 m0 2412 j v c (by decide)
theorem y_u13 (m0 : z_m) (j : Nat) (v : Int32) (c : Nat) : z_up m0 2413 j v 2390 c = m0 2390 c := y_u90 m0 2413 j v c (by decide)
theorem y_u14 (m0 : z_m) (j : Nat) (v : Int32) (c : Nat) : z_up m0 2414 j v 2390 c = m0 2390 c := y_u90 m0 2414 j v c (by decide)
theorem y_u15 (m0 : z_m) (j : Nat) (v : Int32) (c : Nat) : z_up m0 2415 j v 2390 c = m0 2390 c := y_u90 m0 2415 j v c (by decide)
theorem y_rf0 (f i : Nat) : y_rf P h (f, i, 0, []) = f + 1 := by
  unfold y_rf
  rw [if_neg (fun q => by have : (0 : Nat) = _ := q.2; omega)]
/-- start -/
theorem f243_r (hM : z_MS S) {f : Nat} (hP : y_rP P m s h n f) (hl : s.length ≤ 500) (hn : n ≤ 500) (i : Nat) : ∃ m', f243 2390 (nI i) (nI f) (z_hp S m) = some ((), z_hp S m') ∧ y_rX P m' (y_st s h n out f i) ∧ y_rR m m' := by
  obtain ⟨⟨c20, c33, c34, c35⟩, hS, hO, c26, c15, hF⟩ := hP
  unfold y_st
  by_cases g : n = 500
  · rw [if_pos g]
    refine ⟨z_up m 2390 34 5, ?_, ⟨z_up_s _ _ _ _, by rw [z_up_b (by decide)]; exact c35, by rw [z_up_b (by decide)]; exact c33, fun q => absurd (show (5 : Int32) = -1 from q) (by decide)⟩, ⟨fun a _ x => z_up_row x, fun j _ _ _ _ _ x _ => z_up_b x⟩⟩
    unfold f243
    simp (disch := ((try simp only [true_or, or_true, hM.k, hM.k2391, hM.k2392, hM.k2393, hM.k2394, hM.k2395, hM.k2396, hM.k2397, hM.k2398, hM.k2399, hM.k2400, hM.k2401, hM.k2402, hM.k2403, hM.k2404, hM.k2405, hM.k2406, hM.k2407, hM.k2408, hM.k2409, hM.k2410, hM.k2411, hM.k2412, hM.k2413, hM.k2414, hM.k2415, hM.k2416, hM.k2417, hM.k2418, hM.k2419, hM.k2420, hM.k2421, hM.k2422, hM.k2423, hM.l2391, hM.l2392, hM.l2393, hM.l2394, hM.l2395, hM.l2396, hM.l2397, hM.l2398, hM.l2399, hM.l2400, hM.l2401, hM.l2402, hM.l2403, hM.l2404, hM.l2405, hM.l2406, hM.l2407, hM.l2408, hM.l2409, hM.l2410, hM.l2411, hM.l2412, hM.l2413, hM.l2414, hM.l2415, hM.l2416, hM.l2417, hM.l2418, hM.l2419, hM.l2420, hM.l2421, hM.l2422, hM.l2423]) <;> (try omega))) only [↓reduceIte, ↓z_ite, ↓zR, ↓zB_R, ↓zB_B, ↓zB_ite, ↓zB_gI, ↓zB_pI, ↓zB_pZ, ↓zB_aK, ↓zB_G, ↓zB_lI, ↓zB_lZ, ↓zB_wI, ↓zB_wZ, ↓zB_lIl, ↓zB_wIl, zB_pI, zB_pZ, zB_lI, zB_lZ, zB_wI, zB_wZ, z_addl, z_ladd, z_mull, z_lmul, nI_add, z_subl, Nat.not_lt_zero, z_10, z_01, z_bitc, z_b0, z_b1, ↓zB_Gb, ↓zB_G0, ↓zB_G1, z_eql, z_leq, z_ltl, z_llt, z_eq, z_lt, z_m1lt, hM.k, hM.k2391, hM.k2392, hM.k2393, hM.k2394, hM.k2395, hM.k2396, hM.k2397, hM.k2398, hM.k2399, hM.k2400, hM.k2401, hM.k2402, hM.k2403, hM.k2404, hM.k2405, hM.k2406, hM.k2407, hM.k2408, hM.k2409, hM.k2410, hM.k2411, hM.k2412, hM.k2413, hM.k2414, hM.k2415, hM.k2416, hM.k2417, hM.k2418, hM.k2419, hM.k2420, hM.k2421, hM.k2422, hM.k2423, hM.l2391, hM.l2392, hM.l2393, hM.l2394, hM.l2395, hM.l2396, hM.l2397, hM.l2398, hM.l2399, hM.l2400, hM.l2401, hM.l2402, hM.l2403, hM.l2404, hM.l2405, hM.l2406, hM.l2407, hM.l2408, hM.l2409, hM.l2410, hM.l2411, hM.l2412, hM.l2413, hM.l2414, hM.l2415, hM.l2416, hM.l2417, hM.l2418, hM.l2419, hM.l2420, hM.l2421, hM.l2422, hM.l2423, ↓hM.g1, ↓hM.g5, ↓hM.g6, ↓hM.g7, ↓hM.g8, ↓hM.g9, ↓hM.g10, ↓hM.g11, ↓hM.g12, ↓hM.g13, ↓hM.g14, ↓hM.g16, ↓hM.g17, ↓hM.g18, ↓hM.g19, ↓hM.g21, ↓hM.g22, ↓hM.g23, ↓hM.g24, ↓hM.g25, ↓hM.g27, ↓hM.g28, ↓hM.g30, ↓hM.g31, ↓hM.g32, ↓hM.g36, ↓hM.g37, ↓hM.g39, ↓hM.g40, ↓hM.g41, ↓hM.g43, ↓hM.g45, ↓hM.g46, c33, g]
  · rw [if_neg g]
    have hl2 : s.length < 1400 := by omega
    have key : ∃ m', f243 2390 (nI i) (nI f) (z_hp S m) = some ((), z_hp S m') ∧ (m' 2390 20 = nI (s.length + 1) ∧ m' 2390 33 = nI (n + 1)) ∧ (m' 2406 s.length = nI f ∧ m' 2407 s.length = nI i ∧ m' 2408 s.length = 0 ∧ m' 2409 s.length = nI (i + 1) ∧ m' 2410 s.length = nI (y_rh P h s)) ∧ (∀ a j, (2406 ≤ a ∧ a ≤ 2410 → j ≠ s.length) → (a = 2390 → j ≠ 20 ∧ j ≠ 33) → m' a j = m a j) := by
      refine ⟨z_up (z_up (z_up (z_up (z_up (z_up (z_up m 2390 33 (nI (n + 1))) 2406 s.length (nI f)) 2407 s.length (nI i)) 2408 s.length 0) 2409 s.length (nI (i + 1))) 2410 s.length (nI (y_rh P h s))) 2390 20 (nI (s.length + 1)), ?_, ⟨z_up_s _ _ _ _, ?_⟩, ⟨?_, ?_, ?_, ?_, ?_⟩, fun a j x1 x2 => ?_⟩
      · unfold f243
        have q1 : z_up m 2390 33 (nI (n + 1)) 2390 20 = nI s.length := by rw [z_up_b (by decide)]; exact c20
        have q2 : z_up m 2390 33 (nI (n + 1)) 2390 26 = nI (y_rh P h s) := by rw [z_up_b (by decide)]; exact c26
        simp (disch := ((try simp only [true_or, or_true, hM.k, hM.k2391, hM.k2392, hM.k2393, hM.k2394, hM.k2395, hM.k2396, hM.k2397, hM.k2398, hM.k2399, hM.k2400, hM.k2401, hM.k2402, hM.k2403, hM.k2404, hM.k2405, hM.k2406, hM.k2407, hM.k2408, hM.k2409, hM.k2410, hM.k2411, hM.k2412, hM.k2413, hM.k2414, hM.k2415, hM.k2416, hM.k2417, hM.k2418, hM.k2419, hM.k2420, hM.k2421, hM.k2422, hM.k2423, hM.l2391, hM.l2392, hM.l2393, hM.l2394, hM.l2395, hM.l2396, hM.l2397, hM.l2398, hM.l2399, hM.l2400, hM.l2401, hM.l2402, hM.l2403, hM.l2404, hM.l2405, hM.l2406, hM.l2407, hM.l2408, hM.l2409, hM.l2410, hM.l2411, hM.l2412, hM.l2413, hM.l2414, hM.l2415, hM.l2416, hM.l2417, hM.l2418, hM.l2419, hM.l2420, hM.l2421, hM.l2422, hM.l2423]) <;> (try omega))) only [↓reduceIte, ↓z_ite, ↓zR, ↓zB_R, ↓zB_B, ↓zB_ite, ↓zB_gI, ↓zB_pI, ↓zB_pZ, ↓zB_aK, ↓zB_G, ↓zB_lI, ↓zB_lZ, ↓zB_wI, ↓zB_wZ, ↓zB_lIl, ↓zB_wIl, zB_pI, zB_pZ, zB_lI, zB_lZ, zB_wI, zB_wZ, z_addl, z_ladd, z_mull, z_lmul, nI_add, z_subl, Nat.not_lt_zero, z_10, z_01, z_bitc, z_b0, z_b1, ↓zB_Gb, ↓zB_G0, ↓zB_G1, z_eql, z_leq, z_ltl, z_llt, z_eq, z_lt, z_m1lt, hM.k, hM.k2391, hM.k2392, hM.k2393, hM.k2394, hM.k2395, hM.k2396, hM.k2397, hM.k2398, hM.k2399, hM.k2400, hM.k2401, hM.k2402, hM.k2403, hM.k2404, hM.k2405, hM.k2406, hM.k2407, hM.k2408, hM.k2409, hM.k2410, hM.k2411, hM.k2412, hM.k2413, hM.k2414, hM.k2415, hM.k2416, hM.k2417, hM.k2418, hM.k2419, hM.k2420, hM.k2421, hM.k2422, hM.k2423, hM.l2391, hM.l2392, hM.l2393, hM.l2394, hM.l2395, hM.l2396, hM.l2397, hM.l2398, hM.l2399, hM.l2400, hM.l2401, hM.l2402, hM.l2403, hM.l2404, hM.l2405, hM.l2406, hM.l2407, hM.l2408, hM.l2409, hM.l2410, hM.l2411, hM.l2412, hM.l2413, hM.l2414, hM.l2415, hM.l2416, hM.l2417, hM.l2418, hM.l2419, hM.l2420, hM.l2421, hM.l2422, hM.l2423, ↓hM.g1, ↓hM.g5, ↓hM.g6, ↓hM.g7, ↓hM.g8, ↓hM.g9, ↓hM.g10, ↓hM.g11, ↓hM.g12, ↓hM.g13, ↓hM.g14, ↓hM.g16, ↓hM.g17, ↓hM.g18, ↓hM.g19, ↓hM.g21, ↓hM.g22, ↓hM.g23, ↓hM.g24, ↓hM.g25, ↓hM.g27, ↓hM.g28, ↓hM.g30, ↓hM.g31, ↓hM.g32, ↓hM.g36, ↓hM.g37, ↓hM.g39, ↓hM.g40, ↓hM.g41, ↓hM.g43, ↓hM.g45, ↓hM.g46, c33, g, q1, q2, hl2, y_u06, y_u07, y_u08, y_u09, y_u10]
      · rw [z_up_b (by decide), y_u10, y_u09, y_u08, y_u07, y_u06, z_up_s]
      · rw [z_up_row (by decide), z_up_row (by decide), z_up_row (by decide), z_up_row (by decide), z_up_row (by decide), z_up_s]
      · rw [z_up_row (by decide), z_up_row (by decide), z_up_row (by decide), z_up_row (by decide), z_up_s]
      · rw [z_up_row (by decide), z_up_row (by decide), z_up_row (by decide), z_up_s]
      · rw [z_up_row (by decide), z_up_row (by decide), z_up_s]
      · rw [z_up_row (by decide), z_up_s]
      · by_cases g10 : a = 2390
        · subst g10
          rw [z_up_b (x2 rfl).1, y_u10, y_u09, y_u08, y_u07, y_u06, z_up_b (x2 rfl).2]
        · rw [z_up_row g10]
          by_cases g1 : 2406 ≤ a ∧ a ≤ 2410
          · rw [z_up_b (x1 g1), z_up_b (x1 g1), z_up_b (x1 g1), z_up_b (x1 g1), z_up_b (x1 g1), z_up_row g10]
          · rw [z_up_row (by omega), z_up_row (by omega), z_up_row (by omega), z_up_row (by omega), z_up_row (by omega), z_up_row g10]
    obtain ⟨m', e, ⟨d20, d33⟩, ⟨p1, p2, p3, p4, p5⟩, fr⟩ := key
    have fr90 : ∀ j, j ≠ 20 → j ≠ 33 → m' 2390 j = m 2390 j := fun j x y => fr 2390 j (fun q => absurd q.1 (by decide)) (fun _ => ⟨x, y⟩)
    have frr : ∀ a, a < 2406 ∨ 2410 < a → a ≠ 2390 → m' a = m a := fun a ha hb => funext (fun j => fr a j (fun q => by omega) (fun q => absurd q hb))
    have d34 : m' 2390 34 = -1 := by rw [fr90 34 (by decide) (by decide)]; exact c34
    have d35 : m' 2390 35 = 0 := by rw [fr90 35 (by decide) (by decide)]; exact c35
    refine ⟨m', e, ⟨d34, d35, d33, fun _ => ⟨⟨d20, d33, d34, d35⟩, ⟨⟨⟨p1, p2, ?_⟩, fun _ _ => p4, p5, fun j hj => ?_⟩, ?_⟩, y_rO_fr (fr90 29 (by decide) (by decide)) (fun a x y => frr a (by omega) (by omega)) hO, ?_, ?_, y_rF_fr (fun a x y => frr a (by omega) (by omega)) hF⟩⟩, ⟨fun a x y => frr a (by omega) y, fun j _ x _ _ y _ _ => fr90 j x y⟩⟩
    · rw [p3]
      show (0 : Int32) = nI (y_rst _ 0)
      unfold y_rst
      rw [if_neg (fun q => absurd q.2 (by decide))]; rfl
    · exfalso
      unfold y_rv at hj
      rw [List.length_drop] at hj
      have : (([] : List y_V)).length - _ > 0 := Nat.lt_of_le_of_lt (Nat.zero_le _) hj
      simp at this
    · exact y_rS_fr (fun b _ => rfl) (fun a x y j hj => fr a j (fun _ => Nat.ne_of_lt hj) (fun q => by omega)) (fun a ha j _ => by rw [frr a (by omega) (by omega)]) hS
    · rw [fr90 26 (by decide) (by decide)]
      have : y_rh P h ((f, i, 0, []) :: s) = y_rh P h s := by
        show y_rh P h s + (y_rv P h (f, i, 0, [])).length = _
        unfold y_rv
        rw [List.length_drop]
        show _ + (0 - _) = _
        omega
      rw [this]; exact c26
    · rw [fr90 15 (by decide) (by decide), y_rf0]; exact c15
/-- a value pushed, and what was being found is over -/
theorem y_rpush (hC : y_CH P h k0 (a :: s)) (hx : ∀ b ∈ s, y_qm h' b.1 = y_qm h b.1) (c20 : m 2390 20 = nI s.length) (c33 : m 2390 33 = nI n) (c34 : m 2390 34 = -1) (c35 : m 2390 35 = 0) (c26 : m 2390 26 = nI (y_rh P h s + 1)) (c15 : m 2390 15 = nI (a.1 + 1)) {v : y_V} (hv : m 2411 (y_rh P h s) = v.1 ∧ m 2412 (y_rh P h s) = v.2) (hS : y_rS P h m s) (hO : y_rO m h') (hF : ∀ b s', s = b :: s' → y_rF m h' b.1) : y_rX P m (y_fin s h' n out v) := by
  cases s with
  | nil => exact ⟨c34, c35, c33, fun _ => ⟨⟨c20, c33, c34, c35⟩, trivial, hO, hv⟩⟩
  | cons b s =>
    obtain ⟨k1, k2, _⟩ := hC.2.1
    have qb := hx b List.mem_cons_self
    have hS' : y_rS P h' m (b :: s) := y_rS_fr hx (fun _ _ _ _ _ => rfl) (fun _ _ _ _ => rfl) hS
    have erh : y_rh P h' s = y_rh P h s := y_rh_eq (fun c hc => hx c (List.mem_cons_of_mem _ hc))
    have ek : y_k P h' b = y_k P h b := y_k_eq (P := P) rfl qb rfl
    have ep : y_p P h' b = y_p P h b := y_p_eq (P := P) rfl qb rfl
    have hdr : y_dr (y_k P h b) (y_p P h b) b.2.2.1 ≤ b.2.2.2.length := by
      unfold y_dr
      by_cases g : (y_k P h b = 5 ∨ y_k P h b = 10) ∧ b.2.2.1 = 2
      · rw [if_pos g]
        have : y_xc (y_k P h b) b.2.2.1 = 2 := by
          unfold y_xc
          rw [if_neg (fun q => by rcases g.1 with g1 | g1 <;> rw [g1] at q <;> exact absurd q.1 (by decide)), g.2]
        omega
      · rw [if_neg g]
        by_cases g7 : y_k P h b = 7 ∧ b.2.2.1 = y_p P h b + 1
        · rw [if_pos g7]
          have : y_xc (y_k P h b) b.2.2.1 = y_p P h b + 1 := by
            unfold y_xc
            rw [if_neg (fun q => by rw [g7.1] at q; exact absurd q.1 (by decide)), g7.2]
          omega
        · rw [if_neg g7]; exact Nat.zero_le _
    have erv : y_rv P h' (b.1, b.2.1, b.2.2.1, b.2.2.2 ++ [v]) = y_rv P h b ++ [v] := by
      have e1 : y_rv P h' (b.1, b.2.1, b.2.2.1, b.2.2.2 ++ [v]) = (b.2.2.2 ++ [v]).drop (y_dr (y_k P h' b) (y_p P h' b) b.2.2.1) := rfl
      rw [e1, ek, ep, List.drop_append_of_le_length hdr]; rfl
    obtain ⟨⟨g123, g4, g5, g6⟩, gs⟩ := hS'
    refine ⟨c34, c35, c33, fun _ => ⟨⟨c20, c33, c34, c35⟩, ⟨⟨g123, g4, g5, fun j hj => ?_⟩, gs⟩, hO, ?_, ?_, hF b s rfl⟩⟩
    · have hj : j < (y_rv P h' (b.1, b.2.1, b.2.2.1, b.2.2.2 ++ [v])).length := hj
      show m 2411 (y_rh P h' s + j) = (y_g (y_rv P h' (b.1, b.2.1, b.2.2.1, b.2.2.2 ++ [v])) j).1 ∧ m 2412 (y_rh P h' s + j) = (y_g (y_rv P h' (b.1, b.2.1, b.2.2.1, b.2.2.2 ++ [v])) j).2
      rw [erv] at hj ⊢
      rw [List.length_append] at hj
      have hj : j < (y_rv P h b).length + 1 := hj
      rw [erh]
      rcases Nat.lt_or_ge j (y_rv P h b).length with w | w
      · rw [y_g_app w]
        have := g6 j (by rw [y_rv_eq qb]; exact w)
        rw [y_rv_eq qb, erh] at this
        exact this
      · obtain rfl : j = (y_rv P h b).length := by omega
        rw [y_g_last]
        exact hv
    · rw [c26]
      show nI (y_rh P h s + (y_rv P h b).length + 1) = nI (y_rh P h' s + (y_rv P h' (b.1, b.2.1, b.2.2.1, b.2.2.2 ++ [v])).length)
      rw [erv, erh, List.length_append]; rfl
    · rw [c15]
      show nI (a.1 + 1) = nI (b.1 + 1 + (if y_k P h' b = 7 ∧ b.2.2.1 = y_p P h' b + 1 then 1 else 0))
      rw [ek, ep]
      by_cases g7 : y_k P h b = 7 ∧ b.2.2.1 = y_p P h b + 1
      · rw [if_pos g7] at k2
        rw [if_pos g7, k2]
      · rw [if_neg g7] at k2
        rw [if_neg g7, k2]
end
