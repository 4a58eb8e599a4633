-- deps: 90.52.map
/-! an argument more: the reference writes a body -/
section
variable {S : z_S} {m : z_m} {A : z_A} {P : z_Pg}
/-- those below a number that are in a set -/
def z_fl (c : Nat → Bool) : Nat → List Nat
  | 0 => []
  | n + 1 => z_fl c n ++ (if c n = true then [n] else [])
theorem z_fl_len (c : Nat → Bool) : ∀ n, (z_fl c n).length = z_ct c n
  | 0 => rfl
  | n + 1 => by
    show (z_fl c n ++ _).length = _
    rw [List.length_append, z_fl_len c n, z_ct_s]
    split <;> rfl
theorem z_fl_mem {c : Nat → Bool} : ∀ {n x : Nat}, x ∈ z_fl c n → x < n ∧ c x = true
  | 0, x, h => by cases h
  | n + 1, x, h => by
    rcases List.mem_append.mp (show x ∈ z_fl c n ++ _ from h) with h | h
    · have := z_fl_mem h; exact ⟨by omega, this.2⟩
    · by_cases g : c n = true
      · rw [if_pos g] at h
        rw [List.mem_singleton.mp h]; exact ⟨by omega, g⟩
      · rw [if_neg g] at h; cases h
theorem z_fl_congr {c d : Nat → Bool} : ∀ {n : Nat}, (∀ i, i < n → c i = d i) → z_fl c n = z_fl d n
  | 0, _ => rfl
  | n + 1, h => by
    show z_fl c n ++ _ = z_fl d n ++ _
    rw [z_fl_congr (fun i hi => h i (by omega)), h n (by omega)]
theorem z_fl_nil {c : Nat → Bool} {n : Nat} (h : ∀ i, i < n → c i = false) : z_fl c n = [] := by
  cases e : z_fl c n with
  | nil => rfl
  | cons x t =>
    have := z_fl_mem (c := c) (n := n) (x := x) (by rw [e]; exact List.mem_cons_self)
    rw [h x this.1] at this; cases this.2
theorem z_fl_split {a b c : Nat → Bool} : ∀ n, (∀ j, j < n → c j = (a j || b j)) → (∀ j, j < n → a j = true → b j = false) → (∀ i j, i < j → j < n → b i = true → a j = false) → z_fl c n = z_fl a n ++ z_fl b n
  | 0, _, _, _ => rfl
  | n + 1, h1, h2, h3 => by
    have ih := z_fl_split (a := a) (b := b) (c := c) n (fun j hj => h1 j (by omega)) (fun j hj => h2 j (by omega)) (fun i j hi hj => h3 i j hi (by omega))
    show z_fl c n ++ _ = (z_fl a n ++ _) ++ (z_fl b n ++ _)
    rw [ih, h1 n (by omega)]
    cases ga : a n with
    | true =>
      have gb := h2 n (by omega) ga
      have nb : z_fl b n = [] := z_fl_nil (fun i hi => by
        cases q : b i with
        | false => rfl
        | true => rw [h3 i n hi (by omega) q] at ga; cases ga)
      rw [gb, nb]; simp
    | false =>
      rw [if_neg Bool.false_ne_true, Bool.false_or, List.append_nil, List.append_assoc]
theorem z_gD_l {a b : List Nat} {t : Nat} (h : t < a.length) : (a ++ b).getD t 0 = a.getD t 0 := by
  rw [List.getD_eq_getElem?_getD, List.getD_eq_getElem?_getD, List.getElem?_append_left h]
theorem z_gD_r {a b : List Nat} {t : Nat} (h : a.length ≤ t) : (a ++ b).getD t 0 = b.getD (t - a.length) 0 := by
  rw [List.getD_eq_getElem?_getD, List.getD_eq_getElem?_getD, List.getElem?_append_right h]
theorem z_gD_m {a : List Nat} {t : Nat} (h : t < a.length) : a.getD t 0 ∈ a := by
  rw [List.getD_eq_getElem?_getD, List.getElem?_eq_getElem h]; exact List.getElem_mem h
/-- what is owed here is written -/
theorem f294_23_sp (hM : z_MS S) {j i a r : Nat} (hi : i < 1000) (hr : a + r ≤ 200) {v c : Int32} {L : List z_N} {g : Nat → Nat} (hg : ∀ t, t < a → m 2423 t = nI (g t) ∧ g t ≠ i ∧ g t < 1000) (hg2 : ∀ t, a ≤ t → t < a + r → m 2423 t = nI i) (ho : z_ol m L) (hL : L.length + r < 400) : ∃ m', f294_23 2390 (nI j) v c (nI (a + r)) (nI i) (z_hp S m) = f294_55 2390 (nI j) v c (nI a) (nI i) (z_hp S m') ∧ z_ol m' (L ++ List.replicate r (0, v, 0)) ∧ z_eF m m' := by
  unfold f294_23
  have key := z_loopT (f := fun s => f294_23b (s.1) (s.2.1) (s.2.2.1) (s.2.2.2.1) (s.2.2.2.2.1) (s.2.2.2.2.2)) (S := S) (fun N st m' => ∃ d, N = r - d ∧ d ≤ r ∧ st = (2390, nI j, v, c, nI (a + (r - d)), nI i) ∧ z_ol m' (L ++ List.replicate d (0, v, 0)) ∧ z_eF m m') (fun X m' => X = f294_55 2390 (nI j) v c (nI a) (nI i) ∧ z_ol m' (L ++ List.replicate r (0, v, 0)) ∧ z_eF m m') ?_ 1000000 r (2390, nI j, v, c, nI (a + r), nI i) m ⟨0, rfl, Nat.zero_le _, rfl, by rw [List.replicate_zero, List.append_nil]; exact ho, z_eF.refl m⟩ (by omega)
  · obtain ⟨X, m', e, rfl, g⟩ := key
    exact ⟨m', e, g⟩
  · rintro N st m1 ⟨d, rfl, hd, rfl, g1, g2⟩
    have r46 : ∀ t, m1 2423 t = m 2423 t := fun t => by rw [g2.1 2423 (by decide) (by decide) (by decide) (by decide)]
    dsimp only
    rcases Nat.eq_or_lt_of_le hd with hd2 | hd2
    · refine Or.inr ⟨_, m1, ?_, rfl, by rw [hd2] at g1; exact g1, g2⟩
      rw [hd2, Nat.sub_self, Nat.add_zero]
      unfold f294_23b
      by_cases ha : 0 < a
      · obtain ⟨b1, b2, b3⟩ := hg (a - 1) (by omega)
        have rt : m1 2423 (a - 1) = nI (g (a - 1)) := by rw [r46]; exact b1
        have es : nI a - 1 = nI (a - 1) := z_subl (k := 1) (by omega)
        have ha2 : a - 1 < 200 := by omega
        simp (disch := ((try simp only [true_or, or_true, hM.k, hM.k2391, hM.k2392, hM.k2393, hM.k2394, hM.k2395, hM.k2396, hM.k2397, hM.k2398, hM.k2399, hM.k2400, hM.k2401, hM.k2402, hM.k2403, hM.k2404, hM.k2405, hM.k2406, hM.k2407, hM.k2408, hM.k2409, hM.k2410, hM.k2411, hM.k2412, hM.k2413, hM.k2414, hM.k2415, hM.k2416, hM.k2417, hM.k2418, hM.k2419, hM.k2420, hM.k2421, hM.k2422, hM.k2423, hM.l2391, hM.l2392, hM.l2393, hM.l2394, hM.l2395, hM.l2396, hM.l2397, hM.l2398, hM.l2399, hM.l2400, hM.l2401, hM.l2402, hM.l2403, hM.l2404, hM.l2405, hM.l2406, hM.l2407, hM.l2408, hM.l2409, hM.l2410, hM.l2411, hM.l2412, hM.l2413, hM.l2414, hM.l2415, hM.l2416, hM.l2417, hM.l2418, hM.l2419, hM.l2420, hM.l2421, hM.l2422, hM.l2423]) <;> (try omega))) only [↓reduceIte, ↓z_ite, ↓zR, ↓zB_R, ↓zB_B, ↓zB_ite, ↓zB_gI, ↓zB_pI, ↓zB_pZ, ↓zB_aK, ↓zB_G, ↓zB_lI, ↓zB_lZ, ↓zB_wI, ↓zB_wZ, ↓zB_lIl, ↓zB_wIl, zB_pI, zB_pZ, zB_lI, zB_lZ, zB_wI, zB_wZ, z_addl, z_ladd, z_mull, z_lmul, nI_add, z_subl, Nat.not_lt_zero, z_10, z_01, z_bitc, z_b0, z_b1, ↓zB_Gb, ↓zB_G0, ↓zB_G1, z_eql, z_leq, z_ltl, z_llt, z_eq, z_lt, z_m1lt, hM.k, hM.k2391, hM.k2392, hM.k2393, hM.k2394, hM.k2395, hM.k2396, hM.k2397, hM.k2398, hM.k2399, hM.k2400, hM.k2401, hM.k2402, hM.k2403, hM.k2404, hM.k2405, hM.k2406, hM.k2407, hM.k2408, hM.k2409, hM.k2410, hM.k2411, hM.k2412, hM.k2413, hM.k2414, hM.k2415, hM.k2416, hM.k2417, hM.k2418, hM.k2419, hM.k2420, hM.k2421, hM.k2422, hM.k2423, hM.l2391, hM.l2392, hM.l2393, hM.l2394, hM.l2395, hM.l2396, hM.l2397, hM.l2398, hM.l2399, hM.l2400, hM.l2401, hM.l2402, hM.l2403, hM.l2404, hM.l2405, hM.l2406, hM.l2407, hM.l2408, hM.l2409, hM.l2410, hM.l2411, hM.l2412, hM.l2413, hM.l2414, hM.l2415, hM.l2416, hM.l2417, hM.l2418, hM.l2419, hM.l2420, hM.l2421, hM.l2422, hM.l2423, ↓hM.g1, ↓hM.g5, ↓hM.g6, ↓hM.g7, ↓hM.g8, ↓hM.g9, ↓hM.g10, ↓hM.g11, ↓hM.g12, ↓hM.g13, ↓hM.g14, ↓hM.g16, ↓hM.g17, ↓hM.g18, ↓hM.g19, ↓hM.g21, ↓hM.g22, ↓hM.g23, ↓hM.g24, ↓hM.g25, ↓hM.g27, ↓hM.g28, ↓hM.g30, ↓hM.g31, ↓hM.g32, ↓hM.g36, ↓hM.g37, ↓hM.g39, ↓hM.g40, ↓hM.g41, ↓hM.g43, ↓hM.g45, ↓hM.g46, ha, es, rt, ha2, b2]
      · simp (disch := ((try simp only [true_or, or_true, hM.k, hM.k2391, hM.k2392, hM.k2393, hM.k2394, hM.k2395, hM.k2396, hM.k2397, hM.k2398, hM.k2399, hM.k2400, hM.k2401, hM.k2402, hM.k2403, hM.k2404, hM.k2405, hM.k2406, hM.k2407, hM.k2408, hM.k2409, hM.k2410, hM.k2411, hM.k2412, hM.k2413, hM.k2414, hM.k2415, hM.k2416, hM.k2417, hM.k2418, hM.k2419, hM.k2420, hM.k2421, hM.k2422, hM.k2423, hM.l2391, hM.l2392, hM.l2393, hM.l2394, hM.l2395, hM.l2396, hM.l2397, hM.l2398, hM.l2399, hM.l2400, hM.l2401, hM.l2402, hM.l2403, hM.l2404, hM.l2405, hM.l2406, hM.l2407, hM.l2408, hM.l2409, hM.l2410, hM.l2411, hM.l2412, hM.l2413, hM.l2414, hM.l2415, hM.l2416, hM.l2417, hM.l2418, hM.l2419, hM.l2420, hM.l2421, hM.l2422, hM.l2423]) <;> (try omega))) only [↓reduceIte, ↓z_ite, ↓zR, ↓zB_R, ↓zB_B, ↓zB_ite, ↓zB_gI, ↓zB_pI, ↓zB_pZ, ↓zB_aK, ↓zB_G, ↓zB_lI, ↓zB_lZ, ↓zB_wI, ↓zB_wZ, ↓zB_lIl, ↓zB_wIl, zB_pI, zB_pZ, zB_lI, zB_lZ, zB_wI, zB_wZ, z_addl, z_ladd, z_mull, z_lmul, nI_add, z_subl, Nat.not_lt_zero, z_10, z_01, z_bitc, z_b0, z_b1, ↓zB_Gb, ↓zB_G0, ↓zB_G1, z_eql, z_leq, z_ltl, z_llt, z_eq, z_lt, z_m1lt, hM.k, hM.k2391, hM.k2392, hM.k2393, hM.k2394, hM.k2395, hM.k2396, hM.k2397, hM.k2398, hM.k2399, hM.k2400, hM.k2401, hM.k2402, hM.k2403, hM.k2404, hM.k2405, hM.k2406, hM.k2407, hM.k2408, hM.k2409, hM.k2410, hM.k2411, hM.k2412, hM.k2413, hM.k2414, hM.k2415, hM.k2416, hM.k2417, hM.k2418, hM.k2419, hM.k2420, hM.k2421, hM.k2422, hM.k2423, hM.l2391, hM.l2392, hM.l2393, hM.l2394, hM.l2395, hM.l2396, hM.l2397, hM.l2398, hM.l2399, hM.l2400, hM.l2401, hM.l2402, hM.l2403, hM.l2404, hM.l2405, hM.l2406, hM.l2407, hM.l2408, hM.l2409, hM.l2410, hM.l2411, hM.l2412, hM.l2413, hM.l2414, hM.l2415, hM.l2416, hM.l2417, hM.l2418, hM.l2419, hM.l2420, hM.l2421, hM.l2422, hM.l2423, ↓hM.g1, ↓hM.g5, ↓hM.g6, ↓hM.g7, ↓hM.g8, ↓hM.g9, ↓hM.g10, ↓hM.g11, ↓hM.g12, ↓hM.g13, ↓hM.g14, ↓hM.g16, ↓hM.g17, ↓hM.g18, ↓hM.g19, ↓hM.g21, ↓hM.g22, ↓hM.g23, ↓hM.g24, ↓hM.g25, ↓hM.g27, ↓hM.g28, ↓hM.g30, ↓hM.g31, ↓hM.g32, ↓hM.g36, ↓hM.g37, ↓hM.g39, ↓hM.g40, ↓hM.g41, ↓hM.g43, ↓hM.g45, ↓hM.g46, ha]
    · obtain ⟨m2, e2, c1, c2⟩ := f260_sp (S := S) hM g1 (by rw [List.length_append, List.length_replicate]; omega) 0 v 0
      have rt : m1 2423 (a + (r - d) - 1) = nI i := by rw [r46]; exact hg2 _ (by omega) (by omega)
      refine Or.inl ⟨(2390, nI j, v, c, nI (a + (r - (d + 1))), nI i), m2, r - (d + 1), ?_, by omega, d + 1, rfl, hd2, rfl, ?_, g2.trans c2⟩
      · unfold f294_23b
        have h1 : 0 < a + (r - d) := by omega
        have es : nI (a + (r - d)) - 1 = nI (a + (r - d) - 1) := z_subl (k := 1) (by omega)
        have ha2 : a + (r - d) - 1 < 200 := by omega
        have em : nI (a + (r - d)) + (-1) = nI (a + (r - (d + 1))) := by rw [z_m1 (by omega)]; congr 1; omega
        simp (disch := ((try simp only [true_or, or_true, hM.k, hM.k2391, hM.k2392, hM.k2393, hM.k2394, hM.k2395, hM.k2396, hM.k2397, hM.k2398, hM.k2399, hM.k2400, hM.k2401, hM.k2402, hM.k2403, hM.k2404, hM.k2405, hM.k2406, hM.k2407, hM.k2408, hM.k2409, hM.k2410, hM.k2411, hM.k2412, hM.k2413, hM.k2414, hM.k2415, hM.k2416, hM.k2417, hM.k2418, hM.k2419, hM.k2420, hM.k2421, hM.k2422, hM.k2423, hM.l2391, hM.l2392, hM.l2393, hM.l2394, hM.l2395, hM.l2396, hM.l2397, hM.l2398, hM.l2399, hM.l2400, hM.l2401, hM.l2402, hM.l2403, hM.l2404, hM.l2405, hM.l2406, hM.l2407, hM.l2408, hM.l2409, hM.l2410, hM.l2411, hM.l2412, hM.l2413, hM.l2414, hM.l2415, hM.l2416, hM.l2417, hM.l2418, hM.l2419, hM.l2420, hM.l2421, hM.l2422, hM.l2423]) <;> (try omega))) only [↓reduceIte, ↓z_ite, ↓zR, ↓zB_R, ↓zB_B, ↓zB_ite, ↓zB_gI, ↓zB_pI, ↓zB_pZ, ↓zB_aK, ↓zB_G, ↓zB_lI, ↓zB_lZ, ↓zB_wI, ↓zB_wZ, ↓zB_lIl, ↓zB_wIl, zB_pI, zB_pZ, zB_lI, zB_lZ, zB_wI, zB_wZ, z_addl, z_ladd, z_mull, z_lmul, nI_add, z_subl, Nat.not_lt_zero, z_10, z_01, z_bitc, z_b0, z_b1, ↓zB_Gb, ↓zB_G0, ↓zB_G1, z_eql, z_leq, z_ltl, z_llt, z_eq, z_lt, z_m1lt, hM.k, hM.k2391, hM.k2392, hM.k2393, hM.k2394, hM.k2395, hM.k2396, hM.k2397, hM.k2398, hM.k2399, hM.k2400, hM.k2401, hM.k2402, hM.k2403, hM.k2404, hM.k2405, hM.k2406, hM.k2407, hM.k2408, hM.k2409, hM.k2410, hM.k2411, hM.k2412, hM.k2413, hM.k2414, hM.k2415, hM.k2416, hM.k2417, hM.k2418, hM.k2419, hM.k2420, hM.k2421, hM.k2422, hM.k2423, hM.l2391, hM.l2392, hM.l2393, hM.l2394, hM.l2395, hM.l2396, hM.l2397, hM.l2398, hM.l2399, hM.l2400, hM.l2401, hM.l2402, hM.l2403, hM.l2404, hM.l2405, hM.l2406, hM.l2407, hM.l2408, hM.l2409, hM.l2410, hM.l2411, hM.l2412, hM.l2413, hM.l2414, hM.l2415, hM.l2416, hM.l2417, hM.l2418, hM.l2419, hM.l2420, hM.l2421, hM.l2422, hM.l2423, ↓hM.g1, ↓hM.g5, ↓hM.g6, ↓hM.g7, ↓hM.g8, ↓hM.g9, ↓hM.g10, ↓hM.g11, ↓hM.g12, ↓hM.g13, ↓hM.g14, ↓hM.g16, ↓hM.g17, ↓hM.g18, ↓hM.g19, ↓hM.g21, ↓hM.g22, ↓hM.g23, ↓hM.g24, ↓hM.g25, ↓hM.g27, ↓hM.g28, ↓hM.g30, ↓hM.g31, ↓hM.g32, ↓hM.g36, ↓hM.g37, ↓hM.g39, ↓hM.g40, ↓hM.g41, ↓hM.g43, ↓hM.g45, ↓hM.g46, h1, es, rt, ha2, ↓zB_c e2, zB_c e2, em]
      · rw [List.append_assoc, ← List.replicate_succ'] at c1
        exact c1
theorem z_eF.r {m m' : z_m} (h : z_eF m m') (t : Nat) : m' 2423 t = m 2423 t := by rw [h.1 2423 (by decide) (by decide) (by decide) (by decide)]
/-- lengthen -/
theorem f294_sp (hM : z_MS S) (hw : z_wf P) (h60 : z_b60 P) (hR : z_RT P) (h : z_mb m 0 P) (hT : z_mLT m P) {k j : Nat} (hs : z_bl m 2416 (z_fam P k)) (hk : k < z_nm P) (hlk : z_liv P k = true) (hj : j < z_nm P) (hl : z_liv P j = true) (v : Int32) : ∃ m', f294 2390 (nI j) v (z_hp S m) = some (nI (z_ct (z_cf P (z_fam P k) j) (z_bd P j).length), z_hp S m') ∧ (∀ i, i < (z_apDD P k v j).length → m' 2391 (28400 + 344 + 576 * j + i) = z_k (z_apDD P k v j) i ∧ m' 2391 (28400 + 344 + 576 * j + i + 192) = z_v (z_apDD P k v j) i ∧ m' 2391 (28400 + 344 + 576 * j + i + 384) = z_a (z_apDD P k v j) i) ∧ m' 2391 (28400 + 104 + 10 * j + 9) = nI (z_apDD P k v j).length ∧ ∃ m0, z_yF j m0 m' ∧ z_wK m m0 ∧ ∀ i, m0 2391 i = m 2391 i := by
  have h24 := hw.2.2.1
  have hlen := h60 j hj
  have hB := hw.2.2.2.2.1 j hj
  generalize hc : z_cf P (z_fam P k) j = cf
  generalize hl' : z_bd P j = l at *
  have hD : z_apDD P k v j = z_apD l cf v := by unfold z_apDD; rw [hl', hc]
  rw [hD]
  have hDl : (z_apD l cf v).length ≤ 120 := by
    have h1 := z_apD_len (l := l) (s := cf) (v := v) hB.1
    have h2 := z_ct_le (s := cf) l.length
    omega
  obtain ⟨o1, o2⟩ := z_ol_nil (S := S) (m := m) hM
  have key := z_loopI (f := fun s => f294_13b (s.1) (s.2.1) (s.2.2.1) (s.2.2.2.1) (s.2.2.2.2.1) (s.2.2.2.2.2)) (S := S) (fun N st m' => z_wK m m' ∧ (∀ i, m' 2391 i = m 2391 i) ∧ ((∃ i L, N = l.length + 1 - i ∧ i ≤ l.length ∧ st = (2390, nI j, v, nI (z_ct cf i), nI (z_fl (fun q => cf q && decide (i ≤ z_en l q)) i).length, nI i) ∧ (∀ t, t < (z_fl (fun q => cf q && decide (i ≤ z_en l q)) i).length → m' 2423 t = nI (z_en l ((z_fl (fun q => cf q && decide (i ≤ z_en l q)) i).getD t 0))) ∧ z_ol m' L ∧ L ++ List.replicate (z_apc l cf i) (0, v, 0) = z_cat (z_apg l cf v) i) ∨ (N = 0 ∧ ∃ b, st = (2390, nI j, v, nI (z_ct cf l.length), b, nI (l.length + 1)) ∧ z_ol m' (z_apD l cf v)))) (fun r m' => r = nI (z_ct cf l.length) ∧ (∀ i, i < (z_apD l cf v).length → m' 2391 (28400 + 344 + 576 * j + i) = z_k (z_apD l cf v) i ∧ m' 2391 (28400 + 344 + 576 * j + i + 192) = z_v (z_apD l cf v) i ∧ m' 2391 (28400 + 344 + 576 * j + i + 384) = z_a (z_apD l cf v) i) ∧ m' 2391 (28400 + 104 + 10 * j + 9) = nI (z_apD l cf v).length ∧ ∃ m0, z_yF j m0 m' ∧ z_wK m m0 ∧ ∀ i, m0 2391 i = m 2391 i) ?_ 1000000 (l.length + 1) (2390, nI j, v, 0, 0, 0) (z_up m 2390 38 0) ⟨o2.wK, fun i => by rw [z_up_row (by decide)], Or.inl ⟨0, [], rfl, Nat.zero_le _, rfl, fun t ht => absurd ht (Nat.not_lt_zero t), o1, rfl⟩⟩ (by omega)
  · obtain ⟨r, m', e, rfl, g1, g2, g3⟩ := key
    refine ⟨m', ?_, g1, g2, g3⟩
    unfold f294 f294_13
    simp (disch := ((try simp only [true_or, or_true, hM.k, hM.k2391, hM.k2392, hM.k2393, hM.k2394, hM.k2395, hM.k2396, hM.k2397, hM.k2398, hM.k2399, hM.k2400, hM.k2401, hM.k2402, hM.k2403, hM.k2404, hM.k2405, hM.k2406, hM.k2407, hM.k2408, hM.k2409, hM.k2410, hM.k2411, hM.k2412, hM.k2413, hM.k2414, hM.k2415, hM.k2416, hM.k2417, hM.k2418, hM.k2419, hM.k2420, hM.k2421, hM.k2422, hM.k2423, hM.l2391, hM.l2392, hM.l2393, hM.l2394, hM.l2395, hM.l2396, hM.l2397, hM.l2398, hM.l2399, hM.l2400, hM.l2401, hM.l2402, hM.l2403, hM.l2404, hM.l2405, hM.l2406, hM.l2407, hM.l2408, hM.l2409, hM.l2410, hM.l2411, hM.l2412, hM.l2413, hM.l2414, hM.l2415, hM.l2416, hM.l2417, hM.l2418, hM.l2419, hM.l2420, hM.l2421, hM.l2422, hM.l2423]) <;> (try omega))) only [↓reduceIte, ↓z_ite, ↓zR, ↓zB_R, ↓zB_B, ↓zB_ite, ↓zB_gI, ↓zB_pI, ↓zB_pZ, ↓zB_aK, ↓zB_G, ↓zB_lI, ↓zB_lZ, ↓zB_wI, ↓zB_wZ, ↓zB_lIl, ↓zB_wIl, zB_pI, zB_pZ, zB_lI, zB_lZ, zB_wI, zB_wZ, z_addl, z_ladd, z_mull, z_lmul, nI_add, z_subl, Nat.not_lt_zero, z_10, z_01, z_bitc, z_b0, z_b1, ↓zB_Gb, ↓zB_G0, ↓zB_G1, z_eql, z_leq, z_ltl, z_llt, z_eq, z_lt, z_m1lt, hM.k, hM.k2391, hM.k2392, hM.k2393, hM.k2394, hM.k2395, hM.k2396, hM.k2397, hM.k2398, hM.k2399, hM.k2400, hM.k2401, hM.k2402, hM.k2403, hM.k2404, hM.k2405, hM.k2406, hM.k2407, hM.k2408, hM.k2409, hM.k2410, hM.k2411, hM.k2412, hM.k2413, hM.k2414, hM.k2415, hM.k2416, hM.k2417, hM.k2418, hM.k2419, hM.k2420, hM.k2421, hM.k2422, hM.k2423, hM.l2391, hM.l2392, hM.l2393, hM.l2394, hM.l2395, hM.l2396, hM.l2397, hM.l2398, hM.l2399, hM.l2400, hM.l2401, hM.l2402, hM.l2403, hM.l2404, hM.l2405, hM.l2406, hM.l2407, hM.l2408, hM.l2409, hM.l2410, hM.l2411, hM.l2412, hM.l2413, hM.l2414, hM.l2415, hM.l2416, hM.l2417, hM.l2418, hM.l2419, hM.l2420, hM.l2421, hM.l2422, hM.l2423, ↓hM.g1, ↓hM.g5, ↓hM.g6, ↓hM.g7, ↓hM.g8, ↓hM.g9, ↓hM.g10, ↓hM.g11, ↓hM.g12, ↓hM.g13, ↓hM.g14, ↓hM.g16, ↓hM.g17, ↓hM.g18, ↓hM.g19, ↓hM.g21, ↓hM.g22, ↓hM.g23, ↓hM.g24, ↓hM.g25, ↓hM.g27, ↓hM.g28, ↓hM.g30, ↓hM.g31, ↓hM.g32, ↓hM.g36, ↓hM.g37, ↓hM.g39, ↓hM.g40, ↓hM.g41, ↓hM.g43, ↓hM.g45, ↓hM.g46]
    exact e
  · rintro N st m1 ⟨hK, h91, hinv⟩
    have hb1 : z_mb m1 0 P := z_mb_mF hK.mF (by decide) h
    have hT1 := z_mLT_mF hK.mF hT
    have e270 := f270_sp (S := S) hM hb1 hj
    rw [hl'] at e270
    rcases hinv with ⟨i, L, rfl, hi, rfl, hst, hol, hLe⟩ | ⟨rfl, b, rfl, hol⟩
    · dsimp only
      have hlc := z_ap_len (l := l) (s := cf) (v := v) i hi
      have hcl := z_ct_le (s := cf) i
      have hLl : L.length + z_apc l cf i = (z_cat (z_apg l cf v) i).length := by rw [← hLe, List.length_append, List.length_replicate]
      -- those that are owed stand on top
      have hsp : z_fl (fun q => cf q && decide (i ≤ z_en l q)) i = z_fl (fun q => cf q && decide (i < z_en l q)) i ++ z_fl (fun q => cf q && z_en l q == i) i := by
        refine z_fl_split i (fun q hq => ?_) (fun q hq ha => ?_) (fun q1 q2 h12 h2 hb => ?_)
        · cases gq : cf q with
          | false => rfl
          | true =>
            by_cases y : i < z_en l q
            · rw [decide_eq_true (show i ≤ z_en l q by omega), decide_eq_true y]; rfl
            · rw [decide_eq_false y]
              by_cases y2 : z_en l q = i
              · rw [decide_eq_true (show i ≤ z_en l q by omega), show (z_en l q == i) = true by simpa using y2]; rfl
              · rw [decide_eq_false (show ¬ i ≤ z_en l q by omega), show (z_en l q == i) = false by simpa using y2]; rfl
        · simp only [Bool.and_eq_true, decide_eq_true_eq] at ha
          rw [ha.1, show (z_en l q == i) = false by simp; omega]; rfl
        · simp only [Bool.and_eq_true, beq_iff_eq] at hb
          have := z_lam' hB.1 (i := q1) (j := q2) (by omega) h12 (by omega)
          rw [decide_eq_false (show ¬ i < z_en l q2 by omega), Bool.and_false]
      have hla : (z_fl (fun q => cf q && decide (i < z_en l q)) i).length ≤ i := by rw [z_fl_len]; exact z_ct_le _
      have hlb : (z_fl (fun q => cf q && z_en l q == i) i).length = z_apc l cf i := z_fl_len _ _
      have hlb2 : z_apc l cf i ≤ i := z_ct_le _
      have hls : (z_fl (fun q => cf q && decide (i ≤ z_en l q)) i).length = (z_fl (fun q => cf q && decide (i < z_en l q)) i).length + z_apc l cf i := by rw [hsp, List.length_append, hlb]
      have hlal : (z_fl (fun q => cf q && decide (i ≤ z_en l q)) i).length ≤ i := by rw [z_fl_len]; exact z_ct_le _
      obtain ⟨m2, e2, ol2, F2⟩ := f294_23_sp (S := S) (m := m1) (j := j) (i := i) (a := (z_fl (fun q => cf q && decide (i < z_en l q)) i).length) (r := z_apc l cf i) (v := v) (c := nI (z_ct cf i)) (L := L) (g := fun t => z_en l ((z_fl (fun q => cf q && decide (i < z_en l q)) i).getD t 0)) hM (by omega) (by omega) (fun t ht => by
        have h1 := hst t (by omega)
        rw [hsp, z_gD_l ht] at h1
        have hm : (z_fl (fun q => cf q && decide (i < z_en l q)) i).getD t 0 ∈ z_fl (fun q => cf q && decide (i < z_en l q)) i := z_gD_m ht
        have h2 := z_fl_mem hm
        simp only [Bool.and_eq_true, decide_eq_true_eq] at h2
        have h3 := z_en_le hB.1 (i := (z_fl (fun q => cf q && decide (i < z_en l q)) i).getD t 0) (by omega)
        exact ⟨h1, by omega, by omega⟩) (fun t ht1 ht2 => by
        have h1 := hst t (by omega)
        rw [hsp, z_gD_r ht1] at h1
        have ht3 : t - (z_fl (fun q => cf q && decide (i < z_en l q)) i).length < (z_fl (fun q => cf q && z_en l q == i) i).length := by omega
        have hm : (z_fl (fun q => cf q && z_en l q == i) i).getD (t - (z_fl (fun q => cf q && decide (i < z_en l q)) i).length) 0 ∈ z_fl (fun q => cf q && z_en l q == i) i := z_gD_m ht3
        have h2 := z_fl_mem hm
        simp only [Bool.and_eq_true, beq_iff_eq] at h2
        rw [h1, h2.2.2]) hol (by omega)
      rw [hLe] at ol2
      have hK2 := hK.trans F2.wK
      have h912 : ∀ i, m2 2391 i = m 2391 i := fun q => by rw [F2.1 2391 (by decide) (by decide) (by decide) (by decide)]; exact h91 q
      have hb2 : z_mb m2 0 P := z_mb_mF hK2.mF (by decide) h
      have hT2 := z_mLT_mF hK2.mF hT
      have hs2 := hK2.bl (Or.inl rfl) hs
      have e270' := f270_sp (S := S) hM hb2 hj
      rw [hl'] at e270'
      have st0 : f294_13b 2390 (nI j) v (nI (z_ct cf i)) (nI (z_fl (fun q => cf q && decide (i ≤ z_en l q)) i).length) (nI i) (z_hp S m1) = f294_55 2390 (nI j) v (nI (z_ct cf i)) (nI (z_fl (fun q => cf q && decide (i < z_en l q)) i).length) (nI i) (z_hp S m2) := by
        rw [← e2, hls]
        unfold f294_13b
        have y : ¬ l.length < i := by omega
        simp (disch := ((try simp only [true_or, or_true, hM.k, hM.k2391, hM.k2392, hM.k2393, hM.k2394, hM.k2395, hM.k2396, hM.k2397, hM.k2398, hM.k2399, hM.k2400, hM.k2401, hM.k2402, hM.k2403, hM.k2404, hM.k2405, hM.k2406, hM.k2407, hM.k2408, hM.k2409, hM.k2410, hM.k2411, hM.k2412, hM.k2413, hM.k2414, hM.k2415, hM.k2416, hM.k2417, hM.k2418, hM.k2419, hM.k2420, hM.k2421, hM.k2422, hM.k2423, hM.l2391, hM.l2392, hM.l2393, hM.l2394, hM.l2395, hM.l2396, hM.l2397, hM.l2398, hM.l2399, hM.l2400, hM.l2401, hM.l2402, hM.l2403, hM.l2404, hM.l2405, hM.l2406, hM.l2407, hM.l2408, hM.l2409, hM.l2410, hM.l2411, hM.l2412, hM.l2413, hM.l2414, hM.l2415, hM.l2416, hM.l2417, hM.l2418, hM.l2419, hM.l2420, hM.l2421, hM.l2422, hM.l2423]) <;> (try omega))) only [↓reduceIte, ↓z_ite, ↓zR, ↓zB_R, ↓zB_B, ↓zB_ite, ↓zB_gI, ↓zB_pI, ↓zB_pZ, ↓zB_aK, ↓zB_G, ↓zB_lI, ↓zB_lZ, ↓zB_wI, ↓zB_wZ, ↓zB_lIl, ↓zB_wIl, zB_pI, zB_pZ, zB_lI, zB_lZ, zB_wI, zB_wZ, z_addl, z_ladd, z_mull, z_lmul, nI_add, z_subl, Nat.not_lt_zero, z_10, z_01, z_bitc, z_b0, z_b1, ↓zB_Gb, ↓zB_G0, ↓zB_G1, z_eql, z_leq, z_ltl, z_llt, z_eq, z_lt, z_m1lt, hM.k, hM.k2391, hM.k2392, hM.k2393, hM.k2394, hM.k2395, hM.k2396, hM.k2397, hM.k2398, hM.k2399, hM.k2400, hM.k2401, hM.k2402, hM.k2403, hM.k2404, hM.k2405, hM.k2406, hM.k2407, hM.k2408, hM.k2409, hM.k2410, hM.k2411, hM.k2412, hM.k2413, hM.k2414, hM.k2415, hM.k2416, hM.k2417, hM.k2418, hM.k2419, hM.k2420, hM.k2421, hM.k2422, hM.k2423, hM.l2391, hM.l2392, hM.l2393, hM.l2394, hM.l2395, hM.l2396, hM.l2397, hM.l2398, hM.l2399, hM.l2400, hM.l2401, hM.l2402, hM.l2403, hM.l2404, hM.l2405, hM.l2406, hM.l2407, hM.l2408, hM.l2409, hM.l2410, hM.l2411, hM.l2412, hM.l2413, hM.l2414, hM.l2415, hM.l2416, hM.l2417, hM.l2418, hM.l2419, hM.l2420, hM.l2421, hM.l2422, hM.l2423, ↓hM.g1, ↓hM.g5, ↓hM.g6, ↓hM.g7, ↓hM.g8, ↓hM.g9, ↓hM.g10, ↓hM.g11, ↓hM.g12, ↓hM.g13, ↓hM.g14, ↓hM.g16, ↓hM.g17, ↓hM.g18, ↓hM.g19, ↓hM.g21, ↓hM.g22, ↓hM.g23, ↓hM.g24, ↓hM.g25, ↓hM.g27, ↓hM.g28, ↓hM.g30, ↓hM.g31, ↓hM.g32, ↓hM.g36, ↓hM.g37, ↓hM.g39, ↓hM.g40, ↓hM.g41, ↓hM.g43, ↓hM.g45, ↓hM.g46, ↓zB_c e270, zB_c e270, y]
      rcases Nat.eq_or_lt_of_le hi with hi2 | hi2
      · -- at the end
        refine Or.inl ⟨(2390, nI j, v, nI (z_ct cf l.length), nI (z_fl (fun q => cf q && decide (i < z_en l q)) i).length, nI (l.length + 1)), m2, 0, ?_, by omega, hK2, h912, Or.inr ⟨rfl, _, rfl, by rw [hi2] at ol2; exact ol2⟩⟩
        rw [st0, hi2]
        unfold f294_55 f294_125 f294_142
        simp (disch := ((try simp only [true_or, or_true, hM.k, hM.k2391, hM.k2392, hM.k2393, hM.k2394, hM.k2395, hM.k2396, hM.k2397, hM.k2398, hM.k2399, hM.k2400, hM.k2401, hM.k2402, hM.k2403, hM.k2404, hM.k2405, hM.k2406, hM.k2407, hM.k2408, hM.k2409, hM.k2410, hM.k2411, hM.k2412, hM.k2413, hM.k2414, hM.k2415, hM.k2416, hM.k2417, hM.k2418, hM.k2419, hM.k2420, hM.k2421, hM.k2422, hM.k2423, hM.l2391, hM.l2392, hM.l2393, hM.l2394, hM.l2395, hM.l2396, hM.l2397, hM.l2398, hM.l2399, hM.l2400, hM.l2401, hM.l2402, hM.l2403, hM.l2404, hM.l2405, hM.l2406, hM.l2407, hM.l2408, hM.l2409, hM.l2410, hM.l2411, hM.l2412, hM.l2413, hM.l2414, hM.l2415, hM.l2416, hM.l2417, hM.l2418, hM.l2419, hM.l2420, hM.l2421, hM.l2422, hM.l2423]) <;> (try omega))) only [↓reduceIte, ↓z_ite, ↓zR, ↓zB_R, ↓zB_B, ↓zB_ite, ↓zB_gI, ↓zB_pI, ↓zB_pZ, ↓zB_aK, ↓zB_G, ↓zB_lI, ↓zB_lZ, ↓zB_wI, ↓zB_wZ, ↓zB_lIl, ↓zB_wIl, zB_pI, zB_pZ, zB_lI, zB_lZ, zB_wI, zB_wZ, z_addl, z_ladd, z_mull, z_lmul, nI_add, z_subl, Nat.not_lt_zero, z_10, z_01, z_bitc, z_b0, z_b1, ↓zB_Gb, ↓zB_G0, ↓zB_G1, z_eql, z_leq, z_ltl, z_llt, z_eq, z_lt, z_m1lt, hM.k, hM.k2391, hM.k2392, hM.k2393, hM.k2394, hM.k2395, hM.k2396, hM.k2397, hM.k2398, hM.k2399, hM.k2400, hM.k2401, hM.k2402, hM.k2403, hM.k2404, hM.k2405, hM.k2406, hM.k2407, hM.k2408, hM.k2409, hM.k2410, hM.k2411, hM.k2412, hM.k2413, hM.k2414, hM.k2415, hM.k2416, hM.k2417, hM.k2418, hM.k2419, hM.k2420, hM.k2421, hM.k2422, hM.k2423, hM.l2391, hM.l2392, hM.l2393, hM.l2394, hM.l2395, hM.l2396, hM.l2397, hM.l2398, hM.l2399, hM.l2400, hM.l2401, hM.l2402, hM.l2403, hM.l2404, hM.l2405, hM.l2406, hM.l2407, hM.l2408, hM.l2409, hM.l2410, hM.l2411, hM.l2412, hM.l2413, hM.l2414, hM.l2415, hM.l2416, hM.l2417, hM.l2418, hM.l2419, hM.l2420, hM.l2421, hM.l2422, hM.l2423, ↓hM.g1, ↓hM.g5, ↓hM.g6, ↓hM.g7, ↓hM.g8, ↓hM.g9, ↓hM.g10, ↓hM.g11, ↓hM.g12, ↓hM.g13, ↓hM.g14, ↓hM.g16, ↓hM.g17, ↓hM.g18, ↓hM.g19, ↓hM.g21, ↓hM.g22, ↓hM.g23, ↓hM.g24, ↓hM.g25, ↓hM.g27, ↓hM.g28, ↓hM.g30, ↓hM.g31, ↓hM.g32, ↓hM.g36, ↓hM.g37, ↓hM.g39, ↓hM.g40, ↓hM.g41, ↓hM.g43, ↓hM.g45, ↓hM.g46, ↓zB_c e270', zB_c e270', Nat.lt_irrefl]
      · have hi3 : i < (z_bd P j).length := by rw [hl']; exact hi2
        have e276 := f276_sp (S := S) hM hw hR hb2 hT2 hs2 hj hl hi3
        rw [hc] at e276
        have hfl1 : z_fl (fun q => cf q && decide (i + 1 ≤ z_en l q)) (i + 1) = z_fl (fun q => cf q && decide (i < z_en l q)) i ++ (if cf i = true then [i] else []) := by
          have := z_en_gt hi2
          show z_fl (fun q => cf q && decide (i + 1 ≤ z_en l q)) i ++ (if (cf i && decide (i + 1 ≤ z_en l i)) = true then [i] else []) = _
          rw [decide_eq_true (show i + 1 ≤ z_en l i by omega), Bool.and_true]
          rfl
        have hcat : z_cat (z_apg l cf v) (i + 1) = (z_cat (z_apg l cf v) i ++ [z_apN l cf i]) ++ List.replicate (z_apc l cf (i + 1)) (0, v, 0) := by
          show z_cat (z_apg l cf v) i ++ z_apg l cf v i = _
          unfold z_apg
          rw [List.append_assoc]; rfl
        have hstk : ∀ t, t < (z_fl (fun q => cf q && decide (i < z_en l q)) i).length → m2 2423 t = nI (z_en l ((z_fl (fun q => cf q && decide (i < z_en l q)) i).getD t 0)) := fun t ht => by
          have h1 := hst t (by omega)
          rw [hsp, z_gD_l ht] at h1
          rw [F2.r]; exact h1
        cases g : cf i with
        | false =>
          rw [g] at e276 hfl1
          obtain ⟨m3, e3, c1, c2⟩ := f261_sp (S := S) hM hb2 hj hi3 ol2 (by omega)
          rw [hl'] at c1
          have hN : z_apN l cf i = z_at l i := by unfold z_apN; rw [g]; rfl
          rw [if_neg Bool.false_ne_true, List.append_nil] at hfl1
          refine Or.inl ⟨(2390, nI j, v, nI (z_ct cf (i + 1)), nI (z_fl (fun q => cf q && decide (i + 1 ≤ z_en l q)) (i + 1)).length, nI (i + 1)), m3, l.length + 1 - (i + 1), ?_, by omega, hK2.trans c2.wK, fun q => by rw [c2.1 2391 (by decide) (by decide) (by decide) (by decide)]; exact h912 q, Or.inl ⟨i + 1, _, rfl, hi2, rfl, fun t ht => ?_, c1, by rw [hcat, hN]⟩⟩
          · rw [st0, hfl1, z_ct_s, g]
            unfold f294_55 f294_125 f294_142
            simp (disch := ((try simp only [true_or, or_true, hM.k, hM.k2391, hM.k2392, hM.k2393, hM.k2394, hM.k2395, hM.k2396, hM.k2397, hM.k2398, hM.k2399, hM.k2400, hM.k2401, hM.k2402, hM.k2403, hM.k2404, hM.k2405, hM.k2406, hM.k2407, hM.k2408, hM.k2409, hM.k2410, hM.k2411, hM.k2412, hM.k2413, hM.k2414, hM.k2415, hM.k2416, hM.k2417, hM.k2418, hM.k2419, hM.k2420, hM.k2421, hM.k2422, hM.k2423, hM.l2391, hM.l2392, hM.l2393, hM.l2394, hM.l2395, hM.l2396, hM.l2397, hM.l2398, hM.l2399, hM.l2400, hM.l2401, hM.l2402, hM.l2403, hM.l2404, hM.l2405, hM.l2406, hM.l2407, hM.l2408, hM.l2409, hM.l2410, hM.l2411, hM.l2412, hM.l2413, hM.l2414, hM.l2415, hM.l2416, hM.l2417, hM.l2418, hM.l2419, hM.l2420, hM.l2421, hM.l2422, hM.l2423]) <;> (try omega))) only [↓reduceIte, ↓z_ite, ↓zR, ↓zB_R, ↓zB_B, ↓zB_ite, ↓zB_gI, ↓zB_pI, ↓zB_pZ, ↓zB_aK, ↓zB_G, ↓zB_lI, ↓zB_lZ, ↓zB_wI, ↓zB_wZ, ↓zB_lIl, ↓zB_wIl, zB_pI, zB_pZ, zB_lI, zB_lZ, zB_wI, zB_wZ, z_addl, z_ladd, z_mull, z_lmul, nI_add, z_subl, Nat.not_lt_zero, z_10, z_01, z_bitc, z_b0, z_b1, ↓zB_Gb, ↓zB_G0, ↓zB_G1, z_eql, z_leq, z_ltl, z_llt, z_eq, z_lt, z_m1lt, hM.k, hM.k2391, hM.k2392, hM.k2393, hM.k2394, hM.k2395, hM.k2396, hM.k2397, hM.k2398, hM.k2399, hM.k2400, hM.k2401, hM.k2402, hM.k2403, hM.k2404, hM.k2405, hM.k2406, hM.k2407, hM.k2408, hM.k2409, hM.k2410, hM.k2411, hM.k2412, hM.k2413, hM.k2414, hM.k2415, hM.k2416, hM.k2417, hM.k2418, hM.k2419, hM.k2420, hM.k2421, hM.k2422, hM.k2423, hM.l2391, hM.l2392, hM.l2393, hM.l2394, hM.l2395, hM.l2396, hM.l2397, hM.l2398, hM.l2399, hM.l2400, hM.l2401, hM.l2402, hM.l2403, hM.l2404, hM.l2405, hM.l2406, hM.l2407, hM.l2408, hM.l2409, hM.l2410, hM.l2411, hM.l2412, hM.l2413, hM.l2414, hM.l2415, hM.l2416, hM.l2417, hM.l2418, hM.l2419, hM.l2420, hM.l2421, hM.l2422, hM.l2423, ↓hM.g1, ↓hM.g5, ↓hM.g6, ↓hM.g7, ↓hM.g8, ↓hM.g9, ↓hM.g10, ↓hM.g11, ↓hM.g12, ↓hM.g13, ↓hM.g14, ↓hM.g16, ↓hM.g17, ↓hM.g18, ↓hM.g19, ↓hM.g21, ↓hM.g22, ↓hM.g23, ↓hM.g24, ↓hM.g25, ↓hM.g27, ↓hM.g28, ↓hM.g30, ↓hM.g31, ↓hM.g32, ↓hM.g36, ↓hM.g37, ↓hM.g39, ↓hM.g40, ↓hM.g41, ↓hM.g43, ↓hM.g45, ↓hM.g46, ↓zB_c e270', zB_c e270', hi2, ↓zB_c e276, zB_c e276, ↓zB_c e3, zB_c e3]
            rfl
          · rw [hfl1] at ht ⊢
            rw [c2.r]; exact hstk t ht
        | true =>
          rw [g] at e276 hfl1
          rw [if_pos rfl] at hfl1
          have ev := hb2.ev hM (B := 0) rfl hj hi3
          have ea := hb2.ea hM (B := 0) rfl hj hi3
          rw [hl'] at ev ea
          obtain ⟨m3, e3, c1, c2⟩ := f260_sp (S := S) hM ol2 (by omega) 7 (z_v l i) (z_a l i + 1)
          have hK3 := hK2.trans c2.wK
          have hT3 := z_mLT_mF hK3.mF hT
          have e269 := f269_sp (S := S) hM (hT3 j hj hl) (by omega) (by rw [hl']; omega) hi3
          rw [hl'] at e269
          have h7 : z_k l i = 7 := by
            have := (z_cf_a hw hR hk hlk hj hl hi3 (by rw [hc]; exact g)).1
            rw [hl'] at this; exact this
          have hN : z_apN l cf i = (7, z_v l i, z_a l i + 1) := by unfold z_apN; rw [g, if_pos rfl, h7]
          have hadd : nI i + nI (z_sz l i) = nI (z_en l i) := nI_add _ _
          have hW : z_wK m3 (z_up m3 2423 (z_fl (fun q => cf q && decide (i < z_en l q)) i).length (nI (z_en l i))) := ⟨fun q _ => by rw [z_up_row (by decide)], fun q x y z => by rw [z_up_row (by omega)], fun q _ => by rw [z_up_row (by decide)]⟩
          have hx : (z_fl (fun q => cf q && decide (i < z_en l q)) i).length < 200 := by omega
          refine Or.inl ⟨(2390, nI j, v, nI (z_ct cf (i + 1)), nI (z_fl (fun q => cf q && decide (i + 1 ≤ z_en l q)) (i + 1)).length, nI (i + 1)), z_up m3 2423 (z_fl (fun q => cf q && decide (i < z_en l q)) i).length (nI (z_en l i)), l.length + 1 - (i + 1), ?_, by omega, hK3.trans hW, fun q => by rw [z_up_row (by decide), c2.1 2391 (by decide) (by decide) (by decide) (by decide)]; exact h912 q, Or.inl ⟨i + 1, _, rfl, hi2, rfl, fun t ht => ?_, ?_, by rw [hcat, hN]⟩⟩
          · rw [st0, hfl1, z_ct_s, g, List.length_append]
            unfold f294_55 f294_142
            simp (disch := ((try simp only [true_or, or_true, hM.k, hM.k2391, hM.k2392, hM.k2393, hM.k2394, hM.k2395, hM.k2396, hM.k2397, hM.k2398, hM.k2399, hM.k2400, hM.k2401, hM.k2402, hM.k2403, hM.k2404, hM.k2405, hM.k2406, hM.k2407, hM.k2408, hM.k2409, hM.k2410, hM.k2411, hM.k2412, hM.k2413, hM.k2414, hM.k2415, hM.k2416, hM.k2417, hM.k2418, hM.k2419, hM.k2420, hM.k2421, hM.k2422, hM.k2423, hM.l2391, hM.l2392, hM.l2393, hM.l2394, hM.l2395, hM.l2396, hM.l2397, hM.l2398, hM.l2399, hM.l2400, hM.l2401, hM.l2402, hM.l2403, hM.l2404, hM.l2405, hM.l2406, hM.l2407, hM.l2408, hM.l2409, hM.l2410, hM.l2411, hM.l2412, hM.l2413, hM.l2414, hM.l2415, hM.l2416, hM.l2417, hM.l2418, hM.l2419, hM.l2420, hM.l2421, hM.l2422, hM.l2423]) <;> (try omega))) only [↓reduceIte, ↓z_ite, ↓zR, ↓zB_R, ↓zB_B, ↓zB_ite, ↓zB_gI, ↓zB_pI, ↓zB_pZ, ↓zB_aK, ↓zB_G, ↓zB_lI, ↓zB_lZ, ↓zB_wI, ↓zB_wZ, ↓zB_lIl, ↓zB_wIl, zB_pI, zB_pZ, zB_lI, zB_lZ, zB_wI, zB_wZ, z_addl, z_ladd, z_mull, z_lmul, nI_add, z_subl, Nat.not_lt_zero, z_10, z_01, z_bitc, z_b0, z_b1, ↓zB_Gb, ↓zB_G0, ↓zB_G1, z_eql, z_leq, z_ltl, z_llt, z_eq, z_lt, z_m1lt, hM.k, hM.k2391, hM.k2392, hM.k2393, hM.k2394, hM.k2395, hM.k2396, hM.k2397, hM.k2398, hM.k2399, hM.k2400, hM.k2401, hM.k2402, hM.k2403, hM.k2404, hM.k2405, hM.k2406, hM.k2407, hM.k2408, hM.k2409, hM.k2410, hM.k2411, hM.k2412, hM.k2413, hM.k2414, hM.k2415, hM.k2416, hM.k2417, hM.k2418, hM.k2419, hM.k2420, hM.k2421, hM.k2422, hM.k2423, hM.l2391, hM.l2392, hM.l2393, hM.l2394, hM.l2395, hM.l2396, hM.l2397, hM.l2398, hM.l2399, hM.l2400, hM.l2401, hM.l2402, hM.l2403, hM.l2404, hM.l2405, hM.l2406, hM.l2407, hM.l2408, hM.l2409, hM.l2410, hM.l2411, hM.l2412, hM.l2413, hM.l2414, hM.l2415, hM.l2416, hM.l2417, hM.l2418, hM.l2419, hM.l2420, hM.l2421, hM.l2422, hM.l2423, ↓hM.g1, ↓hM.g5, ↓hM.g6, ↓hM.g7, ↓hM.g8, ↓hM.g9, ↓hM.g10, ↓hM.g11, ↓hM.g12, ↓hM.g13, ↓hM.g14, ↓hM.g16, ↓hM.g17, ↓hM.g18, ↓hM.g19, ↓hM.g21, ↓hM.g22, ↓hM.g23, ↓hM.g24, ↓hM.g25, ↓hM.g27, ↓hM.g28, ↓hM.g30, ↓hM.g31, ↓hM.g32, ↓hM.g36, ↓hM.g37, ↓hM.g39, ↓hM.g40, ↓hM.g41, ↓hM.g43, ↓hM.g45, ↓hM.g46, ↓zB_c e270', zB_c e270', hi2, ↓zB_c e276, zB_c e276, Bool.true_eq_false, ↓zB_c ev, zB_c ev, ↓zB_c ea, zB_c ea, ↓zB_c e3, zB_c e3, ↓zB_c e269, zB_c e269, hadd, hx]
            rfl
          · rw [hfl1] at ht ⊢
            rw [List.length_append] at ht
            by_cases y : t = (z_fl (fun q => cf q && decide (i < z_en l q)) i).length
            · subst y
              rw [z_up_s, z_gD_r (Nat.le_refl _), Nat.sub_self]; rfl
            · have ht : t < (z_fl (fun q => cf q && decide (i < z_en l q)) i).length + 1 := ht
              have ht2 : t < (z_fl (fun q => cf q && decide (i < z_en l q)) i).length := by omega
              rw [z_up_b y, z_gD_l ht2, c2.r]; exact hstk t ht2
          · obtain ⟨d1, d2⟩ := c1
            exact ⟨by rw [z_up_row (by decide)]; exact d1, fun q hq => by rw [z_up_row (by decide), z_up_row (by decide), z_up_row (by decide)]; exact d2 q hq⟩
    · dsimp only
      obtain ⟨m2, e2, l1, l2, l3⟩ := f264_sp (S := S) hM (k := j) (by omega) hol (by omega)
      refine Or.inr ⟨_, m2, ?_, rfl, l1, l2, m1, l3, hK, h91⟩
      unfold f294_13b f294_148
      simp (disch := ((try simp only [true_or, or_true, hM.k, hM.k2391, hM.k2392, hM.k2393, hM.k2394, hM.k2395, hM.k2396, hM.k2397, hM.k2398, hM.k2399, hM.k2400, hM.k2401, hM.k2402, hM.k2403, hM.k2404, hM.k2405, hM.k2406, hM.k2407, hM.k2408, hM.k2409, hM.k2410, hM.k2411, hM.k2412, hM.k2413, hM.k2414, hM.k2415, hM.k2416, hM.k2417, hM.k2418, hM.k2419, hM.k2420, hM.k2421, hM.k2422, hM.k2423, hM.l2391, hM.l2392, hM.l2393, hM.l2394, hM.l2395, hM.l2396, hM.l2397, hM.l2398, hM.l2399, hM.l2400, hM.l2401, hM.l2402, hM.l2403, hM.l2404, hM.l2405, hM.l2406, hM.l2407, hM.l2408, hM.l2409, hM.l2410, hM.l2411, hM.l2412, hM.l2413, hM.l2414, hM.l2415, hM.l2416, hM.l2417, hM.l2418, hM.l2419, hM.l2420, hM.l2421, hM.l2422, hM.l2423]) <;> (try omega))) only [↓reduceIte, ↓z_ite, ↓zR, ↓zB_R, ↓zB_B, ↓zB_ite, ↓zB_gI, ↓zB_pI, ↓zB_pZ, ↓zB_aK, ↓zB_G, ↓zB_lI, ↓zB_lZ, ↓zB_wI, ↓zB_wZ, ↓zB_lIl, ↓zB_wIl, zB_pI, zB_pZ, zB_lI, zB_lZ, zB_wI, zB_wZ, z_addl, z_ladd, z_mull, z_lmul, nI_add, z_subl, Nat.not_lt_zero, z_10, z_01, z_bitc, z_b0, z_b1, ↓zB_Gb, ↓zB_G0, ↓zB_G1, z_eql, z_leq, z_ltl, z_llt, z_eq, z_lt, z_m1lt, hM.k, hM.k2391, hM.k2392, hM.k2393, hM.k2394, hM.k2395, hM.k2396, hM.k2397, hM.k2398, hM.k2399, hM.k2400, hM.k2401, hM.k2402, hM.k2403, hM.k2404, hM.k2405, hM.k2406, hM.k2407, hM.k2408, hM.k2409, hM.k2410, hM.k2411, hM.k2412, hM.k2413, hM.k2414, hM.k2415, hM.k2416, hM.k2417, hM.k2418, hM.k2419, hM.k2420, hM.k2421, hM.k2422, hM.k2423, hM.l2391, hM.l2392, hM.l2393, hM.l2394, hM.l2395, hM.l2396, hM.l2397, hM.l2398, hM.l2399, hM.l2400, hM.l2401, hM.l2402, hM.l2403, hM.l2404, hM.l2405, hM.l2406, hM.l2407, hM.l2408, hM.l2409, hM.l2410, hM.l2411, hM.l2412, hM.l2413, hM.l2414, hM.l2415, hM.l2416, hM.l2417, hM.l2418, hM.l2419, hM.l2420, hM.l2421, hM.l2422, hM.l2423, ↓hM.g1, ↓hM.g5, ↓hM.g6, ↓hM.g7, ↓hM.g8, ↓hM.g9, ↓hM.g10, ↓hM.g11, ↓hM.g12, ↓hM.g13, ↓hM.g14, ↓hM.g16, ↓hM.g17, ↓hM.g18, ↓hM.g19, ↓hM.g21, ↓hM.g22, ↓hM.g23, ↓hM.g24, ↓hM.g25, ↓hM.g27, ↓hM.g28, ↓hM.g30, ↓hM.g31, ↓hM.g32, ↓hM.g36, ↓hM.g37, ↓hM.g39, ↓hM.g40, ↓hM.g41, ↓hM.g43, ↓hM.g45, ↓hM.g46, ↓zB_c e270, zB_c e270, Nat.lt_succ_self, ↓zB_c e2, zB_c e2]
end
