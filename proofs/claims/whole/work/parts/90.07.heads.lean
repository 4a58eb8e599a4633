-- deps:
/-! heads that the reference writes -/
def z_hx (m : z_m) (b k w : Nat) (v : Int32) : z_m := z_up m 2391 (14200 * b + 104 + 10 * k + w) v
section
variable {β : Type} {S : z_S} {m : z_m} {b k w : Nat} {B W v : Int32}
theorem z_hx_n {a : Nat} (h : a ≠ 2391) : z_hx m b k w v a = m a := z_up_row h
theorem z_hx_o {j : Nat} (h : j < 14200 * b + 104 + 10 * k ∨ 14200 * b + 104 + 10 * k + 10 ≤ j) (hw : w < 10) : z_hx m b k w v 2391 j = m 2391 j := z_up_b (by omega)
theorem z_hx_r {w' : Nat} : z_hx m b k w v 2391 (14200 * b + 104 + 10 * k + w') = if w' = w then v else m 2391 (14200 * b + 104 + 10 * k + w') := by
  unfold z_hx
  rw [z_up_k]
  by_cases g : w' = w
  · rw [if_pos g, if_pos (by omega)]
  · rw [if_neg g, if_neg (by omega)]
theorem f197_sp (hM : z_MS S) (hB : B = nI b) (hW : W = nI w) (hb : b < 13) (hk : k < 24) (hw : w < 10) : f197 2390 B (nI k) W v (z_hp S m) = some ((), z_hp S (z_hx m b k w v)) := by
  subst hB hW
  unfold f197 z_hx
  simp (disch := ((try simp only [true_or, or_true, hM.k, hM.k2391, hM.k2392, hM.k2393, hM.k2394, hM.k2395, hM.k2396, hM.k2397, hM.k2398, hM.k2399, hM.k2400, hM.k2401, hM.k2402, hM.k2403, hM.k2404, hM.k2405, hM.k2406, hM.k2407, hM.k2408, hM.k2409, hM.k2410, hM.k2411, hM.k2412, hM.k2413, hM.k2414, hM.k2415, hM.k2416, hM.k2417, hM.k2418, hM.k2419, hM.k2420, hM.k2421, hM.k2422, hM.k2423, hM.l2391, hM.l2392, hM.l2393, hM.l2394, hM.l2395, hM.l2396, hM.l2397, hM.l2398, hM.l2399, hM.l2400, hM.l2401, hM.l2402, hM.l2403, hM.l2404, hM.l2405, hM.l2406, hM.l2407, hM.l2408, hM.l2409, hM.l2410, hM.l2411, hM.l2412, hM.l2413, hM.l2414, hM.l2415, hM.l2416, hM.l2417, hM.l2418, hM.l2419, hM.l2420, hM.l2421, hM.l2422, hM.l2423]) <;> (try omega))) only [↓reduceIte, ↓z_ite, ↓zR, ↓zB_R, ↓zB_B, ↓zB_ite, ↓zB_gI, ↓zB_pI, ↓zB_pZ, ↓zB_aK, ↓zB_G, ↓zB_lI, ↓zB_lZ, ↓zB_wI, ↓zB_wZ, ↓zB_lIl, ↓zB_wIl, zB_pI, zB_pZ, zB_lI, zB_lZ, zB_wI, zB_wZ, z_addl, z_ladd, z_mull, z_lmul, nI_add, z_subl, Nat.not_lt_zero, z_10, z_01, z_bitc, z_b0, z_b1, ↓zB_Gb, ↓zB_G0, ↓zB_G1, z_eql, z_leq, z_ltl, z_llt, z_eq, z_lt, z_m1lt, hM.k, hM.k2391, hM.k2392, hM.k2393, hM.k2394, hM.k2395, hM.k2396, hM.k2397, hM.k2398, hM.k2399, hM.k2400, hM.k2401, hM.k2402, hM.k2403, hM.k2404, hM.k2405, hM.k2406, hM.k2407, hM.k2408, hM.k2409, hM.k2410, hM.k2411, hM.k2412, hM.k2413, hM.k2414, hM.k2415, hM.k2416, hM.k2417, hM.k2418, hM.k2419, hM.k2420, hM.k2421, hM.k2422, hM.k2423, hM.l2391, hM.l2392, hM.l2393, hM.l2394, hM.l2395, hM.l2396, hM.l2397, hM.l2398, hM.l2399, hM.l2400, hM.l2401, hM.l2402, hM.l2403, hM.l2404, hM.l2405, hM.l2406, hM.l2407, hM.l2408, hM.l2409, hM.l2410, hM.l2411, hM.l2412, hM.l2413, hM.l2414, hM.l2415, hM.l2416, hM.l2417, hM.l2418, hM.l2419, hM.l2420, hM.l2421, hM.l2422, hM.l2423, ↓hM.g1, ↓hM.g5, ↓hM.g6, ↓hM.g7, ↓hM.g8, ↓hM.g9, ↓hM.g10, ↓hM.g11, ↓hM.g12, ↓hM.g13, ↓hM.g14, ↓hM.g16, ↓hM.g17, ↓hM.g18, ↓hM.g19, ↓hM.g21, ↓hM.g22, ↓hM.g23, ↓hM.g24, ↓hM.g25, ↓hM.g27, ↓hM.g28, ↓hM.g30, ↓hM.g31, ↓hM.g32, ↓hM.g36, ↓hM.g37, ↓hM.g39, ↓hM.g40, ↓hM.g41, ↓hM.g43, ↓hM.g45, ↓hM.g46]
theorem r197_0_0 (hM : z_MS S) (hk : k < 24) {f : Unit → m_M β} : m_B (f197 2390 0 (nI k) 0 v) f (z_hp S m) = f () (z_hp S (z_hx m 0 k 0 v)) := zB_c (f197_sp hM rfl rfl (by decide) hk (by decide))
theorem r197_0_1 (hM : z_MS S) (hk : k < 24) {f : Unit → m_M β} : m_B (f197 2390 0 (nI k) 1 v) f (z_hp S m) = f () (z_hp S (z_hx m 0 k 1 v)) := zB_c (f197_sp hM rfl rfl (by decide) hk (by decide))
theorem r197_0_2 (hM : z_MS S) (hk : k < 24) {f : Unit → m_M β} : m_B (f197 2390 0 (nI k) 2 v) f (z_hp S m) = f () (z_hp S (z_hx m 0 k 2 v)) := zB_c (f197_sp hM rfl rfl (by decide) hk (by decide))
theorem r197_0_3 (hM : z_MS S) (hk : k < 24) {f : Unit → m_M β} : m_B (f197 2390 0 (nI k) 3 v) f (z_hp S m) = f () (z_hp S (z_hx m 0 k 3 v)) := zB_c (f197_sp hM rfl rfl (by decide) hk (by decide))
theorem r197_0_4 (hM : z_MS S) (hk : k < 24) {f : Unit → m_M β} : m_B (f197 2390 0 (nI k) 4 v) f (z_hp S m) = f () (z_hp S (z_hx m 0 k 4 v)) := zB_c (f197_sp hM rfl rfl (by decide) hk (by decide))
theorem r197_0_5 (hM : z_MS S) (hk : k < 24) {f : Unit → m_M β} : m_B (f197 2390 0 (nI k) 5 v) f (z_hp S m) = f () (z_hp S (z_hx m 0 k 5 v)) := zB_c (f197_sp hM rfl rfl (by decide) hk (by decide))
theorem r197_0_6 (hM : z_MS S) (hk : k < 24) {f : Unit → m_M β} : m_B (f197 2390 0 (nI k) 6 v) f (z_hp S m) = f () (z_hp S (z_hx m 0 k 6 v)) := zB_c (f197_sp hM rfl rfl (by decide) hk (by decide))
theorem r197_0_7 (hM : z_MS S) (hk : k < 24) {f : Unit → m_M β} : m_B (f197 2390 0 (nI k) 7 v) f (z_hp S m) = f () (z_hp S (z_hx m 0 k 7 v)) := zB_c (f197_sp hM rfl rfl (by decide) hk (by decide))
theorem r197_0_8 (hM : z_MS S) (hk : k < 24) {f : Unit → m_M β} : m_B (f197 2390 0 (nI k) 8 v) f (z_hp S m) = f () (z_hp S (z_hx m 0 k 8 v)) := zB_c (f197_sp hM rfl rfl (by decide) hk (by decide))
theorem r197_0_9 (hM : z_MS S) (hk : k < 24) {f : Unit → m_M β} : m_B (f197 2390 0 (nI k) 9 v) f (z_hp S m) = f () (z_hp S (z_hx m 0 k 9 v)) := zB_c (f197_sp hM rfl rfl (by decide) hk (by decide))
theorem r197_0_s (hM : z_MS S) (hk : k < 24) (hw : w < 10) {f : Unit → m_M β} : m_B (f197 2390 0 (nI k) (nI w) v) f (z_hp S m) = f () (z_hp S (z_hx m 0 k w v)) := zB_c (f197_sp hM rfl rfl (by decide) hk hw)
theorem r197_2_0 (hM : z_MS S) (hk : k < 24) {f : Unit → m_M β} : m_B (f197 2390 2 (nI k) 0 v) f (z_hp S m) = f () (z_hp S (z_hx m 2 k 0 v)) := zB_c (f197_sp hM rfl rfl (by decide) hk (by decide))
theorem r197_2_1 (hM : z_MS S) (hk : k < 24) {f : Unit → m_M β} : m_B (f197 2390 2 (nI k) 1 v) f (z_hp S m) = f () (z_hp S (z_hx m 2 k 1 v)) := zB_c (f197_sp hM rfl rfl (by decide) hk (by decide))
theorem r197_2_2 (hM : z_MS S) (hk : k < 24) {f : Unit → m_M β} : m_B (f197 2390 2 (nI k) 2 v) f (z_hp S m) = f () (z_hp S (z_hx m 2 k 2 v)) := zB_c (f197_sp hM rfl rfl (by decide) hk (by decide))
theorem r197_2_3 (hM : z_MS S) (hk : k < 24) {f : Unit → m_M β} : m_B (f197 2390 2 (nI k) 3 v) f (z_hp S m) = f () (z_hp S (z_hx m 2 k 3 v)) := zB_c (f197_sp hM rfl rfl (by decide) hk (by decide))
theorem r197_2_4 (hM : z_MS S) (hk : k < 24) {f : Unit → m_M β} : m_B (f197 2390 2 (nI k) 4 v) f (z_hp S m) = f () (z_hp S (z_hx m 2 k 4 v)) := zB_c (f197_sp hM rfl rfl (by decide) hk (by decide))
theorem r197_2_5 (hM : z_MS S) (hk : k < 24) {f : Unit → m_M β} : m_B (f197 2390 2 (nI k) 5 v) f (z_hp S m) = f () (z_hp S (z_hx m 2 k 5 v)) := zB_c (f197_sp hM rfl rfl (by decide) hk (by decide))
theorem r197_2_6 (hM : z_MS S) (hk : k < 24) {f : Unit → m_M β} : m_B (f197 2390 2 (nI k) 6 v) f (z_hp S m) = f () (z_hp S (z_hx m 2 k 6 v)) := zB_c (f197_sp hM rfl rfl (by decide) hk (by decide))
theorem r197_2_7 (hM : z_MS S) (hk : k < 24) {f : Unit → m_M β} : m_B (f197 2390 2 (nI k) 7 v) f (z_hp S m) = f () (z_hp S (z_hx m 2 k 7 v)) := zB_c (f197_sp hM rfl rfl (by decide) hk (by decide))
theorem r197_2_8 (hM : z_MS S) (hk : k < 24) {f : Unit → m_M β} : m_B (f197 2390 2 (nI k) 8 v) f (z_hp S m) = f () (z_hp S (z_hx m 2 k 8 v)) := zB_c (f197_sp hM rfl rfl (by decide) hk (by decide))
theorem r197_2_9 (hM : z_MS S) (hk : k < 24) {f : Unit → m_M β} : m_B (f197 2390 2 (nI k) 9 v) f (z_hp S m) = f () (z_hp S (z_hx m 2 k 9 v)) := zB_c (f197_sp hM rfl rfl (by decide) hk (by decide))
theorem r197_2_s (hM : z_MS S) (hk : k < 24) (hw : w < 10) {f : Unit → m_M β} : m_B (f197 2390 2 (nI k) (nI w) v) f (z_hp S m) = f () (z_hp S (z_hx m 2 k w v)) := zB_c (f197_sp hM rfl rfl (by decide) hk hw)
/-- what writing a head may change -/
def z_hF (b k : Nat) (m m' : z_m) : Prop := (∀ a, a ≠ 2391 → m' a = m a) ∧ ∀ j, (j < 14200 * b + 104 + 10 * k ∨ 14200 * b + 104 + 10 * k + 10 ≤ j) → m' 2391 j = m 2391 j
theorem z_hF.refl (b k : Nat) (m : z_m) : z_hF b k m m := ⟨fun _ _ => rfl, fun _ _ => rfl⟩
theorem z_hF.x {m' : z_m} (h : z_hF b k m m') (hw : w < 10) : z_hF b k m (z_hx m' b k w v) := ⟨fun a ha => (z_hx_n ha).trans (h.1 a ha), fun j hj => (z_hx_o hj hw).trans (h.2 j hj)⟩
/-- a head that is written -/
def z_hs (m : z_m) (b k : Nat) (H : Nat → Int32) : Prop := ∀ w, w < 10 → m 2391 (14200 * b + 104 + 10 * k + w) = H w
theorem z_hs.x {H : Nat → Int32} (h : z_hs m b k H) : z_hs (z_hx m b k w v) b k (fun w' => if w' = w then v else H w') := fun w' hw' => by
  rw [z_hx_r]
  by_cases g : w' = w
  · rw [if_pos g]; exact (if_pos g).symm
  · rw [if_neg g]; exact (h w' hw').trans (if_neg g).symm
/-- layHead -/
theorem f220_sp (hM : z_MS S) (hB : B = nI b) (hb : b < 13) (hk : k < 24) (c n t : Int32) : ∃ m', f220 2390 B (nI k) c n t (z_hp S m) = some ((), z_hp S m') ∧ z_hs m' b k (fun w => if w = 9 then 0 else z_hdr c n 0 (-1) (-1) (-1) (-1) t w) ∧ z_hF b k m m' := by
  have e : ∀ (m : z_m) (w : Nat) (v : Int32), w < 10 → f197 2390 B (nI k) (nI w) v (z_hp S m) = some ((), z_hp S (z_hx m b k w v)) := fun m w v hw => f197_sp hM hB rfl hb hk hw
  refine ⟨z_hx (z_hx (z_hx (z_hx (z_hx (z_hx (z_hx (z_hx (z_hx (z_hx m b k 0 1) b k 1 c) b k 2 n) b k 3 0) b k 4 (-1)) b k 5 (-1)) b k 6 (-1)) b k 7 (-1)) b k 8 t) b k 9 0, ?_, fun w hw => ?_, ((((((((((z_hF.refl b k m).x (by decide)).x (by decide)).x (by decide)).x (by decide)).x (by decide)).x (by decide)).x (by decide)).x (by decide)).x (by decide)).x (by decide)⟩
  · have e0 : ∀ m v, f197 2390 B (nI k) 0 v (z_hp S m) = some ((), z_hp S (z_hx m b k 0 v)) := fun m v => e m 0 v (by decide)
    have e1 : ∀ m v, f197 2390 B (nI k) 1 v (z_hp S m) = some ((), z_hp S (z_hx m b k 1 v)) := fun m v => e m 1 v (by decide)
    have e2 : ∀ m v, f197 2390 B (nI k) 2 v (z_hp S m) = some ((), z_hp S (z_hx m b k 2 v)) := fun m v => e m 2 v (by decide)
    have e3 : ∀ m v, f197 2390 B (nI k) 3 v (z_hp S m) = some ((), z_hp S (z_hx m b k 3 v)) := fun m v => e m 3 v (by decide)
    have e4 : ∀ m v, f197 2390 B (nI k) 4 v (z_hp S m) = some ((), z_hp S (z_hx m b k 4 v)) := fun m v => e m 4 v (by decide)
    have e5 : ∀ m v, f197 2390 B (nI k) 5 v (z_hp S m) = some ((), z_hp S (z_hx m b k 5 v)) := fun m v => e m 5 v (by decide)
    have e6 : ∀ m v, f197 2390 B (nI k) 6 v (z_hp S m) = some ((), z_hp S (z_hx m b k 6 v)) := fun m v => e m 6 v (by decide)
    have e7 : ∀ m v, f197 2390 B (nI k) 7 v (z_hp S m) = some ((), z_hp S (z_hx m b k 7 v)) := fun m v => e m 7 v (by decide)
    have e8 : ∀ m v, f197 2390 B (nI k) 8 v (z_hp S m) = some ((), z_hp S (z_hx m b k 8 v)) := fun m v => e m 8 v (by decide)
    have e9 : ∀ m v, f197 2390 B (nI k) 9 v (z_hp S m) = some ((), z_hp S (z_hx m b k 9 v)) := fun m v => e m 9 v (by decide)
    unfold f220
    rw [zB_aK hM.k, zB_c (e0 _ _), zB_aK hM.k, zB_c (e1 _ _), zB_aK hM.k, zB_c (e2 _ _), zB_aK hM.k, zB_c (e3 _ _), zB_aK hM.k, zB_c (e4 _ _), zB_aK hM.k, zB_c (e5 _ _), zB_aK hM.k, zB_c (e6 _ _), zB_aK hM.k, zB_c (e7 _ _), zB_aK hM.k, zB_c (e8 _ _), zB_aK hM.k, zB_c (e9 _ _)]
    rfl
  · simp only [z_hx_r]
    have : w = 0 ∨ w = 1 ∨ w = 2 ∨ w = 3 ∨ w = 4 ∨ w = 5 ∨ w = 6 ∨ w = 7 ∨ w = 8 ∨ w = 9 := by omega
    rcases this with g | g | g | g | g | g | g | g | g | g <;> subst g <;> rfl
theorem z_mb_add {P : z_Pg} {m' : z_m} {H : Nat → Int32} {l : List z_N} (h : z_mb m b P) (h24 : z_nm P < 24) (h1 : m' 2391 (14200 * b + 1) = nI (z_nm P + 1)) (hH : ∀ w, w < 9 → m' 2391 (14200 * b + 104 + 10 * z_nm P + w) = H w) (hL : m' 2391 (14200 * b + 104 + 10 * z_nm P + 9) = nI l.length) (hl : l.length ≤ 192) (hlw : ∀ j, j < l.length → m' 2391 (14200 * b + 344 + 576 * z_nm P + j) = z_k l j ∧ m' 2391 (14200 * b + 344 + 576 * z_nm P + j + 192) = z_v l j ∧ m' 2391 (14200 * b + 344 + 576 * z_nm P + j + 384) = z_a l j) (hfr : ∀ j, j ≠ 14200 * b + 1 → 14200 * b ≤ j → j < 14200 * b + 14200 → (j < 14200 * b + 104 + 10 * z_nm P ∨ 14200 * b + 104 + 10 * z_nm P + 10 ≤ j) → (j < 14200 * b + 344 + 576 * z_nm P ∨ 14200 * b + 344 + 576 * z_nm P + 576 ≤ j) → m' 2391 j = m 2391 j) : z_mb m' b (z_addM P H l) := by
  obtain ⟨b1, b2, b3, b4, b5, b6, b7⟩ := h
  refine ⟨b1, b2, h24, ?_, h1, fun c hc => ?_, fun k hk => ?_⟩
  · rw [hfr _ (by omega) (by omega) (by omega) (by omega) (by omega)]; exact b4
  · have hc : c < z_nc P := hc
    obtain ⟨q1, q2⟩ := b6 c hc
    refine ⟨?_, fun n hn => ?_⟩
    · rw [hfr _ (by omega) (by omega) (by omega) (by omega) (by omega)]; exact q1
    · rw [hfr _ (by omega) (by omega) (by omega) (by omega) (by omega)]; exact q2 n hn
  · have hk : k < z_nm P + 1 := hk
    by_cases g : k = z_nm P
    · subst g
      rw [z_addM_bd_s]
      exact ⟨fun w hw => by rw [z_addM_hd_s]; exact hH w hw, hL, hl, hlw⟩
    · obtain ⟨q1, q2, q3, q4⟩ := b7 k (by omega)
      rw [z_addM_bd_o g]
      refine ⟨fun w hw => ?_, ?_, q3, fun i hi => ?_⟩
      · rw [z_addM_hd_o g, hfr _ (by omega) (by omega) (by omega) (by omega) (by omega)]; exact q1 w hw
      · rw [hfr _ (by omega) (by omega) (by omega) (by omega) (by omega)]; exact q2
      · rw [hfr _ (by omega) (by omega) (by omega) (by omega) (by omega), hfr _ (by omega) (by omega) (by omega) (by omega) (by omega), hfr _ (by omega) (by omega) (by omega) (by omega) (by omega)]; exact q4 i hi
end
