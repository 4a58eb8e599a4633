-- deps:
/-! what is made at the beginning -/
section
variable {β : Type} {S S' S0 S1 : z_S} {m m' m0 m1 : z_m} {n w n1 w1 : Nat}
def z_Sn (S : z_S) (k L : Nat) : z_S := (S.1 + 1, va_up S.2.1 S.1 k, va_up S.2.2.1 S.1 L, q_row S.2.2.2.1 S.1 none, q_row S.2.2.2.2.1 S.1 0, S.2.2.2.2.2.1 + 1, S.2.2.2.2.2.2 + L)
def z_u0 (m : z_m) (k : Nat) : z_m := q_row m k 0
theorem zB_nO {a : Nat} {f : Nat → m_M β} (h : S.1 < 1000000) : m_B (m_nO a) f (z_hp S m) = f S.1 (z_hp (z_Sn S a (q_NF a)) (z_u0 m S.1)) := by
  unfold m_B m_nO
  rw [if_pos (show q_n (z_hp S m) < q_SC from h)]; rfl
theorem zB_nA {k L : Nat} {x : Int32} {f : Nat → m_M β} (hx : x = nI L) (hL : L ≤ 1000000) (h : S.1 < 1000000) : m_B (m_nA k x) f (z_hp S m) = f S.1 (z_hp (z_Sn S k L) (z_u0 m S.1)) := by
  unfold m_B m_nA
  have hc := nI_clamp (n := L) (by omega)
  rw [hx, hc, if_pos ⟨nI_pos (by omega), hL, (show q_n (z_hp S m) < q_SC from h)⟩]; rfl
theorem zB_wR4 {r k v : Nat} {f : Unit → m_M β} (hk : z_kd S r = 24) (hv : z_kd S v = 0) (hi : k < z_ln S r) (hl : z_ln S r ≤ 2147483648) : m_B (m_wR r (nI k) v) f (z_hp S m) = f () (z_hp (z_Sr S r k (some v)) m) := by
  unfold m_B m_wR; rw [show q_kd (z_hp S m) r = z_kd S r from rfl, show q_kd (z_hp S m) v = z_kd S v from rfl, show q_ln (z_hp S m) r = z_ln S r from rfl, if_pos ⟨Or.inr ⟨hk, hv⟩, z_ins hi hl⟩, nI_clamp (by omega)]; rfl
def z_G (S : z_S) (m : z_m) : Prop := ∀ a, a < S.1 → (z_kd S a ≠ 0 → z_kd S a ≠ 7 → ∀ j, m a j = 0) ∧ (z_kd S a = 7 → ∀ j, j ≠ 13 → m a j = 0) ∧ (z_kd S a = 0 → ∀ j, j ≠ 6 → m a j = 0)
/-- more, and nothing of before changed -/
def z_E (S : z_S) (m : z_m) (S' : z_S) (m' : z_m) (n w : Nat) : Prop := S'.1 = S.1 + n ∧ S'.2.2.2.2.2.1 = S.2.2.2.2.2.1 + n ∧ S'.2.2.2.2.2.2 = S.2.2.2.2.2.2 + w ∧ (∀ a, a < S.1 → z_kd S' a = z_kd S a ∧ z_ln S' a = z_ln S a ∧ (∀ j, z_rm S' a j = z_rm S a j) ∧ ∀ j, m' a j = m a j) ∧ (z_G S m → z_G S' m')
theorem z_E.refl (S : z_S) (m : z_m) : z_E S m S m 0 0 := ⟨rfl, rfl, rfl, fun _ _ => ⟨rfl, rfl, fun _ => rfl, fun _ => rfl⟩, fun h => h⟩
theorem z_E.trans (h : z_E S m S1 m1 n w) (h2 : z_E S1 m1 S' m' n1 w1) : z_E S m S' m' (n + n1) (w + w1) := by
  obtain ⟨a1, a2, a3, a4, a5⟩ := h
  obtain ⟨b1, b2, b3, b4, b5⟩ := h2
  refine ⟨by omega, by omega, by omega, fun a ha => ?_, fun g => b5 (a5 g)⟩
  obtain ⟨x1, x2, x3, x4⟩ := a4 a ha
  obtain ⟨y1, y2, y3, y4⟩ := b4 a (by omega)
  exact ⟨y1.trans x1, y2.trans x2, fun j => (y3 j).trans (x3 j), fun j => (y4 j).trans (x4 j)⟩
theorem z_kd_n {k L a : Nat} : z_kd (z_Sn S k L) a = if a = S.1 then k else z_kd S a := rfl
theorem z_ln_n {k L a : Nat} : z_ln (z_Sn S k L) a = if a = S.1 then L else z_ln S a := rfl
theorem z_rm_n {k L a j : Nat} : z_rm (z_Sn S k L) a j = if a = S.1 then none else z_rm S a j := rfl
theorem z_u0_e {k a j : Nat} : z_u0 m k a j = if a = k then 0 else m a j := rfl
theorem z_E_n (S : z_S) (m : z_m) (k L : Nat) : z_E S m (z_Sn S k L) (z_u0 m S.1) 1 L := by
  refine ⟨rfl, rfl, rfl, fun a ha => ⟨by rw [z_kd_n, if_neg (by omega)], by rw [z_ln_n, if_neg (by omega)], fun j => by rw [z_rm_n, if_neg (by omega)], fun j => by rw [z_u0_e, if_neg (by omega)]⟩, fun hg a ha => ?_⟩
  rw [z_kd_n]
  by_cases e : a = S.1
  · have z : ∀ j, z_u0 m S.1 a j = 0 := fun j => by rw [z_u0_e, if_pos e]
    exact ⟨fun _ _ j => z j, fun _ j _ => z j, fun _ j _ => z j⟩
  · rw [if_neg e]
    have z : ∀ j, z_u0 m S.1 a j = m a j := fun j => by rw [z_u0_e, if_neg e]
    have ha : a < S.1 + 1 := ha
    obtain ⟨g1, g2, g3⟩ := hg a (by omega)
    exact ⟨fun x y j => by rw [z]; exact g1 x y j, fun x j y => by rw [z]; exact g2 x j y, fun x j y => by rw [z]; exact g3 x j y⟩
theorem z_E.r (h : z_E S m S1 m1 n w) {l j : Nat} {v : Option Nat} (hl : S.1 ≤ l) : z_E S m (z_Sr S1 l j v) m1 n w := by
  obtain ⟨a1, a2, a3, a4, a5⟩ := h
  refine ⟨a1, a2, a3, fun a ha => ?_, a5⟩
  obtain ⟨x1, x2, x3, x4⟩ := a4 a ha
  exact ⟨x1, x2, fun i => by rw [z_rm_r, if_neg (fun q => by omega)]; exact x3 i, x4⟩
theorem z_E.i (h : z_E S m S1 m1 n w) {l j : Nat} {v : Int32} (hl : S.1 ≤ l) (hk : (z_kd S1 l = 0 ∧ j = 6) ∨ (z_kd S1 l = 7 ∧ j = 13)) : z_E S m S1 (z_up m1 l j v) n w := by
  obtain ⟨a1, a2, a3, a4, a5⟩ := h
  refine ⟨a1, a2, a3, fun a ha => ?_, fun hg a ha => ?_⟩
  · obtain ⟨x1, x2, x3, x4⟩ := a4 a ha
    exact ⟨x1, x2, x3, fun i => by rw [z_up_a (by omega)]; exact x4 i⟩
  · obtain ⟨g1, g2, g3⟩ := a5 hg a ha
    by_cases e : a = l
    · subst e
      refine ⟨fun x y i => ?_, fun x i y => ?_, fun x i y => ?_⟩
      · rcases hk with ⟨q, _⟩ | ⟨q, _⟩
        · exact absurd q x
        · exact absurd q y
      · rcases hk with ⟨q, _⟩ | ⟨_, q⟩
        · rw [x] at q; cases q
        · rw [z_up_b (by omega)]; exact g2 x i y
      · rcases hk with ⟨_, q⟩ | ⟨q, _⟩
        · rw [z_up_b (by omega)]; exact g3 x i y
        · rw [x] at q; cases q
    · exact ⟨fun x y i => by rw [z_up_a e]; exact g1 x y i, fun x i y => by rw [z_up_a e]; exact g2 x i y, fun x i y => by rw [z_up_a e]; exact g3 x i y⟩
/-- arrays for the fields of one object -/
def z_fb (c l0 : Nat) : List (Nat × Nat × Nat) → m_M Unit → m_M Unit
  | [], K => K
  | e :: t, K => m_B (m_nA e.2.1 (nI e.2.2)) (fun r => m_B (m_pR c l0 e.1 r) (fun _ => z_fb c l0 t K))
def z_fs : List (Nat × Nat × Nat) → Nat
  | [] => 0
  | e :: t => e.2.2 + z_fs t
theorem z_fb_sp {c l0 : Nat} {K : m_M Unit} : ∀ (t : List (Nat × Nat × Nat)) (S : z_S) (m : z_m) (n w : Nat), z_E S0 m0 S m n w → S0.1 ≤ l0 → l0 < S.1 → z_kd S l0 = c → S.1 + t.length ≤ 1000000 → (∀ e ∈ t, e.2.2 ≤ 1000000) → (t.map (·.1)).Nodup → ∃ S' m', z_fb c l0 t K (z_hp S m) = K (z_hp S' m') ∧ z_E S0 m0 S' m' (n + t.length) (w + z_fs t) ∧ (∀ a, a < S.1 → z_kd S' a = z_kd S a ∧ z_ln S' a = z_ln S a ∧ (∀ j, m' a j = m a j) ∧ (a ≠ l0 → ∀ j, z_rm S' a j = z_rm S a j)) ∧ (∀ i e, t[i]? = some e → z_kd S' (S.1 + i) = e.2.1 ∧ z_ln S' (S.1 + i) = e.2.2 ∧ z_rm S' l0 e.1 = some (S.1 + i)) ∧ ∀ j, (∀ e ∈ t, e.1 ≠ j) → z_rm S' l0 j = z_rm S l0 j
  | [], S, m, n, w, hE, _, _, _, _, _, _ => ⟨S, m, rfl, hE, fun _ _ => ⟨rfl, rfl, fun _ => rfl, fun _ _ => rfl⟩, fun i e h => by simp at h, fun _ _ => rfl⟩
  | e :: t, S, m, n, w, hE, h0, hl, hk, hN, hL, hd => by
    have hN : S.1 + (t.length + 1) ≤ 1000000 := hN
    rw [List.map_cons, List.nodup_cons] at hd
    have eA := zB_nA (S := S) (m := m) (k := e.2.1) (x := nI e.2.2) (f := fun r => m_B (m_pR c l0 e.1 r) (fun _ => z_fb c l0 t K)) rfl (hL e List.mem_cons_self) (by omega)
    have hk1 : z_kd (z_Sn S e.2.1 e.2.2) l0 = c := by rw [z_kd_n, if_neg (by omega)]; exact hk
    have eP := zB_pR (S := z_Sn S e.2.1 e.2.2) (m := z_u0 m S.1) (r := l0) (a := e.1) (v := S.1) (f := fun _ => z_fb c l0 t K) hk1
    have hE1 : z_E S0 m0 (z_Sr (z_Sn S e.2.1 e.2.2) l0 e.1 (some S.1)) (z_u0 m S.1) (n + 1) (w + e.2.2) := (hE.trans (z_E_n S m _ _)).r h0
    obtain ⟨S', m', q1, q2, q3, q4, q5⟩ := z_fb_sp t (z_Sr (z_Sn S e.2.1 e.2.2) l0 e.1 (some S.1)) (z_u0 m S.1) (n + 1) (w + e.2.2) hE1 h0 (show l0 < S.1 + 1 by omega) hk1 (show S.1 + 1 + t.length ≤ 1000000 by omega) (fun x hx => hL x (List.mem_cons_of_mem _ hx)) hd.2
    refine ⟨S', m', ?_, ?_, fun a ha => ?_, fun i x hx => ?_, fun j hj => ?_⟩
    · show m_B (m_nA e.2.1 (nI e.2.2)) (fun r => m_B (m_pR c l0 e.1 r) (fun _ => z_fb c l0 t K)) (z_hp S m) = _
      rw [eA, eP]; exact q1
    · have e1 : n + 1 + t.length = n + (t.length + 1) := by omega
      have e2 : w + e.2.2 + z_fs t = w + (e.2.2 + z_fs t) := by omega
      rw [e1, e2] at q2
      exact q2
    · obtain ⟨x1, x2, x3, x4⟩ := q3 a (show a < S.1 + 1 by omega)
      refine ⟨?_, ?_, fun j => ?_, fun hne j => ?_⟩
      · rw [x1, z_kd_r, z_kd_n, if_neg (by omega)]
      · rw [x2, z_ln_r, z_ln_n, if_neg (by omega)]
      · rw [x3, z_u0_e, if_neg (by omega)]
      · rw [x4 hne, z_rm_r, if_neg (fun q => hne q.1), z_rm_n, if_neg (by omega)]
    · cases i with
      | zero =>
        obtain rfl : e = x := by simpa using hx
        obtain ⟨x1, x2, _, _⟩ := q3 S.1 (show S.1 < S.1 + 1 by omega)
        refine ⟨?_, ?_, ?_⟩
        · rw [Nat.add_zero, x1, z_kd_r, z_kd_n, if_pos rfl]
        · rw [Nat.add_zero, x2, z_ln_r, z_ln_n, if_pos rfl]
        · rw [q5 e.1 (fun x hx hxe => hd.1 (by rw [← hxe]; exact List.mem_map_of_mem hx)), z_rm_r, if_pos ⟨rfl, rfl⟩, Nat.add_zero]
      | succ i =>
        have := q4 i x (by simpa using hx)
        have e1 : (z_Sr (z_Sn S e.2.1 e.2.2) l0 e.1 (some S.1)).1 + i = S.1 + (i + 1) := by
          show S.1 + 1 + i = _
          omega
        rw [e1] at this
        exact this
    · rw [q5 j (fun x hx => hj x (List.mem_cons_of_mem _ hx)), z_rm_r, if_neg (fun q => hj e List.mem_cons_self q.2.symm), z_rm_n, if_neg (by omega)]
/-- a body -/
theorem z_nB {R : Nat} {x : Int32} (hx : x = nI R) (hR : R < 1000000) (h : S.1 + 7 ≤ 1000000) : ∃ S' m', f0 S.1 x (z_hp (z_Sn S 0 8) (z_u0 m S.1)) = some ((), z_hp S' m') ∧ z_E S m S' m' 7 (8 + 6 * (R + 1)) ∧ z_BS S' S.1 R ∧ m' S.1 6 = nI R := by
  subst hx
  have hk : z_kd (z_Sn S 0 8) S.1 = 0 := by rw [z_kd_n, if_pos rfl]
  have e1 : nI R + 1 = nI (R + 1) := z_addl R 1
  have hf : f0 S.1 (nI R) = m_B (m_pI 0 S.1 6 (nI R)) (fun _ => z_fb 0 S.1 [(0, 20, R + 1), (1, 20, R + 1), (2, 20, R + 1), (3, 20, R + 1), (4, 20, R + 1), (5, 20, R + 1)] (m_R ())) := by
    unfold f0
    rw [e1]; rfl
  have hE : z_E S m (z_Sn S 0 8) (z_up (z_u0 m S.1) S.1 6 (nI R)) 1 8 := (z_E_n S m 0 8).i (Nat.le_refl _) (Or.inl ⟨hk, rfl⟩)
  obtain ⟨S', m', q1, q2, q3, q4, q5⟩ := z_fb_sp (S0 := S) (m0 := m) (c := 0) (l0 := S.1) (K := m_R ()) [(0, 20, R + 1), (1, 20, R + 1), (2, 20, R + 1), (3, 20, R + 1), (4, 20, R + 1), (5, 20, R + 1)] (z_Sn S 0 8) (z_up (z_u0 m S.1) S.1 6 (nI R)) 1 8 hE (Nat.le_refl _) (Nat.lt_succ_self _) hk (show S.1 + 1 + 6 ≤ 1000000 by omega) (by
    intro e he
    simp only [List.mem_cons, List.not_mem_nil, or_false] at he
    rcases he with rfl | rfl | rfl | rfl | rfl | rfl <;> exact hR) (by show [0, 1, 2, 3, 4, 5].Nodup; decide)
  refine ⟨S', m', ?_, ?_, ⟨?_, fun j hj => ?_⟩, ?_⟩
  · rw [hf, zB_pI hk, q1]; rfl
  · have : z_fs [(0, 20, R + 1), (1, 20, R + 1), (2, 20, R + 1), (3, 20, R + 1), (4, 20, R + 1), (5, 20, R + 1)] = 6 * (R + 1) := by
      show (R + 1) + ((R + 1) + ((R + 1) + ((R + 1) + ((R + 1) + ((R + 1) + 0))))) = 6 * (R + 1)
      omega
    rw [this] at q2
    exact q2
  · rw [(q3 S.1 (Nat.lt_succ_self _)).1]; exact hk
  · have : j = 0 ∨ j = 1 ∨ j = 2 ∨ j = 3 ∨ j = 4 ∨ j = 5 := by omega
    have key := q4 j (j, 20, R + 1) (by rcases this with rfl | rfl | rfl | rfl | rfl | rfl <;> rfl)
    exact ⟨key.2.2, key.1, key.2.1⟩
  · rw [(q3 S.1 (Nat.lt_succ_self _)).2.2.1, z_up_s]
theorem z_BS_E {b R : Nat} (h : z_E S m S' m' n w) (hb : b + 7 ≤ S.1) (hB : z_BS S b R) : z_BS S' b R := by
  obtain ⟨_, _, _, a4, _⟩ := h
  refine ⟨by rw [(a4 b (by omega)).1]; exact hB.1, fun j hj => ?_⟩
  obtain ⟨x1, x2, x3⟩ := hB.2 j hj
  exact ⟨by rw [(a4 b (by omega)).2.2.1]; exact x1, by rw [(a4 _ (by omega)).1]; exact x2, by rw [(a4 _ (by omega)).2.1]; exact x3⟩
end
