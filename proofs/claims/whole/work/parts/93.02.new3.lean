-- deps: 93.00.new 93.01.new2
/-! steps of making -/
section
variable {α β : Type} {S S' S0 S1 : z_S} {m m' m0 m1 : z_m} {N N' w w' : Nat} {kl bl : List (Nat × Nat)} {rl al : List (Nat × Nat × Nat)} {pl : List Nat}
theorem Rn_B {F : m_M α} {G : α → m_M β} {h h1 : q_H} {x : α} {r : Option (β × q_H)} (e : F h = some (x, h1)) (e2 : G x h1 = r) : m_B F G h = r := by
  unfold m_B; rw [e]; exact e2
theorem mW_s {σ R : Type} {f : σ → m_M (σ ⊕ R)} {F : Nat} {s s' : σ} {h h' : q_H} {r : Option (R × q_H)} (e : f s h = some (.inl s', h')) (e2 : m_W f F s' h' = r) : m_W f (F + 1) s h = r := by
  unfold m_W m_B; rw [e]; exact e2
theorem mW_e {σ R : Type} {f : σ → m_M (σ ⊕ R)} {F : Nat} {s : σ} {h h' : q_H} {x : R} (e : f s h = some (.inr x, h')) : m_W f (F + 1) s h = some (x, h') := by
  unfold m_W m_B; rw [e]; rfl
/-- what is known so far -/
def z_Lf (S : z_S) (m : z_m) (kl : List (Nat × Nat)) (rl al : List (Nat × Nat × Nat)) (bl : List (Nat × Nat)) (pl : List Nat) : Prop := (∀ e ∈ kl, e.1 < S.1 ∧ z_kd S e.1 = e.2) ∧ (∀ e ∈ rl, e.1 < S.1 ∧ z_rm S e.1 e.2.1 = some e.2.2) ∧ (∀ e ∈ al, e.1 < S.1 ∧ z_kd S e.1 = e.2.1 ∧ z_ln S e.1 = e.2.2) ∧ (∀ e ∈ bl, e.1 + 7 ≤ S.1 ∧ z_BS S e.1 e.2 ∧ m e.1 6 = nI e.2) ∧ ∀ p ∈ pl, p + 179 ≤ S.1 ∧ z_PS S p ∧ ∀ k, k < 24 → m (z_bi p k) 6 = nI 60
theorem z_Lf.E {n w : Nat} (h : z_E S m S' m' n w) (hL : z_Lf S m kl rl al bl pl) : z_Lf S' m' kl rl al bl pl := by
  obtain ⟨l1, l2, l3, l4, l5⟩ := hL
  have a1 := h.1
  have a4 := h.2.2.2.1
  refine ⟨fun e he => ?_, fun e he => ?_, fun e he => ?_, fun e he => ?_, fun p hp => ?_⟩
  · obtain ⟨x1, x2⟩ := l1 e he
    exact ⟨by omega, by rw [(a4 _ x1).1]; exact x2⟩
  · obtain ⟨x1, x2⟩ := l2 e he
    exact ⟨by omega, by rw [(a4 _ x1).2.2.1]; exact x2⟩
  · obtain ⟨x1, x2, x3⟩ := l3 e he
    exact ⟨by omega, by rw [(a4 _ x1).1]; exact x2, by rw [(a4 _ x1).2.1]; exact x3⟩
  · obtain ⟨x1, x2, x3⟩ := l4 e he
    exact ⟨by omega, z_BS_E h x1 x2, by rw [(a4 _ (by omega)).2.2.2]; exact x3⟩
  · obtain ⟨x1, x2, x3⟩ := l5 p hp
    exact ⟨by omega, z_PS_E h x1 x2, fun k hk => by rw [(a4 _ (by unfold z_bi; omega)).2.2.2]; exact x3 k hk⟩
theorem z_Lf.r {l j v : Nat} (hL : z_Lf S m kl rl al bl pl) (hl : l < S.1) (h1 : ∀ e ∈ rl, ¬ (e.1 = l ∧ e.2.1 = j)) (h2 : ∀ e ∈ bl, e.1 ≠ l) (h3 : ∀ p ∈ pl, l < p ∨ p + 179 ≤ l) : z_Lf (z_Sr S l j (some v)) m kl (rl ++ [(l, j, v)]) al bl pl := by
  obtain ⟨l1, l2, l3, l4, l5⟩ := hL
  have bsr : ∀ b R, b ≠ l → z_BS S b R → z_BS (z_Sr S l j (some v)) b R := fun b R hb hB => ⟨hB.1, fun i hi => ⟨by rw [z_rm_r, if_neg (fun q => hb q.1)]; exact (hB.2 i hi).1, (hB.2 i hi).2⟩⟩
  refine ⟨l1, fun e he => ?_, l3, fun e he => ?_, fun p hp => ?_⟩
  · rcases List.mem_append.mp he with he | he
    · obtain ⟨x1, x2⟩ := l2 e he
      exact ⟨x1, by rw [z_rm_r, if_neg (h1 e he)]; exact x2⟩
    · obtain rfl : e = (l, j, v) := by simpa using he
      exact ⟨hl, by rw [z_rm_r, if_pos ⟨rfl, rfl⟩]⟩
  · obtain ⟨x1, x2, x3⟩ := l4 e he
    exact ⟨x1, bsr _ _ (h2 e he) x2, x3⟩
  · obtain ⟨x1, x2, x3⟩ := l5 p hp
    have hp3 := h3 p hp
    refine ⟨x1, ⟨x2.1, fun i hi => ?_, fun k hk => ?_⟩, x3⟩
    · obtain ⟨y1, y2⟩ := x2.2.1 i hi
      exact ⟨by rw [z_rm_r, if_neg (fun q => by omega)]; exact y1, y2⟩
    · obtain ⟨y1, y2⟩ := x2.2.2 k hk
      exact ⟨by rw [z_rm_r, if_neg (fun q => by omega)]; exact y1, bsr _ _ (by unfold z_bi; omega) y2⟩
def z_Tc (S : z_S) (m : z_m) (N w : Nat) (kl : List (Nat × Nat)) (rl al : List (Nat × Nat × Nat)) (bl : List (Nat × Nat)) (pl : List Nat) : Prop := (S.1 = N ∧ S.2.2.2.2.2.1 = N ∧ S.2.2.2.2.2.2 = w) ∧ z_G S m ∧ z_Lf S m kl rl al bl pl
theorem z_Tc.E {n v : Nat} (h : z_E S m S' m' n v) (hT : z_Tc S m N w kl rl al bl pl) (hN : N' = N + n) (hw : w' = w + v) : z_Tc S' m' N' w' kl rl al bl pl := by
  obtain ⟨⟨t1, t2, t3⟩, t4, t5⟩ := hT
  exact ⟨⟨by have := h.1; omega, by have := h.2.1; omega, by have := h.2.2.1; omega⟩, h.2.2.2.2 t4, t5.E h⟩
/-- a field set -/
theorem st_pR {c l j v : Nat} (hT : z_Tc S m N w kl rl al bl pl) (hk : (l, c) ∈ kl) (h1 : ∀ e ∈ rl, ¬ (e.1 = l ∧ e.2.1 = j)) (h2 : ∀ e ∈ bl, e.1 ≠ l) (h3 : ∀ p ∈ pl, l < p ∨ p + 179 ≤ l) : ∃ S' m', m_pR c l j v (z_hp S m) = some ((), z_hp S' m') ∧ z_Tc S' m' N w kl (rl ++ [(l, j, v)]) al bl pl := by
  obtain ⟨t1, t4, t5⟩ := hT
  obtain ⟨x1, x2⟩ := t5.1 _ hk
  refine ⟨z_Sr S l j (some v), m, ?_, t1, t4, t5.r x1 h1 h2 h3⟩
  unfold m_pR
  rw [show q_kd (z_hp S m) l = z_kd S l from rfl, if_pos x2]; rfl
/-- a program set in an array of programs -/
theorem st_wR {l j v L : Nat} {x : Int32} (hT : z_Tc S m N w kl rl al bl pl) (hx : x = nI j) (hk : (l, 23, L) ∈ al) (hj : j < L) (hL : L < 1000) (hv : v ∈ pl) (h1 : ∀ e ∈ rl, ¬ (e.1 = l ∧ e.2.1 = j)) (h2 : ∀ e ∈ bl, e.1 ≠ l) (h3 : ∀ p ∈ pl, l < p ∨ p + 179 ≤ l) : ∃ S' m', m_wR l x v (z_hp S m) = some ((), z_hp S' m') ∧ z_Tc S' m' N w kl (rl ++ [(l, j, v)]) al bl pl := by
  obtain ⟨t1, t4, t5⟩ := hT
  obtain ⟨x1, x2, x3⟩ := t5.2.2.1 _ hk
  have hv7 := (t5.2.2.2.2 v hv).2.1.1
  refine ⟨z_Sr S l j (some v), m, ?_, t1, t4, t5.r x1 h1 h2 h3⟩
  have := zB_wR (S := S) (m := m) (r := l) (k := j) (v := v) (f := fun u => m_R u) x2 hv7 (by have : z_ln S l = L := x3; omega) (by have : z_ln S l = L := x3; omega)
  rw [hx]
  unfold m_B m_R at this
  revert this
  cases m_wR l (nI j) v (z_hp S m) with
  | none => intro h; cases h
  | some y => intro h; exact h
/-- a field read -/
theorem st_gR {c l j v : Nat} (hT : z_Tc S m N w kl rl al bl pl) (hk : (l, c) ∈ kl) (hr : (l, j, v) ∈ rl) : m_gR c l j (z_hp S m) = some (v, z_hp S m) := by
  obtain ⟨t1, t4, t5⟩ := hT
  have x2 := (t5.1 _ hk).2
  have x3 := (t5.2.1 _ hr).2
  unfold m_gR
  rw [show q_kd (z_hp S m) l = z_kd S l from rfl, if_pos x2, show q_rm (z_hp S m) l j = z_rm S l j from rfl, x3]; rfl
/-- an object -/
theorem st_nO {c : Nat} (hT : z_Tc S m N w kl rl al bl pl) (hN : N' = N + 1) (hw : w' = w + q_NF c) (h6 : N < 1000000) : ∃ S' m', m_nO c (z_hp S m) = some (N, z_hp S' m') ∧ z_Tc S' m' N' w' (kl ++ [(N, c)]) rl al bl pl := by
  have t1 := hT.1.1
  refine ⟨z_Sn S c (q_NF c), z_u0 m S.1, ?_, ?_⟩
  · unfold m_nO
    rw [if_pos (show q_n (z_hp S m) < q_SC by show S.1 < 1000000; omega), ← t1]; rfl
  · obtain ⟨x1, x2, l1, l2⟩ := hT.E (z_E_n S m c (q_NF c)) hN hw
    refine ⟨x1, x2, fun e he => ?_, l2⟩
    rcases List.mem_append.mp he with he | he
    · exact l1 e he
    · obtain rfl : e = (N, c) := by simpa using he
      exact ⟨by show N < S.1 + 1; omega, by rw [z_kd_n, if_pos t1.symm]⟩
/-- an array -/
theorem st_nA {k L : Nat} {x : Int32} (hT : z_Tc S m N w kl rl al bl pl) (hx : x = nI L) (hL : L ≤ 1000000) (hN : N' = N + 1) (hw : w' = w + L) (h6 : N < 1000000) : ∃ S' m', m_nA k x (z_hp S m) = some (N, z_hp S' m') ∧ z_Tc S' m' N' w' kl rl (al ++ [(N, k, L)]) bl pl := by
  have t1 := hT.1.1
  refine ⟨z_Sn S k L, z_u0 m S.1, ?_, ?_⟩
  · have := zB_nA (S := S) (m := m) (k := k) (x := x) (f := fun u => m_R u) hx hL (by omega)
    unfold m_B m_R at this
    revert this
    rw [t1]
    cases m_nA k x (z_hp S m) with
    | none => intro h; cases h
    | some y => intro h; exact h
  · obtain ⟨x1, x2, l1, l2, l3, l4⟩ := hT.E (z_E_n S m k L) hN hw
    refine ⟨x1, x2, l1, l2, fun e he => ?_, l4⟩
    rcases List.mem_append.mp he with he | he
    · exact l3 e he
    · obtain rfl : e = (N, k, L) := by simpa using he
      exact ⟨by show N < S.1 + 1; omega, by rw [z_kd_n, if_pos t1.symm], by rw [z_ln_n, if_pos t1.symm]⟩
def z_rg (l : Nat) : Nat → List (Nat × Nat × Nat) → List (Nat × Nat × Nat)
  | _, [] => []
  | n, e :: t => (l, e.1, n) :: z_rg l (n + 1) t
def z_ag : Nat → List (Nat × Nat × Nat) → List (Nat × Nat × Nat)
  | _, [] => []
  | n, e :: t => (n, e.2.1, e.2.2) :: z_ag (n + 1) t
theorem z_rg_mem {l : Nat} : ∀ {t : List (Nat × Nat × Nat)} {n : Nat} {e}, e ∈ z_rg l n t → ∃ i x, t[i]? = some x ∧ e = (l, x.1, n + i)
  | [], _, _, h => by cases h
  | y :: t, n, e, h => by
    rcases List.mem_cons.mp h with h | h
    · exact ⟨0, y, rfl, h⟩
    · obtain ⟨i, x, h1, h2⟩ := z_rg_mem h
      exact ⟨i + 1, x, by simpa using h1, by rw [h2, show n + 1 + i = n + (i + 1) by omega]⟩
theorem z_ag_mem : ∀ {t : List (Nat × Nat × Nat)} {n : Nat} {e}, e ∈ z_ag n t → ∃ i x, t[i]? = some x ∧ e = (n + i, x.2.1, x.2.2)
  | [], _, _, h => by cases h
  | y :: t, n, e, h => by
    rcases List.mem_cons.mp h with h | h
    · exact ⟨0, y, rfl, h⟩
    · obtain ⟨i, x, h1, h2⟩ := z_ag_mem h
      exact ⟨i + 1, x, by simpa using h1, by rw [h2, show n + 1 + i = n + (i + 1) by omega]⟩
/-- an object and its arrays -/
theorem st_new {c : Nat} {F : Nat → m_M Unit} (t : List (Nat × Nat × Nat)) (hF : F N = z_fb c N t (m_R ())) (hT : z_Tc S m N w kl rl al bl pl) (hN : N' = N + 1 + t.length) (hw : w' = w + q_NF c + z_fs t) (h6 : N' ≤ 1000000) (ht : ∀ e ∈ t, e.2.2 ≤ 1000000) (hd : (t.map (·.1)).Nodup) : ∃ S1 m1 S' m', m_nO c (z_hp S m) = some (N, z_hp S1 m1) ∧ F N (z_hp S1 m1) = some ((), z_hp S' m') ∧ z_Tc S' m' N' w' (kl ++ [(N, c)]) (rl ++ z_rg N (N + 1) t) (al ++ z_ag (N + 1) t) bl pl := by
  have t1 := hT.1.1
  obtain ⟨S', m', q1, q2, q3, q4, q5⟩ := z_fb_sp (S0 := S) (m0 := m) (c := c) (l0 := N) (K := m_R ()) t (z_Sn S c (q_NF c)) (z_u0 m S.1) 1 (q_NF c) (z_E_n S m c (q_NF c)) (by omega) (by show N < S.1 + 1; omega) (by rw [z_kd_n, if_pos t1.symm]) (by show S.1 + 1 + t.length ≤ 1000000; omega) ht hd
  refine ⟨z_Sn S c (q_NF c), z_u0 m S.1, S', m', ?_, by rw [hF, q1]; rfl, ?_⟩
  · unfold m_nO
    rw [if_pos (show q_n (z_hp S m) < q_SC by show S.1 < 1000000; omega), ← t1]; rfl
  · obtain ⟨x1, x2, l1, l2, l3, l4⟩ := hT.E (N' := N') (w' := w') q2 (by omega) (by omega)
    have s1 := q2.1
    refine ⟨x1, x2, fun e he => ?_, fun e he => ?_, fun e he => ?_, l4⟩
    · rcases List.mem_append.mp he with he | he
      · exact l1 e he
      · obtain rfl : e = (N, c) := by simpa using he
        refine ⟨by show N < S'.1; omega, ?_⟩
        show z_kd S' N = c
        rw [(q3 N (by show N < S.1 + 1; omega)).1, z_kd_n, if_pos t1.symm]
    · rcases List.mem_append.mp he with he | he
      · exact l2 e he
      · obtain ⟨i, x, h1, h2⟩ := z_rg_mem he
        have := (q4 i x h1).2.2
        subst h2
        refine ⟨by show N < S'.1; omega, ?_⟩
        show z_rm S' N x.1 = some (N + 1 + i)
        rw [this]
        show some (S.1 + 1 + i) = _
        rw [t1]
    · rcases List.mem_append.mp he with he | he
      · exact l3 e he
      · obtain ⟨i, x, h1, h2⟩ := z_ag_mem he
        have hi : i < t.length := (List.getElem?_eq_some_iff.mp h1).1
        have q := q4 i x h1
        have e1 : (z_Sn S c (q_NF c)).1 + i = N + 1 + i := by show S.1 + 1 + i = _; omega
        rw [e1] at q
        subst h2
        exact ⟨by show N + 1 + i < S'.1; omega, q.1, q.2.1⟩
/-- a body -/
theorem st_bd {R : Nat} {x : Int32} (hx : x = nI R) (hR : R < 1000000) (hT : z_Tc S m N w kl rl al bl pl) (hN : N' = N + 7) (hw : w' = w + (8 + 6 * (R + 1))) (h6 : N' ≤ 1000000) : ∃ S1 m1 S' m', m_nO 0 (z_hp S m) = some (N, z_hp S1 m1) ∧ f0 N x (z_hp S1 m1) = some ((), z_hp S' m') ∧ z_Tc S' m' N' w' kl rl al (bl ++ [(N, R)]) pl := by
  have t1 := hT.1.1
  obtain ⟨S', m', q1, q2, q3, q4⟩ := z_nB (S := S) (m := m) hx hR (by omega)
  refine ⟨z_Sn S 0 8, z_u0 m S.1, S', m', ?_, by rw [← t1]; exact q1, ?_⟩
  · unfold m_nO
    rw [if_pos (show q_n (z_hp S m) < q_SC by show S.1 < 1000000; omega), ← t1]; rfl
  · obtain ⟨x1, x2, l1, l2, l3, l4, l5⟩ := hT.E (N' := N') (w' := w') q2 hN hw
    refine ⟨x1, x2, l1, l2, l3, fun e he => ?_, l5⟩
    rcases List.mem_append.mp he with he | he
    · exact l4 e he
    · obtain rfl : e = (N, R) := by simpa using he
      have s1 := q2.1
      rw [t1] at q3 q4
      exact ⟨by show N + 7 ≤ S'.1; omega, q3, q4⟩
/-- a program -/
theorem st_pg (hT : z_Tc S m N w kl rl al bl pl) (hN : N' = N + 179) (hw : w' = w + 9315) (h6 : N' ≤ 1000000) : ∃ S1 m1 S' m', m_nO 7 (z_hp S m) = some (N, z_hp S1 m1) ∧ f69 N (z_hp S1 m1) = some ((), z_hp S' m') ∧ z_Tc S' m' N' w' kl rl al bl (pl ++ [N]) := by
  have t1 := hT.1.1
  obtain ⟨S', m', q1, q2, q3, q4⟩ := z_nP (S := S) (m := m) (by omega)
  refine ⟨z_Sn S 7 15, z_u0 m S.1, S', m', ?_, by rw [← t1]; exact q1, ?_⟩
  · unfold m_nO
    rw [if_pos (show q_n (z_hp S m) < q_SC by show S.1 < 1000000; omega), ← t1]; rfl
  · obtain ⟨x1, x2, l1, l2, l3, l4, l5⟩ := hT.E (N' := N') (w' := w') q2 hN hw
    refine ⟨x1, x2, l1, l2, l3, l4, fun p hp => ?_⟩
    rcases List.mem_append.mp hp with hp | hp
    · exact l5 p hp
    · obtain rfl : p = N := by simpa using hp
      have s1 := q2.1
      rw [t1] at q3 q4
      exact ⟨by omega, q3, q4⟩
end
