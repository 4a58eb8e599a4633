-- deps: 90.11.settle
/-! a change is done, or undone: the class -/
/-- the state without the oldest program, if there are ten -/
def z_pop (A : z_A) : z_A := if A.2.2.2.1.length = 10 then (A.1, A.2.1, A.2.2.1, A.2.2.2.1.drop 1, A.2.2.2.2) else A
def z_push (A : z_A) (Q : z_Pg) : z_A := (A.1, Q, A.2.2.1, (z_pop A).2.2.2.1 ++ [A.2.1], A.2.2.2.2)
/-- what a change comes to -/
def z_rf (A : z_A) (r : Int32) (Q : z_Pg) : (Int32 ⊕ Nat) × z_A := if r < 0 then (.inl r, A) else (.inl r, z_push A Q)
def z_oundo (A : z_A) : (Int32 ⊕ Nat) × z_A := if A.2.2.2.1.length = 0 then (.inr 0, A) else (.inl (nI (A.2.2.2.1.length - 1)), (A.1, z_pat A.2.2.2.1 (A.2.2.2.1.length - 1), A.2.2.1, A.2.2.2.1.take (A.2.2.2.1.length - 1), A.2.2.2.2))
section
variable {β : Type} {S : z_S} {m : z_m} {A : z_A}
theorem z_pat_drop {l : List z_Pg} {i : Nat} : z_pat (l.drop 1) i = z_pat l (i + 1) := by
  unfold z_pat
  simp [List.getD_eq_getElem?_getD, Nat.add_comm]
theorem z_pat_app {l : List z_Pg} {x : z_Pg} {i : Nat} : z_pat (l ++ [x]) i = if i < l.length then z_pat l i else if i = l.length then x else z_P0 := by
  unfold z_pat
  simp only [List.getD_eq_getElem?_getD]
  by_cases g : i < l.length
  · rw [if_pos g, List.getElem?_append_left g]
  · rw [if_neg g, List.getElem?_append_right (by omega)]
    by_cases g2 : i = l.length
    · rw [if_pos g2, g2, Nat.sub_self]; rfl
    · rw [if_neg g2]
      have : ([x] : List z_Pg)[i - l.length]? = none := List.getElem?_eq_none (by simp; omega)
      rw [this]; rfl
theorem z_pat_take {l : List z_Pg} {n i : Nat} (h : i < n) : z_pat (l.take n) i = z_pat l i := by
  unfold z_pat
  simp only [List.getD_eq_getElem?_getD]
  rw [List.getElem?_take_of_lt h]
theorem z_pop_len (hw : z_WA A) : (z_pop A).2.2.2.1.length < 10 ∧ (A.2.2.2.1.length < 10 → z_pop A = A) := by
  have := hw.2.2.2.1
  unfold z_pop
  by_cases g : A.2.2.2.1.length = 10
  · rw [if_pos g]
    refine ⟨?_, fun h => by omega⟩
    show (A.2.2.2.1.drop 1).length < 10
    rw [List.length_drop]; omega
  · rw [if_neg g]
    exact ⟨by omega, fun _ => rfl⟩
theorem z_pop_WA (hw : z_WA A) : z_WA (z_pop A) := by
  unfold z_pop
  by_cases g : A.2.2.2.1.length = 10
  · rw [if_pos g]
    refine ⟨hw.1, hw.2.1, hw.2.2.1, ?_, fun i hi => ?_⟩
    · show (A.2.2.2.1.drop 1).length ≤ 10
      rw [List.length_drop]; omega
    · have hi : i < (A.2.2.2.1.drop 1).length := hi
      rw [List.length_drop] at hi
      show z_wf (z_pat (A.2.2.2.1.drop 1) i) ∧ z_b60 (z_pat (A.2.2.2.1.drop 1) i) ∧ z_nc (z_pat (A.2.2.2.1.drop 1) i) = z_nc A.2.1
      rw [z_pat_drop]
      exact hw.2.2.2.2 (i + 1) (by omega)
  · rw [if_neg g]; exact hw
theorem z_pop_1 : (z_pop A).1 = A.1 ∧ (z_pop A).2.1 = A.2.1 ∧ (z_pop A).2.2.1 = A.2.2.1 ∧ (z_pop A).2.2.2.2 = A.2.2.2.2 := by
  unfold z_pop
  split <;> exact ⟨rfl, rfl, rfl, rfl⟩
theorem z_push_WA (hw : z_WA A) {Q : z_Pg} (hQ : z_wf Q) (h60 : z_b60 Q) (hnc : z_nc Q = z_nc A.2.1) : z_WA (z_push A Q) := by
  obtain ⟨p1, p2, p3, p4, p5⟩ := z_pop_WA hw
  obtain ⟨q1, q2⟩ := z_pop_len hw
  obtain ⟨r1, r2, r3, r4⟩ := z_pop_1 (A := A)
  refine ⟨by show z_tW (z_nc Q) A.1; rw [hnc]; exact hw.1, ⟨hQ, h60⟩, hw.2.2.1, ?_, fun i hi => ?_⟩
  · show ((z_pop A).2.2.2.1 ++ [A.2.1]).length ≤ 10
    rw [List.length_append]; exact q1
  · have hi : i < ((z_pop A).2.2.2.1 ++ [A.2.1]).length := hi
    rw [List.length_append] at hi
    have hi : i < (z_pop A).2.2.2.1.length + 1 := hi
    show z_wf (z_pat ((z_pop A).2.2.2.1 ++ [A.2.1]) i) ∧ z_b60 (z_pat ((z_pop A).2.2.2.1 ++ [A.2.1]) i) ∧ z_nc (z_pat ((z_pop A).2.2.2.1 ++ [A.2.1]) i) = z_nc Q
    rw [z_pat_app, hnc]
    by_cases g : i < (z_pop A).2.2.2.1.length
    · rw [if_pos g]
      have := p5 i g
      rw [r2] at this; exact this
    · rw [if_neg g, if_pos (by omega)]
      exact ⟨hw.2.1.1, hw.2.1.2, rfl⟩
/-- SmithyBench.settle, where there is room -/
theorem f173_19_sp (hw : z_WA A) {sn sx : Nat} {sp : Nat → Nat} (hI : z_ID S sn sx sp) (h : z_CM m sn sp A) (h10 : A.2.2.2.1.length < 10) {Q : z_Pg} (hk : z_PK m (z_pid sx) Q) (r : Int32) : ∃ S', f173_19 0 r (z_hp S m) = some (r, z_hp S' (z_up m 0 13 (nI (A.2.2.2.1.length + 1)))) ∧ z_S01 S S' ∧ z_CR S' (z_up m 0 13 (nI (A.2.2.2.1.length + 1))) (A.1, Q, A.2.2.1, A.2.2.2.1 ++ [A.2.1], A.2.2.2.2) := by
  have hX := hI.1
  have hI0 := hI
  obtain ⟨_, _, hPS, ⟨i1, i2, i3⟩, ⟨j1, j2, j3⟩, n10, n11, n241⟩ := hI0
  have k241 : z_kd S 241 = 23 := hX.2.2.2.2.1
  have l241 : z_ln S 241 = 10 := hX.2.2.2.2.2
  have g9 : z_rm S 0 9 = some 241 := hX.2.1 (0, 9, 241) (by decide)
  have hu : m 0 13 = nI A.2.2.2.1.length := h.2.2.1.2.2.1
  have gs := n241 _ h10
  have kn : z_kd S (z_pid sn) = 7 := (hPS sn i1).k
  have k0 := hX.k0
  have e : f173_19 0 r (z_hp S m) = some (r, z_hp (z_Sr (z_Sr (z_Sr S 241 A.2.2.2.1.length (some (z_pid sn))) 0 10 (some (z_pid sx))) 0 11 (some (z_pid (sp A.2.2.2.1.length)))) (z_up m 0 13 (nI (A.2.2.2.1.length + 1)))) := by
    have k0' : z_kd (z_Sr S 241 A.2.2.2.1.length (some (z_pid sn))) 0 = 11 := k0
    have k0'' : z_kd (z_Sr (z_Sr S 241 A.2.2.2.1.length (some (z_pid sn))) 0 10 (some (z_pid sx))) 0 = 11 := k0
    unfold f173_19
    rw [zB_gR k0, g9, Option.bind_some, zB_gI k0, hu, zB_lR (Or.inl k241) (by rw [l241]; exact h10) (by rw [l241]; decide), gs, Option.bind_some, zB_gR k0, g9, Option.bind_some, zB_gI k0, hu, zB_gR k0, n10, Option.bind_some, zB_wR k241 kn (by rw [l241]; exact h10) (by rw [l241]; decide), zB_gI k0', hu, zB_pI k0', zB_gR k0', z_rm_r, if_neg (by omega), n11, Option.bind_some, zB_pR k0', zB_pR k0'']
    rw [show nI A.2.2.2.1.length + 1 = nI (A.2.2.2.1.length + 1) from nI_add _ 1]
    rfl
  refine ⟨_, e, (((z_S01.refl S).r (Or.inr rfl)).r (Or.inl ⟨rfl, Or.inl rfl⟩)).r (Or.inl ⟨rfl, Or.inr rfl⟩), ?_⟩
  have h01 := (((z_S01.refl S).r (k := 241) (j := A.2.2.2.1.length) (v := some (z_pid sn)) (Or.inr rfl)).r (k := 0) (j := 10) (v := some (z_pid sx)) (Or.inl ⟨rfl, Or.inl rfl⟩)).r (k := 0) (j := 11) (v := some (z_pid (sp A.2.2.2.1.length))) (Or.inl ⟨rfl, Or.inr rfl⟩)
  refine ⟨sx, sp A.2.2.2.1.length, fun i => if i = A.2.2.2.1.length then sn else sp i, h01.ID hI ⟨i2, i3 _ h10, fun i hi => ?_⟩ ⟨fun q => (j2 _ h10).2 q.symm, fun i hi => ?_, fun i j hi hj hij => ?_⟩ ?_ ?_ (fun i hi => ?_), ?_⟩
  · split
    · exact i1
    · exact i3 i hi
  · split
    · exact ⟨j1, fun q => (j2 _ h10).1 q.symm⟩
    · rename_i g
      exact ⟨(j2 i hi).2, j3 i _ hi h10 g⟩
  · split
    · rename_i g
      split
      · omega
      · exact fun q => (j2 j hj).1 q.symm
    · split
      · exact (j2 i hi).1
      · exact j3 i j hi hj hij
  · rw [z_rm_r, if_neg (by omega), z_rm_r, if_pos ⟨rfl, rfl⟩]
  · rw [z_rm_r, if_pos ⟨rfl, rfl⟩]
  · rw [z_rm_r, if_neg (by omega), z_rm_r, if_neg (by omega), z_rm_r]
    by_cases g : i = A.2.2.2.1.length
    · rw [if_pos ⟨rfl, g⟩, if_pos g]
    · rw [if_neg (by omega), if_neg g]; exact n241 i hi
  · have fr : ∀ a, a ≠ 0 → z_up m 0 13 (nI (A.2.2.2.1.length + 1)) a = m a := fun a ha => z_up_row ha
    obtain ⟨hR, hT, ⟨h1, h2, h3, h4⟩, h5, h6⟩ := h
    have pkf : ∀ s P, z_nm P ≤ 24 → z_PK m (z_pid s) P → z_PK (z_up m 0 13 (nI (A.2.2.2.1.length + 1))) (z_pid s) P := fun s P h24 hp => z_PK_fr h24 (fun a x1 _ => fr a (by have := z_pid_lo s; omega)) hp
    refine ⟨z_RM_fr (fun a ha => fr a (by omega)) hR, z_cT_fr (fun a ha => fr a (by omega)) hT, ⟨?_, ?_, ?_, fun i hi => ?_⟩, by rw [fr 10 (by decide)]; exact h5, by rw [fr 10 (by decide)]; exact h6⟩
    · have hk' : z_nm Q ≤ 24 ∨ ¬ z_nm Q ≤ 24 := by omega
      refine ⟨?_, ?_⟩
      · have fr2 : ∀ a, z_pid sx ≤ a → z_up m 0 13 (nI (A.2.2.2.1.length + 1)) a = m a := fun a x1 => fr a (by have := z_pid_lo sx; omega)
        obtain ⟨⟨c, d, e1, e2⟩, _⟩ := hk
        refine ⟨?_, ?_, ?_, fun k hk2 hl => ?_⟩
        · unfold z_cc at *
          rw [fr2 _ (Nat.le_refl _), fr2 _ (by omega), fr2 _ (by omega), fr2 _ (by omega)]; exact c
        · unfold z_cm z_ch at *
          rw [fr2 _ (Nat.le_refl _), fr2 _ (by omega), fr2 _ (by omega), fr2 _ (by omega), fr2 _ (by omega), fr2 _ (by omega), fr2 _ (by omega)]; exact d
        · intro k hk2
          rw [fr2 _ (by unfold z_bi; omega)]; exact e1 k hk2
        · exact z_cb_fr (fun a x1 x2 => fr2 a (by unfold z_bi at x1; omega)) (e2 k hk2 hl)
      · have fr2 : ∀ a, z_pid sx ≤ a → z_up m 0 13 (nI (A.2.2.2.1.length + 1)) a = m a := fun a x1 => fr a (by have := z_pid_lo sx; omega)
        obtain ⟨x1, x2⟩ := hk.2
        unfold z_KN
        rw [fr2 _ (Nat.le_refl _)]
        exact ⟨x1, fun g => ⟨(x2 g).1, fun g2 k hk3 hl => z_TY_fr (fun a y1 y2 => fr2 a (by unfold z_bi at y1; omega)) ((x2 g).2 g2 k hk3 hl)⟩⟩
    · show (match A.2.2.1 with | none => z_up m 0 13 (nI (A.2.2.2.1.length + 1)) 0 12 = 0 | some Bg => z_up m 0 13 (nI (A.2.2.2.1.length + 1)) 0 12 = 1 ∧ z_PK (z_up m 0 13 (nI (A.2.2.2.1.length + 1))) 62 Bg)
      rw [z_up_b (by decide)]
      cases hb : A.2.2.1 with
      | none => rw [hb] at h2; exact h2
      | some Bg =>
        rw [hb] at h2
        exact ⟨h2.1, z_PK_fr (z_wf_nm (hw.2.2.1 Bg hb).1) (fun a x1 _ => fr a (by omega)) h2.2⟩
    · show _ = nI (A.2.2.2.1 ++ [A.2.1]).length
      rw [z_up_s, List.length_append]; rfl
    · have hi : i < (A.2.2.2.1 ++ [A.2.1]).length := hi
      rw [List.length_append] at hi
      have hi : i < A.2.2.2.1.length + 1 := hi
      show z_PK _ (z_pid (if i = A.2.2.2.1.length then sn else sp i)) (z_pat (A.2.2.2.1 ++ [A.2.1]) i)
      rw [z_pat_app]
      by_cases g : i = A.2.2.2.1.length
      · rw [if_pos g, if_neg (by omega), if_pos g]
        exact pkf sn _ (z_wf_nm hw.2.1.1) h1
      · rw [if_neg g, if_pos (by omega)]
        exact pkf _ _ (z_wf_nm (hw.2.2.2.2 i (by omega)).1) (h4 i (by omega))
/-- SmithyBench.settle -/
theorem f173_sp (hw : z_WA A) {sn sx : Nat} {sp : Nat → Nat} (hI : z_ID S sn sx sp) (h : z_CM m sn sp A) {r : Int32} {Q : z_Pg} (hk : ¬ r < 0 → z_PK m (z_pid sx) Q) : ∃ S' m', f173 0 r (z_hp S m) = some (r, z_hp S' m') ∧ z_CR S' m' (z_rf A r Q).2 ∧ z_SS S S' ∧ ∀ a, 2390 ≤ a → m' a = m a := by
  unfold z_rf
  by_cases g : r < 0
  · rw [if_pos g]
    refine ⟨S, m, ?_, ⟨sn, sx, sp, hI, h⟩, z_SS.refl S, fun _ _ => rfl⟩
    unfold f173
    rw [if_pos g]; rfl
  · rw [if_neg g]
    have hX := hI.1
    have hu : m 0 13 = nI A.2.2.2.1.length := h.2.2.1.2.2.1
    have hle := hw.2.2.2.1
    by_cases g2 : A.2.2.2.1.length = 10
    · obtain ⟨S1, e1, h01, hI1⟩ := f174_sp (m := m) hI
      have hp1 : z_pop A = (A.1, A.2.1, A.2.2.1, A.2.2.2.1.drop 1, A.2.2.2.2) := if_pos g2
      have hwp := z_pop_WA hw
      have h1 : z_CM (z_up m 0 13 9) sn (z_rot sp) (z_pop A) := by
        rw [hp1]
        have fr : ∀ a, a ≠ 0 → z_up m 0 13 9 a = m a := fun a ha => z_up_row ha
        obtain ⟨hR, hT, ⟨h1, h2, h3, h4⟩, h5, h6⟩ := h
        refine ⟨z_RM_fr (fun a ha => fr a (by omega)) hR, z_cT_fr (fun a ha => fr a (by omega)) hT, ⟨z_PK_fr (z_wf_nm hw.2.1.1) (fun a x1 _ => fr a (by have := z_pid_lo sn; omega)) h1, ?_, ?_, fun i hi => ?_⟩, by rw [fr 10 (by decide)]; exact h5, by rw [fr 10 (by decide)]; exact h6⟩
        · show (match A.2.2.1 with | none => z_up m 0 13 9 0 12 = 0 | some Bg => z_up m 0 13 9 0 12 = 1 ∧ z_PK (z_up m 0 13 9) 62 Bg)
          rw [z_up_b (by decide)]
          cases hb : A.2.2.1 with
          | none => rw [hb] at h2; exact h2
          | some Bg =>
            rw [hb] at h2
            exact ⟨h2.1, z_PK_fr (z_wf_nm (hw.2.2.1 Bg hb).1) (fun a x1 _ => fr a (by omega)) h2.2⟩
        · show z_up m 0 13 9 0 13 = nI (A.2.2.2.1.drop 1).length
          rw [z_up_s, List.length_drop, g2]; rfl
        · have hi : i < (A.2.2.2.1.drop 1).length := hi
          rw [List.length_drop] at hi
          show z_PK _ (z_pid (z_rot sp i)) (z_pat (A.2.2.2.1.drop 1) i)
          rw [z_pat_drop]
          have : z_rot sp i = sp (i + 1) := if_pos (by omega)
          rw [this]
          exact z_PK_fr (z_wf_nm (hw.2.2.2.2 (i + 1) (by omega)).1) (fun a x1 _ => fr a (by have := z_pid_lo (sp (i + 1)); omega)) (h4 (i + 1) (by omega))
      have hk1 : z_PK (z_up m 0 13 9) (z_pid sx) Q := by
        obtain ⟨a, b⟩ := hk g
        have fr2 : ∀ a, z_pid sx ≤ a → z_up m 0 13 9 a = m a := fun a x1 => z_up_row (by have := z_pid_lo sx; omega)
        obtain ⟨c, d, e1, e2⟩ := a
        refine ⟨⟨?_, ?_, ?_, fun k hk2 hl => ?_⟩, ?_⟩
        · unfold z_cc at *
          rw [fr2 _ (Nat.le_refl _), fr2 _ (by omega), fr2 _ (by omega), fr2 _ (by omega)]; exact c
        · unfold z_cm z_ch at *
          rw [fr2 _ (Nat.le_refl _), fr2 _ (by omega), fr2 _ (by omega), fr2 _ (by omega), fr2 _ (by omega), fr2 _ (by omega), fr2 _ (by omega)]; exact d
        · intro k hk2
          rw [fr2 _ (by unfold z_bi; omega)]; exact e1 k hk2
        · exact z_cb_fr (fun a x1 x2 => fr2 a (by unfold z_bi at x1; omega)) (e2 k hk2 hl)
        · obtain ⟨x1, x2⟩ := b
          unfold z_KN
          rw [fr2 _ (Nat.le_refl _)]
          exact ⟨x1, fun g => ⟨(x2 g).1, fun g2 k hk3 hl => z_TY_fr (fun a y1 y2 => fr2 a (by unfold z_bi at y1; omega)) ((x2 g).2 g2 k hk3 hl)⟩⟩
      obtain ⟨S2, e2, h02, hC⟩ := f173_19_sp hwp hI1 h1 (z_pop_len hw).1 hk1 r
      obtain ⟨r1, r2, r3, r4⟩ := z_pop_1 (A := A)
      refine ⟨S2, z_up (z_up m 0 13 9) 0 13 (nI ((z_pop A).2.2.2.1.length + 1)), ?_, ?_, ?_, fun a ha => ?_⟩
      · unfold f173
        rw [if_neg g, zB_gI hX.k0, hu, g2, if_pos (show nI 10 = (10 : Int32) from rfl), zB_aK hX.k0, zB_C e1]
        exact e2
      · rw [r1, r3, r4, r2] at hC; exact hC
      · have t : z_S01 S S2 := ⟨h02.1.trans h01.1, h02.2.1.trans h01.2.1, h02.2.2.1.trans h01.2.2.1, fun r j => by
          rcases h02.2.2.2.1 r j with q | q | q
          · exact Or.inl q
          · exact Or.inr (Or.inl q)
          · rcases h01.2.2.2.1 r j with q2 | q2 | q2
            · exact Or.inl q2
            · exact Or.inr (Or.inl q2)
            · exact Or.inr (Or.inr (q.trans q2)), h02.2.2.2.2.trans h01.2.2.2.2⟩
        exact t.SS
      · rw [z_up_row (by omega), z_up_row (by omega)]
    · have hlt : A.2.2.2.1.length < 10 := by omega
      obtain ⟨S2, e2, h02, hC⟩ := f173_19_sp hw hI h hlt (hk g) r
      refine ⟨S2, z_up m 0 13 (nI (A.2.2.2.1.length + 1)), ?_, ?_, h02.SS, fun a ha => z_up_row (by omega)⟩
      · unfold f173
        have gn : ¬ nI A.2.2.2.1.length = 10 := fun q => g2 ((nI_eq (a := A.2.2.2.1.length) (b := 10) (by omega) (by decide)).mp q)
        rw [if_neg g, zB_gI hX.k0, hu, if_neg gn]
        exact e2
      · have : z_push A Q = (A.1, Q, A.2.2.1, A.2.2.2.1 ++ [A.2.1], A.2.2.2.2) := by
          unfold z_push; rw [(z_pop_len hw).2 hlt]
        rw [this]; exact hC
/-- undo, by the class -/
theorem c_undo (hw : z_WA A) (h : z_CR S m A) : ∃ S1 m1, f151 0 (z_hp S m) = some ((z_oundo A).1, z_hp S1 m1) ∧ z_CR S1 m1 (z_oundo A).2 ∧ z_SS S S1 ∧ ∀ a, 2390 ≤ a → m1 a = m a := by
  have h0 := h
  obtain ⟨sn, sx, sp, hI, hCM⟩ := h0
  have hX := hI.1
  have hI0 := hI
  obtain ⟨_, _, hPS, ⟨i1, i2, i3⟩, ⟨j1, j2, j3⟩, n10, n11, n241⟩ := hI0
  have k241 : z_kd S 241 = 23 := hX.2.2.2.2.1
  have l241 : z_ln S 241 = 10 := hX.2.2.2.2.2
  have g9 : z_rm S 0 9 = some 241 := hX.2.1 (0, 9, 241) (by decide)
  have hu : m 0 13 = nI A.2.2.2.1.length := hCM.2.2.1.2.2.1
  have hle := hw.2.2.2.1
  have k0 := hX.k0
  unfold z_oundo
  by_cases g : A.2.2.2.1.length = 0
  · rw [if_pos g]
    refine ⟨z_Sx S, m, ?_, z_CR_x h, z_SS.x S, fun _ _ => rfl⟩
    unfold f151
    rw [zB_gI k0, hu, g, if_neg (by decide)]
    exact z_thw
  · rw [if_neg g]
    generalize hv : A.2.2.2.1.length - 1 = v
    have hv10 : v < 10 := by omega
    have gs := n241 _ hv10
    have kn : z_kd S (z_pid sn) = 7 := (hPS sn i1).k
    have e : f151 0 (z_hp S m) = some (.inl (nI v), z_hp (z_Sr (z_Sr S 0 10 (some (z_pid (sp v)))) 241 v (some (z_pid sn))) (z_up m 0 13 (nI v))) := by
      have k0' : z_kd (z_Sr S 0 10 (some (z_pid (sp v)))) 0 = 11 := k0
      have k0'' : z_kd (z_Sr (z_Sr S 0 10 (some (z_pid (sp v)))) 241 v (some (z_pid sn))) 0 = 11 := k0
      have k241' : z_kd (z_Sr S 0 10 (some (z_pid (sp v)))) 241 = 23 := k241
      have kn' : z_kd (z_Sr S 0 10 (some (z_pid (sp v)))) (z_pid sn) = 7 := kn
      have l241' : z_ln (z_Sr S 0 10 (some (z_pid (sp v)))) 241 = 10 := l241
      have lt : 0 < nI A.2.2.2.1.length := (nI_ltI (a := 0) (b := A.2.2.2.1.length) (by decide) (by omega)).mpr (by omega)
      unfold f151
      rw [zB_gI k0, hu, if_pos lt, zB_gI k0, hu, show nI A.2.2.2.1.length - 1 = nI v by rw [← hv]; exact pk_sub (b := 1) (by omega), zB_pI k0, zB_gR k0, n10, Option.bind_some, zB_gR k0, g9, Option.bind_some, zB_gI k0, z_up_s, zB_lR (Or.inl k241) (by rw [l241]; exact hv10) (by rw [l241]; decide), gs, Option.bind_some, zB_pR k0, zB_gR k0', z_rm_r, if_neg (by omega), g9, Option.bind_some, zB_gI k0', z_up_s, zB_wR k241' kn' (by rw [l241']; exact hv10) (by rw [l241']; decide), zB_gI k0'', z_up_s]
      rfl
    have h01 := ((z_S01.refl S).r (k := 0) (j := 10) (v := some (z_pid (sp v))) (Or.inl ⟨rfl, Or.inl rfl⟩)).r (k := 241) (j := v) (v := some (z_pid sn)) (Or.inr rfl)
    refine ⟨_, _, e, ⟨sp v, sx, fun i => if i = v then sn else sp i, h01.ID hI ⟨i3 v hv10, i2, fun i hi => ?_⟩ ⟨fun q => (j2 _ hv10).2 q, fun i hi => ?_, fun i j hi hj hij => ?_⟩ ?_ ?_ (fun i hi => ?_), ?_⟩, h01.SS, fun a ha => z_up_row (by omega)⟩
    · split
      · exact i1
      · exact i3 i hi
    · split
      · exact ⟨fun q => (j2 _ hv10).1 q.symm, j1⟩
      · rename_i gi
        exact ⟨j3 i _ hi hv10 gi, (j2 i hi).2⟩
    · split
      · split
        · omega
        · exact fun q => (j2 j hj).1 q.symm
      · split
        · exact (j2 i hi).1
        · exact j3 i j hi hj hij
    · rw [z_rm_r, if_neg (by omega), z_rm_r, if_pos ⟨rfl, rfl⟩]
    · rw [z_rm_r, if_neg (by omega), z_rm_r, if_neg (by omega)]; exact n11
    · rw [z_rm_r]
      by_cases gi : i = v
      · rw [if_pos ⟨rfl, gi⟩, if_pos gi]
      · rw [if_neg (by omega), if_neg gi, z_rm_r, if_neg (by omega)]; exact n241 i hi
    · have fr : ∀ a, a ≠ 0 → z_up m 0 13 (nI v) a = m a := fun a ha => z_up_row ha
      obtain ⟨hR, hT, ⟨h1, h2, h3, h4⟩, h5, h6⟩ := hCM
      have pkf : ∀ s P, z_nm P ≤ 24 → z_PK m (z_pid s) P → z_PK (z_up m 0 13 (nI v)) (z_pid s) P := fun s P h24 hp => z_PK_fr h24 (fun a x1 _ => fr a (by have := z_pid_lo s; omega)) hp
      refine ⟨z_RM_fr (fun a ha => fr a (by omega)) hR, z_cT_fr (fun a ha => fr a (by omega)) hT, ⟨?_, ?_, ?_, fun i hi => ?_⟩, by rw [fr 10 (by decide)]; exact h5, by rw [fr 10 (by decide)]; exact h6⟩
      · exact pkf _ _ (z_wf_nm (hw.2.2.2.2 v (by omega)).1) (h4 v (by omega))
      · show (match A.2.2.1 with | none => z_up m 0 13 (nI v) 0 12 = 0 | some Bg => z_up m 0 13 (nI v) 0 12 = 1 ∧ z_PK (z_up m 0 13 (nI v)) 62 Bg)
        rw [z_up_b (by decide)]
        cases hb : A.2.2.1 with
        | none => rw [hb] at h2; exact h2
        | some Bg =>
          rw [hb] at h2
          exact ⟨h2.1, z_PK_fr (z_wf_nm (hw.2.2.1 Bg hb).1) (fun a x1 _ => fr a (by omega)) h2.2⟩
      · show _ = nI (A.2.2.2.1.take v).length
        rw [z_up_s, List.length_take, Nat.min_eq_left (by omega)]
      · have hi : i < (A.2.2.2.1.take v).length := hi
        rw [List.length_take, Nat.min_eq_left (by omega)] at hi
        show z_PK _ (z_pid (if i = v then sn else sp i)) (z_pat (A.2.2.2.1.take v) i)
        rw [if_neg (by omega), z_pat_take hi]
        exact pkf _ _ (z_wf_nm (hw.2.2.2.2 i (by omega)).1) (h4 i (by omega))
end
