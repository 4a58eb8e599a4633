/-! SmithyBench$Program.nameOfLocal(II)I -/
theorem qk99 : q_cs.getD 99 [] = qc_99 := rfl
def f99_47 (s0 : Int32) : m_M Int32 :=
  m_R s0
theorem f99_47_ok {s0 : Int32} {h : q_H} {o : q_O} {hz : q_H} {x : Int32 × q_H} (hf : f99_47 s0 h = some x) (hK : (q_KI o hz) x) : q_Ev none 99 47 [] [.int s0] h o hz := by
  unfold f99_47 at hf
  obtain rfl := m_R_inv hf
  obtain ⟨rfl, rfl⟩ := (show q_KI o hz (s0, _) from hK)
  exact ev_ret (q_cod qk99 rfl) rfl
def f99 (l0 : Nat) (l1 : Int32) (l2 : Int32) : m_M Int32 :=
  if l2 < 0 then (m_B (m_gR 7 l0 6) (fun r1 => m_B (m_lI r1 (((l1 * 2) - 1) - l2)) (fun v2 => m_R v2))) else (m_B (m_gR 7 l0 9) (fun r3 => m_B (m_lR r3 l1) (fun r4 => m_B (m_gR 0 r4 0) (fun r5 => m_B (m_lI r5 l2) (fun v6 => if v6 = 5 then (m_B (m_gR 7 l0 9) (fun r7 => m_B (m_lR r7 l1) (fun r8 => m_B (m_gR 0 r8 1) (fun r9 => m_B (m_lI r9 l2) (fun v10 => f99_47 v10))))) else (f99_47 (-1)))))))
theorem f99_ok {l0 : Nat} {l1 : Int32} {l2 : Int32} {h : q_H} {o : q_O} {hz : q_H} {x : Int32 × q_H} (hf : f99 l0 l1 l2 h = some x) (hK : (q_KI o hz) x) : q_Ev none 99 0 [(0, .ref l0), (1, .int l1), (2, .int l2)] [] h o hz := by
  unfold f99 at hf
  refine ev_iload_n (q_cod qk99 rfl) (by decide) rfl ?_
  refine em_if_ge (q_cod qk99 rfl) (by decide) hf (fun c12 hf => ?_) (fun c12 hf => ?_)
  · refine ev_aload_n (q_cod qk99 rfl) (by decide) rfl ?_
    refine em_gR (q_cod qk99 rfl) (by decide) (by decide) hf (fun r1 hf => ?_)
    refine ev_iload_n (q_cod qk99 rfl) (by decide) rfl ?_
    refine ev_ic (v := 2) (q_cod qk99 rfl) (by decide) (by decide) ?_
    refine ev_imul (q_cod qk99 rfl) (by decide) ?_
    refine ev_ic (v := 1) (q_cod qk99 rfl) (by decide) (by decide) ?_
    refine ev_isub (q_cod qk99 rfl) (by decide) ?_
    refine ev_iload_n (q_cod qk99 rfl) (by decide) rfl ?_
    refine ev_isub (q_cod qk99 rfl) (by decide) ?_
    refine em_lI (q_cod qk99 rfl) (by decide) hf (fun v2 hf => ?_)
    obtain rfl := m_R_inv hf
    obtain ⟨rfl, rfl⟩ := (show q_KI o hz (v2, _) from hK)
    exact ev_ret (q_cod qk99 rfl) rfl
  · refine ev_aload_n (q_cod qk99 rfl) (by decide) rfl ?_
    refine em_gR (q_cod qk99 rfl) (by decide) (by decide) hf (fun r3 hf => ?_)
    refine ev_iload_n (q_cod qk99 rfl) (by decide) rfl ?_
    refine em_lR (q_cod qk99 rfl) (by decide) hf (fun r4 hf => ?_)
    refine em_gR (q_cod qk99 rfl) (by decide) (by decide) hf (fun r5 hf => ?_)
    refine ev_iload_n (q_cod qk99 rfl) (by decide) rfl ?_
    refine em_lI (q_cod qk99 rfl) (by decide) hf (fun v6 hf => ?_)
    refine ev_ic (v := 5) (q_cod qk99 rfl) (by decide) (by decide) ?_
    refine em_ic_ne (q_cod qk99 rfl) (by decide) hf (fun c11 hf => ?_) (fun c11 hf => ?_)
    · refine ev_aload_n (q_cod qk99 rfl) (by decide) rfl ?_
      refine em_gR (q_cod qk99 rfl) (by decide) (by decide) hf (fun r7 hf => ?_)
      refine ev_iload_n (q_cod qk99 rfl) (by decide) rfl ?_
      refine em_lR (q_cod qk99 rfl) (by decide) hf (fun r8 hf => ?_)
      refine em_gR (q_cod qk99 rfl) (by decide) (by decide) hf (fun r9 hf => ?_)
      refine ev_iload_n (q_cod qk99 rfl) (by decide) rfl ?_
      refine em_lI (q_cod qk99 rfl) (by decide) hf (fun v10 hf => ?_)
      refine ev_goto (q_cod qk99 rfl) (by decide) ?_
      exact ev_weak (q_pk [] rfl) (f99_47_ok hf hK)
    · refine ev_ic (v := (-1)) (q_cod qk99 rfl) (by decide) (by decide) ?_
      exact ev_weak (q_pk [] rfl) (f99_47_ok hf hK)
theorem f99_cl {l0 : Nat} {l1 : Int32} {l2 : Int32} {h : q_H} {x : Int32 × q_H} (hf : f99 l0 l1 l2 h = some x) : q_Cl 99 [.ref l0, .int l1, .int l2] h (.inl (some (.int x.1))) x.2 := q_Cl.of rfl (q_LvS rfl rfl) (f99_ok hf ⟨rfl, rfl⟩)
/-! SmithyBench$Renamer.<init>()V -/
theorem qk105 : q_cs.getD 105 [] = qc_105 := rfl
def f105 (l0 : Nat) : m_M Unit :=
  m_B (m_nO 0) (fun r1 => m_B (f0 r1 256) (fun _ => m_B (m_pR 8 l0 0 r1) (fun _ => m_R ())))
theorem f105_ok {l0 : Nat} {h : q_H} {o : q_O} {hz : q_H} {x : Unit × q_H} (hf : f105 l0 h = some x) (hK : (m_KU o hz) x) : q_Ev none 105 0 [(0, .ref l0)] [] h o hz := by
  unfold f105 at hf
  refine ev_aload_n (q_cod qk105 rfl) (by decide) rfl ?_
  refine ev_objinit (q_cod qk105 rfl) (Nat.le_of_ble_eq_true rfl) ?_
  refine ev_aload_n (q_cod qk105 rfl) (by decide) rfl ?_
  refine em_nO (q_cod qk105 rfl) (by decide) hf (fun r1 h hf => ?_)
  refine ev_dup (q_cod qk105 rfl) (by decide) rfl ?_
  refine ev_si (v := 256) (q_cod qk105 rfl) (by decide) (by decide) ?_
  refine em_call (v := (fun _ => none)) (q_cod qk105 rfl) rfl rfl (q_cokV rfl rfl (Or.inl rfl)) rfl (fun x e => f0_cl e) hf (fun _ h hf => ?_)
  refine em_pR (q_cod qk105 rfl) (by decide) (by decide) (by decide) hf (fun hf => ?_)
  obtain rfl := m_R_inv hf
  obtain ⟨rfl, rfl⟩ := (show m_KU o hz ((), _) from hK)
  exact ev_ret (q_cod qk105 rfl) rfl
theorem f105_cl {l0 : Nat} {h : q_H} {x : Unit × q_H} (hf : f105 l0 h = some x) : q_Cl 105 [.ref l0] h (.inl none) x.2 := q_Cl.of rfl (q_LvS rfl rfl) (f105_ok hf ⟨rfl, rfl⟩)
/-! SmithyBench$Renamer.nameMethod(LSmithyBench$Program;LSmithyBench$Program;II)I -/
theorem qk106 : q_cs.getD 106 [] = qc_106 := rfl
def f106_134 (l1 : Nat) (l2 : Nat) (l4 : Int32) (l5 : Int32) (l6 : Int32) (l7 : Int32) : m_M ((Nat × Nat × Int32 × Int32 × Int32 × Int32) ⊕ Int32) :=
  m_R (.inl (l1, l2, l4, l5, l6, (l7 + 1)))
theorem f106_134_ok {l1 : Nat} {l2 : Nat} {l4 : Int32} {l5 : Int32} {l6 : Int32} {l7 : Int32} {h : q_H} {o : q_O} {hz : q_H} {x : ((Nat × Nat × Int32 × Int32 × Int32 × Int32) ⊕ Int32) × q_H} (hf : f106_134 l1 l2 l4 l5 l6 l7 h = some x) (hK : (m_yK (fun (s : Nat × Nat × Int32 × Int32 × Int32 × Int32) (h : q_H) => q_Ev none 106 32 [(1, .ref (s.1)), (2, .ref (s.2.1)), (4, .int (s.2.2.1)), (5, .int (s.2.2.2.1)), (6, .int (s.2.2.2.2.1)), (7, .int (s.2.2.2.2.2))] [] h o hz) (q_KI o hz)) x) : q_Ev none 106 134 [(1, .ref l1), (2, .ref l2), (4, .int l4), (5, .int l5), (6, .int l6), (7, .int l7)] [] h o hz := by
  unfold f106_134 at hf
  refine ev_inc (v := l7 + 1) (L' := [(1, .ref l1), (2, .ref l2), (4, .int l4), (5, .int l5), (6, .int l6), (7, .int (l7 + 1))]) (q_cod qk106 rfl) (by decide) rfl rfl rfl ?_
  refine ev_goto (q_cod qk106 rfl) (by decide) ?_
  obtain rfl := m_R_inv hf
  exact (show q_Ev none 106 32 [(1, .ref l1), (2, .ref l2), (4, .int l4), (5, .int l5), (6, .int l6), (7, .int (l7 + 1))] [] _ o hz from hK)
def f106_128 (l1 : Nat) (l2 : Nat) (l4 : Int32) (l5 : Int32) (l6 : Int32) (l7 : Int32) (l8 : Nat) (l9 : Int32) : m_M ((Nat × Nat × Int32 × Int32 × Int32 × Int32 × Nat × Int32) ⊕ ((Nat × Nat × Int32 × Int32 × Int32 × Int32) ⊕ Int32)) :=
  m_R (.inl (l1, l2, l4, l5, l6, l7, l8, (l9 + 1)))
theorem f106_128_ok {l1 : Nat} {l2 : Nat} {l4 : Int32} {l5 : Int32} {l6 : Int32} {l7 : Int32} {l8 : Nat} {l9 : Int32} {h : q_H} {o : q_O} {hz : q_H} {x : ((Nat × Nat × Int32 × Int32 × Int32 × Int32 × Nat × Int32) ⊕ ((Nat × Nat × Int32 × Int32 × Int32 × Int32) ⊕ Int32)) × q_H} (hf : f106_128 l1 l2 l4 l5 l6 l7 l8 l9 h = some x) (hK : (m_yK (fun (s : Nat × Nat × Int32 × Int32 × Int32 × Int32 × Nat × Int32) (h : q_H) => q_Ev none 106 85 [(1, .ref (s.1)), (2, .ref (s.2.1)), (4, .int (s.2.2.1)), (5, .int (s.2.2.2.1)), (6, .int (s.2.2.2.2.1)), (7, .int (s.2.2.2.2.2.1)), (8, .ref (s.2.2.2.2.2.2.1)), (9, .int (s.2.2.2.2.2.2.2))] [] h o hz) (m_yK (fun (s : Nat × Nat × Int32 × Int32 × Int32 × Int32) (h : q_H) => q_Ev none 106 32 [(1, .ref (s.1)), (2, .ref (s.2.1)), (4, .int (s.2.2.1)), (5, .int (s.2.2.2.1)), (6, .int (s.2.2.2.2.1)), (7, .int (s.2.2.2.2.2))] [] h o hz) (q_KI o hz))) x) : q_Ev none 106 128 [(1, .ref l1), (2, .ref l2), (4, .int l4), (5, .int l5), (6, .int l6), (7, .int l7), (8, .ref l8), (9, .int l9)] [] h o hz := by
  unfold f106_128 at hf
  refine ev_inc (v := l9 + 1) (L' := [(1, .ref l1), (2, .ref l2), (4, .int l4), (5, .int l5), (6, .int l6), (7, .int l7), (8, .ref l8), (9, .int (l9 + 1))]) (q_cod qk106 rfl) (by decide) rfl rfl rfl ?_
  refine ev_goto (q_cod qk106 rfl) (by decide) ?_
  obtain rfl := m_R_inv hf
  exact (show q_Ev none 106 85 [(1, .ref l1), (2, .ref l2), (4, .int l4), (5, .int l5), (6, .int l6), (7, .int l7), (8, .ref l8), (9, .int (l9 + 1))] [] _ o hz from hK)
def f106_85b (l1 : Nat) (l2 : Nat) (l4 : Int32) (l5 : Int32) (l6 : Int32) (l7 : Int32) (l8 : Nat) (l9 : Int32) : m_M ((Nat × Nat × Int32 × Int32 × Int32 × Int32 × Nat × Int32) ⊕ ((Nat × Nat × Int32 × Int32 × Int32 × Int32) ⊕ Int32)) :=
  m_B (m_gI 0 l8 7) (fun v1 => if l9 < v1 then (m_B (m_aK l8 0) (fun _ => m_B (f17 l8 l9 l5) (fun v3 => if v3 = 0 then (f106_128 l1 l2 l4 l5 l6 l7 l8 l9) else (m_B (m_gR 7 l2 9) (fun r4 => m_B (m_lR r4 l7) (fun r5 => m_B (m_gR 0 r5 1) (fun r6 => m_B (m_wI r6 l9 l4) (fun _ => f106_128 l1 l2 l4 l5 (l6 + 1) l7 l8 l9)))))))) else (m_B (f106_134 l1 l2 l4 l5 l6 l7) (fun r => m_R (.inr r))))
theorem f106_85b_ok {l1 : Nat} {l2 : Nat} {l4 : Int32} {l5 : Int32} {l6 : Int32} {l7 : Int32} {l8 : Nat} {l9 : Int32} {h : q_H} {o : q_O} {hz : q_H} {x : ((Nat × Nat × Int32 × Int32 × Int32 × Int32 × Nat × Int32) ⊕ ((Nat × Nat × Int32 × Int32 × Int32 × Int32) ⊕ Int32)) × q_H} (hf : f106_85b l1 l2 l4 l5 l6 l7 l8 l9 h = some x) (hK : (m_yK (fun (s : Nat × Nat × Int32 × Int32 × Int32 × Int32 × Nat × Int32) (h : q_H) => q_Ev none 106 85 [(1, .ref (s.1)), (2, .ref (s.2.1)), (4, .int (s.2.2.1)), (5, .int (s.2.2.2.1)), (6, .int (s.2.2.2.2.1)), (7, .int (s.2.2.2.2.2.1)), (8, .ref (s.2.2.2.2.2.2.1)), (9, .int (s.2.2.2.2.2.2.2))] [] h o hz) (m_yK (fun (s : Nat × Nat × Int32 × Int32 × Int32 × Int32) (h : q_H) => q_Ev none 106 32 [(1, .ref (s.1)), (2, .ref (s.2.1)), (4, .int (s.2.2.1)), (5, .int (s.2.2.2.1)), (6, .int (s.2.2.2.2.1)), (7, .int (s.2.2.2.2.2))] [] h o hz) (q_KI o hz))) x) : q_Ev none 106 85 [(1, .ref l1), (2, .ref l2), (4, .int l4), (5, .int l5), (6, .int l6), (7, .int l7), (8, .ref l8), (9, .int l9)] [] h o hz := by
  unfold f106_85b at hf
  refine ev_iload (q_cod qk106 rfl) (by decide) rfl ?_
  refine ev_aload (q_cod qk106 rfl) (by decide) rfl ?_
  refine em_gI (q_cod qk106 rfl) (by decide) (by decide) hf (fun v1 hf => ?_)
  refine em_ic_ge (q_cod qk106 rfl) (by decide) hf (fun c8 hf => ?_) (fun c8 hf => ?_)
  · refine ev_aload (q_cod qk106 rfl) (by decide) rfl ?_
    refine ev_iload (q_cod qk106 rfl) (by decide) rfl ?_
    refine ev_iload (q_cod qk106 rfl) (by decide) rfl ?_
    obtain ⟨g2, hf⟩ := m_aK_some hf
    refine em_call (v := (fun u => some (.int u))) (q_cod qk106 rfl) rfl rfl (q_cokV rfl rfl (Or.inr g2)) rfl (fun x e => f17_cl e) hf (fun v3 h hf => ?_)
    refine em_if_ne (q_cod qk106 rfl) (by decide) hf (fun c7 hf => ?_) (fun c7 hf => ?_)
    · refine ev_goto (q_cod qk106 rfl) (by decide) ?_
      exact (f106_128_ok hf hK)
    · refine ev_aload_n (q_cod qk106 rfl) (by decide) rfl ?_
      refine em_gR (q_cod qk106 rfl) (by decide) (by decide) hf (fun r4 hf => ?_)
      refine ev_iload (q_cod qk106 rfl) (by decide) rfl ?_
      refine em_lR (q_cod qk106 rfl) (by decide) hf (fun r5 hf => ?_)
      refine em_gR (q_cod qk106 rfl) (by decide) (by decide) hf (fun r6 hf => ?_)
      refine ev_iload (q_cod qk106 rfl) (by decide) rfl ?_
      refine ev_iload (q_cod qk106 rfl) (by decide) rfl ?_
      refine em_wI (q_cod qk106 rfl) (by decide) hf (fun hf => ?_)
      refine ev_inc (v := l6 + 1) (L' := [(1, .ref l1), (2, .ref l2), (4, .int l4), (5, .int l5), (6, .int (l6 + 1)), (7, .int l7), (8, .ref l8), (9, .int l9)]) (q_cod qk106 rfl) (by decide) rfl rfl rfl ?_
      exact (f106_128_ok hf hK)
  · obtain ⟨y0, hf0, hx⟩ := m_inr_some hf
    subst hx
    exact ev_weak (q_pk [0, 1, 2, 3, 4, 5] rfl) (f106_134_ok hf0 hK)
def f106_85 (l1 : Nat) (l2 : Nat) (l4 : Int32) (l5 : Int32) (l6 : Int32) (l7 : Int32) (l8 : Nat) (l9 : Int32) : m_M ((Nat × Nat × Int32 × Int32 × Int32 × Int32) ⊕ Int32) := m_W (fun s => f106_85b (s.1) (s.2.1) (s.2.2.1) (s.2.2.2.1) (s.2.2.2.2.1) (s.2.2.2.2.2.1) (s.2.2.2.2.2.2.1) (s.2.2.2.2.2.2.2)) 1000000 (l1, l2, l4, l5, l6, l7, l8, l9)
theorem f106_85_ok {l1 : Nat} {l2 : Nat} {l4 : Int32} {l5 : Int32} {l6 : Int32} {l7 : Int32} {l8 : Nat} {l9 : Int32} {h : q_H} {o : q_O} {hz : q_H} {x : ((Nat × Nat × Int32 × Int32 × Int32 × Int32) ⊕ Int32) × q_H} (hf : f106_85 l1 l2 l4 l5 l6 l7 l8 l9 h = some x) (hK : (m_yK (fun (s : Nat × Nat × Int32 × Int32 × Int32 × Int32) (h : q_H) => q_Ev none 106 32 [(1, .ref (s.1)), (2, .ref (s.2.1)), (4, .int (s.2.2.1)), (5, .int (s.2.2.2.1)), (6, .int (s.2.2.2.2.1)), (7, .int (s.2.2.2.2.2))] [] h o hz) (q_KI o hz)) x) : q_Ev none 106 85 [(1, .ref l1), (2, .ref l2), (4, .int l4), (5, .int l5), (6, .int l6), (7, .int l7), (8, .ref l8), (9, .int l9)] [] h o hz :=
  m_W_ok (P := (fun (s : Nat × Nat × Int32 × Int32 × Int32 × Int32 × Nat × Int32) (h : q_H) => q_Ev none 106 85 [(1, .ref (s.1)), (2, .ref (s.2.1)), (4, .int (s.2.2.1)), (5, .int (s.2.2.2.1)), (6, .int (s.2.2.2.2.1)), (7, .int (s.2.2.2.2.2.1)), (8, .ref (s.2.2.2.2.2.2.1)), (9, .int (s.2.2.2.2.2.2.2))] [] h o hz)) (K := (m_yK (fun (s : Nat × Nat × Int32 × Int32 × Int32 × Int32) (h : q_H) => q_Ev none 106 32 [(1, .ref (s.1)), (2, .ref (s.2.1)), (4, .int (s.2.2.1)), (5, .int (s.2.2.2.1)), (6, .int (s.2.2.2.2.1)), (7, .int (s.2.2.2.2.2))] [] h o hz) (q_KI o hz))) (fun s h x h1 h2 => f106_85b_ok h1 h2) _ (l1, l2, l4, l5, l6, l7, l8, l9) _ _ hf hK
def f106_73 (l1 : Nat) (l2 : Nat) (l4 : Int32) (l5 : Int32) (l6 : Int32) (l7 : Int32) : m_M ((Nat × Nat × Int32 × Int32 × Int32 × Int32) ⊕ Int32) :=
  m_B (m_gR 7 l1 9) (fun r1 => m_B (m_lR r1 l7) (fun r2 => f106_85 l1 l2 l4 l5 l6 l7 r2 0))
theorem f106_73_ok {l1 : Nat} {l2 : Nat} {l4 : Int32} {l5 : Int32} {l6 : Int32} {l7 : Int32} {h : q_H} {o : q_O} {hz : q_H} {x : ((Nat × Nat × Int32 × Int32 × Int32 × Int32) ⊕ Int32) × q_H} (hf : f106_73 l1 l2 l4 l5 l6 l7 h = some x) (hK : (m_yK (fun (s : Nat × Nat × Int32 × Int32 × Int32 × Int32) (h : q_H) => q_Ev none 106 32 [(1, .ref (s.1)), (2, .ref (s.2.1)), (4, .int (s.2.2.1)), (5, .int (s.2.2.2.1)), (6, .int (s.2.2.2.2.1)), (7, .int (s.2.2.2.2.2))] [] h o hz) (q_KI o hz)) x) : q_Ev none 106 73 [(1, .ref l1), (2, .ref l2), (4, .int l4), (5, .int l5), (6, .int l6), (7, .int l7)] [] h o hz := by
  unfold f106_73 at hf
  refine ev_aload_n (q_cod qk106 rfl) (by decide) rfl ?_
  refine em_gR (q_cod qk106 rfl) (by decide) (by decide) hf (fun r1 hf => ?_)
  refine ev_iload (q_cod qk106 rfl) (by decide) rfl ?_
  refine em_lR (q_cod qk106 rfl) (by decide) hf (fun r2 hf => ?_)
  refine ev_as2 (L' := [(1, .ref l1), (2, .ref l2), (4, .int l4), (5, .int l5), (6, .int l6), (7, .int l7), (8, .ref r2)]) (q_cod qk106 rfl) (by decide) rfl ?_
  refine ev_ic (v := 0) (q_cod qk106 rfl) (by decide) (by decide) ?_
  refine ev_is2 (L' := [(1, .ref l1), (2, .ref l2), (4, .int l4), (5, .int l5), (6, .int l6), (7, .int l7), (8, .ref r2), (9, .int 0)]) (q_cod qk106 rfl) (by decide) rfl ?_
  exact (f106_85_ok hf hK)
def f106_140 (l6 : Int32) : m_M Int32 :=
  m_R l6
theorem f106_140_ok {l6 : Int32} {h : q_H} {o : q_O} {hz : q_H} {x : Int32 × q_H} (hf : f106_140 l6 h = some x) (hK : (q_KI o hz) x) : q_Ev none 106 140 [(6, .int l6)] [] h o hz := by
  unfold f106_140 at hf
  refine ev_iload (q_cod qk106 rfl) (by decide) rfl ?_
  obtain rfl := m_R_inv hf
  obtain ⟨rfl, rfl⟩ := (show q_KI o hz (l6, _) from hK)
  exact ev_ret (q_cod qk106 rfl) rfl
def f106_32b (l1 : Nat) (l2 : Nat) (l4 : Int32) (l5 : Int32) (l6 : Int32) (l7 : Int32) : m_M ((Nat × Nat × Int32 × Int32 × Int32 × Int32) ⊕ Int32) :=
  m_B (m_gI 7 l1 11) (fun v1 => if l7 < v1 then (m_B (m_aK l1 7) (fun _ => m_B (f79 l1 l7) (fun v3 => if v3 = 0 then (f106_134 l1 l2 l4 l5 l6 l7) else (if ((q_ush l5 l7) &&& 1) = 1 then (m_B (m_gR 7 l2 4) (fun r4 => m_B (m_wI r4 l7 l4) (fun _ => f106_73 l1 l2 l4 l5 l6 l7))) else (f106_73 l1 l2 l4 l5 l6 l7))))) else (m_B (f106_140 l6) (fun r => m_R (.inr r))))
theorem f106_32b_ok {l1 : Nat} {l2 : Nat} {l4 : Int32} {l5 : Int32} {l6 : Int32} {l7 : Int32} {h : q_H} {o : q_O} {hz : q_H} {x : ((Nat × Nat × Int32 × Int32 × Int32 × Int32) ⊕ Int32) × q_H} (hf : f106_32b l1 l2 l4 l5 l6 l7 h = some x) (hK : (m_yK (fun (s : Nat × Nat × Int32 × Int32 × Int32 × Int32) (h : q_H) => q_Ev none 106 32 [(1, .ref (s.1)), (2, .ref (s.2.1)), (4, .int (s.2.2.1)), (5, .int (s.2.2.2.1)), (6, .int (s.2.2.2.2.1)), (7, .int (s.2.2.2.2.2))] [] h o hz) (q_KI o hz)) x) : q_Ev none 106 32 [(1, .ref l1), (2, .ref l2), (4, .int l4), (5, .int l5), (6, .int l6), (7, .int l7)] [] h o hz := by
  unfold f106_32b at hf
  refine ev_iload (q_cod qk106 rfl) (by decide) rfl ?_
  refine ev_aload_n (q_cod qk106 rfl) (by decide) rfl ?_
  refine em_gI (q_cod qk106 rfl) (by decide) (by decide) hf (fun v1 hf => ?_)
  refine em_ic_ge (q_cod qk106 rfl) (by decide) hf (fun c7 hf => ?_) (fun c7 hf => ?_)
  · refine ev_aload_n (q_cod qk106 rfl) (by decide) rfl ?_
    refine ev_iload (q_cod qk106 rfl) (by decide) rfl ?_
    obtain ⟨g2, hf⟩ := m_aK_some hf
    refine em_call (v := (fun u => some (.int u))) (q_cod qk106 rfl) rfl rfl (q_cokV rfl rfl (Or.inr g2)) rfl (fun x e => f79_cl e) hf (fun v3 h hf => ?_)
    refine em_if_ne (q_cod qk106 rfl) (by decide) hf (fun c6 hf => ?_) (fun c6 hf => ?_)
    · refine ev_goto (q_cod qk106 rfl) (by decide) ?_
      exact (f106_134_ok hf hK)
    · refine ev_iload (q_cod qk106 rfl) (by decide) rfl ?_
      refine ev_iload (q_cod qk106 rfl) (by decide) rfl ?_
      refine ev_iushr (q_cod qk106 rfl) (by decide) ?_
      refine ev_ic (v := 1) (q_cod qk106 rfl) (by decide) (by decide) ?_
      refine ev_iand (q_cod qk106 rfl) (by decide) ?_
      refine ev_ic (v := 1) (q_cod qk106 rfl) (by decide) (by decide) ?_
      refine em_ic_ne (q_cod qk106 rfl) (by decide) hf (fun c5 hf => ?_) (fun c5 hf => ?_)
      · refine ev_aload_n (q_cod qk106 rfl) (by decide) rfl ?_
        refine em_gR (q_cod qk106 rfl) (by decide) (by decide) hf (fun r4 hf => ?_)
        refine ev_iload (q_cod qk106 rfl) (by decide) rfl ?_
        refine ev_iload (q_cod qk106 rfl) (by decide) rfl ?_
        refine em_wI (q_cod qk106 rfl) (by decide) hf (fun hf => ?_)
        exact (f106_73_ok hf hK)
      · exact (f106_73_ok hf hK)
  · obtain ⟨y0, hf0, hx⟩ := m_inr_some hf
    subst hx
    exact ev_weak (q_pk [4] rfl) (f106_140_ok hf0 hK)
def f106_32 (l1 : Nat) (l2 : Nat) (l4 : Int32) (l5 : Int32) (l6 : Int32) (l7 : Int32) : m_M Int32 := m_W (fun s => f106_32b (s.1) (s.2.1) (s.2.2.1) (s.2.2.2.1) (s.2.2.2.2.1) (s.2.2.2.2.2)) 1000000 (l1, l2, l4, l5, l6, l7)
theorem f106_32_ok {l1 : Nat} {l2 : Nat} {l4 : Int32} {l5 : Int32} {l6 : Int32} {l7 : Int32} {h : q_H} {o : q_O} {hz : q_H} {x : Int32 × q_H} (hf : f106_32 l1 l2 l4 l5 l6 l7 h = some x) (hK : (q_KI o hz) x) : q_Ev none 106 32 [(1, .ref l1), (2, .ref l2), (4, .int l4), (5, .int l5), (6, .int l6), (7, .int l7)] [] h o hz :=
  m_W_ok (P := (fun (s : Nat × Nat × Int32 × Int32 × Int32 × Int32) (h : q_H) => q_Ev none 106 32 [(1, .ref (s.1)), (2, .ref (s.2.1)), (4, .int (s.2.2.1)), (5, .int (s.2.2.2.1)), (6, .int (s.2.2.2.2.1)), (7, .int (s.2.2.2.2.2))] [] h o hz)) (K := (q_KI o hz)) (fun s h x h1 h2 => f106_32b_ok h1 h2) _ (l1, l2, l4, l5, l6, l7) _ _ hf hK
def f106 (l0 : Nat) (l1 : Nat) (l2 : Nat) (l3 : Int32) (l4 : Int32) : m_M Int32 :=
  m_B (m_aK l1 7) (fun _ => m_B (f95 l1 l3) (fun v2 => m_B (m_gR 7 l1 5) (fun r3 => m_B (m_lI r3 l3) (fun v4 => m_B (m_aK l1 7) (fun _ => m_B (f97 l1 v2 l4 v4) (fun v6 => if v6 = 0 then (m_R (-1)) else (f106_32 l1 l2 l4 v2 0 0)))))))
theorem f106_ok {l0 : Nat} {l1 : Nat} {l2 : Nat} {l3 : Int32} {l4 : Int32} {h : q_H} {o : q_O} {hz : q_H} {x : Int32 × q_H} (hf : f106 l0 l1 l2 l3 l4 h = some x) (hK : (q_KI o hz) x) : q_Ev none 106 0 [(0, .ref l0), (1, .ref l1), (2, .ref l2), (3, .int l3), (4, .int l4)] [] h o hz := by
  unfold f106 at hf
  refine ev_aload_n (q_cod qk106 rfl) (by decide) rfl ?_
  refine ev_iload_n (q_cod qk106 rfl) (by decide) rfl ?_
  obtain ⟨g1, hf⟩ := m_aK_some hf
  refine em_call (v := (fun u => some (.int u))) (q_cod qk106 rfl) rfl rfl (q_cokV rfl rfl (Or.inr g1)) rfl (fun x e => f95_cl e) hf (fun v2 h hf => ?_)
  refine ev_is2 (L' := [(0, .ref l0), (1, .ref l1), (2, .ref l2), (3, .int l3), (4, .int l4), (5, .int v2)]) (q_cod qk106 rfl) (by decide) rfl ?_
  refine ev_aload_n (q_cod qk106 rfl) (by decide) rfl ?_
  refine ev_iload (q_cod qk106 rfl) (by decide) rfl ?_
  refine ev_iload (q_cod qk106 rfl) (by decide) rfl ?_
  refine ev_aload_n (q_cod qk106 rfl) (by decide) rfl ?_
  refine em_gR (q_cod qk106 rfl) (by decide) (by decide) hf (fun r3 hf => ?_)
  refine ev_iload_n (q_cod qk106 rfl) (by decide) rfl ?_
  refine em_lI (q_cod qk106 rfl) (by decide) hf (fun v4 hf => ?_)
  obtain ⟨g5, hf⟩ := m_aK_some hf
  refine em_call (v := (fun u => some (.int u))) (q_cod qk106 rfl) rfl rfl (q_cokV rfl rfl (Or.inr g5)) rfl (fun x e => f97_cl e) hf (fun v6 h hf => ?_)
  refine em_if_ne (q_cod qk106 rfl) (by decide) hf (fun c7 hf => ?_) (fun c7 hf => ?_)
  · refine ev_ic (v := (-1)) (q_cod qk106 rfl) (by decide) (by decide) ?_
    obtain rfl := m_R_inv hf
    obtain ⟨rfl, rfl⟩ := (show q_KI o hz ((-1), _) from hK)
    exact ev_ret (q_cod qk106 rfl) rfl
  · refine ev_ic (v := 0) (q_cod qk106 rfl) (by decide) (by decide) ?_
    refine ev_is2 (L' := [(0, .ref l0), (1, .ref l1), (2, .ref l2), (3, .int l3), (4, .int l4), (5, .int v2), (6, .int 0)]) (q_cod qk106 rfl) (by decide) rfl ?_
    refine ev_ic (v := 0) (q_cod qk106 rfl) (by decide) (by decide) ?_
    refine ev_is2 (L' := [(0, .ref l0), (1, .ref l1), (2, .ref l2), (3, .int l3), (4, .int l4), (5, .int v2), (6, .int 0), (7, .int 0)]) (q_cod qk106 rfl) (by decide) rfl ?_
    exact ev_weak (q_pk [1, 2, 4, 5, 6, 7] rfl) (f106_32_ok hf hK)
theorem f106_cl {l0 : Nat} {l1 : Nat} {l2 : Nat} {l3 : Int32} {l4 : Int32} {h : q_H} {x : Int32 × q_H} (hf : f106 l0 l1 l2 l3 l4 h = some x) : q_Cl 106 [.ref l0, .ref l1, .ref l2, .int l3, .int l4] h (.inl (some (.int x.1))) x.2 := q_Cl.of rfl (q_LvS rfl rfl) (f106_ok hf ⟨rfl, rfl⟩)
/-! SmithyBench$Renamer.nameField(LSmithyBench$Program;LSmithyBench$Program;III)I -/
theorem qk107 : q_cs.getD 107 [] = qc_107 := rfl
def f107_188 (l0 : Nat) (l1 : Nat) (l2 : Nat) (l3 : Int32) (l4 : Int32) (l5 : Int32) (l6 : Int32) (l7 : Int32) (l8 : Int32) : m_M ((Nat × Nat × Nat × Int32 × Int32 × Int32 × Int32 × Int32 × Int32) ⊕ Int32) :=
  m_R (.inl (l0, l1, l2, l3, l4, l5, l6, l7, (l8 + 1)))
theorem f107_188_ok {l0 : Nat} {l1 : Nat} {l2 : Nat} {l3 : Int32} {l4 : Int32} {l5 : Int32} {l6 : Int32} {l7 : Int32} {l8 : Int32} {h : q_H} {o : q_O} {hz : q_H} {x : ((Nat × Nat × Nat × Int32 × Int32 × Int32 × Int32 × Int32 × Int32) ⊕ Int32) × q_H} (hf : f107_188 l0 l1 l2 l3 l4 l5 l6 l7 l8 h = some x) (hK : (m_yK (fun (s : Nat × Nat × Nat × Int32 × Int32 × Int32 × Int32 × Int32 × Int32) (h : q_H) => q_Ev none 107 30 [(0, .ref (s.1)), (1, .ref (s.2.1)), (2, .ref (s.2.2.1)), (3, .int (s.2.2.2.1)), (4, .int (s.2.2.2.2.1)), (5, .int (s.2.2.2.2.2.1)), (6, .int (s.2.2.2.2.2.2.1)), (7, .int (s.2.2.2.2.2.2.2.1)), (8, .int (s.2.2.2.2.2.2.2.2))] [] h o hz) (q_KI o hz)) x) : q_Ev none 107 188 [(0, .ref l0), (1, .ref l1), (2, .ref l2), (3, .int l3), (4, .int l4), (5, .int l5), (6, .int l6), (7, .int l7), (8, .int l8)] [] h o hz := by
  unfold f107_188 at hf
  refine ev_inc (v := l8 + 1) (L' := [(0, .ref l0), (1, .ref l1), (2, .ref l2), (3, .int l3), (4, .int l4), (5, .int l5), (6, .int l6), (7, .int l7), (8, .int (l8 + 1))]) (q_cod qk107 rfl) (by decide) rfl rfl rfl ?_
  refine ev_goto (q_cod qk107 rfl) (by decide) ?_
  obtain rfl := m_R_inv hf
  exact (show q_Ev none 107 30 [(0, .ref l0), (1, .ref l1), (2, .ref l2), (3, .int l3), (4, .int l4), (5, .int l5), (6, .int l6), (7, .int l7), (8, .int (l8 + 1))] [] _ o hz from hK)
def f107_162 (l0 : Nat) (l1 : Nat) (l2 : Nat) (l3 : Int32) (l4 : Int32) (l5 : Int32) (l6 : Int32) (l7 : Int32) (l8 : Int32) (l9 : Nat) (l10 : Int32) : m_M ((Nat × Nat × Nat × Int32 × Int32 × Int32 × Int32 × Int32 × Int32 × Nat × Int32) ⊕ ((Nat × Nat × Nat × Int32 × Int32 × Int32 × Int32 × Int32 × Int32) ⊕ Int32)) :=
  m_R (.inl (l0, l1, l2, l3, l4, l5, l6, l7, l8, l9, (l10 + 1)))
theorem f107_162_ok {l0 : Nat} {l1 : Nat} {l2 : Nat} {l3 : Int32} {l4 : Int32} {l5 : Int32} {l6 : Int32} {l7 : Int32} {l8 : Int32} {l9 : Nat} {l10 : Int32} {h : q_H} {o : q_O} {hz : q_H} {x : ((Nat × Nat × Nat × Int32 × Int32 × Int32 × Int32 × Int32 × Int32 × Nat × Int32) ⊕ ((Nat × Nat × Nat × Int32 × Int32 × Int32 × Int32 × Int32 × Int32) ⊕ Int32)) × q_H} (hf : f107_162 l0 l1 l2 l3 l4 l5 l6 l7 l8 l9 l10 h = some x) (hK : (m_yK (fun (s : Nat × Nat × Nat × Int32 × Int32 × Int32 × Int32 × Int32 × Int32 × Nat × Int32) (h : q_H) => q_Ev none 107 70 [(0, .ref (s.1)), (1, .ref (s.2.1)), (2, .ref (s.2.2.1)), (3, .int (s.2.2.2.1)), (4, .int (s.2.2.2.2.1)), (5, .int (s.2.2.2.2.2.1)), (6, .int (s.2.2.2.2.2.2.1)), (7, .int (s.2.2.2.2.2.2.2.1)), (8, .int (s.2.2.2.2.2.2.2.2.1)), (9, .ref (s.2.2.2.2.2.2.2.2.2.1)), (10, .int (s.2.2.2.2.2.2.2.2.2.2))] [] h o hz) (m_yK (fun (s : Nat × Nat × Nat × Int32 × Int32 × Int32 × Int32 × Int32 × Int32) (h : q_H) => q_Ev none 107 30 [(0, .ref (s.1)), (1, .ref (s.2.1)), (2, .ref (s.2.2.1)), (3, .int (s.2.2.2.1)), (4, .int (s.2.2.2.2.1)), (5, .int (s.2.2.2.2.2.1)), (6, .int (s.2.2.2.2.2.2.1)), (7, .int (s.2.2.2.2.2.2.2.1)), (8, .int (s.2.2.2.2.2.2.2.2))] [] h o hz) (q_KI o hz))) x) : q_Ev none 107 162 [(0, .ref l0), (1, .ref l1), (2, .ref l2), (3, .int l3), (4, .int l4), (5, .int l5), (6, .int l6), (7, .int l7), (8, .int l8), (9, .ref l9), (10, .int l10)] [] h o hz := by
  unfold f107_162 at hf
  refine ev_inc (v := l10 + 1) (L' := [(0, .ref l0), (1, .ref l1), (2, .ref l2), (3, .int l3), (4, .int l4), (5, .int l5), (6, .int l6), (7, .int l7), (8, .int l8), (9, .ref l9), (10, .int (l10 + 1))]) (q_cod qk107 rfl) (by decide) rfl rfl rfl ?_
  refine ev_goto (q_cod qk107 rfl) (by decide) ?_
  obtain rfl := m_R_inv hf
  exact (show q_Ev none 107 70 [(0, .ref l0), (1, .ref l1), (2, .ref l2), (3, .int l3), (4, .int l4), (5, .int l5), (6, .int l6), (7, .int l7), (8, .int l8), (9, .ref l9), (10, .int (l10 + 1))] [] _ o hz from hK)
def f107_149 (l0 : Nat) (l1 : Nat) (l2 : Nat) (l3 : Int32) (l4 : Int32) (l5 : Int32) (l6 : Int32) (l7 : Int32) (l8 : Int32) (l9 : Nat) (l10 : Int32) : m_M ((Nat × Nat × Nat × Int32 × Int32 × Int32 × Int32 × Int32 × Int32 × Nat × Int32) ⊕ ((Nat × Nat × Nat × Int32 × Int32 × Int32 × Int32 × Int32 × Int32) ⊕ Int32)) :=
  m_B (m_gR 8 l0 0) (fun r1 => m_B (m_aK r1 0) (fun _ => m_B (f4 r1 l9 l10 l5) (fun _ => f107_162 l0 l1 l2 l3 l4 l5 l6 l7 l8 l9 l10)))
theorem f107_149_ok {l0 : Nat} {l1 : Nat} {l2 : Nat} {l3 : Int32} {l4 : Int32} {l5 : Int32} {l6 : Int32} {l7 : Int32} {l8 : Int32} {l9 : Nat} {l10 : Int32} {h : q_H} {o : q_O} {hz : q_H} {x : ((Nat × Nat × Nat × Int32 × Int32 × Int32 × Int32 × Int32 × Int32 × Nat × Int32) ⊕ ((Nat × Nat × Nat × Int32 × Int32 × Int32 × Int32 × Int32 × Int32) ⊕ Int32)) × q_H} (hf : f107_149 l0 l1 l2 l3 l4 l5 l6 l7 l8 l9 l10 h = some x) (hK : (m_yK (fun (s : Nat × Nat × Nat × Int32 × Int32 × Int32 × Int32 × Int32 × Int32 × Nat × Int32) (h : q_H) => q_Ev none 107 70 [(0, .ref (s.1)), (1, .ref (s.2.1)), (2, .ref (s.2.2.1)), (3, .int (s.2.2.2.1)), (4, .int (s.2.2.2.2.1)), (5, .int (s.2.2.2.2.2.1)), (6, .int (s.2.2.2.2.2.2.1)), (7, .int (s.2.2.2.2.2.2.2.1)), (8, .int (s.2.2.2.2.2.2.2.2.1)), (9, .ref (s.2.2.2.2.2.2.2.2.2.1)), (10, .int (s.2.2.2.2.2.2.2.2.2.2))] [] h o hz) (m_yK (fun (s : Nat × Nat × Nat × Int32 × Int32 × Int32 × Int32 × Int32 × Int32) (h : q_H) => q_Ev none 107 30 [(0, .ref (s.1)), (1, .ref (s.2.1)), (2, .ref (s.2.2.1)), (3, .int (s.2.2.2.1)), (4, .int (s.2.2.2.2.1)), (5, .int (s.2.2.2.2.2.1)), (6, .int (s.2.2.2.2.2.2.1)), (7, .int (s.2.2.2.2.2.2.2.1)), (8, .int (s.2.2.2.2.2.2.2.2))] [] h o hz) (q_KI o hz))) x) : q_Ev none 107 149 [(0, .ref l0), (1, .ref l1), (2, .ref l2), (3, .int l3), (4, .int l4), (5, .int l5), (6, .int l6), (7, .int l7), (8, .int l8), (9, .ref l9), (10, .int l10)] [] h o hz := by
  unfold f107_149 at hf
  refine ev_aload_n (q_cod qk107 rfl) (by decide) rfl ?_
  refine em_gR (q_cod qk107 rfl) (by decide) (by decide) hf (fun r1 hf => ?_)
  refine ev_aload (q_cod qk107 rfl) (by decide) rfl ?_
  refine ev_iload (q_cod qk107 rfl) (by decide) rfl ?_
  refine ev_iload (q_cod qk107 rfl) (by decide) rfl ?_
  obtain ⟨g2, hf⟩ := m_aK_some hf
  refine em_call (v := (fun _ => none)) (q_cod qk107 rfl) rfl rfl (q_cokV rfl rfl (Or.inr g2)) rfl (fun x e => f4_cl e) hf (fun _ h hf => ?_)
  exact (f107_162_ok hf hK)
def f107_168 (l0 : Nat) (l1 : Nat) (l2 : Nat) (l3 : Int32) (l4 : Int32) (l5 : Int32) (l6 : Int32) (l7 : Int32) (l8 : Int32) : m_M ((Nat × Nat × Nat × Int32 × Int32 × Int32 × Int32 × Int32 × Int32) ⊕ Int32) :=
  m_B (m_gR 7 l2 9) (fun r1 => m_B (m_lR r1 l8) (fun r2 => m_B (m_gR 8 l0 0) (fun r3 => m_B (m_aK r2 0) (fun _ => m_B (f7 r2 r3) (fun v5 => if v5 = 0 then (f107_188 l0 l1 l2 l3 l4 l5 l6 1 l8) else (f107_188 l0 l1 l2 l3 l4 l5 l6 l7 l8))))))
theorem f107_168_ok {l0 : Nat} {l1 : Nat} {l2 : Nat} {l3 : Int32} {l4 : Int32} {l5 : Int32} {l6 : Int32} {l7 : Int32} {l8 : Int32} {h : q_H} {o : q_O} {hz : q_H} {x : ((Nat × Nat × Nat × Int32 × Int32 × Int32 × Int32 × Int32 × Int32) ⊕ Int32) × q_H} (hf : f107_168 l0 l1 l2 l3 l4 l5 l6 l7 l8 h = some x) (hK : (m_yK (fun (s : Nat × Nat × Nat × Int32 × Int32 × Int32 × Int32 × Int32 × Int32) (h : q_H) => q_Ev none 107 30 [(0, .ref (s.1)), (1, .ref (s.2.1)), (2, .ref (s.2.2.1)), (3, .int (s.2.2.2.1)), (4, .int (s.2.2.2.2.1)), (5, .int (s.2.2.2.2.2.1)), (6, .int (s.2.2.2.2.2.2.1)), (7, .int (s.2.2.2.2.2.2.2.1)), (8, .int (s.2.2.2.2.2.2.2.2))] [] h o hz) (q_KI o hz)) x) : q_Ev none 107 168 [(0, .ref l0), (1, .ref l1), (2, .ref l2), (3, .int l3), (4, .int l4), (5, .int l5), (6, .int l6), (7, .int l7), (8, .int l8)] [] h o hz := by
  unfold f107_168 at hf
  refine ev_aload_n (q_cod qk107 rfl) (by decide) rfl ?_
  refine em_gR (q_cod qk107 rfl) (by decide) (by decide) hf (fun r1 hf => ?_)
  refine ev_iload (q_cod qk107 rfl) (by decide) rfl ?_
  refine em_lR (q_cod qk107 rfl) (by decide) hf (fun r2 hf => ?_)
  refine ev_aload_n (q_cod qk107 rfl) (by decide) rfl ?_
  refine em_gR (q_cod qk107 rfl) (by decide) (by decide) hf (fun r3 hf => ?_)
  obtain ⟨g4, hf⟩ := m_aK_some hf
  refine em_call (v := (fun u => some (.int u))) (q_cod qk107 rfl) rfl rfl (q_cokV rfl rfl (Or.inr g4)) rfl (fun x e => f7_cl e) hf (fun v5 h hf => ?_)
  refine em_if_ne (q_cod qk107 rfl) (by decide) hf (fun c6 hf => ?_) (fun c6 hf => ?_)
  · refine ev_ic (v := 1) (q_cod qk107 rfl) (by decide) (by decide) ?_
    refine ev_is2 (L' := [(0, .ref l0), (1, .ref l1), (2, .ref l2), (3, .int l3), (4, .int l4), (5, .int l5), (6, .int l6), (7, .int 1), (8, .int l8)]) (q_cod qk107 rfl) (by decide) rfl ?_
    exact (f107_188_ok hf hK)
  · exact (f107_188_ok hf hK)
def f107_70b (l0 : Nat) (l1 : Nat) (l2 : Nat) (l3 : Int32) (l4 : Int32) (l5 : Int32) (l6 : Int32) (l7 : Int32) (l8 : Int32) (l9 : Nat) (l10 : Int32) : m_M ((Nat × Nat × Nat × Int32 × Int32 × Int32 × Int32 × Int32 × Int32 × Nat × Int32) ⊕ ((Nat × Nat × Nat × Int32 × Int32 × Int32 × Int32 × Int32 × Int32) ⊕ Int32)) :=
  m_B (m_gI 0 l9 7) (fun v1 => if l10 < v1 then (m_B (m_aK l9 0) (fun _ => m_B (f16 l9 l10 l3 l4) (fun v3 => if v3 = 0 then (m_B (m_gR 8 l0 0) (fun r4 => m_B (m_aK r4 0) (fun _ => m_B (f3 r4 l9 l10) (fun _ => f107_162 l0 l1 l2 l3 l4 l5 l6 l7 l8 l9 l10)))) else (m_B (m_aK l9 0) (fun _ => m_B (f11 l9 l10) (fun v8 => if v8 = 0 then (f107_149 l0 l1 l2 l3 l4 l5 (l6 + 1) l7 l8 l9 l10) else (m_B (m_aK l1 7) (fun _ => m_B (f101 l1 l8 l10 l5) (fun v10 => if v10 = 0 then (f107_149 l0 l1 l2 l3 l4 l5 (l6 + 1) l7 l8 l9 l10) else (m_B (m_gR 8 l0 0) (fun r11 => m_B (m_aK r11 0) (fun _ => m_B (f5 r11 l9 l10 l5) (fun _ => f107_162 l0 l1 l2 l3 l4 l5 (l6 + 1) l7 l8 l9 l10))))))))))))) else (m_B (f107_168 l0 l1 l2 l3 l4 l5 l6 l7 l8) (fun r => m_R (.inr r))))
theorem f107_70b_ok {l0 : Nat} {l1 : Nat} {l2 : Nat} {l3 : Int32} {l4 : Int32} {l5 : Int32} {l6 : Int32} {l7 : Int32} {l8 : Int32} {l9 : Nat} {l10 : Int32} {h : q_H} {o : q_O} {hz : q_H} {x : ((Nat × Nat × Nat × Int32 × Int32 × Int32 × Int32 × Int32 × Int32 × Nat × Int32) ⊕ ((Nat × Nat × Nat × Int32 × Int32 × Int32 × Int32 × Int32 × Int32) ⊕ Int32)) × q_H} (hf : f107_70b l0 l1 l2 l3 l4 l5 l6 l7 l8 l9 l10 h = some x) (hK : (m_yK (fun (s : Nat × Nat × Nat × Int32 × Int32 × Int32 × Int32 × Int32 × Int32 × Nat × Int32) (h : q_H) => q_Ev none 107 70 [(0, .ref (s.1)), (1, .ref (s.2.1)), (2, .ref (s.2.2.1)), (3, .int (s.2.2.2.1)), (4, .int (s.2.2.2.2.1)), (5, .int (s.2.2.2.2.2.1)), (6, .int (s.2.2.2.2.2.2.1)), (7, .int (s.2.2.2.2.2.2.2.1)), (8, .int (s.2.2.2.2.2.2.2.2.1)), (9, .ref (s.2.2.2.2.2.2.2.2.2.1)), (10, .int (s.2.2.2.2.2.2.2.2.2.2))] [] h o hz) (m_yK (fun (s : Nat × Nat × Nat × Int32 × Int32 × Int32 × Int32 × Int32 × Int32) (h : q_H) => q_Ev none 107 30 [(0, .ref (s.1)), (1, .ref (s.2.1)), (2, .ref (s.2.2.1)), (3, .int (s.2.2.2.1)), (4, .int (s.2.2.2.2.1)), (5, .int (s.2.2.2.2.2.1)), (6, .int (s.2.2.2.2.2.2.1)), (7, .int (s.2.2.2.2.2.2.2.1)), (8, .int (s.2.2.2.2.2.2.2.2))] [] h o hz) (q_KI o hz))) x) : q_Ev none 107 70 [(0, .ref l0), (1, .ref l1), (2, .ref l2), (3, .int l3), (4, .int l4), (5, .int l5), (6, .int l6), (7, .int l7), (8, .int l8), (9, .ref l9), (10, .int l10)] [] h o hz := by
  unfold f107_70b at hf
  refine ev_iload (q_cod qk107 rfl) (by decide) rfl ?_
  refine ev_aload (q_cod qk107 rfl) (by decide) rfl ?_
  refine em_gI (q_cod qk107 rfl) (by decide) (by decide) hf (fun v1 hf => ?_)
  refine em_ic_ge (q_cod qk107 rfl) (by decide) hf (fun c17 hf => ?_) (fun c17 hf => ?_)
  · refine ev_aload (q_cod qk107 rfl) (by decide) rfl ?_
    refine ev_iload (q_cod qk107 rfl) (by decide) rfl ?_
    refine ev_iload_n (q_cod qk107 rfl) (by decide) rfl ?_
    refine ev_iload (q_cod qk107 rfl) (by decide) rfl ?_
    obtain ⟨g2, hf⟩ := m_aK_some hf
    refine em_call (v := (fun u => some (.int u))) (q_cod qk107 rfl) rfl rfl (q_cokV rfl rfl (Or.inr g2)) rfl (fun x e => f16_cl e) hf (fun v3 h hf => ?_)
    refine em_if_ne (q_cod qk107 rfl) (by decide) hf (fun c16 hf => ?_) (fun c16 hf => ?_)
    · refine ev_aload_n (q_cod qk107 rfl) (by decide) rfl ?_
      refine em_gR (q_cod qk107 rfl) (by decide) (by decide) hf (fun r4 hf => ?_)
      refine ev_aload (q_cod qk107 rfl) (by decide) rfl ?_
      refine ev_iload (q_cod qk107 rfl) (by decide) rfl ?_
      obtain ⟨g5, hf⟩ := m_aK_some hf
      refine em_call (v := (fun _ => none)) (q_cod qk107 rfl) rfl rfl (q_cokV rfl rfl (Or.inr g5)) rfl (fun x e => f3_cl e) hf (fun _ h hf => ?_)
      refine ev_goto (q_cod qk107 rfl) (by decide) ?_
      exact (f107_162_ok hf hK)
    · refine ev_inc (v := l6 + 1) (L' := [(0, .ref l0), (1, .ref l1), (2, .ref l2), (3, .int l3), (4, .int l4), (5, .int l5), (6, .int (l6 + 1)), (7, .int l7), (8, .int l8), (9, .ref l9), (10, .int l10)]) (q_cod qk107 rfl) (by decide) rfl rfl rfl ?_
      refine ev_aload (q_cod qk107 rfl) (by decide) rfl ?_
      refine ev_iload (q_cod qk107 rfl) (by decide) rfl ?_
      obtain ⟨g7, hf⟩ := m_aK_some hf
      refine em_call (v := (fun u => some (.int u))) (q_cod qk107 rfl) rfl rfl (q_cokV rfl rfl (Or.inr g7)) rfl (fun x e => f11_cl e) hf (fun v8 h hf => ?_)
      refine em_if_eq (q_cod qk107 rfl) (by decide) hf (fun c15 hf => ?_) (fun c15 hf => ?_)
      · exact (f107_149_ok hf hK)
      · refine ev_aload_n (q_cod qk107 rfl) (by decide) rfl ?_
        refine ev_iload (q_cod qk107 rfl) (by decide) rfl ?_
        refine ev_iload (q_cod qk107 rfl) (by decide) rfl ?_
        refine ev_iload (q_cod qk107 rfl) (by decide) rfl ?_
        obtain ⟨g9, hf⟩ := m_aK_some hf
        refine em_call (v := (fun u => some (.int u))) (q_cod qk107 rfl) rfl rfl (q_cokV rfl rfl (Or.inr g9)) rfl (fun x e => f101_cl e) hf (fun v10 h hf => ?_)
        refine em_if_eq (q_cod qk107 rfl) (by decide) hf (fun c14 hf => ?_) (fun c14 hf => ?_)
        · exact (f107_149_ok hf hK)
        · refine ev_aload_n (q_cod qk107 rfl) (by decide) rfl ?_
          refine em_gR (q_cod qk107 rfl) (by decide) (by decide) hf (fun r11 hf => ?_)
          refine ev_aload (q_cod qk107 rfl) (by decide) rfl ?_
          refine ev_iload (q_cod qk107 rfl) (by decide) rfl ?_
          refine ev_iload (q_cod qk107 rfl) (by decide) rfl ?_
          obtain ⟨g12, hf⟩ := m_aK_some hf
          refine em_call (v := (fun _ => none)) (q_cod qk107 rfl) rfl rfl (q_cokV rfl rfl (Or.inr g12)) rfl (fun x e => f5_cl e) hf (fun _ h hf => ?_)
          refine ev_goto (q_cod qk107 rfl) (by decide) ?_
          exact (f107_162_ok hf hK)
  · obtain ⟨y0, hf0, hx⟩ := m_inr_some hf
    subst hx
    exact ev_weak (q_pk [0, 1, 2, 3, 4, 5, 6, 7, 8] rfl) (f107_168_ok hf0 hK)
def f107_70 (l0 : Nat) (l1 : Nat) (l2 : Nat) (l3 : Int32) (l4 : Int32) (l5 : Int32) (l6 : Int32) (l7 : Int32) (l8 : Int32) (l9 : Nat) (l10 : Int32) : m_M ((Nat × Nat × Nat × Int32 × Int32 × Int32 × Int32 × Int32 × Int32) ⊕ Int32) := m_W (fun s => f107_70b (s.1) (s.2.1) (s.2.2.1) (s.2.2.2.1) (s.2.2.2.2.1) (s.2.2.2.2.2.1) (s.2.2.2.2.2.2.1) (s.2.2.2.2.2.2.2.1) (s.2.2.2.2.2.2.2.2.1) (s.2.2.2.2.2.2.2.2.2.1) (s.2.2.2.2.2.2.2.2.2.2)) 1000000 (l0, l1, l2, l3, l4, l5, l6, l7, l8, l9, l10)
theorem f107_70_ok {l0 : Nat} {l1 : Nat} {l2 : Nat} {l3 : Int32} {l4 : Int32} {l5 : Int32} {l6 : Int32} {l7 : Int32} {l8 : Int32} {l9 : Nat} {l10 : Int32} {h : q_H} {o : q_O} {hz : q_H} {x : ((Nat × Nat × Nat × Int32 × Int32 × Int32 × Int32 × Int32 × Int32) ⊕ Int32) × q_H} (hf : f107_70 l0 l1 l2 l3 l4 l5 l6 l7 l8 l9 l10 h = some x) (hK : (m_yK (fun (s : Nat × Nat × Nat × Int32 × Int32 × Int32 × Int32 × Int32 × Int32) (h : q_H) => q_Ev none 107 30 [(0, .ref (s.1)), (1, .ref (s.2.1)), (2, .ref (s.2.2.1)), (3, .int (s.2.2.2.1)), (4, .int (s.2.2.2.2.1)), (5, .int (s.2.2.2.2.2.1)), (6, .int (s.2.2.2.2.2.2.1)), (7, .int (s.2.2.2.2.2.2.2.1)), (8, .int (s.2.2.2.2.2.2.2.2))] [] h o hz) (q_KI o hz)) x) : q_Ev none 107 70 [(0, .ref l0), (1, .ref l1), (2, .ref l2), (3, .int l3), (4, .int l4), (5, .int l5), (6, .int l6), (7, .int l7), (8, .int l8), (9, .ref l9), (10, .int l10)] [] h o hz :=
  m_W_ok (P := (fun (s : Nat × Nat × Nat × Int32 × Int32 × Int32 × Int32 × Int32 × Int32 × Nat × Int32) (h : q_H) => q_Ev none 107 70 [(0, .ref (s.1)), (1, .ref (s.2.1)), (2, .ref (s.2.2.1)), (3, .int (s.2.2.2.1)), (4, .int (s.2.2.2.2.1)), (5, .int (s.2.2.2.2.2.1)), (6, .int (s.2.2.2.2.2.2.1)), (7, .int (s.2.2.2.2.2.2.2.1)), (8, .int (s.2.2.2.2.2.2.2.2.1)), (9, .ref (s.2.2.2.2.2.2.2.2.2.1)), (10, .int (s.2.2.2.2.2.2.2.2.2.2))] [] h o hz)) (K := (m_yK (fun (s : Nat × Nat × Nat × Int32 × Int32 × Int32 × Int32 × Int32 × Int32) (h : q_H) => q_Ev none 107 30 [(0, .ref (s.1)), (1, .ref (s.2.1)), (2, .ref (s.2.2.1)), (3, .int (s.2.2.2.1)), (4, .int (s.2.2.2.2.1)), (5, .int (s.2.2.2.2.2.1)), (6, .int (s.2.2.2.2.2.2.1)), (7, .int (s.2.2.2.2.2.2.2.1)), (8, .int (s.2.2.2.2.2.2.2.2))] [] h o hz) (q_KI o hz))) (fun s h x h1 h2 => f107_70b_ok h1 h2) _ (l0, l1, l2, l3, l4, l5, l6, l7, l8, l9, l10) _ _ hf hK
def f107_206 (s0 : Int32) : m_M Int32 :=
  m_R s0
theorem f107_206_ok {s0 : Int32} {h : q_H} {o : q_O} {hz : q_H} {x : Int32 × q_H} (hf : f107_206 s0 h = some x) (hK : (q_KI o hz) x) : q_Ev none 107 206 [] [.int s0] h o hz := by
  unfold f107_206 at hf
  obtain rfl := m_R_inv hf
  obtain ⟨rfl, rfl⟩ := (show q_KI o hz (s0, _) from hK)
  exact ev_ret (q_cod qk107 rfl) rfl
def f107_194 (l6 : Int32) (l7 : Int32) : m_M Int32 :=
  if l7 = 0 then (f107_206 l6) else (f107_206 (-6))
theorem f107_194_ok {l6 : Int32} {l7 : Int32} {h : q_H} {o : q_O} {hz : q_H} {x : Int32 × q_H} (hf : f107_194 l6 l7 h = some x) (hK : (q_KI o hz) x) : q_Ev none 107 194 [(6, .int l6), (7, .int l7)] [] h o hz := by
  unfold f107_194 at hf
  refine ev_iload (q_cod qk107 rfl) (by decide) rfl ?_
  refine em_if_eq (q_cod qk107 rfl) (by decide) hf (fun c1 hf => ?_) (fun c1 hf => ?_)
  · refine ev_iload (q_cod qk107 rfl) (by decide) rfl ?_
    exact ev_weak (q_pk [] rfl) (f107_206_ok hf hK)
  · refine ev_bi (v := (-6)) (q_cod qk107 rfl) (by decide) (by decide) ?_
    refine ev_goto (q_cod qk107 rfl) (by decide) ?_
    exact ev_weak (q_pk [] rfl) (f107_206_ok hf hK)
def f107_30b (l0 : Nat) (l1 : Nat) (l2 : Nat) (l3 : Int32) (l4 : Int32) (l5 : Int32) (l6 : Int32) (l7 : Int32) (l8 : Int32) : m_M ((Nat × Nat × Nat × Int32 × Int32 × Int32 × Int32 × Int32 × Int32) ⊕ Int32) :=
  m_B (m_gI 7 l1 11) (fun v1 => if l8 < v1 then (m_B (m_aK l1 7) (fun _ => m_B (f79 l1 l8) (fun v3 => if v3 = 0 then (f107_188 l0 l1 l2 l3 l4 l5 l6 l7 l8) else (m_B (m_gR 7 l1 9) (fun r4 => m_B (m_lR r4 l8) (fun r5 => m_B (m_gR 8 l0 0) (fun r6 => m_B (m_aK r6 0) (fun _ => m_B (f1 r6) (fun _ => f107_70 l0 l1 l2 l3 l4 l5 l6 l7 l8 r5 0))))))))) else (m_B (f107_194 l6 l7) (fun r => m_R (.inr r))))
theorem f107_30b_ok {l0 : Nat} {l1 : Nat} {l2 : Nat} {l3 : Int32} {l4 : Int32} {l5 : Int32} {l6 : Int32} {l7 : Int32} {l8 : Int32} {h : q_H} {o : q_O} {hz : q_H} {x : ((Nat × Nat × Nat × Int32 × Int32 × Int32 × Int32 × Int32 × Int32) ⊕ Int32) × q_H} (hf : f107_30b l0 l1 l2 l3 l4 l5 l6 l7 l8 h = some x) (hK : (m_yK (fun (s : Nat × Nat × Nat × Int32 × Int32 × Int32 × Int32 × Int32 × Int32) (h : q_H) => q_Ev none 107 30 [(0, .ref (s.1)), (1, .ref (s.2.1)), (2, .ref (s.2.2.1)), (3, .int (s.2.2.2.1)), (4, .int (s.2.2.2.2.1)), (5, .int (s.2.2.2.2.2.1)), (6, .int (s.2.2.2.2.2.2.1)), (7, .int (s.2.2.2.2.2.2.2.1)), (8, .int (s.2.2.2.2.2.2.2.2))] [] h o hz) (q_KI o hz)) x) : q_Ev none 107 30 [(0, .ref l0), (1, .ref l1), (2, .ref l2), (3, .int l3), (4, .int l4), (5, .int l5), (6, .int l6), (7, .int l7), (8, .int l8)] [] h o hz := by
  unfold f107_30b at hf
  refine ev_iload (q_cod qk107 rfl) (by decide) rfl ?_
  refine ev_aload_n (q_cod qk107 rfl) (by decide) rfl ?_
  refine em_gI (q_cod qk107 rfl) (by decide) (by decide) hf (fun v1 hf => ?_)
  refine em_ic_ge (q_cod qk107 rfl) (by decide) hf (fun c10 hf => ?_) (fun c10 hf => ?_)
  · refine ev_aload_n (q_cod qk107 rfl) (by decide) rfl ?_
    refine ev_iload (q_cod qk107 rfl) (by decide) rfl ?_
    obtain ⟨g2, hf⟩ := m_aK_some hf
    refine em_call (v := (fun u => some (.int u))) (q_cod qk107 rfl) rfl rfl (q_cokV rfl rfl (Or.inr g2)) rfl (fun x e => f79_cl e) hf (fun v3 h hf => ?_)
    refine em_if_ne (q_cod qk107 rfl) (by decide) hf (fun c9 hf => ?_) (fun c9 hf => ?_)
    · refine ev_goto (q_cod qk107 rfl) (by decide) ?_
      exact (f107_188_ok hf hK)
    · refine ev_aload_n (q_cod qk107 rfl) (by decide) rfl ?_
      refine em_gR (q_cod qk107 rfl) (by decide) (by decide) hf (fun r4 hf => ?_)
      refine ev_iload (q_cod qk107 rfl) (by decide) rfl ?_
      refine em_lR (q_cod qk107 rfl) (by decide) hf (fun r5 hf => ?_)
      refine ev_as2 (L' := [(0, .ref l0), (1, .ref l1), (2, .ref l2), (3, .int l3), (4, .int l4), (5, .int l5), (6, .int l6), (7, .int l7), (8, .int l8), (9, .ref r5)]) (q_cod qk107 rfl) (by decide) rfl ?_
      refine ev_aload_n (q_cod qk107 rfl) (by decide) rfl ?_
      refine em_gR (q_cod qk107 rfl) (by decide) (by decide) hf (fun r6 hf => ?_)
      obtain ⟨g7, hf⟩ := m_aK_some hf
      refine em_call (v := (fun _ => none)) (q_cod qk107 rfl) rfl rfl (q_cokV rfl rfl (Or.inr g7)) rfl (fun x e => f1_cl e) hf (fun _ h hf => ?_)
      refine ev_ic (v := 0) (q_cod qk107 rfl) (by decide) (by decide) ?_
      refine ev_is2 (L' := [(0, .ref l0), (1, .ref l1), (2, .ref l2), (3, .int l3), (4, .int l4), (5, .int l5), (6, .int l6), (7, .int l7), (8, .int l8), (9, .ref r5), (10, .int 0)]) (q_cod qk107 rfl) (by decide) rfl ?_
      exact (f107_70_ok hf hK)
  · obtain ⟨y0, hf0, hx⟩ := m_inr_some hf
    subst hx
    exact ev_weak (q_pk [6, 7] rfl) (f107_194_ok hf0 hK)
def f107_30 (l0 : Nat) (l1 : Nat) (l2 : Nat) (l3 : Int32) (l4 : Int32) (l5 : Int32) (l6 : Int32) (l7 : Int32) (l8 : Int32) : m_M Int32 := m_W (fun s => f107_30b (s.1) (s.2.1) (s.2.2.1) (s.2.2.2.1) (s.2.2.2.2.1) (s.2.2.2.2.2.1) (s.2.2.2.2.2.2.1) (s.2.2.2.2.2.2.2.1) (s.2.2.2.2.2.2.2.2)) 1000000 (l0, l1, l2, l3, l4, l5, l6, l7, l8)
theorem f107_30_ok {l0 : Nat} {l1 : Nat} {l2 : Nat} {l3 : Int32} {l4 : Int32} {l5 : Int32} {l6 : Int32} {l7 : Int32} {l8 : Int32} {h : q_H} {o : q_O} {hz : q_H} {x : Int32 × q_H} (hf : f107_30 l0 l1 l2 l3 l4 l5 l6 l7 l8 h = some x) (hK : (q_KI o hz) x) : q_Ev none 107 30 [(0, .ref l0), (1, .ref l1), (2, .ref l2), (3, .int l3), (4, .int l4), (5, .int l5), (6, .int l6), (7, .int l7), (8, .int l8)] [] h o hz :=
  m_W_ok (P := (fun (s : Nat × Nat × Nat × Int32 × Int32 × Int32 × Int32 × Int32 × Int32) (h : q_H) => q_Ev none 107 30 [(0, .ref (s.1)), (1, .ref (s.2.1)), (2, .ref (s.2.2.1)), (3, .int (s.2.2.2.1)), (4, .int (s.2.2.2.2.1)), (5, .int (s.2.2.2.2.2.1)), (6, .int (s.2.2.2.2.2.2.1)), (7, .int (s.2.2.2.2.2.2.2.1)), (8, .int (s.2.2.2.2.2.2.2.2))] [] h o hz)) (K := (q_KI o hz)) (fun s h x h1 h2 => f107_30b_ok h1 h2) _ (l0, l1, l2, l3, l4, l5, l6, l7, l8) _ _ hf hK
def f107 (l0 : Nat) (l1 : Nat) (l2 : Nat) (l3 : Int32) (l4 : Int32) (l5 : Int32) : m_M Int32 :=
  m_B (m_aK l1 7) (fun _ => m_B (f87 l1 l3 l5) (fun v2 => if v2 = 0 then (m_B (m_aK l2 7) (fun _ => m_B (f73 l2 l3 l4 l5) (fun _ => f107_30 l0 l1 l2 l3 l4 l5 0 0 0))) else (m_R (-1))))
theorem f107_ok {l0 : Nat} {l1 : Nat} {l2 : Nat} {l3 : Int32} {l4 : Int32} {l5 : Int32} {h : q_H} {o : q_O} {hz : q_H} {x : Int32 × q_H} (hf : f107 l0 l1 l2 l3 l4 l5 h = some x) (hK : (q_KI o hz) x) : q_Ev none 107 0 [(0, .ref l0), (1, .ref l1), (2, .ref l2), (3, .int l3), (4, .int l4), (5, .int l5)] [] h o hz := by
  unfold f107 at hf
  refine ev_aload_n (q_cod qk107 rfl) (by decide) rfl ?_
  refine ev_iload_n (q_cod qk107 rfl) (by decide) rfl ?_
  refine ev_iload (q_cod qk107 rfl) (by decide) rfl ?_
  obtain ⟨g1, hf⟩ := m_aK_some hf
  refine em_call (v := (fun u => some (.int u))) (q_cod qk107 rfl) rfl rfl (q_cokV rfl rfl (Or.inr g1)) rfl (fun x e => f87_cl e) hf (fun v2 h hf => ?_)
  refine em_if_eq (q_cod qk107 rfl) (by decide) hf (fun c5 hf => ?_) (fun c5 hf => ?_)
  · refine ev_aload_n (q_cod qk107 rfl) (by decide) rfl ?_
    refine ev_iload_n (q_cod qk107 rfl) (by decide) rfl ?_
    refine ev_iload (q_cod qk107 rfl) (by decide) rfl ?_
    refine ev_iload (q_cod qk107 rfl) (by decide) rfl ?_
    obtain ⟨g3, hf⟩ := m_aK_some hf
    refine em_call (v := (fun _ => none)) (q_cod qk107 rfl) rfl rfl (q_cokV rfl rfl (Or.inr g3)) rfl (fun x e => f73_cl e) hf (fun _ h hf => ?_)
    refine ev_ic (v := 0) (q_cod qk107 rfl) (by decide) (by decide) ?_
    refine ev_is2 (L' := [(0, .ref l0), (1, .ref l1), (2, .ref l2), (3, .int l3), (4, .int l4), (5, .int l5), (6, .int 0)]) (q_cod qk107 rfl) (by decide) rfl ?_
    refine ev_ic (v := 0) (q_cod qk107 rfl) (by decide) (by decide) ?_
    refine ev_is2 (L' := [(0, .ref l0), (1, .ref l1), (2, .ref l2), (3, .int l3), (4, .int l4), (5, .int l5), (6, .int 0), (7, .int 0)]) (q_cod qk107 rfl) (by decide) rfl ?_
    refine ev_ic (v := 0) (q_cod qk107 rfl) (by decide) (by decide) ?_
    refine ev_is2 (L' := [(0, .ref l0), (1, .ref l1), (2, .ref l2), (3, .int l3), (4, .int l4), (5, .int l5), (6, .int 0), (7, .int 0), (8, .int 0)]) (q_cod qk107 rfl) (by decide) rfl ?_
    exact (f107_30_ok hf hK)
  · refine ev_ic (v := (-1)) (q_cod qk107 rfl) (by decide) (by decide) ?_
    obtain rfl := m_R_inv hf
    obtain ⟨rfl, rfl⟩ := (show q_KI o hz ((-1), _) from hK)
    exact ev_ret (q_cod qk107 rfl) rfl
theorem f107_cl {l0 : Nat} {l1 : Nat} {l2 : Nat} {l3 : Int32} {l4 : Int32} {l5 : Int32} {h : q_H} {x : Int32 × q_H} (hf : f107 l0 l1 l2 l3 l4 l5 h = some x) : q_Cl 107 [.ref l0, .ref l1, .ref l2, .int l3, .int l4, .int l5] h (.inl (some (.int x.1))) x.2 := q_Cl.of rfl (q_LvS rfl rfl) (f107_ok hf ⟨rfl, rfl⟩)
/-! SmithyBench$Renamer.isCaptured(LSmithyBench$Body;III)Z -/
theorem qk109 : q_cs.getD 109 [] = qc_109 := rfl
def f109_63 (s0 : Int32) : m_M Int32 :=
  m_B (m_G (s0 = 0 ∨ s0 = 1)) (fun _ => m_R s0)
theorem f109_63_ok {s0 : Int32} {h : q_H} {o : q_O} {hz : q_H} {x : Int32 × q_H} (hf : f109_63 s0 h = some x) (hK : (q_KI o hz) x) : q_Ev none 109 63 [] [.int s0] h o hz := by
  unfold f109_63 at hf
  obtain ⟨g1, hf⟩ := m_G_some hf
  obtain rfl := m_R_inv hf
  obtain ⟨rfl, rfl⟩ := (show q_KI o hz (s0, _) from hK)
  exact ev_ret (q_cod qk109 rfl) (q_retZ g1)
def f109_62  : m_M Int32 :=
  f109_63 0
theorem f109_62_ok  {h : q_H} {o : q_O} {hz : q_H} {x : Int32 × q_H} (hf : f109_62 h = some x) (hK : (q_KI o hz) x) : q_Ev none 109 62 [] [] h o hz := by
  unfold f109_62 at hf
  refine ev_ic (v := 0) (q_cod qk109 rfl) (by decide) (by decide) ?_
  exact (f109_63_ok hf hK)
def f109_34 (s0 : Int32) : m_M Int32 :=
  m_B (m_G (s0 = 0 ∨ s0 = 1)) (fun _ => m_R s0)
theorem f109_34_ok {s0 : Int32} {h : q_H} {o : q_O} {hz : q_H} {x : Int32 × q_H} (hf : f109_34 s0 h = some x) (hK : (q_KI o hz) x) : q_Ev none 109 34 [] [.int s0] h o hz := by
  unfold f109_34 at hf
  obtain ⟨g1, hf⟩ := m_G_some hf
  obtain rfl := m_R_inv hf
  obtain ⟨rfl, rfl⟩ := (show q_KI o hz (s0, _) from hK)
  exact ev_ret (q_cod qk109 rfl) (q_retZ g1)
def f109_33  : m_M Int32 :=
  f109_34 0
theorem f109_33_ok  {h : q_H} {o : q_O} {hz : q_H} {x : Int32 × q_H} (hf : f109_33 h = some x) (hK : (q_KI o hz) x) : q_Ev none 109 33 [] [] h o hz := by
  unfold f109_33 at hf
  refine ev_ic (v := 0) (q_cod qk109 rfl) (by decide) (by decide) ?_
  exact (f109_34_ok hf hK)
def f109 (l0 : Nat) (l1 : Int32) (l2 : Int32) (l3 : Int32) : m_M Int32 :=
  m_B (m_aK l0 0) (fun _ => m_B (f15 l0 l1 l2) (fun v2 => if v2 = 0 then (if l2 < 0 then (f109_62) else (m_B (m_aK l0 0) (fun _ => m_B (f14 l0 l1 l2) (fun v4 => if v4 = 0 then (f109_62) else (m_B (m_gR 0 l0 1) (fun r5 => m_B (m_lI r5 l1) (fun v6 => if v6 = l3 then (f109_63 1) else (f109_62)))))))) else (m_B (m_aK l0 0) (fun _ => m_B (f10 l0 l1 l3) (fun v11 => if v11 = (-1) then (f109_33) else (if l2 < v11 then (f109_34 1) else (f109_33)))))))
theorem f109_ok {l0 : Nat} {l1 : Int32} {l2 : Int32} {l3 : Int32} {h : q_H} {o : q_O} {hz : q_H} {x : Int32 × q_H} (hf : f109 l0 l1 l2 l3 h = some x) (hK : (q_KI o hz) x) : q_Ev none 109 0 [(0, .ref l0), (1, .int l1), (2, .int l2), (3, .int l3)] [] h o hz := by
  unfold f109 at hf
  refine ev_aload_n (q_cod qk109 rfl) (by decide) rfl ?_
  refine ev_iload_n (q_cod qk109 rfl) (by decide) rfl ?_
  refine ev_iload_n (q_cod qk109 rfl) (by decide) rfl ?_
  obtain ⟨g1, hf⟩ := m_aK_some hf
  refine em_call (v := (fun u => some (.int u))) (q_cod qk109 rfl) rfl rfl (q_cokV rfl rfl (Or.inr g1)) rfl (fun x e => f15_cl e) hf (fun v2 h hf => ?_)
  refine em_if_eq (q_cod qk109 rfl) (by decide) hf (fun c14 hf => ?_) (fun c14 hf => ?_)
  · refine ev_iload_n (q_cod qk109 rfl) (by decide) rfl ?_
    refine em_if_lt (q_cod qk109 rfl) (by decide) hf (fun c9 hf => ?_) (fun c9 hf => ?_)
    · exact ev_weak (q_pk [] rfl) (f109_62_ok hf hK)
    · refine ev_aload_n (q_cod qk109 rfl) (by decide) rfl ?_
      refine ev_iload_n (q_cod qk109 rfl) (by decide) rfl ?_
      refine ev_iload_n (q_cod qk109 rfl) (by decide) rfl ?_
      obtain ⟨g3, hf⟩ := m_aK_some hf
      refine em_call (v := (fun u => some (.int u))) (q_cod qk109 rfl) rfl rfl (q_cokV rfl rfl (Or.inr g3)) rfl (fun x e => f14_cl e) hf (fun v4 h hf => ?_)
      refine em_if_eq (q_cod qk109 rfl) (by decide) hf (fun c8 hf => ?_) (fun c8 hf => ?_)
      · exact ev_weak (q_pk [] rfl) (f109_62_ok hf hK)
      · refine ev_aload_n (q_cod qk109 rfl) (by decide) rfl ?_
        refine em_gR (q_cod qk109 rfl) (by decide) (by decide) hf (fun r5 hf => ?_)
        refine ev_iload_n (q_cod qk109 rfl) (by decide) rfl ?_
        refine em_lI (q_cod qk109 rfl) (by decide) hf (fun v6 hf => ?_)
        refine ev_iload_n (q_cod qk109 rfl) (by decide) rfl ?_
        refine em_ic_ne (q_cod qk109 rfl) (by decide) hf (fun c7 hf => ?_) (fun c7 hf => ?_)
        · refine ev_ic (v := 1) (q_cod qk109 rfl) (by decide) (by decide) ?_
          refine ev_goto (q_cod qk109 rfl) (by decide) ?_
          exact ev_weak (q_pk [] rfl) (f109_63_ok hf hK)
        · exact ev_weak (q_pk [] rfl) (f109_62_ok hf hK)
  · refine ev_aload_n (q_cod qk109 rfl) (by decide) rfl ?_
    refine ev_iload_n (q_cod qk109 rfl) (by decide) rfl ?_
    refine ev_iload_n (q_cod qk109 rfl) (by decide) rfl ?_
    obtain ⟨g10, hf⟩ := m_aK_some hf
    refine em_call (v := (fun u => some (.int u))) (q_cod qk109 rfl) rfl rfl (q_cokV rfl rfl (Or.inr g10)) rfl (fun x e => f10_cl e) hf (fun v11 h hf => ?_)
    refine ev_is2 (L' := [(0, .ref l0), (1, .int l1), (2, .int l2), (3, .int l3), (4, .int v11)]) (q_cod qk109 rfl) (by decide) rfl ?_
    refine ev_iload (q_cod qk109 rfl) (by decide) rfl ?_
    refine ev_ic (v := (-1)) (q_cod qk109 rfl) (by decide) (by decide) ?_
    refine em_ic_eq (q_cod qk109 rfl) (by decide) hf (fun c13 hf => ?_) (fun c13 hf => ?_)
    · exact ev_weak (q_pk [] rfl) (f109_33_ok hf hK)
    · refine ev_iload (q_cod qk109 rfl) (by decide) rfl ?_
      refine ev_iload_n (q_cod qk109 rfl) (by decide) rfl ?_
      refine em_ic_le (q_cod qk109 rfl) (by decide) hf (fun c12 hf => ?_) (fun c12 hf => ?_)
      · refine ev_ic (v := 1) (q_cod qk109 rfl) (by decide) (by decide) ?_
        refine ev_goto (q_cod qk109 rfl) (by decide) ?_
        exact ev_weak (q_pk [] rfl) (f109_34_ok hf hK)
      · exact ev_weak (q_pk [] rfl) (f109_33_ok hf hK)
theorem f109_cl {l0 : Nat} {l1 : Int32} {l2 : Int32} {l3 : Int32} {h : q_H} {x : Int32 × q_H} (hf : f109 l0 l1 l2 l3 h = some x) : q_Cl 109 [.ref l0, .int l1, .int l2, .int l3] h (.inl (some (.int x.1))) x.2 := q_Cl.of rfl (q_LvS rfl rfl) (f109_ok hf ⟨rfl, rfl⟩)
/-! SmithyBench$Renamer.nameLocal(LSmithyBench$Program;LSmithyBench$Program;III)I -/
theorem qk108 : q_cs.getD 108 [] = qc_108 := rfl
def f108_256 (l0 : Nat) (l2 : Nat) (l3 : Int32) (l4 : Int32) (l5 : Int32) (l6 : Nat) (l7 : Int32) (l8 : Int32) (l9 : Int32) (l10 : Int32) : m_M ((Nat × Nat × Int32 × Int32 × Int32 × Nat × Int32 × Int32 × Int32 × Int32) ⊕ Int32) :=
  m_R (.inl (l0, l2, l3, l4, l5, l6, l7, l8, l9, (l10 + 1)))
theorem f108_256_ok {l0 : Nat} {l2 : Nat} {l3 : Int32} {l4 : Int32} {l5 : Int32} {l6 : Nat} {l7 : Int32} {l8 : Int32} {l9 : Int32} {l10 : Int32} {h : q_H} {o : q_O} {hz : q_H} {x : ((Nat × Nat × Int32 × Int32 × Int32 × Nat × Int32 × Int32 × Int32 × Int32) ⊕ Int32) × q_H} (hf : f108_256 l0 l2 l3 l4 l5 l6 l7 l8 l9 l10 h = some x) (hK : (m_yK (fun (s : Nat × Nat × Int32 × Int32 × Int32 × Nat × Int32 × Int32 × Int32 × Int32) (h : q_H) => q_Ev none 108 101 [(0, .ref (s.1)), (2, .ref (s.2.1)), (3, .int (s.2.2.1)), (4, .int (s.2.2.2.1)), (5, .int (s.2.2.2.2.1)), (6, .ref (s.2.2.2.2.2.1)), (7, .int (s.2.2.2.2.2.2.1)), (8, .int (s.2.2.2.2.2.2.2.1)), (9, .int (s.2.2.2.2.2.2.2.2.1)), (10, .int (s.2.2.2.2.2.2.2.2.2))] [] h o hz) (q_KI o hz)) x) : q_Ev none 108 256 [(0, .ref l0), (2, .ref l2), (3, .int l3), (4, .int l4), (5, .int l5), (6, .ref l6), (7, .int l7), (8, .int l8), (9, .int l9), (10, .int l10)] [] h o hz := by
  unfold f108_256 at hf
  refine ev_inc (v := l10 + 1) (L' := [(0, .ref l0), (2, .ref l2), (3, .int l3), (4, .int l4), (5, .int l5), (6, .ref l6), (7, .int l7), (8, .int l8), (9, .int l9), (10, .int (l10 + 1))]) (q_cod qk108 rfl) (by decide) rfl rfl rfl ?_
  refine ev_goto (q_cod qk108 rfl) (by decide) ?_
  obtain rfl := m_R_inv hf
  exact (show q_Ev none 108 101 [(0, .ref l0), (2, .ref l2), (3, .int l3), (4, .int l4), (5, .int l5), (6, .ref l6), (7, .int l7), (8, .int l8), (9, .int l9), (10, .int (l10 + 1))] [] _ o hz from hK)
def f108_185 (l0 : Nat) (l2 : Nat) (l3 : Int32) (l4 : Int32) (l5 : Int32) (l6 : Nat) (l7 : Int32) (l8 : Int32) (l9 : Int32) (l10 : Int32) : m_M ((Nat × Nat × Int32 × Int32 × Int32 × Nat × Int32 × Int32 × Int32 × Int32) ⊕ Int32) :=
  m_B (m_gR 8 l0 0) (fun r1 => m_B (m_aK r1 0) (fun _ => m_B (f4 r1 l6 l10 l5) (fun _ => f108_256 l0 l2 l3 l4 l5 l6 l7 l8 l9 l10)))
theorem f108_185_ok {l0 : Nat} {l2 : Nat} {l3 : Int32} {l4 : Int32} {l5 : Int32} {l6 : Nat} {l7 : Int32} {l8 : Int32} {l9 : Int32} {l10 : Int32} {h : q_H} {o : q_O} {hz : q_H} {x : ((Nat × Nat × Int32 × Int32 × Int32 × Nat × Int32 × Int32 × Int32 × Int32) ⊕ Int32) × q_H} (hf : f108_185 l0 l2 l3 l4 l5 l6 l7 l8 l9 l10 h = some x) (hK : (m_yK (fun (s : Nat × Nat × Int32 × Int32 × Int32 × Nat × Int32 × Int32 × Int32 × Int32) (h : q_H) => q_Ev none 108 101 [(0, .ref (s.1)), (2, .ref (s.2.1)), (3, .int (s.2.2.1)), (4, .int (s.2.2.2.1)), (5, .int (s.2.2.2.2.1)), (6, .ref (s.2.2.2.2.2.1)), (7, .int (s.2.2.2.2.2.2.1)), (8, .int (s.2.2.2.2.2.2.2.1)), (9, .int (s.2.2.2.2.2.2.2.2.1)), (10, .int (s.2.2.2.2.2.2.2.2.2))] [] h o hz) (q_KI o hz)) x) : q_Ev none 108 185 [(0, .ref l0), (2, .ref l2), (3, .int l3), (4, .int l4), (5, .int l5), (6, .ref l6), (7, .int l7), (8, .int l8), (9, .int l9), (10, .int l10)] [] h o hz := by
  unfold f108_185 at hf
  refine ev_aload_n (q_cod qk108 rfl) (by decide) rfl ?_
  refine em_gR (q_cod qk108 rfl) (by decide) (by decide) hf (fun r1 hf => ?_)
  refine ev_aload (q_cod qk108 rfl) (by decide) rfl ?_
  refine ev_iload (q_cod qk108 rfl) (by decide) rfl ?_
  refine ev_iload (q_cod qk108 rfl) (by decide) rfl ?_
  obtain ⟨g2, hf⟩ := m_aK_some hf
  refine em_call (v := (fun _ => none)) (q_cod qk108 rfl) rfl rfl (q_cokV rfl rfl (Or.inr g2)) rfl (fun x e => f4_cl e) hf (fun _ h hf => ?_)
  refine ev_goto (q_cod qk108 rfl) (by decide) ?_
  exact (f108_256_ok hf hK)
def f108_245 (l0 : Nat) (l2 : Nat) (l3 : Int32) (l4 : Int32) (l5 : Int32) (l6 : Nat) (l7 : Int32) (l8 : Int32) (l9 : Int32) (l10 : Int32) : m_M ((Nat × Nat × Int32 × Int32 × Int32 × Nat × Int32 × Int32 × Int32 × Int32) ⊕ Int32) :=
  m_B (m_gR 8 l0 0) (fun r1 => m_B (m_aK r1 0) (fun _ => m_B (f3 r1 l6 l10) (fun _ => f108_256 l0 l2 l3 l4 l5 l6 l7 l8 l9 l10)))
theorem f108_245_ok {l0 : Nat} {l2 : Nat} {l3 : Int32} {l4 : Int32} {l5 : Int32} {l6 : Nat} {l7 : Int32} {l8 : Int32} {l9 : Int32} {l10 : Int32} {h : q_H} {o : q_O} {hz : q_H} {x : ((Nat × Nat × Int32 × Int32 × Int32 × Nat × Int32 × Int32 × Int32 × Int32) ⊕ Int32) × q_H} (hf : f108_245 l0 l2 l3 l4 l5 l6 l7 l8 l9 l10 h = some x) (hK : (m_yK (fun (s : Nat × Nat × Int32 × Int32 × Int32 × Nat × Int32 × Int32 × Int32 × Int32) (h : q_H) => q_Ev none 108 101 [(0, .ref (s.1)), (2, .ref (s.2.1)), (3, .int (s.2.2.1)), (4, .int (s.2.2.2.1)), (5, .int (s.2.2.2.2.1)), (6, .ref (s.2.2.2.2.2.1)), (7, .int (s.2.2.2.2.2.2.1)), (8, .int (s.2.2.2.2.2.2.2.1)), (9, .int (s.2.2.2.2.2.2.2.2.1)), (10, .int (s.2.2.2.2.2.2.2.2.2))] [] h o hz) (q_KI o hz)) x) : q_Ev none 108 245 [(0, .ref l0), (2, .ref l2), (3, .int l3), (4, .int l4), (5, .int l5), (6, .ref l6), (7, .int l7), (8, .int l8), (9, .int l9), (10, .int l10)] [] h o hz := by
  unfold f108_245 at hf
  refine ev_aload_n (q_cod qk108 rfl) (by decide) rfl ?_
  refine em_gR (q_cod qk108 rfl) (by decide) (by decide) hf (fun r1 hf => ?_)
  refine ev_aload (q_cod qk108 rfl) (by decide) rfl ?_
  refine ev_iload (q_cod qk108 rfl) (by decide) rfl ?_
  obtain ⟨g2, hf⟩ := m_aK_some hf
  refine em_call (v := (fun _ => none)) (q_cod qk108 rfl) rfl rfl (q_cokV rfl rfl (Or.inr g2)) rfl (fun x e => f3_cl e) hf (fun _ h hf => ?_)
  exact (f108_256_ok hf hK)
def f108_173 (l0 : Nat) (l2 : Nat) (l3 : Int32) (l4 : Int32) (l5 : Int32) (l6 : Nat) (l7 : Int32) (l8 : Int32) (l9 : Int32) (l10 : Int32) (l11 : Int32) (l12 : Int32) : m_M ((Nat × Nat × Int32 × Int32 × Int32 × Nat × Int32 × Int32 × Int32 × Int32) ⊕ Int32) :=
  if l10 = l4 then (f108_185 l0 l2 l3 l4 l5 l6 l7 l8 l9 l10) else (if l12 = 0 then (if l11 = 0 then (f108_245 l0 l2 l3 l4 l5 l6 l7 l8 l9 l10) else (m_B (m_aK l6 0) (fun _ => m_B (f13 l6 l10) (fun v2 => if v2 = 0 then (f108_245 l0 l2 l3 l4 l5 l6 l7 l8 l9 l10) else (m_B (m_gR 0 l6 1) (fun r3 => m_B (m_lI r3 l10) (fun v4 => if v4 = l5 then (m_B (m_gR 8 l0 0) (fun r5 => m_B (m_aK r5 0) (fun _ => m_B (f5 r5 l6 l10 l5) (fun _ => f108_256 l0 l2 l3 l4 l5 l6 l7 l8 l9 l10)))) else (f108_245 l0 l2 l3 l4 l5 l6 l7 l8 l9 l10)))))))) else (f108_185 l0 l2 l3 l4 l5 l6 l7 l8 l9 l10))
theorem f108_173_ok {l0 : Nat} {l2 : Nat} {l3 : Int32} {l4 : Int32} {l5 : Int32} {l6 : Nat} {l7 : Int32} {l8 : Int32} {l9 : Int32} {l10 : Int32} {l11 : Int32} {l12 : Int32} {h : q_H} {o : q_O} {hz : q_H} {x : ((Nat × Nat × Int32 × Int32 × Int32 × Nat × Int32 × Int32 × Int32 × Int32) ⊕ Int32) × q_H} (hf : f108_173 l0 l2 l3 l4 l5 l6 l7 l8 l9 l10 l11 l12 h = some x) (hK : (m_yK (fun (s : Nat × Nat × Int32 × Int32 × Int32 × Nat × Int32 × Int32 × Int32 × Int32) (h : q_H) => q_Ev none 108 101 [(0, .ref (s.1)), (2, .ref (s.2.1)), (3, .int (s.2.2.1)), (4, .int (s.2.2.2.1)), (5, .int (s.2.2.2.2.1)), (6, .ref (s.2.2.2.2.2.1)), (7, .int (s.2.2.2.2.2.2.1)), (8, .int (s.2.2.2.2.2.2.2.1)), (9, .int (s.2.2.2.2.2.2.2.2.1)), (10, .int (s.2.2.2.2.2.2.2.2.2))] [] h o hz) (q_KI o hz)) x) : q_Ev none 108 173 [(0, .ref l0), (2, .ref l2), (3, .int l3), (4, .int l4), (5, .int l5), (6, .ref l6), (7, .int l7), (8, .int l8), (9, .int l9), (10, .int l10), (11, .int l11), (12, .int l12)] [] h o hz := by
  unfold f108_173 at hf
  refine ev_iload (q_cod qk108 rfl) (by decide) rfl ?_
  refine ev_iload (q_cod qk108 rfl) (by decide) rfl ?_
  refine em_ic_eq (q_cod qk108 rfl) (by decide) hf (fun c12 hf => ?_) (fun c12 hf => ?_)
  · exact ev_weak (q_pk [0, 1, 2, 3, 4, 5, 6, 7, 8, 9] rfl) (f108_185_ok hf hK)
  · refine ev_iload (q_cod qk108 rfl) (by decide) rfl ?_
    refine em_if_eq (q_cod qk108 rfl) (by decide) hf (fun c11 hf => ?_) (fun c11 hf => ?_)
    · refine ev_iload (q_cod qk108 rfl) (by decide) rfl ?_
      refine em_if_eq (q_cod qk108 rfl) (by decide) hf (fun c10 hf => ?_) (fun c10 hf => ?_)
      · exact ev_weak (q_pk [0, 1, 2, 3, 4, 5, 6, 7, 8, 9] rfl) (f108_245_ok hf hK)
      · refine ev_aload (q_cod qk108 rfl) (by decide) rfl ?_
        refine ev_iload (q_cod qk108 rfl) (by decide) rfl ?_
        obtain ⟨g1, hf⟩ := m_aK_some hf
        refine em_call (v := (fun u => some (.int u))) (q_cod qk108 rfl) rfl rfl (q_cokV rfl rfl (Or.inr g1)) rfl (fun x e => f13_cl e) hf (fun v2 h hf => ?_)
        refine em_if_eq (q_cod qk108 rfl) (by decide) hf (fun c9 hf => ?_) (fun c9 hf => ?_)
        · exact ev_weak (q_pk [0, 1, 2, 3, 4, 5, 6, 7, 8, 9] rfl) (f108_245_ok hf hK)
        · refine ev_aload (q_cod qk108 rfl) (by decide) rfl ?_
          refine em_gR (q_cod qk108 rfl) (by decide) (by decide) hf (fun r3 hf => ?_)
          refine ev_iload (q_cod qk108 rfl) (by decide) rfl ?_
          refine em_lI (q_cod qk108 rfl) (by decide) hf (fun v4 hf => ?_)
          refine ev_iload (q_cod qk108 rfl) (by decide) rfl ?_
          refine em_ic_ne (q_cod qk108 rfl) (by decide) hf (fun c8 hf => ?_) (fun c8 hf => ?_)
          · refine ev_aload_n (q_cod qk108 rfl) (by decide) rfl ?_
            refine em_gR (q_cod qk108 rfl) (by decide) (by decide) hf (fun r5 hf => ?_)
            refine ev_aload (q_cod qk108 rfl) (by decide) rfl ?_
            refine ev_iload (q_cod qk108 rfl) (by decide) rfl ?_
            refine ev_iload (q_cod qk108 rfl) (by decide) rfl ?_
            obtain ⟨g6, hf⟩ := m_aK_some hf
            refine em_call (v := (fun _ => none)) (q_cod qk108 rfl) rfl rfl (q_cokV rfl rfl (Or.inr g6)) rfl (fun x e => f5_cl e) hf (fun _ h hf => ?_)
            refine ev_goto (q_cod qk108 rfl) (by decide) ?_
            exact ev_weak (q_pk [0, 1, 2, 3, 4, 5, 6, 7, 8, 9] rfl) (f108_256_ok hf hK)
          · exact ev_weak (q_pk [0, 1, 2, 3, 4, 5, 6, 7, 8, 9] rfl) (f108_245_ok hf hK)
    · exact ev_weak (q_pk [0, 1, 2, 3, 4, 5, 6, 7, 8, 9] rfl) (f108_185_ok hf hK)
def f108_154 (l0 : Nat) (l2 : Nat) (l3 : Int32) (l4 : Int32) (l5 : Int32) (l6 : Nat) (l7 : Int32) (l8 : Int32) (l9 : Int32) (l10 : Int32) (l11 : Int32) : m_M ((Nat × Nat × Int32 × Int32 × Int32 × Nat × Int32 × Int32 × Int32 × Int32) ⊕ Int32) :=
  m_B (m_aK l6 0) (fun _ => m_B (f15 l6 l10 l4) (fun v2 => if v2 = 0 then (f108_173 l0 l2 l3 l4 l5 l6 l7 l8 l9 l10 l11 v2) else (f108_173 l0 l2 l3 l4 l5 l6 l7 l8 (l9 + 1) l10 l11 v2)))
theorem f108_154_ok {l0 : Nat} {l2 : Nat} {l3 : Int32} {l4 : Int32} {l5 : Int32} {l6 : Nat} {l7 : Int32} {l8 : Int32} {l9 : Int32} {l10 : Int32} {l11 : Int32} {h : q_H} {o : q_O} {hz : q_H} {x : ((Nat × Nat × Int32 × Int32 × Int32 × Nat × Int32 × Int32 × Int32 × Int32) ⊕ Int32) × q_H} (hf : f108_154 l0 l2 l3 l4 l5 l6 l7 l8 l9 l10 l11 h = some x) (hK : (m_yK (fun (s : Nat × Nat × Int32 × Int32 × Int32 × Nat × Int32 × Int32 × Int32 × Int32) (h : q_H) => q_Ev none 108 101 [(0, .ref (s.1)), (2, .ref (s.2.1)), (3, .int (s.2.2.1)), (4, .int (s.2.2.2.1)), (5, .int (s.2.2.2.2.1)), (6, .ref (s.2.2.2.2.2.1)), (7, .int (s.2.2.2.2.2.2.1)), (8, .int (s.2.2.2.2.2.2.2.1)), (9, .int (s.2.2.2.2.2.2.2.2.1)), (10, .int (s.2.2.2.2.2.2.2.2.2))] [] h o hz) (q_KI o hz)) x) : q_Ev none 108 154 [(0, .ref l0), (2, .ref l2), (3, .int l3), (4, .int l4), (5, .int l5), (6, .ref l6), (7, .int l7), (8, .int l8), (9, .int l9), (10, .int l10), (11, .int l11)] [] h o hz := by
  unfold f108_154 at hf
  refine ev_aload (q_cod qk108 rfl) (by decide) rfl ?_
  refine ev_iload (q_cod qk108 rfl) (by decide) rfl ?_
  refine ev_iload (q_cod qk108 rfl) (by decide) rfl ?_
  obtain ⟨g1, hf⟩ := m_aK_some hf
  refine em_call (v := (fun u => some (.int u))) (q_cod qk108 rfl) rfl rfl (q_cokV rfl rfl (Or.inr g1)) rfl (fun x e => f15_cl e) hf (fun v2 h hf => ?_)
  refine ev_is2 (L' := [(0, .ref l0), (2, .ref l2), (3, .int l3), (4, .int l4), (5, .int l5), (6, .ref l6), (7, .int l7), (8, .int l8), (9, .int l9), (10, .int l10), (11, .int l11), (12, .int v2)]) (q_cod qk108 rfl) (by decide) rfl ?_
  refine ev_iload (q_cod qk108 rfl) (by decide) rfl ?_
  refine em_if_eq (q_cod qk108 rfl) (by decide) hf (fun c3 hf => ?_) (fun c3 hf => ?_)
  · exact (f108_173_ok hf hK)
  · refine ev_inc (v := l9 + 1) (L' := [(0, .ref l0), (2, .ref l2), (3, .int l3), (4, .int l4), (5, .int l5), (6, .ref l6), (7, .int l7), (8, .int l8), (9, .int (l9 + 1)), (10, .int l10), (11, .int l11), (12, .int v2)]) (q_cod qk108 rfl) (by decide) rfl rfl rfl ?_
    exact (f108_173_ok hf hK)
def f108_151  : m_M Int32 :=
  m_R (-2)
theorem f108_151_ok  {h : q_H} {o : q_O} {hz : q_H} {x : Int32 × q_H} (hf : f108_151 h = some x) (hK : (q_KI o hz) x) : q_Ev none 108 151 [] [] h o hz := by
  unfold f108_151 at hf
  refine ev_bi (v := (-2)) (q_cod qk108 rfl) (by decide) (by decide) ?_
  obtain rfl := m_R_inv hf
  obtain ⟨rfl, rfl⟩ := (show q_KI o hz ((-2), _) from hK)
  exact ev_ret (q_cod qk108 rfl) rfl
def f108_130 (l0 : Nat) (l2 : Nat) (l3 : Int32) (l4 : Int32) (l5 : Int32) (l6 : Nat) (l7 : Int32) (l8 : Int32) (l9 : Int32) (l10 : Int32) (s0 : Int32) : m_M ((Nat × Nat × Int32 × Int32 × Int32 × Nat × Int32 × Int32 × Int32 × Int32) ⊕ Int32) :=
  if s0 = 0 then (f108_154 l0 l2 l3 l4 l5 l6 l7 l8 l9 l10 s0) else (m_B (f109 l6 l10 l4 l5) (fun v1 => if v1 = 0 then (f108_154 l0 l2 l3 l4 l5 l6 l7 l8 l9 l10 s0) else (m_B (f108_151) (fun r => m_R (.inr r)))))
theorem f108_130_ok {l0 : Nat} {l2 : Nat} {l3 : Int32} {l4 : Int32} {l5 : Int32} {l6 : Nat} {l7 : Int32} {l8 : Int32} {l9 : Int32} {l10 : Int32} {s0 : Int32} {h : q_H} {o : q_O} {hz : q_H} {x : ((Nat × Nat × Int32 × Int32 × Int32 × Nat × Int32 × Int32 × Int32 × Int32) ⊕ Int32) × q_H} (hf : f108_130 l0 l2 l3 l4 l5 l6 l7 l8 l9 l10 s0 h = some x) (hK : (m_yK (fun (s : Nat × Nat × Int32 × Int32 × Int32 × Nat × Int32 × Int32 × Int32 × Int32) (h : q_H) => q_Ev none 108 101 [(0, .ref (s.1)), (2, .ref (s.2.1)), (3, .int (s.2.2.1)), (4, .int (s.2.2.2.1)), (5, .int (s.2.2.2.2.1)), (6, .ref (s.2.2.2.2.2.1)), (7, .int (s.2.2.2.2.2.2.1)), (8, .int (s.2.2.2.2.2.2.2.1)), (9, .int (s.2.2.2.2.2.2.2.2.1)), (10, .int (s.2.2.2.2.2.2.2.2.2))] [] h o hz) (q_KI o hz)) x) : q_Ev none 108 130 [(0, .ref l0), (2, .ref l2), (3, .int l3), (4, .int l4), (5, .int l5), (6, .ref l6), (7, .int l7), (8, .int l8), (9, .int l9), (10, .int l10)] [.int s0] h o hz := by
  unfold f108_130 at hf
  refine ev_is2 (L' := [(0, .ref l0), (2, .ref l2), (3, .int l3), (4, .int l4), (5, .int l5), (6, .ref l6), (7, .int l7), (8, .int l8), (9, .int l9), (10, .int l10), (11, .int s0)]) (q_cod qk108 rfl) (by decide) rfl ?_
  refine ev_iload (q_cod qk108 rfl) (by decide) rfl ?_
  refine em_if_eq (q_cod qk108 rfl) (by decide) hf (fun c3 hf => ?_) (fun c3 hf => ?_)
  · exact (f108_154_ok hf hK)
  · refine ev_aload (q_cod qk108 rfl) (by decide) rfl ?_
    refine ev_iload (q_cod qk108 rfl) (by decide) rfl ?_
    refine ev_iload (q_cod qk108 rfl) (by decide) rfl ?_
    refine ev_iload (q_cod qk108 rfl) (by decide) rfl ?_
    refine em_call (v := (fun u => some (.int u))) (q_cod qk108 rfl) rfl rfl (q_cokS rfl rfl) rfl (fun x e => f109_cl e) hf (fun v1 h hf => ?_)
    refine em_if_eq (q_cod qk108 rfl) (by decide) hf (fun c2 hf => ?_) (fun c2 hf => ?_)
    · exact (f108_154_ok hf hK)
    · obtain ⟨y0, hf0, hx⟩ := m_inr_some hf
      subst hx
      exact ev_weak (q_pk [] rfl) (f108_151_ok hf0 hK)
def f108_129 (l0 : Nat) (l2 : Nat) (l3 : Int32) (l4 : Int32) (l5 : Int32) (l6 : Nat) (l7 : Int32) (l8 : Int32) (l9 : Int32) (l10 : Int32) : m_M ((Nat × Nat × Int32 × Int32 × Int32 × Nat × Int32 × Int32 × Int32 × Int32) ⊕ Int32) :=
  f108_130 l0 l2 l3 l4 l5 l6 l7 l8 l9 l10 0
theorem f108_129_ok {l0 : Nat} {l2 : Nat} {l3 : Int32} {l4 : Int32} {l5 : Int32} {l6 : Nat} {l7 : Int32} {l8 : Int32} {l9 : Int32} {l10 : Int32} {h : q_H} {o : q_O} {hz : q_H} {x : ((Nat × Nat × Int32 × Int32 × Int32 × Nat × Int32 × Int32 × Int32 × Int32) ⊕ Int32) × q_H} (hf : f108_129 l0 l2 l3 l4 l5 l6 l7 l8 l9 l10 h = some x) (hK : (m_yK (fun (s : Nat × Nat × Int32 × Int32 × Int32 × Nat × Int32 × Int32 × Int32 × Int32) (h : q_H) => q_Ev none 108 101 [(0, .ref (s.1)), (2, .ref (s.2.1)), (3, .int (s.2.2.1)), (4, .int (s.2.2.2.1)), (5, .int (s.2.2.2.2.1)), (6, .ref (s.2.2.2.2.2.1)), (7, .int (s.2.2.2.2.2.2.1)), (8, .int (s.2.2.2.2.2.2.2.1)), (9, .int (s.2.2.2.2.2.2.2.2.1)), (10, .int (s.2.2.2.2.2.2.2.2.2))] [] h o hz) (q_KI o hz)) x) : q_Ev none 108 129 [(0, .ref l0), (2, .ref l2), (3, .int l3), (4, .int l4), (5, .int l5), (6, .ref l6), (7, .int l7), (8, .int l8), (9, .int l9), (10, .int l10)] [] h o hz := by
  unfold f108_129 at hf
  refine ev_ic (v := 0) (q_cod qk108 rfl) (by decide) (by decide) ?_
  exact (f108_130_ok hf hK)
def f108_305 (s0 : Int32) : m_M Int32 :=
  m_R s0
theorem f108_305_ok {s0 : Int32} {h : q_H} {o : q_O} {hz : q_H} {x : Int32 × q_H} (hf : f108_305 s0 h = some x) (hK : (q_KI o hz) x) : q_Ev none 108 305 [] [.int s0] h o hz := by
  unfold f108_305 at hf
  obtain rfl := m_R_inv hf
  obtain ⟨rfl, rfl⟩ := (show q_KI o hz (s0, _) from hK)
  exact ev_ret (q_cod qk108 rfl) rfl
def f108_282 (l0 : Nat) (l2 : Nat) (l3 : Int32) (l9 : Int32) : m_M Int32 :=
  m_B (m_gR 7 l2 9) (fun r1 => m_B (m_lR r1 l3) (fun r2 => m_B (m_gR 8 l0 0) (fun r3 => m_B (m_aK r2 0) (fun _ => m_B (f7 r2 r3) (fun v5 => if v5 = 0 then (f108_305 (-6)) else (f108_305 l9))))))
theorem f108_282_ok {l0 : Nat} {l2 : Nat} {l3 : Int32} {l9 : Int32} {h : q_H} {o : q_O} {hz : q_H} {x : Int32 × q_H} (hf : f108_282 l0 l2 l3 l9 h = some x) (hK : (q_KI o hz) x) : q_Ev none 108 282 [(0, .ref l0), (2, .ref l2), (3, .int l3), (9, .int l9)] [] h o hz := by
  unfold f108_282 at hf
  refine ev_aload_n (q_cod qk108 rfl) (by decide) rfl ?_
  refine em_gR (q_cod qk108 rfl) (by decide) (by decide) hf (fun r1 hf => ?_)
  refine ev_iload_n (q_cod qk108 rfl) (by decide) rfl ?_
  refine em_lR (q_cod qk108 rfl) (by decide) hf (fun r2 hf => ?_)
  refine ev_aload_n (q_cod qk108 rfl) (by decide) rfl ?_
  refine em_gR (q_cod qk108 rfl) (by decide) (by decide) hf (fun r3 hf => ?_)
  obtain ⟨g4, hf⟩ := m_aK_some hf
  refine em_call (v := (fun u => some (.int u))) (q_cod qk108 rfl) rfl rfl (q_cokV rfl rfl (Or.inr g4)) rfl (fun x e => f7_cl e) hf (fun v5 h hf => ?_)
  refine em_if_eq (q_cod qk108 rfl) (by decide) hf (fun c6 hf => ?_) (fun c6 hf => ?_)
  · refine ev_bi (v := (-6)) (q_cod qk108 rfl) (by decide) (by decide) ?_
    exact ev_weak (q_pk [] rfl) (f108_305_ok hf hK)
  · refine ev_iload (q_cod qk108 rfl) (by decide) rfl ?_
    refine ev_goto (q_cod qk108 rfl) (by decide) ?_
    exact ev_weak (q_pk [] rfl) (f108_305_ok hf hK)
def f108_262 (l0 : Nat) (l2 : Nat) (l3 : Int32) (l4 : Int32) (l5 : Int32) (l9 : Int32) : m_M Int32 :=
  if l4 < 0 then (m_B (m_gR 7 l2 6) (fun r1 => m_B (m_wI r1 (((l3 * 2) - 1) - l4) l5) (fun _ => f108_282 l0 l2 l3 l9))) else (f108_282 l0 l2 l3 l9)
theorem f108_262_ok {l0 : Nat} {l2 : Nat} {l3 : Int32} {l4 : Int32} {l5 : Int32} {l9 : Int32} {h : q_H} {o : q_O} {hz : q_H} {x : Int32 × q_H} (hf : f108_262 l0 l2 l3 l4 l5 l9 h = some x) (hK : (q_KI o hz) x) : q_Ev none 108 262 [(0, .ref l0), (2, .ref l2), (3, .int l3), (4, .int l4), (5, .int l5), (9, .int l9)] [] h o hz := by
  unfold f108_262 at hf
  refine ev_iload (q_cod qk108 rfl) (by decide) rfl ?_
  refine em_if_ge (q_cod qk108 rfl) (by decide) hf (fun c2 hf => ?_) (fun c2 hf => ?_)
  · refine ev_aload_n (q_cod qk108 rfl) (by decide) rfl ?_
    refine em_gR (q_cod qk108 rfl) (by decide) (by decide) hf (fun r1 hf => ?_)
    refine ev_iload_n (q_cod qk108 rfl) (by decide) rfl ?_
    refine ev_ic (v := 2) (q_cod qk108 rfl) (by decide) (by decide) ?_
    refine ev_imul (q_cod qk108 rfl) (by decide) ?_
    refine ev_ic (v := 1) (q_cod qk108 rfl) (by decide) (by decide) ?_
    refine ev_isub (q_cod qk108 rfl) (by decide) ?_
    refine ev_iload (q_cod qk108 rfl) (by decide) rfl ?_
    refine ev_isub (q_cod qk108 rfl) (by decide) ?_
    refine ev_iload (q_cod qk108 rfl) (by decide) rfl ?_
    refine em_wI (q_cod qk108 rfl) (by decide) hf (fun hf => ?_)
    exact ev_weak (q_pk [0, 1, 2, 5] rfl) (f108_282_ok hf hK)
  · exact ev_weak (q_pk [0, 1, 2, 5] rfl) (f108_282_ok hf hK)
def f108_101b (l0 : Nat) (l2 : Nat) (l3 : Int32) (l4 : Int32) (l5 : Int32) (l6 : Nat) (l7 : Int32) (l8 : Int32) (l9 : Int32) (l10 : Int32) : m_M ((Nat × Nat × Int32 × Int32 × Int32 × Nat × Int32 × Int32 × Int32 × Int32) ⊕ Int32) :=
  m_B (m_gI 0 l6 7) (fun v1 => if l10 < v1 then (if l10 < l7 then (f108_129 l0 l2 l3 l4 l5 l6 l7 l8 l9 l10) else (if l10 < l8 then (f108_130 l0 l2 l3 l4 l5 l6 l7 l8 l9 l10 1) else (f108_129 l0 l2 l3 l4 l5 l6 l7 l8 l9 l10))) else (m_B (f108_262 l0 l2 l3 l4 l5 l9) (fun r => m_R (.inr r))))
theorem f108_101b_ok {l0 : Nat} {l2 : Nat} {l3 : Int32} {l4 : Int32} {l5 : Int32} {l6 : Nat} {l7 : Int32} {l8 : Int32} {l9 : Int32} {l10 : Int32} {h : q_H} {o : q_O} {hz : q_H} {x : ((Nat × Nat × Int32 × Int32 × Int32 × Nat × Int32 × Int32 × Int32 × Int32) ⊕ Int32) × q_H} (hf : f108_101b l0 l2 l3 l4 l5 l6 l7 l8 l9 l10 h = some x) (hK : (m_yK (fun (s : Nat × Nat × Int32 × Int32 × Int32 × Nat × Int32 × Int32 × Int32 × Int32) (h : q_H) => q_Ev none 108 101 [(0, .ref (s.1)), (2, .ref (s.2.1)), (3, .int (s.2.2.1)), (4, .int (s.2.2.2.1)), (5, .int (s.2.2.2.2.1)), (6, .ref (s.2.2.2.2.2.1)), (7, .int (s.2.2.2.2.2.2.1)), (8, .int (s.2.2.2.2.2.2.2.1)), (9, .int (s.2.2.2.2.2.2.2.2.1)), (10, .int (s.2.2.2.2.2.2.2.2.2))] [] h o hz) (q_KI o hz)) x) : q_Ev none 108 101 [(0, .ref l0), (2, .ref l2), (3, .int l3), (4, .int l4), (5, .int l5), (6, .ref l6), (7, .int l7), (8, .int l8), (9, .int l9), (10, .int l10)] [] h o hz := by
  unfold f108_101b at hf
  refine ev_iload (q_cod qk108 rfl) (by decide) rfl ?_
  refine ev_aload (q_cod qk108 rfl) (by decide) rfl ?_
  refine em_gI (q_cod qk108 rfl) (by decide) (by decide) hf (fun v1 hf => ?_)
  refine em_ic_ge (q_cod qk108 rfl) (by decide) hf (fun c4 hf => ?_) (fun c4 hf => ?_)
  · refine ev_iload (q_cod qk108 rfl) (by decide) rfl ?_
    refine ev_iload (q_cod qk108 rfl) (by decide) rfl ?_
    refine em_ic_lt (q_cod qk108 rfl) (by decide) hf (fun c3 hf => ?_) (fun c3 hf => ?_)
    · exact (f108_129_ok hf hK)
    · refine ev_iload (q_cod qk108 rfl) (by decide) rfl ?_
      refine ev_iload (q_cod qk108 rfl) (by decide) rfl ?_
      refine em_ic_ge (q_cod qk108 rfl) (by decide) hf (fun c2 hf => ?_) (fun c2 hf => ?_)
      · refine ev_ic (v := 1) (q_cod qk108 rfl) (by decide) (by decide) ?_
        refine ev_goto (q_cod qk108 rfl) (by decide) ?_
        exact (f108_130_ok hf hK)
      · exact (f108_129_ok hf hK)
  · obtain ⟨y0, hf0, hx⟩ := m_inr_some hf
    subst hx
    exact ev_weak (q_pk [0, 1, 2, 3, 4, 8] rfl) (f108_262_ok hf0 hK)
def f108_101 (l0 : Nat) (l2 : Nat) (l3 : Int32) (l4 : Int32) (l5 : Int32) (l6 : Nat) (l7 : Int32) (l8 : Int32) (l9 : Int32) (l10 : Int32) : m_M Int32 := m_W (fun s => f108_101b (s.1) (s.2.1) (s.2.2.1) (s.2.2.2.1) (s.2.2.2.2.1) (s.2.2.2.2.2.1) (s.2.2.2.2.2.2.1) (s.2.2.2.2.2.2.2.1) (s.2.2.2.2.2.2.2.2.1) (s.2.2.2.2.2.2.2.2.2)) 1000000 (l0, l2, l3, l4, l5, l6, l7, l8, l9, l10)
theorem f108_101_ok {l0 : Nat} {l2 : Nat} {l3 : Int32} {l4 : Int32} {l5 : Int32} {l6 : Nat} {l7 : Int32} {l8 : Int32} {l9 : Int32} {l10 : Int32} {h : q_H} {o : q_O} {hz : q_H} {x : Int32 × q_H} (hf : f108_101 l0 l2 l3 l4 l5 l6 l7 l8 l9 l10 h = some x) (hK : (q_KI o hz) x) : q_Ev none 108 101 [(0, .ref l0), (2, .ref l2), (3, .int l3), (4, .int l4), (5, .int l5), (6, .ref l6), (7, .int l7), (8, .int l8), (9, .int l9), (10, .int l10)] [] h o hz :=
  m_W_ok (P := (fun (s : Nat × Nat × Int32 × Int32 × Int32 × Nat × Int32 × Int32 × Int32 × Int32) (h : q_H) => q_Ev none 108 101 [(0, .ref (s.1)), (2, .ref (s.2.1)), (3, .int (s.2.2.1)), (4, .int (s.2.2.2.1)), (5, .int (s.2.2.2.2.1)), (6, .ref (s.2.2.2.2.2.1)), (7, .int (s.2.2.2.2.2.2.1)), (8, .int (s.2.2.2.2.2.2.2.1)), (9, .int (s.2.2.2.2.2.2.2.2.1)), (10, .int (s.2.2.2.2.2.2.2.2.2))] [] h o hz)) (K := (q_KI o hz)) (fun s h x h1 h2 => f108_101b_ok h1 h2) _ (l0, l2, l3, l4, l5, l6, l7, l8, l9, l10) _ _ hf hK
def f108_86 (l0 : Nat) (l2 : Nat) (l3 : Int32) (l4 : Int32) (l5 : Int32) (l6 : Nat) (l7 : Int32) (s0 : Int32) : m_M Int32 :=
  m_B (m_gR 8 l0 0) (fun r1 => m_B (m_aK r1 0) (fun _ => m_B (f1 r1) (fun _ => f108_101 l0 l2 l3 l4 l5 l6 l7 s0 0 0)))
theorem f108_86_ok {l0 : Nat} {l2 : Nat} {l3 : Int32} {l4 : Int32} {l5 : Int32} {l6 : Nat} {l7 : Int32} {s0 : Int32} {h : q_H} {o : q_O} {hz : q_H} {x : Int32 × q_H} (hf : f108_86 l0 l2 l3 l4 l5 l6 l7 s0 h = some x) (hK : (q_KI o hz) x) : q_Ev none 108 86 [(0, .ref l0), (2, .ref l2), (3, .int l3), (4, .int l4), (5, .int l5), (6, .ref l6), (7, .int l7)] [.int s0] h o hz := by
  unfold f108_86 at hf
  refine ev_is2 (L' := [(0, .ref l0), (2, .ref l2), (3, .int l3), (4, .int l4), (5, .int l5), (6, .ref l6), (7, .int l7), (8, .int s0)]) (q_cod qk108 rfl) (by decide) rfl ?_
  refine ev_ic (v := 0) (q_cod qk108 rfl) (by decide) (by decide) ?_
  refine ev_is2 (L' := [(0, .ref l0), (2, .ref l2), (3, .int l3), (4, .int l4), (5, .int l5), (6, .ref l6), (7, .int l7), (8, .int s0), (9, .int 0)]) (q_cod qk108 rfl) (by decide) rfl ?_
  refine ev_aload_n (q_cod qk108 rfl) (by decide) rfl ?_
  refine em_gR (q_cod qk108 rfl) (by decide) (by decide) hf (fun r1 hf => ?_)
  obtain ⟨g2, hf⟩ := m_aK_some hf
  refine em_call (v := (fun _ => none)) (q_cod qk108 rfl) rfl rfl (q_cokV rfl rfl (Or.inr g2)) rfl (fun x e => f1_cl e) hf (fun _ h hf => ?_)
  refine ev_ic (v := 0) (q_cod qk108 rfl) (by decide) (by decide) ?_
  refine ev_is2 (L' := [(0, .ref l0), (2, .ref l2), (3, .int l3), (4, .int l4), (5, .int l5), (6, .ref l6), (7, .int l7), (8, .int s0), (9, .int 0), (10, .int 0)]) (q_cod qk108 rfl) (by decide) rfl ?_
  exact (f108_101_ok hf hK)
def f108_63 (l0 : Nat) (l2 : Nat) (l3 : Int32) (l4 : Int32) (l5 : Int32) (l6 : Nat) (s0 : Int32) : m_M Int32 :=
  if l4 < 0 then (m_B (m_gI 0 l6 7) (fun v1 => f108_86 l0 l2 l3 l4 l5 l6 s0 v1)) else (m_B (m_gR 0 l6 3) (fun r2 => m_B (m_lI r2 l4) (fun v3 => f108_86 l0 l2 l3 l4 l5 l6 s0 v3)))
theorem f108_63_ok {l0 : Nat} {l2 : Nat} {l3 : Int32} {l4 : Int32} {l5 : Int32} {l6 : Nat} {s0 : Int32} {h : q_H} {o : q_O} {hz : q_H} {x : Int32 × q_H} (hf : f108_63 l0 l2 l3 l4 l5 l6 s0 h = some x) (hK : (q_KI o hz) x) : q_Ev none 108 63 [(0, .ref l0), (2, .ref l2), (3, .int l3), (4, .int l4), (5, .int l5), (6, .ref l6)] [.int s0] h o hz := by
  unfold f108_63 at hf
  refine ev_is2 (L' := [(0, .ref l0), (2, .ref l2), (3, .int l3), (4, .int l4), (5, .int l5), (6, .ref l6), (7, .int s0)]) (q_cod qk108 rfl) (by decide) rfl ?_
  refine ev_iload (q_cod qk108 rfl) (by decide) rfl ?_
  refine em_if_ge (q_cod qk108 rfl) (by decide) hf (fun c4 hf => ?_) (fun c4 hf => ?_)
  · refine ev_aload (q_cod qk108 rfl) (by decide) rfl ?_
    refine em_gI (q_cod qk108 rfl) (by decide) (by decide) hf (fun v1 hf => ?_)
    refine ev_goto (q_cod qk108 rfl) (by decide) ?_
    exact (f108_86_ok hf hK)
  · refine ev_aload (q_cod qk108 rfl) (by decide) rfl ?_
    refine em_gR (q_cod qk108 rfl) (by decide) (by decide) hf (fun r2 hf => ?_)
    refine ev_iload (q_cod qk108 rfl) (by decide) rfl ?_
    refine em_lI (q_cod qk108 rfl) (by decide) hf (fun v3 hf => ?_)
    exact (f108_86_ok hf hK)
def f108_46 (l0 : Nat) (l2 : Nat) (l3 : Int32) (l4 : Int32) (l5 : Int32) (l6 : Nat) : m_M Int32 :=
  if l4 < 0 then (f108_63 l0 l2 l3 l4 l5 l6 0) else (m_B (m_aK l6 0) (fun _ => m_B (f9 l6 l4 1) (fun v2 => f108_63 l0 l2 l3 l4 l5 l6 v2)))
theorem f108_46_ok {l0 : Nat} {l2 : Nat} {l3 : Int32} {l4 : Int32} {l5 : Int32} {l6 : Nat} {h : q_H} {o : q_O} {hz : q_H} {x : Int32 × q_H} (hf : f108_46 l0 l2 l3 l4 l5 l6 h = some x) (hK : (q_KI o hz) x) : q_Ev none 108 46 [(0, .ref l0), (2, .ref l2), (3, .int l3), (4, .int l4), (5, .int l5), (6, .ref l6)] [] h o hz := by
  unfold f108_46 at hf
  refine ev_iload (q_cod qk108 rfl) (by decide) rfl ?_
  refine em_if_ge (q_cod qk108 rfl) (by decide) hf (fun c3 hf => ?_) (fun c3 hf => ?_)
  · refine ev_ic (v := 0) (q_cod qk108 rfl) (by decide) (by decide) ?_
    refine ev_goto (q_cod qk108 rfl) (by decide) ?_
    exact (f108_63_ok hf hK)
  · refine ev_aload (q_cod qk108 rfl) (by decide) rfl ?_
    refine ev_iload (q_cod qk108 rfl) (by decide) rfl ?_
    refine ev_ic (v := 1) (q_cod qk108 rfl) (by decide) (by decide) ?_
    obtain ⟨g1, hf⟩ := m_aK_some hf
    refine em_call (v := (fun u => some (.int u))) (q_cod qk108 rfl) rfl rfl (q_cokV rfl rfl (Or.inr g1)) rfl (fun x e => f9_cl e) hf (fun v2 h hf => ?_)
    exact (f108_63_ok hf hK)
def f108_28 (l0 : Nat) (l1 : Nat) (l2 : Nat) (l3 : Int32) (l4 : Int32) (l5 : Int32) (l6 : Nat) : m_M Int32 :=
  if l4 < 0 then (m_B (m_aK l1 7) (fun _ => m_B (f98 l1 l3 l5) (fun v2 => if v2 = (-1) then (f108_46 l0 l2 l3 l4 l5 l6) else (m_R (-1))))) else (f108_46 l0 l2 l3 l4 l5 l6)
theorem f108_28_ok {l0 : Nat} {l1 : Nat} {l2 : Nat} {l3 : Int32} {l4 : Int32} {l5 : Int32} {l6 : Nat} {h : q_H} {o : q_O} {hz : q_H} {x : Int32 × q_H} (hf : f108_28 l0 l1 l2 l3 l4 l5 l6 h = some x) (hK : (q_KI o hz) x) : q_Ev none 108 28 [(0, .ref l0), (1, .ref l1), (2, .ref l2), (3, .int l3), (4, .int l4), (5, .int l5), (6, .ref l6)] [] h o hz := by
  unfold f108_28 at hf
  refine ev_iload (q_cod qk108 rfl) (by decide) rfl ?_
  refine em_if_ge (q_cod qk108 rfl) (by decide) hf (fun c4 hf => ?_) (fun c4 hf => ?_)
  · refine ev_aload_n (q_cod qk108 rfl) (by decide) rfl ?_
    refine ev_iload_n (q_cod qk108 rfl) (by decide) rfl ?_
    refine ev_iload (q_cod qk108 rfl) (by decide) rfl ?_
    obtain ⟨g1, hf⟩ := m_aK_some hf
    refine em_call (v := (fun u => some (.int u))) (q_cod qk108 rfl) rfl rfl (q_cokV rfl rfl (Or.inr g1)) rfl (fun x e => f98_cl e) hf (fun v2 h hf => ?_)
    refine ev_ic (v := (-1)) (q_cod qk108 rfl) (by decide) (by decide) ?_
    refine em_ic_eq (q_cod qk108 rfl) (by decide) hf (fun c3 hf => ?_) (fun c3 hf => ?_)
    · exact ev_weak (q_pk [0, 2, 3, 4, 5, 6] rfl) (f108_46_ok hf hK)
    · refine ev_ic (v := (-1)) (q_cod qk108 rfl) (by decide) (by decide) ?_
      obtain rfl := m_R_inv hf
      obtain ⟨rfl, rfl⟩ := (show q_KI o hz ((-1), _) from hK)
      exact ev_ret (q_cod qk108 rfl) rfl
  · exact ev_weak (q_pk [0, 2, 3, 4, 5, 6] rfl) (f108_46_ok hf hK)
def f108 (l0 : Nat) (l1 : Nat) (l2 : Nat) (l3 : Int32) (l4 : Int32) (l5 : Int32) : m_M Int32 :=
  m_B (m_gR 7 l1 9) (fun r1 => m_B (m_lR r1 l3) (fun r2 => if l4 < 0 then (f108_28 l0 l1 l2 l3 l4 l5 r2) else (m_B (m_gR 0 r2 0) (fun r3 => m_B (m_lI r3 l4) (fun v4 => if v4 = 5 then (f108_28 l0 l1 l2 l3 l4 l5 r2) else (m_R (-10)))))))
theorem f108_ok {l0 : Nat} {l1 : Nat} {l2 : Nat} {l3 : Int32} {l4 : Int32} {l5 : Int32} {h : q_H} {o : q_O} {hz : q_H} {x : Int32 × q_H} (hf : f108 l0 l1 l2 l3 l4 l5 h = some x) (hK : (q_KI o hz) x) : q_Ev none 108 0 [(0, .ref l0), (1, .ref l1), (2, .ref l2), (3, .int l3), (4, .int l4), (5, .int l5)] [] h o hz := by
  unfold f108 at hf
  refine ev_aload_n (q_cod qk108 rfl) (by decide) rfl ?_
  refine em_gR (q_cod qk108 rfl) (by decide) (by decide) hf (fun r1 hf => ?_)
  refine ev_iload_n (q_cod qk108 rfl) (by decide) rfl ?_
  refine em_lR (q_cod qk108 rfl) (by decide) hf (fun r2 hf => ?_)
  refine ev_as2 (L' := [(0, .ref l0), (1, .ref l1), (2, .ref l2), (3, .int l3), (4, .int l4), (5, .int l5), (6, .ref r2)]) (q_cod qk108 rfl) (by decide) rfl ?_
  refine ev_iload (q_cod qk108 rfl) (by decide) rfl ?_
  refine em_if_lt (q_cod qk108 rfl) (by decide) hf (fun c6 hf => ?_) (fun c6 hf => ?_)
  · exact (f108_28_ok hf hK)
  · refine ev_aload (q_cod qk108 rfl) (by decide) rfl ?_
    refine em_gR (q_cod qk108 rfl) (by decide) (by decide) hf (fun r3 hf => ?_)
    refine ev_iload (q_cod qk108 rfl) (by decide) rfl ?_
    refine em_lI (q_cod qk108 rfl) (by decide) hf (fun v4 hf => ?_)
    refine ev_ic (v := 5) (q_cod qk108 rfl) (by decide) (by decide) ?_
    refine em_ic_eq (q_cod qk108 rfl) (by decide) hf (fun c5 hf => ?_) (fun c5 hf => ?_)
    · exact (f108_28_ok hf hK)
    · refine ev_bi (v := (-10)) (q_cod qk108 rfl) (by decide) (by decide) ?_
      obtain rfl := m_R_inv hf
      obtain ⟨rfl, rfl⟩ := (show q_KI o hz ((-10), _) from hK)
      exact ev_ret (q_cod qk108 rfl) rfl
theorem f108_cl {l0 : Nat} {l1 : Nat} {l2 : Nat} {l3 : Int32} {l4 : Int32} {l5 : Int32} {h : q_H} {x : Int32 × q_H} (hf : f108 l0 l1 l2 l3 l4 l5 h = some x) : q_Cl 108 [.ref l0, .ref l1, .ref l2, .int l3, .int l4, .int l5] h (.inl (some (.int x.1))) x.2 := q_Cl.of rfl (q_LvS rfl rfl) (f108_ok hf ⟨rfl, rfl⟩)
/-! SmithyBench$Signatures.<init>()V -/
theorem qk110 : q_cs.getD 110 [] = qc_110 := rfl
def f110 (l0 : Nat) : m_M Unit :=
  m_B (m_nO 0) (fun r1 => m_B (f0 r1 256) (fun _ => m_B (m_pR 9 l0 0 r1) (fun _ => m_R ())))
theorem f110_ok {l0 : Nat} {h : q_H} {o : q_O} {hz : q_H} {x : Unit × q_H} (hf : f110 l0 h = some x) (hK : (m_KU o hz) x) : q_Ev none 110 0 [(0, .ref l0)] [] h o hz := by
  unfold f110 at hf
  refine ev_aload_n (q_cod qk110 rfl) (by decide) rfl ?_
  refine ev_objinit (q_cod qk110 rfl) (Nat.le_of_ble_eq_true rfl) ?_
  refine ev_aload_n (q_cod qk110 rfl) (by decide) rfl ?_
  refine em_nO (q_cod qk110 rfl) (by decide) hf (fun r1 h hf => ?_)
  refine ev_dup (q_cod qk110 rfl) (by decide) rfl ?_
  refine ev_si (v := 256) (q_cod qk110 rfl) (by decide) (by decide) ?_
  refine em_call (v := (fun _ => none)) (q_cod qk110 rfl) rfl rfl (q_cokV rfl rfl (Or.inl rfl)) rfl (fun x e => f0_cl e) hf (fun _ h hf => ?_)
  refine em_pR (q_cod qk110 rfl) (by decide) (by decide) (by decide) hf (fun hf => ?_)
  obtain rfl := m_R_inv hf
  obtain ⟨rfl, rfl⟩ := (show m_KU o hz ((), _) from hK)
  exact ev_ret (q_cod qk110 rfl) rfl
theorem f110_cl {l0 : Nat} {h : q_H} {x : Unit × q_H} (hf : f110 l0 h = some x) : q_Cl 110 [.ref l0] h (.inl none) x.2 := q_Cl.of rfl (q_LvS rfl rfl) (f110_ok hf ⟨rfl, rfl⟩)
/-! SmithyBench$Signatures.lengthen(LSmithyBench$Body;II)I -/
theorem qk112 : q_cs.getD 112 [] = qc_112 := rfl
def f112_127 (l0 : Nat) (l1 : Nat) (l2 : Int32) (l3 : Int32) (l4 : Int32) (l5 : Int32) : m_M ((Nat × Nat × Int32 × Int32 × Int32 × Int32) ⊕ Int32) :=
  m_R (.inl (l0, l1, l2, l3, l4, (l5 + 1)))
theorem f112_127_ok {l0 : Nat} {l1 : Nat} {l2 : Int32} {l3 : Int32} {l4 : Int32} {l5 : Int32} {h : q_H} {o : q_O} {hz : q_H} {x : ((Nat × Nat × Int32 × Int32 × Int32 × Int32) ⊕ Int32) × q_H} (hf : f112_127 l0 l1 l2 l3 l4 l5 h = some x) (hK : (m_yK (fun (s : Nat × Nat × Int32 × Int32 × Int32 × Int32) (h : q_H) => q_Ev none 112 13 [(0, .ref (s.1)), (1, .ref (s.2.1)), (2, .int (s.2.2.1)), (3, .int (s.2.2.2.1)), (4, .int (s.2.2.2.2.1)), (5, .int (s.2.2.2.2.2))] [] h o hz) (q_KI o hz)) x) : q_Ev none 112 127 [(0, .ref l0), (1, .ref l1), (2, .int l2), (3, .int l3), (4, .int l4), (5, .int l5)] [] h o hz := by
  unfold f112_127 at hf
  refine ev_inc (v := l5 + 1) (L' := [(0, .ref l0), (1, .ref l1), (2, .int l2), (3, .int l3), (4, .int l4), (5, .int (l5 + 1))]) (q_cod qk112 rfl) (by decide) rfl rfl rfl ?_
  refine ev_goto (q_cod qk112 rfl) (by decide) ?_
  obtain rfl := m_R_inv hf
  exact (show q_Ev none 112 13 [(0, .ref l0), (1, .ref l1), (2, .int l2), (3, .int l3), (4, .int l4), (5, .int (l5 + 1))] [] _ o hz from hK)
def f112_121 (l0 : Nat) (l1 : Nat) (l2 : Int32) (l3 : Int32) (l4 : Int32) (l5 : Int32) (l7 : Int32) : m_M ((Nat × Nat × Int32 × Int32 × Int32 × Int32 × Int32) ⊕ ((Nat × Nat × Int32 × Int32 × Int32 × Int32) ⊕ Int32)) :=
  m_R (.inl (l0, l1, l2, l3, l4, l5, (l7 + (-1))))
theorem f112_121_ok {l0 : Nat} {l1 : Nat} {l2 : Int32} {l3 : Int32} {l4 : Int32} {l5 : Int32} {l7 : Int32} {h : q_H} {o : q_O} {hz : q_H} {x : ((Nat × Nat × Int32 × Int32 × Int32 × Int32 × Int32) ⊕ ((Nat × Nat × Int32 × Int32 × Int32 × Int32) ⊕ Int32)) × q_H} (hf : f112_121 l0 l1 l2 l3 l4 l5 l7 h = some x) (hK : (m_yK (fun (s : Nat × Nat × Int32 × Int32 × Int32 × Int32 × Int32) (h : q_H) => q_Ev none 112 82 [(0, .ref (s.1)), (1, .ref (s.2.1)), (2, .int (s.2.2.1)), (3, .int (s.2.2.2.1)), (4, .int (s.2.2.2.2.1)), (5, .int (s.2.2.2.2.2.1)), (7, .int (s.2.2.2.2.2.2))] [] h o hz) (m_yK (fun (s : Nat × Nat × Int32 × Int32 × Int32 × Int32) (h : q_H) => q_Ev none 112 13 [(0, .ref (s.1)), (1, .ref (s.2.1)), (2, .int (s.2.2.1)), (3, .int (s.2.2.2.1)), (4, .int (s.2.2.2.2.1)), (5, .int (s.2.2.2.2.2))] [] h o hz) (q_KI o hz))) x) : q_Ev none 112 121 [(0, .ref l0), (1, .ref l1), (2, .int l2), (3, .int l3), (4, .int l4), (5, .int l5), (7, .int l7)] [] h o hz := by
  unfold f112_121 at hf
  refine ev_inc (v := l7 + (-1)) (L' := [(0, .ref l0), (1, .ref l1), (2, .int l2), (3, .int l3), (4, .int l4), (5, .int l5), (7, .int (l7 + (-1)))]) (q_cod qk112 rfl) (by decide) rfl rfl rfl ?_
  refine ev_goto (q_cod qk112 rfl) (by decide) ?_
  obtain rfl := m_R_inv hf
  exact (show q_Ev none 112 82 [(0, .ref l0), (1, .ref l1), (2, .int l2), (3, .int l3), (4, .int l4), (5, .int l5), (7, .int (l7 + (-1)))] [] _ o hz from hK)
def f112_82b (l0 : Nat) (l1 : Nat) (l2 : Int32) (l3 : Int32) (l4 : Int32) (l5 : Int32) (l7 : Int32) : m_M ((Nat × Nat × Int32 × Int32 × Int32 × Int32 × Int32) ⊕ ((Nat × Nat × Int32 × Int32 × Int32 × Int32) ⊕ Int32)) :=
  if l7 < 0 then (m_B (f112_127 l0 l1 l2 l3 l4 l5) (fun r => m_R (.inr r))) else (m_B (m_gR 0 l1 3) (fun r1 => m_B (m_lI r1 l7) (fun v2 => if v2 = (l5 + 1) then (m_B (m_aK l1 0) (fun _ => m_B (f17 l1 l7 l2) (fun v4 => if v4 = 0 then (f112_121 l0 l1 l2 l3 l4 l5 l7) else (m_B (m_gR 9 l0 0) (fun r5 => m_B (m_aK r5 0) (fun _ => m_B (f2 r5 0 l3 0) (fun _ => f112_121 l0 l1 l2 l3 l4 l5 l7))))))) else (f112_121 l0 l1 l2 l3 l4 l5 l7))))
theorem f112_82b_ok {l0 : Nat} {l1 : Nat} {l2 : Int32} {l3 : Int32} {l4 : Int32} {l5 : Int32} {l7 : Int32} {h : q_H} {o : q_O} {hz : q_H} {x : ((Nat × Nat × Int32 × Int32 × Int32 × Int32 × Int32) ⊕ ((Nat × Nat × Int32 × Int32 × Int32 × Int32) ⊕ Int32)) × q_H} (hf : f112_82b l0 l1 l2 l3 l4 l5 l7 h = some x) (hK : (m_yK (fun (s : Nat × Nat × Int32 × Int32 × Int32 × Int32 × Int32) (h : q_H) => q_Ev none 112 82 [(0, .ref (s.1)), (1, .ref (s.2.1)), (2, .int (s.2.2.1)), (3, .int (s.2.2.2.1)), (4, .int (s.2.2.2.2.1)), (5, .int (s.2.2.2.2.2.1)), (7, .int (s.2.2.2.2.2.2))] [] h o hz) (m_yK (fun (s : Nat × Nat × Int32 × Int32 × Int32 × Int32) (h : q_H) => q_Ev none 112 13 [(0, .ref (s.1)), (1, .ref (s.2.1)), (2, .int (s.2.2.1)), (3, .int (s.2.2.2.1)), (4, .int (s.2.2.2.2.1)), (5, .int (s.2.2.2.2.2))] [] h o hz) (q_KI o hz))) x) : q_Ev none 112 82 [(0, .ref l0), (1, .ref l1), (2, .int l2), (3, .int l3), (4, .int l4), (5, .int l5), (7, .int l7)] [] h o hz := by
  unfold f112_82b at hf
  refine ev_iload (q_cod qk112 rfl) (by decide) rfl ?_
  refine em_if_lt (q_cod qk112 rfl) (by decide) hf (fun c10 hf => ?_) (fun c10 hf => ?_)
  · obtain ⟨y0, hf0, hx⟩ := m_inr_some hf
    subst hx
    exact ev_weak (q_pk [0, 1, 2, 3, 4, 5] rfl) (f112_127_ok hf0 hK)
  · refine ev_aload_n (q_cod qk112 rfl) (by decide) rfl ?_
    refine em_gR (q_cod qk112 rfl) (by decide) (by decide) hf (fun r1 hf => ?_)
    refine ev_iload (q_cod qk112 rfl) (by decide) rfl ?_
    refine em_lI (q_cod qk112 rfl) (by decide) hf (fun v2 hf => ?_)
    refine ev_iload (q_cod qk112 rfl) (by decide) rfl ?_
    refine ev_ic (v := 1) (q_cod qk112 rfl) (by decide) (by decide) ?_
    refine ev_iadd (q_cod qk112 rfl) (by decide) ?_
    refine em_ic_ne (q_cod qk112 rfl) (by decide) hf (fun c9 hf => ?_) (fun c9 hf => ?_)
    · refine ev_aload_n (q_cod qk112 rfl) (by decide) rfl ?_
      refine ev_iload (q_cod qk112 rfl) (by decide) rfl ?_
      refine ev_iload_n (q_cod qk112 rfl) (by decide) rfl ?_
      obtain ⟨g3, hf⟩ := m_aK_some hf
      refine em_call (v := (fun u => some (.int u))) (q_cod qk112 rfl) rfl rfl (q_cokV rfl rfl (Or.inr g3)) rfl (fun x e => f17_cl e) hf (fun v4 h hf => ?_)
      refine em_if_eq (q_cod qk112 rfl) (by decide) hf (fun c8 hf => ?_) (fun c8 hf => ?_)
      · exact (f112_121_ok hf hK)
      · refine ev_aload_n (q_cod qk112 rfl) (by decide) rfl ?_
        refine em_gR (q_cod qk112 rfl) (by decide) (by decide) hf (fun r5 hf => ?_)
        refine ev_ic (v := 0) (q_cod qk112 rfl) (by decide) (by decide) ?_
        refine ev_iload_n (q_cod qk112 rfl) (by decide) rfl ?_
        refine ev_ic (v := 0) (q_cod qk112 rfl) (by decide) (by decide) ?_
        obtain ⟨g6, hf⟩ := m_aK_some hf
        refine em_call (v := (fun _ => none)) (q_cod qk112 rfl) rfl rfl (q_cokV rfl rfl (Or.inr g6)) rfl (fun x e => f2_cl e) hf (fun _ h hf => ?_)
        exact (f112_121_ok hf hK)
    · exact (f112_121_ok hf hK)
def f112_82 (l0 : Nat) (l1 : Nat) (l2 : Int32) (l3 : Int32) (l4 : Int32) (l5 : Int32) (l7 : Int32) : m_M ((Nat × Nat × Int32 × Int32 × Int32 × Int32) ⊕ Int32) := m_W (fun s => f112_82b (s.1) (s.2.1) (s.2.2.1) (s.2.2.2.1) (s.2.2.2.2.1) (s.2.2.2.2.2.1) (s.2.2.2.2.2.2)) 1000000 (l0, l1, l2, l3, l4, l5, l7)
theorem f112_82_ok {l0 : Nat} {l1 : Nat} {l2 : Int32} {l3 : Int32} {l4 : Int32} {l5 : Int32} {l7 : Int32} {h : q_H} {o : q_O} {hz : q_H} {x : ((Nat × Nat × Int32 × Int32 × Int32 × Int32) ⊕ Int32) × q_H} (hf : f112_82 l0 l1 l2 l3 l4 l5 l7 h = some x) (hK : (m_yK (fun (s : Nat × Nat × Int32 × Int32 × Int32 × Int32) (h : q_H) => q_Ev none 112 13 [(0, .ref (s.1)), (1, .ref (s.2.1)), (2, .int (s.2.2.1)), (3, .int (s.2.2.2.1)), (4, .int (s.2.2.2.2.1)), (5, .int (s.2.2.2.2.2))] [] h o hz) (q_KI o hz)) x) : q_Ev none 112 82 [(0, .ref l0), (1, .ref l1), (2, .int l2), (3, .int l3), (4, .int l4), (5, .int l5), (7, .int l7)] [] h o hz :=
  m_W_ok (P := (fun (s : Nat × Nat × Int32 × Int32 × Int32 × Int32 × Int32) (h : q_H) => q_Ev none 112 82 [(0, .ref (s.1)), (1, .ref (s.2.1)), (2, .int (s.2.2.1)), (3, .int (s.2.2.2.1)), (4, .int (s.2.2.2.2.1)), (5, .int (s.2.2.2.2.2.1)), (7, .int (s.2.2.2.2.2.2))] [] h o hz)) (K := (m_yK (fun (s : Nat × Nat × Int32 × Int32 × Int32 × Int32) (h : q_H) => q_Ev none 112 13 [(0, .ref (s.1)), (1, .ref (s.2.1)), (2, .int (s.2.2.1)), (3, .int (s.2.2.2.1)), (4, .int (s.2.2.2.2.1)), (5, .int (s.2.2.2.2.2))] [] h o hz) (q_KI o hz))) (fun s h x h1 h2 => f112_82b_ok h1 h2) _ (l0, l1, l2, l3, l4, l5, l7) _ _ hf hK
def f112_74 (l0 : Nat) (l1 : Nat) (l2 : Int32) (l3 : Int32) (l4 : Int32) (l5 : Int32) (s0 : Nat) (s1 : Int32) (s2 : Int32) (s3 : Int32) (s4 : Int32) : m_M ((Nat × Nat × Int32 × Int32 × Int32 × Int32) ⊕ Int32) :=
  m_B (m_aK s0 0) (fun _ => m_B (f2 s0 s1 s2 (s3 + s4)) (fun _ => f112_82 l0 l1 l2 l3 l4 l5 l5))
theorem f112_74_ok {l0 : Nat} {l1 : Nat} {l2 : Int32} {l3 : Int32} {l4 : Int32} {l5 : Int32} {s0 : Nat} {s1 : Int32} {s2 : Int32} {s3 : Int32} {s4 : Int32} {h : q_H} {o : q_O} {hz : q_H} {x : ((Nat × Nat × Int32 × Int32 × Int32 × Int32) ⊕ Int32) × q_H} (hf : f112_74 l0 l1 l2 l3 l4 l5 s0 s1 s2 s3 s4 h = some x) (hK : (m_yK (fun (s : Nat × Nat × Int32 × Int32 × Int32 × Int32) (h : q_H) => q_Ev none 112 13 [(0, .ref (s.1)), (1, .ref (s.2.1)), (2, .int (s.2.2.1)), (3, .int (s.2.2.2.1)), (4, .int (s.2.2.2.2.1)), (5, .int (s.2.2.2.2.2))] [] h o hz) (q_KI o hz)) x) : q_Ev none 112 74 [(0, .ref l0), (1, .ref l1), (2, .int l2), (3, .int l3), (4, .int l4), (5, .int l5)] [.int s4, .int s3, .int s2, .int s1, .ref s0] h o hz := by
  unfold f112_74 at hf
  refine ev_iadd (q_cod qk112 rfl) (by decide) ?_
  obtain ⟨g1, hf⟩ := m_aK_some hf
  refine em_call (v := (fun _ => none)) (q_cod qk112 rfl) rfl rfl (q_cokV rfl rfl (Or.inr g1)) rfl (fun x e => f2_cl e) hf (fun _ h hf => ?_)
  refine ev_iload (q_cod qk112 rfl) (by decide) rfl ?_
  refine ev_is2 (L' := [(0, .ref l0), (1, .ref l1), (2, .int l2), (3, .int l3), (4, .int l4), (5, .int l5), (7, .int l5)]) (q_cod qk112 rfl) (by decide) rfl ?_
  exact (f112_82_ok hf hK)
def f112_39 (l0 : Nat) (l1 : Nat) (l2 : Int32) (l3 : Int32) (l4 : Int32) (l5 : Int32) (l6 : Int32) : m_M ((Nat × Nat × Int32 × Int32 × Int32 × Int32) ⊕ Int32) :=
  m_B (m_gR 9 l0 0) (fun r1 => m_B (m_gR 0 l1 0) (fun r2 => m_B (m_lI r2 l5) (fun v3 => m_B (m_gR 0 l1 1) (fun r4 => m_B (m_lI r4 l5) (fun v5 => m_B (m_gR 0 l1 2) (fun r6 => m_B (m_lI r6 l5) (fun v7 => if l6 = 0 then (f112_74 l0 l1 l2 l3 l4 l5 r1 v3 v5 v7 0) else (f112_74 l0 l1 l2 l3 l4 l5 r1 v3 v5 v7 1))))))))
theorem f112_39_ok {l0 : Nat} {l1 : Nat} {l2 : Int32} {l3 : Int32} {l4 : Int32} {l5 : Int32} {l6 : Int32} {h : q_H} {o : q_O} {hz : q_H} {x : ((Nat × Nat × Int32 × Int32 × Int32 × Int32) ⊕ Int32) × q_H} (hf : f112_39 l0 l1 l2 l3 l4 l5 l6 h = some x) (hK : (m_yK (fun (s : Nat × Nat × Int32 × Int32 × Int32 × Int32) (h : q_H) => q_Ev none 112 13 [(0, .ref (s.1)), (1, .ref (s.2.1)), (2, .int (s.2.2.1)), (3, .int (s.2.2.2.1)), (4, .int (s.2.2.2.2.1)), (5, .int (s.2.2.2.2.2))] [] h o hz) (q_KI o hz)) x) : q_Ev none 112 39 [(0, .ref l0), (1, .ref l1), (2, .int l2), (3, .int l3), (4, .int l4), (5, .int l5), (6, .int l6)] [] h o hz := by
  unfold f112_39 at hf
  refine ev_aload_n (q_cod qk112 rfl) (by decide) rfl ?_
  refine em_gR (q_cod qk112 rfl) (by decide) (by decide) hf (fun r1 hf => ?_)
  refine ev_aload_n (q_cod qk112 rfl) (by decide) rfl ?_
  refine em_gR (q_cod qk112 rfl) (by decide) (by decide) hf (fun r2 hf => ?_)
  refine ev_iload (q_cod qk112 rfl) (by decide) rfl ?_
  refine em_lI (q_cod qk112 rfl) (by decide) hf (fun v3 hf => ?_)
  refine ev_aload_n (q_cod qk112 rfl) (by decide) rfl ?_
  refine em_gR (q_cod qk112 rfl) (by decide) (by decide) hf (fun r4 hf => ?_)
  refine ev_iload (q_cod qk112 rfl) (by decide) rfl ?_
  refine em_lI (q_cod qk112 rfl) (by decide) hf (fun v5 hf => ?_)
  refine ev_aload_n (q_cod qk112 rfl) (by decide) rfl ?_
  refine em_gR (q_cod qk112 rfl) (by decide) (by decide) hf (fun r6 hf => ?_)
  refine ev_iload (q_cod qk112 rfl) (by decide) rfl ?_
  refine em_lI (q_cod qk112 rfl) (by decide) hf (fun v7 hf => ?_)
  refine ev_iload (q_cod qk112 rfl) (by decide) rfl ?_
  refine em_if_eq (q_cod qk112 rfl) (by decide) hf (fun c8 hf => ?_) (fun c8 hf => ?_)
  · refine ev_ic (v := 0) (q_cod qk112 rfl) (by decide) (by decide) ?_
    exact ev_weak (q_pk [0, 1, 2, 3, 4, 5] rfl) (f112_74_ok hf hK)
  · refine ev_ic (v := 1) (q_cod qk112 rfl) (by decide) (by decide) ?_
    refine ev_goto (q_cod qk112 rfl) (by decide) ?_
    exact ev_weak (q_pk [0, 1, 2, 3, 4, 5] rfl) (f112_74_ok hf hK)
def f112_133 (l4 : Int32) : m_M Int32 :=
  m_R l4
theorem f112_133_ok {l4 : Int32} {h : q_H} {o : q_O} {hz : q_H} {x : Int32 × q_H} (hf : f112_133 l4 h = some x) (hK : (q_KI o hz) x) : q_Ev none 112 133 [(4, .int l4)] [] h o hz := by
  unfold f112_133 at hf
  refine ev_iload (q_cod qk112 rfl) (by decide) rfl ?_
  obtain rfl := m_R_inv hf
  obtain ⟨rfl, rfl⟩ := (show q_KI o hz (l4, _) from hK)
  exact ev_ret (q_cod qk112 rfl) rfl
def f112_13b (l0 : Nat) (l1 : Nat) (l2 : Int32) (l3 : Int32) (l4 : Int32) (l5 : Int32) : m_M ((Nat × Nat × Int32 × Int32 × Int32 × Int32) ⊕ Int32) :=
  m_B (m_gI 0 l1 7) (fun v1 => if l5 < v1 then (m_B (m_aK l1 0) (fun _ => m_B (f17 l1 l5 l2) (fun v3 => if v3 = 0 then (f112_39 l0 l1 l2 l3 l4 l5 v3) else (f112_39 l0 l1 l2 l3 (l4 + 1) l5 v3)))) else (m_B (f112_133 l4) (fun r => m_R (.inr r))))
theorem f112_13b_ok {l0 : Nat} {l1 : Nat} {l2 : Int32} {l3 : Int32} {l4 : Int32} {l5 : Int32} {h : q_H} {o : q_O} {hz : q_H} {x : ((Nat × Nat × Int32 × Int32 × Int32 × Int32) ⊕ Int32) × q_H} (hf : f112_13b l0 l1 l2 l3 l4 l5 h = some x) (hK : (m_yK (fun (s : Nat × Nat × Int32 × Int32 × Int32 × Int32) (h : q_H) => q_Ev none 112 13 [(0, .ref (s.1)), (1, .ref (s.2.1)), (2, .int (s.2.2.1)), (3, .int (s.2.2.2.1)), (4, .int (s.2.2.2.2.1)), (5, .int (s.2.2.2.2.2))] [] h o hz) (q_KI o hz)) x) : q_Ev none 112 13 [(0, .ref l0), (1, .ref l1), (2, .int l2), (3, .int l3), (4, .int l4), (5, .int l5)] [] h o hz := by
  unfold f112_13b at hf
  refine ev_iload (q_cod qk112 rfl) (by decide) rfl ?_
  refine ev_aload_n (q_cod qk112 rfl) (by decide) rfl ?_
  refine em_gI (q_cod qk112 rfl) (by decide) (by decide) hf (fun v1 hf => ?_)
  refine em_ic_ge (q_cod qk112 rfl) (by decide) hf (fun c5 hf => ?_) (fun c5 hf => ?_)
  · refine ev_aload_n (q_cod qk112 rfl) (by decide) rfl ?_
    refine ev_iload (q_cod qk112 rfl) (by decide) rfl ?_
    refine ev_iload_n (q_cod qk112 rfl) (by decide) rfl ?_
    obtain ⟨g2, hf⟩ := m_aK_some hf
    refine em_call (v := (fun u => some (.int u))) (q_cod qk112 rfl) rfl rfl (q_cokV rfl rfl (Or.inr g2)) rfl (fun x e => f17_cl e) hf (fun v3 h hf => ?_)
    refine ev_is2 (L' := [(0, .ref l0), (1, .ref l1), (2, .int l2), (3, .int l3), (4, .int l4), (5, .int l5), (6, .int v3)]) (q_cod qk112 rfl) (by decide) rfl ?_
    refine ev_iload (q_cod qk112 rfl) (by decide) rfl ?_
    refine em_if_eq (q_cod qk112 rfl) (by decide) hf (fun c4 hf => ?_) (fun c4 hf => ?_)
    · exact (f112_39_ok hf hK)
    · refine ev_inc (v := l4 + 1) (L' := [(0, .ref l0), (1, .ref l1), (2, .int l2), (3, .int l3), (4, .int (l4 + 1)), (5, .int l5), (6, .int v3)]) (q_cod qk112 rfl) (by decide) rfl rfl rfl ?_
      exact (f112_39_ok hf hK)
  · obtain ⟨y0, hf0, hx⟩ := m_inr_some hf
    subst hx
    exact ev_weak (q_pk [4] rfl) (f112_133_ok hf0 hK)
def f112_13 (l0 : Nat) (l1 : Nat) (l2 : Int32) (l3 : Int32) (l4 : Int32) (l5 : Int32) : m_M Int32 := m_W (fun s => f112_13b (s.1) (s.2.1) (s.2.2.1) (s.2.2.2.1) (s.2.2.2.2.1) (s.2.2.2.2.2)) 1000000 (l0, l1, l2, l3, l4, l5)
theorem f112_13_ok {l0 : Nat} {l1 : Nat} {l2 : Int32} {l3 : Int32} {l4 : Int32} {l5 : Int32} {h : q_H} {o : q_O} {hz : q_H} {x : Int32 × q_H} (hf : f112_13 l0 l1 l2 l3 l4 l5 h = some x) (hK : (q_KI o hz) x) : q_Ev none 112 13 [(0, .ref l0), (1, .ref l1), (2, .int l2), (3, .int l3), (4, .int l4), (5, .int l5)] [] h o hz :=
  m_W_ok (P := (fun (s : Nat × Nat × Int32 × Int32 × Int32 × Int32) (h : q_H) => q_Ev none 112 13 [(0, .ref (s.1)), (1, .ref (s.2.1)), (2, .int (s.2.2.1)), (3, .int (s.2.2.2.1)), (4, .int (s.2.2.2.2.1)), (5, .int (s.2.2.2.2.2))] [] h o hz)) (K := (q_KI o hz)) (fun s h x h1 h2 => f112_13b_ok h1 h2) _ (l0, l1, l2, l3, l4, l5) _ _ hf hK
def f112 (l0 : Nat) (l1 : Nat) (l2 : Int32) (l3 : Int32) : m_M Int32 :=
  m_B (m_gR 9 l0 0) (fun r1 => m_B (m_aK r1 0) (fun _ => m_B (f1 r1) (fun _ => f112_13 l0 l1 l2 l3 0 0)))
theorem f112_ok {l0 : Nat} {l1 : Nat} {l2 : Int32} {l3 : Int32} {h : q_H} {o : q_O} {hz : q_H} {x : Int32 × q_H} (hf : f112 l0 l1 l2 l3 h = some x) (hK : (q_KI o hz) x) : q_Ev none 112 0 [(0, .ref l0), (1, .ref l1), (2, .int l2), (3, .int l3)] [] h o hz := by
  unfold f112 at hf
  refine ev_ic (v := 0) (q_cod qk112 rfl) (by decide) (by decide) ?_
  refine ev_is2 (L' := [(0, .ref l0), (1, .ref l1), (2, .int l2), (3, .int l3), (4, .int 0)]) (q_cod qk112 rfl) (by decide) rfl ?_
  refine ev_aload_n (q_cod qk112 rfl) (by decide) rfl ?_
  refine em_gR (q_cod qk112 rfl) (by decide) (by decide) hf (fun r1 hf => ?_)
  obtain ⟨g2, hf⟩ := m_aK_some hf
  refine em_call (v := (fun _ => none)) (q_cod qk112 rfl) rfl rfl (q_cokV rfl rfl (Or.inr g2)) rfl (fun x e => f1_cl e) hf (fun _ h hf => ?_)
  refine ev_ic (v := 0) (q_cod qk112 rfl) (by decide) (by decide) ?_
  refine ev_is2 (L' := [(0, .ref l0), (1, .ref l1), (2, .int l2), (3, .int l3), (4, .int 0), (5, .int 0)]) (q_cod qk112 rfl) (by decide) rfl ?_
  exact (f112_13_ok hf hK)
theorem f112_cl {l0 : Nat} {l1 : Nat} {l2 : Int32} {l3 : Int32} {h : q_H} {x : Int32 × q_H} (hf : f112 l0 l1 l2 l3 h = some x) : q_Cl 112 [.ref l0, .ref l1, .int l2, .int l3] h (.inl (some (.int x.1))) x.2 := q_Cl.of rfl (q_LvS rfl rfl) (f112_ok hf ⟨rfl, rfl⟩)
