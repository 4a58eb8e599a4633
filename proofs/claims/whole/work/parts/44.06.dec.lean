/-! SmithyBench$Mover.sweep(LSmithyBench$Program;LSmithyBench$Program;I)I -/
theorem qk68 : q_cs.getD 68 [] = qc_68 := rfl
def f68_67 (l1 : Nat) (l2 : Nat) (l4 : Int32) (l5 : Int32) (l6 : Int32) : m_M ((Nat × Nat × Int32 × Int32 × Int32) ⊕ Int32) :=
  m_R (.inl (l1, l2, l4, l5, (l6 + 1)))
theorem f68_67_ok {l1 : Nat} {l2 : Nat} {l4 : Int32} {l5 : Int32} {l6 : Int32} {h : q_H} {o : q_O} {hz : q_H} {x : ((Nat × Nat × Int32 × Int32 × Int32) ⊕ Int32) × q_H} (hf : f68_67 l1 l2 l4 l5 l6 h = some x) (hK : (m_yK (fun (s : Nat × Nat × Int32 × Int32 × Int32) (h : q_H) => q_Ev none 68 17 [(1, .ref (s.1)), (2, .ref (s.2.1)), (4, .int (s.2.2.1)), (5, .int (s.2.2.2.1)), (6, .int (s.2.2.2.2))] [] h o hz) (q_KI o hz)) x) : q_Ev none 68 67 [(1, .ref l1), (2, .ref l2), (4, .int l4), (5, .int l5), (6, .int l6)] [] h o hz := by
  unfold f68_67 at hf
  refine ev_inc (v := l6 + 1) (L' := [(1, .ref l1), (2, .ref l2), (4, .int l4), (5, .int l5), (6, .int (l6 + 1))]) (q_cod qk68 rfl) (by decide) rfl rfl rfl ?_
  refine ev_goto (q_cod qk68 rfl) (by decide) ?_
  obtain rfl := m_R_inv hf
  exact (show q_Ev none 68 17 [(1, .ref l1), (2, .ref l2), (4, .int l4), (5, .int l5), (6, .int (l6 + 1))] [] _ o hz from hK)
def f68_73 (l5 : Int32) : m_M Int32 :=
  m_R l5
theorem f68_73_ok {l5 : Int32} {h : q_H} {o : q_O} {hz : q_H} {x : Int32 × q_H} (hf : f68_73 l5 h = some x) (hK : (q_KI o hz) x) : q_Ev none 68 73 [(5, .int l5)] [] h o hz := by
  unfold f68_73 at hf
  refine ev_iload (q_cod qk68 rfl) (by decide) rfl ?_
  obtain rfl := m_R_inv hf
  obtain ⟨rfl, rfl⟩ := (show q_KI o hz (l5, _) from hK)
  exact ev_ret (q_cod qk68 rfl) rfl
def f68_17b (l1 : Nat) (l2 : Nat) (l4 : Int32) (l5 : Int32) (l6 : Int32) : m_M ((Nat × Nat × Int32 × Int32 × Int32) ⊕ Int32) :=
  m_B (m_gI 7 l1 11) (fun v1 => if l6 < v1 then (m_B (m_aK l1 7) (fun _ => m_B (f79 l1 l6) (fun v3 => if v3 = 0 then (f68_67 l1 l2 l4 l5 l6) else (if ((q_ush l4 l6) &&& 1) = 1 then (f68_67 l1 l2 l4 l5 l6) else (m_B (m_gI 7 l2 12) (fun v4 => m_B (m_pI 7 l2 12 (v4 &&& ((1 <<< (l6 &&& 31)) ^^^ (-1)))) (fun _ => f68_67 l1 l2 l4 (l5 + 1) l6))))))) else (m_B (f68_73 l5) (fun r => m_R (.inr r))))
theorem f68_17b_ok {l1 : Nat} {l2 : Nat} {l4 : Int32} {l5 : Int32} {l6 : Int32} {h : q_H} {o : q_O} {hz : q_H} {x : ((Nat × Nat × Int32 × Int32 × Int32) ⊕ Int32) × q_H} (hf : f68_17b l1 l2 l4 l5 l6 h = some x) (hK : (m_yK (fun (s : Nat × Nat × Int32 × Int32 × Int32) (h : q_H) => q_Ev none 68 17 [(1, .ref (s.1)), (2, .ref (s.2.1)), (4, .int (s.2.2.1)), (5, .int (s.2.2.2.1)), (6, .int (s.2.2.2.2))] [] h o hz) (q_KI o hz)) x) : q_Ev none 68 17 [(1, .ref l1), (2, .ref l2), (4, .int l4), (5, .int l5), (6, .int l6)] [] h o hz := by
  unfold f68_17b at hf
  refine ev_iload (q_cod qk68 rfl) (by decide) rfl ?_
  refine ev_aload_n (q_cod qk68 rfl) (by decide) rfl ?_
  refine em_gI (q_cod qk68 rfl) (by decide) (by decide) hf (fun v1 hf => ?_)
  refine em_ic_ge (q_cod qk68 rfl) (by decide) hf (fun c7 hf => ?_) (fun c7 hf => ?_)
  · refine ev_aload_n (q_cod qk68 rfl) (by decide) rfl ?_
    refine ev_iload (q_cod qk68 rfl) (by decide) rfl ?_
    obtain ⟨g2, hf⟩ := m_aK_some hf
    refine em_call (v := (fun u => some (.int u))) (q_cod qk68 rfl) rfl rfl (q_cokV rfl rfl (Or.inr g2)) rfl (fun x e => f79_cl e) hf (fun v3 h hf => ?_)
    refine em_if_eq (q_cod qk68 rfl) (by decide) hf (fun c6 hf => ?_) (fun c6 hf => ?_)
    · exact (f68_67_ok hf hK)
    · refine ev_iload (q_cod qk68 rfl) (by decide) rfl ?_
      refine ev_iload (q_cod qk68 rfl) (by decide) rfl ?_
      refine ev_iushr (q_cod qk68 rfl) (by decide) ?_
      refine ev_ic (v := 1) (q_cod qk68 rfl) (by decide) (by decide) ?_
      refine ev_iand (q_cod qk68 rfl) (by decide) ?_
      refine ev_ic (v := 1) (q_cod qk68 rfl) (by decide) (by decide) ?_
      refine em_ic_ne (q_cod qk68 rfl) (by decide) hf (fun c5 hf => ?_) (fun c5 hf => ?_)
      · refine ev_goto (q_cod qk68 rfl) (by decide) ?_
        exact (f68_67_ok hf hK)
      · refine ev_aload_n (q_cod qk68 rfl) (by decide) rfl ?_
        refine ev_dup (q_cod qk68 rfl) (by decide) rfl ?_
        refine em_gI (q_cod qk68 rfl) (by decide) (by decide) hf (fun v4 hf => ?_)
        refine ev_ic (v := 1) (q_cod qk68 rfl) (by decide) (by decide) ?_
        refine ev_iload (q_cod qk68 rfl) (by decide) rfl ?_
        refine ev_ishl (q_cod qk68 rfl) (by decide) ?_
        refine ev_ic (v := (-1)) (q_cod qk68 rfl) (by decide) (by decide) ?_
        refine ev_ixor (q_cod qk68 rfl) (by decide) ?_
        refine ev_iand (q_cod qk68 rfl) (by decide) ?_
        refine em_pI (q_cod qk68 rfl) (by decide) (by decide) (by decide) hf (fun hf => ?_)
        refine ev_inc (v := l5 + 1) (L' := [(1, .ref l1), (2, .ref l2), (4, .int l4), (5, .int (l5 + 1)), (6, .int l6)]) (q_cod qk68 rfl) (by decide) rfl rfl rfl ?_
        exact (f68_67_ok hf hK)
  · obtain ⟨y0, hf0, hx⟩ := m_inr_some hf
    subst hx
    exact ev_weak (q_pk [3] rfl) (f68_73_ok hf0 hK)
def f68_17 (l1 : Nat) (l2 : Nat) (l4 : Int32) (l5 : Int32) (l6 : Int32) : m_M Int32 := m_W (fun s => f68_17b (s.1) (s.2.1) (s.2.2.1) (s.2.2.2.1) (s.2.2.2.2)) 1000000 (l1, l2, l4, l5, l6)
theorem f68_17_ok {l1 : Nat} {l2 : Nat} {l4 : Int32} {l5 : Int32} {l6 : Int32} {h : q_H} {o : q_O} {hz : q_H} {x : Int32 × q_H} (hf : f68_17 l1 l2 l4 l5 l6 h = some x) (hK : (q_KI o hz) x) : q_Ev none 68 17 [(1, .ref l1), (2, .ref l2), (4, .int l4), (5, .int l5), (6, .int l6)] [] h o hz :=
  m_W_ok (P := (fun (s : Nat × Nat × Int32 × Int32 × Int32) (h : q_H) => q_Ev none 68 17 [(1, .ref (s.1)), (2, .ref (s.2.1)), (4, .int (s.2.2.1)), (5, .int (s.2.2.2.1)), (6, .int (s.2.2.2.2))] [] h o hz)) (K := (q_KI o hz)) (fun s h x h1 h2 => f68_17b_ok h1 h2) _ (l1, l2, l4, l5, l6) _ _ hf hK
def f68 (l0 : Nat) (l1 : Nat) (l2 : Nat) (l3 : Int32) : m_M Int32 :=
  m_B (m_aK l1 7) (fun _ => m_B (f103 l1 l3) (fun v2 => f68_17 l1 l2 (v2 ||| (1 <<< (l3 &&& 31))) 0 0))
theorem f68_ok {l0 : Nat} {l1 : Nat} {l2 : Nat} {l3 : Int32} {h : q_H} {o : q_O} {hz : q_H} {x : Int32 × q_H} (hf : f68 l0 l1 l2 l3 h = some x) (hK : (q_KI o hz) x) : q_Ev none 68 0 [(0, .ref l0), (1, .ref l1), (2, .ref l2), (3, .int l3)] [] h o hz := by
  unfold f68 at hf
  refine ev_aload_n (q_cod qk68 rfl) (by decide) rfl ?_
  refine ev_iload_n (q_cod qk68 rfl) (by decide) rfl ?_
  obtain ⟨g1, hf⟩ := m_aK_some hf
  refine em_call (v := (fun u => some (.int u))) (q_cod qk68 rfl) rfl rfl (q_cokV rfl rfl (Or.inr g1)) rfl (fun x e => f103_cl e) hf (fun v2 h hf => ?_)
  refine ev_ic (v := 1) (q_cod qk68 rfl) (by decide) (by decide) ?_
  refine ev_iload_n (q_cod qk68 rfl) (by decide) rfl ?_
  refine ev_ishl (q_cod qk68 rfl) (by decide) ?_
  refine ev_ior (q_cod qk68 rfl) (by decide) ?_
  refine ev_is2 (L' := [(0, .ref l0), (1, .ref l1), (2, .ref l2), (3, .int l3), (4, .int (v2 ||| (1 <<< (l3 &&& 31))))]) (q_cod qk68 rfl) (by decide) rfl ?_
  refine ev_ic (v := 0) (q_cod qk68 rfl) (by decide) (by decide) ?_
  refine ev_is2 (L' := [(0, .ref l0), (1, .ref l1), (2, .ref l2), (3, .int l3), (4, .int (v2 ||| (1 <<< (l3 &&& 31)))), (5, .int 0)]) (q_cod qk68 rfl) (by decide) rfl ?_
  refine ev_ic (v := 0) (q_cod qk68 rfl) (by decide) (by decide) ?_
  refine ev_is2 (L' := [(0, .ref l0), (1, .ref l1), (2, .ref l2), (3, .int l3), (4, .int (v2 ||| (1 <<< (l3 &&& 31)))), (5, .int 0), (6, .int 0)]) (q_cod qk68 rfl) (by decide) rfl ?_
  exact ev_weak (q_pk [1, 2, 4, 5, 6] rfl) (f68_17_ok hf hK)
theorem f68_cl {l0 : Nat} {l1 : Nat} {l2 : Nat} {l3 : Int32} {h : q_H} {x : Int32 × q_H} (hf : f68 l0 l1 l2 l3 h = some x) : q_Cl 68 [.ref l0, .ref l1, .ref l2, .int l3] h (.inl (some (.int x.1))) x.2 := q_Cl.of rfl (q_LvS rfl rfl) (f68_ok hf ⟨rfl, rfl⟩)
/-! SmithyBench$Program.<init>()V -/
theorem qk69 : q_cs.getD 69 [] = qc_69 := rfl
def f69_119  : m_M Unit :=
  m_R ()
theorem f69_119_ok  {h : q_H} {o : q_O} {hz : q_H} {x : Unit × q_H} (hf : f69_119 h = some x) (hK : (m_KU o hz) x) : q_Ev none 69 119 [] [] h o hz := by
  unfold f69_119 at hf
  obtain rfl := m_R_inv hf
  obtain ⟨rfl, rfl⟩ := (show m_KU o hz ((), _) from hK)
  exact ev_ret (q_cod qk69 rfl) rfl
def f69_92b (l0 : Nat) (l1 : Int32) : m_M ((Nat × Int32) ⊕ Unit) :=
  if l1 < 24 then (m_B (m_gR 7 l0 9) (fun r1 => m_B (m_nO 0) (fun r2 => m_B (f0 r2 60) (fun _ => m_B (m_wR r1 l1 r2) (fun _ => m_R (.inl (l0, (l1 + 1)))))))) else (m_B (f69_119) (fun r => m_R (.inr r)))
theorem f69_92b_ok {l0 : Nat} {l1 : Int32} {h : q_H} {o : q_O} {hz : q_H} {x : ((Nat × Int32) ⊕ Unit) × q_H} (hf : f69_92b l0 l1 h = some x) (hK : (m_yK (fun (s : Nat × Int32) (h : q_H) => q_Ev none 69 92 [(0, .ref (s.1)), (1, .int (s.2))] [] h o hz) (m_KU o hz)) x) : q_Ev none 69 92 [(0, .ref l0), (1, .int l1)] [] h o hz := by
  unfold f69_92b at hf
  refine ev_iload_n (q_cod qk69 rfl) (by decide) rfl ?_
  refine ev_bi (v := 24) (q_cod qk69 rfl) (by decide) (by decide) ?_
  refine em_ic_ge (q_cod qk69 rfl) (by decide) hf (fun c4 hf => ?_) (fun c4 hf => ?_)
  · refine ev_aload_n (q_cod qk69 rfl) (by decide) rfl ?_
    refine em_gR (q_cod qk69 rfl) (by decide) (by decide) hf (fun r1 hf => ?_)
    refine ev_iload_n (q_cod qk69 rfl) (by decide) rfl ?_
    refine em_nO (q_cod qk69 rfl) (by decide) hf (fun r2 h hf => ?_)
    refine ev_dup (q_cod qk69 rfl) (by decide) rfl ?_
    refine ev_bi (v := 60) (q_cod qk69 rfl) (by decide) (by decide) ?_
    refine em_call (v := (fun _ => none)) (q_cod qk69 rfl) rfl rfl (q_cokV rfl rfl (Or.inl rfl)) rfl (fun x e => f0_cl e) hf (fun _ h hf => ?_)
    refine em_wR (q_cod qk69 rfl) (by decide) hf (fun hf => ?_)
    refine ev_inc (v := l1 + 1) (L' := [(0, .ref l0), (1, .int (l1 + 1))]) (q_cod qk69 rfl) (by decide) rfl rfl rfl ?_
    refine ev_goto (q_cod qk69 rfl) (by decide) ?_
    obtain rfl := m_R_inv hf
    exact (show q_Ev none 69 92 [(0, .ref l0), (1, .int (l1 + 1))] [] _ o hz from hK)
  · obtain ⟨y0, hf0, hx⟩ := m_inr_some hf
    subst hx
    exact ev_weak (q_pk [] rfl) (f69_119_ok hf0 hK)
def f69_92 (l0 : Nat) (l1 : Int32) : m_M Unit := m_W (fun s => f69_92b (s.1) (s.2)) 1000000 (l0, l1)
theorem f69_92_ok {l0 : Nat} {l1 : Int32} {h : q_H} {o : q_O} {hz : q_H} {x : Unit × q_H} (hf : f69_92 l0 l1 h = some x) (hK : (m_KU o hz) x) : q_Ev none 69 92 [(0, .ref l0), (1, .int l1)] [] h o hz :=
  m_W_ok (P := (fun (s : Nat × Int32) (h : q_H) => q_Ev none 69 92 [(0, .ref (s.1)), (1, .int (s.2))] [] h o hz)) (K := (m_KU o hz)) (fun s h x h1 h2 => f69_92b_ok h1 h2) _ (l0, l1) _ _ hf hK
def f69 (l0 : Nat) : m_M Unit :=
  m_B (m_nA 20 6) (fun r1 => m_B (m_pR 7 l0 0 r1) (fun _ => m_B (m_nA 20 6) (fun r2 => m_B (m_pR 7 l0 1 r2) (fun _ => m_B (m_nA 20 96) (fun r3 => m_B (m_pR 7 l0 2 r3) (fun _ => m_B (m_nA 20 24) (fun r4 => m_B (m_pR 7 l0 3 r4) (fun _ => m_B (m_nA 20 24) (fun r5 => m_B (m_pR 7 l0 4 r5) (fun _ => m_B (m_nA 20 24) (fun r6 => m_B (m_pR 7 l0 5 r6) (fun _ => m_B (m_nA 20 48) (fun r7 => m_B (m_pR 7 l0 6 r7) (fun _ => m_B (m_nA 20 48) (fun r8 => m_B (m_pR 7 l0 7 r8) (fun _ => m_B (m_nA 20 24) (fun r9 => m_B (m_pR 7 l0 8 r9) (fun _ => m_B (m_nA 24 24) (fun r10 => m_B (m_pR 7 l0 9 r10) (fun _ => m_B (m_pI 7 l0 13 (-1)) (fun _ => f69_92 l0 0)))))))))))))))))))))
theorem f69_ok {l0 : Nat} {h : q_H} {o : q_O} {hz : q_H} {x : Unit × q_H} (hf : f69 l0 h = some x) (hK : (m_KU o hz) x) : q_Ev none 69 0 [(0, .ref l0)] [] h o hz := by
  unfold f69 at hf
  refine ev_aload_n (q_cod qk69 rfl) (by decide) rfl ?_
  refine ev_objinit (q_cod qk69 rfl) (Nat.le_of_ble_eq_true rfl) ?_
  refine ev_aload_n (q_cod qk69 rfl) (by decide) rfl ?_
  refine ev_bi (v := 6) (q_cod qk69 rfl) (by decide) (by decide) ?_
  refine em_nI (q_cod qk69 rfl) (by decide) hf (fun r1 h hf => ?_)
  refine em_pR (q_cod qk69 rfl) (by decide) (by decide) (by decide) hf (fun hf => ?_)
  refine ev_aload_n (q_cod qk69 rfl) (by decide) rfl ?_
  refine ev_bi (v := 6) (q_cod qk69 rfl) (by decide) (by decide) ?_
  refine em_nI (q_cod qk69 rfl) (by decide) hf (fun r2 h hf => ?_)
  refine em_pR (q_cod qk69 rfl) (by decide) (by decide) (by decide) hf (fun hf => ?_)
  refine ev_aload_n (q_cod qk69 rfl) (by decide) rfl ?_
  refine ev_bi (v := 96) (q_cod qk69 rfl) (by decide) (by decide) ?_
  refine em_nI (q_cod qk69 rfl) (by decide) hf (fun r3 h hf => ?_)
  refine em_pR (q_cod qk69 rfl) (by decide) (by decide) (by decide) hf (fun hf => ?_)
  refine ev_aload_n (q_cod qk69 rfl) (by decide) rfl ?_
  refine ev_bi (v := 24) (q_cod qk69 rfl) (by decide) (by decide) ?_
  refine em_nI (q_cod qk69 rfl) (by decide) hf (fun r4 h hf => ?_)
  refine em_pR (q_cod qk69 rfl) (by decide) (by decide) (by decide) hf (fun hf => ?_)
  refine ev_aload_n (q_cod qk69 rfl) (by decide) rfl ?_
  refine ev_bi (v := 24) (q_cod qk69 rfl) (by decide) (by decide) ?_
  refine em_nI (q_cod qk69 rfl) (by decide) hf (fun r5 h hf => ?_)
  refine em_pR (q_cod qk69 rfl) (by decide) (by decide) (by decide) hf (fun hf => ?_)
  refine ev_aload_n (q_cod qk69 rfl) (by decide) rfl ?_
  refine ev_bi (v := 24) (q_cod qk69 rfl) (by decide) (by decide) ?_
  refine em_nI (q_cod qk69 rfl) (by decide) hf (fun r6 h hf => ?_)
  refine em_pR (q_cod qk69 rfl) (by decide) (by decide) (by decide) hf (fun hf => ?_)
  refine ev_aload_n (q_cod qk69 rfl) (by decide) rfl ?_
  refine ev_bi (v := 48) (q_cod qk69 rfl) (by decide) (by decide) ?_
  refine em_nI (q_cod qk69 rfl) (by decide) hf (fun r7 h hf => ?_)
  refine em_pR (q_cod qk69 rfl) (by decide) (by decide) (by decide) hf (fun hf => ?_)
  refine ev_aload_n (q_cod qk69 rfl) (by decide) rfl ?_
  refine ev_bi (v := 48) (q_cod qk69 rfl) (by decide) (by decide) ?_
  refine em_nI (q_cod qk69 rfl) (by decide) hf (fun r8 h hf => ?_)
  refine em_pR (q_cod qk69 rfl) (by decide) (by decide) (by decide) hf (fun hf => ?_)
  refine ev_aload_n (q_cod qk69 rfl) (by decide) rfl ?_
  refine ev_bi (v := 24) (q_cod qk69 rfl) (by decide) (by decide) ?_
  refine em_nI (q_cod qk69 rfl) (by decide) hf (fun r9 h hf => ?_)
  refine em_pR (q_cod qk69 rfl) (by decide) (by decide) (by decide) hf (fun hf => ?_)
  refine ev_aload_n (q_cod qk69 rfl) (by decide) rfl ?_
  refine ev_bi (v := 24) (q_cod qk69 rfl) (by decide) (by decide) ?_
  refine em_nR (q_cod qk69 rfl) (by decide) (by decide) hf (fun r10 h hf => ?_)
  refine em_pR (q_cod qk69 rfl) (by decide) (by decide) (by decide) hf (fun hf => ?_)
  refine ev_aload_n (q_cod qk69 rfl) (by decide) rfl ?_
  refine ev_ic (v := (-1)) (q_cod qk69 rfl) (by decide) (by decide) ?_
  refine em_pI (q_cod qk69 rfl) (by decide) (by decide) (by decide) hf (fun hf => ?_)
  refine ev_ic (v := 0) (q_cod qk69 rfl) (by decide) (by decide) ?_
  refine ev_is1 (L' := [(0, .ref l0), (1, .int 0)]) (q_cod qk69 rfl) (by decide) rfl ?_
  exact (f69_92_ok hf hK)
theorem f69_cl {l0 : Nat} {h : q_H} {x : Unit × q_H} (hf : f69 l0 h = some x) : q_Cl 69 [.ref l0] h (.inl none) x.2 := q_Cl.of rfl (q_LvS rfl rfl) (f69_ok hf ⟨rfl, rfl⟩)
/-! SmithyBench$Program.copyFrom(LSmithyBench$Program;)V -/
theorem qk70 : q_cs.getD 70 [] = qc_70 := rfl
def f70_198 (l0 : Nat) (l1 : Nat) (l2 : Int32) : m_M ((Nat × Nat × Int32) ⊕ Unit) :=
  m_R (.inl (l0, l1, (l2 + 1)))
theorem f70_198_ok {l0 : Nat} {l1 : Nat} {l2 : Int32} {h : q_H} {o : q_O} {hz : q_H} {x : ((Nat × Nat × Int32) ⊕ Unit) × q_H} (hf : f70_198 l0 l1 l2 h = some x) (hK : (m_yK (fun (s : Nat × Nat × Int32) (h : q_H) => q_Ev none 70 166 [(0, .ref (s.1)), (1, .ref (s.2.1)), (2, .int (s.2.2))] [] h o hz) (m_KU o hz)) x) : q_Ev none 70 198 [(0, .ref l0), (1, .ref l1), (2, .int l2)] [] h o hz := by
  unfold f70_198 at hf
  refine ev_inc (v := l2 + 1) (L' := [(0, .ref l0), (1, .ref l1), (2, .int (l2 + 1))]) (q_cod qk70 rfl) (by decide) rfl rfl rfl ?_
  refine ev_goto (q_cod qk70 rfl) (by decide) ?_
  obtain rfl := m_R_inv hf
  exact (show q_Ev none 70 166 [(0, .ref l0), (1, .ref l1), (2, .int (l2 + 1))] [] _ o hz from hK)
def f70_204  : m_M Unit :=
  m_R ()
theorem f70_204_ok  {h : q_H} {o : q_O} {hz : q_H} {x : Unit × q_H} (hf : f70_204 h = some x) (hK : (m_KU o hz) x) : q_Ev none 70 204 [] [] h o hz := by
  unfold f70_204 at hf
  obtain rfl := m_R_inv hf
  obtain ⟨rfl, rfl⟩ := (show m_KU o hz ((), _) from hK)
  exact ev_ret (q_cod qk70 rfl) rfl
def f70_166b (l0 : Nat) (l1 : Nat) (l2 : Int32) : m_M ((Nat × Nat × Int32) ⊕ Unit) :=
  m_B (m_gI 7 l0 11) (fun v1 => if l2 < v1 then (m_B (m_aK l0 7) (fun _ => m_B (f79 l0 l2) (fun v3 => if v3 = 0 then (f70_198 l0 l1 l2) else (m_B (m_gR 7 l0 9) (fun r4 => m_B (m_lR r4 l2) (fun r5 => m_B (m_gR 7 l1 9) (fun r6 => m_B (m_lR r6 l2) (fun r7 => m_B (m_aK r5 0) (fun _ => m_B (f7 r5 r7) (fun v9 => f70_198 l0 l1 l2)))))))))) else (m_B (f70_204) (fun r => m_R (.inr r))))
theorem f70_166b_ok {l0 : Nat} {l1 : Nat} {l2 : Int32} {h : q_H} {o : q_O} {hz : q_H} {x : ((Nat × Nat × Int32) ⊕ Unit) × q_H} (hf : f70_166b l0 l1 l2 h = some x) (hK : (m_yK (fun (s : Nat × Nat × Int32) (h : q_H) => q_Ev none 70 166 [(0, .ref (s.1)), (1, .ref (s.2.1)), (2, .int (s.2.2))] [] h o hz) (m_KU o hz)) x) : q_Ev none 70 166 [(0, .ref l0), (1, .ref l1), (2, .int l2)] [] h o hz := by
  unfold f70_166b at hf
  refine ev_iload_n (q_cod qk70 rfl) (by decide) rfl ?_
  refine ev_aload_n (q_cod qk70 rfl) (by decide) rfl ?_
  refine em_gI (q_cod qk70 rfl) (by decide) (by decide) hf (fun v1 hf => ?_)
  refine em_ic_ge (q_cod qk70 rfl) (by decide) hf (fun c11 hf => ?_) (fun c11 hf => ?_)
  · refine ev_aload_n (q_cod qk70 rfl) (by decide) rfl ?_
    refine ev_iload_n (q_cod qk70 rfl) (by decide) rfl ?_
    obtain ⟨g2, hf⟩ := m_aK_some hf
    refine em_call (v := (fun u => some (.int u))) (q_cod qk70 rfl) rfl rfl (q_cokV rfl rfl (Or.inr g2)) rfl (fun x e => f79_cl e) hf (fun v3 h hf => ?_)
    refine em_if_eq (q_cod qk70 rfl) (by decide) hf (fun c10 hf => ?_) (fun c10 hf => ?_)
    · exact (f70_198_ok hf hK)
    · refine ev_aload_n (q_cod qk70 rfl) (by decide) rfl ?_
      refine em_gR (q_cod qk70 rfl) (by decide) (by decide) hf (fun r4 hf => ?_)
      refine ev_iload_n (q_cod qk70 rfl) (by decide) rfl ?_
      refine em_lR (q_cod qk70 rfl) (by decide) hf (fun r5 hf => ?_)
      refine ev_aload_n (q_cod qk70 rfl) (by decide) rfl ?_
      refine em_gR (q_cod qk70 rfl) (by decide) (by decide) hf (fun r6 hf => ?_)
      refine ev_iload_n (q_cod qk70 rfl) (by decide) rfl ?_
      refine em_lR (q_cod qk70 rfl) (by decide) hf (fun r7 hf => ?_)
      obtain ⟨g8, hf⟩ := m_aK_some hf
      refine em_call (v := (fun u => some (.int u))) (q_cod qk70 rfl) rfl rfl (q_cokV rfl rfl (Or.inr g8)) rfl (fun x e => f7_cl e) hf (fun v9 h hf => ?_)
      refine ev_pop (q_cod qk70 rfl) (by decide) rfl ?_
      exact (f70_198_ok hf hK)
  · obtain ⟨y0, hf0, hx⟩ := m_inr_some hf
    subst hx
    exact ev_weak (q_pk [] rfl) (f70_204_ok hf0 hK)
def f70_166 (l0 : Nat) (l1 : Nat) (l2 : Int32) : m_M Unit := m_W (fun s => f70_166b (s.1) (s.2.1) (s.2.2)) 1000000 (l0, l1, l2)
theorem f70_166_ok {l0 : Nat} {l1 : Nat} {l2 : Int32} {h : q_H} {o : q_O} {hz : q_H} {x : Unit × q_H} (hf : f70_166 l0 l1 l2 h = some x) (hK : (m_KU o hz) x) : q_Ev none 70 166 [(0, .ref l0), (1, .ref l1), (2, .int l2)] [] h o hz :=
  m_W_ok (P := (fun (s : Nat × Nat × Int32) (h : q_H) => q_Ev none 70 166 [(0, .ref (s.1)), (1, .ref (s.2.1)), (2, .int (s.2.2))] [] h o hz)) (K := (m_KU o hz)) (fun s h x h1 h2 => f70_166b_ok h1 h2) _ (l0, l1, l2) _ _ hf hK
def f70 (l0 : Nat) (l1 : Nat) : m_M Unit :=
  m_B (m_gI 7 l1 10) (fun v1 => m_B (m_pI 7 l0 10 v1) (fun _ => m_B (m_gI 7 l1 11) (fun v2 => m_B (m_pI 7 l0 11 v2) (fun _ => m_B (m_gI 7 l1 12) (fun v3 => m_B (m_pI 7 l0 12 v3) (fun _ => m_B (m_pZ 7 l0 14 0) (fun _ => m_B (m_gR 7 l1 0) (fun r4 => m_B (m_gR 7 l0 0) (fun r5 => m_B (m_cp r4 0 r5 0 6) (fun _ => m_B (m_gR 7 l1 1) (fun r6 => m_B (m_gR 7 l0 1) (fun r7 => m_B (m_cp r6 0 r7 0 6) (fun _ => m_B (m_gR 7 l1 2) (fun r8 => m_B (m_gR 7 l0 2) (fun r9 => m_B (m_cp r8 0 r9 0 96) (fun _ => m_B (m_gR 7 l1 3) (fun r10 => m_B (m_gR 7 l0 3) (fun r11 => m_B (m_cp r10 0 r11 0 24) (fun _ => m_B (m_gR 7 l1 4) (fun r12 => m_B (m_gR 7 l0 4) (fun r13 => m_B (m_cp r12 0 r13 0 24) (fun _ => m_B (m_gR 7 l1 5) (fun r14 => m_B (m_gR 7 l0 5) (fun r15 => m_B (m_cp r14 0 r15 0 24) (fun _ => m_B (m_gR 7 l1 6) (fun r16 => m_B (m_gR 7 l0 6) (fun r17 => m_B (m_cp r16 0 r17 0 48) (fun _ => m_B (m_gR 7 l1 7) (fun r18 => m_B (m_gR 7 l0 7) (fun r19 => m_B (m_cp r18 0 r19 0 48) (fun _ => m_B (m_gR 7 l1 8) (fun r20 => m_B (m_gR 7 l0 8) (fun r21 => m_B (m_cp r20 0 r21 0 24) (fun _ => f70_166 l0 l1 0))))))))))))))))))))))))))))))))))
theorem f70_ok {l0 : Nat} {l1 : Nat} {h : q_H} {o : q_O} {hz : q_H} {x : Unit × q_H} (hf : f70 l0 l1 h = some x) (hK : (m_KU o hz) x) : q_Ev none 70 0 [(0, .ref l0), (1, .ref l1)] [] h o hz := by
  unfold f70 at hf
  refine ev_aload_n (q_cod qk70 rfl) (by decide) rfl ?_
  refine ev_aload_n (q_cod qk70 rfl) (by decide) rfl ?_
  refine em_gI (q_cod qk70 rfl) (by decide) (by decide) hf (fun v1 hf => ?_)
  refine em_pI (q_cod qk70 rfl) (by decide) (by decide) (by decide) hf (fun hf => ?_)
  refine ev_aload_n (q_cod qk70 rfl) (by decide) rfl ?_
  refine ev_aload_n (q_cod qk70 rfl) (by decide) rfl ?_
  refine em_gI (q_cod qk70 rfl) (by decide) (by decide) hf (fun v2 hf => ?_)
  refine em_pI (q_cod qk70 rfl) (by decide) (by decide) (by decide) hf (fun hf => ?_)
  refine ev_aload_n (q_cod qk70 rfl) (by decide) rfl ?_
  refine ev_aload_n (q_cod qk70 rfl) (by decide) rfl ?_
  refine em_gI (q_cod qk70 rfl) (by decide) (by decide) hf (fun v3 hf => ?_)
  refine em_pI (q_cod qk70 rfl) (by decide) (by decide) (by decide) hf (fun hf => ?_)
  refine ev_aload_n (q_cod qk70 rfl) (by decide) rfl ?_
  refine ev_ic (v := 0) (q_cod qk70 rfl) (by decide) (by decide) ?_
  refine em_pZ (q_cod qk70 rfl) (by decide) (by decide) (by decide) hf (fun hf => ?_)
  refine ev_aload_n (q_cod qk70 rfl) (by decide) rfl ?_
  refine em_gR (q_cod qk70 rfl) (by decide) (by decide) hf (fun r4 hf => ?_)
  refine ev_ic (v := 0) (q_cod qk70 rfl) (by decide) (by decide) ?_
  refine ev_aload_n (q_cod qk70 rfl) (by decide) rfl ?_
  refine em_gR (q_cod qk70 rfl) (by decide) (by decide) hf (fun r5 hf => ?_)
  refine ev_ic (v := 0) (q_cod qk70 rfl) (by decide) (by decide) ?_
  refine ev_bi (v := 6) (q_cod qk70 rfl) (by decide) (by decide) ?_
  refine em_cp (q_cod qk70 rfl) (Nat.le_of_ble_eq_true rfl) hf (fun hf => ?_)
  refine ev_aload_n (q_cod qk70 rfl) (by decide) rfl ?_
  refine em_gR (q_cod qk70 rfl) (by decide) (by decide) hf (fun r6 hf => ?_)
  refine ev_ic (v := 0) (q_cod qk70 rfl) (by decide) (by decide) ?_
  refine ev_aload_n (q_cod qk70 rfl) (by decide) rfl ?_
  refine em_gR (q_cod qk70 rfl) (by decide) (by decide) hf (fun r7 hf => ?_)
  refine ev_ic (v := 0) (q_cod qk70 rfl) (by decide) (by decide) ?_
  refine ev_bi (v := 6) (q_cod qk70 rfl) (by decide) (by decide) ?_
  refine em_cp (q_cod qk70 rfl) (Nat.le_of_ble_eq_true rfl) hf (fun hf => ?_)
  refine ev_aload_n (q_cod qk70 rfl) (by decide) rfl ?_
  refine em_gR (q_cod qk70 rfl) (by decide) (by decide) hf (fun r8 hf => ?_)
  refine ev_ic (v := 0) (q_cod qk70 rfl) (by decide) (by decide) ?_
  refine ev_aload_n (q_cod qk70 rfl) (by decide) rfl ?_
  refine em_gR (q_cod qk70 rfl) (by decide) (by decide) hf (fun r9 hf => ?_)
  refine ev_ic (v := 0) (q_cod qk70 rfl) (by decide) (by decide) ?_
  refine ev_bi (v := 96) (q_cod qk70 rfl) (by decide) (by decide) ?_
  refine em_cp (q_cod qk70 rfl) (Nat.le_of_ble_eq_true rfl) hf (fun hf => ?_)
  refine ev_aload_n (q_cod qk70 rfl) (by decide) rfl ?_
  refine em_gR (q_cod qk70 rfl) (by decide) (by decide) hf (fun r10 hf => ?_)
  refine ev_ic (v := 0) (q_cod qk70 rfl) (by decide) (by decide) ?_
  refine ev_aload_n (q_cod qk70 rfl) (by decide) rfl ?_
  refine em_gR (q_cod qk70 rfl) (by decide) (by decide) hf (fun r11 hf => ?_)
  refine ev_ic (v := 0) (q_cod qk70 rfl) (by decide) (by decide) ?_
  refine ev_bi (v := 24) (q_cod qk70 rfl) (by decide) (by decide) ?_
  refine em_cp (q_cod qk70 rfl) (Nat.le_of_ble_eq_true rfl) hf (fun hf => ?_)
  refine ev_aload_n (q_cod qk70 rfl) (by decide) rfl ?_
  refine em_gR (q_cod qk70 rfl) (by decide) (by decide) hf (fun r12 hf => ?_)
  refine ev_ic (v := 0) (q_cod qk70 rfl) (by decide) (by decide) ?_
  refine ev_aload_n (q_cod qk70 rfl) (by decide) rfl ?_
  refine em_gR (q_cod qk70 rfl) (by decide) (by decide) hf (fun r13 hf => ?_)
  refine ev_ic (v := 0) (q_cod qk70 rfl) (by decide) (by decide) ?_
  refine ev_bi (v := 24) (q_cod qk70 rfl) (by decide) (by decide) ?_
  refine em_cp (q_cod qk70 rfl) (Nat.le_of_ble_eq_true rfl) hf (fun hf => ?_)
  refine ev_aload_n (q_cod qk70 rfl) (by decide) rfl ?_
  refine em_gR (q_cod qk70 rfl) (by decide) (by decide) hf (fun r14 hf => ?_)
  refine ev_ic (v := 0) (q_cod qk70 rfl) (by decide) (by decide) ?_
  refine ev_aload_n (q_cod qk70 rfl) (by decide) rfl ?_
  refine em_gR (q_cod qk70 rfl) (by decide) (by decide) hf (fun r15 hf => ?_)
  refine ev_ic (v := 0) (q_cod qk70 rfl) (by decide) (by decide) ?_
  refine ev_bi (v := 24) (q_cod qk70 rfl) (by decide) (by decide) ?_
  refine em_cp (q_cod qk70 rfl) (Nat.le_of_ble_eq_true rfl) hf (fun hf => ?_)
  refine ev_aload_n (q_cod qk70 rfl) (by decide) rfl ?_
  refine em_gR (q_cod qk70 rfl) (by decide) (by decide) hf (fun r16 hf => ?_)
  refine ev_ic (v := 0) (q_cod qk70 rfl) (by decide) (by decide) ?_
  refine ev_aload_n (q_cod qk70 rfl) (by decide) rfl ?_
  refine em_gR (q_cod qk70 rfl) (by decide) (by decide) hf (fun r17 hf => ?_)
  refine ev_ic (v := 0) (q_cod qk70 rfl) (by decide) (by decide) ?_
  refine ev_bi (v := 48) (q_cod qk70 rfl) (by decide) (by decide) ?_
  refine em_cp (q_cod qk70 rfl) (Nat.le_of_ble_eq_true rfl) hf (fun hf => ?_)
  refine ev_aload_n (q_cod qk70 rfl) (by decide) rfl ?_
  refine em_gR (q_cod qk70 rfl) (by decide) (by decide) hf (fun r18 hf => ?_)
  refine ev_ic (v := 0) (q_cod qk70 rfl) (by decide) (by decide) ?_
  refine ev_aload_n (q_cod qk70 rfl) (by decide) rfl ?_
  refine em_gR (q_cod qk70 rfl) (by decide) (by decide) hf (fun r19 hf => ?_)
  refine ev_ic (v := 0) (q_cod qk70 rfl) (by decide) (by decide) ?_
  refine ev_bi (v := 48) (q_cod qk70 rfl) (by decide) (by decide) ?_
  refine em_cp (q_cod qk70 rfl) (Nat.le_of_ble_eq_true rfl) hf (fun hf => ?_)
  refine ev_aload_n (q_cod qk70 rfl) (by decide) rfl ?_
  refine em_gR (q_cod qk70 rfl) (by decide) (by decide) hf (fun r20 hf => ?_)
  refine ev_ic (v := 0) (q_cod qk70 rfl) (by decide) (by decide) ?_
  refine ev_aload_n (q_cod qk70 rfl) (by decide) rfl ?_
  refine em_gR (q_cod qk70 rfl) (by decide) (by decide) hf (fun r21 hf => ?_)
  refine ev_ic (v := 0) (q_cod qk70 rfl) (by decide) (by decide) ?_
  refine ev_bi (v := 24) (q_cod qk70 rfl) (by decide) (by decide) ?_
  refine em_cp (q_cod qk70 rfl) (Nat.le_of_ble_eq_true rfl) hf (fun hf => ?_)
  refine ev_ic (v := 0) (q_cod qk70 rfl) (by decide) (by decide) ?_
  refine ev_is1 (L' := [(0, .ref l0), (1, .ref l1), (2, .int 0)]) (q_cod qk70 rfl) (by decide) rfl ?_
  exact (f70_166_ok hf hK)
theorem f70_cl {l0 : Nat} {l1 : Nat} {h : q_H} {x : Unit × q_H} (hf : f70 l0 l1 h = some x) : q_Cl 70 [.ref l0, .ref l1] h (.inl none) x.2 := q_Cl.of rfl (q_LvS rfl rfl) (f70_ok hf ⟨rfl, rfl⟩)
/-! SmithyBench$Program.addClass(I)I -/
theorem qk71 : q_cs.getD 71 [] = qc_71 := rfl
def f71_64 (l0 : Nat) (l2 : Int32) : m_M Int32 :=
  m_B (m_gI 7 l0 10) (fun v1 => m_B (m_pI 7 l0 10 (v1 + 1)) (fun _ => m_B (m_pZ 7 l0 14 0) (fun _ => m_R l2)))
theorem f71_64_ok {l0 : Nat} {l2 : Int32} {h : q_H} {o : q_O} {hz : q_H} {x : Int32 × q_H} (hf : f71_64 l0 l2 h = some x) (hK : (q_KI o hz) x) : q_Ev none 71 64 [(0, .ref l0), (2, .int l2)] [] h o hz := by
  unfold f71_64 at hf
  refine ev_aload_n (q_cod qk71 rfl) (by decide) rfl ?_
  refine ev_dup (q_cod qk71 rfl) (by decide) rfl ?_
  refine em_gI (q_cod qk71 rfl) (by decide) (by decide) hf (fun v1 hf => ?_)
  refine ev_ic (v := 1) (q_cod qk71 rfl) (by decide) (by decide) ?_
  refine ev_iadd (q_cod qk71 rfl) (by decide) ?_
  refine em_pI (q_cod qk71 rfl) (by decide) (by decide) (by decide) hf (fun hf => ?_)
  refine ev_aload_n (q_cod qk71 rfl) (by decide) rfl ?_
  refine ev_ic (v := 0) (q_cod qk71 rfl) (by decide) (by decide) ?_
  refine em_pZ (q_cod qk71 rfl) (by decide) (by decide) (by decide) hf (fun hf => ?_)
  refine ev_iload_n (q_cod qk71 rfl) (by decide) rfl ?_
  obtain rfl := m_R_inv hf
  obtain ⟨rfl, rfl⟩ := (show q_KI o hz (l2, _) from hK)
  exact ev_ret (q_cod qk71 rfl) rfl
def f71_39b (l0 : Nat) (l2 : Int32) (l3 : Int32) : m_M ((Nat × Int32 × Int32) ⊕ Int32) :=
  if l3 < 16 then (m_B (m_gR 7 l0 2) (fun r1 => m_B (m_wI r1 ((l2 * 16) + l3) (-3)) (fun _ => m_R (.inl (l0, l2, (l3 + 1)))))) else (m_B (f71_64 l0 l2) (fun r => m_R (.inr r)))
theorem f71_39b_ok {l0 : Nat} {l2 : Int32} {l3 : Int32} {h : q_H} {o : q_O} {hz : q_H} {x : ((Nat × Int32 × Int32) ⊕ Int32) × q_H} (hf : f71_39b l0 l2 l3 h = some x) (hK : (m_yK (fun (s : Nat × Int32 × Int32) (h : q_H) => q_Ev none 71 39 [(0, .ref (s.1)), (2, .int (s.2.1)), (3, .int (s.2.2))] [] h o hz) (q_KI o hz)) x) : q_Ev none 71 39 [(0, .ref l0), (2, .int l2), (3, .int l3)] [] h o hz := by
  unfold f71_39b at hf
  refine ev_iload_n (q_cod qk71 rfl) (by decide) rfl ?_
  refine ev_bi (v := 16) (q_cod qk71 rfl) (by decide) (by decide) ?_
  refine em_ic_ge (q_cod qk71 rfl) (by decide) hf (fun c2 hf => ?_) (fun c2 hf => ?_)
  · refine ev_aload_n (q_cod qk71 rfl) (by decide) rfl ?_
    refine em_gR (q_cod qk71 rfl) (by decide) (by decide) hf (fun r1 hf => ?_)
    refine ev_iload_n (q_cod qk71 rfl) (by decide) rfl ?_
    refine ev_bi (v := 16) (q_cod qk71 rfl) (by decide) (by decide) ?_
    refine ev_imul (q_cod qk71 rfl) (by decide) ?_
    refine ev_iload_n (q_cod qk71 rfl) (by decide) rfl ?_
    refine ev_iadd (q_cod qk71 rfl) (by decide) ?_
    refine ev_bi (v := (-3)) (q_cod qk71 rfl) (by decide) (by decide) ?_
    refine em_wI (q_cod qk71 rfl) (by decide) hf (fun hf => ?_)
    refine ev_inc (v := l3 + 1) (L' := [(0, .ref l0), (2, .int l2), (3, .int (l3 + 1))]) (q_cod qk71 rfl) (by decide) rfl rfl rfl ?_
    refine ev_goto (q_cod qk71 rfl) (by decide) ?_
    obtain rfl := m_R_inv hf
    exact (show q_Ev none 71 39 [(0, .ref l0), (2, .int l2), (3, .int (l3 + 1))] [] _ o hz from hK)
  · obtain ⟨y0, hf0, hx⟩ := m_inr_some hf
    subst hx
    exact ev_weak (q_pk [0, 1] rfl) (f71_64_ok hf0 hK)
def f71_39 (l0 : Nat) (l2 : Int32) (l3 : Int32) : m_M Int32 := m_W (fun s => f71_39b (s.1) (s.2.1) (s.2.2)) 1000000 (l0, l2, l3)
theorem f71_39_ok {l0 : Nat} {l2 : Int32} {l3 : Int32} {h : q_H} {o : q_O} {hz : q_H} {x : Int32 × q_H} (hf : f71_39 l0 l2 l3 h = some x) (hK : (q_KI o hz) x) : q_Ev none 71 39 [(0, .ref l0), (2, .int l2), (3, .int l3)] [] h o hz :=
  m_W_ok (P := (fun (s : Nat × Int32 × Int32) (h : q_H) => q_Ev none 71 39 [(0, .ref (s.1)), (2, .int (s.2.1)), (3, .int (s.2.2))] [] h o hz)) (K := (q_KI o hz)) (fun s h x h1 h2 => f71_39b_ok h1 h2) _ (l0, l2, l3) _ _ hf hK
def f71_35 (l0 : Nat) (l2 : Int32) (s0 : Nat) (s1 : Int32) (s2 : Int32) (s3 : Int32) : m_M Int32 :=
  m_B (m_wI s0 s1 (s2 ||| s3)) (fun _ => f71_39 l0 l2 0)
theorem f71_35_ok {l0 : Nat} {l2 : Int32} {s0 : Nat} {s1 : Int32} {s2 : Int32} {s3 : Int32} {h : q_H} {o : q_O} {hz : q_H} {x : Int32 × q_H} (hf : f71_35 l0 l2 s0 s1 s2 s3 h = some x) (hK : (q_KI o hz) x) : q_Ev none 71 35 [(0, .ref l0), (2, .int l2)] [.int s3, .int s2, .int s1, .ref s0] h o hz := by
  unfold f71_35 at hf
  refine ev_ior (q_cod qk71 rfl) (by decide) ?_
  refine em_wI (q_cod qk71 rfl) (by decide) hf (fun hf => ?_)
  refine ev_ic (v := 0) (q_cod qk71 rfl) (by decide) (by decide) ?_
  refine ev_is1 (L' := [(0, .ref l0), (2, .int l2), (3, .int 0)]) (q_cod qk71 rfl) (by decide) rfl ?_
  exact (f71_39_ok hf hK)
def f71 (l0 : Nat) (l1 : Int32) : m_M Int32 :=
  m_B (m_gI 7 l0 10) (fun v1 => m_B (m_gR 7 l0 0) (fun r2 => m_B (m_wI r2 v1 l1) (fun _ => m_B (m_gR 7 l0 1) (fun r3 => if l1 = (-1) then (f71_35 l0 v1 r3 v1 (1 <<< (v1 &&& 31)) 0) else (m_B (m_gR 7 l0 1) (fun r4 => m_B (m_lI r4 l1) (fun v5 => f71_35 l0 v1 r3 v1 (1 <<< (v1 &&& 31)) v5)))))))
theorem f71_ok {l0 : Nat} {l1 : Int32} {h : q_H} {o : q_O} {hz : q_H} {x : Int32 × q_H} (hf : f71 l0 l1 h = some x) (hK : (q_KI o hz) x) : q_Ev none 71 0 [(0, .ref l0), (1, .int l1)] [] h o hz := by
  unfold f71 at hf
  refine ev_aload_n (q_cod qk71 rfl) (by decide) rfl ?_
  refine em_gI (q_cod qk71 rfl) (by decide) (by decide) hf (fun v1 hf => ?_)
  refine ev_is1 (L' := [(0, .ref l0), (1, .int l1), (2, .int v1)]) (q_cod qk71 rfl) (by decide) rfl ?_
  refine ev_aload_n (q_cod qk71 rfl) (by decide) rfl ?_
  refine em_gR (q_cod qk71 rfl) (by decide) (by decide) hf (fun r2 hf => ?_)
  refine ev_iload_n (q_cod qk71 rfl) (by decide) rfl ?_
  refine ev_iload_n (q_cod qk71 rfl) (by decide) rfl ?_
  refine em_wI (q_cod qk71 rfl) (by decide) hf (fun hf => ?_)
  refine ev_aload_n (q_cod qk71 rfl) (by decide) rfl ?_
  refine em_gR (q_cod qk71 rfl) (by decide) (by decide) hf (fun r3 hf => ?_)
  refine ev_iload_n (q_cod qk71 rfl) (by decide) rfl ?_
  refine ev_ic (v := 1) (q_cod qk71 rfl) (by decide) (by decide) ?_
  refine ev_iload_n (q_cod qk71 rfl) (by decide) rfl ?_
  refine ev_ishl (q_cod qk71 rfl) (by decide) ?_
  refine ev_iload_n (q_cod qk71 rfl) (by decide) rfl ?_
  refine ev_ic (v := (-1)) (q_cod qk71 rfl) (by decide) (by decide) ?_
  refine em_ic_ne (q_cod qk71 rfl) (by decide) hf (fun c6 hf => ?_) (fun c6 hf => ?_)
  · refine ev_ic (v := 0) (q_cod qk71 rfl) (by decide) (by decide) ?_
    refine ev_goto (q_cod qk71 rfl) (by decide) ?_
    exact ev_weak (q_pk [0, 2] rfl) (f71_35_ok hf hK)
  · refine ev_aload_n (q_cod qk71 rfl) (by decide) rfl ?_
    refine em_gR (q_cod qk71 rfl) (by decide) (by decide) hf (fun r4 hf => ?_)
    refine ev_iload_n (q_cod qk71 rfl) (by decide) rfl ?_
    refine em_lI (q_cod qk71 rfl) (by decide) hf (fun v5 hf => ?_)
    exact ev_weak (q_pk [0, 2] rfl) (f71_35_ok hf hK)
theorem f71_cl {l0 : Nat} {l1 : Int32} {h : q_H} {x : Int32 × q_H} (hf : f71 l0 l1 h = some x) : q_Cl 71 [.ref l0, .int l1] h (.inl (some (.int x.1))) x.2 := q_Cl.of rfl (q_LvS rfl rfl) (f71_ok hf ⟨rfl, rfl⟩)
/-! SmithyBench$Program.addField(III)I -/
theorem qk72 : q_cs.getD 72 [] = qc_72 := rfl
def f72_50 (l0 : Nat) (l1 : Int32) (l4 : Int32) (l5 : Int32) : m_M ((Nat × Int32 × Int32 × Int32) ⊕ Int32) :=
  m_R (.inl (l0, l1, l4, (l5 + 1)))
theorem f72_50_ok {l0 : Nat} {l1 : Int32} {l4 : Int32} {l5 : Int32} {h : q_H} {o : q_O} {hz : q_H} {x : ((Nat × Int32 × Int32 × Int32) ⊕ Int32) × q_H} (hf : f72_50 l0 l1 l4 l5 h = some x) (hK : (m_yK (fun (s : Nat × Int32 × Int32 × Int32) (h : q_H) => q_Ev none 72 23 [(0, .ref (s.1)), (1, .int (s.2.1)), (4, .int (s.2.2.1)), (5, .int (s.2.2.2))] [] h o hz) (q_KI o hz)) x) : q_Ev none 72 50 [(0, .ref l0), (1, .int l1), (4, .int l4), (5, .int l5)] [] h o hz := by
  unfold f72_50 at hf
  refine ev_inc (v := l5 + 1) (L' := [(0, .ref l0), (1, .int l1), (4, .int l4), (5, .int (l5 + 1))]) (q_cod qk72 rfl) (by decide) rfl rfl rfl ?_
  refine ev_goto (q_cod qk72 rfl) (by decide) ?_
  obtain rfl := m_R_inv hf
  exact (show q_Ev none 72 23 [(0, .ref l0), (1, .int l1), (4, .int l4), (5, .int (l5 + 1))] [] _ o hz from hK)
def f72_56 (l4 : Int32) : m_M Int32 :=
  m_R l4
theorem f72_56_ok {l4 : Int32} {h : q_H} {o : q_O} {hz : q_H} {x : Int32 × q_H} (hf : f72_56 l4 h = some x) (hK : (q_KI o hz) x) : q_Ev none 72 56 [(4, .int l4)] [] h o hz := by
  unfold f72_56 at hf
  refine ev_iload (q_cod qk72 rfl) (by decide) rfl ?_
  obtain rfl := m_R_inv hf
  obtain ⟨rfl, rfl⟩ := (show q_KI o hz (l4, _) from hK)
  exact ev_ret (q_cod qk72 rfl) rfl
def f72_23b (l0 : Nat) (l1 : Int32) (l4 : Int32) (l5 : Int32) : m_M ((Nat × Int32 × Int32 × Int32) ⊕ Int32) :=
  if l5 < 16 then (m_B (m_gR 7 l0 2) (fun r1 => m_B (m_lI r1 ((l1 * 16) + l5)) (fun v2 => if v2 = (-3) then (f72_50 l0 l1 l4 l5) else (f72_50 l0 l1 (l4 + 1) l5)))) else (m_B (f72_56 l4) (fun r => m_R (.inr r)))
theorem f72_23b_ok {l0 : Nat} {l1 : Int32} {l4 : Int32} {l5 : Int32} {h : q_H} {o : q_O} {hz : q_H} {x : ((Nat × Int32 × Int32 × Int32) ⊕ Int32) × q_H} (hf : f72_23b l0 l1 l4 l5 h = some x) (hK : (m_yK (fun (s : Nat × Int32 × Int32 × Int32) (h : q_H) => q_Ev none 72 23 [(0, .ref (s.1)), (1, .int (s.2.1)), (4, .int (s.2.2.1)), (5, .int (s.2.2.2))] [] h o hz) (q_KI o hz)) x) : q_Ev none 72 23 [(0, .ref l0), (1, .int l1), (4, .int l4), (5, .int l5)] [] h o hz := by
  unfold f72_23b at hf
  refine ev_iload (q_cod qk72 rfl) (by decide) rfl ?_
  refine ev_bi (v := 16) (q_cod qk72 rfl) (by decide) (by decide) ?_
  refine em_ic_ge (q_cod qk72 rfl) (by decide) hf (fun c4 hf => ?_) (fun c4 hf => ?_)
  · refine ev_aload_n (q_cod qk72 rfl) (by decide) rfl ?_
    refine em_gR (q_cod qk72 rfl) (by decide) (by decide) hf (fun r1 hf => ?_)
    refine ev_iload_n (q_cod qk72 rfl) (by decide) rfl ?_
    refine ev_bi (v := 16) (q_cod qk72 rfl) (by decide) (by decide) ?_
    refine ev_imul (q_cod qk72 rfl) (by decide) ?_
    refine ev_iload (q_cod qk72 rfl) (by decide) rfl ?_
    refine ev_iadd (q_cod qk72 rfl) (by decide) ?_
    refine em_lI (q_cod qk72 rfl) (by decide) hf (fun v2 hf => ?_)
    refine ev_bi (v := (-3)) (q_cod qk72 rfl) (by decide) (by decide) ?_
    refine em_ic_eq (q_cod qk72 rfl) (by decide) hf (fun c3 hf => ?_) (fun c3 hf => ?_)
    · exact (f72_50_ok hf hK)
    · refine ev_inc (v := l4 + 1) (L' := [(0, .ref l0), (1, .int l1), (4, .int (l4 + 1)), (5, .int l5)]) (q_cod qk72 rfl) (by decide) rfl rfl rfl ?_
      exact (f72_50_ok hf hK)
  · obtain ⟨y0, hf0, hx⟩ := m_inr_some hf
    subst hx
    exact ev_weak (q_pk [2] rfl) (f72_56_ok hf0 hK)
def f72_23 (l0 : Nat) (l1 : Int32) (l4 : Int32) (l5 : Int32) : m_M Int32 := m_W (fun s => f72_23b (s.1) (s.2.1) (s.2.2.1) (s.2.2.2)) 1000000 (l0, l1, l4, l5)
theorem f72_23_ok {l0 : Nat} {l1 : Int32} {l4 : Int32} {l5 : Int32} {h : q_H} {o : q_O} {hz : q_H} {x : Int32 × q_H} (hf : f72_23 l0 l1 l4 l5 h = some x) (hK : (q_KI o hz) x) : q_Ev none 72 23 [(0, .ref l0), (1, .int l1), (4, .int l4), (5, .int l5)] [] h o hz :=
  m_W_ok (P := (fun (s : Nat × Int32 × Int32 × Int32) (h : q_H) => q_Ev none 72 23 [(0, .ref (s.1)), (1, .int (s.2.1)), (4, .int (s.2.2.1)), (5, .int (s.2.2.2))] [] h o hz)) (K := (q_KI o hz)) (fun s h x h1 h2 => f72_23b_ok h1 h2) _ (l0, l1, l4, l5) _ _ hf hK
def f72 (l0 : Nat) (l1 : Int32) (l2 : Int32) (l3 : Int32) : m_M Int32 :=
  m_B (m_gR 7 l0 2) (fun r1 => m_B (m_wI r1 ((l1 * 16) + l2) l3) (fun _ => m_B (m_pZ 7 l0 14 0) (fun _ => f72_23 l0 l1 0 0)))
theorem f72_ok {l0 : Nat} {l1 : Int32} {l2 : Int32} {l3 : Int32} {h : q_H} {o : q_O} {hz : q_H} {x : Int32 × q_H} (hf : f72 l0 l1 l2 l3 h = some x) (hK : (q_KI o hz) x) : q_Ev none 72 0 [(0, .ref l0), (1, .int l1), (2, .int l2), (3, .int l3)] [] h o hz := by
  unfold f72 at hf
  refine ev_aload_n (q_cod qk72 rfl) (by decide) rfl ?_
  refine em_gR (q_cod qk72 rfl) (by decide) (by decide) hf (fun r1 hf => ?_)
  refine ev_iload_n (q_cod qk72 rfl) (by decide) rfl ?_
  refine ev_bi (v := 16) (q_cod qk72 rfl) (by decide) (by decide) ?_
  refine ev_imul (q_cod qk72 rfl) (by decide) ?_
  refine ev_iload_n (q_cod qk72 rfl) (by decide) rfl ?_
  refine ev_iadd (q_cod qk72 rfl) (by decide) ?_
  refine ev_iload_n (q_cod qk72 rfl) (by decide) rfl ?_
  refine em_wI (q_cod qk72 rfl) (by decide) hf (fun hf => ?_)
  refine ev_aload_n (q_cod qk72 rfl) (by decide) rfl ?_
  refine ev_ic (v := 0) (q_cod qk72 rfl) (by decide) (by decide) ?_
  refine em_pZ (q_cod qk72 rfl) (by decide) (by decide) (by decide) hf (fun hf => ?_)
  refine ev_ic (v := 0) (q_cod qk72 rfl) (by decide) (by decide) ?_
  refine ev_is2 (L' := [(0, .ref l0), (1, .int l1), (2, .int l2), (3, .int l3), (4, .int 0)]) (q_cod qk72 rfl) (by decide) rfl ?_
  refine ev_ic (v := 0) (q_cod qk72 rfl) (by decide) (by decide) ?_
  refine ev_is2 (L' := [(0, .ref l0), (1, .int l1), (2, .int l2), (3, .int l3), (4, .int 0), (5, .int 0)]) (q_cod qk72 rfl) (by decide) rfl ?_
  exact ev_weak (q_pk [0, 1, 4, 5] rfl) (f72_23_ok hf hK)
theorem f72_cl {l0 : Nat} {l1 : Int32} {l2 : Int32} {l3 : Int32} {h : q_H} {x : Int32 × q_H} (hf : f72 l0 l1 l2 l3 h = some x) : q_Cl 72 [.ref l0, .int l1, .int l2, .int l3] h (.inl (some (.int x.1))) x.2 := q_Cl.of rfl (q_LvS rfl rfl) (f72_ok hf ⟨rfl, rfl⟩)
/-! SmithyBench$Program.moveField(III)V -/
theorem qk73 : q_cs.getD 73 [] = qc_73 := rfl
def f73 (l0 : Nat) (l1 : Int32) (l2 : Int32) (l3 : Int32) : m_M Unit :=
  m_B (m_gR 7 l0 2) (fun r1 => m_B (m_gR 7 l0 2) (fun r2 => m_B (m_lI r2 ((l1 * 16) + l2)) (fun v3 => m_B (m_wI r1 ((l1 * 16) + l3) v3) (fun _ => m_B (m_gR 7 l0 2) (fun r4 => m_B (m_wI r4 ((l1 * 16) + l2) (-3)) (fun _ => m_R ()))))))
theorem f73_ok {l0 : Nat} {l1 : Int32} {l2 : Int32} {l3 : Int32} {h : q_H} {o : q_O} {hz : q_H} {x : Unit × q_H} (hf : f73 l0 l1 l2 l3 h = some x) (hK : (m_KU o hz) x) : q_Ev none 73 0 [(0, .ref l0), (1, .int l1), (2, .int l2), (3, .int l3)] [] h o hz := by
  unfold f73 at hf
  refine ev_aload_n (q_cod qk73 rfl) (by decide) rfl ?_
  refine em_gR (q_cod qk73 rfl) (by decide) (by decide) hf (fun r1 hf => ?_)
  refine ev_iload_n (q_cod qk73 rfl) (by decide) rfl ?_
  refine ev_bi (v := 16) (q_cod qk73 rfl) (by decide) (by decide) ?_
  refine ev_imul (q_cod qk73 rfl) (by decide) ?_
  refine ev_iload_n (q_cod qk73 rfl) (by decide) rfl ?_
  refine ev_iadd (q_cod qk73 rfl) (by decide) ?_
  refine ev_aload_n (q_cod qk73 rfl) (by decide) rfl ?_
  refine em_gR (q_cod qk73 rfl) (by decide) (by decide) hf (fun r2 hf => ?_)
  refine ev_iload_n (q_cod qk73 rfl) (by decide) rfl ?_
  refine ev_bi (v := 16) (q_cod qk73 rfl) (by decide) (by decide) ?_
  refine ev_imul (q_cod qk73 rfl) (by decide) ?_
  refine ev_iload_n (q_cod qk73 rfl) (by decide) rfl ?_
  refine ev_iadd (q_cod qk73 rfl) (by decide) ?_
  refine em_lI (q_cod qk73 rfl) (by decide) hf (fun v3 hf => ?_)
  refine em_wI (q_cod qk73 rfl) (by decide) hf (fun hf => ?_)
  refine ev_aload_n (q_cod qk73 rfl) (by decide) rfl ?_
  refine em_gR (q_cod qk73 rfl) (by decide) (by decide) hf (fun r4 hf => ?_)
  refine ev_iload_n (q_cod qk73 rfl) (by decide) rfl ?_
  refine ev_bi (v := 16) (q_cod qk73 rfl) (by decide) (by decide) ?_
  refine ev_imul (q_cod qk73 rfl) (by decide) ?_
  refine ev_iload_n (q_cod qk73 rfl) (by decide) rfl ?_
  refine ev_iadd (q_cod qk73 rfl) (by decide) ?_
  refine ev_bi (v := (-3)) (q_cod qk73 rfl) (by decide) (by decide) ?_
  refine em_wI (q_cod qk73 rfl) (by decide) hf (fun hf => ?_)
  obtain rfl := m_R_inv hf
  obtain ⟨rfl, rfl⟩ := (show m_KU o hz ((), _) from hK)
  exact ev_ret (q_cod qk73 rfl) rfl
theorem f73_cl {l0 : Nat} {l1 : Int32} {l2 : Int32} {l3 : Int32} {h : q_H} {x : Unit × q_H} (hf : f73 l0 l1 l2 l3 h = some x) : q_Cl 73 [.ref l0, .int l1, .int l2, .int l3] h (.inl none) x.2 := q_Cl.of rfl (q_LvS rfl rfl) (f73_ok hf ⟨rfl, rfl⟩)
/-! SmithyBench$Program.dropParameterOf(II)V -/
theorem qk76 : q_cs.getD 76 [] = qc_76 := rfl
def f76_40 (l0 : Nat) (l1 : Int32) : m_M Unit :=
  m_B (m_gR 7 l0 6) (fun r1 => m_B (m_wI r1 ((l1 * 2) + 1) (-1)) (fun _ => m_B (m_gR 7 l0 5) (fun r2 => m_B (m_lI r2 l1) (fun v3 => m_B (m_wI r2 l1 (v3 - 1)) (fun _ => m_R ())))))
theorem f76_40_ok {l0 : Nat} {l1 : Int32} {h : q_H} {o : q_O} {hz : q_H} {x : Unit × q_H} (hf : f76_40 l0 l1 h = some x) (hK : (m_KU o hz) x) : q_Ev none 76 40 [(0, .ref l0), (1, .int l1)] [] h o hz := by
  unfold f76_40 at hf
  refine ev_aload_n (q_cod qk76 rfl) (by decide) rfl ?_
  refine em_gR (q_cod qk76 rfl) (by decide) (by decide) hf (fun r1 hf => ?_)
  refine ev_iload_n (q_cod qk76 rfl) (by decide) rfl ?_
  refine ev_ic (v := 2) (q_cod qk76 rfl) (by decide) (by decide) ?_
  refine ev_imul (q_cod qk76 rfl) (by decide) ?_
  refine ev_ic (v := 1) (q_cod qk76 rfl) (by decide) (by decide) ?_
  refine ev_iadd (q_cod qk76 rfl) (by decide) ?_
  refine ev_ic (v := (-1)) (q_cod qk76 rfl) (by decide) (by decide) ?_
  refine em_wI (q_cod qk76 rfl) (by decide) hf (fun hf => ?_)
  refine ev_aload_n (q_cod qk76 rfl) (by decide) rfl ?_
  refine em_gR (q_cod qk76 rfl) (by decide) (by decide) hf (fun r2 hf => ?_)
  refine ev_iload_n (q_cod qk76 rfl) (by decide) rfl ?_
  refine ev_dup2 (q_cod qk76 rfl) (by decide) rfl rfl ?_
  refine em_lI (q_cod qk76 rfl) (by decide) hf (fun v3 hf => ?_)
  refine ev_ic (v := 1) (q_cod qk76 rfl) (by decide) (by decide) ?_
  refine ev_isub (q_cod qk76 rfl) (by decide) ?_
  refine em_wI (q_cod qk76 rfl) (by decide) hf (fun hf => ?_)
  obtain rfl := m_R_inv hf
  obtain ⟨rfl, rfl⟩ := (show m_KU o hz ((), _) from hK)
  exact ev_ret (q_cod qk76 rfl) rfl
def f76 (l0 : Nat) (l1 : Int32) (l2 : Int32) : m_M Unit :=
  if l2 = 0 then (m_B (m_gR 7 l0 6) (fun r1 => m_B (m_gR 7 l0 6) (fun r2 => m_B (m_lI r2 ((l1 * 2) + 1)) (fun v3 => m_B (m_wI r1 (l1 * 2) v3) (fun _ => m_B (m_gR 7 l0 7) (fun r4 => m_B (m_gR 7 l0 7) (fun r5 => m_B (m_lI r5 ((l1 * 2) + 1)) (fun v6 => m_B (m_wI r4 (l1 * 2) v6) (fun _ => f76_40 l0 l1))))))))) else (f76_40 l0 l1)
theorem f76_ok {l0 : Nat} {l1 : Int32} {l2 : Int32} {h : q_H} {o : q_O} {hz : q_H} {x : Unit × q_H} (hf : f76 l0 l1 l2 h = some x) (hK : (m_KU o hz) x) : q_Ev none 76 0 [(0, .ref l0), (1, .int l1), (2, .int l2)] [] h o hz := by
  unfold f76 at hf
  refine ev_iload_n (q_cod qk76 rfl) (by decide) rfl ?_
  refine em_if_ne (q_cod qk76 rfl) (by decide) hf (fun c7 hf => ?_) (fun c7 hf => ?_)
  · refine ev_aload_n (q_cod qk76 rfl) (by decide) rfl ?_
    refine em_gR (q_cod qk76 rfl) (by decide) (by decide) hf (fun r1 hf => ?_)
    refine ev_iload_n (q_cod qk76 rfl) (by decide) rfl ?_
    refine ev_ic (v := 2) (q_cod qk76 rfl) (by decide) (by decide) ?_
    refine ev_imul (q_cod qk76 rfl) (by decide) ?_
    refine ev_aload_n (q_cod qk76 rfl) (by decide) rfl ?_
    refine em_gR (q_cod qk76 rfl) (by decide) (by decide) hf (fun r2 hf => ?_)
    refine ev_iload_n (q_cod qk76 rfl) (by decide) rfl ?_
    refine ev_ic (v := 2) (q_cod qk76 rfl) (by decide) (by decide) ?_
    refine ev_imul (q_cod qk76 rfl) (by decide) ?_
    refine ev_ic (v := 1) (q_cod qk76 rfl) (by decide) (by decide) ?_
    refine ev_iadd (q_cod qk76 rfl) (by decide) ?_
    refine em_lI (q_cod qk76 rfl) (by decide) hf (fun v3 hf => ?_)
    refine em_wI (q_cod qk76 rfl) (by decide) hf (fun hf => ?_)
    refine ev_aload_n (q_cod qk76 rfl) (by decide) rfl ?_
    refine em_gR (q_cod qk76 rfl) (by decide) (by decide) hf (fun r4 hf => ?_)
    refine ev_iload_n (q_cod qk76 rfl) (by decide) rfl ?_
    refine ev_ic (v := 2) (q_cod qk76 rfl) (by decide) (by decide) ?_
    refine ev_imul (q_cod qk76 rfl) (by decide) ?_
    refine ev_aload_n (q_cod qk76 rfl) (by decide) rfl ?_
    refine em_gR (q_cod qk76 rfl) (by decide) (by decide) hf (fun r5 hf => ?_)
    refine ev_iload_n (q_cod qk76 rfl) (by decide) rfl ?_
    refine ev_ic (v := 2) (q_cod qk76 rfl) (by decide) (by decide) ?_
    refine ev_imul (q_cod qk76 rfl) (by decide) ?_
    refine ev_ic (v := 1) (q_cod qk76 rfl) (by decide) (by decide) ?_
    refine ev_iadd (q_cod qk76 rfl) (by decide) ?_
    refine em_lI (q_cod qk76 rfl) (by decide) hf (fun v6 hf => ?_)
    refine em_wI (q_cod qk76 rfl) (by decide) hf (fun hf => ?_)
    exact ev_weak (q_pk [0, 1] rfl) (f76_40_ok hf hK)
  · exact ev_weak (q_pk [0, 1] rfl) (f76_40_ok hf hK)
theorem f76_cl {l0 : Nat} {l1 : Int32} {l2 : Int32} {h : q_H} {x : Unit × q_H} (hf : f76 l0 l1 l2 h = some x) : q_Cl 76 [.ref l0, .int l1, .int l2] h (.inl none) x.2 := q_Cl.of rfl (q_LvS rfl rfl) (f76_ok hf ⟨rfl, rfl⟩)
/-! SmithyBench$Program.isClass(I)Z -/
theorem qk78 : q_cs.getD 78 [] = qc_78 := rfl
def f78_17 (s0 : Int32) : m_M Int32 :=
  m_B (m_G (s0 = 0 ∨ s0 = 1)) (fun _ => m_R s0)
theorem f78_17_ok {s0 : Int32} {h : q_H} {o : q_O} {hz : q_H} {x : Int32 × q_H} (hf : f78_17 s0 h = some x) (hK : (q_KI o hz) x) : q_Ev none 78 17 [] [.int s0] h o hz := by
  unfold f78_17 at hf
  obtain ⟨g1, hf⟩ := m_G_some hf
  obtain rfl := m_R_inv hf
  obtain ⟨rfl, rfl⟩ := (show q_KI o hz (s0, _) from hK)
  exact ev_ret (q_cod qk78 rfl) (q_retZ g1)
def f78_16  : m_M Int32 :=
  f78_17 0
theorem f78_16_ok  {h : q_H} {o : q_O} {hz : q_H} {x : Int32 × q_H} (hf : f78_16 h = some x) (hK : (q_KI o hz) x) : q_Ev none 78 16 [] [] h o hz := by
  unfold f78_16 at hf
  refine ev_ic (v := 0) (q_cod qk78 rfl) (by decide) (by decide) ?_
  exact (f78_17_ok hf hK)
def f78 (l0 : Nat) (l1 : Int32) : m_M Int32 :=
  if l1 < 0 then (f78_16) else (m_B (m_gI 7 l0 10) (fun v1 => if l1 < v1 then (f78_17 1) else (f78_16)))
theorem f78_ok {l0 : Nat} {l1 : Int32} {h : q_H} {o : q_O} {hz : q_H} {x : Int32 × q_H} (hf : f78 l0 l1 h = some x) (hK : (q_KI o hz) x) : q_Ev none 78 0 [(0, .ref l0), (1, .int l1)] [] h o hz := by
  unfold f78 at hf
  refine ev_iload_n (q_cod qk78 rfl) (by decide) rfl ?_
  refine em_if_lt (q_cod qk78 rfl) (by decide) hf (fun c3 hf => ?_) (fun c3 hf => ?_)
  · exact ev_weak (q_pk [] rfl) (f78_16_ok hf hK)
  · refine ev_iload_n (q_cod qk78 rfl) (by decide) rfl ?_
    refine ev_aload_n (q_cod qk78 rfl) (by decide) rfl ?_
    refine em_gI (q_cod qk78 rfl) (by decide) (by decide) hf (fun v1 hf => ?_)
    refine em_ic_ge (q_cod qk78 rfl) (by decide) hf (fun c2 hf => ?_) (fun c2 hf => ?_)
    · refine ev_ic (v := 1) (q_cod qk78 rfl) (by decide) (by decide) ?_
      refine ev_goto (q_cod qk78 rfl) (by decide) ?_
      exact ev_weak (q_pk [] rfl) (f78_17_ok hf hK)
    · exact ev_weak (q_pk [] rfl) (f78_16_ok hf hK)
theorem f78_cl {l0 : Nat} {l1 : Int32} {h : q_H} {x : Int32 × q_H} (hf : f78 l0 l1 h = some x) : q_Cl 78 [.ref l0, .int l1] h (.inl (some (.int x.1))) x.2 := q_Cl.of rfl (q_LvS rfl rfl) (f78_ok hf ⟨rfl, rfl⟩)
/-! SmithyBench$Program.hasMethod(I)Z -/
theorem qk80 : q_cs.getD 80 [] = qc_80 := rfl
def f80_25 (s0 : Int32) : m_M Int32 :=
  m_B (m_G (s0 = 0 ∨ s0 = 1)) (fun _ => m_R s0)
theorem f80_25_ok {s0 : Int32} {h : q_H} {o : q_O} {hz : q_H} {x : Int32 × q_H} (hf : f80_25 s0 h = some x) (hK : (q_KI o hz) x) : q_Ev none 80 25 [] [.int s0] h o hz := by
  unfold f80_25 at hf
  obtain ⟨g1, hf⟩ := m_G_some hf
  obtain rfl := m_R_inv hf
  obtain ⟨rfl, rfl⟩ := (show q_KI o hz (s0, _) from hK)
  exact ev_ret (q_cod qk80 rfl) (q_retZ g1)
def f80_24  : m_M Int32 :=
  f80_25 0
theorem f80_24_ok  {h : q_H} {o : q_O} {hz : q_H} {x : Int32 × q_H} (hf : f80_24 h = some x) (hK : (q_KI o hz) x) : q_Ev none 80 24 [] [] h o hz := by
  unfold f80_24 at hf
  refine ev_ic (v := 0) (q_cod qk80 rfl) (by decide) (by decide) ?_
  exact (f80_25_ok hf hK)
def f80 (l0 : Nat) (l1 : Int32) : m_M Int32 :=
  if l1 < 0 then (f80_24) else (m_B (m_gI 7 l0 11) (fun v1 => if l1 < v1 then (m_B (m_aK l0 7) (fun _ => m_B (f79 l0 l1) (fun v3 => if v3 = 0 then (f80_24) else (f80_25 1)))) else (f80_24)))
theorem f80_ok {l0 : Nat} {l1 : Int32} {h : q_H} {o : q_O} {hz : q_H} {x : Int32 × q_H} (hf : f80 l0 l1 h = some x) (hK : (q_KI o hz) x) : q_Ev none 80 0 [(0, .ref l0), (1, .int l1)] [] h o hz := by
  unfold f80 at hf
  refine ev_iload_n (q_cod qk80 rfl) (by decide) rfl ?_
  refine em_if_lt (q_cod qk80 rfl) (by decide) hf (fun c6 hf => ?_) (fun c6 hf => ?_)
  · exact ev_weak (q_pk [] rfl) (f80_24_ok hf hK)
  · refine ev_iload_n (q_cod qk80 rfl) (by decide) rfl ?_
    refine ev_aload_n (q_cod qk80 rfl) (by decide) rfl ?_
    refine em_gI (q_cod qk80 rfl) (by decide) (by decide) hf (fun v1 hf => ?_)
    refine em_ic_ge (q_cod qk80 rfl) (by decide) hf (fun c5 hf => ?_) (fun c5 hf => ?_)
    · refine ev_aload_n (q_cod qk80 rfl) (by decide) rfl ?_
      refine ev_iload_n (q_cod qk80 rfl) (by decide) rfl ?_
      obtain ⟨g2, hf⟩ := m_aK_some hf
      refine em_call (v := (fun u => some (.int u))) (q_cod qk80 rfl) rfl rfl (q_cokV rfl rfl (Or.inr g2)) rfl (fun x e => f79_cl e) hf (fun v3 h hf => ?_)
      refine em_if_eq (q_cod qk80 rfl) (by decide) hf (fun c4 hf => ?_) (fun c4 hf => ?_)
      · exact ev_weak (q_pk [] rfl) (f80_24_ok hf hK)
      · refine ev_ic (v := 1) (q_cod qk80 rfl) (by decide) (by decide) ?_
        refine ev_goto (q_cod qk80 rfl) (by decide) ?_
        exact ev_weak (q_pk [] rfl) (f80_25_ok hf hK)
    · exact ev_weak (q_pk [] rfl) (f80_24_ok hf hK)
theorem f80_cl {l0 : Nat} {l1 : Int32} {h : q_H} {x : Int32 × q_H} (hf : f80 l0 l1 h = some x) : q_Cl 80 [.ref l0, .int l1] h (.inl (some (.int x.1))) x.2 := q_Cl.of rfl (q_LvS rfl rfl) (f80_ok hf ⟨rfl, rfl⟩)
/-! java/lang/Integer.bitCount(I)I -/
theorem qk309 : q_cs.getD 309 [] = qc_309 := rfl
def f309 (l0 : Int32) : m_M Int32 :=
  m_R ((((((((l0 - ((q_ush l0 1) &&& (Int32.ofNat 1431655765))) &&& (Int32.ofNat 858993459)) + ((q_ush (l0 - ((q_ush l0 1) &&& (Int32.ofNat 1431655765))) 2) &&& (Int32.ofNat 858993459))) + (q_ush (((l0 - ((q_ush l0 1) &&& (Int32.ofNat 1431655765))) &&& (Int32.ofNat 858993459)) + ((q_ush (l0 - ((q_ush l0 1) &&& (Int32.ofNat 1431655765))) 2) &&& (Int32.ofNat 858993459))) 4)) &&& (Int32.ofNat 252645135)) + (q_ush (((((l0 - ((q_ush l0 1) &&& (Int32.ofNat 1431655765))) &&& (Int32.ofNat 858993459)) + ((q_ush (l0 - ((q_ush l0 1) &&& (Int32.ofNat 1431655765))) 2) &&& (Int32.ofNat 858993459))) + (q_ush (((l0 - ((q_ush l0 1) &&& (Int32.ofNat 1431655765))) &&& (Int32.ofNat 858993459)) + ((q_ush (l0 - ((q_ush l0 1) &&& (Int32.ofNat 1431655765))) 2) &&& (Int32.ofNat 858993459))) 4)) &&& (Int32.ofNat 252645135)) 8)) + (q_ush ((((((l0 - ((q_ush l0 1) &&& (Int32.ofNat 1431655765))) &&& (Int32.ofNat 858993459)) + ((q_ush (l0 - ((q_ush l0 1) &&& (Int32.ofNat 1431655765))) 2) &&& (Int32.ofNat 858993459))) + (q_ush (((l0 - ((q_ush l0 1) &&& (Int32.ofNat 1431655765))) &&& (Int32.ofNat 858993459)) + ((q_ush (l0 - ((q_ush l0 1) &&& (Int32.ofNat 1431655765))) 2) &&& (Int32.ofNat 858993459))) 4)) &&& (Int32.ofNat 252645135)) + (q_ush (((((l0 - ((q_ush l0 1) &&& (Int32.ofNat 1431655765))) &&& (Int32.ofNat 858993459)) + ((q_ush (l0 - ((q_ush l0 1) &&& (Int32.ofNat 1431655765))) 2) &&& (Int32.ofNat 858993459))) + (q_ush (((l0 - ((q_ush l0 1) &&& (Int32.ofNat 1431655765))) &&& (Int32.ofNat 858993459)) + ((q_ush (l0 - ((q_ush l0 1) &&& (Int32.ofNat 1431655765))) 2) &&& (Int32.ofNat 858993459))) 4)) &&& (Int32.ofNat 252645135)) 8)) 16)) &&& 63)
theorem f309_ok {l0 : Int32} {h : q_H} {o : q_O} {hz : q_H} {x : Int32 × q_H} (hf : f309 l0 h = some x) (hK : (q_KI o hz) x) : q_Ev none 309 0 [(0, .int l0)] [] h o hz := by
  unfold f309 at hf
  refine ev_iload_n (q_cod qk309 rfl) (by decide) rfl ?_
  refine ev_iload_n (q_cod qk309 rfl) (by decide) rfl ?_
  refine ev_ic (v := 1) (q_cod qk309 rfl) (by decide) (by decide) ?_
  refine ev_iushr (q_cod qk309 rfl) (by decide) ?_
  refine ev_ldc_w (q_cod qk309 rfl) ?_
  refine ev_iand (q_cod qk309 rfl) (by decide) ?_
  refine ev_isub (q_cod qk309 rfl) (by decide) ?_
  refine ev_is1 (L' := [(0, .int (l0 - ((q_ush l0 1) &&& (Int32.ofNat 1431655765))))]) (q_cod qk309 rfl) (by decide) rfl ?_
  refine ev_iload_n (q_cod qk309 rfl) (by decide) rfl ?_
  refine ev_ldc_w (q_cod qk309 rfl) ?_
  refine ev_iand (q_cod qk309 rfl) (by decide) ?_
  refine ev_iload_n (q_cod qk309 rfl) (by decide) rfl ?_
  refine ev_ic (v := 2) (q_cod qk309 rfl) (by decide) (by decide) ?_
  refine ev_iushr (q_cod qk309 rfl) (by decide) ?_
  refine ev_ldc_w (q_cod qk309 rfl) ?_
  refine ev_iand (q_cod qk309 rfl) (by decide) ?_
  refine ev_iadd (q_cod qk309 rfl) (by decide) ?_
  refine ev_is1 (L' := [(0, .int (((l0 - ((q_ush l0 1) &&& (Int32.ofNat 1431655765))) &&& (Int32.ofNat 858993459)) + ((q_ush (l0 - ((q_ush l0 1) &&& (Int32.ofNat 1431655765))) 2) &&& (Int32.ofNat 858993459))))]) (q_cod qk309 rfl) (by decide) rfl ?_
  refine ev_iload_n (q_cod qk309 rfl) (by decide) rfl ?_
  refine ev_iload_n (q_cod qk309 rfl) (by decide) rfl ?_
  refine ev_ic (v := 4) (q_cod qk309 rfl) (by decide) (by decide) ?_
  refine ev_iushr (q_cod qk309 rfl) (by decide) ?_
  refine ev_iadd (q_cod qk309 rfl) (by decide) ?_
  refine ev_ldc_w (q_cod qk309 rfl) ?_
  refine ev_iand (q_cod qk309 rfl) (by decide) ?_
  refine ev_is1 (L' := [(0, .int (((((l0 - ((q_ush l0 1) &&& (Int32.ofNat 1431655765))) &&& (Int32.ofNat 858993459)) + ((q_ush (l0 - ((q_ush l0 1) &&& (Int32.ofNat 1431655765))) 2) &&& (Int32.ofNat 858993459))) + (q_ush (((l0 - ((q_ush l0 1) &&& (Int32.ofNat 1431655765))) &&& (Int32.ofNat 858993459)) + ((q_ush (l0 - ((q_ush l0 1) &&& (Int32.ofNat 1431655765))) 2) &&& (Int32.ofNat 858993459))) 4)) &&& (Int32.ofNat 252645135)))]) (q_cod qk309 rfl) (by decide) rfl ?_
  refine ev_iload_n (q_cod qk309 rfl) (by decide) rfl ?_
  refine ev_iload_n (q_cod qk309 rfl) (by decide) rfl ?_
  refine ev_bi (v := 8) (q_cod qk309 rfl) (by decide) (by decide) ?_
  refine ev_iushr (q_cod qk309 rfl) (by decide) ?_
  refine ev_iadd (q_cod qk309 rfl) (by decide) ?_
  refine ev_is1 (L' := [(0, .int ((((((l0 - ((q_ush l0 1) &&& (Int32.ofNat 1431655765))) &&& (Int32.ofNat 858993459)) + ((q_ush (l0 - ((q_ush l0 1) &&& (Int32.ofNat 1431655765))) 2) &&& (Int32.ofNat 858993459))) + (q_ush (((l0 - ((q_ush l0 1) &&& (Int32.ofNat 1431655765))) &&& (Int32.ofNat 858993459)) + ((q_ush (l0 - ((q_ush l0 1) &&& (Int32.ofNat 1431655765))) 2) &&& (Int32.ofNat 858993459))) 4)) &&& (Int32.ofNat 252645135)) + (q_ush (((((l0 - ((q_ush l0 1) &&& (Int32.ofNat 1431655765))) &&& (Int32.ofNat 858993459)) + ((q_ush (l0 - ((q_ush l0 1) &&& (Int32.ofNat 1431655765))) 2) &&& (Int32.ofNat 858993459))) + (q_ush (((l0 - ((q_ush l0 1) &&& (Int32.ofNat 1431655765))) &&& (Int32.ofNat 858993459)) + ((q_ush (l0 - ((q_ush l0 1) &&& (Int32.ofNat 1431655765))) 2) &&& (Int32.ofNat 858993459))) 4)) &&& (Int32.ofNat 252645135)) 8)))]) (q_cod qk309 rfl) (by decide) rfl ?_
  refine ev_iload_n (q_cod qk309 rfl) (by decide) rfl ?_
  refine ev_iload_n (q_cod qk309 rfl) (by decide) rfl ?_
  refine ev_bi (v := 16) (q_cod qk309 rfl) (by decide) (by decide) ?_
  refine ev_iushr (q_cod qk309 rfl) (by decide) ?_
  refine ev_iadd (q_cod qk309 rfl) (by decide) ?_
  refine ev_is1 (L' := [(0, .int (((((((l0 - ((q_ush l0 1) &&& (Int32.ofNat 1431655765))) &&& (Int32.ofNat 858993459)) + ((q_ush (l0 - ((q_ush l0 1) &&& (Int32.ofNat 1431655765))) 2) &&& (Int32.ofNat 858993459))) + (q_ush (((l0 - ((q_ush l0 1) &&& (Int32.ofNat 1431655765))) &&& (Int32.ofNat 858993459)) + ((q_ush (l0 - ((q_ush l0 1) &&& (Int32.ofNat 1431655765))) 2) &&& (Int32.ofNat 858993459))) 4)) &&& (Int32.ofNat 252645135)) + (q_ush (((((l0 - ((q_ush l0 1) &&& (Int32.ofNat 1431655765))) &&& (Int32.ofNat 858993459)) + ((q_ush (l0 - ((q_ush l0 1) &&& (Int32.ofNat 1431655765))) 2) &&& (Int32.ofNat 858993459))) + (q_ush (((l0 - ((q_ush l0 1) &&& (Int32.ofNat 1431655765))) &&& (Int32.ofNat 858993459)) + ((q_ush (l0 - ((q_ush l0 1) &&& (Int32.ofNat 1431655765))) 2) &&& (Int32.ofNat 858993459))) 4)) &&& (Int32.ofNat 252645135)) 8)) + (q_ush ((((((l0 - ((q_ush l0 1) &&& (Int32.ofNat 1431655765))) &&& (Int32.ofNat 858993459)) + ((q_ush (l0 - ((q_ush l0 1) &&& (Int32.ofNat 1431655765))) 2) &&& (Int32.ofNat 858993459))) + (q_ush (((l0 - ((q_ush l0 1) &&& (Int32.ofNat 1431655765))) &&& (Int32.ofNat 858993459)) + ((q_ush (l0 - ((q_ush l0 1) &&& (Int32.ofNat 1431655765))) 2) &&& (Int32.ofNat 858993459))) 4)) &&& (Int32.ofNat 252645135)) + (q_ush (((((l0 - ((q_ush l0 1) &&& (Int32.ofNat 1431655765))) &&& (Int32.ofNat 858993459)) + ((q_ush (l0 - ((q_ush l0 1) &&& (Int32.ofNat 1431655765))) 2) &&& (Int32.ofNat 858993459))) + (q_ush (((l0 - ((q_ush l0 1) &&& (Int32.ofNat 1431655765))) &&& (Int32.ofNat 858993459)) + ((q_ush (l0 - ((q_ush l0 1) &&& (Int32.ofNat 1431655765))) 2) &&& (Int32.ofNat 858993459))) 4)) &&& (Int32.ofNat 252645135)) 8)) 16)))]) (q_cod qk309 rfl) (by decide) rfl ?_
  refine ev_iload_n (q_cod qk309 rfl) (by decide) rfl ?_
  refine ev_bi (v := 63) (q_cod qk309 rfl) (by decide) (by decide) ?_
  refine ev_iand (q_cod qk309 rfl) (by decide) ?_
  obtain rfl := m_R_inv hf
  obtain ⟨rfl, rfl⟩ := (show q_KI o hz (((((((((l0 - ((q_ush l0 1) &&& (Int32.ofNat 1431655765))) &&& (Int32.ofNat 858993459)) + ((q_ush (l0 - ((q_ush l0 1) &&& (Int32.ofNat 1431655765))) 2) &&& (Int32.ofNat 858993459))) + (q_ush (((l0 - ((q_ush l0 1) &&& (Int32.ofNat 1431655765))) &&& (Int32.ofNat 858993459)) + ((q_ush (l0 - ((q_ush l0 1) &&& (Int32.ofNat 1431655765))) 2) &&& (Int32.ofNat 858993459))) 4)) &&& (Int32.ofNat 252645135)) + (q_ush (((((l0 - ((q_ush l0 1) &&& (Int32.ofNat 1431655765))) &&& (Int32.ofNat 858993459)) + ((q_ush (l0 - ((q_ush l0 1) &&& (Int32.ofNat 1431655765))) 2) &&& (Int32.ofNat 858993459))) + (q_ush (((l0 - ((q_ush l0 1) &&& (Int32.ofNat 1431655765))) &&& (Int32.ofNat 858993459)) + ((q_ush (l0 - ((q_ush l0 1) &&& (Int32.ofNat 1431655765))) 2) &&& (Int32.ofNat 858993459))) 4)) &&& (Int32.ofNat 252645135)) 8)) + (q_ush ((((((l0 - ((q_ush l0 1) &&& (Int32.ofNat 1431655765))) &&& (Int32.ofNat 858993459)) + ((q_ush (l0 - ((q_ush l0 1) &&& (Int32.ofNat 1431655765))) 2) &&& (Int32.ofNat 858993459))) + (q_ush (((l0 - ((q_ush l0 1) &&& (Int32.ofNat 1431655765))) &&& (Int32.ofNat 858993459)) + ((q_ush (l0 - ((q_ush l0 1) &&& (Int32.ofNat 1431655765))) 2) &&& (Int32.ofNat 858993459))) 4)) &&& (Int32.ofNat 252645135)) + (q_ush (((((l0 - ((q_ush l0 1) &&& (Int32.ofNat 1431655765))) &&& (Int32.ofNat 858993459)) + ((q_ush (l0 - ((q_ush l0 1) &&& (Int32.ofNat 1431655765))) 2) &&& (Int32.ofNat 858993459))) + (q_ush (((l0 - ((q_ush l0 1) &&& (Int32.ofNat 1431655765))) &&& (Int32.ofNat 858993459)) + ((q_ush (l0 - ((q_ush l0 1) &&& (Int32.ofNat 1431655765))) 2) &&& (Int32.ofNat 858993459))) 4)) &&& (Int32.ofNat 252645135)) 8)) 16)) &&& 63), _) from hK)
  exact ev_ret (q_cod qk309 rfl) rfl
theorem f309_cl {l0 : Int32} {h : q_H} {x : Int32 × q_H} (hf : f309 l0 h = some x) : q_Cl 309 [.int l0] h (.inl (some (.int x.1))) x.2 := q_Cl.of rfl (q_LvS rfl rfl) (f309_ok hf ⟨rfl, rfl⟩)
/-! SmithyBench$Program.countMethods()I -/
theorem qk81 : q_cs.getD 81 [] = qc_81 := rfl
def f81 (l0 : Nat) : m_M Int32 :=
  m_B (m_gI 7 l0 12) (fun v1 => m_B (f309 v1) (fun v2 => m_R v2))
theorem f81_ok {l0 : Nat} {h : q_H} {o : q_O} {hz : q_H} {x : Int32 × q_H} (hf : f81 l0 h = some x) (hK : (q_KI o hz) x) : q_Ev none 81 0 [(0, .ref l0)] [] h o hz := by
  unfold f81 at hf
  refine ev_aload_n (q_cod qk81 rfl) (by decide) rfl ?_
  refine em_gI (q_cod qk81 rfl) (by decide) (by decide) hf (fun v1 hf => ?_)
  refine em_call (v := (fun u => some (.int u))) (q_cod qk81 rfl) rfl rfl (q_cokS rfl rfl) rfl (fun x e => f309_cl e) hf (fun v2 h hf => ?_)
  obtain rfl := m_R_inv hf
  obtain ⟨rfl, rfl⟩ := (show q_KI o hz (v2, _) from hK)
  exact ev_ret (q_cod qk81 rfl) rfl
theorem f81_cl {l0 : Nat} {h : q_H} {x : Int32 × q_H} (hf : f81 l0 h = some x) : q_Cl 81 [.ref l0] h (.inl (some (.int x.1))) x.2 := q_Cl.of rfl (q_LvS rfl rfl) (f81_ok hf ⟨rfl, rfl⟩)
/-! SmithyBench$Program.hasAkinField(II)Z -/
theorem qk87 : q_cs.getD 87 [] = qc_87 := rfl
def f87_37 (l0 : Nat) (l1 : Int32) (l2 : Int32) (l3 : Int32) : m_M ((Nat × Int32 × Int32 × Int32) ⊕ Int32) :=
  m_R (.inl (l0, l1, l2, (l3 + 1)))
theorem f87_37_ok {l0 : Nat} {l1 : Int32} {l2 : Int32} {l3 : Int32} {h : q_H} {o : q_O} {hz : q_H} {x : ((Nat × Int32 × Int32 × Int32) ⊕ Int32) × q_H} (hf : f87_37 l0 l1 l2 l3 h = some x) (hK : (m_yK (fun (s : Nat × Int32 × Int32 × Int32) (h : q_H) => q_Ev none 87 2 [(0, .ref (s.1)), (1, .int (s.2.1)), (2, .int (s.2.2.1)), (3, .int (s.2.2.2))] [] h o hz) (q_KI o hz)) x) : q_Ev none 87 37 [(0, .ref l0), (1, .int l1), (2, .int l2), (3, .int l3)] [] h o hz := by
  unfold f87_37 at hf
  refine ev_inc (v := l3 + 1) (L' := [(0, .ref l0), (1, .int l1), (2, .int l2), (3, .int (l3 + 1))]) (q_cod qk87 rfl) (by decide) rfl rfl rfl ?_
  refine ev_goto (q_cod qk87 rfl) (by decide) ?_
  obtain rfl := m_R_inv hf
  exact (show q_Ev none 87 2 [(0, .ref l0), (1, .int l1), (2, .int l2), (3, .int (l3 + 1))] [] _ o hz from hK)
def f87_35  : m_M Int32 :=
  m_R 1
theorem f87_35_ok  {h : q_H} {o : q_O} {hz : q_H} {x : Int32 × q_H} (hf : f87_35 h = some x) (hK : (q_KI o hz) x) : q_Ev none 87 35 [] [] h o hz := by
  unfold f87_35 at hf
  refine ev_ic (v := 1) (q_cod qk87 rfl) (by decide) (by decide) ?_
  obtain rfl := m_R_inv hf
  obtain ⟨rfl, rfl⟩ := (show q_KI o hz (1, _) from hK)
  exact ev_ret (q_cod qk87 rfl) rfl
def f87_43  : m_M Int32 :=
  m_R 0
theorem f87_43_ok  {h : q_H} {o : q_O} {hz : q_H} {x : Int32 × q_H} (hf : f87_43 h = some x) (hK : (q_KI o hz) x) : q_Ev none 87 43 [] [] h o hz := by
  unfold f87_43 at hf
  refine ev_ic (v := 0) (q_cod qk87 rfl) (by decide) (by decide) ?_
  obtain rfl := m_R_inv hf
  obtain ⟨rfl, rfl⟩ := (show q_KI o hz (0, _) from hK)
  exact ev_ret (q_cod qk87 rfl) rfl
def f87_2b (l0 : Nat) (l1 : Int32) (l2 : Int32) (l3 : Int32) : m_M ((Nat × Int32 × Int32 × Int32) ⊕ Int32) :=
  m_B (m_gI 7 l0 10) (fun v1 => if l3 < v1 then (m_B (m_aK l0 7) (fun _ => m_B (f83 l0 l3 l1) (fun v3 => if v3 = 0 then (f87_37 l0 l1 l2 l3) else (m_B (m_gR 7 l0 2) (fun r4 => m_B (m_lI r4 ((l3 * 16) + l2)) (fun v5 => if v5 = (-3) then (f87_37 l0 l1 l2 l3) else (m_B (f87_35) (fun r => m_R (.inr r))))))))) else (m_B (f87_43) (fun r => m_R (.inr r))))
theorem f87_2b_ok {l0 : Nat} {l1 : Int32} {l2 : Int32} {l3 : Int32} {h : q_H} {o : q_O} {hz : q_H} {x : ((Nat × Int32 × Int32 × Int32) ⊕ Int32) × q_H} (hf : f87_2b l0 l1 l2 l3 h = some x) (hK : (m_yK (fun (s : Nat × Int32 × Int32 × Int32) (h : q_H) => q_Ev none 87 2 [(0, .ref (s.1)), (1, .int (s.2.1)), (2, .int (s.2.2.1)), (3, .int (s.2.2.2))] [] h o hz) (q_KI o hz)) x) : q_Ev none 87 2 [(0, .ref l0), (1, .int l1), (2, .int l2), (3, .int l3)] [] h o hz := by
  unfold f87_2b at hf
  refine ev_iload_n (q_cod qk87 rfl) (by decide) rfl ?_
  refine ev_aload_n (q_cod qk87 rfl) (by decide) rfl ?_
  refine em_gI (q_cod qk87 rfl) (by decide) (by decide) hf (fun v1 hf => ?_)
  refine em_ic_ge (q_cod qk87 rfl) (by decide) hf (fun c8 hf => ?_) (fun c8 hf => ?_)
  · refine ev_aload_n (q_cod qk87 rfl) (by decide) rfl ?_
    refine ev_iload_n (q_cod qk87 rfl) (by decide) rfl ?_
    refine ev_iload_n (q_cod qk87 rfl) (by decide) rfl ?_
    obtain ⟨g2, hf⟩ := m_aK_some hf
    refine em_call (v := (fun u => some (.int u))) (q_cod qk87 rfl) rfl rfl (q_cokV rfl rfl (Or.inr g2)) rfl (fun x e => f83_cl e) hf (fun v3 h hf => ?_)
    refine em_if_eq (q_cod qk87 rfl) (by decide) hf (fun c7 hf => ?_) (fun c7 hf => ?_)
    · exact (f87_37_ok hf hK)
    · refine ev_aload_n (q_cod qk87 rfl) (by decide) rfl ?_
      refine em_gR (q_cod qk87 rfl) (by decide) (by decide) hf (fun r4 hf => ?_)
      refine ev_iload_n (q_cod qk87 rfl) (by decide) rfl ?_
      refine ev_bi (v := 16) (q_cod qk87 rfl) (by decide) (by decide) ?_
      refine ev_imul (q_cod qk87 rfl) (by decide) ?_
      refine ev_iload_n (q_cod qk87 rfl) (by decide) rfl ?_
      refine ev_iadd (q_cod qk87 rfl) (by decide) ?_
      refine em_lI (q_cod qk87 rfl) (by decide) hf (fun v5 hf => ?_)
      refine ev_bi (v := (-3)) (q_cod qk87 rfl) (by decide) (by decide) ?_
      refine em_ic_eq (q_cod qk87 rfl) (by decide) hf (fun c6 hf => ?_) (fun c6 hf => ?_)
      · exact (f87_37_ok hf hK)
      · obtain ⟨y0, hf0, hx⟩ := m_inr_some hf
        subst hx
        exact ev_weak (q_pk [] rfl) (f87_35_ok hf0 hK)
  · obtain ⟨y0, hf0, hx⟩ := m_inr_some hf
    subst hx
    exact ev_weak (q_pk [] rfl) (f87_43_ok hf0 hK)
def f87_2 (l0 : Nat) (l1 : Int32) (l2 : Int32) (l3 : Int32) : m_M Int32 := m_W (fun s => f87_2b (s.1) (s.2.1) (s.2.2.1) (s.2.2.2)) 1000000 (l0, l1, l2, l3)
theorem f87_2_ok {l0 : Nat} {l1 : Int32} {l2 : Int32} {l3 : Int32} {h : q_H} {o : q_O} {hz : q_H} {x : Int32 × q_H} (hf : f87_2 l0 l1 l2 l3 h = some x) (hK : (q_KI o hz) x) : q_Ev none 87 2 [(0, .ref l0), (1, .int l1), (2, .int l2), (3, .int l3)] [] h o hz :=
  m_W_ok (P := (fun (s : Nat × Int32 × Int32 × Int32) (h : q_H) => q_Ev none 87 2 [(0, .ref (s.1)), (1, .int (s.2.1)), (2, .int (s.2.2.1)), (3, .int (s.2.2.2))] [] h o hz)) (K := (q_KI o hz)) (fun s h x h1 h2 => f87_2b_ok h1 h2) _ (l0, l1, l2, l3) _ _ hf hK
def f87 (l0 : Nat) (l1 : Int32) (l2 : Int32) : m_M Int32 :=
  f87_2 l0 l1 l2 0
theorem f87_ok {l0 : Nat} {l1 : Int32} {l2 : Int32} {h : q_H} {o : q_O} {hz : q_H} {x : Int32 × q_H} (hf : f87 l0 l1 l2 h = some x) (hK : (q_KI o hz) x) : q_Ev none 87 0 [(0, .ref l0), (1, .int l1), (2, .int l2)] [] h o hz := by
  unfold f87 at hf
  refine ev_ic (v := 0) (q_cod qk87 rfl) (by decide) (by decide) ?_
  refine ev_is1 (L' := [(0, .ref l0), (1, .int l1), (2, .int l2), (3, .int 0)]) (q_cod qk87 rfl) (by decide) rfl ?_
  exact (f87_2_ok hf hK)
theorem f87_cl {l0 : Nat} {l1 : Int32} {l2 : Int32} {h : q_H} {x : Int32 × q_H} (hf : f87 l0 l1 l2 h = some x) : q_Cl 87 [.ref l0, .int l1, .int l2] h (.inl (some (.int x.1))) x.2 := q_Cl.of rfl (q_LvS rfl rfl) (f87_ok hf ⟨rfl, rfl⟩)
/-! SmithyBench$Program.withAkin(II)I -/
theorem qk96 : q_cs.getD 96 [] = qc_96 := rfl
def f96_94 (l0 : Nat) (l1 : Int32) (l2 : Int32) (l3 : Int32) (l4 : Int32) : m_M ((Nat × Int32 × Int32 × Int32 × Int32) ⊕ Int32) :=
  m_R (.inl (l0, l1, l2, l3, (l4 + 1)))
theorem f96_94_ok {l0 : Nat} {l1 : Int32} {l2 : Int32} {l3 : Int32} {l4 : Int32} {h : q_H} {o : q_O} {hz : q_H} {x : ((Nat × Int32 × Int32 × Int32 × Int32) ⊕ Int32) × q_H} (hf : f96_94 l0 l1 l2 l3 l4 h = some x) (hK : (m_yK (fun (s : Nat × Int32 × Int32 × Int32 × Int32) (h : q_H) => q_Ev none 96 5 [(0, .ref (s.1)), (1, .int (s.2.1)), (2, .int (s.2.2.1)), (3, .int (s.2.2.2.1)), (4, .int (s.2.2.2.2))] [] h o hz) (q_KI o hz)) x) : q_Ev none 96 94 [(0, .ref l0), (1, .int l1), (2, .int l2), (3, .int l3), (4, .int l4)] [] h o hz := by
  unfold f96_94 at hf
  refine ev_inc (v := l4 + 1) (L' := [(0, .ref l0), (1, .int l1), (2, .int l2), (3, .int l3), (4, .int (l4 + 1))]) (q_cod qk96 rfl) (by decide) rfl rfl rfl ?_
  refine ev_goto (q_cod qk96 rfl) (by decide) ?_
  obtain rfl := m_R_inv hf
  exact (show q_Ev none 96 5 [(0, .ref l0), (1, .int l1), (2, .int l2), (3, .int l3), (4, .int (l4 + 1))] [] _ o hz from hK)
def f96_88 (l0 : Nat) (l1 : Int32) (l2 : Int32) (l3 : Int32) (l4 : Int32) (l5 : Int32) : m_M ((Nat × Int32 × Int32 × Int32 × Int32 × Int32) ⊕ ((Nat × Int32 × Int32 × Int32 × Int32) ⊕ Int32)) :=
  m_R (.inl (l0, l1, l2, l3, l4, (l5 + 1)))
theorem f96_88_ok {l0 : Nat} {l1 : Int32} {l2 : Int32} {l3 : Int32} {l4 : Int32} {l5 : Int32} {h : q_H} {o : q_O} {hz : q_H} {x : ((Nat × Int32 × Int32 × Int32 × Int32 × Int32) ⊕ ((Nat × Int32 × Int32 × Int32 × Int32) ⊕ Int32)) × q_H} (hf : f96_88 l0 l1 l2 l3 l4 l5 h = some x) (hK : (m_yK (fun (s : Nat × Int32 × Int32 × Int32 × Int32 × Int32) (h : q_H) => q_Ev none 96 41 [(0, .ref (s.1)), (1, .int (s.2.1)), (2, .int (s.2.2.1)), (3, .int (s.2.2.2.1)), (4, .int (s.2.2.2.2.1)), (5, .int (s.2.2.2.2.2))] [] h o hz) (m_yK (fun (s : Nat × Int32 × Int32 × Int32 × Int32) (h : q_H) => q_Ev none 96 5 [(0, .ref (s.1)), (1, .int (s.2.1)), (2, .int (s.2.2.1)), (3, .int (s.2.2.2.1)), (4, .int (s.2.2.2.2))] [] h o hz) (q_KI o hz))) x) : q_Ev none 96 88 [(0, .ref l0), (1, .int l1), (2, .int l2), (3, .int l3), (4, .int l4), (5, .int l5)] [] h o hz := by
  unfold f96_88 at hf
  refine ev_inc (v := l5 + 1) (L' := [(0, .ref l0), (1, .int l1), (2, .int l2), (3, .int l3), (4, .int l4), (5, .int (l5 + 1))]) (q_cod qk96 rfl) (by decide) rfl rfl rfl ?_
  refine ev_goto (q_cod qk96 rfl) (by decide) ?_
  obtain rfl := m_R_inv hf
  exact (show q_Ev none 96 41 [(0, .ref l0), (1, .int l1), (2, .int l2), (3, .int l3), (4, .int l4), (5, .int (l5 + 1))] [] _ o hz from hK)
def f96_41b (l0 : Nat) (l1 : Int32) (l2 : Int32) (l3 : Int32) (l4 : Int32) (l5 : Int32) : m_M ((Nat × Int32 × Int32 × Int32 × Int32 × Int32) ⊕ ((Nat × Int32 × Int32 × Int32 × Int32) ⊕ Int32)) :=
  m_B (m_gI 7 l0 11) (fun v1 => if l5 < v1 then (if ((q_ush l1 l5) &&& 1) = 1 then (m_B (m_gR 7 l0 3) (fun r2 => m_B (m_lI r2 l4) (fun v3 => m_B (m_gR 7 l0 3) (fun r4 => m_B (m_lI r4 l5) (fun v5 => m_B (m_aK l0 7) (fun _ => m_B (f83 l0 v3 v5) (fun v7 => if v7 = 0 then (f96_88 l0 l1 l2 l3 l4 l5) else (f96_88 l0 l1 l2 (l3 ||| (1 <<< (l4 &&& 31))) l4 l5)))))))) else (f96_88 l0 l1 l2 l3 l4 l5)) else (m_B (f96_94 l0 l1 l2 l3 l4) (fun r => m_R (.inr r))))
theorem f96_41b_ok {l0 : Nat} {l1 : Int32} {l2 : Int32} {l3 : Int32} {l4 : Int32} {l5 : Int32} {h : q_H} {o : q_O} {hz : q_H} {x : ((Nat × Int32 × Int32 × Int32 × Int32 × Int32) ⊕ ((Nat × Int32 × Int32 × Int32 × Int32) ⊕ Int32)) × q_H} (hf : f96_41b l0 l1 l2 l3 l4 l5 h = some x) (hK : (m_yK (fun (s : Nat × Int32 × Int32 × Int32 × Int32 × Int32) (h : q_H) => q_Ev none 96 41 [(0, .ref (s.1)), (1, .int (s.2.1)), (2, .int (s.2.2.1)), (3, .int (s.2.2.2.1)), (4, .int (s.2.2.2.2.1)), (5, .int (s.2.2.2.2.2))] [] h o hz) (m_yK (fun (s : Nat × Int32 × Int32 × Int32 × Int32) (h : q_H) => q_Ev none 96 5 [(0, .ref (s.1)), (1, .int (s.2.1)), (2, .int (s.2.2.1)), (3, .int (s.2.2.2.1)), (4, .int (s.2.2.2.2))] [] h o hz) (q_KI o hz))) x) : q_Ev none 96 41 [(0, .ref l0), (1, .int l1), (2, .int l2), (3, .int l3), (4, .int l4), (5, .int l5)] [] h o hz := by
  unfold f96_41b at hf
  refine ev_iload (q_cod qk96 rfl) (by decide) rfl ?_
  refine ev_aload_n (q_cod qk96 rfl) (by decide) rfl ?_
  refine em_gI (q_cod qk96 rfl) (by decide) (by decide) hf (fun v1 hf => ?_)
  refine em_ic_ge (q_cod qk96 rfl) (by decide) hf (fun c10 hf => ?_) (fun c10 hf => ?_)
  · refine ev_iload_n (q_cod qk96 rfl) (by decide) rfl ?_
    refine ev_iload (q_cod qk96 rfl) (by decide) rfl ?_
    refine ev_iushr (q_cod qk96 rfl) (by decide) ?_
    refine ev_ic (v := 1) (q_cod qk96 rfl) (by decide) (by decide) ?_
    refine ev_iand (q_cod qk96 rfl) (by decide) ?_
    refine ev_ic (v := 1) (q_cod qk96 rfl) (by decide) (by decide) ?_
    refine em_ic_ne (q_cod qk96 rfl) (by decide) hf (fun c9 hf => ?_) (fun c9 hf => ?_)
    · refine ev_aload_n (q_cod qk96 rfl) (by decide) rfl ?_
      refine ev_aload_n (q_cod qk96 rfl) (by decide) rfl ?_
      refine em_gR (q_cod qk96 rfl) (by decide) (by decide) hf (fun r2 hf => ?_)
      refine ev_iload (q_cod qk96 rfl) (by decide) rfl ?_
      refine em_lI (q_cod qk96 rfl) (by decide) hf (fun v3 hf => ?_)
      refine ev_aload_n (q_cod qk96 rfl) (by decide) rfl ?_
      refine em_gR (q_cod qk96 rfl) (by decide) (by decide) hf (fun r4 hf => ?_)
      refine ev_iload (q_cod qk96 rfl) (by decide) rfl ?_
      refine em_lI (q_cod qk96 rfl) (by decide) hf (fun v5 hf => ?_)
      obtain ⟨g6, hf⟩ := m_aK_some hf
      refine em_call (v := (fun u => some (.int u))) (q_cod qk96 rfl) rfl rfl (q_cokV rfl rfl (Or.inr g6)) rfl (fun x e => f83_cl e) hf (fun v7 h hf => ?_)
      refine em_if_eq (q_cod qk96 rfl) (by decide) hf (fun c8 hf => ?_) (fun c8 hf => ?_)
      · exact (f96_88_ok hf hK)
      · refine ev_iload_n (q_cod qk96 rfl) (by decide) rfl ?_
        refine ev_ic (v := 1) (q_cod qk96 rfl) (by decide) (by decide) ?_
        refine ev_iload (q_cod qk96 rfl) (by decide) rfl ?_
        refine ev_ishl (q_cod qk96 rfl) (by decide) ?_
        refine ev_ior (q_cod qk96 rfl) (by decide) ?_
        refine ev_is1 (L' := [(0, .ref l0), (1, .int l1), (2, .int l2), (3, .int (l3 ||| (1 <<< (l4 &&& 31)))), (4, .int l4), (5, .int l5)]) (q_cod qk96 rfl) (by decide) rfl ?_
        exact (f96_88_ok hf hK)
    · exact (f96_88_ok hf hK)
  · obtain ⟨y0, hf0, hx⟩ := m_inr_some hf
    subst hx
    exact ev_weak (q_pk [0, 1, 2, 3, 4] rfl) (f96_94_ok hf0 hK)
def f96_41 (l0 : Nat) (l1 : Int32) (l2 : Int32) (l3 : Int32) (l4 : Int32) (l5 : Int32) : m_M ((Nat × Int32 × Int32 × Int32 × Int32) ⊕ Int32) := m_W (fun s => f96_41b (s.1) (s.2.1) (s.2.2.1) (s.2.2.2.1) (s.2.2.2.2.1) (s.2.2.2.2.2)) 1000000 (l0, l1, l2, l3, l4, l5)
theorem f96_41_ok {l0 : Nat} {l1 : Int32} {l2 : Int32} {l3 : Int32} {l4 : Int32} {l5 : Int32} {h : q_H} {o : q_O} {hz : q_H} {x : ((Nat × Int32 × Int32 × Int32 × Int32) ⊕ Int32) × q_H} (hf : f96_41 l0 l1 l2 l3 l4 l5 h = some x) (hK : (m_yK (fun (s : Nat × Int32 × Int32 × Int32 × Int32) (h : q_H) => q_Ev none 96 5 [(0, .ref (s.1)), (1, .int (s.2.1)), (2, .int (s.2.2.1)), (3, .int (s.2.2.2.1)), (4, .int (s.2.2.2.2))] [] h o hz) (q_KI o hz)) x) : q_Ev none 96 41 [(0, .ref l0), (1, .int l1), (2, .int l2), (3, .int l3), (4, .int l4), (5, .int l5)] [] h o hz :=
  m_W_ok (P := (fun (s : Nat × Int32 × Int32 × Int32 × Int32 × Int32) (h : q_H) => q_Ev none 96 41 [(0, .ref (s.1)), (1, .int (s.2.1)), (2, .int (s.2.2.1)), (3, .int (s.2.2.2.1)), (4, .int (s.2.2.2.2.1)), (5, .int (s.2.2.2.2.2))] [] h o hz)) (K := (m_yK (fun (s : Nat × Int32 × Int32 × Int32 × Int32) (h : q_H) => q_Ev none 96 5 [(0, .ref (s.1)), (1, .int (s.2.1)), (2, .int (s.2.2.1)), (3, .int (s.2.2.2.1)), (4, .int (s.2.2.2.2))] [] h o hz) (q_KI o hz))) (fun s h x h1 h2 => f96_41b_ok h1 h2) _ (l0, l1, l2, l3, l4, l5) _ _ hf hK
def f96_100 (l3 : Int32) : m_M Int32 :=
  m_R l3
theorem f96_100_ok {l3 : Int32} {h : q_H} {o : q_O} {hz : q_H} {x : Int32 × q_H} (hf : f96_100 l3 h = some x) (hK : (q_KI o hz) x) : q_Ev none 96 100 [(3, .int l3)] [] h o hz := by
  unfold f96_100 at hf
  refine ev_iload_n (q_cod qk96 rfl) (by decide) rfl ?_
  obtain rfl := m_R_inv hf
  obtain ⟨rfl, rfl⟩ := (show q_KI o hz (l3, _) from hK)
  exact ev_ret (q_cod qk96 rfl) rfl
def f96_5b (l0 : Nat) (l1 : Int32) (l2 : Int32) (l3 : Int32) (l4 : Int32) : m_M ((Nat × Int32 × Int32 × Int32 × Int32) ⊕ Int32) :=
  m_B (m_gI 7 l0 11) (fun v1 => if l4 < v1 then (m_B (m_gR 7 l0 4) (fun r2 => m_B (m_lI r2 l2) (fun v3 => m_B (m_gR 7 l0 5) (fun r4 => m_B (m_lI r4 l2) (fun v5 => m_B (m_aK l0 7) (fun _ => m_B (f88 l0 l4 v3 v5) (fun v7 => if v7 = 0 then (f96_94 l0 l1 l2 l3 l4) else (f96_41 l0 l1 l2 l3 l4 0)))))))) else (m_B (f96_100 l3) (fun r => m_R (.inr r))))
theorem f96_5b_ok {l0 : Nat} {l1 : Int32} {l2 : Int32} {l3 : Int32} {l4 : Int32} {h : q_H} {o : q_O} {hz : q_H} {x : ((Nat × Int32 × Int32 × Int32 × Int32) ⊕ Int32) × q_H} (hf : f96_5b l0 l1 l2 l3 l4 h = some x) (hK : (m_yK (fun (s : Nat × Int32 × Int32 × Int32 × Int32) (h : q_H) => q_Ev none 96 5 [(0, .ref (s.1)), (1, .int (s.2.1)), (2, .int (s.2.2.1)), (3, .int (s.2.2.2.1)), (4, .int (s.2.2.2.2))] [] h o hz) (q_KI o hz)) x) : q_Ev none 96 5 [(0, .ref l0), (1, .int l1), (2, .int l2), (3, .int l3), (4, .int l4)] [] h o hz := by
  unfold f96_5b at hf
  refine ev_iload (q_cod qk96 rfl) (by decide) rfl ?_
  refine ev_aload_n (q_cod qk96 rfl) (by decide) rfl ?_
  refine em_gI (q_cod qk96 rfl) (by decide) (by decide) hf (fun v1 hf => ?_)
  refine em_ic_ge (q_cod qk96 rfl) (by decide) hf (fun c9 hf => ?_) (fun c9 hf => ?_)
  · refine ev_aload_n (q_cod qk96 rfl) (by decide) rfl ?_
    refine ev_iload (q_cod qk96 rfl) (by decide) rfl ?_
    refine ev_aload_n (q_cod qk96 rfl) (by decide) rfl ?_
    refine em_gR (q_cod qk96 rfl) (by decide) (by decide) hf (fun r2 hf => ?_)
    refine ev_iload_n (q_cod qk96 rfl) (by decide) rfl ?_
    refine em_lI (q_cod qk96 rfl) (by decide) hf (fun v3 hf => ?_)
    refine ev_aload_n (q_cod qk96 rfl) (by decide) rfl ?_
    refine em_gR (q_cod qk96 rfl) (by decide) (by decide) hf (fun r4 hf => ?_)
    refine ev_iload_n (q_cod qk96 rfl) (by decide) rfl ?_
    refine em_lI (q_cod qk96 rfl) (by decide) hf (fun v5 hf => ?_)
    obtain ⟨g6, hf⟩ := m_aK_some hf
    refine em_call (v := (fun u => some (.int u))) (q_cod qk96 rfl) rfl rfl (q_cokV rfl rfl (Or.inr g6)) rfl (fun x e => f88_cl e) hf (fun v7 h hf => ?_)
    refine em_if_ne (q_cod qk96 rfl) (by decide) hf (fun c8 hf => ?_) (fun c8 hf => ?_)
    · refine ev_goto (q_cod qk96 rfl) (by decide) ?_
      exact (f96_94_ok hf hK)
    · refine ev_ic (v := 0) (q_cod qk96 rfl) (by decide) (by decide) ?_
      refine ev_is2 (L' := [(0, .ref l0), (1, .int l1), (2, .int l2), (3, .int l3), (4, .int l4), (5, .int 0)]) (q_cod qk96 rfl) (by decide) rfl ?_
      exact (f96_41_ok hf hK)
  · obtain ⟨y0, hf0, hx⟩ := m_inr_some hf
    subst hx
    exact ev_weak (q_pk [3] rfl) (f96_100_ok hf0 hK)
def f96_5 (l0 : Nat) (l1 : Int32) (l2 : Int32) (l3 : Int32) (l4 : Int32) : m_M Int32 := m_W (fun s => f96_5b (s.1) (s.2.1) (s.2.2.1) (s.2.2.2.1) (s.2.2.2.2)) 1000000 (l0, l1, l2, l3, l4)
theorem f96_5_ok {l0 : Nat} {l1 : Int32} {l2 : Int32} {l3 : Int32} {l4 : Int32} {h : q_H} {o : q_O} {hz : q_H} {x : Int32 × q_H} (hf : f96_5 l0 l1 l2 l3 l4 h = some x) (hK : (q_KI o hz) x) : q_Ev none 96 5 [(0, .ref l0), (1, .int l1), (2, .int l2), (3, .int l3), (4, .int l4)] [] h o hz :=
  m_W_ok (P := (fun (s : Nat × Int32 × Int32 × Int32 × Int32) (h : q_H) => q_Ev none 96 5 [(0, .ref (s.1)), (1, .int (s.2.1)), (2, .int (s.2.2.1)), (3, .int (s.2.2.2.1)), (4, .int (s.2.2.2.2))] [] h o hz)) (K := (q_KI o hz)) (fun s h x h1 h2 => f96_5b_ok h1 h2) _ (l0, l1, l2, l3, l4) _ _ hf hK
def f96 (l0 : Nat) (l1 : Int32) (l2 : Int32) : m_M Int32 :=
  f96_5 l0 l1 l2 l1 0
theorem f96_ok {l0 : Nat} {l1 : Int32} {l2 : Int32} {h : q_H} {o : q_O} {hz : q_H} {x : Int32 × q_H} (hf : f96 l0 l1 l2 h = some x) (hK : (q_KI o hz) x) : q_Ev none 96 0 [(0, .ref l0), (1, .int l1), (2, .int l2)] [] h o hz := by
  unfold f96 at hf
  refine ev_iload_n (q_cod qk96 rfl) (by decide) rfl ?_
  refine ev_is1 (L' := [(0, .ref l0), (1, .int l1), (2, .int l2), (3, .int l1)]) (q_cod qk96 rfl) (by decide) rfl ?_
  refine ev_ic (v := 0) (q_cod qk96 rfl) (by decide) (by decide) ?_
  refine ev_is2 (L' := [(0, .ref l0), (1, .int l1), (2, .int l2), (3, .int l1), (4, .int 0)]) (q_cod qk96 rfl) (by decide) rfl ?_
  exact (f96_5_ok hf hK)
theorem f96_cl {l0 : Nat} {l1 : Int32} {l2 : Int32} {h : q_H} {x : Int32 × q_H} (hf : f96 l0 l1 l2 h = some x) : q_Cl 96 [.ref l0, .int l1, .int l2] h (.inl (some (.int x.1))) x.2 := q_Cl.of rfl (q_LvS rfl rfl) (f96_ok hf ⟨rfl, rfl⟩)
/-! SmithyBench$Program.family(I)I -/
theorem qk95 : q_cs.getD 95 [] = qc_95 := rfl
def f95_26 (l2 : Int32) : m_M Int32 :=
  m_R l2
theorem f95_26_ok {l2 : Int32} {h : q_H} {o : q_O} {hz : q_H} {x : Int32 × q_H} (hf : f95_26 l2 h = some x) (hK : (q_KI o hz) x) : q_Ev none 95 26 [(2, .int l2)] [] h o hz := by
  unfold f95_26 at hf
  refine ev_iload_n (q_cod qk95 rfl) (by decide) rfl ?_
  obtain rfl := m_R_inv hf
  obtain ⟨rfl, rfl⟩ := (show q_KI o hz (l2, _) from hK)
  exact ev_ret (q_cod qk95 rfl) rfl
def f95_37 (l2 : Int32) : m_M Int32 :=
  m_R l2
theorem f95_37_ok {l2 : Int32} {h : q_H} {o : q_O} {hz : q_H} {x : Int32 × q_H} (hf : f95_37 l2 h = some x) (hK : (q_KI o hz) x) : q_Ev none 95 37 [(2, .int l2)] [] h o hz := by
  unfold f95_37 at hf
  refine ev_iload_n (q_cod qk95 rfl) (by decide) rfl ?_
  obtain rfl := m_R_inv hf
  obtain ⟨rfl, rfl⟩ := (show q_KI o hz (l2, _) from hK)
  exact ev_ret (q_cod qk95 rfl) rfl
def f95_6b (l0 : Nat) (l1 : Int32) (l2 : Int32) (l3 : Int32) : m_M ((Nat × Int32 × Int32 × Int32) ⊕ Int32) :=
  if l3 < 24 then (m_B (m_aK l0 7) (fun _ => m_B (f96 l0 l2 l1) (fun v2 => if v2 = l2 then (m_B (f95_26 l2) (fun r => m_R (.inr r))) else (m_R (.inl (l0, l1, v2, (l3 + 1))))))) else (m_B (f95_37 l2) (fun r => m_R (.inr r)))
theorem f95_6b_ok {l0 : Nat} {l1 : Int32} {l2 : Int32} {l3 : Int32} {h : q_H} {o : q_O} {hz : q_H} {x : ((Nat × Int32 × Int32 × Int32) ⊕ Int32) × q_H} (hf : f95_6b l0 l1 l2 l3 h = some x) (hK : (m_yK (fun (s : Nat × Int32 × Int32 × Int32) (h : q_H) => q_Ev none 95 6 [(0, .ref (s.1)), (1, .int (s.2.1)), (2, .int (s.2.2.1)), (3, .int (s.2.2.2))] [] h o hz) (q_KI o hz)) x) : q_Ev none 95 6 [(0, .ref l0), (1, .int l1), (2, .int l2), (3, .int l3)] [] h o hz := by
  unfold f95_6b at hf
  refine ev_iload_n (q_cod qk95 rfl) (by decide) rfl ?_
  refine ev_bi (v := 24) (q_cod qk95 rfl) (by decide) (by decide) ?_
  refine em_ic_ge (q_cod qk95 rfl) (by decide) hf (fun c4 hf => ?_) (fun c4 hf => ?_)
  · refine ev_aload_n (q_cod qk95 rfl) (by decide) rfl ?_
    refine ev_iload_n (q_cod qk95 rfl) (by decide) rfl ?_
    refine ev_iload_n (q_cod qk95 rfl) (by decide) rfl ?_
    obtain ⟨g1, hf⟩ := m_aK_some hf
    refine em_call (v := (fun u => some (.int u))) (q_cod qk95 rfl) rfl rfl (q_cokV rfl rfl (Or.inr g1)) rfl (fun x e => f96_cl e) hf (fun v2 h hf => ?_)
    refine ev_is2 (L' := [(0, .ref l0), (1, .int l1), (2, .int l2), (3, .int l3), (4, .int v2)]) (q_cod qk95 rfl) (by decide) rfl ?_
    refine ev_iload (q_cod qk95 rfl) (by decide) rfl ?_
    refine ev_iload_n (q_cod qk95 rfl) (by decide) rfl ?_
    refine em_ic_ne (q_cod qk95 rfl) (by decide) hf (fun c3 hf => ?_) (fun c3 hf => ?_)
    · obtain ⟨y0, hf0, hx⟩ := m_inr_some hf
      subst hx
      exact ev_weak (q_pk [2] rfl) (f95_26_ok hf0 hK)
    · refine ev_iload (q_cod qk95 rfl) (by decide) rfl ?_
      refine ev_is1 (L' := [(0, .ref l0), (1, .int l1), (2, .int v2), (3, .int l3), (4, .int v2)]) (q_cod qk95 rfl) (by decide) rfl ?_
      refine ev_inc (v := l3 + 1) (L' := [(0, .ref l0), (1, .int l1), (2, .int v2), (3, .int (l3 + 1)), (4, .int v2)]) (q_cod qk95 rfl) (by decide) rfl rfl rfl ?_
      refine ev_goto (q_cod qk95 rfl) (by decide) ?_
      obtain rfl := m_R_inv hf
      exact ev_weak (q_pk [0, 1, 2, 3] rfl) (show q_Ev none 95 6 [(0, .ref l0), (1, .int l1), (2, .int v2), (3, .int (l3 + 1))] [] _ o hz from hK)
  · obtain ⟨y0, hf0, hx⟩ := m_inr_some hf
    subst hx
    exact ev_weak (q_pk [2] rfl) (f95_37_ok hf0 hK)
def f95_6 (l0 : Nat) (l1 : Int32) (l2 : Int32) (l3 : Int32) : m_M Int32 := m_W (fun s => f95_6b (s.1) (s.2.1) (s.2.2.1) (s.2.2.2)) 1000000 (l0, l1, l2, l3)
theorem f95_6_ok {l0 : Nat} {l1 : Int32} {l2 : Int32} {l3 : Int32} {h : q_H} {o : q_O} {hz : q_H} {x : Int32 × q_H} (hf : f95_6 l0 l1 l2 l3 h = some x) (hK : (q_KI o hz) x) : q_Ev none 95 6 [(0, .ref l0), (1, .int l1), (2, .int l2), (3, .int l3)] [] h o hz :=
  m_W_ok (P := (fun (s : Nat × Int32 × Int32 × Int32) (h : q_H) => q_Ev none 95 6 [(0, .ref (s.1)), (1, .int (s.2.1)), (2, .int (s.2.2.1)), (3, .int (s.2.2.2))] [] h o hz)) (K := (q_KI o hz)) (fun s h x h1 h2 => f95_6b_ok h1 h2) _ (l0, l1, l2, l3) _ _ hf hK
def f95 (l0 : Nat) (l1 : Int32) : m_M Int32 :=
  f95_6 l0 l1 (1 <<< (l1 &&& 31)) 0
theorem f95_ok {l0 : Nat} {l1 : Int32} {h : q_H} {o : q_O} {hz : q_H} {x : Int32 × q_H} (hf : f95 l0 l1 h = some x) (hK : (q_KI o hz) x) : q_Ev none 95 0 [(0, .ref l0), (1, .int l1)] [] h o hz := by
  unfold f95 at hf
  refine ev_ic (v := 1) (q_cod qk95 rfl) (by decide) (by decide) ?_
  refine ev_iload_n (q_cod qk95 rfl) (by decide) rfl ?_
  refine ev_ishl (q_cod qk95 rfl) (by decide) ?_
  refine ev_is1 (L' := [(0, .ref l0), (1, .int l1), (2, .int (1 <<< (l1 &&& 31)))]) (q_cod qk95 rfl) (by decide) rfl ?_
  refine ev_ic (v := 0) (q_cod qk95 rfl) (by decide) (by decide) ?_
  refine ev_is1 (L' := [(0, .ref l0), (1, .int l1), (2, .int (1 <<< (l1 &&& 31))), (3, .int 0)]) (q_cod qk95 rfl) (by decide) rfl ?_
  exact (f95_6_ok hf hK)
theorem f95_cl {l0 : Nat} {l1 : Int32} {h : q_H} {x : Int32 × q_H} (hf : f95 l0 l1 h = some x) : q_Cl 95 [.ref l0, .int l1] h (.inl (some (.int x.1))) x.2 := q_Cl.of rfl (q_LvS rfl rfl) (f95_ok hf ⟨rfl, rfl⟩)
/-! SmithyBench$Program.isFree(III)Z -/
theorem qk97 : q_cs.getD 97 [] = qc_97 := rfl
def f97_40 (l0 : Nat) (l1 : Int32) (l2 : Int32) (l3 : Int32) (l4 : Int32) : m_M ((Nat × Int32 × Int32 × Int32 × Int32) ⊕ Int32) :=
  m_R (.inl (l0, l1, l2, l3, (l4 + 1)))
theorem f97_40_ok {l0 : Nat} {l1 : Int32} {l2 : Int32} {l3 : Int32} {l4 : Int32} {h : q_H} {o : q_O} {hz : q_H} {x : ((Nat × Int32 × Int32 × Int32 × Int32) ⊕ Int32) × q_H} (hf : f97_40 l0 l1 l2 l3 l4 h = some x) (hK : (m_yK (fun (s : Nat × Int32 × Int32 × Int32 × Int32) (h : q_H) => q_Ev none 97 3 [(0, .ref (s.1)), (1, .int (s.2.1)), (2, .int (s.2.2.1)), (3, .int (s.2.2.2.1)), (4, .int (s.2.2.2.2))] [] h o hz) (q_KI o hz)) x) : q_Ev none 97 40 [(0, .ref l0), (1, .int l1), (2, .int l2), (3, .int l3), (4, .int l4)] [] h o hz := by
  unfold f97_40 at hf
  refine ev_inc (v := l4 + 1) (L' := [(0, .ref l0), (1, .int l1), (2, .int l2), (3, .int l3), (4, .int (l4 + 1))]) (q_cod qk97 rfl) (by decide) rfl rfl rfl ?_
  refine ev_goto (q_cod qk97 rfl) (by decide) ?_
  obtain rfl := m_R_inv hf
  exact (show q_Ev none 97 3 [(0, .ref l0), (1, .int l1), (2, .int l2), (3, .int l3), (4, .int (l4 + 1))] [] _ o hz from hK)
def f97_38  : m_M Int32 :=
  m_R 0
theorem f97_38_ok  {h : q_H} {o : q_O} {hz : q_H} {x : Int32 × q_H} (hf : f97_38 h = some x) (hK : (q_KI o hz) x) : q_Ev none 97 38 [] [] h o hz := by
  unfold f97_38 at hf
  refine ev_ic (v := 0) (q_cod qk97 rfl) (by decide) (by decide) ?_
  obtain rfl := m_R_inv hf
  obtain ⟨rfl, rfl⟩ := (show q_KI o hz (0, _) from hK)
  exact ev_ret (q_cod qk97 rfl) rfl
def f97_46  : m_M Int32 :=
  m_R 1
theorem f97_46_ok  {h : q_H} {o : q_O} {hz : q_H} {x : Int32 × q_H} (hf : f97_46 h = some x) (hK : (q_KI o hz) x) : q_Ev none 97 46 [] [] h o hz := by
  unfold f97_46 at hf
  refine ev_ic (v := 1) (q_cod qk97 rfl) (by decide) (by decide) ?_
  obtain rfl := m_R_inv hf
  obtain ⟨rfl, rfl⟩ := (show q_KI o hz (1, _) from hK)
  exact ev_ret (q_cod qk97 rfl) rfl
def f97_3b (l0 : Nat) (l1 : Int32) (l2 : Int32) (l3 : Int32) (l4 : Int32) : m_M ((Nat × Int32 × Int32 × Int32 × Int32) ⊕ Int32) :=
  m_B (m_gI 7 l0 11) (fun v1 => if l4 < v1 then (if ((q_ush l1 l4) &&& 1) = 1 then (m_B (m_gR 7 l0 3) (fun r2 => m_B (m_lI r2 l4) (fun v3 => m_B (m_aK l0 7) (fun _ => m_B (f91 l0 v3 l2 l3) (fun v5 => if v5 = 0 then (f97_40 l0 l1 l2 l3 l4) else (m_B (f97_38) (fun r => m_R (.inr r)))))))) else (f97_40 l0 l1 l2 l3 l4)) else (m_B (f97_46) (fun r => m_R (.inr r))))
theorem f97_3b_ok {l0 : Nat} {l1 : Int32} {l2 : Int32} {l3 : Int32} {l4 : Int32} {h : q_H} {o : q_O} {hz : q_H} {x : ((Nat × Int32 × Int32 × Int32 × Int32) ⊕ Int32) × q_H} (hf : f97_3b l0 l1 l2 l3 l4 h = some x) (hK : (m_yK (fun (s : Nat × Int32 × Int32 × Int32 × Int32) (h : q_H) => q_Ev none 97 3 [(0, .ref (s.1)), (1, .int (s.2.1)), (2, .int (s.2.2.1)), (3, .int (s.2.2.2.1)), (4, .int (s.2.2.2.2))] [] h o hz) (q_KI o hz)) x) : q_Ev none 97 3 [(0, .ref l0), (1, .int l1), (2, .int l2), (3, .int l3), (4, .int l4)] [] h o hz := by
  unfold f97_3b at hf
  refine ev_iload (q_cod qk97 rfl) (by decide) rfl ?_
  refine ev_aload_n (q_cod qk97 rfl) (by decide) rfl ?_
  refine em_gI (q_cod qk97 rfl) (by decide) (by decide) hf (fun v1 hf => ?_)
  refine em_ic_ge (q_cod qk97 rfl) (by decide) hf (fun c8 hf => ?_) (fun c8 hf => ?_)
  · refine ev_iload_n (q_cod qk97 rfl) (by decide) rfl ?_
    refine ev_iload (q_cod qk97 rfl) (by decide) rfl ?_
    refine ev_iushr (q_cod qk97 rfl) (by decide) ?_
    refine ev_ic (v := 1) (q_cod qk97 rfl) (by decide) (by decide) ?_
    refine ev_iand (q_cod qk97 rfl) (by decide) ?_
    refine ev_ic (v := 1) (q_cod qk97 rfl) (by decide) (by decide) ?_
    refine em_ic_ne (q_cod qk97 rfl) (by decide) hf (fun c7 hf => ?_) (fun c7 hf => ?_)
    · refine ev_aload_n (q_cod qk97 rfl) (by decide) rfl ?_
      refine ev_aload_n (q_cod qk97 rfl) (by decide) rfl ?_
      refine em_gR (q_cod qk97 rfl) (by decide) (by decide) hf (fun r2 hf => ?_)
      refine ev_iload (q_cod qk97 rfl) (by decide) rfl ?_
      refine em_lI (q_cod qk97 rfl) (by decide) hf (fun v3 hf => ?_)
      refine ev_iload_n (q_cod qk97 rfl) (by decide) rfl ?_
      refine ev_iload_n (q_cod qk97 rfl) (by decide) rfl ?_
      obtain ⟨g4, hf⟩ := m_aK_some hf
      refine em_call (v := (fun u => some (.int u))) (q_cod qk97 rfl) rfl rfl (q_cokV rfl rfl (Or.inr g4)) rfl (fun x e => f91_cl e) hf (fun v5 h hf => ?_)
      refine em_if_eq (q_cod qk97 rfl) (by decide) hf (fun c6 hf => ?_) (fun c6 hf => ?_)
      · exact (f97_40_ok hf hK)
      · obtain ⟨y0, hf0, hx⟩ := m_inr_some hf
        subst hx
        exact ev_weak (q_pk [] rfl) (f97_38_ok hf0 hK)
    · exact (f97_40_ok hf hK)
  · obtain ⟨y0, hf0, hx⟩ := m_inr_some hf
    subst hx
    exact ev_weak (q_pk [] rfl) (f97_46_ok hf0 hK)
def f97_3 (l0 : Nat) (l1 : Int32) (l2 : Int32) (l3 : Int32) (l4 : Int32) : m_M Int32 := m_W (fun s => f97_3b (s.1) (s.2.1) (s.2.2.1) (s.2.2.2.1) (s.2.2.2.2)) 1000000 (l0, l1, l2, l3, l4)
theorem f97_3_ok {l0 : Nat} {l1 : Int32} {l2 : Int32} {l3 : Int32} {l4 : Int32} {h : q_H} {o : q_O} {hz : q_H} {x : Int32 × q_H} (hf : f97_3 l0 l1 l2 l3 l4 h = some x) (hK : (q_KI o hz) x) : q_Ev none 97 3 [(0, .ref l0), (1, .int l1), (2, .int l2), (3, .int l3), (4, .int l4)] [] h o hz :=
  m_W_ok (P := (fun (s : Nat × Int32 × Int32 × Int32 × Int32) (h : q_H) => q_Ev none 97 3 [(0, .ref (s.1)), (1, .int (s.2.1)), (2, .int (s.2.2.1)), (3, .int (s.2.2.2.1)), (4, .int (s.2.2.2.2))] [] h o hz)) (K := (q_KI o hz)) (fun s h x h1 h2 => f97_3b_ok h1 h2) _ (l0, l1, l2, l3, l4) _ _ hf hK
def f97 (l0 : Nat) (l1 : Int32) (l2 : Int32) (l3 : Int32) : m_M Int32 :=
  f97_3 l0 l1 l2 l3 0
theorem f97_ok {l0 : Nat} {l1 : Int32} {l2 : Int32} {l3 : Int32} {h : q_H} {o : q_O} {hz : q_H} {x : Int32 × q_H} (hf : f97 l0 l1 l2 l3 h = some x) (hK : (q_KI o hz) x) : q_Ev none 97 0 [(0, .ref l0), (1, .int l1), (2, .int l2), (3, .int l3)] [] h o hz := by
  unfold f97 at hf
  refine ev_ic (v := 0) (q_cod qk97 rfl) (by decide) (by decide) ?_
  refine ev_is2 (L' := [(0, .ref l0), (1, .int l1), (2, .int l2), (3, .int l3), (4, .int 0)]) (q_cod qk97 rfl) (by decide) rfl ?_
  exact (f97_3_ok hf hK)
theorem f97_cl {l0 : Nat} {l1 : Int32} {l2 : Int32} {l3 : Int32} {h : q_H} {x : Int32 × q_H} (hf : f97 l0 l1 l2 l3 h = some x) : q_Cl 97 [.ref l0, .int l1, .int l2, .int l3] h (.inl (some (.int x.1))) x.2 := q_Cl.of rfl (q_LvS rfl rfl) (f97_ok hf ⟨rfl, rfl⟩)
