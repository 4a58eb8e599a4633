/-! SmithyBenchModel.copyMethod(II)V -/
theorem qk305 : q_cs.getD 305 [] = qc_305 := rfl
def f305_67  : m_M Unit :=
  m_R ()
theorem f305_67_ok  {h : q_H} {o : q_O} {hz : q_H} {x : Unit × q_H} (hf : f305_67 h = some x) (hK : (m_KU o hz) x) : q_Ev none 305 67 [] [] h o hz := by
  unfold f305_67 at hf
  obtain rfl := m_R_inv hf
  obtain ⟨rfl, rfl⟩ := (show m_KU o hz ((), _) from hK)
  exact ev_ret (q_cod qk305 rfl) rfl
def f305_30b (l0 : Nat) (l1 : Int32) (l2 : Int32) (l3 : Int32) : m_M ((Nat × Int32 × Int32 × Int32) ⊕ Unit) :=
  if l3 < 576 then (m_B (m_gR 12 l0 1) (fun r1 => m_B (m_aK l0 12) (fun _ => m_B (f198 l0 2 l2 l3) (fun v3 => m_B (m_gR 12 l0 1) (fun r4 => m_B (m_aK l0 12) (fun _ => m_B (f198 l0 0 l1 l3) (fun v6 => m_B (m_lI r4 v6) (fun v7 => m_B (m_wI r1 v3 v7) (fun _ => m_R (.inl (l0, l1, l2, (l3 + 1)))))))))))) else (m_B (f305_67) (fun r => m_R (.inr r)))
theorem f305_30b_ok {l0 : Nat} {l1 : Int32} {l2 : Int32} {l3 : Int32} {h : q_H} {o : q_O} {hz : q_H} {x : ((Nat × Int32 × Int32 × Int32) ⊕ Unit) × q_H} (hf : f305_30b l0 l1 l2 l3 h = some x) (hK : (m_yK (fun (s : Nat × Int32 × Int32 × Int32) (h : q_H) => q_Ev none 305 30 [(0, .ref (s.1)), (1, .int (s.2.1)), (2, .int (s.2.2.1)), (3, .int (s.2.2.2))] [] h o hz) (m_KU o hz)) x) : q_Ev none 305 30 [(0, .ref l0), (1, .int l1), (2, .int l2), (3, .int l3)] [] h o hz := by
  unfold f305_30b at hf
  refine ev_iload_n (q_cod qk305 rfl) (by decide) rfl ?_
  refine ev_si (v := 576) (q_cod qk305 rfl) (by decide) (by decide) ?_
  refine em_ic_ge (q_cod qk305 rfl) (by decide) hf (fun c8 hf => ?_) (fun c8 hf => ?_)
  · refine ev_aload_n (q_cod qk305 rfl) (by decide) rfl ?_
    refine em_gR (q_cod qk305 rfl) (by decide) (by decide) hf (fun r1 hf => ?_)
    refine ev_aload_n (q_cod qk305 rfl) (by decide) rfl ?_
    refine ev_ic (v := 2) (q_cod qk305 rfl) (by decide) (by decide) ?_
    refine ev_iload_n (q_cod qk305 rfl) (by decide) rfl ?_
    refine ev_iload_n (q_cod qk305 rfl) (by decide) rfl ?_
    obtain ⟨g2, hf⟩ := m_aK_some hf
    refine em_call (v := (fun u => some (.int u))) (q_cod qk305 rfl) rfl rfl (q_cokV rfl rfl (Or.inr g2)) rfl (fun x e => f198_cl e) hf (fun v3 h hf => ?_)
    refine ev_aload_n (q_cod qk305 rfl) (by decide) rfl ?_
    refine em_gR (q_cod qk305 rfl) (by decide) (by decide) hf (fun r4 hf => ?_)
    refine ev_aload_n (q_cod qk305 rfl) (by decide) rfl ?_
    refine ev_ic (v := 0) (q_cod qk305 rfl) (by decide) (by decide) ?_
    refine ev_iload_n (q_cod qk305 rfl) (by decide) rfl ?_
    refine ev_iload_n (q_cod qk305 rfl) (by decide) rfl ?_
    obtain ⟨g5, hf⟩ := m_aK_some hf
    refine em_call (v := (fun u => some (.int u))) (q_cod qk305 rfl) rfl rfl (q_cokV rfl rfl (Or.inr g5)) rfl (fun x e => f198_cl e) hf (fun v6 h hf => ?_)
    refine em_lI (q_cod qk305 rfl) (by decide) hf (fun v7 hf => ?_)
    refine em_wI (q_cod qk305 rfl) (by decide) hf (fun hf => ?_)
    refine ev_inc (v := l3 + 1) (L' := [(0, .ref l0), (1, .int l1), (2, .int l2), (3, .int (l3 + 1))]) (q_cod qk305 rfl) (by decide) rfl rfl rfl ?_
    refine ev_goto (q_cod qk305 rfl) (by decide) ?_
    obtain rfl := m_R_inv hf
    exact (show q_Ev none 305 30 [(0, .ref l0), (1, .int l1), (2, .int l2), (3, .int (l3 + 1))] [] _ o hz from hK)
  · obtain ⟨y0, hf0, hx⟩ := m_inr_some hf
    subst hx
    exact ev_weak (q_pk [] rfl) (f305_67_ok hf0 hK)
def f305_30 (l0 : Nat) (l1 : Int32) (l2 : Int32) (l3 : Int32) : m_M Unit := m_W (fun s => f305_30b (s.1) (s.2.1) (s.2.2.1) (s.2.2.2)) 1000000 (l0, l1, l2, l3)
theorem f305_30_ok {l0 : Nat} {l1 : Int32} {l2 : Int32} {l3 : Int32} {h : q_H} {o : q_O} {hz : q_H} {x : Unit × q_H} (hf : f305_30 l0 l1 l2 l3 h = some x) (hK : (m_KU o hz) x) : q_Ev none 305 30 [(0, .ref l0), (1, .int l1), (2, .int l2), (3, .int l3)] [] h o hz :=
  m_W_ok (P := (fun (s : Nat × Int32 × Int32 × Int32) (h : q_H) => q_Ev none 305 30 [(0, .ref (s.1)), (1, .int (s.2.1)), (2, .int (s.2.2.1)), (3, .int (s.2.2.2))] [] h o hz)) (K := (m_KU o hz)) (fun s h x h1 h2 => f305_30b_ok h1 h2) _ (l0, l1, l2, l3) _ _ hf hK
def f305_28 (l0 : Nat) (l1 : Int32) (l2 : Int32) : m_M Unit :=
  f305_30 l0 l1 l2 0
theorem f305_28_ok {l0 : Nat} {l1 : Int32} {l2 : Int32} {h : q_H} {o : q_O} {hz : q_H} {x : Unit × q_H} (hf : f305_28 l0 l1 l2 h = some x) (hK : (m_KU o hz) x) : q_Ev none 305 28 [(0, .ref l0), (1, .int l1), (2, .int l2)] [] h o hz := by
  unfold f305_28 at hf
  refine ev_ic (v := 0) (q_cod qk305 rfl) (by decide) (by decide) ?_
  refine ev_is1 (L' := [(0, .ref l0), (1, .int l1), (2, .int l2), (3, .int 0)]) (q_cod qk305 rfl) (by decide) rfl ?_
  exact (f305_30_ok hf hK)
def f305_2b (l0 : Nat) (l1 : Int32) (l2 : Int32) (l3 : Int32) : m_M ((Nat × Int32 × Int32 × Int32) ⊕ Unit) :=
  if l3 < 10 then (m_B (m_aK l0 12) (fun _ => m_B (f196 l0 0 l1 l3) (fun v2 => m_B (m_aK l0 12) (fun _ => m_B (f197 l0 2 l2 l3 v2) (fun _ => m_R (.inl (l0, l1, l2, (l3 + 1)))))))) else (m_B (f305_28 l0 l1 l2) (fun r => m_R (.inr r)))
theorem f305_2b_ok {l0 : Nat} {l1 : Int32} {l2 : Int32} {l3 : Int32} {h : q_H} {o : q_O} {hz : q_H} {x : ((Nat × Int32 × Int32 × Int32) ⊕ Unit) × q_H} (hf : f305_2b l0 l1 l2 l3 h = some x) (hK : (m_yK (fun (s : Nat × Int32 × Int32 × Int32) (h : q_H) => q_Ev none 305 2 [(0, .ref (s.1)), (1, .int (s.2.1)), (2, .int (s.2.2.1)), (3, .int (s.2.2.2))] [] h o hz) (m_KU o hz)) x) : q_Ev none 305 2 [(0, .ref l0), (1, .int l1), (2, .int l2), (3, .int l3)] [] h o hz := by
  unfold f305_2b at hf
  refine ev_iload_n (q_cod qk305 rfl) (by decide) rfl ?_
  refine ev_bi (v := 10) (q_cod qk305 rfl) (by decide) (by decide) ?_
  refine em_ic_ge (q_cod qk305 rfl) (by decide) hf (fun c5 hf => ?_) (fun c5 hf => ?_)
  · refine ev_aload_n (q_cod qk305 rfl) (by decide) rfl ?_
    refine ev_ic (v := 2) (q_cod qk305 rfl) (by decide) (by decide) ?_
    refine ev_iload_n (q_cod qk305 rfl) (by decide) rfl ?_
    refine ev_iload_n (q_cod qk305 rfl) (by decide) rfl ?_
    refine ev_aload_n (q_cod qk305 rfl) (by decide) rfl ?_
    refine ev_ic (v := 0) (q_cod qk305 rfl) (by decide) (by decide) ?_
    refine ev_iload_n (q_cod qk305 rfl) (by decide) rfl ?_
    refine ev_iload_n (q_cod qk305 rfl) (by decide) rfl ?_
    obtain ⟨g1, hf⟩ := m_aK_some hf
    refine em_call (v := (fun u => some (.int u))) (q_cod qk305 rfl) rfl rfl (q_cokV rfl rfl (Or.inr g1)) rfl (fun x e => f196_cl e) hf (fun v2 h hf => ?_)
    obtain ⟨g3, hf⟩ := m_aK_some hf
    refine em_call (v := (fun _ => none)) (q_cod qk305 rfl) rfl rfl (q_cokV rfl rfl (Or.inr g3)) rfl (fun x e => f197_cl e) hf (fun _ h hf => ?_)
    refine ev_inc (v := l3 + 1) (L' := [(0, .ref l0), (1, .int l1), (2, .int l2), (3, .int (l3 + 1))]) (q_cod qk305 rfl) (by decide) rfl rfl rfl ?_
    refine ev_goto (q_cod qk305 rfl) (by decide) ?_
    obtain rfl := m_R_inv hf
    exact (show q_Ev none 305 2 [(0, .ref l0), (1, .int l1), (2, .int l2), (3, .int (l3 + 1))] [] _ o hz from hK)
  · obtain ⟨y0, hf0, hx⟩ := m_inr_some hf
    subst hx
    exact ev_weak (q_pk [0, 1, 2] rfl) (f305_28_ok hf0 hK)
def f305_2 (l0 : Nat) (l1 : Int32) (l2 : Int32) (l3 : Int32) : m_M Unit := m_W (fun s => f305_2b (s.1) (s.2.1) (s.2.2.1) (s.2.2.2)) 1000000 (l0, l1, l2, l3)
theorem f305_2_ok {l0 : Nat} {l1 : Int32} {l2 : Int32} {l3 : Int32} {h : q_H} {o : q_O} {hz : q_H} {x : Unit × q_H} (hf : f305_2 l0 l1 l2 l3 h = some x) (hK : (m_KU o hz) x) : q_Ev none 305 2 [(0, .ref l0), (1, .int l1), (2, .int l2), (3, .int l3)] [] h o hz :=
  m_W_ok (P := (fun (s : Nat × Int32 × Int32 × Int32) (h : q_H) => q_Ev none 305 2 [(0, .ref (s.1)), (1, .int (s.2.1)), (2, .int (s.2.2.1)), (3, .int (s.2.2.2))] [] h o hz)) (K := (m_KU o hz)) (fun s h x h1 h2 => f305_2b_ok h1 h2) _ (l0, l1, l2, l3) _ _ hf hK
def f305 (l0 : Nat) (l1 : Int32) (l2 : Int32) : m_M Unit :=
  f305_2 l0 l1 l2 0
theorem f305_ok {l0 : Nat} {l1 : Int32} {l2 : Int32} {h : q_H} {o : q_O} {hz : q_H} {x : Unit × q_H} (hf : f305 l0 l1 l2 h = some x) (hK : (m_KU o hz) x) : q_Ev none 305 0 [(0, .ref l0), (1, .int l1), (2, .int l2)] [] h o hz := by
  unfold f305 at hf
  refine ev_ic (v := 0) (q_cod qk305 rfl) (by decide) (by decide) ?_
  refine ev_is1 (L' := [(0, .ref l0), (1, .int l1), (2, .int l2), (3, .int 0)]) (q_cod qk305 rfl) (by decide) rfl ?_
  exact (f305_2_ok hf hK)
theorem f305_cl {l0 : Nat} {l1 : Int32} {l2 : Int32} {h : q_H} {x : Unit × q_H} (hf : f305 l0 l1 l2 h = some x) : q_Cl 305 [.ref l0, .int l1, .int l2] h (.inl none) x.2 := q_Cl.of rfl (q_LvS rfl rfl) (f305_ok hf ⟨rfl, rfl⟩)
/-! SmithyBenchModel.pushInto(IIII)V -/
theorem qk304 : q_cs.getD 304 [] = qc_304 := rfl
def f304_98 (l0 : Nat) (l1 : Int32) (l2 : Int32) (l3 : Int32) (l4 : Int32) (l5 : Int32) (l6 : Int32) : m_M ((Nat × Int32 × Int32 × Int32 × Int32 × Int32 × Int32) ⊕ Unit) :=
  m_R (.inl (l0, l1, l2, l3, l4, l5, (l6 + 1)))
theorem f304_98_ok {l0 : Nat} {l1 : Int32} {l2 : Int32} {l3 : Int32} {l4 : Int32} {l5 : Int32} {l6 : Int32} {h : q_H} {o : q_O} {hz : q_H} {x : ((Nat × Int32 × Int32 × Int32 × Int32 × Int32 × Int32) ⊕ Unit) × q_H} (hf : f304_98 l0 l1 l2 l3 l4 l5 l6 h = some x) (hK : (m_yK (fun (s : Nat × Int32 × Int32 × Int32 × Int32 × Int32 × Int32) (h : q_H) => q_Ev none 304 6 [(0, .ref (s.1)), (1, .int (s.2.1)), (2, .int (s.2.2.1)), (3, .int (s.2.2.2.1)), (4, .int (s.2.2.2.2.1)), (5, .int (s.2.2.2.2.2.1)), (6, .int (s.2.2.2.2.2.2))] [] h o hz) (m_KU o hz)) x) : q_Ev none 304 98 [(0, .ref l0), (1, .int l1), (2, .int l2), (3, .int l3), (4, .int l4), (5, .int l5), (6, .int l6)] [] h o hz := by
  unfold f304_98 at hf
  refine ev_inc (v := l6 + 1) (L' := [(0, .ref l0), (1, .int l1), (2, .int l2), (3, .int l3), (4, .int l4), (5, .int l5), (6, .int (l6 + 1))]) (q_cod qk304 rfl) (by decide) rfl rfl rfl ?_
  refine ev_goto (q_cod qk304 rfl) (by decide) ?_
  obtain rfl := m_R_inv hf
  exact (show q_Ev none 304 6 [(0, .ref l0), (1, .int l1), (2, .int l2), (3, .int l3), (4, .int l4), (5, .int l5), (6, .int (l6 + 1))] [] _ o hz from hK)
def f304_85 (l0 : Nat) (l1 : Int32) (l2 : Int32) (l3 : Int32) (l4 : Int32) (l6 : Int32) (l7 : Int32) : m_M ((Nat × Int32 × Int32 × Int32 × Int32 × Int32 × Int32) ⊕ Unit) :=
  m_B (m_aK l0 12) (fun _ => m_B (f197 l0 2 l7 1 l6) (fun _ => f304_98 l0 l1 l2 l3 l4 0 l6))
theorem f304_85_ok {l0 : Nat} {l1 : Int32} {l2 : Int32} {l3 : Int32} {l4 : Int32} {l6 : Int32} {l7 : Int32} {h : q_H} {o : q_O} {hz : q_H} {x : ((Nat × Int32 × Int32 × Int32 × Int32 × Int32 × Int32) ⊕ Unit) × q_H} (hf : f304_85 l0 l1 l2 l3 l4 l6 l7 h = some x) (hK : (m_yK (fun (s : Nat × Int32 × Int32 × Int32 × Int32 × Int32 × Int32) (h : q_H) => q_Ev none 304 6 [(0, .ref (s.1)), (1, .int (s.2.1)), (2, .int (s.2.2.1)), (3, .int (s.2.2.2.1)), (4, .int (s.2.2.2.2.1)), (5, .int (s.2.2.2.2.2.1)), (6, .int (s.2.2.2.2.2.2))] [] h o hz) (m_KU o hz)) x) : q_Ev none 304 85 [(0, .ref l0), (1, .int l1), (2, .int l2), (3, .int l3), (4, .int l4), (6, .int l6), (7, .int l7)] [] h o hz := by
  unfold f304_85 at hf
  refine ev_aload_n (q_cod qk304 rfl) (by decide) rfl ?_
  refine ev_ic (v := 2) (q_cod qk304 rfl) (by decide) (by decide) ?_
  refine ev_iload (q_cod qk304 rfl) (by decide) rfl ?_
  refine ev_ic (v := 1) (q_cod qk304 rfl) (by decide) (by decide) ?_
  refine ev_iload (q_cod qk304 rfl) (by decide) rfl ?_
  obtain ⟨g1, hf⟩ := m_aK_some hf
  refine em_call (v := (fun _ => none)) (q_cod qk304 rfl) rfl rfl (q_cokV rfl rfl (Or.inr g1)) rfl (fun x e => f197_cl e) hf (fun _ h hf => ?_)
  refine ev_ic (v := 0) (q_cod qk304 rfl) (by decide) (by decide) ?_
  refine ev_is2 (L' := [(0, .ref l0), (1, .int l1), (2, .int l2), (3, .int l3), (4, .int l4), (5, .int 0), (6, .int l6), (7, .int l7)]) (q_cod qk304 rfl) (by decide) rfl ?_
  exact ev_weak (q_pk [0, 1, 2, 3, 4, 5, 6] rfl) (f304_98_ok hf hK)
def f304_59 (l0 : Nat) (l1 : Int32) (l2 : Int32) (l3 : Int32) (l4 : Int32) (l5 : Int32) (l6 : Int32) (s0 : Int32) : m_M ((Nat × Int32 × Int32 × Int32 × Int32 × Int32 × Int32) ⊕ Unit) :=
  if l5 = 0 then (m_B (m_gR 12 l0 1) (fun r1 => m_B (m_lI r1 28401) (fun v2 => m_B (m_wI r1 28401 (v2 + 1)) (fun _ => m_B (m_aK l0 12) (fun _ => m_B (f305 l0 l1 s0) (fun _ => f304_85 l0 l1 l2 l3 l4 l6 s0)))))) else (f304_85 l0 l1 l2 l3 l4 l6 s0)
theorem f304_59_ok {l0 : Nat} {l1 : Int32} {l2 : Int32} {l3 : Int32} {l4 : Int32} {l5 : Int32} {l6 : Int32} {s0 : Int32} {h : q_H} {o : q_O} {hz : q_H} {x : ((Nat × Int32 × Int32 × Int32 × Int32 × Int32 × Int32) ⊕ Unit) × q_H} (hf : f304_59 l0 l1 l2 l3 l4 l5 l6 s0 h = some x) (hK : (m_yK (fun (s : Nat × Int32 × Int32 × Int32 × Int32 × Int32 × Int32) (h : q_H) => q_Ev none 304 6 [(0, .ref (s.1)), (1, .int (s.2.1)), (2, .int (s.2.2.1)), (3, .int (s.2.2.2.1)), (4, .int (s.2.2.2.2.1)), (5, .int (s.2.2.2.2.2.1)), (6, .int (s.2.2.2.2.2.2))] [] h o hz) (m_KU o hz)) x) : q_Ev none 304 59 [(0, .ref l0), (1, .int l1), (2, .int l2), (3, .int l3), (4, .int l4), (5, .int l5), (6, .int l6)] [.int s0] h o hz := by
  unfold f304_59 at hf
  refine ev_is2 (L' := [(0, .ref l0), (1, .int l1), (2, .int l2), (3, .int l3), (4, .int l4), (5, .int l5), (6, .int l6), (7, .int s0)]) (q_cod qk304 rfl) (by decide) rfl ?_
  refine ev_iload (q_cod qk304 rfl) (by decide) rfl ?_
  refine em_if_ne (q_cod qk304 rfl) (by decide) hf (fun c5 hf => ?_) (fun c5 hf => ?_)
  · refine ev_aload_n (q_cod qk304 rfl) (by decide) rfl ?_
    refine em_gR (q_cod qk304 rfl) (by decide) (by decide) hf (fun r1 hf => ?_)
    refine ev_si (v := 28401) (q_cod qk304 rfl) (by decide) (by decide) ?_
    refine ev_dup2 (q_cod qk304 rfl) (by decide) rfl rfl ?_
    refine em_lI (q_cod qk304 rfl) (by decide) hf (fun v2 hf => ?_)
    refine ev_ic (v := 1) (q_cod qk304 rfl) (by decide) (by decide) ?_
    refine ev_iadd (q_cod qk304 rfl) (by decide) ?_
    refine em_wI (q_cod qk304 rfl) (by decide) hf (fun hf => ?_)
    refine ev_aload_n (q_cod qk304 rfl) (by decide) rfl ?_
    refine ev_iload_n (q_cod qk304 rfl) (by decide) rfl ?_
    refine ev_iload (q_cod qk304 rfl) (by decide) rfl ?_
    obtain ⟨g3, hf⟩ := m_aK_some hf
    refine em_call (v := (fun _ => none)) (q_cod qk304 rfl) rfl rfl (q_cokV rfl rfl (Or.inr g3)) rfl (fun x e => f305_cl e) hf (fun _ h hf => ?_)
    exact ev_weak (q_pk [0, 1, 2, 3, 4, 6, 7] rfl) (f304_85_ok hf hK)
  · exact ev_weak (q_pk [0, 1, 2, 3, 4, 6, 7] rfl) (f304_85_ok hf hK)
def f304_104  : m_M Unit :=
  m_R ()
theorem f304_104_ok  {h : q_H} {o : q_O} {hz : q_H} {x : Unit × q_H} (hf : f304_104 h = some x) (hK : (m_KU o hz) x) : q_Ev none 304 104 [] [] h o hz := by
  unfold f304_104 at hf
  obtain rfl := m_R_inv hf
  obtain ⟨rfl, rfl⟩ := (show m_KU o hz ((), _) from hK)
  exact ev_ret (q_cod qk304 rfl) rfl
def f304_6b (l0 : Nat) (l1 : Int32) (l2 : Int32) (l3 : Int32) (l4 : Int32) (l5 : Int32) (l6 : Int32) : m_M ((Nat × Int32 × Int32 × Int32 × Int32 × Int32 × Int32) ⊕ Unit) :=
  m_B (m_gR 12 l0 1) (fun r1 => m_B (m_lI r1 0) (fun v2 => if l6 < v2 then (m_B (m_aK l0 12) (fun _ => m_B (f207 l0 0 l6) (fun v4 => if v4 = l2 then (m_B (m_aK l0 12) (fun _ => m_B (f213 l0 0 l6 l3 l4) (fun v6 => if v6 = (-1) then (if l5 = 0 then (m_B (m_gR 12 l0 1) (fun r7 => m_B (m_lI r7 28401) (fun v8 => f304_59 l0 l1 l2 l3 l4 l5 l6 v8))) else (f304_59 l0 l1 l2 l3 l4 l5 l6 l1)) else (f304_98 l0 l1 l2 l3 l4 l5 l6)))) else (f304_98 l0 l1 l2 l3 l4 l5 l6)))) else (m_B (f304_104) (fun r => m_R (.inr r)))))
theorem f304_6b_ok {l0 : Nat} {l1 : Int32} {l2 : Int32} {l3 : Int32} {l4 : Int32} {l5 : Int32} {l6 : Int32} {h : q_H} {o : q_O} {hz : q_H} {x : ((Nat × Int32 × Int32 × Int32 × Int32 × Int32 × Int32) ⊕ Unit) × q_H} (hf : f304_6b l0 l1 l2 l3 l4 l5 l6 h = some x) (hK : (m_yK (fun (s : Nat × Int32 × Int32 × Int32 × Int32 × Int32 × Int32) (h : q_H) => q_Ev none 304 6 [(0, .ref (s.1)), (1, .int (s.2.1)), (2, .int (s.2.2.1)), (3, .int (s.2.2.2.1)), (4, .int (s.2.2.2.2.1)), (5, .int (s.2.2.2.2.2.1)), (6, .int (s.2.2.2.2.2.2))] [] h o hz) (m_KU o hz)) x) : q_Ev none 304 6 [(0, .ref l0), (1, .int l1), (2, .int l2), (3, .int l3), (4, .int l4), (5, .int l5), (6, .int l6)] [] h o hz := by
  unfold f304_6b at hf
  refine ev_iload (q_cod qk304 rfl) (by decide) rfl ?_
  refine ev_aload_n (q_cod qk304 rfl) (by decide) rfl ?_
  refine em_gR (q_cod qk304 rfl) (by decide) (by decide) hf (fun r1 hf => ?_)
  refine ev_ic (v := 0) (q_cod qk304 rfl) (by decide) (by decide) ?_
  refine em_lI (q_cod qk304 rfl) (by decide) hf (fun v2 hf => ?_)
  refine em_ic_ge (q_cod qk304 rfl) (by decide) hf (fun c12 hf => ?_) (fun c12 hf => ?_)
  · refine ev_aload_n (q_cod qk304 rfl) (by decide) rfl ?_
    refine ev_ic (v := 0) (q_cod qk304 rfl) (by decide) (by decide) ?_
    refine ev_iload (q_cod qk304 rfl) (by decide) rfl ?_
    obtain ⟨g3, hf⟩ := m_aK_some hf
    refine em_call (v := (fun u => some (.int u))) (q_cod qk304 rfl) rfl rfl (q_cokV rfl rfl (Or.inr g3)) rfl (fun x e => f207_cl e) hf (fun v4 h hf => ?_)
    refine ev_iload_n (q_cod qk304 rfl) (by decide) rfl ?_
    refine em_ic_ne (q_cod qk304 rfl) (by decide) hf (fun c11 hf => ?_) (fun c11 hf => ?_)
    · refine ev_aload_n (q_cod qk304 rfl) (by decide) rfl ?_
      refine ev_ic (v := 0) (q_cod qk304 rfl) (by decide) (by decide) ?_
      refine ev_iload (q_cod qk304 rfl) (by decide) rfl ?_
      refine ev_iload_n (q_cod qk304 rfl) (by decide) rfl ?_
      refine ev_iload (q_cod qk304 rfl) (by decide) rfl ?_
      obtain ⟨g5, hf⟩ := m_aK_some hf
      refine em_call (v := (fun u => some (.int u))) (q_cod qk304 rfl) rfl rfl (q_cokV rfl rfl (Or.inr g5)) rfl (fun x e => f213_cl e) hf (fun v6 h hf => ?_)
      refine ev_ic (v := (-1)) (q_cod qk304 rfl) (by decide) (by decide) ?_
      refine em_ic_ne (q_cod qk304 rfl) (by decide) hf (fun c10 hf => ?_) (fun c10 hf => ?_)
      · refine ev_iload (q_cod qk304 rfl) (by decide) rfl ?_
        refine em_if_eq (q_cod qk304 rfl) (by decide) hf (fun c9 hf => ?_) (fun c9 hf => ?_)
        · refine ev_aload_n (q_cod qk304 rfl) (by decide) rfl ?_
          refine em_gR (q_cod qk304 rfl) (by decide) (by decide) hf (fun r7 hf => ?_)
          refine ev_si (v := 28401) (q_cod qk304 rfl) (by decide) (by decide) ?_
          refine em_lI (q_cod qk304 rfl) (by decide) hf (fun v8 hf => ?_)
          exact (f304_59_ok hf hK)
        · refine ev_iload_n (q_cod qk304 rfl) (by decide) rfl ?_
          refine ev_goto (q_cod qk304 rfl) (by decide) ?_
          exact (f304_59_ok hf hK)
      · exact (f304_98_ok hf hK)
    · exact (f304_98_ok hf hK)
  · obtain ⟨y0, hf0, hx⟩ := m_inr_some hf
    subst hx
    exact ev_weak (q_pk [] rfl) (f304_104_ok hf0 hK)
def f304_6 (l0 : Nat) (l1 : Int32) (l2 : Int32) (l3 : Int32) (l4 : Int32) (l5 : Int32) (l6 : Int32) : m_M Unit := m_W (fun s => f304_6b (s.1) (s.2.1) (s.2.2.1) (s.2.2.2.1) (s.2.2.2.2.1) (s.2.2.2.2.2.1) (s.2.2.2.2.2.2)) 1000000 (l0, l1, l2, l3, l4, l5, l6)
theorem f304_6_ok {l0 : Nat} {l1 : Int32} {l2 : Int32} {l3 : Int32} {l4 : Int32} {l5 : Int32} {l6 : Int32} {h : q_H} {o : q_O} {hz : q_H} {x : Unit × q_H} (hf : f304_6 l0 l1 l2 l3 l4 l5 l6 h = some x) (hK : (m_KU o hz) x) : q_Ev none 304 6 [(0, .ref l0), (1, .int l1), (2, .int l2), (3, .int l3), (4, .int l4), (5, .int l5), (6, .int l6)] [] h o hz :=
  m_W_ok (P := (fun (s : Nat × Int32 × Int32 × Int32 × Int32 × Int32 × Int32) (h : q_H) => q_Ev none 304 6 [(0, .ref (s.1)), (1, .int (s.2.1)), (2, .int (s.2.2.1)), (3, .int (s.2.2.2.1)), (4, .int (s.2.2.2.2.1)), (5, .int (s.2.2.2.2.2.1)), (6, .int (s.2.2.2.2.2.2))] [] h o hz)) (K := (m_KU o hz)) (fun s h x h1 h2 => f304_6b_ok h1 h2) _ (l0, l1, l2, l3, l4, l5, l6) _ _ hf hK
def f304 (l0 : Nat) (l1 : Int32) (l2 : Int32) (l3 : Int32) (l4 : Int32) : m_M Unit :=
  f304_6 l0 l1 l2 l3 l4 1 0
theorem f304_ok {l0 : Nat} {l1 : Int32} {l2 : Int32} {l3 : Int32} {l4 : Int32} {h : q_H} {o : q_O} {hz : q_H} {x : Unit × q_H} (hf : f304 l0 l1 l2 l3 l4 h = some x) (hK : (m_KU o hz) x) : q_Ev none 304 0 [(0, .ref l0), (1, .int l1), (2, .int l2), (3, .int l3), (4, .int l4)] [] h o hz := by
  unfold f304 at hf
  refine ev_ic (v := 1) (q_cod qk304 rfl) (by decide) (by decide) ?_
  refine ev_is2 (L' := [(0, .ref l0), (1, .int l1), (2, .int l2), (3, .int l3), (4, .int l4), (5, .int 1)]) (q_cod qk304 rfl) (by decide) rfl ?_
  refine ev_ic (v := 0) (q_cod qk304 rfl) (by decide) (by decide) ?_
  refine ev_is2 (L' := [(0, .ref l0), (1, .int l1), (2, .int l2), (3, .int l3), (4, .int l4), (5, .int 1), (6, .int 0)]) (q_cod qk304 rfl) (by decide) rfl ?_
  exact (f304_6_ok hf hK)
theorem f304_cl {l0 : Nat} {l1 : Int32} {l2 : Int32} {l3 : Int32} {l4 : Int32} {h : q_H} {x : Unit × q_H} (hf : f304 l0 l1 l2 l3 l4 h = some x) : q_Cl 304 [.ref l0, .int l1, .int l2, .int l3, .int l4] h (.inl none) x.2 := q_Cl.of rfl (q_LvS rfl rfl) (f304_ok hf ⟨rfl, rfl⟩)
/-! SmithyBenchModel.pushDown(I)I -/
theorem qk303 : q_cs.getD 303 [] = qc_303 := rfl
def f303_132 (l0 : Nat) (l1 : Int32) (l2 : Int32) (l3 : Int32) (l4 : Int32) (l5 : Int32) (l7 : Int32) (s0 : Int32) (s1 : Int32) : m_M ((Nat × Int32 × Int32 × Int32 × Int32 × Int32 × Int32 × Int32) ⊕ Int32) :=
  m_R (.inl (l0, l1, l2, l3, l4, l5, (s0 + s1), (l7 + 1)))
theorem f303_132_ok {l0 : Nat} {l1 : Int32} {l2 : Int32} {l3 : Int32} {l4 : Int32} {l5 : Int32} {l7 : Int32} {s0 : Int32} {s1 : Int32} {h : q_H} {o : q_O} {hz : q_H} {x : ((Nat × Int32 × Int32 × Int32 × Int32 × Int32 × Int32 × Int32) ⊕ Int32) × q_H} (hf : f303_132 l0 l1 l2 l3 l4 l5 l7 s0 s1 h = some x) (hK : (m_yK (fun (s : Nat × Int32 × Int32 × Int32 × Int32 × Int32 × Int32 × Int32) (h : q_H) => q_Ev none 303 68 [(0, .ref (s.1)), (1, .int (s.2.1)), (2, .int (s.2.2.1)), (3, .int (s.2.2.2.1)), (4, .int (s.2.2.2.2.1)), (5, .int (s.2.2.2.2.2.1)), (6, .int (s.2.2.2.2.2.2.1)), (7, .int (s.2.2.2.2.2.2.2))] [] h o hz) (q_KI o hz)) x) : q_Ev none 303 132 [(0, .ref l0), (1, .int l1), (2, .int l2), (3, .int l3), (4, .int l4), (5, .int l5), (7, .int l7)] [.int s1, .int s0] h o hz := by
  unfold f303_132 at hf
  refine ev_iadd (q_cod qk303 rfl) (by decide) ?_
  refine ev_is2 (L' := [(0, .ref l0), (1, .int l1), (2, .int l2), (3, .int l3), (4, .int l4), (5, .int l5), (6, .int (s0 + s1)), (7, .int l7)]) (q_cod qk303 rfl) (by decide) rfl ?_
  refine ev_inc (v := l7 + 1) (L' := [(0, .ref l0), (1, .int l1), (2, .int l2), (3, .int l3), (4, .int l4), (5, .int l5), (6, .int (s0 + s1)), (7, .int (l7 + 1))]) (q_cod qk303 rfl) (by decide) rfl rfl rfl ?_
  refine ev_goto (q_cod qk303 rfl) (by decide) ?_
  obtain rfl := m_R_inv hf
  exact (show q_Ev none 303 68 [(0, .ref l0), (1, .int l1), (2, .int l2), (3, .int l3), (4, .int l4), (5, .int l5), (6, .int (s0 + s1)), (7, .int (l7 + 1))] [] _ o hz from hK)
def f303_131 (l0 : Nat) (l1 : Int32) (l2 : Int32) (l3 : Int32) (l4 : Int32) (l5 : Int32) (l7 : Int32) (s0 : Int32) : m_M ((Nat × Int32 × Int32 × Int32 × Int32 × Int32 × Int32 × Int32) ⊕ Int32) :=
  f303_132 l0 l1 l2 l3 l4 l5 l7 s0 0
theorem f303_131_ok {l0 : Nat} {l1 : Int32} {l2 : Int32} {l3 : Int32} {l4 : Int32} {l5 : Int32} {l7 : Int32} {s0 : Int32} {h : q_H} {o : q_O} {hz : q_H} {x : ((Nat × Int32 × Int32 × Int32 × Int32 × Int32 × Int32 × Int32) ⊕ Int32) × q_H} (hf : f303_131 l0 l1 l2 l3 l4 l5 l7 s0 h = some x) (hK : (m_yK (fun (s : Nat × Int32 × Int32 × Int32 × Int32 × Int32 × Int32 × Int32) (h : q_H) => q_Ev none 303 68 [(0, .ref (s.1)), (1, .int (s.2.1)), (2, .int (s.2.2.1)), (3, .int (s.2.2.2.1)), (4, .int (s.2.2.2.2.1)), (5, .int (s.2.2.2.2.2.1)), (6, .int (s.2.2.2.2.2.2.1)), (7, .int (s.2.2.2.2.2.2.2))] [] h o hz) (q_KI o hz)) x) : q_Ev none 303 131 [(0, .ref l0), (1, .int l1), (2, .int l2), (3, .int l3), (4, .int l4), (5, .int l5), (7, .int l7)] [.int s0] h o hz := by
  unfold f303_131 at hf
  refine ev_ic (v := 0) (q_cod qk303 rfl) (by decide) (by decide) ?_
  exact (f303_132_ok hf hK)
def f303_97 (l0 : Nat) (l1 : Int32) (l2 : Int32) (l3 : Int32) (l4 : Int32) (l6 : Int32) (l7 : Int32) (s0 : Int32) (s1 : Int32) : m_M ((Nat × Int32 × Int32 × Int32 × Int32 × Int32 × Int32 × Int32) ⊕ Int32) :=
  m_B (m_aK l0 12) (fun _ => m_B (f207 l0 0 l7) (fun v2 => if v2 = l2 then (m_B (m_aK l0 12) (fun _ => m_B (f213 l0 0 l7 l3 l4) (fun v4 => if v4 = (-1) then (f303_132 l0 l1 l2 l3 l4 (s0 + s1) l7 l6 1) else (f303_131 l0 l1 l2 l3 l4 (s0 + s1) l7 l6)))) else (f303_131 l0 l1 l2 l3 l4 (s0 + s1) l7 l6)))
theorem f303_97_ok {l0 : Nat} {l1 : Int32} {l2 : Int32} {l3 : Int32} {l4 : Int32} {l6 : Int32} {l7 : Int32} {s0 : Int32} {s1 : Int32} {h : q_H} {o : q_O} {hz : q_H} {x : ((Nat × Int32 × Int32 × Int32 × Int32 × Int32 × Int32 × Int32) ⊕ Int32) × q_H} (hf : f303_97 l0 l1 l2 l3 l4 l6 l7 s0 s1 h = some x) (hK : (m_yK (fun (s : Nat × Int32 × Int32 × Int32 × Int32 × Int32 × Int32 × Int32) (h : q_H) => q_Ev none 303 68 [(0, .ref (s.1)), (1, .int (s.2.1)), (2, .int (s.2.2.1)), (3, .int (s.2.2.2.1)), (4, .int (s.2.2.2.2.1)), (5, .int (s.2.2.2.2.2.1)), (6, .int (s.2.2.2.2.2.2.1)), (7, .int (s.2.2.2.2.2.2.2))] [] h o hz) (q_KI o hz)) x) : q_Ev none 303 97 [(0, .ref l0), (1, .int l1), (2, .int l2), (3, .int l3), (4, .int l4), (6, .int l6), (7, .int l7)] [.int s1, .int s0] h o hz := by
  unfold f303_97 at hf
  refine ev_iadd (q_cod qk303 rfl) (by decide) ?_
  refine ev_is2 (L' := [(0, .ref l0), (1, .int l1), (2, .int l2), (3, .int l3), (4, .int l4), (5, .int (s0 + s1)), (6, .int l6), (7, .int l7)]) (q_cod qk303 rfl) (by decide) rfl ?_
  refine ev_iload (q_cod qk303 rfl) (by decide) rfl ?_
  refine ev_aload_n (q_cod qk303 rfl) (by decide) rfl ?_
  refine ev_ic (v := 0) (q_cod qk303 rfl) (by decide) (by decide) ?_
  refine ev_iload (q_cod qk303 rfl) (by decide) rfl ?_
  obtain ⟨g1, hf⟩ := m_aK_some hf
  refine em_call (v := (fun u => some (.int u))) (q_cod qk303 rfl) rfl rfl (q_cokV rfl rfl (Or.inr g1)) rfl (fun x e => f207_cl e) hf (fun v2 h hf => ?_)
  refine ev_iload_n (q_cod qk303 rfl) (by decide) rfl ?_
  refine em_ic_ne (q_cod qk303 rfl) (by decide) hf (fun c6 hf => ?_) (fun c6 hf => ?_)
  · refine ev_aload_n (q_cod qk303 rfl) (by decide) rfl ?_
    refine ev_ic (v := 0) (q_cod qk303 rfl) (by decide) (by decide) ?_
    refine ev_iload (q_cod qk303 rfl) (by decide) rfl ?_
    refine ev_iload_n (q_cod qk303 rfl) (by decide) rfl ?_
    refine ev_iload (q_cod qk303 rfl) (by decide) rfl ?_
    obtain ⟨g3, hf⟩ := m_aK_some hf
    refine em_call (v := (fun u => some (.int u))) (q_cod qk303 rfl) rfl rfl (q_cokV rfl rfl (Or.inr g3)) rfl (fun x e => f213_cl e) hf (fun v4 h hf => ?_)
    refine ev_ic (v := (-1)) (q_cod qk303 rfl) (by decide) (by decide) ?_
    refine em_ic_ne (q_cod qk303 rfl) (by decide) hf (fun c5 hf => ?_) (fun c5 hf => ?_)
    · refine ev_ic (v := 1) (q_cod qk303 rfl) (by decide) (by decide) ?_
      refine ev_goto (q_cod qk303 rfl) (by decide) ?_
      exact ev_weak (q_pk [0, 1, 2, 3, 4, 5, 7] rfl) (f303_132_ok hf hK)
    · exact ev_weak (q_pk [0, 1, 2, 3, 4, 5, 7] rfl) (f303_131_ok hf hK)
  · exact ev_weak (q_pk [0, 1, 2, 3, 4, 5, 7] rfl) (f303_131_ok hf hK)
def f303_219 (l0 : Nat) (l6 : Int32) : m_M Int32 :=
  m_B (m_aK l0 12) (fun _ => m_B (f235 l0 2) (fun v2 => if v2 = (-1) then (m_B (m_aK l0 12) (fun _ => m_B (f271 l0) (fun v4 => m_R l6))) else (m_R (-8))))
theorem f303_219_ok {l0 : Nat} {l6 : Int32} {h : q_H} {o : q_O} {hz : q_H} {x : Int32 × q_H} (hf : f303_219 l0 l6 h = some x) (hK : (q_KI o hz) x) : q_Ev none 303 219 [(0, .ref l0), (6, .int l6)] [] h o hz := by
  unfold f303_219 at hf
  refine ev_aload_n (q_cod qk303 rfl) (by decide) rfl ?_
  refine ev_ic (v := 2) (q_cod qk303 rfl) (by decide) (by decide) ?_
  obtain ⟨g1, hf⟩ := m_aK_some hf
  refine em_call (v := (fun u => some (.int u))) (q_cod qk303 rfl) rfl rfl (q_cokV rfl rfl (Or.inr g1)) rfl (fun x e => f235_cl e) hf (fun v2 h hf => ?_)
  refine ev_ic (v := (-1)) (q_cod qk303 rfl) (by decide) (by decide) ?_
  refine em_ic_eq (q_cod qk303 rfl) (by decide) hf (fun c5 hf => ?_) (fun c5 hf => ?_)
  · refine ev_aload_n (q_cod qk303 rfl) (by decide) rfl ?_
    obtain ⟨g3, hf⟩ := m_aK_some hf
    refine em_call (v := (fun u => some (.int u))) (q_cod qk303 rfl) rfl rfl (q_cokV rfl rfl (Or.inr g3)) rfl (fun x e => f271_cl e) hf (fun v4 h hf => ?_)
    refine ev_is2 (L' := [(0, .ref l0), (6, .int l6), (7, .int v4)]) (q_cod qk303 rfl) (by decide) rfl ?_
    refine ev_iload (q_cod qk303 rfl) (by decide) rfl ?_
    obtain rfl := m_R_inv hf
    obtain ⟨rfl, rfl⟩ := (show q_KI o hz (l6, _) from hK)
    exact ev_ret (q_cod qk303 rfl) rfl
  · refine ev_bi (v := (-8)) (q_cod qk303 rfl) (by decide) (by decide) ?_
    obtain rfl := m_R_inv hf
    obtain ⟨rfl, rfl⟩ := (show q_KI o hz ((-8), _) from hK)
    exact ev_ret (q_cod qk303 rfl) rfl
def f303_141 (l0 : Nat) (l1 : Int32) (l2 : Int32) (l3 : Int32) (l4 : Int32) (l5 : Int32) (l6 : Int32) : m_M Int32 :=
  if l5 = 0 then (m_R (-10)) else (m_B (m_aK l0 12) (fun _ => m_B (f302 l0 l1) (fun v2 => if v2 = 0 then (m_B (m_aK l0 12) (fun _ => m_B (f283 l0 l2 l3 l4) (fun v4 => if v4 = 0 then (m_B (m_aK l0 12) (fun _ => m_B (f265 l0) (fun v6 => if 24 < ((v6 + l6) - 1) then (m_R (-6)) else (m_B (m_aK l0 12) (fun _ => m_B (f203 l0 0 2) (fun _ => m_B (m_aK l0 12) (fun _ => m_B (f304 l0 l1 l2 l3 l4) (fun _ => if l6 = 0 then (m_B (m_aK l0 12) (fun _ => m_B (f197 l0 2 l1 0 0) (fun _ => f303_219 l0 l6))) else (f303_219 l0 l6))))))))) else (m_R (-11))))) else (m_R (-9)))))
theorem f303_141_ok {l0 : Nat} {l1 : Int32} {l2 : Int32} {l3 : Int32} {l4 : Int32} {l5 : Int32} {l6 : Int32} {h : q_H} {o : q_O} {hz : q_H} {x : Int32 × q_H} (hf : f303_141 l0 l1 l2 l3 l4 l5 l6 h = some x) (hK : (q_KI o hz) x) : q_Ev none 303 141 [(0, .ref l0), (1, .int l1), (2, .int l2), (3, .int l3), (4, .int l4), (5, .int l5), (6, .int l6)] [] h o hz := by
  unfold f303_141 at hf
  refine ev_iload (q_cod qk303 rfl) (by decide) rfl ?_
  refine em_if_ne (q_cod qk303 rfl) (by decide) hf (fun c17 hf => ?_) (fun c17 hf => ?_)
  · refine ev_bi (v := (-10)) (q_cod qk303 rfl) (by decide) (by decide) ?_
    obtain rfl := m_R_inv hf
    obtain ⟨rfl, rfl⟩ := (show q_KI o hz ((-10), _) from hK)
    exact ev_ret (q_cod qk303 rfl) rfl
  · refine ev_aload_n (q_cod qk303 rfl) (by decide) rfl ?_
    refine ev_iload_n (q_cod qk303 rfl) (by decide) rfl ?_
    obtain ⟨g1, hf⟩ := m_aK_some hf
    refine em_call (v := (fun u => some (.int u))) (q_cod qk303 rfl) rfl rfl (q_cokV rfl rfl (Or.inr g1)) rfl (fun x e => f302_cl e) hf (fun v2 h hf => ?_)
    refine em_if_eq (q_cod qk303 rfl) (by decide) hf (fun c16 hf => ?_) (fun c16 hf => ?_)
    · refine ev_aload_n (q_cod qk303 rfl) (by decide) rfl ?_
      refine ev_iload_n (q_cod qk303 rfl) (by decide) rfl ?_
      refine ev_iload_n (q_cod qk303 rfl) (by decide) rfl ?_
      refine ev_iload (q_cod qk303 rfl) (by decide) rfl ?_
      obtain ⟨g3, hf⟩ := m_aK_some hf
      refine em_call (v := (fun u => some (.int u))) (q_cod qk303 rfl) rfl rfl (q_cokV rfl rfl (Or.inr g3)) rfl (fun x e => f283_cl e) hf (fun v4 h hf => ?_)
      refine em_if_eq (q_cod qk303 rfl) (by decide) hf (fun c15 hf => ?_) (fun c15 hf => ?_)
      · refine ev_aload_n (q_cod qk303 rfl) (by decide) rfl ?_
        obtain ⟨g5, hf⟩ := m_aK_some hf
        refine em_call (v := (fun u => some (.int u))) (q_cod qk303 rfl) rfl rfl (q_cokV rfl rfl (Or.inr g5)) rfl (fun x e => f265_cl e) hf (fun v6 h hf => ?_)
        refine ev_iload (q_cod qk303 rfl) (by decide) rfl ?_
        refine ev_iadd (q_cod qk303 rfl) (by decide) ?_
        refine ev_ic (v := 1) (q_cod qk303 rfl) (by decide) (by decide) ?_
        refine ev_isub (q_cod qk303 rfl) (by decide) ?_
        refine ev_bi (v := 24) (q_cod qk303 rfl) (by decide) (by decide) ?_
        refine em_ic_le (q_cod qk303 rfl) (by decide) hf (fun c14 hf => ?_) (fun c14 hf => ?_)
        · refine ev_bi (v := (-6)) (q_cod qk303 rfl) (by decide) (by decide) ?_
          obtain rfl := m_R_inv hf
          obtain ⟨rfl, rfl⟩ := (show q_KI o hz ((-6), _) from hK)
          exact ev_ret (q_cod qk303 rfl) rfl
        · refine ev_aload_n (q_cod qk303 rfl) (by decide) rfl ?_
          refine ev_ic (v := 0) (q_cod qk303 rfl) (by decide) (by decide) ?_
          refine ev_ic (v := 2) (q_cod qk303 rfl) (by decide) (by decide) ?_
          obtain ⟨g7, hf⟩ := m_aK_some hf
          refine em_call (v := (fun _ => none)) (q_cod qk303 rfl) rfl rfl (q_cokV rfl rfl (Or.inr g7)) rfl (fun x e => f203_cl e) hf (fun _ h hf => ?_)
          refine ev_aload_n (q_cod qk303 rfl) (by decide) rfl ?_
          refine ev_iload_n (q_cod qk303 rfl) (by decide) rfl ?_
          refine ev_iload_n (q_cod qk303 rfl) (by decide) rfl ?_
          refine ev_iload_n (q_cod qk303 rfl) (by decide) rfl ?_
          refine ev_iload (q_cod qk303 rfl) (by decide) rfl ?_
          obtain ⟨g9, hf⟩ := m_aK_some hf
          refine em_call (v := (fun _ => none)) (q_cod qk303 rfl) rfl rfl (q_cokV rfl rfl (Or.inr g9)) rfl (fun x e => f304_cl e) hf (fun _ h hf => ?_)
          refine ev_iload (q_cod qk303 rfl) (by decide) rfl ?_
          refine em_if_ne (q_cod qk303 rfl) (by decide) hf (fun c13 hf => ?_) (fun c13 hf => ?_)
          · refine ev_aload_n (q_cod qk303 rfl) (by decide) rfl ?_
            refine ev_ic (v := 2) (q_cod qk303 rfl) (by decide) (by decide) ?_
            refine ev_iload_n (q_cod qk303 rfl) (by decide) rfl ?_
            refine ev_ic (v := 0) (q_cod qk303 rfl) (by decide) (by decide) ?_
            refine ev_ic (v := 0) (q_cod qk303 rfl) (by decide) (by decide) ?_
            obtain ⟨g11, hf⟩ := m_aK_some hf
            refine em_call (v := (fun _ => none)) (q_cod qk303 rfl) rfl rfl (q_cokV rfl rfl (Or.inr g11)) rfl (fun x e => f197_cl e) hf (fun _ h hf => ?_)
            exact ev_weak (q_pk [0, 6] rfl) (f303_219_ok hf hK)
          · exact ev_weak (q_pk [0, 6] rfl) (f303_219_ok hf hK)
      · refine ev_bi (v := (-11)) (q_cod qk303 rfl) (by decide) (by decide) ?_
        obtain rfl := m_R_inv hf
        obtain ⟨rfl, rfl⟩ := (show q_KI o hz ((-11), _) from hK)
        exact ev_ret (q_cod qk303 rfl) rfl
    · refine ev_bi (v := (-9)) (q_cod qk303 rfl) (by decide) (by decide) ?_
      obtain rfl := m_R_inv hf
      obtain ⟨rfl, rfl⟩ := (show q_KI o hz ((-9), _) from hK)
      exact ev_ret (q_cod qk303 rfl) rfl
def f303_68b (l0 : Nat) (l1 : Int32) (l2 : Int32) (l3 : Int32) (l4 : Int32) (l5 : Int32) (l6 : Int32) (l7 : Int32) : m_M ((Nat × Int32 × Int32 × Int32 × Int32 × Int32 × Int32 × Int32) ⊕ Int32) :=
  m_B (m_gR 12 l0 1) (fun r1 => m_B (m_lI r1 0) (fun v2 => if l7 < v2 then (m_B (m_aK l0 12) (fun _ => m_B (f207 l0 0 l7) (fun v4 => if v4 = l2 then (f303_97 l0 l1 l2 l3 l4 l6 l7 l5 1) else (f303_97 l0 l1 l2 l3 l4 l6 l7 l5 0)))) else (m_B (f303_141 l0 l1 l2 l3 l4 l5 l6) (fun r => m_R (.inr r)))))
theorem f303_68b_ok {l0 : Nat} {l1 : Int32} {l2 : Int32} {l3 : Int32} {l4 : Int32} {l5 : Int32} {l6 : Int32} {l7 : Int32} {h : q_H} {o : q_O} {hz : q_H} {x : ((Nat × Int32 × Int32 × Int32 × Int32 × Int32 × Int32 × Int32) ⊕ Int32) × q_H} (hf : f303_68b l0 l1 l2 l3 l4 l5 l6 l7 h = some x) (hK : (m_yK (fun (s : Nat × Int32 × Int32 × Int32 × Int32 × Int32 × Int32 × Int32) (h : q_H) => q_Ev none 303 68 [(0, .ref (s.1)), (1, .int (s.2.1)), (2, .int (s.2.2.1)), (3, .int (s.2.2.2.1)), (4, .int (s.2.2.2.2.1)), (5, .int (s.2.2.2.2.2.1)), (6, .int (s.2.2.2.2.2.2.1)), (7, .int (s.2.2.2.2.2.2.2))] [] h o hz) (q_KI o hz)) x) : q_Ev none 303 68 [(0, .ref l0), (1, .int l1), (2, .int l2), (3, .int l3), (4, .int l4), (5, .int l5), (6, .int l6), (7, .int l7)] [] h o hz := by
  unfold f303_68b at hf
  refine ev_iload (q_cod qk303 rfl) (by decide) rfl ?_
  refine ev_aload_n (q_cod qk303 rfl) (by decide) rfl ?_
  refine em_gR (q_cod qk303 rfl) (by decide) (by decide) hf (fun r1 hf => ?_)
  refine ev_ic (v := 0) (q_cod qk303 rfl) (by decide) (by decide) ?_
  refine em_lI (q_cod qk303 rfl) (by decide) hf (fun v2 hf => ?_)
  refine em_ic_ge (q_cod qk303 rfl) (by decide) hf (fun c6 hf => ?_) (fun c6 hf => ?_)
  · refine ev_iload (q_cod qk303 rfl) (by decide) rfl ?_
    refine ev_aload_n (q_cod qk303 rfl) (by decide) rfl ?_
    refine ev_ic (v := 0) (q_cod qk303 rfl) (by decide) (by decide) ?_
    refine ev_iload (q_cod qk303 rfl) (by decide) rfl ?_
    obtain ⟨g3, hf⟩ := m_aK_some hf
    refine em_call (v := (fun u => some (.int u))) (q_cod qk303 rfl) rfl rfl (q_cokV rfl rfl (Or.inr g3)) rfl (fun x e => f207_cl e) hf (fun v4 h hf => ?_)
    refine ev_iload_n (q_cod qk303 rfl) (by decide) rfl ?_
    refine em_ic_ne (q_cod qk303 rfl) (by decide) hf (fun c5 hf => ?_) (fun c5 hf => ?_)
    · refine ev_ic (v := 1) (q_cod qk303 rfl) (by decide) (by decide) ?_
      refine ev_goto (q_cod qk303 rfl) (by decide) ?_
      exact ev_weak (q_pk [0, 1, 2, 3, 4, 6, 7] rfl) (f303_97_ok hf hK)
    · refine ev_ic (v := 0) (q_cod qk303 rfl) (by decide) (by decide) ?_
      exact ev_weak (q_pk [0, 1, 2, 3, 4, 6, 7] rfl) (f303_97_ok hf hK)
  · obtain ⟨y0, hf0, hx⟩ := m_inr_some hf
    subst hx
    exact ev_weak (q_pk [0, 1, 2, 3, 4, 5, 6] rfl) (f303_141_ok hf0 hK)
def f303_68 (l0 : Nat) (l1 : Int32) (l2 : Int32) (l3 : Int32) (l4 : Int32) (l5 : Int32) (l6 : Int32) (l7 : Int32) : m_M Int32 := m_W (fun s => f303_68b (s.1) (s.2.1) (s.2.2.1) (s.2.2.2.1) (s.2.2.2.2.1) (s.2.2.2.2.2.1) (s.2.2.2.2.2.2.1) (s.2.2.2.2.2.2.2)) 1000000 (l0, l1, l2, l3, l4, l5, l6, l7)
theorem f303_68_ok {l0 : Nat} {l1 : Int32} {l2 : Int32} {l3 : Int32} {l4 : Int32} {l5 : Int32} {l6 : Int32} {l7 : Int32} {h : q_H} {o : q_O} {hz : q_H} {x : Int32 × q_H} (hf : f303_68 l0 l1 l2 l3 l4 l5 l6 l7 h = some x) (hK : (q_KI o hz) x) : q_Ev none 303 68 [(0, .ref l0), (1, .int l1), (2, .int l2), (3, .int l3), (4, .int l4), (5, .int l5), (6, .int l6), (7, .int l7)] [] h o hz :=
  m_W_ok (P := (fun (s : Nat × Int32 × Int32 × Int32 × Int32 × Int32 × Int32 × Int32) (h : q_H) => q_Ev none 303 68 [(0, .ref (s.1)), (1, .int (s.2.1)), (2, .int (s.2.2.1)), (3, .int (s.2.2.2.1)), (4, .int (s.2.2.2.2.1)), (5, .int (s.2.2.2.2.2.1)), (6, .int (s.2.2.2.2.2.2.1)), (7, .int (s.2.2.2.2.2.2.2))] [] h o hz)) (K := (q_KI o hz)) (fun s h x h1 h2 => f303_68b_ok h1 h2) _ (l0, l1, l2, l3, l4, l5, l6, l7) _ _ hf hK
def f303_26 (l0 : Nat) (l1 : Int32) (s0 : Nat) (s1 : Int32) : m_M Int32 :=
  m_B (m_aK s0 12) (fun _ => m_B (f178 s0 s1) (fun v2 => if v2 = 0 then (m_B (m_aK l0 12) (fun _ => m_B (f196 l0 0 l1 1) (fun v4 => m_B (m_aK l0 12) (fun _ => m_B (f196 l0 0 l1 2) (fun v6 => m_B (m_aK l0 12) (fun _ => m_B (f196 l0 0 l1 3) (fun v8 => f303_68 l0 l1 v4 v6 v8 0 0 0))))))) else (m_R 0)))
theorem f303_26_ok {l0 : Nat} {l1 : Int32} {s0 : Nat} {s1 : Int32} {h : q_H} {o : q_O} {hz : q_H} {x : Int32 × q_H} (hf : f303_26 l0 l1 s0 s1 h = some x) (hK : (q_KI o hz) x) : q_Ev none 303 26 [(0, .ref l0), (1, .int l1)] [.int s1, .ref s0] h o hz := by
  unfold f303_26 at hf
  obtain ⟨g1, hf⟩ := m_aK_some hf
  refine em_call (v := (fun u => some (.int u))) (q_cod qk303 rfl) rfl rfl (q_cokV rfl rfl (Or.inr g1)) rfl (fun x e => f178_cl e) hf (fun v2 h hf => ?_)
  refine em_if_eq (q_cod qk303 rfl) (by decide) hf (fun c9 hf => ?_) (fun c9 hf => ?_)
  · refine ev_aload_n (q_cod qk303 rfl) (by decide) rfl ?_
    refine ev_ic (v := 0) (q_cod qk303 rfl) (by decide) (by decide) ?_
    refine ev_iload_n (q_cod qk303 rfl) (by decide) rfl ?_
    refine ev_ic (v := 1) (q_cod qk303 rfl) (by decide) (by decide) ?_
    obtain ⟨g3, hf⟩ := m_aK_some hf
    refine em_call (v := (fun u => some (.int u))) (q_cod qk303 rfl) rfl rfl (q_cokV rfl rfl (Or.inr g3)) rfl (fun x e => f196_cl e) hf (fun v4 h hf => ?_)
    refine ev_is1 (L' := [(0, .ref l0), (1, .int l1), (2, .int v4)]) (q_cod qk303 rfl) (by decide) rfl ?_
    refine ev_aload_n (q_cod qk303 rfl) (by decide) rfl ?_
    refine ev_ic (v := 0) (q_cod qk303 rfl) (by decide) (by decide) ?_
    refine ev_iload_n (q_cod qk303 rfl) (by decide) rfl ?_
    refine ev_ic (v := 2) (q_cod qk303 rfl) (by decide) (by decide) ?_
    obtain ⟨g5, hf⟩ := m_aK_some hf
    refine em_call (v := (fun u => some (.int u))) (q_cod qk303 rfl) rfl rfl (q_cokV rfl rfl (Or.inr g5)) rfl (fun x e => f196_cl e) hf (fun v6 h hf => ?_)
    refine ev_is1 (L' := [(0, .ref l0), (1, .int l1), (2, .int v4), (3, .int v6)]) (q_cod qk303 rfl) (by decide) rfl ?_
    refine ev_aload_n (q_cod qk303 rfl) (by decide) rfl ?_
    refine ev_ic (v := 0) (q_cod qk303 rfl) (by decide) (by decide) ?_
    refine ev_iload_n (q_cod qk303 rfl) (by decide) rfl ?_
    refine ev_ic (v := 3) (q_cod qk303 rfl) (by decide) (by decide) ?_
    obtain ⟨g7, hf⟩ := m_aK_some hf
    refine em_call (v := (fun u => some (.int u))) (q_cod qk303 rfl) rfl rfl (q_cokV rfl rfl (Or.inr g7)) rfl (fun x e => f196_cl e) hf (fun v8 h hf => ?_)
    refine ev_is2 (L' := [(0, .ref l0), (1, .int l1), (2, .int v4), (3, .int v6), (4, .int v8)]) (q_cod qk303 rfl) (by decide) rfl ?_
    refine ev_ic (v := 0) (q_cod qk303 rfl) (by decide) (by decide) ?_
    refine ev_is2 (L' := [(0, .ref l0), (1, .int l1), (2, .int v4), (3, .int v6), (4, .int v8), (5, .int 0)]) (q_cod qk303 rfl) (by decide) rfl ?_
    refine ev_ic (v := 0) (q_cod qk303 rfl) (by decide) (by decide) ?_
    refine ev_is2 (L' := [(0, .ref l0), (1, .int l1), (2, .int v4), (3, .int v6), (4, .int v8), (5, .int 0), (6, .int 0)]) (q_cod qk303 rfl) (by decide) rfl ?_
    refine ev_ic (v := 0) (q_cod qk303 rfl) (by decide) (by decide) ?_
    refine ev_is2 (L' := [(0, .ref l0), (1, .int l1), (2, .int v4), (3, .int v6), (4, .int v8), (5, .int 0), (6, .int 0), (7, .int 0)]) (q_cod qk303 rfl) (by decide) rfl ?_
    exact (f303_68_ok hf hK)
  · refine ev_ic (v := 0) (q_cod qk303 rfl) (by decide) (by decide) ?_
    obtain rfl := m_R_inv hf
    obtain ⟨rfl, rfl⟩ := (show q_KI o hz (0, _) from hK)
    exact ev_ret (q_cod qk303 rfl) rfl
def f303 (l0 : Nat) (l1 : Int32) : m_M Int32 :=
  m_B (m_aK l0 12) (fun _ => m_B (f206 l0 0 l1) (fun v2 => if v2 = 0 then (f303_26 l0 l1 l0 1) else (m_B (m_aK l0 12) (fun _ => m_B (f272 l0) (fun v4 => if v4 = 0 then (f303_26 l0 l1 l0 2) else (f303_26 l0 l1 l0 0))))))
theorem f303_ok {l0 : Nat} {l1 : Int32} {h : q_H} {o : q_O} {hz : q_H} {x : Int32 × q_H} (hf : f303 l0 l1 h = some x) (hK : (q_KI o hz) x) : q_Ev none 303 0 [(0, .ref l0), (1, .int l1)] [] h o hz := by
  unfold f303 at hf
  refine ev_aload_n (q_cod qk303 rfl) (by decide) rfl ?_
  refine ev_aload_n (q_cod qk303 rfl) (by decide) rfl ?_
  refine ev_ic (v := 0) (q_cod qk303 rfl) (by decide) (by decide) ?_
  refine ev_iload_n (q_cod qk303 rfl) (by decide) rfl ?_
  obtain ⟨g1, hf⟩ := m_aK_some hf
  refine em_call (v := (fun u => some (.int u))) (q_cod qk303 rfl) rfl rfl (q_cokV rfl rfl (Or.inr g1)) rfl (fun x e => f206_cl e) hf (fun v2 h hf => ?_)
  refine em_if_ne (q_cod qk303 rfl) (by decide) hf (fun c6 hf => ?_) (fun c6 hf => ?_)
  · refine ev_ic (v := 1) (q_cod qk303 rfl) (by decide) (by decide) ?_
    refine ev_goto (q_cod qk303 rfl) (by decide) ?_
    exact (f303_26_ok hf hK)
  · refine ev_aload_n (q_cod qk303 rfl) (by decide) rfl ?_
    obtain ⟨g3, hf⟩ := m_aK_some hf
    refine em_call (v := (fun u => some (.int u))) (q_cod qk303 rfl) rfl rfl (q_cokV rfl rfl (Or.inr g3)) rfl (fun x e => f272_cl e) hf (fun v4 h hf => ?_)
    refine em_if_ne (q_cod qk303 rfl) (by decide) hf (fun c5 hf => ?_) (fun c5 hf => ?_)
    · refine ev_ic (v := 2) (q_cod qk303 rfl) (by decide) (by decide) ?_
      refine ev_goto (q_cod qk303 rfl) (by decide) ?_
      exact (f303_26_ok hf hK)
    · refine ev_ic (v := 0) (q_cod qk303 rfl) (by decide) (by decide) ?_
      exact (f303_26_ok hf hK)
theorem f303_cl {l0 : Nat} {l1 : Int32} {h : q_H} {x : Int32 × q_H} (hf : f303 l0 l1 h = some x) : q_Cl 303 [.ref l0, .int l1] h (.inl (some (.int x.1))) x.2 := q_Cl.of rfl (q_LvS rfl rfl) (f303_ok hf ⟨rfl, rfl⟩)
/-! SmithyBenchModel.enclose(IIII)I -/
theorem qk306 : q_cs.getD 306 [] = qc_306 := rfl
def f306_389 (l0 : Nat) (l1 : Int32) (l2 : Int32) (l3 : Int32) (l4 : Int32) (l10 : Int32) (l11 : Int32) (l12 : Int32) : m_M ((Nat × Int32 × Int32 × Int32 × Int32 × Int32 × Int32 × Int32) ⊕ ((Nat × Int32 × Int32 × Int32 × Int32 × Int32 × Int32) ⊕ Int32)) :=
  m_R (.inl (l0, l1, l2, l3, l4, l10, l11, (l12 + 1)))
set_option maxRecDepth 20000 in
theorem f306_389_ok {l0 : Nat} {l1 : Int32} {l2 : Int32} {l3 : Int32} {l4 : Int32} {l10 : Int32} {l11 : Int32} {l12 : Int32} {h : q_H} {o : q_O} {hz : q_H} {x : ((Nat × Int32 × Int32 × Int32 × Int32 × Int32 × Int32 × Int32) ⊕ ((Nat × Int32 × Int32 × Int32 × Int32 × Int32 × Int32) ⊕ Int32)) × q_H} (hf : f306_389 l0 l1 l2 l3 l4 l10 l11 l12 h = some x) (hK : (m_yK (fun (s : Nat × Int32 × Int32 × Int32 × Int32 × Int32 × Int32 × Int32) (h : q_H) => q_Ev none 306 272 [(0, .ref (s.1)), (1, .int (s.2.1)), (2, .int (s.2.2.1)), (3, .int (s.2.2.2.1)), (4, .int (s.2.2.2.2.1)), (10, .int (s.2.2.2.2.2.1)), (11, .int (s.2.2.2.2.2.2.1)), (12, .int (s.2.2.2.2.2.2.2))] [] h o hz) (m_yK (fun (s : Nat × Int32 × Int32 × Int32 × Int32 × Int32 × Int32) (h : q_H) => q_Ev none 306 260 [(0, .ref (s.1)), (1, .int (s.2.1)), (2, .int (s.2.2.1)), (3, .int (s.2.2.2.1)), (4, .int (s.2.2.2.2.1)), (10, .int (s.2.2.2.2.2.1)), (11, .int (s.2.2.2.2.2.2))] [] h o hz) (q_KI o hz))) x) : q_Ev none 306 389 [(0, .ref l0), (1, .int l1), (2, .int l2), (3, .int l3), (4, .int l4), (10, .int l10), (11, .int l11), (12, .int l12)] [] h o hz := by
  unfold f306_389 at hf
  refine ev_inc (v := l12 + 1) (L' := [(0, .ref l0), (1, .int l1), (2, .int l2), (3, .int l3), (4, .int l4), (10, .int l10), (11, .int l11), (12, .int (l12 + 1))]) (q_cod qk306 rfl) (by decide) rfl rfl rfl ?_
  refine ev_goto (q_cod qk306 rfl) (by decide) ?_
  obtain rfl := m_R_inv hf
  exact (show q_Ev none 306 272 [(0, .ref l0), (1, .int l1), (2, .int l2), (3, .int l3), (4, .int l4), (10, .int l10), (11, .int l11), (12, .int (l12 + 1))] [] _ o hz from hK)
def f306_383 (l0 : Nat) (l1 : Int32) (l2 : Int32) (l3 : Int32) (l4 : Int32) (l10 : Int32) (l11 : Int32) (l12 : Int32) (s0 : Nat) (s1 : Int32) (s2 : Int32) (s3 : Int32) (s4 : Int32) (s5 : Int32) (s6 : Int32) : m_M ((Nat × Int32 × Int32 × Int32 × Int32 × Int32 × Int32 × Int32) ⊕ ((Nat × Int32 × Int32 × Int32 × Int32 × Int32 × Int32) ⊕ Int32)) :=
  m_B (m_aK s0 12) (fun _ => m_B (f202 s0 s1 s2 s3 s4 s5 s6) (fun _ => f306_389 l0 l1 l2 l3 l4 (l10 + 1) l11 l12))
set_option maxRecDepth 20000 in
theorem f306_383_ok {l0 : Nat} {l1 : Int32} {l2 : Int32} {l3 : Int32} {l4 : Int32} {l10 : Int32} {l11 : Int32} {l12 : Int32} {s0 : Nat} {s1 : Int32} {s2 : Int32} {s3 : Int32} {s4 : Int32} {s5 : Int32} {s6 : Int32} {h : q_H} {o : q_O} {hz : q_H} {x : ((Nat × Int32 × Int32 × Int32 × Int32 × Int32 × Int32 × Int32) ⊕ ((Nat × Int32 × Int32 × Int32 × Int32 × Int32 × Int32) ⊕ Int32)) × q_H} (hf : f306_383 l0 l1 l2 l3 l4 l10 l11 l12 s0 s1 s2 s3 s4 s5 s6 h = some x) (hK : (m_yK (fun (s : Nat × Int32 × Int32 × Int32 × Int32 × Int32 × Int32 × Int32) (h : q_H) => q_Ev none 306 272 [(0, .ref (s.1)), (1, .int (s.2.1)), (2, .int (s.2.2.1)), (3, .int (s.2.2.2.1)), (4, .int (s.2.2.2.2.1)), (10, .int (s.2.2.2.2.2.1)), (11, .int (s.2.2.2.2.2.2.1)), (12, .int (s.2.2.2.2.2.2.2))] [] h o hz) (m_yK (fun (s : Nat × Int32 × Int32 × Int32 × Int32 × Int32 × Int32) (h : q_H) => q_Ev none 306 260 [(0, .ref (s.1)), (1, .int (s.2.1)), (2, .int (s.2.2.1)), (3, .int (s.2.2.2.1)), (4, .int (s.2.2.2.2.1)), (10, .int (s.2.2.2.2.2.1)), (11, .int (s.2.2.2.2.2.2))] [] h o hz) (q_KI o hz))) x) : q_Ev none 306 383 [(0, .ref l0), (1, .int l1), (2, .int l2), (3, .int l3), (4, .int l4), (10, .int l10), (11, .int l11), (12, .int l12)] [.int s6, .int s5, .int s4, .int s3, .int s2, .int s1, .ref s0] h o hz := by
  unfold f306_383 at hf
  obtain ⟨g1, hf⟩ := m_aK_some hf
  refine em_call (v := (fun _ => none)) (q_cod qk306 rfl) rfl rfl (q_cokV rfl rfl (Or.inr g1)) rfl (fun x e => f202_cl e) hf (fun _ h hf => ?_)
  refine ev_inc (v := l10 + 1) (L' := [(0, .ref l0), (1, .int l1), (2, .int l2), (3, .int l3), (4, .int l4), (10, .int (l10 + 1)), (11, .int l11), (12, .int l12)]) (q_cod qk306 rfl) (by decide) rfl rfl rfl ?_
  exact (f306_389_ok hf hK)
def f306_373 (l0 : Nat) (l1 : Int32) (l2 : Int32) (l3 : Int32) (l4 : Int32) (l10 : Int32) (l11 : Int32) (l12 : Int32) (l13 : Int32) (s0 : Nat) (s1 : Int32) (s2 : Int32) (s3 : Int32) (s4 : Int32) (s5 : Int32) : m_M ((Nat × Int32 × Int32 × Int32 × Int32 × Int32 × Int32 × Int32) ⊕ ((Nat × Int32 × Int32 × Int32 × Int32 × Int32 × Int32) ⊕ Int32)) :=
  if l13 = 0 then (f306_383 l0 l1 l2 l3 l4 l10 l11 l12 s0 s1 s2 s3 s4 s5 1) else (f306_383 l0 l1 l2 l3 l4 l10 l11 l12 s0 s1 s2 s3 s4 s5 0)
set_option maxRecDepth 20000 in
theorem f306_373_ok {l0 : Nat} {l1 : Int32} {l2 : Int32} {l3 : Int32} {l4 : Int32} {l10 : Int32} {l11 : Int32} {l12 : Int32} {l13 : Int32} {s0 : Nat} {s1 : Int32} {s2 : Int32} {s3 : Int32} {s4 : Int32} {s5 : Int32} {h : q_H} {o : q_O} {hz : q_H} {x : ((Nat × Int32 × Int32 × Int32 × Int32 × Int32 × Int32 × Int32) ⊕ ((Nat × Int32 × Int32 × Int32 × Int32 × Int32 × Int32) ⊕ Int32)) × q_H} (hf : f306_373 l0 l1 l2 l3 l4 l10 l11 l12 l13 s0 s1 s2 s3 s4 s5 h = some x) (hK : (m_yK (fun (s : Nat × Int32 × Int32 × Int32 × Int32 × Int32 × Int32 × Int32) (h : q_H) => q_Ev none 306 272 [(0, .ref (s.1)), (1, .int (s.2.1)), (2, .int (s.2.2.1)), (3, .int (s.2.2.2.1)), (4, .int (s.2.2.2.2.1)), (10, .int (s.2.2.2.2.2.1)), (11, .int (s.2.2.2.2.2.2.1)), (12, .int (s.2.2.2.2.2.2.2))] [] h o hz) (m_yK (fun (s : Nat × Int32 × Int32 × Int32 × Int32 × Int32 × Int32) (h : q_H) => q_Ev none 306 260 [(0, .ref (s.1)), (1, .int (s.2.1)), (2, .int (s.2.2.1)), (3, .int (s.2.2.2.1)), (4, .int (s.2.2.2.2.1)), (10, .int (s.2.2.2.2.2.1)), (11, .int (s.2.2.2.2.2.2))] [] h o hz) (q_KI o hz))) x) : q_Ev none 306 373 [(0, .ref l0), (1, .int l1), (2, .int l2), (3, .int l3), (4, .int l4), (10, .int l10), (11, .int l11), (12, .int l12), (13, .int l13)] [.int s5, .int s4, .int s3, .int s2, .int s1, .ref s0] h o hz := by
  unfold f306_373 at hf
  refine ev_iload (q_cod qk306 rfl) (by decide) rfl ?_
  refine em_if_eq (q_cod qk306 rfl) (by decide) hf (fun c1 hf => ?_) (fun c1 hf => ?_)
  · refine ev_ic (v := 1) (q_cod qk306 rfl) (by decide) (by decide) ?_
    exact ev_weak (q_pk [0, 1, 2, 3, 4, 5, 6, 7] rfl) (f306_383_ok hf hK)
  · refine ev_ic (v := 0) (q_cod qk306 rfl) (by decide) (by decide) ?_
    refine ev_goto (q_cod qk306 rfl) (by decide) ?_
    exact ev_weak (q_pk [0, 1, 2, 3, 4, 5, 6, 7] rfl) (f306_383_ok hf hK)
def f306_352 (l0 : Nat) (l1 : Int32) (l2 : Int32) (l3 : Int32) (l4 : Int32) (l10 : Int32) (l11 : Int32) (l12 : Int32) (s0 : Int32) : m_M ((Nat × Int32 × Int32 × Int32 × Int32 × Int32 × Int32 × Int32) ⊕ ((Nat × Int32 × Int32 × Int32 × Int32 × Int32 × Int32) ⊕ Int32)) :=
  if s0 = 0 then (f306_373 l0 l1 l2 l3 l4 l10 l11 l12 s0 l0 2 l11 l12 7 l4) else (f306_373 l0 l1 l2 l3 l4 l10 l11 l12 s0 l0 2 l11 l12 7 l3)
set_option maxRecDepth 20000 in
theorem f306_352_ok {l0 : Nat} {l1 : Int32} {l2 : Int32} {l3 : Int32} {l4 : Int32} {l10 : Int32} {l11 : Int32} {l12 : Int32} {s0 : Int32} {h : q_H} {o : q_O} {hz : q_H} {x : ((Nat × Int32 × Int32 × Int32 × Int32 × Int32 × Int32 × Int32) ⊕ ((Nat × Int32 × Int32 × Int32 × Int32 × Int32 × Int32) ⊕ Int32)) × q_H} (hf : f306_352 l0 l1 l2 l3 l4 l10 l11 l12 s0 h = some x) (hK : (m_yK (fun (s : Nat × Int32 × Int32 × Int32 × Int32 × Int32 × Int32 × Int32) (h : q_H) => q_Ev none 306 272 [(0, .ref (s.1)), (1, .int (s.2.1)), (2, .int (s.2.2.1)), (3, .int (s.2.2.2.1)), (4, .int (s.2.2.2.2.1)), (10, .int (s.2.2.2.2.2.1)), (11, .int (s.2.2.2.2.2.2.1)), (12, .int (s.2.2.2.2.2.2.2))] [] h o hz) (m_yK (fun (s : Nat × Int32 × Int32 × Int32 × Int32 × Int32 × Int32) (h : q_H) => q_Ev none 306 260 [(0, .ref (s.1)), (1, .int (s.2.1)), (2, .int (s.2.2.1)), (3, .int (s.2.2.2.1)), (4, .int (s.2.2.2.2.1)), (10, .int (s.2.2.2.2.2.1)), (11, .int (s.2.2.2.2.2.2))] [] h o hz) (q_KI o hz))) x) : q_Ev none 306 352 [(0, .ref l0), (1, .int l1), (2, .int l2), (3, .int l3), (4, .int l4), (10, .int l10), (11, .int l11), (12, .int l12)] [.int s0] h o hz := by
  unfold f306_352 at hf
  refine ev_is2 (L' := [(0, .ref l0), (1, .int l1), (2, .int l2), (3, .int l3), (4, .int l4), (10, .int l10), (11, .int l11), (12, .int l12), (13, .int s0)]) (q_cod qk306 rfl) (by decide) rfl ?_
  refine ev_aload_n (q_cod qk306 rfl) (by decide) rfl ?_
  refine ev_ic (v := 2) (q_cod qk306 rfl) (by decide) (by decide) ?_
  refine ev_iload (q_cod qk306 rfl) (by decide) rfl ?_
  refine ev_iload (q_cod qk306 rfl) (by decide) rfl ?_
  refine ev_bi (v := 7) (q_cod qk306 rfl) (by decide) (by decide) ?_
  refine ev_iload (q_cod qk306 rfl) (by decide) rfl ?_
  refine em_if_eq (q_cod qk306 rfl) (by decide) hf (fun c1 hf => ?_) (fun c1 hf => ?_)
  · refine ev_iload (q_cod qk306 rfl) (by decide) rfl ?_
    exact (f306_373_ok hf hK)
  · refine ev_iload_n (q_cod qk306 rfl) (by decide) rfl ?_
    refine ev_goto (q_cod qk306 rfl) (by decide) ?_
    exact (f306_373_ok hf hK)
def f306_395 (l0 : Nat) (l1 : Int32) (l2 : Int32) (l3 : Int32) (l4 : Int32) (l10 : Int32) (l11 : Int32) : m_M ((Nat × Int32 × Int32 × Int32 × Int32 × Int32 × Int32) ⊕ Int32) :=
  m_R (.inl (l0, l1, l2, l3, l4, l10, (l11 + 1)))
set_option maxRecDepth 20000 in
theorem f306_395_ok {l0 : Nat} {l1 : Int32} {l2 : Int32} {l3 : Int32} {l4 : Int32} {l10 : Int32} {l11 : Int32} {h : q_H} {o : q_O} {hz : q_H} {x : ((Nat × Int32 × Int32 × Int32 × Int32 × Int32 × Int32) ⊕ Int32) × q_H} (hf : f306_395 l0 l1 l2 l3 l4 l10 l11 h = some x) (hK : (m_yK (fun (s : Nat × Int32 × Int32 × Int32 × Int32 × Int32 × Int32) (h : q_H) => q_Ev none 306 260 [(0, .ref (s.1)), (1, .int (s.2.1)), (2, .int (s.2.2.1)), (3, .int (s.2.2.2.1)), (4, .int (s.2.2.2.2.1)), (10, .int (s.2.2.2.2.2.1)), (11, .int (s.2.2.2.2.2.2))] [] h o hz) (q_KI o hz)) x) : q_Ev none 306 395 [(0, .ref l0), (1, .int l1), (2, .int l2), (3, .int l3), (4, .int l4), (10, .int l10), (11, .int l11)] [] h o hz := by
  unfold f306_395 at hf
  refine ev_inc (v := l11 + 1) (L' := [(0, .ref l0), (1, .int l1), (2, .int l2), (3, .int l3), (4, .int l4), (10, .int l10), (11, .int (l11 + 1))]) (q_cod qk306 rfl) (by decide) rfl rfl rfl ?_
  refine ev_goto (q_cod qk306 rfl) (by decide) ?_
  obtain rfl := m_R_inv hf
  exact (show q_Ev none 306 260 [(0, .ref l0), (1, .int l1), (2, .int l2), (3, .int l3), (4, .int l4), (10, .int l10), (11, .int (l11 + 1))] [] _ o hz from hK)
def f306_272b (l0 : Nat) (l1 : Int32) (l2 : Int32) (l3 : Int32) (l4 : Int32) (l10 : Int32) (l11 : Int32) (l12 : Int32) : m_M ((Nat × Int32 × Int32 × Int32 × Int32 × Int32 × Int32 × Int32) ⊕ ((Nat × Int32 × Int32 × Int32 × Int32 × Int32 × Int32) ⊕ Int32)) :=
  m_B (m_aK l0 12) (fun _ => m_B (f196 l0 0 l11 0) (fun v2 => if v2 = 1 then (m_B (m_aK l0 12) (fun _ => m_B (f270 l0 l11) (fun v4 => if l12 < v4 then (m_B (m_aK l0 12) (fun _ => m_B (f266 l0 l11 l12) (fun v6 => if v6 = 0 then (m_B (m_aK l0 12) (fun _ => m_B (f278 l0 l11 l12 l1 l2) (fun v8 => if v8 = 0 then (f306_389 l0 l1 l2 l3 l4 l10 l11 l12) else (m_B (m_aK l0 12) (fun _ => m_B (f199 l0 0 l11 (l12 + 1)) (fun v10 => if v10 = 2 then (f306_389 l0 l1 l2 l3 l4 l10 l11 l12) else (m_B (m_aK l0 12) (fun _ => m_B (f199 l0 0 l11 l12) (fun v12 => if v12 = 3 then (f306_352 l0 l1 l2 l3 l4 l10 l11 l12 1) else (f306_352 l0 l1 l2 l3 l4 l10 l11 l12 0)))))))))) else (f306_389 l0 l1 l2 l3 l4 l10 l11 l12)))) else (m_B (f306_395 l0 l1 l2 l3 l4 l10 l11) (fun r => m_R (.inr r)))))) else (m_B (f306_395 l0 l1 l2 l3 l4 l10 l11) (fun r => m_R (.inr r)))))
set_option maxRecDepth 20000 in
theorem f306_272b_ok {l0 : Nat} {l1 : Int32} {l2 : Int32} {l3 : Int32} {l4 : Int32} {l10 : Int32} {l11 : Int32} {l12 : Int32} {h : q_H} {o : q_O} {hz : q_H} {x : ((Nat × Int32 × Int32 × Int32 × Int32 × Int32 × Int32 × Int32) ⊕ ((Nat × Int32 × Int32 × Int32 × Int32 × Int32 × Int32) ⊕ Int32)) × q_H} (hf : f306_272b l0 l1 l2 l3 l4 l10 l11 l12 h = some x) (hK : (m_yK (fun (s : Nat × Int32 × Int32 × Int32 × Int32 × Int32 × Int32 × Int32) (h : q_H) => q_Ev none 306 272 [(0, .ref (s.1)), (1, .int (s.2.1)), (2, .int (s.2.2.1)), (3, .int (s.2.2.2.1)), (4, .int (s.2.2.2.2.1)), (10, .int (s.2.2.2.2.2.1)), (11, .int (s.2.2.2.2.2.2.1)), (12, .int (s.2.2.2.2.2.2.2))] [] h o hz) (m_yK (fun (s : Nat × Int32 × Int32 × Int32 × Int32 × Int32 × Int32) (h : q_H) => q_Ev none 306 260 [(0, .ref (s.1)), (1, .int (s.2.1)), (2, .int (s.2.2.1)), (3, .int (s.2.2.2.1)), (4, .int (s.2.2.2.2.1)), (10, .int (s.2.2.2.2.2.1)), (11, .int (s.2.2.2.2.2.2))] [] h o hz) (q_KI o hz))) x) : q_Ev none 306 272 [(0, .ref l0), (1, .int l1), (2, .int l2), (3, .int l3), (4, .int l4), (10, .int l10), (11, .int l11), (12, .int l12)] [] h o hz := by
  unfold f306_272b at hf
  refine ev_aload_n (q_cod qk306 rfl) (by decide) rfl ?_
  refine ev_ic (v := 0) (q_cod qk306 rfl) (by decide) (by decide) ?_
  refine ev_iload (q_cod qk306 rfl) (by decide) rfl ?_
  refine ev_ic (v := 0) (q_cod qk306 rfl) (by decide) (by decide) ?_
  obtain ⟨g1, hf⟩ := m_aK_some hf
  refine em_call (v := (fun u => some (.int u))) (q_cod qk306 rfl) rfl rfl (q_cokV rfl rfl (Or.inr g1)) rfl (fun x e => f196_cl e) hf (fun v2 h hf => ?_)
  refine ev_ic (v := 1) (q_cod qk306 rfl) (by decide) (by decide) ?_
  refine em_ic_ne (q_cod qk306 rfl) (by decide) hf (fun c18 hf => ?_) (fun c18 hf => ?_)
  · refine ev_iload (q_cod qk306 rfl) (by decide) rfl ?_
    refine ev_aload_n (q_cod qk306 rfl) (by decide) rfl ?_
    refine ev_iload (q_cod qk306 rfl) (by decide) rfl ?_
    obtain ⟨g3, hf⟩ := m_aK_some hf
    refine em_call (v := (fun u => some (.int u))) (q_cod qk306 rfl) rfl rfl (q_cokV rfl rfl (Or.inr g3)) rfl (fun x e => f270_cl e) hf (fun v4 h hf => ?_)
    refine em_ic_ge (q_cod qk306 rfl) (by decide) hf (fun c17 hf => ?_) (fun c17 hf => ?_)
    · refine ev_aload_n (q_cod qk306 rfl) (by decide) rfl ?_
      refine ev_iload (q_cod qk306 rfl) (by decide) rfl ?_
      refine ev_iload (q_cod qk306 rfl) (by decide) rfl ?_
      obtain ⟨g5, hf⟩ := m_aK_some hf
      refine em_call (v := (fun u => some (.int u))) (q_cod qk306 rfl) rfl rfl (q_cokV rfl rfl (Or.inr g5)) rfl (fun x e => f266_cl e) hf (fun v6 h hf => ?_)
      refine em_if_ne (q_cod qk306 rfl) (by decide) hf (fun c16 hf => ?_) (fun c16 hf => ?_)
      · refine ev_aload_n (q_cod qk306 rfl) (by decide) rfl ?_
        refine ev_iload (q_cod qk306 rfl) (by decide) rfl ?_
        refine ev_iload (q_cod qk306 rfl) (by decide) rfl ?_
        refine ev_iload_n (q_cod qk306 rfl) (by decide) rfl ?_
        refine ev_iload_n (q_cod qk306 rfl) (by decide) rfl ?_
        obtain ⟨g7, hf⟩ := m_aK_some hf
        refine em_call (v := (fun u => some (.int u))) (q_cod qk306 rfl) rfl rfl (q_cokV rfl rfl (Or.inr g7)) rfl (fun x e => f278_cl e) hf (fun v8 h hf => ?_)
        refine em_if_eq (q_cod qk306 rfl) (by decide) hf (fun c15 hf => ?_) (fun c15 hf => ?_)
        · exact (f306_389_ok hf hK)
        · refine ev_aload_n (q_cod qk306 rfl) (by decide) rfl ?_
          refine ev_ic (v := 0) (q_cod qk306 rfl) (by decide) (by decide) ?_
          refine ev_iload (q_cod qk306 rfl) (by decide) rfl ?_
          refine ev_iload (q_cod qk306 rfl) (by decide) rfl ?_
          refine ev_ic (v := 1) (q_cod qk306 rfl) (by decide) (by decide) ?_
          refine ev_iadd (q_cod qk306 rfl) (by decide) ?_
          obtain ⟨g9, hf⟩ := m_aK_some hf
          refine em_call (v := (fun u => some (.int u))) (q_cod qk306 rfl) rfl rfl (q_cokV rfl rfl (Or.inr g9)) rfl (fun x e => f199_cl e) hf (fun v10 h hf => ?_)
          refine ev_ic (v := 2) (q_cod qk306 rfl) (by decide) (by decide) ?_
          refine em_ic_eq (q_cod qk306 rfl) (by decide) hf (fun c14 hf => ?_) (fun c14 hf => ?_)
          · exact (f306_389_ok hf hK)
          · refine ev_aload_n (q_cod qk306 rfl) (by decide) rfl ?_
            refine ev_ic (v := 0) (q_cod qk306 rfl) (by decide) (by decide) ?_
            refine ev_iload (q_cod qk306 rfl) (by decide) rfl ?_
            refine ev_iload (q_cod qk306 rfl) (by decide) rfl ?_
            obtain ⟨g11, hf⟩ := m_aK_some hf
            refine em_call (v := (fun u => some (.int u))) (q_cod qk306 rfl) rfl rfl (q_cokV rfl rfl (Or.inr g11)) rfl (fun x e => f199_cl e) hf (fun v12 h hf => ?_)
            refine ev_ic (v := 3) (q_cod qk306 rfl) (by decide) (by decide) ?_
            refine em_ic_ne (q_cod qk306 rfl) (by decide) hf (fun c13 hf => ?_) (fun c13 hf => ?_)
            · refine ev_ic (v := 1) (q_cod qk306 rfl) (by decide) (by decide) ?_
              refine ev_goto (q_cod qk306 rfl) (by decide) ?_
              exact (f306_352_ok hf hK)
            · refine ev_ic (v := 0) (q_cod qk306 rfl) (by decide) (by decide) ?_
              exact (f306_352_ok hf hK)
      · exact (f306_389_ok hf hK)
    · obtain ⟨y0, hf0, hx⟩ := m_inr_some hf
      subst hx
      exact ev_weak (q_pk [0, 1, 2, 3, 4, 5, 6] rfl) (f306_395_ok hf0 hK)
  · obtain ⟨y0, hf0, hx⟩ := m_inr_some hf
    subst hx
    exact ev_weak (q_pk [0, 1, 2, 3, 4, 5, 6] rfl) (f306_395_ok hf0 hK)
def f306_272 (l0 : Nat) (l1 : Int32) (l2 : Int32) (l3 : Int32) (l4 : Int32) (l10 : Int32) (l11 : Int32) (l12 : Int32) : m_M ((Nat × Int32 × Int32 × Int32 × Int32 × Int32 × Int32) ⊕ Int32) := m_W (fun s => f306_272b (s.1) (s.2.1) (s.2.2.1) (s.2.2.2.1) (s.2.2.2.2.1) (s.2.2.2.2.2.1) (s.2.2.2.2.2.2.1) (s.2.2.2.2.2.2.2)) 1000000 (l0, l1, l2, l3, l4, l10, l11, l12)
theorem f306_272_ok {l0 : Nat} {l1 : Int32} {l2 : Int32} {l3 : Int32} {l4 : Int32} {l10 : Int32} {l11 : Int32} {l12 : Int32} {h : q_H} {o : q_O} {hz : q_H} {x : ((Nat × Int32 × Int32 × Int32 × Int32 × Int32 × Int32) ⊕ Int32) × q_H} (hf : f306_272 l0 l1 l2 l3 l4 l10 l11 l12 h = some x) (hK : (m_yK (fun (s : Nat × Int32 × Int32 × Int32 × Int32 × Int32 × Int32) (h : q_H) => q_Ev none 306 260 [(0, .ref (s.1)), (1, .int (s.2.1)), (2, .int (s.2.2.1)), (3, .int (s.2.2.2.1)), (4, .int (s.2.2.2.2.1)), (10, .int (s.2.2.2.2.2.1)), (11, .int (s.2.2.2.2.2.2))] [] h o hz) (q_KI o hz)) x) : q_Ev none 306 272 [(0, .ref l0), (1, .int l1), (2, .int l2), (3, .int l3), (4, .int l4), (10, .int l10), (11, .int l11), (12, .int l12)] [] h o hz :=
  m_W_ok (P := (fun (s : Nat × Int32 × Int32 × Int32 × Int32 × Int32 × Int32 × Int32) (h : q_H) => q_Ev none 306 272 [(0, .ref (s.1)), (1, .int (s.2.1)), (2, .int (s.2.2.1)), (3, .int (s.2.2.2.1)), (4, .int (s.2.2.2.2.1)), (10, .int (s.2.2.2.2.2.1)), (11, .int (s.2.2.2.2.2.2.1)), (12, .int (s.2.2.2.2.2.2.2))] [] h o hz)) (K := (m_yK (fun (s : Nat × Int32 × Int32 × Int32 × Int32 × Int32 × Int32) (h : q_H) => q_Ev none 306 260 [(0, .ref (s.1)), (1, .int (s.2.1)), (2, .int (s.2.2.1)), (3, .int (s.2.2.2.1)), (4, .int (s.2.2.2.2.1)), (10, .int (s.2.2.2.2.2.1)), (11, .int (s.2.2.2.2.2.2))] [] h o hz) (q_KI o hz))) (fun s h x h1 h2 => f306_272b_ok h1 h2) _ (l0, l1, l2, l3, l4, l10, l11, l12) _ _ hf hK
def f306_401 (l0 : Nat) (l10 : Int32) : m_M Int32 :=
  m_B (m_aK l0 12) (fun _ => m_B (f271 l0) (fun v2 => m_R l10))
set_option maxRecDepth 20000 in
theorem f306_401_ok {l0 : Nat} {l10 : Int32} {h : q_H} {o : q_O} {hz : q_H} {x : Int32 × q_H} (hf : f306_401 l0 l10 h = some x) (hK : (q_KI o hz) x) : q_Ev none 306 401 [(0, .ref l0), (10, .int l10)] [] h o hz := by
  unfold f306_401 at hf
  refine ev_aload_n (q_cod qk306 rfl) (by decide) rfl ?_
  obtain ⟨g1, hf⟩ := m_aK_some hf
  refine em_call (v := (fun u => some (.int u))) (q_cod qk306 rfl) rfl rfl (q_cokV rfl rfl (Or.inr g1)) rfl (fun x e => f271_cl e) hf (fun v2 h hf => ?_)
  refine ev_is2 (L' := [(0, .ref l0), (10, .int l10), (11, .int v2)]) (q_cod qk306 rfl) (by decide) rfl ?_
  refine ev_iload (q_cod qk306 rfl) (by decide) rfl ?_
  obtain rfl := m_R_inv hf
  obtain ⟨rfl, rfl⟩ := (show q_KI o hz (l10, _) from hK)
  exact ev_ret (q_cod qk306 rfl) rfl
def f306_260b (l0 : Nat) (l1 : Int32) (l2 : Int32) (l3 : Int32) (l4 : Int32) (l10 : Int32) (l11 : Int32) : m_M ((Nat × Int32 × Int32 × Int32 × Int32 × Int32 × Int32) ⊕ Int32) :=
  m_B (m_aK l0 12) (fun _ => m_B (f265 l0) (fun v2 => if l11 < v2 then (f306_272 l0 l1 l2 l3 l4 l10 l11 0) else (m_B (f306_401 l0 l10) (fun r => m_R (.inr r)))))
set_option maxRecDepth 20000 in
theorem f306_260b_ok {l0 : Nat} {l1 : Int32} {l2 : Int32} {l3 : Int32} {l4 : Int32} {l10 : Int32} {l11 : Int32} {h : q_H} {o : q_O} {hz : q_H} {x : ((Nat × Int32 × Int32 × Int32 × Int32 × Int32 × Int32) ⊕ Int32) × q_H} (hf : f306_260b l0 l1 l2 l3 l4 l10 l11 h = some x) (hK : (m_yK (fun (s : Nat × Int32 × Int32 × Int32 × Int32 × Int32 × Int32) (h : q_H) => q_Ev none 306 260 [(0, .ref (s.1)), (1, .int (s.2.1)), (2, .int (s.2.2.1)), (3, .int (s.2.2.2.1)), (4, .int (s.2.2.2.2.1)), (10, .int (s.2.2.2.2.2.1)), (11, .int (s.2.2.2.2.2.2))] [] h o hz) (q_KI o hz)) x) : q_Ev none 306 260 [(0, .ref l0), (1, .int l1), (2, .int l2), (3, .int l3), (4, .int l4), (10, .int l10), (11, .int l11)] [] h o hz := by
  unfold f306_260b at hf
  refine ev_iload (q_cod qk306 rfl) (by decide) rfl ?_
  refine ev_aload_n (q_cod qk306 rfl) (by decide) rfl ?_
  obtain ⟨g1, hf⟩ := m_aK_some hf
  refine em_call (v := (fun u => some (.int u))) (q_cod qk306 rfl) rfl rfl (q_cokV rfl rfl (Or.inr g1)) rfl (fun x e => f265_cl e) hf (fun v2 h hf => ?_)
  refine em_ic_ge (q_cod qk306 rfl) (by decide) hf (fun c3 hf => ?_) (fun c3 hf => ?_)
  · refine ev_ic (v := 0) (q_cod qk306 rfl) (by decide) (by decide) ?_
    refine ev_is2 (L' := [(0, .ref l0), (1, .int l1), (2, .int l2), (3, .int l3), (4, .int l4), (10, .int l10), (11, .int l11), (12, .int 0)]) (q_cod qk306 rfl) (by decide) rfl ?_
    exact (f306_272_ok hf hK)
  · obtain ⟨y0, hf0, hx⟩ := m_inr_some hf
    subst hx
    exact ev_weak (q_pk [0, 5] rfl) (f306_401_ok hf0 hK)
def f306_260 (l0 : Nat) (l1 : Int32) (l2 : Int32) (l3 : Int32) (l4 : Int32) (l10 : Int32) (l11 : Int32) : m_M Int32 := m_W (fun s => f306_260b (s.1) (s.2.1) (s.2.2.1) (s.2.2.2.1) (s.2.2.2.2.1) (s.2.2.2.2.2.1) (s.2.2.2.2.2.2)) 1000000 (l0, l1, l2, l3, l4, l10, l11)
theorem f306_260_ok {l0 : Nat} {l1 : Int32} {l2 : Int32} {l3 : Int32} {l4 : Int32} {l10 : Int32} {l11 : Int32} {h : q_H} {o : q_O} {hz : q_H} {x : Int32 × q_H} (hf : f306_260 l0 l1 l2 l3 l4 l10 l11 h = some x) (hK : (q_KI o hz) x) : q_Ev none 306 260 [(0, .ref l0), (1, .int l1), (2, .int l2), (3, .int l3), (4, .int l4), (10, .int l10), (11, .int l11)] [] h o hz :=
  m_W_ok (P := (fun (s : Nat × Int32 × Int32 × Int32 × Int32 × Int32 × Int32) (h : q_H) => q_Ev none 306 260 [(0, .ref (s.1)), (1, .int (s.2.1)), (2, .int (s.2.2.1)), (3, .int (s.2.2.2.1)), (4, .int (s.2.2.2.2.1)), (10, .int (s.2.2.2.2.2.1)), (11, .int (s.2.2.2.2.2.2))] [] h o hz)) (K := (q_KI o hz)) (fun s h x h1 h2 => f306_260b_ok h1 h2) _ (l0, l1, l2, l3, l4, l10, l11) _ _ hf hK
def f306_176 (l0 : Nat) (l1 : Int32) (l2 : Int32) (l3 : Int32) (l4 : Int32) (l6 : Int32) (l8 : Int32) (s0 : Int32) : m_M Int32 :=
  m_B (m_aK l0 12) (fun _ => m_B (f220 l0 2 l8 l1 l4 l6) (fun _ => m_B (m_aK l0 12) (fun _ => m_B (f197 l0 2 l8 3 1) (fun _ => m_B (m_aK l0 12) (fun _ => m_B (f197 l0 2 l8 4 s0) (fun _ => m_B (m_aK l0 12) (fun _ => m_B (f197 l0 2 l8 6 l6) (fun _ => m_B (m_aK l0 12) (fun _ => m_B (f202 l0 2 l8 0 6 l2 0) (fun _ => m_B (m_aK l0 12) (fun _ => m_B (f202 l0 2 l8 1 1 s0 0) (fun _ => m_B (m_aK l0 12) (fun _ => m_B (f197 l0 2 l8 9 2) (fun _ => f306_260 l0 l1 l2 l3 l4 0 0))))))))))))))
set_option maxRecDepth 20000 in
theorem f306_176_ok {l0 : Nat} {l1 : Int32} {l2 : Int32} {l3 : Int32} {l4 : Int32} {l6 : Int32} {l8 : Int32} {s0 : Int32} {h : q_H} {o : q_O} {hz : q_H} {x : Int32 × q_H} (hf : f306_176 l0 l1 l2 l3 l4 l6 l8 s0 h = some x) (hK : (q_KI o hz) x) : q_Ev none 306 176 [(0, .ref l0), (1, .int l1), (2, .int l2), (3, .int l3), (4, .int l4), (6, .int l6), (8, .int l8)] [.int s0] h o hz := by
  unfold f306_176 at hf
  refine ev_is2 (L' := [(0, .ref l0), (1, .int l1), (2, .int l2), (3, .int l3), (4, .int l4), (6, .int l6), (8, .int l8), (9, .int s0)]) (q_cod qk306 rfl) (by decide) rfl ?_
  refine ev_aload_n (q_cod qk306 rfl) (by decide) rfl ?_
  refine ev_ic (v := 2) (q_cod qk306 rfl) (by decide) (by decide) ?_
  refine ev_iload (q_cod qk306 rfl) (by decide) rfl ?_
  refine ev_iload_n (q_cod qk306 rfl) (by decide) rfl ?_
  refine ev_iload (q_cod qk306 rfl) (by decide) rfl ?_
  refine ev_iload (q_cod qk306 rfl) (by decide) rfl ?_
  obtain ⟨g1, hf⟩ := m_aK_some hf
  refine em_call (v := (fun _ => none)) (q_cod qk306 rfl) rfl rfl (q_cokV rfl rfl (Or.inr g1)) rfl (fun x e => f220_cl e) hf (fun _ h hf => ?_)
  refine ev_aload_n (q_cod qk306 rfl) (by decide) rfl ?_
  refine ev_ic (v := 2) (q_cod qk306 rfl) (by decide) (by decide) ?_
  refine ev_iload (q_cod qk306 rfl) (by decide) rfl ?_
  refine ev_ic (v := 3) (q_cod qk306 rfl) (by decide) (by decide) ?_
  refine ev_ic (v := 1) (q_cod qk306 rfl) (by decide) (by decide) ?_
  obtain ⟨g3, hf⟩ := m_aK_some hf
  refine em_call (v := (fun _ => none)) (q_cod qk306 rfl) rfl rfl (q_cokV rfl rfl (Or.inr g3)) rfl (fun x e => f197_cl e) hf (fun _ h hf => ?_)
  refine ev_aload_n (q_cod qk306 rfl) (by decide) rfl ?_
  refine ev_ic (v := 2) (q_cod qk306 rfl) (by decide) (by decide) ?_
  refine ev_iload (q_cod qk306 rfl) (by decide) rfl ?_
  refine ev_ic (v := 4) (q_cod qk306 rfl) (by decide) (by decide) ?_
  refine ev_iload (q_cod qk306 rfl) (by decide) rfl ?_
  obtain ⟨g5, hf⟩ := m_aK_some hf
  refine em_call (v := (fun _ => none)) (q_cod qk306 rfl) rfl rfl (q_cokV rfl rfl (Or.inr g5)) rfl (fun x e => f197_cl e) hf (fun _ h hf => ?_)
  refine ev_aload_n (q_cod qk306 rfl) (by decide) rfl ?_
  refine ev_ic (v := 2) (q_cod qk306 rfl) (by decide) (by decide) ?_
  refine ev_iload (q_cod qk306 rfl) (by decide) rfl ?_
  refine ev_bi (v := 6) (q_cod qk306 rfl) (by decide) (by decide) ?_
  refine ev_iload (q_cod qk306 rfl) (by decide) rfl ?_
  obtain ⟨g7, hf⟩ := m_aK_some hf
  refine em_call (v := (fun _ => none)) (q_cod qk306 rfl) rfl rfl (q_cokV rfl rfl (Or.inr g7)) rfl (fun x e => f197_cl e) hf (fun _ h hf => ?_)
  refine ev_aload_n (q_cod qk306 rfl) (by decide) rfl ?_
  refine ev_ic (v := 2) (q_cod qk306 rfl) (by decide) (by decide) ?_
  refine ev_iload (q_cod qk306 rfl) (by decide) rfl ?_
  refine ev_ic (v := 0) (q_cod qk306 rfl) (by decide) (by decide) ?_
  refine ev_bi (v := 6) (q_cod qk306 rfl) (by decide) (by decide) ?_
  refine ev_iload_n (q_cod qk306 rfl) (by decide) rfl ?_
  refine ev_ic (v := 0) (q_cod qk306 rfl) (by decide) (by decide) ?_
  obtain ⟨g9, hf⟩ := m_aK_some hf
  refine em_call (v := (fun _ => none)) (q_cod qk306 rfl) rfl rfl (q_cokV rfl rfl (Or.inr g9)) rfl (fun x e => f202_cl e) hf (fun _ h hf => ?_)
  refine ev_aload_n (q_cod qk306 rfl) (by decide) rfl ?_
  refine ev_ic (v := 2) (q_cod qk306 rfl) (by decide) (by decide) ?_
  refine ev_iload (q_cod qk306 rfl) (by decide) rfl ?_
  refine ev_ic (v := 1) (q_cod qk306 rfl) (by decide) (by decide) ?_
  refine ev_ic (v := 1) (q_cod qk306 rfl) (by decide) (by decide) ?_
  refine ev_iload (q_cod qk306 rfl) (by decide) rfl ?_
  refine ev_ic (v := 0) (q_cod qk306 rfl) (by decide) (by decide) ?_
  obtain ⟨g11, hf⟩ := m_aK_some hf
  refine em_call (v := (fun _ => none)) (q_cod qk306 rfl) rfl rfl (q_cokV rfl rfl (Or.inr g11)) rfl (fun x e => f202_cl e) hf (fun _ h hf => ?_)
  refine ev_aload_n (q_cod qk306 rfl) (by decide) rfl ?_
  refine ev_ic (v := 2) (q_cod qk306 rfl) (by decide) (by decide) ?_
  refine ev_iload (q_cod qk306 rfl) (by decide) rfl ?_
  refine ev_bi (v := 9) (q_cod qk306 rfl) (by decide) (by decide) ?_
  refine ev_ic (v := 2) (q_cod qk306 rfl) (by decide) (by decide) ?_
  obtain ⟨g13, hf⟩ := m_aK_some hf
  refine em_call (v := (fun _ => none)) (q_cod qk306 rfl) rfl rfl (q_cokV rfl rfl (Or.inr g13)) rfl (fun x e => f197_cl e) hf (fun _ h hf => ?_)
  refine ev_ic (v := 0) (q_cod qk306 rfl) (by decide) (by decide) ?_
  refine ev_is2 (L' := [(0, .ref l0), (1, .int l1), (2, .int l2), (3, .int l3), (4, .int l4), (6, .int l6), (8, .int l8), (9, .int s0), (10, .int 0)]) (q_cod qk306 rfl) (by decide) rfl ?_
  refine ev_ic (v := 0) (q_cod qk306 rfl) (by decide) (by decide) ?_
  refine ev_is2 (L' := [(0, .ref l0), (1, .int l1), (2, .int l2), (3, .int l3), (4, .int l4), (6, .int l6), (8, .int l8), (9, .int s0), (10, .int 0), (11, .int 0)]) (q_cod qk306 rfl) (by decide) rfl ?_
  exact ev_weak (q_pk [0, 1, 2, 3, 4, 8, 9] rfl) (f306_260_ok hf hK)
def f306_80  : m_M Int32 :=
  m_R (-1)
set_option maxRecDepth 20000 in
theorem f306_80_ok  {h : q_H} {o : q_O} {hz : q_H} {x : Int32 × q_H} (hf : f306_80 h = some x) (hK : (q_KI o hz) x) : q_Ev none 306 80 [] [] h o hz := by
  unfold f306_80 at hf
  refine ev_ic (v := (-1)) (q_cod qk306 rfl) (by decide) (by decide) ?_
  obtain rfl := m_R_inv hf
  obtain ⟨rfl, rfl⟩ := (show q_KI o hz ((-1), _) from hK)
  exact ev_ret (q_cod qk306 rfl) rfl
def f306_49 (l0 : Nat) (l1 : Int32) (l2 : Int32) (l3 : Int32) (l4 : Int32) (s0 : Nat) (s1 : Int32) : m_M Int32 :=
  m_B (m_aK s0 12) (fun _ => m_B (f178 s0 s1) (fun v2 => if v2 = 0 then (m_B (m_aK l0 12) (fun _ => m_B (f215 l0 0 l1 l3 0) (fun v4 => if v4 = 0 then (m_B (m_aK l0 12) (fun _ => m_B (f215 l0 0 l1 l4 1) (fun v6 => if v6 = 0 then (m_B (m_aK l0 12) (fun _ => m_B (f265 l0) (fun v8 => if 22 < v8 then (m_R (-6)) else (m_B (m_aK l0 12) (fun _ => m_B (f203 l0 0 2) (fun _ => m_B (m_aK l0 12) (fun _ => m_B (f210 l0 0 l1 l2) (fun v12 => m_B (m_aK l0 12) (fun _ => m_B (f265 l0) (fun v14 => m_B (m_gR 12 l0 1) (fun r15 => m_B (m_lI r15 28401) (fun v16 => m_B (m_wI r15 28401 (v16 + 2)) (fun _ => m_B (m_aK l0 12) (fun _ => m_B (f220 l0 2 v14 l1 l3 (v12 - 2)) (fun _ => m_B (m_aK l0 12) (fun _ => m_B (f202 l0 2 v14 0 1 l2 0) (fun _ => m_B (m_aK l0 12) (fun _ => m_B (f197 l0 2 v14 9 1) (fun _ => if l2 = 0 then (f306_176 l0 l1 l2 l3 l4 (v12 - 2) (v14 + 1) 1) else (f306_176 l0 l1 l2 l3 l4 (v12 - 2) (v14 + 1) 0)))))))))))))))))))) else (f306_80)))) else (f306_80)))) else (m_R 0)))
set_option maxRecDepth 20000 in
theorem f306_49_ok {l0 : Nat} {l1 : Int32} {l2 : Int32} {l3 : Int32} {l4 : Int32} {s0 : Nat} {s1 : Int32} {h : q_H} {o : q_O} {hz : q_H} {x : Int32 × q_H} (hf : f306_49 l0 l1 l2 l3 l4 s0 s1 h = some x) (hK : (q_KI o hz) x) : q_Ev none 306 49 [(0, .ref l0), (1, .int l1), (2, .int l2), (3, .int l3), (4, .int l4)] [.int s1, .ref s0] h o hz := by
  unfold f306_49 at hf
  obtain ⟨g1, hf⟩ := m_aK_some hf
  refine em_call (v := (fun u => some (.int u))) (q_cod qk306 rfl) rfl rfl (q_cokV rfl rfl (Or.inr g1)) rfl (fun x e => f178_cl e) hf (fun v2 h hf => ?_)
  refine em_if_eq (q_cod qk306 rfl) (by decide) hf (fun c27 hf => ?_) (fun c27 hf => ?_)
  · refine ev_aload_n (q_cod qk306 rfl) (by decide) rfl ?_
    refine ev_ic (v := 0) (q_cod qk306 rfl) (by decide) (by decide) ?_
    refine ev_iload_n (q_cod qk306 rfl) (by decide) rfl ?_
    refine ev_iload_n (q_cod qk306 rfl) (by decide) rfl ?_
    refine ev_ic (v := 0) (q_cod qk306 rfl) (by decide) (by decide) ?_
    obtain ⟨g3, hf⟩ := m_aK_some hf
    refine em_call (v := (fun u => some (.int u))) (q_cod qk306 rfl) rfl rfl (q_cokV rfl rfl (Or.inr g3)) rfl (fun x e => f215_cl e) hf (fun v4 h hf => ?_)
    refine em_if_ne (q_cod qk306 rfl) (by decide) hf (fun c26 hf => ?_) (fun c26 hf => ?_)
    · refine ev_aload_n (q_cod qk306 rfl) (by decide) rfl ?_
      refine ev_ic (v := 0) (q_cod qk306 rfl) (by decide) (by decide) ?_
      refine ev_iload_n (q_cod qk306 rfl) (by decide) rfl ?_
      refine ev_iload (q_cod qk306 rfl) (by decide) rfl ?_
      refine ev_ic (v := 1) (q_cod qk306 rfl) (by decide) (by decide) ?_
      obtain ⟨g5, hf⟩ := m_aK_some hf
      refine em_call (v := (fun u => some (.int u))) (q_cod qk306 rfl) rfl rfl (q_cokV rfl rfl (Or.inr g5)) rfl (fun x e => f215_cl e) hf (fun v6 h hf => ?_)
      refine em_if_eq (q_cod qk306 rfl) (by decide) hf (fun c25 hf => ?_) (fun c25 hf => ?_)
      · refine ev_aload_n (q_cod qk306 rfl) (by decide) rfl ?_
        obtain ⟨g7, hf⟩ := m_aK_some hf
        refine em_call (v := (fun u => some (.int u))) (q_cod qk306 rfl) rfl rfl (q_cokV rfl rfl (Or.inr g7)) rfl (fun x e => f265_cl e) hf (fun v8 h hf => ?_)
        refine ev_bi (v := 22) (q_cod qk306 rfl) (by decide) (by decide) ?_
        refine em_ic_le (q_cod qk306 rfl) (by decide) hf (fun c24 hf => ?_) (fun c24 hf => ?_)
        · refine ev_bi (v := (-6)) (q_cod qk306 rfl) (by decide) (by decide) ?_
          obtain rfl := m_R_inv hf
          obtain ⟨rfl, rfl⟩ := (show q_KI o hz ((-6), _) from hK)
          exact ev_ret (q_cod qk306 rfl) rfl
        · refine ev_aload_n (q_cod qk306 rfl) (by decide) rfl ?_
          refine ev_ic (v := 0) (q_cod qk306 rfl) (by decide) (by decide) ?_
          refine ev_ic (v := 2) (q_cod qk306 rfl) (by decide) (by decide) ?_
          obtain ⟨g9, hf⟩ := m_aK_some hf
          refine em_call (v := (fun _ => none)) (q_cod qk306 rfl) rfl rfl (q_cokV rfl rfl (Or.inr g9)) rfl (fun x e => f203_cl e) hf (fun _ h hf => ?_)
          refine ev_aload_n (q_cod qk306 rfl) (by decide) rfl ?_
          refine ev_ic (v := 0) (q_cod qk306 rfl) (by decide) (by decide) ?_
          refine ev_iload_n (q_cod qk306 rfl) (by decide) rfl ?_
          refine ev_iload_n (q_cod qk306 rfl) (by decide) rfl ?_
          obtain ⟨g11, hf⟩ := m_aK_some hf
          refine em_call (v := (fun u => some (.int u))) (q_cod qk306 rfl) rfl rfl (q_cokV rfl rfl (Or.inr g11)) rfl (fun x e => f210_cl e) hf (fun v12 h hf => ?_)
          refine ev_ic (v := 2) (q_cod qk306 rfl) (by decide) (by decide) ?_
          refine ev_isub (q_cod qk306 rfl) (by decide) ?_
          refine ev_is2 (L' := [(0, .ref l0), (1, .int l1), (2, .int l2), (3, .int l3), (4, .int l4), (6, .int (v12 - 2))]) (q_cod qk306 rfl) (by decide) rfl ?_
          refine ev_aload_n (q_cod qk306 rfl) (by decide) rfl ?_
          obtain ⟨g13, hf⟩ := m_aK_some hf
          refine em_call (v := (fun u => some (.int u))) (q_cod qk306 rfl) rfl rfl (q_cokV rfl rfl (Or.inr g13)) rfl (fun x e => f265_cl e) hf (fun v14 h hf => ?_)
          refine ev_is2 (L' := [(0, .ref l0), (1, .int l1), (2, .int l2), (3, .int l3), (4, .int l4), (6, .int (v12 - 2)), (7, .int v14)]) (q_cod qk306 rfl) (by decide) rfl ?_
          refine ev_iload (q_cod qk306 rfl) (by decide) rfl ?_
          refine ev_ic (v := 1) (q_cod qk306 rfl) (by decide) (by decide) ?_
          refine ev_iadd (q_cod qk306 rfl) (by decide) ?_
          refine ev_is2 (L' := [(0, .ref l0), (1, .int l1), (2, .int l2), (3, .int l3), (4, .int l4), (6, .int (v12 - 2)), (7, .int v14), (8, .int (v14 + 1))]) (q_cod qk306 rfl) (by decide) rfl ?_
          refine ev_aload_n (q_cod qk306 rfl) (by decide) rfl ?_
          refine em_gR (q_cod qk306 rfl) (by decide) (by decide) hf (fun r15 hf => ?_)
          refine ev_si (v := 28401) (q_cod qk306 rfl) (by decide) (by decide) ?_
          refine ev_dup2 (q_cod qk306 rfl) (by decide) rfl rfl ?_
          refine em_lI (q_cod qk306 rfl) (by decide) hf (fun v16 hf => ?_)
          refine ev_ic (v := 2) (q_cod qk306 rfl) (by decide) (by decide) ?_
          refine ev_iadd (q_cod qk306 rfl) (by decide) ?_
          refine em_wI (q_cod qk306 rfl) (by decide) hf (fun hf => ?_)
          refine ev_aload_n (q_cod qk306 rfl) (by decide) rfl ?_
          refine ev_ic (v := 2) (q_cod qk306 rfl) (by decide) (by decide) ?_
          refine ev_iload (q_cod qk306 rfl) (by decide) rfl ?_
          refine ev_iload_n (q_cod qk306 rfl) (by decide) rfl ?_
          refine ev_iload_n (q_cod qk306 rfl) (by decide) rfl ?_
          refine ev_iload (q_cod qk306 rfl) (by decide) rfl ?_
          obtain ⟨g17, hf⟩ := m_aK_some hf
          refine em_call (v := (fun _ => none)) (q_cod qk306 rfl) rfl rfl (q_cokV rfl rfl (Or.inr g17)) rfl (fun x e => f220_cl e) hf (fun _ h hf => ?_)
          refine ev_aload_n (q_cod qk306 rfl) (by decide) rfl ?_
          refine ev_ic (v := 2) (q_cod qk306 rfl) (by decide) (by decide) ?_
          refine ev_iload (q_cod qk306 rfl) (by decide) rfl ?_
          refine ev_ic (v := 0) (q_cod qk306 rfl) (by decide) (by decide) ?_
          refine ev_ic (v := 1) (q_cod qk306 rfl) (by decide) (by decide) ?_
          refine ev_iload_n (q_cod qk306 rfl) (by decide) rfl ?_
          refine ev_ic (v := 0) (q_cod qk306 rfl) (by decide) (by decide) ?_
          obtain ⟨g19, hf⟩ := m_aK_some hf
          refine em_call (v := (fun _ => none)) (q_cod qk306 rfl) rfl rfl (q_cokV rfl rfl (Or.inr g19)) rfl (fun x e => f202_cl e) hf (fun _ h hf => ?_)
          refine ev_aload_n (q_cod qk306 rfl) (by decide) rfl ?_
          refine ev_ic (v := 2) (q_cod qk306 rfl) (by decide) (by decide) ?_
          refine ev_iload (q_cod qk306 rfl) (by decide) rfl ?_
          refine ev_bi (v := 9) (q_cod qk306 rfl) (by decide) (by decide) ?_
          refine ev_ic (v := 1) (q_cod qk306 rfl) (by decide) (by decide) ?_
          obtain ⟨g21, hf⟩ := m_aK_some hf
          refine em_call (v := (fun _ => none)) (q_cod qk306 rfl) rfl rfl (q_cokV rfl rfl (Or.inr g21)) rfl (fun x e => f197_cl e) hf (fun _ h hf => ?_)
          refine ev_iload_n (q_cod qk306 rfl) (by decide) rfl ?_
          refine em_if_ne (q_cod qk306 rfl) (by decide) hf (fun c23 hf => ?_) (fun c23 hf => ?_)
          · refine ev_ic (v := 1) (q_cod qk306 rfl) (by decide) (by decide) ?_
            refine ev_goto (q_cod qk306 rfl) (by decide) ?_
            exact ev_weak (q_pk [0, 1, 2, 3, 4, 5, 7] rfl) (f306_176_ok hf hK)
          · refine ev_ic (v := 0) (q_cod qk306 rfl) (by decide) (by decide) ?_
            exact ev_weak (q_pk [0, 1, 2, 3, 4, 5, 7] rfl) (f306_176_ok hf hK)
      · exact ev_weak (q_pk [] rfl) (f306_80_ok hf hK)
    · exact ev_weak (q_pk [] rfl) (f306_80_ok hf hK)
  · refine ev_ic (v := 0) (q_cod qk306 rfl) (by decide) (by decide) ?_
    obtain rfl := m_R_inv hf
    obtain ⟨rfl, rfl⟩ := (show q_KI o hz (0, _) from hK)
    exact ev_ret (q_cod qk306 rfl) rfl
def f306_33 (l0 : Nat) (l1 : Int32) (l2 : Int32) (l3 : Int32) (l4 : Int32) (s0 : Nat) : m_M Int32 :=
  f306_49 l0 l1 l2 l3 l4 s0 2
set_option maxRecDepth 20000 in
theorem f306_33_ok {l0 : Nat} {l1 : Int32} {l2 : Int32} {l3 : Int32} {l4 : Int32} {s0 : Nat} {h : q_H} {o : q_O} {hz : q_H} {x : Int32 × q_H} (hf : f306_33 l0 l1 l2 l3 l4 s0 h = some x) (hK : (q_KI o hz) x) : q_Ev none 306 33 [(0, .ref l0), (1, .int l1), (2, .int l2), (3, .int l3), (4, .int l4)] [.ref s0] h o hz := by
  unfold f306_33 at hf
  refine ev_ic (v := 2) (q_cod qk306 rfl) (by decide) (by decide) ?_
  refine ev_goto (q_cod qk306 rfl) (by decide) ?_
  exact (f306_49_ok hf hK)
def f306 (l0 : Nat) (l1 : Int32) (l2 : Int32) (l3 : Int32) (l4 : Int32) : m_M Int32 :=
  m_B (m_aK l0 12) (fun _ => m_B (f277 l0 l1 l2) (fun v2 => if v2 = 0 then (f306_49 l0 l1 l2 l3 l4 l0 1) else (m_B (f180 l3) (fun v3 => if v3 = 0 then (f306_33 l0 l1 l2 l3 l4 l0) else (m_B (f180 l4) (fun v4 => if v4 = 0 then (f306_33 l0 l1 l2 l3 l4 l0) else (m_B (m_aK l0 12) (fun _ => m_B (f272 l0) (fun v6 => if v6 = 0 then (f306_49 l0 l1 l2 l3 l4 l0 3) else (f306_49 l0 l1 l2 l3 l4 l0 0))))))))))
set_option maxRecDepth 20000 in
theorem f306_ok {l0 : Nat} {l1 : Int32} {l2 : Int32} {l3 : Int32} {l4 : Int32} {h : q_H} {o : q_O} {hz : q_H} {x : Int32 × q_H} (hf : f306 l0 l1 l2 l3 l4 h = some x) (hK : (q_KI o hz) x) : q_Ev none 306 0 [(0, .ref l0), (1, .int l1), (2, .int l2), (3, .int l3), (4, .int l4)] [] h o hz := by
  unfold f306 at hf
  refine ev_aload_n (q_cod qk306 rfl) (by decide) rfl ?_
  refine ev_iload_n (q_cod qk306 rfl) (by decide) rfl ?_
  refine ev_iload_n (q_cod qk306 rfl) (by decide) rfl ?_
  obtain ⟨g1, hf⟩ := m_aK_some hf
  refine em_call (v := (fun u => some (.int u))) (q_cod qk306 rfl) rfl rfl (q_cokV rfl rfl (Or.inr g1)) rfl (fun x e => f277_cl e) hf (fun v2 h hf => ?_)
  refine ev_is2 (L' := [(0, .ref l0), (1, .int l1), (2, .int l2), (3, .int l3), (4, .int l4), (5, .int v2)]) (q_cod qk306 rfl) (by decide) rfl ?_
  refine ev_aload_n (q_cod qk306 rfl) (by decide) rfl ?_
  refine ev_iload (q_cod qk306 rfl) (by decide) rfl ?_
  refine em_if_ne (q_cod qk306 rfl) (by decide) hf (fun c10 hf => ?_) (fun c10 hf => ?_)
  · refine ev_ic (v := 1) (q_cod qk306 rfl) (by decide) (by decide) ?_
    refine ev_goto (q_cod qk306 rfl) (by decide) ?_
    exact ev_weak (q_pk [0, 1, 2, 3, 4] rfl) (f306_49_ok hf hK)
  · refine ev_iload_n (q_cod qk306 rfl) (by decide) rfl ?_
    refine em_call (v := (fun u => some (.int u))) (q_cod qk306 rfl) rfl rfl (q_cokS rfl rfl) rfl (fun x e => f180_cl e) hf (fun v3 h hf => ?_)
    refine em_if_eq (q_cod qk306 rfl) (by decide) hf (fun c9 hf => ?_) (fun c9 hf => ?_)
    · exact ev_weak (q_pk [0, 1, 2, 3, 4] rfl) (f306_33_ok hf hK)
    · refine ev_iload (q_cod qk306 rfl) (by decide) rfl ?_
      refine em_call (v := (fun u => some (.int u))) (q_cod qk306 rfl) rfl rfl (q_cokS rfl rfl) rfl (fun x e => f180_cl e) hf (fun v4 h hf => ?_)
      refine em_if_ne (q_cod qk306 rfl) (by decide) hf (fun c8 hf => ?_) (fun c8 hf => ?_)
      · exact ev_weak (q_pk [0, 1, 2, 3, 4] rfl) (f306_33_ok hf hK)
      · refine ev_aload_n (q_cod qk306 rfl) (by decide) rfl ?_
        obtain ⟨g5, hf⟩ := m_aK_some hf
        refine em_call (v := (fun u => some (.int u))) (q_cod qk306 rfl) rfl rfl (q_cokV rfl rfl (Or.inr g5)) rfl (fun x e => f272_cl e) hf (fun v6 h hf => ?_)
        refine em_if_ne (q_cod qk306 rfl) (by decide) hf (fun c7 hf => ?_) (fun c7 hf => ?_)
        · refine ev_ic (v := 3) (q_cod qk306 rfl) (by decide) (by decide) ?_
          refine ev_goto (q_cod qk306 rfl) (by decide) ?_
          exact ev_weak (q_pk [0, 1, 2, 3, 4] rfl) (f306_49_ok hf hK)
        · refine ev_ic (v := 0) (q_cod qk306 rfl) (by decide) (by decide) ?_
          exact ev_weak (q_pk [0, 1, 2, 3, 4] rfl) (f306_49_ok hf hK)
theorem f306_cl {l0 : Nat} {l1 : Int32} {l2 : Int32} {l3 : Int32} {l4 : Int32} {h : q_H} {x : Int32 × q_H} (hf : f306 l0 l1 l2 l3 l4 h = some x) : q_Cl 306 [.ref l0, .int l1, .int l2, .int l3, .int l4] h (.inl (some (.int x.1))) x.2 := q_Cl.of rfl (q_LvS rfl rfl) (f306_ok hf ⟨rfl, rfl⟩)
/-! SmithyBenchModel.removeDead(I)I -/
theorem qk307 : q_cs.getD 307 [] = qc_307 := rfl
def f307_94 (l0 : Nat) (l1 : Int32) (l2 : Int32) (l3 : Int32) : m_M ((Nat × Int32 × Int32 × Int32) ⊕ Int32) :=
  m_R (.inl (l0, l1, l2, (l3 + 1)))
theorem f307_94_ok {l0 : Nat} {l1 : Int32} {l2 : Int32} {l3 : Int32} {h : q_H} {o : q_O} {hz : q_H} {x : ((Nat × Int32 × Int32 × Int32) ⊕ Int32) × q_H} (hf : f307_94 l0 l1 l2 l3 h = some x) (hK : (m_yK (fun (s : Nat × Int32 × Int32 × Int32) (h : q_H) => q_Ev none 307 50 [(0, .ref (s.1)), (1, .int (s.2.1)), (2, .int (s.2.2.1)), (3, .int (s.2.2.2))] [] h o hz) (q_KI o hz)) x) : q_Ev none 307 94 [(0, .ref l0), (1, .int l1), (2, .int l2), (3, .int l3)] [] h o hz := by
  unfold f307_94 at hf
  refine ev_inc (v := l3 + 1) (L' := [(0, .ref l0), (1, .int l1), (2, .int l2), (3, .int (l3 + 1))]) (q_cod qk307 rfl) (by decide) rfl rfl rfl ?_
  refine ev_goto (q_cod qk307 rfl) (by decide) ?_
  obtain rfl := m_R_inv hf
  exact (show q_Ev none 307 50 [(0, .ref l0), (1, .int l1), (2, .int l2), (3, .int (l3 + 1))] [] _ o hz from hK)
def f307_100 (l0 : Nat) (l2 : Int32) : m_M Int32 :=
  m_B (m_aK l0 12) (fun _ => m_B (f271 l0) (fun v2 => m_R l2))
theorem f307_100_ok {l0 : Nat} {l2 : Int32} {h : q_H} {o : q_O} {hz : q_H} {x : Int32 × q_H} (hf : f307_100 l0 l2 h = some x) (hK : (q_KI o hz) x) : q_Ev none 307 100 [(0, .ref l0), (2, .int l2)] [] h o hz := by
  unfold f307_100 at hf
  refine ev_aload_n (q_cod qk307 rfl) (by decide) rfl ?_
  obtain ⟨g1, hf⟩ := m_aK_some hf
  refine em_call (v := (fun u => some (.int u))) (q_cod qk307 rfl) rfl rfl (q_cokV rfl rfl (Or.inr g1)) rfl (fun x e => f271_cl e) hf (fun v2 h hf => ?_)
  refine ev_is1 (L' := [(0, .ref l0), (2, .int l2), (3, .int v2)]) (q_cod qk307 rfl) (by decide) rfl ?_
  refine ev_iload_n (q_cod qk307 rfl) (by decide) rfl ?_
  obtain rfl := m_R_inv hf
  obtain ⟨rfl, rfl⟩ := (show q_KI o hz (l2, _) from hK)
  exact ev_ret (q_cod qk307 rfl) rfl
def f307_50b (l0 : Nat) (l1 : Int32) (l2 : Int32) (l3 : Int32) : m_M ((Nat × Int32 × Int32 × Int32) ⊕ Int32) :=
  m_B (m_aK l0 12) (fun _ => m_B (f265 l0) (fun v2 => if l3 < v2 then (if l3 = l1 then (f307_94 l0 l1 l2 l3) else (m_B (m_gR 12 l0 37) (fun r3 => m_B (m_lZ r3 l3) (fun v4 => if v4 = 0 then (m_B (m_aK l0 12) (fun _ => m_B (f196 l0 0 l3 0) (fun v6 => if v6 = 1 then (m_B (m_aK l0 12) (fun _ => m_B (f197 l0 2 l3 0 0) (fun _ => f307_94 l0 l1 (l2 + 1) l3))) else (f307_94 l0 l1 l2 l3)))) else (f307_94 l0 l1 l2 l3))))) else (m_B (f307_100 l0 l2) (fun r => m_R (.inr r)))))
theorem f307_50b_ok {l0 : Nat} {l1 : Int32} {l2 : Int32} {l3 : Int32} {h : q_H} {o : q_O} {hz : q_H} {x : ((Nat × Int32 × Int32 × Int32) ⊕ Int32) × q_H} (hf : f307_50b l0 l1 l2 l3 h = some x) (hK : (m_yK (fun (s : Nat × Int32 × Int32 × Int32) (h : q_H) => q_Ev none 307 50 [(0, .ref (s.1)), (1, .int (s.2.1)), (2, .int (s.2.2.1)), (3, .int (s.2.2.2))] [] h o hz) (q_KI o hz)) x) : q_Ev none 307 50 [(0, .ref l0), (1, .int l1), (2, .int l2), (3, .int l3)] [] h o hz := by
  unfold f307_50b at hf
  refine ev_iload_n (q_cod qk307 rfl) (by decide) rfl ?_
  refine ev_aload_n (q_cod qk307 rfl) (by decide) rfl ?_
  obtain ⟨g1, hf⟩ := m_aK_some hf
  refine em_call (v := (fun u => some (.int u))) (q_cod qk307 rfl) rfl rfl (q_cokV rfl rfl (Or.inr g1)) rfl (fun x e => f265_cl e) hf (fun v2 h hf => ?_)
  refine em_ic_ge (q_cod qk307 rfl) (by decide) hf (fun c12 hf => ?_) (fun c12 hf => ?_)
  · refine ev_iload_n (q_cod qk307 rfl) (by decide) rfl ?_
    refine ev_iload_n (q_cod qk307 rfl) (by decide) rfl ?_
    refine em_ic_eq (q_cod qk307 rfl) (by decide) hf (fun c11 hf => ?_) (fun c11 hf => ?_)
    · exact (f307_94_ok hf hK)
    · refine ev_aload_n (q_cod qk307 rfl) (by decide) rfl ?_
      refine em_gR (q_cod qk307 rfl) (by decide) (by decide) hf (fun r3 hf => ?_)
      refine ev_iload_n (q_cod qk307 rfl) (by decide) rfl ?_
      refine em_lZ (q_cod qk307 rfl) (by decide) hf (fun v4 hf => ?_)
      refine em_if_ne (q_cod qk307 rfl) (by decide) hf (fun c10 hf => ?_) (fun c10 hf => ?_)
      · refine ev_aload_n (q_cod qk307 rfl) (by decide) rfl ?_
        refine ev_ic (v := 0) (q_cod qk307 rfl) (by decide) (by decide) ?_
        refine ev_iload_n (q_cod qk307 rfl) (by decide) rfl ?_
        refine ev_ic (v := 0) (q_cod qk307 rfl) (by decide) (by decide) ?_
        obtain ⟨g5, hf⟩ := m_aK_some hf
        refine em_call (v := (fun u => some (.int u))) (q_cod qk307 rfl) rfl rfl (q_cokV rfl rfl (Or.inr g5)) rfl (fun x e => f196_cl e) hf (fun v6 h hf => ?_)
        refine ev_ic (v := 1) (q_cod qk307 rfl) (by decide) (by decide) ?_
        refine em_ic_ne (q_cod qk307 rfl) (by decide) hf (fun c9 hf => ?_) (fun c9 hf => ?_)
        · refine ev_aload_n (q_cod qk307 rfl) (by decide) rfl ?_
          refine ev_ic (v := 2) (q_cod qk307 rfl) (by decide) (by decide) ?_
          refine ev_iload_n (q_cod qk307 rfl) (by decide) rfl ?_
          refine ev_ic (v := 0) (q_cod qk307 rfl) (by decide) (by decide) ?_
          refine ev_ic (v := 0) (q_cod qk307 rfl) (by decide) (by decide) ?_
          obtain ⟨g7, hf⟩ := m_aK_some hf
          refine em_call (v := (fun _ => none)) (q_cod qk307 rfl) rfl rfl (q_cokV rfl rfl (Or.inr g7)) rfl (fun x e => f197_cl e) hf (fun _ h hf => ?_)
          refine ev_inc (v := l2 + 1) (L' := [(0, .ref l0), (1, .int l1), (2, .int (l2 + 1)), (3, .int l3)]) (q_cod qk307 rfl) (by decide) rfl rfl rfl ?_
          exact (f307_94_ok hf hK)
        · exact (f307_94_ok hf hK)
      · exact (f307_94_ok hf hK)
  · obtain ⟨y0, hf0, hx⟩ := m_inr_some hf
    subst hx
    exact ev_weak (q_pk [0, 2] rfl) (f307_100_ok hf0 hK)
def f307_50 (l0 : Nat) (l1 : Int32) (l2 : Int32) (l3 : Int32) : m_M Int32 := m_W (fun s => f307_50b (s.1) (s.2.1) (s.2.2.1) (s.2.2.2)) 1000000 (l0, l1, l2, l3)
theorem f307_50_ok {l0 : Nat} {l1 : Int32} {l2 : Int32} {l3 : Int32} {h : q_H} {o : q_O} {hz : q_H} {x : Int32 × q_H} (hf : f307_50 l0 l1 l2 l3 h = some x) (hK : (q_KI o hz) x) : q_Ev none 307 50 [(0, .ref l0), (1, .int l1), (2, .int l2), (3, .int l3)] [] h o hz :=
  m_W_ok (P := (fun (s : Nat × Int32 × Int32 × Int32) (h : q_H) => q_Ev none 307 50 [(0, .ref (s.1)), (1, .int (s.2.1)), (2, .int (s.2.2.1)), (3, .int (s.2.2.2))] [] h o hz)) (K := (q_KI o hz)) (fun s h x h1 h2 => f307_50b_ok h1 h2) _ (l0, l1, l2, l3) _ _ hf hK
def f307_26 (l0 : Nat) (l1 : Int32) (s0 : Nat) (s1 : Int32) : m_M Int32 :=
  m_B (m_aK s0 12) (fun _ => m_B (f178 s0 s1) (fun v2 => if v2 = 0 then (m_B (m_aK l0 12) (fun _ => m_B (f258 l0 0 l1) (fun _ => m_B (m_aK l0 12) (fun _ => m_B (f203 l0 0 2) (fun _ => f307_50 l0 l1 0 0))))) else (m_R 0)))
theorem f307_26_ok {l0 : Nat} {l1 : Int32} {s0 : Nat} {s1 : Int32} {h : q_H} {o : q_O} {hz : q_H} {x : Int32 × q_H} (hf : f307_26 l0 l1 s0 s1 h = some x) (hK : (q_KI o hz) x) : q_Ev none 307 26 [(0, .ref l0), (1, .int l1)] [.int s1, .ref s0] h o hz := by
  unfold f307_26 at hf
  obtain ⟨g1, hf⟩ := m_aK_some hf
  refine em_call (v := (fun u => some (.int u))) (q_cod qk307 rfl) rfl rfl (q_cokV rfl rfl (Or.inr g1)) rfl (fun x e => f178_cl e) hf (fun v2 h hf => ?_)
  refine em_if_eq (q_cod qk307 rfl) (by decide) hf (fun c7 hf => ?_) (fun c7 hf => ?_)
  · refine ev_aload_n (q_cod qk307 rfl) (by decide) rfl ?_
    refine ev_ic (v := 0) (q_cod qk307 rfl) (by decide) (by decide) ?_
    refine ev_iload_n (q_cod qk307 rfl) (by decide) rfl ?_
    obtain ⟨g3, hf⟩ := m_aK_some hf
    refine em_call (v := (fun _ => none)) (q_cod qk307 rfl) rfl rfl (q_cokV rfl rfl (Or.inr g3)) rfl (fun x e => f258_cl e) hf (fun _ h hf => ?_)
    refine ev_aload_n (q_cod qk307 rfl) (by decide) rfl ?_
    refine ev_ic (v := 0) (q_cod qk307 rfl) (by decide) (by decide) ?_
    refine ev_ic (v := 2) (q_cod qk307 rfl) (by decide) (by decide) ?_
    obtain ⟨g5, hf⟩ := m_aK_some hf
    refine em_call (v := (fun _ => none)) (q_cod qk307 rfl) rfl rfl (q_cokV rfl rfl (Or.inr g5)) rfl (fun x e => f203_cl e) hf (fun _ h hf => ?_)
    refine ev_ic (v := 0) (q_cod qk307 rfl) (by decide) (by decide) ?_
    refine ev_is1 (L' := [(0, .ref l0), (1, .int l1), (2, .int 0)]) (q_cod qk307 rfl) (by decide) rfl ?_
    refine ev_ic (v := 0) (q_cod qk307 rfl) (by decide) (by decide) ?_
    refine ev_is1 (L' := [(0, .ref l0), (1, .int l1), (2, .int 0), (3, .int 0)]) (q_cod qk307 rfl) (by decide) rfl ?_
    exact (f307_50_ok hf hK)
  · refine ev_ic (v := 0) (q_cod qk307 rfl) (by decide) (by decide) ?_
    obtain rfl := m_R_inv hf
    obtain ⟨rfl, rfl⟩ := (show q_KI o hz (0, _) from hK)
    exact ev_ret (q_cod qk307 rfl) rfl
def f307 (l0 : Nat) (l1 : Int32) : m_M Int32 :=
  m_B (m_aK l0 12) (fun _ => m_B (f206 l0 0 l1) (fun v2 => if v2 = 0 then (f307_26 l0 l1 l0 1) else (m_B (m_aK l0 12) (fun _ => m_B (f272 l0) (fun v4 => if v4 = 0 then (f307_26 l0 l1 l0 2) else (f307_26 l0 l1 l0 0))))))
theorem f307_ok {l0 : Nat} {l1 : Int32} {h : q_H} {o : q_O} {hz : q_H} {x : Int32 × q_H} (hf : f307 l0 l1 h = some x) (hK : (q_KI o hz) x) : q_Ev none 307 0 [(0, .ref l0), (1, .int l1)] [] h o hz := by
  unfold f307 at hf
  refine ev_aload_n (q_cod qk307 rfl) (by decide) rfl ?_
  refine ev_aload_n (q_cod qk307 rfl) (by decide) rfl ?_
  refine ev_ic (v := 0) (q_cod qk307 rfl) (by decide) (by decide) ?_
  refine ev_iload_n (q_cod qk307 rfl) (by decide) rfl ?_
  obtain ⟨g1, hf⟩ := m_aK_some hf
  refine em_call (v := (fun u => some (.int u))) (q_cod qk307 rfl) rfl rfl (q_cokV rfl rfl (Or.inr g1)) rfl (fun x e => f206_cl e) hf (fun v2 h hf => ?_)
  refine em_if_ne (q_cod qk307 rfl) (by decide) hf (fun c6 hf => ?_) (fun c6 hf => ?_)
  · refine ev_ic (v := 1) (q_cod qk307 rfl) (by decide) (by decide) ?_
    refine ev_goto (q_cod qk307 rfl) (by decide) ?_
    exact (f307_26_ok hf hK)
  · refine ev_aload_n (q_cod qk307 rfl) (by decide) rfl ?_
    obtain ⟨g3, hf⟩ := m_aK_some hf
    refine em_call (v := (fun u => some (.int u))) (q_cod qk307 rfl) rfl rfl (q_cokV rfl rfl (Or.inr g3)) rfl (fun x e => f272_cl e) hf (fun v4 h hf => ?_)
    refine em_if_ne (q_cod qk307 rfl) (by decide) hf (fun c5 hf => ?_) (fun c5 hf => ?_)
    · refine ev_ic (v := 2) (q_cod qk307 rfl) (by decide) (by decide) ?_
      refine ev_goto (q_cod qk307 rfl) (by decide) ?_
      exact (f307_26_ok hf hK)
    · refine ev_ic (v := 0) (q_cod qk307 rfl) (by decide) (by decide) ?_
      exact (f307_26_ok hf hK)
theorem f307_cl {l0 : Nat} {l1 : Int32} {h : q_H} {x : Int32 × q_H} (hf : f307 l0 l1 h = some x) : q_Cl 307 [.ref l0, .int l1] h (.inl (some (.int x.1))) x.2 := q_Cl.of rfl (q_LvS rfl rfl) (f307_ok hf ⟨rfl, rfl⟩)
