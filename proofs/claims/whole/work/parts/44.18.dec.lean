/-! SmithyBenchModel.findReached(II)V -/
theorem qk258 : q_cs.getD 258 [] = qc_258 := rfl
def f258_85  : m_M Unit :=
  m_R ()
theorem f258_85_ok  {h : q_H} {o : q_O} {hz : q_H} {x : Unit × q_H} (hf : f258_85 h = some x) (hK : (m_KU o hz) x) : q_Ev none 258 85 [] [] h o hz := by
  unfold f258_85 at hf
  obtain rfl := m_R_inv hf
  obtain ⟨rfl, rfl⟩ := (show m_KU o hz ((), _) from hK)
  exact ev_ret (q_cod qk258 rfl) rfl
def f258_75 (l0 : Nat) (l1 : Int32) (l4 : Int32) (s0 : Int32) : m_M ((Nat × Int32 × Int32 × Int32) ⊕ ((Nat × Int32 × Int32) ⊕ Unit)) :=
  m_R (.inl (l0, l1, s0, (l4 + 1)))
theorem f258_75_ok {l0 : Nat} {l1 : Int32} {l4 : Int32} {s0 : Int32} {h : q_H} {o : q_O} {hz : q_H} {x : ((Nat × Int32 × Int32 × Int32) ⊕ ((Nat × Int32 × Int32) ⊕ Unit)) × q_H} (hf : f258_75 l0 l1 l4 s0 h = some x) (hK : (m_yK (fun (s : Nat × Int32 × Int32 × Int32) (h : q_H) => q_Ev none 258 39 [(0, .ref (s.1)), (1, .int (s.2.1)), (3, .int (s.2.2.1)), (4, .int (s.2.2.2))] [] h o hz) (m_yK (fun (s : Nat × Int32 × Int32) (h : q_H) => q_Ev none 258 30 [(0, .ref (s.1)), (1, .int (s.2.1)), (3, .int (s.2.2))] [] h o hz) (m_KU o hz))) x) : q_Ev none 258 75 [(0, .ref l0), (1, .int l1), (4, .int l4)] [.int s0] h o hz := by
  unfold f258_75 at hf
  refine ev_is1 (L' := [(0, .ref l0), (1, .int l1), (3, .int s0), (4, .int l4)]) (q_cod qk258 rfl) (by decide) rfl ?_
  refine ev_inc (v := l4 + 1) (L' := [(0, .ref l0), (1, .int l1), (3, .int s0), (4, .int (l4 + 1))]) (q_cod qk258 rfl) (by decide) rfl rfl rfl ?_
  refine ev_goto (q_cod qk258 rfl) (by decide) ?_
  obtain rfl := m_R_inv hf
  exact (show q_Ev none 258 39 [(0, .ref l0), (1, .int l1), (3, .int s0), (4, .int (l4 + 1))] [] _ o hz from hK)
def f258_70 (l0 : Nat) (l1 : Int32) (l4 : Int32) : m_M ((Nat × Int32 × Int32 × Int32) ⊕ ((Nat × Int32 × Int32) ⊕ Unit)) :=
  f258_75 l0 l1 l4 1
theorem f258_70_ok {l0 : Nat} {l1 : Int32} {l4 : Int32} {h : q_H} {o : q_O} {hz : q_H} {x : ((Nat × Int32 × Int32 × Int32) ⊕ ((Nat × Int32 × Int32) ⊕ Unit)) × q_H} (hf : f258_70 l0 l1 l4 h = some x) (hK : (m_yK (fun (s : Nat × Int32 × Int32 × Int32) (h : q_H) => q_Ev none 258 39 [(0, .ref (s.1)), (1, .int (s.2.1)), (3, .int (s.2.2.1)), (4, .int (s.2.2.2))] [] h o hz) (m_yK (fun (s : Nat × Int32 × Int32) (h : q_H) => q_Ev none 258 30 [(0, .ref (s.1)), (1, .int (s.2.1)), (3, .int (s.2.2))] [] h o hz) (m_KU o hz))) x) : q_Ev none 258 70 [(0, .ref l0), (1, .int l1), (4, .int l4)] [] h o hz := by
  unfold f258_70 at hf
  refine ev_ic (v := 1) (q_cod qk258 rfl) (by decide) (by decide) ?_
  refine ev_goto (q_cod qk258 rfl) (by decide) ?_
  exact (f258_75_ok hf hK)
def f258_66 (l0 : Nat) (l1 : Int32) (l3 : Int32) (l4 : Int32) : m_M ((Nat × Int32 × Int32 × Int32) ⊕ ((Nat × Int32 × Int32) ⊕ Unit)) :=
  if l3 = 0 then (f258_75 l0 l1 l4 0) else (f258_70 l0 l1 l4)
theorem f258_66_ok {l0 : Nat} {l1 : Int32} {l3 : Int32} {l4 : Int32} {h : q_H} {o : q_O} {hz : q_H} {x : ((Nat × Int32 × Int32 × Int32) ⊕ ((Nat × Int32 × Int32) ⊕ Unit)) × q_H} (hf : f258_66 l0 l1 l3 l4 h = some x) (hK : (m_yK (fun (s : Nat × Int32 × Int32 × Int32) (h : q_H) => q_Ev none 258 39 [(0, .ref (s.1)), (1, .int (s.2.1)), (3, .int (s.2.2.1)), (4, .int (s.2.2.2))] [] h o hz) (m_yK (fun (s : Nat × Int32 × Int32) (h : q_H) => q_Ev none 258 30 [(0, .ref (s.1)), (1, .int (s.2.1)), (3, .int (s.2.2))] [] h o hz) (m_KU o hz))) x) : q_Ev none 258 66 [(0, .ref l0), (1, .int l1), (3, .int l3), (4, .int l4)] [] h o hz := by
  unfold f258_66 at hf
  refine ev_iload_n (q_cod qk258 rfl) (by decide) rfl ?_
  refine em_if_eq (q_cod qk258 rfl) (by decide) hf (fun c1 hf => ?_) (fun c1 hf => ?_)
  · refine ev_ic (v := 0) (q_cod qk258 rfl) (by decide) (by decide) ?_
    exact ev_weak (q_pk [0, 1, 3] rfl) (f258_75_ok hf hK)
  · exact ev_weak (q_pk [0, 1, 3] rfl) (f258_70_ok hf hK)
def f258_82 (l0 : Nat) (l1 : Int32) (l3 : Int32) : m_M ((Nat × Int32 × Int32) ⊕ Unit) :=
  m_R (.inl (l0, l1, l3))
theorem f258_82_ok {l0 : Nat} {l1 : Int32} {l3 : Int32} {h : q_H} {o : q_O} {hz : q_H} {x : ((Nat × Int32 × Int32) ⊕ Unit) × q_H} (hf : f258_82 l0 l1 l3 h = some x) (hK : (m_yK (fun (s : Nat × Int32 × Int32) (h : q_H) => q_Ev none 258 30 [(0, .ref (s.1)), (1, .int (s.2.1)), (3, .int (s.2.2))] [] h o hz) (m_KU o hz)) x) : q_Ev none 258 82 [(0, .ref l0), (1, .int l1), (3, .int l3)] [] h o hz := by
  unfold f258_82 at hf
  refine ev_goto (q_cod qk258 rfl) (by decide) ?_
  obtain rfl := m_R_inv hf
  exact (show q_Ev none 258 30 [(0, .ref l0), (1, .int l1), (3, .int l3)] [] _ o hz from hK)
def f258_39b (l0 : Nat) (l1 : Int32) (l3 : Int32) (l4 : Int32) : m_M ((Nat × Int32 × Int32 × Int32) ⊕ ((Nat × Int32 × Int32) ⊕ Unit)) :=
  if l4 < 24 then (m_B (m_gR 12 l0 37) (fun r1 => m_B (m_lZ r1 l4) (fun v2 => if v2 = 0 then (f258_66 l0 l1 l3 l4) else (m_B (m_aK l0 12) (fun _ => m_B (f259 l0 l1 l4) (fun v4 => if v4 = 0 then (f258_66 l0 l1 l3 l4) else (f258_70 l0 l1 l4))))))) else (m_B (f258_82 l0 l1 l3) (fun r => m_R (.inr r)))
theorem f258_39b_ok {l0 : Nat} {l1 : Int32} {l3 : Int32} {l4 : Int32} {h : q_H} {o : q_O} {hz : q_H} {x : ((Nat × Int32 × Int32 × Int32) ⊕ ((Nat × Int32 × Int32) ⊕ Unit)) × q_H} (hf : f258_39b l0 l1 l3 l4 h = some x) (hK : (m_yK (fun (s : Nat × Int32 × Int32 × Int32) (h : q_H) => q_Ev none 258 39 [(0, .ref (s.1)), (1, .int (s.2.1)), (3, .int (s.2.2.1)), (4, .int (s.2.2.2))] [] h o hz) (m_yK (fun (s : Nat × Int32 × Int32) (h : q_H) => q_Ev none 258 30 [(0, .ref (s.1)), (1, .int (s.2.1)), (3, .int (s.2.2))] [] h o hz) (m_KU o hz))) x) : q_Ev none 258 39 [(0, .ref l0), (1, .int l1), (3, .int l3), (4, .int l4)] [] h o hz := by
  unfold f258_39b at hf
  refine ev_iload (q_cod qk258 rfl) (by decide) rfl ?_
  refine ev_bi (v := 24) (q_cod qk258 rfl) (by decide) (by decide) ?_
  refine em_ic_ge (q_cod qk258 rfl) (by decide) hf (fun c7 hf => ?_) (fun c7 hf => ?_)
  · refine ev_aload_n (q_cod qk258 rfl) (by decide) rfl ?_
    refine em_gR (q_cod qk258 rfl) (by decide) (by decide) hf (fun r1 hf => ?_)
    refine ev_iload (q_cod qk258 rfl) (by decide) rfl ?_
    refine em_lZ (q_cod qk258 rfl) (by decide) hf (fun v2 hf => ?_)
    refine em_if_eq (q_cod qk258 rfl) (by decide) hf (fun c6 hf => ?_) (fun c6 hf => ?_)
    · exact (f258_66_ok hf hK)
    · refine ev_aload_n (q_cod qk258 rfl) (by decide) rfl ?_
      refine ev_iload_n (q_cod qk258 rfl) (by decide) rfl ?_
      refine ev_iload (q_cod qk258 rfl) (by decide) rfl ?_
      obtain ⟨g3, hf⟩ := m_aK_some hf
      refine em_call (v := (fun u => some (.int u))) (q_cod qk258 rfl) rfl rfl (q_cokV rfl rfl (Or.inr g3)) rfl (fun x e => f259_cl e) hf (fun v4 h hf => ?_)
      refine em_if_ne (q_cod qk258 rfl) (by decide) hf (fun c5 hf => ?_) (fun c5 hf => ?_)
      · exact (f258_66_ok hf hK)
      · exact ev_weak (q_pk [0, 1, 3] rfl) (f258_70_ok hf hK)
  · obtain ⟨y0, hf0, hx⟩ := m_inr_some hf
    subst hx
    exact ev_weak (q_pk [0, 1, 2] rfl) (f258_82_ok hf0 hK)
def f258_39 (l0 : Nat) (l1 : Int32) (l3 : Int32) (l4 : Int32) : m_M ((Nat × Int32 × Int32) ⊕ Unit) := m_W (fun s => f258_39b (s.1) (s.2.1) (s.2.2.1) (s.2.2.2)) 1000000 (l0, l1, l3, l4)
theorem f258_39_ok {l0 : Nat} {l1 : Int32} {l3 : Int32} {l4 : Int32} {h : q_H} {o : q_O} {hz : q_H} {x : ((Nat × Int32 × Int32) ⊕ Unit) × q_H} (hf : f258_39 l0 l1 l3 l4 h = some x) (hK : (m_yK (fun (s : Nat × Int32 × Int32) (h : q_H) => q_Ev none 258 30 [(0, .ref (s.1)), (1, .int (s.2.1)), (3, .int (s.2.2))] [] h o hz) (m_KU o hz)) x) : q_Ev none 258 39 [(0, .ref l0), (1, .int l1), (3, .int l3), (4, .int l4)] [] h o hz :=
  m_W_ok (P := (fun (s : Nat × Int32 × Int32 × Int32) (h : q_H) => q_Ev none 258 39 [(0, .ref (s.1)), (1, .int (s.2.1)), (3, .int (s.2.2.1)), (4, .int (s.2.2.2))] [] h o hz)) (K := (m_yK (fun (s : Nat × Int32 × Int32) (h : q_H) => q_Ev none 258 30 [(0, .ref (s.1)), (1, .int (s.2.1)), (3, .int (s.2.2))] [] h o hz) (m_KU o hz))) (fun s h x h1 h2 => f258_39b_ok h1 h2) _ (l0, l1, l3, l4) _ _ hf hK
def f258_30b (l0 : Nat) (l1 : Int32) (l3 : Int32) : m_M ((Nat × Int32 × Int32) ⊕ Unit) :=
  if l3 = 0 then (m_B (f258_85) (fun r => m_R (.inr r))) else (f258_39 l0 l1 0 0)
theorem f258_30b_ok {l0 : Nat} {l1 : Int32} {l3 : Int32} {h : q_H} {o : q_O} {hz : q_H} {x : ((Nat × Int32 × Int32) ⊕ Unit) × q_H} (hf : f258_30b l0 l1 l3 h = some x) (hK : (m_yK (fun (s : Nat × Int32 × Int32) (h : q_H) => q_Ev none 258 30 [(0, .ref (s.1)), (1, .int (s.2.1)), (3, .int (s.2.2))] [] h o hz) (m_KU o hz)) x) : q_Ev none 258 30 [(0, .ref l0), (1, .int l1), (3, .int l3)] [] h o hz := by
  unfold f258_30b at hf
  refine ev_iload_n (q_cod qk258 rfl) (by decide) rfl ?_
  refine em_if_eq (q_cod qk258 rfl) (by decide) hf (fun c1 hf => ?_) (fun c1 hf => ?_)
  · obtain ⟨y0, hf0, hx⟩ := m_inr_some hf
    subst hx
    exact ev_weak (q_pk [] rfl) (f258_85_ok hf0 hK)
  · refine ev_ic (v := 0) (q_cod qk258 rfl) (by decide) (by decide) ?_
    refine ev_is1 (L' := [(0, .ref l0), (1, .int l1), (3, .int 0)]) (q_cod qk258 rfl) (by decide) rfl ?_
    refine ev_ic (v := 0) (q_cod qk258 rfl) (by decide) (by decide) ?_
    refine ev_is2 (L' := [(0, .ref l0), (1, .int l1), (3, .int 0), (4, .int 0)]) (q_cod qk258 rfl) (by decide) rfl ?_
    exact (f258_39_ok hf hK)
def f258_30 (l0 : Nat) (l1 : Int32) (l3 : Int32) : m_M Unit := m_W (fun s => f258_30b (s.1) (s.2.1) (s.2.2)) 1000000 (l0, l1, l3)
theorem f258_30_ok {l0 : Nat} {l1 : Int32} {l3 : Int32} {h : q_H} {o : q_O} {hz : q_H} {x : Unit × q_H} (hf : f258_30 l0 l1 l3 h = some x) (hK : (m_KU o hz) x) : q_Ev none 258 30 [(0, .ref l0), (1, .int l1), (3, .int l3)] [] h o hz :=
  m_W_ok (P := (fun (s : Nat × Int32 × Int32) (h : q_H) => q_Ev none 258 30 [(0, .ref (s.1)), (1, .int (s.2.1)), (3, .int (s.2.2))] [] h o hz)) (K := (m_KU o hz)) (fun s h x h1 h2 => f258_30b_ok h1 h2) _ (l0, l1, l3) _ _ hf hK
def f258_21 (l0 : Nat) (l1 : Int32) (l2 : Int32) : m_M Unit :=
  m_B (m_aK l0 12) (fun _ => m_B (f259 l0 l1 l2) (fun v2 => f258_30 l0 l1 1))
theorem f258_21_ok {l0 : Nat} {l1 : Int32} {l2 : Int32} {h : q_H} {o : q_O} {hz : q_H} {x : Unit × q_H} (hf : f258_21 l0 l1 l2 h = some x) (hK : (m_KU o hz) x) : q_Ev none 258 21 [(0, .ref l0), (1, .int l1), (2, .int l2)] [] h o hz := by
  unfold f258_21 at hf
  refine ev_aload_n (q_cod qk258 rfl) (by decide) rfl ?_
  refine ev_iload_n (q_cod qk258 rfl) (by decide) rfl ?_
  refine ev_iload_n (q_cod qk258 rfl) (by decide) rfl ?_
  obtain ⟨g1, hf⟩ := m_aK_some hf
  refine em_call (v := (fun u => some (.int u))) (q_cod qk258 rfl) rfl rfl (q_cokV rfl rfl (Or.inr g1)) rfl (fun x e => f259_cl e) hf (fun v2 h hf => ?_)
  refine ev_pop (q_cod qk258 rfl) (by decide) rfl ?_
  refine ev_ic (v := 1) (q_cod qk258 rfl) (by decide) (by decide) ?_
  refine ev_is1 (L' := [(0, .ref l0), (1, .int l1), (2, .int l2), (3, .int 1)]) (q_cod qk258 rfl) (by decide) rfl ?_
  exact ev_weak (q_pk [0, 1, 3] rfl) (f258_30_ok hf hK)
def f258_2b (l0 : Nat) (l1 : Int32) (l2 : Int32) (l3 : Int32) : m_M ((Nat × Int32 × Int32 × Int32) ⊕ Unit) :=
  if l3 < 24 then (m_B (m_gR 12 l0 37) (fun r1 => m_B (m_wZ r1 l3 0) (fun _ => m_R (.inl (l0, l1, l2, (l3 + 1)))))) else (m_B (f258_21 l0 l1 l2) (fun r => m_R (.inr r)))
theorem f258_2b_ok {l0 : Nat} {l1 : Int32} {l2 : Int32} {l3 : Int32} {h : q_H} {o : q_O} {hz : q_H} {x : ((Nat × Int32 × Int32 × Int32) ⊕ Unit) × q_H} (hf : f258_2b l0 l1 l2 l3 h = some x) (hK : (m_yK (fun (s : Nat × Int32 × Int32 × Int32) (h : q_H) => q_Ev none 258 2 [(0, .ref (s.1)), (1, .int (s.2.1)), (2, .int (s.2.2.1)), (3, .int (s.2.2.2))] [] h o hz) (m_KU o hz)) x) : q_Ev none 258 2 [(0, .ref l0), (1, .int l1), (2, .int l2), (3, .int l3)] [] h o hz := by
  unfold f258_2b at hf
  refine ev_iload_n (q_cod qk258 rfl) (by decide) rfl ?_
  refine ev_bi (v := 24) (q_cod qk258 rfl) (by decide) (by decide) ?_
  refine em_ic_ge (q_cod qk258 rfl) (by decide) hf (fun c2 hf => ?_) (fun c2 hf => ?_)
  · refine ev_aload_n (q_cod qk258 rfl) (by decide) rfl ?_
    refine em_gR (q_cod qk258 rfl) (by decide) (by decide) hf (fun r1 hf => ?_)
    refine ev_iload_n (q_cod qk258 rfl) (by decide) rfl ?_
    refine ev_ic (v := 0) (q_cod qk258 rfl) (by decide) (by decide) ?_
    refine em_wZ (q_cod qk258 rfl) (by decide) hf (fun hf => ?_)
    refine ev_inc (v := l3 + 1) (L' := [(0, .ref l0), (1, .int l1), (2, .int l2), (3, .int (l3 + 1))]) (q_cod qk258 rfl) (by decide) rfl rfl rfl ?_
    refine ev_goto (q_cod qk258 rfl) (by decide) ?_
    obtain rfl := m_R_inv hf
    exact (show q_Ev none 258 2 [(0, .ref l0), (1, .int l1), (2, .int l2), (3, .int (l3 + 1))] [] _ o hz from hK)
  · obtain ⟨y0, hf0, hx⟩ := m_inr_some hf
    subst hx
    exact ev_weak (q_pk [0, 1, 2] rfl) (f258_21_ok hf0 hK)
def f258_2 (l0 : Nat) (l1 : Int32) (l2 : Int32) (l3 : Int32) : m_M Unit := m_W (fun s => f258_2b (s.1) (s.2.1) (s.2.2.1) (s.2.2.2)) 1000000 (l0, l1, l2, l3)
theorem f258_2_ok {l0 : Nat} {l1 : Int32} {l2 : Int32} {l3 : Int32} {h : q_H} {o : q_O} {hz : q_H} {x : Unit × q_H} (hf : f258_2 l0 l1 l2 l3 h = some x) (hK : (m_KU o hz) x) : q_Ev none 258 2 [(0, .ref l0), (1, .int l1), (2, .int l2), (3, .int l3)] [] h o hz :=
  m_W_ok (P := (fun (s : Nat × Int32 × Int32 × Int32) (h : q_H) => q_Ev none 258 2 [(0, .ref (s.1)), (1, .int (s.2.1)), (2, .int (s.2.2.1)), (3, .int (s.2.2.2))] [] h o hz)) (K := (m_KU o hz)) (fun s h x h1 h2 => f258_2b_ok h1 h2) _ (l0, l1, l2, l3) _ _ hf hK
def f258 (l0 : Nat) (l1 : Int32) (l2 : Int32) : m_M Unit :=
  f258_2 l0 l1 l2 0
theorem f258_ok {l0 : Nat} {l1 : Int32} {l2 : Int32} {h : q_H} {o : q_O} {hz : q_H} {x : Unit × q_H} (hf : f258 l0 l1 l2 h = some x) (hK : (m_KU o hz) x) : q_Ev none 258 0 [(0, .ref l0), (1, .int l1), (2, .int l2)] [] h o hz := by
  unfold f258 at hf
  refine ev_ic (v := 0) (q_cod qk258 rfl) (by decide) (by decide) ?_
  refine ev_is1 (L' := [(0, .ref l0), (1, .int l1), (2, .int l2), (3, .int 0)]) (q_cod qk258 rfl) (by decide) rfl ?_
  exact (f258_2_ok hf hK)
theorem f258_cl {l0 : Nat} {l1 : Int32} {l2 : Int32} {h : q_H} {x : Unit × q_H} (hf : f258 l0 l1 l2 h = some x) : q_Cl 258 [.ref l0, .int l1, .int l2] h (.inl none) x.2 := q_Cl.of rfl (q_LvS rfl rfl) (f258_ok hf ⟨rfl, rfl⟩)
/-! SmithyBenchModel.emit(III)V -/
theorem qk260 : q_cs.getD 260 [] = qc_260 := rfl
def f260 (l0 : Nat) (l1 : Int32) (l2 : Int32) (l3 : Int32) : m_M Unit :=
  m_B (m_gR 12 l0 39) (fun r1 => m_B (m_gI 12 l0 38) (fun v2 => m_B (m_wI r1 v2 l1) (fun _ => m_B (m_gR 12 l0 40) (fun r3 => m_B (m_gI 12 l0 38) (fun v4 => m_B (m_wI r3 v4 l2) (fun _ => m_B (m_gR 12 l0 41) (fun r5 => m_B (m_gI 12 l0 38) (fun v6 => m_B (m_wI r5 v6 l3) (fun _ => m_B (m_gI 12 l0 38) (fun v7 => m_B (m_pI 12 l0 38 (v7 + 1)) (fun _ => m_R ())))))))))))
theorem f260_ok {l0 : Nat} {l1 : Int32} {l2 : Int32} {l3 : Int32} {h : q_H} {o : q_O} {hz : q_H} {x : Unit × q_H} (hf : f260 l0 l1 l2 l3 h = some x) (hK : (m_KU o hz) x) : q_Ev none 260 0 [(0, .ref l0), (1, .int l1), (2, .int l2), (3, .int l3)] [] h o hz := by
  unfold f260 at hf
  refine ev_aload_n (q_cod qk260 rfl) (by decide) rfl ?_
  refine em_gR (q_cod qk260 rfl) (by decide) (by decide) hf (fun r1 hf => ?_)
  refine ev_aload_n (q_cod qk260 rfl) (by decide) rfl ?_
  refine em_gI (q_cod qk260 rfl) (by decide) (by decide) hf (fun v2 hf => ?_)
  refine ev_iload_n (q_cod qk260 rfl) (by decide) rfl ?_
  refine em_wI (q_cod qk260 rfl) (by decide) hf (fun hf => ?_)
  refine ev_aload_n (q_cod qk260 rfl) (by decide) rfl ?_
  refine em_gR (q_cod qk260 rfl) (by decide) (by decide) hf (fun r3 hf => ?_)
  refine ev_aload_n (q_cod qk260 rfl) (by decide) rfl ?_
  refine em_gI (q_cod qk260 rfl) (by decide) (by decide) hf (fun v4 hf => ?_)
  refine ev_iload_n (q_cod qk260 rfl) (by decide) rfl ?_
  refine em_wI (q_cod qk260 rfl) (by decide) hf (fun hf => ?_)
  refine ev_aload_n (q_cod qk260 rfl) (by decide) rfl ?_
  refine em_gR (q_cod qk260 rfl) (by decide) (by decide) hf (fun r5 hf => ?_)
  refine ev_aload_n (q_cod qk260 rfl) (by decide) rfl ?_
  refine em_gI (q_cod qk260 rfl) (by decide) (by decide) hf (fun v6 hf => ?_)
  refine ev_iload_n (q_cod qk260 rfl) (by decide) rfl ?_
  refine em_wI (q_cod qk260 rfl) (by decide) hf (fun hf => ?_)
  refine ev_aload_n (q_cod qk260 rfl) (by decide) rfl ?_
  refine ev_dup (q_cod qk260 rfl) (by decide) rfl ?_
  refine em_gI (q_cod qk260 rfl) (by decide) (by decide) hf (fun v7 hf => ?_)
  refine ev_ic (v := 1) (q_cod qk260 rfl) (by decide) (by decide) ?_
  refine ev_iadd (q_cod qk260 rfl) (by decide) ?_
  refine em_pI (q_cod qk260 rfl) (by decide) (by decide) (by decide) hf (fun hf => ?_)
  obtain rfl := m_R_inv hf
  obtain ⟨rfl, rfl⟩ := (show m_KU o hz ((), _) from hK)
  exact ev_ret (q_cod qk260 rfl) rfl
theorem f260_cl {l0 : Nat} {l1 : Int32} {l2 : Int32} {l3 : Int32} {h : q_H} {x : Unit × q_H} (hf : f260 l0 l1 l2 l3 h = some x) : q_Cl 260 [.ref l0, .int l1, .int l2, .int l3] h (.inl none) x.2 := q_Cl.of rfl (q_LvS rfl rfl) (f260_ok hf ⟨rfl, rfl⟩)
/-! SmithyBenchModel.emitNode(II)V -/
theorem qk261 : q_cs.getD 261 [] = qc_261 := rfl
def f261 (l0 : Nat) (l1 : Int32) (l2 : Int32) : m_M Unit :=
  m_B (m_aK l0 12) (fun _ => m_B (f199 l0 0 l1 l2) (fun v2 => m_B (m_aK l0 12) (fun _ => m_B (f200 l0 0 l1 l2) (fun v4 => m_B (m_aK l0 12) (fun _ => m_B (f201 l0 0 l1 l2) (fun v6 => m_B (m_aK l0 12) (fun _ => m_B (f260 l0 v2 v4 v6) (fun _ => m_R ()))))))))
theorem f261_ok {l0 : Nat} {l1 : Int32} {l2 : Int32} {h : q_H} {o : q_O} {hz : q_H} {x : Unit × q_H} (hf : f261 l0 l1 l2 h = some x) (hK : (m_KU o hz) x) : q_Ev none 261 0 [(0, .ref l0), (1, .int l1), (2, .int l2)] [] h o hz := by
  unfold f261 at hf
  refine ev_aload_n (q_cod qk261 rfl) (by decide) rfl ?_
  refine ev_aload_n (q_cod qk261 rfl) (by decide) rfl ?_
  refine ev_ic (v := 0) (q_cod qk261 rfl) (by decide) (by decide) ?_
  refine ev_iload_n (q_cod qk261 rfl) (by decide) rfl ?_
  refine ev_iload_n (q_cod qk261 rfl) (by decide) rfl ?_
  obtain ⟨g1, hf⟩ := m_aK_some hf
  refine em_call (v := (fun u => some (.int u))) (q_cod qk261 rfl) rfl rfl (q_cokV rfl rfl (Or.inr g1)) rfl (fun x e => f199_cl e) hf (fun v2 h hf => ?_)
  refine ev_aload_n (q_cod qk261 rfl) (by decide) rfl ?_
  refine ev_ic (v := 0) (q_cod qk261 rfl) (by decide) (by decide) ?_
  refine ev_iload_n (q_cod qk261 rfl) (by decide) rfl ?_
  refine ev_iload_n (q_cod qk261 rfl) (by decide) rfl ?_
  obtain ⟨g3, hf⟩ := m_aK_some hf
  refine em_call (v := (fun u => some (.int u))) (q_cod qk261 rfl) rfl rfl (q_cokV rfl rfl (Or.inr g3)) rfl (fun x e => f200_cl e) hf (fun v4 h hf => ?_)
  refine ev_aload_n (q_cod qk261 rfl) (by decide) rfl ?_
  refine ev_ic (v := 0) (q_cod qk261 rfl) (by decide) (by decide) ?_
  refine ev_iload_n (q_cod qk261 rfl) (by decide) rfl ?_
  refine ev_iload_n (q_cod qk261 rfl) (by decide) rfl ?_
  obtain ⟨g5, hf⟩ := m_aK_some hf
  refine em_call (v := (fun u => some (.int u))) (q_cod qk261 rfl) rfl rfl (q_cokV rfl rfl (Or.inr g5)) rfl (fun x e => f201_cl e) hf (fun v6 h hf => ?_)
  obtain ⟨g7, hf⟩ := m_aK_some hf
  refine em_call (v := (fun _ => none)) (q_cod qk261 rfl) rfl rfl (q_cokV rfl rfl (Or.inr g7)) rfl (fun x e => f260_cl e) hf (fun _ h hf => ?_)
  obtain rfl := m_R_inv hf
  obtain ⟨rfl, rfl⟩ := (show m_KU o hz ((), _) from hK)
  exact ev_ret (q_cod qk261 rfl) rfl
theorem f261_cl {l0 : Nat} {l1 : Int32} {l2 : Int32} {h : q_H} {x : Unit × q_H} (hf : f261 l0 l1 l2 h = some x) : q_Cl 261 [.ref l0, .int l1, .int l2] h (.inl none) x.2 := q_Cl.of rfl (q_LvS rfl rfl) (f261_ok hf ⟨rfl, rfl⟩)
/-! SmithyBenchModel.emitAll(III)V -/
theorem qk262 : q_cs.getD 262 [] = qc_262 := rfl
def f262_22  : m_M Unit :=
  m_R ()
theorem f262_22_ok  {h : q_H} {o : q_O} {hz : q_H} {x : Unit × q_H} (hf : f262_22 h = some x) (hK : (m_KU o hz) x) : q_Ev none 262 22 [] [] h o hz := by
  unfold f262_22 at hf
  obtain rfl := m_R_inv hf
  obtain ⟨rfl, rfl⟩ := (show m_KU o hz ((), _) from hK)
  exact ev_ret (q_cod qk262 rfl) rfl
def f262_3b (l0 : Nat) (l1 : Int32) (l3 : Int32) (l4 : Int32) : m_M ((Nat × Int32 × Int32 × Int32) ⊕ Unit) :=
  if l4 < l3 then (m_B (m_aK l0 12) (fun _ => m_B (f261 l0 l1 l4) (fun _ => m_R (.inl (l0, l1, l3, (l4 + 1)))))) else (m_B (f262_22) (fun r => m_R (.inr r)))
theorem f262_3b_ok {l0 : Nat} {l1 : Int32} {l3 : Int32} {l4 : Int32} {h : q_H} {o : q_O} {hz : q_H} {x : ((Nat × Int32 × Int32 × Int32) ⊕ Unit) × q_H} (hf : f262_3b l0 l1 l3 l4 h = some x) (hK : (m_yK (fun (s : Nat × Int32 × Int32 × Int32) (h : q_H) => q_Ev none 262 3 [(0, .ref (s.1)), (1, .int (s.2.1)), (3, .int (s.2.2.1)), (4, .int (s.2.2.2))] [] h o hz) (m_KU o hz)) x) : q_Ev none 262 3 [(0, .ref l0), (1, .int l1), (3, .int l3), (4, .int l4)] [] h o hz := by
  unfold f262_3b at hf
  refine ev_iload (q_cod qk262 rfl) (by decide) rfl ?_
  refine ev_iload_n (q_cod qk262 rfl) (by decide) rfl ?_
  refine em_ic_ge (q_cod qk262 rfl) (by decide) hf (fun c3 hf => ?_) (fun c3 hf => ?_)
  · refine ev_aload_n (q_cod qk262 rfl) (by decide) rfl ?_
    refine ev_iload_n (q_cod qk262 rfl) (by decide) rfl ?_
    refine ev_iload (q_cod qk262 rfl) (by decide) rfl ?_
    obtain ⟨g1, hf⟩ := m_aK_some hf
    refine em_call (v := (fun _ => none)) (q_cod qk262 rfl) rfl rfl (q_cokV rfl rfl (Or.inr g1)) rfl (fun x e => f261_cl e) hf (fun _ h hf => ?_)
    refine ev_inc (v := l4 + 1) (L' := [(0, .ref l0), (1, .int l1), (3, .int l3), (4, .int (l4 + 1))]) (q_cod qk262 rfl) (by decide) rfl rfl rfl ?_
    refine ev_goto (q_cod qk262 rfl) (by decide) ?_
    obtain rfl := m_R_inv hf
    exact (show q_Ev none 262 3 [(0, .ref l0), (1, .int l1), (3, .int l3), (4, .int (l4 + 1))] [] _ o hz from hK)
  · obtain ⟨y0, hf0, hx⟩ := m_inr_some hf
    subst hx
    exact ev_weak (q_pk [] rfl) (f262_22_ok hf0 hK)
def f262_3 (l0 : Nat) (l1 : Int32) (l3 : Int32) (l4 : Int32) : m_M Unit := m_W (fun s => f262_3b (s.1) (s.2.1) (s.2.2.1) (s.2.2.2)) 1000000 (l0, l1, l3, l4)
theorem f262_3_ok {l0 : Nat} {l1 : Int32} {l3 : Int32} {l4 : Int32} {h : q_H} {o : q_O} {hz : q_H} {x : Unit × q_H} (hf : f262_3 l0 l1 l3 l4 h = some x) (hK : (m_KU o hz) x) : q_Ev none 262 3 [(0, .ref l0), (1, .int l1), (3, .int l3), (4, .int l4)] [] h o hz :=
  m_W_ok (P := (fun (s : Nat × Int32 × Int32 × Int32) (h : q_H) => q_Ev none 262 3 [(0, .ref (s.1)), (1, .int (s.2.1)), (3, .int (s.2.2.1)), (4, .int (s.2.2.2))] [] h o hz)) (K := (m_KU o hz)) (fun s h x h1 h2 => f262_3b_ok h1 h2) _ (l0, l1, l3, l4) _ _ hf hK
def f262 (l0 : Nat) (l1 : Int32) (l2 : Int32) (l3 : Int32) : m_M Unit :=
  f262_3 l0 l1 l3 l2
theorem f262_ok {l0 : Nat} {l1 : Int32} {l2 : Int32} {l3 : Int32} {h : q_H} {o : q_O} {hz : q_H} {x : Unit × q_H} (hf : f262 l0 l1 l2 l3 h = some x) (hK : (m_KU o hz) x) : q_Ev none 262 0 [(0, .ref l0), (1, .int l1), (2, .int l2), (3, .int l3)] [] h o hz := by
  unfold f262 at hf
  refine ev_iload_n (q_cod qk262 rfl) (by decide) rfl ?_
  refine ev_is2 (L' := [(0, .ref l0), (1, .int l1), (2, .int l2), (3, .int l3), (4, .int l2)]) (q_cod qk262 rfl) (by decide) rfl ?_
  exact ev_weak (q_pk [0, 1, 3, 4] rfl) (f262_3_ok hf hK)
theorem f262_cl {l0 : Nat} {l1 : Int32} {l2 : Int32} {l3 : Int32} {h : q_H} {x : Unit × q_H} (hf : f262 l0 l1 l2 l3 h = some x) : q_Cl 262 [.ref l0, .int l1, .int l2, .int l3] h (.inl none) x.2 := q_Cl.of rfl (q_LvS rfl rfl) (f262_ok hf ⟨rfl, rfl⟩)
/-! SmithyBenchModel.emitPlain(III)V -/
theorem qk263 : q_cs.getD 263 [] = qc_263 := rfl
def f263_17 (l0 : Nat) (l3 : Int32) (s0 : Nat) (s1 : Int32) : m_M Unit :=
  m_B (m_aK s0 12) (fun _ => m_B (f260 s0 s1 l3 0) (fun _ => m_B (m_aK l0 12) (fun _ => m_B (f260 l0 2 0 0) (fun _ => m_R ()))))
theorem f263_17_ok {l0 : Nat} {l3 : Int32} {s0 : Nat} {s1 : Int32} {h : q_H} {o : q_O} {hz : q_H} {x : Unit × q_H} (hf : f263_17 l0 l3 s0 s1 h = some x) (hK : (m_KU o hz) x) : q_Ev none 263 17 [(0, .ref l0), (3, .int l3)] [.int s1, .ref s0] h o hz := by
  unfold f263_17 at hf
  refine ev_iload_n (q_cod qk263 rfl) (by decide) rfl ?_
  refine ev_ic (v := 0) (q_cod qk263 rfl) (by decide) (by decide) ?_
  obtain ⟨g1, hf⟩ := m_aK_some hf
  refine em_call (v := (fun _ => none)) (q_cod qk263 rfl) rfl rfl (q_cokV rfl rfl (Or.inr g1)) rfl (fun x e => f260_cl e) hf (fun _ h hf => ?_)
  refine ev_aload_n (q_cod qk263 rfl) (by decide) rfl ?_
  refine ev_ic (v := 2) (q_cod qk263 rfl) (by decide) (by decide) ?_
  refine ev_ic (v := 0) (q_cod qk263 rfl) (by decide) (by decide) ?_
  refine ev_ic (v := 0) (q_cod qk263 rfl) (by decide) (by decide) ?_
  obtain ⟨g3, hf⟩ := m_aK_some hf
  refine em_call (v := (fun _ => none)) (q_cod qk263 rfl) rfl rfl (q_cokV rfl rfl (Or.inr g3)) rfl (fun x e => f260_cl e) hf (fun _ h hf => ?_)
  obtain rfl := m_R_inv hf
  obtain ⟨rfl, rfl⟩ := (show m_KU o hz ((), _) from hK)
  exact ev_ret (q_cod qk263 rfl) rfl
def f263 (l0 : Nat) (l1 : Int32) (l2 : Int32) (l3 : Int32) : m_M Unit :=
  m_B (m_aK l0 12) (fun _ => m_B (f199 l0 0 l1 l2) (fun v2 => if v2 = 1 then (f263_17 l0 l3 l0 3) else (f263_17 l0 l3 l0 4)))
theorem f263_ok {l0 : Nat} {l1 : Int32} {l2 : Int32} {l3 : Int32} {h : q_H} {o : q_O} {hz : q_H} {x : Unit × q_H} (hf : f263 l0 l1 l2 l3 h = some x) (hK : (m_KU o hz) x) : q_Ev none 263 0 [(0, .ref l0), (1, .int l1), (2, .int l2), (3, .int l3)] [] h o hz := by
  unfold f263 at hf
  refine ev_aload_n (q_cod qk263 rfl) (by decide) rfl ?_
  refine ev_aload_n (q_cod qk263 rfl) (by decide) rfl ?_
  refine ev_ic (v := 0) (q_cod qk263 rfl) (by decide) (by decide) ?_
  refine ev_iload_n (q_cod qk263 rfl) (by decide) rfl ?_
  refine ev_iload_n (q_cod qk263 rfl) (by decide) rfl ?_
  obtain ⟨g1, hf⟩ := m_aK_some hf
  refine em_call (v := (fun u => some (.int u))) (q_cod qk263 rfl) rfl rfl (q_cokV rfl rfl (Or.inr g1)) rfl (fun x e => f199_cl e) hf (fun v2 h hf => ?_)
  refine ev_ic (v := 1) (q_cod qk263 rfl) (by decide) (by decide) ?_
  refine em_ic_ne (q_cod qk263 rfl) (by decide) hf (fun c3 hf => ?_) (fun c3 hf => ?_)
  · refine ev_ic (v := 3) (q_cod qk263 rfl) (by decide) (by decide) ?_
    refine ev_goto (q_cod qk263 rfl) (by decide) ?_
    exact ev_weak (q_pk [0, 3] rfl) (f263_17_ok hf hK)
  · refine ev_ic (v := 4) (q_cod qk263 rfl) (by decide) (by decide) ?_
    exact ev_weak (q_pk [0, 3] rfl) (f263_17_ok hf hK)
theorem f263_cl {l0 : Nat} {l1 : Int32} {l2 : Int32} {l3 : Int32} {h : q_H} {x : Unit × q_H} (hf : f263 l0 l1 l2 l3 h = some x) : q_Cl 263 [.ref l0, .int l1, .int l2, .int l3] h (.inl none) x.2 := q_Cl.of rfl (q_LvS rfl rfl) (f263_ok hf ⟨rfl, rfl⟩)
/-! SmithyBenchModel.layOut(I)V -/
theorem qk264 : q_cs.getD 264 [] = qc_264 := rfl
def f264_48 (l0 : Nat) (l1 : Int32) : m_M Unit :=
  m_B (m_gI 12 l0 38) (fun v1 => m_B (m_aK l0 12) (fun _ => m_B (f197 l0 2 l1 9 v1) (fun _ => m_R ())))
theorem f264_48_ok {l0 : Nat} {l1 : Int32} {h : q_H} {o : q_O} {hz : q_H} {x : Unit × q_H} (hf : f264_48 l0 l1 h = some x) (hK : (m_KU o hz) x) : q_Ev none 264 48 [(0, .ref l0), (1, .int l1)] [] h o hz := by
  unfold f264_48 at hf
  refine ev_aload_n (q_cod qk264 rfl) (by decide) rfl ?_
  refine ev_ic (v := 2) (q_cod qk264 rfl) (by decide) (by decide) ?_
  refine ev_iload_n (q_cod qk264 rfl) (by decide) rfl ?_
  refine ev_bi (v := 9) (q_cod qk264 rfl) (by decide) (by decide) ?_
  refine ev_aload_n (q_cod qk264 rfl) (by decide) rfl ?_
  refine em_gI (q_cod qk264 rfl) (by decide) (by decide) hf (fun v1 hf => ?_)
  obtain ⟨g2, hf⟩ := m_aK_some hf
  refine em_call (v := (fun _ => none)) (q_cod qk264 rfl) rfl rfl (q_cokV rfl rfl (Or.inr g2)) rfl (fun x e => f197_cl e) hf (fun _ h hf => ?_)
  obtain rfl := m_R_inv hf
  obtain ⟨rfl, rfl⟩ := (show m_KU o hz ((), _) from hK)
  exact ev_ret (q_cod qk264 rfl) rfl
def f264_2b (l0 : Nat) (l1 : Int32) (l2 : Int32) : m_M ((Nat × Int32 × Int32) ⊕ Unit) :=
  m_B (m_gI 12 l0 38) (fun v1 => if l2 < v1 then (if l2 < 192 then (m_B (m_gR 12 l0 39) (fun r2 => m_B (m_lI r2 l2) (fun v3 => m_B (m_gR 12 l0 40) (fun r4 => m_B (m_lI r4 l2) (fun v5 => m_B (m_gR 12 l0 41) (fun r6 => m_B (m_lI r6 l2) (fun v7 => m_B (m_aK l0 12) (fun _ => m_B (f202 l0 2 l1 l2 v3 v5 v7) (fun _ => m_R (.inl (l0, l1, (l2 + 1)))))))))))) else (m_B (f264_48 l0 l1) (fun r => m_R (.inr r)))) else (m_B (f264_48 l0 l1) (fun r => m_R (.inr r))))
theorem f264_2b_ok {l0 : Nat} {l1 : Int32} {l2 : Int32} {h : q_H} {o : q_O} {hz : q_H} {x : ((Nat × Int32 × Int32) ⊕ Unit) × q_H} (hf : f264_2b l0 l1 l2 h = some x) (hK : (m_yK (fun (s : Nat × Int32 × Int32) (h : q_H) => q_Ev none 264 2 [(0, .ref (s.1)), (1, .int (s.2.1)), (2, .int (s.2.2))] [] h o hz) (m_KU o hz)) x) : q_Ev none 264 2 [(0, .ref l0), (1, .int l1), (2, .int l2)] [] h o hz := by
  unfold f264_2b at hf
  refine ev_iload_n (q_cod qk264 rfl) (by decide) rfl ?_
  refine ev_aload_n (q_cod qk264 rfl) (by decide) rfl ?_
  refine em_gI (q_cod qk264 rfl) (by decide) (by decide) hf (fun v1 hf => ?_)
  refine em_ic_ge (q_cod qk264 rfl) (by decide) hf (fun c11 hf => ?_) (fun c11 hf => ?_)
  · refine ev_iload_n (q_cod qk264 rfl) (by decide) rfl ?_
    refine ev_si (v := 192) (q_cod qk264 rfl) (by decide) (by decide) ?_
    refine em_ic_ge (q_cod qk264 rfl) (by decide) hf (fun c10 hf => ?_) (fun c10 hf => ?_)
    · refine ev_aload_n (q_cod qk264 rfl) (by decide) rfl ?_
      refine ev_ic (v := 2) (q_cod qk264 rfl) (by decide) (by decide) ?_
      refine ev_iload_n (q_cod qk264 rfl) (by decide) rfl ?_
      refine ev_iload_n (q_cod qk264 rfl) (by decide) rfl ?_
      refine ev_aload_n (q_cod qk264 rfl) (by decide) rfl ?_
      refine em_gR (q_cod qk264 rfl) (by decide) (by decide) hf (fun r2 hf => ?_)
      refine ev_iload_n (q_cod qk264 rfl) (by decide) rfl ?_
      refine em_lI (q_cod qk264 rfl) (by decide) hf (fun v3 hf => ?_)
      refine ev_aload_n (q_cod qk264 rfl) (by decide) rfl ?_
      refine em_gR (q_cod qk264 rfl) (by decide) (by decide) hf (fun r4 hf => ?_)
      refine ev_iload_n (q_cod qk264 rfl) (by decide) rfl ?_
      refine em_lI (q_cod qk264 rfl) (by decide) hf (fun v5 hf => ?_)
      refine ev_aload_n (q_cod qk264 rfl) (by decide) rfl ?_
      refine em_gR (q_cod qk264 rfl) (by decide) (by decide) hf (fun r6 hf => ?_)
      refine ev_iload_n (q_cod qk264 rfl) (by decide) rfl ?_
      refine em_lI (q_cod qk264 rfl) (by decide) hf (fun v7 hf => ?_)
      obtain ⟨g8, hf⟩ := m_aK_some hf
      refine em_call (v := (fun _ => none)) (q_cod qk264 rfl) rfl rfl (q_cokV rfl rfl (Or.inr g8)) rfl (fun x e => f202_cl e) hf (fun _ h hf => ?_)
      refine ev_inc (v := l2 + 1) (L' := [(0, .ref l0), (1, .int l1), (2, .int (l2 + 1))]) (q_cod qk264 rfl) (by decide) rfl rfl rfl ?_
      refine ev_goto (q_cod qk264 rfl) (by decide) ?_
      obtain rfl := m_R_inv hf
      exact (show q_Ev none 264 2 [(0, .ref l0), (1, .int l1), (2, .int (l2 + 1))] [] _ o hz from hK)
    · obtain ⟨y0, hf0, hx⟩ := m_inr_some hf
      subst hx
      exact ev_weak (q_pk [0, 1] rfl) (f264_48_ok hf0 hK)
  · obtain ⟨y0, hf0, hx⟩ := m_inr_some hf
    subst hx
    exact ev_weak (q_pk [0, 1] rfl) (f264_48_ok hf0 hK)
def f264_2 (l0 : Nat) (l1 : Int32) (l2 : Int32) : m_M Unit := m_W (fun s => f264_2b (s.1) (s.2.1) (s.2.2)) 1000000 (l0, l1, l2)
theorem f264_2_ok {l0 : Nat} {l1 : Int32} {l2 : Int32} {h : q_H} {o : q_O} {hz : q_H} {x : Unit × q_H} (hf : f264_2 l0 l1 l2 h = some x) (hK : (m_KU o hz) x) : q_Ev none 264 2 [(0, .ref l0), (1, .int l1), (2, .int l2)] [] h o hz :=
  m_W_ok (P := (fun (s : Nat × Int32 × Int32) (h : q_H) => q_Ev none 264 2 [(0, .ref (s.1)), (1, .int (s.2.1)), (2, .int (s.2.2))] [] h o hz)) (K := (m_KU o hz)) (fun s h x h1 h2 => f264_2b_ok h1 h2) _ (l0, l1, l2) _ _ hf hK
def f264 (l0 : Nat) (l1 : Int32) : m_M Unit :=
  f264_2 l0 l1 0
theorem f264_ok {l0 : Nat} {l1 : Int32} {h : q_H} {o : q_O} {hz : q_H} {x : Unit × q_H} (hf : f264 l0 l1 h = some x) (hK : (m_KU o hz) x) : q_Ev none 264 0 [(0, .ref l0), (1, .int l1)] [] h o hz := by
  unfold f264 at hf
  refine ev_ic (v := 0) (q_cod qk264 rfl) (by decide) (by decide) ?_
  refine ev_is1 (L' := [(0, .ref l0), (1, .int l1), (2, .int 0)]) (q_cod qk264 rfl) (by decide) rfl ?_
  exact (f264_2_ok hf hK)
theorem f264_cl {l0 : Nat} {l1 : Int32} {h : q_H} {x : Unit × q_H} (hf : f264 l0 l1 h = some x) : q_Cl 264 [.ref l0, .int l1] h (.inl none) x.2 := q_Cl.of rfl (q_LvS rfl rfl) (f264_ok hf ⟨rfl, rfl⟩)
/-! SmithyBenchModel.methods()I -/
theorem qk265 : q_cs.getD 265 [] = qc_265 := rfl
def f265 (l0 : Nat) : m_M Int32 :=
  m_B (m_gR 12 l0 1) (fun r1 => m_B (m_lI r1 1) (fun v2 => m_R v2))
theorem f265_ok {l0 : Nat} {h : q_H} {o : q_O} {hz : q_H} {x : Int32 × q_H} (hf : f265 l0 h = some x) (hK : (q_KI o hz) x) : q_Ev none 265 0 [(0, .ref l0)] [] h o hz := by
  unfold f265 at hf
  refine ev_aload_n (q_cod qk265 rfl) (by decide) rfl ?_
  refine em_gR (q_cod qk265 rfl) (by decide) (by decide) hf (fun r1 hf => ?_)
  refine ev_ic (v := 1) (q_cod qk265 rfl) (by decide) (by decide) ?_
  refine em_lI (q_cod qk265 rfl) (by decide) hf (fun v2 hf => ?_)
  obtain rfl := m_R_inv hf
  obtain ⟨rfl, rfl⟩ := (show q_KI o hz (v2, _) from hK)
  exact ev_ret (q_cod qk265 rfl) rfl
theorem f265_cl {l0 : Nat} {h : q_H} {x : Int32 × q_H} (hf : f265 l0 h = some x) : q_Cl 265 [.ref l0] h (.inl (some (.int x.1))) x.2 := q_Cl.of rfl (q_LvS rfl rfl) (f265_ok hf ⟨rfl, rfl⟩)
/-! SmithyBenchModel.isVariable(II)Z -/
theorem qk266 : q_cs.getD 266 [] = qc_266 := rfl
def f266_24 (s0 : Int32) : m_M Int32 :=
  m_B (m_G (s0 = 0 ∨ s0 = 1)) (fun _ => m_R s0)
theorem f266_24_ok {s0 : Int32} {h : q_H} {o : q_O} {hz : q_H} {x : Int32 × q_H} (hf : f266_24 s0 h = some x) (hK : (q_KI o hz) x) : q_Ev none 266 24 [] [.int s0] h o hz := by
  unfold f266_24 at hf
  obtain ⟨g1, hf⟩ := m_G_some hf
  obtain rfl := m_R_inv hf
  obtain ⟨rfl, rfl⟩ := (show q_KI o hz (s0, _) from hK)
  exact ev_ret (q_cod qk266 rfl) (q_retZ g1)
def f266_19  : m_M Int32 :=
  f266_24 1
theorem f266_19_ok  {h : q_H} {o : q_O} {hz : q_H} {x : Int32 × q_H} (hf : f266_19 h = some x) (hK : (q_KI o hz) x) : q_Ev none 266 19 [] [] h o hz := by
  unfold f266_19 at hf
  refine ev_ic (v := 1) (q_cod qk266 rfl) (by decide) (by decide) ?_
  refine ev_goto (q_cod qk266 rfl) (by decide) ?_
  exact (f266_24_ok hf hK)
def f266 (l0 : Nat) (l1 : Int32) (l2 : Int32) : m_M Int32 :=
  m_B (m_aK l0 12) (fun _ => m_B (f199 l0 0 l1 l2) (fun v2 => if v2 = 1 then (f266_19) else (if v2 = 6 then (f266_19) else (f266_24 0))))
theorem f266_ok {l0 : Nat} {l1 : Int32} {l2 : Int32} {h : q_H} {o : q_O} {hz : q_H} {x : Int32 × q_H} (hf : f266 l0 l1 l2 h = some x) (hK : (q_KI o hz) x) : q_Ev none 266 0 [(0, .ref l0), (1, .int l1), (2, .int l2)] [] h o hz := by
  unfold f266 at hf
  refine ev_aload_n (q_cod qk266 rfl) (by decide) rfl ?_
  refine ev_ic (v := 0) (q_cod qk266 rfl) (by decide) (by decide) ?_
  refine ev_iload_n (q_cod qk266 rfl) (by decide) rfl ?_
  refine ev_iload_n (q_cod qk266 rfl) (by decide) rfl ?_
  obtain ⟨g1, hf⟩ := m_aK_some hf
  refine em_call (v := (fun u => some (.int u))) (q_cod qk266 rfl) rfl rfl (q_cokV rfl rfl (Or.inr g1)) rfl (fun x e => f199_cl e) hf (fun v2 h hf => ?_)
  refine ev_is1 (L' := [(0, .ref l0), (1, .int l1), (2, .int l2), (3, .int v2)]) (q_cod qk266 rfl) (by decide) rfl ?_
  refine ev_iload_n (q_cod qk266 rfl) (by decide) rfl ?_
  refine ev_ic (v := 1) (q_cod qk266 rfl) (by decide) (by decide) ?_
  refine em_ic_eq (q_cod qk266 rfl) (by decide) hf (fun c4 hf => ?_) (fun c4 hf => ?_)
  · exact ev_weak (q_pk [] rfl) (f266_19_ok hf hK)
  · refine ev_iload_n (q_cod qk266 rfl) (by decide) rfl ?_
    refine ev_bi (v := 6) (q_cod qk266 rfl) (by decide) (by decide) ?_
    refine em_ic_ne (q_cod qk266 rfl) (by decide) hf (fun c3 hf => ?_) (fun c3 hf => ?_)
    · exact ev_weak (q_pk [] rfl) (f266_19_ok hf hK)
    · refine ev_ic (v := 0) (q_cod qk266 rfl) (by decide) (by decide) ?_
      exact ev_weak (q_pk [] rfl) (f266_24_ok hf hK)
theorem f266_cl {l0 : Nat} {l1 : Int32} {l2 : Int32} {h : q_H} {x : Int32 × q_H} (hf : f266 l0 l1 l2 h = some x) : q_Cl 266 [.ref l0, .int l1, .int l2] h (.inl (some (.int x.1))) x.2 := q_Cl.of rfl (q_LvS rfl rfl) (f266_ok hf ⟨rfl, rfl⟩)
/-! SmithyBenchModel.isLocal(I)Z -/
theorem qk267 : q_cs.getD 267 [] = qc_267 := rfl
def f267_18 (s0 : Int32) : m_M Int32 :=
  m_B (m_G (s0 = 0 ∨ s0 = 1)) (fun _ => m_R s0)
theorem f267_18_ok {s0 : Int32} {h : q_H} {o : q_O} {hz : q_H} {x : Int32 × q_H} (hf : f267_18 s0 h = some x) (hK : (q_KI o hz) x) : q_Ev none 267 18 [] [.int s0] h o hz := by
  unfold f267_18 at hf
  obtain ⟨g1, hf⟩ := m_G_some hf
  obtain rfl := m_R_inv hf
  obtain ⟨rfl, rfl⟩ := (show q_KI o hz (s0, _) from hK)
  exact ev_ret (q_cod qk267 rfl) (q_retZ g1)
def f267_17  : m_M Int32 :=
  f267_18 0
theorem f267_17_ok  {h : q_H} {o : q_O} {hz : q_H} {x : Int32 × q_H} (hf : f267_17 h = some x) (hK : (q_KI o hz) x) : q_Ev none 267 17 [] [] h o hz := by
  unfold f267_17 at hf
  refine ev_ic (v := 0) (q_cod qk267 rfl) (by decide) (by decide) ?_
  exact (f267_18_ok hf hK)
def f267 (l0 : Int32) : m_M Int32 :=
  if l0 = (-9) then (f267_17) else (if l0 < 1000 then (f267_18 1) else (f267_17))
theorem f267_ok {l0 : Int32} {h : q_H} {o : q_O} {hz : q_H} {x : Int32 × q_H} (hf : f267 l0 h = some x) (hK : (q_KI o hz) x) : q_Ev none 267 0 [(0, .int l0)] [] h o hz := by
  unfold f267 at hf
  refine ev_iload_n (q_cod qk267 rfl) (by decide) rfl ?_
  refine ev_bi (v := (-9)) (q_cod qk267 rfl) (by decide) (by decide) ?_
  refine em_ic_eq (q_cod qk267 rfl) (by decide) hf (fun c2 hf => ?_) (fun c2 hf => ?_)
  · exact ev_weak (q_pk [] rfl) (f267_17_ok hf hK)
  · refine ev_iload_n (q_cod qk267 rfl) (by decide) rfl ?_
    refine ev_si (v := 1000) (q_cod qk267 rfl) (by decide) (by decide) ?_
    refine em_ic_ge (q_cod qk267 rfl) (by decide) hf (fun c1 hf => ?_) (fun c1 hf => ?_)
    · refine ev_ic (v := 1) (q_cod qk267 rfl) (by decide) (by decide) ?_
      refine ev_goto (q_cod qk267 rfl) (by decide) ?_
      exact ev_weak (q_pk [] rfl) (f267_18_ok hf hK)
    · exact ev_weak (q_pk [] rfl) (f267_17_ok hf hK)
theorem f267_cl {l0 : Int32} {h : q_H} {x : Int32 × q_H} (hf : f267 l0 h = some x) : q_Cl 267 [.int l0] h (.inl (some (.int x.1))) x.2 := q_Cl.of rfl (q_LvS rfl rfl) (f267_ok hf ⟨rfl, rfl⟩)
/-! SmithyBenchModel.bound(II)I -/
theorem qk268 : q_cs.getD 268 [] = qc_268 := rfl
def f268 (l0 : Nat) (l1 : Int32) (l2 : Int32) : m_M Int32 :=
  m_B (m_gR 12 l0 13) (fun r1 => m_B (m_lI r1 ((192 * l1) + l2)) (fun v2 => m_R v2))
theorem f268_ok {l0 : Nat} {l1 : Int32} {l2 : Int32} {h : q_H} {o : q_O} {hz : q_H} {x : Int32 × q_H} (hf : f268 l0 l1 l2 h = some x) (hK : (q_KI o hz) x) : q_Ev none 268 0 [(0, .ref l0), (1, .int l1), (2, .int l2)] [] h o hz := by
  unfold f268 at hf
  refine ev_aload_n (q_cod qk268 rfl) (by decide) rfl ?_
  refine em_gR (q_cod qk268 rfl) (by decide) (by decide) hf (fun r1 hf => ?_)
  refine ev_si (v := 192) (q_cod qk268 rfl) (by decide) (by decide) ?_
  refine ev_iload_n (q_cod qk268 rfl) (by decide) rfl ?_
  refine ev_imul (q_cod qk268 rfl) (by decide) ?_
  refine ev_iload_n (q_cod qk268 rfl) (by decide) rfl ?_
  refine ev_iadd (q_cod qk268 rfl) (by decide) ?_
  refine em_lI (q_cod qk268 rfl) (by decide) hf (fun v2 hf => ?_)
  obtain rfl := m_R_inv hf
  obtain ⟨rfl, rfl⟩ := (show q_KI o hz (v2, _) from hK)
  exact ev_ret (q_cod qk268 rfl) rfl
theorem f268_cl {l0 : Nat} {l1 : Int32} {l2 : Int32} {h : q_H} {x : Int32 × q_H} (hf : f268 l0 l1 l2 h = some x) : q_Cl 268 [.ref l0, .int l1, .int l2] h (.inl (some (.int x.1))) x.2 := q_Cl.of rfl (q_LvS rfl rfl) (f268_ok hf ⟨rfl, rfl⟩)
/-! SmithyBenchModel.size(II)I -/
theorem qk269 : q_cs.getD 269 [] = qc_269 := rfl
def f269 (l0 : Nat) (l1 : Int32) (l2 : Int32) : m_M Int32 :=
  m_B (m_gR 12 l0 10) (fun r1 => m_B (m_lI r1 ((192 * l1) + l2)) (fun v2 => m_R v2))
theorem f269_ok {l0 : Nat} {l1 : Int32} {l2 : Int32} {h : q_H} {o : q_O} {hz : q_H} {x : Int32 × q_H} (hf : f269 l0 l1 l2 h = some x) (hK : (q_KI o hz) x) : q_Ev none 269 0 [(0, .ref l0), (1, .int l1), (2, .int l2)] [] h o hz := by
  unfold f269 at hf
  refine ev_aload_n (q_cod qk269 rfl) (by decide) rfl ?_
  refine em_gR (q_cod qk269 rfl) (by decide) (by decide) hf (fun r1 hf => ?_)
  refine ev_si (v := 192) (q_cod qk269 rfl) (by decide) (by decide) ?_
  refine ev_iload_n (q_cod qk269 rfl) (by decide) rfl ?_
  refine ev_imul (q_cod qk269 rfl) (by decide) ?_
  refine ev_iload_n (q_cod qk269 rfl) (by decide) rfl ?_
  refine ev_iadd (q_cod qk269 rfl) (by decide) ?_
  refine em_lI (q_cod qk269 rfl) (by decide) hf (fun v2 hf => ?_)
  obtain rfl := m_R_inv hf
  obtain ⟨rfl, rfl⟩ := (show q_KI o hz (v2, _) from hK)
  exact ev_ret (q_cod qk269 rfl) rfl
theorem f269_cl {l0 : Nat} {l1 : Int32} {l2 : Int32} {h : q_H} {x : Int32 × q_H} (hf : f269 l0 l1 l2 h = some x) : q_Cl 269 [.ref l0, .int l1, .int l2] h (.inl (some (.int x.1))) x.2 := q_Cl.of rfl (q_LvS rfl rfl) (f269_ok hf ⟨rfl, rfl⟩)
/-! SmithyBenchModel.bodySize(I)I -/
theorem qk270 : q_cs.getD 270 [] = qc_270 := rfl
def f270 (l0 : Nat) (l1 : Int32) : m_M Int32 :=
  m_B (m_aK l0 12) (fun _ => m_B (f196 l0 0 l1 9) (fun v2 => m_R v2))
theorem f270_ok {l0 : Nat} {l1 : Int32} {h : q_H} {o : q_O} {hz : q_H} {x : Int32 × q_H} (hf : f270 l0 l1 h = some x) (hK : (q_KI o hz) x) : q_Ev none 270 0 [(0, .ref l0), (1, .int l1)] [] h o hz := by
  unfold f270 at hf
  refine ev_aload_n (q_cod qk270 rfl) (by decide) rfl ?_
  refine ev_ic (v := 0) (q_cod qk270 rfl) (by decide) (by decide) ?_
  refine ev_iload_n (q_cod qk270 rfl) (by decide) rfl ?_
  refine ev_bi (v := 9) (q_cod qk270 rfl) (by decide) (by decide) ?_
  obtain ⟨g1, hf⟩ := m_aK_some hf
  refine em_call (v := (fun u => some (.int u))) (q_cod qk270 rfl) rfl rfl (q_cokV rfl rfl (Or.inr g1)) rfl (fun x e => f196_cl e) hf (fun v2 h hf => ?_)
  obtain rfl := m_R_inv hf
  obtain ⟨rfl, rfl⟩ := (show q_KI o hz (v2, _) from hK)
  exact ev_ret (q_cod qk270 rfl) rfl
theorem f270_cl {l0 : Nat} {l1 : Int32} {h : q_H} {x : Int32 × q_H} (hf : f270 l0 l1 h = some x) : q_Cl 270 [.ref l0, .int l1] h (.inl (some (.int x.1))) x.2 := q_Cl.of rfl (q_LvS rfl rfl) (f270_ok hf ⟨rfl, rfl⟩)
/-! SmithyBenchModel.commit()Z -/
theorem qk271 : q_cs.getD 271 [] = qc_271 := rfl
def f271_38  : m_M Int32 :=
  m_R 0
theorem f271_38_ok  {h : q_H} {o : q_O} {hz : q_H} {x : Int32 × q_H} (hf : f271_38 h = some x) (hK : (q_KI o hz) x) : q_Ev none 271 38 [] [] h o hz := by
  unfold f271_38 at hf
  refine ev_ic (v := 0) (q_cod qk271 rfl) (by decide) (by decide) ?_
  obtain rfl := m_R_inv hf
  obtain ⟨rfl, rfl⟩ := (show q_KI o hz (0, _) from hK)
  exact ev_ret (q_cod qk271 rfl) rfl
def f271_40 (l0 : Nat) (l1 : Int32) : m_M ((Nat × Int32) ⊕ Int32) :=
  m_R (.inl (l0, (l1 + 1)))
theorem f271_40_ok {l0 : Nat} {l1 : Int32} {h : q_H} {o : q_O} {hz : q_H} {x : ((Nat × Int32) ⊕ Int32) × q_H} (hf : f271_40 l0 l1 h = some x) (hK : (m_yK (fun (s : Nat × Int32) (h : q_H) => q_Ev none 271 2 [(0, .ref (s.1)), (1, .int (s.2))] [] h o hz) (q_KI o hz)) x) : q_Ev none 271 40 [(0, .ref l0), (1, .int l1)] [] h o hz := by
  unfold f271_40 at hf
  refine ev_inc (v := l1 + 1) (L' := [(0, .ref l0), (1, .int (l1 + 1))]) (q_cod qk271 rfl) (by decide) rfl rfl rfl ?_
  refine ev_goto (q_cod qk271 rfl) (by decide) ?_
  obtain rfl := m_R_inv hf
  exact (show q_Ev none 271 2 [(0, .ref l0), (1, .int (l1 + 1))] [] _ o hz from hK)
def f271_91 (l0 : Nat) : m_M Int32 :=
  m_B (m_gI 12 l0 2) (fun v1 => m_B (m_aK l0 12) (fun _ => m_B (f203 l0 0 (3 + v1)) (fun _ => m_B (m_gI 12 l0 2) (fun v4 => m_B (m_pI 12 l0 2 (v4 + 1)) (fun _ => m_B (m_aK l0 12) (fun _ => m_B (f203 l0 2 0) (fun _ => m_R 1)))))))
theorem f271_91_ok {l0 : Nat} {h : q_H} {o : q_O} {hz : q_H} {x : Int32 × q_H} (hf : f271_91 l0 h = some x) (hK : (q_KI o hz) x) : q_Ev none 271 91 [(0, .ref l0)] [] h o hz := by
  unfold f271_91 at hf
  refine ev_aload_n (q_cod qk271 rfl) (by decide) rfl ?_
  refine ev_ic (v := 0) (q_cod qk271 rfl) (by decide) (by decide) ?_
  refine ev_ic (v := 3) (q_cod qk271 rfl) (by decide) (by decide) ?_
  refine ev_aload_n (q_cod qk271 rfl) (by decide) rfl ?_
  refine em_gI (q_cod qk271 rfl) (by decide) (by decide) hf (fun v1 hf => ?_)
  refine ev_iadd (q_cod qk271 rfl) (by decide) ?_
  obtain ⟨g2, hf⟩ := m_aK_some hf
  refine em_call (v := (fun _ => none)) (q_cod qk271 rfl) rfl rfl (q_cokV rfl rfl (Or.inr g2)) rfl (fun x e => f203_cl e) hf (fun _ h hf => ?_)
  refine ev_aload_n (q_cod qk271 rfl) (by decide) rfl ?_
  refine ev_dup (q_cod qk271 rfl) (by decide) rfl ?_
  refine em_gI (q_cod qk271 rfl) (by decide) (by decide) hf (fun v4 hf => ?_)
  refine ev_ic (v := 1) (q_cod qk271 rfl) (by decide) (by decide) ?_
  refine ev_iadd (q_cod qk271 rfl) (by decide) ?_
  refine em_pI (q_cod qk271 rfl) (by decide) (by decide) (by decide) hf (fun hf => ?_)
  refine ev_aload_n (q_cod qk271 rfl) (by decide) rfl ?_
  refine ev_ic (v := 2) (q_cod qk271 rfl) (by decide) (by decide) ?_
  refine ev_ic (v := 0) (q_cod qk271 rfl) (by decide) (by decide) ?_
  obtain ⟨g5, hf⟩ := m_aK_some hf
  refine em_call (v := (fun _ => none)) (q_cod qk271 rfl) rfl rfl (q_cokV rfl rfl (Or.inr g5)) rfl (fun x e => f203_cl e) hf (fun _ h hf => ?_)
  refine ev_ic (v := 1) (q_cod qk271 rfl) (by decide) (by decide) ?_
  obtain rfl := m_R_inv hf
  obtain ⟨rfl, rfl⟩ := (show q_KI o hz (1, _) from hK)
  exact ev_ret (q_cod qk271 rfl) rfl
def f271_81 (l0 : Nat) : m_M Int32 :=
  m_B (m_gI 12 l0 2) (fun v1 => m_B (m_pI 12 l0 2 (v1 - 1)) (fun _ => f271_91 l0))
theorem f271_81_ok {l0 : Nat} {h : q_H} {o : q_O} {hz : q_H} {x : Int32 × q_H} (hf : f271_81 l0 h = some x) (hK : (q_KI o hz) x) : q_Ev none 271 81 [(0, .ref l0)] [] h o hz := by
  unfold f271_81 at hf
  refine ev_aload_n (q_cod qk271 rfl) (by decide) rfl ?_
  refine ev_dup (q_cod qk271 rfl) (by decide) rfl ?_
  refine em_gI (q_cod qk271 rfl) (by decide) (by decide) hf (fun v1 hf => ?_)
  refine ev_ic (v := 1) (q_cod qk271 rfl) (by decide) (by decide) ?_
  refine ev_isub (q_cod qk271 rfl) (by decide) ?_
  refine em_pI (q_cod qk271 rfl) (by decide) (by decide) (by decide) hf (fun hf => ?_)
  exact (f271_91_ok hf hK)
def f271_57b (l0 : Nat) (l1 : Int32) : m_M ((Nat × Int32) ⊕ Int32) :=
  if l1 < 9 then (m_B (m_aK l0 12) (fun _ => m_B (f203 l0 ((3 + l1) + 1) (3 + l1)) (fun _ => m_R (.inl (l0, (l1 + 1)))))) else (m_B (f271_81 l0) (fun r => m_R (.inr r)))
theorem f271_57b_ok {l0 : Nat} {l1 : Int32} {h : q_H} {o : q_O} {hz : q_H} {x : ((Nat × Int32) ⊕ Int32) × q_H} (hf : f271_57b l0 l1 h = some x) (hK : (m_yK (fun (s : Nat × Int32) (h : q_H) => q_Ev none 271 57 [(0, .ref (s.1)), (1, .int (s.2))] [] h o hz) (q_KI o hz)) x) : q_Ev none 271 57 [(0, .ref l0), (1, .int l1)] [] h o hz := by
  unfold f271_57b at hf
  refine ev_iload_n (q_cod qk271 rfl) (by decide) rfl ?_
  refine ev_bi (v := 9) (q_cod qk271 rfl) (by decide) (by decide) ?_
  refine em_ic_ge (q_cod qk271 rfl) (by decide) hf (fun c3 hf => ?_) (fun c3 hf => ?_)
  · refine ev_aload_n (q_cod qk271 rfl) (by decide) rfl ?_
    refine ev_ic (v := 3) (q_cod qk271 rfl) (by decide) (by decide) ?_
    refine ev_iload_n (q_cod qk271 rfl) (by decide) rfl ?_
    refine ev_iadd (q_cod qk271 rfl) (by decide) ?_
    refine ev_ic (v := 1) (q_cod qk271 rfl) (by decide) (by decide) ?_
    refine ev_iadd (q_cod qk271 rfl) (by decide) ?_
    refine ev_ic (v := 3) (q_cod qk271 rfl) (by decide) (by decide) ?_
    refine ev_iload_n (q_cod qk271 rfl) (by decide) rfl ?_
    refine ev_iadd (q_cod qk271 rfl) (by decide) ?_
    obtain ⟨g1, hf⟩ := m_aK_some hf
    refine em_call (v := (fun _ => none)) (q_cod qk271 rfl) rfl rfl (q_cokV rfl rfl (Or.inr g1)) rfl (fun x e => f203_cl e) hf (fun _ h hf => ?_)
    refine ev_inc (v := l1 + 1) (L' := [(0, .ref l0), (1, .int (l1 + 1))]) (q_cod qk271 rfl) (by decide) rfl rfl rfl ?_
    refine ev_goto (q_cod qk271 rfl) (by decide) ?_
    obtain rfl := m_R_inv hf
    exact (show q_Ev none 271 57 [(0, .ref l0), (1, .int (l1 + 1))] [] _ o hz from hK)
  · obtain ⟨y0, hf0, hx⟩ := m_inr_some hf
    subst hx
    exact ev_weak (q_pk [0] rfl) (f271_81_ok hf0 hK)
def f271_57 (l0 : Nat) (l1 : Int32) : m_M Int32 := m_W (fun s => f271_57b (s.1) (s.2)) 1000000 (l0, l1)
theorem f271_57_ok {l0 : Nat} {l1 : Int32} {h : q_H} {o : q_O} {hz : q_H} {x : Int32 × q_H} (hf : f271_57 l0 l1 h = some x) (hK : (q_KI o hz) x) : q_Ev none 271 57 [(0, .ref l0), (1, .int l1)] [] h o hz :=
  m_W_ok (P := (fun (s : Nat × Int32) (h : q_H) => q_Ev none 271 57 [(0, .ref (s.1)), (1, .int (s.2))] [] h o hz)) (K := (q_KI o hz)) (fun s h x h1 h2 => f271_57b_ok h1 h2) _ (l0, l1) _ _ hf hK
def f271_46 (l0 : Nat) : m_M Int32 :=
  m_B (m_gI 12 l0 2) (fun v1 => if v1 = 10 then (f271_57 l0 0) else (f271_91 l0))
theorem f271_46_ok {l0 : Nat} {h : q_H} {o : q_O} {hz : q_H} {x : Int32 × q_H} (hf : f271_46 l0 h = some x) (hK : (q_KI o hz) x) : q_Ev none 271 46 [(0, .ref l0)] [] h o hz := by
  unfold f271_46 at hf
  refine ev_aload_n (q_cod qk271 rfl) (by decide) rfl ?_
  refine em_gI (q_cod qk271 rfl) (by decide) (by decide) hf (fun v1 hf => ?_)
  refine ev_bi (v := 10) (q_cod qk271 rfl) (by decide) (by decide) ?_
  refine em_ic_ne (q_cod qk271 rfl) (by decide) hf (fun c2 hf => ?_) (fun c2 hf => ?_)
  · refine ev_ic (v := 0) (q_cod qk271 rfl) (by decide) (by decide) ?_
    refine ev_is1 (L' := [(0, .ref l0), (1, .int 0)]) (q_cod qk271 rfl) (by decide) rfl ?_
    exact (f271_57_ok hf hK)
  · exact (f271_91_ok hf hK)
def f271_2b (l0 : Nat) (l1 : Int32) : m_M ((Nat × Int32) ⊕ Int32) :=
  m_B (m_gR 12 l0 1) (fun r1 => m_B (m_lI r1 28401) (fun v2 => if l1 < v2 then (m_B (m_aK l0 12) (fun _ => m_B (f196 l0 2 l1 0) (fun v4 => if v4 = 1 then (m_B (m_aK l0 12) (fun _ => m_B (f196 l0 2 l1 9) (fun v6 => if 60 < v6 then (m_B (f271_38) (fun r => m_R (.inr r))) else (f271_40 l0 l1)))) else (f271_40 l0 l1)))) else (m_B (f271_46 l0) (fun r => m_R (.inr r)))))
theorem f271_2b_ok {l0 : Nat} {l1 : Int32} {h : q_H} {o : q_O} {hz : q_H} {x : ((Nat × Int32) ⊕ Int32) × q_H} (hf : f271_2b l0 l1 h = some x) (hK : (m_yK (fun (s : Nat × Int32) (h : q_H) => q_Ev none 271 2 [(0, .ref (s.1)), (1, .int (s.2))] [] h o hz) (q_KI o hz)) x) : q_Ev none 271 2 [(0, .ref l0), (1, .int l1)] [] h o hz := by
  unfold f271_2b at hf
  refine ev_iload_n (q_cod qk271 rfl) (by decide) rfl ?_
  refine ev_aload_n (q_cod qk271 rfl) (by decide) rfl ?_
  refine em_gR (q_cod qk271 rfl) (by decide) (by decide) hf (fun r1 hf => ?_)
  refine ev_si (v := 28401) (q_cod qk271 rfl) (by decide) (by decide) ?_
  refine em_lI (q_cod qk271 rfl) (by decide) hf (fun v2 hf => ?_)
  refine em_ic_ge (q_cod qk271 rfl) (by decide) hf (fun c9 hf => ?_) (fun c9 hf => ?_)
  · refine ev_aload_n (q_cod qk271 rfl) (by decide) rfl ?_
    refine ev_ic (v := 2) (q_cod qk271 rfl) (by decide) (by decide) ?_
    refine ev_iload_n (q_cod qk271 rfl) (by decide) rfl ?_
    refine ev_ic (v := 0) (q_cod qk271 rfl) (by decide) (by decide) ?_
    obtain ⟨g3, hf⟩ := m_aK_some hf
    refine em_call (v := (fun u => some (.int u))) (q_cod qk271 rfl) rfl rfl (q_cokV rfl rfl (Or.inr g3)) rfl (fun x e => f196_cl e) hf (fun v4 h hf => ?_)
    refine ev_ic (v := 1) (q_cod qk271 rfl) (by decide) (by decide) ?_
    refine em_ic_ne (q_cod qk271 rfl) (by decide) hf (fun c8 hf => ?_) (fun c8 hf => ?_)
    · refine ev_aload_n (q_cod qk271 rfl) (by decide) rfl ?_
      refine ev_ic (v := 2) (q_cod qk271 rfl) (by decide) (by decide) ?_
      refine ev_iload_n (q_cod qk271 rfl) (by decide) rfl ?_
      refine ev_bi (v := 9) (q_cod qk271 rfl) (by decide) (by decide) ?_
      obtain ⟨g5, hf⟩ := m_aK_some hf
      refine em_call (v := (fun u => some (.int u))) (q_cod qk271 rfl) rfl rfl (q_cokV rfl rfl (Or.inr g5)) rfl (fun x e => f196_cl e) hf (fun v6 h hf => ?_)
      refine ev_bi (v := 60) (q_cod qk271 rfl) (by decide) (by decide) ?_
      refine em_ic_le (q_cod qk271 rfl) (by decide) hf (fun c7 hf => ?_) (fun c7 hf => ?_)
      · obtain ⟨y0, hf0, hx⟩ := m_inr_some hf
        subst hx
        exact ev_weak (q_pk [] rfl) (f271_38_ok hf0 hK)
      · exact (f271_40_ok hf hK)
    · exact (f271_40_ok hf hK)
  · obtain ⟨y0, hf0, hx⟩ := m_inr_some hf
    subst hx
    exact ev_weak (q_pk [0] rfl) (f271_46_ok hf0 hK)
def f271_2 (l0 : Nat) (l1 : Int32) : m_M Int32 := m_W (fun s => f271_2b (s.1) (s.2)) 1000000 (l0, l1)
theorem f271_2_ok {l0 : Nat} {l1 : Int32} {h : q_H} {o : q_O} {hz : q_H} {x : Int32 × q_H} (hf : f271_2 l0 l1 h = some x) (hK : (q_KI o hz) x) : q_Ev none 271 2 [(0, .ref l0), (1, .int l1)] [] h o hz :=
  m_W_ok (P := (fun (s : Nat × Int32) (h : q_H) => q_Ev none 271 2 [(0, .ref (s.1)), (1, .int (s.2))] [] h o hz)) (K := (q_KI o hz)) (fun s h x h1 h2 => f271_2b_ok h1 h2) _ (l0, l1) _ _ hf hK
def f271 (l0 : Nat) : m_M Int32 :=
  f271_2 l0 0
theorem f271_ok {l0 : Nat} {h : q_H} {o : q_O} {hz : q_H} {x : Int32 × q_H} (hf : f271 l0 h = some x) (hK : (q_KI o hz) x) : q_Ev none 271 0 [(0, .ref l0)] [] h o hz := by
  unfold f271 at hf
  refine ev_ic (v := 0) (q_cod qk271 rfl) (by decide) (by decide) ?_
  refine ev_is1 (L' := [(0, .ref l0), (1, .int 0)]) (q_cod qk271 rfl) (by decide) rfl ?_
  exact (f271_2_ok hf hK)
theorem f271_cl {l0 : Nat} {h : q_H} {x : Int32 × q_H} (hf : f271 l0 h = some x) : q_Cl 271 [.ref l0] h (.inl (some (.int x.1))) x.2 := q_Cl.of rfl (q_LvS rfl rfl) (f271_ok hf ⟨rfl, rfl⟩)
/-! SmithyBenchModel.isRight()Z -/
theorem qk272 : q_cs.getD 272 [] = qc_272 := rfl
def f272_14 (s0 : Int32) : m_M Int32 :=
  m_B (m_G (s0 = 0 ∨ s0 = 1)) (fun _ => m_R s0)
theorem f272_14_ok {s0 : Int32} {h : q_H} {o : q_O} {hz : q_H} {x : Int32 × q_H} (hf : f272_14 s0 h = some x) (hK : (q_KI o hz) x) : q_Ev none 272 14 [] [.int s0] h o hz := by
  unfold f272_14 at hf
  obtain ⟨g1, hf⟩ := m_G_some hf
  obtain rfl := m_R_inv hf
  obtain ⟨rfl, rfl⟩ := (show q_KI o hz (s0, _) from hK)
  exact ev_ret (q_cod qk272 rfl) (q_retZ g1)
def f272 (l0 : Nat) : m_M Int32 :=
  m_B (m_aK l0 12) (fun _ => m_B (f235 l0 0) (fun v2 => if v2 = (-1) then (f272_14 1) else (f272_14 0)))
theorem f272_ok {l0 : Nat} {h : q_H} {o : q_O} {hz : q_H} {x : Int32 × q_H} (hf : f272 l0 h = some x) (hK : (q_KI o hz) x) : q_Ev none 272 0 [(0, .ref l0)] [] h o hz := by
  unfold f272 at hf
  refine ev_aload_n (q_cod qk272 rfl) (by decide) rfl ?_
  refine ev_ic (v := 0) (q_cod qk272 rfl) (by decide) (by decide) ?_
  obtain ⟨g1, hf⟩ := m_aK_some hf
  refine em_call (v := (fun u => some (.int u))) (q_cod qk272 rfl) rfl rfl (q_cokV rfl rfl (Or.inr g1)) rfl (fun x e => f235_cl e) hf (fun v2 h hf => ?_)
  refine ev_ic (v := (-1)) (q_cod qk272 rfl) (by decide) (by decide) ?_
  refine em_ic_ne (q_cod qk272 rfl) (by decide) hf (fun c3 hf => ?_) (fun c3 hf => ?_)
  · refine ev_ic (v := 1) (q_cod qk272 rfl) (by decide) (by decide) ?_
    refine ev_goto (q_cod qk272 rfl) (by decide) ?_
    exact ev_weak (q_pk [] rfl) (f272_14_ok hf hK)
  · refine ev_ic (v := 0) (q_cod qk272 rfl) (by decide) (by decide) ?_
    exact ev_weak (q_pk [] rfl) (f272_14_ok hf hK)
theorem f272_cl {l0 : Nat} {h : q_H} {x : Int32 × q_H} (hf : f272 l0 h = some x) : q_Cl 272 [.ref l0] h (.inl (some (.int x.1))) x.2 := q_Cl.of rfl (q_LvS rfl rfl) (f272_ok hf ⟨rfl, rfl⟩)
/-! SmithyBenchModel.hasName(II)Z -/
theorem qk273 : q_cs.getD 273 [] = qc_273 := rfl
def f273_124 (l0 : Nat) (l1 : Int32) (l2 : Int32) (l4 : Int32) (s0 : Int32) : m_M ((Nat × Int32 × Int32 × Int32 × Int32) ⊕ Int32) :=
  m_R (.inl (l0, l1, l2, s0, (l4 + 1)))
theorem f273_124_ok {l0 : Nat} {l1 : Int32} {l2 : Int32} {l4 : Int32} {s0 : Int32} {h : q_H} {o : q_O} {hz : q_H} {x : ((Nat × Int32 × Int32 × Int32 × Int32) ⊕ Int32) × q_H} (hf : f273_124 l0 l1 l2 l4 s0 h = some x) (hK : (m_yK (fun (s : Nat × Int32 × Int32 × Int32 × Int32) (h : q_H) => q_Ev none 273 52 [(0, .ref (s.1)), (1, .int (s.2.1)), (2, .int (s.2.2.1)), (3, .int (s.2.2.2.1)), (4, .int (s.2.2.2.2))] [] h o hz) (q_KI o hz)) x) : q_Ev none 273 124 [(0, .ref l0), (1, .int l1), (2, .int l2), (4, .int l4)] [.int s0] h o hz := by
  unfold f273_124 at hf
  refine ev_is1 (L' := [(0, .ref l0), (1, .int l1), (2, .int l2), (3, .int s0), (4, .int l4)]) (q_cod qk273 rfl) (by decide) rfl ?_
  refine ev_inc (v := l4 + 1) (L' := [(0, .ref l0), (1, .int l1), (2, .int l2), (3, .int s0), (4, .int (l4 + 1))]) (q_cod qk273 rfl) (by decide) rfl rfl rfl ?_
  refine ev_goto (q_cod qk273 rfl) (by decide) ?_
  obtain rfl := m_R_inv hf
  exact (show q_Ev none 273 52 [(0, .ref l0), (1, .int l1), (2, .int l2), (3, .int s0), (4, .int (l4 + 1))] [] _ o hz from hK)
def f273_123 (l0 : Nat) (l1 : Int32) (l2 : Int32) (l4 : Int32) : m_M ((Nat × Int32 × Int32 × Int32 × Int32) ⊕ Int32) :=
  f273_124 l0 l1 l2 l4 0
theorem f273_123_ok {l0 : Nat} {l1 : Int32} {l2 : Int32} {l4 : Int32} {h : q_H} {o : q_O} {hz : q_H} {x : ((Nat × Int32 × Int32 × Int32 × Int32) ⊕ Int32) × q_H} (hf : f273_123 l0 l1 l2 l4 h = some x) (hK : (m_yK (fun (s : Nat × Int32 × Int32 × Int32 × Int32) (h : q_H) => q_Ev none 273 52 [(0, .ref (s.1)), (1, .int (s.2.1)), (2, .int (s.2.2.1)), (3, .int (s.2.2.2.1)), (4, .int (s.2.2.2.2))] [] h o hz) (q_KI o hz)) x) : q_Ev none 273 123 [(0, .ref l0), (1, .int l1), (2, .int l2), (4, .int l4)] [] h o hz := by
  unfold f273_123 at hf
  refine ev_ic (v := 0) (q_cod qk273 rfl) (by decide) (by decide) ?_
  exact (f273_124_ok hf hK)
def f273_119 (l0 : Nat) (l1 : Int32) (l2 : Int32) (l4 : Int32) : m_M ((Nat × Int32 × Int32 × Int32 × Int32) ⊕ Int32) :=
  f273_124 l0 l1 l2 l4 1
theorem f273_119_ok {l0 : Nat} {l1 : Int32} {l2 : Int32} {l4 : Int32} {h : q_H} {o : q_O} {hz : q_H} {x : ((Nat × Int32 × Int32 × Int32 × Int32) ⊕ Int32) × q_H} (hf : f273_119 l0 l1 l2 l4 h = some x) (hK : (m_yK (fun (s : Nat × Int32 × Int32 × Int32 × Int32) (h : q_H) => q_Ev none 273 52 [(0, .ref (s.1)), (1, .int (s.2.1)), (2, .int (s.2.2.1)), (3, .int (s.2.2.2.1)), (4, .int (s.2.2.2.2))] [] h o hz) (q_KI o hz)) x) : q_Ev none 273 119 [(0, .ref l0), (1, .int l1), (2, .int l2), (4, .int l4)] [] h o hz := by
  unfold f273_119 at hf
  refine ev_ic (v := 1) (q_cod qk273 rfl) (by decide) (by decide) ?_
  refine ev_goto (q_cod qk273 rfl) (by decide) ?_
  exact (f273_124_ok hf hK)
def f273_96 (l0 : Nat) (l1 : Int32) (l2 : Int32) (l3 : Int32) (l4 : Int32) (s0 : Int32) : m_M ((Nat × Int32 × Int32 × Int32 × Int32) ⊕ Int32) :=
  if l3 = 0 then (if s0 = 0 then (f273_123 l0 l1 l2 l4) else (m_B (m_aK l0 12) (fun _ => m_B (f200 l0 0 l1 l4) (fun v2 => if v2 = l2 then (f273_119 l0 l1 l2 l4) else (f273_123 l0 l1 l2 l4))))) else (f273_119 l0 l1 l2 l4)
theorem f273_96_ok {l0 : Nat} {l1 : Int32} {l2 : Int32} {l3 : Int32} {l4 : Int32} {s0 : Int32} {h : q_H} {o : q_O} {hz : q_H} {x : ((Nat × Int32 × Int32 × Int32 × Int32) ⊕ Int32) × q_H} (hf : f273_96 l0 l1 l2 l3 l4 s0 h = some x) (hK : (m_yK (fun (s : Nat × Int32 × Int32 × Int32 × Int32) (h : q_H) => q_Ev none 273 52 [(0, .ref (s.1)), (1, .int (s.2.1)), (2, .int (s.2.2.1)), (3, .int (s.2.2.2.1)), (4, .int (s.2.2.2.2))] [] h o hz) (q_KI o hz)) x) : q_Ev none 273 96 [(0, .ref l0), (1, .int l1), (2, .int l2), (3, .int l3), (4, .int l4)] [.int s0] h o hz := by
  unfold f273_96 at hf
  refine ev_is2 (L' := [(0, .ref l0), (1, .int l1), (2, .int l2), (3, .int l3), (4, .int l4), (6, .int s0)]) (q_cod qk273 rfl) (by decide) rfl ?_
  refine ev_iload_n (q_cod qk273 rfl) (by decide) rfl ?_
  refine em_if_ne (q_cod qk273 rfl) (by decide) hf (fun c5 hf => ?_) (fun c5 hf => ?_)
  · refine ev_iload (q_cod qk273 rfl) (by decide) rfl ?_
    refine em_if_eq (q_cod qk273 rfl) (by decide) hf (fun c4 hf => ?_) (fun c4 hf => ?_)
    · exact ev_weak (q_pk [0, 1, 2, 4] rfl) (f273_123_ok hf hK)
    · refine ev_aload_n (q_cod qk273 rfl) (by decide) rfl ?_
      refine ev_ic (v := 0) (q_cod qk273 rfl) (by decide) (by decide) ?_
      refine ev_iload_n (q_cod qk273 rfl) (by decide) rfl ?_
      refine ev_iload (q_cod qk273 rfl) (by decide) rfl ?_
      obtain ⟨g1, hf⟩ := m_aK_some hf
      refine em_call (v := (fun u => some (.int u))) (q_cod qk273 rfl) rfl rfl (q_cokV rfl rfl (Or.inr g1)) rfl (fun x e => f200_cl e) hf (fun v2 h hf => ?_)
      refine ev_iload_n (q_cod qk273 rfl) (by decide) rfl ?_
      refine em_ic_ne (q_cod qk273 rfl) (by decide) hf (fun c3 hf => ?_) (fun c3 hf => ?_)
      · exact ev_weak (q_pk [0, 1, 2, 4] rfl) (f273_119_ok hf hK)
      · exact ev_weak (q_pk [0, 1, 2, 4] rfl) (f273_123_ok hf hK)
  · exact ev_weak (q_pk [0, 1, 2, 4] rfl) (f273_119_ok hf hK)
def f273_91 (l0 : Nat) (l1 : Int32) (l2 : Int32) (l3 : Int32) (l4 : Int32) : m_M ((Nat × Int32 × Int32 × Int32 × Int32) ⊕ Int32) :=
  f273_96 l0 l1 l2 l3 l4 1
theorem f273_91_ok {l0 : Nat} {l1 : Int32} {l2 : Int32} {l3 : Int32} {l4 : Int32} {h : q_H} {o : q_O} {hz : q_H} {x : ((Nat × Int32 × Int32 × Int32 × Int32) ⊕ Int32) × q_H} (hf : f273_91 l0 l1 l2 l3 l4 h = some x) (hK : (m_yK (fun (s : Nat × Int32 × Int32 × Int32 × Int32) (h : q_H) => q_Ev none 273 52 [(0, .ref (s.1)), (1, .int (s.2.1)), (2, .int (s.2.2.1)), (3, .int (s.2.2.2.1)), (4, .int (s.2.2.2.2))] [] h o hz) (q_KI o hz)) x) : q_Ev none 273 91 [(0, .ref l0), (1, .int l1), (2, .int l2), (3, .int l3), (4, .int l4)] [] h o hz := by
  unfold f273_91 at hf
  refine ev_ic (v := 1) (q_cod qk273 rfl) (by decide) (by decide) ?_
  refine ev_goto (q_cod qk273 rfl) (by decide) ?_
  exact (f273_96_ok hf hK)
def f273_95 (l0 : Nat) (l1 : Int32) (l2 : Int32) (l3 : Int32) (l4 : Int32) : m_M ((Nat × Int32 × Int32 × Int32 × Int32) ⊕ Int32) :=
  f273_96 l0 l1 l2 l3 l4 0
theorem f273_95_ok {l0 : Nat} {l1 : Int32} {l2 : Int32} {l3 : Int32} {l4 : Int32} {h : q_H} {o : q_O} {hz : q_H} {x : ((Nat × Int32 × Int32 × Int32 × Int32) ⊕ Int32) × q_H} (hf : f273_95 l0 l1 l2 l3 l4 h = some x) (hK : (m_yK (fun (s : Nat × Int32 × Int32 × Int32 × Int32) (h : q_H) => q_Ev none 273 52 [(0, .ref (s.1)), (1, .int (s.2.1)), (2, .int (s.2.2.1)), (3, .int (s.2.2.2.1)), (4, .int (s.2.2.2.2))] [] h o hz) (q_KI o hz)) x) : q_Ev none 273 95 [(0, .ref l0), (1, .int l1), (2, .int l2), (3, .int l3), (4, .int l4)] [] h o hz := by
  unfold f273_95 at hf
  refine ev_ic (v := 0) (q_cod qk273 rfl) (by decide) (by decide) ?_
  exact (f273_96_ok hf hK)
def f273_131 (l3 : Int32) : m_M Int32 :=
  m_B (m_G (l3 = 0 ∨ l3 = 1)) (fun _ => m_R l3)
theorem f273_131_ok {l3 : Int32} {h : q_H} {o : q_O} {hz : q_H} {x : Int32 × q_H} (hf : f273_131 l3 h = some x) (hK : (q_KI o hz) x) : q_Ev none 273 131 [(3, .int l3)] [] h o hz := by
  unfold f273_131 at hf
  refine ev_iload_n (q_cod qk273 rfl) (by decide) rfl ?_
  obtain ⟨g1, hf⟩ := m_G_some hf
  obtain rfl := m_R_inv hf
  obtain ⟨rfl, rfl⟩ := (show q_KI o hz (l3, _) from hK)
  exact ev_ret (q_cod qk273 rfl) (q_retZ g1)
def f273_52b (l0 : Nat) (l1 : Int32) (l2 : Int32) (l3 : Int32) (l4 : Int32) : m_M ((Nat × Int32 × Int32 × Int32 × Int32) ⊕ Int32) :=
  m_B (m_aK l0 12) (fun _ => m_B (f270 l0 l1) (fun v2 => if l4 < v2 then (m_B (m_aK l0 12) (fun _ => m_B (f199 l0 0 l1 l4) (fun v4 => if v4 = 1 then (f273_91 l0 l1 l2 l3 l4) else (if v4 < 3 then (f273_95 l0 l1 l2 l3 l4) else (if 7 < v4 then (f273_95 l0 l1 l2 l3 l4) else (f273_91 l0 l1 l2 l3 l4)))))) else (m_B (f273_131 l3) (fun r => m_R (.inr r)))))
theorem f273_52b_ok {l0 : Nat} {l1 : Int32} {l2 : Int32} {l3 : Int32} {l4 : Int32} {h : q_H} {o : q_O} {hz : q_H} {x : ((Nat × Int32 × Int32 × Int32 × Int32) ⊕ Int32) × q_H} (hf : f273_52b l0 l1 l2 l3 l4 h = some x) (hK : (m_yK (fun (s : Nat × Int32 × Int32 × Int32 × Int32) (h : q_H) => q_Ev none 273 52 [(0, .ref (s.1)), (1, .int (s.2.1)), (2, .int (s.2.2.1)), (3, .int (s.2.2.2.1)), (4, .int (s.2.2.2.2))] [] h o hz) (q_KI o hz)) x) : q_Ev none 273 52 [(0, .ref l0), (1, .int l1), (2, .int l2), (3, .int l3), (4, .int l4)] [] h o hz := by
  unfold f273_52b at hf
  refine ev_iload (q_cod qk273 rfl) (by decide) rfl ?_
  refine ev_aload_n (q_cod qk273 rfl) (by decide) rfl ?_
  refine ev_iload_n (q_cod qk273 rfl) (by decide) rfl ?_
  obtain ⟨g1, hf⟩ := m_aK_some hf
  refine em_call (v := (fun u => some (.int u))) (q_cod qk273 rfl) rfl rfl (q_cokV rfl rfl (Or.inr g1)) rfl (fun x e => f270_cl e) hf (fun v2 h hf => ?_)
  refine em_ic_ge (q_cod qk273 rfl) (by decide) hf (fun c8 hf => ?_) (fun c8 hf => ?_)
  · refine ev_aload_n (q_cod qk273 rfl) (by decide) rfl ?_
    refine ev_ic (v := 0) (q_cod qk273 rfl) (by decide) (by decide) ?_
    refine ev_iload_n (q_cod qk273 rfl) (by decide) rfl ?_
    refine ev_iload (q_cod qk273 rfl) (by decide) rfl ?_
    obtain ⟨g3, hf⟩ := m_aK_some hf
    refine em_call (v := (fun u => some (.int u))) (q_cod qk273 rfl) rfl rfl (q_cokV rfl rfl (Or.inr g3)) rfl (fun x e => f199_cl e) hf (fun v4 h hf => ?_)
    refine ev_is2 (L' := [(0, .ref l0), (1, .int l1), (2, .int l2), (3, .int l3), (4, .int l4), (5, .int v4)]) (q_cod qk273 rfl) (by decide) rfl ?_
    refine ev_iload (q_cod qk273 rfl) (by decide) rfl ?_
    refine ev_ic (v := 1) (q_cod qk273 rfl) (by decide) (by decide) ?_
    refine em_ic_eq (q_cod qk273 rfl) (by decide) hf (fun c7 hf => ?_) (fun c7 hf => ?_)
    · exact ev_weak (q_pk [0, 1, 2, 3, 4] rfl) (f273_91_ok hf hK)
    · refine ev_iload (q_cod qk273 rfl) (by decide) rfl ?_
      refine ev_ic (v := 3) (q_cod qk273 rfl) (by decide) (by decide) ?_
      refine em_ic_lt (q_cod qk273 rfl) (by decide) hf (fun c6 hf => ?_) (fun c6 hf => ?_)
      · exact ev_weak (q_pk [0, 1, 2, 3, 4] rfl) (f273_95_ok hf hK)
      · refine ev_iload (q_cod qk273 rfl) (by decide) rfl ?_
        refine ev_bi (v := 7) (q_cod qk273 rfl) (by decide) (by decide) ?_
        refine em_ic_gt (q_cod qk273 rfl) (by decide) hf (fun c5 hf => ?_) (fun c5 hf => ?_)
        · exact ev_weak (q_pk [0, 1, 2, 3, 4] rfl) (f273_95_ok hf hK)
        · exact ev_weak (q_pk [0, 1, 2, 3, 4] rfl) (f273_91_ok hf hK)
  · obtain ⟨y0, hf0, hx⟩ := m_inr_some hf
    subst hx
    exact ev_weak (q_pk [3] rfl) (f273_131_ok hf0 hK)
def f273_52 (l0 : Nat) (l1 : Int32) (l2 : Int32) (l3 : Int32) (l4 : Int32) : m_M Int32 := m_W (fun s => f273_52b (s.1) (s.2.1) (s.2.2.1) (s.2.2.2.1) (s.2.2.2.2)) 1000000 (l0, l1, l2, l3, l4)
theorem f273_52_ok {l0 : Nat} {l1 : Int32} {l2 : Int32} {l3 : Int32} {l4 : Int32} {h : q_H} {o : q_O} {hz : q_H} {x : Int32 × q_H} (hf : f273_52 l0 l1 l2 l3 l4 h = some x) (hK : (q_KI o hz) x) : q_Ev none 273 52 [(0, .ref l0), (1, .int l1), (2, .int l2), (3, .int l3), (4, .int l4)] [] h o hz :=
  m_W_ok (P := (fun (s : Nat × Int32 × Int32 × Int32 × Int32) (h : q_H) => q_Ev none 273 52 [(0, .ref (s.1)), (1, .int (s.2.1)), (2, .int (s.2.2.1)), (3, .int (s.2.2.2.1)), (4, .int (s.2.2.2.2))] [] h o hz)) (K := (q_KI o hz)) (fun s h x h1 h2 => f273_52b_ok h1 h2) _ (l0, l1, l2, l3, l4) _ _ hf hK
def f273_48 (l0 : Nat) (l1 : Int32) (l2 : Int32) (s0 : Int32) : m_M Int32 :=
  f273_52 l0 l1 l2 s0 0
theorem f273_48_ok {l0 : Nat} {l1 : Int32} {l2 : Int32} {s0 : Int32} {h : q_H} {o : q_O} {hz : q_H} {x : Int32 × q_H} (hf : f273_48 l0 l1 l2 s0 h = some x) (hK : (q_KI o hz) x) : q_Ev none 273 48 [(0, .ref l0), (1, .int l1), (2, .int l2)] [.int s0] h o hz := by
  unfold f273_48 at hf
  refine ev_is1 (L' := [(0, .ref l0), (1, .int l1), (2, .int l2), (3, .int s0)]) (q_cod qk273 rfl) (by decide) rfl ?_
  refine ev_ic (v := 0) (q_cod qk273 rfl) (by decide) (by decide) ?_
  refine ev_is2 (L' := [(0, .ref l0), (1, .int l1), (2, .int l2), (3, .int s0), (4, .int 0)]) (q_cod qk273 rfl) (by decide) rfl ?_
  exact (f273_52_ok hf hK)
def f273_43 (l0 : Nat) (l1 : Int32) (l2 : Int32) : m_M Int32 :=
  f273_48 l0 l1 l2 1
theorem f273_43_ok {l0 : Nat} {l1 : Int32} {l2 : Int32} {h : q_H} {o : q_O} {hz : q_H} {x : Int32 × q_H} (hf : f273_43 l0 l1 l2 h = some x) (hK : (q_KI o hz) x) : q_Ev none 273 43 [(0, .ref l0), (1, .int l1), (2, .int l2)] [] h o hz := by
  unfold f273_43 at hf
  refine ev_ic (v := 1) (q_cod qk273 rfl) (by decide) (by decide) ?_
  refine ev_goto (q_cod qk273 rfl) (by decide) ?_
  exact (f273_48_ok hf hK)
def f273_47 (l0 : Nat) (l1 : Int32) (l2 : Int32) : m_M Int32 :=
  f273_48 l0 l1 l2 0
theorem f273_47_ok {l0 : Nat} {l1 : Int32} {l2 : Int32} {h : q_H} {o : q_O} {hz : q_H} {x : Int32 × q_H} (hf : f273_47 l0 l1 l2 h = some x) (hK : (q_KI o hz) x) : q_Ev none 273 47 [(0, .ref l0), (1, .int l1), (2, .int l2)] [] h o hz := by
  unfold f273_47 at hf
  refine ev_ic (v := 0) (q_cod qk273 rfl) (by decide) (by decide) ?_
  exact (f273_48_ok hf hK)
def f273_21 (l0 : Nat) (l1 : Int32) (l2 : Int32) : m_M Int32 :=
  m_B (m_aK l0 12) (fun _ => m_B (f196 l0 0 l1 3) (fun v2 => if 1 < v2 then (m_B (m_aK l0 12) (fun _ => m_B (f196 l0 0 l1 5) (fun v4 => if v4 = l2 then (f273_43 l0 l1 l2) else (f273_47 l0 l1 l2)))) else (f273_47 l0 l1 l2)))
theorem f273_21_ok {l0 : Nat} {l1 : Int32} {l2 : Int32} {h : q_H} {o : q_O} {hz : q_H} {x : Int32 × q_H} (hf : f273_21 l0 l1 l2 h = some x) (hK : (q_KI o hz) x) : q_Ev none 273 21 [(0, .ref l0), (1, .int l1), (2, .int l2)] [] h o hz := by
  unfold f273_21 at hf
  refine ev_aload_n (q_cod qk273 rfl) (by decide) rfl ?_
  refine ev_ic (v := 0) (q_cod qk273 rfl) (by decide) (by decide) ?_
  refine ev_iload_n (q_cod qk273 rfl) (by decide) rfl ?_
  refine ev_ic (v := 3) (q_cod qk273 rfl) (by decide) (by decide) ?_
  obtain ⟨g1, hf⟩ := m_aK_some hf
  refine em_call (v := (fun u => some (.int u))) (q_cod qk273 rfl) rfl rfl (q_cokV rfl rfl (Or.inr g1)) rfl (fun x e => f196_cl e) hf (fun v2 h hf => ?_)
  refine ev_ic (v := 1) (q_cod qk273 rfl) (by decide) (by decide) ?_
  refine em_ic_le (q_cod qk273 rfl) (by decide) hf (fun c6 hf => ?_) (fun c6 hf => ?_)
  · refine ev_aload_n (q_cod qk273 rfl) (by decide) rfl ?_
    refine ev_ic (v := 0) (q_cod qk273 rfl) (by decide) (by decide) ?_
    refine ev_iload_n (q_cod qk273 rfl) (by decide) rfl ?_
    refine ev_ic (v := 5) (q_cod qk273 rfl) (by decide) (by decide) ?_
    obtain ⟨g3, hf⟩ := m_aK_some hf
    refine em_call (v := (fun u => some (.int u))) (q_cod qk273 rfl) rfl rfl (q_cokV rfl rfl (Or.inr g3)) rfl (fun x e => f196_cl e) hf (fun v4 h hf => ?_)
    refine ev_iload_n (q_cod qk273 rfl) (by decide) rfl ?_
    refine em_ic_ne (q_cod qk273 rfl) (by decide) hf (fun c5 hf => ?_) (fun c5 hf => ?_)
    · exact (f273_43_ok hf hK)
    · exact (f273_47_ok hf hK)
  · exact (f273_47_ok hf hK)
def f273 (l0 : Nat) (l1 : Int32) (l2 : Int32) : m_M Int32 :=
  m_B (m_aK l0 12) (fun _ => m_B (f196 l0 0 l1 3) (fun v2 => if 0 < v2 then (m_B (m_aK l0 12) (fun _ => m_B (f196 l0 0 l1 4) (fun v4 => if v4 = l2 then (f273_43 l0 l1 l2) else (f273_21 l0 l1 l2)))) else (f273_21 l0 l1 l2)))
theorem f273_ok {l0 : Nat} {l1 : Int32} {l2 : Int32} {h : q_H} {o : q_O} {hz : q_H} {x : Int32 × q_H} (hf : f273 l0 l1 l2 h = some x) (hK : (q_KI o hz) x) : q_Ev none 273 0 [(0, .ref l0), (1, .int l1), (2, .int l2)] [] h o hz := by
  unfold f273 at hf
  refine ev_aload_n (q_cod qk273 rfl) (by decide) rfl ?_
  refine ev_ic (v := 0) (q_cod qk273 rfl) (by decide) (by decide) ?_
  refine ev_iload_n (q_cod qk273 rfl) (by decide) rfl ?_
  refine ev_ic (v := 3) (q_cod qk273 rfl) (by decide) (by decide) ?_
  obtain ⟨g1, hf⟩ := m_aK_some hf
  refine em_call (v := (fun u => some (.int u))) (q_cod qk273 rfl) rfl rfl (q_cokV rfl rfl (Or.inr g1)) rfl (fun x e => f196_cl e) hf (fun v2 h hf => ?_)
  refine em_if_le (q_cod qk273 rfl) (by decide) hf (fun c6 hf => ?_) (fun c6 hf => ?_)
  · refine ev_aload_n (q_cod qk273 rfl) (by decide) rfl ?_
    refine ev_ic (v := 0) (q_cod qk273 rfl) (by decide) (by decide) ?_
    refine ev_iload_n (q_cod qk273 rfl) (by decide) rfl ?_
    refine ev_ic (v := 4) (q_cod qk273 rfl) (by decide) (by decide) ?_
    obtain ⟨g3, hf⟩ := m_aK_some hf
    refine em_call (v := (fun u => some (.int u))) (q_cod qk273 rfl) rfl rfl (q_cokV rfl rfl (Or.inr g3)) rfl (fun x e => f196_cl e) hf (fun v4 h hf => ?_)
    refine ev_iload_n (q_cod qk273 rfl) (by decide) rfl ?_
    refine em_ic_eq (q_cod qk273 rfl) (by decide) hf (fun c5 hf => ?_) (fun c5 hf => ?_)
    · exact (f273_43_ok hf hK)
    · exact (f273_21_ok hf hK)
  · exact (f273_21_ok hf hK)
theorem f273_cl {l0 : Nat} {l1 : Int32} {l2 : Int32} {h : q_H} {x : Int32 × q_H} (hf : f273 l0 l1 l2 h = some x) : q_Cl 273 [.ref l0, .int l1, .int l2] h (.inl (some (.int x.1))) x.2 := q_Cl.of rfl (q_LvS rfl rfl) (f273_ok hf ⟨rfl, rfl⟩)
/-! SmithyBenchModel.freshName(III)I -/
theorem qk274 : q_cs.getD 274 [] = qc_274 := rfl
def f274_36 (l0 : Nat) (l1 : Int32) (l2 : Int32) (l3 : Int32) (l4 : Int32) : m_M ((Nat × Int32 × Int32 × Int32 × Int32) ⊕ Int32) :=
  m_R (.inl (l0, l1, l2, l3, (l4 + 1)))
theorem f274_36_ok {l0 : Nat} {l1 : Int32} {l2 : Int32} {l3 : Int32} {l4 : Int32} {h : q_H} {o : q_O} {hz : q_H} {x : ((Nat × Int32 × Int32 × Int32 × Int32) ⊕ Int32) × q_H} (hf : f274_36 l0 l1 l2 l3 l4 h = some x) (hK : (m_yK (fun (s : Nat × Int32 × Int32 × Int32 × Int32) (h : q_H) => q_Ev none 274 3 [(0, .ref (s.1)), (1, .int (s.2.1)), (2, .int (s.2.2.1)), (3, .int (s.2.2.2.1)), (4, .int (s.2.2.2.2))] [] h o hz) (q_KI o hz)) x) : q_Ev none 274 36 [(0, .ref l0), (1, .int l1), (2, .int l2), (3, .int l3), (4, .int l4)] [] h o hz := by
  unfold f274_36 at hf
  refine ev_inc (v := l4 + 1) (L' := [(0, .ref l0), (1, .int l1), (2, .int l2), (3, .int l3), (4, .int (l4 + 1))]) (q_cod qk274 rfl) (by decide) rfl rfl rfl ?_
  refine ev_goto (q_cod qk274 rfl) (by decide) ?_
  obtain rfl := m_R_inv hf
  exact (show q_Ev none 274 3 [(0, .ref l0), (1, .int l1), (2, .int l2), (3, .int l3), (4, .int (l4 + 1))] [] _ o hz from hK)
def f274_55 (s0 : Int32) : m_M Int32 :=
  m_R s0
theorem f274_55_ok {s0 : Int32} {h : q_H} {o : q_O} {hz : q_H} {x : Int32 × q_H} (hf : f274_55 s0 h = some x) (hK : (q_KI o hz) x) : q_Ev none 274 55 [] [.int s0] h o hz := by
  unfold f274_55 at hf
  obtain rfl := m_R_inv hf
  obtain ⟨rfl, rfl⟩ := (show q_KI o hz (s0, _) from hK)
  exact ev_ret (q_cod qk274 rfl) rfl
def f274_42 (l4 : Int32) : m_M Int32 :=
  if l4 < 16 then (f274_55 l4) else (f274_55 (-1))
theorem f274_42_ok {l4 : Int32} {h : q_H} {o : q_O} {hz : q_H} {x : Int32 × q_H} (hf : f274_42 l4 h = some x) (hK : (q_KI o hz) x) : q_Ev none 274 42 [(4, .int l4)] [] h o hz := by
  unfold f274_42 at hf
  refine ev_iload (q_cod qk274 rfl) (by decide) rfl ?_
  refine ev_bi (v := 16) (q_cod qk274 rfl) (by decide) (by decide) ?_
  refine em_ic_ge (q_cod qk274 rfl) (by decide) hf (fun c1 hf => ?_) (fun c1 hf => ?_)
  · refine ev_iload (q_cod qk274 rfl) (by decide) rfl ?_
    refine ev_goto (q_cod qk274 rfl) (by decide) ?_
    exact ev_weak (q_pk [] rfl) (f274_55_ok hf hK)
  · refine ev_ic (v := (-1)) (q_cod qk274 rfl) (by decide) (by decide) ?_
    exact ev_weak (q_pk [] rfl) (f274_55_ok hf hK)
def f274_3b (l0 : Nat) (l1 : Int32) (l2 : Int32) (l3 : Int32) (l4 : Int32) : m_M ((Nat × Int32 × Int32 × Int32 × Int32) ⊕ Int32) :=
  if l4 < 16 then (if l4 = l3 then (f274_36 l0 l1 l2 l3 l4) else (m_B (m_aK l0 12) (fun _ => m_B (f273 l0 l1 l4) (fun v2 => if v2 = 0 then (m_B (m_aK l0 12) (fun _ => m_B (f273 l0 l2 l4) (fun v4 => if v4 = 0 then (m_B (f274_42 l4) (fun r => m_R (.inr r))) else (f274_36 l0 l1 l2 l3 l4)))) else (f274_36 l0 l1 l2 l3 l4))))) else (m_B (f274_42 l4) (fun r => m_R (.inr r)))
theorem f274_3b_ok {l0 : Nat} {l1 : Int32} {l2 : Int32} {l3 : Int32} {l4 : Int32} {h : q_H} {o : q_O} {hz : q_H} {x : ((Nat × Int32 × Int32 × Int32 × Int32) ⊕ Int32) × q_H} (hf : f274_3b l0 l1 l2 l3 l4 h = some x) (hK : (m_yK (fun (s : Nat × Int32 × Int32 × Int32 × Int32) (h : q_H) => q_Ev none 274 3 [(0, .ref (s.1)), (1, .int (s.2.1)), (2, .int (s.2.2.1)), (3, .int (s.2.2.2.1)), (4, .int (s.2.2.2.2))] [] h o hz) (q_KI o hz)) x) : q_Ev none 274 3 [(0, .ref l0), (1, .int l1), (2, .int l2), (3, .int l3), (4, .int l4)] [] h o hz := by
  unfold f274_3b at hf
  refine ev_iload (q_cod qk274 rfl) (by decide) rfl ?_
  refine ev_bi (v := 16) (q_cod qk274 rfl) (by decide) (by decide) ?_
  refine em_ic_ge (q_cod qk274 rfl) (by decide) hf (fun c8 hf => ?_) (fun c8 hf => ?_)
  · refine ev_iload (q_cod qk274 rfl) (by decide) rfl ?_
    refine ev_iload_n (q_cod qk274 rfl) (by decide) rfl ?_
    refine em_ic_eq (q_cod qk274 rfl) (by decide) hf (fun c7 hf => ?_) (fun c7 hf => ?_)
    · exact (f274_36_ok hf hK)
    · refine ev_aload_n (q_cod qk274 rfl) (by decide) rfl ?_
      refine ev_iload_n (q_cod qk274 rfl) (by decide) rfl ?_
      refine ev_iload (q_cod qk274 rfl) (by decide) rfl ?_
      obtain ⟨g1, hf⟩ := m_aK_some hf
      refine em_call (v := (fun u => some (.int u))) (q_cod qk274 rfl) rfl rfl (q_cokV rfl rfl (Or.inr g1)) rfl (fun x e => f273_cl e) hf (fun v2 h hf => ?_)
      refine em_if_ne (q_cod qk274 rfl) (by decide) hf (fun c6 hf => ?_) (fun c6 hf => ?_)
      · refine ev_aload_n (q_cod qk274 rfl) (by decide) rfl ?_
        refine ev_iload_n (q_cod qk274 rfl) (by decide) rfl ?_
        refine ev_iload (q_cod qk274 rfl) (by decide) rfl ?_
        obtain ⟨g3, hf⟩ := m_aK_some hf
        refine em_call (v := (fun u => some (.int u))) (q_cod qk274 rfl) rfl rfl (q_cokV rfl rfl (Or.inr g3)) rfl (fun x e => f273_cl e) hf (fun v4 h hf => ?_)
        refine em_if_eq (q_cod qk274 rfl) (by decide) hf (fun c5 hf => ?_) (fun c5 hf => ?_)
        · obtain ⟨y0, hf0, hx⟩ := m_inr_some hf
          subst hx
          exact ev_weak (q_pk [4] rfl) (f274_42_ok hf0 hK)
        · exact (f274_36_ok hf hK)
      · exact (f274_36_ok hf hK)
  · obtain ⟨y0, hf0, hx⟩ := m_inr_some hf
    subst hx
    exact ev_weak (q_pk [4] rfl) (f274_42_ok hf0 hK)
def f274_3 (l0 : Nat) (l1 : Int32) (l2 : Int32) (l3 : Int32) (l4 : Int32) : m_M Int32 := m_W (fun s => f274_3b (s.1) (s.2.1) (s.2.2.1) (s.2.2.2.1) (s.2.2.2.2)) 1000000 (l0, l1, l2, l3, l4)
theorem f274_3_ok {l0 : Nat} {l1 : Int32} {l2 : Int32} {l3 : Int32} {l4 : Int32} {h : q_H} {o : q_O} {hz : q_H} {x : Int32 × q_H} (hf : f274_3 l0 l1 l2 l3 l4 h = some x) (hK : (q_KI o hz) x) : q_Ev none 274 3 [(0, .ref l0), (1, .int l1), (2, .int l2), (3, .int l3), (4, .int l4)] [] h o hz :=
  m_W_ok (P := (fun (s : Nat × Int32 × Int32 × Int32 × Int32) (h : q_H) => q_Ev none 274 3 [(0, .ref (s.1)), (1, .int (s.2.1)), (2, .int (s.2.2.1)), (3, .int (s.2.2.2.1)), (4, .int (s.2.2.2.2))] [] h o hz)) (K := (q_KI o hz)) (fun s h x h1 h2 => f274_3b_ok h1 h2) _ (l0, l1, l2, l3, l4) _ _ hf hK
def f274 (l0 : Nat) (l1 : Int32) (l2 : Int32) (l3 : Int32) : m_M Int32 :=
  f274_3 l0 l1 l2 l3 0
theorem f274_ok {l0 : Nat} {l1 : Int32} {l2 : Int32} {l3 : Int32} {h : q_H} {o : q_O} {hz : q_H} {x : Int32 × q_H} (hf : f274 l0 l1 l2 l3 h = some x) (hK : (q_KI o hz) x) : q_Ev none 274 0 [(0, .ref l0), (1, .int l1), (2, .int l2), (3, .int l3)] [] h o hz := by
  unfold f274 at hf
  refine ev_ic (v := 0) (q_cod qk274 rfl) (by decide) (by decide) ?_
  refine ev_is2 (L' := [(0, .ref l0), (1, .int l1), (2, .int l2), (3, .int l3), (4, .int 0)]) (q_cod qk274 rfl) (by decide) rfl ?_
  exact (f274_3_ok hf hK)
theorem f274_cl {l0 : Nat} {l1 : Int32} {l2 : Int32} {l3 : Int32} {h : q_H} {x : Int32 × q_H} (hf : f274 l0 l1 l2 l3 h = some x) : q_Cl 274 [.ref l0, .int l1, .int l2, .int l3] h (.inl (some (.int x.1))) x.2 := q_Cl.of rfl (q_LvS rfl rfl) (f274_ok hf ⟨rfl, rfl⟩)
/-! SmithyBenchModel.isCallOfFamily(II)Z -/
theorem qk276 : q_cs.getD 276 [] = qc_276 := rfl
def f276_35 (s0 : Int32) : m_M Int32 :=
  m_B (m_G (s0 = 0 ∨ s0 = 1)) (fun _ => m_R s0)
theorem f276_35_ok {s0 : Int32} {h : q_H} {o : q_O} {hz : q_H} {x : Int32 × q_H} (hf : f276_35 s0 h = some x) (hK : (q_KI o hz) x) : q_Ev none 276 35 [] [.int s0] h o hz := by
  unfold f276_35 at hf
  obtain ⟨g1, hf⟩ := m_G_some hf
  obtain rfl := m_R_inv hf
  obtain ⟨rfl, rfl⟩ := (show q_KI o hz (s0, _) from hK)
  exact ev_ret (q_cod qk276 rfl) (q_retZ g1)
def f276_34  : m_M Int32 :=
  f276_35 0
theorem f276_34_ok  {h : q_H} {o : q_O} {hz : q_H} {x : Int32 × q_H} (hf : f276_34 h = some x) (hK : (q_KI o hz) x) : q_Ev none 276 34 [] [] h o hz := by
  unfold f276_34 at hf
  refine ev_ic (v := 0) (q_cod qk276 rfl) (by decide) (by decide) ?_
  exact (f276_35_ok hf hK)
def f276 (l0 : Nat) (l1 : Int32) (l2 : Int32) : m_M Int32 :=
  m_B (m_aK l0 12) (fun _ => m_B (f199 l0 0 l1 l2) (fun v2 => if v2 = 7 then (m_B (m_gR 12 l0 36) (fun r3 => m_B (m_aK l0 12) (fun _ => m_B (f268 l0 l1 l2) (fun v5 => m_B (m_lZ r3 (v5 - 2000)) (fun v6 => if v6 = 0 then (f276_34) else (f276_35 1)))))) else (f276_34)))
theorem f276_ok {l0 : Nat} {l1 : Int32} {l2 : Int32} {h : q_H} {o : q_O} {hz : q_H} {x : Int32 × q_H} (hf : f276 l0 l1 l2 h = some x) (hK : (q_KI o hz) x) : q_Ev none 276 0 [(0, .ref l0), (1, .int l1), (2, .int l2)] [] h o hz := by
  unfold f276 at hf
  refine ev_aload_n (q_cod qk276 rfl) (by decide) rfl ?_
  refine ev_ic (v := 0) (q_cod qk276 rfl) (by decide) (by decide) ?_
  refine ev_iload_n (q_cod qk276 rfl) (by decide) rfl ?_
  refine ev_iload_n (q_cod qk276 rfl) (by decide) rfl ?_
  obtain ⟨g1, hf⟩ := m_aK_some hf
  refine em_call (v := (fun u => some (.int u))) (q_cod qk276 rfl) rfl rfl (q_cokV rfl rfl (Or.inr g1)) rfl (fun x e => f199_cl e) hf (fun v2 h hf => ?_)
  refine ev_bi (v := 7) (q_cod qk276 rfl) (by decide) (by decide) ?_
  refine em_ic_ne (q_cod qk276 rfl) (by decide) hf (fun c8 hf => ?_) (fun c8 hf => ?_)
  · refine ev_aload_n (q_cod qk276 rfl) (by decide) rfl ?_
    refine em_gR (q_cod qk276 rfl) (by decide) (by decide) hf (fun r3 hf => ?_)
    refine ev_aload_n (q_cod qk276 rfl) (by decide) rfl ?_
    refine ev_iload_n (q_cod qk276 rfl) (by decide) rfl ?_
    refine ev_iload_n (q_cod qk276 rfl) (by decide) rfl ?_
    obtain ⟨g4, hf⟩ := m_aK_some hf
    refine em_call (v := (fun u => some (.int u))) (q_cod qk276 rfl) rfl rfl (q_cokV rfl rfl (Or.inr g4)) rfl (fun x e => f268_cl e) hf (fun v5 h hf => ?_)
    refine ev_si (v := 2000) (q_cod qk276 rfl) (by decide) (by decide) ?_
    refine ev_isub (q_cod qk276 rfl) (by decide) ?_
    refine em_lZ (q_cod qk276 rfl) (by decide) hf (fun v6 hf => ?_)
    refine em_if_eq (q_cod qk276 rfl) (by decide) hf (fun c7 hf => ?_) (fun c7 hf => ?_)
    · exact ev_weak (q_pk [] rfl) (f276_34_ok hf hK)
    · refine ev_ic (v := 1) (q_cod qk276 rfl) (by decide) (by decide) ?_
      refine ev_goto (q_cod qk276 rfl) (by decide) ?_
      exact ev_weak (q_pk [] rfl) (f276_35_ok hf hK)
  · exact ev_weak (q_pk [] rfl) (f276_34_ok hf hK)
theorem f276_cl {l0 : Nat} {l1 : Int32} {l2 : Int32} {h : q_H} {x : Int32 × q_H} (hf : f276 l0 l1 l2 h = some x) : q_Cl 276 [.ref l0, .int l1, .int l2] h (.inl (some (.int x.1))) x.2 := q_Cl.of rfl (q_LvS rfl rfl) (f276_ok hf ⟨rfl, rfl⟩)
/-! SmithyBenchModel.renameMethod(II)I -/
theorem qk275 : q_cs.getD 275 [] = qc_275 := rfl
def f275_199 (l0 : Nat) (l2 : Int32) (l5 : Int32) (l6 : Int32) (l7 : Int32) : m_M ((Nat × Int32 × Int32 × Int32 × Int32) ⊕ ((Nat × Int32 × Int32 × Int32) ⊕ Int32)) :=
  m_R (.inl (l0, l2, l5, l6, (l7 + 1)))
theorem f275_199_ok {l0 : Nat} {l2 : Int32} {l5 : Int32} {l6 : Int32} {l7 : Int32} {h : q_H} {o : q_O} {hz : q_H} {x : ((Nat × Int32 × Int32 × Int32 × Int32) ⊕ ((Nat × Int32 × Int32 × Int32) ⊕ Int32)) × q_H} (hf : f275_199 l0 l2 l5 l6 l7 h = some x) (hK : (m_yK (fun (s : Nat × Int32 × Int32 × Int32 × Int32) (h : q_H) => q_Ev none 275 141 [(0, .ref (s.1)), (2, .int (s.2.1)), (5, .int (s.2.2.1)), (6, .int (s.2.2.2.1)), (7, .int (s.2.2.2.2))] [] h o hz) (m_yK (fun (s : Nat × Int32 × Int32 × Int32) (h : q_H) => q_Ev none 275 110 [(0, .ref (s.1)), (2, .int (s.2.1)), (5, .int (s.2.2.1)), (6, .int (s.2.2.2))] [] h o hz) (q_KI o hz))) x) : q_Ev none 275 199 [(0, .ref l0), (2, .int l2), (5, .int l5), (6, .int l6), (7, .int l7)] [] h o hz := by
  unfold f275_199 at hf
  refine ev_inc (v := l7 + 1) (L' := [(0, .ref l0), (2, .int l2), (5, .int l5), (6, .int l6), (7, .int (l7 + 1))]) (q_cod qk275 rfl) (by decide) rfl rfl rfl ?_
  refine ev_goto (q_cod qk275 rfl) (by decide) ?_
  obtain rfl := m_R_inv hf
  exact (show q_Ev none 275 141 [(0, .ref l0), (2, .int l2), (5, .int l5), (6, .int l6), (7, .int (l7 + 1))] [] _ o hz from hK)
def f275_205 (l0 : Nat) (l2 : Int32) (l5 : Int32) (l6 : Int32) : m_M ((Nat × Int32 × Int32 × Int32) ⊕ Int32) :=
  m_R (.inl (l0, l2, l5, (l6 + 1)))
theorem f275_205_ok {l0 : Nat} {l2 : Int32} {l5 : Int32} {l6 : Int32} {h : q_H} {o : q_O} {hz : q_H} {x : ((Nat × Int32 × Int32 × Int32) ⊕ Int32) × q_H} (hf : f275_205 l0 l2 l5 l6 h = some x) (hK : (m_yK (fun (s : Nat × Int32 × Int32 × Int32) (h : q_H) => q_Ev none 275 110 [(0, .ref (s.1)), (2, .int (s.2.1)), (5, .int (s.2.2.1)), (6, .int (s.2.2.2))] [] h o hz) (q_KI o hz)) x) : q_Ev none 275 205 [(0, .ref l0), (2, .int l2), (5, .int l5), (6, .int l6)] [] h o hz := by
  unfold f275_205 at hf
  refine ev_inc (v := l6 + 1) (L' := [(0, .ref l0), (2, .int l2), (5, .int l5), (6, .int (l6 + 1))]) (q_cod qk275 rfl) (by decide) rfl rfl rfl ?_
  refine ev_goto (q_cod qk275 rfl) (by decide) ?_
  obtain rfl := m_R_inv hf
  exact (show q_Ev none 275 110 [(0, .ref l0), (2, .int l2), (5, .int l5), (6, .int (l6 + 1))] [] _ o hz from hK)
def f275_141b (l0 : Nat) (l2 : Int32) (l5 : Int32) (l6 : Int32) (l7 : Int32) : m_M ((Nat × Int32 × Int32 × Int32 × Int32) ⊕ ((Nat × Int32 × Int32 × Int32) ⊕ Int32)) :=
  m_B (m_aK l0 12) (fun _ => m_B (f196 l0 0 l6 0) (fun v2 => if v2 = 1 then (m_B (m_aK l0 12) (fun _ => m_B (f270 l0 l6) (fun v4 => if l7 < v4 then (m_B (m_aK l0 12) (fun _ => m_B (f276 l0 l6 l7) (fun v6 => if v6 = 0 then (f275_199 l0 l2 l5 l6 l7) else (m_B (m_aK l0 12) (fun _ => m_B (f201 l0 0 l6 l7) (fun v8 => m_B (m_aK l0 12) (fun _ => m_B (f202 l0 2 l6 l7 7 l2 v8) (fun _ => f275_199 l0 l2 (l5 + 1) l6 l7)))))))) else (m_B (f275_205 l0 l2 l5 l6) (fun r => m_R (.inr r)))))) else (m_B (f275_205 l0 l2 l5 l6) (fun r => m_R (.inr r)))))
theorem f275_141b_ok {l0 : Nat} {l2 : Int32} {l5 : Int32} {l6 : Int32} {l7 : Int32} {h : q_H} {o : q_O} {hz : q_H} {x : ((Nat × Int32 × Int32 × Int32 × Int32) ⊕ ((Nat × Int32 × Int32 × Int32) ⊕ Int32)) × q_H} (hf : f275_141b l0 l2 l5 l6 l7 h = some x) (hK : (m_yK (fun (s : Nat × Int32 × Int32 × Int32 × Int32) (h : q_H) => q_Ev none 275 141 [(0, .ref (s.1)), (2, .int (s.2.1)), (5, .int (s.2.2.1)), (6, .int (s.2.2.2.1)), (7, .int (s.2.2.2.2))] [] h o hz) (m_yK (fun (s : Nat × Int32 × Int32 × Int32) (h : q_H) => q_Ev none 275 110 [(0, .ref (s.1)), (2, .int (s.2.1)), (5, .int (s.2.2.1)), (6, .int (s.2.2.2))] [] h o hz) (q_KI o hz))) x) : q_Ev none 275 141 [(0, .ref l0), (2, .int l2), (5, .int l5), (6, .int l6), (7, .int l7)] [] h o hz := by
  unfold f275_141b at hf
  refine ev_aload_n (q_cod qk275 rfl) (by decide) rfl ?_
  refine ev_ic (v := 0) (q_cod qk275 rfl) (by decide) (by decide) ?_
  refine ev_iload (q_cod qk275 rfl) (by decide) rfl ?_
  refine ev_ic (v := 0) (q_cod qk275 rfl) (by decide) (by decide) ?_
  obtain ⟨g1, hf⟩ := m_aK_some hf
  refine em_call (v := (fun u => some (.int u))) (q_cod qk275 rfl) rfl rfl (q_cokV rfl rfl (Or.inr g1)) rfl (fun x e => f196_cl e) hf (fun v2 h hf => ?_)
  refine ev_ic (v := 1) (q_cod qk275 rfl) (by decide) (by decide) ?_
  refine em_ic_ne (q_cod qk275 rfl) (by decide) hf (fun c13 hf => ?_) (fun c13 hf => ?_)
  · refine ev_iload (q_cod qk275 rfl) (by decide) rfl ?_
    refine ev_aload_n (q_cod qk275 rfl) (by decide) rfl ?_
    refine ev_iload (q_cod qk275 rfl) (by decide) rfl ?_
    obtain ⟨g3, hf⟩ := m_aK_some hf
    refine em_call (v := (fun u => some (.int u))) (q_cod qk275 rfl) rfl rfl (q_cokV rfl rfl (Or.inr g3)) rfl (fun x e => f270_cl e) hf (fun v4 h hf => ?_)
    refine em_ic_ge (q_cod qk275 rfl) (by decide) hf (fun c12 hf => ?_) (fun c12 hf => ?_)
    · refine ev_aload_n (q_cod qk275 rfl) (by decide) rfl ?_
      refine ev_iload (q_cod qk275 rfl) (by decide) rfl ?_
      refine ev_iload (q_cod qk275 rfl) (by decide) rfl ?_
      obtain ⟨g5, hf⟩ := m_aK_some hf
      refine em_call (v := (fun u => some (.int u))) (q_cod qk275 rfl) rfl rfl (q_cokV rfl rfl (Or.inr g5)) rfl (fun x e => f276_cl e) hf (fun v6 h hf => ?_)
      refine em_if_eq (q_cod qk275 rfl) (by decide) hf (fun c11 hf => ?_) (fun c11 hf => ?_)
      · exact (f275_199_ok hf hK)
      · refine ev_aload_n (q_cod qk275 rfl) (by decide) rfl ?_
        refine ev_ic (v := 2) (q_cod qk275 rfl) (by decide) (by decide) ?_
        refine ev_iload (q_cod qk275 rfl) (by decide) rfl ?_
        refine ev_iload (q_cod qk275 rfl) (by decide) rfl ?_
        refine ev_bi (v := 7) (q_cod qk275 rfl) (by decide) (by decide) ?_
        refine ev_iload_n (q_cod qk275 rfl) (by decide) rfl ?_
        refine ev_aload_n (q_cod qk275 rfl) (by decide) rfl ?_
        refine ev_ic (v := 0) (q_cod qk275 rfl) (by decide) (by decide) ?_
        refine ev_iload (q_cod qk275 rfl) (by decide) rfl ?_
        refine ev_iload (q_cod qk275 rfl) (by decide) rfl ?_
        obtain ⟨g7, hf⟩ := m_aK_some hf
        refine em_call (v := (fun u => some (.int u))) (q_cod qk275 rfl) rfl rfl (q_cokV rfl rfl (Or.inr g7)) rfl (fun x e => f201_cl e) hf (fun v8 h hf => ?_)
        obtain ⟨g9, hf⟩ := m_aK_some hf
        refine em_call (v := (fun _ => none)) (q_cod qk275 rfl) rfl rfl (q_cokV rfl rfl (Or.inr g9)) rfl (fun x e => f202_cl e) hf (fun _ h hf => ?_)
        refine ev_inc (v := l5 + 1) (L' := [(0, .ref l0), (2, .int l2), (5, .int (l5 + 1)), (6, .int l6), (7, .int l7)]) (q_cod qk275 rfl) (by decide) rfl rfl rfl ?_
        exact (f275_199_ok hf hK)
    · obtain ⟨y0, hf0, hx⟩ := m_inr_some hf
      subst hx
      exact ev_weak (q_pk [0, 1, 2, 3] rfl) (f275_205_ok hf0 hK)
  · obtain ⟨y0, hf0, hx⟩ := m_inr_some hf
    subst hx
    exact ev_weak (q_pk [0, 1, 2, 3] rfl) (f275_205_ok hf0 hK)
def f275_141 (l0 : Nat) (l2 : Int32) (l5 : Int32) (l6 : Int32) (l7 : Int32) : m_M ((Nat × Int32 × Int32 × Int32) ⊕ Int32) := m_W (fun s => f275_141b (s.1) (s.2.1) (s.2.2.1) (s.2.2.2.1) (s.2.2.2.2)) 1000000 (l0, l2, l5, l6, l7)
theorem f275_141_ok {l0 : Nat} {l2 : Int32} {l5 : Int32} {l6 : Int32} {l7 : Int32} {h : q_H} {o : q_O} {hz : q_H} {x : ((Nat × Int32 × Int32 × Int32) ⊕ Int32) × q_H} (hf : f275_141 l0 l2 l5 l6 l7 h = some x) (hK : (m_yK (fun (s : Nat × Int32 × Int32 × Int32) (h : q_H) => q_Ev none 275 110 [(0, .ref (s.1)), (2, .int (s.2.1)), (5, .int (s.2.2.1)), (6, .int (s.2.2.2))] [] h o hz) (q_KI o hz)) x) : q_Ev none 275 141 [(0, .ref l0), (2, .int l2), (5, .int l5), (6, .int l6), (7, .int l7)] [] h o hz :=
  m_W_ok (P := (fun (s : Nat × Int32 × Int32 × Int32 × Int32) (h : q_H) => q_Ev none 275 141 [(0, .ref (s.1)), (2, .int (s.2.1)), (5, .int (s.2.2.1)), (6, .int (s.2.2.2.1)), (7, .int (s.2.2.2.2))] [] h o hz)) (K := (m_yK (fun (s : Nat × Int32 × Int32 × Int32) (h : q_H) => q_Ev none 275 110 [(0, .ref (s.1)), (2, .int (s.2.1)), (5, .int (s.2.2.1)), (6, .int (s.2.2.2))] [] h o hz) (q_KI o hz))) (fun s h x h1 h2 => f275_141b_ok h1 h2) _ (l0, l2, l5, l6, l7) _ _ hf hK
def f275_138 (l0 : Nat) (l2 : Int32) (l5 : Int32) (l6 : Int32) : m_M ((Nat × Int32 × Int32 × Int32) ⊕ Int32) :=
  f275_141 l0 l2 l5 l6 0
theorem f275_138_ok {l0 : Nat} {l2 : Int32} {l5 : Int32} {l6 : Int32} {h : q_H} {o : q_O} {hz : q_H} {x : ((Nat × Int32 × Int32 × Int32) ⊕ Int32) × q_H} (hf : f275_138 l0 l2 l5 l6 h = some x) (hK : (m_yK (fun (s : Nat × Int32 × Int32 × Int32) (h : q_H) => q_Ev none 275 110 [(0, .ref (s.1)), (2, .int (s.2.1)), (5, .int (s.2.2.1)), (6, .int (s.2.2.2))] [] h o hz) (q_KI o hz)) x) : q_Ev none 275 138 [(0, .ref l0), (2, .int l2), (5, .int l5), (6, .int l6)] [] h o hz := by
  unfold f275_138 at hf
  refine ev_ic (v := 0) (q_cod qk275 rfl) (by decide) (by decide) ?_
  refine ev_is2 (L' := [(0, .ref l0), (2, .int l2), (5, .int l5), (6, .int l6), (7, .int 0)]) (q_cod qk275 rfl) (by decide) rfl ?_
  exact (f275_141_ok hf hK)
def f275_211 (l0 : Nat) (l5 : Int32) : m_M Int32 :=
  m_B (m_aK l0 12) (fun _ => m_B (f271 l0) (fun v2 => m_R l5))
theorem f275_211_ok {l0 : Nat} {l5 : Int32} {h : q_H} {o : q_O} {hz : q_H} {x : Int32 × q_H} (hf : f275_211 l0 l5 h = some x) (hK : (q_KI o hz) x) : q_Ev none 275 211 [(0, .ref l0), (5, .int l5)] [] h o hz := by
  unfold f275_211 at hf
  refine ev_aload_n (q_cod qk275 rfl) (by decide) rfl ?_
  obtain ⟨g1, hf⟩ := m_aK_some hf
  refine em_call (v := (fun u => some (.int u))) (q_cod qk275 rfl) rfl rfl (q_cokV rfl rfl (Or.inr g1)) rfl (fun x e => f271_cl e) hf (fun v2 h hf => ?_)
  refine ev_is2 (L' := [(0, .ref l0), (5, .int l5), (6, .int v2)]) (q_cod qk275 rfl) (by decide) rfl ?_
  refine ev_iload (q_cod qk275 rfl) (by decide) rfl ?_
  obtain rfl := m_R_inv hf
  obtain ⟨rfl, rfl⟩ := (show q_KI o hz (l5, _) from hK)
  exact ev_ret (q_cod qk275 rfl) rfl
def f275_110b (l0 : Nat) (l2 : Int32) (l5 : Int32) (l6 : Int32) : m_M ((Nat × Int32 × Int32 × Int32) ⊕ Int32) :=
  m_B (m_aK l0 12) (fun _ => m_B (f265 l0) (fun v2 => if l6 < v2 then (m_B (m_gR 12 l0 36) (fun r3 => m_B (m_lZ r3 l6) (fun v4 => if v4 = 0 then (f275_138 l0 l2 l5 l6) else (m_B (m_aK l0 12) (fun _ => m_B (f197 l0 2 l6 2 l2) (fun _ => f275_138 l0 l2 l5 l6)))))) else (m_B (f275_211 l0 l5) (fun r => m_R (.inr r)))))
theorem f275_110b_ok {l0 : Nat} {l2 : Int32} {l5 : Int32} {l6 : Int32} {h : q_H} {o : q_O} {hz : q_H} {x : ((Nat × Int32 × Int32 × Int32) ⊕ Int32) × q_H} (hf : f275_110b l0 l2 l5 l6 h = some x) (hK : (m_yK (fun (s : Nat × Int32 × Int32 × Int32) (h : q_H) => q_Ev none 275 110 [(0, .ref (s.1)), (2, .int (s.2.1)), (5, .int (s.2.2.1)), (6, .int (s.2.2.2))] [] h o hz) (q_KI o hz)) x) : q_Ev none 275 110 [(0, .ref l0), (2, .int l2), (5, .int l5), (6, .int l6)] [] h o hz := by
  unfold f275_110b at hf
  refine ev_iload (q_cod qk275 rfl) (by decide) rfl ?_
  refine ev_aload_n (q_cod qk275 rfl) (by decide) rfl ?_
  obtain ⟨g1, hf⟩ := m_aK_some hf
  refine em_call (v := (fun u => some (.int u))) (q_cod qk275 rfl) rfl rfl (q_cokV rfl rfl (Or.inr g1)) rfl (fun x e => f265_cl e) hf (fun v2 h hf => ?_)
  refine em_ic_ge (q_cod qk275 rfl) (by decide) hf (fun c8 hf => ?_) (fun c8 hf => ?_)
  · refine ev_aload_n (q_cod qk275 rfl) (by decide) rfl ?_
    refine em_gR (q_cod qk275 rfl) (by decide) (by decide) hf (fun r3 hf => ?_)
    refine ev_iload (q_cod qk275 rfl) (by decide) rfl ?_
    refine em_lZ (q_cod qk275 rfl) (by decide) hf (fun v4 hf => ?_)
    refine em_if_eq (q_cod qk275 rfl) (by decide) hf (fun c7 hf => ?_) (fun c7 hf => ?_)
    · exact (f275_138_ok hf hK)
    · refine ev_aload_n (q_cod qk275 rfl) (by decide) rfl ?_
      refine ev_ic (v := 2) (q_cod qk275 rfl) (by decide) (by decide) ?_
      refine ev_iload (q_cod qk275 rfl) (by decide) rfl ?_
      refine ev_ic (v := 2) (q_cod qk275 rfl) (by decide) (by decide) ?_
      refine ev_iload_n (q_cod qk275 rfl) (by decide) rfl ?_
      obtain ⟨g5, hf⟩ := m_aK_some hf
      refine em_call (v := (fun _ => none)) (q_cod qk275 rfl) rfl rfl (q_cokV rfl rfl (Or.inr g5)) rfl (fun x e => f197_cl e) hf (fun _ h hf => ?_)
      exact (f275_138_ok hf hK)
  · obtain ⟨y0, hf0, hx⟩ := m_inr_some hf
    subst hx
    exact ev_weak (q_pk [0, 2] rfl) (f275_211_ok hf0 hK)
def f275_110 (l0 : Nat) (l2 : Int32) (l5 : Int32) (l6 : Int32) : m_M Int32 := m_W (fun s => f275_110b (s.1) (s.2.1) (s.2.2.1) (s.2.2.2)) 1000000 (l0, l2, l5, l6)
theorem f275_110_ok {l0 : Nat} {l2 : Int32} {l5 : Int32} {l6 : Int32} {h : q_H} {o : q_O} {hz : q_H} {x : Int32 × q_H} (hf : f275_110 l0 l2 l5 l6 h = some x) (hK : (q_KI o hz) x) : q_Ev none 275 110 [(0, .ref l0), (2, .int l2), (5, .int l5), (6, .int l6)] [] h o hz :=
  m_W_ok (P := (fun (s : Nat × Int32 × Int32 × Int32) (h : q_H) => q_Ev none 275 110 [(0, .ref (s.1)), (2, .int (s.2.1)), (5, .int (s.2.2.1)), (6, .int (s.2.2.2))] [] h o hz)) (K := (q_KI o hz)) (fun s h x h1 h2 => f275_110b_ok h1 h2) _ (l0, l2, l5, l6) _ _ hf hK
def f275_66 (l0 : Nat) (l1 : Int32) (l2 : Int32) (s0 : Nat) (s1 : Int32) : m_M Int32 :=
  m_B (m_aK s0 12) (fun _ => m_B (f178 s0 s1) (fun v2 => if v2 = 0 then (m_B (m_aK l0 12) (fun _ => m_B (f255 l0 0 l1) (fun _ => m_B (m_aK l0 12) (fun _ => m_B (f196 l0 0 l1 3) (fun v6 => m_B (m_aK l0 12) (fun _ => m_B (f257 l0 0 l2 v6) (fun v8 => if v8 = 0 then (m_R (-1)) else (m_B (m_aK l0 12) (fun _ => m_B (f203 l0 0 2) (fun _ => f275_110 l0 l2 0 0)))))))))) else (m_R 0)))
theorem f275_66_ok {l0 : Nat} {l1 : Int32} {l2 : Int32} {s0 : Nat} {s1 : Int32} {h : q_H} {o : q_O} {hz : q_H} {x : Int32 × q_H} (hf : f275_66 l0 l1 l2 s0 s1 h = some x) (hK : (q_KI o hz) x) : q_Ev none 275 66 [(0, .ref l0), (1, .int l1), (2, .int l2)] [.int s1, .ref s0] h o hz := by
  unfold f275_66 at hf
  obtain ⟨g1, hf⟩ := m_aK_some hf
  refine em_call (v := (fun u => some (.int u))) (q_cod qk275 rfl) rfl rfl (q_cokV rfl rfl (Or.inr g1)) rfl (fun x e => f178_cl e) hf (fun v2 h hf => ?_)
  refine em_if_eq (q_cod qk275 rfl) (by decide) hf (fun c12 hf => ?_) (fun c12 hf => ?_)
  · refine ev_aload_n (q_cod qk275 rfl) (by decide) rfl ?_
    refine ev_ic (v := 0) (q_cod qk275 rfl) (by decide) (by decide) ?_
    refine ev_iload_n (q_cod qk275 rfl) (by decide) rfl ?_
    obtain ⟨g3, hf⟩ := m_aK_some hf
    refine em_call (v := (fun _ => none)) (q_cod qk275 rfl) rfl rfl (q_cokV rfl rfl (Or.inr g3)) rfl (fun x e => f255_cl e) hf (fun _ h hf => ?_)
    refine ev_aload_n (q_cod qk275 rfl) (by decide) rfl ?_
    refine ev_ic (v := 0) (q_cod qk275 rfl) (by decide) (by decide) ?_
    refine ev_iload_n (q_cod qk275 rfl) (by decide) rfl ?_
    refine ev_aload_n (q_cod qk275 rfl) (by decide) rfl ?_
    refine ev_ic (v := 0) (q_cod qk275 rfl) (by decide) (by decide) ?_
    refine ev_iload_n (q_cod qk275 rfl) (by decide) rfl ?_
    refine ev_ic (v := 3) (q_cod qk275 rfl) (by decide) (by decide) ?_
    obtain ⟨g5, hf⟩ := m_aK_some hf
    refine em_call (v := (fun u => some (.int u))) (q_cod qk275 rfl) rfl rfl (q_cokV rfl rfl (Or.inr g5)) rfl (fun x e => f196_cl e) hf (fun v6 h hf => ?_)
    obtain ⟨g7, hf⟩ := m_aK_some hf
    refine em_call (v := (fun u => some (.int u))) (q_cod qk275 rfl) rfl rfl (q_cokV rfl rfl (Or.inr g7)) rfl (fun x e => f257_cl e) hf (fun v8 h hf => ?_)
    refine em_if_ne (q_cod qk275 rfl) (by decide) hf (fun c11 hf => ?_) (fun c11 hf => ?_)
    · refine ev_ic (v := (-1)) (q_cod qk275 rfl) (by decide) (by decide) ?_
      obtain rfl := m_R_inv hf
      obtain ⟨rfl, rfl⟩ := (show q_KI o hz ((-1), _) from hK)
      exact ev_ret (q_cod qk275 rfl) rfl
    · refine ev_aload_n (q_cod qk275 rfl) (by decide) rfl ?_
      refine ev_ic (v := 0) (q_cod qk275 rfl) (by decide) (by decide) ?_
      refine ev_ic (v := 2) (q_cod qk275 rfl) (by decide) (by decide) ?_
      obtain ⟨g9, hf⟩ := m_aK_some hf
      refine em_call (v := (fun _ => none)) (q_cod qk275 rfl) rfl rfl (q_cokV rfl rfl (Or.inr g9)) rfl (fun x e => f203_cl e) hf (fun _ h hf => ?_)
      refine ev_ic (v := 0) (q_cod qk275 rfl) (by decide) (by decide) ?_
      refine ev_is2 (L' := [(0, .ref l0), (1, .int l1), (2, .int l2), (5, .int 0)]) (q_cod qk275 rfl) (by decide) rfl ?_
      refine ev_ic (v := 0) (q_cod qk275 rfl) (by decide) (by decide) ?_
      refine ev_is2 (L' := [(0, .ref l0), (1, .int l1), (2, .int l2), (5, .int 0), (6, .int 0)]) (q_cod qk275 rfl) (by decide) rfl ?_
      exact ev_weak (q_pk [0, 2, 3, 4] rfl) (f275_110_ok hf hK)
  · refine ev_ic (v := 0) (q_cod qk275 rfl) (by decide) (by decide) ?_
    obtain rfl := m_R_inv hf
    obtain ⟨rfl, rfl⟩ := (show q_KI o hz (0, _) from hK)
    exact ev_ret (q_cod qk275 rfl) rfl
def f275_34 (l0 : Nat) (l1 : Int32) (l2 : Int32) (l3 : Int32) (s0 : Int32) : m_M Int32 :=
  if l3 = 0 then (f275_66 l0 l1 l2 l0 1) else (if s0 = 0 then (f275_66 l0 l1 l2 l0 2) else (m_B (m_aK l0 12) (fun _ => m_B (f272 l0) (fun v2 => if v2 = 0 then (f275_66 l0 l1 l2 l0 3) else (f275_66 l0 l1 l2 l0 0)))))
theorem f275_34_ok {l0 : Nat} {l1 : Int32} {l2 : Int32} {l3 : Int32} {s0 : Int32} {h : q_H} {o : q_O} {hz : q_H} {x : Int32 × q_H} (hf : f275_34 l0 l1 l2 l3 s0 h = some x) (hK : (q_KI o hz) x) : q_Ev none 275 34 [(0, .ref l0), (1, .int l1), (2, .int l2), (3, .int l3)] [.int s0] h o hz := by
  unfold f275_34 at hf
  refine ev_is2 (L' := [(0, .ref l0), (1, .int l1), (2, .int l2), (3, .int l3), (4, .int s0)]) (q_cod qk275 rfl) (by decide) rfl ?_
  refine ev_aload_n (q_cod qk275 rfl) (by decide) rfl ?_
  refine ev_iload_n (q_cod qk275 rfl) (by decide) rfl ?_
  refine em_if_ne (q_cod qk275 rfl) (by decide) hf (fun c5 hf => ?_) (fun c5 hf => ?_)
  · refine ev_ic (v := 1) (q_cod qk275 rfl) (by decide) (by decide) ?_
    refine ev_goto (q_cod qk275 rfl) (by decide) ?_
    exact ev_weak (q_pk [0, 1, 2] rfl) (f275_66_ok hf hK)
  · refine ev_iload (q_cod qk275 rfl) (by decide) rfl ?_
    refine em_if_ne (q_cod qk275 rfl) (by decide) hf (fun c4 hf => ?_) (fun c4 hf => ?_)
    · refine ev_ic (v := 2) (q_cod qk275 rfl) (by decide) (by decide) ?_
      refine ev_goto (q_cod qk275 rfl) (by decide) ?_
      exact ev_weak (q_pk [0, 1, 2] rfl) (f275_66_ok hf hK)
    · refine ev_aload_n (q_cod qk275 rfl) (by decide) rfl ?_
      obtain ⟨g1, hf⟩ := m_aK_some hf
      refine em_call (v := (fun u => some (.int u))) (q_cod qk275 rfl) rfl rfl (q_cokV rfl rfl (Or.inr g1)) rfl (fun x e => f272_cl e) hf (fun v2 h hf => ?_)
      refine em_if_ne (q_cod qk275 rfl) (by decide) hf (fun c3 hf => ?_) (fun c3 hf => ?_)
      · refine ev_ic (v := 3) (q_cod qk275 rfl) (by decide) (by decide) ?_
        refine ev_goto (q_cod qk275 rfl) (by decide) ?_
        exact ev_weak (q_pk [0, 1, 2] rfl) (f275_66_ok hf hK)
      · refine ev_ic (v := 0) (q_cod qk275 rfl) (by decide) (by decide) ?_
        exact ev_weak (q_pk [0, 1, 2] rfl) (f275_66_ok hf hK)
def f275_33 (l0 : Nat) (l1 : Int32) (l2 : Int32) (l3 : Int32) : m_M Int32 :=
  f275_34 l0 l1 l2 l3 0
theorem f275_33_ok {l0 : Nat} {l1 : Int32} {l2 : Int32} {l3 : Int32} {h : q_H} {o : q_O} {hz : q_H} {x : Int32 × q_H} (hf : f275_33 l0 l1 l2 l3 h = some x) (hK : (q_KI o hz) x) : q_Ev none 275 33 [(0, .ref l0), (1, .int l1), (2, .int l2), (3, .int l3)] [] h o hz := by
  unfold f275_33 at hf
  refine ev_ic (v := 0) (q_cod qk275 rfl) (by decide) (by decide) ?_
  exact (f275_34_ok hf hK)
def f275 (l0 : Nat) (l1 : Int32) (l2 : Int32) : m_M Int32 :=
  m_B (m_aK l0 12) (fun _ => m_B (f206 l0 0 l1) (fun v2 => if v2 = 0 then (f275_33 l0 l1 l2 v2) else (m_B (f180 l2) (fun v3 => if v3 = 0 then (f275_33 l0 l1 l2 v2) else (m_B (m_aK l0 12) (fun _ => m_B (f196 l0 0 l1 2) (fun v5 => if l2 = v5 then (f275_33 l0 l1 l2 v2) else (f275_34 l0 l1 l2 v2 1))))))))
theorem f275_ok {l0 : Nat} {l1 : Int32} {l2 : Int32} {h : q_H} {o : q_O} {hz : q_H} {x : Int32 × q_H} (hf : f275 l0 l1 l2 h = some x) (hK : (q_KI o hz) x) : q_Ev none 275 0 [(0, .ref l0), (1, .int l1), (2, .int l2)] [] h o hz := by
  unfold f275 at hf
  refine ev_aload_n (q_cod qk275 rfl) (by decide) rfl ?_
  refine ev_ic (v := 0) (q_cod qk275 rfl) (by decide) (by decide) ?_
  refine ev_iload_n (q_cod qk275 rfl) (by decide) rfl ?_
  obtain ⟨g1, hf⟩ := m_aK_some hf
  refine em_call (v := (fun u => some (.int u))) (q_cod qk275 rfl) rfl rfl (q_cokV rfl rfl (Or.inr g1)) rfl (fun x e => f206_cl e) hf (fun v2 h hf => ?_)
  refine ev_is1 (L' := [(0, .ref l0), (1, .int l1), (2, .int l2), (3, .int v2)]) (q_cod qk275 rfl) (by decide) rfl ?_
  refine ev_iload_n (q_cod qk275 rfl) (by decide) rfl ?_
  refine em_if_eq (q_cod qk275 rfl) (by decide) hf (fun c8 hf => ?_) (fun c8 hf => ?_)
  · exact (f275_33_ok hf hK)
  · refine ev_iload_n (q_cod qk275 rfl) (by decide) rfl ?_
    refine em_call (v := (fun u => some (.int u))) (q_cod qk275 rfl) rfl rfl (q_cokS rfl rfl) rfl (fun x e => f180_cl e) hf (fun v3 h hf => ?_)
    refine em_if_eq (q_cod qk275 rfl) (by decide) hf (fun c7 hf => ?_) (fun c7 hf => ?_)
    · exact (f275_33_ok hf hK)
    · refine ev_iload_n (q_cod qk275 rfl) (by decide) rfl ?_
      refine ev_aload_n (q_cod qk275 rfl) (by decide) rfl ?_
      refine ev_ic (v := 0) (q_cod qk275 rfl) (by decide) (by decide) ?_
      refine ev_iload_n (q_cod qk275 rfl) (by decide) rfl ?_
      refine ev_ic (v := 2) (q_cod qk275 rfl) (by decide) (by decide) ?_
      obtain ⟨g4, hf⟩ := m_aK_some hf
      refine em_call (v := (fun u => some (.int u))) (q_cod qk275 rfl) rfl rfl (q_cokV rfl rfl (Or.inr g4)) rfl (fun x e => f196_cl e) hf (fun v5 h hf => ?_)
      refine em_ic_eq (q_cod qk275 rfl) (by decide) hf (fun c6 hf => ?_) (fun c6 hf => ?_)
      · exact (f275_33_ok hf hK)
      · refine ev_ic (v := 1) (q_cod qk275 rfl) (by decide) (by decide) ?_
        refine ev_goto (q_cod qk275 rfl) (by decide) ?_
        exact (f275_34_ok hf hK)
theorem f275_cl {l0 : Nat} {l1 : Int32} {l2 : Int32} {h : q_H} {x : Int32 × q_H} (hf : f275 l0 l1 l2 h = some x) : q_Cl 275 [.ref l0, .int l1, .int l2] h (.inl (some (.int x.1))) x.2 := q_Cl.of rfl (q_LvS rfl rfl) (f275_ok hf ⟨rfl, rfl⟩)
