/-! SmithyBenchModel.measure(II)V -/
theorem qk224 : q_cs.getD 224 [] = qc_224 := rfl
def f224_122 (l0 : Nat) (l3 : Int32) : m_M Unit :=
  m_B (m_gR 12 l0 11) (fun r1 => m_B (m_wI r1 l3 (-1)) (fun _ => m_R ()))
theorem f224_122_ok {l0 : Nat} {l3 : Int32} {h : q_H} {o : q_O} {hz : q_H} {x : Unit × q_H} (hf : f224_122 l0 l3 h = some x) (hK : (m_KU o hz) x) : q_Ev none 224 122 [(0, .ref l0), (3, .int l3)] [] h o hz := by
  unfold f224_122 at hf
  refine ev_aload_n (q_cod qk224 rfl) (by decide) rfl ?_
  refine em_gR (q_cod qk224 rfl) (by decide) (by decide) hf (fun r1 hf => ?_)
  refine ev_iload_n (q_cod qk224 rfl) (by decide) rfl ?_
  refine ev_ic (v := (-1)) (q_cod qk224 rfl) (by decide) (by decide) ?_
  refine em_wI (q_cod qk224 rfl) (by decide) hf (fun hf => ?_)
  obtain rfl := m_R_inv hf
  obtain ⟨rfl, rfl⟩ := (show m_KU o hz ((), _) from hK)
  exact ev_ret (q_cod qk224 rfl) rfl
def f224_80 (l0 : Nat) (l1 : Int32) (l2 : Int32) (l3 : Int32) (l5 : Int32) (l6 : Int32) : m_M ((Nat × Int32 × Int32 × Int32 × Int32) ⊕ Unit) :=
  m_B (m_gR 12 l0 10) (fun r1 => m_B (m_wI r1 (l3 + l5) (l6 - l5)) (fun _ => m_B (m_gR 12 l0 12) (fun r2 => m_B (m_wI r2 (l3 + l5) (-9)) (fun _ => m_B (m_gR 12 l0 13) (fun r3 => m_B (m_wI r3 (l3 + l5) (-9)) (fun _ => m_R (.inl (l0, l1, l2, l3, (l5 + (-1))))))))))
theorem f224_80_ok {l0 : Nat} {l1 : Int32} {l2 : Int32} {l3 : Int32} {l5 : Int32} {l6 : Int32} {h : q_H} {o : q_O} {hz : q_H} {x : ((Nat × Int32 × Int32 × Int32 × Int32) ⊕ Unit) × q_H} (hf : f224_80 l0 l1 l2 l3 l5 l6 h = some x) (hK : (m_yK (fun (s : Nat × Int32 × Int32 × Int32 × Int32) (h : q_H) => q_Ev none 224 22 [(0, .ref (s.1)), (1, .int (s.2.1)), (2, .int (s.2.2.1)), (3, .int (s.2.2.2.1)), (5, .int (s.2.2.2.2))] [] h o hz) (m_KU o hz)) x) : q_Ev none 224 80 [(0, .ref l0), (1, .int l1), (2, .int l2), (3, .int l3), (5, .int l5), (6, .int l6)] [] h o hz := by
  unfold f224_80 at hf
  refine ev_aload_n (q_cod qk224 rfl) (by decide) rfl ?_
  refine em_gR (q_cod qk224 rfl) (by decide) (by decide) hf (fun r1 hf => ?_)
  refine ev_iload_n (q_cod qk224 rfl) (by decide) rfl ?_
  refine ev_iload (q_cod qk224 rfl) (by decide) rfl ?_
  refine ev_iadd (q_cod qk224 rfl) (by decide) ?_
  refine ev_iload (q_cod qk224 rfl) (by decide) rfl ?_
  refine ev_iload (q_cod qk224 rfl) (by decide) rfl ?_
  refine ev_isub (q_cod qk224 rfl) (by decide) ?_
  refine em_wI (q_cod qk224 rfl) (by decide) hf (fun hf => ?_)
  refine ev_aload_n (q_cod qk224 rfl) (by decide) rfl ?_
  refine em_gR (q_cod qk224 rfl) (by decide) (by decide) hf (fun r2 hf => ?_)
  refine ev_iload_n (q_cod qk224 rfl) (by decide) rfl ?_
  refine ev_iload (q_cod qk224 rfl) (by decide) rfl ?_
  refine ev_iadd (q_cod qk224 rfl) (by decide) ?_
  refine ev_bi (v := (-9)) (q_cod qk224 rfl) (by decide) (by decide) ?_
  refine em_wI (q_cod qk224 rfl) (by decide) hf (fun hf => ?_)
  refine ev_aload_n (q_cod qk224 rfl) (by decide) rfl ?_
  refine em_gR (q_cod qk224 rfl) (by decide) (by decide) hf (fun r3 hf => ?_)
  refine ev_iload_n (q_cod qk224 rfl) (by decide) rfl ?_
  refine ev_iload (q_cod qk224 rfl) (by decide) rfl ?_
  refine ev_iadd (q_cod qk224 rfl) (by decide) ?_
  refine ev_bi (v := (-9)) (q_cod qk224 rfl) (by decide) (by decide) ?_
  refine em_wI (q_cod qk224 rfl) (by decide) hf (fun hf => ?_)
  refine ev_inc (v := l5 + (-1)) (L' := [(0, .ref l0), (1, .int l1), (2, .int l2), (3, .int l3), (5, .int (l5 + (-1))), (6, .int l6)]) (q_cod qk224 rfl) (by decide) rfl rfl rfl ?_
  refine ev_goto (q_cod qk224 rfl) (by decide) ?_
  obtain rfl := m_R_inv hf
  exact ev_weak (q_pk [0, 1, 2, 3, 4] rfl) (show q_Ev none 224 22 [(0, .ref l0), (1, .int l1), (2, .int l2), (3, .int l3), (5, .int (l5 + (-1)))] [] _ o hz from hK)
def f224_36b (l0 : Nat) (l1 : Int32) (l2 : Int32) (l3 : Int32) (l5 : Int32) (l6 : Int32) (l7 : Int32) : m_M ((Nat × Int32 × Int32 × Int32 × Int32 × Int32 × Int32) ⊕ ((Nat × Int32 × Int32 × Int32 × Int32) ⊕ Unit)) :=
  m_B (m_aK l0 12) (fun _ => m_B (f222 l0 l1 l2 l5) (fun v2 => if l7 < v2 then (m_B (m_gR 12 l0 11) (fun r3 => m_B (m_wI r3 (l3 + l6) l5) (fun _ => m_B (m_gR 12 l0 10) (fun r4 => m_B (m_lI r4 (l3 + l6)) (fun v5 => m_R (.inl (l0, l1, l2, l3, l5, (l6 + v5), (l7 + 1)))))))) else (m_B (f224_80 l0 l1 l2 l3 l5 l6) (fun r => m_R (.inr r)))))
theorem f224_36b_ok {l0 : Nat} {l1 : Int32} {l2 : Int32} {l3 : Int32} {l5 : Int32} {l6 : Int32} {l7 : Int32} {h : q_H} {o : q_O} {hz : q_H} {x : ((Nat × Int32 × Int32 × Int32 × Int32 × Int32 × Int32) ⊕ ((Nat × Int32 × Int32 × Int32 × Int32) ⊕ Unit)) × q_H} (hf : f224_36b l0 l1 l2 l3 l5 l6 l7 h = some x) (hK : (m_yK (fun (s : Nat × Int32 × Int32 × Int32 × Int32 × Int32 × Int32) (h : q_H) => q_Ev none 224 36 [(0, .ref (s.1)), (1, .int (s.2.1)), (2, .int (s.2.2.1)), (3, .int (s.2.2.2.1)), (5, .int (s.2.2.2.2.1)), (6, .int (s.2.2.2.2.2.1)), (7, .int (s.2.2.2.2.2.2))] [] h o hz) (m_yK (fun (s : Nat × Int32 × Int32 × Int32 × Int32) (h : q_H) => q_Ev none 224 22 [(0, .ref (s.1)), (1, .int (s.2.1)), (2, .int (s.2.2.1)), (3, .int (s.2.2.2.1)), (5, .int (s.2.2.2.2))] [] h o hz) (m_KU o hz))) x) : q_Ev none 224 36 [(0, .ref l0), (1, .int l1), (2, .int l2), (3, .int l3), (5, .int l5), (6, .int l6), (7, .int l7)] [] h o hz := by
  unfold f224_36b at hf
  refine ev_iload (q_cod qk224 rfl) (by decide) rfl ?_
  refine ev_aload_n (q_cod qk224 rfl) (by decide) rfl ?_
  refine ev_iload_n (q_cod qk224 rfl) (by decide) rfl ?_
  refine ev_iload_n (q_cod qk224 rfl) (by decide) rfl ?_
  refine ev_iload (q_cod qk224 rfl) (by decide) rfl ?_
  obtain ⟨g1, hf⟩ := m_aK_some hf
  refine em_call (v := (fun u => some (.int u))) (q_cod qk224 rfl) rfl rfl (q_cokV rfl rfl (Or.inr g1)) rfl (fun x e => f222_cl e) hf (fun v2 h hf => ?_)
  refine em_ic_ge (q_cod qk224 rfl) (by decide) hf (fun c6 hf => ?_) (fun c6 hf => ?_)
  · refine ev_aload_n (q_cod qk224 rfl) (by decide) rfl ?_
    refine em_gR (q_cod qk224 rfl) (by decide) (by decide) hf (fun r3 hf => ?_)
    refine ev_iload_n (q_cod qk224 rfl) (by decide) rfl ?_
    refine ev_iload (q_cod qk224 rfl) (by decide) rfl ?_
    refine ev_iadd (q_cod qk224 rfl) (by decide) ?_
    refine ev_iload (q_cod qk224 rfl) (by decide) rfl ?_
    refine em_wI (q_cod qk224 rfl) (by decide) hf (fun hf => ?_)
    refine ev_iload (q_cod qk224 rfl) (by decide) rfl ?_
    refine ev_aload_n (q_cod qk224 rfl) (by decide) rfl ?_
    refine em_gR (q_cod qk224 rfl) (by decide) (by decide) hf (fun r4 hf => ?_)
    refine ev_iload_n (q_cod qk224 rfl) (by decide) rfl ?_
    refine ev_iload (q_cod qk224 rfl) (by decide) rfl ?_
    refine ev_iadd (q_cod qk224 rfl) (by decide) ?_
    refine em_lI (q_cod qk224 rfl) (by decide) hf (fun v5 hf => ?_)
    refine ev_iadd (q_cod qk224 rfl) (by decide) ?_
    refine ev_is2 (L' := [(0, .ref l0), (1, .int l1), (2, .int l2), (3, .int l3), (5, .int l5), (6, .int (l6 + v5)), (7, .int l7)]) (q_cod qk224 rfl) (by decide) rfl ?_
    refine ev_inc (v := l7 + 1) (L' := [(0, .ref l0), (1, .int l1), (2, .int l2), (3, .int l3), (5, .int l5), (6, .int (l6 + v5)), (7, .int (l7 + 1))]) (q_cod qk224 rfl) (by decide) rfl rfl rfl ?_
    refine ev_goto (q_cod qk224 rfl) (by decide) ?_
    obtain rfl := m_R_inv hf
    exact (show q_Ev none 224 36 [(0, .ref l0), (1, .int l1), (2, .int l2), (3, .int l3), (5, .int l5), (6, .int (l6 + v5)), (7, .int (l7 + 1))] [] _ o hz from hK)
  · obtain ⟨y0, hf0, hx⟩ := m_inr_some hf
    subst hx
    exact ev_weak (q_pk [0, 1, 2, 3, 4, 5] rfl) (f224_80_ok hf0 hK)
def f224_36 (l0 : Nat) (l1 : Int32) (l2 : Int32) (l3 : Int32) (l5 : Int32) (l6 : Int32) (l7 : Int32) : m_M ((Nat × Int32 × Int32 × Int32 × Int32) ⊕ Unit) := m_W (fun s => f224_36b (s.1) (s.2.1) (s.2.2.1) (s.2.2.2.1) (s.2.2.2.2.1) (s.2.2.2.2.2.1) (s.2.2.2.2.2.2)) 1000000 (l0, l1, l2, l3, l5, l6, l7)
theorem f224_36_ok {l0 : Nat} {l1 : Int32} {l2 : Int32} {l3 : Int32} {l5 : Int32} {l6 : Int32} {l7 : Int32} {h : q_H} {o : q_O} {hz : q_H} {x : ((Nat × Int32 × Int32 × Int32 × Int32) ⊕ Unit) × q_H} (hf : f224_36 l0 l1 l2 l3 l5 l6 l7 h = some x) (hK : (m_yK (fun (s : Nat × Int32 × Int32 × Int32 × Int32) (h : q_H) => q_Ev none 224 22 [(0, .ref (s.1)), (1, .int (s.2.1)), (2, .int (s.2.2.1)), (3, .int (s.2.2.2.1)), (5, .int (s.2.2.2.2))] [] h o hz) (m_KU o hz)) x) : q_Ev none 224 36 [(0, .ref l0), (1, .int l1), (2, .int l2), (3, .int l3), (5, .int l5), (6, .int l6), (7, .int l7)] [] h o hz :=
  m_W_ok (P := (fun (s : Nat × Int32 × Int32 × Int32 × Int32 × Int32 × Int32) (h : q_H) => q_Ev none 224 36 [(0, .ref (s.1)), (1, .int (s.2.1)), (2, .int (s.2.2.1)), (3, .int (s.2.2.2.1)), (5, .int (s.2.2.2.2.1)), (6, .int (s.2.2.2.2.2.1)), (7, .int (s.2.2.2.2.2.2))] [] h o hz)) (K := (m_yK (fun (s : Nat × Int32 × Int32 × Int32 × Int32) (h : q_H) => q_Ev none 224 22 [(0, .ref (s.1)), (1, .int (s.2.1)), (2, .int (s.2.2.1)), (3, .int (s.2.2.2.1)), (5, .int (s.2.2.2.2))] [] h o hz) (m_KU o hz))) (fun s h x h1 h2 => f224_36b_ok h1 h2) _ (l0, l1, l2, l3, l5, l6, l7) _ _ hf hK
def f224_22b (l0 : Nat) (l1 : Int32) (l2 : Int32) (l3 : Int32) (l5 : Int32) : m_M ((Nat × Int32 × Int32 × Int32 × Int32) ⊕ Unit) :=
  if l5 < 0 then (m_B (f224_122 l0 l3) (fun r => m_R (.inr r))) else (f224_36 l0 l1 l2 l3 l5 (l5 + 1) 0)
theorem f224_22b_ok {l0 : Nat} {l1 : Int32} {l2 : Int32} {l3 : Int32} {l5 : Int32} {h : q_H} {o : q_O} {hz : q_H} {x : ((Nat × Int32 × Int32 × Int32 × Int32) ⊕ Unit) × q_H} (hf : f224_22b l0 l1 l2 l3 l5 h = some x) (hK : (m_yK (fun (s : Nat × Int32 × Int32 × Int32 × Int32) (h : q_H) => q_Ev none 224 22 [(0, .ref (s.1)), (1, .int (s.2.1)), (2, .int (s.2.2.1)), (3, .int (s.2.2.2.1)), (5, .int (s.2.2.2.2))] [] h o hz) (m_KU o hz)) x) : q_Ev none 224 22 [(0, .ref l0), (1, .int l1), (2, .int l2), (3, .int l3), (5, .int l5)] [] h o hz := by
  unfold f224_22b at hf
  refine ev_iload (q_cod qk224 rfl) (by decide) rfl ?_
  refine em_if_lt (q_cod qk224 rfl) (by decide) hf (fun c1 hf => ?_) (fun c1 hf => ?_)
  · obtain ⟨y0, hf0, hx⟩ := m_inr_some hf
    subst hx
    exact ev_weak (q_pk [0, 3] rfl) (f224_122_ok hf0 hK)
  · refine ev_iload (q_cod qk224 rfl) (by decide) rfl ?_
    refine ev_ic (v := 1) (q_cod qk224 rfl) (by decide) (by decide) ?_
    refine ev_iadd (q_cod qk224 rfl) (by decide) ?_
    refine ev_is2 (L' := [(0, .ref l0), (1, .int l1), (2, .int l2), (3, .int l3), (5, .int l5), (6, .int (l5 + 1))]) (q_cod qk224 rfl) (by decide) rfl ?_
    refine ev_ic (v := 0) (q_cod qk224 rfl) (by decide) (by decide) ?_
    refine ev_is2 (L' := [(0, .ref l0), (1, .int l1), (2, .int l2), (3, .int l3), (5, .int l5), (6, .int (l5 + 1)), (7, .int 0)]) (q_cod qk224 rfl) (by decide) rfl ?_
    exact (f224_36_ok hf hK)
def f224_22 (l0 : Nat) (l1 : Int32) (l2 : Int32) (l3 : Int32) (l5 : Int32) : m_M Unit := m_W (fun s => f224_22b (s.1) (s.2.1) (s.2.2.1) (s.2.2.2.1) (s.2.2.2.2)) 1000000 (l0, l1, l2, l3, l5)
theorem f224_22_ok {l0 : Nat} {l1 : Int32} {l2 : Int32} {l3 : Int32} {l5 : Int32} {h : q_H} {o : q_O} {hz : q_H} {x : Unit × q_H} (hf : f224_22 l0 l1 l2 l3 l5 h = some x) (hK : (m_KU o hz) x) : q_Ev none 224 22 [(0, .ref l0), (1, .int l1), (2, .int l2), (3, .int l3), (5, .int l5)] [] h o hz :=
  m_W_ok (P := (fun (s : Nat × Int32 × Int32 × Int32 × Int32) (h : q_H) => q_Ev none 224 22 [(0, .ref (s.1)), (1, .int (s.2.1)), (2, .int (s.2.2.1)), (3, .int (s.2.2.2.1)), (5, .int (s.2.2.2.2))] [] h o hz)) (K := (m_KU o hz)) (fun s h x h1 h2 => f224_22b_ok h1 h2) _ (l0, l1, l2, l3, l5) _ _ hf hK
def f224 (l0 : Nat) (l1 : Int32) (l2 : Int32) : m_M Unit :=
  m_B (m_aK l0 12) (fun _ => m_B (f196 l0 l1 l2 9) (fun v2 => f224_22 l0 l1 l2 (192 * l2) (v2 - 1)))
theorem f224_ok {l0 : Nat} {l1 : Int32} {l2 : Int32} {h : q_H} {o : q_O} {hz : q_H} {x : Unit × q_H} (hf : f224 l0 l1 l2 h = some x) (hK : (m_KU o hz) x) : q_Ev none 224 0 [(0, .ref l0), (1, .int l1), (2, .int l2)] [] h o hz := by
  unfold f224 at hf
  refine ev_si (v := 192) (q_cod qk224 rfl) (by decide) (by decide) ?_
  refine ev_iload_n (q_cod qk224 rfl) (by decide) rfl ?_
  refine ev_imul (q_cod qk224 rfl) (by decide) ?_
  refine ev_is1 (L' := [(0, .ref l0), (1, .int l1), (2, .int l2), (3, .int (192 * l2))]) (q_cod qk224 rfl) (by decide) rfl ?_
  refine ev_aload_n (q_cod qk224 rfl) (by decide) rfl ?_
  refine ev_iload_n (q_cod qk224 rfl) (by decide) rfl ?_
  refine ev_iload_n (q_cod qk224 rfl) (by decide) rfl ?_
  refine ev_bi (v := 9) (q_cod qk224 rfl) (by decide) (by decide) ?_
  obtain ⟨g1, hf⟩ := m_aK_some hf
  refine em_call (v := (fun u => some (.int u))) (q_cod qk224 rfl) rfl rfl (q_cokV rfl rfl (Or.inr g1)) rfl (fun x e => f196_cl e) hf (fun v2 h hf => ?_)
  refine ev_is2 (L' := [(0, .ref l0), (1, .int l1), (2, .int l2), (3, .int (192 * l2)), (4, .int v2)]) (q_cod qk224 rfl) (by decide) rfl ?_
  refine ev_iload (q_cod qk224 rfl) (by decide) rfl ?_
  refine ev_ic (v := 1) (q_cod qk224 rfl) (by decide) (by decide) ?_
  refine ev_isub (q_cod qk224 rfl) (by decide) ?_
  refine ev_is2 (L' := [(0, .ref l0), (1, .int l1), (2, .int l2), (3, .int (192 * l2)), (4, .int v2), (5, .int (v2 - 1))]) (q_cod qk224 rfl) (by decide) rfl ?_
  exact ev_weak (q_pk [0, 1, 2, 3, 5] rfl) (f224_22_ok hf hK)
theorem f224_cl {l0 : Nat} {l1 : Int32} {l2 : Int32} {h : q_H} {x : Unit × q_H} (hf : f224 l0 l1 l2 h = some x) : q_Cl 224 [.ref l0, .int l1, .int l2] h (.inl none) x.2 := q_Cl.of rfl (q_LvS rfl rfl) (f224_ok hf ⟨rfl, rfl⟩)
/-! SmithyBenchModel.boundOf(IIII)I -/
theorem qk225 : q_cs.getD 225 [] = qc_225 := rfl
def f225_162 (s0 : Int32) : m_M Int32 :=
  m_R s0
theorem f225_162_ok {s0 : Int32} {h : q_H} {o : q_O} {hz : q_H} {x : Int32 × q_H} (hf : f225_162 s0 h = some x) (hK : (q_KI o hz) x) : q_Ev none 225 162 [] [.int s0] h o hz := by
  unfold f225_162 at hf
  obtain rfl := m_R_inv hf
  obtain ⟨rfl, rfl⟩ := (show q_KI o hz (s0, _) from hK)
  exact ev_ret (q_cod qk225 rfl) rfl
def f225_129 (l0 : Nat) (l1 : Int32) (l2 : Int32) (l4 : Int32) : m_M Int32 :=
  m_B (m_aK l0 12) (fun _ => m_B (f196 l0 l1 l2 1) (fun v2 => m_B (m_aK l0 12) (fun _ => m_B (f211 l0 l1 v2 l4) (fun v4 => if v4 = (-1) then (f225_162 (-9)) else (f225_162 (1000 + v4))))))
theorem f225_129_ok {l0 : Nat} {l1 : Int32} {l2 : Int32} {l4 : Int32} {h : q_H} {o : q_O} {hz : q_H} {x : Int32 × q_H} (hf : f225_129 l0 l1 l2 l4 h = some x) (hK : (q_KI o hz) x) : q_Ev none 225 129 [(0, .ref l0), (1, .int l1), (2, .int l2), (4, .int l4)] [] h o hz := by
  unfold f225_129 at hf
  refine ev_aload_n (q_cod qk225 rfl) (by decide) rfl ?_
  refine ev_iload_n (q_cod qk225 rfl) (by decide) rfl ?_
  refine ev_aload_n (q_cod qk225 rfl) (by decide) rfl ?_
  refine ev_iload_n (q_cod qk225 rfl) (by decide) rfl ?_
  refine ev_iload_n (q_cod qk225 rfl) (by decide) rfl ?_
  refine ev_ic (v := 1) (q_cod qk225 rfl) (by decide) (by decide) ?_
  obtain ⟨g1, hf⟩ := m_aK_some hf
  refine em_call (v := (fun u => some (.int u))) (q_cod qk225 rfl) rfl rfl (q_cokV rfl rfl (Or.inr g1)) rfl (fun x e => f196_cl e) hf (fun v2 h hf => ?_)
  refine ev_iload (q_cod qk225 rfl) (by decide) rfl ?_
  obtain ⟨g3, hf⟩ := m_aK_some hf
  refine em_call (v := (fun u => some (.int u))) (q_cod qk225 rfl) rfl rfl (q_cokV rfl rfl (Or.inr g3)) rfl (fun x e => f211_cl e) hf (fun v4 h hf => ?_)
  refine ev_is2 (L' := [(0, .ref l0), (1, .int l1), (2, .int l2), (4, .int l4), (8, .int v4)]) (q_cod qk225 rfl) (by decide) rfl ?_
  refine ev_iload (q_cod qk225 rfl) (by decide) rfl ?_
  refine ev_ic (v := (-1)) (q_cod qk225 rfl) (by decide) (by decide) ?_
  refine em_ic_ne (q_cod qk225 rfl) (by decide) hf (fun c5 hf => ?_) (fun c5 hf => ?_)
  · refine ev_bi (v := (-9)) (q_cod qk225 rfl) (by decide) (by decide) ?_
    refine ev_goto (q_cod qk225 rfl) (by decide) ?_
    exact ev_weak (q_pk [] rfl) (f225_162_ok hf hK)
  · refine ev_si (v := 1000) (q_cod qk225 rfl) (by decide) (by decide) ?_
    refine ev_iload (q_cod qk225 rfl) (by decide) rfl ?_
    refine ev_iadd (q_cod qk225 rfl) (by decide) ?_
    exact ev_weak (q_pk [] rfl) (f225_162_ok hf hK)
def f225_108 (l0 : Nat) (l1 : Int32) (l2 : Int32) (l4 : Int32) (l7 : Int32) : m_M Int32 :=
  if 1 < l7 then (m_B (m_aK l0 12) (fun _ => m_B (f196 l0 l1 l2 5) (fun v2 => if v2 = l4 then (m_R (-2)) else (f225_129 l0 l1 l2 l4)))) else (f225_129 l0 l1 l2 l4)
theorem f225_108_ok {l0 : Nat} {l1 : Int32} {l2 : Int32} {l4 : Int32} {l7 : Int32} {h : q_H} {o : q_O} {hz : q_H} {x : Int32 × q_H} (hf : f225_108 l0 l1 l2 l4 l7 h = some x) (hK : (q_KI o hz) x) : q_Ev none 225 108 [(0, .ref l0), (1, .int l1), (2, .int l2), (4, .int l4), (7, .int l7)] [] h o hz := by
  unfold f225_108 at hf
  refine ev_iload (q_cod qk225 rfl) (by decide) rfl ?_
  refine ev_ic (v := 1) (q_cod qk225 rfl) (by decide) (by decide) ?_
  refine em_ic_le (q_cod qk225 rfl) (by decide) hf (fun c4 hf => ?_) (fun c4 hf => ?_)
  · refine ev_aload_n (q_cod qk225 rfl) (by decide) rfl ?_
    refine ev_iload_n (q_cod qk225 rfl) (by decide) rfl ?_
    refine ev_iload_n (q_cod qk225 rfl) (by decide) rfl ?_
    refine ev_ic (v := 5) (q_cod qk225 rfl) (by decide) (by decide) ?_
    obtain ⟨g1, hf⟩ := m_aK_some hf
    refine em_call (v := (fun u => some (.int u))) (q_cod qk225 rfl) rfl rfl (q_cokV rfl rfl (Or.inr g1)) rfl (fun x e => f196_cl e) hf (fun v2 h hf => ?_)
    refine ev_iload (q_cod qk225 rfl) (by decide) rfl ?_
    refine em_ic_ne (q_cod qk225 rfl) (by decide) hf (fun c3 hf => ?_) (fun c3 hf => ?_)
    · refine ev_bi (v := (-2)) (q_cod qk225 rfl) (by decide) (by decide) ?_
      obtain rfl := m_R_inv hf
      obtain ⟨rfl, rfl⟩ := (show q_KI o hz ((-2), _) from hK)
      exact ev_ret (q_cod qk225 rfl) rfl
    · exact ev_weak (q_pk [0, 1, 2, 3] rfl) (f225_129_ok hf hK)
  · exact ev_weak (q_pk [0, 1, 2, 3] rfl) (f225_129_ok hf hK)
def f225_80 (l0 : Nat) (l1 : Int32) (l2 : Int32) (l4 : Int32) : m_M Int32 :=
  m_B (m_aK l0 12) (fun _ => m_B (f196 l0 l1 l2 3) (fun v2 => if 0 < v2 then (m_B (m_aK l0 12) (fun _ => m_B (f196 l0 l1 l2 4) (fun v4 => if v4 = l4 then (m_R (-1)) else (f225_108 l0 l1 l2 l4 v2)))) else (f225_108 l0 l1 l2 l4 v2)))
theorem f225_80_ok {l0 : Nat} {l1 : Int32} {l2 : Int32} {l4 : Int32} {h : q_H} {o : q_O} {hz : q_H} {x : Int32 × q_H} (hf : f225_80 l0 l1 l2 l4 h = some x) (hK : (q_KI o hz) x) : q_Ev none 225 80 [(0, .ref l0), (1, .int l1), (2, .int l2), (4, .int l4)] [] h o hz := by
  unfold f225_80 at hf
  refine ev_aload_n (q_cod qk225 rfl) (by decide) rfl ?_
  refine ev_iload_n (q_cod qk225 rfl) (by decide) rfl ?_
  refine ev_iload_n (q_cod qk225 rfl) (by decide) rfl ?_
  refine ev_ic (v := 3) (q_cod qk225 rfl) (by decide) (by decide) ?_
  obtain ⟨g1, hf⟩ := m_aK_some hf
  refine em_call (v := (fun u => some (.int u))) (q_cod qk225 rfl) rfl rfl (q_cokV rfl rfl (Or.inr g1)) rfl (fun x e => f196_cl e) hf (fun v2 h hf => ?_)
  refine ev_is2 (L' := [(0, .ref l0), (1, .int l1), (2, .int l2), (4, .int l4), (7, .int v2)]) (q_cod qk225 rfl) (by decide) rfl ?_
  refine ev_iload (q_cod qk225 rfl) (by decide) rfl ?_
  refine em_if_le (q_cod qk225 rfl) (by decide) hf (fun c6 hf => ?_) (fun c6 hf => ?_)
  · refine ev_aload_n (q_cod qk225 rfl) (by decide) rfl ?_
    refine ev_iload_n (q_cod qk225 rfl) (by decide) rfl ?_
    refine ev_iload_n (q_cod qk225 rfl) (by decide) rfl ?_
    refine ev_ic (v := 4) (q_cod qk225 rfl) (by decide) (by decide) ?_
    obtain ⟨g3, hf⟩ := m_aK_some hf
    refine em_call (v := (fun u => some (.int u))) (q_cod qk225 rfl) rfl rfl (q_cokV rfl rfl (Or.inr g3)) rfl (fun x e => f196_cl e) hf (fun v4 h hf => ?_)
    refine ev_iload (q_cod qk225 rfl) (by decide) rfl ?_
    refine em_ic_ne (q_cod qk225 rfl) (by decide) hf (fun c5 hf => ?_) (fun c5 hf => ?_)
    · refine ev_ic (v := (-1)) (q_cod qk225 rfl) (by decide) (by decide) ?_
      obtain rfl := m_R_inv hf
      obtain ⟨rfl, rfl⟩ := (show q_KI o hz ((-1), _) from hK)
      exact ev_ret (q_cod qk225 rfl) rfl
    · exact (f225_108_ok hf hK)
  · exact (f225_108_ok hf hK)
def f225_73 (l0 : Nat) (l1 : Int32) (l2 : Int32) (l4 : Int32) (l5 : Int32) (l7 : Int32) : m_M ((Nat × Int32 × Int32 × Int32 × Int32 × Int32) ⊕ Int32) :=
  m_R (.inl (l0, l1, l2, l4, l5, l7))
theorem f225_73_ok {l0 : Nat} {l1 : Int32} {l2 : Int32} {l4 : Int32} {l5 : Int32} {l7 : Int32} {h : q_H} {o : q_O} {hz : q_H} {x : ((Nat × Int32 × Int32 × Int32 × Int32 × Int32) ⊕ Int32) × q_H} (hf : f225_73 l0 l1 l2 l4 l5 l7 h = some x) (hK : (m_yK (fun (s : Nat × Int32 × Int32 × Int32 × Int32 × Int32) (h : q_H) => q_Ev none 225 10 [(0, .ref (s.1)), (1, .int (s.2.1)), (2, .int (s.2.2.1)), (4, .int (s.2.2.2.1)), (5, .int (s.2.2.2.2.1)), (6, .int (s.2.2.2.2.2))] [] h o hz) (q_KI o hz)) x) : q_Ev none 225 73 [(0, .ref l0), (1, .int l1), (2, .int l2), (4, .int l4), (5, .int l5), (7, .int l7)] [] h o hz := by
  unfold f225_73 at hf
  refine ev_iload (q_cod qk225 rfl) (by decide) rfl ?_
  refine ev_is2 (L' := [(0, .ref l0), (1, .int l1), (2, .int l2), (4, .int l4), (5, .int l5), (6, .int l7), (7, .int l7)]) (q_cod qk225 rfl) (by decide) rfl ?_
  refine ev_goto (q_cod qk225 rfl) (by decide) ?_
  obtain rfl := m_R_inv hf
  exact ev_weak (q_pk [0, 1, 2, 3, 4, 5] rfl) (show q_Ev none 225 10 [(0, .ref l0), (1, .int l1), (2, .int l2), (4, .int l4), (5, .int l5), (6, .int l7)] [] _ o hz from hK)
def f225_70 (l7 : Int32) : m_M Int32 :=
  m_R l7
theorem f225_70_ok {l7 : Int32} {h : q_H} {o : q_O} {hz : q_H} {x : Int32 × q_H} (hf : f225_70 l7 h = some x) (hK : (q_KI o hz) x) : q_Ev none 225 70 [(7, .int l7)] [] h o hz := by
  unfold f225_70 at hf
  refine ev_iload (q_cod qk225 rfl) (by decide) rfl ?_
  obtain rfl := m_R_inv hf
  obtain ⟨rfl, rfl⟩ := (show q_KI o hz (l7, _) from hK)
  exact ev_ret (q_cod qk225 rfl) rfl
def f225_10b (l0 : Nat) (l1 : Int32) (l2 : Int32) (l4 : Int32) (l5 : Int32) (l6 : Int32) : m_M ((Nat × Int32 × Int32 × Int32 × Int32 × Int32) ⊕ Int32) :=
  m_B (m_gR 12 l0 11) (fun r1 => m_B (m_lI r1 (l5 + l6)) (fun v2 => if v2 = (-1) then (m_B (f225_80 l0 l1 l2 l4) (fun r => m_R (.inr r))) else (m_B (m_gR 12 l0 11) (fun r3 => m_B (m_lI r3 (l5 + l6)) (fun v4 => m_B (m_aK l0 12) (fun _ => m_B (f199 l0 l1 l2 v4) (fun v6 => if v6 = 5 then (m_B (m_aK l0 12) (fun _ => m_B (f200 l0 l1 l2 v4) (fun v8 => if v8 = l4 then (if l6 = (v4 + 1) then (f225_73 l0 l1 l2 l4 l5 v4) else (m_B (f225_70 v4) (fun r => m_R (.inr r)))) else (f225_73 l0 l1 l2 l4 l5 v4)))) else (f225_73 l0 l1 l2 l4 l5 v4))))))))
theorem f225_10b_ok {l0 : Nat} {l1 : Int32} {l2 : Int32} {l4 : Int32} {l5 : Int32} {l6 : Int32} {h : q_H} {o : q_O} {hz : q_H} {x : ((Nat × Int32 × Int32 × Int32 × Int32 × Int32) ⊕ Int32) × q_H} (hf : f225_10b l0 l1 l2 l4 l5 l6 h = some x) (hK : (m_yK (fun (s : Nat × Int32 × Int32 × Int32 × Int32 × Int32) (h : q_H) => q_Ev none 225 10 [(0, .ref (s.1)), (1, .int (s.2.1)), (2, .int (s.2.2.1)), (4, .int (s.2.2.2.1)), (5, .int (s.2.2.2.2.1)), (6, .int (s.2.2.2.2.2))] [] h o hz) (q_KI o hz)) x) : q_Ev none 225 10 [(0, .ref l0), (1, .int l1), (2, .int l2), (4, .int l4), (5, .int l5), (6, .int l6)] [] h o hz := by
  unfold f225_10b at hf
  refine ev_aload_n (q_cod qk225 rfl) (by decide) rfl ?_
  refine em_gR (q_cod qk225 rfl) (by decide) (by decide) hf (fun r1 hf => ?_)
  refine ev_iload (q_cod qk225 rfl) (by decide) rfl ?_
  refine ev_iload (q_cod qk225 rfl) (by decide) rfl ?_
  refine ev_iadd (q_cod qk225 rfl) (by decide) ?_
  refine em_lI (q_cod qk225 rfl) (by decide) hf (fun v2 hf => ?_)
  refine ev_ic (v := (-1)) (q_cod qk225 rfl) (by decide) (by decide) ?_
  refine em_ic_eq (q_cod qk225 rfl) (by decide) hf (fun c12 hf => ?_) (fun c12 hf => ?_)
  · obtain ⟨y0, hf0, hx⟩ := m_inr_some hf
    subst hx
    exact ev_weak (q_pk [0, 1, 2, 3] rfl) (f225_80_ok hf0 hK)
  · refine ev_aload_n (q_cod qk225 rfl) (by decide) rfl ?_
    refine em_gR (q_cod qk225 rfl) (by decide) (by decide) hf (fun r3 hf => ?_)
    refine ev_iload (q_cod qk225 rfl) (by decide) rfl ?_
    refine ev_iload (q_cod qk225 rfl) (by decide) rfl ?_
    refine ev_iadd (q_cod qk225 rfl) (by decide) ?_
    refine em_lI (q_cod qk225 rfl) (by decide) hf (fun v4 hf => ?_)
    refine ev_is2 (L' := [(0, .ref l0), (1, .int l1), (2, .int l2), (4, .int l4), (5, .int l5), (6, .int l6), (7, .int v4)]) (q_cod qk225 rfl) (by decide) rfl ?_
    refine ev_aload_n (q_cod qk225 rfl) (by decide) rfl ?_
    refine ev_iload_n (q_cod qk225 rfl) (by decide) rfl ?_
    refine ev_iload_n (q_cod qk225 rfl) (by decide) rfl ?_
    refine ev_iload (q_cod qk225 rfl) (by decide) rfl ?_
    obtain ⟨g5, hf⟩ := m_aK_some hf
    refine em_call (v := (fun u => some (.int u))) (q_cod qk225 rfl) rfl rfl (q_cokV rfl rfl (Or.inr g5)) rfl (fun x e => f199_cl e) hf (fun v6 h hf => ?_)
    refine ev_ic (v := 5) (q_cod qk225 rfl) (by decide) (by decide) ?_
    refine em_ic_ne (q_cod qk225 rfl) (by decide) hf (fun c11 hf => ?_) (fun c11 hf => ?_)
    · refine ev_aload_n (q_cod qk225 rfl) (by decide) rfl ?_
      refine ev_iload_n (q_cod qk225 rfl) (by decide) rfl ?_
      refine ev_iload_n (q_cod qk225 rfl) (by decide) rfl ?_
      refine ev_iload (q_cod qk225 rfl) (by decide) rfl ?_
      obtain ⟨g7, hf⟩ := m_aK_some hf
      refine em_call (v := (fun u => some (.int u))) (q_cod qk225 rfl) rfl rfl (q_cokV rfl rfl (Or.inr g7)) rfl (fun x e => f200_cl e) hf (fun v8 h hf => ?_)
      refine ev_iload (q_cod qk225 rfl) (by decide) rfl ?_
      refine em_ic_ne (q_cod qk225 rfl) (by decide) hf (fun c10 hf => ?_) (fun c10 hf => ?_)
      · refine ev_iload (q_cod qk225 rfl) (by decide) rfl ?_
        refine ev_iload (q_cod qk225 rfl) (by decide) rfl ?_
        refine ev_ic (v := 1) (q_cod qk225 rfl) (by decide) (by decide) ?_
        refine ev_iadd (q_cod qk225 rfl) (by decide) ?_
        refine em_ic_eq (q_cod qk225 rfl) (by decide) hf (fun c9 hf => ?_) (fun c9 hf => ?_)
        · exact ev_weak (q_pk [0, 1, 2, 3, 4, 6] rfl) (f225_73_ok hf hK)
        · obtain ⟨y0, hf0, hx⟩ := m_inr_some hf
          subst hx
          exact ev_weak (q_pk [6] rfl) (f225_70_ok hf0 hK)
      · exact ev_weak (q_pk [0, 1, 2, 3, 4, 6] rfl) (f225_73_ok hf hK)
    · exact ev_weak (q_pk [0, 1, 2, 3, 4, 6] rfl) (f225_73_ok hf hK)
def f225_10 (l0 : Nat) (l1 : Int32) (l2 : Int32) (l4 : Int32) (l5 : Int32) (l6 : Int32) : m_M Int32 := m_W (fun s => f225_10b (s.1) (s.2.1) (s.2.2.1) (s.2.2.2.1) (s.2.2.2.2.1) (s.2.2.2.2.2)) 1000000 (l0, l1, l2, l4, l5, l6)
theorem f225_10_ok {l0 : Nat} {l1 : Int32} {l2 : Int32} {l4 : Int32} {l5 : Int32} {l6 : Int32} {h : q_H} {o : q_O} {hz : q_H} {x : Int32 × q_H} (hf : f225_10 l0 l1 l2 l4 l5 l6 h = some x) (hK : (q_KI o hz) x) : q_Ev none 225 10 [(0, .ref l0), (1, .int l1), (2, .int l2), (4, .int l4), (5, .int l5), (6, .int l6)] [] h o hz :=
  m_W_ok (P := (fun (s : Nat × Int32 × Int32 × Int32 × Int32 × Int32) (h : q_H) => q_Ev none 225 10 [(0, .ref (s.1)), (1, .int (s.2.1)), (2, .int (s.2.2.1)), (4, .int (s.2.2.2.1)), (5, .int (s.2.2.2.2.1)), (6, .int (s.2.2.2.2.2))] [] h o hz)) (K := (q_KI o hz)) (fun s h x h1 h2 => f225_10b_ok h1 h2) _ (l0, l1, l2, l4, l5, l6) _ _ hf hK
def f225 (l0 : Nat) (l1 : Int32) (l2 : Int32) (l3 : Int32) (l4 : Int32) : m_M Int32 :=
  f225_10 l0 l1 l2 l4 (192 * l2) l3
theorem f225_ok {l0 : Nat} {l1 : Int32} {l2 : Int32} {l3 : Int32} {l4 : Int32} {h : q_H} {o : q_O} {hz : q_H} {x : Int32 × q_H} (hf : f225 l0 l1 l2 l3 l4 h = some x) (hK : (q_KI o hz) x) : q_Ev none 225 0 [(0, .ref l0), (1, .int l1), (2, .int l2), (3, .int l3), (4, .int l4)] [] h o hz := by
  unfold f225 at hf
  refine ev_si (v := 192) (q_cod qk225 rfl) (by decide) (by decide) ?_
  refine ev_iload_n (q_cod qk225 rfl) (by decide) rfl ?_
  refine ev_imul (q_cod qk225 rfl) (by decide) ?_
  refine ev_is2 (L' := [(0, .ref l0), (1, .int l1), (2, .int l2), (3, .int l3), (4, .int l4), (5, .int (192 * l2))]) (q_cod qk225 rfl) (by decide) rfl ?_
  refine ev_iload_n (q_cod qk225 rfl) (by decide) rfl ?_
  refine ev_is2 (L' := [(0, .ref l0), (1, .int l1), (2, .int l2), (3, .int l3), (4, .int l4), (5, .int (192 * l2)), (6, .int l3)]) (q_cod qk225 rfl) (by decide) rfl ?_
  exact ev_weak (q_pk [0, 1, 2, 4, 5, 6] rfl) (f225_10_ok hf hK)
theorem f225_cl {l0 : Nat} {l1 : Int32} {l2 : Int32} {l3 : Int32} {l4 : Int32} {h : q_H} {x : Int32 × q_H} (hf : f225 l0 l1 l2 l3 l4 h = some x) : q_Cl 225 [.ref l0, .int l1, .int l2, .int l3, .int l4] h (.inl (some (.int x.1))) x.2 := q_Cl.of rfl (q_LvS rfl rfl) (f225_ok hf ⟨rfl, rfl⟩)
/-! SmithyBenchModel.typeOfBound(IIII)I -/
theorem qk226 : q_cs.getD 226 [] = qc_226 := rfl
def f226_61 (s0 : Int32) : m_M Int32 :=
  m_R s0
theorem f226_61_ok {s0 : Int32} {h : q_H} {o : q_O} {hz : q_H} {x : Int32 × q_H} (hf : f226_61 s0 h = some x) (hK : (q_KI o hz) x) : q_Ev none 226 61 [] [.int s0] h o hz := by
  unfold f226_61 at hf
  obtain rfl := m_R_inv hf
  obtain ⟨rfl, rfl⟩ := (show q_KI o hz (s0, _) from hK)
  exact ev_ret (q_cod qk226 rfl) rfl
def f226 (l0 : Nat) (l1 : Int32) (l2 : Int32) (l3 : Int32) (l4 : Int32) : m_M Int32 :=
  if l3 = (-9) then (m_R (-3)) else (if l3 < 1000 then (if l3 < 0 then (m_B (m_aK l0 12) (fun _ => m_B (f196 l0 l1 l2 (5 - l3)) (fun v2 => f226_61 v2))) else (m_B (m_gR 12 l0 12) (fun r3 => m_B (m_lI r3 (((192 * l2) + l3) + 1)) (fun v4 => f226_61 v4)))) else (m_B (m_aK l0 12) (fun _ => m_B (f210 l0 l1 (l3 - 1000) l4) (fun v7 => m_R (v7 - 2)))))
theorem f226_ok {l0 : Nat} {l1 : Int32} {l2 : Int32} {l3 : Int32} {l4 : Int32} {h : q_H} {o : q_O} {hz : q_H} {x : Int32 × q_H} (hf : f226 l0 l1 l2 l3 l4 h = some x) (hK : (q_KI o hz) x) : q_Ev none 226 0 [(0, .ref l0), (1, .int l1), (2, .int l2), (3, .int l3), (4, .int l4)] [] h o hz := by
  unfold f226 at hf
  refine ev_iload_n (q_cod qk226 rfl) (by decide) rfl ?_
  refine ev_bi (v := (-9)) (q_cod qk226 rfl) (by decide) (by decide) ?_
  refine em_ic_ne (q_cod qk226 rfl) (by decide) hf (fun c9 hf => ?_) (fun c9 hf => ?_)
  · refine ev_bi (v := (-3)) (q_cod qk226 rfl) (by decide) (by decide) ?_
    obtain rfl := m_R_inv hf
    obtain ⟨rfl, rfl⟩ := (show q_KI o hz ((-3), _) from hK)
    exact ev_ret (q_cod qk226 rfl) rfl
  · refine ev_iload_n (q_cod qk226 rfl) (by decide) rfl ?_
    refine ev_si (v := 1000) (q_cod qk226 rfl) (by decide) (by decide) ?_
    refine em_ic_lt (q_cod qk226 rfl) (by decide) hf (fun c8 hf => ?_) (fun c8 hf => ?_)
    · refine ev_iload_n (q_cod qk226 rfl) (by decide) rfl ?_
      refine em_if_ge (q_cod qk226 rfl) (by decide) hf (fun c5 hf => ?_) (fun c5 hf => ?_)
      · refine ev_aload_n (q_cod qk226 rfl) (by decide) rfl ?_
        refine ev_iload_n (q_cod qk226 rfl) (by decide) rfl ?_
        refine ev_iload_n (q_cod qk226 rfl) (by decide) rfl ?_
        refine ev_ic (v := 5) (q_cod qk226 rfl) (by decide) (by decide) ?_
        refine ev_iload_n (q_cod qk226 rfl) (by decide) rfl ?_
        refine ev_isub (q_cod qk226 rfl) (by decide) ?_
        obtain ⟨g1, hf⟩ := m_aK_some hf
        refine em_call (v := (fun u => some (.int u))) (q_cod qk226 rfl) rfl rfl (q_cokV rfl rfl (Or.inr g1)) rfl (fun x e => f196_cl e) hf (fun v2 h hf => ?_)
        refine ev_goto (q_cod qk226 rfl) (by decide) ?_
        exact ev_weak (q_pk [] rfl) (f226_61_ok hf hK)
      · refine ev_aload_n (q_cod qk226 rfl) (by decide) rfl ?_
        refine em_gR (q_cod qk226 rfl) (by decide) (by decide) hf (fun r3 hf => ?_)
        refine ev_si (v := 192) (q_cod qk226 rfl) (by decide) (by decide) ?_
        refine ev_iload_n (q_cod qk226 rfl) (by decide) rfl ?_
        refine ev_imul (q_cod qk226 rfl) (by decide) ?_
        refine ev_iload_n (q_cod qk226 rfl) (by decide) rfl ?_
        refine ev_iadd (q_cod qk226 rfl) (by decide) ?_
        refine ev_ic (v := 1) (q_cod qk226 rfl) (by decide) (by decide) ?_
        refine ev_iadd (q_cod qk226 rfl) (by decide) ?_
        refine em_lI (q_cod qk226 rfl) (by decide) hf (fun v4 hf => ?_)
        exact ev_weak (q_pk [] rfl) (f226_61_ok hf hK)
    · refine ev_aload_n (q_cod qk226 rfl) (by decide) rfl ?_
      refine ev_iload_n (q_cod qk226 rfl) (by decide) rfl ?_
      refine ev_iload_n (q_cod qk226 rfl) (by decide) rfl ?_
      refine ev_si (v := 1000) (q_cod qk226 rfl) (by decide) (by decide) ?_
      refine ev_isub (q_cod qk226 rfl) (by decide) ?_
      refine ev_iload (q_cod qk226 rfl) (by decide) rfl ?_
      obtain ⟨g6, hf⟩ := m_aK_some hf
      refine em_call (v := (fun u => some (.int u))) (q_cod qk226 rfl) rfl rfl (q_cokV rfl rfl (Or.inr g6)) rfl (fun x e => f210_cl e) hf (fun v7 h hf => ?_)
      refine ev_ic (v := 2) (q_cod qk226 rfl) (by decide) (by decide) ?_
      refine ev_isub (q_cod qk226 rfl) (by decide) ?_
      obtain rfl := m_R_inv hf
      obtain ⟨rfl, rfl⟩ := (show q_KI o hz ((v7 - 2), _) from hK)
      exact ev_ret (q_cod qk226 rfl) rfl
theorem f226_cl {l0 : Nat} {l1 : Int32} {l2 : Int32} {l3 : Int32} {l4 : Int32} {h : q_H} {x : Int32 × q_H} (hf : f226 l0 l1 l2 l3 l4 h = some x) : q_Cl 226 [.ref l0, .int l1, .int l2, .int l3, .int l4] h (.inl (some (.int x.1))) x.2 := q_Cl.of rfl (q_LvS rfl rfl) (f226_ok hf ⟨rfl, rfl⟩)
/-! SmithyBenchModel.fits(III)Z -/
theorem qk227 : q_cs.getD 227 [] = qc_227 := rfl
def f227_34 (s0 : Int32) : m_M Int32 :=
  m_B (m_G (s0 = 0 ∨ s0 = 1)) (fun _ => m_R s0)
theorem f227_34_ok {s0 : Int32} {h : q_H} {o : q_O} {hz : q_H} {x : Int32 × q_H} (hf : f227_34 s0 h = some x) (hK : (q_KI o hz) x) : q_Ev none 227 34 [] [.int s0] h o hz := by
  unfold f227_34 at hf
  obtain ⟨g1, hf⟩ := m_G_some hf
  obtain rfl := m_R_inv hf
  obtain ⟨rfl, rfl⟩ := (show q_KI o hz (s0, _) from hK)
  exact ev_ret (q_cod qk227 rfl) (q_retZ g1)
def f227_29  : m_M Int32 :=
  f227_34 1
theorem f227_29_ok  {h : q_H} {o : q_O} {hz : q_H} {x : Int32 × q_H} (hf : f227_29 h = some x) (hK : (q_KI o hz) x) : q_Ev none 227 29 [] [] h o hz := by
  unfold f227_29 at hf
  refine ev_ic (v := 1) (q_cod qk227 rfl) (by decide) (by decide) ?_
  refine ev_goto (q_cod qk227 rfl) (by decide) ?_
  exact (f227_34_ok hf hK)
def f227_33  : m_M Int32 :=
  f227_34 0
theorem f227_33_ok  {h : q_H} {o : q_O} {hz : q_H} {x : Int32 × q_H} (hf : f227_33 h = some x) (hK : (q_KI o hz) x) : q_Ev none 227 33 [] [] h o hz := by
  unfold f227_33 at hf
  refine ev_ic (v := 0) (q_cod qk227 rfl) (by decide) (by decide) ?_
  exact (f227_34_ok hf hK)
def f227 (l0 : Nat) (l1 : Int32) (l2 : Int32) (l3 : Int32) : m_M Int32 :=
  if l2 = (-2) then (f227_29) else (if l2 = l3 then (f227_29) else (if l2 < 0 then (f227_33) else (if l3 < 0 then (f227_33) else (m_B (m_aK l0 12) (fun _ => m_B (f208 l0 l1 l2 l3) (fun v2 => if v2 = 0 then (f227_33) else (f227_29)))))))
theorem f227_ok {l0 : Nat} {l1 : Int32} {l2 : Int32} {l3 : Int32} {h : q_H} {o : q_O} {hz : q_H} {x : Int32 × q_H} (hf : f227 l0 l1 l2 l3 h = some x) (hK : (q_KI o hz) x) : q_Ev none 227 0 [(0, .ref l0), (1, .int l1), (2, .int l2), (3, .int l3)] [] h o hz := by
  unfold f227 at hf
  refine ev_iload_n (q_cod qk227 rfl) (by decide) rfl ?_
  refine ev_bi (v := (-2)) (q_cod qk227 rfl) (by decide) (by decide) ?_
  refine em_ic_eq (q_cod qk227 rfl) (by decide) hf (fun c7 hf => ?_) (fun c7 hf => ?_)
  · exact ev_weak (q_pk [] rfl) (f227_29_ok hf hK)
  · refine ev_iload_n (q_cod qk227 rfl) (by decide) rfl ?_
    refine ev_iload_n (q_cod qk227 rfl) (by decide) rfl ?_
    refine em_ic_eq (q_cod qk227 rfl) (by decide) hf (fun c6 hf => ?_) (fun c6 hf => ?_)
    · exact ev_weak (q_pk [] rfl) (f227_29_ok hf hK)
    · refine ev_iload_n (q_cod qk227 rfl) (by decide) rfl ?_
      refine em_if_lt (q_cod qk227 rfl) (by decide) hf (fun c5 hf => ?_) (fun c5 hf => ?_)
      · exact ev_weak (q_pk [] rfl) (f227_33_ok hf hK)
      · refine ev_iload_n (q_cod qk227 rfl) (by decide) rfl ?_
        refine em_if_lt (q_cod qk227 rfl) (by decide) hf (fun c4 hf => ?_) (fun c4 hf => ?_)
        · exact ev_weak (q_pk [] rfl) (f227_33_ok hf hK)
        · refine ev_aload_n (q_cod qk227 rfl) (by decide) rfl ?_
          refine ev_iload_n (q_cod qk227 rfl) (by decide) rfl ?_
          refine ev_iload_n (q_cod qk227 rfl) (by decide) rfl ?_
          refine ev_iload_n (q_cod qk227 rfl) (by decide) rfl ?_
          obtain ⟨g1, hf⟩ := m_aK_some hf
          refine em_call (v := (fun u => some (.int u))) (q_cod qk227 rfl) rfl rfl (q_cokV rfl rfl (Or.inr g1)) rfl (fun x e => f208_cl e) hf (fun v2 h hf => ?_)
          refine em_if_eq (q_cod qk227 rfl) (by decide) hf (fun c3 hf => ?_) (fun c3 hf => ?_)
          · exact ev_weak (q_pk [] rfl) (f227_33_ok hf hK)
          · exact ev_weak (q_pk [] rfl) (f227_29_ok hf hK)
theorem f227_cl {l0 : Nat} {l1 : Int32} {l2 : Int32} {l3 : Int32} {h : q_H} {x : Int32 × q_H} (hf : f227 l0 l1 l2 l3 h = some x) : q_Cl 227 [.ref l0, .int l1, .int l2, .int l3] h (.inl (some (.int x.1))) x.2 := q_Cl.of rfl (q_LvS rfl rfl) (f227_ok hf ⟨rfl, rfl⟩)
/-! SmithyBenchModel.joined(III)I -/
theorem qk230 : q_cs.getD 230 [] = qc_230 := rfl
def f230_30 (s0 : Int32) : m_M Int32 :=
  m_R s0
theorem f230_30_ok {s0 : Int32} {h : q_H} {o : q_O} {hz : q_H} {x : Int32 × q_H} (hf : f230_30 s0 h = some x) (hK : (q_KI o hz) x) : q_Ev none 230 30 [] [.int s0] h o hz := by
  unfold f230_30 at hf
  obtain rfl := m_R_inv hf
  obtain ⟨rfl, rfl⟩ := (show q_KI o hz (s0, _) from hK)
  exact ev_ret (q_cod qk230 rfl) rfl
def f230 (l0 : Nat) (l1 : Int32) (l2 : Int32) (l3 : Int32) : m_M Int32 :=
  m_B (m_aK l0 12) (fun _ => m_B (f227 l0 l1 l3 l2) (fun v2 => if v2 = 0 then (m_B (m_aK l0 12) (fun _ => m_B (f227 l0 l1 l2 l3) (fun v4 => if v4 = 0 then (f230_30 (-3)) else (f230_30 l3)))) else (f230_30 l2)))
theorem f230_ok {l0 : Nat} {l1 : Int32} {l2 : Int32} {l3 : Int32} {h : q_H} {o : q_O} {hz : q_H} {x : Int32 × q_H} (hf : f230 l0 l1 l2 l3 h = some x) (hK : (q_KI o hz) x) : q_Ev none 230 0 [(0, .ref l0), (1, .int l1), (2, .int l2), (3, .int l3)] [] h o hz := by
  unfold f230 at hf
  refine ev_aload_n (q_cod qk230 rfl) (by decide) rfl ?_
  refine ev_iload_n (q_cod qk230 rfl) (by decide) rfl ?_
  refine ev_iload_n (q_cod qk230 rfl) (by decide) rfl ?_
  refine ev_iload_n (q_cod qk230 rfl) (by decide) rfl ?_
  obtain ⟨g1, hf⟩ := m_aK_some hf
  refine em_call (v := (fun u => some (.int u))) (q_cod qk230 rfl) rfl rfl (q_cokV rfl rfl (Or.inr g1)) rfl (fun x e => f227_cl e) hf (fun v2 h hf => ?_)
  refine em_if_eq (q_cod qk230 rfl) (by decide) hf (fun c6 hf => ?_) (fun c6 hf => ?_)
  · refine ev_aload_n (q_cod qk230 rfl) (by decide) rfl ?_
    refine ev_iload_n (q_cod qk230 rfl) (by decide) rfl ?_
    refine ev_iload_n (q_cod qk230 rfl) (by decide) rfl ?_
    refine ev_iload_n (q_cod qk230 rfl) (by decide) rfl ?_
    obtain ⟨g3, hf⟩ := m_aK_some hf
    refine em_call (v := (fun u => some (.int u))) (q_cod qk230 rfl) rfl rfl (q_cokV rfl rfl (Or.inr g3)) rfl (fun x e => f227_cl e) hf (fun v4 h hf => ?_)
    refine em_if_eq (q_cod qk230 rfl) (by decide) hf (fun c5 hf => ?_) (fun c5 hf => ?_)
    · refine ev_bi (v := (-3)) (q_cod qk230 rfl) (by decide) (by decide) ?_
      exact ev_weak (q_pk [] rfl) (f230_30_ok hf hK)
    · refine ev_iload_n (q_cod qk230 rfl) (by decide) rfl ?_
      refine ev_goto (q_cod qk230 rfl) (by decide) ?_
      exact ev_weak (q_pk [] rfl) (f230_30_ok hf hK)
  · refine ev_iload_n (q_cod qk230 rfl) (by decide) rfl ?_
    refine ev_goto (q_cod qk230 rfl) (by decide) ?_
    exact ev_weak (q_pk [] rfl) (f230_30_ok hf hK)
theorem f230_cl {l0 : Nat} {l1 : Int32} {l2 : Int32} {l3 : Int32} {h : q_H} {x : Int32 × q_H} (hf : f230 l0 l1 l2 l3 h = some x) : q_Cl 230 [.ref l0, .int l1, .int l2, .int l3] h (.inl (some (.int x.1))) x.2 := q_Cl.of rfl (q_LvS rfl rfl) (f230_ok hf ⟨rfl, rfl⟩)
/-! SmithyBenchModel.typeOfAccess(IIIIII)I -/
theorem qk231 : q_cs.getD 231 [] = qc_231 := rfl
def f231_150 (s0 : Int32) : m_M Int32 :=
  m_R s0
theorem f231_150_ok {s0 : Int32} {h : q_H} {o : q_O} {hz : q_H} {x : Int32 × q_H} (hf : f231_150 s0 h = some x) (hK : (q_KI o hz) x) : q_Ev none 231 150 [] [.int s0] h o hz := by
  unfold f231_150 at hf
  obtain rfl := m_R_inv hf
  obtain ⟨rfl, rfl⟩ := (show q_KI o hz (s0, _) from hK)
  exact ev_ret (q_cod qk231 rfl) rfl
def f231_129 (l0 : Nat) (l1 : Int32) (l10 : Int32) (s0 : Int32) : m_M Int32 :=
  if s0 = 0 then (f231_150 (-3)) else (m_B (m_aK l0 12) (fun _ => m_B (f196 l0 l1 l10 8) (fun v2 => f231_150 v2)))
theorem f231_129_ok {l0 : Nat} {l1 : Int32} {l10 : Int32} {s0 : Int32} {h : q_H} {o : q_O} {hz : q_H} {x : Int32 × q_H} (hf : f231_129 l0 l1 l10 s0 h = some x) (hK : (q_KI o hz) x) : q_Ev none 231 129 [(0, .ref l0), (1, .int l1), (10, .int l10)] [.int s0] h o hz := by
  unfold f231_129 at hf
  refine ev_is2 (L' := [(0, .ref l0), (1, .int l1), (10, .int l10), (11, .int s0)]) (q_cod qk231 rfl) (by decide) rfl ?_
  refine ev_iload (q_cod qk231 rfl) (by decide) rfl ?_
  refine em_if_eq (q_cod qk231 rfl) (by decide) hf (fun c3 hf => ?_) (fun c3 hf => ?_)
  · refine ev_bi (v := (-3)) (q_cod qk231 rfl) (by decide) (by decide) ?_
    exact ev_weak (q_pk [] rfl) (f231_150_ok hf hK)
  · refine ev_aload_n (q_cod qk231 rfl) (by decide) rfl ?_
    refine ev_iload_n (q_cod qk231 rfl) (by decide) rfl ?_
    refine ev_iload (q_cod qk231 rfl) (by decide) rfl ?_
    refine ev_bi (v := 8) (q_cod qk231 rfl) (by decide) (by decide) ?_
    obtain ⟨g1, hf⟩ := m_aK_some hf
    refine em_call (v := (fun u => some (.int u))) (q_cod qk231 rfl) rfl rfl (q_cokV rfl rfl (Or.inr g1)) rfl (fun x e => f196_cl e) hf (fun v2 h hf => ?_)
    refine ev_goto (q_cod qk231 rfl) (by decide) ?_
    exact ev_weak (q_pk [] rfl) (f231_150_ok hf hK)
def f231_124 (l0 : Nat) (l1 : Int32) (l10 : Int32) : m_M Int32 :=
  f231_129 l0 l1 l10 1
theorem f231_124_ok {l0 : Nat} {l1 : Int32} {l10 : Int32} {h : q_H} {o : q_O} {hz : q_H} {x : Int32 × q_H} (hf : f231_124 l0 l1 l10 h = some x) (hK : (q_KI o hz) x) : q_Ev none 231 124 [(0, .ref l0), (1, .int l1), (10, .int l10)] [] h o hz := by
  unfold f231_124 at hf
  refine ev_ic (v := 1) (q_cod qk231 rfl) (by decide) (by decide) ?_
  refine ev_goto (q_cod qk231 rfl) (by decide) ?_
  exact (f231_129_ok hf hK)
def f231_128 (l0 : Nat) (l1 : Int32) (l10 : Int32) : m_M Int32 :=
  f231_129 l0 l1 l10 0
theorem f231_128_ok {l0 : Nat} {l1 : Int32} {l10 : Int32} {h : q_H} {o : q_O} {hz : q_H} {x : Int32 × q_H} (hf : f231_128 l0 l1 l10 h = some x) (hK : (q_KI o hz) x) : q_Ev none 231 128 [(0, .ref l0), (1, .int l1), (10, .int l10)] [] h o hz := by
  unfold f231_128 at hf
  refine ev_ic (v := 0) (q_cod qk231 rfl) (by decide) (by decide) ?_
  exact (f231_129_ok hf hK)
def f231_99 (l0 : Nat) (l1 : Int32) (l6 : Int32) (l9 : Int32) (l10 : Int32) : m_M Int32 :=
  if l9 < 2 then (f231_124 l0 l1 l10) else (m_B (m_aK l0 12) (fun _ => m_B (f196 l0 l1 l10 7) (fun v2 => m_B (m_aK l0 12) (fun _ => m_B (f227 l0 l1 l6 v2) (fun v4 => if v4 = 0 then (f231_128 l0 l1 l10) else (f231_124 l0 l1 l10))))))
theorem f231_99_ok {l0 : Nat} {l1 : Int32} {l6 : Int32} {l9 : Int32} {l10 : Int32} {h : q_H} {o : q_O} {hz : q_H} {x : Int32 × q_H} (hf : f231_99 l0 l1 l6 l9 l10 h = some x) (hK : (q_KI o hz) x) : q_Ev none 231 99 [(0, .ref l0), (1, .int l1), (6, .int l6), (9, .int l9), (10, .int l10)] [] h o hz := by
  unfold f231_99 at hf
  refine ev_iload (q_cod qk231 rfl) (by decide) rfl ?_
  refine ev_ic (v := 2) (q_cod qk231 rfl) (by decide) (by decide) ?_
  refine em_ic_lt (q_cod qk231 rfl) (by decide) hf (fun c6 hf => ?_) (fun c6 hf => ?_)
  · exact ev_weak (q_pk [0, 1, 4] rfl) (f231_124_ok hf hK)
  · refine ev_aload_n (q_cod qk231 rfl) (by decide) rfl ?_
    refine ev_iload_n (q_cod qk231 rfl) (by decide) rfl ?_
    refine ev_iload (q_cod qk231 rfl) (by decide) rfl ?_
    refine ev_aload_n (q_cod qk231 rfl) (by decide) rfl ?_
    refine ev_iload_n (q_cod qk231 rfl) (by decide) rfl ?_
    refine ev_iload (q_cod qk231 rfl) (by decide) rfl ?_
    refine ev_bi (v := 7) (q_cod qk231 rfl) (by decide) (by decide) ?_
    obtain ⟨g1, hf⟩ := m_aK_some hf
    refine em_call (v := (fun u => some (.int u))) (q_cod qk231 rfl) rfl rfl (q_cokV rfl rfl (Or.inr g1)) rfl (fun x e => f196_cl e) hf (fun v2 h hf => ?_)
    obtain ⟨g3, hf⟩ := m_aK_some hf
    refine em_call (v := (fun u => some (.int u))) (q_cod qk231 rfl) rfl rfl (q_cokV rfl rfl (Or.inr g3)) rfl (fun x e => f227_cl e) hf (fun v4 h hf => ?_)
    refine em_if_eq (q_cod qk231 rfl) (by decide) hf (fun c5 hf => ?_) (fun c5 hf => ?_)
    · exact ev_weak (q_pk [0, 1, 4] rfl) (f231_128_ok hf hK)
    · exact ev_weak (q_pk [0, 1, 4] rfl) (f231_124_ok hf hK)
def f231_227 (s0 : Int32) : m_M Int32 :=
  m_R s0
theorem f231_227_ok {s0 : Int32} {h : q_H} {o : q_O} {hz : q_H} {x : Int32 × q_H} (hf : f231_227 s0 h = some x) (hK : (q_KI o hz) x) : q_Ev none 231 227 [] [.int s0] h o hz := by
  unfold f231_227 at hf
  obtain rfl := m_R_inv hf
  obtain ⟨rfl, rfl⟩ := (show q_KI o hz (s0, _) from hK)
  exact ev_ret (q_cod qk231 rfl) rfl
def f231_220 (l10 : Int32) : m_M Int32 :=
  f231_227 l10
theorem f231_220_ok {l10 : Int32} {h : q_H} {o : q_O} {hz : q_H} {x : Int32 × q_H} (hf : f231_220 l10 h = some x) (hK : (q_KI o hz) x) : q_Ev none 231 220 [(10, .int l10)] [] h o hz := by
  unfold f231_220 at hf
  refine ev_iload (q_cod qk231 rfl) (by decide) rfl ?_
  refine ev_goto (q_cod qk231 rfl) (by decide) ?_
  exact ev_weak (q_pk [] rfl) (f231_227_ok hf hK)
def f231 (l0 : Nat) (l1 : Int32) (l2 : Int32) (l3 : Int32) (l4 : Int32) (l5 : Int32) (l6 : Int32) : m_M Int32 :=
  m_B (m_aK l0 12) (fun _ => m_B (f200 l0 l1 l2 l3) (fun v2 => m_B (m_aK l0 12) (fun _ => m_B (f199 l0 l1 l2 l3) (fun v4 => if v4 = 7 then (m_B (m_aK l0 12) (fun _ => m_B (f201 l0 l1 l2 l3) (fun v6 => m_B (m_aK l0 12) (fun _ => m_B (f214 l0 l1 l4 v2 v6) (fun v8 => if v8 = (-1) then (m_R (-3)) else (m_B (m_gR 12 l0 13) (fun r9 => m_B (m_wI r9 ((192 * l2) + l3) (2000 + v8)) (fun _ => if v6 < 1 then (f231_99 l0 l1 l6 v6 v8) else (m_B (m_aK l0 12) (fun _ => m_B (f196 l0 l1 v8 6) (fun v11 => m_B (m_aK l0 12) (fun _ => m_B (f227 l0 l1 l5 v11) (fun v13 => if v13 = 0 then (f231_128 l0 l1 v8) else (f231_99 l0 l1 l6 v6 v8)))))))))))))) else (m_B (m_aK l0 12) (fun _ => m_B (f211 l0 l1 l4 v2) (fun v18 => if v18 = (-1) then (m_R (-3)) else (m_B (m_gR 12 l0 13) (fun r19 => m_B (m_wI r19 ((192 * l2) + l3) (1000 + v18)) (fun _ => m_B (m_aK l0 12) (fun _ => m_B (f210 l0 l1 v18 v2) (fun v21 => m_B (m_aK l0 12) (fun _ => m_B (f199 l0 l1 l2 l3) (fun v23 => if v23 = 3 then (f231_220 (v21 - 2)) else (m_B (m_aK l0 12) (fun _ => m_B (f227 l0 l1 l5 (v21 - 2)) (fun v25 => if v25 = 0 then (f231_227 (-3)) else (f231_220 (v21 - 2)))))))))))))))))))
theorem f231_ok {l0 : Nat} {l1 : Int32} {l2 : Int32} {l3 : Int32} {l4 : Int32} {l5 : Int32} {l6 : Int32} {h : q_H} {o : q_O} {hz : q_H} {x : Int32 × q_H} (hf : f231 l0 l1 l2 l3 l4 l5 l6 h = some x) (hK : (q_KI o hz) x) : q_Ev none 231 0 [(0, .ref l0), (1, .int l1), (2, .int l2), (3, .int l3), (4, .int l4), (5, .int l5), (6, .int l6)] [] h o hz := by
  unfold f231 at hf
  refine ev_si (v := 192) (q_cod qk231 rfl) (by decide) (by decide) ?_
  refine ev_iload_n (q_cod qk231 rfl) (by decide) rfl ?_
  refine ev_imul (q_cod qk231 rfl) (by decide) ?_
  refine ev_iload_n (q_cod qk231 rfl) (by decide) rfl ?_
  refine ev_iadd (q_cod qk231 rfl) (by decide) ?_
  refine ev_is2 (L' := [(0, .ref l0), (1, .int l1), (2, .int l2), (3, .int l3), (4, .int l4), (5, .int l5), (6, .int l6), (7, .int ((192 * l2) + l3))]) (q_cod qk231 rfl) (by decide) rfl ?_
  refine ev_aload_n (q_cod qk231 rfl) (by decide) rfl ?_
  refine ev_iload_n (q_cod qk231 rfl) (by decide) rfl ?_
  refine ev_iload_n (q_cod qk231 rfl) (by decide) rfl ?_
  refine ev_iload_n (q_cod qk231 rfl) (by decide) rfl ?_
  obtain ⟨g1, hf⟩ := m_aK_some hf
  refine em_call (v := (fun u => some (.int u))) (q_cod qk231 rfl) rfl rfl (q_cokV rfl rfl (Or.inr g1)) rfl (fun x e => f200_cl e) hf (fun v2 h hf => ?_)
  refine ev_is2 (L' := [(0, .ref l0), (1, .int l1), (2, .int l2), (3, .int l3), (4, .int l4), (5, .int l5), (6, .int l6), (7, .int ((192 * l2) + l3)), (8, .int v2)]) (q_cod qk231 rfl) (by decide) rfl ?_
  refine ev_aload_n (q_cod qk231 rfl) (by decide) rfl ?_
  refine ev_iload_n (q_cod qk231 rfl) (by decide) rfl ?_
  refine ev_iload_n (q_cod qk231 rfl) (by decide) rfl ?_
  refine ev_iload_n (q_cod qk231 rfl) (by decide) rfl ?_
  obtain ⟨g3, hf⟩ := m_aK_some hf
  refine em_call (v := (fun u => some (.int u))) (q_cod qk231 rfl) rfl rfl (q_cokV rfl rfl (Or.inr g3)) rfl (fun x e => f199_cl e) hf (fun v4 h hf => ?_)
  refine ev_bi (v := 7) (q_cod qk231 rfl) (by decide) (by decide) ?_
  refine em_ic_ne (q_cod qk231 rfl) (by decide) hf (fun c29 hf => ?_) (fun c29 hf => ?_)
  · refine ev_aload_n (q_cod qk231 rfl) (by decide) rfl ?_
    refine ev_iload_n (q_cod qk231 rfl) (by decide) rfl ?_
    refine ev_iload_n (q_cod qk231 rfl) (by decide) rfl ?_
    refine ev_iload_n (q_cod qk231 rfl) (by decide) rfl ?_
    obtain ⟨g5, hf⟩ := m_aK_some hf
    refine em_call (v := (fun u => some (.int u))) (q_cod qk231 rfl) rfl rfl (q_cokV rfl rfl (Or.inr g5)) rfl (fun x e => f201_cl e) hf (fun v6 h hf => ?_)
    refine ev_is2 (L' := [(0, .ref l0), (1, .int l1), (2, .int l2), (3, .int l3), (4, .int l4), (5, .int l5), (6, .int l6), (7, .int ((192 * l2) + l3)), (8, .int v2), (9, .int v6)]) (q_cod qk231 rfl) (by decide) rfl ?_
    refine ev_aload_n (q_cod qk231 rfl) (by decide) rfl ?_
    refine ev_iload_n (q_cod qk231 rfl) (by decide) rfl ?_
    refine ev_iload (q_cod qk231 rfl) (by decide) rfl ?_
    refine ev_iload (q_cod qk231 rfl) (by decide) rfl ?_
    refine ev_iload (q_cod qk231 rfl) (by decide) rfl ?_
    obtain ⟨g7, hf⟩ := m_aK_some hf
    refine em_call (v := (fun u => some (.int u))) (q_cod qk231 rfl) rfl rfl (q_cokV rfl rfl (Or.inr g7)) rfl (fun x e => f214_cl e) hf (fun v8 h hf => ?_)
    refine ev_is2 (L' := [(0, .ref l0), (1, .int l1), (2, .int l2), (3, .int l3), (4, .int l4), (5, .int l5), (6, .int l6), (7, .int ((192 * l2) + l3)), (8, .int v2), (9, .int v6), (10, .int v8)]) (q_cod qk231 rfl) (by decide) rfl ?_
    refine ev_iload (q_cod qk231 rfl) (by decide) rfl ?_
    refine ev_ic (v := (-1)) (q_cod qk231 rfl) (by decide) (by decide) ?_
    refine em_ic_ne (q_cod qk231 rfl) (by decide) hf (fun c16 hf => ?_) (fun c16 hf => ?_)
    · refine ev_bi (v := (-3)) (q_cod qk231 rfl) (by decide) (by decide) ?_
      obtain rfl := m_R_inv hf
      obtain ⟨rfl, rfl⟩ := (show q_KI o hz ((-3), _) from hK)
      exact ev_ret (q_cod qk231 rfl) rfl
    · refine ev_aload_n (q_cod qk231 rfl) (by decide) rfl ?_
      refine em_gR (q_cod qk231 rfl) (by decide) (by decide) hf (fun r9 hf => ?_)
      refine ev_iload (q_cod qk231 rfl) (by decide) rfl ?_
      refine ev_si (v := 2000) (q_cod qk231 rfl) (by decide) (by decide) ?_
      refine ev_iload (q_cod qk231 rfl) (by decide) rfl ?_
      refine ev_iadd (q_cod qk231 rfl) (by decide) ?_
      refine em_wI (q_cod qk231 rfl) (by decide) hf (fun hf => ?_)
      refine ev_iload (q_cod qk231 rfl) (by decide) rfl ?_
      refine ev_ic (v := 1) (q_cod qk231 rfl) (by decide) (by decide) ?_
      refine em_ic_lt (q_cod qk231 rfl) (by decide) hf (fun c15 hf => ?_) (fun c15 hf => ?_)
      · exact ev_weak (q_pk [0, 1, 6, 9, 10] rfl) (f231_99_ok hf hK)
      · refine ev_aload_n (q_cod qk231 rfl) (by decide) rfl ?_
        refine ev_iload_n (q_cod qk231 rfl) (by decide) rfl ?_
        refine ev_iload (q_cod qk231 rfl) (by decide) rfl ?_
        refine ev_aload_n (q_cod qk231 rfl) (by decide) rfl ?_
        refine ev_iload_n (q_cod qk231 rfl) (by decide) rfl ?_
        refine ev_iload (q_cod qk231 rfl) (by decide) rfl ?_
        refine ev_bi (v := 6) (q_cod qk231 rfl) (by decide) (by decide) ?_
        obtain ⟨g10, hf⟩ := m_aK_some hf
        refine em_call (v := (fun u => some (.int u))) (q_cod qk231 rfl) rfl rfl (q_cokV rfl rfl (Or.inr g10)) rfl (fun x e => f196_cl e) hf (fun v11 h hf => ?_)
        obtain ⟨g12, hf⟩ := m_aK_some hf
        refine em_call (v := (fun u => some (.int u))) (q_cod qk231 rfl) rfl rfl (q_cokV rfl rfl (Or.inr g12)) rfl (fun x e => f227_cl e) hf (fun v13 h hf => ?_)
        refine em_if_eq (q_cod qk231 rfl) (by decide) hf (fun c14 hf => ?_) (fun c14 hf => ?_)
        · exact ev_weak (q_pk [0, 1, 10] rfl) (f231_128_ok hf hK)
        · exact ev_weak (q_pk [0, 1, 6, 9, 10] rfl) (f231_99_ok hf hK)
  · refine ev_aload_n (q_cod qk231 rfl) (by decide) rfl ?_
    refine ev_iload_n (q_cod qk231 rfl) (by decide) rfl ?_
    refine ev_iload (q_cod qk231 rfl) (by decide) rfl ?_
    refine ev_iload (q_cod qk231 rfl) (by decide) rfl ?_
    obtain ⟨g17, hf⟩ := m_aK_some hf
    refine em_call (v := (fun u => some (.int u))) (q_cod qk231 rfl) rfl rfl (q_cokV rfl rfl (Or.inr g17)) rfl (fun x e => f211_cl e) hf (fun v18 h hf => ?_)
    refine ev_is2 (L' := [(0, .ref l0), (1, .int l1), (2, .int l2), (3, .int l3), (4, .int l4), (5, .int l5), (6, .int l6), (7, .int ((192 * l2) + l3)), (8, .int v2), (9, .int v18)]) (q_cod qk231 rfl) (by decide) rfl ?_
    refine ev_iload (q_cod qk231 rfl) (by decide) rfl ?_
    refine ev_ic (v := (-1)) (q_cod qk231 rfl) (by decide) (by decide) ?_
    refine em_ic_ne (q_cod qk231 rfl) (by decide) hf (fun c28 hf => ?_) (fun c28 hf => ?_)
    · refine ev_bi (v := (-3)) (q_cod qk231 rfl) (by decide) (by decide) ?_
      obtain rfl := m_R_inv hf
      obtain ⟨rfl, rfl⟩ := (show q_KI o hz ((-3), _) from hK)
      exact ev_ret (q_cod qk231 rfl) rfl
    · refine ev_aload_n (q_cod qk231 rfl) (by decide) rfl ?_
      refine em_gR (q_cod qk231 rfl) (by decide) (by decide) hf (fun r19 hf => ?_)
      refine ev_iload (q_cod qk231 rfl) (by decide) rfl ?_
      refine ev_si (v := 1000) (q_cod qk231 rfl) (by decide) (by decide) ?_
      refine ev_iload (q_cod qk231 rfl) (by decide) rfl ?_
      refine ev_iadd (q_cod qk231 rfl) (by decide) ?_
      refine em_wI (q_cod qk231 rfl) (by decide) hf (fun hf => ?_)
      refine ev_aload_n (q_cod qk231 rfl) (by decide) rfl ?_
      refine ev_iload_n (q_cod qk231 rfl) (by decide) rfl ?_
      refine ev_iload (q_cod qk231 rfl) (by decide) rfl ?_
      refine ev_iload (q_cod qk231 rfl) (by decide) rfl ?_
      obtain ⟨g20, hf⟩ := m_aK_some hf
      refine em_call (v := (fun u => some (.int u))) (q_cod qk231 rfl) rfl rfl (q_cokV rfl rfl (Or.inr g20)) rfl (fun x e => f210_cl e) hf (fun v21 h hf => ?_)
      refine ev_ic (v := 2) (q_cod qk231 rfl) (by decide) (by decide) ?_
      refine ev_isub (q_cod qk231 rfl) (by decide) ?_
      refine ev_is2 (L' := [(0, .ref l0), (1, .int l1), (2, .int l2), (3, .int l3), (4, .int l4), (5, .int l5), (6, .int l6), (7, .int ((192 * l2) + l3)), (8, .int v2), (9, .int v18), (10, .int (v21 - 2))]) (q_cod qk231 rfl) (by decide) rfl ?_
      refine ev_aload_n (q_cod qk231 rfl) (by decide) rfl ?_
      refine ev_iload_n (q_cod qk231 rfl) (by decide) rfl ?_
      refine ev_iload_n (q_cod qk231 rfl) (by decide) rfl ?_
      refine ev_iload_n (q_cod qk231 rfl) (by decide) rfl ?_
      obtain ⟨g22, hf⟩ := m_aK_some hf
      refine em_call (v := (fun u => some (.int u))) (q_cod qk231 rfl) rfl rfl (q_cokV rfl rfl (Or.inr g22)) rfl (fun x e => f199_cl e) hf (fun v23 h hf => ?_)
      refine ev_ic (v := 3) (q_cod qk231 rfl) (by decide) (by decide) ?_
      refine em_ic_eq (q_cod qk231 rfl) (by decide) hf (fun c27 hf => ?_) (fun c27 hf => ?_)
      · exact ev_weak (q_pk [10] rfl) (f231_220_ok hf hK)
      · refine ev_aload_n (q_cod qk231 rfl) (by decide) rfl ?_
        refine ev_iload_n (q_cod qk231 rfl) (by decide) rfl ?_
        refine ev_iload (q_cod qk231 rfl) (by decide) rfl ?_
        refine ev_iload (q_cod qk231 rfl) (by decide) rfl ?_
        obtain ⟨g24, hf⟩ := m_aK_some hf
        refine em_call (v := (fun u => some (.int u))) (q_cod qk231 rfl) rfl rfl (q_cokV rfl rfl (Or.inr g24)) rfl (fun x e => f227_cl e) hf (fun v25 h hf => ?_)
        refine em_if_eq (q_cod qk231 rfl) (by decide) hf (fun c26 hf => ?_) (fun c26 hf => ?_)
        · refine ev_bi (v := (-3)) (q_cod qk231 rfl) (by decide) (by decide) ?_
          exact ev_weak (q_pk [] rfl) (f231_227_ok hf hK)
        · exact ev_weak (q_pk [10] rfl) (f231_220_ok hf hK)
theorem f231_cl {l0 : Nat} {l1 : Int32} {l2 : Int32} {l3 : Int32} {l4 : Int32} {l5 : Int32} {l6 : Int32} {h : q_H} {x : Int32 × q_H} (hf : f231 l0 l1 l2 l3 l4 l5 l6 h = some x) : q_Cl 231 [.ref l0, .int l1, .int l2, .int l3, .int l4, .int l5, .int l6] h (.inl (some (.int x.1))) x.2 := q_Cl.of rfl (q_LvS rfl rfl) (f231_ok hf ⟨rfl, rfl⟩)
/-! SmithyBenchModel.typeBy(IIIIII)I -/
theorem qk229 : q_cs.getD 229 [] = qc_229 := rfl
def f229_297 (s0 : Int32) : m_M Int32 :=
  m_R s0
theorem f229_297_ok {s0 : Int32} {h : q_H} {o : q_O} {hz : q_H} {x : Int32 × q_H} (hf : f229_297 s0 h = some x) (hK : (q_KI o hz) x) : q_Ev none 229 297 [] [.int s0] h o hz := by
  unfold f229_297 at hf
  obtain rfl := m_R_inv hf
  obtain ⟨rfl, rfl⟩ := (show q_KI o hz (s0, _) from hK)
  exact ev_ret (q_cod qk229 rfl) rfl
def f229_183 (s0 : Int32) : m_M Int32 :=
  m_R s0
theorem f229_183_ok {s0 : Int32} {h : q_H} {o : q_O} {hz : q_H} {x : Int32 × q_H} (hf : f229_183 s0 h = some x) (hK : (q_KI o hz) x) : q_Ev none 229 183 [] [.int s0] h o hz := by
  unfold f229_183 at hf
  obtain rfl := m_R_inv hf
  obtain ⟨rfl, rfl⟩ := (show q_KI o hz (s0, _) from hK)
  exact ev_ret (q_cod qk229 rfl) rfl
def f229_159 (l9 : Int32) : m_M Int32 :=
  f229_183 l9
theorem f229_159_ok {l9 : Int32} {h : q_H} {o : q_O} {hz : q_H} {x : Int32 × q_H} (hf : f229_159 l9 h = some x) (hK : (q_KI o hz) x) : q_Ev none 229 159 [(9, .int l9)] [] h o hz := by
  unfold f229_159 at hf
  refine ev_iload (q_cod qk229 rfl) (by decide) rfl ?_
  refine ev_goto (q_cod qk229 rfl) (by decide) ?_
  exact ev_weak (q_pk [] rfl) (f229_183_ok hf hK)
def f229_215 (s0 : Int32) : m_M Int32 :=
  m_R s0
theorem f229_215_ok {s0 : Int32} {h : q_H} {o : q_O} {hz : q_H} {x : Int32 × q_H} (hf : f229_215 s0 h = some x) (hK : (q_KI o hz) x) : q_Ev none 229 215 [] [.int s0] h o hz := by
  unfold f229_215 at hf
  obtain rfl := m_R_inv hf
  obtain ⟨rfl, rfl⟩ := (show q_KI o hz (s0, _) from hK)
  exact ev_ret (q_cod qk229 rfl) rfl
def f229_244 (s0 : Int32) : m_M Int32 :=
  m_R s0
theorem f229_244_ok {s0 : Int32} {h : q_H} {o : q_O} {hz : q_H} {x : Int32 × q_H} (hf : f229_244 s0 h = some x) (hK : (q_KI o hz) x) : q_Ev none 229 244 [] [.int s0] h o hz := by
  unfold f229_244 at hf
  obtain rfl := m_R_inv hf
  obtain ⟨rfl, rfl⟩ := (show q_KI o hz (s0, _) from hK)
  exact ev_ret (q_cod qk229 rfl) rfl
def f229_242  : m_M Int32 :=
  f229_244 (-3)
theorem f229_242_ok  {h : q_H} {o : q_O} {hz : q_H} {x : Int32 × q_H} (hf : f229_242 h = some x) (hK : (q_KI o hz) x) : q_Ev none 229 242 [] [] h o hz := by
  unfold f229_242 at hf
  refine ev_bi (v := (-3)) (q_cod qk229 rfl) (by decide) (by decide) ?_
  exact (f229_244_ok hf hK)
def f229_263 (s0 : Int32) : m_M Int32 :=
  m_R s0
theorem f229_263_ok {s0 : Int32} {h : q_H} {o : q_O} {hz : q_H} {x : Int32 × q_H} (hf : f229_263 s0 h = some x) (hK : (q_KI o hz) x) : q_Ev none 229 263 [] [.int s0] h o hz := by
  unfold f229_263 at hf
  obtain rfl := m_R_inv hf
  obtain ⟨rfl, rfl⟩ := (show q_KI o hz (s0, _) from hK)
  exact ev_ret (q_cod qk229 rfl) rfl
def f229 (l0 : Nat) (l1 : Int32) (l2 : Int32) (l3 : Int32) (l4 : Int32) (l5 : Int32) (l6 : Int32) : m_M Int32 :=
  m_B (m_aK l0 12) (fun _ => m_B (f199 l0 l1 l2 l3) (fun v2 => m_B (m_aK l0 12) (fun _ => m_B (f200 l0 l1 l2 l3) (fun v4 => if (v2).toInt = 0 then (m_R (-1)) else (if (v2).toInt = 1 then (m_B (m_gR 12 l0 13) (fun r7 => m_B (m_lI r7 ((192 * l2) + l3)) (fun v8 => m_B (m_aK l0 12) (fun _ => m_B (f226 l0 l1 l2 v8 v4) (fun v10 => m_R v10))))) else (if (v2).toInt = 2 then (m_B (m_aK l0 12) (fun _ => m_B (f196 l0 l1 l2 1) (fun v13 => m_R v13))) else (if (v2).toInt = 3 then (if l4 < 0 then (f229_297 (-3)) else (m_B (m_aK l0 12) (fun _ => m_B (f231 l0 l1 l2 l3 l4 l5 l6) (fun v16 => f229_297 v16)))) else (if (v2).toInt = 4 then (if l4 < 0 then (f229_297 (-3)) else (m_B (m_aK l0 12) (fun _ => m_B (f231 l0 l1 l2 l3 l4 l5 l6) (fun v20 => f229_297 v20)))) else (if (v2).toInt = 5 then (m_R l5) else (if (v2).toInt = 6 then (m_B (m_gR 12 l0 13) (fun r24 => m_B (m_lI r24 ((192 * l2) + l3)) (fun v25 => m_B (m_aK l0 12) (fun _ => m_B (f226 l0 l1 l2 v25 v4) (fun v27 => if v27 = (-9) then (f229_159 v27) else (if v27 = (-3) then (f229_159 v27) else (m_B (m_aK l0 12) (fun _ => m_B (f227 l0 l1 l4 v27) (fun v29 => if v29 = 0 then (f229_183 (-3)) else (f229_183 v27)))))))))) else (if (v2).toInt = 7 then (if l4 < 0 then (f229_297 (-3)) else (m_B (m_aK l0 12) (fun _ => m_B (f231 l0 l1 l2 l3 l4 l5 l6) (fun v35 => f229_297 v35)))) else (if (v2).toInt = 8 then (m_R v4) else (if (v2).toInt = 9 then (m_R l5) else (if (v2).toInt = 10 then (m_B (m_aK l0 12) (fun _ => m_B (f227 l0 l1 l4 (-1)) (fun v41 => if v41 = 0 then (f229_215 (-3)) else (m_B (m_aK l0 12) (fun _ => m_B (f230 l0 l1 l5 l6) (fun v43 => f229_215 v43)))))) else (if (v2).toInt = 11 then (m_B (m_aK l0 12) (fun _ => m_B (f227 l0 l1 l4 (-1)) (fun v47 => if v47 = 0 then (f229_242) else (m_B (m_aK l0 12) (fun _ => m_B (f227 l0 l1 l5 (-1)) (fun v49 => if v49 = 0 then (f229_242) else (f229_244 (-1)))))))) else (if (v2).toInt = 12 then (m_B (m_aK l0 12) (fun _ => m_B (f227 l0 l1 l4 (-1)) (fun v54 => if v54 = 0 then (f229_263 (-3)) else (f229_263 (-2))))) else (if (v2).toInt = 13 then (m_B (m_aK l0 12) (fun _ => m_B (f230 l0 l1 l4 l5) (fun v58 => m_R v58))) else (if l4 < 0 then (f229_297 (-3)) else (m_B (m_aK l0 12) (fun _ => m_B (f231 l0 l1 l2 l3 l4 l5 l6) (fun v60 => f229_297 v60)))))))))))))))))))))
theorem f229_ok {l0 : Nat} {l1 : Int32} {l2 : Int32} {l3 : Int32} {l4 : Int32} {l5 : Int32} {l6 : Int32} {h : q_H} {o : q_O} {hz : q_H} {x : Int32 × q_H} (hf : f229 l0 l1 l2 l3 l4 l5 l6 h = some x) (hK : (q_KI o hz) x) : q_Ev none 229 0 [(0, .ref l0), (1, .int l1), (2, .int l2), (3, .int l3), (4, .int l4), (5, .int l5), (6, .int l6)] [] h o hz := by
  unfold f229 at hf
  refine ev_aload_n (q_cod qk229 rfl) (by decide) rfl ?_
  refine ev_iload_n (q_cod qk229 rfl) (by decide) rfl ?_
  refine ev_iload_n (q_cod qk229 rfl) (by decide) rfl ?_
  refine ev_iload_n (q_cod qk229 rfl) (by decide) rfl ?_
  obtain ⟨g1, hf⟩ := m_aK_some hf
  refine em_call (v := (fun u => some (.int u))) (q_cod qk229 rfl) rfl rfl (q_cokV rfl rfl (Or.inr g1)) rfl (fun x e => f199_cl e) hf (fun v2 h hf => ?_)
  refine ev_is2 (L' := [(0, .ref l0), (1, .int l1), (2, .int l2), (3, .int l3), (4, .int l4), (5, .int l5), (6, .int l6), (7, .int v2)]) (q_cod qk229 rfl) (by decide) rfl ?_
  refine ev_aload_n (q_cod qk229 rfl) (by decide) rfl ?_
  refine ev_iload_n (q_cod qk229 rfl) (by decide) rfl ?_
  refine ev_iload_n (q_cod qk229 rfl) (by decide) rfl ?_
  refine ev_iload_n (q_cod qk229 rfl) (by decide) rfl ?_
  obtain ⟨g3, hf⟩ := m_aK_some hf
  refine em_call (v := (fun u => some (.int u))) (q_cod qk229 rfl) rfl rfl (q_cokV rfl rfl (Or.inr g3)) rfl (fun x e => f200_cl e) hf (fun v4 h hf => ?_)
  refine ev_is2 (L' := [(0, .ref l0), (1, .int l1), (2, .int l2), (3, .int l3), (4, .int l4), (5, .int l5), (6, .int l6), (7, .int v2), (8, .int v4)]) (q_cod qk229 rfl) (by decide) rfl ?_
  refine ev_iload (q_cod qk229 rfl) (by decide) rfl ?_
  rcases m_iteM hf with ⟨c5, hf⟩ | ⟨c5, hf⟩
  · refine ev_tsw (q_cod qk229 rfl) (by decide) (t := 92) (by rw [c5]; rfl) ?_
    refine ev_ic (v := (-1)) (q_cod qk229 rfl) (by decide) (by decide) ?_
    obtain rfl := m_R_inv hf
    obtain ⟨rfl, rfl⟩ := (show q_KI o hz ((-1), _) from hK)
    exact ev_ret (q_cod qk229 rfl) rfl
  rcases m_iteM hf with ⟨c6, hf⟩ | ⟨c6, hf⟩
  · refine ev_tsw (q_cod qk229 rfl) (by decide) (t := 94) (by rw [c6]; rfl) ?_
    refine ev_aload_n (q_cod qk229 rfl) (by decide) rfl ?_
    refine ev_iload_n (q_cod qk229 rfl) (by decide) rfl ?_
    refine ev_iload_n (q_cod qk229 rfl) (by decide) rfl ?_
    refine ev_aload_n (q_cod qk229 rfl) (by decide) rfl ?_
    refine em_gR (q_cod qk229 rfl) (by decide) (by decide) hf (fun r7 hf => ?_)
    refine ev_si (v := 192) (q_cod qk229 rfl) (by decide) (by decide) ?_
    refine ev_iload_n (q_cod qk229 rfl) (by decide) rfl ?_
    refine ev_imul (q_cod qk229 rfl) (by decide) ?_
    refine ev_iload_n (q_cod qk229 rfl) (by decide) rfl ?_
    refine ev_iadd (q_cod qk229 rfl) (by decide) ?_
    refine em_lI (q_cod qk229 rfl) (by decide) hf (fun v8 hf => ?_)
    refine ev_iload (q_cod qk229 rfl) (by decide) rfl ?_
    obtain ⟨g9, hf⟩ := m_aK_some hf
    refine em_call (v := (fun u => some (.int u))) (q_cod qk229 rfl) rfl rfl (q_cokV rfl rfl (Or.inr g9)) rfl (fun x e => f226_cl e) hf (fun v10 h hf => ?_)
    obtain rfl := m_R_inv hf
    obtain ⟨rfl, rfl⟩ := (show q_KI o hz (v10, _) from hK)
    exact ev_ret (q_cod qk229 rfl) rfl
  rcases m_iteM hf with ⟨c11, hf⟩ | ⟨c11, hf⟩
  · refine ev_tsw (q_cod qk229 rfl) (by decide) (t := 115) (by rw [c11]; rfl) ?_
    refine ev_aload_n (q_cod qk229 rfl) (by decide) rfl ?_
    refine ev_iload_n (q_cod qk229 rfl) (by decide) rfl ?_
    refine ev_iload_n (q_cod qk229 rfl) (by decide) rfl ?_
    refine ev_ic (v := 1) (q_cod qk229 rfl) (by decide) (by decide) ?_
    obtain ⟨g12, hf⟩ := m_aK_some hf
    refine em_call (v := (fun u => some (.int u))) (q_cod qk229 rfl) rfl rfl (q_cokV rfl rfl (Or.inr g12)) rfl (fun x e => f196_cl e) hf (fun v13 h hf => ?_)
    obtain rfl := m_R_inv hf
    obtain ⟨rfl, rfl⟩ := (show q_KI o hz (v13, _) from hK)
    exact ev_ret (q_cod qk229 rfl) rfl
  rcases m_iteM hf with ⟨c14, hf⟩ | ⟨c14, hf⟩
  · refine ev_tsw (q_cod qk229 rfl) (by decide) (t := 274) (by rw [c14]; rfl) ?_
    refine ev_iload (q_cod qk229 rfl) (by decide) rfl ?_
    refine em_if_ge (q_cod qk229 rfl) (by decide) hf (fun c17 hf => ?_) (fun c17 hf => ?_)
    · refine ev_bi (v := (-3)) (q_cod qk229 rfl) (by decide) (by decide) ?_
      refine ev_goto (q_cod qk229 rfl) (by decide) ?_
      exact ev_weak (q_pk [] rfl) (f229_297_ok hf hK)
    · refine ev_aload_n (q_cod qk229 rfl) (by decide) rfl ?_
      refine ev_iload_n (q_cod qk229 rfl) (by decide) rfl ?_
      refine ev_iload_n (q_cod qk229 rfl) (by decide) rfl ?_
      refine ev_iload_n (q_cod qk229 rfl) (by decide) rfl ?_
      refine ev_iload (q_cod qk229 rfl) (by decide) rfl ?_
      refine ev_iload (q_cod qk229 rfl) (by decide) rfl ?_
      refine ev_iload (q_cod qk229 rfl) (by decide) rfl ?_
      obtain ⟨g15, hf⟩ := m_aK_some hf
      refine em_call (v := (fun u => some (.int u))) (q_cod qk229 rfl) rfl rfl (q_cokV rfl rfl (Or.inr g15)) rfl (fun x e => f231_cl e) hf (fun v16 h hf => ?_)
      exact ev_weak (q_pk [] rfl) (f229_297_ok hf hK)
  rcases m_iteM hf with ⟨c18, hf⟩ | ⟨c18, hf⟩
  · refine ev_tsw (q_cod qk229 rfl) (by decide) (t := 274) (by rw [c18]; rfl) ?_
    refine ev_iload (q_cod qk229 rfl) (by decide) rfl ?_
    refine em_if_ge (q_cod qk229 rfl) (by decide) hf (fun c21 hf => ?_) (fun c21 hf => ?_)
    · refine ev_bi (v := (-3)) (q_cod qk229 rfl) (by decide) (by decide) ?_
      refine ev_goto (q_cod qk229 rfl) (by decide) ?_
      exact ev_weak (q_pk [] rfl) (f229_297_ok hf hK)
    · refine ev_aload_n (q_cod qk229 rfl) (by decide) rfl ?_
      refine ev_iload_n (q_cod qk229 rfl) (by decide) rfl ?_
      refine ev_iload_n (q_cod qk229 rfl) (by decide) rfl ?_
      refine ev_iload_n (q_cod qk229 rfl) (by decide) rfl ?_
      refine ev_iload (q_cod qk229 rfl) (by decide) rfl ?_
      refine ev_iload (q_cod qk229 rfl) (by decide) rfl ?_
      refine ev_iload (q_cod qk229 rfl) (by decide) rfl ?_
      obtain ⟨g19, hf⟩ := m_aK_some hf
      refine em_call (v := (fun u => some (.int u))) (q_cod qk229 rfl) rfl rfl (q_cokV rfl rfl (Or.inr g19)) rfl (fun x e => f231_cl e) hf (fun v20 h hf => ?_)
      exact ev_weak (q_pk [] rfl) (f229_297_ok hf hK)
  rcases m_iteM hf with ⟨c22, hf⟩ | ⟨c22, hf⟩
  · refine ev_tsw (q_cod qk229 rfl) (by decide) (t := 187) (by rw [c22]; rfl) ?_
    refine ev_iload (q_cod qk229 rfl) (by decide) rfl ?_
    obtain rfl := m_R_inv hf
    obtain ⟨rfl, rfl⟩ := (show q_KI o hz (l5, _) from hK)
    exact ev_ret (q_cod qk229 rfl) rfl
  rcases m_iteM hf with ⟨c23, hf⟩ | ⟨c23, hf⟩
  · refine ev_tsw (q_cod qk229 rfl) (by decide) (t := 123) (by rw [c23]; rfl) ?_
    refine ev_aload_n (q_cod qk229 rfl) (by decide) rfl ?_
    refine ev_iload_n (q_cod qk229 rfl) (by decide) rfl ?_
    refine ev_iload_n (q_cod qk229 rfl) (by decide) rfl ?_
    refine ev_aload_n (q_cod qk229 rfl) (by decide) rfl ?_
    refine em_gR (q_cod qk229 rfl) (by decide) (by decide) hf (fun r24 hf => ?_)
    refine ev_si (v := 192) (q_cod qk229 rfl) (by decide) (by decide) ?_
    refine ev_iload_n (q_cod qk229 rfl) (by decide) rfl ?_
    refine ev_imul (q_cod qk229 rfl) (by decide) ?_
    refine ev_iload_n (q_cod qk229 rfl) (by decide) rfl ?_
    refine ev_iadd (q_cod qk229 rfl) (by decide) ?_
    refine em_lI (q_cod qk229 rfl) (by decide) hf (fun v25 hf => ?_)
    refine ev_iload (q_cod qk229 rfl) (by decide) rfl ?_
    obtain ⟨g26, hf⟩ := m_aK_some hf
    refine em_call (v := (fun u => some (.int u))) (q_cod qk229 rfl) rfl rfl (q_cokV rfl rfl (Or.inr g26)) rfl (fun x e => f226_cl e) hf (fun v27 h hf => ?_)
    refine ev_is2 (L' := [(0, .ref l0), (1, .int l1), (2, .int l2), (3, .int l3), (4, .int l4), (5, .int l5), (6, .int l6), (7, .int v2), (8, .int v4), (9, .int v27)]) (q_cod qk229 rfl) (by decide) rfl ?_
    refine ev_iload (q_cod qk229 rfl) (by decide) rfl ?_
    refine ev_bi (v := (-9)) (q_cod qk229 rfl) (by decide) (by decide) ?_
    refine em_ic_eq (q_cod qk229 rfl) (by decide) hf (fun c32 hf => ?_) (fun c32 hf => ?_)
    · exact ev_weak (q_pk [9] rfl) (f229_159_ok hf hK)
    · refine ev_iload (q_cod qk229 rfl) (by decide) rfl ?_
      refine ev_bi (v := (-3)) (q_cod qk229 rfl) (by decide) (by decide) ?_
      refine em_ic_ne (q_cod qk229 rfl) (by decide) hf (fun c31 hf => ?_) (fun c31 hf => ?_)
      · exact ev_weak (q_pk [9] rfl) (f229_159_ok hf hK)
      · refine ev_aload_n (q_cod qk229 rfl) (by decide) rfl ?_
        refine ev_iload_n (q_cod qk229 rfl) (by decide) rfl ?_
        refine ev_iload (q_cod qk229 rfl) (by decide) rfl ?_
        refine ev_iload (q_cod qk229 rfl) (by decide) rfl ?_
        obtain ⟨g28, hf⟩ := m_aK_some hf
        refine em_call (v := (fun u => some (.int u))) (q_cod qk229 rfl) rfl rfl (q_cokV rfl rfl (Or.inr g28)) rfl (fun x e => f227_cl e) hf (fun v29 h hf => ?_)
        refine em_if_eq (q_cod qk229 rfl) (by decide) hf (fun c30 hf => ?_) (fun c30 hf => ?_)
        · refine ev_bi (v := (-3)) (q_cod qk229 rfl) (by decide) (by decide) ?_
          exact ev_weak (q_pk [] rfl) (f229_183_ok hf hK)
        · refine ev_iload (q_cod qk229 rfl) (by decide) rfl ?_
          refine ev_goto (q_cod qk229 rfl) (by decide) ?_
          exact ev_weak (q_pk [] rfl) (f229_183_ok hf hK)
  rcases m_iteM hf with ⟨c33, hf⟩ | ⟨c33, hf⟩
  · refine ev_tsw (q_cod qk229 rfl) (by decide) (t := 274) (by rw [c33]; rfl) ?_
    refine ev_iload (q_cod qk229 rfl) (by decide) rfl ?_
    refine em_if_ge (q_cod qk229 rfl) (by decide) hf (fun c36 hf => ?_) (fun c36 hf => ?_)
    · refine ev_bi (v := (-3)) (q_cod qk229 rfl) (by decide) (by decide) ?_
      refine ev_goto (q_cod qk229 rfl) (by decide) ?_
      exact ev_weak (q_pk [] rfl) (f229_297_ok hf hK)
    · refine ev_aload_n (q_cod qk229 rfl) (by decide) rfl ?_
      refine ev_iload_n (q_cod qk229 rfl) (by decide) rfl ?_
      refine ev_iload_n (q_cod qk229 rfl) (by decide) rfl ?_
      refine ev_iload_n (q_cod qk229 rfl) (by decide) rfl ?_
      refine ev_iload (q_cod qk229 rfl) (by decide) rfl ?_
      refine ev_iload (q_cod qk229 rfl) (by decide) rfl ?_
      refine ev_iload (q_cod qk229 rfl) (by decide) rfl ?_
      obtain ⟨g34, hf⟩ := m_aK_some hf
      refine em_call (v := (fun u => some (.int u))) (q_cod qk229 rfl) rfl rfl (q_cokV rfl rfl (Or.inr g34)) rfl (fun x e => f231_cl e) hf (fun v35 h hf => ?_)
      exact ev_weak (q_pk [] rfl) (f229_297_ok hf hK)
  rcases m_iteM hf with ⟨c37, hf⟩ | ⟨c37, hf⟩
  · refine ev_tsw (q_cod qk229 rfl) (by decide) (t := 184) (by rw [c37]; rfl) ?_
    refine ev_iload (q_cod qk229 rfl) (by decide) rfl ?_
    obtain rfl := m_R_inv hf
    obtain ⟨rfl, rfl⟩ := (show q_KI o hz (v4, _) from hK)
    exact ev_ret (q_cod qk229 rfl) rfl
  rcases m_iteM hf with ⟨c38, hf⟩ | ⟨c38, hf⟩
  · refine ev_tsw (q_cod qk229 rfl) (by decide) (t := 187) (by rw [c38]; rfl) ?_
    refine ev_iload (q_cod qk229 rfl) (by decide) rfl ?_
    obtain rfl := m_R_inv hf
    obtain ⟨rfl, rfl⟩ := (show q_KI o hz (l5, _) from hK)
    exact ev_ret (q_cod qk229 rfl) rfl
  rcases m_iteM hf with ⟨c39, hf⟩ | ⟨c39, hf⟩
  · refine ev_tsw (q_cod qk229 rfl) (by decide) (t := 190) (by rw [c39]; rfl) ?_
    refine ev_aload_n (q_cod qk229 rfl) (by decide) rfl ?_
    refine ev_iload_n (q_cod qk229 rfl) (by decide) rfl ?_
    refine ev_iload (q_cod qk229 rfl) (by decide) rfl ?_
    refine ev_ic (v := (-1)) (q_cod qk229 rfl) (by decide) (by decide) ?_
    obtain ⟨g40, hf⟩ := m_aK_some hf
    refine em_call (v := (fun u => some (.int u))) (q_cod qk229 rfl) rfl rfl (q_cokV rfl rfl (Or.inr g40)) rfl (fun x e => f227_cl e) hf (fun v41 h hf => ?_)
    refine em_if_ne (q_cod qk229 rfl) (by decide) hf (fun c44 hf => ?_) (fun c44 hf => ?_)
    · refine ev_bi (v := (-3)) (q_cod qk229 rfl) (by decide) (by decide) ?_
      refine ev_goto (q_cod qk229 rfl) (by decide) ?_
      exact ev_weak (q_pk [] rfl) (f229_215_ok hf hK)
    · refine ev_aload_n (q_cod qk229 rfl) (by decide) rfl ?_
      refine ev_iload_n (q_cod qk229 rfl) (by decide) rfl ?_
      refine ev_iload (q_cod qk229 rfl) (by decide) rfl ?_
      refine ev_iload (q_cod qk229 rfl) (by decide) rfl ?_
      obtain ⟨g42, hf⟩ := m_aK_some hf
      refine em_call (v := (fun u => some (.int u))) (q_cod qk229 rfl) rfl rfl (q_cokV rfl rfl (Or.inr g42)) rfl (fun x e => f230_cl e) hf (fun v43 h hf => ?_)
      exact ev_weak (q_pk [] rfl) (f229_215_ok hf hK)
  rcases m_iteM hf with ⟨c45, hf⟩ | ⟨c45, hf⟩
  · refine ev_tsw (q_cod qk229 rfl) (by decide) (t := 216) (by rw [c45]; rfl) ?_
    refine ev_aload_n (q_cod qk229 rfl) (by decide) rfl ?_
    refine ev_iload_n (q_cod qk229 rfl) (by decide) rfl ?_
    refine ev_iload (q_cod qk229 rfl) (by decide) rfl ?_
    refine ev_ic (v := (-1)) (q_cod qk229 rfl) (by decide) (by decide) ?_
    obtain ⟨g46, hf⟩ := m_aK_some hf
    refine em_call (v := (fun u => some (.int u))) (q_cod qk229 rfl) rfl rfl (q_cokV rfl rfl (Or.inr g46)) rfl (fun x e => f227_cl e) hf (fun v47 h hf => ?_)
    refine em_if_eq (q_cod qk229 rfl) (by decide) hf (fun c51 hf => ?_) (fun c51 hf => ?_)
    · exact ev_weak (q_pk [] rfl) (f229_242_ok hf hK)
    · refine ev_aload_n (q_cod qk229 rfl) (by decide) rfl ?_
      refine ev_iload_n (q_cod qk229 rfl) (by decide) rfl ?_
      refine ev_iload (q_cod qk229 rfl) (by decide) rfl ?_
      refine ev_ic (v := (-1)) (q_cod qk229 rfl) (by decide) (by decide) ?_
      obtain ⟨g48, hf⟩ := m_aK_some hf
      refine em_call (v := (fun u => some (.int u))) (q_cod qk229 rfl) rfl rfl (q_cokV rfl rfl (Or.inr g48)) rfl (fun x e => f227_cl e) hf (fun v49 h hf => ?_)
      refine em_if_eq (q_cod qk229 rfl) (by decide) hf (fun c50 hf => ?_) (fun c50 hf => ?_)
      · exact ev_weak (q_pk [] rfl) (f229_242_ok hf hK)
      · refine ev_ic (v := (-1)) (q_cod qk229 rfl) (by decide) (by decide) ?_
        refine ev_goto (q_cod qk229 rfl) (by decide) ?_
        exact ev_weak (q_pk [] rfl) (f229_244_ok hf hK)
  rcases m_iteM hf with ⟨c52, hf⟩ | ⟨c52, hf⟩
  · refine ev_tsw (q_cod qk229 rfl) (by decide) (t := 245) (by rw [c52]; rfl) ?_
    refine ev_aload_n (q_cod qk229 rfl) (by decide) rfl ?_
    refine ev_iload_n (q_cod qk229 rfl) (by decide) rfl ?_
    refine ev_iload (q_cod qk229 rfl) (by decide) rfl ?_
    refine ev_ic (v := (-1)) (q_cod qk229 rfl) (by decide) (by decide) ?_
    obtain ⟨g53, hf⟩ := m_aK_some hf
    refine em_call (v := (fun u => some (.int u))) (q_cod qk229 rfl) rfl rfl (q_cokV rfl rfl (Or.inr g53)) rfl (fun x e => f227_cl e) hf (fun v54 h hf => ?_)
    refine em_if_eq (q_cod qk229 rfl) (by decide) hf (fun c55 hf => ?_) (fun c55 hf => ?_)
    · refine ev_bi (v := (-3)) (q_cod qk229 rfl) (by decide) (by decide) ?_
      exact ev_weak (q_pk [] rfl) (f229_263_ok hf hK)
    · refine ev_bi (v := (-2)) (q_cod qk229 rfl) (by decide) (by decide) ?_
      refine ev_goto (q_cod qk229 rfl) (by decide) ?_
      exact ev_weak (q_pk [] rfl) (f229_263_ok hf hK)
  rcases m_iteM hf with ⟨c56, hf⟩ | ⟨c56, hf⟩
  · refine ev_tsw (q_cod qk229 rfl) (by decide) (t := 264) (by rw [c56]; rfl) ?_
    refine ev_aload_n (q_cod qk229 rfl) (by decide) rfl ?_
    refine ev_iload_n (q_cod qk229 rfl) (by decide) rfl ?_
    refine ev_iload (q_cod qk229 rfl) (by decide) rfl ?_
    refine ev_iload (q_cod qk229 rfl) (by decide) rfl ?_
    obtain ⟨g57, hf⟩ := m_aK_some hf
    refine em_call (v := (fun u => some (.int u))) (q_cod qk229 rfl) rfl rfl (q_cokV rfl rfl (Or.inr g57)) rfl (fun x e => f230_cl e) hf (fun v58 h hf => ?_)
    obtain rfl := m_R_inv hf
    obtain ⟨rfl, rfl⟩ := (show q_KI o hz (v58, _) from hK)
    exact ev_ret (q_cod qk229 rfl) rfl
  refine ev_tsw (q_cod qk229 rfl) (by decide) (t := 274) (by rw [if_pos (by omega)]; rfl) ?_
  refine ev_iload (q_cod qk229 rfl) (by decide) rfl ?_
  refine em_if_ge (q_cod qk229 rfl) (by decide) hf (fun c61 hf => ?_) (fun c61 hf => ?_)
  · refine ev_bi (v := (-3)) (q_cod qk229 rfl) (by decide) (by decide) ?_
    refine ev_goto (q_cod qk229 rfl) (by decide) ?_
    exact ev_weak (q_pk [] rfl) (f229_297_ok hf hK)
  · refine ev_aload_n (q_cod qk229 rfl) (by decide) rfl ?_
    refine ev_iload_n (q_cod qk229 rfl) (by decide) rfl ?_
    refine ev_iload_n (q_cod qk229 rfl) (by decide) rfl ?_
    refine ev_iload_n (q_cod qk229 rfl) (by decide) rfl ?_
    refine ev_iload (q_cod qk229 rfl) (by decide) rfl ?_
    refine ev_iload (q_cod qk229 rfl) (by decide) rfl ?_
    refine ev_iload (q_cod qk229 rfl) (by decide) rfl ?_
    obtain ⟨g59, hf⟩ := m_aK_some hf
    refine em_call (v := (fun u => some (.int u))) (q_cod qk229 rfl) rfl rfl (q_cokV rfl rfl (Or.inr g59)) rfl (fun x e => f231_cl e) hf (fun v60 h hf => ?_)
    exact ev_weak (q_pk [] rfl) (f229_297_ok hf hK)
theorem f229_cl {l0 : Nat} {l1 : Int32} {l2 : Int32} {l3 : Int32} {l4 : Int32} {l5 : Int32} {l6 : Int32} {h : q_H} {x : Int32 × q_H} (hf : f229 l0 l1 l2 l3 l4 l5 l6 h = some x) : q_Cl 229 [.ref l0, .int l1, .int l2, .int l3, .int l4, .int l5, .int l6] h (.inl (some (.int x.1))) x.2 := q_Cl.of rfl (q_LvS rfl rfl) (f229_ok hf ⟨rfl, rfl⟩)
/-! SmithyBenchModel.typeOf(III)I -/
theorem qk228 : q_cs.getD 228 [] = qc_228 := rfl
def f228_62  : m_M Int32 :=
  m_R (-9)
theorem f228_62_ok  {h : q_H} {o : q_O} {hz : q_H} {x : Int32 × q_H} (hf : f228_62 h = some x) (hK : (q_KI o hz) x) : q_Ev none 228 62 [] [] h o hz := by
  unfold f228_62 at hf
  refine ev_bi (v := (-9)) (q_cod qk228 rfl) (by decide) (by decide) ?_
  obtain rfl := m_R_inv hf
  obtain ⟨rfl, rfl⟩ := (show q_KI o hz ((-9), _) from hK)
  exact ev_ret (q_cod qk228 rfl) rfl
def f228_126 (l0 : Nat) (l1 : Int32) (l2 : Int32) (l3 : Int32) (l4 : Int32) (l5 : Int32) (l6 : Int32) (l8 : Int32) (l9 : Int32) (s0 : Int32) : m_M ((Nat × Int32 × Int32 × Int32 × Int32 × Int32 × Int32 × Int32 × Int32 × Int32) ⊕ Int32) :=
  m_R (.inl (l0, l1, l2, l3, l4, l5, l6, s0, l8, (l9 + 1)))
theorem f228_126_ok {l0 : Nat} {l1 : Int32} {l2 : Int32} {l3 : Int32} {l4 : Int32} {l5 : Int32} {l6 : Int32} {l8 : Int32} {l9 : Int32} {s0 : Int32} {h : q_H} {o : q_O} {hz : q_H} {x : ((Nat × Int32 × Int32 × Int32 × Int32 × Int32 × Int32 × Int32 × Int32 × Int32) ⊕ Int32) × q_H} (hf : f228_126 l0 l1 l2 l3 l4 l5 l6 l8 l9 s0 h = some x) (hK : (m_yK (fun (s : Nat × Int32 × Int32 × Int32 × Int32 × Int32 × Int32 × Int32 × Int32 × Int32) (h : q_H) => q_Ev none 228 25 [(0, .ref (s.1)), (1, .int (s.2.1)), (2, .int (s.2.2.1)), (3, .int (s.2.2.2.1)), (4, .int (s.2.2.2.2.1)), (5, .int (s.2.2.2.2.2.1)), (6, .int (s.2.2.2.2.2.2.1)), (7, .int (s.2.2.2.2.2.2.2.1)), (8, .int (s.2.2.2.2.2.2.2.2.1)), (9, .int (s.2.2.2.2.2.2.2.2.2))] [] h o hz) (q_KI o hz)) x) : q_Ev none 228 126 [(0, .ref l0), (1, .int l1), (2, .int l2), (3, .int l3), (4, .int l4), (5, .int l5), (6, .int l6), (8, .int l8), (9, .int l9)] [.int s0] h o hz := by
  unfold f228_126 at hf
  refine ev_is2 (L' := [(0, .ref l0), (1, .int l1), (2, .int l2), (3, .int l3), (4, .int l4), (5, .int l5), (6, .int l6), (7, .int s0), (8, .int l8), (9, .int l9)]) (q_cod qk228 rfl) (by decide) rfl ?_
  refine ev_inc (v := l9 + 1) (L' := [(0, .ref l0), (1, .int l1), (2, .int l2), (3, .int l3), (4, .int l4), (5, .int l5), (6, .int l6), (7, .int s0), (8, .int l8), (9, .int (l9 + 1))]) (q_cod qk228 rfl) (by decide) rfl rfl rfl ?_
  refine ev_goto (q_cod qk228 rfl) (by decide) ?_
  obtain rfl := m_R_inv hf
  exact (show q_Ev none 228 25 [(0, .ref l0), (1, .int l1), (2, .int l2), (3, .int l3), (4, .int l4), (5, .int l5), (6, .int l6), (7, .int s0), (8, .int l8), (9, .int (l9 + 1))] [] _ o hz from hK)
def f228_111 (l0 : Nat) (l1 : Int32) (l2 : Int32) (l3 : Int32) (l4 : Int32) (l5 : Int32) (l7 : Int32) (l8 : Int32) (l9 : Int32) (l10 : Int32) (s0 : Int32) : m_M ((Nat × Int32 × Int32 × Int32 × Int32 × Int32 × Int32 × Int32 × Int32 × Int32) ⊕ Int32) :=
  if l9 = 2 then (f228_126 l0 l1 l2 l3 l4 l5 s0 l8 l9 l10) else (f228_126 l0 l1 l2 l3 l4 l5 s0 l8 l9 l7)
theorem f228_111_ok {l0 : Nat} {l1 : Int32} {l2 : Int32} {l3 : Int32} {l4 : Int32} {l5 : Int32} {l7 : Int32} {l8 : Int32} {l9 : Int32} {l10 : Int32} {s0 : Int32} {h : q_H} {o : q_O} {hz : q_H} {x : ((Nat × Int32 × Int32 × Int32 × Int32 × Int32 × Int32 × Int32 × Int32 × Int32) ⊕ Int32) × q_H} (hf : f228_111 l0 l1 l2 l3 l4 l5 l7 l8 l9 l10 s0 h = some x) (hK : (m_yK (fun (s : Nat × Int32 × Int32 × Int32 × Int32 × Int32 × Int32 × Int32 × Int32 × Int32) (h : q_H) => q_Ev none 228 25 [(0, .ref (s.1)), (1, .int (s.2.1)), (2, .int (s.2.2.1)), (3, .int (s.2.2.2.1)), (4, .int (s.2.2.2.2.1)), (5, .int (s.2.2.2.2.2.1)), (6, .int (s.2.2.2.2.2.2.1)), (7, .int (s.2.2.2.2.2.2.2.1)), (8, .int (s.2.2.2.2.2.2.2.2.1)), (9, .int (s.2.2.2.2.2.2.2.2.2))] [] h o hz) (q_KI o hz)) x) : q_Ev none 228 111 [(0, .ref l0), (1, .int l1), (2, .int l2), (3, .int l3), (4, .int l4), (5, .int l5), (7, .int l7), (8, .int l8), (9, .int l9), (10, .int l10)] [.int s0] h o hz := by
  unfold f228_111 at hf
  refine ev_is2 (L' := [(0, .ref l0), (1, .int l1), (2, .int l2), (3, .int l3), (4, .int l4), (5, .int l5), (6, .int s0), (7, .int l7), (8, .int l8), (9, .int l9), (10, .int l10)]) (q_cod qk228 rfl) (by decide) rfl ?_
  refine ev_iload (q_cod qk228 rfl) (by decide) rfl ?_
  refine ev_ic (v := 2) (q_cod qk228 rfl) (by decide) (by decide) ?_
  refine em_ic_ne (q_cod qk228 rfl) (by decide) hf (fun c1 hf => ?_) (fun c1 hf => ?_)
  · refine ev_iload (q_cod qk228 rfl) (by decide) rfl ?_
    refine ev_goto (q_cod qk228 rfl) (by decide) ?_
    exact ev_weak (q_pk [0, 1, 2, 3, 4, 5, 6, 8, 9] rfl) (f228_126_ok hf hK)
  · refine ev_iload (q_cod qk228 rfl) (by decide) rfl ?_
    exact ev_weak (q_pk [0, 1, 2, 3, 4, 5, 6, 8, 9] rfl) (f228_126_ok hf hK)
def f228_96 (l0 : Nat) (l1 : Int32) (l2 : Int32) (l3 : Int32) (l4 : Int32) (l6 : Int32) (l7 : Int32) (l8 : Int32) (l9 : Int32) (l10 : Int32) (s0 : Int32) : m_M ((Nat × Int32 × Int32 × Int32 × Int32 × Int32 × Int32 × Int32 × Int32 × Int32) ⊕ Int32) :=
  if l9 = 1 then (f228_111 l0 l1 l2 l3 l4 s0 l7 l8 l9 l10 l10) else (f228_111 l0 l1 l2 l3 l4 s0 l7 l8 l9 l10 l6)
theorem f228_96_ok {l0 : Nat} {l1 : Int32} {l2 : Int32} {l3 : Int32} {l4 : Int32} {l6 : Int32} {l7 : Int32} {l8 : Int32} {l9 : Int32} {l10 : Int32} {s0 : Int32} {h : q_H} {o : q_O} {hz : q_H} {x : ((Nat × Int32 × Int32 × Int32 × Int32 × Int32 × Int32 × Int32 × Int32 × Int32) ⊕ Int32) × q_H} (hf : f228_96 l0 l1 l2 l3 l4 l6 l7 l8 l9 l10 s0 h = some x) (hK : (m_yK (fun (s : Nat × Int32 × Int32 × Int32 × Int32 × Int32 × Int32 × Int32 × Int32 × Int32) (h : q_H) => q_Ev none 228 25 [(0, .ref (s.1)), (1, .int (s.2.1)), (2, .int (s.2.2.1)), (3, .int (s.2.2.2.1)), (4, .int (s.2.2.2.2.1)), (5, .int (s.2.2.2.2.2.1)), (6, .int (s.2.2.2.2.2.2.1)), (7, .int (s.2.2.2.2.2.2.2.1)), (8, .int (s.2.2.2.2.2.2.2.2.1)), (9, .int (s.2.2.2.2.2.2.2.2.2))] [] h o hz) (q_KI o hz)) x) : q_Ev none 228 96 [(0, .ref l0), (1, .int l1), (2, .int l2), (3, .int l3), (4, .int l4), (6, .int l6), (7, .int l7), (8, .int l8), (9, .int l9), (10, .int l10)] [.int s0] h o hz := by
  unfold f228_96 at hf
  refine ev_is2 (L' := [(0, .ref l0), (1, .int l1), (2, .int l2), (3, .int l3), (4, .int l4), (5, .int s0), (6, .int l6), (7, .int l7), (8, .int l8), (9, .int l9), (10, .int l10)]) (q_cod qk228 rfl) (by decide) rfl ?_
  refine ev_iload (q_cod qk228 rfl) (by decide) rfl ?_
  refine ev_ic (v := 1) (q_cod qk228 rfl) (by decide) (by decide) ?_
  refine em_ic_ne (q_cod qk228 rfl) (by decide) hf (fun c1 hf => ?_) (fun c1 hf => ?_)
  · refine ev_iload (q_cod qk228 rfl) (by decide) rfl ?_
    refine ev_goto (q_cod qk228 rfl) (by decide) ?_
    exact ev_weak (q_pk [0, 1, 2, 3, 4, 5, 7, 8, 9, 10] rfl) (f228_111_ok hf hK)
  · refine ev_iload (q_cod qk228 rfl) (by decide) rfl ?_
    exact ev_weak (q_pk [0, 1, 2, 3, 4, 5, 7, 8, 9, 10] rfl) (f228_111_ok hf hK)
def f228_82 (l0 : Nat) (l1 : Int32) (l2 : Int32) (l3 : Int32) (l4 : Int32) (l5 : Int32) (l6 : Int32) (l7 : Int32) (l9 : Int32) (l10 : Int32) (s0 : Int32) : m_M ((Nat × Int32 × Int32 × Int32 × Int32 × Int32 × Int32 × Int32 × Int32 × Int32) ⊕ Int32) :=
  if l9 = 0 then (f228_96 l0 l1 l2 l3 l4 l6 l7 s0 l9 l10 l10) else (f228_96 l0 l1 l2 l3 l4 l6 l7 s0 l9 l10 l5)
theorem f228_82_ok {l0 : Nat} {l1 : Int32} {l2 : Int32} {l3 : Int32} {l4 : Int32} {l5 : Int32} {l6 : Int32} {l7 : Int32} {l9 : Int32} {l10 : Int32} {s0 : Int32} {h : q_H} {o : q_O} {hz : q_H} {x : ((Nat × Int32 × Int32 × Int32 × Int32 × Int32 × Int32 × Int32 × Int32 × Int32) ⊕ Int32) × q_H} (hf : f228_82 l0 l1 l2 l3 l4 l5 l6 l7 l9 l10 s0 h = some x) (hK : (m_yK (fun (s : Nat × Int32 × Int32 × Int32 × Int32 × Int32 × Int32 × Int32 × Int32 × Int32) (h : q_H) => q_Ev none 228 25 [(0, .ref (s.1)), (1, .int (s.2.1)), (2, .int (s.2.2.1)), (3, .int (s.2.2.2.1)), (4, .int (s.2.2.2.2.1)), (5, .int (s.2.2.2.2.2.1)), (6, .int (s.2.2.2.2.2.2.1)), (7, .int (s.2.2.2.2.2.2.2.1)), (8, .int (s.2.2.2.2.2.2.2.2.1)), (9, .int (s.2.2.2.2.2.2.2.2.2))] [] h o hz) (q_KI o hz)) x) : q_Ev none 228 82 [(0, .ref l0), (1, .int l1), (2, .int l2), (3, .int l3), (4, .int l4), (5, .int l5), (6, .int l6), (7, .int l7), (9, .int l9), (10, .int l10)] [.int s0] h o hz := by
  unfold f228_82 at hf
  refine ev_is2 (L' := [(0, .ref l0), (1, .int l1), (2, .int l2), (3, .int l3), (4, .int l4), (5, .int l5), (6, .int l6), (7, .int l7), (8, .int s0), (9, .int l9), (10, .int l10)]) (q_cod qk228 rfl) (by decide) rfl ?_
  refine ev_iload (q_cod qk228 rfl) (by decide) rfl ?_
  refine em_if_ne (q_cod qk228 rfl) (by decide) hf (fun c1 hf => ?_) (fun c1 hf => ?_)
  · refine ev_iload (q_cod qk228 rfl) (by decide) rfl ?_
    refine ev_goto (q_cod qk228 rfl) (by decide) ?_
    exact ev_weak (q_pk [0, 1, 2, 3, 4, 6, 7, 8, 9, 10] rfl) (f228_96_ok hf hK)
  · refine ev_iload (q_cod qk228 rfl) (by decide) rfl ?_
    exact ev_weak (q_pk [0, 1, 2, 3, 4, 6, 7, 8, 9, 10] rfl) (f228_96_ok hf hK)
def f228_77 (l0 : Nat) (l1 : Int32) (l2 : Int32) (l3 : Int32) (l4 : Int32) (l5 : Int32) (l6 : Int32) (l7 : Int32) (l9 : Int32) (l10 : Int32) : m_M ((Nat × Int32 × Int32 × Int32 × Int32 × Int32 × Int32 × Int32 × Int32 × Int32) ⊕ Int32) :=
  f228_82 l0 l1 l2 l3 l4 l5 l6 l7 l9 l10 1
theorem f228_77_ok {l0 : Nat} {l1 : Int32} {l2 : Int32} {l3 : Int32} {l4 : Int32} {l5 : Int32} {l6 : Int32} {l7 : Int32} {l9 : Int32} {l10 : Int32} {h : q_H} {o : q_O} {hz : q_H} {x : ((Nat × Int32 × Int32 × Int32 × Int32 × Int32 × Int32 × Int32 × Int32 × Int32) ⊕ Int32) × q_H} (hf : f228_77 l0 l1 l2 l3 l4 l5 l6 l7 l9 l10 h = some x) (hK : (m_yK (fun (s : Nat × Int32 × Int32 × Int32 × Int32 × Int32 × Int32 × Int32 × Int32 × Int32) (h : q_H) => q_Ev none 228 25 [(0, .ref (s.1)), (1, .int (s.2.1)), (2, .int (s.2.2.1)), (3, .int (s.2.2.2.1)), (4, .int (s.2.2.2.2.1)), (5, .int (s.2.2.2.2.2.1)), (6, .int (s.2.2.2.2.2.2.1)), (7, .int (s.2.2.2.2.2.2.2.1)), (8, .int (s.2.2.2.2.2.2.2.2.1)), (9, .int (s.2.2.2.2.2.2.2.2.2))] [] h o hz) (q_KI o hz)) x) : q_Ev none 228 77 [(0, .ref l0), (1, .int l1), (2, .int l2), (3, .int l3), (4, .int l4), (5, .int l5), (6, .int l6), (7, .int l7), (9, .int l9), (10, .int l10)] [] h o hz := by
  unfold f228_77 at hf
  refine ev_ic (v := 1) (q_cod qk228 rfl) (by decide) (by decide) ?_
  refine ev_goto (q_cod qk228 rfl) (by decide) ?_
  exact (f228_82_ok hf hK)
def f228_157 (s0 : Int32) : m_M Int32 :=
  m_R s0
theorem f228_157_ok {s0 : Int32} {h : q_H} {o : q_O} {hz : q_H} {x : Int32 × q_H} (hf : f228_157 s0 h = some x) (hK : (q_KI o hz) x) : q_Ev none 228 157 [] [.int s0] h o hz := by
  unfold f228_157 at hf
  obtain rfl := m_R_inv hf
  obtain ⟨rfl, rfl⟩ := (show q_KI o hz (s0, _) from hK)
  exact ev_ret (q_cod qk228 rfl) rfl
def f228_134 (l0 : Nat) (l1 : Int32) (l2 : Int32) (l3 : Int32) (l5 : Int32) (l6 : Int32) (l7 : Int32) (l8 : Int32) : m_M Int32 :=
  if l8 = 0 then (m_B (m_aK l0 12) (fun _ => m_B (f229 l0 l1 l2 l3 l5 l6 l7) (fun v2 => f228_157 v2))) else (f228_157 (-3))
theorem f228_134_ok {l0 : Nat} {l1 : Int32} {l2 : Int32} {l3 : Int32} {l5 : Int32} {l6 : Int32} {l7 : Int32} {l8 : Int32} {h : q_H} {o : q_O} {hz : q_H} {x : Int32 × q_H} (hf : f228_134 l0 l1 l2 l3 l5 l6 l7 l8 h = some x) (hK : (q_KI o hz) x) : q_Ev none 228 134 [(0, .ref l0), (1, .int l1), (2, .int l2), (3, .int l3), (5, .int l5), (6, .int l6), (7, .int l7), (8, .int l8)] [] h o hz := by
  unfold f228_134 at hf
  refine ev_iload (q_cod qk228 rfl) (by decide) rfl ?_
  refine em_if_eq (q_cod qk228 rfl) (by decide) hf (fun c3 hf => ?_) (fun c3 hf => ?_)
  · refine ev_aload_n (q_cod qk228 rfl) (by decide) rfl ?_
    refine ev_iload_n (q_cod qk228 rfl) (by decide) rfl ?_
    refine ev_iload_n (q_cod qk228 rfl) (by decide) rfl ?_
    refine ev_iload_n (q_cod qk228 rfl) (by decide) rfl ?_
    refine ev_iload (q_cod qk228 rfl) (by decide) rfl ?_
    refine ev_iload (q_cod qk228 rfl) (by decide) rfl ?_
    refine ev_iload (q_cod qk228 rfl) (by decide) rfl ?_
    obtain ⟨g1, hf⟩ := m_aK_some hf
    refine em_call (v := (fun u => some (.int u))) (q_cod qk228 rfl) rfl rfl (q_cokV rfl rfl (Or.inr g1)) rfl (fun x e => f229_cl e) hf (fun v2 h hf => ?_)
    exact ev_weak (q_pk [] rfl) (f228_157_ok hf hK)
  · refine ev_bi (v := (-3)) (q_cod qk228 rfl) (by decide) (by decide) ?_
    refine ev_goto (q_cod qk228 rfl) (by decide) ?_
    exact ev_weak (q_pk [] rfl) (f228_157_ok hf hK)
def f228_25b (l0 : Nat) (l1 : Int32) (l2 : Int32) (l3 : Int32) (l4 : Int32) (l5 : Int32) (l6 : Int32) (l7 : Int32) (l8 : Int32) (l9 : Int32) : m_M ((Nat × Int32 × Int32 × Int32 × Int32 × Int32 × Int32 × Int32 × Int32 × Int32) ⊕ Int32) :=
  m_B (m_aK l0 12) (fun _ => m_B (f222 l0 l1 l2 l3) (fun v2 => if l9 < v2 then (m_B (m_gR 12 l0 12) (fun r3 => m_B (m_aK l0 12) (fun _ => m_B (f223 l0 l2 l3 l9) (fun v5 => m_B (m_lI r3 (l4 + v5)) (fun v6 => if v6 = (-9) then (m_B (f228_62) (fun r => m_R (.inr r))) else (if l8 = 0 then (if v6 = (-3) then (f228_77 l0 l1 l2 l3 l4 l5 l6 l7 l9 v6) else (f228_82 l0 l1 l2 l3 l4 l5 l6 l7 l9 v6 0)) else (f228_77 l0 l1 l2 l3 l4 l5 l6 l7 l9 v6))))))) else (m_B (f228_134 l0 l1 l2 l3 l5 l6 l7 l8) (fun r => m_R (.inr r)))))
theorem f228_25b_ok {l0 : Nat} {l1 : Int32} {l2 : Int32} {l3 : Int32} {l4 : Int32} {l5 : Int32} {l6 : Int32} {l7 : Int32} {l8 : Int32} {l9 : Int32} {h : q_H} {o : q_O} {hz : q_H} {x : ((Nat × Int32 × Int32 × Int32 × Int32 × Int32 × Int32 × Int32 × Int32 × Int32) ⊕ Int32) × q_H} (hf : f228_25b l0 l1 l2 l3 l4 l5 l6 l7 l8 l9 h = some x) (hK : (m_yK (fun (s : Nat × Int32 × Int32 × Int32 × Int32 × Int32 × Int32 × Int32 × Int32 × Int32) (h : q_H) => q_Ev none 228 25 [(0, .ref (s.1)), (1, .int (s.2.1)), (2, .int (s.2.2.1)), (3, .int (s.2.2.2.1)), (4, .int (s.2.2.2.2.1)), (5, .int (s.2.2.2.2.2.1)), (6, .int (s.2.2.2.2.2.2.1)), (7, .int (s.2.2.2.2.2.2.2.1)), (8, .int (s.2.2.2.2.2.2.2.2.1)), (9, .int (s.2.2.2.2.2.2.2.2.2))] [] h o hz) (q_KI o hz)) x) : q_Ev none 228 25 [(0, .ref l0), (1, .int l1), (2, .int l2), (3, .int l3), (4, .int l4), (5, .int l5), (6, .int l6), (7, .int l7), (8, .int l8), (9, .int l9)] [] h o hz := by
  unfold f228_25b at hf
  refine ev_iload (q_cod qk228 rfl) (by decide) rfl ?_
  refine ev_aload_n (q_cod qk228 rfl) (by decide) rfl ?_
  refine ev_iload_n (q_cod qk228 rfl) (by decide) rfl ?_
  refine ev_iload_n (q_cod qk228 rfl) (by decide) rfl ?_
  refine ev_iload_n (q_cod qk228 rfl) (by decide) rfl ?_
  obtain ⟨g1, hf⟩ := m_aK_some hf
  refine em_call (v := (fun u => some (.int u))) (q_cod qk228 rfl) rfl rfl (q_cokV rfl rfl (Or.inr g1)) rfl (fun x e => f222_cl e) hf (fun v2 h hf => ?_)
  refine em_ic_ge (q_cod qk228 rfl) (by decide) hf (fun c10 hf => ?_) (fun c10 hf => ?_)
  · refine ev_aload_n (q_cod qk228 rfl) (by decide) rfl ?_
    refine em_gR (q_cod qk228 rfl) (by decide) (by decide) hf (fun r3 hf => ?_)
    refine ev_iload (q_cod qk228 rfl) (by decide) rfl ?_
    refine ev_aload_n (q_cod qk228 rfl) (by decide) rfl ?_
    refine ev_iload_n (q_cod qk228 rfl) (by decide) rfl ?_
    refine ev_iload_n (q_cod qk228 rfl) (by decide) rfl ?_
    refine ev_iload (q_cod qk228 rfl) (by decide) rfl ?_
    obtain ⟨g4, hf⟩ := m_aK_some hf
    refine em_call (v := (fun u => some (.int u))) (q_cod qk228 rfl) rfl rfl (q_cokV rfl rfl (Or.inr g4)) rfl (fun x e => f223_cl e) hf (fun v5 h hf => ?_)
    refine ev_iadd (q_cod qk228 rfl) (by decide) ?_
    refine em_lI (q_cod qk228 rfl) (by decide) hf (fun v6 hf => ?_)
    refine ev_is2 (L' := [(0, .ref l0), (1, .int l1), (2, .int l2), (3, .int l3), (4, .int l4), (5, .int l5), (6, .int l6), (7, .int l7), (8, .int l8), (9, .int l9), (10, .int v6)]) (q_cod qk228 rfl) (by decide) rfl ?_
    refine ev_iload (q_cod qk228 rfl) (by decide) rfl ?_
    refine ev_bi (v := (-9)) (q_cod qk228 rfl) (by decide) (by decide) ?_
    refine em_ic_ne (q_cod qk228 rfl) (by decide) hf (fun c9 hf => ?_) (fun c9 hf => ?_)
    · obtain ⟨y0, hf0, hx⟩ := m_inr_some hf
      subst hx
      exact ev_weak (q_pk [] rfl) (f228_62_ok hf0 hK)
    · refine ev_iload (q_cod qk228 rfl) (by decide) rfl ?_
      refine em_if_ne (q_cod qk228 rfl) (by decide) hf (fun c8 hf => ?_) (fun c8 hf => ?_)
      · refine ev_iload (q_cod qk228 rfl) (by decide) rfl ?_
        refine ev_bi (v := (-3)) (q_cod qk228 rfl) (by decide) (by decide) ?_
        refine em_ic_ne (q_cod qk228 rfl) (by decide) hf (fun c7 hf => ?_) (fun c7 hf => ?_)
        · exact ev_weak (q_pk [0, 1, 2, 3, 4, 5, 6, 7, 9, 10] rfl) (f228_77_ok hf hK)
        · refine ev_ic (v := 0) (q_cod qk228 rfl) (by decide) (by decide) ?_
          exact ev_weak (q_pk [0, 1, 2, 3, 4, 5, 6, 7, 9, 10] rfl) (f228_82_ok hf hK)
      · exact ev_weak (q_pk [0, 1, 2, 3, 4, 5, 6, 7, 9, 10] rfl) (f228_77_ok hf hK)
  · obtain ⟨y0, hf0, hx⟩ := m_inr_some hf
    subst hx
    exact ev_weak (q_pk [0, 1, 2, 3, 5, 6, 7, 8] rfl) (f228_134_ok hf0 hK)
def f228_25 (l0 : Nat) (l1 : Int32) (l2 : Int32) (l3 : Int32) (l4 : Int32) (l5 : Int32) (l6 : Int32) (l7 : Int32) (l8 : Int32) (l9 : Int32) : m_M Int32 := m_W (fun s => f228_25b (s.1) (s.2.1) (s.2.2.1) (s.2.2.2.1) (s.2.2.2.2.1) (s.2.2.2.2.2.1) (s.2.2.2.2.2.2.1) (s.2.2.2.2.2.2.2.1) (s.2.2.2.2.2.2.2.2.1) (s.2.2.2.2.2.2.2.2.2)) 1000000 (l0, l1, l2, l3, l4, l5, l6, l7, l8, l9)
theorem f228_25_ok {l0 : Nat} {l1 : Int32} {l2 : Int32} {l3 : Int32} {l4 : Int32} {l5 : Int32} {l6 : Int32} {l7 : Int32} {l8 : Int32} {l9 : Int32} {h : q_H} {o : q_O} {hz : q_H} {x : Int32 × q_H} (hf : f228_25 l0 l1 l2 l3 l4 l5 l6 l7 l8 l9 h = some x) (hK : (q_KI o hz) x) : q_Ev none 228 25 [(0, .ref l0), (1, .int l1), (2, .int l2), (3, .int l3), (4, .int l4), (5, .int l5), (6, .int l6), (7, .int l7), (8, .int l8), (9, .int l9)] [] h o hz :=
  m_W_ok (P := (fun (s : Nat × Int32 × Int32 × Int32 × Int32 × Int32 × Int32 × Int32 × Int32 × Int32) (h : q_H) => q_Ev none 228 25 [(0, .ref (s.1)), (1, .int (s.2.1)), (2, .int (s.2.2.1)), (3, .int (s.2.2.2.1)), (4, .int (s.2.2.2.2.1)), (5, .int (s.2.2.2.2.2.1)), (6, .int (s.2.2.2.2.2.2.1)), (7, .int (s.2.2.2.2.2.2.2.1)), (8, .int (s.2.2.2.2.2.2.2.2.1)), (9, .int (s.2.2.2.2.2.2.2.2.2))] [] h o hz)) (K := (q_KI o hz)) (fun s h x h1 h2 => f228_25b_ok h1 h2) _ (l0, l1, l2, l3, l4, l5, l6, l7, l8, l9) _ _ hf hK
def f228 (l0 : Nat) (l1 : Int32) (l2 : Int32) (l3 : Int32) : m_M Int32 :=
  f228_25 l0 l1 l2 l3 (192 * l2) (-9) (-9) (-9) 0 0
theorem f228_ok {l0 : Nat} {l1 : Int32} {l2 : Int32} {l3 : Int32} {h : q_H} {o : q_O} {hz : q_H} {x : Int32 × q_H} (hf : f228 l0 l1 l2 l3 h = some x) (hK : (q_KI o hz) x) : q_Ev none 228 0 [(0, .ref l0), (1, .int l1), (2, .int l2), (3, .int l3)] [] h o hz := by
  unfold f228 at hf
  refine ev_si (v := 192) (q_cod qk228 rfl) (by decide) (by decide) ?_
  refine ev_iload_n (q_cod qk228 rfl) (by decide) rfl ?_
  refine ev_imul (q_cod qk228 rfl) (by decide) ?_
  refine ev_is2 (L' := [(0, .ref l0), (1, .int l1), (2, .int l2), (3, .int l3), (4, .int (192 * l2))]) (q_cod qk228 rfl) (by decide) rfl ?_
  refine ev_bi (v := (-9)) (q_cod qk228 rfl) (by decide) (by decide) ?_
  refine ev_is2 (L' := [(0, .ref l0), (1, .int l1), (2, .int l2), (3, .int l3), (4, .int (192 * l2)), (5, .int (-9))]) (q_cod qk228 rfl) (by decide) rfl ?_
  refine ev_bi (v := (-9)) (q_cod qk228 rfl) (by decide) (by decide) ?_
  refine ev_is2 (L' := [(0, .ref l0), (1, .int l1), (2, .int l2), (3, .int l3), (4, .int (192 * l2)), (5, .int (-9)), (6, .int (-9))]) (q_cod qk228 rfl) (by decide) rfl ?_
  refine ev_bi (v := (-9)) (q_cod qk228 rfl) (by decide) (by decide) ?_
  refine ev_is2 (L' := [(0, .ref l0), (1, .int l1), (2, .int l2), (3, .int l3), (4, .int (192 * l2)), (5, .int (-9)), (6, .int (-9)), (7, .int (-9))]) (q_cod qk228 rfl) (by decide) rfl ?_
  refine ev_ic (v := 0) (q_cod qk228 rfl) (by decide) (by decide) ?_
  refine ev_is2 (L' := [(0, .ref l0), (1, .int l1), (2, .int l2), (3, .int l3), (4, .int (192 * l2)), (5, .int (-9)), (6, .int (-9)), (7, .int (-9)), (8, .int 0)]) (q_cod qk228 rfl) (by decide) rfl ?_
  refine ev_ic (v := 0) (q_cod qk228 rfl) (by decide) (by decide) ?_
  refine ev_is2 (L' := [(0, .ref l0), (1, .int l1), (2, .int l2), (3, .int l3), (4, .int (192 * l2)), (5, .int (-9)), (6, .int (-9)), (7, .int (-9)), (8, .int 0), (9, .int 0)]) (q_cod qk228 rfl) (by decide) rfl ?_
  exact (f228_25_ok hf hK)
theorem f228_cl {l0 : Nat} {l1 : Int32} {l2 : Int32} {l3 : Int32} {h : q_H} {x : Int32 × q_H} (hf : f228 l0 l1 l2 l3 h = some x) : q_Cl 228 [.ref l0, .int l1, .int l2, .int l3] h (.inl (some (.int x.1))) x.2 := q_Cl.of rfl (q_LvS rfl rfl) (f228_ok hf ⟨rfl, rfl⟩)
