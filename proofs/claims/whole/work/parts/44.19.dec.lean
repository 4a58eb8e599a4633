/-! SmithyBenchModel.hasOwnField(II)Z -/
theorem qk277 : q_cs.getD 277 [] = qc_277 := rfl
def f277_31 (s0 : Int32) : m_M Int32 :=
  m_B (m_G (s0 = 0 ∨ s0 = 1)) (fun _ => m_R s0)
theorem f277_31_ok {s0 : Int32} {h : q_H} {o : q_O} {hz : q_H} {x : Int32 × q_H} (hf : f277_31 s0 h = some x) (hK : (q_KI o hz) x) : q_Ev none 277 31 [] [.int s0] h o hz := by
  unfold f277_31 at hf
  obtain ⟨g1, hf⟩ := m_G_some hf
  obtain rfl := m_R_inv hf
  obtain ⟨rfl, rfl⟩ := (show q_KI o hz (s0, _) from hK)
  exact ev_ret (q_cod qk277 rfl) (q_retZ g1)
def f277_30  : m_M Int32 :=
  f277_31 0
theorem f277_30_ok  {h : q_H} {o : q_O} {hz : q_H} {x : Int32 × q_H} (hf : f277_30 h = some x) (hK : (q_KI o hz) x) : q_Ev none 277 30 [] [] h o hz := by
  unfold f277_30 at hf
  refine ev_ic (v := 0) (q_cod qk277 rfl) (by decide) (by decide) ?_
  exact (f277_31_ok hf hK)
def f277 (l0 : Nat) (l1 : Int32) (l2 : Int32) : m_M Int32 :=
  m_B (m_aK l0 12) (fun _ => m_B (f204 l0 0 l1) (fun v2 => if v2 = 0 then (f277_30) else (m_B (f180 l2) (fun v3 => if v3 = 0 then (f277_30) else (m_B (m_aK l0 12) (fun _ => m_B (f210 l0 0 l1 l2) (fun v5 => if v5 = 0 then (f277_30) else (f277_31 1))))))))
theorem f277_ok {l0 : Nat} {l1 : Int32} {l2 : Int32} {h : q_H} {o : q_O} {hz : q_H} {x : Int32 × q_H} (hf : f277 l0 l1 l2 h = some x) (hK : (q_KI o hz) x) : q_Ev none 277 0 [(0, .ref l0), (1, .int l1), (2, .int l2)] [] h o hz := by
  unfold f277 at hf
  refine ev_aload_n (q_cod qk277 rfl) (by decide) rfl ?_
  refine ev_ic (v := 0) (q_cod qk277 rfl) (by decide) (by decide) ?_
  refine ev_iload_n (q_cod qk277 rfl) (by decide) rfl ?_
  obtain ⟨g1, hf⟩ := m_aK_some hf
  refine em_call (v := (fun u => some (.int u))) (q_cod qk277 rfl) rfl rfl (q_cokV rfl rfl (Or.inr g1)) rfl (fun x e => f204_cl e) hf (fun v2 h hf => ?_)
  refine em_if_eq (q_cod qk277 rfl) (by decide) hf (fun c8 hf => ?_) (fun c8 hf => ?_)
  · exact ev_weak (q_pk [] rfl) (f277_30_ok hf hK)
  · refine ev_iload_n (q_cod qk277 rfl) (by decide) rfl ?_
    refine em_call (v := (fun u => some (.int u))) (q_cod qk277 rfl) rfl rfl (q_cokS rfl rfl) rfl (fun x e => f180_cl e) hf (fun v3 h hf => ?_)
    refine em_if_eq (q_cod qk277 rfl) (by decide) hf (fun c7 hf => ?_) (fun c7 hf => ?_)
    · exact ev_weak (q_pk [] rfl) (f277_30_ok hf hK)
    · refine ev_aload_n (q_cod qk277 rfl) (by decide) rfl ?_
      refine ev_ic (v := 0) (q_cod qk277 rfl) (by decide) (by decide) ?_
      refine ev_iload_n (q_cod qk277 rfl) (by decide) rfl ?_
      refine ev_iload_n (q_cod qk277 rfl) (by decide) rfl ?_
      obtain ⟨g4, hf⟩ := m_aK_some hf
      refine em_call (v := (fun u => some (.int u))) (q_cod qk277 rfl) rfl rfl (q_cokV rfl rfl (Or.inr g4)) rfl (fun x e => f210_cl e) hf (fun v5 h hf => ?_)
      refine em_if_eq (q_cod qk277 rfl) (by decide) hf (fun c6 hf => ?_) (fun c6 hf => ?_)
      · exact ev_weak (q_pk [] rfl) (f277_30_ok hf hK)
      · refine ev_ic (v := 1) (q_cod qk277 rfl) (by decide) (by decide) ?_
        refine ev_goto (q_cod qk277 rfl) (by decide) ?_
        exact ev_weak (q_pk [] rfl) (f277_31_ok hf hK)
theorem f277_cl {l0 : Nat} {l1 : Int32} {l2 : Int32} {h : q_H} {x : Int32 × q_H} (hf : f277 l0 l1 l2 h = some x) : q_Cl 277 [.ref l0, .int l1, .int l2] h (.inl (some (.int x.1))) x.2 := q_Cl.of rfl (q_LvS rfl rfl) (f277_ok hf ⟨rfl, rfl⟩)
/-! SmithyBenchModel.isOfField(IIII)Z -/
theorem qk278 : q_cs.getD 278 [] = qc_278 := rfl
def f278_61 (s0 : Int32) : m_M Int32 :=
  m_B (m_G (s0 = 0 ∨ s0 = 1)) (fun _ => m_R s0)
theorem f278_61_ok {s0 : Int32} {h : q_H} {o : q_O} {hz : q_H} {x : Int32 × q_H} (hf : f278_61 s0 h = some x) (hK : (q_KI o hz) x) : q_Ev none 278 61 [] [.int s0] h o hz := by
  unfold f278_61 at hf
  obtain ⟨g1, hf⟩ := m_G_some hf
  obtain rfl := m_R_inv hf
  obtain ⟨rfl, rfl⟩ := (show q_KI o hz (s0, _) from hK)
  exact ev_ret (q_cod qk278 rfl) (q_retZ g1)
def f278_60  : m_M Int32 :=
  f278_61 0
theorem f278_60_ok  {h : q_H} {o : q_O} {hz : q_H} {x : Int32 × q_H} (hf : f278_60 h = some x) (hK : (q_KI o hz) x) : q_Ev none 278 60 [] [] h o hz := by
  unfold f278_60 at hf
  refine ev_ic (v := 0) (q_cod qk278 rfl) (by decide) (by decide) ?_
  exact (f278_61_ok hf hK)
def f278_30 (l0 : Nat) (l1 : Int32) (l2 : Int32) (l3 : Int32) (l4 : Int32) : m_M Int32 :=
  m_B (m_aK l0 12) (fun _ => m_B (f268 l0 l1 l2) (fun v2 => if v2 = (1000 + l3) then (m_B (m_aK l0 12) (fun _ => m_B (f200 l0 0 l1 l2) (fun v4 => if v4 = l4 then (f278_61 1) else (f278_60)))) else (f278_60)))
theorem f278_30_ok {l0 : Nat} {l1 : Int32} {l2 : Int32} {l3 : Int32} {l4 : Int32} {h : q_H} {o : q_O} {hz : q_H} {x : Int32 × q_H} (hf : f278_30 l0 l1 l2 l3 l4 h = some x) (hK : (q_KI o hz) x) : q_Ev none 278 30 [(0, .ref l0), (1, .int l1), (2, .int l2), (3, .int l3), (4, .int l4)] [] h o hz := by
  unfold f278_30 at hf
  refine ev_aload_n (q_cod qk278 rfl) (by decide) rfl ?_
  refine ev_iload_n (q_cod qk278 rfl) (by decide) rfl ?_
  refine ev_iload_n (q_cod qk278 rfl) (by decide) rfl ?_
  obtain ⟨g1, hf⟩ := m_aK_some hf
  refine em_call (v := (fun u => some (.int u))) (q_cod qk278 rfl) rfl rfl (q_cokV rfl rfl (Or.inr g1)) rfl (fun x e => f268_cl e) hf (fun v2 h hf => ?_)
  refine ev_si (v := 1000) (q_cod qk278 rfl) (by decide) (by decide) ?_
  refine ev_iload_n (q_cod qk278 rfl) (by decide) rfl ?_
  refine ev_iadd (q_cod qk278 rfl) (by decide) ?_
  refine em_ic_ne (q_cod qk278 rfl) (by decide) hf (fun c6 hf => ?_) (fun c6 hf => ?_)
  · refine ev_aload_n (q_cod qk278 rfl) (by decide) rfl ?_
    refine ev_ic (v := 0) (q_cod qk278 rfl) (by decide) (by decide) ?_
    refine ev_iload_n (q_cod qk278 rfl) (by decide) rfl ?_
    refine ev_iload_n (q_cod qk278 rfl) (by decide) rfl ?_
    obtain ⟨g3, hf⟩ := m_aK_some hf
    refine em_call (v := (fun u => some (.int u))) (q_cod qk278 rfl) rfl rfl (q_cokV rfl rfl (Or.inr g3)) rfl (fun x e => f200_cl e) hf (fun v4 h hf => ?_)
    refine ev_iload (q_cod qk278 rfl) (by decide) rfl ?_
    refine em_ic_ne (q_cod qk278 rfl) (by decide) hf (fun c5 hf => ?_) (fun c5 hf => ?_)
    · refine ev_ic (v := 1) (q_cod qk278 rfl) (by decide) (by decide) ?_
      refine ev_goto (q_cod qk278 rfl) (by decide) ?_
      exact ev_weak (q_pk [] rfl) (f278_61_ok hf hK)
    · exact ev_weak (q_pk [] rfl) (f278_60_ok hf hK)
  · exact ev_weak (q_pk [] rfl) (f278_60_ok hf hK)
def f278 (l0 : Nat) (l1 : Int32) (l2 : Int32) (l3 : Int32) (l4 : Int32) : m_M Int32 :=
  m_B (m_aK l0 12) (fun _ => m_B (f199 l0 0 l1 l2) (fun v2 => m_B (m_aK l0 12) (fun _ => m_B (f266 l0 l1 l2) (fun v4 => if v4 = 0 then (if v2 = 3 then (f278_30 l0 l1 l2 l3 l4) else (if v2 = 4 then (f278_30 l0 l1 l2 l3 l4) else (f278_60))) else (f278_30 l0 l1 l2 l3 l4)))))
theorem f278_ok {l0 : Nat} {l1 : Int32} {l2 : Int32} {l3 : Int32} {l4 : Int32} {h : q_H} {o : q_O} {hz : q_H} {x : Int32 × q_H} (hf : f278 l0 l1 l2 l3 l4 h = some x) (hK : (q_KI o hz) x) : q_Ev none 278 0 [(0, .ref l0), (1, .int l1), (2, .int l2), (3, .int l3), (4, .int l4)] [] h o hz := by
  unfold f278 at hf
  refine ev_aload_n (q_cod qk278 rfl) (by decide) rfl ?_
  refine ev_ic (v := 0) (q_cod qk278 rfl) (by decide) (by decide) ?_
  refine ev_iload_n (q_cod qk278 rfl) (by decide) rfl ?_
  refine ev_iload_n (q_cod qk278 rfl) (by decide) rfl ?_
  obtain ⟨g1, hf⟩ := m_aK_some hf
  refine em_call (v := (fun u => some (.int u))) (q_cod qk278 rfl) rfl rfl (q_cokV rfl rfl (Or.inr g1)) rfl (fun x e => f199_cl e) hf (fun v2 h hf => ?_)
  refine ev_is2 (L' := [(0, .ref l0), (1, .int l1), (2, .int l2), (3, .int l3), (4, .int l4), (5, .int v2)]) (q_cod qk278 rfl) (by decide) rfl ?_
  refine ev_aload_n (q_cod qk278 rfl) (by decide) rfl ?_
  refine ev_iload_n (q_cod qk278 rfl) (by decide) rfl ?_
  refine ev_iload_n (q_cod qk278 rfl) (by decide) rfl ?_
  obtain ⟨g3, hf⟩ := m_aK_some hf
  refine em_call (v := (fun u => some (.int u))) (q_cod qk278 rfl) rfl rfl (q_cokV rfl rfl (Or.inr g3)) rfl (fun x e => f266_cl e) hf (fun v4 h hf => ?_)
  refine em_if_ne (q_cod qk278 rfl) (by decide) hf (fun c7 hf => ?_) (fun c7 hf => ?_)
  · refine ev_iload (q_cod qk278 rfl) (by decide) rfl ?_
    refine ev_ic (v := 3) (q_cod qk278 rfl) (by decide) (by decide) ?_
    refine em_ic_eq (q_cod qk278 rfl) (by decide) hf (fun c6 hf => ?_) (fun c6 hf => ?_)
    · exact ev_weak (q_pk [0, 1, 2, 3, 4] rfl) (f278_30_ok hf hK)
    · refine ev_iload (q_cod qk278 rfl) (by decide) rfl ?_
      refine ev_ic (v := 4) (q_cod qk278 rfl) (by decide) (by decide) ?_
      refine em_ic_ne (q_cod qk278 rfl) (by decide) hf (fun c5 hf => ?_) (fun c5 hf => ?_)
      · exact ev_weak (q_pk [0, 1, 2, 3, 4] rfl) (f278_30_ok hf hK)
      · exact ev_weak (q_pk [] rfl) (f278_60_ok hf hK)
  · exact ev_weak (q_pk [0, 1, 2, 3, 4] rfl) (f278_30_ok hf hK)
theorem f278_cl {l0 : Nat} {l1 : Int32} {l2 : Int32} {l3 : Int32} {l4 : Int32} {h : q_H} {x : Int32 × q_H} (hf : f278 l0 l1 l2 l3 l4 h = some x) : q_Cl 278 [.ref l0, .int l1, .int l2, .int l3, .int l4] h (.inl (some (.int x.1))) x.2 := q_Cl.of rfl (q_LvS rfl rfl) (f278_ok hf ⟨rfl, rfl⟩)
/-! SmithyBenchModel.renameField(III)I -/
theorem qk279 : q_cs.getD 279 [] = qc_279 := rfl
def f279_237 (l0 : Nat) (l1 : Int32) (l2 : Int32) (l3 : Int32) (l6 : Int32) (l7 : Int32) (l8 : Int32) : m_M ((Nat × Int32 × Int32 × Int32 × Int32 × Int32 × Int32) ⊕ ((Nat × Int32 × Int32 × Int32 × Int32 × Int32) ⊕ Int32)) :=
  m_R (.inl (l0, l1, l2, l3, l6, l7, (l8 + 1)))
theorem f279_237_ok {l0 : Nat} {l1 : Int32} {l2 : Int32} {l3 : Int32} {l6 : Int32} {l7 : Int32} {l8 : Int32} {h : q_H} {o : q_O} {hz : q_H} {x : ((Nat × Int32 × Int32 × Int32 × Int32 × Int32 × Int32) ⊕ ((Nat × Int32 × Int32 × Int32 × Int32 × Int32) ⊕ Int32)) × q_H} (hf : f279_237 l0 l1 l2 l3 l6 l7 l8 h = some x) (hK : (m_yK (fun (s : Nat × Int32 × Int32 × Int32 × Int32 × Int32 × Int32) (h : q_H) => q_Ev none 279 145 [(0, .ref (s.1)), (1, .int (s.2.1)), (2, .int (s.2.2.1)), (3, .int (s.2.2.2.1)), (6, .int (s.2.2.2.2.1)), (7, .int (s.2.2.2.2.2.1)), (8, .int (s.2.2.2.2.2.2))] [] h o hz) (m_yK (fun (s : Nat × Int32 × Int32 × Int32 × Int32 × Int32) (h : q_H) => q_Ev none 279 116 [(0, .ref (s.1)), (1, .int (s.2.1)), (2, .int (s.2.2.1)), (3, .int (s.2.2.2.1)), (6, .int (s.2.2.2.2.1)), (7, .int (s.2.2.2.2.2))] [] h o hz) (q_KI o hz))) x) : q_Ev none 279 237 [(0, .ref l0), (1, .int l1), (2, .int l2), (3, .int l3), (6, .int l6), (7, .int l7), (8, .int l8)] [] h o hz := by
  unfold f279_237 at hf
  refine ev_inc (v := l8 + 1) (L' := [(0, .ref l0), (1, .int l1), (2, .int l2), (3, .int l3), (6, .int l6), (7, .int l7), (8, .int (l8 + 1))]) (q_cod qk279 rfl) (by decide) rfl rfl rfl ?_
  refine ev_goto (q_cod qk279 rfl) (by decide) ?_
  obtain rfl := m_R_inv hf
  exact (show q_Ev none 279 145 [(0, .ref l0), (1, .int l1), (2, .int l2), (3, .int l3), (6, .int l6), (7, .int l7), (8, .int (l8 + 1))] [] _ o hz from hK)
def f279_222 (l0 : Nat) (l1 : Int32) (l2 : Int32) (l3 : Int32) (l6 : Int32) (l7 : Int32) (l8 : Int32) : m_M ((Nat × Int32 × Int32 × Int32 × Int32 × Int32 × Int32) ⊕ ((Nat × Int32 × Int32 × Int32 × Int32 × Int32) ⊕ Int32)) :=
  m_B (m_aK l0 12) (fun _ => m_B (f199 l0 0 l7 l8) (fun v2 => m_B (m_aK l0 12) (fun _ => m_B (f260 l0 v2 l3 0) (fun _ => f279_237 l0 l1 l2 l3 l6 l7 l8))))
theorem f279_222_ok {l0 : Nat} {l1 : Int32} {l2 : Int32} {l3 : Int32} {l6 : Int32} {l7 : Int32} {l8 : Int32} {h : q_H} {o : q_O} {hz : q_H} {x : ((Nat × Int32 × Int32 × Int32 × Int32 × Int32 × Int32) ⊕ ((Nat × Int32 × Int32 × Int32 × Int32 × Int32) ⊕ Int32)) × q_H} (hf : f279_222 l0 l1 l2 l3 l6 l7 l8 h = some x) (hK : (m_yK (fun (s : Nat × Int32 × Int32 × Int32 × Int32 × Int32 × Int32) (h : q_H) => q_Ev none 279 145 [(0, .ref (s.1)), (1, .int (s.2.1)), (2, .int (s.2.2.1)), (3, .int (s.2.2.2.1)), (6, .int (s.2.2.2.2.1)), (7, .int (s.2.2.2.2.2.1)), (8, .int (s.2.2.2.2.2.2))] [] h o hz) (m_yK (fun (s : Nat × Int32 × Int32 × Int32 × Int32 × Int32) (h : q_H) => q_Ev none 279 116 [(0, .ref (s.1)), (1, .int (s.2.1)), (2, .int (s.2.2.1)), (3, .int (s.2.2.2.1)), (6, .int (s.2.2.2.2.1)), (7, .int (s.2.2.2.2.2))] [] h o hz) (q_KI o hz))) x) : q_Ev none 279 222 [(0, .ref l0), (1, .int l1), (2, .int l2), (3, .int l3), (6, .int l6), (7, .int l7), (8, .int l8)] [] h o hz := by
  unfold f279_222 at hf
  refine ev_aload_n (q_cod qk279 rfl) (by decide) rfl ?_
  refine ev_aload_n (q_cod qk279 rfl) (by decide) rfl ?_
  refine ev_ic (v := 0) (q_cod qk279 rfl) (by decide) (by decide) ?_
  refine ev_iload (q_cod qk279 rfl) (by decide) rfl ?_
  refine ev_iload (q_cod qk279 rfl) (by decide) rfl ?_
  obtain ⟨g1, hf⟩ := m_aK_some hf
  refine em_call (v := (fun u => some (.int u))) (q_cod qk279 rfl) rfl rfl (q_cokV rfl rfl (Or.inr g1)) rfl (fun x e => f199_cl e) hf (fun v2 h hf => ?_)
  refine ev_iload_n (q_cod qk279 rfl) (by decide) rfl ?_
  refine ev_ic (v := 0) (q_cod qk279 rfl) (by decide) (by decide) ?_
  obtain ⟨g3, hf⟩ := m_aK_some hf
  refine em_call (v := (fun _ => none)) (q_cod qk279 rfl) rfl rfl (q_cokV rfl rfl (Or.inr g3)) rfl (fun x e => f260_cl e) hf (fun _ h hf => ?_)
  exact (f279_237_ok hf hK)
def f279_249 (l0 : Nat) (l1 : Int32) (l2 : Int32) (l3 : Int32) (l6 : Int32) (l7 : Int32) : m_M ((Nat × Int32 × Int32 × Int32 × Int32 × Int32) ⊕ Int32) :=
  m_R (.inl (l0, l1, l2, l3, l6, (l7 + 1)))
theorem f279_249_ok {l0 : Nat} {l1 : Int32} {l2 : Int32} {l3 : Int32} {l6 : Int32} {l7 : Int32} {h : q_H} {o : q_O} {hz : q_H} {x : ((Nat × Int32 × Int32 × Int32 × Int32 × Int32) ⊕ Int32) × q_H} (hf : f279_249 l0 l1 l2 l3 l6 l7 h = some x) (hK : (m_yK (fun (s : Nat × Int32 × Int32 × Int32 × Int32 × Int32) (h : q_H) => q_Ev none 279 116 [(0, .ref (s.1)), (1, .int (s.2.1)), (2, .int (s.2.2.1)), (3, .int (s.2.2.2.1)), (6, .int (s.2.2.2.2.1)), (7, .int (s.2.2.2.2.2))] [] h o hz) (q_KI o hz)) x) : q_Ev none 279 249 [(0, .ref l0), (1, .int l1), (2, .int l2), (3, .int l3), (6, .int l6), (7, .int l7)] [] h o hz := by
  unfold f279_249 at hf
  refine ev_inc (v := l7 + 1) (L' := [(0, .ref l0), (1, .int l1), (2, .int l2), (3, .int l3), (6, .int l6), (7, .int (l7 + 1))]) (q_cod qk279 rfl) (by decide) rfl rfl rfl ?_
  refine ev_goto (q_cod qk279 rfl) (by decide) ?_
  obtain rfl := m_R_inv hf
  exact (show q_Ev none 279 116 [(0, .ref l0), (1, .int l1), (2, .int l2), (3, .int l3), (6, .int l6), (7, .int (l7 + 1))] [] _ o hz from hK)
def f279_243 (l0 : Nat) (l1 : Int32) (l2 : Int32) (l3 : Int32) (l6 : Int32) (l7 : Int32) : m_M ((Nat × Int32 × Int32 × Int32 × Int32 × Int32) ⊕ Int32) :=
  m_B (m_aK l0 12) (fun _ => m_B (f264 l0 l7) (fun _ => f279_249 l0 l1 l2 l3 l6 l7))
theorem f279_243_ok {l0 : Nat} {l1 : Int32} {l2 : Int32} {l3 : Int32} {l6 : Int32} {l7 : Int32} {h : q_H} {o : q_O} {hz : q_H} {x : ((Nat × Int32 × Int32 × Int32 × Int32 × Int32) ⊕ Int32) × q_H} (hf : f279_243 l0 l1 l2 l3 l6 l7 h = some x) (hK : (m_yK (fun (s : Nat × Int32 × Int32 × Int32 × Int32 × Int32) (h : q_H) => q_Ev none 279 116 [(0, .ref (s.1)), (1, .int (s.2.1)), (2, .int (s.2.2.1)), (3, .int (s.2.2.2.1)), (6, .int (s.2.2.2.2.1)), (7, .int (s.2.2.2.2.2))] [] h o hz) (q_KI o hz)) x) : q_Ev none 279 243 [(0, .ref l0), (1, .int l1), (2, .int l2), (3, .int l3), (6, .int l6), (7, .int l7)] [] h o hz := by
  unfold f279_243 at hf
  refine ev_aload_n (q_cod qk279 rfl) (by decide) rfl ?_
  refine ev_iload (q_cod qk279 rfl) (by decide) rfl ?_
  obtain ⟨g1, hf⟩ := m_aK_some hf
  refine em_call (v := (fun _ => none)) (q_cod qk279 rfl) rfl rfl (q_cokV rfl rfl (Or.inr g1)) rfl (fun x e => f264_cl e) hf (fun _ h hf => ?_)
  exact (f279_249_ok hf hK)
def f279_145b (l0 : Nat) (l1 : Int32) (l2 : Int32) (l3 : Int32) (l6 : Int32) (l7 : Int32) (l8 : Int32) : m_M ((Nat × Int32 × Int32 × Int32 × Int32 × Int32 × Int32) ⊕ ((Nat × Int32 × Int32 × Int32 × Int32 × Int32) ⊕ Int32)) :=
  m_B (m_aK l0 12) (fun _ => m_B (f270 l0 l7) (fun v2 => if l8 < v2 then (m_B (m_aK l0 12) (fun _ => m_B (f278 l0 l7 l8 l1 l2) (fun v4 => if v4 = 0 then (m_B (m_aK l0 12) (fun _ => m_B (f261 l0 l7 l8) (fun _ => f279_237 l0 l1 l2 l3 l6 l7 l8))) else (m_B (m_aK l0 12) (fun _ => m_B (f266 l0 l7 l8) (fun v8 => if v8 = 0 then (f279_222 l0 l1 l2 l3 (l6 + 1) l7 l8) else (m_B (m_aK l0 12) (fun _ => m_B (f225 l0 0 l7 l8 l3) (fun v10 => m_B (f267 v10) (fun v11 => if v11 = 0 then (f279_222 l0 l1 l2 l3 (l6 + 1) l7 l8) else (m_B (m_aK l0 12) (fun _ => m_B (f263 l0 l7 l8 l3) (fun _ => f279_237 l0 l1 l2 l3 (l6 + 1) l7 l8))))))))))))) else (m_B (f279_243 l0 l1 l2 l3 l6 l7) (fun r => m_R (.inr r)))))
theorem f279_145b_ok {l0 : Nat} {l1 : Int32} {l2 : Int32} {l3 : Int32} {l6 : Int32} {l7 : Int32} {l8 : Int32} {h : q_H} {o : q_O} {hz : q_H} {x : ((Nat × Int32 × Int32 × Int32 × Int32 × Int32 × Int32) ⊕ ((Nat × Int32 × Int32 × Int32 × Int32 × Int32) ⊕ Int32)) × q_H} (hf : f279_145b l0 l1 l2 l3 l6 l7 l8 h = some x) (hK : (m_yK (fun (s : Nat × Int32 × Int32 × Int32 × Int32 × Int32 × Int32) (h : q_H) => q_Ev none 279 145 [(0, .ref (s.1)), (1, .int (s.2.1)), (2, .int (s.2.2.1)), (3, .int (s.2.2.2.1)), (6, .int (s.2.2.2.2.1)), (7, .int (s.2.2.2.2.2.1)), (8, .int (s.2.2.2.2.2.2))] [] h o hz) (m_yK (fun (s : Nat × Int32 × Int32 × Int32 × Int32 × Int32) (h : q_H) => q_Ev none 279 116 [(0, .ref (s.1)), (1, .int (s.2.1)), (2, .int (s.2.2.1)), (3, .int (s.2.2.2.1)), (6, .int (s.2.2.2.2.1)), (7, .int (s.2.2.2.2.2))] [] h o hz) (q_KI o hz))) x) : q_Ev none 279 145 [(0, .ref l0), (1, .int l1), (2, .int l2), (3, .int l3), (6, .int l6), (7, .int l7), (8, .int l8)] [] h o hz := by
  unfold f279_145b at hf
  refine ev_iload (q_cod qk279 rfl) (by decide) rfl ?_
  refine ev_aload_n (q_cod qk279 rfl) (by decide) rfl ?_
  refine ev_iload (q_cod qk279 rfl) (by decide) rfl ?_
  obtain ⟨g1, hf⟩ := m_aK_some hf
  refine em_call (v := (fun u => some (.int u))) (q_cod qk279 rfl) rfl rfl (q_cokV rfl rfl (Or.inr g1)) rfl (fun x e => f270_cl e) hf (fun v2 h hf => ?_)
  refine em_ic_ge (q_cod qk279 rfl) (by decide) hf (fun c17 hf => ?_) (fun c17 hf => ?_)
  · refine ev_aload_n (q_cod qk279 rfl) (by decide) rfl ?_
    refine ev_iload (q_cod qk279 rfl) (by decide) rfl ?_
    refine ev_iload (q_cod qk279 rfl) (by decide) rfl ?_
    refine ev_iload_n (q_cod qk279 rfl) (by decide) rfl ?_
    refine ev_iload_n (q_cod qk279 rfl) (by decide) rfl ?_
    obtain ⟨g3, hf⟩ := m_aK_some hf
    refine em_call (v := (fun u => some (.int u))) (q_cod qk279 rfl) rfl rfl (q_cokV rfl rfl (Or.inr g3)) rfl (fun x e => f278_cl e) hf (fun v4 h hf => ?_)
    refine em_if_ne (q_cod qk279 rfl) (by decide) hf (fun c16 hf => ?_) (fun c16 hf => ?_)
    · refine ev_aload_n (q_cod qk279 rfl) (by decide) rfl ?_
      refine ev_iload (q_cod qk279 rfl) (by decide) rfl ?_
      refine ev_iload (q_cod qk279 rfl) (by decide) rfl ?_
      obtain ⟨g5, hf⟩ := m_aK_some hf
      refine em_call (v := (fun _ => none)) (q_cod qk279 rfl) rfl rfl (q_cokV rfl rfl (Or.inr g5)) rfl (fun x e => f261_cl e) hf (fun _ h hf => ?_)
      refine ev_goto (q_cod qk279 rfl) (by decide) ?_
      exact (f279_237_ok hf hK)
    · refine ev_inc (v := l6 + 1) (L' := [(0, .ref l0), (1, .int l1), (2, .int l2), (3, .int l3), (6, .int (l6 + 1)), (7, .int l7), (8, .int l8)]) (q_cod qk279 rfl) (by decide) rfl rfl rfl ?_
      refine ev_aload_n (q_cod qk279 rfl) (by decide) rfl ?_
      refine ev_iload (q_cod qk279 rfl) (by decide) rfl ?_
      refine ev_iload (q_cod qk279 rfl) (by decide) rfl ?_
      obtain ⟨g7, hf⟩ := m_aK_some hf
      refine em_call (v := (fun u => some (.int u))) (q_cod qk279 rfl) rfl rfl (q_cokV rfl rfl (Or.inr g7)) rfl (fun x e => f266_cl e) hf (fun v8 h hf => ?_)
      refine em_if_eq (q_cod qk279 rfl) (by decide) hf (fun c15 hf => ?_) (fun c15 hf => ?_)
      · exact (f279_222_ok hf hK)
      · refine ev_aload_n (q_cod qk279 rfl) (by decide) rfl ?_
        refine ev_ic (v := 0) (q_cod qk279 rfl) (by decide) (by decide) ?_
        refine ev_iload (q_cod qk279 rfl) (by decide) rfl ?_
        refine ev_iload (q_cod qk279 rfl) (by decide) rfl ?_
        refine ev_iload_n (q_cod qk279 rfl) (by decide) rfl ?_
        obtain ⟨g9, hf⟩ := m_aK_some hf
        refine em_call (v := (fun u => some (.int u))) (q_cod qk279 rfl) rfl rfl (q_cokV rfl rfl (Or.inr g9)) rfl (fun x e => f225_cl e) hf (fun v10 h hf => ?_)
        refine em_call (v := (fun u => some (.int u))) (q_cod qk279 rfl) rfl rfl (q_cokS rfl rfl) rfl (fun x e => f267_cl e) hf (fun v11 h hf => ?_)
        refine em_if_eq (q_cod qk279 rfl) (by decide) hf (fun c14 hf => ?_) (fun c14 hf => ?_)
        · exact (f279_222_ok hf hK)
        · refine ev_aload_n (q_cod qk279 rfl) (by decide) rfl ?_
          refine ev_iload (q_cod qk279 rfl) (by decide) rfl ?_
          refine ev_iload (q_cod qk279 rfl) (by decide) rfl ?_
          refine ev_iload_n (q_cod qk279 rfl) (by decide) rfl ?_
          obtain ⟨g12, hf⟩ := m_aK_some hf
          refine em_call (v := (fun _ => none)) (q_cod qk279 rfl) rfl rfl (q_cokV rfl rfl (Or.inr g12)) rfl (fun x e => f263_cl e) hf (fun _ h hf => ?_)
          refine ev_goto (q_cod qk279 rfl) (by decide) ?_
          exact (f279_237_ok hf hK)
  · obtain ⟨y0, hf0, hx⟩ := m_inr_some hf
    subst hx
    exact ev_weak (q_pk [0, 1, 2, 3, 4, 5] rfl) (f279_243_ok hf0 hK)
def f279_145 (l0 : Nat) (l1 : Int32) (l2 : Int32) (l3 : Int32) (l6 : Int32) (l7 : Int32) (l8 : Int32) : m_M ((Nat × Int32 × Int32 × Int32 × Int32 × Int32) ⊕ Int32) := m_W (fun s => f279_145b (s.1) (s.2.1) (s.2.2.1) (s.2.2.2.1) (s.2.2.2.2.1) (s.2.2.2.2.2.1) (s.2.2.2.2.2.2)) 1000000 (l0, l1, l2, l3, l6, l7, l8)
theorem f279_145_ok {l0 : Nat} {l1 : Int32} {l2 : Int32} {l3 : Int32} {l6 : Int32} {l7 : Int32} {l8 : Int32} {h : q_H} {o : q_O} {hz : q_H} {x : ((Nat × Int32 × Int32 × Int32 × Int32 × Int32) ⊕ Int32) × q_H} (hf : f279_145 l0 l1 l2 l3 l6 l7 l8 h = some x) (hK : (m_yK (fun (s : Nat × Int32 × Int32 × Int32 × Int32 × Int32) (h : q_H) => q_Ev none 279 116 [(0, .ref (s.1)), (1, .int (s.2.1)), (2, .int (s.2.2.1)), (3, .int (s.2.2.2.1)), (6, .int (s.2.2.2.2.1)), (7, .int (s.2.2.2.2.2))] [] h o hz) (q_KI o hz)) x) : q_Ev none 279 145 [(0, .ref l0), (1, .int l1), (2, .int l2), (3, .int l3), (6, .int l6), (7, .int l7), (8, .int l8)] [] h o hz :=
  m_W_ok (P := (fun (s : Nat × Int32 × Int32 × Int32 × Int32 × Int32 × Int32) (h : q_H) => q_Ev none 279 145 [(0, .ref (s.1)), (1, .int (s.2.1)), (2, .int (s.2.2.1)), (3, .int (s.2.2.2.1)), (6, .int (s.2.2.2.2.1)), (7, .int (s.2.2.2.2.2.1)), (8, .int (s.2.2.2.2.2.2))] [] h o hz)) (K := (m_yK (fun (s : Nat × Int32 × Int32 × Int32 × Int32 × Int32) (h : q_H) => q_Ev none 279 116 [(0, .ref (s.1)), (1, .int (s.2.1)), (2, .int (s.2.2.1)), (3, .int (s.2.2.2.1)), (6, .int (s.2.2.2.2.1)), (7, .int (s.2.2.2.2.2))] [] h o hz) (q_KI o hz))) (fun s h x h1 h2 => f279_145b_ok h1 h2) _ (l0, l1, l2, l3, l6, l7, l8) _ _ hf hK
def f279_269 (s0 : Int32) : m_M Int32 :=
  m_R s0
theorem f279_269_ok {s0 : Int32} {h : q_H} {o : q_O} {hz : q_H} {x : Int32 × q_H} (hf : f279_269 s0 h = some x) (hK : (q_KI o hz) x) : q_Ev none 279 269 [] [.int s0] h o hz := by
  unfold f279_269 at hf
  obtain rfl := m_R_inv hf
  obtain ⟨rfl, rfl⟩ := (show q_KI o hz (s0, _) from hK)
  exact ev_ret (q_cod qk279 rfl) rfl
def f279_255 (l0 : Nat) (l6 : Int32) : m_M Int32 :=
  m_B (m_aK l0 12) (fun _ => m_B (f271 l0) (fun v2 => if v2 = 0 then (f279_269 (-6)) else (f279_269 l6)))
theorem f279_255_ok {l0 : Nat} {l6 : Int32} {h : q_H} {o : q_O} {hz : q_H} {x : Int32 × q_H} (hf : f279_255 l0 l6 h = some x) (hK : (q_KI o hz) x) : q_Ev none 279 255 [(0, .ref l0), (6, .int l6)] [] h o hz := by
  unfold f279_255 at hf
  refine ev_aload_n (q_cod qk279 rfl) (by decide) rfl ?_
  obtain ⟨g1, hf⟩ := m_aK_some hf
  refine em_call (v := (fun u => some (.int u))) (q_cod qk279 rfl) rfl rfl (q_cokV rfl rfl (Or.inr g1)) rfl (fun x e => f271_cl e) hf (fun v2 h hf => ?_)
  refine em_if_eq (q_cod qk279 rfl) (by decide) hf (fun c3 hf => ?_) (fun c3 hf => ?_)
  · refine ev_bi (v := (-6)) (q_cod qk279 rfl) (by decide) (by decide) ?_
    exact ev_weak (q_pk [] rfl) (f279_269_ok hf hK)
  · refine ev_iload (q_cod qk279 rfl) (by decide) rfl ?_
    refine ev_goto (q_cod qk279 rfl) (by decide) ?_
    exact ev_weak (q_pk [] rfl) (f279_269_ok hf hK)
def f279_116b (l0 : Nat) (l1 : Int32) (l2 : Int32) (l3 : Int32) (l6 : Int32) (l7 : Int32) : m_M ((Nat × Int32 × Int32 × Int32 × Int32 × Int32) ⊕ Int32) :=
  m_B (m_aK l0 12) (fun _ => m_B (f265 l0) (fun v2 => if l7 < v2 then (m_B (m_aK l0 12) (fun _ => m_B (f196 l0 0 l7 0) (fun v4 => if v4 = 1 then (m_B (m_pI 12 l0 38 0) (fun _ => f279_145 l0 l1 l2 l3 l6 l7 0)) else (f279_249 l0 l1 l2 l3 l6 l7)))) else (m_B (f279_255 l0 l6) (fun r => m_R (.inr r)))))
theorem f279_116b_ok {l0 : Nat} {l1 : Int32} {l2 : Int32} {l3 : Int32} {l6 : Int32} {l7 : Int32} {h : q_H} {o : q_O} {hz : q_H} {x : ((Nat × Int32 × Int32 × Int32 × Int32 × Int32) ⊕ Int32) × q_H} (hf : f279_116b l0 l1 l2 l3 l6 l7 h = some x) (hK : (m_yK (fun (s : Nat × Int32 × Int32 × Int32 × Int32 × Int32) (h : q_H) => q_Ev none 279 116 [(0, .ref (s.1)), (1, .int (s.2.1)), (2, .int (s.2.2.1)), (3, .int (s.2.2.2.1)), (6, .int (s.2.2.2.2.1)), (7, .int (s.2.2.2.2.2))] [] h o hz) (q_KI o hz)) x) : q_Ev none 279 116 [(0, .ref l0), (1, .int l1), (2, .int l2), (3, .int l3), (6, .int l6), (7, .int l7)] [] h o hz := by
  unfold f279_116b at hf
  refine ev_iload (q_cod qk279 rfl) (by decide) rfl ?_
  refine ev_aload_n (q_cod qk279 rfl) (by decide) rfl ?_
  obtain ⟨g1, hf⟩ := m_aK_some hf
  refine em_call (v := (fun u => some (.int u))) (q_cod qk279 rfl) rfl rfl (q_cokV rfl rfl (Or.inr g1)) rfl (fun x e => f265_cl e) hf (fun v2 h hf => ?_)
  refine em_ic_ge (q_cod qk279 rfl) (by decide) hf (fun c6 hf => ?_) (fun c6 hf => ?_)
  · refine ev_aload_n (q_cod qk279 rfl) (by decide) rfl ?_
    refine ev_ic (v := 0) (q_cod qk279 rfl) (by decide) (by decide) ?_
    refine ev_iload (q_cod qk279 rfl) (by decide) rfl ?_
    refine ev_ic (v := 0) (q_cod qk279 rfl) (by decide) (by decide) ?_
    obtain ⟨g3, hf⟩ := m_aK_some hf
    refine em_call (v := (fun u => some (.int u))) (q_cod qk279 rfl) rfl rfl (q_cokV rfl rfl (Or.inr g3)) rfl (fun x e => f196_cl e) hf (fun v4 h hf => ?_)
    refine ev_ic (v := 1) (q_cod qk279 rfl) (by decide) (by decide) ?_
    refine em_ic_ne (q_cod qk279 rfl) (by decide) hf (fun c5 hf => ?_) (fun c5 hf => ?_)
    · refine ev_aload_n (q_cod qk279 rfl) (by decide) rfl ?_
      refine ev_ic (v := 0) (q_cod qk279 rfl) (by decide) (by decide) ?_
      refine em_pI (q_cod qk279 rfl) (by decide) (by decide) (by decide) hf (fun hf => ?_)
      refine ev_ic (v := 0) (q_cod qk279 rfl) (by decide) (by decide) ?_
      refine ev_is2 (L' := [(0, .ref l0), (1, .int l1), (2, .int l2), (3, .int l3), (6, .int l6), (7, .int l7), (8, .int 0)]) (q_cod qk279 rfl) (by decide) rfl ?_
      exact (f279_145_ok hf hK)
    · exact (f279_249_ok hf hK)
  · obtain ⟨y0, hf0, hx⟩ := m_inr_some hf
    subst hx
    exact ev_weak (q_pk [0, 4] rfl) (f279_255_ok hf0 hK)
def f279_116 (l0 : Nat) (l1 : Int32) (l2 : Int32) (l3 : Int32) (l6 : Int32) (l7 : Int32) : m_M Int32 := m_W (fun s => f279_116b (s.1) (s.2.1) (s.2.2.1) (s.2.2.2.1) (s.2.2.2.2.1) (s.2.2.2.2.2)) 1000000 (l0, l1, l2, l3, l6, l7)
theorem f279_116_ok {l0 : Nat} {l1 : Int32} {l2 : Int32} {l3 : Int32} {l6 : Int32} {l7 : Int32} {h : q_H} {o : q_O} {hz : q_H} {x : Int32 × q_H} (hf : f279_116 l0 l1 l2 l3 l6 l7 h = some x) (hK : (q_KI o hz) x) : q_Ev none 279 116 [(0, .ref l0), (1, .int l1), (2, .int l2), (3, .int l3), (6, .int l6), (7, .int l7)] [] h o hz :=
  m_W_ok (P := (fun (s : Nat × Int32 × Int32 × Int32 × Int32 × Int32) (h : q_H) => q_Ev none 279 116 [(0, .ref (s.1)), (1, .int (s.2.1)), (2, .int (s.2.2.1)), (3, .int (s.2.2.2.1)), (6, .int (s.2.2.2.2.1)), (7, .int (s.2.2.2.2.2))] [] h o hz)) (K := (q_KI o hz)) (fun s h x h1 h2 => f279_116b_ok h1 h2) _ (l0, l1, l2, l3, l6, l7) _ _ hf hK
def f279_46 (l0 : Nat) (l1 : Int32) (l2 : Int32) (l3 : Int32) (s0 : Nat) (s1 : Int32) : m_M Int32 :=
  m_B (m_aK s0 12) (fun _ => m_B (f178 s0 s1) (fun v2 => if v2 = 0 then (m_B (m_aK l0 12) (fun _ => m_B (f212 l0 0 l1 l3) (fun v4 => if v4 = 0 then (m_B (m_aK l0 12) (fun _ => m_B (f203 l0 0 2) (fun _ => m_B (m_gR 12 l0 1) (fun r7 => m_B (m_gR 12 l0 1) (fun r8 => m_B (m_lI r8 ((28408 + (16 * l1)) + l2)) (fun v9 => m_B (m_wI r7 ((28408 + (16 * l1)) + l3) v9) (fun _ => m_B (m_gR 12 l0 1) (fun r10 => m_B (m_wI r10 ((28408 + (16 * l1)) + l2) 0) (fun _ => f279_116 l0 l1 l2 l3 0 0))))))))) else (m_R (-1))))) else (m_R 0)))
theorem f279_46_ok {l0 : Nat} {l1 : Int32} {l2 : Int32} {l3 : Int32} {s0 : Nat} {s1 : Int32} {h : q_H} {o : q_O} {hz : q_H} {x : Int32 × q_H} (hf : f279_46 l0 l1 l2 l3 s0 s1 h = some x) (hK : (q_KI o hz) x) : q_Ev none 279 46 [(0, .ref l0), (1, .int l1), (2, .int l2), (3, .int l3)] [.int s1, .ref s0] h o hz := by
  unfold f279_46 at hf
  obtain ⟨g1, hf⟩ := m_aK_some hf
  refine em_call (v := (fun u => some (.int u))) (q_cod qk279 rfl) rfl rfl (q_cokV rfl rfl (Or.inr g1)) rfl (fun x e => f178_cl e) hf (fun v2 h hf => ?_)
  refine em_if_eq (q_cod qk279 rfl) (by decide) hf (fun c12 hf => ?_) (fun c12 hf => ?_)
  · refine ev_aload_n (q_cod qk279 rfl) (by decide) rfl ?_
    refine ev_ic (v := 0) (q_cod qk279 rfl) (by decide) (by decide) ?_
    refine ev_iload_n (q_cod qk279 rfl) (by decide) rfl ?_
    refine ev_iload_n (q_cod qk279 rfl) (by decide) rfl ?_
    obtain ⟨g3, hf⟩ := m_aK_some hf
    refine em_call (v := (fun u => some (.int u))) (q_cod qk279 rfl) rfl rfl (q_cokV rfl rfl (Or.inr g3)) rfl (fun x e => f212_cl e) hf (fun v4 h hf => ?_)
    refine em_if_eq (q_cod qk279 rfl) (by decide) hf (fun c11 hf => ?_) (fun c11 hf => ?_)
    · refine ev_aload_n (q_cod qk279 rfl) (by decide) rfl ?_
      refine ev_ic (v := 0) (q_cod qk279 rfl) (by decide) (by decide) ?_
      refine ev_ic (v := 2) (q_cod qk279 rfl) (by decide) (by decide) ?_
      obtain ⟨g5, hf⟩ := m_aK_some hf
      refine em_call (v := (fun _ => none)) (q_cod qk279 rfl) rfl rfl (q_cokV rfl rfl (Or.inr g5)) rfl (fun x e => f203_cl e) hf (fun _ h hf => ?_)
      refine ev_si (v := 28408) (q_cod qk279 rfl) (by decide) (by decide) ?_
      refine ev_bi (v := 16) (q_cod qk279 rfl) (by decide) (by decide) ?_
      refine ev_iload_n (q_cod qk279 rfl) (by decide) rfl ?_
      refine ev_imul (q_cod qk279 rfl) (by decide) ?_
      refine ev_iadd (q_cod qk279 rfl) (by decide) ?_
      refine ev_is2 (L' := [(0, .ref l0), (1, .int l1), (2, .int l2), (3, .int l3), (5, .int (28408 + (16 * l1)))]) (q_cod qk279 rfl) (by decide) rfl ?_
      refine ev_aload_n (q_cod qk279 rfl) (by decide) rfl ?_
      refine em_gR (q_cod qk279 rfl) (by decide) (by decide) hf (fun r7 hf => ?_)
      refine ev_iload (q_cod qk279 rfl) (by decide) rfl ?_
      refine ev_iload_n (q_cod qk279 rfl) (by decide) rfl ?_
      refine ev_iadd (q_cod qk279 rfl) (by decide) ?_
      refine ev_aload_n (q_cod qk279 rfl) (by decide) rfl ?_
      refine em_gR (q_cod qk279 rfl) (by decide) (by decide) hf (fun r8 hf => ?_)
      refine ev_iload (q_cod qk279 rfl) (by decide) rfl ?_
      refine ev_iload_n (q_cod qk279 rfl) (by decide) rfl ?_
      refine ev_iadd (q_cod qk279 rfl) (by decide) ?_
      refine em_lI (q_cod qk279 rfl) (by decide) hf (fun v9 hf => ?_)
      refine em_wI (q_cod qk279 rfl) (by decide) hf (fun hf => ?_)
      refine ev_aload_n (q_cod qk279 rfl) (by decide) rfl ?_
      refine em_gR (q_cod qk279 rfl) (by decide) (by decide) hf (fun r10 hf => ?_)
      refine ev_iload (q_cod qk279 rfl) (by decide) rfl ?_
      refine ev_iload_n (q_cod qk279 rfl) (by decide) rfl ?_
      refine ev_iadd (q_cod qk279 rfl) (by decide) ?_
      refine ev_ic (v := 0) (q_cod qk279 rfl) (by decide) (by decide) ?_
      refine em_wI (q_cod qk279 rfl) (by decide) hf (fun hf => ?_)
      refine ev_ic (v := 0) (q_cod qk279 rfl) (by decide) (by decide) ?_
      refine ev_is2 (L' := [(0, .ref l0), (1, .int l1), (2, .int l2), (3, .int l3), (5, .int (28408 + (16 * l1))), (6, .int 0)]) (q_cod qk279 rfl) (by decide) rfl ?_
      refine ev_ic (v := 0) (q_cod qk279 rfl) (by decide) (by decide) ?_
      refine ev_is2 (L' := [(0, .ref l0), (1, .int l1), (2, .int l2), (3, .int l3), (5, .int (28408 + (16 * l1))), (6, .int 0), (7, .int 0)]) (q_cod qk279 rfl) (by decide) rfl ?_
      exact ev_weak (q_pk [0, 1, 2, 3, 5, 6] rfl) (f279_116_ok hf hK)
    · refine ev_ic (v := (-1)) (q_cod qk279 rfl) (by decide) (by decide) ?_
      obtain rfl := m_R_inv hf
      obtain ⟨rfl, rfl⟩ := (show q_KI o hz ((-1), _) from hK)
      exact ev_ret (q_cod qk279 rfl) rfl
  · refine ev_ic (v := 0) (q_cod qk279 rfl) (by decide) (by decide) ?_
    obtain rfl := m_R_inv hf
    obtain ⟨rfl, rfl⟩ := (show q_KI o hz (0, _) from hK)
    exact ev_ret (q_cod qk279 rfl) rfl
def f279_30 (l0 : Nat) (l1 : Int32) (l2 : Int32) (l3 : Int32) (s0 : Nat) : m_M Int32 :=
  f279_46 l0 l1 l2 l3 s0 2
theorem f279_30_ok {l0 : Nat} {l1 : Int32} {l2 : Int32} {l3 : Int32} {s0 : Nat} {h : q_H} {o : q_O} {hz : q_H} {x : Int32 × q_H} (hf : f279_30 l0 l1 l2 l3 s0 h = some x) (hK : (q_KI o hz) x) : q_Ev none 279 30 [(0, .ref l0), (1, .int l1), (2, .int l2), (3, .int l3)] [.ref s0] h o hz := by
  unfold f279_30 at hf
  refine ev_ic (v := 2) (q_cod qk279 rfl) (by decide) (by decide) ?_
  refine ev_goto (q_cod qk279 rfl) (by decide) ?_
  exact (f279_46_ok hf hK)
def f279 (l0 : Nat) (l1 : Int32) (l2 : Int32) (l3 : Int32) : m_M Int32 :=
  m_B (m_aK l0 12) (fun _ => m_B (f277 l0 l1 l2) (fun v2 => if v2 = 0 then (f279_46 l0 l1 l2 l3 l0 1) else (m_B (f180 l3) (fun v3 => if v3 = 0 then (f279_30 l0 l1 l2 l3 l0) else (if l3 = l2 then (f279_30 l0 l1 l2 l3 l0) else (m_B (m_aK l0 12) (fun _ => m_B (f272 l0) (fun v5 => if v5 = 0 then (f279_46 l0 l1 l2 l3 l0 3) else (f279_46 l0 l1 l2 l3 l0 0)))))))))
theorem f279_ok {l0 : Nat} {l1 : Int32} {l2 : Int32} {l3 : Int32} {h : q_H} {o : q_O} {hz : q_H} {x : Int32 × q_H} (hf : f279 l0 l1 l2 l3 h = some x) (hK : (q_KI o hz) x) : q_Ev none 279 0 [(0, .ref l0), (1, .int l1), (2, .int l2), (3, .int l3)] [] h o hz := by
  unfold f279 at hf
  refine ev_aload_n (q_cod qk279 rfl) (by decide) rfl ?_
  refine ev_iload_n (q_cod qk279 rfl) (by decide) rfl ?_
  refine ev_iload_n (q_cod qk279 rfl) (by decide) rfl ?_
  obtain ⟨g1, hf⟩ := m_aK_some hf
  refine em_call (v := (fun u => some (.int u))) (q_cod qk279 rfl) rfl rfl (q_cokV rfl rfl (Or.inr g1)) rfl (fun x e => f277_cl e) hf (fun v2 h hf => ?_)
  refine ev_is2 (L' := [(0, .ref l0), (1, .int l1), (2, .int l2), (3, .int l3), (4, .int v2)]) (q_cod qk279 rfl) (by decide) rfl ?_
  refine ev_aload_n (q_cod qk279 rfl) (by decide) rfl ?_
  refine ev_iload (q_cod qk279 rfl) (by decide) rfl ?_
  refine em_if_ne (q_cod qk279 rfl) (by decide) hf (fun c9 hf => ?_) (fun c9 hf => ?_)
  · refine ev_ic (v := 1) (q_cod qk279 rfl) (by decide) (by decide) ?_
    refine ev_goto (q_cod qk279 rfl) (by decide) ?_
    exact ev_weak (q_pk [0, 1, 2, 3] rfl) (f279_46_ok hf hK)
  · refine ev_iload_n (q_cod qk279 rfl) (by decide) rfl ?_
    refine em_call (v := (fun u => some (.int u))) (q_cod qk279 rfl) rfl rfl (q_cokS rfl rfl) rfl (fun x e => f180_cl e) hf (fun v3 h hf => ?_)
    refine em_if_eq (q_cod qk279 rfl) (by decide) hf (fun c8 hf => ?_) (fun c8 hf => ?_)
    · exact ev_weak (q_pk [0, 1, 2, 3] rfl) (f279_30_ok hf hK)
    · refine ev_iload_n (q_cod qk279 rfl) (by decide) rfl ?_
      refine ev_iload_n (q_cod qk279 rfl) (by decide) rfl ?_
      refine em_ic_ne (q_cod qk279 rfl) (by decide) hf (fun c7 hf => ?_) (fun c7 hf => ?_)
      · exact ev_weak (q_pk [0, 1, 2, 3] rfl) (f279_30_ok hf hK)
      · refine ev_aload_n (q_cod qk279 rfl) (by decide) rfl ?_
        obtain ⟨g4, hf⟩ := m_aK_some hf
        refine em_call (v := (fun u => some (.int u))) (q_cod qk279 rfl) rfl rfl (q_cokV rfl rfl (Or.inr g4)) rfl (fun x e => f272_cl e) hf (fun v5 h hf => ?_)
        refine em_if_ne (q_cod qk279 rfl) (by decide) hf (fun c6 hf => ?_) (fun c6 hf => ?_)
        · refine ev_ic (v := 3) (q_cod qk279 rfl) (by decide) (by decide) ?_
          refine ev_goto (q_cod qk279 rfl) (by decide) ?_
          exact ev_weak (q_pk [0, 1, 2, 3] rfl) (f279_46_ok hf hK)
        · refine ev_ic (v := 0) (q_cod qk279 rfl) (by decide) (by decide) ?_
          exact ev_weak (q_pk [0, 1, 2, 3] rfl) (f279_46_ok hf hK)
theorem f279_cl {l0 : Nat} {l1 : Int32} {l2 : Int32} {l3 : Int32} {h : q_H} {x : Int32 × q_H} (hf : f279 l0 l1 l2 l3 h = some x) : q_Cl 279 [.ref l0, .int l1, .int l2, .int l3] h (.inl (some (.int x.1))) x.2 := q_Cl.of rfl (q_LvS rfl rfl) (f279_ok hf ⟨rfl, rfl⟩)
/-! SmithyBenchModel.isCaptured(IIIII)Z -/
theorem qk281 : q_cs.getD 281 [] = qc_281 := rfl
def f281_134 (l0 : Nat) (l1 : Int32) (l2 : Int32) (l3 : Int32) (l4 : Int32) (l5 : Int32) (l6 : Int32) (l7 : Int32) : m_M ((Nat × Int32 × Int32 × Int32 × Int32 × Int32 × Int32 × Int32) ⊕ Int32) :=
  m_R (.inl (l0, l1, l2, l3, l4, l5, l6, (l7 + 1)))
theorem f281_134_ok {l0 : Nat} {l1 : Int32} {l2 : Int32} {l3 : Int32} {l4 : Int32} {l5 : Int32} {l6 : Int32} {l7 : Int32} {h : q_H} {o : q_O} {hz : q_H} {x : ((Nat × Int32 × Int32 × Int32 × Int32 × Int32 × Int32 × Int32) ⊕ Int32) × q_H} (hf : f281_134 l0 l1 l2 l3 l4 l5 l6 l7 h = some x) (hK : (m_yK (fun (s : Nat × Int32 × Int32 × Int32 × Int32 × Int32 × Int32 × Int32) (h : q_H) => q_Ev none 281 7 [(0, .ref (s.1)), (1, .int (s.2.1)), (2, .int (s.2.2.1)), (3, .int (s.2.2.2.1)), (4, .int (s.2.2.2.2.1)), (5, .int (s.2.2.2.2.2.1)), (6, .int (s.2.2.2.2.2.2.1)), (7, .int (s.2.2.2.2.2.2.2))] [] h o hz) (q_KI o hz)) x) : q_Ev none 281 134 [(0, .ref l0), (1, .int l1), (2, .int l2), (3, .int l3), (4, .int l4), (5, .int l5), (6, .int l6), (7, .int l7)] [] h o hz := by
  unfold f281_134 at hf
  refine ev_inc (v := l7 + 1) (L' := [(0, .ref l0), (1, .int l1), (2, .int l2), (3, .int l3), (4, .int l4), (5, .int l5), (6, .int l6), (7, .int (l7 + 1))]) (q_cod qk281 rfl) (by decide) rfl rfl rfl ?_
  refine ev_goto (q_cod qk281 rfl) (by decide) ?_
  obtain rfl := m_R_inv hf
  exact (show q_Ev none 281 7 [(0, .ref l0), (1, .int l1), (2, .int l2), (3, .int l3), (4, .int l4), (5, .int l5), (6, .int l6), (7, .int (l7 + 1))] [] _ o hz from hK)
def f281_132 (l0 : Nat) (l1 : Int32) (l2 : Int32) (l3 : Int32) (l4 : Int32) (l5 : Int32) (l7 : Int32) (s0 : Int32) : m_M ((Nat × Int32 × Int32 × Int32 × Int32 × Int32 × Int32 × Int32) ⊕ Int32) :=
  f281_134 l0 l1 l2 l3 l4 l5 s0 l7
theorem f281_132_ok {l0 : Nat} {l1 : Int32} {l2 : Int32} {l3 : Int32} {l4 : Int32} {l5 : Int32} {l7 : Int32} {s0 : Int32} {h : q_H} {o : q_O} {hz : q_H} {x : ((Nat × Int32 × Int32 × Int32 × Int32 × Int32 × Int32 × Int32) ⊕ Int32) × q_H} (hf : f281_132 l0 l1 l2 l3 l4 l5 l7 s0 h = some x) (hK : (m_yK (fun (s : Nat × Int32 × Int32 × Int32 × Int32 × Int32 × Int32 × Int32) (h : q_H) => q_Ev none 281 7 [(0, .ref (s.1)), (1, .int (s.2.1)), (2, .int (s.2.2.1)), (3, .int (s.2.2.2.1)), (4, .int (s.2.2.2.2.1)), (5, .int (s.2.2.2.2.2.1)), (6, .int (s.2.2.2.2.2.2.1)), (7, .int (s.2.2.2.2.2.2.2))] [] h o hz) (q_KI o hz)) x) : q_Ev none 281 132 [(0, .ref l0), (1, .int l1), (2, .int l2), (3, .int l3), (4, .int l4), (5, .int l5), (7, .int l7)] [.int s0] h o hz := by
  unfold f281_132 at hf
  refine ev_is2 (L' := [(0, .ref l0), (1, .int l1), (2, .int l2), (3, .int l3), (4, .int l4), (5, .int l5), (6, .int s0), (7, .int l7)]) (q_cod qk281 rfl) (by decide) rfl ?_
  exact (f281_134_ok hf hK)
def f281_127 (l0 : Nat) (l1 : Int32) (l2 : Int32) (l3 : Int32) (l4 : Int32) (l5 : Int32) (l7 : Int32) : m_M ((Nat × Int32 × Int32 × Int32 × Int32 × Int32 × Int32 × Int32) ⊕ Int32) :=
  f281_132 l0 l1 l2 l3 l4 l5 l7 1
theorem f281_127_ok {l0 : Nat} {l1 : Int32} {l2 : Int32} {l3 : Int32} {l4 : Int32} {l5 : Int32} {l7 : Int32} {h : q_H} {o : q_O} {hz : q_H} {x : ((Nat × Int32 × Int32 × Int32 × Int32 × Int32 × Int32 × Int32) ⊕ Int32) × q_H} (hf : f281_127 l0 l1 l2 l3 l4 l5 l7 h = some x) (hK : (m_yK (fun (s : Nat × Int32 × Int32 × Int32 × Int32 × Int32 × Int32 × Int32) (h : q_H) => q_Ev none 281 7 [(0, .ref (s.1)), (1, .int (s.2.1)), (2, .int (s.2.2.1)), (3, .int (s.2.2.2.1)), (4, .int (s.2.2.2.2.1)), (5, .int (s.2.2.2.2.2.1)), (6, .int (s.2.2.2.2.2.2.1)), (7, .int (s.2.2.2.2.2.2.2))] [] h o hz) (q_KI o hz)) x) : q_Ev none 281 127 [(0, .ref l0), (1, .int l1), (2, .int l2), (3, .int l3), (4, .int l4), (5, .int l5), (7, .int l7)] [] h o hz := by
  unfold f281_127 at hf
  refine ev_ic (v := 1) (q_cod qk281 rfl) (by decide) (by decide) ?_
  refine ev_goto (q_cod qk281 rfl) (by decide) ?_
  exact (f281_132_ok hf hK)
def f281_122 (l0 : Nat) (l1 : Int32) (l2 : Int32) (l3 : Int32) (l4 : Int32) (l5 : Int32) (l7 : Int32) (l11 : Int32) : m_M ((Nat × Int32 × Int32 × Int32 × Int32 × Int32 × Int32 × Int32) ⊕ Int32) :=
  if l11 = 0 then (f281_132 l0 l1 l2 l3 l4 l5 l7 0) else (f281_127 l0 l1 l2 l3 l4 l5 l7)
theorem f281_122_ok {l0 : Nat} {l1 : Int32} {l2 : Int32} {l3 : Int32} {l4 : Int32} {l5 : Int32} {l7 : Int32} {l11 : Int32} {h : q_H} {o : q_O} {hz : q_H} {x : ((Nat × Int32 × Int32 × Int32 × Int32 × Int32 × Int32 × Int32) ⊕ Int32) × q_H} (hf : f281_122 l0 l1 l2 l3 l4 l5 l7 l11 h = some x) (hK : (m_yK (fun (s : Nat × Int32 × Int32 × Int32 × Int32 × Int32 × Int32 × Int32) (h : q_H) => q_Ev none 281 7 [(0, .ref (s.1)), (1, .int (s.2.1)), (2, .int (s.2.2.1)), (3, .int (s.2.2.2.1)), (4, .int (s.2.2.2.2.1)), (5, .int (s.2.2.2.2.2.1)), (6, .int (s.2.2.2.2.2.2.1)), (7, .int (s.2.2.2.2.2.2.2))] [] h o hz) (q_KI o hz)) x) : q_Ev none 281 122 [(0, .ref l0), (1, .int l1), (2, .int l2), (3, .int l3), (4, .int l4), (5, .int l5), (7, .int l7), (11, .int l11)] [] h o hz := by
  unfold f281_122 at hf
  refine ev_iload (q_cod qk281 rfl) (by decide) rfl ?_
  refine em_if_eq (q_cod qk281 rfl) (by decide) hf (fun c1 hf => ?_) (fun c1 hf => ?_)
  · refine ev_ic (v := 0) (q_cod qk281 rfl) (by decide) (by decide) ?_
    exact ev_weak (q_pk [0, 1, 2, 3, 4, 5, 6] rfl) (f281_132_ok hf hK)
  · exact ev_weak (q_pk [0, 1, 2, 3, 4, 5, 6] rfl) (f281_127_ok hf hK)
def f281_104 (l0 : Nat) (l1 : Int32) (l2 : Int32) (l3 : Int32) (l4 : Int32) (l5 : Int32) (l6 : Int32) (l7 : Int32) (l8 : Int32) (l9 : Int32) (s0 : Int32) : m_M ((Nat × Int32 × Int32 × Int32 × Int32 × Int32 × Int32 × Int32) ⊕ Int32) :=
  if l6 = 0 then (if l9 = 0 then (f281_122 l0 l1 l2 l3 l4 l5 l7 s0) else (if l8 = l2 then (f281_122 l0 l1 l2 l3 l4 l5 l7 s0) else (f281_127 l0 l1 l2 l3 l4 l5 l7))) else (f281_127 l0 l1 l2 l3 l4 l5 l7)
theorem f281_104_ok {l0 : Nat} {l1 : Int32} {l2 : Int32} {l3 : Int32} {l4 : Int32} {l5 : Int32} {l6 : Int32} {l7 : Int32} {l8 : Int32} {l9 : Int32} {s0 : Int32} {h : q_H} {o : q_O} {hz : q_H} {x : ((Nat × Int32 × Int32 × Int32 × Int32 × Int32 × Int32 × Int32) ⊕ Int32) × q_H} (hf : f281_104 l0 l1 l2 l3 l4 l5 l6 l7 l8 l9 s0 h = some x) (hK : (m_yK (fun (s : Nat × Int32 × Int32 × Int32 × Int32 × Int32 × Int32 × Int32) (h : q_H) => q_Ev none 281 7 [(0, .ref (s.1)), (1, .int (s.2.1)), (2, .int (s.2.2.1)), (3, .int (s.2.2.2.1)), (4, .int (s.2.2.2.2.1)), (5, .int (s.2.2.2.2.2.1)), (6, .int (s.2.2.2.2.2.2.1)), (7, .int (s.2.2.2.2.2.2.2))] [] h o hz) (q_KI o hz)) x) : q_Ev none 281 104 [(0, .ref l0), (1, .int l1), (2, .int l2), (3, .int l3), (4, .int l4), (5, .int l5), (6, .int l6), (7, .int l7), (8, .int l8), (9, .int l9)] [.int s0] h o hz := by
  unfold f281_104 at hf
  refine ev_is2 (L' := [(0, .ref l0), (1, .int l1), (2, .int l2), (3, .int l3), (4, .int l4), (5, .int l5), (6, .int l6), (7, .int l7), (8, .int l8), (9, .int l9), (11, .int s0)]) (q_cod qk281 rfl) (by decide) rfl ?_
  refine ev_iload (q_cod qk281 rfl) (by decide) rfl ?_
  refine em_if_ne (q_cod qk281 rfl) (by decide) hf (fun c3 hf => ?_) (fun c3 hf => ?_)
  · refine ev_iload (q_cod qk281 rfl) (by decide) rfl ?_
    refine em_if_eq (q_cod qk281 rfl) (by decide) hf (fun c2 hf => ?_) (fun c2 hf => ?_)
    · exact ev_weak (q_pk [0, 1, 2, 3, 4, 5, 7, 10] rfl) (f281_122_ok hf hK)
    · refine ev_iload (q_cod qk281 rfl) (by decide) rfl ?_
      refine ev_iload_n (q_cod qk281 rfl) (by decide) rfl ?_
      refine em_ic_ne (q_cod qk281 rfl) (by decide) hf (fun c1 hf => ?_) (fun c1 hf => ?_)
      · exact ev_weak (q_pk [0, 1, 2, 3, 4, 5, 7, 10] rfl) (f281_122_ok hf hK)
      · exact ev_weak (q_pk [0, 1, 2, 3, 4, 5, 7] rfl) (f281_127_ok hf hK)
  · exact ev_weak (q_pk [0, 1, 2, 3, 4, 5, 7] rfl) (f281_127_ok hf hK)
def f281_103 (l0 : Nat) (l1 : Int32) (l2 : Int32) (l3 : Int32) (l4 : Int32) (l5 : Int32) (l6 : Int32) (l7 : Int32) (l8 : Int32) (l9 : Int32) : m_M ((Nat × Int32 × Int32 × Int32 × Int32 × Int32 × Int32 × Int32) ⊕ Int32) :=
  f281_104 l0 l1 l2 l3 l4 l5 l6 l7 l8 l9 0
theorem f281_103_ok {l0 : Nat} {l1 : Int32} {l2 : Int32} {l3 : Int32} {l4 : Int32} {l5 : Int32} {l6 : Int32} {l7 : Int32} {l8 : Int32} {l9 : Int32} {h : q_H} {o : q_O} {hz : q_H} {x : ((Nat × Int32 × Int32 × Int32 × Int32 × Int32 × Int32 × Int32) ⊕ Int32) × q_H} (hf : f281_103 l0 l1 l2 l3 l4 l5 l6 l7 l8 l9 h = some x) (hK : (m_yK (fun (s : Nat × Int32 × Int32 × Int32 × Int32 × Int32 × Int32 × Int32) (h : q_H) => q_Ev none 281 7 [(0, .ref (s.1)), (1, .int (s.2.1)), (2, .int (s.2.2.1)), (3, .int (s.2.2.2.1)), (4, .int (s.2.2.2.2.1)), (5, .int (s.2.2.2.2.2.1)), (6, .int (s.2.2.2.2.2.2.1)), (7, .int (s.2.2.2.2.2.2.2))] [] h o hz) (q_KI o hz)) x) : q_Ev none 281 103 [(0, .ref l0), (1, .int l1), (2, .int l2), (3, .int l3), (4, .int l4), (5, .int l5), (6, .int l6), (7, .int l7), (8, .int l8), (9, .int l9)] [] h o hz := by
  unfold f281_103 at hf
  refine ev_ic (v := 0) (q_cod qk281 rfl) (by decide) (by decide) ?_
  exact (f281_104_ok hf hK)
def f281_65 (l0 : Nat) (l1 : Int32) (l2 : Int32) (l3 : Int32) (l4 : Int32) (l5 : Int32) (l6 : Int32) (l7 : Int32) (l8 : Int32) (s0 : Int32) : m_M ((Nat × Int32 × Int32 × Int32 × Int32 × Int32 × Int32 × Int32) ⊕ Int32) :=
  m_B (m_aK l0 12) (fun _ => m_B (f225 l0 0 l1 l7 l3) (fun v2 => if l8 = l2 then (m_B (f267 v2) (fun v3 => if v3 = 0 then (f281_103 l0 l1 l2 l3 l4 l5 l6 l7 l8 s0) else (if v2 < l4 then (f281_103 l0 l1 l2 l3 l4 l5 l6 l7 l8 s0) else (f281_104 l0 l1 l2 l3 l4 l5 l6 l7 l8 s0 1)))) else (f281_103 l0 l1 l2 l3 l4 l5 l6 l7 l8 s0)))
theorem f281_65_ok {l0 : Nat} {l1 : Int32} {l2 : Int32} {l3 : Int32} {l4 : Int32} {l5 : Int32} {l6 : Int32} {l7 : Int32} {l8 : Int32} {s0 : Int32} {h : q_H} {o : q_O} {hz : q_H} {x : ((Nat × Int32 × Int32 × Int32 × Int32 × Int32 × Int32 × Int32) ⊕ Int32) × q_H} (hf : f281_65 l0 l1 l2 l3 l4 l5 l6 l7 l8 s0 h = some x) (hK : (m_yK (fun (s : Nat × Int32 × Int32 × Int32 × Int32 × Int32 × Int32 × Int32) (h : q_H) => q_Ev none 281 7 [(0, .ref (s.1)), (1, .int (s.2.1)), (2, .int (s.2.2.1)), (3, .int (s.2.2.2.1)), (4, .int (s.2.2.2.2.1)), (5, .int (s.2.2.2.2.2.1)), (6, .int (s.2.2.2.2.2.2.1)), (7, .int (s.2.2.2.2.2.2.2))] [] h o hz) (q_KI o hz)) x) : q_Ev none 281 65 [(0, .ref l0), (1, .int l1), (2, .int l2), (3, .int l3), (4, .int l4), (5, .int l5), (6, .int l6), (7, .int l7), (8, .int l8)] [.int s0] h o hz := by
  unfold f281_65 at hf
  refine ev_is2 (L' := [(0, .ref l0), (1, .int l1), (2, .int l2), (3, .int l3), (4, .int l4), (5, .int l5), (6, .int l6), (7, .int l7), (8, .int l8), (9, .int s0)]) (q_cod qk281 rfl) (by decide) rfl ?_
  refine ev_aload_n (q_cod qk281 rfl) (by decide) rfl ?_
  refine ev_ic (v := 0) (q_cod qk281 rfl) (by decide) (by decide) ?_
  refine ev_iload_n (q_cod qk281 rfl) (by decide) rfl ?_
  refine ev_iload (q_cod qk281 rfl) (by decide) rfl ?_
  refine ev_iload_n (q_cod qk281 rfl) (by decide) rfl ?_
  obtain ⟨g1, hf⟩ := m_aK_some hf
  refine em_call (v := (fun u => some (.int u))) (q_cod qk281 rfl) rfl rfl (q_cokV rfl rfl (Or.inr g1)) rfl (fun x e => f225_cl e) hf (fun v2 h hf => ?_)
  refine ev_is2 (L' := [(0, .ref l0), (1, .int l1), (2, .int l2), (3, .int l3), (4, .int l4), (5, .int l5), (6, .int l6), (7, .int l7), (8, .int l8), (9, .int s0), (10, .int v2)]) (q_cod qk281 rfl) (by decide) rfl ?_
  refine ev_iload (q_cod qk281 rfl) (by decide) rfl ?_
  refine ev_iload_n (q_cod qk281 rfl) (by decide) rfl ?_
  refine em_ic_ne (q_cod qk281 rfl) (by decide) hf (fun c6 hf => ?_) (fun c6 hf => ?_)
  · refine ev_iload (q_cod qk281 rfl) (by decide) rfl ?_
    refine em_call (v := (fun u => some (.int u))) (q_cod qk281 rfl) rfl rfl (q_cokS rfl rfl) rfl (fun x e => f267_cl e) hf (fun v3 h hf => ?_)
    refine em_if_eq (q_cod qk281 rfl) (by decide) hf (fun c5 hf => ?_) (fun c5 hf => ?_)
    · exact ev_weak (q_pk [0, 1, 2, 3, 4, 5, 6, 7, 8, 9] rfl) (f281_103_ok hf hK)
    · refine ev_iload (q_cod qk281 rfl) (by decide) rfl ?_
      refine ev_iload (q_cod qk281 rfl) (by decide) rfl ?_
      refine em_ic_lt (q_cod qk281 rfl) (by decide) hf (fun c4 hf => ?_) (fun c4 hf => ?_)
      · exact ev_weak (q_pk [0, 1, 2, 3, 4, 5, 6, 7, 8, 9] rfl) (f281_103_ok hf hK)
      · refine ev_ic (v := 1) (q_cod qk281 rfl) (by decide) (by decide) ?_
        refine ev_goto (q_cod qk281 rfl) (by decide) ?_
        exact ev_weak (q_pk [0, 1, 2, 3, 4, 5, 6, 7, 8, 9] rfl) (f281_104_ok hf hK)
  · exact ev_weak (q_pk [0, 1, 2, 3, 4, 5, 6, 7, 8, 9] rfl) (f281_103_ok hf hK)
def f281_64 (l0 : Nat) (l1 : Int32) (l2 : Int32) (l3 : Int32) (l4 : Int32) (l5 : Int32) (l6 : Int32) (l7 : Int32) (l8 : Int32) : m_M ((Nat × Int32 × Int32 × Int32 × Int32 × Int32 × Int32 × Int32) ⊕ Int32) :=
  f281_65 l0 l1 l2 l3 l4 l5 l6 l7 l8 0
theorem f281_64_ok {l0 : Nat} {l1 : Int32} {l2 : Int32} {l3 : Int32} {l4 : Int32} {l5 : Int32} {l6 : Int32} {l7 : Int32} {l8 : Int32} {h : q_H} {o : q_O} {hz : q_H} {x : ((Nat × Int32 × Int32 × Int32 × Int32 × Int32 × Int32 × Int32) ⊕ Int32) × q_H} (hf : f281_64 l0 l1 l2 l3 l4 l5 l6 l7 l8 h = some x) (hK : (m_yK (fun (s : Nat × Int32 × Int32 × Int32 × Int32 × Int32 × Int32 × Int32) (h : q_H) => q_Ev none 281 7 [(0, .ref (s.1)), (1, .int (s.2.1)), (2, .int (s.2.2.1)), (3, .int (s.2.2.2.1)), (4, .int (s.2.2.2.2.1)), (5, .int (s.2.2.2.2.2.1)), (6, .int (s.2.2.2.2.2.2.1)), (7, .int (s.2.2.2.2.2.2.2))] [] h o hz) (q_KI o hz)) x) : q_Ev none 281 64 [(0, .ref l0), (1, .int l1), (2, .int l2), (3, .int l3), (4, .int l4), (5, .int l5), (6, .int l6), (7, .int l7), (8, .int l8)] [] h o hz := by
  unfold f281_64 at hf
  refine ev_ic (v := 0) (q_cod qk281 rfl) (by decide) (by decide) ?_
  exact (f281_65_ok hf hK)
def f281_140 (l6 : Int32) : m_M Int32 :=
  m_B (m_G (l6 = 0 ∨ l6 = 1)) (fun _ => m_R l6)
theorem f281_140_ok {l6 : Int32} {h : q_H} {o : q_O} {hz : q_H} {x : Int32 × q_H} (hf : f281_140 l6 h = some x) (hK : (q_KI o hz) x) : q_Ev none 281 140 [(6, .int l6)] [] h o hz := by
  unfold f281_140 at hf
  refine ev_iload (q_cod qk281 rfl) (by decide) rfl ?_
  obtain ⟨g1, hf⟩ := m_G_some hf
  obtain rfl := m_R_inv hf
  obtain ⟨rfl, rfl⟩ := (show q_KI o hz (l6, _) from hK)
  exact ev_ret (q_cod qk281 rfl) (q_retZ g1)
def f281_7b (l0 : Nat) (l1 : Int32) (l2 : Int32) (l3 : Int32) (l4 : Int32) (l5 : Int32) (l6 : Int32) (l7 : Int32) : m_M ((Nat × Int32 × Int32 × Int32 × Int32 × Int32 × Int32 × Int32) ⊕ Int32) :=
  if l7 < l5 then (m_B (m_aK l0 12) (fun _ => m_B (f266 l0 l1 l7) (fun v2 => if v2 = 0 then (f281_134 l0 l1 l2 l3 l4 l5 l6 l7) else (m_B (m_aK l0 12) (fun _ => m_B (f268 l0 l1 l7) (fun v4 => m_B (m_aK l0 12) (fun _ => m_B (f200 l0 0 l1 l7) (fun v6 => if v6 = l3 then (m_B (f267 v4) (fun v7 => if v7 = 0 then (f281_64 l0 l1 l2 l3 l4 l5 l6 l7 v4) else (if v4 < l4 then (f281_65 l0 l1 l2 l3 l4 l5 l6 l7 v4 1) else (f281_64 l0 l1 l2 l3 l4 l5 l6 l7 v4)))) else (f281_64 l0 l1 l2 l3 l4 l5 l6 l7 v4))))))))) else (m_B (f281_140 l6) (fun r => m_R (.inr r)))
theorem f281_7b_ok {l0 : Nat} {l1 : Int32} {l2 : Int32} {l3 : Int32} {l4 : Int32} {l5 : Int32} {l6 : Int32} {l7 : Int32} {h : q_H} {o : q_O} {hz : q_H} {x : ((Nat × Int32 × Int32 × Int32 × Int32 × Int32 × Int32 × Int32) ⊕ Int32) × q_H} (hf : f281_7b l0 l1 l2 l3 l4 l5 l6 l7 h = some x) (hK : (m_yK (fun (s : Nat × Int32 × Int32 × Int32 × Int32 × Int32 × Int32 × Int32) (h : q_H) => q_Ev none 281 7 [(0, .ref (s.1)), (1, .int (s.2.1)), (2, .int (s.2.2.1)), (3, .int (s.2.2.2.1)), (4, .int (s.2.2.2.2.1)), (5, .int (s.2.2.2.2.2.1)), (6, .int (s.2.2.2.2.2.2.1)), (7, .int (s.2.2.2.2.2.2.2))] [] h o hz) (q_KI o hz)) x) : q_Ev none 281 7 [(0, .ref l0), (1, .int l1), (2, .int l2), (3, .int l3), (4, .int l4), (5, .int l5), (6, .int l6), (7, .int l7)] [] h o hz := by
  unfold f281_7b at hf
  refine ev_iload (q_cod qk281 rfl) (by decide) rfl ?_
  refine ev_iload (q_cod qk281 rfl) (by decide) rfl ?_
  refine em_ic_ge (q_cod qk281 rfl) (by decide) hf (fun c12 hf => ?_) (fun c12 hf => ?_)
  · refine ev_aload_n (q_cod qk281 rfl) (by decide) rfl ?_
    refine ev_iload_n (q_cod qk281 rfl) (by decide) rfl ?_
    refine ev_iload (q_cod qk281 rfl) (by decide) rfl ?_
    obtain ⟨g1, hf⟩ := m_aK_some hf
    refine em_call (v := (fun u => some (.int u))) (q_cod qk281 rfl) rfl rfl (q_cokV rfl rfl (Or.inr g1)) rfl (fun x e => f266_cl e) hf (fun v2 h hf => ?_)
    refine em_if_eq (q_cod qk281 rfl) (by decide) hf (fun c11 hf => ?_) (fun c11 hf => ?_)
    · exact (f281_134_ok hf hK)
    · refine ev_aload_n (q_cod qk281 rfl) (by decide) rfl ?_
      refine ev_iload_n (q_cod qk281 rfl) (by decide) rfl ?_
      refine ev_iload (q_cod qk281 rfl) (by decide) rfl ?_
      obtain ⟨g3, hf⟩ := m_aK_some hf
      refine em_call (v := (fun u => some (.int u))) (q_cod qk281 rfl) rfl rfl (q_cokV rfl rfl (Or.inr g3)) rfl (fun x e => f268_cl e) hf (fun v4 h hf => ?_)
      refine ev_is2 (L' := [(0, .ref l0), (1, .int l1), (2, .int l2), (3, .int l3), (4, .int l4), (5, .int l5), (6, .int l6), (7, .int l7), (8, .int v4)]) (q_cod qk281 rfl) (by decide) rfl ?_
      refine ev_aload_n (q_cod qk281 rfl) (by decide) rfl ?_
      refine ev_ic (v := 0) (q_cod qk281 rfl) (by decide) (by decide) ?_
      refine ev_iload_n (q_cod qk281 rfl) (by decide) rfl ?_
      refine ev_iload (q_cod qk281 rfl) (by decide) rfl ?_
      obtain ⟨g5, hf⟩ := m_aK_some hf
      refine em_call (v := (fun u => some (.int u))) (q_cod qk281 rfl) rfl rfl (q_cokV rfl rfl (Or.inr g5)) rfl (fun x e => f200_cl e) hf (fun v6 h hf => ?_)
      refine ev_iload_n (q_cod qk281 rfl) (by decide) rfl ?_
      refine em_ic_ne (q_cod qk281 rfl) (by decide) hf (fun c10 hf => ?_) (fun c10 hf => ?_)
      · refine ev_iload (q_cod qk281 rfl) (by decide) rfl ?_
        refine em_call (v := (fun u => some (.int u))) (q_cod qk281 rfl) rfl rfl (q_cokS rfl rfl) rfl (fun x e => f267_cl e) hf (fun v7 h hf => ?_)
        refine em_if_eq (q_cod qk281 rfl) (by decide) hf (fun c9 hf => ?_) (fun c9 hf => ?_)
        · exact (f281_64_ok hf hK)
        · refine ev_iload (q_cod qk281 rfl) (by decide) rfl ?_
          refine ev_iload (q_cod qk281 rfl) (by decide) rfl ?_
          refine em_ic_ge (q_cod qk281 rfl) (by decide) hf (fun c8 hf => ?_) (fun c8 hf => ?_)
          · refine ev_ic (v := 1) (q_cod qk281 rfl) (by decide) (by decide) ?_
            refine ev_goto (q_cod qk281 rfl) (by decide) ?_
            exact (f281_65_ok hf hK)
          · exact (f281_64_ok hf hK)
      · exact (f281_64_ok hf hK)
  · obtain ⟨y0, hf0, hx⟩ := m_inr_some hf
    subst hx
    exact ev_weak (q_pk [6] rfl) (f281_140_ok hf0 hK)
def f281_7 (l0 : Nat) (l1 : Int32) (l2 : Int32) (l3 : Int32) (l4 : Int32) (l5 : Int32) (l6 : Int32) (l7 : Int32) : m_M Int32 := m_W (fun s => f281_7b (s.1) (s.2.1) (s.2.2.1) (s.2.2.2.1) (s.2.2.2.2.1) (s.2.2.2.2.2.1) (s.2.2.2.2.2.2.1) (s.2.2.2.2.2.2.2)) 1000000 (l0, l1, l2, l3, l4, l5, l6, l7)
theorem f281_7_ok {l0 : Nat} {l1 : Int32} {l2 : Int32} {l3 : Int32} {l4 : Int32} {l5 : Int32} {l6 : Int32} {l7 : Int32} {h : q_H} {o : q_O} {hz : q_H} {x : Int32 × q_H} (hf : f281_7 l0 l1 l2 l3 l4 l5 l6 l7 h = some x) (hK : (q_KI o hz) x) : q_Ev none 281 7 [(0, .ref l0), (1, .int l1), (2, .int l2), (3, .int l3), (4, .int l4), (5, .int l5), (6, .int l6), (7, .int l7)] [] h o hz :=
  m_W_ok (P := (fun (s : Nat × Int32 × Int32 × Int32 × Int32 × Int32 × Int32 × Int32) (h : q_H) => q_Ev none 281 7 [(0, .ref (s.1)), (1, .int (s.2.1)), (2, .int (s.2.2.1)), (3, .int (s.2.2.2.1)), (4, .int (s.2.2.2.2.1)), (5, .int (s.2.2.2.2.2.1)), (6, .int (s.2.2.2.2.2.2.1)), (7, .int (s.2.2.2.2.2.2.2))] [] h o hz)) (K := (q_KI o hz)) (fun s h x h1 h2 => f281_7b_ok h1 h2) _ (l0, l1, l2, l3, l4, l5, l6, l7) _ _ hf hK
def f281 (l0 : Nat) (l1 : Int32) (l2 : Int32) (l3 : Int32) (l4 : Int32) (l5 : Int32) : m_M Int32 :=
  f281_7 l0 l1 l2 l3 l4 l5 0 l4
theorem f281_ok {l0 : Nat} {l1 : Int32} {l2 : Int32} {l3 : Int32} {l4 : Int32} {l5 : Int32} {h : q_H} {o : q_O} {hz : q_H} {x : Int32 × q_H} (hf : f281 l0 l1 l2 l3 l4 l5 h = some x) (hK : (q_KI o hz) x) : q_Ev none 281 0 [(0, .ref l0), (1, .int l1), (2, .int l2), (3, .int l3), (4, .int l4), (5, .int l5)] [] h o hz := by
  unfold f281 at hf
  refine ev_ic (v := 0) (q_cod qk281 rfl) (by decide) (by decide) ?_
  refine ev_is2 (L' := [(0, .ref l0), (1, .int l1), (2, .int l2), (3, .int l3), (4, .int l4), (5, .int l5), (6, .int 0)]) (q_cod qk281 rfl) (by decide) rfl ?_
  refine ev_iload (q_cod qk281 rfl) (by decide) rfl ?_
  refine ev_is2 (L' := [(0, .ref l0), (1, .int l1), (2, .int l2), (3, .int l3), (4, .int l4), (5, .int l5), (6, .int 0), (7, .int l4)]) (q_cod qk281 rfl) (by decide) rfl ?_
  exact (f281_7_ok hf hK)
theorem f281_cl {l0 : Nat} {l1 : Int32} {l2 : Int32} {l3 : Int32} {l4 : Int32} {l5 : Int32} {h : q_H} {x : Int32 × q_H} (hf : f281 l0 l1 l2 l3 l4 l5 h = some x) : q_Cl 281 [.ref l0, .int l1, .int l2, .int l3, .int l4, .int l5] h (.inl (some (.int x.1))) x.2 := q_Cl.of rfl (q_LvS rfl rfl) (f281_ok hf ⟨rfl, rfl⟩)
/-! SmithyBenchModel.renameLocal(III)I -/
theorem qk280 : q_cs.getD 280 [] = qc_280 := rfl
def f280_422 (l0 : Nat) (l1 : Int32) (l2 : Int32) (l3 : Int32) (l7 : Int32) (l8 : Int32) (l9 : Int32) (l10 : Int32) : m_M ((Nat × Int32 × Int32 × Int32 × Int32 × Int32 × Int32 × Int32) ⊕ Int32) :=
  m_R (.inl (l0, l1, l2, l3, l7, l8, l9, (l10 + 1)))
set_option maxRecDepth 20000 in
theorem f280_422_ok {l0 : Nat} {l1 : Int32} {l2 : Int32} {l3 : Int32} {l7 : Int32} {l8 : Int32} {l9 : Int32} {l10 : Int32} {h : q_H} {o : q_O} {hz : q_H} {x : ((Nat × Int32 × Int32 × Int32 × Int32 × Int32 × Int32 × Int32) ⊕ Int32) × q_H} (hf : f280_422 l0 l1 l2 l3 l7 l8 l9 l10 h = some x) (hK : (m_yK (fun (s : Nat × Int32 × Int32 × Int32 × Int32 × Int32 × Int32 × Int32) (h : q_H) => q_Ev none 280 281 [(0, .ref (s.1)), (1, .int (s.2.1)), (2, .int (s.2.2.1)), (3, .int (s.2.2.2.1)), (7, .int (s.2.2.2.2.1)), (8, .int (s.2.2.2.2.2.1)), (9, .int (s.2.2.2.2.2.2.1)), (10, .int (s.2.2.2.2.2.2.2))] [] h o hz) (q_KI o hz)) x) : q_Ev none 280 422 [(0, .ref l0), (1, .int l1), (2, .int l2), (3, .int l3), (7, .int l7), (8, .int l8), (9, .int l9), (10, .int l10)] [] h o hz := by
  unfold f280_422 at hf
  refine ev_inc (v := l10 + 1) (L' := [(0, .ref l0), (1, .int l1), (2, .int l2), (3, .int l3), (7, .int l7), (8, .int l8), (9, .int l9), (10, .int (l10 + 1))]) (q_cod qk280 rfl) (by decide) rfl rfl rfl ?_
  refine ev_goto (q_cod qk280 rfl) (by decide) ?_
  obtain rfl := m_R_inv hf
  exact (show q_Ev none 280 281 [(0, .ref l0), (1, .int l1), (2, .int l2), (3, .int l3), (7, .int l7), (8, .int l8), (9, .int l9), (10, .int (l10 + 1))] [] _ o hz from hK)
def f280_415 (l0 : Nat) (l1 : Int32) (l2 : Int32) (l3 : Int32) (l7 : Int32) (l8 : Int32) (l9 : Int32) (l10 : Int32) : m_M ((Nat × Int32 × Int32 × Int32 × Int32 × Int32 × Int32 × Int32) ⊕ Int32) :=
  m_B (m_aK l0 12) (fun _ => m_B (f261 l0 l1 l10) (fun _ => f280_422 l0 l1 l2 l3 l7 l8 l9 l10))
set_option maxRecDepth 20000 in
theorem f280_415_ok {l0 : Nat} {l1 : Int32} {l2 : Int32} {l3 : Int32} {l7 : Int32} {l8 : Int32} {l9 : Int32} {l10 : Int32} {h : q_H} {o : q_O} {hz : q_H} {x : ((Nat × Int32 × Int32 × Int32 × Int32 × Int32 × Int32 × Int32) ⊕ Int32) × q_H} (hf : f280_415 l0 l1 l2 l3 l7 l8 l9 l10 h = some x) (hK : (m_yK (fun (s : Nat × Int32 × Int32 × Int32 × Int32 × Int32 × Int32 × Int32) (h : q_H) => q_Ev none 280 281 [(0, .ref (s.1)), (1, .int (s.2.1)), (2, .int (s.2.2.1)), (3, .int (s.2.2.2.1)), (7, .int (s.2.2.2.2.1)), (8, .int (s.2.2.2.2.2.1)), (9, .int (s.2.2.2.2.2.2.1)), (10, .int (s.2.2.2.2.2.2.2))] [] h o hz) (q_KI o hz)) x) : q_Ev none 280 415 [(0, .ref l0), (1, .int l1), (2, .int l2), (3, .int l3), (7, .int l7), (8, .int l8), (9, .int l9), (10, .int l10)] [] h o hz := by
  unfold f280_415 at hf
  refine ev_aload_n (q_cod qk280 rfl) (by decide) rfl ?_
  refine ev_iload_n (q_cod qk280 rfl) (by decide) rfl ?_
  refine ev_iload (q_cod qk280 rfl) (by decide) rfl ?_
  obtain ⟨g1, hf⟩ := m_aK_some hf
  refine em_call (v := (fun _ => none)) (q_cod qk280 rfl) rfl rfl (q_cokV rfl rfl (Or.inr g1)) rfl (fun x e => f261_cl e) hf (fun _ h hf => ?_)
  exact (f280_422_ok hf hK)
def f280_374 (l0 : Nat) (l1 : Int32) (l2 : Int32) (l3 : Int32) (l7 : Int32) (l8 : Int32) (l9 : Int32) (l10 : Int32) (l11 : Int32) : m_M ((Nat × Int32 × Int32 × Int32 × Int32 × Int32 × Int32 × Int32) ⊕ Int32) :=
  if l11 = 0 then (f280_415 l0 l1 l2 l3 l7 l8 l9 l10) else (m_B (m_aK l0 12) (fun _ => m_B (f200 l0 0 l1 l10) (fun v2 => if v2 = l3 then (m_B (m_aK l0 12) (fun _ => m_B (f268 l0 l1 l10) (fun v4 => if v4 < 1000 then (f280_415 l0 l1 l2 l3 l7 l8 l9 l10) else (m_B (m_aK l0 12) (fun _ => m_B (f263 l0 l1 l10 l3) (fun _ => f280_422 l0 l1 l2 l3 l7 l8 l9 l10)))))) else (f280_415 l0 l1 l2 l3 l7 l8 l9 l10))))
set_option maxRecDepth 20000 in
theorem f280_374_ok {l0 : Nat} {l1 : Int32} {l2 : Int32} {l3 : Int32} {l7 : Int32} {l8 : Int32} {l9 : Int32} {l10 : Int32} {l11 : Int32} {h : q_H} {o : q_O} {hz : q_H} {x : ((Nat × Int32 × Int32 × Int32 × Int32 × Int32 × Int32 × Int32) ⊕ Int32) × q_H} (hf : f280_374 l0 l1 l2 l3 l7 l8 l9 l10 l11 h = some x) (hK : (m_yK (fun (s : Nat × Int32 × Int32 × Int32 × Int32 × Int32 × Int32 × Int32) (h : q_H) => q_Ev none 280 281 [(0, .ref (s.1)), (1, .int (s.2.1)), (2, .int (s.2.2.1)), (3, .int (s.2.2.2.1)), (7, .int (s.2.2.2.2.1)), (8, .int (s.2.2.2.2.2.1)), (9, .int (s.2.2.2.2.2.2.1)), (10, .int (s.2.2.2.2.2.2.2))] [] h o hz) (q_KI o hz)) x) : q_Ev none 280 374 [(0, .ref l0), (1, .int l1), (2, .int l2), (3, .int l3), (7, .int l7), (8, .int l8), (9, .int l9), (10, .int l10), (11, .int l11)] [] h o hz := by
  unfold f280_374 at hf
  refine ev_iload (q_cod qk280 rfl) (by decide) rfl ?_
  refine em_if_eq (q_cod qk280 rfl) (by decide) hf (fun c9 hf => ?_) (fun c9 hf => ?_)
  · exact ev_weak (q_pk [0, 1, 2, 3, 4, 5, 6, 7] rfl) (f280_415_ok hf hK)
  · refine ev_aload_n (q_cod qk280 rfl) (by decide) rfl ?_
    refine ev_ic (v := 0) (q_cod qk280 rfl) (by decide) (by decide) ?_
    refine ev_iload_n (q_cod qk280 rfl) (by decide) rfl ?_
    refine ev_iload (q_cod qk280 rfl) (by decide) rfl ?_
    obtain ⟨g1, hf⟩ := m_aK_some hf
    refine em_call (v := (fun u => some (.int u))) (q_cod qk280 rfl) rfl rfl (q_cokV rfl rfl (Or.inr g1)) rfl (fun x e => f200_cl e) hf (fun v2 h hf => ?_)
    refine ev_iload_n (q_cod qk280 rfl) (by decide) rfl ?_
    refine em_ic_ne (q_cod qk280 rfl) (by decide) hf (fun c8 hf => ?_) (fun c8 hf => ?_)
    · refine ev_aload_n (q_cod qk280 rfl) (by decide) rfl ?_
      refine ev_iload_n (q_cod qk280 rfl) (by decide) rfl ?_
      refine ev_iload (q_cod qk280 rfl) (by decide) rfl ?_
      obtain ⟨g3, hf⟩ := m_aK_some hf
      refine em_call (v := (fun u => some (.int u))) (q_cod qk280 rfl) rfl rfl (q_cokV rfl rfl (Or.inr g3)) rfl (fun x e => f268_cl e) hf (fun v4 h hf => ?_)
      refine ev_si (v := 1000) (q_cod qk280 rfl) (by decide) (by decide) ?_
      refine em_ic_lt (q_cod qk280 rfl) (by decide) hf (fun c7 hf => ?_) (fun c7 hf => ?_)
      · exact ev_weak (q_pk [0, 1, 2, 3, 4, 5, 6, 7] rfl) (f280_415_ok hf hK)
      · refine ev_aload_n (q_cod qk280 rfl) (by decide) rfl ?_
        refine ev_iload_n (q_cod qk280 rfl) (by decide) rfl ?_
        refine ev_iload (q_cod qk280 rfl) (by decide) rfl ?_
        refine ev_iload_n (q_cod qk280 rfl) (by decide) rfl ?_
        obtain ⟨g5, hf⟩ := m_aK_some hf
        refine em_call (v := (fun _ => none)) (q_cod qk280 rfl) rfl rfl (q_cokV rfl rfl (Or.inr g5)) rfl (fun x e => f263_cl e) hf (fun _ h hf => ?_)
        refine ev_goto (q_cod qk280 rfl) (by decide) ?_
        exact ev_weak (q_pk [0, 1, 2, 3, 4, 5, 6, 7] rfl) (f280_422_ok hf hK)
    · exact ev_weak (q_pk [0, 1, 2, 3, 4, 5, 6, 7] rfl) (f280_415_ok hf hK)
def f280_320 (l0 : Nat) (l1 : Int32) (l2 : Int32) (l3 : Int32) (l7 : Int32) (l8 : Int32) (l9 : Int32) (l10 : Int32) (s0 : Int32) : m_M ((Nat × Int32 × Int32 × Int32 × Int32 × Int32 × Int32 × Int32) ⊕ Int32) :=
  if l10 = l2 then (m_B (m_aK l0 12) (fun _ => m_B (f260 l0 5 l3 0) (fun _ => f280_422 l0 l1 l2 l3 l7 l8 l9 l10))) else (if s0 = 0 then (f280_374 l0 l1 l2 l3 l7 l8 l9 l10 s0) else (m_B (m_aK l0 12) (fun _ => m_B (f268 l0 l1 l10) (fun v4 => if v4 = l2 then (m_B (m_aK l0 12) (fun _ => m_B (f199 l0 0 l1 l10) (fun v6 => m_B (m_aK l0 12) (fun _ => m_B (f260 l0 v6 l3 0) (fun _ => f280_422 l0 l1 l2 l3 l7 l8 (l9 + 1) l10))))) else (f280_374 l0 l1 l2 l3 l7 l8 l9 l10 s0)))))
set_option maxRecDepth 20000 in
theorem f280_320_ok {l0 : Nat} {l1 : Int32} {l2 : Int32} {l3 : Int32} {l7 : Int32} {l8 : Int32} {l9 : Int32} {l10 : Int32} {s0 : Int32} {h : q_H} {o : q_O} {hz : q_H} {x : ((Nat × Int32 × Int32 × Int32 × Int32 × Int32 × Int32 × Int32) ⊕ Int32) × q_H} (hf : f280_320 l0 l1 l2 l3 l7 l8 l9 l10 s0 h = some x) (hK : (m_yK (fun (s : Nat × Int32 × Int32 × Int32 × Int32 × Int32 × Int32 × Int32) (h : q_H) => q_Ev none 280 281 [(0, .ref (s.1)), (1, .int (s.2.1)), (2, .int (s.2.2.1)), (3, .int (s.2.2.2.1)), (7, .int (s.2.2.2.2.1)), (8, .int (s.2.2.2.2.2.1)), (9, .int (s.2.2.2.2.2.2.1)), (10, .int (s.2.2.2.2.2.2.2))] [] h o hz) (q_KI o hz)) x) : q_Ev none 280 320 [(0, .ref l0), (1, .int l1), (2, .int l2), (3, .int l3), (7, .int l7), (8, .int l8), (9, .int l9), (10, .int l10)] [.int s0] h o hz := by
  unfold f280_320 at hf
  refine ev_is2 (L' := [(0, .ref l0), (1, .int l1), (2, .int l2), (3, .int l3), (7, .int l7), (8, .int l8), (9, .int l9), (10, .int l10), (11, .int s0)]) (q_cod qk280 rfl) (by decide) rfl ?_
  refine ev_iload (q_cod qk280 rfl) (by decide) rfl ?_
  refine ev_iload_n (q_cod qk280 rfl) (by decide) rfl ?_
  refine em_ic_ne (q_cod qk280 rfl) (by decide) hf (fun c11 hf => ?_) (fun c11 hf => ?_)
  · refine ev_aload_n (q_cod qk280 rfl) (by decide) rfl ?_
    refine ev_ic (v := 5) (q_cod qk280 rfl) (by decide) (by decide) ?_
    refine ev_iload_n (q_cod qk280 rfl) (by decide) rfl ?_
    refine ev_ic (v := 0) (q_cod qk280 rfl) (by decide) (by decide) ?_
    obtain ⟨g1, hf⟩ := m_aK_some hf
    refine em_call (v := (fun _ => none)) (q_cod qk280 rfl) rfl rfl (q_cokV rfl rfl (Or.inr g1)) rfl (fun x e => f260_cl e) hf (fun _ h hf => ?_)
    refine ev_goto (q_cod qk280 rfl) (by decide) ?_
    exact ev_weak (q_pk [0, 1, 2, 3, 4, 5, 6, 7] rfl) (f280_422_ok hf hK)
  · refine ev_iload (q_cod qk280 rfl) (by decide) rfl ?_
    refine em_if_eq (q_cod qk280 rfl) (by decide) hf (fun c10 hf => ?_) (fun c10 hf => ?_)
    · exact (f280_374_ok hf hK)
    · refine ev_aload_n (q_cod qk280 rfl) (by decide) rfl ?_
      refine ev_iload_n (q_cod qk280 rfl) (by decide) rfl ?_
      refine ev_iload (q_cod qk280 rfl) (by decide) rfl ?_
      obtain ⟨g3, hf⟩ := m_aK_some hf
      refine em_call (v := (fun u => some (.int u))) (q_cod qk280 rfl) rfl rfl (q_cokV rfl rfl (Or.inr g3)) rfl (fun x e => f268_cl e) hf (fun v4 h hf => ?_)
      refine ev_iload_n (q_cod qk280 rfl) (by decide) rfl ?_
      refine em_ic_ne (q_cod qk280 rfl) (by decide) hf (fun c9 hf => ?_) (fun c9 hf => ?_)
      · refine ev_aload_n (q_cod qk280 rfl) (by decide) rfl ?_
        refine ev_aload_n (q_cod qk280 rfl) (by decide) rfl ?_
        refine ev_ic (v := 0) (q_cod qk280 rfl) (by decide) (by decide) ?_
        refine ev_iload_n (q_cod qk280 rfl) (by decide) rfl ?_
        refine ev_iload (q_cod qk280 rfl) (by decide) rfl ?_
        obtain ⟨g5, hf⟩ := m_aK_some hf
        refine em_call (v := (fun u => some (.int u))) (q_cod qk280 rfl) rfl rfl (q_cokV rfl rfl (Or.inr g5)) rfl (fun x e => f199_cl e) hf (fun v6 h hf => ?_)
        refine ev_iload_n (q_cod qk280 rfl) (by decide) rfl ?_
        refine ev_ic (v := 0) (q_cod qk280 rfl) (by decide) (by decide) ?_
        obtain ⟨g7, hf⟩ := m_aK_some hf
        refine em_call (v := (fun _ => none)) (q_cod qk280 rfl) rfl rfl (q_cokV rfl rfl (Or.inr g7)) rfl (fun x e => f260_cl e) hf (fun _ h hf => ?_)
        refine ev_inc (v := l9 + 1) (L' := [(0, .ref l0), (1, .int l1), (2, .int l2), (3, .int l3), (7, .int l7), (8, .int l8), (9, .int (l9 + 1)), (10, .int l10), (11, .int s0)]) (q_cod qk280 rfl) (by decide) rfl rfl rfl ?_
        refine ev_goto (q_cod qk280 rfl) (by decide) ?_
        exact ev_weak (q_pk [0, 1, 2, 3, 4, 5, 6, 7] rfl) (f280_422_ok hf hK)
      · exact (f280_374_ok hf hK)
def f280_319 (l0 : Nat) (l1 : Int32) (l2 : Int32) (l3 : Int32) (l7 : Int32) (l8 : Int32) (l9 : Int32) (l10 : Int32) : m_M ((Nat × Int32 × Int32 × Int32 × Int32 × Int32 × Int32 × Int32) ⊕ Int32) :=
  f280_320 l0 l1 l2 l3 l7 l8 l9 l10 0
set_option maxRecDepth 20000 in
theorem f280_319_ok {l0 : Nat} {l1 : Int32} {l2 : Int32} {l3 : Int32} {l7 : Int32} {l8 : Int32} {l9 : Int32} {l10 : Int32} {h : q_H} {o : q_O} {hz : q_H} {x : ((Nat × Int32 × Int32 × Int32 × Int32 × Int32 × Int32 × Int32) ⊕ Int32) × q_H} (hf : f280_319 l0 l1 l2 l3 l7 l8 l9 l10 h = some x) (hK : (m_yK (fun (s : Nat × Int32 × Int32 × Int32 × Int32 × Int32 × Int32 × Int32) (h : q_H) => q_Ev none 280 281 [(0, .ref (s.1)), (1, .int (s.2.1)), (2, .int (s.2.2.1)), (3, .int (s.2.2.2.1)), (7, .int (s.2.2.2.2.1)), (8, .int (s.2.2.2.2.2.1)), (9, .int (s.2.2.2.2.2.2.1)), (10, .int (s.2.2.2.2.2.2.2))] [] h o hz) (q_KI o hz)) x) : q_Ev none 280 319 [(0, .ref l0), (1, .int l1), (2, .int l2), (3, .int l3), (7, .int l7), (8, .int l8), (9, .int l9), (10, .int l10)] [] h o hz := by
  unfold f280_319 at hf
  refine ev_ic (v := 0) (q_cod qk280 rfl) (by decide) (by decide) ?_
  exact (f280_320_ok hf hK)
def f280_461 (s0 : Int32) : m_M Int32 :=
  m_R s0
set_option maxRecDepth 20000 in
theorem f280_461_ok {s0 : Int32} {h : q_H} {o : q_O} {hz : q_H} {x : Int32 × q_H} (hf : f280_461 s0 h = some x) (hK : (q_KI o hz) x) : q_Ev none 280 461 [] [.int s0] h o hz := by
  unfold f280_461 at hf
  obtain rfl := m_R_inv hf
  obtain ⟨rfl, rfl⟩ := (show q_KI o hz (s0, _) from hK)
  exact ev_ret (q_cod qk280 rfl) rfl
def f280_447 (l0 : Nat) (l9 : Int32) : m_M Int32 :=
  m_B (m_aK l0 12) (fun _ => m_B (f271 l0) (fun v2 => if v2 = 0 then (f280_461 (-6)) else (f280_461 l9)))
set_option maxRecDepth 20000 in
theorem f280_447_ok {l0 : Nat} {l9 : Int32} {h : q_H} {o : q_O} {hz : q_H} {x : Int32 × q_H} (hf : f280_447 l0 l9 h = some x) (hK : (q_KI o hz) x) : q_Ev none 280 447 [(0, .ref l0), (9, .int l9)] [] h o hz := by
  unfold f280_447 at hf
  refine ev_aload_n (q_cod qk280 rfl) (by decide) rfl ?_
  obtain ⟨g1, hf⟩ := m_aK_some hf
  refine em_call (v := (fun u => some (.int u))) (q_cod qk280 rfl) rfl rfl (q_cokV rfl rfl (Or.inr g1)) rfl (fun x e => f271_cl e) hf (fun v2 h hf => ?_)
  refine em_if_eq (q_cod qk280 rfl) (by decide) hf (fun c3 hf => ?_) (fun c3 hf => ?_)
  · refine ev_bi (v := (-6)) (q_cod qk280 rfl) (by decide) (by decide) ?_
    exact ev_weak (q_pk [] rfl) (f280_461_ok hf hK)
  · refine ev_iload (q_cod qk280 rfl) (by decide) rfl ?_
    refine ev_goto (q_cod qk280 rfl) (by decide) ?_
    exact ev_weak (q_pk [] rfl) (f280_461_ok hf hK)
def f280_428 (l0 : Nat) (l1 : Int32) (l2 : Int32) (l3 : Int32) (l9 : Int32) : m_M Int32 :=
  m_B (m_aK l0 12) (fun _ => m_B (f264 l0 l1) (fun _ => if l2 < 0 then (m_B (m_aK l0 12) (fun _ => m_B (f197 l0 2 l1 (3 - l2) l3) (fun _ => f280_447 l0 l9))) else (f280_447 l0 l9)))
set_option maxRecDepth 20000 in
theorem f280_428_ok {l0 : Nat} {l1 : Int32} {l2 : Int32} {l3 : Int32} {l9 : Int32} {h : q_H} {o : q_O} {hz : q_H} {x : Int32 × q_H} (hf : f280_428 l0 l1 l2 l3 l9 h = some x) (hK : (q_KI o hz) x) : q_Ev none 280 428 [(0, .ref l0), (1, .int l1), (2, .int l2), (3, .int l3), (9, .int l9)] [] h o hz := by
  unfold f280_428 at hf
  refine ev_aload_n (q_cod qk280 rfl) (by decide) rfl ?_
  refine ev_iload_n (q_cod qk280 rfl) (by decide) rfl ?_
  obtain ⟨g1, hf⟩ := m_aK_some hf
  refine em_call (v := (fun _ => none)) (q_cod qk280 rfl) rfl rfl (q_cokV rfl rfl (Or.inr g1)) rfl (fun x e => f264_cl e) hf (fun _ h hf => ?_)
  refine ev_iload_n (q_cod qk280 rfl) (by decide) rfl ?_
  refine em_if_ge (q_cod qk280 rfl) (by decide) hf (fun c5 hf => ?_) (fun c5 hf => ?_)
  · refine ev_aload_n (q_cod qk280 rfl) (by decide) rfl ?_
    refine ev_ic (v := 2) (q_cod qk280 rfl) (by decide) (by decide) ?_
    refine ev_iload_n (q_cod qk280 rfl) (by decide) rfl ?_
    refine ev_ic (v := 3) (q_cod qk280 rfl) (by decide) (by decide) ?_
    refine ev_iload_n (q_cod qk280 rfl) (by decide) rfl ?_
    refine ev_isub (q_cod qk280 rfl) (by decide) ?_
    refine ev_iload_n (q_cod qk280 rfl) (by decide) rfl ?_
    obtain ⟨g3, hf⟩ := m_aK_some hf
    refine em_call (v := (fun _ => none)) (q_cod qk280 rfl) rfl rfl (q_cokV rfl rfl (Or.inr g3)) rfl (fun x e => f197_cl e) hf (fun _ h hf => ?_)
    exact ev_weak (q_pk [0, 4] rfl) (f280_447_ok hf hK)
  · exact ev_weak (q_pk [0, 4] rfl) (f280_447_ok hf hK)
def f280_281b (l0 : Nat) (l1 : Int32) (l2 : Int32) (l3 : Int32) (l7 : Int32) (l8 : Int32) (l9 : Int32) (l10 : Int32) : m_M ((Nat × Int32 × Int32 × Int32 × Int32 × Int32 × Int32 × Int32) ⊕ Int32) :=
  m_B (m_aK l0 12) (fun _ => m_B (f270 l0 l1) (fun v2 => if l10 < v2 then (if l10 < l7 then (f280_319 l0 l1 l2 l3 l7 l8 l9 l10) else (if l10 < l8 then (m_B (m_aK l0 12) (fun _ => m_B (f266 l0 l1 l10) (fun v4 => if v4 = 0 then (f280_319 l0 l1 l2 l3 l7 l8 l9 l10) else (f280_320 l0 l1 l2 l3 l7 l8 l9 l10 1)))) else (f280_319 l0 l1 l2 l3 l7 l8 l9 l10))) else (m_B (f280_428 l0 l1 l2 l3 l9) (fun r => m_R (.inr r)))))
set_option maxRecDepth 20000 in
theorem f280_281b_ok {l0 : Nat} {l1 : Int32} {l2 : Int32} {l3 : Int32} {l7 : Int32} {l8 : Int32} {l9 : Int32} {l10 : Int32} {h : q_H} {o : q_O} {hz : q_H} {x : ((Nat × Int32 × Int32 × Int32 × Int32 × Int32 × Int32 × Int32) ⊕ Int32) × q_H} (hf : f280_281b l0 l1 l2 l3 l7 l8 l9 l10 h = some x) (hK : (m_yK (fun (s : Nat × Int32 × Int32 × Int32 × Int32 × Int32 × Int32 × Int32) (h : q_H) => q_Ev none 280 281 [(0, .ref (s.1)), (1, .int (s.2.1)), (2, .int (s.2.2.1)), (3, .int (s.2.2.2.1)), (7, .int (s.2.2.2.2.1)), (8, .int (s.2.2.2.2.2.1)), (9, .int (s.2.2.2.2.2.2.1)), (10, .int (s.2.2.2.2.2.2.2))] [] h o hz) (q_KI o hz)) x) : q_Ev none 280 281 [(0, .ref l0), (1, .int l1), (2, .int l2), (3, .int l3), (7, .int l7), (8, .int l8), (9, .int l9), (10, .int l10)] [] h o hz := by
  unfold f280_281b at hf
  refine ev_iload (q_cod qk280 rfl) (by decide) rfl ?_
  refine ev_aload_n (q_cod qk280 rfl) (by decide) rfl ?_
  refine ev_iload_n (q_cod qk280 rfl) (by decide) rfl ?_
  obtain ⟨g1, hf⟩ := m_aK_some hf
  refine em_call (v := (fun u => some (.int u))) (q_cod qk280 rfl) rfl rfl (q_cokV rfl rfl (Or.inr g1)) rfl (fun x e => f270_cl e) hf (fun v2 h hf => ?_)
  refine em_ic_ge (q_cod qk280 rfl) (by decide) hf (fun c8 hf => ?_) (fun c8 hf => ?_)
  · refine ev_iload (q_cod qk280 rfl) (by decide) rfl ?_
    refine ev_iload (q_cod qk280 rfl) (by decide) rfl ?_
    refine em_ic_lt (q_cod qk280 rfl) (by decide) hf (fun c7 hf => ?_) (fun c7 hf => ?_)
    · exact (f280_319_ok hf hK)
    · refine ev_iload (q_cod qk280 rfl) (by decide) rfl ?_
      refine ev_iload (q_cod qk280 rfl) (by decide) rfl ?_
      refine em_ic_ge (q_cod qk280 rfl) (by decide) hf (fun c6 hf => ?_) (fun c6 hf => ?_)
      · refine ev_aload_n (q_cod qk280 rfl) (by decide) rfl ?_
        refine ev_iload_n (q_cod qk280 rfl) (by decide) rfl ?_
        refine ev_iload (q_cod qk280 rfl) (by decide) rfl ?_
        obtain ⟨g3, hf⟩ := m_aK_some hf
        refine em_call (v := (fun u => some (.int u))) (q_cod qk280 rfl) rfl rfl (q_cokV rfl rfl (Or.inr g3)) rfl (fun x e => f266_cl e) hf (fun v4 h hf => ?_)
        refine em_if_eq (q_cod qk280 rfl) (by decide) hf (fun c5 hf => ?_) (fun c5 hf => ?_)
        · exact (f280_319_ok hf hK)
        · refine ev_ic (v := 1) (q_cod qk280 rfl) (by decide) (by decide) ?_
          refine ev_goto (q_cod qk280 rfl) (by decide) ?_
          exact (f280_320_ok hf hK)
      · exact (f280_319_ok hf hK)
  · obtain ⟨y0, hf0, hx⟩ := m_inr_some hf
    subst hx
    exact ev_weak (q_pk [0, 1, 2, 3, 6] rfl) (f280_428_ok hf0 hK)
def f280_281 (l0 : Nat) (l1 : Int32) (l2 : Int32) (l3 : Int32) (l7 : Int32) (l8 : Int32) (l9 : Int32) (l10 : Int32) : m_M Int32 := m_W (fun s => f280_281b (s.1) (s.2.1) (s.2.2.1) (s.2.2.2.1) (s.2.2.2.2.1) (s.2.2.2.2.2.1) (s.2.2.2.2.2.2.1) (s.2.2.2.2.2.2.2)) 1000000 (l0, l1, l2, l3, l7, l8, l9, l10)
theorem f280_281_ok {l0 : Nat} {l1 : Int32} {l2 : Int32} {l3 : Int32} {l7 : Int32} {l8 : Int32} {l9 : Int32} {l10 : Int32} {h : q_H} {o : q_O} {hz : q_H} {x : Int32 × q_H} (hf : f280_281 l0 l1 l2 l3 l7 l8 l9 l10 h = some x) (hK : (q_KI o hz) x) : q_Ev none 280 281 [(0, .ref l0), (1, .int l1), (2, .int l2), (3, .int l3), (7, .int l7), (8, .int l8), (9, .int l9), (10, .int l10)] [] h o hz :=
  m_W_ok (P := (fun (s : Nat × Int32 × Int32 × Int32 × Int32 × Int32 × Int32 × Int32) (h : q_H) => q_Ev none 280 281 [(0, .ref (s.1)), (1, .int (s.2.1)), (2, .int (s.2.2.1)), (3, .int (s.2.2.2.1)), (7, .int (s.2.2.2.2.1)), (8, .int (s.2.2.2.2.2.1)), (9, .int (s.2.2.2.2.2.2.1)), (10, .int (s.2.2.2.2.2.2.2))] [] h o hz)) (K := (q_KI o hz)) (fun s h x h1 h2 => f280_281b_ok h1 h2) _ (l0, l1, l2, l3, l7, l8, l9, l10) _ _ hf hK
def f280_245 (l0 : Nat) (l1 : Int32) (l2 : Int32) (l3 : Int32) (l7 : Int32) (s0 : Int32) : m_M Int32 :=
  m_B (m_aK l0 12) (fun _ => m_B (f281 l0 l1 l2 l3 l7 s0) (fun v2 => if v2 = 0 then (m_B (m_aK l0 12) (fun _ => m_B (f203 l0 0 2) (fun _ => m_B (m_pI 12 l0 38 0) (fun _ => f280_281 l0 l1 l2 l3 l7 s0 0 0)))) else (m_R (-2))))
set_option maxRecDepth 20000 in
theorem f280_245_ok {l0 : Nat} {l1 : Int32} {l2 : Int32} {l3 : Int32} {l7 : Int32} {s0 : Int32} {h : q_H} {o : q_O} {hz : q_H} {x : Int32 × q_H} (hf : f280_245 l0 l1 l2 l3 l7 s0 h = some x) (hK : (q_KI o hz) x) : q_Ev none 280 245 [(0, .ref l0), (1, .int l1), (2, .int l2), (3, .int l3), (7, .int l7)] [.int s0] h o hz := by
  unfold f280_245 at hf
  refine ev_is2 (L' := [(0, .ref l0), (1, .int l1), (2, .int l2), (3, .int l3), (7, .int l7), (8, .int s0)]) (q_cod qk280 rfl) (by decide) rfl ?_
  refine ev_aload_n (q_cod qk280 rfl) (by decide) rfl ?_
  refine ev_iload_n (q_cod qk280 rfl) (by decide) rfl ?_
  refine ev_iload_n (q_cod qk280 rfl) (by decide) rfl ?_
  refine ev_iload_n (q_cod qk280 rfl) (by decide) rfl ?_
  refine ev_iload (q_cod qk280 rfl) (by decide) rfl ?_
  refine ev_iload (q_cod qk280 rfl) (by decide) rfl ?_
  obtain ⟨g1, hf⟩ := m_aK_some hf
  refine em_call (v := (fun u => some (.int u))) (q_cod qk280 rfl) rfl rfl (q_cokV rfl rfl (Or.inr g1)) rfl (fun x e => f281_cl e) hf (fun v2 h hf => ?_)
  refine em_if_eq (q_cod qk280 rfl) (by decide) hf (fun c5 hf => ?_) (fun c5 hf => ?_)
  · refine ev_aload_n (q_cod qk280 rfl) (by decide) rfl ?_
    refine ev_ic (v := 0) (q_cod qk280 rfl) (by decide) (by decide) ?_
    refine ev_ic (v := 2) (q_cod qk280 rfl) (by decide) (by decide) ?_
    obtain ⟨g3, hf⟩ := m_aK_some hf
    refine em_call (v := (fun _ => none)) (q_cod qk280 rfl) rfl rfl (q_cokV rfl rfl (Or.inr g3)) rfl (fun x e => f203_cl e) hf (fun _ h hf => ?_)
    refine ev_ic (v := 0) (q_cod qk280 rfl) (by decide) (by decide) ?_
    refine ev_is2 (L' := [(0, .ref l0), (1, .int l1), (2, .int l2), (3, .int l3), (7, .int l7), (8, .int s0), (9, .int 0)]) (q_cod qk280 rfl) (by decide) rfl ?_
    refine ev_aload_n (q_cod qk280 rfl) (by decide) rfl ?_
    refine ev_ic (v := 0) (q_cod qk280 rfl) (by decide) (by decide) ?_
    refine em_pI (q_cod qk280 rfl) (by decide) (by decide) (by decide) hf (fun hf => ?_)
    refine ev_ic (v := 0) (q_cod qk280 rfl) (by decide) (by decide) ?_
    refine ev_is2 (L' := [(0, .ref l0), (1, .int l1), (2, .int l2), (3, .int l3), (7, .int l7), (8, .int s0), (9, .int 0), (10, .int 0)]) (q_cod qk280 rfl) (by decide) rfl ?_
    exact (f280_281_ok hf hK)
  · refine ev_bi (v := (-2)) (q_cod qk280 rfl) (by decide) (by decide) ?_
    obtain rfl := m_R_inv hf
    obtain ⟨rfl, rfl⟩ := (show q_KI o hz ((-2), _) from hK)
    exact ev_ret (q_cod qk280 rfl) rfl
def f280_223 (l0 : Nat) (l1 : Int32) (l2 : Int32) (l3 : Int32) (s0 : Int32) : m_M Int32 :=
  if l2 < 0 then (m_B (m_aK l0 12) (fun _ => m_B (f270 l0 l1) (fun v2 => f280_245 l0 l1 l2 l3 s0 v2))) else (m_B (m_aK l0 12) (fun _ => m_B (f269 l0 l1 l2) (fun v4 => f280_245 l0 l1 l2 l3 s0 (l2 + v4))))
set_option maxRecDepth 20000 in
theorem f280_223_ok {l0 : Nat} {l1 : Int32} {l2 : Int32} {l3 : Int32} {s0 : Int32} {h : q_H} {o : q_O} {hz : q_H} {x : Int32 × q_H} (hf : f280_223 l0 l1 l2 l3 s0 h = some x) (hK : (q_KI o hz) x) : q_Ev none 280 223 [(0, .ref l0), (1, .int l1), (2, .int l2), (3, .int l3)] [.int s0] h o hz := by
  unfold f280_223 at hf
  refine ev_is2 (L' := [(0, .ref l0), (1, .int l1), (2, .int l2), (3, .int l3), (7, .int s0)]) (q_cod qk280 rfl) (by decide) rfl ?_
  refine ev_iload_n (q_cod qk280 rfl) (by decide) rfl ?_
  refine em_if_ge (q_cod qk280 rfl) (by decide) hf (fun c5 hf => ?_) (fun c5 hf => ?_)
  · refine ev_aload_n (q_cod qk280 rfl) (by decide) rfl ?_
    refine ev_iload_n (q_cod qk280 rfl) (by decide) rfl ?_
    obtain ⟨g1, hf⟩ := m_aK_some hf
    refine em_call (v := (fun u => some (.int u))) (q_cod qk280 rfl) rfl rfl (q_cokV rfl rfl (Or.inr g1)) rfl (fun x e => f270_cl e) hf (fun v2 h hf => ?_)
    refine ev_goto (q_cod qk280 rfl) (by decide) ?_
    exact (f280_245_ok hf hK)
  · refine ev_iload_n (q_cod qk280 rfl) (by decide) rfl ?_
    refine ev_aload_n (q_cod qk280 rfl) (by decide) rfl ?_
    refine ev_iload_n (q_cod qk280 rfl) (by decide) rfl ?_
    refine ev_iload_n (q_cod qk280 rfl) (by decide) rfl ?_
    obtain ⟨g3, hf⟩ := m_aK_some hf
    refine em_call (v := (fun u => some (.int u))) (q_cod qk280 rfl) rfl rfl (q_cokV rfl rfl (Or.inr g3)) rfl (fun x e => f269_cl e) hf (fun v4 h hf => ?_)
    refine ev_iadd (q_cod qk280 rfl) (by decide) ?_
    exact (f280_245_ok hf hK)
def f280_208 (l0 : Nat) (l1 : Int32) (l2 : Int32) (l3 : Int32) : m_M Int32 :=
  if l2 < 0 then (f280_223 l0 l1 l2 l3 0) else (m_B (m_aK l0 12) (fun _ => m_B (f223 l0 l1 l2 1) (fun v2 => f280_223 l0 l1 l2 l3 v2)))
set_option maxRecDepth 20000 in
theorem f280_208_ok {l0 : Nat} {l1 : Int32} {l2 : Int32} {l3 : Int32} {h : q_H} {o : q_O} {hz : q_H} {x : Int32 × q_H} (hf : f280_208 l0 l1 l2 l3 h = some x) (hK : (q_KI o hz) x) : q_Ev none 280 208 [(0, .ref l0), (1, .int l1), (2, .int l2), (3, .int l3)] [] h o hz := by
  unfold f280_208 at hf
  refine ev_iload_n (q_cod qk280 rfl) (by decide) rfl ?_
  refine em_if_ge (q_cod qk280 rfl) (by decide) hf (fun c3 hf => ?_) (fun c3 hf => ?_)
  · refine ev_ic (v := 0) (q_cod qk280 rfl) (by decide) (by decide) ?_
    refine ev_goto (q_cod qk280 rfl) (by decide) ?_
    exact (f280_223_ok hf hK)
  · refine ev_aload_n (q_cod qk280 rfl) (by decide) rfl ?_
    refine ev_iload_n (q_cod qk280 rfl) (by decide) rfl ?_
    refine ev_iload_n (q_cod qk280 rfl) (by decide) rfl ?_
    refine ev_ic (v := 1) (q_cod qk280 rfl) (by decide) (by decide) ?_
    obtain ⟨g1, hf⟩ := m_aK_some hf
    refine em_call (v := (fun u => some (.int u))) (q_cod qk280 rfl) rfl rfl (q_cokV rfl rfl (Or.inr g1)) rfl (fun x e => f223_cl e) hf (fun v2 h hf => ?_)
    exact (f280_223_ok hf hK)
def f280_177 (l0 : Nat) (l1 : Int32) (l2 : Int32) (l3 : Int32) : m_M Int32 :=
  if l2 < 0 then (m_B (m_aK l0 12) (fun _ => m_B (f196 l0 0 l1 3) (fun v2 => if v2 = 2 then (m_B (m_aK l0 12) (fun _ => m_B (f196 l0 0 l1 (6 + l2)) (fun v4 => if v4 = l3 then (m_R (-1)) else (f280_208 l0 l1 l2 l3)))) else (f280_208 l0 l1 l2 l3)))) else (f280_208 l0 l1 l2 l3)
set_option maxRecDepth 20000 in
theorem f280_177_ok {l0 : Nat} {l1 : Int32} {l2 : Int32} {l3 : Int32} {h : q_H} {o : q_O} {hz : q_H} {x : Int32 × q_H} (hf : f280_177 l0 l1 l2 l3 h = some x) (hK : (q_KI o hz) x) : q_Ev none 280 177 [(0, .ref l0), (1, .int l1), (2, .int l2), (3, .int l3)] [] h o hz := by
  unfold f280_177 at hf
  refine ev_iload_n (q_cod qk280 rfl) (by decide) rfl ?_
  refine em_if_ge (q_cod qk280 rfl) (by decide) hf (fun c7 hf => ?_) (fun c7 hf => ?_)
  · refine ev_aload_n (q_cod qk280 rfl) (by decide) rfl ?_
    refine ev_ic (v := 0) (q_cod qk280 rfl) (by decide) (by decide) ?_
    refine ev_iload_n (q_cod qk280 rfl) (by decide) rfl ?_
    refine ev_ic (v := 3) (q_cod qk280 rfl) (by decide) (by decide) ?_
    obtain ⟨g1, hf⟩ := m_aK_some hf
    refine em_call (v := (fun u => some (.int u))) (q_cod qk280 rfl) rfl rfl (q_cokV rfl rfl (Or.inr g1)) rfl (fun x e => f196_cl e) hf (fun v2 h hf => ?_)
    refine ev_ic (v := 2) (q_cod qk280 rfl) (by decide) (by decide) ?_
    refine em_ic_ne (q_cod qk280 rfl) (by decide) hf (fun c6 hf => ?_) (fun c6 hf => ?_)
    · refine ev_aload_n (q_cod qk280 rfl) (by decide) rfl ?_
      refine ev_ic (v := 0) (q_cod qk280 rfl) (by decide) (by decide) ?_
      refine ev_iload_n (q_cod qk280 rfl) (by decide) rfl ?_
      refine ev_bi (v := 6) (q_cod qk280 rfl) (by decide) (by decide) ?_
      refine ev_iload_n (q_cod qk280 rfl) (by decide) rfl ?_
      refine ev_iadd (q_cod qk280 rfl) (by decide) ?_
      obtain ⟨g3, hf⟩ := m_aK_some hf
      refine em_call (v := (fun u => some (.int u))) (q_cod qk280 rfl) rfl rfl (q_cokV rfl rfl (Or.inr g3)) rfl (fun x e => f196_cl e) hf (fun v4 h hf => ?_)
      refine ev_iload_n (q_cod qk280 rfl) (by decide) rfl ?_
      refine em_ic_ne (q_cod qk280 rfl) (by decide) hf (fun c5 hf => ?_) (fun c5 hf => ?_)
      · refine ev_ic (v := (-1)) (q_cod qk280 rfl) (by decide) (by decide) ?_
        obtain rfl := m_R_inv hf
        obtain ⟨rfl, rfl⟩ := (show q_KI o hz ((-1), _) from hK)
        exact ev_ret (q_cod qk280 rfl) rfl
      · exact (f280_208_ok hf hK)
    · exact (f280_208_ok hf hK)
  · exact (f280_208_ok hf hK)
def f280_157 (l0 : Nat) (l1 : Int32) (l2 : Int32) (l3 : Int32) (l5 : Int32) (s0 : Nat) (s1 : Int32) : m_M Int32 :=
  m_B (m_aK s0 12) (fun _ => m_B (f178 s0 s1) (fun v2 => if v2 = 0 then (if l2 < 0 then (f280_177 l0 l1 l2 l3) else (if l5 = 0 then (m_R (-10)) else (f280_177 l0 l1 l2 l3))) else (m_R 0)))
set_option maxRecDepth 20000 in
theorem f280_157_ok {l0 : Nat} {l1 : Int32} {l2 : Int32} {l3 : Int32} {l5 : Int32} {s0 : Nat} {s1 : Int32} {h : q_H} {o : q_O} {hz : q_H} {x : Int32 × q_H} (hf : f280_157 l0 l1 l2 l3 l5 s0 s1 h = some x) (hK : (q_KI o hz) x) : q_Ev none 280 157 [(0, .ref l0), (1, .int l1), (2, .int l2), (3, .int l3), (5, .int l5)] [.int s1, .ref s0] h o hz := by
  unfold f280_157 at hf
  obtain ⟨g1, hf⟩ := m_aK_some hf
  refine em_call (v := (fun u => some (.int u))) (q_cod qk280 rfl) rfl rfl (q_cokV rfl rfl (Or.inr g1)) rfl (fun x e => f178_cl e) hf (fun v2 h hf => ?_)
  refine em_if_eq (q_cod qk280 rfl) (by decide) hf (fun c5 hf => ?_) (fun c5 hf => ?_)
  · refine ev_iload_n (q_cod qk280 rfl) (by decide) rfl ?_
    refine em_if_lt (q_cod qk280 rfl) (by decide) hf (fun c4 hf => ?_) (fun c4 hf => ?_)
    · exact ev_weak (q_pk [0, 1, 2, 3] rfl) (f280_177_ok hf hK)
    · refine ev_iload (q_cod qk280 rfl) (by decide) rfl ?_
      refine em_if_ne (q_cod qk280 rfl) (by decide) hf (fun c3 hf => ?_) (fun c3 hf => ?_)
      · refine ev_bi (v := (-10)) (q_cod qk280 rfl) (by decide) (by decide) ?_
        obtain rfl := m_R_inv hf
        obtain ⟨rfl, rfl⟩ := (show q_KI o hz ((-10), _) from hK)
        exact ev_ret (q_cod qk280 rfl) rfl
      · exact ev_weak (q_pk [0, 1, 2, 3] rfl) (f280_177_ok hf hK)
  · refine ev_ic (v := 0) (q_cod qk280 rfl) (by decide) (by decide) ?_
    obtain rfl := m_R_inv hf
    obtain ⟨rfl, rfl⟩ := (show q_KI o hz (0, _) from hK)
    exact ev_ret (q_cod qk280 rfl) rfl
def f280_141 (l0 : Nat) (l1 : Int32) (l2 : Int32) (l3 : Int32) (l5 : Int32) (s0 : Nat) : m_M Int32 :=
  f280_157 l0 l1 l2 l3 l5 s0 2
set_option maxRecDepth 20000 in
theorem f280_141_ok {l0 : Nat} {l1 : Int32} {l2 : Int32} {l3 : Int32} {l5 : Int32} {s0 : Nat} {h : q_H} {o : q_O} {hz : q_H} {x : Int32 × q_H} (hf : f280_141 l0 l1 l2 l3 l5 s0 h = some x) (hK : (q_KI o hz) x) : q_Ev none 280 141 [(0, .ref l0), (1, .int l1), (2, .int l2), (3, .int l3), (5, .int l5)] [.ref s0] h o hz := by
  unfold f280_141 at hf
  refine ev_ic (v := 2) (q_cod qk280 rfl) (by decide) (by decide) ?_
  refine ev_goto (q_cod qk280 rfl) (by decide) ?_
  exact (f280_157_ok hf hK)
def f280_117 (l0 : Nat) (l1 : Int32) (l2 : Int32) (l3 : Int32) (l4 : Int32) (l5 : Int32) (s0 : Int32) : m_M Int32 :=
  if l4 = 0 then (f280_157 l0 l1 l2 l3 l5 l0 1) else (m_B (f180 l3) (fun v1 => if v1 = 0 then (f280_141 l0 l1 l2 l3 l5 l0) else (if s0 = 0 then (m_B (m_aK l0 12) (fun _ => m_B (f272 l0) (fun v3 => if v3 = 0 then (f280_157 l0 l1 l2 l3 l5 l0 3) else (f280_157 l0 l1 l2 l3 l5 l0 0)))) else (f280_141 l0 l1 l2 l3 l5 l0))))
set_option maxRecDepth 20000 in
theorem f280_117_ok {l0 : Nat} {l1 : Int32} {l2 : Int32} {l3 : Int32} {l4 : Int32} {l5 : Int32} {s0 : Int32} {h : q_H} {o : q_O} {hz : q_H} {x : Int32 × q_H} (hf : f280_117 l0 l1 l2 l3 l4 l5 s0 h = some x) (hK : (q_KI o hz) x) : q_Ev none 280 117 [(0, .ref l0), (1, .int l1), (2, .int l2), (3, .int l3), (4, .int l4), (5, .int l5)] [.int s0] h o hz := by
  unfold f280_117 at hf
  refine ev_is2 (L' := [(0, .ref l0), (1, .int l1), (2, .int l2), (3, .int l3), (4, .int l4), (5, .int l5), (6, .int s0)]) (q_cod qk280 rfl) (by decide) rfl ?_
  refine ev_aload_n (q_cod qk280 rfl) (by decide) rfl ?_
  refine ev_iload (q_cod qk280 rfl) (by decide) rfl ?_
  refine em_if_ne (q_cod qk280 rfl) (by decide) hf (fun c7 hf => ?_) (fun c7 hf => ?_)
  · refine ev_ic (v := 1) (q_cod qk280 rfl) (by decide) (by decide) ?_
    refine ev_goto (q_cod qk280 rfl) (by decide) ?_
    exact ev_weak (q_pk [0, 1, 2, 3, 5] rfl) (f280_157_ok hf hK)
  · refine ev_iload_n (q_cod qk280 rfl) (by decide) rfl ?_
    refine em_call (v := (fun u => some (.int u))) (q_cod qk280 rfl) rfl rfl (q_cokS rfl rfl) rfl (fun x e => f180_cl e) hf (fun v1 h hf => ?_)
    refine em_if_eq (q_cod qk280 rfl) (by decide) hf (fun c6 hf => ?_) (fun c6 hf => ?_)
    · exact ev_weak (q_pk [0, 1, 2, 3, 5] rfl) (f280_141_ok hf hK)
    · refine ev_iload (q_cod qk280 rfl) (by decide) rfl ?_
      refine em_if_eq (q_cod qk280 rfl) (by decide) hf (fun c5 hf => ?_) (fun c5 hf => ?_)
      · refine ev_aload_n (q_cod qk280 rfl) (by decide) rfl ?_
        obtain ⟨g2, hf⟩ := m_aK_some hf
        refine em_call (v := (fun u => some (.int u))) (q_cod qk280 rfl) rfl rfl (q_cokV rfl rfl (Or.inr g2)) rfl (fun x e => f272_cl e) hf (fun v3 h hf => ?_)
        refine em_if_ne (q_cod qk280 rfl) (by decide) hf (fun c4 hf => ?_) (fun c4 hf => ?_)
        · refine ev_ic (v := 3) (q_cod qk280 rfl) (by decide) (by decide) ?_
          refine ev_goto (q_cod qk280 rfl) (by decide) ?_
          exact ev_weak (q_pk [0, 1, 2, 3, 5] rfl) (f280_157_ok hf hK)
        · refine ev_ic (v := 0) (q_cod qk280 rfl) (by decide) (by decide) ?_
          exact ev_weak (q_pk [0, 1, 2, 3, 5] rfl) (f280_157_ok hf hK)
      · exact ev_weak (q_pk [0, 1, 2, 3, 5] rfl) (f280_141_ok hf hK)
def f280_116 (l0 : Nat) (l1 : Int32) (l2 : Int32) (l3 : Int32) (l4 : Int32) (l5 : Int32) : m_M Int32 :=
  f280_117 l0 l1 l2 l3 l4 l5 0
set_option maxRecDepth 20000 in
theorem f280_116_ok {l0 : Nat} {l1 : Int32} {l2 : Int32} {l3 : Int32} {l4 : Int32} {l5 : Int32} {h : q_H} {o : q_O} {hz : q_H} {x : Int32 × q_H} (hf : f280_116 l0 l1 l2 l3 l4 l5 h = some x) (hK : (q_KI o hz) x) : q_Ev none 280 116 [(0, .ref l0), (1, .int l1), (2, .int l2), (3, .int l3), (4, .int l4), (5, .int l5)] [] h o hz := by
  unfold f280_116 at hf
  refine ev_ic (v := 0) (q_cod qk280 rfl) (by decide) (by decide) ?_
  exact (f280_117_ok hf hK)
def f280_112 (l0 : Nat) (l1 : Int32) (l2 : Int32) (l3 : Int32) (l4 : Int32) (l5 : Int32) : m_M Int32 :=
  f280_117 l0 l1 l2 l3 l4 l5 1
set_option maxRecDepth 20000 in
theorem f280_112_ok {l0 : Nat} {l1 : Int32} {l2 : Int32} {l3 : Int32} {l4 : Int32} {l5 : Int32} {h : q_H} {o : q_O} {hz : q_H} {x : Int32 × q_H} (hf : f280_112 l0 l1 l2 l3 l4 l5 h = some x) (hK : (q_KI o hz) x) : q_Ev none 280 112 [(0, .ref l0), (1, .int l1), (2, .int l2), (3, .int l3), (4, .int l4), (5, .int l5)] [] h o hz := by
  unfold f280_112 at hf
  refine ev_ic (v := 1) (q_cod qk280 rfl) (by decide) (by decide) ?_
  refine ev_goto (q_cod qk280 rfl) (by decide) ?_
  exact (f280_117_ok hf hK)
def f280_69 (l0 : Nat) (l1 : Int32) (l2 : Int32) (l3 : Int32) (l4 : Int32) (s0 : Int32) : m_M Int32 :=
  if l4 = 0 then (f280_116 l0 l1 l2 l3 l4 s0) else (if l2 < 0 then (m_B (m_aK l0 12) (fun _ => m_B (f196 l0 0 l1 (3 - l2)) (fun v2 => if v2 = l3 then (f280_112 l0 l1 l2 l3 l4 s0) else (f280_116 l0 l1 l2 l3 l4 s0)))) else (if s0 = 0 then (f280_116 l0 l1 l2 l3 l4 s0) else (m_B (m_aK l0 12) (fun _ => m_B (f200 l0 0 l1 l2) (fun v5 => if v5 = l3 then (f280_112 l0 l1 l2 l3 l4 s0) else (f280_116 l0 l1 l2 l3 l4 s0))))))
set_option maxRecDepth 20000 in
theorem f280_69_ok {l0 : Nat} {l1 : Int32} {l2 : Int32} {l3 : Int32} {l4 : Int32} {s0 : Int32} {h : q_H} {o : q_O} {hz : q_H} {x : Int32 × q_H} (hf : f280_69 l0 l1 l2 l3 l4 s0 h = some x) (hK : (q_KI o hz) x) : q_Ev none 280 69 [(0, .ref l0), (1, .int l1), (2, .int l2), (3, .int l3), (4, .int l4)] [.int s0] h o hz := by
  unfold f280_69 at hf
  refine ev_is2 (L' := [(0, .ref l0), (1, .int l1), (2, .int l2), (3, .int l3), (4, .int l4), (5, .int s0)]) (q_cod qk280 rfl) (by decide) rfl ?_
  refine ev_iload (q_cod qk280 rfl) (by decide) rfl ?_
  refine em_if_eq (q_cod qk280 rfl) (by decide) hf (fun c9 hf => ?_) (fun c9 hf => ?_)
  · exact (f280_116_ok hf hK)
  · refine ev_iload_n (q_cod qk280 rfl) (by decide) rfl ?_
    refine em_if_ge (q_cod qk280 rfl) (by decide) hf (fun c8 hf => ?_) (fun c8 hf => ?_)
    · refine ev_aload_n (q_cod qk280 rfl) (by decide) rfl ?_
      refine ev_ic (v := 0) (q_cod qk280 rfl) (by decide) (by decide) ?_
      refine ev_iload_n (q_cod qk280 rfl) (by decide) rfl ?_
      refine ev_ic (v := 3) (q_cod qk280 rfl) (by decide) (by decide) ?_
      refine ev_iload_n (q_cod qk280 rfl) (by decide) rfl ?_
      refine ev_isub (q_cod qk280 rfl) (by decide) ?_
      obtain ⟨g1, hf⟩ := m_aK_some hf
      refine em_call (v := (fun u => some (.int u))) (q_cod qk280 rfl) rfl rfl (q_cokV rfl rfl (Or.inr g1)) rfl (fun x e => f196_cl e) hf (fun v2 h hf => ?_)
      refine ev_iload_n (q_cod qk280 rfl) (by decide) rfl ?_
      refine em_ic_ne (q_cod qk280 rfl) (by decide) hf (fun c3 hf => ?_) (fun c3 hf => ?_)
      · refine ev_goto (q_cod qk280 rfl) (by decide) ?_
        exact (f280_112_ok hf hK)
      · exact (f280_116_ok hf hK)
    · refine ev_iload (q_cod qk280 rfl) (by decide) rfl ?_
      refine em_if_eq (q_cod qk280 rfl) (by decide) hf (fun c7 hf => ?_) (fun c7 hf => ?_)
      · exact (f280_116_ok hf hK)
      · refine ev_aload_n (q_cod qk280 rfl) (by decide) rfl ?_
        refine ev_ic (v := 0) (q_cod qk280 rfl) (by decide) (by decide) ?_
        refine ev_iload_n (q_cod qk280 rfl) (by decide) rfl ?_
        refine ev_iload_n (q_cod qk280 rfl) (by decide) rfl ?_
        obtain ⟨g4, hf⟩ := m_aK_some hf
        refine em_call (v := (fun u => some (.int u))) (q_cod qk280 rfl) rfl rfl (q_cokV rfl rfl (Or.inr g4)) rfl (fun x e => f200_cl e) hf (fun v5 h hf => ?_)
        refine ev_iload_n (q_cod qk280 rfl) (by decide) rfl ?_
        refine em_ic_ne (q_cod qk280 rfl) (by decide) hf (fun c6 hf => ?_) (fun c6 hf => ?_)
        · exact (f280_112_ok hf hK)
        · exact (f280_116_ok hf hK)
def f280_68 (l0 : Nat) (l1 : Int32) (l2 : Int32) (l3 : Int32) (l4 : Int32) : m_M Int32 :=
  f280_69 l0 l1 l2 l3 l4 0
set_option maxRecDepth 20000 in
theorem f280_68_ok {l0 : Nat} {l1 : Int32} {l2 : Int32} {l3 : Int32} {l4 : Int32} {h : q_H} {o : q_O} {hz : q_H} {x : Int32 × q_H} (hf : f280_68 l0 l1 l2 l3 l4 h = some x) (hK : (q_KI o hz) x) : q_Ev none 280 68 [(0, .ref l0), (1, .int l1), (2, .int l2), (3, .int l3), (4, .int l4)] [] h o hz := by
  unfold f280_68 at hf
  refine ev_ic (v := 0) (q_cod qk280 rfl) (by decide) (by decide) ?_
  exact (f280_69_ok hf hK)
def f280_42 (l0 : Nat) (l1 : Int32) (l2 : Int32) (l3 : Int32) (s0 : Int32) : m_M Int32 :=
  if s0 = 0 then (f280_68 l0 l1 l2 l3 s0) else (if l2 < 0 then (f280_68 l0 l1 l2 l3 s0) else (m_B (m_aK l0 12) (fun _ => m_B (f199 l0 0 l1 l2) (fun v2 => if v2 = 5 then (f280_69 l0 l1 l2 l3 s0 1) else (f280_68 l0 l1 l2 l3 s0)))))
set_option maxRecDepth 20000 in
theorem f280_42_ok {l0 : Nat} {l1 : Int32} {l2 : Int32} {l3 : Int32} {s0 : Int32} {h : q_H} {o : q_O} {hz : q_H} {x : Int32 × q_H} (hf : f280_42 l0 l1 l2 l3 s0 h = some x) (hK : (q_KI o hz) x) : q_Ev none 280 42 [(0, .ref l0), (1, .int l1), (2, .int l2), (3, .int l3)] [.int s0] h o hz := by
  unfold f280_42 at hf
  refine ev_is2 (L' := [(0, .ref l0), (1, .int l1), (2, .int l2), (3, .int l3), (4, .int s0)]) (q_cod qk280 rfl) (by decide) rfl ?_
  refine ev_iload (q_cod qk280 rfl) (by decide) rfl ?_
  refine em_if_eq (q_cod qk280 rfl) (by decide) hf (fun c5 hf => ?_) (fun c5 hf => ?_)
  · exact (f280_68_ok hf hK)
  · refine ev_iload_n (q_cod qk280 rfl) (by decide) rfl ?_
    refine em_if_lt (q_cod qk280 rfl) (by decide) hf (fun c4 hf => ?_) (fun c4 hf => ?_)
    · exact (f280_68_ok hf hK)
    · refine ev_aload_n (q_cod qk280 rfl) (by decide) rfl ?_
      refine ev_ic (v := 0) (q_cod qk280 rfl) (by decide) (by decide) ?_
      refine ev_iload_n (q_cod qk280 rfl) (by decide) rfl ?_
      refine ev_iload_n (q_cod qk280 rfl) (by decide) rfl ?_
      obtain ⟨g1, hf⟩ := m_aK_some hf
      refine em_call (v := (fun u => some (.int u))) (q_cod qk280 rfl) rfl rfl (q_cokV rfl rfl (Or.inr g1)) rfl (fun x e => f199_cl e) hf (fun v2 h hf => ?_)
      refine ev_ic (v := 5) (q_cod qk280 rfl) (by decide) (by decide) ?_
      refine em_ic_ne (q_cod qk280 rfl) (by decide) hf (fun c3 hf => ?_) (fun c3 hf => ?_)
      · refine ev_ic (v := 1) (q_cod qk280 rfl) (by decide) (by decide) ?_
        refine ev_goto (q_cod qk280 rfl) (by decide) ?_
        exact (f280_69_ok hf hK)
      · exact (f280_68_ok hf hK)
def f280_41 (l0 : Nat) (l1 : Int32) (l2 : Int32) (l3 : Int32) : m_M Int32 :=
  f280_42 l0 l1 l2 l3 0
set_option maxRecDepth 20000 in
theorem f280_41_ok {l0 : Nat} {l1 : Int32} {l2 : Int32} {l3 : Int32} {h : q_H} {o : q_O} {hz : q_H} {x : Int32 × q_H} (hf : f280_41 l0 l1 l2 l3 h = some x) (hK : (q_KI o hz) x) : q_Ev none 280 41 [(0, .ref l0), (1, .int l1), (2, .int l2), (3, .int l3)] [] h o hz := by
  unfold f280_41 at hf
  refine ev_ic (v := 0) (q_cod qk280 rfl) (by decide) (by decide) ?_
  exact (f280_42_ok hf hK)
def f280_37 (l0 : Nat) (l1 : Int32) (l2 : Int32) (l3 : Int32) : m_M Int32 :=
  f280_42 l0 l1 l2 l3 1
set_option maxRecDepth 20000 in
theorem f280_37_ok {l0 : Nat} {l1 : Int32} {l2 : Int32} {l3 : Int32} {h : q_H} {o : q_O} {hz : q_H} {x : Int32 × q_H} (hf : f280_37 l0 l1 l2 l3 h = some x) (hK : (q_KI o hz) x) : q_Ev none 280 37 [(0, .ref l0), (1, .int l1), (2, .int l2), (3, .int l3)] [] h o hz := by
  unfold f280_37 at hf
  refine ev_ic (v := 1) (q_cod qk280 rfl) (by decide) (by decide) ?_
  refine ev_goto (q_cod qk280 rfl) (by decide) ?_
  exact (f280_42_ok hf hK)
def f280 (l0 : Nat) (l1 : Int32) (l2 : Int32) (l3 : Int32) : m_M Int32 :=
  m_B (m_aK l0 12) (fun _ => m_B (f206 l0 0 l1) (fun v2 => if v2 = 0 then (f280_41 l0 l1 l2 l3) else (if l2 < 0 then (m_B (m_aK l0 12) (fun _ => m_B (f196 l0 0 l1 3) (fun v4 => if l2 < (-v4) then (f280_41 l0 l1 l2 l3) else (f280_37 l0 l1 l2 l3)))) else (m_B (m_aK l0 12) (fun _ => m_B (f270 l0 l1) (fun v7 => if l2 < v7 then (f280_37 l0 l1 l2 l3) else (f280_41 l0 l1 l2 l3)))))))
set_option maxRecDepth 20000 in
theorem f280_ok {l0 : Nat} {l1 : Int32} {l2 : Int32} {l3 : Int32} {h : q_H} {o : q_O} {hz : q_H} {x : Int32 × q_H} (hf : f280 l0 l1 l2 l3 h = some x) (hK : (q_KI o hz) x) : q_Ev none 280 0 [(0, .ref l0), (1, .int l1), (2, .int l2), (3, .int l3)] [] h o hz := by
  unfold f280 at hf
  refine ev_aload_n (q_cod qk280 rfl) (by decide) rfl ?_
  refine ev_ic (v := 0) (q_cod qk280 rfl) (by decide) (by decide) ?_
  refine ev_iload_n (q_cod qk280 rfl) (by decide) rfl ?_
  obtain ⟨g1, hf⟩ := m_aK_some hf
  refine em_call (v := (fun u => some (.int u))) (q_cod qk280 rfl) rfl rfl (q_cokV rfl rfl (Or.inr g1)) rfl (fun x e => f206_cl e) hf (fun v2 h hf => ?_)
  refine em_if_eq (q_cod qk280 rfl) (by decide) hf (fun c10 hf => ?_) (fun c10 hf => ?_)
  · exact (f280_41_ok hf hK)
  · refine ev_iload_n (q_cod qk280 rfl) (by decide) rfl ?_
    refine em_if_ge (q_cod qk280 rfl) (by decide) hf (fun c9 hf => ?_) (fun c9 hf => ?_)
    · refine ev_iload_n (q_cod qk280 rfl) (by decide) rfl ?_
      refine ev_aload_n (q_cod qk280 rfl) (by decide) rfl ?_
      refine ev_ic (v := 0) (q_cod qk280 rfl) (by decide) (by decide) ?_
      refine ev_iload_n (q_cod qk280 rfl) (by decide) rfl ?_
      refine ev_ic (v := 3) (q_cod qk280 rfl) (by decide) (by decide) ?_
      obtain ⟨g3, hf⟩ := m_aK_some hf
      refine em_call (v := (fun u => some (.int u))) (q_cod qk280 rfl) rfl rfl (q_cokV rfl rfl (Or.inr g3)) rfl (fun x e => f196_cl e) hf (fun v4 h hf => ?_)
      refine ev_ineg (q_cod qk280 rfl) (by decide) ?_
      refine em_ic_lt (q_cod qk280 rfl) (by decide) hf (fun c5 hf => ?_) (fun c5 hf => ?_)
      · exact (f280_41_ok hf hK)
      · refine ev_goto (q_cod qk280 rfl) (by decide) ?_
        exact (f280_37_ok hf hK)
    · refine ev_iload_n (q_cod qk280 rfl) (by decide) rfl ?_
      refine ev_aload_n (q_cod qk280 rfl) (by decide) rfl ?_
      refine ev_iload_n (q_cod qk280 rfl) (by decide) rfl ?_
      obtain ⟨g6, hf⟩ := m_aK_some hf
      refine em_call (v := (fun u => some (.int u))) (q_cod qk280 rfl) rfl rfl (q_cokV rfl rfl (Or.inr g6)) rfl (fun x e => f270_cl e) hf (fun v7 h hf => ?_)
      refine em_ic_ge (q_cod qk280 rfl) (by decide) hf (fun c8 hf => ?_) (fun c8 hf => ?_)
      · exact (f280_37_ok hf hK)
      · exact (f280_41_ok hf hK)
theorem f280_cl {l0 : Nat} {l1 : Int32} {l2 : Int32} {l3 : Int32} {h : q_H} {x : Int32 × q_H} (hf : f280 l0 l1 l2 l3 h = some x) : q_Cl 280 [.ref l0, .int l1, .int l2, .int l3] h (.inl (some (.int x.1))) x.2 := q_Cl.of rfl (q_LvS rfl rfl) (f280_ok hf ⟨rfl, rfl⟩)
