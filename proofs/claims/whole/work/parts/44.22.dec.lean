/-! SmithyBenchModel.isPlain(II)Z -/
theorem qk296 : q_cs.getD 296 [] = qc_296 := rfl
def f296_81 (l0 : Nat) (l1 : Int32) (l2 : Int32) (l4 : Int32) (s0 : Int32) : m_M ((Nat × Int32 × Int32 × Int32 × Int32) ⊕ Int32) :=
  m_R (.inl (l0, l1, l2, s0, (l4 + 1)))
theorem f296_81_ok {l0 : Nat} {l1 : Int32} {l2 : Int32} {l4 : Int32} {s0 : Int32} {h : q_H} {o : q_O} {hz : q_H} {x : ((Nat × Int32 × Int32 × Int32 × Int32) ⊕ Int32) × q_H} (hf : f296_81 l0 l1 l2 l4 s0 h = some x) (hK : (m_yK (fun (s : Nat × Int32 × Int32 × Int32 × Int32) (h : q_H) => q_Ev none 296 5 [(0, .ref (s.1)), (1, .int (s.2.1)), (2, .int (s.2.2.1)), (3, .int (s.2.2.2.1)), (4, .int (s.2.2.2.2))] [] h o hz) (q_KI o hz)) x) : q_Ev none 296 81 [(0, .ref l0), (1, .int l1), (2, .int l2), (4, .int l4)] [.int s0] h o hz := by
  unfold f296_81 at hf
  refine ev_is1 (L' := [(0, .ref l0), (1, .int l1), (2, .int l2), (3, .int s0), (4, .int l4)]) (q_cod qk296 rfl) (by decide) rfl ?_
  refine ev_inc (v := l4 + 1) (L' := [(0, .ref l0), (1, .int l1), (2, .int l2), (3, .int s0), (4, .int (l4 + 1))]) (q_cod qk296 rfl) (by decide) rfl rfl rfl ?_
  refine ev_goto (q_cod qk296 rfl) (by decide) ?_
  obtain rfl := m_R_inv hf
  exact (show q_Ev none 296 5 [(0, .ref l0), (1, .int l1), (2, .int l2), (3, .int s0), (4, .int (l4 + 1))] [] _ o hz from hK)
def f296_80 (l0 : Nat) (l1 : Int32) (l2 : Int32) (l4 : Int32) : m_M ((Nat × Int32 × Int32 × Int32 × Int32) ⊕ Int32) :=
  f296_81 l0 l1 l2 l4 0
theorem f296_80_ok {l0 : Nat} {l1 : Int32} {l2 : Int32} {l4 : Int32} {h : q_H} {o : q_O} {hz : q_H} {x : ((Nat × Int32 × Int32 × Int32 × Int32) ⊕ Int32) × q_H} (hf : f296_80 l0 l1 l2 l4 h = some x) (hK : (m_yK (fun (s : Nat × Int32 × Int32 × Int32 × Int32) (h : q_H) => q_Ev none 296 5 [(0, .ref (s.1)), (1, .int (s.2.1)), (2, .int (s.2.2.1)), (3, .int (s.2.2.2.1)), (4, .int (s.2.2.2.2))] [] h o hz) (q_KI o hz)) x) : q_Ev none 296 80 [(0, .ref l0), (1, .int l1), (2, .int l2), (4, .int l4)] [] h o hz := by
  unfold f296_80 at hf
  refine ev_ic (v := 0) (q_cod qk296 rfl) (by decide) (by decide) ?_
  exact (f296_81_ok hf hK)
def f296_76 (l0 : Nat) (l1 : Int32) (l2 : Int32) (l4 : Int32) : m_M ((Nat × Int32 × Int32 × Int32 × Int32) ⊕ Int32) :=
  f296_81 l0 l1 l2 l4 1
theorem f296_76_ok {l0 : Nat} {l1 : Int32} {l2 : Int32} {l4 : Int32} {h : q_H} {o : q_O} {hz : q_H} {x : ((Nat × Int32 × Int32 × Int32 × Int32) ⊕ Int32) × q_H} (hf : f296_76 l0 l1 l2 l4 h = some x) (hK : (m_yK (fun (s : Nat × Int32 × Int32 × Int32 × Int32) (h : q_H) => q_Ev none 296 5 [(0, .ref (s.1)), (1, .int (s.2.1)), (2, .int (s.2.2.1)), (3, .int (s.2.2.2.1)), (4, .int (s.2.2.2.2))] [] h o hz) (q_KI o hz)) x) : q_Ev none 296 76 [(0, .ref l0), (1, .int l1), (2, .int l2), (4, .int l4)] [] h o hz := by
  unfold f296_76 at hf
  refine ev_ic (v := 1) (q_cod qk296 rfl) (by decide) (by decide) ?_
  refine ev_goto (q_cod qk296 rfl) (by decide) ?_
  exact (f296_81_ok hf hK)
def f296_88 (l3 : Int32) : m_M Int32 :=
  m_B (m_G (l3 = 0 ∨ l3 = 1)) (fun _ => m_R l3)
theorem f296_88_ok {l3 : Int32} {h : q_H} {o : q_O} {hz : q_H} {x : Int32 × q_H} (hf : f296_88 l3 h = some x) (hK : (q_KI o hz) x) : q_Ev none 296 88 [(3, .int l3)] [] h o hz := by
  unfold f296_88 at hf
  refine ev_iload_n (q_cod qk296 rfl) (by decide) rfl ?_
  obtain ⟨g1, hf⟩ := m_G_some hf
  obtain rfl := m_R_inv hf
  obtain ⟨rfl, rfl⟩ := (show q_KI o hz (l3, _) from hK)
  exact ev_ret (q_cod qk296 rfl) (q_retZ g1)
def f296_5b (l0 : Nat) (l1 : Int32) (l2 : Int32) (l3 : Int32) (l4 : Int32) : m_M ((Nat × Int32 × Int32 × Int32 × Int32) ⊕ Int32) :=
  m_B (m_aK l0 12) (fun _ => m_B (f269 l0 l1 l2) (fun v2 => if l4 < (l2 + v2) then (m_B (m_aK l0 12) (fun _ => m_B (f199 l0 0 l1 l4) (fun v4 => if l3 = 0 then (f296_80 l0 l1 l2 l4) else (if v4 = 0 then (f296_76 l0 l1 l2 l4) else (if v4 = 1 then (f296_76 l0 l1 l2 l4) else (if v4 = 2 then (f296_76 l0 l1 l2 l4) else (if v4 = 11 then (f296_76 l0 l1 l2 l4) else (if v4 = 3 then (m_B (m_aK l0 12) (fun _ => m_B (f199 l0 0 l1 (l4 + 1)) (fun v6 => if v6 = 2 then (f296_76 l0 l1 l2 l4) else (f296_80 l0 l1 l2 l4)))) else (f296_80 l0 l1 l2 l4))))))))) else (m_B (f296_88 l3) (fun r => m_R (.inr r)))))
theorem f296_5b_ok {l0 : Nat} {l1 : Int32} {l2 : Int32} {l3 : Int32} {l4 : Int32} {h : q_H} {o : q_O} {hz : q_H} {x : ((Nat × Int32 × Int32 × Int32 × Int32) ⊕ Int32) × q_H} (hf : f296_5b l0 l1 l2 l3 l4 h = some x) (hK : (m_yK (fun (s : Nat × Int32 × Int32 × Int32 × Int32) (h : q_H) => q_Ev none 296 5 [(0, .ref (s.1)), (1, .int (s.2.1)), (2, .int (s.2.2.1)), (3, .int (s.2.2.2.1)), (4, .int (s.2.2.2.2))] [] h o hz) (q_KI o hz)) x) : q_Ev none 296 5 [(0, .ref l0), (1, .int l1), (2, .int l2), (3, .int l3), (4, .int l4)] [] h o hz := by
  unfold f296_5b at hf
  refine ev_iload (q_cod qk296 rfl) (by decide) rfl ?_
  refine ev_iload_n (q_cod qk296 rfl) (by decide) rfl ?_
  refine ev_aload_n (q_cod qk296 rfl) (by decide) rfl ?_
  refine ev_iload_n (q_cod qk296 rfl) (by decide) rfl ?_
  refine ev_iload_n (q_cod qk296 rfl) (by decide) rfl ?_
  obtain ⟨g1, hf⟩ := m_aK_some hf
  refine em_call (v := (fun u => some (.int u))) (q_cod qk296 rfl) rfl rfl (q_cokV rfl rfl (Or.inr g1)) rfl (fun x e => f269_cl e) hf (fun v2 h hf => ?_)
  refine ev_iadd (q_cod qk296 rfl) (by decide) ?_
  refine em_ic_ge (q_cod qk296 rfl) (by decide) hf (fun c14 hf => ?_) (fun c14 hf => ?_)
  · refine ev_aload_n (q_cod qk296 rfl) (by decide) rfl ?_
    refine ev_ic (v := 0) (q_cod qk296 rfl) (by decide) (by decide) ?_
    refine ev_iload_n (q_cod qk296 rfl) (by decide) rfl ?_
    refine ev_iload (q_cod qk296 rfl) (by decide) rfl ?_
    obtain ⟨g3, hf⟩ := m_aK_some hf
    refine em_call (v := (fun u => some (.int u))) (q_cod qk296 rfl) rfl rfl (q_cokV rfl rfl (Or.inr g3)) rfl (fun x e => f199_cl e) hf (fun v4 h hf => ?_)
    refine ev_is2 (L' := [(0, .ref l0), (1, .int l1), (2, .int l2), (3, .int l3), (4, .int l4), (5, .int v4)]) (q_cod qk296 rfl) (by decide) rfl ?_
    refine ev_iload_n (q_cod qk296 rfl) (by decide) rfl ?_
    refine em_if_eq (q_cod qk296 rfl) (by decide) hf (fun c13 hf => ?_) (fun c13 hf => ?_)
    · exact ev_weak (q_pk [0, 1, 2, 4] rfl) (f296_80_ok hf hK)
    · refine ev_iload (q_cod qk296 rfl) (by decide) rfl ?_
      refine em_if_eq (q_cod qk296 rfl) (by decide) hf (fun c12 hf => ?_) (fun c12 hf => ?_)
      · exact ev_weak (q_pk [0, 1, 2, 4] rfl) (f296_76_ok hf hK)
      · refine ev_iload (q_cod qk296 rfl) (by decide) rfl ?_
        refine ev_ic (v := 1) (q_cod qk296 rfl) (by decide) (by decide) ?_
        refine em_ic_eq (q_cod qk296 rfl) (by decide) hf (fun c11 hf => ?_) (fun c11 hf => ?_)
        · exact ev_weak (q_pk [0, 1, 2, 4] rfl) (f296_76_ok hf hK)
        · refine ev_iload (q_cod qk296 rfl) (by decide) rfl ?_
          refine ev_ic (v := 2) (q_cod qk296 rfl) (by decide) (by decide) ?_
          refine em_ic_eq (q_cod qk296 rfl) (by decide) hf (fun c10 hf => ?_) (fun c10 hf => ?_)
          · exact ev_weak (q_pk [0, 1, 2, 4] rfl) (f296_76_ok hf hK)
          · refine ev_iload (q_cod qk296 rfl) (by decide) rfl ?_
            refine ev_bi (v := 11) (q_cod qk296 rfl) (by decide) (by decide) ?_
            refine em_ic_eq (q_cod qk296 rfl) (by decide) hf (fun c9 hf => ?_) (fun c9 hf => ?_)
            · exact ev_weak (q_pk [0, 1, 2, 4] rfl) (f296_76_ok hf hK)
            · refine ev_iload (q_cod qk296 rfl) (by decide) rfl ?_
              refine ev_ic (v := 3) (q_cod qk296 rfl) (by decide) (by decide) ?_
              refine em_ic_ne (q_cod qk296 rfl) (by decide) hf (fun c8 hf => ?_) (fun c8 hf => ?_)
              · refine ev_aload_n (q_cod qk296 rfl) (by decide) rfl ?_
                refine ev_ic (v := 0) (q_cod qk296 rfl) (by decide) (by decide) ?_
                refine ev_iload_n (q_cod qk296 rfl) (by decide) rfl ?_
                refine ev_iload (q_cod qk296 rfl) (by decide) rfl ?_
                refine ev_ic (v := 1) (q_cod qk296 rfl) (by decide) (by decide) ?_
                refine ev_iadd (q_cod qk296 rfl) (by decide) ?_
                obtain ⟨g5, hf⟩ := m_aK_some hf
                refine em_call (v := (fun u => some (.int u))) (q_cod qk296 rfl) rfl rfl (q_cokV rfl rfl (Or.inr g5)) rfl (fun x e => f199_cl e) hf (fun v6 h hf => ?_)
                refine ev_ic (v := 2) (q_cod qk296 rfl) (by decide) (by decide) ?_
                refine em_ic_ne (q_cod qk296 rfl) (by decide) hf (fun c7 hf => ?_) (fun c7 hf => ?_)
                · exact ev_weak (q_pk [0, 1, 2, 4] rfl) (f296_76_ok hf hK)
                · exact ev_weak (q_pk [0, 1, 2, 4] rfl) (f296_80_ok hf hK)
              · exact ev_weak (q_pk [0, 1, 2, 4] rfl) (f296_80_ok hf hK)
  · obtain ⟨y0, hf0, hx⟩ := m_inr_some hf
    subst hx
    exact ev_weak (q_pk [3] rfl) (f296_88_ok hf0 hK)
def f296_5 (l0 : Nat) (l1 : Int32) (l2 : Int32) (l3 : Int32) (l4 : Int32) : m_M Int32 := m_W (fun s => f296_5b (s.1) (s.2.1) (s.2.2.1) (s.2.2.2.1) (s.2.2.2.2)) 1000000 (l0, l1, l2, l3, l4)
theorem f296_5_ok {l0 : Nat} {l1 : Int32} {l2 : Int32} {l3 : Int32} {l4 : Int32} {h : q_H} {o : q_O} {hz : q_H} {x : Int32 × q_H} (hf : f296_5 l0 l1 l2 l3 l4 h = some x) (hK : (q_KI o hz) x) : q_Ev none 296 5 [(0, .ref l0), (1, .int l1), (2, .int l2), (3, .int l3), (4, .int l4)] [] h o hz :=
  m_W_ok (P := (fun (s : Nat × Int32 × Int32 × Int32 × Int32) (h : q_H) => q_Ev none 296 5 [(0, .ref (s.1)), (1, .int (s.2.1)), (2, .int (s.2.2.1)), (3, .int (s.2.2.2.1)), (4, .int (s.2.2.2.2))] [] h o hz)) (K := (q_KI o hz)) (fun s h x h1 h2 => f296_5b_ok h1 h2) _ (l0, l1, l2, l3, l4) _ _ hf hK
def f296 (l0 : Nat) (l1 : Int32) (l2 : Int32) : m_M Int32 :=
  f296_5 l0 l1 l2 1 l2
theorem f296_ok {l0 : Nat} {l1 : Int32} {l2 : Int32} {h : q_H} {o : q_O} {hz : q_H} {x : Int32 × q_H} (hf : f296 l0 l1 l2 h = some x) (hK : (q_KI o hz) x) : q_Ev none 296 0 [(0, .ref l0), (1, .int l1), (2, .int l2)] [] h o hz := by
  unfold f296 at hf
  refine ev_ic (v := 1) (q_cod qk296 rfl) (by decide) (by decide) ?_
  refine ev_is1 (L' := [(0, .ref l0), (1, .int l1), (2, .int l2), (3, .int 1)]) (q_cod qk296 rfl) (by decide) rfl ?_
  refine ev_iload_n (q_cod qk296 rfl) (by decide) rfl ?_
  refine ev_is2 (L' := [(0, .ref l0), (1, .int l1), (2, .int l2), (3, .int 1), (4, .int l2)]) (q_cod qk296 rfl) (by decide) rfl ?_
  exact (f296_5_ok hf hK)
theorem f296_cl {l0 : Nat} {l1 : Int32} {l2 : Int32} {h : q_H} {x : Int32 × q_H} (hf : f296 l0 l1 l2 h = some x) : q_Cl 296 [.ref l0, .int l1, .int l2] h (.inl (some (.int x.1))) x.2 := q_Cl.of rfl (q_LvS rfl rfl) (f296_ok hf ⟨rfl, rfl⟩)
/-! SmithyBenchModel.isParameterUsed(I)Z -/
theorem qk297 : q_cs.getD 297 [] = qc_297 := rfl
def f297_73 (l0 : Nat) (l1 : Int32) (l2 : Int32) (l3 : Int32) : m_M ((Nat × Int32 × Int32 × Int32) ⊕ Int32) :=
  m_R (.inl (l0, l1, l2, (l3 + 1)))
theorem f297_73_ok {l0 : Nat} {l1 : Int32} {l2 : Int32} {l3 : Int32} {h : q_H} {o : q_O} {hz : q_H} {x : ((Nat × Int32 × Int32 × Int32) ⊕ Int32) × q_H} (hf : f297_73 l0 l1 l2 l3 h = some x) (hK : (m_yK (fun (s : Nat × Int32 × Int32 × Int32) (h : q_H) => q_Ev none 297 4 [(0, .ref (s.1)), (1, .int (s.2.1)), (2, .int (s.2.2.1)), (3, .int (s.2.2.2))] [] h o hz) (q_KI o hz)) x) : q_Ev none 297 73 [(0, .ref l0), (1, .int l1), (2, .int l2), (3, .int l3)] [] h o hz := by
  unfold f297_73 at hf
  refine ev_inc (v := l3 + 1) (L' := [(0, .ref l0), (1, .int l1), (2, .int l2), (3, .int (l3 + 1))]) (q_cod qk297 rfl) (by decide) rfl rfl rfl ?_
  refine ev_goto (q_cod qk297 rfl) (by decide) ?_
  obtain rfl := m_R_inv hf
  exact (show q_Ev none 297 4 [(0, .ref l0), (1, .int l1), (2, .int l2), (3, .int (l3 + 1))] [] _ o hz from hK)
def f297_66 (l0 : Nat) (l1 : Int32) (l3 : Int32) (l4 : Int32) (s0 : Int32) : m_M ((Nat × Int32 × Int32 × Int32 × Int32) ⊕ ((Nat × Int32 × Int32 × Int32) ⊕ Int32)) :=
  m_R (.inl (l0, l1, s0, l3, (l4 + 1)))
theorem f297_66_ok {l0 : Nat} {l1 : Int32} {l3 : Int32} {l4 : Int32} {s0 : Int32} {h : q_H} {o : q_O} {hz : q_H} {x : ((Nat × Int32 × Int32 × Int32 × Int32) ⊕ ((Nat × Int32 × Int32 × Int32) ⊕ Int32)) × q_H} (hf : f297_66 l0 l1 l3 l4 s0 h = some x) (hK : (m_yK (fun (s : Nat × Int32 × Int32 × Int32 × Int32) (h : q_H) => q_Ev none 297 15 [(0, .ref (s.1)), (1, .int (s.2.1)), (2, .int (s.2.2.1)), (3, .int (s.2.2.2.1)), (4, .int (s.2.2.2.2))] [] h o hz) (m_yK (fun (s : Nat × Int32 × Int32 × Int32) (h : q_H) => q_Ev none 297 4 [(0, .ref (s.1)), (1, .int (s.2.1)), (2, .int (s.2.2.1)), (3, .int (s.2.2.2))] [] h o hz) (q_KI o hz))) x) : q_Ev none 297 66 [(0, .ref l0), (1, .int l1), (3, .int l3), (4, .int l4)] [.int s0] h o hz := by
  unfold f297_66 at hf
  refine ev_is1 (L' := [(0, .ref l0), (1, .int l1), (2, .int s0), (3, .int l3), (4, .int l4)]) (q_cod qk297 rfl) (by decide) rfl ?_
  refine ev_inc (v := l4 + 1) (L' := [(0, .ref l0), (1, .int l1), (2, .int s0), (3, .int l3), (4, .int (l4 + 1))]) (q_cod qk297 rfl) (by decide) rfl rfl rfl ?_
  refine ev_goto (q_cod qk297 rfl) (by decide) ?_
  obtain rfl := m_R_inv hf
  exact (show q_Ev none 297 15 [(0, .ref l0), (1, .int l1), (2, .int s0), (3, .int l3), (4, .int (l4 + 1))] [] _ o hz from hK)
def f297_65 (l0 : Nat) (l1 : Int32) (l3 : Int32) (l4 : Int32) : m_M ((Nat × Int32 × Int32 × Int32 × Int32) ⊕ ((Nat × Int32 × Int32 × Int32) ⊕ Int32)) :=
  f297_66 l0 l1 l3 l4 0
theorem f297_65_ok {l0 : Nat} {l1 : Int32} {l3 : Int32} {l4 : Int32} {h : q_H} {o : q_O} {hz : q_H} {x : ((Nat × Int32 × Int32 × Int32 × Int32) ⊕ ((Nat × Int32 × Int32 × Int32) ⊕ Int32)) × q_H} (hf : f297_65 l0 l1 l3 l4 h = some x) (hK : (m_yK (fun (s : Nat × Int32 × Int32 × Int32 × Int32) (h : q_H) => q_Ev none 297 15 [(0, .ref (s.1)), (1, .int (s.2.1)), (2, .int (s.2.2.1)), (3, .int (s.2.2.2.1)), (4, .int (s.2.2.2.2))] [] h o hz) (m_yK (fun (s : Nat × Int32 × Int32 × Int32) (h : q_H) => q_Ev none 297 4 [(0, .ref (s.1)), (1, .int (s.2.1)), (2, .int (s.2.2.1)), (3, .int (s.2.2.2))] [] h o hz) (q_KI o hz))) x) : q_Ev none 297 65 [(0, .ref l0), (1, .int l1), (3, .int l3), (4, .int l4)] [] h o hz := by
  unfold f297_65 at hf
  refine ev_ic (v := 0) (q_cod qk297 rfl) (by decide) (by decide) ?_
  exact (f297_66_ok hf hK)
def f297_61 (l0 : Nat) (l1 : Int32) (l3 : Int32) (l4 : Int32) : m_M ((Nat × Int32 × Int32 × Int32 × Int32) ⊕ ((Nat × Int32 × Int32 × Int32) ⊕ Int32)) :=
  f297_66 l0 l1 l3 l4 1
theorem f297_61_ok {l0 : Nat} {l1 : Int32} {l3 : Int32} {l4 : Int32} {h : q_H} {o : q_O} {hz : q_H} {x : ((Nat × Int32 × Int32 × Int32 × Int32) ⊕ ((Nat × Int32 × Int32 × Int32) ⊕ Int32)) × q_H} (hf : f297_61 l0 l1 l3 l4 h = some x) (hK : (m_yK (fun (s : Nat × Int32 × Int32 × Int32 × Int32) (h : q_H) => q_Ev none 297 15 [(0, .ref (s.1)), (1, .int (s.2.1)), (2, .int (s.2.2.1)), (3, .int (s.2.2.2.1)), (4, .int (s.2.2.2.2))] [] h o hz) (m_yK (fun (s : Nat × Int32 × Int32 × Int32) (h : q_H) => q_Ev none 297 4 [(0, .ref (s.1)), (1, .int (s.2.1)), (2, .int (s.2.2.1)), (3, .int (s.2.2.2))] [] h o hz) (q_KI o hz))) x) : q_Ev none 297 61 [(0, .ref l0), (1, .int l1), (3, .int l3), (4, .int l4)] [] h o hz := by
  unfold f297_61 at hf
  refine ev_ic (v := 1) (q_cod qk297 rfl) (by decide) (by decide) ?_
  refine ev_goto (q_cod qk297 rfl) (by decide) ?_
  exact (f297_66_ok hf hK)
def f297_15b (l0 : Nat) (l1 : Int32) (l2 : Int32) (l3 : Int32) (l4 : Int32) : m_M ((Nat × Int32 × Int32 × Int32 × Int32) ⊕ ((Nat × Int32 × Int32 × Int32) ⊕ Int32)) :=
  m_B (m_gR 12 l0 36) (fun r1 => m_B (m_lZ r1 l3) (fun v2 => if v2 = 0 then (m_B (f297_73 l0 l1 l2 l3) (fun r => m_R (.inr r))) else (m_B (m_aK l0 12) (fun _ => m_B (f270 l0 l3) (fun v4 => if l4 < v4 then (if l2 = 0 then (m_B (m_aK l0 12) (fun _ => m_B (f266 l0 l3 l4) (fun v6 => if v6 = 0 then (f297_65 l0 l1 l3 l4) else (m_B (m_aK l0 12) (fun _ => m_B (f268 l0 l3 l4) (fun v8 => if v8 = ((-1) - l1) then (f297_61 l0 l1 l3 l4) else (f297_65 l0 l1 l3 l4))))))) else (f297_61 l0 l1 l3 l4)) else (m_B (f297_73 l0 l1 l2 l3) (fun r => m_R (.inr r))))))))
theorem f297_15b_ok {l0 : Nat} {l1 : Int32} {l2 : Int32} {l3 : Int32} {l4 : Int32} {h : q_H} {o : q_O} {hz : q_H} {x : ((Nat × Int32 × Int32 × Int32 × Int32) ⊕ ((Nat × Int32 × Int32 × Int32) ⊕ Int32)) × q_H} (hf : f297_15b l0 l1 l2 l3 l4 h = some x) (hK : (m_yK (fun (s : Nat × Int32 × Int32 × Int32 × Int32) (h : q_H) => q_Ev none 297 15 [(0, .ref (s.1)), (1, .int (s.2.1)), (2, .int (s.2.2.1)), (3, .int (s.2.2.2.1)), (4, .int (s.2.2.2.2))] [] h o hz) (m_yK (fun (s : Nat × Int32 × Int32 × Int32) (h : q_H) => q_Ev none 297 4 [(0, .ref (s.1)), (1, .int (s.2.1)), (2, .int (s.2.2.1)), (3, .int (s.2.2.2))] [] h o hz) (q_KI o hz))) x) : q_Ev none 297 15 [(0, .ref l0), (1, .int l1), (2, .int l2), (3, .int l3), (4, .int l4)] [] h o hz := by
  unfold f297_15b at hf
  refine ev_aload_n (q_cod qk297 rfl) (by decide) rfl ?_
  refine em_gR (q_cod qk297 rfl) (by decide) (by decide) hf (fun r1 hf => ?_)
  refine ev_iload_n (q_cod qk297 rfl) (by decide) rfl ?_
  refine em_lZ (q_cod qk297 rfl) (by decide) hf (fun v2 hf => ?_)
  refine em_if_eq (q_cod qk297 rfl) (by decide) hf (fun c13 hf => ?_) (fun c13 hf => ?_)
  · obtain ⟨y0, hf0, hx⟩ := m_inr_some hf
    subst hx
    exact ev_weak (q_pk [0, 1, 2, 3] rfl) (f297_73_ok hf0 hK)
  · refine ev_iload (q_cod qk297 rfl) (by decide) rfl ?_
    refine ev_aload_n (q_cod qk297 rfl) (by decide) rfl ?_
    refine ev_iload_n (q_cod qk297 rfl) (by decide) rfl ?_
    obtain ⟨g3, hf⟩ := m_aK_some hf
    refine em_call (v := (fun u => some (.int u))) (q_cod qk297 rfl) rfl rfl (q_cokV rfl rfl (Or.inr g3)) rfl (fun x e => f270_cl e) hf (fun v4 h hf => ?_)
    refine em_ic_ge (q_cod qk297 rfl) (by decide) hf (fun c12 hf => ?_) (fun c12 hf => ?_)
    · refine ev_iload_n (q_cod qk297 rfl) (by decide) rfl ?_
      refine em_if_ne (q_cod qk297 rfl) (by decide) hf (fun c11 hf => ?_) (fun c11 hf => ?_)
      · refine ev_aload_n (q_cod qk297 rfl) (by decide) rfl ?_
        refine ev_iload_n (q_cod qk297 rfl) (by decide) rfl ?_
        refine ev_iload (q_cod qk297 rfl) (by decide) rfl ?_
        obtain ⟨g5, hf⟩ := m_aK_some hf
        refine em_call (v := (fun u => some (.int u))) (q_cod qk297 rfl) rfl rfl (q_cokV rfl rfl (Or.inr g5)) rfl (fun x e => f266_cl e) hf (fun v6 h hf => ?_)
        refine em_if_eq (q_cod qk297 rfl) (by decide) hf (fun c10 hf => ?_) (fun c10 hf => ?_)
        · exact ev_weak (q_pk [0, 1, 3, 4] rfl) (f297_65_ok hf hK)
        · refine ev_aload_n (q_cod qk297 rfl) (by decide) rfl ?_
          refine ev_iload_n (q_cod qk297 rfl) (by decide) rfl ?_
          refine ev_iload (q_cod qk297 rfl) (by decide) rfl ?_
          obtain ⟨g7, hf⟩ := m_aK_some hf
          refine em_call (v := (fun u => some (.int u))) (q_cod qk297 rfl) rfl rfl (q_cokV rfl rfl (Or.inr g7)) rfl (fun x e => f268_cl e) hf (fun v8 h hf => ?_)
          refine ev_ic (v := (-1)) (q_cod qk297 rfl) (by decide) (by decide) ?_
          refine ev_iload_n (q_cod qk297 rfl) (by decide) rfl ?_
          refine ev_isub (q_cod qk297 rfl) (by decide) ?_
          refine em_ic_ne (q_cod qk297 rfl) (by decide) hf (fun c9 hf => ?_) (fun c9 hf => ?_)
          · exact ev_weak (q_pk [0, 1, 3, 4] rfl) (f297_61_ok hf hK)
          · exact ev_weak (q_pk [0, 1, 3, 4] rfl) (f297_65_ok hf hK)
      · exact ev_weak (q_pk [0, 1, 3, 4] rfl) (f297_61_ok hf hK)
    · obtain ⟨y0, hf0, hx⟩ := m_inr_some hf
      subst hx
      exact ev_weak (q_pk [0, 1, 2, 3] rfl) (f297_73_ok hf0 hK)
def f297_15 (l0 : Nat) (l1 : Int32) (l2 : Int32) (l3 : Int32) (l4 : Int32) : m_M ((Nat × Int32 × Int32 × Int32) ⊕ Int32) := m_W (fun s => f297_15b (s.1) (s.2.1) (s.2.2.1) (s.2.2.2.1) (s.2.2.2.2)) 1000000 (l0, l1, l2, l3, l4)
theorem f297_15_ok {l0 : Nat} {l1 : Int32} {l2 : Int32} {l3 : Int32} {l4 : Int32} {h : q_H} {o : q_O} {hz : q_H} {x : ((Nat × Int32 × Int32 × Int32) ⊕ Int32) × q_H} (hf : f297_15 l0 l1 l2 l3 l4 h = some x) (hK : (m_yK (fun (s : Nat × Int32 × Int32 × Int32) (h : q_H) => q_Ev none 297 4 [(0, .ref (s.1)), (1, .int (s.2.1)), (2, .int (s.2.2.1)), (3, .int (s.2.2.2))] [] h o hz) (q_KI o hz)) x) : q_Ev none 297 15 [(0, .ref l0), (1, .int l1), (2, .int l2), (3, .int l3), (4, .int l4)] [] h o hz :=
  m_W_ok (P := (fun (s : Nat × Int32 × Int32 × Int32 × Int32) (h : q_H) => q_Ev none 297 15 [(0, .ref (s.1)), (1, .int (s.2.1)), (2, .int (s.2.2.1)), (3, .int (s.2.2.2.1)), (4, .int (s.2.2.2.2))] [] h o hz)) (K := (m_yK (fun (s : Nat × Int32 × Int32 × Int32) (h : q_H) => q_Ev none 297 4 [(0, .ref (s.1)), (1, .int (s.2.1)), (2, .int (s.2.2.1)), (3, .int (s.2.2.2))] [] h o hz) (q_KI o hz))) (fun s h x h1 h2 => f297_15b_ok h1 h2) _ (l0, l1, l2, l3, l4) _ _ hf hK
def f297_79 (l2 : Int32) : m_M Int32 :=
  m_B (m_G (l2 = 0 ∨ l2 = 1)) (fun _ => m_R l2)
theorem f297_79_ok {l2 : Int32} {h : q_H} {o : q_O} {hz : q_H} {x : Int32 × q_H} (hf : f297_79 l2 h = some x) (hK : (q_KI o hz) x) : q_Ev none 297 79 [(2, .int l2)] [] h o hz := by
  unfold f297_79 at hf
  refine ev_iload_n (q_cod qk297 rfl) (by decide) rfl ?_
  obtain ⟨g1, hf⟩ := m_G_some hf
  obtain rfl := m_R_inv hf
  obtain ⟨rfl, rfl⟩ := (show q_KI o hz (l2, _) from hK)
  exact ev_ret (q_cod qk297 rfl) (q_retZ g1)
def f297_4b (l0 : Nat) (l1 : Int32) (l2 : Int32) (l3 : Int32) : m_M ((Nat × Int32 × Int32 × Int32) ⊕ Int32) :=
  m_B (m_aK l0 12) (fun _ => m_B (f265 l0) (fun v2 => if l3 < v2 then (f297_15 l0 l1 l2 l3 0) else (m_B (f297_79 l2) (fun r => m_R (.inr r)))))
theorem f297_4b_ok {l0 : Nat} {l1 : Int32} {l2 : Int32} {l3 : Int32} {h : q_H} {o : q_O} {hz : q_H} {x : ((Nat × Int32 × Int32 × Int32) ⊕ Int32) × q_H} (hf : f297_4b l0 l1 l2 l3 h = some x) (hK : (m_yK (fun (s : Nat × Int32 × Int32 × Int32) (h : q_H) => q_Ev none 297 4 [(0, .ref (s.1)), (1, .int (s.2.1)), (2, .int (s.2.2.1)), (3, .int (s.2.2.2))] [] h o hz) (q_KI o hz)) x) : q_Ev none 297 4 [(0, .ref l0), (1, .int l1), (2, .int l2), (3, .int l3)] [] h o hz := by
  unfold f297_4b at hf
  refine ev_iload_n (q_cod qk297 rfl) (by decide) rfl ?_
  refine ev_aload_n (q_cod qk297 rfl) (by decide) rfl ?_
  obtain ⟨g1, hf⟩ := m_aK_some hf
  refine em_call (v := (fun u => some (.int u))) (q_cod qk297 rfl) rfl rfl (q_cokV rfl rfl (Or.inr g1)) rfl (fun x e => f265_cl e) hf (fun v2 h hf => ?_)
  refine em_ic_ge (q_cod qk297 rfl) (by decide) hf (fun c3 hf => ?_) (fun c3 hf => ?_)
  · refine ev_ic (v := 0) (q_cod qk297 rfl) (by decide) (by decide) ?_
    refine ev_is2 (L' := [(0, .ref l0), (1, .int l1), (2, .int l2), (3, .int l3), (4, .int 0)]) (q_cod qk297 rfl) (by decide) rfl ?_
    exact (f297_15_ok hf hK)
  · obtain ⟨y0, hf0, hx⟩ := m_inr_some hf
    subst hx
    exact ev_weak (q_pk [2] rfl) (f297_79_ok hf0 hK)
def f297_4 (l0 : Nat) (l1 : Int32) (l2 : Int32) (l3 : Int32) : m_M Int32 := m_W (fun s => f297_4b (s.1) (s.2.1) (s.2.2.1) (s.2.2.2)) 1000000 (l0, l1, l2, l3)
theorem f297_4_ok {l0 : Nat} {l1 : Int32} {l2 : Int32} {l3 : Int32} {h : q_H} {o : q_O} {hz : q_H} {x : Int32 × q_H} (hf : f297_4 l0 l1 l2 l3 h = some x) (hK : (q_KI o hz) x) : q_Ev none 297 4 [(0, .ref l0), (1, .int l1), (2, .int l2), (3, .int l3)] [] h o hz :=
  m_W_ok (P := (fun (s : Nat × Int32 × Int32 × Int32) (h : q_H) => q_Ev none 297 4 [(0, .ref (s.1)), (1, .int (s.2.1)), (2, .int (s.2.2.1)), (3, .int (s.2.2.2))] [] h o hz)) (K := (q_KI o hz)) (fun s h x h1 h2 => f297_4b_ok h1 h2) _ (l0, l1, l2, l3) _ _ hf hK
def f297 (l0 : Nat) (l1 : Int32) : m_M Int32 :=
  f297_4 l0 l1 0 0
theorem f297_ok {l0 : Nat} {l1 : Int32} {h : q_H} {o : q_O} {hz : q_H} {x : Int32 × q_H} (hf : f297 l0 l1 h = some x) (hK : (q_KI o hz) x) : q_Ev none 297 0 [(0, .ref l0), (1, .int l1)] [] h o hz := by
  unfold f297 at hf
  refine ev_ic (v := 0) (q_cod qk297 rfl) (by decide) (by decide) ?_
  refine ev_is1 (L' := [(0, .ref l0), (1, .int l1), (2, .int 0)]) (q_cod qk297 rfl) (by decide) rfl ?_
  refine ev_ic (v := 0) (q_cod qk297 rfl) (by decide) (by decide) ?_
  refine ev_is1 (L' := [(0, .ref l0), (1, .int l1), (2, .int 0), (3, .int 0)]) (q_cod qk297 rfl) (by decide) rfl ?_
  exact (f297_4_ok hf hK)
theorem f297_cl {l0 : Nat} {l1 : Int32} {h : q_H} {x : Int32 × q_H} (hf : f297 l0 l1 h = some x) : q_Cl 297 [.ref l0, .int l1] h (.inl (some (.int x.1))) x.2 := q_Cl.of rfl (q_LvS rfl rfl) (f297_ok hf ⟨rfl, rfl⟩)
/-! SmithyBenchModel.areArgumentsPlain(I)Z -/
theorem qk298 : q_cs.getD 298 [] = qc_298 := rfl
def f298_73 (l0 : Nat) (l1 : Int32) (l3 : Int32) (l4 : Int32) (s0 : Int32) : m_M ((Nat × Int32 × Int32 × Int32 × Int32) ⊕ ((Nat × Int32 × Int32 × Int32) ⊕ Int32)) :=
  m_R (.inl (l0, l1, s0, l3, (l4 + 1)))
theorem f298_73_ok {l0 : Nat} {l1 : Int32} {l3 : Int32} {l4 : Int32} {s0 : Int32} {h : q_H} {o : q_O} {hz : q_H} {x : ((Nat × Int32 × Int32 × Int32 × Int32) ⊕ ((Nat × Int32 × Int32 × Int32) ⊕ Int32)) × q_H} (hf : f298_73 l0 l1 l3 l4 s0 h = some x) (hK : (m_yK (fun (s : Nat × Int32 × Int32 × Int32 × Int32) (h : q_H) => q_Ev none 298 15 [(0, .ref (s.1)), (1, .int (s.2.1)), (2, .int (s.2.2.1)), (3, .int (s.2.2.2.1)), (4, .int (s.2.2.2.2))] [] h o hz) (m_yK (fun (s : Nat × Int32 × Int32 × Int32) (h : q_H) => q_Ev none 298 4 [(0, .ref (s.1)), (1, .int (s.2.1)), (2, .int (s.2.2.1)), (3, .int (s.2.2.2))] [] h o hz) (q_KI o hz))) x) : q_Ev none 298 73 [(0, .ref l0), (1, .int l1), (3, .int l3), (4, .int l4)] [.int s0] h o hz := by
  unfold f298_73 at hf
  refine ev_is1 (L' := [(0, .ref l0), (1, .int l1), (2, .int s0), (3, .int l3), (4, .int l4)]) (q_cod qk298 rfl) (by decide) rfl ?_
  refine ev_inc (v := l4 + 1) (L' := [(0, .ref l0), (1, .int l1), (2, .int s0), (3, .int l3), (4, .int (l4 + 1))]) (q_cod qk298 rfl) (by decide) rfl rfl rfl ?_
  refine ev_goto (q_cod qk298 rfl) (by decide) ?_
  obtain rfl := m_R_inv hf
  exact (show q_Ev none 298 15 [(0, .ref l0), (1, .int l1), (2, .int s0), (3, .int l3), (4, .int (l4 + 1))] [] _ o hz from hK)
def f298_72 (l0 : Nat) (l1 : Int32) (l3 : Int32) (l4 : Int32) : m_M ((Nat × Int32 × Int32 × Int32 × Int32) ⊕ ((Nat × Int32 × Int32 × Int32) ⊕ Int32)) :=
  f298_73 l0 l1 l3 l4 0
theorem f298_72_ok {l0 : Nat} {l1 : Int32} {l3 : Int32} {l4 : Int32} {h : q_H} {o : q_O} {hz : q_H} {x : ((Nat × Int32 × Int32 × Int32 × Int32) ⊕ ((Nat × Int32 × Int32 × Int32) ⊕ Int32)) × q_H} (hf : f298_72 l0 l1 l3 l4 h = some x) (hK : (m_yK (fun (s : Nat × Int32 × Int32 × Int32 × Int32) (h : q_H) => q_Ev none 298 15 [(0, .ref (s.1)), (1, .int (s.2.1)), (2, .int (s.2.2.1)), (3, .int (s.2.2.2.1)), (4, .int (s.2.2.2.2))] [] h o hz) (m_yK (fun (s : Nat × Int32 × Int32 × Int32) (h : q_H) => q_Ev none 298 4 [(0, .ref (s.1)), (1, .int (s.2.1)), (2, .int (s.2.2.1)), (3, .int (s.2.2.2))] [] h o hz) (q_KI o hz))) x) : q_Ev none 298 72 [(0, .ref l0), (1, .int l1), (3, .int l3), (4, .int l4)] [] h o hz := by
  unfold f298_72 at hf
  refine ev_ic (v := 0) (q_cod qk298 rfl) (by decide) (by decide) ?_
  exact (f298_73_ok hf hK)
def f298_68 (l0 : Nat) (l1 : Int32) (l3 : Int32) (l4 : Int32) : m_M ((Nat × Int32 × Int32 × Int32 × Int32) ⊕ ((Nat × Int32 × Int32 × Int32) ⊕ Int32)) :=
  f298_73 l0 l1 l3 l4 1
theorem f298_68_ok {l0 : Nat} {l1 : Int32} {l3 : Int32} {l4 : Int32} {h : q_H} {o : q_O} {hz : q_H} {x : ((Nat × Int32 × Int32 × Int32 × Int32) ⊕ ((Nat × Int32 × Int32 × Int32) ⊕ Int32)) × q_H} (hf : f298_68 l0 l1 l3 l4 h = some x) (hK : (m_yK (fun (s : Nat × Int32 × Int32 × Int32 × Int32) (h : q_H) => q_Ev none 298 15 [(0, .ref (s.1)), (1, .int (s.2.1)), (2, .int (s.2.2.1)), (3, .int (s.2.2.2.1)), (4, .int (s.2.2.2.2))] [] h o hz) (m_yK (fun (s : Nat × Int32 × Int32 × Int32) (h : q_H) => q_Ev none 298 4 [(0, .ref (s.1)), (1, .int (s.2.1)), (2, .int (s.2.2.1)), (3, .int (s.2.2.2))] [] h o hz) (q_KI o hz))) x) : q_Ev none 298 68 [(0, .ref l0), (1, .int l1), (3, .int l3), (4, .int l4)] [] h o hz := by
  unfold f298_68 at hf
  refine ev_ic (v := 1) (q_cod qk298 rfl) (by decide) (by decide) ?_
  refine ev_goto (q_cod qk298 rfl) (by decide) ?_
  exact (f298_73_ok hf hK)
def f298_80 (l0 : Nat) (l1 : Int32) (l2 : Int32) (l3 : Int32) : m_M ((Nat × Int32 × Int32 × Int32) ⊕ Int32) :=
  m_R (.inl (l0, l1, l2, (l3 + 1)))
theorem f298_80_ok {l0 : Nat} {l1 : Int32} {l2 : Int32} {l3 : Int32} {h : q_H} {o : q_O} {hz : q_H} {x : ((Nat × Int32 × Int32 × Int32) ⊕ Int32) × q_H} (hf : f298_80 l0 l1 l2 l3 h = some x) (hK : (m_yK (fun (s : Nat × Int32 × Int32 × Int32) (h : q_H) => q_Ev none 298 4 [(0, .ref (s.1)), (1, .int (s.2.1)), (2, .int (s.2.2.1)), (3, .int (s.2.2.2))] [] h o hz) (q_KI o hz)) x) : q_Ev none 298 80 [(0, .ref l0), (1, .int l1), (2, .int l2), (3, .int l3)] [] h o hz := by
  unfold f298_80 at hf
  refine ev_inc (v := l3 + 1) (L' := [(0, .ref l0), (1, .int l1), (2, .int l2), (3, .int (l3 + 1))]) (q_cod qk298 rfl) (by decide) rfl rfl rfl ?_
  refine ev_goto (q_cod qk298 rfl) (by decide) ?_
  obtain rfl := m_R_inv hf
  exact (show q_Ev none 298 4 [(0, .ref l0), (1, .int l1), (2, .int l2), (3, .int (l3 + 1))] [] _ o hz from hK)
def f298_15b (l0 : Nat) (l1 : Int32) (l2 : Int32) (l3 : Int32) (l4 : Int32) : m_M ((Nat × Int32 × Int32 × Int32 × Int32) ⊕ ((Nat × Int32 × Int32 × Int32) ⊕ Int32)) :=
  m_B (m_aK l0 12) (fun _ => m_B (f196 l0 0 l3 0) (fun v2 => if v2 = 1 then (m_B (m_aK l0 12) (fun _ => m_B (f270 l0 l3) (fun v4 => if l4 < v4 then (if l2 = 0 then (f298_72 l0 l1 l3 l4) else (m_B (m_aK l0 12) (fun _ => m_B (f276 l0 l3 l4) (fun v6 => if v6 = 0 then (f298_68 l0 l1 l3 l4) else (m_B (m_aK l0 12) (fun _ => m_B (f223 l0 l3 l4 (1 + l1)) (fun v8 => m_B (m_aK l0 12) (fun _ => m_B (f296 l0 l3 v8) (fun v10 => if v10 = 0 then (f298_72 l0 l1 l3 l4) else (f298_68 l0 l1 l3 l4)))))))))) else (m_B (f298_80 l0 l1 l2 l3) (fun r => m_R (.inr r)))))) else (m_B (f298_80 l0 l1 l2 l3) (fun r => m_R (.inr r)))))
theorem f298_15b_ok {l0 : Nat} {l1 : Int32} {l2 : Int32} {l3 : Int32} {l4 : Int32} {h : q_H} {o : q_O} {hz : q_H} {x : ((Nat × Int32 × Int32 × Int32 × Int32) ⊕ ((Nat × Int32 × Int32 × Int32) ⊕ Int32)) × q_H} (hf : f298_15b l0 l1 l2 l3 l4 h = some x) (hK : (m_yK (fun (s : Nat × Int32 × Int32 × Int32 × Int32) (h : q_H) => q_Ev none 298 15 [(0, .ref (s.1)), (1, .int (s.2.1)), (2, .int (s.2.2.1)), (3, .int (s.2.2.2.1)), (4, .int (s.2.2.2.2))] [] h o hz) (m_yK (fun (s : Nat × Int32 × Int32 × Int32) (h : q_H) => q_Ev none 298 4 [(0, .ref (s.1)), (1, .int (s.2.1)), (2, .int (s.2.2.1)), (3, .int (s.2.2.2))] [] h o hz) (q_KI o hz))) x) : q_Ev none 298 15 [(0, .ref l0), (1, .int l1), (2, .int l2), (3, .int l3), (4, .int l4)] [] h o hz := by
  unfold f298_15b at hf
  refine ev_aload_n (q_cod qk298 rfl) (by decide) rfl ?_
  refine ev_ic (v := 0) (q_cod qk298 rfl) (by decide) (by decide) ?_
  refine ev_iload_n (q_cod qk298 rfl) (by decide) rfl ?_
  refine ev_ic (v := 0) (q_cod qk298 rfl) (by decide) (by decide) ?_
  obtain ⟨g1, hf⟩ := m_aK_some hf
  refine em_call (v := (fun u => some (.int u))) (q_cod qk298 rfl) rfl rfl (q_cokV rfl rfl (Or.inr g1)) rfl (fun x e => f196_cl e) hf (fun v2 h hf => ?_)
  refine ev_ic (v := 1) (q_cod qk298 rfl) (by decide) (by decide) ?_
  refine em_ic_ne (q_cod qk298 rfl) (by decide) hf (fun c15 hf => ?_) (fun c15 hf => ?_)
  · refine ev_iload (q_cod qk298 rfl) (by decide) rfl ?_
    refine ev_aload_n (q_cod qk298 rfl) (by decide) rfl ?_
    refine ev_iload_n (q_cod qk298 rfl) (by decide) rfl ?_
    obtain ⟨g3, hf⟩ := m_aK_some hf
    refine em_call (v := (fun u => some (.int u))) (q_cod qk298 rfl) rfl rfl (q_cokV rfl rfl (Or.inr g3)) rfl (fun x e => f270_cl e) hf (fun v4 h hf => ?_)
    refine em_ic_ge (q_cod qk298 rfl) (by decide) hf (fun c14 hf => ?_) (fun c14 hf => ?_)
    · refine ev_iload_n (q_cod qk298 rfl) (by decide) rfl ?_
      refine em_if_eq (q_cod qk298 rfl) (by decide) hf (fun c13 hf => ?_) (fun c13 hf => ?_)
      · exact ev_weak (q_pk [0, 1, 3, 4] rfl) (f298_72_ok hf hK)
      · refine ev_aload_n (q_cod qk298 rfl) (by decide) rfl ?_
        refine ev_iload_n (q_cod qk298 rfl) (by decide) rfl ?_
        refine ev_iload (q_cod qk298 rfl) (by decide) rfl ?_
        obtain ⟨g5, hf⟩ := m_aK_some hf
        refine em_call (v := (fun u => some (.int u))) (q_cod qk298 rfl) rfl rfl (q_cokV rfl rfl (Or.inr g5)) rfl (fun x e => f276_cl e) hf (fun v6 h hf => ?_)
        refine em_if_eq (q_cod qk298 rfl) (by decide) hf (fun c12 hf => ?_) (fun c12 hf => ?_)
        · exact ev_weak (q_pk [0, 1, 3, 4] rfl) (f298_68_ok hf hK)
        · refine ev_aload_n (q_cod qk298 rfl) (by decide) rfl ?_
          refine ev_iload_n (q_cod qk298 rfl) (by decide) rfl ?_
          refine ev_aload_n (q_cod qk298 rfl) (by decide) rfl ?_
          refine ev_iload_n (q_cod qk298 rfl) (by decide) rfl ?_
          refine ev_iload (q_cod qk298 rfl) (by decide) rfl ?_
          refine ev_ic (v := 1) (q_cod qk298 rfl) (by decide) (by decide) ?_
          refine ev_iload_n (q_cod qk298 rfl) (by decide) rfl ?_
          refine ev_iadd (q_cod qk298 rfl) (by decide) ?_
          obtain ⟨g7, hf⟩ := m_aK_some hf
          refine em_call (v := (fun u => some (.int u))) (q_cod qk298 rfl) rfl rfl (q_cokV rfl rfl (Or.inr g7)) rfl (fun x e => f223_cl e) hf (fun v8 h hf => ?_)
          obtain ⟨g9, hf⟩ := m_aK_some hf
          refine em_call (v := (fun u => some (.int u))) (q_cod qk298 rfl) rfl rfl (q_cokV rfl rfl (Or.inr g9)) rfl (fun x e => f296_cl e) hf (fun v10 h hf => ?_)
          refine em_if_eq (q_cod qk298 rfl) (by decide) hf (fun c11 hf => ?_) (fun c11 hf => ?_)
          · exact ev_weak (q_pk [0, 1, 3, 4] rfl) (f298_72_ok hf hK)
          · exact ev_weak (q_pk [0, 1, 3, 4] rfl) (f298_68_ok hf hK)
    · obtain ⟨y0, hf0, hx⟩ := m_inr_some hf
      subst hx
      exact ev_weak (q_pk [0, 1, 2, 3] rfl) (f298_80_ok hf0 hK)
  · obtain ⟨y0, hf0, hx⟩ := m_inr_some hf
    subst hx
    exact ev_weak (q_pk [0, 1, 2, 3] rfl) (f298_80_ok hf0 hK)
def f298_15 (l0 : Nat) (l1 : Int32) (l2 : Int32) (l3 : Int32) (l4 : Int32) : m_M ((Nat × Int32 × Int32 × Int32) ⊕ Int32) := m_W (fun s => f298_15b (s.1) (s.2.1) (s.2.2.1) (s.2.2.2.1) (s.2.2.2.2)) 1000000 (l0, l1, l2, l3, l4)
theorem f298_15_ok {l0 : Nat} {l1 : Int32} {l2 : Int32} {l3 : Int32} {l4 : Int32} {h : q_H} {o : q_O} {hz : q_H} {x : ((Nat × Int32 × Int32 × Int32) ⊕ Int32) × q_H} (hf : f298_15 l0 l1 l2 l3 l4 h = some x) (hK : (m_yK (fun (s : Nat × Int32 × Int32 × Int32) (h : q_H) => q_Ev none 298 4 [(0, .ref (s.1)), (1, .int (s.2.1)), (2, .int (s.2.2.1)), (3, .int (s.2.2.2))] [] h o hz) (q_KI o hz)) x) : q_Ev none 298 15 [(0, .ref l0), (1, .int l1), (2, .int l2), (3, .int l3), (4, .int l4)] [] h o hz :=
  m_W_ok (P := (fun (s : Nat × Int32 × Int32 × Int32 × Int32) (h : q_H) => q_Ev none 298 15 [(0, .ref (s.1)), (1, .int (s.2.1)), (2, .int (s.2.2.1)), (3, .int (s.2.2.2.1)), (4, .int (s.2.2.2.2))] [] h o hz)) (K := (m_yK (fun (s : Nat × Int32 × Int32 × Int32) (h : q_H) => q_Ev none 298 4 [(0, .ref (s.1)), (1, .int (s.2.1)), (2, .int (s.2.2.1)), (3, .int (s.2.2.2))] [] h o hz) (q_KI o hz))) (fun s h x h1 h2 => f298_15b_ok h1 h2) _ (l0, l1, l2, l3, l4) _ _ hf hK
def f298_86 (l2 : Int32) : m_M Int32 :=
  m_B (m_G (l2 = 0 ∨ l2 = 1)) (fun _ => m_R l2)
theorem f298_86_ok {l2 : Int32} {h : q_H} {o : q_O} {hz : q_H} {x : Int32 × q_H} (hf : f298_86 l2 h = some x) (hK : (q_KI o hz) x) : q_Ev none 298 86 [(2, .int l2)] [] h o hz := by
  unfold f298_86 at hf
  refine ev_iload_n (q_cod qk298 rfl) (by decide) rfl ?_
  obtain ⟨g1, hf⟩ := m_G_some hf
  obtain rfl := m_R_inv hf
  obtain ⟨rfl, rfl⟩ := (show q_KI o hz (l2, _) from hK)
  exact ev_ret (q_cod qk298 rfl) (q_retZ g1)
def f298_4b (l0 : Nat) (l1 : Int32) (l2 : Int32) (l3 : Int32) : m_M ((Nat × Int32 × Int32 × Int32) ⊕ Int32) :=
  m_B (m_aK l0 12) (fun _ => m_B (f265 l0) (fun v2 => if l3 < v2 then (f298_15 l0 l1 l2 l3 0) else (m_B (f298_86 l2) (fun r => m_R (.inr r)))))
theorem f298_4b_ok {l0 : Nat} {l1 : Int32} {l2 : Int32} {l3 : Int32} {h : q_H} {o : q_O} {hz : q_H} {x : ((Nat × Int32 × Int32 × Int32) ⊕ Int32) × q_H} (hf : f298_4b l0 l1 l2 l3 h = some x) (hK : (m_yK (fun (s : Nat × Int32 × Int32 × Int32) (h : q_H) => q_Ev none 298 4 [(0, .ref (s.1)), (1, .int (s.2.1)), (2, .int (s.2.2.1)), (3, .int (s.2.2.2))] [] h o hz) (q_KI o hz)) x) : q_Ev none 298 4 [(0, .ref l0), (1, .int l1), (2, .int l2), (3, .int l3)] [] h o hz := by
  unfold f298_4b at hf
  refine ev_iload_n (q_cod qk298 rfl) (by decide) rfl ?_
  refine ev_aload_n (q_cod qk298 rfl) (by decide) rfl ?_
  obtain ⟨g1, hf⟩ := m_aK_some hf
  refine em_call (v := (fun u => some (.int u))) (q_cod qk298 rfl) rfl rfl (q_cokV rfl rfl (Or.inr g1)) rfl (fun x e => f265_cl e) hf (fun v2 h hf => ?_)
  refine em_ic_ge (q_cod qk298 rfl) (by decide) hf (fun c3 hf => ?_) (fun c3 hf => ?_)
  · refine ev_ic (v := 0) (q_cod qk298 rfl) (by decide) (by decide) ?_
    refine ev_is2 (L' := [(0, .ref l0), (1, .int l1), (2, .int l2), (3, .int l3), (4, .int 0)]) (q_cod qk298 rfl) (by decide) rfl ?_
    exact (f298_15_ok hf hK)
  · obtain ⟨y0, hf0, hx⟩ := m_inr_some hf
    subst hx
    exact ev_weak (q_pk [2] rfl) (f298_86_ok hf0 hK)
def f298_4 (l0 : Nat) (l1 : Int32) (l2 : Int32) (l3 : Int32) : m_M Int32 := m_W (fun s => f298_4b (s.1) (s.2.1) (s.2.2.1) (s.2.2.2)) 1000000 (l0, l1, l2, l3)
theorem f298_4_ok {l0 : Nat} {l1 : Int32} {l2 : Int32} {l3 : Int32} {h : q_H} {o : q_O} {hz : q_H} {x : Int32 × q_H} (hf : f298_4 l0 l1 l2 l3 h = some x) (hK : (q_KI o hz) x) : q_Ev none 298 4 [(0, .ref l0), (1, .int l1), (2, .int l2), (3, .int l3)] [] h o hz :=
  m_W_ok (P := (fun (s : Nat × Int32 × Int32 × Int32) (h : q_H) => q_Ev none 298 4 [(0, .ref (s.1)), (1, .int (s.2.1)), (2, .int (s.2.2.1)), (3, .int (s.2.2.2))] [] h o hz)) (K := (q_KI o hz)) (fun s h x h1 h2 => f298_4b_ok h1 h2) _ (l0, l1, l2, l3) _ _ hf hK
def f298 (l0 : Nat) (l1 : Int32) : m_M Int32 :=
  f298_4 l0 l1 1 0
theorem f298_ok {l0 : Nat} {l1 : Int32} {h : q_H} {o : q_O} {hz : q_H} {x : Int32 × q_H} (hf : f298 l0 l1 h = some x) (hK : (q_KI o hz) x) : q_Ev none 298 0 [(0, .ref l0), (1, .int l1)] [] h o hz := by
  unfold f298 at hf
  refine ev_ic (v := 1) (q_cod qk298 rfl) (by decide) (by decide) ?_
  refine ev_is1 (L' := [(0, .ref l0), (1, .int l1), (2, .int 1)]) (q_cod qk298 rfl) (by decide) rfl ?_
  refine ev_ic (v := 0) (q_cod qk298 rfl) (by decide) (by decide) ?_
  refine ev_is1 (L' := [(0, .ref l0), (1, .int l1), (2, .int 1), (3, .int 0)]) (q_cod qk298 rfl) (by decide) rfl ?_
  exact (f298_4_ok hf hK)
theorem f298_cl {l0 : Nat} {l1 : Int32} {h : q_H} {x : Int32 × q_H} (hf : f298 l0 l1 h = some x) : q_Cl 298 [.ref l0, .int l1] h (.inl (some (.int x.1))) x.2 := q_Cl.of rfl (q_LvS rfl rfl) (f298_ok hf ⟨rfl, rfl⟩)
/-! SmithyBenchModel.shortenCalls(II)I -/
theorem qk299 : q_cs.getD 299 [] = qc_299 := rfl
def f299_141 (l0 : Nat) (l1 : Int32) (l2 : Int32) (l3 : Int32) (l4 : Int32) (l5 : Int32) : m_M ((Nat × Int32 × Int32 × Int32 × Int32 × Int32) ⊕ Int32) :=
  m_R (.inl (l0, l1, l2, l3, l4, (l5 + 1)))
theorem f299_141_ok {l0 : Nat} {l1 : Int32} {l2 : Int32} {l3 : Int32} {l4 : Int32} {l5 : Int32} {h : q_H} {o : q_O} {hz : q_H} {x : ((Nat × Int32 × Int32 × Int32 × Int32 × Int32) ⊕ Int32) × q_H} (hf : f299_141 l0 l1 l2 l3 l4 l5 h = some x) (hK : (m_yK (fun (s : Nat × Int32 × Int32 × Int32 × Int32 × Int32) (h : q_H) => q_Ev none 299 13 [(0, .ref (s.1)), (1, .int (s.2.1)), (2, .int (s.2.2.1)), (3, .int (s.2.2.2.1)), (4, .int (s.2.2.2.2.1)), (5, .int (s.2.2.2.2.2))] [] h o hz) (q_KI o hz)) x) : q_Ev none 299 141 [(0, .ref l0), (1, .int l1), (2, .int l2), (3, .int l3), (4, .int l4), (5, .int l5)] [] h o hz := by
  unfold f299_141 at hf
  refine ev_inc (v := l5 + 1) (L' := [(0, .ref l0), (1, .int l1), (2, .int l2), (3, .int l3), (4, .int l4), (5, .int (l5 + 1))]) (q_cod qk299 rfl) (by decide) rfl rfl rfl ?_
  refine ev_goto (q_cod qk299 rfl) (by decide) ?_
  obtain rfl := m_R_inv hf
  exact (show q_Ev none 299 13 [(0, .ref l0), (1, .int l1), (2, .int l2), (3, .int l3), (4, .int l4), (5, .int (l5 + 1))] [] _ o hz from hK)
def f299_47 (l0 : Nat) (l1 : Int32) (l2 : Int32) (l3 : Int32) (l4 : Int32) (l5 : Int32) (s0 : Int32) : m_M ((Nat × Int32 × Int32 × Int32 × Int32 × Int32) ⊕ Int32) :=
  if s0 = 0 then (m_B (m_aK l0 12) (fun _ => m_B (f276 l0 l1 l5) (fun v2 => if v2 = 0 then (m_B (m_aK l0 12) (fun _ => m_B (f261 l0 l1 l5) (fun _ => f299_141 l0 l1 l2 l3 l4 l5))) else (m_B (m_aK l0 12) (fun _ => m_B (f200 l0 0 l1 l5) (fun v6 => m_B (m_aK l0 12) (fun _ => m_B (f201 l0 0 l1 l5) (fun v8 => m_B (m_aK l0 12) (fun _ => m_B (f260 l0 7 v6 (v8 - 1)) (fun _ => m_B (m_gR 12 l0 46) (fun r11 => m_B (m_aK l0 12) (fun _ => m_B (f223 l0 l1 l5 (1 + l2)) (fun v13 => m_B (m_wI r11 l4 v13) (fun _ => f299_141 l0 l1 l2 (l3 + 1) (l4 + 1) l5)))))))))))))) else (m_B (m_aK l0 12) (fun _ => m_B (f269 l0 l1 l5) (fun v16 => f299_141 l0 l1 l2 l3 (l4 + (-1)) (l5 + (v16 - 1)))))
theorem f299_47_ok {l0 : Nat} {l1 : Int32} {l2 : Int32} {l3 : Int32} {l4 : Int32} {l5 : Int32} {s0 : Int32} {h : q_H} {o : q_O} {hz : q_H} {x : ((Nat × Int32 × Int32 × Int32 × Int32 × Int32) ⊕ Int32) × q_H} (hf : f299_47 l0 l1 l2 l3 l4 l5 s0 h = some x) (hK : (m_yK (fun (s : Nat × Int32 × Int32 × Int32 × Int32 × Int32) (h : q_H) => q_Ev none 299 13 [(0, .ref (s.1)), (1, .int (s.2.1)), (2, .int (s.2.2.1)), (3, .int (s.2.2.2.1)), (4, .int (s.2.2.2.2.1)), (5, .int (s.2.2.2.2.2))] [] h o hz) (q_KI o hz)) x) : q_Ev none 299 47 [(0, .ref l0), (1, .int l1), (2, .int l2), (3, .int l3), (4, .int l4), (5, .int l5)] [.int s0] h o hz := by
  unfold f299_47 at hf
  refine ev_is2 (L' := [(0, .ref l0), (1, .int l1), (2, .int l2), (3, .int l3), (4, .int l4), (5, .int l5), (6, .int s0)]) (q_cod qk299 rfl) (by decide) rfl ?_
  refine ev_iload (q_cod qk299 rfl) (by decide) rfl ?_
  refine em_if_eq (q_cod qk299 rfl) (by decide) hf (fun c17 hf => ?_) (fun c17 hf => ?_)
  · refine ev_aload_n (q_cod qk299 rfl) (by decide) rfl ?_
    refine ev_iload_n (q_cod qk299 rfl) (by decide) rfl ?_
    refine ev_iload (q_cod qk299 rfl) (by decide) rfl ?_
    obtain ⟨g1, hf⟩ := m_aK_some hf
    refine em_call (v := (fun u => some (.int u))) (q_cod qk299 rfl) rfl rfl (q_cokV rfl rfl (Or.inr g1)) rfl (fun x e => f276_cl e) hf (fun v2 h hf => ?_)
    refine em_if_eq (q_cod qk299 rfl) (by decide) hf (fun c14 hf => ?_) (fun c14 hf => ?_)
    · refine ev_aload_n (q_cod qk299 rfl) (by decide) rfl ?_
      refine ev_iload_n (q_cod qk299 rfl) (by decide) rfl ?_
      refine ev_iload (q_cod qk299 rfl) (by decide) rfl ?_
      obtain ⟨g3, hf⟩ := m_aK_some hf
      refine em_call (v := (fun _ => none)) (q_cod qk299 rfl) rfl rfl (q_cokV rfl rfl (Or.inr g3)) rfl (fun x e => f261_cl e) hf (fun _ h hf => ?_)
      exact ev_weak (q_pk [0, 1, 2, 3, 4, 5] rfl) (f299_141_ok hf hK)
    · refine ev_aload_n (q_cod qk299 rfl) (by decide) rfl ?_
      refine ev_bi (v := 7) (q_cod qk299 rfl) (by decide) (by decide) ?_
      refine ev_aload_n (q_cod qk299 rfl) (by decide) rfl ?_
      refine ev_ic (v := 0) (q_cod qk299 rfl) (by decide) (by decide) ?_
      refine ev_iload_n (q_cod qk299 rfl) (by decide) rfl ?_
      refine ev_iload (q_cod qk299 rfl) (by decide) rfl ?_
      obtain ⟨g5, hf⟩ := m_aK_some hf
      refine em_call (v := (fun u => some (.int u))) (q_cod qk299 rfl) rfl rfl (q_cokV rfl rfl (Or.inr g5)) rfl (fun x e => f200_cl e) hf (fun v6 h hf => ?_)
      refine ev_aload_n (q_cod qk299 rfl) (by decide) rfl ?_
      refine ev_ic (v := 0) (q_cod qk299 rfl) (by decide) (by decide) ?_
      refine ev_iload_n (q_cod qk299 rfl) (by decide) rfl ?_
      refine ev_iload (q_cod qk299 rfl) (by decide) rfl ?_
      obtain ⟨g7, hf⟩ := m_aK_some hf
      refine em_call (v := (fun u => some (.int u))) (q_cod qk299 rfl) rfl rfl (q_cokV rfl rfl (Or.inr g7)) rfl (fun x e => f201_cl e) hf (fun v8 h hf => ?_)
      refine ev_ic (v := 1) (q_cod qk299 rfl) (by decide) (by decide) ?_
      refine ev_isub (q_cod qk299 rfl) (by decide) ?_
      obtain ⟨g9, hf⟩ := m_aK_some hf
      refine em_call (v := (fun _ => none)) (q_cod qk299 rfl) rfl rfl (q_cokV rfl rfl (Or.inr g9)) rfl (fun x e => f260_cl e) hf (fun _ h hf => ?_)
      refine ev_aload_n (q_cod qk299 rfl) (by decide) rfl ?_
      refine em_gR (q_cod qk299 rfl) (by decide) (by decide) hf (fun r11 hf => ?_)
      refine ev_iload (q_cod qk299 rfl) (by decide) rfl ?_
      refine ev_aload_n (q_cod qk299 rfl) (by decide) rfl ?_
      refine ev_iload_n (q_cod qk299 rfl) (by decide) rfl ?_
      refine ev_iload (q_cod qk299 rfl) (by decide) rfl ?_
      refine ev_ic (v := 1) (q_cod qk299 rfl) (by decide) (by decide) ?_
      refine ev_iload_n (q_cod qk299 rfl) (by decide) rfl ?_
      refine ev_iadd (q_cod qk299 rfl) (by decide) ?_
      obtain ⟨g12, hf⟩ := m_aK_some hf
      refine em_call (v := (fun u => some (.int u))) (q_cod qk299 rfl) rfl rfl (q_cokV rfl rfl (Or.inr g12)) rfl (fun x e => f223_cl e) hf (fun v13 h hf => ?_)
      refine em_wI (q_cod qk299 rfl) (by decide) hf (fun hf => ?_)
      refine ev_inc (v := l4 + 1) (L' := [(0, .ref l0), (1, .int l1), (2, .int l2), (3, .int l3), (4, .int (l4 + 1)), (5, .int l5), (6, .int s0)]) (q_cod qk299 rfl) (by decide) rfl rfl rfl ?_
      refine ev_inc (v := l3 + 1) (L' := [(0, .ref l0), (1, .int l1), (2, .int l2), (3, .int (l3 + 1)), (4, .int (l4 + 1)), (5, .int l5), (6, .int s0)]) (q_cod qk299 rfl) (by decide) rfl rfl rfl ?_
      refine ev_goto (q_cod qk299 rfl) (by decide) ?_
      exact ev_weak (q_pk [0, 1, 2, 3, 4, 5] rfl) (f299_141_ok hf hK)
  · refine ev_iload (q_cod qk299 rfl) (by decide) rfl ?_
    refine ev_aload_n (q_cod qk299 rfl) (by decide) rfl ?_
    refine ev_iload_n (q_cod qk299 rfl) (by decide) rfl ?_
    refine ev_iload (q_cod qk299 rfl) (by decide) rfl ?_
    obtain ⟨g15, hf⟩ := m_aK_some hf
    refine em_call (v := (fun u => some (.int u))) (q_cod qk299 rfl) rfl rfl (q_cokV rfl rfl (Or.inr g15)) rfl (fun x e => f269_cl e) hf (fun v16 h hf => ?_)
    refine ev_ic (v := 1) (q_cod qk299 rfl) (by decide) (by decide) ?_
    refine ev_isub (q_cod qk299 rfl) (by decide) ?_
    refine ev_iadd (q_cod qk299 rfl) (by decide) ?_
    refine ev_is2 (L' := [(0, .ref l0), (1, .int l1), (2, .int l2), (3, .int l3), (4, .int l4), (5, .int (l5 + (v16 - 1))), (6, .int s0)]) (q_cod qk299 rfl) (by decide) rfl ?_
    refine ev_inc (v := l4 + (-1)) (L' := [(0, .ref l0), (1, .int l1), (2, .int l2), (3, .int l3), (4, .int (l4 + (-1))), (5, .int (l5 + (v16 - 1))), (6, .int s0)]) (q_cod qk299 rfl) (by decide) rfl rfl rfl ?_
    refine ev_goto (q_cod qk299 rfl) (by decide) ?_
    exact ev_weak (q_pk [0, 1, 2, 3, 4, 5] rfl) (f299_141_ok hf hK)
def f299_46 (l0 : Nat) (l1 : Int32) (l2 : Int32) (l3 : Int32) (l4 : Int32) (l5 : Int32) : m_M ((Nat × Int32 × Int32 × Int32 × Int32 × Int32) ⊕ Int32) :=
  f299_47 l0 l1 l2 l3 l4 l5 0
theorem f299_46_ok {l0 : Nat} {l1 : Int32} {l2 : Int32} {l3 : Int32} {l4 : Int32} {l5 : Int32} {h : q_H} {o : q_O} {hz : q_H} {x : ((Nat × Int32 × Int32 × Int32 × Int32 × Int32) ⊕ Int32) × q_H} (hf : f299_46 l0 l1 l2 l3 l4 l5 h = some x) (hK : (m_yK (fun (s : Nat × Int32 × Int32 × Int32 × Int32 × Int32) (h : q_H) => q_Ev none 299 13 [(0, .ref (s.1)), (1, .int (s.2.1)), (2, .int (s.2.2.1)), (3, .int (s.2.2.2.1)), (4, .int (s.2.2.2.2.1)), (5, .int (s.2.2.2.2.2))] [] h o hz) (q_KI o hz)) x) : q_Ev none 299 46 [(0, .ref l0), (1, .int l1), (2, .int l2), (3, .int l3), (4, .int l4), (5, .int l5)] [] h o hz := by
  unfold f299_46 at hf
  refine ev_ic (v := 0) (q_cod qk299 rfl) (by decide) (by decide) ?_
  exact (f299_47_ok hf hK)
def f299_147 (l0 : Nat) (l1 : Int32) (l3 : Int32) : m_M Int32 :=
  m_B (m_aK l0 12) (fun _ => m_B (f264 l0 l1) (fun _ => m_R l3))
theorem f299_147_ok {l0 : Nat} {l1 : Int32} {l3 : Int32} {h : q_H} {o : q_O} {hz : q_H} {x : Int32 × q_H} (hf : f299_147 l0 l1 l3 h = some x) (hK : (q_KI o hz) x) : q_Ev none 299 147 [(0, .ref l0), (1, .int l1), (3, .int l3)] [] h o hz := by
  unfold f299_147 at hf
  refine ev_aload_n (q_cod qk299 rfl) (by decide) rfl ?_
  refine ev_iload_n (q_cod qk299 rfl) (by decide) rfl ?_
  obtain ⟨g1, hf⟩ := m_aK_some hf
  refine em_call (v := (fun _ => none)) (q_cod qk299 rfl) rfl rfl (q_cokV rfl rfl (Or.inr g1)) rfl (fun x e => f264_cl e) hf (fun _ h hf => ?_)
  refine ev_iload_n (q_cod qk299 rfl) (by decide) rfl ?_
  obtain rfl := m_R_inv hf
  obtain ⟨rfl, rfl⟩ := (show q_KI o hz (l3, _) from hK)
  exact ev_ret (q_cod qk299 rfl) rfl
def f299_13b (l0 : Nat) (l1 : Int32) (l2 : Int32) (l3 : Int32) (l4 : Int32) (l5 : Int32) : m_M ((Nat × Int32 × Int32 × Int32 × Int32 × Int32) ⊕ Int32) :=
  m_B (m_aK l0 12) (fun _ => m_B (f270 l0 l1) (fun v2 => if l5 < v2 then (if 0 < l4 then (m_B (m_gR 12 l0 46) (fun r3 => m_B (m_lI r3 (l4 - 1)) (fun v4 => if l5 < v4 then (f299_46 l0 l1 l2 l3 l4 l5) else (f299_47 l0 l1 l2 l3 l4 l5 1)))) else (f299_46 l0 l1 l2 l3 l4 l5)) else (m_B (f299_147 l0 l1 l3) (fun r => m_R (.inr r)))))
theorem f299_13b_ok {l0 : Nat} {l1 : Int32} {l2 : Int32} {l3 : Int32} {l4 : Int32} {l5 : Int32} {h : q_H} {o : q_O} {hz : q_H} {x : ((Nat × Int32 × Int32 × Int32 × Int32 × Int32) ⊕ Int32) × q_H} (hf : f299_13b l0 l1 l2 l3 l4 l5 h = some x) (hK : (m_yK (fun (s : Nat × Int32 × Int32 × Int32 × Int32 × Int32) (h : q_H) => q_Ev none 299 13 [(0, .ref (s.1)), (1, .int (s.2.1)), (2, .int (s.2.2.1)), (3, .int (s.2.2.2.1)), (4, .int (s.2.2.2.2.1)), (5, .int (s.2.2.2.2.2))] [] h o hz) (q_KI o hz)) x) : q_Ev none 299 13 [(0, .ref l0), (1, .int l1), (2, .int l2), (3, .int l3), (4, .int l4), (5, .int l5)] [] h o hz := by
  unfold f299_13b at hf
  refine ev_iload (q_cod qk299 rfl) (by decide) rfl ?_
  refine ev_aload_n (q_cod qk299 rfl) (by decide) rfl ?_
  refine ev_iload_n (q_cod qk299 rfl) (by decide) rfl ?_
  obtain ⟨g1, hf⟩ := m_aK_some hf
  refine em_call (v := (fun u => some (.int u))) (q_cod qk299 rfl) rfl rfl (q_cokV rfl rfl (Or.inr g1)) rfl (fun x e => f270_cl e) hf (fun v2 h hf => ?_)
  refine em_ic_ge (q_cod qk299 rfl) (by decide) hf (fun c7 hf => ?_) (fun c7 hf => ?_)
  · refine ev_iload (q_cod qk299 rfl) (by decide) rfl ?_
    refine em_if_le (q_cod qk299 rfl) (by decide) hf (fun c6 hf => ?_) (fun c6 hf => ?_)
    · refine ev_iload (q_cod qk299 rfl) (by decide) rfl ?_
      refine ev_aload_n (q_cod qk299 rfl) (by decide) rfl ?_
      refine em_gR (q_cod qk299 rfl) (by decide) (by decide) hf (fun r3 hf => ?_)
      refine ev_iload (q_cod qk299 rfl) (by decide) rfl ?_
      refine ev_ic (v := 1) (q_cod qk299 rfl) (by decide) (by decide) ?_
      refine ev_isub (q_cod qk299 rfl) (by decide) ?_
      refine em_lI (q_cod qk299 rfl) (by decide) hf (fun v4 hf => ?_)
      refine em_ic_lt (q_cod qk299 rfl) (by decide) hf (fun c5 hf => ?_) (fun c5 hf => ?_)
      · exact (f299_46_ok hf hK)
      · refine ev_ic (v := 1) (q_cod qk299 rfl) (by decide) (by decide) ?_
        refine ev_goto (q_cod qk299 rfl) (by decide) ?_
        exact (f299_47_ok hf hK)
    · exact (f299_46_ok hf hK)
  · obtain ⟨y0, hf0, hx⟩ := m_inr_some hf
    subst hx
    exact ev_weak (q_pk [0, 1, 3] rfl) (f299_147_ok hf0 hK)
def f299_13 (l0 : Nat) (l1 : Int32) (l2 : Int32) (l3 : Int32) (l4 : Int32) (l5 : Int32) : m_M Int32 := m_W (fun s => f299_13b (s.1) (s.2.1) (s.2.2.1) (s.2.2.2.1) (s.2.2.2.2.1) (s.2.2.2.2.2)) 1000000 (l0, l1, l2, l3, l4, l5)
theorem f299_13_ok {l0 : Nat} {l1 : Int32} {l2 : Int32} {l3 : Int32} {l4 : Int32} {l5 : Int32} {h : q_H} {o : q_O} {hz : q_H} {x : Int32 × q_H} (hf : f299_13 l0 l1 l2 l3 l4 l5 h = some x) (hK : (q_KI o hz) x) : q_Ev none 299 13 [(0, .ref l0), (1, .int l1), (2, .int l2), (3, .int l3), (4, .int l4), (5, .int l5)] [] h o hz :=
  m_W_ok (P := (fun (s : Nat × Int32 × Int32 × Int32 × Int32 × Int32) (h : q_H) => q_Ev none 299 13 [(0, .ref (s.1)), (1, .int (s.2.1)), (2, .int (s.2.2.1)), (3, .int (s.2.2.2.1)), (4, .int (s.2.2.2.2.1)), (5, .int (s.2.2.2.2.2))] [] h o hz)) (K := (q_KI o hz)) (fun s h x h1 h2 => f299_13b_ok h1 h2) _ (l0, l1, l2, l3, l4, l5) _ _ hf hK
def f299 (l0 : Nat) (l1 : Int32) (l2 : Int32) : m_M Int32 :=
  m_B (m_pI 12 l0 38 0) (fun _ => f299_13 l0 l1 l2 0 0 0)
theorem f299_ok {l0 : Nat} {l1 : Int32} {l2 : Int32} {h : q_H} {o : q_O} {hz : q_H} {x : Int32 × q_H} (hf : f299 l0 l1 l2 h = some x) (hK : (q_KI o hz) x) : q_Ev none 299 0 [(0, .ref l0), (1, .int l1), (2, .int l2)] [] h o hz := by
  unfold f299 at hf
  refine ev_ic (v := 0) (q_cod qk299 rfl) (by decide) (by decide) ?_
  refine ev_is1 (L' := [(0, .ref l0), (1, .int l1), (2, .int l2), (3, .int 0)]) (q_cod qk299 rfl) (by decide) rfl ?_
  refine ev_ic (v := 0) (q_cod qk299 rfl) (by decide) (by decide) ?_
  refine ev_is2 (L' := [(0, .ref l0), (1, .int l1), (2, .int l2), (3, .int 0), (4, .int 0)]) (q_cod qk299 rfl) (by decide) rfl ?_
  refine ev_aload_n (q_cod qk299 rfl) (by decide) rfl ?_
  refine ev_ic (v := 0) (q_cod qk299 rfl) (by decide) (by decide) ?_
  refine em_pI (q_cod qk299 rfl) (by decide) (by decide) (by decide) hf (fun hf => ?_)
  refine ev_ic (v := 0) (q_cod qk299 rfl) (by decide) (by decide) ?_
  refine ev_is2 (L' := [(0, .ref l0), (1, .int l1), (2, .int l2), (3, .int 0), (4, .int 0), (5, .int 0)]) (q_cod qk299 rfl) (by decide) rfl ?_
  exact (f299_13_ok hf hK)
theorem f299_cl {l0 : Nat} {l1 : Int32} {l2 : Int32} {h : q_H} {x : Int32 × q_H} (hf : f299 l0 l1 l2 h = some x) : q_Cl 299 [.ref l0, .int l1, .int l2] h (.inl (some (.int x.1))) x.2 := q_Cl.of rfl (q_LvS rfl rfl) (f299_ok hf ⟨rfl, rfl⟩)
/-! SmithyBenchModel.dropParameter(II)I -/
theorem qk300 : q_cs.getD 300 [] = qc_300 := rfl
def f300_260 (l0 : Nat) (l2 : Int32) (l4 : Int32) (l6 : Int32) (s0 : Int32) (s1 : Int32) : m_M ((Nat × Int32 × Int32 × Int32 × Int32) ⊕ Int32) :=
  m_R (.inl (l0, l2, l4, (s0 + s1), (l6 + 1)))
set_option maxRecDepth 20000 in
theorem f300_260_ok {l0 : Nat} {l2 : Int32} {l4 : Int32} {l6 : Int32} {s0 : Int32} {s1 : Int32} {h : q_H} {o : q_O} {hz : q_H} {x : ((Nat × Int32 × Int32 × Int32 × Int32) ⊕ Int32) × q_H} (hf : f300_260 l0 l2 l4 l6 s0 s1 h = some x) (hK : (m_yK (fun (s : Nat × Int32 × Int32 × Int32 × Int32) (h : q_H) => q_Ev none 300 131 [(0, .ref (s.1)), (2, .int (s.2.1)), (4, .int (s.2.2.1)), (5, .int (s.2.2.2.1)), (6, .int (s.2.2.2.2))] [] h o hz) (q_KI o hz)) x) : q_Ev none 300 260 [(0, .ref l0), (2, .int l2), (4, .int l4), (6, .int l6)] [.int s1, .int s0] h o hz := by
  unfold f300_260 at hf
  refine ev_iadd (q_cod qk300 rfl) (by decide) ?_
  refine ev_is2 (L' := [(0, .ref l0), (2, .int l2), (4, .int l4), (5, .int (s0 + s1)), (6, .int l6)]) (q_cod qk300 rfl) (by decide) rfl ?_
  refine ev_inc (v := l6 + 1) (L' := [(0, .ref l0), (2, .int l2), (4, .int l4), (5, .int (s0 + s1)), (6, .int (l6 + 1))]) (q_cod qk300 rfl) (by decide) rfl rfl rfl ?_
  refine ev_goto (q_cod qk300 rfl) (by decide) ?_
  obtain rfl := m_R_inv hf
  exact (show q_Ev none 300 131 [(0, .ref l0), (2, .int l2), (4, .int l4), (5, .int (s0 + s1)), (6, .int (l6 + 1))] [] _ o hz from hK)
def f300_235 (l0 : Nat) (l2 : Int32) (l4 : Int32) (l5 : Int32) (l6 : Int32) : m_M ((Nat × Int32 × Int32 × Int32 × Int32) ⊕ Int32) :=
  m_B (m_aK l0 12) (fun _ => m_B (f196 l0 0 l6 0) (fun v2 => if v2 = 1 then (m_B (m_aK l0 12) (fun _ => m_B (f299 l0 l6 l2) (fun v4 => f300_260 l0 l2 l4 l6 l5 v4))) else (f300_260 l0 l2 l4 l6 l5 0)))
set_option maxRecDepth 20000 in
theorem f300_235_ok {l0 : Nat} {l2 : Int32} {l4 : Int32} {l5 : Int32} {l6 : Int32} {h : q_H} {o : q_O} {hz : q_H} {x : ((Nat × Int32 × Int32 × Int32 × Int32) ⊕ Int32) × q_H} (hf : f300_235 l0 l2 l4 l5 l6 h = some x) (hK : (m_yK (fun (s : Nat × Int32 × Int32 × Int32 × Int32) (h : q_H) => q_Ev none 300 131 [(0, .ref (s.1)), (2, .int (s.2.1)), (4, .int (s.2.2.1)), (5, .int (s.2.2.2.1)), (6, .int (s.2.2.2.2))] [] h o hz) (q_KI o hz)) x) : q_Ev none 300 235 [(0, .ref l0), (2, .int l2), (4, .int l4), (5, .int l5), (6, .int l6)] [] h o hz := by
  unfold f300_235 at hf
  refine ev_iload (q_cod qk300 rfl) (by decide) rfl ?_
  refine ev_aload_n (q_cod qk300 rfl) (by decide) rfl ?_
  refine ev_ic (v := 0) (q_cod qk300 rfl) (by decide) (by decide) ?_
  refine ev_iload (q_cod qk300 rfl) (by decide) rfl ?_
  refine ev_ic (v := 0) (q_cod qk300 rfl) (by decide) (by decide) ?_
  obtain ⟨g1, hf⟩ := m_aK_some hf
  refine em_call (v := (fun u => some (.int u))) (q_cod qk300 rfl) rfl rfl (q_cokV rfl rfl (Or.inr g1)) rfl (fun x e => f196_cl e) hf (fun v2 h hf => ?_)
  refine ev_ic (v := 1) (q_cod qk300 rfl) (by decide) (by decide) ?_
  refine em_ic_ne (q_cod qk300 rfl) (by decide) hf (fun c5 hf => ?_) (fun c5 hf => ?_)
  · refine ev_aload_n (q_cod qk300 rfl) (by decide) rfl ?_
    refine ev_iload (q_cod qk300 rfl) (by decide) rfl ?_
    refine ev_iload_n (q_cod qk300 rfl) (by decide) rfl ?_
    obtain ⟨g3, hf⟩ := m_aK_some hf
    refine em_call (v := (fun u => some (.int u))) (q_cod qk300 rfl) rfl rfl (q_cokV rfl rfl (Or.inr g3)) rfl (fun x e => f299_cl e) hf (fun v4 h hf => ?_)
    refine ev_goto (q_cod qk300 rfl) (by decide) ?_
    exact ev_weak (q_pk [0, 1, 2, 4] rfl) (f300_260_ok hf hK)
  · refine ev_ic (v := 0) (q_cod qk300 rfl) (by decide) (by decide) ?_
    exact ev_weak (q_pk [0, 1, 2, 4] rfl) (f300_260_ok hf hK)
def f300_206 (l0 : Nat) (l2 : Int32) (l4 : Int32) (l5 : Int32) (l6 : Int32) : m_M ((Nat × Int32 × Int32 × Int32 × Int32) ⊕ Int32) :=
  m_B (m_aK l0 12) (fun _ => m_B (f197 l0 2 l6 ((4 + l4) - 1) (-1)) (fun _ => m_B (m_aK l0 12) (fun _ => m_B (f197 l0 2 l6 ((6 + l4) - 1) (-1)) (fun _ => f300_235 l0 l2 l4 l5 l6))))
set_option maxRecDepth 20000 in
theorem f300_206_ok {l0 : Nat} {l2 : Int32} {l4 : Int32} {l5 : Int32} {l6 : Int32} {h : q_H} {o : q_O} {hz : q_H} {x : ((Nat × Int32 × Int32 × Int32 × Int32) ⊕ Int32) × q_H} (hf : f300_206 l0 l2 l4 l5 l6 h = some x) (hK : (m_yK (fun (s : Nat × Int32 × Int32 × Int32 × Int32) (h : q_H) => q_Ev none 300 131 [(0, .ref (s.1)), (2, .int (s.2.1)), (4, .int (s.2.2.1)), (5, .int (s.2.2.2.1)), (6, .int (s.2.2.2.2))] [] h o hz) (q_KI o hz)) x) : q_Ev none 300 206 [(0, .ref l0), (2, .int l2), (4, .int l4), (5, .int l5), (6, .int l6)] [] h o hz := by
  unfold f300_206 at hf
  refine ev_aload_n (q_cod qk300 rfl) (by decide) rfl ?_
  refine ev_ic (v := 2) (q_cod qk300 rfl) (by decide) (by decide) ?_
  refine ev_iload (q_cod qk300 rfl) (by decide) rfl ?_
  refine ev_ic (v := 4) (q_cod qk300 rfl) (by decide) (by decide) ?_
  refine ev_iload (q_cod qk300 rfl) (by decide) rfl ?_
  refine ev_iadd (q_cod qk300 rfl) (by decide) ?_
  refine ev_ic (v := 1) (q_cod qk300 rfl) (by decide) (by decide) ?_
  refine ev_isub (q_cod qk300 rfl) (by decide) ?_
  refine ev_ic (v := (-1)) (q_cod qk300 rfl) (by decide) (by decide) ?_
  obtain ⟨g1, hf⟩ := m_aK_some hf
  refine em_call (v := (fun _ => none)) (q_cod qk300 rfl) rfl rfl (q_cokV rfl rfl (Or.inr g1)) rfl (fun x e => f197_cl e) hf (fun _ h hf => ?_)
  refine ev_aload_n (q_cod qk300 rfl) (by decide) rfl ?_
  refine ev_ic (v := 2) (q_cod qk300 rfl) (by decide) (by decide) ?_
  refine ev_iload (q_cod qk300 rfl) (by decide) rfl ?_
  refine ev_bi (v := 6) (q_cod qk300 rfl) (by decide) (by decide) ?_
  refine ev_iload (q_cod qk300 rfl) (by decide) rfl ?_
  refine ev_iadd (q_cod qk300 rfl) (by decide) ?_
  refine ev_ic (v := 1) (q_cod qk300 rfl) (by decide) (by decide) ?_
  refine ev_isub (q_cod qk300 rfl) (by decide) ?_
  refine ev_ic (v := (-1)) (q_cod qk300 rfl) (by decide) (by decide) ?_
  obtain ⟨g3, hf⟩ := m_aK_some hf
  refine em_call (v := (fun _ => none)) (q_cod qk300 rfl) rfl rfl (q_cokV rfl rfl (Or.inr g3)) rfl (fun x e => f197_cl e) hf (fun _ h hf => ?_)
  exact (f300_235_ok hf hK)
def f300_269 (l0 : Nat) (l5 : Int32) : m_M Int32 :=
  m_B (m_aK l0 12) (fun _ => m_B (f271 l0) (fun v2 => m_R l5))
set_option maxRecDepth 20000 in
theorem f300_269_ok {l0 : Nat} {l5 : Int32} {h : q_H} {o : q_O} {hz : q_H} {x : Int32 × q_H} (hf : f300_269 l0 l5 h = some x) (hK : (q_KI o hz) x) : q_Ev none 300 269 [(0, .ref l0), (5, .int l5)] [] h o hz := by
  unfold f300_269 at hf
  refine ev_aload_n (q_cod qk300 rfl) (by decide) rfl ?_
  obtain ⟨g1, hf⟩ := m_aK_some hf
  refine em_call (v := (fun u => some (.int u))) (q_cod qk300 rfl) rfl rfl (q_cokV rfl rfl (Or.inr g1)) rfl (fun x e => f271_cl e) hf (fun v2 h hf => ?_)
  refine ev_is2 (L' := [(0, .ref l0), (5, .int l5), (6, .int v2)]) (q_cod qk300 rfl) (by decide) rfl ?_
  refine ev_iload (q_cod qk300 rfl) (by decide) rfl ?_
  obtain rfl := m_R_inv hf
  obtain ⟨rfl, rfl⟩ := (show q_KI o hz (l5, _) from hK)
  exact ev_ret (q_cod qk300 rfl) rfl
def f300_131b (l0 : Nat) (l2 : Int32) (l4 : Int32) (l5 : Int32) (l6 : Int32) : m_M ((Nat × Int32 × Int32 × Int32 × Int32) ⊕ Int32) :=
  m_B (m_aK l0 12) (fun _ => m_B (f265 l0) (fun v2 => if l6 < v2 then (m_B (m_gR 12 l0 36) (fun r3 => m_B (m_lZ r3 l6) (fun v4 => if v4 = 0 then (f300_235 l0 l2 l4 l5 l6) else (m_B (m_aK l0 12) (fun _ => m_B (f197 l0 2 l6 3 (l4 - 1)) (fun _ => if l2 = 0 then (if l4 = 2 then (m_B (m_aK l0 12) (fun _ => m_B (f196 l0 0 l6 5) (fun v8 => m_B (m_aK l0 12) (fun _ => m_B (f197 l0 2 l6 4 v8) (fun _ => m_B (m_aK l0 12) (fun _ => m_B (f196 l0 0 l6 7) (fun v12 => m_B (m_aK l0 12) (fun _ => m_B (f197 l0 2 l6 6 v12) (fun _ => f300_206 l0 l2 l4 l5 l6))))))))) else (f300_206 l0 l2 l4 l5 l6)) else (f300_206 l0 l2 l4 l5 l6))))))) else (m_B (f300_269 l0 l5) (fun r => m_R (.inr r)))))
set_option maxRecDepth 20000 in
theorem f300_131b_ok {l0 : Nat} {l2 : Int32} {l4 : Int32} {l5 : Int32} {l6 : Int32} {h : q_H} {o : q_O} {hz : q_H} {x : ((Nat × Int32 × Int32 × Int32 × Int32) ⊕ Int32) × q_H} (hf : f300_131b l0 l2 l4 l5 l6 h = some x) (hK : (m_yK (fun (s : Nat × Int32 × Int32 × Int32 × Int32) (h : q_H) => q_Ev none 300 131 [(0, .ref (s.1)), (2, .int (s.2.1)), (4, .int (s.2.2.1)), (5, .int (s.2.2.2.1)), (6, .int (s.2.2.2.2))] [] h o hz) (q_KI o hz)) x) : q_Ev none 300 131 [(0, .ref l0), (2, .int l2), (4, .int l4), (5, .int l5), (6, .int l6)] [] h o hz := by
  unfold f300_131b at hf
  refine ev_iload (q_cod qk300 rfl) (by decide) rfl ?_
  refine ev_aload_n (q_cod qk300 rfl) (by decide) rfl ?_
  obtain ⟨g1, hf⟩ := m_aK_some hf
  refine em_call (v := (fun u => some (.int u))) (q_cod qk300 rfl) rfl rfl (q_cokV rfl rfl (Or.inr g1)) rfl (fun x e => f265_cl e) hf (fun v2 h hf => ?_)
  refine em_ic_ge (q_cod qk300 rfl) (by decide) hf (fun c18 hf => ?_) (fun c18 hf => ?_)
  · refine ev_aload_n (q_cod qk300 rfl) (by decide) rfl ?_
    refine em_gR (q_cod qk300 rfl) (by decide) (by decide) hf (fun r3 hf => ?_)
    refine ev_iload (q_cod qk300 rfl) (by decide) rfl ?_
    refine em_lZ (q_cod qk300 rfl) (by decide) hf (fun v4 hf => ?_)
    refine em_if_eq (q_cod qk300 rfl) (by decide) hf (fun c17 hf => ?_) (fun c17 hf => ?_)
    · exact (f300_235_ok hf hK)
    · refine ev_aload_n (q_cod qk300 rfl) (by decide) rfl ?_
      refine ev_ic (v := 2) (q_cod qk300 rfl) (by decide) (by decide) ?_
      refine ev_iload (q_cod qk300 rfl) (by decide) rfl ?_
      refine ev_ic (v := 3) (q_cod qk300 rfl) (by decide) (by decide) ?_
      refine ev_iload (q_cod qk300 rfl) (by decide) rfl ?_
      refine ev_ic (v := 1) (q_cod qk300 rfl) (by decide) (by decide) ?_
      refine ev_isub (q_cod qk300 rfl) (by decide) ?_
      obtain ⟨g5, hf⟩ := m_aK_some hf
      refine em_call (v := (fun _ => none)) (q_cod qk300 rfl) rfl rfl (q_cokV rfl rfl (Or.inr g5)) rfl (fun x e => f197_cl e) hf (fun _ h hf => ?_)
      refine ev_iload_n (q_cod qk300 rfl) (by decide) rfl ?_
      refine em_if_ne (q_cod qk300 rfl) (by decide) hf (fun c16 hf => ?_) (fun c16 hf => ?_)
      · refine ev_iload (q_cod qk300 rfl) (by decide) rfl ?_
        refine ev_ic (v := 2) (q_cod qk300 rfl) (by decide) (by decide) ?_
        refine em_ic_ne (q_cod qk300 rfl) (by decide) hf (fun c15 hf => ?_) (fun c15 hf => ?_)
        · refine ev_aload_n (q_cod qk300 rfl) (by decide) rfl ?_
          refine ev_ic (v := 2) (q_cod qk300 rfl) (by decide) (by decide) ?_
          refine ev_iload (q_cod qk300 rfl) (by decide) rfl ?_
          refine ev_ic (v := 4) (q_cod qk300 rfl) (by decide) (by decide) ?_
          refine ev_aload_n (q_cod qk300 rfl) (by decide) rfl ?_
          refine ev_ic (v := 0) (q_cod qk300 rfl) (by decide) (by decide) ?_
          refine ev_iload (q_cod qk300 rfl) (by decide) rfl ?_
          refine ev_ic (v := 5) (q_cod qk300 rfl) (by decide) (by decide) ?_
          obtain ⟨g7, hf⟩ := m_aK_some hf
          refine em_call (v := (fun u => some (.int u))) (q_cod qk300 rfl) rfl rfl (q_cokV rfl rfl (Or.inr g7)) rfl (fun x e => f196_cl e) hf (fun v8 h hf => ?_)
          obtain ⟨g9, hf⟩ := m_aK_some hf
          refine em_call (v := (fun _ => none)) (q_cod qk300 rfl) rfl rfl (q_cokV rfl rfl (Or.inr g9)) rfl (fun x e => f197_cl e) hf (fun _ h hf => ?_)
          refine ev_aload_n (q_cod qk300 rfl) (by decide) rfl ?_
          refine ev_ic (v := 2) (q_cod qk300 rfl) (by decide) (by decide) ?_
          refine ev_iload (q_cod qk300 rfl) (by decide) rfl ?_
          refine ev_bi (v := 6) (q_cod qk300 rfl) (by decide) (by decide) ?_
          refine ev_aload_n (q_cod qk300 rfl) (by decide) rfl ?_
          refine ev_ic (v := 0) (q_cod qk300 rfl) (by decide) (by decide) ?_
          refine ev_iload (q_cod qk300 rfl) (by decide) rfl ?_
          refine ev_bi (v := 7) (q_cod qk300 rfl) (by decide) (by decide) ?_
          obtain ⟨g11, hf⟩ := m_aK_some hf
          refine em_call (v := (fun u => some (.int u))) (q_cod qk300 rfl) rfl rfl (q_cokV rfl rfl (Or.inr g11)) rfl (fun x e => f196_cl e) hf (fun v12 h hf => ?_)
          obtain ⟨g13, hf⟩ := m_aK_some hf
          refine em_call (v := (fun _ => none)) (q_cod qk300 rfl) rfl rfl (q_cokV rfl rfl (Or.inr g13)) rfl (fun x e => f197_cl e) hf (fun _ h hf => ?_)
          exact (f300_206_ok hf hK)
        · exact (f300_206_ok hf hK)
      · exact (f300_206_ok hf hK)
  · obtain ⟨y0, hf0, hx⟩ := m_inr_some hf
    subst hx
    exact ev_weak (q_pk [0, 3] rfl) (f300_269_ok hf0 hK)
def f300_131 (l0 : Nat) (l2 : Int32) (l4 : Int32) (l5 : Int32) (l6 : Int32) : m_M Int32 := m_W (fun s => f300_131b (s.1) (s.2.1) (s.2.2.1) (s.2.2.2.1) (s.2.2.2.2)) 1000000 (l0, l2, l4, l5, l6)
theorem f300_131_ok {l0 : Nat} {l2 : Int32} {l4 : Int32} {l5 : Int32} {l6 : Int32} {h : q_H} {o : q_O} {hz : q_H} {x : Int32 × q_H} (hf : f300_131 l0 l2 l4 l5 l6 h = some x) (hK : (q_KI o hz) x) : q_Ev none 300 131 [(0, .ref l0), (2, .int l2), (4, .int l4), (5, .int l5), (6, .int l6)] [] h o hz :=
  m_W_ok (P := (fun (s : Nat × Int32 × Int32 × Int32 × Int32) (h : q_H) => q_Ev none 300 131 [(0, .ref (s.1)), (2, .int (s.2.1)), (4, .int (s.2.2.1)), (5, .int (s.2.2.2.1)), (6, .int (s.2.2.2.2))] [] h o hz)) (K := (q_KI o hz)) (fun s h x h1 h2 => f300_131b_ok h1 h2) _ (l0, l2, l4, l5, l6) _ _ hf hK
def f300_53 (l0 : Nat) (l1 : Int32) (l2 : Int32) (s0 : Nat) (s1 : Int32) : m_M Int32 :=
  m_B (m_aK s0 12) (fun _ => m_B (f178 s0 s1) (fun v2 => if v2 = 0 then (m_B (m_aK l0 12) (fun _ => m_B (f196 l0 0 l1 3) (fun v4 => m_B (m_aK l0 12) (fun _ => m_B (f255 l0 0 l1) (fun _ => m_B (m_aK l0 12) (fun _ => m_B (f297 l0 l2) (fun v8 => if v8 = 0 then (m_B (m_aK l0 12) (fun _ => m_B (f196 l0 0 l1 2) (fun v10 => m_B (m_aK l0 12) (fun _ => m_B (f257 l0 0 v10 (v4 - 1)) (fun v12 => if v12 = 0 then (m_R (-1)) else (m_B (m_aK l0 12) (fun _ => m_B (f298 l0 l2) (fun v14 => if v14 = 0 then (m_R (-7)) else (m_B (m_aK l0 12) (fun _ => m_B (f203 l0 0 2) (fun _ => f300_131 l0 l2 v4 0 0))))))))))) else (m_R (-9))))))))) else (m_R 0)))
set_option maxRecDepth 20000 in
theorem f300_53_ok {l0 : Nat} {l1 : Int32} {l2 : Int32} {s0 : Nat} {s1 : Int32} {h : q_H} {o : q_O} {hz : q_H} {x : Int32 × q_H} (hf : f300_53 l0 l1 l2 s0 s1 h = some x) (hK : (q_KI o hz) x) : q_Ev none 300 53 [(0, .ref l0), (1, .int l1), (2, .int l2)] [.int s1, .ref s0] h o hz := by
  unfold f300_53 at hf
  obtain ⟨g1, hf⟩ := m_aK_some hf
  refine em_call (v := (fun u => some (.int u))) (q_cod qk300 rfl) rfl rfl (q_cokV rfl rfl (Or.inr g1)) rfl (fun x e => f178_cl e) hf (fun v2 h hf => ?_)
  refine em_if_eq (q_cod qk300 rfl) (by decide) hf (fun c20 hf => ?_) (fun c20 hf => ?_)
  · refine ev_aload_n (q_cod qk300 rfl) (by decide) rfl ?_
    refine ev_ic (v := 0) (q_cod qk300 rfl) (by decide) (by decide) ?_
    refine ev_iload_n (q_cod qk300 rfl) (by decide) rfl ?_
    refine ev_ic (v := 3) (q_cod qk300 rfl) (by decide) (by decide) ?_
    obtain ⟨g3, hf⟩ := m_aK_some hf
    refine em_call (v := (fun u => some (.int u))) (q_cod qk300 rfl) rfl rfl (q_cokV rfl rfl (Or.inr g3)) rfl (fun x e => f196_cl e) hf (fun v4 h hf => ?_)
    refine ev_is2 (L' := [(0, .ref l0), (1, .int l1), (2, .int l2), (4, .int v4)]) (q_cod qk300 rfl) (by decide) rfl ?_
    refine ev_aload_n (q_cod qk300 rfl) (by decide) rfl ?_
    refine ev_ic (v := 0) (q_cod qk300 rfl) (by decide) (by decide) ?_
    refine ev_iload_n (q_cod qk300 rfl) (by decide) rfl ?_
    obtain ⟨g5, hf⟩ := m_aK_some hf
    refine em_call (v := (fun _ => none)) (q_cod qk300 rfl) rfl rfl (q_cokV rfl rfl (Or.inr g5)) rfl (fun x e => f255_cl e) hf (fun _ h hf => ?_)
    refine ev_aload_n (q_cod qk300 rfl) (by decide) rfl ?_
    refine ev_iload_n (q_cod qk300 rfl) (by decide) rfl ?_
    obtain ⟨g7, hf⟩ := m_aK_some hf
    refine em_call (v := (fun u => some (.int u))) (q_cod qk300 rfl) rfl rfl (q_cokV rfl rfl (Or.inr g7)) rfl (fun x e => f297_cl e) hf (fun v8 h hf => ?_)
    refine em_if_eq (q_cod qk300 rfl) (by decide) hf (fun c19 hf => ?_) (fun c19 hf => ?_)
    · refine ev_aload_n (q_cod qk300 rfl) (by decide) rfl ?_
      refine ev_ic (v := 0) (q_cod qk300 rfl) (by decide) (by decide) ?_
      refine ev_aload_n (q_cod qk300 rfl) (by decide) rfl ?_
      refine ev_ic (v := 0) (q_cod qk300 rfl) (by decide) (by decide) ?_
      refine ev_iload_n (q_cod qk300 rfl) (by decide) rfl ?_
      refine ev_ic (v := 2) (q_cod qk300 rfl) (by decide) (by decide) ?_
      obtain ⟨g9, hf⟩ := m_aK_some hf
      refine em_call (v := (fun u => some (.int u))) (q_cod qk300 rfl) rfl rfl (q_cokV rfl rfl (Or.inr g9)) rfl (fun x e => f196_cl e) hf (fun v10 h hf => ?_)
      refine ev_iload (q_cod qk300 rfl) (by decide) rfl ?_
      refine ev_ic (v := 1) (q_cod qk300 rfl) (by decide) (by decide) ?_
      refine ev_isub (q_cod qk300 rfl) (by decide) ?_
      obtain ⟨g11, hf⟩ := m_aK_some hf
      refine em_call (v := (fun u => some (.int u))) (q_cod qk300 rfl) rfl rfl (q_cokV rfl rfl (Or.inr g11)) rfl (fun x e => f257_cl e) hf (fun v12 h hf => ?_)
      refine em_if_ne (q_cod qk300 rfl) (by decide) hf (fun c18 hf => ?_) (fun c18 hf => ?_)
      · refine ev_ic (v := (-1)) (q_cod qk300 rfl) (by decide) (by decide) ?_
        obtain rfl := m_R_inv hf
        obtain ⟨rfl, rfl⟩ := (show q_KI o hz ((-1), _) from hK)
        exact ev_ret (q_cod qk300 rfl) rfl
      · refine ev_aload_n (q_cod qk300 rfl) (by decide) rfl ?_
        refine ev_iload_n (q_cod qk300 rfl) (by decide) rfl ?_
        obtain ⟨g13, hf⟩ := m_aK_some hf
        refine em_call (v := (fun u => some (.int u))) (q_cod qk300 rfl) rfl rfl (q_cokV rfl rfl (Or.inr g13)) rfl (fun x e => f298_cl e) hf (fun v14 h hf => ?_)
        refine em_if_ne (q_cod qk300 rfl) (by decide) hf (fun c17 hf => ?_) (fun c17 hf => ?_)
        · refine ev_bi (v := (-7)) (q_cod qk300 rfl) (by decide) (by decide) ?_
          obtain rfl := m_R_inv hf
          obtain ⟨rfl, rfl⟩ := (show q_KI o hz ((-7), _) from hK)
          exact ev_ret (q_cod qk300 rfl) rfl
        · refine ev_aload_n (q_cod qk300 rfl) (by decide) rfl ?_
          refine ev_ic (v := 0) (q_cod qk300 rfl) (by decide) (by decide) ?_
          refine ev_ic (v := 2) (q_cod qk300 rfl) (by decide) (by decide) ?_
          obtain ⟨g15, hf⟩ := m_aK_some hf
          refine em_call (v := (fun _ => none)) (q_cod qk300 rfl) rfl rfl (q_cokV rfl rfl (Or.inr g15)) rfl (fun x e => f203_cl e) hf (fun _ h hf => ?_)
          refine ev_ic (v := 0) (q_cod qk300 rfl) (by decide) (by decide) ?_
          refine ev_is2 (L' := [(0, .ref l0), (1, .int l1), (2, .int l2), (4, .int v4), (5, .int 0)]) (q_cod qk300 rfl) (by decide) rfl ?_
          refine ev_ic (v := 0) (q_cod qk300 rfl) (by decide) (by decide) ?_
          refine ev_is2 (L' := [(0, .ref l0), (1, .int l1), (2, .int l2), (4, .int v4), (5, .int 0), (6, .int 0)]) (q_cod qk300 rfl) (by decide) rfl ?_
          exact ev_weak (q_pk [0, 2, 3, 4, 5] rfl) (f300_131_ok hf hK)
    · refine ev_bi (v := (-9)) (q_cod qk300 rfl) (by decide) (by decide) ?_
      obtain rfl := m_R_inv hf
      obtain ⟨rfl, rfl⟩ := (show q_KI o hz ((-9), _) from hK)
      exact ev_ret (q_cod qk300 rfl) rfl
  · refine ev_ic (v := 0) (q_cod qk300 rfl) (by decide) (by decide) ?_
    obtain rfl := m_R_inv hf
    obtain ⟨rfl, rfl⟩ := (show q_KI o hz (0, _) from hK)
    exact ev_ret (q_cod qk300 rfl) rfl
def f300_31 (l0 : Nat) (l1 : Int32) (l2 : Int32) (s0 : Int32) : m_M Int32 :=
  if s0 = 0 then (f300_53 l0 l1 l2 l0 1) else (m_B (m_aK l0 12) (fun _ => m_B (f272 l0) (fun v2 => if v2 = 0 then (f300_53 l0 l1 l2 l0 2) else (f300_53 l0 l1 l2 l0 0))))
set_option maxRecDepth 20000 in
theorem f300_31_ok {l0 : Nat} {l1 : Int32} {l2 : Int32} {s0 : Int32} {h : q_H} {o : q_O} {hz : q_H} {x : Int32 × q_H} (hf : f300_31 l0 l1 l2 s0 h = some x) (hK : (q_KI o hz) x) : q_Ev none 300 31 [(0, .ref l0), (1, .int l1), (2, .int l2)] [.int s0] h o hz := by
  unfold f300_31 at hf
  refine ev_is1 (L' := [(0, .ref l0), (1, .int l1), (2, .int l2), (3, .int s0)]) (q_cod qk300 rfl) (by decide) rfl ?_
  refine ev_aload_n (q_cod qk300 rfl) (by decide) rfl ?_
  refine ev_iload_n (q_cod qk300 rfl) (by decide) rfl ?_
  refine em_if_ne (q_cod qk300 rfl) (by decide) hf (fun c4 hf => ?_) (fun c4 hf => ?_)
  · refine ev_ic (v := 1) (q_cod qk300 rfl) (by decide) (by decide) ?_
    refine ev_goto (q_cod qk300 rfl) (by decide) ?_
    exact ev_weak (q_pk [0, 1, 2] rfl) (f300_53_ok hf hK)
  · refine ev_aload_n (q_cod qk300 rfl) (by decide) rfl ?_
    obtain ⟨g1, hf⟩ := m_aK_some hf
    refine em_call (v := (fun u => some (.int u))) (q_cod qk300 rfl) rfl rfl (q_cokV rfl rfl (Or.inr g1)) rfl (fun x e => f272_cl e) hf (fun v2 h hf => ?_)
    refine em_if_ne (q_cod qk300 rfl) (by decide) hf (fun c3 hf => ?_) (fun c3 hf => ?_)
    · refine ev_ic (v := 2) (q_cod qk300 rfl) (by decide) (by decide) ?_
      refine ev_goto (q_cod qk300 rfl) (by decide) ?_
      exact ev_weak (q_pk [0, 1, 2] rfl) (f300_53_ok hf hK)
    · refine ev_ic (v := 0) (q_cod qk300 rfl) (by decide) (by decide) ?_
      exact ev_weak (q_pk [0, 1, 2] rfl) (f300_53_ok hf hK)
def f300_30 (l0 : Nat) (l1 : Int32) (l2 : Int32) : m_M Int32 :=
  f300_31 l0 l1 l2 0
set_option maxRecDepth 20000 in
theorem f300_30_ok {l0 : Nat} {l1 : Int32} {l2 : Int32} {h : q_H} {o : q_O} {hz : q_H} {x : Int32 × q_H} (hf : f300_30 l0 l1 l2 h = some x) (hK : (q_KI o hz) x) : q_Ev none 300 30 [(0, .ref l0), (1, .int l1), (2, .int l2)] [] h o hz := by
  unfold f300_30 at hf
  refine ev_ic (v := 0) (q_cod qk300 rfl) (by decide) (by decide) ?_
  exact (f300_31_ok hf hK)
def f300 (l0 : Nat) (l1 : Int32) (l2 : Int32) : m_M Int32 :=
  m_B (m_aK l0 12) (fun _ => m_B (f206 l0 0 l1) (fun v2 => if v2 = 0 then (f300_30 l0 l1 l2) else (m_B (m_aK l0 12) (fun _ => m_B (f196 l0 0 l1 3) (fun v4 => m_B (f179 l2 0 (v4 - 1)) (fun v5 => if v5 = 0 then (f300_30 l0 l1 l2) else (f300_31 l0 l1 l2 1)))))))
set_option maxRecDepth 20000 in
theorem f300_ok {l0 : Nat} {l1 : Int32} {l2 : Int32} {h : q_H} {o : q_O} {hz : q_H} {x : Int32 × q_H} (hf : f300 l0 l1 l2 h = some x) (hK : (q_KI o hz) x) : q_Ev none 300 0 [(0, .ref l0), (1, .int l1), (2, .int l2)] [] h o hz := by
  unfold f300 at hf
  refine ev_aload_n (q_cod qk300 rfl) (by decide) rfl ?_
  refine ev_ic (v := 0) (q_cod qk300 rfl) (by decide) (by decide) ?_
  refine ev_iload_n (q_cod qk300 rfl) (by decide) rfl ?_
  obtain ⟨g1, hf⟩ := m_aK_some hf
  refine em_call (v := (fun u => some (.int u))) (q_cod qk300 rfl) rfl rfl (q_cokV rfl rfl (Or.inr g1)) rfl (fun x e => f206_cl e) hf (fun v2 h hf => ?_)
  refine em_if_eq (q_cod qk300 rfl) (by decide) hf (fun c7 hf => ?_) (fun c7 hf => ?_)
  · exact (f300_30_ok hf hK)
  · refine ev_iload_n (q_cod qk300 rfl) (by decide) rfl ?_
    refine ev_ic (v := 0) (q_cod qk300 rfl) (by decide) (by decide) ?_
    refine ev_aload_n (q_cod qk300 rfl) (by decide) rfl ?_
    refine ev_ic (v := 0) (q_cod qk300 rfl) (by decide) (by decide) ?_
    refine ev_iload_n (q_cod qk300 rfl) (by decide) rfl ?_
    refine ev_ic (v := 3) (q_cod qk300 rfl) (by decide) (by decide) ?_
    obtain ⟨g3, hf⟩ := m_aK_some hf
    refine em_call (v := (fun u => some (.int u))) (q_cod qk300 rfl) rfl rfl (q_cokV rfl rfl (Or.inr g3)) rfl (fun x e => f196_cl e) hf (fun v4 h hf => ?_)
    refine ev_ic (v := 1) (q_cod qk300 rfl) (by decide) (by decide) ?_
    refine ev_isub (q_cod qk300 rfl) (by decide) ?_
    refine em_call (v := (fun u => some (.int u))) (q_cod qk300 rfl) rfl rfl (q_cokS rfl rfl) rfl (fun x e => f179_cl e) hf (fun v5 h hf => ?_)
    refine em_if_eq (q_cod qk300 rfl) (by decide) hf (fun c6 hf => ?_) (fun c6 hf => ?_)
    · exact (f300_30_ok hf hK)
    · refine ev_ic (v := 1) (q_cod qk300 rfl) (by decide) (by decide) ?_
      refine ev_goto (q_cod qk300 rfl) (by decide) ?_
      exact (f300_31_ok hf hK)
theorem f300_cl {l0 : Nat} {l1 : Int32} {l2 : Int32} {h : q_H} {x : Int32 × q_H} (hf : f300 l0 l1 l2 h = some x) : q_Cl 300 [.ref l0, .int l1, .int l2] h (.inl (some (.int x.1))) x.2 := q_Cl.of rfl (q_LvS rfl rfl) (f300_ok hf ⟨rfl, rfl⟩)
/-! SmithyBenchModel.pullUp(I)I -/
theorem qk301 : q_cs.getD 301 [] = qc_301 := rfl
def f301_26 (l0 : Nat) (l1 : Int32) (s0 : Nat) (s1 : Int32) : m_M Int32 :=
  m_B (m_aK s0 12) (fun _ => m_B (f178 s0 s1) (fun v2 => if v2 = 0 then (m_B (m_aK l0 12) (fun _ => m_B (f196 l0 0 l1 1) (fun v4 => m_B (m_aK l0 12) (fun _ => m_B (f207 l0 0 v4) (fun v6 => if v6 = (-1) then (m_R (-10)) else (m_B (m_aK l0 12) (fun _ => m_B (f196 l0 0 l1 2) (fun v8 => m_B (m_aK l0 12) (fun _ => m_B (f196 l0 0 l1 3) (fun v10 => m_B (m_aK l0 12) (fun _ => m_B (f213 l0 0 v6 v8 v10) (fun v12 => if v12 = (-1) then (m_B (m_aK l0 12) (fun _ => m_B (f283 l0 v6 v8 v10) (fun v14 => if v14 = 0 then (m_B (m_aK l0 12) (fun _ => m_B (f203 l0 0 2) (fun _ => m_B (m_aK l0 12) (fun _ => m_B (f197 l0 2 l1 1 v6) (fun _ => m_B (m_aK l0 12) (fun _ => m_B (f235 l0 2) (fun v20 => if v20 = (-1) then (m_B (m_aK l0 12) (fun _ => m_B (f271 l0) (fun v22 => m_R v6))) else (m_R (-8))))))))) else (m_R (-11))))) else (m_R (-1)))))))))))))) else (m_R 0)))
theorem f301_26_ok {l0 : Nat} {l1 : Int32} {s0 : Nat} {s1 : Int32} {h : q_H} {o : q_O} {hz : q_H} {x : Int32 × q_H} (hf : f301_26 l0 l1 s0 s1 h = some x) (hK : (q_KI o hz) x) : q_Ev none 301 26 [(0, .ref l0), (1, .int l1)] [.int s1, .ref s0] h o hz := by
  unfold f301_26 at hf
  obtain ⟨g1, hf⟩ := m_aK_some hf
  refine em_call (v := (fun u => some (.int u))) (q_cod qk301 rfl) rfl rfl (q_cokV rfl rfl (Or.inr g1)) rfl (fun x e => f178_cl e) hf (fun v2 h hf => ?_)
  refine em_if_eq (q_cod qk301 rfl) (by decide) hf (fun c27 hf => ?_) (fun c27 hf => ?_)
  · refine ev_aload_n (q_cod qk301 rfl) (by decide) rfl ?_
    refine ev_ic (v := 0) (q_cod qk301 rfl) (by decide) (by decide) ?_
    refine ev_aload_n (q_cod qk301 rfl) (by decide) rfl ?_
    refine ev_ic (v := 0) (q_cod qk301 rfl) (by decide) (by decide) ?_
    refine ev_iload_n (q_cod qk301 rfl) (by decide) rfl ?_
    refine ev_ic (v := 1) (q_cod qk301 rfl) (by decide) (by decide) ?_
    obtain ⟨g3, hf⟩ := m_aK_some hf
    refine em_call (v := (fun u => some (.int u))) (q_cod qk301 rfl) rfl rfl (q_cokV rfl rfl (Or.inr g3)) rfl (fun x e => f196_cl e) hf (fun v4 h hf => ?_)
    obtain ⟨g5, hf⟩ := m_aK_some hf
    refine em_call (v := (fun u => some (.int u))) (q_cod qk301 rfl) rfl rfl (q_cokV rfl rfl (Or.inr g5)) rfl (fun x e => f207_cl e) hf (fun v6 h hf => ?_)
    refine ev_is1 (L' := [(0, .ref l0), (1, .int l1), (2, .int v6)]) (q_cod qk301 rfl) (by decide) rfl ?_
    refine ev_iload_n (q_cod qk301 rfl) (by decide) rfl ?_
    refine ev_ic (v := (-1)) (q_cod qk301 rfl) (by decide) (by decide) ?_
    refine em_ic_ne (q_cod qk301 rfl) (by decide) hf (fun c26 hf => ?_) (fun c26 hf => ?_)
    · refine ev_bi (v := (-10)) (q_cod qk301 rfl) (by decide) (by decide) ?_
      obtain rfl := m_R_inv hf
      obtain ⟨rfl, rfl⟩ := (show q_KI o hz ((-10), _) from hK)
      exact ev_ret (q_cod qk301 rfl) rfl
    · refine ev_aload_n (q_cod qk301 rfl) (by decide) rfl ?_
      refine ev_ic (v := 0) (q_cod qk301 rfl) (by decide) (by decide) ?_
      refine ev_iload_n (q_cod qk301 rfl) (by decide) rfl ?_
      refine ev_ic (v := 2) (q_cod qk301 rfl) (by decide) (by decide) ?_
      obtain ⟨g7, hf⟩ := m_aK_some hf
      refine em_call (v := (fun u => some (.int u))) (q_cod qk301 rfl) rfl rfl (q_cokV rfl rfl (Or.inr g7)) rfl (fun x e => f196_cl e) hf (fun v8 h hf => ?_)
      refine ev_is1 (L' := [(0, .ref l0), (1, .int l1), (2, .int v6), (3, .int v8)]) (q_cod qk301 rfl) (by decide) rfl ?_
      refine ev_aload_n (q_cod qk301 rfl) (by decide) rfl ?_
      refine ev_ic (v := 0) (q_cod qk301 rfl) (by decide) (by decide) ?_
      refine ev_iload_n (q_cod qk301 rfl) (by decide) rfl ?_
      refine ev_ic (v := 3) (q_cod qk301 rfl) (by decide) (by decide) ?_
      obtain ⟨g9, hf⟩ := m_aK_some hf
      refine em_call (v := (fun u => some (.int u))) (q_cod qk301 rfl) rfl rfl (q_cokV rfl rfl (Or.inr g9)) rfl (fun x e => f196_cl e) hf (fun v10 h hf => ?_)
      refine ev_is2 (L' := [(0, .ref l0), (1, .int l1), (2, .int v6), (3, .int v8), (4, .int v10)]) (q_cod qk301 rfl) (by decide) rfl ?_
      refine ev_aload_n (q_cod qk301 rfl) (by decide) rfl ?_
      refine ev_ic (v := 0) (q_cod qk301 rfl) (by decide) (by decide) ?_
      refine ev_iload_n (q_cod qk301 rfl) (by decide) rfl ?_
      refine ev_iload_n (q_cod qk301 rfl) (by decide) rfl ?_
      refine ev_iload (q_cod qk301 rfl) (by decide) rfl ?_
      obtain ⟨g11, hf⟩ := m_aK_some hf
      refine em_call (v := (fun u => some (.int u))) (q_cod qk301 rfl) rfl rfl (q_cokV rfl rfl (Or.inr g11)) rfl (fun x e => f213_cl e) hf (fun v12 h hf => ?_)
      refine ev_ic (v := (-1)) (q_cod qk301 rfl) (by decide) (by decide) ?_
      refine em_ic_eq (q_cod qk301 rfl) (by decide) hf (fun c25 hf => ?_) (fun c25 hf => ?_)
      · refine ev_aload_n (q_cod qk301 rfl) (by decide) rfl ?_
        refine ev_iload_n (q_cod qk301 rfl) (by decide) rfl ?_
        refine ev_iload_n (q_cod qk301 rfl) (by decide) rfl ?_
        refine ev_iload (q_cod qk301 rfl) (by decide) rfl ?_
        obtain ⟨g13, hf⟩ := m_aK_some hf
        refine em_call (v := (fun u => some (.int u))) (q_cod qk301 rfl) rfl rfl (q_cokV rfl rfl (Or.inr g13)) rfl (fun x e => f283_cl e) hf (fun v14 h hf => ?_)
        refine em_if_eq (q_cod qk301 rfl) (by decide) hf (fun c24 hf => ?_) (fun c24 hf => ?_)
        · refine ev_aload_n (q_cod qk301 rfl) (by decide) rfl ?_
          refine ev_ic (v := 0) (q_cod qk301 rfl) (by decide) (by decide) ?_
          refine ev_ic (v := 2) (q_cod qk301 rfl) (by decide) (by decide) ?_
          obtain ⟨g15, hf⟩ := m_aK_some hf
          refine em_call (v := (fun _ => none)) (q_cod qk301 rfl) rfl rfl (q_cokV rfl rfl (Or.inr g15)) rfl (fun x e => f203_cl e) hf (fun _ h hf => ?_)
          refine ev_aload_n (q_cod qk301 rfl) (by decide) rfl ?_
          refine ev_ic (v := 2) (q_cod qk301 rfl) (by decide) (by decide) ?_
          refine ev_iload_n (q_cod qk301 rfl) (by decide) rfl ?_
          refine ev_ic (v := 1) (q_cod qk301 rfl) (by decide) (by decide) ?_
          refine ev_iload_n (q_cod qk301 rfl) (by decide) rfl ?_
          obtain ⟨g17, hf⟩ := m_aK_some hf
          refine em_call (v := (fun _ => none)) (q_cod qk301 rfl) rfl rfl (q_cokV rfl rfl (Or.inr g17)) rfl (fun x e => f197_cl e) hf (fun _ h hf => ?_)
          refine ev_aload_n (q_cod qk301 rfl) (by decide) rfl ?_
          refine ev_ic (v := 2) (q_cod qk301 rfl) (by decide) (by decide) ?_
          obtain ⟨g19, hf⟩ := m_aK_some hf
          refine em_call (v := (fun u => some (.int u))) (q_cod qk301 rfl) rfl rfl (q_cokV rfl rfl (Or.inr g19)) rfl (fun x e => f235_cl e) hf (fun v20 h hf => ?_)
          refine ev_ic (v := (-1)) (q_cod qk301 rfl) (by decide) (by decide) ?_
          refine em_ic_eq (q_cod qk301 rfl) (by decide) hf (fun c23 hf => ?_) (fun c23 hf => ?_)
          · refine ev_aload_n (q_cod qk301 rfl) (by decide) rfl ?_
            obtain ⟨g21, hf⟩ := m_aK_some hf
            refine em_call (v := (fun u => some (.int u))) (q_cod qk301 rfl) rfl rfl (q_cokV rfl rfl (Or.inr g21)) rfl (fun x e => f271_cl e) hf (fun v22 h hf => ?_)
            refine ev_is2 (L' := [(0, .ref l0), (1, .int l1), (2, .int v6), (3, .int v8), (4, .int v10), (5, .int v22)]) (q_cod qk301 rfl) (by decide) rfl ?_
            refine ev_iload_n (q_cod qk301 rfl) (by decide) rfl ?_
            obtain rfl := m_R_inv hf
            obtain ⟨rfl, rfl⟩ := (show q_KI o hz (v6, _) from hK)
            exact ev_ret (q_cod qk301 rfl) rfl
          · refine ev_bi (v := (-8)) (q_cod qk301 rfl) (by decide) (by decide) ?_
            obtain rfl := m_R_inv hf
            obtain ⟨rfl, rfl⟩ := (show q_KI o hz ((-8), _) from hK)
            exact ev_ret (q_cod qk301 rfl) rfl
        · refine ev_bi (v := (-11)) (q_cod qk301 rfl) (by decide) (by decide) ?_
          obtain rfl := m_R_inv hf
          obtain ⟨rfl, rfl⟩ := (show q_KI o hz ((-11), _) from hK)
          exact ev_ret (q_cod qk301 rfl) rfl
      · refine ev_ic (v := (-1)) (q_cod qk301 rfl) (by decide) (by decide) ?_
        obtain rfl := m_R_inv hf
        obtain ⟨rfl, rfl⟩ := (show q_KI o hz ((-1), _) from hK)
        exact ev_ret (q_cod qk301 rfl) rfl
  · refine ev_ic (v := 0) (q_cod qk301 rfl) (by decide) (by decide) ?_
    obtain rfl := m_R_inv hf
    obtain ⟨rfl, rfl⟩ := (show q_KI o hz (0, _) from hK)
    exact ev_ret (q_cod qk301 rfl) rfl
def f301 (l0 : Nat) (l1 : Int32) : m_M Int32 :=
  m_B (m_aK l0 12) (fun _ => m_B (f206 l0 0 l1) (fun v2 => if v2 = 0 then (f301_26 l0 l1 l0 1) else (m_B (m_aK l0 12) (fun _ => m_B (f272 l0) (fun v4 => if v4 = 0 then (f301_26 l0 l1 l0 2) else (f301_26 l0 l1 l0 0))))))
theorem f301_ok {l0 : Nat} {l1 : Int32} {h : q_H} {o : q_O} {hz : q_H} {x : Int32 × q_H} (hf : f301 l0 l1 h = some x) (hK : (q_KI o hz) x) : q_Ev none 301 0 [(0, .ref l0), (1, .int l1)] [] h o hz := by
  unfold f301 at hf
  refine ev_aload_n (q_cod qk301 rfl) (by decide) rfl ?_
  refine ev_aload_n (q_cod qk301 rfl) (by decide) rfl ?_
  refine ev_ic (v := 0) (q_cod qk301 rfl) (by decide) (by decide) ?_
  refine ev_iload_n (q_cod qk301 rfl) (by decide) rfl ?_
  obtain ⟨g1, hf⟩ := m_aK_some hf
  refine em_call (v := (fun u => some (.int u))) (q_cod qk301 rfl) rfl rfl (q_cokV rfl rfl (Or.inr g1)) rfl (fun x e => f206_cl e) hf (fun v2 h hf => ?_)
  refine em_if_ne (q_cod qk301 rfl) (by decide) hf (fun c6 hf => ?_) (fun c6 hf => ?_)
  · refine ev_ic (v := 1) (q_cod qk301 rfl) (by decide) (by decide) ?_
    refine ev_goto (q_cod qk301 rfl) (by decide) ?_
    exact (f301_26_ok hf hK)
  · refine ev_aload_n (q_cod qk301 rfl) (by decide) rfl ?_
    obtain ⟨g3, hf⟩ := m_aK_some hf
    refine em_call (v := (fun u => some (.int u))) (q_cod qk301 rfl) rfl rfl (q_cokV rfl rfl (Or.inr g3)) rfl (fun x e => f272_cl e) hf (fun v4 h hf => ?_)
    refine em_if_ne (q_cod qk301 rfl) (by decide) hf (fun c5 hf => ?_) (fun c5 hf => ?_)
    · refine ev_ic (v := 2) (q_cod qk301 rfl) (by decide) (by decide) ?_
      refine ev_goto (q_cod qk301 rfl) (by decide) ?_
      exact (f301_26_ok hf hK)
    · refine ev_ic (v := 0) (q_cod qk301 rfl) (by decide) (by decide) ?_
      exact (f301_26_ok hf hK)
theorem f301_cl {l0 : Nat} {l1 : Int32} {h : q_H} {x : Int32 × q_H} (hf : f301 l0 l1 h = some x) : q_Cl 301 [.ref l0, .int l1] h (.inl (some (.int x.1))) x.2 := q_Cl.of rfl (q_LvS rfl rfl) (f301_ok hf ⟨rfl, rfl⟩)
/-! SmithyBenchModel.isNeededAbove(I)Z -/
theorem qk302 : q_cs.getD 302 [] = qc_302 := rfl
def f302_131 (l0 : Nat) (l1 : Int32) (l2 : Int32) (l4 : Int32) (l5 : Int32) (s0 : Int32) : m_M ((Nat × Int32 × Int32 × Int32 × Int32 × Int32) ⊕ ((Nat × Int32 × Int32 × Int32 × Int32) ⊕ Int32)) :=
  m_R (.inl (l0, l1, l2, s0, l4, (l5 + 1)))
theorem f302_131_ok {l0 : Nat} {l1 : Int32} {l2 : Int32} {l4 : Int32} {l5 : Int32} {s0 : Int32} {h : q_H} {o : q_O} {hz : q_H} {x : ((Nat × Int32 × Int32 × Int32 × Int32 × Int32) ⊕ ((Nat × Int32 × Int32 × Int32 × Int32) ⊕ Int32)) × q_H} (hf : f302_131 l0 l1 l2 l4 l5 s0 h = some x) (hK : (m_yK (fun (s : Nat × Int32 × Int32 × Int32 × Int32 × Int32) (h : q_H) => q_Ev none 302 25 [(0, .ref (s.1)), (1, .int (s.2.1)), (2, .int (s.2.2.1)), (3, .int (s.2.2.2.1)), (4, .int (s.2.2.2.2.1)), (5, .int (s.2.2.2.2.2))] [] h o hz) (m_yK (fun (s : Nat × Int32 × Int32 × Int32 × Int32) (h : q_H) => q_Ev none 302 13 [(0, .ref (s.1)), (1, .int (s.2.1)), (2, .int (s.2.2.1)), (3, .int (s.2.2.2.1)), (4, .int (s.2.2.2.2))] [] h o hz) (q_KI o hz))) x) : q_Ev none 302 131 [(0, .ref l0), (1, .int l1), (2, .int l2), (4, .int l4), (5, .int l5)] [.int s0] h o hz := by
  unfold f302_131 at hf
  refine ev_is1 (L' := [(0, .ref l0), (1, .int l1), (2, .int l2), (3, .int s0), (4, .int l4), (5, .int l5)]) (q_cod qk302 rfl) (by decide) rfl ?_
  refine ev_inc (v := l5 + 1) (L' := [(0, .ref l0), (1, .int l1), (2, .int l2), (3, .int s0), (4, .int l4), (5, .int (l5 + 1))]) (q_cod qk302 rfl) (by decide) rfl rfl rfl ?_
  refine ev_goto (q_cod qk302 rfl) (by decide) ?_
  obtain rfl := m_R_inv hf
  exact (show q_Ev none 302 25 [(0, .ref l0), (1, .int l1), (2, .int l2), (3, .int s0), (4, .int l4), (5, .int (l5 + 1))] [] _ o hz from hK)
def f302_126 (l0 : Nat) (l1 : Int32) (l2 : Int32) (l4 : Int32) (l5 : Int32) : m_M ((Nat × Int32 × Int32 × Int32 × Int32 × Int32) ⊕ ((Nat × Int32 × Int32 × Int32 × Int32) ⊕ Int32)) :=
  f302_131 l0 l1 l2 l4 l5 1
theorem f302_126_ok {l0 : Nat} {l1 : Int32} {l2 : Int32} {l4 : Int32} {l5 : Int32} {h : q_H} {o : q_O} {hz : q_H} {x : ((Nat × Int32 × Int32 × Int32 × Int32 × Int32) ⊕ ((Nat × Int32 × Int32 × Int32 × Int32) ⊕ Int32)) × q_H} (hf : f302_126 l0 l1 l2 l4 l5 h = some x) (hK : (m_yK (fun (s : Nat × Int32 × Int32 × Int32 × Int32 × Int32) (h : q_H) => q_Ev none 302 25 [(0, .ref (s.1)), (1, .int (s.2.1)), (2, .int (s.2.2.1)), (3, .int (s.2.2.2.1)), (4, .int (s.2.2.2.2.1)), (5, .int (s.2.2.2.2.2))] [] h o hz) (m_yK (fun (s : Nat × Int32 × Int32 × Int32 × Int32) (h : q_H) => q_Ev none 302 13 [(0, .ref (s.1)), (1, .int (s.2.1)), (2, .int (s.2.2.1)), (3, .int (s.2.2.2.1)), (4, .int (s.2.2.2.2))] [] h o hz) (q_KI o hz))) x) : q_Ev none 302 126 [(0, .ref l0), (1, .int l1), (2, .int l2), (4, .int l4), (5, .int l5)] [] h o hz := by
  unfold f302_126 at hf
  refine ev_ic (v := 1) (q_cod qk302 rfl) (by decide) (by decide) ?_
  refine ev_goto (q_cod qk302 rfl) (by decide) ?_
  exact (f302_131_ok hf hK)
def f302_130 (l0 : Nat) (l1 : Int32) (l2 : Int32) (l4 : Int32) (l5 : Int32) : m_M ((Nat × Int32 × Int32 × Int32 × Int32 × Int32) ⊕ ((Nat × Int32 × Int32 × Int32 × Int32) ⊕ Int32)) :=
  f302_131 l0 l1 l2 l4 l5 0
theorem f302_130_ok {l0 : Nat} {l1 : Int32} {l2 : Int32} {l4 : Int32} {l5 : Int32} {h : q_H} {o : q_O} {hz : q_H} {x : ((Nat × Int32 × Int32 × Int32 × Int32 × Int32) ⊕ ((Nat × Int32 × Int32 × Int32 × Int32) ⊕ Int32)) × q_H} (hf : f302_130 l0 l1 l2 l4 l5 h = some x) (hK : (m_yK (fun (s : Nat × Int32 × Int32 × Int32 × Int32 × Int32) (h : q_H) => q_Ev none 302 25 [(0, .ref (s.1)), (1, .int (s.2.1)), (2, .int (s.2.2.1)), (3, .int (s.2.2.2.1)), (4, .int (s.2.2.2.2.1)), (5, .int (s.2.2.2.2.2))] [] h o hz) (m_yK (fun (s : Nat × Int32 × Int32 × Int32 × Int32) (h : q_H) => q_Ev none 302 13 [(0, .ref (s.1)), (1, .int (s.2.1)), (2, .int (s.2.2.1)), (3, .int (s.2.2.2.1)), (4, .int (s.2.2.2.2))] [] h o hz) (q_KI o hz))) x) : q_Ev none 302 130 [(0, .ref l0), (1, .int l1), (2, .int l2), (4, .int l4), (5, .int l5)] [] h o hz := by
  unfold f302_130 at hf
  refine ev_ic (v := 0) (q_cod qk302 rfl) (by decide) (by decide) ?_
  exact (f302_131_ok hf hK)
def f302_83 (l0 : Nat) (l1 : Int32) (l2 : Int32) (l4 : Int32) (l5 : Int32) (l6 : Int32) : m_M ((Nat × Int32 × Int32 × Int32 × Int32 × Int32) ⊕ ((Nat × Int32 × Int32 × Int32 × Int32) ⊕ Int32)) :=
  if l6 = 7 then (m_B (m_aK l0 12) (fun _ => m_B (f268 l0 l4 l5) (fun v2 => if v2 = (2000 + l1) then (m_B (m_gR 12 l0 12) (fun r3 => m_B (m_lI r3 (((192 * l4) + l5) + 1)) (fun v4 => if v4 = l2 then (f302_126 l0 l1 l2 l4 l5) else (f302_130 l0 l1 l2 l4 l5)))) else (f302_130 l0 l1 l2 l4 l5)))) else (f302_130 l0 l1 l2 l4 l5)
theorem f302_83_ok {l0 : Nat} {l1 : Int32} {l2 : Int32} {l4 : Int32} {l5 : Int32} {l6 : Int32} {h : q_H} {o : q_O} {hz : q_H} {x : ((Nat × Int32 × Int32 × Int32 × Int32 × Int32) ⊕ ((Nat × Int32 × Int32 × Int32 × Int32) ⊕ Int32)) × q_H} (hf : f302_83 l0 l1 l2 l4 l5 l6 h = some x) (hK : (m_yK (fun (s : Nat × Int32 × Int32 × Int32 × Int32 × Int32) (h : q_H) => q_Ev none 302 25 [(0, .ref (s.1)), (1, .int (s.2.1)), (2, .int (s.2.2.1)), (3, .int (s.2.2.2.1)), (4, .int (s.2.2.2.2.1)), (5, .int (s.2.2.2.2.2))] [] h o hz) (m_yK (fun (s : Nat × Int32 × Int32 × Int32 × Int32) (h : q_H) => q_Ev none 302 13 [(0, .ref (s.1)), (1, .int (s.2.1)), (2, .int (s.2.2.1)), (3, .int (s.2.2.2.1)), (4, .int (s.2.2.2.2))] [] h o hz) (q_KI o hz))) x) : q_Ev none 302 83 [(0, .ref l0), (1, .int l1), (2, .int l2), (4, .int l4), (5, .int l5), (6, .int l6)] [] h o hz := by
  unfold f302_83 at hf
  refine ev_iload (q_cod qk302 rfl) (by decide) rfl ?_
  refine ev_bi (v := 7) (q_cod qk302 rfl) (by decide) (by decide) ?_
  refine em_ic_ne (q_cod qk302 rfl) (by decide) hf (fun c7 hf => ?_) (fun c7 hf => ?_)
  · refine ev_aload_n (q_cod qk302 rfl) (by decide) rfl ?_
    refine ev_iload (q_cod qk302 rfl) (by decide) rfl ?_
    refine ev_iload (q_cod qk302 rfl) (by decide) rfl ?_
    obtain ⟨g1, hf⟩ := m_aK_some hf
    refine em_call (v := (fun u => some (.int u))) (q_cod qk302 rfl) rfl rfl (q_cokV rfl rfl (Or.inr g1)) rfl (fun x e => f268_cl e) hf (fun v2 h hf => ?_)
    refine ev_si (v := 2000) (q_cod qk302 rfl) (by decide) (by decide) ?_
    refine ev_iload_n (q_cod qk302 rfl) (by decide) rfl ?_
    refine ev_iadd (q_cod qk302 rfl) (by decide) ?_
    refine em_ic_ne (q_cod qk302 rfl) (by decide) hf (fun c6 hf => ?_) (fun c6 hf => ?_)
    · refine ev_aload_n (q_cod qk302 rfl) (by decide) rfl ?_
      refine em_gR (q_cod qk302 rfl) (by decide) (by decide) hf (fun r3 hf => ?_)
      refine ev_si (v := 192) (q_cod qk302 rfl) (by decide) (by decide) ?_
      refine ev_iload (q_cod qk302 rfl) (by decide) rfl ?_
      refine ev_imul (q_cod qk302 rfl) (by decide) ?_
      refine ev_iload (q_cod qk302 rfl) (by decide) rfl ?_
      refine ev_iadd (q_cod qk302 rfl) (by decide) ?_
      refine ev_ic (v := 1) (q_cod qk302 rfl) (by decide) (by decide) ?_
      refine ev_iadd (q_cod qk302 rfl) (by decide) ?_
      refine em_lI (q_cod qk302 rfl) (by decide) hf (fun v4 hf => ?_)
      refine ev_iload_n (q_cod qk302 rfl) (by decide) rfl ?_
      refine em_ic_ne (q_cod qk302 rfl) (by decide) hf (fun c5 hf => ?_) (fun c5 hf => ?_)
      · exact ev_weak (q_pk [0, 1, 2, 3, 4] rfl) (f302_126_ok hf hK)
      · exact ev_weak (q_pk [0, 1, 2, 3, 4] rfl) (f302_130_ok hf hK)
    · exact ev_weak (q_pk [0, 1, 2, 3, 4] rfl) (f302_130_ok hf hK)
  · exact ev_weak (q_pk [0, 1, 2, 3, 4] rfl) (f302_130_ok hf hK)
def f302_138 (l0 : Nat) (l1 : Int32) (l2 : Int32) (l3 : Int32) (l4 : Int32) : m_M ((Nat × Int32 × Int32 × Int32 × Int32) ⊕ Int32) :=
  m_R (.inl (l0, l1, l2, l3, (l4 + 1)))
theorem f302_138_ok {l0 : Nat} {l1 : Int32} {l2 : Int32} {l3 : Int32} {l4 : Int32} {h : q_H} {o : q_O} {hz : q_H} {x : ((Nat × Int32 × Int32 × Int32 × Int32) ⊕ Int32) × q_H} (hf : f302_138 l0 l1 l2 l3 l4 h = some x) (hK : (m_yK (fun (s : Nat × Int32 × Int32 × Int32 × Int32) (h : q_H) => q_Ev none 302 13 [(0, .ref (s.1)), (1, .int (s.2.1)), (2, .int (s.2.2.1)), (3, .int (s.2.2.2.1)), (4, .int (s.2.2.2.2))] [] h o hz) (q_KI o hz)) x) : q_Ev none 302 138 [(0, .ref l0), (1, .int l1), (2, .int l2), (3, .int l3), (4, .int l4)] [] h o hz := by
  unfold f302_138 at hf
  refine ev_inc (v := l4 + 1) (L' := [(0, .ref l0), (1, .int l1), (2, .int l2), (3, .int l3), (4, .int (l4 + 1))]) (q_cod qk302 rfl) (by decide) rfl rfl rfl ?_
  refine ev_goto (q_cod qk302 rfl) (by decide) ?_
  obtain rfl := m_R_inv hf
  exact (show q_Ev none 302 13 [(0, .ref l0), (1, .int l1), (2, .int l2), (3, .int l3), (4, .int (l4 + 1))] [] _ o hz from hK)
def f302_25b (l0 : Nat) (l1 : Int32) (l2 : Int32) (l3 : Int32) (l4 : Int32) (l5 : Int32) : m_M ((Nat × Int32 × Int32 × Int32 × Int32 × Int32) ⊕ ((Nat × Int32 × Int32 × Int32 × Int32) ⊕ Int32)) :=
  m_B (m_aK l0 12) (fun _ => m_B (f196 l0 0 l4 0) (fun v2 => if v2 = 1 then (m_B (m_aK l0 12) (fun _ => m_B (f270 l0 l4) (fun v4 => if l5 < v4 then (m_B (m_aK l0 12) (fun _ => m_B (f199 l0 0 l4 l5) (fun v6 => if l3 = 0 then (if v6 = 8 then (m_B (m_aK l0 12) (fun _ => m_B (f200 l0 0 l4 l5) (fun v8 => if v8 = l2 then (f302_126 l0 l1 l2 l4 l5) else (f302_83 l0 l1 l2 l4 l5 v6)))) else (f302_83 l0 l1 l2 l4 l5 v6)) else (f302_126 l0 l1 l2 l4 l5)))) else (m_B (f302_138 l0 l1 l2 l3 l4) (fun r => m_R (.inr r)))))) else (m_B (f302_138 l0 l1 l2 l3 l4) (fun r => m_R (.inr r)))))
theorem f302_25b_ok {l0 : Nat} {l1 : Int32} {l2 : Int32} {l3 : Int32} {l4 : Int32} {l5 : Int32} {h : q_H} {o : q_O} {hz : q_H} {x : ((Nat × Int32 × Int32 × Int32 × Int32 × Int32) ⊕ ((Nat × Int32 × Int32 × Int32 × Int32) ⊕ Int32)) × q_H} (hf : f302_25b l0 l1 l2 l3 l4 l5 h = some x) (hK : (m_yK (fun (s : Nat × Int32 × Int32 × Int32 × Int32 × Int32) (h : q_H) => q_Ev none 302 25 [(0, .ref (s.1)), (1, .int (s.2.1)), (2, .int (s.2.2.1)), (3, .int (s.2.2.2.1)), (4, .int (s.2.2.2.2.1)), (5, .int (s.2.2.2.2.2))] [] h o hz) (m_yK (fun (s : Nat × Int32 × Int32 × Int32 × Int32) (h : q_H) => q_Ev none 302 13 [(0, .ref (s.1)), (1, .int (s.2.1)), (2, .int (s.2.2.1)), (3, .int (s.2.2.2.1)), (4, .int (s.2.2.2.2))] [] h o hz) (q_KI o hz))) x) : q_Ev none 302 25 [(0, .ref l0), (1, .int l1), (2, .int l2), (3, .int l3), (4, .int l4), (5, .int l5)] [] h o hz := by
  unfold f302_25b at hf
  refine ev_aload_n (q_cod qk302 rfl) (by decide) rfl ?_
  refine ev_ic (v := 0) (q_cod qk302 rfl) (by decide) (by decide) ?_
  refine ev_iload (q_cod qk302 rfl) (by decide) rfl ?_
  refine ev_ic (v := 0) (q_cod qk302 rfl) (by decide) (by decide) ?_
  obtain ⟨g1, hf⟩ := m_aK_some hf
  refine em_call (v := (fun u => some (.int u))) (q_cod qk302 rfl) rfl rfl (q_cokV rfl rfl (Or.inr g1)) rfl (fun x e => f196_cl e) hf (fun v2 h hf => ?_)
  refine ev_ic (v := 1) (q_cod qk302 rfl) (by decide) (by decide) ?_
  refine em_ic_ne (q_cod qk302 rfl) (by decide) hf (fun c13 hf => ?_) (fun c13 hf => ?_)
  · refine ev_iload (q_cod qk302 rfl) (by decide) rfl ?_
    refine ev_aload_n (q_cod qk302 rfl) (by decide) rfl ?_
    refine ev_iload (q_cod qk302 rfl) (by decide) rfl ?_
    obtain ⟨g3, hf⟩ := m_aK_some hf
    refine em_call (v := (fun u => some (.int u))) (q_cod qk302 rfl) rfl rfl (q_cokV rfl rfl (Or.inr g3)) rfl (fun x e => f270_cl e) hf (fun v4 h hf => ?_)
    refine em_ic_ge (q_cod qk302 rfl) (by decide) hf (fun c12 hf => ?_) (fun c12 hf => ?_)
    · refine ev_aload_n (q_cod qk302 rfl) (by decide) rfl ?_
      refine ev_ic (v := 0) (q_cod qk302 rfl) (by decide) (by decide) ?_
      refine ev_iload (q_cod qk302 rfl) (by decide) rfl ?_
      refine ev_iload (q_cod qk302 rfl) (by decide) rfl ?_
      obtain ⟨g5, hf⟩ := m_aK_some hf
      refine em_call (v := (fun u => some (.int u))) (q_cod qk302 rfl) rfl rfl (q_cokV rfl rfl (Or.inr g5)) rfl (fun x e => f199_cl e) hf (fun v6 h hf => ?_)
      refine ev_is2 (L' := [(0, .ref l0), (1, .int l1), (2, .int l2), (3, .int l3), (4, .int l4), (5, .int l5), (6, .int v6)]) (q_cod qk302 rfl) (by decide) rfl ?_
      refine ev_iload_n (q_cod qk302 rfl) (by decide) rfl ?_
      refine em_if_ne (q_cod qk302 rfl) (by decide) hf (fun c11 hf => ?_) (fun c11 hf => ?_)
      · refine ev_iload (q_cod qk302 rfl) (by decide) rfl ?_
        refine ev_bi (v := 8) (q_cod qk302 rfl) (by decide) (by decide) ?_
        refine em_ic_ne (q_cod qk302 rfl) (by decide) hf (fun c10 hf => ?_) (fun c10 hf => ?_)
        · refine ev_aload_n (q_cod qk302 rfl) (by decide) rfl ?_
          refine ev_ic (v := 0) (q_cod qk302 rfl) (by decide) (by decide) ?_
          refine ev_iload (q_cod qk302 rfl) (by decide) rfl ?_
          refine ev_iload (q_cod qk302 rfl) (by decide) rfl ?_
          obtain ⟨g7, hf⟩ := m_aK_some hf
          refine em_call (v := (fun u => some (.int u))) (q_cod qk302 rfl) rfl rfl (q_cokV rfl rfl (Or.inr g7)) rfl (fun x e => f200_cl e) hf (fun v8 h hf => ?_)
          refine ev_iload_n (q_cod qk302 rfl) (by decide) rfl ?_
          refine em_ic_eq (q_cod qk302 rfl) (by decide) hf (fun c9 hf => ?_) (fun c9 hf => ?_)
          · exact ev_weak (q_pk [0, 1, 2, 4, 5] rfl) (f302_126_ok hf hK)
          · exact ev_weak (q_pk [0, 1, 2, 4, 5, 6] rfl) (f302_83_ok hf hK)
        · exact ev_weak (q_pk [0, 1, 2, 4, 5, 6] rfl) (f302_83_ok hf hK)
      · exact ev_weak (q_pk [0, 1, 2, 4, 5] rfl) (f302_126_ok hf hK)
    · obtain ⟨y0, hf0, hx⟩ := m_inr_some hf
      subst hx
      exact ev_weak (q_pk [0, 1, 2, 3, 4] rfl) (f302_138_ok hf0 hK)
  · obtain ⟨y0, hf0, hx⟩ := m_inr_some hf
    subst hx
    exact ev_weak (q_pk [0, 1, 2, 3, 4] rfl) (f302_138_ok hf0 hK)
def f302_25 (l0 : Nat) (l1 : Int32) (l2 : Int32) (l3 : Int32) (l4 : Int32) (l5 : Int32) : m_M ((Nat × Int32 × Int32 × Int32 × Int32) ⊕ Int32) := m_W (fun s => f302_25b (s.1) (s.2.1) (s.2.2.1) (s.2.2.2.1) (s.2.2.2.2.1) (s.2.2.2.2.2)) 1000000 (l0, l1, l2, l3, l4, l5)
theorem f302_25_ok {l0 : Nat} {l1 : Int32} {l2 : Int32} {l3 : Int32} {l4 : Int32} {l5 : Int32} {h : q_H} {o : q_O} {hz : q_H} {x : ((Nat × Int32 × Int32 × Int32 × Int32) ⊕ Int32) × q_H} (hf : f302_25 l0 l1 l2 l3 l4 l5 h = some x) (hK : (m_yK (fun (s : Nat × Int32 × Int32 × Int32 × Int32) (h : q_H) => q_Ev none 302 13 [(0, .ref (s.1)), (1, .int (s.2.1)), (2, .int (s.2.2.1)), (3, .int (s.2.2.2.1)), (4, .int (s.2.2.2.2))] [] h o hz) (q_KI o hz)) x) : q_Ev none 302 25 [(0, .ref l0), (1, .int l1), (2, .int l2), (3, .int l3), (4, .int l4), (5, .int l5)] [] h o hz :=
  m_W_ok (P := (fun (s : Nat × Int32 × Int32 × Int32 × Int32 × Int32) (h : q_H) => q_Ev none 302 25 [(0, .ref (s.1)), (1, .int (s.2.1)), (2, .int (s.2.2.1)), (3, .int (s.2.2.2.1)), (4, .int (s.2.2.2.2.1)), (5, .int (s.2.2.2.2.2))] [] h o hz)) (K := (m_yK (fun (s : Nat × Int32 × Int32 × Int32 × Int32) (h : q_H) => q_Ev none 302 13 [(0, .ref (s.1)), (1, .int (s.2.1)), (2, .int (s.2.2.1)), (3, .int (s.2.2.2.1)), (4, .int (s.2.2.2.2))] [] h o hz) (q_KI o hz))) (fun s h x h1 h2 => f302_25b_ok h1 h2) _ (l0, l1, l2, l3, l4, l5) _ _ hf hK
def f302_144 (l3 : Int32) : m_M Int32 :=
  m_B (m_G (l3 = 0 ∨ l3 = 1)) (fun _ => m_R l3)
theorem f302_144_ok {l3 : Int32} {h : q_H} {o : q_O} {hz : q_H} {x : Int32 × q_H} (hf : f302_144 l3 h = some x) (hK : (q_KI o hz) x) : q_Ev none 302 144 [(3, .int l3)] [] h o hz := by
  unfold f302_144 at hf
  refine ev_iload_n (q_cod qk302 rfl) (by decide) rfl ?_
  obtain ⟨g1, hf⟩ := m_G_some hf
  obtain rfl := m_R_inv hf
  obtain ⟨rfl, rfl⟩ := (show q_KI o hz (l3, _) from hK)
  exact ev_ret (q_cod qk302 rfl) (q_retZ g1)
def f302_13b (l0 : Nat) (l1 : Int32) (l2 : Int32) (l3 : Int32) (l4 : Int32) : m_M ((Nat × Int32 × Int32 × Int32 × Int32) ⊕ Int32) :=
  m_B (m_aK l0 12) (fun _ => m_B (f265 l0) (fun v2 => if l4 < v2 then (f302_25 l0 l1 l2 l3 l4 0) else (m_B (f302_144 l3) (fun r => m_R (.inr r)))))
theorem f302_13b_ok {l0 : Nat} {l1 : Int32} {l2 : Int32} {l3 : Int32} {l4 : Int32} {h : q_H} {o : q_O} {hz : q_H} {x : ((Nat × Int32 × Int32 × Int32 × Int32) ⊕ Int32) × q_H} (hf : f302_13b l0 l1 l2 l3 l4 h = some x) (hK : (m_yK (fun (s : Nat × Int32 × Int32 × Int32 × Int32) (h : q_H) => q_Ev none 302 13 [(0, .ref (s.1)), (1, .int (s.2.1)), (2, .int (s.2.2.1)), (3, .int (s.2.2.2.1)), (4, .int (s.2.2.2.2))] [] h o hz) (q_KI o hz)) x) : q_Ev none 302 13 [(0, .ref l0), (1, .int l1), (2, .int l2), (3, .int l3), (4, .int l4)] [] h o hz := by
  unfold f302_13b at hf
  refine ev_iload (q_cod qk302 rfl) (by decide) rfl ?_
  refine ev_aload_n (q_cod qk302 rfl) (by decide) rfl ?_
  obtain ⟨g1, hf⟩ := m_aK_some hf
  refine em_call (v := (fun u => some (.int u))) (q_cod qk302 rfl) rfl rfl (q_cokV rfl rfl (Or.inr g1)) rfl (fun x e => f265_cl e) hf (fun v2 h hf => ?_)
  refine em_ic_ge (q_cod qk302 rfl) (by decide) hf (fun c3 hf => ?_) (fun c3 hf => ?_)
  · refine ev_ic (v := 0) (q_cod qk302 rfl) (by decide) (by decide) ?_
    refine ev_is2 (L' := [(0, .ref l0), (1, .int l1), (2, .int l2), (3, .int l3), (4, .int l4), (5, .int 0)]) (q_cod qk302 rfl) (by decide) rfl ?_
    exact (f302_25_ok hf hK)
  · obtain ⟨y0, hf0, hx⟩ := m_inr_some hf
    subst hx
    exact ev_weak (q_pk [3] rfl) (f302_144_ok hf0 hK)
def f302_13 (l0 : Nat) (l1 : Int32) (l2 : Int32) (l3 : Int32) (l4 : Int32) : m_M Int32 := m_W (fun s => f302_13b (s.1) (s.2.1) (s.2.2.1) (s.2.2.2.1) (s.2.2.2.2)) 1000000 (l0, l1, l2, l3, l4)
theorem f302_13_ok {l0 : Nat} {l1 : Int32} {l2 : Int32} {l3 : Int32} {l4 : Int32} {h : q_H} {o : q_O} {hz : q_H} {x : Int32 × q_H} (hf : f302_13 l0 l1 l2 l3 l4 h = some x) (hK : (q_KI o hz) x) : q_Ev none 302 13 [(0, .ref l0), (1, .int l1), (2, .int l2), (3, .int l3), (4, .int l4)] [] h o hz :=
  m_W_ok (P := (fun (s : Nat × Int32 × Int32 × Int32 × Int32) (h : q_H) => q_Ev none 302 13 [(0, .ref (s.1)), (1, .int (s.2.1)), (2, .int (s.2.2.1)), (3, .int (s.2.2.2.1)), (4, .int (s.2.2.2.2))] [] h o hz)) (K := (q_KI o hz)) (fun s h x h1 h2 => f302_13b_ok h1 h2) _ (l0, l1, l2, l3, l4) _ _ hf hK
def f302 (l0 : Nat) (l1 : Int32) : m_M Int32 :=
  m_B (m_aK l0 12) (fun _ => m_B (f196 l0 0 l1 1) (fun v2 => f302_13 l0 l1 v2 0 0))
theorem f302_ok {l0 : Nat} {l1 : Int32} {h : q_H} {o : q_O} {hz : q_H} {x : Int32 × q_H} (hf : f302 l0 l1 h = some x) (hK : (q_KI o hz) x) : q_Ev none 302 0 [(0, .ref l0), (1, .int l1)] [] h o hz := by
  unfold f302 at hf
  refine ev_aload_n (q_cod qk302 rfl) (by decide) rfl ?_
  refine ev_ic (v := 0) (q_cod qk302 rfl) (by decide) (by decide) ?_
  refine ev_iload_n (q_cod qk302 rfl) (by decide) rfl ?_
  refine ev_ic (v := 1) (q_cod qk302 rfl) (by decide) (by decide) ?_
  obtain ⟨g1, hf⟩ := m_aK_some hf
  refine em_call (v := (fun u => some (.int u))) (q_cod qk302 rfl) rfl rfl (q_cokV rfl rfl (Or.inr g1)) rfl (fun x e => f196_cl e) hf (fun v2 h hf => ?_)
  refine ev_is1 (L' := [(0, .ref l0), (1, .int l1), (2, .int v2)]) (q_cod qk302 rfl) (by decide) rfl ?_
  refine ev_ic (v := 0) (q_cod qk302 rfl) (by decide) (by decide) ?_
  refine ev_is1 (L' := [(0, .ref l0), (1, .int l1), (2, .int v2), (3, .int 0)]) (q_cod qk302 rfl) (by decide) rfl ?_
  refine ev_ic (v := 0) (q_cod qk302 rfl) (by decide) (by decide) ?_
  refine ev_is2 (L' := [(0, .ref l0), (1, .int l1), (2, .int v2), (3, .int 0), (4, .int 0)]) (q_cod qk302 rfl) (by decide) rfl ?_
  exact (f302_13_ok hf hK)
theorem f302_cl {l0 : Nat} {l1 : Int32} {h : q_H} {x : Int32 × q_H} (hf : f302 l0 l1 h = some x) : q_Cl 302 [.ref l0, .int l1] h (.inl (some (.int x.1))) x.2 := q_Cl.of rfl (q_LvS rfl rfl) (f302_ok hf ⟨rfl, rfl⟩)
