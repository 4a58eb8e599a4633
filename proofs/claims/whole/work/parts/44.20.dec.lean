/-! SmithyBenchModel.isBelowHas(III)Z -/
theorem qk282 : q_cs.getD 282 [] = qc_282 := rfl
def f282_57 (l0 : Nat) (l1 : Int32) (l2 : Int32) (l3 : Int32) (l5 : Int32) (s0 : Int32) : m_M ((Nat × Int32 × Int32 × Int32 × Int32 × Int32) ⊕ Int32) :=
  m_R (.inl (l0, l1, l2, l3, s0, (l5 + 1)))
theorem f282_57_ok {l0 : Nat} {l1 : Int32} {l2 : Int32} {l3 : Int32} {l5 : Int32} {s0 : Int32} {h : q_H} {o : q_O} {hz : q_H} {x : ((Nat × Int32 × Int32 × Int32 × Int32 × Int32) ⊕ Int32) × q_H} (hf : f282_57 l0 l1 l2 l3 l5 s0 h = some x) (hK : (m_yK (fun (s : Nat × Int32 × Int32 × Int32 × Int32 × Int32) (h : q_H) => q_Ev none 282 6 [(0, .ref (s.1)), (1, .int (s.2.1)), (2, .int (s.2.2.1)), (3, .int (s.2.2.2.1)), (4, .int (s.2.2.2.2.1)), (5, .int (s.2.2.2.2.2))] [] h o hz) (q_KI o hz)) x) : q_Ev none 282 57 [(0, .ref l0), (1, .int l1), (2, .int l2), (3, .int l3), (5, .int l5)] [.int s0] h o hz := by
  unfold f282_57 at hf
  refine ev_is2 (L' := [(0, .ref l0), (1, .int l1), (2, .int l2), (3, .int l3), (4, .int s0), (5, .int l5)]) (q_cod qk282 rfl) (by decide) rfl ?_
  refine ev_inc (v := l5 + 1) (L' := [(0, .ref l0), (1, .int l1), (2, .int l2), (3, .int l3), (4, .int s0), (5, .int (l5 + 1))]) (q_cod qk282 rfl) (by decide) rfl rfl rfl ?_
  refine ev_goto (q_cod qk282 rfl) (by decide) ?_
  obtain rfl := m_R_inv hf
  exact (show q_Ev none 282 6 [(0, .ref l0), (1, .int l1), (2, .int l2), (3, .int l3), (4, .int s0), (5, .int (l5 + 1))] [] _ o hz from hK)
def f282_56 (l0 : Nat) (l1 : Int32) (l2 : Int32) (l3 : Int32) (l5 : Int32) : m_M ((Nat × Int32 × Int32 × Int32 × Int32 × Int32) ⊕ Int32) :=
  f282_57 l0 l1 l2 l3 l5 0
theorem f282_56_ok {l0 : Nat} {l1 : Int32} {l2 : Int32} {l3 : Int32} {l5 : Int32} {h : q_H} {o : q_O} {hz : q_H} {x : ((Nat × Int32 × Int32 × Int32 × Int32 × Int32) ⊕ Int32) × q_H} (hf : f282_56 l0 l1 l2 l3 l5 h = some x) (hK : (m_yK (fun (s : Nat × Int32 × Int32 × Int32 × Int32 × Int32) (h : q_H) => q_Ev none 282 6 [(0, .ref (s.1)), (1, .int (s.2.1)), (2, .int (s.2.2.1)), (3, .int (s.2.2.2.1)), (4, .int (s.2.2.2.2.1)), (5, .int (s.2.2.2.2.2))] [] h o hz) (q_KI o hz)) x) : q_Ev none 282 56 [(0, .ref l0), (1, .int l1), (2, .int l2), (3, .int l3), (5, .int l5)] [] h o hz := by
  unfold f282_56 at hf
  refine ev_ic (v := 0) (q_cod qk282 rfl) (by decide) (by decide) ?_
  exact (f282_57_ok hf hK)
def f282_52 (l0 : Nat) (l1 : Int32) (l2 : Int32) (l3 : Int32) (l5 : Int32) : m_M ((Nat × Int32 × Int32 × Int32 × Int32 × Int32) ⊕ Int32) :=
  f282_57 l0 l1 l2 l3 l5 1
theorem f282_52_ok {l0 : Nat} {l1 : Int32} {l2 : Int32} {l3 : Int32} {l5 : Int32} {h : q_H} {o : q_O} {hz : q_H} {x : ((Nat × Int32 × Int32 × Int32 × Int32 × Int32) ⊕ Int32) × q_H} (hf : f282_52 l0 l1 l2 l3 l5 h = some x) (hK : (m_yK (fun (s : Nat × Int32 × Int32 × Int32 × Int32 × Int32) (h : q_H) => q_Ev none 282 6 [(0, .ref (s.1)), (1, .int (s.2.1)), (2, .int (s.2.2.1)), (3, .int (s.2.2.2.1)), (4, .int (s.2.2.2.2.1)), (5, .int (s.2.2.2.2.2))] [] h o hz) (q_KI o hz)) x) : q_Ev none 282 52 [(0, .ref l0), (1, .int l1), (2, .int l2), (3, .int l3), (5, .int l5)] [] h o hz := by
  unfold f282_52 at hf
  refine ev_ic (v := 1) (q_cod qk282 rfl) (by decide) (by decide) ?_
  refine ev_goto (q_cod qk282 rfl) (by decide) ?_
  exact (f282_57_ok hf hK)
def f282_65 (l4 : Int32) : m_M Int32 :=
  m_B (m_G (l4 = 0 ∨ l4 = 1)) (fun _ => m_R l4)
theorem f282_65_ok {l4 : Int32} {h : q_H} {o : q_O} {hz : q_H} {x : Int32 × q_H} (hf : f282_65 l4 h = some x) (hK : (q_KI o hz) x) : q_Ev none 282 65 [(4, .int l4)] [] h o hz := by
  unfold f282_65 at hf
  refine ev_iload (q_cod qk282 rfl) (by decide) rfl ?_
  obtain ⟨g1, hf⟩ := m_G_some hf
  obtain rfl := m_R_inv hf
  obtain ⟨rfl, rfl⟩ := (show q_KI o hz (l4, _) from hK)
  exact ev_ret (q_cod qk282 rfl) (q_retZ g1)
def f282_6b (l0 : Nat) (l1 : Int32) (l2 : Int32) (l3 : Int32) (l4 : Int32) (l5 : Int32) : m_M ((Nat × Int32 × Int32 × Int32 × Int32 × Int32) ⊕ Int32) :=
  m_B (m_gR 12 l0 1) (fun r1 => m_B (m_lI r1 0) (fun v2 => if l5 < v2 then (if l4 = 0 then (if l5 = l1 then (f282_56 l0 l1 l2 l3 l5) else (m_B (m_aK l0 12) (fun _ => m_B (f208 l0 0 l5 l1) (fun v4 => if v4 = 0 then (f282_56 l0 l1 l2 l3 l5) else (m_B (m_aK l0 12) (fun _ => m_B (f213 l0 0 l5 l2 l3) (fun v6 => if v6 = (-1) then (f282_56 l0 l1 l2 l3 l5) else (f282_52 l0 l1 l2 l3 l5)))))))) else (f282_52 l0 l1 l2 l3 l5)) else (m_B (f282_65 l4) (fun r => m_R (.inr r)))))
theorem f282_6b_ok {l0 : Nat} {l1 : Int32} {l2 : Int32} {l3 : Int32} {l4 : Int32} {l5 : Int32} {h : q_H} {o : q_O} {hz : q_H} {x : ((Nat × Int32 × Int32 × Int32 × Int32 × Int32) ⊕ Int32) × q_H} (hf : f282_6b l0 l1 l2 l3 l4 l5 h = some x) (hK : (m_yK (fun (s : Nat × Int32 × Int32 × Int32 × Int32 × Int32) (h : q_H) => q_Ev none 282 6 [(0, .ref (s.1)), (1, .int (s.2.1)), (2, .int (s.2.2.1)), (3, .int (s.2.2.2.1)), (4, .int (s.2.2.2.2.1)), (5, .int (s.2.2.2.2.2))] [] h o hz) (q_KI o hz)) x) : q_Ev none 282 6 [(0, .ref l0), (1, .int l1), (2, .int l2), (3, .int l3), (4, .int l4), (5, .int l5)] [] h o hz := by
  unfold f282_6b at hf
  refine ev_iload (q_cod qk282 rfl) (by decide) rfl ?_
  refine ev_aload_n (q_cod qk282 rfl) (by decide) rfl ?_
  refine em_gR (q_cod qk282 rfl) (by decide) (by decide) hf (fun r1 hf => ?_)
  refine ev_ic (v := 0) (q_cod qk282 rfl) (by decide) (by decide) ?_
  refine em_lI (q_cod qk282 rfl) (by decide) hf (fun v2 hf => ?_)
  refine em_ic_ge (q_cod qk282 rfl) (by decide) hf (fun c11 hf => ?_) (fun c11 hf => ?_)
  · refine ev_iload (q_cod qk282 rfl) (by decide) rfl ?_
    refine em_if_ne (q_cod qk282 rfl) (by decide) hf (fun c10 hf => ?_) (fun c10 hf => ?_)
    · refine ev_iload (q_cod qk282 rfl) (by decide) rfl ?_
      refine ev_iload_n (q_cod qk282 rfl) (by decide) rfl ?_
      refine em_ic_eq (q_cod qk282 rfl) (by decide) hf (fun c9 hf => ?_) (fun c9 hf => ?_)
      · exact ev_weak (q_pk [0, 1, 2, 3, 5] rfl) (f282_56_ok hf hK)
      · refine ev_aload_n (q_cod qk282 rfl) (by decide) rfl ?_
        refine ev_ic (v := 0) (q_cod qk282 rfl) (by decide) (by decide) ?_
        refine ev_iload (q_cod qk282 rfl) (by decide) rfl ?_
        refine ev_iload_n (q_cod qk282 rfl) (by decide) rfl ?_
        obtain ⟨g3, hf⟩ := m_aK_some hf
        refine em_call (v := (fun u => some (.int u))) (q_cod qk282 rfl) rfl rfl (q_cokV rfl rfl (Or.inr g3)) rfl (fun x e => f208_cl e) hf (fun v4 h hf => ?_)
        refine em_if_eq (q_cod qk282 rfl) (by decide) hf (fun c8 hf => ?_) (fun c8 hf => ?_)
        · exact ev_weak (q_pk [0, 1, 2, 3, 5] rfl) (f282_56_ok hf hK)
        · refine ev_aload_n (q_cod qk282 rfl) (by decide) rfl ?_
          refine ev_ic (v := 0) (q_cod qk282 rfl) (by decide) (by decide) ?_
          refine ev_iload (q_cod qk282 rfl) (by decide) rfl ?_
          refine ev_iload_n (q_cod qk282 rfl) (by decide) rfl ?_
          refine ev_iload_n (q_cod qk282 rfl) (by decide) rfl ?_
          obtain ⟨g5, hf⟩ := m_aK_some hf
          refine em_call (v := (fun u => some (.int u))) (q_cod qk282 rfl) rfl rfl (q_cokV rfl rfl (Or.inr g5)) rfl (fun x e => f213_cl e) hf (fun v6 h hf => ?_)
          refine ev_ic (v := (-1)) (q_cod qk282 rfl) (by decide) (by decide) ?_
          refine em_ic_eq (q_cod qk282 rfl) (by decide) hf (fun c7 hf => ?_) (fun c7 hf => ?_)
          · exact ev_weak (q_pk [0, 1, 2, 3, 5] rfl) (f282_56_ok hf hK)
          · exact ev_weak (q_pk [0, 1, 2, 3, 5] rfl) (f282_52_ok hf hK)
    · exact ev_weak (q_pk [0, 1, 2, 3, 5] rfl) (f282_52_ok hf hK)
  · obtain ⟨y0, hf0, hx⟩ := m_inr_some hf
    subst hx
    exact ev_weak (q_pk [4] rfl) (f282_65_ok hf0 hK)
def f282_6 (l0 : Nat) (l1 : Int32) (l2 : Int32) (l3 : Int32) (l4 : Int32) (l5 : Int32) : m_M Int32 := m_W (fun s => f282_6b (s.1) (s.2.1) (s.2.2.1) (s.2.2.2.1) (s.2.2.2.2.1) (s.2.2.2.2.2)) 1000000 (l0, l1, l2, l3, l4, l5)
theorem f282_6_ok {l0 : Nat} {l1 : Int32} {l2 : Int32} {l3 : Int32} {l4 : Int32} {l5 : Int32} {h : q_H} {o : q_O} {hz : q_H} {x : Int32 × q_H} (hf : f282_6 l0 l1 l2 l3 l4 l5 h = some x) (hK : (q_KI o hz) x) : q_Ev none 282 6 [(0, .ref l0), (1, .int l1), (2, .int l2), (3, .int l3), (4, .int l4), (5, .int l5)] [] h o hz :=
  m_W_ok (P := (fun (s : Nat × Int32 × Int32 × Int32 × Int32 × Int32) (h : q_H) => q_Ev none 282 6 [(0, .ref (s.1)), (1, .int (s.2.1)), (2, .int (s.2.2.1)), (3, .int (s.2.2.2.1)), (4, .int (s.2.2.2.2.1)), (5, .int (s.2.2.2.2.2))] [] h o hz)) (K := (q_KI o hz)) (fun s h x h1 h2 => f282_6b_ok h1 h2) _ (l0, l1, l2, l3, l4, l5) _ _ hf hK
def f282 (l0 : Nat) (l1 : Int32) (l2 : Int32) (l3 : Int32) : m_M Int32 :=
  f282_6 l0 l1 l2 l3 0 0
theorem f282_ok {l0 : Nat} {l1 : Int32} {l2 : Int32} {l3 : Int32} {h : q_H} {o : q_O} {hz : q_H} {x : Int32 × q_H} (hf : f282 l0 l1 l2 l3 h = some x) (hK : (q_KI o hz) x) : q_Ev none 282 0 [(0, .ref l0), (1, .int l1), (2, .int l2), (3, .int l3)] [] h o hz := by
  unfold f282 at hf
  refine ev_ic (v := 0) (q_cod qk282 rfl) (by decide) (by decide) ?_
  refine ev_is2 (L' := [(0, .ref l0), (1, .int l1), (2, .int l2), (3, .int l3), (4, .int 0)]) (q_cod qk282 rfl) (by decide) rfl ?_
  refine ev_ic (v := 0) (q_cod qk282 rfl) (by decide) (by decide) ?_
  refine ev_is2 (L' := [(0, .ref l0), (1, .int l1), (2, .int l2), (3, .int l3), (4, .int 0), (5, .int 0)]) (q_cod qk282 rfl) (by decide) rfl ?_
  exact (f282_6_ok hf hK)
theorem f282_cl {l0 : Nat} {l1 : Int32} {l2 : Int32} {l3 : Int32} {h : q_H} {x : Int32 × q_H} (hf : f282 l0 l1 l2 l3 h = some x) : q_Cl 282 [.ref l0, .int l1, .int l2, .int l3] h (.inl (some (.int x.1))) x.2 := q_Cl.of rfl (q_LvS rfl rfl) (f282_ok hf ⟨rfl, rfl⟩)
/-! SmithyBenchModel.isAboveHas(III)Z -/
theorem qk283 : q_cs.getD 283 [] = qc_283 := rfl
def f283_57 (l0 : Nat) (l1 : Int32) (l2 : Int32) (l3 : Int32) (l5 : Int32) (s0 : Int32) : m_M ((Nat × Int32 × Int32 × Int32 × Int32 × Int32) ⊕ Int32) :=
  m_R (.inl (l0, l1, l2, l3, s0, (l5 + 1)))
theorem f283_57_ok {l0 : Nat} {l1 : Int32} {l2 : Int32} {l3 : Int32} {l5 : Int32} {s0 : Int32} {h : q_H} {o : q_O} {hz : q_H} {x : ((Nat × Int32 × Int32 × Int32 × Int32 × Int32) ⊕ Int32) × q_H} (hf : f283_57 l0 l1 l2 l3 l5 s0 h = some x) (hK : (m_yK (fun (s : Nat × Int32 × Int32 × Int32 × Int32 × Int32) (h : q_H) => q_Ev none 283 6 [(0, .ref (s.1)), (1, .int (s.2.1)), (2, .int (s.2.2.1)), (3, .int (s.2.2.2.1)), (4, .int (s.2.2.2.2.1)), (5, .int (s.2.2.2.2.2))] [] h o hz) (q_KI o hz)) x) : q_Ev none 283 57 [(0, .ref l0), (1, .int l1), (2, .int l2), (3, .int l3), (5, .int l5)] [.int s0] h o hz := by
  unfold f283_57 at hf
  refine ev_is2 (L' := [(0, .ref l0), (1, .int l1), (2, .int l2), (3, .int l3), (4, .int s0), (5, .int l5)]) (q_cod qk283 rfl) (by decide) rfl ?_
  refine ev_inc (v := l5 + 1) (L' := [(0, .ref l0), (1, .int l1), (2, .int l2), (3, .int l3), (4, .int s0), (5, .int (l5 + 1))]) (q_cod qk283 rfl) (by decide) rfl rfl rfl ?_
  refine ev_goto (q_cod qk283 rfl) (by decide) ?_
  obtain rfl := m_R_inv hf
  exact (show q_Ev none 283 6 [(0, .ref l0), (1, .int l1), (2, .int l2), (3, .int l3), (4, .int s0), (5, .int (l5 + 1))] [] _ o hz from hK)
def f283_56 (l0 : Nat) (l1 : Int32) (l2 : Int32) (l3 : Int32) (l5 : Int32) : m_M ((Nat × Int32 × Int32 × Int32 × Int32 × Int32) ⊕ Int32) :=
  f283_57 l0 l1 l2 l3 l5 0
theorem f283_56_ok {l0 : Nat} {l1 : Int32} {l2 : Int32} {l3 : Int32} {l5 : Int32} {h : q_H} {o : q_O} {hz : q_H} {x : ((Nat × Int32 × Int32 × Int32 × Int32 × Int32) ⊕ Int32) × q_H} (hf : f283_56 l0 l1 l2 l3 l5 h = some x) (hK : (m_yK (fun (s : Nat × Int32 × Int32 × Int32 × Int32 × Int32) (h : q_H) => q_Ev none 283 6 [(0, .ref (s.1)), (1, .int (s.2.1)), (2, .int (s.2.2.1)), (3, .int (s.2.2.2.1)), (4, .int (s.2.2.2.2.1)), (5, .int (s.2.2.2.2.2))] [] h o hz) (q_KI o hz)) x) : q_Ev none 283 56 [(0, .ref l0), (1, .int l1), (2, .int l2), (3, .int l3), (5, .int l5)] [] h o hz := by
  unfold f283_56 at hf
  refine ev_ic (v := 0) (q_cod qk283 rfl) (by decide) (by decide) ?_
  exact (f283_57_ok hf hK)
def f283_52 (l0 : Nat) (l1 : Int32) (l2 : Int32) (l3 : Int32) (l5 : Int32) : m_M ((Nat × Int32 × Int32 × Int32 × Int32 × Int32) ⊕ Int32) :=
  f283_57 l0 l1 l2 l3 l5 1
theorem f283_52_ok {l0 : Nat} {l1 : Int32} {l2 : Int32} {l3 : Int32} {l5 : Int32} {h : q_H} {o : q_O} {hz : q_H} {x : ((Nat × Int32 × Int32 × Int32 × Int32 × Int32) ⊕ Int32) × q_H} (hf : f283_52 l0 l1 l2 l3 l5 h = some x) (hK : (m_yK (fun (s : Nat × Int32 × Int32 × Int32 × Int32 × Int32) (h : q_H) => q_Ev none 283 6 [(0, .ref (s.1)), (1, .int (s.2.1)), (2, .int (s.2.2.1)), (3, .int (s.2.2.2.1)), (4, .int (s.2.2.2.2.1)), (5, .int (s.2.2.2.2.2))] [] h o hz) (q_KI o hz)) x) : q_Ev none 283 52 [(0, .ref l0), (1, .int l1), (2, .int l2), (3, .int l3), (5, .int l5)] [] h o hz := by
  unfold f283_52 at hf
  refine ev_ic (v := 1) (q_cod qk283 rfl) (by decide) (by decide) ?_
  refine ev_goto (q_cod qk283 rfl) (by decide) ?_
  exact (f283_57_ok hf hK)
def f283_65 (l4 : Int32) : m_M Int32 :=
  m_B (m_G (l4 = 0 ∨ l4 = 1)) (fun _ => m_R l4)
theorem f283_65_ok {l4 : Int32} {h : q_H} {o : q_O} {hz : q_H} {x : Int32 × q_H} (hf : f283_65 l4 h = some x) (hK : (q_KI o hz) x) : q_Ev none 283 65 [(4, .int l4)] [] h o hz := by
  unfold f283_65 at hf
  refine ev_iload (q_cod qk283 rfl) (by decide) rfl ?_
  obtain ⟨g1, hf⟩ := m_G_some hf
  obtain rfl := m_R_inv hf
  obtain ⟨rfl, rfl⟩ := (show q_KI o hz (l4, _) from hK)
  exact ev_ret (q_cod qk283 rfl) (q_retZ g1)
def f283_6b (l0 : Nat) (l1 : Int32) (l2 : Int32) (l3 : Int32) (l4 : Int32) (l5 : Int32) : m_M ((Nat × Int32 × Int32 × Int32 × Int32 × Int32) ⊕ Int32) :=
  m_B (m_gR 12 l0 1) (fun r1 => m_B (m_lI r1 0) (fun v2 => if l5 < v2 then (if l4 = 0 then (if l5 = l1 then (f283_56 l0 l1 l2 l3 l5) else (m_B (m_aK l0 12) (fun _ => m_B (f208 l0 0 l1 l5) (fun v4 => if v4 = 0 then (f283_56 l0 l1 l2 l3 l5) else (m_B (m_aK l0 12) (fun _ => m_B (f213 l0 0 l5 l2 l3) (fun v6 => if v6 = (-1) then (f283_56 l0 l1 l2 l3 l5) else (f283_52 l0 l1 l2 l3 l5)))))))) else (f283_52 l0 l1 l2 l3 l5)) else (m_B (f283_65 l4) (fun r => m_R (.inr r)))))
theorem f283_6b_ok {l0 : Nat} {l1 : Int32} {l2 : Int32} {l3 : Int32} {l4 : Int32} {l5 : Int32} {h : q_H} {o : q_O} {hz : q_H} {x : ((Nat × Int32 × Int32 × Int32 × Int32 × Int32) ⊕ Int32) × q_H} (hf : f283_6b l0 l1 l2 l3 l4 l5 h = some x) (hK : (m_yK (fun (s : Nat × Int32 × Int32 × Int32 × Int32 × Int32) (h : q_H) => q_Ev none 283 6 [(0, .ref (s.1)), (1, .int (s.2.1)), (2, .int (s.2.2.1)), (3, .int (s.2.2.2.1)), (4, .int (s.2.2.2.2.1)), (5, .int (s.2.2.2.2.2))] [] h o hz) (q_KI o hz)) x) : q_Ev none 283 6 [(0, .ref l0), (1, .int l1), (2, .int l2), (3, .int l3), (4, .int l4), (5, .int l5)] [] h o hz := by
  unfold f283_6b at hf
  refine ev_iload (q_cod qk283 rfl) (by decide) rfl ?_
  refine ev_aload_n (q_cod qk283 rfl) (by decide) rfl ?_
  refine em_gR (q_cod qk283 rfl) (by decide) (by decide) hf (fun r1 hf => ?_)
  refine ev_ic (v := 0) (q_cod qk283 rfl) (by decide) (by decide) ?_
  refine em_lI (q_cod qk283 rfl) (by decide) hf (fun v2 hf => ?_)
  refine em_ic_ge (q_cod qk283 rfl) (by decide) hf (fun c11 hf => ?_) (fun c11 hf => ?_)
  · refine ev_iload (q_cod qk283 rfl) (by decide) rfl ?_
    refine em_if_ne (q_cod qk283 rfl) (by decide) hf (fun c10 hf => ?_) (fun c10 hf => ?_)
    · refine ev_iload (q_cod qk283 rfl) (by decide) rfl ?_
      refine ev_iload_n (q_cod qk283 rfl) (by decide) rfl ?_
      refine em_ic_eq (q_cod qk283 rfl) (by decide) hf (fun c9 hf => ?_) (fun c9 hf => ?_)
      · exact ev_weak (q_pk [0, 1, 2, 3, 5] rfl) (f283_56_ok hf hK)
      · refine ev_aload_n (q_cod qk283 rfl) (by decide) rfl ?_
        refine ev_ic (v := 0) (q_cod qk283 rfl) (by decide) (by decide) ?_
        refine ev_iload_n (q_cod qk283 rfl) (by decide) rfl ?_
        refine ev_iload (q_cod qk283 rfl) (by decide) rfl ?_
        obtain ⟨g3, hf⟩ := m_aK_some hf
        refine em_call (v := (fun u => some (.int u))) (q_cod qk283 rfl) rfl rfl (q_cokV rfl rfl (Or.inr g3)) rfl (fun x e => f208_cl e) hf (fun v4 h hf => ?_)
        refine em_if_eq (q_cod qk283 rfl) (by decide) hf (fun c8 hf => ?_) (fun c8 hf => ?_)
        · exact ev_weak (q_pk [0, 1, 2, 3, 5] rfl) (f283_56_ok hf hK)
        · refine ev_aload_n (q_cod qk283 rfl) (by decide) rfl ?_
          refine ev_ic (v := 0) (q_cod qk283 rfl) (by decide) (by decide) ?_
          refine ev_iload (q_cod qk283 rfl) (by decide) rfl ?_
          refine ev_iload_n (q_cod qk283 rfl) (by decide) rfl ?_
          refine ev_iload_n (q_cod qk283 rfl) (by decide) rfl ?_
          obtain ⟨g5, hf⟩ := m_aK_some hf
          refine em_call (v := (fun u => some (.int u))) (q_cod qk283 rfl) rfl rfl (q_cokV rfl rfl (Or.inr g5)) rfl (fun x e => f213_cl e) hf (fun v6 h hf => ?_)
          refine ev_ic (v := (-1)) (q_cod qk283 rfl) (by decide) (by decide) ?_
          refine em_ic_eq (q_cod qk283 rfl) (by decide) hf (fun c7 hf => ?_) (fun c7 hf => ?_)
          · exact ev_weak (q_pk [0, 1, 2, 3, 5] rfl) (f283_56_ok hf hK)
          · exact ev_weak (q_pk [0, 1, 2, 3, 5] rfl) (f283_52_ok hf hK)
    · exact ev_weak (q_pk [0, 1, 2, 3, 5] rfl) (f283_52_ok hf hK)
  · obtain ⟨y0, hf0, hx⟩ := m_inr_some hf
    subst hx
    exact ev_weak (q_pk [4] rfl) (f283_65_ok hf0 hK)
def f283_6 (l0 : Nat) (l1 : Int32) (l2 : Int32) (l3 : Int32) (l4 : Int32) (l5 : Int32) : m_M Int32 := m_W (fun s => f283_6b (s.1) (s.2.1) (s.2.2.1) (s.2.2.2.1) (s.2.2.2.2.1) (s.2.2.2.2.2)) 1000000 (l0, l1, l2, l3, l4, l5)
theorem f283_6_ok {l0 : Nat} {l1 : Int32} {l2 : Int32} {l3 : Int32} {l4 : Int32} {l5 : Int32} {h : q_H} {o : q_O} {hz : q_H} {x : Int32 × q_H} (hf : f283_6 l0 l1 l2 l3 l4 l5 h = some x) (hK : (q_KI o hz) x) : q_Ev none 283 6 [(0, .ref l0), (1, .int l1), (2, .int l2), (3, .int l3), (4, .int l4), (5, .int l5)] [] h o hz :=
  m_W_ok (P := (fun (s : Nat × Int32 × Int32 × Int32 × Int32 × Int32) (h : q_H) => q_Ev none 283 6 [(0, .ref (s.1)), (1, .int (s.2.1)), (2, .int (s.2.2.1)), (3, .int (s.2.2.2.1)), (4, .int (s.2.2.2.2.1)), (5, .int (s.2.2.2.2.2))] [] h o hz)) (K := (q_KI o hz)) (fun s h x h1 h2 => f283_6b_ok h1 h2) _ (l0, l1, l2, l3, l4, l5) _ _ hf hK
def f283 (l0 : Nat) (l1 : Int32) (l2 : Int32) (l3 : Int32) : m_M Int32 :=
  f283_6 l0 l1 l2 l3 0 0
theorem f283_ok {l0 : Nat} {l1 : Int32} {l2 : Int32} {l3 : Int32} {h : q_H} {o : q_O} {hz : q_H} {x : Int32 × q_H} (hf : f283 l0 l1 l2 l3 h = some x) (hK : (q_KI o hz) x) : q_Ev none 283 0 [(0, .ref l0), (1, .int l1), (2, .int l2), (3, .int l3)] [] h o hz := by
  unfold f283 at hf
  refine ev_ic (v := 0) (q_cod qk283 rfl) (by decide) (by decide) ?_
  refine ev_is2 (L' := [(0, .ref l0), (1, .int l1), (2, .int l2), (3, .int l3), (4, .int 0)]) (q_cod qk283 rfl) (by decide) rfl ?_
  refine ev_ic (v := 0) (q_cod qk283 rfl) (by decide) (by decide) ?_
  refine ev_is2 (L' := [(0, .ref l0), (1, .int l1), (2, .int l2), (3, .int l3), (4, .int 0), (5, .int 0)]) (q_cod qk283 rfl) (by decide) rfl ?_
  exact (f283_6_ok hf hK)
theorem f283_cl {l0 : Nat} {l1 : Int32} {l2 : Int32} {l3 : Int32} {h : q_H} {x : Int32 × q_H} (hf : f283 l0 l1 l2 l3 h = some x) : q_Cl 283 [.ref l0, .int l1, .int l2, .int l3] h (.inl (some (.int x.1))) x.2 := q_Cl.of rfl (q_LvS rfl rfl) (f283_ok hf ⟨rfl, rfl⟩)
/-! SmithyBenchModel.emitInlined(IIIII)V -/
theorem qk285 : q_cs.getD 285 [] = qc_285 := rfl
def f285_137 (l0 : Nat) (l1 : Int32) (l2 : Int32) (l3 : Int32) (l4 : Int32) (l5 : Int32) (l6 : Int32) : m_M ((Nat × Int32 × Int32 × Int32 × Int32 × Int32 × Int32) ⊕ Unit) :=
  m_R (.inl (l0, l1, l2, l3, l4, l5, (l6 + 1)))
theorem f285_137_ok {l0 : Nat} {l1 : Int32} {l2 : Int32} {l3 : Int32} {l4 : Int32} {l5 : Int32} {l6 : Int32} {h : q_H} {o : q_O} {hz : q_H} {x : ((Nat × Int32 × Int32 × Int32 × Int32 × Int32 × Int32) ⊕ Unit) × q_H} (hf : f285_137 l0 l1 l2 l3 l4 l5 l6 h = some x) (hK : (m_yK (fun (s : Nat × Int32 × Int32 × Int32 × Int32 × Int32 × Int32) (h : q_H) => q_Ev none 285 3 [(0, .ref (s.1)), (1, .int (s.2.1)), (2, .int (s.2.2.1)), (3, .int (s.2.2.2.1)), (4, .int (s.2.2.2.2.1)), (5, .int (s.2.2.2.2.2.1)), (6, .int (s.2.2.2.2.2.2))] [] h o hz) (m_KU o hz)) x) : q_Ev none 285 137 [(0, .ref l0), (1, .int l1), (2, .int l2), (3, .int l3), (4, .int l4), (5, .int l5), (6, .int l6)] [] h o hz := by
  unfold f285_137 at hf
  refine ev_inc (v := l6 + 1) (L' := [(0, .ref l0), (1, .int l1), (2, .int l2), (3, .int l3), (4, .int l4), (5, .int l5), (6, .int (l6 + 1))]) (q_cod qk285 rfl) (by decide) rfl rfl rfl ?_
  refine ev_goto (q_cod qk285 rfl) (by decide) ?_
  obtain rfl := m_R_inv hf
  exact (show q_Ev none 285 3 [(0, .ref l0), (1, .int l1), (2, .int l2), (3, .int l3), (4, .int l4), (5, .int l5), (6, .int (l6 + 1))] [] _ o hz from hK)
def f285_130 (l0 : Nat) (l1 : Int32) (l2 : Int32) (l3 : Int32) (l4 : Int32) (l5 : Int32) (l6 : Int32) : m_M ((Nat × Int32 × Int32 × Int32 × Int32 × Int32 × Int32) ⊕ Unit) :=
  m_B (m_aK l0 12) (fun _ => m_B (f261 l0 l3 l6) (fun _ => f285_137 l0 l1 l2 l3 l4 l5 l6))
theorem f285_130_ok {l0 : Nat} {l1 : Int32} {l2 : Int32} {l3 : Int32} {l4 : Int32} {l5 : Int32} {l6 : Int32} {h : q_H} {o : q_O} {hz : q_H} {x : ((Nat × Int32 × Int32 × Int32 × Int32 × Int32 × Int32) ⊕ Unit) × q_H} (hf : f285_130 l0 l1 l2 l3 l4 l5 l6 h = some x) (hK : (m_yK (fun (s : Nat × Int32 × Int32 × Int32 × Int32 × Int32 × Int32) (h : q_H) => q_Ev none 285 3 [(0, .ref (s.1)), (1, .int (s.2.1)), (2, .int (s.2.2.1)), (3, .int (s.2.2.2.1)), (4, .int (s.2.2.2.2.1)), (5, .int (s.2.2.2.2.2.1)), (6, .int (s.2.2.2.2.2.2))] [] h o hz) (m_KU o hz)) x) : q_Ev none 285 130 [(0, .ref l0), (1, .int l1), (2, .int l2), (3, .int l3), (4, .int l4), (5, .int l5), (6, .int l6)] [] h o hz := by
  unfold f285_130 at hf
  refine ev_aload_n (q_cod qk285 rfl) (by decide) rfl ?_
  refine ev_iload_n (q_cod qk285 rfl) (by decide) rfl ?_
  refine ev_iload (q_cod qk285 rfl) (by decide) rfl ?_
  obtain ⟨g1, hf⟩ := m_aK_some hf
  refine em_call (v := (fun _ => none)) (q_cod qk285 rfl) rfl rfl (q_cokV rfl rfl (Or.inr g1)) rfl (fun x e => f261_cl e) hf (fun _ h hf => ?_)
  exact (f285_137_ok hf hK)
def f285_78 (l0 : Nat) (l1 : Int32) (l2 : Int32) (l3 : Int32) (l4 : Int32) (l5 : Int32) (l6 : Int32) (l7 : Int32) (l8 : Int32) : m_M ((Nat × Int32 × Int32 × Int32 × Int32 × Int32 × Int32) ⊕ Unit) :=
  if l8 = 0 then (f285_130 l0 l1 l2 l3 l4 l5 l6) else (if l7 < 1000 then (f285_130 l0 l1 l2 l3 l4 l5 l6) else (m_B (m_aK l0 12) (fun _ => m_B (f200 l0 0 l3 l6) (fun v2 => m_B (m_aK l0 12) (fun _ => m_B (f225 l0 0 l1 l2 v2) (fun v4 => m_B (f267 v4) (fun v5 => if v5 = 0 then (f285_130 l0 l1 l2 l3 l4 l5 l6) else (m_B (m_aK l0 12) (fun _ => m_B (f200 l0 0 l3 l6) (fun v7 => m_B (m_aK l0 12) (fun _ => m_B (f263 l0 l3 l6 v7) (fun _ => f285_137 l0 l1 l2 l3 l4 l5 l6))))))))))))
theorem f285_78_ok {l0 : Nat} {l1 : Int32} {l2 : Int32} {l3 : Int32} {l4 : Int32} {l5 : Int32} {l6 : Int32} {l7 : Int32} {l8 : Int32} {h : q_H} {o : q_O} {hz : q_H} {x : ((Nat × Int32 × Int32 × Int32 × Int32 × Int32 × Int32) ⊕ Unit) × q_H} (hf : f285_78 l0 l1 l2 l3 l4 l5 l6 l7 l8 h = some x) (hK : (m_yK (fun (s : Nat × Int32 × Int32 × Int32 × Int32 × Int32 × Int32) (h : q_H) => q_Ev none 285 3 [(0, .ref (s.1)), (1, .int (s.2.1)), (2, .int (s.2.2.1)), (3, .int (s.2.2.2.1)), (4, .int (s.2.2.2.2.1)), (5, .int (s.2.2.2.2.2.1)), (6, .int (s.2.2.2.2.2.2))] [] h o hz) (m_KU o hz)) x) : q_Ev none 285 78 [(0, .ref l0), (1, .int l1), (2, .int l2), (3, .int l3), (4, .int l4), (5, .int l5), (6, .int l6), (7, .int l7), (8, .int l8)] [] h o hz := by
  unfold f285_78 at hf
  refine ev_iload (q_cod qk285 rfl) (by decide) rfl ?_
  refine em_if_eq (q_cod qk285 rfl) (by decide) hf (fun c12 hf => ?_) (fun c12 hf => ?_)
  · exact ev_weak (q_pk [0, 1, 2, 3, 4, 5, 6] rfl) (f285_130_ok hf hK)
  · refine ev_iload (q_cod qk285 rfl) (by decide) rfl ?_
    refine ev_si (v := 1000) (q_cod qk285 rfl) (by decide) (by decide) ?_
    refine em_ic_lt (q_cod qk285 rfl) (by decide) hf (fun c11 hf => ?_) (fun c11 hf => ?_)
    · exact ev_weak (q_pk [0, 1, 2, 3, 4, 5, 6] rfl) (f285_130_ok hf hK)
    · refine ev_aload_n (q_cod qk285 rfl) (by decide) rfl ?_
      refine ev_ic (v := 0) (q_cod qk285 rfl) (by decide) (by decide) ?_
      refine ev_iload_n (q_cod qk285 rfl) (by decide) rfl ?_
      refine ev_iload_n (q_cod qk285 rfl) (by decide) rfl ?_
      refine ev_aload_n (q_cod qk285 rfl) (by decide) rfl ?_
      refine ev_ic (v := 0) (q_cod qk285 rfl) (by decide) (by decide) ?_
      refine ev_iload_n (q_cod qk285 rfl) (by decide) rfl ?_
      refine ev_iload (q_cod qk285 rfl) (by decide) rfl ?_
      obtain ⟨g1, hf⟩ := m_aK_some hf
      refine em_call (v := (fun u => some (.int u))) (q_cod qk285 rfl) rfl rfl (q_cokV rfl rfl (Or.inr g1)) rfl (fun x e => f200_cl e) hf (fun v2 h hf => ?_)
      obtain ⟨g3, hf⟩ := m_aK_some hf
      refine em_call (v := (fun u => some (.int u))) (q_cod qk285 rfl) rfl rfl (q_cokV rfl rfl (Or.inr g3)) rfl (fun x e => f225_cl e) hf (fun v4 h hf => ?_)
      refine em_call (v := (fun u => some (.int u))) (q_cod qk285 rfl) rfl rfl (q_cokS rfl rfl) rfl (fun x e => f267_cl e) hf (fun v5 h hf => ?_)
      refine em_if_eq (q_cod qk285 rfl) (by decide) hf (fun c10 hf => ?_) (fun c10 hf => ?_)
      · exact ev_weak (q_pk [0, 1, 2, 3, 4, 5, 6] rfl) (f285_130_ok hf hK)
      · refine ev_aload_n (q_cod qk285 rfl) (by decide) rfl ?_
        refine ev_iload_n (q_cod qk285 rfl) (by decide) rfl ?_
        refine ev_iload (q_cod qk285 rfl) (by decide) rfl ?_
        refine ev_aload_n (q_cod qk285 rfl) (by decide) rfl ?_
        refine ev_ic (v := 0) (q_cod qk285 rfl) (by decide) (by decide) ?_
        refine ev_iload_n (q_cod qk285 rfl) (by decide) rfl ?_
        refine ev_iload (q_cod qk285 rfl) (by decide) rfl ?_
        obtain ⟨g6, hf⟩ := m_aK_some hf
        refine em_call (v := (fun u => some (.int u))) (q_cod qk285 rfl) rfl rfl (q_cokV rfl rfl (Or.inr g6)) rfl (fun x e => f200_cl e) hf (fun v7 h hf => ?_)
        obtain ⟨g8, hf⟩ := m_aK_some hf
        refine em_call (v := (fun _ => none)) (q_cod qk285 rfl) rfl rfl (q_cokV rfl rfl (Or.inr g8)) rfl (fun x e => f263_cl e) hf (fun _ h hf => ?_)
        refine ev_goto (q_cod qk285 rfl) (by decide) ?_
        exact ev_weak (q_pk [0, 1, 2, 3, 4, 5, 6] rfl) (f285_137_ok hf hK)
def f285_71 (l0 : Nat) (l1 : Int32) (l2 : Int32) (l3 : Int32) (l4 : Int32) (l5 : Int32) (l6 : Int32) (s0 : Nat) (s1 : Int32) (s2 : Int32) : m_M ((Nat × Int32 × Int32 × Int32 × Int32 × Int32 × Int32) ⊕ Unit) :=
  m_B (m_aK s0 12) (fun _ => m_B (f260 s0 s1 s2 0) (fun _ => f285_137 l0 l1 l2 l3 l4 l5 l6))
theorem f285_71_ok {l0 : Nat} {l1 : Int32} {l2 : Int32} {l3 : Int32} {l4 : Int32} {l5 : Int32} {l6 : Int32} {s0 : Nat} {s1 : Int32} {s2 : Int32} {h : q_H} {o : q_O} {hz : q_H} {x : ((Nat × Int32 × Int32 × Int32 × Int32 × Int32 × Int32) ⊕ Unit) × q_H} (hf : f285_71 l0 l1 l2 l3 l4 l5 l6 s0 s1 s2 h = some x) (hK : (m_yK (fun (s : Nat × Int32 × Int32 × Int32 × Int32 × Int32 × Int32) (h : q_H) => q_Ev none 285 3 [(0, .ref (s.1)), (1, .int (s.2.1)), (2, .int (s.2.2.1)), (3, .int (s.2.2.2.1)), (4, .int (s.2.2.2.2.1)), (5, .int (s.2.2.2.2.2.1)), (6, .int (s.2.2.2.2.2.2))] [] h o hz) (m_KU o hz)) x) : q_Ev none 285 71 [(0, .ref l0), (1, .int l1), (2, .int l2), (3, .int l3), (4, .int l4), (5, .int l5), (6, .int l6)] [.int s2, .int s1, .ref s0] h o hz := by
  unfold f285_71 at hf
  refine ev_ic (v := 0) (q_cod qk285 rfl) (by decide) (by decide) ?_
  obtain ⟨g1, hf⟩ := m_aK_some hf
  refine em_call (v := (fun _ => none)) (q_cod qk285 rfl) rfl rfl (q_cokV rfl rfl (Or.inr g1)) rfl (fun x e => f260_cl e) hf (fun _ h hf => ?_)
  refine ev_goto (q_cod qk285 rfl) (by decide) ?_
  exact (f285_137_ok hf hK)
def f285_49 (l0 : Nat) (l1 : Int32) (l2 : Int32) (l3 : Int32) (l4 : Int32) (l5 : Int32) (l6 : Int32) (l7 : Int32) : m_M ((Nat × Int32 × Int32 × Int32 × Int32 × Int32 × Int32) ⊕ Unit) :=
  m_B (m_aK l0 12) (fun _ => m_B (f199 l0 0 l3 l6) (fun v2 => if l7 = (-1) then (f285_71 l0 l1 l2 l3 l4 l5 l6 l0 v2 l4) else (f285_71 l0 l1 l2 l3 l4 l5 l6 l0 v2 l5)))
theorem f285_49_ok {l0 : Nat} {l1 : Int32} {l2 : Int32} {l3 : Int32} {l4 : Int32} {l5 : Int32} {l6 : Int32} {l7 : Int32} {h : q_H} {o : q_O} {hz : q_H} {x : ((Nat × Int32 × Int32 × Int32 × Int32 × Int32 × Int32) ⊕ Unit) × q_H} (hf : f285_49 l0 l1 l2 l3 l4 l5 l6 l7 h = some x) (hK : (m_yK (fun (s : Nat × Int32 × Int32 × Int32 × Int32 × Int32 × Int32) (h : q_H) => q_Ev none 285 3 [(0, .ref (s.1)), (1, .int (s.2.1)), (2, .int (s.2.2.1)), (3, .int (s.2.2.2.1)), (4, .int (s.2.2.2.2.1)), (5, .int (s.2.2.2.2.2.1)), (6, .int (s.2.2.2.2.2.2))] [] h o hz) (m_KU o hz)) x) : q_Ev none 285 49 [(0, .ref l0), (1, .int l1), (2, .int l2), (3, .int l3), (4, .int l4), (5, .int l5), (6, .int l6), (7, .int l7)] [] h o hz := by
  unfold f285_49 at hf
  refine ev_aload_n (q_cod qk285 rfl) (by decide) rfl ?_
  refine ev_aload_n (q_cod qk285 rfl) (by decide) rfl ?_
  refine ev_ic (v := 0) (q_cod qk285 rfl) (by decide) (by decide) ?_
  refine ev_iload_n (q_cod qk285 rfl) (by decide) rfl ?_
  refine ev_iload (q_cod qk285 rfl) (by decide) rfl ?_
  obtain ⟨g1, hf⟩ := m_aK_some hf
  refine em_call (v := (fun u => some (.int u))) (q_cod qk285 rfl) rfl rfl (q_cokV rfl rfl (Or.inr g1)) rfl (fun x e => f199_cl e) hf (fun v2 h hf => ?_)
  refine ev_iload (q_cod qk285 rfl) (by decide) rfl ?_
  refine ev_ic (v := (-1)) (q_cod qk285 rfl) (by decide) (by decide) ?_
  refine em_ic_ne (q_cod qk285 rfl) (by decide) hf (fun c3 hf => ?_) (fun c3 hf => ?_)
  · refine ev_iload (q_cod qk285 rfl) (by decide) rfl ?_
    refine ev_goto (q_cod qk285 rfl) (by decide) ?_
    exact ev_weak (q_pk [0, 1, 2, 3, 4, 5, 6] rfl) (f285_71_ok hf hK)
  · refine ev_iload (q_cod qk285 rfl) (by decide) rfl ?_
    exact ev_weak (q_pk [0, 1, 2, 3, 4, 5, 6] rfl) (f285_71_ok hf hK)
def f285_143  : m_M Unit :=
  m_R ()
theorem f285_143_ok  {h : q_H} {o : q_O} {hz : q_H} {x : Unit × q_H} (hf : f285_143 h = some x) (hK : (m_KU o hz) x) : q_Ev none 285 143 [] [] h o hz := by
  unfold f285_143 at hf
  obtain rfl := m_R_inv hf
  obtain ⟨rfl, rfl⟩ := (show m_KU o hz ((), _) from hK)
  exact ev_ret (q_cod qk285 rfl) rfl
def f285_3b (l0 : Nat) (l1 : Int32) (l2 : Int32) (l3 : Int32) (l4 : Int32) (l5 : Int32) (l6 : Int32) : m_M ((Nat × Int32 × Int32 × Int32 × Int32 × Int32 × Int32) ⊕ Unit) :=
  m_B (m_aK l0 12) (fun _ => m_B (f270 l0 l3) (fun v2 => if l6 < v2 then (m_B (m_aK l0 12) (fun _ => m_B (f268 l0 l3 l6) (fun v4 => m_B (m_aK l0 12) (fun _ => m_B (f266 l0 l3 l6) (fun v6 => if v6 = 0 then (f285_78 l0 l1 l2 l3 l4 l5 l6 v4 v6) else (if v4 = (-1) then (f285_49 l0 l1 l2 l3 l4 l5 l6 v4) else (if v4 = (-2) then (f285_49 l0 l1 l2 l3 l4 l5 l6 v4) else (f285_78 l0 l1 l2 l3 l4 l5 l6 v4 v6)))))))) else (m_B (f285_143) (fun r => m_R (.inr r)))))
theorem f285_3b_ok {l0 : Nat} {l1 : Int32} {l2 : Int32} {l3 : Int32} {l4 : Int32} {l5 : Int32} {l6 : Int32} {h : q_H} {o : q_O} {hz : q_H} {x : ((Nat × Int32 × Int32 × Int32 × Int32 × Int32 × Int32) ⊕ Unit) × q_H} (hf : f285_3b l0 l1 l2 l3 l4 l5 l6 h = some x) (hK : (m_yK (fun (s : Nat × Int32 × Int32 × Int32 × Int32 × Int32 × Int32) (h : q_H) => q_Ev none 285 3 [(0, .ref (s.1)), (1, .int (s.2.1)), (2, .int (s.2.2.1)), (3, .int (s.2.2.2.1)), (4, .int (s.2.2.2.2.1)), (5, .int (s.2.2.2.2.2.1)), (6, .int (s.2.2.2.2.2.2))] [] h o hz) (m_KU o hz)) x) : q_Ev none 285 3 [(0, .ref l0), (1, .int l1), (2, .int l2), (3, .int l3), (4, .int l4), (5, .int l5), (6, .int l6)] [] h o hz := by
  unfold f285_3b at hf
  refine ev_iload (q_cod qk285 rfl) (by decide) rfl ?_
  refine ev_aload_n (q_cod qk285 rfl) (by decide) rfl ?_
  refine ev_iload_n (q_cod qk285 rfl) (by decide) rfl ?_
  obtain ⟨g1, hf⟩ := m_aK_some hf
  refine em_call (v := (fun u => some (.int u))) (q_cod qk285 rfl) rfl rfl (q_cokV rfl rfl (Or.inr g1)) rfl (fun x e => f270_cl e) hf (fun v2 h hf => ?_)
  refine em_ic_ge (q_cod qk285 rfl) (by decide) hf (fun c10 hf => ?_) (fun c10 hf => ?_)
  · refine ev_aload_n (q_cod qk285 rfl) (by decide) rfl ?_
    refine ev_iload_n (q_cod qk285 rfl) (by decide) rfl ?_
    refine ev_iload (q_cod qk285 rfl) (by decide) rfl ?_
    obtain ⟨g3, hf⟩ := m_aK_some hf
    refine em_call (v := (fun u => some (.int u))) (q_cod qk285 rfl) rfl rfl (q_cokV rfl rfl (Or.inr g3)) rfl (fun x e => f268_cl e) hf (fun v4 h hf => ?_)
    refine ev_is2 (L' := [(0, .ref l0), (1, .int l1), (2, .int l2), (3, .int l3), (4, .int l4), (5, .int l5), (6, .int l6), (7, .int v4)]) (q_cod qk285 rfl) (by decide) rfl ?_
    refine ev_aload_n (q_cod qk285 rfl) (by decide) rfl ?_
    refine ev_iload_n (q_cod qk285 rfl) (by decide) rfl ?_
    refine ev_iload (q_cod qk285 rfl) (by decide) rfl ?_
    obtain ⟨g5, hf⟩ := m_aK_some hf
    refine em_call (v := (fun u => some (.int u))) (q_cod qk285 rfl) rfl rfl (q_cokV rfl rfl (Or.inr g5)) rfl (fun x e => f266_cl e) hf (fun v6 h hf => ?_)
    refine ev_is2 (L' := [(0, .ref l0), (1, .int l1), (2, .int l2), (3, .int l3), (4, .int l4), (5, .int l5), (6, .int l6), (7, .int v4), (8, .int v6)]) (q_cod qk285 rfl) (by decide) rfl ?_
    refine ev_iload (q_cod qk285 rfl) (by decide) rfl ?_
    refine em_if_eq (q_cod qk285 rfl) (by decide) hf (fun c9 hf => ?_) (fun c9 hf => ?_)
    · exact (f285_78_ok hf hK)
    · refine ev_iload (q_cod qk285 rfl) (by decide) rfl ?_
      refine ev_ic (v := (-1)) (q_cod qk285 rfl) (by decide) (by decide) ?_
      refine em_ic_eq (q_cod qk285 rfl) (by decide) hf (fun c8 hf => ?_) (fun c8 hf => ?_)
      · exact ev_weak (q_pk [0, 1, 2, 3, 4, 5, 6, 7] rfl) (f285_49_ok hf hK)
      · refine ev_iload (q_cod qk285 rfl) (by decide) rfl ?_
        refine ev_bi (v := (-2)) (q_cod qk285 rfl) (by decide) (by decide) ?_
        refine em_ic_ne (q_cod qk285 rfl) (by decide) hf (fun c7 hf => ?_) (fun c7 hf => ?_)
        · exact ev_weak (q_pk [0, 1, 2, 3, 4, 5, 6, 7] rfl) (f285_49_ok hf hK)
        · exact (f285_78_ok hf hK)
  · obtain ⟨y0, hf0, hx⟩ := m_inr_some hf
    subst hx
    exact ev_weak (q_pk [] rfl) (f285_143_ok hf0 hK)
def f285_3 (l0 : Nat) (l1 : Int32) (l2 : Int32) (l3 : Int32) (l4 : Int32) (l5 : Int32) (l6 : Int32) : m_M Unit := m_W (fun s => f285_3b (s.1) (s.2.1) (s.2.2.1) (s.2.2.2.1) (s.2.2.2.2.1) (s.2.2.2.2.2.1) (s.2.2.2.2.2.2)) 1000000 (l0, l1, l2, l3, l4, l5, l6)
theorem f285_3_ok {l0 : Nat} {l1 : Int32} {l2 : Int32} {l3 : Int32} {l4 : Int32} {l5 : Int32} {l6 : Int32} {h : q_H} {o : q_O} {hz : q_H} {x : Unit × q_H} (hf : f285_3 l0 l1 l2 l3 l4 l5 l6 h = some x) (hK : (m_KU o hz) x) : q_Ev none 285 3 [(0, .ref l0), (1, .int l1), (2, .int l2), (3, .int l3), (4, .int l4), (5, .int l5), (6, .int l6)] [] h o hz :=
  m_W_ok (P := (fun (s : Nat × Int32 × Int32 × Int32 × Int32 × Int32 × Int32) (h : q_H) => q_Ev none 285 3 [(0, .ref (s.1)), (1, .int (s.2.1)), (2, .int (s.2.2.1)), (3, .int (s.2.2.2.1)), (4, .int (s.2.2.2.2.1)), (5, .int (s.2.2.2.2.2.1)), (6, .int (s.2.2.2.2.2.2))] [] h o hz)) (K := (m_KU o hz)) (fun s h x h1 h2 => f285_3b_ok h1 h2) _ (l0, l1, l2, l3, l4, l5, l6) _ _ hf hK
def f285 (l0 : Nat) (l1 : Int32) (l2 : Int32) (l3 : Int32) (l4 : Int32) (l5 : Int32) : m_M Unit :=
  f285_3 l0 l1 l2 l3 l4 l5 0
theorem f285_ok {l0 : Nat} {l1 : Int32} {l2 : Int32} {l3 : Int32} {l4 : Int32} {l5 : Int32} {h : q_H} {o : q_O} {hz : q_H} {x : Unit × q_H} (hf : f285 l0 l1 l2 l3 l4 l5 h = some x) (hK : (m_KU o hz) x) : q_Ev none 285 0 [(0, .ref l0), (1, .int l1), (2, .int l2), (3, .int l3), (4, .int l4), (5, .int l5)] [] h o hz := by
  unfold f285 at hf
  refine ev_ic (v := 0) (q_cod qk285 rfl) (by decide) (by decide) ?_
  refine ev_is2 (L' := [(0, .ref l0), (1, .int l1), (2, .int l2), (3, .int l3), (4, .int l4), (5, .int l5), (6, .int 0)]) (q_cod qk285 rfl) (by decide) rfl ?_
  exact (f285_3_ok hf hK)
theorem f285_cl {l0 : Nat} {l1 : Int32} {l2 : Int32} {l3 : Int32} {l4 : Int32} {l5 : Int32} {h : q_H} {x : Unit × q_H} (hf : f285 l0 l1 l2 l3 l4 l5 h = some x) : q_Cl 285 [.ref l0, .int l1, .int l2, .int l3, .int l4, .int l5] h (.inl none) x.2 := q_Cl.of rfl (q_LvS rfl rfl) (f285_ok hf ⟨rfl, rfl⟩)
/-! SmithyBenchModel.inline(II)I -/
theorem qk284 : q_cs.getD 284 [] = qc_284 := rfl
def f284_169  : m_M Int32 :=
  m_R (-6)
set_option maxRecDepth 20000 in
theorem f284_169_ok  {h : q_H} {o : q_O} {hz : q_H} {x : Int32 × q_H} (hf : f284_169 h = some x) (hK : (q_KI o hz) x) : q_Ev none 284 169 [] [] h o hz := by
  unfold f284_169 at hf
  refine ev_bi (v := (-6)) (q_cod qk284 rfl) (by decide) (by decide) ?_
  obtain rfl := m_R_inv hf
  obtain ⟨rfl, rfl⟩ := (show q_KI o hz ((-6), _) from hK)
  exact ev_ret (q_cod qk284 rfl) rfl
def f284_225 (l0 : Nat) (l1 : Int32) (l2 : Int32) (l3 : Int32) (l4 : Int32) (l5 : Int32) (l6 : Int32) (l7 : Int32) (l8 : Int32) (s0 : Nat) (s1 : Int32) (s2 : Int32) : m_M ((Nat × Int32 × Int32 × Int32 × Int32 × Int32 × Int32 × Int32) ⊕ Int32) :=
  m_B (m_aK s0 12) (fun _ => m_B (f260 s0 s1 s2 0) (fun _ => m_B (m_aK l0 12) (fun _ => m_B (f269 l0 l1 l8) (fun v4 => m_B (m_aK l0 12) (fun _ => m_B (f262 l0 l1 l8 (l8 + v4)) (fun _ => m_R (.inl (l0, l1, l2, l3, l4, l5, l6, (l7 + 1)))))))))
set_option maxRecDepth 20000 in
theorem f284_225_ok {l0 : Nat} {l1 : Int32} {l2 : Int32} {l3 : Int32} {l4 : Int32} {l5 : Int32} {l6 : Int32} {l7 : Int32} {l8 : Int32} {s0 : Nat} {s1 : Int32} {s2 : Int32} {h : q_H} {o : q_O} {hz : q_H} {x : ((Nat × Int32 × Int32 × Int32 × Int32 × Int32 × Int32 × Int32) ⊕ Int32) × q_H} (hf : f284_225 l0 l1 l2 l3 l4 l5 l6 l7 l8 s0 s1 s2 h = some x) (hK : (m_yK (fun (s : Nat × Int32 × Int32 × Int32 × Int32 × Int32 × Int32 × Int32) (h : q_H) => q_Ev none 284 193 [(0, .ref (s.1)), (1, .int (s.2.1)), (2, .int (s.2.2.1)), (3, .int (s.2.2.2.1)), (4, .int (s.2.2.2.2.1)), (5, .int (s.2.2.2.2.2.1)), (6, .int (s.2.2.2.2.2.2.1)), (7, .int (s.2.2.2.2.2.2.2))] [] h o hz) (q_KI o hz)) x) : q_Ev none 284 225 [(0, .ref l0), (1, .int l1), (2, .int l2), (3, .int l3), (4, .int l4), (5, .int l5), (6, .int l6), (7, .int l7), (8, .int l8)] [.int s2, .int s1, .ref s0] h o hz := by
  unfold f284_225 at hf
  refine ev_ic (v := 0) (q_cod qk284 rfl) (by decide) (by decide) ?_
  obtain ⟨g1, hf⟩ := m_aK_some hf
  refine em_call (v := (fun _ => none)) (q_cod qk284 rfl) rfl rfl (q_cokV rfl rfl (Or.inr g1)) rfl (fun x e => f260_cl e) hf (fun _ h hf => ?_)
  refine ev_aload_n (q_cod qk284 rfl) (by decide) rfl ?_
  refine ev_iload_n (q_cod qk284 rfl) (by decide) rfl ?_
  refine ev_iload (q_cod qk284 rfl) (by decide) rfl ?_
  refine ev_iload (q_cod qk284 rfl) (by decide) rfl ?_
  refine ev_aload_n (q_cod qk284 rfl) (by decide) rfl ?_
  refine ev_iload_n (q_cod qk284 rfl) (by decide) rfl ?_
  refine ev_iload (q_cod qk284 rfl) (by decide) rfl ?_
  obtain ⟨g3, hf⟩ := m_aK_some hf
  refine em_call (v := (fun u => some (.int u))) (q_cod qk284 rfl) rfl rfl (q_cokV rfl rfl (Or.inr g3)) rfl (fun x e => f269_cl e) hf (fun v4 h hf => ?_)
  refine ev_iadd (q_cod qk284 rfl) (by decide) ?_
  obtain ⟨g5, hf⟩ := m_aK_some hf
  refine em_call (v := (fun _ => none)) (q_cod qk284 rfl) rfl rfl (q_cokV rfl rfl (Or.inr g5)) rfl (fun x e => f262_cl e) hf (fun _ h hf => ?_)
  refine ev_inc (v := l7 + 1) (L' := [(0, .ref l0), (1, .int l1), (2, .int l2), (3, .int l3), (4, .int l4), (5, .int l5), (6, .int l6), (7, .int (l7 + 1)), (8, .int l8)]) (q_cod qk284 rfl) (by decide) rfl rfl rfl ?_
  refine ev_goto (q_cod qk284 rfl) (by decide) ?_
  obtain rfl := m_R_inv hf
  exact ev_weak (q_pk [0, 1, 2, 3, 4, 5, 6, 7] rfl) (show q_Ev none 284 193 [(0, .ref l0), (1, .int l1), (2, .int l2), (3, .int l3), (4, .int l4), (5, .int l5), (6, .int l6), (7, .int (l7 + 1))] [] _ o hz from hK)
def f284_319 (s0 : Int32) : m_M Int32 :=
  m_R s0
set_option maxRecDepth 20000 in
theorem f284_319_ok {s0 : Int32} {h : q_H} {o : q_O} {hz : q_H} {x : Int32 × q_H} (hf : f284_319 s0 h = some x) (hK : (q_KI o hz) x) : q_Ev none 284 319 [] [.int s0] h o hz := by
  unfold f284_319 at hf
  obtain rfl := m_R_inv hf
  obtain ⟨rfl, rfl⟩ := (show q_KI o hz (s0, _) from hK)
  exact ev_ret (q_cod qk284 rfl) rfl
def f284_252 (l0 : Nat) (l1 : Int32) (l2 : Int32) (l4 : Int32) (l5 : Int32) (l6 : Int32) : m_M Int32 :=
  m_B (m_aK l0 12) (fun _ => m_B (f285 l0 l1 l2 l4 l5 l6) (fun _ => m_B (m_aK l0 12) (fun _ => m_B (f269 l0 l1 l2) (fun v4 => m_B (m_aK l0 12) (fun _ => m_B (f270 l0 l1) (fun v6 => m_B (m_aK l0 12) (fun _ => m_B (f262 l0 l1 (l2 + v4) v6) (fun _ => m_B (m_aK l0 12) (fun _ => m_B (f264 l0 l1) (fun _ => m_B (m_aK l0 12) (fun _ => m_B (f235 l0 2) (fun v12 => if v12 = (-1) then (m_B (m_gI 12 l0 38) (fun v13 => m_B (m_aK l0 12) (fun _ => m_B (f271 l0) (fun v15 => if v15 = 0 then (f284_319 (-6)) else (f284_319 v13))))) else (m_R (-8))))))))))))))
set_option maxRecDepth 20000 in
theorem f284_252_ok {l0 : Nat} {l1 : Int32} {l2 : Int32} {l4 : Int32} {l5 : Int32} {l6 : Int32} {h : q_H} {o : q_O} {hz : q_H} {x : Int32 × q_H} (hf : f284_252 l0 l1 l2 l4 l5 l6 h = some x) (hK : (q_KI o hz) x) : q_Ev none 284 252 [(0, .ref l0), (1, .int l1), (2, .int l2), (4, .int l4), (5, .int l5), (6, .int l6)] [] h o hz := by
  unfold f284_252 at hf
  refine ev_aload_n (q_cod qk284 rfl) (by decide) rfl ?_
  refine ev_iload_n (q_cod qk284 rfl) (by decide) rfl ?_
  refine ev_iload_n (q_cod qk284 rfl) (by decide) rfl ?_
  refine ev_iload (q_cod qk284 rfl) (by decide) rfl ?_
  refine ev_iload (q_cod qk284 rfl) (by decide) rfl ?_
  refine ev_iload (q_cod qk284 rfl) (by decide) rfl ?_
  obtain ⟨g1, hf⟩ := m_aK_some hf
  refine em_call (v := (fun _ => none)) (q_cod qk284 rfl) rfl rfl (q_cokV rfl rfl (Or.inr g1)) rfl (fun x e => f285_cl e) hf (fun _ h hf => ?_)
  refine ev_aload_n (q_cod qk284 rfl) (by decide) rfl ?_
  refine ev_iload_n (q_cod qk284 rfl) (by decide) rfl ?_
  refine ev_iload_n (q_cod qk284 rfl) (by decide) rfl ?_
  refine ev_aload_n (q_cod qk284 rfl) (by decide) rfl ?_
  refine ev_iload_n (q_cod qk284 rfl) (by decide) rfl ?_
  refine ev_iload_n (q_cod qk284 rfl) (by decide) rfl ?_
  obtain ⟨g3, hf⟩ := m_aK_some hf
  refine em_call (v := (fun u => some (.int u))) (q_cod qk284 rfl) rfl rfl (q_cokV rfl rfl (Or.inr g3)) rfl (fun x e => f269_cl e) hf (fun v4 h hf => ?_)
  refine ev_iadd (q_cod qk284 rfl) (by decide) ?_
  refine ev_aload_n (q_cod qk284 rfl) (by decide) rfl ?_
  refine ev_iload_n (q_cod qk284 rfl) (by decide) rfl ?_
  obtain ⟨g5, hf⟩ := m_aK_some hf
  refine em_call (v := (fun u => some (.int u))) (q_cod qk284 rfl) rfl rfl (q_cokV rfl rfl (Or.inr g5)) rfl (fun x e => f270_cl e) hf (fun v6 h hf => ?_)
  obtain ⟨g7, hf⟩ := m_aK_some hf
  refine em_call (v := (fun _ => none)) (q_cod qk284 rfl) rfl rfl (q_cokV rfl rfl (Or.inr g7)) rfl (fun x e => f262_cl e) hf (fun _ h hf => ?_)
  refine ev_aload_n (q_cod qk284 rfl) (by decide) rfl ?_
  refine ev_iload_n (q_cod qk284 rfl) (by decide) rfl ?_
  obtain ⟨g9, hf⟩ := m_aK_some hf
  refine em_call (v := (fun _ => none)) (q_cod qk284 rfl) rfl rfl (q_cokV rfl rfl (Or.inr g9)) rfl (fun x e => f264_cl e) hf (fun _ h hf => ?_)
  refine ev_aload_n (q_cod qk284 rfl) (by decide) rfl ?_
  refine ev_ic (v := 2) (q_cod qk284 rfl) (by decide) (by decide) ?_
  obtain ⟨g11, hf⟩ := m_aK_some hf
  refine em_call (v := (fun u => some (.int u))) (q_cod qk284 rfl) rfl rfl (q_cokV rfl rfl (Or.inr g11)) rfl (fun x e => f235_cl e) hf (fun v12 h hf => ?_)
  refine ev_ic (v := (-1)) (q_cod qk284 rfl) (by decide) (by decide) ?_
  refine em_ic_eq (q_cod qk284 rfl) (by decide) hf (fun c17 hf => ?_) (fun c17 hf => ?_)
  · refine ev_aload_n (q_cod qk284 rfl) (by decide) rfl ?_
    refine em_gI (q_cod qk284 rfl) (by decide) (by decide) hf (fun v13 hf => ?_)
    refine ev_is2 (L' := [(0, .ref l0), (1, .int l1), (2, .int l2), (4, .int l4), (5, .int l5), (6, .int l6), (7, .int v13)]) (q_cod qk284 rfl) (by decide) rfl ?_
    refine ev_aload_n (q_cod qk284 rfl) (by decide) rfl ?_
    obtain ⟨g14, hf⟩ := m_aK_some hf
    refine em_call (v := (fun u => some (.int u))) (q_cod qk284 rfl) rfl rfl (q_cokV rfl rfl (Or.inr g14)) rfl (fun x e => f271_cl e) hf (fun v15 h hf => ?_)
    refine em_if_eq (q_cod qk284 rfl) (by decide) hf (fun c16 hf => ?_) (fun c16 hf => ?_)
    · refine ev_bi (v := (-6)) (q_cod qk284 rfl) (by decide) (by decide) ?_
      exact ev_weak (q_pk [] rfl) (f284_319_ok hf hK)
    · refine ev_iload (q_cod qk284 rfl) (by decide) rfl ?_
      refine ev_goto (q_cod qk284 rfl) (by decide) ?_
      exact ev_weak (q_pk [] rfl) (f284_319_ok hf hK)
  · refine ev_bi (v := (-8)) (q_cod qk284 rfl) (by decide) (by decide) ?_
    obtain rfl := m_R_inv hf
    obtain ⟨rfl, rfl⟩ := (show q_KI o hz ((-8), _) from hK)
    exact ev_ret (q_cod qk284 rfl) rfl
def f284_193b (l0 : Nat) (l1 : Int32) (l2 : Int32) (l3 : Int32) (l4 : Int32) (l5 : Int32) (l6 : Int32) (l7 : Int32) : m_M ((Nat × Int32 × Int32 × Int32 × Int32 × Int32 × Int32 × Int32) ⊕ Int32) :=
  if l7 < l3 then (m_B (m_aK l0 12) (fun _ => m_B (f223 l0 l1 l2 (1 + l7)) (fun v2 => if l7 = 0 then (f284_225 l0 l1 l2 l3 l4 l5 l6 l7 v2 l0 5 l5) else (f284_225 l0 l1 l2 l3 l4 l5 l6 l7 v2 l0 5 l6)))) else (m_B (f284_252 l0 l1 l2 l4 l5 l6) (fun r => m_R (.inr r)))
set_option maxRecDepth 20000 in
theorem f284_193b_ok {l0 : Nat} {l1 : Int32} {l2 : Int32} {l3 : Int32} {l4 : Int32} {l5 : Int32} {l6 : Int32} {l7 : Int32} {h : q_H} {o : q_O} {hz : q_H} {x : ((Nat × Int32 × Int32 × Int32 × Int32 × Int32 × Int32 × Int32) ⊕ Int32) × q_H} (hf : f284_193b l0 l1 l2 l3 l4 l5 l6 l7 h = some x) (hK : (m_yK (fun (s : Nat × Int32 × Int32 × Int32 × Int32 × Int32 × Int32 × Int32) (h : q_H) => q_Ev none 284 193 [(0, .ref (s.1)), (1, .int (s.2.1)), (2, .int (s.2.2.1)), (3, .int (s.2.2.2.1)), (4, .int (s.2.2.2.2.1)), (5, .int (s.2.2.2.2.2.1)), (6, .int (s.2.2.2.2.2.2.1)), (7, .int (s.2.2.2.2.2.2.2))] [] h o hz) (q_KI o hz)) x) : q_Ev none 284 193 [(0, .ref l0), (1, .int l1), (2, .int l2), (3, .int l3), (4, .int l4), (5, .int l5), (6, .int l6), (7, .int l7)] [] h o hz := by
  unfold f284_193b at hf
  refine ev_iload (q_cod qk284 rfl) (by decide) rfl ?_
  refine ev_iload_n (q_cod qk284 rfl) (by decide) rfl ?_
  refine em_ic_ge (q_cod qk284 rfl) (by decide) hf (fun c4 hf => ?_) (fun c4 hf => ?_)
  · refine ev_aload_n (q_cod qk284 rfl) (by decide) rfl ?_
    refine ev_iload_n (q_cod qk284 rfl) (by decide) rfl ?_
    refine ev_iload_n (q_cod qk284 rfl) (by decide) rfl ?_
    refine ev_ic (v := 1) (q_cod qk284 rfl) (by decide) (by decide) ?_
    refine ev_iload (q_cod qk284 rfl) (by decide) rfl ?_
    refine ev_iadd (q_cod qk284 rfl) (by decide) ?_
    obtain ⟨g1, hf⟩ := m_aK_some hf
    refine em_call (v := (fun u => some (.int u))) (q_cod qk284 rfl) rfl rfl (q_cokV rfl rfl (Or.inr g1)) rfl (fun x e => f223_cl e) hf (fun v2 h hf => ?_)
    refine ev_is2 (L' := [(0, .ref l0), (1, .int l1), (2, .int l2), (3, .int l3), (4, .int l4), (5, .int l5), (6, .int l6), (7, .int l7), (8, .int v2)]) (q_cod qk284 rfl) (by decide) rfl ?_
    refine ev_aload_n (q_cod qk284 rfl) (by decide) rfl ?_
    refine ev_ic (v := 5) (q_cod qk284 rfl) (by decide) (by decide) ?_
    refine ev_iload (q_cod qk284 rfl) (by decide) rfl ?_
    refine em_if_ne (q_cod qk284 rfl) (by decide) hf (fun c3 hf => ?_) (fun c3 hf => ?_)
    · refine ev_iload (q_cod qk284 rfl) (by decide) rfl ?_
      refine ev_goto (q_cod qk284 rfl) (by decide) ?_
      exact (f284_225_ok hf hK)
    · refine ev_iload (q_cod qk284 rfl) (by decide) rfl ?_
      exact (f284_225_ok hf hK)
  · obtain ⟨y0, hf0, hx⟩ := m_inr_some hf
    subst hx
    exact ev_weak (q_pk [0, 1, 2, 4, 5, 6] rfl) (f284_252_ok hf0 hK)
def f284_193 (l0 : Nat) (l1 : Int32) (l2 : Int32) (l3 : Int32) (l4 : Int32) (l5 : Int32) (l6 : Int32) (l7 : Int32) : m_M Int32 := m_W (fun s => f284_193b (s.1) (s.2.1) (s.2.2.1) (s.2.2.2.1) (s.2.2.2.2.1) (s.2.2.2.2.2.1) (s.2.2.2.2.2.2.1) (s.2.2.2.2.2.2.2)) 1000000 (l0, l1, l2, l3, l4, l5, l6, l7)
theorem f284_193_ok {l0 : Nat} {l1 : Int32} {l2 : Int32} {l3 : Int32} {l4 : Int32} {l5 : Int32} {l6 : Int32} {l7 : Int32} {h : q_H} {o : q_O} {hz : q_H} {x : Int32 × q_H} (hf : f284_193 l0 l1 l2 l3 l4 l5 l6 l7 h = some x) (hK : (q_KI o hz) x) : q_Ev none 284 193 [(0, .ref l0), (1, .int l1), (2, .int l2), (3, .int l3), (4, .int l4), (5, .int l5), (6, .int l6), (7, .int l7)] [] h o hz :=
  m_W_ok (P := (fun (s : Nat × Int32 × Int32 × Int32 × Int32 × Int32 × Int32 × Int32) (h : q_H) => q_Ev none 284 193 [(0, .ref (s.1)), (1, .int (s.2.1)), (2, .int (s.2.2.1)), (3, .int (s.2.2.2.1)), (4, .int (s.2.2.2.2.1)), (5, .int (s.2.2.2.2.2.1)), (6, .int (s.2.2.2.2.2.2.1)), (7, .int (s.2.2.2.2.2.2.2))] [] h o hz)) (K := (q_KI o hz)) (fun s h x h1 h2 => f284_193b_ok h1 h2) _ (l0, l1, l2, l3, l4, l5, l6, l7) _ _ hf hK
def f284_172 (l0 : Nat) (l1 : Int32) (l2 : Int32) (l3 : Int32) (l4 : Int32) (l5 : Int32) (l6 : Int32) : m_M Int32 :=
  m_B (m_aK l0 12) (fun _ => m_B (f203 l0 0 2) (fun _ => m_B (m_pI 12 l0 38 0) (fun _ => m_B (m_aK l0 12) (fun _ => m_B (f262 l0 l1 0 l2) (fun _ => f284_193 l0 l1 l2 l3 l4 l5 l6 0)))))
set_option maxRecDepth 20000 in
theorem f284_172_ok {l0 : Nat} {l1 : Int32} {l2 : Int32} {l3 : Int32} {l4 : Int32} {l5 : Int32} {l6 : Int32} {h : q_H} {o : q_O} {hz : q_H} {x : Int32 × q_H} (hf : f284_172 l0 l1 l2 l3 l4 l5 l6 h = some x) (hK : (q_KI o hz) x) : q_Ev none 284 172 [(0, .ref l0), (1, .int l1), (2, .int l2), (3, .int l3), (4, .int l4), (5, .int l5), (6, .int l6)] [] h o hz := by
  unfold f284_172 at hf
  refine ev_aload_n (q_cod qk284 rfl) (by decide) rfl ?_
  refine ev_ic (v := 0) (q_cod qk284 rfl) (by decide) (by decide) ?_
  refine ev_ic (v := 2) (q_cod qk284 rfl) (by decide) (by decide) ?_
  obtain ⟨g1, hf⟩ := m_aK_some hf
  refine em_call (v := (fun _ => none)) (q_cod qk284 rfl) rfl rfl (q_cokV rfl rfl (Or.inr g1)) rfl (fun x e => f203_cl e) hf (fun _ h hf => ?_)
  refine ev_aload_n (q_cod qk284 rfl) (by decide) rfl ?_
  refine ev_ic (v := 0) (q_cod qk284 rfl) (by decide) (by decide) ?_
  refine em_pI (q_cod qk284 rfl) (by decide) (by decide) (by decide) hf (fun hf => ?_)
  refine ev_aload_n (q_cod qk284 rfl) (by decide) rfl ?_
  refine ev_iload_n (q_cod qk284 rfl) (by decide) rfl ?_
  refine ev_ic (v := 0) (q_cod qk284 rfl) (by decide) (by decide) ?_
  refine ev_iload_n (q_cod qk284 rfl) (by decide) rfl ?_
  obtain ⟨g3, hf⟩ := m_aK_some hf
  refine em_call (v := (fun _ => none)) (q_cod qk284 rfl) rfl rfl (q_cokV rfl rfl (Or.inr g3)) rfl (fun x e => f262_cl e) hf (fun _ h hf => ?_)
  refine ev_ic (v := 0) (q_cod qk284 rfl) (by decide) (by decide) ?_
  refine ev_is2 (L' := [(0, .ref l0), (1, .int l1), (2, .int l2), (3, .int l3), (4, .int l4), (5, .int l5), (6, .int l6), (7, .int 0)]) (q_cod qk284 rfl) (by decide) rfl ?_
  exact (f284_193_ok hf hK)
def f284_158 (l0 : Nat) (l1 : Int32) (l2 : Int32) (l3 : Int32) (l4 : Int32) (l5 : Int32) (l6 : Int32) : m_M Int32 :=
  if 1 < l3 then (if l6 = (-1) then (f284_169) else (f284_172 l0 l1 l2 l3 l4 l5 l6)) else (f284_172 l0 l1 l2 l3 l4 l5 l6)
set_option maxRecDepth 20000 in
theorem f284_158_ok {l0 : Nat} {l1 : Int32} {l2 : Int32} {l3 : Int32} {l4 : Int32} {l5 : Int32} {l6 : Int32} {h : q_H} {o : q_O} {hz : q_H} {x : Int32 × q_H} (hf : f284_158 l0 l1 l2 l3 l4 l5 l6 h = some x) (hK : (q_KI o hz) x) : q_Ev none 284 158 [(0, .ref l0), (1, .int l1), (2, .int l2), (3, .int l3), (4, .int l4), (5, .int l5), (6, .int l6)] [] h o hz := by
  unfold f284_158 at hf
  refine ev_iload_n (q_cod qk284 rfl) (by decide) rfl ?_
  refine ev_ic (v := 1) (q_cod qk284 rfl) (by decide) (by decide) ?_
  refine em_ic_le (q_cod qk284 rfl) (by decide) hf (fun c2 hf => ?_) (fun c2 hf => ?_)
  · refine ev_iload (q_cod qk284 rfl) (by decide) rfl ?_
    refine ev_ic (v := (-1)) (q_cod qk284 rfl) (by decide) (by decide) ?_
    refine em_ic_ne (q_cod qk284 rfl) (by decide) hf (fun c1 hf => ?_) (fun c1 hf => ?_)
    · exact ev_weak (q_pk [] rfl) (f284_169_ok hf hK)
    · exact (f284_172_ok hf hK)
  · exact (f284_172_ok hf hK)
def f284_59  : m_M Int32 :=
  m_R (-10)
set_option maxRecDepth 20000 in
theorem f284_59_ok  {h : q_H} {o : q_O} {hz : q_H} {x : Int32 × q_H} (hf : f284_59 h = some x) (hK : (q_KI o hz) x) : q_Ev none 284 59 [] [] h o hz := by
  unfold f284_59 at hf
  refine ev_bi (v := (-10)) (q_cod qk284 rfl) (by decide) (by decide) ?_
  obtain rfl := m_R_inv hf
  obtain ⟨rfl, rfl⟩ := (show q_KI o hz ((-10), _) from hK)
  exact ev_ret (q_cod qk284 rfl) rfl
def f284_26 (l0 : Nat) (l1 : Int32) (l2 : Int32) (s0 : Nat) (s1 : Int32) : m_M Int32 :=
  m_B (m_aK s0 12) (fun _ => m_B (f178 s0 s1) (fun v2 => if v2 = 0 then (m_B (m_aK l0 12) (fun _ => m_B (f199 l0 0 l1 l2) (fun v4 => if v4 = 7 then (m_B (m_aK l0 12) (fun _ => m_B (f199 l0 0 l1 (l2 + 1)) (fun v6 => if v6 = 2 then (m_B (m_aK l0 12) (fun _ => m_B (f201 l0 0 l1 l2) (fun v8 => m_B (m_aK l0 12) (fun _ => m_B (f268 l0 l1 l2) (fun v10 => m_B (m_aK l0 12) (fun _ => m_B (f196 l0 0 l1 1) (fun v12 => m_B (m_aK l0 12) (fun _ => m_B (f200 l0 0 l1 l2) (fun v14 => m_B (m_aK l0 12) (fun _ => m_B (f282 l0 v12 v14 v8) (fun v16 => if v16 = 0 then (m_B (m_aK l0 12) (fun _ => m_B (f258 l0 0 (v10 - 2000)) (fun _ => m_B (m_gR 12 l0 37) (fun r19 => m_B (m_lZ r19 (v10 - 2000)) (fun v20 => if v20 = 0 then (m_B (m_aK l0 12) (fun _ => m_B (f274 l0 l1 (v10 - 2000) (-1)) (fun v22 => m_B (m_aK l0 12) (fun _ => m_B (f274 l0 l1 (v10 - 2000) v22) (fun v24 => if 0 < v8 then (if v22 = (-1) then (f284_169) else (f284_158 l0 l1 l2 v8 (v10 - 2000) v22 v24)) else (f284_158 l0 l1 l2 v8 (v10 - 2000) v22 v24)))))) else (m_R (-4))))))) else (m_R (-3))))))))))))) else (f284_59)))) else (f284_59)))) else (m_R 0)))
set_option maxRecDepth 20000 in
theorem f284_26_ok {l0 : Nat} {l1 : Int32} {l2 : Int32} {s0 : Nat} {s1 : Int32} {h : q_H} {o : q_O} {hz : q_H} {x : Int32 × q_H} (hf : f284_26 l0 l1 l2 s0 s1 h = some x) (hK : (q_KI o hz) x) : q_Ev none 284 26 [(0, .ref l0), (1, .int l1), (2, .int l2)] [.int s1, .ref s0] h o hz := by
  unfold f284_26 at hf
  obtain ⟨g1, hf⟩ := m_aK_some hf
  refine em_call (v := (fun u => some (.int u))) (q_cod qk284 rfl) rfl rfl (q_cokV rfl rfl (Or.inr g1)) rfl (fun x e => f178_cl e) hf (fun v2 h hf => ?_)
  refine em_if_eq (q_cod qk284 rfl) (by decide) hf (fun c31 hf => ?_) (fun c31 hf => ?_)
  · refine ev_aload_n (q_cod qk284 rfl) (by decide) rfl ?_
    refine ev_ic (v := 0) (q_cod qk284 rfl) (by decide) (by decide) ?_
    refine ev_iload_n (q_cod qk284 rfl) (by decide) rfl ?_
    refine ev_iload_n (q_cod qk284 rfl) (by decide) rfl ?_
    obtain ⟨g3, hf⟩ := m_aK_some hf
    refine em_call (v := (fun u => some (.int u))) (q_cod qk284 rfl) rfl rfl (q_cokV rfl rfl (Or.inr g3)) rfl (fun x e => f199_cl e) hf (fun v4 h hf => ?_)
    refine ev_bi (v := 7) (q_cod qk284 rfl) (by decide) (by decide) ?_
    refine em_ic_ne (q_cod qk284 rfl) (by decide) hf (fun c30 hf => ?_) (fun c30 hf => ?_)
    · refine ev_aload_n (q_cod qk284 rfl) (by decide) rfl ?_
      refine ev_ic (v := 0) (q_cod qk284 rfl) (by decide) (by decide) ?_
      refine ev_iload_n (q_cod qk284 rfl) (by decide) rfl ?_
      refine ev_iload_n (q_cod qk284 rfl) (by decide) rfl ?_
      refine ev_ic (v := 1) (q_cod qk284 rfl) (by decide) (by decide) ?_
      refine ev_iadd (q_cod qk284 rfl) (by decide) ?_
      obtain ⟨g5, hf⟩ := m_aK_some hf
      refine em_call (v := (fun u => some (.int u))) (q_cod qk284 rfl) rfl rfl (q_cokV rfl rfl (Or.inr g5)) rfl (fun x e => f199_cl e) hf (fun v6 h hf => ?_)
      refine ev_ic (v := 2) (q_cod qk284 rfl) (by decide) (by decide) ?_
      refine em_ic_eq (q_cod qk284 rfl) (by decide) hf (fun c29 hf => ?_) (fun c29 hf => ?_)
      · refine ev_aload_n (q_cod qk284 rfl) (by decide) rfl ?_
        refine ev_ic (v := 0) (q_cod qk284 rfl) (by decide) (by decide) ?_
        refine ev_iload_n (q_cod qk284 rfl) (by decide) rfl ?_
        refine ev_iload_n (q_cod qk284 rfl) (by decide) rfl ?_
        obtain ⟨g7, hf⟩ := m_aK_some hf
        refine em_call (v := (fun u => some (.int u))) (q_cod qk284 rfl) rfl rfl (q_cokV rfl rfl (Or.inr g7)) rfl (fun x e => f201_cl e) hf (fun v8 h hf => ?_)
        refine ev_is1 (L' := [(0, .ref l0), (1, .int l1), (2, .int l2), (3, .int v8)]) (q_cod qk284 rfl) (by decide) rfl ?_
        refine ev_aload_n (q_cod qk284 rfl) (by decide) rfl ?_
        refine ev_iload_n (q_cod qk284 rfl) (by decide) rfl ?_
        refine ev_iload_n (q_cod qk284 rfl) (by decide) rfl ?_
        obtain ⟨g9, hf⟩ := m_aK_some hf
        refine em_call (v := (fun u => some (.int u))) (q_cod qk284 rfl) rfl rfl (q_cokV rfl rfl (Or.inr g9)) rfl (fun x e => f268_cl e) hf (fun v10 h hf => ?_)
        refine ev_si (v := 2000) (q_cod qk284 rfl) (by decide) (by decide) ?_
        refine ev_isub (q_cod qk284 rfl) (by decide) ?_
        refine ev_is2 (L' := [(0, .ref l0), (1, .int l1), (2, .int l2), (3, .int v8), (4, .int (v10 - 2000))]) (q_cod qk284 rfl) (by decide) rfl ?_
        refine ev_aload_n (q_cod qk284 rfl) (by decide) rfl ?_
        refine ev_aload_n (q_cod qk284 rfl) (by decide) rfl ?_
        refine ev_ic (v := 0) (q_cod qk284 rfl) (by decide) (by decide) ?_
        refine ev_iload_n (q_cod qk284 rfl) (by decide) rfl ?_
        refine ev_ic (v := 1) (q_cod qk284 rfl) (by decide) (by decide) ?_
        obtain ⟨g11, hf⟩ := m_aK_some hf
        refine em_call (v := (fun u => some (.int u))) (q_cod qk284 rfl) rfl rfl (q_cokV rfl rfl (Or.inr g11)) rfl (fun x e => f196_cl e) hf (fun v12 h hf => ?_)
        refine ev_aload_n (q_cod qk284 rfl) (by decide) rfl ?_
        refine ev_ic (v := 0) (q_cod qk284 rfl) (by decide) (by decide) ?_
        refine ev_iload_n (q_cod qk284 rfl) (by decide) rfl ?_
        refine ev_iload_n (q_cod qk284 rfl) (by decide) rfl ?_
        obtain ⟨g13, hf⟩ := m_aK_some hf
        refine em_call (v := (fun u => some (.int u))) (q_cod qk284 rfl) rfl rfl (q_cokV rfl rfl (Or.inr g13)) rfl (fun x e => f200_cl e) hf (fun v14 h hf => ?_)
        refine ev_iload_n (q_cod qk284 rfl) (by decide) rfl ?_
        obtain ⟨g15, hf⟩ := m_aK_some hf
        refine em_call (v := (fun u => some (.int u))) (q_cod qk284 rfl) rfl rfl (q_cokV rfl rfl (Or.inr g15)) rfl (fun x e => f282_cl e) hf (fun v16 h hf => ?_)
        refine em_if_eq (q_cod qk284 rfl) (by decide) hf (fun c28 hf => ?_) (fun c28 hf => ?_)
        · refine ev_aload_n (q_cod qk284 rfl) (by decide) rfl ?_
          refine ev_ic (v := 0) (q_cod qk284 rfl) (by decide) (by decide) ?_
          refine ev_iload (q_cod qk284 rfl) (by decide) rfl ?_
          obtain ⟨g17, hf⟩ := m_aK_some hf
          refine em_call (v := (fun _ => none)) (q_cod qk284 rfl) rfl rfl (q_cokV rfl rfl (Or.inr g17)) rfl (fun x e => f258_cl e) hf (fun _ h hf => ?_)
          refine ev_aload_n (q_cod qk284 rfl) (by decide) rfl ?_
          refine em_gR (q_cod qk284 rfl) (by decide) (by decide) hf (fun r19 hf => ?_)
          refine ev_iload (q_cod qk284 rfl) (by decide) rfl ?_
          refine em_lZ (q_cod qk284 rfl) (by decide) hf (fun v20 hf => ?_)
          refine em_if_eq (q_cod qk284 rfl) (by decide) hf (fun c27 hf => ?_) (fun c27 hf => ?_)
          · refine ev_aload_n (q_cod qk284 rfl) (by decide) rfl ?_
            refine ev_iload_n (q_cod qk284 rfl) (by decide) rfl ?_
            refine ev_iload (q_cod qk284 rfl) (by decide) rfl ?_
            refine ev_ic (v := (-1)) (q_cod qk284 rfl) (by decide) (by decide) ?_
            obtain ⟨g21, hf⟩ := m_aK_some hf
            refine em_call (v := (fun u => some (.int u))) (q_cod qk284 rfl) rfl rfl (q_cokV rfl rfl (Or.inr g21)) rfl (fun x e => f274_cl e) hf (fun v22 h hf => ?_)
            refine ev_is2 (L' := [(0, .ref l0), (1, .int l1), (2, .int l2), (3, .int v8), (4, .int (v10 - 2000)), (5, .int v22)]) (q_cod qk284 rfl) (by decide) rfl ?_
            refine ev_aload_n (q_cod qk284 rfl) (by decide) rfl ?_
            refine ev_iload_n (q_cod qk284 rfl) (by decide) rfl ?_
            refine ev_iload (q_cod qk284 rfl) (by decide) rfl ?_
            refine ev_iload (q_cod qk284 rfl) (by decide) rfl ?_
            obtain ⟨g23, hf⟩ := m_aK_some hf
            refine em_call (v := (fun u => some (.int u))) (q_cod qk284 rfl) rfl rfl (q_cokV rfl rfl (Or.inr g23)) rfl (fun x e => f274_cl e) hf (fun v24 h hf => ?_)
            refine ev_is2 (L' := [(0, .ref l0), (1, .int l1), (2, .int l2), (3, .int v8), (4, .int (v10 - 2000)), (5, .int v22), (6, .int v24)]) (q_cod qk284 rfl) (by decide) rfl ?_
            refine ev_iload_n (q_cod qk284 rfl) (by decide) rfl ?_
            refine em_if_le (q_cod qk284 rfl) (by decide) hf (fun c26 hf => ?_) (fun c26 hf => ?_)
            · refine ev_iload (q_cod qk284 rfl) (by decide) rfl ?_
              refine ev_ic (v := (-1)) (q_cod qk284 rfl) (by decide) (by decide) ?_
              refine em_ic_eq (q_cod qk284 rfl) (by decide) hf (fun c25 hf => ?_) (fun c25 hf => ?_)
              · exact ev_weak (q_pk [] rfl) (f284_169_ok hf hK)
              · exact (f284_158_ok hf hK)
            · exact (f284_158_ok hf hK)
          · refine ev_bi (v := (-4)) (q_cod qk284 rfl) (by decide) (by decide) ?_
            obtain rfl := m_R_inv hf
            obtain ⟨rfl, rfl⟩ := (show q_KI o hz ((-4), _) from hK)
            exact ev_ret (q_cod qk284 rfl) rfl
        · refine ev_bi (v := (-3)) (q_cod qk284 rfl) (by decide) (by decide) ?_
          obtain rfl := m_R_inv hf
          obtain ⟨rfl, rfl⟩ := (show q_KI o hz ((-3), _) from hK)
          exact ev_ret (q_cod qk284 rfl) rfl
      · exact ev_weak (q_pk [] rfl) (f284_59_ok hf hK)
    · exact ev_weak (q_pk [] rfl) (f284_59_ok hf hK)
  · refine ev_ic (v := 0) (q_cod qk284 rfl) (by decide) (by decide) ?_
    obtain rfl := m_R_inv hf
    obtain ⟨rfl, rfl⟩ := (show q_KI o hz (0, _) from hK)
    exact ev_ret (q_cod qk284 rfl) rfl
def f284 (l0 : Nat) (l1 : Int32) (l2 : Int32) : m_M Int32 :=
  m_B (m_aK l0 12) (fun _ => m_B (f239 l0 l1 l2) (fun v2 => if v2 = 0 then (f284_26 l0 l1 l2 l0 1) else (m_B (m_aK l0 12) (fun _ => m_B (f272 l0) (fun v4 => if v4 = 0 then (f284_26 l0 l1 l2 l0 2) else (f284_26 l0 l1 l2 l0 0))))))
set_option maxRecDepth 20000 in
theorem f284_ok {l0 : Nat} {l1 : Int32} {l2 : Int32} {h : q_H} {o : q_O} {hz : q_H} {x : Int32 × q_H} (hf : f284 l0 l1 l2 h = some x) (hK : (q_KI o hz) x) : q_Ev none 284 0 [(0, .ref l0), (1, .int l1), (2, .int l2)] [] h o hz := by
  unfold f284 at hf
  refine ev_aload_n (q_cod qk284 rfl) (by decide) rfl ?_
  refine ev_aload_n (q_cod qk284 rfl) (by decide) rfl ?_
  refine ev_iload_n (q_cod qk284 rfl) (by decide) rfl ?_
  refine ev_iload_n (q_cod qk284 rfl) (by decide) rfl ?_
  obtain ⟨g1, hf⟩ := m_aK_some hf
  refine em_call (v := (fun u => some (.int u))) (q_cod qk284 rfl) rfl rfl (q_cokV rfl rfl (Or.inr g1)) rfl (fun x e => f239_cl e) hf (fun v2 h hf => ?_)
  refine em_if_ne (q_cod qk284 rfl) (by decide) hf (fun c6 hf => ?_) (fun c6 hf => ?_)
  · refine ev_ic (v := 1) (q_cod qk284 rfl) (by decide) (by decide) ?_
    refine ev_goto (q_cod qk284 rfl) (by decide) ?_
    exact (f284_26_ok hf hK)
  · refine ev_aload_n (q_cod qk284 rfl) (by decide) rfl ?_
    obtain ⟨g3, hf⟩ := m_aK_some hf
    refine em_call (v := (fun u => some (.int u))) (q_cod qk284 rfl) rfl rfl (q_cokV rfl rfl (Or.inr g3)) rfl (fun x e => f272_cl e) hf (fun v4 h hf => ?_)
    refine em_if_ne (q_cod qk284 rfl) (by decide) hf (fun c5 hf => ?_) (fun c5 hf => ?_)
    · refine ev_ic (v := 2) (q_cod qk284 rfl) (by decide) (by decide) ?_
      refine ev_goto (q_cod qk284 rfl) (by decide) ?_
      exact (f284_26_ok hf hK)
    · refine ev_ic (v := 0) (q_cod qk284 rfl) (by decide) (by decide) ?_
      exact (f284_26_ok hf hK)
theorem f284_cl {l0 : Nat} {l1 : Int32} {l2 : Int32} {h : q_H} {x : Int32 × q_H} (hf : f284 l0 l1 l2 h = some x) : q_Cl 284 [.ref l0, .int l1, .int l2] h (.inl (some (.int x.1))) x.2 := q_Cl.of rfl (q_LvS rfl rfl) (f284_ok hf ⟨rfl, rfl⟩)
/-! SmithyBenchModel.findLocals(II)V -/
theorem qk286 : q_cs.getD 286 [] = qc_286 := rfl
def f286_129 (l0 : Nat) (l1 : Int32) (l2 : Int32) (l3 : Int32) : m_M ((Nat × Int32 × Int32 × Int32) ⊕ Unit) :=
  m_R (.inl (l0, l1, l2, (l3 + 1)))
theorem f286_129_ok {l0 : Nat} {l1 : Int32} {l2 : Int32} {l3 : Int32} {h : q_H} {o : q_O} {hz : q_H} {x : ((Nat × Int32 × Int32 × Int32) ⊕ Unit) × q_H} (hf : f286_129 l0 l1 l2 l3 h = some x) (hK : (m_yK (fun (s : Nat × Int32 × Int32 × Int32) (h : q_H) => q_Ev none 286 7 [(0, .ref (s.1)), (1, .int (s.2.1)), (2, .int (s.2.2.1)), (3, .int (s.2.2.2))] [] h o hz) (m_KU o hz)) x) : q_Ev none 286 129 [(0, .ref l0), (1, .int l1), (2, .int l2), (3, .int l3)] [] h o hz := by
  unfold f286_129 at hf
  refine ev_inc (v := l3 + 1) (L' := [(0, .ref l0), (1, .int l1), (2, .int l2), (3, .int (l3 + 1))]) (q_cod qk286 rfl) (by decide) rfl rfl rfl ?_
  refine ev_goto (q_cod qk286 rfl) (by decide) ?_
  obtain rfl := m_R_inv hf
  exact (show q_Ev none 286 7 [(0, .ref l0), (1, .int l1), (2, .int l2), (3, .int (l3 + 1))] [] _ o hz from hK)
def f286_91 (l0 : Nat) (l1 : Int32) (l2 : Int32) (l3 : Int32) (l5 : Int32) (s0 : Int32) : m_M ((Nat × Int32 × Int32 × Int32 × Int32 × Int32) ⊕ ((Nat × Int32 × Int32 × Int32) ⊕ Unit)) :=
  m_R (.inl (l0, l1, l2, l3, s0, (l5 + 1)))
theorem f286_91_ok {l0 : Nat} {l1 : Int32} {l2 : Int32} {l3 : Int32} {l5 : Int32} {s0 : Int32} {h : q_H} {o : q_O} {hz : q_H} {x : ((Nat × Int32 × Int32 × Int32 × Int32 × Int32) ⊕ ((Nat × Int32 × Int32 × Int32) ⊕ Unit)) × q_H} (hf : f286_91 l0 l1 l2 l3 l5 s0 h = some x) (hK : (m_yK (fun (s : Nat × Int32 × Int32 × Int32 × Int32 × Int32) (h : q_H) => q_Ev none 286 56 [(0, .ref (s.1)), (1, .int (s.2.1)), (2, .int (s.2.2.1)), (3, .int (s.2.2.2.1)), (4, .int (s.2.2.2.2.1)), (5, .int (s.2.2.2.2.2))] [] h o hz) (m_yK (fun (s : Nat × Int32 × Int32 × Int32) (h : q_H) => q_Ev none 286 7 [(0, .ref (s.1)), (1, .int (s.2.1)), (2, .int (s.2.2.1)), (3, .int (s.2.2.2))] [] h o hz) (m_KU o hz))) x) : q_Ev none 286 91 [(0, .ref l0), (1, .int l1), (2, .int l2), (3, .int l3), (5, .int l5)] [.int s0] h o hz := by
  unfold f286_91 at hf
  refine ev_is2 (L' := [(0, .ref l0), (1, .int l1), (2, .int l2), (3, .int l3), (4, .int s0), (5, .int l5)]) (q_cod qk286 rfl) (by decide) rfl ?_
  refine ev_inc (v := l5 + 1) (L' := [(0, .ref l0), (1, .int l1), (2, .int l2), (3, .int l3), (4, .int s0), (5, .int (l5 + 1))]) (q_cod qk286 rfl) (by decide) rfl rfl rfl ?_
  refine ev_goto (q_cod qk286 rfl) (by decide) ?_
  obtain rfl := m_R_inv hf
  exact (show q_Ev none 286 56 [(0, .ref l0), (1, .int l1), (2, .int l2), (3, .int l3), (4, .int s0), (5, .int (l5 + 1))] [] _ o hz from hK)
def f286_86 (l0 : Nat) (l1 : Int32) (l2 : Int32) (l3 : Int32) (l5 : Int32) : m_M ((Nat × Int32 × Int32 × Int32 × Int32 × Int32) ⊕ ((Nat × Int32 × Int32 × Int32) ⊕ Unit)) :=
  f286_91 l0 l1 l2 l3 l5 1
theorem f286_86_ok {l0 : Nat} {l1 : Int32} {l2 : Int32} {l3 : Int32} {l5 : Int32} {h : q_H} {o : q_O} {hz : q_H} {x : ((Nat × Int32 × Int32 × Int32 × Int32 × Int32) ⊕ ((Nat × Int32 × Int32 × Int32) ⊕ Unit)) × q_H} (hf : f286_86 l0 l1 l2 l3 l5 h = some x) (hK : (m_yK (fun (s : Nat × Int32 × Int32 × Int32 × Int32 × Int32) (h : q_H) => q_Ev none 286 56 [(0, .ref (s.1)), (1, .int (s.2.1)), (2, .int (s.2.2.1)), (3, .int (s.2.2.2.1)), (4, .int (s.2.2.2.2.1)), (5, .int (s.2.2.2.2.2))] [] h o hz) (m_yK (fun (s : Nat × Int32 × Int32 × Int32) (h : q_H) => q_Ev none 286 7 [(0, .ref (s.1)), (1, .int (s.2.1)), (2, .int (s.2.2.1)), (3, .int (s.2.2.2))] [] h o hz) (m_KU o hz))) x) : q_Ev none 286 86 [(0, .ref l0), (1, .int l1), (2, .int l2), (3, .int l3), (5, .int l5)] [] h o hz := by
  unfold f286_86 at hf
  refine ev_ic (v := 1) (q_cod qk286 rfl) (by decide) (by decide) ?_
  refine ev_goto (q_cod qk286 rfl) (by decide) ?_
  exact (f286_91_ok hf hK)
def f286_99 (l0 : Nat) (l1 : Int32) (l2 : Int32) (l3 : Int32) (l4 : Int32) : m_M ((Nat × Int32 × Int32 × Int32) ⊕ Unit) :=
  if l4 = 0 then (m_B (m_gR 12 l0 43) (fun r1 => m_B (m_gI 12 l0 42) (fun v2 => m_B (m_aK l0 12) (fun _ => m_B (f268 l0 l1 l3) (fun v4 => m_B (m_wI r1 v2 v4) (fun _ => m_B (m_gI 12 l0 42) (fun v5 => m_B (m_pI 12 l0 42 (v5 + 1)) (fun _ => f286_129 l0 l1 l2 l3)))))))) else (f286_129 l0 l1 l2 l3)
theorem f286_99_ok {l0 : Nat} {l1 : Int32} {l2 : Int32} {l3 : Int32} {l4 : Int32} {h : q_H} {o : q_O} {hz : q_H} {x : ((Nat × Int32 × Int32 × Int32) ⊕ Unit) × q_H} (hf : f286_99 l0 l1 l2 l3 l4 h = some x) (hK : (m_yK (fun (s : Nat × Int32 × Int32 × Int32) (h : q_H) => q_Ev none 286 7 [(0, .ref (s.1)), (1, .int (s.2.1)), (2, .int (s.2.2.1)), (3, .int (s.2.2.2))] [] h o hz) (m_KU o hz)) x) : q_Ev none 286 99 [(0, .ref l0), (1, .int l1), (2, .int l2), (3, .int l3), (4, .int l4)] [] h o hz := by
  unfold f286_99 at hf
  refine ev_iload (q_cod qk286 rfl) (by decide) rfl ?_
  refine em_if_ne (q_cod qk286 rfl) (by decide) hf (fun c6 hf => ?_) (fun c6 hf => ?_)
  · refine ev_aload_n (q_cod qk286 rfl) (by decide) rfl ?_
    refine em_gR (q_cod qk286 rfl) (by decide) (by decide) hf (fun r1 hf => ?_)
    refine ev_aload_n (q_cod qk286 rfl) (by decide) rfl ?_
    refine em_gI (q_cod qk286 rfl) (by decide) (by decide) hf (fun v2 hf => ?_)
    refine ev_aload_n (q_cod qk286 rfl) (by decide) rfl ?_
    refine ev_iload_n (q_cod qk286 rfl) (by decide) rfl ?_
    refine ev_iload_n (q_cod qk286 rfl) (by decide) rfl ?_
    obtain ⟨g3, hf⟩ := m_aK_some hf
    refine em_call (v := (fun u => some (.int u))) (q_cod qk286 rfl) rfl rfl (q_cokV rfl rfl (Or.inr g3)) rfl (fun x e => f268_cl e) hf (fun v4 h hf => ?_)
    refine em_wI (q_cod qk286 rfl) (by decide) hf (fun hf => ?_)
    refine ev_aload_n (q_cod qk286 rfl) (by decide) rfl ?_
    refine ev_dup (q_cod qk286 rfl) (by decide) rfl ?_
    refine em_gI (q_cod qk286 rfl) (by decide) (by decide) hf (fun v5 hf => ?_)
    refine ev_ic (v := 1) (q_cod qk286 rfl) (by decide) (by decide) ?_
    refine ev_iadd (q_cod qk286 rfl) (by decide) ?_
    refine em_pI (q_cod qk286 rfl) (by decide) (by decide) (by decide) hf (fun hf => ?_)
    exact ev_weak (q_pk [0, 1, 2, 3] rfl) (f286_129_ok hf hK)
  · exact ev_weak (q_pk [0, 1, 2, 3] rfl) (f286_129_ok hf hK)
def f286_56b (l0 : Nat) (l1 : Int32) (l2 : Int32) (l3 : Int32) (l4 : Int32) (l5 : Int32) : m_M ((Nat × Int32 × Int32 × Int32 × Int32 × Int32) ⊕ ((Nat × Int32 × Int32 × Int32) ⊕ Unit)) :=
  m_B (m_gI 12 l0 42) (fun v1 => if l5 < v1 then (if l4 = 0 then (m_B (m_gR 12 l0 43) (fun r2 => m_B (m_lI r2 l5) (fun v3 => m_B (m_aK l0 12) (fun _ => m_B (f268 l0 l1 l3) (fun v5 => if v3 = v5 then (f286_86 l0 l1 l2 l3 l5) else (f286_91 l0 l1 l2 l3 l5 0)))))) else (f286_86 l0 l1 l2 l3 l5)) else (m_B (f286_99 l0 l1 l2 l3 l4) (fun r => m_R (.inr r))))
theorem f286_56b_ok {l0 : Nat} {l1 : Int32} {l2 : Int32} {l3 : Int32} {l4 : Int32} {l5 : Int32} {h : q_H} {o : q_O} {hz : q_H} {x : ((Nat × Int32 × Int32 × Int32 × Int32 × Int32) ⊕ ((Nat × Int32 × Int32 × Int32) ⊕ Unit)) × q_H} (hf : f286_56b l0 l1 l2 l3 l4 l5 h = some x) (hK : (m_yK (fun (s : Nat × Int32 × Int32 × Int32 × Int32 × Int32) (h : q_H) => q_Ev none 286 56 [(0, .ref (s.1)), (1, .int (s.2.1)), (2, .int (s.2.2.1)), (3, .int (s.2.2.2.1)), (4, .int (s.2.2.2.2.1)), (5, .int (s.2.2.2.2.2))] [] h o hz) (m_yK (fun (s : Nat × Int32 × Int32 × Int32) (h : q_H) => q_Ev none 286 7 [(0, .ref (s.1)), (1, .int (s.2.1)), (2, .int (s.2.2.1)), (3, .int (s.2.2.2))] [] h o hz) (m_KU o hz))) x) : q_Ev none 286 56 [(0, .ref l0), (1, .int l1), (2, .int l2), (3, .int l3), (4, .int l4), (5, .int l5)] [] h o hz := by
  unfold f286_56b at hf
  refine ev_iload (q_cod qk286 rfl) (by decide) rfl ?_
  refine ev_aload_n (q_cod qk286 rfl) (by decide) rfl ?_
  refine em_gI (q_cod qk286 rfl) (by decide) (by decide) hf (fun v1 hf => ?_)
  refine em_ic_ge (q_cod qk286 rfl) (by decide) hf (fun c8 hf => ?_) (fun c8 hf => ?_)
  · refine ev_iload (q_cod qk286 rfl) (by decide) rfl ?_
    refine em_if_ne (q_cod qk286 rfl) (by decide) hf (fun c7 hf => ?_) (fun c7 hf => ?_)
    · refine ev_aload_n (q_cod qk286 rfl) (by decide) rfl ?_
      refine em_gR (q_cod qk286 rfl) (by decide) (by decide) hf (fun r2 hf => ?_)
      refine ev_iload (q_cod qk286 rfl) (by decide) rfl ?_
      refine em_lI (q_cod qk286 rfl) (by decide) hf (fun v3 hf => ?_)
      refine ev_aload_n (q_cod qk286 rfl) (by decide) rfl ?_
      refine ev_iload_n (q_cod qk286 rfl) (by decide) rfl ?_
      refine ev_iload_n (q_cod qk286 rfl) (by decide) rfl ?_
      obtain ⟨g4, hf⟩ := m_aK_some hf
      refine em_call (v := (fun u => some (.int u))) (q_cod qk286 rfl) rfl rfl (q_cokV rfl rfl (Or.inr g4)) rfl (fun x e => f268_cl e) hf (fun v5 h hf => ?_)
      refine em_ic_ne (q_cod qk286 rfl) (by decide) hf (fun c6 hf => ?_) (fun c6 hf => ?_)
      · exact ev_weak (q_pk [0, 1, 2, 3, 5] rfl) (f286_86_ok hf hK)
      · refine ev_ic (v := 0) (q_cod qk286 rfl) (by decide) (by decide) ?_
        exact ev_weak (q_pk [0, 1, 2, 3, 5] rfl) (f286_91_ok hf hK)
    · exact ev_weak (q_pk [0, 1, 2, 3, 5] rfl) (f286_86_ok hf hK)
  · obtain ⟨y0, hf0, hx⟩ := m_inr_some hf
    subst hx
    exact ev_weak (q_pk [0, 1, 2, 3, 4] rfl) (f286_99_ok hf0 hK)
def f286_56 (l0 : Nat) (l1 : Int32) (l2 : Int32) (l3 : Int32) (l4 : Int32) (l5 : Int32) : m_M ((Nat × Int32 × Int32 × Int32) ⊕ Unit) := m_W (fun s => f286_56b (s.1) (s.2.1) (s.2.2.1) (s.2.2.2.1) (s.2.2.2.2.1) (s.2.2.2.2.2)) 1000000 (l0, l1, l2, l3, l4, l5)
theorem f286_56_ok {l0 : Nat} {l1 : Int32} {l2 : Int32} {l3 : Int32} {l4 : Int32} {l5 : Int32} {h : q_H} {o : q_O} {hz : q_H} {x : ((Nat × Int32 × Int32 × Int32) ⊕ Unit) × q_H} (hf : f286_56 l0 l1 l2 l3 l4 l5 h = some x) (hK : (m_yK (fun (s : Nat × Int32 × Int32 × Int32) (h : q_H) => q_Ev none 286 7 [(0, .ref (s.1)), (1, .int (s.2.1)), (2, .int (s.2.2.1)), (3, .int (s.2.2.2))] [] h o hz) (m_KU o hz)) x) : q_Ev none 286 56 [(0, .ref l0), (1, .int l1), (2, .int l2), (3, .int l3), (4, .int l4), (5, .int l5)] [] h o hz :=
  m_W_ok (P := (fun (s : Nat × Int32 × Int32 × Int32 × Int32 × Int32) (h : q_H) => q_Ev none 286 56 [(0, .ref (s.1)), (1, .int (s.2.1)), (2, .int (s.2.2.1)), (3, .int (s.2.2.2.1)), (4, .int (s.2.2.2.2.1)), (5, .int (s.2.2.2.2.2))] [] h o hz)) (K := (m_yK (fun (s : Nat × Int32 × Int32 × Int32) (h : q_H) => q_Ev none 286 7 [(0, .ref (s.1)), (1, .int (s.2.1)), (2, .int (s.2.2.1)), (3, .int (s.2.2.2))] [] h o hz) (m_KU o hz))) (fun s h x h1 h2 => f286_56b_ok h1 h2) _ (l0, l1, l2, l3, l4, l5) _ _ hf hK
def f286_135  : m_M Unit :=
  m_R ()
theorem f286_135_ok  {h : q_H} {o : q_O} {hz : q_H} {x : Unit × q_H} (hf : f286_135 h = some x) (hK : (m_KU o hz) x) : q_Ev none 286 135 [] [] h o hz := by
  unfold f286_135 at hf
  obtain rfl := m_R_inv hf
  obtain ⟨rfl, rfl⟩ := (show m_KU o hz ((), _) from hK)
  exact ev_ret (q_cod qk286 rfl) rfl
def f286_7b (l0 : Nat) (l1 : Int32) (l2 : Int32) (l3 : Int32) : m_M ((Nat × Int32 × Int32 × Int32) ⊕ Unit) :=
  m_B (m_aK l0 12) (fun _ => m_B (f269 l0 l1 l2) (fun v2 => if l3 < (l2 + v2) then (m_B (m_aK l0 12) (fun _ => m_B (f266 l0 l1 l3) (fun v4 => if v4 = 0 then (f286_129 l0 l1 l2 l3) else (m_B (m_aK l0 12) (fun _ => m_B (f268 l0 l1 l3) (fun v6 => m_B (f267 v6) (fun v7 => if v7 = 0 then (f286_129 l0 l1 l2 l3) else (m_B (m_aK l0 12) (fun _ => m_B (f268 l0 l1 l3) (fun v9 => if v9 < l2 then (f286_56 l0 l1 l2 l3 0 0) else (f286_129 l0 l1 l2 l3))))))))))) else (m_B (f286_135) (fun r => m_R (.inr r)))))
theorem f286_7b_ok {l0 : Nat} {l1 : Int32} {l2 : Int32} {l3 : Int32} {h : q_H} {o : q_O} {hz : q_H} {x : ((Nat × Int32 × Int32 × Int32) ⊕ Unit) × q_H} (hf : f286_7b l0 l1 l2 l3 h = some x) (hK : (m_yK (fun (s : Nat × Int32 × Int32 × Int32) (h : q_H) => q_Ev none 286 7 [(0, .ref (s.1)), (1, .int (s.2.1)), (2, .int (s.2.2.1)), (3, .int (s.2.2.2))] [] h o hz) (m_KU o hz)) x) : q_Ev none 286 7 [(0, .ref l0), (1, .int l1), (2, .int l2), (3, .int l3)] [] h o hz := by
  unfold f286_7b at hf
  refine ev_iload_n (q_cod qk286 rfl) (by decide) rfl ?_
  refine ev_iload_n (q_cod qk286 rfl) (by decide) rfl ?_
  refine ev_aload_n (q_cod qk286 rfl) (by decide) rfl ?_
  refine ev_iload_n (q_cod qk286 rfl) (by decide) rfl ?_
  refine ev_iload_n (q_cod qk286 rfl) (by decide) rfl ?_
  obtain ⟨g1, hf⟩ := m_aK_some hf
  refine em_call (v := (fun u => some (.int u))) (q_cod qk286 rfl) rfl rfl (q_cokV rfl rfl (Or.inr g1)) rfl (fun x e => f269_cl e) hf (fun v2 h hf => ?_)
  refine ev_iadd (q_cod qk286 rfl) (by decide) ?_
  refine em_ic_ge (q_cod qk286 rfl) (by decide) hf (fun c13 hf => ?_) (fun c13 hf => ?_)
  · refine ev_aload_n (q_cod qk286 rfl) (by decide) rfl ?_
    refine ev_iload_n (q_cod qk286 rfl) (by decide) rfl ?_
    refine ev_iload_n (q_cod qk286 rfl) (by decide) rfl ?_
    obtain ⟨g3, hf⟩ := m_aK_some hf
    refine em_call (v := (fun u => some (.int u))) (q_cod qk286 rfl) rfl rfl (q_cokV rfl rfl (Or.inr g3)) rfl (fun x e => f266_cl e) hf (fun v4 h hf => ?_)
    refine em_if_eq (q_cod qk286 rfl) (by decide) hf (fun c12 hf => ?_) (fun c12 hf => ?_)
    · exact (f286_129_ok hf hK)
    · refine ev_aload_n (q_cod qk286 rfl) (by decide) rfl ?_
      refine ev_iload_n (q_cod qk286 rfl) (by decide) rfl ?_
      refine ev_iload_n (q_cod qk286 rfl) (by decide) rfl ?_
      obtain ⟨g5, hf⟩ := m_aK_some hf
      refine em_call (v := (fun u => some (.int u))) (q_cod qk286 rfl) rfl rfl (q_cokV rfl rfl (Or.inr g5)) rfl (fun x e => f268_cl e) hf (fun v6 h hf => ?_)
      refine em_call (v := (fun u => some (.int u))) (q_cod qk286 rfl) rfl rfl (q_cokS rfl rfl) rfl (fun x e => f267_cl e) hf (fun v7 h hf => ?_)
      refine em_if_eq (q_cod qk286 rfl) (by decide) hf (fun c11 hf => ?_) (fun c11 hf => ?_)
      · exact (f286_129_ok hf hK)
      · refine ev_aload_n (q_cod qk286 rfl) (by decide) rfl ?_
        refine ev_iload_n (q_cod qk286 rfl) (by decide) rfl ?_
        refine ev_iload_n (q_cod qk286 rfl) (by decide) rfl ?_
        obtain ⟨g8, hf⟩ := m_aK_some hf
        refine em_call (v := (fun u => some (.int u))) (q_cod qk286 rfl) rfl rfl (q_cokV rfl rfl (Or.inr g8)) rfl (fun x e => f268_cl e) hf (fun v9 h hf => ?_)
        refine ev_iload_n (q_cod qk286 rfl) (by decide) rfl ?_
        refine em_ic_ge (q_cod qk286 rfl) (by decide) hf (fun c10 hf => ?_) (fun c10 hf => ?_)
        · refine ev_ic (v := 0) (q_cod qk286 rfl) (by decide) (by decide) ?_
          refine ev_is2 (L' := [(0, .ref l0), (1, .int l1), (2, .int l2), (3, .int l3), (4, .int 0)]) (q_cod qk286 rfl) (by decide) rfl ?_
          refine ev_ic (v := 0) (q_cod qk286 rfl) (by decide) (by decide) ?_
          refine ev_is2 (L' := [(0, .ref l0), (1, .int l1), (2, .int l2), (3, .int l3), (4, .int 0), (5, .int 0)]) (q_cod qk286 rfl) (by decide) rfl ?_
          exact (f286_56_ok hf hK)
        · exact (f286_129_ok hf hK)
  · obtain ⟨y0, hf0, hx⟩ := m_inr_some hf
    subst hx
    exact ev_weak (q_pk [] rfl) (f286_135_ok hf0 hK)
def f286_7 (l0 : Nat) (l1 : Int32) (l2 : Int32) (l3 : Int32) : m_M Unit := m_W (fun s => f286_7b (s.1) (s.2.1) (s.2.2.1) (s.2.2.2)) 1000000 (l0, l1, l2, l3)
theorem f286_7_ok {l0 : Nat} {l1 : Int32} {l2 : Int32} {l3 : Int32} {h : q_H} {o : q_O} {hz : q_H} {x : Unit × q_H} (hf : f286_7 l0 l1 l2 l3 h = some x) (hK : (m_KU o hz) x) : q_Ev none 286 7 [(0, .ref l0), (1, .int l1), (2, .int l2), (3, .int l3)] [] h o hz :=
  m_W_ok (P := (fun (s : Nat × Int32 × Int32 × Int32) (h : q_H) => q_Ev none 286 7 [(0, .ref (s.1)), (1, .int (s.2.1)), (2, .int (s.2.2.1)), (3, .int (s.2.2.2))] [] h o hz)) (K := (m_KU o hz)) (fun s h x h1 h2 => f286_7b_ok h1 h2) _ (l0, l1, l2, l3) _ _ hf hK
def f286 (l0 : Nat) (l1 : Int32) (l2 : Int32) : m_M Unit :=
  m_B (m_pI 12 l0 42 0) (fun _ => f286_7 l0 l1 l2 l2)
theorem f286_ok {l0 : Nat} {l1 : Int32} {l2 : Int32} {h : q_H} {o : q_O} {hz : q_H} {x : Unit × q_H} (hf : f286 l0 l1 l2 h = some x) (hK : (m_KU o hz) x) : q_Ev none 286 0 [(0, .ref l0), (1, .int l1), (2, .int l2)] [] h o hz := by
  unfold f286 at hf
  refine ev_aload_n (q_cod qk286 rfl) (by decide) rfl ?_
  refine ev_ic (v := 0) (q_cod qk286 rfl) (by decide) (by decide) ?_
  refine em_pI (q_cod qk286 rfl) (by decide) (by decide) (by decide) hf (fun hf => ?_)
  refine ev_iload_n (q_cod qk286 rfl) (by decide) rfl ?_
  refine ev_is1 (L' := [(0, .ref l0), (1, .int l1), (2, .int l2), (3, .int l2)]) (q_cod qk286 rfl) (by decide) rfl ?_
  exact (f286_7_ok hf hK)
theorem f286_cl {l0 : Nat} {l1 : Int32} {l2 : Int32} {h : q_H} {x : Unit × q_H} (hf : f286 l0 l1 l2 h = some x) : q_Cl 286 [.ref l0, .int l1, .int l2] h (.inl none) x.2 := q_Cl.of rfl (q_LvS rfl rfl) (f286_ok hf ⟨rfl, rfl⟩)
/-! SmithyBenchModel.nameOfLocal(II)I -/
theorem qk287 : q_cs.getD 287 [] = qc_287 := rfl
def f287_23 (s0 : Int32) : m_M Int32 :=
  m_R s0
theorem f287_23_ok {s0 : Int32} {h : q_H} {o : q_O} {hz : q_H} {x : Int32 × q_H} (hf : f287_23 s0 h = some x) (hK : (q_KI o hz) x) : q_Ev none 287 23 [] [.int s0] h o hz := by
  unfold f287_23 at hf
  obtain rfl := m_R_inv hf
  obtain ⟨rfl, rfl⟩ := (show q_KI o hz (s0, _) from hK)
  exact ev_ret (q_cod qk287 rfl) rfl
def f287 (l0 : Nat) (l1 : Int32) (l2 : Int32) : m_M Int32 :=
  if l2 < 0 then (m_B (m_aK l0 12) (fun _ => m_B (f196 l0 0 l1 (3 - l2)) (fun v2 => f287_23 v2))) else (m_B (m_aK l0 12) (fun _ => m_B (f200 l0 0 l1 l2) (fun v4 => f287_23 v4)))
theorem f287_ok {l0 : Nat} {l1 : Int32} {l2 : Int32} {h : q_H} {o : q_O} {hz : q_H} {x : Int32 × q_H} (hf : f287 l0 l1 l2 h = some x) (hK : (q_KI o hz) x) : q_Ev none 287 0 [(0, .ref l0), (1, .int l1), (2, .int l2)] [] h o hz := by
  unfold f287 at hf
  refine ev_iload_n (q_cod qk287 rfl) (by decide) rfl ?_
  refine em_if_ge (q_cod qk287 rfl) (by decide) hf (fun c5 hf => ?_) (fun c5 hf => ?_)
  · refine ev_aload_n (q_cod qk287 rfl) (by decide) rfl ?_
    refine ev_ic (v := 0) (q_cod qk287 rfl) (by decide) (by decide) ?_
    refine ev_iload_n (q_cod qk287 rfl) (by decide) rfl ?_
    refine ev_ic (v := 3) (q_cod qk287 rfl) (by decide) (by decide) ?_
    refine ev_iload_n (q_cod qk287 rfl) (by decide) rfl ?_
    refine ev_isub (q_cod qk287 rfl) (by decide) ?_
    obtain ⟨g1, hf⟩ := m_aK_some hf
    refine em_call (v := (fun u => some (.int u))) (q_cod qk287 rfl) rfl rfl (q_cokV rfl rfl (Or.inr g1)) rfl (fun x e => f196_cl e) hf (fun v2 h hf => ?_)
    refine ev_goto (q_cod qk287 rfl) (by decide) ?_
    exact ev_weak (q_pk [] rfl) (f287_23_ok hf hK)
  · refine ev_aload_n (q_cod qk287 rfl) (by decide) rfl ?_
    refine ev_ic (v := 0) (q_cod qk287 rfl) (by decide) (by decide) ?_
    refine ev_iload_n (q_cod qk287 rfl) (by decide) rfl ?_
    refine ev_iload_n (q_cod qk287 rfl) (by decide) rfl ?_
    obtain ⟨g3, hf⟩ := m_aK_some hf
    refine em_call (v := (fun u => some (.int u))) (q_cod qk287 rfl) rfl rfl (q_cokV rfl rfl (Or.inr g3)) rfl (fun x e => f200_cl e) hf (fun v4 h hf => ?_)
    exact ev_weak (q_pk [] rfl) (f287_23_ok hf hK)
theorem f287_cl {l0 : Nat} {l1 : Int32} {l2 : Int32} {h : q_H} {x : Int32 × q_H} (hf : f287 l0 l1 l2 h = some x) : q_Cl 287 [.ref l0, .int l1, .int l2] h (.inl (some (.int x.1))) x.2 := q_Cl.of rfl (q_LvS rfl rfl) (f287_ok hf ⟨rfl, rfl⟩)
/-! SmithyBenchModel.placeIn([III)I -/
theorem qk288 : q_cs.getD 288 [] = qc_288 := rfl
def f288_25 (l0 : Nat) (l1 : Int32) (l2 : Int32) (l4 : Int32) (s0 : Int32) : m_M ((Nat × Int32 × Int32 × Int32 × Int32) ⊕ Int32) :=
  m_R (.inl (l0, l1, l2, s0, (l4 + 1)))
theorem f288_25_ok {l0 : Nat} {l1 : Int32} {l2 : Int32} {l4 : Int32} {s0 : Int32} {h : q_H} {o : q_O} {hz : q_H} {x : ((Nat × Int32 × Int32 × Int32 × Int32) ⊕ Int32) × q_H} (hf : f288_25 l0 l1 l2 l4 s0 h = some x) (hK : (m_yK (fun (s : Nat × Int32 × Int32 × Int32 × Int32) (h : q_H) => q_Ev none 288 5 [(0, .ref (s.1)), (1, .int (s.2.1)), (2, .int (s.2.2.1)), (3, .int (s.2.2.2.1)), (4, .int (s.2.2.2.2))] [] h o hz) (q_KI o hz)) x) : q_Ev none 288 25 [(0, .ref l0), (1, .int l1), (2, .int l2), (4, .int l4)] [.int s0] h o hz := by
  unfold f288_25 at hf
  refine ev_is1 (L' := [(0, .ref l0), (1, .int l1), (2, .int l2), (3, .int s0), (4, .int l4)]) (q_cod qk288 rfl) (by decide) rfl ?_
  refine ev_inc (v := l4 + 1) (L' := [(0, .ref l0), (1, .int l1), (2, .int l2), (3, .int s0), (4, .int (l4 + 1))]) (q_cod qk288 rfl) (by decide) rfl rfl rfl ?_
  refine ev_goto (q_cod qk288 rfl) (by decide) ?_
  obtain rfl := m_R_inv hf
  exact (show q_Ev none 288 5 [(0, .ref l0), (1, .int l1), (2, .int l2), (3, .int s0), (4, .int (l4 + 1))] [] _ o hz from hK)
def f288_32 (l3 : Int32) : m_M Int32 :=
  m_R l3
theorem f288_32_ok {l3 : Int32} {h : q_H} {o : q_O} {hz : q_H} {x : Int32 × q_H} (hf : f288_32 l3 h = some x) (hK : (q_KI o hz) x) : q_Ev none 288 32 [(3, .int l3)] [] h o hz := by
  unfold f288_32 at hf
  refine ev_iload_n (q_cod qk288 rfl) (by decide) rfl ?_
  obtain rfl := m_R_inv hf
  obtain ⟨rfl, rfl⟩ := (show q_KI o hz (l3, _) from hK)
  exact ev_ret (q_cod qk288 rfl) rfl
def f288_5b (l0 : Nat) (l1 : Int32) (l2 : Int32) (l3 : Int32) (l4 : Int32) : m_M ((Nat × Int32 × Int32 × Int32 × Int32) ⊕ Int32) :=
  if l4 < l1 then (m_B (m_lI l0 l4) (fun v1 => if v1 = l2 then (f288_25 l0 l1 l2 l4 l4) else (f288_25 l0 l1 l2 l4 l3))) else (m_B (f288_32 l3) (fun r => m_R (.inr r)))
theorem f288_5b_ok {l0 : Nat} {l1 : Int32} {l2 : Int32} {l3 : Int32} {l4 : Int32} {h : q_H} {o : q_O} {hz : q_H} {x : ((Nat × Int32 × Int32 × Int32 × Int32) ⊕ Int32) × q_H} (hf : f288_5b l0 l1 l2 l3 l4 h = some x) (hK : (m_yK (fun (s : Nat × Int32 × Int32 × Int32 × Int32) (h : q_H) => q_Ev none 288 5 [(0, .ref (s.1)), (1, .int (s.2.1)), (2, .int (s.2.2.1)), (3, .int (s.2.2.2.1)), (4, .int (s.2.2.2.2))] [] h o hz) (q_KI o hz)) x) : q_Ev none 288 5 [(0, .ref l0), (1, .int l1), (2, .int l2), (3, .int l3), (4, .int l4)] [] h o hz := by
  unfold f288_5b at hf
  refine ev_iload (q_cod qk288 rfl) (by decide) rfl ?_
  refine ev_iload_n (q_cod qk288 rfl) (by decide) rfl ?_
  refine em_ic_ge (q_cod qk288 rfl) (by decide) hf (fun c3 hf => ?_) (fun c3 hf => ?_)
  · refine ev_aload_n (q_cod qk288 rfl) (by decide) rfl ?_
    refine ev_iload (q_cod qk288 rfl) (by decide) rfl ?_
    refine em_lI (q_cod qk288 rfl) (by decide) hf (fun v1 hf => ?_)
    refine ev_iload_n (q_cod qk288 rfl) (by decide) rfl ?_
    refine em_ic_ne (q_cod qk288 rfl) (by decide) hf (fun c2 hf => ?_) (fun c2 hf => ?_)
    · refine ev_iload (q_cod qk288 rfl) (by decide) rfl ?_
      refine ev_goto (q_cod qk288 rfl) (by decide) ?_
      exact ev_weak (q_pk [0, 1, 2, 4] rfl) (f288_25_ok hf hK)
    · refine ev_iload_n (q_cod qk288 rfl) (by decide) rfl ?_
      exact ev_weak (q_pk [0, 1, 2, 4] rfl) (f288_25_ok hf hK)
  · obtain ⟨y0, hf0, hx⟩ := m_inr_some hf
    subst hx
    exact ev_weak (q_pk [3] rfl) (f288_32_ok hf0 hK)
def f288_5 (l0 : Nat) (l1 : Int32) (l2 : Int32) (l3 : Int32) (l4 : Int32) : m_M Int32 := m_W (fun s => f288_5b (s.1) (s.2.1) (s.2.2.1) (s.2.2.2.1) (s.2.2.2.2)) 1000000 (l0, l1, l2, l3, l4)
theorem f288_5_ok {l0 : Nat} {l1 : Int32} {l2 : Int32} {l3 : Int32} {l4 : Int32} {h : q_H} {o : q_O} {hz : q_H} {x : Int32 × q_H} (hf : f288_5 l0 l1 l2 l3 l4 h = some x) (hK : (q_KI o hz) x) : q_Ev none 288 5 [(0, .ref l0), (1, .int l1), (2, .int l2), (3, .int l3), (4, .int l4)] [] h o hz :=
  m_W_ok (P := (fun (s : Nat × Int32 × Int32 × Int32 × Int32) (h : q_H) => q_Ev none 288 5 [(0, .ref (s.1)), (1, .int (s.2.1)), (2, .int (s.2.2.1)), (3, .int (s.2.2.2.1)), (4, .int (s.2.2.2.2))] [] h o hz)) (K := (q_KI o hz)) (fun s h x h1 h2 => f288_5b_ok h1 h2) _ (l0, l1, l2, l3, l4) _ _ hf hK
def f288 (l0 : Nat) (l1 : Int32) (l2 : Int32) : m_M Int32 :=
  f288_5 l0 l1 l2 (-1) 0
theorem f288_ok {l0 : Nat} {l1 : Int32} {l2 : Int32} {h : q_H} {o : q_O} {hz : q_H} {x : Int32 × q_H} (hf : f288 l0 l1 l2 h = some x) (hK : (q_KI o hz) x) : q_Ev none 288 0 [(0, .ref l0), (1, .int l1), (2, .int l2)] [] h o hz := by
  unfold f288 at hf
  refine ev_ic (v := (-1)) (q_cod qk288 rfl) (by decide) (by decide) ?_
  refine ev_is1 (L' := [(0, .ref l0), (1, .int l1), (2, .int l2), (3, .int (-1))]) (q_cod qk288 rfl) (by decide) rfl ?_
  refine ev_ic (v := 0) (q_cod qk288 rfl) (by decide) (by decide) ?_
  refine ev_is2 (L' := [(0, .ref l0), (1, .int l1), (2, .int l2), (3, .int (-1)), (4, .int 0)]) (q_cod qk288 rfl) (by decide) rfl ?_
  exact (f288_5_ok hf hK)
theorem f288_cl {l0 : Nat} {l1 : Int32} {l2 : Int32} {h : q_H} {x : Int32 × q_H} (hf : f288 l0 l1 l2 h = some x) : q_Cl 288 [.ref l0, .int l1, .int l2] h (.inl (some (.int x.1))) x.2 := q_Cl.of rfl (q_LvS rfl rfl) (f288_ok hf ⟨rfl, rfl⟩)
/-! SmithyBenchModel.isLikeNode(IIIIII)Z -/
theorem qk290 : q_cs.getD 290 [] = qc_290 := rfl
def f290_102 (s0 : Int32) : m_M Int32 :=
  m_B (m_G (s0 = 0 ∨ s0 = 1)) (fun _ => m_R s0)
set_option maxRecDepth 20000 in
theorem f290_102_ok {s0 : Int32} {h : q_H} {o : q_O} {hz : q_H} {x : Int32 × q_H} (hf : f290_102 s0 h = some x) (hK : (q_KI o hz) x) : q_Ev none 290 102 [] [.int s0] h o hz := by
  unfold f290_102 at hf
  obtain ⟨g1, hf⟩ := m_G_some hf
  obtain rfl := m_R_inv hf
  obtain ⟨rfl, rfl⟩ := (show q_KI o hz (s0, _) from hK)
  exact ev_ret (q_cod qk290 rfl) (q_retZ g1)
def f290_101  : m_M Int32 :=
  f290_102 0
set_option maxRecDepth 20000 in
theorem f290_101_ok  {h : q_H} {o : q_O} {hz : q_H} {x : Int32 × q_H} (hf : f290_101 h = some x) (hK : (q_KI o hz) x) : q_Ev none 290 101 [] [] h o hz := by
  unfold f290_101 at hf
  refine ev_ic (v := 0) (q_cod qk290 rfl) (by decide) (by decide) ?_
  exact (f290_102_ok hf hK)
def f290_242 (s0 : Int32) : m_M Int32 :=
  m_B (m_G (s0 = 0 ∨ s0 = 1)) (fun _ => m_R s0)
set_option maxRecDepth 20000 in
theorem f290_242_ok {s0 : Int32} {h : q_H} {o : q_O} {hz : q_H} {x : Int32 × q_H} (hf : f290_242 s0 h = some x) (hK : (q_KI o hz) x) : q_Ev none 290 242 [] [.int s0] h o hz := by
  unfold f290_242 at hf
  obtain ⟨g1, hf⟩ := m_G_some hf
  obtain rfl := m_R_inv hf
  obtain ⟨rfl, rfl⟩ := (show q_KI o hz (s0, _) from hK)
  exact ev_ret (q_cod qk290 rfl) (q_retZ g1)
def f290_241  : m_M Int32 :=
  f290_242 0
set_option maxRecDepth 20000 in
theorem f290_241_ok  {h : q_H} {o : q_O} {hz : q_H} {x : Int32 × q_H} (hf : f290_241 h = some x) (hK : (q_KI o hz) x) : q_Ev none 290 241 [] [] h o hz := by
  unfold f290_241 at hf
  refine ev_ic (v := 0) (q_cod qk290 rfl) (by decide) (by decide) ?_
  exact (f290_242_ok hf hK)
def f290_204 (l0 : Nat) (l1 : Int32) (l3 : Int32) (l4 : Int32) (l6 : Int32) (l10 : Int32) (l11 : Int32) (s0 : Int32) : m_M Int32 :=
  if l10 = l11 then (if s0 = 0 then (f290_241) else (m_B (m_aK l0 12) (fun _ => m_B (f200 l0 0 l1 l3) (fun v2 => m_B (m_aK l0 12) (fun _ => m_B (f200 l0 0 l4 l6) (fun v4 => if v2 = v4 then (f290_242 1) else (f290_241))))))) else (f290_241)
set_option maxRecDepth 20000 in
theorem f290_204_ok {l0 : Nat} {l1 : Int32} {l3 : Int32} {l4 : Int32} {l6 : Int32} {l10 : Int32} {l11 : Int32} {s0 : Int32} {h : q_H} {o : q_O} {hz : q_H} {x : Int32 × q_H} (hf : f290_204 l0 l1 l3 l4 l6 l10 l11 s0 h = some x) (hK : (q_KI o hz) x) : q_Ev none 290 204 [(0, .ref l0), (1, .int l1), (3, .int l3), (4, .int l4), (6, .int l6), (10, .int l10), (11, .int l11)] [.int s0] h o hz := by
  unfold f290_204 at hf
  refine ev_is2 (L' := [(0, .ref l0), (1, .int l1), (3, .int l3), (4, .int l4), (6, .int l6), (10, .int l10), (11, .int l11), (12, .int s0)]) (q_cod qk290 rfl) (by decide) rfl ?_
  refine ev_iload (q_cod qk290 rfl) (by decide) rfl ?_
  refine ev_iload (q_cod qk290 rfl) (by decide) rfl ?_
  refine em_ic_ne (q_cod qk290 rfl) (by decide) hf (fun c7 hf => ?_) (fun c7 hf => ?_)
  · refine ev_iload (q_cod qk290 rfl) (by decide) rfl ?_
    refine em_if_eq (q_cod qk290 rfl) (by decide) hf (fun c6 hf => ?_) (fun c6 hf => ?_)
    · exact ev_weak (q_pk [] rfl) (f290_241_ok hf hK)
    · refine ev_aload_n (q_cod qk290 rfl) (by decide) rfl ?_
      refine ev_ic (v := 0) (q_cod qk290 rfl) (by decide) (by decide) ?_
      refine ev_iload_n (q_cod qk290 rfl) (by decide) rfl ?_
      refine ev_iload_n (q_cod qk290 rfl) (by decide) rfl ?_
      obtain ⟨g1, hf⟩ := m_aK_some hf
      refine em_call (v := (fun u => some (.int u))) (q_cod qk290 rfl) rfl rfl (q_cokV rfl rfl (Or.inr g1)) rfl (fun x e => f200_cl e) hf (fun v2 h hf => ?_)
      refine ev_aload_n (q_cod qk290 rfl) (by decide) rfl ?_
      refine ev_ic (v := 0) (q_cod qk290 rfl) (by decide) (by decide) ?_
      refine ev_iload (q_cod qk290 rfl) (by decide) rfl ?_
      refine ev_iload (q_cod qk290 rfl) (by decide) rfl ?_
      obtain ⟨g3, hf⟩ := m_aK_some hf
      refine em_call (v := (fun u => some (.int u))) (q_cod qk290 rfl) rfl rfl (q_cokV rfl rfl (Or.inr g3)) rfl (fun x e => f200_cl e) hf (fun v4 h hf => ?_)
      refine em_ic_ne (q_cod qk290 rfl) (by decide) hf (fun c5 hf => ?_) (fun c5 hf => ?_)
      · refine ev_ic (v := 1) (q_cod qk290 rfl) (by decide) (by decide) ?_
        refine ev_goto (q_cod qk290 rfl) (by decide) ?_
        exact ev_weak (q_pk [] rfl) (f290_242_ok hf hK)
      · exact ev_weak (q_pk [] rfl) (f290_241_ok hf hK)
  · exact ev_weak (q_pk [] rfl) (f290_241_ok hf hK)
def f290_188 (l0 : Nat) (l1 : Int32) (l3 : Int32) (l4 : Int32) (l6 : Int32) (l10 : Int32) (l11 : Int32) : m_M Int32 :=
  f290_204 l0 l1 l3 l4 l6 l10 l11 0
set_option maxRecDepth 20000 in
theorem f290_188_ok {l0 : Nat} {l1 : Int32} {l3 : Int32} {l4 : Int32} {l6 : Int32} {l10 : Int32} {l11 : Int32} {h : q_H} {o : q_O} {hz : q_H} {x : Int32 × q_H} (hf : f290_188 l0 l1 l3 l4 l6 l10 l11 h = some x) (hK : (q_KI o hz) x) : q_Ev none 290 188 [(0, .ref l0), (1, .int l1), (3, .int l3), (4, .int l4), (6, .int l6), (10, .int l10), (11, .int l11)] [] h o hz := by
  unfold f290_188 at hf
  refine ev_ic (v := 0) (q_cod qk290 rfl) (by decide) (by decide) ?_
  refine ev_goto (q_cod qk290 rfl) (by decide) ?_
  exact (f290_204_ok hf hK)
def f290_156 (l0 : Nat) (l1 : Int32) (l2 : Int32) (l3 : Int32) (l4 : Int32) (l5 : Int32) (l6 : Int32) (l8 : Int32) (l9 : Int32) (l10 : Int32) (l11 : Int32) : m_M Int32 :=
  m_B (f267 l8) (fun v1 => if v1 = 0 then (if l8 = l9 then (f290_204 l0 l1 l3 l4 l6 l10 l11 1) else (f290_204 l0 l1 l3 l4 l6 l10 l11 0)) else (m_B (f267 l9) (fun v3 => if v3 = 0 then (f290_188 l0 l1 l3 l4 l6 l10 l11) else (if (l8 - l2) = (l9 - l5) then (f290_204 l0 l1 l3 l4 l6 l10 l11 1) else (f290_188 l0 l1 l3 l4 l6 l10 l11)))))
set_option maxRecDepth 20000 in
theorem f290_156_ok {l0 : Nat} {l1 : Int32} {l2 : Int32} {l3 : Int32} {l4 : Int32} {l5 : Int32} {l6 : Int32} {l8 : Int32} {l9 : Int32} {l10 : Int32} {l11 : Int32} {h : q_H} {o : q_O} {hz : q_H} {x : Int32 × q_H} (hf : f290_156 l0 l1 l2 l3 l4 l5 l6 l8 l9 l10 l11 h = some x) (hK : (q_KI o hz) x) : q_Ev none 290 156 [(0, .ref l0), (1, .int l1), (2, .int l2), (3, .int l3), (4, .int l4), (5, .int l5), (6, .int l6), (8, .int l8), (9, .int l9), (10, .int l10), (11, .int l11)] [] h o hz := by
  unfold f290_156 at hf
  refine ev_iload (q_cod qk290 rfl) (by decide) rfl ?_
  refine em_call (v := (fun u => some (.int u))) (q_cod qk290 rfl) rfl rfl (q_cokS rfl rfl) rfl (fun x e => f267_cl e) hf (fun v1 h hf => ?_)
  refine em_if_eq (q_cod qk290 rfl) (by decide) hf (fun c6 hf => ?_) (fun c6 hf => ?_)
  · refine ev_iload (q_cod qk290 rfl) (by decide) rfl ?_
    refine ev_iload (q_cod qk290 rfl) (by decide) rfl ?_
    refine em_ic_ne (q_cod qk290 rfl) (by decide) hf (fun c2 hf => ?_) (fun c2 hf => ?_)
    · refine ev_ic (v := 1) (q_cod qk290 rfl) (by decide) (by decide) ?_
      refine ev_goto (q_cod qk290 rfl) (by decide) ?_
      exact ev_weak (q_pk [0, 1, 3, 4, 6, 9, 10] rfl) (f290_204_ok hf hK)
    · refine ev_ic (v := 0) (q_cod qk290 rfl) (by decide) (by decide) ?_
      exact ev_weak (q_pk [0, 1, 3, 4, 6, 9, 10] rfl) (f290_204_ok hf hK)
  · refine ev_iload (q_cod qk290 rfl) (by decide) rfl ?_
    refine em_call (v := (fun u => some (.int u))) (q_cod qk290 rfl) rfl rfl (q_cokS rfl rfl) rfl (fun x e => f267_cl e) hf (fun v3 h hf => ?_)
    refine em_if_eq (q_cod qk290 rfl) (by decide) hf (fun c5 hf => ?_) (fun c5 hf => ?_)
    · exact ev_weak (q_pk [0, 1, 3, 4, 6, 9, 10] rfl) (f290_188_ok hf hK)
    · refine ev_iload (q_cod qk290 rfl) (by decide) rfl ?_
      refine ev_iload_n (q_cod qk290 rfl) (by decide) rfl ?_
      refine ev_isub (q_cod qk290 rfl) (by decide) ?_
      refine ev_iload (q_cod qk290 rfl) (by decide) rfl ?_
      refine ev_iload (q_cod qk290 rfl) (by decide) rfl ?_
      refine ev_isub (q_cod qk290 rfl) (by decide) ?_
      refine em_ic_ne (q_cod qk290 rfl) (by decide) hf (fun c4 hf => ?_) (fun c4 hf => ?_)
      · refine ev_ic (v := 1) (q_cod qk290 rfl) (by decide) (by decide) ?_
        refine ev_goto (q_cod qk290 rfl) (by decide) ?_
        exact ev_weak (q_pk [0, 1, 3, 4, 6, 9, 10] rfl) (f290_204_ok hf hK)
      · exact ev_weak (q_pk [0, 1, 3, 4, 6, 9, 10] rfl) (f290_188_ok hf hK)
def f290_368 (s0 : Int32) : m_M Int32 :=
  m_B (m_G (s0 = 0 ∨ s0 = 1)) (fun _ => m_R s0)
set_option maxRecDepth 20000 in
theorem f290_368_ok {s0 : Int32} {h : q_H} {o : q_O} {hz : q_H} {x : Int32 × q_H} (hf : f290_368 s0 h = some x) (hK : (q_KI o hz) x) : q_Ev none 290 368 [] [.int s0] h o hz := by
  unfold f290_368 at hf
  obtain ⟨g1, hf⟩ := m_G_some hf
  obtain rfl := m_R_inv hf
  obtain ⟨rfl, rfl⟩ := (show q_KI o hz (s0, _) from hK)
  exact ev_ret (q_cod qk290 rfl) (q_retZ g1)
def f290_367  : m_M Int32 :=
  f290_368 0
set_option maxRecDepth 20000 in
theorem f290_367_ok  {h : q_H} {o : q_O} {hz : q_H} {x : Int32 × q_H} (hf : f290_367 h = some x) (hK : (q_KI o hz) x) : q_Ev none 290 367 [] [] h o hz := by
  unfold f290_367 at hf
  refine ev_ic (v := 0) (q_cod qk290 rfl) (by decide) (by decide) ?_
  exact (f290_368_ok hf hK)
def f290_332 (l0 : Nat) (l7 : Int32) (l8 : Int32) (l12 : Int32) (s0 : Int32) : m_M Int32 :=
  if l7 = 1 then (m_B (m_gR 12 l0 43) (fun r1 => m_B (m_gI 12 l0 42) (fun v2 => m_B (f288 r1 v2 l8) (fun v3 => if l12 = v3 then (if s0 = 0 then (f290_367) else (f290_368 1)) else (f290_367))))) else (f290_367)
set_option maxRecDepth 20000 in
theorem f290_332_ok {l0 : Nat} {l7 : Int32} {l8 : Int32} {l12 : Int32} {s0 : Int32} {h : q_H} {o : q_O} {hz : q_H} {x : Int32 × q_H} (hf : f290_332 l0 l7 l8 l12 s0 h = some x) (hK : (q_KI o hz) x) : q_Ev none 290 332 [(0, .ref l0), (7, .int l7), (8, .int l8), (12, .int l12)] [.int s0] h o hz := by
  unfold f290_332 at hf
  refine ev_is2 (L' := [(0, .ref l0), (7, .int l7), (8, .int l8), (12, .int l12), (13, .int s0)]) (q_cod qk290 rfl) (by decide) rfl ?_
  refine ev_iload (q_cod qk290 rfl) (by decide) rfl ?_
  refine ev_ic (v := 1) (q_cod qk290 rfl) (by decide) (by decide) ?_
  refine em_ic_ne (q_cod qk290 rfl) (by decide) hf (fun c6 hf => ?_) (fun c6 hf => ?_)
  · refine ev_iload (q_cod qk290 rfl) (by decide) rfl ?_
    refine ev_aload_n (q_cod qk290 rfl) (by decide) rfl ?_
    refine em_gR (q_cod qk290 rfl) (by decide) (by decide) hf (fun r1 hf => ?_)
    refine ev_aload_n (q_cod qk290 rfl) (by decide) rfl ?_
    refine em_gI (q_cod qk290 rfl) (by decide) (by decide) hf (fun v2 hf => ?_)
    refine ev_iload (q_cod qk290 rfl) (by decide) rfl ?_
    refine em_call (v := (fun u => some (.int u))) (q_cod qk290 rfl) rfl rfl (q_cokS rfl rfl) rfl (fun x e => f288_cl e) hf (fun v3 h hf => ?_)
    refine em_ic_ne (q_cod qk290 rfl) (by decide) hf (fun c5 hf => ?_) (fun c5 hf => ?_)
    · refine ev_iload (q_cod qk290 rfl) (by decide) rfl ?_
      refine em_if_eq (q_cod qk290 rfl) (by decide) hf (fun c4 hf => ?_) (fun c4 hf => ?_)
      · exact ev_weak (q_pk [] rfl) (f290_367_ok hf hK)
      · refine ev_ic (v := 1) (q_cod qk290 rfl) (by decide) (by decide) ?_
        refine ev_goto (q_cod qk290 rfl) (by decide) ?_
        exact ev_weak (q_pk [] rfl) (f290_368_ok hf hK)
    · exact ev_weak (q_pk [] rfl) (f290_367_ok hf hK)
  · exact ev_weak (q_pk [] rfl) (f290_367_ok hf hK)
def f290_291 (l0 : Nat) (l1 : Int32) (l3 : Int32) (l4 : Int32) (l6 : Int32) (l7 : Int32) (l8 : Int32) (l9 : Int32) (l12 : Int32) : m_M Int32 :=
  m_B (m_aK l0 12) (fun _ => m_B (f200 l0 0 l1 l3) (fun v2 => m_B (m_aK l0 12) (fun _ => m_B (f226 l0 0 l1 l8 v2) (fun v4 => m_B (m_aK l0 12) (fun _ => m_B (f200 l0 0 l4 l6) (fun v6 => m_B (m_aK l0 12) (fun _ => m_B (f226 l0 0 l4 l9 v6) (fun v8 => if v4 = v8 then (f290_332 l0 l7 l8 l12 1) else (f290_332 l0 l7 l8 l12 0)))))))))
set_option maxRecDepth 20000 in
theorem f290_291_ok {l0 : Nat} {l1 : Int32} {l3 : Int32} {l4 : Int32} {l6 : Int32} {l7 : Int32} {l8 : Int32} {l9 : Int32} {l12 : Int32} {h : q_H} {o : q_O} {hz : q_H} {x : Int32 × q_H} (hf : f290_291 l0 l1 l3 l4 l6 l7 l8 l9 l12 h = some x) (hK : (q_KI o hz) x) : q_Ev none 290 291 [(0, .ref l0), (1, .int l1), (3, .int l3), (4, .int l4), (6, .int l6), (7, .int l7), (8, .int l8), (9, .int l9), (12, .int l12)] [] h o hz := by
  unfold f290_291 at hf
  refine ev_aload_n (q_cod qk290 rfl) (by decide) rfl ?_
  refine ev_ic (v := 0) (q_cod qk290 rfl) (by decide) (by decide) ?_
  refine ev_iload_n (q_cod qk290 rfl) (by decide) rfl ?_
  refine ev_iload (q_cod qk290 rfl) (by decide) rfl ?_
  refine ev_aload_n (q_cod qk290 rfl) (by decide) rfl ?_
  refine ev_ic (v := 0) (q_cod qk290 rfl) (by decide) (by decide) ?_
  refine ev_iload_n (q_cod qk290 rfl) (by decide) rfl ?_
  refine ev_iload_n (q_cod qk290 rfl) (by decide) rfl ?_
  obtain ⟨g1, hf⟩ := m_aK_some hf
  refine em_call (v := (fun u => some (.int u))) (q_cod qk290 rfl) rfl rfl (q_cokV rfl rfl (Or.inr g1)) rfl (fun x e => f200_cl e) hf (fun v2 h hf => ?_)
  obtain ⟨g3, hf⟩ := m_aK_some hf
  refine em_call (v := (fun u => some (.int u))) (q_cod qk290 rfl) rfl rfl (q_cokV rfl rfl (Or.inr g3)) rfl (fun x e => f226_cl e) hf (fun v4 h hf => ?_)
  refine ev_aload_n (q_cod qk290 rfl) (by decide) rfl ?_
  refine ev_ic (v := 0) (q_cod qk290 rfl) (by decide) (by decide) ?_
  refine ev_iload (q_cod qk290 rfl) (by decide) rfl ?_
  refine ev_iload (q_cod qk290 rfl) (by decide) rfl ?_
  refine ev_aload_n (q_cod qk290 rfl) (by decide) rfl ?_
  refine ev_ic (v := 0) (q_cod qk290 rfl) (by decide) (by decide) ?_
  refine ev_iload (q_cod qk290 rfl) (by decide) rfl ?_
  refine ev_iload (q_cod qk290 rfl) (by decide) rfl ?_
  obtain ⟨g5, hf⟩ := m_aK_some hf
  refine em_call (v := (fun u => some (.int u))) (q_cod qk290 rfl) rfl rfl (q_cokV rfl rfl (Or.inr g5)) rfl (fun x e => f200_cl e) hf (fun v6 h hf => ?_)
  obtain ⟨g7, hf⟩ := m_aK_some hf
  refine em_call (v := (fun u => some (.int u))) (q_cod qk290 rfl) rfl rfl (q_cokV rfl rfl (Or.inr g7)) rfl (fun x e => f226_cl e) hf (fun v8 h hf => ?_)
  refine em_ic_ne (q_cod qk290 rfl) (by decide) hf (fun c9 hf => ?_) (fun c9 hf => ?_)
  · refine ev_ic (v := 1) (q_cod qk290 rfl) (by decide) (by decide) ?_
    refine ev_goto (q_cod qk290 rfl) (by decide) ?_
    exact ev_weak (q_pk [0, 5, 6, 8] rfl) (f290_332_ok hf hK)
  · refine ev_ic (v := 0) (q_cod qk290 rfl) (by decide) (by decide) ?_
    exact ev_weak (q_pk [0, 5, 6, 8] rfl) (f290_332_ok hf hK)
def f290_144 (l0 : Nat) (l1 : Int32) (l2 : Int32) (l3 : Int32) (l4 : Int32) (l5 : Int32) (l6 : Int32) (l7 : Int32) (l8 : Int32) (l9 : Int32) (l10 : Int32) (s0 : Int32) : m_M Int32 :=
  if l10 = 0 then (f290_156 l0 l1 l2 l3 l4 l5 l6 l8 l9 l10 s0) else (if s0 = 0 then (f290_156 l0 l1 l2 l3 l4 l5 l6 l8 l9 l10 s0) else (m_B (m_gR 12 l0 45) (fun r1 => m_B (m_gI 12 l0 44) (fun v2 => m_B (f288 r1 v2 l9) (fun v3 => if v3 = (-1) then (m_B (m_gI 12 l0 44) (fun v4 => m_B (m_gR 12 l0 45) (fun r5 => m_B (m_gI 12 l0 44) (fun v6 => m_B (m_wI r5 v6 l9) (fun _ => m_B (m_gI 12 l0 44) (fun v7 => m_B (m_pI 12 l0 44 (v7 + 1)) (fun _ => f290_291 l0 l1 l3 l4 l6 l7 l8 l9 v4))))))) else (f290_291 l0 l1 l3 l4 l6 l7 l8 l9 v3))))))
set_option maxRecDepth 20000 in
theorem f290_144_ok {l0 : Nat} {l1 : Int32} {l2 : Int32} {l3 : Int32} {l4 : Int32} {l5 : Int32} {l6 : Int32} {l7 : Int32} {l8 : Int32} {l9 : Int32} {l10 : Int32} {s0 : Int32} {h : q_H} {o : q_O} {hz : q_H} {x : Int32 × q_H} (hf : f290_144 l0 l1 l2 l3 l4 l5 l6 l7 l8 l9 l10 s0 h = some x) (hK : (q_KI o hz) x) : q_Ev none 290 144 [(0, .ref l0), (1, .int l1), (2, .int l2), (3, .int l3), (4, .int l4), (5, .int l5), (6, .int l6), (7, .int l7), (8, .int l8), (9, .int l9), (10, .int l10)] [.int s0] h o hz := by
  unfold f290_144 at hf
  refine ev_is2 (L' := [(0, .ref l0), (1, .int l1), (2, .int l2), (3, .int l3), (4, .int l4), (5, .int l5), (6, .int l6), (7, .int l7), (8, .int l8), (9, .int l9), (10, .int l10), (11, .int s0)]) (q_cod qk290 rfl) (by decide) rfl ?_
  refine ev_iload (q_cod qk290 rfl) (by decide) rfl ?_
  refine em_if_eq (q_cod qk290 rfl) (by decide) hf (fun c10 hf => ?_) (fun c10 hf => ?_)
  · exact ev_weak (q_pk [0, 1, 2, 3, 4, 5, 6, 8, 9, 10, 11] rfl) (f290_156_ok hf hK)
  · refine ev_iload (q_cod qk290 rfl) (by decide) rfl ?_
    refine em_if_ne (q_cod qk290 rfl) (by decide) hf (fun c9 hf => ?_) (fun c9 hf => ?_)
    · exact ev_weak (q_pk [0, 1, 2, 3, 4, 5, 6, 8, 9, 10, 11] rfl) (f290_156_ok hf hK)
    · refine ev_aload_n (q_cod qk290 rfl) (by decide) rfl ?_
      refine em_gR (q_cod qk290 rfl) (by decide) (by decide) hf (fun r1 hf => ?_)
      refine ev_aload_n (q_cod qk290 rfl) (by decide) rfl ?_
      refine em_gI (q_cod qk290 rfl) (by decide) (by decide) hf (fun v2 hf => ?_)
      refine ev_iload (q_cod qk290 rfl) (by decide) rfl ?_
      refine em_call (v := (fun u => some (.int u))) (q_cod qk290 rfl) rfl rfl (q_cokS rfl rfl) rfl (fun x e => f288_cl e) hf (fun v3 h hf => ?_)
      refine ev_is2 (L' := [(0, .ref l0), (1, .int l1), (2, .int l2), (3, .int l3), (4, .int l4), (5, .int l5), (6, .int l6), (7, .int l7), (8, .int l8), (9, .int l9), (10, .int l10), (11, .int s0), (12, .int v3)]) (q_cod qk290 rfl) (by decide) rfl ?_
      refine ev_iload (q_cod qk290 rfl) (by decide) rfl ?_
      refine ev_ic (v := (-1)) (q_cod qk290 rfl) (by decide) (by decide) ?_
      refine em_ic_ne (q_cod qk290 rfl) (by decide) hf (fun c8 hf => ?_) (fun c8 hf => ?_)
      · refine ev_aload_n (q_cod qk290 rfl) (by decide) rfl ?_
        refine em_gI (q_cod qk290 rfl) (by decide) (by decide) hf (fun v4 hf => ?_)
        refine ev_is2 (L' := [(0, .ref l0), (1, .int l1), (2, .int l2), (3, .int l3), (4, .int l4), (5, .int l5), (6, .int l6), (7, .int l7), (8, .int l8), (9, .int l9), (10, .int l10), (11, .int s0), (12, .int v4)]) (q_cod qk290 rfl) (by decide) rfl ?_
        refine ev_aload_n (q_cod qk290 rfl) (by decide) rfl ?_
        refine em_gR (q_cod qk290 rfl) (by decide) (by decide) hf (fun r5 hf => ?_)
        refine ev_aload_n (q_cod qk290 rfl) (by decide) rfl ?_
        refine em_gI (q_cod qk290 rfl) (by decide) (by decide) hf (fun v6 hf => ?_)
        refine ev_iload (q_cod qk290 rfl) (by decide) rfl ?_
        refine em_wI (q_cod qk290 rfl) (by decide) hf (fun hf => ?_)
        refine ev_aload_n (q_cod qk290 rfl) (by decide) rfl ?_
        refine ev_dup (q_cod qk290 rfl) (by decide) rfl ?_
        refine em_gI (q_cod qk290 rfl) (by decide) (by decide) hf (fun v7 hf => ?_)
        refine ev_ic (v := 1) (q_cod qk290 rfl) (by decide) (by decide) ?_
        refine ev_iadd (q_cod qk290 rfl) (by decide) ?_
        refine em_pI (q_cod qk290 rfl) (by decide) (by decide) (by decide) hf (fun hf => ?_)
        exact ev_weak (q_pk [0, 1, 3, 4, 6, 7, 8, 9, 12] rfl) (f290_291_ok hf hK)
      · exact ev_weak (q_pk [0, 1, 3, 4, 6, 7, 8, 9, 12] rfl) (f290_291_ok hf hK)
def f290_143 (l0 : Nat) (l1 : Int32) (l2 : Int32) (l3 : Int32) (l4 : Int32) (l5 : Int32) (l6 : Int32) (l7 : Int32) (l8 : Int32) (l9 : Int32) (l10 : Int32) : m_M Int32 :=
  f290_144 l0 l1 l2 l3 l4 l5 l6 l7 l8 l9 l10 0
set_option maxRecDepth 20000 in
theorem f290_143_ok {l0 : Nat} {l1 : Int32} {l2 : Int32} {l3 : Int32} {l4 : Int32} {l5 : Int32} {l6 : Int32} {l7 : Int32} {l8 : Int32} {l9 : Int32} {l10 : Int32} {h : q_H} {o : q_O} {hz : q_H} {x : Int32 × q_H} (hf : f290_143 l0 l1 l2 l3 l4 l5 l6 l7 l8 l9 l10 h = some x) (hK : (q_KI o hz) x) : q_Ev none 290 143 [(0, .ref l0), (1, .int l1), (2, .int l2), (3, .int l3), (4, .int l4), (5, .int l5), (6, .int l6), (7, .int l7), (8, .int l8), (9, .int l9), (10, .int l10)] [] h o hz := by
  unfold f290_143 at hf
  refine ev_ic (v := 0) (q_cod qk290 rfl) (by decide) (by decide) ?_
  exact (f290_144_ok hf hK)
def f290_122 (l0 : Nat) (l1 : Int32) (l2 : Int32) (l3 : Int32) (l4 : Int32) (l5 : Int32) (l6 : Int32) (l7 : Int32) (l8 : Int32) (l9 : Int32) (s0 : Int32) : m_M Int32 :=
  m_B (f267 l9) (fun v1 => if v1 = 0 then (f290_143 l0 l1 l2 l3 l4 l5 l6 l7 l8 l9 s0) else (if l9 < l5 then (f290_144 l0 l1 l2 l3 l4 l5 l6 l7 l8 l9 s0 1) else (f290_143 l0 l1 l2 l3 l4 l5 l6 l7 l8 l9 s0)))
set_option maxRecDepth 20000 in
theorem f290_122_ok {l0 : Nat} {l1 : Int32} {l2 : Int32} {l3 : Int32} {l4 : Int32} {l5 : Int32} {l6 : Int32} {l7 : Int32} {l8 : Int32} {l9 : Int32} {s0 : Int32} {h : q_H} {o : q_O} {hz : q_H} {x : Int32 × q_H} (hf : f290_122 l0 l1 l2 l3 l4 l5 l6 l7 l8 l9 s0 h = some x) (hK : (q_KI o hz) x) : q_Ev none 290 122 [(0, .ref l0), (1, .int l1), (2, .int l2), (3, .int l3), (4, .int l4), (5, .int l5), (6, .int l6), (7, .int l7), (8, .int l8), (9, .int l9)] [.int s0] h o hz := by
  unfold f290_122 at hf
  refine ev_is2 (L' := [(0, .ref l0), (1, .int l1), (2, .int l2), (3, .int l3), (4, .int l4), (5, .int l5), (6, .int l6), (7, .int l7), (8, .int l8), (9, .int l9), (10, .int s0)]) (q_cod qk290 rfl) (by decide) rfl ?_
  refine ev_iload (q_cod qk290 rfl) (by decide) rfl ?_
  refine em_call (v := (fun u => some (.int u))) (q_cod qk290 rfl) rfl rfl (q_cokS rfl rfl) rfl (fun x e => f267_cl e) hf (fun v1 h hf => ?_)
  refine em_if_eq (q_cod qk290 rfl) (by decide) hf (fun c3 hf => ?_) (fun c3 hf => ?_)
  · exact (f290_143_ok hf hK)
  · refine ev_iload (q_cod qk290 rfl) (by decide) rfl ?_
    refine ev_iload (q_cod qk290 rfl) (by decide) rfl ?_
    refine em_ic_ge (q_cod qk290 rfl) (by decide) hf (fun c2 hf => ?_) (fun c2 hf => ?_)
    · refine ev_ic (v := 1) (q_cod qk290 rfl) (by decide) (by decide) ?_
      refine ev_goto (q_cod qk290 rfl) (by decide) ?_
      exact (f290_144_ok hf hK)
    · exact (f290_143_ok hf hK)
def f290_121 (l0 : Nat) (l1 : Int32) (l2 : Int32) (l3 : Int32) (l4 : Int32) (l5 : Int32) (l6 : Int32) (l7 : Int32) (l8 : Int32) (l9 : Int32) : m_M Int32 :=
  f290_122 l0 l1 l2 l3 l4 l5 l6 l7 l8 l9 0
set_option maxRecDepth 20000 in
theorem f290_121_ok {l0 : Nat} {l1 : Int32} {l2 : Int32} {l3 : Int32} {l4 : Int32} {l5 : Int32} {l6 : Int32} {l7 : Int32} {l8 : Int32} {l9 : Int32} {h : q_H} {o : q_O} {hz : q_H} {x : Int32 × q_H} (hf : f290_121 l0 l1 l2 l3 l4 l5 l6 l7 l8 l9 h = some x) (hK : (q_KI o hz) x) : q_Ev none 290 121 [(0, .ref l0), (1, .int l1), (2, .int l2), (3, .int l3), (4, .int l4), (5, .int l5), (6, .int l6), (7, .int l7), (8, .int l8), (9, .int l9)] [] h o hz := by
  unfold f290_121 at hf
  refine ev_ic (v := 0) (q_cod qk290 rfl) (by decide) (by decide) ?_
  exact (f290_122_ok hf hK)
def f290_42  : m_M Int32 :=
  m_R 0
set_option maxRecDepth 20000 in
theorem f290_42_ok  {h : q_H} {o : q_O} {hz : q_H} {x : Int32 × q_H} (hf : f290_42 h = some x) (hK : (q_KI o hz) x) : q_Ev none 290 42 [] [] h o hz := by
  unfold f290_42 at hf
  refine ev_ic (v := 0) (q_cod qk290 rfl) (by decide) (by decide) ?_
  obtain rfl := m_R_inv hf
  obtain ⟨rfl, rfl⟩ := (show q_KI o hz (0, _) from hK)
  exact ev_ret (q_cod qk290 rfl) rfl
def f290 (l0 : Nat) (l1 : Int32) (l2 : Int32) (l3 : Int32) (l4 : Int32) (l5 : Int32) (l6 : Int32) : m_M Int32 :=
  m_B (m_aK l0 12) (fun _ => m_B (f199 l0 0 l1 l3) (fun v2 => m_B (m_aK l0 12) (fun _ => m_B (f199 l0 0 l4 l6) (fun v4 => if v4 = v2 then (m_B (m_aK l0 12) (fun _ => m_B (f201 l0 0 l4 l6) (fun v6 => m_B (m_aK l0 12) (fun _ => m_B (f201 l0 0 l1 l3) (fun v8 => if v6 = v8 then (m_B (m_aK l0 12) (fun _ => m_B (f268 l0 l1 l3) (fun v10 => m_B (m_aK l0 12) (fun _ => m_B (f268 l0 l4 l6) (fun v12 => m_B (m_aK l0 12) (fun _ => m_B (f266 l0 l1 l3) (fun v14 => if v14 = 0 then (m_B (m_aK l0 12) (fun _ => m_B (f200 l0 0 l1 l3) (fun v16 => m_B (m_aK l0 12) (fun _ => m_B (f200 l0 0 l4 l6) (fun v18 => if v16 = v18 then (if v10 = v12 then (f290_102 1) else (f290_101)) else (f290_101)))))) else (m_B (f267 v10) (fun v21 => if v21 = 0 then (f290_121 l0 l1 l2 l3 l4 l5 l6 v2 v10 v12) else (if v10 < l2 then (f290_122 l0 l1 l2 l3 l4 l5 l6 v2 v10 v12 1) else (f290_121 l0 l1 l2 l3 l4 l5 l6 v2 v10 v12))))))))))) else (f290_42)))))) else (f290_42)))))
set_option maxRecDepth 20000 in
theorem f290_ok {l0 : Nat} {l1 : Int32} {l2 : Int32} {l3 : Int32} {l4 : Int32} {l5 : Int32} {l6 : Int32} {h : q_H} {o : q_O} {hz : q_H} {x : Int32 × q_H} (hf : f290 l0 l1 l2 l3 l4 l5 l6 h = some x) (hK : (q_KI o hz) x) : q_Ev none 290 0 [(0, .ref l0), (1, .int l1), (2, .int l2), (3, .int l3), (4, .int l4), (5, .int l5), (6, .int l6)] [] h o hz := by
  unfold f290 at hf
  refine ev_aload_n (q_cod qk290 rfl) (by decide) rfl ?_
  refine ev_ic (v := 0) (q_cod qk290 rfl) (by decide) (by decide) ?_
  refine ev_iload_n (q_cod qk290 rfl) (by decide) rfl ?_
  refine ev_iload_n (q_cod qk290 rfl) (by decide) rfl ?_
  obtain ⟨g1, hf⟩ := m_aK_some hf
  refine em_call (v := (fun u => some (.int u))) (q_cod qk290 rfl) rfl rfl (q_cokV rfl rfl (Or.inr g1)) rfl (fun x e => f199_cl e) hf (fun v2 h hf => ?_)
  refine ev_is2 (L' := [(0, .ref l0), (1, .int l1), (2, .int l2), (3, .int l3), (4, .int l4), (5, .int l5), (6, .int l6), (7, .int v2)]) (q_cod qk290 rfl) (by decide) rfl ?_
  refine ev_aload_n (q_cod qk290 rfl) (by decide) rfl ?_
  refine ev_ic (v := 0) (q_cod qk290 rfl) (by decide) (by decide) ?_
  refine ev_iload (q_cod qk290 rfl) (by decide) rfl ?_
  refine ev_iload (q_cod qk290 rfl) (by decide) rfl ?_
  obtain ⟨g3, hf⟩ := m_aK_some hf
  refine em_call (v := (fun u => some (.int u))) (q_cod qk290 rfl) rfl rfl (q_cokV rfl rfl (Or.inr g3)) rfl (fun x e => f199_cl e) hf (fun v4 h hf => ?_)
  refine ev_iload (q_cod qk290 rfl) (by decide) rfl ?_
  refine em_ic_ne (q_cod qk290 rfl) (by decide) hf (fun c26 hf => ?_) (fun c26 hf => ?_)
  · refine ev_aload_n (q_cod qk290 rfl) (by decide) rfl ?_
    refine ev_ic (v := 0) (q_cod qk290 rfl) (by decide) (by decide) ?_
    refine ev_iload (q_cod qk290 rfl) (by decide) rfl ?_
    refine ev_iload (q_cod qk290 rfl) (by decide) rfl ?_
    obtain ⟨g5, hf⟩ := m_aK_some hf
    refine em_call (v := (fun u => some (.int u))) (q_cod qk290 rfl) rfl rfl (q_cokV rfl rfl (Or.inr g5)) rfl (fun x e => f201_cl e) hf (fun v6 h hf => ?_)
    refine ev_aload_n (q_cod qk290 rfl) (by decide) rfl ?_
    refine ev_ic (v := 0) (q_cod qk290 rfl) (by decide) (by decide) ?_
    refine ev_iload_n (q_cod qk290 rfl) (by decide) rfl ?_
    refine ev_iload_n (q_cod qk290 rfl) (by decide) rfl ?_
    obtain ⟨g7, hf⟩ := m_aK_some hf
    refine em_call (v := (fun u => some (.int u))) (q_cod qk290 rfl) rfl rfl (q_cokV rfl rfl (Or.inr g7)) rfl (fun x e => f201_cl e) hf (fun v8 h hf => ?_)
    refine em_ic_eq (q_cod qk290 rfl) (by decide) hf (fun c25 hf => ?_) (fun c25 hf => ?_)
    · refine ev_aload_n (q_cod qk290 rfl) (by decide) rfl ?_
      refine ev_iload_n (q_cod qk290 rfl) (by decide) rfl ?_
      refine ev_iload_n (q_cod qk290 rfl) (by decide) rfl ?_
      obtain ⟨g9, hf⟩ := m_aK_some hf
      refine em_call (v := (fun u => some (.int u))) (q_cod qk290 rfl) rfl rfl (q_cokV rfl rfl (Or.inr g9)) rfl (fun x e => f268_cl e) hf (fun v10 h hf => ?_)
      refine ev_is2 (L' := [(0, .ref l0), (1, .int l1), (2, .int l2), (3, .int l3), (4, .int l4), (5, .int l5), (6, .int l6), (7, .int v2), (8, .int v10)]) (q_cod qk290 rfl) (by decide) rfl ?_
      refine ev_aload_n (q_cod qk290 rfl) (by decide) rfl ?_
      refine ev_iload (q_cod qk290 rfl) (by decide) rfl ?_
      refine ev_iload (q_cod qk290 rfl) (by decide) rfl ?_
      obtain ⟨g11, hf⟩ := m_aK_some hf
      refine em_call (v := (fun u => some (.int u))) (q_cod qk290 rfl) rfl rfl (q_cokV rfl rfl (Or.inr g11)) rfl (fun x e => f268_cl e) hf (fun v12 h hf => ?_)
      refine ev_is2 (L' := [(0, .ref l0), (1, .int l1), (2, .int l2), (3, .int l3), (4, .int l4), (5, .int l5), (6, .int l6), (7, .int v2), (8, .int v10), (9, .int v12)]) (q_cod qk290 rfl) (by decide) rfl ?_
      refine ev_aload_n (q_cod qk290 rfl) (by decide) rfl ?_
      refine ev_iload_n (q_cod qk290 rfl) (by decide) rfl ?_
      refine ev_iload_n (q_cod qk290 rfl) (by decide) rfl ?_
      obtain ⟨g13, hf⟩ := m_aK_some hf
      refine em_call (v := (fun u => some (.int u))) (q_cod qk290 rfl) rfl rfl (q_cokV rfl rfl (Or.inr g13)) rfl (fun x e => f266_cl e) hf (fun v14 h hf => ?_)
      refine em_if_ne (q_cod qk290 rfl) (by decide) hf (fun c24 hf => ?_) (fun c24 hf => ?_)
      · refine ev_aload_n (q_cod qk290 rfl) (by decide) rfl ?_
        refine ev_ic (v := 0) (q_cod qk290 rfl) (by decide) (by decide) ?_
        refine ev_iload_n (q_cod qk290 rfl) (by decide) rfl ?_
        refine ev_iload_n (q_cod qk290 rfl) (by decide) rfl ?_
        obtain ⟨g15, hf⟩ := m_aK_some hf
        refine em_call (v := (fun u => some (.int u))) (q_cod qk290 rfl) rfl rfl (q_cokV rfl rfl (Or.inr g15)) rfl (fun x e => f200_cl e) hf (fun v16 h hf => ?_)
        refine ev_aload_n (q_cod qk290 rfl) (by decide) rfl ?_
        refine ev_ic (v := 0) (q_cod qk290 rfl) (by decide) (by decide) ?_
        refine ev_iload (q_cod qk290 rfl) (by decide) rfl ?_
        refine ev_iload (q_cod qk290 rfl) (by decide) rfl ?_
        obtain ⟨g17, hf⟩ := m_aK_some hf
        refine em_call (v := (fun u => some (.int u))) (q_cod qk290 rfl) rfl rfl (q_cokV rfl rfl (Or.inr g17)) rfl (fun x e => f200_cl e) hf (fun v18 h hf => ?_)
        refine em_ic_ne (q_cod qk290 rfl) (by decide) hf (fun c20 hf => ?_) (fun c20 hf => ?_)
        · refine ev_iload (q_cod qk290 rfl) (by decide) rfl ?_
          refine ev_iload (q_cod qk290 rfl) (by decide) rfl ?_
          refine em_ic_ne (q_cod qk290 rfl) (by decide) hf (fun c19 hf => ?_) (fun c19 hf => ?_)
          · refine ev_ic (v := 1) (q_cod qk290 rfl) (by decide) (by decide) ?_
            refine ev_goto (q_cod qk290 rfl) (by decide) ?_
            exact ev_weak (q_pk [] rfl) (f290_102_ok hf hK)
          · exact ev_weak (q_pk [] rfl) (f290_101_ok hf hK)
        · exact ev_weak (q_pk [] rfl) (f290_101_ok hf hK)
      · refine ev_iload (q_cod qk290 rfl) (by decide) rfl ?_
        refine em_call (v := (fun u => some (.int u))) (q_cod qk290 rfl) rfl rfl (q_cokS rfl rfl) rfl (fun x e => f267_cl e) hf (fun v21 h hf => ?_)
        refine em_if_eq (q_cod qk290 rfl) (by decide) hf (fun c23 hf => ?_) (fun c23 hf => ?_)
        · exact (f290_121_ok hf hK)
        · refine ev_iload (q_cod qk290 rfl) (by decide) rfl ?_
          refine ev_iload_n (q_cod qk290 rfl) (by decide) rfl ?_
          refine em_ic_ge (q_cod qk290 rfl) (by decide) hf (fun c22 hf => ?_) (fun c22 hf => ?_)
          · refine ev_ic (v := 1) (q_cod qk290 rfl) (by decide) (by decide) ?_
            refine ev_goto (q_cod qk290 rfl) (by decide) ?_
            exact (f290_122_ok hf hK)
          · exact (f290_121_ok hf hK)
    · exact ev_weak (q_pk [] rfl) (f290_42_ok hf hK)
  · exact ev_weak (q_pk [] rfl) (f290_42_ok hf hK)
theorem f290_cl {l0 : Nat} {l1 : Int32} {l2 : Int32} {l3 : Int32} {l4 : Int32} {l5 : Int32} {l6 : Int32} {h : q_H} {x : Int32 × q_H} (hf : f290 l0 l1 l2 l3 l4 l5 l6 h = some x) : q_Cl 290 [.ref l0, .int l1, .int l2, .int l3, .int l4, .int l5, .int l6] h (.inl (some (.int x.1))) x.2 := q_Cl.of rfl (q_LvS rfl rfl) (f290_ok hf ⟨rfl, rfl⟩)
