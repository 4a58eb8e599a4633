/-! SmithyBench$Checker.typeOfAccess(LSmithyBench$Program;LSmithyBench$Body;I)I -/
theorem qk28 : q_cs.getD 28 [] = qc_28 := rfl
def f28_114 (s0 : Int32) : m_M Int32 :=
  m_R s0
theorem f28_114_ok {s0 : Int32} {h : q_H} {o : q_O} {hz : q_H} {x : Int32 × q_H} (hf : f28_114 s0 h = some x) (hK : (q_KI o hz) x) : q_Ev none 28 114 [] [.int s0] h o hz := by
  unfold f28_114 at hf
  obtain rfl := m_R_inv hf
  obtain ⟨rfl, rfl⟩ := (show q_KI o hz (s0, _) from hK)
  exact ev_ret (q_cod qk28 rfl) rfl
def f28_107 (l5 : Int32) : m_M Int32 :=
  f28_114 l5
theorem f28_107_ok {l5 : Int32} {h : q_H} {o : q_O} {hz : q_H} {x : Int32 × q_H} (hf : f28_107 l5 h = some x) (hK : (q_KI o hz) x) : q_Ev none 28 107 [(5, .int l5)] [] h o hz := by
  unfold f28_107 at hf
  refine ev_iload (q_cod qk28 rfl) (by decide) rfl ?_
  refine ev_goto (q_cod qk28 rfl) (by decide) ?_
  exact ev_weak (q_pk [] rfl) (f28_114_ok hf hK)
def f28_80 (l0 : Nat) (l1 : Nat) (l2 : Int32) (l5 : Int32) (s0 : Int32) : m_M Int32 :=
  if s0 = 0 then (m_B (m_gR 0 l1 4) (fun r1 => m_B (m_aK l1 0) (fun _ => m_B (f9 l1 l2 1) (fun v3 => m_B (m_lI r1 v3) (fun v4 => m_B (m_aK l0 7) (fun _ => m_B (f84 l0 v4 l5) (fun v6 => if v6 = 0 then (f28_114 (-3)) else (f28_107 l5)))))))) else (f28_107 l5)
theorem f28_80_ok {l0 : Nat} {l1 : Nat} {l2 : Int32} {l5 : Int32} {s0 : Int32} {h : q_H} {o : q_O} {hz : q_H} {x : Int32 × q_H} (hf : f28_80 l0 l1 l2 l5 s0 h = some x) (hK : (q_KI o hz) x) : q_Ev none 28 80 [(0, .ref l0), (1, .ref l1), (2, .int l2), (5, .int l5)] [.int s0] h o hz := by
  unfold f28_80 at hf
  refine ev_is2 (L' := [(0, .ref l0), (1, .ref l1), (2, .int l2), (5, .int l5), (6, .int s0)]) (q_cod qk28 rfl) (by decide) rfl ?_
  refine ev_iload (q_cod qk28 rfl) (by decide) rfl ?_
  refine em_if_ne (q_cod qk28 rfl) (by decide) hf (fun c8 hf => ?_) (fun c8 hf => ?_)
  · refine ev_aload_n (q_cod qk28 rfl) (by decide) rfl ?_
    refine ev_aload_n (q_cod qk28 rfl) (by decide) rfl ?_
    refine em_gR (q_cod qk28 rfl) (by decide) (by decide) hf (fun r1 hf => ?_)
    refine ev_aload_n (q_cod qk28 rfl) (by decide) rfl ?_
    refine ev_iload_n (q_cod qk28 rfl) (by decide) rfl ?_
    refine ev_ic (v := 1) (q_cod qk28 rfl) (by decide) (by decide) ?_
    obtain ⟨g2, hf⟩ := m_aK_some hf
    refine em_call (v := (fun u => some (.int u))) (q_cod qk28 rfl) rfl rfl (q_cokV rfl rfl (Or.inr g2)) rfl (fun x e => f9_cl e) hf (fun v3 h hf => ?_)
    refine em_lI (q_cod qk28 rfl) (by decide) hf (fun v4 hf => ?_)
    refine ev_iload (q_cod qk28 rfl) (by decide) rfl ?_
    obtain ⟨g5, hf⟩ := m_aK_some hf
    refine em_call (v := (fun u => some (.int u))) (q_cod qk28 rfl) rfl rfl (q_cokV rfl rfl (Or.inr g5)) rfl (fun x e => f84_cl e) hf (fun v6 h hf => ?_)
    refine em_if_eq (q_cod qk28 rfl) (by decide) hf (fun c7 hf => ?_) (fun c7 hf => ?_)
    · refine ev_bi (v := (-3)) (q_cod qk28 rfl) (by decide) (by decide) ?_
      exact ev_weak (q_pk [] rfl) (f28_114_ok hf hK)
    · exact ev_weak (q_pk [3] rfl) (f28_107_ok hf hK)
  · exact ev_weak (q_pk [3] rfl) (f28_107_ok hf hK)
def f28_28 (l0 : Nat) (l1 : Nat) (l2 : Int32) (s0 : Int32) : m_M Int32 :=
  if s0 = (-1) then (m_R (-3)) else (m_B (m_gR 0 l1 5) (fun r1 => m_B (m_wI r1 l2 (1000 + s0)) (fun _ => m_B (m_gR 0 l1 1) (fun r2 => m_B (m_lI r2 l2) (fun v3 => m_B (m_aK l0 7) (fun _ => m_B (f85 l0 s0 v3) (fun v5 => m_B (m_gR 0 l1 0) (fun r6 => m_B (m_lI r6 l2) (fun v7 => if v7 = 3 then (f28_80 l0 l1 l2 v5 1) else (f28_80 l0 l1 l2 v5 0))))))))))
theorem f28_28_ok {l0 : Nat} {l1 : Nat} {l2 : Int32} {s0 : Int32} {h : q_H} {o : q_O} {hz : q_H} {x : Int32 × q_H} (hf : f28_28 l0 l1 l2 s0 h = some x) (hK : (q_KI o hz) x) : q_Ev none 28 28 [(0, .ref l0), (1, .ref l1), (2, .int l2)] [.int s0] h o hz := by
  unfold f28_28 at hf
  refine ev_is2 (L' := [(0, .ref l0), (1, .ref l1), (2, .int l2), (4, .int s0)]) (q_cod qk28 rfl) (by decide) rfl ?_
  refine ev_iload (q_cod qk28 rfl) (by decide) rfl ?_
  refine ev_ic (v := (-1)) (q_cod qk28 rfl) (by decide) (by decide) ?_
  refine em_ic_ne (q_cod qk28 rfl) (by decide) hf (fun c9 hf => ?_) (fun c9 hf => ?_)
  · refine ev_bi (v := (-3)) (q_cod qk28 rfl) (by decide) (by decide) ?_
    obtain rfl := m_R_inv hf
    obtain ⟨rfl, rfl⟩ := (show q_KI o hz ((-3), _) from hK)
    exact ev_ret (q_cod qk28 rfl) rfl
  · refine ev_aload_n (q_cod qk28 rfl) (by decide) rfl ?_
    refine em_gR (q_cod qk28 rfl) (by decide) (by decide) hf (fun r1 hf => ?_)
    refine ev_iload_n (q_cod qk28 rfl) (by decide) rfl ?_
    refine ev_si (v := 1000) (q_cod qk28 rfl) (by decide) (by decide) ?_
    refine ev_iload (q_cod qk28 rfl) (by decide) rfl ?_
    refine ev_iadd (q_cod qk28 rfl) (by decide) ?_
    refine em_wI (q_cod qk28 rfl) (by decide) hf (fun hf => ?_)
    refine ev_aload_n (q_cod qk28 rfl) (by decide) rfl ?_
    refine ev_iload (q_cod qk28 rfl) (by decide) rfl ?_
    refine ev_aload_n (q_cod qk28 rfl) (by decide) rfl ?_
    refine em_gR (q_cod qk28 rfl) (by decide) (by decide) hf (fun r2 hf => ?_)
    refine ev_iload_n (q_cod qk28 rfl) (by decide) rfl ?_
    refine em_lI (q_cod qk28 rfl) (by decide) hf (fun v3 hf => ?_)
    obtain ⟨g4, hf⟩ := m_aK_some hf
    refine em_call (v := (fun u => some (.int u))) (q_cod qk28 rfl) rfl rfl (q_cokV rfl rfl (Or.inr g4)) rfl (fun x e => f85_cl e) hf (fun v5 h hf => ?_)
    refine ev_is2 (L' := [(0, .ref l0), (1, .ref l1), (2, .int l2), (4, .int s0), (5, .int v5)]) (q_cod qk28 rfl) (by decide) rfl ?_
    refine ev_aload_n (q_cod qk28 rfl) (by decide) rfl ?_
    refine em_gR (q_cod qk28 rfl) (by decide) (by decide) hf (fun r6 hf => ?_)
    refine ev_iload_n (q_cod qk28 rfl) (by decide) rfl ?_
    refine em_lI (q_cod qk28 rfl) (by decide) hf (fun v7 hf => ?_)
    refine ev_ic (v := 3) (q_cod qk28 rfl) (by decide) (by decide) ?_
    refine em_ic_ne (q_cod qk28 rfl) (by decide) hf (fun c8 hf => ?_) (fun c8 hf => ?_)
    · refine ev_ic (v := 1) (q_cod qk28 rfl) (by decide) (by decide) ?_
      refine ev_goto (q_cod qk28 rfl) (by decide) ?_
      exact ev_weak (q_pk [0, 1, 2, 4] rfl) (f28_80_ok hf hK)
    · refine ev_ic (v := 0) (q_cod qk28 rfl) (by decide) (by decide) ?_
      exact ev_weak (q_pk [0, 1, 2, 4] rfl) (f28_80_ok hf hK)
def f28 (l0 : Nat) (l1 : Nat) (l2 : Int32) : m_M Int32 :=
  m_B (m_gR 0 l1 4) (fun r1 => m_B (m_lI r1 (l2 + 1)) (fun v2 => if v2 < 0 then (f28_28 l0 l1 l2 (-1)) else (m_B (m_gR 0 l1 1) (fun r3 => m_B (m_lI r3 l2) (fun v4 => m_B (m_aK l0 7) (fun _ => m_B (f86 l0 v2 v4) (fun v6 => f28_28 l0 l1 l2 v6)))))))
theorem f28_ok {l0 : Nat} {l1 : Nat} {l2 : Int32} {h : q_H} {o : q_O} {hz : q_H} {x : Int32 × q_H} (hf : f28 l0 l1 l2 h = some x) (hK : (q_KI o hz) x) : q_Ev none 28 0 [(0, .ref l0), (1, .ref l1), (2, .int l2)] [] h o hz := by
  unfold f28 at hf
  refine ev_aload_n (q_cod qk28 rfl) (by decide) rfl ?_
  refine em_gR (q_cod qk28 rfl) (by decide) (by decide) hf (fun r1 hf => ?_)
  refine ev_iload_n (q_cod qk28 rfl) (by decide) rfl ?_
  refine ev_ic (v := 1) (q_cod qk28 rfl) (by decide) (by decide) ?_
  refine ev_iadd (q_cod qk28 rfl) (by decide) ?_
  refine em_lI (q_cod qk28 rfl) (by decide) hf (fun v2 hf => ?_)
  refine ev_is1 (L' := [(0, .ref l0), (1, .ref l1), (2, .int l2), (3, .int v2)]) (q_cod qk28 rfl) (by decide) rfl ?_
  refine ev_iload_n (q_cod qk28 rfl) (by decide) rfl ?_
  refine em_if_ge (q_cod qk28 rfl) (by decide) hf (fun c7 hf => ?_) (fun c7 hf => ?_)
  · refine ev_ic (v := (-1)) (q_cod qk28 rfl) (by decide) (by decide) ?_
    refine ev_goto (q_cod qk28 rfl) (by decide) ?_
    exact ev_weak (q_pk [0, 1, 2] rfl) (f28_28_ok hf hK)
  · refine ev_aload_n (q_cod qk28 rfl) (by decide) rfl ?_
    refine ev_iload_n (q_cod qk28 rfl) (by decide) rfl ?_
    refine ev_aload_n (q_cod qk28 rfl) (by decide) rfl ?_
    refine em_gR (q_cod qk28 rfl) (by decide) (by decide) hf (fun r3 hf => ?_)
    refine ev_iload_n (q_cod qk28 rfl) (by decide) rfl ?_
    refine em_lI (q_cod qk28 rfl) (by decide) hf (fun v4 hf => ?_)
    obtain ⟨g5, hf⟩ := m_aK_some hf
    refine em_call (v := (fun u => some (.int u))) (q_cod qk28 rfl) rfl rfl (q_cokV rfl rfl (Or.inr g5)) rfl (fun x e => f86_cl e) hf (fun v6 h hf => ?_)
    exact ev_weak (q_pk [0, 1, 2] rfl) (f28_28_ok hf hK)
theorem f28_cl {l0 : Nat} {l1 : Nat} {l2 : Int32} {h : q_H} {x : Int32 × q_H} (hf : f28 l0 l1 l2 h = some x) : q_Cl 28 [.ref l0, .ref l1, .int l2] h (.inl (some (.int x.1))) x.2 := q_Cl.of rfl (q_LvS rfl rfl) (f28_ok hf ⟨rfl, rfl⟩)
/-! SmithyBench$Program.methodFor(III)I -/
theorem qk90 : q_cs.getD 90 [] = qc_90 := rfl
def f90_109 (l0 : Nat) (l1 : Int32) (l2 : Int32) (l3 : Int32) (l4 : Int32) (l5 : Int32) : m_M ((Nat × Int32 × Int32 × Int32 × Int32 × Int32) ⊕ Int32) :=
  m_R (.inl (l0, l1, l2, l3, l4, (l5 + 1)))
theorem f90_109_ok {l0 : Nat} {l1 : Int32} {l2 : Int32} {l3 : Int32} {l4 : Int32} {l5 : Int32} {h : q_H} {o : q_O} {hz : q_H} {x : ((Nat × Int32 × Int32 × Int32 × Int32 × Int32) ⊕ Int32) × q_H} (hf : f90_109 l0 l1 l2 l3 l4 l5 h = some x) (hK : (m_yK (fun (s : Nat × Int32 × Int32 × Int32 × Int32 × Int32) (h : q_H) => q_Ev none 90 6 [(0, .ref (s.1)), (1, .int (s.2.1)), (2, .int (s.2.2.1)), (3, .int (s.2.2.2.1)), (4, .int (s.2.2.2.2.1)), (5, .int (s.2.2.2.2.2))] [] h o hz) (q_KI o hz)) x) : q_Ev none 90 109 [(0, .ref l0), (1, .int l1), (2, .int l2), (3, .int l3), (4, .int l4), (5, .int l5)] [] h o hz := by
  unfold f90_109 at hf
  refine ev_inc (v := l5 + 1) (L' := [(0, .ref l0), (1, .int l1), (2, .int l2), (3, .int l3), (4, .int l4), (5, .int (l5 + 1))]) (q_cod qk90 rfl) (by decide) rfl rfl rfl ?_
  refine ev_goto (q_cod qk90 rfl) (by decide) ?_
  obtain rfl := m_R_inv hf
  exact (show q_Ev none 90 6 [(0, .ref l0), (1, .int l1), (2, .int l2), (3, .int l3), (4, .int l4), (5, .int (l5 + 1))] [] _ o hz from hK)
def f90_105 (l0 : Nat) (l1 : Int32) (l2 : Int32) (l3 : Int32) (l5 : Int32) : m_M ((Nat × Int32 × Int32 × Int32 × Int32 × Int32) ⊕ Int32) :=
  f90_109 l0 l1 l2 l3 l5 l5
theorem f90_105_ok {l0 : Nat} {l1 : Int32} {l2 : Int32} {l3 : Int32} {l5 : Int32} {h : q_H} {o : q_O} {hz : q_H} {x : ((Nat × Int32 × Int32 × Int32 × Int32 × Int32) ⊕ Int32) × q_H} (hf : f90_105 l0 l1 l2 l3 l5 h = some x) (hK : (m_yK (fun (s : Nat × Int32 × Int32 × Int32 × Int32 × Int32) (h : q_H) => q_Ev none 90 6 [(0, .ref (s.1)), (1, .int (s.2.1)), (2, .int (s.2.2.1)), (3, .int (s.2.2.2.1)), (4, .int (s.2.2.2.2.1)), (5, .int (s.2.2.2.2.2))] [] h o hz) (q_KI o hz)) x) : q_Ev none 90 105 [(0, .ref l0), (1, .int l1), (2, .int l2), (3, .int l3), (5, .int l5)] [] h o hz := by
  unfold f90_105 at hf
  refine ev_iload (q_cod qk90 rfl) (by decide) rfl ?_
  refine ev_is2 (L' := [(0, .ref l0), (1, .int l1), (2, .int l2), (3, .int l3), (4, .int l5), (5, .int l5)]) (q_cod qk90 rfl) (by decide) rfl ?_
  exact (f90_109_ok hf hK)
def f90_55 (l0 : Nat) (l1 : Int32) (l2 : Int32) (l3 : Int32) (l4 : Int32) (l5 : Int32) (s0 : Int32) : m_M ((Nat × Int32 × Int32 × Int32 × Int32 × Int32) ⊕ Int32) :=
  if s0 = 0 then (f90_109 l0 l1 l2 l3 l4 l5) else (m_B (m_gR 7 l0 1) (fun r1 => m_B (m_lI r1 l1) (fun v2 => m_B (m_gR 7 l0 3) (fun r3 => m_B (m_lI r3 l5) (fun v4 => if ((q_ush v2 v4) &&& 1) = 1 then (if l4 = (-1) then (f90_105 l0 l1 l2 l3 l5) else (m_B (m_gR 7 l0 3) (fun r5 => m_B (m_lI r5 l5) (fun v6 => m_B (m_gR 7 l0 3) (fun r7 => m_B (m_lI r7 l4) (fun v8 => if v8 < v6 then (f90_105 l0 l1 l2 l3 l5) else (f90_109 l0 l1 l2 l3 l4 l5))))))) else (f90_109 l0 l1 l2 l3 l4 l5))))))
theorem f90_55_ok {l0 : Nat} {l1 : Int32} {l2 : Int32} {l3 : Int32} {l4 : Int32} {l5 : Int32} {s0 : Int32} {h : q_H} {o : q_O} {hz : q_H} {x : ((Nat × Int32 × Int32 × Int32 × Int32 × Int32) ⊕ Int32) × q_H} (hf : f90_55 l0 l1 l2 l3 l4 l5 s0 h = some x) (hK : (m_yK (fun (s : Nat × Int32 × Int32 × Int32 × Int32 × Int32) (h : q_H) => q_Ev none 90 6 [(0, .ref (s.1)), (1, .int (s.2.1)), (2, .int (s.2.2.1)), (3, .int (s.2.2.2.1)), (4, .int (s.2.2.2.2.1)), (5, .int (s.2.2.2.2.2))] [] h o hz) (q_KI o hz)) x) : q_Ev none 90 55 [(0, .ref l0), (1, .int l1), (2, .int l2), (3, .int l3), (4, .int l4), (5, .int l5)] [.int s0] h o hz := by
  unfold f90_55 at hf
  refine ev_is2 (L' := [(0, .ref l0), (1, .int l1), (2, .int l2), (3, .int l3), (4, .int l4), (5, .int l5), (6, .int s0)]) (q_cod qk90 rfl) (by decide) rfl ?_
  refine ev_iload (q_cod qk90 rfl) (by decide) rfl ?_
  refine em_if_eq (q_cod qk90 rfl) (by decide) hf (fun c12 hf => ?_) (fun c12 hf => ?_)
  · exact ev_weak (q_pk [0, 1, 2, 3, 4, 5] rfl) (f90_109_ok hf hK)
  · refine ev_aload_n (q_cod qk90 rfl) (by decide) rfl ?_
    refine em_gR (q_cod qk90 rfl) (by decide) (by decide) hf (fun r1 hf => ?_)
    refine ev_iload_n (q_cod qk90 rfl) (by decide) rfl ?_
    refine em_lI (q_cod qk90 rfl) (by decide) hf (fun v2 hf => ?_)
    refine ev_aload_n (q_cod qk90 rfl) (by decide) rfl ?_
    refine em_gR (q_cod qk90 rfl) (by decide) (by decide) hf (fun r3 hf => ?_)
    refine ev_iload (q_cod qk90 rfl) (by decide) rfl ?_
    refine em_lI (q_cod qk90 rfl) (by decide) hf (fun v4 hf => ?_)
    refine ev_iushr (q_cod qk90 rfl) (by decide) ?_
    refine ev_ic (v := 1) (q_cod qk90 rfl) (by decide) (by decide) ?_
    refine ev_iand (q_cod qk90 rfl) (by decide) ?_
    refine ev_ic (v := 1) (q_cod qk90 rfl) (by decide) (by decide) ?_
    refine em_ic_ne (q_cod qk90 rfl) (by decide) hf (fun c11 hf => ?_) (fun c11 hf => ?_)
    · refine ev_iload (q_cod qk90 rfl) (by decide) rfl ?_
      refine ev_ic (v := (-1)) (q_cod qk90 rfl) (by decide) (by decide) ?_
      refine em_ic_eq (q_cod qk90 rfl) (by decide) hf (fun c10 hf => ?_) (fun c10 hf => ?_)
      · exact ev_weak (q_pk [0, 1, 2, 3, 5] rfl) (f90_105_ok hf hK)
      · refine ev_aload_n (q_cod qk90 rfl) (by decide) rfl ?_
        refine em_gR (q_cod qk90 rfl) (by decide) (by decide) hf (fun r5 hf => ?_)
        refine ev_iload (q_cod qk90 rfl) (by decide) rfl ?_
        refine em_lI (q_cod qk90 rfl) (by decide) hf (fun v6 hf => ?_)
        refine ev_aload_n (q_cod qk90 rfl) (by decide) rfl ?_
        refine em_gR (q_cod qk90 rfl) (by decide) (by decide) hf (fun r7 hf => ?_)
        refine ev_iload (q_cod qk90 rfl) (by decide) rfl ?_
        refine em_lI (q_cod qk90 rfl) (by decide) hf (fun v8 hf => ?_)
        refine em_ic_le (q_cod qk90 rfl) (by decide) hf (fun c9 hf => ?_) (fun c9 hf => ?_)
        · exact ev_weak (q_pk [0, 1, 2, 3, 5] rfl) (f90_105_ok hf hK)
        · exact ev_weak (q_pk [0, 1, 2, 3, 4, 5] rfl) (f90_109_ok hf hK)
    · exact ev_weak (q_pk [0, 1, 2, 3, 4, 5] rfl) (f90_109_ok hf hK)
def f90_54 (l0 : Nat) (l1 : Int32) (l2 : Int32) (l3 : Int32) (l4 : Int32) (l5 : Int32) : m_M ((Nat × Int32 × Int32 × Int32 × Int32 × Int32) ⊕ Int32) :=
  f90_55 l0 l1 l2 l3 l4 l5 0
theorem f90_54_ok {l0 : Nat} {l1 : Int32} {l2 : Int32} {l3 : Int32} {l4 : Int32} {l5 : Int32} {h : q_H} {o : q_O} {hz : q_H} {x : ((Nat × Int32 × Int32 × Int32 × Int32 × Int32) ⊕ Int32) × q_H} (hf : f90_54 l0 l1 l2 l3 l4 l5 h = some x) (hK : (m_yK (fun (s : Nat × Int32 × Int32 × Int32 × Int32 × Int32) (h : q_H) => q_Ev none 90 6 [(0, .ref (s.1)), (1, .int (s.2.1)), (2, .int (s.2.2.1)), (3, .int (s.2.2.2.1)), (4, .int (s.2.2.2.2.1)), (5, .int (s.2.2.2.2.2))] [] h o hz) (q_KI o hz)) x) : q_Ev none 90 54 [(0, .ref l0), (1, .int l1), (2, .int l2), (3, .int l3), (4, .int l4), (5, .int l5)] [] h o hz := by
  unfold f90_54 at hf
  refine ev_ic (v := 0) (q_cod qk90 rfl) (by decide) (by decide) ?_
  exact (f90_55_ok hf hK)
def f90_115 (l4 : Int32) : m_M Int32 :=
  m_R l4
theorem f90_115_ok {l4 : Int32} {h : q_H} {o : q_O} {hz : q_H} {x : Int32 × q_H} (hf : f90_115 l4 h = some x) (hK : (q_KI o hz) x) : q_Ev none 90 115 [(4, .int l4)] [] h o hz := by
  unfold f90_115 at hf
  refine ev_iload (q_cod qk90 rfl) (by decide) rfl ?_
  obtain rfl := m_R_inv hf
  obtain ⟨rfl, rfl⟩ := (show q_KI o hz (l4, _) from hK)
  exact ev_ret (q_cod qk90 rfl) rfl
def f90_6b (l0 : Nat) (l1 : Int32) (l2 : Int32) (l3 : Int32) (l4 : Int32) (l5 : Int32) : m_M ((Nat × Int32 × Int32 × Int32 × Int32 × Int32) ⊕ Int32) :=
  m_B (m_gI 7 l0 11) (fun v1 => if l5 < v1 then (m_B (m_gI 7 l0 12) (fun v2 => if ((q_ush v2 l5) &&& 1) = 1 then (m_B (m_gR 7 l0 4) (fun r3 => m_B (m_lI r3 l5) (fun v4 => if v4 = l2 then (m_B (m_gR 7 l0 5) (fun r5 => m_B (m_lI r5 l5) (fun v6 => if v6 = l3 then (f90_55 l0 l1 l2 l3 l4 l5 1) else (f90_54 l0 l1 l2 l3 l4 l5)))) else (f90_54 l0 l1 l2 l3 l4 l5)))) else (f90_54 l0 l1 l2 l3 l4 l5))) else (m_B (f90_115 l4) (fun r => m_R (.inr r))))
theorem f90_6b_ok {l0 : Nat} {l1 : Int32} {l2 : Int32} {l3 : Int32} {l4 : Int32} {l5 : Int32} {h : q_H} {o : q_O} {hz : q_H} {x : ((Nat × Int32 × Int32 × Int32 × Int32 × Int32) ⊕ Int32) × q_H} (hf : f90_6b l0 l1 l2 l3 l4 l5 h = some x) (hK : (m_yK (fun (s : Nat × Int32 × Int32 × Int32 × Int32 × Int32) (h : q_H) => q_Ev none 90 6 [(0, .ref (s.1)), (1, .int (s.2.1)), (2, .int (s.2.2.1)), (3, .int (s.2.2.2.1)), (4, .int (s.2.2.2.2.1)), (5, .int (s.2.2.2.2.2))] [] h o hz) (q_KI o hz)) x) : q_Ev none 90 6 [(0, .ref l0), (1, .int l1), (2, .int l2), (3, .int l3), (4, .int l4), (5, .int l5)] [] h o hz := by
  unfold f90_6b at hf
  refine ev_iload (q_cod qk90 rfl) (by decide) rfl ?_
  refine ev_aload_n (q_cod qk90 rfl) (by decide) rfl ?_
  refine em_gI (q_cod qk90 rfl) (by decide) (by decide) hf (fun v1 hf => ?_)
  refine em_ic_ge (q_cod qk90 rfl) (by decide) hf (fun c10 hf => ?_) (fun c10 hf => ?_)
  · refine ev_aload_n (q_cod qk90 rfl) (by decide) rfl ?_
    refine em_gI (q_cod qk90 rfl) (by decide) (by decide) hf (fun v2 hf => ?_)
    refine ev_iload (q_cod qk90 rfl) (by decide) rfl ?_
    refine ev_iushr (q_cod qk90 rfl) (by decide) ?_
    refine ev_ic (v := 1) (q_cod qk90 rfl) (by decide) (by decide) ?_
    refine ev_iand (q_cod qk90 rfl) (by decide) ?_
    refine ev_ic (v := 1) (q_cod qk90 rfl) (by decide) (by decide) ?_
    refine em_ic_ne (q_cod qk90 rfl) (by decide) hf (fun c9 hf => ?_) (fun c9 hf => ?_)
    · refine ev_aload_n (q_cod qk90 rfl) (by decide) rfl ?_
      refine em_gR (q_cod qk90 rfl) (by decide) (by decide) hf (fun r3 hf => ?_)
      refine ev_iload (q_cod qk90 rfl) (by decide) rfl ?_
      refine em_lI (q_cod qk90 rfl) (by decide) hf (fun v4 hf => ?_)
      refine ev_iload_n (q_cod qk90 rfl) (by decide) rfl ?_
      refine em_ic_ne (q_cod qk90 rfl) (by decide) hf (fun c8 hf => ?_) (fun c8 hf => ?_)
      · refine ev_aload_n (q_cod qk90 rfl) (by decide) rfl ?_
        refine em_gR (q_cod qk90 rfl) (by decide) (by decide) hf (fun r5 hf => ?_)
        refine ev_iload (q_cod qk90 rfl) (by decide) rfl ?_
        refine em_lI (q_cod qk90 rfl) (by decide) hf (fun v6 hf => ?_)
        refine ev_iload_n (q_cod qk90 rfl) (by decide) rfl ?_
        refine em_ic_ne (q_cod qk90 rfl) (by decide) hf (fun c7 hf => ?_) (fun c7 hf => ?_)
        · refine ev_ic (v := 1) (q_cod qk90 rfl) (by decide) (by decide) ?_
          refine ev_goto (q_cod qk90 rfl) (by decide) ?_
          exact (f90_55_ok hf hK)
        · exact (f90_54_ok hf hK)
      · exact (f90_54_ok hf hK)
    · exact (f90_54_ok hf hK)
  · obtain ⟨y0, hf0, hx⟩ := m_inr_some hf
    subst hx
    exact ev_weak (q_pk [4] rfl) (f90_115_ok hf0 hK)
def f90_6 (l0 : Nat) (l1 : Int32) (l2 : Int32) (l3 : Int32) (l4 : Int32) (l5 : Int32) : m_M Int32 := m_W (fun s => f90_6b (s.1) (s.2.1) (s.2.2.1) (s.2.2.2.1) (s.2.2.2.2.1) (s.2.2.2.2.2)) 1000000 (l0, l1, l2, l3, l4, l5)
theorem f90_6_ok {l0 : Nat} {l1 : Int32} {l2 : Int32} {l3 : Int32} {l4 : Int32} {l5 : Int32} {h : q_H} {o : q_O} {hz : q_H} {x : Int32 × q_H} (hf : f90_6 l0 l1 l2 l3 l4 l5 h = some x) (hK : (q_KI o hz) x) : q_Ev none 90 6 [(0, .ref l0), (1, .int l1), (2, .int l2), (3, .int l3), (4, .int l4), (5, .int l5)] [] h o hz :=
  m_W_ok (P := (fun (s : Nat × Int32 × Int32 × Int32 × Int32 × Int32) (h : q_H) => q_Ev none 90 6 [(0, .ref (s.1)), (1, .int (s.2.1)), (2, .int (s.2.2.1)), (3, .int (s.2.2.2.1)), (4, .int (s.2.2.2.2.1)), (5, .int (s.2.2.2.2.2))] [] h o hz)) (K := (q_KI o hz)) (fun s h x h1 h2 => f90_6b_ok h1 h2) _ (l0, l1, l2, l3, l4, l5) _ _ hf hK
def f90 (l0 : Nat) (l1 : Int32) (l2 : Int32) (l3 : Int32) : m_M Int32 :=
  f90_6 l0 l1 l2 l3 (-1) 0
theorem f90_ok {l0 : Nat} {l1 : Int32} {l2 : Int32} {l3 : Int32} {h : q_H} {o : q_O} {hz : q_H} {x : Int32 × q_H} (hf : f90 l0 l1 l2 l3 h = some x) (hK : (q_KI o hz) x) : q_Ev none 90 0 [(0, .ref l0), (1, .int l1), (2, .int l2), (3, .int l3)] [] h o hz := by
  unfold f90 at hf
  refine ev_ic (v := (-1)) (q_cod qk90 rfl) (by decide) (by decide) ?_
  refine ev_is2 (L' := [(0, .ref l0), (1, .int l1), (2, .int l2), (3, .int l3), (4, .int (-1))]) (q_cod qk90 rfl) (by decide) rfl ?_
  refine ev_ic (v := 0) (q_cod qk90 rfl) (by decide) (by decide) ?_
  refine ev_is2 (L' := [(0, .ref l0), (1, .int l1), (2, .int l2), (3, .int l3), (4, .int (-1)), (5, .int 0)]) (q_cod qk90 rfl) (by decide) rfl ?_
  exact (f90_6_ok hf hK)
theorem f90_cl {l0 : Nat} {l1 : Int32} {l2 : Int32} {l3 : Int32} {h : q_H} {x : Int32 × q_H} (hf : f90 l0 l1 l2 l3 h = some x) : q_Cl 90 [.ref l0, .int l1, .int l2, .int l3] h (.inl (some (.int x.1))) x.2 := q_Cl.of rfl (q_LvS rfl rfl) (f90_ok hf ⟨rfl, rfl⟩)
/-! SmithyBench$Checker.typeOfCall(LSmithyBench$Program;LSmithyBench$Body;I)I -/
theorem qk29 : q_cs.getD 29 [] = qc_29 := rfl
def f29_106  : m_M Int32 :=
  m_R (-3)
theorem f29_106_ok  {h : q_H} {o : q_O} {hz : q_H} {x : Int32 × q_H} (hf : f29_106 h = some x) (hK : (q_KI o hz) x) : q_Ev none 29 106 [] [] h o hz := by
  unfold f29_106 at hf
  refine ev_bi (v := (-3)) (q_cod qk29 rfl) (by decide) (by decide) ?_
  obtain rfl := m_R_inv hf
  obtain ⟨rfl, rfl⟩ := (show q_KI o hz ((-3), _) from hK)
  exact ev_ret (q_cod qk29 rfl) rfl
def f29_115 (l0 : Nat) (l5 : Int32) : m_M Int32 :=
  m_B (m_gR 7 l0 8) (fun r1 => m_B (m_lI r1 l5) (fun v2 => m_R v2))
theorem f29_115_ok {l0 : Nat} {l5 : Int32} {h : q_H} {o : q_O} {hz : q_H} {x : Int32 × q_H} (hf : f29_115 l0 l5 h = some x) (hK : (q_KI o hz) x) : q_Ev none 29 115 [(0, .ref l0), (5, .int l5)] [] h o hz := by
  unfold f29_115 at hf
  refine ev_aload_n (q_cod qk29 rfl) (by decide) rfl ?_
  refine em_gR (q_cod qk29 rfl) (by decide) (by decide) hf (fun r1 hf => ?_)
  refine ev_iload (q_cod qk29 rfl) (by decide) rfl ?_
  refine em_lI (q_cod qk29 rfl) (by decide) hf (fun v2 hf => ?_)
  obtain rfl := m_R_inv hf
  obtain ⟨rfl, rfl⟩ := (show q_KI o hz (v2, _) from hK)
  exact ev_ret (q_cod qk29 rfl) rfl
def f29_66b (l0 : Nat) (l1 : Nat) (l2 : Int32) (l4 : Int32) (l5 : Int32) (l6 : Int32) : m_M ((Nat × Nat × Int32 × Int32 × Int32 × Int32) ⊕ Int32) :=
  if l6 < l4 then (m_B (m_gR 0 l1 4) (fun r1 => m_B (m_aK l1 0) (fun _ => m_B (f9 l1 l2 (l6 + 1)) (fun v3 => m_B (m_lI r1 v3) (fun v4 => m_B (m_gR 7 l0 7) (fun r5 => m_B (m_lI r5 ((l5 * 2) + l6)) (fun v6 => m_B (m_aK l0 7) (fun _ => m_B (f84 l0 v4 v6) (fun v8 => if v8 = 0 then (m_B (f29_106) (fun r => m_R (.inr r))) else (m_R (.inl (l0, l1, l2, l4, l5, (l6 + 1))))))))))))) else (m_B (f29_115 l0 l5) (fun r => m_R (.inr r)))
theorem f29_66b_ok {l0 : Nat} {l1 : Nat} {l2 : Int32} {l4 : Int32} {l5 : Int32} {l6 : Int32} {h : q_H} {o : q_O} {hz : q_H} {x : ((Nat × Nat × Int32 × Int32 × Int32 × Int32) ⊕ Int32) × q_H} (hf : f29_66b l0 l1 l2 l4 l5 l6 h = some x) (hK : (m_yK (fun (s : Nat × Nat × Int32 × Int32 × Int32 × Int32) (h : q_H) => q_Ev none 29 66 [(0, .ref (s.1)), (1, .ref (s.2.1)), (2, .int (s.2.2.1)), (4, .int (s.2.2.2.1)), (5, .int (s.2.2.2.2.1)), (6, .int (s.2.2.2.2.2))] [] h o hz) (q_KI o hz)) x) : q_Ev none 29 66 [(0, .ref l0), (1, .ref l1), (2, .int l2), (4, .int l4), (5, .int l5), (6, .int l6)] [] h o hz := by
  unfold f29_66b at hf
  refine ev_iload (q_cod qk29 rfl) (by decide) rfl ?_
  refine ev_iload (q_cod qk29 rfl) (by decide) rfl ?_
  refine em_ic_ge (q_cod qk29 rfl) (by decide) hf (fun c10 hf => ?_) (fun c10 hf => ?_)
  · refine ev_aload_n (q_cod qk29 rfl) (by decide) rfl ?_
    refine ev_aload_n (q_cod qk29 rfl) (by decide) rfl ?_
    refine em_gR (q_cod qk29 rfl) (by decide) (by decide) hf (fun r1 hf => ?_)
    refine ev_aload_n (q_cod qk29 rfl) (by decide) rfl ?_
    refine ev_iload_n (q_cod qk29 rfl) (by decide) rfl ?_
    refine ev_iload (q_cod qk29 rfl) (by decide) rfl ?_
    refine ev_ic (v := 1) (q_cod qk29 rfl) (by decide) (by decide) ?_
    refine ev_iadd (q_cod qk29 rfl) (by decide) ?_
    obtain ⟨g2, hf⟩ := m_aK_some hf
    refine em_call (v := (fun u => some (.int u))) (q_cod qk29 rfl) rfl rfl (q_cokV rfl rfl (Or.inr g2)) rfl (fun x e => f9_cl e) hf (fun v3 h hf => ?_)
    refine em_lI (q_cod qk29 rfl) (by decide) hf (fun v4 hf => ?_)
    refine ev_aload_n (q_cod qk29 rfl) (by decide) rfl ?_
    refine em_gR (q_cod qk29 rfl) (by decide) (by decide) hf (fun r5 hf => ?_)
    refine ev_iload (q_cod qk29 rfl) (by decide) rfl ?_
    refine ev_ic (v := 2) (q_cod qk29 rfl) (by decide) (by decide) ?_
    refine ev_imul (q_cod qk29 rfl) (by decide) ?_
    refine ev_iload (q_cod qk29 rfl) (by decide) rfl ?_
    refine ev_iadd (q_cod qk29 rfl) (by decide) ?_
    refine em_lI (q_cod qk29 rfl) (by decide) hf (fun v6 hf => ?_)
    obtain ⟨g7, hf⟩ := m_aK_some hf
    refine em_call (v := (fun u => some (.int u))) (q_cod qk29 rfl) rfl rfl (q_cokV rfl rfl (Or.inr g7)) rfl (fun x e => f84_cl e) hf (fun v8 h hf => ?_)
    refine em_if_ne (q_cod qk29 rfl) (by decide) hf (fun c9 hf => ?_) (fun c9 hf => ?_)
    · obtain ⟨y0, hf0, hx⟩ := m_inr_some hf
      subst hx
      exact ev_weak (q_pk [] rfl) (f29_106_ok hf0 hK)
    · refine ev_inc (v := l6 + 1) (L' := [(0, .ref l0), (1, .ref l1), (2, .int l2), (4, .int l4), (5, .int l5), (6, .int (l6 + 1))]) (q_cod qk29 rfl) (by decide) rfl rfl rfl ?_
      refine ev_goto (q_cod qk29 rfl) (by decide) ?_
      obtain rfl := m_R_inv hf
      exact (show q_Ev none 29 66 [(0, .ref l0), (1, .ref l1), (2, .int l2), (4, .int l4), (5, .int l5), (6, .int (l6 + 1))] [] _ o hz from hK)
  · obtain ⟨y0, hf0, hx⟩ := m_inr_some hf
    subst hx
    exact ev_weak (q_pk [0, 4] rfl) (f29_115_ok hf0 hK)
def f29_66 (l0 : Nat) (l1 : Nat) (l2 : Int32) (l4 : Int32) (l5 : Int32) (l6 : Int32) : m_M Int32 := m_W (fun s => f29_66b (s.1) (s.2.1) (s.2.2.1) (s.2.2.2.1) (s.2.2.2.2.1) (s.2.2.2.2.2)) 1000000 (l0, l1, l2, l4, l5, l6)
theorem f29_66_ok {l0 : Nat} {l1 : Nat} {l2 : Int32} {l4 : Int32} {l5 : Int32} {l6 : Int32} {h : q_H} {o : q_O} {hz : q_H} {x : Int32 × q_H} (hf : f29_66 l0 l1 l2 l4 l5 l6 h = some x) (hK : (q_KI o hz) x) : q_Ev none 29 66 [(0, .ref l0), (1, .ref l1), (2, .int l2), (4, .int l4), (5, .int l5), (6, .int l6)] [] h o hz :=
  m_W_ok (P := (fun (s : Nat × Nat × Int32 × Int32 × Int32 × Int32) (h : q_H) => q_Ev none 29 66 [(0, .ref (s.1)), (1, .ref (s.2.1)), (2, .int (s.2.2.1)), (4, .int (s.2.2.2.1)), (5, .int (s.2.2.2.2.1)), (6, .int (s.2.2.2.2.2))] [] h o hz)) (K := (q_KI o hz)) (fun s h x h1 h2 => f29_66b_ok h1 h2) _ (l0, l1, l2, l4, l5, l6) _ _ hf hK
def f29_40 (l0 : Nat) (l1 : Nat) (l2 : Int32) (l4 : Int32) (s0 : Int32) : m_M Int32 :=
  if s0 = (-1) then (m_R (-3)) else (m_B (m_gR 0 l1 5) (fun r1 => m_B (m_wI r1 l2 (2000 + s0)) (fun _ => f29_66 l0 l1 l2 l4 s0 0)))
theorem f29_40_ok {l0 : Nat} {l1 : Nat} {l2 : Int32} {l4 : Int32} {s0 : Int32} {h : q_H} {o : q_O} {hz : q_H} {x : Int32 × q_H} (hf : f29_40 l0 l1 l2 l4 s0 h = some x) (hK : (q_KI o hz) x) : q_Ev none 29 40 [(0, .ref l0), (1, .ref l1), (2, .int l2), (4, .int l4)] [.int s0] h o hz := by
  unfold f29_40 at hf
  refine ev_is2 (L' := [(0, .ref l0), (1, .ref l1), (2, .int l2), (4, .int l4), (5, .int s0)]) (q_cod qk29 rfl) (by decide) rfl ?_
  refine ev_iload (q_cod qk29 rfl) (by decide) rfl ?_
  refine ev_ic (v := (-1)) (q_cod qk29 rfl) (by decide) (by decide) ?_
  refine em_ic_ne (q_cod qk29 rfl) (by decide) hf (fun c2 hf => ?_) (fun c2 hf => ?_)
  · refine ev_bi (v := (-3)) (q_cod qk29 rfl) (by decide) (by decide) ?_
    obtain rfl := m_R_inv hf
    obtain ⟨rfl, rfl⟩ := (show q_KI o hz ((-3), _) from hK)
    exact ev_ret (q_cod qk29 rfl) rfl
  · refine ev_aload_n (q_cod qk29 rfl) (by decide) rfl ?_
    refine em_gR (q_cod qk29 rfl) (by decide) (by decide) hf (fun r1 hf => ?_)
    refine ev_iload_n (q_cod qk29 rfl) (by decide) rfl ?_
    refine ev_si (v := 2000) (q_cod qk29 rfl) (by decide) (by decide) ?_
    refine ev_iload (q_cod qk29 rfl) (by decide) rfl ?_
    refine ev_iadd (q_cod qk29 rfl) (by decide) ?_
    refine em_wI (q_cod qk29 rfl) (by decide) hf (fun hf => ?_)
    refine ev_ic (v := 0) (q_cod qk29 rfl) (by decide) (by decide) ?_
    refine ev_is2 (L' := [(0, .ref l0), (1, .ref l1), (2, .int l2), (4, .int l4), (5, .int s0), (6, .int 0)]) (q_cod qk29 rfl) (by decide) rfl ?_
    exact (f29_66_ok hf hK)
def f29 (l0 : Nat) (l1 : Nat) (l2 : Int32) : m_M Int32 :=
  m_B (m_gR 0 l1 4) (fun r1 => m_B (m_lI r1 (l2 + 1)) (fun v2 => m_B (m_gR 0 l1 2) (fun r3 => m_B (m_lI r3 l2) (fun v4 => if v2 < 0 then (f29_40 l0 l1 l2 (v4 - 1) (-1)) else (m_B (m_gR 0 l1 1) (fun r5 => m_B (m_lI r5 l2) (fun v6 => m_B (m_aK l0 7) (fun _ => m_B (f90 l0 v2 v6 (v4 - 1)) (fun v8 => f29_40 l0 l1 l2 (v4 - 1) v8)))))))))
theorem f29_ok {l0 : Nat} {l1 : Nat} {l2 : Int32} {h : q_H} {o : q_O} {hz : q_H} {x : Int32 × q_H} (hf : f29 l0 l1 l2 h = some x) (hK : (q_KI o hz) x) : q_Ev none 29 0 [(0, .ref l0), (1, .ref l1), (2, .int l2)] [] h o hz := by
  unfold f29 at hf
  refine ev_aload_n (q_cod qk29 rfl) (by decide) rfl ?_
  refine em_gR (q_cod qk29 rfl) (by decide) (by decide) hf (fun r1 hf => ?_)
  refine ev_iload_n (q_cod qk29 rfl) (by decide) rfl ?_
  refine ev_ic (v := 1) (q_cod qk29 rfl) (by decide) (by decide) ?_
  refine ev_iadd (q_cod qk29 rfl) (by decide) ?_
  refine em_lI (q_cod qk29 rfl) (by decide) hf (fun v2 hf => ?_)
  refine ev_is1 (L' := [(0, .ref l0), (1, .ref l1), (2, .int l2), (3, .int v2)]) (q_cod qk29 rfl) (by decide) rfl ?_
  refine ev_aload_n (q_cod qk29 rfl) (by decide) rfl ?_
  refine em_gR (q_cod qk29 rfl) (by decide) (by decide) hf (fun r3 hf => ?_)
  refine ev_iload_n (q_cod qk29 rfl) (by decide) rfl ?_
  refine em_lI (q_cod qk29 rfl) (by decide) hf (fun v4 hf => ?_)
  refine ev_ic (v := 1) (q_cod qk29 rfl) (by decide) (by decide) ?_
  refine ev_isub (q_cod qk29 rfl) (by decide) ?_
  refine ev_is2 (L' := [(0, .ref l0), (1, .ref l1), (2, .int l2), (3, .int v2), (4, .int (v4 - 1))]) (q_cod qk29 rfl) (by decide) rfl ?_
  refine ev_iload_n (q_cod qk29 rfl) (by decide) rfl ?_
  refine em_if_ge (q_cod qk29 rfl) (by decide) hf (fun c9 hf => ?_) (fun c9 hf => ?_)
  · refine ev_ic (v := (-1)) (q_cod qk29 rfl) (by decide) (by decide) ?_
    refine ev_goto (q_cod qk29 rfl) (by decide) ?_
    exact ev_weak (q_pk [0, 1, 2, 4] rfl) (f29_40_ok hf hK)
  · refine ev_aload_n (q_cod qk29 rfl) (by decide) rfl ?_
    refine ev_iload_n (q_cod qk29 rfl) (by decide) rfl ?_
    refine ev_aload_n (q_cod qk29 rfl) (by decide) rfl ?_
    refine em_gR (q_cod qk29 rfl) (by decide) (by decide) hf (fun r5 hf => ?_)
    refine ev_iload_n (q_cod qk29 rfl) (by decide) rfl ?_
    refine em_lI (q_cod qk29 rfl) (by decide) hf (fun v6 hf => ?_)
    refine ev_iload (q_cod qk29 rfl) (by decide) rfl ?_
    obtain ⟨g7, hf⟩ := m_aK_some hf
    refine em_call (v := (fun u => some (.int u))) (q_cod qk29 rfl) rfl rfl (q_cokV rfl rfl (Or.inr g7)) rfl (fun x e => f90_cl e) hf (fun v8 h hf => ?_)
    exact ev_weak (q_pk [0, 1, 2, 4] rfl) (f29_40_ok hf hK)
theorem f29_cl {l0 : Nat} {l1 : Nat} {l2 : Int32} {h : q_H} {x : Int32 × q_H} (hf : f29 l0 l1 l2 h = some x) : q_Cl 29 [.ref l0, .ref l1, .int l2] h (.inl (some (.int x.1))) x.2 := q_Cl.of rfl (q_LvS rfl rfl) (f29_ok hf ⟨rfl, rfl⟩)
/-! SmithyBench$Checker.isNumber(I)Z -/
theorem qk25 : q_cs.getD 25 [] = qc_25 := rfl
def f25_16 (s0 : Int32) : m_M Int32 :=
  m_B (m_G (s0 = 0 ∨ s0 = 1)) (fun _ => m_R s0)
theorem f25_16_ok {s0 : Int32} {h : q_H} {o : q_O} {hz : q_H} {x : Int32 × q_H} (hf : f25_16 s0 h = some x) (hK : (q_KI o hz) x) : q_Ev none 25 16 [] [.int s0] h o hz := by
  unfold f25_16 at hf
  obtain ⟨g1, hf⟩ := m_G_some hf
  obtain rfl := m_R_inv hf
  obtain ⟨rfl, rfl⟩ := (show q_KI o hz (s0, _) from hK)
  exact ev_ret (q_cod qk25 rfl) (q_retZ g1)
def f25_11  : m_M Int32 :=
  f25_16 1
theorem f25_11_ok  {h : q_H} {o : q_O} {hz : q_H} {x : Int32 × q_H} (hf : f25_11 h = some x) (hK : (q_KI o hz) x) : q_Ev none 25 11 [] [] h o hz := by
  unfold f25_11 at hf
  refine ev_ic (v := 1) (q_cod qk25 rfl) (by decide) (by decide) ?_
  refine ev_goto (q_cod qk25 rfl) (by decide) ?_
  exact (f25_16_ok hf hK)
def f25 (l0 : Int32) : m_M Int32 :=
  if l0 = (-1) then (f25_11) else (if l0 = (-2) then (f25_11) else (f25_16 0))
theorem f25_ok {l0 : Int32} {h : q_H} {o : q_O} {hz : q_H} {x : Int32 × q_H} (hf : f25 l0 h = some x) (hK : (q_KI o hz) x) : q_Ev none 25 0 [(0, .int l0)] [] h o hz := by
  unfold f25 at hf
  refine ev_iload_n (q_cod qk25 rfl) (by decide) rfl ?_
  refine ev_ic (v := (-1)) (q_cod qk25 rfl) (by decide) (by decide) ?_
  refine em_ic_eq (q_cod qk25 rfl) (by decide) hf (fun c2 hf => ?_) (fun c2 hf => ?_)
  · exact ev_weak (q_pk [] rfl) (f25_11_ok hf hK)
  · refine ev_iload_n (q_cod qk25 rfl) (by decide) rfl ?_
    refine ev_bi (v := (-2)) (q_cod qk25 rfl) (by decide) (by decide) ?_
    refine em_ic_ne (q_cod qk25 rfl) (by decide) hf (fun c1 hf => ?_) (fun c1 hf => ?_)
    · exact ev_weak (q_pk [] rfl) (f25_11_ok hf hK)
    · refine ev_ic (v := 0) (q_cod qk25 rfl) (by decide) (by decide) ?_
      exact ev_weak (q_pk [] rfl) (f25_16_ok hf hK)
theorem f25_cl {l0 : Int32} {h : q_H} {x : Int32 × q_H} (hf : f25 l0 h = some x) : q_Cl 25 [.int l0] h (.inl (some (.int x.1))) x.2 := q_Cl.of rfl (q_LvS rfl rfl) (f25_ok hf ⟨rfl, rfl⟩)
/-! SmithyBench$Checker.joined(LSmithyBench$Program;II)I -/
theorem qk26 : q_cs.getD 26 [] = qc_26 := rfl
def f26_26 (s0 : Int32) : m_M Int32 :=
  m_R s0
theorem f26_26_ok {s0 : Int32} {h : q_H} {o : q_O} {hz : q_H} {x : Int32 × q_H} (hf : f26_26 s0 h = some x) (hK : (q_KI o hz) x) : q_Ev none 26 26 [] [.int s0] h o hz := by
  unfold f26_26 at hf
  obtain rfl := m_R_inv hf
  obtain ⟨rfl, rfl⟩ := (show q_KI o hz (s0, _) from hK)
  exact ev_ret (q_cod qk26 rfl) rfl
def f26 (l0 : Nat) (l1 : Int32) (l2 : Int32) : m_M Int32 :=
  m_B (m_aK l0 7) (fun _ => m_B (f84 l0 l2 l1) (fun v2 => if v2 = 0 then (m_B (m_aK l0 7) (fun _ => m_B (f84 l0 l1 l2) (fun v4 => if v4 = 0 then (f26_26 (-3)) else (f26_26 l2)))) else (m_R l1)))
theorem f26_ok {l0 : Nat} {l1 : Int32} {l2 : Int32} {h : q_H} {o : q_O} {hz : q_H} {x : Int32 × q_H} (hf : f26 l0 l1 l2 h = some x) (hK : (q_KI o hz) x) : q_Ev none 26 0 [(0, .ref l0), (1, .int l1), (2, .int l2)] [] h o hz := by
  unfold f26 at hf
  refine ev_aload_n (q_cod qk26 rfl) (by decide) rfl ?_
  refine ev_iload_n (q_cod qk26 rfl) (by decide) rfl ?_
  refine ev_iload_n (q_cod qk26 rfl) (by decide) rfl ?_
  obtain ⟨g1, hf⟩ := m_aK_some hf
  refine em_call (v := (fun u => some (.int u))) (q_cod qk26 rfl) rfl rfl (q_cokV rfl rfl (Or.inr g1)) rfl (fun x e => f84_cl e) hf (fun v2 h hf => ?_)
  refine em_if_eq (q_cod qk26 rfl) (by decide) hf (fun c6 hf => ?_) (fun c6 hf => ?_)
  · refine ev_aload_n (q_cod qk26 rfl) (by decide) rfl ?_
    refine ev_iload_n (q_cod qk26 rfl) (by decide) rfl ?_
    refine ev_iload_n (q_cod qk26 rfl) (by decide) rfl ?_
    obtain ⟨g3, hf⟩ := m_aK_some hf
    refine em_call (v := (fun u => some (.int u))) (q_cod qk26 rfl) rfl rfl (q_cokV rfl rfl (Or.inr g3)) rfl (fun x e => f84_cl e) hf (fun v4 h hf => ?_)
    refine em_if_eq (q_cod qk26 rfl) (by decide) hf (fun c5 hf => ?_) (fun c5 hf => ?_)
    · refine ev_bi (v := (-3)) (q_cod qk26 rfl) (by decide) (by decide) ?_
      exact ev_weak (q_pk [] rfl) (f26_26_ok hf hK)
    · refine ev_iload_n (q_cod qk26 rfl) (by decide) rfl ?_
      refine ev_goto (q_cod qk26 rfl) (by decide) ?_
      exact ev_weak (q_pk [] rfl) (f26_26_ok hf hK)
  · refine ev_iload_n (q_cod qk26 rfl) (by decide) rfl ?_
    obtain rfl := m_R_inv hf
    obtain ⟨rfl, rfl⟩ := (show q_KI o hz (l1, _) from hK)
    exact ev_ret (q_cod qk26 rfl) rfl
theorem f26_cl {l0 : Nat} {l1 : Int32} {l2 : Int32} {h : q_H} {x : Int32 × q_H} (hf : f26 l0 l1 l2 h = some x) : q_Cl 26 [.ref l0, .int l1, .int l2] h (.inl (some (.int x.1))) x.2 := q_Cl.of rfl (q_LvS rfl rfl) (f26_ok hf ⟨rfl, rfl⟩)
/-! SmithyBench$Checker.typeAt(LSmithyBench$Program;ILSmithyBench$Body;I)I -/
theorem qk24 : q_cs.getD 24 [] = qc_24 := rfl
def f24_175 (s0 : Int32) : m_M Int32 :=
  m_R s0
theorem f24_175_ok {s0 : Int32} {h : q_H} {o : q_O} {hz : q_H} {x : Int32 × q_H} (hf : f24_175 s0 h = some x) (hK : (q_KI o hz) x) : q_Ev none 24 175 [] [.int s0] h o hz := by
  unfold f24_175 at hf
  obtain rfl := m_R_inv hf
  obtain ⟨rfl, rfl⟩ := (show q_KI o hz (s0, _) from hK)
  exact ev_ret (q_cod qk24 rfl) rfl
def f24_198 (s0 : Int32) : m_M Int32 :=
  m_R s0
theorem f24_198_ok {s0 : Int32} {h : q_H} {o : q_O} {hz : q_H} {x : Int32 × q_H} (hf : f24_198 s0 h = some x) (hK : (q_KI o hz) x) : q_Ev none 24 198 [] [.int s0] h o hz := by
  unfold f24_198 at hf
  obtain rfl := m_R_inv hf
  obtain ⟨rfl, rfl⟩ := (show q_KI o hz (s0, _) from hK)
  exact ev_ret (q_cod qk24 rfl) rfl
def f24_196  : m_M Int32 :=
  f24_198 (-3)
theorem f24_196_ok  {h : q_H} {o : q_O} {hz : q_H} {x : Int32 × q_H} (hf : f24_196 h = some x) (hK : (q_KI o hz) x) : q_Ev none 24 196 [] [] h o hz := by
  unfold f24_196 at hf
  refine ev_bi (v := (-3)) (q_cod qk24 rfl) (by decide) (by decide) ?_
  exact (f24_198_ok hf hK)
def f24_214 (s0 : Int32) : m_M Int32 :=
  m_R s0
theorem f24_214_ok {s0 : Int32} {h : q_H} {o : q_O} {hz : q_H} {x : Int32 × q_H} (hf : f24_214 s0 h = some x) (hK : (q_KI o hz) x) : q_Ev none 24 214 [] [.int s0] h o hz := by
  unfold f24_214 at hf
  obtain rfl := m_R_inv hf
  obtain ⟨rfl, rfl⟩ := (show q_KI o hz (s0, _) from hK)
  exact ev_ret (q_cod qk24 rfl) rfl
def f24 (l0 : Nat) (l1 : Int32) (l2 : Nat) (l3 : Int32) : m_M Int32 :=
  m_B (m_gR 0 l2 4) (fun r1 => m_B (m_aK l2 0) (fun _ => m_B (f9 l2 l3 0) (fun v3 => m_B (m_lI r1 v3) (fun v4 => m_B (m_gR 0 l2 4) (fun r5 => m_B (m_aK l2 0) (fun _ => m_B (f9 l2 l3 1) (fun v7 => m_B (m_lI r5 v7) (fun v8 => m_B (m_gR 0 l2 0) (fun r9 => m_B (m_lI r9 l3) (fun v10 => if (v10).toInt = 0 then (m_R (-1)) else (if (v10).toInt = 1 then (m_B (f27 l0 l1 l2 l3) (fun v13 => m_R v13)) else (if (v10).toInt = 2 then (m_B (m_gR 7 l0 3) (fun r15 => m_B (m_lI r15 l1) (fun v16 => m_R v16))) else (if (v10).toInt = 3 then (m_B (f28 l0 l2 l3) (fun v18 => m_R v18)) else (if (v10).toInt = 4 then (m_B (f28 l0 l2 l3) (fun v20 => m_R v20)) else (if (v10).toInt = 5 then (m_R v8) else (if (v10).toInt = 6 then (m_B (f27 l0 l1 l2 l3) (fun v23 => m_R v23)) else (if (v10).toInt = 7 then (m_B (f29 l0 l2 l3) (fun v25 => m_R v25)) else (if (v10).toInt = 8 then (m_B (m_gR 0 l2 1) (fun r27 => m_B (m_lI r27 l3) (fun v28 => m_R v28))) else (if (v10).toInt = 9 then (m_R v8) else (if (v10).toInt = 10 then (m_B (f25 v4) (fun v31 => if v31 = 0 then (f24_175 (-3)) else (m_B (m_gR 0 l2 4) (fun r32 => m_B (m_aK l2 0) (fun _ => m_B (f9 l2 l3 2) (fun v34 => m_B (m_lI r32 v34) (fun v35 => m_B (f26 l0 v8 v35) (fun v36 => f24_175 v36)))))))) else (if (v10).toInt = 11 then (m_B (f25 v4) (fun v39 => if v39 = 0 then (f24_196) else (m_B (f25 v8) (fun v40 => if v40 = 0 then (f24_196) else (f24_198 (-1)))))) else (if (v10).toInt = 12 then (m_B (f25 v4) (fun v44 => if v44 = 0 then (f24_214 (-3)) else (f24_214 (-2)))) else (if (v10).toInt = 13 then (m_B (f26 l0 v4 v8) (fun v47 => m_R v47)) else (m_R (-3)))))))))))))))))))))))))
theorem f24_ok {l0 : Nat} {l1 : Int32} {l2 : Nat} {l3 : Int32} {h : q_H} {o : q_O} {hz : q_H} {x : Int32 × q_H} (hf : f24 l0 l1 l2 l3 h = some x) (hK : (q_KI o hz) x) : q_Ev none 24 0 [(0, .ref l0), (1, .int l1), (2, .ref l2), (3, .int l3)] [] h o hz := by
  unfold f24 at hf
  refine ev_aload_n (q_cod qk24 rfl) (by decide) rfl ?_
  refine em_gR (q_cod qk24 rfl) (by decide) (by decide) hf (fun r1 hf => ?_)
  refine ev_aload_n (q_cod qk24 rfl) (by decide) rfl ?_
  refine ev_iload_n (q_cod qk24 rfl) (by decide) rfl ?_
  refine ev_ic (v := 0) (q_cod qk24 rfl) (by decide) (by decide) ?_
  obtain ⟨g2, hf⟩ := m_aK_some hf
  refine em_call (v := (fun u => some (.int u))) (q_cod qk24 rfl) rfl rfl (q_cokV rfl rfl (Or.inr g2)) rfl (fun x e => f9_cl e) hf (fun v3 h hf => ?_)
  refine em_lI (q_cod qk24 rfl) (by decide) hf (fun v4 hf => ?_)
  refine ev_is2 (L' := [(0, .ref l0), (1, .int l1), (2, .ref l2), (3, .int l3), (4, .int v4)]) (q_cod qk24 rfl) (by decide) rfl ?_
  refine ev_aload_n (q_cod qk24 rfl) (by decide) rfl ?_
  refine em_gR (q_cod qk24 rfl) (by decide) (by decide) hf (fun r5 hf => ?_)
  refine ev_aload_n (q_cod qk24 rfl) (by decide) rfl ?_
  refine ev_iload_n (q_cod qk24 rfl) (by decide) rfl ?_
  refine ev_ic (v := 1) (q_cod qk24 rfl) (by decide) (by decide) ?_
  obtain ⟨g6, hf⟩ := m_aK_some hf
  refine em_call (v := (fun u => some (.int u))) (q_cod qk24 rfl) rfl rfl (q_cokV rfl rfl (Or.inr g6)) rfl (fun x e => f9_cl e) hf (fun v7 h hf => ?_)
  refine em_lI (q_cod qk24 rfl) (by decide) hf (fun v8 hf => ?_)
  refine ev_is2 (L' := [(0, .ref l0), (1, .int l1), (2, .ref l2), (3, .int l3), (4, .int v4), (5, .int v8)]) (q_cod qk24 rfl) (by decide) rfl ?_
  refine ev_aload_n (q_cod qk24 rfl) (by decide) rfl ?_
  refine em_gR (q_cod qk24 rfl) (by decide) (by decide) hf (fun r9 hf => ?_)
  refine ev_iload_n (q_cod qk24 rfl) (by decide) rfl ?_
  refine em_lI (q_cod qk24 rfl) (by decide) hf (fun v10 hf => ?_)
  rcases m_iteM hf with ⟨c11, hf⟩ | ⟨c11, hf⟩
  · refine ev_tsw (q_cod qk24 rfl) (by decide) (t := 104) (by rw [c11]; rfl) ?_
    refine ev_ic (v := (-1)) (q_cod qk24 rfl) (by decide) (by decide) ?_
    obtain rfl := m_R_inv hf
    obtain ⟨rfl, rfl⟩ := (show q_KI o hz ((-1), _) from hK)
    exact ev_ret (q_cod qk24 rfl) rfl
  rcases m_iteM hf with ⟨c12, hf⟩ | ⟨c12, hf⟩
  · refine ev_tsw (q_cod qk24 rfl) (by decide) (t := 106) (by rw [c12]; rfl) ?_
    refine ev_aload_n (q_cod qk24 rfl) (by decide) rfl ?_
    refine ev_iload_n (q_cod qk24 rfl) (by decide) rfl ?_
    refine ev_aload_n (q_cod qk24 rfl) (by decide) rfl ?_
    refine ev_iload_n (q_cod qk24 rfl) (by decide) rfl ?_
    refine em_call (v := (fun u => some (.int u))) (q_cod qk24 rfl) rfl rfl (q_cokS rfl rfl) rfl (fun x e => f27_cl e) hf (fun v13 h hf => ?_)
    obtain rfl := m_R_inv hf
    obtain ⟨rfl, rfl⟩ := (show q_KI o hz (v13, _) from hK)
    exact ev_ret (q_cod qk24 rfl) rfl
  rcases m_iteM hf with ⟨c14, hf⟩ | ⟨c14, hf⟩
  · refine ev_tsw (q_cod qk24 rfl) (by decide) (t := 114) (by rw [c14]; rfl) ?_
    refine ev_aload_n (q_cod qk24 rfl) (by decide) rfl ?_
    refine em_gR (q_cod qk24 rfl) (by decide) (by decide) hf (fun r15 hf => ?_)
    refine ev_iload_n (q_cod qk24 rfl) (by decide) rfl ?_
    refine em_lI (q_cod qk24 rfl) (by decide) hf (fun v16 hf => ?_)
    obtain rfl := m_R_inv hf
    obtain ⟨rfl, rfl⟩ := (show q_KI o hz (v16, _) from hK)
    exact ev_ret (q_cod qk24 rfl) rfl
  rcases m_iteM hf with ⟨c17, hf⟩ | ⟨c17, hf⟩
  · refine ev_tsw (q_cod qk24 rfl) (by decide) (t := 121) (by rw [c17]; rfl) ?_
    refine ev_aload_n (q_cod qk24 rfl) (by decide) rfl ?_
    refine ev_aload_n (q_cod qk24 rfl) (by decide) rfl ?_
    refine ev_iload_n (q_cod qk24 rfl) (by decide) rfl ?_
    refine em_call (v := (fun u => some (.int u))) (q_cod qk24 rfl) rfl rfl (q_cokS rfl rfl) rfl (fun x e => f28_cl e) hf (fun v18 h hf => ?_)
    obtain rfl := m_R_inv hf
    obtain ⟨rfl, rfl⟩ := (show q_KI o hz (v18, _) from hK)
    exact ev_ret (q_cod qk24 rfl) rfl
  rcases m_iteM hf with ⟨c19, hf⟩ | ⟨c19, hf⟩
  · refine ev_tsw (q_cod qk24 rfl) (by decide) (t := 121) (by rw [c19]; rfl) ?_
    refine ev_aload_n (q_cod qk24 rfl) (by decide) rfl ?_
    refine ev_aload_n (q_cod qk24 rfl) (by decide) rfl ?_
    refine ev_iload_n (q_cod qk24 rfl) (by decide) rfl ?_
    refine em_call (v := (fun u => some (.int u))) (q_cod qk24 rfl) rfl rfl (q_cokS rfl rfl) rfl (fun x e => f28_cl e) hf (fun v20 h hf => ?_)
    obtain rfl := m_R_inv hf
    obtain ⟨rfl, rfl⟩ := (show q_KI o hz (v20, _) from hK)
    exact ev_ret (q_cod qk24 rfl) rfl
  rcases m_iteM hf with ⟨c21, hf⟩ | ⟨c21, hf⟩
  · refine ev_tsw (q_cod qk24 rfl) (by decide) (t := 128) (by rw [c21]; rfl) ?_
    refine ev_iload (q_cod qk24 rfl) (by decide) rfl ?_
    obtain rfl := m_R_inv hf
    obtain ⟨rfl, rfl⟩ := (show q_KI o hz (v8, _) from hK)
    exact ev_ret (q_cod qk24 rfl) rfl
  rcases m_iteM hf with ⟨c22, hf⟩ | ⟨c22, hf⟩
  · refine ev_tsw (q_cod qk24 rfl) (by decide) (t := 106) (by rw [c22]; rfl) ?_
    refine ev_aload_n (q_cod qk24 rfl) (by decide) rfl ?_
    refine ev_iload_n (q_cod qk24 rfl) (by decide) rfl ?_
    refine ev_aload_n (q_cod qk24 rfl) (by decide) rfl ?_
    refine ev_iload_n (q_cod qk24 rfl) (by decide) rfl ?_
    refine em_call (v := (fun u => some (.int u))) (q_cod qk24 rfl) rfl rfl (q_cokS rfl rfl) rfl (fun x e => f27_cl e) hf (fun v23 h hf => ?_)
    obtain rfl := m_R_inv hf
    obtain ⟨rfl, rfl⟩ := (show q_KI o hz (v23, _) from hK)
    exact ev_ret (q_cod qk24 rfl) rfl
  rcases m_iteM hf with ⟨c24, hf⟩ | ⟨c24, hf⟩
  · refine ev_tsw (q_cod qk24 rfl) (by decide) (t := 131) (by rw [c24]; rfl) ?_
    refine ev_aload_n (q_cod qk24 rfl) (by decide) rfl ?_
    refine ev_aload_n (q_cod qk24 rfl) (by decide) rfl ?_
    refine ev_iload_n (q_cod qk24 rfl) (by decide) rfl ?_
    refine em_call (v := (fun u => some (.int u))) (q_cod qk24 rfl) rfl rfl (q_cokS rfl rfl) rfl (fun x e => f29_cl e) hf (fun v25 h hf => ?_)
    obtain rfl := m_R_inv hf
    obtain ⟨rfl, rfl⟩ := (show q_KI o hz (v25, _) from hK)
    exact ev_ret (q_cod qk24 rfl) rfl
  rcases m_iteM hf with ⟨c26, hf⟩ | ⟨c26, hf⟩
  · refine ev_tsw (q_cod qk24 rfl) (by decide) (t := 138) (by rw [c26]; rfl) ?_
    refine ev_aload_n (q_cod qk24 rfl) (by decide) rfl ?_
    refine em_gR (q_cod qk24 rfl) (by decide) (by decide) hf (fun r27 hf => ?_)
    refine ev_iload_n (q_cod qk24 rfl) (by decide) rfl ?_
    refine em_lI (q_cod qk24 rfl) (by decide) hf (fun v28 hf => ?_)
    obtain rfl := m_R_inv hf
    obtain ⟨rfl, rfl⟩ := (show q_KI o hz (v28, _) from hK)
    exact ev_ret (q_cod qk24 rfl) rfl
  rcases m_iteM hf with ⟨c29, hf⟩ | ⟨c29, hf⟩
  · refine ev_tsw (q_cod qk24 rfl) (by decide) (t := 128) (by rw [c29]; rfl) ?_
    refine ev_iload (q_cod qk24 rfl) (by decide) rfl ?_
    obtain rfl := m_R_inv hf
    obtain ⟨rfl, rfl⟩ := (show q_KI o hz (v8, _) from hK)
    exact ev_ret (q_cod qk24 rfl) rfl
  rcases m_iteM hf with ⟨c30, hf⟩ | ⟨c30, hf⟩
  · refine ev_tsw (q_cod qk24 rfl) (by decide) (t := 145) (by rw [c30]; rfl) ?_
    refine ev_iload (q_cod qk24 rfl) (by decide) rfl ?_
    refine em_call (v := (fun u => some (.int u))) (q_cod qk24 rfl) rfl rfl (q_cokS rfl rfl) rfl (fun x e => f25_cl e) hf (fun v31 h hf => ?_)
    refine em_if_eq (q_cod qk24 rfl) (by decide) hf (fun c37 hf => ?_) (fun c37 hf => ?_)
    · refine ev_bi (v := (-3)) (q_cod qk24 rfl) (by decide) (by decide) ?_
      exact ev_weak (q_pk [] rfl) (f24_175_ok hf hK)
    · refine ev_aload_n (q_cod qk24 rfl) (by decide) rfl ?_
      refine ev_iload (q_cod qk24 rfl) (by decide) rfl ?_
      refine ev_aload_n (q_cod qk24 rfl) (by decide) rfl ?_
      refine em_gR (q_cod qk24 rfl) (by decide) (by decide) hf (fun r32 hf => ?_)
      refine ev_aload_n (q_cod qk24 rfl) (by decide) rfl ?_
      refine ev_iload_n (q_cod qk24 rfl) (by decide) rfl ?_
      refine ev_ic (v := 2) (q_cod qk24 rfl) (by decide) (by decide) ?_
      obtain ⟨g33, hf⟩ := m_aK_some hf
      refine em_call (v := (fun u => some (.int u))) (q_cod qk24 rfl) rfl rfl (q_cokV rfl rfl (Or.inr g33)) rfl (fun x e => f9_cl e) hf (fun v34 h hf => ?_)
      refine em_lI (q_cod qk24 rfl) (by decide) hf (fun v35 hf => ?_)
      refine em_call (v := (fun u => some (.int u))) (q_cod qk24 rfl) rfl rfl (q_cokS rfl rfl) rfl (fun x e => f26_cl e) hf (fun v36 h hf => ?_)
      refine ev_goto (q_cod qk24 rfl) (by decide) ?_
      exact ev_weak (q_pk [] rfl) (f24_175_ok hf hK)
  rcases m_iteM hf with ⟨c38, hf⟩ | ⟨c38, hf⟩
  · refine ev_tsw (q_cod qk24 rfl) (by decide) (t := 176) (by rw [c38]; rfl) ?_
    refine ev_iload (q_cod qk24 rfl) (by decide) rfl ?_
    refine em_call (v := (fun u => some (.int u))) (q_cod qk24 rfl) rfl rfl (q_cokS rfl rfl) rfl (fun x e => f25_cl e) hf (fun v39 h hf => ?_)
    refine em_if_eq (q_cod qk24 rfl) (by decide) hf (fun c42 hf => ?_) (fun c42 hf => ?_)
    · exact ev_weak (q_pk [] rfl) (f24_196_ok hf hK)
    · refine ev_iload (q_cod qk24 rfl) (by decide) rfl ?_
      refine em_call (v := (fun u => some (.int u))) (q_cod qk24 rfl) rfl rfl (q_cokS rfl rfl) rfl (fun x e => f25_cl e) hf (fun v40 h hf => ?_)
      refine em_if_eq (q_cod qk24 rfl) (by decide) hf (fun c41 hf => ?_) (fun c41 hf => ?_)
      · exact ev_weak (q_pk [] rfl) (f24_196_ok hf hK)
      · refine ev_ic (v := (-1)) (q_cod qk24 rfl) (by decide) (by decide) ?_
        refine ev_goto (q_cod qk24 rfl) (by decide) ?_
        exact ev_weak (q_pk [] rfl) (f24_198_ok hf hK)
  rcases m_iteM hf with ⟨c43, hf⟩ | ⟨c43, hf⟩
  · refine ev_tsw (q_cod qk24 rfl) (by decide) (t := 199) (by rw [c43]; rfl) ?_
    refine ev_iload (q_cod qk24 rfl) (by decide) rfl ?_
    refine em_call (v := (fun u => some (.int u))) (q_cod qk24 rfl) rfl rfl (q_cokS rfl rfl) rfl (fun x e => f25_cl e) hf (fun v44 h hf => ?_)
    refine em_if_eq (q_cod qk24 rfl) (by decide) hf (fun c45 hf => ?_) (fun c45 hf => ?_)
    · refine ev_bi (v := (-3)) (q_cod qk24 rfl) (by decide) (by decide) ?_
      exact ev_weak (q_pk [] rfl) (f24_214_ok hf hK)
    · refine ev_bi (v := (-2)) (q_cod qk24 rfl) (by decide) (by decide) ?_
      refine ev_goto (q_cod qk24 rfl) (by decide) ?_
      exact ev_weak (q_pk [] rfl) (f24_214_ok hf hK)
  rcases m_iteM hf with ⟨c46, hf⟩ | ⟨c46, hf⟩
  · refine ev_tsw (q_cod qk24 rfl) (by decide) (t := 215) (by rw [c46]; rfl) ?_
    refine ev_aload_n (q_cod qk24 rfl) (by decide) rfl ?_
    refine ev_iload (q_cod qk24 rfl) (by decide) rfl ?_
    refine ev_iload (q_cod qk24 rfl) (by decide) rfl ?_
    refine em_call (v := (fun u => some (.int u))) (q_cod qk24 rfl) rfl rfl (q_cokS rfl rfl) rfl (fun x e => f26_cl e) hf (fun v47 h hf => ?_)
    obtain rfl := m_R_inv hf
    obtain ⟨rfl, rfl⟩ := (show q_KI o hz (v47, _) from hK)
    exact ev_ret (q_cod qk24 rfl) rfl
  refine ev_tsw (q_cod qk24 rfl) (by decide) (t := 224) (by rw [if_pos (by omega)]; rfl) ?_
  refine ev_bi (v := (-3)) (q_cod qk24 rfl) (by decide) (by decide) ?_
  obtain rfl := m_R_inv hf
  obtain ⟨rfl, rfl⟩ := (show q_KI o hz ((-3), _) from hK)
  exact ev_ret (q_cod qk24 rfl) rfl
theorem f24_cl {l0 : Nat} {l1 : Int32} {l2 : Nat} {l3 : Int32} {h : q_H} {x : Int32 × q_H} (hf : f24 l0 l1 l2 l3 h = some x) : q_Cl 24 [.ref l0, .int l1, .ref l2, .int l3] h (.inl (some (.int x.1))) x.2 := q_Cl.of rfl (q_LvS rfl rfl) (f24_ok hf ⟨rfl, rfl⟩)
/-! SmithyBench$Checker.isRightBody(LSmithyBench$Program;ILSmithyBench$Body;)Z -/
theorem qk23 : q_cs.getD 23 [] = qc_23 := rfl
def f23_103  : m_M Int32 :=
  m_R 0
theorem f23_103_ok  {h : q_H} {o : q_O} {hz : q_H} {x : Int32 × q_H} (hf : f23_103 h = some x) (hK : (q_KI o hz) x) : q_Ev none 23 103 [] [] h o hz := by
  unfold f23_103 at hf
  refine ev_ic (v := 0) (q_cod qk23 rfl) (by decide) (by decide) ?_
  obtain rfl := m_R_inv hf
  obtain ⟨rfl, rfl⟩ := (show q_KI o hz (0, _) from hK)
  exact ev_ret (q_cod qk23 rfl) rfl
def f23_111 (l0 : Nat) (l1 : Nat) (l2 : Int32) (l3 : Nat) (l4 : Int32) (l5 : Int32) : m_M ((Nat × Nat × Int32 × Nat × Int32 × Int32) ⊕ Int32) :=
  m_R (.inl (l0, l1, l2, l3, l4, (l5 + 1)))
theorem f23_111_ok {l0 : Nat} {l1 : Nat} {l2 : Int32} {l3 : Nat} {l4 : Int32} {l5 : Int32} {h : q_H} {o : q_O} {hz : q_H} {x : ((Nat × Nat × Int32 × Nat × Int32 × Int32) ⊕ Int32) × q_H} (hf : f23_111 l0 l1 l2 l3 l4 l5 h = some x) (hK : (m_yK (fun (s : Nat × Nat × Int32 × Nat × Int32 × Int32) (h : q_H) => q_Ev none 23 10 [(0, .ref (s.1)), (1, .ref (s.2.1)), (2, .int (s.2.2.1)), (3, .ref (s.2.2.2.1)), (4, .int (s.2.2.2.2.1)), (5, .int (s.2.2.2.2.2))] [] h o hz) (q_KI o hz)) x) : q_Ev none 23 111 [(0, .ref l0), (1, .ref l1), (2, .int l2), (3, .ref l3), (4, .int l4), (5, .int l5)] [] h o hz := by
  unfold f23_111 at hf
  refine ev_inc (v := l5 + 1) (L' := [(0, .ref l0), (1, .ref l1), (2, .int l2), (3, .ref l3), (4, .int l4), (5, .int (l5 + 1))]) (q_cod qk23 rfl) (by decide) rfl rfl rfl ?_
  refine ev_goto (q_cod qk23 rfl) (by decide) ?_
  obtain rfl := m_R_inv hf
  exact (show q_Ev none 23 10 [(0, .ref l0), (1, .ref l1), (2, .int l2), (3, .ref l3), (4, .int l4), (5, .int (l5 + 1))] [] _ o hz from hK)
def f23_31b (l0 : Nat) (l1 : Nat) (l2 : Int32) (l3 : Nat) (l4 : Int32) (l5 : Int32) : m_M ((Nat × Nat × Int32 × Nat × Int32 × Int32) ⊕ ((Nat × Nat × Int32 × Nat × Int32 × Int32) ⊕ Int32)) :=
  if 0 < l4 then (m_B (m_gR 0 l3 3) (fun r1 => m_B (m_gR 1 l0 0) (fun r2 => m_B (m_lI r2 (l4 - 1)) (fun v3 => m_B (m_lI r1 v3) (fun v4 => if v4 = (l5 + 1) then (m_B (m_gR 1 l0 0) (fun r5 => m_B (m_lI r5 (l4 - 1)) (fun v6 => m_B (m_gR 0 l3 5) (fun r7 => m_B (m_wI r7 v6 0) (fun _ => m_B (m_gR 0 l3 4) (fun r8 => m_B (f24 l1 l2 l3 v6) (fun v9 => m_B (m_wI r8 v6 v9) (fun _ => m_B (m_gR 0 l3 4) (fun r10 => m_B (m_lI r10 v6) (fun v11 => if v11 = (-3) then (m_B (m_B (f23_103) (fun r => m_R (.inr r))) (fun r => m_R (.inr r))) else (m_R (.inl (l0, l1, l2, l3, (l4 + (-1)), l5))))))))))))) else (m_B (f23_111 l0 l1 l2 l3 l4 l5) (fun r => m_R (.inr r)))))))) else (m_B (f23_111 l0 l1 l2 l3 l4 l5) (fun r => m_R (.inr r)))
theorem f23_31b_ok {l0 : Nat} {l1 : Nat} {l2 : Int32} {l3 : Nat} {l4 : Int32} {l5 : Int32} {h : q_H} {o : q_O} {hz : q_H} {x : ((Nat × Nat × Int32 × Nat × Int32 × Int32) ⊕ ((Nat × Nat × Int32 × Nat × Int32 × Int32) ⊕ Int32)) × q_H} (hf : f23_31b l0 l1 l2 l3 l4 l5 h = some x) (hK : (m_yK (fun (s : Nat × Nat × Int32 × Nat × Int32 × Int32) (h : q_H) => q_Ev none 23 31 [(0, .ref (s.1)), (1, .ref (s.2.1)), (2, .int (s.2.2.1)), (3, .ref (s.2.2.2.1)), (4, .int (s.2.2.2.2.1)), (5, .int (s.2.2.2.2.2))] [] h o hz) (m_yK (fun (s : Nat × Nat × Int32 × Nat × Int32 × Int32) (h : q_H) => q_Ev none 23 10 [(0, .ref (s.1)), (1, .ref (s.2.1)), (2, .int (s.2.2.1)), (3, .ref (s.2.2.2.1)), (4, .int (s.2.2.2.2.1)), (5, .int (s.2.2.2.2.2))] [] h o hz) (q_KI o hz))) x) : q_Ev none 23 31 [(0, .ref l0), (1, .ref l1), (2, .int l2), (3, .ref l3), (4, .int l4), (5, .int l5)] [] h o hz := by
  unfold f23_31b at hf
  refine ev_iload (q_cod qk23 rfl) (by decide) rfl ?_
  refine em_if_le (q_cod qk23 rfl) (by decide) hf (fun c14 hf => ?_) (fun c14 hf => ?_)
  · refine ev_aload_n (q_cod qk23 rfl) (by decide) rfl ?_
    refine em_gR (q_cod qk23 rfl) (by decide) (by decide) hf (fun r1 hf => ?_)
    refine ev_aload_n (q_cod qk23 rfl) (by decide) rfl ?_
    refine em_gR (q_cod qk23 rfl) (by decide) (by decide) hf (fun r2 hf => ?_)
    refine ev_iload (q_cod qk23 rfl) (by decide) rfl ?_
    refine ev_ic (v := 1) (q_cod qk23 rfl) (by decide) (by decide) ?_
    refine ev_isub (q_cod qk23 rfl) (by decide) ?_
    refine em_lI (q_cod qk23 rfl) (by decide) hf (fun v3 hf => ?_)
    refine em_lI (q_cod qk23 rfl) (by decide) hf (fun v4 hf => ?_)
    refine ev_iload (q_cod qk23 rfl) (by decide) rfl ?_
    refine ev_ic (v := 1) (q_cod qk23 rfl) (by decide) (by decide) ?_
    refine ev_iadd (q_cod qk23 rfl) (by decide) ?_
    refine em_ic_ne (q_cod qk23 rfl) (by decide) hf (fun c13 hf => ?_) (fun c13 hf => ?_)
    · refine ev_aload_n (q_cod qk23 rfl) (by decide) rfl ?_
      refine em_gR (q_cod qk23 rfl) (by decide) (by decide) hf (fun r5 hf => ?_)
      refine ev_iload (q_cod qk23 rfl) (by decide) rfl ?_
      refine ev_ic (v := 1) (q_cod qk23 rfl) (by decide) (by decide) ?_
      refine ev_isub (q_cod qk23 rfl) (by decide) ?_
      refine em_lI (q_cod qk23 rfl) (by decide) hf (fun v6 hf => ?_)
      refine ev_is2 (L' := [(0, .ref l0), (1, .ref l1), (2, .int l2), (3, .ref l3), (4, .int l4), (5, .int l5), (6, .int v6)]) (q_cod qk23 rfl) (by decide) rfl ?_
      refine ev_aload_n (q_cod qk23 rfl) (by decide) rfl ?_
      refine em_gR (q_cod qk23 rfl) (by decide) (by decide) hf (fun r7 hf => ?_)
      refine ev_iload (q_cod qk23 rfl) (by decide) rfl ?_
      refine ev_ic (v := 0) (q_cod qk23 rfl) (by decide) (by decide) ?_
      refine em_wI (q_cod qk23 rfl) (by decide) hf (fun hf => ?_)
      refine ev_aload_n (q_cod qk23 rfl) (by decide) rfl ?_
      refine em_gR (q_cod qk23 rfl) (by decide) (by decide) hf (fun r8 hf => ?_)
      refine ev_iload (q_cod qk23 rfl) (by decide) rfl ?_
      refine ev_aload_n (q_cod qk23 rfl) (by decide) rfl ?_
      refine ev_iload_n (q_cod qk23 rfl) (by decide) rfl ?_
      refine ev_aload_n (q_cod qk23 rfl) (by decide) rfl ?_
      refine ev_iload (q_cod qk23 rfl) (by decide) rfl ?_
      refine em_call (v := (fun u => some (.int u))) (q_cod qk23 rfl) rfl rfl (q_cokS rfl rfl) rfl (fun x e => f24_cl e) hf (fun v9 h hf => ?_)
      refine em_wI (q_cod qk23 rfl) (by decide) hf (fun hf => ?_)
      refine ev_aload_n (q_cod qk23 rfl) (by decide) rfl ?_
      refine em_gR (q_cod qk23 rfl) (by decide) (by decide) hf (fun r10 hf => ?_)
      refine ev_iload (q_cod qk23 rfl) (by decide) rfl ?_
      refine em_lI (q_cod qk23 rfl) (by decide) hf (fun v11 hf => ?_)
      refine ev_bi (v := (-3)) (q_cod qk23 rfl) (by decide) (by decide) ?_
      refine em_ic_ne (q_cod qk23 rfl) (by decide) hf (fun c12 hf => ?_) (fun c12 hf => ?_)
      · obtain ⟨y0, hf0, hx⟩ := m_inr_some hf
        subst hx
        obtain ⟨y1, hf1, hx⟩ := m_inr_some hf0
        subst hx
        exact ev_weak (q_pk [] rfl) (f23_103_ok hf1 hK)
      · refine ev_inc (v := l4 + (-1)) (L' := [(0, .ref l0), (1, .ref l1), (2, .int l2), (3, .ref l3), (4, .int (l4 + (-1))), (5, .int l5), (6, .int v6)]) (q_cod qk23 rfl) (by decide) rfl rfl rfl ?_
        refine ev_goto (q_cod qk23 rfl) (by decide) ?_
        obtain rfl := m_R_inv hf
        exact ev_weak (q_pk [0, 1, 2, 3, 4, 5] rfl) (show q_Ev none 23 31 [(0, .ref l0), (1, .ref l1), (2, .int l2), (3, .ref l3), (4, .int (l4 + (-1))), (5, .int l5)] [] _ o hz from hK)
    · obtain ⟨y0, hf0, hx⟩ := m_inr_some hf
      subst hx
      exact (f23_111_ok hf0 hK)
  · obtain ⟨y0, hf0, hx⟩ := m_inr_some hf
    subst hx
    exact (f23_111_ok hf0 hK)
def f23_31 (l0 : Nat) (l1 : Nat) (l2 : Int32) (l3 : Nat) (l4 : Int32) (l5 : Int32) : m_M ((Nat × Nat × Int32 × Nat × Int32 × Int32) ⊕ Int32) := m_W (fun s => f23_31b (s.1) (s.2.1) (s.2.2.1) (s.2.2.2.1) (s.2.2.2.2.1) (s.2.2.2.2.2)) 1000000 (l0, l1, l2, l3, l4, l5)
theorem f23_31_ok {l0 : Nat} {l1 : Nat} {l2 : Int32} {l3 : Nat} {l4 : Int32} {l5 : Int32} {h : q_H} {o : q_O} {hz : q_H} {x : ((Nat × Nat × Int32 × Nat × Int32 × Int32) ⊕ Int32) × q_H} (hf : f23_31 l0 l1 l2 l3 l4 l5 h = some x) (hK : (m_yK (fun (s : Nat × Nat × Int32 × Nat × Int32 × Int32) (h : q_H) => q_Ev none 23 10 [(0, .ref (s.1)), (1, .ref (s.2.1)), (2, .int (s.2.2.1)), (3, .ref (s.2.2.2.1)), (4, .int (s.2.2.2.2.1)), (5, .int (s.2.2.2.2.2))] [] h o hz) (q_KI o hz)) x) : q_Ev none 23 31 [(0, .ref l0), (1, .ref l1), (2, .int l2), (3, .ref l3), (4, .int l4), (5, .int l5)] [] h o hz :=
  m_W_ok (P := (fun (s : Nat × Nat × Int32 × Nat × Int32 × Int32) (h : q_H) => q_Ev none 23 31 [(0, .ref (s.1)), (1, .ref (s.2.1)), (2, .int (s.2.2.1)), (3, .ref (s.2.2.2.1)), (4, .int (s.2.2.2.2.1)), (5, .int (s.2.2.2.2.2))] [] h o hz)) (K := (m_yK (fun (s : Nat × Nat × Int32 × Nat × Int32 × Int32) (h : q_H) => q_Ev none 23 10 [(0, .ref (s.1)), (1, .ref (s.2.1)), (2, .int (s.2.2.1)), (3, .ref (s.2.2.2.1)), (4, .int (s.2.2.2.2.1)), (5, .int (s.2.2.2.2.2))] [] h o hz) (q_KI o hz))) (fun s h x h1 h2 => f23_31b_ok h1 h2) _ (l0, l1, l2, l3, l4, l5) _ _ hf hK
def f23_117 (l1 : Nat) (l2 : Int32) (l3 : Nat) : m_M Int32 :=
  m_B (m_gR 0 l3 4) (fun r1 => m_B (m_lI r1 0) (fun v2 => m_B (m_gR 7 l1 8) (fun r3 => m_B (m_lI r3 l2) (fun v4 => m_B (m_aK l1 7) (fun _ => m_B (f84 l1 v2 v4) (fun v6 => m_B (m_G (v6 = 0 ∨ v6 = 1)) (fun _ => m_R v6)))))))
theorem f23_117_ok {l1 : Nat} {l2 : Int32} {l3 : Nat} {h : q_H} {o : q_O} {hz : q_H} {x : Int32 × q_H} (hf : f23_117 l1 l2 l3 h = some x) (hK : (q_KI o hz) x) : q_Ev none 23 117 [(1, .ref l1), (2, .int l2), (3, .ref l3)] [] h o hz := by
  unfold f23_117 at hf
  refine ev_aload_n (q_cod qk23 rfl) (by decide) rfl ?_
  refine ev_aload_n (q_cod qk23 rfl) (by decide) rfl ?_
  refine em_gR (q_cod qk23 rfl) (by decide) (by decide) hf (fun r1 hf => ?_)
  refine ev_ic (v := 0) (q_cod qk23 rfl) (by decide) (by decide) ?_
  refine em_lI (q_cod qk23 rfl) (by decide) hf (fun v2 hf => ?_)
  refine ev_aload_n (q_cod qk23 rfl) (by decide) rfl ?_
  refine em_gR (q_cod qk23 rfl) (by decide) (by decide) hf (fun r3 hf => ?_)
  refine ev_iload_n (q_cod qk23 rfl) (by decide) rfl ?_
  refine em_lI (q_cod qk23 rfl) (by decide) hf (fun v4 hf => ?_)
  obtain ⟨g5, hf⟩ := m_aK_some hf
  refine em_call (v := (fun u => some (.int u))) (q_cod qk23 rfl) rfl rfl (q_cokV rfl rfl (Or.inr g5)) rfl (fun x e => f84_cl e) hf (fun v6 h hf => ?_)
  obtain ⟨g7, hf⟩ := m_G_some hf
  obtain rfl := m_R_inv hf
  obtain ⟨rfl, rfl⟩ := (show q_KI o hz (v6, _) from hK)
  exact ev_ret (q_cod qk23 rfl) (q_retZ g7)
def f23_10b (l0 : Nat) (l1 : Nat) (l2 : Int32) (l3 : Nat) (l4 : Int32) (l5 : Int32) : m_M ((Nat × Nat × Int32 × Nat × Int32 × Int32) ⊕ Int32) :=
  m_B (m_gI 0 l3 7) (fun v1 => if l5 < v1 then (m_B (m_gR 1 l0 0) (fun r2 => m_B (m_wI r2 l4 l5) (fun _ => f23_31 l0 l1 l2 l3 (l4 + 1) l5))) else (m_B (f23_117 l1 l2 l3) (fun r => m_R (.inr r))))
theorem f23_10b_ok {l0 : Nat} {l1 : Nat} {l2 : Int32} {l3 : Nat} {l4 : Int32} {l5 : Int32} {h : q_H} {o : q_O} {hz : q_H} {x : ((Nat × Nat × Int32 × Nat × Int32 × Int32) ⊕ Int32) × q_H} (hf : f23_10b l0 l1 l2 l3 l4 l5 h = some x) (hK : (m_yK (fun (s : Nat × Nat × Int32 × Nat × Int32 × Int32) (h : q_H) => q_Ev none 23 10 [(0, .ref (s.1)), (1, .ref (s.2.1)), (2, .int (s.2.2.1)), (3, .ref (s.2.2.2.1)), (4, .int (s.2.2.2.2.1)), (5, .int (s.2.2.2.2.2))] [] h o hz) (q_KI o hz)) x) : q_Ev none 23 10 [(0, .ref l0), (1, .ref l1), (2, .int l2), (3, .ref l3), (4, .int l4), (5, .int l5)] [] h o hz := by
  unfold f23_10b at hf
  refine ev_iload (q_cod qk23 rfl) (by decide) rfl ?_
  refine ev_aload_n (q_cod qk23 rfl) (by decide) rfl ?_
  refine em_gI (q_cod qk23 rfl) (by decide) (by decide) hf (fun v1 hf => ?_)
  refine em_ic_ge (q_cod qk23 rfl) (by decide) hf (fun c3 hf => ?_) (fun c3 hf => ?_)
  · refine ev_aload_n (q_cod qk23 rfl) (by decide) rfl ?_
    refine em_gR (q_cod qk23 rfl) (by decide) (by decide) hf (fun r2 hf => ?_)
    refine ev_iload (q_cod qk23 rfl) (by decide) rfl ?_
    refine ev_iload (q_cod qk23 rfl) (by decide) rfl ?_
    refine em_wI (q_cod qk23 rfl) (by decide) hf (fun hf => ?_)
    refine ev_inc (v := l4 + 1) (L' := [(0, .ref l0), (1, .ref l1), (2, .int l2), (3, .ref l3), (4, .int (l4 + 1)), (5, .int l5)]) (q_cod qk23 rfl) (by decide) rfl rfl rfl ?_
    exact (f23_31_ok hf hK)
  · obtain ⟨y0, hf0, hx⟩ := m_inr_some hf
    subst hx
    exact ev_weak (q_pk [1, 2, 3] rfl) (f23_117_ok hf0 hK)
def f23_10 (l0 : Nat) (l1 : Nat) (l2 : Int32) (l3 : Nat) (l4 : Int32) (l5 : Int32) : m_M Int32 := m_W (fun s => f23_10b (s.1) (s.2.1) (s.2.2.1) (s.2.2.2.1) (s.2.2.2.2.1) (s.2.2.2.2.2)) 1000000 (l0, l1, l2, l3, l4, l5)
theorem f23_10_ok {l0 : Nat} {l1 : Nat} {l2 : Int32} {l3 : Nat} {l4 : Int32} {l5 : Int32} {h : q_H} {o : q_O} {hz : q_H} {x : Int32 × q_H} (hf : f23_10 l0 l1 l2 l3 l4 l5 h = some x) (hK : (q_KI o hz) x) : q_Ev none 23 10 [(0, .ref l0), (1, .ref l1), (2, .int l2), (3, .ref l3), (4, .int l4), (5, .int l5)] [] h o hz :=
  m_W_ok (P := (fun (s : Nat × Nat × Int32 × Nat × Int32 × Int32) (h : q_H) => q_Ev none 23 10 [(0, .ref (s.1)), (1, .ref (s.2.1)), (2, .int (s.2.2.1)), (3, .ref (s.2.2.2.1)), (4, .int (s.2.2.2.2.1)), (5, .int (s.2.2.2.2.2))] [] h o hz)) (K := (q_KI o hz)) (fun s h x h1 h2 => f23_10b_ok h1 h2) _ (l0, l1, l2, l3, l4, l5) _ _ hf hK
def f23 (l0 : Nat) (l1 : Nat) (l2 : Int32) (l3 : Nat) : m_M Int32 :=
  m_B (m_aK l3 0) (fun _ => m_B (f8 l3) (fun _ => f23_10 l0 l1 l2 l3 0 0))
theorem f23_ok {l0 : Nat} {l1 : Nat} {l2 : Int32} {l3 : Nat} {h : q_H} {o : q_O} {hz : q_H} {x : Int32 × q_H} (hf : f23 l0 l1 l2 l3 h = some x) (hK : (q_KI o hz) x) : q_Ev none 23 0 [(0, .ref l0), (1, .ref l1), (2, .int l2), (3, .ref l3)] [] h o hz := by
  unfold f23 at hf
  refine ev_aload_n (q_cod qk23 rfl) (by decide) rfl ?_
  obtain ⟨g1, hf⟩ := m_aK_some hf
  refine em_call (v := (fun _ => none)) (q_cod qk23 rfl) rfl rfl (q_cokV rfl rfl (Or.inr g1)) rfl (fun x e => f8_cl e) hf (fun _ h hf => ?_)
  refine ev_ic (v := 0) (q_cod qk23 rfl) (by decide) (by decide) ?_
  refine ev_is2 (L' := [(0, .ref l0), (1, .ref l1), (2, .int l2), (3, .ref l3), (4, .int 0)]) (q_cod qk23 rfl) (by decide) rfl ?_
  refine ev_ic (v := 0) (q_cod qk23 rfl) (by decide) (by decide) ?_
  refine ev_is2 (L' := [(0, .ref l0), (1, .ref l1), (2, .int l2), (3, .ref l3), (4, .int 0), (5, .int 0)]) (q_cod qk23 rfl) (by decide) rfl ?_
  exact (f23_10_ok hf hK)
theorem f23_cl {l0 : Nat} {l1 : Nat} {l2 : Int32} {l3 : Nat} {h : q_H} {x : Int32 × q_H} (hf : f23 l0 l1 l2 l3 h = some x) : q_Cl 23 [.ref l0, .ref l1, .int l2, .ref l3] h (.inl (some (.int x.1))) x.2 := q_Cl.of rfl (q_LvS rfl rfl) (f23_ok hf ⟨rfl, rfl⟩)
/-! SmithyBench$Program.isCalled(III)Z -/
theorem qk88 : q_cs.getD 88 [] = qc_88 := rfl
def f88_37 (s0 : Int32) : m_M Int32 :=
  m_B (m_G (s0 = 0 ∨ s0 = 1)) (fun _ => m_R s0)
theorem f88_37_ok {s0 : Int32} {h : q_H} {o : q_O} {hz : q_H} {x : Int32 × q_H} (hf : f88_37 s0 h = some x) (hK : (q_KI o hz) x) : q_Ev none 88 37 [] [.int s0] h o hz := by
  unfold f88_37 at hf
  obtain ⟨g1, hf⟩ := m_G_some hf
  obtain rfl := m_R_inv hf
  obtain ⟨rfl, rfl⟩ := (show q_KI o hz (s0, _) from hK)
  exact ev_ret (q_cod qk88 rfl) (q_retZ g1)
def f88_36  : m_M Int32 :=
  f88_37 0
theorem f88_36_ok  {h : q_H} {o : q_O} {hz : q_H} {x : Int32 × q_H} (hf : f88_36 h = some x) (hK : (q_KI o hz) x) : q_Ev none 88 36 [] [] h o hz := by
  unfold f88_36 at hf
  refine ev_ic (v := 0) (q_cod qk88 rfl) (by decide) (by decide) ?_
  exact (f88_37_ok hf hK)
def f88 (l0 : Nat) (l1 : Int32) (l2 : Int32) (l3 : Int32) : m_M Int32 :=
  m_B (m_gI 7 l0 12) (fun v1 => if ((q_ush v1 l1) &&& 1) = 1 then (m_B (m_gR 7 l0 4) (fun r2 => m_B (m_lI r2 l1) (fun v3 => if v3 = l2 then (m_B (m_gR 7 l0 5) (fun r4 => m_B (m_lI r4 l1) (fun v5 => if v5 = l3 then (f88_37 1) else (f88_36)))) else (f88_36)))) else (f88_36))
theorem f88_ok {l0 : Nat} {l1 : Int32} {l2 : Int32} {l3 : Int32} {h : q_H} {o : q_O} {hz : q_H} {x : Int32 × q_H} (hf : f88 l0 l1 l2 l3 h = some x) (hK : (q_KI o hz) x) : q_Ev none 88 0 [(0, .ref l0), (1, .int l1), (2, .int l2), (3, .int l3)] [] h o hz := by
  unfold f88 at hf
  refine ev_aload_n (q_cod qk88 rfl) (by decide) rfl ?_
  refine em_gI (q_cod qk88 rfl) (by decide) (by decide) hf (fun v1 hf => ?_)
  refine ev_iload_n (q_cod qk88 rfl) (by decide) rfl ?_
  refine ev_iushr (q_cod qk88 rfl) (by decide) ?_
  refine ev_ic (v := 1) (q_cod qk88 rfl) (by decide) (by decide) ?_
  refine ev_iand (q_cod qk88 rfl) (by decide) ?_
  refine ev_ic (v := 1) (q_cod qk88 rfl) (by decide) (by decide) ?_
  refine em_ic_ne (q_cod qk88 rfl) (by decide) hf (fun c8 hf => ?_) (fun c8 hf => ?_)
  · refine ev_aload_n (q_cod qk88 rfl) (by decide) rfl ?_
    refine em_gR (q_cod qk88 rfl) (by decide) (by decide) hf (fun r2 hf => ?_)
    refine ev_iload_n (q_cod qk88 rfl) (by decide) rfl ?_
    refine em_lI (q_cod qk88 rfl) (by decide) hf (fun v3 hf => ?_)
    refine ev_iload_n (q_cod qk88 rfl) (by decide) rfl ?_
    refine em_ic_ne (q_cod qk88 rfl) (by decide) hf (fun c7 hf => ?_) (fun c7 hf => ?_)
    · refine ev_aload_n (q_cod qk88 rfl) (by decide) rfl ?_
      refine em_gR (q_cod qk88 rfl) (by decide) (by decide) hf (fun r4 hf => ?_)
      refine ev_iload_n (q_cod qk88 rfl) (by decide) rfl ?_
      refine em_lI (q_cod qk88 rfl) (by decide) hf (fun v5 hf => ?_)
      refine ev_iload_n (q_cod qk88 rfl) (by decide) rfl ?_
      refine em_ic_ne (q_cod qk88 rfl) (by decide) hf (fun c6 hf => ?_) (fun c6 hf => ?_)
      · refine ev_ic (v := 1) (q_cod qk88 rfl) (by decide) (by decide) ?_
        refine ev_goto (q_cod qk88 rfl) (by decide) ?_
        exact ev_weak (q_pk [] rfl) (f88_37_ok hf hK)
      · exact ev_weak (q_pk [] rfl) (f88_36_ok hf hK)
    · exact ev_weak (q_pk [] rfl) (f88_36_ok hf hK)
  · exact ev_weak (q_pk [] rfl) (f88_36_ok hf hK)
theorem f88_cl {l0 : Nat} {l1 : Int32} {l2 : Int32} {l3 : Int32} {h : q_H} {x : Int32 × q_H} (hf : f88 l0 l1 l2 l3 h = some x) : q_Cl 88 [.ref l0, .int l1, .int l2, .int l3] h (.inl (some (.int x.1))) x.2 := q_Cl.of rfl (q_LvS rfl rfl) (f88_ok hf ⟨rfl, rfl⟩)
/-! SmithyBench$Program.isAtOrBelow(II)Z -/
theorem qk82 : q_cs.getD 82 [] = qc_82 := rfl
def f82_19 (s0 : Int32) : m_M Int32 :=
  m_B (m_G (s0 = 0 ∨ s0 = 1)) (fun _ => m_R s0)
theorem f82_19_ok {s0 : Int32} {h : q_H} {o : q_O} {hz : q_H} {x : Int32 × q_H} (hf : f82_19 s0 h = some x) (hK : (q_KI o hz) x) : q_Ev none 82 19 [] [.int s0] h o hz := by
  unfold f82_19 at hf
  obtain ⟨g1, hf⟩ := m_G_some hf
  obtain rfl := m_R_inv hf
  obtain ⟨rfl, rfl⟩ := (show q_KI o hz (s0, _) from hK)
  exact ev_ret (q_cod qk82 rfl) (q_retZ g1)
def f82 (l0 : Nat) (l1 : Int32) (l2 : Int32) : m_M Int32 :=
  m_B (m_gR 7 l0 1) (fun r1 => m_B (m_lI r1 l1) (fun v2 => if ((q_ush v2 l2) &&& 1) = 1 then (f82_19 1) else (f82_19 0)))
theorem f82_ok {l0 : Nat} {l1 : Int32} {l2 : Int32} {h : q_H} {o : q_O} {hz : q_H} {x : Int32 × q_H} (hf : f82 l0 l1 l2 h = some x) (hK : (q_KI o hz) x) : q_Ev none 82 0 [(0, .ref l0), (1, .int l1), (2, .int l2)] [] h o hz := by
  unfold f82 at hf
  refine ev_aload_n (q_cod qk82 rfl) (by decide) rfl ?_
  refine em_gR (q_cod qk82 rfl) (by decide) (by decide) hf (fun r1 hf => ?_)
  refine ev_iload_n (q_cod qk82 rfl) (by decide) rfl ?_
  refine em_lI (q_cod qk82 rfl) (by decide) hf (fun v2 hf => ?_)
  refine ev_iload_n (q_cod qk82 rfl) (by decide) rfl ?_
  refine ev_iushr (q_cod qk82 rfl) (by decide) ?_
  refine ev_ic (v := 1) (q_cod qk82 rfl) (by decide) (by decide) ?_
  refine ev_iand (q_cod qk82 rfl) (by decide) ?_
  refine ev_ic (v := 1) (q_cod qk82 rfl) (by decide) (by decide) ?_
  refine em_ic_ne (q_cod qk82 rfl) (by decide) hf (fun c3 hf => ?_) (fun c3 hf => ?_)
  · refine ev_ic (v := 1) (q_cod qk82 rfl) (by decide) (by decide) ?_
    refine ev_goto (q_cod qk82 rfl) (by decide) ?_
    exact ev_weak (q_pk [] rfl) (f82_19_ok hf hK)
  · refine ev_ic (v := 0) (q_cod qk82 rfl) (by decide) (by decide) ?_
    exact ev_weak (q_pk [] rfl) (f82_19_ok hf hK)
theorem f82_cl {l0 : Nat} {l1 : Int32} {l2 : Int32} {h : q_H} {x : Int32 × q_H} (hf : f82 l0 l1 l2 h = some x) : q_Cl 82 [.ref l0, .int l1, .int l2] h (.inl (some (.int x.1))) x.2 := q_Cl.of rfl (q_LvS rfl rfl) (f82_ok hf ⟨rfl, rfl⟩)
/-! SmithyBench$Program.overrides(II)Z -/
theorem qk93 : q_cs.getD 93 [] = qc_93 := rfl
def f93_59 (s0 : Int32) : m_M Int32 :=
  m_B (m_G (s0 = 0 ∨ s0 = 1)) (fun _ => m_R s0)
theorem f93_59_ok {s0 : Int32} {h : q_H} {o : q_O} {hz : q_H} {x : Int32 × q_H} (hf : f93_59 s0 h = some x) (hK : (q_KI o hz) x) : q_Ev none 93 59 [] [.int s0] h o hz := by
  unfold f93_59 at hf
  obtain ⟨g1, hf⟩ := m_G_some hf
  obtain rfl := m_R_inv hf
  obtain ⟨rfl, rfl⟩ := (show q_KI o hz (s0, _) from hK)
  exact ev_ret (q_cod qk93 rfl) (q_retZ g1)
def f93_58  : m_M Int32 :=
  f93_59 0
theorem f93_58_ok  {h : q_H} {o : q_O} {hz : q_H} {x : Int32 × q_H} (hf : f93_58 h = some x) (hK : (q_KI o hz) x) : q_Ev none 93 58 [] [] h o hz := by
  unfold f93_58 at hf
  refine ev_ic (v := 0) (q_cod qk93 rfl) (by decide) (by decide) ?_
  exact (f93_59_ok hf hK)
def f93 (l0 : Nat) (l1 : Int32) (l2 : Int32) : m_M Int32 :=
  m_B (m_gR 7 l0 4) (fun r1 => m_B (m_lI r1 l2) (fun v2 => m_B (m_gR 7 l0 5) (fun r3 => m_B (m_lI r3 l2) (fun v4 => m_B (m_aK l0 7) (fun _ => m_B (f88 l0 l1 v2 v4) (fun v6 => if v6 = 0 then (f93_58) else (m_B (m_gR 7 l0 3) (fun r7 => m_B (m_lI r7 l1) (fun v8 => m_B (m_gR 7 l0 3) (fun r9 => m_B (m_lI r9 l2) (fun v10 => if v8 = v10 then (f93_58) else (m_B (m_gR 7 l0 3) (fun r11 => m_B (m_lI r11 l1) (fun v12 => m_B (m_gR 7 l0 3) (fun r13 => m_B (m_lI r13 l2) (fun v14 => m_B (m_aK l0 7) (fun _ => m_B (f82 l0 v12 v14) (fun v16 => if v16 = 0 then (f93_58) else (f93_59 1)))))))))))))))))))
theorem f93_ok {l0 : Nat} {l1 : Int32} {l2 : Int32} {h : q_H} {o : q_O} {hz : q_H} {x : Int32 × q_H} (hf : f93 l0 l1 l2 h = some x) (hK : (q_KI o hz) x) : q_Ev none 93 0 [(0, .ref l0), (1, .int l1), (2, .int l2)] [] h o hz := by
  unfold f93 at hf
  refine ev_aload_n (q_cod qk93 rfl) (by decide) rfl ?_
  refine ev_iload_n (q_cod qk93 rfl) (by decide) rfl ?_
  refine ev_aload_n (q_cod qk93 rfl) (by decide) rfl ?_
  refine em_gR (q_cod qk93 rfl) (by decide) (by decide) hf (fun r1 hf => ?_)
  refine ev_iload_n (q_cod qk93 rfl) (by decide) rfl ?_
  refine em_lI (q_cod qk93 rfl) (by decide) hf (fun v2 hf => ?_)
  refine ev_aload_n (q_cod qk93 rfl) (by decide) rfl ?_
  refine em_gR (q_cod qk93 rfl) (by decide) (by decide) hf (fun r3 hf => ?_)
  refine ev_iload_n (q_cod qk93 rfl) (by decide) rfl ?_
  refine em_lI (q_cod qk93 rfl) (by decide) hf (fun v4 hf => ?_)
  obtain ⟨g5, hf⟩ := m_aK_some hf
  refine em_call (v := (fun u => some (.int u))) (q_cod qk93 rfl) rfl rfl (q_cokV rfl rfl (Or.inr g5)) rfl (fun x e => f88_cl e) hf (fun v6 h hf => ?_)
  refine em_if_eq (q_cod qk93 rfl) (by decide) hf (fun c19 hf => ?_) (fun c19 hf => ?_)
  · exact ev_weak (q_pk [] rfl) (f93_58_ok hf hK)
  · refine ev_aload_n (q_cod qk93 rfl) (by decide) rfl ?_
    refine em_gR (q_cod qk93 rfl) (by decide) (by decide) hf (fun r7 hf => ?_)
    refine ev_iload_n (q_cod qk93 rfl) (by decide) rfl ?_
    refine em_lI (q_cod qk93 rfl) (by decide) hf (fun v8 hf => ?_)
    refine ev_aload_n (q_cod qk93 rfl) (by decide) rfl ?_
    refine em_gR (q_cod qk93 rfl) (by decide) (by decide) hf (fun r9 hf => ?_)
    refine ev_iload_n (q_cod qk93 rfl) (by decide) rfl ?_
    refine em_lI (q_cod qk93 rfl) (by decide) hf (fun v10 hf => ?_)
    refine em_ic_eq (q_cod qk93 rfl) (by decide) hf (fun c18 hf => ?_) (fun c18 hf => ?_)
    · exact ev_weak (q_pk [] rfl) (f93_58_ok hf hK)
    · refine ev_aload_n (q_cod qk93 rfl) (by decide) rfl ?_
      refine ev_aload_n (q_cod qk93 rfl) (by decide) rfl ?_
      refine em_gR (q_cod qk93 rfl) (by decide) (by decide) hf (fun r11 hf => ?_)
      refine ev_iload_n (q_cod qk93 rfl) (by decide) rfl ?_
      refine em_lI (q_cod qk93 rfl) (by decide) hf (fun v12 hf => ?_)
      refine ev_aload_n (q_cod qk93 rfl) (by decide) rfl ?_
      refine em_gR (q_cod qk93 rfl) (by decide) (by decide) hf (fun r13 hf => ?_)
      refine ev_iload_n (q_cod qk93 rfl) (by decide) rfl ?_
      refine em_lI (q_cod qk93 rfl) (by decide) hf (fun v14 hf => ?_)
      obtain ⟨g15, hf⟩ := m_aK_some hf
      refine em_call (v := (fun u => some (.int u))) (q_cod qk93 rfl) rfl rfl (q_cokV rfl rfl (Or.inr g15)) rfl (fun x e => f82_cl e) hf (fun v16 h hf => ?_)
      refine em_if_eq (q_cod qk93 rfl) (by decide) hf (fun c17 hf => ?_) (fun c17 hf => ?_)
      · exact ev_weak (q_pk [] rfl) (f93_58_ok hf hK)
      · refine ev_ic (v := 1) (q_cod qk93 rfl) (by decide) (by decide) ?_
        refine ev_goto (q_cod qk93 rfl) (by decide) ?_
        exact ev_weak (q_pk [] rfl) (f93_59_ok hf hK)
theorem f93_cl {l0 : Nat} {l1 : Int32} {l2 : Int32} {h : q_H} {x : Int32 × q_H} (hf : f93 l0 l1 l2 h = some x) : q_Cl 93 [.ref l0, .int l1, .int l2] h (.inl (some (.int x.1))) x.2 := q_Cl.of rfl (q_LvS rfl rfl) (f93_ok hf ⟨rfl, rfl⟩)
/-! SmithyBench$Program.hasTypesOf(II)Z -/
theorem qk94 : q_cs.getD 94 [] = qc_94 := rfl
def f94_35  : m_M Int32 :=
  m_R 0
theorem f94_35_ok  {h : q_H} {o : q_O} {hz : q_H} {x : Int32 × q_H} (hf : f94_35 h = some x) (hK : (q_KI o hz) x) : q_Ev none 94 35 [] [] h o hz := by
  unfold f94_35 at hf
  refine ev_ic (v := 0) (q_cod qk94 rfl) (by decide) (by decide) ?_
  obtain rfl := m_R_inv hf
  obtain ⟨rfl, rfl⟩ := (show q_KI o hz (0, _) from hK)
  exact ev_ret (q_cod qk94 rfl) rfl
def f94_63 (s0 : Int32) : m_M Int32 :=
  m_B (m_G (s0 = 0 ∨ s0 = 1)) (fun _ => m_R s0)
theorem f94_63_ok {s0 : Int32} {h : q_H} {o : q_O} {hz : q_H} {x : Int32 × q_H} (hf : f94_63 s0 h = some x) (hK : (q_KI o hz) x) : q_Ev none 94 63 [] [.int s0] h o hz := by
  unfold f94_63 at hf
  obtain ⟨g1, hf⟩ := m_G_some hf
  obtain rfl := m_R_inv hf
  obtain ⟨rfl, rfl⟩ := (show q_KI o hz (s0, _) from hK)
  exact ev_ret (q_cod qk94 rfl) (q_retZ g1)
def f94_43 (l0 : Nat) (l1 : Int32) (l2 : Int32) : m_M Int32 :=
  m_B (m_gR 7 l0 8) (fun r1 => m_B (m_lI r1 l1) (fun v2 => m_B (m_gR 7 l0 8) (fun r3 => m_B (m_lI r3 l2) (fun v4 => if v2 = v4 then (f94_63 1) else (f94_63 0)))))
theorem f94_43_ok {l0 : Nat} {l1 : Int32} {l2 : Int32} {h : q_H} {o : q_O} {hz : q_H} {x : Int32 × q_H} (hf : f94_43 l0 l1 l2 h = some x) (hK : (q_KI o hz) x) : q_Ev none 94 43 [(0, .ref l0), (1, .int l1), (2, .int l2)] [] h o hz := by
  unfold f94_43 at hf
  refine ev_aload_n (q_cod qk94 rfl) (by decide) rfl ?_
  refine em_gR (q_cod qk94 rfl) (by decide) (by decide) hf (fun r1 hf => ?_)
  refine ev_iload_n (q_cod qk94 rfl) (by decide) rfl ?_
  refine em_lI (q_cod qk94 rfl) (by decide) hf (fun v2 hf => ?_)
  refine ev_aload_n (q_cod qk94 rfl) (by decide) rfl ?_
  refine em_gR (q_cod qk94 rfl) (by decide) (by decide) hf (fun r3 hf => ?_)
  refine ev_iload_n (q_cod qk94 rfl) (by decide) rfl ?_
  refine em_lI (q_cod qk94 rfl) (by decide) hf (fun v4 hf => ?_)
  refine em_ic_ne (q_cod qk94 rfl) (by decide) hf (fun c5 hf => ?_) (fun c5 hf => ?_)
  · refine ev_ic (v := 1) (q_cod qk94 rfl) (by decide) (by decide) ?_
    refine ev_goto (q_cod qk94 rfl) (by decide) ?_
    exact ev_weak (q_pk [] rfl) (f94_63_ok hf hK)
  · refine ev_ic (v := 0) (q_cod qk94 rfl) (by decide) (by decide) ?_
    exact ev_weak (q_pk [] rfl) (f94_63_ok hf hK)
def f94_2b (l0 : Nat) (l1 : Int32) (l2 : Int32) (l3 : Int32) : m_M ((Nat × Int32 × Int32 × Int32) ⊕ Int32) :=
  m_B (m_gR 7 l0 5) (fun r1 => m_B (m_lI r1 l1) (fun v2 => if l3 < v2 then (m_B (m_gR 7 l0 7) (fun r3 => m_B (m_lI r3 ((l1 * 2) + l3)) (fun v4 => m_B (m_gR 7 l0 7) (fun r5 => m_B (m_lI r5 ((l2 * 2) + l3)) (fun v6 => if v4 = v6 then (m_R (.inl (l0, l1, l2, (l3 + 1)))) else (m_B (f94_35) (fun r => m_R (.inr r)))))))) else (m_B (f94_43 l0 l1 l2) (fun r => m_R (.inr r)))))
theorem f94_2b_ok {l0 : Nat} {l1 : Int32} {l2 : Int32} {l3 : Int32} {h : q_H} {o : q_O} {hz : q_H} {x : ((Nat × Int32 × Int32 × Int32) ⊕ Int32) × q_H} (hf : f94_2b l0 l1 l2 l3 h = some x) (hK : (m_yK (fun (s : Nat × Int32 × Int32 × Int32) (h : q_H) => q_Ev none 94 2 [(0, .ref (s.1)), (1, .int (s.2.1)), (2, .int (s.2.2.1)), (3, .int (s.2.2.2))] [] h o hz) (q_KI o hz)) x) : q_Ev none 94 2 [(0, .ref l0), (1, .int l1), (2, .int l2), (3, .int l3)] [] h o hz := by
  unfold f94_2b at hf
  refine ev_iload_n (q_cod qk94 rfl) (by decide) rfl ?_
  refine ev_aload_n (q_cod qk94 rfl) (by decide) rfl ?_
  refine em_gR (q_cod qk94 rfl) (by decide) (by decide) hf (fun r1 hf => ?_)
  refine ev_iload_n (q_cod qk94 rfl) (by decide) rfl ?_
  refine em_lI (q_cod qk94 rfl) (by decide) hf (fun v2 hf => ?_)
  refine em_ic_ge (q_cod qk94 rfl) (by decide) hf (fun c8 hf => ?_) (fun c8 hf => ?_)
  · refine ev_aload_n (q_cod qk94 rfl) (by decide) rfl ?_
    refine em_gR (q_cod qk94 rfl) (by decide) (by decide) hf (fun r3 hf => ?_)
    refine ev_iload_n (q_cod qk94 rfl) (by decide) rfl ?_
    refine ev_ic (v := 2) (q_cod qk94 rfl) (by decide) (by decide) ?_
    refine ev_imul (q_cod qk94 rfl) (by decide) ?_
    refine ev_iload_n (q_cod qk94 rfl) (by decide) rfl ?_
    refine ev_iadd (q_cod qk94 rfl) (by decide) ?_
    refine em_lI (q_cod qk94 rfl) (by decide) hf (fun v4 hf => ?_)
    refine ev_aload_n (q_cod qk94 rfl) (by decide) rfl ?_
    refine em_gR (q_cod qk94 rfl) (by decide) (by decide) hf (fun r5 hf => ?_)
    refine ev_iload_n (q_cod qk94 rfl) (by decide) rfl ?_
    refine ev_ic (v := 2) (q_cod qk94 rfl) (by decide) (by decide) ?_
    refine ev_imul (q_cod qk94 rfl) (by decide) ?_
    refine ev_iload_n (q_cod qk94 rfl) (by decide) rfl ?_
    refine ev_iadd (q_cod qk94 rfl) (by decide) ?_
    refine em_lI (q_cod qk94 rfl) (by decide) hf (fun v6 hf => ?_)
    refine em_ic_eq (q_cod qk94 rfl) (by decide) hf (fun c7 hf => ?_) (fun c7 hf => ?_)
    · refine ev_inc (v := l3 + 1) (L' := [(0, .ref l0), (1, .int l1), (2, .int l2), (3, .int (l3 + 1))]) (q_cod qk94 rfl) (by decide) rfl rfl rfl ?_
      refine ev_goto (q_cod qk94 rfl) (by decide) ?_
      obtain rfl := m_R_inv hf
      exact (show q_Ev none 94 2 [(0, .ref l0), (1, .int l1), (2, .int l2), (3, .int (l3 + 1))] [] _ o hz from hK)
    · obtain ⟨y0, hf0, hx⟩ := m_inr_some hf
      subst hx
      exact ev_weak (q_pk [] rfl) (f94_35_ok hf0 hK)
  · obtain ⟨y0, hf0, hx⟩ := m_inr_some hf
    subst hx
    exact ev_weak (q_pk [0, 1, 2] rfl) (f94_43_ok hf0 hK)
def f94_2 (l0 : Nat) (l1 : Int32) (l2 : Int32) (l3 : Int32) : m_M Int32 := m_W (fun s => f94_2b (s.1) (s.2.1) (s.2.2.1) (s.2.2.2)) 1000000 (l0, l1, l2, l3)
theorem f94_2_ok {l0 : Nat} {l1 : Int32} {l2 : Int32} {l3 : Int32} {h : q_H} {o : q_O} {hz : q_H} {x : Int32 × q_H} (hf : f94_2 l0 l1 l2 l3 h = some x) (hK : (q_KI o hz) x) : q_Ev none 94 2 [(0, .ref l0), (1, .int l1), (2, .int l2), (3, .int l3)] [] h o hz :=
  m_W_ok (P := (fun (s : Nat × Int32 × Int32 × Int32) (h : q_H) => q_Ev none 94 2 [(0, .ref (s.1)), (1, .int (s.2.1)), (2, .int (s.2.2.1)), (3, .int (s.2.2.2))] [] h o hz)) (K := (q_KI o hz)) (fun s h x h1 h2 => f94_2b_ok h1 h2) _ (l0, l1, l2, l3) _ _ hf hK
def f94 (l0 : Nat) (l1 : Int32) (l2 : Int32) : m_M Int32 :=
  f94_2 l0 l1 l2 0
theorem f94_ok {l0 : Nat} {l1 : Int32} {l2 : Int32} {h : q_H} {o : q_O} {hz : q_H} {x : Int32 × q_H} (hf : f94 l0 l1 l2 h = some x) (hK : (q_KI o hz) x) : q_Ev none 94 0 [(0, .ref l0), (1, .int l1), (2, .int l2)] [] h o hz := by
  unfold f94 at hf
  refine ev_ic (v := 0) (q_cod qk94 rfl) (by decide) (by decide) ?_
  refine ev_is1 (L' := [(0, .ref l0), (1, .int l1), (2, .int l2), (3, .int 0)]) (q_cod qk94 rfl) (by decide) rfl ?_
  exact (f94_2_ok hf hK)
theorem f94_cl {l0 : Nat} {l1 : Int32} {l2 : Int32} {h : q_H} {x : Int32 × q_H} (hf : f94 l0 l1 l2 h = some x) : q_Cl 94 [.ref l0, .int l1, .int l2] h (.inl (some (.int x.1))) x.2 := q_Cl.of rfl (q_LvS rfl rfl) (f94_ok hf ⟨rfl, rfl⟩)
/-! SmithyBench$Checker.overridesWrongly(LSmithyBench$Program;I)Z -/
theorem qk22 : q_cs.getD 22 [] = qc_22 := rfl
def f22_38 (l1 : Nat) (l2 : Int32) (l3 : Int32) : m_M ((Nat × Int32 × Int32) ⊕ Int32) :=
  m_R (.inl (l1, l2, (l3 + 1)))
theorem f22_38_ok {l1 : Nat} {l2 : Int32} {l3 : Int32} {h : q_H} {o : q_O} {hz : q_H} {x : ((Nat × Int32 × Int32) ⊕ Int32) × q_H} (hf : f22_38 l1 l2 l3 h = some x) (hK : (m_yK (fun (s : Nat × Int32 × Int32) (h : q_H) => q_Ev none 22 2 [(1, .ref (s.1)), (2, .int (s.2.1)), (3, .int (s.2.2))] [] h o hz) (q_KI o hz)) x) : q_Ev none 22 38 [(1, .ref l1), (2, .int l2), (3, .int l3)] [] h o hz := by
  unfold f22_38 at hf
  refine ev_inc (v := l3 + 1) (L' := [(1, .ref l1), (2, .int l2), (3, .int (l3 + 1))]) (q_cod qk22 rfl) (by decide) rfl rfl rfl ?_
  refine ev_goto (q_cod qk22 rfl) (by decide) ?_
  obtain rfl := m_R_inv hf
  exact (show q_Ev none 22 2 [(1, .ref l1), (2, .int l2), (3, .int (l3 + 1))] [] _ o hz from hK)
def f22_36  : m_M Int32 :=
  m_R 1
theorem f22_36_ok  {h : q_H} {o : q_O} {hz : q_H} {x : Int32 × q_H} (hf : f22_36 h = some x) (hK : (q_KI o hz) x) : q_Ev none 22 36 [] [] h o hz := by
  unfold f22_36 at hf
  refine ev_ic (v := 1) (q_cod qk22 rfl) (by decide) (by decide) ?_
  obtain rfl := m_R_inv hf
  obtain ⟨rfl, rfl⟩ := (show q_KI o hz (1, _) from hK)
  exact ev_ret (q_cod qk22 rfl) rfl
def f22_44  : m_M Int32 :=
  m_R 0
theorem f22_44_ok  {h : q_H} {o : q_O} {hz : q_H} {x : Int32 × q_H} (hf : f22_44 h = some x) (hK : (q_KI o hz) x) : q_Ev none 22 44 [] [] h o hz := by
  unfold f22_44 at hf
  refine ev_ic (v := 0) (q_cod qk22 rfl) (by decide) (by decide) ?_
  obtain rfl := m_R_inv hf
  obtain ⟨rfl, rfl⟩ := (show q_KI o hz (0, _) from hK)
  exact ev_ret (q_cod qk22 rfl) rfl
def f22_2b (l1 : Nat) (l2 : Int32) (l3 : Int32) : m_M ((Nat × Int32 × Int32) ⊕ Int32) :=
  m_B (m_gI 7 l1 11) (fun v1 => if l3 < v1 then (m_B (m_aK l1 7) (fun _ => m_B (f79 l1 l3) (fun v3 => if v3 = 0 then (f22_38 l1 l2 l3) else (m_B (m_aK l1 7) (fun _ => m_B (f93 l1 l2 l3) (fun v5 => if v5 = 0 then (f22_38 l1 l2 l3) else (m_B (m_aK l1 7) (fun _ => m_B (f94 l1 l2 l3) (fun v7 => if v7 = 0 then (m_B (f22_36) (fun r => m_R (.inr r))) else (f22_38 l1 l2 l3)))))))))) else (m_B (f22_44) (fun r => m_R (.inr r))))
theorem f22_2b_ok {l1 : Nat} {l2 : Int32} {l3 : Int32} {h : q_H} {o : q_O} {hz : q_H} {x : ((Nat × Int32 × Int32) ⊕ Int32) × q_H} (hf : f22_2b l1 l2 l3 h = some x) (hK : (m_yK (fun (s : Nat × Int32 × Int32) (h : q_H) => q_Ev none 22 2 [(1, .ref (s.1)), (2, .int (s.2.1)), (3, .int (s.2.2))] [] h o hz) (q_KI o hz)) x) : q_Ev none 22 2 [(1, .ref l1), (2, .int l2), (3, .int l3)] [] h o hz := by
  unfold f22_2b at hf
  refine ev_iload_n (q_cod qk22 rfl) (by decide) rfl ?_
  refine ev_aload_n (q_cod qk22 rfl) (by decide) rfl ?_
  refine em_gI (q_cod qk22 rfl) (by decide) (by decide) hf (fun v1 hf => ?_)
  refine em_ic_ge (q_cod qk22 rfl) (by decide) hf (fun c11 hf => ?_) (fun c11 hf => ?_)
  · refine ev_aload_n (q_cod qk22 rfl) (by decide) rfl ?_
    refine ev_iload_n (q_cod qk22 rfl) (by decide) rfl ?_
    obtain ⟨g2, hf⟩ := m_aK_some hf
    refine em_call (v := (fun u => some (.int u))) (q_cod qk22 rfl) rfl rfl (q_cokV rfl rfl (Or.inr g2)) rfl (fun x e => f79_cl e) hf (fun v3 h hf => ?_)
    refine em_if_eq (q_cod qk22 rfl) (by decide) hf (fun c10 hf => ?_) (fun c10 hf => ?_)
    · exact (f22_38_ok hf hK)
    · refine ev_aload_n (q_cod qk22 rfl) (by decide) rfl ?_
      refine ev_iload_n (q_cod qk22 rfl) (by decide) rfl ?_
      refine ev_iload_n (q_cod qk22 rfl) (by decide) rfl ?_
      obtain ⟨g4, hf⟩ := m_aK_some hf
      refine em_call (v := (fun u => some (.int u))) (q_cod qk22 rfl) rfl rfl (q_cokV rfl rfl (Or.inr g4)) rfl (fun x e => f93_cl e) hf (fun v5 h hf => ?_)
      refine em_if_eq (q_cod qk22 rfl) (by decide) hf (fun c9 hf => ?_) (fun c9 hf => ?_)
      · exact (f22_38_ok hf hK)
      · refine ev_aload_n (q_cod qk22 rfl) (by decide) rfl ?_
        refine ev_iload_n (q_cod qk22 rfl) (by decide) rfl ?_
        refine ev_iload_n (q_cod qk22 rfl) (by decide) rfl ?_
        obtain ⟨g6, hf⟩ := m_aK_some hf
        refine em_call (v := (fun u => some (.int u))) (q_cod qk22 rfl) rfl rfl (q_cokV rfl rfl (Or.inr g6)) rfl (fun x e => f94_cl e) hf (fun v7 h hf => ?_)
        refine em_if_ne (q_cod qk22 rfl) (by decide) hf (fun c8 hf => ?_) (fun c8 hf => ?_)
        · obtain ⟨y0, hf0, hx⟩ := m_inr_some hf
          subst hx
          exact ev_weak (q_pk [] rfl) (f22_36_ok hf0 hK)
        · exact (f22_38_ok hf hK)
  · obtain ⟨y0, hf0, hx⟩ := m_inr_some hf
    subst hx
    exact ev_weak (q_pk [] rfl) (f22_44_ok hf0 hK)
def f22_2 (l1 : Nat) (l2 : Int32) (l3 : Int32) : m_M Int32 := m_W (fun s => f22_2b (s.1) (s.2.1) (s.2.2)) 1000000 (l1, l2, l3)
theorem f22_2_ok {l1 : Nat} {l2 : Int32} {l3 : Int32} {h : q_H} {o : q_O} {hz : q_H} {x : Int32 × q_H} (hf : f22_2 l1 l2 l3 h = some x) (hK : (q_KI o hz) x) : q_Ev none 22 2 [(1, .ref l1), (2, .int l2), (3, .int l3)] [] h o hz :=
  m_W_ok (P := (fun (s : Nat × Int32 × Int32) (h : q_H) => q_Ev none 22 2 [(1, .ref (s.1)), (2, .int (s.2.1)), (3, .int (s.2.2))] [] h o hz)) (K := (q_KI o hz)) (fun s h x h1 h2 => f22_2b_ok h1 h2) _ (l1, l2, l3) _ _ hf hK
def f22 (l0 : Nat) (l1 : Nat) (l2 : Int32) : m_M Int32 :=
  f22_2 l1 l2 0
theorem f22_ok {l0 : Nat} {l1 : Nat} {l2 : Int32} {h : q_H} {o : q_O} {hz : q_H} {x : Int32 × q_H} (hf : f22 l0 l1 l2 h = some x) (hK : (q_KI o hz) x) : q_Ev none 22 0 [(0, .ref l0), (1, .ref l1), (2, .int l2)] [] h o hz := by
  unfold f22 at hf
  refine ev_ic (v := 0) (q_cod qk22 rfl) (by decide) (by decide) ?_
  refine ev_is1 (L' := [(0, .ref l0), (1, .ref l1), (2, .int l2), (3, .int 0)]) (q_cod qk22 rfl) (by decide) rfl ?_
  exact ev_weak (q_pk [1, 2, 3] rfl) (f22_2_ok hf hK)
theorem f22_cl {l0 : Nat} {l1 : Nat} {l2 : Int32} {h : q_H} {x : Int32 × q_H} (hf : f22 l0 l1 l2 h = some x) : q_Cl 22 [.ref l0, .ref l1, .int l2] h (.inl (some (.int x.1))) x.2 := q_Cl.of rfl (q_LvS rfl rfl) (f22_ok hf ⟨rfl, rfl⟩)
/-! SmithyBench$Checker.isRight(LSmithyBench$Program;)Z -/
theorem qk21 : q_cs.getD 21 [] = qc_21 := rfl
def f21_75 (l0 : Nat) (l1 : Nat) (l2 : Int32) (l3 : Int32) : m_M ((Nat × Nat × Int32 × Int32) ⊕ Int32) :=
  m_R (.inl (l0, l1, l2, (l3 + 1)))
theorem f21_75_ok {l0 : Nat} {l1 : Nat} {l2 : Int32} {l3 : Int32} {h : q_H} {o : q_O} {hz : q_H} {x : ((Nat × Nat × Int32 × Int32) ⊕ Int32) × q_H} (hf : f21_75 l0 l1 l2 l3 h = some x) (hK : (m_yK (fun (s : Nat × Nat × Int32 × Int32) (h : q_H) => q_Ev none 21 25 [(0, .ref (s.1)), (1, .ref (s.2.1)), (2, .int (s.2.2.1)), (3, .int (s.2.2.2))] [] h o hz) (q_KI o hz)) x) : q_Ev none 21 75 [(0, .ref l0), (1, .ref l1), (2, .int l2), (3, .int l3)] [] h o hz := by
  unfold f21_75 at hf
  refine ev_inc (v := l3 + 1) (L' := [(0, .ref l0), (1, .ref l1), (2, .int l2), (3, .int (l3 + 1))]) (q_cod qk21 rfl) (by decide) rfl rfl rfl ?_
  refine ev_goto (q_cod qk21 rfl) (by decide) ?_
  obtain rfl := m_R_inv hf
  exact (show q_Ev none 21 25 [(0, .ref l0), (1, .ref l1), (2, .int l2), (3, .int (l3 + 1))] [] _ o hz from hK)
def f21_73 (l0 : Nat) (l1 : Nat) (l3 : Int32) : m_M ((Nat × Nat × Int32 × Int32) ⊕ Int32) :=
  f21_75 l0 l1 l3 l3
theorem f21_73_ok {l0 : Nat} {l1 : Nat} {l3 : Int32} {h : q_H} {o : q_O} {hz : q_H} {x : ((Nat × Nat × Int32 × Int32) ⊕ Int32) × q_H} (hf : f21_73 l0 l1 l3 h = some x) (hK : (m_yK (fun (s : Nat × Nat × Int32 × Int32) (h : q_H) => q_Ev none 21 25 [(0, .ref (s.1)), (1, .ref (s.2.1)), (2, .int (s.2.2.1)), (3, .int (s.2.2.2))] [] h o hz) (q_KI o hz)) x) : q_Ev none 21 73 [(0, .ref l0), (1, .ref l1), (3, .int l3)] [] h o hz := by
  unfold f21_73 at hf
  refine ev_iload_n (q_cod qk21 rfl) (by decide) rfl ?_
  refine ev_is1 (L' := [(0, .ref l0), (1, .ref l1), (2, .int l3), (3, .int l3)]) (q_cod qk21 rfl) (by decide) rfl ?_
  exact (f21_75_ok hf hK)
def f21_101 (s0 : Int32) : m_M Int32 :=
  m_B (m_G (s0 = 0 ∨ s0 = 1)) (fun _ => m_R s0)
theorem f21_101_ok {s0 : Int32} {h : q_H} {o : q_O} {hz : q_H} {x : Int32 × q_H} (hf : f21_101 s0 h = some x) (hK : (q_KI o hz) x) : q_Ev none 21 101 [] [.int s0] h o hz := by
  unfold f21_101 at hf
  obtain ⟨g1, hf⟩ := m_G_some hf
  obtain rfl := m_R_inv hf
  obtain ⟨rfl, rfl⟩ := (show q_KI o hz (s0, _) from hK)
  exact ev_ret (q_cod qk21 rfl) (q_retZ g1)
def f21_81 (l1 : Nat) (l2 : Int32) : m_M Int32 :=
  m_B (m_pI 7 l1 13 l2) (fun _ => m_B (m_pZ 7 l1 14 1) (fun _ => if l2 = (-1) then (f21_101 1) else (f21_101 0)))
theorem f21_81_ok {l1 : Nat} {l2 : Int32} {h : q_H} {o : q_O} {hz : q_H} {x : Int32 × q_H} (hf : f21_81 l1 l2 h = some x) (hK : (q_KI o hz) x) : q_Ev none 21 81 [(1, .ref l1), (2, .int l2)] [] h o hz := by
  unfold f21_81 at hf
  refine ev_aload_n (q_cod qk21 rfl) (by decide) rfl ?_
  refine ev_iload_n (q_cod qk21 rfl) (by decide) rfl ?_
  refine em_pI (q_cod qk21 rfl) (by decide) (by decide) (by decide) hf (fun hf => ?_)
  refine ev_aload_n (q_cod qk21 rfl) (by decide) rfl ?_
  refine ev_ic (v := 1) (q_cod qk21 rfl) (by decide) (by decide) ?_
  refine em_pZ (q_cod qk21 rfl) (by decide) (by decide) (by decide) hf (fun hf => ?_)
  refine ev_iload_n (q_cod qk21 rfl) (by decide) rfl ?_
  refine ev_ic (v := (-1)) (q_cod qk21 rfl) (by decide) (by decide) ?_
  refine em_ic_ne (q_cod qk21 rfl) (by decide) hf (fun c1 hf => ?_) (fun c1 hf => ?_)
  · refine ev_ic (v := 1) (q_cod qk21 rfl) (by decide) (by decide) ?_
    refine ev_goto (q_cod qk21 rfl) (by decide) ?_
    exact ev_weak (q_pk [] rfl) (f21_101_ok hf hK)
  · refine ev_ic (v := 0) (q_cod qk21 rfl) (by decide) (by decide) ?_
    exact ev_weak (q_pk [] rfl) (f21_101_ok hf hK)
def f21_25b (l0 : Nat) (l1 : Nat) (l2 : Int32) (l3 : Int32) : m_M ((Nat × Nat × Int32 × Int32) ⊕ Int32) :=
  m_B (m_gI 7 l1 11) (fun v1 => if l3 < v1 then (if l2 = (-1) then (m_B (m_aK l1 7) (fun _ => m_B (f79 l1 l3) (fun v3 => if v3 = 0 then (f21_75 l0 l1 l2 l3) else (m_B (m_gR 7 l1 9) (fun r4 => m_B (m_lR r4 l3) (fun r5 => m_B (m_aK l0 1) (fun _ => m_B (f23 l0 l1 l3 r5) (fun v7 => if v7 = 0 then (f21_73 l0 l1 l3) else (m_B (m_aK l0 1) (fun _ => m_B (f22 l0 l1 l3) (fun v9 => if v9 = 0 then (f21_75 l0 l1 l2 l3) else (f21_73 l0 l1 l3)))))))))))) else (m_B (f21_81 l1 l2) (fun r => m_R (.inr r)))) else (m_B (f21_81 l1 l2) (fun r => m_R (.inr r))))
theorem f21_25b_ok {l0 : Nat} {l1 : Nat} {l2 : Int32} {l3 : Int32} {h : q_H} {o : q_O} {hz : q_H} {x : ((Nat × Nat × Int32 × Int32) ⊕ Int32) × q_H} (hf : f21_25b l0 l1 l2 l3 h = some x) (hK : (m_yK (fun (s : Nat × Nat × Int32 × Int32) (h : q_H) => q_Ev none 21 25 [(0, .ref (s.1)), (1, .ref (s.2.1)), (2, .int (s.2.2.1)), (3, .int (s.2.2.2))] [] h o hz) (q_KI o hz)) x) : q_Ev none 21 25 [(0, .ref l0), (1, .ref l1), (2, .int l2), (3, .int l3)] [] h o hz := by
  unfold f21_25b at hf
  refine ev_iload_n (q_cod qk21 rfl) (by decide) rfl ?_
  refine ev_aload_n (q_cod qk21 rfl) (by decide) rfl ?_
  refine em_gI (q_cod qk21 rfl) (by decide) (by decide) hf (fun v1 hf => ?_)
  refine em_ic_ge (q_cod qk21 rfl) (by decide) hf (fun c14 hf => ?_) (fun c14 hf => ?_)
  · refine ev_iload_n (q_cod qk21 rfl) (by decide) rfl ?_
    refine ev_ic (v := (-1)) (q_cod qk21 rfl) (by decide) (by decide) ?_
    refine em_ic_ne (q_cod qk21 rfl) (by decide) hf (fun c13 hf => ?_) (fun c13 hf => ?_)
    · refine ev_aload_n (q_cod qk21 rfl) (by decide) rfl ?_
      refine ev_iload_n (q_cod qk21 rfl) (by decide) rfl ?_
      obtain ⟨g2, hf⟩ := m_aK_some hf
      refine em_call (v := (fun u => some (.int u))) (q_cod qk21 rfl) rfl rfl (q_cokV rfl rfl (Or.inr g2)) rfl (fun x e => f79_cl e) hf (fun v3 h hf => ?_)
      refine em_if_ne (q_cod qk21 rfl) (by decide) hf (fun c12 hf => ?_) (fun c12 hf => ?_)
      · refine ev_goto (q_cod qk21 rfl) (by decide) ?_
        exact (f21_75_ok hf hK)
      · refine ev_aload_n (q_cod qk21 rfl) (by decide) rfl ?_
        refine ev_aload_n (q_cod qk21 rfl) (by decide) rfl ?_
        refine ev_iload_n (q_cod qk21 rfl) (by decide) rfl ?_
        refine ev_aload_n (q_cod qk21 rfl) (by decide) rfl ?_
        refine em_gR (q_cod qk21 rfl) (by decide) (by decide) hf (fun r4 hf => ?_)
        refine ev_iload_n (q_cod qk21 rfl) (by decide) rfl ?_
        refine em_lR (q_cod qk21 rfl) (by decide) hf (fun r5 hf => ?_)
        obtain ⟨g6, hf⟩ := m_aK_some hf
        refine em_call (v := (fun u => some (.int u))) (q_cod qk21 rfl) rfl rfl (q_cokV rfl rfl (Or.inr g6)) rfl (fun x e => f23_cl e) hf (fun v7 h hf => ?_)
        refine em_if_eq (q_cod qk21 rfl) (by decide) hf (fun c11 hf => ?_) (fun c11 hf => ?_)
        · exact ev_weak (q_pk [0, 1, 3] rfl) (f21_73_ok hf hK)
        · refine ev_aload_n (q_cod qk21 rfl) (by decide) rfl ?_
          refine ev_aload_n (q_cod qk21 rfl) (by decide) rfl ?_
          refine ev_iload_n (q_cod qk21 rfl) (by decide) rfl ?_
          obtain ⟨g8, hf⟩ := m_aK_some hf
          refine em_call (v := (fun u => some (.int u))) (q_cod qk21 rfl) rfl rfl (q_cokV rfl rfl (Or.inr g8)) rfl (fun x e => f22_cl e) hf (fun v9 h hf => ?_)
          refine em_if_eq (q_cod qk21 rfl) (by decide) hf (fun c10 hf => ?_) (fun c10 hf => ?_)
          · exact (f21_75_ok hf hK)
          · exact ev_weak (q_pk [0, 1, 3] rfl) (f21_73_ok hf hK)
    · obtain ⟨y0, hf0, hx⟩ := m_inr_some hf
      subst hx
      exact ev_weak (q_pk [1, 2] rfl) (f21_81_ok hf0 hK)
  · obtain ⟨y0, hf0, hx⟩ := m_inr_some hf
    subst hx
    exact ev_weak (q_pk [1, 2] rfl) (f21_81_ok hf0 hK)
def f21_25 (l0 : Nat) (l1 : Nat) (l2 : Int32) (l3 : Int32) : m_M Int32 := m_W (fun s => f21_25b (s.1) (s.2.1) (s.2.2.1) (s.2.2.2)) 1000000 (l0, l1, l2, l3)
theorem f21_25_ok {l0 : Nat} {l1 : Nat} {l2 : Int32} {l3 : Int32} {h : q_H} {o : q_O} {hz : q_H} {x : Int32 × q_H} (hf : f21_25 l0 l1 l2 l3 h = some x) (hK : (q_KI o hz) x) : q_Ev none 21 25 [(0, .ref l0), (1, .ref l1), (2, .int l2), (3, .int l3)] [] h o hz :=
  m_W_ok (P := (fun (s : Nat × Nat × Int32 × Int32) (h : q_H) => q_Ev none 21 25 [(0, .ref (s.1)), (1, .ref (s.2.1)), (2, .int (s.2.2.1)), (3, .int (s.2.2.2))] [] h o hz)) (K := (q_KI o hz)) (fun s h x h1 h2 => f21_25b_ok h1 h2) _ (l0, l1, l2, l3) _ _ hf hK
def f21_20 (s0 : Int32) : m_M Int32 :=
  m_B (m_G (s0 = 0 ∨ s0 = 1)) (fun _ => m_R s0)
theorem f21_20_ok {s0 : Int32} {h : q_H} {o : q_O} {hz : q_H} {x : Int32 × q_H} (hf : f21_20 s0 h = some x) (hK : (q_KI o hz) x) : q_Ev none 21 20 [] [.int s0] h o hz := by
  unfold f21_20 at hf
  obtain ⟨g1, hf⟩ := m_G_some hf
  obtain rfl := m_R_inv hf
  obtain ⟨rfl, rfl⟩ := (show q_KI o hz (s0, _) from hK)
  exact ev_ret (q_cod qk21 rfl) (q_retZ g1)
def f21 (l0 : Nat) (l1 : Nat) : m_M Int32 :=
  m_B (m_gI 7 l1 14) (fun v1 => if v1 = 0 then (f21_25 l0 l1 (-1) 0) else (m_B (m_gI 7 l1 13) (fun v2 => if v2 = (-1) then (f21_20 1) else (f21_20 0))))
theorem f21_ok {l0 : Nat} {l1 : Nat} {h : q_H} {o : q_O} {hz : q_H} {x : Int32 × q_H} (hf : f21 l0 l1 h = some x) (hK : (q_KI o hz) x) : q_Ev none 21 0 [(0, .ref l0), (1, .ref l1)] [] h o hz := by
  unfold f21 at hf
  refine ev_aload_n (q_cod qk21 rfl) (by decide) rfl ?_
  refine em_gI (q_cod qk21 rfl) (by decide) (by decide) hf (fun v1 hf => ?_)
  refine em_if_eq (q_cod qk21 rfl) (by decide) hf (fun c4 hf => ?_) (fun c4 hf => ?_)
  · refine ev_ic (v := (-1)) (q_cod qk21 rfl) (by decide) (by decide) ?_
    refine ev_is1 (L' := [(0, .ref l0), (1, .ref l1), (2, .int (-1))]) (q_cod qk21 rfl) (by decide) rfl ?_
    refine ev_ic (v := 0) (q_cod qk21 rfl) (by decide) (by decide) ?_
    refine ev_is1 (L' := [(0, .ref l0), (1, .ref l1), (2, .int (-1)), (3, .int 0)]) (q_cod qk21 rfl) (by decide) rfl ?_
    exact (f21_25_ok hf hK)
  · refine ev_aload_n (q_cod qk21 rfl) (by decide) rfl ?_
    refine em_gI (q_cod qk21 rfl) (by decide) (by decide) hf (fun v2 hf => ?_)
    refine ev_ic (v := (-1)) (q_cod qk21 rfl) (by decide) (by decide) ?_
    refine em_ic_ne (q_cod qk21 rfl) (by decide) hf (fun c3 hf => ?_) (fun c3 hf => ?_)
    · refine ev_ic (v := 1) (q_cod qk21 rfl) (by decide) (by decide) ?_
      refine ev_goto (q_cod qk21 rfl) (by decide) ?_
      exact ev_weak (q_pk [] rfl) (f21_20_ok hf hK)
    · refine ev_ic (v := 0) (q_cod qk21 rfl) (by decide) (by decide) ?_
      exact ev_weak (q_pk [] rfl) (f21_20_ok hf hK)
theorem f21_cl {l0 : Nat} {l1 : Nat} {h : q_H} {x : Int32 × q_H} (hf : f21 l0 l1 h = some x) : q_Cl 21 [.ref l0, .ref l1] h (.inl (some (.int x.1))) x.2 := q_Cl.of rfl (q_LvS rfl rfl) (f21_ok hf ⟨rfl, rfl⟩)
