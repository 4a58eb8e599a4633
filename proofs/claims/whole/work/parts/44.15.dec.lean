/-! SmithyBenchModel.look(II)Z -/
theorem qk232 : q_cs.getD 232 [] = qc_232 := rfl
def f232_84 (l0 : Nat) (l1 : Int32) (l2 : Int32) (l3 : Int32) (l4 : Int32) (l5 : Int32) (s0 : Nat) (s1 : Int32) (s2 : Int32) : m_M ((Nat × Int32 × Int32 × Int32 × Int32 × Int32) ⊕ Int32) :=
  m_B (m_wI s0 s1 s2) (fun _ => m_R (.inl (l0, l1, l2, l3, l4, (l5 + 1))))
theorem f232_84_ok {l0 : Nat} {l1 : Int32} {l2 : Int32} {l3 : Int32} {l4 : Int32} {l5 : Int32} {s0 : Nat} {s1 : Int32} {s2 : Int32} {h : q_H} {o : q_O} {hz : q_H} {x : ((Nat × Int32 × Int32 × Int32 × Int32 × Int32) ⊕ Int32) × q_H} (hf : f232_84 l0 l1 l2 l3 l4 l5 s0 s1 s2 h = some x) (hK : (m_yK (fun (s : Nat × Int32 × Int32 × Int32 × Int32 × Int32) (h : q_H) => q_Ev none 232 25 [(0, .ref (s.1)), (1, .int (s.2.1)), (2, .int (s.2.2.1)), (3, .int (s.2.2.2.1)), (4, .int (s.2.2.2.2.1)), (5, .int (s.2.2.2.2.2))] [] h o hz) (q_KI o hz)) x) : q_Ev none 232 84 [(0, .ref l0), (1, .int l1), (2, .int l2), (3, .int l3), (4, .int l4), (5, .int l5)] [.int s2, .int s1, .ref s0] h o hz := by
  unfold f232_84 at hf
  refine em_wI (q_cod qk232 rfl) (by decide) hf (fun hf => ?_)
  refine ev_inc (v := l5 + 1) (L' := [(0, .ref l0), (1, .int l1), (2, .int l2), (3, .int l3), (4, .int l4), (5, .int (l5 + 1))]) (q_cod qk232 rfl) (by decide) rfl rfl rfl ?_
  refine ev_goto (q_cod qk232 rfl) (by decide) ?_
  obtain rfl := m_R_inv hf
  exact (show q_Ev none 232 25 [(0, .ref l0), (1, .int l1), (2, .int l2), (3, .int l3), (4, .int l4), (5, .int (l5 + 1))] [] _ o hz from hK)
def f232_63 (l0 : Nat) (l1 : Int32) (l2 : Int32) (l3 : Int32) (l4 : Int32) (l5 : Int32) (s0 : Nat) (s1 : Int32) : m_M ((Nat × Int32 × Int32 × Int32 × Int32 × Int32) ⊕ Int32) :=
  m_B (m_aK l0 12) (fun _ => m_B (f200 l0 l1 l2 l5) (fun v2 => m_B (m_aK l0 12) (fun _ => m_B (f225 l0 l1 l2 l5 v2) (fun v4 => f232_84 l0 l1 l2 l3 l4 l5 s0 s1 v4))))
theorem f232_63_ok {l0 : Nat} {l1 : Int32} {l2 : Int32} {l3 : Int32} {l4 : Int32} {l5 : Int32} {s0 : Nat} {s1 : Int32} {h : q_H} {o : q_O} {hz : q_H} {x : ((Nat × Int32 × Int32 × Int32 × Int32 × Int32) ⊕ Int32) × q_H} (hf : f232_63 l0 l1 l2 l3 l4 l5 s0 s1 h = some x) (hK : (m_yK (fun (s : Nat × Int32 × Int32 × Int32 × Int32 × Int32) (h : q_H) => q_Ev none 232 25 [(0, .ref (s.1)), (1, .int (s.2.1)), (2, .int (s.2.2.1)), (3, .int (s.2.2.2.1)), (4, .int (s.2.2.2.2.1)), (5, .int (s.2.2.2.2.2))] [] h o hz) (q_KI o hz)) x) : q_Ev none 232 63 [(0, .ref l0), (1, .int l1), (2, .int l2), (3, .int l3), (4, .int l4), (5, .int l5)] [.int s1, .ref s0] h o hz := by
  unfold f232_63 at hf
  refine ev_aload_n (q_cod qk232 rfl) (by decide) rfl ?_
  refine ev_iload_n (q_cod qk232 rfl) (by decide) rfl ?_
  refine ev_iload_n (q_cod qk232 rfl) (by decide) rfl ?_
  refine ev_iload (q_cod qk232 rfl) (by decide) rfl ?_
  refine ev_aload_n (q_cod qk232 rfl) (by decide) rfl ?_
  refine ev_iload_n (q_cod qk232 rfl) (by decide) rfl ?_
  refine ev_iload_n (q_cod qk232 rfl) (by decide) rfl ?_
  refine ev_iload (q_cod qk232 rfl) (by decide) rfl ?_
  obtain ⟨g1, hf⟩ := m_aK_some hf
  refine em_call (v := (fun u => some (.int u))) (q_cod qk232 rfl) rfl rfl (q_cokV rfl rfl (Or.inr g1)) rfl (fun x e => f200_cl e) hf (fun v2 h hf => ?_)
  obtain ⟨g3, hf⟩ := m_aK_some hf
  refine em_call (v := (fun u => some (.int u))) (q_cod qk232 rfl) rfl rfl (q_cokV rfl rfl (Or.inr g3)) rfl (fun x e => f225_cl e) hf (fun v4 h hf => ?_)
  refine ev_goto (q_cod qk232 rfl) (by decide) ?_
  exact (f232_84_ok hf hK)
def f232_228 (s0 : Int32) : m_M Int32 :=
  m_B (m_G (s0 = 0 ∨ s0 = 1)) (fun _ => m_R s0)
theorem f232_228_ok {s0 : Int32} {h : q_H} {o : q_O} {hz : q_H} {x : Int32 × q_H} (hf : f232_228 s0 h = some x) (hK : (q_KI o hz) x) : q_Ev none 232 228 [] [.int s0] h o hz := by
  unfold f232_228 at hf
  obtain ⟨g1, hf⟩ := m_G_some hf
  obtain rfl := m_R_inv hf
  obtain ⟨rfl, rfl⟩ := (show q_KI o hz (s0, _) from hK)
  exact ev_ret (q_cod qk232 rfl) (q_retZ g1)
def f232_227  : m_M Int32 :=
  f232_228 0
theorem f232_227_ok  {h : q_H} {o : q_O} {hz : q_H} {x : Int32 × q_H} (hf : f232_227 h = some x) (hK : (q_KI o hz) x) : q_Ev none 232 227 [] [] h o hz := by
  unfold f232_227 at hf
  refine ev_ic (v := 0) (q_cod qk232 rfl) (by decide) (by decide) ?_
  exact (f232_228_ok hf hK)
def f232_179 (l0 : Nat) (l1 : Int32) (l2 : Int32) (l3 : Int32) : m_M Int32 :=
  m_B (m_gR 12 l0 12) (fun r1 => m_B (m_lI r1 l3) (fun v2 => if v2 = (-3) then (f232_227) else (m_B (m_gR 12 l0 12) (fun r3 => m_B (m_lI r3 l3) (fun v4 => if v4 = (-9) then (f232_227) else (m_B (m_gR 12 l0 12) (fun r5 => m_B (m_lI r5 l3) (fun v6 => m_B (m_aK l0 12) (fun _ => m_B (f196 l0 l1 l2 8) (fun v8 => m_B (m_aK l0 12) (fun _ => m_B (f227 l0 l1 v6 v8) (fun v10 => if v10 = 0 then (f232_227) else (f232_228 1)))))))))))))
theorem f232_179_ok {l0 : Nat} {l1 : Int32} {l2 : Int32} {l3 : Int32} {h : q_H} {o : q_O} {hz : q_H} {x : Int32 × q_H} (hf : f232_179 l0 l1 l2 l3 h = some x) (hK : (q_KI o hz) x) : q_Ev none 232 179 [(0, .ref l0), (1, .int l1), (2, .int l2), (3, .int l3)] [] h o hz := by
  unfold f232_179 at hf
  refine ev_aload_n (q_cod qk232 rfl) (by decide) rfl ?_
  refine em_gR (q_cod qk232 rfl) (by decide) (by decide) hf (fun r1 hf => ?_)
  refine ev_iload_n (q_cod qk232 rfl) (by decide) rfl ?_
  refine em_lI (q_cod qk232 rfl) (by decide) hf (fun v2 hf => ?_)
  refine ev_bi (v := (-3)) (q_cod qk232 rfl) (by decide) (by decide) ?_
  refine em_ic_eq (q_cod qk232 rfl) (by decide) hf (fun c13 hf => ?_) (fun c13 hf => ?_)
  · exact ev_weak (q_pk [] rfl) (f232_227_ok hf hK)
  · refine ev_aload_n (q_cod qk232 rfl) (by decide) rfl ?_
    refine em_gR (q_cod qk232 rfl) (by decide) (by decide) hf (fun r3 hf => ?_)
    refine ev_iload_n (q_cod qk232 rfl) (by decide) rfl ?_
    refine em_lI (q_cod qk232 rfl) (by decide) hf (fun v4 hf => ?_)
    refine ev_bi (v := (-9)) (q_cod qk232 rfl) (by decide) (by decide) ?_
    refine em_ic_eq (q_cod qk232 rfl) (by decide) hf (fun c12 hf => ?_) (fun c12 hf => ?_)
    · exact ev_weak (q_pk [] rfl) (f232_227_ok hf hK)
    · refine ev_aload_n (q_cod qk232 rfl) (by decide) rfl ?_
      refine ev_iload_n (q_cod qk232 rfl) (by decide) rfl ?_
      refine ev_aload_n (q_cod qk232 rfl) (by decide) rfl ?_
      refine em_gR (q_cod qk232 rfl) (by decide) (by decide) hf (fun r5 hf => ?_)
      refine ev_iload_n (q_cod qk232 rfl) (by decide) rfl ?_
      refine em_lI (q_cod qk232 rfl) (by decide) hf (fun v6 hf => ?_)
      refine ev_aload_n (q_cod qk232 rfl) (by decide) rfl ?_
      refine ev_iload_n (q_cod qk232 rfl) (by decide) rfl ?_
      refine ev_iload_n (q_cod qk232 rfl) (by decide) rfl ?_
      refine ev_bi (v := 8) (q_cod qk232 rfl) (by decide) (by decide) ?_
      obtain ⟨g7, hf⟩ := m_aK_some hf
      refine em_call (v := (fun u => some (.int u))) (q_cod qk232 rfl) rfl rfl (q_cokV rfl rfl (Or.inr g7)) rfl (fun x e => f196_cl e) hf (fun v8 h hf => ?_)
      obtain ⟨g9, hf⟩ := m_aK_some hf
      refine em_call (v := (fun u => some (.int u))) (q_cod qk232 rfl) rfl rfl (q_cokV rfl rfl (Or.inr g9)) rfl (fun x e => f227_cl e) hf (fun v10 h hf => ?_)
      refine em_if_eq (q_cod qk232 rfl) (by decide) hf (fun c11 hf => ?_) (fun c11 hf => ?_)
      · exact ev_weak (q_pk [] rfl) (f232_227_ok hf hK)
      · refine ev_ic (v := 1) (q_cod qk232 rfl) (by decide) (by decide) ?_
        refine ev_goto (q_cod qk232 rfl) (by decide) ?_
        exact ev_weak (q_pk [] rfl) (f232_228_ok hf hK)
def f232_176 (l0 : Nat) (l1 : Int32) (l2 : Int32) (l3 : Int32) (l4 : Int32) (l5 : Int32) : m_M ((Nat × Int32 × Int32 × Int32 × Int32 × Int32) ⊕ Int32) :=
  m_R (.inl (l0, l1, l2, l3, l4, l5))
theorem f232_176_ok {l0 : Nat} {l1 : Int32} {l2 : Int32} {l3 : Int32} {l4 : Int32} {l5 : Int32} {h : q_H} {o : q_O} {hz : q_H} {x : ((Nat × Int32 × Int32 × Int32 × Int32 × Int32) ⊕ Int32) × q_H} (hf : f232_176 l0 l1 l2 l3 l4 l5 h = some x) (hK : (m_yK (fun (s : Nat × Int32 × Int32 × Int32 × Int32 × Int32) (h : q_H) => q_Ev none 232 94 [(0, .ref (s.1)), (1, .int (s.2.1)), (2, .int (s.2.2.1)), (3, .int (s.2.2.2.1)), (4, .int (s.2.2.2.2.1)), (5, .int (s.2.2.2.2.2))] [] h o hz) (q_KI o hz)) x) : q_Ev none 232 176 [(0, .ref l0), (1, .int l1), (2, .int l2), (3, .int l3), (4, .int l4), (5, .int l5)] [] h o hz := by
  unfold f232_176 at hf
  refine ev_goto (q_cod qk232 rfl) (by decide) ?_
  obtain rfl := m_R_inv hf
  exact (show q_Ev none 232 94 [(0, .ref l0), (1, .int l1), (2, .int l2), (3, .int l3), (4, .int l4), (5, .int l5)] [] _ o hz from hK)
def f232_170 (l0 : Nat) (l1 : Int32) (l2 : Int32) (l3 : Int32) (l4 : Int32) (l5 : Int32) (l6 : Int32) : m_M ((Nat × Int32 × Int32 × Int32 × Int32 × Int32 × Int32) ⊕ ((Nat × Int32 × Int32 × Int32 × Int32 × Int32) ⊕ Int32)) :=
  m_R (.inl (l0, l1, l2, l3, l4, l5, (l6 + (-1))))
theorem f232_170_ok {l0 : Nat} {l1 : Int32} {l2 : Int32} {l3 : Int32} {l4 : Int32} {l5 : Int32} {l6 : Int32} {h : q_H} {o : q_O} {hz : q_H} {x : ((Nat × Int32 × Int32 × Int32 × Int32 × Int32 × Int32) ⊕ ((Nat × Int32 × Int32 × Int32 × Int32 × Int32) ⊕ Int32)) × q_H} (hf : f232_170 l0 l1 l2 l3 l4 l5 l6 h = some x) (hK : (m_yK (fun (s : Nat × Int32 × Int32 × Int32 × Int32 × Int32 × Int32) (h : q_H) => q_Ev none 232 108 [(0, .ref (s.1)), (1, .int (s.2.1)), (2, .int (s.2.2.1)), (3, .int (s.2.2.2.1)), (4, .int (s.2.2.2.2.1)), (5, .int (s.2.2.2.2.2.1)), (6, .int (s.2.2.2.2.2.2))] [] h o hz) (m_yK (fun (s : Nat × Int32 × Int32 × Int32 × Int32 × Int32) (h : q_H) => q_Ev none 232 94 [(0, .ref (s.1)), (1, .int (s.2.1)), (2, .int (s.2.2.1)), (3, .int (s.2.2.2.1)), (4, .int (s.2.2.2.2.1)), (5, .int (s.2.2.2.2.2))] [] h o hz) (q_KI o hz))) x) : q_Ev none 232 170 [(0, .ref l0), (1, .int l1), (2, .int l2), (3, .int l3), (4, .int l4), (5, .int l5), (6, .int l6)] [] h o hz := by
  unfold f232_170 at hf
  refine ev_inc (v := l6 + (-1)) (L' := [(0, .ref l0), (1, .int l1), (2, .int l2), (3, .int l3), (4, .int l4), (5, .int l5), (6, .int (l6 + (-1)))]) (q_cod qk232 rfl) (by decide) rfl rfl rfl ?_
  refine ev_goto (q_cod qk232 rfl) (by decide) ?_
  obtain rfl := m_R_inv hf
  exact (show q_Ev none 232 108 [(0, .ref l0), (1, .int l1), (2, .int l2), (3, .int l3), (4, .int l4), (5, .int l5), (6, .int (l6 + (-1)))] [] _ o hz from hK)
def f232_168 (l0 : Nat) (l1 : Int32) (l2 : Int32) (l3 : Int32) (l4 : Int32) (l6 : Int32) (s0 : Int32) : m_M ((Nat × Int32 × Int32 × Int32 × Int32 × Int32 × Int32) ⊕ ((Nat × Int32 × Int32 × Int32 × Int32 × Int32) ⊕ Int32)) :=
  f232_170 l0 l1 l2 l3 l4 s0 l6
theorem f232_168_ok {l0 : Nat} {l1 : Int32} {l2 : Int32} {l3 : Int32} {l4 : Int32} {l6 : Int32} {s0 : Int32} {h : q_H} {o : q_O} {hz : q_H} {x : ((Nat × Int32 × Int32 × Int32 × Int32 × Int32 × Int32) ⊕ ((Nat × Int32 × Int32 × Int32 × Int32 × Int32) ⊕ Int32)) × q_H} (hf : f232_168 l0 l1 l2 l3 l4 l6 s0 h = some x) (hK : (m_yK (fun (s : Nat × Int32 × Int32 × Int32 × Int32 × Int32 × Int32) (h : q_H) => q_Ev none 232 108 [(0, .ref (s.1)), (1, .int (s.2.1)), (2, .int (s.2.2.1)), (3, .int (s.2.2.2.1)), (4, .int (s.2.2.2.2.1)), (5, .int (s.2.2.2.2.2.1)), (6, .int (s.2.2.2.2.2.2))] [] h o hz) (m_yK (fun (s : Nat × Int32 × Int32 × Int32 × Int32 × Int32) (h : q_H) => q_Ev none 232 94 [(0, .ref (s.1)), (1, .int (s.2.1)), (2, .int (s.2.2.1)), (3, .int (s.2.2.2.1)), (4, .int (s.2.2.2.2.1)), (5, .int (s.2.2.2.2.2))] [] h o hz) (q_KI o hz))) x) : q_Ev none 232 168 [(0, .ref l0), (1, .int l1), (2, .int l2), (3, .int l3), (4, .int l4), (6, .int l6)] [.int s0] h o hz := by
  unfold f232_168 at hf
  refine ev_is2 (L' := [(0, .ref l0), (1, .int l1), (2, .int l2), (3, .int l3), (4, .int l4), (5, .int s0), (6, .int l6)]) (q_cod qk232 rfl) (by decide) rfl ?_
  exact (f232_170_ok hf hK)
def f232_163 (l0 : Nat) (l1 : Int32) (l2 : Int32) (l3 : Int32) (l4 : Int32) (l6 : Int32) : m_M ((Nat × Int32 × Int32 × Int32 × Int32 × Int32 × Int32) ⊕ ((Nat × Int32 × Int32 × Int32 × Int32 × Int32) ⊕ Int32)) :=
  f232_168 l0 l1 l2 l3 l4 l6 1
theorem f232_163_ok {l0 : Nat} {l1 : Int32} {l2 : Int32} {l3 : Int32} {l4 : Int32} {l6 : Int32} {h : q_H} {o : q_O} {hz : q_H} {x : ((Nat × Int32 × Int32 × Int32 × Int32 × Int32 × Int32) ⊕ ((Nat × Int32 × Int32 × Int32 × Int32 × Int32) ⊕ Int32)) × q_H} (hf : f232_163 l0 l1 l2 l3 l4 l6 h = some x) (hK : (m_yK (fun (s : Nat × Int32 × Int32 × Int32 × Int32 × Int32 × Int32) (h : q_H) => q_Ev none 232 108 [(0, .ref (s.1)), (1, .int (s.2.1)), (2, .int (s.2.2.1)), (3, .int (s.2.2.2.1)), (4, .int (s.2.2.2.2.1)), (5, .int (s.2.2.2.2.2.1)), (6, .int (s.2.2.2.2.2.2))] [] h o hz) (m_yK (fun (s : Nat × Int32 × Int32 × Int32 × Int32 × Int32) (h : q_H) => q_Ev none 232 94 [(0, .ref (s.1)), (1, .int (s.2.1)), (2, .int (s.2.2.1)), (3, .int (s.2.2.2.1)), (4, .int (s.2.2.2.2.1)), (5, .int (s.2.2.2.2.2))] [] h o hz) (q_KI o hz))) x) : q_Ev none 232 163 [(0, .ref l0), (1, .int l1), (2, .int l2), (3, .int l3), (4, .int l4), (6, .int l6)] [] h o hz := by
  unfold f232_163 at hf
  refine ev_ic (v := 1) (q_cod qk232 rfl) (by decide) (by decide) ?_
  refine ev_goto (q_cod qk232 rfl) (by decide) ?_
  exact (f232_168_ok hf hK)
def f232_108b (l0 : Nat) (l1 : Int32) (l2 : Int32) (l3 : Int32) (l4 : Int32) (l5 : Int32) (l6 : Int32) : m_M ((Nat × Int32 × Int32 × Int32 × Int32 × Int32 × Int32) ⊕ ((Nat × Int32 × Int32 × Int32 × Int32 × Int32) ⊕ Int32)) :=
  if l6 < 0 then (m_B (f232_176 l0 l1 l2 l3 l4 l5) (fun r => m_R (.inr r))) else (m_B (m_gR 12 l0 12) (fun r1 => m_B (m_lI r1 (l3 + l6)) (fun v2 => if v2 = (-9) then (m_B (m_gR 12 l0 12) (fun r3 => m_B (m_aK l0 12) (fun _ => m_B (f228 l0 l1 l2 l6) (fun v5 => m_B (m_wI r3 (l3 + l6) v5) (fun _ => if l5 = 0 then (m_B (m_gR 12 l0 12) (fun r6 => m_B (m_lI r6 (l3 + l6)) (fun v7 => if v7 = (-9) then (f232_168 l0 l1 l2 l3 l4 l6 0) else (f232_163 l0 l1 l2 l3 l4 l6)))) else (f232_163 l0 l1 l2 l3 l4 l6)))))) else (f232_170 l0 l1 l2 l3 l4 l5 l6))))
theorem f232_108b_ok {l0 : Nat} {l1 : Int32} {l2 : Int32} {l3 : Int32} {l4 : Int32} {l5 : Int32} {l6 : Int32} {h : q_H} {o : q_O} {hz : q_H} {x : ((Nat × Int32 × Int32 × Int32 × Int32 × Int32 × Int32) ⊕ ((Nat × Int32 × Int32 × Int32 × Int32 × Int32) ⊕ Int32)) × q_H} (hf : f232_108b l0 l1 l2 l3 l4 l5 l6 h = some x) (hK : (m_yK (fun (s : Nat × Int32 × Int32 × Int32 × Int32 × Int32 × Int32) (h : q_H) => q_Ev none 232 108 [(0, .ref (s.1)), (1, .int (s.2.1)), (2, .int (s.2.2.1)), (3, .int (s.2.2.2.1)), (4, .int (s.2.2.2.2.1)), (5, .int (s.2.2.2.2.2.1)), (6, .int (s.2.2.2.2.2.2))] [] h o hz) (m_yK (fun (s : Nat × Int32 × Int32 × Int32 × Int32 × Int32) (h : q_H) => q_Ev none 232 94 [(0, .ref (s.1)), (1, .int (s.2.1)), (2, .int (s.2.2.1)), (3, .int (s.2.2.2.1)), (4, .int (s.2.2.2.2.1)), (5, .int (s.2.2.2.2.2))] [] h o hz) (q_KI o hz))) x) : q_Ev none 232 108 [(0, .ref l0), (1, .int l1), (2, .int l2), (3, .int l3), (4, .int l4), (5, .int l5), (6, .int l6)] [] h o hz := by
  unfold f232_108b at hf
  refine ev_iload (q_cod qk232 rfl) (by decide) rfl ?_
  refine em_if_lt (q_cod qk232 rfl) (by decide) hf (fun c11 hf => ?_) (fun c11 hf => ?_)
  · obtain ⟨y0, hf0, hx⟩ := m_inr_some hf
    subst hx
    exact ev_weak (q_pk [0, 1, 2, 3, 4, 5] rfl) (f232_176_ok hf0 hK)
  · refine ev_aload_n (q_cod qk232 rfl) (by decide) rfl ?_
    refine em_gR (q_cod qk232 rfl) (by decide) (by decide) hf (fun r1 hf => ?_)
    refine ev_iload_n (q_cod qk232 rfl) (by decide) rfl ?_
    refine ev_iload (q_cod qk232 rfl) (by decide) rfl ?_
    refine ev_iadd (q_cod qk232 rfl) (by decide) ?_
    refine em_lI (q_cod qk232 rfl) (by decide) hf (fun v2 hf => ?_)
    refine ev_bi (v := (-9)) (q_cod qk232 rfl) (by decide) (by decide) ?_
    refine em_ic_ne (q_cod qk232 rfl) (by decide) hf (fun c10 hf => ?_) (fun c10 hf => ?_)
    · refine ev_aload_n (q_cod qk232 rfl) (by decide) rfl ?_
      refine em_gR (q_cod qk232 rfl) (by decide) (by decide) hf (fun r3 hf => ?_)
      refine ev_iload_n (q_cod qk232 rfl) (by decide) rfl ?_
      refine ev_iload (q_cod qk232 rfl) (by decide) rfl ?_
      refine ev_iadd (q_cod qk232 rfl) (by decide) ?_
      refine ev_aload_n (q_cod qk232 rfl) (by decide) rfl ?_
      refine ev_iload_n (q_cod qk232 rfl) (by decide) rfl ?_
      refine ev_iload_n (q_cod qk232 rfl) (by decide) rfl ?_
      refine ev_iload (q_cod qk232 rfl) (by decide) rfl ?_
      obtain ⟨g4, hf⟩ := m_aK_some hf
      refine em_call (v := (fun u => some (.int u))) (q_cod qk232 rfl) rfl rfl (q_cokV rfl rfl (Or.inr g4)) rfl (fun x e => f228_cl e) hf (fun v5 h hf => ?_)
      refine em_wI (q_cod qk232 rfl) (by decide) hf (fun hf => ?_)
      refine ev_iload (q_cod qk232 rfl) (by decide) rfl ?_
      refine em_if_ne (q_cod qk232 rfl) (by decide) hf (fun c9 hf => ?_) (fun c9 hf => ?_)
      · refine ev_aload_n (q_cod qk232 rfl) (by decide) rfl ?_
        refine em_gR (q_cod qk232 rfl) (by decide) (by decide) hf (fun r6 hf => ?_)
        refine ev_iload_n (q_cod qk232 rfl) (by decide) rfl ?_
        refine ev_iload (q_cod qk232 rfl) (by decide) rfl ?_
        refine ev_iadd (q_cod qk232 rfl) (by decide) ?_
        refine em_lI (q_cod qk232 rfl) (by decide) hf (fun v7 hf => ?_)
        refine ev_bi (v := (-9)) (q_cod qk232 rfl) (by decide) (by decide) ?_
        refine em_ic_eq (q_cod qk232 rfl) (by decide) hf (fun c8 hf => ?_) (fun c8 hf => ?_)
        · refine ev_ic (v := 0) (q_cod qk232 rfl) (by decide) (by decide) ?_
          exact ev_weak (q_pk [0, 1, 2, 3, 4, 6] rfl) (f232_168_ok hf hK)
        · exact ev_weak (q_pk [0, 1, 2, 3, 4, 6] rfl) (f232_163_ok hf hK)
      · exact ev_weak (q_pk [0, 1, 2, 3, 4, 6] rfl) (f232_163_ok hf hK)
    · exact (f232_170_ok hf hK)
def f232_108 (l0 : Nat) (l1 : Int32) (l2 : Int32) (l3 : Int32) (l4 : Int32) (l5 : Int32) (l6 : Int32) : m_M ((Nat × Int32 × Int32 × Int32 × Int32 × Int32) ⊕ Int32) := m_W (fun s => f232_108b (s.1) (s.2.1) (s.2.2.1) (s.2.2.2.1) (s.2.2.2.2.1) (s.2.2.2.2.2.1) (s.2.2.2.2.2.2)) 1000000 (l0, l1, l2, l3, l4, l5, l6)
theorem f232_108_ok {l0 : Nat} {l1 : Int32} {l2 : Int32} {l3 : Int32} {l4 : Int32} {l5 : Int32} {l6 : Int32} {h : q_H} {o : q_O} {hz : q_H} {x : ((Nat × Int32 × Int32 × Int32 × Int32 × Int32) ⊕ Int32) × q_H} (hf : f232_108 l0 l1 l2 l3 l4 l5 l6 h = some x) (hK : (m_yK (fun (s : Nat × Int32 × Int32 × Int32 × Int32 × Int32) (h : q_H) => q_Ev none 232 94 [(0, .ref (s.1)), (1, .int (s.2.1)), (2, .int (s.2.2.1)), (3, .int (s.2.2.2.1)), (4, .int (s.2.2.2.2.1)), (5, .int (s.2.2.2.2.2))] [] h o hz) (q_KI o hz)) x) : q_Ev none 232 108 [(0, .ref l0), (1, .int l1), (2, .int l2), (3, .int l3), (4, .int l4), (5, .int l5), (6, .int l6)] [] h o hz :=
  m_W_ok (P := (fun (s : Nat × Int32 × Int32 × Int32 × Int32 × Int32 × Int32) (h : q_H) => q_Ev none 232 108 [(0, .ref (s.1)), (1, .int (s.2.1)), (2, .int (s.2.2.1)), (3, .int (s.2.2.2.1)), (4, .int (s.2.2.2.2.1)), (5, .int (s.2.2.2.2.2.1)), (6, .int (s.2.2.2.2.2.2))] [] h o hz)) (K := (m_yK (fun (s : Nat × Int32 × Int32 × Int32 × Int32 × Int32) (h : q_H) => q_Ev none 232 94 [(0, .ref (s.1)), (1, .int (s.2.1)), (2, .int (s.2.2.1)), (3, .int (s.2.2.2.1)), (4, .int (s.2.2.2.2.1)), (5, .int (s.2.2.2.2.2))] [] h o hz) (q_KI o hz))) (fun s h x h1 h2 => f232_108b_ok h1 h2) _ (l0, l1, l2, l3, l4, l5, l6) _ _ hf hK
def f232_94b (l0 : Nat) (l1 : Int32) (l2 : Int32) (l3 : Int32) (l4 : Int32) (l5 : Int32) : m_M ((Nat × Int32 × Int32 × Int32 × Int32 × Int32) ⊕ Int32) :=
  if l5 = 0 then (m_B (f232_179 l0 l1 l2 l3) (fun r => m_R (.inr r))) else (f232_108 l0 l1 l2 l3 l4 0 (l4 - 1))
theorem f232_94b_ok {l0 : Nat} {l1 : Int32} {l2 : Int32} {l3 : Int32} {l4 : Int32} {l5 : Int32} {h : q_H} {o : q_O} {hz : q_H} {x : ((Nat × Int32 × Int32 × Int32 × Int32 × Int32) ⊕ Int32) × q_H} (hf : f232_94b l0 l1 l2 l3 l4 l5 h = some x) (hK : (m_yK (fun (s : Nat × Int32 × Int32 × Int32 × Int32 × Int32) (h : q_H) => q_Ev none 232 94 [(0, .ref (s.1)), (1, .int (s.2.1)), (2, .int (s.2.2.1)), (3, .int (s.2.2.2.1)), (4, .int (s.2.2.2.2.1)), (5, .int (s.2.2.2.2.2))] [] h o hz) (q_KI o hz)) x) : q_Ev none 232 94 [(0, .ref l0), (1, .int l1), (2, .int l2), (3, .int l3), (4, .int l4), (5, .int l5)] [] h o hz := by
  unfold f232_94b at hf
  refine ev_iload (q_cod qk232 rfl) (by decide) rfl ?_
  refine em_if_eq (q_cod qk232 rfl) (by decide) hf (fun c1 hf => ?_) (fun c1 hf => ?_)
  · obtain ⟨y0, hf0, hx⟩ := m_inr_some hf
    subst hx
    exact ev_weak (q_pk [0, 1, 2, 3] rfl) (f232_179_ok hf0 hK)
  · refine ev_ic (v := 0) (q_cod qk232 rfl) (by decide) (by decide) ?_
    refine ev_is2 (L' := [(0, .ref l0), (1, .int l1), (2, .int l2), (3, .int l3), (4, .int l4), (5, .int 0)]) (q_cod qk232 rfl) (by decide) rfl ?_
    refine ev_iload (q_cod qk232 rfl) (by decide) rfl ?_
    refine ev_ic (v := 1) (q_cod qk232 rfl) (by decide) (by decide) ?_
    refine ev_isub (q_cod qk232 rfl) (by decide) ?_
    refine ev_is2 (L' := [(0, .ref l0), (1, .int l1), (2, .int l2), (3, .int l3), (4, .int l4), (5, .int 0), (6, .int (l4 - 1))]) (q_cod qk232 rfl) (by decide) rfl ?_
    exact (f232_108_ok hf hK)
def f232_94 (l0 : Nat) (l1 : Int32) (l2 : Int32) (l3 : Int32) (l4 : Int32) (l5 : Int32) : m_M Int32 := m_W (fun s => f232_94b (s.1) (s.2.1) (s.2.2.1) (s.2.2.2.1) (s.2.2.2.2.1) (s.2.2.2.2.2)) 1000000 (l0, l1, l2, l3, l4, l5)
theorem f232_94_ok {l0 : Nat} {l1 : Int32} {l2 : Int32} {l3 : Int32} {l4 : Int32} {l5 : Int32} {h : q_H} {o : q_O} {hz : q_H} {x : Int32 × q_H} (hf : f232_94 l0 l1 l2 l3 l4 l5 h = some x) (hK : (q_KI o hz) x) : q_Ev none 232 94 [(0, .ref l0), (1, .int l1), (2, .int l2), (3, .int l3), (4, .int l4), (5, .int l5)] [] h o hz :=
  m_W_ok (P := (fun (s : Nat × Int32 × Int32 × Int32 × Int32 × Int32) (h : q_H) => q_Ev none 232 94 [(0, .ref (s.1)), (1, .int (s.2.1)), (2, .int (s.2.2.1)), (3, .int (s.2.2.2.1)), (4, .int (s.2.2.2.2.1)), (5, .int (s.2.2.2.2.2))] [] h o hz)) (K := (q_KI o hz)) (fun s h x h1 h2 => f232_94b_ok h1 h2) _ (l0, l1, l2, l3, l4, l5) _ _ hf hK
def f232_91 (l0 : Nat) (l1 : Int32) (l2 : Int32) (l3 : Int32) (l4 : Int32) : m_M Int32 :=
  f232_94 l0 l1 l2 l3 l4 1
theorem f232_91_ok {l0 : Nat} {l1 : Int32} {l2 : Int32} {l3 : Int32} {l4 : Int32} {h : q_H} {o : q_O} {hz : q_H} {x : Int32 × q_H} (hf : f232_91 l0 l1 l2 l3 l4 h = some x) (hK : (q_KI o hz) x) : q_Ev none 232 91 [(0, .ref l0), (1, .int l1), (2, .int l2), (3, .int l3), (4, .int l4)] [] h o hz := by
  unfold f232_91 at hf
  refine ev_ic (v := 1) (q_cod qk232 rfl) (by decide) (by decide) ?_
  refine ev_is2 (L' := [(0, .ref l0), (1, .int l1), (2, .int l2), (3, .int l3), (4, .int l4), (5, .int 1)]) (q_cod qk232 rfl) (by decide) rfl ?_
  exact (f232_94_ok hf hK)
def f232_25b (l0 : Nat) (l1 : Int32) (l2 : Int32) (l3 : Int32) (l4 : Int32) (l5 : Int32) : m_M ((Nat × Int32 × Int32 × Int32 × Int32 × Int32) ⊕ Int32) :=
  if l5 < l4 then (m_B (m_aK l0 12) (fun _ => m_B (f199 l0 l1 l2 l5) (fun v2 => m_B (m_gR 12 l0 13) (fun r3 => if v2 = 1 then (f232_63 l0 l1 l2 l3 l4 l5 r3 (l3 + l5)) else (if v2 = 6 then (f232_63 l0 l1 l2 l3 l4 l5 r3 (l3 + l5)) else (f232_84 l0 l1 l2 l3 l4 l5 r3 (l3 + l5) (-9))))))) else (m_B (f232_91 l0 l1 l2 l3 l4) (fun r => m_R (.inr r)))
theorem f232_25b_ok {l0 : Nat} {l1 : Int32} {l2 : Int32} {l3 : Int32} {l4 : Int32} {l5 : Int32} {h : q_H} {o : q_O} {hz : q_H} {x : ((Nat × Int32 × Int32 × Int32 × Int32 × Int32) ⊕ Int32) × q_H} (hf : f232_25b l0 l1 l2 l3 l4 l5 h = some x) (hK : (m_yK (fun (s : Nat × Int32 × Int32 × Int32 × Int32 × Int32) (h : q_H) => q_Ev none 232 25 [(0, .ref (s.1)), (1, .int (s.2.1)), (2, .int (s.2.2.1)), (3, .int (s.2.2.2.1)), (4, .int (s.2.2.2.2.1)), (5, .int (s.2.2.2.2.2))] [] h o hz) (q_KI o hz)) x) : q_Ev none 232 25 [(0, .ref l0), (1, .int l1), (2, .int l2), (3, .int l3), (4, .int l4), (5, .int l5)] [] h o hz := by
  unfold f232_25b at hf
  refine ev_iload (q_cod qk232 rfl) (by decide) rfl ?_
  refine ev_iload (q_cod qk232 rfl) (by decide) rfl ?_
  refine em_ic_ge (q_cod qk232 rfl) (by decide) hf (fun c6 hf => ?_) (fun c6 hf => ?_)
  · refine ev_aload_n (q_cod qk232 rfl) (by decide) rfl ?_
    refine ev_iload_n (q_cod qk232 rfl) (by decide) rfl ?_
    refine ev_iload_n (q_cod qk232 rfl) (by decide) rfl ?_
    refine ev_iload (q_cod qk232 rfl) (by decide) rfl ?_
    obtain ⟨g1, hf⟩ := m_aK_some hf
    refine em_call (v := (fun u => some (.int u))) (q_cod qk232 rfl) rfl rfl (q_cokV rfl rfl (Or.inr g1)) rfl (fun x e => f199_cl e) hf (fun v2 h hf => ?_)
    refine ev_is2 (L' := [(0, .ref l0), (1, .int l1), (2, .int l2), (3, .int l3), (4, .int l4), (5, .int l5), (6, .int v2)]) (q_cod qk232 rfl) (by decide) rfl ?_
    refine ev_aload_n (q_cod qk232 rfl) (by decide) rfl ?_
    refine em_gR (q_cod qk232 rfl) (by decide) (by decide) hf (fun r3 hf => ?_)
    refine ev_iload_n (q_cod qk232 rfl) (by decide) rfl ?_
    refine ev_iload (q_cod qk232 rfl) (by decide) rfl ?_
    refine ev_iadd (q_cod qk232 rfl) (by decide) ?_
    refine ev_iload (q_cod qk232 rfl) (by decide) rfl ?_
    refine ev_ic (v := 1) (q_cod qk232 rfl) (by decide) (by decide) ?_
    refine em_ic_eq (q_cod qk232 rfl) (by decide) hf (fun c5 hf => ?_) (fun c5 hf => ?_)
    · exact ev_weak (q_pk [0, 1, 2, 3, 4, 5] rfl) (f232_63_ok hf hK)
    · refine ev_iload (q_cod qk232 rfl) (by decide) rfl ?_
      refine ev_bi (v := 6) (q_cod qk232 rfl) (by decide) (by decide) ?_
      refine em_ic_ne (q_cod qk232 rfl) (by decide) hf (fun c4 hf => ?_) (fun c4 hf => ?_)
      · exact ev_weak (q_pk [0, 1, 2, 3, 4, 5] rfl) (f232_63_ok hf hK)
      · refine ev_bi (v := (-9)) (q_cod qk232 rfl) (by decide) (by decide) ?_
        exact ev_weak (q_pk [0, 1, 2, 3, 4, 5] rfl) (f232_84_ok hf hK)
  · obtain ⟨y0, hf0, hx⟩ := m_inr_some hf
    subst hx
    exact ev_weak (q_pk [0, 1, 2, 3, 4] rfl) (f232_91_ok hf0 hK)
def f232_25 (l0 : Nat) (l1 : Int32) (l2 : Int32) (l3 : Int32) (l4 : Int32) (l5 : Int32) : m_M Int32 := m_W (fun s => f232_25b (s.1) (s.2.1) (s.2.2.1) (s.2.2.2.1) (s.2.2.2.2.1) (s.2.2.2.2.2)) 1000000 (l0, l1, l2, l3, l4, l5)
theorem f232_25_ok {l0 : Nat} {l1 : Int32} {l2 : Int32} {l3 : Int32} {l4 : Int32} {l5 : Int32} {h : q_H} {o : q_O} {hz : q_H} {x : Int32 × q_H} (hf : f232_25 l0 l1 l2 l3 l4 l5 h = some x) (hK : (q_KI o hz) x) : q_Ev none 232 25 [(0, .ref l0), (1, .int l1), (2, .int l2), (3, .int l3), (4, .int l4), (5, .int l5)] [] h o hz :=
  m_W_ok (P := (fun (s : Nat × Int32 × Int32 × Int32 × Int32 × Int32) (h : q_H) => q_Ev none 232 25 [(0, .ref (s.1)), (1, .int (s.2.1)), (2, .int (s.2.2.1)), (3, .int (s.2.2.2.1)), (4, .int (s.2.2.2.2.1)), (5, .int (s.2.2.2.2.2))] [] h o hz)) (K := (q_KI o hz)) (fun s h x h1 h2 => f232_25b_ok h1 h2) _ (l0, l1, l2, l3, l4, l5) _ _ hf hK
def f232 (l0 : Nat) (l1 : Int32) (l2 : Int32) : m_M Int32 :=
  m_B (m_aK l0 12) (fun _ => m_B (f224 l0 l1 l2) (fun _ => m_B (m_aK l0 12) (fun _ => m_B (f196 l0 l1 l2 9) (fun v4 => f232_25 l0 l1 l2 (192 * l2) v4 0))))
theorem f232_ok {l0 : Nat} {l1 : Int32} {l2 : Int32} {h : q_H} {o : q_O} {hz : q_H} {x : Int32 × q_H} (hf : f232 l0 l1 l2 h = some x) (hK : (q_KI o hz) x) : q_Ev none 232 0 [(0, .ref l0), (1, .int l1), (2, .int l2)] [] h o hz := by
  unfold f232 at hf
  refine ev_aload_n (q_cod qk232 rfl) (by decide) rfl ?_
  refine ev_iload_n (q_cod qk232 rfl) (by decide) rfl ?_
  refine ev_iload_n (q_cod qk232 rfl) (by decide) rfl ?_
  obtain ⟨g1, hf⟩ := m_aK_some hf
  refine em_call (v := (fun _ => none)) (q_cod qk232 rfl) rfl rfl (q_cokV rfl rfl (Or.inr g1)) rfl (fun x e => f224_cl e) hf (fun _ h hf => ?_)
  refine ev_si (v := 192) (q_cod qk232 rfl) (by decide) (by decide) ?_
  refine ev_iload_n (q_cod qk232 rfl) (by decide) rfl ?_
  refine ev_imul (q_cod qk232 rfl) (by decide) ?_
  refine ev_is1 (L' := [(0, .ref l0), (1, .int l1), (2, .int l2), (3, .int (192 * l2))]) (q_cod qk232 rfl) (by decide) rfl ?_
  refine ev_aload_n (q_cod qk232 rfl) (by decide) rfl ?_
  refine ev_iload_n (q_cod qk232 rfl) (by decide) rfl ?_
  refine ev_iload_n (q_cod qk232 rfl) (by decide) rfl ?_
  refine ev_bi (v := 9) (q_cod qk232 rfl) (by decide) (by decide) ?_
  obtain ⟨g3, hf⟩ := m_aK_some hf
  refine em_call (v := (fun u => some (.int u))) (q_cod qk232 rfl) rfl rfl (q_cokV rfl rfl (Or.inr g3)) rfl (fun x e => f196_cl e) hf (fun v4 h hf => ?_)
  refine ev_is2 (L' := [(0, .ref l0), (1, .int l1), (2, .int l2), (3, .int (192 * l2)), (4, .int v4)]) (q_cod qk232 rfl) (by decide) rfl ?_
  refine ev_ic (v := 0) (q_cod qk232 rfl) (by decide) (by decide) ?_
  refine ev_is2 (L' := [(0, .ref l0), (1, .int l1), (2, .int l2), (3, .int (192 * l2)), (4, .int v4), (5, .int 0)]) (q_cod qk232 rfl) (by decide) rfl ?_
  exact (f232_25_ok hf hK)
theorem f232_cl {l0 : Nat} {l1 : Int32} {l2 : Int32} {h : q_H} {x : Int32 × q_H} (hf : f232 l0 l1 l2 h = some x) : q_Cl 232 [.ref l0, .int l1, .int l2] h (.inl (some (.int x.1))) x.2 := q_Cl.of rfl (q_LvS rfl rfl) (f232_ok hf ⟨rfl, rfl⟩)
/-! SmithyBenchModel.isOverridden(III)Z -/
theorem qk233 : q_cs.getD 233 [] = qc_233 := rfl
def f233_112 (s0 : Int32) : m_M Int32 :=
  m_B (m_G (s0 = 0 ∨ s0 = 1)) (fun _ => m_R s0)
theorem f233_112_ok {s0 : Int32} {h : q_H} {o : q_O} {hz : q_H} {x : Int32 × q_H} (hf : f233_112 s0 h = some x) (hK : (q_KI o hz) x) : q_Ev none 233 112 [] [.int s0] h o hz := by
  unfold f233_112 at hf
  obtain ⟨g1, hf⟩ := m_G_some hf
  obtain rfl := m_R_inv hf
  obtain ⟨rfl, rfl⟩ := (show q_KI o hz (s0, _) from hK)
  exact ev_ret (q_cod qk233 rfl) (q_retZ g1)
def f233_111  : m_M Int32 :=
  f233_112 0
theorem f233_111_ok  {h : q_H} {o : q_O} {hz : q_H} {x : Int32 × q_H} (hf : f233_111 h = some x) (hK : (q_KI o hz) x) : q_Ev none 233 111 [] [] h o hz := by
  unfold f233_111 at hf
  refine ev_ic (v := 0) (q_cod qk233 rfl) (by decide) (by decide) ?_
  exact (f233_112_ok hf hK)
def f233_61 (l0 : Nat) (l1 : Int32) (l2 : Int32) (l3 : Int32) (s0 : Int32) : m_M Int32 :=
  if s0 = 0 then (f233_111) else (m_B (m_aK l0 12) (fun _ => m_B (f196 l0 l1 l2 1) (fun v2 => m_B (m_aK l0 12) (fun _ => m_B (f196 l0 l1 l3 1) (fun v4 => if v2 = v4 then (f233_111) else (m_B (m_aK l0 12) (fun _ => m_B (f196 l0 l1 l3 1) (fun v6 => m_B (m_aK l0 12) (fun _ => m_B (f196 l0 l1 l2 1) (fun v8 => m_B (m_aK l0 12) (fun _ => m_B (f208 l0 l1 v6 v8) (fun v10 => if v10 = 0 then (f233_111) else (f233_112 1)))))))))))))
theorem f233_61_ok {l0 : Nat} {l1 : Int32} {l2 : Int32} {l3 : Int32} {s0 : Int32} {h : q_H} {o : q_O} {hz : q_H} {x : Int32 × q_H} (hf : f233_61 l0 l1 l2 l3 s0 h = some x) (hK : (q_KI o hz) x) : q_Ev none 233 61 [(0, .ref l0), (1, .int l1), (2, .int l2), (3, .int l3)] [.int s0] h o hz := by
  unfold f233_61 at hf
  refine ev_is2 (L' := [(0, .ref l0), (1, .int l1), (2, .int l2), (3, .int l3), (4, .int s0)]) (q_cod qk233 rfl) (by decide) rfl ?_
  refine ev_iload (q_cod qk233 rfl) (by decide) rfl ?_
  refine em_if_eq (q_cod qk233 rfl) (by decide) hf (fun c13 hf => ?_) (fun c13 hf => ?_)
  · exact ev_weak (q_pk [] rfl) (f233_111_ok hf hK)
  · refine ev_aload_n (q_cod qk233 rfl) (by decide) rfl ?_
    refine ev_iload_n (q_cod qk233 rfl) (by decide) rfl ?_
    refine ev_iload_n (q_cod qk233 rfl) (by decide) rfl ?_
    refine ev_ic (v := 1) (q_cod qk233 rfl) (by decide) (by decide) ?_
    obtain ⟨g1, hf⟩ := m_aK_some hf
    refine em_call (v := (fun u => some (.int u))) (q_cod qk233 rfl) rfl rfl (q_cokV rfl rfl (Or.inr g1)) rfl (fun x e => f196_cl e) hf (fun v2 h hf => ?_)
    refine ev_aload_n (q_cod qk233 rfl) (by decide) rfl ?_
    refine ev_iload_n (q_cod qk233 rfl) (by decide) rfl ?_
    refine ev_iload_n (q_cod qk233 rfl) (by decide) rfl ?_
    refine ev_ic (v := 1) (q_cod qk233 rfl) (by decide) (by decide) ?_
    obtain ⟨g3, hf⟩ := m_aK_some hf
    refine em_call (v := (fun u => some (.int u))) (q_cod qk233 rfl) rfl rfl (q_cokV rfl rfl (Or.inr g3)) rfl (fun x e => f196_cl e) hf (fun v4 h hf => ?_)
    refine em_ic_eq (q_cod qk233 rfl) (by decide) hf (fun c12 hf => ?_) (fun c12 hf => ?_)
    · exact ev_weak (q_pk [] rfl) (f233_111_ok hf hK)
    · refine ev_aload_n (q_cod qk233 rfl) (by decide) rfl ?_
      refine ev_iload_n (q_cod qk233 rfl) (by decide) rfl ?_
      refine ev_aload_n (q_cod qk233 rfl) (by decide) rfl ?_
      refine ev_iload_n (q_cod qk233 rfl) (by decide) rfl ?_
      refine ev_iload_n (q_cod qk233 rfl) (by decide) rfl ?_
      refine ev_ic (v := 1) (q_cod qk233 rfl) (by decide) (by decide) ?_
      obtain ⟨g5, hf⟩ := m_aK_some hf
      refine em_call (v := (fun u => some (.int u))) (q_cod qk233 rfl) rfl rfl (q_cokV rfl rfl (Or.inr g5)) rfl (fun x e => f196_cl e) hf (fun v6 h hf => ?_)
      refine ev_aload_n (q_cod qk233 rfl) (by decide) rfl ?_
      refine ev_iload_n (q_cod qk233 rfl) (by decide) rfl ?_
      refine ev_iload_n (q_cod qk233 rfl) (by decide) rfl ?_
      refine ev_ic (v := 1) (q_cod qk233 rfl) (by decide) (by decide) ?_
      obtain ⟨g7, hf⟩ := m_aK_some hf
      refine em_call (v := (fun u => some (.int u))) (q_cod qk233 rfl) rfl rfl (q_cokV rfl rfl (Or.inr g7)) rfl (fun x e => f196_cl e) hf (fun v8 h hf => ?_)
      obtain ⟨g9, hf⟩ := m_aK_some hf
      refine em_call (v := (fun u => some (.int u))) (q_cod qk233 rfl) rfl rfl (q_cokV rfl rfl (Or.inr g9)) rfl (fun x e => f208_cl e) hf (fun v10 h hf => ?_)
      refine em_if_eq (q_cod qk233 rfl) (by decide) hf (fun c11 hf => ?_) (fun c11 hf => ?_)
      · exact ev_weak (q_pk [] rfl) (f233_111_ok hf hK)
      · refine ev_ic (v := 1) (q_cod qk233 rfl) (by decide) (by decide) ?_
        refine ev_goto (q_cod qk233 rfl) (by decide) ?_
        exact ev_weak (q_pk [] rfl) (f233_112_ok hf hK)
def f233_60 (l0 : Nat) (l1 : Int32) (l2 : Int32) (l3 : Int32) : m_M Int32 :=
  f233_61 l0 l1 l2 l3 0
theorem f233_60_ok {l0 : Nat} {l1 : Int32} {l2 : Int32} {l3 : Int32} {h : q_H} {o : q_O} {hz : q_H} {x : Int32 × q_H} (hf : f233_60 l0 l1 l2 l3 h = some x) (hK : (q_KI o hz) x) : q_Ev none 233 60 [(0, .ref l0), (1, .int l1), (2, .int l2), (3, .int l3)] [] h o hz := by
  unfold f233_60 at hf
  refine ev_ic (v := 0) (q_cod qk233 rfl) (by decide) (by decide) ?_
  exact (f233_61_ok hf hK)
def f233 (l0 : Nat) (l1 : Int32) (l2 : Int32) (l3 : Int32) : m_M Int32 :=
  m_B (m_aK l0 12) (fun _ => m_B (f196 l0 l1 l2 0) (fun v2 => if v2 = 1 then (m_B (m_aK l0 12) (fun _ => m_B (f196 l0 l1 l3 0) (fun v4 => if v4 = 1 then (m_B (m_aK l0 12) (fun _ => m_B (f196 l0 l1 l2 2) (fun v6 => m_B (m_aK l0 12) (fun _ => m_B (f196 l0 l1 l3 2) (fun v8 => if v6 = v8 then (m_B (m_aK l0 12) (fun _ => m_B (f196 l0 l1 l2 3) (fun v10 => m_B (m_aK l0 12) (fun _ => m_B (f196 l0 l1 l3 3) (fun v12 => if v10 = v12 then (f233_61 l0 l1 l2 l3 1) else (f233_60 l0 l1 l2 l3)))))) else (f233_60 l0 l1 l2 l3)))))) else (f233_60 l0 l1 l2 l3)))) else (f233_60 l0 l1 l2 l3)))
theorem f233_ok {l0 : Nat} {l1 : Int32} {l2 : Int32} {l3 : Int32} {h : q_H} {o : q_O} {hz : q_H} {x : Int32 × q_H} (hf : f233 l0 l1 l2 l3 h = some x) (hK : (q_KI o hz) x) : q_Ev none 233 0 [(0, .ref l0), (1, .int l1), (2, .int l2), (3, .int l3)] [] h o hz := by
  unfold f233 at hf
  refine ev_aload_n (q_cod qk233 rfl) (by decide) rfl ?_
  refine ev_iload_n (q_cod qk233 rfl) (by decide) rfl ?_
  refine ev_iload_n (q_cod qk233 rfl) (by decide) rfl ?_
  refine ev_ic (v := 0) (q_cod qk233 rfl) (by decide) (by decide) ?_
  obtain ⟨g1, hf⟩ := m_aK_some hf
  refine em_call (v := (fun u => some (.int u))) (q_cod qk233 rfl) rfl rfl (q_cokV rfl rfl (Or.inr g1)) rfl (fun x e => f196_cl e) hf (fun v2 h hf => ?_)
  refine ev_ic (v := 1) (q_cod qk233 rfl) (by decide) (by decide) ?_
  refine em_ic_ne (q_cod qk233 rfl) (by decide) hf (fun c16 hf => ?_) (fun c16 hf => ?_)
  · refine ev_aload_n (q_cod qk233 rfl) (by decide) rfl ?_
    refine ev_iload_n (q_cod qk233 rfl) (by decide) rfl ?_
    refine ev_iload_n (q_cod qk233 rfl) (by decide) rfl ?_
    refine ev_ic (v := 0) (q_cod qk233 rfl) (by decide) (by decide) ?_
    obtain ⟨g3, hf⟩ := m_aK_some hf
    refine em_call (v := (fun u => some (.int u))) (q_cod qk233 rfl) rfl rfl (q_cokV rfl rfl (Or.inr g3)) rfl (fun x e => f196_cl e) hf (fun v4 h hf => ?_)
    refine ev_ic (v := 1) (q_cod qk233 rfl) (by decide) (by decide) ?_
    refine em_ic_ne (q_cod qk233 rfl) (by decide) hf (fun c15 hf => ?_) (fun c15 hf => ?_)
    · refine ev_aload_n (q_cod qk233 rfl) (by decide) rfl ?_
      refine ev_iload_n (q_cod qk233 rfl) (by decide) rfl ?_
      refine ev_iload_n (q_cod qk233 rfl) (by decide) rfl ?_
      refine ev_ic (v := 2) (q_cod qk233 rfl) (by decide) (by decide) ?_
      obtain ⟨g5, hf⟩ := m_aK_some hf
      refine em_call (v := (fun u => some (.int u))) (q_cod qk233 rfl) rfl rfl (q_cokV rfl rfl (Or.inr g5)) rfl (fun x e => f196_cl e) hf (fun v6 h hf => ?_)
      refine ev_aload_n (q_cod qk233 rfl) (by decide) rfl ?_
      refine ev_iload_n (q_cod qk233 rfl) (by decide) rfl ?_
      refine ev_iload_n (q_cod qk233 rfl) (by decide) rfl ?_
      refine ev_ic (v := 2) (q_cod qk233 rfl) (by decide) (by decide) ?_
      obtain ⟨g7, hf⟩ := m_aK_some hf
      refine em_call (v := (fun u => some (.int u))) (q_cod qk233 rfl) rfl rfl (q_cokV rfl rfl (Or.inr g7)) rfl (fun x e => f196_cl e) hf (fun v8 h hf => ?_)
      refine em_ic_ne (q_cod qk233 rfl) (by decide) hf (fun c14 hf => ?_) (fun c14 hf => ?_)
      · refine ev_aload_n (q_cod qk233 rfl) (by decide) rfl ?_
        refine ev_iload_n (q_cod qk233 rfl) (by decide) rfl ?_
        refine ev_iload_n (q_cod qk233 rfl) (by decide) rfl ?_
        refine ev_ic (v := 3) (q_cod qk233 rfl) (by decide) (by decide) ?_
        obtain ⟨g9, hf⟩ := m_aK_some hf
        refine em_call (v := (fun u => some (.int u))) (q_cod qk233 rfl) rfl rfl (q_cokV rfl rfl (Or.inr g9)) rfl (fun x e => f196_cl e) hf (fun v10 h hf => ?_)
        refine ev_aload_n (q_cod qk233 rfl) (by decide) rfl ?_
        refine ev_iload_n (q_cod qk233 rfl) (by decide) rfl ?_
        refine ev_iload_n (q_cod qk233 rfl) (by decide) rfl ?_
        refine ev_ic (v := 3) (q_cod qk233 rfl) (by decide) (by decide) ?_
        obtain ⟨g11, hf⟩ := m_aK_some hf
        refine em_call (v := (fun u => some (.int u))) (q_cod qk233 rfl) rfl rfl (q_cokV rfl rfl (Or.inr g11)) rfl (fun x e => f196_cl e) hf (fun v12 h hf => ?_)
        refine em_ic_ne (q_cod qk233 rfl) (by decide) hf (fun c13 hf => ?_) (fun c13 hf => ?_)
        · refine ev_ic (v := 1) (q_cod qk233 rfl) (by decide) (by decide) ?_
          refine ev_goto (q_cod qk233 rfl) (by decide) ?_
          exact (f233_61_ok hf hK)
        · exact (f233_60_ok hf hK)
      · exact (f233_60_ok hf hK)
    · exact (f233_60_ok hf hK)
  · exact (f233_60_ok hf hK)
theorem f233_cl {l0 : Nat} {l1 : Int32} {l2 : Int32} {l3 : Int32} {h : q_H} {x : Int32 × q_H} (hf : f233 l0 l1 l2 l3 h = some x) : q_Cl 233 [.ref l0, .int l1, .int l2, .int l3] h (.inl (some (.int x.1))) x.2 := q_Cl.of rfl (q_LvS rfl rfl) (f233_ok hf ⟨rfl, rfl⟩)
/-! SmithyBenchModel.overridesRight(II)Z -/
theorem qk234 : q_cs.getD 234 [] = qc_234 := rfl
def f234_120 (l0 : Nat) (l1 : Int32) (l2 : Int32) (l3 : Int32) (l4 : Int32) : m_M ((Nat × Int32 × Int32 × Int32 × Int32) ⊕ Int32) :=
  m_R (.inl (l0, l1, l2, l3, (l4 + 1)))
theorem f234_120_ok {l0 : Nat} {l1 : Int32} {l2 : Int32} {l3 : Int32} {l4 : Int32} {h : q_H} {o : q_O} {hz : q_H} {x : ((Nat × Int32 × Int32 × Int32 × Int32) ⊕ Int32) × q_H} (hf : f234_120 l0 l1 l2 l3 l4 h = some x) (hK : (m_yK (fun (s : Nat × Int32 × Int32 × Int32 × Int32) (h : q_H) => q_Ev none 234 5 [(0, .ref (s.1)), (1, .int (s.2.1)), (2, .int (s.2.2.1)), (3, .int (s.2.2.2.1)), (4, .int (s.2.2.2.2))] [] h o hz) (q_KI o hz)) x) : q_Ev none 234 120 [(0, .ref l0), (1, .int l1), (2, .int l2), (3, .int l3), (4, .int l4)] [] h o hz := by
  unfold f234_120 at hf
  refine ev_inc (v := l4 + 1) (L' := [(0, .ref l0), (1, .int l1), (2, .int l2), (3, .int l3), (4, .int (l4 + 1))]) (q_cod qk234 rfl) (by decide) rfl rfl rfl ?_
  refine ev_goto (q_cod qk234 rfl) (by decide) ?_
  obtain rfl := m_R_inv hf
  exact (show q_Ev none 234 5 [(0, .ref l0), (1, .int l1), (2, .int l2), (3, .int l3), (4, .int (l4 + 1))] [] _ o hz from hK)
def f234_113 (l0 : Nat) (l1 : Int32) (l2 : Int32) (l4 : Int32) (l5 : Int32) (s0 : Int32) : m_M ((Nat × Int32 × Int32 × Int32 × Int32 × Int32) ⊕ ((Nat × Int32 × Int32 × Int32 × Int32) ⊕ Int32)) :=
  m_R (.inl (l0, l1, l2, s0, l4, (l5 + 1)))
theorem f234_113_ok {l0 : Nat} {l1 : Int32} {l2 : Int32} {l4 : Int32} {l5 : Int32} {s0 : Int32} {h : q_H} {o : q_O} {hz : q_H} {x : ((Nat × Int32 × Int32 × Int32 × Int32 × Int32) ⊕ ((Nat × Int32 × Int32 × Int32 × Int32) ⊕ Int32)) × q_H} (hf : f234_113 l0 l1 l2 l4 l5 s0 h = some x) (hK : (m_yK (fun (s : Nat × Int32 × Int32 × Int32 × Int32 × Int32) (h : q_H) => q_Ev none 234 66 [(0, .ref (s.1)), (1, .int (s.2.1)), (2, .int (s.2.2.1)), (3, .int (s.2.2.2.1)), (4, .int (s.2.2.2.2.1)), (5, .int (s.2.2.2.2.2))] [] h o hz) (m_yK (fun (s : Nat × Int32 × Int32 × Int32 × Int32) (h : q_H) => q_Ev none 234 5 [(0, .ref (s.1)), (1, .int (s.2.1)), (2, .int (s.2.2.1)), (3, .int (s.2.2.2.1)), (4, .int (s.2.2.2.2))] [] h o hz) (q_KI o hz))) x) : q_Ev none 234 113 [(0, .ref l0), (1, .int l1), (2, .int l2), (4, .int l4), (5, .int l5)] [.int s0] h o hz := by
  unfold f234_113 at hf
  refine ev_is1 (L' := [(0, .ref l0), (1, .int l1), (2, .int l2), (3, .int s0), (4, .int l4), (5, .int l5)]) (q_cod qk234 rfl) (by decide) rfl ?_
  refine ev_inc (v := l5 + 1) (L' := [(0, .ref l0), (1, .int l1), (2, .int l2), (3, .int s0), (4, .int l4), (5, .int (l5 + 1))]) (q_cod qk234 rfl) (by decide) rfl rfl rfl ?_
  refine ev_goto (q_cod qk234 rfl) (by decide) ?_
  obtain rfl := m_R_inv hf
  exact (show q_Ev none 234 66 [(0, .ref l0), (1, .int l1), (2, .int l2), (3, .int s0), (4, .int l4), (5, .int (l5 + 1))] [] _ o hz from hK)
def f234_112 (l0 : Nat) (l1 : Int32) (l2 : Int32) (l4 : Int32) (l5 : Int32) : m_M ((Nat × Int32 × Int32 × Int32 × Int32 × Int32) ⊕ ((Nat × Int32 × Int32 × Int32 × Int32) ⊕ Int32)) :=
  f234_113 l0 l1 l2 l4 l5 0
theorem f234_112_ok {l0 : Nat} {l1 : Int32} {l2 : Int32} {l4 : Int32} {l5 : Int32} {h : q_H} {o : q_O} {hz : q_H} {x : ((Nat × Int32 × Int32 × Int32 × Int32 × Int32) ⊕ ((Nat × Int32 × Int32 × Int32 × Int32) ⊕ Int32)) × q_H} (hf : f234_112 l0 l1 l2 l4 l5 h = some x) (hK : (m_yK (fun (s : Nat × Int32 × Int32 × Int32 × Int32 × Int32) (h : q_H) => q_Ev none 234 66 [(0, .ref (s.1)), (1, .int (s.2.1)), (2, .int (s.2.2.1)), (3, .int (s.2.2.2.1)), (4, .int (s.2.2.2.2.1)), (5, .int (s.2.2.2.2.2))] [] h o hz) (m_yK (fun (s : Nat × Int32 × Int32 × Int32 × Int32) (h : q_H) => q_Ev none 234 5 [(0, .ref (s.1)), (1, .int (s.2.1)), (2, .int (s.2.2.1)), (3, .int (s.2.2.2.1)), (4, .int (s.2.2.2.2))] [] h o hz) (q_KI o hz))) x) : q_Ev none 234 112 [(0, .ref l0), (1, .int l1), (2, .int l2), (4, .int l4), (5, .int l5)] [] h o hz := by
  unfold f234_112 at hf
  refine ev_ic (v := 0) (q_cod qk234 rfl) (by decide) (by decide) ?_
  exact (f234_113_ok hf hK)
def f234_66b (l0 : Nat) (l1 : Int32) (l2 : Int32) (l3 : Int32) (l4 : Int32) (l5 : Int32) : m_M ((Nat × Int32 × Int32 × Int32 × Int32 × Int32) ⊕ ((Nat × Int32 × Int32 × Int32 × Int32) ⊕ Int32)) :=
  m_B (m_aK l0 12) (fun _ => m_B (f196 l0 l1 l2 3) (fun v2 => if l5 < v2 then (if l3 = 0 then (f234_112 l0 l1 l2 l4 l5) else (m_B (m_aK l0 12) (fun _ => m_B (f196 l0 l1 l4 (6 + l5)) (fun v4 => m_B (m_aK l0 12) (fun _ => m_B (f196 l0 l1 l2 (6 + l5)) (fun v6 => if v4 = v6 then (f234_113 l0 l1 l2 l4 l5 1) else (f234_112 l0 l1 l2 l4 l5))))))) else (m_B (f234_120 l0 l1 l2 l3 l4) (fun r => m_R (.inr r)))))
theorem f234_66b_ok {l0 : Nat} {l1 : Int32} {l2 : Int32} {l3 : Int32} {l4 : Int32} {l5 : Int32} {h : q_H} {o : q_O} {hz : q_H} {x : ((Nat × Int32 × Int32 × Int32 × Int32 × Int32) ⊕ ((Nat × Int32 × Int32 × Int32 × Int32) ⊕ Int32)) × q_H} (hf : f234_66b l0 l1 l2 l3 l4 l5 h = some x) (hK : (m_yK (fun (s : Nat × Int32 × Int32 × Int32 × Int32 × Int32) (h : q_H) => q_Ev none 234 66 [(0, .ref (s.1)), (1, .int (s.2.1)), (2, .int (s.2.2.1)), (3, .int (s.2.2.2.1)), (4, .int (s.2.2.2.2.1)), (5, .int (s.2.2.2.2.2))] [] h o hz) (m_yK (fun (s : Nat × Int32 × Int32 × Int32 × Int32) (h : q_H) => q_Ev none 234 5 [(0, .ref (s.1)), (1, .int (s.2.1)), (2, .int (s.2.2.1)), (3, .int (s.2.2.2.1)), (4, .int (s.2.2.2.2))] [] h o hz) (q_KI o hz))) x) : q_Ev none 234 66 [(0, .ref l0), (1, .int l1), (2, .int l2), (3, .int l3), (4, .int l4), (5, .int l5)] [] h o hz := by
  unfold f234_66b at hf
  refine ev_iload (q_cod qk234 rfl) (by decide) rfl ?_
  refine ev_aload_n (q_cod qk234 rfl) (by decide) rfl ?_
  refine ev_iload_n (q_cod qk234 rfl) (by decide) rfl ?_
  refine ev_iload_n (q_cod qk234 rfl) (by decide) rfl ?_
  refine ev_ic (v := 3) (q_cod qk234 rfl) (by decide) (by decide) ?_
  obtain ⟨g1, hf⟩ := m_aK_some hf
  refine em_call (v := (fun u => some (.int u))) (q_cod qk234 rfl) rfl rfl (q_cokV rfl rfl (Or.inr g1)) rfl (fun x e => f196_cl e) hf (fun v2 h hf => ?_)
  refine em_ic_ge (q_cod qk234 rfl) (by decide) hf (fun c9 hf => ?_) (fun c9 hf => ?_)
  · refine ev_iload_n (q_cod qk234 rfl) (by decide) rfl ?_
    refine em_if_eq (q_cod qk234 rfl) (by decide) hf (fun c8 hf => ?_) (fun c8 hf => ?_)
    · exact ev_weak (q_pk [0, 1, 2, 4, 5] rfl) (f234_112_ok hf hK)
    · refine ev_aload_n (q_cod qk234 rfl) (by decide) rfl ?_
      refine ev_iload_n (q_cod qk234 rfl) (by decide) rfl ?_
      refine ev_iload (q_cod qk234 rfl) (by decide) rfl ?_
      refine ev_bi (v := 6) (q_cod qk234 rfl) (by decide) (by decide) ?_
      refine ev_iload (q_cod qk234 rfl) (by decide) rfl ?_
      refine ev_iadd (q_cod qk234 rfl) (by decide) ?_
      obtain ⟨g3, hf⟩ := m_aK_some hf
      refine em_call (v := (fun u => some (.int u))) (q_cod qk234 rfl) rfl rfl (q_cokV rfl rfl (Or.inr g3)) rfl (fun x e => f196_cl e) hf (fun v4 h hf => ?_)
      refine ev_aload_n (q_cod qk234 rfl) (by decide) rfl ?_
      refine ev_iload_n (q_cod qk234 rfl) (by decide) rfl ?_
      refine ev_iload_n (q_cod qk234 rfl) (by decide) rfl ?_
      refine ev_bi (v := 6) (q_cod qk234 rfl) (by decide) (by decide) ?_
      refine ev_iload (q_cod qk234 rfl) (by decide) rfl ?_
      refine ev_iadd (q_cod qk234 rfl) (by decide) ?_
      obtain ⟨g5, hf⟩ := m_aK_some hf
      refine em_call (v := (fun u => some (.int u))) (q_cod qk234 rfl) rfl rfl (q_cokV rfl rfl (Or.inr g5)) rfl (fun x e => f196_cl e) hf (fun v6 h hf => ?_)
      refine em_ic_ne (q_cod qk234 rfl) (by decide) hf (fun c7 hf => ?_) (fun c7 hf => ?_)
      · refine ev_ic (v := 1) (q_cod qk234 rfl) (by decide) (by decide) ?_
        refine ev_goto (q_cod qk234 rfl) (by decide) ?_
        exact ev_weak (q_pk [0, 1, 2, 4, 5] rfl) (f234_113_ok hf hK)
      · exact ev_weak (q_pk [0, 1, 2, 4, 5] rfl) (f234_112_ok hf hK)
  · obtain ⟨y0, hf0, hx⟩ := m_inr_some hf
    subst hx
    exact ev_weak (q_pk [0, 1, 2, 3, 4] rfl) (f234_120_ok hf0 hK)
def f234_66 (l0 : Nat) (l1 : Int32) (l2 : Int32) (l3 : Int32) (l4 : Int32) (l5 : Int32) : m_M ((Nat × Int32 × Int32 × Int32 × Int32) ⊕ Int32) := m_W (fun s => f234_66b (s.1) (s.2.1) (s.2.2.1) (s.2.2.2.1) (s.2.2.2.2.1) (s.2.2.2.2.2)) 1000000 (l0, l1, l2, l3, l4, l5)
theorem f234_66_ok {l0 : Nat} {l1 : Int32} {l2 : Int32} {l3 : Int32} {l4 : Int32} {l5 : Int32} {h : q_H} {o : q_O} {hz : q_H} {x : ((Nat × Int32 × Int32 × Int32 × Int32) ⊕ Int32) × q_H} (hf : f234_66 l0 l1 l2 l3 l4 l5 h = some x) (hK : (m_yK (fun (s : Nat × Int32 × Int32 × Int32 × Int32) (h : q_H) => q_Ev none 234 5 [(0, .ref (s.1)), (1, .int (s.2.1)), (2, .int (s.2.2.1)), (3, .int (s.2.2.2.1)), (4, .int (s.2.2.2.2))] [] h o hz) (q_KI o hz)) x) : q_Ev none 234 66 [(0, .ref l0), (1, .int l1), (2, .int l2), (3, .int l3), (4, .int l4), (5, .int l5)] [] h o hz :=
  m_W_ok (P := (fun (s : Nat × Int32 × Int32 × Int32 × Int32 × Int32) (h : q_H) => q_Ev none 234 66 [(0, .ref (s.1)), (1, .int (s.2.1)), (2, .int (s.2.2.1)), (3, .int (s.2.2.2.1)), (4, .int (s.2.2.2.2.1)), (5, .int (s.2.2.2.2.2))] [] h o hz)) (K := (m_yK (fun (s : Nat × Int32 × Int32 × Int32 × Int32) (h : q_H) => q_Ev none 234 5 [(0, .ref (s.1)), (1, .int (s.2.1)), (2, .int (s.2.2.1)), (3, .int (s.2.2.2.1)), (4, .int (s.2.2.2.2))] [] h o hz) (q_KI o hz))) (fun s h x h1 h2 => f234_66b_ok h1 h2) _ (l0, l1, l2, l3, l4, l5) _ _ hf hK
def f234_62 (l0 : Nat) (l1 : Int32) (l2 : Int32) (l4 : Int32) (s0 : Int32) : m_M ((Nat × Int32 × Int32 × Int32 × Int32) ⊕ Int32) :=
  f234_66 l0 l1 l2 s0 l4 0
theorem f234_62_ok {l0 : Nat} {l1 : Int32} {l2 : Int32} {l4 : Int32} {s0 : Int32} {h : q_H} {o : q_O} {hz : q_H} {x : ((Nat × Int32 × Int32 × Int32 × Int32) ⊕ Int32) × q_H} (hf : f234_62 l0 l1 l2 l4 s0 h = some x) (hK : (m_yK (fun (s : Nat × Int32 × Int32 × Int32 × Int32) (h : q_H) => q_Ev none 234 5 [(0, .ref (s.1)), (1, .int (s.2.1)), (2, .int (s.2.2.1)), (3, .int (s.2.2.2.1)), (4, .int (s.2.2.2.2))] [] h o hz) (q_KI o hz)) x) : q_Ev none 234 62 [(0, .ref l0), (1, .int l1), (2, .int l2), (4, .int l4)] [.int s0] h o hz := by
  unfold f234_62 at hf
  refine ev_is1 (L' := [(0, .ref l0), (1, .int l1), (2, .int l2), (3, .int s0), (4, .int l4)]) (q_cod qk234 rfl) (by decide) rfl ?_
  refine ev_ic (v := 0) (q_cod qk234 rfl) (by decide) (by decide) ?_
  refine ev_is2 (L' := [(0, .ref l0), (1, .int l1), (2, .int l2), (3, .int s0), (4, .int l4), (5, .int 0)]) (q_cod qk234 rfl) (by decide) rfl ?_
  exact (f234_66_ok hf hK)
def f234_61 (l0 : Nat) (l1 : Int32) (l2 : Int32) (l4 : Int32) : m_M ((Nat × Int32 × Int32 × Int32 × Int32) ⊕ Int32) :=
  f234_62 l0 l1 l2 l4 0
theorem f234_61_ok {l0 : Nat} {l1 : Int32} {l2 : Int32} {l4 : Int32} {h : q_H} {o : q_O} {hz : q_H} {x : ((Nat × Int32 × Int32 × Int32 × Int32) ⊕ Int32) × q_H} (hf : f234_61 l0 l1 l2 l4 h = some x) (hK : (m_yK (fun (s : Nat × Int32 × Int32 × Int32 × Int32) (h : q_H) => q_Ev none 234 5 [(0, .ref (s.1)), (1, .int (s.2.1)), (2, .int (s.2.2.1)), (3, .int (s.2.2.2.1)), (4, .int (s.2.2.2.2))] [] h o hz) (q_KI o hz)) x) : q_Ev none 234 61 [(0, .ref l0), (1, .int l1), (2, .int l2), (4, .int l4)] [] h o hz := by
  unfold f234_61 at hf
  refine ev_ic (v := 0) (q_cod qk234 rfl) (by decide) (by decide) ?_
  exact (f234_62_ok hf hK)
def f234_126 (l3 : Int32) : m_M Int32 :=
  m_B (m_G (l3 = 0 ∨ l3 = 1)) (fun _ => m_R l3)
theorem f234_126_ok {l3 : Int32} {h : q_H} {o : q_O} {hz : q_H} {x : Int32 × q_H} (hf : f234_126 l3 h = some x) (hK : (q_KI o hz) x) : q_Ev none 234 126 [(3, .int l3)] [] h o hz := by
  unfold f234_126 at hf
  refine ev_iload_n (q_cod qk234 rfl) (by decide) rfl ?_
  obtain ⟨g1, hf⟩ := m_G_some hf
  obtain rfl := m_R_inv hf
  obtain ⟨rfl, rfl⟩ := (show q_KI o hz (l3, _) from hK)
  exact ev_ret (q_cod qk234 rfl) (q_retZ g1)
def f234_5b (l0 : Nat) (l1 : Int32) (l2 : Int32) (l3 : Int32) (l4 : Int32) : m_M ((Nat × Int32 × Int32 × Int32 × Int32) ⊕ Int32) :=
  m_B (m_gR 12 l0 1) (fun r1 => m_B (m_lI r1 ((14200 * l1) + 1)) (fun v2 => if l4 < v2 then (m_B (m_aK l0 12) (fun _ => m_B (f233 l0 l1 l4 l2) (fun v4 => if v4 = 0 then (f234_120 l0 l1 l2 l3 l4) else (if l3 = 0 then (f234_61 l0 l1 l2 l4) else (m_B (m_aK l0 12) (fun _ => m_B (f196 l0 l1 l4 8) (fun v6 => m_B (m_aK l0 12) (fun _ => m_B (f196 l0 l1 l2 8) (fun v8 => if v6 = v8 then (f234_62 l0 l1 l2 l4 1) else (f234_61 l0 l1 l2 l4)))))))))) else (m_B (f234_126 l3) (fun r => m_R (.inr r)))))
theorem f234_5b_ok {l0 : Nat} {l1 : Int32} {l2 : Int32} {l3 : Int32} {l4 : Int32} {h : q_H} {o : q_O} {hz : q_H} {x : ((Nat × Int32 × Int32 × Int32 × Int32) ⊕ Int32) × q_H} (hf : f234_5b l0 l1 l2 l3 l4 h = some x) (hK : (m_yK (fun (s : Nat × Int32 × Int32 × Int32 × Int32) (h : q_H) => q_Ev none 234 5 [(0, .ref (s.1)), (1, .int (s.2.1)), (2, .int (s.2.2.1)), (3, .int (s.2.2.2.1)), (4, .int (s.2.2.2.2))] [] h o hz) (q_KI o hz)) x) : q_Ev none 234 5 [(0, .ref l0), (1, .int l1), (2, .int l2), (3, .int l3), (4, .int l4)] [] h o hz := by
  unfold f234_5b at hf
  refine ev_iload (q_cod qk234 rfl) (by decide) rfl ?_
  refine ev_aload_n (q_cod qk234 rfl) (by decide) rfl ?_
  refine em_gR (q_cod qk234 rfl) (by decide) (by decide) hf (fun r1 hf => ?_)
  refine ev_si (v := 14200) (q_cod qk234 rfl) (by decide) (by decide) ?_
  refine ev_iload_n (q_cod qk234 rfl) (by decide) rfl ?_
  refine ev_imul (q_cod qk234 rfl) (by decide) ?_
  refine ev_ic (v := 1) (q_cod qk234 rfl) (by decide) (by decide) ?_
  refine ev_iadd (q_cod qk234 rfl) (by decide) ?_
  refine em_lI (q_cod qk234 rfl) (by decide) hf (fun v2 hf => ?_)
  refine em_ic_ge (q_cod qk234 rfl) (by decide) hf (fun c12 hf => ?_) (fun c12 hf => ?_)
  · refine ev_aload_n (q_cod qk234 rfl) (by decide) rfl ?_
    refine ev_iload_n (q_cod qk234 rfl) (by decide) rfl ?_
    refine ev_iload (q_cod qk234 rfl) (by decide) rfl ?_
    refine ev_iload_n (q_cod qk234 rfl) (by decide) rfl ?_
    obtain ⟨g3, hf⟩ := m_aK_some hf
    refine em_call (v := (fun u => some (.int u))) (q_cod qk234 rfl) rfl rfl (q_cokV rfl rfl (Or.inr g3)) rfl (fun x e => f233_cl e) hf (fun v4 h hf => ?_)
    refine em_if_eq (q_cod qk234 rfl) (by decide) hf (fun c11 hf => ?_) (fun c11 hf => ?_)
    · exact (f234_120_ok hf hK)
    · refine ev_iload_n (q_cod qk234 rfl) (by decide) rfl ?_
      refine em_if_eq (q_cod qk234 rfl) (by decide) hf (fun c10 hf => ?_) (fun c10 hf => ?_)
      · exact ev_weak (q_pk [0, 1, 2, 4] rfl) (f234_61_ok hf hK)
      · refine ev_aload_n (q_cod qk234 rfl) (by decide) rfl ?_
        refine ev_iload_n (q_cod qk234 rfl) (by decide) rfl ?_
        refine ev_iload (q_cod qk234 rfl) (by decide) rfl ?_
        refine ev_bi (v := 8) (q_cod qk234 rfl) (by decide) (by decide) ?_
        obtain ⟨g5, hf⟩ := m_aK_some hf
        refine em_call (v := (fun u => some (.int u))) (q_cod qk234 rfl) rfl rfl (q_cokV rfl rfl (Or.inr g5)) rfl (fun x e => f196_cl e) hf (fun v6 h hf => ?_)
        refine ev_aload_n (q_cod qk234 rfl) (by decide) rfl ?_
        refine ev_iload_n (q_cod qk234 rfl) (by decide) rfl ?_
        refine ev_iload_n (q_cod qk234 rfl) (by decide) rfl ?_
        refine ev_bi (v := 8) (q_cod qk234 rfl) (by decide) (by decide) ?_
        obtain ⟨g7, hf⟩ := m_aK_some hf
        refine em_call (v := (fun u => some (.int u))) (q_cod qk234 rfl) rfl rfl (q_cokV rfl rfl (Or.inr g7)) rfl (fun x e => f196_cl e) hf (fun v8 h hf => ?_)
        refine em_ic_ne (q_cod qk234 rfl) (by decide) hf (fun c9 hf => ?_) (fun c9 hf => ?_)
        · refine ev_ic (v := 1) (q_cod qk234 rfl) (by decide) (by decide) ?_
          refine ev_goto (q_cod qk234 rfl) (by decide) ?_
          exact ev_weak (q_pk [0, 1, 2, 4] rfl) (f234_62_ok hf hK)
        · exact ev_weak (q_pk [0, 1, 2, 4] rfl) (f234_61_ok hf hK)
  · obtain ⟨y0, hf0, hx⟩ := m_inr_some hf
    subst hx
    exact ev_weak (q_pk [3] rfl) (f234_126_ok hf0 hK)
def f234_5 (l0 : Nat) (l1 : Int32) (l2 : Int32) (l3 : Int32) (l4 : Int32) : m_M Int32 := m_W (fun s => f234_5b (s.1) (s.2.1) (s.2.2.1) (s.2.2.2.1) (s.2.2.2.2)) 1000000 (l0, l1, l2, l3, l4)
theorem f234_5_ok {l0 : Nat} {l1 : Int32} {l2 : Int32} {l3 : Int32} {l4 : Int32} {h : q_H} {o : q_O} {hz : q_H} {x : Int32 × q_H} (hf : f234_5 l0 l1 l2 l3 l4 h = some x) (hK : (q_KI o hz) x) : q_Ev none 234 5 [(0, .ref l0), (1, .int l1), (2, .int l2), (3, .int l3), (4, .int l4)] [] h o hz :=
  m_W_ok (P := (fun (s : Nat × Int32 × Int32 × Int32 × Int32) (h : q_H) => q_Ev none 234 5 [(0, .ref (s.1)), (1, .int (s.2.1)), (2, .int (s.2.2.1)), (3, .int (s.2.2.2.1)), (4, .int (s.2.2.2.2))] [] h o hz)) (K := (q_KI o hz)) (fun s h x h1 h2 => f234_5b_ok h1 h2) _ (l0, l1, l2, l3, l4) _ _ hf hK
def f234 (l0 : Nat) (l1 : Int32) (l2 : Int32) : m_M Int32 :=
  f234_5 l0 l1 l2 1 0
theorem f234_ok {l0 : Nat} {l1 : Int32} {l2 : Int32} {h : q_H} {o : q_O} {hz : q_H} {x : Int32 × q_H} (hf : f234 l0 l1 l2 h = some x) (hK : (q_KI o hz) x) : q_Ev none 234 0 [(0, .ref l0), (1, .int l1), (2, .int l2)] [] h o hz := by
  unfold f234 at hf
  refine ev_ic (v := 1) (q_cod qk234 rfl) (by decide) (by decide) ?_
  refine ev_is1 (L' := [(0, .ref l0), (1, .int l1), (2, .int l2), (3, .int 1)]) (q_cod qk234 rfl) (by decide) rfl ?_
  refine ev_ic (v := 0) (q_cod qk234 rfl) (by decide) (by decide) ?_
  refine ev_is2 (L' := [(0, .ref l0), (1, .int l1), (2, .int l2), (3, .int 1), (4, .int 0)]) (q_cod qk234 rfl) (by decide) rfl ?_
  exact (f234_5_ok hf hK)
theorem f234_cl {l0 : Nat} {l1 : Int32} {l2 : Int32} {h : q_H} {x : Int32 × q_H} (hf : f234 l0 l1 l2 h = some x) : q_Cl 234 [.ref l0, .int l1, .int l2] h (.inl (some (.int x.1))) x.2 := q_Cl.of rfl (q_LvS rfl rfl) (f234_ok hf ⟨rfl, rfl⟩)
/-! SmithyBenchModel.lookAll(I)I -/
theorem qk235 : q_cs.getD 235 [] = qc_235 := rfl
def f235_66 (l2 : Int32) : m_M Int32 :=
  m_R l2
theorem f235_66_ok {l2 : Int32} {h : q_H} {o : q_O} {hz : q_H} {x : Int32 × q_H} (hf : f235_66 l2 h = some x) (hK : (q_KI o hz) x) : q_Ev none 235 66 [(2, .int l2)] [] h o hz := by
  unfold f235_66 at hf
  refine ev_iload_n (q_cod qk235 rfl) (by decide) rfl ?_
  obtain rfl := m_R_inv hf
  obtain ⟨rfl, rfl⟩ := (show q_KI o hz (l2, _) from hK)
  exact ev_ret (q_cod qk235 rfl) rfl
def f235_60 (l0 : Nat) (l1 : Int32) (l2 : Int32) (l3 : Int32) : m_M ((Nat × Int32 × Int32 × Int32) ⊕ Int32) :=
  m_R (.inl (l0, l1, l2, (l3 + (-1))))
theorem f235_60_ok {l0 : Nat} {l1 : Int32} {l2 : Int32} {l3 : Int32} {h : q_H} {o : q_O} {hz : q_H} {x : ((Nat × Int32 × Int32 × Int32) ⊕ Int32) × q_H} (hf : f235_60 l0 l1 l2 l3 h = some x) (hK : (m_yK (fun (s : Nat × Int32 × Int32 × Int32) (h : q_H) => q_Ev none 235 17 [(0, .ref (s.1)), (1, .int (s.2.1)), (2, .int (s.2.2.1)), (3, .int (s.2.2.2))] [] h o hz) (q_KI o hz)) x) : q_Ev none 235 60 [(0, .ref l0), (1, .int l1), (2, .int l2), (3, .int l3)] [] h o hz := by
  unfold f235_60 at hf
  refine ev_inc (v := l3 + (-1)) (L' := [(0, .ref l0), (1, .int l1), (2, .int l2), (3, .int (l3 + (-1)))]) (q_cod qk235 rfl) (by decide) rfl rfl rfl ?_
  refine ev_goto (q_cod qk235 rfl) (by decide) ?_
  obtain rfl := m_R_inv hf
  exact (show q_Ev none 235 17 [(0, .ref l0), (1, .int l1), (2, .int l2), (3, .int (l3 + (-1)))] [] _ o hz from hK)
def f235_59 (l0 : Nat) (l1 : Int32) (l3 : Int32) (s0 : Int32) : m_M ((Nat × Int32 × Int32 × Int32) ⊕ Int32) :=
  f235_60 l0 l1 s0 l3
theorem f235_59_ok {l0 : Nat} {l1 : Int32} {l3 : Int32} {s0 : Int32} {h : q_H} {o : q_O} {hz : q_H} {x : ((Nat × Int32 × Int32 × Int32) ⊕ Int32) × q_H} (hf : f235_59 l0 l1 l3 s0 h = some x) (hK : (m_yK (fun (s : Nat × Int32 × Int32 × Int32) (h : q_H) => q_Ev none 235 17 [(0, .ref (s.1)), (1, .int (s.2.1)), (2, .int (s.2.2.1)), (3, .int (s.2.2.2))] [] h o hz) (q_KI o hz)) x) : q_Ev none 235 59 [(0, .ref l0), (1, .int l1), (3, .int l3)] [.int s0] h o hz := by
  unfold f235_59 at hf
  refine ev_is1 (L' := [(0, .ref l0), (1, .int l1), (2, .int s0), (3, .int l3)]) (q_cod qk235 rfl) (by decide) rfl ?_
  exact (f235_60_ok hf hK)
def f235_58 (l0 : Nat) (l1 : Int32) (l3 : Int32) : m_M ((Nat × Int32 × Int32 × Int32) ⊕ Int32) :=
  f235_59 l0 l1 l3 l3
theorem f235_58_ok {l0 : Nat} {l1 : Int32} {l3 : Int32} {h : q_H} {o : q_O} {hz : q_H} {x : ((Nat × Int32 × Int32 × Int32) ⊕ Int32) × q_H} (hf : f235_58 l0 l1 l3 h = some x) (hK : (m_yK (fun (s : Nat × Int32 × Int32 × Int32) (h : q_H) => q_Ev none 235 17 [(0, .ref (s.1)), (1, .int (s.2.1)), (2, .int (s.2.2.1)), (3, .int (s.2.2.2))] [] h o hz) (q_KI o hz)) x) : q_Ev none 235 58 [(0, .ref l0), (1, .int l1), (3, .int l3)] [] h o hz := by
  unfold f235_58 at hf
  refine ev_iload_n (q_cod qk235 rfl) (by decide) rfl ?_
  exact (f235_59_ok hf hK)
def f235_17b (l0 : Nat) (l1 : Int32) (l2 : Int32) (l3 : Int32) : m_M ((Nat × Int32 × Int32 × Int32) ⊕ Int32) :=
  if l3 < 0 then (m_B (f235_66 l2) (fun r => m_R (.inr r))) else (m_B (m_aK l0 12) (fun _ => m_B (f196 l0 l1 l3 0) (fun v2 => if v2 = 1 then (m_B (m_aK l0 12) (fun _ => m_B (f232 l0 l1 l3) (fun v4 => if v4 = 0 then (f235_58 l0 l1 l3) else (m_B (m_aK l0 12) (fun _ => m_B (f234 l0 l1 l3) (fun v6 => if v6 = 0 then (f235_58 l0 l1 l3) else (f235_59 l0 l1 l3 l2))))))) else (f235_60 l0 l1 l2 l3))))
theorem f235_17b_ok {l0 : Nat} {l1 : Int32} {l2 : Int32} {l3 : Int32} {h : q_H} {o : q_O} {hz : q_H} {x : ((Nat × Int32 × Int32 × Int32) ⊕ Int32) × q_H} (hf : f235_17b l0 l1 l2 l3 h = some x) (hK : (m_yK (fun (s : Nat × Int32 × Int32 × Int32) (h : q_H) => q_Ev none 235 17 [(0, .ref (s.1)), (1, .int (s.2.1)), (2, .int (s.2.2.1)), (3, .int (s.2.2.2))] [] h o hz) (q_KI o hz)) x) : q_Ev none 235 17 [(0, .ref l0), (1, .int l1), (2, .int l2), (3, .int l3)] [] h o hz := by
  unfold f235_17b at hf
  refine ev_iload_n (q_cod qk235 rfl) (by decide) rfl ?_
  refine em_if_lt (q_cod qk235 rfl) (by decide) hf (fun c10 hf => ?_) (fun c10 hf => ?_)
  · obtain ⟨y0, hf0, hx⟩ := m_inr_some hf
    subst hx
    exact ev_weak (q_pk [2] rfl) (f235_66_ok hf0 hK)
  · refine ev_aload_n (q_cod qk235 rfl) (by decide) rfl ?_
    refine ev_iload_n (q_cod qk235 rfl) (by decide) rfl ?_
    refine ev_iload_n (q_cod qk235 rfl) (by decide) rfl ?_
    refine ev_ic (v := 0) (q_cod qk235 rfl) (by decide) (by decide) ?_
    obtain ⟨g1, hf⟩ := m_aK_some hf
    refine em_call (v := (fun u => some (.int u))) (q_cod qk235 rfl) rfl rfl (q_cokV rfl rfl (Or.inr g1)) rfl (fun x e => f196_cl e) hf (fun v2 h hf => ?_)
    refine ev_ic (v := 1) (q_cod qk235 rfl) (by decide) (by decide) ?_
    refine em_ic_ne (q_cod qk235 rfl) (by decide) hf (fun c9 hf => ?_) (fun c9 hf => ?_)
    · refine ev_aload_n (q_cod qk235 rfl) (by decide) rfl ?_
      refine ev_iload_n (q_cod qk235 rfl) (by decide) rfl ?_
      refine ev_iload_n (q_cod qk235 rfl) (by decide) rfl ?_
      obtain ⟨g3, hf⟩ := m_aK_some hf
      refine em_call (v := (fun u => some (.int u))) (q_cod qk235 rfl) rfl rfl (q_cokV rfl rfl (Or.inr g3)) rfl (fun x e => f232_cl e) hf (fun v4 h hf => ?_)
      refine ev_is2 (L' := [(0, .ref l0), (1, .int l1), (2, .int l2), (3, .int l3), (4, .int v4)]) (q_cod qk235 rfl) (by decide) rfl ?_
      refine ev_iload (q_cod qk235 rfl) (by decide) rfl ?_
      refine em_if_eq (q_cod qk235 rfl) (by decide) hf (fun c8 hf => ?_) (fun c8 hf => ?_)
      · exact ev_weak (q_pk [0, 1, 3] rfl) (f235_58_ok hf hK)
      · refine ev_aload_n (q_cod qk235 rfl) (by decide) rfl ?_
        refine ev_iload_n (q_cod qk235 rfl) (by decide) rfl ?_
        refine ev_iload_n (q_cod qk235 rfl) (by decide) rfl ?_
        obtain ⟨g5, hf⟩ := m_aK_some hf
        refine em_call (v := (fun u => some (.int u))) (q_cod qk235 rfl) rfl rfl (q_cokV rfl rfl (Or.inr g5)) rfl (fun x e => f234_cl e) hf (fun v6 h hf => ?_)
        refine em_if_eq (q_cod qk235 rfl) (by decide) hf (fun c7 hf => ?_) (fun c7 hf => ?_)
        · exact ev_weak (q_pk [0, 1, 3] rfl) (f235_58_ok hf hK)
        · refine ev_iload_n (q_cod qk235 rfl) (by decide) rfl ?_
          refine ev_goto (q_cod qk235 rfl) (by decide) ?_
          exact ev_weak (q_pk [0, 1, 3] rfl) (f235_59_ok hf hK)
    · exact (f235_60_ok hf hK)
def f235_17 (l0 : Nat) (l1 : Int32) (l2 : Int32) (l3 : Int32) : m_M Int32 := m_W (fun s => f235_17b (s.1) (s.2.1) (s.2.2.1) (s.2.2.2)) 1000000 (l0, l1, l2, l3)
theorem f235_17_ok {l0 : Nat} {l1 : Int32} {l2 : Int32} {l3 : Int32} {h : q_H} {o : q_O} {hz : q_H} {x : Int32 × q_H} (hf : f235_17 l0 l1 l2 l3 h = some x) (hK : (q_KI o hz) x) : q_Ev none 235 17 [(0, .ref l0), (1, .int l1), (2, .int l2), (3, .int l3)] [] h o hz :=
  m_W_ok (P := (fun (s : Nat × Int32 × Int32 × Int32) (h : q_H) => q_Ev none 235 17 [(0, .ref (s.1)), (1, .int (s.2.1)), (2, .int (s.2.2.1)), (3, .int (s.2.2.2))] [] h o hz)) (K := (q_KI o hz)) (fun s h x h1 h2 => f235_17b_ok h1 h2) _ (l0, l1, l2, l3) _ _ hf hK
def f235 (l0 : Nat) (l1 : Int32) : m_M Int32 :=
  m_B (m_gR 12 l0 1) (fun r1 => m_B (m_lI r1 ((14200 * l1) + 1)) (fun v2 => f235_17 l0 l1 (-1) (v2 - 1)))
theorem f235_ok {l0 : Nat} {l1 : Int32} {h : q_H} {o : q_O} {hz : q_H} {x : Int32 × q_H} (hf : f235 l0 l1 h = some x) (hK : (q_KI o hz) x) : q_Ev none 235 0 [(0, .ref l0), (1, .int l1)] [] h o hz := by
  unfold f235 at hf
  refine ev_ic (v := (-1)) (q_cod qk235 rfl) (by decide) (by decide) ?_
  refine ev_is1 (L' := [(0, .ref l0), (1, .int l1), (2, .int (-1))]) (q_cod qk235 rfl) (by decide) rfl ?_
  refine ev_aload_n (q_cod qk235 rfl) (by decide) rfl ?_
  refine em_gR (q_cod qk235 rfl) (by decide) (by decide) hf (fun r1 hf => ?_)
  refine ev_si (v := 14200) (q_cod qk235 rfl) (by decide) (by decide) ?_
  refine ev_iload_n (q_cod qk235 rfl) (by decide) rfl ?_
  refine ev_imul (q_cod qk235 rfl) (by decide) ?_
  refine ev_ic (v := 1) (q_cod qk235 rfl) (by decide) (by decide) ?_
  refine ev_iadd (q_cod qk235 rfl) (by decide) ?_
  refine em_lI (q_cod qk235 rfl) (by decide) hf (fun v2 hf => ?_)
  refine ev_ic (v := 1) (q_cod qk235 rfl) (by decide) (by decide) ?_
  refine ev_isub (q_cod qk235 rfl) (by decide) ?_
  refine ev_is1 (L' := [(0, .ref l0), (1, .int l1), (2, .int (-1)), (3, .int (v2 - 1))]) (q_cod qk235 rfl) (by decide) rfl ?_
  exact (f235_17_ok hf hK)
theorem f235_cl {l0 : Nat} {l1 : Int32} {h : q_H} {x : Int32 × q_H} (hf : f235 l0 l1 h = some x) : q_Cl 235 [.ref l0, .int l1] h (.inl (some (.int x.1))) x.2 := q_Cl.of rfl (q_LvS rfl rfl) (f235_ok hf ⟨rfl, rfl⟩)
/-! SmithyBenchModel.wrong()I -/
theorem qk236 : q_cs.getD 236 [] = qc_236 := rfl
def f236 (l0 : Nat) : m_M Int32 :=
  m_B (m_pI 12 l0 0 0) (fun _ => m_B (m_aK l0 12) (fun _ => m_B (f235 l0 0) (fun v2 => m_R v2)))
theorem f236_ok {l0 : Nat} {h : q_H} {o : q_O} {hz : q_H} {x : Int32 × q_H} (hf : f236 l0 h = some x) (hK : (q_KI o hz) x) : q_Ev none 236 0 [(0, .ref l0)] [] h o hz := by
  unfold f236 at hf
  refine ev_aload_n (q_cod qk236 rfl) (by decide) rfl ?_
  refine ev_ic (v := 0) (q_cod qk236 rfl) (by decide) (by decide) ?_
  refine em_pI (q_cod qk236 rfl) (by decide) (by decide) (by decide) hf (fun hf => ?_)
  refine ev_aload_n (q_cod qk236 rfl) (by decide) rfl ?_
  refine ev_ic (v := 0) (q_cod qk236 rfl) (by decide) (by decide) ?_
  obtain ⟨g1, hf⟩ := m_aK_some hf
  refine em_call (v := (fun u => some (.int u))) (q_cod qk236 rfl) rfl rfl (q_cokV rfl rfl (Or.inr g1)) rfl (fun x e => f235_cl e) hf (fun v2 h hf => ?_)
  obtain rfl := m_R_inv hf
  obtain ⟨rfl, rfl⟩ := (show q_KI o hz (v2, _) from hK)
  exact ev_ret (q_cod qk236 rfl) rfl
theorem f236_cl {l0 : Nat} {h : q_H} {x : Int32 × q_H} (hf : f236 l0 h = some x) : q_Cl 236 [.ref l0] h (.inl (some (.int x.1))) x.2 := q_Cl.of rfl (q_LvS rfl rfl) (f236_ok hf ⟨rfl, rfl⟩)
/-! SmithyBenchModel.begin()I -/
theorem qk237 : q_cs.getD 237 [] = qc_237 := rfl
def f237_69 (l1 : Int32) : m_M Int32 :=
  m_R l1
theorem f237_69_ok {l1 : Int32} {h : q_H} {o : q_O} {hz : q_H} {x : Int32 × q_H} (hf : f237_69 l1 h = some x) (hK : (q_KI o hz) x) : q_Ev none 237 69 [(1, .int l1)] [] h o hz := by
  unfold f237_69 at hf
  refine ev_iload_n (q_cod qk237 rfl) (by decide) rfl ?_
  obtain rfl := m_R_inv hf
  obtain ⟨rfl, rfl⟩ := (show q_KI o hz (l1, _) from hK)
  exact ev_ret (q_cod qk237 rfl) rfl
def f237_43b (l0 : Nat) (l1 : Int32) (l2 : Int32) : m_M ((Nat × Int32 × Int32) ⊕ Int32) :=
  m_B (m_gR 12 l0 1) (fun r1 => m_B (m_lI r1 1) (fun v2 => if l2 < v2 then (m_B (m_aK l0 12) (fun _ => m_B (f196 l0 0 l2 0) (fun v4 => m_R (.inl (l0, (l1 + v4), (l2 + 1)))))) else (m_B (f237_69 l1) (fun r => m_R (.inr r)))))
theorem f237_43b_ok {l0 : Nat} {l1 : Int32} {l2 : Int32} {h : q_H} {o : q_O} {hz : q_H} {x : ((Nat × Int32 × Int32) ⊕ Int32) × q_H} (hf : f237_43b l0 l1 l2 h = some x) (hK : (m_yK (fun (s : Nat × Int32 × Int32) (h : q_H) => q_Ev none 237 43 [(0, .ref (s.1)), (1, .int (s.2.1)), (2, .int (s.2.2))] [] h o hz) (q_KI o hz)) x) : q_Ev none 237 43 [(0, .ref l0), (1, .int l1), (2, .int l2)] [] h o hz := by
  unfold f237_43b at hf
  refine ev_iload_n (q_cod qk237 rfl) (by decide) rfl ?_
  refine ev_aload_n (q_cod qk237 rfl) (by decide) rfl ?_
  refine em_gR (q_cod qk237 rfl) (by decide) (by decide) hf (fun r1 hf => ?_)
  refine ev_ic (v := 1) (q_cod qk237 rfl) (by decide) (by decide) ?_
  refine em_lI (q_cod qk237 rfl) (by decide) hf (fun v2 hf => ?_)
  refine em_ic_ge (q_cod qk237 rfl) (by decide) hf (fun c5 hf => ?_) (fun c5 hf => ?_)
  · refine ev_iload_n (q_cod qk237 rfl) (by decide) rfl ?_
    refine ev_aload_n (q_cod qk237 rfl) (by decide) rfl ?_
    refine ev_ic (v := 0) (q_cod qk237 rfl) (by decide) (by decide) ?_
    refine ev_iload_n (q_cod qk237 rfl) (by decide) rfl ?_
    refine ev_ic (v := 0) (q_cod qk237 rfl) (by decide) (by decide) ?_
    obtain ⟨g3, hf⟩ := m_aK_some hf
    refine em_call (v := (fun u => some (.int u))) (q_cod qk237 rfl) rfl rfl (q_cokV rfl rfl (Or.inr g3)) rfl (fun x e => f196_cl e) hf (fun v4 h hf => ?_)
    refine ev_iadd (q_cod qk237 rfl) (by decide) ?_
    refine ev_is1 (L' := [(0, .ref l0), (1, .int (l1 + v4)), (2, .int l2)]) (q_cod qk237 rfl) (by decide) rfl ?_
    refine ev_inc (v := l2 + 1) (L' := [(0, .ref l0), (1, .int (l1 + v4)), (2, .int (l2 + 1))]) (q_cod qk237 rfl) (by decide) rfl rfl rfl ?_
    refine ev_goto (q_cod qk237 rfl) (by decide) ?_
    obtain rfl := m_R_inv hf
    exact (show q_Ev none 237 43 [(0, .ref l0), (1, .int (l1 + v4)), (2, .int (l2 + 1))] [] _ o hz from hK)
  · obtain ⟨y0, hf0, hx⟩ := m_inr_some hf
    subst hx
    exact ev_weak (q_pk [1] rfl) (f237_69_ok hf0 hK)
def f237_43 (l0 : Nat) (l1 : Int32) (l2 : Int32) : m_M Int32 := m_W (fun s => f237_43b (s.1) (s.2.1) (s.2.2)) 1000000 (l0, l1, l2)
theorem f237_43_ok {l0 : Nat} {l1 : Int32} {l2 : Int32} {h : q_H} {o : q_O} {hz : q_H} {x : Int32 × q_H} (hf : f237_43 l0 l1 l2 h = some x) (hK : (q_KI o hz) x) : q_Ev none 237 43 [(0, .ref l0), (1, .int l1), (2, .int l2)] [] h o hz :=
  m_W_ok (P := (fun (s : Nat × Int32 × Int32) (h : q_H) => q_Ev none 237 43 [(0, .ref (s.1)), (1, .int (s.2.1)), (2, .int (s.2.2))] [] h o hz)) (K := (q_KI o hz)) (fun s h x h1 h2 => f237_43b_ok h1 h2) _ (l0, l1, l2) _ _ hf hK
def f237_15 (l0 : Nat) (s0 : Nat) (s1 : Int32) : m_M Int32 :=
  m_B (m_aK s0 12) (fun _ => m_B (f178 s0 s1) (fun v2 => if v2 = 0 then (m_B (m_aK l0 12) (fun _ => m_B (f203 l0 0 1) (fun _ => m_B (m_pZ 12 l0 3 1) (fun _ => m_B (m_pI 12 l0 2 0) (fun _ => f237_43 l0 0 0))))) else (m_R 0)))
theorem f237_15_ok {l0 : Nat} {s0 : Nat} {s1 : Int32} {h : q_H} {o : q_O} {hz : q_H} {x : Int32 × q_H} (hf : f237_15 l0 s0 s1 h = some x) (hK : (q_KI o hz) x) : q_Ev none 237 15 [(0, .ref l0)] [.int s1, .ref s0] h o hz := by
  unfold f237_15 at hf
  obtain ⟨g1, hf⟩ := m_aK_some hf
  refine em_call (v := (fun u => some (.int u))) (q_cod qk237 rfl) rfl rfl (q_cokV rfl rfl (Or.inr g1)) rfl (fun x e => f178_cl e) hf (fun v2 h hf => ?_)
  refine em_if_eq (q_cod qk237 rfl) (by decide) hf (fun c5 hf => ?_) (fun c5 hf => ?_)
  · refine ev_aload_n (q_cod qk237 rfl) (by decide) rfl ?_
    refine ev_ic (v := 0) (q_cod qk237 rfl) (by decide) (by decide) ?_
    refine ev_ic (v := 1) (q_cod qk237 rfl) (by decide) (by decide) ?_
    obtain ⟨g3, hf⟩ := m_aK_some hf
    refine em_call (v := (fun _ => none)) (q_cod qk237 rfl) rfl rfl (q_cokV rfl rfl (Or.inr g3)) rfl (fun x e => f203_cl e) hf (fun _ h hf => ?_)
    refine ev_aload_n (q_cod qk237 rfl) (by decide) rfl ?_
    refine ev_ic (v := 1) (q_cod qk237 rfl) (by decide) (by decide) ?_
    refine em_pZ (q_cod qk237 rfl) (by decide) (by decide) (by decide) hf (fun hf => ?_)
    refine ev_aload_n (q_cod qk237 rfl) (by decide) rfl ?_
    refine ev_ic (v := 0) (q_cod qk237 rfl) (by decide) (by decide) ?_
    refine em_pI (q_cod qk237 rfl) (by decide) (by decide) (by decide) hf (fun hf => ?_)
    refine ev_ic (v := 0) (q_cod qk237 rfl) (by decide) (by decide) ?_
    refine ev_is1 (L' := [(0, .ref l0), (1, .int 0)]) (q_cod qk237 rfl) (by decide) rfl ?_
    refine ev_ic (v := 0) (q_cod qk237 rfl) (by decide) (by decide) ?_
    refine ev_is1 (L' := [(0, .ref l0), (1, .int 0), (2, .int 0)]) (q_cod qk237 rfl) (by decide) rfl ?_
    exact (f237_43_ok hf hK)
  · refine ev_ic (v := 0) (q_cod qk237 rfl) (by decide) (by decide) ?_
    obtain rfl := m_R_inv hf
    obtain ⟨rfl, rfl⟩ := (show q_KI o hz (0, _) from hK)
    exact ev_ret (q_cod qk237 rfl) rfl
def f237 (l0 : Nat) : m_M Int32 :=
  m_B (m_aK l0 12) (fun _ => m_B (f235 l0 0) (fun v2 => if v2 = (-1) then (f237_15 l0 l0 0) else (f237_15 l0 l0 1)))
theorem f237_ok {l0 : Nat} {h : q_H} {o : q_O} {hz : q_H} {x : Int32 × q_H} (hf : f237 l0 h = some x) (hK : (q_KI o hz) x) : q_Ev none 237 0 [(0, .ref l0)] [] h o hz := by
  unfold f237 at hf
  refine ev_aload_n (q_cod qk237 rfl) (by decide) rfl ?_
  refine ev_aload_n (q_cod qk237 rfl) (by decide) rfl ?_
  refine ev_ic (v := 0) (q_cod qk237 rfl) (by decide) (by decide) ?_
  obtain ⟨g1, hf⟩ := m_aK_some hf
  refine em_call (v := (fun u => some (.int u))) (q_cod qk237 rfl) rfl rfl (q_cokV rfl rfl (Or.inr g1)) rfl (fun x e => f235_cl e) hf (fun v2 h hf => ?_)
  refine ev_ic (v := (-1)) (q_cod qk237 rfl) (by decide) (by decide) ?_
  refine em_ic_ne (q_cod qk237 rfl) (by decide) hf (fun c3 hf => ?_) (fun c3 hf => ?_)
  · refine ev_ic (v := 0) (q_cod qk237 rfl) (by decide) (by decide) ?_
    refine ev_goto (q_cod qk237 rfl) (by decide) ?_
    exact (f237_15_ok hf hK)
  · refine ev_ic (v := 1) (q_cod qk237 rfl) (by decide) (by decide) ?_
    exact (f237_15_ok hf hK)
theorem f237_cl {l0 : Nat} {h : q_H} {x : Int32 × q_H} (hf : f237 l0 h = some x) : q_Cl 237 [.ref l0] h (.inl (some (.int x.1))) x.2 := q_Cl.of rfl (q_LvS rfl rfl) (f237_ok hf ⟨rfl, rfl⟩)
/-! SmithyBenchModel.isAkinToFamily(II)Z -/
theorem qk256 : q_cs.getD 256 [] = qc_256 := rfl
def f256_48 (l0 : Nat) (l1 : Int32) (l2 : Int32) (l4 : Int32) (s0 : Int32) : m_M ((Nat × Int32 × Int32 × Int32 × Int32) ⊕ Int32) :=
  m_R (.inl (l0, l1, l2, s0, (l4 + 1)))
theorem f256_48_ok {l0 : Nat} {l1 : Int32} {l2 : Int32} {l4 : Int32} {s0 : Int32} {h : q_H} {o : q_O} {hz : q_H} {x : ((Nat × Int32 × Int32 × Int32 × Int32) ⊕ Int32) × q_H} (hf : f256_48 l0 l1 l2 l4 s0 h = some x) (hK : (m_yK (fun (s : Nat × Int32 × Int32 × Int32 × Int32) (h : q_H) => q_Ev none 256 5 [(0, .ref (s.1)), (1, .int (s.2.1)), (2, .int (s.2.2.1)), (3, .int (s.2.2.2.1)), (4, .int (s.2.2.2.2))] [] h o hz) (q_KI o hz)) x) : q_Ev none 256 48 [(0, .ref l0), (1, .int l1), (2, .int l2), (4, .int l4)] [.int s0] h o hz := by
  unfold f256_48 at hf
  refine ev_is1 (L' := [(0, .ref l0), (1, .int l1), (2, .int l2), (3, .int s0), (4, .int l4)]) (q_cod qk256 rfl) (by decide) rfl ?_
  refine ev_inc (v := l4 + 1) (L' := [(0, .ref l0), (1, .int l1), (2, .int l2), (3, .int s0), (4, .int (l4 + 1))]) (q_cod qk256 rfl) (by decide) rfl rfl rfl ?_
  refine ev_goto (q_cod qk256 rfl) (by decide) ?_
  obtain rfl := m_R_inv hf
  exact (show q_Ev none 256 5 [(0, .ref l0), (1, .int l1), (2, .int l2), (3, .int s0), (4, .int (l4 + 1))] [] _ o hz from hK)
def f256_47 (l0 : Nat) (l1 : Int32) (l2 : Int32) (l4 : Int32) : m_M ((Nat × Int32 × Int32 × Int32 × Int32) ⊕ Int32) :=
  f256_48 l0 l1 l2 l4 0
theorem f256_47_ok {l0 : Nat} {l1 : Int32} {l2 : Int32} {l4 : Int32} {h : q_H} {o : q_O} {hz : q_H} {x : ((Nat × Int32 × Int32 × Int32 × Int32) ⊕ Int32) × q_H} (hf : f256_47 l0 l1 l2 l4 h = some x) (hK : (m_yK (fun (s : Nat × Int32 × Int32 × Int32 × Int32) (h : q_H) => q_Ev none 256 5 [(0, .ref (s.1)), (1, .int (s.2.1)), (2, .int (s.2.2.1)), (3, .int (s.2.2.2.1)), (4, .int (s.2.2.2.2))] [] h o hz) (q_KI o hz)) x) : q_Ev none 256 47 [(0, .ref l0), (1, .int l1), (2, .int l2), (4, .int l4)] [] h o hz := by
  unfold f256_47 at hf
  refine ev_ic (v := 0) (q_cod qk256 rfl) (by decide) (by decide) ?_
  exact (f256_48_ok hf hK)
def f256_43 (l0 : Nat) (l1 : Int32) (l2 : Int32) (l4 : Int32) : m_M ((Nat × Int32 × Int32 × Int32 × Int32) ⊕ Int32) :=
  f256_48 l0 l1 l2 l4 1
theorem f256_43_ok {l0 : Nat} {l1 : Int32} {l2 : Int32} {l4 : Int32} {h : q_H} {o : q_O} {hz : q_H} {x : ((Nat × Int32 × Int32 × Int32 × Int32) ⊕ Int32) × q_H} (hf : f256_43 l0 l1 l2 l4 h = some x) (hK : (m_yK (fun (s : Nat × Int32 × Int32 × Int32 × Int32) (h : q_H) => q_Ev none 256 5 [(0, .ref (s.1)), (1, .int (s.2.1)), (2, .int (s.2.2.1)), (3, .int (s.2.2.2.1)), (4, .int (s.2.2.2.2))] [] h o hz) (q_KI o hz)) x) : q_Ev none 256 43 [(0, .ref l0), (1, .int l1), (2, .int l2), (4, .int l4)] [] h o hz := by
  unfold f256_43 at hf
  refine ev_ic (v := 1) (q_cod qk256 rfl) (by decide) (by decide) ?_
  refine ev_goto (q_cod qk256 rfl) (by decide) ?_
  exact (f256_48_ok hf hK)
def f256_55 (l3 : Int32) : m_M Int32 :=
  m_B (m_G (l3 = 0 ∨ l3 = 1)) (fun _ => m_R l3)
theorem f256_55_ok {l3 : Int32} {h : q_H} {o : q_O} {hz : q_H} {x : Int32 × q_H} (hf : f256_55 l3 h = some x) (hK : (q_KI o hz) x) : q_Ev none 256 55 [(3, .int l3)] [] h o hz := by
  unfold f256_55 at hf
  refine ev_iload_n (q_cod qk256 rfl) (by decide) rfl ?_
  obtain ⟨g1, hf⟩ := m_G_some hf
  obtain rfl := m_R_inv hf
  obtain ⟨rfl, rfl⟩ := (show q_KI o hz (l3, _) from hK)
  exact ev_ret (q_cod qk256 rfl) (q_retZ g1)
def f256_5b (l0 : Nat) (l1 : Int32) (l2 : Int32) (l3 : Int32) (l4 : Int32) : m_M ((Nat × Int32 × Int32 × Int32 × Int32) ⊕ Int32) :=
  if l4 < 24 then (if l3 = 0 then (m_B (m_gR 12 l0 36) (fun r1 => m_B (m_lZ r1 l4) (fun v2 => if v2 = 0 then (f256_47 l0 l1 l2 l4) else (m_B (m_aK l0 12) (fun _ => m_B (f196 l0 l1 l4 1) (fun v4 => m_B (m_aK l0 12) (fun _ => m_B (f209 l0 l1 l2 v4) (fun v6 => if v6 = 0 then (f256_47 l0 l1 l2 l4) else (f256_43 l0 l1 l2 l4))))))))) else (f256_43 l0 l1 l2 l4)) else (m_B (f256_55 l3) (fun r => m_R (.inr r)))
theorem f256_5b_ok {l0 : Nat} {l1 : Int32} {l2 : Int32} {l3 : Int32} {l4 : Int32} {h : q_H} {o : q_O} {hz : q_H} {x : ((Nat × Int32 × Int32 × Int32 × Int32) ⊕ Int32) × q_H} (hf : f256_5b l0 l1 l2 l3 l4 h = some x) (hK : (m_yK (fun (s : Nat × Int32 × Int32 × Int32 × Int32) (h : q_H) => q_Ev none 256 5 [(0, .ref (s.1)), (1, .int (s.2.1)), (2, .int (s.2.2.1)), (3, .int (s.2.2.2.1)), (4, .int (s.2.2.2.2))] [] h o hz) (q_KI o hz)) x) : q_Ev none 256 5 [(0, .ref l0), (1, .int l1), (2, .int l2), (3, .int l3), (4, .int l4)] [] h o hz := by
  unfold f256_5b at hf
  refine ev_iload (q_cod qk256 rfl) (by decide) rfl ?_
  refine ev_bi (v := 24) (q_cod qk256 rfl) (by decide) (by decide) ?_
  refine em_ic_ge (q_cod qk256 rfl) (by decide) hf (fun c10 hf => ?_) (fun c10 hf => ?_)
  · refine ev_iload_n (q_cod qk256 rfl) (by decide) rfl ?_
    refine em_if_ne (q_cod qk256 rfl) (by decide) hf (fun c9 hf => ?_) (fun c9 hf => ?_)
    · refine ev_aload_n (q_cod qk256 rfl) (by decide) rfl ?_
      refine em_gR (q_cod qk256 rfl) (by decide) (by decide) hf (fun r1 hf => ?_)
      refine ev_iload (q_cod qk256 rfl) (by decide) rfl ?_
      refine em_lZ (q_cod qk256 rfl) (by decide) hf (fun v2 hf => ?_)
      refine em_if_eq (q_cod qk256 rfl) (by decide) hf (fun c8 hf => ?_) (fun c8 hf => ?_)
      · exact ev_weak (q_pk [0, 1, 2, 4] rfl) (f256_47_ok hf hK)
      · refine ev_aload_n (q_cod qk256 rfl) (by decide) rfl ?_
        refine ev_iload_n (q_cod qk256 rfl) (by decide) rfl ?_
        refine ev_iload_n (q_cod qk256 rfl) (by decide) rfl ?_
        refine ev_aload_n (q_cod qk256 rfl) (by decide) rfl ?_
        refine ev_iload_n (q_cod qk256 rfl) (by decide) rfl ?_
        refine ev_iload (q_cod qk256 rfl) (by decide) rfl ?_
        refine ev_ic (v := 1) (q_cod qk256 rfl) (by decide) (by decide) ?_
        obtain ⟨g3, hf⟩ := m_aK_some hf
        refine em_call (v := (fun u => some (.int u))) (q_cod qk256 rfl) rfl rfl (q_cokV rfl rfl (Or.inr g3)) rfl (fun x e => f196_cl e) hf (fun v4 h hf => ?_)
        obtain ⟨g5, hf⟩ := m_aK_some hf
        refine em_call (v := (fun u => some (.int u))) (q_cod qk256 rfl) rfl rfl (q_cokV rfl rfl (Or.inr g5)) rfl (fun x e => f209_cl e) hf (fun v6 h hf => ?_)
        refine em_if_eq (q_cod qk256 rfl) (by decide) hf (fun c7 hf => ?_) (fun c7 hf => ?_)
        · exact ev_weak (q_pk [0, 1, 2, 4] rfl) (f256_47_ok hf hK)
        · exact ev_weak (q_pk [0, 1, 2, 4] rfl) (f256_43_ok hf hK)
    · exact ev_weak (q_pk [0, 1, 2, 4] rfl) (f256_43_ok hf hK)
  · obtain ⟨y0, hf0, hx⟩ := m_inr_some hf
    subst hx
    exact ev_weak (q_pk [3] rfl) (f256_55_ok hf0 hK)
def f256_5 (l0 : Nat) (l1 : Int32) (l2 : Int32) (l3 : Int32) (l4 : Int32) : m_M Int32 := m_W (fun s => f256_5b (s.1) (s.2.1) (s.2.2.1) (s.2.2.2.1) (s.2.2.2.2)) 1000000 (l0, l1, l2, l3, l4)
theorem f256_5_ok {l0 : Nat} {l1 : Int32} {l2 : Int32} {l3 : Int32} {l4 : Int32} {h : q_H} {o : q_O} {hz : q_H} {x : Int32 × q_H} (hf : f256_5 l0 l1 l2 l3 l4 h = some x) (hK : (q_KI o hz) x) : q_Ev none 256 5 [(0, .ref l0), (1, .int l1), (2, .int l2), (3, .int l3), (4, .int l4)] [] h o hz :=
  m_W_ok (P := (fun (s : Nat × Int32 × Int32 × Int32 × Int32) (h : q_H) => q_Ev none 256 5 [(0, .ref (s.1)), (1, .int (s.2.1)), (2, .int (s.2.2.1)), (3, .int (s.2.2.2.1)), (4, .int (s.2.2.2.2))] [] h o hz)) (K := (q_KI o hz)) (fun s h x h1 h2 => f256_5b_ok h1 h2) _ (l0, l1, l2, l3, l4) _ _ hf hK
def f256 (l0 : Nat) (l1 : Int32) (l2 : Int32) : m_M Int32 :=
  f256_5 l0 l1 l2 0 0
theorem f256_ok {l0 : Nat} {l1 : Int32} {l2 : Int32} {h : q_H} {o : q_O} {hz : q_H} {x : Int32 × q_H} (hf : f256 l0 l1 l2 h = some x) (hK : (q_KI o hz) x) : q_Ev none 256 0 [(0, .ref l0), (1, .int l1), (2, .int l2)] [] h o hz := by
  unfold f256 at hf
  refine ev_ic (v := 0) (q_cod qk256 rfl) (by decide) (by decide) ?_
  refine ev_is1 (L' := [(0, .ref l0), (1, .int l1), (2, .int l2), (3, .int 0)]) (q_cod qk256 rfl) (by decide) rfl ?_
  refine ev_ic (v := 0) (q_cod qk256 rfl) (by decide) (by decide) ?_
  refine ev_is2 (L' := [(0, .ref l0), (1, .int l1), (2, .int l2), (3, .int 0), (4, .int 0)]) (q_cod qk256 rfl) (by decide) rfl ?_
  exact (f256_5_ok hf hK)
theorem f256_cl {l0 : Nat} {l1 : Int32} {l2 : Int32} {h : q_H} {x : Int32 × q_H} (hf : f256 l0 l1 l2 h = some x) : q_Cl 256 [.ref l0, .int l1, .int l2] h (.inl (some (.int x.1))) x.2 := q_Cl.of rfl (q_LvS rfl rfl) (f256_ok hf ⟨rfl, rfl⟩)
/-! SmithyBenchModel.findFamily(II)V -/
theorem qk255 : q_cs.getD 255 [] = qc_255 := rfl
def f255_23 (l0 : Nat) (l1 : Int32) (l2 : Int32) (l3 : Int32) (s0 : Nat) (s1 : Int32) (s2 : Int32) : m_M ((Nat × Int32 × Int32 × Int32) ⊕ Unit) :=
  m_B (m_wZ s0 s1 s2) (fun _ => m_R (.inl (l0, l1, l2, (l3 + 1))))
theorem f255_23_ok {l0 : Nat} {l1 : Int32} {l2 : Int32} {l3 : Int32} {s0 : Nat} {s1 : Int32} {s2 : Int32} {h : q_H} {o : q_O} {hz : q_H} {x : ((Nat × Int32 × Int32 × Int32) ⊕ Unit) × q_H} (hf : f255_23 l0 l1 l2 l3 s0 s1 s2 h = some x) (hK : (m_yK (fun (s : Nat × Int32 × Int32 × Int32) (h : q_H) => q_Ev none 255 2 [(0, .ref (s.1)), (1, .int (s.2.1)), (2, .int (s.2.2.1)), (3, .int (s.2.2.2))] [] h o hz) (m_KU o hz)) x) : q_Ev none 255 23 [(0, .ref l0), (1, .int l1), (2, .int l2), (3, .int l3)] [.int s2, .int s1, .ref s0] h o hz := by
  unfold f255_23 at hf
  refine em_wZ (q_cod qk255 rfl) (by decide) hf (fun hf => ?_)
  refine ev_inc (v := l3 + 1) (L' := [(0, .ref l0), (1, .int l1), (2, .int l2), (3, .int (l3 + 1))]) (q_cod qk255 rfl) (by decide) rfl rfl rfl ?_
  refine ev_goto (q_cod qk255 rfl) (by decide) ?_
  obtain rfl := m_R_inv hf
  exact (show q_Ev none 255 2 [(0, .ref l0), (1, .int l1), (2, .int l2), (3, .int (l3 + 1))] [] _ o hz from hK)
def f255_149  : m_M Unit :=
  m_R ()
theorem f255_149_ok  {h : q_H} {o : q_O} {hz : q_H} {x : Unit × q_H} (hf : f255_149 h = some x) (hK : (m_KU o hz) x) : q_Ev none 255 149 [] [] h o hz := by
  unfold f255_149 at hf
  obtain rfl := m_R_inv hf
  obtain ⟨rfl, rfl⟩ := (show m_KU o hz ((), _) from hK)
  exact ev_ret (q_cod qk255 rfl) rfl
def f255_140 (l0 : Nat) (l1 : Int32) (l2 : Int32) (l3 : Int32) (l4 : Int32) : m_M ((Nat × Int32 × Int32 × Int32 × Int32) ⊕ ((Nat × Int32 × Int32 × Int32) ⊕ Unit)) :=
  m_R (.inl (l0, l1, l2, l3, (l4 + 1)))
theorem f255_140_ok {l0 : Nat} {l1 : Int32} {l2 : Int32} {l3 : Int32} {l4 : Int32} {h : q_H} {o : q_O} {hz : q_H} {x : ((Nat × Int32 × Int32 × Int32 × Int32) ⊕ ((Nat × Int32 × Int32 × Int32) ⊕ Unit)) × q_H} (hf : f255_140 l0 l1 l2 l3 l4 h = some x) (hK : (m_yK (fun (s : Nat × Int32 × Int32 × Int32 × Int32) (h : q_H) => q_Ev none 255 41 [(0, .ref (s.1)), (1, .int (s.2.1)), (2, .int (s.2.2.1)), (3, .int (s.2.2.2.1)), (4, .int (s.2.2.2.2))] [] h o hz) (m_yK (fun (s : Nat × Int32 × Int32 × Int32) (h : q_H) => q_Ev none 255 32 [(0, .ref (s.1)), (1, .int (s.2.1)), (2, .int (s.2.2.1)), (3, .int (s.2.2.2))] [] h o hz) (m_KU o hz))) x) : q_Ev none 255 140 [(0, .ref l0), (1, .int l1), (2, .int l2), (3, .int l3), (4, .int l4)] [] h o hz := by
  unfold f255_140 at hf
  refine ev_inc (v := l4 + 1) (L' := [(0, .ref l0), (1, .int l1), (2, .int l2), (3, .int l3), (4, .int (l4 + 1))]) (q_cod qk255 rfl) (by decide) rfl rfl rfl ?_
  refine ev_goto (q_cod qk255 rfl) (by decide) ?_
  obtain rfl := m_R_inv hf
  exact (show q_Ev none 255 41 [(0, .ref l0), (1, .int l1), (2, .int l2), (3, .int l3), (4, .int (l4 + 1))] [] _ o hz from hK)
def f255_146 (l0 : Nat) (l1 : Int32) (l2 : Int32) (l3 : Int32) : m_M ((Nat × Int32 × Int32 × Int32) ⊕ Unit) :=
  m_R (.inl (l0, l1, l2, l3))
theorem f255_146_ok {l0 : Nat} {l1 : Int32} {l2 : Int32} {l3 : Int32} {h : q_H} {o : q_O} {hz : q_H} {x : ((Nat × Int32 × Int32 × Int32) ⊕ Unit) × q_H} (hf : f255_146 l0 l1 l2 l3 h = some x) (hK : (m_yK (fun (s : Nat × Int32 × Int32 × Int32) (h : q_H) => q_Ev none 255 32 [(0, .ref (s.1)), (1, .int (s.2.1)), (2, .int (s.2.2.1)), (3, .int (s.2.2.2))] [] h o hz) (m_KU o hz)) x) : q_Ev none 255 146 [(0, .ref l0), (1, .int l1), (2, .int l2), (3, .int l3)] [] h o hz := by
  unfold f255_146 at hf
  refine ev_goto (q_cod qk255 rfl) (by decide) ?_
  obtain rfl := m_R_inv hf
  exact (show q_Ev none 255 32 [(0, .ref l0), (1, .int l1), (2, .int l2), (3, .int l3)] [] _ o hz from hK)
def f255_41b (l0 : Nat) (l1 : Int32) (l2 : Int32) (l3 : Int32) (l4 : Int32) : m_M ((Nat × Int32 × Int32 × Int32 × Int32) ⊕ ((Nat × Int32 × Int32 × Int32) ⊕ Unit)) :=
  m_B (m_gR 12 l0 1) (fun r1 => m_B (m_lI r1 ((14200 * l1) + 1)) (fun v2 => if l4 < v2 then (m_B (m_gR 12 l0 36) (fun r3 => m_B (m_lZ r3 l4) (fun v4 => if v4 = 0 then (m_B (m_aK l0 12) (fun _ => m_B (f206 l0 l1 l4) (fun v6 => if v6 = 0 then (f255_140 l0 l1 l2 l3 l4) else (m_B (m_aK l0 12) (fun _ => m_B (f196 l0 l1 l4 2) (fun v8 => m_B (m_aK l0 12) (fun _ => m_B (f196 l0 l1 l2 2) (fun v10 => if v8 = v10 then (m_B (m_aK l0 12) (fun _ => m_B (f196 l0 l1 l4 3) (fun v12 => m_B (m_aK l0 12) (fun _ => m_B (f196 l0 l1 l2 3) (fun v14 => if v12 = v14 then (m_B (m_aK l0 12) (fun _ => m_B (f196 l0 l1 l4 1) (fun v16 => m_B (m_aK l0 12) (fun _ => m_B (f256 l0 l1 v16) (fun v18 => if v18 = 0 then (f255_140 l0 l1 l2 l3 l4) else (m_B (m_gR 12 l0 36) (fun r19 => m_B (m_wZ r19 l4 1) (fun _ => f255_140 l0 l1 l2 1 l4)))))))) else (f255_140 l0 l1 l2 l3 l4)))))) else (f255_140 l0 l1 l2 l3 l4))))))))) else (f255_140 l0 l1 l2 l3 l4)))) else (m_B (f255_146 l0 l1 l2 l3) (fun r => m_R (.inr r)))))
theorem f255_41b_ok {l0 : Nat} {l1 : Int32} {l2 : Int32} {l3 : Int32} {l4 : Int32} {h : q_H} {o : q_O} {hz : q_H} {x : ((Nat × Int32 × Int32 × Int32 × Int32) ⊕ ((Nat × Int32 × Int32 × Int32) ⊕ Unit)) × q_H} (hf : f255_41b l0 l1 l2 l3 l4 h = some x) (hK : (m_yK (fun (s : Nat × Int32 × Int32 × Int32 × Int32) (h : q_H) => q_Ev none 255 41 [(0, .ref (s.1)), (1, .int (s.2.1)), (2, .int (s.2.2.1)), (3, .int (s.2.2.2.1)), (4, .int (s.2.2.2.2))] [] h o hz) (m_yK (fun (s : Nat × Int32 × Int32 × Int32) (h : q_H) => q_Ev none 255 32 [(0, .ref (s.1)), (1, .int (s.2.1)), (2, .int (s.2.2.1)), (3, .int (s.2.2.2))] [] h o hz) (m_KU o hz))) x) : q_Ev none 255 41 [(0, .ref l0), (1, .int l1), (2, .int l2), (3, .int l3), (4, .int l4)] [] h o hz := by
  unfold f255_41b at hf
  refine ev_iload (q_cod qk255 rfl) (by decide) rfl ?_
  refine ev_aload_n (q_cod qk255 rfl) (by decide) rfl ?_
  refine em_gR (q_cod qk255 rfl) (by decide) (by decide) hf (fun r1 hf => ?_)
  refine ev_si (v := 14200) (q_cod qk255 rfl) (by decide) (by decide) ?_
  refine ev_iload_n (q_cod qk255 rfl) (by decide) rfl ?_
  refine ev_imul (q_cod qk255 rfl) (by decide) ?_
  refine ev_ic (v := 1) (q_cod qk255 rfl) (by decide) (by decide) ?_
  refine ev_iadd (q_cod qk255 rfl) (by decide) ?_
  refine em_lI (q_cod qk255 rfl) (by decide) hf (fun v2 hf => ?_)
  refine em_ic_ge (q_cod qk255 rfl) (by decide) hf (fun c25 hf => ?_) (fun c25 hf => ?_)
  · refine ev_aload_n (q_cod qk255 rfl) (by decide) rfl ?_
    refine em_gR (q_cod qk255 rfl) (by decide) (by decide) hf (fun r3 hf => ?_)
    refine ev_iload (q_cod qk255 rfl) (by decide) rfl ?_
    refine em_lZ (q_cod qk255 rfl) (by decide) hf (fun v4 hf => ?_)
    refine em_if_ne (q_cod qk255 rfl) (by decide) hf (fun c24 hf => ?_) (fun c24 hf => ?_)
    · refine ev_aload_n (q_cod qk255 rfl) (by decide) rfl ?_
      refine ev_iload_n (q_cod qk255 rfl) (by decide) rfl ?_
      refine ev_iload (q_cod qk255 rfl) (by decide) rfl ?_
      obtain ⟨g5, hf⟩ := m_aK_some hf
      refine em_call (v := (fun u => some (.int u))) (q_cod qk255 rfl) rfl rfl (q_cokV rfl rfl (Or.inr g5)) rfl (fun x e => f206_cl e) hf (fun v6 h hf => ?_)
      refine em_if_eq (q_cod qk255 rfl) (by decide) hf (fun c23 hf => ?_) (fun c23 hf => ?_)
      · exact (f255_140_ok hf hK)
      · refine ev_aload_n (q_cod qk255 rfl) (by decide) rfl ?_
        refine ev_iload_n (q_cod qk255 rfl) (by decide) rfl ?_
        refine ev_iload (q_cod qk255 rfl) (by decide) rfl ?_
        refine ev_ic (v := 2) (q_cod qk255 rfl) (by decide) (by decide) ?_
        obtain ⟨g7, hf⟩ := m_aK_some hf
        refine em_call (v := (fun u => some (.int u))) (q_cod qk255 rfl) rfl rfl (q_cokV rfl rfl (Or.inr g7)) rfl (fun x e => f196_cl e) hf (fun v8 h hf => ?_)
        refine ev_aload_n (q_cod qk255 rfl) (by decide) rfl ?_
        refine ev_iload_n (q_cod qk255 rfl) (by decide) rfl ?_
        refine ev_iload_n (q_cod qk255 rfl) (by decide) rfl ?_
        refine ev_ic (v := 2) (q_cod qk255 rfl) (by decide) (by decide) ?_
        obtain ⟨g9, hf⟩ := m_aK_some hf
        refine em_call (v := (fun u => some (.int u))) (q_cod qk255 rfl) rfl rfl (q_cokV rfl rfl (Or.inr g9)) rfl (fun x e => f196_cl e) hf (fun v10 h hf => ?_)
        refine em_ic_ne (q_cod qk255 rfl) (by decide) hf (fun c22 hf => ?_) (fun c22 hf => ?_)
        · refine ev_aload_n (q_cod qk255 rfl) (by decide) rfl ?_
          refine ev_iload_n (q_cod qk255 rfl) (by decide) rfl ?_
          refine ev_iload (q_cod qk255 rfl) (by decide) rfl ?_
          refine ev_ic (v := 3) (q_cod qk255 rfl) (by decide) (by decide) ?_
          obtain ⟨g11, hf⟩ := m_aK_some hf
          refine em_call (v := (fun u => some (.int u))) (q_cod qk255 rfl) rfl rfl (q_cokV rfl rfl (Or.inr g11)) rfl (fun x e => f196_cl e) hf (fun v12 h hf => ?_)
          refine ev_aload_n (q_cod qk255 rfl) (by decide) rfl ?_
          refine ev_iload_n (q_cod qk255 rfl) (by decide) rfl ?_
          refine ev_iload_n (q_cod qk255 rfl) (by decide) rfl ?_
          refine ev_ic (v := 3) (q_cod qk255 rfl) (by decide) (by decide) ?_
          obtain ⟨g13, hf⟩ := m_aK_some hf
          refine em_call (v := (fun u => some (.int u))) (q_cod qk255 rfl) rfl rfl (q_cokV rfl rfl (Or.inr g13)) rfl (fun x e => f196_cl e) hf (fun v14 h hf => ?_)
          refine em_ic_ne (q_cod qk255 rfl) (by decide) hf (fun c21 hf => ?_) (fun c21 hf => ?_)
          · refine ev_aload_n (q_cod qk255 rfl) (by decide) rfl ?_
            refine ev_iload_n (q_cod qk255 rfl) (by decide) rfl ?_
            refine ev_aload_n (q_cod qk255 rfl) (by decide) rfl ?_
            refine ev_iload_n (q_cod qk255 rfl) (by decide) rfl ?_
            refine ev_iload (q_cod qk255 rfl) (by decide) rfl ?_
            refine ev_ic (v := 1) (q_cod qk255 rfl) (by decide) (by decide) ?_
            obtain ⟨g15, hf⟩ := m_aK_some hf
            refine em_call (v := (fun u => some (.int u))) (q_cod qk255 rfl) rfl rfl (q_cokV rfl rfl (Or.inr g15)) rfl (fun x e => f196_cl e) hf (fun v16 h hf => ?_)
            obtain ⟨g17, hf⟩ := m_aK_some hf
            refine em_call (v := (fun u => some (.int u))) (q_cod qk255 rfl) rfl rfl (q_cokV rfl rfl (Or.inr g17)) rfl (fun x e => f256_cl e) hf (fun v18 h hf => ?_)
            refine em_if_eq (q_cod qk255 rfl) (by decide) hf (fun c20 hf => ?_) (fun c20 hf => ?_)
            · exact (f255_140_ok hf hK)
            · refine ev_aload_n (q_cod qk255 rfl) (by decide) rfl ?_
              refine em_gR (q_cod qk255 rfl) (by decide) (by decide) hf (fun r19 hf => ?_)
              refine ev_iload (q_cod qk255 rfl) (by decide) rfl ?_
              refine ev_ic (v := 1) (q_cod qk255 rfl) (by decide) (by decide) ?_
              refine em_wZ (q_cod qk255 rfl) (by decide) hf (fun hf => ?_)
              refine ev_ic (v := 1) (q_cod qk255 rfl) (by decide) (by decide) ?_
              refine ev_is1 (L' := [(0, .ref l0), (1, .int l1), (2, .int l2), (3, .int 1), (4, .int l4)]) (q_cod qk255 rfl) (by decide) rfl ?_
              exact (f255_140_ok hf hK)
          · exact (f255_140_ok hf hK)
        · exact (f255_140_ok hf hK)
    · exact (f255_140_ok hf hK)
  · obtain ⟨y0, hf0, hx⟩ := m_inr_some hf
    subst hx
    exact ev_weak (q_pk [0, 1, 2, 3] rfl) (f255_146_ok hf0 hK)
def f255_41 (l0 : Nat) (l1 : Int32) (l2 : Int32) (l3 : Int32) (l4 : Int32) : m_M ((Nat × Int32 × Int32 × Int32) ⊕ Unit) := m_W (fun s => f255_41b (s.1) (s.2.1) (s.2.2.1) (s.2.2.2.1) (s.2.2.2.2)) 1000000 (l0, l1, l2, l3, l4)
theorem f255_41_ok {l0 : Nat} {l1 : Int32} {l2 : Int32} {l3 : Int32} {l4 : Int32} {h : q_H} {o : q_O} {hz : q_H} {x : ((Nat × Int32 × Int32 × Int32) ⊕ Unit) × q_H} (hf : f255_41 l0 l1 l2 l3 l4 h = some x) (hK : (m_yK (fun (s : Nat × Int32 × Int32 × Int32) (h : q_H) => q_Ev none 255 32 [(0, .ref (s.1)), (1, .int (s.2.1)), (2, .int (s.2.2.1)), (3, .int (s.2.2.2))] [] h o hz) (m_KU o hz)) x) : q_Ev none 255 41 [(0, .ref l0), (1, .int l1), (2, .int l2), (3, .int l3), (4, .int l4)] [] h o hz :=
  m_W_ok (P := (fun (s : Nat × Int32 × Int32 × Int32 × Int32) (h : q_H) => q_Ev none 255 41 [(0, .ref (s.1)), (1, .int (s.2.1)), (2, .int (s.2.2.1)), (3, .int (s.2.2.2.1)), (4, .int (s.2.2.2.2))] [] h o hz)) (K := (m_yK (fun (s : Nat × Int32 × Int32 × Int32) (h : q_H) => q_Ev none 255 32 [(0, .ref (s.1)), (1, .int (s.2.1)), (2, .int (s.2.2.1)), (3, .int (s.2.2.2))] [] h o hz) (m_KU o hz))) (fun s h x h1 h2 => f255_41b_ok h1 h2) _ (l0, l1, l2, l3, l4) _ _ hf hK
def f255_32b (l0 : Nat) (l1 : Int32) (l2 : Int32) (l3 : Int32) : m_M ((Nat × Int32 × Int32 × Int32) ⊕ Unit) :=
  if l3 = 0 then (m_B (f255_149) (fun r => m_R (.inr r))) else (f255_41 l0 l1 l2 0 0)
theorem f255_32b_ok {l0 : Nat} {l1 : Int32} {l2 : Int32} {l3 : Int32} {h : q_H} {o : q_O} {hz : q_H} {x : ((Nat × Int32 × Int32 × Int32) ⊕ Unit) × q_H} (hf : f255_32b l0 l1 l2 l3 h = some x) (hK : (m_yK (fun (s : Nat × Int32 × Int32 × Int32) (h : q_H) => q_Ev none 255 32 [(0, .ref (s.1)), (1, .int (s.2.1)), (2, .int (s.2.2.1)), (3, .int (s.2.2.2))] [] h o hz) (m_KU o hz)) x) : q_Ev none 255 32 [(0, .ref l0), (1, .int l1), (2, .int l2), (3, .int l3)] [] h o hz := by
  unfold f255_32b at hf
  refine ev_iload_n (q_cod qk255 rfl) (by decide) rfl ?_
  refine em_if_eq (q_cod qk255 rfl) (by decide) hf (fun c1 hf => ?_) (fun c1 hf => ?_)
  · obtain ⟨y0, hf0, hx⟩ := m_inr_some hf
    subst hx
    exact ev_weak (q_pk [] rfl) (f255_149_ok hf0 hK)
  · refine ev_ic (v := 0) (q_cod qk255 rfl) (by decide) (by decide) ?_
    refine ev_is1 (L' := [(0, .ref l0), (1, .int l1), (2, .int l2), (3, .int 0)]) (q_cod qk255 rfl) (by decide) rfl ?_
    refine ev_ic (v := 0) (q_cod qk255 rfl) (by decide) (by decide) ?_
    refine ev_is2 (L' := [(0, .ref l0), (1, .int l1), (2, .int l2), (3, .int 0), (4, .int 0)]) (q_cod qk255 rfl) (by decide) rfl ?_
    exact (f255_41_ok hf hK)
def f255_32 (l0 : Nat) (l1 : Int32) (l2 : Int32) (l3 : Int32) : m_M Unit := m_W (fun s => f255_32b (s.1) (s.2.1) (s.2.2.1) (s.2.2.2)) 1000000 (l0, l1, l2, l3)
theorem f255_32_ok {l0 : Nat} {l1 : Int32} {l2 : Int32} {l3 : Int32} {h : q_H} {o : q_O} {hz : q_H} {x : Unit × q_H} (hf : f255_32 l0 l1 l2 l3 h = some x) (hK : (m_KU o hz) x) : q_Ev none 255 32 [(0, .ref l0), (1, .int l1), (2, .int l2), (3, .int l3)] [] h o hz :=
  m_W_ok (P := (fun (s : Nat × Int32 × Int32 × Int32) (h : q_H) => q_Ev none 255 32 [(0, .ref (s.1)), (1, .int (s.2.1)), (2, .int (s.2.2.1)), (3, .int (s.2.2.2))] [] h o hz)) (K := (m_KU o hz)) (fun s h x h1 h2 => f255_32b_ok h1 h2) _ (l0, l1, l2, l3) _ _ hf hK
def f255_30 (l0 : Nat) (l1 : Int32) (l2 : Int32) : m_M Unit :=
  f255_32 l0 l1 l2 1
theorem f255_30_ok {l0 : Nat} {l1 : Int32} {l2 : Int32} {h : q_H} {o : q_O} {hz : q_H} {x : Unit × q_H} (hf : f255_30 l0 l1 l2 h = some x) (hK : (m_KU o hz) x) : q_Ev none 255 30 [(0, .ref l0), (1, .int l1), (2, .int l2)] [] h o hz := by
  unfold f255_30 at hf
  refine ev_ic (v := 1) (q_cod qk255 rfl) (by decide) (by decide) ?_
  refine ev_is1 (L' := [(0, .ref l0), (1, .int l1), (2, .int l2), (3, .int 1)]) (q_cod qk255 rfl) (by decide) rfl ?_
  exact (f255_32_ok hf hK)
def f255_2b (l0 : Nat) (l1 : Int32) (l2 : Int32) (l3 : Int32) : m_M ((Nat × Int32 × Int32 × Int32) ⊕ Unit) :=
  if l3 < 24 then (m_B (m_gR 12 l0 36) (fun r1 => if l3 = l2 then (f255_23 l0 l1 l2 l3 r1 l3 1) else (f255_23 l0 l1 l2 l3 r1 l3 0))) else (m_B (f255_30 l0 l1 l2) (fun r => m_R (.inr r)))
theorem f255_2b_ok {l0 : Nat} {l1 : Int32} {l2 : Int32} {l3 : Int32} {h : q_H} {o : q_O} {hz : q_H} {x : ((Nat × Int32 × Int32 × Int32) ⊕ Unit) × q_H} (hf : f255_2b l0 l1 l2 l3 h = some x) (hK : (m_yK (fun (s : Nat × Int32 × Int32 × Int32) (h : q_H) => q_Ev none 255 2 [(0, .ref (s.1)), (1, .int (s.2.1)), (2, .int (s.2.2.1)), (3, .int (s.2.2.2))] [] h o hz) (m_KU o hz)) x) : q_Ev none 255 2 [(0, .ref l0), (1, .int l1), (2, .int l2), (3, .int l3)] [] h o hz := by
  unfold f255_2b at hf
  refine ev_iload_n (q_cod qk255 rfl) (by decide) rfl ?_
  refine ev_bi (v := 24) (q_cod qk255 rfl) (by decide) (by decide) ?_
  refine em_ic_ge (q_cod qk255 rfl) (by decide) hf (fun c3 hf => ?_) (fun c3 hf => ?_)
  · refine ev_aload_n (q_cod qk255 rfl) (by decide) rfl ?_
    refine em_gR (q_cod qk255 rfl) (by decide) (by decide) hf (fun r1 hf => ?_)
    refine ev_iload_n (q_cod qk255 rfl) (by decide) rfl ?_
    refine ev_iload_n (q_cod qk255 rfl) (by decide) rfl ?_
    refine ev_iload_n (q_cod qk255 rfl) (by decide) rfl ?_
    refine em_ic_ne (q_cod qk255 rfl) (by decide) hf (fun c2 hf => ?_) (fun c2 hf => ?_)
    · refine ev_ic (v := 1) (q_cod qk255 rfl) (by decide) (by decide) ?_
      refine ev_goto (q_cod qk255 rfl) (by decide) ?_
      exact (f255_23_ok hf hK)
    · refine ev_ic (v := 0) (q_cod qk255 rfl) (by decide) (by decide) ?_
      exact (f255_23_ok hf hK)
  · obtain ⟨y0, hf0, hx⟩ := m_inr_some hf
    subst hx
    exact ev_weak (q_pk [0, 1, 2] rfl) (f255_30_ok hf0 hK)
def f255_2 (l0 : Nat) (l1 : Int32) (l2 : Int32) (l3 : Int32) : m_M Unit := m_W (fun s => f255_2b (s.1) (s.2.1) (s.2.2.1) (s.2.2.2)) 1000000 (l0, l1, l2, l3)
theorem f255_2_ok {l0 : Nat} {l1 : Int32} {l2 : Int32} {l3 : Int32} {h : q_H} {o : q_O} {hz : q_H} {x : Unit × q_H} (hf : f255_2 l0 l1 l2 l3 h = some x) (hK : (m_KU o hz) x) : q_Ev none 255 2 [(0, .ref l0), (1, .int l1), (2, .int l2), (3, .int l3)] [] h o hz :=
  m_W_ok (P := (fun (s : Nat × Int32 × Int32 × Int32) (h : q_H) => q_Ev none 255 2 [(0, .ref (s.1)), (1, .int (s.2.1)), (2, .int (s.2.2.1)), (3, .int (s.2.2.2))] [] h o hz)) (K := (m_KU o hz)) (fun s h x h1 h2 => f255_2b_ok h1 h2) _ (l0, l1, l2, l3) _ _ hf hK
def f255 (l0 : Nat) (l1 : Int32) (l2 : Int32) : m_M Unit :=
  f255_2 l0 l1 l2 0
theorem f255_ok {l0 : Nat} {l1 : Int32} {l2 : Int32} {h : q_H} {o : q_O} {hz : q_H} {x : Unit × q_H} (hf : f255 l0 l1 l2 h = some x) (hK : (m_KU o hz) x) : q_Ev none 255 0 [(0, .ref l0), (1, .int l1), (2, .int l2)] [] h o hz := by
  unfold f255 at hf
  refine ev_ic (v := 0) (q_cod qk255 rfl) (by decide) (by decide) ?_
  refine ev_is1 (L' := [(0, .ref l0), (1, .int l1), (2, .int l2), (3, .int 0)]) (q_cod qk255 rfl) (by decide) rfl ?_
  exact (f255_2_ok hf hK)
theorem f255_cl {l0 : Nat} {l1 : Int32} {l2 : Int32} {h : q_H} {x : Unit × q_H} (hf : f255 l0 l1 l2 h = some x) : q_Cl 255 [.ref l0, .int l1, .int l2] h (.inl none) x.2 := q_Cl.of rfl (q_LvS rfl rfl) (f255_ok hf ⟨rfl, rfl⟩)
