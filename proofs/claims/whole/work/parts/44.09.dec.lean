/-! SmithyBench$Told.unfold(ILSmithyBench$Body;)V -/
theorem qk122 : q_cs.getD 122 [] = qc_122 := rfl
def f122_106 (l0 : Nat) (l2 : Nat) (l3 : Int32) (l4 : Int32) : m_M ((Nat × Nat × Int32 × Int32) ⊕ Unit) :=
  m_R (.inl (l0, l2, l3, (l4 + 1)))
theorem f122_106_ok {l0 : Nat} {l2 : Nat} {l3 : Int32} {l4 : Int32} {h : q_H} {o : q_O} {hz : q_H} {x : ((Nat × Nat × Int32 × Int32) ⊕ Unit) × q_H} (hf : f122_106 l0 l2 l3 l4 h = some x) (hK : (m_yK (fun (s : Nat × Nat × Int32 × Int32) (h : q_H) => q_Ev none 122 16 [(0, .ref (s.1)), (2, .ref (s.2.1)), (3, .int (s.2.2.1)), (4, .int (s.2.2.2))] [] h o hz) (m_KU o hz)) x) : q_Ev none 122 106 [(0, .ref l0), (2, .ref l2), (3, .int l3), (4, .int l4)] [] h o hz := by
  unfold f122_106 at hf
  refine ev_inc (v := l4 + 1) (L' := [(0, .ref l0), (2, .ref l2), (3, .int l3), (4, .int (l4 + 1))]) (q_cod qk122 rfl) (by decide) rfl rfl rfl ?_
  refine ev_goto (q_cod qk122 rfl) (by decide) ?_
  obtain rfl := m_R_inv hf
  exact (show q_Ev none 122 16 [(0, .ref l0), (2, .ref l2), (3, .int l3), (4, .int (l4 + 1))] [] _ o hz from hK)
def f122_74b (l0 : Nat) (l2 : Nat) (l3 : Int32) (l4 : Int32) (l5 : Int32) (l6 : Int32) : m_M ((Nat × Nat × Int32 × Int32 × Int32 × Int32) ⊕ ((Nat × Nat × Int32 × Int32) ⊕ Unit)) :=
  if l6 < 0 then (m_B (f122_106 l0 l2 l3 l4) (fun r => m_R (.inr r))) else (m_B (m_gR 10 l0 5) (fun r1 => m_B (m_gR 10 l0 3) (fun r2 => m_B (m_lI r2 ((l5 * 3) + l6)) (fun v3 => m_B (m_wI r1 l3 v3) (fun _ => m_R (.inl (l0, l2, (l3 + 1), l4, l5, (l6 + (-1)))))))))
theorem f122_74b_ok {l0 : Nat} {l2 : Nat} {l3 : Int32} {l4 : Int32} {l5 : Int32} {l6 : Int32} {h : q_H} {o : q_O} {hz : q_H} {x : ((Nat × Nat × Int32 × Int32 × Int32 × Int32) ⊕ ((Nat × Nat × Int32 × Int32) ⊕ Unit)) × q_H} (hf : f122_74b l0 l2 l3 l4 l5 l6 h = some x) (hK : (m_yK (fun (s : Nat × Nat × Int32 × Int32 × Int32 × Int32) (h : q_H) => q_Ev none 122 74 [(0, .ref (s.1)), (2, .ref (s.2.1)), (3, .int (s.2.2.1)), (4, .int (s.2.2.2.1)), (5, .int (s.2.2.2.2.1)), (6, .int (s.2.2.2.2.2))] [] h o hz) (m_yK (fun (s : Nat × Nat × Int32 × Int32) (h : q_H) => q_Ev none 122 16 [(0, .ref (s.1)), (2, .ref (s.2.1)), (3, .int (s.2.2.1)), (4, .int (s.2.2.2))] [] h o hz) (m_KU o hz))) x) : q_Ev none 122 74 [(0, .ref l0), (2, .ref l2), (3, .int l3), (4, .int l4), (5, .int l5), (6, .int l6)] [] h o hz := by
  unfold f122_74b at hf
  refine ev_iload (q_cod qk122 rfl) (by decide) rfl ?_
  refine em_if_lt (q_cod qk122 rfl) (by decide) hf (fun c4 hf => ?_) (fun c4 hf => ?_)
  · obtain ⟨y0, hf0, hx⟩ := m_inr_some hf
    subst hx
    exact ev_weak (q_pk [0, 1, 2, 3] rfl) (f122_106_ok hf0 hK)
  · refine ev_aload_n (q_cod qk122 rfl) (by decide) rfl ?_
    refine em_gR (q_cod qk122 rfl) (by decide) (by decide) hf (fun r1 hf => ?_)
    refine ev_iload_n (q_cod qk122 rfl) (by decide) rfl ?_
    refine ev_aload_n (q_cod qk122 rfl) (by decide) rfl ?_
    refine em_gR (q_cod qk122 rfl) (by decide) (by decide) hf (fun r2 hf => ?_)
    refine ev_iload (q_cod qk122 rfl) (by decide) rfl ?_
    refine ev_ic (v := 3) (q_cod qk122 rfl) (by decide) (by decide) ?_
    refine ev_imul (q_cod qk122 rfl) (by decide) ?_
    refine ev_iload (q_cod qk122 rfl) (by decide) rfl ?_
    refine ev_iadd (q_cod qk122 rfl) (by decide) ?_
    refine em_lI (q_cod qk122 rfl) (by decide) hf (fun v3 hf => ?_)
    refine em_wI (q_cod qk122 rfl) (by decide) hf (fun hf => ?_)
    refine ev_inc (v := l3 + 1) (L' := [(0, .ref l0), (2, .ref l2), (3, .int (l3 + 1)), (4, .int l4), (5, .int l5), (6, .int l6)]) (q_cod qk122 rfl) (by decide) rfl rfl rfl ?_
    refine ev_inc (v := l6 + (-1)) (L' := [(0, .ref l0), (2, .ref l2), (3, .int (l3 + 1)), (4, .int l4), (5, .int l5), (6, .int (l6 + (-1)))]) (q_cod qk122 rfl) (by decide) rfl rfl rfl ?_
    refine ev_goto (q_cod qk122 rfl) (by decide) ?_
    obtain rfl := m_R_inv hf
    exact (show q_Ev none 122 74 [(0, .ref l0), (2, .ref l2), (3, .int (l3 + 1)), (4, .int l4), (5, .int l5), (6, .int (l6 + (-1)))] [] _ o hz from hK)
def f122_74 (l0 : Nat) (l2 : Nat) (l3 : Int32) (l4 : Int32) (l5 : Int32) (l6 : Int32) : m_M ((Nat × Nat × Int32 × Int32) ⊕ Unit) := m_W (fun s => f122_74b (s.1) (s.2.1) (s.2.2.1) (s.2.2.2.1) (s.2.2.2.2.1) (s.2.2.2.2.2)) 1000000 (l0, l2, l3, l4, l5, l6)
theorem f122_74_ok {l0 : Nat} {l2 : Nat} {l3 : Int32} {l4 : Int32} {l5 : Int32} {l6 : Int32} {h : q_H} {o : q_O} {hz : q_H} {x : ((Nat × Nat × Int32 × Int32) ⊕ Unit) × q_H} (hf : f122_74 l0 l2 l3 l4 l5 l6 h = some x) (hK : (m_yK (fun (s : Nat × Nat × Int32 × Int32) (h : q_H) => q_Ev none 122 16 [(0, .ref (s.1)), (2, .ref (s.2.1)), (3, .int (s.2.2.1)), (4, .int (s.2.2.2))] [] h o hz) (m_KU o hz)) x) : q_Ev none 122 74 [(0, .ref l0), (2, .ref l2), (3, .int l3), (4, .int l4), (5, .int l5), (6, .int l6)] [] h o hz :=
  m_W_ok (P := (fun (s : Nat × Nat × Int32 × Int32 × Int32 × Int32) (h : q_H) => q_Ev none 122 74 [(0, .ref (s.1)), (2, .ref (s.2.1)), (3, .int (s.2.2.1)), (4, .int (s.2.2.2.1)), (5, .int (s.2.2.2.2.1)), (6, .int (s.2.2.2.2.2))] [] h o hz)) (K := (m_yK (fun (s : Nat × Nat × Int32 × Int32) (h : q_H) => q_Ev none 122 16 [(0, .ref (s.1)), (2, .ref (s.2.1)), (3, .int (s.2.2.1)), (4, .int (s.2.2.2))] [] h o hz) (m_KU o hz))) (fun s h x h1 h2 => f122_74b_ok h1 h2) _ (l0, l2, l3, l4, l5, l6) _ _ hf hK
def f122_112  : m_M Unit :=
  m_R ()
theorem f122_112_ok  {h : q_H} {o : q_O} {hz : q_H} {x : Unit × q_H} (hf : f122_112 h = some x) (hK : (m_KU o hz) x) : q_Ev none 122 112 [] [] h o hz := by
  unfold f122_112 at hf
  obtain rfl := m_R_inv hf
  obtain ⟨rfl, rfl⟩ := (show m_KU o hz ((), _) from hK)
  exact ev_ret (q_cod qk122 rfl) rfl
def f122_16b (l0 : Nat) (l2 : Nat) (l3 : Int32) (l4 : Int32) : m_M ((Nat × Nat × Int32 × Int32) ⊕ Unit) :=
  if l4 < 60 then (if 0 < l3 then (m_B (m_gR 10 l0 5) (fun r1 => m_B (m_lI r1 (l3 + (-1))) (fun v2 => m_B (m_gR 10 l0 0) (fun r3 => m_B (m_lI r3 v2) (fun v4 => m_B (m_gR 10 l0 1) (fun r5 => m_B (m_lI r5 v2) (fun v6 => m_B (m_gR 10 l0 2) (fun r7 => m_B (m_lI r7 v2) (fun v8 => m_B (m_aK l2 0) (fun _ => m_B (f2 l2 v4 v6 v8) (fun _ => m_B (m_gR 10 l0 2) (fun r11 => m_B (m_lI r11 v2) (fun v12 => f122_74 l0 l2 (l3 + (-1)) l4 v2 (v12 - 1)))))))))))))) else (m_B (f122_112) (fun r => m_R (.inr r)))) else (m_B (f122_112) (fun r => m_R (.inr r)))
theorem f122_16b_ok {l0 : Nat} {l2 : Nat} {l3 : Int32} {l4 : Int32} {h : q_H} {o : q_O} {hz : q_H} {x : ((Nat × Nat × Int32 × Int32) ⊕ Unit) × q_H} (hf : f122_16b l0 l2 l3 l4 h = some x) (hK : (m_yK (fun (s : Nat × Nat × Int32 × Int32) (h : q_H) => q_Ev none 122 16 [(0, .ref (s.1)), (2, .ref (s.2.1)), (3, .int (s.2.2.1)), (4, .int (s.2.2.2))] [] h o hz) (m_KU o hz)) x) : q_Ev none 122 16 [(0, .ref l0), (2, .ref l2), (3, .int l3), (4, .int l4)] [] h o hz := by
  unfold f122_16b at hf
  refine ev_iload (q_cod qk122 rfl) (by decide) rfl ?_
  refine ev_bi (v := 60) (q_cod qk122 rfl) (by decide) (by decide) ?_
  refine em_ic_ge (q_cod qk122 rfl) (by decide) hf (fun c14 hf => ?_) (fun c14 hf => ?_)
  · refine ev_iload_n (q_cod qk122 rfl) (by decide) rfl ?_
    refine em_if_le (q_cod qk122 rfl) (by decide) hf (fun c13 hf => ?_) (fun c13 hf => ?_)
    · refine ev_inc (v := l3 + (-1)) (L' := [(0, .ref l0), (2, .ref l2), (3, .int (l3 + (-1))), (4, .int l4)]) (q_cod qk122 rfl) (by decide) rfl rfl rfl ?_
      refine ev_aload_n (q_cod qk122 rfl) (by decide) rfl ?_
      refine em_gR (q_cod qk122 rfl) (by decide) (by decide) hf (fun r1 hf => ?_)
      refine ev_iload_n (q_cod qk122 rfl) (by decide) rfl ?_
      refine em_lI (q_cod qk122 rfl) (by decide) hf (fun v2 hf => ?_)
      refine ev_is2 (L' := [(0, .ref l0), (2, .ref l2), (3, .int (l3 + (-1))), (4, .int l4), (5, .int v2)]) (q_cod qk122 rfl) (by decide) rfl ?_
      refine ev_aload_n (q_cod qk122 rfl) (by decide) rfl ?_
      refine ev_aload_n (q_cod qk122 rfl) (by decide) rfl ?_
      refine em_gR (q_cod qk122 rfl) (by decide) (by decide) hf (fun r3 hf => ?_)
      refine ev_iload (q_cod qk122 rfl) (by decide) rfl ?_
      refine em_lI (q_cod qk122 rfl) (by decide) hf (fun v4 hf => ?_)
      refine ev_aload_n (q_cod qk122 rfl) (by decide) rfl ?_
      refine em_gR (q_cod qk122 rfl) (by decide) (by decide) hf (fun r5 hf => ?_)
      refine ev_iload (q_cod qk122 rfl) (by decide) rfl ?_
      refine em_lI (q_cod qk122 rfl) (by decide) hf (fun v6 hf => ?_)
      refine ev_aload_n (q_cod qk122 rfl) (by decide) rfl ?_
      refine em_gR (q_cod qk122 rfl) (by decide) (by decide) hf (fun r7 hf => ?_)
      refine ev_iload (q_cod qk122 rfl) (by decide) rfl ?_
      refine em_lI (q_cod qk122 rfl) (by decide) hf (fun v8 hf => ?_)
      obtain ⟨g9, hf⟩ := m_aK_some hf
      refine em_call (v := (fun _ => none)) (q_cod qk122 rfl) rfl rfl (q_cokV rfl rfl (Or.inr g9)) rfl (fun x e => f2_cl e) hf (fun _ h hf => ?_)
      refine ev_aload_n (q_cod qk122 rfl) (by decide) rfl ?_
      refine em_gR (q_cod qk122 rfl) (by decide) (by decide) hf (fun r11 hf => ?_)
      refine ev_iload (q_cod qk122 rfl) (by decide) rfl ?_
      refine em_lI (q_cod qk122 rfl) (by decide) hf (fun v12 hf => ?_)
      refine ev_ic (v := 1) (q_cod qk122 rfl) (by decide) (by decide) ?_
      refine ev_isub (q_cod qk122 rfl) (by decide) ?_
      refine ev_is2 (L' := [(0, .ref l0), (2, .ref l2), (3, .int (l3 + (-1))), (4, .int l4), (5, .int v2), (6, .int (v12 - 1))]) (q_cod qk122 rfl) (by decide) rfl ?_
      exact (f122_74_ok hf hK)
    · obtain ⟨y0, hf0, hx⟩ := m_inr_some hf
      subst hx
      exact ev_weak (q_pk [] rfl) (f122_112_ok hf0 hK)
  · obtain ⟨y0, hf0, hx⟩ := m_inr_some hf
    subst hx
    exact ev_weak (q_pk [] rfl) (f122_112_ok hf0 hK)
def f122_16 (l0 : Nat) (l2 : Nat) (l3 : Int32) (l4 : Int32) : m_M Unit := m_W (fun s => f122_16b (s.1) (s.2.1) (s.2.2.1) (s.2.2.2)) 1000000 (l0, l2, l3, l4)
theorem f122_16_ok {l0 : Nat} {l2 : Nat} {l3 : Int32} {l4 : Int32} {h : q_H} {o : q_O} {hz : q_H} {x : Unit × q_H} (hf : f122_16 l0 l2 l3 l4 h = some x) (hK : (m_KU o hz) x) : q_Ev none 122 16 [(0, .ref l0), (2, .ref l2), (3, .int l3), (4, .int l4)] [] h o hz :=
  m_W_ok (P := (fun (s : Nat × Nat × Int32 × Int32) (h : q_H) => q_Ev none 122 16 [(0, .ref (s.1)), (2, .ref (s.2.1)), (3, .int (s.2.2.1)), (4, .int (s.2.2.2))] [] h o hz)) (K := (m_KU o hz)) (fun s h x h1 h2 => f122_16b_ok h1 h2) _ (l0, l2, l3, l4) _ _ hf hK
def f122 (l0 : Nat) (l1 : Int32) (l2 : Nat) : m_M Unit :=
  m_B (m_aK l2 0) (fun _ => m_B (f1 l2) (fun _ => m_B (m_gR 10 l0 5) (fun r3 => m_B (m_wI r3 0 l1) (fun _ => f122_16 l0 l2 1 0))))
theorem f122_ok {l0 : Nat} {l1 : Int32} {l2 : Nat} {h : q_H} {o : q_O} {hz : q_H} {x : Unit × q_H} (hf : f122 l0 l1 l2 h = some x) (hK : (m_KU o hz) x) : q_Ev none 122 0 [(0, .ref l0), (1, .int l1), (2, .ref l2)] [] h o hz := by
  unfold f122 at hf
  refine ev_aload_n (q_cod qk122 rfl) (by decide) rfl ?_
  obtain ⟨g1, hf⟩ := m_aK_some hf
  refine em_call (v := (fun _ => none)) (q_cod qk122 rfl) rfl rfl (q_cokV rfl rfl (Or.inr g1)) rfl (fun x e => f1_cl e) hf (fun _ h hf => ?_)
  refine ev_aload_n (q_cod qk122 rfl) (by decide) rfl ?_
  refine em_gR (q_cod qk122 rfl) (by decide) (by decide) hf (fun r3 hf => ?_)
  refine ev_ic (v := 0) (q_cod qk122 rfl) (by decide) (by decide) ?_
  refine ev_iload_n (q_cod qk122 rfl) (by decide) rfl ?_
  refine em_wI (q_cod qk122 rfl) (by decide) hf (fun hf => ?_)
  refine ev_ic (v := 1) (q_cod qk122 rfl) (by decide) (by decide) ?_
  refine ev_is1 (L' := [(0, .ref l0), (1, .int l1), (2, .ref l2), (3, .int 1)]) (q_cod qk122 rfl) (by decide) rfl ?_
  refine ev_ic (v := 0) (q_cod qk122 rfl) (by decide) (by decide) ?_
  refine ev_is2 (L' := [(0, .ref l0), (1, .int l1), (2, .ref l2), (3, .int 1), (4, .int 0)]) (q_cod qk122 rfl) (by decide) rfl ?_
  exact ev_weak (q_pk [0, 2, 3, 4] rfl) (f122_16_ok hf hK)
theorem f122_cl {l0 : Nat} {l1 : Int32} {l2 : Nat} {h : q_H} {x : Unit × q_H} (hf : f122 l0 l1 l2 h = some x) : q_Cl 122 [.ref l0, .int l1, .ref l2] h (.inl none) x.2 := q_Cl.of rfl (q_LvS rfl rfl) (f122_ok hf ⟨rfl, rfl⟩)
/-! SmithyBench.<init>()V -/
theorem qk123 : q_cs.getD 123 [] = qc_123 := rfl
def f123_169  : m_M Unit :=
  m_R ()
theorem f123_169_ok  {h : q_H} {o : q_O} {hz : q_H} {x : Unit × q_H} (hf : f123_169 h = some x) (hK : (m_KU o hz) x) : q_Ev none 123 169 [] [] h o hz := by
  unfold f123_169 at hf
  obtain rfl := m_R_inv hf
  obtain ⟨rfl, rfl⟩ := (show m_KU o hz ((), _) from hK)
  exact ev_ret (q_cod qk123 rfl) rfl
def f123_144b (l0 : Nat) (l1 : Int32) : m_M ((Nat × Int32) ⊕ Unit) :=
  if l1 < 10 then (m_B (m_gR 11 l0 9) (fun r1 => m_B (m_nO 7) (fun r2 => m_B (f69 r2) (fun _ => m_B (m_wR r1 l1 r2) (fun _ => m_R (.inl (l0, (l1 + 1)))))))) else (m_B (f123_169) (fun r => m_R (.inr r)))
theorem f123_144b_ok {l0 : Nat} {l1 : Int32} {h : q_H} {o : q_O} {hz : q_H} {x : ((Nat × Int32) ⊕ Unit) × q_H} (hf : f123_144b l0 l1 h = some x) (hK : (m_yK (fun (s : Nat × Int32) (h : q_H) => q_Ev none 123 144 [(0, .ref (s.1)), (1, .int (s.2))] [] h o hz) (m_KU o hz)) x) : q_Ev none 123 144 [(0, .ref l0), (1, .int l1)] [] h o hz := by
  unfold f123_144b at hf
  refine ev_iload_n (q_cod qk123 rfl) (by decide) rfl ?_
  refine ev_bi (v := 10) (q_cod qk123 rfl) (by decide) (by decide) ?_
  refine em_ic_ge (q_cod qk123 rfl) (by decide) hf (fun c4 hf => ?_) (fun c4 hf => ?_)
  · refine ev_aload_n (q_cod qk123 rfl) (by decide) rfl ?_
    refine em_gR (q_cod qk123 rfl) (by decide) (by decide) hf (fun r1 hf => ?_)
    refine ev_iload_n (q_cod qk123 rfl) (by decide) rfl ?_
    refine em_nO (q_cod qk123 rfl) (by decide) hf (fun r2 h hf => ?_)
    refine ev_dup (q_cod qk123 rfl) (by decide) rfl ?_
    refine em_call (v := (fun _ => none)) (q_cod qk123 rfl) rfl rfl (q_cokV rfl rfl (Or.inl rfl)) rfl (fun x e => f69_cl e) hf (fun _ h hf => ?_)
    refine em_wR (q_cod qk123 rfl) (by decide) hf (fun hf => ?_)
    refine ev_inc (v := l1 + 1) (L' := [(0, .ref l0), (1, .int (l1 + 1))]) (q_cod qk123 rfl) (by decide) rfl rfl rfl ?_
    refine ev_goto (q_cod qk123 rfl) (by decide) ?_
    obtain rfl := m_R_inv hf
    exact (show q_Ev none 123 144 [(0, .ref l0), (1, .int (l1 + 1))] [] _ o hz from hK)
  · obtain ⟨y0, hf0, hx⟩ := m_inr_some hf
    subst hx
    exact ev_weak (q_pk [] rfl) (f123_169_ok hf0 hK)
def f123_144 (l0 : Nat) (l1 : Int32) : m_M Unit := m_W (fun s => f123_144b (s.1) (s.2)) 1000000 (l0, l1)
theorem f123_144_ok {l0 : Nat} {l1 : Int32} {h : q_H} {o : q_O} {hz : q_H} {x : Unit × q_H} (hf : f123_144 l0 l1 h = some x) (hK : (m_KU o hz) x) : q_Ev none 123 144 [(0, .ref l0), (1, .int l1)] [] h o hz :=
  m_W_ok (P := (fun (s : Nat × Int32) (h : q_H) => q_Ev none 123 144 [(0, .ref (s.1)), (1, .int (s.2))] [] h o hz)) (K := (m_KU o hz)) (fun s h x h1 h2 => f123_144b_ok h1 h2) _ (l0, l1) _ _ hf hK
def f123 (l0 : Nat) : m_M Unit :=
  m_B (m_nO 10) (fun r1 => m_B (f119 r1) (fun _ => m_B (m_pR 11 l0 0 r1) (fun _ => m_B (m_nO 1) (fun r3 => m_B (f20 r3) (fun _ => m_B (m_pR 11 l0 1 r3) (fun _ => m_B (m_nO 5) (fun r5 => m_B (f43 r5) (fun _ => m_B (m_pR 11 l0 2 r5) (fun _ => m_B (m_nO 8) (fun r7 => m_B (f105 r7) (fun _ => m_B (m_pR 11 l0 3 r7) (fun _ => m_B (m_nO 3) (fun r9 => m_B (m_gR 11 l0 1) (fun r10 => m_B (f35 r9 r10) (fun _ => m_B (m_pR 11 l0 4 r9) (fun _ => m_B (m_nO 2) (fun r12 => m_B (f30 r12) (fun _ => m_B (m_pR 11 l0 5 r12) (fun _ => m_B (m_nO 9) (fun r14 => m_B (f110 r14) (fun _ => m_B (m_pR 11 l0 6 r14) (fun _ => m_B (m_nO 6) (fun r16 => m_B (m_gR 11 l0 1) (fun r17 => m_B (f59 r16 r17) (fun _ => m_B (m_pR 11 l0 7 r16) (fun _ => m_B (m_nO 7) (fun r19 => m_B (f69 r19) (fun _ => m_B (m_pR 11 l0 8 r19) (fun _ => m_B (m_nA 23 10) (fun r21 => m_B (m_pR 11 l0 9 r21) (fun _ => m_B (m_nO 7) (fun r22 => m_B (f69 r22) (fun _ => m_B (m_pR 11 l0 10 r22) (fun _ => m_B (m_nO 7) (fun r24 => m_B (f69 r24) (fun _ => m_B (m_pR 11 l0 11 r24) (fun _ => f123_144 l0 0)))))))))))))))))))))))))))))))))))))
theorem f123_ok {l0 : Nat} {h : q_H} {o : q_O} {hz : q_H} {x : Unit × q_H} (hf : f123 l0 h = some x) (hK : (m_KU o hz) x) : q_Ev none 123 0 [(0, .ref l0)] [] h o hz := by
  unfold f123 at hf
  refine ev_aload_n (q_cod qk123 rfl) (by decide) rfl ?_
  refine ev_objinit (q_cod qk123 rfl) (Nat.le_of_ble_eq_true rfl) ?_
  refine ev_aload_n (q_cod qk123 rfl) (by decide) rfl ?_
  refine em_nO (q_cod qk123 rfl) (by decide) hf (fun r1 h hf => ?_)
  refine ev_dup (q_cod qk123 rfl) (by decide) rfl ?_
  refine em_call (v := (fun _ => none)) (q_cod qk123 rfl) rfl rfl (q_cokV rfl rfl (Or.inl rfl)) rfl (fun x e => f119_cl e) hf (fun _ h hf => ?_)
  refine em_pR (q_cod qk123 rfl) (by decide) (by decide) (by decide) hf (fun hf => ?_)
  refine ev_aload_n (q_cod qk123 rfl) (by decide) rfl ?_
  refine em_nO (q_cod qk123 rfl) (by decide) hf (fun r3 h hf => ?_)
  refine ev_dup (q_cod qk123 rfl) (by decide) rfl ?_
  refine em_call (v := (fun _ => none)) (q_cod qk123 rfl) rfl rfl (q_cokV rfl rfl (Or.inl rfl)) rfl (fun x e => f20_cl e) hf (fun _ h hf => ?_)
  refine em_pR (q_cod qk123 rfl) (by decide) (by decide) (by decide) hf (fun hf => ?_)
  refine ev_aload_n (q_cod qk123 rfl) (by decide) rfl ?_
  refine em_nO (q_cod qk123 rfl) (by decide) hf (fun r5 h hf => ?_)
  refine ev_dup (q_cod qk123 rfl) (by decide) rfl ?_
  refine em_call (v := (fun _ => none)) (q_cod qk123 rfl) rfl rfl (q_cokV rfl rfl (Or.inl rfl)) rfl (fun x e => f43_cl e) hf (fun _ h hf => ?_)
  refine em_pR (q_cod qk123 rfl) (by decide) (by decide) (by decide) hf (fun hf => ?_)
  refine ev_aload_n (q_cod qk123 rfl) (by decide) rfl ?_
  refine em_nO (q_cod qk123 rfl) (by decide) hf (fun r7 h hf => ?_)
  refine ev_dup (q_cod qk123 rfl) (by decide) rfl ?_
  refine em_call (v := (fun _ => none)) (q_cod qk123 rfl) rfl rfl (q_cokV rfl rfl (Or.inl rfl)) rfl (fun x e => f105_cl e) hf (fun _ h hf => ?_)
  refine em_pR (q_cod qk123 rfl) (by decide) (by decide) (by decide) hf (fun hf => ?_)
  refine ev_aload_n (q_cod qk123 rfl) (by decide) rfl ?_
  refine em_nO (q_cod qk123 rfl) (by decide) hf (fun r9 h hf => ?_)
  refine ev_dup (q_cod qk123 rfl) (by decide) rfl ?_
  refine ev_aload_n (q_cod qk123 rfl) (by decide) rfl ?_
  refine em_gR (q_cod qk123 rfl) (by decide) (by decide) hf (fun r10 hf => ?_)
  refine em_call (v := (fun _ => none)) (q_cod qk123 rfl) rfl rfl (q_cokV rfl rfl (Or.inl rfl)) rfl (fun x e => f35_cl e) hf (fun _ h hf => ?_)
  refine em_pR (q_cod qk123 rfl) (by decide) (by decide) (by decide) hf (fun hf => ?_)
  refine ev_aload_n (q_cod qk123 rfl) (by decide) rfl ?_
  refine em_nO (q_cod qk123 rfl) (by decide) hf (fun r12 h hf => ?_)
  refine ev_dup (q_cod qk123 rfl) (by decide) rfl ?_
  refine em_call (v := (fun _ => none)) (q_cod qk123 rfl) rfl rfl (q_cokV rfl rfl (Or.inl rfl)) rfl (fun x e => f30_cl e) hf (fun _ h hf => ?_)
  refine em_pR (q_cod qk123 rfl) (by decide) (by decide) (by decide) hf (fun hf => ?_)
  refine ev_aload_n (q_cod qk123 rfl) (by decide) rfl ?_
  refine em_nO (q_cod qk123 rfl) (by decide) hf (fun r14 h hf => ?_)
  refine ev_dup (q_cod qk123 rfl) (by decide) rfl ?_
  refine em_call (v := (fun _ => none)) (q_cod qk123 rfl) rfl rfl (q_cokV rfl rfl (Or.inl rfl)) rfl (fun x e => f110_cl e) hf (fun _ h hf => ?_)
  refine em_pR (q_cod qk123 rfl) (by decide) (by decide) (by decide) hf (fun hf => ?_)
  refine ev_aload_n (q_cod qk123 rfl) (by decide) rfl ?_
  refine em_nO (q_cod qk123 rfl) (by decide) hf (fun r16 h hf => ?_)
  refine ev_dup (q_cod qk123 rfl) (by decide) rfl ?_
  refine ev_aload_n (q_cod qk123 rfl) (by decide) rfl ?_
  refine em_gR (q_cod qk123 rfl) (by decide) (by decide) hf (fun r17 hf => ?_)
  refine em_call (v := (fun _ => none)) (q_cod qk123 rfl) rfl rfl (q_cokV rfl rfl (Or.inl rfl)) rfl (fun x e => f59_cl e) hf (fun _ h hf => ?_)
  refine em_pR (q_cod qk123 rfl) (by decide) (by decide) (by decide) hf (fun hf => ?_)
  refine ev_aload_n (q_cod qk123 rfl) (by decide) rfl ?_
  refine em_nO (q_cod qk123 rfl) (by decide) hf (fun r19 h hf => ?_)
  refine ev_dup (q_cod qk123 rfl) (by decide) rfl ?_
  refine em_call (v := (fun _ => none)) (q_cod qk123 rfl) rfl rfl (q_cokV rfl rfl (Or.inl rfl)) rfl (fun x e => f69_cl e) hf (fun _ h hf => ?_)
  refine em_pR (q_cod qk123 rfl) (by decide) (by decide) (by decide) hf (fun hf => ?_)
  refine ev_aload_n (q_cod qk123 rfl) (by decide) rfl ?_
  refine ev_bi (v := 10) (q_cod qk123 rfl) (by decide) (by decide) ?_
  refine em_nR (q_cod qk123 rfl) (by decide) (by decide) hf (fun r21 h hf => ?_)
  refine em_pR (q_cod qk123 rfl) (by decide) (by decide) (by decide) hf (fun hf => ?_)
  refine ev_aload_n (q_cod qk123 rfl) (by decide) rfl ?_
  refine em_nO (q_cod qk123 rfl) (by decide) hf (fun r22 h hf => ?_)
  refine ev_dup (q_cod qk123 rfl) (by decide) rfl ?_
  refine em_call (v := (fun _ => none)) (q_cod qk123 rfl) rfl rfl (q_cokV rfl rfl (Or.inl rfl)) rfl (fun x e => f69_cl e) hf (fun _ h hf => ?_)
  refine em_pR (q_cod qk123 rfl) (by decide) (by decide) (by decide) hf (fun hf => ?_)
  refine ev_aload_n (q_cod qk123 rfl) (by decide) rfl ?_
  refine em_nO (q_cod qk123 rfl) (by decide) hf (fun r24 h hf => ?_)
  refine ev_dup (q_cod qk123 rfl) (by decide) rfl ?_
  refine em_call (v := (fun _ => none)) (q_cod qk123 rfl) rfl rfl (q_cokV rfl rfl (Or.inl rfl)) rfl (fun x e => f69_cl e) hf (fun _ h hf => ?_)
  refine em_pR (q_cod qk123 rfl) (by decide) (by decide) (by decide) hf (fun hf => ?_)
  refine ev_ic (v := 0) (q_cod qk123 rfl) (by decide) (by decide) ?_
  refine ev_is1 (L' := [(0, .ref l0), (1, .int 0)]) (q_cod qk123 rfl) (by decide) rfl ?_
  exact (f123_144_ok hf hK)
theorem f123_cl {l0 : Nat} {h : q_H} {x : Unit × q_H} (hf : f123 l0 h = some x) : q_Cl 123 [.ref l0] h (.inl none) x.2 := q_Cl.of rfl (q_LvS rfl rfl) (f123_ok hf ⟨rfl, rfl⟩)
/-! SmithyBench.requireRoomForNode()V -/
theorem qk157 : q_cs.getD 157 [] = qc_157 := rfl
def f157 (l0 : Nat) : m_M (Unit ⊕ Nat) :=
  m_B (m_gR 11 l0 0) (fun r1 => m_B (m_gI 10 r1 6) (fun v2 => if v2 < 150 then (m_R (.inl ())) else (m_thr 0)))
theorem f157_ok {l0 : Nat} {h : q_H} {o : q_O} {hz : q_H} {x : (Unit ⊕ Nat) × q_H} (hf : f157 l0 h = some x) (hK : (q_KVX o hz) x) : q_Ev none 157 0 [(0, .ref l0)] [] h o hz := by
  unfold f157 at hf
  refine ev_aload_n (q_cod qk157 rfl) (by decide) rfl ?_
  refine em_gR (q_cod qk157 rfl) (by decide) (by decide) hf (fun r1 hf => ?_)
  refine em_gI (q_cod qk157 rfl) (by decide) (by decide) hf (fun v2 hf => ?_)
  refine ev_si (v := 150) (q_cod qk157 rfl) (by decide) (by decide) ?_
  refine em_ic_lt (q_cod qk157 rfl) (by decide) hf (fun c3 hf => ?_) (fun c3 hf => ?_)
  · obtain rfl := m_R_inv hf
    obtain ⟨rfl, rfl⟩ := (show q_KVX o hz ((.inl ()), _) from hK)
    exact ev_ret (q_cod qk157 rfl) rfl
  · cases hf
    obtain ⟨rfl, rfl⟩ := (show q_KVX o hz (.inr 0, q_ex1 _) from hK)
    exact em_throw (q_cod qk157 rfl) (by decide) (by decide) rfl (Nat.le_of_ble_eq_true rfl)
theorem f157_cl {l0 : Nat} {h : q_H} {x : (Unit ⊕ Nat) × q_H} (hf : f157 l0 h = some x) : q_Cl 157 [.ref l0] h (q_oX (fun _ => none) x.1) x.2 := q_Cl.of rfl (q_LvS rfl rfl) (f157_ok hf ⟨rfl, rfl⟩)
/-! SmithyBench.number(I)I -/
theorem qk124 : q_cs.getD 124 [] = qc_124 := rfl
def f124 (l0 : Nat) (l1 : Int32) : m_M (Int32 ⊕ Nat) :=
  m_B (m_aK l0 11) (fun _ => m_T (f157 l0) (fun _ => m_B (m_gR 11 l0 0) (fun r4 => m_B (m_aK r4 10) (fun _ => m_B (f120 r4 0 l1 (-1) (-1) (-1)) (fun v6 => m_R (.inl v6))))) (fun E3 => m_B (m_G (E3 < 3)) (fun _ => m_R (.inr E3))))
theorem f124_ok {l0 : Nat} {l1 : Int32} {h : q_H} {o : q_O} {hz : q_H} {x : (Int32 ⊕ Nat) × q_H} (hf : f124 l0 l1 h = some x) (hK : (q_KIX o hz) x) : q_Ev none 124 0 [(0, .ref l0), (1, .int l1)] [] h o hz := by
  unfold f124 at hf
  refine ev_aload_n (q_cod qk124 rfl) (by decide) rfl ?_
  obtain ⟨g1, hf⟩ := m_aK_some hf
  refine em_callX (v := (fun _ => none)) (q_cod qk124 rfl) (by decide) (q_cokV rfl rfl (Or.inr g1)) rfl (fun x e => f157_cl e) rfl hf (fun _ h hf => ?_) (fun E3 h hf => ?_)
  · refine ev_aload_n (q_cod qk124 rfl) (by decide) rfl ?_
    refine em_gR (q_cod qk124 rfl) (by decide) (by decide) hf (fun r4 hf => ?_)
    refine ev_ic (v := 0) (q_cod qk124 rfl) (by decide) (by decide) ?_
    refine ev_iload_n (q_cod qk124 rfl) (by decide) rfl ?_
    refine ev_ic (v := (-1)) (q_cod qk124 rfl) (by decide) (by decide) ?_
    refine ev_ic (v := (-1)) (q_cod qk124 rfl) (by decide) (by decide) ?_
    refine ev_ic (v := (-1)) (q_cod qk124 rfl) (by decide) (by decide) ?_
    obtain ⟨g5, hf⟩ := m_aK_some hf
    refine em_call (v := (fun u => some (.int u))) (q_cod qk124 rfl) rfl rfl (q_cokV rfl rfl (Or.inr g5)) rfl (fun x e => f120_cl e) hf (fun v6 h hf => ?_)
    obtain rfl := m_R_inv hf
    obtain ⟨rfl, rfl⟩ := (show q_KIX o hz ((.inl v6), _) from hK)
    exact ev_ret (q_cod qk124 rfl) rfl
  · obtain ⟨g, hf⟩ := m_G_some hf
    obtain rfl := m_R_inv hf
    exact ⟨g, hK⟩
theorem f124_cl {l0 : Nat} {l1 : Int32} {h : q_H} {x : (Int32 ⊕ Nat) × q_H} (hf : f124 l0 l1 h = some x) : q_Cl 124 [.ref l0, .int l1] h (q_oX (fun u => some (.int u)) x.1) x.2 := q_Cl.of rfl (q_LvS rfl rfl) (f124_ok hf ⟨rfl, rfl⟩)
/-! SmithyBench.requireName(I)V -/
theorem qk160 : q_cs.getD 160 [] = qc_160 := rfl
def f160_10  : m_M (Unit ⊕ Nat) :=
  m_thr 1
theorem f160_10_ok  {h : q_H} {o : q_O} {hz : q_H} {x : (Unit ⊕ Nat) × q_H} (hf : f160_10 h = some x) (hK : (q_KVX o hz) x) : q_Ev none 160 10 [] [] h o hz := by
  unfold f160_10 at hf
  cases hf
  obtain ⟨rfl, rfl⟩ := (show q_KVX o hz (.inr 1, q_ex1 _) from hK)
  exact em_throw (q_cod qk160 rfl) (by decide) (by decide) rfl (Nat.le_of_ble_eq_true rfl)
def f160 (l0 : Nat) (l1 : Int32) : m_M (Unit ⊕ Nat) :=
  if l1 < 0 then (f160_10) else (if l1 < 16 then (m_R (.inl ())) else (f160_10))
theorem f160_ok {l0 : Nat} {l1 : Int32} {h : q_H} {o : q_O} {hz : q_H} {x : (Unit ⊕ Nat) × q_H} (hf : f160 l0 l1 h = some x) (hK : (q_KVX o hz) x) : q_Ev none 160 0 [(0, .ref l0), (1, .int l1)] [] h o hz := by
  unfold f160 at hf
  refine ev_iload_n (q_cod qk160 rfl) (by decide) rfl ?_
  refine em_if_lt (q_cod qk160 rfl) (by decide) hf (fun c2 hf => ?_) (fun c2 hf => ?_)
  · exact ev_weak (q_pk [] rfl) (f160_10_ok hf hK)
  · refine ev_iload_n (q_cod qk160 rfl) (by decide) rfl ?_
    refine ev_bi (v := 16) (q_cod qk160 rfl) (by decide) (by decide) ?_
    refine em_ic_lt (q_cod qk160 rfl) (by decide) hf (fun c1 hf => ?_) (fun c1 hf => ?_)
    · obtain rfl := m_R_inv hf
      obtain ⟨rfl, rfl⟩ := (show q_KVX o hz ((.inl ()), _) from hK)
      exact ev_ret (q_cod qk160 rfl) rfl
    · exact ev_weak (q_pk [] rfl) (f160_10_ok hf hK)
theorem f160_cl {l0 : Nat} {l1 : Int32} {h : q_H} {x : (Unit ⊕ Nat) × q_H} (hf : f160 l0 l1 h = some x) : q_Cl 160 [.ref l0, .int l1] h (q_oX (fun _ => none) x.1) x.2 := q_Cl.of rfl (q_LvS rfl rfl) (f160_ok hf ⟨rfl, rfl⟩)
/-! SmithyBench.var(I)I -/
theorem qk125 : q_cs.getD 125 [] = qc_125 := rfl
def f125 (l0 : Nat) (l1 : Int32) : m_M (Int32 ⊕ Nat) :=
  m_B (m_aK l0 11) (fun _ => m_T (f160 l0 l1) (fun _ => m_B (m_aK l0 11) (fun _ => m_T (f157 l0) (fun _ => m_B (m_gR 11 l0 0) (fun r7 => m_B (m_aK r7 10) (fun _ => m_B (f120 r7 1 l1 (-1) (-1) (-1)) (fun v9 => m_R (.inl v9))))) (fun E6 => m_B (m_G (E6 < 3)) (fun _ => m_R (.inr E6))))) (fun E3 => m_B (m_G (E3 < 3)) (fun _ => m_R (.inr E3))))
theorem f125_ok {l0 : Nat} {l1 : Int32} {h : q_H} {o : q_O} {hz : q_H} {x : (Int32 ⊕ Nat) × q_H} (hf : f125 l0 l1 h = some x) (hK : (q_KIX o hz) x) : q_Ev none 125 0 [(0, .ref l0), (1, .int l1)] [] h o hz := by
  unfold f125 at hf
  refine ev_aload_n (q_cod qk125 rfl) (by decide) rfl ?_
  refine ev_iload_n (q_cod qk125 rfl) (by decide) rfl ?_
  obtain ⟨g1, hf⟩ := m_aK_some hf
  refine em_callX (v := (fun _ => none)) (q_cod qk125 rfl) (by decide) (q_cokV rfl rfl (Or.inr g1)) rfl (fun x e => f160_cl e) rfl hf (fun _ h hf => ?_) (fun E3 h hf => ?_)
  · refine ev_aload_n (q_cod qk125 rfl) (by decide) rfl ?_
    obtain ⟨g4, hf⟩ := m_aK_some hf
    refine em_callX (v := (fun _ => none)) (q_cod qk125 rfl) (by decide) (q_cokV rfl rfl (Or.inr g4)) rfl (fun x e => f157_cl e) rfl hf (fun _ h hf => ?_) (fun E6 h hf => ?_)
    · refine ev_aload_n (q_cod qk125 rfl) (by decide) rfl ?_
      refine em_gR (q_cod qk125 rfl) (by decide) (by decide) hf (fun r7 hf => ?_)
      refine ev_ic (v := 1) (q_cod qk125 rfl) (by decide) (by decide) ?_
      refine ev_iload_n (q_cod qk125 rfl) (by decide) rfl ?_
      refine ev_ic (v := (-1)) (q_cod qk125 rfl) (by decide) (by decide) ?_
      refine ev_ic (v := (-1)) (q_cod qk125 rfl) (by decide) (by decide) ?_
      refine ev_ic (v := (-1)) (q_cod qk125 rfl) (by decide) (by decide) ?_
      obtain ⟨g8, hf⟩ := m_aK_some hf
      refine em_call (v := (fun u => some (.int u))) (q_cod qk125 rfl) rfl rfl (q_cokV rfl rfl (Or.inr g8)) rfl (fun x e => f120_cl e) hf (fun v9 h hf => ?_)
      obtain rfl := m_R_inv hf
      obtain ⟨rfl, rfl⟩ := (show q_KIX o hz ((.inl v9), _) from hK)
      exact ev_ret (q_cod qk125 rfl) rfl
    · obtain ⟨g, hf⟩ := m_G_some hf
      obtain rfl := m_R_inv hf
      exact ⟨g, hK⟩
  · obtain ⟨g, hf⟩ := m_G_some hf
    obtain rfl := m_R_inv hf
    exact ⟨g, hK⟩
theorem f125_cl {l0 : Nat} {l1 : Int32} {h : q_H} {x : (Int32 ⊕ Nat) × q_H} (hf : f125 l0 l1 h = some x) : q_Cl 125 [.ref l0, .int l1] h (q_oX (fun u => some (.int u)) x.1) x.2 := q_Cl.of rfl (q_LvS rfl rfl) (f125_ok hf ⟨rfl, rfl⟩)
/-! SmithyBench.self()I -/
theorem qk126 : q_cs.getD 126 [] = qc_126 := rfl
def f126 (l0 : Nat) : m_M (Int32 ⊕ Nat) :=
  m_B (m_aK l0 11) (fun _ => m_T (f157 l0) (fun _ => m_B (m_gR 11 l0 0) (fun r4 => m_B (m_aK r4 10) (fun _ => m_B (f120 r4 2 0 (-1) (-1) (-1)) (fun v6 => m_R (.inl v6))))) (fun E3 => m_B (m_G (E3 < 3)) (fun _ => m_R (.inr E3))))
theorem f126_ok {l0 : Nat} {h : q_H} {o : q_O} {hz : q_H} {x : (Int32 ⊕ Nat) × q_H} (hf : f126 l0 h = some x) (hK : (q_KIX o hz) x) : q_Ev none 126 0 [(0, .ref l0)] [] h o hz := by
  unfold f126 at hf
  refine ev_aload_n (q_cod qk126 rfl) (by decide) rfl ?_
  obtain ⟨g1, hf⟩ := m_aK_some hf
  refine em_callX (v := (fun _ => none)) (q_cod qk126 rfl) (by decide) (q_cokV rfl rfl (Or.inr g1)) rfl (fun x e => f157_cl e) rfl hf (fun _ h hf => ?_) (fun E3 h hf => ?_)
  · refine ev_aload_n (q_cod qk126 rfl) (by decide) rfl ?_
    refine em_gR (q_cod qk126 rfl) (by decide) (by decide) hf (fun r4 hf => ?_)
    refine ev_ic (v := 2) (q_cod qk126 rfl) (by decide) (by decide) ?_
    refine ev_ic (v := 0) (q_cod qk126 rfl) (by decide) (by decide) ?_
    refine ev_ic (v := (-1)) (q_cod qk126 rfl) (by decide) (by decide) ?_
    refine ev_ic (v := (-1)) (q_cod qk126 rfl) (by decide) (by decide) ?_
    refine ev_ic (v := (-1)) (q_cod qk126 rfl) (by decide) (by decide) ?_
    obtain ⟨g5, hf⟩ := m_aK_some hf
    refine em_call (v := (fun u => some (.int u))) (q_cod qk126 rfl) rfl rfl (q_cokV rfl rfl (Or.inr g5)) rfl (fun x e => f120_cl e) hf (fun v6 h hf => ?_)
    obtain rfl := m_R_inv hf
    obtain ⟨rfl, rfl⟩ := (show q_KIX o hz ((.inl v6), _) from hK)
    exact ev_ret (q_cod qk126 rfl) rfl
  · obtain ⟨g, hf⟩ := m_G_some hf
    obtain rfl := m_R_inv hf
    exact ⟨g, hK⟩
theorem f126_cl {l0 : Nat} {h : q_H} {x : (Int32 ⊕ Nat) × q_H} (hf : f126 l0 h = some x) : q_Cl 126 [.ref l0] h (q_oX (fun u => some (.int u)) x.1) x.2 := q_Cl.of rfl (q_LvS rfl rfl) (f126_ok hf ⟨rfl, rfl⟩)
/-! SmithyBench.requireNode(I)V -/
theorem qk158 : q_cs.getD 158 [] = qc_158 := rfl
def f158_15  : m_M (Unit ⊕ Nat) :=
  m_thr 2
theorem f158_15_ok  {h : q_H} {o : q_O} {hz : q_H} {x : (Unit ⊕ Nat) × q_H} (hf : f158_15 h = some x) (hK : (q_KVX o hz) x) : q_Ev none 158 15 [] [] h o hz := by
  unfold f158_15 at hf
  cases hf
  obtain ⟨rfl, rfl⟩ := (show q_KVX o hz (.inr 2, q_ex1 _) from hK)
  exact em_throw (q_cod qk158 rfl) (by decide) (by decide) rfl (Nat.le_of_ble_eq_true rfl)
def f158 (l0 : Nat) (l1 : Int32) : m_M (Unit ⊕ Nat) :=
  if l1 < 0 then (f158_15) else (m_B (m_gR 11 l0 0) (fun r1 => m_B (m_gI 10 r1 6) (fun v2 => if l1 < v2 then (m_R (.inl ())) else (f158_15))))
theorem f158_ok {l0 : Nat} {l1 : Int32} {h : q_H} {o : q_O} {hz : q_H} {x : (Unit ⊕ Nat) × q_H} (hf : f158 l0 l1 h = some x) (hK : (q_KVX o hz) x) : q_Ev none 158 0 [(0, .ref l0), (1, .int l1)] [] h o hz := by
  unfold f158 at hf
  refine ev_iload_n (q_cod qk158 rfl) (by decide) rfl ?_
  refine em_if_lt (q_cod qk158 rfl) (by decide) hf (fun c4 hf => ?_) (fun c4 hf => ?_)
  · exact ev_weak (q_pk [] rfl) (f158_15_ok hf hK)
  · refine ev_iload_n (q_cod qk158 rfl) (by decide) rfl ?_
    refine ev_aload_n (q_cod qk158 rfl) (by decide) rfl ?_
    refine em_gR (q_cod qk158 rfl) (by decide) (by decide) hf (fun r1 hf => ?_)
    refine em_gI (q_cod qk158 rfl) (by decide) (by decide) hf (fun v2 hf => ?_)
    refine em_ic_lt (q_cod qk158 rfl) (by decide) hf (fun c3 hf => ?_) (fun c3 hf => ?_)
    · obtain rfl := m_R_inv hf
      obtain ⟨rfl, rfl⟩ := (show q_KVX o hz ((.inl ()), _) from hK)
      exact ev_ret (q_cod qk158 rfl) rfl
    · exact ev_weak (q_pk [] rfl) (f158_15_ok hf hK)
theorem f158_cl {l0 : Nat} {l1 : Int32} {h : q_H} {x : (Unit ⊕ Nat) × q_H} (hf : f158 l0 l1 h = some x) : q_Cl 158 [.ref l0, .int l1] h (q_oX (fun _ => none) x.1) x.2 := q_Cl.of rfl (q_LvS rfl rfl) (f158_ok hf ⟨rfl, rfl⟩)
/-! SmithyBench.field(II)I -/
theorem qk127 : q_cs.getD 127 [] = qc_127 := rfl
def f127 (l0 : Nat) (l1 : Int32) (l2 : Int32) : m_M (Int32 ⊕ Nat) :=
  m_B (m_aK l0 11) (fun _ => m_T (f158 l0 l1) (fun _ => m_B (m_aK l0 11) (fun _ => m_T (f160 l0 l2) (fun _ => m_B (m_aK l0 11) (fun _ => m_T (f157 l0) (fun _ => m_B (m_gR 11 l0 0) (fun r10 => m_B (m_aK r10 10) (fun _ => m_B (f120 r10 3 l2 l1 (-1) (-1)) (fun v12 => m_R (.inl v12))))) (fun E9 => m_B (m_G (E9 < 3)) (fun _ => m_R (.inr E9))))) (fun E6 => m_B (m_G (E6 < 3)) (fun _ => m_R (.inr E6))))) (fun E3 => m_B (m_G (E3 < 3)) (fun _ => m_R (.inr E3))))
theorem f127_ok {l0 : Nat} {l1 : Int32} {l2 : Int32} {h : q_H} {o : q_O} {hz : q_H} {x : (Int32 ⊕ Nat) × q_H} (hf : f127 l0 l1 l2 h = some x) (hK : (q_KIX o hz) x) : q_Ev none 127 0 [(0, .ref l0), (1, .int l1), (2, .int l2)] [] h o hz := by
  unfold f127 at hf
  refine ev_aload_n (q_cod qk127 rfl) (by decide) rfl ?_
  refine ev_iload_n (q_cod qk127 rfl) (by decide) rfl ?_
  obtain ⟨g1, hf⟩ := m_aK_some hf
  refine em_callX (v := (fun _ => none)) (q_cod qk127 rfl) (by decide) (q_cokV rfl rfl (Or.inr g1)) rfl (fun x e => f158_cl e) rfl hf (fun _ h hf => ?_) (fun E3 h hf => ?_)
  · refine ev_aload_n (q_cod qk127 rfl) (by decide) rfl ?_
    refine ev_iload_n (q_cod qk127 rfl) (by decide) rfl ?_
    obtain ⟨g4, hf⟩ := m_aK_some hf
    refine em_callX (v := (fun _ => none)) (q_cod qk127 rfl) (by decide) (q_cokV rfl rfl (Or.inr g4)) rfl (fun x e => f160_cl e) rfl hf (fun _ h hf => ?_) (fun E6 h hf => ?_)
    · refine ev_aload_n (q_cod qk127 rfl) (by decide) rfl ?_
      obtain ⟨g7, hf⟩ := m_aK_some hf
      refine em_callX (v := (fun _ => none)) (q_cod qk127 rfl) (by decide) (q_cokV rfl rfl (Or.inr g7)) rfl (fun x e => f157_cl e) rfl hf (fun _ h hf => ?_) (fun E9 h hf => ?_)
      · refine ev_aload_n (q_cod qk127 rfl) (by decide) rfl ?_
        refine em_gR (q_cod qk127 rfl) (by decide) (by decide) hf (fun r10 hf => ?_)
        refine ev_ic (v := 3) (q_cod qk127 rfl) (by decide) (by decide) ?_
        refine ev_iload_n (q_cod qk127 rfl) (by decide) rfl ?_
        refine ev_iload_n (q_cod qk127 rfl) (by decide) rfl ?_
        refine ev_ic (v := (-1)) (q_cod qk127 rfl) (by decide) (by decide) ?_
        refine ev_ic (v := (-1)) (q_cod qk127 rfl) (by decide) (by decide) ?_
        obtain ⟨g11, hf⟩ := m_aK_some hf
        refine em_call (v := (fun u => some (.int u))) (q_cod qk127 rfl) rfl rfl (q_cokV rfl rfl (Or.inr g11)) rfl (fun x e => f120_cl e) hf (fun v12 h hf => ?_)
        obtain rfl := m_R_inv hf
        obtain ⟨rfl, rfl⟩ := (show q_KIX o hz ((.inl v12), _) from hK)
        exact ev_ret (q_cod qk127 rfl) rfl
      · obtain ⟨g, hf⟩ := m_G_some hf
        obtain rfl := m_R_inv hf
        exact ⟨g, hK⟩
    · obtain ⟨g, hf⟩ := m_G_some hf
      obtain rfl := m_R_inv hf
      exact ⟨g, hK⟩
  · obtain ⟨g, hf⟩ := m_G_some hf
    obtain rfl := m_R_inv hf
    exact ⟨g, hK⟩
theorem f127_cl {l0 : Nat} {l1 : Int32} {l2 : Int32} {h : q_H} {x : (Int32 ⊕ Nat) × q_H} (hf : f127 l0 l1 l2 h = some x) : q_Cl 127 [.ref l0, .int l1, .int l2] h (q_oX (fun u => some (.int u)) x.1) x.2 := q_Cl.of rfl (q_LvS rfl rfl) (f127_ok hf ⟨rfl, rfl⟩)
/-! SmithyBench.put(III)I -/
theorem qk128 : q_cs.getD 128 [] = qc_128 := rfl
def f128 (l0 : Nat) (l1 : Int32) (l2 : Int32) (l3 : Int32) : m_M (Int32 ⊕ Nat) :=
  m_B (m_aK l0 11) (fun _ => m_T (f158 l0 l1) (fun _ => m_B (m_aK l0 11) (fun _ => m_T (f158 l0 l3) (fun _ => m_B (m_aK l0 11) (fun _ => m_T (f160 l0 l2) (fun _ => m_B (m_aK l0 11) (fun _ => m_T (f157 l0) (fun _ => m_B (m_gR 11 l0 0) (fun r13 => m_B (m_aK r13 10) (fun _ => m_B (f120 r13 4 l2 l1 l3 (-1)) (fun v15 => m_R (.inl v15))))) (fun E12 => m_B (m_G (E12 < 3)) (fun _ => m_R (.inr E12))))) (fun E9 => m_B (m_G (E9 < 3)) (fun _ => m_R (.inr E9))))) (fun E6 => m_B (m_G (E6 < 3)) (fun _ => m_R (.inr E6))))) (fun E3 => m_B (m_G (E3 < 3)) (fun _ => m_R (.inr E3))))
theorem f128_ok {l0 : Nat} {l1 : Int32} {l2 : Int32} {l3 : Int32} {h : q_H} {o : q_O} {hz : q_H} {x : (Int32 ⊕ Nat) × q_H} (hf : f128 l0 l1 l2 l3 h = some x) (hK : (q_KIX o hz) x) : q_Ev none 128 0 [(0, .ref l0), (1, .int l1), (2, .int l2), (3, .int l3)] [] h o hz := by
  unfold f128 at hf
  refine ev_aload_n (q_cod qk128 rfl) (by decide) rfl ?_
  refine ev_iload_n (q_cod qk128 rfl) (by decide) rfl ?_
  obtain ⟨g1, hf⟩ := m_aK_some hf
  refine em_callX (v := (fun _ => none)) (q_cod qk128 rfl) (by decide) (q_cokV rfl rfl (Or.inr g1)) rfl (fun x e => f158_cl e) rfl hf (fun _ h hf => ?_) (fun E3 h hf => ?_)
  · refine ev_aload_n (q_cod qk128 rfl) (by decide) rfl ?_
    refine ev_iload_n (q_cod qk128 rfl) (by decide) rfl ?_
    obtain ⟨g4, hf⟩ := m_aK_some hf
    refine em_callX (v := (fun _ => none)) (q_cod qk128 rfl) (by decide) (q_cokV rfl rfl (Or.inr g4)) rfl (fun x e => f158_cl e) rfl hf (fun _ h hf => ?_) (fun E6 h hf => ?_)
    · refine ev_aload_n (q_cod qk128 rfl) (by decide) rfl ?_
      refine ev_iload_n (q_cod qk128 rfl) (by decide) rfl ?_
      obtain ⟨g7, hf⟩ := m_aK_some hf
      refine em_callX (v := (fun _ => none)) (q_cod qk128 rfl) (by decide) (q_cokV rfl rfl (Or.inr g7)) rfl (fun x e => f160_cl e) rfl hf (fun _ h hf => ?_) (fun E9 h hf => ?_)
      · refine ev_aload_n (q_cod qk128 rfl) (by decide) rfl ?_
        obtain ⟨g10, hf⟩ := m_aK_some hf
        refine em_callX (v := (fun _ => none)) (q_cod qk128 rfl) (by decide) (q_cokV rfl rfl (Or.inr g10)) rfl (fun x e => f157_cl e) rfl hf (fun _ h hf => ?_) (fun E12 h hf => ?_)
        · refine ev_aload_n (q_cod qk128 rfl) (by decide) rfl ?_
          refine em_gR (q_cod qk128 rfl) (by decide) (by decide) hf (fun r13 hf => ?_)
          refine ev_ic (v := 4) (q_cod qk128 rfl) (by decide) (by decide) ?_
          refine ev_iload_n (q_cod qk128 rfl) (by decide) rfl ?_
          refine ev_iload_n (q_cod qk128 rfl) (by decide) rfl ?_
          refine ev_iload_n (q_cod qk128 rfl) (by decide) rfl ?_
          refine ev_ic (v := (-1)) (q_cod qk128 rfl) (by decide) (by decide) ?_
          obtain ⟨g14, hf⟩ := m_aK_some hf
          refine em_call (v := (fun u => some (.int u))) (q_cod qk128 rfl) rfl rfl (q_cokV rfl rfl (Or.inr g14)) rfl (fun x e => f120_cl e) hf (fun v15 h hf => ?_)
          obtain rfl := m_R_inv hf
          obtain ⟨rfl, rfl⟩ := (show q_KIX o hz ((.inl v15), _) from hK)
          exact ev_ret (q_cod qk128 rfl) rfl
        · obtain ⟨g, hf⟩ := m_G_some hf
          obtain rfl := m_R_inv hf
          exact ⟨g, hK⟩
      · obtain ⟨g, hf⟩ := m_G_some hf
        obtain rfl := m_R_inv hf
        exact ⟨g, hK⟩
    · obtain ⟨g, hf⟩ := m_G_some hf
      obtain rfl := m_R_inv hf
      exact ⟨g, hK⟩
  · obtain ⟨g, hf⟩ := m_G_some hf
    obtain rfl := m_R_inv hf
    exact ⟨g, hK⟩
theorem f128_cl {l0 : Nat} {l1 : Int32} {l2 : Int32} {l3 : Int32} {h : q_H} {x : (Int32 ⊕ Nat) × q_H} (hf : f128 l0 l1 l2 l3 h = some x) : q_Cl 128 [.ref l0, .int l1, .int l2, .int l3] h (q_oX (fun u => some (.int u)) x.1) x.2 := q_Cl.of rfl (q_LvS rfl rfl) (f128_ok hf ⟨rfl, rfl⟩)
/-! SmithyBench.requireNodeOrNone(I)V -/
theorem qk159 : q_cs.getD 159 [] = qc_159 := rfl
def f159_10  : m_M (Unit ⊕ Nat) :=
  m_R (.inl ())
theorem f159_10_ok  {h : q_H} {o : q_O} {hz : q_H} {x : (Unit ⊕ Nat) × q_H} (hf : f159_10 h = some x) (hK : (q_KVX o hz) x) : q_Ev none 159 10 [] [] h o hz := by
  unfold f159_10 at hf
  obtain rfl := m_R_inv hf
  obtain ⟨rfl, rfl⟩ := (show q_KVX o hz ((.inl ()), _) from hK)
  exact ev_ret (q_cod qk159 rfl) rfl
def f159 (l0 : Nat) (l1 : Int32) : m_M (Unit ⊕ Nat) :=
  if l1 = (-1) then (f159_10) else (m_B (m_aK l0 11) (fun _ => m_T (f158 l0 l1) (fun _ => f159_10) (fun E3 => m_B (m_G (E3 < 3)) (fun _ => m_R (.inr E3)))))
theorem f159_ok {l0 : Nat} {l1 : Int32} {h : q_H} {o : q_O} {hz : q_H} {x : (Unit ⊕ Nat) × q_H} (hf : f159 l0 l1 h = some x) (hK : (q_KVX o hz) x) : q_Ev none 159 0 [(0, .ref l0), (1, .int l1)] [] h o hz := by
  unfold f159 at hf
  refine ev_iload_n (q_cod qk159 rfl) (by decide) rfl ?_
  refine ev_ic (v := (-1)) (q_cod qk159 rfl) (by decide) (by decide) ?_
  refine em_ic_eq (q_cod qk159 rfl) (by decide) hf (fun c4 hf => ?_) (fun c4 hf => ?_)
  · exact ev_weak (q_pk [] rfl) (f159_10_ok hf hK)
  · refine ev_aload_n (q_cod qk159 rfl) (by decide) rfl ?_
    refine ev_iload_n (q_cod qk159 rfl) (by decide) rfl ?_
    obtain ⟨g1, hf⟩ := m_aK_some hf
    refine em_callX (v := (fun _ => none)) (q_cod qk159 rfl) (by decide) (q_cokV rfl rfl (Or.inr g1)) rfl (fun x e => f158_cl e) rfl hf (fun _ h hf => ?_) (fun E3 h hf => ?_)
    · exact ev_weak (q_pk [] rfl) (f159_10_ok hf hK)
    · obtain ⟨g, hf⟩ := m_G_some hf
      obtain rfl := m_R_inv hf
      exact ⟨g, hK⟩
theorem f159_cl {l0 : Nat} {l1 : Int32} {h : q_H} {x : (Unit ⊕ Nat) × q_H} (hf : f159 l0 l1 h = some x) : q_Cl 159 [.ref l0, .int l1] h (q_oX (fun _ => none) x.1) x.2 := q_Cl.of rfl (q_LvS rfl rfl) (f159_ok hf ⟨rfl, rfl⟩)
/-! SmithyBench.let(III)I -/
theorem qk129 : q_cs.getD 129 [] = qc_129 := rfl
def f129_34 (l1 : Int32) (l2 : Int32) (l3 : Int32) (s0 : Nat) (s1 : Int32) : m_M (Int32 ⊕ Nat) :=
  m_B (m_aK s0 10) (fun _ => m_B (f120 s0 s1 l1 l2 l3 (-1)) (fun v2 => m_R (.inl v2)))
theorem f129_34_ok {l1 : Int32} {l2 : Int32} {l3 : Int32} {s0 : Nat} {s1 : Int32} {h : q_H} {o : q_O} {hz : q_H} {x : (Int32 ⊕ Nat) × q_H} (hf : f129_34 l1 l2 l3 s0 s1 h = some x) (hK : (q_KIX o hz) x) : q_Ev none 129 34 [(1, .int l1), (2, .int l2), (3, .int l3)] [.int s1, .ref s0] h o hz := by
  unfold f129_34 at hf
  refine ev_iload_n (q_cod qk129 rfl) (by decide) rfl ?_
  refine ev_iload_n (q_cod qk129 rfl) (by decide) rfl ?_
  refine ev_iload_n (q_cod qk129 rfl) (by decide) rfl ?_
  refine ev_ic (v := (-1)) (q_cod qk129 rfl) (by decide) (by decide) ?_
  obtain ⟨g1, hf⟩ := m_aK_some hf
  refine em_call (v := (fun u => some (.int u))) (q_cod qk129 rfl) rfl rfl (q_cokV rfl rfl (Or.inr g1)) rfl (fun x e => f120_cl e) hf (fun v2 h hf => ?_)
  obtain rfl := m_R_inv hf
  obtain ⟨rfl, rfl⟩ := (show q_KIX o hz ((.inl v2), _) from hK)
  exact ev_ret (q_cod qk129 rfl) rfl
def f129 (l0 : Nat) (l1 : Int32) (l2 : Int32) (l3 : Int32) : m_M (Int32 ⊕ Nat) :=
  m_B (m_aK l0 11) (fun _ => m_T (f158 l0 l2) (fun _ => m_B (m_aK l0 11) (fun _ => m_T (f159 l0 l3) (fun _ => m_B (m_aK l0 11) (fun _ => m_T (f160 l0 l1) (fun _ => m_B (m_aK l0 11) (fun _ => m_T (f157 l0) (fun _ => m_B (m_gR 11 l0 0) (fun r13 => if l3 = (-1) then (f129_34 l1 l2 l3 r13 6) else (f129_34 l1 l2 l3 r13 5))) (fun E12 => m_B (m_G (E12 < 3)) (fun _ => m_R (.inr E12))))) (fun E9 => m_B (m_G (E9 < 3)) (fun _ => m_R (.inr E9))))) (fun E6 => m_B (m_G (E6 < 3)) (fun _ => m_R (.inr E6))))) (fun E3 => m_B (m_G (E3 < 3)) (fun _ => m_R (.inr E3))))
theorem f129_ok {l0 : Nat} {l1 : Int32} {l2 : Int32} {l3 : Int32} {h : q_H} {o : q_O} {hz : q_H} {x : (Int32 ⊕ Nat) × q_H} (hf : f129 l0 l1 l2 l3 h = some x) (hK : (q_KIX o hz) x) : q_Ev none 129 0 [(0, .ref l0), (1, .int l1), (2, .int l2), (3, .int l3)] [] h o hz := by
  unfold f129 at hf
  refine ev_aload_n (q_cod qk129 rfl) (by decide) rfl ?_
  refine ev_iload_n (q_cod qk129 rfl) (by decide) rfl ?_
  obtain ⟨g1, hf⟩ := m_aK_some hf
  refine em_callX (v := (fun _ => none)) (q_cod qk129 rfl) (by decide) (q_cokV rfl rfl (Or.inr g1)) rfl (fun x e => f158_cl e) rfl hf (fun _ h hf => ?_) (fun E3 h hf => ?_)
  · refine ev_aload_n (q_cod qk129 rfl) (by decide) rfl ?_
    refine ev_iload_n (q_cod qk129 rfl) (by decide) rfl ?_
    obtain ⟨g4, hf⟩ := m_aK_some hf
    refine em_callX (v := (fun _ => none)) (q_cod qk129 rfl) (by decide) (q_cokV rfl rfl (Or.inr g4)) rfl (fun x e => f159_cl e) rfl hf (fun _ h hf => ?_) (fun E6 h hf => ?_)
    · refine ev_aload_n (q_cod qk129 rfl) (by decide) rfl ?_
      refine ev_iload_n (q_cod qk129 rfl) (by decide) rfl ?_
      obtain ⟨g7, hf⟩ := m_aK_some hf
      refine em_callX (v := (fun _ => none)) (q_cod qk129 rfl) (by decide) (q_cokV rfl rfl (Or.inr g7)) rfl (fun x e => f160_cl e) rfl hf (fun _ h hf => ?_) (fun E9 h hf => ?_)
      · refine ev_aload_n (q_cod qk129 rfl) (by decide) rfl ?_
        obtain ⟨g10, hf⟩ := m_aK_some hf
        refine em_callX (v := (fun _ => none)) (q_cod qk129 rfl) (by decide) (q_cokV rfl rfl (Or.inr g10)) rfl (fun x e => f157_cl e) rfl hf (fun _ h hf => ?_) (fun E12 h hf => ?_)
        · refine ev_aload_n (q_cod qk129 rfl) (by decide) rfl ?_
          refine em_gR (q_cod qk129 rfl) (by decide) (by decide) hf (fun r13 hf => ?_)
          refine ev_iload_n (q_cod qk129 rfl) (by decide) rfl ?_
          refine ev_ic (v := (-1)) (q_cod qk129 rfl) (by decide) (by decide) ?_
          refine em_ic_ne (q_cod qk129 rfl) (by decide) hf (fun c14 hf => ?_) (fun c14 hf => ?_)
          · refine ev_bi (v := 6) (q_cod qk129 rfl) (by decide) (by decide) ?_
            refine ev_goto (q_cod qk129 rfl) (by decide) ?_
            exact ev_weak (q_pk [1, 2, 3] rfl) (f129_34_ok hf hK)
          · refine ev_ic (v := 5) (q_cod qk129 rfl) (by decide) (by decide) ?_
            exact ev_weak (q_pk [1, 2, 3] rfl) (f129_34_ok hf hK)
        · obtain ⟨g, hf⟩ := m_G_some hf
          obtain rfl := m_R_inv hf
          exact ⟨g, hK⟩
      · obtain ⟨g, hf⟩ := m_G_some hf
        obtain rfl := m_R_inv hf
        exact ⟨g, hK⟩
    · obtain ⟨g, hf⟩ := m_G_some hf
      obtain rfl := m_R_inv hf
      exact ⟨g, hK⟩
  · obtain ⟨g, hf⟩ := m_G_some hf
    obtain rfl := m_R_inv hf
    exact ⟨g, hK⟩
theorem f129_cl {l0 : Nat} {l1 : Int32} {l2 : Int32} {l3 : Int32} {h : q_H} {x : (Int32 ⊕ Nat) × q_H} (hf : f129 l0 l1 l2 l3 h = some x) : q_Cl 129 [.ref l0, .int l1, .int l2, .int l3] h (q_oX (fun u => some (.int u)) x.1) x.2 := q_Cl.of rfl (q_LvS rfl rfl) (f129_ok hf ⟨rfl, rfl⟩)
/-! SmithyBench.call(IIII)I -/
theorem qk130 : q_cs.getD 130 [] = qc_130 := rfl
def f130_42 (l0 : Nat) (l1 : Int32) (l2 : Int32) (l3 : Int32) (l4 : Int32) : m_M (Int32 ⊕ Nat) :=
  m_B (m_aK l0 11) (fun _ => m_T (f157 l0) (fun _ => m_B (m_gR 11 l0 0) (fun r4 => m_B (m_aK r4 10) (fun _ => m_B (f120 r4 7 l2 l1 l3 l4) (fun v6 => m_R (.inl v6))))) (fun E3 => m_B (m_G (E3 < 3)) (fun _ => m_R (.inr E3))))
theorem f130_42_ok {l0 : Nat} {l1 : Int32} {l2 : Int32} {l3 : Int32} {l4 : Int32} {h : q_H} {o : q_O} {hz : q_H} {x : (Int32 ⊕ Nat) × q_H} (hf : f130_42 l0 l1 l2 l3 l4 h = some x) (hK : (q_KIX o hz) x) : q_Ev none 130 42 [(0, .ref l0), (1, .int l1), (2, .int l2), (3, .int l3), (4, .int l4)] [] h o hz := by
  unfold f130_42 at hf
  refine ev_aload_n (q_cod qk130 rfl) (by decide) rfl ?_
  obtain ⟨g1, hf⟩ := m_aK_some hf
  refine em_callX (v := (fun _ => none)) (q_cod qk130 rfl) (by decide) (q_cokV rfl rfl (Or.inr g1)) rfl (fun x e => f157_cl e) rfl hf (fun _ h hf => ?_) (fun E3 h hf => ?_)
  · refine ev_aload_n (q_cod qk130 rfl) (by decide) rfl ?_
    refine em_gR (q_cod qk130 rfl) (by decide) (by decide) hf (fun r4 hf => ?_)
    refine ev_bi (v := 7) (q_cod qk130 rfl) (by decide) (by decide) ?_
    refine ev_iload_n (q_cod qk130 rfl) (by decide) rfl ?_
    refine ev_iload_n (q_cod qk130 rfl) (by decide) rfl ?_
    refine ev_iload_n (q_cod qk130 rfl) (by decide) rfl ?_
    refine ev_iload (q_cod qk130 rfl) (by decide) rfl ?_
    obtain ⟨g5, hf⟩ := m_aK_some hf
    refine em_call (v := (fun u => some (.int u))) (q_cod qk130 rfl) rfl rfl (q_cokV rfl rfl (Or.inr g5)) rfl (fun x e => f120_cl e) hf (fun v6 h hf => ?_)
    obtain rfl := m_R_inv hf
    obtain ⟨rfl, rfl⟩ := (show q_KIX o hz ((.inl v6), _) from hK)
    exact ev_ret (q_cod qk130 rfl) rfl
  · obtain ⟨g, hf⟩ := m_G_some hf
    obtain rfl := m_R_inv hf
    exact ⟨g, hK⟩
def f130 (l0 : Nat) (l1 : Int32) (l2 : Int32) (l3 : Int32) (l4 : Int32) : m_M (Int32 ⊕ Nat) :=
  m_B (m_aK l0 11) (fun _ => m_T (f158 l0 l1) (fun _ => m_B (m_aK l0 11) (fun _ => m_T (f159 l0 l3) (fun _ => m_B (m_aK l0 11) (fun _ => m_T (f159 l0 l4) (fun _ => m_B (m_aK l0 11) (fun _ => m_T (f160 l0 l2) (fun _ => if l3 = (-1) then (if l4 = (-1) then (f130_42 l0 l1 l2 l3 l4) else (m_thr 1)) else (f130_42 l0 l1 l2 l3 l4)) (fun E12 => m_B (m_G (E12 < 3)) (fun _ => m_R (.inr E12))))) (fun E9 => m_B (m_G (E9 < 3)) (fun _ => m_R (.inr E9))))) (fun E6 => m_B (m_G (E6 < 3)) (fun _ => m_R (.inr E6))))) (fun E3 => m_B (m_G (E3 < 3)) (fun _ => m_R (.inr E3))))
theorem f130_ok {l0 : Nat} {l1 : Int32} {l2 : Int32} {l3 : Int32} {l4 : Int32} {h : q_H} {o : q_O} {hz : q_H} {x : (Int32 ⊕ Nat) × q_H} (hf : f130 l0 l1 l2 l3 l4 h = some x) (hK : (q_KIX o hz) x) : q_Ev none 130 0 [(0, .ref l0), (1, .int l1), (2, .int l2), (3, .int l3), (4, .int l4)] [] h o hz := by
  unfold f130 at hf
  refine ev_aload_n (q_cod qk130 rfl) (by decide) rfl ?_
  refine ev_iload_n (q_cod qk130 rfl) (by decide) rfl ?_
  obtain ⟨g1, hf⟩ := m_aK_some hf
  refine em_callX (v := (fun _ => none)) (q_cod qk130 rfl) (by decide) (q_cokV rfl rfl (Or.inr g1)) rfl (fun x e => f158_cl e) rfl hf (fun _ h hf => ?_) (fun E3 h hf => ?_)
  · refine ev_aload_n (q_cod qk130 rfl) (by decide) rfl ?_
    refine ev_iload_n (q_cod qk130 rfl) (by decide) rfl ?_
    obtain ⟨g4, hf⟩ := m_aK_some hf
    refine em_callX (v := (fun _ => none)) (q_cod qk130 rfl) (by decide) (q_cokV rfl rfl (Or.inr g4)) rfl (fun x e => f159_cl e) rfl hf (fun _ h hf => ?_) (fun E6 h hf => ?_)
    · refine ev_aload_n (q_cod qk130 rfl) (by decide) rfl ?_
      refine ev_iload (q_cod qk130 rfl) (by decide) rfl ?_
      obtain ⟨g7, hf⟩ := m_aK_some hf
      refine em_callX (v := (fun _ => none)) (q_cod qk130 rfl) (by decide) (q_cokV rfl rfl (Or.inr g7)) rfl (fun x e => f159_cl e) rfl hf (fun _ h hf => ?_) (fun E9 h hf => ?_)
      · refine ev_aload_n (q_cod qk130 rfl) (by decide) rfl ?_
        refine ev_iload_n (q_cod qk130 rfl) (by decide) rfl ?_
        obtain ⟨g10, hf⟩ := m_aK_some hf
        refine em_callX (v := (fun _ => none)) (q_cod qk130 rfl) (by decide) (q_cokV rfl rfl (Or.inr g10)) rfl (fun x e => f160_cl e) rfl hf (fun _ h hf => ?_) (fun E12 h hf => ?_)
        · refine ev_iload_n (q_cod qk130 rfl) (by decide) rfl ?_
          refine ev_ic (v := (-1)) (q_cod qk130 rfl) (by decide) (by decide) ?_
          refine em_ic_ne (q_cod qk130 rfl) (by decide) hf (fun c14 hf => ?_) (fun c14 hf => ?_)
          · refine ev_iload (q_cod qk130 rfl) (by decide) rfl ?_
            refine ev_ic (v := (-1)) (q_cod qk130 rfl) (by decide) (by decide) ?_
            refine em_ic_eq (q_cod qk130 rfl) (by decide) hf (fun c13 hf => ?_) (fun c13 hf => ?_)
            · exact (f130_42_ok hf hK)
            · cases hf
              obtain ⟨rfl, rfl⟩ := (show q_KIX o hz (.inr 1, q_ex1 _) from hK)
              exact em_throw (q_cod qk130 rfl) (by decide) (by decide) rfl (Nat.le_of_ble_eq_true rfl)
          · exact (f130_42_ok hf hK)
        · obtain ⟨g, hf⟩ := m_G_some hf
          obtain rfl := m_R_inv hf
          exact ⟨g, hK⟩
      · obtain ⟨g, hf⟩ := m_G_some hf
        obtain rfl := m_R_inv hf
        exact ⟨g, hK⟩
    · obtain ⟨g, hf⟩ := m_G_some hf
      obtain rfl := m_R_inv hf
      exact ⟨g, hK⟩
  · obtain ⟨g, hf⟩ := m_G_some hf
    obtain rfl := m_R_inv hf
    exact ⟨g, hK⟩
theorem f130_cl {l0 : Nat} {l1 : Int32} {l2 : Int32} {l3 : Int32} {l4 : Int32} {h : q_H} {x : (Int32 ⊕ Nat) × q_H} (hf : f130 l0 l1 l2 l3 l4 h = some x) : q_Cl 130 [.ref l0, .int l1, .int l2, .int l3, .int l4] h (q_oX (fun u => some (.int u)) x.1) x.2 := q_Cl.of rfl (q_LvS rfl rfl) (f130_ok hf ⟨rfl, rfl⟩)
/-! SmithyBench.requireClass(I)V -/
theorem qk162 : q_cs.getD 162 [] = qc_162 := rfl
def f162 (l0 : Nat) (l1 : Int32) : m_M (Unit ⊕ Nat) :=
  m_B (m_gR 11 l0 10) (fun r1 => m_B (m_aK r1 7) (fun _ => m_B (f78 r1 l1) (fun v3 => if v3 = 0 then (m_thr 2) else (m_R (.inl ())))))
theorem f162_ok {l0 : Nat} {l1 : Int32} {h : q_H} {o : q_O} {hz : q_H} {x : (Unit ⊕ Nat) × q_H} (hf : f162 l0 l1 h = some x) (hK : (q_KVX o hz) x) : q_Ev none 162 0 [(0, .ref l0), (1, .int l1)] [] h o hz := by
  unfold f162 at hf
  refine ev_aload_n (q_cod qk162 rfl) (by decide) rfl ?_
  refine em_gR (q_cod qk162 rfl) (by decide) (by decide) hf (fun r1 hf => ?_)
  refine ev_iload_n (q_cod qk162 rfl) (by decide) rfl ?_
  obtain ⟨g2, hf⟩ := m_aK_some hf
  refine em_call (v := (fun u => some (.int u))) (q_cod qk162 rfl) rfl rfl (q_cokV rfl rfl (Or.inr g2)) rfl (fun x e => f78_cl e) hf (fun v3 h hf => ?_)
  refine em_if_ne (q_cod qk162 rfl) (by decide) hf (fun c4 hf => ?_) (fun c4 hf => ?_)
  · cases hf
    obtain ⟨rfl, rfl⟩ := (show q_KVX o hz (.inr 2, q_ex1 _) from hK)
    exact em_throw (q_cod qk162 rfl) (by decide) (by decide) rfl (Nat.le_of_ble_eq_true rfl)
  · obtain rfl := m_R_inv hf
    obtain ⟨rfl, rfl⟩ := (show q_KVX o hz ((.inl ()), _) from hK)
    exact ev_ret (q_cod qk162 rfl) rfl
theorem f162_cl {l0 : Nat} {l1 : Int32} {h : q_H} {x : (Unit ⊕ Nat) × q_H} (hf : f162 l0 l1 h = some x) : q_Cl 162 [.ref l0, .int l1] h (q_oX (fun _ => none) x.1) x.2 := q_Cl.of rfl (q_LvS rfl rfl) (f162_ok hf ⟨rfl, rfl⟩)
/-! SmithyBench.make(I)I -/
theorem qk131 : q_cs.getD 131 [] = qc_131 := rfl
def f131 (l0 : Nat) (l1 : Int32) : m_M (Int32 ⊕ Nat) :=
  m_B (m_aK l0 11) (fun _ => m_T (f162 l0 l1) (fun _ => m_B (m_aK l0 11) (fun _ => m_T (f157 l0) (fun _ => m_B (m_gR 11 l0 0) (fun r7 => m_B (m_aK r7 10) (fun _ => m_B (f120 r7 8 l1 (-1) (-1) (-1)) (fun v9 => m_R (.inl v9))))) (fun E6 => m_B (m_G (E6 < 3)) (fun _ => m_R (.inr E6))))) (fun E3 => m_B (m_G (E3 < 3)) (fun _ => m_R (.inr E3))))
theorem f131_ok {l0 : Nat} {l1 : Int32} {h : q_H} {o : q_O} {hz : q_H} {x : (Int32 ⊕ Nat) × q_H} (hf : f131 l0 l1 h = some x) (hK : (q_KIX o hz) x) : q_Ev none 131 0 [(0, .ref l0), (1, .int l1)] [] h o hz := by
  unfold f131 at hf
  refine ev_aload_n (q_cod qk131 rfl) (by decide) rfl ?_
  refine ev_iload_n (q_cod qk131 rfl) (by decide) rfl ?_
  obtain ⟨g1, hf⟩ := m_aK_some hf
  refine em_callX (v := (fun _ => none)) (q_cod qk131 rfl) (by decide) (q_cokV rfl rfl (Or.inr g1)) rfl (fun x e => f162_cl e) rfl hf (fun _ h hf => ?_) (fun E3 h hf => ?_)
  · refine ev_aload_n (q_cod qk131 rfl) (by decide) rfl ?_
    obtain ⟨g4, hf⟩ := m_aK_some hf
    refine em_callX (v := (fun _ => none)) (q_cod qk131 rfl) (by decide) (q_cokV rfl rfl (Or.inr g4)) rfl (fun x e => f157_cl e) rfl hf (fun _ h hf => ?_) (fun E6 h hf => ?_)
    · refine ev_aload_n (q_cod qk131 rfl) (by decide) rfl ?_
      refine em_gR (q_cod qk131 rfl) (by decide) (by decide) hf (fun r7 hf => ?_)
      refine ev_bi (v := 8) (q_cod qk131 rfl) (by decide) (by decide) ?_
      refine ev_iload_n (q_cod qk131 rfl) (by decide) rfl ?_
      refine ev_ic (v := (-1)) (q_cod qk131 rfl) (by decide) (by decide) ?_
      refine ev_ic (v := (-1)) (q_cod qk131 rfl) (by decide) (by decide) ?_
      refine ev_ic (v := (-1)) (q_cod qk131 rfl) (by decide) (by decide) ?_
      obtain ⟨g8, hf⟩ := m_aK_some hf
      refine em_call (v := (fun u => some (.int u))) (q_cod qk131 rfl) rfl rfl (q_cokV rfl rfl (Or.inr g8)) rfl (fun x e => f120_cl e) hf (fun v9 h hf => ?_)
      obtain rfl := m_R_inv hf
      obtain ⟨rfl, rfl⟩ := (show q_KIX o hz ((.inl v9), _) from hK)
      exact ev_ret (q_cod qk131 rfl) rfl
    · obtain ⟨g, hf⟩ := m_G_some hf
      obtain rfl := m_R_inv hf
      exact ⟨g, hK⟩
  · obtain ⟨g, hf⟩ := m_G_some hf
    obtain rfl := m_R_inv hf
    exact ⟨g, hK⟩
theorem f131_cl {l0 : Nat} {l1 : Int32} {h : q_H} {x : (Int32 ⊕ Nat) × q_H} (hf : f131 l0 l1 h = some x) : q_Cl 131 [.ref l0, .int l1] h (q_oX (fun u => some (.int u)) x.1) x.2 := q_Cl.of rfl (q_LvS rfl rfl) (f131_ok hf ⟨rfl, rfl⟩)
/-! SmithyBench.two(III)I -/
theorem qk132 : q_cs.getD 132 [] = qc_132 := rfl
def f132_19  : m_M (Int32 ⊕ Nat) :=
  m_thr 1
theorem f132_19_ok  {h : q_H} {o : q_O} {hz : q_H} {x : (Int32 ⊕ Nat) × q_H} (hf : f132_19 h = some x) (hK : (q_KIX o hz) x) : q_Ev none 132 19 [] [] h o hz := by
  unfold f132_19 at hf
  cases hf
  obtain ⟨rfl, rfl⟩ := (show q_KIX o hz (.inr 1, q_ex1 _) from hK)
  exact em_throw (q_cod qk132 rfl) (by decide) (by decide) rfl (Nat.le_of_ble_eq_true rfl)
def f132 (l0 : Nat) (l1 : Int32) (l2 : Int32) (l3 : Int32) : m_M (Int32 ⊕ Nat) :=
  m_B (m_aK l0 11) (fun _ => m_T (f158 l0 l2) (fun _ => m_B (m_aK l0 11) (fun _ => m_T (f158 l0 l3) (fun _ => if l1 < 0 then (f132_19) else (if 5 < l1 then (f132_19) else (m_B (m_aK l0 11) (fun _ => m_T (f157 l0) (fun _ => if l1 = 0 then (m_B (m_gR 11 l0 0) (fun r10 => m_B (m_aK r10 10) (fun _ => m_B (f120 r10 9 0 l2 l3 (-1)) (fun v12 => m_R (.inl v12))))) else (if l1 = 1 then (m_B (m_gR 11 l0 0) (fun r13 => m_B (m_aK r13 10) (fun _ => m_B (f120 r13 13 0 l2 l3 (-1)) (fun v15 => m_R (.inl v15))))) else (m_B (m_gR 11 l0 0) (fun r16 => m_B (m_aK r16 10) (fun _ => m_B (f120 r16 11 (l1 - 2) l2 l3 (-1)) (fun v18 => m_R (.inl v18))))))) (fun E9 => m_B (m_G (E9 < 3)) (fun _ => m_R (.inr E9))))))) (fun E6 => m_B (m_G (E6 < 3)) (fun _ => m_R (.inr E6))))) (fun E3 => m_B (m_G (E3 < 3)) (fun _ => m_R (.inr E3))))
theorem f132_ok {l0 : Nat} {l1 : Int32} {l2 : Int32} {l3 : Int32} {h : q_H} {o : q_O} {hz : q_H} {x : (Int32 ⊕ Nat) × q_H} (hf : f132 l0 l1 l2 l3 h = some x) (hK : (q_KIX o hz) x) : q_Ev none 132 0 [(0, .ref l0), (1, .int l1), (2, .int l2), (3, .int l3)] [] h o hz := by
  unfold f132 at hf
  refine ev_aload_n (q_cod qk132 rfl) (by decide) rfl ?_
  refine ev_iload_n (q_cod qk132 rfl) (by decide) rfl ?_
  obtain ⟨g1, hf⟩ := m_aK_some hf
  refine em_callX (v := (fun _ => none)) (q_cod qk132 rfl) (by decide) (q_cokV rfl rfl (Or.inr g1)) rfl (fun x e => f158_cl e) rfl hf (fun _ h hf => ?_) (fun E3 h hf => ?_)
  · refine ev_aload_n (q_cod qk132 rfl) (by decide) rfl ?_
    refine ev_iload_n (q_cod qk132 rfl) (by decide) rfl ?_
    obtain ⟨g4, hf⟩ := m_aK_some hf
    refine em_callX (v := (fun _ => none)) (q_cod qk132 rfl) (by decide) (q_cokV rfl rfl (Or.inr g4)) rfl (fun x e => f158_cl e) rfl hf (fun _ h hf => ?_) (fun E6 h hf => ?_)
    · refine ev_iload_n (q_cod qk132 rfl) (by decide) rfl ?_
      refine em_if_lt (q_cod qk132 rfl) (by decide) hf (fun c22 hf => ?_) (fun c22 hf => ?_)
      · exact ev_weak (q_pk [] rfl) (f132_19_ok hf hK)
      · refine ev_iload_n (q_cod qk132 rfl) (by decide) rfl ?_
        refine ev_ic (v := 5) (q_cod qk132 rfl) (by decide) (by decide) ?_
        refine em_ic_le (q_cod qk132 rfl) (by decide) hf (fun c21 hf => ?_) (fun c21 hf => ?_)
        · exact ev_weak (q_pk [] rfl) (f132_19_ok hf hK)
        · refine ev_aload_n (q_cod qk132 rfl) (by decide) rfl ?_
          obtain ⟨g7, hf⟩ := m_aK_some hf
          refine em_callX (v := (fun _ => none)) (q_cod qk132 rfl) (by decide) (q_cokV rfl rfl (Or.inr g7)) rfl (fun x e => f157_cl e) rfl hf (fun _ h hf => ?_) (fun E9 h hf => ?_)
          · refine ev_iload_n (q_cod qk132 rfl) (by decide) rfl ?_
            refine em_if_ne (q_cod qk132 rfl) (by decide) hf (fun c20 hf => ?_) (fun c20 hf => ?_)
            · refine ev_aload_n (q_cod qk132 rfl) (by decide) rfl ?_
              refine em_gR (q_cod qk132 rfl) (by decide) (by decide) hf (fun r10 hf => ?_)
              refine ev_bi (v := 9) (q_cod qk132 rfl) (by decide) (by decide) ?_
              refine ev_ic (v := 0) (q_cod qk132 rfl) (by decide) (by decide) ?_
              refine ev_iload_n (q_cod qk132 rfl) (by decide) rfl ?_
              refine ev_iload_n (q_cod qk132 rfl) (by decide) rfl ?_
              refine ev_ic (v := (-1)) (q_cod qk132 rfl) (by decide) (by decide) ?_
              obtain ⟨g11, hf⟩ := m_aK_some hf
              refine em_call (v := (fun u => some (.int u))) (q_cod qk132 rfl) rfl rfl (q_cokV rfl rfl (Or.inr g11)) rfl (fun x e => f120_cl e) hf (fun v12 h hf => ?_)
              obtain rfl := m_R_inv hf
              obtain ⟨rfl, rfl⟩ := (show q_KIX o hz ((.inl v12), _) from hK)
              exact ev_ret (q_cod qk132 rfl) rfl
            · refine ev_iload_n (q_cod qk132 rfl) (by decide) rfl ?_
              refine ev_ic (v := 1) (q_cod qk132 rfl) (by decide) (by decide) ?_
              refine em_ic_ne (q_cod qk132 rfl) (by decide) hf (fun c19 hf => ?_) (fun c19 hf => ?_)
              · refine ev_aload_n (q_cod qk132 rfl) (by decide) rfl ?_
                refine em_gR (q_cod qk132 rfl) (by decide) (by decide) hf (fun r13 hf => ?_)
                refine ev_bi (v := 13) (q_cod qk132 rfl) (by decide) (by decide) ?_
                refine ev_ic (v := 0) (q_cod qk132 rfl) (by decide) (by decide) ?_
                refine ev_iload_n (q_cod qk132 rfl) (by decide) rfl ?_
                refine ev_iload_n (q_cod qk132 rfl) (by decide) rfl ?_
                refine ev_ic (v := (-1)) (q_cod qk132 rfl) (by decide) (by decide) ?_
                obtain ⟨g14, hf⟩ := m_aK_some hf
                refine em_call (v := (fun u => some (.int u))) (q_cod qk132 rfl) rfl rfl (q_cokV rfl rfl (Or.inr g14)) rfl (fun x e => f120_cl e) hf (fun v15 h hf => ?_)
                obtain rfl := m_R_inv hf
                obtain ⟨rfl, rfl⟩ := (show q_KIX o hz ((.inl v15), _) from hK)
                exact ev_ret (q_cod qk132 rfl) rfl
              · refine ev_aload_n (q_cod qk132 rfl) (by decide) rfl ?_
                refine em_gR (q_cod qk132 rfl) (by decide) (by decide) hf (fun r16 hf => ?_)
                refine ev_bi (v := 11) (q_cod qk132 rfl) (by decide) (by decide) ?_
                refine ev_iload_n (q_cod qk132 rfl) (by decide) rfl ?_
                refine ev_ic (v := 2) (q_cod qk132 rfl) (by decide) (by decide) ?_
                refine ev_isub (q_cod qk132 rfl) (by decide) ?_
                refine ev_iload_n (q_cod qk132 rfl) (by decide) rfl ?_
                refine ev_iload_n (q_cod qk132 rfl) (by decide) rfl ?_
                refine ev_ic (v := (-1)) (q_cod qk132 rfl) (by decide) (by decide) ?_
                obtain ⟨g17, hf⟩ := m_aK_some hf
                refine em_call (v := (fun u => some (.int u))) (q_cod qk132 rfl) rfl rfl (q_cokV rfl rfl (Or.inr g17)) rfl (fun x e => f120_cl e) hf (fun v18 h hf => ?_)
                obtain rfl := m_R_inv hf
                obtain ⟨rfl, rfl⟩ := (show q_KIX o hz ((.inl v18), _) from hK)
                exact ev_ret (q_cod qk132 rfl) rfl
          · obtain ⟨g, hf⟩ := m_G_some hf
            obtain rfl := m_R_inv hf
            exact ⟨g, hK⟩
    · obtain ⟨g, hf⟩ := m_G_some hf
      obtain rfl := m_R_inv hf
      exact ⟨g, hK⟩
  · obtain ⟨g, hf⟩ := m_G_some hf
    obtain rfl := m_R_inv hf
    exact ⟨g, hK⟩
theorem f132_cl {l0 : Nat} {l1 : Int32} {l2 : Int32} {l3 : Int32} {h : q_H} {x : (Int32 ⊕ Nat) × q_H} (hf : f132 l0 l1 l2 l3 h = some x) : q_Cl 132 [.ref l0, .int l1, .int l2, .int l3] h (q_oX (fun u => some (.int u)) x.1) x.2 := q_Cl.of rfl (q_LvS rfl rfl) (f132_ok hf ⟨rfl, rfl⟩)
/-! SmithyBench.test(III)I -/
theorem qk133 : q_cs.getD 133 [] = qc_133 := rfl
def f133 (l0 : Nat) (l1 : Int32) (l2 : Int32) (l3 : Int32) : m_M (Int32 ⊕ Nat) :=
  m_B (m_aK l0 11) (fun _ => m_T (f158 l0 l1) (fun _ => m_B (m_aK l0 11) (fun _ => m_T (f158 l0 l2) (fun _ => m_B (m_aK l0 11) (fun _ => m_T (f158 l0 l3) (fun _ => m_B (m_aK l0 11) (fun _ => m_T (f157 l0) (fun _ => m_B (m_gR 11 l0 0) (fun r13 => m_B (m_aK r13 10) (fun _ => m_B (f120 r13 10 0 l1 l2 l3) (fun v15 => m_R (.inl v15))))) (fun E12 => m_B (m_G (E12 < 3)) (fun _ => m_R (.inr E12))))) (fun E9 => m_B (m_G (E9 < 3)) (fun _ => m_R (.inr E9))))) (fun E6 => m_B (m_G (E6 < 3)) (fun _ => m_R (.inr E6))))) (fun E3 => m_B (m_G (E3 < 3)) (fun _ => m_R (.inr E3))))
theorem f133_ok {l0 : Nat} {l1 : Int32} {l2 : Int32} {l3 : Int32} {h : q_H} {o : q_O} {hz : q_H} {x : (Int32 ⊕ Nat) × q_H} (hf : f133 l0 l1 l2 l3 h = some x) (hK : (q_KIX o hz) x) : q_Ev none 133 0 [(0, .ref l0), (1, .int l1), (2, .int l2), (3, .int l3)] [] h o hz := by
  unfold f133 at hf
  refine ev_aload_n (q_cod qk133 rfl) (by decide) rfl ?_
  refine ev_iload_n (q_cod qk133 rfl) (by decide) rfl ?_
  obtain ⟨g1, hf⟩ := m_aK_some hf
  refine em_callX (v := (fun _ => none)) (q_cod qk133 rfl) (by decide) (q_cokV rfl rfl (Or.inr g1)) rfl (fun x e => f158_cl e) rfl hf (fun _ h hf => ?_) (fun E3 h hf => ?_)
  · refine ev_aload_n (q_cod qk133 rfl) (by decide) rfl ?_
    refine ev_iload_n (q_cod qk133 rfl) (by decide) rfl ?_
    obtain ⟨g4, hf⟩ := m_aK_some hf
    refine em_callX (v := (fun _ => none)) (q_cod qk133 rfl) (by decide) (q_cokV rfl rfl (Or.inr g4)) rfl (fun x e => f158_cl e) rfl hf (fun _ h hf => ?_) (fun E6 h hf => ?_)
    · refine ev_aload_n (q_cod qk133 rfl) (by decide) rfl ?_
      refine ev_iload_n (q_cod qk133 rfl) (by decide) rfl ?_
      obtain ⟨g7, hf⟩ := m_aK_some hf
      refine em_callX (v := (fun _ => none)) (q_cod qk133 rfl) (by decide) (q_cokV rfl rfl (Or.inr g7)) rfl (fun x e => f158_cl e) rfl hf (fun _ h hf => ?_) (fun E9 h hf => ?_)
      · refine ev_aload_n (q_cod qk133 rfl) (by decide) rfl ?_
        obtain ⟨g10, hf⟩ := m_aK_some hf
        refine em_callX (v := (fun _ => none)) (q_cod qk133 rfl) (by decide) (q_cokV rfl rfl (Or.inr g10)) rfl (fun x e => f157_cl e) rfl hf (fun _ h hf => ?_) (fun E12 h hf => ?_)
        · refine ev_aload_n (q_cod qk133 rfl) (by decide) rfl ?_
          refine em_gR (q_cod qk133 rfl) (by decide) (by decide) hf (fun r13 hf => ?_)
          refine ev_bi (v := 10) (q_cod qk133 rfl) (by decide) (by decide) ?_
          refine ev_ic (v := 0) (q_cod qk133 rfl) (by decide) (by decide) ?_
          refine ev_iload_n (q_cod qk133 rfl) (by decide) rfl ?_
          refine ev_iload_n (q_cod qk133 rfl) (by decide) rfl ?_
          refine ev_iload_n (q_cod qk133 rfl) (by decide) rfl ?_
          obtain ⟨g14, hf⟩ := m_aK_some hf
          refine em_call (v := (fun u => some (.int u))) (q_cod qk133 rfl) rfl rfl (q_cokV rfl rfl (Or.inr g14)) rfl (fun x e => f120_cl e) hf (fun v15 h hf => ?_)
          obtain rfl := m_R_inv hf
          obtain ⟨rfl, rfl⟩ := (show q_KIX o hz ((.inl v15), _) from hK)
          exact ev_ret (q_cod qk133 rfl) rfl
        · obtain ⟨g, hf⟩ := m_G_some hf
          obtain rfl := m_R_inv hf
          exact ⟨g, hK⟩
      · obtain ⟨g, hf⟩ := m_G_some hf
        obtain rfl := m_R_inv hf
        exact ⟨g, hK⟩
    · obtain ⟨g, hf⟩ := m_G_some hf
      obtain rfl := m_R_inv hf
      exact ⟨g, hK⟩
  · obtain ⟨g, hf⟩ := m_G_some hf
    obtain rfl := m_R_inv hf
    exact ⟨g, hK⟩
theorem f133_cl {l0 : Nat} {l1 : Int32} {l2 : Int32} {l3 : Int32} {h : q_H} {x : (Int32 ⊕ Nat) × q_H} (hf : f133 l0 l1 l2 l3 h = some x) : q_Cl 133 [.ref l0, .int l1, .int l2, .int l3] h (q_oX (fun u => some (.int u)) x.1) x.2 := q_Cl.of rfl (q_LvS rfl rfl) (f133_ok hf ⟨rfl, rfl⟩)
/-! SmithyBench.raise(I)I -/
theorem qk134 : q_cs.getD 134 [] = qc_134 := rfl
def f134 (l0 : Nat) (l1 : Int32) : m_M (Int32 ⊕ Nat) :=
  m_B (m_aK l0 11) (fun _ => m_T (f158 l0 l1) (fun _ => m_B (m_aK l0 11) (fun _ => m_T (f157 l0) (fun _ => m_B (m_gR 11 l0 0) (fun r7 => m_B (m_aK r7 10) (fun _ => m_B (f120 r7 12 0 l1 (-1) (-1)) (fun v9 => m_R (.inl v9))))) (fun E6 => m_B (m_G (E6 < 3)) (fun _ => m_R (.inr E6))))) (fun E3 => m_B (m_G (E3 < 3)) (fun _ => m_R (.inr E3))))
theorem f134_ok {l0 : Nat} {l1 : Int32} {h : q_H} {o : q_O} {hz : q_H} {x : (Int32 ⊕ Nat) × q_H} (hf : f134 l0 l1 h = some x) (hK : (q_KIX o hz) x) : q_Ev none 134 0 [(0, .ref l0), (1, .int l1)] [] h o hz := by
  unfold f134 at hf
  refine ev_aload_n (q_cod qk134 rfl) (by decide) rfl ?_
  refine ev_iload_n (q_cod qk134 rfl) (by decide) rfl ?_
  obtain ⟨g1, hf⟩ := m_aK_some hf
  refine em_callX (v := (fun _ => none)) (q_cod qk134 rfl) (by decide) (q_cokV rfl rfl (Or.inr g1)) rfl (fun x e => f158_cl e) rfl hf (fun _ h hf => ?_) (fun E3 h hf => ?_)
  · refine ev_aload_n (q_cod qk134 rfl) (by decide) rfl ?_
    obtain ⟨g4, hf⟩ := m_aK_some hf
    refine em_callX (v := (fun _ => none)) (q_cod qk134 rfl) (by decide) (q_cokV rfl rfl (Or.inr g4)) rfl (fun x e => f157_cl e) rfl hf (fun _ h hf => ?_) (fun E6 h hf => ?_)
    · refine ev_aload_n (q_cod qk134 rfl) (by decide) rfl ?_
      refine em_gR (q_cod qk134 rfl) (by decide) (by decide) hf (fun r7 hf => ?_)
      refine ev_bi (v := 12) (q_cod qk134 rfl) (by decide) (by decide) ?_
      refine ev_ic (v := 0) (q_cod qk134 rfl) (by decide) (by decide) ?_
      refine ev_iload_n (q_cod qk134 rfl) (by decide) rfl ?_
      refine ev_ic (v := (-1)) (q_cod qk134 rfl) (by decide) (by decide) ?_
      refine ev_ic (v := (-1)) (q_cod qk134 rfl) (by decide) (by decide) ?_
      obtain ⟨g8, hf⟩ := m_aK_some hf
      refine em_call (v := (fun u => some (.int u))) (q_cod qk134 rfl) rfl rfl (q_cokV rfl rfl (Or.inr g8)) rfl (fun x e => f120_cl e) hf (fun v9 h hf => ?_)
      obtain rfl := m_R_inv hf
      obtain ⟨rfl, rfl⟩ := (show q_KIX o hz ((.inl v9), _) from hK)
      exact ev_ret (q_cod qk134 rfl) rfl
    · obtain ⟨g, hf⟩ := m_G_some hf
      obtain rfl := m_R_inv hf
      exact ⟨g, hK⟩
  · obtain ⟨g, hf⟩ := m_G_some hf
    obtain rfl := m_R_inv hf
    exact ⟨g, hK⟩
theorem f134_cl {l0 : Nat} {l1 : Int32} {h : q_H} {x : (Int32 ⊕ Nat) × q_H} (hf : f134 l0 l1 h = some x) : q_Cl 134 [.ref l0, .int l1] h (q_oX (fun u => some (.int u)) x.1) x.2 := q_Cl.of rfl (q_LvS rfl rfl) (f134_ok hf ⟨rfl, rfl⟩)
/-! SmithyBench.classOf(I)I -/
theorem qk135 : q_cs.getD 135 [] = qc_135 := rfl
def f135_10 (l0 : Nat) (l1 : Int32) : m_M (Int32 ⊕ Nat) :=
  m_B (m_gR 11 l0 10) (fun r1 => m_B (m_gI 7 r1 10) (fun v2 => if v2 < 6 then (m_B (m_pI 11 l0 13 0) (fun _ => m_B (m_gR 11 l0 10) (fun r3 => m_B (m_aK r3 7) (fun _ => m_B (f71 r3 l1) (fun v5 => m_R (.inl v5)))))) else (m_thr 0)))
theorem f135_10_ok {l0 : Nat} {l1 : Int32} {h : q_H} {o : q_O} {hz : q_H} {x : (Int32 ⊕ Nat) × q_H} (hf : f135_10 l0 l1 h = some x) (hK : (q_KIX o hz) x) : q_Ev none 135 10 [(0, .ref l0), (1, .int l1)] [] h o hz := by
  unfold f135_10 at hf
  refine ev_aload_n (q_cod qk135 rfl) (by decide) rfl ?_
  refine em_gR (q_cod qk135 rfl) (by decide) (by decide) hf (fun r1 hf => ?_)
  refine em_gI (q_cod qk135 rfl) (by decide) (by decide) hf (fun v2 hf => ?_)
  refine ev_bi (v := 6) (q_cod qk135 rfl) (by decide) (by decide) ?_
  refine em_ic_lt (q_cod qk135 rfl) (by decide) hf (fun c6 hf => ?_) (fun c6 hf => ?_)
  · refine ev_aload_n (q_cod qk135 rfl) (by decide) rfl ?_
    refine ev_ic (v := 0) (q_cod qk135 rfl) (by decide) (by decide) ?_
    refine em_pI (q_cod qk135 rfl) (by decide) (by decide) (by decide) hf (fun hf => ?_)
    refine ev_aload_n (q_cod qk135 rfl) (by decide) rfl ?_
    refine em_gR (q_cod qk135 rfl) (by decide) (by decide) hf (fun r3 hf => ?_)
    refine ev_iload_n (q_cod qk135 rfl) (by decide) rfl ?_
    obtain ⟨g4, hf⟩ := m_aK_some hf
    refine em_call (v := (fun u => some (.int u))) (q_cod qk135 rfl) rfl rfl (q_cokV rfl rfl (Or.inr g4)) rfl (fun x e => f71_cl e) hf (fun v5 h hf => ?_)
    obtain rfl := m_R_inv hf
    obtain ⟨rfl, rfl⟩ := (show q_KIX o hz ((.inl v5), _) from hK)
    exact ev_ret (q_cod qk135 rfl) rfl
  · cases hf
    obtain ⟨rfl, rfl⟩ := (show q_KIX o hz (.inr 0, q_ex1 _) from hK)
    exact em_throw (q_cod qk135 rfl) (by decide) (by decide) rfl (Nat.le_of_ble_eq_true rfl)
def f135 (l0 : Nat) (l1 : Int32) : m_M (Int32 ⊕ Nat) :=
  if l1 = (-1) then (f135_10 l0 l1) else (m_B (m_aK l0 11) (fun _ => m_T (f162 l0 l1) (fun _ => f135_10 l0 l1) (fun E3 => m_B (m_G (E3 < 3)) (fun _ => m_R (.inr E3)))))
theorem f135_ok {l0 : Nat} {l1 : Int32} {h : q_H} {o : q_O} {hz : q_H} {x : (Int32 ⊕ Nat) × q_H} (hf : f135 l0 l1 h = some x) (hK : (q_KIX o hz) x) : q_Ev none 135 0 [(0, .ref l0), (1, .int l1)] [] h o hz := by
  unfold f135 at hf
  refine ev_iload_n (q_cod qk135 rfl) (by decide) rfl ?_
  refine ev_ic (v := (-1)) (q_cod qk135 rfl) (by decide) (by decide) ?_
  refine em_ic_eq (q_cod qk135 rfl) (by decide) hf (fun c4 hf => ?_) (fun c4 hf => ?_)
  · exact (f135_10_ok hf hK)
  · refine ev_aload_n (q_cod qk135 rfl) (by decide) rfl ?_
    refine ev_iload_n (q_cod qk135 rfl) (by decide) rfl ?_
    obtain ⟨g1, hf⟩ := m_aK_some hf
    refine em_callX (v := (fun _ => none)) (q_cod qk135 rfl) (by decide) (q_cokV rfl rfl (Or.inr g1)) rfl (fun x e => f162_cl e) rfl hf (fun _ h hf => ?_) (fun E3 h hf => ?_)
    · exact (f135_10_ok hf hK)
    · obtain ⟨g, hf⟩ := m_G_some hf
      obtain rfl := m_R_inv hf
      exact ⟨g, hK⟩
theorem f135_cl {l0 : Nat} {l1 : Int32} {h : q_H} {x : (Int32 ⊕ Nat) × q_H} (hf : f135 l0 l1 h = some x) : q_Cl 135 [.ref l0, .int l1] h (q_oX (fun u => some (.int u)) x.1) x.2 := q_Cl.of rfl (q_LvS rfl rfl) (f135_ok hf ⟨rfl, rfl⟩)
/-! SmithyBench.requireType(I)V -/
theorem qk163 : q_cs.getD 163 [] = qc_163 := rfl
def f163_10  : m_M (Unit ⊕ Nat) :=
  m_R (.inl ())
theorem f163_10_ok  {h : q_H} {o : q_O} {hz : q_H} {x : (Unit ⊕ Nat) × q_H} (hf : f163_10 h = some x) (hK : (q_KVX o hz) x) : q_Ev none 163 10 [] [] h o hz := by
  unfold f163_10 at hf
  obtain rfl := m_R_inv hf
  obtain ⟨rfl, rfl⟩ := (show q_KVX o hz ((.inl ()), _) from hK)
  exact ev_ret (q_cod qk163 rfl) rfl
def f163 (l0 : Nat) (l1 : Int32) : m_M (Unit ⊕ Nat) :=
  if l1 = (-1) then (f163_10) else (m_B (m_aK l0 11) (fun _ => m_T (f162 l0 l1) (fun _ => f163_10) (fun E3 => m_B (m_G (E3 < 3)) (fun _ => m_R (.inr E3)))))
theorem f163_ok {l0 : Nat} {l1 : Int32} {h : q_H} {o : q_O} {hz : q_H} {x : (Unit ⊕ Nat) × q_H} (hf : f163 l0 l1 h = some x) (hK : (q_KVX o hz) x) : q_Ev none 163 0 [(0, .ref l0), (1, .int l1)] [] h o hz := by
  unfold f163 at hf
  refine ev_iload_n (q_cod qk163 rfl) (by decide) rfl ?_
  refine ev_ic (v := (-1)) (q_cod qk163 rfl) (by decide) (by decide) ?_
  refine em_ic_eq (q_cod qk163 rfl) (by decide) hf (fun c4 hf => ?_) (fun c4 hf => ?_)
  · exact ev_weak (q_pk [] rfl) (f163_10_ok hf hK)
  · refine ev_aload_n (q_cod qk163 rfl) (by decide) rfl ?_
    refine ev_iload_n (q_cod qk163 rfl) (by decide) rfl ?_
    obtain ⟨g1, hf⟩ := m_aK_some hf
    refine em_callX (v := (fun _ => none)) (q_cod qk163 rfl) (by decide) (q_cokV rfl rfl (Or.inr g1)) rfl (fun x e => f162_cl e) rfl hf (fun _ h hf => ?_) (fun E3 h hf => ?_)
    · exact ev_weak (q_pk [] rfl) (f163_10_ok hf hK)
    · obtain ⟨g, hf⟩ := m_G_some hf
      obtain rfl := m_R_inv hf
      exact ⟨g, hK⟩
theorem f163_cl {l0 : Nat} {l1 : Int32} {h : q_H} {x : (Unit ⊕ Nat) × q_H} (hf : f163 l0 l1 h = some x) : q_Cl 163 [.ref l0, .int l1] h (q_oX (fun _ => none) x.1) x.2 := q_Cl.of rfl (q_LvS rfl rfl) (f163_ok hf ⟨rfl, rfl⟩)
/-! SmithyBench.fieldOf(III)I -/
theorem qk136 : q_cs.getD 136 [] = qc_136 := rfl
def f136 (l0 : Nat) (l1 : Int32) (l2 : Int32) (l3 : Int32) : m_M (Int32 ⊕ Nat) :=
  m_B (m_aK l0 11) (fun _ => m_T (f162 l0 l1) (fun _ => m_B (m_aK l0 11) (fun _ => m_T (f163 l0 l3) (fun _ => m_B (m_aK l0 11) (fun _ => m_T (f160 l0 l2) (fun _ => m_B (m_gR 11 l0 10) (fun r10 => m_B (m_aK r10 7) (fun _ => m_B (f87 r10 l1 l2) (fun v12 => if v12 = 0 then (m_B (m_pI 11 l0 13 0) (fun _ => m_B (m_gR 11 l0 10) (fun r13 => m_B (m_aK r13 7) (fun _ => m_B (f72 r13 l1 l2 l3) (fun v15 => m_R (.inl v15)))))) else (m_thr 0))))) (fun E9 => m_B (m_G (E9 < 3)) (fun _ => m_R (.inr E9))))) (fun E6 => m_B (m_G (E6 < 3)) (fun _ => m_R (.inr E6))))) (fun E3 => m_B (m_G (E3 < 3)) (fun _ => m_R (.inr E3))))
theorem f136_ok {l0 : Nat} {l1 : Int32} {l2 : Int32} {l3 : Int32} {h : q_H} {o : q_O} {hz : q_H} {x : (Int32 ⊕ Nat) × q_H} (hf : f136 l0 l1 l2 l3 h = some x) (hK : (q_KIX o hz) x) : q_Ev none 136 0 [(0, .ref l0), (1, .int l1), (2, .int l2), (3, .int l3)] [] h o hz := by
  unfold f136 at hf
  refine ev_aload_n (q_cod qk136 rfl) (by decide) rfl ?_
  refine ev_iload_n (q_cod qk136 rfl) (by decide) rfl ?_
  obtain ⟨g1, hf⟩ := m_aK_some hf
  refine em_callX (v := (fun _ => none)) (q_cod qk136 rfl) (by decide) (q_cokV rfl rfl (Or.inr g1)) rfl (fun x e => f162_cl e) rfl hf (fun _ h hf => ?_) (fun E3 h hf => ?_)
  · refine ev_aload_n (q_cod qk136 rfl) (by decide) rfl ?_
    refine ev_iload_n (q_cod qk136 rfl) (by decide) rfl ?_
    obtain ⟨g4, hf⟩ := m_aK_some hf
    refine em_callX (v := (fun _ => none)) (q_cod qk136 rfl) (by decide) (q_cokV rfl rfl (Or.inr g4)) rfl (fun x e => f163_cl e) rfl hf (fun _ h hf => ?_) (fun E6 h hf => ?_)
    · refine ev_aload_n (q_cod qk136 rfl) (by decide) rfl ?_
      refine ev_iload_n (q_cod qk136 rfl) (by decide) rfl ?_
      obtain ⟨g7, hf⟩ := m_aK_some hf
      refine em_callX (v := (fun _ => none)) (q_cod qk136 rfl) (by decide) (q_cokV rfl rfl (Or.inr g7)) rfl (fun x e => f160_cl e) rfl hf (fun _ h hf => ?_) (fun E9 h hf => ?_)
      · refine ev_aload_n (q_cod qk136 rfl) (by decide) rfl ?_
        refine em_gR (q_cod qk136 rfl) (by decide) (by decide) hf (fun r10 hf => ?_)
        refine ev_iload_n (q_cod qk136 rfl) (by decide) rfl ?_
        refine ev_iload_n (q_cod qk136 rfl) (by decide) rfl ?_
        obtain ⟨g11, hf⟩ := m_aK_some hf
        refine em_call (v := (fun u => some (.int u))) (q_cod qk136 rfl) rfl rfl (q_cokV rfl rfl (Or.inr g11)) rfl (fun x e => f87_cl e) hf (fun v12 h hf => ?_)
        refine em_if_eq (q_cod qk136 rfl) (by decide) hf (fun c16 hf => ?_) (fun c16 hf => ?_)
        · refine ev_aload_n (q_cod qk136 rfl) (by decide) rfl ?_
          refine ev_ic (v := 0) (q_cod qk136 rfl) (by decide) (by decide) ?_
          refine em_pI (q_cod qk136 rfl) (by decide) (by decide) (by decide) hf (fun hf => ?_)
          refine ev_aload_n (q_cod qk136 rfl) (by decide) rfl ?_
          refine em_gR (q_cod qk136 rfl) (by decide) (by decide) hf (fun r13 hf => ?_)
          refine ev_iload_n (q_cod qk136 rfl) (by decide) rfl ?_
          refine ev_iload_n (q_cod qk136 rfl) (by decide) rfl ?_
          refine ev_iload_n (q_cod qk136 rfl) (by decide) rfl ?_
          obtain ⟨g14, hf⟩ := m_aK_some hf
          refine em_call (v := (fun u => some (.int u))) (q_cod qk136 rfl) rfl rfl (q_cokV rfl rfl (Or.inr g14)) rfl (fun x e => f72_cl e) hf (fun v15 h hf => ?_)
          obtain rfl := m_R_inv hf
          obtain ⟨rfl, rfl⟩ := (show q_KIX o hz ((.inl v15), _) from hK)
          exact ev_ret (q_cod qk136 rfl) rfl
        · cases hf
          obtain ⟨rfl, rfl⟩ := (show q_KIX o hz (.inr 0, q_ex1 _) from hK)
          exact em_throw (q_cod qk136 rfl) (by decide) (by decide) rfl (Nat.le_of_ble_eq_true rfl)
      · obtain ⟨g, hf⟩ := m_G_some hf
        obtain rfl := m_R_inv hf
        exact ⟨g, hK⟩
    · obtain ⟨g, hf⟩ := m_G_some hf
      obtain rfl := m_R_inv hf
      exact ⟨g, hK⟩
  · obtain ⟨g, hf⟩ := m_G_some hf
    obtain rfl := m_R_inv hf
    exact ⟨g, hK⟩
theorem f136_cl {l0 : Nat} {l1 : Int32} {l2 : Int32} {l3 : Int32} {h : q_H} {x : (Int32 ⊕ Nat) × q_H} (hf : f136 l0 l1 l2 l3 h = some x) : q_Cl 136 [.ref l0, .int l1, .int l2, .int l3] h (q_oX (fun u => some (.int u)) x.1) x.2 := q_Cl.of rfl (q_LvS rfl rfl) (f136_ok hf ⟨rfl, rfl⟩)
/-! SmithyBench.typeOfParameter(I)I -/
theorem qk170 : q_cs.getD 170 [] = qc_170 := rfl
def f170_14 (s0 : Int32) : m_M Int32 :=
  m_R s0
theorem f170_14_ok {s0 : Int32} {h : q_H} {o : q_O} {hz : q_H} {x : Int32 × q_H} (hf : f170_14 s0 h = some x) (hK : (q_KI o hz) x) : q_Ev none 170 14 [] [.int s0] h o hz := by
  unfold f170_14 at hf
  obtain rfl := m_R_inv hf
  obtain ⟨rfl, rfl⟩ := (show q_KI o hz (s0, _) from hK)
  exact ev_ret (q_cod qk170 rfl) rfl
def f170 (l0 : Int32) : m_M Int32 :=
  if l0 < 0 then (f170_14 (-1)) else (f170_14 ((l0 / 100) - 1))
theorem f170_ok {l0 : Int32} {h : q_H} {o : q_O} {hz : q_H} {x : Int32 × q_H} (hf : f170 l0 h = some x) (hK : (q_KI o hz) x) : q_Ev none 170 0 [(0, .int l0)] [] h o hz := by
  unfold f170 at hf
  refine ev_iload_n (q_cod qk170 rfl) (by decide) rfl ?_
  refine em_if_ge (q_cod qk170 rfl) (by decide) hf (fun c1 hf => ?_) (fun c1 hf => ?_)
  · refine ev_ic (v := (-1)) (q_cod qk170 rfl) (by decide) (by decide) ?_
    refine ev_goto (q_cod qk170 rfl) (by decide) ?_
    exact ev_weak (q_pk [] rfl) (f170_14_ok hf hK)
  · refine ev_iload_n (q_cod qk170 rfl) (by decide) rfl ?_
    refine ev_bi (v := 100) (q_cod qk170 rfl) (by decide) (by decide) ?_
    refine ev_idiv (q_cod qk170 rfl) (by decide) (by decide) ?_
    refine ev_ic (v := 1) (q_cod qk170 rfl) (by decide) (by decide) ?_
    refine ev_isub (q_cod qk170 rfl) (by decide) ?_
    exact ev_weak (q_pk [] rfl) (f170_14_ok hf hK)
theorem f170_cl {l0 : Int32} {h : q_H} {x : Int32 × q_H} (hf : f170 l0 h = some x) : q_Cl 170 [.int l0] h (.inl (some (.int x.1))) x.2 := q_Cl.of rfl (q_LvS rfl rfl) (f170_ok hf ⟨rfl, rfl⟩)
/-! SmithyBench.isOddParameter(I)Z -/
theorem qk171 : q_cs.getD 171 [] = qc_171 := rfl
def f171_23 (s0 : Int32) : m_M Int32 :=
  m_B (m_G (s0 = 0 ∨ s0 = 1)) (fun _ => m_R s0)
theorem f171_23_ok {s0 : Int32} {h : q_H} {o : q_O} {hz : q_H} {x : Int32 × q_H} (hf : f171_23 s0 h = some x) (hK : (q_KI o hz) x) : q_Ev none 171 23 [] [.int s0] h o hz := by
  unfold f171_23 at hf
  obtain ⟨g1, hf⟩ := m_G_some hf
  obtain rfl := m_R_inv hf
  obtain ⟨rfl, rfl⟩ := (show q_KI o hz (s0, _) from hK)
  exact ev_ret (q_cod qk171 rfl) (q_retZ g1)
def f171_18  : m_M Int32 :=
  f171_23 1
theorem f171_18_ok  {h : q_H} {o : q_O} {hz : q_H} {x : Int32 × q_H} (hf : f171_18 h = some x) (hK : (q_KI o hz) x) : q_Ev none 171 18 [] [] h o hz := by
  unfold f171_18 at hf
  refine ev_ic (v := 1) (q_cod qk171 rfl) (by decide) (by decide) ?_
  refine ev_goto (q_cod qk171 rfl) (by decide) ?_
  exact (f171_23_ok hf hK)
def f171_22  : m_M Int32 :=
  f171_23 0
theorem f171_22_ok  {h : q_H} {o : q_O} {hz : q_H} {x : Int32 × q_H} (hf : f171_22 h = some x) (hK : (q_KI o hz) x) : q_Ev none 171 22 [] [] h o hz := by
  unfold f171_22 at hf
  refine ev_ic (v := 0) (q_cod qk171 rfl) (by decide) (by decide) ?_
  exact (f171_23_ok hf hK)
def f171 (l0 : Int32) : m_M Int32 :=
  if l0 < (-1) then (f171_18) else (if l0 < 0 then (f171_22) else (if (l0 - l0 / 100 * 100) < 16 then (f171_22) else (f171_18)))
theorem f171_ok {l0 : Int32} {h : q_H} {o : q_O} {hz : q_H} {x : Int32 × q_H} (hf : f171 l0 h = some x) (hK : (q_KI o hz) x) : q_Ev none 171 0 [(0, .int l0)] [] h o hz := by
  unfold f171 at hf
  refine ev_iload_n (q_cod qk171 rfl) (by decide) rfl ?_
  refine ev_ic (v := (-1)) (q_cod qk171 rfl) (by decide) (by decide) ?_
  refine em_ic_lt (q_cod qk171 rfl) (by decide) hf (fun c3 hf => ?_) (fun c3 hf => ?_)
  · exact ev_weak (q_pk [] rfl) (f171_18_ok hf hK)
  · refine ev_iload_n (q_cod qk171 rfl) (by decide) rfl ?_
    refine em_if_lt (q_cod qk171 rfl) (by decide) hf (fun c2 hf => ?_) (fun c2 hf => ?_)
    · exact ev_weak (q_pk [] rfl) (f171_22_ok hf hK)
    · refine ev_iload_n (q_cod qk171 rfl) (by decide) rfl ?_
      refine ev_bi (v := 100) (q_cod qk171 rfl) (by decide) (by decide) ?_
      refine ev_irem (q_cod qk171 rfl) (by decide) (by decide) ?_
      refine ev_bi (v := 16) (q_cod qk171 rfl) (by decide) (by decide) ?_
      refine em_ic_lt (q_cod qk171 rfl) (by decide) hf (fun c1 hf => ?_) (fun c1 hf => ?_)
      · exact ev_weak (q_pk [] rfl) (f171_22_ok hf hK)
      · exact ev_weak (q_pk [] rfl) (f171_18_ok hf hK)
theorem f171_cl {l0 : Int32} {h : q_H} {x : Int32 × q_H} (hf : f171 l0 h = some x) : q_Cl 171 [.int l0] h (.inl (some (.int x.1))) x.2 := q_Cl.of rfl (q_LvS rfl rfl) (f171_ok hf ⟨rfl, rfl⟩)
/-! SmithyBench.requireParameters(II)V -/
theorem qk164 : q_cs.getD 164 [] = qc_164 := rfl
def f164_14  : m_M (Unit ⊕ Nat) :=
  m_thr 1
theorem f164_14_ok  {h : q_H} {o : q_O} {hz : q_H} {x : (Unit ⊕ Nat) × q_H} (hf : f164_14 h = some x) (hK : (q_KVX o hz) x) : q_Ev none 164 14 [] [] h o hz := by
  unfold f164_14 at hf
  cases hf
  obtain ⟨rfl, rfl⟩ := (show q_KVX o hz (.inr 1, q_ex1 _) from hK)
  exact em_throw (q_cod qk164 rfl) (by decide) (by decide) rfl (Nat.le_of_ble_eq_true rfl)
def f164 (l0 : Nat) (l1 : Int32) (l2 : Int32) : m_M (Unit ⊕ Nat) :=
  m_B (f171 l1) (fun v1 => if v1 = 0 then (m_B (f171 l2) (fun v2 => if v2 = 0 then (if l2 = (-1) then (m_R (.inl ())) else (if l1 = (-1) then (m_thr 1) else (if (l1 - l1 / 100 * 100) = (l2 - l2 / 100 * 100) then (m_thr 1) else (m_R (.inl ()))))) else (f164_14))) else (f164_14))
theorem f164_ok {l0 : Nat} {l1 : Int32} {l2 : Int32} {h : q_H} {o : q_O} {hz : q_H} {x : (Unit ⊕ Nat) × q_H} (hf : f164 l0 l1 l2 h = some x) (hK : (q_KVX o hz) x) : q_Ev none 164 0 [(0, .ref l0), (1, .int l1), (2, .int l2)] [] h o hz := by
  unfold f164 at hf
  refine ev_iload_n (q_cod qk164 rfl) (by decide) rfl ?_
  refine em_call (v := (fun u => some (.int u))) (q_cod qk164 rfl) rfl rfl (q_cokS rfl rfl) rfl (fun x e => f171_cl e) hf (fun v1 h hf => ?_)
  refine em_if_ne (q_cod qk164 rfl) (by decide) hf (fun c7 hf => ?_) (fun c7 hf => ?_)
  · refine ev_iload_n (q_cod qk164 rfl) (by decide) rfl ?_
    refine em_call (v := (fun u => some (.int u))) (q_cod qk164 rfl) rfl rfl (q_cokS rfl rfl) rfl (fun x e => f171_cl e) hf (fun v2 h hf => ?_)
    refine em_if_eq (q_cod qk164 rfl) (by decide) hf (fun c6 hf => ?_) (fun c6 hf => ?_)
    · refine ev_iload_n (q_cod qk164 rfl) (by decide) rfl ?_
      refine ev_ic (v := (-1)) (q_cod qk164 rfl) (by decide) (by decide) ?_
      refine em_ic_ne (q_cod qk164 rfl) (by decide) hf (fun c5 hf => ?_) (fun c5 hf => ?_)
      · obtain rfl := m_R_inv hf
        obtain ⟨rfl, rfl⟩ := (show q_KVX o hz ((.inl ()), _) from hK)
        exact ev_ret (q_cod qk164 rfl) rfl
      · refine ev_iload_n (q_cod qk164 rfl) (by decide) rfl ?_
        refine ev_ic (v := (-1)) (q_cod qk164 rfl) (by decide) (by decide) ?_
        refine em_ic_ne (q_cod qk164 rfl) (by decide) hf (fun c4 hf => ?_) (fun c4 hf => ?_)
        · cases hf
          obtain ⟨rfl, rfl⟩ := (show q_KVX o hz (.inr 1, q_ex1 _) from hK)
          exact em_throw (q_cod qk164 rfl) (by decide) (by decide) rfl (Nat.le_of_ble_eq_true rfl)
        · refine ev_iload_n (q_cod qk164 rfl) (by decide) rfl ?_
          refine ev_bi (v := 100) (q_cod qk164 rfl) (by decide) (by decide) ?_
          refine ev_irem (q_cod qk164 rfl) (by decide) (by decide) ?_
          refine ev_iload_n (q_cod qk164 rfl) (by decide) rfl ?_
          refine ev_bi (v := 100) (q_cod qk164 rfl) (by decide) (by decide) ?_
          refine ev_irem (q_cod qk164 rfl) (by decide) (by decide) ?_
          refine em_ic_ne (q_cod qk164 rfl) (by decide) hf (fun c3 hf => ?_) (fun c3 hf => ?_)
          · cases hf
            obtain ⟨rfl, rfl⟩ := (show q_KVX o hz (.inr 1, q_ex1 _) from hK)
            exact em_throw (q_cod qk164 rfl) (by decide) (by decide) rfl (Nat.le_of_ble_eq_true rfl)
          · obtain rfl := m_R_inv hf
            obtain ⟨rfl, rfl⟩ := (show q_KVX o hz ((.inl ()), _) from hK)
            exact ev_ret (q_cod qk164 rfl) rfl
    · exact ev_weak (q_pk [] rfl) (f164_14_ok hf hK)
  · exact ev_weak (q_pk [] rfl) (f164_14_ok hf hK)
theorem f164_cl {l0 : Nat} {l1 : Int32} {l2 : Int32} {h : q_H} {x : (Unit ⊕ Nat) × q_H} (hf : f164 l0 l1 l2 h = some x) : q_Cl 164 [.ref l0, .int l1, .int l2] h (q_oX (fun _ => none) x.1) x.2 := q_Cl.of rfl (q_LvS rfl rfl) (f164_ok hf ⟨rfl, rfl⟩)
/-! SmithyBench.method(IIIIII)I -/
theorem qk137 : q_cs.getD 137 [] = qc_137 := rfl
def f137_205 (l0 : Nat) (l6 : Int32) (l8 : Int32) : m_M (Int32 ⊕ Nat) :=
  m_B (m_gR 11 l0 0) (fun r1 => m_B (m_gR 11 l0 10) (fun r2 => m_B (m_gR 7 r2 9) (fun r3 => m_B (m_lR r3 l8) (fun r4 => m_B (m_aK r1 10) (fun _ => m_B (f122 r1 l6 r4) (fun _ => m_R (.inl l8)))))))
theorem f137_205_ok {l0 : Nat} {l6 : Int32} {l8 : Int32} {h : q_H} {o : q_O} {hz : q_H} {x : (Int32 ⊕ Nat) × q_H} (hf : f137_205 l0 l6 l8 h = some x) (hK : (q_KIX o hz) x) : q_Ev none 137 205 [(0, .ref l0), (6, .int l6), (8, .int l8)] [] h o hz := by
  unfold f137_205 at hf
  refine ev_aload_n (q_cod qk137 rfl) (by decide) rfl ?_
  refine em_gR (q_cod qk137 rfl) (by decide) (by decide) hf (fun r1 hf => ?_)
  refine ev_iload (q_cod qk137 rfl) (by decide) rfl ?_
  refine ev_aload_n (q_cod qk137 rfl) (by decide) rfl ?_
  refine em_gR (q_cod qk137 rfl) (by decide) (by decide) hf (fun r2 hf => ?_)
  refine em_gR (q_cod qk137 rfl) (by decide) (by decide) hf (fun r3 hf => ?_)
  refine ev_iload (q_cod qk137 rfl) (by decide) rfl ?_
  refine em_lR (q_cod qk137 rfl) (by decide) hf (fun r4 hf => ?_)
  obtain ⟨g5, hf⟩ := m_aK_some hf
  refine em_call (v := (fun _ => none)) (q_cod qk137 rfl) rfl rfl (q_cokV rfl rfl (Or.inr g5)) rfl (fun x e => f122_cl e) hf (fun _ h hf => ?_)
  refine ev_iload (q_cod qk137 rfl) (by decide) rfl ?_
  obtain rfl := m_R_inv hf
  obtain ⟨rfl, rfl⟩ := (show q_KIX o hz ((.inl l8), _) from hK)
  exact ev_ret (q_cod qk137 rfl) rfl
def f137_180 (l0 : Nat) (l4 : Int32) (l6 : Int32) (l7 : Int32) (l8 : Int32) : m_M (Int32 ⊕ Nat) :=
  if 1 < l7 then (m_B (m_gR 11 l0 10) (fun r1 => m_B (f170 l4) (fun v2 => m_B (m_aK r1 7) (fun _ => m_B (f75 r1 l8 (l4 - l4 / 100 * 100) v2) (fun _ => f137_205 l0 l6 l8))))) else (f137_205 l0 l6 l8)
theorem f137_180_ok {l0 : Nat} {l4 : Int32} {l6 : Int32} {l7 : Int32} {l8 : Int32} {h : q_H} {o : q_O} {hz : q_H} {x : (Int32 ⊕ Nat) × q_H} (hf : f137_180 l0 l4 l6 l7 l8 h = some x) (hK : (q_KIX o hz) x) : q_Ev none 137 180 [(0, .ref l0), (4, .int l4), (6, .int l6), (7, .int l7), (8, .int l8)] [] h o hz := by
  unfold f137_180 at hf
  refine ev_iload (q_cod qk137 rfl) (by decide) rfl ?_
  refine ev_ic (v := 1) (q_cod qk137 rfl) (by decide) (by decide) ?_
  refine em_ic_le (q_cod qk137 rfl) (by decide) hf (fun c5 hf => ?_) (fun c5 hf => ?_)
  · refine ev_aload_n (q_cod qk137 rfl) (by decide) rfl ?_
    refine em_gR (q_cod qk137 rfl) (by decide) (by decide) hf (fun r1 hf => ?_)
    refine ev_iload (q_cod qk137 rfl) (by decide) rfl ?_
    refine ev_iload (q_cod qk137 rfl) (by decide) rfl ?_
    refine ev_bi (v := 100) (q_cod qk137 rfl) (by decide) (by decide) ?_
    refine ev_irem (q_cod qk137 rfl) (by decide) (by decide) ?_
    refine ev_iload (q_cod qk137 rfl) (by decide) rfl ?_
    refine em_call (v := (fun u => some (.int u))) (q_cod qk137 rfl) rfl rfl (q_cokS rfl rfl) rfl (fun x e => f170_cl e) hf (fun v2 h hf => ?_)
    obtain ⟨g3, hf⟩ := m_aK_some hf
    refine em_call (v := (fun _ => none)) (q_cod qk137 rfl) rfl rfl (q_cokV rfl rfl (Or.inr g3)) rfl (fun x e => f75_cl e) hf (fun _ h hf => ?_)
    exact ev_weak (q_pk [0, 2, 4] rfl) (f137_205_ok hf hK)
  · exact ev_weak (q_pk [0, 2, 4] rfl) (f137_205_ok hf hK)
def f137_66 (l0 : Nat) (l1 : Int32) (l2 : Int32) (l3 : Int32) (l4 : Int32) (l5 : Int32) (l6 : Int32) (s0 : Int32) : m_M (Int32 ⊕ Nat) :=
  m_B (m_gR 11 l0 0) (fun r1 => m_B (m_gR 10 r1 4) (fun r2 => m_B (m_lI r2 l6) (fun v3 => if 60 < v3 then (m_thr 0) else (m_B (m_gR 11 l0 10) (fun r4 => m_B (m_aK r4 7) (fun _ => m_B (f89 r4 l1 l2 s0) (fun v6 => if v6 = (-1) then (m_B (m_gR 11 l0 10) (fun r7 => m_B (m_gI 7 r7 11) (fun v8 => if v8 < 24 then (m_B (m_pI 11 l0 13 0) (fun _ => m_B (m_gR 11 l0 10) (fun r9 => m_B (m_aK r9 7) (fun _ => m_B (f74 r9 l1 l2 l5) (fun v11 => if 0 < s0 then (m_B (m_gR 11 l0 10) (fun r12 => m_B (f170 l3) (fun v13 => m_B (m_aK r12 7) (fun _ => m_B (f75 r12 v11 (l3 - l3 / 100 * 100) v13) (fun _ => f137_180 l0 l4 l6 s0 v11))))) else (f137_180 l0 l4 l6 s0 v11)))))) else (m_thr 0)))) else (m_thr 0))))))))
theorem f137_66_ok {l0 : Nat} {l1 : Int32} {l2 : Int32} {l3 : Int32} {l4 : Int32} {l5 : Int32} {l6 : Int32} {s0 : Int32} {h : q_H} {o : q_O} {hz : q_H} {x : (Int32 ⊕ Nat) × q_H} (hf : f137_66 l0 l1 l2 l3 l4 l5 l6 s0 h = some x) (hK : (q_KIX o hz) x) : q_Ev none 137 66 [(0, .ref l0), (1, .int l1), (2, .int l2), (3, .int l3), (4, .int l4), (5, .int l5), (6, .int l6)] [.int s0] h o hz := by
  unfold f137_66 at hf
  refine ev_is2 (L' := [(0, .ref l0), (1, .int l1), (2, .int l2), (3, .int l3), (4, .int l4), (5, .int l5), (6, .int l6), (7, .int s0)]) (q_cod qk137 rfl) (by decide) rfl ?_
  refine ev_aload_n (q_cod qk137 rfl) (by decide) rfl ?_
  refine em_gR (q_cod qk137 rfl) (by decide) (by decide) hf (fun r1 hf => ?_)
  refine em_gR (q_cod qk137 rfl) (by decide) (by decide) hf (fun r2 hf => ?_)
  refine ev_iload (q_cod qk137 rfl) (by decide) rfl ?_
  refine em_lI (q_cod qk137 rfl) (by decide) hf (fun v3 hf => ?_)
  refine ev_bi (v := 60) (q_cod qk137 rfl) (by decide) (by decide) ?_
  refine em_ic_le (q_cod qk137 rfl) (by decide) hf (fun c19 hf => ?_) (fun c19 hf => ?_)
  · cases hf
    obtain ⟨rfl, rfl⟩ := (show q_KIX o hz (.inr 0, q_ex1 _) from hK)
    exact em_throw (q_cod qk137 rfl) (by decide) (by decide) rfl (Nat.le_of_ble_eq_true rfl)
  · refine ev_aload_n (q_cod qk137 rfl) (by decide) rfl ?_
    refine em_gR (q_cod qk137 rfl) (by decide) (by decide) hf (fun r4 hf => ?_)
    refine ev_iload_n (q_cod qk137 rfl) (by decide) rfl ?_
    refine ev_iload_n (q_cod qk137 rfl) (by decide) rfl ?_
    refine ev_iload (q_cod qk137 rfl) (by decide) rfl ?_
    obtain ⟨g5, hf⟩ := m_aK_some hf
    refine em_call (v := (fun u => some (.int u))) (q_cod qk137 rfl) rfl rfl (q_cokV rfl rfl (Or.inr g5)) rfl (fun x e => f89_cl e) hf (fun v6 h hf => ?_)
    refine ev_ic (v := (-1)) (q_cod qk137 rfl) (by decide) (by decide) ?_
    refine em_ic_eq (q_cod qk137 rfl) (by decide) hf (fun c18 hf => ?_) (fun c18 hf => ?_)
    · refine ev_aload_n (q_cod qk137 rfl) (by decide) rfl ?_
      refine em_gR (q_cod qk137 rfl) (by decide) (by decide) hf (fun r7 hf => ?_)
      refine em_gI (q_cod qk137 rfl) (by decide) (by decide) hf (fun v8 hf => ?_)
      refine ev_bi (v := 24) (q_cod qk137 rfl) (by decide) (by decide) ?_
      refine em_ic_lt (q_cod qk137 rfl) (by decide) hf (fun c17 hf => ?_) (fun c17 hf => ?_)
      · refine ev_aload_n (q_cod qk137 rfl) (by decide) rfl ?_
        refine ev_ic (v := 0) (q_cod qk137 rfl) (by decide) (by decide) ?_
        refine em_pI (q_cod qk137 rfl) (by decide) (by decide) (by decide) hf (fun hf => ?_)
        refine ev_aload_n (q_cod qk137 rfl) (by decide) rfl ?_
        refine em_gR (q_cod qk137 rfl) (by decide) (by decide) hf (fun r9 hf => ?_)
        refine ev_iload_n (q_cod qk137 rfl) (by decide) rfl ?_
        refine ev_iload_n (q_cod qk137 rfl) (by decide) rfl ?_
        refine ev_iload (q_cod qk137 rfl) (by decide) rfl ?_
        obtain ⟨g10, hf⟩ := m_aK_some hf
        refine em_call (v := (fun u => some (.int u))) (q_cod qk137 rfl) rfl rfl (q_cokV rfl rfl (Or.inr g10)) rfl (fun x e => f74_cl e) hf (fun v11 h hf => ?_)
        refine ev_is2 (L' := [(0, .ref l0), (1, .int l1), (2, .int l2), (3, .int l3), (4, .int l4), (5, .int l5), (6, .int l6), (7, .int s0), (8, .int v11)]) (q_cod qk137 rfl) (by decide) rfl ?_
        refine ev_iload (q_cod qk137 rfl) (by decide) rfl ?_
        refine em_if_le (q_cod qk137 rfl) (by decide) hf (fun c16 hf => ?_) (fun c16 hf => ?_)
        · refine ev_aload_n (q_cod qk137 rfl) (by decide) rfl ?_
          refine em_gR (q_cod qk137 rfl) (by decide) (by decide) hf (fun r12 hf => ?_)
          refine ev_iload (q_cod qk137 rfl) (by decide) rfl ?_
          refine ev_iload_n (q_cod qk137 rfl) (by decide) rfl ?_
          refine ev_bi (v := 100) (q_cod qk137 rfl) (by decide) (by decide) ?_
          refine ev_irem (q_cod qk137 rfl) (by decide) (by decide) ?_
          refine ev_iload_n (q_cod qk137 rfl) (by decide) rfl ?_
          refine em_call (v := (fun u => some (.int u))) (q_cod qk137 rfl) rfl rfl (q_cokS rfl rfl) rfl (fun x e => f170_cl e) hf (fun v13 h hf => ?_)
          obtain ⟨g14, hf⟩ := m_aK_some hf
          refine em_call (v := (fun _ => none)) (q_cod qk137 rfl) rfl rfl (q_cokV rfl rfl (Or.inr g14)) rfl (fun x e => f75_cl e) hf (fun _ h hf => ?_)
          exact ev_weak (q_pk [0, 4, 6, 7, 8] rfl) (f137_180_ok hf hK)
        · exact ev_weak (q_pk [0, 4, 6, 7, 8] rfl) (f137_180_ok hf hK)
      · cases hf
        obtain ⟨rfl, rfl⟩ := (show q_KIX o hz (.inr 0, q_ex1 _) from hK)
        exact em_throw (q_cod qk137 rfl) (by decide) (by decide) rfl (Nat.le_of_ble_eq_true rfl)
    · cases hf
      obtain ⟨rfl, rfl⟩ := (show q_KIX o hz (.inr 0, q_ex1 _) from hK)
      exact em_throw (q_cod qk137 rfl) (by decide) (by decide) rfl (Nat.le_of_ble_eq_true rfl)
def f137 (l0 : Nat) (l1 : Int32) (l2 : Int32) (l3 : Int32) (l4 : Int32) (l5 : Int32) (l6 : Int32) : m_M (Int32 ⊕ Nat) :=
  m_B (m_aK l0 11) (fun _ => m_T (f162 l0 l1) (fun _ => m_B (f170 l3) (fun v4 => m_B (m_aK l0 11) (fun _ => m_T (f163 l0 v4) (fun _ => m_B (f170 l4) (fun v8 => m_B (m_aK l0 11) (fun _ => m_T (f163 l0 v8) (fun _ => m_B (m_aK l0 11) (fun _ => m_T (f163 l0 l5) (fun _ => m_B (m_aK l0 11) (fun _ => m_T (f158 l0 l6) (fun _ => m_B (m_aK l0 11) (fun _ => m_T (f160 l0 l2) (fun _ => m_B (m_aK l0 11) (fun _ => m_T (f164 l0 l3 l4) (fun _ => if l4 = (-1) then (if l3 = (-1) then (f137_66 l0 l1 l2 l3 l4 l5 l6 0) else (f137_66 l0 l1 l2 l3 l4 l5 l6 1)) else (f137_66 l0 l1 l2 l3 l4 l5 l6 2)) (fun E23 => m_B (m_G (E23 < 3)) (fun _ => m_R (.inr E23))))) (fun E20 => m_B (m_G (E20 < 3)) (fun _ => m_R (.inr E20))))) (fun E17 => m_B (m_G (E17 < 3)) (fun _ => m_R (.inr E17))))) (fun E14 => m_B (m_G (E14 < 3)) (fun _ => m_R (.inr E14))))) (fun E11 => m_B (m_G (E11 < 3)) (fun _ => m_R (.inr E11)))))) (fun E7 => m_B (m_G (E7 < 3)) (fun _ => m_R (.inr E7)))))) (fun E3 => m_B (m_G (E3 < 3)) (fun _ => m_R (.inr E3))))
theorem f137_ok {l0 : Nat} {l1 : Int32} {l2 : Int32} {l3 : Int32} {l4 : Int32} {l5 : Int32} {l6 : Int32} {h : q_H} {o : q_O} {hz : q_H} {x : (Int32 ⊕ Nat) × q_H} (hf : f137 l0 l1 l2 l3 l4 l5 l6 h = some x) (hK : (q_KIX o hz) x) : q_Ev none 137 0 [(0, .ref l0), (1, .int l1), (2, .int l2), (3, .int l3), (4, .int l4), (5, .int l5), (6, .int l6)] [] h o hz := by
  unfold f137 at hf
  refine ev_aload_n (q_cod qk137 rfl) (by decide) rfl ?_
  refine ev_iload_n (q_cod qk137 rfl) (by decide) rfl ?_
  obtain ⟨g1, hf⟩ := m_aK_some hf
  refine em_callX (v := (fun _ => none)) (q_cod qk137 rfl) (by decide) (q_cokV rfl rfl (Or.inr g1)) rfl (fun x e => f162_cl e) rfl hf (fun _ h hf => ?_) (fun E3 h hf => ?_)
  · refine ev_aload_n (q_cod qk137 rfl) (by decide) rfl ?_
    refine ev_iload_n (q_cod qk137 rfl) (by decide) rfl ?_
    refine em_call (v := (fun u => some (.int u))) (q_cod qk137 rfl) rfl rfl (q_cokS rfl rfl) rfl (fun x e => f170_cl e) hf (fun v4 h hf => ?_)
    obtain ⟨g5, hf⟩ := m_aK_some hf
    refine em_callX (v := (fun _ => none)) (q_cod qk137 rfl) (by decide) (q_cokV rfl rfl (Or.inr g5)) rfl (fun x e => f163_cl e) rfl hf (fun _ h hf => ?_) (fun E7 h hf => ?_)
    · refine ev_aload_n (q_cod qk137 rfl) (by decide) rfl ?_
      refine ev_iload (q_cod qk137 rfl) (by decide) rfl ?_
      refine em_call (v := (fun u => some (.int u))) (q_cod qk137 rfl) rfl rfl (q_cokS rfl rfl) rfl (fun x e => f170_cl e) hf (fun v8 h hf => ?_)
      obtain ⟨g9, hf⟩ := m_aK_some hf
      refine em_callX (v := (fun _ => none)) (q_cod qk137 rfl) (by decide) (q_cokV rfl rfl (Or.inr g9)) rfl (fun x e => f163_cl e) rfl hf (fun _ h hf => ?_) (fun E11 h hf => ?_)
      · refine ev_aload_n (q_cod qk137 rfl) (by decide) rfl ?_
        refine ev_iload (q_cod qk137 rfl) (by decide) rfl ?_
        obtain ⟨g12, hf⟩ := m_aK_some hf
        refine em_callX (v := (fun _ => none)) (q_cod qk137 rfl) (by decide) (q_cokV rfl rfl (Or.inr g12)) rfl (fun x e => f163_cl e) rfl hf (fun _ h hf => ?_) (fun E14 h hf => ?_)
        · refine ev_aload_n (q_cod qk137 rfl) (by decide) rfl ?_
          refine ev_iload (q_cod qk137 rfl) (by decide) rfl ?_
          obtain ⟨g15, hf⟩ := m_aK_some hf
          refine em_callX (v := (fun _ => none)) (q_cod qk137 rfl) (by decide) (q_cokV rfl rfl (Or.inr g15)) rfl (fun x e => f158_cl e) rfl hf (fun _ h hf => ?_) (fun E17 h hf => ?_)
          · refine ev_aload_n (q_cod qk137 rfl) (by decide) rfl ?_
            refine ev_iload_n (q_cod qk137 rfl) (by decide) rfl ?_
            obtain ⟨g18, hf⟩ := m_aK_some hf
            refine em_callX (v := (fun _ => none)) (q_cod qk137 rfl) (by decide) (q_cokV rfl rfl (Or.inr g18)) rfl (fun x e => f160_cl e) rfl hf (fun _ h hf => ?_) (fun E20 h hf => ?_)
            · refine ev_aload_n (q_cod qk137 rfl) (by decide) rfl ?_
              refine ev_iload_n (q_cod qk137 rfl) (by decide) rfl ?_
              refine ev_iload (q_cod qk137 rfl) (by decide) rfl ?_
              obtain ⟨g21, hf⟩ := m_aK_some hf
              refine em_callX (v := (fun _ => none)) (q_cod qk137 rfl) (by decide) (q_cokV rfl rfl (Or.inr g21)) rfl (fun x e => f164_cl e) rfl hf (fun _ h hf => ?_) (fun E23 h hf => ?_)
              · refine ev_iload (q_cod qk137 rfl) (by decide) rfl ?_
                refine ev_ic (v := (-1)) (q_cod qk137 rfl) (by decide) (by decide) ?_
                refine em_ic_eq (q_cod qk137 rfl) (by decide) hf (fun c25 hf => ?_) (fun c25 hf => ?_)
                · refine ev_iload_n (q_cod qk137 rfl) (by decide) rfl ?_
                  refine ev_ic (v := (-1)) (q_cod qk137 rfl) (by decide) (by decide) ?_
                  refine em_ic_eq (q_cod qk137 rfl) (by decide) hf (fun c24 hf => ?_) (fun c24 hf => ?_)
                  · refine ev_ic (v := 0) (q_cod qk137 rfl) (by decide) (by decide) ?_
                    exact (f137_66_ok hf hK)
                  · refine ev_ic (v := 1) (q_cod qk137 rfl) (by decide) (by decide) ?_
                    refine ev_goto (q_cod qk137 rfl) (by decide) ?_
                    exact (f137_66_ok hf hK)
                · refine ev_ic (v := 2) (q_cod qk137 rfl) (by decide) (by decide) ?_
                  refine ev_goto (q_cod qk137 rfl) (by decide) ?_
                  exact (f137_66_ok hf hK)
              · obtain ⟨g, hf⟩ := m_G_some hf
                obtain rfl := m_R_inv hf
                exact ⟨g, hK⟩
            · obtain ⟨g, hf⟩ := m_G_some hf
              obtain rfl := m_R_inv hf
              exact ⟨g, hK⟩
          · obtain ⟨g, hf⟩ := m_G_some hf
            obtain rfl := m_R_inv hf
            exact ⟨g, hK⟩
        · obtain ⟨g, hf⟩ := m_G_some hf
          obtain rfl := m_R_inv hf
          exact ⟨g, hK⟩
      · obtain ⟨g, hf⟩ := m_G_some hf
        obtain rfl := m_R_inv hf
        exact ⟨g, hK⟩
    · obtain ⟨g, hf⟩ := m_G_some hf
      obtain rfl := m_R_inv hf
      exact ⟨g, hK⟩
  · obtain ⟨g, hf⟩ := m_G_some hf
    obtain rfl := m_R_inv hf
    exact ⟨g, hK⟩
theorem f137_cl {l0 : Nat} {l1 : Int32} {l2 : Int32} {l3 : Int32} {l4 : Int32} {l5 : Int32} {l6 : Int32} {h : q_H} {x : (Int32 ⊕ Nat) × q_H} (hf : f137 l0 l1 l2 l3 l4 l5 l6 h = some x) : q_Cl 137 [.ref l0, .int l1, .int l2, .int l3, .int l4, .int l5, .int l6] h (q_oX (fun u => some (.int u)) x.1) x.2 := q_Cl.of rfl (q_LvS rfl rfl) (f137_ok hf ⟨rfl, rfl⟩)
