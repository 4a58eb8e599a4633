/-! SmithyBench$Body.<init>(I)V -/
theorem qk0 : q_cs.getD 0 [] = qc_0 := rfl
def f0 (l0 : Nat) (l1 : Int32) : m_M Unit :=
  m_B (m_pI 0 l0 6 l1) (fun _ => m_B (m_nA 20 (l1 + 1)) (fun r1 => m_B (m_pR 0 l0 0 r1) (fun _ => m_B (m_nA 20 (l1 + 1)) (fun r2 => m_B (m_pR 0 l0 1 r2) (fun _ => m_B (m_nA 20 (l1 + 1)) (fun r3 => m_B (m_pR 0 l0 2 r3) (fun _ => m_B (m_nA 20 (l1 + 1)) (fun r4 => m_B (m_pR 0 l0 3 r4) (fun _ => m_B (m_nA 20 (l1 + 1)) (fun r5 => m_B (m_pR 0 l0 4 r5) (fun _ => m_B (m_nA 20 (l1 + 1)) (fun r6 => m_B (m_pR 0 l0 5 r6) (fun _ => m_R ())))))))))))))
theorem f0_ok {l0 : Nat} {l1 : Int32} {h : q_H} {o : q_O} {hz : q_H} {x : Unit × q_H} (hf : f0 l0 l1 h = some x) (hK : (m_KU o hz) x) : q_Ev none 0 0 [(0, .ref l0), (1, .int l1)] [] h o hz := by
  unfold f0 at hf
  refine ev_aload_n (q_cod qk0 rfl) (by decide) rfl ?_
  refine ev_objinit (q_cod qk0 rfl) (Nat.le_of_ble_eq_true rfl) ?_
  refine ev_aload_n (q_cod qk0 rfl) (by decide) rfl ?_
  refine ev_iload_n (q_cod qk0 rfl) (by decide) rfl ?_
  refine em_pI (q_cod qk0 rfl) (by decide) (by decide) (by decide) hf (fun hf => ?_)
  refine ev_aload_n (q_cod qk0 rfl) (by decide) rfl ?_
  refine ev_iload_n (q_cod qk0 rfl) (by decide) rfl ?_
  refine ev_ic (v := 1) (q_cod qk0 rfl) (by decide) (by decide) ?_
  refine ev_iadd (q_cod qk0 rfl) (by decide) ?_
  refine em_nI (q_cod qk0 rfl) (by decide) hf (fun r1 h hf => ?_)
  refine em_pR (q_cod qk0 rfl) (by decide) (by decide) (by decide) hf (fun hf => ?_)
  refine ev_aload_n (q_cod qk0 rfl) (by decide) rfl ?_
  refine ev_iload_n (q_cod qk0 rfl) (by decide) rfl ?_
  refine ev_ic (v := 1) (q_cod qk0 rfl) (by decide) (by decide) ?_
  refine ev_iadd (q_cod qk0 rfl) (by decide) ?_
  refine em_nI (q_cod qk0 rfl) (by decide) hf (fun r2 h hf => ?_)
  refine em_pR (q_cod qk0 rfl) (by decide) (by decide) (by decide) hf (fun hf => ?_)
  refine ev_aload_n (q_cod qk0 rfl) (by decide) rfl ?_
  refine ev_iload_n (q_cod qk0 rfl) (by decide) rfl ?_
  refine ev_ic (v := 1) (q_cod qk0 rfl) (by decide) (by decide) ?_
  refine ev_iadd (q_cod qk0 rfl) (by decide) ?_
  refine em_nI (q_cod qk0 rfl) (by decide) hf (fun r3 h hf => ?_)
  refine em_pR (q_cod qk0 rfl) (by decide) (by decide) (by decide) hf (fun hf => ?_)
  refine ev_aload_n (q_cod qk0 rfl) (by decide) rfl ?_
  refine ev_iload_n (q_cod qk0 rfl) (by decide) rfl ?_
  refine ev_ic (v := 1) (q_cod qk0 rfl) (by decide) (by decide) ?_
  refine ev_iadd (q_cod qk0 rfl) (by decide) ?_
  refine em_nI (q_cod qk0 rfl) (by decide) hf (fun r4 h hf => ?_)
  refine em_pR (q_cod qk0 rfl) (by decide) (by decide) (by decide) hf (fun hf => ?_)
  refine ev_aload_n (q_cod qk0 rfl) (by decide) rfl ?_
  refine ev_iload_n (q_cod qk0 rfl) (by decide) rfl ?_
  refine ev_ic (v := 1) (q_cod qk0 rfl) (by decide) (by decide) ?_
  refine ev_iadd (q_cod qk0 rfl) (by decide) ?_
  refine em_nI (q_cod qk0 rfl) (by decide) hf (fun r5 h hf => ?_)
  refine em_pR (q_cod qk0 rfl) (by decide) (by decide) (by decide) hf (fun hf => ?_)
  refine ev_aload_n (q_cod qk0 rfl) (by decide) rfl ?_
  refine ev_iload_n (q_cod qk0 rfl) (by decide) rfl ?_
  refine ev_ic (v := 1) (q_cod qk0 rfl) (by decide) (by decide) ?_
  refine ev_iadd (q_cod qk0 rfl) (by decide) ?_
  refine em_nI (q_cod qk0 rfl) (by decide) hf (fun r6 h hf => ?_)
  refine em_pR (q_cod qk0 rfl) (by decide) (by decide) (by decide) hf (fun hf => ?_)
  obtain rfl := m_R_inv hf
  obtain ⟨rfl, rfl⟩ := (show m_KU o hz ((), _) from hK)
  exact ev_ret (q_cod qk0 rfl) rfl
theorem f0_cl {l0 : Nat} {l1 : Int32} {h : q_H} {x : Unit × q_H} (hf : f0 l0 l1 h = some x) : q_Cl 0 [.ref l0, .int l1] h (.inl none) x.2 := q_Cl.of rfl (q_LvS rfl rfl) (f0_ok hf ⟨rfl, rfl⟩)
/-! SmithyBench$Body.clear()V -/
theorem qk1 : q_cs.getD 1 [] = qc_1 := rfl
def f1 (l0 : Nat) : m_M Unit :=
  m_B (m_pI 0 l0 7 0) (fun _ => m_R ())
theorem f1_ok {l0 : Nat} {h : q_H} {o : q_O} {hz : q_H} {x : Unit × q_H} (hf : f1 l0 h = some x) (hK : (m_KU o hz) x) : q_Ev none 1 0 [(0, .ref l0)] [] h o hz := by
  unfold f1 at hf
  refine ev_aload_n (q_cod qk1 rfl) (by decide) rfl ?_
  refine ev_ic (v := 0) (q_cod qk1 rfl) (by decide) (by decide) ?_
  refine em_pI (q_cod qk1 rfl) (by decide) (by decide) (by decide) hf (fun hf => ?_)
  obtain rfl := m_R_inv hf
  obtain ⟨rfl, rfl⟩ := (show m_KU o hz ((), _) from hK)
  exact ev_ret (q_cod qk1 rfl) rfl
theorem f1_cl {l0 : Nat} {h : q_H} {x : Unit × q_H} (hf : f1 l0 h = some x) : q_Cl 1 [.ref l0] h (.inl none) x.2 := q_Cl.of rfl (q_LvS rfl rfl) (f1_ok hf ⟨rfl, rfl⟩)
/-! SmithyBench$Body.add(III)V -/
theorem qk2 : q_cs.getD 2 [] = qc_2 := rfl
def f2 (l0 : Nat) (l1 : Int32) (l2 : Int32) (l3 : Int32) : m_M Unit :=
  m_B (m_gI 0 l0 7) (fun v1 => m_B (m_gI 0 l0 6) (fun v2 => if v1 < v2 then (m_B (m_gR 0 l0 0) (fun r3 => m_B (m_gI 0 l0 7) (fun v4 => m_B (m_wI r3 v4 l1) (fun _ => m_B (m_gR 0 l0 1) (fun r5 => m_B (m_gI 0 l0 7) (fun v6 => m_B (m_wI r5 v6 l2) (fun _ => m_B (m_gR 0 l0 2) (fun r7 => m_B (m_gI 0 l0 7) (fun v8 => m_B (m_wI r7 v8 l3) (fun _ => m_B (m_gI 0 l0 7) (fun v9 => m_B (m_pI 0 l0 7 (v9 + 1)) (fun _ => m_R ())))))))))))) else (m_R ())))
theorem f2_ok {l0 : Nat} {l1 : Int32} {l2 : Int32} {l3 : Int32} {h : q_H} {o : q_O} {hz : q_H} {x : Unit × q_H} (hf : f2 l0 l1 l2 l3 h = some x) (hK : (m_KU o hz) x) : q_Ev none 2 0 [(0, .ref l0), (1, .int l1), (2, .int l2), (3, .int l3)] [] h o hz := by
  unfold f2 at hf
  refine ev_aload_n (q_cod qk2 rfl) (by decide) rfl ?_
  refine em_gI (q_cod qk2 rfl) (by decide) (by decide) hf (fun v1 hf => ?_)
  refine ev_aload_n (q_cod qk2 rfl) (by decide) rfl ?_
  refine em_gI (q_cod qk2 rfl) (by decide) (by decide) hf (fun v2 hf => ?_)
  refine em_ic_lt (q_cod qk2 rfl) (by decide) hf (fun c10 hf => ?_) (fun c10 hf => ?_)
  · refine ev_aload_n (q_cod qk2 rfl) (by decide) rfl ?_
    refine em_gR (q_cod qk2 rfl) (by decide) (by decide) hf (fun r3 hf => ?_)
    refine ev_aload_n (q_cod qk2 rfl) (by decide) rfl ?_
    refine em_gI (q_cod qk2 rfl) (by decide) (by decide) hf (fun v4 hf => ?_)
    refine ev_iload_n (q_cod qk2 rfl) (by decide) rfl ?_
    refine em_wI (q_cod qk2 rfl) (by decide) hf (fun hf => ?_)
    refine ev_aload_n (q_cod qk2 rfl) (by decide) rfl ?_
    refine em_gR (q_cod qk2 rfl) (by decide) (by decide) hf (fun r5 hf => ?_)
    refine ev_aload_n (q_cod qk2 rfl) (by decide) rfl ?_
    refine em_gI (q_cod qk2 rfl) (by decide) (by decide) hf (fun v6 hf => ?_)
    refine ev_iload_n (q_cod qk2 rfl) (by decide) rfl ?_
    refine em_wI (q_cod qk2 rfl) (by decide) hf (fun hf => ?_)
    refine ev_aload_n (q_cod qk2 rfl) (by decide) rfl ?_
    refine em_gR (q_cod qk2 rfl) (by decide) (by decide) hf (fun r7 hf => ?_)
    refine ev_aload_n (q_cod qk2 rfl) (by decide) rfl ?_
    refine em_gI (q_cod qk2 rfl) (by decide) (by decide) hf (fun v8 hf => ?_)
    refine ev_iload_n (q_cod qk2 rfl) (by decide) rfl ?_
    refine em_wI (q_cod qk2 rfl) (by decide) hf (fun hf => ?_)
    refine ev_aload_n (q_cod qk2 rfl) (by decide) rfl ?_
    refine ev_dup (q_cod qk2 rfl) (by decide) rfl ?_
    refine em_gI (q_cod qk2 rfl) (by decide) (by decide) hf (fun v9 hf => ?_)
    refine ev_ic (v := 1) (q_cod qk2 rfl) (by decide) (by decide) ?_
    refine ev_iadd (q_cod qk2 rfl) (by decide) ?_
    refine em_pI (q_cod qk2 rfl) (by decide) (by decide) (by decide) hf (fun hf => ?_)
    obtain rfl := m_R_inv hf
    obtain ⟨rfl, rfl⟩ := (show m_KU o hz ((), _) from hK)
    exact ev_ret (q_cod qk2 rfl) rfl
  · obtain rfl := m_R_inv hf
    obtain ⟨rfl, rfl⟩ := (show m_KU o hz ((), _) from hK)
    exact ev_ret (q_cod qk2 rfl) rfl
theorem f2_cl {l0 : Nat} {l1 : Int32} {l2 : Int32} {l3 : Int32} {h : q_H} {x : Unit × q_H} (hf : f2 l0 l1 l2 l3 h = some x) : q_Cl 2 [.ref l0, .int l1, .int l2, .int l3] h (.inl none) x.2 := q_Cl.of rfl (q_LvS rfl rfl) (f2_ok hf ⟨rfl, rfl⟩)
/-! SmithyBench$Body.addCopy(LSmithyBench$Body;I)V -/
theorem qk3 : q_cs.getD 3 [] = qc_3 := rfl
def f3 (l0 : Nat) (l1 : Nat) (l2 : Int32) : m_M Unit :=
  m_B (m_gR 0 l1 0) (fun r1 => m_B (m_lI r1 l2) (fun v2 => m_B (m_gR 0 l1 1) (fun r3 => m_B (m_lI r3 l2) (fun v4 => m_B (m_gR 0 l1 2) (fun r5 => m_B (m_lI r5 l2) (fun v6 => m_B (m_aK l0 0) (fun _ => m_B (f2 l0 v2 v4 v6) (fun _ => m_R ()))))))))
theorem f3_ok {l0 : Nat} {l1 : Nat} {l2 : Int32} {h : q_H} {o : q_O} {hz : q_H} {x : Unit × q_H} (hf : f3 l0 l1 l2 h = some x) (hK : (m_KU o hz) x) : q_Ev none 3 0 [(0, .ref l0), (1, .ref l1), (2, .int l2)] [] h o hz := by
  unfold f3 at hf
  refine ev_aload_n (q_cod qk3 rfl) (by decide) rfl ?_
  refine ev_aload_n (q_cod qk3 rfl) (by decide) rfl ?_
  refine em_gR (q_cod qk3 rfl) (by decide) (by decide) hf (fun r1 hf => ?_)
  refine ev_iload_n (q_cod qk3 rfl) (by decide) rfl ?_
  refine em_lI (q_cod qk3 rfl) (by decide) hf (fun v2 hf => ?_)
  refine ev_aload_n (q_cod qk3 rfl) (by decide) rfl ?_
  refine em_gR (q_cod qk3 rfl) (by decide) (by decide) hf (fun r3 hf => ?_)
  refine ev_iload_n (q_cod qk3 rfl) (by decide) rfl ?_
  refine em_lI (q_cod qk3 rfl) (by decide) hf (fun v4 hf => ?_)
  refine ev_aload_n (q_cod qk3 rfl) (by decide) rfl ?_
  refine em_gR (q_cod qk3 rfl) (by decide) (by decide) hf (fun r5 hf => ?_)
  refine ev_iload_n (q_cod qk3 rfl) (by decide) rfl ?_
  refine em_lI (q_cod qk3 rfl) (by decide) hf (fun v6 hf => ?_)
  obtain ⟨g7, hf⟩ := m_aK_some hf
  refine em_call (v := (fun _ => none)) (q_cod qk3 rfl) rfl rfl (q_cokV rfl rfl (Or.inr g7)) rfl (fun x e => f2_cl e) hf (fun _ h hf => ?_)
  obtain rfl := m_R_inv hf
  obtain ⟨rfl, rfl⟩ := (show m_KU o hz ((), _) from hK)
  exact ev_ret (q_cod qk3 rfl) rfl
theorem f3_cl {l0 : Nat} {l1 : Nat} {l2 : Int32} {h : q_H} {x : Unit × q_H} (hf : f3 l0 l1 l2 h = some x) : q_Cl 3 [.ref l0, .ref l1, .int l2] h (.inl none) x.2 := q_Cl.of rfl (q_LvS rfl rfl) (f3_ok hf ⟨rfl, rfl⟩)
/-! SmithyBench$Body.addNamed(LSmithyBench$Body;II)V -/
theorem qk4 : q_cs.getD 4 [] = qc_4 := rfl
def f4 (l0 : Nat) (l1 : Nat) (l2 : Int32) (l3 : Int32) : m_M Unit :=
  m_B (m_gR 0 l1 0) (fun r1 => m_B (m_lI r1 l2) (fun v2 => m_B (m_gR 0 l1 2) (fun r3 => m_B (m_lI r3 l2) (fun v4 => m_B (m_aK l0 0) (fun _ => m_B (f2 l0 v2 l3 v4) (fun _ => m_R ()))))))
theorem f4_ok {l0 : Nat} {l1 : Nat} {l2 : Int32} {l3 : Int32} {h : q_H} {o : q_O} {hz : q_H} {x : Unit × q_H} (hf : f4 l0 l1 l2 l3 h = some x) (hK : (m_KU o hz) x) : q_Ev none 4 0 [(0, .ref l0), (1, .ref l1), (2, .int l2), (3, .int l3)] [] h o hz := by
  unfold f4 at hf
  refine ev_aload_n (q_cod qk4 rfl) (by decide) rfl ?_
  refine ev_aload_n (q_cod qk4 rfl) (by decide) rfl ?_
  refine em_gR (q_cod qk4 rfl) (by decide) (by decide) hf (fun r1 hf => ?_)
  refine ev_iload_n (q_cod qk4 rfl) (by decide) rfl ?_
  refine em_lI (q_cod qk4 rfl) (by decide) hf (fun v2 hf => ?_)
  refine ev_iload_n (q_cod qk4 rfl) (by decide) rfl ?_
  refine ev_aload_n (q_cod qk4 rfl) (by decide) rfl ?_
  refine em_gR (q_cod qk4 rfl) (by decide) (by decide) hf (fun r3 hf => ?_)
  refine ev_iload_n (q_cod qk4 rfl) (by decide) rfl ?_
  refine em_lI (q_cod qk4 rfl) (by decide) hf (fun v4 hf => ?_)
  obtain ⟨g5, hf⟩ := m_aK_some hf
  refine em_call (v := (fun _ => none)) (q_cod qk4 rfl) rfl rfl (q_cokV rfl rfl (Or.inr g5)) rfl (fun x e => f2_cl e) hf (fun _ h hf => ?_)
  obtain rfl := m_R_inv hf
  obtain ⟨rfl, rfl⟩ := (show m_KU o hz ((), _) from hK)
  exact ev_ret (q_cod qk4 rfl) rfl
theorem f4_cl {l0 : Nat} {l1 : Nat} {l2 : Int32} {l3 : Int32} {h : q_H} {x : Unit × q_H} (hf : f4 l0 l1 l2 l3 h = some x) : q_Cl 4 [.ref l0, .ref l1, .int l2, .int l3] h (.inl none) x.2 := q_Cl.of rfl (q_LvS rfl rfl) (f4_ok hf ⟨rfl, rfl⟩)
/-! SmithyBench$Body.addPlain(LSmithyBench$Body;II)V -/
theorem qk5 : q_cs.getD 5 [] = qc_5 := rfl
def f5_28 (l0 : Nat) (l1 : Nat) (l2 : Int32) (l3 : Int32) (s0 : Nat) (s1 : Int32) : m_M Unit :=
  m_B (m_gR 0 l1 2) (fun r1 => m_B (m_lI r1 l2) (fun v2 => m_B (m_aK s0 0) (fun _ => m_B (f2 s0 s1 l3 (v2 + 1)) (fun _ => m_B (m_aK l0 0) (fun _ => m_B (f2 l0 2 0 0) (fun _ => m_R ()))))))
theorem f5_28_ok {l0 : Nat} {l1 : Nat} {l2 : Int32} {l3 : Int32} {s0 : Nat} {s1 : Int32} {h : q_H} {o : q_O} {hz : q_H} {x : Unit × q_H} (hf : f5_28 l0 l1 l2 l3 s0 s1 h = some x) (hK : (m_KU o hz) x) : q_Ev none 5 28 [(0, .ref l0), (1, .ref l1), (2, .int l2), (3, .int l3)] [.int s1, .ref s0] h o hz := by
  unfold f5_28 at hf
  refine ev_iload_n (q_cod qk5 rfl) (by decide) rfl ?_
  refine ev_aload_n (q_cod qk5 rfl) (by decide) rfl ?_
  refine em_gR (q_cod qk5 rfl) (by decide) (by decide) hf (fun r1 hf => ?_)
  refine ev_iload_n (q_cod qk5 rfl) (by decide) rfl ?_
  refine em_lI (q_cod qk5 rfl) (by decide) hf (fun v2 hf => ?_)
  refine ev_ic (v := 1) (q_cod qk5 rfl) (by decide) (by decide) ?_
  refine ev_iadd (q_cod qk5 rfl) (by decide) ?_
  obtain ⟨g3, hf⟩ := m_aK_some hf
  refine em_call (v := (fun _ => none)) (q_cod qk5 rfl) rfl rfl (q_cokV rfl rfl (Or.inr g3)) rfl (fun x e => f2_cl e) hf (fun _ h hf => ?_)
  refine ev_aload_n (q_cod qk5 rfl) (by decide) rfl ?_
  refine ev_ic (v := 2) (q_cod qk5 rfl) (by decide) (by decide) ?_
  refine ev_ic (v := 0) (q_cod qk5 rfl) (by decide) (by decide) ?_
  refine ev_ic (v := 0) (q_cod qk5 rfl) (by decide) (by decide) ?_
  obtain ⟨g5, hf⟩ := m_aK_some hf
  refine em_call (v := (fun _ => none)) (q_cod qk5 rfl) rfl rfl (q_cokV rfl rfl (Or.inr g5)) rfl (fun x e => f2_cl e) hf (fun _ h hf => ?_)
  obtain rfl := m_R_inv hf
  obtain ⟨rfl, rfl⟩ := (show m_KU o hz ((), _) from hK)
  exact ev_ret (q_cod qk5 rfl) rfl
def f5_15 (l0 : Nat) (l1 : Nat) (l2 : Int32) (l3 : Int32) (s0 : Int32) : m_M Unit :=
  if s0 = 0 then (f5_28 l0 l1 l2 l3 l0 4) else (f5_28 l0 l1 l2 l3 l0 3)
theorem f5_15_ok {l0 : Nat} {l1 : Nat} {l2 : Int32} {l3 : Int32} {s0 : Int32} {h : q_H} {o : q_O} {hz : q_H} {x : Unit × q_H} (hf : f5_15 l0 l1 l2 l3 s0 h = some x) (hK : (m_KU o hz) x) : q_Ev none 5 15 [(0, .ref l0), (1, .ref l1), (2, .int l2), (3, .int l3)] [.int s0] h o hz := by
  unfold f5_15 at hf
  refine ev_is2 (L' := [(0, .ref l0), (1, .ref l1), (2, .int l2), (3, .int l3), (4, .int s0)]) (q_cod qk5 rfl) (by decide) rfl ?_
  refine ev_aload_n (q_cod qk5 rfl) (by decide) rfl ?_
  refine ev_iload (q_cod qk5 rfl) (by decide) rfl ?_
  refine em_if_eq (q_cod qk5 rfl) (by decide) hf (fun c1 hf => ?_) (fun c1 hf => ?_)
  · refine ev_ic (v := 4) (q_cod qk5 rfl) (by decide) (by decide) ?_
    exact ev_weak (q_pk [0, 1, 2, 3] rfl) (f5_28_ok hf hK)
  · refine ev_ic (v := 3) (q_cod qk5 rfl) (by decide) (by decide) ?_
    refine ev_goto (q_cod qk5 rfl) (by decide) ?_
    exact ev_weak (q_pk [0, 1, 2, 3] rfl) (f5_28_ok hf hK)
def f5 (l0 : Nat) (l1 : Nat) (l2 : Int32) (l3 : Int32) : m_M Unit :=
  m_B (m_gR 0 l1 0) (fun r1 => m_B (m_lI r1 l2) (fun v2 => if v2 = 1 then (f5_15 l0 l1 l2 l3 1) else (f5_15 l0 l1 l2 l3 0)))
theorem f5_ok {l0 : Nat} {l1 : Nat} {l2 : Int32} {l3 : Int32} {h : q_H} {o : q_O} {hz : q_H} {x : Unit × q_H} (hf : f5 l0 l1 l2 l3 h = some x) (hK : (m_KU o hz) x) : q_Ev none 5 0 [(0, .ref l0), (1, .ref l1), (2, .int l2), (3, .int l3)] [] h o hz := by
  unfold f5 at hf
  refine ev_aload_n (q_cod qk5 rfl) (by decide) rfl ?_
  refine em_gR (q_cod qk5 rfl) (by decide) (by decide) hf (fun r1 hf => ?_)
  refine ev_iload_n (q_cod qk5 rfl) (by decide) rfl ?_
  refine em_lI (q_cod qk5 rfl) (by decide) hf (fun v2 hf => ?_)
  refine ev_ic (v := 1) (q_cod qk5 rfl) (by decide) (by decide) ?_
  refine em_ic_ne (q_cod qk5 rfl) (by decide) hf (fun c3 hf => ?_) (fun c3 hf => ?_)
  · refine ev_ic (v := 1) (q_cod qk5 rfl) (by decide) (by decide) ?_
    refine ev_goto (q_cod qk5 rfl) (by decide) ?_
    exact (f5_15_ok hf hK)
  · refine ev_ic (v := 0) (q_cod qk5 rfl) (by decide) (by decide) ?_
    exact (f5_15_ok hf hK)
theorem f5_cl {l0 : Nat} {l1 : Nat} {l2 : Int32} {l3 : Int32} {h : q_H} {x : Unit × q_H} (hf : f5 l0 l1 l2 l3 h = some x) : q_Cl 5 [.ref l0, .ref l1, .int l2, .int l3] h (.inl none) x.2 := q_Cl.of rfl (q_LvS rfl rfl) (f5_ok hf ⟨rfl, rfl⟩)
/-! SmithyBench$Body.addRange(LSmithyBench$Body;II)V -/
theorem qk6 : q_cs.getD 6 [] = qc_6 := rfl
def f6_22  : m_M Unit :=
  m_R ()
theorem f6_22_ok  {h : q_H} {o : q_O} {hz : q_H} {x : Unit × q_H} (hf : f6_22 h = some x) (hK : (m_KU o hz) x) : q_Ev none 6 22 [] [] h o hz := by
  unfold f6_22 at hf
  obtain rfl := m_R_inv hf
  obtain ⟨rfl, rfl⟩ := (show m_KU o hz ((), _) from hK)
  exact ev_ret (q_cod qk6 rfl) rfl
def f6_3b (l0 : Nat) (l1 : Nat) (l3 : Int32) (l4 : Int32) : m_M ((Nat × Nat × Int32 × Int32) ⊕ Unit) :=
  if l4 < l3 then (m_B (m_aK l0 0) (fun _ => m_B (f3 l0 l1 l4) (fun _ => m_R (.inl (l0, l1, l3, (l4 + 1)))))) else (m_B (f6_22) (fun r => m_R (.inr r)))
theorem f6_3b_ok {l0 : Nat} {l1 : Nat} {l3 : Int32} {l4 : Int32} {h : q_H} {o : q_O} {hz : q_H} {x : ((Nat × Nat × Int32 × Int32) ⊕ Unit) × q_H} (hf : f6_3b l0 l1 l3 l4 h = some x) (hK : (m_yK (fun (s : Nat × Nat × Int32 × Int32) (h : q_H) => q_Ev none 6 3 [(0, .ref (s.1)), (1, .ref (s.2.1)), (3, .int (s.2.2.1)), (4, .int (s.2.2.2))] [] h o hz) (m_KU o hz)) x) : q_Ev none 6 3 [(0, .ref l0), (1, .ref l1), (3, .int l3), (4, .int l4)] [] h o hz := by
  unfold f6_3b at hf
  refine ev_iload (q_cod qk6 rfl) (by decide) rfl ?_
  refine ev_iload_n (q_cod qk6 rfl) (by decide) rfl ?_
  refine em_ic_ge (q_cod qk6 rfl) (by decide) hf (fun c3 hf => ?_) (fun c3 hf => ?_)
  · refine ev_aload_n (q_cod qk6 rfl) (by decide) rfl ?_
    refine ev_aload_n (q_cod qk6 rfl) (by decide) rfl ?_
    refine ev_iload (q_cod qk6 rfl) (by decide) rfl ?_
    obtain ⟨g1, hf⟩ := m_aK_some hf
    refine em_call (v := (fun _ => none)) (q_cod qk6 rfl) rfl rfl (q_cokV rfl rfl (Or.inr g1)) rfl (fun x e => f3_cl e) hf (fun _ h hf => ?_)
    refine ev_inc (v := l4 + 1) (L' := [(0, .ref l0), (1, .ref l1), (3, .int l3), (4, .int (l4 + 1))]) (q_cod qk6 rfl) (by decide) rfl rfl rfl ?_
    refine ev_goto (q_cod qk6 rfl) (by decide) ?_
    obtain rfl := m_R_inv hf
    exact (show q_Ev none 6 3 [(0, .ref l0), (1, .ref l1), (3, .int l3), (4, .int (l4 + 1))] [] _ o hz from hK)
  · obtain ⟨y0, hf0, hx⟩ := m_inr_some hf
    subst hx
    exact ev_weak (q_pk [] rfl) (f6_22_ok hf0 hK)
def f6_3 (l0 : Nat) (l1 : Nat) (l3 : Int32) (l4 : Int32) : m_M Unit := m_W (fun s => f6_3b (s.1) (s.2.1) (s.2.2.1) (s.2.2.2)) 1000000 (l0, l1, l3, l4)
theorem f6_3_ok {l0 : Nat} {l1 : Nat} {l3 : Int32} {l4 : Int32} {h : q_H} {o : q_O} {hz : q_H} {x : Unit × q_H} (hf : f6_3 l0 l1 l3 l4 h = some x) (hK : (m_KU o hz) x) : q_Ev none 6 3 [(0, .ref l0), (1, .ref l1), (3, .int l3), (4, .int l4)] [] h o hz :=
  m_W_ok (P := (fun (s : Nat × Nat × Int32 × Int32) (h : q_H) => q_Ev none 6 3 [(0, .ref (s.1)), (1, .ref (s.2.1)), (3, .int (s.2.2.1)), (4, .int (s.2.2.2))] [] h o hz)) (K := (m_KU o hz)) (fun s h x h1 h2 => f6_3b_ok h1 h2) _ (l0, l1, l3, l4) _ _ hf hK
def f6 (l0 : Nat) (l1 : Nat) (l2 : Int32) (l3 : Int32) : m_M Unit :=
  f6_3 l0 l1 l3 l2
theorem f6_ok {l0 : Nat} {l1 : Nat} {l2 : Int32} {l3 : Int32} {h : q_H} {o : q_O} {hz : q_H} {x : Unit × q_H} (hf : f6 l0 l1 l2 l3 h = some x) (hK : (m_KU o hz) x) : q_Ev none 6 0 [(0, .ref l0), (1, .ref l1), (2, .int l2), (3, .int l3)] [] h o hz := by
  unfold f6 at hf
  refine ev_iload_n (q_cod qk6 rfl) (by decide) rfl ?_
  refine ev_is2 (L' := [(0, .ref l0), (1, .ref l1), (2, .int l2), (3, .int l3), (4, .int l2)]) (q_cod qk6 rfl) (by decide) rfl ?_
  exact ev_weak (q_pk [0, 1, 3, 4] rfl) (f6_3_ok hf hK)
theorem f6_cl {l0 : Nat} {l1 : Nat} {l2 : Int32} {l3 : Int32} {h : q_H} {x : Unit × q_H} (hf : f6 l0 l1 l2 l3 h = some x) : q_Cl 6 [.ref l0, .ref l1, .int l2, .int l3] h (.inl none) x.2 := q_Cl.of rfl (q_LvS rfl rfl) (f6_ok hf ⟨rfl, rfl⟩)
/-! SmithyBench$Body.take(LSmithyBench$Body;)Z -/
theorem qk7 : q_cs.getD 7 [] = qc_7 := rfl
def f7 (l0 : Nat) (l1 : Nat) : m_M Int32 :=
  m_B (m_gI 0 l1 7) (fun v1 => m_B (m_gI 0 l0 6) (fun v2 => if v2 < v1 then (m_R 0) else (m_B (m_gR 0 l1 0) (fun r3 => m_B (m_gR 0 l0 0) (fun r4 => m_B (m_gI 0 l1 7) (fun v5 => m_B (m_cp r3 0 r4 0 v5) (fun _ => m_B (m_gR 0 l1 1) (fun r6 => m_B (m_gR 0 l0 1) (fun r7 => m_B (m_gI 0 l1 7) (fun v8 => m_B (m_cp r6 0 r7 0 v8) (fun _ => m_B (m_gR 0 l1 2) (fun r9 => m_B (m_gR 0 l0 2) (fun r10 => m_B (m_gI 0 l1 7) (fun v11 => m_B (m_cp r9 0 r10 0 v11) (fun _ => m_B (m_gI 0 l1 7) (fun v12 => m_B (m_pI 0 l0 7 v12) (fun _ => m_R 1)))))))))))))))))
theorem f7_ok {l0 : Nat} {l1 : Nat} {h : q_H} {o : q_O} {hz : q_H} {x : Int32 × q_H} (hf : f7 l0 l1 h = some x) (hK : (q_KI o hz) x) : q_Ev none 7 0 [(0, .ref l0), (1, .ref l1)] [] h o hz := by
  unfold f7 at hf
  refine ev_aload_n (q_cod qk7 rfl) (by decide) rfl ?_
  refine em_gI (q_cod qk7 rfl) (by decide) (by decide) hf (fun v1 hf => ?_)
  refine ev_aload_n (q_cod qk7 rfl) (by decide) rfl ?_
  refine em_gI (q_cod qk7 rfl) (by decide) (by decide) hf (fun v2 hf => ?_)
  refine em_ic_le (q_cod qk7 rfl) (by decide) hf (fun c13 hf => ?_) (fun c13 hf => ?_)
  · refine ev_ic (v := 0) (q_cod qk7 rfl) (by decide) (by decide) ?_
    obtain rfl := m_R_inv hf
    obtain ⟨rfl, rfl⟩ := (show q_KI o hz (0, _) from hK)
    exact ev_ret (q_cod qk7 rfl) rfl
  · refine ev_aload_n (q_cod qk7 rfl) (by decide) rfl ?_
    refine em_gR (q_cod qk7 rfl) (by decide) (by decide) hf (fun r3 hf => ?_)
    refine ev_ic (v := 0) (q_cod qk7 rfl) (by decide) (by decide) ?_
    refine ev_aload_n (q_cod qk7 rfl) (by decide) rfl ?_
    refine em_gR (q_cod qk7 rfl) (by decide) (by decide) hf (fun r4 hf => ?_)
    refine ev_ic (v := 0) (q_cod qk7 rfl) (by decide) (by decide) ?_
    refine ev_aload_n (q_cod qk7 rfl) (by decide) rfl ?_
    refine em_gI (q_cod qk7 rfl) (by decide) (by decide) hf (fun v5 hf => ?_)
    refine em_cp (q_cod qk7 rfl) (Nat.le_of_ble_eq_true rfl) hf (fun hf => ?_)
    refine ev_aload_n (q_cod qk7 rfl) (by decide) rfl ?_
    refine em_gR (q_cod qk7 rfl) (by decide) (by decide) hf (fun r6 hf => ?_)
    refine ev_ic (v := 0) (q_cod qk7 rfl) (by decide) (by decide) ?_
    refine ev_aload_n (q_cod qk7 rfl) (by decide) rfl ?_
    refine em_gR (q_cod qk7 rfl) (by decide) (by decide) hf (fun r7 hf => ?_)
    refine ev_ic (v := 0) (q_cod qk7 rfl) (by decide) (by decide) ?_
    refine ev_aload_n (q_cod qk7 rfl) (by decide) rfl ?_
    refine em_gI (q_cod qk7 rfl) (by decide) (by decide) hf (fun v8 hf => ?_)
    refine em_cp (q_cod qk7 rfl) (Nat.le_of_ble_eq_true rfl) hf (fun hf => ?_)
    refine ev_aload_n (q_cod qk7 rfl) (by decide) rfl ?_
    refine em_gR (q_cod qk7 rfl) (by decide) (by decide) hf (fun r9 hf => ?_)
    refine ev_ic (v := 0) (q_cod qk7 rfl) (by decide) (by decide) ?_
    refine ev_aload_n (q_cod qk7 rfl) (by decide) rfl ?_
    refine em_gR (q_cod qk7 rfl) (by decide) (by decide) hf (fun r10 hf => ?_)
    refine ev_ic (v := 0) (q_cod qk7 rfl) (by decide) (by decide) ?_
    refine ev_aload_n (q_cod qk7 rfl) (by decide) rfl ?_
    refine em_gI (q_cod qk7 rfl) (by decide) (by decide) hf (fun v11 hf => ?_)
    refine em_cp (q_cod qk7 rfl) (Nat.le_of_ble_eq_true rfl) hf (fun hf => ?_)
    refine ev_aload_n (q_cod qk7 rfl) (by decide) rfl ?_
    refine ev_aload_n (q_cod qk7 rfl) (by decide) rfl ?_
    refine em_gI (q_cod qk7 rfl) (by decide) (by decide) hf (fun v12 hf => ?_)
    refine em_pI (q_cod qk7 rfl) (by decide) (by decide) (by decide) hf (fun hf => ?_)
    refine ev_ic (v := 1) (q_cod qk7 rfl) (by decide) (by decide) ?_
    obtain rfl := m_R_inv hf
    obtain ⟨rfl, rfl⟩ := (show q_KI o hz (1, _) from hK)
    exact ev_ret (q_cod qk7 rfl) rfl
theorem f7_cl {l0 : Nat} {l1 : Nat} {h : q_H} {x : Int32 × q_H} (hf : f7 l0 l1 h = some x) : q_Cl 7 [.ref l0, .ref l1] h (.inl (some (.int x.1))) x.2 := q_Cl.of rfl (q_LvS rfl rfl) (f7_ok hf ⟨rfl, rfl⟩)
/-! SmithyBench$Body.part(II)I -/
theorem qk9 : q_cs.getD 9 [] = qc_9 := rfl
def f9_34 (l3 : Int32) : m_M Int32 :=
  m_R l3
theorem f9_34_ok {l3 : Int32} {h : q_H} {o : q_O} {hz : q_H} {x : Int32 × q_H} (hf : f9_34 l3 h = some x) (hK : (q_KI o hz) x) : q_Ev none 9 34 [(3, .int l3)] [] h o hz := by
  unfold f9_34 at hf
  refine ev_iload_n (q_cod qk9 rfl) (by decide) rfl ?_
  obtain rfl := m_R_inv hf
  obtain ⟨rfl, rfl⟩ := (show q_KI o hz (l3, _) from hK)
  exact ev_ret (q_cod qk9 rfl) rfl
def f9_7b (l0 : Nat) (l2 : Int32) (l3 : Int32) (l4 : Int32) : m_M ((Nat × Int32 × Int32 × Int32) ⊕ Int32) :=
  if l4 < l2 then (m_B (m_gI 0 l0 7) (fun v1 => if l3 < v1 then (m_B (m_gR 0 l0 3) (fun r2 => m_B (m_lI r2 l3) (fun v3 => m_R (.inl (l0, l2, v3, (l4 + 1)))))) else (m_B (f9_34 l3) (fun r => m_R (.inr r))))) else (m_B (f9_34 l3) (fun r => m_R (.inr r)))
theorem f9_7b_ok {l0 : Nat} {l2 : Int32} {l3 : Int32} {l4 : Int32} {h : q_H} {o : q_O} {hz : q_H} {x : ((Nat × Int32 × Int32 × Int32) ⊕ Int32) × q_H} (hf : f9_7b l0 l2 l3 l4 h = some x) (hK : (m_yK (fun (s : Nat × Int32 × Int32 × Int32) (h : q_H) => q_Ev none 9 7 [(0, .ref (s.1)), (2, .int (s.2.1)), (3, .int (s.2.2.1)), (4, .int (s.2.2.2))] [] h o hz) (q_KI o hz)) x) : q_Ev none 9 7 [(0, .ref l0), (2, .int l2), (3, .int l3), (4, .int l4)] [] h o hz := by
  unfold f9_7b at hf
  refine ev_iload (q_cod qk9 rfl) (by decide) rfl ?_
  refine ev_iload_n (q_cod qk9 rfl) (by decide) rfl ?_
  refine em_ic_ge (q_cod qk9 rfl) (by decide) hf (fun c5 hf => ?_) (fun c5 hf => ?_)
  · refine ev_iload_n (q_cod qk9 rfl) (by decide) rfl ?_
    refine ev_aload_n (q_cod qk9 rfl) (by decide) rfl ?_
    refine em_gI (q_cod qk9 rfl) (by decide) (by decide) hf (fun v1 hf => ?_)
    refine em_ic_ge (q_cod qk9 rfl) (by decide) hf (fun c4 hf => ?_) (fun c4 hf => ?_)
    · refine ev_aload_n (q_cod qk9 rfl) (by decide) rfl ?_
      refine em_gR (q_cod qk9 rfl) (by decide) (by decide) hf (fun r2 hf => ?_)
      refine ev_iload_n (q_cod qk9 rfl) (by decide) rfl ?_
      refine em_lI (q_cod qk9 rfl) (by decide) hf (fun v3 hf => ?_)
      refine ev_is1 (L' := [(0, .ref l0), (2, .int l2), (3, .int v3), (4, .int l4)]) (q_cod qk9 rfl) (by decide) rfl ?_
      refine ev_inc (v := l4 + 1) (L' := [(0, .ref l0), (2, .int l2), (3, .int v3), (4, .int (l4 + 1))]) (q_cod qk9 rfl) (by decide) rfl rfl rfl ?_
      refine ev_goto (q_cod qk9 rfl) (by decide) ?_
      obtain rfl := m_R_inv hf
      exact (show q_Ev none 9 7 [(0, .ref l0), (2, .int l2), (3, .int v3), (4, .int (l4 + 1))] [] _ o hz from hK)
    · obtain ⟨y0, hf0, hx⟩ := m_inr_some hf
      subst hx
      exact ev_weak (q_pk [2] rfl) (f9_34_ok hf0 hK)
  · obtain ⟨y0, hf0, hx⟩ := m_inr_some hf
    subst hx
    exact ev_weak (q_pk [2] rfl) (f9_34_ok hf0 hK)
def f9_7 (l0 : Nat) (l2 : Int32) (l3 : Int32) (l4 : Int32) : m_M Int32 := m_W (fun s => f9_7b (s.1) (s.2.1) (s.2.2.1) (s.2.2.2)) 1000000 (l0, l2, l3, l4)
theorem f9_7_ok {l0 : Nat} {l2 : Int32} {l3 : Int32} {l4 : Int32} {h : q_H} {o : q_O} {hz : q_H} {x : Int32 × q_H} (hf : f9_7 l0 l2 l3 l4 h = some x) (hK : (q_KI o hz) x) : q_Ev none 9 7 [(0, .ref l0), (2, .int l2), (3, .int l3), (4, .int l4)] [] h o hz :=
  m_W_ok (P := (fun (s : Nat × Int32 × Int32 × Int32) (h : q_H) => q_Ev none 9 7 [(0, .ref (s.1)), (2, .int (s.2.1)), (3, .int (s.2.2.1)), (4, .int (s.2.2.2))] [] h o hz)) (K := (q_KI o hz)) (fun s h x h1 h2 => f9_7b_ok h1 h2) _ (l0, l2, l3, l4) _ _ hf hK
def f9 (l0 : Nat) (l1 : Int32) (l2 : Int32) : m_M Int32 :=
  f9_7 l0 l2 (l1 + 1) 0
theorem f9_ok {l0 : Nat} {l1 : Int32} {l2 : Int32} {h : q_H} {o : q_O} {hz : q_H} {x : Int32 × q_H} (hf : f9 l0 l1 l2 h = some x) (hK : (q_KI o hz) x) : q_Ev none 9 0 [(0, .ref l0), (1, .int l1), (2, .int l2)] [] h o hz := by
  unfold f9 at hf
  refine ev_iload_n (q_cod qk9 rfl) (by decide) rfl ?_
  refine ev_ic (v := 1) (q_cod qk9 rfl) (by decide) (by decide) ?_
  refine ev_iadd (q_cod qk9 rfl) (by decide) ?_
  refine ev_is1 (L' := [(0, .ref l0), (1, .int l1), (2, .int l2), (3, .int (l1 + 1))]) (q_cod qk9 rfl) (by decide) rfl ?_
  refine ev_ic (v := 0) (q_cod qk9 rfl) (by decide) (by decide) ?_
  refine ev_is2 (L' := [(0, .ref l0), (1, .int l1), (2, .int l2), (3, .int (l1 + 1)), (4, .int 0)]) (q_cod qk9 rfl) (by decide) rfl ?_
  exact ev_weak (q_pk [0, 2, 3, 4] rfl) (f9_7_ok hf hK)
theorem f9_cl {l0 : Nat} {l1 : Int32} {l2 : Int32} {h : q_H} {x : Int32 × q_H} (hf : f9 l0 l1 l2 h = some x) : q_Cl 9 [.ref l0, .int l1, .int l2] h (.inl (some (.int x.1))) x.2 := q_Cl.of rfl (q_LvS rfl rfl) (f9_ok hf ⟨rfl, rfl⟩)
/-! SmithyBench$Body.measure()V -/
theorem qk8 : q_cs.getD 8 [] = qc_8 := rfl
def f8_34  : m_M Unit :=
  m_R ()
theorem f8_34_ok  {h : q_H} {o : q_O} {hz : q_H} {x : Unit × q_H} (hf : f8_34 h = some x) (hK : (m_KU o hz) x) : q_Ev none 8 34 [] [] h o hz := by
  unfold f8_34 at hf
  obtain rfl := m_R_inv hf
  obtain ⟨rfl, rfl⟩ := (show m_KU o hz ((), _) from hK)
  exact ev_ret (q_cod qk8 rfl) rfl
def f8_7b (l0 : Nat) (l1 : Int32) : m_M ((Nat × Int32) ⊕ Unit) :=
  if l1 < 0 then (m_B (f8_34) (fun r => m_R (.inr r))) else (m_B (m_gR 0 l0 3) (fun r1 => m_B (m_gR 0 l0 2) (fun r2 => m_B (m_lI r2 l1) (fun v3 => m_B (m_aK l0 0) (fun _ => m_B (f9 l0 l1 v3) (fun v5 => m_B (m_wI r1 l1 v5) (fun _ => m_R (.inl (l0, (l1 + (-1)))))))))))
theorem f8_7b_ok {l0 : Nat} {l1 : Int32} {h : q_H} {o : q_O} {hz : q_H} {x : ((Nat × Int32) ⊕ Unit) × q_H} (hf : f8_7b l0 l1 h = some x) (hK : (m_yK (fun (s : Nat × Int32) (h : q_H) => q_Ev none 8 7 [(0, .ref (s.1)), (1, .int (s.2))] [] h o hz) (m_KU o hz)) x) : q_Ev none 8 7 [(0, .ref l0), (1, .int l1)] [] h o hz := by
  unfold f8_7b at hf
  refine ev_iload_n (q_cod qk8 rfl) (by decide) rfl ?_
  refine em_if_lt (q_cod qk8 rfl) (by decide) hf (fun c6 hf => ?_) (fun c6 hf => ?_)
  · obtain ⟨y0, hf0, hx⟩ := m_inr_some hf
    subst hx
    exact ev_weak (q_pk [] rfl) (f8_34_ok hf0 hK)
  · refine ev_aload_n (q_cod qk8 rfl) (by decide) rfl ?_
    refine em_gR (q_cod qk8 rfl) (by decide) (by decide) hf (fun r1 hf => ?_)
    refine ev_iload_n (q_cod qk8 rfl) (by decide) rfl ?_
    refine ev_aload_n (q_cod qk8 rfl) (by decide) rfl ?_
    refine ev_iload_n (q_cod qk8 rfl) (by decide) rfl ?_
    refine ev_aload_n (q_cod qk8 rfl) (by decide) rfl ?_
    refine em_gR (q_cod qk8 rfl) (by decide) (by decide) hf (fun r2 hf => ?_)
    refine ev_iload_n (q_cod qk8 rfl) (by decide) rfl ?_
    refine em_lI (q_cod qk8 rfl) (by decide) hf (fun v3 hf => ?_)
    obtain ⟨g4, hf⟩ := m_aK_some hf
    refine em_call (v := (fun u => some (.int u))) (q_cod qk8 rfl) rfl rfl (q_cokV rfl rfl (Or.inr g4)) rfl (fun x e => f9_cl e) hf (fun v5 h hf => ?_)
    refine em_wI (q_cod qk8 rfl) (by decide) hf (fun hf => ?_)
    refine ev_inc (v := l1 + (-1)) (L' := [(0, .ref l0), (1, .int (l1 + (-1)))]) (q_cod qk8 rfl) (by decide) rfl rfl rfl ?_
    refine ev_goto (q_cod qk8 rfl) (by decide) ?_
    obtain rfl := m_R_inv hf
    exact (show q_Ev none 8 7 [(0, .ref l0), (1, .int (l1 + (-1)))] [] _ o hz from hK)
def f8_7 (l0 : Nat) (l1 : Int32) : m_M Unit := m_W (fun s => f8_7b (s.1) (s.2)) 1000000 (l0, l1)
theorem f8_7_ok {l0 : Nat} {l1 : Int32} {h : q_H} {o : q_O} {hz : q_H} {x : Unit × q_H} (hf : f8_7 l0 l1 h = some x) (hK : (m_KU o hz) x) : q_Ev none 8 7 [(0, .ref l0), (1, .int l1)] [] h o hz :=
  m_W_ok (P := (fun (s : Nat × Int32) (h : q_H) => q_Ev none 8 7 [(0, .ref (s.1)), (1, .int (s.2))] [] h o hz)) (K := (m_KU o hz)) (fun s h x h1 h2 => f8_7b_ok h1 h2) _ (l0, l1) _ _ hf hK
def f8 (l0 : Nat) : m_M Unit :=
  m_B (m_gI 0 l0 7) (fun v1 => f8_7 l0 (v1 - 1))
theorem f8_ok {l0 : Nat} {h : q_H} {o : q_O} {hz : q_H} {x : Unit × q_H} (hf : f8 l0 h = some x) (hK : (m_KU o hz) x) : q_Ev none 8 0 [(0, .ref l0)] [] h o hz := by
  unfold f8 at hf
  refine ev_aload_n (q_cod qk8 rfl) (by decide) rfl ?_
  refine em_gI (q_cod qk8 rfl) (by decide) (by decide) hf (fun v1 hf => ?_)
  refine ev_ic (v := 1) (q_cod qk8 rfl) (by decide) (by decide) ?_
  refine ev_isub (q_cod qk8 rfl) (by decide) ?_
  refine ev_is1 (L' := [(0, .ref l0), (1, .int (v1 - 1))]) (q_cod qk8 rfl) (by decide) rfl ?_
  exact (f8_7_ok hf hK)
theorem f8_cl {l0 : Nat} {h : q_H} {x : Unit × q_H} (hf : f8 l0 h = some x) : q_Cl 8 [.ref l0] h (.inl none) x.2 := q_Cl.of rfl (q_LvS rfl rfl) (f8_ok hf ⟨rfl, rfl⟩)
/-! SmithyBench$Body.letAround(II)I -/
theorem qk10 : q_cs.getD 10 [] = qc_10 := rfl
def f10_58  : m_M Int32 :=
  m_R (-1)
theorem f10_58_ok  {h : q_H} {o : q_O} {hz : q_H} {x : Int32 × q_H} (hf : f10_58 h = some x) (hK : (q_KI o hz) x) : q_Ev none 10 58 [] [] h o hz := by
  unfold f10_58 at hf
  refine ev_ic (v := (-1)) (q_cod qk10 rfl) (by decide) (by decide) ?_
  obtain rfl := m_R_inv hf
  obtain ⟨rfl, rfl⟩ := (show q_KI o hz ((-1), _) from hK)
  exact ev_ret (q_cod qk10 rfl) rfl
def f10_52 (l0 : Nat) (l1 : Int32) (l2 : Int32) (l3 : Int32) : m_M ((Nat × Int32 × Int32 × Int32) ⊕ Int32) :=
  m_R (.inl (l0, l1, l2, (l3 + (-1))))
theorem f10_52_ok {l0 : Nat} {l1 : Int32} {l2 : Int32} {l3 : Int32} {h : q_H} {o : q_O} {hz : q_H} {x : ((Nat × Int32 × Int32 × Int32) ⊕ Int32) × q_H} (hf : f10_52 l0 l1 l2 l3 h = some x) (hK : (m_yK (fun (s : Nat × Int32 × Int32 × Int32) (h : q_H) => q_Ev none 10 4 [(0, .ref (s.1)), (1, .int (s.2.1)), (2, .int (s.2.2.1)), (3, .int (s.2.2.2))] [] h o hz) (q_KI o hz)) x) : q_Ev none 10 52 [(0, .ref l0), (1, .int l1), (2, .int l2), (3, .int l3)] [] h o hz := by
  unfold f10_52 at hf
  refine ev_inc (v := l3 + (-1)) (L' := [(0, .ref l0), (1, .int l1), (2, .int l2), (3, .int (l3 + (-1)))]) (q_cod qk10 rfl) (by decide) rfl rfl rfl ?_
  refine ev_goto (q_cod qk10 rfl) (by decide) ?_
  obtain rfl := m_R_inv hf
  exact (show q_Ev none 10 4 [(0, .ref l0), (1, .int l1), (2, .int l2), (3, .int (l3 + (-1)))] [] _ o hz from hK)
def f10_50 (l3 : Int32) : m_M Int32 :=
  m_R l3
theorem f10_50_ok {l3 : Int32} {h : q_H} {o : q_O} {hz : q_H} {x : Int32 × q_H} (hf : f10_50 l3 h = some x) (hK : (q_KI o hz) x) : q_Ev none 10 50 [(3, .int l3)] [] h o hz := by
  unfold f10_50 at hf
  refine ev_iload_n (q_cod qk10 rfl) (by decide) rfl ?_
  obtain rfl := m_R_inv hf
  obtain ⟨rfl, rfl⟩ := (show q_KI o hz (l3, _) from hK)
  exact ev_ret (q_cod qk10 rfl) rfl
def f10_4b (l0 : Nat) (l1 : Int32) (l2 : Int32) (l3 : Int32) : m_M ((Nat × Int32 × Int32 × Int32) ⊕ Int32) :=
  if l3 < 0 then (m_B (f10_58) (fun r => m_R (.inr r))) else (m_B (m_gR 0 l0 0) (fun r1 => m_B (m_lI r1 l3) (fun v2 => if v2 = 5 then (m_B (m_gR 0 l0 1) (fun r3 => m_B (m_lI r3 l3) (fun v4 => if v4 = l2 then (m_B (m_gR 0 l0 3) (fun r5 => m_B (m_lI r5 l3) (fun v6 => if l1 < v6 then (m_B (m_gR 0 l0 3) (fun r7 => m_B (m_lI r7 (l3 + 1)) (fun v8 => if l1 < v8 then (f10_52 l0 l1 l2 l3) else (m_B (f10_50 l3) (fun r => m_R (.inr r)))))) else (f10_52 l0 l1 l2 l3)))) else (f10_52 l0 l1 l2 l3)))) else (f10_52 l0 l1 l2 l3))))
theorem f10_4b_ok {l0 : Nat} {l1 : Int32} {l2 : Int32} {l3 : Int32} {h : q_H} {o : q_O} {hz : q_H} {x : ((Nat × Int32 × Int32 × Int32) ⊕ Int32) × q_H} (hf : f10_4b l0 l1 l2 l3 h = some x) (hK : (m_yK (fun (s : Nat × Int32 × Int32 × Int32) (h : q_H) => q_Ev none 10 4 [(0, .ref (s.1)), (1, .int (s.2.1)), (2, .int (s.2.2.1)), (3, .int (s.2.2.2))] [] h o hz) (q_KI o hz)) x) : q_Ev none 10 4 [(0, .ref l0), (1, .int l1), (2, .int l2), (3, .int l3)] [] h o hz := by
  unfold f10_4b at hf
  refine ev_iload_n (q_cod qk10 rfl) (by decide) rfl ?_
  refine em_if_lt (q_cod qk10 rfl) (by decide) hf (fun c13 hf => ?_) (fun c13 hf => ?_)
  · obtain ⟨y0, hf0, hx⟩ := m_inr_some hf
    subst hx
    exact ev_weak (q_pk [] rfl) (f10_58_ok hf0 hK)
  · refine ev_aload_n (q_cod qk10 rfl) (by decide) rfl ?_
    refine em_gR (q_cod qk10 rfl) (by decide) (by decide) hf (fun r1 hf => ?_)
    refine ev_iload_n (q_cod qk10 rfl) (by decide) rfl ?_
    refine em_lI (q_cod qk10 rfl) (by decide) hf (fun v2 hf => ?_)
    refine ev_ic (v := 5) (q_cod qk10 rfl) (by decide) (by decide) ?_
    refine em_ic_ne (q_cod qk10 rfl) (by decide) hf (fun c12 hf => ?_) (fun c12 hf => ?_)
    · refine ev_aload_n (q_cod qk10 rfl) (by decide) rfl ?_
      refine em_gR (q_cod qk10 rfl) (by decide) (by decide) hf (fun r3 hf => ?_)
      refine ev_iload_n (q_cod qk10 rfl) (by decide) rfl ?_
      refine em_lI (q_cod qk10 rfl) (by decide) hf (fun v4 hf => ?_)
      refine ev_iload_n (q_cod qk10 rfl) (by decide) rfl ?_
      refine em_ic_ne (q_cod qk10 rfl) (by decide) hf (fun c11 hf => ?_) (fun c11 hf => ?_)
      · refine ev_iload_n (q_cod qk10 rfl) (by decide) rfl ?_
        refine ev_aload_n (q_cod qk10 rfl) (by decide) rfl ?_
        refine em_gR (q_cod qk10 rfl) (by decide) (by decide) hf (fun r5 hf => ?_)
        refine ev_iload_n (q_cod qk10 rfl) (by decide) rfl ?_
        refine em_lI (q_cod qk10 rfl) (by decide) hf (fun v6 hf => ?_)
        refine em_ic_ge (q_cod qk10 rfl) (by decide) hf (fun c10 hf => ?_) (fun c10 hf => ?_)
        · refine ev_iload_n (q_cod qk10 rfl) (by decide) rfl ?_
          refine ev_aload_n (q_cod qk10 rfl) (by decide) rfl ?_
          refine em_gR (q_cod qk10 rfl) (by decide) (by decide) hf (fun r7 hf => ?_)
          refine ev_iload_n (q_cod qk10 rfl) (by decide) rfl ?_
          refine ev_ic (v := 1) (q_cod qk10 rfl) (by decide) (by decide) ?_
          refine ev_iadd (q_cod qk10 rfl) (by decide) ?_
          refine em_lI (q_cod qk10 rfl) (by decide) hf (fun v8 hf => ?_)
          refine em_ic_lt (q_cod qk10 rfl) (by decide) hf (fun c9 hf => ?_) (fun c9 hf => ?_)
          · exact (f10_52_ok hf hK)
          · obtain ⟨y0, hf0, hx⟩ := m_inr_some hf
            subst hx
            exact ev_weak (q_pk [3] rfl) (f10_50_ok hf0 hK)
        · exact (f10_52_ok hf hK)
      · exact (f10_52_ok hf hK)
    · exact (f10_52_ok hf hK)
def f10_4 (l0 : Nat) (l1 : Int32) (l2 : Int32) (l3 : Int32) : m_M Int32 := m_W (fun s => f10_4b (s.1) (s.2.1) (s.2.2.1) (s.2.2.2)) 1000000 (l0, l1, l2, l3)
theorem f10_4_ok {l0 : Nat} {l1 : Int32} {l2 : Int32} {l3 : Int32} {h : q_H} {o : q_O} {hz : q_H} {x : Int32 × q_H} (hf : f10_4 l0 l1 l2 l3 h = some x) (hK : (q_KI o hz) x) : q_Ev none 10 4 [(0, .ref l0), (1, .int l1), (2, .int l2), (3, .int l3)] [] h o hz :=
  m_W_ok (P := (fun (s : Nat × Int32 × Int32 × Int32) (h : q_H) => q_Ev none 10 4 [(0, .ref (s.1)), (1, .int (s.2.1)), (2, .int (s.2.2.1)), (3, .int (s.2.2.2))] [] h o hz)) (K := (q_KI o hz)) (fun s h x h1 h2 => f10_4b_ok h1 h2) _ (l0, l1, l2, l3) _ _ hf hK
def f10 (l0 : Nat) (l1 : Int32) (l2 : Int32) : m_M Int32 :=
  f10_4 l0 l1 l2 (l1 - 1)
theorem f10_ok {l0 : Nat} {l1 : Int32} {l2 : Int32} {h : q_H} {o : q_O} {hz : q_H} {x : Int32 × q_H} (hf : f10 l0 l1 l2 h = some x) (hK : (q_KI o hz) x) : q_Ev none 10 0 [(0, .ref l0), (1, .int l1), (2, .int l2)] [] h o hz := by
  unfold f10 at hf
  refine ev_iload_n (q_cod qk10 rfl) (by decide) rfl ?_
  refine ev_ic (v := 1) (q_cod qk10 rfl) (by decide) (by decide) ?_
  refine ev_isub (q_cod qk10 rfl) (by decide) ?_
  refine ev_is1 (L' := [(0, .ref l0), (1, .int l1), (2, .int l2), (3, .int (l1 - 1))]) (q_cod qk10 rfl) (by decide) rfl ?_
  exact (f10_4_ok hf hK)
theorem f10_cl {l0 : Nat} {l1 : Int32} {l2 : Int32} {h : q_H} {x : Int32 × q_H} (hf : f10 l0 l1 l2 h = some x) : q_Cl 10 [.ref l0, .int l1, .int l2] h (.inl (some (.int x.1))) x.2 := q_Cl.of rfl (q_LvS rfl rfl) (f10_ok hf ⟨rfl, rfl⟩)
/-! SmithyBench$Body.isVariable(I)Z -/
theorem qk11 : q_cs.getD 11 [] = qc_11 := rfl
def f11_26 (s0 : Int32) : m_M Int32 :=
  m_B (m_G (s0 = 0 ∨ s0 = 1)) (fun _ => m_R s0)
theorem f11_26_ok {s0 : Int32} {h : q_H} {o : q_O} {hz : q_H} {x : Int32 × q_H} (hf : f11_26 s0 h = some x) (hK : (q_KI o hz) x) : q_Ev none 11 26 [] [.int s0] h o hz := by
  unfold f11_26 at hf
  obtain ⟨g1, hf⟩ := m_G_some hf
  obtain rfl := m_R_inv hf
  obtain ⟨rfl, rfl⟩ := (show q_KI o hz (s0, _) from hK)
  exact ev_ret (q_cod qk11 rfl) (q_retZ g1)
def f11_21  : m_M Int32 :=
  f11_26 1
theorem f11_21_ok  {h : q_H} {o : q_O} {hz : q_H} {x : Int32 × q_H} (hf : f11_21 h = some x) (hK : (q_KI o hz) x) : q_Ev none 11 21 [] [] h o hz := by
  unfold f11_21 at hf
  refine ev_ic (v := 1) (q_cod qk11 rfl) (by decide) (by decide) ?_
  refine ev_goto (q_cod qk11 rfl) (by decide) ?_
  exact (f11_26_ok hf hK)
def f11 (l0 : Nat) (l1 : Int32) : m_M Int32 :=
  m_B (m_gR 0 l0 0) (fun r1 => m_B (m_lI r1 l1) (fun v2 => if v2 = 1 then (f11_21) else (m_B (m_gR 0 l0 0) (fun r3 => m_B (m_lI r3 l1) (fun v4 => if v4 = 6 then (f11_21) else (f11_26 0))))))
theorem f11_ok {l0 : Nat} {l1 : Int32} {h : q_H} {o : q_O} {hz : q_H} {x : Int32 × q_H} (hf : f11 l0 l1 h = some x) (hK : (q_KI o hz) x) : q_Ev none 11 0 [(0, .ref l0), (1, .int l1)] [] h o hz := by
  unfold f11 at hf
  refine ev_aload_n (q_cod qk11 rfl) (by decide) rfl ?_
  refine em_gR (q_cod qk11 rfl) (by decide) (by decide) hf (fun r1 hf => ?_)
  refine ev_iload_n (q_cod qk11 rfl) (by decide) rfl ?_
  refine em_lI (q_cod qk11 rfl) (by decide) hf (fun v2 hf => ?_)
  refine ev_ic (v := 1) (q_cod qk11 rfl) (by decide) (by decide) ?_
  refine em_ic_eq (q_cod qk11 rfl) (by decide) hf (fun c6 hf => ?_) (fun c6 hf => ?_)
  · exact ev_weak (q_pk [] rfl) (f11_21_ok hf hK)
  · refine ev_aload_n (q_cod qk11 rfl) (by decide) rfl ?_
    refine em_gR (q_cod qk11 rfl) (by decide) (by decide) hf (fun r3 hf => ?_)
    refine ev_iload_n (q_cod qk11 rfl) (by decide) rfl ?_
    refine em_lI (q_cod qk11 rfl) (by decide) hf (fun v4 hf => ?_)
    refine ev_bi (v := 6) (q_cod qk11 rfl) (by decide) (by decide) ?_
    refine em_ic_ne (q_cod qk11 rfl) (by decide) hf (fun c5 hf => ?_) (fun c5 hf => ?_)
    · exact ev_weak (q_pk [] rfl) (f11_21_ok hf hK)
    · refine ev_ic (v := 0) (q_cod qk11 rfl) (by decide) (by decide) ?_
      exact ev_weak (q_pk [] rfl) (f11_26_ok hf hK)
theorem f11_cl {l0 : Nat} {l1 : Int32} {h : q_H} {x : Int32 × q_H} (hf : f11 l0 l1 h = some x) : q_Cl 11 [.ref l0, .int l1] h (.inl (some (.int x.1))) x.2 := q_Cl.of rfl (q_LvS rfl rfl) (f11_ok hf ⟨rfl, rfl⟩)
/-! SmithyBench$Body.isLocal(I)Z -/
theorem qk12 : q_cs.getD 12 [] = qc_12 := rfl
def f12_25 (s0 : Int32) : m_M Int32 :=
  m_B (m_G (s0 = 0 ∨ s0 = 1)) (fun _ => m_R s0)
theorem f12_25_ok {s0 : Int32} {h : q_H} {o : q_O} {hz : q_H} {x : Int32 × q_H} (hf : f12_25 s0 h = some x) (hK : (q_KI o hz) x) : q_Ev none 12 25 [] [.int s0] h o hz := by
  unfold f12_25 at hf
  obtain ⟨g1, hf⟩ := m_G_some hf
  obtain rfl := m_R_inv hf
  obtain ⟨rfl, rfl⟩ := (show q_KI o hz (s0, _) from hK)
  exact ev_ret (q_cod qk12 rfl) (q_retZ g1)
def f12_24  : m_M Int32 :=
  f12_25 0
theorem f12_24_ok  {h : q_H} {o : q_O} {hz : q_H} {x : Int32 × q_H} (hf : f12_24 h = some x) (hK : (q_KI o hz) x) : q_Ev none 12 24 [] [] h o hz := by
  unfold f12_24 at hf
  refine ev_ic (v := 0) (q_cod qk12 rfl) (by decide) (by decide) ?_
  exact (f12_25_ok hf hK)
def f12 (l0 : Nat) (l1 : Int32) : m_M Int32 :=
  m_B (m_aK l0 0) (fun _ => m_B (f11 l0 l1) (fun v2 => if v2 = 0 then (f12_24) else (m_B (m_gR 0 l0 5) (fun r3 => m_B (m_lI r3 l1) (fun v4 => if v4 < 1000 then (f12_25 1) else (f12_24))))))
theorem f12_ok {l0 : Nat} {l1 : Int32} {h : q_H} {o : q_O} {hz : q_H} {x : Int32 × q_H} (hf : f12 l0 l1 h = some x) (hK : (q_KI o hz) x) : q_Ev none 12 0 [(0, .ref l0), (1, .int l1)] [] h o hz := by
  unfold f12 at hf
  refine ev_aload_n (q_cod qk12 rfl) (by decide) rfl ?_
  refine ev_iload_n (q_cod qk12 rfl) (by decide) rfl ?_
  obtain ⟨g1, hf⟩ := m_aK_some hf
  refine em_call (v := (fun u => some (.int u))) (q_cod qk12 rfl) rfl rfl (q_cokV rfl rfl (Or.inr g1)) rfl (fun x e => f11_cl e) hf (fun v2 h hf => ?_)
  refine em_if_eq (q_cod qk12 rfl) (by decide) hf (fun c6 hf => ?_) (fun c6 hf => ?_)
  · exact ev_weak (q_pk [] rfl) (f12_24_ok hf hK)
  · refine ev_aload_n (q_cod qk12 rfl) (by decide) rfl ?_
    refine em_gR (q_cod qk12 rfl) (by decide) (by decide) hf (fun r3 hf => ?_)
    refine ev_iload_n (q_cod qk12 rfl) (by decide) rfl ?_
    refine em_lI (q_cod qk12 rfl) (by decide) hf (fun v4 hf => ?_)
    refine ev_si (v := 1000) (q_cod qk12 rfl) (by decide) (by decide) ?_
    refine em_ic_ge (q_cod qk12 rfl) (by decide) hf (fun c5 hf => ?_) (fun c5 hf => ?_)
    · refine ev_ic (v := 1) (q_cod qk12 rfl) (by decide) (by decide) ?_
      refine ev_goto (q_cod qk12 rfl) (by decide) ?_
      exact ev_weak (q_pk [] rfl) (f12_25_ok hf hK)
    · exact ev_weak (q_pk [] rfl) (f12_24_ok hf hK)
theorem f12_cl {l0 : Nat} {l1 : Int32} {h : q_H} {x : Int32 × q_H} (hf : f12 l0 l1 h = some x) : q_Cl 12 [.ref l0, .int l1] h (.inl (some (.int x.1))) x.2 := q_Cl.of rfl (q_LvS rfl rfl) (f12_ok hf ⟨rfl, rfl⟩)
/-! SmithyBench$Body.isOfField(I)Z -/
theorem qk13 : q_cs.getD 13 [] = qc_13 := rfl
def f13_25 (s0 : Int32) : m_M Int32 :=
  m_B (m_G (s0 = 0 ∨ s0 = 1)) (fun _ => m_R s0)
theorem f13_25_ok {s0 : Int32} {h : q_H} {o : q_O} {hz : q_H} {x : Int32 × q_H} (hf : f13_25 s0 h = some x) (hK : (q_KI o hz) x) : q_Ev none 13 25 [] [.int s0] h o hz := by
  unfold f13_25 at hf
  obtain ⟨g1, hf⟩ := m_G_some hf
  obtain rfl := m_R_inv hf
  obtain ⟨rfl, rfl⟩ := (show q_KI o hz (s0, _) from hK)
  exact ev_ret (q_cod qk13 rfl) (q_retZ g1)
def f13_24  : m_M Int32 :=
  f13_25 0
theorem f13_24_ok  {h : q_H} {o : q_O} {hz : q_H} {x : Int32 × q_H} (hf : f13_24 h = some x) (hK : (q_KI o hz) x) : q_Ev none 13 24 [] [] h o hz := by
  unfold f13_24 at hf
  refine ev_ic (v := 0) (q_cod qk13 rfl) (by decide) (by decide) ?_
  exact (f13_25_ok hf hK)
def f13 (l0 : Nat) (l1 : Int32) : m_M Int32 :=
  m_B (m_aK l0 0) (fun _ => m_B (f11 l0 l1) (fun v2 => if v2 = 0 then (f13_24) else (m_B (m_gR 0 l0 5) (fun r3 => m_B (m_lI r3 l1) (fun v4 => if v4 < 1000 then (f13_24) else (f13_25 1))))))
theorem f13_ok {l0 : Nat} {l1 : Int32} {h : q_H} {o : q_O} {hz : q_H} {x : Int32 × q_H} (hf : f13 l0 l1 h = some x) (hK : (q_KI o hz) x) : q_Ev none 13 0 [(0, .ref l0), (1, .int l1)] [] h o hz := by
  unfold f13 at hf
  refine ev_aload_n (q_cod qk13 rfl) (by decide) rfl ?_
  refine ev_iload_n (q_cod qk13 rfl) (by decide) rfl ?_
  obtain ⟨g1, hf⟩ := m_aK_some hf
  refine em_call (v := (fun u => some (.int u))) (q_cod qk13 rfl) rfl rfl (q_cokV rfl rfl (Or.inr g1)) rfl (fun x e => f11_cl e) hf (fun v2 h hf => ?_)
  refine em_if_eq (q_cod qk13 rfl) (by decide) hf (fun c6 hf => ?_) (fun c6 hf => ?_)
  · exact ev_weak (q_pk [] rfl) (f13_24_ok hf hK)
  · refine ev_aload_n (q_cod qk13 rfl) (by decide) rfl ?_
    refine em_gR (q_cod qk13 rfl) (by decide) (by decide) hf (fun r3 hf => ?_)
    refine ev_iload_n (q_cod qk13 rfl) (by decide) rfl ?_
    refine em_lI (q_cod qk13 rfl) (by decide) hf (fun v4 hf => ?_)
    refine ev_si (v := 1000) (q_cod qk13 rfl) (by decide) (by decide) ?_
    refine em_ic_lt (q_cod qk13 rfl) (by decide) hf (fun c5 hf => ?_) (fun c5 hf => ?_)
    · exact ev_weak (q_pk [] rfl) (f13_24_ok hf hK)
    · refine ev_ic (v := 1) (q_cod qk13 rfl) (by decide) (by decide) ?_
      refine ev_goto (q_cod qk13 rfl) (by decide) ?_
      exact ev_weak (q_pk [] rfl) (f13_25_ok hf hK)
theorem f13_cl {l0 : Nat} {l1 : Int32} {h : q_H} {x : Int32 × q_H} (hf : f13 l0 l1 h = some x) : q_Cl 13 [.ref l0, .int l1] h (.inl (some (.int x.1))) x.2 := q_Cl.of rfl (q_LvS rfl rfl) (f13_ok hf ⟨rfl, rfl⟩)
/-! SmithyBench$Body.isOuter(II)Z -/
theorem qk14 : q_cs.getD 14 [] = qc_14 := rfl
def f14_23 (s0 : Int32) : m_M Int32 :=
  m_B (m_G (s0 = 0 ∨ s0 = 1)) (fun _ => m_R s0)
theorem f14_23_ok {s0 : Int32} {h : q_H} {o : q_O} {hz : q_H} {x : Int32 × q_H} (hf : f14_23 s0 h = some x) (hK : (q_KI o hz) x) : q_Ev none 14 23 [] [.int s0] h o hz := by
  unfold f14_23 at hf
  obtain ⟨g1, hf⟩ := m_G_some hf
  obtain rfl := m_R_inv hf
  obtain ⟨rfl, rfl⟩ := (show q_KI o hz (s0, _) from hK)
  exact ev_ret (q_cod qk14 rfl) (q_retZ g1)
def f14_22  : m_M Int32 :=
  f14_23 0
theorem f14_22_ok  {h : q_H} {o : q_O} {hz : q_H} {x : Int32 × q_H} (hf : f14_22 h = some x) (hK : (q_KI o hz) x) : q_Ev none 14 22 [] [] h o hz := by
  unfold f14_22 at hf
  refine ev_ic (v := 0) (q_cod qk14 rfl) (by decide) (by decide) ?_
  exact (f14_23_ok hf hK)
def f14 (l0 : Nat) (l1 : Int32) (l2 : Int32) : m_M Int32 :=
  m_B (m_aK l0 0) (fun _ => m_B (f12 l0 l1) (fun v2 => if v2 = 0 then (f14_22) else (m_B (m_gR 0 l0 5) (fun r3 => m_B (m_lI r3 l1) (fun v4 => if v4 < l2 then (f14_23 1) else (f14_22))))))
theorem f14_ok {l0 : Nat} {l1 : Int32} {l2 : Int32} {h : q_H} {o : q_O} {hz : q_H} {x : Int32 × q_H} (hf : f14 l0 l1 l2 h = some x) (hK : (q_KI o hz) x) : q_Ev none 14 0 [(0, .ref l0), (1, .int l1), (2, .int l2)] [] h o hz := by
  unfold f14 at hf
  refine ev_aload_n (q_cod qk14 rfl) (by decide) rfl ?_
  refine ev_iload_n (q_cod qk14 rfl) (by decide) rfl ?_
  obtain ⟨g1, hf⟩ := m_aK_some hf
  refine em_call (v := (fun u => some (.int u))) (q_cod qk14 rfl) rfl rfl (q_cokV rfl rfl (Or.inr g1)) rfl (fun x e => f12_cl e) hf (fun v2 h hf => ?_)
  refine em_if_eq (q_cod qk14 rfl) (by decide) hf (fun c6 hf => ?_) (fun c6 hf => ?_)
  · exact ev_weak (q_pk [] rfl) (f14_22_ok hf hK)
  · refine ev_aload_n (q_cod qk14 rfl) (by decide) rfl ?_
    refine em_gR (q_cod qk14 rfl) (by decide) (by decide) hf (fun r3 hf => ?_)
    refine ev_iload_n (q_cod qk14 rfl) (by decide) rfl ?_
    refine em_lI (q_cod qk14 rfl) (by decide) hf (fun v4 hf => ?_)
    refine ev_iload_n (q_cod qk14 rfl) (by decide) rfl ?_
    refine em_ic_ge (q_cod qk14 rfl) (by decide) hf (fun c5 hf => ?_) (fun c5 hf => ?_)
    · refine ev_ic (v := 1) (q_cod qk14 rfl) (by decide) (by decide) ?_
      refine ev_goto (q_cod qk14 rfl) (by decide) ?_
      exact ev_weak (q_pk [] rfl) (f14_23_ok hf hK)
    · exact ev_weak (q_pk [] rfl) (f14_22_ok hf hK)
theorem f14_cl {l0 : Nat} {l1 : Int32} {l2 : Int32} {h : q_H} {x : Int32 × q_H} (hf : f14 l0 l1 l2 h = some x) : q_Cl 14 [.ref l0, .int l1, .int l2] h (.inl (some (.int x.1))) x.2 := q_Cl.of rfl (q_LvS rfl rfl) (f14_ok hf ⟨rfl, rfl⟩)
/-! SmithyBench$Body.isBoundToLocal(II)Z -/
theorem qk15 : q_cs.getD 15 [] = qc_15 := rfl
def f15_23 (s0 : Int32) : m_M Int32 :=
  m_B (m_G (s0 = 0 ∨ s0 = 1)) (fun _ => m_R s0)
theorem f15_23_ok {s0 : Int32} {h : q_H} {o : q_O} {hz : q_H} {x : Int32 × q_H} (hf : f15_23 s0 h = some x) (hK : (q_KI o hz) x) : q_Ev none 15 23 [] [.int s0] h o hz := by
  unfold f15_23 at hf
  obtain ⟨g1, hf⟩ := m_G_some hf
  obtain rfl := m_R_inv hf
  obtain ⟨rfl, rfl⟩ := (show q_KI o hz (s0, _) from hK)
  exact ev_ret (q_cod qk15 rfl) (q_retZ g1)
def f15_22  : m_M Int32 :=
  f15_23 0
theorem f15_22_ok  {h : q_H} {o : q_O} {hz : q_H} {x : Int32 × q_H} (hf : f15_22 h = some x) (hK : (q_KI o hz) x) : q_Ev none 15 22 [] [] h o hz := by
  unfold f15_22 at hf
  refine ev_ic (v := 0) (q_cod qk15 rfl) (by decide) (by decide) ?_
  exact (f15_23_ok hf hK)
def f15 (l0 : Nat) (l1 : Int32) (l2 : Int32) : m_M Int32 :=
  m_B (m_aK l0 0) (fun _ => m_B (f12 l0 l1) (fun v2 => if v2 = 0 then (f15_22) else (m_B (m_gR 0 l0 5) (fun r3 => m_B (m_lI r3 l1) (fun v4 => if v4 = l2 then (f15_23 1) else (f15_22))))))
theorem f15_ok {l0 : Nat} {l1 : Int32} {l2 : Int32} {h : q_H} {o : q_O} {hz : q_H} {x : Int32 × q_H} (hf : f15 l0 l1 l2 h = some x) (hK : (q_KI o hz) x) : q_Ev none 15 0 [(0, .ref l0), (1, .int l1), (2, .int l2)] [] h o hz := by
  unfold f15 at hf
  refine ev_aload_n (q_cod qk15 rfl) (by decide) rfl ?_
  refine ev_iload_n (q_cod qk15 rfl) (by decide) rfl ?_
  obtain ⟨g1, hf⟩ := m_aK_some hf
  refine em_call (v := (fun u => some (.int u))) (q_cod qk15 rfl) rfl rfl (q_cokV rfl rfl (Or.inr g1)) rfl (fun x e => f12_cl e) hf (fun v2 h hf => ?_)
  refine em_if_eq (q_cod qk15 rfl) (by decide) hf (fun c6 hf => ?_) (fun c6 hf => ?_)
  · exact ev_weak (q_pk [] rfl) (f15_22_ok hf hK)
  · refine ev_aload_n (q_cod qk15 rfl) (by decide) rfl ?_
    refine em_gR (q_cod qk15 rfl) (by decide) (by decide) hf (fun r3 hf => ?_)
    refine ev_iload_n (q_cod qk15 rfl) (by decide) rfl ?_
    refine em_lI (q_cod qk15 rfl) (by decide) hf (fun v4 hf => ?_)
    refine ev_iload_n (q_cod qk15 rfl) (by decide) rfl ?_
    refine em_ic_ne (q_cod qk15 rfl) (by decide) hf (fun c5 hf => ?_) (fun c5 hf => ?_)
    · refine ev_ic (v := 1) (q_cod qk15 rfl) (by decide) (by decide) ?_
      refine ev_goto (q_cod qk15 rfl) (by decide) ?_
      exact ev_weak (q_pk [] rfl) (f15_23_ok hf hK)
    · exact ev_weak (q_pk [] rfl) (f15_22_ok hf hK)
theorem f15_cl {l0 : Nat} {l1 : Int32} {l2 : Int32} {h : q_H} {x : Int32 × q_H} (hf : f15 l0 l1 l2 h = some x) : q_Cl 15 [.ref l0, .int l1, .int l2] h (.inl (some (.int x.1))) x.2 := q_Cl.of rfl (q_LvS rfl rfl) (f15_ok hf ⟨rfl, rfl⟩)
/-! SmithyBench$Body.isBoundToField(III)Z -/
theorem qk16 : q_cs.getD 16 [] = qc_16 := rfl
def f16_69 (s0 : Int32) : m_M Int32 :=
  m_B (m_G (s0 = 0 ∨ s0 = 1)) (fun _ => m_R s0)
theorem f16_69_ok {s0 : Int32} {h : q_H} {o : q_O} {hz : q_H} {x : Int32 × q_H} (hf : f16_69 s0 h = some x) (hK : (q_KI o hz) x) : q_Ev none 16 69 [] [.int s0] h o hz := by
  unfold f16_69 at hf
  obtain ⟨g1, hf⟩ := m_G_some hf
  obtain rfl := m_R_inv hf
  obtain ⟨rfl, rfl⟩ := (show q_KI o hz (s0, _) from hK)
  exact ev_ret (q_cod qk16 rfl) (q_retZ g1)
def f16_68  : m_M Int32 :=
  f16_69 0
theorem f16_68_ok  {h : q_H} {o : q_O} {hz : q_H} {x : Int32 × q_H} (hf : f16_68 h = some x) (hK : (q_KI o hz) x) : q_Ev none 16 68 [] [] h o hz := by
  unfold f16_68 at hf
  refine ev_ic (v := 0) (q_cod qk16 rfl) (by decide) (by decide) ?_
  exact (f16_69_ok hf hK)
def f16_33 (l0 : Nat) (l1 : Int32) (l2 : Int32) (l3 : Int32) (s0 : Int32) : m_M Int32 :=
  if s0 = 0 then (f16_68) else (m_B (m_gR 0 l0 5) (fun r1 => m_B (m_lI r1 l1) (fun v2 => if v2 = (1000 + l2) then (m_B (m_gR 0 l0 1) (fun r3 => m_B (m_lI r3 l1) (fun v4 => if v4 = l3 then (f16_69 1) else (f16_68)))) else (f16_68))))
theorem f16_33_ok {l0 : Nat} {l1 : Int32} {l2 : Int32} {l3 : Int32} {s0 : Int32} {h : q_H} {o : q_O} {hz : q_H} {x : Int32 × q_H} (hf : f16_33 l0 l1 l2 l3 s0 h = some x) (hK : (q_KI o hz) x) : q_Ev none 16 33 [(0, .ref l0), (1, .int l1), (2, .int l2), (3, .int l3)] [.int s0] h o hz := by
  unfold f16_33 at hf
  refine ev_is2 (L' := [(0, .ref l0), (1, .int l1), (2, .int l2), (3, .int l3), (4, .int s0)]) (q_cod qk16 rfl) (by decide) rfl ?_
  refine ev_iload (q_cod qk16 rfl) (by decide) rfl ?_
  refine em_if_eq (q_cod qk16 rfl) (by decide) hf (fun c7 hf => ?_) (fun c7 hf => ?_)
  · exact ev_weak (q_pk [] rfl) (f16_68_ok hf hK)
  · refine ev_aload_n (q_cod qk16 rfl) (by decide) rfl ?_
    refine em_gR (q_cod qk16 rfl) (by decide) (by decide) hf (fun r1 hf => ?_)
    refine ev_iload_n (q_cod qk16 rfl) (by decide) rfl ?_
    refine em_lI (q_cod qk16 rfl) (by decide) hf (fun v2 hf => ?_)
    refine ev_si (v := 1000) (q_cod qk16 rfl) (by decide) (by decide) ?_
    refine ev_iload_n (q_cod qk16 rfl) (by decide) rfl ?_
    refine ev_iadd (q_cod qk16 rfl) (by decide) ?_
    refine em_ic_ne (q_cod qk16 rfl) (by decide) hf (fun c6 hf => ?_) (fun c6 hf => ?_)
    · refine ev_aload_n (q_cod qk16 rfl) (by decide) rfl ?_
      refine em_gR (q_cod qk16 rfl) (by decide) (by decide) hf (fun r3 hf => ?_)
      refine ev_iload_n (q_cod qk16 rfl) (by decide) rfl ?_
      refine em_lI (q_cod qk16 rfl) (by decide) hf (fun v4 hf => ?_)
      refine ev_iload_n (q_cod qk16 rfl) (by decide) rfl ?_
      refine em_ic_ne (q_cod qk16 rfl) (by decide) hf (fun c5 hf => ?_) (fun c5 hf => ?_)
      · refine ev_ic (v := 1) (q_cod qk16 rfl) (by decide) (by decide) ?_
        refine ev_goto (q_cod qk16 rfl) (by decide) ?_
        exact ev_weak (q_pk [] rfl) (f16_69_ok hf hK)
      · exact ev_weak (q_pk [] rfl) (f16_68_ok hf hK)
    · exact ev_weak (q_pk [] rfl) (f16_68_ok hf hK)
def f16_28 (l0 : Nat) (l1 : Int32) (l2 : Int32) (l3 : Int32) : m_M Int32 :=
  f16_33 l0 l1 l2 l3 1
theorem f16_28_ok {l0 : Nat} {l1 : Int32} {l2 : Int32} {l3 : Int32} {h : q_H} {o : q_O} {hz : q_H} {x : Int32 × q_H} (hf : f16_28 l0 l1 l2 l3 h = some x) (hK : (q_KI o hz) x) : q_Ev none 16 28 [(0, .ref l0), (1, .int l1), (2, .int l2), (3, .int l3)] [] h o hz := by
  unfold f16_28 at hf
  refine ev_ic (v := 1) (q_cod qk16 rfl) (by decide) (by decide) ?_
  refine ev_goto (q_cod qk16 rfl) (by decide) ?_
  exact (f16_33_ok hf hK)
def f16 (l0 : Nat) (l1 : Int32) (l2 : Int32) (l3 : Int32) : m_M Int32 :=
  m_B (m_aK l0 0) (fun _ => m_B (f11 l0 l1) (fun v2 => if v2 = 0 then (m_B (m_gR 0 l0 0) (fun r3 => m_B (m_lI r3 l1) (fun v4 => if v4 = 3 then (f16_28 l0 l1 l2 l3) else (m_B (m_gR 0 l0 0) (fun r5 => m_B (m_lI r5 l1) (fun v6 => if v6 = 4 then (f16_28 l0 l1 l2 l3) else (f16_33 l0 l1 l2 l3 0))))))) else (f16_28 l0 l1 l2 l3)))
theorem f16_ok {l0 : Nat} {l1 : Int32} {l2 : Int32} {l3 : Int32} {h : q_H} {o : q_O} {hz : q_H} {x : Int32 × q_H} (hf : f16 l0 l1 l2 l3 h = some x) (hK : (q_KI o hz) x) : q_Ev none 16 0 [(0, .ref l0), (1, .int l1), (2, .int l2), (3, .int l3)] [] h o hz := by
  unfold f16 at hf
  refine ev_aload_n (q_cod qk16 rfl) (by decide) rfl ?_
  refine ev_iload_n (q_cod qk16 rfl) (by decide) rfl ?_
  obtain ⟨g1, hf⟩ := m_aK_some hf
  refine em_call (v := (fun u => some (.int u))) (q_cod qk16 rfl) rfl rfl (q_cokV rfl rfl (Or.inr g1)) rfl (fun x e => f11_cl e) hf (fun v2 h hf => ?_)
  refine em_if_ne (q_cod qk16 rfl) (by decide) hf (fun c9 hf => ?_) (fun c9 hf => ?_)
  · refine ev_aload_n (q_cod qk16 rfl) (by decide) rfl ?_
    refine em_gR (q_cod qk16 rfl) (by decide) (by decide) hf (fun r3 hf => ?_)
    refine ev_iload_n (q_cod qk16 rfl) (by decide) rfl ?_
    refine em_lI (q_cod qk16 rfl) (by decide) hf (fun v4 hf => ?_)
    refine ev_ic (v := 3) (q_cod qk16 rfl) (by decide) (by decide) ?_
    refine em_ic_eq (q_cod qk16 rfl) (by decide) hf (fun c8 hf => ?_) (fun c8 hf => ?_)
    · exact (f16_28_ok hf hK)
    · refine ev_aload_n (q_cod qk16 rfl) (by decide) rfl ?_
      refine em_gR (q_cod qk16 rfl) (by decide) (by decide) hf (fun r5 hf => ?_)
      refine ev_iload_n (q_cod qk16 rfl) (by decide) rfl ?_
      refine em_lI (q_cod qk16 rfl) (by decide) hf (fun v6 hf => ?_)
      refine ev_ic (v := 4) (q_cod qk16 rfl) (by decide) (by decide) ?_
      refine em_ic_ne (q_cod qk16 rfl) (by decide) hf (fun c7 hf => ?_) (fun c7 hf => ?_)
      · exact (f16_28_ok hf hK)
      · refine ev_ic (v := 0) (q_cod qk16 rfl) (by decide) (by decide) ?_
        exact (f16_33_ok hf hK)
  · exact (f16_28_ok hf hK)
theorem f16_cl {l0 : Nat} {l1 : Int32} {l2 : Int32} {l3 : Int32} {h : q_H} {x : Int32 × q_H} (hf : f16 l0 l1 l2 l3 h = some x) : q_Cl 16 [.ref l0, .int l1, .int l2, .int l3] h (.inl (some (.int x.1))) x.2 := q_Cl.of rfl (q_LvS rfl rfl) (f16_ok hf ⟨rfl, rfl⟩)
/-! SmithyBench$Body.isCallOf(II)Z -/
theorem qk17 : q_cs.getD 17 [] = qc_17 := rfl
def f17_34 (s0 : Int32) : m_M Int32 :=
  m_B (m_G (s0 = 0 ∨ s0 = 1)) (fun _ => m_R s0)
theorem f17_34_ok {s0 : Int32} {h : q_H} {o : q_O} {hz : q_H} {x : Int32 × q_H} (hf : f17_34 s0 h = some x) (hK : (q_KI o hz) x) : q_Ev none 17 34 [] [.int s0] h o hz := by
  unfold f17_34 at hf
  obtain ⟨g1, hf⟩ := m_G_some hf
  obtain rfl := m_R_inv hf
  obtain ⟨rfl, rfl⟩ := (show q_KI o hz (s0, _) from hK)
  exact ev_ret (q_cod qk17 rfl) (q_retZ g1)
def f17_33  : m_M Int32 :=
  f17_34 0
theorem f17_33_ok  {h : q_H} {o : q_O} {hz : q_H} {x : Int32 × q_H} (hf : f17_33 h = some x) (hK : (q_KI o hz) x) : q_Ev none 17 33 [] [] h o hz := by
  unfold f17_33 at hf
  refine ev_ic (v := 0) (q_cod qk17 rfl) (by decide) (by decide) ?_
  exact (f17_34_ok hf hK)
def f17 (l0 : Nat) (l1 : Int32) (l2 : Int32) : m_M Int32 :=
  m_B (m_gR 0 l0 0) (fun r1 => m_B (m_lI r1 l1) (fun v2 => if v2 = 7 then (m_B (m_gR 0 l0 5) (fun r3 => m_B (m_lI r3 l1) (fun v4 => if ((q_ush l2 (v4 - 2000)) &&& 1) = 1 then (f17_34 1) else (f17_33)))) else (f17_33)))
theorem f17_ok {l0 : Nat} {l1 : Int32} {l2 : Int32} {h : q_H} {o : q_O} {hz : q_H} {x : Int32 × q_H} (hf : f17 l0 l1 l2 h = some x) (hK : (q_KI o hz) x) : q_Ev none 17 0 [(0, .ref l0), (1, .int l1), (2, .int l2)] [] h o hz := by
  unfold f17 at hf
  refine ev_aload_n (q_cod qk17 rfl) (by decide) rfl ?_
  refine em_gR (q_cod qk17 rfl) (by decide) (by decide) hf (fun r1 hf => ?_)
  refine ev_iload_n (q_cod qk17 rfl) (by decide) rfl ?_
  refine em_lI (q_cod qk17 rfl) (by decide) hf (fun v2 hf => ?_)
  refine ev_bi (v := 7) (q_cod qk17 rfl) (by decide) (by decide) ?_
  refine em_ic_ne (q_cod qk17 rfl) (by decide) hf (fun c6 hf => ?_) (fun c6 hf => ?_)
  · refine ev_iload_n (q_cod qk17 rfl) (by decide) rfl ?_
    refine ev_aload_n (q_cod qk17 rfl) (by decide) rfl ?_
    refine em_gR (q_cod qk17 rfl) (by decide) (by decide) hf (fun r3 hf => ?_)
    refine ev_iload_n (q_cod qk17 rfl) (by decide) rfl ?_
    refine em_lI (q_cod qk17 rfl) (by decide) hf (fun v4 hf => ?_)
    refine ev_si (v := 2000) (q_cod qk17 rfl) (by decide) (by decide) ?_
    refine ev_isub (q_cod qk17 rfl) (by decide) ?_
    refine ev_iushr (q_cod qk17 rfl) (by decide) ?_
    refine ev_ic (v := 1) (q_cod qk17 rfl) (by decide) (by decide) ?_
    refine ev_iand (q_cod qk17 rfl) (by decide) ?_
    refine ev_ic (v := 1) (q_cod qk17 rfl) (by decide) (by decide) ?_
    refine em_ic_ne (q_cod qk17 rfl) (by decide) hf (fun c5 hf => ?_) (fun c5 hf => ?_)
    · refine ev_ic (v := 1) (q_cod qk17 rfl) (by decide) (by decide) ?_
      refine ev_goto (q_cod qk17 rfl) (by decide) ?_
      exact ev_weak (q_pk [] rfl) (f17_34_ok hf hK)
    · exact ev_weak (q_pk [] rfl) (f17_33_ok hf hK)
  · exact ev_weak (q_pk [] rfl) (f17_33_ok hf hK)
theorem f17_cl {l0 : Nat} {l1 : Int32} {l2 : Int32} {h : q_H} {x : Int32 × q_H} (hf : f17 l0 l1 l2 h = some x) : q_Cl 17 [.ref l0, .int l1, .int l2] h (.inl (some (.int x.1))) x.2 := q_Cl.of rfl (q_LvS rfl rfl) (f17_ok hf ⟨rfl, rfl⟩)
/-! SmithyBench$Body.isOfThis(I)Z -/
theorem qk18 : q_cs.getD 18 [] = qc_18 := rfl
def f18_26 (s0 : Int32) : m_M Int32 :=
  m_B (m_G (s0 = 0 ∨ s0 = 1)) (fun _ => m_R s0)
theorem f18_26_ok {s0 : Int32} {h : q_H} {o : q_O} {hz : q_H} {x : Int32 × q_H} (hf : f18_26 s0 h = some x) (hK : (q_KI o hz) x) : q_Ev none 18 26 [] [.int s0] h o hz := by
  unfold f18_26 at hf
  obtain ⟨g1, hf⟩ := m_G_some hf
  obtain rfl := m_R_inv hf
  obtain ⟨rfl, rfl⟩ := (show q_KI o hz (s0, _) from hK)
  exact ev_ret (q_cod qk18 rfl) (q_retZ g1)
def f18_25  : m_M Int32 :=
  f18_26 0
theorem f18_25_ok  {h : q_H} {o : q_O} {hz : q_H} {x : Int32 × q_H} (hf : f18_25 h = some x) (hK : (q_KI o hz) x) : q_Ev none 18 25 [] [] h o hz := by
  unfold f18_25 at hf
  refine ev_ic (v := 0) (q_cod qk18 rfl) (by decide) (by decide) ?_
  exact (f18_26_ok hf hK)
def f18 (l0 : Nat) (l1 : Int32) : m_M Int32 :=
  m_B (m_gR 0 l0 2) (fun r1 => m_B (m_lI r1 l1) (fun v2 => if 0 < v2 then (m_B (m_gR 0 l0 0) (fun r3 => m_B (m_lI r3 (l1 + 1)) (fun v4 => if v4 = 2 then (f18_26 1) else (f18_25)))) else (f18_25)))
theorem f18_ok {l0 : Nat} {l1 : Int32} {h : q_H} {o : q_O} {hz : q_H} {x : Int32 × q_H} (hf : f18 l0 l1 h = some x) (hK : (q_KI o hz) x) : q_Ev none 18 0 [(0, .ref l0), (1, .int l1)] [] h o hz := by
  unfold f18 at hf
  refine ev_aload_n (q_cod qk18 rfl) (by decide) rfl ?_
  refine em_gR (q_cod qk18 rfl) (by decide) (by decide) hf (fun r1 hf => ?_)
  refine ev_iload_n (q_cod qk18 rfl) (by decide) rfl ?_
  refine em_lI (q_cod qk18 rfl) (by decide) hf (fun v2 hf => ?_)
  refine em_if_le (q_cod qk18 rfl) (by decide) hf (fun c6 hf => ?_) (fun c6 hf => ?_)
  · refine ev_aload_n (q_cod qk18 rfl) (by decide) rfl ?_
    refine em_gR (q_cod qk18 rfl) (by decide) (by decide) hf (fun r3 hf => ?_)
    refine ev_iload_n (q_cod qk18 rfl) (by decide) rfl ?_
    refine ev_ic (v := 1) (q_cod qk18 rfl) (by decide) (by decide) ?_
    refine ev_iadd (q_cod qk18 rfl) (by decide) ?_
    refine em_lI (q_cod qk18 rfl) (by decide) hf (fun v4 hf => ?_)
    refine ev_ic (v := 2) (q_cod qk18 rfl) (by decide) (by decide) ?_
    refine em_ic_ne (q_cod qk18 rfl) (by decide) hf (fun c5 hf => ?_) (fun c5 hf => ?_)
    · refine ev_ic (v := 1) (q_cod qk18 rfl) (by decide) (by decide) ?_
      refine ev_goto (q_cod qk18 rfl) (by decide) ?_
      exact ev_weak (q_pk [] rfl) (f18_26_ok hf hK)
    · exact ev_weak (q_pk [] rfl) (f18_25_ok hf hK)
  · exact ev_weak (q_pk [] rfl) (f18_25_ok hf hK)
theorem f18_cl {l0 : Nat} {l1 : Int32} {h : q_H} {x : Int32 × q_H} (hf : f18 l0 l1 h = some x) : q_Cl 18 [.ref l0, .int l1] h (.inl (some (.int x.1))) x.2 := q_Cl.of rfl (q_LvS rfl rfl) (f18_ok hf ⟨rfl, rfl⟩)
/-! SmithyBench$Body.names()I -/
theorem qk19 : q_cs.getD 19 [] = qc_19 := rfl
def f19_46 (l0 : Nat) (l1 : Int32) (l2 : Int32) : m_M ((Nat × Int32 × Int32) ⊕ Int32) :=
  m_R (.inl (l0, l1, (l2 + 1)))
theorem f19_46_ok {l0 : Nat} {l1 : Int32} {l2 : Int32} {h : q_H} {o : q_O} {hz : q_H} {x : ((Nat × Int32 × Int32) ⊕ Int32) × q_H} (hf : f19_46 l0 l1 l2 h = some x) (hK : (m_yK (fun (s : Nat × Int32 × Int32) (h : q_H) => q_Ev none 19 4 [(0, .ref (s.1)), (1, .int (s.2.1)), (2, .int (s.2.2))] [] h o hz) (q_KI o hz)) x) : q_Ev none 19 46 [(0, .ref l0), (1, .int l1), (2, .int l2)] [] h o hz := by
  unfold f19_46 at hf
  refine ev_inc (v := l2 + 1) (L' := [(0, .ref l0), (1, .int l1), (2, .int (l2 + 1))]) (q_cod qk19 rfl) (by decide) rfl rfl rfl ?_
  refine ev_goto (q_cod qk19 rfl) (by decide) ?_
  obtain rfl := m_R_inv hf
  exact (show q_Ev none 19 4 [(0, .ref l0), (1, .int l1), (2, .int (l2 + 1))] [] _ o hz from hK)
def f19_35 (l0 : Nat) (l1 : Int32) (l2 : Int32) : m_M ((Nat × Int32 × Int32) ⊕ Int32) :=
  m_B (m_gR 0 l0 1) (fun r1 => m_B (m_lI r1 l2) (fun v2 => f19_46 l0 (l1 ||| (1 <<< (v2 &&& 31))) l2))
theorem f19_35_ok {l0 : Nat} {l1 : Int32} {l2 : Int32} {h : q_H} {o : q_O} {hz : q_H} {x : ((Nat × Int32 × Int32) ⊕ Int32) × q_H} (hf : f19_35 l0 l1 l2 h = some x) (hK : (m_yK (fun (s : Nat × Int32 × Int32) (h : q_H) => q_Ev none 19 4 [(0, .ref (s.1)), (1, .int (s.2.1)), (2, .int (s.2.2))] [] h o hz) (q_KI o hz)) x) : q_Ev none 19 35 [(0, .ref l0), (1, .int l1), (2, .int l2)] [] h o hz := by
  unfold f19_35 at hf
  refine ev_iload_n (q_cod qk19 rfl) (by decide) rfl ?_
  refine ev_ic (v := 1) (q_cod qk19 rfl) (by decide) (by decide) ?_
  refine ev_aload_n (q_cod qk19 rfl) (by decide) rfl ?_
  refine em_gR (q_cod qk19 rfl) (by decide) (by decide) hf (fun r1 hf => ?_)
  refine ev_iload_n (q_cod qk19 rfl) (by decide) rfl ?_
  refine em_lI (q_cod qk19 rfl) (by decide) hf (fun v2 hf => ?_)
  refine ev_ishl (q_cod qk19 rfl) (by decide) ?_
  refine ev_ior (q_cod qk19 rfl) (by decide) ?_
  refine ev_is1 (L' := [(0, .ref l0), (1, .int (l1 ||| (1 <<< (v2 &&& 31)))), (2, .int l2)]) (q_cod qk19 rfl) (by decide) rfl ?_
  exact (f19_46_ok hf hK)
def f19_52 (l1 : Int32) : m_M Int32 :=
  m_R l1
theorem f19_52_ok {l1 : Int32} {h : q_H} {o : q_O} {hz : q_H} {x : Int32 × q_H} (hf : f19_52 l1 h = some x) (hK : (q_KI o hz) x) : q_Ev none 19 52 [(1, .int l1)] [] h o hz := by
  unfold f19_52 at hf
  refine ev_iload_n (q_cod qk19 rfl) (by decide) rfl ?_
  obtain rfl := m_R_inv hf
  obtain ⟨rfl, rfl⟩ := (show q_KI o hz (l1, _) from hK)
  exact ev_ret (q_cod qk19 rfl) rfl
def f19_4b (l0 : Nat) (l1 : Int32) (l2 : Int32) : m_M ((Nat × Int32 × Int32) ⊕ Int32) :=
  m_B (m_gI 0 l0 7) (fun v1 => if l2 < v1 then (m_B (m_gR 0 l0 0) (fun r2 => m_B (m_lI r2 l2) (fun v3 => if v3 = 1 then (f19_35 l0 l1 l2) else (if v3 < 3 then (f19_46 l0 l1 l2) else (if 7 < v3 then (f19_46 l0 l1 l2) else (f19_35 l0 l1 l2)))))) else (m_B (f19_52 l1) (fun r => m_R (.inr r))))
theorem f19_4b_ok {l0 : Nat} {l1 : Int32} {l2 : Int32} {h : q_H} {o : q_O} {hz : q_H} {x : ((Nat × Int32 × Int32) ⊕ Int32) × q_H} (hf : f19_4b l0 l1 l2 h = some x) (hK : (m_yK (fun (s : Nat × Int32 × Int32) (h : q_H) => q_Ev none 19 4 [(0, .ref (s.1)), (1, .int (s.2.1)), (2, .int (s.2.2))] [] h o hz) (q_KI o hz)) x) : q_Ev none 19 4 [(0, .ref l0), (1, .int l1), (2, .int l2)] [] h o hz := by
  unfold f19_4b at hf
  refine ev_iload_n (q_cod qk19 rfl) (by decide) rfl ?_
  refine ev_aload_n (q_cod qk19 rfl) (by decide) rfl ?_
  refine em_gI (q_cod qk19 rfl) (by decide) (by decide) hf (fun v1 hf => ?_)
  refine em_ic_ge (q_cod qk19 rfl) (by decide) hf (fun c7 hf => ?_) (fun c7 hf => ?_)
  · refine ev_aload_n (q_cod qk19 rfl) (by decide) rfl ?_
    refine em_gR (q_cod qk19 rfl) (by decide) (by decide) hf (fun r2 hf => ?_)
    refine ev_iload_n (q_cod qk19 rfl) (by decide) rfl ?_
    refine em_lI (q_cod qk19 rfl) (by decide) hf (fun v3 hf => ?_)
    refine ev_is1 (L' := [(0, .ref l0), (1, .int l1), (2, .int l2), (3, .int v3)]) (q_cod qk19 rfl) (by decide) rfl ?_
    refine ev_iload_n (q_cod qk19 rfl) (by decide) rfl ?_
    refine ev_ic (v := 1) (q_cod qk19 rfl) (by decide) (by decide) ?_
    refine em_ic_eq (q_cod qk19 rfl) (by decide) hf (fun c6 hf => ?_) (fun c6 hf => ?_)
    · exact ev_weak (q_pk [0, 1, 2] rfl) (f19_35_ok hf hK)
    · refine ev_iload_n (q_cod qk19 rfl) (by decide) rfl ?_
      refine ev_ic (v := 3) (q_cod qk19 rfl) (by decide) (by decide) ?_
      refine em_ic_lt (q_cod qk19 rfl) (by decide) hf (fun c5 hf => ?_) (fun c5 hf => ?_)
      · exact ev_weak (q_pk [0, 1, 2] rfl) (f19_46_ok hf hK)
      · refine ev_iload_n (q_cod qk19 rfl) (by decide) rfl ?_
        refine ev_bi (v := 7) (q_cod qk19 rfl) (by decide) (by decide) ?_
        refine em_ic_gt (q_cod qk19 rfl) (by decide) hf (fun c4 hf => ?_) (fun c4 hf => ?_)
        · exact ev_weak (q_pk [0, 1, 2] rfl) (f19_46_ok hf hK)
        · exact ev_weak (q_pk [0, 1, 2] rfl) (f19_35_ok hf hK)
  · obtain ⟨y0, hf0, hx⟩ := m_inr_some hf
    subst hx
    exact ev_weak (q_pk [1] rfl) (f19_52_ok hf0 hK)
def f19_4 (l0 : Nat) (l1 : Int32) (l2 : Int32) : m_M Int32 := m_W (fun s => f19_4b (s.1) (s.2.1) (s.2.2)) 1000000 (l0, l1, l2)
theorem f19_4_ok {l0 : Nat} {l1 : Int32} {l2 : Int32} {h : q_H} {o : q_O} {hz : q_H} {x : Int32 × q_H} (hf : f19_4 l0 l1 l2 h = some x) (hK : (q_KI o hz) x) : q_Ev none 19 4 [(0, .ref l0), (1, .int l1), (2, .int l2)] [] h o hz :=
  m_W_ok (P := (fun (s : Nat × Int32 × Int32) (h : q_H) => q_Ev none 19 4 [(0, .ref (s.1)), (1, .int (s.2.1)), (2, .int (s.2.2))] [] h o hz)) (K := (q_KI o hz)) (fun s h x h1 h2 => f19_4b_ok h1 h2) _ (l0, l1, l2) _ _ hf hK
def f19 (l0 : Nat) : m_M Int32 :=
  f19_4 l0 0 0
theorem f19_ok {l0 : Nat} {h : q_H} {o : q_O} {hz : q_H} {x : Int32 × q_H} (hf : f19 l0 h = some x) (hK : (q_KI o hz) x) : q_Ev none 19 0 [(0, .ref l0)] [] h o hz := by
  unfold f19 at hf
  refine ev_ic (v := 0) (q_cod qk19 rfl) (by decide) (by decide) ?_
  refine ev_is1 (L' := [(0, .ref l0), (1, .int 0)]) (q_cod qk19 rfl) (by decide) rfl ?_
  refine ev_ic (v := 0) (q_cod qk19 rfl) (by decide) (by decide) ?_
  refine ev_is1 (L' := [(0, .ref l0), (1, .int 0), (2, .int 0)]) (q_cod qk19 rfl) (by decide) rfl ?_
  exact (f19_4_ok hf hK)
theorem f19_cl {l0 : Nat} {h : q_H} {x : Int32 × q_H} (hf : f19 l0 h = some x) : q_Cl 19 [.ref l0] h (.inl (some (.int x.1))) x.2 := q_Cl.of rfl (q_LvS rfl rfl) (f19_ok hf ⟨rfl, rfl⟩)
/-! SmithyBench$Checker.<init>()V -/
theorem qk20 : q_cs.getD 20 [] = qc_20 := rfl
def f20 (l0 : Nat) : m_M Unit :=
  m_B (m_nA 20 256) (fun r1 => m_B (m_pR 1 l0 0 r1) (fun _ => m_R ()))
theorem f20_ok {l0 : Nat} {h : q_H} {o : q_O} {hz : q_H} {x : Unit × q_H} (hf : f20 l0 h = some x) (hK : (m_KU o hz) x) : q_Ev none 20 0 [(0, .ref l0)] [] h o hz := by
  unfold f20 at hf
  refine ev_aload_n (q_cod qk20 rfl) (by decide) rfl ?_
  refine ev_objinit (q_cod qk20 rfl) (Nat.le_of_ble_eq_true rfl) ?_
  refine ev_aload_n (q_cod qk20 rfl) (by decide) rfl ?_
  refine ev_si (v := 256) (q_cod qk20 rfl) (by decide) (by decide) ?_
  refine em_nI (q_cod qk20 rfl) (by decide) hf (fun r1 h hf => ?_)
  refine em_pR (q_cod qk20 rfl) (by decide) (by decide) (by decide) hf (fun hf => ?_)
  obtain rfl := m_R_inv hf
  obtain ⟨rfl, rfl⟩ := (show m_KU o hz ((), _) from hK)
  exact ev_ret (q_cod qk20 rfl) rfl
theorem f20_cl {l0 : Nat} {h : q_H} {x : Unit × q_H} (hf : f20 l0 h = some x) : q_Cl 20 [.ref l0] h (.inl none) x.2 := q_Cl.of rfl (q_LvS rfl rfl) (f20_ok hf ⟨rfl, rfl⟩)
/-! SmithyBench$Program.isThere(I)Z -/
theorem qk79 : q_cs.getD 79 [] = qc_79 := rfl
def f79_17 (s0 : Int32) : m_M Int32 :=
  m_B (m_G (s0 = 0 ∨ s0 = 1)) (fun _ => m_R s0)
theorem f79_17_ok {s0 : Int32} {h : q_H} {o : q_O} {hz : q_H} {x : Int32 × q_H} (hf : f79_17 s0 h = some x) (hK : (q_KI o hz) x) : q_Ev none 79 17 [] [.int s0] h o hz := by
  unfold f79_17 at hf
  obtain ⟨g1, hf⟩ := m_G_some hf
  obtain rfl := m_R_inv hf
  obtain ⟨rfl, rfl⟩ := (show q_KI o hz (s0, _) from hK)
  exact ev_ret (q_cod qk79 rfl) (q_retZ g1)
def f79 (l0 : Nat) (l1 : Int32) : m_M Int32 :=
  m_B (m_gI 7 l0 12) (fun v1 => if ((q_ush v1 l1) &&& 1) = 1 then (f79_17 1) else (f79_17 0))
theorem f79_ok {l0 : Nat} {l1 : Int32} {h : q_H} {o : q_O} {hz : q_H} {x : Int32 × q_H} (hf : f79 l0 l1 h = some x) (hK : (q_KI o hz) x) : q_Ev none 79 0 [(0, .ref l0), (1, .int l1)] [] h o hz := by
  unfold f79 at hf
  refine ev_aload_n (q_cod qk79 rfl) (by decide) rfl ?_
  refine em_gI (q_cod qk79 rfl) (by decide) (by decide) hf (fun v1 hf => ?_)
  refine ev_iload_n (q_cod qk79 rfl) (by decide) rfl ?_
  refine ev_iushr (q_cod qk79 rfl) (by decide) ?_
  refine ev_ic (v := 1) (q_cod qk79 rfl) (by decide) (by decide) ?_
  refine ev_iand (q_cod qk79 rfl) (by decide) ?_
  refine ev_ic (v := 1) (q_cod qk79 rfl) (by decide) (by decide) ?_
  refine em_ic_ne (q_cod qk79 rfl) (by decide) hf (fun c2 hf => ?_) (fun c2 hf => ?_)
  · refine ev_ic (v := 1) (q_cod qk79 rfl) (by decide) (by decide) ?_
    refine ev_goto (q_cod qk79 rfl) (by decide) ?_
    exact ev_weak (q_pk [] rfl) (f79_17_ok hf hK)
  · refine ev_ic (v := 0) (q_cod qk79 rfl) (by decide) (by decide) ?_
    exact ev_weak (q_pk [] rfl) (f79_17_ok hf hK)
theorem f79_cl {l0 : Nat} {l1 : Int32} {h : q_H} {x : Int32 × q_H} (hf : f79 l0 l1 h = some x) : q_Cl 79 [.ref l0, .int l1] h (.inl (some (.int x.1))) x.2 := q_Cl.of rfl (q_LvS rfl rfl) (f79_ok hf ⟨rfl, rfl⟩)
/-! SmithyBench$Program.parameterCalled(II)I -/
theorem qk98 : q_cs.getD 98 [] = qc_98 := rfl
def f98_26 (l3 : Int32) : m_M Int32 :=
  m_R l3
theorem f98_26_ok {l3 : Int32} {h : q_H} {o : q_O} {hz : q_H} {x : Int32 × q_H} (hf : f98_26 l3 h = some x) (hK : (q_KI o hz) x) : q_Ev none 98 26 [(3, .int l3)] [] h o hz := by
  unfold f98_26 at hf
  refine ev_iload_n (q_cod qk98 rfl) (by decide) rfl ?_
  obtain rfl := m_R_inv hf
  obtain ⟨rfl, rfl⟩ := (show q_KI o hz (l3, _) from hK)
  exact ev_ret (q_cod qk98 rfl) rfl
def f98_34  : m_M Int32 :=
  m_R (-1)
theorem f98_34_ok  {h : q_H} {o : q_O} {hz : q_H} {x : Int32 × q_H} (hf : f98_34 h = some x) (hK : (q_KI o hz) x) : q_Ev none 98 34 [] [] h o hz := by
  unfold f98_34 at hf
  refine ev_ic (v := (-1)) (q_cod qk98 rfl) (by decide) (by decide) ?_
  obtain rfl := m_R_inv hf
  obtain ⟨rfl, rfl⟩ := (show q_KI o hz ((-1), _) from hK)
  exact ev_ret (q_cod qk98 rfl) rfl
def f98_2b (l0 : Nat) (l1 : Int32) (l2 : Int32) (l3 : Int32) : m_M ((Nat × Int32 × Int32 × Int32) ⊕ Int32) :=
  m_B (m_gR 7 l0 5) (fun r1 => m_B (m_lI r1 l1) (fun v2 => if l3 < v2 then (m_B (m_gR 7 l0 6) (fun r3 => m_B (m_lI r3 ((l1 * 2) + l3)) (fun v4 => if v4 = l2 then (m_B (f98_26 l3) (fun r => m_R (.inr r))) else (m_R (.inl (l0, l1, l2, (l3 + 1))))))) else (m_B (f98_34) (fun r => m_R (.inr r)))))
theorem f98_2b_ok {l0 : Nat} {l1 : Int32} {l2 : Int32} {l3 : Int32} {h : q_H} {o : q_O} {hz : q_H} {x : ((Nat × Int32 × Int32 × Int32) ⊕ Int32) × q_H} (hf : f98_2b l0 l1 l2 l3 h = some x) (hK : (m_yK (fun (s : Nat × Int32 × Int32 × Int32) (h : q_H) => q_Ev none 98 2 [(0, .ref (s.1)), (1, .int (s.2.1)), (2, .int (s.2.2.1)), (3, .int (s.2.2.2))] [] h o hz) (q_KI o hz)) x) : q_Ev none 98 2 [(0, .ref l0), (1, .int l1), (2, .int l2), (3, .int l3)] [] h o hz := by
  unfold f98_2b at hf
  refine ev_iload_n (q_cod qk98 rfl) (by decide) rfl ?_
  refine ev_aload_n (q_cod qk98 rfl) (by decide) rfl ?_
  refine em_gR (q_cod qk98 rfl) (by decide) (by decide) hf (fun r1 hf => ?_)
  refine ev_iload_n (q_cod qk98 rfl) (by decide) rfl ?_
  refine em_lI (q_cod qk98 rfl) (by decide) hf (fun v2 hf => ?_)
  refine em_ic_ge (q_cod qk98 rfl) (by decide) hf (fun c6 hf => ?_) (fun c6 hf => ?_)
  · refine ev_aload_n (q_cod qk98 rfl) (by decide) rfl ?_
    refine em_gR (q_cod qk98 rfl) (by decide) (by decide) hf (fun r3 hf => ?_)
    refine ev_iload_n (q_cod qk98 rfl) (by decide) rfl ?_
    refine ev_ic (v := 2) (q_cod qk98 rfl) (by decide) (by decide) ?_
    refine ev_imul (q_cod qk98 rfl) (by decide) ?_
    refine ev_iload_n (q_cod qk98 rfl) (by decide) rfl ?_
    refine ev_iadd (q_cod qk98 rfl) (by decide) ?_
    refine em_lI (q_cod qk98 rfl) (by decide) hf (fun v4 hf => ?_)
    refine ev_iload_n (q_cod qk98 rfl) (by decide) rfl ?_
    refine em_ic_ne (q_cod qk98 rfl) (by decide) hf (fun c5 hf => ?_) (fun c5 hf => ?_)
    · obtain ⟨y0, hf0, hx⟩ := m_inr_some hf
      subst hx
      exact ev_weak (q_pk [3] rfl) (f98_26_ok hf0 hK)
    · refine ev_inc (v := l3 + 1) (L' := [(0, .ref l0), (1, .int l1), (2, .int l2), (3, .int (l3 + 1))]) (q_cod qk98 rfl) (by decide) rfl rfl rfl ?_
      refine ev_goto (q_cod qk98 rfl) (by decide) ?_
      obtain rfl := m_R_inv hf
      exact (show q_Ev none 98 2 [(0, .ref l0), (1, .int l1), (2, .int l2), (3, .int (l3 + 1))] [] _ o hz from hK)
  · obtain ⟨y0, hf0, hx⟩ := m_inr_some hf
    subst hx
    exact ev_weak (q_pk [] rfl) (f98_34_ok hf0 hK)
def f98_2 (l0 : Nat) (l1 : Int32) (l2 : Int32) (l3 : Int32) : m_M Int32 := m_W (fun s => f98_2b (s.1) (s.2.1) (s.2.2.1) (s.2.2.2)) 1000000 (l0, l1, l2, l3)
theorem f98_2_ok {l0 : Nat} {l1 : Int32} {l2 : Int32} {l3 : Int32} {h : q_H} {o : q_O} {hz : q_H} {x : Int32 × q_H} (hf : f98_2 l0 l1 l2 l3 h = some x) (hK : (q_KI o hz) x) : q_Ev none 98 2 [(0, .ref l0), (1, .int l1), (2, .int l2), (3, .int l3)] [] h o hz :=
  m_W_ok (P := (fun (s : Nat × Int32 × Int32 × Int32) (h : q_H) => q_Ev none 98 2 [(0, .ref (s.1)), (1, .int (s.2.1)), (2, .int (s.2.2.1)), (3, .int (s.2.2.2))] [] h o hz)) (K := (q_KI o hz)) (fun s h x h1 h2 => f98_2b_ok h1 h2) _ (l0, l1, l2, l3) _ _ hf hK
def f98 (l0 : Nat) (l1 : Int32) (l2 : Int32) : m_M Int32 :=
  f98_2 l0 l1 l2 0
theorem f98_ok {l0 : Nat} {l1 : Int32} {l2 : Int32} {h : q_H} {o : q_O} {hz : q_H} {x : Int32 × q_H} (hf : f98 l0 l1 l2 h = some x) (hK : (q_KI o hz) x) : q_Ev none 98 0 [(0, .ref l0), (1, .int l1), (2, .int l2)] [] h o hz := by
  unfold f98 at hf
  refine ev_ic (v := 0) (q_cod qk98 rfl) (by decide) (by decide) ?_
  refine ev_is1 (L' := [(0, .ref l0), (1, .int l1), (2, .int l2), (3, .int 0)]) (q_cod qk98 rfl) (by decide) rfl ?_
  exact (f98_2_ok hf hK)
theorem f98_cl {l0 : Nat} {l1 : Int32} {l2 : Int32} {h : q_H} {x : Int32 × q_H} (hf : f98 l0 l1 l2 h = some x) : q_Cl 98 [.ref l0, .int l1, .int l2] h (.inl (some (.int x.1))) x.2 := q_Cl.of rfl (q_LvS rfl rfl) (f98_ok hf ⟨rfl, rfl⟩)
/-! SmithyBench$Program.holderOf(II)I -/
theorem qk86 : q_cs.getD 86 [] = qc_86 := rfl
def f86_44  : m_M Int32 :=
  m_R (-1)
theorem f86_44_ok  {h : q_H} {o : q_O} {hz : q_H} {x : Int32 × q_H} (hf : f86_44 h = some x) (hK : (q_KI o hz) x) : q_Ev none 86 44 [] [] h o hz := by
  unfold f86_44 at hf
  refine ev_ic (v := (-1)) (q_cod qk86 rfl) (by decide) (by decide) ?_
  obtain rfl := m_R_inv hf
  obtain ⟨rfl, rfl⟩ := (show q_KI o hz ((-1), _) from hK)
  exact ev_ret (q_cod qk86 rfl) rfl
def f86_38 (l0 : Nat) (l1 : Int32) (l2 : Int32) (l3 : Int32) : m_M ((Nat × Int32 × Int32 × Int32) ⊕ Int32) :=
  m_R (.inl (l0, l1, l2, (l3 + (-1))))
theorem f86_38_ok {l0 : Nat} {l1 : Int32} {l2 : Int32} {l3 : Int32} {h : q_H} {o : q_O} {hz : q_H} {x : ((Nat × Int32 × Int32 × Int32) ⊕ Int32) × q_H} (hf : f86_38 l0 l1 l2 l3 h = some x) (hK : (m_yK (fun (s : Nat × Int32 × Int32 × Int32) (h : q_H) => q_Ev none 86 2 [(0, .ref (s.1)), (1, .int (s.2.1)), (2, .int (s.2.2.1)), (3, .int (s.2.2.2))] [] h o hz) (q_KI o hz)) x) : q_Ev none 86 38 [(0, .ref l0), (1, .int l1), (2, .int l2), (3, .int l3)] [] h o hz := by
  unfold f86_38 at hf
  refine ev_inc (v := l3 + (-1)) (L' := [(0, .ref l0), (1, .int l1), (2, .int l2), (3, .int (l3 + (-1)))]) (q_cod qk86 rfl) (by decide) rfl rfl rfl ?_
  refine ev_goto (q_cod qk86 rfl) (by decide) ?_
  obtain rfl := m_R_inv hf
  exact (show q_Ev none 86 2 [(0, .ref l0), (1, .int l1), (2, .int l2), (3, .int (l3 + (-1)))] [] _ o hz from hK)
def f86_36 (l3 : Int32) : m_M Int32 :=
  m_R l3
theorem f86_36_ok {l3 : Int32} {h : q_H} {o : q_O} {hz : q_H} {x : Int32 × q_H} (hf : f86_36 l3 h = some x) (hK : (q_KI o hz) x) : q_Ev none 86 36 [(3, .int l3)] [] h o hz := by
  unfold f86_36 at hf
  refine ev_iload_n (q_cod qk86 rfl) (by decide) rfl ?_
  obtain rfl := m_R_inv hf
  obtain ⟨rfl, rfl⟩ := (show q_KI o hz (l3, _) from hK)
  exact ev_ret (q_cod qk86 rfl) rfl
def f86_2b (l0 : Nat) (l1 : Int32) (l2 : Int32) (l3 : Int32) : m_M ((Nat × Int32 × Int32 × Int32) ⊕ Int32) :=
  if l3 < 0 then (m_B (f86_44) (fun r => m_R (.inr r))) else (m_B (m_gR 7 l0 1) (fun r1 => m_B (m_lI r1 l1) (fun v2 => if ((q_ush v2 l3) &&& 1) = 1 then (m_B (m_gR 7 l0 2) (fun r3 => m_B (m_lI r3 ((l3 * 16) + l2)) (fun v4 => if v4 = (-3) then (f86_38 l0 l1 l2 l3) else (m_B (f86_36 l3) (fun r => m_R (.inr r)))))) else (f86_38 l0 l1 l2 l3))))
theorem f86_2b_ok {l0 : Nat} {l1 : Int32} {l2 : Int32} {l3 : Int32} {h : q_H} {o : q_O} {hz : q_H} {x : ((Nat × Int32 × Int32 × Int32) ⊕ Int32) × q_H} (hf : f86_2b l0 l1 l2 l3 h = some x) (hK : (m_yK (fun (s : Nat × Int32 × Int32 × Int32) (h : q_H) => q_Ev none 86 2 [(0, .ref (s.1)), (1, .int (s.2.1)), (2, .int (s.2.2.1)), (3, .int (s.2.2.2))] [] h o hz) (q_KI o hz)) x) : q_Ev none 86 2 [(0, .ref l0), (1, .int l1), (2, .int l2), (3, .int l3)] [] h o hz := by
  unfold f86_2b at hf
  refine ev_iload_n (q_cod qk86 rfl) (by decide) rfl ?_
  refine em_if_lt (q_cod qk86 rfl) (by decide) hf (fun c7 hf => ?_) (fun c7 hf => ?_)
  · obtain ⟨y0, hf0, hx⟩ := m_inr_some hf
    subst hx
    exact ev_weak (q_pk [] rfl) (f86_44_ok hf0 hK)
  · refine ev_aload_n (q_cod qk86 rfl) (by decide) rfl ?_
    refine em_gR (q_cod qk86 rfl) (by decide) (by decide) hf (fun r1 hf => ?_)
    refine ev_iload_n (q_cod qk86 rfl) (by decide) rfl ?_
    refine em_lI (q_cod qk86 rfl) (by decide) hf (fun v2 hf => ?_)
    refine ev_iload_n (q_cod qk86 rfl) (by decide) rfl ?_
    refine ev_iushr (q_cod qk86 rfl) (by decide) ?_
    refine ev_ic (v := 1) (q_cod qk86 rfl) (by decide) (by decide) ?_
    refine ev_iand (q_cod qk86 rfl) (by decide) ?_
    refine ev_ic (v := 1) (q_cod qk86 rfl) (by decide) (by decide) ?_
    refine em_ic_ne (q_cod qk86 rfl) (by decide) hf (fun c6 hf => ?_) (fun c6 hf => ?_)
    · refine ev_aload_n (q_cod qk86 rfl) (by decide) rfl ?_
      refine em_gR (q_cod qk86 rfl) (by decide) (by decide) hf (fun r3 hf => ?_)
      refine ev_iload_n (q_cod qk86 rfl) (by decide) rfl ?_
      refine ev_bi (v := 16) (q_cod qk86 rfl) (by decide) (by decide) ?_
      refine ev_imul (q_cod qk86 rfl) (by decide) ?_
      refine ev_iload_n (q_cod qk86 rfl) (by decide) rfl ?_
      refine ev_iadd (q_cod qk86 rfl) (by decide) ?_
      refine em_lI (q_cod qk86 rfl) (by decide) hf (fun v4 hf => ?_)
      refine ev_bi (v := (-3)) (q_cod qk86 rfl) (by decide) (by decide) ?_
      refine em_ic_eq (q_cod qk86 rfl) (by decide) hf (fun c5 hf => ?_) (fun c5 hf => ?_)
      · exact (f86_38_ok hf hK)
      · obtain ⟨y0, hf0, hx⟩ := m_inr_some hf
        subst hx
        exact ev_weak (q_pk [3] rfl) (f86_36_ok hf0 hK)
    · exact (f86_38_ok hf hK)
def f86_2 (l0 : Nat) (l1 : Int32) (l2 : Int32) (l3 : Int32) : m_M Int32 := m_W (fun s => f86_2b (s.1) (s.2.1) (s.2.2.1) (s.2.2.2)) 1000000 (l0, l1, l2, l3)
theorem f86_2_ok {l0 : Nat} {l1 : Int32} {l2 : Int32} {l3 : Int32} {h : q_H} {o : q_O} {hz : q_H} {x : Int32 × q_H} (hf : f86_2 l0 l1 l2 l3 h = some x) (hK : (q_KI o hz) x) : q_Ev none 86 2 [(0, .ref l0), (1, .int l1), (2, .int l2), (3, .int l3)] [] h o hz :=
  m_W_ok (P := (fun (s : Nat × Int32 × Int32 × Int32) (h : q_H) => q_Ev none 86 2 [(0, .ref (s.1)), (1, .int (s.2.1)), (2, .int (s.2.2.1)), (3, .int (s.2.2.2))] [] h o hz)) (K := (q_KI o hz)) (fun s h x h1 h2 => f86_2b_ok h1 h2) _ (l0, l1, l2, l3) _ _ hf hK
def f86 (l0 : Nat) (l1 : Int32) (l2 : Int32) : m_M Int32 :=
  f86_2 l0 l1 l2 l1
theorem f86_ok {l0 : Nat} {l1 : Int32} {l2 : Int32} {h : q_H} {o : q_O} {hz : q_H} {x : Int32 × q_H} (hf : f86 l0 l1 l2 h = some x) (hK : (q_KI o hz) x) : q_Ev none 86 0 [(0, .ref l0), (1, .int l1), (2, .int l2)] [] h o hz := by
  unfold f86 at hf
  refine ev_iload_n (q_cod qk86 rfl) (by decide) rfl ?_
  refine ev_is1 (L' := [(0, .ref l0), (1, .int l1), (2, .int l2), (3, .int l1)]) (q_cod qk86 rfl) (by decide) rfl ?_
  exact (f86_2_ok hf hK)
theorem f86_cl {l0 : Nat} {l1 : Int32} {l2 : Int32} {h : q_H} {x : Int32 × q_H} (hf : f86 l0 l1 l2 h = some x) : q_Cl 86 [.ref l0, .int l1, .int l2] h (.inl (some (.int x.1))) x.2 := q_Cl.of rfl (q_LvS rfl rfl) (f86_ok hf ⟨rfl, rfl⟩)
/-! SmithyBench$Program.typeOfField(II)I -/
theorem qk85 : q_cs.getD 85 [] = qc_85 := rfl
def f85_26 (s0 : Int32) : m_M Int32 :=
  m_R s0
theorem f85_26_ok {s0 : Int32} {h : q_H} {o : q_O} {hz : q_H} {x : Int32 × q_H} (hf : f85_26 s0 h = some x) (hK : (q_KI o hz) x) : q_Ev none 85 26 [] [.int s0] h o hz := by
  unfold f85_26 at hf
  obtain rfl := m_R_inv hf
  obtain ⟨rfl, rfl⟩ := (show q_KI o hz (s0, _) from hK)
  exact ev_ret (q_cod qk85 rfl) rfl
def f85_10  : m_M Int32 :=
  f85_26 (-3)
theorem f85_10_ok  {h : q_H} {o : q_O} {hz : q_H} {x : Int32 × q_H} (hf : f85_10 h = some x) (hK : (q_KI o hz) x) : q_Ev none 85 10 [] [] h o hz := by
  unfold f85_10 at hf
  refine ev_bi (v := (-3)) (q_cod qk85 rfl) (by decide) (by decide) ?_
  refine ev_goto (q_cod qk85 rfl) (by decide) ?_
  exact (f85_26_ok hf hK)
def f85 (l0 : Nat) (l1 : Int32) (l2 : Int32) : m_M Int32 :=
  if l2 < 0 then (f85_10) else (if l2 < 16 then (m_B (m_gR 7 l0 2) (fun r1 => m_B (m_lI r1 ((l1 * 16) + l2)) (fun v2 => f85_26 v2))) else (f85_10))
theorem f85_ok {l0 : Nat} {l1 : Int32} {l2 : Int32} {h : q_H} {o : q_O} {hz : q_H} {x : Int32 × q_H} (hf : f85 l0 l1 l2 h = some x) (hK : (q_KI o hz) x) : q_Ev none 85 0 [(0, .ref l0), (1, .int l1), (2, .int l2)] [] h o hz := by
  unfold f85 at hf
  refine ev_iload_n (q_cod qk85 rfl) (by decide) rfl ?_
  refine em_if_lt (q_cod qk85 rfl) (by decide) hf (fun c4 hf => ?_) (fun c4 hf => ?_)
  · exact ev_weak (q_pk [] rfl) (f85_10_ok hf hK)
  · refine ev_iload_n (q_cod qk85 rfl) (by decide) rfl ?_
    refine ev_bi (v := 16) (q_cod qk85 rfl) (by decide) (by decide) ?_
    refine em_ic_lt (q_cod qk85 rfl) (by decide) hf (fun c3 hf => ?_) (fun c3 hf => ?_)
    · refine ev_aload_n (q_cod qk85 rfl) (by decide) rfl ?_
      refine em_gR (q_cod qk85 rfl) (by decide) (by decide) hf (fun r1 hf => ?_)
      refine ev_iload_n (q_cod qk85 rfl) (by decide) rfl ?_
      refine ev_bi (v := 16) (q_cod qk85 rfl) (by decide) (by decide) ?_
      refine ev_imul (q_cod qk85 rfl) (by decide) ?_
      refine ev_iload_n (q_cod qk85 rfl) (by decide) rfl ?_
      refine ev_iadd (q_cod qk85 rfl) (by decide) ?_
      refine em_lI (q_cod qk85 rfl) (by decide) hf (fun v2 hf => ?_)
      exact ev_weak (q_pk [] rfl) (f85_26_ok hf hK)
    · exact ev_weak (q_pk [] rfl) (f85_10_ok hf hK)
theorem f85_cl {l0 : Nat} {l1 : Int32} {l2 : Int32} {h : q_H} {x : Int32 × q_H} (hf : f85 l0 l1 l2 h = some x) : q_Cl 85 [.ref l0, .int l1, .int l2] h (.inl (some (.int x.1))) x.2 := q_Cl.of rfl (q_LvS rfl rfl) (f85_ok hf ⟨rfl, rfl⟩)
/-! SmithyBench$Program.fits(II)Z -/
theorem qk84 : q_cs.getD 84 [] = qc_84 := rfl
def f84_11  : m_M Int32 :=
  m_R 1
theorem f84_11_ok  {h : q_H} {o : q_O} {hz : q_H} {x : Int32 × q_H} (hf : f84_11 h = some x) (hK : (q_KI o hz) x) : q_Ev none 84 11 [] [] h o hz := by
  unfold f84_11 at hf
  refine ev_ic (v := 1) (q_cod qk84 rfl) (by decide) (by decide) ?_
  obtain rfl := m_R_inv hf
  obtain ⟨rfl, rfl⟩ := (show q_KI o hz (1, _) from hK)
  exact ev_ret (q_cod qk84 rfl) rfl
def f84_40 (s0 : Int32) : m_M Int32 :=
  m_B (m_G (s0 = 0 ∨ s0 = 1)) (fun _ => m_R s0)
theorem f84_40_ok {s0 : Int32} {h : q_H} {o : q_O} {hz : q_H} {x : Int32 × q_H} (hf : f84_40 s0 h = some x) (hK : (q_KI o hz) x) : q_Ev none 84 40 [] [.int s0] h o hz := by
  unfold f84_40 at hf
  obtain ⟨g1, hf⟩ := m_G_some hf
  obtain rfl := m_R_inv hf
  obtain ⟨rfl, rfl⟩ := (show q_KI o hz (s0, _) from hK)
  exact ev_ret (q_cod qk84 rfl) (q_retZ g1)
def f84_39  : m_M Int32 :=
  f84_40 0
theorem f84_39_ok  {h : q_H} {o : q_O} {hz : q_H} {x : Int32 × q_H} (hf : f84_39 h = some x) (hK : (q_KI o hz) x) : q_Ev none 84 39 [] [] h o hz := by
  unfold f84_39 at hf
  refine ev_ic (v := 0) (q_cod qk84 rfl) (by decide) (by decide) ?_
  exact (f84_40_ok hf hK)
def f84 (l0 : Nat) (l1 : Int32) (l2 : Int32) : m_M Int32 :=
  if l1 = (-2) then (f84_11) else (if l1 = l2 then (f84_11) else (if l1 < 0 then (f84_39) else (if l2 < 0 then (f84_39) else (m_B (m_gR 7 l0 1) (fun r1 => m_B (m_lI r1 l1) (fun v2 => if ((q_ush v2 l2) &&& 1) = 1 then (f84_40 1) else (f84_39)))))))
theorem f84_ok {l0 : Nat} {l1 : Int32} {l2 : Int32} {h : q_H} {o : q_O} {hz : q_H} {x : Int32 × q_H} (hf : f84 l0 l1 l2 h = some x) (hK : (q_KI o hz) x) : q_Ev none 84 0 [(0, .ref l0), (1, .int l1), (2, .int l2)] [] h o hz := by
  unfold f84 at hf
  refine ev_iload_n (q_cod qk84 rfl) (by decide) rfl ?_
  refine ev_bi (v := (-2)) (q_cod qk84 rfl) (by decide) (by decide) ?_
  refine em_ic_eq (q_cod qk84 rfl) (by decide) hf (fun c7 hf => ?_) (fun c7 hf => ?_)
  · exact ev_weak (q_pk [] rfl) (f84_11_ok hf hK)
  · refine ev_iload_n (q_cod qk84 rfl) (by decide) rfl ?_
    refine ev_iload_n (q_cod qk84 rfl) (by decide) rfl ?_
    refine em_ic_ne (q_cod qk84 rfl) (by decide) hf (fun c6 hf => ?_) (fun c6 hf => ?_)
    · exact ev_weak (q_pk [] rfl) (f84_11_ok hf hK)
    · refine ev_iload_n (q_cod qk84 rfl) (by decide) rfl ?_
      refine em_if_lt (q_cod qk84 rfl) (by decide) hf (fun c5 hf => ?_) (fun c5 hf => ?_)
      · exact ev_weak (q_pk [] rfl) (f84_39_ok hf hK)
      · refine ev_iload_n (q_cod qk84 rfl) (by decide) rfl ?_
        refine em_if_lt (q_cod qk84 rfl) (by decide) hf (fun c4 hf => ?_) (fun c4 hf => ?_)
        · exact ev_weak (q_pk [] rfl) (f84_39_ok hf hK)
        · refine ev_aload_n (q_cod qk84 rfl) (by decide) rfl ?_
          refine em_gR (q_cod qk84 rfl) (by decide) (by decide) hf (fun r1 hf => ?_)
          refine ev_iload_n (q_cod qk84 rfl) (by decide) rfl ?_
          refine em_lI (q_cod qk84 rfl) (by decide) hf (fun v2 hf => ?_)
          refine ev_iload_n (q_cod qk84 rfl) (by decide) rfl ?_
          refine ev_iushr (q_cod qk84 rfl) (by decide) ?_
          refine ev_ic (v := 1) (q_cod qk84 rfl) (by decide) (by decide) ?_
          refine ev_iand (q_cod qk84 rfl) (by decide) ?_
          refine ev_ic (v := 1) (q_cod qk84 rfl) (by decide) (by decide) ?_
          refine em_ic_ne (q_cod qk84 rfl) (by decide) hf (fun c3 hf => ?_) (fun c3 hf => ?_)
          · refine ev_ic (v := 1) (q_cod qk84 rfl) (by decide) (by decide) ?_
            refine ev_goto (q_cod qk84 rfl) (by decide) ?_
            exact ev_weak (q_pk [] rfl) (f84_40_ok hf hK)
          · exact ev_weak (q_pk [] rfl) (f84_39_ok hf hK)
theorem f84_cl {l0 : Nat} {l1 : Int32} {l2 : Int32} {h : q_H} {x : Int32 × q_H} (hf : f84 l0 l1 l2 h = some x) : q_Cl 84 [.ref l0, .int l1, .int l2] h (.inl (some (.int x.1))) x.2 := q_Cl.of rfl (q_LvS rfl rfl) (f84_ok hf ⟨rfl, rfl⟩)
/-! SmithyBench$Checker.typeOfVariable(LSmithyBench$Program;ILSmithyBench$Body;I)I -/
theorem qk27 : q_cs.getD 27 [] = qc_27 := rfl
def f27_178 (s0 : Int32) : m_M Int32 :=
  m_R s0
theorem f27_178_ok {s0 : Int32} {h : q_H} {o : q_O} {hz : q_H} {x : Int32 × q_H} (hf : f27_178 s0 h = some x) (hK : (q_KI o hz) x) : q_Ev none 27 178 [] [.int s0] h o hz := by
  unfold f27_178 at hf
  obtain rfl := m_R_inv hf
  obtain ⟨rfl, rfl⟩ := (show q_KI o hz (s0, _) from hK)
  exact ev_ret (q_cod qk27 rfl) rfl
def f27_171 (l8 : Int32) : m_M Int32 :=
  f27_178 l8
theorem f27_171_ok {l8 : Int32} {h : q_H} {o : q_O} {hz : q_H} {x : Int32 × q_H} (hf : f27_171 l8 h = some x) (hK : (q_KI o hz) x) : q_Ev none 27 171 [(8, .int l8)] [] h o hz := by
  unfold f27_171 at hf
  refine ev_iload (q_cod qk27 rfl) (by decide) rfl ?_
  refine ev_goto (q_cod qk27 rfl) (by decide) ?_
  exact ev_weak (q_pk [] rfl) (f27_178_ok hf hK)
def f27_147 (l0 : Nat) (l2 : Nat) (l3 : Int32) (l8 : Int32) (s0 : Int32) : m_M Int32 :=
  if s0 = 0 then (m_B (m_gR 0 l2 4) (fun r1 => m_B (m_lI r1 (l3 + 1)) (fun v2 => m_B (m_aK l0 7) (fun _ => m_B (f84 l0 v2 l8) (fun v4 => if v4 = 0 then (f27_178 (-3)) else (f27_171 l8)))))) else (f27_171 l8)
theorem f27_147_ok {l0 : Nat} {l2 : Nat} {l3 : Int32} {l8 : Int32} {s0 : Int32} {h : q_H} {o : q_O} {hz : q_H} {x : Int32 × q_H} (hf : f27_147 l0 l2 l3 l8 s0 h = some x) (hK : (q_KI o hz) x) : q_Ev none 27 147 [(0, .ref l0), (2, .ref l2), (3, .int l3), (8, .int l8)] [.int s0] h o hz := by
  unfold f27_147 at hf
  refine ev_is2 (L' := [(0, .ref l0), (2, .ref l2), (3, .int l3), (8, .int l8), (9, .int s0)]) (q_cod qk27 rfl) (by decide) rfl ?_
  refine ev_iload (q_cod qk27 rfl) (by decide) rfl ?_
  refine em_if_ne (q_cod qk27 rfl) (by decide) hf (fun c6 hf => ?_) (fun c6 hf => ?_)
  · refine ev_aload_n (q_cod qk27 rfl) (by decide) rfl ?_
    refine ev_aload_n (q_cod qk27 rfl) (by decide) rfl ?_
    refine em_gR (q_cod qk27 rfl) (by decide) (by decide) hf (fun r1 hf => ?_)
    refine ev_iload_n (q_cod qk27 rfl) (by decide) rfl ?_
    refine ev_ic (v := 1) (q_cod qk27 rfl) (by decide) (by decide) ?_
    refine ev_iadd (q_cod qk27 rfl) (by decide) ?_
    refine em_lI (q_cod qk27 rfl) (by decide) hf (fun v2 hf => ?_)
    refine ev_iload (q_cod qk27 rfl) (by decide) rfl ?_
    obtain ⟨g3, hf⟩ := m_aK_some hf
    refine em_call (v := (fun u => some (.int u))) (q_cod qk27 rfl) rfl rfl (q_cokV rfl rfl (Or.inr g3)) rfl (fun x e => f84_cl e) hf (fun v4 h hf => ?_)
    refine em_if_eq (q_cod qk27 rfl) (by decide) hf (fun c5 hf => ?_) (fun c5 hf => ?_)
    · refine ev_bi (v := (-3)) (q_cod qk27 rfl) (by decide) (by decide) ?_
      exact ev_weak (q_pk [] rfl) (f27_178_ok hf hK)
    · exact ev_weak (q_pk [3] rfl) (f27_171_ok hf hK)
  · exact ev_weak (q_pk [3] rfl) (f27_171_ok hf hK)
def f27_132 (l0 : Nat) (l2 : Nat) (l3 : Int32) (l8 : Int32) : m_M Int32 :=
  m_B (m_gR 0 l2 0) (fun r1 => m_B (m_lI r1 l3) (fun v2 => if v2 = 1 then (f27_147 l0 l2 l3 l8 1) else (f27_147 l0 l2 l3 l8 0)))
theorem f27_132_ok {l0 : Nat} {l2 : Nat} {l3 : Int32} {l8 : Int32} {h : q_H} {o : q_O} {hz : q_H} {x : Int32 × q_H} (hf : f27_132 l0 l2 l3 l8 h = some x) (hK : (q_KI o hz) x) : q_Ev none 27 132 [(0, .ref l0), (2, .ref l2), (3, .int l3), (8, .int l8)] [] h o hz := by
  unfold f27_132 at hf
  refine ev_aload_n (q_cod qk27 rfl) (by decide) rfl ?_
  refine em_gR (q_cod qk27 rfl) (by decide) (by decide) hf (fun r1 hf => ?_)
  refine ev_iload_n (q_cod qk27 rfl) (by decide) rfl ?_
  refine em_lI (q_cod qk27 rfl) (by decide) hf (fun v2 hf => ?_)
  refine ev_ic (v := 1) (q_cod qk27 rfl) (by decide) (by decide) ?_
  refine em_ic_ne (q_cod qk27 rfl) (by decide) hf (fun c3 hf => ?_) (fun c3 hf => ?_)
  · refine ev_ic (v := 1) (q_cod qk27 rfl) (by decide) (by decide) ?_
    refine ev_goto (q_cod qk27 rfl) (by decide) ?_
    exact (f27_147_ok hf hK)
  · refine ev_ic (v := 0) (q_cod qk27 rfl) (by decide) (by decide) ?_
    exact (f27_147_ok hf hK)
def f27 (l0 : Nat) (l1 : Int32) (l2 : Nat) (l3 : Int32) : m_M Int32 :=
  m_B (m_gR 0 l2 1) (fun r1 => m_B (m_lI r1 l3) (fun v2 => m_B (m_aK l2 0) (fun _ => m_B (f10 l2 l3 v2) (fun v4 => m_B (m_aK l0 7) (fun _ => m_B (f98 l0 l1 v2) (fun v6 => m_B (m_gR 7 l0 3) (fun r7 => m_B (m_lI r7 l1) (fun v8 => m_B (m_aK l0 7) (fun _ => m_B (f86 l0 v8 v2) (fun v10 => if v4 = (-1) then (if v6 = (-1) then (if v10 = (-1) then (f27_132 l0 l2 l3 (-3)) else (m_B (m_gR 0 l2 5) (fun r11 => m_B (m_wI r11 l3 (1000 + v10)) (fun _ => m_B (m_aK l0 7) (fun _ => m_B (f85 l0 v10 v2) (fun v13 => f27_132 l0 l2 l3 v13)))))) else (m_B (m_gR 0 l2 5) (fun r15 => m_B (m_wI r15 l3 ((-1) - v6)) (fun _ => m_B (m_gR 7 l0 7) (fun r16 => m_B (m_lI r16 ((l1 * 2) + v6)) (fun v17 => f27_132 l0 l2 l3 v17)))))) else (m_B (m_gR 0 l2 5) (fun r19 => m_B (m_wI r19 l3 v4) (fun _ => m_B (m_gR 0 l2 4) (fun r20 => m_B (m_lI r20 (v4 + 1)) (fun v21 => f27_132 l0 l2 l3 v21)))))))))))))))
theorem f27_ok {l0 : Nat} {l1 : Int32} {l2 : Nat} {l3 : Int32} {h : q_H} {o : q_O} {hz : q_H} {x : Int32 × q_H} (hf : f27 l0 l1 l2 l3 h = some x) (hK : (q_KI o hz) x) : q_Ev none 27 0 [(0, .ref l0), (1, .int l1), (2, .ref l2), (3, .int l3)] [] h o hz := by
  unfold f27 at hf
  refine ev_aload_n (q_cod qk27 rfl) (by decide) rfl ?_
  refine em_gR (q_cod qk27 rfl) (by decide) (by decide) hf (fun r1 hf => ?_)
  refine ev_iload_n (q_cod qk27 rfl) (by decide) rfl ?_
  refine em_lI (q_cod qk27 rfl) (by decide) hf (fun v2 hf => ?_)
  refine ev_is2 (L' := [(0, .ref l0), (1, .int l1), (2, .ref l2), (3, .int l3), (4, .int v2)]) (q_cod qk27 rfl) (by decide) rfl ?_
  refine ev_aload_n (q_cod qk27 rfl) (by decide) rfl ?_
  refine ev_iload_n (q_cod qk27 rfl) (by decide) rfl ?_
  refine ev_iload (q_cod qk27 rfl) (by decide) rfl ?_
  obtain ⟨g3, hf⟩ := m_aK_some hf
  refine em_call (v := (fun u => some (.int u))) (q_cod qk27 rfl) rfl rfl (q_cokV rfl rfl (Or.inr g3)) rfl (fun x e => f10_cl e) hf (fun v4 h hf => ?_)
  refine ev_is2 (L' := [(0, .ref l0), (1, .int l1), (2, .ref l2), (3, .int l3), (4, .int v2), (5, .int v4)]) (q_cod qk27 rfl) (by decide) rfl ?_
  refine ev_aload_n (q_cod qk27 rfl) (by decide) rfl ?_
  refine ev_iload_n (q_cod qk27 rfl) (by decide) rfl ?_
  refine ev_iload (q_cod qk27 rfl) (by decide) rfl ?_
  obtain ⟨g5, hf⟩ := m_aK_some hf
  refine em_call (v := (fun u => some (.int u))) (q_cod qk27 rfl) rfl rfl (q_cokV rfl rfl (Or.inr g5)) rfl (fun x e => f98_cl e) hf (fun v6 h hf => ?_)
  refine ev_is2 (L' := [(0, .ref l0), (1, .int l1), (2, .ref l2), (3, .int l3), (4, .int v2), (5, .int v4), (6, .int v6)]) (q_cod qk27 rfl) (by decide) rfl ?_
  refine ev_aload_n (q_cod qk27 rfl) (by decide) rfl ?_
  refine ev_aload_n (q_cod qk27 rfl) (by decide) rfl ?_
  refine em_gR (q_cod qk27 rfl) (by decide) (by decide) hf (fun r7 hf => ?_)
  refine ev_iload_n (q_cod qk27 rfl) (by decide) rfl ?_
  refine em_lI (q_cod qk27 rfl) (by decide) hf (fun v8 hf => ?_)
  refine ev_iload (q_cod qk27 rfl) (by decide) rfl ?_
  obtain ⟨g9, hf⟩ := m_aK_some hf
  refine em_call (v := (fun u => some (.int u))) (q_cod qk27 rfl) rfl rfl (q_cokV rfl rfl (Or.inr g9)) rfl (fun x e => f86_cl e) hf (fun v10 h hf => ?_)
  refine ev_is2 (L' := [(0, .ref l0), (1, .int l1), (2, .ref l2), (3, .int l3), (4, .int v2), (5, .int v4), (6, .int v6), (7, .int v10)]) (q_cod qk27 rfl) (by decide) rfl ?_
  refine ev_bi (v := (-3)) (q_cod qk27 rfl) (by decide) (by decide) ?_
  refine ev_is2 (L' := [(0, .ref l0), (1, .int l1), (2, .ref l2), (3, .int l3), (4, .int v2), (5, .int v4), (6, .int v6), (7, .int v10), (8, .int (-3))]) (q_cod qk27 rfl) (by decide) rfl ?_
  refine ev_iload (q_cod qk27 rfl) (by decide) rfl ?_
  refine ev_ic (v := (-1)) (q_cod qk27 rfl) (by decide) (by decide) ?_
  refine em_ic_eq (q_cod qk27 rfl) (by decide) hf (fun c22 hf => ?_) (fun c22 hf => ?_)
  · refine ev_iload (q_cod qk27 rfl) (by decide) rfl ?_
    refine ev_ic (v := (-1)) (q_cod qk27 rfl) (by decide) (by decide) ?_
    refine em_ic_eq (q_cod qk27 rfl) (by decide) hf (fun c18 hf => ?_) (fun c18 hf => ?_)
    · refine ev_iload (q_cod qk27 rfl) (by decide) rfl ?_
      refine ev_ic (v := (-1)) (q_cod qk27 rfl) (by decide) (by decide) ?_
      refine em_ic_eq (q_cod qk27 rfl) (by decide) hf (fun c14 hf => ?_) (fun c14 hf => ?_)
      · exact ev_weak (q_pk [0, 2, 3, 8] rfl) (f27_132_ok hf hK)
      · refine ev_aload_n (q_cod qk27 rfl) (by decide) rfl ?_
        refine em_gR (q_cod qk27 rfl) (by decide) (by decide) hf (fun r11 hf => ?_)
        refine ev_iload_n (q_cod qk27 rfl) (by decide) rfl ?_
        refine ev_si (v := 1000) (q_cod qk27 rfl) (by decide) (by decide) ?_
        refine ev_iload (q_cod qk27 rfl) (by decide) rfl ?_
        refine ev_iadd (q_cod qk27 rfl) (by decide) ?_
        refine em_wI (q_cod qk27 rfl) (by decide) hf (fun hf => ?_)
        refine ev_aload_n (q_cod qk27 rfl) (by decide) rfl ?_
        refine ev_iload (q_cod qk27 rfl) (by decide) rfl ?_
        refine ev_iload (q_cod qk27 rfl) (by decide) rfl ?_
        obtain ⟨g12, hf⟩ := m_aK_some hf
        refine em_call (v := (fun u => some (.int u))) (q_cod qk27 rfl) rfl rfl (q_cokV rfl rfl (Or.inr g12)) rfl (fun x e => f85_cl e) hf (fun v13 h hf => ?_)
        refine ev_is2 (L' := [(0, .ref l0), (1, .int l1), (2, .ref l2), (3, .int l3), (4, .int v2), (5, .int v4), (6, .int v6), (7, .int v10), (8, .int v13)]) (q_cod qk27 rfl) (by decide) rfl ?_
        exact ev_weak (q_pk [0, 2, 3, 8] rfl) (f27_132_ok hf hK)
    · refine ev_aload_n (q_cod qk27 rfl) (by decide) rfl ?_
      refine em_gR (q_cod qk27 rfl) (by decide) (by decide) hf (fun r15 hf => ?_)
      refine ev_iload_n (q_cod qk27 rfl) (by decide) rfl ?_
      refine ev_ic (v := (-1)) (q_cod qk27 rfl) (by decide) (by decide) ?_
      refine ev_iload (q_cod qk27 rfl) (by decide) rfl ?_
      refine ev_isub (q_cod qk27 rfl) (by decide) ?_
      refine em_wI (q_cod qk27 rfl) (by decide) hf (fun hf => ?_)
      refine ev_aload_n (q_cod qk27 rfl) (by decide) rfl ?_
      refine em_gR (q_cod qk27 rfl) (by decide) (by decide) hf (fun r16 hf => ?_)
      refine ev_iload_n (q_cod qk27 rfl) (by decide) rfl ?_
      refine ev_ic (v := 2) (q_cod qk27 rfl) (by decide) (by decide) ?_
      refine ev_imul (q_cod qk27 rfl) (by decide) ?_
      refine ev_iload (q_cod qk27 rfl) (by decide) rfl ?_
      refine ev_iadd (q_cod qk27 rfl) (by decide) ?_
      refine em_lI (q_cod qk27 rfl) (by decide) hf (fun v17 hf => ?_)
      refine ev_is2 (L' := [(0, .ref l0), (1, .int l1), (2, .ref l2), (3, .int l3), (4, .int v2), (5, .int v4), (6, .int v6), (7, .int v10), (8, .int v17)]) (q_cod qk27 rfl) (by decide) rfl ?_
      refine ev_goto (q_cod qk27 rfl) (by decide) ?_
      exact ev_weak (q_pk [0, 2, 3, 8] rfl) (f27_132_ok hf hK)
  · refine ev_aload_n (q_cod qk27 rfl) (by decide) rfl ?_
    refine em_gR (q_cod qk27 rfl) (by decide) (by decide) hf (fun r19 hf => ?_)
    refine ev_iload_n (q_cod qk27 rfl) (by decide) rfl ?_
    refine ev_iload (q_cod qk27 rfl) (by decide) rfl ?_
    refine em_wI (q_cod qk27 rfl) (by decide) hf (fun hf => ?_)
    refine ev_aload_n (q_cod qk27 rfl) (by decide) rfl ?_
    refine em_gR (q_cod qk27 rfl) (by decide) (by decide) hf (fun r20 hf => ?_)
    refine ev_iload (q_cod qk27 rfl) (by decide) rfl ?_
    refine ev_ic (v := 1) (q_cod qk27 rfl) (by decide) (by decide) ?_
    refine ev_iadd (q_cod qk27 rfl) (by decide) ?_
    refine em_lI (q_cod qk27 rfl) (by decide) hf (fun v21 hf => ?_)
    refine ev_is2 (L' := [(0, .ref l0), (1, .int l1), (2, .ref l2), (3, .int l3), (4, .int v2), (5, .int v4), (6, .int v6), (7, .int v10), (8, .int v21)]) (q_cod qk27 rfl) (by decide) rfl ?_
    refine ev_goto (q_cod qk27 rfl) (by decide) ?_
    exact ev_weak (q_pk [0, 2, 3, 8] rfl) (f27_132_ok hf hK)
theorem f27_cl {l0 : Nat} {l1 : Int32} {l2 : Nat} {l3 : Int32} {h : q_H} {x : Int32 × q_H} (hf : f27 l0 l1 l2 l3 h = some x) : q_Cl 27 [.ref l0, .int l1, .ref l2, .int l3] h (.inl (some (.int x.1))) x.2 := q_Cl.of rfl (q_LvS rfl rfl) (f27_ok hf ⟨rfl, rfl⟩)
