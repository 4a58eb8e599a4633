/-! SmithyBench$Locals.<init>()V -/
theorem qk39 : q_cs.getD 39 [] = qc_39 := rfl
def f39 (l0 : Nat) : m_M Unit :=
  m_B (m_nA 20 3) (fun r1 => m_B (m_pR 4 l0 0 r1) (fun _ => m_B (m_nA 20 3) (fun r2 => m_B (m_pR 4 l0 1 r2) (fun _ => m_B (m_nA 20 3) (fun r3 => m_B (m_pR 4 l0 2 r3) (fun _ => m_R ()))))))
theorem f39_ok {l0 : Nat} {h : q_H} {o : q_O} {hz : q_H} {x : Unit × q_H} (hf : f39 l0 h = some x) (hK : (m_KU o hz) x) : q_Ev none 39 0 [(0, .ref l0)] [] h o hz := by
  unfold f39 at hf
  refine ev_aload_n (q_cod qk39 rfl) (by decide) rfl ?_
  refine ev_objinit (q_cod qk39 rfl) (Nat.le_of_ble_eq_true rfl) ?_
  refine ev_aload_n (q_cod qk39 rfl) (by decide) rfl ?_
  refine ev_ic (v := 3) (q_cod qk39 rfl) (by decide) (by decide) ?_
  refine em_nI (q_cod qk39 rfl) (by decide) hf (fun r1 h hf => ?_)
  refine em_pR (q_cod qk39 rfl) (by decide) (by decide) (by decide) hf (fun hf => ?_)
  refine ev_aload_n (q_cod qk39 rfl) (by decide) rfl ?_
  refine ev_ic (v := 3) (q_cod qk39 rfl) (by decide) (by decide) ?_
  refine em_nI (q_cod qk39 rfl) (by decide) hf (fun r2 h hf => ?_)
  refine em_pR (q_cod qk39 rfl) (by decide) (by decide) (by decide) hf (fun hf => ?_)
  refine ev_aload_n (q_cod qk39 rfl) (by decide) rfl ?_
  refine ev_ic (v := 3) (q_cod qk39 rfl) (by decide) (by decide) ?_
  refine em_nI (q_cod qk39 rfl) (by decide) hf (fun r3 h hf => ?_)
  refine em_pR (q_cod qk39 rfl) (by decide) (by decide) (by decide) hf (fun hf => ?_)
  obtain rfl := m_R_inv hf
  obtain ⟨rfl, rfl⟩ := (show m_KU o hz ((), _) from hK)
  exact ev_ret (q_cod qk39 rfl) rfl
theorem f39_cl {l0 : Nat} {h : q_H} {x : Unit × q_H} (hf : f39 l0 h = some x) : q_Cl 39 [.ref l0] h (.inl none) x.2 := q_Cl.of rfl (q_LvS rfl rfl) (f39_ok hf ⟨rfl, rfl⟩)
/-! SmithyBench$Extractor.<init>()V -/
theorem qk30 : q_cs.getD 30 [] = qc_30 := rfl
def f30 (l0 : Nat) : m_M Unit :=
  m_B (m_nO 0) (fun r1 => m_B (f0 r1 256) (fun _ => m_B (m_pR 2 l0 0 r1) (fun _ => m_B (m_nO 4) (fun r3 => m_B (f39 r3) (fun _ => m_B (m_pR 2 l0 1 r3) (fun _ => m_B (m_nO 4) (fun r5 => m_B (f39 r5) (fun _ => m_B (m_pR 2 l0 2 r5) (fun _ => m_R ())))))))))
theorem f30_ok {l0 : Nat} {h : q_H} {o : q_O} {hz : q_H} {x : Unit × q_H} (hf : f30 l0 h = some x) (hK : (m_KU o hz) x) : q_Ev none 30 0 [(0, .ref l0)] [] h o hz := by
  unfold f30 at hf
  refine ev_aload_n (q_cod qk30 rfl) (by decide) rfl ?_
  refine ev_objinit (q_cod qk30 rfl) (Nat.le_of_ble_eq_true rfl) ?_
  refine ev_aload_n (q_cod qk30 rfl) (by decide) rfl ?_
  refine em_nO (q_cod qk30 rfl) (by decide) hf (fun r1 h hf => ?_)
  refine ev_dup (q_cod qk30 rfl) (by decide) rfl ?_
  refine ev_si (v := 256) (q_cod qk30 rfl) (by decide) (by decide) ?_
  refine em_call (v := (fun _ => none)) (q_cod qk30 rfl) rfl rfl (q_cokV rfl rfl (Or.inl rfl)) rfl (fun x e => f0_cl e) hf (fun _ h hf => ?_)
  refine em_pR (q_cod qk30 rfl) (by decide) (by decide) (by decide) hf (fun hf => ?_)
  refine ev_aload_n (q_cod qk30 rfl) (by decide) rfl ?_
  refine em_nO (q_cod qk30 rfl) (by decide) hf (fun r3 h hf => ?_)
  refine ev_dup (q_cod qk30 rfl) (by decide) rfl ?_
  refine em_call (v := (fun _ => none)) (q_cod qk30 rfl) rfl rfl (q_cokV rfl rfl (Or.inl rfl)) rfl (fun x e => f39_cl e) hf (fun _ h hf => ?_)
  refine em_pR (q_cod qk30 rfl) (by decide) (by decide) (by decide) hf (fun hf => ?_)
  refine ev_aload_n (q_cod qk30 rfl) (by decide) rfl ?_
  refine em_nO (q_cod qk30 rfl) (by decide) hf (fun r5 h hf => ?_)
  refine ev_dup (q_cod qk30 rfl) (by decide) rfl ?_
  refine em_call (v := (fun _ => none)) (q_cod qk30 rfl) rfl rfl (q_cokV rfl rfl (Or.inl rfl)) rfl (fun x e => f39_cl e) hf (fun _ h hf => ?_)
  refine em_pR (q_cod qk30 rfl) (by decide) (by decide) (by decide) hf (fun hf => ?_)
  obtain rfl := m_R_inv hf
  obtain ⟨rfl, rfl⟩ := (show m_KU o hz ((), _) from hK)
  exact ev_ret (q_cod qk30 rfl) rfl
theorem f30_cl {l0 : Nat} {h : q_H} {x : Unit × q_H} (hf : f30 l0 h = some x) : q_Cl 30 [.ref l0] h (.inl none) x.2 := q_Cl.of rfl (q_LvS rfl rfl) (f30_ok hf ⟨rfl, rfl⟩)
/-! SmithyBench$Locals.indexOf(I)I -/
theorem qk40 : q_cs.getD 40 [] = qc_40 := rfl
def f40_20 (l2 : Int32) : m_M Int32 :=
  m_R l2
theorem f40_20_ok {l2 : Int32} {h : q_H} {o : q_O} {hz : q_H} {x : Int32 × q_H} (hf : f40_20 l2 h = some x) (hK : (q_KI o hz) x) : q_Ev none 40 20 [(2, .int l2)] [] h o hz := by
  unfold f40_20 at hf
  refine ev_iload_n (q_cod qk40 rfl) (by decide) rfl ?_
  obtain rfl := m_R_inv hf
  obtain ⟨rfl, rfl⟩ := (show q_KI o hz (l2, _) from hK)
  exact ev_ret (q_cod qk40 rfl) rfl
def f40_28  : m_M Int32 :=
  m_R (-1)
theorem f40_28_ok  {h : q_H} {o : q_O} {hz : q_H} {x : Int32 × q_H} (hf : f40_28 h = some x) (hK : (q_KI o hz) x) : q_Ev none 40 28 [] [] h o hz := by
  unfold f40_28 at hf
  refine ev_ic (v := (-1)) (q_cod qk40 rfl) (by decide) (by decide) ?_
  obtain rfl := m_R_inv hf
  obtain ⟨rfl, rfl⟩ := (show q_KI o hz ((-1), _) from hK)
  exact ev_ret (q_cod qk40 rfl) rfl
def f40_2b (l0 : Nat) (l1 : Int32) (l2 : Int32) : m_M ((Nat × Int32 × Int32) ⊕ Int32) :=
  m_B (m_gI 4 l0 3) (fun v1 => if l2 < v1 then (m_B (m_gR 4 l0 0) (fun r2 => m_B (m_lI r2 l2) (fun v3 => if v3 = l1 then (m_B (f40_20 l2) (fun r => m_R (.inr r))) else (m_R (.inl (l0, l1, (l2 + 1))))))) else (m_B (f40_28) (fun r => m_R (.inr r))))
theorem f40_2b_ok {l0 : Nat} {l1 : Int32} {l2 : Int32} {h : q_H} {o : q_O} {hz : q_H} {x : ((Nat × Int32 × Int32) ⊕ Int32) × q_H} (hf : f40_2b l0 l1 l2 h = some x) (hK : (m_yK (fun (s : Nat × Int32 × Int32) (h : q_H) => q_Ev none 40 2 [(0, .ref (s.1)), (1, .int (s.2.1)), (2, .int (s.2.2))] [] h o hz) (q_KI o hz)) x) : q_Ev none 40 2 [(0, .ref l0), (1, .int l1), (2, .int l2)] [] h o hz := by
  unfold f40_2b at hf
  refine ev_iload_n (q_cod qk40 rfl) (by decide) rfl ?_
  refine ev_aload_n (q_cod qk40 rfl) (by decide) rfl ?_
  refine em_gI (q_cod qk40 rfl) (by decide) (by decide) hf (fun v1 hf => ?_)
  refine em_ic_ge (q_cod qk40 rfl) (by decide) hf (fun c5 hf => ?_) (fun c5 hf => ?_)
  · refine ev_aload_n (q_cod qk40 rfl) (by decide) rfl ?_
    refine em_gR (q_cod qk40 rfl) (by decide) (by decide) hf (fun r2 hf => ?_)
    refine ev_iload_n (q_cod qk40 rfl) (by decide) rfl ?_
    refine em_lI (q_cod qk40 rfl) (by decide) hf (fun v3 hf => ?_)
    refine ev_iload_n (q_cod qk40 rfl) (by decide) rfl ?_
    refine em_ic_ne (q_cod qk40 rfl) (by decide) hf (fun c4 hf => ?_) (fun c4 hf => ?_)
    · obtain ⟨y0, hf0, hx⟩ := m_inr_some hf
      subst hx
      exact ev_weak (q_pk [2] rfl) (f40_20_ok hf0 hK)
    · refine ev_inc (v := l2 + 1) (L' := [(0, .ref l0), (1, .int l1), (2, .int (l2 + 1))]) (q_cod qk40 rfl) (by decide) rfl rfl rfl ?_
      refine ev_goto (q_cod qk40 rfl) (by decide) ?_
      obtain rfl := m_R_inv hf
      exact (show q_Ev none 40 2 [(0, .ref l0), (1, .int l1), (2, .int (l2 + 1))] [] _ o hz from hK)
  · obtain ⟨y0, hf0, hx⟩ := m_inr_some hf
    subst hx
    exact ev_weak (q_pk [] rfl) (f40_28_ok hf0 hK)
def f40_2 (l0 : Nat) (l1 : Int32) (l2 : Int32) : m_M Int32 := m_W (fun s => f40_2b (s.1) (s.2.1) (s.2.2)) 1000000 (l0, l1, l2)
theorem f40_2_ok {l0 : Nat} {l1 : Int32} {l2 : Int32} {h : q_H} {o : q_O} {hz : q_H} {x : Int32 × q_H} (hf : f40_2 l0 l1 l2 h = some x) (hK : (q_KI o hz) x) : q_Ev none 40 2 [(0, .ref l0), (1, .int l1), (2, .int l2)] [] h o hz :=
  m_W_ok (P := (fun (s : Nat × Int32 × Int32) (h : q_H) => q_Ev none 40 2 [(0, .ref (s.1)), (1, .int (s.2.1)), (2, .int (s.2.2))] [] h o hz)) (K := (q_KI o hz)) (fun s h x h1 h2 => f40_2b_ok h1 h2) _ (l0, l1, l2) _ _ hf hK
def f40 (l0 : Nat) (l1 : Int32) : m_M Int32 :=
  f40_2 l0 l1 0
theorem f40_ok {l0 : Nat} {l1 : Int32} {h : q_H} {o : q_O} {hz : q_H} {x : Int32 × q_H} (hf : f40 l0 l1 h = some x) (hK : (q_KI o hz) x) : q_Ev none 40 0 [(0, .ref l0), (1, .int l1)] [] h o hz := by
  unfold f40 at hf
  refine ev_ic (v := 0) (q_cod qk40 rfl) (by decide) (by decide) ?_
  refine ev_is1 (L' := [(0, .ref l0), (1, .int l1), (2, .int 0)]) (q_cod qk40 rfl) (by decide) rfl ?_
  exact (f40_2_ok hf hK)
theorem f40_cl {l0 : Nat} {l1 : Int32} {h : q_H} {x : Int32 × q_H} (hf : f40 l0 l1 h = some x) : q_Cl 40 [.ref l0, .int l1] h (.inl (some (.int x.1))) x.2 := q_Cl.of rfl (q_LvS rfl rfl) (f40_ok hf ⟨rfl, rfl⟩)
/-! SmithyBench$Program.typeOfLocal(II)I -/
theorem qk100 : q_cs.getD 100 [] = qc_100 := rfl
def f100_32 (s0 : Int32) : m_M Int32 :=
  m_R s0
theorem f100_32_ok {s0 : Int32} {h : q_H} {o : q_O} {hz : q_H} {x : Int32 × q_H} (hf : f100_32 s0 h = some x) (hK : (q_KI o hz) x) : q_Ev none 100 32 [] [.int s0] h o hz := by
  unfold f100_32 at hf
  obtain rfl := m_R_inv hf
  obtain ⟨rfl, rfl⟩ := (show q_KI o hz (s0, _) from hK)
  exact ev_ret (q_cod qk100 rfl) rfl
def f100 (l0 : Nat) (l1 : Int32) (l2 : Int32) : m_M Int32 :=
  if l2 < 0 then (m_B (m_gR 7 l0 7) (fun r1 => m_B (m_lI r1 (((l1 * 2) - 1) - l2)) (fun v2 => f100_32 v2))) else (m_B (m_gR 7 l0 9) (fun r3 => m_B (m_lR r3 l1) (fun r4 => m_B (m_gR 0 r4 4) (fun r5 => m_B (m_lI r5 (l2 + 1)) (fun v6 => f100_32 v6)))))
theorem f100_ok {l0 : Nat} {l1 : Int32} {l2 : Int32} {h : q_H} {o : q_O} {hz : q_H} {x : Int32 × q_H} (hf : f100 l0 l1 l2 h = some x) (hK : (q_KI o hz) x) : q_Ev none 100 0 [(0, .ref l0), (1, .int l1), (2, .int l2)] [] h o hz := by
  unfold f100 at hf
  refine ev_iload_n (q_cod qk100 rfl) (by decide) rfl ?_
  refine em_if_ge (q_cod qk100 rfl) (by decide) hf (fun c7 hf => ?_) (fun c7 hf => ?_)
  · refine ev_aload_n (q_cod qk100 rfl) (by decide) rfl ?_
    refine em_gR (q_cod qk100 rfl) (by decide) (by decide) hf (fun r1 hf => ?_)
    refine ev_iload_n (q_cod qk100 rfl) (by decide) rfl ?_
    refine ev_ic (v := 2) (q_cod qk100 rfl) (by decide) (by decide) ?_
    refine ev_imul (q_cod qk100 rfl) (by decide) ?_
    refine ev_ic (v := 1) (q_cod qk100 rfl) (by decide) (by decide) ?_
    refine ev_isub (q_cod qk100 rfl) (by decide) ?_
    refine ev_iload_n (q_cod qk100 rfl) (by decide) rfl ?_
    refine ev_isub (q_cod qk100 rfl) (by decide) ?_
    refine em_lI (q_cod qk100 rfl) (by decide) hf (fun v2 hf => ?_)
    refine ev_goto (q_cod qk100 rfl) (by decide) ?_
    exact ev_weak (q_pk [] rfl) (f100_32_ok hf hK)
  · refine ev_aload_n (q_cod qk100 rfl) (by decide) rfl ?_
    refine em_gR (q_cod qk100 rfl) (by decide) (by decide) hf (fun r3 hf => ?_)
    refine ev_iload_n (q_cod qk100 rfl) (by decide) rfl ?_
    refine em_lR (q_cod qk100 rfl) (by decide) hf (fun r4 hf => ?_)
    refine em_gR (q_cod qk100 rfl) (by decide) (by decide) hf (fun r5 hf => ?_)
    refine ev_iload_n (q_cod qk100 rfl) (by decide) rfl ?_
    refine ev_ic (v := 1) (q_cod qk100 rfl) (by decide) (by decide) ?_
    refine ev_iadd (q_cod qk100 rfl) (by decide) ?_
    refine em_lI (q_cod qk100 rfl) (by decide) hf (fun v6 hf => ?_)
    exact ev_weak (q_pk [] rfl) (f100_32_ok hf hK)
theorem f100_cl {l0 : Nat} {l1 : Int32} {l2 : Int32} {h : q_H} {x : Int32 × q_H} (hf : f100 l0 l1 l2 h = some x) : q_Cl 100 [.ref l0, .int l1, .int l2] h (.inl (some (.int x.1))) x.2 := q_Cl.of rfl (q_LvS rfl rfl) (f100_ok hf ⟨rfl, rfl⟩)
/-! SmithyBench$Locals.note(LSmithyBench$Program;II)I -/
theorem qk41 : q_cs.getD 41 [] = qc_41 := rfl
def f41_35 (l5 : Int32) : m_M Int32 :=
  m_R l5
theorem f41_35_ok {l5 : Int32} {h : q_H} {o : q_O} {hz : q_H} {x : Int32 × q_H} (hf : f41_35 l5 h = some x) (hK : (q_KI o hz) x) : q_Ev none 41 35 [(5, .int l5)] [] h o hz := by
  unfold f41_35 at hf
  refine ev_iload (q_cod qk41 rfl) (by decide) rfl ?_
  obtain rfl := m_R_inv hf
  obtain ⟨rfl, rfl⟩ := (show q_KI o hz (l5, _) from hK)
  exact ev_ret (q_cod qk41 rfl) rfl
def f41 (l0 : Nat) (l1 : Nat) (l2 : Int32) (l3 : Int32) : m_M Int32 :=
  m_B (m_gR 7 l1 9) (fun r1 => m_B (m_lR r1 l2) (fun r2 => m_B (m_gR 0 r2 5) (fun r3 => m_B (m_lI r3 l3) (fun v4 => m_B (m_aK l0 4) (fun _ => m_B (f40 l0 v4) (fun v6 => if v6 = (-1) then (m_B (m_gI 4 l0 3) (fun v7 => if v7 < 3 then (m_B (m_gR 4 l0 0) (fun r8 => m_B (m_gI 4 l0 3) (fun v9 => m_B (m_gR 0 r2 5) (fun r10 => m_B (m_lI r10 l3) (fun v11 => m_B (m_wI r8 v9 v11) (fun _ => m_B (m_gR 4 l0 1) (fun r12 => m_B (m_gI 4 l0 3) (fun v13 => m_B (m_gR 0 r2 1) (fun r14 => m_B (m_lI r14 l3) (fun v15 => m_B (m_wI r12 v13 v15) (fun _ => m_B (m_gR 4 l0 2) (fun r16 => m_B (m_gI 4 l0 3) (fun v17 => m_B (m_gR 0 r2 5) (fun r18 => m_B (m_lI r18 l3) (fun v19 => m_B (m_aK l1 7) (fun _ => m_B (f100 l1 l2 v19) (fun v21 => m_B (m_wI r16 v17 v21) (fun _ => m_B (m_gI 4 l0 3) (fun v22 => m_B (m_pI 4 l0 3 (v22 + 1)) (fun _ => m_B (m_gI 4 l0 3) (fun v23 => m_R (v23 - 1)))))))))))))))))))))) else (f41_35 v6))) else (f41_35 v6)))))))
theorem f41_ok {l0 : Nat} {l1 : Nat} {l2 : Int32} {l3 : Int32} {h : q_H} {o : q_O} {hz : q_H} {x : Int32 × q_H} (hf : f41 l0 l1 l2 l3 h = some x) (hK : (q_KI o hz) x) : q_Ev none 41 0 [(0, .ref l0), (1, .ref l1), (2, .int l2), (3, .int l3)] [] h o hz := by
  unfold f41 at hf
  refine ev_aload_n (q_cod qk41 rfl) (by decide) rfl ?_
  refine em_gR (q_cod qk41 rfl) (by decide) (by decide) hf (fun r1 hf => ?_)
  refine ev_iload_n (q_cod qk41 rfl) (by decide) rfl ?_
  refine em_lR (q_cod qk41 rfl) (by decide) hf (fun r2 hf => ?_)
  refine ev_as2 (L' := [(0, .ref l0), (1, .ref l1), (2, .int l2), (3, .int l3), (4, .ref r2)]) (q_cod qk41 rfl) (by decide) rfl ?_
  refine ev_aload_n (q_cod qk41 rfl) (by decide) rfl ?_
  refine ev_aload (q_cod qk41 rfl) (by decide) rfl ?_
  refine em_gR (q_cod qk41 rfl) (by decide) (by decide) hf (fun r3 hf => ?_)
  refine ev_iload_n (q_cod qk41 rfl) (by decide) rfl ?_
  refine em_lI (q_cod qk41 rfl) (by decide) hf (fun v4 hf => ?_)
  obtain ⟨g5, hf⟩ := m_aK_some hf
  refine em_call (v := (fun u => some (.int u))) (q_cod qk41 rfl) rfl rfl (q_cokV rfl rfl (Or.inr g5)) rfl (fun x e => f40_cl e) hf (fun v6 h hf => ?_)
  refine ev_is2 (L' := [(0, .ref l0), (1, .ref l1), (2, .int l2), (3, .int l3), (4, .ref r2), (5, .int v6)]) (q_cod qk41 rfl) (by decide) rfl ?_
  refine ev_iload (q_cod qk41 rfl) (by decide) rfl ?_
  refine ev_ic (v := (-1)) (q_cod qk41 rfl) (by decide) (by decide) ?_
  refine em_ic_ne (q_cod qk41 rfl) (by decide) hf (fun c25 hf => ?_) (fun c25 hf => ?_)
  · refine ev_aload_n (q_cod qk41 rfl) (by decide) rfl ?_
    refine em_gI (q_cod qk41 rfl) (by decide) (by decide) hf (fun v7 hf => ?_)
    refine ev_ic (v := 3) (q_cod qk41 rfl) (by decide) (by decide) ?_
    refine em_ic_lt (q_cod qk41 rfl) (by decide) hf (fun c24 hf => ?_) (fun c24 hf => ?_)
    · refine ev_aload_n (q_cod qk41 rfl) (by decide) rfl ?_
      refine em_gR (q_cod qk41 rfl) (by decide) (by decide) hf (fun r8 hf => ?_)
      refine ev_aload_n (q_cod qk41 rfl) (by decide) rfl ?_
      refine em_gI (q_cod qk41 rfl) (by decide) (by decide) hf (fun v9 hf => ?_)
      refine ev_aload (q_cod qk41 rfl) (by decide) rfl ?_
      refine em_gR (q_cod qk41 rfl) (by decide) (by decide) hf (fun r10 hf => ?_)
      refine ev_iload_n (q_cod qk41 rfl) (by decide) rfl ?_
      refine em_lI (q_cod qk41 rfl) (by decide) hf (fun v11 hf => ?_)
      refine em_wI (q_cod qk41 rfl) (by decide) hf (fun hf => ?_)
      refine ev_aload_n (q_cod qk41 rfl) (by decide) rfl ?_
      refine em_gR (q_cod qk41 rfl) (by decide) (by decide) hf (fun r12 hf => ?_)
      refine ev_aload_n (q_cod qk41 rfl) (by decide) rfl ?_
      refine em_gI (q_cod qk41 rfl) (by decide) (by decide) hf (fun v13 hf => ?_)
      refine ev_aload (q_cod qk41 rfl) (by decide) rfl ?_
      refine em_gR (q_cod qk41 rfl) (by decide) (by decide) hf (fun r14 hf => ?_)
      refine ev_iload_n (q_cod qk41 rfl) (by decide) rfl ?_
      refine em_lI (q_cod qk41 rfl) (by decide) hf (fun v15 hf => ?_)
      refine em_wI (q_cod qk41 rfl) (by decide) hf (fun hf => ?_)
      refine ev_aload_n (q_cod qk41 rfl) (by decide) rfl ?_
      refine em_gR (q_cod qk41 rfl) (by decide) (by decide) hf (fun r16 hf => ?_)
      refine ev_aload_n (q_cod qk41 rfl) (by decide) rfl ?_
      refine em_gI (q_cod qk41 rfl) (by decide) (by decide) hf (fun v17 hf => ?_)
      refine ev_aload_n (q_cod qk41 rfl) (by decide) rfl ?_
      refine ev_iload_n (q_cod qk41 rfl) (by decide) rfl ?_
      refine ev_aload (q_cod qk41 rfl) (by decide) rfl ?_
      refine em_gR (q_cod qk41 rfl) (by decide) (by decide) hf (fun r18 hf => ?_)
      refine ev_iload_n (q_cod qk41 rfl) (by decide) rfl ?_
      refine em_lI (q_cod qk41 rfl) (by decide) hf (fun v19 hf => ?_)
      obtain ⟨g20, hf⟩ := m_aK_some hf
      refine em_call (v := (fun u => some (.int u))) (q_cod qk41 rfl) rfl rfl (q_cokV rfl rfl (Or.inr g20)) rfl (fun x e => f100_cl e) hf (fun v21 h hf => ?_)
      refine em_wI (q_cod qk41 rfl) (by decide) hf (fun hf => ?_)
      refine ev_aload_n (q_cod qk41 rfl) (by decide) rfl ?_
      refine ev_dup (q_cod qk41 rfl) (by decide) rfl ?_
      refine em_gI (q_cod qk41 rfl) (by decide) (by decide) hf (fun v22 hf => ?_)
      refine ev_ic (v := 1) (q_cod qk41 rfl) (by decide) (by decide) ?_
      refine ev_iadd (q_cod qk41 rfl) (by decide) ?_
      refine em_pI (q_cod qk41 rfl) (by decide) (by decide) (by decide) hf (fun hf => ?_)
      refine ev_aload_n (q_cod qk41 rfl) (by decide) rfl ?_
      refine em_gI (q_cod qk41 rfl) (by decide) (by decide) hf (fun v23 hf => ?_)
      refine ev_ic (v := 1) (q_cod qk41 rfl) (by decide) (by decide) ?_
      refine ev_isub (q_cod qk41 rfl) (by decide) ?_
      obtain rfl := m_R_inv hf
      obtain ⟨rfl, rfl⟩ := (show q_KI o hz ((v23 - 1), _) from hK)
      exact ev_ret (q_cod qk41 rfl) rfl
    · exact ev_weak (q_pk [5] rfl) (f41_35_ok hf hK)
  · exact ev_weak (q_pk [5] rfl) (f41_35_ok hf hK)
theorem f41_cl {l0 : Nat} {l1 : Nat} {l2 : Int32} {l3 : Int32} {h : q_H} {x : Int32 × q_H} (hf : f41 l0 l1 l2 l3 h = some x) : q_Cl 41 [.ref l0, .ref l1, .int l2, .int l3] h (.inl (some (.int x.1))) x.2 := q_Cl.of rfl (q_LvS rfl rfl) (f41_ok hf ⟨rfl, rfl⟩)
/-! SmithyBench$Extractor.noteLocals(LSmithyBench$Program;II)Z -/
theorem qk32 : q_cs.getD 32 [] = qc_32 := rfl
def f32_72 (l0 : Nat) (l1 : Nat) (l2 : Int32) (l3 : Int32) (l4 : Nat) (l5 : Int32) : m_M ((Nat × Nat × Int32 × Int32 × Nat × Int32) ⊕ Int32) :=
  m_R (.inl (l0, l1, l2, l3, l4, (l5 + 1)))
theorem f32_72_ok {l0 : Nat} {l1 : Nat} {l2 : Int32} {l3 : Int32} {l4 : Nat} {l5 : Int32} {h : q_H} {o : q_O} {hz : q_H} {x : ((Nat × Nat × Int32 × Int32 × Nat × Int32) ⊕ Int32) × q_H} (hf : f32_72 l0 l1 l2 l3 l4 l5 h = some x) (hK : (m_yK (fun (s : Nat × Nat × Int32 × Int32 × Nat × Int32) (h : q_H) => q_Ev none 32 19 [(0, .ref (s.1)), (1, .ref (s.2.1)), (2, .int (s.2.2.1)), (3, .int (s.2.2.2.1)), (4, .ref (s.2.2.2.2.1)), (5, .int (s.2.2.2.2.2))] [] h o hz) (q_KI o hz)) x) : q_Ev none 32 72 [(0, .ref l0), (1, .ref l1), (2, .int l2), (3, .int l3), (4, .ref l4), (5, .int l5)] [] h o hz := by
  unfold f32_72 at hf
  refine ev_inc (v := l5 + 1) (L' := [(0, .ref l0), (1, .ref l1), (2, .int l2), (3, .int l3), (4, .ref l4), (5, .int (l5 + 1))]) (q_cod qk32 rfl) (by decide) rfl rfl rfl ?_
  refine ev_goto (q_cod qk32 rfl) (by decide) ?_
  obtain rfl := m_R_inv hf
  exact (show q_Ev none 32 19 [(0, .ref l0), (1, .ref l1), (2, .int l2), (3, .int l3), (4, .ref l4), (5, .int (l5 + 1))] [] _ o hz from hK)
def f32_58  : m_M Int32 :=
  m_R 0
theorem f32_58_ok  {h : q_H} {o : q_O} {hz : q_H} {x : Int32 × q_H} (hf : f32_58 h = some x) (hK : (q_KI o hz) x) : q_Ev none 32 58 [] [] h o hz := by
  unfold f32_58 at hf
  refine ev_ic (v := 0) (q_cod qk32 rfl) (by decide) (by decide) ?_
  obtain rfl := m_R_inv hf
  obtain ⟨rfl, rfl⟩ := (show q_KI o hz (0, _) from hK)
  exact ev_ret (q_cod qk32 rfl) rfl
def f32_78  : m_M Int32 :=
  m_R 1
theorem f32_78_ok  {h : q_H} {o : q_O} {hz : q_H} {x : Int32 × q_H} (hf : f32_78 h = some x) (hK : (q_KI o hz) x) : q_Ev none 32 78 [] [] h o hz := by
  unfold f32_78 at hf
  refine ev_ic (v := 1) (q_cod qk32 rfl) (by decide) (by decide) ?_
  obtain rfl := m_R_inv hf
  obtain ⟨rfl, rfl⟩ := (show q_KI o hz (1, _) from hK)
  exact ev_ret (q_cod qk32 rfl) rfl
def f32_19b (l0 : Nat) (l1 : Nat) (l2 : Int32) (l3 : Int32) (l4 : Nat) (l5 : Int32) : m_M ((Nat × Nat × Int32 × Int32 × Nat × Int32) ⊕ Int32) :=
  m_B (m_gR 0 l4 3) (fun r1 => m_B (m_lI r1 l3) (fun v2 => if l5 < v2 then (m_B (m_aK l4 0) (fun _ => m_B (f14 l4 l5 l3) (fun v4 => if v4 = 0 then (f32_72 l0 l1 l2 l3 l4 l5) else (m_B (m_gR 0 l4 0) (fun r5 => m_B (m_lI r5 l5) (fun v6 => if v6 = 6 then (m_B (f32_58) (fun r => m_R (.inr r))) else (m_B (m_gR 2 l0 1) (fun r7 => m_B (m_aK r7 4) (fun _ => m_B (f41 r7 l1 l2 l5) (fun v9 => f32_72 l0 l1 l2 l3 l4 l5)))))))))) else (m_B (f32_78) (fun r => m_R (.inr r)))))
theorem f32_19b_ok {l0 : Nat} {l1 : Nat} {l2 : Int32} {l3 : Int32} {l4 : Nat} {l5 : Int32} {h : q_H} {o : q_O} {hz : q_H} {x : ((Nat × Nat × Int32 × Int32 × Nat × Int32) ⊕ Int32) × q_H} (hf : f32_19b l0 l1 l2 l3 l4 l5 h = some x) (hK : (m_yK (fun (s : Nat × Nat × Int32 × Int32 × Nat × Int32) (h : q_H) => q_Ev none 32 19 [(0, .ref (s.1)), (1, .ref (s.2.1)), (2, .int (s.2.2.1)), (3, .int (s.2.2.2.1)), (4, .ref (s.2.2.2.2.1)), (5, .int (s.2.2.2.2.2))] [] h o hz) (q_KI o hz)) x) : q_Ev none 32 19 [(0, .ref l0), (1, .ref l1), (2, .int l2), (3, .int l3), (4, .ref l4), (5, .int l5)] [] h o hz := by
  unfold f32_19b at hf
  refine ev_iload (q_cod qk32 rfl) (by decide) rfl ?_
  refine ev_aload (q_cod qk32 rfl) (by decide) rfl ?_
  refine em_gR (q_cod qk32 rfl) (by decide) (by decide) hf (fun r1 hf => ?_)
  refine ev_iload_n (q_cod qk32 rfl) (by decide) rfl ?_
  refine em_lI (q_cod qk32 rfl) (by decide) hf (fun v2 hf => ?_)
  refine em_ic_ge (q_cod qk32 rfl) (by decide) hf (fun c12 hf => ?_) (fun c12 hf => ?_)
  · refine ev_aload (q_cod qk32 rfl) (by decide) rfl ?_
    refine ev_iload (q_cod qk32 rfl) (by decide) rfl ?_
    refine ev_iload_n (q_cod qk32 rfl) (by decide) rfl ?_
    obtain ⟨g3, hf⟩ := m_aK_some hf
    refine em_call (v := (fun u => some (.int u))) (q_cod qk32 rfl) rfl rfl (q_cokV rfl rfl (Or.inr g3)) rfl (fun x e => f14_cl e) hf (fun v4 h hf => ?_)
    refine em_if_ne (q_cod qk32 rfl) (by decide) hf (fun c11 hf => ?_) (fun c11 hf => ?_)
    · refine ev_goto (q_cod qk32 rfl) (by decide) ?_
      exact (f32_72_ok hf hK)
    · refine ev_aload (q_cod qk32 rfl) (by decide) rfl ?_
      refine em_gR (q_cod qk32 rfl) (by decide) (by decide) hf (fun r5 hf => ?_)
      refine ev_iload (q_cod qk32 rfl) (by decide) rfl ?_
      refine em_lI (q_cod qk32 rfl) (by decide) hf (fun v6 hf => ?_)
      refine ev_bi (v := 6) (q_cod qk32 rfl) (by decide) (by decide) ?_
      refine em_ic_ne (q_cod qk32 rfl) (by decide) hf (fun c10 hf => ?_) (fun c10 hf => ?_)
      · obtain ⟨y0, hf0, hx⟩ := m_inr_some hf
        subst hx
        exact ev_weak (q_pk [] rfl) (f32_58_ok hf0 hK)
      · refine ev_aload_n (q_cod qk32 rfl) (by decide) rfl ?_
        refine em_gR (q_cod qk32 rfl) (by decide) (by decide) hf (fun r7 hf => ?_)
        refine ev_aload_n (q_cod qk32 rfl) (by decide) rfl ?_
        refine ev_iload_n (q_cod qk32 rfl) (by decide) rfl ?_
        refine ev_iload (q_cod qk32 rfl) (by decide) rfl ?_
        obtain ⟨g8, hf⟩ := m_aK_some hf
        refine em_call (v := (fun u => some (.int u))) (q_cod qk32 rfl) rfl rfl (q_cokV rfl rfl (Or.inr g8)) rfl (fun x e => f41_cl e) hf (fun v9 h hf => ?_)
        refine ev_pop (q_cod qk32 rfl) (by decide) rfl ?_
        exact (f32_72_ok hf hK)
  · obtain ⟨y0, hf0, hx⟩ := m_inr_some hf
    subst hx
    exact ev_weak (q_pk [] rfl) (f32_78_ok hf0 hK)
def f32_19 (l0 : Nat) (l1 : Nat) (l2 : Int32) (l3 : Int32) (l4 : Nat) (l5 : Int32) : m_M Int32 := m_W (fun s => f32_19b (s.1) (s.2.1) (s.2.2.1) (s.2.2.2.1) (s.2.2.2.2.1) (s.2.2.2.2.2)) 1000000 (l0, l1, l2, l3, l4, l5)
theorem f32_19_ok {l0 : Nat} {l1 : Nat} {l2 : Int32} {l3 : Int32} {l4 : Nat} {l5 : Int32} {h : q_H} {o : q_O} {hz : q_H} {x : Int32 × q_H} (hf : f32_19 l0 l1 l2 l3 l4 l5 h = some x) (hK : (q_KI o hz) x) : q_Ev none 32 19 [(0, .ref l0), (1, .ref l1), (2, .int l2), (3, .int l3), (4, .ref l4), (5, .int l5)] [] h o hz :=
  m_W_ok (P := (fun (s : Nat × Nat × Int32 × Int32 × Nat × Int32) (h : q_H) => q_Ev none 32 19 [(0, .ref (s.1)), (1, .ref (s.2.1)), (2, .int (s.2.2.1)), (3, .int (s.2.2.2.1)), (4, .ref (s.2.2.2.2.1)), (5, .int (s.2.2.2.2.2))] [] h o hz)) (K := (q_KI o hz)) (fun s h x h1 h2 => f32_19b_ok h1 h2) _ (l0, l1, l2, l3, l4, l5) _ _ hf hK
def f32 (l0 : Nat) (l1 : Nat) (l2 : Int32) (l3 : Int32) : m_M Int32 :=
  m_B (m_gR 7 l1 9) (fun r1 => m_B (m_lR r1 l2) (fun r2 => m_B (m_gR 2 l0 1) (fun r3 => m_B (m_pI 4 r3 3 0) (fun _ => f32_19 l0 l1 l2 l3 r2 l3))))
theorem f32_ok {l0 : Nat} {l1 : Nat} {l2 : Int32} {l3 : Int32} {h : q_H} {o : q_O} {hz : q_H} {x : Int32 × q_H} (hf : f32 l0 l1 l2 l3 h = some x) (hK : (q_KI o hz) x) : q_Ev none 32 0 [(0, .ref l0), (1, .ref l1), (2, .int l2), (3, .int l3)] [] h o hz := by
  unfold f32 at hf
  refine ev_aload_n (q_cod qk32 rfl) (by decide) rfl ?_
  refine em_gR (q_cod qk32 rfl) (by decide) (by decide) hf (fun r1 hf => ?_)
  refine ev_iload_n (q_cod qk32 rfl) (by decide) rfl ?_
  refine em_lR (q_cod qk32 rfl) (by decide) hf (fun r2 hf => ?_)
  refine ev_as2 (L' := [(0, .ref l0), (1, .ref l1), (2, .int l2), (3, .int l3), (4, .ref r2)]) (q_cod qk32 rfl) (by decide) rfl ?_
  refine ev_aload_n (q_cod qk32 rfl) (by decide) rfl ?_
  refine em_gR (q_cod qk32 rfl) (by decide) (by decide) hf (fun r3 hf => ?_)
  refine ev_ic (v := 0) (q_cod qk32 rfl) (by decide) (by decide) ?_
  refine em_pI (q_cod qk32 rfl) (by decide) (by decide) (by decide) hf (fun hf => ?_)
  refine ev_iload_n (q_cod qk32 rfl) (by decide) rfl ?_
  refine ev_is2 (L' := [(0, .ref l0), (1, .ref l1), (2, .int l2), (3, .int l3), (4, .ref r2), (5, .int l3)]) (q_cod qk32 rfl) (by decide) rfl ?_
  exact (f32_19_ok hf hK)
theorem f32_cl {l0 : Nat} {l1 : Nat} {l2 : Int32} {l3 : Int32} {h : q_H} {x : Int32 × q_H} (hf : f32 l0 l1 l2 l3 h = some x) : q_Cl 32 [.ref l0, .ref l1, .int l2, .int l3] h (.inl (some (.int x.1))) x.2 := q_Cl.of rfl (q_LvS rfl rfl) (f32_ok hf ⟨rfl, rfl⟩)
/-! SmithyBench$Program.areAkin(II)Z -/
theorem qk83 : q_cs.getD 83 [] = qc_83 := rfl
def f83_23 (s0 : Int32) : m_M Int32 :=
  m_B (m_G (s0 = 0 ∨ s0 = 1)) (fun _ => m_R s0)
theorem f83_23_ok {s0 : Int32} {h : q_H} {o : q_O} {hz : q_H} {x : Int32 × q_H} (hf : f83_23 s0 h = some x) (hK : (q_KI o hz) x) : q_Ev none 83 23 [] [.int s0] h o hz := by
  unfold f83_23 at hf
  obtain ⟨g1, hf⟩ := m_G_some hf
  obtain rfl := m_R_inv hf
  obtain ⟨rfl, rfl⟩ := (show q_KI o hz (s0, _) from hK)
  exact ev_ret (q_cod qk83 rfl) (q_retZ g1)
def f83_18  : m_M Int32 :=
  f83_23 1
theorem f83_18_ok  {h : q_H} {o : q_O} {hz : q_H} {x : Int32 × q_H} (hf : f83_18 h = some x) (hK : (q_KI o hz) x) : q_Ev none 83 18 [] [] h o hz := by
  unfold f83_18 at hf
  refine ev_ic (v := 1) (q_cod qk83 rfl) (by decide) (by decide) ?_
  refine ev_goto (q_cod qk83 rfl) (by decide) ?_
  exact (f83_23_ok hf hK)
def f83 (l0 : Nat) (l1 : Int32) (l2 : Int32) : m_M Int32 :=
  m_B (m_aK l0 7) (fun _ => m_B (f82 l0 l1 l2) (fun v2 => if v2 = 0 then (m_B (m_aK l0 7) (fun _ => m_B (f82 l0 l2 l1) (fun v4 => if v4 = 0 then (f83_23 0) else (f83_18)))) else (f83_18)))
theorem f83_ok {l0 : Nat} {l1 : Int32} {l2 : Int32} {h : q_H} {o : q_O} {hz : q_H} {x : Int32 × q_H} (hf : f83 l0 l1 l2 h = some x) (hK : (q_KI o hz) x) : q_Ev none 83 0 [(0, .ref l0), (1, .int l1), (2, .int l2)] [] h o hz := by
  unfold f83 at hf
  refine ev_aload_n (q_cod qk83 rfl) (by decide) rfl ?_
  refine ev_iload_n (q_cod qk83 rfl) (by decide) rfl ?_
  refine ev_iload_n (q_cod qk83 rfl) (by decide) rfl ?_
  obtain ⟨g1, hf⟩ := m_aK_some hf
  refine em_call (v := (fun u => some (.int u))) (q_cod qk83 rfl) rfl rfl (q_cokV rfl rfl (Or.inr g1)) rfl (fun x e => f82_cl e) hf (fun v2 h hf => ?_)
  refine em_if_ne (q_cod qk83 rfl) (by decide) hf (fun c6 hf => ?_) (fun c6 hf => ?_)
  · refine ev_aload_n (q_cod qk83 rfl) (by decide) rfl ?_
    refine ev_iload_n (q_cod qk83 rfl) (by decide) rfl ?_
    refine ev_iload_n (q_cod qk83 rfl) (by decide) rfl ?_
    obtain ⟨g3, hf⟩ := m_aK_some hf
    refine em_call (v := (fun u => some (.int u))) (q_cod qk83 rfl) rfl rfl (q_cokV rfl rfl (Or.inr g3)) rfl (fun x e => f82_cl e) hf (fun v4 h hf => ?_)
    refine em_if_eq (q_cod qk83 rfl) (by decide) hf (fun c5 hf => ?_) (fun c5 hf => ?_)
    · refine ev_ic (v := 0) (q_cod qk83 rfl) (by decide) (by decide) ?_
      exact ev_weak (q_pk [] rfl) (f83_23_ok hf hK)
    · exact ev_weak (q_pk [] rfl) (f83_18_ok hf hK)
  · exact ev_weak (q_pk [] rfl) (f83_18_ok hf hK)
theorem f83_cl {l0 : Nat} {l1 : Int32} {l2 : Int32} {h : q_H} {x : Int32 × q_H} (hf : f83 l0 l1 l2 h = some x) : q_Cl 83 [.ref l0, .int l1, .int l2] h (.inl (some (.int x.1))) x.2 := q_Cl.of rfl (q_LvS rfl rfl) (f83_ok hf ⟨rfl, rfl⟩)
/-! SmithyBench$Program.hasAkinMethod(III)Z -/
theorem qk91 : q_cs.getD 91 [] = qc_91 := rfl
def f91_40 (l0 : Nat) (l1 : Int32) (l2 : Int32) (l3 : Int32) (l4 : Int32) : m_M ((Nat × Int32 × Int32 × Int32 × Int32) ⊕ Int32) :=
  m_R (.inl (l0, l1, l2, l3, (l4 + 1)))
theorem f91_40_ok {l0 : Nat} {l1 : Int32} {l2 : Int32} {l3 : Int32} {l4 : Int32} {h : q_H} {o : q_O} {hz : q_H} {x : ((Nat × Int32 × Int32 × Int32 × Int32) ⊕ Int32) × q_H} (hf : f91_40 l0 l1 l2 l3 l4 h = some x) (hK : (m_yK (fun (s : Nat × Int32 × Int32 × Int32 × Int32) (h : q_H) => q_Ev none 91 3 [(0, .ref (s.1)), (1, .int (s.2.1)), (2, .int (s.2.2.1)), (3, .int (s.2.2.2.1)), (4, .int (s.2.2.2.2))] [] h o hz) (q_KI o hz)) x) : q_Ev none 91 40 [(0, .ref l0), (1, .int l1), (2, .int l2), (3, .int l3), (4, .int l4)] [] h o hz := by
  unfold f91_40 at hf
  refine ev_inc (v := l4 + 1) (L' := [(0, .ref l0), (1, .int l1), (2, .int l2), (3, .int l3), (4, .int (l4 + 1))]) (q_cod qk91 rfl) (by decide) rfl rfl rfl ?_
  refine ev_goto (q_cod qk91 rfl) (by decide) ?_
  obtain rfl := m_R_inv hf
  exact (show q_Ev none 91 3 [(0, .ref l0), (1, .int l1), (2, .int l2), (3, .int l3), (4, .int (l4 + 1))] [] _ o hz from hK)
def f91_38  : m_M Int32 :=
  m_R 1
theorem f91_38_ok  {h : q_H} {o : q_O} {hz : q_H} {x : Int32 × q_H} (hf : f91_38 h = some x) (hK : (q_KI o hz) x) : q_Ev none 91 38 [] [] h o hz := by
  unfold f91_38 at hf
  refine ev_ic (v := 1) (q_cod qk91 rfl) (by decide) (by decide) ?_
  obtain rfl := m_R_inv hf
  obtain ⟨rfl, rfl⟩ := (show q_KI o hz (1, _) from hK)
  exact ev_ret (q_cod qk91 rfl) rfl
def f91_46  : m_M Int32 :=
  m_R 0
theorem f91_46_ok  {h : q_H} {o : q_O} {hz : q_H} {x : Int32 × q_H} (hf : f91_46 h = some x) (hK : (q_KI o hz) x) : q_Ev none 91 46 [] [] h o hz := by
  unfold f91_46 at hf
  refine ev_ic (v := 0) (q_cod qk91 rfl) (by decide) (by decide) ?_
  obtain rfl := m_R_inv hf
  obtain ⟨rfl, rfl⟩ := (show q_KI o hz (0, _) from hK)
  exact ev_ret (q_cod qk91 rfl) rfl
def f91_3b (l0 : Nat) (l1 : Int32) (l2 : Int32) (l3 : Int32) (l4 : Int32) : m_M ((Nat × Int32 × Int32 × Int32 × Int32) ⊕ Int32) :=
  m_B (m_gI 7 l0 11) (fun v1 => if l4 < v1 then (m_B (m_aK l0 7) (fun _ => m_B (f88 l0 l4 l2 l3) (fun v3 => if v3 = 0 then (f91_40 l0 l1 l2 l3 l4) else (m_B (m_gR 7 l0 3) (fun r4 => m_B (m_lI r4 l4) (fun v5 => m_B (m_aK l0 7) (fun _ => m_B (f83 l0 v5 l1) (fun v7 => if v7 = 0 then (f91_40 l0 l1 l2 l3 l4) else (m_B (f91_38) (fun r => m_R (.inr r))))))))))) else (m_B (f91_46) (fun r => m_R (.inr r))))
theorem f91_3b_ok {l0 : Nat} {l1 : Int32} {l2 : Int32} {l3 : Int32} {l4 : Int32} {h : q_H} {o : q_O} {hz : q_H} {x : ((Nat × Int32 × Int32 × Int32 × Int32) ⊕ Int32) × q_H} (hf : f91_3b l0 l1 l2 l3 l4 h = some x) (hK : (m_yK (fun (s : Nat × Int32 × Int32 × Int32 × Int32) (h : q_H) => q_Ev none 91 3 [(0, .ref (s.1)), (1, .int (s.2.1)), (2, .int (s.2.2.1)), (3, .int (s.2.2.2.1)), (4, .int (s.2.2.2.2))] [] h o hz) (q_KI o hz)) x) : q_Ev none 91 3 [(0, .ref l0), (1, .int l1), (2, .int l2), (3, .int l3), (4, .int l4)] [] h o hz := by
  unfold f91_3b at hf
  refine ev_iload (q_cod qk91 rfl) (by decide) rfl ?_
  refine ev_aload_n (q_cod qk91 rfl) (by decide) rfl ?_
  refine em_gI (q_cod qk91 rfl) (by decide) (by decide) hf (fun v1 hf => ?_)
  refine em_ic_ge (q_cod qk91 rfl) (by decide) hf (fun c10 hf => ?_) (fun c10 hf => ?_)
  · refine ev_aload_n (q_cod qk91 rfl) (by decide) rfl ?_
    refine ev_iload (q_cod qk91 rfl) (by decide) rfl ?_
    refine ev_iload_n (q_cod qk91 rfl) (by decide) rfl ?_
    refine ev_iload_n (q_cod qk91 rfl) (by decide) rfl ?_
    obtain ⟨g2, hf⟩ := m_aK_some hf
    refine em_call (v := (fun u => some (.int u))) (q_cod qk91 rfl) rfl rfl (q_cokV rfl rfl (Or.inr g2)) rfl (fun x e => f88_cl e) hf (fun v3 h hf => ?_)
    refine em_if_eq (q_cod qk91 rfl) (by decide) hf (fun c9 hf => ?_) (fun c9 hf => ?_)
    · exact (f91_40_ok hf hK)
    · refine ev_aload_n (q_cod qk91 rfl) (by decide) rfl ?_
      refine ev_aload_n (q_cod qk91 rfl) (by decide) rfl ?_
      refine em_gR (q_cod qk91 rfl) (by decide) (by decide) hf (fun r4 hf => ?_)
      refine ev_iload (q_cod qk91 rfl) (by decide) rfl ?_
      refine em_lI (q_cod qk91 rfl) (by decide) hf (fun v5 hf => ?_)
      refine ev_iload_n (q_cod qk91 rfl) (by decide) rfl ?_
      obtain ⟨g6, hf⟩ := m_aK_some hf
      refine em_call (v := (fun u => some (.int u))) (q_cod qk91 rfl) rfl rfl (q_cokV rfl rfl (Or.inr g6)) rfl (fun x e => f83_cl e) hf (fun v7 h hf => ?_)
      refine em_if_eq (q_cod qk91 rfl) (by decide) hf (fun c8 hf => ?_) (fun c8 hf => ?_)
      · exact (f91_40_ok hf hK)
      · obtain ⟨y0, hf0, hx⟩ := m_inr_some hf
        subst hx
        exact ev_weak (q_pk [] rfl) (f91_38_ok hf0 hK)
  · obtain ⟨y0, hf0, hx⟩ := m_inr_some hf
    subst hx
    exact ev_weak (q_pk [] rfl) (f91_46_ok hf0 hK)
def f91_3 (l0 : Nat) (l1 : Int32) (l2 : Int32) (l3 : Int32) (l4 : Int32) : m_M Int32 := m_W (fun s => f91_3b (s.1) (s.2.1) (s.2.2.1) (s.2.2.2.1) (s.2.2.2.2)) 1000000 (l0, l1, l2, l3, l4)
theorem f91_3_ok {l0 : Nat} {l1 : Int32} {l2 : Int32} {l3 : Int32} {l4 : Int32} {h : q_H} {o : q_O} {hz : q_H} {x : Int32 × q_H} (hf : f91_3 l0 l1 l2 l3 l4 h = some x) (hK : (q_KI o hz) x) : q_Ev none 91 3 [(0, .ref l0), (1, .int l1), (2, .int l2), (3, .int l3), (4, .int l4)] [] h o hz :=
  m_W_ok (P := (fun (s : Nat × Int32 × Int32 × Int32 × Int32) (h : q_H) => q_Ev none 91 3 [(0, .ref (s.1)), (1, .int (s.2.1)), (2, .int (s.2.2.1)), (3, .int (s.2.2.2.1)), (4, .int (s.2.2.2.2))] [] h o hz)) (K := (q_KI o hz)) (fun s h x h1 h2 => f91_3b_ok h1 h2) _ (l0, l1, l2, l3, l4) _ _ hf hK
def f91 (l0 : Nat) (l1 : Int32) (l2 : Int32) (l3 : Int32) : m_M Int32 :=
  f91_3 l0 l1 l2 l3 0
theorem f91_ok {l0 : Nat} {l1 : Int32} {l2 : Int32} {l3 : Int32} {h : q_H} {o : q_O} {hz : q_H} {x : Int32 × q_H} (hf : f91 l0 l1 l2 l3 h = some x) (hK : (q_KI o hz) x) : q_Ev none 91 0 [(0, .ref l0), (1, .int l1), (2, .int l2), (3, .int l3)] [] h o hz := by
  unfold f91 at hf
  refine ev_ic (v := 0) (q_cod qk91 rfl) (by decide) (by decide) ?_
  refine ev_is2 (L' := [(0, .ref l0), (1, .int l1), (2, .int l2), (3, .int l3), (4, .int 0)]) (q_cod qk91 rfl) (by decide) rfl ?_
  exact (f91_3_ok hf hK)
theorem f91_cl {l0 : Nat} {l1 : Int32} {l2 : Int32} {l3 : Int32} {h : q_H} {x : Int32 × q_H} (hf : f91 l0 l1 l2 l3 h = some x) : q_Cl 91 [.ref l0, .int l1, .int l2, .int l3] h (.inl (some (.int x.1))) x.2 := q_Cl.of rfl (q_LvS rfl rfl) (f91_ok hf ⟨rfl, rfl⟩)
/-! SmithyBench$Program.addMethod(III)I -/
theorem qk74 : q_cs.getD 74 [] = qc_74 := rfl
def f74 (l0 : Nat) (l1 : Int32) (l2 : Int32) (l3 : Int32) : m_M Int32 :=
  m_B (m_gI 7 l0 11) (fun v1 => m_B (m_gI 7 l0 12) (fun v2 => m_B (m_pI 7 l0 12 (v2 ||| (1 <<< (v1 &&& 31)))) (fun _ => m_B (m_gR 7 l0 3) (fun r3 => m_B (m_wI r3 v1 l1) (fun _ => m_B (m_gR 7 l0 4) (fun r4 => m_B (m_wI r4 v1 l2) (fun _ => m_B (m_gR 7 l0 5) (fun r5 => m_B (m_wI r5 v1 0) (fun _ => m_B (m_gR 7 l0 6) (fun r6 => m_B (m_wI r6 (v1 * 2) (-1)) (fun _ => m_B (m_gR 7 l0 6) (fun r7 => m_B (m_wI r7 ((v1 * 2) + 1) (-1)) (fun _ => m_B (m_gR 7 l0 8) (fun r8 => m_B (m_wI r8 v1 l3) (fun _ => m_B (m_gR 7 l0 9) (fun r9 => m_B (m_lR r9 v1) (fun r10 => m_B (m_aK r10 0) (fun _ => m_B (f1 r10) (fun _ => m_B (m_gI 7 l0 11) (fun v13 => m_B (m_pI 7 l0 11 (v13 + 1)) (fun _ => m_B (m_pZ 7 l0 14 0) (fun _ => m_R v1))))))))))))))))))))))
theorem f74_ok {l0 : Nat} {l1 : Int32} {l2 : Int32} {l3 : Int32} {h : q_H} {o : q_O} {hz : q_H} {x : Int32 × q_H} (hf : f74 l0 l1 l2 l3 h = some x) (hK : (q_KI o hz) x) : q_Ev none 74 0 [(0, .ref l0), (1, .int l1), (2, .int l2), (3, .int l3)] [] h o hz := by
  unfold f74 at hf
  refine ev_aload_n (q_cod qk74 rfl) (by decide) rfl ?_
  refine em_gI (q_cod qk74 rfl) (by decide) (by decide) hf (fun v1 hf => ?_)
  refine ev_is2 (L' := [(0, .ref l0), (1, .int l1), (2, .int l2), (3, .int l3), (4, .int v1)]) (q_cod qk74 rfl) (by decide) rfl ?_
  refine ev_aload_n (q_cod qk74 rfl) (by decide) rfl ?_
  refine ev_dup (q_cod qk74 rfl) (by decide) rfl ?_
  refine em_gI (q_cod qk74 rfl) (by decide) (by decide) hf (fun v2 hf => ?_)
  refine ev_ic (v := 1) (q_cod qk74 rfl) (by decide) (by decide) ?_
  refine ev_iload (q_cod qk74 rfl) (by decide) rfl ?_
  refine ev_ishl (q_cod qk74 rfl) (by decide) ?_
  refine ev_ior (q_cod qk74 rfl) (by decide) ?_
  refine em_pI (q_cod qk74 rfl) (by decide) (by decide) (by decide) hf (fun hf => ?_)
  refine ev_aload_n (q_cod qk74 rfl) (by decide) rfl ?_
  refine em_gR (q_cod qk74 rfl) (by decide) (by decide) hf (fun r3 hf => ?_)
  refine ev_iload (q_cod qk74 rfl) (by decide) rfl ?_
  refine ev_iload_n (q_cod qk74 rfl) (by decide) rfl ?_
  refine em_wI (q_cod qk74 rfl) (by decide) hf (fun hf => ?_)
  refine ev_aload_n (q_cod qk74 rfl) (by decide) rfl ?_
  refine em_gR (q_cod qk74 rfl) (by decide) (by decide) hf (fun r4 hf => ?_)
  refine ev_iload (q_cod qk74 rfl) (by decide) rfl ?_
  refine ev_iload_n (q_cod qk74 rfl) (by decide) rfl ?_
  refine em_wI (q_cod qk74 rfl) (by decide) hf (fun hf => ?_)
  refine ev_aload_n (q_cod qk74 rfl) (by decide) rfl ?_
  refine em_gR (q_cod qk74 rfl) (by decide) (by decide) hf (fun r5 hf => ?_)
  refine ev_iload (q_cod qk74 rfl) (by decide) rfl ?_
  refine ev_ic (v := 0) (q_cod qk74 rfl) (by decide) (by decide) ?_
  refine em_wI (q_cod qk74 rfl) (by decide) hf (fun hf => ?_)
  refine ev_aload_n (q_cod qk74 rfl) (by decide) rfl ?_
  refine em_gR (q_cod qk74 rfl) (by decide) (by decide) hf (fun r6 hf => ?_)
  refine ev_iload (q_cod qk74 rfl) (by decide) rfl ?_
  refine ev_ic (v := 2) (q_cod qk74 rfl) (by decide) (by decide) ?_
  refine ev_imul (q_cod qk74 rfl) (by decide) ?_
  refine ev_ic (v := (-1)) (q_cod qk74 rfl) (by decide) (by decide) ?_
  refine em_wI (q_cod qk74 rfl) (by decide) hf (fun hf => ?_)
  refine ev_aload_n (q_cod qk74 rfl) (by decide) rfl ?_
  refine em_gR (q_cod qk74 rfl) (by decide) (by decide) hf (fun r7 hf => ?_)
  refine ev_iload (q_cod qk74 rfl) (by decide) rfl ?_
  refine ev_ic (v := 2) (q_cod qk74 rfl) (by decide) (by decide) ?_
  refine ev_imul (q_cod qk74 rfl) (by decide) ?_
  refine ev_ic (v := 1) (q_cod qk74 rfl) (by decide) (by decide) ?_
  refine ev_iadd (q_cod qk74 rfl) (by decide) ?_
  refine ev_ic (v := (-1)) (q_cod qk74 rfl) (by decide) (by decide) ?_
  refine em_wI (q_cod qk74 rfl) (by decide) hf (fun hf => ?_)
  refine ev_aload_n (q_cod qk74 rfl) (by decide) rfl ?_
  refine em_gR (q_cod qk74 rfl) (by decide) (by decide) hf (fun r8 hf => ?_)
  refine ev_iload (q_cod qk74 rfl) (by decide) rfl ?_
  refine ev_iload_n (q_cod qk74 rfl) (by decide) rfl ?_
  refine em_wI (q_cod qk74 rfl) (by decide) hf (fun hf => ?_)
  refine ev_aload_n (q_cod qk74 rfl) (by decide) rfl ?_
  refine em_gR (q_cod qk74 rfl) (by decide) (by decide) hf (fun r9 hf => ?_)
  refine ev_iload (q_cod qk74 rfl) (by decide) rfl ?_
  refine em_lR (q_cod qk74 rfl) (by decide) hf (fun r10 hf => ?_)
  obtain ⟨g11, hf⟩ := m_aK_some hf
  refine em_call (v := (fun _ => none)) (q_cod qk74 rfl) rfl rfl (q_cokV rfl rfl (Or.inr g11)) rfl (fun x e => f1_cl e) hf (fun _ h hf => ?_)
  refine ev_aload_n (q_cod qk74 rfl) (by decide) rfl ?_
  refine ev_dup (q_cod qk74 rfl) (by decide) rfl ?_
  refine em_gI (q_cod qk74 rfl) (by decide) (by decide) hf (fun v13 hf => ?_)
  refine ev_ic (v := 1) (q_cod qk74 rfl) (by decide) (by decide) ?_
  refine ev_iadd (q_cod qk74 rfl) (by decide) ?_
  refine em_pI (q_cod qk74 rfl) (by decide) (by decide) (by decide) hf (fun hf => ?_)
  refine ev_aload_n (q_cod qk74 rfl) (by decide) rfl ?_
  refine ev_ic (v := 0) (q_cod qk74 rfl) (by decide) (by decide) ?_
  refine em_pZ (q_cod qk74 rfl) (by decide) (by decide) (by decide) hf (fun hf => ?_)
  refine ev_iload (q_cod qk74 rfl) (by decide) rfl ?_
  obtain rfl := m_R_inv hf
  obtain ⟨rfl, rfl⟩ := (show q_KI o hz (v1, _) from hK)
  exact ev_ret (q_cod qk74 rfl) rfl
theorem f74_cl {l0 : Nat} {l1 : Int32} {l2 : Int32} {l3 : Int32} {h : q_H} {x : Int32 × q_H} (hf : f74 l0 l1 l2 l3 h = some x) : q_Cl 74 [.ref l0, .int l1, .int l2, .int l3] h (.inl (some (.int x.1))) x.2 := q_Cl.of rfl (q_LvS rfl rfl) (f74_ok hf ⟨rfl, rfl⟩)
/-! SmithyBench$Program.addParameterTo(III)V -/
theorem qk75 : q_cs.getD 75 [] = qc_75 := rfl
def f75 (l0 : Nat) (l1 : Int32) (l2 : Int32) (l3 : Int32) : m_M Unit :=
  m_B (m_gR 7 l0 5) (fun r1 => m_B (m_lI r1 l1) (fun v2 => m_B (m_gR 7 l0 6) (fun r3 => m_B (m_wI r3 ((l1 * 2) + v2) l2) (fun _ => m_B (m_gR 7 l0 7) (fun r4 => m_B (m_wI r4 ((l1 * 2) + v2) l3) (fun _ => m_B (m_gR 7 l0 5) (fun r5 => m_B (m_lI r5 l1) (fun v6 => m_B (m_wI r5 l1 (v6 + 1)) (fun _ => m_R ())))))))))
theorem f75_ok {l0 : Nat} {l1 : Int32} {l2 : Int32} {l3 : Int32} {h : q_H} {o : q_O} {hz : q_H} {x : Unit × q_H} (hf : f75 l0 l1 l2 l3 h = some x) (hK : (m_KU o hz) x) : q_Ev none 75 0 [(0, .ref l0), (1, .int l1), (2, .int l2), (3, .int l3)] [] h o hz := by
  unfold f75 at hf
  refine ev_iload_n (q_cod qk75 rfl) (by decide) rfl ?_
  refine ev_ic (v := 2) (q_cod qk75 rfl) (by decide) (by decide) ?_
  refine ev_imul (q_cod qk75 rfl) (by decide) ?_
  refine ev_aload_n (q_cod qk75 rfl) (by decide) rfl ?_
  refine em_gR (q_cod qk75 rfl) (by decide) (by decide) hf (fun r1 hf => ?_)
  refine ev_iload_n (q_cod qk75 rfl) (by decide) rfl ?_
  refine em_lI (q_cod qk75 rfl) (by decide) hf (fun v2 hf => ?_)
  refine ev_iadd (q_cod qk75 rfl) (by decide) ?_
  refine ev_is2 (L' := [(0, .ref l0), (1, .int l1), (2, .int l2), (3, .int l3), (4, .int ((l1 * 2) + v2))]) (q_cod qk75 rfl) (by decide) rfl ?_
  refine ev_aload_n (q_cod qk75 rfl) (by decide) rfl ?_
  refine em_gR (q_cod qk75 rfl) (by decide) (by decide) hf (fun r3 hf => ?_)
  refine ev_iload (q_cod qk75 rfl) (by decide) rfl ?_
  refine ev_iload_n (q_cod qk75 rfl) (by decide) rfl ?_
  refine em_wI (q_cod qk75 rfl) (by decide) hf (fun hf => ?_)
  refine ev_aload_n (q_cod qk75 rfl) (by decide) rfl ?_
  refine em_gR (q_cod qk75 rfl) (by decide) (by decide) hf (fun r4 hf => ?_)
  refine ev_iload (q_cod qk75 rfl) (by decide) rfl ?_
  refine ev_iload_n (q_cod qk75 rfl) (by decide) rfl ?_
  refine em_wI (q_cod qk75 rfl) (by decide) hf (fun hf => ?_)
  refine ev_aload_n (q_cod qk75 rfl) (by decide) rfl ?_
  refine em_gR (q_cod qk75 rfl) (by decide) (by decide) hf (fun r5 hf => ?_)
  refine ev_iload_n (q_cod qk75 rfl) (by decide) rfl ?_
  refine ev_dup2 (q_cod qk75 rfl) (by decide) rfl rfl ?_
  refine em_lI (q_cod qk75 rfl) (by decide) hf (fun v6 hf => ?_)
  refine ev_ic (v := 1) (q_cod qk75 rfl) (by decide) (by decide) ?_
  refine ev_iadd (q_cod qk75 rfl) (by decide) ?_
  refine em_wI (q_cod qk75 rfl) (by decide) hf (fun hf => ?_)
  obtain rfl := m_R_inv hf
  obtain ⟨rfl, rfl⟩ := (show m_KU o hz ((), _) from hK)
  exact ev_ret (q_cod qk75 rfl) rfl
theorem f75_cl {l0 : Nat} {l1 : Int32} {l2 : Int32} {l3 : Int32} {h : q_H} {x : Unit × q_H} (hf : f75 l0 l1 l2 l3 h = some x) : q_Cl 75 [.ref l0, .int l1, .int l2, .int l3] h (.inl none) x.2 := q_Cl.of rfl (q_LvS rfl rfl) (f75_ok hf ⟨rfl, rfl⟩)
/-! SmithyBench$Locals.hasTypesOf(LSmithyBench$Locals;)Z -/
theorem qk42 : q_cs.getD 42 [] = qc_42 := rfl
def f42_38  : m_M Int32 :=
  m_R 0
theorem f42_38_ok  {h : q_H} {o : q_O} {hz : q_H} {x : Int32 × q_H} (hf : f42_38 h = some x) (hK : (q_KI o hz) x) : q_Ev none 42 38 [] [] h o hz := by
  unfold f42_38 at hf
  refine ev_ic (v := 0) (q_cod qk42 rfl) (by decide) (by decide) ?_
  obtain rfl := m_R_inv hf
  obtain ⟨rfl, rfl⟩ := (show q_KI o hz (0, _) from hK)
  exact ev_ret (q_cod qk42 rfl) rfl
def f42_46  : m_M Int32 :=
  m_R 1
theorem f42_46_ok  {h : q_H} {o : q_O} {hz : q_H} {x : Int32 × q_H} (hf : f42_46 h = some x) (hK : (q_KI o hz) x) : q_Ev none 42 46 [] [] h o hz := by
  unfold f42_46 at hf
  refine ev_ic (v := 1) (q_cod qk42 rfl) (by decide) (by decide) ?_
  obtain rfl := m_R_inv hf
  obtain ⟨rfl, rfl⟩ := (show q_KI o hz (1, _) from hK)
  exact ev_ret (q_cod qk42 rfl) rfl
def f42_15b (l0 : Nat) (l1 : Nat) (l2 : Int32) : m_M ((Nat × Nat × Int32) ⊕ Int32) :=
  m_B (m_gI 4 l0 3) (fun v1 => if l2 < v1 then (m_B (m_gR 4 l0 2) (fun r2 => m_B (m_lI r2 l2) (fun v3 => m_B (m_gR 4 l1 2) (fun r4 => m_B (m_lI r4 l2) (fun v5 => if v3 = v5 then (m_R (.inl (l0, l1, (l2 + 1)))) else (m_B (f42_38) (fun r => m_R (.inr r)))))))) else (m_B (f42_46) (fun r => m_R (.inr r))))
theorem f42_15b_ok {l0 : Nat} {l1 : Nat} {l2 : Int32} {h : q_H} {o : q_O} {hz : q_H} {x : ((Nat × Nat × Int32) ⊕ Int32) × q_H} (hf : f42_15b l0 l1 l2 h = some x) (hK : (m_yK (fun (s : Nat × Nat × Int32) (h : q_H) => q_Ev none 42 15 [(0, .ref (s.1)), (1, .ref (s.2.1)), (2, .int (s.2.2))] [] h o hz) (q_KI o hz)) x) : q_Ev none 42 15 [(0, .ref l0), (1, .ref l1), (2, .int l2)] [] h o hz := by
  unfold f42_15b at hf
  refine ev_iload_n (q_cod qk42 rfl) (by decide) rfl ?_
  refine ev_aload_n (q_cod qk42 rfl) (by decide) rfl ?_
  refine em_gI (q_cod qk42 rfl) (by decide) (by decide) hf (fun v1 hf => ?_)
  refine em_ic_ge (q_cod qk42 rfl) (by decide) hf (fun c7 hf => ?_) (fun c7 hf => ?_)
  · refine ev_aload_n (q_cod qk42 rfl) (by decide) rfl ?_
    refine em_gR (q_cod qk42 rfl) (by decide) (by decide) hf (fun r2 hf => ?_)
    refine ev_iload_n (q_cod qk42 rfl) (by decide) rfl ?_
    refine em_lI (q_cod qk42 rfl) (by decide) hf (fun v3 hf => ?_)
    refine ev_aload_n (q_cod qk42 rfl) (by decide) rfl ?_
    refine em_gR (q_cod qk42 rfl) (by decide) (by decide) hf (fun r4 hf => ?_)
    refine ev_iload_n (q_cod qk42 rfl) (by decide) rfl ?_
    refine em_lI (q_cod qk42 rfl) (by decide) hf (fun v5 hf => ?_)
    refine em_ic_eq (q_cod qk42 rfl) (by decide) hf (fun c6 hf => ?_) (fun c6 hf => ?_)
    · refine ev_inc (v := l2 + 1) (L' := [(0, .ref l0), (1, .ref l1), (2, .int (l2 + 1))]) (q_cod qk42 rfl) (by decide) rfl rfl rfl ?_
      refine ev_goto (q_cod qk42 rfl) (by decide) ?_
      obtain rfl := m_R_inv hf
      exact (show q_Ev none 42 15 [(0, .ref l0), (1, .ref l1), (2, .int (l2 + 1))] [] _ o hz from hK)
    · obtain ⟨y0, hf0, hx⟩ := m_inr_some hf
      subst hx
      exact ev_weak (q_pk [] rfl) (f42_38_ok hf0 hK)
  · obtain ⟨y0, hf0, hx⟩ := m_inr_some hf
    subst hx
    exact ev_weak (q_pk [] rfl) (f42_46_ok hf0 hK)
def f42_15 (l0 : Nat) (l1 : Nat) (l2 : Int32) : m_M Int32 := m_W (fun s => f42_15b (s.1) (s.2.1) (s.2.2)) 1000000 (l0, l1, l2)
theorem f42_15_ok {l0 : Nat} {l1 : Nat} {l2 : Int32} {h : q_H} {o : q_O} {hz : q_H} {x : Int32 × q_H} (hf : f42_15 l0 l1 l2 h = some x) (hK : (q_KI o hz) x) : q_Ev none 42 15 [(0, .ref l0), (1, .ref l1), (2, .int l2)] [] h o hz :=
  m_W_ok (P := (fun (s : Nat × Nat × Int32) (h : q_H) => q_Ev none 42 15 [(0, .ref (s.1)), (1, .ref (s.2.1)), (2, .int (s.2.2))] [] h o hz)) (K := (q_KI o hz)) (fun s h x h1 h2 => f42_15b_ok h1 h2) _ (l0, l1, l2) _ _ hf hK
def f42 (l0 : Nat) (l1 : Nat) : m_M Int32 :=
  m_B (m_gI 4 l0 3) (fun v1 => m_B (m_gI 4 l1 3) (fun v2 => if v1 = v2 then (f42_15 l0 l1 0) else (m_R 0)))
theorem f42_ok {l0 : Nat} {l1 : Nat} {h : q_H} {o : q_O} {hz : q_H} {x : Int32 × q_H} (hf : f42 l0 l1 h = some x) (hK : (q_KI o hz) x) : q_Ev none 42 0 [(0, .ref l0), (1, .ref l1)] [] h o hz := by
  unfold f42 at hf
  refine ev_aload_n (q_cod qk42 rfl) (by decide) rfl ?_
  refine em_gI (q_cod qk42 rfl) (by decide) (by decide) hf (fun v1 hf => ?_)
  refine ev_aload_n (q_cod qk42 rfl) (by decide) rfl ?_
  refine em_gI (q_cod qk42 rfl) (by decide) (by decide) hf (fun v2 hf => ?_)
  refine em_ic_eq (q_cod qk42 rfl) (by decide) hf (fun c3 hf => ?_) (fun c3 hf => ?_)
  · refine ev_ic (v := 0) (q_cod qk42 rfl) (by decide) (by decide) ?_
    refine ev_is1 (L' := [(0, .ref l0), (1, .ref l1), (2, .int 0)]) (q_cod qk42 rfl) (by decide) rfl ?_
    exact (f42_15_ok hf hK)
  · refine ev_ic (v := 0) (q_cod qk42 rfl) (by decide) (by decide) ?_
    obtain rfl := m_R_inv hf
    obtain ⟨rfl, rfl⟩ := (show q_KI o hz (0, _) from hK)
    exact ev_ret (q_cod qk42 rfl) rfl
theorem f42_cl {l0 : Nat} {l1 : Nat} {h : q_H} {x : Int32 × q_H} (hf : f42 l0 l1 h = some x) : q_Cl 42 [.ref l0, .ref l1] h (.inl (some (.int x.1))) x.2 := q_Cl.of rfl (q_LvS rfl rfl) (f42_ok hf ⟨rfl, rfl⟩)
/-! SmithyBench$Extractor.isLike(LSmithyBench$Program;IIII)Z -/
theorem qk34 : q_cs.getD 34 [] = qc_34 := rfl
def f34_217  : m_M Int32 :=
  m_R 0
theorem f34_217_ok  {h : q_H} {o : q_O} {hz : q_H} {x : Int32 × q_H} (hf : f34_217 h = some x) (hK : (q_KI o hz) x) : q_Ev none 34 217 [] [] h o hz := by
  unfold f34_217 at hf
  refine ev_ic (v := 0) (q_cod qk34 rfl) (by decide) (by decide) ?_
  obtain rfl := m_R_inv hf
  obtain ⟨rfl, rfl⟩ := (show q_KI o hz (0, _) from hK)
  exact ev_ret (q_cod qk34 rfl) rfl
def f34_210 (l0 : Nat) (l1 : Nat) (l3 : Int32) (l4 : Int32) (l5 : Int32) (l6 : Nat) (l7 : Nat) (l8 : Int32) (l9 : Int32) (s0 : Int32) : m_M ((Nat × Nat × Int32 × Int32 × Int32 × Nat × Nat × Int32 × Int32) ⊕ Int32) :=
  if s0 = 0 then (m_B (f34_217) (fun r => m_R (.inr r))) else (m_R (.inl (l0, l1, l3, l4, l5, l6, l7, l8, (l9 + 1))))
theorem f34_210_ok {l0 : Nat} {l1 : Nat} {l3 : Int32} {l4 : Int32} {l5 : Int32} {l6 : Nat} {l7 : Nat} {l8 : Int32} {l9 : Int32} {s0 : Int32} {h : q_H} {o : q_O} {hz : q_H} {x : ((Nat × Nat × Int32 × Int32 × Int32 × Nat × Nat × Int32 × Int32) ⊕ Int32) × q_H} (hf : f34_210 l0 l1 l3 l4 l5 l6 l7 l8 l9 s0 h = some x) (hK : (m_yK (fun (s : Nat × Nat × Int32 × Int32 × Int32 × Nat × Nat × Int32 × Int32) (h : q_H) => q_Ev none 34 57 [(0, .ref (s.1)), (1, .ref (s.2.1)), (3, .int (s.2.2.1)), (4, .int (s.2.2.2.1)), (5, .int (s.2.2.2.2.1)), (6, .ref (s.2.2.2.2.2.1)), (7, .ref (s.2.2.2.2.2.2.1)), (8, .int (s.2.2.2.2.2.2.2.1)), (9, .int (s.2.2.2.2.2.2.2.2))] [] h o hz) (q_KI o hz)) x) : q_Ev none 34 210 [(0, .ref l0), (1, .ref l1), (3, .int l3), (4, .int l4), (5, .int l5), (6, .ref l6), (7, .ref l7), (8, .int l8), (9, .int l9)] [.int s0] h o hz := by
  unfold f34_210 at hf
  refine ev_is2 (L' := [(0, .ref l0), (1, .ref l1), (3, .int l3), (4, .int l4), (5, .int l5), (6, .ref l6), (7, .ref l7), (8, .int l8), (9, .int l9), (13, .int s0)]) (q_cod qk34 rfl) (by decide) rfl ?_
  refine ev_iload (q_cod qk34 rfl) (by decide) rfl ?_
  refine em_if_ne (q_cod qk34 rfl) (by decide) hf (fun c1 hf => ?_) (fun c1 hf => ?_)
  · obtain ⟨y0, hf0, hx⟩ := m_inr_some hf
    subst hx
    exact ev_weak (q_pk [] rfl) (f34_217_ok hf0 hK)
  · refine ev_inc (v := l9 + 1) (L' := [(0, .ref l0), (1, .ref l1), (3, .int l3), (4, .int l4), (5, .int l5), (6, .ref l6), (7, .ref l7), (8, .int l8), (9, .int (l9 + 1)), (13, .int s0)]) (q_cod qk34 rfl) (by decide) rfl rfl rfl ?_
    refine ev_goto (q_cod qk34 rfl) (by decide) ?_
    obtain rfl := m_R_inv hf
    exact ev_weak (q_pk [0, 1, 2, 3, 4, 5, 6, 7, 8] rfl) (show q_Ev none 34 57 [(0, .ref l0), (1, .ref l1), (3, .int l3), (4, .int l4), (5, .int l5), (6, .ref l6), (7, .ref l7), (8, .int l8), (9, .int (l9 + 1))] [] _ o hz from hK)
def f34_141  : m_M Int32 :=
  m_R 0
theorem f34_141_ok  {h : q_H} {o : q_O} {hz : q_H} {x : Int32 × q_H} (hf : f34_141 h = some x) (hK : (q_KI o hz) x) : q_Ev none 34 141 [] [] h o hz := by
  unfold f34_141 at hf
  refine ev_ic (v := 0) (q_cod qk34 rfl) (by decide) (by decide) ?_
  obtain rfl := m_R_inv hf
  obtain ⟨rfl, rfl⟩ := (show q_KI o hz (0, _) from hK)
  exact ev_ret (q_cod qk34 rfl) rfl
def f34_115  : m_M Int32 :=
  m_R 0
theorem f34_115_ok  {h : q_H} {o : q_O} {hz : q_H} {x : Int32 × q_H} (hf : f34_115 h = some x) (hK : (q_KI o hz) x) : q_Ev none 34 115 [] [] h o hz := by
  unfold f34_115 at hf
  refine ev_ic (v := 0) (q_cod qk34 rfl) (by decide) (by decide) ?_
  obtain rfl := m_R_inv hf
  obtain ⟨rfl, rfl⟩ := (show q_KI o hz (0, _) from hK)
  exact ev_ret (q_cod qk34 rfl) rfl
def f34_225 (l0 : Nat) : m_M Int32 :=
  m_B (m_gR 2 l0 2) (fun r1 => m_B (m_gR 2 l0 1) (fun r2 => m_B (m_aK r1 4) (fun _ => m_B (f42 r1 r2) (fun v4 => m_B (m_G (v4 = 0 ∨ v4 = 1)) (fun _ => m_R v4)))))
theorem f34_225_ok {l0 : Nat} {h : q_H} {o : q_O} {hz : q_H} {x : Int32 × q_H} (hf : f34_225 l0 h = some x) (hK : (q_KI o hz) x) : q_Ev none 34 225 [(0, .ref l0)] [] h o hz := by
  unfold f34_225 at hf
  refine ev_aload_n (q_cod qk34 rfl) (by decide) rfl ?_
  refine em_gR (q_cod qk34 rfl) (by decide) (by decide) hf (fun r1 hf => ?_)
  refine ev_aload_n (q_cod qk34 rfl) (by decide) rfl ?_
  refine em_gR (q_cod qk34 rfl) (by decide) (by decide) hf (fun r2 hf => ?_)
  obtain ⟨g3, hf⟩ := m_aK_some hf
  refine em_call (v := (fun u => some (.int u))) (q_cod qk34 rfl) rfl rfl (q_cokV rfl rfl (Or.inr g3)) rfl (fun x e => f42_cl e) hf (fun v4 h hf => ?_)
  obtain ⟨g5, hf⟩ := m_G_some hf
  obtain rfl := m_R_inv hf
  obtain ⟨rfl, rfl⟩ := (show q_KI o hz (v4, _) from hK)
  exact ev_ret (q_cod qk34 rfl) (q_retZ g5)
def f34_57b (l0 : Nat) (l1 : Nat) (l3 : Int32) (l4 : Int32) (l5 : Int32) (l6 : Nat) (l7 : Nat) (l8 : Int32) (l9 : Int32) : m_M ((Nat × Nat × Int32 × Int32 × Int32 × Nat × Nat × Int32 × Int32) ⊕ Int32) :=
  if l9 < l8 then (m_B (m_gR 0 l6 0) (fun r1 => m_B (m_lI r1 (l3 + l9)) (fun v2 => m_B (m_gR 0 l7 0) (fun r3 => m_B (m_lI r3 (l5 + l9)) (fun v4 => if v2 = v4 then (m_B (m_gR 0 l6 2) (fun r5 => m_B (m_lI r5 (l3 + l9)) (fun v6 => m_B (m_gR 0 l7 2) (fun r7 => m_B (m_lI r7 (l5 + l9)) (fun v8 => if v6 = v8 then (m_B (m_aK l6 0) (fun _ => m_B (f14 l6 (l3 + l9) l3) (fun v10 => m_B (m_aK l7 0) (fun _ => m_B (f14 l7 (l5 + l9) l5) (fun v12 => if v10 = v12 then (if v10 = 0 then (m_B (m_gR 0 l6 1) (fun r13 => m_B (m_lI r13 (l3 + l9)) (fun v14 => m_B (m_gR 0 l7 1) (fun r15 => m_B (m_lI r15 (l5 + l9)) (fun v16 => if v14 = v16 then (f34_210 l0 l1 l3 l4 l5 l6 l7 l8 l9 1) else (f34_210 l0 l1 l3 l4 l5 l6 l7 l8 l9 0)))))) else (m_B (m_gR 2 l0 1) (fun r18 => m_B (m_gR 0 l6 5) (fun r19 => m_B (m_lI r19 (l3 + l9)) (fun v20 => m_B (m_aK r18 4) (fun _ => m_B (f40 r18 v20) (fun v22 => m_B (m_gR 2 l0 2) (fun r23 => m_B (m_aK r23 4) (fun _ => m_B (f41 r23 l1 l4 (l5 + l9)) (fun v25 => if v22 = v25 then (f34_210 l0 l1 l3 l4 l5 l6 l7 l8 l9 1) else (f34_210 l0 l1 l3 l4 l5 l6 l7 l8 l9 0))))))))))) else (m_B (f34_141) (fun r => m_R (.inr r)))))))) else (m_B (f34_115) (fun r => m_R (.inr r)))))))) else (m_B (f34_115) (fun r => m_R (.inr r)))))))) else (m_B (f34_225 l0) (fun r => m_R (.inr r)))
theorem f34_57b_ok {l0 : Nat} {l1 : Nat} {l3 : Int32} {l4 : Int32} {l5 : Int32} {l6 : Nat} {l7 : Nat} {l8 : Int32} {l9 : Int32} {h : q_H} {o : q_O} {hz : q_H} {x : ((Nat × Nat × Int32 × Int32 × Int32 × Nat × Nat × Int32 × Int32) ⊕ Int32) × q_H} (hf : f34_57b l0 l1 l3 l4 l5 l6 l7 l8 l9 h = some x) (hK : (m_yK (fun (s : Nat × Nat × Int32 × Int32 × Int32 × Nat × Nat × Int32 × Int32) (h : q_H) => q_Ev none 34 57 [(0, .ref (s.1)), (1, .ref (s.2.1)), (3, .int (s.2.2.1)), (4, .int (s.2.2.2.1)), (5, .int (s.2.2.2.2.1)), (6, .ref (s.2.2.2.2.2.1)), (7, .ref (s.2.2.2.2.2.2.1)), (8, .int (s.2.2.2.2.2.2.2.1)), (9, .int (s.2.2.2.2.2.2.2.2))] [] h o hz) (q_KI o hz)) x) : q_Ev none 34 57 [(0, .ref l0), (1, .ref l1), (3, .int l3), (4, .int l4), (5, .int l5), (6, .ref l6), (7, .ref l7), (8, .int l8), (9, .int l9)] [] h o hz := by
  unfold f34_57b at hf
  refine ev_iload (q_cod qk34 rfl) (by decide) rfl ?_
  refine ev_iload (q_cod qk34 rfl) (by decide) rfl ?_
  refine em_ic_ge (q_cod qk34 rfl) (by decide) hf (fun c31 hf => ?_) (fun c31 hf => ?_)
  · refine ev_iload_n (q_cod qk34 rfl) (by decide) rfl ?_
    refine ev_iload (q_cod qk34 rfl) (by decide) rfl ?_
    refine ev_iadd (q_cod qk34 rfl) (by decide) ?_
    refine ev_is2 (L' := [(0, .ref l0), (1, .ref l1), (3, .int l3), (4, .int l4), (5, .int l5), (6, .ref l6), (7, .ref l7), (8, .int l8), (9, .int l9), (10, .int (l3 + l9))]) (q_cod qk34 rfl) (by decide) rfl ?_
    refine ev_iload (q_cod qk34 rfl) (by decide) rfl ?_
    refine ev_iload (q_cod qk34 rfl) (by decide) rfl ?_
    refine ev_iadd (q_cod qk34 rfl) (by decide) ?_
    refine ev_is2 (L' := [(0, .ref l0), (1, .ref l1), (3, .int l3), (4, .int l4), (5, .int l5), (6, .ref l6), (7, .ref l7), (8, .int l8), (9, .int l9), (10, .int (l3 + l9)), (11, .int (l5 + l9))]) (q_cod qk34 rfl) (by decide) rfl ?_
    refine ev_aload (q_cod qk34 rfl) (by decide) rfl ?_
    refine em_gR (q_cod qk34 rfl) (by decide) (by decide) hf (fun r1 hf => ?_)
    refine ev_iload (q_cod qk34 rfl) (by decide) rfl ?_
    refine em_lI (q_cod qk34 rfl) (by decide) hf (fun v2 hf => ?_)
    refine ev_aload (q_cod qk34 rfl) (by decide) rfl ?_
    refine em_gR (q_cod qk34 rfl) (by decide) (by decide) hf (fun r3 hf => ?_)
    refine ev_iload (q_cod qk34 rfl) (by decide) rfl ?_
    refine em_lI (q_cod qk34 rfl) (by decide) hf (fun v4 hf => ?_)
    refine em_ic_ne (q_cod qk34 rfl) (by decide) hf (fun c30 hf => ?_) (fun c30 hf => ?_)
    · refine ev_aload (q_cod qk34 rfl) (by decide) rfl ?_
      refine em_gR (q_cod qk34 rfl) (by decide) (by decide) hf (fun r5 hf => ?_)
      refine ev_iload (q_cod qk34 rfl) (by decide) rfl ?_
      refine em_lI (q_cod qk34 rfl) (by decide) hf (fun v6 hf => ?_)
      refine ev_aload (q_cod qk34 rfl) (by decide) rfl ?_
      refine em_gR (q_cod qk34 rfl) (by decide) (by decide) hf (fun r7 hf => ?_)
      refine ev_iload (q_cod qk34 rfl) (by decide) rfl ?_
      refine em_lI (q_cod qk34 rfl) (by decide) hf (fun v8 hf => ?_)
      refine em_ic_eq (q_cod qk34 rfl) (by decide) hf (fun c29 hf => ?_) (fun c29 hf => ?_)
      · refine ev_aload (q_cod qk34 rfl) (by decide) rfl ?_
        refine ev_iload (q_cod qk34 rfl) (by decide) rfl ?_
        refine ev_iload_n (q_cod qk34 rfl) (by decide) rfl ?_
        obtain ⟨g9, hf⟩ := m_aK_some hf
        refine em_call (v := (fun u => some (.int u))) (q_cod qk34 rfl) rfl rfl (q_cokV rfl rfl (Or.inr g9)) rfl (fun x e => f14_cl e) hf (fun v10 h hf => ?_)
        refine ev_is2 (L' := [(0, .ref l0), (1, .ref l1), (3, .int l3), (4, .int l4), (5, .int l5), (6, .ref l6), (7, .ref l7), (8, .int l8), (9, .int l9), (10, .int (l3 + l9)), (11, .int (l5 + l9)), (12, .int v10)]) (q_cod qk34 rfl) (by decide) rfl ?_
        refine ev_iload (q_cod qk34 rfl) (by decide) rfl ?_
        refine ev_aload (q_cod qk34 rfl) (by decide) rfl ?_
        refine ev_iload (q_cod qk34 rfl) (by decide) rfl ?_
        refine ev_iload (q_cod qk34 rfl) (by decide) rfl ?_
        obtain ⟨g11, hf⟩ := m_aK_some hf
        refine em_call (v := (fun u => some (.int u))) (q_cod qk34 rfl) rfl rfl (q_cokV rfl rfl (Or.inr g11)) rfl (fun x e => f14_cl e) hf (fun v12 h hf => ?_)
        refine em_ic_eq (q_cod qk34 rfl) (by decide) hf (fun c28 hf => ?_) (fun c28 hf => ?_)
        · refine ev_iload (q_cod qk34 rfl) (by decide) rfl ?_
          refine em_if_eq (q_cod qk34 rfl) (by decide) hf (fun c27 hf => ?_) (fun c27 hf => ?_)
          · refine ev_aload (q_cod qk34 rfl) (by decide) rfl ?_
            refine em_gR (q_cod qk34 rfl) (by decide) (by decide) hf (fun r13 hf => ?_)
            refine ev_iload (q_cod qk34 rfl) (by decide) rfl ?_
            refine em_lI (q_cod qk34 rfl) (by decide) hf (fun v14 hf => ?_)
            refine ev_aload (q_cod qk34 rfl) (by decide) rfl ?_
            refine em_gR (q_cod qk34 rfl) (by decide) (by decide) hf (fun r15 hf => ?_)
            refine ev_iload (q_cod qk34 rfl) (by decide) rfl ?_
            refine em_lI (q_cod qk34 rfl) (by decide) hf (fun v16 hf => ?_)
            refine em_ic_ne (q_cod qk34 rfl) (by decide) hf (fun c17 hf => ?_) (fun c17 hf => ?_)
            · refine ev_ic (v := 1) (q_cod qk34 rfl) (by decide) (by decide) ?_
              refine ev_goto (q_cod qk34 rfl) (by decide) ?_
              exact ev_weak (q_pk [0, 1, 2, 3, 4, 5, 6, 7, 8] rfl) (f34_210_ok hf hK)
            · refine ev_ic (v := 0) (q_cod qk34 rfl) (by decide) (by decide) ?_
              exact ev_weak (q_pk [0, 1, 2, 3, 4, 5, 6, 7, 8] rfl) (f34_210_ok hf hK)
          · refine ev_aload_n (q_cod qk34 rfl) (by decide) rfl ?_
            refine em_gR (q_cod qk34 rfl) (by decide) (by decide) hf (fun r18 hf => ?_)
            refine ev_aload (q_cod qk34 rfl) (by decide) rfl ?_
            refine em_gR (q_cod qk34 rfl) (by decide) (by decide) hf (fun r19 hf => ?_)
            refine ev_iload (q_cod qk34 rfl) (by decide) rfl ?_
            refine em_lI (q_cod qk34 rfl) (by decide) hf (fun v20 hf => ?_)
            obtain ⟨g21, hf⟩ := m_aK_some hf
            refine em_call (v := (fun u => some (.int u))) (q_cod qk34 rfl) rfl rfl (q_cokV rfl rfl (Or.inr g21)) rfl (fun x e => f40_cl e) hf (fun v22 h hf => ?_)
            refine ev_aload_n (q_cod qk34 rfl) (by decide) rfl ?_
            refine em_gR (q_cod qk34 rfl) (by decide) (by decide) hf (fun r23 hf => ?_)
            refine ev_aload_n (q_cod qk34 rfl) (by decide) rfl ?_
            refine ev_iload (q_cod qk34 rfl) (by decide) rfl ?_
            refine ev_iload (q_cod qk34 rfl) (by decide) rfl ?_
            obtain ⟨g24, hf⟩ := m_aK_some hf
            refine em_call (v := (fun u => some (.int u))) (q_cod qk34 rfl) rfl rfl (q_cokV rfl rfl (Or.inr g24)) rfl (fun x e => f41_cl e) hf (fun v25 h hf => ?_)
            refine em_ic_ne (q_cod qk34 rfl) (by decide) hf (fun c26 hf => ?_) (fun c26 hf => ?_)
            · refine ev_ic (v := 1) (q_cod qk34 rfl) (by decide) (by decide) ?_
              refine ev_goto (q_cod qk34 rfl) (by decide) ?_
              exact ev_weak (q_pk [0, 1, 2, 3, 4, 5, 6, 7, 8] rfl) (f34_210_ok hf hK)
            · refine ev_ic (v := 0) (q_cod qk34 rfl) (by decide) (by decide) ?_
              refine ev_goto (q_cod qk34 rfl) (by decide) ?_
              exact ev_weak (q_pk [0, 1, 2, 3, 4, 5, 6, 7, 8] rfl) (f34_210_ok hf hK)
        · obtain ⟨y0, hf0, hx⟩ := m_inr_some hf
          subst hx
          exact ev_weak (q_pk [] rfl) (f34_141_ok hf0 hK)
      · obtain ⟨y0, hf0, hx⟩ := m_inr_some hf
        subst hx
        exact ev_weak (q_pk [] rfl) (f34_115_ok hf0 hK)
    · obtain ⟨y0, hf0, hx⟩ := m_inr_some hf
      subst hx
      exact ev_weak (q_pk [] rfl) (f34_115_ok hf0 hK)
  · obtain ⟨y0, hf0, hx⟩ := m_inr_some hf
    subst hx
    exact ev_weak (q_pk [0] rfl) (f34_225_ok hf0 hK)
def f34_57 (l0 : Nat) (l1 : Nat) (l3 : Int32) (l4 : Int32) (l5 : Int32) (l6 : Nat) (l7 : Nat) (l8 : Int32) (l9 : Int32) : m_M Int32 := m_W (fun s => f34_57b (s.1) (s.2.1) (s.2.2.1) (s.2.2.2.1) (s.2.2.2.2.1) (s.2.2.2.2.2.1) (s.2.2.2.2.2.2.1) (s.2.2.2.2.2.2.2.1) (s.2.2.2.2.2.2.2.2)) 1000000 (l0, l1, l3, l4, l5, l6, l7, l8, l9)
theorem f34_57_ok {l0 : Nat} {l1 : Nat} {l3 : Int32} {l4 : Int32} {l5 : Int32} {l6 : Nat} {l7 : Nat} {l8 : Int32} {l9 : Int32} {h : q_H} {o : q_O} {hz : q_H} {x : Int32 × q_H} (hf : f34_57 l0 l1 l3 l4 l5 l6 l7 l8 l9 h = some x) (hK : (q_KI o hz) x) : q_Ev none 34 57 [(0, .ref l0), (1, .ref l1), (3, .int l3), (4, .int l4), (5, .int l5), (6, .ref l6), (7, .ref l7), (8, .int l8), (9, .int l9)] [] h o hz :=
  m_W_ok (P := (fun (s : Nat × Nat × Int32 × Int32 × Int32 × Nat × Nat × Int32 × Int32) (h : q_H) => q_Ev none 34 57 [(0, .ref (s.1)), (1, .ref (s.2.1)), (3, .int (s.2.2.1)), (4, .int (s.2.2.2.1)), (5, .int (s.2.2.2.2.1)), (6, .ref (s.2.2.2.2.2.1)), (7, .ref (s.2.2.2.2.2.2.1)), (8, .int (s.2.2.2.2.2.2.2.1)), (9, .int (s.2.2.2.2.2.2.2.2))] [] h o hz)) (K := (q_KI o hz)) (fun s h x h1 h2 => f34_57b_ok h1 h2) _ (l0, l1, l3, l4, l5, l6, l7, l8, l9) _ _ hf hK
def f34 (l0 : Nat) (l1 : Nat) (l2 : Int32) (l3 : Int32) (l4 : Int32) (l5 : Int32) : m_M Int32 :=
  m_B (m_gR 7 l1 9) (fun r1 => m_B (m_lR r1 l2) (fun r2 => m_B (m_gR 7 l1 9) (fun r3 => m_B (m_lR r3 l4) (fun r4 => m_B (m_gR 0 r2 3) (fun r5 => m_B (m_lI r5 l3) (fun v6 => m_B (m_gR 2 l0 2) (fun r7 => m_B (m_pI 4 r7 3 0) (fun _ => m_B (m_gR 0 r4 3) (fun r8 => m_B (m_lI r8 l5) (fun v9 => if (v9 - l5) = (v6 - l3) then (f34_57 l0 l1 l3 l4 l5 r2 r4 (v6 - l3) 0) else (m_R 0)))))))))))
theorem f34_ok {l0 : Nat} {l1 : Nat} {l2 : Int32} {l3 : Int32} {l4 : Int32} {l5 : Int32} {h : q_H} {o : q_O} {hz : q_H} {x : Int32 × q_H} (hf : f34 l0 l1 l2 l3 l4 l5 h = some x) (hK : (q_KI o hz) x) : q_Ev none 34 0 [(0, .ref l0), (1, .ref l1), (2, .int l2), (3, .int l3), (4, .int l4), (5, .int l5)] [] h o hz := by
  unfold f34 at hf
  refine ev_aload_n (q_cod qk34 rfl) (by decide) rfl ?_
  refine em_gR (q_cod qk34 rfl) (by decide) (by decide) hf (fun r1 hf => ?_)
  refine ev_iload_n (q_cod qk34 rfl) (by decide) rfl ?_
  refine em_lR (q_cod qk34 rfl) (by decide) hf (fun r2 hf => ?_)
  refine ev_as2 (L' := [(0, .ref l0), (1, .ref l1), (2, .int l2), (3, .int l3), (4, .int l4), (5, .int l5), (6, .ref r2)]) (q_cod qk34 rfl) (by decide) rfl ?_
  refine ev_aload_n (q_cod qk34 rfl) (by decide) rfl ?_
  refine em_gR (q_cod qk34 rfl) (by decide) (by decide) hf (fun r3 hf => ?_)
  refine ev_iload (q_cod qk34 rfl) (by decide) rfl ?_
  refine em_lR (q_cod qk34 rfl) (by decide) hf (fun r4 hf => ?_)
  refine ev_as2 (L' := [(0, .ref l0), (1, .ref l1), (2, .int l2), (3, .int l3), (4, .int l4), (5, .int l5), (6, .ref r2), (7, .ref r4)]) (q_cod qk34 rfl) (by decide) rfl ?_
  refine ev_aload (q_cod qk34 rfl) (by decide) rfl ?_
  refine em_gR (q_cod qk34 rfl) (by decide) (by decide) hf (fun r5 hf => ?_)
  refine ev_iload_n (q_cod qk34 rfl) (by decide) rfl ?_
  refine em_lI (q_cod qk34 rfl) (by decide) hf (fun v6 hf => ?_)
  refine ev_iload_n (q_cod qk34 rfl) (by decide) rfl ?_
  refine ev_isub (q_cod qk34 rfl) (by decide) ?_
  refine ev_is2 (L' := [(0, .ref l0), (1, .ref l1), (2, .int l2), (3, .int l3), (4, .int l4), (5, .int l5), (6, .ref r2), (7, .ref r4), (8, .int (v6 - l3))]) (q_cod qk34 rfl) (by decide) rfl ?_
  refine ev_aload_n (q_cod qk34 rfl) (by decide) rfl ?_
  refine em_gR (q_cod qk34 rfl) (by decide) (by decide) hf (fun r7 hf => ?_)
  refine ev_ic (v := 0) (q_cod qk34 rfl) (by decide) (by decide) ?_
  refine em_pI (q_cod qk34 rfl) (by decide) (by decide) (by decide) hf (fun hf => ?_)
  refine ev_aload (q_cod qk34 rfl) (by decide) rfl ?_
  refine em_gR (q_cod qk34 rfl) (by decide) (by decide) hf (fun r8 hf => ?_)
  refine ev_iload (q_cod qk34 rfl) (by decide) rfl ?_
  refine em_lI (q_cod qk34 rfl) (by decide) hf (fun v9 hf => ?_)
  refine ev_iload (q_cod qk34 rfl) (by decide) rfl ?_
  refine ev_isub (q_cod qk34 rfl) (by decide) ?_
  refine ev_iload (q_cod qk34 rfl) (by decide) rfl ?_
  refine em_ic_eq (q_cod qk34 rfl) (by decide) hf (fun c10 hf => ?_) (fun c10 hf => ?_)
  · refine ev_ic (v := 0) (q_cod qk34 rfl) (by decide) (by decide) ?_
    refine ev_is2 (L' := [(0, .ref l0), (1, .ref l1), (2, .int l2), (3, .int l3), (4, .int l4), (5, .int l5), (6, .ref r2), (7, .ref r4), (8, .int (v6 - l3)), (9, .int 0)]) (q_cod qk34 rfl) (by decide) rfl ?_
    exact ev_weak (q_pk [0, 1, 3, 4, 5, 6, 7, 8, 9] rfl) (f34_57_ok hf hK)
  · refine ev_ic (v := 0) (q_cod qk34 rfl) (by decide) (by decide) ?_
    obtain rfl := m_R_inv hf
    obtain ⟨rfl, rfl⟩ := (show q_KI o hz (0, _) from hK)
    exact ev_ret (q_cod qk34 rfl) rfl
theorem f34_cl {l0 : Nat} {l1 : Nat} {l2 : Int32} {l3 : Int32} {l4 : Int32} {l5 : Int32} {h : q_H} {x : Int32 × q_H} (hf : f34 l0 l1 l2 l3 l4 l5 h = some x) : q_Cl 34 [.ref l0, .ref l1, .int l2, .int l3, .int l4, .int l5] h (.inl (some (.int x.1))) x.2 := q_Cl.of rfl (q_LvS rfl rfl) (f34_ok hf ⟨rfl, rfl⟩)
/-! SmithyBench$Extractor.replaceLikes(LSmithyBench$Program;IIII)I -/
theorem qk33 : q_cs.getD 33 [] = qc_33 := rfl
def f33_156 (l0 : Nat) (l1 : Nat) (l2 : Int32) (l3 : Int32) (l4 : Int32) (l5 : Int32) (l6 : Nat) (l7 : Int32) (l8 : Int32) (l9 : Int32) : m_M ((Nat × Nat × Int32 × Int32 × Int32 × Int32 × Nat × Int32 × Int32 × Int32) ⊕ Int32) :=
  m_R (.inl (l0, l1, l2, l3, l4, l5, l6, l7, l8, (l9 + 1)))
theorem f33_156_ok {l0 : Nat} {l1 : Nat} {l2 : Int32} {l3 : Int32} {l4 : Int32} {l5 : Int32} {l6 : Nat} {l7 : Int32} {l8 : Int32} {l9 : Int32} {h : q_H} {o : q_O} {hz : q_H} {x : ((Nat × Nat × Int32 × Int32 × Int32 × Int32 × Nat × Int32 × Int32 × Int32) ⊕ Int32) × q_H} (hf : f33_156 l0 l1 l2 l3 l4 l5 l6 l7 l8 l9 h = some x) (hK : (m_yK (fun (s : Nat × Nat × Int32 × Int32 × Int32 × Int32 × Nat × Int32 × Int32 × Int32) (h : q_H) => q_Ev none 33 25 [(0, .ref (s.1)), (1, .ref (s.2.1)), (2, .int (s.2.2.1)), (3, .int (s.2.2.2.1)), (4, .int (s.2.2.2.2.1)), (5, .int (s.2.2.2.2.2.1)), (6, .ref (s.2.2.2.2.2.2.1)), (7, .int (s.2.2.2.2.2.2.2.1)), (8, .int (s.2.2.2.2.2.2.2.2.1)), (9, .int (s.2.2.2.2.2.2.2.2.2))] [] h o hz) (q_KI o hz)) x) : q_Ev none 33 156 [(0, .ref l0), (1, .ref l1), (2, .int l2), (3, .int l3), (4, .int l4), (5, .int l5), (6, .ref l6), (7, .int l7), (8, .int l8), (9, .int l9)] [] h o hz := by
  unfold f33_156 at hf
  refine ev_inc (v := l9 + 1) (L' := [(0, .ref l0), (1, .ref l1), (2, .int l2), (3, .int l3), (4, .int l4), (5, .int l5), (6, .ref l6), (7, .int l7), (8, .int l8), (9, .int (l9 + 1))]) (q_cod qk33 rfl) (by decide) rfl rfl rfl ?_
  refine ev_goto (q_cod qk33 rfl) (by decide) ?_
  obtain rfl := m_R_inv hf
  exact (show q_Ev none 33 25 [(0, .ref l0), (1, .ref l1), (2, .int l2), (3, .int l3), (4, .int l4), (5, .int l5), (6, .ref l6), (7, .int l7), (8, .int l8), (9, .int (l9 + 1))] [] _ o hz from hK)
def f33_143 (l0 : Nat) (l1 : Nat) (l2 : Int32) (l3 : Int32) (l4 : Int32) (l5 : Int32) (l6 : Nat) (l7 : Int32) (l9 : Int32) : m_M ((Nat × Nat × Int32 × Int32 × Int32 × Int32 × Nat × Int32 × Int32 × Int32) ⊕ Int32) :=
  m_B (m_gR 0 l6 3) (fun r1 => m_B (m_lI r1 l9) (fun v2 => f33_156 l0 l1 l2 l3 l4 l5 l6 (l7 + 1) v2 l9))
theorem f33_143_ok {l0 : Nat} {l1 : Nat} {l2 : Int32} {l3 : Int32} {l4 : Int32} {l5 : Int32} {l6 : Nat} {l7 : Int32} {l9 : Int32} {h : q_H} {o : q_O} {hz : q_H} {x : ((Nat × Nat × Int32 × Int32 × Int32 × Int32 × Nat × Int32 × Int32 × Int32) ⊕ Int32) × q_H} (hf : f33_143 l0 l1 l2 l3 l4 l5 l6 l7 l9 h = some x) (hK : (m_yK (fun (s : Nat × Nat × Int32 × Int32 × Int32 × Int32 × Nat × Int32 × Int32 × Int32) (h : q_H) => q_Ev none 33 25 [(0, .ref (s.1)), (1, .ref (s.2.1)), (2, .int (s.2.2.1)), (3, .int (s.2.2.2.1)), (4, .int (s.2.2.2.2.1)), (5, .int (s.2.2.2.2.2.1)), (6, .ref (s.2.2.2.2.2.2.1)), (7, .int (s.2.2.2.2.2.2.2.1)), (8, .int (s.2.2.2.2.2.2.2.2.1)), (9, .int (s.2.2.2.2.2.2.2.2.2))] [] h o hz) (q_KI o hz)) x) : q_Ev none 33 143 [(0, .ref l0), (1, .ref l1), (2, .int l2), (3, .int l3), (4, .int l4), (5, .int l5), (6, .ref l6), (7, .int l7), (9, .int l9)] [] h o hz := by
  unfold f33_143 at hf
  refine ev_aload (q_cod qk33 rfl) (by decide) rfl ?_
  refine em_gR (q_cod qk33 rfl) (by decide) (by decide) hf (fun r1 hf => ?_)
  refine ev_iload (q_cod qk33 rfl) (by decide) rfl ?_
  refine em_lI (q_cod qk33 rfl) (by decide) hf (fun v2 hf => ?_)
  refine ev_is2 (L' := [(0, .ref l0), (1, .ref l1), (2, .int l2), (3, .int l3), (4, .int l4), (5, .int l5), (6, .ref l6), (7, .int l7), (8, .int v2), (9, .int l9)]) (q_cod qk33 rfl) (by decide) rfl ?_
  refine ev_inc (v := l7 + 1) (L' := [(0, .ref l0), (1, .ref l1), (2, .int l2), (3, .int l3), (4, .int l4), (5, .int l5), (6, .ref l6), (7, .int (l7 + 1)), (8, .int v2), (9, .int l9)]) (q_cod qk33 rfl) (by decide) rfl rfl rfl ?_
  exact (f33_156_ok hf hK)
def f33_106b (l0 : Nat) (l1 : Nat) (l2 : Int32) (l3 : Int32) (l4 : Int32) (l5 : Int32) (l6 : Nat) (l7 : Int32) (l9 : Int32) (l10 : Int32) : m_M ((Nat × Nat × Int32 × Int32 × Int32 × Int32 × Nat × Int32 × Int32 × Int32) ⊕ ((Nat × Nat × Int32 × Int32 × Int32 × Int32 × Nat × Int32 × Int32 × Int32) ⊕ Int32)) :=
  m_B (m_gR 2 l0 2) (fun r1 => m_B (m_gI 4 r1 3) (fun v2 => if l10 < v2 then (m_B (m_gR 2 l0 0) (fun r3 => m_B (m_gR 2 l0 2) (fun r4 => m_B (m_gR 4 r4 1) (fun r5 => m_B (m_lI r5 l10) (fun v6 => m_B (m_aK r3 0) (fun _ => m_B (f2 r3 1 v6 0) (fun _ => m_R (.inl (l0, l1, l2, l3, l4, l5, l6, l7, l9, (l10 + 1)))))))))) else (m_B (f33_143 l0 l1 l2 l3 l4 l5 l6 l7 l9) (fun r => m_R (.inr r)))))
theorem f33_106b_ok {l0 : Nat} {l1 : Nat} {l2 : Int32} {l3 : Int32} {l4 : Int32} {l5 : Int32} {l6 : Nat} {l7 : Int32} {l9 : Int32} {l10 : Int32} {h : q_H} {o : q_O} {hz : q_H} {x : ((Nat × Nat × Int32 × Int32 × Int32 × Int32 × Nat × Int32 × Int32 × Int32) ⊕ ((Nat × Nat × Int32 × Int32 × Int32 × Int32 × Nat × Int32 × Int32 × Int32) ⊕ Int32)) × q_H} (hf : f33_106b l0 l1 l2 l3 l4 l5 l6 l7 l9 l10 h = some x) (hK : (m_yK (fun (s : Nat × Nat × Int32 × Int32 × Int32 × Int32 × Nat × Int32 × Int32 × Int32) (h : q_H) => q_Ev none 33 106 [(0, .ref (s.1)), (1, .ref (s.2.1)), (2, .int (s.2.2.1)), (3, .int (s.2.2.2.1)), (4, .int (s.2.2.2.2.1)), (5, .int (s.2.2.2.2.2.1)), (6, .ref (s.2.2.2.2.2.2.1)), (7, .int (s.2.2.2.2.2.2.2.1)), (9, .int (s.2.2.2.2.2.2.2.2.1)), (10, .int (s.2.2.2.2.2.2.2.2.2))] [] h o hz) (m_yK (fun (s : Nat × Nat × Int32 × Int32 × Int32 × Int32 × Nat × Int32 × Int32 × Int32) (h : q_H) => q_Ev none 33 25 [(0, .ref (s.1)), (1, .ref (s.2.1)), (2, .int (s.2.2.1)), (3, .int (s.2.2.2.1)), (4, .int (s.2.2.2.2.1)), (5, .int (s.2.2.2.2.2.1)), (6, .ref (s.2.2.2.2.2.2.1)), (7, .int (s.2.2.2.2.2.2.2.1)), (8, .int (s.2.2.2.2.2.2.2.2.1)), (9, .int (s.2.2.2.2.2.2.2.2.2))] [] h o hz) (q_KI o hz))) x) : q_Ev none 33 106 [(0, .ref l0), (1, .ref l1), (2, .int l2), (3, .int l3), (4, .int l4), (5, .int l5), (6, .ref l6), (7, .int l7), (9, .int l9), (10, .int l10)] [] h o hz := by
  unfold f33_106b at hf
  refine ev_iload (q_cod qk33 rfl) (by decide) rfl ?_
  refine ev_aload_n (q_cod qk33 rfl) (by decide) rfl ?_
  refine em_gR (q_cod qk33 rfl) (by decide) (by decide) hf (fun r1 hf => ?_)
  refine em_gI (q_cod qk33 rfl) (by decide) (by decide) hf (fun v2 hf => ?_)
  refine em_ic_ge (q_cod qk33 rfl) (by decide) hf (fun c9 hf => ?_) (fun c9 hf => ?_)
  · refine ev_aload_n (q_cod qk33 rfl) (by decide) rfl ?_
    refine em_gR (q_cod qk33 rfl) (by decide) (by decide) hf (fun r3 hf => ?_)
    refine ev_ic (v := 1) (q_cod qk33 rfl) (by decide) (by decide) ?_
    refine ev_aload_n (q_cod qk33 rfl) (by decide) rfl ?_
    refine em_gR (q_cod qk33 rfl) (by decide) (by decide) hf (fun r4 hf => ?_)
    refine em_gR (q_cod qk33 rfl) (by decide) (by decide) hf (fun r5 hf => ?_)
    refine ev_iload (q_cod qk33 rfl) (by decide) rfl ?_
    refine em_lI (q_cod qk33 rfl) (by decide) hf (fun v6 hf => ?_)
    refine ev_ic (v := 0) (q_cod qk33 rfl) (by decide) (by decide) ?_
    obtain ⟨g7, hf⟩ := m_aK_some hf
    refine em_call (v := (fun _ => none)) (q_cod qk33 rfl) rfl rfl (q_cokV rfl rfl (Or.inr g7)) rfl (fun x e => f2_cl e) hf (fun _ h hf => ?_)
    refine ev_inc (v := l10 + 1) (L' := [(0, .ref l0), (1, .ref l1), (2, .int l2), (3, .int l3), (4, .int l4), (5, .int l5), (6, .ref l6), (7, .int l7), (9, .int l9), (10, .int (l10 + 1))]) (q_cod qk33 rfl) (by decide) rfl rfl rfl ?_
    refine ev_goto (q_cod qk33 rfl) (by decide) ?_
    obtain rfl := m_R_inv hf
    exact (show q_Ev none 33 106 [(0, .ref l0), (1, .ref l1), (2, .int l2), (3, .int l3), (4, .int l4), (5, .int l5), (6, .ref l6), (7, .int l7), (9, .int l9), (10, .int (l10 + 1))] [] _ o hz from hK)
  · obtain ⟨y0, hf0, hx⟩ := m_inr_some hf
    subst hx
    exact ev_weak (q_pk [0, 1, 2, 3, 4, 5, 6, 7, 8] rfl) (f33_143_ok hf0 hK)
def f33_106 (l0 : Nat) (l1 : Nat) (l2 : Int32) (l3 : Int32) (l4 : Int32) (l5 : Int32) (l6 : Nat) (l7 : Int32) (l9 : Int32) (l10 : Int32) : m_M ((Nat × Nat × Int32 × Int32 × Int32 × Int32 × Nat × Int32 × Int32 × Int32) ⊕ Int32) := m_W (fun s => f33_106b (s.1) (s.2.1) (s.2.2.1) (s.2.2.2.1) (s.2.2.2.2.1) (s.2.2.2.2.2.1) (s.2.2.2.2.2.2.1) (s.2.2.2.2.2.2.2.1) (s.2.2.2.2.2.2.2.2.1) (s.2.2.2.2.2.2.2.2.2)) 1000000 (l0, l1, l2, l3, l4, l5, l6, l7, l9, l10)
theorem f33_106_ok {l0 : Nat} {l1 : Nat} {l2 : Int32} {l3 : Int32} {l4 : Int32} {l5 : Int32} {l6 : Nat} {l7 : Int32} {l9 : Int32} {l10 : Int32} {h : q_H} {o : q_O} {hz : q_H} {x : ((Nat × Nat × Int32 × Int32 × Int32 × Int32 × Nat × Int32 × Int32 × Int32) ⊕ Int32) × q_H} (hf : f33_106 l0 l1 l2 l3 l4 l5 l6 l7 l9 l10 h = some x) (hK : (m_yK (fun (s : Nat × Nat × Int32 × Int32 × Int32 × Int32 × Nat × Int32 × Int32 × Int32) (h : q_H) => q_Ev none 33 25 [(0, .ref (s.1)), (1, .ref (s.2.1)), (2, .int (s.2.2.1)), (3, .int (s.2.2.2.1)), (4, .int (s.2.2.2.2.1)), (5, .int (s.2.2.2.2.2.1)), (6, .ref (s.2.2.2.2.2.2.1)), (7, .int (s.2.2.2.2.2.2.2.1)), (8, .int (s.2.2.2.2.2.2.2.2.1)), (9, .int (s.2.2.2.2.2.2.2.2.2))] [] h o hz) (q_KI o hz)) x) : q_Ev none 33 106 [(0, .ref l0), (1, .ref l1), (2, .int l2), (3, .int l3), (4, .int l4), (5, .int l5), (6, .ref l6), (7, .int l7), (9, .int l9), (10, .int l10)] [] h o hz :=
  m_W_ok (P := (fun (s : Nat × Nat × Int32 × Int32 × Int32 × Int32 × Nat × Int32 × Int32 × Int32) (h : q_H) => q_Ev none 33 106 [(0, .ref (s.1)), (1, .ref (s.2.1)), (2, .int (s.2.2.1)), (3, .int (s.2.2.2.1)), (4, .int (s.2.2.2.2.1)), (5, .int (s.2.2.2.2.2.1)), (6, .ref (s.2.2.2.2.2.2.1)), (7, .int (s.2.2.2.2.2.2.2.1)), (9, .int (s.2.2.2.2.2.2.2.2.1)), (10, .int (s.2.2.2.2.2.2.2.2.2))] [] h o hz)) (K := (m_yK (fun (s : Nat × Nat × Int32 × Int32 × Int32 × Int32 × Nat × Int32 × Int32 × Int32) (h : q_H) => q_Ev none 33 25 [(0, .ref (s.1)), (1, .ref (s.2.1)), (2, .int (s.2.2.1)), (3, .int (s.2.2.2.1)), (4, .int (s.2.2.2.2.1)), (5, .int (s.2.2.2.2.2.1)), (6, .ref (s.2.2.2.2.2.2.1)), (7, .int (s.2.2.2.2.2.2.2.1)), (8, .int (s.2.2.2.2.2.2.2.2.1)), (9, .int (s.2.2.2.2.2.2.2.2.2))] [] h o hz) (q_KI o hz))) (fun s h x h1 h2 => f33_106b_ok h1 h2) _ (l0, l1, l2, l3, l4, l5, l6, l7, l9, l10) _ _ hf hK
def f33_162 (l7 : Int32) : m_M Int32 :=
  m_R l7
theorem f33_162_ok {l7 : Int32} {h : q_H} {o : q_O} {hz : q_H} {x : Int32 × q_H} (hf : f33_162 l7 h = some x) (hK : (q_KI o hz) x) : q_Ev none 33 162 [(7, .int l7)] [] h o hz := by
  unfold f33_162 at hf
  refine ev_iload (q_cod qk33 rfl) (by decide) rfl ?_
  obtain rfl := m_R_inv hf
  obtain ⟨rfl, rfl⟩ := (show q_KI o hz (l7, _) from hK)
  exact ev_ret (q_cod qk33 rfl) rfl
def f33_25b (l0 : Nat) (l1 : Nat) (l2 : Int32) (l3 : Int32) (l4 : Int32) (l5 : Int32) (l6 : Nat) (l7 : Int32) (l8 : Int32) (l9 : Int32) : m_M ((Nat × Nat × Int32 × Int32 × Int32 × Int32 × Nat × Int32 × Int32 × Int32) ⊕ Int32) :=
  m_B (m_gI 0 l6 7) (fun v1 => if l9 < v1 then (if l9 < l8 then (f33_156 l0 l1 l2 l3 l4 l5 l6 l7 l8 l9) else (m_B (m_aK l0 2) (fun _ => m_B (f34 l0 l1 l2 l3 l4 l9) (fun v3 => if v3 = 0 then (m_B (m_gR 2 l0 0) (fun r4 => m_B (m_aK r4 0) (fun _ => m_B (f3 r4 l6 l9) (fun _ => f33_156 l0 l1 l2 l3 l4 l5 l6 l7 l8 l9)))) else (m_B (m_gR 2 l0 0) (fun r7 => m_B (m_gR 2 l0 2) (fun r8 => m_B (m_gI 4 r8 3) (fun v9 => m_B (m_aK r7 0) (fun _ => m_B (f2 r7 7 l5 (1 + v9)) (fun _ => m_B (m_gR 2 l0 0) (fun r12 => m_B (m_aK r12 0) (fun _ => m_B (f2 r12 2 0 0) (fun _ => f33_106 l0 l1 l2 l3 l4 l5 l6 l7 l9 0))))))))))))) else (m_B (f33_162 l7) (fun r => m_R (.inr r))))
theorem f33_25b_ok {l0 : Nat} {l1 : Nat} {l2 : Int32} {l3 : Int32} {l4 : Int32} {l5 : Int32} {l6 : Nat} {l7 : Int32} {l8 : Int32} {l9 : Int32} {h : q_H} {o : q_O} {hz : q_H} {x : ((Nat × Nat × Int32 × Int32 × Int32 × Int32 × Nat × Int32 × Int32 × Int32) ⊕ Int32) × q_H} (hf : f33_25b l0 l1 l2 l3 l4 l5 l6 l7 l8 l9 h = some x) (hK : (m_yK (fun (s : Nat × Nat × Int32 × Int32 × Int32 × Int32 × Nat × Int32 × Int32 × Int32) (h : q_H) => q_Ev none 33 25 [(0, .ref (s.1)), (1, .ref (s.2.1)), (2, .int (s.2.2.1)), (3, .int (s.2.2.2.1)), (4, .int (s.2.2.2.2.1)), (5, .int (s.2.2.2.2.2.1)), (6, .ref (s.2.2.2.2.2.2.1)), (7, .int (s.2.2.2.2.2.2.2.1)), (8, .int (s.2.2.2.2.2.2.2.2.1)), (9, .int (s.2.2.2.2.2.2.2.2.2))] [] h o hz) (q_KI o hz)) x) : q_Ev none 33 25 [(0, .ref l0), (1, .ref l1), (2, .int l2), (3, .int l3), (4, .int l4), (5, .int l5), (6, .ref l6), (7, .int l7), (8, .int l8), (9, .int l9)] [] h o hz := by
  unfold f33_25b at hf
  refine ev_iload (q_cod qk33 rfl) (by decide) rfl ?_
  refine ev_aload (q_cod qk33 rfl) (by decide) rfl ?_
  refine em_gI (q_cod qk33 rfl) (by decide) (by decide) hf (fun v1 hf => ?_)
  refine em_ic_ge (q_cod qk33 rfl) (by decide) hf (fun c17 hf => ?_) (fun c17 hf => ?_)
  · refine ev_iload (q_cod qk33 rfl) (by decide) rfl ?_
    refine ev_iload (q_cod qk33 rfl) (by decide) rfl ?_
    refine em_ic_ge (q_cod qk33 rfl) (by decide) hf (fun c16 hf => ?_) (fun c16 hf => ?_)
    · refine ev_goto (q_cod qk33 rfl) (by decide) ?_
      exact (f33_156_ok hf hK)
    · refine ev_aload_n (q_cod qk33 rfl) (by decide) rfl ?_
      refine ev_aload_n (q_cod qk33 rfl) (by decide) rfl ?_
      refine ev_iload_n (q_cod qk33 rfl) (by decide) rfl ?_
      refine ev_iload_n (q_cod qk33 rfl) (by decide) rfl ?_
      refine ev_iload (q_cod qk33 rfl) (by decide) rfl ?_
      refine ev_iload (q_cod qk33 rfl) (by decide) rfl ?_
      obtain ⟨g2, hf⟩ := m_aK_some hf
      refine em_call (v := (fun u => some (.int u))) (q_cod qk33 rfl) rfl rfl (q_cokV rfl rfl (Or.inr g2)) rfl (fun x e => f34_cl e) hf (fun v3 h hf => ?_)
      refine em_if_ne (q_cod qk33 rfl) (by decide) hf (fun c15 hf => ?_) (fun c15 hf => ?_)
      · refine ev_aload_n (q_cod qk33 rfl) (by decide) rfl ?_
        refine em_gR (q_cod qk33 rfl) (by decide) (by decide) hf (fun r4 hf => ?_)
        refine ev_aload (q_cod qk33 rfl) (by decide) rfl ?_
        refine ev_iload (q_cod qk33 rfl) (by decide) rfl ?_
        obtain ⟨g5, hf⟩ := m_aK_some hf
        refine em_call (v := (fun _ => none)) (q_cod qk33 rfl) rfl rfl (q_cokV rfl rfl (Or.inr g5)) rfl (fun x e => f3_cl e) hf (fun _ h hf => ?_)
        refine ev_goto (q_cod qk33 rfl) (by decide) ?_
        exact (f33_156_ok hf hK)
      · refine ev_aload_n (q_cod qk33 rfl) (by decide) rfl ?_
        refine em_gR (q_cod qk33 rfl) (by decide) (by decide) hf (fun r7 hf => ?_)
        refine ev_bi (v := 7) (q_cod qk33 rfl) (by decide) (by decide) ?_
        refine ev_iload (q_cod qk33 rfl) (by decide) rfl ?_
        refine ev_ic (v := 1) (q_cod qk33 rfl) (by decide) (by decide) ?_
        refine ev_aload_n (q_cod qk33 rfl) (by decide) rfl ?_
        refine em_gR (q_cod qk33 rfl) (by decide) (by decide) hf (fun r8 hf => ?_)
        refine em_gI (q_cod qk33 rfl) (by decide) (by decide) hf (fun v9 hf => ?_)
        refine ev_iadd (q_cod qk33 rfl) (by decide) ?_
        obtain ⟨g10, hf⟩ := m_aK_some hf
        refine em_call (v := (fun _ => none)) (q_cod qk33 rfl) rfl rfl (q_cokV rfl rfl (Or.inr g10)) rfl (fun x e => f2_cl e) hf (fun _ h hf => ?_)
        refine ev_aload_n (q_cod qk33 rfl) (by decide) rfl ?_
        refine em_gR (q_cod qk33 rfl) (by decide) (by decide) hf (fun r12 hf => ?_)
        refine ev_ic (v := 2) (q_cod qk33 rfl) (by decide) (by decide) ?_
        refine ev_ic (v := 0) (q_cod qk33 rfl) (by decide) (by decide) ?_
        refine ev_ic (v := 0) (q_cod qk33 rfl) (by decide) (by decide) ?_
        obtain ⟨g13, hf⟩ := m_aK_some hf
        refine em_call (v := (fun _ => none)) (q_cod qk33 rfl) rfl rfl (q_cokV rfl rfl (Or.inr g13)) rfl (fun x e => f2_cl e) hf (fun _ h hf => ?_)
        refine ev_ic (v := 0) (q_cod qk33 rfl) (by decide) (by decide) ?_
        refine ev_is2 (L' := [(0, .ref l0), (1, .ref l1), (2, .int l2), (3, .int l3), (4, .int l4), (5, .int l5), (6, .ref l6), (7, .int l7), (8, .int l8), (9, .int l9), (10, .int 0)]) (q_cod qk33 rfl) (by decide) rfl ?_
        exact ev_weak (q_pk [0, 1, 2, 3, 4, 5, 6, 7, 9, 10] rfl) (f33_106_ok hf hK)
  · obtain ⟨y0, hf0, hx⟩ := m_inr_some hf
    subst hx
    exact ev_weak (q_pk [7] rfl) (f33_162_ok hf0 hK)
def f33_25 (l0 : Nat) (l1 : Nat) (l2 : Int32) (l3 : Int32) (l4 : Int32) (l5 : Int32) (l6 : Nat) (l7 : Int32) (l8 : Int32) (l9 : Int32) : m_M Int32 := m_W (fun s => f33_25b (s.1) (s.2.1) (s.2.2.1) (s.2.2.2.1) (s.2.2.2.2.1) (s.2.2.2.2.2.1) (s.2.2.2.2.2.2.1) (s.2.2.2.2.2.2.2.1) (s.2.2.2.2.2.2.2.2.1) (s.2.2.2.2.2.2.2.2.2)) 1000000 (l0, l1, l2, l3, l4, l5, l6, l7, l8, l9)
theorem f33_25_ok {l0 : Nat} {l1 : Nat} {l2 : Int32} {l3 : Int32} {l4 : Int32} {l5 : Int32} {l6 : Nat} {l7 : Int32} {l8 : Int32} {l9 : Int32} {h : q_H} {o : q_O} {hz : q_H} {x : Int32 × q_H} (hf : f33_25 l0 l1 l2 l3 l4 l5 l6 l7 l8 l9 h = some x) (hK : (q_KI o hz) x) : q_Ev none 33 25 [(0, .ref l0), (1, .ref l1), (2, .int l2), (3, .int l3), (4, .int l4), (5, .int l5), (6, .ref l6), (7, .int l7), (8, .int l8), (9, .int l9)] [] h o hz :=
  m_W_ok (P := (fun (s : Nat × Nat × Int32 × Int32 × Int32 × Int32 × Nat × Int32 × Int32 × Int32) (h : q_H) => q_Ev none 33 25 [(0, .ref (s.1)), (1, .ref (s.2.1)), (2, .int (s.2.2.1)), (3, .int (s.2.2.2.1)), (4, .int (s.2.2.2.2.1)), (5, .int (s.2.2.2.2.2.1)), (6, .ref (s.2.2.2.2.2.2.1)), (7, .int (s.2.2.2.2.2.2.2.1)), (8, .int (s.2.2.2.2.2.2.2.2.1)), (9, .int (s.2.2.2.2.2.2.2.2.2))] [] h o hz)) (K := (q_KI o hz)) (fun s h x h1 h2 => f33_25b_ok h1 h2) _ (l0, l1, l2, l3, l4, l5, l6, l7, l8, l9) _ _ hf hK
def f33 (l0 : Nat) (l1 : Nat) (l2 : Int32) (l3 : Int32) (l4 : Int32) (l5 : Int32) : m_M Int32 :=
  m_B (m_gR 7 l1 9) (fun r1 => m_B (m_lR r1 l4) (fun r2 => m_B (m_gR 2 l0 0) (fun r3 => m_B (m_aK r3 0) (fun _ => m_B (f1 r3) (fun _ => f33_25 l0 l1 l2 l3 l4 l5 r2 0 0 0)))))
theorem f33_ok {l0 : Nat} {l1 : Nat} {l2 : Int32} {l3 : Int32} {l4 : Int32} {l5 : Int32} {h : q_H} {o : q_O} {hz : q_H} {x : Int32 × q_H} (hf : f33 l0 l1 l2 l3 l4 l5 h = some x) (hK : (q_KI o hz) x) : q_Ev none 33 0 [(0, .ref l0), (1, .ref l1), (2, .int l2), (3, .int l3), (4, .int l4), (5, .int l5)] [] h o hz := by
  unfold f33 at hf
  refine ev_aload_n (q_cod qk33 rfl) (by decide) rfl ?_
  refine em_gR (q_cod qk33 rfl) (by decide) (by decide) hf (fun r1 hf => ?_)
  refine ev_iload (q_cod qk33 rfl) (by decide) rfl ?_
  refine em_lR (q_cod qk33 rfl) (by decide) hf (fun r2 hf => ?_)
  refine ev_as2 (L' := [(0, .ref l0), (1, .ref l1), (2, .int l2), (3, .int l3), (4, .int l4), (5, .int l5), (6, .ref r2)]) (q_cod qk33 rfl) (by decide) rfl ?_
  refine ev_ic (v := 0) (q_cod qk33 rfl) (by decide) (by decide) ?_
  refine ev_is2 (L' := [(0, .ref l0), (1, .ref l1), (2, .int l2), (3, .int l3), (4, .int l4), (5, .int l5), (6, .ref r2), (7, .int 0)]) (q_cod qk33 rfl) (by decide) rfl ?_
  refine ev_ic (v := 0) (q_cod qk33 rfl) (by decide) (by decide) ?_
  refine ev_is2 (L' := [(0, .ref l0), (1, .ref l1), (2, .int l2), (3, .int l3), (4, .int l4), (5, .int l5), (6, .ref r2), (7, .int 0), (8, .int 0)]) (q_cod qk33 rfl) (by decide) rfl ?_
  refine ev_aload_n (q_cod qk33 rfl) (by decide) rfl ?_
  refine em_gR (q_cod qk33 rfl) (by decide) (by decide) hf (fun r3 hf => ?_)
  obtain ⟨g4, hf⟩ := m_aK_some hf
  refine em_call (v := (fun _ => none)) (q_cod qk33 rfl) rfl rfl (q_cokV rfl rfl (Or.inr g4)) rfl (fun x e => f1_cl e) hf (fun _ h hf => ?_)
  refine ev_ic (v := 0) (q_cod qk33 rfl) (by decide) (by decide) ?_
  refine ev_is2 (L' := [(0, .ref l0), (1, .ref l1), (2, .int l2), (3, .int l3), (4, .int l4), (5, .int l5), (6, .ref r2), (7, .int 0), (8, .int 0), (9, .int 0)]) (q_cod qk33 rfl) (by decide) rfl ?_
  exact (f33_25_ok hf hK)
theorem f33_cl {l0 : Nat} {l1 : Nat} {l2 : Int32} {l3 : Int32} {l4 : Int32} {l5 : Int32} {h : q_H} {x : Int32 × q_H} (hf : f33 l0 l1 l2 l3 l4 l5 h = some x) : q_Cl 33 [.ref l0, .ref l1, .int l2, .int l3, .int l4, .int l5] h (.inl (some (.int x.1))) x.2 := q_Cl.of rfl (q_LvS rfl rfl) (f33_ok hf ⟨rfl, rfl⟩)
/-! SmithyBench$Extractor.takeOut(LSmithyBench$Program;LSmithyBench$Program;III)I -/
theorem qk31 : q_cs.getD 31 [] = qc_31 := rfl
def f31_258 (l0 : Nat) (l1 : Nat) (l2 : Nat) (l3 : Int32) (l4 : Int32) (l5 : Int32) (l7 : Int32) (l8 : Int32) (l9 : Int32) (l10 : Int32) (l11 : Int32) : m_M ((Nat × Nat × Nat × Int32 × Int32 × Int32 × Int32 × Int32 × Int32 × Int32 × Int32) ⊕ Int32) :=
  m_R (.inl (l0, l1, l2, l3, l4, l5, l7, l8, l9, l10, (l11 + 1)))
theorem f31_258_ok {l0 : Nat} {l1 : Nat} {l2 : Nat} {l3 : Int32} {l4 : Int32} {l5 : Int32} {l7 : Int32} {l8 : Int32} {l9 : Int32} {l10 : Int32} {l11 : Int32} {h : q_H} {o : q_O} {hz : q_H} {x : ((Nat × Nat × Nat × Int32 × Int32 × Int32 × Int32 × Int32 × Int32 × Int32 × Int32) ⊕ Int32) × q_H} (hf : f31_258 l0 l1 l2 l3 l4 l5 l7 l8 l9 l10 l11 h = some x) (hK : (m_yK (fun (s : Nat × Nat × Nat × Int32 × Int32 × Int32 × Int32 × Int32 × Int32 × Int32 × Int32) (h : q_H) => q_Ev none 31 188 [(0, .ref (s.1)), (1, .ref (s.2.1)), (2, .ref (s.2.2.1)), (3, .int (s.2.2.2.1)), (4, .int (s.2.2.2.2.1)), (5, .int (s.2.2.2.2.2.1)), (7, .int (s.2.2.2.2.2.2.1)), (8, .int (s.2.2.2.2.2.2.2.1)), (9, .int (s.2.2.2.2.2.2.2.2.1)), (10, .int (s.2.2.2.2.2.2.2.2.2.1)), (11, .int (s.2.2.2.2.2.2.2.2.2.2))] [] h o hz) (q_KI o hz)) x) : q_Ev none 31 258 [(0, .ref l0), (1, .ref l1), (2, .ref l2), (3, .int l3), (4, .int l4), (5, .int l5), (7, .int l7), (8, .int l8), (9, .int l9), (10, .int l10), (11, .int l11)] [] h o hz := by
  unfold f31_258 at hf
  refine ev_inc (v := l11 + 1) (L' := [(0, .ref l0), (1, .ref l1), (2, .ref l2), (3, .int l3), (4, .int l4), (5, .int l5), (7, .int l7), (8, .int l8), (9, .int l9), (10, .int l10), (11, .int (l11 + 1))]) (q_cod qk31 rfl) (by decide) rfl rfl rfl ?_
  refine ev_goto (q_cod qk31 rfl) (by decide) ?_
  obtain rfl := m_R_inv hf
  exact (show q_Ev none 31 188 [(0, .ref l0), (1, .ref l1), (2, .ref l2), (3, .int l3), (4, .int l4), (5, .int l5), (7, .int l7), (8, .int l8), (9, .int l9), (10, .int l10), (11, .int (l11 + 1))] [] _ o hz from hK)
def f31_282 (s0 : Int32) : m_M Int32 :=
  m_R s0
theorem f31_282_ok {s0 : Int32} {h : q_H} {o : q_O} {hz : q_H} {x : Int32 × q_H} (hf : f31_282 s0 h = some x) (hK : (q_KI o hz) x) : q_Ev none 31 282 [] [.int s0] h o hz := by
  unfold f31_282 at hf
  obtain rfl := m_R_inv hf
  obtain ⟨rfl, rfl⟩ := (show q_KI o hz (s0, _) from hK)
  exact ev_ret (q_cod qk31 rfl) rfl
def f31_264 (l8 : Int32) (l9 : Int32) (l10 : Int32) : m_M Int32 :=
  if l10 = 0 then (f31_282 ((100 * l8) + l9)) else (f31_282 (-6))
theorem f31_264_ok {l8 : Int32} {l9 : Int32} {l10 : Int32} {h : q_H} {o : q_O} {hz : q_H} {x : Int32 × q_H} (hf : f31_264 l8 l9 l10 h = some x) (hK : (q_KI o hz) x) : q_Ev none 31 264 [(8, .int l8), (9, .int l9), (10, .int l10)] [] h o hz := by
  unfold f31_264 at hf
  refine ev_iload (q_cod qk31 rfl) (by decide) rfl ?_
  refine em_if_eq (q_cod qk31 rfl) (by decide) hf (fun c1 hf => ?_) (fun c1 hf => ?_)
  · refine ev_bi (v := 100) (q_cod qk31 rfl) (by decide) (by decide) ?_
    refine ev_iload (q_cod qk31 rfl) (by decide) rfl ?_
    refine ev_imul (q_cod qk31 rfl) (by decide) ?_
    refine ev_iload (q_cod qk31 rfl) (by decide) rfl ?_
    refine ev_iadd (q_cod qk31 rfl) (by decide) ?_
    exact ev_weak (q_pk [] rfl) (f31_282_ok hf hK)
  · refine ev_bi (v := (-6)) (q_cod qk31 rfl) (by decide) (by decide) ?_
    refine ev_goto (q_cod qk31 rfl) (by decide) ?_
    exact ev_weak (q_pk [] rfl) (f31_282_ok hf hK)
def f31_188b (l0 : Nat) (l1 : Nat) (l2 : Nat) (l3 : Int32) (l4 : Int32) (l5 : Int32) (l7 : Int32) (l8 : Int32) (l9 : Int32) (l10 : Int32) (l11 : Int32) : m_M ((Nat × Nat × Nat × Int32 × Int32 × Int32 × Int32 × Int32 × Int32 × Int32 × Int32) ⊕ Int32) :=
  m_B (m_gI 7 l1 11) (fun v1 => if l11 < v1 then (m_B (m_aK l1 7) (fun _ => m_B (f79 l1 l11) (fun v3 => if v3 = 0 then (f31_258 l0 l1 l2 l3 l4 l5 l7 l8 l9 l10 l11) else (m_B (m_gR 7 l1 3) (fun r4 => m_B (m_lI r4 l11) (fun v5 => if v5 = l7 then (m_B (m_aK l0 2) (fun _ => m_B (f33 l0 l1 l3 l4 l11 l5) (fun v7 => m_B (m_gR 7 l2 9) (fun r8 => m_B (m_lR r8 l11) (fun r9 => m_B (m_gR 2 l0 0) (fun r10 => m_B (m_aK r9 0) (fun _ => m_B (f7 r9 r10) (fun v12 => if v12 = 0 then (f31_258 l0 l1 l2 l3 l4 l5 l7 l8 (l9 + v7) 1 l11) else (f31_258 l0 l1 l2 l3 l4 l5 l7 l8 (l9 + v7) l10 l11))))))))) else (f31_258 l0 l1 l2 l3 l4 l5 l7 l8 l9 l10 l11))))))) else (m_B (f31_264 l8 l9 l10) (fun r => m_R (.inr r))))
theorem f31_188b_ok {l0 : Nat} {l1 : Nat} {l2 : Nat} {l3 : Int32} {l4 : Int32} {l5 : Int32} {l7 : Int32} {l8 : Int32} {l9 : Int32} {l10 : Int32} {l11 : Int32} {h : q_H} {o : q_O} {hz : q_H} {x : ((Nat × Nat × Nat × Int32 × Int32 × Int32 × Int32 × Int32 × Int32 × Int32 × Int32) ⊕ Int32) × q_H} (hf : f31_188b l0 l1 l2 l3 l4 l5 l7 l8 l9 l10 l11 h = some x) (hK : (m_yK (fun (s : Nat × Nat × Nat × Int32 × Int32 × Int32 × Int32 × Int32 × Int32 × Int32 × Int32) (h : q_H) => q_Ev none 31 188 [(0, .ref (s.1)), (1, .ref (s.2.1)), (2, .ref (s.2.2.1)), (3, .int (s.2.2.2.1)), (4, .int (s.2.2.2.2.1)), (5, .int (s.2.2.2.2.2.1)), (7, .int (s.2.2.2.2.2.2.1)), (8, .int (s.2.2.2.2.2.2.2.1)), (9, .int (s.2.2.2.2.2.2.2.2.1)), (10, .int (s.2.2.2.2.2.2.2.2.2.1)), (11, .int (s.2.2.2.2.2.2.2.2.2.2))] [] h o hz) (q_KI o hz)) x) : q_Ev none 31 188 [(0, .ref l0), (1, .ref l1), (2, .ref l2), (3, .int l3), (4, .int l4), (5, .int l5), (7, .int l7), (8, .int l8), (9, .int l9), (10, .int l10), (11, .int l11)] [] h o hz := by
  unfold f31_188b at hf
  refine ev_iload (q_cod qk31 rfl) (by decide) rfl ?_
  refine ev_aload_n (q_cod qk31 rfl) (by decide) rfl ?_
  refine em_gI (q_cod qk31 rfl) (by decide) (by decide) hf (fun v1 hf => ?_)
  refine em_ic_ge (q_cod qk31 rfl) (by decide) hf (fun c16 hf => ?_) (fun c16 hf => ?_)
  · refine ev_aload_n (q_cod qk31 rfl) (by decide) rfl ?_
    refine ev_iload (q_cod qk31 rfl) (by decide) rfl ?_
    obtain ⟨g2, hf⟩ := m_aK_some hf
    refine em_call (v := (fun u => some (.int u))) (q_cod qk31 rfl) rfl rfl (q_cokV rfl rfl (Or.inr g2)) rfl (fun x e => f79_cl e) hf (fun v3 h hf => ?_)
    refine em_if_eq (q_cod qk31 rfl) (by decide) hf (fun c15 hf => ?_) (fun c15 hf => ?_)
    · exact (f31_258_ok hf hK)
    · refine ev_aload_n (q_cod qk31 rfl) (by decide) rfl ?_
      refine em_gR (q_cod qk31 rfl) (by decide) (by decide) hf (fun r4 hf => ?_)
      refine ev_iload (q_cod qk31 rfl) (by decide) rfl ?_
      refine em_lI (q_cod qk31 rfl) (by decide) hf (fun v5 hf => ?_)
      refine ev_iload (q_cod qk31 rfl) (by decide) rfl ?_
      refine em_ic_eq (q_cod qk31 rfl) (by decide) hf (fun c14 hf => ?_) (fun c14 hf => ?_)
      · refine ev_iload (q_cod qk31 rfl) (by decide) rfl ?_
        refine ev_aload_n (q_cod qk31 rfl) (by decide) rfl ?_
        refine ev_aload_n (q_cod qk31 rfl) (by decide) rfl ?_
        refine ev_iload_n (q_cod qk31 rfl) (by decide) rfl ?_
        refine ev_iload (q_cod qk31 rfl) (by decide) rfl ?_
        refine ev_iload (q_cod qk31 rfl) (by decide) rfl ?_
        refine ev_iload (q_cod qk31 rfl) (by decide) rfl ?_
        obtain ⟨g6, hf⟩ := m_aK_some hf
        refine em_call (v := (fun u => some (.int u))) (q_cod qk31 rfl) rfl rfl (q_cokV rfl rfl (Or.inr g6)) rfl (fun x e => f33_cl e) hf (fun v7 h hf => ?_)
        refine ev_iadd (q_cod qk31 rfl) (by decide) ?_
        refine ev_is2 (L' := [(0, .ref l0), (1, .ref l1), (2, .ref l2), (3, .int l3), (4, .int l4), (5, .int l5), (7, .int l7), (8, .int l8), (9, .int (l9 + v7)), (10, .int l10), (11, .int l11)]) (q_cod qk31 rfl) (by decide) rfl ?_
        refine ev_aload_n (q_cod qk31 rfl) (by decide) rfl ?_
        refine em_gR (q_cod qk31 rfl) (by decide) (by decide) hf (fun r8 hf => ?_)
        refine ev_iload (q_cod qk31 rfl) (by decide) rfl ?_
        refine em_lR (q_cod qk31 rfl) (by decide) hf (fun r9 hf => ?_)
        refine ev_aload_n (q_cod qk31 rfl) (by decide) rfl ?_
        refine em_gR (q_cod qk31 rfl) (by decide) (by decide) hf (fun r10 hf => ?_)
        obtain ⟨g11, hf⟩ := m_aK_some hf
        refine em_call (v := (fun u => some (.int u))) (q_cod qk31 rfl) rfl rfl (q_cokV rfl rfl (Or.inr g11)) rfl (fun x e => f7_cl e) hf (fun v12 h hf => ?_)
        refine em_if_ne (q_cod qk31 rfl) (by decide) hf (fun c13 hf => ?_) (fun c13 hf => ?_)
        · refine ev_ic (v := 1) (q_cod qk31 rfl) (by decide) (by decide) ?_
          refine ev_is2 (L' := [(0, .ref l0), (1, .ref l1), (2, .ref l2), (3, .int l3), (4, .int l4), (5, .int l5), (7, .int l7), (8, .int l8), (9, .int (l9 + v7)), (10, .int 1), (11, .int l11)]) (q_cod qk31 rfl) (by decide) rfl ?_
          exact (f31_258_ok hf hK)
        · exact (f31_258_ok hf hK)
      · refine ev_goto (q_cod qk31 rfl) (by decide) ?_
        exact (f31_258_ok hf hK)
  · obtain ⟨y0, hf0, hx⟩ := m_inr_some hf
    subst hx
    exact ev_weak (q_pk [7, 8, 9] rfl) (f31_264_ok hf0 hK)
def f31_188 (l0 : Nat) (l1 : Nat) (l2 : Nat) (l3 : Int32) (l4 : Int32) (l5 : Int32) (l7 : Int32) (l8 : Int32) (l9 : Int32) (l10 : Int32) (l11 : Int32) : m_M Int32 := m_W (fun s => f31_188b (s.1) (s.2.1) (s.2.2.1) (s.2.2.2.1) (s.2.2.2.2.1) (s.2.2.2.2.2.1) (s.2.2.2.2.2.2.1) (s.2.2.2.2.2.2.2.1) (s.2.2.2.2.2.2.2.2.1) (s.2.2.2.2.2.2.2.2.2.1) (s.2.2.2.2.2.2.2.2.2.2)) 1000000 (l0, l1, l2, l3, l4, l5, l7, l8, l9, l10, l11)
theorem f31_188_ok {l0 : Nat} {l1 : Nat} {l2 : Nat} {l3 : Int32} {l4 : Int32} {l5 : Int32} {l7 : Int32} {l8 : Int32} {l9 : Int32} {l10 : Int32} {l11 : Int32} {h : q_H} {o : q_O} {hz : q_H} {x : Int32 × q_H} (hf : f31_188 l0 l1 l2 l3 l4 l5 l7 l8 l9 l10 l11 h = some x) (hK : (q_KI o hz) x) : q_Ev none 31 188 [(0, .ref l0), (1, .ref l1), (2, .ref l2), (3, .int l3), (4, .int l4), (5, .int l5), (7, .int l7), (8, .int l8), (9, .int l9), (10, .int l10), (11, .int l11)] [] h o hz :=
  m_W_ok (P := (fun (s : Nat × Nat × Nat × Int32 × Int32 × Int32 × Int32 × Int32 × Int32 × Int32 × Int32) (h : q_H) => q_Ev none 31 188 [(0, .ref (s.1)), (1, .ref (s.2.1)), (2, .ref (s.2.2.1)), (3, .int (s.2.2.2.1)), (4, .int (s.2.2.2.2.1)), (5, .int (s.2.2.2.2.2.1)), (7, .int (s.2.2.2.2.2.2.1)), (8, .int (s.2.2.2.2.2.2.2.1)), (9, .int (s.2.2.2.2.2.2.2.2.1)), (10, .int (s.2.2.2.2.2.2.2.2.2.1)), (11, .int (s.2.2.2.2.2.2.2.2.2.2))] [] h o hz)) (K := (q_KI o hz)) (fun s h x h1 h2 => f31_188b_ok h1 h2) _ (l0, l1, l2, l3, l4, l5, l7, l8, l9, l10, l11) _ _ hf hK
def f31_157 (l0 : Nat) (l1 : Nat) (l2 : Nat) (l3 : Int32) (l4 : Int32) (l5 : Int32) (l6 : Nat) (l7 : Int32) (l8 : Int32) : m_M Int32 :=
  m_B (m_gR 7 l2 9) (fun r1 => m_B (m_lR r1 l8) (fun r2 => m_B (m_gR 0 l6 3) (fun r3 => m_B (m_lI r3 l4) (fun v4 => m_B (m_aK r2 0) (fun _ => m_B (f6 r2 l6 l4 v4) (fun _ => f31_188 l0 l1 l2 l3 l4 l5 l7 l8 0 0 0))))))
theorem f31_157_ok {l0 : Nat} {l1 : Nat} {l2 : Nat} {l3 : Int32} {l4 : Int32} {l5 : Int32} {l6 : Nat} {l7 : Int32} {l8 : Int32} {h : q_H} {o : q_O} {hz : q_H} {x : Int32 × q_H} (hf : f31_157 l0 l1 l2 l3 l4 l5 l6 l7 l8 h = some x) (hK : (q_KI o hz) x) : q_Ev none 31 157 [(0, .ref l0), (1, .ref l1), (2, .ref l2), (3, .int l3), (4, .int l4), (5, .int l5), (6, .ref l6), (7, .int l7), (8, .int l8)] [] h o hz := by
  unfold f31_157 at hf
  refine ev_aload_n (q_cod qk31 rfl) (by decide) rfl ?_
  refine em_gR (q_cod qk31 rfl) (by decide) (by decide) hf (fun r1 hf => ?_)
  refine ev_iload (q_cod qk31 rfl) (by decide) rfl ?_
  refine em_lR (q_cod qk31 rfl) (by decide) hf (fun r2 hf => ?_)
  refine ev_aload (q_cod qk31 rfl) (by decide) rfl ?_
  refine ev_iload (q_cod qk31 rfl) (by decide) rfl ?_
  refine ev_aload (q_cod qk31 rfl) (by decide) rfl ?_
  refine em_gR (q_cod qk31 rfl) (by decide) (by decide) hf (fun r3 hf => ?_)
  refine ev_iload (q_cod qk31 rfl) (by decide) rfl ?_
  refine em_lI (q_cod qk31 rfl) (by decide) hf (fun v4 hf => ?_)
  obtain ⟨g5, hf⟩ := m_aK_some hf
  refine em_call (v := (fun _ => none)) (q_cod qk31 rfl) rfl rfl (q_cokV rfl rfl (Or.inr g5)) rfl (fun x e => f6_cl e) hf (fun _ h hf => ?_)
  refine ev_ic (v := 0) (q_cod qk31 rfl) (by decide) (by decide) ?_
  refine ev_is2 (L' := [(0, .ref l0), (1, .ref l1), (2, .ref l2), (3, .int l3), (4, .int l4), (5, .int l5), (6, .ref l6), (7, .int l7), (8, .int l8), (9, .int 0)]) (q_cod qk31 rfl) (by decide) rfl ?_
  refine ev_ic (v := 0) (q_cod qk31 rfl) (by decide) (by decide) ?_
  refine ev_is2 (L' := [(0, .ref l0), (1, .ref l1), (2, .ref l2), (3, .int l3), (4, .int l4), (5, .int l5), (6, .ref l6), (7, .int l7), (8, .int l8), (9, .int 0), (10, .int 0)]) (q_cod qk31 rfl) (by decide) rfl ?_
  refine ev_ic (v := 0) (q_cod qk31 rfl) (by decide) (by decide) ?_
  refine ev_is2 (L' := [(0, .ref l0), (1, .ref l1), (2, .ref l2), (3, .int l3), (4, .int l4), (5, .int l5), (6, .ref l6), (7, .int l7), (8, .int l8), (9, .int 0), (10, .int 0), (11, .int 0)]) (q_cod qk31 rfl) (by decide) rfl ?_
  exact ev_weak (q_pk [0, 1, 2, 3, 4, 5, 7, 8, 9, 10, 11] rfl) (f31_188_ok hf hK)
def f31_113b (l0 : Nat) (l1 : Nat) (l2 : Nat) (l3 : Int32) (l4 : Int32) (l5 : Int32) (l6 : Nat) (l7 : Int32) (l8 : Int32) (l9 : Int32) : m_M ((Nat × Nat × Nat × Int32 × Int32 × Int32 × Nat × Int32 × Int32 × Int32) ⊕ Int32) :=
  m_B (m_gR 2 l0 1) (fun r1 => m_B (m_gI 4 r1 3) (fun v2 => if l9 < v2 then (m_B (m_gR 2 l0 1) (fun r3 => m_B (m_gR 4 r3 1) (fun r4 => m_B (m_lI r4 l9) (fun v5 => m_B (m_gR 2 l0 1) (fun r6 => m_B (m_gR 4 r6 2) (fun r7 => m_B (m_lI r7 l9) (fun v8 => m_B (m_aK l2 7) (fun _ => m_B (f75 l2 l8 v5 v8) (fun _ => m_R (.inl (l0, l1, l2, l3, l4, l5, l6, l7, l8, (l9 + 1)))))))))))) else (m_B (f31_157 l0 l1 l2 l3 l4 l5 l6 l7 l8) (fun r => m_R (.inr r)))))
theorem f31_113b_ok {l0 : Nat} {l1 : Nat} {l2 : Nat} {l3 : Int32} {l4 : Int32} {l5 : Int32} {l6 : Nat} {l7 : Int32} {l8 : Int32} {l9 : Int32} {h : q_H} {o : q_O} {hz : q_H} {x : ((Nat × Nat × Nat × Int32 × Int32 × Int32 × Nat × Int32 × Int32 × Int32) ⊕ Int32) × q_H} (hf : f31_113b l0 l1 l2 l3 l4 l5 l6 l7 l8 l9 h = some x) (hK : (m_yK (fun (s : Nat × Nat × Nat × Int32 × Int32 × Int32 × Nat × Int32 × Int32 × Int32) (h : q_H) => q_Ev none 31 113 [(0, .ref (s.1)), (1, .ref (s.2.1)), (2, .ref (s.2.2.1)), (3, .int (s.2.2.2.1)), (4, .int (s.2.2.2.2.1)), (5, .int (s.2.2.2.2.2.1)), (6, .ref (s.2.2.2.2.2.2.1)), (7, .int (s.2.2.2.2.2.2.2.1)), (8, .int (s.2.2.2.2.2.2.2.2.1)), (9, .int (s.2.2.2.2.2.2.2.2.2))] [] h o hz) (q_KI o hz)) x) : q_Ev none 31 113 [(0, .ref l0), (1, .ref l1), (2, .ref l2), (3, .int l3), (4, .int l4), (5, .int l5), (6, .ref l6), (7, .int l7), (8, .int l8), (9, .int l9)] [] h o hz := by
  unfold f31_113b at hf
  refine ev_iload (q_cod qk31 rfl) (by decide) rfl ?_
  refine ev_aload_n (q_cod qk31 rfl) (by decide) rfl ?_
  refine em_gR (q_cod qk31 rfl) (by decide) (by decide) hf (fun r1 hf => ?_)
  refine em_gI (q_cod qk31 rfl) (by decide) (by decide) hf (fun v2 hf => ?_)
  refine em_ic_ge (q_cod qk31 rfl) (by decide) hf (fun c11 hf => ?_) (fun c11 hf => ?_)
  · refine ev_aload_n (q_cod qk31 rfl) (by decide) rfl ?_
    refine ev_iload (q_cod qk31 rfl) (by decide) rfl ?_
    refine ev_aload_n (q_cod qk31 rfl) (by decide) rfl ?_
    refine em_gR (q_cod qk31 rfl) (by decide) (by decide) hf (fun r3 hf => ?_)
    refine em_gR (q_cod qk31 rfl) (by decide) (by decide) hf (fun r4 hf => ?_)
    refine ev_iload (q_cod qk31 rfl) (by decide) rfl ?_
    refine em_lI (q_cod qk31 rfl) (by decide) hf (fun v5 hf => ?_)
    refine ev_aload_n (q_cod qk31 rfl) (by decide) rfl ?_
    refine em_gR (q_cod qk31 rfl) (by decide) (by decide) hf (fun r6 hf => ?_)
    refine em_gR (q_cod qk31 rfl) (by decide) (by decide) hf (fun r7 hf => ?_)
    refine ev_iload (q_cod qk31 rfl) (by decide) rfl ?_
    refine em_lI (q_cod qk31 rfl) (by decide) hf (fun v8 hf => ?_)
    obtain ⟨g9, hf⟩ := m_aK_some hf
    refine em_call (v := (fun _ => none)) (q_cod qk31 rfl) rfl rfl (q_cokV rfl rfl (Or.inr g9)) rfl (fun x e => f75_cl e) hf (fun _ h hf => ?_)
    refine ev_inc (v := l9 + 1) (L' := [(0, .ref l0), (1, .ref l1), (2, .ref l2), (3, .int l3), (4, .int l4), (5, .int l5), (6, .ref l6), (7, .int l7), (8, .int l8), (9, .int (l9 + 1))]) (q_cod qk31 rfl) (by decide) rfl rfl rfl ?_
    refine ev_goto (q_cod qk31 rfl) (by decide) ?_
    obtain rfl := m_R_inv hf
    exact (show q_Ev none 31 113 [(0, .ref l0), (1, .ref l1), (2, .ref l2), (3, .int l3), (4, .int l4), (5, .int l5), (6, .ref l6), (7, .int l7), (8, .int l8), (9, .int (l9 + 1))] [] _ o hz from hK)
  · obtain ⟨y0, hf0, hx⟩ := m_inr_some hf
    subst hx
    exact ev_weak (q_pk [0, 1, 2, 3, 4, 5, 6, 7, 8] rfl) (f31_157_ok hf0 hK)
def f31_113 (l0 : Nat) (l1 : Nat) (l2 : Nat) (l3 : Int32) (l4 : Int32) (l5 : Int32) (l6 : Nat) (l7 : Int32) (l8 : Int32) (l9 : Int32) : m_M Int32 := m_W (fun s => f31_113b (s.1) (s.2.1) (s.2.2.1) (s.2.2.2.1) (s.2.2.2.2.1) (s.2.2.2.2.2.1) (s.2.2.2.2.2.2.1) (s.2.2.2.2.2.2.2.1) (s.2.2.2.2.2.2.2.2.1) (s.2.2.2.2.2.2.2.2.2)) 1000000 (l0, l1, l2, l3, l4, l5, l6, l7, l8, l9)
theorem f31_113_ok {l0 : Nat} {l1 : Nat} {l2 : Nat} {l3 : Int32} {l4 : Int32} {l5 : Int32} {l6 : Nat} {l7 : Int32} {l8 : Int32} {l9 : Int32} {h : q_H} {o : q_O} {hz : q_H} {x : Int32 × q_H} (hf : f31_113 l0 l1 l2 l3 l4 l5 l6 l7 l8 l9 h = some x) (hK : (q_KI o hz) x) : q_Ev none 31 113 [(0, .ref l0), (1, .ref l1), (2, .ref l2), (3, .int l3), (4, .int l4), (5, .int l5), (6, .ref l6), (7, .int l7), (8, .int l8), (9, .int l9)] [] h o hz :=
  m_W_ok (P := (fun (s : Nat × Nat × Nat × Int32 × Int32 × Int32 × Nat × Int32 × Int32 × Int32) (h : q_H) => q_Ev none 31 113 [(0, .ref (s.1)), (1, .ref (s.2.1)), (2, .ref (s.2.2.1)), (3, .int (s.2.2.2.1)), (4, .int (s.2.2.2.2.1)), (5, .int (s.2.2.2.2.2.1)), (6, .ref (s.2.2.2.2.2.2.1)), (7, .int (s.2.2.2.2.2.2.2.1)), (8, .int (s.2.2.2.2.2.2.2.2.1)), (9, .int (s.2.2.2.2.2.2.2.2.2))] [] h o hz)) (K := (q_KI o hz)) (fun s h x h1 h2 => f31_113b_ok h1 h2) _ (l0, l1, l2, l3, l4, l5, l6, l7, l8, l9) _ _ hf hK
def f31 (l0 : Nat) (l1 : Nat) (l2 : Nat) (l3 : Int32) (l4 : Int32) (l5 : Int32) : m_M Int32 :=
  m_B (m_gR 7 l1 9) (fun r1 => m_B (m_lR r1 l3) (fun r2 => m_B (m_gR 0 r2 4) (fun r3 => m_B (m_lI r3 l4) (fun v4 => if v4 = (-2) then (m_R (-10)) else (m_B (m_aK l0 2) (fun _ => m_B (f32 l0 l1 l3 l4) (fun v6 => if v6 = 0 then (m_R (-5)) else (m_B (m_gR 2 l0 1) (fun r7 => m_B (m_gI 4 r7 3) (fun v8 => if 2 < v8 then (m_R (-6)) else (m_B (m_gR 7 l1 3) (fun r9 => m_B (m_lI r9 l3) (fun v10 => m_B (m_gR 2 l0 1) (fun r11 => m_B (m_gI 4 r11 3) (fun v12 => m_B (m_aK l1 7) (fun _ => m_B (f91 l1 v10 l5 v12) (fun v14 => if v14 = 0 then (m_B (m_gI 7 l1 11) (fun v15 => if v15 < 24 then (m_B (m_gR 0 r2 4) (fun r16 => m_B (m_lI r16 l4) (fun v17 => m_B (m_aK l2 7) (fun _ => m_B (f74 l2 v10 l5 v17) (fun v19 => f31_113 l0 l1 l2 l3 l4 l5 r2 v10 v19 0))))) else (m_R (-6)))) else (m_R (-1)))))))))))))))))))
theorem f31_ok {l0 : Nat} {l1 : Nat} {l2 : Nat} {l3 : Int32} {l4 : Int32} {l5 : Int32} {h : q_H} {o : q_O} {hz : q_H} {x : Int32 × q_H} (hf : f31 l0 l1 l2 l3 l4 l5 h = some x) (hK : (q_KI o hz) x) : q_Ev none 31 0 [(0, .ref l0), (1, .ref l1), (2, .ref l2), (3, .int l3), (4, .int l4), (5, .int l5)] [] h o hz := by
  unfold f31 at hf
  refine ev_aload_n (q_cod qk31 rfl) (by decide) rfl ?_
  refine em_gR (q_cod qk31 rfl) (by decide) (by decide) hf (fun r1 hf => ?_)
  refine ev_iload_n (q_cod qk31 rfl) (by decide) rfl ?_
  refine em_lR (q_cod qk31 rfl) (by decide) hf (fun r2 hf => ?_)
  refine ev_as2 (L' := [(0, .ref l0), (1, .ref l1), (2, .ref l2), (3, .int l3), (4, .int l4), (5, .int l5), (6, .ref r2)]) (q_cod qk31 rfl) (by decide) rfl ?_
  refine ev_aload (q_cod qk31 rfl) (by decide) rfl ?_
  refine em_gR (q_cod qk31 rfl) (by decide) (by decide) hf (fun r3 hf => ?_)
  refine ev_iload (q_cod qk31 rfl) (by decide) rfl ?_
  refine em_lI (q_cod qk31 rfl) (by decide) hf (fun v4 hf => ?_)
  refine ev_bi (v := (-2)) (q_cod qk31 rfl) (by decide) (by decide) ?_
  refine em_ic_ne (q_cod qk31 rfl) (by decide) hf (fun c24 hf => ?_) (fun c24 hf => ?_)
  · refine ev_bi (v := (-10)) (q_cod qk31 rfl) (by decide) (by decide) ?_
    obtain rfl := m_R_inv hf
    obtain ⟨rfl, rfl⟩ := (show q_KI o hz ((-10), _) from hK)
    exact ev_ret (q_cod qk31 rfl) rfl
  · refine ev_aload_n (q_cod qk31 rfl) (by decide) rfl ?_
    refine ev_aload_n (q_cod qk31 rfl) (by decide) rfl ?_
    refine ev_iload_n (q_cod qk31 rfl) (by decide) rfl ?_
    refine ev_iload (q_cod qk31 rfl) (by decide) rfl ?_
    obtain ⟨g5, hf⟩ := m_aK_some hf
    refine em_call (v := (fun u => some (.int u))) (q_cod qk31 rfl) rfl rfl (q_cokV rfl rfl (Or.inr g5)) rfl (fun x e => f32_cl e) hf (fun v6 h hf => ?_)
    refine em_if_ne (q_cod qk31 rfl) (by decide) hf (fun c23 hf => ?_) (fun c23 hf => ?_)
    · refine ev_bi (v := (-5)) (q_cod qk31 rfl) (by decide) (by decide) ?_
      obtain rfl := m_R_inv hf
      obtain ⟨rfl, rfl⟩ := (show q_KI o hz ((-5), _) from hK)
      exact ev_ret (q_cod qk31 rfl) rfl
    · refine ev_aload_n (q_cod qk31 rfl) (by decide) rfl ?_
      refine em_gR (q_cod qk31 rfl) (by decide) (by decide) hf (fun r7 hf => ?_)
      refine em_gI (q_cod qk31 rfl) (by decide) (by decide) hf (fun v8 hf => ?_)
      refine ev_ic (v := 2) (q_cod qk31 rfl) (by decide) (by decide) ?_
      refine em_ic_le (q_cod qk31 rfl) (by decide) hf (fun c22 hf => ?_) (fun c22 hf => ?_)
      · refine ev_bi (v := (-6)) (q_cod qk31 rfl) (by decide) (by decide) ?_
        obtain rfl := m_R_inv hf
        obtain ⟨rfl, rfl⟩ := (show q_KI o hz ((-6), _) from hK)
        exact ev_ret (q_cod qk31 rfl) rfl
      · refine ev_aload_n (q_cod qk31 rfl) (by decide) rfl ?_
        refine em_gR (q_cod qk31 rfl) (by decide) (by decide) hf (fun r9 hf => ?_)
        refine ev_iload_n (q_cod qk31 rfl) (by decide) rfl ?_
        refine em_lI (q_cod qk31 rfl) (by decide) hf (fun v10 hf => ?_)
        refine ev_is2 (L' := [(0, .ref l0), (1, .ref l1), (2, .ref l2), (3, .int l3), (4, .int l4), (5, .int l5), (6, .ref r2), (7, .int v10)]) (q_cod qk31 rfl) (by decide) rfl ?_
        refine ev_aload_n (q_cod qk31 rfl) (by decide) rfl ?_
        refine ev_iload (q_cod qk31 rfl) (by decide) rfl ?_
        refine ev_iload (q_cod qk31 rfl) (by decide) rfl ?_
        refine ev_aload_n (q_cod qk31 rfl) (by decide) rfl ?_
        refine em_gR (q_cod qk31 rfl) (by decide) (by decide) hf (fun r11 hf => ?_)
        refine em_gI (q_cod qk31 rfl) (by decide) (by decide) hf (fun v12 hf => ?_)
        obtain ⟨g13, hf⟩ := m_aK_some hf
        refine em_call (v := (fun u => some (.int u))) (q_cod qk31 rfl) rfl rfl (q_cokV rfl rfl (Or.inr g13)) rfl (fun x e => f91_cl e) hf (fun v14 h hf => ?_)
        refine em_if_eq (q_cod qk31 rfl) (by decide) hf (fun c21 hf => ?_) (fun c21 hf => ?_)
        · refine ev_aload_n (q_cod qk31 rfl) (by decide) rfl ?_
          refine em_gI (q_cod qk31 rfl) (by decide) (by decide) hf (fun v15 hf => ?_)
          refine ev_bi (v := 24) (q_cod qk31 rfl) (by decide) (by decide) ?_
          refine em_ic_lt (q_cod qk31 rfl) (by decide) hf (fun c20 hf => ?_) (fun c20 hf => ?_)
          · refine ev_aload_n (q_cod qk31 rfl) (by decide) rfl ?_
            refine ev_iload (q_cod qk31 rfl) (by decide) rfl ?_
            refine ev_iload (q_cod qk31 rfl) (by decide) rfl ?_
            refine ev_aload (q_cod qk31 rfl) (by decide) rfl ?_
            refine em_gR (q_cod qk31 rfl) (by decide) (by decide) hf (fun r16 hf => ?_)
            refine ev_iload (q_cod qk31 rfl) (by decide) rfl ?_
            refine em_lI (q_cod qk31 rfl) (by decide) hf (fun v17 hf => ?_)
            obtain ⟨g18, hf⟩ := m_aK_some hf
            refine em_call (v := (fun u => some (.int u))) (q_cod qk31 rfl) rfl rfl (q_cokV rfl rfl (Or.inr g18)) rfl (fun x e => f74_cl e) hf (fun v19 h hf => ?_)
            refine ev_is2 (L' := [(0, .ref l0), (1, .ref l1), (2, .ref l2), (3, .int l3), (4, .int l4), (5, .int l5), (6, .ref r2), (7, .int v10), (8, .int v19)]) (q_cod qk31 rfl) (by decide) rfl ?_
            refine ev_ic (v := 0) (q_cod qk31 rfl) (by decide) (by decide) ?_
            refine ev_is2 (L' := [(0, .ref l0), (1, .ref l1), (2, .ref l2), (3, .int l3), (4, .int l4), (5, .int l5), (6, .ref r2), (7, .int v10), (8, .int v19), (9, .int 0)]) (q_cod qk31 rfl) (by decide) rfl ?_
            exact (f31_113_ok hf hK)
          · refine ev_bi (v := (-6)) (q_cod qk31 rfl) (by decide) (by decide) ?_
            obtain rfl := m_R_inv hf
            obtain ⟨rfl, rfl⟩ := (show q_KI o hz ((-6), _) from hK)
            exact ev_ret (q_cod qk31 rfl) rfl
        · refine ev_ic (v := (-1)) (q_cod qk31 rfl) (by decide) (by decide) ?_
          obtain rfl := m_R_inv hf
          obtain ⟨rfl, rfl⟩ := (show q_KI o hz ((-1), _) from hK)
          exact ev_ret (q_cod qk31 rfl) rfl
theorem f31_cl {l0 : Nat} {l1 : Nat} {l2 : Nat} {l3 : Int32} {l4 : Int32} {l5 : Int32} {h : q_H} {x : Int32 × q_H} (hf : f31 l0 l1 l2 l3 l4 l5 h = some x) : q_Cl 31 [.ref l0, .ref l1, .ref l2, .int l3, .int l4, .int l5] h (.inl (some (.int x.1))) x.2 := q_Cl.of rfl (q_LvS rfl rfl) (f31_ok hf ⟨rfl, rfl⟩)
