/-! SmithyBench$Machine.conclude(II)V -/
theorem qk45 : q_cs.getD 45 [] = qc_45 := rfl
def f45_46  : m_M Unit :=
  m_R ()
theorem f45_46_ok  {h : q_H} {o : q_O} {hz : q_H} {x : Unit × q_H} (hf : f45_46 h = some x) (hK : (m_KU o hz) x) : q_Ev none 45 46 [] [] h o hz := by
  unfold f45_46 at hf
  obtain rfl := m_R_inv hf
  obtain ⟨rfl, rfl⟩ := (show m_KU o hz ((), _) from hK)
  exact ev_ret (q_cod qk45 rfl) rfl
def f45 (l0 : Nat) (l1 : Int32) (l2 : Int32) : m_M Unit :=
  if l2 = (-1) then (m_B (m_pI 5 l0 16 0) (fun _ => m_B (m_pI 5 l0 17 l1) (fun _ => f45_46))) else (if l1 = (-1) then (m_B (m_pI 5 l0 16 2) (fun _ => f45_46)) else (m_B (m_pI 5 l0 16 1) (fun _ => m_B (m_gR 5 l0 8) (fun r1 => m_B (m_lI r1 l1) (fun v2 => m_B (m_pI 5 l0 17 v2) (fun _ => f45_46))))))
theorem f45_ok {l0 : Nat} {l1 : Int32} {l2 : Int32} {h : q_H} {o : q_O} {hz : q_H} {x : Unit × q_H} (hf : f45 l0 l1 l2 h = some x) (hK : (m_KU o hz) x) : q_Ev none 45 0 [(0, .ref l0), (1, .int l1), (2, .int l2)] [] h o hz := by
  unfold f45 at hf
  refine ev_iload_n (q_cod qk45 rfl) (by decide) rfl ?_
  refine ev_ic (v := (-1)) (q_cod qk45 rfl) (by decide) (by decide) ?_
  refine em_ic_ne (q_cod qk45 rfl) (by decide) hf (fun c4 hf => ?_) (fun c4 hf => ?_)
  · refine ev_aload_n (q_cod qk45 rfl) (by decide) rfl ?_
    refine ev_ic (v := 0) (q_cod qk45 rfl) (by decide) (by decide) ?_
    refine em_pI (q_cod qk45 rfl) (by decide) (by decide) (by decide) hf (fun hf => ?_)
    refine ev_aload_n (q_cod qk45 rfl) (by decide) rfl ?_
    refine ev_iload_n (q_cod qk45 rfl) (by decide) rfl ?_
    refine em_pI (q_cod qk45 rfl) (by decide) (by decide) (by decide) hf (fun hf => ?_)
    refine ev_goto (q_cod qk45 rfl) (by decide) ?_
    exact ev_weak (q_pk [] rfl) (f45_46_ok hf hK)
  · refine ev_iload_n (q_cod qk45 rfl) (by decide) rfl ?_
    refine ev_ic (v := (-1)) (q_cod qk45 rfl) (by decide) (by decide) ?_
    refine em_ic_ne (q_cod qk45 rfl) (by decide) hf (fun c3 hf => ?_) (fun c3 hf => ?_)
    · refine ev_aload_n (q_cod qk45 rfl) (by decide) rfl ?_
      refine ev_ic (v := 2) (q_cod qk45 rfl) (by decide) (by decide) ?_
      refine em_pI (q_cod qk45 rfl) (by decide) (by decide) (by decide) hf (fun hf => ?_)
      refine ev_goto (q_cod qk45 rfl) (by decide) ?_
      exact ev_weak (q_pk [] rfl) (f45_46_ok hf hK)
    · refine ev_aload_n (q_cod qk45 rfl) (by decide) rfl ?_
      refine ev_ic (v := 1) (q_cod qk45 rfl) (by decide) (by decide) ?_
      refine em_pI (q_cod qk45 rfl) (by decide) (by decide) (by decide) hf (fun hf => ?_)
      refine ev_aload_n (q_cod qk45 rfl) (by decide) rfl ?_
      refine ev_aload_n (q_cod qk45 rfl) (by decide) rfl ?_
      refine em_gR (q_cod qk45 rfl) (by decide) (by decide) hf (fun r1 hf => ?_)
      refine ev_iload_n (q_cod qk45 rfl) (by decide) rfl ?_
      refine em_lI (q_cod qk45 rfl) (by decide) hf (fun v2 hf => ?_)
      refine em_pI (q_cod qk45 rfl) (by decide) (by decide) (by decide) hf (fun hf => ?_)
      exact ev_weak (q_pk [] rfl) (f45_46_ok hf hK)
theorem f45_cl {l0 : Nat} {l1 : Int32} {l2 : Int32} {h : q_H} {x : Unit × q_H} (hf : f45 l0 l1 l2 h = some x) : q_Cl 45 [.ref l0, .int l1, .int l2] h (.inl none) x.2 := q_Cl.of rfl (q_LvS rfl rfl) (f45_ok hf ⟨rfl, rfl⟩)
/-! SmithyBench$Machine.perform(LSmithyBench$Program;IIII)I -/
theorem qk44 : q_cs.getD 44 [] = qc_44 := rfl
def f44_117 (l0 : Nat) : m_M Int32 :=
  m_B (m_gI 5 l0 16) (fun v1 => m_R v1)
theorem f44_117_ok {l0 : Nat} {h : q_H} {o : q_O} {hz : q_H} {x : Int32 × q_H} (hf : f44_117 l0 h = some x) (hK : (q_KI o hz) x) : q_Ev none 44 117 [(0, .ref l0)] [] h o hz := by
  unfold f44_117 at hf
  refine ev_aload_n (q_cod qk44 rfl) (by decide) rfl ?_
  refine em_gI (q_cod qk44 rfl) (by decide) (by decide) hf (fun v1 hf => ?_)
  obtain rfl := m_R_inv hf
  obtain ⟨rfl, rfl⟩ := (show q_KI o hz (v1, _) from hK)
  exact ev_ret (q_cod qk44 rfl) rfl
def f44_90 (l0 : Nat) (l2 : Int32) : m_M Int32 :=
  m_B (m_gI 5 l0 16) (fun v1 => if v1 = (-1) then (m_B (m_gR 5 l0 4) (fun r2 => m_B (m_lI r2 0) (fun v3 => m_B (m_gR 5 l0 10) (fun r4 => m_B (m_gR 7 r4 8) (fun r5 => m_B (m_lI r5 l2) (fun v6 => m_B (m_aK l0 5) (fun _ => m_B (f45 l0 v3 v6) (fun _ => f44_117 l0)))))))) else (f44_117 l0))
theorem f44_90_ok {l0 : Nat} {l2 : Int32} {h : q_H} {o : q_O} {hz : q_H} {x : Int32 × q_H} (hf : f44_90 l0 l2 h = some x) (hK : (q_KI o hz) x) : q_Ev none 44 90 [(0, .ref l0), (2, .int l2)] [] h o hz := by
  unfold f44_90 at hf
  refine ev_aload_n (q_cod qk44 rfl) (by decide) rfl ?_
  refine em_gI (q_cod qk44 rfl) (by decide) (by decide) hf (fun v1 hf => ?_)
  refine ev_ic (v := (-1)) (q_cod qk44 rfl) (by decide) (by decide) ?_
  refine em_ic_ne (q_cod qk44 rfl) (by decide) hf (fun c9 hf => ?_) (fun c9 hf => ?_)
  · refine ev_aload_n (q_cod qk44 rfl) (by decide) rfl ?_
    refine ev_aload_n (q_cod qk44 rfl) (by decide) rfl ?_
    refine em_gR (q_cod qk44 rfl) (by decide) (by decide) hf (fun r2 hf => ?_)
    refine ev_ic (v := 0) (q_cod qk44 rfl) (by decide) (by decide) ?_
    refine em_lI (q_cod qk44 rfl) (by decide) hf (fun v3 hf => ?_)
    refine ev_aload_n (q_cod qk44 rfl) (by decide) rfl ?_
    refine em_gR (q_cod qk44 rfl) (by decide) (by decide) hf (fun r4 hf => ?_)
    refine em_gR (q_cod qk44 rfl) (by decide) (by decide) hf (fun r5 hf => ?_)
    refine ev_iload_n (q_cod qk44 rfl) (by decide) rfl ?_
    refine em_lI (q_cod qk44 rfl) (by decide) hf (fun v6 hf => ?_)
    obtain ⟨g7, hf⟩ := m_aK_some hf
    refine em_call (v := (fun _ => none)) (q_cod qk44 rfl) rfl rfl (q_cokV rfl rfl (Or.inr g7)) rfl (fun x e => f45_cl e) hf (fun _ h hf => ?_)
    exact ev_weak (q_pk [0] rfl) (f44_117_ok hf hK)
  · exact ev_weak (q_pk [0] rfl) (f44_117_ok hf hK)
def f44_57b (l0 : Nat) (l2 : Int32) (l6 : Int32) : m_M ((Nat × Int32 × Int32) ⊕ Int32) :=
  if l6 < 10000 then (m_B (m_gI 5 l0 11) (fun v1 => if 0 < v1 then (m_B (m_gI 5 l0 16) (fun v2 => if v2 = (-1) then (m_B (m_aK l0 5) (fun _ => m_B (f50 l0) (fun _ => m_R (.inl (l0, l2, (l6 + 1)))))) else (m_B (f44_90 l0 l2) (fun r => m_R (.inr r))))) else (m_B (f44_90 l0 l2) (fun r => m_R (.inr r))))) else (m_B (f44_90 l0 l2) (fun r => m_R (.inr r)))
theorem f44_57b_ok {l0 : Nat} {l2 : Int32} {l6 : Int32} {h : q_H} {o : q_O} {hz : q_H} {x : ((Nat × Int32 × Int32) ⊕ Int32) × q_H} (hf : f44_57b l0 l2 l6 h = some x) (hK : (m_yK (fun (s : Nat × Int32 × Int32) (h : q_H) => q_Ev none 44 57 [(0, .ref (s.1)), (2, .int (s.2.1)), (6, .int (s.2.2))] [] h o hz) (q_KI o hz)) x) : q_Ev none 44 57 [(0, .ref l0), (2, .int l2), (6, .int l6)] [] h o hz := by
  unfold f44_57b at hf
  refine ev_iload (q_cod qk44 rfl) (by decide) rfl ?_
  refine ev_si (v := 10000) (q_cod qk44 rfl) (by decide) (by decide) ?_
  refine em_ic_ge (q_cod qk44 rfl) (by decide) hf (fun c7 hf => ?_) (fun c7 hf => ?_)
  · refine ev_aload_n (q_cod qk44 rfl) (by decide) rfl ?_
    refine em_gI (q_cod qk44 rfl) (by decide) (by decide) hf (fun v1 hf => ?_)
    refine em_if_le (q_cod qk44 rfl) (by decide) hf (fun c6 hf => ?_) (fun c6 hf => ?_)
    · refine ev_aload_n (q_cod qk44 rfl) (by decide) rfl ?_
      refine em_gI (q_cod qk44 rfl) (by decide) (by decide) hf (fun v2 hf => ?_)
      refine ev_ic (v := (-1)) (q_cod qk44 rfl) (by decide) (by decide) ?_
      refine em_ic_ne (q_cod qk44 rfl) (by decide) hf (fun c5 hf => ?_) (fun c5 hf => ?_)
      · refine ev_aload_n (q_cod qk44 rfl) (by decide) rfl ?_
        obtain ⟨g3, hf⟩ := m_aK_some hf
        refine em_call (v := (fun _ => none)) (q_cod qk44 rfl) rfl rfl (q_cokV rfl rfl (Or.inr g3)) rfl (fun x e => f50_cl e) hf (fun _ h hf => ?_)
        refine ev_inc (v := l6 + 1) (L' := [(0, .ref l0), (2, .int l2), (6, .int (l6 + 1))]) (q_cod qk44 rfl) (by decide) rfl rfl rfl ?_
        refine ev_goto (q_cod qk44 rfl) (by decide) ?_
        obtain rfl := m_R_inv hf
        exact (show q_Ev none 44 57 [(0, .ref l0), (2, .int l2), (6, .int (l6 + 1))] [] _ o hz from hK)
      · obtain ⟨y0, hf0, hx⟩ := m_inr_some hf
        subst hx
        exact ev_weak (q_pk [0, 1] rfl) (f44_90_ok hf0 hK)
    · obtain ⟨y0, hf0, hx⟩ := m_inr_some hf
      subst hx
      exact ev_weak (q_pk [0, 1] rfl) (f44_90_ok hf0 hK)
  · obtain ⟨y0, hf0, hx⟩ := m_inr_some hf
    subst hx
    exact ev_weak (q_pk [0, 1] rfl) (f44_90_ok hf0 hK)
def f44_57 (l0 : Nat) (l2 : Int32) (l6 : Int32) : m_M Int32 := m_W (fun s => f44_57b (s.1) (s.2.1) (s.2.2)) 1000000 (l0, l2, l6)
theorem f44_57_ok {l0 : Nat} {l2 : Int32} {l6 : Int32} {h : q_H} {o : q_O} {hz : q_H} {x : Int32 × q_H} (hf : f44_57 l0 l2 l6 h = some x) (hK : (q_KI o hz) x) : q_Ev none 44 57 [(0, .ref l0), (2, .int l2), (6, .int l6)] [] h o hz :=
  m_W_ok (P := (fun (s : Nat × Int32 × Int32) (h : q_H) => q_Ev none 44 57 [(0, .ref (s.1)), (2, .int (s.2.1)), (6, .int (s.2.2))] [] h o hz)) (K := (q_KI o hz)) (fun s h x h1 h2 => f44_57b_ok h1 h2) _ (l0, l2, l6) _ _ hf hK
def f44 (l0 : Nat) (l1 : Nat) (l2 : Int32) (l3 : Int32) (l4 : Int32) (l5 : Int32) : m_M Int32 :=
  m_B (m_pR 5 l0 10 l1) (fun _ => m_B (m_pI 5 l0 11 0) (fun _ => m_B (m_pI 5 l0 12 0) (fun _ => m_B (m_pI 5 l0 13 0) (fun _ => m_B (m_pI 5 l0 14 0) (fun _ => m_B (m_pI 5 l0 15 0) (fun _ => m_B (m_pI 5 l0 17 0) (fun _ => m_B (m_pI 5 l0 16 (-1)) (fun _ => m_B (m_aK l0 5) (fun _ => m_B (f46 l0 l3) (fun v2 => m_B (m_aK l0 5) (fun _ => m_B (f47 l0 l2 v2 l4 l5) (fun _ => f44_57 l0 l2 0))))))))))))
theorem f44_ok {l0 : Nat} {l1 : Nat} {l2 : Int32} {l3 : Int32} {l4 : Int32} {l5 : Int32} {h : q_H} {o : q_O} {hz : q_H} {x : Int32 × q_H} (hf : f44 l0 l1 l2 l3 l4 l5 h = some x) (hK : (q_KI o hz) x) : q_Ev none 44 0 [(0, .ref l0), (1, .ref l1), (2, .int l2), (3, .int l3), (4, .int l4), (5, .int l5)] [] h o hz := by
  unfold f44 at hf
  refine ev_aload_n (q_cod qk44 rfl) (by decide) rfl ?_
  refine ev_aload_n (q_cod qk44 rfl) (by decide) rfl ?_
  refine em_pR (q_cod qk44 rfl) (by decide) (by decide) (by decide) hf (fun hf => ?_)
  refine ev_aload_n (q_cod qk44 rfl) (by decide) rfl ?_
  refine ev_ic (v := 0) (q_cod qk44 rfl) (by decide) (by decide) ?_
  refine em_pI (q_cod qk44 rfl) (by decide) (by decide) (by decide) hf (fun hf => ?_)
  refine ev_aload_n (q_cod qk44 rfl) (by decide) rfl ?_
  refine ev_ic (v := 0) (q_cod qk44 rfl) (by decide) (by decide) ?_
  refine em_pI (q_cod qk44 rfl) (by decide) (by decide) (by decide) hf (fun hf => ?_)
  refine ev_aload_n (q_cod qk44 rfl) (by decide) rfl ?_
  refine ev_ic (v := 0) (q_cod qk44 rfl) (by decide) (by decide) ?_
  refine em_pI (q_cod qk44 rfl) (by decide) (by decide) (by decide) hf (fun hf => ?_)
  refine ev_aload_n (q_cod qk44 rfl) (by decide) rfl ?_
  refine ev_ic (v := 0) (q_cod qk44 rfl) (by decide) (by decide) ?_
  refine em_pI (q_cod qk44 rfl) (by decide) (by decide) (by decide) hf (fun hf => ?_)
  refine ev_aload_n (q_cod qk44 rfl) (by decide) rfl ?_
  refine ev_ic (v := 0) (q_cod qk44 rfl) (by decide) (by decide) ?_
  refine em_pI (q_cod qk44 rfl) (by decide) (by decide) (by decide) hf (fun hf => ?_)
  refine ev_aload_n (q_cod qk44 rfl) (by decide) rfl ?_
  refine ev_ic (v := 0) (q_cod qk44 rfl) (by decide) (by decide) ?_
  refine em_pI (q_cod qk44 rfl) (by decide) (by decide) (by decide) hf (fun hf => ?_)
  refine ev_aload_n (q_cod qk44 rfl) (by decide) rfl ?_
  refine ev_ic (v := (-1)) (q_cod qk44 rfl) (by decide) (by decide) ?_
  refine em_pI (q_cod qk44 rfl) (by decide) (by decide) (by decide) hf (fun hf => ?_)
  refine ev_aload_n (q_cod qk44 rfl) (by decide) rfl ?_
  refine ev_iload_n (q_cod qk44 rfl) (by decide) rfl ?_
  refine ev_aload_n (q_cod qk44 rfl) (by decide) rfl ?_
  refine ev_iload_n (q_cod qk44 rfl) (by decide) rfl ?_
  obtain ⟨g1, hf⟩ := m_aK_some hf
  refine em_call (v := (fun u => some (.int u))) (q_cod qk44 rfl) rfl rfl (q_cokV rfl rfl (Or.inr g1)) rfl (fun x e => f46_cl e) hf (fun v2 h hf => ?_)
  refine ev_iload (q_cod qk44 rfl) (by decide) rfl ?_
  refine ev_iload (q_cod qk44 rfl) (by decide) rfl ?_
  obtain ⟨g3, hf⟩ := m_aK_some hf
  refine em_call (v := (fun _ => none)) (q_cod qk44 rfl) rfl rfl (q_cokV rfl rfl (Or.inr g3)) rfl (fun x e => f47_cl e) hf (fun _ h hf => ?_)
  refine ev_ic (v := 0) (q_cod qk44 rfl) (by decide) (by decide) ?_
  refine ev_is2 (L' := [(0, .ref l0), (1, .ref l1), (2, .int l2), (3, .int l3), (4, .int l4), (5, .int l5), (6, .int 0)]) (q_cod qk44 rfl) (by decide) rfl ?_
  exact ev_weak (q_pk [0, 2, 6] rfl) (f44_57_ok hf hK)
theorem f44_cl {l0 : Nat} {l1 : Nat} {l2 : Int32} {l3 : Int32} {l4 : Int32} {l5 : Int32} {h : q_H} {x : Int32 × q_H} (hf : f44 l0 l1 l2 l3 l4 l5 h = some x) : q_Cl 44 [.ref l0, .ref l1, .int l2, .int l3, .int l4, .int l5] h (.inl (some (.int x.1))) x.2 := q_Cl.of rfl (q_LvS rfl rfl) (f44_ok hf ⟨rfl, rfl⟩)
/-! SmithyBench$Mover.<init>(LSmithyBench$Checker;)V -/
theorem qk59 : q_cs.getD 59 [] = qc_59 := rfl
def f59 (l0 : Nat) (l1 : Nat) : m_M Unit :=
  m_B (m_pR 6 l0 0 l1) (fun _ => m_R ())
theorem f59_ok {l0 : Nat} {l1 : Nat} {h : q_H} {o : q_O} {hz : q_H} {x : Unit × q_H} (hf : f59 l0 l1 h = some x) (hK : (m_KU o hz) x) : q_Ev none 59 0 [(0, .ref l0), (1, .ref l1)] [] h o hz := by
  unfold f59 at hf
  refine ev_aload_n (q_cod qk59 rfl) (by decide) rfl ?_
  refine ev_objinit (q_cod qk59 rfl) (Nat.le_of_ble_eq_true rfl) ?_
  refine ev_aload_n (q_cod qk59 rfl) (by decide) rfl ?_
  refine ev_aload_n (q_cod qk59 rfl) (by decide) rfl ?_
  refine em_pR (q_cod qk59 rfl) (by decide) (by decide) (by decide) hf (fun hf => ?_)
  obtain rfl := m_R_inv hf
  obtain ⟨rfl, rfl⟩ := (show m_KU o hz ((), _) from hK)
  exact ev_ret (q_cod qk59 rfl) rfl
theorem f59_cl {l0 : Nat} {l1 : Nat} {h : q_H} {x : Unit × q_H} (hf : f59 l0 l1 h = some x) : q_Cl 59 [.ref l0, .ref l1] h (.inl none) x.2 := q_Cl.of rfl (q_LvS rfl rfl) (f59_ok hf ⟨rfl, rfl⟩)
/-! SmithyBench$Mover.moveUp(LSmithyBench$Program;LSmithyBench$Program;I)I -/
theorem qk60 : q_cs.getD 60 [] = qc_60 := rfl
def f60_93 (s0 : Int32) : m_M Int32 :=
  m_R s0
theorem f60_93_ok {s0 : Int32} {h : q_H} {o : q_O} {hz : q_H} {x : Int32 × q_H} (hf : f60_93 s0 h = some x) (hK : (q_KI o hz) x) : q_Ev none 60 93 [] [.int s0] h o hz := by
  unfold f60_93 at hf
  obtain rfl := m_R_inv hf
  obtain ⟨rfl, rfl⟩ := (show q_KI o hz (s0, _) from hK)
  exact ev_ret (q_cod qk60 rfl) rfl
def f60_66 (s0 : Int32) : m_M Int32 :=
  m_R s0
theorem f60_66_ok {s0 : Int32} {h : q_H} {o : q_O} {hz : q_H} {x : Int32 × q_H} (hf : f60_66 s0 h = some x) (hK : (q_KI o hz) x) : q_Ev none 60 66 [] [.int s0] h o hz := by
  unfold f60_66 at hf
  obtain rfl := m_R_inv hf
  obtain ⟨rfl, rfl⟩ := (show q_KI o hz (s0, _) from hK)
  exact ev_ret (q_cod qk60 rfl) rfl
def f60 (l0 : Nat) (l1 : Nat) (l2 : Nat) (l3 : Int32) : m_M Int32 :=
  m_B (m_gR 7 l1 0) (fun r1 => m_B (m_gR 7 l1 3) (fun r2 => m_B (m_lI r2 l3) (fun v3 => m_B (m_lI r1 v3) (fun v4 => if v4 = (-1) then (m_R (-10)) else (m_B (m_gR 7 l1 4) (fun r5 => m_B (m_lI r5 l3) (fun v6 => m_B (m_gR 7 l1 5) (fun r7 => m_B (m_lI r7 l3) (fun v8 => m_B (m_aK l1 7) (fun _ => m_B (f90 l1 v4 v6 v8) (fun v10 => if v10 = (-1) then (m_B (m_gR 7 l2 3) (fun r11 => m_B (m_wI r11 l3 v4) (fun _ => m_B (m_gR 6 l0 0) (fun r12 => m_B (m_aK r12 1) (fun _ => m_B (f21 r12 l2) (fun v14 => if v14 = 0 then (f60_93 (-8)) else (f60_93 v4))))))) else (m_B (m_gR 7 l1 3) (fun r16 => m_B (m_lI r16 v10) (fun v17 => if v17 = v4 then (f60_66 (-1)) else (f60_66 (-11))))))))))))))))
theorem f60_ok {l0 : Nat} {l1 : Nat} {l2 : Nat} {l3 : Int32} {h : q_H} {o : q_O} {hz : q_H} {x : Int32 × q_H} (hf : f60 l0 l1 l2 l3 h = some x) (hK : (q_KI o hz) x) : q_Ev none 60 0 [(0, .ref l0), (1, .ref l1), (2, .ref l2), (3, .int l3)] [] h o hz := by
  unfold f60 at hf
  refine ev_aload_n (q_cod qk60 rfl) (by decide) rfl ?_
  refine em_gR (q_cod qk60 rfl) (by decide) (by decide) hf (fun r1 hf => ?_)
  refine ev_aload_n (q_cod qk60 rfl) (by decide) rfl ?_
  refine em_gR (q_cod qk60 rfl) (by decide) (by decide) hf (fun r2 hf => ?_)
  refine ev_iload_n (q_cod qk60 rfl) (by decide) rfl ?_
  refine em_lI (q_cod qk60 rfl) (by decide) hf (fun v3 hf => ?_)
  refine em_lI (q_cod qk60 rfl) (by decide) hf (fun v4 hf => ?_)
  refine ev_is2 (L' := [(0, .ref l0), (1, .ref l1), (2, .ref l2), (3, .int l3), (4, .int v4)]) (q_cod qk60 rfl) (by decide) rfl ?_
  refine ev_iload (q_cod qk60 rfl) (by decide) rfl ?_
  refine ev_ic (v := (-1)) (q_cod qk60 rfl) (by decide) (by decide) ?_
  refine em_ic_ne (q_cod qk60 rfl) (by decide) hf (fun c20 hf => ?_) (fun c20 hf => ?_)
  · refine ev_bi (v := (-10)) (q_cod qk60 rfl) (by decide) (by decide) ?_
    obtain rfl := m_R_inv hf
    obtain ⟨rfl, rfl⟩ := (show q_KI o hz ((-10), _) from hK)
    exact ev_ret (q_cod qk60 rfl) rfl
  · refine ev_aload_n (q_cod qk60 rfl) (by decide) rfl ?_
    refine ev_iload (q_cod qk60 rfl) (by decide) rfl ?_
    refine ev_aload_n (q_cod qk60 rfl) (by decide) rfl ?_
    refine em_gR (q_cod qk60 rfl) (by decide) (by decide) hf (fun r5 hf => ?_)
    refine ev_iload_n (q_cod qk60 rfl) (by decide) rfl ?_
    refine em_lI (q_cod qk60 rfl) (by decide) hf (fun v6 hf => ?_)
    refine ev_aload_n (q_cod qk60 rfl) (by decide) rfl ?_
    refine em_gR (q_cod qk60 rfl) (by decide) (by decide) hf (fun r7 hf => ?_)
    refine ev_iload_n (q_cod qk60 rfl) (by decide) rfl ?_
    refine em_lI (q_cod qk60 rfl) (by decide) hf (fun v8 hf => ?_)
    obtain ⟨g9, hf⟩ := m_aK_some hf
    refine em_call (v := (fun u => some (.int u))) (q_cod qk60 rfl) rfl rfl (q_cokV rfl rfl (Or.inr g9)) rfl (fun x e => f90_cl e) hf (fun v10 h hf => ?_)
    refine ev_is2 (L' := [(0, .ref l0), (1, .ref l1), (2, .ref l2), (3, .int l3), (4, .int v4), (5, .int v10)]) (q_cod qk60 rfl) (by decide) rfl ?_
    refine ev_iload (q_cod qk60 rfl) (by decide) rfl ?_
    refine ev_ic (v := (-1)) (q_cod qk60 rfl) (by decide) (by decide) ?_
    refine em_ic_eq (q_cod qk60 rfl) (by decide) hf (fun c19 hf => ?_) (fun c19 hf => ?_)
    · refine ev_aload_n (q_cod qk60 rfl) (by decide) rfl ?_
      refine em_gR (q_cod qk60 rfl) (by decide) (by decide) hf (fun r11 hf => ?_)
      refine ev_iload_n (q_cod qk60 rfl) (by decide) rfl ?_
      refine ev_iload (q_cod qk60 rfl) (by decide) rfl ?_
      refine em_wI (q_cod qk60 rfl) (by decide) hf (fun hf => ?_)
      refine ev_aload_n (q_cod qk60 rfl) (by decide) rfl ?_
      refine em_gR (q_cod qk60 rfl) (by decide) (by decide) hf (fun r12 hf => ?_)
      refine ev_aload_n (q_cod qk60 rfl) (by decide) rfl ?_
      obtain ⟨g13, hf⟩ := m_aK_some hf
      refine em_call (v := (fun u => some (.int u))) (q_cod qk60 rfl) rfl rfl (q_cokV rfl rfl (Or.inr g13)) rfl (fun x e => f21_cl e) hf (fun v14 h hf => ?_)
      refine em_if_eq (q_cod qk60 rfl) (by decide) hf (fun c15 hf => ?_) (fun c15 hf => ?_)
      · refine ev_bi (v := (-8)) (q_cod qk60 rfl) (by decide) (by decide) ?_
        exact ev_weak (q_pk [] rfl) (f60_93_ok hf hK)
      · refine ev_iload (q_cod qk60 rfl) (by decide) rfl ?_
        refine ev_goto (q_cod qk60 rfl) (by decide) ?_
        exact ev_weak (q_pk [] rfl) (f60_93_ok hf hK)
    · refine ev_aload_n (q_cod qk60 rfl) (by decide) rfl ?_
      refine em_gR (q_cod qk60 rfl) (by decide) (by decide) hf (fun r16 hf => ?_)
      refine ev_iload (q_cod qk60 rfl) (by decide) rfl ?_
      refine em_lI (q_cod qk60 rfl) (by decide) hf (fun v17 hf => ?_)
      refine ev_iload (q_cod qk60 rfl) (by decide) rfl ?_
      refine em_ic_ne (q_cod qk60 rfl) (by decide) hf (fun c18 hf => ?_) (fun c18 hf => ?_)
      · refine ev_ic (v := (-1)) (q_cod qk60 rfl) (by decide) (by decide) ?_
        refine ev_goto (q_cod qk60 rfl) (by decide) ?_
        exact ev_weak (q_pk [] rfl) (f60_66_ok hf hK)
      · refine ev_bi (v := (-11)) (q_cod qk60 rfl) (by decide) (by decide) ?_
        exact ev_weak (q_pk [] rfl) (f60_66_ok hf hK)
theorem f60_cl {l0 : Nat} {l1 : Nat} {l2 : Nat} {l3 : Int32} {h : q_H} {x : Int32 × q_H} (hf : f60 l0 l1 l2 l3 h = some x) : q_Cl 60 [.ref l0, .ref l1, .ref l2, .int l3] h (.inl (some (.int x.1))) x.2 := q_Cl.of rfl (q_LvS rfl rfl) (f60_ok hf ⟨rfl, rfl⟩)
/-! SmithyBench$Mover.hasChild(LSmithyBench$Program;I)Z -/
theorem qk62 : q_cs.getD 62 [] = qc_62 := rfl
def f62_20  : m_M Int32 :=
  m_R 1
theorem f62_20_ok  {h : q_H} {o : q_O} {hz : q_H} {x : Int32 × q_H} (hf : f62_20 h = some x) (hK : (q_KI o hz) x) : q_Ev none 62 20 [] [] h o hz := by
  unfold f62_20 at hf
  refine ev_ic (v := 1) (q_cod qk62 rfl) (by decide) (by decide) ?_
  obtain rfl := m_R_inv hf
  obtain ⟨rfl, rfl⟩ := (show q_KI o hz (1, _) from hK)
  exact ev_ret (q_cod qk62 rfl) rfl
def f62_28  : m_M Int32 :=
  m_R 0
theorem f62_28_ok  {h : q_H} {o : q_O} {hz : q_H} {x : Int32 × q_H} (hf : f62_28 h = some x) (hK : (q_KI o hz) x) : q_Ev none 62 28 [] [] h o hz := by
  unfold f62_28 at hf
  refine ev_ic (v := 0) (q_cod qk62 rfl) (by decide) (by decide) ?_
  obtain rfl := m_R_inv hf
  obtain ⟨rfl, rfl⟩ := (show q_KI o hz (0, _) from hK)
  exact ev_ret (q_cod qk62 rfl) rfl
def f62_2b (l0 : Nat) (l1 : Int32) (l2 : Int32) : m_M ((Nat × Int32 × Int32) ⊕ Int32) :=
  m_B (m_gI 7 l0 10) (fun v1 => if l2 < v1 then (m_B (m_gR 7 l0 0) (fun r2 => m_B (m_lI r2 l2) (fun v3 => if v3 = l1 then (m_B (f62_20) (fun r => m_R (.inr r))) else (m_R (.inl (l0, l1, (l2 + 1))))))) else (m_B (f62_28) (fun r => m_R (.inr r))))
theorem f62_2b_ok {l0 : Nat} {l1 : Int32} {l2 : Int32} {h : q_H} {o : q_O} {hz : q_H} {x : ((Nat × Int32 × Int32) ⊕ Int32) × q_H} (hf : f62_2b l0 l1 l2 h = some x) (hK : (m_yK (fun (s : Nat × Int32 × Int32) (h : q_H) => q_Ev none 62 2 [(0, .ref (s.1)), (1, .int (s.2.1)), (2, .int (s.2.2))] [] h o hz) (q_KI o hz)) x) : q_Ev none 62 2 [(0, .ref l0), (1, .int l1), (2, .int l2)] [] h o hz := by
  unfold f62_2b at hf
  refine ev_iload_n (q_cod qk62 rfl) (by decide) rfl ?_
  refine ev_aload_n (q_cod qk62 rfl) (by decide) rfl ?_
  refine em_gI (q_cod qk62 rfl) (by decide) (by decide) hf (fun v1 hf => ?_)
  refine em_ic_ge (q_cod qk62 rfl) (by decide) hf (fun c5 hf => ?_) (fun c5 hf => ?_)
  · refine ev_aload_n (q_cod qk62 rfl) (by decide) rfl ?_
    refine em_gR (q_cod qk62 rfl) (by decide) (by decide) hf (fun r2 hf => ?_)
    refine ev_iload_n (q_cod qk62 rfl) (by decide) rfl ?_
    refine em_lI (q_cod qk62 rfl) (by decide) hf (fun v3 hf => ?_)
    refine ev_iload_n (q_cod qk62 rfl) (by decide) rfl ?_
    refine em_ic_ne (q_cod qk62 rfl) (by decide) hf (fun c4 hf => ?_) (fun c4 hf => ?_)
    · obtain ⟨y0, hf0, hx⟩ := m_inr_some hf
      subst hx
      exact ev_weak (q_pk [] rfl) (f62_20_ok hf0 hK)
    · refine ev_inc (v := l2 + 1) (L' := [(0, .ref l0), (1, .int l1), (2, .int (l2 + 1))]) (q_cod qk62 rfl) (by decide) rfl rfl rfl ?_
      refine ev_goto (q_cod qk62 rfl) (by decide) ?_
      obtain rfl := m_R_inv hf
      exact (show q_Ev none 62 2 [(0, .ref l0), (1, .int l1), (2, .int (l2 + 1))] [] _ o hz from hK)
  · obtain ⟨y0, hf0, hx⟩ := m_inr_some hf
    subst hx
    exact ev_weak (q_pk [] rfl) (f62_28_ok hf0 hK)
def f62_2 (l0 : Nat) (l1 : Int32) (l2 : Int32) : m_M Int32 := m_W (fun s => f62_2b (s.1) (s.2.1) (s.2.2)) 1000000 (l0, l1, l2)
theorem f62_2_ok {l0 : Nat} {l1 : Int32} {l2 : Int32} {h : q_H} {o : q_O} {hz : q_H} {x : Int32 × q_H} (hf : f62_2 l0 l1 l2 h = some x) (hK : (q_KI o hz) x) : q_Ev none 62 2 [(0, .ref l0), (1, .int l1), (2, .int l2)] [] h o hz :=
  m_W_ok (P := (fun (s : Nat × Int32 × Int32) (h : q_H) => q_Ev none 62 2 [(0, .ref (s.1)), (1, .int (s.2.1)), (2, .int (s.2.2))] [] h o hz)) (K := (q_KI o hz)) (fun s h x h1 h2 => f62_2b_ok h1 h2) _ (l0, l1, l2) _ _ hf hK
def f62 (l0 : Nat) (l1 : Int32) : m_M Int32 :=
  f62_2 l0 l1 0
theorem f62_ok {l0 : Nat} {l1 : Int32} {h : q_H} {o : q_O} {hz : q_H} {x : Int32 × q_H} (hf : f62 l0 l1 h = some x) (hK : (q_KI o hz) x) : q_Ev none 62 0 [(0, .ref l0), (1, .int l1)] [] h o hz := by
  unfold f62 at hf
  refine ev_ic (v := 0) (q_cod qk62 rfl) (by decide) (by decide) ?_
  refine ev_is1 (L' := [(0, .ref l0), (1, .int l1), (2, .int 0)]) (q_cod qk62 rfl) (by decide) rfl ?_
  exact (f62_2_ok hf hK)
theorem f62_cl {l0 : Nat} {l1 : Int32} {h : q_H} {x : Int32 × q_H} (hf : f62 l0 l1 h = some x) : q_Cl 62 [.ref l0, .int l1] h (.inl (some (.int x.1))) x.2 := q_Cl.of rfl (q_LvS rfl rfl) (f62_ok hf ⟨rfl, rfl⟩)
/-! SmithyBench$Mover.isMade(LSmithyBench$Program;I)Z -/
theorem qk63 : q_cs.getD 63 [] = qc_63 := rfl
def f63_71 (l0 : Nat) (l1 : Int32) (l2 : Int32) : m_M ((Nat × Int32 × Int32) ⊕ Int32) :=
  m_R (.inl (l0, l1, (l2 + 1)))
theorem f63_71_ok {l0 : Nat} {l1 : Int32} {l2 : Int32} {h : q_H} {o : q_O} {hz : q_H} {x : ((Nat × Int32 × Int32) ⊕ Int32) × q_H} (hf : f63_71 l0 l1 l2 h = some x) (hK : (m_yK (fun (s : Nat × Int32 × Int32) (h : q_H) => q_Ev none 63 2 [(0, .ref (s.1)), (1, .int (s.2.1)), (2, .int (s.2.2))] [] h o hz) (q_KI o hz)) x) : q_Ev none 63 71 [(0, .ref l0), (1, .int l1), (2, .int l2)] [] h o hz := by
  unfold f63_71 at hf
  refine ev_inc (v := l2 + 1) (L' := [(0, .ref l0), (1, .int l1), (2, .int (l2 + 1))]) (q_cod qk63 rfl) (by decide) rfl rfl rfl ?_
  refine ev_goto (q_cod qk63 rfl) (by decide) ?_
  obtain rfl := m_R_inv hf
  exact (show q_Ev none 63 2 [(0, .ref l0), (1, .int l1), (2, .int (l2 + 1))] [] _ o hz from hK)
def f63_63  : m_M Int32 :=
  m_R 1
theorem f63_63_ok  {h : q_H} {o : q_O} {hz : q_H} {x : Int32 × q_H} (hf : f63_63 h = some x) (hK : (q_KI o hz) x) : q_Ev none 63 63 [] [] h o hz := by
  unfold f63_63 at hf
  refine ev_ic (v := 1) (q_cod qk63 rfl) (by decide) (by decide) ?_
  obtain rfl := m_R_inv hf
  obtain ⟨rfl, rfl⟩ := (show q_KI o hz (1, _) from hK)
  exact ev_ret (q_cod qk63 rfl) rfl
def f63_65 (l0 : Nat) (l1 : Int32) (l2 : Int32) (l3 : Nat) (l4 : Int32) : m_M ((Nat × Int32 × Int32 × Nat × Int32) ⊕ ((Nat × Int32 × Int32) ⊕ Int32)) :=
  m_R (.inl (l0, l1, l2, l3, (l4 + 1)))
theorem f63_65_ok {l0 : Nat} {l1 : Int32} {l2 : Int32} {l3 : Nat} {l4 : Int32} {h : q_H} {o : q_O} {hz : q_H} {x : ((Nat × Int32 × Int32 × Nat × Int32) ⊕ ((Nat × Int32 × Int32) ⊕ Int32)) × q_H} (hf : f63_65 l0 l1 l2 l3 l4 h = some x) (hK : (m_yK (fun (s : Nat × Int32 × Int32 × Nat × Int32) (h : q_H) => q_Ev none 63 31 [(0, .ref (s.1)), (1, .int (s.2.1)), (2, .int (s.2.2.1)), (3, .ref (s.2.2.2.1)), (4, .int (s.2.2.2.2))] [] h o hz) (m_yK (fun (s : Nat × Int32 × Int32) (h : q_H) => q_Ev none 63 2 [(0, .ref (s.1)), (1, .int (s.2.1)), (2, .int (s.2.2))] [] h o hz) (q_KI o hz))) x) : q_Ev none 63 65 [(0, .ref l0), (1, .int l1), (2, .int l2), (3, .ref l3), (4, .int l4)] [] h o hz := by
  unfold f63_65 at hf
  refine ev_inc (v := l4 + 1) (L' := [(0, .ref l0), (1, .int l1), (2, .int l2), (3, .ref l3), (4, .int (l4 + 1))]) (q_cod qk63 rfl) (by decide) rfl rfl rfl ?_
  refine ev_goto (q_cod qk63 rfl) (by decide) ?_
  obtain rfl := m_R_inv hf
  exact (show q_Ev none 63 31 [(0, .ref l0), (1, .int l1), (2, .int l2), (3, .ref l3), (4, .int (l4 + 1))] [] _ o hz from hK)
def f63_31b (l0 : Nat) (l1 : Int32) (l2 : Int32) (l3 : Nat) (l4 : Int32) : m_M ((Nat × Int32 × Int32 × Nat × Int32) ⊕ ((Nat × Int32 × Int32) ⊕ Int32)) :=
  m_B (m_gI 0 l3 7) (fun v1 => if l4 < v1 then (m_B (m_gR 0 l3 0) (fun r2 => m_B (m_lI r2 l4) (fun v3 => if v3 = 8 then (m_B (m_gR 0 l3 1) (fun r4 => m_B (m_lI r4 l4) (fun v5 => if v5 = l1 then (m_B (m_B (f63_63) (fun r => m_R (.inr r))) (fun r => m_R (.inr r))) else (f63_65 l0 l1 l2 l3 l4)))) else (f63_65 l0 l1 l2 l3 l4)))) else (m_B (f63_71 l0 l1 l2) (fun r => m_R (.inr r))))
theorem f63_31b_ok {l0 : Nat} {l1 : Int32} {l2 : Int32} {l3 : Nat} {l4 : Int32} {h : q_H} {o : q_O} {hz : q_H} {x : ((Nat × Int32 × Int32 × Nat × Int32) ⊕ ((Nat × Int32 × Int32) ⊕ Int32)) × q_H} (hf : f63_31b l0 l1 l2 l3 l4 h = some x) (hK : (m_yK (fun (s : Nat × Int32 × Int32 × Nat × Int32) (h : q_H) => q_Ev none 63 31 [(0, .ref (s.1)), (1, .int (s.2.1)), (2, .int (s.2.2.1)), (3, .ref (s.2.2.2.1)), (4, .int (s.2.2.2.2))] [] h o hz) (m_yK (fun (s : Nat × Int32 × Int32) (h : q_H) => q_Ev none 63 2 [(0, .ref (s.1)), (1, .int (s.2.1)), (2, .int (s.2.2))] [] h o hz) (q_KI o hz))) x) : q_Ev none 63 31 [(0, .ref l0), (1, .int l1), (2, .int l2), (3, .ref l3), (4, .int l4)] [] h o hz := by
  unfold f63_31b at hf
  refine ev_iload (q_cod qk63 rfl) (by decide) rfl ?_
  refine ev_aload_n (q_cod qk63 rfl) (by decide) rfl ?_
  refine em_gI (q_cod qk63 rfl) (by decide) (by decide) hf (fun v1 hf => ?_)
  refine em_ic_ge (q_cod qk63 rfl) (by decide) hf (fun c8 hf => ?_) (fun c8 hf => ?_)
  · refine ev_aload_n (q_cod qk63 rfl) (by decide) rfl ?_
    refine em_gR (q_cod qk63 rfl) (by decide) (by decide) hf (fun r2 hf => ?_)
    refine ev_iload (q_cod qk63 rfl) (by decide) rfl ?_
    refine em_lI (q_cod qk63 rfl) (by decide) hf (fun v3 hf => ?_)
    refine ev_bi (v := 8) (q_cod qk63 rfl) (by decide) (by decide) ?_
    refine em_ic_ne (q_cod qk63 rfl) (by decide) hf (fun c7 hf => ?_) (fun c7 hf => ?_)
    · refine ev_aload_n (q_cod qk63 rfl) (by decide) rfl ?_
      refine em_gR (q_cod qk63 rfl) (by decide) (by decide) hf (fun r4 hf => ?_)
      refine ev_iload (q_cod qk63 rfl) (by decide) rfl ?_
      refine em_lI (q_cod qk63 rfl) (by decide) hf (fun v5 hf => ?_)
      refine ev_iload_n (q_cod qk63 rfl) (by decide) rfl ?_
      refine em_ic_ne (q_cod qk63 rfl) (by decide) hf (fun c6 hf => ?_) (fun c6 hf => ?_)
      · obtain ⟨y0, hf0, hx⟩ := m_inr_some hf
        subst hx
        obtain ⟨y1, hf1, hx⟩ := m_inr_some hf0
        subst hx
        exact ev_weak (q_pk [] rfl) (f63_63_ok hf1 hK)
      · exact (f63_65_ok hf hK)
    · exact (f63_65_ok hf hK)
  · obtain ⟨y0, hf0, hx⟩ := m_inr_some hf
    subst hx
    exact ev_weak (q_pk [0, 1, 2] rfl) (f63_71_ok hf0 hK)
def f63_31 (l0 : Nat) (l1 : Int32) (l2 : Int32) (l3 : Nat) (l4 : Int32) : m_M ((Nat × Int32 × Int32) ⊕ Int32) := m_W (fun s => f63_31b (s.1) (s.2.1) (s.2.2.1) (s.2.2.2.1) (s.2.2.2.2)) 1000000 (l0, l1, l2, l3, l4)
theorem f63_31_ok {l0 : Nat} {l1 : Int32} {l2 : Int32} {l3 : Nat} {l4 : Int32} {h : q_H} {o : q_O} {hz : q_H} {x : ((Nat × Int32 × Int32) ⊕ Int32) × q_H} (hf : f63_31 l0 l1 l2 l3 l4 h = some x) (hK : (m_yK (fun (s : Nat × Int32 × Int32) (h : q_H) => q_Ev none 63 2 [(0, .ref (s.1)), (1, .int (s.2.1)), (2, .int (s.2.2))] [] h o hz) (q_KI o hz)) x) : q_Ev none 63 31 [(0, .ref l0), (1, .int l1), (2, .int l2), (3, .ref l3), (4, .int l4)] [] h o hz :=
  m_W_ok (P := (fun (s : Nat × Int32 × Int32 × Nat × Int32) (h : q_H) => q_Ev none 63 31 [(0, .ref (s.1)), (1, .int (s.2.1)), (2, .int (s.2.2.1)), (3, .ref (s.2.2.2.1)), (4, .int (s.2.2.2.2))] [] h o hz)) (K := (m_yK (fun (s : Nat × Int32 × Int32) (h : q_H) => q_Ev none 63 2 [(0, .ref (s.1)), (1, .int (s.2.1)), (2, .int (s.2.2))] [] h o hz) (q_KI o hz))) (fun s h x h1 h2 => f63_31b_ok h1 h2) _ (l0, l1, l2, l3, l4) _ _ hf hK
def f63_77  : m_M Int32 :=
  m_R 0
theorem f63_77_ok  {h : q_H} {o : q_O} {hz : q_H} {x : Int32 × q_H} (hf : f63_77 h = some x) (hK : (q_KI o hz) x) : q_Ev none 63 77 [] [] h o hz := by
  unfold f63_77 at hf
  refine ev_ic (v := 0) (q_cod qk63 rfl) (by decide) (by decide) ?_
  obtain rfl := m_R_inv hf
  obtain ⟨rfl, rfl⟩ := (show q_KI o hz (0, _) from hK)
  exact ev_ret (q_cod qk63 rfl) rfl
def f63_2b (l0 : Nat) (l1 : Int32) (l2 : Int32) : m_M ((Nat × Int32 × Int32) ⊕ Int32) :=
  m_B (m_gI 7 l0 11) (fun v1 => if l2 < v1 then (m_B (m_aK l0 7) (fun _ => m_B (f79 l0 l2) (fun v3 => if v3 = 0 then (f63_71 l0 l1 l2) else (m_B (m_gR 7 l0 9) (fun r4 => m_B (m_lR r4 l2) (fun r5 => f63_31 l0 l1 l2 r5 0)))))) else (m_B (f63_77) (fun r => m_R (.inr r))))
theorem f63_2b_ok {l0 : Nat} {l1 : Int32} {l2 : Int32} {h : q_H} {o : q_O} {hz : q_H} {x : ((Nat × Int32 × Int32) ⊕ Int32) × q_H} (hf : f63_2b l0 l1 l2 h = some x) (hK : (m_yK (fun (s : Nat × Int32 × Int32) (h : q_H) => q_Ev none 63 2 [(0, .ref (s.1)), (1, .int (s.2.1)), (2, .int (s.2.2))] [] h o hz) (q_KI o hz)) x) : q_Ev none 63 2 [(0, .ref l0), (1, .int l1), (2, .int l2)] [] h o hz := by
  unfold f63_2b at hf
  refine ev_iload_n (q_cod qk63 rfl) (by decide) rfl ?_
  refine ev_aload_n (q_cod qk63 rfl) (by decide) rfl ?_
  refine em_gI (q_cod qk63 rfl) (by decide) (by decide) hf (fun v1 hf => ?_)
  refine em_ic_ge (q_cod qk63 rfl) (by decide) hf (fun c7 hf => ?_) (fun c7 hf => ?_)
  · refine ev_aload_n (q_cod qk63 rfl) (by decide) rfl ?_
    refine ev_iload_n (q_cod qk63 rfl) (by decide) rfl ?_
    obtain ⟨g2, hf⟩ := m_aK_some hf
    refine em_call (v := (fun u => some (.int u))) (q_cod qk63 rfl) rfl rfl (q_cokV rfl rfl (Or.inr g2)) rfl (fun x e => f79_cl e) hf (fun v3 h hf => ?_)
    refine em_if_ne (q_cod qk63 rfl) (by decide) hf (fun c6 hf => ?_) (fun c6 hf => ?_)
    · refine ev_goto (q_cod qk63 rfl) (by decide) ?_
      exact (f63_71_ok hf hK)
    · refine ev_aload_n (q_cod qk63 rfl) (by decide) rfl ?_
      refine em_gR (q_cod qk63 rfl) (by decide) (by decide) hf (fun r4 hf => ?_)
      refine ev_iload_n (q_cod qk63 rfl) (by decide) rfl ?_
      refine em_lR (q_cod qk63 rfl) (by decide) hf (fun r5 hf => ?_)
      refine ev_as1 (L' := [(0, .ref l0), (1, .int l1), (2, .int l2), (3, .ref r5)]) (q_cod qk63 rfl) (by decide) rfl ?_
      refine ev_ic (v := 0) (q_cod qk63 rfl) (by decide) (by decide) ?_
      refine ev_is2 (L' := [(0, .ref l0), (1, .int l1), (2, .int l2), (3, .ref r5), (4, .int 0)]) (q_cod qk63 rfl) (by decide) rfl ?_
      exact (f63_31_ok hf hK)
  · obtain ⟨y0, hf0, hx⟩ := m_inr_some hf
    subst hx
    exact ev_weak (q_pk [] rfl) (f63_77_ok hf0 hK)
def f63_2 (l0 : Nat) (l1 : Int32) (l2 : Int32) : m_M Int32 := m_W (fun s => f63_2b (s.1) (s.2.1) (s.2.2)) 1000000 (l0, l1, l2)
theorem f63_2_ok {l0 : Nat} {l1 : Int32} {l2 : Int32} {h : q_H} {o : q_O} {hz : q_H} {x : Int32 × q_H} (hf : f63_2 l0 l1 l2 h = some x) (hK : (q_KI o hz) x) : q_Ev none 63 2 [(0, .ref l0), (1, .int l1), (2, .int l2)] [] h o hz :=
  m_W_ok (P := (fun (s : Nat × Int32 × Int32) (h : q_H) => q_Ev none 63 2 [(0, .ref (s.1)), (1, .int (s.2.1)), (2, .int (s.2.2))] [] h o hz)) (K := (q_KI o hz)) (fun s h x h1 h2 => f63_2b_ok h1 h2) _ (l0, l1, l2) _ _ hf hK
def f63 (l0 : Nat) (l1 : Int32) : m_M Int32 :=
  f63_2 l0 l1 0
theorem f63_ok {l0 : Nat} {l1 : Int32} {h : q_H} {o : q_O} {hz : q_H} {x : Int32 × q_H} (hf : f63 l0 l1 h = some x) (hK : (q_KI o hz) x) : q_Ev none 63 0 [(0, .ref l0), (1, .int l1)] [] h o hz := by
  unfold f63 at hf
  refine ev_ic (v := 0) (q_cod qk63 rfl) (by decide) (by decide) ?_
  refine ev_is1 (L' := [(0, .ref l0), (1, .int l1), (2, .int 0)]) (q_cod qk63 rfl) (by decide) rfl ?_
  exact (f63_2_ok hf hK)
theorem f63_cl {l0 : Nat} {l1 : Int32} {h : q_H} {x : Int32 × q_H} (hf : f63 l0 l1 h = some x) : q_Cl 63 [.ref l0, .int l1] h (.inl (some (.int x.1))) x.2 := q_Cl.of rfl (q_LvS rfl rfl) (f63_ok hf ⟨rfl, rfl⟩)
/-! SmithyBench$Mover.isCalledInClass(LSmithyBench$Program;I)Z -/
theorem qk64 : q_cs.getD 64 [] = qc_64 := rfl
def f64_78 (l0 : Nat) (l1 : Int32) (l2 : Int32) : m_M ((Nat × Int32 × Int32) ⊕ Int32) :=
  m_R (.inl (l0, l1, (l2 + 1)))
theorem f64_78_ok {l0 : Nat} {l1 : Int32} {l2 : Int32} {h : q_H} {o : q_O} {hz : q_H} {x : ((Nat × Int32 × Int32) ⊕ Int32) × q_H} (hf : f64_78 l0 l1 l2 h = some x) (hK : (m_yK (fun (s : Nat × Int32 × Int32) (h : q_H) => q_Ev none 64 2 [(0, .ref (s.1)), (1, .int (s.2.1)), (2, .int (s.2.2))] [] h o hz) (q_KI o hz)) x) : q_Ev none 64 78 [(0, .ref l0), (1, .int l1), (2, .int l2)] [] h o hz := by
  unfold f64_78 at hf
  refine ev_inc (v := l2 + 1) (L' := [(0, .ref l0), (1, .int l1), (2, .int (l2 + 1))]) (q_cod qk64 rfl) (by decide) rfl rfl rfl ?_
  refine ev_goto (q_cod qk64 rfl) (by decide) ?_
  obtain rfl := m_R_inv hf
  exact (show q_Ev none 64 2 [(0, .ref l0), (1, .int l1), (2, .int (l2 + 1))] [] _ o hz from hK)
def f64_72 (l0 : Nat) (l1 : Int32) (l2 : Int32) (l3 : Nat) (l4 : Int32) : m_M ((Nat × Int32 × Int32 × Nat × Int32) ⊕ ((Nat × Int32 × Int32) ⊕ Int32)) :=
  m_R (.inl (l0, l1, l2, l3, (l4 + 1)))
theorem f64_72_ok {l0 : Nat} {l1 : Int32} {l2 : Int32} {l3 : Nat} {l4 : Int32} {h : q_H} {o : q_O} {hz : q_H} {x : ((Nat × Int32 × Int32 × Nat × Int32) ⊕ ((Nat × Int32 × Int32) ⊕ Int32)) × q_H} (hf : f64_72 l0 l1 l2 l3 l4 h = some x) (hK : (m_yK (fun (s : Nat × Int32 × Int32 × Nat × Int32) (h : q_H) => q_Ev none 64 31 [(0, .ref (s.1)), (1, .int (s.2.1)), (2, .int (s.2.2.1)), (3, .ref (s.2.2.2.1)), (4, .int (s.2.2.2.2))] [] h o hz) (m_yK (fun (s : Nat × Int32 × Int32) (h : q_H) => q_Ev none 64 2 [(0, .ref (s.1)), (1, .int (s.2.1)), (2, .int (s.2.2))] [] h o hz) (q_KI o hz))) x) : q_Ev none 64 72 [(0, .ref l0), (1, .int l1), (2, .int l2), (3, .ref l3), (4, .int l4)] [] h o hz := by
  unfold f64_72 at hf
  refine ev_inc (v := l4 + 1) (L' := [(0, .ref l0), (1, .int l1), (2, .int l2), (3, .ref l3), (4, .int (l4 + 1))]) (q_cod qk64 rfl) (by decide) rfl rfl rfl ?_
  refine ev_goto (q_cod qk64 rfl) (by decide) ?_
  obtain rfl := m_R_inv hf
  exact (show q_Ev none 64 31 [(0, .ref l0), (1, .int l1), (2, .int l2), (3, .ref l3), (4, .int (l4 + 1))] [] _ o hz from hK)
def f64_70  : m_M Int32 :=
  m_R 1
theorem f64_70_ok  {h : q_H} {o : q_O} {hz : q_H} {x : Int32 × q_H} (hf : f64_70 h = some x) (hK : (q_KI o hz) x) : q_Ev none 64 70 [] [] h o hz := by
  unfold f64_70 at hf
  refine ev_ic (v := 1) (q_cod qk64 rfl) (by decide) (by decide) ?_
  obtain rfl := m_R_inv hf
  obtain ⟨rfl, rfl⟩ := (show q_KI o hz (1, _) from hK)
  exact ev_ret (q_cod qk64 rfl) rfl
def f64_31b (l0 : Nat) (l1 : Int32) (l2 : Int32) (l3 : Nat) (l4 : Int32) : m_M ((Nat × Int32 × Int32 × Nat × Int32) ⊕ ((Nat × Int32 × Int32) ⊕ Int32)) :=
  m_B (m_gI 0 l3 7) (fun v1 => if l4 < v1 then (m_B (m_aK l3 0) (fun _ => m_B (f17 l3 l4 (1 <<< (l1 &&& 31))) (fun v3 => if v3 = 0 then (f64_72 l0 l1 l2 l3 l4) else (m_B (m_gR 0 l3 4) (fun r4 => m_B (m_lI r4 (l4 + 1)) (fun v5 => m_B (m_gR 7 l0 3) (fun r6 => m_B (m_lI r6 l1) (fun v7 => if v5 = v7 then (m_B (m_B (f64_70) (fun r => m_R (.inr r))) (fun r => m_R (.inr r))) else (f64_72 l0 l1 l2 l3 l4))))))))) else (m_B (f64_78 l0 l1 l2) (fun r => m_R (.inr r))))
theorem f64_31b_ok {l0 : Nat} {l1 : Int32} {l2 : Int32} {l3 : Nat} {l4 : Int32} {h : q_H} {o : q_O} {hz : q_H} {x : ((Nat × Int32 × Int32 × Nat × Int32) ⊕ ((Nat × Int32 × Int32) ⊕ Int32)) × q_H} (hf : f64_31b l0 l1 l2 l3 l4 h = some x) (hK : (m_yK (fun (s : Nat × Int32 × Int32 × Nat × Int32) (h : q_H) => q_Ev none 64 31 [(0, .ref (s.1)), (1, .int (s.2.1)), (2, .int (s.2.2.1)), (3, .ref (s.2.2.2.1)), (4, .int (s.2.2.2.2))] [] h o hz) (m_yK (fun (s : Nat × Int32 × Int32) (h : q_H) => q_Ev none 64 2 [(0, .ref (s.1)), (1, .int (s.2.1)), (2, .int (s.2.2))] [] h o hz) (q_KI o hz))) x) : q_Ev none 64 31 [(0, .ref l0), (1, .int l1), (2, .int l2), (3, .ref l3), (4, .int l4)] [] h o hz := by
  unfold f64_31b at hf
  refine ev_iload (q_cod qk64 rfl) (by decide) rfl ?_
  refine ev_aload_n (q_cod qk64 rfl) (by decide) rfl ?_
  refine em_gI (q_cod qk64 rfl) (by decide) (by decide) hf (fun v1 hf => ?_)
  refine em_ic_ge (q_cod qk64 rfl) (by decide) hf (fun c10 hf => ?_) (fun c10 hf => ?_)
  · refine ev_aload_n (q_cod qk64 rfl) (by decide) rfl ?_
    refine ev_iload (q_cod qk64 rfl) (by decide) rfl ?_
    refine ev_ic (v := 1) (q_cod qk64 rfl) (by decide) (by decide) ?_
    refine ev_iload_n (q_cod qk64 rfl) (by decide) rfl ?_
    refine ev_ishl (q_cod qk64 rfl) (by decide) ?_
    obtain ⟨g2, hf⟩ := m_aK_some hf
    refine em_call (v := (fun u => some (.int u))) (q_cod qk64 rfl) rfl rfl (q_cokV rfl rfl (Or.inr g2)) rfl (fun x e => f17_cl e) hf (fun v3 h hf => ?_)
    refine em_if_eq (q_cod qk64 rfl) (by decide) hf (fun c9 hf => ?_) (fun c9 hf => ?_)
    · exact (f64_72_ok hf hK)
    · refine ev_aload_n (q_cod qk64 rfl) (by decide) rfl ?_
      refine em_gR (q_cod qk64 rfl) (by decide) (by decide) hf (fun r4 hf => ?_)
      refine ev_iload (q_cod qk64 rfl) (by decide) rfl ?_
      refine ev_ic (v := 1) (q_cod qk64 rfl) (by decide) (by decide) ?_
      refine ev_iadd (q_cod qk64 rfl) (by decide) ?_
      refine em_lI (q_cod qk64 rfl) (by decide) hf (fun v5 hf => ?_)
      refine ev_aload_n (q_cod qk64 rfl) (by decide) rfl ?_
      refine em_gR (q_cod qk64 rfl) (by decide) (by decide) hf (fun r6 hf => ?_)
      refine ev_iload_n (q_cod qk64 rfl) (by decide) rfl ?_
      refine em_lI (q_cod qk64 rfl) (by decide) hf (fun v7 hf => ?_)
      refine em_ic_ne (q_cod qk64 rfl) (by decide) hf (fun c8 hf => ?_) (fun c8 hf => ?_)
      · obtain ⟨y0, hf0, hx⟩ := m_inr_some hf
        subst hx
        obtain ⟨y1, hf1, hx⟩ := m_inr_some hf0
        subst hx
        exact ev_weak (q_pk [] rfl) (f64_70_ok hf1 hK)
      · exact (f64_72_ok hf hK)
  · obtain ⟨y0, hf0, hx⟩ := m_inr_some hf
    subst hx
    exact ev_weak (q_pk [0, 1, 2] rfl) (f64_78_ok hf0 hK)
def f64_31 (l0 : Nat) (l1 : Int32) (l2 : Int32) (l3 : Nat) (l4 : Int32) : m_M ((Nat × Int32 × Int32) ⊕ Int32) := m_W (fun s => f64_31b (s.1) (s.2.1) (s.2.2.1) (s.2.2.2.1) (s.2.2.2.2)) 1000000 (l0, l1, l2, l3, l4)
theorem f64_31_ok {l0 : Nat} {l1 : Int32} {l2 : Int32} {l3 : Nat} {l4 : Int32} {h : q_H} {o : q_O} {hz : q_H} {x : ((Nat × Int32 × Int32) ⊕ Int32) × q_H} (hf : f64_31 l0 l1 l2 l3 l4 h = some x) (hK : (m_yK (fun (s : Nat × Int32 × Int32) (h : q_H) => q_Ev none 64 2 [(0, .ref (s.1)), (1, .int (s.2.1)), (2, .int (s.2.2))] [] h o hz) (q_KI o hz)) x) : q_Ev none 64 31 [(0, .ref l0), (1, .int l1), (2, .int l2), (3, .ref l3), (4, .int l4)] [] h o hz :=
  m_W_ok (P := (fun (s : Nat × Int32 × Int32 × Nat × Int32) (h : q_H) => q_Ev none 64 31 [(0, .ref (s.1)), (1, .int (s.2.1)), (2, .int (s.2.2.1)), (3, .ref (s.2.2.2.1)), (4, .int (s.2.2.2.2))] [] h o hz)) (K := (m_yK (fun (s : Nat × Int32 × Int32) (h : q_H) => q_Ev none 64 2 [(0, .ref (s.1)), (1, .int (s.2.1)), (2, .int (s.2.2))] [] h o hz) (q_KI o hz))) (fun s h x h1 h2 => f64_31b_ok h1 h2) _ (l0, l1, l2, l3, l4) _ _ hf hK
def f64_84  : m_M Int32 :=
  m_R 0
theorem f64_84_ok  {h : q_H} {o : q_O} {hz : q_H} {x : Int32 × q_H} (hf : f64_84 h = some x) (hK : (q_KI o hz) x) : q_Ev none 64 84 [] [] h o hz := by
  unfold f64_84 at hf
  refine ev_ic (v := 0) (q_cod qk64 rfl) (by decide) (by decide) ?_
  obtain rfl := m_R_inv hf
  obtain ⟨rfl, rfl⟩ := (show q_KI o hz (0, _) from hK)
  exact ev_ret (q_cod qk64 rfl) rfl
def f64_2b (l0 : Nat) (l1 : Int32) (l2 : Int32) : m_M ((Nat × Int32 × Int32) ⊕ Int32) :=
  m_B (m_gI 7 l0 11) (fun v1 => if l2 < v1 then (m_B (m_aK l0 7) (fun _ => m_B (f79 l0 l2) (fun v3 => if v3 = 0 then (f64_78 l0 l1 l2) else (m_B (m_gR 7 l0 9) (fun r4 => m_B (m_lR r4 l2) (fun r5 => f64_31 l0 l1 l2 r5 0)))))) else (m_B (f64_84) (fun r => m_R (.inr r))))
theorem f64_2b_ok {l0 : Nat} {l1 : Int32} {l2 : Int32} {h : q_H} {o : q_O} {hz : q_H} {x : ((Nat × Int32 × Int32) ⊕ Int32) × q_H} (hf : f64_2b l0 l1 l2 h = some x) (hK : (m_yK (fun (s : Nat × Int32 × Int32) (h : q_H) => q_Ev none 64 2 [(0, .ref (s.1)), (1, .int (s.2.1)), (2, .int (s.2.2))] [] h o hz) (q_KI o hz)) x) : q_Ev none 64 2 [(0, .ref l0), (1, .int l1), (2, .int l2)] [] h o hz := by
  unfold f64_2b at hf
  refine ev_iload_n (q_cod qk64 rfl) (by decide) rfl ?_
  refine ev_aload_n (q_cod qk64 rfl) (by decide) rfl ?_
  refine em_gI (q_cod qk64 rfl) (by decide) (by decide) hf (fun v1 hf => ?_)
  refine em_ic_ge (q_cod qk64 rfl) (by decide) hf (fun c7 hf => ?_) (fun c7 hf => ?_)
  · refine ev_aload_n (q_cod qk64 rfl) (by decide) rfl ?_
    refine ev_iload_n (q_cod qk64 rfl) (by decide) rfl ?_
    obtain ⟨g2, hf⟩ := m_aK_some hf
    refine em_call (v := (fun u => some (.int u))) (q_cod qk64 rfl) rfl rfl (q_cokV rfl rfl (Or.inr g2)) rfl (fun x e => f79_cl e) hf (fun v3 h hf => ?_)
    refine em_if_ne (q_cod qk64 rfl) (by decide) hf (fun c6 hf => ?_) (fun c6 hf => ?_)
    · refine ev_goto (q_cod qk64 rfl) (by decide) ?_
      exact (f64_78_ok hf hK)
    · refine ev_aload_n (q_cod qk64 rfl) (by decide) rfl ?_
      refine em_gR (q_cod qk64 rfl) (by decide) (by decide) hf (fun r4 hf => ?_)
      refine ev_iload_n (q_cod qk64 rfl) (by decide) rfl ?_
      refine em_lR (q_cod qk64 rfl) (by decide) hf (fun r5 hf => ?_)
      refine ev_as1 (L' := [(0, .ref l0), (1, .int l1), (2, .int l2), (3, .ref r5)]) (q_cod qk64 rfl) (by decide) rfl ?_
      refine ev_ic (v := 0) (q_cod qk64 rfl) (by decide) (by decide) ?_
      refine ev_is2 (L' := [(0, .ref l0), (1, .int l1), (2, .int l2), (3, .ref r5), (4, .int 0)]) (q_cod qk64 rfl) (by decide) rfl ?_
      exact (f64_31_ok hf hK)
  · obtain ⟨y0, hf0, hx⟩ := m_inr_some hf
    subst hx
    exact ev_weak (q_pk [] rfl) (f64_84_ok hf0 hK)
def f64_2 (l0 : Nat) (l1 : Int32) (l2 : Int32) : m_M Int32 := m_W (fun s => f64_2b (s.1) (s.2.1) (s.2.2)) 1000000 (l0, l1, l2)
theorem f64_2_ok {l0 : Nat} {l1 : Int32} {l2 : Int32} {h : q_H} {o : q_O} {hz : q_H} {x : Int32 × q_H} (hf : f64_2 l0 l1 l2 h = some x) (hK : (q_KI o hz) x) : q_Ev none 64 2 [(0, .ref l0), (1, .int l1), (2, .int l2)] [] h o hz :=
  m_W_ok (P := (fun (s : Nat × Int32 × Int32) (h : q_H) => q_Ev none 64 2 [(0, .ref (s.1)), (1, .int (s.2.1)), (2, .int (s.2.2))] [] h o hz)) (K := (q_KI o hz)) (fun s h x h1 h2 => f64_2b_ok h1 h2) _ (l0, l1, l2) _ _ hf hK
def f64 (l0 : Nat) (l1 : Int32) : m_M Int32 :=
  f64_2 l0 l1 0
theorem f64_ok {l0 : Nat} {l1 : Int32} {h : q_H} {o : q_O} {hz : q_H} {x : Int32 × q_H} (hf : f64 l0 l1 h = some x) (hK : (q_KI o hz) x) : q_Ev none 64 0 [(0, .ref l0), (1, .int l1)] [] h o hz := by
  unfold f64 at hf
  refine ev_ic (v := 0) (q_cod qk64 rfl) (by decide) (by decide) ?_
  refine ev_is1 (L' := [(0, .ref l0), (1, .int l1), (2, .int 0)]) (q_cod qk64 rfl) (by decide) rfl ?_
  exact (f64_2_ok hf hK)
theorem f64_cl {l0 : Nat} {l1 : Int32} {h : q_H} {x : Int32 × q_H} (hf : f64 l0 l1 h = some x) : q_Cl 64 [.ref l0, .int l1] h (.inl (some (.int x.1))) x.2 := q_Cl.of rfl (q_LvS rfl rfl) (f64_ok hf ⟨rfl, rfl⟩)
/-! SmithyBench$Program.methodIn(III)I -/
theorem qk89 : q_cs.getD 89 [] = qc_89 := rfl
def f89_37 (l0 : Nat) (l1 : Int32) (l2 : Int32) (l3 : Int32) (l4 : Int32) : m_M ((Nat × Int32 × Int32 × Int32 × Int32) ⊕ Int32) :=
  m_R (.inl (l0, l1, l2, l3, (l4 + 1)))
theorem f89_37_ok {l0 : Nat} {l1 : Int32} {l2 : Int32} {l3 : Int32} {l4 : Int32} {h : q_H} {o : q_O} {hz : q_H} {x : ((Nat × Int32 × Int32 × Int32 × Int32) ⊕ Int32) × q_H} (hf : f89_37 l0 l1 l2 l3 l4 h = some x) (hK : (m_yK (fun (s : Nat × Int32 × Int32 × Int32 × Int32) (h : q_H) => q_Ev none 89 3 [(0, .ref (s.1)), (1, .int (s.2.1)), (2, .int (s.2.2.1)), (3, .int (s.2.2.2.1)), (4, .int (s.2.2.2.2))] [] h o hz) (q_KI o hz)) x) : q_Ev none 89 37 [(0, .ref l0), (1, .int l1), (2, .int l2), (3, .int l3), (4, .int l4)] [] h o hz := by
  unfold f89_37 at hf
  refine ev_inc (v := l4 + 1) (L' := [(0, .ref l0), (1, .int l1), (2, .int l2), (3, .int l3), (4, .int (l4 + 1))]) (q_cod qk89 rfl) (by decide) rfl rfl rfl ?_
  refine ev_goto (q_cod qk89 rfl) (by decide) ?_
  obtain rfl := m_R_inv hf
  exact (show q_Ev none 89 3 [(0, .ref l0), (1, .int l1), (2, .int l2), (3, .int l3), (4, .int (l4 + 1))] [] _ o hz from hK)
def f89_34 (l4 : Int32) : m_M Int32 :=
  m_R l4
theorem f89_34_ok {l4 : Int32} {h : q_H} {o : q_O} {hz : q_H} {x : Int32 × q_H} (hf : f89_34 l4 h = some x) (hK : (q_KI o hz) x) : q_Ev none 89 34 [(4, .int l4)] [] h o hz := by
  unfold f89_34 at hf
  refine ev_iload (q_cod qk89 rfl) (by decide) rfl ?_
  obtain rfl := m_R_inv hf
  obtain ⟨rfl, rfl⟩ := (show q_KI o hz (l4, _) from hK)
  exact ev_ret (q_cod qk89 rfl) rfl
def f89_43  : m_M Int32 :=
  m_R (-1)
theorem f89_43_ok  {h : q_H} {o : q_O} {hz : q_H} {x : Int32 × q_H} (hf : f89_43 h = some x) (hK : (q_KI o hz) x) : q_Ev none 89 43 [] [] h o hz := by
  unfold f89_43 at hf
  refine ev_ic (v := (-1)) (q_cod qk89 rfl) (by decide) (by decide) ?_
  obtain rfl := m_R_inv hf
  obtain ⟨rfl, rfl⟩ := (show q_KI o hz ((-1), _) from hK)
  exact ev_ret (q_cod qk89 rfl) rfl
def f89_3b (l0 : Nat) (l1 : Int32) (l2 : Int32) (l3 : Int32) (l4 : Int32) : m_M ((Nat × Int32 × Int32 × Int32 × Int32) ⊕ Int32) :=
  m_B (m_gI 7 l0 11) (fun v1 => if l4 < v1 then (m_B (m_gR 7 l0 3) (fun r2 => m_B (m_lI r2 l4) (fun v3 => if v3 = l1 then (m_B (m_aK l0 7) (fun _ => m_B (f88 l0 l4 l2 l3) (fun v5 => if v5 = 0 then (f89_37 l0 l1 l2 l3 l4) else (m_B (f89_34 l4) (fun r => m_R (.inr r)))))) else (f89_37 l0 l1 l2 l3 l4)))) else (m_B (f89_43) (fun r => m_R (.inr r))))
theorem f89_3b_ok {l0 : Nat} {l1 : Int32} {l2 : Int32} {l3 : Int32} {l4 : Int32} {h : q_H} {o : q_O} {hz : q_H} {x : ((Nat × Int32 × Int32 × Int32 × Int32) ⊕ Int32) × q_H} (hf : f89_3b l0 l1 l2 l3 l4 h = some x) (hK : (m_yK (fun (s : Nat × Int32 × Int32 × Int32 × Int32) (h : q_H) => q_Ev none 89 3 [(0, .ref (s.1)), (1, .int (s.2.1)), (2, .int (s.2.2.1)), (3, .int (s.2.2.2.1)), (4, .int (s.2.2.2.2))] [] h o hz) (q_KI o hz)) x) : q_Ev none 89 3 [(0, .ref l0), (1, .int l1), (2, .int l2), (3, .int l3), (4, .int l4)] [] h o hz := by
  unfold f89_3b at hf
  refine ev_iload (q_cod qk89 rfl) (by decide) rfl ?_
  refine ev_aload_n (q_cod qk89 rfl) (by decide) rfl ?_
  refine em_gI (q_cod qk89 rfl) (by decide) (by decide) hf (fun v1 hf => ?_)
  refine em_ic_ge (q_cod qk89 rfl) (by decide) hf (fun c8 hf => ?_) (fun c8 hf => ?_)
  · refine ev_aload_n (q_cod qk89 rfl) (by decide) rfl ?_
    refine em_gR (q_cod qk89 rfl) (by decide) (by decide) hf (fun r2 hf => ?_)
    refine ev_iload (q_cod qk89 rfl) (by decide) rfl ?_
    refine em_lI (q_cod qk89 rfl) (by decide) hf (fun v3 hf => ?_)
    refine ev_iload_n (q_cod qk89 rfl) (by decide) rfl ?_
    refine em_ic_ne (q_cod qk89 rfl) (by decide) hf (fun c7 hf => ?_) (fun c7 hf => ?_)
    · refine ev_aload_n (q_cod qk89 rfl) (by decide) rfl ?_
      refine ev_iload (q_cod qk89 rfl) (by decide) rfl ?_
      refine ev_iload_n (q_cod qk89 rfl) (by decide) rfl ?_
      refine ev_iload_n (q_cod qk89 rfl) (by decide) rfl ?_
      obtain ⟨g4, hf⟩ := m_aK_some hf
      refine em_call (v := (fun u => some (.int u))) (q_cod qk89 rfl) rfl rfl (q_cokV rfl rfl (Or.inr g4)) rfl (fun x e => f88_cl e) hf (fun v5 h hf => ?_)
      refine em_if_eq (q_cod qk89 rfl) (by decide) hf (fun c6 hf => ?_) (fun c6 hf => ?_)
      · exact (f89_37_ok hf hK)
      · obtain ⟨y0, hf0, hx⟩ := m_inr_some hf
        subst hx
        exact ev_weak (q_pk [4] rfl) (f89_34_ok hf0 hK)
    · exact (f89_37_ok hf hK)
  · obtain ⟨y0, hf0, hx⟩ := m_inr_some hf
    subst hx
    exact ev_weak (q_pk [] rfl) (f89_43_ok hf0 hK)
def f89_3 (l0 : Nat) (l1 : Int32) (l2 : Int32) (l3 : Int32) (l4 : Int32) : m_M Int32 := m_W (fun s => f89_3b (s.1) (s.2.1) (s.2.2.1) (s.2.2.2.1) (s.2.2.2.2)) 1000000 (l0, l1, l2, l3, l4)
theorem f89_3_ok {l0 : Nat} {l1 : Int32} {l2 : Int32} {l3 : Int32} {l4 : Int32} {h : q_H} {o : q_O} {hz : q_H} {x : Int32 × q_H} (hf : f89_3 l0 l1 l2 l3 l4 h = some x) (hK : (q_KI o hz) x) : q_Ev none 89 3 [(0, .ref l0), (1, .int l1), (2, .int l2), (3, .int l3), (4, .int l4)] [] h o hz :=
  m_W_ok (P := (fun (s : Nat × Int32 × Int32 × Int32 × Int32) (h : q_H) => q_Ev none 89 3 [(0, .ref (s.1)), (1, .int (s.2.1)), (2, .int (s.2.2.1)), (3, .int (s.2.2.2.1)), (4, .int (s.2.2.2.2))] [] h o hz)) (K := (q_KI o hz)) (fun s h x h1 h2 => f89_3b_ok h1 h2) _ (l0, l1, l2, l3, l4) _ _ hf hK
def f89 (l0 : Nat) (l1 : Int32) (l2 : Int32) (l3 : Int32) : m_M Int32 :=
  f89_3 l0 l1 l2 l3 0
theorem f89_ok {l0 : Nat} {l1 : Int32} {l2 : Int32} {l3 : Int32} {h : q_H} {o : q_O} {hz : q_H} {x : Int32 × q_H} (hf : f89 l0 l1 l2 l3 h = some x) (hK : (q_KI o hz) x) : q_Ev none 89 0 [(0, .ref l0), (1, .int l1), (2, .int l2), (3, .int l3)] [] h o hz := by
  unfold f89 at hf
  refine ev_ic (v := 0) (q_cod qk89 rfl) (by decide) (by decide) ?_
  refine ev_is2 (L' := [(0, .ref l0), (1, .int l1), (2, .int l2), (3, .int l3), (4, .int 0)]) (q_cod qk89 rfl) (by decide) rfl ?_
  exact (f89_3_ok hf hK)
theorem f89_cl {l0 : Nat} {l1 : Int32} {l2 : Int32} {l3 : Int32} {h : q_H} {x : Int32 × q_H} (hf : f89 l0 l1 l2 l3 h = some x) : q_Cl 89 [.ref l0, .int l1, .int l2, .int l3] h (.inl (some (.int x.1))) x.2 := q_Cl.of rfl (q_LvS rfl rfl) (f89_ok hf ⟨rfl, rfl⟩)
/-! SmithyBench$Mover.isGetting(LSmithyBench$Program;II)Z -/
theorem qk65 : q_cs.getD 65 [] = qc_65 := rfl
def f65_51 (s0 : Int32) : m_M Int32 :=
  m_B (m_G (s0 = 0 ∨ s0 = 1)) (fun _ => m_R s0)
theorem f65_51_ok {s0 : Int32} {h : q_H} {o : q_O} {hz : q_H} {x : Int32 × q_H} (hf : f65_51 s0 h = some x) (hK : (q_KI o hz) x) : q_Ev none 65 51 [] [.int s0] h o hz := by
  unfold f65_51 at hf
  obtain ⟨g1, hf⟩ := m_G_some hf
  obtain rfl := m_R_inv hf
  obtain ⟨rfl, rfl⟩ := (show q_KI o hz (s0, _) from hK)
  exact ev_ret (q_cod qk65 rfl) (q_retZ g1)
def f65_50  : m_M Int32 :=
  f65_51 0
theorem f65_50_ok  {h : q_H} {o : q_O} {hz : q_H} {x : Int32 × q_H} (hf : f65_50 h = some x) (hK : (q_KI o hz) x) : q_Ev none 65 50 [] [] h o hz := by
  unfold f65_50 at hf
  refine ev_ic (v := 0) (q_cod qk65 rfl) (by decide) (by decide) ?_
  exact (f65_51_ok hf hK)
def f65_20 (l0 : Nat) (l1 : Int32) (l2 : Int32) (s0 : Int32) : m_M Int32 :=
  if s0 = 0 then (f65_50) else (m_B (m_gR 7 l0 4) (fun r1 => m_B (m_lI r1 l1) (fun v2 => m_B (m_gR 7 l0 5) (fun r3 => m_B (m_lI r3 l1) (fun v4 => m_B (m_aK l0 7) (fun _ => m_B (f89 l0 l2 v2 v4) (fun v6 => if v6 = (-1) then (f65_51 1) else (f65_50))))))))
theorem f65_20_ok {l0 : Nat} {l1 : Int32} {l2 : Int32} {s0 : Int32} {h : q_H} {o : q_O} {hz : q_H} {x : Int32 × q_H} (hf : f65_20 l0 l1 l2 s0 h = some x) (hK : (q_KI o hz) x) : q_Ev none 65 20 [(0, .ref l0), (1, .int l1), (2, .int l2)] [.int s0] h o hz := by
  unfold f65_20 at hf
  refine ev_is1 (L' := [(0, .ref l0), (1, .int l1), (2, .int l2), (3, .int s0)]) (q_cod qk65 rfl) (by decide) rfl ?_
  refine ev_iload_n (q_cod qk65 rfl) (by decide) rfl ?_
  refine em_if_eq (q_cod qk65 rfl) (by decide) hf (fun c8 hf => ?_) (fun c8 hf => ?_)
  · exact ev_weak (q_pk [] rfl) (f65_50_ok hf hK)
  · refine ev_aload_n (q_cod qk65 rfl) (by decide) rfl ?_
    refine ev_iload_n (q_cod qk65 rfl) (by decide) rfl ?_
    refine ev_aload_n (q_cod qk65 rfl) (by decide) rfl ?_
    refine em_gR (q_cod qk65 rfl) (by decide) (by decide) hf (fun r1 hf => ?_)
    refine ev_iload_n (q_cod qk65 rfl) (by decide) rfl ?_
    refine em_lI (q_cod qk65 rfl) (by decide) hf (fun v2 hf => ?_)
    refine ev_aload_n (q_cod qk65 rfl) (by decide) rfl ?_
    refine em_gR (q_cod qk65 rfl) (by decide) (by decide) hf (fun r3 hf => ?_)
    refine ev_iload_n (q_cod qk65 rfl) (by decide) rfl ?_
    refine em_lI (q_cod qk65 rfl) (by decide) hf (fun v4 hf => ?_)
    obtain ⟨g5, hf⟩ := m_aK_some hf
    refine em_call (v := (fun u => some (.int u))) (q_cod qk65 rfl) rfl rfl (q_cokV rfl rfl (Or.inr g5)) rfl (fun x e => f89_cl e) hf (fun v6 h hf => ?_)
    refine ev_ic (v := (-1)) (q_cod qk65 rfl) (by decide) (by decide) ?_
    refine em_ic_ne (q_cod qk65 rfl) (by decide) hf (fun c7 hf => ?_) (fun c7 hf => ?_)
    · refine ev_ic (v := 1) (q_cod qk65 rfl) (by decide) (by decide) ?_
      refine ev_goto (q_cod qk65 rfl) (by decide) ?_
      exact ev_weak (q_pk [] rfl) (f65_51_ok hf hK)
    · exact ev_weak (q_pk [] rfl) (f65_50_ok hf hK)
def f65 (l0 : Nat) (l1 : Int32) (l2 : Int32) : m_M Int32 :=
  m_B (m_gR 7 l0 0) (fun r1 => m_B (m_lI r1 l2) (fun v2 => m_B (m_gR 7 l0 3) (fun r3 => m_B (m_lI r3 l1) (fun v4 => if v2 = v4 then (f65_20 l0 l1 l2 1) else (f65_20 l0 l1 l2 0)))))
theorem f65_ok {l0 : Nat} {l1 : Int32} {l2 : Int32} {h : q_H} {o : q_O} {hz : q_H} {x : Int32 × q_H} (hf : f65 l0 l1 l2 h = some x) (hK : (q_KI o hz) x) : q_Ev none 65 0 [(0, .ref l0), (1, .int l1), (2, .int l2)] [] h o hz := by
  unfold f65 at hf
  refine ev_aload_n (q_cod qk65 rfl) (by decide) rfl ?_
  refine em_gR (q_cod qk65 rfl) (by decide) (by decide) hf (fun r1 hf => ?_)
  refine ev_iload_n (q_cod qk65 rfl) (by decide) rfl ?_
  refine em_lI (q_cod qk65 rfl) (by decide) hf (fun v2 hf => ?_)
  refine ev_aload_n (q_cod qk65 rfl) (by decide) rfl ?_
  refine em_gR (q_cod qk65 rfl) (by decide) (by decide) hf (fun r3 hf => ?_)
  refine ev_iload_n (q_cod qk65 rfl) (by decide) rfl ?_
  refine em_lI (q_cod qk65 rfl) (by decide) hf (fun v4 hf => ?_)
  refine em_ic_ne (q_cod qk65 rfl) (by decide) hf (fun c5 hf => ?_) (fun c5 hf => ?_)
  · refine ev_ic (v := 1) (q_cod qk65 rfl) (by decide) (by decide) ?_
    refine ev_goto (q_cod qk65 rfl) (by decide) ?_
    exact (f65_20_ok hf hK)
  · refine ev_ic (v := 0) (q_cod qk65 rfl) (by decide) (by decide) ?_
    exact (f65_20_ok hf hK)
theorem f65_cl {l0 : Nat} {l1 : Int32} {l2 : Int32} {h : q_H} {x : Int32 × q_H} (hf : f65 l0 l1 l2 h = some x) : q_Cl 65 [.ref l0, .int l1, .int l2] h (.inl (some (.int x.1))) x.2 := q_Cl.of rfl (q_LvS rfl rfl) (f65_ok hf ⟨rfl, rfl⟩)
/-! SmithyBench$Program.addMethodLike(II)V -/
theorem qk77 : q_cs.getD 77 [] = qc_77 := rfl
def f77_65 (l0 : Nat) (l1 : Int32) (l3 : Int32) : m_M Unit :=
  m_B (m_gR 7 l0 9) (fun r1 => m_B (m_lR r1 l3) (fun r2 => m_B (m_gR 7 l0 9) (fun r3 => m_B (m_lR r3 l1) (fun r4 => m_B (m_aK r2 0) (fun _ => m_B (f7 r2 r4) (fun v6 => m_R ()))))))
theorem f77_65_ok {l0 : Nat} {l1 : Int32} {l3 : Int32} {h : q_H} {o : q_O} {hz : q_H} {x : Unit × q_H} (hf : f77_65 l0 l1 l3 h = some x) (hK : (m_KU o hz) x) : q_Ev none 77 65 [(0, .ref l0), (1, .int l1), (3, .int l3)] [] h o hz := by
  unfold f77_65 at hf
  refine ev_aload_n (q_cod qk77 rfl) (by decide) rfl ?_
  refine em_gR (q_cod qk77 rfl) (by decide) (by decide) hf (fun r1 hf => ?_)
  refine ev_iload_n (q_cod qk77 rfl) (by decide) rfl ?_
  refine em_lR (q_cod qk77 rfl) (by decide) hf (fun r2 hf => ?_)
  refine ev_aload_n (q_cod qk77 rfl) (by decide) rfl ?_
  refine em_gR (q_cod qk77 rfl) (by decide) (by decide) hf (fun r3 hf => ?_)
  refine ev_iload_n (q_cod qk77 rfl) (by decide) rfl ?_
  refine em_lR (q_cod qk77 rfl) (by decide) hf (fun r4 hf => ?_)
  obtain ⟨g5, hf⟩ := m_aK_some hf
  refine em_call (v := (fun u => some (.int u))) (q_cod qk77 rfl) rfl rfl (q_cokV rfl rfl (Or.inr g5)) rfl (fun x e => f7_cl e) hf (fun v6 h hf => ?_)
  refine ev_pop (q_cod qk77 rfl) (by decide) rfl ?_
  obtain rfl := m_R_inv hf
  obtain ⟨rfl, rfl⟩ := (show m_KU o hz ((), _) from hK)
  exact ev_ret (q_cod qk77 rfl) rfl
def f77_21b (l0 : Nat) (l1 : Int32) (l3 : Int32) (l4 : Int32) : m_M ((Nat × Int32 × Int32 × Int32) ⊕ Unit) :=
  m_B (m_gR 7 l0 5) (fun r1 => m_B (m_lI r1 l1) (fun v2 => if l4 < v2 then (m_B (m_gR 7 l0 6) (fun r3 => m_B (m_lI r3 ((l1 * 2) + l4)) (fun v4 => m_B (m_gR 7 l0 7) (fun r5 => m_B (m_lI r5 ((l1 * 2) + l4)) (fun v6 => m_B (m_aK l0 7) (fun _ => m_B (f75 l0 l3 v4 v6) (fun _ => m_R (.inl (l0, l1, l3, (l4 + 1)))))))))) else (m_B (f77_65 l0 l1 l3) (fun r => m_R (.inr r)))))
theorem f77_21b_ok {l0 : Nat} {l1 : Int32} {l3 : Int32} {l4 : Int32} {h : q_H} {o : q_O} {hz : q_H} {x : ((Nat × Int32 × Int32 × Int32) ⊕ Unit) × q_H} (hf : f77_21b l0 l1 l3 l4 h = some x) (hK : (m_yK (fun (s : Nat × Int32 × Int32 × Int32) (h : q_H) => q_Ev none 77 21 [(0, .ref (s.1)), (1, .int (s.2.1)), (3, .int (s.2.2.1)), (4, .int (s.2.2.2))] [] h o hz) (m_KU o hz)) x) : q_Ev none 77 21 [(0, .ref l0), (1, .int l1), (3, .int l3), (4, .int l4)] [] h o hz := by
  unfold f77_21b at hf
  refine ev_iload (q_cod qk77 rfl) (by decide) rfl ?_
  refine ev_aload_n (q_cod qk77 rfl) (by decide) rfl ?_
  refine em_gR (q_cod qk77 rfl) (by decide) (by decide) hf (fun r1 hf => ?_)
  refine ev_iload_n (q_cod qk77 rfl) (by decide) rfl ?_
  refine em_lI (q_cod qk77 rfl) (by decide) hf (fun v2 hf => ?_)
  refine em_ic_ge (q_cod qk77 rfl) (by decide) hf (fun c9 hf => ?_) (fun c9 hf => ?_)
  · refine ev_aload_n (q_cod qk77 rfl) (by decide) rfl ?_
    refine ev_iload_n (q_cod qk77 rfl) (by decide) rfl ?_
    refine ev_aload_n (q_cod qk77 rfl) (by decide) rfl ?_
    refine em_gR (q_cod qk77 rfl) (by decide) (by decide) hf (fun r3 hf => ?_)
    refine ev_iload_n (q_cod qk77 rfl) (by decide) rfl ?_
    refine ev_ic (v := 2) (q_cod qk77 rfl) (by decide) (by decide) ?_
    refine ev_imul (q_cod qk77 rfl) (by decide) ?_
    refine ev_iload (q_cod qk77 rfl) (by decide) rfl ?_
    refine ev_iadd (q_cod qk77 rfl) (by decide) ?_
    refine em_lI (q_cod qk77 rfl) (by decide) hf (fun v4 hf => ?_)
    refine ev_aload_n (q_cod qk77 rfl) (by decide) rfl ?_
    refine em_gR (q_cod qk77 rfl) (by decide) (by decide) hf (fun r5 hf => ?_)
    refine ev_iload_n (q_cod qk77 rfl) (by decide) rfl ?_
    refine ev_ic (v := 2) (q_cod qk77 rfl) (by decide) (by decide) ?_
    refine ev_imul (q_cod qk77 rfl) (by decide) ?_
    refine ev_iload (q_cod qk77 rfl) (by decide) rfl ?_
    refine ev_iadd (q_cod qk77 rfl) (by decide) ?_
    refine em_lI (q_cod qk77 rfl) (by decide) hf (fun v6 hf => ?_)
    obtain ⟨g7, hf⟩ := m_aK_some hf
    refine em_call (v := (fun _ => none)) (q_cod qk77 rfl) rfl rfl (q_cokV rfl rfl (Or.inr g7)) rfl (fun x e => f75_cl e) hf (fun _ h hf => ?_)
    refine ev_inc (v := l4 + 1) (L' := [(0, .ref l0), (1, .int l1), (3, .int l3), (4, .int (l4 + 1))]) (q_cod qk77 rfl) (by decide) rfl rfl rfl ?_
    refine ev_goto (q_cod qk77 rfl) (by decide) ?_
    obtain rfl := m_R_inv hf
    exact (show q_Ev none 77 21 [(0, .ref l0), (1, .int l1), (3, .int l3), (4, .int (l4 + 1))] [] _ o hz from hK)
  · obtain ⟨y0, hf0, hx⟩ := m_inr_some hf
    subst hx
    exact ev_weak (q_pk [0, 1, 2] rfl) (f77_65_ok hf0 hK)
def f77_21 (l0 : Nat) (l1 : Int32) (l3 : Int32) (l4 : Int32) : m_M Unit := m_W (fun s => f77_21b (s.1) (s.2.1) (s.2.2.1) (s.2.2.2)) 1000000 (l0, l1, l3, l4)
theorem f77_21_ok {l0 : Nat} {l1 : Int32} {l3 : Int32} {l4 : Int32} {h : q_H} {o : q_O} {hz : q_H} {x : Unit × q_H} (hf : f77_21 l0 l1 l3 l4 h = some x) (hK : (m_KU o hz) x) : q_Ev none 77 21 [(0, .ref l0), (1, .int l1), (3, .int l3), (4, .int l4)] [] h o hz :=
  m_W_ok (P := (fun (s : Nat × Int32 × Int32 × Int32) (h : q_H) => q_Ev none 77 21 [(0, .ref (s.1)), (1, .int (s.2.1)), (3, .int (s.2.2.1)), (4, .int (s.2.2.2))] [] h o hz)) (K := (m_KU o hz)) (fun s h x h1 h2 => f77_21b_ok h1 h2) _ (l0, l1, l3, l4) _ _ hf hK
def f77 (l0 : Nat) (l1 : Int32) (l2 : Int32) : m_M Unit :=
  m_B (m_gR 7 l0 4) (fun r1 => m_B (m_lI r1 l1) (fun v2 => m_B (m_gR 7 l0 8) (fun r3 => m_B (m_lI r3 l1) (fun v4 => m_B (m_aK l0 7) (fun _ => m_B (f74 l0 l2 v2 v4) (fun v6 => f77_21 l0 l1 v6 0))))))
theorem f77_ok {l0 : Nat} {l1 : Int32} {l2 : Int32} {h : q_H} {o : q_O} {hz : q_H} {x : Unit × q_H} (hf : f77 l0 l1 l2 h = some x) (hK : (m_KU o hz) x) : q_Ev none 77 0 [(0, .ref l0), (1, .int l1), (2, .int l2)] [] h o hz := by
  unfold f77 at hf
  refine ev_aload_n (q_cod qk77 rfl) (by decide) rfl ?_
  refine ev_iload_n (q_cod qk77 rfl) (by decide) rfl ?_
  refine ev_aload_n (q_cod qk77 rfl) (by decide) rfl ?_
  refine em_gR (q_cod qk77 rfl) (by decide) (by decide) hf (fun r1 hf => ?_)
  refine ev_iload_n (q_cod qk77 rfl) (by decide) rfl ?_
  refine em_lI (q_cod qk77 rfl) (by decide) hf (fun v2 hf => ?_)
  refine ev_aload_n (q_cod qk77 rfl) (by decide) rfl ?_
  refine em_gR (q_cod qk77 rfl) (by decide) (by decide) hf (fun r3 hf => ?_)
  refine ev_iload_n (q_cod qk77 rfl) (by decide) rfl ?_
  refine em_lI (q_cod qk77 rfl) (by decide) hf (fun v4 hf => ?_)
  obtain ⟨g5, hf⟩ := m_aK_some hf
  refine em_call (v := (fun u => some (.int u))) (q_cod qk77 rfl) rfl rfl (q_cokV rfl rfl (Or.inr g5)) rfl (fun x e => f74_cl e) hf (fun v6 h hf => ?_)
  refine ev_is1 (L' := [(0, .ref l0), (1, .int l1), (2, .int l2), (3, .int v6)]) (q_cod qk77 rfl) (by decide) rfl ?_
  refine ev_ic (v := 0) (q_cod qk77 rfl) (by decide) (by decide) ?_
  refine ev_is2 (L' := [(0, .ref l0), (1, .int l1), (2, .int l2), (3, .int v6), (4, .int 0)]) (q_cod qk77 rfl) (by decide) rfl ?_
  exact ev_weak (q_pk [0, 1, 3, 4] rfl) (f77_21_ok hf hK)
theorem f77_cl {l0 : Nat} {l1 : Int32} {l2 : Int32} {h : q_H} {x : Unit × q_H} (hf : f77 l0 l1 l2 h = some x) : q_Cl 77 [.ref l0, .int l1, .int l2] h (.inl none) x.2 := q_Cl.of rfl (q_LvS rfl rfl) (f77_ok hf ⟨rfl, rfl⟩)
/-! SmithyBench$Mover.spread(LSmithyBench$Program;LSmithyBench$Program;I)V -/
theorem qk66 : q_cs.getD 66 [] = qc_66 := rfl
def f66_51 (l0 : Nat) (l1 : Nat) (l2 : Int32) (l3 : Int32) (l4 : Int32) : m_M ((Nat × Nat × Int32 × Int32 × Int32) ⊕ Unit) :=
  m_R (.inl (l0, l1, l2, l3, (l4 + 1)))
theorem f66_51_ok {l0 : Nat} {l1 : Nat} {l2 : Int32} {l3 : Int32} {l4 : Int32} {h : q_H} {o : q_O} {hz : q_H} {x : ((Nat × Nat × Int32 × Int32 × Int32) ⊕ Unit) × q_H} (hf : f66_51 l0 l1 l2 l3 l4 h = some x) (hK : (m_yK (fun (s : Nat × Nat × Int32 × Int32 × Int32) (h : q_H) => q_Ev none 66 5 [(0, .ref (s.1)), (1, .ref (s.2.1)), (2, .int (s.2.2.1)), (3, .int (s.2.2.2.1)), (4, .int (s.2.2.2.2))] [] h o hz) (m_KU o hz)) x) : q_Ev none 66 51 [(0, .ref l0), (1, .ref l1), (2, .int l2), (3, .int l3), (4, .int l4)] [] h o hz := by
  unfold f66_51 at hf
  refine ev_inc (v := l4 + 1) (L' := [(0, .ref l0), (1, .ref l1), (2, .int l2), (3, .int l3), (4, .int (l4 + 1))]) (q_cod qk66 rfl) (by decide) rfl rfl rfl ?_
  refine ev_goto (q_cod qk66 rfl) (by decide) ?_
  obtain rfl := m_R_inv hf
  exact (show q_Ev none 66 5 [(0, .ref l0), (1, .ref l1), (2, .int l2), (3, .int l3), (4, .int (l4 + 1))] [] _ o hz from hK)
def f66_49 (l0 : Nat) (l1 : Nat) (l2 : Int32) (l4 : Int32) : m_M ((Nat × Nat × Int32 × Int32 × Int32) ⊕ Unit) :=
  f66_51 l0 l1 l2 1 l4
theorem f66_49_ok {l0 : Nat} {l1 : Nat} {l2 : Int32} {l4 : Int32} {h : q_H} {o : q_O} {hz : q_H} {x : ((Nat × Nat × Int32 × Int32 × Int32) ⊕ Unit) × q_H} (hf : f66_49 l0 l1 l2 l4 h = some x) (hK : (m_yK (fun (s : Nat × Nat × Int32 × Int32 × Int32) (h : q_H) => q_Ev none 66 5 [(0, .ref (s.1)), (1, .ref (s.2.1)), (2, .int (s.2.2.1)), (3, .int (s.2.2.2.1)), (4, .int (s.2.2.2.2))] [] h o hz) (m_KU o hz)) x) : q_Ev none 66 49 [(0, .ref l0), (1, .ref l1), (2, .int l2), (4, .int l4)] [] h o hz := by
  unfold f66_49 at hf
  refine ev_ic (v := 1) (q_cod qk66 rfl) (by decide) (by decide) ?_
  refine ev_is1 (L' := [(0, .ref l0), (1, .ref l1), (2, .int l2), (3, .int 1), (4, .int l4)]) (q_cod qk66 rfl) (by decide) rfl ?_
  exact (f66_51_ok hf hK)
def f66_75  : m_M Unit :=
  m_R ()
theorem f66_75_ok  {h : q_H} {o : q_O} {hz : q_H} {x : Unit × q_H} (hf : f66_75 h = some x) (hK : (m_KU o hz) x) : q_Ev none 66 75 [] [] h o hz := by
  unfold f66_75 at hf
  obtain rfl := m_R_inv hf
  obtain ⟨rfl, rfl⟩ := (show m_KU o hz ((), _) from hK)
  exact ev_ret (q_cod qk66 rfl) rfl
def f66_57 (l1 : Nat) (l2 : Int32) (l3 : Int32) : m_M Unit :=
  if l3 = 0 then (m_B (m_gI 7 l1 12) (fun v1 => m_B (m_pI 7 l1 12 (v1 &&& ((1 <<< (l2 &&& 31)) ^^^ (-1)))) (fun _ => f66_75))) else (f66_75)
theorem f66_57_ok {l1 : Nat} {l2 : Int32} {l3 : Int32} {h : q_H} {o : q_O} {hz : q_H} {x : Unit × q_H} (hf : f66_57 l1 l2 l3 h = some x) (hK : (m_KU o hz) x) : q_Ev none 66 57 [(1, .ref l1), (2, .int l2), (3, .int l3)] [] h o hz := by
  unfold f66_57 at hf
  refine ev_iload_n (q_cod qk66 rfl) (by decide) rfl ?_
  refine em_if_ne (q_cod qk66 rfl) (by decide) hf (fun c2 hf => ?_) (fun c2 hf => ?_)
  · refine ev_aload_n (q_cod qk66 rfl) (by decide) rfl ?_
    refine ev_dup (q_cod qk66 rfl) (by decide) rfl ?_
    refine em_gI (q_cod qk66 rfl) (by decide) (by decide) hf (fun v1 hf => ?_)
    refine ev_ic (v := 1) (q_cod qk66 rfl) (by decide) (by decide) ?_
    refine ev_iload_n (q_cod qk66 rfl) (by decide) rfl ?_
    refine ev_ishl (q_cod qk66 rfl) (by decide) ?_
    refine ev_ic (v := (-1)) (q_cod qk66 rfl) (by decide) (by decide) ?_
    refine ev_ixor (q_cod qk66 rfl) (by decide) ?_
    refine ev_iand (q_cod qk66 rfl) (by decide) ?_
    refine em_pI (q_cod qk66 rfl) (by decide) (by decide) (by decide) hf (fun hf => ?_)
    exact ev_weak (q_pk [] rfl) (f66_75_ok hf hK)
  · exact ev_weak (q_pk [] rfl) (f66_75_ok hf hK)
def f66_5b (l0 : Nat) (l1 : Nat) (l2 : Int32) (l3 : Int32) (l4 : Int32) : m_M ((Nat × Nat × Int32 × Int32 × Int32) ⊕ Unit) :=
  m_B (m_gI 7 l0 10) (fun v1 => if l4 < v1 then (m_B (f65 l0 l2 l4) (fun v2 => if v2 = 0 then (f66_51 l0 l1 l2 l3 l4) else (if l3 = 0 then (m_B (m_gR 7 l1 3) (fun r3 => m_B (m_wI r3 l2 l4) (fun _ => f66_49 l0 l1 l2 l4))) else (m_B (m_aK l1 7) (fun _ => m_B (f77 l1 l2 l4) (fun _ => f66_49 l0 l1 l2 l4)))))) else (m_B (f66_57 l1 l2 l3) (fun r => m_R (.inr r))))
theorem f66_5b_ok {l0 : Nat} {l1 : Nat} {l2 : Int32} {l3 : Int32} {l4 : Int32} {h : q_H} {o : q_O} {hz : q_H} {x : ((Nat × Nat × Int32 × Int32 × Int32) ⊕ Unit) × q_H} (hf : f66_5b l0 l1 l2 l3 l4 h = some x) (hK : (m_yK (fun (s : Nat × Nat × Int32 × Int32 × Int32) (h : q_H) => q_Ev none 66 5 [(0, .ref (s.1)), (1, .ref (s.2.1)), (2, .int (s.2.2.1)), (3, .int (s.2.2.2.1)), (4, .int (s.2.2.2.2))] [] h o hz) (m_KU o hz)) x) : q_Ev none 66 5 [(0, .ref l0), (1, .ref l1), (2, .int l2), (3, .int l3), (4, .int l4)] [] h o hz := by
  unfold f66_5b at hf
  refine ev_iload (q_cod qk66 rfl) (by decide) rfl ?_
  refine ev_aload_n (q_cod qk66 rfl) (by decide) rfl ?_
  refine em_gI (q_cod qk66 rfl) (by decide) (by decide) hf (fun v1 hf => ?_)
  refine em_ic_ge (q_cod qk66 rfl) (by decide) hf (fun c8 hf => ?_) (fun c8 hf => ?_)
  · refine ev_aload_n (q_cod qk66 rfl) (by decide) rfl ?_
    refine ev_iload_n (q_cod qk66 rfl) (by decide) rfl ?_
    refine ev_iload (q_cod qk66 rfl) (by decide) rfl ?_
    refine em_call (v := (fun u => some (.int u))) (q_cod qk66 rfl) rfl rfl (q_cokS rfl rfl) rfl (fun x e => f65_cl e) hf (fun v2 h hf => ?_)
    refine em_if_ne (q_cod qk66 rfl) (by decide) hf (fun c7 hf => ?_) (fun c7 hf => ?_)
    · refine ev_goto (q_cod qk66 rfl) (by decide) ?_
      exact (f66_51_ok hf hK)
    · refine ev_iload_n (q_cod qk66 rfl) (by decide) rfl ?_
      refine em_if_eq (q_cod qk66 rfl) (by decide) hf (fun c6 hf => ?_) (fun c6 hf => ?_)
      · refine ev_aload_n (q_cod qk66 rfl) (by decide) rfl ?_
        refine em_gR (q_cod qk66 rfl) (by decide) (by decide) hf (fun r3 hf => ?_)
        refine ev_iload_n (q_cod qk66 rfl) (by decide) rfl ?_
        refine ev_iload (q_cod qk66 rfl) (by decide) rfl ?_
        refine em_wI (q_cod qk66 rfl) (by decide) hf (fun hf => ?_)
        exact ev_weak (q_pk [0, 1, 2, 4] rfl) (f66_49_ok hf hK)
      · refine ev_aload_n (q_cod qk66 rfl) (by decide) rfl ?_
        refine ev_iload_n (q_cod qk66 rfl) (by decide) rfl ?_
        refine ev_iload (q_cod qk66 rfl) (by decide) rfl ?_
        obtain ⟨g4, hf⟩ := m_aK_some hf
        refine em_call (v := (fun _ => none)) (q_cod qk66 rfl) rfl rfl (q_cokV rfl rfl (Or.inr g4)) rfl (fun x e => f77_cl e) hf (fun _ h hf => ?_)
        refine ev_goto (q_cod qk66 rfl) (by decide) ?_
        exact ev_weak (q_pk [0, 1, 2, 4] rfl) (f66_49_ok hf hK)
  · obtain ⟨y0, hf0, hx⟩ := m_inr_some hf
    subst hx
    exact ev_weak (q_pk [1, 2, 3] rfl) (f66_57_ok hf0 hK)
def f66_5 (l0 : Nat) (l1 : Nat) (l2 : Int32) (l3 : Int32) (l4 : Int32) : m_M Unit := m_W (fun s => f66_5b (s.1) (s.2.1) (s.2.2.1) (s.2.2.2.1) (s.2.2.2.2)) 1000000 (l0, l1, l2, l3, l4)
theorem f66_5_ok {l0 : Nat} {l1 : Nat} {l2 : Int32} {l3 : Int32} {l4 : Int32} {h : q_H} {o : q_O} {hz : q_H} {x : Unit × q_H} (hf : f66_5 l0 l1 l2 l3 l4 h = some x) (hK : (m_KU o hz) x) : q_Ev none 66 5 [(0, .ref l0), (1, .ref l1), (2, .int l2), (3, .int l3), (4, .int l4)] [] h o hz :=
  m_W_ok (P := (fun (s : Nat × Nat × Int32 × Int32 × Int32) (h : q_H) => q_Ev none 66 5 [(0, .ref (s.1)), (1, .ref (s.2.1)), (2, .int (s.2.2.1)), (3, .int (s.2.2.2.1)), (4, .int (s.2.2.2.2))] [] h o hz)) (K := (m_KU o hz)) (fun s h x h1 h2 => f66_5b_ok h1 h2) _ (l0, l1, l2, l3, l4) _ _ hf hK
def f66 (l0 : Nat) (l1 : Nat) (l2 : Int32) : m_M Unit :=
  f66_5 l0 l1 l2 0 0
theorem f66_ok {l0 : Nat} {l1 : Nat} {l2 : Int32} {h : q_H} {o : q_O} {hz : q_H} {x : Unit × q_H} (hf : f66 l0 l1 l2 h = some x) (hK : (m_KU o hz) x) : q_Ev none 66 0 [(0, .ref l0), (1, .ref l1), (2, .int l2)] [] h o hz := by
  unfold f66 at hf
  refine ev_ic (v := 0) (q_cod qk66 rfl) (by decide) (by decide) ?_
  refine ev_is1 (L' := [(0, .ref l0), (1, .ref l1), (2, .int l2), (3, .int 0)]) (q_cod qk66 rfl) (by decide) rfl ?_
  refine ev_ic (v := 0) (q_cod qk66 rfl) (by decide) (by decide) ?_
  refine ev_is2 (L' := [(0, .ref l0), (1, .ref l1), (2, .int l2), (3, .int 0), (4, .int 0)]) (q_cod qk66 rfl) (by decide) rfl ?_
  exact (f66_5_ok hf hK)
theorem f66_cl {l0 : Nat} {l1 : Nat} {l2 : Int32} {h : q_H} {x : Unit × q_H} (hf : f66 l0 l1 l2 h = some x) : q_Cl 66 [.ref l0, .ref l1, .int l2] h (.inl none) x.2 := q_Cl.of rfl (q_LvS rfl rfl) (f66_ok hf ⟨rfl, rfl⟩)
/-! SmithyBench$Mover.moveDown(LSmithyBench$Program;LSmithyBench$Program;I)I -/
theorem qk61 : q_cs.getD 61 [] = qc_61 := rfl
def f61_108 (l0 : Nat) (l1 : Nat) (l2 : Nat) (l3 : Int32) (l6 : Int32) (l7 : Int32) : m_M ((Nat × Nat × Nat × Int32 × Int32 × Int32) ⊕ Int32) :=
  m_R (.inl (l0, l1, l2, l3, l6, (l7 + 1)))
theorem f61_108_ok {l0 : Nat} {l1 : Nat} {l2 : Nat} {l3 : Int32} {l6 : Int32} {l7 : Int32} {h : q_H} {o : q_O} {hz : q_H} {x : ((Nat × Nat × Nat × Int32 × Int32 × Int32) ⊕ Int32) × q_H} (hf : f61_108 l0 l1 l2 l3 l6 l7 h = some x) (hK : (m_yK (fun (s : Nat × Nat × Nat × Int32 × Int32 × Int32) (h : q_H) => q_Ev none 61 86 [(0, .ref (s.1)), (1, .ref (s.2.1)), (2, .ref (s.2.2.1)), (3, .int (s.2.2.2.1)), (6, .int (s.2.2.2.2.1)), (7, .int (s.2.2.2.2.2))] [] h o hz) (q_KI o hz)) x) : q_Ev none 61 108 [(0, .ref l0), (1, .ref l1), (2, .ref l2), (3, .int l3), (6, .int l6), (7, .int l7)] [] h o hz := by
  unfold f61_108 at hf
  refine ev_inc (v := l7 + 1) (L' := [(0, .ref l0), (1, .ref l1), (2, .ref l2), (3, .int l3), (6, .int l6), (7, .int (l7 + 1))]) (q_cod qk61 rfl) (by decide) rfl rfl rfl ?_
  refine ev_goto (q_cod qk61 rfl) (by decide) ?_
  obtain rfl := m_R_inv hf
  exact (show q_Ev none 61 86 [(0, .ref l0), (1, .ref l1), (2, .ref l2), (3, .int l3), (6, .int l6), (7, .int (l7 + 1))] [] _ o hz from hK)
def f61_155 (s0 : Int32) : m_M Int32 :=
  m_R s0
theorem f61_155_ok {s0 : Int32} {h : q_H} {o : q_O} {hz : q_H} {x : Int32 × q_H} (hf : f61_155 s0 h = some x) (hK : (q_KI o hz) x) : q_Ev none 61 155 [] [.int s0] h o hz := by
  unfold f61_155 at hf
  obtain rfl := m_R_inv hf
  obtain ⟨rfl, rfl⟩ := (show q_KI o hz (s0, _) from hK)
  exact ev_ret (q_cod qk61 rfl) rfl
def f61_114 (l0 : Nat) (l1 : Nat) (l2 : Nat) (l3 : Int32) (l6 : Int32) : m_M Int32 :=
  m_B (m_gI 7 l1 11) (fun v1 => if 24 < ((v1 + l6) - 1) then (m_R (-6)) else (m_B (f66 l1 l2 l3) (fun _ => m_B (m_gR 6 l0 0) (fun r3 => m_B (m_aK r3 1) (fun _ => m_B (f21 r3 l2) (fun v5 => if v5 = 0 then (f61_155 (-8)) else (f61_155 l6)))))))
theorem f61_114_ok {l0 : Nat} {l1 : Nat} {l2 : Nat} {l3 : Int32} {l6 : Int32} {h : q_H} {o : q_O} {hz : q_H} {x : Int32 × q_H} (hf : f61_114 l0 l1 l2 l3 l6 h = some x) (hK : (q_KI o hz) x) : q_Ev none 61 114 [(0, .ref l0), (1, .ref l1), (2, .ref l2), (3, .int l3), (6, .int l6)] [] h o hz := by
  unfold f61_114 at hf
  refine ev_aload_n (q_cod qk61 rfl) (by decide) rfl ?_
  refine em_gI (q_cod qk61 rfl) (by decide) (by decide) hf (fun v1 hf => ?_)
  refine ev_iload (q_cod qk61 rfl) (by decide) rfl ?_
  refine ev_iadd (q_cod qk61 rfl) (by decide) ?_
  refine ev_ic (v := 1) (q_cod qk61 rfl) (by decide) (by decide) ?_
  refine ev_isub (q_cod qk61 rfl) (by decide) ?_
  refine ev_bi (v := 24) (q_cod qk61 rfl) (by decide) (by decide) ?_
  refine em_ic_le (q_cod qk61 rfl) (by decide) hf (fun c7 hf => ?_) (fun c7 hf => ?_)
  · refine ev_bi (v := (-6)) (q_cod qk61 rfl) (by decide) (by decide) ?_
    obtain rfl := m_R_inv hf
    obtain ⟨rfl, rfl⟩ := (show q_KI o hz ((-6), _) from hK)
    exact ev_ret (q_cod qk61 rfl) rfl
  · refine ev_aload_n (q_cod qk61 rfl) (by decide) rfl ?_
    refine ev_aload_n (q_cod qk61 rfl) (by decide) rfl ?_
    refine ev_iload_n (q_cod qk61 rfl) (by decide) rfl ?_
    refine em_call (v := (fun _ => none)) (q_cod qk61 rfl) rfl rfl (q_cokS rfl rfl) rfl (fun x e => f66_cl e) hf (fun _ h hf => ?_)
    refine ev_aload_n (q_cod qk61 rfl) (by decide) rfl ?_
    refine em_gR (q_cod qk61 rfl) (by decide) (by decide) hf (fun r3 hf => ?_)
    refine ev_aload_n (q_cod qk61 rfl) (by decide) rfl ?_
    obtain ⟨g4, hf⟩ := m_aK_some hf
    refine em_call (v := (fun u => some (.int u))) (q_cod qk61 rfl) rfl rfl (q_cokV rfl rfl (Or.inr g4)) rfl (fun x e => f21_cl e) hf (fun v5 h hf => ?_)
    refine em_if_eq (q_cod qk61 rfl) (by decide) hf (fun c6 hf => ?_) (fun c6 hf => ?_)
    · refine ev_bi (v := (-8)) (q_cod qk61 rfl) (by decide) (by decide) ?_
      exact ev_weak (q_pk [] rfl) (f61_155_ok hf hK)
    · refine ev_iload (q_cod qk61 rfl) (by decide) rfl ?_
      refine ev_goto (q_cod qk61 rfl) (by decide) ?_
      exact ev_weak (q_pk [] rfl) (f61_155_ok hf hK)
def f61_86b (l0 : Nat) (l1 : Nat) (l2 : Nat) (l3 : Int32) (l6 : Int32) (l7 : Int32) : m_M ((Nat × Nat × Nat × Int32 × Int32 × Int32) ⊕ Int32) :=
  m_B (m_gI 7 l1 10) (fun v1 => if l7 < v1 then (m_B (f65 l1 l3 l7) (fun v2 => if v2 = 0 then (f61_108 l0 l1 l2 l3 l6 l7) else (f61_108 l0 l1 l2 l3 (l6 + 1) l7))) else (m_B (f61_114 l0 l1 l2 l3 l6) (fun r => m_R (.inr r))))
theorem f61_86b_ok {l0 : Nat} {l1 : Nat} {l2 : Nat} {l3 : Int32} {l6 : Int32} {l7 : Int32} {h : q_H} {o : q_O} {hz : q_H} {x : ((Nat × Nat × Nat × Int32 × Int32 × Int32) ⊕ Int32) × q_H} (hf : f61_86b l0 l1 l2 l3 l6 l7 h = some x) (hK : (m_yK (fun (s : Nat × Nat × Nat × Int32 × Int32 × Int32) (h : q_H) => q_Ev none 61 86 [(0, .ref (s.1)), (1, .ref (s.2.1)), (2, .ref (s.2.2.1)), (3, .int (s.2.2.2.1)), (6, .int (s.2.2.2.2.1)), (7, .int (s.2.2.2.2.2))] [] h o hz) (q_KI o hz)) x) : q_Ev none 61 86 [(0, .ref l0), (1, .ref l1), (2, .ref l2), (3, .int l3), (6, .int l6), (7, .int l7)] [] h o hz := by
  unfold f61_86b at hf
  refine ev_iload (q_cod qk61 rfl) (by decide) rfl ?_
  refine ev_aload_n (q_cod qk61 rfl) (by decide) rfl ?_
  refine em_gI (q_cod qk61 rfl) (by decide) (by decide) hf (fun v1 hf => ?_)
  refine em_ic_ge (q_cod qk61 rfl) (by decide) hf (fun c4 hf => ?_) (fun c4 hf => ?_)
  · refine ev_aload_n (q_cod qk61 rfl) (by decide) rfl ?_
    refine ev_iload_n (q_cod qk61 rfl) (by decide) rfl ?_
    refine ev_iload (q_cod qk61 rfl) (by decide) rfl ?_
    refine em_call (v := (fun u => some (.int u))) (q_cod qk61 rfl) rfl rfl (q_cokS rfl rfl) rfl (fun x e => f65_cl e) hf (fun v2 h hf => ?_)
    refine em_if_eq (q_cod qk61 rfl) (by decide) hf (fun c3 hf => ?_) (fun c3 hf => ?_)
    · exact (f61_108_ok hf hK)
    · refine ev_inc (v := l6 + 1) (L' := [(0, .ref l0), (1, .ref l1), (2, .ref l2), (3, .int l3), (6, .int (l6 + 1)), (7, .int l7)]) (q_cod qk61 rfl) (by decide) rfl rfl rfl ?_
      exact (f61_108_ok hf hK)
  · obtain ⟨y0, hf0, hx⟩ := m_inr_some hf
    subst hx
    exact ev_weak (q_pk [0, 1, 2, 3, 4] rfl) (f61_114_ok hf0 hK)
def f61_86 (l0 : Nat) (l1 : Nat) (l2 : Nat) (l3 : Int32) (l6 : Int32) (l7 : Int32) : m_M Int32 := m_W (fun s => f61_86b (s.1) (s.2.1) (s.2.2.1) (s.2.2.2.1) (s.2.2.2.2.1) (s.2.2.2.2.2)) 1000000 (l0, l1, l2, l3, l6, l7)
theorem f61_86_ok {l0 : Nat} {l1 : Nat} {l2 : Nat} {l3 : Int32} {l6 : Int32} {l7 : Int32} {h : q_H} {o : q_O} {hz : q_H} {x : Int32 × q_H} (hf : f61_86 l0 l1 l2 l3 l6 l7 h = some x) (hK : (q_KI o hz) x) : q_Ev none 61 86 [(0, .ref l0), (1, .ref l1), (2, .ref l2), (3, .int l3), (6, .int l6), (7, .int l7)] [] h o hz :=
  m_W_ok (P := (fun (s : Nat × Nat × Nat × Int32 × Int32 × Int32) (h : q_H) => q_Ev none 61 86 [(0, .ref (s.1)), (1, .ref (s.2.1)), (2, .ref (s.2.2.1)), (3, .int (s.2.2.2.1)), (6, .int (s.2.2.2.2.1)), (7, .int (s.2.2.2.2.2))] [] h o hz)) (K := (q_KI o hz)) (fun s h x h1 h2 => f61_86b_ok h1 h2) _ (l0, l1, l2, l3, l6, l7) _ _ hf hK
def f61_80 (l0 : Nat) (l1 : Nat) (l2 : Nat) (l3 : Int32) : m_M Int32 :=
  f61_86 l0 l1 l2 l3 0 0
theorem f61_80_ok {l0 : Nat} {l1 : Nat} {l2 : Nat} {l3 : Int32} {h : q_H} {o : q_O} {hz : q_H} {x : Int32 × q_H} (hf : f61_80 l0 l1 l2 l3 h = some x) (hK : (q_KI o hz) x) : q_Ev none 61 80 [(0, .ref l0), (1, .ref l1), (2, .ref l2), (3, .int l3)] [] h o hz := by
  unfold f61_80 at hf
  refine ev_ic (v := 0) (q_cod qk61 rfl) (by decide) (by decide) ?_
  refine ev_is2 (L' := [(0, .ref l0), (1, .ref l1), (2, .ref l2), (3, .int l3), (6, .int 0)]) (q_cod qk61 rfl) (by decide) rfl ?_
  refine ev_ic (v := 0) (q_cod qk61 rfl) (by decide) (by decide) ?_
  refine ev_is2 (L' := [(0, .ref l0), (1, .ref l1), (2, .ref l2), (3, .int l3), (6, .int 0), (7, .int 0)]) (q_cod qk61 rfl) (by decide) rfl ?_
  exact (f61_86_ok hf hK)
def f61_37  : m_M Int32 :=
  m_R (-9)
theorem f61_37_ok  {h : q_H} {o : q_O} {hz : q_H} {x : Int32 × q_H} (hf : f61_37 h = some x) (hK : (q_KI o hz) x) : q_Ev none 61 37 [] [] h o hz := by
  unfold f61_37 at hf
  refine ev_bi (v := (-9)) (q_cod qk61 rfl) (by decide) (by decide) ?_
  obtain rfl := m_R_inv hf
  obtain ⟨rfl, rfl⟩ := (show q_KI o hz ((-9), _) from hK)
  exact ev_ret (q_cod qk61 rfl) rfl
def f61 (l0 : Nat) (l1 : Nat) (l2 : Nat) (l3 : Int32) : m_M Int32 :=
  m_B (m_gR 7 l1 3) (fun r1 => m_B (m_lI r1 l3) (fun v2 => m_B (f62 l1 v2) (fun v3 => if v3 = 0 then (m_R (-10)) else (m_B (f63 l1 v2) (fun v4 => if v4 = 0 then (m_B (f64 l1 l3) (fun v5 => if v5 = 0 then (m_B (m_gR 7 l1 0) (fun r6 => m_B (m_lI r6 v2) (fun v7 => if v7 = (-1) then (f61_80 l0 l1 l2 l3) else (m_B (m_gR 7 l1 4) (fun r8 => m_B (m_lI r8 l3) (fun v9 => m_B (m_gR 7 l1 5) (fun r10 => m_B (m_lI r10 l3) (fun v11 => m_B (m_aK l1 7) (fun _ => m_B (f90 l1 v7 v9 v11) (fun v13 => if v13 = (-1) then (f61_80 l0 l1 l2 l3) else (m_R (-11)))))))))))) else (f61_37))) else (f61_37))))))
theorem f61_ok {l0 : Nat} {l1 : Nat} {l2 : Nat} {l3 : Int32} {h : q_H} {o : q_O} {hz : q_H} {x : Int32 × q_H} (hf : f61 l0 l1 l2 l3 h = some x) (hK : (q_KI o hz) x) : q_Ev none 61 0 [(0, .ref l0), (1, .ref l1), (2, .ref l2), (3, .int l3)] [] h o hz := by
  unfold f61 at hf
  refine ev_aload_n (q_cod qk61 rfl) (by decide) rfl ?_
  refine em_gR (q_cod qk61 rfl) (by decide) (by decide) hf (fun r1 hf => ?_)
  refine ev_iload_n (q_cod qk61 rfl) (by decide) rfl ?_
  refine em_lI (q_cod qk61 rfl) (by decide) hf (fun v2 hf => ?_)
  refine ev_is2 (L' := [(0, .ref l0), (1, .ref l1), (2, .ref l2), (3, .int l3), (4, .int v2)]) (q_cod qk61 rfl) (by decide) rfl ?_
  refine ev_aload_n (q_cod qk61 rfl) (by decide) rfl ?_
  refine ev_iload (q_cod qk61 rfl) (by decide) rfl ?_
  refine em_call (v := (fun u => some (.int u))) (q_cod qk61 rfl) rfl rfl (q_cokS rfl rfl) rfl (fun x e => f62_cl e) hf (fun v3 h hf => ?_)
  refine em_if_ne (q_cod qk61 rfl) (by decide) hf (fun c18 hf => ?_) (fun c18 hf => ?_)
  · refine ev_bi (v := (-10)) (q_cod qk61 rfl) (by decide) (by decide) ?_
    obtain rfl := m_R_inv hf
    obtain ⟨rfl, rfl⟩ := (show q_KI o hz ((-10), _) from hK)
    exact ev_ret (q_cod qk61 rfl) rfl
  · refine ev_aload_n (q_cod qk61 rfl) (by decide) rfl ?_
    refine ev_iload (q_cod qk61 rfl) (by decide) rfl ?_
    refine em_call (v := (fun u => some (.int u))) (q_cod qk61 rfl) rfl rfl (q_cokS rfl rfl) rfl (fun x e => f63_cl e) hf (fun v4 h hf => ?_)
    refine em_if_ne (q_cod qk61 rfl) (by decide) hf (fun c17 hf => ?_) (fun c17 hf => ?_)
    · refine ev_aload_n (q_cod qk61 rfl) (by decide) rfl ?_
      refine ev_iload_n (q_cod qk61 rfl) (by decide) rfl ?_
      refine em_call (v := (fun u => some (.int u))) (q_cod qk61 rfl) rfl rfl (q_cokS rfl rfl) rfl (fun x e => f64_cl e) hf (fun v5 h hf => ?_)
      refine em_if_eq (q_cod qk61 rfl) (by decide) hf (fun c16 hf => ?_) (fun c16 hf => ?_)
      · refine ev_aload_n (q_cod qk61 rfl) (by decide) rfl ?_
        refine em_gR (q_cod qk61 rfl) (by decide) (by decide) hf (fun r6 hf => ?_)
        refine ev_iload (q_cod qk61 rfl) (by decide) rfl ?_
        refine em_lI (q_cod qk61 rfl) (by decide) hf (fun v7 hf => ?_)
        refine ev_is2 (L' := [(0, .ref l0), (1, .ref l1), (2, .ref l2), (3, .int l3), (4, .int v2), (5, .int v7)]) (q_cod qk61 rfl) (by decide) rfl ?_
        refine ev_iload (q_cod qk61 rfl) (by decide) rfl ?_
        refine ev_ic (v := (-1)) (q_cod qk61 rfl) (by decide) (by decide) ?_
        refine em_ic_eq (q_cod qk61 rfl) (by decide) hf (fun c15 hf => ?_) (fun c15 hf => ?_)
        · exact ev_weak (q_pk [0, 1, 2, 3] rfl) (f61_80_ok hf hK)
        · refine ev_aload_n (q_cod qk61 rfl) (by decide) rfl ?_
          refine ev_iload (q_cod qk61 rfl) (by decide) rfl ?_
          refine ev_aload_n (q_cod qk61 rfl) (by decide) rfl ?_
          refine em_gR (q_cod qk61 rfl) (by decide) (by decide) hf (fun r8 hf => ?_)
          refine ev_iload_n (q_cod qk61 rfl) (by decide) rfl ?_
          refine em_lI (q_cod qk61 rfl) (by decide) hf (fun v9 hf => ?_)
          refine ev_aload_n (q_cod qk61 rfl) (by decide) rfl ?_
          refine em_gR (q_cod qk61 rfl) (by decide) (by decide) hf (fun r10 hf => ?_)
          refine ev_iload_n (q_cod qk61 rfl) (by decide) rfl ?_
          refine em_lI (q_cod qk61 rfl) (by decide) hf (fun v11 hf => ?_)
          obtain ⟨g12, hf⟩ := m_aK_some hf
          refine em_call (v := (fun u => some (.int u))) (q_cod qk61 rfl) rfl rfl (q_cokV rfl rfl (Or.inr g12)) rfl (fun x e => f90_cl e) hf (fun v13 h hf => ?_)
          refine ev_ic (v := (-1)) (q_cod qk61 rfl) (by decide) (by decide) ?_
          refine em_ic_eq (q_cod qk61 rfl) (by decide) hf (fun c14 hf => ?_) (fun c14 hf => ?_)
          · exact ev_weak (q_pk [0, 1, 2, 3] rfl) (f61_80_ok hf hK)
          · refine ev_bi (v := (-11)) (q_cod qk61 rfl) (by decide) (by decide) ?_
            obtain rfl := m_R_inv hf
            obtain ⟨rfl, rfl⟩ := (show q_KI o hz ((-11), _) from hK)
            exact ev_ret (q_cod qk61 rfl) rfl
      · exact ev_weak (q_pk [] rfl) (f61_37_ok hf hK)
    · exact ev_weak (q_pk [] rfl) (f61_37_ok hf hK)
theorem f61_cl {l0 : Nat} {l1 : Nat} {l2 : Nat} {l3 : Int32} {h : q_H} {x : Int32 × q_H} (hf : f61 l0 l1 l2 l3 h = some x) : q_Cl 61 [.ref l0, .ref l1, .ref l2, .int l3] h (.inl (some (.int x.1))) x.2 := q_Cl.of rfl (q_LvS rfl rfl) (f61_ok hf ⟨rfl, rfl⟩)
/-! SmithyBench$Mover.hide(LSmithyBench$Program;LSmithyBench$Program;IIII)I -/
theorem qk67 : q_cs.getD 67 [] = qc_67 := rfl
def f67_275 (l1 : Nat) (l2 : Nat) (l3 : Int32) (l4 : Int32) (l5 : Int32) (l6 : Int32) (l11 : Int32) (l12 : Int32) : m_M ((Nat × Nat × Int32 × Int32 × Int32 × Int32 × Int32 × Int32) ⊕ Int32) :=
  m_R (.inl (l1, l2, l3, l4, l5, l6, l11, (l12 + 1)))
theorem f67_275_ok {l1 : Nat} {l2 : Nat} {l3 : Int32} {l4 : Int32} {l5 : Int32} {l6 : Int32} {l11 : Int32} {l12 : Int32} {h : q_H} {o : q_O} {hz : q_H} {x : ((Nat × Nat × Int32 × Int32 × Int32 × Int32 × Int32 × Int32) ⊕ Int32) × q_H} (hf : f67_275 l1 l2 l3 l4 l5 l6 l11 l12 h = some x) (hK : (m_yK (fun (s : Nat × Nat × Int32 × Int32 × Int32 × Int32 × Int32 × Int32) (h : q_H) => q_Ev none 67 140 [(1, .ref (s.1)), (2, .ref (s.2.1)), (3, .int (s.2.2.1)), (4, .int (s.2.2.2.1)), (5, .int (s.2.2.2.2.1)), (6, .int (s.2.2.2.2.2.1)), (11, .int (s.2.2.2.2.2.2.1)), (12, .int (s.2.2.2.2.2.2.2))] [] h o hz) (q_KI o hz)) x) : q_Ev none 67 275 [(1, .ref l1), (2, .ref l2), (3, .int l3), (4, .int l4), (5, .int l5), (6, .int l6), (11, .int l11), (12, .int l12)] [] h o hz := by
  unfold f67_275 at hf
  refine ev_inc (v := l12 + 1) (L' := [(1, .ref l1), (2, .ref l2), (3, .int l3), (4, .int l4), (5, .int l5), (6, .int l6), (11, .int l11), (12, .int (l12 + 1))]) (q_cod qk67 rfl) (by decide) rfl rfl rfl ?_
  refine ev_goto (q_cod qk67 rfl) (by decide) ?_
  obtain rfl := m_R_inv hf
  exact (show q_Ev none 67 140 [(1, .ref l1), (2, .ref l2), (3, .int l3), (4, .int l4), (5, .int l5), (6, .int l6), (11, .int l11), (12, .int (l12 + 1))] [] _ o hz from hK)
def f67_269 (l1 : Nat) (l2 : Nat) (l3 : Int32) (l4 : Int32) (l5 : Int32) (l6 : Int32) (l11 : Int32) (l12 : Int32) (l13 : Nat) (l14 : Int32) : m_M ((Nat × Nat × Int32 × Int32 × Int32 × Int32 × Int32 × Int32 × Nat × Int32) ⊕ ((Nat × Nat × Int32 × Int32 × Int32 × Int32 × Int32 × Int32) ⊕ Int32)) :=
  m_R (.inl (l1, l2, l3, l4, l5, l6, l11, l12, l13, (l14 + 1)))
theorem f67_269_ok {l1 : Nat} {l2 : Nat} {l3 : Int32} {l4 : Int32} {l5 : Int32} {l6 : Int32} {l11 : Int32} {l12 : Int32} {l13 : Nat} {l14 : Int32} {h : q_H} {o : q_O} {hz : q_H} {x : ((Nat × Nat × Int32 × Int32 × Int32 × Int32 × Int32 × Int32 × Nat × Int32) ⊕ ((Nat × Nat × Int32 × Int32 × Int32 × Int32 × Int32 × Int32) ⊕ Int32)) × q_H} (hf : f67_269 l1 l2 l3 l4 l5 l6 l11 l12 l13 l14 h = some x) (hK : (m_yK (fun (s : Nat × Nat × Int32 × Int32 × Int32 × Int32 × Int32 × Int32 × Nat × Int32) (h : q_H) => q_Ev none 67 173 [(1, .ref (s.1)), (2, .ref (s.2.1)), (3, .int (s.2.2.1)), (4, .int (s.2.2.2.1)), (5, .int (s.2.2.2.2.1)), (6, .int (s.2.2.2.2.2.1)), (11, .int (s.2.2.2.2.2.2.1)), (12, .int (s.2.2.2.2.2.2.2.1)), (13, .ref (s.2.2.2.2.2.2.2.2.1)), (14, .int (s.2.2.2.2.2.2.2.2.2))] [] h o hz) (m_yK (fun (s : Nat × Nat × Int32 × Int32 × Int32 × Int32 × Int32 × Int32) (h : q_H) => q_Ev none 67 140 [(1, .ref (s.1)), (2, .ref (s.2.1)), (3, .int (s.2.2.1)), (4, .int (s.2.2.2.1)), (5, .int (s.2.2.2.2.1)), (6, .int (s.2.2.2.2.2.1)), (11, .int (s.2.2.2.2.2.2.1)), (12, .int (s.2.2.2.2.2.2.2))] [] h o hz) (q_KI o hz))) x) : q_Ev none 67 269 [(1, .ref l1), (2, .ref l2), (3, .int l3), (4, .int l4), (5, .int l5), (6, .int l6), (11, .int l11), (12, .int l12), (13, .ref l13), (14, .int l14)] [] h o hz := by
  unfold f67_269 at hf
  refine ev_inc (v := l14 + 1) (L' := [(1, .ref l1), (2, .ref l2), (3, .int l3), (4, .int l4), (5, .int l5), (6, .int l6), (11, .int l11), (12, .int l12), (13, .ref l13), (14, .int (l14 + 1))]) (q_cod qk67 rfl) (by decide) rfl rfl rfl ?_
  refine ev_goto (q_cod qk67 rfl) (by decide) ?_
  obtain rfl := m_R_inv hf
  exact (show q_Ev none 67 173 [(1, .ref l1), (2, .ref l2), (3, .int l3), (4, .int l4), (5, .int l5), (6, .int l6), (11, .int l11), (12, .int l12), (13, .ref l13), (14, .int (l14 + 1))] [] _ o hz from hK)
def f67_265 (l1 : Nat) (l2 : Nat) (l3 : Int32) (l4 : Int32) (l5 : Int32) (l6 : Int32) (l11 : Int32) (l12 : Int32) (l13 : Nat) (l14 : Int32) (s0 : Nat) (s1 : Int32) (s2 : Int32) : m_M ((Nat × Nat × Int32 × Int32 × Int32 × Int32 × Int32 × Int32 × Nat × Int32) ⊕ ((Nat × Nat × Int32 × Int32 × Int32 × Int32 × Int32 × Int32) ⊕ Int32)) :=
  m_B (m_wI s0 s1 s2) (fun _ => f67_269 l1 l2 l3 l4 l5 l6 (l11 + 1) l12 l13 l14)
theorem f67_265_ok {l1 : Nat} {l2 : Nat} {l3 : Int32} {l4 : Int32} {l5 : Int32} {l6 : Int32} {l11 : Int32} {l12 : Int32} {l13 : Nat} {l14 : Int32} {s0 : Nat} {s1 : Int32} {s2 : Int32} {h : q_H} {o : q_O} {hz : q_H} {x : ((Nat × Nat × Int32 × Int32 × Int32 × Int32 × Int32 × Int32 × Nat × Int32) ⊕ ((Nat × Nat × Int32 × Int32 × Int32 × Int32 × Int32 × Int32) ⊕ Int32)) × q_H} (hf : f67_265 l1 l2 l3 l4 l5 l6 l11 l12 l13 l14 s0 s1 s2 h = some x) (hK : (m_yK (fun (s : Nat × Nat × Int32 × Int32 × Int32 × Int32 × Int32 × Int32 × Nat × Int32) (h : q_H) => q_Ev none 67 173 [(1, .ref (s.1)), (2, .ref (s.2.1)), (3, .int (s.2.2.1)), (4, .int (s.2.2.2.1)), (5, .int (s.2.2.2.2.1)), (6, .int (s.2.2.2.2.2.1)), (11, .int (s.2.2.2.2.2.2.1)), (12, .int (s.2.2.2.2.2.2.2.1)), (13, .ref (s.2.2.2.2.2.2.2.2.1)), (14, .int (s.2.2.2.2.2.2.2.2.2))] [] h o hz) (m_yK (fun (s : Nat × Nat × Int32 × Int32 × Int32 × Int32 × Int32 × Int32) (h : q_H) => q_Ev none 67 140 [(1, .ref (s.1)), (2, .ref (s.2.1)), (3, .int (s.2.2.1)), (4, .int (s.2.2.2.1)), (5, .int (s.2.2.2.2.1)), (6, .int (s.2.2.2.2.2.1)), (11, .int (s.2.2.2.2.2.2.1)), (12, .int (s.2.2.2.2.2.2.2))] [] h o hz) (q_KI o hz))) x) : q_Ev none 67 265 [(1, .ref l1), (2, .ref l2), (3, .int l3), (4, .int l4), (5, .int l5), (6, .int l6), (11, .int l11), (12, .int l12), (13, .ref l13), (14, .int l14)] [.int s2, .int s1, .ref s0] h o hz := by
  unfold f67_265 at hf
  refine em_wI (q_cod qk67 rfl) (by decide) hf (fun hf => ?_)
  refine ev_inc (v := l11 + 1) (L' := [(1, .ref l1), (2, .ref l2), (3, .int l3), (4, .int l4), (5, .int l5), (6, .int l6), (11, .int (l11 + 1)), (12, .int l12), (13, .ref l13), (14, .int l14)]) (q_cod qk67 rfl) (by decide) rfl rfl rfl ?_
  exact (f67_269_ok hf hK)
def f67_173b (l1 : Nat) (l2 : Nat) (l3 : Int32) (l4 : Int32) (l5 : Int32) (l6 : Int32) (l11 : Int32) (l12 : Int32) (l13 : Nat) (l14 : Int32) : m_M ((Nat × Nat × Int32 × Int32 × Int32 × Int32 × Int32 × Int32 × Nat × Int32) ⊕ ((Nat × Nat × Int32 × Int32 × Int32 × Int32 × Int32 × Int32) ⊕ Int32)) :=
  m_B (m_gI 0 l13 7) (fun v1 => if l14 < v1 then (m_B (m_aK l13 0) (fun _ => m_B (f11 l13 l14) (fun v3 => if v3 = 0 then (m_B (m_aK l13 0) (fun _ => m_B (f16 l13 l14 l3 l4) (fun v5 => if v5 = 0 then (f67_269 l1 l2 l3 l4 l5 l6 l11 l12 l13 l14) else (m_B (m_aK l13 0) (fun _ => m_B (f18 l13 l14) (fun v7 => if v7 = 0 then (m_B (m_gR 7 l2 9) (fun r8 => m_B (m_lR r8 l12) (fun r9 => m_B (m_gR 0 r9 0) (fun r10 => m_B (m_wI r10 l14 7) (fun _ => m_B (m_gR 7 l2 9) (fun r11 => m_B (m_lR r11 l12) (fun r12 => m_B (m_gR 0 r12 1) (fun r13 => m_B (m_gR 0 l13 0) (fun r14 => m_B (m_lI r14 l14) (fun v15 => if v15 = 3 then (f67_265 l1 l2 l3 l4 l5 l6 l11 l12 l13 l14 r13 l14 l5) else (f67_265 l1 l2 l3 l4 l5 l6 l11 l12 l13 l14 r13 l14 l6))))))))))) else (f67_269 l1 l2 l3 l4 l5 l6 l11 l12 l13 l14))))))) else (f67_269 l1 l2 l3 l4 l5 l6 l11 l12 l13 l14)))) else (m_B (f67_275 l1 l2 l3 l4 l5 l6 l11 l12) (fun r => m_R (.inr r))))
theorem f67_173b_ok {l1 : Nat} {l2 : Nat} {l3 : Int32} {l4 : Int32} {l5 : Int32} {l6 : Int32} {l11 : Int32} {l12 : Int32} {l13 : Nat} {l14 : Int32} {h : q_H} {o : q_O} {hz : q_H} {x : ((Nat × Nat × Int32 × Int32 × Int32 × Int32 × Int32 × Int32 × Nat × Int32) ⊕ ((Nat × Nat × Int32 × Int32 × Int32 × Int32 × Int32 × Int32) ⊕ Int32)) × q_H} (hf : f67_173b l1 l2 l3 l4 l5 l6 l11 l12 l13 l14 h = some x) (hK : (m_yK (fun (s : Nat × Nat × Int32 × Int32 × Int32 × Int32 × Int32 × Int32 × Nat × Int32) (h : q_H) => q_Ev none 67 173 [(1, .ref (s.1)), (2, .ref (s.2.1)), (3, .int (s.2.2.1)), (4, .int (s.2.2.2.1)), (5, .int (s.2.2.2.2.1)), (6, .int (s.2.2.2.2.2.1)), (11, .int (s.2.2.2.2.2.2.1)), (12, .int (s.2.2.2.2.2.2.2.1)), (13, .ref (s.2.2.2.2.2.2.2.2.1)), (14, .int (s.2.2.2.2.2.2.2.2.2))] [] h o hz) (m_yK (fun (s : Nat × Nat × Int32 × Int32 × Int32 × Int32 × Int32 × Int32) (h : q_H) => q_Ev none 67 140 [(1, .ref (s.1)), (2, .ref (s.2.1)), (3, .int (s.2.2.1)), (4, .int (s.2.2.2.1)), (5, .int (s.2.2.2.2.1)), (6, .int (s.2.2.2.2.2.1)), (11, .int (s.2.2.2.2.2.2.1)), (12, .int (s.2.2.2.2.2.2.2))] [] h o hz) (q_KI o hz))) x) : q_Ev none 67 173 [(1, .ref l1), (2, .ref l2), (3, .int l3), (4, .int l4), (5, .int l5), (6, .int l6), (11, .int l11), (12, .int l12), (13, .ref l13), (14, .int l14)] [] h o hz := by
  unfold f67_173b at hf
  refine ev_iload (q_cod qk67 rfl) (by decide) rfl ?_
  refine ev_aload (q_cod qk67 rfl) (by decide) rfl ?_
  refine em_gI (q_cod qk67 rfl) (by decide) (by decide) hf (fun v1 hf => ?_)
  refine em_ic_ge (q_cod qk67 rfl) (by decide) hf (fun c20 hf => ?_) (fun c20 hf => ?_)
  · refine ev_aload (q_cod qk67 rfl) (by decide) rfl ?_
    refine ev_iload (q_cod qk67 rfl) (by decide) rfl ?_
    obtain ⟨g2, hf⟩ := m_aK_some hf
    refine em_call (v := (fun u => some (.int u))) (q_cod qk67 rfl) rfl rfl (q_cokV rfl rfl (Or.inr g2)) rfl (fun x e => f11_cl e) hf (fun v3 h hf => ?_)
    refine em_if_ne (q_cod qk67 rfl) (by decide) hf (fun c19 hf => ?_) (fun c19 hf => ?_)
    · refine ev_aload (q_cod qk67 rfl) (by decide) rfl ?_
      refine ev_iload (q_cod qk67 rfl) (by decide) rfl ?_
      refine ev_iload_n (q_cod qk67 rfl) (by decide) rfl ?_
      refine ev_iload (q_cod qk67 rfl) (by decide) rfl ?_
      obtain ⟨g4, hf⟩ := m_aK_some hf
      refine em_call (v := (fun u => some (.int u))) (q_cod qk67 rfl) rfl rfl (q_cokV rfl rfl (Or.inr g4)) rfl (fun x e => f16_cl e) hf (fun v5 h hf => ?_)
      refine em_if_eq (q_cod qk67 rfl) (by decide) hf (fun c18 hf => ?_) (fun c18 hf => ?_)
      · exact (f67_269_ok hf hK)
      · refine ev_aload (q_cod qk67 rfl) (by decide) rfl ?_
        refine ev_iload (q_cod qk67 rfl) (by decide) rfl ?_
        obtain ⟨g6, hf⟩ := m_aK_some hf
        refine em_call (v := (fun u => some (.int u))) (q_cod qk67 rfl) rfl rfl (q_cokV rfl rfl (Or.inr g6)) rfl (fun x e => f18_cl e) hf (fun v7 h hf => ?_)
        refine em_if_eq (q_cod qk67 rfl) (by decide) hf (fun c17 hf => ?_) (fun c17 hf => ?_)
        · refine ev_aload_n (q_cod qk67 rfl) (by decide) rfl ?_
          refine em_gR (q_cod qk67 rfl) (by decide) (by decide) hf (fun r8 hf => ?_)
          refine ev_iload (q_cod qk67 rfl) (by decide) rfl ?_
          refine em_lR (q_cod qk67 rfl) (by decide) hf (fun r9 hf => ?_)
          refine em_gR (q_cod qk67 rfl) (by decide) (by decide) hf (fun r10 hf => ?_)
          refine ev_iload (q_cod qk67 rfl) (by decide) rfl ?_
          refine ev_bi (v := 7) (q_cod qk67 rfl) (by decide) (by decide) ?_
          refine em_wI (q_cod qk67 rfl) (by decide) hf (fun hf => ?_)
          refine ev_aload_n (q_cod qk67 rfl) (by decide) rfl ?_
          refine em_gR (q_cod qk67 rfl) (by decide) (by decide) hf (fun r11 hf => ?_)
          refine ev_iload (q_cod qk67 rfl) (by decide) rfl ?_
          refine em_lR (q_cod qk67 rfl) (by decide) hf (fun r12 hf => ?_)
          refine em_gR (q_cod qk67 rfl) (by decide) (by decide) hf (fun r13 hf => ?_)
          refine ev_iload (q_cod qk67 rfl) (by decide) rfl ?_
          refine ev_aload (q_cod qk67 rfl) (by decide) rfl ?_
          refine em_gR (q_cod qk67 rfl) (by decide) (by decide) hf (fun r14 hf => ?_)
          refine ev_iload (q_cod qk67 rfl) (by decide) rfl ?_
          refine em_lI (q_cod qk67 rfl) (by decide) hf (fun v15 hf => ?_)
          refine ev_ic (v := 3) (q_cod qk67 rfl) (by decide) (by decide) ?_
          refine em_ic_ne (q_cod qk67 rfl) (by decide) hf (fun c16 hf => ?_) (fun c16 hf => ?_)
          · refine ev_iload (q_cod qk67 rfl) (by decide) rfl ?_
            refine ev_goto (q_cod qk67 rfl) (by decide) ?_
            exact (f67_265_ok hf hK)
          · refine ev_iload (q_cod qk67 rfl) (by decide) rfl ?_
            exact (f67_265_ok hf hK)
        · refine ev_goto (q_cod qk67 rfl) (by decide) ?_
          exact (f67_269_ok hf hK)
    · exact (f67_269_ok hf hK)
  · obtain ⟨y0, hf0, hx⟩ := m_inr_some hf
    subst hx
    exact ev_weak (q_pk [0, 1, 2, 3, 4, 5, 6, 7] rfl) (f67_275_ok hf0 hK)
def f67_173 (l1 : Nat) (l2 : Nat) (l3 : Int32) (l4 : Int32) (l5 : Int32) (l6 : Int32) (l11 : Int32) (l12 : Int32) (l13 : Nat) (l14 : Int32) : m_M ((Nat × Nat × Int32 × Int32 × Int32 × Int32 × Int32 × Int32) ⊕ Int32) := m_W (fun s => f67_173b (s.1) (s.2.1) (s.2.2.1) (s.2.2.2.1) (s.2.2.2.2.1) (s.2.2.2.2.2.1) (s.2.2.2.2.2.2.1) (s.2.2.2.2.2.2.2.1) (s.2.2.2.2.2.2.2.2.1) (s.2.2.2.2.2.2.2.2.2)) 1000000 (l1, l2, l3, l4, l5, l6, l11, l12, l13, l14)
theorem f67_173_ok {l1 : Nat} {l2 : Nat} {l3 : Int32} {l4 : Int32} {l5 : Int32} {l6 : Int32} {l11 : Int32} {l12 : Int32} {l13 : Nat} {l14 : Int32} {h : q_H} {o : q_O} {hz : q_H} {x : ((Nat × Nat × Int32 × Int32 × Int32 × Int32 × Int32 × Int32) ⊕ Int32) × q_H} (hf : f67_173 l1 l2 l3 l4 l5 l6 l11 l12 l13 l14 h = some x) (hK : (m_yK (fun (s : Nat × Nat × Int32 × Int32 × Int32 × Int32 × Int32 × Int32) (h : q_H) => q_Ev none 67 140 [(1, .ref (s.1)), (2, .ref (s.2.1)), (3, .int (s.2.2.1)), (4, .int (s.2.2.2.1)), (5, .int (s.2.2.2.2.1)), (6, .int (s.2.2.2.2.2.1)), (11, .int (s.2.2.2.2.2.2.1)), (12, .int (s.2.2.2.2.2.2.2))] [] h o hz) (q_KI o hz)) x) : q_Ev none 67 173 [(1, .ref l1), (2, .ref l2), (3, .int l3), (4, .int l4), (5, .int l5), (6, .int l6), (11, .int l11), (12, .int l12), (13, .ref l13), (14, .int l14)] [] h o hz :=
  m_W_ok (P := (fun (s : Nat × Nat × Int32 × Int32 × Int32 × Int32 × Int32 × Int32 × Nat × Int32) (h : q_H) => q_Ev none 67 173 [(1, .ref (s.1)), (2, .ref (s.2.1)), (3, .int (s.2.2.1)), (4, .int (s.2.2.2.1)), (5, .int (s.2.2.2.2.1)), (6, .int (s.2.2.2.2.2.1)), (11, .int (s.2.2.2.2.2.2.1)), (12, .int (s.2.2.2.2.2.2.2.1)), (13, .ref (s.2.2.2.2.2.2.2.2.1)), (14, .int (s.2.2.2.2.2.2.2.2.2))] [] h o hz)) (K := (m_yK (fun (s : Nat × Nat × Int32 × Int32 × Int32 × Int32 × Int32 × Int32) (h : q_H) => q_Ev none 67 140 [(1, .ref (s.1)), (2, .ref (s.2.1)), (3, .int (s.2.2.1)), (4, .int (s.2.2.2.1)), (5, .int (s.2.2.2.2.1)), (6, .int (s.2.2.2.2.2.1)), (11, .int (s.2.2.2.2.2.2.1)), (12, .int (s.2.2.2.2.2.2.2))] [] h o hz) (q_KI o hz))) (fun s h x h1 h2 => f67_173b_ok h1 h2) _ (l1, l2, l3, l4, l5, l6, l11, l12, l13, l14) _ _ hf hK
def f67_281 (l11 : Int32) : m_M Int32 :=
  m_R l11
theorem f67_281_ok {l11 : Int32} {h : q_H} {o : q_O} {hz : q_H} {x : Int32 × q_H} (hf : f67_281 l11 h = some x) (hK : (q_KI o hz) x) : q_Ev none 67 281 [(11, .int l11)] [] h o hz := by
  unfold f67_281 at hf
  refine ev_iload (q_cod qk67 rfl) (by decide) rfl ?_
  obtain rfl := m_R_inv hf
  obtain ⟨rfl, rfl⟩ := (show q_KI o hz (l11, _) from hK)
  exact ev_ret (q_cod qk67 rfl) rfl
def f67_140b (l1 : Nat) (l2 : Nat) (l3 : Int32) (l4 : Int32) (l5 : Int32) (l6 : Int32) (l11 : Int32) (l12 : Int32) : m_M ((Nat × Nat × Int32 × Int32 × Int32 × Int32 × Int32 × Int32) ⊕ Int32) :=
  m_B (m_gI 7 l1 11) (fun v1 => if l12 < v1 then (m_B (m_aK l1 7) (fun _ => m_B (f79 l1 l12) (fun v3 => if v3 = 0 then (f67_275 l1 l2 l3 l4 l5 l6 l11 l12) else (m_B (m_gR 7 l1 9) (fun r4 => m_B (m_lR r4 l12) (fun r5 => f67_173 l1 l2 l3 l4 l5 l6 l11 l12 r5 0)))))) else (m_B (f67_281 l11) (fun r => m_R (.inr r))))
theorem f67_140b_ok {l1 : Nat} {l2 : Nat} {l3 : Int32} {l4 : Int32} {l5 : Int32} {l6 : Int32} {l11 : Int32} {l12 : Int32} {h : q_H} {o : q_O} {hz : q_H} {x : ((Nat × Nat × Int32 × Int32 × Int32 × Int32 × Int32 × Int32) ⊕ Int32) × q_H} (hf : f67_140b l1 l2 l3 l4 l5 l6 l11 l12 h = some x) (hK : (m_yK (fun (s : Nat × Nat × Int32 × Int32 × Int32 × Int32 × Int32 × Int32) (h : q_H) => q_Ev none 67 140 [(1, .ref (s.1)), (2, .ref (s.2.1)), (3, .int (s.2.2.1)), (4, .int (s.2.2.2.1)), (5, .int (s.2.2.2.2.1)), (6, .int (s.2.2.2.2.2.1)), (11, .int (s.2.2.2.2.2.2.1)), (12, .int (s.2.2.2.2.2.2.2))] [] h o hz) (q_KI o hz)) x) : q_Ev none 67 140 [(1, .ref l1), (2, .ref l2), (3, .int l3), (4, .int l4), (5, .int l5), (6, .int l6), (11, .int l11), (12, .int l12)] [] h o hz := by
  unfold f67_140b at hf
  refine ev_iload (q_cod qk67 rfl) (by decide) rfl ?_
  refine ev_aload_n (q_cod qk67 rfl) (by decide) rfl ?_
  refine em_gI (q_cod qk67 rfl) (by decide) (by decide) hf (fun v1 hf => ?_)
  refine em_ic_ge (q_cod qk67 rfl) (by decide) hf (fun c7 hf => ?_) (fun c7 hf => ?_)
  · refine ev_aload_n (q_cod qk67 rfl) (by decide) rfl ?_
    refine ev_iload (q_cod qk67 rfl) (by decide) rfl ?_
    obtain ⟨g2, hf⟩ := m_aK_some hf
    refine em_call (v := (fun u => some (.int u))) (q_cod qk67 rfl) rfl rfl (q_cokV rfl rfl (Or.inr g2)) rfl (fun x e => f79_cl e) hf (fun v3 h hf => ?_)
    refine em_if_ne (q_cod qk67 rfl) (by decide) hf (fun c6 hf => ?_) (fun c6 hf => ?_)
    · refine ev_goto (q_cod qk67 rfl) (by decide) ?_
      exact (f67_275_ok hf hK)
    · refine ev_aload_n (q_cod qk67 rfl) (by decide) rfl ?_
      refine em_gR (q_cod qk67 rfl) (by decide) (by decide) hf (fun r4 hf => ?_)
      refine ev_iload (q_cod qk67 rfl) (by decide) rfl ?_
      refine em_lR (q_cod qk67 rfl) (by decide) hf (fun r5 hf => ?_)
      refine ev_as2 (L' := [(1, .ref l1), (2, .ref l2), (3, .int l3), (4, .int l4), (5, .int l5), (6, .int l6), (11, .int l11), (12, .int l12), (13, .ref r5)]) (q_cod qk67 rfl) (by decide) rfl ?_
      refine ev_ic (v := 0) (q_cod qk67 rfl) (by decide) (by decide) ?_
      refine ev_is2 (L' := [(1, .ref l1), (2, .ref l2), (3, .int l3), (4, .int l4), (5, .int l5), (6, .int l6), (11, .int l11), (12, .int l12), (13, .ref r5), (14, .int 0)]) (q_cod qk67 rfl) (by decide) rfl ?_
      exact (f67_173_ok hf hK)
  · obtain ⟨y0, hf0, hx⟩ := m_inr_some hf
    subst hx
    exact ev_weak (q_pk [6] rfl) (f67_281_ok hf0 hK)
def f67_140 (l1 : Nat) (l2 : Nat) (l3 : Int32) (l4 : Int32) (l5 : Int32) (l6 : Int32) (l11 : Int32) (l12 : Int32) : m_M Int32 := m_W (fun s => f67_140b (s.1) (s.2.1) (s.2.2.1) (s.2.2.2.1) (s.2.2.2.2.1) (s.2.2.2.2.2.1) (s.2.2.2.2.2.2.1) (s.2.2.2.2.2.2.2)) 1000000 (l1, l2, l3, l4, l5, l6, l11, l12)
theorem f67_140_ok {l1 : Nat} {l2 : Nat} {l3 : Int32} {l4 : Int32} {l5 : Int32} {l6 : Int32} {l11 : Int32} {l12 : Int32} {h : q_H} {o : q_O} {hz : q_H} {x : Int32 × q_H} (hf : f67_140 l1 l2 l3 l4 l5 l6 l11 l12 h = some x) (hK : (q_KI o hz) x) : q_Ev none 67 140 [(1, .ref l1), (2, .ref l2), (3, .int l3), (4, .int l4), (5, .int l5), (6, .int l6), (11, .int l11), (12, .int l12)] [] h o hz :=
  m_W_ok (P := (fun (s : Nat × Nat × Int32 × Int32 × Int32 × Int32 × Int32 × Int32) (h : q_H) => q_Ev none 67 140 [(1, .ref (s.1)), (2, .ref (s.2.1)), (3, .int (s.2.2.1)), (4, .int (s.2.2.2.1)), (5, .int (s.2.2.2.2.1)), (6, .int (s.2.2.2.2.2.1)), (11, .int (s.2.2.2.2.2.2.1)), (12, .int (s.2.2.2.2.2.2.2))] [] h o hz)) (K := (q_KI o hz)) (fun s h x h1 h2 => f67_140b_ok h1 h2) _ (l1, l2, l3, l4, l5, l6, l11, l12) _ _ hf hK
def f67_93 (l1 : Nat) (l2 : Nat) (l3 : Int32) (l4 : Int32) (l5 : Int32) (l6 : Int32) (l7 : Int32) (l9 : Int32) (s0 : Int32) : m_M Int32 :=
  m_B (m_aK l2 7) (fun _ => m_B (f75 l2 l9 s0 l7) (fun _ => m_B (m_gR 7 l2 9) (fun r3 => m_B (m_lR r3 l9) (fun r4 => m_B (m_aK r4 0) (fun _ => m_B (f2 r4 6 l4 1) (fun _ => m_B (m_gR 7 l2 9) (fun r7 => m_B (m_lR r7 l9) (fun r8 => m_B (m_aK r8 0) (fun _ => m_B (f2 r8 1 s0 0) (fun _ => f67_140 l1 l2 l3 l4 l5 l6 0 0))))))))))
theorem f67_93_ok {l1 : Nat} {l2 : Nat} {l3 : Int32} {l4 : Int32} {l5 : Int32} {l6 : Int32} {l7 : Int32} {l9 : Int32} {s0 : Int32} {h : q_H} {o : q_O} {hz : q_H} {x : Int32 × q_H} (hf : f67_93 l1 l2 l3 l4 l5 l6 l7 l9 s0 h = some x) (hK : (q_KI o hz) x) : q_Ev none 67 93 [(1, .ref l1), (2, .ref l2), (3, .int l3), (4, .int l4), (5, .int l5), (6, .int l6), (7, .int l7), (9, .int l9)] [.int s0] h o hz := by
  unfold f67_93 at hf
  refine ev_is2 (L' := [(1, .ref l1), (2, .ref l2), (3, .int l3), (4, .int l4), (5, .int l5), (6, .int l6), (7, .int l7), (9, .int l9), (10, .int s0)]) (q_cod qk67 rfl) (by decide) rfl ?_
  refine ev_aload_n (q_cod qk67 rfl) (by decide) rfl ?_
  refine ev_iload (q_cod qk67 rfl) (by decide) rfl ?_
  refine ev_iload (q_cod qk67 rfl) (by decide) rfl ?_
  refine ev_iload (q_cod qk67 rfl) (by decide) rfl ?_
  obtain ⟨g1, hf⟩ := m_aK_some hf
  refine em_call (v := (fun _ => none)) (q_cod qk67 rfl) rfl rfl (q_cokV rfl rfl (Or.inr g1)) rfl (fun x e => f75_cl e) hf (fun _ h hf => ?_)
  refine ev_aload_n (q_cod qk67 rfl) (by decide) rfl ?_
  refine em_gR (q_cod qk67 rfl) (by decide) (by decide) hf (fun r3 hf => ?_)
  refine ev_iload (q_cod qk67 rfl) (by decide) rfl ?_
  refine em_lR (q_cod qk67 rfl) (by decide) hf (fun r4 hf => ?_)
  refine ev_bi (v := 6) (q_cod qk67 rfl) (by decide) (by decide) ?_
  refine ev_iload (q_cod qk67 rfl) (by decide) rfl ?_
  refine ev_ic (v := 1) (q_cod qk67 rfl) (by decide) (by decide) ?_
  obtain ⟨g5, hf⟩ := m_aK_some hf
  refine em_call (v := (fun _ => none)) (q_cod qk67 rfl) rfl rfl (q_cokV rfl rfl (Or.inr g5)) rfl (fun x e => f2_cl e) hf (fun _ h hf => ?_)
  refine ev_aload_n (q_cod qk67 rfl) (by decide) rfl ?_
  refine em_gR (q_cod qk67 rfl) (by decide) (by decide) hf (fun r7 hf => ?_)
  refine ev_iload (q_cod qk67 rfl) (by decide) rfl ?_
  refine em_lR (q_cod qk67 rfl) (by decide) hf (fun r8 hf => ?_)
  refine ev_ic (v := 1) (q_cod qk67 rfl) (by decide) (by decide) ?_
  refine ev_iload (q_cod qk67 rfl) (by decide) rfl ?_
  refine ev_ic (v := 0) (q_cod qk67 rfl) (by decide) (by decide) ?_
  obtain ⟨g9, hf⟩ := m_aK_some hf
  refine em_call (v := (fun _ => none)) (q_cod qk67 rfl) rfl rfl (q_cokV rfl rfl (Or.inr g9)) rfl (fun x e => f2_cl e) hf (fun _ h hf => ?_)
  refine ev_ic (v := 0) (q_cod qk67 rfl) (by decide) (by decide) ?_
  refine ev_is2 (L' := [(1, .ref l1), (2, .ref l2), (3, .int l3), (4, .int l4), (5, .int l5), (6, .int l6), (7, .int l7), (9, .int l9), (10, .int s0), (11, .int 0)]) (q_cod qk67 rfl) (by decide) rfl ?_
  refine ev_ic (v := 0) (q_cod qk67 rfl) (by decide) (by decide) ?_
  refine ev_is2 (L' := [(1, .ref l1), (2, .ref l2), (3, .int l3), (4, .int l4), (5, .int l5), (6, .int l6), (7, .int l7), (9, .int l9), (10, .int s0), (11, .int 0), (12, .int 0)]) (q_cod qk67 rfl) (by decide) rfl ?_
  exact ev_weak (q_pk [0, 1, 2, 3, 4, 5, 9, 10] rfl) (f67_140_ok hf hK)
def f67_22  : m_M Int32 :=
  m_R (-1)
theorem f67_22_ok  {h : q_H} {o : q_O} {hz : q_H} {x : Int32 × q_H} (hf : f67_22 h = some x) (hK : (q_KI o hz) x) : q_Ev none 67 22 [] [] h o hz := by
  unfold f67_22 at hf
  refine ev_ic (v := (-1)) (q_cod qk67 rfl) (by decide) (by decide) ?_
  obtain rfl := m_R_inv hf
  obtain ⟨rfl, rfl⟩ := (show q_KI o hz ((-1), _) from hK)
  exact ev_ret (q_cod qk67 rfl) rfl
def f67 (l0 : Nat) (l1 : Nat) (l2 : Nat) (l3 : Int32) (l4 : Int32) (l5 : Int32) (l6 : Int32) : m_M Int32 :=
  m_B (m_aK l1 7) (fun _ => m_B (f91 l1 l3 l5 0) (fun v2 => if v2 = 0 then (m_B (m_aK l1 7) (fun _ => m_B (f91 l1 l3 l6 1) (fun v4 => if v4 = 0 then (m_B (m_gI 7 l1 11) (fun v5 => if 24 < (v5 + 2) then (m_R (-6)) else (m_B (m_aK l1 7) (fun _ => m_B (f85 l1 l3 l4) (fun v7 => m_B (m_aK l2 7) (fun _ => m_B (f74 l2 l3 l5 v7) (fun v9 => m_B (m_gR 7 l2 9) (fun r10 => m_B (m_lR r10 v9) (fun r11 => m_B (m_aK r11 0) (fun _ => m_B (f2 r11 1 l4 0) (fun _ => m_B (m_aK l2 7) (fun _ => m_B (f74 l2 l3 l6 v7) (fun v15 => if l4 = 0 then (f67_93 l1 l2 l3 l4 l5 l6 v7 v15 1) else (f67_93 l1 l2 l3 l4 l5 l6 v7 v15 0)))))))))))))) else (f67_22)))) else (f67_22)))
theorem f67_ok {l0 : Nat} {l1 : Nat} {l2 : Nat} {l3 : Int32} {l4 : Int32} {l5 : Int32} {l6 : Int32} {h : q_H} {o : q_O} {hz : q_H} {x : Int32 × q_H} (hf : f67 l0 l1 l2 l3 l4 l5 l6 h = some x) (hK : (q_KI o hz) x) : q_Ev none 67 0 [(0, .ref l0), (1, .ref l1), (2, .ref l2), (3, .int l3), (4, .int l4), (5, .int l5), (6, .int l6)] [] h o hz := by
  unfold f67 at hf
  refine ev_aload_n (q_cod qk67 rfl) (by decide) rfl ?_
  refine ev_iload_n (q_cod qk67 rfl) (by decide) rfl ?_
  refine ev_iload (q_cod qk67 rfl) (by decide) rfl ?_
  refine ev_ic (v := 0) (q_cod qk67 rfl) (by decide) (by decide) ?_
  obtain ⟨g1, hf⟩ := m_aK_some hf
  refine em_call (v := (fun u => some (.int u))) (q_cod qk67 rfl) rfl rfl (q_cokV rfl rfl (Or.inr g1)) rfl (fun x e => f91_cl e) hf (fun v2 h hf => ?_)
  refine em_if_ne (q_cod qk67 rfl) (by decide) hf (fun c19 hf => ?_) (fun c19 hf => ?_)
  · refine ev_aload_n (q_cod qk67 rfl) (by decide) rfl ?_
    refine ev_iload_n (q_cod qk67 rfl) (by decide) rfl ?_
    refine ev_iload (q_cod qk67 rfl) (by decide) rfl ?_
    refine ev_ic (v := 1) (q_cod qk67 rfl) (by decide) (by decide) ?_
    obtain ⟨g3, hf⟩ := m_aK_some hf
    refine em_call (v := (fun u => some (.int u))) (q_cod qk67 rfl) rfl rfl (q_cokV rfl rfl (Or.inr g3)) rfl (fun x e => f91_cl e) hf (fun v4 h hf => ?_)
    refine em_if_eq (q_cod qk67 rfl) (by decide) hf (fun c18 hf => ?_) (fun c18 hf => ?_)
    · refine ev_aload_n (q_cod qk67 rfl) (by decide) rfl ?_
      refine em_gI (q_cod qk67 rfl) (by decide) (by decide) hf (fun v5 hf => ?_)
      refine ev_ic (v := 2) (q_cod qk67 rfl) (by decide) (by decide) ?_
      refine ev_iadd (q_cod qk67 rfl) (by decide) ?_
      refine ev_bi (v := 24) (q_cod qk67 rfl) (by decide) (by decide) ?_
      refine em_ic_le (q_cod qk67 rfl) (by decide) hf (fun c17 hf => ?_) (fun c17 hf => ?_)
      · refine ev_bi (v := (-6)) (q_cod qk67 rfl) (by decide) (by decide) ?_
        obtain rfl := m_R_inv hf
        obtain ⟨rfl, rfl⟩ := (show q_KI o hz ((-6), _) from hK)
        exact ev_ret (q_cod qk67 rfl) rfl
      · refine ev_aload_n (q_cod qk67 rfl) (by decide) rfl ?_
        refine ev_iload_n (q_cod qk67 rfl) (by decide) rfl ?_
        refine ev_iload (q_cod qk67 rfl) (by decide) rfl ?_
        obtain ⟨g6, hf⟩ := m_aK_some hf
        refine em_call (v := (fun u => some (.int u))) (q_cod qk67 rfl) rfl rfl (q_cokV rfl rfl (Or.inr g6)) rfl (fun x e => f85_cl e) hf (fun v7 h hf => ?_)
        refine ev_is2 (L' := [(0, .ref l0), (1, .ref l1), (2, .ref l2), (3, .int l3), (4, .int l4), (5, .int l5), (6, .int l6), (7, .int v7)]) (q_cod qk67 rfl) (by decide) rfl ?_
        refine ev_aload_n (q_cod qk67 rfl) (by decide) rfl ?_
        refine ev_iload_n (q_cod qk67 rfl) (by decide) rfl ?_
        refine ev_iload (q_cod qk67 rfl) (by decide) rfl ?_
        refine ev_iload (q_cod qk67 rfl) (by decide) rfl ?_
        obtain ⟨g8, hf⟩ := m_aK_some hf
        refine em_call (v := (fun u => some (.int u))) (q_cod qk67 rfl) rfl rfl (q_cokV rfl rfl (Or.inr g8)) rfl (fun x e => f74_cl e) hf (fun v9 h hf => ?_)
        refine ev_is2 (L' := [(0, .ref l0), (1, .ref l1), (2, .ref l2), (3, .int l3), (4, .int l4), (5, .int l5), (6, .int l6), (7, .int v7), (8, .int v9)]) (q_cod qk67 rfl) (by decide) rfl ?_
        refine ev_aload_n (q_cod qk67 rfl) (by decide) rfl ?_
        refine em_gR (q_cod qk67 rfl) (by decide) (by decide) hf (fun r10 hf => ?_)
        refine ev_iload (q_cod qk67 rfl) (by decide) rfl ?_
        refine em_lR (q_cod qk67 rfl) (by decide) hf (fun r11 hf => ?_)
        refine ev_ic (v := 1) (q_cod qk67 rfl) (by decide) (by decide) ?_
        refine ev_iload (q_cod qk67 rfl) (by decide) rfl ?_
        refine ev_ic (v := 0) (q_cod qk67 rfl) (by decide) (by decide) ?_
        obtain ⟨g12, hf⟩ := m_aK_some hf
        refine em_call (v := (fun _ => none)) (q_cod qk67 rfl) rfl rfl (q_cokV rfl rfl (Or.inr g12)) rfl (fun x e => f2_cl e) hf (fun _ h hf => ?_)
        refine ev_aload_n (q_cod qk67 rfl) (by decide) rfl ?_
        refine ev_iload_n (q_cod qk67 rfl) (by decide) rfl ?_
        refine ev_iload (q_cod qk67 rfl) (by decide) rfl ?_
        refine ev_iload (q_cod qk67 rfl) (by decide) rfl ?_
        obtain ⟨g14, hf⟩ := m_aK_some hf
        refine em_call (v := (fun u => some (.int u))) (q_cod qk67 rfl) rfl rfl (q_cokV rfl rfl (Or.inr g14)) rfl (fun x e => f74_cl e) hf (fun v15 h hf => ?_)
        refine ev_is2 (L' := [(0, .ref l0), (1, .ref l1), (2, .ref l2), (3, .int l3), (4, .int l4), (5, .int l5), (6, .int l6), (7, .int v7), (8, .int v9), (9, .int v15)]) (q_cod qk67 rfl) (by decide) rfl ?_
        refine ev_iload (q_cod qk67 rfl) (by decide) rfl ?_
        refine em_if_ne (q_cod qk67 rfl) (by decide) hf (fun c16 hf => ?_) (fun c16 hf => ?_)
        · refine ev_ic (v := 1) (q_cod qk67 rfl) (by decide) (by decide) ?_
          refine ev_goto (q_cod qk67 rfl) (by decide) ?_
          exact ev_weak (q_pk [1, 2, 3, 4, 5, 6, 7, 9] rfl) (f67_93_ok hf hK)
        · refine ev_ic (v := 0) (q_cod qk67 rfl) (by decide) (by decide) ?_
          exact ev_weak (q_pk [1, 2, 3, 4, 5, 6, 7, 9] rfl) (f67_93_ok hf hK)
    · exact ev_weak (q_pk [] rfl) (f67_22_ok hf hK)
  · exact ev_weak (q_pk [] rfl) (f67_22_ok hf hK)
theorem f67_cl {l0 : Nat} {l1 : Nat} {l2 : Nat} {l3 : Int32} {l4 : Int32} {l5 : Int32} {l6 : Int32} {h : q_H} {x : Int32 × q_H} (hf : f67 l0 l1 l2 l3 l4 l5 l6 h = some x) : q_Cl 67 [.ref l0, .ref l1, .ref l2, .int l3, .int l4, .int l5, .int l6] h (.inl (some (.int x.1))) x.2 := q_Cl.of rfl (q_LvS rfl rfl) (f67_ok hf ⟨rfl, rfl⟩)
