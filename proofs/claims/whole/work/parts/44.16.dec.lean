/-! SmithyBenchModel.tell(II)I -/
theorem qk238 : q_cs.getD 238 [] = qc_238 := rfl
def f238_81 (l0 : Nat) (l5 : Int32) (s0 : Int32) (s1 : Int32) : m_M ((Nat × Int32 × Int32) ⊕ Int32) :=
  m_R (.inl (l0, (s0 + s1), (l5 + 1)))
theorem f238_81_ok {l0 : Nat} {l5 : Int32} {s0 : Int32} {s1 : Int32} {h : q_H} {o : q_O} {hz : q_H} {x : ((Nat × Int32 × Int32) ⊕ Int32) × q_H} (hf : f238_81 l0 l5 s0 s1 h = some x) (hK : (m_yK (fun (s : Nat × Int32 × Int32) (h : q_H) => q_Ev none 238 57 [(0, .ref (s.1)), (4, .int (s.2.1)), (5, .int (s.2.2))] [] h o hz) (q_KI o hz)) x) : q_Ev none 238 81 [(0, .ref l0), (5, .int l5)] [.int s1, .int s0] h o hz := by
  unfold f238_81 at hf
  refine ev_iadd (q_cod qk238 rfl) (by decide) ?_
  refine ev_is2 (L' := [(0, .ref l0), (4, .int (s0 + s1)), (5, .int l5)]) (q_cod qk238 rfl) (by decide) rfl ?_
  refine ev_inc (v := l5 + 1) (L' := [(0, .ref l0), (4, .int (s0 + s1)), (5, .int (l5 + 1))]) (q_cod qk238 rfl) (by decide) rfl rfl rfl ?_
  refine ev_goto (q_cod qk238 rfl) (by decide) ?_
  obtain rfl := m_R_inv hf
  exact (show q_Ev none 238 57 [(0, .ref l0), (4, .int (s0 + s1)), (5, .int (l5 + 1))] [] _ o hz from hK)
def f238_90 (l4 : Int32) : m_M Int32 :=
  m_R l4
theorem f238_90_ok {l4 : Int32} {h : q_H} {o : q_O} {hz : q_H} {x : Int32 × q_H} (hf : f238_90 l4 h = some x) (hK : (q_KI o hz) x) : q_Ev none 238 90 [(4, .int l4)] [] h o hz := by
  unfold f238_90 at hf
  refine ev_iload (q_cod qk238 rfl) (by decide) rfl ?_
  obtain rfl := m_R_inv hf
  obtain ⟨rfl, rfl⟩ := (show q_KI o hz (l4, _) from hK)
  exact ev_ret (q_cod qk238 rfl) rfl
def f238_57b (l0 : Nat) (l4 : Int32) (l5 : Int32) : m_M ((Nat × Int32 × Int32) ⊕ Int32) :=
  if l5 < 24 then (m_B (m_gR 12 l0 36) (fun r1 => m_B (m_lZ r1 l5) (fun v2 => if v2 = 0 then (f238_81 l0 l5 l4 0) else (f238_81 l0 l5 l4 1)))) else (m_B (f238_90 l4) (fun r => m_R (.inr r)))
theorem f238_57b_ok {l0 : Nat} {l4 : Int32} {l5 : Int32} {h : q_H} {o : q_O} {hz : q_H} {x : ((Nat × Int32 × Int32) ⊕ Int32) × q_H} (hf : f238_57b l0 l4 l5 h = some x) (hK : (m_yK (fun (s : Nat × Int32 × Int32) (h : q_H) => q_Ev none 238 57 [(0, .ref (s.1)), (4, .int (s.2.1)), (5, .int (s.2.2))] [] h o hz) (q_KI o hz)) x) : q_Ev none 238 57 [(0, .ref l0), (4, .int l4), (5, .int l5)] [] h o hz := by
  unfold f238_57b at hf
  refine ev_iload (q_cod qk238 rfl) (by decide) rfl ?_
  refine ev_bi (v := 24) (q_cod qk238 rfl) (by decide) (by decide) ?_
  refine em_ic_ge (q_cod qk238 rfl) (by decide) hf (fun c4 hf => ?_) (fun c4 hf => ?_)
  · refine ev_iload (q_cod qk238 rfl) (by decide) rfl ?_
    refine ev_aload_n (q_cod qk238 rfl) (by decide) rfl ?_
    refine em_gR (q_cod qk238 rfl) (by decide) (by decide) hf (fun r1 hf => ?_)
    refine ev_iload (q_cod qk238 rfl) (by decide) rfl ?_
    refine em_lZ (q_cod qk238 rfl) (by decide) hf (fun v2 hf => ?_)
    refine em_if_eq (q_cod qk238 rfl) (by decide) hf (fun c3 hf => ?_) (fun c3 hf => ?_)
    · refine ev_ic (v := 0) (q_cod qk238 rfl) (by decide) (by decide) ?_
      exact ev_weak (q_pk [0, 2] rfl) (f238_81_ok hf hK)
    · refine ev_ic (v := 1) (q_cod qk238 rfl) (by decide) (by decide) ?_
      refine ev_goto (q_cod qk238 rfl) (by decide) ?_
      exact ev_weak (q_pk [0, 2] rfl) (f238_81_ok hf hK)
  · obtain ⟨y0, hf0, hx⟩ := m_inr_some hf
    subst hx
    exact ev_weak (q_pk [1] rfl) (f238_90_ok hf0 hK)
def f238_57 (l0 : Nat) (l4 : Int32) (l5 : Int32) : m_M Int32 := m_W (fun s => f238_57b (s.1) (s.2.1) (s.2.2)) 1000000 (l0, l4, l5)
theorem f238_57_ok {l0 : Nat} {l4 : Int32} {l5 : Int32} {h : q_H} {o : q_O} {hz : q_H} {x : Int32 × q_H} (hf : f238_57 l0 l4 l5 h = some x) (hK : (q_KI o hz) x) : q_Ev none 238 57 [(0, .ref l0), (4, .int l4), (5, .int l5)] [] h o hz :=
  m_W_ok (P := (fun (s : Nat × Int32 × Int32) (h : q_H) => q_Ev none 238 57 [(0, .ref (s.1)), (4, .int (s.2.1)), (5, .int (s.2.2))] [] h o hz)) (K := (q_KI o hz)) (fun s h x h1 h2 => f238_57b_ok h1 h2) _ (l0, l4, l5) _ _ hf hK
def f238_144 (l0 : Nat) (l1 : Int32) (s0 : Int32) : m_M Int32 :=
  m_B (m_aK l0 12) (fun _ => m_B (f196 l0 0 l1 s0) (fun v2 => m_R v2))
theorem f238_144_ok {l0 : Nat} {l1 : Int32} {s0 : Int32} {h : q_H} {o : q_O} {hz : q_H} {x : Int32 × q_H} (hf : f238_144 l0 l1 s0 h = some x) (hK : (q_KI o hz) x) : q_Ev none 238 144 [(0, .ref l0), (1, .int l1)] [.int s0] h o hz := by
  unfold f238_144 at hf
  refine ev_is2 (L' := [(0, .ref l0), (1, .int l1), (4, .int s0)]) (q_cod qk238 rfl) (by decide) rfl ?_
  refine ev_aload_n (q_cod qk238 rfl) (by decide) rfl ?_
  refine ev_ic (v := 0) (q_cod qk238 rfl) (by decide) (by decide) ?_
  refine ev_iload_n (q_cod qk238 rfl) (by decide) rfl ?_
  refine ev_iload (q_cod qk238 rfl) (by decide) rfl ?_
  obtain ⟨g1, hf⟩ := m_aK_some hf
  refine em_call (v := (fun u => some (.int u))) (q_cod qk238 rfl) rfl rfl (q_cokV rfl rfl (Or.inr g1)) rfl (fun x e => f196_cl e) hf (fun v2 h hf => ?_)
  obtain rfl := m_R_inv hf
  obtain ⟨rfl, rfl⟩ := (show q_KI o hz (v2, _) from hK)
  exact ev_ret (q_cod qk238 rfl) rfl
def f238_31 (l0 : Nat) (l1 : Int32) (l2 : Int32) (s0 : Nat) (s1 : Int32) : m_M Int32 :=
  m_B (m_aK s0 12) (fun _ => m_B (f178 s0 s1) (fun v2 => if v2 = 0 then (if l2 = 7 then (m_B (m_aK l0 12) (fun _ => m_B (f255 l0 0 l1) (fun _ => f238_57 l0 0 0))) else (if l2 = 0 then (f238_144 l0 l1 1) else (if l2 = 1 then (f238_144 l0 l1 2) else (if l2 = 2 then (f238_144 l0 l1 3) else (if l2 < 5 then (f238_144 l0 l1 ((4 + l2) - 3)) else (if l2 = 5 then (f238_144 l0 l1 8) else (f238_144 l0 l1 9))))))) else (m_R 0)))
theorem f238_31_ok {l0 : Nat} {l1 : Int32} {l2 : Int32} {s0 : Nat} {s1 : Int32} {h : q_H} {o : q_O} {hz : q_H} {x : Int32 × q_H} (hf : f238_31 l0 l1 l2 s0 s1 h = some x) (hK : (q_KI o hz) x) : q_Ev none 238 31 [(0, .ref l0), (1, .int l1), (2, .int l2)] [.int s1, .ref s0] h o hz := by
  unfold f238_31 at hf
  obtain ⟨g1, hf⟩ := m_aK_some hf
  refine em_call (v := (fun u => some (.int u))) (q_cod qk238 rfl) rfl rfl (q_cokV rfl rfl (Or.inr g1)) rfl (fun x e => f178_cl e) hf (fun v2 h hf => ?_)
  refine em_if_eq (q_cod qk238 rfl) (by decide) hf (fun c11 hf => ?_) (fun c11 hf => ?_)
  · refine ev_iload_n (q_cod qk238 rfl) (by decide) rfl ?_
    refine ev_bi (v := 7) (q_cod qk238 rfl) (by decide) (by decide) ?_
    refine em_ic_ne (q_cod qk238 rfl) (by decide) hf (fun c10 hf => ?_) (fun c10 hf => ?_)
    · refine ev_aload_n (q_cod qk238 rfl) (by decide) rfl ?_
      refine ev_ic (v := 0) (q_cod qk238 rfl) (by decide) (by decide) ?_
      refine ev_iload_n (q_cod qk238 rfl) (by decide) rfl ?_
      obtain ⟨g3, hf⟩ := m_aK_some hf
      refine em_call (v := (fun _ => none)) (q_cod qk238 rfl) rfl rfl (q_cokV rfl rfl (Or.inr g3)) rfl (fun x e => f255_cl e) hf (fun _ h hf => ?_)
      refine ev_ic (v := 0) (q_cod qk238 rfl) (by decide) (by decide) ?_
      refine ev_is2 (L' := [(0, .ref l0), (1, .int l1), (2, .int l2), (4, .int 0)]) (q_cod qk238 rfl) (by decide) rfl ?_
      refine ev_ic (v := 0) (q_cod qk238 rfl) (by decide) (by decide) ?_
      refine ev_is2 (L' := [(0, .ref l0), (1, .int l1), (2, .int l2), (4, .int 0), (5, .int 0)]) (q_cod qk238 rfl) (by decide) rfl ?_
      exact ev_weak (q_pk [0, 3, 4] rfl) (f238_57_ok hf hK)
    · refine ev_iload_n (q_cod qk238 rfl) (by decide) rfl ?_
      refine em_if_ne (q_cod qk238 rfl) (by decide) hf (fun c9 hf => ?_) (fun c9 hf => ?_)
      · refine ev_ic (v := 1) (q_cod qk238 rfl) (by decide) (by decide) ?_
        refine ev_goto (q_cod qk238 rfl) (by decide) ?_
        exact ev_weak (q_pk [0, 1] rfl) (f238_144_ok hf hK)
      · refine ev_iload_n (q_cod qk238 rfl) (by decide) rfl ?_
        refine ev_ic (v := 1) (q_cod qk238 rfl) (by decide) (by decide) ?_
        refine em_ic_ne (q_cod qk238 rfl) (by decide) hf (fun c8 hf => ?_) (fun c8 hf => ?_)
        · refine ev_ic (v := 2) (q_cod qk238 rfl) (by decide) (by decide) ?_
          refine ev_goto (q_cod qk238 rfl) (by decide) ?_
          exact ev_weak (q_pk [0, 1] rfl) (f238_144_ok hf hK)
        · refine ev_iload_n (q_cod qk238 rfl) (by decide) rfl ?_
          refine ev_ic (v := 2) (q_cod qk238 rfl) (by decide) (by decide) ?_
          refine em_ic_ne (q_cod qk238 rfl) (by decide) hf (fun c7 hf => ?_) (fun c7 hf => ?_)
          · refine ev_ic (v := 3) (q_cod qk238 rfl) (by decide) (by decide) ?_
            refine ev_goto (q_cod qk238 rfl) (by decide) ?_
            exact ev_weak (q_pk [0, 1] rfl) (f238_144_ok hf hK)
          · refine ev_iload_n (q_cod qk238 rfl) (by decide) rfl ?_
            refine ev_ic (v := 5) (q_cod qk238 rfl) (by decide) (by decide) ?_
            refine em_ic_ge (q_cod qk238 rfl) (by decide) hf (fun c6 hf => ?_) (fun c6 hf => ?_)
            · refine ev_ic (v := 4) (q_cod qk238 rfl) (by decide) (by decide) ?_
              refine ev_iload_n (q_cod qk238 rfl) (by decide) rfl ?_
              refine ev_iadd (q_cod qk238 rfl) (by decide) ?_
              refine ev_ic (v := 3) (q_cod qk238 rfl) (by decide) (by decide) ?_
              refine ev_isub (q_cod qk238 rfl) (by decide) ?_
              refine ev_goto (q_cod qk238 rfl) (by decide) ?_
              exact ev_weak (q_pk [0, 1] rfl) (f238_144_ok hf hK)
            · refine ev_iload_n (q_cod qk238 rfl) (by decide) rfl ?_
              refine ev_ic (v := 5) (q_cod qk238 rfl) (by decide) (by decide) ?_
              refine em_ic_ne (q_cod qk238 rfl) (by decide) hf (fun c5 hf => ?_) (fun c5 hf => ?_)
              · refine ev_bi (v := 8) (q_cod qk238 rfl) (by decide) (by decide) ?_
                refine ev_goto (q_cod qk238 rfl) (by decide) ?_
                exact ev_weak (q_pk [0, 1] rfl) (f238_144_ok hf hK)
              · refine ev_bi (v := 9) (q_cod qk238 rfl) (by decide) (by decide) ?_
                exact ev_weak (q_pk [0, 1] rfl) (f238_144_ok hf hK)
  · refine ev_ic (v := 0) (q_cod qk238 rfl) (by decide) (by decide) ?_
    obtain rfl := m_R_inv hf
    obtain ⟨rfl, rfl⟩ := (show q_KI o hz (0, _) from hK)
    exact ev_ret (q_cod qk238 rfl) rfl
def f238 (l0 : Nat) (l1 : Int32) (l2 : Int32) : m_M Int32 :=
  m_B (m_aK l0 12) (fun _ => m_B (f206 l0 0 l1) (fun v2 => if v2 = 0 then (f238_31 l0 l1 l2 l0 1) else (m_B (f179 l2 0 7) (fun v3 => if v3 = 0 then (f238_31 l0 l1 l2 l0 2) else (f238_31 l0 l1 l2 l0 0)))))
theorem f238_ok {l0 : Nat} {l1 : Int32} {l2 : Int32} {h : q_H} {o : q_O} {hz : q_H} {x : Int32 × q_H} (hf : f238 l0 l1 l2 h = some x) (hK : (q_KI o hz) x) : q_Ev none 238 0 [(0, .ref l0), (1, .int l1), (2, .int l2)] [] h o hz := by
  unfold f238 at hf
  refine ev_aload_n (q_cod qk238 rfl) (by decide) rfl ?_
  refine ev_ic (v := 0) (q_cod qk238 rfl) (by decide) (by decide) ?_
  refine ev_iload_n (q_cod qk238 rfl) (by decide) rfl ?_
  obtain ⟨g1, hf⟩ := m_aK_some hf
  refine em_call (v := (fun u => some (.int u))) (q_cod qk238 rfl) rfl rfl (q_cokV rfl rfl (Or.inr g1)) rfl (fun x e => f206_cl e) hf (fun v2 h hf => ?_)
  refine ev_is1 (L' := [(0, .ref l0), (1, .int l1), (2, .int l2), (3, .int v2)]) (q_cod qk238 rfl) (by decide) rfl ?_
  refine ev_aload_n (q_cod qk238 rfl) (by decide) rfl ?_
  refine ev_iload_n (q_cod qk238 rfl) (by decide) rfl ?_
  refine em_if_ne (q_cod qk238 rfl) (by decide) hf (fun c5 hf => ?_) (fun c5 hf => ?_)
  · refine ev_ic (v := 1) (q_cod qk238 rfl) (by decide) (by decide) ?_
    refine ev_goto (q_cod qk238 rfl) (by decide) ?_
    exact ev_weak (q_pk [0, 1, 2] rfl) (f238_31_ok hf hK)
  · refine ev_iload_n (q_cod qk238 rfl) (by decide) rfl ?_
    refine ev_ic (v := 0) (q_cod qk238 rfl) (by decide) (by decide) ?_
    refine ev_bi (v := 7) (q_cod qk238 rfl) (by decide) (by decide) ?_
    refine em_call (v := (fun u => some (.int u))) (q_cod qk238 rfl) rfl rfl (q_cokS rfl rfl) rfl (fun x e => f179_cl e) hf (fun v3 h hf => ?_)
    refine em_if_ne (q_cod qk238 rfl) (by decide) hf (fun c4 hf => ?_) (fun c4 hf => ?_)
    · refine ev_ic (v := 2) (q_cod qk238 rfl) (by decide) (by decide) ?_
      refine ev_goto (q_cod qk238 rfl) (by decide) ?_
      exact ev_weak (q_pk [0, 1, 2] rfl) (f238_31_ok hf hK)
    · refine ev_ic (v := 0) (q_cod qk238 rfl) (by decide) (by decide) ?_
      exact ev_weak (q_pk [0, 1, 2] rfl) (f238_31_ok hf hK)
theorem f238_cl {l0 : Nat} {l1 : Int32} {l2 : Int32} {h : q_H} {x : Int32 × q_H} (hf : f238 l0 l1 l2 h = some x) : q_Cl 238 [.ref l0, .int l1, .int l2] h (.inl (some (.int x.1))) x.2 := q_Cl.of rfl (q_LvS rfl rfl) (f238_ok hf ⟨rfl, rfl⟩)
/-! SmithyBenchModel.isPlace(II)Z -/
theorem qk239 : q_cs.getD 239 [] = qc_239 := rfl
def f239_32 (s0 : Int32) : m_M Int32 :=
  m_B (m_G (s0 = 0 ∨ s0 = 1)) (fun _ => m_R s0)
theorem f239_32_ok {s0 : Int32} {h : q_H} {o : q_O} {hz : q_H} {x : Int32 × q_H} (hf : f239_32 s0 h = some x) (hK : (q_KI o hz) x) : q_Ev none 239 32 [] [.int s0] h o hz := by
  unfold f239_32 at hf
  obtain ⟨g1, hf⟩ := m_G_some hf
  obtain rfl := m_R_inv hf
  obtain ⟨rfl, rfl⟩ := (show q_KI o hz (s0, _) from hK)
  exact ev_ret (q_cod qk239 rfl) (q_retZ g1)
def f239_31  : m_M Int32 :=
  f239_32 0
theorem f239_31_ok  {h : q_H} {o : q_O} {hz : q_H} {x : Int32 × q_H} (hf : f239_31 h = some x) (hK : (q_KI o hz) x) : q_Ev none 239 31 [] [] h o hz := by
  unfold f239_31 at hf
  refine ev_ic (v := 0) (q_cod qk239 rfl) (by decide) (by decide) ?_
  exact (f239_32_ok hf hK)
def f239 (l0 : Nat) (l1 : Int32) (l2 : Int32) : m_M Int32 :=
  m_B (m_aK l0 12) (fun _ => m_B (f206 l0 0 l1) (fun v2 => if v2 = 0 then (f239_31) else (m_B (m_aK l0 12) (fun _ => m_B (f196 l0 0 l1 9) (fun v4 => m_B (f179 l2 0 (v4 - 1)) (fun v5 => if v5 = 0 then (f239_31) else (f239_32 1)))))))
theorem f239_ok {l0 : Nat} {l1 : Int32} {l2 : Int32} {h : q_H} {o : q_O} {hz : q_H} {x : Int32 × q_H} (hf : f239 l0 l1 l2 h = some x) (hK : (q_KI o hz) x) : q_Ev none 239 0 [(0, .ref l0), (1, .int l1), (2, .int l2)] [] h o hz := by
  unfold f239 at hf
  refine ev_aload_n (q_cod qk239 rfl) (by decide) rfl ?_
  refine ev_ic (v := 0) (q_cod qk239 rfl) (by decide) (by decide) ?_
  refine ev_iload_n (q_cod qk239 rfl) (by decide) rfl ?_
  obtain ⟨g1, hf⟩ := m_aK_some hf
  refine em_call (v := (fun u => some (.int u))) (q_cod qk239 rfl) rfl rfl (q_cokV rfl rfl (Or.inr g1)) rfl (fun x e => f206_cl e) hf (fun v2 h hf => ?_)
  refine em_if_eq (q_cod qk239 rfl) (by decide) hf (fun c7 hf => ?_) (fun c7 hf => ?_)
  · exact ev_weak (q_pk [] rfl) (f239_31_ok hf hK)
  · refine ev_iload_n (q_cod qk239 rfl) (by decide) rfl ?_
    refine ev_ic (v := 0) (q_cod qk239 rfl) (by decide) (by decide) ?_
    refine ev_aload_n (q_cod qk239 rfl) (by decide) rfl ?_
    refine ev_ic (v := 0) (q_cod qk239 rfl) (by decide) (by decide) ?_
    refine ev_iload_n (q_cod qk239 rfl) (by decide) rfl ?_
    refine ev_bi (v := 9) (q_cod qk239 rfl) (by decide) (by decide) ?_
    obtain ⟨g3, hf⟩ := m_aK_some hf
    refine em_call (v := (fun u => some (.int u))) (q_cod qk239 rfl) rfl rfl (q_cokV rfl rfl (Or.inr g3)) rfl (fun x e => f196_cl e) hf (fun v4 h hf => ?_)
    refine ev_ic (v := 1) (q_cod qk239 rfl) (by decide) (by decide) ?_
    refine ev_isub (q_cod qk239 rfl) (by decide) ?_
    refine em_call (v := (fun u => some (.int u))) (q_cod qk239 rfl) rfl rfl (q_cokS rfl rfl) rfl (fun x e => f179_cl e) hf (fun v5 h hf => ?_)
    refine em_if_eq (q_cod qk239 rfl) (by decide) hf (fun c6 hf => ?_) (fun c6 hf => ?_)
    · exact ev_weak (q_pk [] rfl) (f239_31_ok hf hK)
    · refine ev_ic (v := 1) (q_cod qk239 rfl) (by decide) (by decide) ?_
      refine ev_goto (q_cod qk239 rfl) (by decide) ?_
      exact ev_weak (q_pk [] rfl) (f239_32_ok hf hK)
theorem f239_cl {l0 : Nat} {l1 : Int32} {l2 : Int32} {h : q_H} {x : Int32 × q_H} (hf : f239 l0 l1 l2 h = some x) : q_Cl 239 [.ref l0, .int l1, .int l2] h (.inl (some (.int x.1))) x.2 := q_Cl.of rfl (q_LvS rfl rfl) (f239_ok hf ⟨rfl, rfl⟩)
/-! SmithyBenchModel.node(III)I -/
theorem qk240 : q_cs.getD 240 [] = qc_240 := rfl
def f240_137 (s0 : Int32) : m_M Int32 :=
  m_R s0
theorem f240_137_ok {s0 : Int32} {h : q_H} {o : q_O} {hz : q_H} {x : Int32 × q_H} (hf : f240_137 s0 h = some x) (hK : (q_KI o hz) x) : q_Ev none 240 137 [] [.int s0] h o hz := by
  unfold f240_137 at hf
  obtain rfl := m_R_inv hf
  obtain ⟨rfl, rfl⟩ := (show q_KI o hz (s0, _) from hK)
  exact ev_ret (q_cod qk240 rfl) rfl
def f240_79 (l0 : Nat) (l1 : Int32) (l2 : Int32) (l3 : Int32) (s0 : Int32) : m_M Int32 :=
  if s0 = 0 then (f240_137 0) else (if l3 = 2 then (m_B (m_gR 12 l0 12) (fun r1 => m_B (m_lI r1 ((192 * l1) + l2)) (fun v2 => f240_137 v2))) else (m_B (m_gR 12 l0 13) (fun r3 => m_B (m_lI r3 ((192 * l1) + l2)) (fun v4 => if v4 = (-9) then (f240_137 0) else (m_B (m_gR 12 l0 13) (fun r5 => m_B (m_lI r5 ((192 * l1) + l2)) (fun v6 => f240_137 v6)))))))
theorem f240_79_ok {l0 : Nat} {l1 : Int32} {l2 : Int32} {l3 : Int32} {s0 : Int32} {h : q_H} {o : q_O} {hz : q_H} {x : Int32 × q_H} (hf : f240_79 l0 l1 l2 l3 s0 h = some x) (hK : (q_KI o hz) x) : q_Ev none 240 79 [(0, .ref l0), (1, .int l1), (2, .int l2), (3, .int l3)] [.int s0] h o hz := by
  unfold f240_79 at hf
  refine ev_is2 (L' := [(0, .ref l0), (1, .int l1), (2, .int l2), (3, .int l3), (5, .int s0)]) (q_cod qk240 rfl) (by decide) rfl ?_
  refine ev_si (v := 192) (q_cod qk240 rfl) (by decide) (by decide) ?_
  refine ev_iload_n (q_cod qk240 rfl) (by decide) rfl ?_
  refine ev_imul (q_cod qk240 rfl) (by decide) ?_
  refine ev_iload_n (q_cod qk240 rfl) (by decide) rfl ?_
  refine ev_iadd (q_cod qk240 rfl) (by decide) ?_
  refine ev_is2 (L' := [(0, .ref l0), (1, .int l1), (2, .int l2), (3, .int l3), (5, .int s0), (6, .int ((192 * l1) + l2))]) (q_cod qk240 rfl) (by decide) rfl ?_
  refine ev_iload (q_cod qk240 rfl) (by decide) rfl ?_
  refine em_if_ne (q_cod qk240 rfl) (by decide) hf (fun c9 hf => ?_) (fun c9 hf => ?_)
  · refine ev_ic (v := 0) (q_cod qk240 rfl) (by decide) (by decide) ?_
    refine ev_goto (q_cod qk240 rfl) (by decide) ?_
    exact ev_weak (q_pk [] rfl) (f240_137_ok hf hK)
  · refine ev_iload_n (q_cod qk240 rfl) (by decide) rfl ?_
    refine ev_ic (v := 2) (q_cod qk240 rfl) (by decide) (by decide) ?_
    refine em_ic_ne (q_cod qk240 rfl) (by decide) hf (fun c8 hf => ?_) (fun c8 hf => ?_)
    · refine ev_aload_n (q_cod qk240 rfl) (by decide) rfl ?_
      refine em_gR (q_cod qk240 rfl) (by decide) (by decide) hf (fun r1 hf => ?_)
      refine ev_iload (q_cod qk240 rfl) (by decide) rfl ?_
      refine em_lI (q_cod qk240 rfl) (by decide) hf (fun v2 hf => ?_)
      refine ev_goto (q_cod qk240 rfl) (by decide) ?_
      exact ev_weak (q_pk [] rfl) (f240_137_ok hf hK)
    · refine ev_aload_n (q_cod qk240 rfl) (by decide) rfl ?_
      refine em_gR (q_cod qk240 rfl) (by decide) (by decide) hf (fun r3 hf => ?_)
      refine ev_iload (q_cod qk240 rfl) (by decide) rfl ?_
      refine em_lI (q_cod qk240 rfl) (by decide) hf (fun v4 hf => ?_)
      refine ev_bi (v := (-9)) (q_cod qk240 rfl) (by decide) (by decide) ?_
      refine em_ic_ne (q_cod qk240 rfl) (by decide) hf (fun c7 hf => ?_) (fun c7 hf => ?_)
      · refine ev_ic (v := 0) (q_cod qk240 rfl) (by decide) (by decide) ?_
        refine ev_goto (q_cod qk240 rfl) (by decide) ?_
        exact ev_weak (q_pk [] rfl) (f240_137_ok hf hK)
      · refine ev_aload_n (q_cod qk240 rfl) (by decide) rfl ?_
        refine em_gR (q_cod qk240 rfl) (by decide) (by decide) hf (fun r5 hf => ?_)
        refine ev_iload (q_cod qk240 rfl) (by decide) rfl ?_
        refine em_lI (q_cod qk240 rfl) (by decide) hf (fun v6 hf => ?_)
        exact ev_weak (q_pk [] rfl) (f240_137_ok hf hK)
def f240_28 (l0 : Nat) (l1 : Int32) (l2 : Int32) (l3 : Int32) (s0 : Nat) (s1 : Int32) : m_M Int32 :=
  m_B (m_aK s0 12) (fun _ => m_B (f178 s0 s1) (fun v2 => if v2 = 0 then (m_B (m_aK l0 12) (fun _ => m_B (f199 l0 0 l1 l2) (fun v4 => if l3 = 0 then (m_R v4) else (if l3 = 1 then (m_B (m_aK l0 12) (fun _ => m_B (f200 l0 0 l1 l2) (fun v6 => m_R v6))) else (m_B (m_aK l0 12) (fun _ => m_B (f235 l0 0) (fun v8 => if v8 = (-1) then (f240_79 l0 l1 l2 l3 1) else (f240_79 l0 l1 l2 l3 0)))))))) else (m_R 0)))
theorem f240_28_ok {l0 : Nat} {l1 : Int32} {l2 : Int32} {l3 : Int32} {s0 : Nat} {s1 : Int32} {h : q_H} {o : q_O} {hz : q_H} {x : Int32 × q_H} (hf : f240_28 l0 l1 l2 l3 s0 s1 h = some x) (hK : (q_KI o hz) x) : q_Ev none 240 28 [(0, .ref l0), (1, .int l1), (2, .int l2), (3, .int l3)] [.int s1, .ref s0] h o hz := by
  unfold f240_28 at hf
  obtain ⟨g1, hf⟩ := m_aK_some hf
  refine em_call (v := (fun u => some (.int u))) (q_cod qk240 rfl) rfl rfl (q_cokV rfl rfl (Or.inr g1)) rfl (fun x e => f178_cl e) hf (fun v2 h hf => ?_)
  refine em_if_eq (q_cod qk240 rfl) (by decide) hf (fun c12 hf => ?_) (fun c12 hf => ?_)
  · refine ev_aload_n (q_cod qk240 rfl) (by decide) rfl ?_
    refine ev_ic (v := 0) (q_cod qk240 rfl) (by decide) (by decide) ?_
    refine ev_iload_n (q_cod qk240 rfl) (by decide) rfl ?_
    refine ev_iload_n (q_cod qk240 rfl) (by decide) rfl ?_
    obtain ⟨g3, hf⟩ := m_aK_some hf
    refine em_call (v := (fun u => some (.int u))) (q_cod qk240 rfl) rfl rfl (q_cokV rfl rfl (Or.inr g3)) rfl (fun x e => f199_cl e) hf (fun v4 h hf => ?_)
    refine ev_is2 (L' := [(0, .ref l0), (1, .int l1), (2, .int l2), (3, .int l3), (4, .int v4)]) (q_cod qk240 rfl) (by decide) rfl ?_
    refine ev_iload_n (q_cod qk240 rfl) (by decide) rfl ?_
    refine em_if_ne (q_cod qk240 rfl) (by decide) hf (fun c11 hf => ?_) (fun c11 hf => ?_)
    · refine ev_iload (q_cod qk240 rfl) (by decide) rfl ?_
      obtain rfl := m_R_inv hf
      obtain ⟨rfl, rfl⟩ := (show q_KI o hz (v4, _) from hK)
      exact ev_ret (q_cod qk240 rfl) rfl
    · refine ev_iload_n (q_cod qk240 rfl) (by decide) rfl ?_
      refine ev_ic (v := 1) (q_cod qk240 rfl) (by decide) (by decide) ?_
      refine em_ic_ne (q_cod qk240 rfl) (by decide) hf (fun c10 hf => ?_) (fun c10 hf => ?_)
      · refine ev_aload_n (q_cod qk240 rfl) (by decide) rfl ?_
        refine ev_ic (v := 0) (q_cod qk240 rfl) (by decide) (by decide) ?_
        refine ev_iload_n (q_cod qk240 rfl) (by decide) rfl ?_
        refine ev_iload_n (q_cod qk240 rfl) (by decide) rfl ?_
        obtain ⟨g5, hf⟩ := m_aK_some hf
        refine em_call (v := (fun u => some (.int u))) (q_cod qk240 rfl) rfl rfl (q_cokV rfl rfl (Or.inr g5)) rfl (fun x e => f200_cl e) hf (fun v6 h hf => ?_)
        obtain rfl := m_R_inv hf
        obtain ⟨rfl, rfl⟩ := (show q_KI o hz (v6, _) from hK)
        exact ev_ret (q_cod qk240 rfl) rfl
      · refine ev_aload_n (q_cod qk240 rfl) (by decide) rfl ?_
        refine ev_ic (v := 0) (q_cod qk240 rfl) (by decide) (by decide) ?_
        obtain ⟨g7, hf⟩ := m_aK_some hf
        refine em_call (v := (fun u => some (.int u))) (q_cod qk240 rfl) rfl rfl (q_cokV rfl rfl (Or.inr g7)) rfl (fun x e => f235_cl e) hf (fun v8 h hf => ?_)
        refine ev_ic (v := (-1)) (q_cod qk240 rfl) (by decide) (by decide) ?_
        refine em_ic_ne (q_cod qk240 rfl) (by decide) hf (fun c9 hf => ?_) (fun c9 hf => ?_)
        · refine ev_ic (v := 1) (q_cod qk240 rfl) (by decide) (by decide) ?_
          refine ev_goto (q_cod qk240 rfl) (by decide) ?_
          exact ev_weak (q_pk [0, 1, 2, 3] rfl) (f240_79_ok hf hK)
        · refine ev_ic (v := 0) (q_cod qk240 rfl) (by decide) (by decide) ?_
          exact ev_weak (q_pk [0, 1, 2, 3] rfl) (f240_79_ok hf hK)
  · refine ev_ic (v := 0) (q_cod qk240 rfl) (by decide) (by decide) ?_
    obtain rfl := m_R_inv hf
    obtain ⟨rfl, rfl⟩ := (show q_KI o hz (0, _) from hK)
    exact ev_ret (q_cod qk240 rfl) rfl
def f240 (l0 : Nat) (l1 : Int32) (l2 : Int32) (l3 : Int32) : m_M Int32 :=
  m_B (m_aK l0 12) (fun _ => m_B (f239 l0 l1 l2) (fun v2 => if v2 = 0 then (f240_28 l0 l1 l2 l3 l0 1) else (m_B (f179 l3 0 3) (fun v3 => if v3 = 0 then (f240_28 l0 l1 l2 l3 l0 2) else (f240_28 l0 l1 l2 l3 l0 0)))))
theorem f240_ok {l0 : Nat} {l1 : Int32} {l2 : Int32} {l3 : Int32} {h : q_H} {o : q_O} {hz : q_H} {x : Int32 × q_H} (hf : f240 l0 l1 l2 l3 h = some x) (hK : (q_KI o hz) x) : q_Ev none 240 0 [(0, .ref l0), (1, .int l1), (2, .int l2), (3, .int l3)] [] h o hz := by
  unfold f240 at hf
  refine ev_aload_n (q_cod qk240 rfl) (by decide) rfl ?_
  refine ev_aload_n (q_cod qk240 rfl) (by decide) rfl ?_
  refine ev_iload_n (q_cod qk240 rfl) (by decide) rfl ?_
  refine ev_iload_n (q_cod qk240 rfl) (by decide) rfl ?_
  obtain ⟨g1, hf⟩ := m_aK_some hf
  refine em_call (v := (fun u => some (.int u))) (q_cod qk240 rfl) rfl rfl (q_cokV rfl rfl (Or.inr g1)) rfl (fun x e => f239_cl e) hf (fun v2 h hf => ?_)
  refine em_if_ne (q_cod qk240 rfl) (by decide) hf (fun c5 hf => ?_) (fun c5 hf => ?_)
  · refine ev_ic (v := 1) (q_cod qk240 rfl) (by decide) (by decide) ?_
    refine ev_goto (q_cod qk240 rfl) (by decide) ?_
    exact (f240_28_ok hf hK)
  · refine ev_iload_n (q_cod qk240 rfl) (by decide) rfl ?_
    refine ev_ic (v := 0) (q_cod qk240 rfl) (by decide) (by decide) ?_
    refine ev_ic (v := 3) (q_cod qk240 rfl) (by decide) (by decide) ?_
    refine em_call (v := (fun u => some (.int u))) (q_cod qk240 rfl) rfl rfl (q_cokS rfl rfl) rfl (fun x e => f179_cl e) hf (fun v3 h hf => ?_)
    refine em_if_ne (q_cod qk240 rfl) (by decide) hf (fun c4 hf => ?_) (fun c4 hf => ?_)
    · refine ev_ic (v := 2) (q_cod qk240 rfl) (by decide) (by decide) ?_
      refine ev_goto (q_cod qk240 rfl) (by decide) ?_
      exact (f240_28_ok hf hK)
    · refine ev_ic (v := 0) (q_cod qk240 rfl) (by decide) (by decide) ?_
      exact (f240_28_ok hf hK)
theorem f240_cl {l0 : Nat} {l1 : Int32} {l2 : Int32} {l3 : Int32} {h : q_H} {x : Int32 × q_H} (hf : f240 l0 l1 l2 l3 h = some x) : q_Cl 240 [.ref l0, .int l1, .int l2, .int l3] h (.inl (some (.int x.1))) x.2 := q_Cl.of rfl (q_LvS rfl rfl) (f240_ok hf ⟨rfl, rfl⟩)
/-! SmithyBenchModel.makeObject(II)I -/
theorem qk241 : q_cs.getD 241 [] = qc_241 := rfl
def f241_77 (l0 : Nat) (l1 : Int32) (l2 : Int32) (l3 : Int32) (s0 : Nat) (s1 : Int32) (s2 : Int32) : m_M ((Nat × Int32 × Int32 × Int32) ⊕ Int32) :=
  m_B (m_wI s0 s1 s2) (fun _ => m_B (m_gR 12 l0 32) (fun r1 => m_B (m_gI 12 l0 29) (fun v2 => m_B (m_wI r1 ((16 * v2) + l3) 0) (fun _ => m_R (.inl (l0, l1, l2, (l3 + 1)))))))
theorem f241_77_ok {l0 : Nat} {l1 : Int32} {l2 : Int32} {l3 : Int32} {s0 : Nat} {s1 : Int32} {s2 : Int32} {h : q_H} {o : q_O} {hz : q_H} {x : ((Nat × Int32 × Int32 × Int32) ⊕ Int32) × q_H} (hf : f241_77 l0 l1 l2 l3 s0 s1 s2 h = some x) (hK : (m_yK (fun (s : Nat × Int32 × Int32 × Int32) (h : q_H) => q_Ev none 241 12 [(0, .ref (s.1)), (1, .int (s.2.1)), (2, .int (s.2.2.1)), (3, .int (s.2.2.2))] [] h o hz) (q_KI o hz)) x) : q_Ev none 241 77 [(0, .ref l0), (1, .int l1), (2, .int l2), (3, .int l3)] [.int s2, .int s1, .ref s0] h o hz := by
  unfold f241_77 at hf
  refine em_wI (q_cod qk241 rfl) (by decide) hf (fun hf => ?_)
  refine ev_aload_n (q_cod qk241 rfl) (by decide) rfl ?_
  refine em_gR (q_cod qk241 rfl) (by decide) (by decide) hf (fun r1 hf => ?_)
  refine ev_bi (v := 16) (q_cod qk241 rfl) (by decide) (by decide) ?_
  refine ev_aload_n (q_cod qk241 rfl) (by decide) rfl ?_
  refine em_gI (q_cod qk241 rfl) (by decide) (by decide) hf (fun v2 hf => ?_)
  refine ev_imul (q_cod qk241 rfl) (by decide) ?_
  refine ev_iload_n (q_cod qk241 rfl) (by decide) rfl ?_
  refine ev_iadd (q_cod qk241 rfl) (by decide) ?_
  refine ev_ic (v := 0) (q_cod qk241 rfl) (by decide) (by decide) ?_
  refine em_wI (q_cod qk241 rfl) (by decide) hf (fun hf => ?_)
  refine ev_inc (v := l3 + 1) (L' := [(0, .ref l0), (1, .int l1), (2, .int l2), (3, .int (l3 + 1))]) (q_cod qk241 rfl) (by decide) rfl rfl rfl ?_
  refine ev_goto (q_cod qk241 rfl) (by decide) ?_
  obtain rfl := m_R_inv hf
  exact (show q_Ev none 241 12 [(0, .ref l0), (1, .int l1), (2, .int l2), (3, .int (l3 + 1))] [] _ o hz from hK)
def f241_52 (l0 : Nat) (l1 : Int32) (l2 : Int32) (l3 : Int32) (s0 : Int32) : m_M ((Nat × Int32 × Int32 × Int32) ⊕ Int32) :=
  m_B (m_gR 12 l0 31) (fun r1 => m_B (m_gI 12 l0 29) (fun v2 => if s0 = 0 then (f241_77 l0 l1 l2 l3 r1 ((16 * v2) + l3) 0) else (f241_77 l0 l1 l2 l3 r1 ((16 * v2) + l3) 2)))
theorem f241_52_ok {l0 : Nat} {l1 : Int32} {l2 : Int32} {l3 : Int32} {s0 : Int32} {h : q_H} {o : q_O} {hz : q_H} {x : ((Nat × Int32 × Int32 × Int32) ⊕ Int32) × q_H} (hf : f241_52 l0 l1 l2 l3 s0 h = some x) (hK : (m_yK (fun (s : Nat × Int32 × Int32 × Int32) (h : q_H) => q_Ev none 241 12 [(0, .ref (s.1)), (1, .int (s.2.1)), (2, .int (s.2.2.1)), (3, .int (s.2.2.2))] [] h o hz) (q_KI o hz)) x) : q_Ev none 241 52 [(0, .ref l0), (1, .int l1), (2, .int l2), (3, .int l3)] [.int s0] h o hz := by
  unfold f241_52 at hf
  refine ev_is2 (L' := [(0, .ref l0), (1, .int l1), (2, .int l2), (3, .int l3), (5, .int s0)]) (q_cod qk241 rfl) (by decide) rfl ?_
  refine ev_aload_n (q_cod qk241 rfl) (by decide) rfl ?_
  refine em_gR (q_cod qk241 rfl) (by decide) (by decide) hf (fun r1 hf => ?_)
  refine ev_bi (v := 16) (q_cod qk241 rfl) (by decide) (by decide) ?_
  refine ev_aload_n (q_cod qk241 rfl) (by decide) rfl ?_
  refine em_gI (q_cod qk241 rfl) (by decide) (by decide) hf (fun v2 hf => ?_)
  refine ev_imul (q_cod qk241 rfl) (by decide) ?_
  refine ev_iload_n (q_cod qk241 rfl) (by decide) rfl ?_
  refine ev_iadd (q_cod qk241 rfl) (by decide) ?_
  refine ev_iload (q_cod qk241 rfl) (by decide) rfl ?_
  refine em_if_eq (q_cod qk241 rfl) (by decide) hf (fun c3 hf => ?_) (fun c3 hf => ?_)
  · refine ev_ic (v := 0) (q_cod qk241 rfl) (by decide) (by decide) ?_
    exact ev_weak (q_pk [0, 1, 2, 3] rfl) (f241_77_ok hf hK)
  · refine ev_ic (v := 2) (q_cod qk241 rfl) (by decide) (by decide) ?_
    refine ev_goto (q_cod qk241 rfl) (by decide) ?_
    exact ev_weak (q_pk [0, 1, 2, 3] rfl) (f241_77_ok hf hK)
def f241_51 (l0 : Nat) (l1 : Int32) (l2 : Int32) (l3 : Int32) : m_M ((Nat × Int32 × Int32 × Int32) ⊕ Int32) :=
  f241_52 l0 l1 l2 l3 0
theorem f241_51_ok {l0 : Nat} {l1 : Int32} {l2 : Int32} {l3 : Int32} {h : q_H} {o : q_O} {hz : q_H} {x : ((Nat × Int32 × Int32 × Int32) ⊕ Int32) × q_H} (hf : f241_51 l0 l1 l2 l3 h = some x) (hK : (m_yK (fun (s : Nat × Int32 × Int32 × Int32) (h : q_H) => q_Ev none 241 12 [(0, .ref (s.1)), (1, .int (s.2.1)), (2, .int (s.2.2.1)), (3, .int (s.2.2.2))] [] h o hz) (q_KI o hz)) x) : q_Ev none 241 51 [(0, .ref l0), (1, .int l1), (2, .int l2), (3, .int l3)] [] h o hz := by
  unfold f241_51 at hf
  refine ev_ic (v := 0) (q_cod qk241 rfl) (by decide) (by decide) ?_
  exact (f241_52_ok hf hK)
def f241_99 (l0 : Nat) : m_M Int32 :=
  m_B (m_gI 12 l0 29) (fun v1 => m_B (m_pI 12 l0 29 (v1 + 1)) (fun _ => m_B (m_gI 12 l0 29) (fun v2 => m_R (v2 - 1))))
theorem f241_99_ok {l0 : Nat} {h : q_H} {o : q_O} {hz : q_H} {x : Int32 × q_H} (hf : f241_99 l0 h = some x) (hK : (q_KI o hz) x) : q_Ev none 241 99 [(0, .ref l0)] [] h o hz := by
  unfold f241_99 at hf
  refine ev_aload_n (q_cod qk241 rfl) (by decide) rfl ?_
  refine ev_dup (q_cod qk241 rfl) (by decide) rfl ?_
  refine em_gI (q_cod qk241 rfl) (by decide) (by decide) hf (fun v1 hf => ?_)
  refine ev_ic (v := 1) (q_cod qk241 rfl) (by decide) (by decide) ?_
  refine ev_iadd (q_cod qk241 rfl) (by decide) ?_
  refine em_pI (q_cod qk241 rfl) (by decide) (by decide) (by decide) hf (fun hf => ?_)
  refine ev_aload_n (q_cod qk241 rfl) (by decide) rfl ?_
  refine em_gI (q_cod qk241 rfl) (by decide) (by decide) hf (fun v2 hf => ?_)
  refine ev_ic (v := 1) (q_cod qk241 rfl) (by decide) (by decide) ?_
  refine ev_isub (q_cod qk241 rfl) (by decide) ?_
  obtain rfl := m_R_inv hf
  obtain ⟨rfl, rfl⟩ := (show q_KI o hz ((v2 - 1), _) from hK)
  exact ev_ret (q_cod qk241 rfl) rfl
def f241_12b (l0 : Nat) (l1 : Int32) (l2 : Int32) (l3 : Int32) : m_M ((Nat × Int32 × Int32 × Int32) ⊕ Int32) :=
  if l3 < 16 then (m_B (m_aK l0 12) (fun _ => m_B (f211 l0 l1 l2 l3) (fun v2 => if v2 = (-1) then (f241_51 l0 l1 l2 l3) else (m_B (m_aK l0 12) (fun _ => m_B (f210 l0 l1 v2 l3) (fun v4 => if (v4 - 2) = (-1) then (f241_51 l0 l1 l2 l3) else (f241_52 l0 l1 l2 l3 1))))))) else (m_B (f241_99 l0) (fun r => m_R (.inr r)))
theorem f241_12b_ok {l0 : Nat} {l1 : Int32} {l2 : Int32} {l3 : Int32} {h : q_H} {o : q_O} {hz : q_H} {x : ((Nat × Int32 × Int32 × Int32) ⊕ Int32) × q_H} (hf : f241_12b l0 l1 l2 l3 h = some x) (hK : (m_yK (fun (s : Nat × Int32 × Int32 × Int32) (h : q_H) => q_Ev none 241 12 [(0, .ref (s.1)), (1, .int (s.2.1)), (2, .int (s.2.2.1)), (3, .int (s.2.2.2))] [] h o hz) (q_KI o hz)) x) : q_Ev none 241 12 [(0, .ref l0), (1, .int l1), (2, .int l2), (3, .int l3)] [] h o hz := by
  unfold f241_12b at hf
  refine ev_iload_n (q_cod qk241 rfl) (by decide) rfl ?_
  refine ev_bi (v := 16) (q_cod qk241 rfl) (by decide) (by decide) ?_
  refine em_ic_ge (q_cod qk241 rfl) (by decide) hf (fun c7 hf => ?_) (fun c7 hf => ?_)
  · refine ev_aload_n (q_cod qk241 rfl) (by decide) rfl ?_
    refine ev_iload_n (q_cod qk241 rfl) (by decide) rfl ?_
    refine ev_iload_n (q_cod qk241 rfl) (by decide) rfl ?_
    refine ev_iload_n (q_cod qk241 rfl) (by decide) rfl ?_
    obtain ⟨g1, hf⟩ := m_aK_some hf
    refine em_call (v := (fun u => some (.int u))) (q_cod qk241 rfl) rfl rfl (q_cokV rfl rfl (Or.inr g1)) rfl (fun x e => f211_cl e) hf (fun v2 h hf => ?_)
    refine ev_is2 (L' := [(0, .ref l0), (1, .int l1), (2, .int l2), (3, .int l3), (4, .int v2)]) (q_cod qk241 rfl) (by decide) rfl ?_
    refine ev_iload (q_cod qk241 rfl) (by decide) rfl ?_
    refine ev_ic (v := (-1)) (q_cod qk241 rfl) (by decide) (by decide) ?_
    refine em_ic_eq (q_cod qk241 rfl) (by decide) hf (fun c6 hf => ?_) (fun c6 hf => ?_)
    · exact ev_weak (q_pk [0, 1, 2, 3] rfl) (f241_51_ok hf hK)
    · refine ev_aload_n (q_cod qk241 rfl) (by decide) rfl ?_
      refine ev_iload_n (q_cod qk241 rfl) (by decide) rfl ?_
      refine ev_iload (q_cod qk241 rfl) (by decide) rfl ?_
      refine ev_iload_n (q_cod qk241 rfl) (by decide) rfl ?_
      obtain ⟨g3, hf⟩ := m_aK_some hf
      refine em_call (v := (fun u => some (.int u))) (q_cod qk241 rfl) rfl rfl (q_cokV rfl rfl (Or.inr g3)) rfl (fun x e => f210_cl e) hf (fun v4 h hf => ?_)
      refine ev_ic (v := 2) (q_cod qk241 rfl) (by decide) (by decide) ?_
      refine ev_isub (q_cod qk241 rfl) (by decide) ?_
      refine ev_ic (v := (-1)) (q_cod qk241 rfl) (by decide) (by decide) ?_
      refine em_ic_eq (q_cod qk241 rfl) (by decide) hf (fun c5 hf => ?_) (fun c5 hf => ?_)
      · exact ev_weak (q_pk [0, 1, 2, 3] rfl) (f241_51_ok hf hK)
      · refine ev_ic (v := 1) (q_cod qk241 rfl) (by decide) (by decide) ?_
        refine ev_goto (q_cod qk241 rfl) (by decide) ?_
        exact ev_weak (q_pk [0, 1, 2, 3] rfl) (f241_52_ok hf hK)
  · obtain ⟨y0, hf0, hx⟩ := m_inr_some hf
    subst hx
    exact ev_weak (q_pk [0] rfl) (f241_99_ok hf0 hK)
def f241_12 (l0 : Nat) (l1 : Int32) (l2 : Int32) (l3 : Int32) : m_M Int32 := m_W (fun s => f241_12b (s.1) (s.2.1) (s.2.2.1) (s.2.2.2)) 1000000 (l0, l1, l2, l3)
theorem f241_12_ok {l0 : Nat} {l1 : Int32} {l2 : Int32} {l3 : Int32} {h : q_H} {o : q_O} {hz : q_H} {x : Int32 × q_H} (hf : f241_12 l0 l1 l2 l3 h = some x) (hK : (q_KI o hz) x) : q_Ev none 241 12 [(0, .ref l0), (1, .int l1), (2, .int l2), (3, .int l3)] [] h o hz :=
  m_W_ok (P := (fun (s : Nat × Int32 × Int32 × Int32) (h : q_H) => q_Ev none 241 12 [(0, .ref (s.1)), (1, .int (s.2.1)), (2, .int (s.2.2.1)), (3, .int (s.2.2.2))] [] h o hz)) (K := (q_KI o hz)) (fun s h x h1 h2 => f241_12b_ok h1 h2) _ (l0, l1, l2, l3) _ _ hf hK
def f241 (l0 : Nat) (l1 : Int32) (l2 : Int32) : m_M Int32 :=
  m_B (m_gR 12 l0 30) (fun r1 => m_B (m_gI 12 l0 29) (fun v2 => m_B (m_wI r1 v2 l2) (fun _ => f241_12 l0 l1 l2 0)))
theorem f241_ok {l0 : Nat} {l1 : Int32} {l2 : Int32} {h : q_H} {o : q_O} {hz : q_H} {x : Int32 × q_H} (hf : f241 l0 l1 l2 h = some x) (hK : (q_KI o hz) x) : q_Ev none 241 0 [(0, .ref l0), (1, .int l1), (2, .int l2)] [] h o hz := by
  unfold f241 at hf
  refine ev_aload_n (q_cod qk241 rfl) (by decide) rfl ?_
  refine em_gR (q_cod qk241 rfl) (by decide) (by decide) hf (fun r1 hf => ?_)
  refine ev_aload_n (q_cod qk241 rfl) (by decide) rfl ?_
  refine em_gI (q_cod qk241 rfl) (by decide) (by decide) hf (fun v2 hf => ?_)
  refine ev_iload_n (q_cod qk241 rfl) (by decide) rfl ?_
  refine em_wI (q_cod qk241 rfl) (by decide) hf (fun hf => ?_)
  refine ev_ic (v := 0) (q_cod qk241 rfl) (by decide) (by decide) ?_
  refine ev_is1 (L' := [(0, .ref l0), (1, .int l1), (2, .int l2), (3, .int 0)]) (q_cod qk241 rfl) (by decide) rfl ?_
  exact (f241_12_ok hf hK)
theorem f241_cl {l0 : Nat} {l1 : Int32} {l2 : Int32} {h : q_H} {x : Int32 × q_H} (hf : f241 l0 l1 l2 h = some x) : q_Cl 241 [.ref l0, .int l1, .int l2] h (.inl (some (.int x.1))) x.2 := q_Cl.of rfl (q_LvS rfl rfl) (f241_ok hf ⟨rfl, rfl⟩)
/-! SmithyBenchModel.push(II)V -/
theorem qk242 : q_cs.getD 242 [] = qc_242 := rfl
def f242 (l0 : Nat) (l1 : Int32) (l2 : Int32) : m_M Unit :=
  m_B (m_gR 12 l0 27) (fun r1 => m_B (m_gI 12 l0 26) (fun v2 => m_B (m_wI r1 v2 l1) (fun _ => m_B (m_gR 12 l0 28) (fun r3 => m_B (m_gI 12 l0 26) (fun v4 => m_B (m_wI r3 v4 l2) (fun _ => m_B (m_gI 12 l0 26) (fun v5 => m_B (m_pI 12 l0 26 (v5 + 1)) (fun _ => m_R ()))))))))
theorem f242_ok {l0 : Nat} {l1 : Int32} {l2 : Int32} {h : q_H} {o : q_O} {hz : q_H} {x : Unit × q_H} (hf : f242 l0 l1 l2 h = some x) (hK : (m_KU o hz) x) : q_Ev none 242 0 [(0, .ref l0), (1, .int l1), (2, .int l2)] [] h o hz := by
  unfold f242 at hf
  refine ev_aload_n (q_cod qk242 rfl) (by decide) rfl ?_
  refine em_gR (q_cod qk242 rfl) (by decide) (by decide) hf (fun r1 hf => ?_)
  refine ev_aload_n (q_cod qk242 rfl) (by decide) rfl ?_
  refine em_gI (q_cod qk242 rfl) (by decide) (by decide) hf (fun v2 hf => ?_)
  refine ev_iload_n (q_cod qk242 rfl) (by decide) rfl ?_
  refine em_wI (q_cod qk242 rfl) (by decide) hf (fun hf => ?_)
  refine ev_aload_n (q_cod qk242 rfl) (by decide) rfl ?_
  refine em_gR (q_cod qk242 rfl) (by decide) (by decide) hf (fun r3 hf => ?_)
  refine ev_aload_n (q_cod qk242 rfl) (by decide) rfl ?_
  refine em_gI (q_cod qk242 rfl) (by decide) (by decide) hf (fun v4 hf => ?_)
  refine ev_iload_n (q_cod qk242 rfl) (by decide) rfl ?_
  refine em_wI (q_cod qk242 rfl) (by decide) hf (fun hf => ?_)
  refine ev_aload_n (q_cod qk242 rfl) (by decide) rfl ?_
  refine ev_dup (q_cod qk242 rfl) (by decide) rfl ?_
  refine em_gI (q_cod qk242 rfl) (by decide) (by decide) hf (fun v5 hf => ?_)
  refine ev_ic (v := 1) (q_cod qk242 rfl) (by decide) (by decide) ?_
  refine ev_iadd (q_cod qk242 rfl) (by decide) ?_
  refine em_pI (q_cod qk242 rfl) (by decide) (by decide) (by decide) hf (fun hf => ?_)
  obtain rfl := m_R_inv hf
  obtain ⟨rfl, rfl⟩ := (show m_KU o hz ((), _) from hK)
  exact ev_ret (q_cod qk242 rfl) rfl
theorem f242_cl {l0 : Nat} {l1 : Int32} {l2 : Int32} {h : q_H} {x : Unit × q_H} (hf : f242 l0 l1 l2 h = some x) : q_Cl 242 [.ref l0, .int l1, .int l2] h (.inl none) x.2 := q_Cl.of rfl (q_LvS rfl rfl) (f242_ok hf ⟨rfl, rfl⟩)
/-! SmithyBenchModel.start(II)V -/
theorem qk243 : q_cs.getD 243 [] = qc_243 := rfl
def f243 (l0 : Nat) (l1 : Int32) (l2 : Int32) : m_M Unit :=
  m_B (m_gI 12 l0 33) (fun v1 => if v1 = 500 then (m_B (m_pI 12 l0 34 5) (fun _ => m_R ())) else (m_B (m_gI 12 l0 33) (fun v2 => m_B (m_pI 12 l0 33 (v2 + 1)) (fun _ => m_B (m_gR 12 l0 21) (fun r3 => m_B (m_gI 12 l0 20) (fun v4 => m_B (m_wI r3 v4 l2) (fun _ => m_B (m_gR 12 l0 22) (fun r5 => m_B (m_gI 12 l0 20) (fun v6 => m_B (m_wI r5 v6 l1) (fun _ => m_B (m_gR 12 l0 23) (fun r7 => m_B (m_gI 12 l0 20) (fun v8 => m_B (m_wI r7 v8 0) (fun _ => m_B (m_gR 12 l0 24) (fun r9 => m_B (m_gI 12 l0 20) (fun v10 => m_B (m_wI r9 v10 (l1 + 1)) (fun _ => m_B (m_gR 12 l0 25) (fun r11 => m_B (m_gI 12 l0 20) (fun v12 => m_B (m_gI 12 l0 26) (fun v13 => m_B (m_wI r11 v12 v13) (fun _ => m_B (m_gI 12 l0 20) (fun v14 => m_B (m_pI 12 l0 20 (v14 + 1)) (fun _ => m_R ()))))))))))))))))))))))
theorem f243_ok {l0 : Nat} {l1 : Int32} {l2 : Int32} {h : q_H} {o : q_O} {hz : q_H} {x : Unit × q_H} (hf : f243 l0 l1 l2 h = some x) (hK : (m_KU o hz) x) : q_Ev none 243 0 [(0, .ref l0), (1, .int l1), (2, .int l2)] [] h o hz := by
  unfold f243 at hf
  refine ev_aload_n (q_cod qk243 rfl) (by decide) rfl ?_
  refine em_gI (q_cod qk243 rfl) (by decide) (by decide) hf (fun v1 hf => ?_)
  refine ev_si (v := 500) (q_cod qk243 rfl) (by decide) (by decide) ?_
  refine em_ic_ne (q_cod qk243 rfl) (by decide) hf (fun c15 hf => ?_) (fun c15 hf => ?_)
  · refine ev_aload_n (q_cod qk243 rfl) (by decide) rfl ?_
    refine ev_ic (v := 5) (q_cod qk243 rfl) (by decide) (by decide) ?_
    refine em_pI (q_cod qk243 rfl) (by decide) (by decide) (by decide) hf (fun hf => ?_)
    obtain rfl := m_R_inv hf
    obtain ⟨rfl, rfl⟩ := (show m_KU o hz ((), _) from hK)
    exact ev_ret (q_cod qk243 rfl) rfl
  · refine ev_aload_n (q_cod qk243 rfl) (by decide) rfl ?_
    refine ev_dup (q_cod qk243 rfl) (by decide) rfl ?_
    refine em_gI (q_cod qk243 rfl) (by decide) (by decide) hf (fun v2 hf => ?_)
    refine ev_ic (v := 1) (q_cod qk243 rfl) (by decide) (by decide) ?_
    refine ev_iadd (q_cod qk243 rfl) (by decide) ?_
    refine em_pI (q_cod qk243 rfl) (by decide) (by decide) (by decide) hf (fun hf => ?_)
    refine ev_aload_n (q_cod qk243 rfl) (by decide) rfl ?_
    refine em_gR (q_cod qk243 rfl) (by decide) (by decide) hf (fun r3 hf => ?_)
    refine ev_aload_n (q_cod qk243 rfl) (by decide) rfl ?_
    refine em_gI (q_cod qk243 rfl) (by decide) (by decide) hf (fun v4 hf => ?_)
    refine ev_iload_n (q_cod qk243 rfl) (by decide) rfl ?_
    refine em_wI (q_cod qk243 rfl) (by decide) hf (fun hf => ?_)
    refine ev_aload_n (q_cod qk243 rfl) (by decide) rfl ?_
    refine em_gR (q_cod qk243 rfl) (by decide) (by decide) hf (fun r5 hf => ?_)
    refine ev_aload_n (q_cod qk243 rfl) (by decide) rfl ?_
    refine em_gI (q_cod qk243 rfl) (by decide) (by decide) hf (fun v6 hf => ?_)
    refine ev_iload_n (q_cod qk243 rfl) (by decide) rfl ?_
    refine em_wI (q_cod qk243 rfl) (by decide) hf (fun hf => ?_)
    refine ev_aload_n (q_cod qk243 rfl) (by decide) rfl ?_
    refine em_gR (q_cod qk243 rfl) (by decide) (by decide) hf (fun r7 hf => ?_)
    refine ev_aload_n (q_cod qk243 rfl) (by decide) rfl ?_
    refine em_gI (q_cod qk243 rfl) (by decide) (by decide) hf (fun v8 hf => ?_)
    refine ev_ic (v := 0) (q_cod qk243 rfl) (by decide) (by decide) ?_
    refine em_wI (q_cod qk243 rfl) (by decide) hf (fun hf => ?_)
    refine ev_aload_n (q_cod qk243 rfl) (by decide) rfl ?_
    refine em_gR (q_cod qk243 rfl) (by decide) (by decide) hf (fun r9 hf => ?_)
    refine ev_aload_n (q_cod qk243 rfl) (by decide) rfl ?_
    refine em_gI (q_cod qk243 rfl) (by decide) (by decide) hf (fun v10 hf => ?_)
    refine ev_iload_n (q_cod qk243 rfl) (by decide) rfl ?_
    refine ev_ic (v := 1) (q_cod qk243 rfl) (by decide) (by decide) ?_
    refine ev_iadd (q_cod qk243 rfl) (by decide) ?_
    refine em_wI (q_cod qk243 rfl) (by decide) hf (fun hf => ?_)
    refine ev_aload_n (q_cod qk243 rfl) (by decide) rfl ?_
    refine em_gR (q_cod qk243 rfl) (by decide) (by decide) hf (fun r11 hf => ?_)
    refine ev_aload_n (q_cod qk243 rfl) (by decide) rfl ?_
    refine em_gI (q_cod qk243 rfl) (by decide) (by decide) hf (fun v12 hf => ?_)
    refine ev_aload_n (q_cod qk243 rfl) (by decide) rfl ?_
    refine em_gI (q_cod qk243 rfl) (by decide) (by decide) hf (fun v13 hf => ?_)
    refine em_wI (q_cod qk243 rfl) (by decide) hf (fun hf => ?_)
    refine ev_aload_n (q_cod qk243 rfl) (by decide) rfl ?_
    refine ev_dup (q_cod qk243 rfl) (by decide) rfl ?_
    refine em_gI (q_cod qk243 rfl) (by decide) (by decide) hf (fun v14 hf => ?_)
    refine ev_ic (v := 1) (q_cod qk243 rfl) (by decide) (by decide) ?_
    refine ev_iadd (q_cod qk243 rfl) (by decide) ?_
    refine em_pI (q_cod qk243 rfl) (by decide) (by decide) (by decide) hf (fun hf => ?_)
    obtain rfl := m_R_inv hf
    obtain ⟨rfl, rfl⟩ := (show m_KU o hz ((), _) from hK)
    exact ev_ret (q_cod qk243 rfl) rfl
theorem f243_cl {l0 : Nat} {l1 : Int32} {l2 : Int32} {h : q_H} {x : Unit × q_H} (hf : f243 l0 l1 l2 h = some x) : q_Cl 243 [.ref l0, .int l1, .int l2] h (.inl none) x.2 := q_Cl.of rfl (q_LvS rfl rfl) (f243_ok hf ⟨rfl, rfl⟩)
/-! SmithyBenchModel.raiseIt(IZI)V -/
theorem qk244 : q_cs.getD 244 [] = qc_244 := rfl
def f244_59 (l0 : Nat) (l4 : Int32) (l5 : Int32) : m_M Unit :=
  m_B (m_gR 12 l0 21) (fun r1 => m_B (m_lI r1 l4) (fun v2 => m_B (m_pI 12 l0 15 (v2 + 1)) (fun _ => m_B (m_gR 12 l0 25) (fun r3 => m_B (m_lI r3 l4) (fun v4 => m_B (m_pI 12 l0 26 v4) (fun _ => m_B (m_gR 12 l0 23) (fun r5 => m_B (m_wI r5 l4 2) (fun _ => m_B (m_gR 12 l0 22) (fun r6 => m_B (m_lI r6 l4) (fun v7 => m_B (m_aK l0 12) (fun _ => m_B (f223 l0 l5 v7 1) (fun v9 => m_B (m_gR 12 l0 21) (fun r10 => m_B (m_lI r10 l4) (fun v11 => m_B (m_aK l0 12) (fun _ => m_B (f243 l0 v9 v11) (fun _ => m_R ()))))))))))))))))
theorem f244_59_ok {l0 : Nat} {l4 : Int32} {l5 : Int32} {h : q_H} {o : q_O} {hz : q_H} {x : Unit × q_H} (hf : f244_59 l0 l4 l5 h = some x) (hK : (m_KU o hz) x) : q_Ev none 244 59 [(0, .ref l0), (4, .int l4), (5, .int l5)] [] h o hz := by
  unfold f244_59 at hf
  refine ev_aload_n (q_cod qk244 rfl) (by decide) rfl ?_
  refine ev_aload_n (q_cod qk244 rfl) (by decide) rfl ?_
  refine em_gR (q_cod qk244 rfl) (by decide) (by decide) hf (fun r1 hf => ?_)
  refine ev_iload (q_cod qk244 rfl) (by decide) rfl ?_
  refine em_lI (q_cod qk244 rfl) (by decide) hf (fun v2 hf => ?_)
  refine ev_ic (v := 1) (q_cod qk244 rfl) (by decide) (by decide) ?_
  refine ev_iadd (q_cod qk244 rfl) (by decide) ?_
  refine em_pI (q_cod qk244 rfl) (by decide) (by decide) (by decide) hf (fun hf => ?_)
  refine ev_aload_n (q_cod qk244 rfl) (by decide) rfl ?_
  refine ev_aload_n (q_cod qk244 rfl) (by decide) rfl ?_
  refine em_gR (q_cod qk244 rfl) (by decide) (by decide) hf (fun r3 hf => ?_)
  refine ev_iload (q_cod qk244 rfl) (by decide) rfl ?_
  refine em_lI (q_cod qk244 rfl) (by decide) hf (fun v4 hf => ?_)
  refine em_pI (q_cod qk244 rfl) (by decide) (by decide) (by decide) hf (fun hf => ?_)
  refine ev_aload_n (q_cod qk244 rfl) (by decide) rfl ?_
  refine em_gR (q_cod qk244 rfl) (by decide) (by decide) hf (fun r5 hf => ?_)
  refine ev_iload (q_cod qk244 rfl) (by decide) rfl ?_
  refine ev_ic (v := 2) (q_cod qk244 rfl) (by decide) (by decide) ?_
  refine em_wI (q_cod qk244 rfl) (by decide) hf (fun hf => ?_)
  refine ev_aload_n (q_cod qk244 rfl) (by decide) rfl ?_
  refine ev_aload_n (q_cod qk244 rfl) (by decide) rfl ?_
  refine ev_iload (q_cod qk244 rfl) (by decide) rfl ?_
  refine ev_aload_n (q_cod qk244 rfl) (by decide) rfl ?_
  refine em_gR (q_cod qk244 rfl) (by decide) (by decide) hf (fun r6 hf => ?_)
  refine ev_iload (q_cod qk244 rfl) (by decide) rfl ?_
  refine em_lI (q_cod qk244 rfl) (by decide) hf (fun v7 hf => ?_)
  refine ev_ic (v := 1) (q_cod qk244 rfl) (by decide) (by decide) ?_
  obtain ⟨g8, hf⟩ := m_aK_some hf
  refine em_call (v := (fun u => some (.int u))) (q_cod qk244 rfl) rfl rfl (q_cokV rfl rfl (Or.inr g8)) rfl (fun x e => f223_cl e) hf (fun v9 h hf => ?_)
  refine ev_aload_n (q_cod qk244 rfl) (by decide) rfl ?_
  refine em_gR (q_cod qk244 rfl) (by decide) (by decide) hf (fun r10 hf => ?_)
  refine ev_iload (q_cod qk244 rfl) (by decide) rfl ?_
  refine em_lI (q_cod qk244 rfl) (by decide) hf (fun v11 hf => ?_)
  obtain ⟨g12, hf⟩ := m_aK_some hf
  refine em_call (v := (fun _ => none)) (q_cod qk244 rfl) rfl rfl (q_cokV rfl rfl (Or.inr g12)) rfl (fun x e => f243_cl e) hf (fun _ h hf => ?_)
  obtain rfl := m_R_inv hf
  obtain ⟨rfl, rfl⟩ := (show m_KU o hz ((), _) from hK)
  exact ev_ret (q_cod qk244 rfl) rfl
def f244_117 (l0 : Nat) (l1 : Int32) (l2 : Int32) (l3 : Int32) : m_M ((Nat × Int32 × Int32 × Int32) ⊕ Unit) :=
  m_B (m_gI 12 l0 20) (fun v1 => m_B (m_pI 12 l0 20 (v1 - 1)) (fun _ => m_R (.inl (l0, l1, l2, l3))))
theorem f244_117_ok {l0 : Nat} {l1 : Int32} {l2 : Int32} {l3 : Int32} {h : q_H} {o : q_O} {hz : q_H} {x : ((Nat × Int32 × Int32 × Int32) ⊕ Unit) × q_H} (hf : f244_117 l0 l1 l2 l3 h = some x) (hK : (m_yK (fun (s : Nat × Int32 × Int32 × Int32) (h : q_H) => q_Ev none 244 0 [(0, .ref (s.1)), (1, .int (s.2.1)), (2, .int (s.2.2.1)), (3, .int (s.2.2.2))] [] h o hz) (m_KU o hz)) x) : q_Ev none 244 117 [(0, .ref l0), (1, .int l1), (2, .int l2), (3, .int l3)] [] h o hz := by
  unfold f244_117 at hf
  refine ev_aload_n (q_cod qk244 rfl) (by decide) rfl ?_
  refine ev_dup (q_cod qk244 rfl) (by decide) rfl ?_
  refine em_gI (q_cod qk244 rfl) (by decide) (by decide) hf (fun v1 hf => ?_)
  refine ev_ic (v := 1) (q_cod qk244 rfl) (by decide) (by decide) ?_
  refine ev_isub (q_cod qk244 rfl) (by decide) ?_
  refine em_pI (q_cod qk244 rfl) (by decide) (by decide) (by decide) hf (fun hf => ?_)
  refine ev_goto (q_cod qk244 rfl) (by decide) ?_
  obtain rfl := m_R_inv hf
  exact (show q_Ev none 244 0 [(0, .ref l0), (1, .int l1), (2, .int l2), (3, .int l3)] [] _ o hz from hK)
def f244_153 (s0 : Nat) (s1 : Int32) : m_M Unit :=
  m_B (m_pI 12 s0 35 s1) (fun _ => m_R ())
theorem f244_153_ok {s0 : Nat} {s1 : Int32} {h : q_H} {o : q_O} {hz : q_H} {x : Unit × q_H} (hf : f244_153 s0 s1 h = some x) (hK : (m_KU o hz) x) : q_Ev none 244 153 [] [.int s1, .ref s0] h o hz := by
  unfold f244_153 at hf
  refine em_pI (q_cod qk244 rfl) (by decide) (by decide) (by decide) hf (fun hf => ?_)
  obtain rfl := m_R_inv hf
  obtain ⟨rfl, rfl⟩ := (show m_KU o hz ((), _) from hK)
  exact ev_ret (q_cod qk244 rfl) rfl
def f244_140 (l0 : Nat) (l2 : Int32) (l3 : Int32) (s0 : Nat) (s1 : Int32) : m_M Unit :=
  m_B (m_pI 12 s0 34 s1) (fun _ => if l2 = 0 then (f244_153 l0 l3) else (f244_153 l0 0))
theorem f244_140_ok {l0 : Nat} {l2 : Int32} {l3 : Int32} {s0 : Nat} {s1 : Int32} {h : q_H} {o : q_O} {hz : q_H} {x : Unit × q_H} (hf : f244_140 l0 l2 l3 s0 s1 h = some x) (hK : (m_KU o hz) x) : q_Ev none 244 140 [(0, .ref l0), (2, .int l2), (3, .int l3)] [.int s1, .ref s0] h o hz := by
  unfold f244_140 at hf
  refine em_pI (q_cod qk244 rfl) (by decide) (by decide) (by decide) hf (fun hf => ?_)
  refine ev_aload_n (q_cod qk244 rfl) (by decide) rfl ?_
  refine ev_iload_n (q_cod qk244 rfl) (by decide) rfl ?_
  refine em_if_eq (q_cod qk244 rfl) (by decide) hf (fun c1 hf => ?_) (fun c1 hf => ?_)
  · refine ev_iload_n (q_cod qk244 rfl) (by decide) rfl ?_
    exact ev_weak (q_pk [] rfl) (f244_153_ok hf hK)
  · refine ev_ic (v := 0) (q_cod qk244 rfl) (by decide) (by decide) ?_
    refine ev_goto (q_cod qk244 rfl) (by decide) ?_
    exact ev_weak (q_pk [] rfl) (f244_153_ok hf hK)
def f244_130 (l0 : Nat) (l2 : Int32) (l3 : Int32) : m_M Unit :=
  if l2 = 0 then (f244_140 l0 l2 l3 l0 3) else (f244_140 l0 l2 l3 l0 4)
theorem f244_130_ok {l0 : Nat} {l2 : Int32} {l3 : Int32} {h : q_H} {o : q_O} {hz : q_H} {x : Unit × q_H} (hf : f244_130 l0 l2 l3 h = some x) (hK : (m_KU o hz) x) : q_Ev none 244 130 [(0, .ref l0), (2, .int l2), (3, .int l3)] [] h o hz := by
  unfold f244_130 at hf
  refine ev_aload_n (q_cod qk244 rfl) (by decide) rfl ?_
  refine ev_iload_n (q_cod qk244 rfl) (by decide) rfl ?_
  refine em_if_eq (q_cod qk244 rfl) (by decide) hf (fun c1 hf => ?_) (fun c1 hf => ?_)
  · refine ev_ic (v := 3) (q_cod qk244 rfl) (by decide) (by decide) ?_
    exact (f244_140_ok hf hK)
  · refine ev_ic (v := 4) (q_cod qk244 rfl) (by decide) (by decide) ?_
    refine ev_goto (q_cod qk244 rfl) (by decide) ?_
    exact (f244_140_ok hf hK)
def f244b (l0 : Nat) (l1 : Int32) (l2 : Int32) (l3 : Int32) : m_M ((Nat × Int32 × Int32 × Int32) ⊕ Unit) :=
  m_B (m_gI 12 l0 20) (fun v1 => if 0 < v1 then (m_B (m_gI 12 l0 20) (fun v2 => m_B (m_gR 12 l0 16) (fun r3 => m_B (m_gR 12 l0 21) (fun r4 => m_B (m_lI r4 (v2 - 1)) (fun v5 => m_B (m_lI r3 v5) (fun v6 => m_B (m_gR 12 l0 22) (fun r7 => m_B (m_lI r7 (v2 - 1)) (fun v8 => m_B (m_aK l0 12) (fun _ => m_B (f199 l0 l1 v6 v8) (fun v10 => if v10 = 13 then (m_B (m_gR 12 l0 23) (fun r11 => m_B (m_lI r11 (v2 - 1)) (fun v12 => if v12 = 1 then (m_B (f244_59 l0 (v2 - 1) v6) (fun r => m_R (.inr r))) else (f244_117 l0 l1 l2 l3)))) else (f244_117 l0 l1 l2 l3))))))))))) else (m_B (f244_130 l0 l2 l3) (fun r => m_R (.inr r))))
theorem f244b_ok {l0 : Nat} {l1 : Int32} {l2 : Int32} {l3 : Int32} {h : q_H} {o : q_O} {hz : q_H} {x : ((Nat × Int32 × Int32 × Int32) ⊕ Unit) × q_H} (hf : f244b l0 l1 l2 l3 h = some x) (hK : (m_yK (fun (s : Nat × Int32 × Int32 × Int32) (h : q_H) => q_Ev none 244 0 [(0, .ref (s.1)), (1, .int (s.2.1)), (2, .int (s.2.2.1)), (3, .int (s.2.2.2))] [] h o hz) (m_KU o hz)) x) : q_Ev none 244 0 [(0, .ref l0), (1, .int l1), (2, .int l2), (3, .int l3)] [] h o hz := by
  unfold f244b at hf
  refine ev_aload_n (q_cod qk244 rfl) (by decide) rfl ?_
  refine em_gI (q_cod qk244 rfl) (by decide) (by decide) hf (fun v1 hf => ?_)
  refine em_if_le (q_cod qk244 rfl) (by decide) hf (fun c15 hf => ?_) (fun c15 hf => ?_)
  · refine ev_aload_n (q_cod qk244 rfl) (by decide) rfl ?_
    refine em_gI (q_cod qk244 rfl) (by decide) (by decide) hf (fun v2 hf => ?_)
    refine ev_ic (v := 1) (q_cod qk244 rfl) (by decide) (by decide) ?_
    refine ev_isub (q_cod qk244 rfl) (by decide) ?_
    refine ev_is2 (L' := [(0, .ref l0), (1, .int l1), (2, .int l2), (3, .int l3), (4, .int (v2 - 1))]) (q_cod qk244 rfl) (by decide) rfl ?_
    refine ev_aload_n (q_cod qk244 rfl) (by decide) rfl ?_
    refine em_gR (q_cod qk244 rfl) (by decide) (by decide) hf (fun r3 hf => ?_)
    refine ev_aload_n (q_cod qk244 rfl) (by decide) rfl ?_
    refine em_gR (q_cod qk244 rfl) (by decide) (by decide) hf (fun r4 hf => ?_)
    refine ev_iload (q_cod qk244 rfl) (by decide) rfl ?_
    refine em_lI (q_cod qk244 rfl) (by decide) hf (fun v5 hf => ?_)
    refine em_lI (q_cod qk244 rfl) (by decide) hf (fun v6 hf => ?_)
    refine ev_is2 (L' := [(0, .ref l0), (1, .int l1), (2, .int l2), (3, .int l3), (4, .int (v2 - 1)), (5, .int v6)]) (q_cod qk244 rfl) (by decide) rfl ?_
    refine ev_aload_n (q_cod qk244 rfl) (by decide) rfl ?_
    refine ev_iload_n (q_cod qk244 rfl) (by decide) rfl ?_
    refine ev_iload (q_cod qk244 rfl) (by decide) rfl ?_
    refine ev_aload_n (q_cod qk244 rfl) (by decide) rfl ?_
    refine em_gR (q_cod qk244 rfl) (by decide) (by decide) hf (fun r7 hf => ?_)
    refine ev_iload (q_cod qk244 rfl) (by decide) rfl ?_
    refine em_lI (q_cod qk244 rfl) (by decide) hf (fun v8 hf => ?_)
    obtain ⟨g9, hf⟩ := m_aK_some hf
    refine em_call (v := (fun u => some (.int u))) (q_cod qk244 rfl) rfl rfl (q_cokV rfl rfl (Or.inr g9)) rfl (fun x e => f199_cl e) hf (fun v10 h hf => ?_)
    refine ev_bi (v := 13) (q_cod qk244 rfl) (by decide) (by decide) ?_
    refine em_ic_ne (q_cod qk244 rfl) (by decide) hf (fun c14 hf => ?_) (fun c14 hf => ?_)
    · refine ev_aload_n (q_cod qk244 rfl) (by decide) rfl ?_
      refine em_gR (q_cod qk244 rfl) (by decide) (by decide) hf (fun r11 hf => ?_)
      refine ev_iload (q_cod qk244 rfl) (by decide) rfl ?_
      refine em_lI (q_cod qk244 rfl) (by decide) hf (fun v12 hf => ?_)
      refine ev_ic (v := 1) (q_cod qk244 rfl) (by decide) (by decide) ?_
      refine em_ic_ne (q_cod qk244 rfl) (by decide) hf (fun c13 hf => ?_) (fun c13 hf => ?_)
      · obtain ⟨y0, hf0, hx⟩ := m_inr_some hf
        subst hx
        exact ev_weak (q_pk [0, 4, 5] rfl) (f244_59_ok hf0 hK)
      · exact ev_weak (q_pk [0, 1, 2, 3] rfl) (f244_117_ok hf hK)
    · exact ev_weak (q_pk [0, 1, 2, 3] rfl) (f244_117_ok hf hK)
  · obtain ⟨y0, hf0, hx⟩ := m_inr_some hf
    subst hx
    exact ev_weak (q_pk [0, 2, 3] rfl) (f244_130_ok hf0 hK)
def f244 (l0 : Nat) (l1 : Int32) (l2 : Int32) (l3 : Int32) : m_M Unit := m_W (fun s => f244b (s.1) (s.2.1) (s.2.2.1) (s.2.2.2)) 1000000 (l0, l1, l2, l3)
theorem f244_ok {l0 : Nat} {l1 : Int32} {l2 : Int32} {l3 : Int32} {h : q_H} {o : q_O} {hz : q_H} {x : Unit × q_H} (hf : f244 l0 l1 l2 l3 h = some x) (hK : (m_KU o hz) x) : q_Ev none 244 0 [(0, .ref l0), (1, .int l1), (2, .int l2), (3, .int l3)] [] h o hz :=
  m_W_ok (P := (fun (s : Nat × Int32 × Int32 × Int32) (h : q_H) => q_Ev none 244 0 [(0, .ref (s.1)), (1, .int (s.2.1)), (2, .int (s.2.2.1)), (3, .int (s.2.2.2))] [] h o hz)) (K := (m_KU o hz)) (fun s h x h1 h2 => f244b_ok h1 h2) _ (l0, l1, l2, l3) _ _ hf hK
theorem f244_cl {l0 : Nat} {l1 : Int32} {l2 : Int32} {l3 : Int32} {h : q_H} {x : Unit × q_H} (hf : f244 l0 l1 l2 l3 h = some x) : q_Cl 244 [.ref l0, .int l1, .int l2, .int l3] h (.inl none) x.2 := q_Cl.of rfl (q_LvS rfl rfl) (f244_ok hf ⟨rfl, rfl⟩)
/-! SmithyBenchModel.next(I)V -/
theorem qk245 : q_cs.getD 245 [] = qc_245 := rfl
def f245 (l0 : Nat) (l1 : Int32) : m_M Unit :=
  m_B (m_gR 12 l0 16) (fun r1 => m_B (m_gR 12 l0 21) (fun r2 => m_B (m_lI r2 l1) (fun v3 => m_B (m_lI r1 v3) (fun v4 => m_B (m_gR 12 l0 24) (fun r5 => m_B (m_lI r5 l1) (fun v6 => m_B (m_gR 12 l0 23) (fun r7 => m_B (m_lI r7 l1) (fun v8 => m_B (m_wI r7 l1 (v8 + 1)) (fun _ => m_B (m_gR 12 l0 24) (fun r9 => m_B (m_gR 12 l0 10) (fun r10 => m_B (m_lI r10 ((192 * v4) + v6)) (fun v11 => m_B (m_wI r9 l1 (v6 + v11)) (fun _ => m_B (m_gR 12 l0 21) (fun r12 => m_B (m_lI r12 l1) (fun v13 => m_B (m_aK l0 12) (fun _ => m_B (f243 l0 v6 v13) (fun _ => m_R ())))))))))))))))))
theorem f245_ok {l0 : Nat} {l1 : Int32} {h : q_H} {o : q_O} {hz : q_H} {x : Unit × q_H} (hf : f245 l0 l1 h = some x) (hK : (m_KU o hz) x) : q_Ev none 245 0 [(0, .ref l0), (1, .int l1)] [] h o hz := by
  unfold f245 at hf
  refine ev_aload_n (q_cod qk245 rfl) (by decide) rfl ?_
  refine em_gR (q_cod qk245 rfl) (by decide) (by decide) hf (fun r1 hf => ?_)
  refine ev_aload_n (q_cod qk245 rfl) (by decide) rfl ?_
  refine em_gR (q_cod qk245 rfl) (by decide) (by decide) hf (fun r2 hf => ?_)
  refine ev_iload_n (q_cod qk245 rfl) (by decide) rfl ?_
  refine em_lI (q_cod qk245 rfl) (by decide) hf (fun v3 hf => ?_)
  refine em_lI (q_cod qk245 rfl) (by decide) hf (fun v4 hf => ?_)
  refine ev_is1 (L' := [(0, .ref l0), (1, .int l1), (2, .int v4)]) (q_cod qk245 rfl) (by decide) rfl ?_
  refine ev_aload_n (q_cod qk245 rfl) (by decide) rfl ?_
  refine em_gR (q_cod qk245 rfl) (by decide) (by decide) hf (fun r5 hf => ?_)
  refine ev_iload_n (q_cod qk245 rfl) (by decide) rfl ?_
  refine em_lI (q_cod qk245 rfl) (by decide) hf (fun v6 hf => ?_)
  refine ev_is1 (L' := [(0, .ref l0), (1, .int l1), (2, .int v4), (3, .int v6)]) (q_cod qk245 rfl) (by decide) rfl ?_
  refine ev_aload_n (q_cod qk245 rfl) (by decide) rfl ?_
  refine em_gR (q_cod qk245 rfl) (by decide) (by decide) hf (fun r7 hf => ?_)
  refine ev_iload_n (q_cod qk245 rfl) (by decide) rfl ?_
  refine ev_dup2 (q_cod qk245 rfl) (by decide) rfl rfl ?_
  refine em_lI (q_cod qk245 rfl) (by decide) hf (fun v8 hf => ?_)
  refine ev_ic (v := 1) (q_cod qk245 rfl) (by decide) (by decide) ?_
  refine ev_iadd (q_cod qk245 rfl) (by decide) ?_
  refine em_wI (q_cod qk245 rfl) (by decide) hf (fun hf => ?_)
  refine ev_aload_n (q_cod qk245 rfl) (by decide) rfl ?_
  refine em_gR (q_cod qk245 rfl) (by decide) (by decide) hf (fun r9 hf => ?_)
  refine ev_iload_n (q_cod qk245 rfl) (by decide) rfl ?_
  refine ev_iload_n (q_cod qk245 rfl) (by decide) rfl ?_
  refine ev_aload_n (q_cod qk245 rfl) (by decide) rfl ?_
  refine em_gR (q_cod qk245 rfl) (by decide) (by decide) hf (fun r10 hf => ?_)
  refine ev_si (v := 192) (q_cod qk245 rfl) (by decide) (by decide) ?_
  refine ev_iload_n (q_cod qk245 rfl) (by decide) rfl ?_
  refine ev_imul (q_cod qk245 rfl) (by decide) ?_
  refine ev_iload_n (q_cod qk245 rfl) (by decide) rfl ?_
  refine ev_iadd (q_cod qk245 rfl) (by decide) ?_
  refine em_lI (q_cod qk245 rfl) (by decide) hf (fun v11 hf => ?_)
  refine ev_iadd (q_cod qk245 rfl) (by decide) ?_
  refine em_wI (q_cod qk245 rfl) (by decide) hf (fun hf => ?_)
  refine ev_aload_n (q_cod qk245 rfl) (by decide) rfl ?_
  refine ev_iload_n (q_cod qk245 rfl) (by decide) rfl ?_
  refine ev_aload_n (q_cod qk245 rfl) (by decide) rfl ?_
  refine em_gR (q_cod qk245 rfl) (by decide) (by decide) hf (fun r12 hf => ?_)
  refine ev_iload_n (q_cod qk245 rfl) (by decide) rfl ?_
  refine em_lI (q_cod qk245 rfl) (by decide) hf (fun v13 hf => ?_)
  obtain ⟨g14, hf⟩ := m_aK_some hf
  refine em_call (v := (fun _ => none)) (q_cod qk245 rfl) rfl rfl (q_cokV rfl rfl (Or.inr g14)) rfl (fun x e => f243_cl e) hf (fun _ h hf => ?_)
  obtain rfl := m_R_inv hf
  obtain ⟨rfl, rfl⟩ := (show m_KU o hz ((), _) from hK)
  exact ev_ret (q_cod qk245 rfl) rfl
theorem f245_cl {l0 : Nat} {l1 : Int32} {h : q_H} {x : Unit × q_H} (hf : f245 l0 l1 h = some x) : q_Cl 245 [.ref l0, .int l1] h (.inl none) x.2 := q_Cl.of rfl (q_LvS rfl rfl) (f245_ok hf ⟨rfl, rfl⟩)
/-! SmithyBenchModel.slot(II)I -/
theorem qk246 : q_cs.getD 246 [] = qc_246 := rfl
def f246_18 (s0 : Int32) (s1 : Int32) : m_M Int32 :=
  m_R (s0 + s1)
theorem f246_18_ok {s0 : Int32} {s1 : Int32} {h : q_H} {o : q_O} {hz : q_H} {x : Int32 × q_H} (hf : f246_18 s0 s1 h = some x) (hK : (q_KI o hz) x) : q_Ev none 246 18 [] [.int s1, .int s0] h o hz := by
  unfold f246_18 at hf
  refine ev_iadd (q_cod qk246 rfl) (by decide) ?_
  obtain rfl := m_R_inv hf
  obtain ⟨rfl, rfl⟩ := (show q_KI o hz ((s0 + s1), _) from hK)
  exact ev_ret (q_cod qk246 rfl) rfl
def f246 (l0 : Nat) (l1 : Int32) (l2 : Int32) : m_M Int32 :=
  if l2 < 0 then (f246_18 (194 * l1) (191 - l2)) else (f246_18 (194 * l1) l2)
theorem f246_ok {l0 : Nat} {l1 : Int32} {l2 : Int32} {h : q_H} {o : q_O} {hz : q_H} {x : Int32 × q_H} (hf : f246 l0 l1 l2 h = some x) (hK : (q_KI o hz) x) : q_Ev none 246 0 [(0, .ref l0), (1, .int l1), (2, .int l2)] [] h o hz := by
  unfold f246 at hf
  refine ev_si (v := 194) (q_cod qk246 rfl) (by decide) (by decide) ?_
  refine ev_iload_n (q_cod qk246 rfl) (by decide) rfl ?_
  refine ev_imul (q_cod qk246 rfl) (by decide) ?_
  refine ev_iload_n (q_cod qk246 rfl) (by decide) rfl ?_
  refine em_if_ge (q_cod qk246 rfl) (by decide) hf (fun c1 hf => ?_) (fun c1 hf => ?_)
  · refine ev_si (v := 191) (q_cod qk246 rfl) (by decide) (by decide) ?_
    refine ev_iload_n (q_cod qk246 rfl) (by decide) rfl ?_
    refine ev_isub (q_cod qk246 rfl) (by decide) ?_
    refine ev_goto (q_cod qk246 rfl) (by decide) ?_
    exact ev_weak (q_pk [] rfl) (f246_18_ok hf hK)
  · refine ev_iload_n (q_cod qk246 rfl) (by decide) rfl ?_
    exact ev_weak (q_pk [] rfl) (f246_18_ok hf hK)
theorem f246_cl {l0 : Nat} {l1 : Int32} {l2 : Int32} {h : q_H} {x : Int32 × q_H} (hf : f246 l0 l1 l2 h = some x) : q_Cl 246 [.ref l0, .int l1, .int l2] h (.inl (some (.int x.1))) x.2 := q_Cl.of rfl (q_LvS rfl rfl) (f246_ok hf ⟨rfl, rfl⟩)
/-! SmithyBenchModel.enter(IIII)V -/
theorem qk248 : q_cs.getD 248 [] = qc_248 := rfl
def f248_189 (l0 : Nat) (l2 : Int32) (l6 : Int32) (l8 : Int32) : m_M Unit :=
  m_B (m_pI 12 l0 26 l6) (fun _ => m_B (m_gR 12 l0 23) (fun r1 => m_B (m_lI r1 l2) (fun v2 => m_B (m_wI r1 l2 (v2 + 1)) (fun _ => m_B (m_aK l0 12) (fun _ => m_B (f243 l0 0 l8) (fun _ => m_R ()))))))
theorem f248_189_ok {l0 : Nat} {l2 : Int32} {l6 : Int32} {l8 : Int32} {h : q_H} {o : q_O} {hz : q_H} {x : Unit × q_H} (hf : f248_189 l0 l2 l6 l8 h = some x) (hK : (m_KU o hz) x) : q_Ev none 248 189 [(0, .ref l0), (2, .int l2), (6, .int l6), (8, .int l8)] [] h o hz := by
  unfold f248_189 at hf
  refine ev_aload_n (q_cod qk248 rfl) (by decide) rfl ?_
  refine ev_iload (q_cod qk248 rfl) (by decide) rfl ?_
  refine em_pI (q_cod qk248 rfl) (by decide) (by decide) (by decide) hf (fun hf => ?_)
  refine ev_aload_n (q_cod qk248 rfl) (by decide) rfl ?_
  refine em_gR (q_cod qk248 rfl) (by decide) (by decide) hf (fun r1 hf => ?_)
  refine ev_iload_n (q_cod qk248 rfl) (by decide) rfl ?_
  refine ev_dup2 (q_cod qk248 rfl) (by decide) rfl rfl ?_
  refine em_lI (q_cod qk248 rfl) (by decide) hf (fun v2 hf => ?_)
  refine ev_ic (v := 1) (q_cod qk248 rfl) (by decide) (by decide) ?_
  refine ev_iadd (q_cod qk248 rfl) (by decide) ?_
  refine em_wI (q_cod qk248 rfl) (by decide) hf (fun hf => ?_)
  refine ev_aload_n (q_cod qk248 rfl) (by decide) rfl ?_
  refine ev_ic (v := 0) (q_cod qk248 rfl) (by decide) (by decide) ?_
  refine ev_iload (q_cod qk248 rfl) (by decide) rfl ?_
  obtain ⟨g3, hf⟩ := m_aK_some hf
  refine em_call (v := (fun _ => none)) (q_cod qk248 rfl) rfl rfl (q_cokV rfl rfl (Or.inr g3)) rfl (fun x e => f243_cl e) hf (fun _ h hf => ?_)
  obtain rfl := m_R_inv hf
  obtain ⟨rfl, rfl⟩ := (show m_KU o hz ((), _) from hK)
  exact ev_ret (q_cod qk248 rfl) rfl
def f248_126b (l0 : Nat) (l2 : Int32) (l5 : Int32) (l6 : Int32) (l8 : Int32) (l9 : Int32) : m_M ((Nat × Int32 × Int32 × Int32 × Int32 × Int32) ⊕ Unit) :=
  if l9 < l5 then (m_B (m_aK l0 12) (fun _ => m_B (f246 l0 l8 ((-1) - l9)) (fun v2 => m_B (m_gR 12 l0 18) (fun r3 => m_B (m_gR 12 l0 27) (fun r4 => m_B (m_lI r4 ((l6 + 1) + l9)) (fun v5 => m_B (m_wI r3 v2 v5) (fun _ => m_B (m_gR 12 l0 19) (fun r6 => m_B (m_gR 12 l0 28) (fun r7 => m_B (m_lI r7 ((l6 + 1) + l9)) (fun v8 => m_B (m_wI r6 v2 v8) (fun _ => m_R (.inl (l0, l2, l5, l6, l8, (l9 + 1)))))))))))))) else (m_B (f248_189 l0 l2 l6 l8) (fun r => m_R (.inr r)))
theorem f248_126b_ok {l0 : Nat} {l2 : Int32} {l5 : Int32} {l6 : Int32} {l8 : Int32} {l9 : Int32} {h : q_H} {o : q_O} {hz : q_H} {x : ((Nat × Int32 × Int32 × Int32 × Int32 × Int32) ⊕ Unit) × q_H} (hf : f248_126b l0 l2 l5 l6 l8 l9 h = some x) (hK : (m_yK (fun (s : Nat × Int32 × Int32 × Int32 × Int32 × Int32) (h : q_H) => q_Ev none 248 126 [(0, .ref (s.1)), (2, .int (s.2.1)), (5, .int (s.2.2.1)), (6, .int (s.2.2.2.1)), (8, .int (s.2.2.2.2.1)), (9, .int (s.2.2.2.2.2))] [] h o hz) (m_KU o hz)) x) : q_Ev none 248 126 [(0, .ref l0), (2, .int l2), (5, .int l5), (6, .int l6), (8, .int l8), (9, .int l9)] [] h o hz := by
  unfold f248_126b at hf
  refine ev_iload (q_cod qk248 rfl) (by decide) rfl ?_
  refine ev_iload (q_cod qk248 rfl) (by decide) rfl ?_
  refine em_ic_ge (q_cod qk248 rfl) (by decide) hf (fun c9 hf => ?_) (fun c9 hf => ?_)
  · refine ev_aload_n (q_cod qk248 rfl) (by decide) rfl ?_
    refine ev_iload (q_cod qk248 rfl) (by decide) rfl ?_
    refine ev_ic (v := (-1)) (q_cod qk248 rfl) (by decide) (by decide) ?_
    refine ev_iload (q_cod qk248 rfl) (by decide) rfl ?_
    refine ev_isub (q_cod qk248 rfl) (by decide) ?_
    obtain ⟨g1, hf⟩ := m_aK_some hf
    refine em_call (v := (fun u => some (.int u))) (q_cod qk248 rfl) rfl rfl (q_cokV rfl rfl (Or.inr g1)) rfl (fun x e => f246_cl e) hf (fun v2 h hf => ?_)
    refine ev_is2 (L' := [(0, .ref l0), (2, .int l2), (5, .int l5), (6, .int l6), (8, .int l8), (9, .int l9), (10, .int v2)]) (q_cod qk248 rfl) (by decide) rfl ?_
    refine ev_aload_n (q_cod qk248 rfl) (by decide) rfl ?_
    refine em_gR (q_cod qk248 rfl) (by decide) (by decide) hf (fun r3 hf => ?_)
    refine ev_iload (q_cod qk248 rfl) (by decide) rfl ?_
    refine ev_aload_n (q_cod qk248 rfl) (by decide) rfl ?_
    refine em_gR (q_cod qk248 rfl) (by decide) (by decide) hf (fun r4 hf => ?_)
    refine ev_iload (q_cod qk248 rfl) (by decide) rfl ?_
    refine ev_ic (v := 1) (q_cod qk248 rfl) (by decide) (by decide) ?_
    refine ev_iadd (q_cod qk248 rfl) (by decide) ?_
    refine ev_iload (q_cod qk248 rfl) (by decide) rfl ?_
    refine ev_iadd (q_cod qk248 rfl) (by decide) ?_
    refine em_lI (q_cod qk248 rfl) (by decide) hf (fun v5 hf => ?_)
    refine em_wI (q_cod qk248 rfl) (by decide) hf (fun hf => ?_)
    refine ev_aload_n (q_cod qk248 rfl) (by decide) rfl ?_
    refine em_gR (q_cod qk248 rfl) (by decide) (by decide) hf (fun r6 hf => ?_)
    refine ev_iload (q_cod qk248 rfl) (by decide) rfl ?_
    refine ev_aload_n (q_cod qk248 rfl) (by decide) rfl ?_
    refine em_gR (q_cod qk248 rfl) (by decide) (by decide) hf (fun r7 hf => ?_)
    refine ev_iload (q_cod qk248 rfl) (by decide) rfl ?_
    refine ev_ic (v := 1) (q_cod qk248 rfl) (by decide) (by decide) ?_
    refine ev_iadd (q_cod qk248 rfl) (by decide) ?_
    refine ev_iload (q_cod qk248 rfl) (by decide) rfl ?_
    refine ev_iadd (q_cod qk248 rfl) (by decide) ?_
    refine em_lI (q_cod qk248 rfl) (by decide) hf (fun v8 hf => ?_)
    refine em_wI (q_cod qk248 rfl) (by decide) hf (fun hf => ?_)
    refine ev_inc (v := l9 + 1) (L' := [(0, .ref l0), (2, .int l2), (5, .int l5), (6, .int l6), (8, .int l8), (9, .int (l9 + 1)), (10, .int v2)]) (q_cod qk248 rfl) (by decide) rfl rfl rfl ?_
    refine ev_goto (q_cod qk248 rfl) (by decide) ?_
    obtain rfl := m_R_inv hf
    exact ev_weak (q_pk [0, 1, 2, 3, 4, 5] rfl) (show q_Ev none 248 126 [(0, .ref l0), (2, .int l2), (5, .int l5), (6, .int l6), (8, .int l8), (9, .int (l9 + 1))] [] _ o hz from hK)
  · obtain ⟨y0, hf0, hx⟩ := m_inr_some hf
    subst hx
    exact ev_weak (q_pk [0, 1, 3, 4] rfl) (f248_189_ok hf0 hK)
def f248_126 (l0 : Nat) (l2 : Int32) (l5 : Int32) (l6 : Int32) (l8 : Int32) (l9 : Int32) : m_M Unit := m_W (fun s => f248_126b (s.1) (s.2.1) (s.2.2.1) (s.2.2.2.1) (s.2.2.2.2.1) (s.2.2.2.2.2)) 1000000 (l0, l2, l5, l6, l8, l9)
theorem f248_126_ok {l0 : Nat} {l2 : Int32} {l5 : Int32} {l6 : Int32} {l8 : Int32} {l9 : Int32} {h : q_H} {o : q_O} {hz : q_H} {x : Unit × q_H} (hf : f248_126 l0 l2 l5 l6 l8 l9 h = some x) (hK : (m_KU o hz) x) : q_Ev none 248 126 [(0, .ref l0), (2, .int l2), (5, .int l5), (6, .int l6), (8, .int l8), (9, .int l9)] [] h o hz :=
  m_W_ok (P := (fun (s : Nat × Int32 × Int32 × Int32 × Int32 × Int32) (h : q_H) => q_Ev none 248 126 [(0, .ref (s.1)), (2, .int (s.2.1)), (5, .int (s.2.2.1)), (6, .int (s.2.2.2.1)), (8, .int (s.2.2.2.2.1)), (9, .int (s.2.2.2.2.2))] [] h o hz)) (K := (m_KU o hz)) (fun s h x h1 h2 => f248_126b_ok h1 h2) _ (l0, l2, l5, l6, l8, l9) _ _ hf hK
def f248 (l0 : Nat) (l1 : Int32) (l2 : Int32) (l3 : Int32) (l4 : Int32) : m_M Unit :=
  m_B (m_aK l0 12) (fun _ => m_B (f201 l0 l1 l3 l4) (fun v2 => m_B (m_gI 12 l0 26) (fun v3 => m_B (m_gR 12 l0 27) (fun r4 => m_B (m_lI r4 ((v3 - 1) - v2)) (fun v5 => if v5 = 2 then (m_B (m_aK l0 12) (fun _ => m_B (f244 l0 l1 1 0) (fun _ => m_R ()))) else (m_B (m_gI 12 l0 15) (fun v8 => if v8 = 20 then (m_B (m_pI 12 l0 34 5) (fun _ => m_R ())) else (m_B (m_gR 12 l0 30) (fun r9 => m_B (m_gR 12 l0 28) (fun r10 => m_B (m_lI r10 ((v3 - 1) - v2)) (fun v11 => m_B (m_lI r9 v11) (fun v12 => m_B (m_aK l0 12) (fun _ => m_B (f200 l0 l1 l3 l4) (fun v14 => m_B (m_aK l0 12) (fun _ => m_B (f214 l0 l1 v12 v14 v2) (fun v16 => m_B (m_gI 12 l0 15) (fun v17 => m_B (m_gI 12 l0 15) (fun v18 => m_B (m_pI 12 l0 15 (v18 + 1)) (fun _ => m_B (m_gR 12 l0 16) (fun r19 => m_B (m_wI r19 v17 v16) (fun _ => m_B (m_gR 12 l0 17) (fun r20 => m_B (m_gR 12 l0 28) (fun r21 => m_B (m_lI r21 ((v3 - 1) - v2)) (fun v22 => m_B (m_wI r20 v17 v22) (fun _ => f248_126 l0 l2 v2 ((v3 - 1) - v2) v17 0)))))))))))))))))))))))))
theorem f248_ok {l0 : Nat} {l1 : Int32} {l2 : Int32} {l3 : Int32} {l4 : Int32} {h : q_H} {o : q_O} {hz : q_H} {x : Unit × q_H} (hf : f248 l0 l1 l2 l3 l4 h = some x) (hK : (m_KU o hz) x) : q_Ev none 248 0 [(0, .ref l0), (1, .int l1), (2, .int l2), (3, .int l3), (4, .int l4)] [] h o hz := by
  unfold f248 at hf
  refine ev_aload_n (q_cod qk248 rfl) (by decide) rfl ?_
  refine ev_iload_n (q_cod qk248 rfl) (by decide) rfl ?_
  refine ev_iload_n (q_cod qk248 rfl) (by decide) rfl ?_
  refine ev_iload (q_cod qk248 rfl) (by decide) rfl ?_
  obtain ⟨g1, hf⟩ := m_aK_some hf
  refine em_call (v := (fun u => some (.int u))) (q_cod qk248 rfl) rfl rfl (q_cokV rfl rfl (Or.inr g1)) rfl (fun x e => f201_cl e) hf (fun v2 h hf => ?_)
  refine ev_is2 (L' := [(0, .ref l0), (1, .int l1), (2, .int l2), (3, .int l3), (4, .int l4), (5, .int v2)]) (q_cod qk248 rfl) (by decide) rfl ?_
  refine ev_aload_n (q_cod qk248 rfl) (by decide) rfl ?_
  refine em_gI (q_cod qk248 rfl) (by decide) (by decide) hf (fun v3 hf => ?_)
  refine ev_ic (v := 1) (q_cod qk248 rfl) (by decide) (by decide) ?_
  refine ev_isub (q_cod qk248 rfl) (by decide) ?_
  refine ev_iload (q_cod qk248 rfl) (by decide) rfl ?_
  refine ev_isub (q_cod qk248 rfl) (by decide) ?_
  refine ev_is2 (L' := [(0, .ref l0), (1, .int l1), (2, .int l2), (3, .int l3), (4, .int l4), (5, .int v2), (6, .int ((v3 - 1) - v2))]) (q_cod qk248 rfl) (by decide) rfl ?_
  refine ev_aload_n (q_cod qk248 rfl) (by decide) rfl ?_
  refine em_gR (q_cod qk248 rfl) (by decide) (by decide) hf (fun r4 hf => ?_)
  refine ev_iload (q_cod qk248 rfl) (by decide) rfl ?_
  refine em_lI (q_cod qk248 rfl) (by decide) hf (fun v5 hf => ?_)
  refine ev_ic (v := 2) (q_cod qk248 rfl) (by decide) (by decide) ?_
  refine em_ic_ne (q_cod qk248 rfl) (by decide) hf (fun c24 hf => ?_) (fun c24 hf => ?_)
  · refine ev_aload_n (q_cod qk248 rfl) (by decide) rfl ?_
    refine ev_iload_n (q_cod qk248 rfl) (by decide) rfl ?_
    refine ev_ic (v := 1) (q_cod qk248 rfl) (by decide) (by decide) ?_
    refine ev_ic (v := 0) (q_cod qk248 rfl) (by decide) (by decide) ?_
    obtain ⟨g6, hf⟩ := m_aK_some hf
    refine em_call (v := (fun _ => none)) (q_cod qk248 rfl) rfl rfl (q_cokV rfl rfl (Or.inr g6)) rfl (fun x e => f244_cl e) hf (fun _ h hf => ?_)
    obtain rfl := m_R_inv hf
    obtain ⟨rfl, rfl⟩ := (show m_KU o hz ((), _) from hK)
    exact ev_ret (q_cod qk248 rfl) rfl
  · refine ev_aload_n (q_cod qk248 rfl) (by decide) rfl ?_
    refine em_gI (q_cod qk248 rfl) (by decide) (by decide) hf (fun v8 hf => ?_)
    refine ev_bi (v := 20) (q_cod qk248 rfl) (by decide) (by decide) ?_
    refine em_ic_ne (q_cod qk248 rfl) (by decide) hf (fun c23 hf => ?_) (fun c23 hf => ?_)
    · refine ev_aload_n (q_cod qk248 rfl) (by decide) rfl ?_
      refine ev_ic (v := 5) (q_cod qk248 rfl) (by decide) (by decide) ?_
      refine em_pI (q_cod qk248 rfl) (by decide) (by decide) (by decide) hf (fun hf => ?_)
      obtain rfl := m_R_inv hf
      obtain ⟨rfl, rfl⟩ := (show m_KU o hz ((), _) from hK)
      exact ev_ret (q_cod qk248 rfl) rfl
    · refine ev_aload_n (q_cod qk248 rfl) (by decide) rfl ?_
      refine ev_iload_n (q_cod qk248 rfl) (by decide) rfl ?_
      refine ev_aload_n (q_cod qk248 rfl) (by decide) rfl ?_
      refine em_gR (q_cod qk248 rfl) (by decide) (by decide) hf (fun r9 hf => ?_)
      refine ev_aload_n (q_cod qk248 rfl) (by decide) rfl ?_
      refine em_gR (q_cod qk248 rfl) (by decide) (by decide) hf (fun r10 hf => ?_)
      refine ev_iload (q_cod qk248 rfl) (by decide) rfl ?_
      refine em_lI (q_cod qk248 rfl) (by decide) hf (fun v11 hf => ?_)
      refine em_lI (q_cod qk248 rfl) (by decide) hf (fun v12 hf => ?_)
      refine ev_aload_n (q_cod qk248 rfl) (by decide) rfl ?_
      refine ev_iload_n (q_cod qk248 rfl) (by decide) rfl ?_
      refine ev_iload_n (q_cod qk248 rfl) (by decide) rfl ?_
      refine ev_iload (q_cod qk248 rfl) (by decide) rfl ?_
      obtain ⟨g13, hf⟩ := m_aK_some hf
      refine em_call (v := (fun u => some (.int u))) (q_cod qk248 rfl) rfl rfl (q_cokV rfl rfl (Or.inr g13)) rfl (fun x e => f200_cl e) hf (fun v14 h hf => ?_)
      refine ev_iload (q_cod qk248 rfl) (by decide) rfl ?_
      obtain ⟨g15, hf⟩ := m_aK_some hf
      refine em_call (v := (fun u => some (.int u))) (q_cod qk248 rfl) rfl rfl (q_cokV rfl rfl (Or.inr g15)) rfl (fun x e => f214_cl e) hf (fun v16 h hf => ?_)
      refine ev_is2 (L' := [(0, .ref l0), (1, .int l1), (2, .int l2), (3, .int l3), (4, .int l4), (5, .int v2), (6, .int ((v3 - 1) - v2)), (7, .int v16)]) (q_cod qk248 rfl) (by decide) rfl ?_
      refine ev_aload_n (q_cod qk248 rfl) (by decide) rfl ?_
      refine em_gI (q_cod qk248 rfl) (by decide) (by decide) hf (fun v17 hf => ?_)
      refine ev_is2 (L' := [(0, .ref l0), (1, .int l1), (2, .int l2), (3, .int l3), (4, .int l4), (5, .int v2), (6, .int ((v3 - 1) - v2)), (7, .int v16), (8, .int v17)]) (q_cod qk248 rfl) (by decide) rfl ?_
      refine ev_aload_n (q_cod qk248 rfl) (by decide) rfl ?_
      refine ev_dup (q_cod qk248 rfl) (by decide) rfl ?_
      refine em_gI (q_cod qk248 rfl) (by decide) (by decide) hf (fun v18 hf => ?_)
      refine ev_ic (v := 1) (q_cod qk248 rfl) (by decide) (by decide) ?_
      refine ev_iadd (q_cod qk248 rfl) (by decide) ?_
      refine em_pI (q_cod qk248 rfl) (by decide) (by decide) (by decide) hf (fun hf => ?_)
      refine ev_aload_n (q_cod qk248 rfl) (by decide) rfl ?_
      refine em_gR (q_cod qk248 rfl) (by decide) (by decide) hf (fun r19 hf => ?_)
      refine ev_iload (q_cod qk248 rfl) (by decide) rfl ?_
      refine ev_iload (q_cod qk248 rfl) (by decide) rfl ?_
      refine em_wI (q_cod qk248 rfl) (by decide) hf (fun hf => ?_)
      refine ev_aload_n (q_cod qk248 rfl) (by decide) rfl ?_
      refine em_gR (q_cod qk248 rfl) (by decide) (by decide) hf (fun r20 hf => ?_)
      refine ev_iload (q_cod qk248 rfl) (by decide) rfl ?_
      refine ev_aload_n (q_cod qk248 rfl) (by decide) rfl ?_
      refine em_gR (q_cod qk248 rfl) (by decide) (by decide) hf (fun r21 hf => ?_)
      refine ev_iload (q_cod qk248 rfl) (by decide) rfl ?_
      refine em_lI (q_cod qk248 rfl) (by decide) hf (fun v22 hf => ?_)
      refine em_wI (q_cod qk248 rfl) (by decide) hf (fun hf => ?_)
      refine ev_ic (v := 0) (q_cod qk248 rfl) (by decide) (by decide) ?_
      refine ev_is2 (L' := [(0, .ref l0), (1, .int l1), (2, .int l2), (3, .int l3), (4, .int l4), (5, .int v2), (6, .int ((v3 - 1) - v2)), (7, .int v16), (8, .int v17), (9, .int 0)]) (q_cod qk248 rfl) (by decide) rfl ?_
      exact ev_weak (q_pk [0, 2, 5, 6, 8, 9] rfl) (f248_126_ok hf hK)
theorem f248_cl {l0 : Nat} {l1 : Int32} {l2 : Int32} {l3 : Int32} {l4 : Int32} {h : q_H} {x : Unit × q_H} (hf : f248 l0 l1 l2 l3 l4 h = some x) : q_Cl 248 [.ref l0, .int l1, .int l2, .int l3, .int l4] h (.inl none) x.2 := q_Cl.of rfl (q_LvS rfl rfl) (f248_ok hf ⟨rfl, rfl⟩)
/-! SmithyBenchModel.set(ZI)V -/
theorem qk250 : q_cs.getD 250 [] = qc_250 := rfl
def f250_62  : m_M Unit :=
  m_R ()
theorem f250_62_ok  {h : q_H} {o : q_O} {hz : q_H} {x : Unit × q_H} (hf : f250_62 h = some x) (hK : (m_KU o hz) x) : q_Ev none 250 62 [] [] h o hz := by
  unfold f250_62 at hf
  obtain rfl := m_R_inv hf
  obtain ⟨rfl, rfl⟩ := (show m_KU o hz ((), _) from hK)
  exact ev_ret (q_cod qk250 rfl) rfl
def f250 (l0 : Nat) (l1 : Int32) (l2 : Int32) : m_M Unit :=
  m_B (m_gI 12 l0 26) (fun v1 => if l1 = 0 then (m_B (m_gR 12 l0 18) (fun r2 => m_B (m_gR 12 l0 27) (fun r3 => m_B (m_lI r3 (v1 - 1)) (fun v4 => m_B (m_wI r2 l2 v4) (fun _ => m_B (m_gR 12 l0 19) (fun r5 => m_B (m_gR 12 l0 28) (fun r6 => m_B (m_lI r6 (v1 - 1)) (fun v7 => m_B (m_wI r5 l2 v7) (fun _ => f250_62))))))))) else (m_B (m_gR 12 l0 31) (fun r8 => m_B (m_gR 12 l0 27) (fun r9 => m_B (m_lI r9 (v1 - 1)) (fun v10 => m_B (m_wI r8 l2 v10) (fun _ => m_B (m_gR 12 l0 32) (fun r11 => m_B (m_gR 12 l0 28) (fun r12 => m_B (m_lI r12 (v1 - 1)) (fun v13 => m_B (m_wI r11 l2 v13) (fun _ => f250_62))))))))))
theorem f250_ok {l0 : Nat} {l1 : Int32} {l2 : Int32} {h : q_H} {o : q_O} {hz : q_H} {x : Unit × q_H} (hf : f250 l0 l1 l2 h = some x) (hK : (m_KU o hz) x) : q_Ev none 250 0 [(0, .ref l0), (1, .int l1), (2, .int l2)] [] h o hz := by
  unfold f250 at hf
  refine ev_aload_n (q_cod qk250 rfl) (by decide) rfl ?_
  refine em_gI (q_cod qk250 rfl) (by decide) (by decide) hf (fun v1 hf => ?_)
  refine ev_ic (v := 1) (q_cod qk250 rfl) (by decide) (by decide) ?_
  refine ev_isub (q_cod qk250 rfl) (by decide) ?_
  refine ev_is1 (L' := [(0, .ref l0), (1, .int l1), (2, .int l2), (3, .int (v1 - 1))]) (q_cod qk250 rfl) (by decide) rfl ?_
  refine ev_iload_n (q_cod qk250 rfl) (by decide) rfl ?_
  refine em_if_eq (q_cod qk250 rfl) (by decide) hf (fun c14 hf => ?_) (fun c14 hf => ?_)
  · refine ev_aload_n (q_cod qk250 rfl) (by decide) rfl ?_
    refine em_gR (q_cod qk250 rfl) (by decide) (by decide) hf (fun r2 hf => ?_)
    refine ev_iload_n (q_cod qk250 rfl) (by decide) rfl ?_
    refine ev_aload_n (q_cod qk250 rfl) (by decide) rfl ?_
    refine em_gR (q_cod qk250 rfl) (by decide) (by decide) hf (fun r3 hf => ?_)
    refine ev_iload_n (q_cod qk250 rfl) (by decide) rfl ?_
    refine em_lI (q_cod qk250 rfl) (by decide) hf (fun v4 hf => ?_)
    refine em_wI (q_cod qk250 rfl) (by decide) hf (fun hf => ?_)
    refine ev_aload_n (q_cod qk250 rfl) (by decide) rfl ?_
    refine em_gR (q_cod qk250 rfl) (by decide) (by decide) hf (fun r5 hf => ?_)
    refine ev_iload_n (q_cod qk250 rfl) (by decide) rfl ?_
    refine ev_aload_n (q_cod qk250 rfl) (by decide) rfl ?_
    refine em_gR (q_cod qk250 rfl) (by decide) (by decide) hf (fun r6 hf => ?_)
    refine ev_iload_n (q_cod qk250 rfl) (by decide) rfl ?_
    refine em_lI (q_cod qk250 rfl) (by decide) hf (fun v7 hf => ?_)
    refine em_wI (q_cod qk250 rfl) (by decide) hf (fun hf => ?_)
    exact ev_weak (q_pk [] rfl) (f250_62_ok hf hK)
  · refine ev_aload_n (q_cod qk250 rfl) (by decide) rfl ?_
    refine em_gR (q_cod qk250 rfl) (by decide) (by decide) hf (fun r8 hf => ?_)
    refine ev_iload_n (q_cod qk250 rfl) (by decide) rfl ?_
    refine ev_aload_n (q_cod qk250 rfl) (by decide) rfl ?_
    refine em_gR (q_cod qk250 rfl) (by decide) (by decide) hf (fun r9 hf => ?_)
    refine ev_iload_n (q_cod qk250 rfl) (by decide) rfl ?_
    refine em_lI (q_cod qk250 rfl) (by decide) hf (fun v10 hf => ?_)
    refine em_wI (q_cod qk250 rfl) (by decide) hf (fun hf => ?_)
    refine ev_aload_n (q_cod qk250 rfl) (by decide) rfl ?_
    refine em_gR (q_cod qk250 rfl) (by decide) (by decide) hf (fun r11 hf => ?_)
    refine ev_iload_n (q_cod qk250 rfl) (by decide) rfl ?_
    refine ev_aload_n (q_cod qk250 rfl) (by decide) rfl ?_
    refine em_gR (q_cod qk250 rfl) (by decide) (by decide) hf (fun r12 hf => ?_)
    refine ev_iload_n (q_cod qk250 rfl) (by decide) rfl ?_
    refine em_lI (q_cod qk250 rfl) (by decide) hf (fun v13 hf => ?_)
    refine em_wI (q_cod qk250 rfl) (by decide) hf (fun hf => ?_)
    refine ev_goto (q_cod qk250 rfl) (by decide) ?_
    exact ev_weak (q_pk [] rfl) (f250_62_ok hf hK)
theorem f250_cl {l0 : Nat} {l1 : Int32} {l2 : Int32} {h : q_H} {x : Unit × q_H} (hf : f250 l0 l1 l2 h = some x) : q_Cl 250 [.ref l0, .int l1, .int l2] h (.inl none) x.2 := q_Cl.of rfl (q_LvS rfl rfl) (f250_ok hf ⟨rfl, rfl⟩)
/-! SmithyBenchModel.access(III)V -/
theorem qk251 : q_cs.getD 251 [] = qc_251 := rfl
def f251_87 (l0 : Nat) (l4 : Int32) (l5 : Int32) : m_M Unit :=
  m_B (m_pI 12 l0 26 l4) (fun _ => m_B (m_gR 12 l0 31) (fun r1 => m_B (m_lI r1 l5) (fun v2 => m_B (m_gR 12 l0 32) (fun r3 => m_B (m_lI r3 l5) (fun v4 => m_B (m_aK l0 12) (fun _ => m_B (f242 l0 v2 v4) (fun _ => m_R ())))))))
theorem f251_87_ok {l0 : Nat} {l4 : Int32} {l5 : Int32} {h : q_H} {o : q_O} {hz : q_H} {x : Unit × q_H} (hf : f251_87 l0 l4 l5 h = some x) (hK : (m_KU o hz) x) : q_Ev none 251 87 [(0, .ref l0), (4, .int l4), (5, .int l5)] [] h o hz := by
  unfold f251_87 at hf
  refine ev_aload_n (q_cod qk251 rfl) (by decide) rfl ?_
  refine ev_iload (q_cod qk251 rfl) (by decide) rfl ?_
  refine em_pI (q_cod qk251 rfl) (by decide) (by decide) (by decide) hf (fun hf => ?_)
  refine ev_aload_n (q_cod qk251 rfl) (by decide) rfl ?_
  refine ev_aload_n (q_cod qk251 rfl) (by decide) rfl ?_
  refine em_gR (q_cod qk251 rfl) (by decide) (by decide) hf (fun r1 hf => ?_)
  refine ev_iload (q_cod qk251 rfl) (by decide) rfl ?_
  refine em_lI (q_cod qk251 rfl) (by decide) hf (fun v2 hf => ?_)
  refine ev_aload_n (q_cod qk251 rfl) (by decide) rfl ?_
  refine em_gR (q_cod qk251 rfl) (by decide) (by decide) hf (fun r3 hf => ?_)
  refine ev_iload (q_cod qk251 rfl) (by decide) rfl ?_
  refine em_lI (q_cod qk251 rfl) (by decide) hf (fun v4 hf => ?_)
  obtain ⟨g5, hf⟩ := m_aK_some hf
  refine em_call (v := (fun _ => none)) (q_cod qk251 rfl) rfl rfl (q_cokV rfl rfl (Or.inr g5)) rfl (fun x e => f242_cl e) hf (fun _ h hf => ?_)
  obtain rfl := m_R_inv hf
  obtain ⟨rfl, rfl⟩ := (show m_KU o hz ((), _) from hK)
  exact ev_ret (q_cod qk251 rfl) rfl
def f251_14 (l0 : Nat) (l1 : Int32) (l2 : Int32) (l3 : Int32) (s0 : Int32) (s1 : Int32) : m_M Unit :=
  m_B (m_gR 12 l0 27) (fun r1 => m_B (m_lI r1 (s0 - s1)) (fun v2 => if v2 = 2 then (m_B (m_aK l0 12) (fun _ => m_B (f244 l0 l1 1 0) (fun _ => m_R ()))) else (m_B (m_gR 12 l0 28) (fun r5 => m_B (m_lI r5 (s0 - s1)) (fun v6 => if l2 = 4 then (m_B (m_gR 12 l0 31) (fun r7 => m_B (m_gR 12 l0 27) (fun r8 => m_B (m_lI r8 ((s0 - s1) + 1)) (fun v9 => m_B (m_wI r7 ((16 * v6) + l3) v9) (fun _ => m_B (m_gR 12 l0 32) (fun r10 => m_B (m_gR 12 l0 28) (fun r11 => m_B (m_lI r11 ((s0 - s1) + 1)) (fun v12 => m_B (m_wI r10 ((16 * v6) + l3) v12) (fun _ => f251_87 l0 (s0 - s1) ((16 * v6) + l3)))))))))) else (f251_87 l0 (s0 - s1) ((16 * v6) + l3)))))))
theorem f251_14_ok {l0 : Nat} {l1 : Int32} {l2 : Int32} {l3 : Int32} {s0 : Int32} {s1 : Int32} {h : q_H} {o : q_O} {hz : q_H} {x : Unit × q_H} (hf : f251_14 l0 l1 l2 l3 s0 s1 h = some x) (hK : (m_KU o hz) x) : q_Ev none 251 14 [(0, .ref l0), (1, .int l1), (2, .int l2), (3, .int l3)] [.int s1, .int s0] h o hz := by
  unfold f251_14 at hf
  refine ev_isub (q_cod qk251 rfl) (by decide) ?_
  refine ev_is2 (L' := [(0, .ref l0), (1, .int l1), (2, .int l2), (3, .int l3), (4, .int (s0 - s1))]) (q_cod qk251 rfl) (by decide) rfl ?_
  refine ev_aload_n (q_cod qk251 rfl) (by decide) rfl ?_
  refine em_gR (q_cod qk251 rfl) (by decide) (by decide) hf (fun r1 hf => ?_)
  refine ev_iload (q_cod qk251 rfl) (by decide) rfl ?_
  refine em_lI (q_cod qk251 rfl) (by decide) hf (fun v2 hf => ?_)
  refine ev_ic (v := 2) (q_cod qk251 rfl) (by decide) (by decide) ?_
  refine em_ic_ne (q_cod qk251 rfl) (by decide) hf (fun c14 hf => ?_) (fun c14 hf => ?_)
  · refine ev_aload_n (q_cod qk251 rfl) (by decide) rfl ?_
    refine ev_iload_n (q_cod qk251 rfl) (by decide) rfl ?_
    refine ev_ic (v := 1) (q_cod qk251 rfl) (by decide) (by decide) ?_
    refine ev_ic (v := 0) (q_cod qk251 rfl) (by decide) (by decide) ?_
    obtain ⟨g3, hf⟩ := m_aK_some hf
    refine em_call (v := (fun _ => none)) (q_cod qk251 rfl) rfl rfl (q_cokV rfl rfl (Or.inr g3)) rfl (fun x e => f244_cl e) hf (fun _ h hf => ?_)
    obtain rfl := m_R_inv hf
    obtain ⟨rfl, rfl⟩ := (show m_KU o hz ((), _) from hK)
    exact ev_ret (q_cod qk251 rfl) rfl
  · refine ev_bi (v := 16) (q_cod qk251 rfl) (by decide) (by decide) ?_
    refine ev_aload_n (q_cod qk251 rfl) (by decide) rfl ?_
    refine em_gR (q_cod qk251 rfl) (by decide) (by decide) hf (fun r5 hf => ?_)
    refine ev_iload (q_cod qk251 rfl) (by decide) rfl ?_
    refine em_lI (q_cod qk251 rfl) (by decide) hf (fun v6 hf => ?_)
    refine ev_imul (q_cod qk251 rfl) (by decide) ?_
    refine ev_iload_n (q_cod qk251 rfl) (by decide) rfl ?_
    refine ev_iadd (q_cod qk251 rfl) (by decide) ?_
    refine ev_is2 (L' := [(0, .ref l0), (1, .int l1), (2, .int l2), (3, .int l3), (4, .int (s0 - s1)), (5, .int ((16 * v6) + l3))]) (q_cod qk251 rfl) (by decide) rfl ?_
    refine ev_iload_n (q_cod qk251 rfl) (by decide) rfl ?_
    refine ev_ic (v := 4) (q_cod qk251 rfl) (by decide) (by decide) ?_
    refine em_ic_ne (q_cod qk251 rfl) (by decide) hf (fun c13 hf => ?_) (fun c13 hf => ?_)
    · refine ev_aload_n (q_cod qk251 rfl) (by decide) rfl ?_
      refine em_gR (q_cod qk251 rfl) (by decide) (by decide) hf (fun r7 hf => ?_)
      refine ev_iload (q_cod qk251 rfl) (by decide) rfl ?_
      refine ev_aload_n (q_cod qk251 rfl) (by decide) rfl ?_
      refine em_gR (q_cod qk251 rfl) (by decide) (by decide) hf (fun r8 hf => ?_)
      refine ev_iload (q_cod qk251 rfl) (by decide) rfl ?_
      refine ev_ic (v := 1) (q_cod qk251 rfl) (by decide) (by decide) ?_
      refine ev_iadd (q_cod qk251 rfl) (by decide) ?_
      refine em_lI (q_cod qk251 rfl) (by decide) hf (fun v9 hf => ?_)
      refine em_wI (q_cod qk251 rfl) (by decide) hf (fun hf => ?_)
      refine ev_aload_n (q_cod qk251 rfl) (by decide) rfl ?_
      refine em_gR (q_cod qk251 rfl) (by decide) (by decide) hf (fun r10 hf => ?_)
      refine ev_iload (q_cod qk251 rfl) (by decide) rfl ?_
      refine ev_aload_n (q_cod qk251 rfl) (by decide) rfl ?_
      refine em_gR (q_cod qk251 rfl) (by decide) (by decide) hf (fun r11 hf => ?_)
      refine ev_iload (q_cod qk251 rfl) (by decide) rfl ?_
      refine ev_ic (v := 1) (q_cod qk251 rfl) (by decide) (by decide) ?_
      refine ev_iadd (q_cod qk251 rfl) (by decide) ?_
      refine em_lI (q_cod qk251 rfl) (by decide) hf (fun v12 hf => ?_)
      refine em_wI (q_cod qk251 rfl) (by decide) hf (fun hf => ?_)
      exact ev_weak (q_pk [0, 4, 5] rfl) (f251_87_ok hf hK)
    · exact ev_weak (q_pk [0, 4, 5] rfl) (f251_87_ok hf hK)
def f251 (l0 : Nat) (l1 : Int32) (l2 : Int32) (l3 : Int32) : m_M Unit :=
  m_B (m_gI 12 l0 26) (fun v1 => if l2 = 4 then (f251_14 l0 l1 l2 l3 v1 2) else (f251_14 l0 l1 l2 l3 v1 1))
theorem f251_ok {l0 : Nat} {l1 : Int32} {l2 : Int32} {l3 : Int32} {h : q_H} {o : q_O} {hz : q_H} {x : Unit × q_H} (hf : f251 l0 l1 l2 l3 h = some x) (hK : (m_KU o hz) x) : q_Ev none 251 0 [(0, .ref l0), (1, .int l1), (2, .int l2), (3, .int l3)] [] h o hz := by
  unfold f251 at hf
  refine ev_aload_n (q_cod qk251 rfl) (by decide) rfl ?_
  refine em_gI (q_cod qk251 rfl) (by decide) (by decide) hf (fun v1 hf => ?_)
  refine ev_iload_n (q_cod qk251 rfl) (by decide) rfl ?_
  refine ev_ic (v := 4) (q_cod qk251 rfl) (by decide) (by decide) ?_
  refine em_ic_ne (q_cod qk251 rfl) (by decide) hf (fun c2 hf => ?_) (fun c2 hf => ?_)
  · refine ev_ic (v := 2) (q_cod qk251 rfl) (by decide) (by decide) ?_
    refine ev_goto (q_cod qk251 rfl) (by decide) ?_
    exact (f251_14_ok hf hK)
  · refine ev_ic (v := 1) (q_cod qk251 rfl) (by decide) (by decide) ?_
    exact (f251_14_ok hf hK)
theorem f251_cl {l0 : Nat} {l1 : Int32} {l2 : Int32} {l3 : Int32} {h : q_H} {x : Unit × q_H} (hf : f251 l0 l1 l2 l3 h = some x) : q_Cl 251 [.ref l0, .int l1, .int l2, .int l3] h (.inl none) x.2 := q_Cl.of rfl (q_LvS rfl rfl) (f251_ok hf ⟨rfl, rfl⟩)
/-! SmithyBenchModel.finish(IIIII)V -/
theorem qk249 : q_cs.getD 249 [] = qc_249 := rfl
def f249_469  : m_M Unit :=
  m_R ()
set_option maxRecDepth 20000 in
theorem f249_469_ok  {h : q_H} {o : q_O} {hz : q_H} {x : Unit × q_H} (hf : f249_469 h = some x) (hK : (m_KU o hz) x) : q_Ev none 249 469 [] [] h o hz := by
  unfold f249_469 at hf
  obtain rfl := m_R_inv hf
  obtain ⟨rfl, rfl⟩ := (show m_KU o hz ((), _) from hK)
  exact ev_ret (q_cod qk249 rfl) rfl
def f249_197 (s0 : Nat) (s1 : Int32) (s2 : Int32) : m_M Unit :=
  m_B (m_aK s0 12) (fun _ => m_B (f242 s0 s1 s2) (fun _ => f249_469))
set_option maxRecDepth 20000 in
theorem f249_197_ok {s0 : Nat} {s1 : Int32} {s2 : Int32} {h : q_H} {o : q_O} {hz : q_H} {x : Unit × q_H} (hf : f249_197 s0 s1 s2 h = some x) (hK : (m_KU o hz) x) : q_Ev none 249 197 [] [.int s2, .int s1, .ref s0] h o hz := by
  unfold f249_197 at hf
  obtain ⟨g1, hf⟩ := m_aK_some hf
  refine em_call (v := (fun _ => none)) (q_cod qk249 rfl) rfl rfl (q_cokV rfl rfl (Or.inr g1)) rfl (fun x e => f242_cl e) hf (fun _ h hf => ?_)
  refine ev_goto (q_cod qk249 rfl) (by decide) ?_
  exact (f249_469_ok hf hK)
def f249_175 (l0 : Nat) (l10 : Int32) (l11 : Int32) (s0 : Nat) (s1 : Int32) : m_M Unit :=
  if l10 = 0 then (m_B (m_gR 12 l0 19) (fun r1 => m_B (m_lI r1 l11) (fun v2 => f249_197 s0 s1 v2))) else (m_B (m_gR 12 l0 32) (fun r3 => m_B (m_lI r3 l11) (fun v4 => f249_197 s0 s1 v4)))
set_option maxRecDepth 20000 in
theorem f249_175_ok {l0 : Nat} {l10 : Int32} {l11 : Int32} {s0 : Nat} {s1 : Int32} {h : q_H} {o : q_O} {hz : q_H} {x : Unit × q_H} (hf : f249_175 l0 l10 l11 s0 s1 h = some x) (hK : (m_KU o hz) x) : q_Ev none 249 175 [(0, .ref l0), (10, .int l10), (11, .int l11)] [.int s1, .ref s0] h o hz := by
  unfold f249_175 at hf
  refine ev_iload (q_cod qk249 rfl) (by decide) rfl ?_
  refine em_if_eq (q_cod qk249 rfl) (by decide) hf (fun c5 hf => ?_) (fun c5 hf => ?_)
  · refine ev_aload_n (q_cod qk249 rfl) (by decide) rfl ?_
    refine em_gR (q_cod qk249 rfl) (by decide) (by decide) hf (fun r1 hf => ?_)
    refine ev_iload (q_cod qk249 rfl) (by decide) rfl ?_
    refine em_lI (q_cod qk249 rfl) (by decide) hf (fun v2 hf => ?_)
    exact ev_weak (q_pk [] rfl) (f249_197_ok hf hK)
  · refine ev_aload_n (q_cod qk249 rfl) (by decide) rfl ?_
    refine em_gR (q_cod qk249 rfl) (by decide) (by decide) hf (fun r3 hf => ?_)
    refine ev_iload (q_cod qk249 rfl) (by decide) rfl ?_
    refine em_lI (q_cod qk249 rfl) (by decide) hf (fun v4 hf => ?_)
    refine ev_goto (q_cod qk249 rfl) (by decide) ?_
    exact ev_weak (q_pk [] rfl) (f249_197_ok hf hK)
def f249_150 (l0 : Nat) (l10 : Int32) (s0 : Int32) : m_M Unit :=
  if l10 = 0 then (m_B (m_gR 12 l0 18) (fun r1 => m_B (m_lI r1 s0) (fun v2 => f249_175 l0 l10 s0 l0 v2))) else (m_B (m_gR 12 l0 31) (fun r3 => m_B (m_lI r3 s0) (fun v4 => f249_175 l0 l10 s0 l0 v4)))
set_option maxRecDepth 20000 in
theorem f249_150_ok {l0 : Nat} {l10 : Int32} {s0 : Int32} {h : q_H} {o : q_O} {hz : q_H} {x : Unit × q_H} (hf : f249_150 l0 l10 s0 h = some x) (hK : (m_KU o hz) x) : q_Ev none 249 150 [(0, .ref l0), (10, .int l10)] [.int s0] h o hz := by
  unfold f249_150 at hf
  refine ev_is2 (L' := [(0, .ref l0), (10, .int l10), (11, .int s0)]) (q_cod qk249 rfl) (by decide) rfl ?_
  refine ev_aload_n (q_cod qk249 rfl) (by decide) rfl ?_
  refine ev_iload (q_cod qk249 rfl) (by decide) rfl ?_
  refine em_if_eq (q_cod qk249 rfl) (by decide) hf (fun c5 hf => ?_) (fun c5 hf => ?_)
  · refine ev_aload_n (q_cod qk249 rfl) (by decide) rfl ?_
    refine em_gR (q_cod qk249 rfl) (by decide) (by decide) hf (fun r1 hf => ?_)
    refine ev_iload (q_cod qk249 rfl) (by decide) rfl ?_
    refine em_lI (q_cod qk249 rfl) (by decide) hf (fun v2 hf => ?_)
    exact (f249_175_ok hf hK)
  · refine ev_aload_n (q_cod qk249 rfl) (by decide) rfl ?_
    refine em_gR (q_cod qk249 rfl) (by decide) (by decide) hf (fun r3 hf => ?_)
    refine ev_iload (q_cod qk249 rfl) (by decide) rfl ?_
    refine em_lI (q_cod qk249 rfl) (by decide) hf (fun v4 hf => ?_)
    refine ev_goto (q_cod qk249 rfl) (by decide) ?_
    exact (f249_175_ok hf hK)
def f249_124 (l0 : Nat) (l6 : Int32) (l7 : Int32) (l8 : Int32) (l9 : Int32) (s0 : Int32) : m_M Unit :=
  if s0 = 0 then (m_B (m_aK l0 12) (fun _ => m_B (f246 l0 l7 l9) (fun v2 => f249_150 l0 s0 v2))) else (f249_150 l0 s0 ((16 * l8) + l6))
set_option maxRecDepth 20000 in
theorem f249_124_ok {l0 : Nat} {l6 : Int32} {l7 : Int32} {l8 : Int32} {l9 : Int32} {s0 : Int32} {h : q_H} {o : q_O} {hz : q_H} {x : Unit × q_H} (hf : f249_124 l0 l6 l7 l8 l9 s0 h = some x) (hK : (m_KU o hz) x) : q_Ev none 249 124 [(0, .ref l0), (6, .int l6), (7, .int l7), (8, .int l8), (9, .int l9)] [.int s0] h o hz := by
  unfold f249_124 at hf
  refine ev_is2 (L' := [(0, .ref l0), (6, .int l6), (7, .int l7), (8, .int l8), (9, .int l9), (10, .int s0)]) (q_cod qk249 rfl) (by decide) rfl ?_
  refine ev_iload (q_cod qk249 rfl) (by decide) rfl ?_
  refine em_if_eq (q_cod qk249 rfl) (by decide) hf (fun c3 hf => ?_) (fun c3 hf => ?_)
  · refine ev_aload_n (q_cod qk249 rfl) (by decide) rfl ?_
    refine ev_iload (q_cod qk249 rfl) (by decide) rfl ?_
    refine ev_iload (q_cod qk249 rfl) (by decide) rfl ?_
    obtain ⟨g1, hf⟩ := m_aK_some hf
    refine em_call (v := (fun u => some (.int u))) (q_cod qk249 rfl) rfl rfl (q_cokV rfl rfl (Or.inr g1)) rfl (fun x e => f246_cl e) hf (fun v2 h hf => ?_)
    exact ev_weak (q_pk [0, 5] rfl) (f249_150_ok hf hK)
  · refine ev_bi (v := 16) (q_cod qk249 rfl) (by decide) (by decide) ?_
    refine ev_iload (q_cod qk249 rfl) (by decide) rfl ?_
    refine ev_imul (q_cod qk249 rfl) (by decide) ?_
    refine ev_iload (q_cod qk249 rfl) (by decide) rfl ?_
    refine ev_iadd (q_cod qk249 rfl) (by decide) ?_
    refine ev_goto (q_cod qk249 rfl) (by decide) ?_
    exact ev_weak (q_pk [0, 5] rfl) (f249_150_ok hf hK)
def f249_251 (s0 : Nat) (s1 : Int32) (s2 : Int32) : m_M Unit :=
  m_B (m_aK s0 12) (fun _ => m_B (f250 s0 s1 s2) (fun _ => f249_469))
set_option maxRecDepth 20000 in
theorem f249_251_ok {s0 : Nat} {s1 : Int32} {s2 : Int32} {h : q_H} {o : q_O} {hz : q_H} {x : Unit × q_H} (hf : f249_251 s0 s1 s2 h = some x) (hK : (m_KU o hz) x) : q_Ev none 249 251 [] [.int s2, .int s1, .ref s0] h o hz := by
  unfold f249_251 at hf
  obtain ⟨g1, hf⟩ := m_aK_some hf
  refine em_call (v := (fun _ => none)) (q_cod qk249 rfl) rfl rfl (q_cokV rfl rfl (Or.inr g1)) rfl (fun x e => f250_cl e) hf (fun _ h hf => ?_)
  refine ev_goto (q_cod qk249 rfl) (by decide) ?_
  exact (f249_469_ok hf hK)
def f249_224 (l0 : Nat) (l6 : Int32) (l7 : Int32) (l8 : Int32) (l9 : Int32) (s0 : Nat) (s1 : Int32) : m_M Unit :=
  if l9 < 1000 then (m_B (m_aK l0 12) (fun _ => m_B (f246 l0 l7 l9) (fun v2 => f249_251 s0 s1 v2))) else (f249_251 s0 s1 ((16 * l8) + l6))
set_option maxRecDepth 20000 in
theorem f249_224_ok {l0 : Nat} {l6 : Int32} {l7 : Int32} {l8 : Int32} {l9 : Int32} {s0 : Nat} {s1 : Int32} {h : q_H} {o : q_O} {hz : q_H} {x : Unit × q_H} (hf : f249_224 l0 l6 l7 l8 l9 s0 s1 h = some x) (hK : (m_KU o hz) x) : q_Ev none 249 224 [(0, .ref l0), (6, .int l6), (7, .int l7), (8, .int l8), (9, .int l9)] [.int s1, .ref s0] h o hz := by
  unfold f249_224 at hf
  refine ev_iload (q_cod qk249 rfl) (by decide) rfl ?_
  refine ev_si (v := 1000) (q_cod qk249 rfl) (by decide) (by decide) ?_
  refine em_ic_lt (q_cod qk249 rfl) (by decide) hf (fun c3 hf => ?_) (fun c3 hf => ?_)
  · refine ev_aload_n (q_cod qk249 rfl) (by decide) rfl ?_
    refine ev_iload (q_cod qk249 rfl) (by decide) rfl ?_
    refine ev_iload (q_cod qk249 rfl) (by decide) rfl ?_
    obtain ⟨g1, hf⟩ := m_aK_some hf
    refine em_call (v := (fun u => some (.int u))) (q_cod qk249 rfl) rfl rfl (q_cokV rfl rfl (Or.inr g1)) rfl (fun x e => f246_cl e) hf (fun v2 h hf => ?_)
    exact ev_weak (q_pk [] rfl) (f249_251_ok hf hK)
  · refine ev_bi (v := 16) (q_cod qk249 rfl) (by decide) (by decide) ?_
    refine ev_iload (q_cod qk249 rfl) (by decide) rfl ?_
    refine ev_imul (q_cod qk249 rfl) (by decide) ?_
    refine ev_iload (q_cod qk249 rfl) (by decide) rfl ?_
    refine ev_iadd (q_cod qk249 rfl) (by decide) ?_
    refine ev_goto (q_cod qk249 rfl) (by decide) ?_
    exact ev_weak (q_pk [] rfl) (f249_251_ok hf hK)
def f249_421 (s0 : Nat) (s1 : Int32) (s2 : Int32) : m_M Unit :=
  m_B (m_wI s0 s1 s2) (fun _ => f249_469)
set_option maxRecDepth 20000 in
theorem f249_421_ok {s0 : Nat} {s1 : Int32} {s2 : Int32} {h : q_H} {o : q_O} {hz : q_H} {x : Unit × q_H} (hf : f249_421 s0 s1 s2 h = some x) (hK : (m_KU o hz) x) : q_Ev none 249 421 [] [.int s2, .int s1, .ref s0] h o hz := by
  unfold f249_421 at hf
  refine em_wI (q_cod qk249 rfl) (by decide) hf (fun hf => ?_)
  refine ev_goto (q_cod qk249 rfl) (by decide) ?_
  exact (f249_469_ok hf hK)
def f249 (l0 : Nat) (l1 : Int32) (l2 : Int32) (l3 : Int32) (l4 : Int32) (l5 : Int32) : m_M Unit :=
  m_B (m_aK l0 12) (fun _ => m_B (f200 l0 l1 l3 l4) (fun v2 => m_B (m_gR 12 l0 21) (fun r3 => m_B (m_lI r3 l2) (fun v4 => m_B (m_gR 12 l0 17) (fun r5 => m_B (m_lI r5 v4) (fun v6 => m_B (m_gR 12 l0 13) (fun r7 => m_B (m_lI r7 ((192 * l3) + l4)) (fun v8 => m_B (m_gI 12 l0 20) (fun v9 => m_B (m_pI 12 l0 20 (v9 - 1)) (fun _ => if l5 = 0 then (m_B (m_aK l0 12) (fun _ => m_B (f242 l0 0 v2) (fun _ => f249_469))) else (if l5 = 2 then (m_B (m_aK l0 12) (fun _ => m_B (f242 l0 1 v6) (fun _ => f249_469))) else (if l5 = 8 then (m_B (m_aK l0 12) (fun _ => m_B (f241 l0 l1 v2) (fun v15 => m_B (m_aK l0 12) (fun _ => m_B (f242 l0 1 v15) (fun _ => f249_469))))) else (if l5 = 1 then (if v8 < 1000 then (f249_124 l0 v2 v4 v6 v8 0) else (f249_124 l0 v2 v4 v6 v8 1)) else (if l5 = 6 then (if v8 < 1000 then (f249_224 l0 v2 v4 v6 v8 l0 0) else (f249_224 l0 v2 v4 v6 v8 l0 1)) else (if l5 = 9 then (m_B (m_gI 12 l0 26) (fun v20 => m_B (m_pI 12 l0 26 (v20 - 1)) (fun _ => m_B (m_gR 12 l0 27) (fun r21 => m_B (m_gI 12 l0 26) (fun v22 => m_B (m_gR 12 l0 27) (fun r23 => m_B (m_gI 12 l0 26) (fun v24 => m_B (m_lI r23 v24) (fun v25 => m_B (m_wI r21 (v22 - 1) v25) (fun _ => m_B (m_gR 12 l0 28) (fun r26 => m_B (m_gI 12 l0 26) (fun v27 => m_B (m_gR 12 l0 28) (fun r28 => m_B (m_gI 12 l0 26) (fun v29 => m_B (m_lI r28 v29) (fun v30 => m_B (m_wI r26 (v27 - 1) v30) (fun _ => f249_469))))))))))))))) else (if l5 = 11 then (m_B (m_gI 12 l0 26) (fun v31 => m_B (m_pI 12 l0 26 (v31 - 1)) (fun _ => m_B (m_gR 12 l0 28) (fun r32 => m_B (m_gI 12 l0 26) (fun v33 => m_B (m_lI r32 (v33 - 1)) (fun v34 => m_B (m_gR 12 l0 28) (fun r35 => m_B (m_gI 12 l0 26) (fun v36 => m_B (m_lI r35 v36) (fun v37 => m_B (m_gR 12 l0 28) (fun r38 => m_B (m_gI 12 l0 26) (fun v39 => if v2 = 0 then (f249_421 r38 (v39 - 1) (v34 + v37)) else (if v2 = 1 then (f249_421 r38 (v39 - 1) (v34 - v37)) else (if v2 = 2 then (f249_421 r38 (v39 - 1) (v34 * v37)) else (if v34 < v37 then (f249_421 r38 (v39 - 1) 1) else (f249_421 r38 (v39 - 1) 0))))))))))))))) else (if l5 = 12 then (m_B (m_gI 12 l0 26) (fun v44 => m_B (m_pI 12 l0 26 (v44 - 1)) (fun _ => m_B (m_gR 12 l0 28) (fun r45 => m_B (m_gI 12 l0 26) (fun v46 => m_B (m_lI r45 v46) (fun v47 => m_B (m_aK l0 12) (fun _ => m_B (f244 l0 l1 0 v47) (fun _ => f249_469)))))))) else (m_B (m_aK l0 12) (fun _ => m_B (f251 l0 l1 l5 v2) (fun _ => f249_469))))))))))))))))))))
set_option maxRecDepth 20000 in
theorem f249_ok {l0 : Nat} {l1 : Int32} {l2 : Int32} {l3 : Int32} {l4 : Int32} {l5 : Int32} {h : q_H} {o : q_O} {hz : q_H} {x : Unit × q_H} (hf : f249 l0 l1 l2 l3 l4 l5 h = some x) (hK : (m_KU o hz) x) : q_Ev none 249 0 [(0, .ref l0), (1, .int l1), (2, .int l2), (3, .int l3), (4, .int l4), (5, .int l5)] [] h o hz := by
  unfold f249 at hf
  refine ev_aload_n (q_cod qk249 rfl) (by decide) rfl ?_
  refine ev_iload_n (q_cod qk249 rfl) (by decide) rfl ?_
  refine ev_iload_n (q_cod qk249 rfl) (by decide) rfl ?_
  refine ev_iload (q_cod qk249 rfl) (by decide) rfl ?_
  obtain ⟨g1, hf⟩ := m_aK_some hf
  refine em_call (v := (fun u => some (.int u))) (q_cod qk249 rfl) rfl rfl (q_cokV rfl rfl (Or.inr g1)) rfl (fun x e => f200_cl e) hf (fun v2 h hf => ?_)
  refine ev_is2 (L' := [(0, .ref l0), (1, .int l1), (2, .int l2), (3, .int l3), (4, .int l4), (5, .int l5), (6, .int v2)]) (q_cod qk249 rfl) (by decide) rfl ?_
  refine ev_aload_n (q_cod qk249 rfl) (by decide) rfl ?_
  refine em_gR (q_cod qk249 rfl) (by decide) (by decide) hf (fun r3 hf => ?_)
  refine ev_iload_n (q_cod qk249 rfl) (by decide) rfl ?_
  refine em_lI (q_cod qk249 rfl) (by decide) hf (fun v4 hf => ?_)
  refine ev_is2 (L' := [(0, .ref l0), (1, .int l1), (2, .int l2), (3, .int l3), (4, .int l4), (5, .int l5), (6, .int v2), (7, .int v4)]) (q_cod qk249 rfl) (by decide) rfl ?_
  refine ev_aload_n (q_cod qk249 rfl) (by decide) rfl ?_
  refine em_gR (q_cod qk249 rfl) (by decide) (by decide) hf (fun r5 hf => ?_)
  refine ev_iload (q_cod qk249 rfl) (by decide) rfl ?_
  refine em_lI (q_cod qk249 rfl) (by decide) hf (fun v6 hf => ?_)
  refine ev_is2 (L' := [(0, .ref l0), (1, .int l1), (2, .int l2), (3, .int l3), (4, .int l4), (5, .int l5), (6, .int v2), (7, .int v4), (8, .int v6)]) (q_cod qk249 rfl) (by decide) rfl ?_
  refine ev_aload_n (q_cod qk249 rfl) (by decide) rfl ?_
  refine em_gR (q_cod qk249 rfl) (by decide) (by decide) hf (fun r7 hf => ?_)
  refine ev_si (v := 192) (q_cod qk249 rfl) (by decide) (by decide) ?_
  refine ev_iload_n (q_cod qk249 rfl) (by decide) rfl ?_
  refine ev_imul (q_cod qk249 rfl) (by decide) ?_
  refine ev_iload (q_cod qk249 rfl) (by decide) rfl ?_
  refine ev_iadd (q_cod qk249 rfl) (by decide) ?_
  refine em_lI (q_cod qk249 rfl) (by decide) hf (fun v8 hf => ?_)
  refine ev_is2 (L' := [(0, .ref l0), (1, .int l1), (2, .int l2), (3, .int l3), (4, .int l4), (5, .int l5), (6, .int v2), (7, .int v4), (8, .int v6), (9, .int v8)]) (q_cod qk249 rfl) (by decide) rfl ?_
  refine ev_aload_n (q_cod qk249 rfl) (by decide) rfl ?_
  refine ev_dup (q_cod qk249 rfl) (by decide) rfl ?_
  refine em_gI (q_cod qk249 rfl) (by decide) (by decide) hf (fun v9 hf => ?_)
  refine ev_ic (v := 1) (q_cod qk249 rfl) (by decide) (by decide) ?_
  refine ev_isub (q_cod qk249 rfl) (by decide) ?_
  refine em_pI (q_cod qk249 rfl) (by decide) (by decide) (by decide) hf (fun hf => ?_)
  refine ev_iload (q_cod qk249 rfl) (by decide) rfl ?_
  refine em_if_ne (q_cod qk249 rfl) (by decide) hf (fun c59 hf => ?_) (fun c59 hf => ?_)
  · refine ev_aload_n (q_cod qk249 rfl) (by decide) rfl ?_
    refine ev_ic (v := 0) (q_cod qk249 rfl) (by decide) (by decide) ?_
    refine ev_iload (q_cod qk249 rfl) (by decide) rfl ?_
    obtain ⟨g10, hf⟩ := m_aK_some hf
    refine em_call (v := (fun _ => none)) (q_cod qk249 rfl) rfl rfl (q_cokV rfl rfl (Or.inr g10)) rfl (fun x e => f242_cl e) hf (fun _ h hf => ?_)
    refine ev_goto (q_cod qk249 rfl) (by decide) ?_
    exact ev_weak (q_pk [] rfl) (f249_469_ok hf hK)
  · refine ev_iload (q_cod qk249 rfl) (by decide) rfl ?_
    refine ev_ic (v := 2) (q_cod qk249 rfl) (by decide) (by decide) ?_
    refine em_ic_ne (q_cod qk249 rfl) (by decide) hf (fun c58 hf => ?_) (fun c58 hf => ?_)
    · refine ev_aload_n (q_cod qk249 rfl) (by decide) rfl ?_
      refine ev_ic (v := 1) (q_cod qk249 rfl) (by decide) (by decide) ?_
      refine ev_iload (q_cod qk249 rfl) (by decide) rfl ?_
      obtain ⟨g12, hf⟩ := m_aK_some hf
      refine em_call (v := (fun _ => none)) (q_cod qk249 rfl) rfl rfl (q_cokV rfl rfl (Or.inr g12)) rfl (fun x e => f242_cl e) hf (fun _ h hf => ?_)
      refine ev_goto (q_cod qk249 rfl) (by decide) ?_
      exact ev_weak (q_pk [] rfl) (f249_469_ok hf hK)
    · refine ev_iload (q_cod qk249 rfl) (by decide) rfl ?_
      refine ev_bi (v := 8) (q_cod qk249 rfl) (by decide) (by decide) ?_
      refine em_ic_ne (q_cod qk249 rfl) (by decide) hf (fun c57 hf => ?_) (fun c57 hf => ?_)
      · refine ev_aload_n (q_cod qk249 rfl) (by decide) rfl ?_
        refine ev_ic (v := 1) (q_cod qk249 rfl) (by decide) (by decide) ?_
        refine ev_aload_n (q_cod qk249 rfl) (by decide) rfl ?_
        refine ev_iload_n (q_cod qk249 rfl) (by decide) rfl ?_
        refine ev_iload (q_cod qk249 rfl) (by decide) rfl ?_
        obtain ⟨g14, hf⟩ := m_aK_some hf
        refine em_call (v := (fun u => some (.int u))) (q_cod qk249 rfl) rfl rfl (q_cokV rfl rfl (Or.inr g14)) rfl (fun x e => f241_cl e) hf (fun v15 h hf => ?_)
        obtain ⟨g16, hf⟩ := m_aK_some hf
        refine em_call (v := (fun _ => none)) (q_cod qk249 rfl) rfl rfl (q_cokV rfl rfl (Or.inr g16)) rfl (fun x e => f242_cl e) hf (fun _ h hf => ?_)
        refine ev_goto (q_cod qk249 rfl) (by decide) ?_
        exact ev_weak (q_pk [] rfl) (f249_469_ok hf hK)
      · refine ev_iload (q_cod qk249 rfl) (by decide) rfl ?_
        refine ev_ic (v := 1) (q_cod qk249 rfl) (by decide) (by decide) ?_
        refine em_ic_ne (q_cod qk249 rfl) (by decide) hf (fun c56 hf => ?_) (fun c56 hf => ?_)
        · refine ev_iload (q_cod qk249 rfl) (by decide) rfl ?_
          refine ev_si (v := 1000) (q_cod qk249 rfl) (by decide) (by decide) ?_
          refine em_ic_lt (q_cod qk249 rfl) (by decide) hf (fun c18 hf => ?_) (fun c18 hf => ?_)
          · refine ev_ic (v := 0) (q_cod qk249 rfl) (by decide) (by decide) ?_
            exact ev_weak (q_pk [0, 6, 7, 8, 9] rfl) (f249_124_ok hf hK)
          · refine ev_ic (v := 1) (q_cod qk249 rfl) (by decide) (by decide) ?_
            refine ev_goto (q_cod qk249 rfl) (by decide) ?_
            exact ev_weak (q_pk [0, 6, 7, 8, 9] rfl) (f249_124_ok hf hK)
        · refine ev_iload (q_cod qk249 rfl) (by decide) rfl ?_
          refine ev_bi (v := 6) (q_cod qk249 rfl) (by decide) (by decide) ?_
          refine em_ic_ne (q_cod qk249 rfl) (by decide) hf (fun c55 hf => ?_) (fun c55 hf => ?_)
          · refine ev_aload_n (q_cod qk249 rfl) (by decide) rfl ?_
            refine ev_iload (q_cod qk249 rfl) (by decide) rfl ?_
            refine ev_si (v := 1000) (q_cod qk249 rfl) (by decide) (by decide) ?_
            refine em_ic_lt (q_cod qk249 rfl) (by decide) hf (fun c19 hf => ?_) (fun c19 hf => ?_)
            · refine ev_ic (v := 0) (q_cod qk249 rfl) (by decide) (by decide) ?_
              exact ev_weak (q_pk [0, 6, 7, 8, 9] rfl) (f249_224_ok hf hK)
            · refine ev_ic (v := 1) (q_cod qk249 rfl) (by decide) (by decide) ?_
              refine ev_goto (q_cod qk249 rfl) (by decide) ?_
              exact ev_weak (q_pk [0, 6, 7, 8, 9] rfl) (f249_224_ok hf hK)
          · refine ev_iload (q_cod qk249 rfl) (by decide) rfl ?_
            refine ev_bi (v := 9) (q_cod qk249 rfl) (by decide) (by decide) ?_
            refine em_ic_ne (q_cod qk249 rfl) (by decide) hf (fun c54 hf => ?_) (fun c54 hf => ?_)
            · refine ev_aload_n (q_cod qk249 rfl) (by decide) rfl ?_
              refine ev_dup (q_cod qk249 rfl) (by decide) rfl ?_
              refine em_gI (q_cod qk249 rfl) (by decide) (by decide) hf (fun v20 hf => ?_)
              refine ev_ic (v := 1) (q_cod qk249 rfl) (by decide) (by decide) ?_
              refine ev_isub (q_cod qk249 rfl) (by decide) ?_
              refine em_pI (q_cod qk249 rfl) (by decide) (by decide) (by decide) hf (fun hf => ?_)
              refine ev_aload_n (q_cod qk249 rfl) (by decide) rfl ?_
              refine em_gR (q_cod qk249 rfl) (by decide) (by decide) hf (fun r21 hf => ?_)
              refine ev_aload_n (q_cod qk249 rfl) (by decide) rfl ?_
              refine em_gI (q_cod qk249 rfl) (by decide) (by decide) hf (fun v22 hf => ?_)
              refine ev_ic (v := 1) (q_cod qk249 rfl) (by decide) (by decide) ?_
              refine ev_isub (q_cod qk249 rfl) (by decide) ?_
              refine ev_aload_n (q_cod qk249 rfl) (by decide) rfl ?_
              refine em_gR (q_cod qk249 rfl) (by decide) (by decide) hf (fun r23 hf => ?_)
              refine ev_aload_n (q_cod qk249 rfl) (by decide) rfl ?_
              refine em_gI (q_cod qk249 rfl) (by decide) (by decide) hf (fun v24 hf => ?_)
              refine em_lI (q_cod qk249 rfl) (by decide) hf (fun v25 hf => ?_)
              refine em_wI (q_cod qk249 rfl) (by decide) hf (fun hf => ?_)
              refine ev_aload_n (q_cod qk249 rfl) (by decide) rfl ?_
              refine em_gR (q_cod qk249 rfl) (by decide) (by decide) hf (fun r26 hf => ?_)
              refine ev_aload_n (q_cod qk249 rfl) (by decide) rfl ?_
              refine em_gI (q_cod qk249 rfl) (by decide) (by decide) hf (fun v27 hf => ?_)
              refine ev_ic (v := 1) (q_cod qk249 rfl) (by decide) (by decide) ?_
              refine ev_isub (q_cod qk249 rfl) (by decide) ?_
              refine ev_aload_n (q_cod qk249 rfl) (by decide) rfl ?_
              refine em_gR (q_cod qk249 rfl) (by decide) (by decide) hf (fun r28 hf => ?_)
              refine ev_aload_n (q_cod qk249 rfl) (by decide) rfl ?_
              refine em_gI (q_cod qk249 rfl) (by decide) (by decide) hf (fun v29 hf => ?_)
              refine em_lI (q_cod qk249 rfl) (by decide) hf (fun v30 hf => ?_)
              refine em_wI (q_cod qk249 rfl) (by decide) hf (fun hf => ?_)
              refine ev_goto (q_cod qk249 rfl) (by decide) ?_
              exact ev_weak (q_pk [] rfl) (f249_469_ok hf hK)
            · refine ev_iload (q_cod qk249 rfl) (by decide) rfl ?_
              refine ev_bi (v := 11) (q_cod qk249 rfl) (by decide) (by decide) ?_
              refine em_ic_ne (q_cod qk249 rfl) (by decide) hf (fun c53 hf => ?_) (fun c53 hf => ?_)
              · refine ev_aload_n (q_cod qk249 rfl) (by decide) rfl ?_
                refine ev_dup (q_cod qk249 rfl) (by decide) rfl ?_
                refine em_gI (q_cod qk249 rfl) (by decide) (by decide) hf (fun v31 hf => ?_)
                refine ev_ic (v := 1) (q_cod qk249 rfl) (by decide) (by decide) ?_
                refine ev_isub (q_cod qk249 rfl) (by decide) ?_
                refine em_pI (q_cod qk249 rfl) (by decide) (by decide) (by decide) hf (fun hf => ?_)
                refine ev_aload_n (q_cod qk249 rfl) (by decide) rfl ?_
                refine em_gR (q_cod qk249 rfl) (by decide) (by decide) hf (fun r32 hf => ?_)
                refine ev_aload_n (q_cod qk249 rfl) (by decide) rfl ?_
                refine em_gI (q_cod qk249 rfl) (by decide) (by decide) hf (fun v33 hf => ?_)
                refine ev_ic (v := 1) (q_cod qk249 rfl) (by decide) (by decide) ?_
                refine ev_isub (q_cod qk249 rfl) (by decide) ?_
                refine em_lI (q_cod qk249 rfl) (by decide) hf (fun v34 hf => ?_)
                refine ev_is2 (L' := [(0, .ref l0), (1, .int l1), (2, .int l2), (3, .int l3), (4, .int l4), (5, .int l5), (6, .int v2), (7, .int v4), (8, .int v6), (9, .int v8), (10, .int v34)]) (q_cod qk249 rfl) (by decide) rfl ?_
                refine ev_aload_n (q_cod qk249 rfl) (by decide) rfl ?_
                refine em_gR (q_cod qk249 rfl) (by decide) (by decide) hf (fun r35 hf => ?_)
                refine ev_aload_n (q_cod qk249 rfl) (by decide) rfl ?_
                refine em_gI (q_cod qk249 rfl) (by decide) (by decide) hf (fun v36 hf => ?_)
                refine em_lI (q_cod qk249 rfl) (by decide) hf (fun v37 hf => ?_)
                refine ev_is2 (L' := [(0, .ref l0), (1, .int l1), (2, .int l2), (3, .int l3), (4, .int l4), (5, .int l5), (6, .int v2), (7, .int v4), (8, .int v6), (9, .int v8), (10, .int v34), (11, .int v37)]) (q_cod qk249 rfl) (by decide) rfl ?_
                refine ev_aload_n (q_cod qk249 rfl) (by decide) rfl ?_
                refine em_gR (q_cod qk249 rfl) (by decide) (by decide) hf (fun r38 hf => ?_)
                refine ev_aload_n (q_cod qk249 rfl) (by decide) rfl ?_
                refine em_gI (q_cod qk249 rfl) (by decide) (by decide) hf (fun v39 hf => ?_)
                refine ev_ic (v := 1) (q_cod qk249 rfl) (by decide) (by decide) ?_
                refine ev_isub (q_cod qk249 rfl) (by decide) ?_
                refine ev_iload (q_cod qk249 rfl) (by decide) rfl ?_
                refine em_if_ne (q_cod qk249 rfl) (by decide) hf (fun c43 hf => ?_) (fun c43 hf => ?_)
                · refine ev_iload (q_cod qk249 rfl) (by decide) rfl ?_
                  refine ev_iload (q_cod qk249 rfl) (by decide) rfl ?_
                  refine ev_iadd (q_cod qk249 rfl) (by decide) ?_
                  refine ev_goto (q_cod qk249 rfl) (by decide) ?_
                  exact ev_weak (q_pk [] rfl) (f249_421_ok hf hK)
                · refine ev_iload (q_cod qk249 rfl) (by decide) rfl ?_
                  refine ev_ic (v := 1) (q_cod qk249 rfl) (by decide) (by decide) ?_
                  refine em_ic_ne (q_cod qk249 rfl) (by decide) hf (fun c42 hf => ?_) (fun c42 hf => ?_)
                  · refine ev_iload (q_cod qk249 rfl) (by decide) rfl ?_
                    refine ev_iload (q_cod qk249 rfl) (by decide) rfl ?_
                    refine ev_isub (q_cod qk249 rfl) (by decide) ?_
                    refine ev_goto (q_cod qk249 rfl) (by decide) ?_
                    exact ev_weak (q_pk [] rfl) (f249_421_ok hf hK)
                  · refine ev_iload (q_cod qk249 rfl) (by decide) rfl ?_
                    refine ev_ic (v := 2) (q_cod qk249 rfl) (by decide) (by decide) ?_
                    refine em_ic_ne (q_cod qk249 rfl) (by decide) hf (fun c41 hf => ?_) (fun c41 hf => ?_)
                    · refine ev_iload (q_cod qk249 rfl) (by decide) rfl ?_
                      refine ev_iload (q_cod qk249 rfl) (by decide) rfl ?_
                      refine ev_imul (q_cod qk249 rfl) (by decide) ?_
                      refine ev_goto (q_cod qk249 rfl) (by decide) ?_
                      exact ev_weak (q_pk [] rfl) (f249_421_ok hf hK)
                    · refine ev_iload (q_cod qk249 rfl) (by decide) rfl ?_
                      refine ev_iload (q_cod qk249 rfl) (by decide) rfl ?_
                      refine em_ic_ge (q_cod qk249 rfl) (by decide) hf (fun c40 hf => ?_) (fun c40 hf => ?_)
                      · refine ev_ic (v := 1) (q_cod qk249 rfl) (by decide) (by decide) ?_
                        refine ev_goto (q_cod qk249 rfl) (by decide) ?_
                        exact ev_weak (q_pk [] rfl) (f249_421_ok hf hK)
                      · refine ev_ic (v := 0) (q_cod qk249 rfl) (by decide) (by decide) ?_
                        exact ev_weak (q_pk [] rfl) (f249_421_ok hf hK)
              · refine ev_iload (q_cod qk249 rfl) (by decide) rfl ?_
                refine ev_bi (v := 12) (q_cod qk249 rfl) (by decide) (by decide) ?_
                refine em_ic_ne (q_cod qk249 rfl) (by decide) hf (fun c52 hf => ?_) (fun c52 hf => ?_)
                · refine ev_aload_n (q_cod qk249 rfl) (by decide) rfl ?_
                  refine ev_dup (q_cod qk249 rfl) (by decide) rfl ?_
                  refine em_gI (q_cod qk249 rfl) (by decide) (by decide) hf (fun v44 hf => ?_)
                  refine ev_ic (v := 1) (q_cod qk249 rfl) (by decide) (by decide) ?_
                  refine ev_isub (q_cod qk249 rfl) (by decide) ?_
                  refine em_pI (q_cod qk249 rfl) (by decide) (by decide) (by decide) hf (fun hf => ?_)
                  refine ev_aload_n (q_cod qk249 rfl) (by decide) rfl ?_
                  refine ev_iload_n (q_cod qk249 rfl) (by decide) rfl ?_
                  refine ev_ic (v := 0) (q_cod qk249 rfl) (by decide) (by decide) ?_
                  refine ev_aload_n (q_cod qk249 rfl) (by decide) rfl ?_
                  refine em_gR (q_cod qk249 rfl) (by decide) (by decide) hf (fun r45 hf => ?_)
                  refine ev_aload_n (q_cod qk249 rfl) (by decide) rfl ?_
                  refine em_gI (q_cod qk249 rfl) (by decide) (by decide) hf (fun v46 hf => ?_)
                  refine em_lI (q_cod qk249 rfl) (by decide) hf (fun v47 hf => ?_)
                  obtain ⟨g48, hf⟩ := m_aK_some hf
                  refine em_call (v := (fun _ => none)) (q_cod qk249 rfl) rfl rfl (q_cokV rfl rfl (Or.inr g48)) rfl (fun x e => f244_cl e) hf (fun _ h hf => ?_)
                  refine ev_goto (q_cod qk249 rfl) (by decide) ?_
                  exact ev_weak (q_pk [] rfl) (f249_469_ok hf hK)
                · refine ev_aload_n (q_cod qk249 rfl) (by decide) rfl ?_
                  refine ev_iload_n (q_cod qk249 rfl) (by decide) rfl ?_
                  refine ev_iload (q_cod qk249 rfl) (by decide) rfl ?_
                  refine ev_iload (q_cod qk249 rfl) (by decide) rfl ?_
                  obtain ⟨g50, hf⟩ := m_aK_some hf
                  refine em_call (v := (fun _ => none)) (q_cod qk249 rfl) rfl rfl (q_cokV rfl rfl (Or.inr g50)) rfl (fun x e => f251_cl e) hf (fun _ h hf => ?_)
                  exact ev_weak (q_pk [] rfl) (f249_469_ok hf hK)
theorem f249_cl {l0 : Nat} {l1 : Int32} {l2 : Int32} {l3 : Int32} {l4 : Int32} {l5 : Int32} {h : q_H} {x : Unit × q_H} (hf : f249 l0 l1 l2 l3 l4 l5 h = some x) : q_Cl 249 [.ref l0, .int l1, .int l2, .int l3, .int l4, .int l5] h (.inl none) x.2 := q_Cl.of rfl (q_LvS rfl rfl) (f249_ok hf ⟨rfl, rfl⟩)
