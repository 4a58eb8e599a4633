/-! SmithyBench$Signatures.widen(LSmithyBench$Program;LSmithyBench$Program;II)I -/
theorem qk111 : q_cs.getD 111 [] = qc_111 := rfl
def f111_155 (l0 : Nat) (l1 : Nat) (l2 : Nat) (l4 : Int32) (l6 : Int32) (l7 : Int32) (l8 : Int32) (l9 : Int32) : m_M ((Nat × Nat × Nat × Int32 × Int32 × Int32 × Int32 × Int32) ⊕ Int32) :=
  m_R (.inl (l0, l1, l2, l4, l6, l7, l8, (l9 + 1)))
theorem f111_155_ok {l0 : Nat} {l1 : Nat} {l2 : Nat} {l4 : Int32} {l6 : Int32} {l7 : Int32} {l8 : Int32} {l9 : Int32} {h : q_H} {o : q_O} {hz : q_H} {x : ((Nat × Nat × Nat × Int32 × Int32 × Int32 × Int32 × Int32) ⊕ Int32) × q_H} (hf : f111_155 l0 l1 l2 l4 l6 l7 l8 l9 h = some x) (hK : (m_yK (fun (s : Nat × Nat × Nat × Int32 × Int32 × Int32 × Int32 × Int32) (h : q_H) => q_Ev none 111 54 [(0, .ref (s.1)), (1, .ref (s.2.1)), (2, .ref (s.2.2.1)), (4, .int (s.2.2.2.1)), (6, .int (s.2.2.2.2.1)), (7, .int (s.2.2.2.2.2.1)), (8, .int (s.2.2.2.2.2.2.1)), (9, .int (s.2.2.2.2.2.2.2))] [] h o hz) (q_KI o hz)) x) : q_Ev none 111 155 [(0, .ref l0), (1, .ref l1), (2, .ref l2), (4, .int l4), (6, .int l6), (7, .int l7), (8, .int l8), (9, .int l9)] [] h o hz := by
  unfold f111_155 at hf
  refine ev_inc (v := l9 + 1) (L' := [(0, .ref l0), (1, .ref l1), (2, .ref l2), (4, .int l4), (6, .int l6), (7, .int l7), (8, .int l8), (9, .int (l9 + 1))]) (q_cod qk111 rfl) (by decide) rfl rfl rfl ?_
  refine ev_goto (q_cod qk111 rfl) (by decide) ?_
  obtain rfl := m_R_inv hf
  exact (show q_Ev none 111 54 [(0, .ref l0), (1, .ref l1), (2, .ref l2), (4, .int l4), (6, .int l6), (7, .int l7), (8, .int l8), (9, .int (l9 + 1))] [] _ o hz from hK)
def f111_115 (l0 : Nat) (l1 : Nat) (l2 : Nat) (l4 : Int32) (l6 : Int32) (l7 : Int32) (l8 : Int32) (l9 : Int32) : m_M ((Nat × Nat × Nat × Int32 × Int32 × Int32 × Int32 × Int32) ⊕ Int32) :=
  m_B (m_gR 7 l1 9) (fun r1 => m_B (m_lR r1 l9) (fun r2 => m_B (m_aK l0 9) (fun _ => m_B (f112 l0 r2 l6 l4) (fun v4 => m_B (m_gR 7 l2 9) (fun r5 => m_B (m_lR r5 l9) (fun r6 => m_B (m_gR 9 l0 0) (fun r7 => m_B (m_aK r6 0) (fun _ => m_B (f7 r6 r7) (fun v9 => if v9 = 0 then (f111_155 l0 l1 l2 l4 l6 (l7 + v4) 1 l9) else (f111_155 l0 l1 l2 l4 l6 (l7 + v4) l8 l9))))))))))
theorem f111_115_ok {l0 : Nat} {l1 : Nat} {l2 : Nat} {l4 : Int32} {l6 : Int32} {l7 : Int32} {l8 : Int32} {l9 : Int32} {h : q_H} {o : q_O} {hz : q_H} {x : ((Nat × Nat × Nat × Int32 × Int32 × Int32 × Int32 × Int32) ⊕ Int32) × q_H} (hf : f111_115 l0 l1 l2 l4 l6 l7 l8 l9 h = some x) (hK : (m_yK (fun (s : Nat × Nat × Nat × Int32 × Int32 × Int32 × Int32 × Int32) (h : q_H) => q_Ev none 111 54 [(0, .ref (s.1)), (1, .ref (s.2.1)), (2, .ref (s.2.2.1)), (4, .int (s.2.2.2.1)), (6, .int (s.2.2.2.2.1)), (7, .int (s.2.2.2.2.2.1)), (8, .int (s.2.2.2.2.2.2.1)), (9, .int (s.2.2.2.2.2.2.2))] [] h o hz) (q_KI o hz)) x) : q_Ev none 111 115 [(0, .ref l0), (1, .ref l1), (2, .ref l2), (4, .int l4), (6, .int l6), (7, .int l7), (8, .int l8), (9, .int l9)] [] h o hz := by
  unfold f111_115 at hf
  refine ev_iload (q_cod qk111 rfl) (by decide) rfl ?_
  refine ev_aload_n (q_cod qk111 rfl) (by decide) rfl ?_
  refine ev_aload_n (q_cod qk111 rfl) (by decide) rfl ?_
  refine em_gR (q_cod qk111 rfl) (by decide) (by decide) hf (fun r1 hf => ?_)
  refine ev_iload (q_cod qk111 rfl) (by decide) rfl ?_
  refine em_lR (q_cod qk111 rfl) (by decide) hf (fun r2 hf => ?_)
  refine ev_iload (q_cod qk111 rfl) (by decide) rfl ?_
  refine ev_iload (q_cod qk111 rfl) (by decide) rfl ?_
  obtain ⟨g3, hf⟩ := m_aK_some hf
  refine em_call (v := (fun u => some (.int u))) (q_cod qk111 rfl) rfl rfl (q_cokV rfl rfl (Or.inr g3)) rfl (fun x e => f112_cl e) hf (fun v4 h hf => ?_)
  refine ev_iadd (q_cod qk111 rfl) (by decide) ?_
  refine ev_is2 (L' := [(0, .ref l0), (1, .ref l1), (2, .ref l2), (4, .int l4), (6, .int l6), (7, .int (l7 + v4)), (8, .int l8), (9, .int l9)]) (q_cod qk111 rfl) (by decide) rfl ?_
  refine ev_aload_n (q_cod qk111 rfl) (by decide) rfl ?_
  refine em_gR (q_cod qk111 rfl) (by decide) (by decide) hf (fun r5 hf => ?_)
  refine ev_iload (q_cod qk111 rfl) (by decide) rfl ?_
  refine em_lR (q_cod qk111 rfl) (by decide) hf (fun r6 hf => ?_)
  refine ev_aload_n (q_cod qk111 rfl) (by decide) rfl ?_
  refine em_gR (q_cod qk111 rfl) (by decide) (by decide) hf (fun r7 hf => ?_)
  obtain ⟨g8, hf⟩ := m_aK_some hf
  refine em_call (v := (fun u => some (.int u))) (q_cod qk111 rfl) rfl rfl (q_cokV rfl rfl (Or.inr g8)) rfl (fun x e => f7_cl e) hf (fun v9 h hf => ?_)
  refine em_if_ne (q_cod qk111 rfl) (by decide) hf (fun c10 hf => ?_) (fun c10 hf => ?_)
  · refine ev_ic (v := 1) (q_cod qk111 rfl) (by decide) (by decide) ?_
    refine ev_is2 (L' := [(0, .ref l0), (1, .ref l1), (2, .ref l2), (4, .int l4), (6, .int l6), (7, .int (l7 + v4)), (8, .int 1), (9, .int l9)]) (q_cod qk111 rfl) (by decide) rfl ?_
    exact (f111_155_ok hf hK)
  · exact (f111_155_ok hf hK)
def f111_106 (l0 : Nat) (l1 : Nat) (l2 : Nat) (l4 : Int32) (l6 : Int32) (l7 : Int32) (l8 : Int32) (l9 : Int32) (l10 : Int32) : m_M ((Nat × Nat × Nat × Int32 × Int32 × Int32 × Int32 × Int32) ⊕ Int32) :=
  m_B (m_aK l2 7) (fun _ => m_B (f75 l2 l9 l10 (-1)) (fun _ => f111_115 l0 l1 l2 l4 l6 l7 l8 l9))
theorem f111_106_ok {l0 : Nat} {l1 : Nat} {l2 : Nat} {l4 : Int32} {l6 : Int32} {l7 : Int32} {l8 : Int32} {l9 : Int32} {l10 : Int32} {h : q_H} {o : q_O} {hz : q_H} {x : ((Nat × Nat × Nat × Int32 × Int32 × Int32 × Int32 × Int32) ⊕ Int32) × q_H} (hf : f111_106 l0 l1 l2 l4 l6 l7 l8 l9 l10 h = some x) (hK : (m_yK (fun (s : Nat × Nat × Nat × Int32 × Int32 × Int32 × Int32 × Int32) (h : q_H) => q_Ev none 111 54 [(0, .ref (s.1)), (1, .ref (s.2.1)), (2, .ref (s.2.2.1)), (4, .int (s.2.2.2.1)), (6, .int (s.2.2.2.2.1)), (7, .int (s.2.2.2.2.2.1)), (8, .int (s.2.2.2.2.2.2.1)), (9, .int (s.2.2.2.2.2.2.2))] [] h o hz) (q_KI o hz)) x) : q_Ev none 111 106 [(0, .ref l0), (1, .ref l1), (2, .ref l2), (4, .int l4), (6, .int l6), (7, .int l7), (8, .int l8), (9, .int l9), (10, .int l10)] [] h o hz := by
  unfold f111_106 at hf
  refine ev_aload_n (q_cod qk111 rfl) (by decide) rfl ?_
  refine ev_iload (q_cod qk111 rfl) (by decide) rfl ?_
  refine ev_iload (q_cod qk111 rfl) (by decide) rfl ?_
  refine ev_ic (v := (-1)) (q_cod qk111 rfl) (by decide) (by decide) ?_
  obtain ⟨g1, hf⟩ := m_aK_some hf
  refine em_call (v := (fun _ => none)) (q_cod qk111 rfl) rfl rfl (q_cokV rfl rfl (Or.inr g1)) rfl (fun x e => f75_cl e) hf (fun _ h hf => ?_)
  exact ev_weak (q_pk [0, 1, 2, 3, 4, 5, 6, 7] rfl) (f111_115_ok hf hK)
def f111_173 (s0 : Int32) : m_M Int32 :=
  m_R s0
theorem f111_173_ok {s0 : Int32} {h : q_H} {o : q_O} {hz : q_H} {x : Int32 × q_H} (hf : f111_173 s0 h = some x) (hK : (q_KI o hz) x) : q_Ev none 111 173 [] [.int s0] h o hz := by
  unfold f111_173 at hf
  obtain rfl := m_R_inv hf
  obtain ⟨rfl, rfl⟩ := (show q_KI o hz (s0, _) from hK)
  exact ev_ret (q_cod qk111 rfl) rfl
def f111_161 (l7 : Int32) (l8 : Int32) : m_M Int32 :=
  if l8 = 0 then (f111_173 l7) else (f111_173 (-6))
theorem f111_161_ok {l7 : Int32} {l8 : Int32} {h : q_H} {o : q_O} {hz : q_H} {x : Int32 × q_H} (hf : f111_161 l7 l8 h = some x) (hK : (q_KI o hz) x) : q_Ev none 111 161 [(7, .int l7), (8, .int l8)] [] h o hz := by
  unfold f111_161 at hf
  refine ev_iload (q_cod qk111 rfl) (by decide) rfl ?_
  refine em_if_eq (q_cod qk111 rfl) (by decide) hf (fun c1 hf => ?_) (fun c1 hf => ?_)
  · refine ev_iload (q_cod qk111 rfl) (by decide) rfl ?_
    exact ev_weak (q_pk [] rfl) (f111_173_ok hf hK)
  · refine ev_bi (v := (-6)) (q_cod qk111 rfl) (by decide) (by decide) ?_
    refine ev_goto (q_cod qk111 rfl) (by decide) ?_
    exact ev_weak (q_pk [] rfl) (f111_173_ok hf hK)
def f111_54b (l0 : Nat) (l1 : Nat) (l2 : Nat) (l4 : Int32) (l6 : Int32) (l7 : Int32) (l8 : Int32) (l9 : Int32) : m_M ((Nat × Nat × Nat × Int32 × Int32 × Int32 × Int32 × Int32) ⊕ Int32) :=
  m_B (m_gI 7 l1 11) (fun v1 => if l9 < v1 then (m_B (m_aK l1 7) (fun _ => m_B (f79 l1 l9) (fun v3 => if v3 = 0 then (f111_155 l0 l1 l2 l4 l6 l7 l8 l9) else (if ((q_ush l6 l9) &&& 1) = 1 then (m_B (m_aK l1 7) (fun _ => m_B (f102 l1 l9) (fun v5 => m_B (f175 v5) (fun v6 => if v6 = (-1) then (f111_106 l0 l1 l2 l4 l6 l7 1 l9 v6) else (f111_106 l0 l1 l2 l4 l6 l7 l8 l9 v6))))) else (f111_115 l0 l1 l2 l4 l6 l7 l8 l9))))) else (m_B (f111_161 l7 l8) (fun r => m_R (.inr r))))
theorem f111_54b_ok {l0 : Nat} {l1 : Nat} {l2 : Nat} {l4 : Int32} {l6 : Int32} {l7 : Int32} {l8 : Int32} {l9 : Int32} {h : q_H} {o : q_O} {hz : q_H} {x : ((Nat × Nat × Nat × Int32 × Int32 × Int32 × Int32 × Int32) ⊕ Int32) × q_H} (hf : f111_54b l0 l1 l2 l4 l6 l7 l8 l9 h = some x) (hK : (m_yK (fun (s : Nat × Nat × Nat × Int32 × Int32 × Int32 × Int32 × Int32) (h : q_H) => q_Ev none 111 54 [(0, .ref (s.1)), (1, .ref (s.2.1)), (2, .ref (s.2.2.1)), (4, .int (s.2.2.2.1)), (6, .int (s.2.2.2.2.1)), (7, .int (s.2.2.2.2.2.1)), (8, .int (s.2.2.2.2.2.2.1)), (9, .int (s.2.2.2.2.2.2.2))] [] h o hz) (q_KI o hz)) x) : q_Ev none 111 54 [(0, .ref l0), (1, .ref l1), (2, .ref l2), (4, .int l4), (6, .int l6), (7, .int l7), (8, .int l8), (9, .int l9)] [] h o hz := by
  unfold f111_54b at hf
  refine ev_iload (q_cod qk111 rfl) (by decide) rfl ?_
  refine ev_aload_n (q_cod qk111 rfl) (by decide) rfl ?_
  refine em_gI (q_cod qk111 rfl) (by decide) (by decide) hf (fun v1 hf => ?_)
  refine em_ic_ge (q_cod qk111 rfl) (by decide) hf (fun c10 hf => ?_) (fun c10 hf => ?_)
  · refine ev_aload_n (q_cod qk111 rfl) (by decide) rfl ?_
    refine ev_iload (q_cod qk111 rfl) (by decide) rfl ?_
    obtain ⟨g2, hf⟩ := m_aK_some hf
    refine em_call (v := (fun u => some (.int u))) (q_cod qk111 rfl) rfl rfl (q_cokV rfl rfl (Or.inr g2)) rfl (fun x e => f79_cl e) hf (fun v3 h hf => ?_)
    refine em_if_ne (q_cod qk111 rfl) (by decide) hf (fun c9 hf => ?_) (fun c9 hf => ?_)
    · refine ev_goto (q_cod qk111 rfl) (by decide) ?_
      exact (f111_155_ok hf hK)
    · refine ev_iload (q_cod qk111 rfl) (by decide) rfl ?_
      refine ev_iload (q_cod qk111 rfl) (by decide) rfl ?_
      refine ev_iushr (q_cod qk111 rfl) (by decide) ?_
      refine ev_ic (v := 1) (q_cod qk111 rfl) (by decide) (by decide) ?_
      refine ev_iand (q_cod qk111 rfl) (by decide) ?_
      refine ev_ic (v := 1) (q_cod qk111 rfl) (by decide) (by decide) ?_
      refine em_ic_ne (q_cod qk111 rfl) (by decide) hf (fun c8 hf => ?_) (fun c8 hf => ?_)
      · refine ev_aload_n (q_cod qk111 rfl) (by decide) rfl ?_
        refine ev_iload (q_cod qk111 rfl) (by decide) rfl ?_
        obtain ⟨g4, hf⟩ := m_aK_some hf
        refine em_call (v := (fun u => some (.int u))) (q_cod qk111 rfl) rfl rfl (q_cokV rfl rfl (Or.inr g4)) rfl (fun x e => f102_cl e) hf (fun v5 h hf => ?_)
        refine em_call (v := (fun u => some (.int u))) (q_cod qk111 rfl) rfl rfl (q_cokS rfl rfl) rfl (fun x e => f175_cl e) hf (fun v6 h hf => ?_)
        refine ev_is2 (L' := [(0, .ref l0), (1, .ref l1), (2, .ref l2), (4, .int l4), (6, .int l6), (7, .int l7), (8, .int l8), (9, .int l9), (10, .int v6)]) (q_cod qk111 rfl) (by decide) rfl ?_
        refine ev_iload (q_cod qk111 rfl) (by decide) rfl ?_
        refine ev_ic (v := (-1)) (q_cod qk111 rfl) (by decide) (by decide) ?_
        refine em_ic_ne (q_cod qk111 rfl) (by decide) hf (fun c7 hf => ?_) (fun c7 hf => ?_)
        · refine ev_ic (v := 1) (q_cod qk111 rfl) (by decide) (by decide) ?_
          refine ev_is2 (L' := [(0, .ref l0), (1, .ref l1), (2, .ref l2), (4, .int l4), (6, .int l6), (7, .int l7), (8, .int 1), (9, .int l9), (10, .int v6)]) (q_cod qk111 rfl) (by decide) rfl ?_
          exact (f111_106_ok hf hK)
        · exact (f111_106_ok hf hK)
      · exact (f111_115_ok hf hK)
  · obtain ⟨y0, hf0, hx⟩ := m_inr_some hf
    subst hx
    exact ev_weak (q_pk [5, 6] rfl) (f111_161_ok hf0 hK)
def f111_54 (l0 : Nat) (l1 : Nat) (l2 : Nat) (l4 : Int32) (l6 : Int32) (l7 : Int32) (l8 : Int32) (l9 : Int32) : m_M Int32 := m_W (fun s => f111_54b (s.1) (s.2.1) (s.2.2.1) (s.2.2.2.1) (s.2.2.2.2.1) (s.2.2.2.2.2.1) (s.2.2.2.2.2.2.1) (s.2.2.2.2.2.2.2)) 1000000 (l0, l1, l2, l4, l6, l7, l8, l9)
theorem f111_54_ok {l0 : Nat} {l1 : Nat} {l2 : Nat} {l4 : Int32} {l6 : Int32} {l7 : Int32} {l8 : Int32} {l9 : Int32} {h : q_H} {o : q_O} {hz : q_H} {x : Int32 × q_H} (hf : f111_54 l0 l1 l2 l4 l6 l7 l8 l9 h = some x) (hK : (q_KI o hz) x) : q_Ev none 111 54 [(0, .ref l0), (1, .ref l1), (2, .ref l2), (4, .int l4), (6, .int l6), (7, .int l7), (8, .int l8), (9, .int l9)] [] h o hz :=
  m_W_ok (P := (fun (s : Nat × Nat × Nat × Int32 × Int32 × Int32 × Int32 × Int32) (h : q_H) => q_Ev none 111 54 [(0, .ref (s.1)), (1, .ref (s.2.1)), (2, .ref (s.2.2.1)), (4, .int (s.2.2.2.1)), (6, .int (s.2.2.2.2.1)), (7, .int (s.2.2.2.2.2.1)), (8, .int (s.2.2.2.2.2.2.1)), (9, .int (s.2.2.2.2.2.2.2))] [] h o hz)) (K := (q_KI o hz)) (fun s h x h1 h2 => f111_54b_ok h1 h2) _ (l0, l1, l2, l4, l6, l7, l8, l9) _ _ hf hK
def f111 (l0 : Nat) (l1 : Nat) (l2 : Nat) (l3 : Int32) (l4 : Int32) : m_M Int32 :=
  m_B (m_gR 7 l1 5) (fun r1 => m_B (m_lI r1 l3) (fun v2 => if v2 < 2 then (m_B (m_aK l1 7) (fun _ => m_B (f95 l1 l3) (fun v4 => m_B (m_gR 7 l1 4) (fun r5 => m_B (m_lI r5 l3) (fun v6 => m_B (m_aK l1 7) (fun _ => m_B (f97 l1 v4 v6 (v2 + 1)) (fun v8 => if v8 = 0 then (m_R (-1)) else (f111_54 l0 l1 l2 l4 v4 0 0 0)))))))) else (m_R (-6))))
theorem f111_ok {l0 : Nat} {l1 : Nat} {l2 : Nat} {l3 : Int32} {l4 : Int32} {h : q_H} {o : q_O} {hz : q_H} {x : Int32 × q_H} (hf : f111 l0 l1 l2 l3 l4 h = some x) (hK : (q_KI o hz) x) : q_Ev none 111 0 [(0, .ref l0), (1, .ref l1), (2, .ref l2), (3, .int l3), (4, .int l4)] [] h o hz := by
  unfold f111 at hf
  refine ev_aload_n (q_cod qk111 rfl) (by decide) rfl ?_
  refine em_gR (q_cod qk111 rfl) (by decide) (by decide) hf (fun r1 hf => ?_)
  refine ev_iload_n (q_cod qk111 rfl) (by decide) rfl ?_
  refine em_lI (q_cod qk111 rfl) (by decide) hf (fun v2 hf => ?_)
  refine ev_is2 (L' := [(0, .ref l0), (1, .ref l1), (2, .ref l2), (3, .int l3), (4, .int l4), (5, .int v2)]) (q_cod qk111 rfl) (by decide) rfl ?_
  refine ev_iload (q_cod qk111 rfl) (by decide) rfl ?_
  refine ev_ic (v := 2) (q_cod qk111 rfl) (by decide) (by decide) ?_
  refine em_ic_lt (q_cod qk111 rfl) (by decide) hf (fun c10 hf => ?_) (fun c10 hf => ?_)
  · refine ev_aload_n (q_cod qk111 rfl) (by decide) rfl ?_
    refine ev_iload_n (q_cod qk111 rfl) (by decide) rfl ?_
    obtain ⟨g3, hf⟩ := m_aK_some hf
    refine em_call (v := (fun u => some (.int u))) (q_cod qk111 rfl) rfl rfl (q_cokV rfl rfl (Or.inr g3)) rfl (fun x e => f95_cl e) hf (fun v4 h hf => ?_)
    refine ev_is2 (L' := [(0, .ref l0), (1, .ref l1), (2, .ref l2), (3, .int l3), (4, .int l4), (5, .int v2), (6, .int v4)]) (q_cod qk111 rfl) (by decide) rfl ?_
    refine ev_aload_n (q_cod qk111 rfl) (by decide) rfl ?_
    refine ev_iload (q_cod qk111 rfl) (by decide) rfl ?_
    refine ev_aload_n (q_cod qk111 rfl) (by decide) rfl ?_
    refine em_gR (q_cod qk111 rfl) (by decide) (by decide) hf (fun r5 hf => ?_)
    refine ev_iload_n (q_cod qk111 rfl) (by decide) rfl ?_
    refine em_lI (q_cod qk111 rfl) (by decide) hf (fun v6 hf => ?_)
    refine ev_iload (q_cod qk111 rfl) (by decide) rfl ?_
    refine ev_ic (v := 1) (q_cod qk111 rfl) (by decide) (by decide) ?_
    refine ev_iadd (q_cod qk111 rfl) (by decide) ?_
    obtain ⟨g7, hf⟩ := m_aK_some hf
    refine em_call (v := (fun u => some (.int u))) (q_cod qk111 rfl) rfl rfl (q_cokV rfl rfl (Or.inr g7)) rfl (fun x e => f97_cl e) hf (fun v8 h hf => ?_)
    refine em_if_ne (q_cod qk111 rfl) (by decide) hf (fun c9 hf => ?_) (fun c9 hf => ?_)
    · refine ev_ic (v := (-1)) (q_cod qk111 rfl) (by decide) (by decide) ?_
      obtain rfl := m_R_inv hf
      obtain ⟨rfl, rfl⟩ := (show q_KI o hz ((-1), _) from hK)
      exact ev_ret (q_cod qk111 rfl) rfl
    · refine ev_ic (v := 0) (q_cod qk111 rfl) (by decide) (by decide) ?_
      refine ev_is2 (L' := [(0, .ref l0), (1, .ref l1), (2, .ref l2), (3, .int l3), (4, .int l4), (5, .int v2), (6, .int v4), (7, .int 0)]) (q_cod qk111 rfl) (by decide) rfl ?_
      refine ev_ic (v := 0) (q_cod qk111 rfl) (by decide) (by decide) ?_
      refine ev_is2 (L' := [(0, .ref l0), (1, .ref l1), (2, .ref l2), (3, .int l3), (4, .int l4), (5, .int v2), (6, .int v4), (7, .int 0), (8, .int 0)]) (q_cod qk111 rfl) (by decide) rfl ?_
      refine ev_ic (v := 0) (q_cod qk111 rfl) (by decide) (by decide) ?_
      refine ev_is2 (L' := [(0, .ref l0), (1, .ref l1), (2, .ref l2), (3, .int l3), (4, .int l4), (5, .int v2), (6, .int v4), (7, .int 0), (8, .int 0), (9, .int 0)]) (q_cod qk111 rfl) (by decide) rfl ?_
      exact ev_weak (q_pk [0, 1, 2, 4, 6, 7, 8, 9] rfl) (f111_54_ok hf hK)
  · refine ev_bi (v := (-6)) (q_cod qk111 rfl) (by decide) (by decide) ?_
    obtain rfl := m_R_inv hf
    obtain ⟨rfl, rfl⟩ := (show q_KI o hz ((-6), _) from hK)
    exact ev_ret (q_cod qk111 rfl) rfl
theorem f111_cl {l0 : Nat} {l1 : Nat} {l2 : Nat} {l3 : Int32} {l4 : Int32} {h : q_H} {x : Int32 × q_H} (hf : f111 l0 l1 l2 l3 l4 h = some x) : q_Cl 111 [.ref l0, .ref l1, .ref l2, .int l3, .int l4] h (.inl (some (.int x.1))) x.2 := q_Cl.of rfl (q_LvS rfl rfl) (f111_ok hf ⟨rfl, rfl⟩)
/-! SmithyBench$Signatures.isUsed(LSmithyBench$Program;II)Z -/
theorem qk114 : q_cs.getD 114 [] = qc_114 := rfl
def f114_63 (l0 : Nat) (l1 : Int32) (l2 : Int32) (l3 : Int32) : m_M ((Nat × Int32 × Int32 × Int32) ⊕ Int32) :=
  m_R (.inl (l0, l1, l2, (l3 + 1)))
theorem f114_63_ok {l0 : Nat} {l1 : Int32} {l2 : Int32} {l3 : Int32} {h : q_H} {o : q_O} {hz : q_H} {x : ((Nat × Int32 × Int32 × Int32) ⊕ Int32) × q_H} (hf : f114_63 l0 l1 l2 l3 h = some x) (hK : (m_yK (fun (s : Nat × Int32 × Int32 × Int32) (h : q_H) => q_Ev none 114 2 [(0, .ref (s.1)), (1, .int (s.2.1)), (2, .int (s.2.2.1)), (3, .int (s.2.2.2))] [] h o hz) (q_KI o hz)) x) : q_Ev none 114 63 [(0, .ref l0), (1, .int l1), (2, .int l2), (3, .int l3)] [] h o hz := by
  unfold f114_63 at hf
  refine ev_inc (v := l3 + 1) (L' := [(0, .ref l0), (1, .int l1), (2, .int l2), (3, .int (l3 + 1))]) (q_cod qk114 rfl) (by decide) rfl rfl rfl ?_
  refine ev_goto (q_cod qk114 rfl) (by decide) ?_
  obtain rfl := m_R_inv hf
  exact (show q_Ev none 114 2 [(0, .ref l0), (1, .int l1), (2, .int l2), (3, .int (l3 + 1))] [] _ o hz from hK)
def f114_55  : m_M Int32 :=
  m_R 1
theorem f114_55_ok  {h : q_H} {o : q_O} {hz : q_H} {x : Int32 × q_H} (hf : f114_55 h = some x) (hK : (q_KI o hz) x) : q_Ev none 114 55 [] [] h o hz := by
  unfold f114_55 at hf
  refine ev_ic (v := 1) (q_cod qk114 rfl) (by decide) (by decide) ?_
  obtain rfl := m_R_inv hf
  obtain ⟨rfl, rfl⟩ := (show q_KI o hz (1, _) from hK)
  exact ev_ret (q_cod qk114 rfl) rfl
def f114_32b (l0 : Nat) (l1 : Int32) (l2 : Int32) (l3 : Int32) (l4 : Nat) (l5 : Int32) : m_M ((Nat × Int32 × Int32 × Int32 × Nat × Int32) ⊕ ((Nat × Int32 × Int32 × Int32) ⊕ Int32)) :=
  m_B (m_gI 0 l4 7) (fun v1 => if l5 < v1 then (m_B (m_aK l4 0) (fun _ => m_B (f15 l4 l5 ((-1) - l2)) (fun v3 => if v3 = 0 then (m_R (.inl (l0, l1, l2, l3, l4, (l5 + 1)))) else (m_B (m_B (f114_55) (fun r => m_R (.inr r))) (fun r => m_R (.inr r)))))) else (m_B (f114_63 l0 l1 l2 l3) (fun r => m_R (.inr r))))
theorem f114_32b_ok {l0 : Nat} {l1 : Int32} {l2 : Int32} {l3 : Int32} {l4 : Nat} {l5 : Int32} {h : q_H} {o : q_O} {hz : q_H} {x : ((Nat × Int32 × Int32 × Int32 × Nat × Int32) ⊕ ((Nat × Int32 × Int32 × Int32) ⊕ Int32)) × q_H} (hf : f114_32b l0 l1 l2 l3 l4 l5 h = some x) (hK : (m_yK (fun (s : Nat × Int32 × Int32 × Int32 × Nat × Int32) (h : q_H) => q_Ev none 114 32 [(0, .ref (s.1)), (1, .int (s.2.1)), (2, .int (s.2.2.1)), (3, .int (s.2.2.2.1)), (4, .ref (s.2.2.2.2.1)), (5, .int (s.2.2.2.2.2))] [] h o hz) (m_yK (fun (s : Nat × Int32 × Int32 × Int32) (h : q_H) => q_Ev none 114 2 [(0, .ref (s.1)), (1, .int (s.2.1)), (2, .int (s.2.2.1)), (3, .int (s.2.2.2))] [] h o hz) (q_KI o hz))) x) : q_Ev none 114 32 [(0, .ref l0), (1, .int l1), (2, .int l2), (3, .int l3), (4, .ref l4), (5, .int l5)] [] h o hz := by
  unfold f114_32b at hf
  refine ev_iload (q_cod qk114 rfl) (by decide) rfl ?_
  refine ev_aload (q_cod qk114 rfl) (by decide) rfl ?_
  refine em_gI (q_cod qk114 rfl) (by decide) (by decide) hf (fun v1 hf => ?_)
  refine em_ic_ge (q_cod qk114 rfl) (by decide) hf (fun c5 hf => ?_) (fun c5 hf => ?_)
  · refine ev_aload (q_cod qk114 rfl) (by decide) rfl ?_
    refine ev_iload (q_cod qk114 rfl) (by decide) rfl ?_
    refine ev_ic (v := (-1)) (q_cod qk114 rfl) (by decide) (by decide) ?_
    refine ev_iload_n (q_cod qk114 rfl) (by decide) rfl ?_
    refine ev_isub (q_cod qk114 rfl) (by decide) ?_
    obtain ⟨g2, hf⟩ := m_aK_some hf
    refine em_call (v := (fun u => some (.int u))) (q_cod qk114 rfl) rfl rfl (q_cokV rfl rfl (Or.inr g2)) rfl (fun x e => f15_cl e) hf (fun v3 h hf => ?_)
    refine em_if_eq (q_cod qk114 rfl) (by decide) hf (fun c4 hf => ?_) (fun c4 hf => ?_)
    · refine ev_inc (v := l5 + 1) (L' := [(0, .ref l0), (1, .int l1), (2, .int l2), (3, .int l3), (4, .ref l4), (5, .int (l5 + 1))]) (q_cod qk114 rfl) (by decide) rfl rfl rfl ?_
      refine ev_goto (q_cod qk114 rfl) (by decide) ?_
      obtain rfl := m_R_inv hf
      exact (show q_Ev none 114 32 [(0, .ref l0), (1, .int l1), (2, .int l2), (3, .int l3), (4, .ref l4), (5, .int (l5 + 1))] [] _ o hz from hK)
    · obtain ⟨y0, hf0, hx⟩ := m_inr_some hf
      subst hx
      obtain ⟨y1, hf1, hx⟩ := m_inr_some hf0
      subst hx
      exact ev_weak (q_pk [] rfl) (f114_55_ok hf1 hK)
  · obtain ⟨y0, hf0, hx⟩ := m_inr_some hf
    subst hx
    exact ev_weak (q_pk [0, 1, 2, 3] rfl) (f114_63_ok hf0 hK)
def f114_32 (l0 : Nat) (l1 : Int32) (l2 : Int32) (l3 : Int32) (l4 : Nat) (l5 : Int32) : m_M ((Nat × Int32 × Int32 × Int32) ⊕ Int32) := m_W (fun s => f114_32b (s.1) (s.2.1) (s.2.2.1) (s.2.2.2.1) (s.2.2.2.2.1) (s.2.2.2.2.2)) 1000000 (l0, l1, l2, l3, l4, l5)
theorem f114_32_ok {l0 : Nat} {l1 : Int32} {l2 : Int32} {l3 : Int32} {l4 : Nat} {l5 : Int32} {h : q_H} {o : q_O} {hz : q_H} {x : ((Nat × Int32 × Int32 × Int32) ⊕ Int32) × q_H} (hf : f114_32 l0 l1 l2 l3 l4 l5 h = some x) (hK : (m_yK (fun (s : Nat × Int32 × Int32 × Int32) (h : q_H) => q_Ev none 114 2 [(0, .ref (s.1)), (1, .int (s.2.1)), (2, .int (s.2.2.1)), (3, .int (s.2.2.2))] [] h o hz) (q_KI o hz)) x) : q_Ev none 114 32 [(0, .ref l0), (1, .int l1), (2, .int l2), (3, .int l3), (4, .ref l4), (5, .int l5)] [] h o hz :=
  m_W_ok (P := (fun (s : Nat × Int32 × Int32 × Int32 × Nat × Int32) (h : q_H) => q_Ev none 114 32 [(0, .ref (s.1)), (1, .int (s.2.1)), (2, .int (s.2.2.1)), (3, .int (s.2.2.2.1)), (4, .ref (s.2.2.2.2.1)), (5, .int (s.2.2.2.2.2))] [] h o hz)) (K := (m_yK (fun (s : Nat × Int32 × Int32 × Int32) (h : q_H) => q_Ev none 114 2 [(0, .ref (s.1)), (1, .int (s.2.1)), (2, .int (s.2.2.1)), (3, .int (s.2.2.2))] [] h o hz) (q_KI o hz))) (fun s h x h1 h2 => f114_32b_ok h1 h2) _ (l0, l1, l2, l3, l4, l5) _ _ hf hK
def f114_69  : m_M Int32 :=
  m_R 0
theorem f114_69_ok  {h : q_H} {o : q_O} {hz : q_H} {x : Int32 × q_H} (hf : f114_69 h = some x) (hK : (q_KI o hz) x) : q_Ev none 114 69 [] [] h o hz := by
  unfold f114_69 at hf
  refine ev_ic (v := 0) (q_cod qk114 rfl) (by decide) (by decide) ?_
  obtain rfl := m_R_inv hf
  obtain ⟨rfl, rfl⟩ := (show q_KI o hz (0, _) from hK)
  exact ev_ret (q_cod qk114 rfl) rfl
def f114_2b (l0 : Nat) (l1 : Int32) (l2 : Int32) (l3 : Int32) : m_M ((Nat × Int32 × Int32 × Int32) ⊕ Int32) :=
  m_B (m_gI 7 l0 11) (fun v1 => if l3 < v1 then (if ((q_ush l1 l3) &&& 1) = 0 then (f114_63 l0 l1 l2 l3) else (m_B (m_gR 7 l0 9) (fun r2 => m_B (m_lR r2 l3) (fun r3 => f114_32 l0 l1 l2 l3 r3 0)))) else (m_B (f114_69) (fun r => m_R (.inr r))))
theorem f114_2b_ok {l0 : Nat} {l1 : Int32} {l2 : Int32} {l3 : Int32} {h : q_H} {o : q_O} {hz : q_H} {x : ((Nat × Int32 × Int32 × Int32) ⊕ Int32) × q_H} (hf : f114_2b l0 l1 l2 l3 h = some x) (hK : (m_yK (fun (s : Nat × Int32 × Int32 × Int32) (h : q_H) => q_Ev none 114 2 [(0, .ref (s.1)), (1, .int (s.2.1)), (2, .int (s.2.2.1)), (3, .int (s.2.2.2))] [] h o hz) (q_KI o hz)) x) : q_Ev none 114 2 [(0, .ref l0), (1, .int l1), (2, .int l2), (3, .int l3)] [] h o hz := by
  unfold f114_2b at hf
  refine ev_iload_n (q_cod qk114 rfl) (by decide) rfl ?_
  refine ev_aload_n (q_cod qk114 rfl) (by decide) rfl ?_
  refine em_gI (q_cod qk114 rfl) (by decide) (by decide) hf (fun v1 hf => ?_)
  refine em_ic_ge (q_cod qk114 rfl) (by decide) hf (fun c5 hf => ?_) (fun c5 hf => ?_)
  · refine ev_iload_n (q_cod qk114 rfl) (by decide) rfl ?_
    refine ev_iload_n (q_cod qk114 rfl) (by decide) rfl ?_
    refine ev_iushr (q_cod qk114 rfl) (by decide) ?_
    refine ev_ic (v := 1) (q_cod qk114 rfl) (by decide) (by decide) ?_
    refine ev_iand (q_cod qk114 rfl) (by decide) ?_
    refine em_if_ne (q_cod qk114 rfl) (by decide) hf (fun c4 hf => ?_) (fun c4 hf => ?_)
    · refine ev_goto (q_cod qk114 rfl) (by decide) ?_
      exact (f114_63_ok hf hK)
    · refine ev_aload_n (q_cod qk114 rfl) (by decide) rfl ?_
      refine em_gR (q_cod qk114 rfl) (by decide) (by decide) hf (fun r2 hf => ?_)
      refine ev_iload_n (q_cod qk114 rfl) (by decide) rfl ?_
      refine em_lR (q_cod qk114 rfl) (by decide) hf (fun r3 hf => ?_)
      refine ev_as2 (L' := [(0, .ref l0), (1, .int l1), (2, .int l2), (3, .int l3), (4, .ref r3)]) (q_cod qk114 rfl) (by decide) rfl ?_
      refine ev_ic (v := 0) (q_cod qk114 rfl) (by decide) (by decide) ?_
      refine ev_is2 (L' := [(0, .ref l0), (1, .int l1), (2, .int l2), (3, .int l3), (4, .ref r3), (5, .int 0)]) (q_cod qk114 rfl) (by decide) rfl ?_
      exact (f114_32_ok hf hK)
  · obtain ⟨y0, hf0, hx⟩ := m_inr_some hf
    subst hx
    exact ev_weak (q_pk [] rfl) (f114_69_ok hf0 hK)
def f114_2 (l0 : Nat) (l1 : Int32) (l2 : Int32) (l3 : Int32) : m_M Int32 := m_W (fun s => f114_2b (s.1) (s.2.1) (s.2.2.1) (s.2.2.2)) 1000000 (l0, l1, l2, l3)
theorem f114_2_ok {l0 : Nat} {l1 : Int32} {l2 : Int32} {l3 : Int32} {h : q_H} {o : q_O} {hz : q_H} {x : Int32 × q_H} (hf : f114_2 l0 l1 l2 l3 h = some x) (hK : (q_KI o hz) x) : q_Ev none 114 2 [(0, .ref l0), (1, .int l1), (2, .int l2), (3, .int l3)] [] h o hz :=
  m_W_ok (P := (fun (s : Nat × Int32 × Int32 × Int32) (h : q_H) => q_Ev none 114 2 [(0, .ref (s.1)), (1, .int (s.2.1)), (2, .int (s.2.2.1)), (3, .int (s.2.2.2))] [] h o hz)) (K := (q_KI o hz)) (fun s h x h1 h2 => f114_2b_ok h1 h2) _ (l0, l1, l2, l3) _ _ hf hK
def f114 (l0 : Nat) (l1 : Int32) (l2 : Int32) : m_M Int32 :=
  f114_2 l0 l1 l2 0
theorem f114_ok {l0 : Nat} {l1 : Int32} {l2 : Int32} {h : q_H} {o : q_O} {hz : q_H} {x : Int32 × q_H} (hf : f114 l0 l1 l2 h = some x) (hK : (q_KI o hz) x) : q_Ev none 114 0 [(0, .ref l0), (1, .int l1), (2, .int l2)] [] h o hz := by
  unfold f114 at hf
  refine ev_ic (v := 0) (q_cod qk114 rfl) (by decide) (by decide) ?_
  refine ev_is1 (L' := [(0, .ref l0), (1, .int l1), (2, .int l2), (3, .int 0)]) (q_cod qk114 rfl) (by decide) rfl ?_
  exact (f114_2_ok hf hK)
theorem f114_cl {l0 : Nat} {l1 : Int32} {l2 : Int32} {h : q_H} {x : Int32 × q_H} (hf : f114 l0 l1 l2 h = some x) : q_Cl 114 [.ref l0, .int l1, .int l2] h (.inl (some (.int x.1))) x.2 := q_Cl.of rfl (q_LvS rfl rfl) (f114_ok hf ⟨rfl, rfl⟩)
/-! SmithyBench$Signatures.isPlain(LSmithyBench$Body;I)Z -/
theorem qk116 : q_cs.getD 116 [] = qc_116 := rfl
def f116_78 (l0 : Nat) (l1 : Int32) (l2 : Int32) : m_M ((Nat × Int32 × Int32) ⊕ Int32) :=
  m_R (.inl (l0, l1, (l2 + 1)))
theorem f116_78_ok {l0 : Nat} {l1 : Int32} {l2 : Int32} {h : q_H} {o : q_O} {hz : q_H} {x : ((Nat × Int32 × Int32) ⊕ Int32) × q_H} (hf : f116_78 l0 l1 l2 h = some x) (hK : (m_yK (fun (s : Nat × Int32 × Int32) (h : q_H) => q_Ev none 116 2 [(0, .ref (s.1)), (1, .int (s.2.1)), (2, .int (s.2.2))] [] h o hz) (q_KI o hz)) x) : q_Ev none 116 78 [(0, .ref l0), (1, .int l1), (2, .int l2)] [] h o hz := by
  unfold f116_78 at hf
  refine ev_inc (v := l2 + 1) (L' := [(0, .ref l0), (1, .int l1), (2, .int (l2 + 1))]) (q_cod qk116 rfl) (by decide) rfl rfl rfl ?_
  refine ev_goto (q_cod qk116 rfl) (by decide) ?_
  obtain rfl := m_R_inv hf
  exact (show q_Ev none 116 2 [(0, .ref l0), (1, .int l1), (2, .int (l2 + 1))] [] _ o hz from hK)
def f116_76  : m_M Int32 :=
  m_R 0
theorem f116_76_ok  {h : q_H} {o : q_O} {hz : q_H} {x : Int32 × q_H} (hf : f116_76 h = some x) (hK : (q_KI o hz) x) : q_Ev none 116 76 [] [] h o hz := by
  unfold f116_76 at hf
  refine ev_ic (v := 0) (q_cod qk116 rfl) (by decide) (by decide) ?_
  obtain rfl := m_R_inv hf
  obtain ⟨rfl, rfl⟩ := (show q_KI o hz (0, _) from hK)
  exact ev_ret (q_cod qk116 rfl) rfl
def f116_58 (l0 : Nat) (l1 : Int32) (l2 : Int32) (l3 : Int32) (l4 : Int32) (s0 : Int32) : m_M ((Nat × Int32 × Int32) ⊕ Int32) :=
  if l4 = 0 then (if s0 = 0 then (if l3 = 11 then (f116_78 l0 l1 l2) else (m_B (f116_76) (fun r => m_R (.inr r)))) else (f116_78 l0 l1 l2)) else (f116_78 l0 l1 l2)
theorem f116_58_ok {l0 : Nat} {l1 : Int32} {l2 : Int32} {l3 : Int32} {l4 : Int32} {s0 : Int32} {h : q_H} {o : q_O} {hz : q_H} {x : ((Nat × Int32 × Int32) ⊕ Int32) × q_H} (hf : f116_58 l0 l1 l2 l3 l4 s0 h = some x) (hK : (m_yK (fun (s : Nat × Int32 × Int32) (h : q_H) => q_Ev none 116 2 [(0, .ref (s.1)), (1, .int (s.2.1)), (2, .int (s.2.2))] [] h o hz) (q_KI o hz)) x) : q_Ev none 116 58 [(0, .ref l0), (1, .int l1), (2, .int l2), (3, .int l3), (4, .int l4)] [.int s0] h o hz := by
  unfold f116_58 at hf
  refine ev_is2 (L' := [(0, .ref l0), (1, .int l1), (2, .int l2), (3, .int l3), (4, .int l4), (5, .int s0)]) (q_cod qk116 rfl) (by decide) rfl ?_
  refine ev_iload (q_cod qk116 rfl) (by decide) rfl ?_
  refine em_if_ne (q_cod qk116 rfl) (by decide) hf (fun c3 hf => ?_) (fun c3 hf => ?_)
  · refine ev_iload (q_cod qk116 rfl) (by decide) rfl ?_
    refine em_if_ne (q_cod qk116 rfl) (by decide) hf (fun c2 hf => ?_) (fun c2 hf => ?_)
    · refine ev_iload_n (q_cod qk116 rfl) (by decide) rfl ?_
      refine ev_bi (v := 11) (q_cod qk116 rfl) (by decide) (by decide) ?_
      refine em_ic_eq (q_cod qk116 rfl) (by decide) hf (fun c1 hf => ?_) (fun c1 hf => ?_)
      · exact ev_weak (q_pk [0, 1, 2] rfl) (f116_78_ok hf hK)
      · obtain ⟨y0, hf0, hx⟩ := m_inr_some hf
        subst hx
        exact ev_weak (q_pk [] rfl) (f116_76_ok hf0 hK)
    · exact ev_weak (q_pk [0, 1, 2] rfl) (f116_78_ok hf hK)
  · exact ev_weak (q_pk [0, 1, 2] rfl) (f116_78_ok hf hK)
def f116_57 (l0 : Nat) (l1 : Int32) (l2 : Int32) (l3 : Int32) (l4 : Int32) : m_M ((Nat × Int32 × Int32) ⊕ Int32) :=
  f116_58 l0 l1 l2 l3 l4 0
theorem f116_57_ok {l0 : Nat} {l1 : Int32} {l2 : Int32} {l3 : Int32} {l4 : Int32} {h : q_H} {o : q_O} {hz : q_H} {x : ((Nat × Int32 × Int32) ⊕ Int32) × q_H} (hf : f116_57 l0 l1 l2 l3 l4 h = some x) (hK : (m_yK (fun (s : Nat × Int32 × Int32) (h : q_H) => q_Ev none 116 2 [(0, .ref (s.1)), (1, .int (s.2.1)), (2, .int (s.2.2))] [] h o hz) (q_KI o hz)) x) : q_Ev none 116 57 [(0, .ref l0), (1, .int l1), (2, .int l2), (3, .int l3), (4, .int l4)] [] h o hz := by
  unfold f116_57 at hf
  refine ev_ic (v := 0) (q_cod qk116 rfl) (by decide) (by decide) ?_
  exact (f116_58_ok hf hK)
def f116_38 (l0 : Nat) (l1 : Int32) (l2 : Int32) (l3 : Int32) (s0 : Int32) : m_M ((Nat × Int32 × Int32) ⊕ Int32) :=
  if l3 = 3 then (m_B (m_aK l0 0) (fun _ => m_B (f18 l0 l2) (fun v2 => if v2 = 0 then (f116_57 l0 l1 l2 l3 s0) else (f116_58 l0 l1 l2 l3 s0 1)))) else (f116_57 l0 l1 l2 l3 s0)
theorem f116_38_ok {l0 : Nat} {l1 : Int32} {l2 : Int32} {l3 : Int32} {s0 : Int32} {h : q_H} {o : q_O} {hz : q_H} {x : ((Nat × Int32 × Int32) ⊕ Int32) × q_H} (hf : f116_38 l0 l1 l2 l3 s0 h = some x) (hK : (m_yK (fun (s : Nat × Int32 × Int32) (h : q_H) => q_Ev none 116 2 [(0, .ref (s.1)), (1, .int (s.2.1)), (2, .int (s.2.2))] [] h o hz) (q_KI o hz)) x) : q_Ev none 116 38 [(0, .ref l0), (1, .int l1), (2, .int l2), (3, .int l3)] [.int s0] h o hz := by
  unfold f116_38 at hf
  refine ev_is2 (L' := [(0, .ref l0), (1, .int l1), (2, .int l2), (3, .int l3), (4, .int s0)]) (q_cod qk116 rfl) (by decide) rfl ?_
  refine ev_iload_n (q_cod qk116 rfl) (by decide) rfl ?_
  refine ev_ic (v := 3) (q_cod qk116 rfl) (by decide) (by decide) ?_
  refine em_ic_ne (q_cod qk116 rfl) (by decide) hf (fun c4 hf => ?_) (fun c4 hf => ?_)
  · refine ev_aload_n (q_cod qk116 rfl) (by decide) rfl ?_
    refine ev_iload_n (q_cod qk116 rfl) (by decide) rfl ?_
    obtain ⟨g1, hf⟩ := m_aK_some hf
    refine em_call (v := (fun u => some (.int u))) (q_cod qk116 rfl) rfl rfl (q_cokV rfl rfl (Or.inr g1)) rfl (fun x e => f18_cl e) hf (fun v2 h hf => ?_)
    refine em_if_eq (q_cod qk116 rfl) (by decide) hf (fun c3 hf => ?_) (fun c3 hf => ?_)
    · exact (f116_57_ok hf hK)
    · refine ev_ic (v := 1) (q_cod qk116 rfl) (by decide) (by decide) ?_
      refine ev_goto (q_cod qk116 rfl) (by decide) ?_
      exact (f116_58_ok hf hK)
  · exact (f116_57_ok hf hK)
def f116_33 (l0 : Nat) (l1 : Int32) (l2 : Int32) (l3 : Int32) : m_M ((Nat × Int32 × Int32) ⊕ Int32) :=
  f116_38 l0 l1 l2 l3 1
theorem f116_33_ok {l0 : Nat} {l1 : Int32} {l2 : Int32} {l3 : Int32} {h : q_H} {o : q_O} {hz : q_H} {x : ((Nat × Int32 × Int32) ⊕ Int32) × q_H} (hf : f116_33 l0 l1 l2 l3 h = some x) (hK : (m_yK (fun (s : Nat × Int32 × Int32) (h : q_H) => q_Ev none 116 2 [(0, .ref (s.1)), (1, .int (s.2.1)), (2, .int (s.2.2))] [] h o hz) (q_KI o hz)) x) : q_Ev none 116 33 [(0, .ref l0), (1, .int l1), (2, .int l2), (3, .int l3)] [] h o hz := by
  unfold f116_33 at hf
  refine ev_ic (v := 1) (q_cod qk116 rfl) (by decide) (by decide) ?_
  refine ev_goto (q_cod qk116 rfl) (by decide) ?_
  exact (f116_38_ok hf hK)
def f116_84  : m_M Int32 :=
  m_R 1
theorem f116_84_ok  {h : q_H} {o : q_O} {hz : q_H} {x : Int32 × q_H} (hf : f116_84 h = some x) (hK : (q_KI o hz) x) : q_Ev none 116 84 [] [] h o hz := by
  unfold f116_84 at hf
  refine ev_ic (v := 1) (q_cod qk116 rfl) (by decide) (by decide) ?_
  obtain rfl := m_R_inv hf
  obtain ⟨rfl, rfl⟩ := (show q_KI o hz (1, _) from hK)
  exact ev_ret (q_cod qk116 rfl) rfl
def f116_2b (l0 : Nat) (l1 : Int32) (l2 : Int32) : m_M ((Nat × Int32 × Int32) ⊕ Int32) :=
  m_B (m_gR 0 l0 3) (fun r1 => m_B (m_lI r1 l1) (fun v2 => if l2 < v2 then (m_B (m_gR 0 l0 0) (fun r3 => m_B (m_lI r3 l2) (fun v4 => if v4 = 0 then (f116_33 l0 l1 l2 v4) else (if v4 = 1 then (f116_33 l0 l1 l2 v4) else (if v4 = 2 then (f116_33 l0 l1 l2 v4) else (f116_38 l0 l1 l2 v4 0)))))) else (m_B (f116_84) (fun r => m_R (.inr r)))))
theorem f116_2b_ok {l0 : Nat} {l1 : Int32} {l2 : Int32} {h : q_H} {o : q_O} {hz : q_H} {x : ((Nat × Int32 × Int32) ⊕ Int32) × q_H} (hf : f116_2b l0 l1 l2 h = some x) (hK : (m_yK (fun (s : Nat × Int32 × Int32) (h : q_H) => q_Ev none 116 2 [(0, .ref (s.1)), (1, .int (s.2.1)), (2, .int (s.2.2))] [] h o hz) (q_KI o hz)) x) : q_Ev none 116 2 [(0, .ref l0), (1, .int l1), (2, .int l2)] [] h o hz := by
  unfold f116_2b at hf
  refine ev_iload_n (q_cod qk116 rfl) (by decide) rfl ?_
  refine ev_aload_n (q_cod qk116 rfl) (by decide) rfl ?_
  refine em_gR (q_cod qk116 rfl) (by decide) (by decide) hf (fun r1 hf => ?_)
  refine ev_iload_n (q_cod qk116 rfl) (by decide) rfl ?_
  refine em_lI (q_cod qk116 rfl) (by decide) hf (fun v2 hf => ?_)
  refine em_ic_ge (q_cod qk116 rfl) (by decide) hf (fun c8 hf => ?_) (fun c8 hf => ?_)
  · refine ev_aload_n (q_cod qk116 rfl) (by decide) rfl ?_
    refine em_gR (q_cod qk116 rfl) (by decide) (by decide) hf (fun r3 hf => ?_)
    refine ev_iload_n (q_cod qk116 rfl) (by decide) rfl ?_
    refine em_lI (q_cod qk116 rfl) (by decide) hf (fun v4 hf => ?_)
    refine ev_is1 (L' := [(0, .ref l0), (1, .int l1), (2, .int l2), (3, .int v4)]) (q_cod qk116 rfl) (by decide) rfl ?_
    refine ev_iload_n (q_cod qk116 rfl) (by decide) rfl ?_
    refine em_if_eq (q_cod qk116 rfl) (by decide) hf (fun c7 hf => ?_) (fun c7 hf => ?_)
    · exact (f116_33_ok hf hK)
    · refine ev_iload_n (q_cod qk116 rfl) (by decide) rfl ?_
      refine ev_ic (v := 1) (q_cod qk116 rfl) (by decide) (by decide) ?_
      refine em_ic_eq (q_cod qk116 rfl) (by decide) hf (fun c6 hf => ?_) (fun c6 hf => ?_)
      · exact (f116_33_ok hf hK)
      · refine ev_iload_n (q_cod qk116 rfl) (by decide) rfl ?_
        refine ev_ic (v := 2) (q_cod qk116 rfl) (by decide) (by decide) ?_
        refine em_ic_ne (q_cod qk116 rfl) (by decide) hf (fun c5 hf => ?_) (fun c5 hf => ?_)
        · exact (f116_33_ok hf hK)
        · refine ev_ic (v := 0) (q_cod qk116 rfl) (by decide) (by decide) ?_
          exact (f116_38_ok hf hK)
  · obtain ⟨y0, hf0, hx⟩ := m_inr_some hf
    subst hx
    exact ev_weak (q_pk [] rfl) (f116_84_ok hf0 hK)
def f116_2 (l0 : Nat) (l1 : Int32) (l2 : Int32) : m_M Int32 := m_W (fun s => f116_2b (s.1) (s.2.1) (s.2.2)) 1000000 (l0, l1, l2)
theorem f116_2_ok {l0 : Nat} {l1 : Int32} {l2 : Int32} {h : q_H} {o : q_O} {hz : q_H} {x : Int32 × q_H} (hf : f116_2 l0 l1 l2 h = some x) (hK : (q_KI o hz) x) : q_Ev none 116 2 [(0, .ref l0), (1, .int l1), (2, .int l2)] [] h o hz :=
  m_W_ok (P := (fun (s : Nat × Int32 × Int32) (h : q_H) => q_Ev none 116 2 [(0, .ref (s.1)), (1, .int (s.2.1)), (2, .int (s.2.2))] [] h o hz)) (K := (q_KI o hz)) (fun s h x h1 h2 => f116_2b_ok h1 h2) _ (l0, l1, l2) _ _ hf hK
def f116 (l0 : Nat) (l1 : Int32) : m_M Int32 :=
  f116_2 l0 l1 l1
theorem f116_ok {l0 : Nat} {l1 : Int32} {h : q_H} {o : q_O} {hz : q_H} {x : Int32 × q_H} (hf : f116 l0 l1 h = some x) (hK : (q_KI o hz) x) : q_Ev none 116 0 [(0, .ref l0), (1, .int l1)] [] h o hz := by
  unfold f116 at hf
  refine ev_iload_n (q_cod qk116 rfl) (by decide) rfl ?_
  refine ev_is1 (L' := [(0, .ref l0), (1, .int l1), (2, .int l1)]) (q_cod qk116 rfl) (by decide) rfl ?_
  exact (f116_2_ok hf hK)
theorem f116_cl {l0 : Nat} {l1 : Int32} {h : q_H} {x : Int32 × q_H} (hf : f116 l0 l1 h = some x) : q_Cl 116 [.ref l0, .int l1] h (.inl (some (.int x.1))) x.2 := q_Cl.of rfl (q_LvS rfl rfl) (f116_ok hf ⟨rfl, rfl⟩)
/-! SmithyBench$Signatures.hasEffect(LSmithyBench$Program;II)Z -/
theorem qk115 : q_cs.getD 115 [] = qc_115 := rfl
def f115_79 (l0 : Nat) (l1 : Int32) (l2 : Int32) (l3 : Int32) : m_M ((Nat × Int32 × Int32 × Int32) ⊕ Int32) :=
  m_R (.inl (l0, l1, l2, (l3 + 1)))
theorem f115_79_ok {l0 : Nat} {l1 : Int32} {l2 : Int32} {l3 : Int32} {h : q_H} {o : q_O} {hz : q_H} {x : ((Nat × Int32 × Int32 × Int32) ⊕ Int32) × q_H} (hf : f115_79 l0 l1 l2 l3 h = some x) (hK : (m_yK (fun (s : Nat × Int32 × Int32 × Int32) (h : q_H) => q_Ev none 115 2 [(0, .ref (s.1)), (1, .int (s.2.1)), (2, .int (s.2.2.1)), (3, .int (s.2.2.2))] [] h o hz) (q_KI o hz)) x) : q_Ev none 115 79 [(0, .ref l0), (1, .int l1), (2, .int l2), (3, .int l3)] [] h o hz := by
  unfold f115_79 at hf
  refine ev_inc (v := l3 + 1) (L' := [(0, .ref l0), (1, .int l1), (2, .int l2), (3, .int (l3 + 1))]) (q_cod qk115 rfl) (by decide) rfl rfl rfl ?_
  refine ev_goto (q_cod qk115 rfl) (by decide) ?_
  obtain rfl := m_R_inv hf
  exact (show q_Ev none 115 2 [(0, .ref l0), (1, .int l1), (2, .int l2), (3, .int (l3 + 1))] [] _ o hz from hK)
def f115_73 (l0 : Nat) (l1 : Int32) (l2 : Int32) (l3 : Int32) (l4 : Nat) (l5 : Int32) : m_M ((Nat × Int32 × Int32 × Int32 × Nat × Int32) ⊕ ((Nat × Int32 × Int32 × Int32) ⊕ Int32)) :=
  m_R (.inl (l0, l1, l2, l3, l4, (l5 + 1)))
theorem f115_73_ok {l0 : Nat} {l1 : Int32} {l2 : Int32} {l3 : Int32} {l4 : Nat} {l5 : Int32} {h : q_H} {o : q_O} {hz : q_H} {x : ((Nat × Int32 × Int32 × Int32 × Nat × Int32) ⊕ ((Nat × Int32 × Int32 × Int32) ⊕ Int32)) × q_H} (hf : f115_73 l0 l1 l2 l3 l4 l5 h = some x) (hK : (m_yK (fun (s : Nat × Int32 × Int32 × Int32 × Nat × Int32) (h : q_H) => q_Ev none 115 32 [(0, .ref (s.1)), (1, .int (s.2.1)), (2, .int (s.2.2.1)), (3, .int (s.2.2.2.1)), (4, .ref (s.2.2.2.2.1)), (5, .int (s.2.2.2.2.2))] [] h o hz) (m_yK (fun (s : Nat × Int32 × Int32 × Int32) (h : q_H) => q_Ev none 115 2 [(0, .ref (s.1)), (1, .int (s.2.1)), (2, .int (s.2.2.1)), (3, .int (s.2.2.2))] [] h o hz) (q_KI o hz))) x) : q_Ev none 115 73 [(0, .ref l0), (1, .int l1), (2, .int l2), (3, .int l3), (4, .ref l4), (5, .int l5)] [] h o hz := by
  unfold f115_73 at hf
  refine ev_inc (v := l5 + 1) (L' := [(0, .ref l0), (1, .int l1), (2, .int l2), (3, .int l3), (4, .ref l4), (5, .int (l5 + 1))]) (q_cod qk115 rfl) (by decide) rfl rfl rfl ?_
  refine ev_goto (q_cod qk115 rfl) (by decide) ?_
  obtain rfl := m_R_inv hf
  exact (show q_Ev none 115 32 [(0, .ref l0), (1, .int l1), (2, .int l2), (3, .int l3), (4, .ref l4), (5, .int (l5 + 1))] [] _ o hz from hK)
def f115_71  : m_M Int32 :=
  m_R 1
theorem f115_71_ok  {h : q_H} {o : q_O} {hz : q_H} {x : Int32 × q_H} (hf : f115_71 h = some x) (hK : (q_KI o hz) x) : q_Ev none 115 71 [] [] h o hz := by
  unfold f115_71 at hf
  refine ev_ic (v := 1) (q_cod qk115 rfl) (by decide) (by decide) ?_
  obtain rfl := m_R_inv hf
  obtain ⟨rfl, rfl⟩ := (show q_KI o hz (1, _) from hK)
  exact ev_ret (q_cod qk115 rfl) rfl
def f115_32b (l0 : Nat) (l1 : Int32) (l2 : Int32) (l3 : Int32) (l4 : Nat) (l5 : Int32) : m_M ((Nat × Int32 × Int32 × Int32 × Nat × Int32) ⊕ ((Nat × Int32 × Int32 × Int32) ⊕ Int32)) :=
  m_B (m_gI 0 l4 7) (fun v1 => if l5 < v1 then (m_B (m_aK l4 0) (fun _ => m_B (f17 l4 l5 l1) (fun v3 => if v3 = 0 then (f115_73 l0 l1 l2 l3 l4 l5) else (m_B (m_aK l4 0) (fun _ => m_B (f9 l4 l5 (1 + l2)) (fun v5 => m_B (f116 l4 v5) (fun v6 => if v6 = 0 then (m_B (m_B (f115_71) (fun r => m_R (.inr r))) (fun r => m_R (.inr r))) else (f115_73 l0 l1 l2 l3 l4 l5)))))))) else (m_B (f115_79 l0 l1 l2 l3) (fun r => m_R (.inr r))))
theorem f115_32b_ok {l0 : Nat} {l1 : Int32} {l2 : Int32} {l3 : Int32} {l4 : Nat} {l5 : Int32} {h : q_H} {o : q_O} {hz : q_H} {x : ((Nat × Int32 × Int32 × Int32 × Nat × Int32) ⊕ ((Nat × Int32 × Int32 × Int32) ⊕ Int32)) × q_H} (hf : f115_32b l0 l1 l2 l3 l4 l5 h = some x) (hK : (m_yK (fun (s : Nat × Int32 × Int32 × Int32 × Nat × Int32) (h : q_H) => q_Ev none 115 32 [(0, .ref (s.1)), (1, .int (s.2.1)), (2, .int (s.2.2.1)), (3, .int (s.2.2.2.1)), (4, .ref (s.2.2.2.2.1)), (5, .int (s.2.2.2.2.2))] [] h o hz) (m_yK (fun (s : Nat × Int32 × Int32 × Int32) (h : q_H) => q_Ev none 115 2 [(0, .ref (s.1)), (1, .int (s.2.1)), (2, .int (s.2.2.1)), (3, .int (s.2.2.2))] [] h o hz) (q_KI o hz))) x) : q_Ev none 115 32 [(0, .ref l0), (1, .int l1), (2, .int l2), (3, .int l3), (4, .ref l4), (5, .int l5)] [] h o hz := by
  unfold f115_32b at hf
  refine ev_iload (q_cod qk115 rfl) (by decide) rfl ?_
  refine ev_aload (q_cod qk115 rfl) (by decide) rfl ?_
  refine em_gI (q_cod qk115 rfl) (by decide) (by decide) hf (fun v1 hf => ?_)
  refine em_ic_ge (q_cod qk115 rfl) (by decide) hf (fun c9 hf => ?_) (fun c9 hf => ?_)
  · refine ev_aload (q_cod qk115 rfl) (by decide) rfl ?_
    refine ev_iload (q_cod qk115 rfl) (by decide) rfl ?_
    refine ev_iload_n (q_cod qk115 rfl) (by decide) rfl ?_
    obtain ⟨g2, hf⟩ := m_aK_some hf
    refine em_call (v := (fun u => some (.int u))) (q_cod qk115 rfl) rfl rfl (q_cokV rfl rfl (Or.inr g2)) rfl (fun x e => f17_cl e) hf (fun v3 h hf => ?_)
    refine em_if_eq (q_cod qk115 rfl) (by decide) hf (fun c8 hf => ?_) (fun c8 hf => ?_)
    · exact (f115_73_ok hf hK)
    · refine ev_aload (q_cod qk115 rfl) (by decide) rfl ?_
      refine ev_aload (q_cod qk115 rfl) (by decide) rfl ?_
      refine ev_iload (q_cod qk115 rfl) (by decide) rfl ?_
      refine ev_ic (v := 1) (q_cod qk115 rfl) (by decide) (by decide) ?_
      refine ev_iload_n (q_cod qk115 rfl) (by decide) rfl ?_
      refine ev_iadd (q_cod qk115 rfl) (by decide) ?_
      obtain ⟨g4, hf⟩ := m_aK_some hf
      refine em_call (v := (fun u => some (.int u))) (q_cod qk115 rfl) rfl rfl (q_cokV rfl rfl (Or.inr g4)) rfl (fun x e => f9_cl e) hf (fun v5 h hf => ?_)
      refine em_call (v := (fun u => some (.int u))) (q_cod qk115 rfl) rfl rfl (q_cokS rfl rfl) rfl (fun x e => f116_cl e) hf (fun v6 h hf => ?_)
      refine em_if_ne (q_cod qk115 rfl) (by decide) hf (fun c7 hf => ?_) (fun c7 hf => ?_)
      · obtain ⟨y0, hf0, hx⟩ := m_inr_some hf
        subst hx
        obtain ⟨y1, hf1, hx⟩ := m_inr_some hf0
        subst hx
        exact ev_weak (q_pk [] rfl) (f115_71_ok hf1 hK)
      · exact (f115_73_ok hf hK)
  · obtain ⟨y0, hf0, hx⟩ := m_inr_some hf
    subst hx
    exact ev_weak (q_pk [0, 1, 2, 3] rfl) (f115_79_ok hf0 hK)
def f115_32 (l0 : Nat) (l1 : Int32) (l2 : Int32) (l3 : Int32) (l4 : Nat) (l5 : Int32) : m_M ((Nat × Int32 × Int32 × Int32) ⊕ Int32) := m_W (fun s => f115_32b (s.1) (s.2.1) (s.2.2.1) (s.2.2.2.1) (s.2.2.2.2.1) (s.2.2.2.2.2)) 1000000 (l0, l1, l2, l3, l4, l5)
theorem f115_32_ok {l0 : Nat} {l1 : Int32} {l2 : Int32} {l3 : Int32} {l4 : Nat} {l5 : Int32} {h : q_H} {o : q_O} {hz : q_H} {x : ((Nat × Int32 × Int32 × Int32) ⊕ Int32) × q_H} (hf : f115_32 l0 l1 l2 l3 l4 l5 h = some x) (hK : (m_yK (fun (s : Nat × Int32 × Int32 × Int32) (h : q_H) => q_Ev none 115 2 [(0, .ref (s.1)), (1, .int (s.2.1)), (2, .int (s.2.2.1)), (3, .int (s.2.2.2))] [] h o hz) (q_KI o hz)) x) : q_Ev none 115 32 [(0, .ref l0), (1, .int l1), (2, .int l2), (3, .int l3), (4, .ref l4), (5, .int l5)] [] h o hz :=
  m_W_ok (P := (fun (s : Nat × Int32 × Int32 × Int32 × Nat × Int32) (h : q_H) => q_Ev none 115 32 [(0, .ref (s.1)), (1, .int (s.2.1)), (2, .int (s.2.2.1)), (3, .int (s.2.2.2.1)), (4, .ref (s.2.2.2.2.1)), (5, .int (s.2.2.2.2.2))] [] h o hz)) (K := (m_yK (fun (s : Nat × Int32 × Int32 × Int32) (h : q_H) => q_Ev none 115 2 [(0, .ref (s.1)), (1, .int (s.2.1)), (2, .int (s.2.2.1)), (3, .int (s.2.2.2))] [] h o hz) (q_KI o hz))) (fun s h x h1 h2 => f115_32b_ok h1 h2) _ (l0, l1, l2, l3, l4, l5) _ _ hf hK
def f115_85  : m_M Int32 :=
  m_R 0
theorem f115_85_ok  {h : q_H} {o : q_O} {hz : q_H} {x : Int32 × q_H} (hf : f115_85 h = some x) (hK : (q_KI o hz) x) : q_Ev none 115 85 [] [] h o hz := by
  unfold f115_85 at hf
  refine ev_ic (v := 0) (q_cod qk115 rfl) (by decide) (by decide) ?_
  obtain rfl := m_R_inv hf
  obtain ⟨rfl, rfl⟩ := (show q_KI o hz (0, _) from hK)
  exact ev_ret (q_cod qk115 rfl) rfl
def f115_2b (l0 : Nat) (l1 : Int32) (l2 : Int32) (l3 : Int32) : m_M ((Nat × Int32 × Int32 × Int32) ⊕ Int32) :=
  m_B (m_gI 7 l0 11) (fun v1 => if l3 < v1 then (m_B (m_aK l0 7) (fun _ => m_B (f79 l0 l3) (fun v3 => if v3 = 0 then (f115_79 l0 l1 l2 l3) else (m_B (m_gR 7 l0 9) (fun r4 => m_B (m_lR r4 l3) (fun r5 => f115_32 l0 l1 l2 l3 r5 0)))))) else (m_B (f115_85) (fun r => m_R (.inr r))))
theorem f115_2b_ok {l0 : Nat} {l1 : Int32} {l2 : Int32} {l3 : Int32} {h : q_H} {o : q_O} {hz : q_H} {x : ((Nat × Int32 × Int32 × Int32) ⊕ Int32) × q_H} (hf : f115_2b l0 l1 l2 l3 h = some x) (hK : (m_yK (fun (s : Nat × Int32 × Int32 × Int32) (h : q_H) => q_Ev none 115 2 [(0, .ref (s.1)), (1, .int (s.2.1)), (2, .int (s.2.2.1)), (3, .int (s.2.2.2))] [] h o hz) (q_KI o hz)) x) : q_Ev none 115 2 [(0, .ref l0), (1, .int l1), (2, .int l2), (3, .int l3)] [] h o hz := by
  unfold f115_2b at hf
  refine ev_iload_n (q_cod qk115 rfl) (by decide) rfl ?_
  refine ev_aload_n (q_cod qk115 rfl) (by decide) rfl ?_
  refine em_gI (q_cod qk115 rfl) (by decide) (by decide) hf (fun v1 hf => ?_)
  refine em_ic_ge (q_cod qk115 rfl) (by decide) hf (fun c7 hf => ?_) (fun c7 hf => ?_)
  · refine ev_aload_n (q_cod qk115 rfl) (by decide) rfl ?_
    refine ev_iload_n (q_cod qk115 rfl) (by decide) rfl ?_
    obtain ⟨g2, hf⟩ := m_aK_some hf
    refine em_call (v := (fun u => some (.int u))) (q_cod qk115 rfl) rfl rfl (q_cokV rfl rfl (Or.inr g2)) rfl (fun x e => f79_cl e) hf (fun v3 h hf => ?_)
    refine em_if_ne (q_cod qk115 rfl) (by decide) hf (fun c6 hf => ?_) (fun c6 hf => ?_)
    · refine ev_goto (q_cod qk115 rfl) (by decide) ?_
      exact (f115_79_ok hf hK)
    · refine ev_aload_n (q_cod qk115 rfl) (by decide) rfl ?_
      refine em_gR (q_cod qk115 rfl) (by decide) (by decide) hf (fun r4 hf => ?_)
      refine ev_iload_n (q_cod qk115 rfl) (by decide) rfl ?_
      refine em_lR (q_cod qk115 rfl) (by decide) hf (fun r5 hf => ?_)
      refine ev_as2 (L' := [(0, .ref l0), (1, .int l1), (2, .int l2), (3, .int l3), (4, .ref r5)]) (q_cod qk115 rfl) (by decide) rfl ?_
      refine ev_ic (v := 0) (q_cod qk115 rfl) (by decide) (by decide) ?_
      refine ev_is2 (L' := [(0, .ref l0), (1, .int l1), (2, .int l2), (3, .int l3), (4, .ref r5), (5, .int 0)]) (q_cod qk115 rfl) (by decide) rfl ?_
      exact (f115_32_ok hf hK)
  · obtain ⟨y0, hf0, hx⟩ := m_inr_some hf
    subst hx
    exact ev_weak (q_pk [] rfl) (f115_85_ok hf0 hK)
def f115_2 (l0 : Nat) (l1 : Int32) (l2 : Int32) (l3 : Int32) : m_M Int32 := m_W (fun s => f115_2b (s.1) (s.2.1) (s.2.2.1) (s.2.2.2)) 1000000 (l0, l1, l2, l3)
theorem f115_2_ok {l0 : Nat} {l1 : Int32} {l2 : Int32} {l3 : Int32} {h : q_H} {o : q_O} {hz : q_H} {x : Int32 × q_H} (hf : f115_2 l0 l1 l2 l3 h = some x) (hK : (q_KI o hz) x) : q_Ev none 115 2 [(0, .ref l0), (1, .int l1), (2, .int l2), (3, .int l3)] [] h o hz :=
  m_W_ok (P := (fun (s : Nat × Int32 × Int32 × Int32) (h : q_H) => q_Ev none 115 2 [(0, .ref (s.1)), (1, .int (s.2.1)), (2, .int (s.2.2.1)), (3, .int (s.2.2.2))] [] h o hz)) (K := (q_KI o hz)) (fun s h x h1 h2 => f115_2b_ok h1 h2) _ (l0, l1, l2, l3) _ _ hf hK
def f115 (l0 : Nat) (l1 : Int32) (l2 : Int32) : m_M Int32 :=
  f115_2 l0 l1 l2 0
theorem f115_ok {l0 : Nat} {l1 : Int32} {l2 : Int32} {h : q_H} {o : q_O} {hz : q_H} {x : Int32 × q_H} (hf : f115 l0 l1 l2 h = some x) (hK : (q_KI o hz) x) : q_Ev none 115 0 [(0, .ref l0), (1, .int l1), (2, .int l2)] [] h o hz := by
  unfold f115 at hf
  refine ev_ic (v := 0) (q_cod qk115 rfl) (by decide) (by decide) ?_
  refine ev_is1 (L' := [(0, .ref l0), (1, .int l1), (2, .int l2), (3, .int 0)]) (q_cod qk115 rfl) (by decide) rfl ?_
  exact (f115_2_ok hf hK)
theorem f115_cl {l0 : Nat} {l1 : Int32} {l2 : Int32} {h : q_H} {x : Int32 × q_H} (hf : f115 l0 l1 l2 h = some x) : q_Cl 115 [.ref l0, .int l1, .int l2] h (.inl (some (.int x.1))) x.2 := q_Cl.of rfl (q_LvS rfl rfl) (f115_ok hf ⟨rfl, rfl⟩)
/-! SmithyBench$Signatures.isDropped(LSmithyBench$Body;III)Z -/
theorem qk118 : q_cs.getD 118 [] = qc_118 := rfl
def f118_34 (l0 : Nat) (l1 : Int32) (l2 : Int32) (l3 : Int32) (l4 : Int32) : m_M ((Nat × Int32 × Int32 × Int32 × Int32) ⊕ Int32) :=
  m_R (.inl (l0, l1, l2, l3, (l4 + 1)))
theorem f118_34_ok {l0 : Nat} {l1 : Int32} {l2 : Int32} {l3 : Int32} {l4 : Int32} {h : q_H} {o : q_O} {hz : q_H} {x : ((Nat × Int32 × Int32 × Int32 × Int32) ⊕ Int32) × q_H} (hf : f118_34 l0 l1 l2 l3 l4 h = some x) (hK : (m_yK (fun (s : Nat × Int32 × Int32 × Int32 × Int32) (h : q_H) => q_Ev none 118 3 [(0, .ref (s.1)), (1, .int (s.2.1)), (2, .int (s.2.2.1)), (3, .int (s.2.2.2.1)), (4, .int (s.2.2.2.2))] [] h o hz) (q_KI o hz)) x) : q_Ev none 118 34 [(0, .ref l0), (1, .int l1), (2, .int l2), (3, .int l3), (4, .int l4)] [] h o hz := by
  unfold f118_34 at hf
  refine ev_inc (v := l4 + 1) (L' := [(0, .ref l0), (1, .int l1), (2, .int l2), (3, .int l3), (4, .int (l4 + 1))]) (q_cod qk118 rfl) (by decide) rfl rfl rfl ?_
  refine ev_goto (q_cod qk118 rfl) (by decide) ?_
  obtain rfl := m_R_inv hf
  exact (show q_Ev none 118 3 [(0, .ref l0), (1, .int l1), (2, .int l2), (3, .int l3), (4, .int (l4 + 1))] [] _ o hz from hK)
def f118_32  : m_M Int32 :=
  m_R 1
theorem f118_32_ok  {h : q_H} {o : q_O} {hz : q_H} {x : Int32 × q_H} (hf : f118_32 h = some x) (hK : (q_KI o hz) x) : q_Ev none 118 32 [] [] h o hz := by
  unfold f118_32 at hf
  refine ev_ic (v := 1) (q_cod qk118 rfl) (by decide) (by decide) ?_
  obtain rfl := m_R_inv hf
  obtain ⟨rfl, rfl⟩ := (show q_KI o hz (1, _) from hK)
  exact ev_ret (q_cod qk118 rfl) rfl
def f118_40  : m_M Int32 :=
  m_R 0
theorem f118_40_ok  {h : q_H} {o : q_O} {hz : q_H} {x : Int32 × q_H} (hf : f118_40 h = some x) (hK : (q_KI o hz) x) : q_Ev none 118 40 [] [] h o hz := by
  unfold f118_40 at hf
  refine ev_ic (v := 0) (q_cod qk118 rfl) (by decide) (by decide) ?_
  obtain rfl := m_R_inv hf
  obtain ⟨rfl, rfl⟩ := (show q_KI o hz (0, _) from hK)
  exact ev_ret (q_cod qk118 rfl) rfl
def f118_3b (l0 : Nat) (l1 : Int32) (l2 : Int32) (l3 : Int32) (l4 : Int32) : m_M ((Nat × Int32 × Int32 × Int32 × Int32) ⊕ Int32) :=
  if l4 < l1 then (m_B (m_aK l0 0) (fun _ => m_B (f17 l0 l4 l2) (fun v2 => if v2 = 0 then (f118_34 l0 l1 l2 l3 l4) else (m_B (m_aK l0 0) (fun _ => m_B (f9 l0 l4 (1 + l3)) (fun v4 => if v4 = l1 then (m_B (f118_32) (fun r => m_R (.inr r))) else (f118_34 l0 l1 l2 l3 l4))))))) else (m_B (f118_40) (fun r => m_R (.inr r)))
theorem f118_3b_ok {l0 : Nat} {l1 : Int32} {l2 : Int32} {l3 : Int32} {l4 : Int32} {h : q_H} {o : q_O} {hz : q_H} {x : ((Nat × Int32 × Int32 × Int32 × Int32) ⊕ Int32) × q_H} (hf : f118_3b l0 l1 l2 l3 l4 h = some x) (hK : (m_yK (fun (s : Nat × Int32 × Int32 × Int32 × Int32) (h : q_H) => q_Ev none 118 3 [(0, .ref (s.1)), (1, .int (s.2.1)), (2, .int (s.2.2.1)), (3, .int (s.2.2.2.1)), (4, .int (s.2.2.2.2))] [] h o hz) (q_KI o hz)) x) : q_Ev none 118 3 [(0, .ref l0), (1, .int l1), (2, .int l2), (3, .int l3), (4, .int l4)] [] h o hz := by
  unfold f118_3b at hf
  refine ev_iload (q_cod qk118 rfl) (by decide) rfl ?_
  refine ev_iload_n (q_cod qk118 rfl) (by decide) rfl ?_
  refine em_ic_ge (q_cod qk118 rfl) (by decide) hf (fun c7 hf => ?_) (fun c7 hf => ?_)
  · refine ev_aload_n (q_cod qk118 rfl) (by decide) rfl ?_
    refine ev_iload (q_cod qk118 rfl) (by decide) rfl ?_
    refine ev_iload_n (q_cod qk118 rfl) (by decide) rfl ?_
    obtain ⟨g1, hf⟩ := m_aK_some hf
    refine em_call (v := (fun u => some (.int u))) (q_cod qk118 rfl) rfl rfl (q_cokV rfl rfl (Or.inr g1)) rfl (fun x e => f17_cl e) hf (fun v2 h hf => ?_)
    refine em_if_eq (q_cod qk118 rfl) (by decide) hf (fun c6 hf => ?_) (fun c6 hf => ?_)
    · exact (f118_34_ok hf hK)
    · refine ev_aload_n (q_cod qk118 rfl) (by decide) rfl ?_
      refine ev_iload (q_cod qk118 rfl) (by decide) rfl ?_
      refine ev_ic (v := 1) (q_cod qk118 rfl) (by decide) (by decide) ?_
      refine ev_iload_n (q_cod qk118 rfl) (by decide) rfl ?_
      refine ev_iadd (q_cod qk118 rfl) (by decide) ?_
      obtain ⟨g3, hf⟩ := m_aK_some hf
      refine em_call (v := (fun u => some (.int u))) (q_cod qk118 rfl) rfl rfl (q_cokV rfl rfl (Or.inr g3)) rfl (fun x e => f9_cl e) hf (fun v4 h hf => ?_)
      refine ev_iload_n (q_cod qk118 rfl) (by decide) rfl ?_
      refine em_ic_ne (q_cod qk118 rfl) (by decide) hf (fun c5 hf => ?_) (fun c5 hf => ?_)
      · obtain ⟨y0, hf0, hx⟩ := m_inr_some hf
        subst hx
        exact ev_weak (q_pk [] rfl) (f118_32_ok hf0 hK)
      · exact (f118_34_ok hf hK)
  · obtain ⟨y0, hf0, hx⟩ := m_inr_some hf
    subst hx
    exact ev_weak (q_pk [] rfl) (f118_40_ok hf0 hK)
def f118_3 (l0 : Nat) (l1 : Int32) (l2 : Int32) (l3 : Int32) (l4 : Int32) : m_M Int32 := m_W (fun s => f118_3b (s.1) (s.2.1) (s.2.2.1) (s.2.2.2.1) (s.2.2.2.2)) 1000000 (l0, l1, l2, l3, l4)
theorem f118_3_ok {l0 : Nat} {l1 : Int32} {l2 : Int32} {l3 : Int32} {l4 : Int32} {h : q_H} {o : q_O} {hz : q_H} {x : Int32 × q_H} (hf : f118_3 l0 l1 l2 l3 l4 h = some x) (hK : (q_KI o hz) x) : q_Ev none 118 3 [(0, .ref l0), (1, .int l1), (2, .int l2), (3, .int l3), (4, .int l4)] [] h o hz :=
  m_W_ok (P := (fun (s : Nat × Int32 × Int32 × Int32 × Int32) (h : q_H) => q_Ev none 118 3 [(0, .ref (s.1)), (1, .int (s.2.1)), (2, .int (s.2.2.1)), (3, .int (s.2.2.2.1)), (4, .int (s.2.2.2.2))] [] h o hz)) (K := (q_KI o hz)) (fun s h x h1 h2 => f118_3b_ok h1 h2) _ (l0, l1, l2, l3, l4) _ _ hf hK
def f118 (l0 : Nat) (l1 : Int32) (l2 : Int32) (l3 : Int32) : m_M Int32 :=
  f118_3 l0 l1 l2 l3 0
theorem f118_ok {l0 : Nat} {l1 : Int32} {l2 : Int32} {l3 : Int32} {h : q_H} {o : q_O} {hz : q_H} {x : Int32 × q_H} (hf : f118 l0 l1 l2 l3 h = some x) (hK : (q_KI o hz) x) : q_Ev none 118 0 [(0, .ref l0), (1, .int l1), (2, .int l2), (3, .int l3)] [] h o hz := by
  unfold f118 at hf
  refine ev_ic (v := 0) (q_cod qk118 rfl) (by decide) (by decide) ?_
  refine ev_is2 (L' := [(0, .ref l0), (1, .int l1), (2, .int l2), (3, .int l3), (4, .int 0)]) (q_cod qk118 rfl) (by decide) rfl ?_
  exact (f118_3_ok hf hK)
theorem f118_cl {l0 : Nat} {l1 : Int32} {l2 : Int32} {l3 : Int32} {h : q_H} {x : Int32 × q_H} (hf : f118 l0 l1 l2 l3 h = some x) : q_Cl 118 [.ref l0, .int l1, .int l2, .int l3] h (.inl (some (.int x.1))) x.2 := q_Cl.of rfl (q_LvS rfl rfl) (f118_ok hf ⟨rfl, rfl⟩)
/-! SmithyBench$Signatures.shorten(LSmithyBench$Body;II)I -/
theorem qk117 : q_cs.getD 117 [] = qc_117 := rfl
def f117_114 (l0 : Nat) (l1 : Nat) (l2 : Int32) (l3 : Int32) (l4 : Int32) (l5 : Int32) (l6 : Int32) : m_M ((Nat × Nat × Int32 × Int32 × Int32 × Int32 × Int32) ⊕ Int32) :=
  m_R (.inl (l0, l1, l2, l3, l4, l5, (l6 + 1)))
theorem f117_114_ok {l0 : Nat} {l1 : Nat} {l2 : Int32} {l3 : Int32} {l4 : Int32} {l5 : Int32} {l6 : Int32} {h : q_H} {o : q_O} {hz : q_H} {x : ((Nat × Nat × Int32 × Int32 × Int32 × Int32 × Int32) ⊕ Int32) × q_H} (hf : f117_114 l0 l1 l2 l3 l4 l5 l6 h = some x) (hK : (m_yK (fun (s : Nat × Nat × Int32 × Int32 × Int32 × Int32 × Int32) (h : q_H) => q_Ev none 117 16 [(0, .ref (s.1)), (1, .ref (s.2.1)), (2, .int (s.2.2.1)), (3, .int (s.2.2.2.1)), (4, .int (s.2.2.2.2.1)), (5, .int (s.2.2.2.2.2.1)), (6, .int (s.2.2.2.2.2.2))] [] h o hz) (q_KI o hz)) x) : q_Ev none 117 114 [(0, .ref l0), (1, .ref l1), (2, .int l2), (3, .int l3), (4, .int l4), (5, .int l5), (6, .int l6)] [] h o hz := by
  unfold f117_114 at hf
  refine ev_inc (v := l6 + 1) (L' := [(0, .ref l0), (1, .ref l1), (2, .int l2), (3, .int l3), (4, .int l4), (5, .int l5), (6, .int (l6 + 1))]) (q_cod qk117 rfl) (by decide) rfl rfl rfl ?_
  refine ev_goto (q_cod qk117 rfl) (by decide) ?_
  obtain rfl := m_R_inv hf
  exact (show q_Ev none 117 16 [(0, .ref l0), (1, .ref l1), (2, .int l2), (3, .int l3), (4, .int l4), (5, .int l5), (6, .int (l6 + 1))] [] _ o hz from hK)
def f117_110 (l0 : Nat) (l1 : Nat) (l2 : Int32) (l3 : Int32) (l4 : Int32) (l5 : Int32) (l6 : Int32) (s0 : Nat) (s1 : Int32) (s2 : Int32) (s3 : Int32) (s4 : Int32) : m_M ((Nat × Nat × Int32 × Int32 × Int32 × Int32 × Int32) ⊕ Int32) :=
  m_B (m_aK s0 0) (fun _ => m_B (f2 s0 s1 s2 (s3 - s4)) (fun _ => f117_114 l0 l1 l2 l3 l4 l5 l6))
theorem f117_110_ok {l0 : Nat} {l1 : Nat} {l2 : Int32} {l3 : Int32} {l4 : Int32} {l5 : Int32} {l6 : Int32} {s0 : Nat} {s1 : Int32} {s2 : Int32} {s3 : Int32} {s4 : Int32} {h : q_H} {o : q_O} {hz : q_H} {x : ((Nat × Nat × Int32 × Int32 × Int32 × Int32 × Int32) ⊕ Int32) × q_H} (hf : f117_110 l0 l1 l2 l3 l4 l5 l6 s0 s1 s2 s3 s4 h = some x) (hK : (m_yK (fun (s : Nat × Nat × Int32 × Int32 × Int32 × Int32 × Int32) (h : q_H) => q_Ev none 117 16 [(0, .ref (s.1)), (1, .ref (s.2.1)), (2, .int (s.2.2.1)), (3, .int (s.2.2.2.1)), (4, .int (s.2.2.2.2.1)), (5, .int (s.2.2.2.2.2.1)), (6, .int (s.2.2.2.2.2.2))] [] h o hz) (q_KI o hz)) x) : q_Ev none 117 110 [(0, .ref l0), (1, .ref l1), (2, .int l2), (3, .int l3), (4, .int l4), (5, .int l5), (6, .int l6)] [.int s4, .int s3, .int s2, .int s1, .ref s0] h o hz := by
  unfold f117_110 at hf
  refine ev_isub (q_cod qk117 rfl) (by decide) ?_
  obtain ⟨g1, hf⟩ := m_aK_some hf
  refine em_call (v := (fun _ => none)) (q_cod qk117 rfl) rfl rfl (q_cokV rfl rfl (Or.inr g1)) rfl (fun x e => f2_cl e) hf (fun _ h hf => ?_)
  exact (f117_114_ok hf hK)
def f117_75 (l0 : Nat) (l1 : Nat) (l2 : Int32) (l3 : Int32) (l4 : Int32) (l5 : Int32) (l6 : Int32) (l7 : Int32) : m_M ((Nat × Nat × Int32 × Int32 × Int32 × Int32 × Int32) ⊕ Int32) :=
  m_B (m_gR 9 l0 0) (fun r1 => m_B (m_gR 0 l1 0) (fun r2 => m_B (m_lI r2 l6) (fun v3 => m_B (m_gR 0 l1 1) (fun r4 => m_B (m_lI r4 l6) (fun v5 => m_B (m_gR 0 l1 2) (fun r6 => m_B (m_lI r6 l6) (fun v7 => if l7 = 0 then (f117_110 l0 l1 l2 l3 l4 l5 l6 r1 v3 v5 v7 0) else (f117_110 l0 l1 l2 l3 l4 l5 l6 r1 v3 v5 v7 1))))))))
theorem f117_75_ok {l0 : Nat} {l1 : Nat} {l2 : Int32} {l3 : Int32} {l4 : Int32} {l5 : Int32} {l6 : Int32} {l7 : Int32} {h : q_H} {o : q_O} {hz : q_H} {x : ((Nat × Nat × Int32 × Int32 × Int32 × Int32 × Int32) ⊕ Int32) × q_H} (hf : f117_75 l0 l1 l2 l3 l4 l5 l6 l7 h = some x) (hK : (m_yK (fun (s : Nat × Nat × Int32 × Int32 × Int32 × Int32 × Int32) (h : q_H) => q_Ev none 117 16 [(0, .ref (s.1)), (1, .ref (s.2.1)), (2, .int (s.2.2.1)), (3, .int (s.2.2.2.1)), (4, .int (s.2.2.2.2.1)), (5, .int (s.2.2.2.2.2.1)), (6, .int (s.2.2.2.2.2.2))] [] h o hz) (q_KI o hz)) x) : q_Ev none 117 75 [(0, .ref l0), (1, .ref l1), (2, .int l2), (3, .int l3), (4, .int l4), (5, .int l5), (6, .int l6), (7, .int l7)] [] h o hz := by
  unfold f117_75 at hf
  refine ev_aload_n (q_cod qk117 rfl) (by decide) rfl ?_
  refine em_gR (q_cod qk117 rfl) (by decide) (by decide) hf (fun r1 hf => ?_)
  refine ev_aload_n (q_cod qk117 rfl) (by decide) rfl ?_
  refine em_gR (q_cod qk117 rfl) (by decide) (by decide) hf (fun r2 hf => ?_)
  refine ev_iload (q_cod qk117 rfl) (by decide) rfl ?_
  refine em_lI (q_cod qk117 rfl) (by decide) hf (fun v3 hf => ?_)
  refine ev_aload_n (q_cod qk117 rfl) (by decide) rfl ?_
  refine em_gR (q_cod qk117 rfl) (by decide) (by decide) hf (fun r4 hf => ?_)
  refine ev_iload (q_cod qk117 rfl) (by decide) rfl ?_
  refine em_lI (q_cod qk117 rfl) (by decide) hf (fun v5 hf => ?_)
  refine ev_aload_n (q_cod qk117 rfl) (by decide) rfl ?_
  refine em_gR (q_cod qk117 rfl) (by decide) (by decide) hf (fun r6 hf => ?_)
  refine ev_iload (q_cod qk117 rfl) (by decide) rfl ?_
  refine em_lI (q_cod qk117 rfl) (by decide) hf (fun v7 hf => ?_)
  refine ev_iload (q_cod qk117 rfl) (by decide) rfl ?_
  refine em_if_eq (q_cod qk117 rfl) (by decide) hf (fun c8 hf => ?_) (fun c8 hf => ?_)
  · refine ev_ic (v := 0) (q_cod qk117 rfl) (by decide) (by decide) ?_
    exact ev_weak (q_pk [0, 1, 2, 3, 4, 5, 6] rfl) (f117_110_ok hf hK)
  · refine ev_ic (v := 1) (q_cod qk117 rfl) (by decide) (by decide) ?_
    refine ev_goto (q_cod qk117 rfl) (by decide) ?_
    exact ev_weak (q_pk [0, 1, 2, 3, 4, 5, 6] rfl) (f117_110_ok hf hK)
def f117_120 (l4 : Int32) : m_M Int32 :=
  m_R l4
theorem f117_120_ok {l4 : Int32} {h : q_H} {o : q_O} {hz : q_H} {x : Int32 × q_H} (hf : f117_120 l4 h = some x) (hK : (q_KI o hz) x) : q_Ev none 117 120 [(4, .int l4)] [] h o hz := by
  unfold f117_120 at hf
  refine ev_iload (q_cod qk117 rfl) (by decide) rfl ?_
  obtain rfl := m_R_inv hf
  obtain ⟨rfl, rfl⟩ := (show q_KI o hz (l4, _) from hK)
  exact ev_ret (q_cod qk117 rfl) rfl
def f117_16b (l0 : Nat) (l1 : Nat) (l2 : Int32) (l3 : Int32) (l4 : Int32) (l5 : Int32) (l6 : Int32) : m_M ((Nat × Nat × Int32 × Int32 × Int32 × Int32 × Int32) ⊕ Int32) :=
  m_B (m_gI 0 l1 7) (fun v1 => if l6 < v1 then (if l6 < l5 then (f117_114 l0 l1 l2 l3 l4 l5 l6) else (m_B (f118 l1 l6 l2 l3) (fun v2 => if v2 = 0 then (m_B (m_aK l1 0) (fun _ => m_B (f17 l1 l6 l2) (fun v4 => if v4 = 0 then (f117_75 l0 l1 l2 l3 l4 l5 l6 v4) else (f117_75 l0 l1 l2 l3 (l4 + 1) l5 l6 v4)))) else (m_B (m_gR 0 l1 3) (fun r6 => m_B (m_lI r6 l6) (fun v7 => f117_114 l0 l1 l2 l3 l4 v7 l6)))))) else (m_B (f117_120 l4) (fun r => m_R (.inr r))))
theorem f117_16b_ok {l0 : Nat} {l1 : Nat} {l2 : Int32} {l3 : Int32} {l4 : Int32} {l5 : Int32} {l6 : Int32} {h : q_H} {o : q_O} {hz : q_H} {x : ((Nat × Nat × Int32 × Int32 × Int32 × Int32 × Int32) ⊕ Int32) × q_H} (hf : f117_16b l0 l1 l2 l3 l4 l5 l6 h = some x) (hK : (m_yK (fun (s : Nat × Nat × Int32 × Int32 × Int32 × Int32 × Int32) (h : q_H) => q_Ev none 117 16 [(0, .ref (s.1)), (1, .ref (s.2.1)), (2, .int (s.2.2.1)), (3, .int (s.2.2.2.1)), (4, .int (s.2.2.2.2.1)), (5, .int (s.2.2.2.2.2.1)), (6, .int (s.2.2.2.2.2.2))] [] h o hz) (q_KI o hz)) x) : q_Ev none 117 16 [(0, .ref l0), (1, .ref l1), (2, .int l2), (3, .int l3), (4, .int l4), (5, .int l5), (6, .int l6)] [] h o hz := by
  unfold f117_16b at hf
  refine ev_iload (q_cod qk117 rfl) (by decide) rfl ?_
  refine ev_aload_n (q_cod qk117 rfl) (by decide) rfl ?_
  refine em_gI (q_cod qk117 rfl) (by decide) (by decide) hf (fun v1 hf => ?_)
  refine em_ic_ge (q_cod qk117 rfl) (by decide) hf (fun c10 hf => ?_) (fun c10 hf => ?_)
  · refine ev_iload (q_cod qk117 rfl) (by decide) rfl ?_
    refine ev_iload (q_cod qk117 rfl) (by decide) rfl ?_
    refine em_ic_ge (q_cod qk117 rfl) (by decide) hf (fun c9 hf => ?_) (fun c9 hf => ?_)
    · refine ev_goto (q_cod qk117 rfl) (by decide) ?_
      exact (f117_114_ok hf hK)
    · refine ev_aload_n (q_cod qk117 rfl) (by decide) rfl ?_
      refine ev_iload (q_cod qk117 rfl) (by decide) rfl ?_
      refine ev_iload_n (q_cod qk117 rfl) (by decide) rfl ?_
      refine ev_iload_n (q_cod qk117 rfl) (by decide) rfl ?_
      refine em_call (v := (fun u => some (.int u))) (q_cod qk117 rfl) rfl rfl (q_cokS rfl rfl) rfl (fun x e => f118_cl e) hf (fun v2 h hf => ?_)
      refine em_if_eq (q_cod qk117 rfl) (by decide) hf (fun c8 hf => ?_) (fun c8 hf => ?_)
      · refine ev_aload_n (q_cod qk117 rfl) (by decide) rfl ?_
        refine ev_iload (q_cod qk117 rfl) (by decide) rfl ?_
        refine ev_iload_n (q_cod qk117 rfl) (by decide) rfl ?_
        obtain ⟨g3, hf⟩ := m_aK_some hf
        refine em_call (v := (fun u => some (.int u))) (q_cod qk117 rfl) rfl rfl (q_cokV rfl rfl (Or.inr g3)) rfl (fun x e => f17_cl e) hf (fun v4 h hf => ?_)
        refine ev_is2 (L' := [(0, .ref l0), (1, .ref l1), (2, .int l2), (3, .int l3), (4, .int l4), (5, .int l5), (6, .int l6), (7, .int v4)]) (q_cod qk117 rfl) (by decide) rfl ?_
        refine ev_iload (q_cod qk117 rfl) (by decide) rfl ?_
        refine em_if_eq (q_cod qk117 rfl) (by decide) hf (fun c5 hf => ?_) (fun c5 hf => ?_)
        · exact (f117_75_ok hf hK)
        · refine ev_inc (v := l4 + 1) (L' := [(0, .ref l0), (1, .ref l1), (2, .int l2), (3, .int l3), (4, .int (l4 + 1)), (5, .int l5), (6, .int l6), (7, .int v4)]) (q_cod qk117 rfl) (by decide) rfl rfl rfl ?_
          exact (f117_75_ok hf hK)
      · refine ev_aload_n (q_cod qk117 rfl) (by decide) rfl ?_
        refine em_gR (q_cod qk117 rfl) (by decide) (by decide) hf (fun r6 hf => ?_)
        refine ev_iload (q_cod qk117 rfl) (by decide) rfl ?_
        refine em_lI (q_cod qk117 rfl) (by decide) hf (fun v7 hf => ?_)
        refine ev_is2 (L' := [(0, .ref l0), (1, .ref l1), (2, .int l2), (3, .int l3), (4, .int l4), (5, .int v7), (6, .int l6)]) (q_cod qk117 rfl) (by decide) rfl ?_
        refine ev_goto (q_cod qk117 rfl) (by decide) ?_
        exact (f117_114_ok hf hK)
  · obtain ⟨y0, hf0, hx⟩ := m_inr_some hf
    subst hx
    exact ev_weak (q_pk [4] rfl) (f117_120_ok hf0 hK)
def f117_16 (l0 : Nat) (l1 : Nat) (l2 : Int32) (l3 : Int32) (l4 : Int32) (l5 : Int32) (l6 : Int32) : m_M Int32 := m_W (fun s => f117_16b (s.1) (s.2.1) (s.2.2.1) (s.2.2.2.1) (s.2.2.2.2.1) (s.2.2.2.2.2.1) (s.2.2.2.2.2.2)) 1000000 (l0, l1, l2, l3, l4, l5, l6)
theorem f117_16_ok {l0 : Nat} {l1 : Nat} {l2 : Int32} {l3 : Int32} {l4 : Int32} {l5 : Int32} {l6 : Int32} {h : q_H} {o : q_O} {hz : q_H} {x : Int32 × q_H} (hf : f117_16 l0 l1 l2 l3 l4 l5 l6 h = some x) (hK : (q_KI o hz) x) : q_Ev none 117 16 [(0, .ref l0), (1, .ref l1), (2, .int l2), (3, .int l3), (4, .int l4), (5, .int l5), (6, .int l6)] [] h o hz :=
  m_W_ok (P := (fun (s : Nat × Nat × Int32 × Int32 × Int32 × Int32 × Int32) (h : q_H) => q_Ev none 117 16 [(0, .ref (s.1)), (1, .ref (s.2.1)), (2, .int (s.2.2.1)), (3, .int (s.2.2.2.1)), (4, .int (s.2.2.2.2.1)), (5, .int (s.2.2.2.2.2.1)), (6, .int (s.2.2.2.2.2.2))] [] h o hz)) (K := (q_KI o hz)) (fun s h x h1 h2 => f117_16b_ok h1 h2) _ (l0, l1, l2, l3, l4, l5, l6) _ _ hf hK
def f117 (l0 : Nat) (l1 : Nat) (l2 : Int32) (l3 : Int32) : m_M Int32 :=
  m_B (m_gR 9 l0 0) (fun r1 => m_B (m_aK r1 0) (fun _ => m_B (f1 r1) (fun _ => f117_16 l0 l1 l2 l3 0 0 0)))
theorem f117_ok {l0 : Nat} {l1 : Nat} {l2 : Int32} {l3 : Int32} {h : q_H} {o : q_O} {hz : q_H} {x : Int32 × q_H} (hf : f117 l0 l1 l2 l3 h = some x) (hK : (q_KI o hz) x) : q_Ev none 117 0 [(0, .ref l0), (1, .ref l1), (2, .int l2), (3, .int l3)] [] h o hz := by
  unfold f117 at hf
  refine ev_ic (v := 0) (q_cod qk117 rfl) (by decide) (by decide) ?_
  refine ev_is2 (L' := [(0, .ref l0), (1, .ref l1), (2, .int l2), (3, .int l3), (4, .int 0)]) (q_cod qk117 rfl) (by decide) rfl ?_
  refine ev_ic (v := 0) (q_cod qk117 rfl) (by decide) (by decide) ?_
  refine ev_is2 (L' := [(0, .ref l0), (1, .ref l1), (2, .int l2), (3, .int l3), (4, .int 0), (5, .int 0)]) (q_cod qk117 rfl) (by decide) rfl ?_
  refine ev_aload_n (q_cod qk117 rfl) (by decide) rfl ?_
  refine em_gR (q_cod qk117 rfl) (by decide) (by decide) hf (fun r1 hf => ?_)
  obtain ⟨g2, hf⟩ := m_aK_some hf
  refine em_call (v := (fun _ => none)) (q_cod qk117 rfl) rfl rfl (q_cokV rfl rfl (Or.inr g2)) rfl (fun x e => f1_cl e) hf (fun _ h hf => ?_)
  refine ev_ic (v := 0) (q_cod qk117 rfl) (by decide) (by decide) ?_
  refine ev_is2 (L' := [(0, .ref l0), (1, .ref l1), (2, .int l2), (3, .int l3), (4, .int 0), (5, .int 0), (6, .int 0)]) (q_cod qk117 rfl) (by decide) rfl ?_
  exact (f117_16_ok hf hK)
theorem f117_cl {l0 : Nat} {l1 : Nat} {l2 : Int32} {l3 : Int32} {h : q_H} {x : Int32 × q_H} (hf : f117 l0 l1 l2 l3 h = some x) : q_Cl 117 [.ref l0, .ref l1, .int l2, .int l3] h (.inl (some (.int x.1))) x.2 := q_Cl.of rfl (q_LvS rfl rfl) (f117_ok hf ⟨rfl, rfl⟩)
/-! SmithyBench$Signatures.narrow(LSmithyBench$Program;LSmithyBench$Program;II)I -/
theorem qk113 : q_cs.getD 113 [] = qc_113 := rfl
def f113_141 (l0 : Nat) (l1 : Nat) (l2 : Nat) (l4 : Int32) (l5 : Int32) (l6 : Int32) (l7 : Int32) : m_M ((Nat × Nat × Nat × Int32 × Int32 × Int32 × Int32) ⊕ Int32) :=
  m_R (.inl (l0, l1, l2, l4, l5, l6, (l7 + 1)))
theorem f113_141_ok {l0 : Nat} {l1 : Nat} {l2 : Nat} {l4 : Int32} {l5 : Int32} {l6 : Int32} {l7 : Int32} {h : q_H} {o : q_O} {hz : q_H} {x : ((Nat × Nat × Nat × Int32 × Int32 × Int32 × Int32) ⊕ Int32) × q_H} (hf : f113_141 l0 l1 l2 l4 l5 l6 l7 h = some x) (hK : (m_yK (fun (s : Nat × Nat × Nat × Int32 × Int32 × Int32 × Int32) (h : q_H) => q_Ev none 113 66 [(0, .ref (s.1)), (1, .ref (s.2.1)), (2, .ref (s.2.2.1)), (4, .int (s.2.2.2.1)), (5, .int (s.2.2.2.2.1)), (6, .int (s.2.2.2.2.2.1)), (7, .int (s.2.2.2.2.2.2))] [] h o hz) (q_KI o hz)) x) : q_Ev none 113 141 [(0, .ref l0), (1, .ref l1), (2, .ref l2), (4, .int l4), (5, .int l5), (6, .int l6), (7, .int l7)] [] h o hz := by
  unfold f113_141 at hf
  refine ev_inc (v := l7 + 1) (L' := [(0, .ref l0), (1, .ref l1), (2, .ref l2), (4, .int l4), (5, .int l5), (6, .int l6), (7, .int (l7 + 1))]) (q_cod qk113 rfl) (by decide) rfl rfl rfl ?_
  refine ev_goto (q_cod qk113 rfl) (by decide) ?_
  obtain rfl := m_R_inv hf
  exact (show q_Ev none 113 66 [(0, .ref l0), (1, .ref l1), (2, .ref l2), (4, .int l4), (5, .int l5), (6, .int l6), (7, .int (l7 + 1))] [] _ o hz from hK)
def f113_106 (l0 : Nat) (l1 : Nat) (l2 : Nat) (l4 : Int32) (l5 : Int32) (l6 : Int32) (l7 : Int32) : m_M ((Nat × Nat × Nat × Int32 × Int32 × Int32 × Int32) ⊕ Int32) :=
  m_B (m_gR 7 l1 9) (fun r1 => m_B (m_lR r1 l7) (fun r2 => m_B (m_aK l0 9) (fun _ => m_B (f117 l0 r2 l5 l4) (fun v4 => m_B (m_gR 7 l2 9) (fun r5 => m_B (m_lR r5 l7) (fun r6 => m_B (m_gR 9 l0 0) (fun r7 => m_B (m_aK r6 0) (fun _ => m_B (f7 r6 r7) (fun v9 => f113_141 l0 l1 l2 l4 l5 (l6 + v4) l7)))))))))
theorem f113_106_ok {l0 : Nat} {l1 : Nat} {l2 : Nat} {l4 : Int32} {l5 : Int32} {l6 : Int32} {l7 : Int32} {h : q_H} {o : q_O} {hz : q_H} {x : ((Nat × Nat × Nat × Int32 × Int32 × Int32 × Int32) ⊕ Int32) × q_H} (hf : f113_106 l0 l1 l2 l4 l5 l6 l7 h = some x) (hK : (m_yK (fun (s : Nat × Nat × Nat × Int32 × Int32 × Int32 × Int32) (h : q_H) => q_Ev none 113 66 [(0, .ref (s.1)), (1, .ref (s.2.1)), (2, .ref (s.2.2.1)), (4, .int (s.2.2.2.1)), (5, .int (s.2.2.2.2.1)), (6, .int (s.2.2.2.2.2.1)), (7, .int (s.2.2.2.2.2.2))] [] h o hz) (q_KI o hz)) x) : q_Ev none 113 106 [(0, .ref l0), (1, .ref l1), (2, .ref l2), (4, .int l4), (5, .int l5), (6, .int l6), (7, .int l7)] [] h o hz := by
  unfold f113_106 at hf
  refine ev_iload (q_cod qk113 rfl) (by decide) rfl ?_
  refine ev_aload_n (q_cod qk113 rfl) (by decide) rfl ?_
  refine ev_aload_n (q_cod qk113 rfl) (by decide) rfl ?_
  refine em_gR (q_cod qk113 rfl) (by decide) (by decide) hf (fun r1 hf => ?_)
  refine ev_iload (q_cod qk113 rfl) (by decide) rfl ?_
  refine em_lR (q_cod qk113 rfl) (by decide) hf (fun r2 hf => ?_)
  refine ev_iload (q_cod qk113 rfl) (by decide) rfl ?_
  refine ev_iload (q_cod qk113 rfl) (by decide) rfl ?_
  obtain ⟨g3, hf⟩ := m_aK_some hf
  refine em_call (v := (fun u => some (.int u))) (q_cod qk113 rfl) rfl rfl (q_cokV rfl rfl (Or.inr g3)) rfl (fun x e => f117_cl e) hf (fun v4 h hf => ?_)
  refine ev_iadd (q_cod qk113 rfl) (by decide) ?_
  refine ev_is2 (L' := [(0, .ref l0), (1, .ref l1), (2, .ref l2), (4, .int l4), (5, .int l5), (6, .int (l6 + v4)), (7, .int l7)]) (q_cod qk113 rfl) (by decide) rfl ?_
  refine ev_aload_n (q_cod qk113 rfl) (by decide) rfl ?_
  refine em_gR (q_cod qk113 rfl) (by decide) (by decide) hf (fun r5 hf => ?_)
  refine ev_iload (q_cod qk113 rfl) (by decide) rfl ?_
  refine em_lR (q_cod qk113 rfl) (by decide) hf (fun r6 hf => ?_)
  refine ev_aload_n (q_cod qk113 rfl) (by decide) rfl ?_
  refine em_gR (q_cod qk113 rfl) (by decide) (by decide) hf (fun r7 hf => ?_)
  obtain ⟨g8, hf⟩ := m_aK_some hf
  refine em_call (v := (fun u => some (.int u))) (q_cod qk113 rfl) rfl rfl (q_cokV rfl rfl (Or.inr g8)) rfl (fun x e => f7_cl e) hf (fun v9 h hf => ?_)
  refine ev_pop (q_cod qk113 rfl) (by decide) rfl ?_
  exact (f113_141_ok hf hK)
def f113_147 (l6 : Int32) : m_M Int32 :=
  m_R l6
theorem f113_147_ok {l6 : Int32} {h : q_H} {o : q_O} {hz : q_H} {x : Int32 × q_H} (hf : f113_147 l6 h = some x) (hK : (q_KI o hz) x) : q_Ev none 113 147 [(6, .int l6)] [] h o hz := by
  unfold f113_147 at hf
  refine ev_iload (q_cod qk113 rfl) (by decide) rfl ?_
  obtain rfl := m_R_inv hf
  obtain ⟨rfl, rfl⟩ := (show q_KI o hz (l6, _) from hK)
  exact ev_ret (q_cod qk113 rfl) rfl
def f113_66b (l0 : Nat) (l1 : Nat) (l2 : Nat) (l4 : Int32) (l5 : Int32) (l6 : Int32) (l7 : Int32) : m_M ((Nat × Nat × Nat × Int32 × Int32 × Int32 × Int32) ⊕ Int32) :=
  m_B (m_gI 7 l1 11) (fun v1 => if l7 < v1 then (m_B (m_aK l1 7) (fun _ => m_B (f79 l1 l7) (fun v3 => if v3 = 0 then (f113_141 l0 l1 l2 l4 l5 l6 l7) else (if ((q_ush l5 l7) &&& 1) = 1 then (m_B (m_aK l2 7) (fun _ => m_B (f76 l2 l7 l4) (fun _ => f113_106 l0 l1 l2 l4 l5 l6 l7))) else (f113_106 l0 l1 l2 l4 l5 l6 l7))))) else (m_B (f113_147 l6) (fun r => m_R (.inr r))))
theorem f113_66b_ok {l0 : Nat} {l1 : Nat} {l2 : Nat} {l4 : Int32} {l5 : Int32} {l6 : Int32} {l7 : Int32} {h : q_H} {o : q_O} {hz : q_H} {x : ((Nat × Nat × Nat × Int32 × Int32 × Int32 × Int32) ⊕ Int32) × q_H} (hf : f113_66b l0 l1 l2 l4 l5 l6 l7 h = some x) (hK : (m_yK (fun (s : Nat × Nat × Nat × Int32 × Int32 × Int32 × Int32) (h : q_H) => q_Ev none 113 66 [(0, .ref (s.1)), (1, .ref (s.2.1)), (2, .ref (s.2.2.1)), (4, .int (s.2.2.2.1)), (5, .int (s.2.2.2.2.1)), (6, .int (s.2.2.2.2.2.1)), (7, .int (s.2.2.2.2.2.2))] [] h o hz) (q_KI o hz)) x) : q_Ev none 113 66 [(0, .ref l0), (1, .ref l1), (2, .ref l2), (4, .int l4), (5, .int l5), (6, .int l6), (7, .int l7)] [] h o hz := by
  unfold f113_66b at hf
  refine ev_iload (q_cod qk113 rfl) (by decide) rfl ?_
  refine ev_aload_n (q_cod qk113 rfl) (by decide) rfl ?_
  refine em_gI (q_cod qk113 rfl) (by decide) (by decide) hf (fun v1 hf => ?_)
  refine em_ic_ge (q_cod qk113 rfl) (by decide) hf (fun c8 hf => ?_) (fun c8 hf => ?_)
  · refine ev_aload_n (q_cod qk113 rfl) (by decide) rfl ?_
    refine ev_iload (q_cod qk113 rfl) (by decide) rfl ?_
    obtain ⟨g2, hf⟩ := m_aK_some hf
    refine em_call (v := (fun u => some (.int u))) (q_cod qk113 rfl) rfl rfl (q_cokV rfl rfl (Or.inr g2)) rfl (fun x e => f79_cl e) hf (fun v3 h hf => ?_)
    refine em_if_ne (q_cod qk113 rfl) (by decide) hf (fun c7 hf => ?_) (fun c7 hf => ?_)
    · refine ev_goto (q_cod qk113 rfl) (by decide) ?_
      exact (f113_141_ok hf hK)
    · refine ev_iload (q_cod qk113 rfl) (by decide) rfl ?_
      refine ev_iload (q_cod qk113 rfl) (by decide) rfl ?_
      refine ev_iushr (q_cod qk113 rfl) (by decide) ?_
      refine ev_ic (v := 1) (q_cod qk113 rfl) (by decide) (by decide) ?_
      refine ev_iand (q_cod qk113 rfl) (by decide) ?_
      refine ev_ic (v := 1) (q_cod qk113 rfl) (by decide) (by decide) ?_
      refine em_ic_ne (q_cod qk113 rfl) (by decide) hf (fun c6 hf => ?_) (fun c6 hf => ?_)
      · refine ev_aload_n (q_cod qk113 rfl) (by decide) rfl ?_
        refine ev_iload (q_cod qk113 rfl) (by decide) rfl ?_
        refine ev_iload (q_cod qk113 rfl) (by decide) rfl ?_
        obtain ⟨g4, hf⟩ := m_aK_some hf
        refine em_call (v := (fun _ => none)) (q_cod qk113 rfl) rfl rfl (q_cokV rfl rfl (Or.inr g4)) rfl (fun x e => f76_cl e) hf (fun _ h hf => ?_)
        exact (f113_106_ok hf hK)
      · exact (f113_106_ok hf hK)
  · obtain ⟨y0, hf0, hx⟩ := m_inr_some hf
    subst hx
    exact ev_weak (q_pk [5] rfl) (f113_147_ok hf0 hK)
def f113_66 (l0 : Nat) (l1 : Nat) (l2 : Nat) (l4 : Int32) (l5 : Int32) (l6 : Int32) (l7 : Int32) : m_M Int32 := m_W (fun s => f113_66b (s.1) (s.2.1) (s.2.2.1) (s.2.2.2.1) (s.2.2.2.2.1) (s.2.2.2.2.2.1) (s.2.2.2.2.2.2)) 1000000 (l0, l1, l2, l4, l5, l6, l7)
theorem f113_66_ok {l0 : Nat} {l1 : Nat} {l2 : Nat} {l4 : Int32} {l5 : Int32} {l6 : Int32} {l7 : Int32} {h : q_H} {o : q_O} {hz : q_H} {x : Int32 × q_H} (hf : f113_66 l0 l1 l2 l4 l5 l6 l7 h = some x) (hK : (q_KI o hz) x) : q_Ev none 113 66 [(0, .ref l0), (1, .ref l1), (2, .ref l2), (4, .int l4), (5, .int l5), (6, .int l6), (7, .int l7)] [] h o hz :=
  m_W_ok (P := (fun (s : Nat × Nat × Nat × Int32 × Int32 × Int32 × Int32) (h : q_H) => q_Ev none 113 66 [(0, .ref (s.1)), (1, .ref (s.2.1)), (2, .ref (s.2.2.1)), (4, .int (s.2.2.2.1)), (5, .int (s.2.2.2.2.1)), (6, .int (s.2.2.2.2.2.1)), (7, .int (s.2.2.2.2.2.2))] [] h o hz)) (K := (q_KI o hz)) (fun s h x h1 h2 => f113_66b_ok h1 h2) _ (l0, l1, l2, l4, l5, l6, l7) _ _ hf hK
def f113 (l0 : Nat) (l1 : Nat) (l2 : Nat) (l3 : Int32) (l4 : Int32) : m_M Int32 :=
  m_B (m_aK l1 7) (fun _ => m_B (f95 l1 l3) (fun v2 => m_B (f114 l1 v2 l4) (fun v3 => if v3 = 0 then (m_B (m_gR 7 l1 4) (fun r4 => m_B (m_lI r4 l3) (fun v5 => m_B (m_gR 7 l1 5) (fun r6 => m_B (m_lI r6 l3) (fun v7 => m_B (m_aK l1 7) (fun _ => m_B (f97 l1 v2 v5 (v7 - 1)) (fun v9 => if v9 = 0 then (m_R (-1)) else (m_B (f115 l1 v2 l4) (fun v10 => if v10 = 0 then (f113_66 l0 l1 l2 l4 v2 0 0) else (m_R (-7))))))))))) else (m_R (-9)))))
theorem f113_ok {l0 : Nat} {l1 : Nat} {l2 : Nat} {l3 : Int32} {l4 : Int32} {h : q_H} {o : q_O} {hz : q_H} {x : Int32 × q_H} (hf : f113 l0 l1 l2 l3 l4 h = some x) (hK : (q_KI o hz) x) : q_Ev none 113 0 [(0, .ref l0), (1, .ref l1), (2, .ref l2), (3, .int l3), (4, .int l4)] [] h o hz := by
  unfold f113 at hf
  refine ev_aload_n (q_cod qk113 rfl) (by decide) rfl ?_
  refine ev_iload_n (q_cod qk113 rfl) (by decide) rfl ?_
  obtain ⟨g1, hf⟩ := m_aK_some hf
  refine em_call (v := (fun u => some (.int u))) (q_cod qk113 rfl) rfl rfl (q_cokV rfl rfl (Or.inr g1)) rfl (fun x e => f95_cl e) hf (fun v2 h hf => ?_)
  refine ev_is2 (L' := [(0, .ref l0), (1, .ref l1), (2, .ref l2), (3, .int l3), (4, .int l4), (5, .int v2)]) (q_cod qk113 rfl) (by decide) rfl ?_
  refine ev_aload_n (q_cod qk113 rfl) (by decide) rfl ?_
  refine ev_iload (q_cod qk113 rfl) (by decide) rfl ?_
  refine ev_iload (q_cod qk113 rfl) (by decide) rfl ?_
  refine em_call (v := (fun u => some (.int u))) (q_cod qk113 rfl) rfl rfl (q_cokS rfl rfl) rfl (fun x e => f114_cl e) hf (fun v3 h hf => ?_)
  refine em_if_eq (q_cod qk113 rfl) (by decide) hf (fun c13 hf => ?_) (fun c13 hf => ?_)
  · refine ev_aload_n (q_cod qk113 rfl) (by decide) rfl ?_
    refine ev_iload (q_cod qk113 rfl) (by decide) rfl ?_
    refine ev_aload_n (q_cod qk113 rfl) (by decide) rfl ?_
    refine em_gR (q_cod qk113 rfl) (by decide) (by decide) hf (fun r4 hf => ?_)
    refine ev_iload_n (q_cod qk113 rfl) (by decide) rfl ?_
    refine em_lI (q_cod qk113 rfl) (by decide) hf (fun v5 hf => ?_)
    refine ev_aload_n (q_cod qk113 rfl) (by decide) rfl ?_
    refine em_gR (q_cod qk113 rfl) (by decide) (by decide) hf (fun r6 hf => ?_)
    refine ev_iload_n (q_cod qk113 rfl) (by decide) rfl ?_
    refine em_lI (q_cod qk113 rfl) (by decide) hf (fun v7 hf => ?_)
    refine ev_ic (v := 1) (q_cod qk113 rfl) (by decide) (by decide) ?_
    refine ev_isub (q_cod qk113 rfl) (by decide) ?_
    obtain ⟨g8, hf⟩ := m_aK_some hf
    refine em_call (v := (fun u => some (.int u))) (q_cod qk113 rfl) rfl rfl (q_cokV rfl rfl (Or.inr g8)) rfl (fun x e => f97_cl e) hf (fun v9 h hf => ?_)
    refine em_if_ne (q_cod qk113 rfl) (by decide) hf (fun c12 hf => ?_) (fun c12 hf => ?_)
    · refine ev_ic (v := (-1)) (q_cod qk113 rfl) (by decide) (by decide) ?_
      obtain rfl := m_R_inv hf
      obtain ⟨rfl, rfl⟩ := (show q_KI o hz ((-1), _) from hK)
      exact ev_ret (q_cod qk113 rfl) rfl
    · refine ev_aload_n (q_cod qk113 rfl) (by decide) rfl ?_
      refine ev_iload (q_cod qk113 rfl) (by decide) rfl ?_
      refine ev_iload (q_cod qk113 rfl) (by decide) rfl ?_
      refine em_call (v := (fun u => some (.int u))) (q_cod qk113 rfl) rfl rfl (q_cokS rfl rfl) rfl (fun x e => f115_cl e) hf (fun v10 h hf => ?_)
      refine em_if_eq (q_cod qk113 rfl) (by decide) hf (fun c11 hf => ?_) (fun c11 hf => ?_)
      · refine ev_ic (v := 0) (q_cod qk113 rfl) (by decide) (by decide) ?_
        refine ev_is2 (L' := [(0, .ref l0), (1, .ref l1), (2, .ref l2), (3, .int l3), (4, .int l4), (5, .int v2), (6, .int 0)]) (q_cod qk113 rfl) (by decide) rfl ?_
        refine ev_ic (v := 0) (q_cod qk113 rfl) (by decide) (by decide) ?_
        refine ev_is2 (L' := [(0, .ref l0), (1, .ref l1), (2, .ref l2), (3, .int l3), (4, .int l4), (5, .int v2), (6, .int 0), (7, .int 0)]) (q_cod qk113 rfl) (by decide) rfl ?_
        exact ev_weak (q_pk [0, 1, 2, 4, 5, 6, 7] rfl) (f113_66_ok hf hK)
      · refine ev_bi (v := (-7)) (q_cod qk113 rfl) (by decide) (by decide) ?_
        obtain rfl := m_R_inv hf
        obtain ⟨rfl, rfl⟩ := (show q_KI o hz ((-7), _) from hK)
        exact ev_ret (q_cod qk113 rfl) rfl
  · refine ev_bi (v := (-9)) (q_cod qk113 rfl) (by decide) (by decide) ?_
    obtain rfl := m_R_inv hf
    obtain ⟨rfl, rfl⟩ := (show q_KI o hz ((-9), _) from hK)
    exact ev_ret (q_cod qk113 rfl) rfl
theorem f113_cl {l0 : Nat} {l1 : Nat} {l2 : Nat} {l3 : Int32} {l4 : Int32} {h : q_H} {x : Int32 × q_H} (hf : f113 l0 l1 l2 l3 l4 h = some x) : q_Cl 113 [.ref l0, .ref l1, .ref l2, .int l3, .int l4] h (.inl (some (.int x.1))) x.2 := q_Cl.of rfl (q_LvS rfl rfl) (f113_ok hf ⟨rfl, rfl⟩)
/-! SmithyBench$Told.<init>()V -/
theorem qk119 : q_cs.getD 119 [] = qc_119 := rfl
def f119 (l0 : Nat) : m_M Unit :=
  m_B (m_nA 20 150) (fun r1 => m_B (m_pR 10 l0 0 r1) (fun _ => m_B (m_nA 20 150) (fun r2 => m_B (m_pR 10 l0 1 r2) (fun _ => m_B (m_nA 20 150) (fun r3 => m_B (m_pR 10 l0 2 r3) (fun _ => m_B (m_nA 20 450) (fun r4 => m_B (m_pR 10 l0 3 r4) (fun _ => m_B (m_nA 20 150) (fun r5 => m_B (m_pR 10 l0 4 r5) (fun _ => m_B (m_nA 20 180) (fun r6 => m_B (m_pR 10 l0 5 r6) (fun _ => m_R ()))))))))))))
theorem f119_ok {l0 : Nat} {h : q_H} {o : q_O} {hz : q_H} {x : Unit × q_H} (hf : f119 l0 h = some x) (hK : (m_KU o hz) x) : q_Ev none 119 0 [(0, .ref l0)] [] h o hz := by
  unfold f119 at hf
  refine ev_aload_n (q_cod qk119 rfl) (by decide) rfl ?_
  refine ev_objinit (q_cod qk119 rfl) (Nat.le_of_ble_eq_true rfl) ?_
  refine ev_aload_n (q_cod qk119 rfl) (by decide) rfl ?_
  refine ev_si (v := 150) (q_cod qk119 rfl) (by decide) (by decide) ?_
  refine em_nI (q_cod qk119 rfl) (by decide) hf (fun r1 h hf => ?_)
  refine em_pR (q_cod qk119 rfl) (by decide) (by decide) (by decide) hf (fun hf => ?_)
  refine ev_aload_n (q_cod qk119 rfl) (by decide) rfl ?_
  refine ev_si (v := 150) (q_cod qk119 rfl) (by decide) (by decide) ?_
  refine em_nI (q_cod qk119 rfl) (by decide) hf (fun r2 h hf => ?_)
  refine em_pR (q_cod qk119 rfl) (by decide) (by decide) (by decide) hf (fun hf => ?_)
  refine ev_aload_n (q_cod qk119 rfl) (by decide) rfl ?_
  refine ev_si (v := 150) (q_cod qk119 rfl) (by decide) (by decide) ?_
  refine em_nI (q_cod qk119 rfl) (by decide) hf (fun r3 h hf => ?_)
  refine em_pR (q_cod qk119 rfl) (by decide) (by decide) (by decide) hf (fun hf => ?_)
  refine ev_aload_n (q_cod qk119 rfl) (by decide) rfl ?_
  refine ev_si (v := 450) (q_cod qk119 rfl) (by decide) (by decide) ?_
  refine em_nI (q_cod qk119 rfl) (by decide) hf (fun r4 h hf => ?_)
  refine em_pR (q_cod qk119 rfl) (by decide) (by decide) (by decide) hf (fun hf => ?_)
  refine ev_aload_n (q_cod qk119 rfl) (by decide) rfl ?_
  refine ev_si (v := 150) (q_cod qk119 rfl) (by decide) (by decide) ?_
  refine em_nI (q_cod qk119 rfl) (by decide) hf (fun r5 h hf => ?_)
  refine em_pR (q_cod qk119 rfl) (by decide) (by decide) (by decide) hf (fun hf => ?_)
  refine ev_aload_n (q_cod qk119 rfl) (by decide) rfl ?_
  refine ev_si (v := 180) (q_cod qk119 rfl) (by decide) (by decide) ?_
  refine em_nI (q_cod qk119 rfl) (by decide) hf (fun r6 h hf => ?_)
  refine em_pR (q_cod qk119 rfl) (by decide) (by decide) (by decide) hf (fun hf => ?_)
  obtain rfl := m_R_inv hf
  obtain ⟨rfl, rfl⟩ := (show m_KU o hz ((), _) from hK)
  exact ev_ret (q_cod qk119 rfl) rfl
theorem f119_cl {l0 : Nat} {h : q_H} {x : Unit × q_H} (hf : f119 l0 h = some x) : q_Cl 119 [.ref l0] h (.inl none) x.2 := q_Cl.of rfl (q_LvS rfl rfl) (f119_ok hf ⟨rfl, rfl⟩)
/-! SmithyBench$Told.addPart(II)V -/
theorem qk121 : q_cs.getD 121 [] = qc_121 := rfl
def f121 (l0 : Nat) (l1 : Int32) (l2 : Int32) : m_M Unit :=
  if l2 = (-1) then (m_R ()) else (m_B (m_gR 10 l0 3) (fun r1 => m_B (m_gR 10 l0 2) (fun r2 => m_B (m_lI r2 l1) (fun v3 => m_B (m_wI r1 ((l1 * 3) + v3) l2) (fun _ => m_B (m_gR 10 l0 2) (fun r4 => m_B (m_lI r4 l1) (fun v5 => m_B (m_wI r4 l1 (v5 + 1)) (fun _ => m_B (m_gR 10 l0 4) (fun r6 => m_B (m_gR 10 l0 4) (fun r7 => m_B (m_lI r7 l1) (fun v8 => m_B (m_gR 10 l0 4) (fun r9 => m_B (m_lI r9 l2) (fun v10 => m_B (m_wI r6 l1 (if (v8 + v10) < 61 then v8 + v10 else 61)) (fun _ => m_R ()))))))))))))))
theorem f121_ok {l0 : Nat} {l1 : Int32} {l2 : Int32} {h : q_H} {o : q_O} {hz : q_H} {x : Unit × q_H} (hf : f121 l0 l1 l2 h = some x) (hK : (m_KU o hz) x) : q_Ev none 121 0 [(0, .ref l0), (1, .int l1), (2, .int l2)] [] h o hz := by
  unfold f121 at hf
  refine ev_iload_n (q_cod qk121 rfl) (by decide) rfl ?_
  refine ev_ic (v := (-1)) (q_cod qk121 rfl) (by decide) (by decide) ?_
  refine em_ic_ne (q_cod qk121 rfl) (by decide) hf (fun c11 hf => ?_) (fun c11 hf => ?_)
  · obtain rfl := m_R_inv hf
    obtain ⟨rfl, rfl⟩ := (show m_KU o hz ((), _) from hK)
    exact ev_ret (q_cod qk121 rfl) rfl
  · refine ev_aload_n (q_cod qk121 rfl) (by decide) rfl ?_
    refine em_gR (q_cod qk121 rfl) (by decide) (by decide) hf (fun r1 hf => ?_)
    refine ev_iload_n (q_cod qk121 rfl) (by decide) rfl ?_
    refine ev_ic (v := 3) (q_cod qk121 rfl) (by decide) (by decide) ?_
    refine ev_imul (q_cod qk121 rfl) (by decide) ?_
    refine ev_aload_n (q_cod qk121 rfl) (by decide) rfl ?_
    refine em_gR (q_cod qk121 rfl) (by decide) (by decide) hf (fun r2 hf => ?_)
    refine ev_iload_n (q_cod qk121 rfl) (by decide) rfl ?_
    refine em_lI (q_cod qk121 rfl) (by decide) hf (fun v3 hf => ?_)
    refine ev_iadd (q_cod qk121 rfl) (by decide) ?_
    refine ev_iload_n (q_cod qk121 rfl) (by decide) rfl ?_
    refine em_wI (q_cod qk121 rfl) (by decide) hf (fun hf => ?_)
    refine ev_aload_n (q_cod qk121 rfl) (by decide) rfl ?_
    refine em_gR (q_cod qk121 rfl) (by decide) (by decide) hf (fun r4 hf => ?_)
    refine ev_iload_n (q_cod qk121 rfl) (by decide) rfl ?_
    refine ev_dup2 (q_cod qk121 rfl) (by decide) rfl rfl ?_
    refine em_lI (q_cod qk121 rfl) (by decide) hf (fun v5 hf => ?_)
    refine ev_ic (v := 1) (q_cod qk121 rfl) (by decide) (by decide) ?_
    refine ev_iadd (q_cod qk121 rfl) (by decide) ?_
    refine em_wI (q_cod qk121 rfl) (by decide) hf (fun hf => ?_)
    refine ev_aload_n (q_cod qk121 rfl) (by decide) rfl ?_
    refine em_gR (q_cod qk121 rfl) (by decide) (by decide) hf (fun r6 hf => ?_)
    refine ev_iload_n (q_cod qk121 rfl) (by decide) rfl ?_
    refine ev_bi (v := 61) (q_cod qk121 rfl) (by decide) (by decide) ?_
    refine ev_aload_n (q_cod qk121 rfl) (by decide) rfl ?_
    refine em_gR (q_cod qk121 rfl) (by decide) (by decide) hf (fun r7 hf => ?_)
    refine ev_iload_n (q_cod qk121 rfl) (by decide) rfl ?_
    refine em_lI (q_cod qk121 rfl) (by decide) hf (fun v8 hf => ?_)
    refine ev_aload_n (q_cod qk121 rfl) (by decide) rfl ?_
    refine em_gR (q_cod qk121 rfl) (by decide) (by decide) hf (fun r9 hf => ?_)
    refine ev_iload_n (q_cod qk121 rfl) (by decide) rfl ?_
    refine em_lI (q_cod qk121 rfl) (by decide) hf (fun v10 hf => ?_)
    refine ev_iadd (q_cod qk121 rfl) (by decide) ?_
    refine ev_min (q_cod qk121 rfl) (Nat.le_of_ble_eq_true rfl) ?_
    refine em_wI (q_cod qk121 rfl) (by decide) hf (fun hf => ?_)
    obtain rfl := m_R_inv hf
    obtain ⟨rfl, rfl⟩ := (show m_KU o hz ((), _) from hK)
    exact ev_ret (q_cod qk121 rfl) rfl
theorem f121_cl {l0 : Nat} {l1 : Int32} {l2 : Int32} {h : q_H} {x : Unit × q_H} (hf : f121 l0 l1 l2 h = some x) : q_Cl 121 [.ref l0, .int l1, .int l2] h (.inl none) x.2 := q_Cl.of rfl (q_LvS rfl rfl) (f121_ok hf ⟨rfl, rfl⟩)
/-! SmithyBench$Told.add(IIIII)I -/
theorem qk120 : q_cs.getD 120 [] = qc_120 := rfl
def f120 (l0 : Nat) (l1 : Int32) (l2 : Int32) (l3 : Int32) (l4 : Int32) (l5 : Int32) : m_M Int32 :=
  m_B (m_gI 10 l0 6) (fun v1 => m_B (m_gR 10 l0 0) (fun r2 => m_B (m_wI r2 v1 l1) (fun _ => m_B (m_gR 10 l0 1) (fun r3 => m_B (m_wI r3 v1 l2) (fun _ => m_B (m_gR 10 l0 2) (fun r4 => m_B (m_wI r4 v1 0) (fun _ => m_B (m_gR 10 l0 4) (fun r5 => m_B (m_wI r5 v1 1) (fun _ => m_B (m_aK l0 10) (fun _ => m_B (f121 l0 v1 l3) (fun _ => m_B (m_aK l0 10) (fun _ => m_B (f121 l0 v1 l4) (fun _ => m_B (m_aK l0 10) (fun _ => m_B (f121 l0 v1 l5) (fun _ => m_B (m_gI 10 l0 6) (fun v12 => m_B (m_pI 10 l0 6 (v12 + 1)) (fun _ => m_R v1)))))))))))))))))
theorem f120_ok {l0 : Nat} {l1 : Int32} {l2 : Int32} {l3 : Int32} {l4 : Int32} {l5 : Int32} {h : q_H} {o : q_O} {hz : q_H} {x : Int32 × q_H} (hf : f120 l0 l1 l2 l3 l4 l5 h = some x) (hK : (q_KI o hz) x) : q_Ev none 120 0 [(0, .ref l0), (1, .int l1), (2, .int l2), (3, .int l3), (4, .int l4), (5, .int l5)] [] h o hz := by
  unfold f120 at hf
  refine ev_aload_n (q_cod qk120 rfl) (by decide) rfl ?_
  refine em_gI (q_cod qk120 rfl) (by decide) (by decide) hf (fun v1 hf => ?_)
  refine ev_is2 (L' := [(0, .ref l0), (1, .int l1), (2, .int l2), (3, .int l3), (4, .int l4), (5, .int l5), (6, .int v1)]) (q_cod qk120 rfl) (by decide) rfl ?_
  refine ev_aload_n (q_cod qk120 rfl) (by decide) rfl ?_
  refine em_gR (q_cod qk120 rfl) (by decide) (by decide) hf (fun r2 hf => ?_)
  refine ev_iload (q_cod qk120 rfl) (by decide) rfl ?_
  refine ev_iload_n (q_cod qk120 rfl) (by decide) rfl ?_
  refine em_wI (q_cod qk120 rfl) (by decide) hf (fun hf => ?_)
  refine ev_aload_n (q_cod qk120 rfl) (by decide) rfl ?_
  refine em_gR (q_cod qk120 rfl) (by decide) (by decide) hf (fun r3 hf => ?_)
  refine ev_iload (q_cod qk120 rfl) (by decide) rfl ?_
  refine ev_iload_n (q_cod qk120 rfl) (by decide) rfl ?_
  refine em_wI (q_cod qk120 rfl) (by decide) hf (fun hf => ?_)
  refine ev_aload_n (q_cod qk120 rfl) (by decide) rfl ?_
  refine em_gR (q_cod qk120 rfl) (by decide) (by decide) hf (fun r4 hf => ?_)
  refine ev_iload (q_cod qk120 rfl) (by decide) rfl ?_
  refine ev_ic (v := 0) (q_cod qk120 rfl) (by decide) (by decide) ?_
  refine em_wI (q_cod qk120 rfl) (by decide) hf (fun hf => ?_)
  refine ev_aload_n (q_cod qk120 rfl) (by decide) rfl ?_
  refine em_gR (q_cod qk120 rfl) (by decide) (by decide) hf (fun r5 hf => ?_)
  refine ev_iload (q_cod qk120 rfl) (by decide) rfl ?_
  refine ev_ic (v := 1) (q_cod qk120 rfl) (by decide) (by decide) ?_
  refine em_wI (q_cod qk120 rfl) (by decide) hf (fun hf => ?_)
  refine ev_aload_n (q_cod qk120 rfl) (by decide) rfl ?_
  refine ev_iload (q_cod qk120 rfl) (by decide) rfl ?_
  refine ev_iload_n (q_cod qk120 rfl) (by decide) rfl ?_
  obtain ⟨g6, hf⟩ := m_aK_some hf
  refine em_call (v := (fun _ => none)) (q_cod qk120 rfl) rfl rfl (q_cokV rfl rfl (Or.inr g6)) rfl (fun x e => f121_cl e) hf (fun _ h hf => ?_)
  refine ev_aload_n (q_cod qk120 rfl) (by decide) rfl ?_
  refine ev_iload (q_cod qk120 rfl) (by decide) rfl ?_
  refine ev_iload (q_cod qk120 rfl) (by decide) rfl ?_
  obtain ⟨g8, hf⟩ := m_aK_some hf
  refine em_call (v := (fun _ => none)) (q_cod qk120 rfl) rfl rfl (q_cokV rfl rfl (Or.inr g8)) rfl (fun x e => f121_cl e) hf (fun _ h hf => ?_)
  refine ev_aload_n (q_cod qk120 rfl) (by decide) rfl ?_
  refine ev_iload (q_cod qk120 rfl) (by decide) rfl ?_
  refine ev_iload (q_cod qk120 rfl) (by decide) rfl ?_
  obtain ⟨g10, hf⟩ := m_aK_some hf
  refine em_call (v := (fun _ => none)) (q_cod qk120 rfl) rfl rfl (q_cokV rfl rfl (Or.inr g10)) rfl (fun x e => f121_cl e) hf (fun _ h hf => ?_)
  refine ev_aload_n (q_cod qk120 rfl) (by decide) rfl ?_
  refine ev_dup (q_cod qk120 rfl) (by decide) rfl ?_
  refine em_gI (q_cod qk120 rfl) (by decide) (by decide) hf (fun v12 hf => ?_)
  refine ev_ic (v := 1) (q_cod qk120 rfl) (by decide) (by decide) ?_
  refine ev_iadd (q_cod qk120 rfl) (by decide) ?_
  refine em_pI (q_cod qk120 rfl) (by decide) (by decide) (by decide) hf (fun hf => ?_)
  refine ev_iload (q_cod qk120 rfl) (by decide) rfl ?_
  obtain rfl := m_R_inv hf
  obtain ⟨rfl, rfl⟩ := (show q_KI o hz (v1, _) from hK)
  exact ev_ret (q_cod qk120 rfl) rfl
theorem f120_cl {l0 : Nat} {l1 : Int32} {l2 : Int32} {l3 : Int32} {l4 : Int32} {l5 : Int32} {h : q_H} {x : Int32 × q_H} (hf : f120 l0 l1 l2 l3 l4 l5 h = some x) : q_Cl 120 [.ref l0, .int l1, .int l2, .int l3, .int l4, .int l5] h (.inl (some (.int x.1))) x.2 := q_Cl.of rfl (q_LvS rfl rfl) (f120_ok hf ⟨rfl, rfl⟩)
