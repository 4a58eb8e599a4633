/-! SmithyBenchModel.isLike(IIII)Z -/
theorem qk289 : q_cs.getD 289 [] = qc_289 := rfl
def f289_71 (l5 : Int32) : m_M Int32 :=
  m_B (m_G (l5 = 0 ∨ l5 = 1)) (fun _ => m_R l5)
theorem f289_71_ok {l5 : Int32} {h : q_H} {o : q_O} {hz : q_H} {x : Int32 × q_H} (hf : f289_71 l5 h = some x) (hK : (q_KI o hz) x) : q_Ev none 289 71 [(5, .int l5)] [] h o hz := by
  unfold f289_71 at hf
  refine ev_iload (q_cod qk289 rfl) (by decide) rfl ?_
  obtain ⟨g1, hf⟩ := m_G_some hf
  obtain rfl := m_R_inv hf
  obtain ⟨rfl, rfl⟩ := (show q_KI o hz (l5, _) from hK)
  exact ev_ret (q_cod qk289 rfl) (q_retZ g1)
def f289_29b (l0 : Nat) (l1 : Int32) (l2 : Int32) (l3 : Int32) (l4 : Int32) (l5 : Int32) (l6 : Int32) : m_M ((Nat × Int32 × Int32 × Int32 × Int32 × Int32 × Int32) ⊕ Int32) :=
  m_B (m_aK l0 12) (fun _ => m_B (f269 l0 l1 l2) (fun v2 => if l6 < v2 then (if l5 = 0 then (m_B (f289_71 l5) (fun r => m_R (.inr r))) else (m_B (m_aK l0 12) (fun _ => m_B (f290 l0 l1 l2 (l2 + l6) l3 l4 (l4 + l6)) (fun v4 => m_R (.inl (l0, l1, l2, l3, l4, v4, (l6 + 1))))))) else (m_B (f289_71 l5) (fun r => m_R (.inr r)))))
theorem f289_29b_ok {l0 : Nat} {l1 : Int32} {l2 : Int32} {l3 : Int32} {l4 : Int32} {l5 : Int32} {l6 : Int32} {h : q_H} {o : q_O} {hz : q_H} {x : ((Nat × Int32 × Int32 × Int32 × Int32 × Int32 × Int32) ⊕ Int32) × q_H} (hf : f289_29b l0 l1 l2 l3 l4 l5 l6 h = some x) (hK : (m_yK (fun (s : Nat × Int32 × Int32 × Int32 × Int32 × Int32 × Int32) (h : q_H) => q_Ev none 289 29 [(0, .ref (s.1)), (1, .int (s.2.1)), (2, .int (s.2.2.1)), (3, .int (s.2.2.2.1)), (4, .int (s.2.2.2.2.1)), (5, .int (s.2.2.2.2.2.1)), (6, .int (s.2.2.2.2.2.2))] [] h o hz) (q_KI o hz)) x) : q_Ev none 289 29 [(0, .ref l0), (1, .int l1), (2, .int l2), (3, .int l3), (4, .int l4), (5, .int l5), (6, .int l6)] [] h o hz := by
  unfold f289_29b at hf
  refine ev_iload (q_cod qk289 rfl) (by decide) rfl ?_
  refine ev_aload_n (q_cod qk289 rfl) (by decide) rfl ?_
  refine ev_iload_n (q_cod qk289 rfl) (by decide) rfl ?_
  refine ev_iload_n (q_cod qk289 rfl) (by decide) rfl ?_
  obtain ⟨g1, hf⟩ := m_aK_some hf
  refine em_call (v := (fun u => some (.int u))) (q_cod qk289 rfl) rfl rfl (q_cokV rfl rfl (Or.inr g1)) rfl (fun x e => f269_cl e) hf (fun v2 h hf => ?_)
  refine em_ic_ge (q_cod qk289 rfl) (by decide) hf (fun c6 hf => ?_) (fun c6 hf => ?_)
  · refine ev_iload (q_cod qk289 rfl) (by decide) rfl ?_
    refine em_if_eq (q_cod qk289 rfl) (by decide) hf (fun c5 hf => ?_) (fun c5 hf => ?_)
    · obtain ⟨y0, hf0, hx⟩ := m_inr_some hf
      subst hx
      exact ev_weak (q_pk [5] rfl) (f289_71_ok hf0 hK)
    · refine ev_aload_n (q_cod qk289 rfl) (by decide) rfl ?_
      refine ev_iload_n (q_cod qk289 rfl) (by decide) rfl ?_
      refine ev_iload_n (q_cod qk289 rfl) (by decide) rfl ?_
      refine ev_iload_n (q_cod qk289 rfl) (by decide) rfl ?_
      refine ev_iload (q_cod qk289 rfl) (by decide) rfl ?_
      refine ev_iadd (q_cod qk289 rfl) (by decide) ?_
      refine ev_iload_n (q_cod qk289 rfl) (by decide) rfl ?_
      refine ev_iload (q_cod qk289 rfl) (by decide) rfl ?_
      refine ev_iload (q_cod qk289 rfl) (by decide) rfl ?_
      refine ev_iload (q_cod qk289 rfl) (by decide) rfl ?_
      refine ev_iadd (q_cod qk289 rfl) (by decide) ?_
      obtain ⟨g3, hf⟩ := m_aK_some hf
      refine em_call (v := (fun u => some (.int u))) (q_cod qk289 rfl) rfl rfl (q_cokV rfl rfl (Or.inr g3)) rfl (fun x e => f290_cl e) hf (fun v4 h hf => ?_)
      refine ev_is2 (L' := [(0, .ref l0), (1, .int l1), (2, .int l2), (3, .int l3), (4, .int l4), (5, .int v4), (6, .int l6)]) (q_cod qk289 rfl) (by decide) rfl ?_
      refine ev_inc (v := l6 + 1) (L' := [(0, .ref l0), (1, .int l1), (2, .int l2), (3, .int l3), (4, .int l4), (5, .int v4), (6, .int (l6 + 1))]) (q_cod qk289 rfl) (by decide) rfl rfl rfl ?_
      refine ev_goto (q_cod qk289 rfl) (by decide) ?_
      obtain rfl := m_R_inv hf
      exact (show q_Ev none 289 29 [(0, .ref l0), (1, .int l1), (2, .int l2), (3, .int l3), (4, .int l4), (5, .int v4), (6, .int (l6 + 1))] [] _ o hz from hK)
  · obtain ⟨y0, hf0, hx⟩ := m_inr_some hf
    subst hx
    exact ev_weak (q_pk [5] rfl) (f289_71_ok hf0 hK)
def f289_29 (l0 : Nat) (l1 : Int32) (l2 : Int32) (l3 : Int32) (l4 : Int32) (l5 : Int32) (l6 : Int32) : m_M Int32 := m_W (fun s => f289_29b (s.1) (s.2.1) (s.2.2.1) (s.2.2.2.1) (s.2.2.2.2.1) (s.2.2.2.2.2.1) (s.2.2.2.2.2.2)) 1000000 (l0, l1, l2, l3, l4, l5, l6)
theorem f289_29_ok {l0 : Nat} {l1 : Int32} {l2 : Int32} {l3 : Int32} {l4 : Int32} {l5 : Int32} {l6 : Int32} {h : q_H} {o : q_O} {hz : q_H} {x : Int32 × q_H} (hf : f289_29 l0 l1 l2 l3 l4 l5 l6 h = some x) (hK : (q_KI o hz) x) : q_Ev none 289 29 [(0, .ref l0), (1, .int l1), (2, .int l2), (3, .int l3), (4, .int l4), (5, .int l5), (6, .int l6)] [] h o hz :=
  m_W_ok (P := (fun (s : Nat × Int32 × Int32 × Int32 × Int32 × Int32 × Int32) (h : q_H) => q_Ev none 289 29 [(0, .ref (s.1)), (1, .int (s.2.1)), (2, .int (s.2.2.1)), (3, .int (s.2.2.2.1)), (4, .int (s.2.2.2.2.1)), (5, .int (s.2.2.2.2.2.1)), (6, .int (s.2.2.2.2.2.2))] [] h o hz)) (K := (q_KI o hz)) (fun s h x h1 h2 => f289_29b_ok h1 h2) _ (l0, l1, l2, l3, l4, l5, l6) _ _ hf hK
def f289 (l0 : Nat) (l1 : Int32) (l2 : Int32) (l3 : Int32) (l4 : Int32) : m_M Int32 :=
  m_B (m_aK l0 12) (fun _ => m_B (f269 l0 l1 l2) (fun v2 => m_B (m_aK l0 12) (fun _ => m_B (f269 l0 l3 l4) (fun v4 => if v2 = v4 then (m_B (m_pI 12 l0 44 0) (fun _ => f289_29 l0 l1 l2 l3 l4 1 0)) else (m_R 0)))))
theorem f289_ok {l0 : Nat} {l1 : Int32} {l2 : Int32} {l3 : Int32} {l4 : Int32} {h : q_H} {o : q_O} {hz : q_H} {x : Int32 × q_H} (hf : f289 l0 l1 l2 l3 l4 h = some x) (hK : (q_KI o hz) x) : q_Ev none 289 0 [(0, .ref l0), (1, .int l1), (2, .int l2), (3, .int l3), (4, .int l4)] [] h o hz := by
  unfold f289 at hf
  refine ev_aload_n (q_cod qk289 rfl) (by decide) rfl ?_
  refine ev_iload_n (q_cod qk289 rfl) (by decide) rfl ?_
  refine ev_iload_n (q_cod qk289 rfl) (by decide) rfl ?_
  obtain ⟨g1, hf⟩ := m_aK_some hf
  refine em_call (v := (fun u => some (.int u))) (q_cod qk289 rfl) rfl rfl (q_cokV rfl rfl (Or.inr g1)) rfl (fun x e => f269_cl e) hf (fun v2 h hf => ?_)
  refine ev_aload_n (q_cod qk289 rfl) (by decide) rfl ?_
  refine ev_iload_n (q_cod qk289 rfl) (by decide) rfl ?_
  refine ev_iload (q_cod qk289 rfl) (by decide) rfl ?_
  obtain ⟨g3, hf⟩ := m_aK_some hf
  refine em_call (v := (fun u => some (.int u))) (q_cod qk289 rfl) rfl rfl (q_cokV rfl rfl (Or.inr g3)) rfl (fun x e => f269_cl e) hf (fun v4 h hf => ?_)
  refine em_ic_eq (q_cod qk289 rfl) (by decide) hf (fun c5 hf => ?_) (fun c5 hf => ?_)
  · refine ev_aload_n (q_cod qk289 rfl) (by decide) rfl ?_
    refine ev_ic (v := 0) (q_cod qk289 rfl) (by decide) (by decide) ?_
    refine em_pI (q_cod qk289 rfl) (by decide) (by decide) (by decide) hf (fun hf => ?_)
    refine ev_ic (v := 1) (q_cod qk289 rfl) (by decide) (by decide) ?_
    refine ev_is2 (L' := [(0, .ref l0), (1, .int l1), (2, .int l2), (3, .int l3), (4, .int l4), (5, .int 1)]) (q_cod qk289 rfl) (by decide) rfl ?_
    refine ev_ic (v := 0) (q_cod qk289 rfl) (by decide) (by decide) ?_
    refine ev_is2 (L' := [(0, .ref l0), (1, .int l1), (2, .int l2), (3, .int l3), (4, .int l4), (5, .int 1), (6, .int 0)]) (q_cod qk289 rfl) (by decide) rfl ?_
    exact (f289_29_ok hf hK)
  · refine ev_ic (v := 0) (q_cod qk289 rfl) (by decide) (by decide) ?_
    obtain rfl := m_R_inv hf
    obtain ⟨rfl, rfl⟩ := (show q_KI o hz (0, _) from hK)
    exact ev_ret (q_cod qk289 rfl) rfl
theorem f289_cl {l0 : Nat} {l1 : Int32} {l2 : Int32} {l3 : Int32} {l4 : Int32} {h : q_H} {x : Int32 × q_H} (hf : f289 l0 l1 l2 l3 l4 h = some x) : q_Cl 289 [.ref l0, .int l1, .int l2, .int l3, .int l4] h (.inl (some (.int x.1))) x.2 := q_Cl.of rfl (q_LvS rfl rfl) (f289_ok hf ⟨rfl, rfl⟩)
/-! SmithyBenchModel.isPut(II)Z -/
theorem qk291 : q_cs.getD 291 [] = qc_291 := rfl
def f291_64 (l0 : Nat) (l1 : Int32) (l2 : Int32) (l4 : Int32) (s0 : Int32) : m_M ((Nat × Int32 × Int32 × Int32 × Int32) ⊕ Int32) :=
  m_R (.inl (l0, l1, l2, s0, (l4 + 1)))
theorem f291_64_ok {l0 : Nat} {l1 : Int32} {l2 : Int32} {l4 : Int32} {s0 : Int32} {h : q_H} {o : q_O} {hz : q_H} {x : ((Nat × Int32 × Int32 × Int32 × Int32) ⊕ Int32) × q_H} (hf : f291_64 l0 l1 l2 l4 s0 h = some x) (hK : (m_yK (fun (s : Nat × Int32 × Int32 × Int32 × Int32) (h : q_H) => q_Ev none 291 5 [(0, .ref (s.1)), (1, .int (s.2.1)), (2, .int (s.2.2.1)), (3, .int (s.2.2.2.1)), (4, .int (s.2.2.2.2))] [] h o hz) (q_KI o hz)) x) : q_Ev none 291 64 [(0, .ref l0), (1, .int l1), (2, .int l2), (4, .int l4)] [.int s0] h o hz := by
  unfold f291_64 at hf
  refine ev_is1 (L' := [(0, .ref l0), (1, .int l1), (2, .int l2), (3, .int s0), (4, .int l4)]) (q_cod qk291 rfl) (by decide) rfl ?_
  refine ev_inc (v := l4 + 1) (L' := [(0, .ref l0), (1, .int l1), (2, .int l2), (3, .int s0), (4, .int (l4 + 1))]) (q_cod qk291 rfl) (by decide) rfl rfl rfl ?_
  refine ev_goto (q_cod qk291 rfl) (by decide) ?_
  obtain rfl := m_R_inv hf
  exact (show q_Ev none 291 5 [(0, .ref l0), (1, .int l1), (2, .int l2), (3, .int s0), (4, .int (l4 + 1))] [] _ o hz from hK)
def f291_63 (l0 : Nat) (l1 : Int32) (l2 : Int32) (l4 : Int32) : m_M ((Nat × Int32 × Int32 × Int32 × Int32) ⊕ Int32) :=
  f291_64 l0 l1 l2 l4 0
theorem f291_63_ok {l0 : Nat} {l1 : Int32} {l2 : Int32} {l4 : Int32} {h : q_H} {o : q_O} {hz : q_H} {x : ((Nat × Int32 × Int32 × Int32 × Int32) ⊕ Int32) × q_H} (hf : f291_63 l0 l1 l2 l4 h = some x) (hK : (m_yK (fun (s : Nat × Int32 × Int32 × Int32 × Int32) (h : q_H) => q_Ev none 291 5 [(0, .ref (s.1)), (1, .int (s.2.1)), (2, .int (s.2.2.1)), (3, .int (s.2.2.2.1)), (4, .int (s.2.2.2.2))] [] h o hz) (q_KI o hz)) x) : q_Ev none 291 63 [(0, .ref l0), (1, .int l1), (2, .int l2), (4, .int l4)] [] h o hz := by
  unfold f291_63 at hf
  refine ev_ic (v := 0) (q_cod qk291 rfl) (by decide) (by decide) ?_
  exact (f291_64_ok hf hK)
def f291_59 (l0 : Nat) (l1 : Int32) (l2 : Int32) (l4 : Int32) : m_M ((Nat × Int32 × Int32 × Int32 × Int32) ⊕ Int32) :=
  f291_64 l0 l1 l2 l4 1
theorem f291_59_ok {l0 : Nat} {l1 : Int32} {l2 : Int32} {l4 : Int32} {h : q_H} {o : q_O} {hz : q_H} {x : ((Nat × Int32 × Int32 × Int32 × Int32) ⊕ Int32) × q_H} (hf : f291_59 l0 l1 l2 l4 h = some x) (hK : (m_yK (fun (s : Nat × Int32 × Int32 × Int32 × Int32) (h : q_H) => q_Ev none 291 5 [(0, .ref (s.1)), (1, .int (s.2.1)), (2, .int (s.2.2.1)), (3, .int (s.2.2.2.1)), (4, .int (s.2.2.2.2))] [] h o hz) (q_KI o hz)) x) : q_Ev none 291 59 [(0, .ref l0), (1, .int l1), (2, .int l2), (4, .int l4)] [] h o hz := by
  unfold f291_59 at hf
  refine ev_ic (v := 1) (q_cod qk291 rfl) (by decide) (by decide) ?_
  refine ev_goto (q_cod qk291 rfl) (by decide) ?_
  exact (f291_64_ok hf hK)
def f291_71 (l3 : Int32) : m_M Int32 :=
  m_B (m_G (l3 = 0 ∨ l3 = 1)) (fun _ => m_R l3)
theorem f291_71_ok {l3 : Int32} {h : q_H} {o : q_O} {hz : q_H} {x : Int32 × q_H} (hf : f291_71 l3 h = some x) (hK : (q_KI o hz) x) : q_Ev none 291 71 [(3, .int l3)] [] h o hz := by
  unfold f291_71 at hf
  refine ev_iload_n (q_cod qk291 rfl) (by decide) rfl ?_
  obtain ⟨g1, hf⟩ := m_G_some hf
  obtain rfl := m_R_inv hf
  obtain ⟨rfl, rfl⟩ := (show q_KI o hz (l3, _) from hK)
  exact ev_ret (q_cod qk291 rfl) (q_retZ g1)
def f291_5b (l0 : Nat) (l1 : Int32) (l2 : Int32) (l3 : Int32) (l4 : Int32) : m_M ((Nat × Int32 × Int32 × Int32 × Int32) ⊕ Int32) :=
  m_B (m_aK l0 12) (fun _ => m_B (f269 l0 l1 l2) (fun v2 => if l4 < (l2 + v2) then (if l3 = 0 then (m_B (m_aK l0 12) (fun _ => m_B (f199 l0 0 l1 l4) (fun v4 => if v4 = 6 then (m_B (m_aK l0 12) (fun _ => m_B (f268 l0 l1 l4) (fun v6 => m_B (f267 v6) (fun v7 => if v7 = 0 then (f291_63 l0 l1 l2 l4) else (m_B (m_aK l0 12) (fun _ => m_B (f268 l0 l1 l4) (fun v9 => if v9 < l2 then (f291_59 l0 l1 l2 l4) else (f291_63 l0 l1 l2 l4)))))))) else (f291_63 l0 l1 l2 l4)))) else (f291_59 l0 l1 l2 l4)) else (m_B (f291_71 l3) (fun r => m_R (.inr r)))))
theorem f291_5b_ok {l0 : Nat} {l1 : Int32} {l2 : Int32} {l3 : Int32} {l4 : Int32} {h : q_H} {o : q_O} {hz : q_H} {x : ((Nat × Int32 × Int32 × Int32 × Int32) ⊕ Int32) × q_H} (hf : f291_5b l0 l1 l2 l3 l4 h = some x) (hK : (m_yK (fun (s : Nat × Int32 × Int32 × Int32 × Int32) (h : q_H) => q_Ev none 291 5 [(0, .ref (s.1)), (1, .int (s.2.1)), (2, .int (s.2.2.1)), (3, .int (s.2.2.2.1)), (4, .int (s.2.2.2.2))] [] h o hz) (q_KI o hz)) x) : q_Ev none 291 5 [(0, .ref l0), (1, .int l1), (2, .int l2), (3, .int l3), (4, .int l4)] [] h o hz := by
  unfold f291_5b at hf
  refine ev_iload (q_cod qk291 rfl) (by decide) rfl ?_
  refine ev_iload_n (q_cod qk291 rfl) (by decide) rfl ?_
  refine ev_aload_n (q_cod qk291 rfl) (by decide) rfl ?_
  refine ev_iload_n (q_cod qk291 rfl) (by decide) rfl ?_
  refine ev_iload_n (q_cod qk291 rfl) (by decide) rfl ?_
  obtain ⟨g1, hf⟩ := m_aK_some hf
  refine em_call (v := (fun u => some (.int u))) (q_cod qk291 rfl) rfl rfl (q_cokV rfl rfl (Or.inr g1)) rfl (fun x e => f269_cl e) hf (fun v2 h hf => ?_)
  refine ev_iadd (q_cod qk291 rfl) (by decide) ?_
  refine em_ic_ge (q_cod qk291 rfl) (by decide) hf (fun c14 hf => ?_) (fun c14 hf => ?_)
  · refine ev_iload_n (q_cod qk291 rfl) (by decide) rfl ?_
    refine em_if_ne (q_cod qk291 rfl) (by decide) hf (fun c13 hf => ?_) (fun c13 hf => ?_)
    · refine ev_aload_n (q_cod qk291 rfl) (by decide) rfl ?_
      refine ev_ic (v := 0) (q_cod qk291 rfl) (by decide) (by decide) ?_
      refine ev_iload_n (q_cod qk291 rfl) (by decide) rfl ?_
      refine ev_iload (q_cod qk291 rfl) (by decide) rfl ?_
      obtain ⟨g3, hf⟩ := m_aK_some hf
      refine em_call (v := (fun u => some (.int u))) (q_cod qk291 rfl) rfl rfl (q_cokV rfl rfl (Or.inr g3)) rfl (fun x e => f199_cl e) hf (fun v4 h hf => ?_)
      refine ev_bi (v := 6) (q_cod qk291 rfl) (by decide) (by decide) ?_
      refine em_ic_ne (q_cod qk291 rfl) (by decide) hf (fun c12 hf => ?_) (fun c12 hf => ?_)
      · refine ev_aload_n (q_cod qk291 rfl) (by decide) rfl ?_
        refine ev_iload_n (q_cod qk291 rfl) (by decide) rfl ?_
        refine ev_iload (q_cod qk291 rfl) (by decide) rfl ?_
        obtain ⟨g5, hf⟩ := m_aK_some hf
        refine em_call (v := (fun u => some (.int u))) (q_cod qk291 rfl) rfl rfl (q_cokV rfl rfl (Or.inr g5)) rfl (fun x e => f268_cl e) hf (fun v6 h hf => ?_)
        refine em_call (v := (fun u => some (.int u))) (q_cod qk291 rfl) rfl rfl (q_cokS rfl rfl) rfl (fun x e => f267_cl e) hf (fun v7 h hf => ?_)
        refine em_if_eq (q_cod qk291 rfl) (by decide) hf (fun c11 hf => ?_) (fun c11 hf => ?_)
        · exact ev_weak (q_pk [0, 1, 2, 4] rfl) (f291_63_ok hf hK)
        · refine ev_aload_n (q_cod qk291 rfl) (by decide) rfl ?_
          refine ev_iload_n (q_cod qk291 rfl) (by decide) rfl ?_
          refine ev_iload (q_cod qk291 rfl) (by decide) rfl ?_
          obtain ⟨g8, hf⟩ := m_aK_some hf
          refine em_call (v := (fun u => some (.int u))) (q_cod qk291 rfl) rfl rfl (q_cokV rfl rfl (Or.inr g8)) rfl (fun x e => f268_cl e) hf (fun v9 h hf => ?_)
          refine ev_iload_n (q_cod qk291 rfl) (by decide) rfl ?_
          refine em_ic_ge (q_cod qk291 rfl) (by decide) hf (fun c10 hf => ?_) (fun c10 hf => ?_)
          · exact ev_weak (q_pk [0, 1, 2, 4] rfl) (f291_59_ok hf hK)
          · exact ev_weak (q_pk [0, 1, 2, 4] rfl) (f291_63_ok hf hK)
      · exact ev_weak (q_pk [0, 1, 2, 4] rfl) (f291_63_ok hf hK)
    · exact ev_weak (q_pk [0, 1, 2, 4] rfl) (f291_59_ok hf hK)
  · obtain ⟨y0, hf0, hx⟩ := m_inr_some hf
    subst hx
    exact ev_weak (q_pk [3] rfl) (f291_71_ok hf0 hK)
def f291_5 (l0 : Nat) (l1 : Int32) (l2 : Int32) (l3 : Int32) (l4 : Int32) : m_M Int32 := m_W (fun s => f291_5b (s.1) (s.2.1) (s.2.2.1) (s.2.2.2.1) (s.2.2.2.2)) 1000000 (l0, l1, l2, l3, l4)
theorem f291_5_ok {l0 : Nat} {l1 : Int32} {l2 : Int32} {l3 : Int32} {l4 : Int32} {h : q_H} {o : q_O} {hz : q_H} {x : Int32 × q_H} (hf : f291_5 l0 l1 l2 l3 l4 h = some x) (hK : (q_KI o hz) x) : q_Ev none 291 5 [(0, .ref l0), (1, .int l1), (2, .int l2), (3, .int l3), (4, .int l4)] [] h o hz :=
  m_W_ok (P := (fun (s : Nat × Int32 × Int32 × Int32 × Int32) (h : q_H) => q_Ev none 291 5 [(0, .ref (s.1)), (1, .int (s.2.1)), (2, .int (s.2.2.1)), (3, .int (s.2.2.2.1)), (4, .int (s.2.2.2.2))] [] h o hz)) (K := (q_KI o hz)) (fun s h x h1 h2 => f291_5b_ok h1 h2) _ (l0, l1, l2, l3, l4) _ _ hf hK
def f291 (l0 : Nat) (l1 : Int32) (l2 : Int32) : m_M Int32 :=
  f291_5 l0 l1 l2 0 l2
theorem f291_ok {l0 : Nat} {l1 : Int32} {l2 : Int32} {h : q_H} {o : q_O} {hz : q_H} {x : Int32 × q_H} (hf : f291 l0 l1 l2 h = some x) (hK : (q_KI o hz) x) : q_Ev none 291 0 [(0, .ref l0), (1, .int l1), (2, .int l2)] [] h o hz := by
  unfold f291 at hf
  refine ev_ic (v := 0) (q_cod qk291 rfl) (by decide) (by decide) ?_
  refine ev_is1 (L' := [(0, .ref l0), (1, .int l1), (2, .int l2), (3, .int 0)]) (q_cod qk291 rfl) (by decide) rfl ?_
  refine ev_iload_n (q_cod qk291 rfl) (by decide) rfl ?_
  refine ev_is2 (L' := [(0, .ref l0), (1, .int l1), (2, .int l2), (3, .int 0), (4, .int l2)]) (q_cod qk291 rfl) (by decide) rfl ?_
  exact (f291_5_ok hf hK)
theorem f291_cl {l0 : Nat} {l1 : Int32} {l2 : Int32} {h : q_H} {x : Int32 × q_H} (hf : f291 l0 l1 l2 h = some x) : q_Cl 291 [.ref l0, .int l1, .int l2] h (.inl (some (.int x.1))) x.2 := q_Cl.of rfl (q_LvS rfl rfl) (f291_ok hf ⟨rfl, rfl⟩)
/-! SmithyBenchModel.replaceLikes(IIII)I -/
theorem qk293 : q_cs.getD 293 [] = qc_293 := rfl
def f293_88 (l0 : Nat) (l1 : Int32) (l2 : Int32) (l3 : Int32) (l4 : Int32) (l5 : Int32) (l6 : Int32) : m_M ((Nat × Int32 × Int32 × Int32 × Int32 × Int32 × Int32) ⊕ Int32) :=
  m_B (m_aK l0 12) (fun _ => m_B (f269 l0 l3 l6) (fun v2 => m_R (.inl (l0, l1, l2, l3, l4, (l5 + 1), (l6 + v2)))))
theorem f293_88_ok {l0 : Nat} {l1 : Int32} {l2 : Int32} {l3 : Int32} {l4 : Int32} {l5 : Int32} {l6 : Int32} {h : q_H} {o : q_O} {hz : q_H} {x : ((Nat × Int32 × Int32 × Int32 × Int32 × Int32 × Int32) ⊕ Int32) × q_H} (hf : f293_88 l0 l1 l2 l3 l4 l5 l6 h = some x) (hK : (m_yK (fun (s : Nat × Int32 × Int32 × Int32 × Int32 × Int32 × Int32) (h : q_H) => q_Ev none 293 11 [(0, .ref (s.1)), (1, .int (s.2.1)), (2, .int (s.2.2.1)), (3, .int (s.2.2.2.1)), (4, .int (s.2.2.2.2.1)), (5, .int (s.2.2.2.2.2.1)), (6, .int (s.2.2.2.2.2.2))] [] h o hz) (q_KI o hz)) x) : q_Ev none 293 88 [(0, .ref l0), (1, .int l1), (2, .int l2), (3, .int l3), (4, .int l4), (5, .int l5), (6, .int l6)] [] h o hz := by
  unfold f293_88 at hf
  refine ev_inc (v := l5 + 1) (L' := [(0, .ref l0), (1, .int l1), (2, .int l2), (3, .int l3), (4, .int l4), (5, .int (l5 + 1)), (6, .int l6)]) (q_cod qk293 rfl) (by decide) rfl rfl rfl ?_
  refine ev_iload (q_cod qk293 rfl) (by decide) rfl ?_
  refine ev_aload_n (q_cod qk293 rfl) (by decide) rfl ?_
  refine ev_iload_n (q_cod qk293 rfl) (by decide) rfl ?_
  refine ev_iload (q_cod qk293 rfl) (by decide) rfl ?_
  obtain ⟨g1, hf⟩ := m_aK_some hf
  refine em_call (v := (fun u => some (.int u))) (q_cod qk293 rfl) rfl rfl (q_cokV rfl rfl (Or.inr g1)) rfl (fun x e => f269_cl e) hf (fun v2 h hf => ?_)
  refine ev_iadd (q_cod qk293 rfl) (by decide) ?_
  refine ev_is2 (L' := [(0, .ref l0), (1, .int l1), (2, .int l2), (3, .int l3), (4, .int l4), (5, .int (l5 + 1)), (6, .int (l6 + v2))]) (q_cod qk293 rfl) (by decide) rfl ?_
  refine ev_goto (q_cod qk293 rfl) (by decide) ?_
  obtain rfl := m_R_inv hf
  exact (show q_Ev none 293 11 [(0, .ref l0), (1, .int l1), (2, .int l2), (3, .int l3), (4, .int l4), (5, .int (l5 + 1)), (6, .int (l6 + v2))] [] _ o hz from hK)
def f293_55b (l0 : Nat) (l1 : Int32) (l2 : Int32) (l3 : Int32) (l4 : Int32) (l5 : Int32) (l6 : Int32) (l7 : Int32) : m_M ((Nat × Int32 × Int32 × Int32 × Int32 × Int32 × Int32 × Int32) ⊕ ((Nat × Int32 × Int32 × Int32 × Int32 × Int32 × Int32) ⊕ Int32)) :=
  m_B (m_gI 12 l0 42) (fun v1 => if l7 < v1 then (m_B (m_gR 12 l0 45) (fun r2 => m_B (m_lI r2 l7) (fun v3 => m_B (m_aK l0 12) (fun _ => m_B (f287 l0 l3 v3) (fun v5 => m_B (m_aK l0 12) (fun _ => m_B (f260 l0 1 v5 0) (fun _ => m_R (.inl (l0, l1, l2, l3, l4, l5, l6, (l7 + 1)))))))))) else (m_B (f293_88 l0 l1 l2 l3 l4 l5 l6) (fun r => m_R (.inr r))))
theorem f293_55b_ok {l0 : Nat} {l1 : Int32} {l2 : Int32} {l3 : Int32} {l4 : Int32} {l5 : Int32} {l6 : Int32} {l7 : Int32} {h : q_H} {o : q_O} {hz : q_H} {x : ((Nat × Int32 × Int32 × Int32 × Int32 × Int32 × Int32 × Int32) ⊕ ((Nat × Int32 × Int32 × Int32 × Int32 × Int32 × Int32) ⊕ Int32)) × q_H} (hf : f293_55b l0 l1 l2 l3 l4 l5 l6 l7 h = some x) (hK : (m_yK (fun (s : Nat × Int32 × Int32 × Int32 × Int32 × Int32 × Int32 × Int32) (h : q_H) => q_Ev none 293 55 [(0, .ref (s.1)), (1, .int (s.2.1)), (2, .int (s.2.2.1)), (3, .int (s.2.2.2.1)), (4, .int (s.2.2.2.2.1)), (5, .int (s.2.2.2.2.2.1)), (6, .int (s.2.2.2.2.2.2.1)), (7, .int (s.2.2.2.2.2.2.2))] [] h o hz) (m_yK (fun (s : Nat × Int32 × Int32 × Int32 × Int32 × Int32 × Int32) (h : q_H) => q_Ev none 293 11 [(0, .ref (s.1)), (1, .int (s.2.1)), (2, .int (s.2.2.1)), (3, .int (s.2.2.2.1)), (4, .int (s.2.2.2.2.1)), (5, .int (s.2.2.2.2.2.1)), (6, .int (s.2.2.2.2.2.2))] [] h o hz) (q_KI o hz))) x) : q_Ev none 293 55 [(0, .ref l0), (1, .int l1), (2, .int l2), (3, .int l3), (4, .int l4), (5, .int l5), (6, .int l6), (7, .int l7)] [] h o hz := by
  unfold f293_55b at hf
  refine ev_iload (q_cod qk293 rfl) (by decide) rfl ?_
  refine ev_aload_n (q_cod qk293 rfl) (by decide) rfl ?_
  refine em_gI (q_cod qk293 rfl) (by decide) (by decide) hf (fun v1 hf => ?_)
  refine em_ic_ge (q_cod qk293 rfl) (by decide) hf (fun c8 hf => ?_) (fun c8 hf => ?_)
  · refine ev_aload_n (q_cod qk293 rfl) (by decide) rfl ?_
    refine ev_ic (v := 1) (q_cod qk293 rfl) (by decide) (by decide) ?_
    refine ev_aload_n (q_cod qk293 rfl) (by decide) rfl ?_
    refine ev_iload_n (q_cod qk293 rfl) (by decide) rfl ?_
    refine ev_aload_n (q_cod qk293 rfl) (by decide) rfl ?_
    refine em_gR (q_cod qk293 rfl) (by decide) (by decide) hf (fun r2 hf => ?_)
    refine ev_iload (q_cod qk293 rfl) (by decide) rfl ?_
    refine em_lI (q_cod qk293 rfl) (by decide) hf (fun v3 hf => ?_)
    obtain ⟨g4, hf⟩ := m_aK_some hf
    refine em_call (v := (fun u => some (.int u))) (q_cod qk293 rfl) rfl rfl (q_cokV rfl rfl (Or.inr g4)) rfl (fun x e => f287_cl e) hf (fun v5 h hf => ?_)
    refine ev_ic (v := 0) (q_cod qk293 rfl) (by decide) (by decide) ?_
    obtain ⟨g6, hf⟩ := m_aK_some hf
    refine em_call (v := (fun _ => none)) (q_cod qk293 rfl) rfl rfl (q_cokV rfl rfl (Or.inr g6)) rfl (fun x e => f260_cl e) hf (fun _ h hf => ?_)
    refine ev_inc (v := l7 + 1) (L' := [(0, .ref l0), (1, .int l1), (2, .int l2), (3, .int l3), (4, .int l4), (5, .int l5), (6, .int l6), (7, .int (l7 + 1))]) (q_cod qk293 rfl) (by decide) rfl rfl rfl ?_
    refine ev_goto (q_cod qk293 rfl) (by decide) ?_
    obtain rfl := m_R_inv hf
    exact (show q_Ev none 293 55 [(0, .ref l0), (1, .int l1), (2, .int l2), (3, .int l3), (4, .int l4), (5, .int l5), (6, .int l6), (7, .int (l7 + 1))] [] _ o hz from hK)
  · obtain ⟨y0, hf0, hx⟩ := m_inr_some hf
    subst hx
    exact ev_weak (q_pk [0, 1, 2, 3, 4, 5, 6] rfl) (f293_88_ok hf0 hK)
def f293_55 (l0 : Nat) (l1 : Int32) (l2 : Int32) (l3 : Int32) (l4 : Int32) (l5 : Int32) (l6 : Int32) (l7 : Int32) : m_M ((Nat × Int32 × Int32 × Int32 × Int32 × Int32 × Int32) ⊕ Int32) := m_W (fun s => f293_55b (s.1) (s.2.1) (s.2.2.1) (s.2.2.2.1) (s.2.2.2.2.1) (s.2.2.2.2.2.1) (s.2.2.2.2.2.2.1) (s.2.2.2.2.2.2.2)) 1000000 (l0, l1, l2, l3, l4, l5, l6, l7)
theorem f293_55_ok {l0 : Nat} {l1 : Int32} {l2 : Int32} {l3 : Int32} {l4 : Int32} {l5 : Int32} {l6 : Int32} {l7 : Int32} {h : q_H} {o : q_O} {hz : q_H} {x : ((Nat × Int32 × Int32 × Int32 × Int32 × Int32 × Int32) ⊕ Int32) × q_H} (hf : f293_55 l0 l1 l2 l3 l4 l5 l6 l7 h = some x) (hK : (m_yK (fun (s : Nat × Int32 × Int32 × Int32 × Int32 × Int32 × Int32) (h : q_H) => q_Ev none 293 11 [(0, .ref (s.1)), (1, .int (s.2.1)), (2, .int (s.2.2.1)), (3, .int (s.2.2.2.1)), (4, .int (s.2.2.2.2.1)), (5, .int (s.2.2.2.2.2.1)), (6, .int (s.2.2.2.2.2.2))] [] h o hz) (q_KI o hz)) x) : q_Ev none 293 55 [(0, .ref l0), (1, .int l1), (2, .int l2), (3, .int l3), (4, .int l4), (5, .int l5), (6, .int l6), (7, .int l7)] [] h o hz :=
  m_W_ok (P := (fun (s : Nat × Int32 × Int32 × Int32 × Int32 × Int32 × Int32 × Int32) (h : q_H) => q_Ev none 293 55 [(0, .ref (s.1)), (1, .int (s.2.1)), (2, .int (s.2.2.1)), (3, .int (s.2.2.2.1)), (4, .int (s.2.2.2.2.1)), (5, .int (s.2.2.2.2.2.1)), (6, .int (s.2.2.2.2.2.2.1)), (7, .int (s.2.2.2.2.2.2.2))] [] h o hz)) (K := (m_yK (fun (s : Nat × Int32 × Int32 × Int32 × Int32 × Int32 × Int32) (h : q_H) => q_Ev none 293 11 [(0, .ref (s.1)), (1, .int (s.2.1)), (2, .int (s.2.2.1)), (3, .int (s.2.2.2.1)), (4, .int (s.2.2.2.2.1)), (5, .int (s.2.2.2.2.2.1)), (6, .int (s.2.2.2.2.2.2))] [] h o hz) (q_KI o hz))) (fun s h x h1 h2 => f293_55b_ok h1 h2) _ (l0, l1, l2, l3, l4, l5, l6, l7) _ _ hf hK
def f293_119 (l0 : Nat) (l3 : Int32) (l5 : Int32) : m_M Int32 :=
  m_B (m_aK l0 12) (fun _ => m_B (f264 l0 l3) (fun _ => m_R l5))
theorem f293_119_ok {l0 : Nat} {l3 : Int32} {l5 : Int32} {h : q_H} {o : q_O} {hz : q_H} {x : Int32 × q_H} (hf : f293_119 l0 l3 l5 h = some x) (hK : (q_KI o hz) x) : q_Ev none 293 119 [(0, .ref l0), (3, .int l3), (5, .int l5)] [] h o hz := by
  unfold f293_119 at hf
  refine ev_aload_n (q_cod qk293 rfl) (by decide) rfl ?_
  refine ev_iload_n (q_cod qk293 rfl) (by decide) rfl ?_
  obtain ⟨g1, hf⟩ := m_aK_some hf
  refine em_call (v := (fun _ => none)) (q_cod qk293 rfl) rfl rfl (q_cokV rfl rfl (Or.inr g1)) rfl (fun x e => f264_cl e) hf (fun _ h hf => ?_)
  refine ev_iload (q_cod qk293 rfl) (by decide) rfl ?_
  obtain rfl := m_R_inv hf
  obtain ⟨rfl, rfl⟩ := (show q_KI o hz (l5, _) from hK)
  exact ev_ret (q_cod qk293 rfl) rfl
def f293_11b (l0 : Nat) (l1 : Int32) (l2 : Int32) (l3 : Int32) (l4 : Int32) (l5 : Int32) (l6 : Int32) : m_M ((Nat × Int32 × Int32 × Int32 × Int32 × Int32 × Int32) ⊕ Int32) :=
  m_B (m_aK l0 12) (fun _ => m_B (f270 l0 l3) (fun v2 => if l6 < v2 then (m_B (m_aK l0 12) (fun _ => m_B (f289 l0 l1 l2 l3 l6) (fun v4 => if v4 = 0 then (m_B (m_aK l0 12) (fun _ => m_B (f261 l0 l3 l6) (fun _ => m_R (.inl (l0, l1, l2, l3, l4, l5, (l6 + 1)))))) else (m_B (m_gI 12 l0 42) (fun v7 => m_B (m_aK l0 12) (fun _ => m_B (f260 l0 7 l4 v7) (fun _ => m_B (m_aK l0 12) (fun _ => m_B (f260 l0 2 0 0) (fun _ => f293_55 l0 l1 l2 l3 l4 l5 l6 0))))))))) else (m_B (f293_119 l0 l3 l5) (fun r => m_R (.inr r)))))
theorem f293_11b_ok {l0 : Nat} {l1 : Int32} {l2 : Int32} {l3 : Int32} {l4 : Int32} {l5 : Int32} {l6 : Int32} {h : q_H} {o : q_O} {hz : q_H} {x : ((Nat × Int32 × Int32 × Int32 × Int32 × Int32 × Int32) ⊕ Int32) × q_H} (hf : f293_11b l0 l1 l2 l3 l4 l5 l6 h = some x) (hK : (m_yK (fun (s : Nat × Int32 × Int32 × Int32 × Int32 × Int32 × Int32) (h : q_H) => q_Ev none 293 11 [(0, .ref (s.1)), (1, .int (s.2.1)), (2, .int (s.2.2.1)), (3, .int (s.2.2.2.1)), (4, .int (s.2.2.2.2.1)), (5, .int (s.2.2.2.2.2.1)), (6, .int (s.2.2.2.2.2.2))] [] h o hz) (q_KI o hz)) x) : q_Ev none 293 11 [(0, .ref l0), (1, .int l1), (2, .int l2), (3, .int l3), (4, .int l4), (5, .int l5), (6, .int l6)] [] h o hz := by
  unfold f293_11b at hf
  refine ev_iload (q_cod qk293 rfl) (by decide) rfl ?_
  refine ev_aload_n (q_cod qk293 rfl) (by decide) rfl ?_
  refine ev_iload_n (q_cod qk293 rfl) (by decide) rfl ?_
  obtain ⟨g1, hf⟩ := m_aK_some hf
  refine em_call (v := (fun u => some (.int u))) (q_cod qk293 rfl) rfl rfl (q_cokV rfl rfl (Or.inr g1)) rfl (fun x e => f270_cl e) hf (fun v2 h hf => ?_)
  refine em_ic_ge (q_cod qk293 rfl) (by decide) hf (fun c13 hf => ?_) (fun c13 hf => ?_)
  · refine ev_aload_n (q_cod qk293 rfl) (by decide) rfl ?_
    refine ev_iload_n (q_cod qk293 rfl) (by decide) rfl ?_
    refine ev_iload_n (q_cod qk293 rfl) (by decide) rfl ?_
    refine ev_iload_n (q_cod qk293 rfl) (by decide) rfl ?_
    refine ev_iload (q_cod qk293 rfl) (by decide) rfl ?_
    obtain ⟨g3, hf⟩ := m_aK_some hf
    refine em_call (v := (fun u => some (.int u))) (q_cod qk293 rfl) rfl rfl (q_cokV rfl rfl (Or.inr g3)) rfl (fun x e => f289_cl e) hf (fun v4 h hf => ?_)
    refine em_if_eq (q_cod qk293 rfl) (by decide) hf (fun c12 hf => ?_) (fun c12 hf => ?_)
    · refine ev_aload_n (q_cod qk293 rfl) (by decide) rfl ?_
      refine ev_iload_n (q_cod qk293 rfl) (by decide) rfl ?_
      refine ev_iload (q_cod qk293 rfl) (by decide) rfl ?_
      obtain ⟨g5, hf⟩ := m_aK_some hf
      refine em_call (v := (fun _ => none)) (q_cod qk293 rfl) rfl rfl (q_cokV rfl rfl (Or.inr g5)) rfl (fun x e => f261_cl e) hf (fun _ h hf => ?_)
      refine ev_inc (v := l6 + 1) (L' := [(0, .ref l0), (1, .int l1), (2, .int l2), (3, .int l3), (4, .int l4), (5, .int l5), (6, .int (l6 + 1))]) (q_cod qk293 rfl) (by decide) rfl rfl rfl ?_
      refine ev_goto (q_cod qk293 rfl) (by decide) ?_
      obtain rfl := m_R_inv hf
      exact (show q_Ev none 293 11 [(0, .ref l0), (1, .int l1), (2, .int l2), (3, .int l3), (4, .int l4), (5, .int l5), (6, .int (l6 + 1))] [] _ o hz from hK)
    · refine ev_aload_n (q_cod qk293 rfl) (by decide) rfl ?_
      refine ev_bi (v := 7) (q_cod qk293 rfl) (by decide) (by decide) ?_
      refine ev_iload (q_cod qk293 rfl) (by decide) rfl ?_
      refine ev_aload_n (q_cod qk293 rfl) (by decide) rfl ?_
      refine em_gI (q_cod qk293 rfl) (by decide) (by decide) hf (fun v7 hf => ?_)
      obtain ⟨g8, hf⟩ := m_aK_some hf
      refine em_call (v := (fun _ => none)) (q_cod qk293 rfl) rfl rfl (q_cokV rfl rfl (Or.inr g8)) rfl (fun x e => f260_cl e) hf (fun _ h hf => ?_)
      refine ev_aload_n (q_cod qk293 rfl) (by decide) rfl ?_
      refine ev_ic (v := 2) (q_cod qk293 rfl) (by decide) (by decide) ?_
      refine ev_ic (v := 0) (q_cod qk293 rfl) (by decide) (by decide) ?_
      refine ev_ic (v := 0) (q_cod qk293 rfl) (by decide) (by decide) ?_
      obtain ⟨g10, hf⟩ := m_aK_some hf
      refine em_call (v := (fun _ => none)) (q_cod qk293 rfl) rfl rfl (q_cokV rfl rfl (Or.inr g10)) rfl (fun x e => f260_cl e) hf (fun _ h hf => ?_)
      refine ev_ic (v := 0) (q_cod qk293 rfl) (by decide) (by decide) ?_
      refine ev_is2 (L' := [(0, .ref l0), (1, .int l1), (2, .int l2), (3, .int l3), (4, .int l4), (5, .int l5), (6, .int l6), (7, .int 0)]) (q_cod qk293 rfl) (by decide) rfl ?_
      exact (f293_55_ok hf hK)
  · obtain ⟨y0, hf0, hx⟩ := m_inr_some hf
    subst hx
    exact ev_weak (q_pk [0, 3, 5] rfl) (f293_119_ok hf0 hK)
def f293_11 (l0 : Nat) (l1 : Int32) (l2 : Int32) (l3 : Int32) (l4 : Int32) (l5 : Int32) (l6 : Int32) : m_M Int32 := m_W (fun s => f293_11b (s.1) (s.2.1) (s.2.2.1) (s.2.2.2.1) (s.2.2.2.2.1) (s.2.2.2.2.2.1) (s.2.2.2.2.2.2)) 1000000 (l0, l1, l2, l3, l4, l5, l6)
theorem f293_11_ok {l0 : Nat} {l1 : Int32} {l2 : Int32} {l3 : Int32} {l4 : Int32} {l5 : Int32} {l6 : Int32} {h : q_H} {o : q_O} {hz : q_H} {x : Int32 × q_H} (hf : f293_11 l0 l1 l2 l3 l4 l5 l6 h = some x) (hK : (q_KI o hz) x) : q_Ev none 293 11 [(0, .ref l0), (1, .int l1), (2, .int l2), (3, .int l3), (4, .int l4), (5, .int l5), (6, .int l6)] [] h o hz :=
  m_W_ok (P := (fun (s : Nat × Int32 × Int32 × Int32 × Int32 × Int32 × Int32) (h : q_H) => q_Ev none 293 11 [(0, .ref (s.1)), (1, .int (s.2.1)), (2, .int (s.2.2.1)), (3, .int (s.2.2.2.1)), (4, .int (s.2.2.2.2.1)), (5, .int (s.2.2.2.2.2.1)), (6, .int (s.2.2.2.2.2.2))] [] h o hz)) (K := (q_KI o hz)) (fun s h x h1 h2 => f293_11b_ok h1 h2) _ (l0, l1, l2, l3, l4, l5, l6) _ _ hf hK
def f293 (l0 : Nat) (l1 : Int32) (l2 : Int32) (l3 : Int32) (l4 : Int32) : m_M Int32 :=
  m_B (m_pI 12 l0 38 0) (fun _ => f293_11 l0 l1 l2 l3 l4 0 0)
theorem f293_ok {l0 : Nat} {l1 : Int32} {l2 : Int32} {l3 : Int32} {l4 : Int32} {h : q_H} {o : q_O} {hz : q_H} {x : Int32 × q_H} (hf : f293 l0 l1 l2 l3 l4 h = some x) (hK : (q_KI o hz) x) : q_Ev none 293 0 [(0, .ref l0), (1, .int l1), (2, .int l2), (3, .int l3), (4, .int l4)] [] h o hz := by
  unfold f293 at hf
  refine ev_ic (v := 0) (q_cod qk293 rfl) (by decide) (by decide) ?_
  refine ev_is2 (L' := [(0, .ref l0), (1, .int l1), (2, .int l2), (3, .int l3), (4, .int l4), (5, .int 0)]) (q_cod qk293 rfl) (by decide) rfl ?_
  refine ev_ic (v := 0) (q_cod qk293 rfl) (by decide) (by decide) ?_
  refine ev_is2 (L' := [(0, .ref l0), (1, .int l1), (2, .int l2), (3, .int l3), (4, .int l4), (5, .int 0), (6, .int 0)]) (q_cod qk293 rfl) (by decide) rfl ?_
  refine ev_aload_n (q_cod qk293 rfl) (by decide) rfl ?_
  refine ev_ic (v := 0) (q_cod qk293 rfl) (by decide) (by decide) ?_
  refine em_pI (q_cod qk293 rfl) (by decide) (by decide) (by decide) hf (fun hf => ?_)
  exact (f293_11_ok hf hK)
theorem f293_cl {l0 : Nat} {l1 : Int32} {l2 : Int32} {l3 : Int32} {l4 : Int32} {h : q_H} {x : Int32 × q_H} (hf : f293 l0 l1 l2 l3 l4 h = some x) : q_Cl 293 [.ref l0, .int l1, .int l2, .int l3, .int l4] h (.inl (some (.int x.1))) x.2 := q_Cl.of rfl (q_LvS rfl rfl) (f293_ok hf ⟨rfl, rfl⟩)
/-! SmithyBenchModel.extract(III)I -/
theorem qk292 : q_cs.getD 292 [] = qc_292 := rfl
def f292_340 (l0 : Nat) (l1 : Int32) (l2 : Int32) (l3 : Int32) (l4 : Int32) (l5 : Int32) (l7 : Int32) (s0 : Int32) (s1 : Int32) : m_M ((Nat × Int32 × Int32 × Int32 × Int32 × Int32 × Int32 × Int32) ⊕ Int32) :=
  m_R (.inl (l0, l1, l2, l3, l4, l5, (s0 + s1), (l7 + 1)))
set_option maxRecDepth 20000 in
theorem f292_340_ok {l0 : Nat} {l1 : Int32} {l2 : Int32} {l3 : Int32} {l4 : Int32} {l5 : Int32} {l7 : Int32} {s0 : Int32} {s1 : Int32} {h : q_H} {o : q_O} {hz : q_H} {x : ((Nat × Int32 × Int32 × Int32 × Int32 × Int32 × Int32 × Int32) ⊕ Int32) × q_H} (hf : f292_340 l0 l1 l2 l3 l4 l5 l7 s0 s1 h = some x) (hK : (m_yK (fun (s : Nat × Int32 × Int32 × Int32 × Int32 × Int32 × Int32 × Int32) (h : q_H) => q_Ev none 292 293 [(0, .ref (s.1)), (1, .int (s.2.1)), (2, .int (s.2.2.1)), (3, .int (s.2.2.2.1)), (4, .int (s.2.2.2.2.1)), (5, .int (s.2.2.2.2.2.1)), (6, .int (s.2.2.2.2.2.2.1)), (7, .int (s.2.2.2.2.2.2.2))] [] h o hz) (q_KI o hz)) x) : q_Ev none 292 340 [(0, .ref l0), (1, .int l1), (2, .int l2), (3, .int l3), (4, .int l4), (5, .int l5), (7, .int l7)] [.int s1, .int s0] h o hz := by
  unfold f292_340 at hf
  refine ev_iadd (q_cod qk292 rfl) (by decide) ?_
  refine ev_is2 (L' := [(0, .ref l0), (1, .int l1), (2, .int l2), (3, .int l3), (4, .int l4), (5, .int l5), (6, .int (s0 + s1)), (7, .int l7)]) (q_cod qk292 rfl) (by decide) rfl ?_
  refine ev_inc (v := l7 + 1) (L' := [(0, .ref l0), (1, .int l1), (2, .int l2), (3, .int l3), (4, .int l4), (5, .int l5), (6, .int (s0 + s1)), (7, .int (l7 + 1))]) (q_cod qk292 rfl) (by decide) rfl rfl rfl ?_
  refine ev_goto (q_cod qk292 rfl) (by decide) ?_
  obtain rfl := m_R_inv hf
  exact (show q_Ev none 292 293 [(0, .ref l0), (1, .int l1), (2, .int l2), (3, .int l3), (4, .int l4), (5, .int l5), (6, .int (s0 + s1)), (7, .int (l7 + 1))] [] _ o hz from hK)
def f292_339 (l0 : Nat) (l1 : Int32) (l2 : Int32) (l3 : Int32) (l4 : Int32) (l5 : Int32) (l7 : Int32) (s0 : Int32) : m_M ((Nat × Int32 × Int32 × Int32 × Int32 × Int32 × Int32 × Int32) ⊕ Int32) :=
  f292_340 l0 l1 l2 l3 l4 l5 l7 s0 0
set_option maxRecDepth 20000 in
theorem f292_339_ok {l0 : Nat} {l1 : Int32} {l2 : Int32} {l3 : Int32} {l4 : Int32} {l5 : Int32} {l7 : Int32} {s0 : Int32} {h : q_H} {o : q_O} {hz : q_H} {x : ((Nat × Int32 × Int32 × Int32 × Int32 × Int32 × Int32 × Int32) ⊕ Int32) × q_H} (hf : f292_339 l0 l1 l2 l3 l4 l5 l7 s0 h = some x) (hK : (m_yK (fun (s : Nat × Int32 × Int32 × Int32 × Int32 × Int32 × Int32 × Int32) (h : q_H) => q_Ev none 292 293 [(0, .ref (s.1)), (1, .int (s.2.1)), (2, .int (s.2.2.1)), (3, .int (s.2.2.2.1)), (4, .int (s.2.2.2.2.1)), (5, .int (s.2.2.2.2.2.1)), (6, .int (s.2.2.2.2.2.2.1)), (7, .int (s.2.2.2.2.2.2.2))] [] h o hz) (q_KI o hz)) x) : q_Ev none 292 339 [(0, .ref l0), (1, .int l1), (2, .int l2), (3, .int l3), (4, .int l4), (5, .int l5), (7, .int l7)] [.int s0] h o hz := by
  unfold f292_339 at hf
  refine ev_ic (v := 0) (q_cod qk292 rfl) (by decide) (by decide) ?_
  exact (f292_340_ok hf hK)
def f292_369 (s0 : Int32) : m_M Int32 :=
  m_R s0
set_option maxRecDepth 20000 in
theorem f292_369_ok {s0 : Int32} {h : q_H} {o : q_O} {hz : q_H} {x : Int32 × q_H} (hf : f292_369 s0 h = some x) (hK : (q_KI o hz) x) : q_Ev none 292 369 [] [.int s0] h o hz := by
  unfold f292_369 at hf
  obtain rfl := m_R_inv hf
  obtain ⟨rfl, rfl⟩ := (show q_KI o hz (s0, _) from hK)
  exact ev_ret (q_cod qk292 rfl) rfl
def f292_349 (l0 : Nat) (l5 : Int32) (l6 : Int32) : m_M Int32 :=
  m_B (m_aK l0 12) (fun _ => m_B (f271 l0) (fun v2 => if v2 = 0 then (f292_369 (-6)) else (f292_369 ((100 * l5) + l6))))
set_option maxRecDepth 20000 in
theorem f292_349_ok {l0 : Nat} {l5 : Int32} {l6 : Int32} {h : q_H} {o : q_O} {hz : q_H} {x : Int32 × q_H} (hf : f292_349 l0 l5 l6 h = some x) (hK : (q_KI o hz) x) : q_Ev none 292 349 [(0, .ref l0), (5, .int l5), (6, .int l6)] [] h o hz := by
  unfold f292_349 at hf
  refine ev_aload_n (q_cod qk292 rfl) (by decide) rfl ?_
  obtain ⟨g1, hf⟩ := m_aK_some hf
  refine em_call (v := (fun u => some (.int u))) (q_cod qk292 rfl) rfl rfl (q_cokV rfl rfl (Or.inr g1)) rfl (fun x e => f271_cl e) hf (fun v2 h hf => ?_)
  refine em_if_eq (q_cod qk292 rfl) (by decide) hf (fun c3 hf => ?_) (fun c3 hf => ?_)
  · refine ev_bi (v := (-6)) (q_cod qk292 rfl) (by decide) (by decide) ?_
    exact ev_weak (q_pk [] rfl) (f292_369_ok hf hK)
  · refine ev_bi (v := 100) (q_cod qk292 rfl) (by decide) (by decide) ?_
    refine ev_iload (q_cod qk292 rfl) (by decide) rfl ?_
    refine ev_imul (q_cod qk292 rfl) (by decide) ?_
    refine ev_iload (q_cod qk292 rfl) (by decide) rfl ?_
    refine ev_iadd (q_cod qk292 rfl) (by decide) ?_
    refine ev_goto (q_cod qk292 rfl) (by decide) ?_
    exact ev_weak (q_pk [] rfl) (f292_369_ok hf hK)
def f292_293b (l0 : Nat) (l1 : Int32) (l2 : Int32) (l3 : Int32) (l4 : Int32) (l5 : Int32) (l6 : Int32) (l7 : Int32) : m_M ((Nat × Int32 × Int32 × Int32 × Int32 × Int32 × Int32 × Int32) ⊕ Int32) :=
  if l7 < l5 then (m_B (m_aK l0 12) (fun _ => m_B (f196 l0 0 l7 0) (fun v2 => if v2 = 1 then (m_B (m_aK l0 12) (fun _ => m_B (f196 l0 0 l7 1) (fun v4 => if v4 = l4 then (m_B (m_aK l0 12) (fun _ => m_B (f293 l0 l1 l2 l7 l3) (fun v6 => f292_340 l0 l1 l2 l3 l4 l5 l7 l6 v6))) else (f292_339 l0 l1 l2 l3 l4 l5 l7 l6)))) else (f292_339 l0 l1 l2 l3 l4 l5 l7 l6)))) else (m_B (f292_349 l0 l5 l6) (fun r => m_R (.inr r)))
set_option maxRecDepth 20000 in
theorem f292_293b_ok {l0 : Nat} {l1 : Int32} {l2 : Int32} {l3 : Int32} {l4 : Int32} {l5 : Int32} {l6 : Int32} {l7 : Int32} {h : q_H} {o : q_O} {hz : q_H} {x : ((Nat × Int32 × Int32 × Int32 × Int32 × Int32 × Int32 × Int32) ⊕ Int32) × q_H} (hf : f292_293b l0 l1 l2 l3 l4 l5 l6 l7 h = some x) (hK : (m_yK (fun (s : Nat × Int32 × Int32 × Int32 × Int32 × Int32 × Int32 × Int32) (h : q_H) => q_Ev none 292 293 [(0, .ref (s.1)), (1, .int (s.2.1)), (2, .int (s.2.2.1)), (3, .int (s.2.2.2.1)), (4, .int (s.2.2.2.2.1)), (5, .int (s.2.2.2.2.2.1)), (6, .int (s.2.2.2.2.2.2.1)), (7, .int (s.2.2.2.2.2.2.2))] [] h o hz) (q_KI o hz)) x) : q_Ev none 292 293 [(0, .ref l0), (1, .int l1), (2, .int l2), (3, .int l3), (4, .int l4), (5, .int l5), (6, .int l6), (7, .int l7)] [] h o hz := by
  unfold f292_293b at hf
  refine ev_iload (q_cod qk292 rfl) (by decide) rfl ?_
  refine ev_iload (q_cod qk292 rfl) (by decide) rfl ?_
  refine em_ic_ge (q_cod qk292 rfl) (by decide) hf (fun c9 hf => ?_) (fun c9 hf => ?_)
  · refine ev_iload (q_cod qk292 rfl) (by decide) rfl ?_
    refine ev_aload_n (q_cod qk292 rfl) (by decide) rfl ?_
    refine ev_ic (v := 0) (q_cod qk292 rfl) (by decide) (by decide) ?_
    refine ev_iload (q_cod qk292 rfl) (by decide) rfl ?_
    refine ev_ic (v := 0) (q_cod qk292 rfl) (by decide) (by decide) ?_
    obtain ⟨g1, hf⟩ := m_aK_some hf
    refine em_call (v := (fun u => some (.int u))) (q_cod qk292 rfl) rfl rfl (q_cokV rfl rfl (Or.inr g1)) rfl (fun x e => f196_cl e) hf (fun v2 h hf => ?_)
    refine ev_ic (v := 1) (q_cod qk292 rfl) (by decide) (by decide) ?_
    refine em_ic_ne (q_cod qk292 rfl) (by decide) hf (fun c8 hf => ?_) (fun c8 hf => ?_)
    · refine ev_aload_n (q_cod qk292 rfl) (by decide) rfl ?_
      refine ev_ic (v := 0) (q_cod qk292 rfl) (by decide) (by decide) ?_
      refine ev_iload (q_cod qk292 rfl) (by decide) rfl ?_
      refine ev_ic (v := 1) (q_cod qk292 rfl) (by decide) (by decide) ?_
      obtain ⟨g3, hf⟩ := m_aK_some hf
      refine em_call (v := (fun u => some (.int u))) (q_cod qk292 rfl) rfl rfl (q_cokV rfl rfl (Or.inr g3)) rfl (fun x e => f196_cl e) hf (fun v4 h hf => ?_)
      refine ev_iload (q_cod qk292 rfl) (by decide) rfl ?_
      refine em_ic_ne (q_cod qk292 rfl) (by decide) hf (fun c7 hf => ?_) (fun c7 hf => ?_)
      · refine ev_aload_n (q_cod qk292 rfl) (by decide) rfl ?_
        refine ev_iload_n (q_cod qk292 rfl) (by decide) rfl ?_
        refine ev_iload_n (q_cod qk292 rfl) (by decide) rfl ?_
        refine ev_iload (q_cod qk292 rfl) (by decide) rfl ?_
        refine ev_iload_n (q_cod qk292 rfl) (by decide) rfl ?_
        obtain ⟨g5, hf⟩ := m_aK_some hf
        refine em_call (v := (fun u => some (.int u))) (q_cod qk292 rfl) rfl rfl (q_cokV rfl rfl (Or.inr g5)) rfl (fun x e => f293_cl e) hf (fun v6 h hf => ?_)
        refine ev_goto (q_cod qk292 rfl) (by decide) ?_
        exact ev_weak (q_pk [0, 1, 2, 3, 4, 5, 7] rfl) (f292_340_ok hf hK)
      · exact ev_weak (q_pk [0, 1, 2, 3, 4, 5, 7] rfl) (f292_339_ok hf hK)
    · exact ev_weak (q_pk [0, 1, 2, 3, 4, 5, 7] rfl) (f292_339_ok hf hK)
  · obtain ⟨y0, hf0, hx⟩ := m_inr_some hf
    subst hx
    exact ev_weak (q_pk [0, 5, 6] rfl) (f292_349_ok hf0 hK)
def f292_293 (l0 : Nat) (l1 : Int32) (l2 : Int32) (l3 : Int32) (l4 : Int32) (l5 : Int32) (l6 : Int32) (l7 : Int32) : m_M Int32 := m_W (fun s => f292_293b (s.1) (s.2.1) (s.2.2.1) (s.2.2.2.1) (s.2.2.2.2.1) (s.2.2.2.2.2.1) (s.2.2.2.2.2.2.1) (s.2.2.2.2.2.2.2)) 1000000 (l0, l1, l2, l3, l4, l5, l6, l7)
theorem f292_293_ok {l0 : Nat} {l1 : Int32} {l2 : Int32} {l3 : Int32} {l4 : Int32} {l5 : Int32} {l6 : Int32} {l7 : Int32} {h : q_H} {o : q_O} {hz : q_H} {x : Int32 × q_H} (hf : f292_293 l0 l1 l2 l3 l4 l5 l6 l7 h = some x) (hK : (q_KI o hz) x) : q_Ev none 292 293 [(0, .ref l0), (1, .int l1), (2, .int l2), (3, .int l3), (4, .int l4), (5, .int l5), (6, .int l6), (7, .int l7)] [] h o hz :=
  m_W_ok (P := (fun (s : Nat × Int32 × Int32 × Int32 × Int32 × Int32 × Int32 × Int32) (h : q_H) => q_Ev none 292 293 [(0, .ref (s.1)), (1, .int (s.2.1)), (2, .int (s.2.2.1)), (3, .int (s.2.2.2.1)), (4, .int (s.2.2.2.2.1)), (5, .int (s.2.2.2.2.2.1)), (6, .int (s.2.2.2.2.2.2.1)), (7, .int (s.2.2.2.2.2.2.2))] [] h o hz)) (K := (q_KI o hz)) (fun s h x h1 h2 => f292_293b_ok h1 h2) _ (l0, l1, l2, l3, l4, l5, l6, l7) _ _ hf hK
def f292_262 (l0 : Nat) (l1 : Int32) (l2 : Int32) (l3 : Int32) (l4 : Int32) (l5 : Int32) : m_M Int32 :=
  m_B (m_pI 12 l0 38 0) (fun _ => m_B (m_aK l0 12) (fun _ => m_B (f269 l0 l1 l2) (fun v2 => m_B (m_aK l0 12) (fun _ => m_B (f262 l0 l1 l2 (l2 + v2)) (fun _ => m_B (m_aK l0 12) (fun _ => m_B (f264 l0 l5) (fun _ => f292_293 l0 l1 l2 l3 l4 l5 0 0)))))))
set_option maxRecDepth 20000 in
theorem f292_262_ok {l0 : Nat} {l1 : Int32} {l2 : Int32} {l3 : Int32} {l4 : Int32} {l5 : Int32} {h : q_H} {o : q_O} {hz : q_H} {x : Int32 × q_H} (hf : f292_262 l0 l1 l2 l3 l4 l5 h = some x) (hK : (q_KI o hz) x) : q_Ev none 292 262 [(0, .ref l0), (1, .int l1), (2, .int l2), (3, .int l3), (4, .int l4), (5, .int l5)] [] h o hz := by
  unfold f292_262 at hf
  refine ev_aload_n (q_cod qk292 rfl) (by decide) rfl ?_
  refine ev_ic (v := 0) (q_cod qk292 rfl) (by decide) (by decide) ?_
  refine em_pI (q_cod qk292 rfl) (by decide) (by decide) (by decide) hf (fun hf => ?_)
  refine ev_aload_n (q_cod qk292 rfl) (by decide) rfl ?_
  refine ev_iload_n (q_cod qk292 rfl) (by decide) rfl ?_
  refine ev_iload_n (q_cod qk292 rfl) (by decide) rfl ?_
  refine ev_iload_n (q_cod qk292 rfl) (by decide) rfl ?_
  refine ev_aload_n (q_cod qk292 rfl) (by decide) rfl ?_
  refine ev_iload_n (q_cod qk292 rfl) (by decide) rfl ?_
  refine ev_iload_n (q_cod qk292 rfl) (by decide) rfl ?_
  obtain ⟨g1, hf⟩ := m_aK_some hf
  refine em_call (v := (fun u => some (.int u))) (q_cod qk292 rfl) rfl rfl (q_cokV rfl rfl (Or.inr g1)) rfl (fun x e => f269_cl e) hf (fun v2 h hf => ?_)
  refine ev_iadd (q_cod qk292 rfl) (by decide) ?_
  obtain ⟨g3, hf⟩ := m_aK_some hf
  refine em_call (v := (fun _ => none)) (q_cod qk292 rfl) rfl rfl (q_cokV rfl rfl (Or.inr g3)) rfl (fun x e => f262_cl e) hf (fun _ h hf => ?_)
  refine ev_aload_n (q_cod qk292 rfl) (by decide) rfl ?_
  refine ev_iload (q_cod qk292 rfl) (by decide) rfl ?_
  obtain ⟨g5, hf⟩ := m_aK_some hf
  refine em_call (v := (fun _ => none)) (q_cod qk292 rfl) rfl rfl (q_cokV rfl rfl (Or.inr g5)) rfl (fun x e => f264_cl e) hf (fun _ h hf => ?_)
  refine ev_ic (v := 0) (q_cod qk292 rfl) (by decide) (by decide) ?_
  refine ev_is2 (L' := [(0, .ref l0), (1, .int l1), (2, .int l2), (3, .int l3), (4, .int l4), (5, .int l5), (6, .int 0)]) (q_cod qk292 rfl) (by decide) rfl ?_
  refine ev_ic (v := 0) (q_cod qk292 rfl) (by decide) (by decide) ?_
  refine ev_is2 (L' := [(0, .ref l0), (1, .int l1), (2, .int l2), (3, .int l3), (4, .int l4), (5, .int l5), (6, .int 0), (7, .int 0)]) (q_cod qk292 rfl) (by decide) rfl ?_
  exact (f292_293_ok hf hK)
def f292_193b (l0 : Nat) (l1 : Int32) (l2 : Int32) (l3 : Int32) (l4 : Int32) (l5 : Int32) (l6 : Int32) : m_M ((Nat × Int32 × Int32 × Int32 × Int32 × Int32 × Int32) ⊕ Int32) :=
  m_B (m_gI 12 l0 42) (fun v1 => if l6 < v1 then (m_B (m_gR 12 l0 43) (fun r2 => m_B (m_lI r2 l6) (fun v3 => m_B (m_aK l0 12) (fun _ => m_B (f287 l0 l1 v3) (fun v5 => m_B (m_aK l0 12) (fun _ => m_B (f197 l0 2 l5 (4 + l6) v5) (fun _ => m_B (m_gR 12 l0 43) (fun r8 => m_B (m_lI r8 l6) (fun v9 => m_B (m_aK l0 12) (fun _ => m_B (f226 l0 0 l1 v9 v5) (fun v11 => m_B (m_aK l0 12) (fun _ => m_B (f197 l0 2 l5 (6 + l6) v11) (fun _ => m_R (.inl (l0, l1, l2, l3, l4, l5, (l6 + 1)))))))))))))))) else (m_B (f292_262 l0 l1 l2 l3 l4 l5) (fun r => m_R (.inr r))))
set_option maxRecDepth 20000 in
theorem f292_193b_ok {l0 : Nat} {l1 : Int32} {l2 : Int32} {l3 : Int32} {l4 : Int32} {l5 : Int32} {l6 : Int32} {h : q_H} {o : q_O} {hz : q_H} {x : ((Nat × Int32 × Int32 × Int32 × Int32 × Int32 × Int32) ⊕ Int32) × q_H} (hf : f292_193b l0 l1 l2 l3 l4 l5 l6 h = some x) (hK : (m_yK (fun (s : Nat × Int32 × Int32 × Int32 × Int32 × Int32 × Int32) (h : q_H) => q_Ev none 292 193 [(0, .ref (s.1)), (1, .int (s.2.1)), (2, .int (s.2.2.1)), (3, .int (s.2.2.2.1)), (4, .int (s.2.2.2.2.1)), (5, .int (s.2.2.2.2.2.1)), (6, .int (s.2.2.2.2.2.2))] [] h o hz) (q_KI o hz)) x) : q_Ev none 292 193 [(0, .ref l0), (1, .int l1), (2, .int l2), (3, .int l3), (4, .int l4), (5, .int l5), (6, .int l6)] [] h o hz := by
  unfold f292_193b at hf
  refine ev_iload (q_cod qk292 rfl) (by decide) rfl ?_
  refine ev_aload_n (q_cod qk292 rfl) (by decide) rfl ?_
  refine em_gI (q_cod qk292 rfl) (by decide) (by decide) hf (fun v1 hf => ?_)
  refine em_ic_ge (q_cod qk292 rfl) (by decide) hf (fun c14 hf => ?_) (fun c14 hf => ?_)
  · refine ev_aload_n (q_cod qk292 rfl) (by decide) rfl ?_
    refine ev_iload_n (q_cod qk292 rfl) (by decide) rfl ?_
    refine ev_aload_n (q_cod qk292 rfl) (by decide) rfl ?_
    refine em_gR (q_cod qk292 rfl) (by decide) (by decide) hf (fun r2 hf => ?_)
    refine ev_iload (q_cod qk292 rfl) (by decide) rfl ?_
    refine em_lI (q_cod qk292 rfl) (by decide) hf (fun v3 hf => ?_)
    obtain ⟨g4, hf⟩ := m_aK_some hf
    refine em_call (v := (fun u => some (.int u))) (q_cod qk292 rfl) rfl rfl (q_cokV rfl rfl (Or.inr g4)) rfl (fun x e => f287_cl e) hf (fun v5 h hf => ?_)
    refine ev_is2 (L' := [(0, .ref l0), (1, .int l1), (2, .int l2), (3, .int l3), (4, .int l4), (5, .int l5), (6, .int l6), (7, .int v5)]) (q_cod qk292 rfl) (by decide) rfl ?_
    refine ev_aload_n (q_cod qk292 rfl) (by decide) rfl ?_
    refine ev_ic (v := 2) (q_cod qk292 rfl) (by decide) (by decide) ?_
    refine ev_iload (q_cod qk292 rfl) (by decide) rfl ?_
    refine ev_ic (v := 4) (q_cod qk292 rfl) (by decide) (by decide) ?_
    refine ev_iload (q_cod qk292 rfl) (by decide) rfl ?_
    refine ev_iadd (q_cod qk292 rfl) (by decide) ?_
    refine ev_iload (q_cod qk292 rfl) (by decide) rfl ?_
    obtain ⟨g6, hf⟩ := m_aK_some hf
    refine em_call (v := (fun _ => none)) (q_cod qk292 rfl) rfl rfl (q_cokV rfl rfl (Or.inr g6)) rfl (fun x e => f197_cl e) hf (fun _ h hf => ?_)
    refine ev_aload_n (q_cod qk292 rfl) (by decide) rfl ?_
    refine ev_ic (v := 2) (q_cod qk292 rfl) (by decide) (by decide) ?_
    refine ev_iload (q_cod qk292 rfl) (by decide) rfl ?_
    refine ev_bi (v := 6) (q_cod qk292 rfl) (by decide) (by decide) ?_
    refine ev_iload (q_cod qk292 rfl) (by decide) rfl ?_
    refine ev_iadd (q_cod qk292 rfl) (by decide) ?_
    refine ev_aload_n (q_cod qk292 rfl) (by decide) rfl ?_
    refine ev_ic (v := 0) (q_cod qk292 rfl) (by decide) (by decide) ?_
    refine ev_iload_n (q_cod qk292 rfl) (by decide) rfl ?_
    refine ev_aload_n (q_cod qk292 rfl) (by decide) rfl ?_
    refine em_gR (q_cod qk292 rfl) (by decide) (by decide) hf (fun r8 hf => ?_)
    refine ev_iload (q_cod qk292 rfl) (by decide) rfl ?_
    refine em_lI (q_cod qk292 rfl) (by decide) hf (fun v9 hf => ?_)
    refine ev_iload (q_cod qk292 rfl) (by decide) rfl ?_
    obtain ⟨g10, hf⟩ := m_aK_some hf
    refine em_call (v := (fun u => some (.int u))) (q_cod qk292 rfl) rfl rfl (q_cokV rfl rfl (Or.inr g10)) rfl (fun x e => f226_cl e) hf (fun v11 h hf => ?_)
    obtain ⟨g12, hf⟩ := m_aK_some hf
    refine em_call (v := (fun _ => none)) (q_cod qk292 rfl) rfl rfl (q_cokV rfl rfl (Or.inr g12)) rfl (fun x e => f197_cl e) hf (fun _ h hf => ?_)
    refine ev_inc (v := l6 + 1) (L' := [(0, .ref l0), (1, .int l1), (2, .int l2), (3, .int l3), (4, .int l4), (5, .int l5), (6, .int (l6 + 1)), (7, .int v5)]) (q_cod qk292 rfl) (by decide) rfl rfl rfl ?_
    refine ev_goto (q_cod qk292 rfl) (by decide) ?_
    obtain rfl := m_R_inv hf
    exact ev_weak (q_pk [0, 1, 2, 3, 4, 5, 6] rfl) (show q_Ev none 292 193 [(0, .ref l0), (1, .int l1), (2, .int l2), (3, .int l3), (4, .int l4), (5, .int l5), (6, .int (l6 + 1))] [] _ o hz from hK)
  · obtain ⟨y0, hf0, hx⟩ := m_inr_some hf
    subst hx
    exact ev_weak (q_pk [0, 1, 2, 3, 4, 5] rfl) (f292_262_ok hf0 hK)
def f292_193 (l0 : Nat) (l1 : Int32) (l2 : Int32) (l3 : Int32) (l4 : Int32) (l5 : Int32) (l6 : Int32) : m_M Int32 := m_W (fun s => f292_193b (s.1) (s.2.1) (s.2.2.1) (s.2.2.2.1) (s.2.2.2.2.1) (s.2.2.2.2.2.1) (s.2.2.2.2.2.2)) 1000000 (l0, l1, l2, l3, l4, l5, l6)
theorem f292_193_ok {l0 : Nat} {l1 : Int32} {l2 : Int32} {l3 : Int32} {l4 : Int32} {l5 : Int32} {l6 : Int32} {h : q_H} {o : q_O} {hz : q_H} {x : Int32 × q_H} (hf : f292_193 l0 l1 l2 l3 l4 l5 l6 h = some x) (hK : (q_KI o hz) x) : q_Ev none 292 193 [(0, .ref l0), (1, .int l1), (2, .int l2), (3, .int l3), (4, .int l4), (5, .int l5), (6, .int l6)] [] h o hz :=
  m_W_ok (P := (fun (s : Nat × Int32 × Int32 × Int32 × Int32 × Int32 × Int32) (h : q_H) => q_Ev none 292 193 [(0, .ref (s.1)), (1, .int (s.2.1)), (2, .int (s.2.2.1)), (3, .int (s.2.2.2.1)), (4, .int (s.2.2.2.2.1)), (5, .int (s.2.2.2.2.2.1)), (6, .int (s.2.2.2.2.2.2))] [] h o hz)) (K := (q_KI o hz)) (fun s h x h1 h2 => f292_193b_ok h1 h2) _ (l0, l1, l2, l3, l4, l5, l6) _ _ hf hK
def f292_37 (l0 : Nat) (l1 : Int32) (l2 : Int32) (l3 : Int32) (s0 : Nat) (s1 : Int32) : m_M Int32 :=
  m_B (m_aK s0 12) (fun _ => m_B (f178 s0 s1) (fun v2 => if v2 = 0 then (m_B (m_aK l0 12) (fun _ => m_B (f196 l0 0 l1 1) (fun v4 => m_B (m_aK l0 12) (fun _ => m_B (f286 l0 l1 l2) (fun _ => m_B (m_gR 12 l0 12) (fun r7 => m_B (m_lI r7 ((192 * l1) + l2)) (fun v8 => if v8 = (-2) then (m_R (-10)) else (m_B (m_aK l0 12) (fun _ => m_B (f291 l0 l1 l2) (fun v10 => if v10 = 0 then (m_B (m_gI 12 l0 42) (fun v11 => if 2 < v11 then (m_R (-6)) else (m_B (m_gI 12 l0 42) (fun v12 => m_B (m_aK l0 12) (fun _ => m_B (f215 l0 0 v4 l3 v12) (fun v14 => if v14 = 0 then (m_B (m_aK l0 12) (fun _ => m_B (f265 l0) (fun v16 => if v16 = 24 then (m_R (-6)) else (m_B (m_aK l0 12) (fun _ => m_B (f203 l0 0 2) (fun _ => m_B (m_aK l0 12) (fun _ => m_B (f265 l0) (fun v20 => m_B (m_gR 12 l0 1) (fun r21 => m_B (m_lI r21 28401) (fun v22 => m_B (m_wI r21 28401 (v22 + 1)) (fun _ => m_B (m_gR 12 l0 12) (fun r23 => m_B (m_lI r23 ((192 * l1) + l2)) (fun v24 => m_B (m_aK l0 12) (fun _ => m_B (f220 l0 2 v20 v4 l3 v24) (fun _ => m_B (m_gI 12 l0 42) (fun v27 => m_B (m_aK l0 12) (fun _ => m_B (f197 l0 2 v20 3 v27) (fun _ => f292_193 l0 l1 l2 l3 v4 v20 0)))))))))))))))))) else (m_R (-1)))))))) else (m_R (-5)))))))))))) else (m_R 0)))
set_option maxRecDepth 20000 in
theorem f292_37_ok {l0 : Nat} {l1 : Int32} {l2 : Int32} {l3 : Int32} {s0 : Nat} {s1 : Int32} {h : q_H} {o : q_O} {hz : q_H} {x : Int32 × q_H} (hf : f292_37 l0 l1 l2 l3 s0 s1 h = some x) (hK : (q_KI o hz) x) : q_Ev none 292 37 [(0, .ref l0), (1, .int l1), (2, .int l2), (3, .int l3)] [.int s1, .ref s0] h o hz := by
  unfold f292_37 at hf
  obtain ⟨g1, hf⟩ := m_aK_some hf
  refine em_call (v := (fun u => some (.int u))) (q_cod qk292 rfl) rfl rfl (q_cokV rfl rfl (Or.inr g1)) rfl (fun x e => f178_cl e) hf (fun v2 h hf => ?_)
  refine em_if_eq (q_cod qk292 rfl) (by decide) hf (fun c35 hf => ?_) (fun c35 hf => ?_)
  · refine ev_aload_n (q_cod qk292 rfl) (by decide) rfl ?_
    refine ev_ic (v := 0) (q_cod qk292 rfl) (by decide) (by decide) ?_
    refine ev_iload_n (q_cod qk292 rfl) (by decide) rfl ?_
    refine ev_ic (v := 1) (q_cod qk292 rfl) (by decide) (by decide) ?_
    obtain ⟨g3, hf⟩ := m_aK_some hf
    refine em_call (v := (fun u => some (.int u))) (q_cod qk292 rfl) rfl rfl (q_cokV rfl rfl (Or.inr g3)) rfl (fun x e => f196_cl e) hf (fun v4 h hf => ?_)
    refine ev_is2 (L' := [(0, .ref l0), (1, .int l1), (2, .int l2), (3, .int l3), (4, .int v4)]) (q_cod qk292 rfl) (by decide) rfl ?_
    refine ev_aload_n (q_cod qk292 rfl) (by decide) rfl ?_
    refine ev_iload_n (q_cod qk292 rfl) (by decide) rfl ?_
    refine ev_iload_n (q_cod qk292 rfl) (by decide) rfl ?_
    obtain ⟨g5, hf⟩ := m_aK_some hf
    refine em_call (v := (fun _ => none)) (q_cod qk292 rfl) rfl rfl (q_cokV rfl rfl (Or.inr g5)) rfl (fun x e => f286_cl e) hf (fun _ h hf => ?_)
    refine ev_aload_n (q_cod qk292 rfl) (by decide) rfl ?_
    refine em_gR (q_cod qk292 rfl) (by decide) (by decide) hf (fun r7 hf => ?_)
    refine ev_si (v := 192) (q_cod qk292 rfl) (by decide) (by decide) ?_
    refine ev_iload_n (q_cod qk292 rfl) (by decide) rfl ?_
    refine ev_imul (q_cod qk292 rfl) (by decide) ?_
    refine ev_iload_n (q_cod qk292 rfl) (by decide) rfl ?_
    refine ev_iadd (q_cod qk292 rfl) (by decide) ?_
    refine em_lI (q_cod qk292 rfl) (by decide) hf (fun v8 hf => ?_)
    refine ev_bi (v := (-2)) (q_cod qk292 rfl) (by decide) (by decide) ?_
    refine em_ic_ne (q_cod qk292 rfl) (by decide) hf (fun c34 hf => ?_) (fun c34 hf => ?_)
    · refine ev_bi (v := (-10)) (q_cod qk292 rfl) (by decide) (by decide) ?_
      obtain rfl := m_R_inv hf
      obtain ⟨rfl, rfl⟩ := (show q_KI o hz ((-10), _) from hK)
      exact ev_ret (q_cod qk292 rfl) rfl
    · refine ev_aload_n (q_cod qk292 rfl) (by decide) rfl ?_
      refine ev_iload_n (q_cod qk292 rfl) (by decide) rfl ?_
      refine ev_iload_n (q_cod qk292 rfl) (by decide) rfl ?_
      obtain ⟨g9, hf⟩ := m_aK_some hf
      refine em_call (v := (fun u => some (.int u))) (q_cod qk292 rfl) rfl rfl (q_cokV rfl rfl (Or.inr g9)) rfl (fun x e => f291_cl e) hf (fun v10 h hf => ?_)
      refine em_if_eq (q_cod qk292 rfl) (by decide) hf (fun c33 hf => ?_) (fun c33 hf => ?_)
      · refine ev_aload_n (q_cod qk292 rfl) (by decide) rfl ?_
        refine em_gI (q_cod qk292 rfl) (by decide) (by decide) hf (fun v11 hf => ?_)
        refine ev_ic (v := 2) (q_cod qk292 rfl) (by decide) (by decide) ?_
        refine em_ic_le (q_cod qk292 rfl) (by decide) hf (fun c32 hf => ?_) (fun c32 hf => ?_)
        · refine ev_bi (v := (-6)) (q_cod qk292 rfl) (by decide) (by decide) ?_
          obtain rfl := m_R_inv hf
          obtain ⟨rfl, rfl⟩ := (show q_KI o hz ((-6), _) from hK)
          exact ev_ret (q_cod qk292 rfl) rfl
        · refine ev_aload_n (q_cod qk292 rfl) (by decide) rfl ?_
          refine ev_ic (v := 0) (q_cod qk292 rfl) (by decide) (by decide) ?_
          refine ev_iload (q_cod qk292 rfl) (by decide) rfl ?_
          refine ev_iload_n (q_cod qk292 rfl) (by decide) rfl ?_
          refine ev_aload_n (q_cod qk292 rfl) (by decide) rfl ?_
          refine em_gI (q_cod qk292 rfl) (by decide) (by decide) hf (fun v12 hf => ?_)
          obtain ⟨g13, hf⟩ := m_aK_some hf
          refine em_call (v := (fun u => some (.int u))) (q_cod qk292 rfl) rfl rfl (q_cokV rfl rfl (Or.inr g13)) rfl (fun x e => f215_cl e) hf (fun v14 h hf => ?_)
          refine em_if_eq (q_cod qk292 rfl) (by decide) hf (fun c31 hf => ?_) (fun c31 hf => ?_)
          · refine ev_aload_n (q_cod qk292 rfl) (by decide) rfl ?_
            obtain ⟨g15, hf⟩ := m_aK_some hf
            refine em_call (v := (fun u => some (.int u))) (q_cod qk292 rfl) rfl rfl (q_cokV rfl rfl (Or.inr g15)) rfl (fun x e => f265_cl e) hf (fun v16 h hf => ?_)
            refine ev_bi (v := 24) (q_cod qk292 rfl) (by decide) (by decide) ?_
            refine em_ic_ne (q_cod qk292 rfl) (by decide) hf (fun c30 hf => ?_) (fun c30 hf => ?_)
            · refine ev_bi (v := (-6)) (q_cod qk292 rfl) (by decide) (by decide) ?_
              obtain rfl := m_R_inv hf
              obtain ⟨rfl, rfl⟩ := (show q_KI o hz ((-6), _) from hK)
              exact ev_ret (q_cod qk292 rfl) rfl
            · refine ev_aload_n (q_cod qk292 rfl) (by decide) rfl ?_
              refine ev_ic (v := 0) (q_cod qk292 rfl) (by decide) (by decide) ?_
              refine ev_ic (v := 2) (q_cod qk292 rfl) (by decide) (by decide) ?_
              obtain ⟨g17, hf⟩ := m_aK_some hf
              refine em_call (v := (fun _ => none)) (q_cod qk292 rfl) rfl rfl (q_cokV rfl rfl (Or.inr g17)) rfl (fun x e => f203_cl e) hf (fun _ h hf => ?_)
              refine ev_aload_n (q_cod qk292 rfl) (by decide) rfl ?_
              obtain ⟨g19, hf⟩ := m_aK_some hf
              refine em_call (v := (fun u => some (.int u))) (q_cod qk292 rfl) rfl rfl (q_cokV rfl rfl (Or.inr g19)) rfl (fun x e => f265_cl e) hf (fun v20 h hf => ?_)
              refine ev_is2 (L' := [(0, .ref l0), (1, .int l1), (2, .int l2), (3, .int l3), (4, .int v4), (5, .int v20)]) (q_cod qk292 rfl) (by decide) rfl ?_
              refine ev_aload_n (q_cod qk292 rfl) (by decide) rfl ?_
              refine em_gR (q_cod qk292 rfl) (by decide) (by decide) hf (fun r21 hf => ?_)
              refine ev_si (v := 28401) (q_cod qk292 rfl) (by decide) (by decide) ?_
              refine ev_dup2 (q_cod qk292 rfl) (by decide) rfl rfl ?_
              refine em_lI (q_cod qk292 rfl) (by decide) hf (fun v22 hf => ?_)
              refine ev_ic (v := 1) (q_cod qk292 rfl) (by decide) (by decide) ?_
              refine ev_iadd (q_cod qk292 rfl) (by decide) ?_
              refine em_wI (q_cod qk292 rfl) (by decide) hf (fun hf => ?_)
              refine ev_aload_n (q_cod qk292 rfl) (by decide) rfl ?_
              refine ev_ic (v := 2) (q_cod qk292 rfl) (by decide) (by decide) ?_
              refine ev_iload (q_cod qk292 rfl) (by decide) rfl ?_
              refine ev_iload (q_cod qk292 rfl) (by decide) rfl ?_
              refine ev_iload_n (q_cod qk292 rfl) (by decide) rfl ?_
              refine ev_aload_n (q_cod qk292 rfl) (by decide) rfl ?_
              refine em_gR (q_cod qk292 rfl) (by decide) (by decide) hf (fun r23 hf => ?_)
              refine ev_si (v := 192) (q_cod qk292 rfl) (by decide) (by decide) ?_
              refine ev_iload_n (q_cod qk292 rfl) (by decide) rfl ?_
              refine ev_imul (q_cod qk292 rfl) (by decide) ?_
              refine ev_iload_n (q_cod qk292 rfl) (by decide) rfl ?_
              refine ev_iadd (q_cod qk292 rfl) (by decide) ?_
              refine em_lI (q_cod qk292 rfl) (by decide) hf (fun v24 hf => ?_)
              obtain ⟨g25, hf⟩ := m_aK_some hf
              refine em_call (v := (fun _ => none)) (q_cod qk292 rfl) rfl rfl (q_cokV rfl rfl (Or.inr g25)) rfl (fun x e => f220_cl e) hf (fun _ h hf => ?_)
              refine ev_aload_n (q_cod qk292 rfl) (by decide) rfl ?_
              refine ev_ic (v := 2) (q_cod qk292 rfl) (by decide) (by decide) ?_
              refine ev_iload (q_cod qk292 rfl) (by decide) rfl ?_
              refine ev_ic (v := 3) (q_cod qk292 rfl) (by decide) (by decide) ?_
              refine ev_aload_n (q_cod qk292 rfl) (by decide) rfl ?_
              refine em_gI (q_cod qk292 rfl) (by decide) (by decide) hf (fun v27 hf => ?_)
              obtain ⟨g28, hf⟩ := m_aK_some hf
              refine em_call (v := (fun _ => none)) (q_cod qk292 rfl) rfl rfl (q_cokV rfl rfl (Or.inr g28)) rfl (fun x e => f197_cl e) hf (fun _ h hf => ?_)
              refine ev_ic (v := 0) (q_cod qk292 rfl) (by decide) (by decide) ?_
              refine ev_is2 (L' := [(0, .ref l0), (1, .int l1), (2, .int l2), (3, .int l3), (4, .int v4), (5, .int v20), (6, .int 0)]) (q_cod qk292 rfl) (by decide) rfl ?_
              exact (f292_193_ok hf hK)
          · refine ev_ic (v := (-1)) (q_cod qk292 rfl) (by decide) (by decide) ?_
            obtain rfl := m_R_inv hf
            obtain ⟨rfl, rfl⟩ := (show q_KI o hz ((-1), _) from hK)
            exact ev_ret (q_cod qk292 rfl) rfl
      · refine ev_bi (v := (-5)) (q_cod qk292 rfl) (by decide) (by decide) ?_
        obtain rfl := m_R_inv hf
        obtain ⟨rfl, rfl⟩ := (show q_KI o hz ((-5), _) from hK)
        exact ev_ret (q_cod qk292 rfl) rfl
  · refine ev_ic (v := 0) (q_cod qk292 rfl) (by decide) (by decide) ?_
    obtain rfl := m_R_inv hf
    obtain ⟨rfl, rfl⟩ := (show q_KI o hz (0, _) from hK)
    exact ev_ret (q_cod qk292 rfl) rfl
def f292 (l0 : Nat) (l1 : Int32) (l2 : Int32) (l3 : Int32) : m_M Int32 :=
  m_B (m_aK l0 12) (fun _ => m_B (f239 l0 l1 l2) (fun v2 => if v2 = 0 then (f292_37 l0 l1 l2 l3 l0 1) else (m_B (f180 l3) (fun v3 => if v3 = 0 then (f292_37 l0 l1 l2 l3 l0 2) else (m_B (m_aK l0 12) (fun _ => m_B (f272 l0) (fun v5 => if v5 = 0 then (f292_37 l0 l1 l2 l3 l0 3) else (f292_37 l0 l1 l2 l3 l0 0))))))))
set_option maxRecDepth 20000 in
theorem f292_ok {l0 : Nat} {l1 : Int32} {l2 : Int32} {l3 : Int32} {h : q_H} {o : q_O} {hz : q_H} {x : Int32 × q_H} (hf : f292 l0 l1 l2 l3 h = some x) (hK : (q_KI o hz) x) : q_Ev none 292 0 [(0, .ref l0), (1, .int l1), (2, .int l2), (3, .int l3)] [] h o hz := by
  unfold f292 at hf
  refine ev_aload_n (q_cod qk292 rfl) (by decide) rfl ?_
  refine ev_aload_n (q_cod qk292 rfl) (by decide) rfl ?_
  refine ev_iload_n (q_cod qk292 rfl) (by decide) rfl ?_
  refine ev_iload_n (q_cod qk292 rfl) (by decide) rfl ?_
  obtain ⟨g1, hf⟩ := m_aK_some hf
  refine em_call (v := (fun u => some (.int u))) (q_cod qk292 rfl) rfl rfl (q_cokV rfl rfl (Or.inr g1)) rfl (fun x e => f239_cl e) hf (fun v2 h hf => ?_)
  refine em_if_ne (q_cod qk292 rfl) (by decide) hf (fun c8 hf => ?_) (fun c8 hf => ?_)
  · refine ev_ic (v := 1) (q_cod qk292 rfl) (by decide) (by decide) ?_
    refine ev_goto (q_cod qk292 rfl) (by decide) ?_
    exact (f292_37_ok hf hK)
  · refine ev_iload_n (q_cod qk292 rfl) (by decide) rfl ?_
    refine em_call (v := (fun u => some (.int u))) (q_cod qk292 rfl) rfl rfl (q_cokS rfl rfl) rfl (fun x e => f180_cl e) hf (fun v3 h hf => ?_)
    refine em_if_ne (q_cod qk292 rfl) (by decide) hf (fun c7 hf => ?_) (fun c7 hf => ?_)
    · refine ev_ic (v := 2) (q_cod qk292 rfl) (by decide) (by decide) ?_
      refine ev_goto (q_cod qk292 rfl) (by decide) ?_
      exact (f292_37_ok hf hK)
    · refine ev_aload_n (q_cod qk292 rfl) (by decide) rfl ?_
      obtain ⟨g4, hf⟩ := m_aK_some hf
      refine em_call (v := (fun u => some (.int u))) (q_cod qk292 rfl) rfl rfl (q_cokV rfl rfl (Or.inr g4)) rfl (fun x e => f272_cl e) hf (fun v5 h hf => ?_)
      refine em_if_ne (q_cod qk292 rfl) (by decide) hf (fun c6 hf => ?_) (fun c6 hf => ?_)
      · refine ev_ic (v := 3) (q_cod qk292 rfl) (by decide) (by decide) ?_
        refine ev_goto (q_cod qk292 rfl) (by decide) ?_
        exact (f292_37_ok hf hK)
      · refine ev_ic (v := 0) (q_cod qk292 rfl) (by decide) (by decide) ?_
        exact (f292_37_ok hf hK)
theorem f292_cl {l0 : Nat} {l1 : Int32} {l2 : Int32} {l3 : Int32} {h : q_H} {x : Int32 × q_H} (hf : f292 l0 l1 l2 l3 h = some x) : q_Cl 292 [.ref l0, .int l1, .int l2, .int l3] h (.inl (some (.int x.1))) x.2 := q_Cl.of rfl (q_LvS rfl rfl) (f292_ok hf ⟨rfl, rfl⟩)
/-! SmithyBenchModel.lengthenCalls(II)I -/
theorem qk294 : q_cs.getD 294 [] = qc_294 := rfl
def f294_148 (l0 : Nat) (l1 : Int32) (l3 : Int32) : m_M Int32 :=
  m_B (m_aK l0 12) (fun _ => m_B (f264 l0 l1) (fun _ => m_R l3))
theorem f294_148_ok {l0 : Nat} {l1 : Int32} {l3 : Int32} {h : q_H} {o : q_O} {hz : q_H} {x : Int32 × q_H} (hf : f294_148 l0 l1 l3 h = some x) (hK : (q_KI o hz) x) : q_Ev none 294 148 [(0, .ref l0), (1, .int l1), (3, .int l3)] [] h o hz := by
  unfold f294_148 at hf
  refine ev_aload_n (q_cod qk294 rfl) (by decide) rfl ?_
  refine ev_iload_n (q_cod qk294 rfl) (by decide) rfl ?_
  obtain ⟨g1, hf⟩ := m_aK_some hf
  refine em_call (v := (fun _ => none)) (q_cod qk294 rfl) rfl rfl (q_cokV rfl rfl (Or.inr g1)) rfl (fun x e => f264_cl e) hf (fun _ h hf => ?_)
  refine ev_iload_n (q_cod qk294 rfl) (by decide) rfl ?_
  obtain rfl := m_R_inv hf
  obtain ⟨rfl, rfl⟩ := (show q_KI o hz (l3, _) from hK)
  exact ev_ret (q_cod qk294 rfl) rfl
def f294_142 (l0 : Nat) (l1 : Int32) (l2 : Int32) (l3 : Int32) (l4 : Int32) (l5 : Int32) : m_M ((Nat × Int32 × Int32 × Int32 × Int32 × Int32) ⊕ Int32) :=
  m_R (.inl (l0, l1, l2, l3, l4, (l5 + 1)))
theorem f294_142_ok {l0 : Nat} {l1 : Int32} {l2 : Int32} {l3 : Int32} {l4 : Int32} {l5 : Int32} {h : q_H} {o : q_O} {hz : q_H} {x : ((Nat × Int32 × Int32 × Int32 × Int32 × Int32) ⊕ Int32) × q_H} (hf : f294_142 l0 l1 l2 l3 l4 l5 h = some x) (hK : (m_yK (fun (s : Nat × Int32 × Int32 × Int32 × Int32 × Int32) (h : q_H) => q_Ev none 294 13 [(0, .ref (s.1)), (1, .int (s.2.1)), (2, .int (s.2.2.1)), (3, .int (s.2.2.2.1)), (4, .int (s.2.2.2.2.1)), (5, .int (s.2.2.2.2.2))] [] h o hz) (q_KI o hz)) x) : q_Ev none 294 142 [(0, .ref l0), (1, .int l1), (2, .int l2), (3, .int l3), (4, .int l4), (5, .int l5)] [] h o hz := by
  unfold f294_142 at hf
  refine ev_inc (v := l5 + 1) (L' := [(0, .ref l0), (1, .int l1), (2, .int l2), (3, .int l3), (4, .int l4), (5, .int (l5 + 1))]) (q_cod qk294 rfl) (by decide) rfl rfl rfl ?_
  refine ev_goto (q_cod qk294 rfl) (by decide) ?_
  obtain rfl := m_R_inv hf
  exact (show q_Ev none 294 13 [(0, .ref l0), (1, .int l1), (2, .int l2), (3, .int l3), (4, .int l4), (5, .int (l5 + 1))] [] _ o hz from hK)
def f294_125 (l0 : Nat) (l1 : Int32) (l2 : Int32) (l3 : Int32) (l4 : Int32) (l5 : Int32) : m_M ((Nat × Int32 × Int32 × Int32 × Int32 × Int32) ⊕ Int32) :=
  m_B (m_aK l0 12) (fun _ => m_B (f270 l0 l1) (fun v2 => if l5 < v2 then (m_B (m_aK l0 12) (fun _ => m_B (f261 l0 l1 l5) (fun _ => f294_142 l0 l1 l2 l3 l4 l5))) else (f294_142 l0 l1 l2 l3 l4 l5)))
theorem f294_125_ok {l0 : Nat} {l1 : Int32} {l2 : Int32} {l3 : Int32} {l4 : Int32} {l5 : Int32} {h : q_H} {o : q_O} {hz : q_H} {x : ((Nat × Int32 × Int32 × Int32 × Int32 × Int32) ⊕ Int32) × q_H} (hf : f294_125 l0 l1 l2 l3 l4 l5 h = some x) (hK : (m_yK (fun (s : Nat × Int32 × Int32 × Int32 × Int32 × Int32) (h : q_H) => q_Ev none 294 13 [(0, .ref (s.1)), (1, .int (s.2.1)), (2, .int (s.2.2.1)), (3, .int (s.2.2.2.1)), (4, .int (s.2.2.2.2.1)), (5, .int (s.2.2.2.2.2))] [] h o hz) (q_KI o hz)) x) : q_Ev none 294 125 [(0, .ref l0), (1, .int l1), (2, .int l2), (3, .int l3), (4, .int l4), (5, .int l5)] [] h o hz := by
  unfold f294_125 at hf
  refine ev_iload (q_cod qk294 rfl) (by decide) rfl ?_
  refine ev_aload_n (q_cod qk294 rfl) (by decide) rfl ?_
  refine ev_iload_n (q_cod qk294 rfl) (by decide) rfl ?_
  obtain ⟨g1, hf⟩ := m_aK_some hf
  refine em_call (v := (fun u => some (.int u))) (q_cod qk294 rfl) rfl rfl (q_cokV rfl rfl (Or.inr g1)) rfl (fun x e => f270_cl e) hf (fun v2 h hf => ?_)
  refine em_ic_ge (q_cod qk294 rfl) (by decide) hf (fun c5 hf => ?_) (fun c5 hf => ?_)
  · refine ev_aload_n (q_cod qk294 rfl) (by decide) rfl ?_
    refine ev_iload_n (q_cod qk294 rfl) (by decide) rfl ?_
    refine ev_iload (q_cod qk294 rfl) (by decide) rfl ?_
    obtain ⟨g3, hf⟩ := m_aK_some hf
    refine em_call (v := (fun _ => none)) (q_cod qk294 rfl) rfl rfl (q_cokV rfl rfl (Or.inr g3)) rfl (fun x e => f261_cl e) hf (fun _ h hf => ?_)
    exact (f294_142_ok hf hK)
  · exact (f294_142_ok hf hK)
def f294_55 (l0 : Nat) (l1 : Int32) (l2 : Int32) (l3 : Int32) (l4 : Int32) (l5 : Int32) : m_M ((Nat × Int32 × Int32 × Int32 × Int32 × Int32) ⊕ Int32) :=
  m_B (m_aK l0 12) (fun _ => m_B (f270 l0 l1) (fun v2 => if l5 < v2 then (m_B (m_aK l0 12) (fun _ => m_B (f276 l0 l1 l5) (fun v4 => if v4 = 0 then (f294_125 l0 l1 l2 l3 l4 l5) else (m_B (m_aK l0 12) (fun _ => m_B (f200 l0 0 l1 l5) (fun v6 => m_B (m_aK l0 12) (fun _ => m_B (f201 l0 0 l1 l5) (fun v8 => m_B (m_aK l0 12) (fun _ => m_B (f260 l0 7 v6 (v8 + 1)) (fun _ => m_B (m_gR 12 l0 46) (fun r11 => m_B (m_aK l0 12) (fun _ => m_B (f269 l0 l1 l5) (fun v13 => m_B (m_wI r11 l4 (l5 + v13)) (fun _ => f294_142 l0 l1 l2 (l3 + 1) (l4 + 1) l5)))))))))))))) else (f294_125 l0 l1 l2 l3 l4 l5)))
theorem f294_55_ok {l0 : Nat} {l1 : Int32} {l2 : Int32} {l3 : Int32} {l4 : Int32} {l5 : Int32} {h : q_H} {o : q_O} {hz : q_H} {x : ((Nat × Int32 × Int32 × Int32 × Int32 × Int32) ⊕ Int32) × q_H} (hf : f294_55 l0 l1 l2 l3 l4 l5 h = some x) (hK : (m_yK (fun (s : Nat × Int32 × Int32 × Int32 × Int32 × Int32) (h : q_H) => q_Ev none 294 13 [(0, .ref (s.1)), (1, .int (s.2.1)), (2, .int (s.2.2.1)), (3, .int (s.2.2.2.1)), (4, .int (s.2.2.2.2.1)), (5, .int (s.2.2.2.2.2))] [] h o hz) (q_KI o hz)) x) : q_Ev none 294 55 [(0, .ref l0), (1, .int l1), (2, .int l2), (3, .int l3), (4, .int l4), (5, .int l5)] [] h o hz := by
  unfold f294_55 at hf
  refine ev_iload (q_cod qk294 rfl) (by decide) rfl ?_
  refine ev_aload_n (q_cod qk294 rfl) (by decide) rfl ?_
  refine ev_iload_n (q_cod qk294 rfl) (by decide) rfl ?_
  obtain ⟨g1, hf⟩ := m_aK_some hf
  refine em_call (v := (fun u => some (.int u))) (q_cod qk294 rfl) rfl rfl (q_cokV rfl rfl (Or.inr g1)) rfl (fun x e => f270_cl e) hf (fun v2 h hf => ?_)
  refine em_ic_ge (q_cod qk294 rfl) (by decide) hf (fun c15 hf => ?_) (fun c15 hf => ?_)
  · refine ev_aload_n (q_cod qk294 rfl) (by decide) rfl ?_
    refine ev_iload_n (q_cod qk294 rfl) (by decide) rfl ?_
    refine ev_iload (q_cod qk294 rfl) (by decide) rfl ?_
    obtain ⟨g3, hf⟩ := m_aK_some hf
    refine em_call (v := (fun u => some (.int u))) (q_cod qk294 rfl) rfl rfl (q_cokV rfl rfl (Or.inr g3)) rfl (fun x e => f276_cl e) hf (fun v4 h hf => ?_)
    refine em_if_eq (q_cod qk294 rfl) (by decide) hf (fun c14 hf => ?_) (fun c14 hf => ?_)
    · exact (f294_125_ok hf hK)
    · refine ev_aload_n (q_cod qk294 rfl) (by decide) rfl ?_
      refine ev_bi (v := 7) (q_cod qk294 rfl) (by decide) (by decide) ?_
      refine ev_aload_n (q_cod qk294 rfl) (by decide) rfl ?_
      refine ev_ic (v := 0) (q_cod qk294 rfl) (by decide) (by decide) ?_
      refine ev_iload_n (q_cod qk294 rfl) (by decide) rfl ?_
      refine ev_iload (q_cod qk294 rfl) (by decide) rfl ?_
      obtain ⟨g5, hf⟩ := m_aK_some hf
      refine em_call (v := (fun u => some (.int u))) (q_cod qk294 rfl) rfl rfl (q_cokV rfl rfl (Or.inr g5)) rfl (fun x e => f200_cl e) hf (fun v6 h hf => ?_)
      refine ev_aload_n (q_cod qk294 rfl) (by decide) rfl ?_
      refine ev_ic (v := 0) (q_cod qk294 rfl) (by decide) (by decide) ?_
      refine ev_iload_n (q_cod qk294 rfl) (by decide) rfl ?_
      refine ev_iload (q_cod qk294 rfl) (by decide) rfl ?_
      obtain ⟨g7, hf⟩ := m_aK_some hf
      refine em_call (v := (fun u => some (.int u))) (q_cod qk294 rfl) rfl rfl (q_cokV rfl rfl (Or.inr g7)) rfl (fun x e => f201_cl e) hf (fun v8 h hf => ?_)
      refine ev_ic (v := 1) (q_cod qk294 rfl) (by decide) (by decide) ?_
      refine ev_iadd (q_cod qk294 rfl) (by decide) ?_
      obtain ⟨g9, hf⟩ := m_aK_some hf
      refine em_call (v := (fun _ => none)) (q_cod qk294 rfl) rfl rfl (q_cokV rfl rfl (Or.inr g9)) rfl (fun x e => f260_cl e) hf (fun _ h hf => ?_)
      refine ev_aload_n (q_cod qk294 rfl) (by decide) rfl ?_
      refine em_gR (q_cod qk294 rfl) (by decide) (by decide) hf (fun r11 hf => ?_)
      refine ev_iload (q_cod qk294 rfl) (by decide) rfl ?_
      refine ev_iload (q_cod qk294 rfl) (by decide) rfl ?_
      refine ev_aload_n (q_cod qk294 rfl) (by decide) rfl ?_
      refine ev_iload_n (q_cod qk294 rfl) (by decide) rfl ?_
      refine ev_iload (q_cod qk294 rfl) (by decide) rfl ?_
      obtain ⟨g12, hf⟩ := m_aK_some hf
      refine em_call (v := (fun u => some (.int u))) (q_cod qk294 rfl) rfl rfl (q_cokV rfl rfl (Or.inr g12)) rfl (fun x e => f269_cl e) hf (fun v13 h hf => ?_)
      refine ev_iadd (q_cod qk294 rfl) (by decide) ?_
      refine em_wI (q_cod qk294 rfl) (by decide) hf (fun hf => ?_)
      refine ev_inc (v := l4 + 1) (L' := [(0, .ref l0), (1, .int l1), (2, .int l2), (3, .int l3), (4, .int (l4 + 1)), (5, .int l5)]) (q_cod qk294 rfl) (by decide) rfl rfl rfl ?_
      refine ev_inc (v := l3 + 1) (L' := [(0, .ref l0), (1, .int l1), (2, .int l2), (3, .int (l3 + 1)), (4, .int (l4 + 1)), (5, .int l5)]) (q_cod qk294 rfl) (by decide) rfl rfl rfl ?_
      refine ev_goto (q_cod qk294 rfl) (by decide) ?_
      exact (f294_142_ok hf hK)
  · exact (f294_125_ok hf hK)
def f294_23b (l0 : Nat) (l1 : Int32) (l2 : Int32) (l3 : Int32) (l4 : Int32) (l5 : Int32) : m_M ((Nat × Int32 × Int32 × Int32 × Int32 × Int32) ⊕ ((Nat × Int32 × Int32 × Int32 × Int32 × Int32) ⊕ Int32)) :=
  if 0 < l4 then (m_B (m_gR 12 l0 46) (fun r1 => m_B (m_lI r1 (l4 - 1)) (fun v2 => if v2 = l5 then (m_B (m_aK l0 12) (fun _ => m_B (f260 l0 0 l2 0) (fun _ => m_R (.inl (l0, l1, l2, l3, (l4 + (-1)), l5))))) else (m_B (f294_55 l0 l1 l2 l3 l4 l5) (fun r => m_R (.inr r)))))) else (m_B (f294_55 l0 l1 l2 l3 l4 l5) (fun r => m_R (.inr r)))
theorem f294_23b_ok {l0 : Nat} {l1 : Int32} {l2 : Int32} {l3 : Int32} {l4 : Int32} {l5 : Int32} {h : q_H} {o : q_O} {hz : q_H} {x : ((Nat × Int32 × Int32 × Int32 × Int32 × Int32) ⊕ ((Nat × Int32 × Int32 × Int32 × Int32 × Int32) ⊕ Int32)) × q_H} (hf : f294_23b l0 l1 l2 l3 l4 l5 h = some x) (hK : (m_yK (fun (s : Nat × Int32 × Int32 × Int32 × Int32 × Int32) (h : q_H) => q_Ev none 294 23 [(0, .ref (s.1)), (1, .int (s.2.1)), (2, .int (s.2.2.1)), (3, .int (s.2.2.2.1)), (4, .int (s.2.2.2.2.1)), (5, .int (s.2.2.2.2.2))] [] h o hz) (m_yK (fun (s : Nat × Int32 × Int32 × Int32 × Int32 × Int32) (h : q_H) => q_Ev none 294 13 [(0, .ref (s.1)), (1, .int (s.2.1)), (2, .int (s.2.2.1)), (3, .int (s.2.2.2.1)), (4, .int (s.2.2.2.2.1)), (5, .int (s.2.2.2.2.2))] [] h o hz) (q_KI o hz))) x) : q_Ev none 294 23 [(0, .ref l0), (1, .int l1), (2, .int l2), (3, .int l3), (4, .int l4), (5, .int l5)] [] h o hz := by
  unfold f294_23b at hf
  refine ev_iload (q_cod qk294 rfl) (by decide) rfl ?_
  refine em_if_le (q_cod qk294 rfl) (by decide) hf (fun c6 hf => ?_) (fun c6 hf => ?_)
  · refine ev_aload_n (q_cod qk294 rfl) (by decide) rfl ?_
    refine em_gR (q_cod qk294 rfl) (by decide) (by decide) hf (fun r1 hf => ?_)
    refine ev_iload (q_cod qk294 rfl) (by decide) rfl ?_
    refine ev_ic (v := 1) (q_cod qk294 rfl) (by decide) (by decide) ?_
    refine ev_isub (q_cod qk294 rfl) (by decide) ?_
    refine em_lI (q_cod qk294 rfl) (by decide) hf (fun v2 hf => ?_)
    refine ev_iload (q_cod qk294 rfl) (by decide) rfl ?_
    refine em_ic_ne (q_cod qk294 rfl) (by decide) hf (fun c5 hf => ?_) (fun c5 hf => ?_)
    · refine ev_aload_n (q_cod qk294 rfl) (by decide) rfl ?_
      refine ev_ic (v := 0) (q_cod qk294 rfl) (by decide) (by decide) ?_
      refine ev_iload_n (q_cod qk294 rfl) (by decide) rfl ?_
      refine ev_ic (v := 0) (q_cod qk294 rfl) (by decide) (by decide) ?_
      obtain ⟨g3, hf⟩ := m_aK_some hf
      refine em_call (v := (fun _ => none)) (q_cod qk294 rfl) rfl rfl (q_cokV rfl rfl (Or.inr g3)) rfl (fun x e => f260_cl e) hf (fun _ h hf => ?_)
      refine ev_inc (v := l4 + (-1)) (L' := [(0, .ref l0), (1, .int l1), (2, .int l2), (3, .int l3), (4, .int (l4 + (-1))), (5, .int l5)]) (q_cod qk294 rfl) (by decide) rfl rfl rfl ?_
      refine ev_goto (q_cod qk294 rfl) (by decide) ?_
      obtain rfl := m_R_inv hf
      exact (show q_Ev none 294 23 [(0, .ref l0), (1, .int l1), (2, .int l2), (3, .int l3), (4, .int (l4 + (-1))), (5, .int l5)] [] _ o hz from hK)
    · obtain ⟨y0, hf0, hx⟩ := m_inr_some hf
      subst hx
      exact (f294_55_ok hf0 hK)
  · obtain ⟨y0, hf0, hx⟩ := m_inr_some hf
    subst hx
    exact (f294_55_ok hf0 hK)
def f294_23 (l0 : Nat) (l1 : Int32) (l2 : Int32) (l3 : Int32) (l4 : Int32) (l5 : Int32) : m_M ((Nat × Int32 × Int32 × Int32 × Int32 × Int32) ⊕ Int32) := m_W (fun s => f294_23b (s.1) (s.2.1) (s.2.2.1) (s.2.2.2.1) (s.2.2.2.2.1) (s.2.2.2.2.2)) 1000000 (l0, l1, l2, l3, l4, l5)
theorem f294_23_ok {l0 : Nat} {l1 : Int32} {l2 : Int32} {l3 : Int32} {l4 : Int32} {l5 : Int32} {h : q_H} {o : q_O} {hz : q_H} {x : ((Nat × Int32 × Int32 × Int32 × Int32 × Int32) ⊕ Int32) × q_H} (hf : f294_23 l0 l1 l2 l3 l4 l5 h = some x) (hK : (m_yK (fun (s : Nat × Int32 × Int32 × Int32 × Int32 × Int32) (h : q_H) => q_Ev none 294 13 [(0, .ref (s.1)), (1, .int (s.2.1)), (2, .int (s.2.2.1)), (3, .int (s.2.2.2.1)), (4, .int (s.2.2.2.2.1)), (5, .int (s.2.2.2.2.2))] [] h o hz) (q_KI o hz)) x) : q_Ev none 294 23 [(0, .ref l0), (1, .int l1), (2, .int l2), (3, .int l3), (4, .int l4), (5, .int l5)] [] h o hz :=
  m_W_ok (P := (fun (s : Nat × Int32 × Int32 × Int32 × Int32 × Int32) (h : q_H) => q_Ev none 294 23 [(0, .ref (s.1)), (1, .int (s.2.1)), (2, .int (s.2.2.1)), (3, .int (s.2.2.2.1)), (4, .int (s.2.2.2.2.1)), (5, .int (s.2.2.2.2.2))] [] h o hz)) (K := (m_yK (fun (s : Nat × Int32 × Int32 × Int32 × Int32 × Int32) (h : q_H) => q_Ev none 294 13 [(0, .ref (s.1)), (1, .int (s.2.1)), (2, .int (s.2.2.1)), (3, .int (s.2.2.2.1)), (4, .int (s.2.2.2.2.1)), (5, .int (s.2.2.2.2.2))] [] h o hz) (q_KI o hz))) (fun s h x h1 h2 => f294_23b_ok h1 h2) _ (l0, l1, l2, l3, l4, l5) _ _ hf hK
def f294_13b (l0 : Nat) (l1 : Int32) (l2 : Int32) (l3 : Int32) (l4 : Int32) (l5 : Int32) : m_M ((Nat × Int32 × Int32 × Int32 × Int32 × Int32) ⊕ Int32) :=
  m_B (m_aK l0 12) (fun _ => m_B (f270 l0 l1) (fun v2 => if v2 < l5 then (m_B (f294_148 l0 l1 l3) (fun r => m_R (.inr r))) else (f294_23 l0 l1 l2 l3 l4 l5)))
theorem f294_13b_ok {l0 : Nat} {l1 : Int32} {l2 : Int32} {l3 : Int32} {l4 : Int32} {l5 : Int32} {h : q_H} {o : q_O} {hz : q_H} {x : ((Nat × Int32 × Int32 × Int32 × Int32 × Int32) ⊕ Int32) × q_H} (hf : f294_13b l0 l1 l2 l3 l4 l5 h = some x) (hK : (m_yK (fun (s : Nat × Int32 × Int32 × Int32 × Int32 × Int32) (h : q_H) => q_Ev none 294 13 [(0, .ref (s.1)), (1, .int (s.2.1)), (2, .int (s.2.2.1)), (3, .int (s.2.2.2.1)), (4, .int (s.2.2.2.2.1)), (5, .int (s.2.2.2.2.2))] [] h o hz) (q_KI o hz)) x) : q_Ev none 294 13 [(0, .ref l0), (1, .int l1), (2, .int l2), (3, .int l3), (4, .int l4), (5, .int l5)] [] h o hz := by
  unfold f294_13b at hf
  refine ev_iload (q_cod qk294 rfl) (by decide) rfl ?_
  refine ev_aload_n (q_cod qk294 rfl) (by decide) rfl ?_
  refine ev_iload_n (q_cod qk294 rfl) (by decide) rfl ?_
  obtain ⟨g1, hf⟩ := m_aK_some hf
  refine em_call (v := (fun u => some (.int u))) (q_cod qk294 rfl) rfl rfl (q_cokV rfl rfl (Or.inr g1)) rfl (fun x e => f270_cl e) hf (fun v2 h hf => ?_)
  refine em_ic_gt (q_cod qk294 rfl) (by decide) hf (fun c3 hf => ?_) (fun c3 hf => ?_)
  · obtain ⟨y0, hf0, hx⟩ := m_inr_some hf
    subst hx
    exact ev_weak (q_pk [0, 1, 3] rfl) (f294_148_ok hf0 hK)
  · exact (f294_23_ok hf hK)
def f294_13 (l0 : Nat) (l1 : Int32) (l2 : Int32) (l3 : Int32) (l4 : Int32) (l5 : Int32) : m_M Int32 := m_W (fun s => f294_13b (s.1) (s.2.1) (s.2.2.1) (s.2.2.2.1) (s.2.2.2.2.1) (s.2.2.2.2.2)) 1000000 (l0, l1, l2, l3, l4, l5)
theorem f294_13_ok {l0 : Nat} {l1 : Int32} {l2 : Int32} {l3 : Int32} {l4 : Int32} {l5 : Int32} {h : q_H} {o : q_O} {hz : q_H} {x : Int32 × q_H} (hf : f294_13 l0 l1 l2 l3 l4 l5 h = some x) (hK : (q_KI o hz) x) : q_Ev none 294 13 [(0, .ref l0), (1, .int l1), (2, .int l2), (3, .int l3), (4, .int l4), (5, .int l5)] [] h o hz :=
  m_W_ok (P := (fun (s : Nat × Int32 × Int32 × Int32 × Int32 × Int32) (h : q_H) => q_Ev none 294 13 [(0, .ref (s.1)), (1, .int (s.2.1)), (2, .int (s.2.2.1)), (3, .int (s.2.2.2.1)), (4, .int (s.2.2.2.2.1)), (5, .int (s.2.2.2.2.2))] [] h o hz)) (K := (q_KI o hz)) (fun s h x h1 h2 => f294_13b_ok h1 h2) _ (l0, l1, l2, l3, l4, l5) _ _ hf hK
def f294 (l0 : Nat) (l1 : Int32) (l2 : Int32) : m_M Int32 :=
  m_B (m_pI 12 l0 38 0) (fun _ => f294_13 l0 l1 l2 0 0 0)
theorem f294_ok {l0 : Nat} {l1 : Int32} {l2 : Int32} {h : q_H} {o : q_O} {hz : q_H} {x : Int32 × q_H} (hf : f294 l0 l1 l2 h = some x) (hK : (q_KI o hz) x) : q_Ev none 294 0 [(0, .ref l0), (1, .int l1), (2, .int l2)] [] h o hz := by
  unfold f294 at hf
  refine ev_ic (v := 0) (q_cod qk294 rfl) (by decide) (by decide) ?_
  refine ev_is1 (L' := [(0, .ref l0), (1, .int l1), (2, .int l2), (3, .int 0)]) (q_cod qk294 rfl) (by decide) rfl ?_
  refine ev_ic (v := 0) (q_cod qk294 rfl) (by decide) (by decide) ?_
  refine ev_is2 (L' := [(0, .ref l0), (1, .int l1), (2, .int l2), (3, .int 0), (4, .int 0)]) (q_cod qk294 rfl) (by decide) rfl ?_
  refine ev_aload_n (q_cod qk294 rfl) (by decide) rfl ?_
  refine ev_ic (v := 0) (q_cod qk294 rfl) (by decide) (by decide) ?_
  refine em_pI (q_cod qk294 rfl) (by decide) (by decide) (by decide) hf (fun hf => ?_)
  refine ev_ic (v := 0) (q_cod qk294 rfl) (by decide) (by decide) ?_
  refine ev_is2 (L' := [(0, .ref l0), (1, .int l1), (2, .int l2), (3, .int 0), (4, .int 0), (5, .int 0)]) (q_cod qk294 rfl) (by decide) rfl ?_
  exact (f294_13_ok hf hK)
theorem f294_cl {l0 : Nat} {l1 : Int32} {l2 : Int32} {h : q_H} {x : Int32 × q_H} (hf : f294 l0 l1 l2 h = some x) : q_Cl 294 [.ref l0, .int l1, .int l2] h (.inl (some (.int x.1))) x.2 := q_Cl.of rfl (q_LvS rfl rfl) (f294_ok hf ⟨rfl, rfl⟩)
/-! SmithyBenchModel.addParameter(II)I -/
theorem qk295 : q_cs.getD 295 [] = qc_295 := rfl
def f295_199 (l0 : Nat) (l2 : Int32) (l3 : Int32) (l5 : Int32) (l6 : Int32) (s0 : Int32) (s1 : Int32) : m_M ((Nat × Int32 × Int32 × Int32 × Int32 × Int32) ⊕ Int32) :=
  m_R (.inl (l0, l2, l3, (s0 + s1), l5, (l6 + 1)))
theorem f295_199_ok {l0 : Nat} {l2 : Int32} {l3 : Int32} {l5 : Int32} {l6 : Int32} {s0 : Int32} {s1 : Int32} {h : q_H} {o : q_O} {hz : q_H} {x : ((Nat × Int32 × Int32 × Int32 × Int32 × Int32) ⊕ Int32) × q_H} (hf : f295_199 l0 l2 l3 l5 l6 s0 s1 h = some x) (hK : (m_yK (fun (s : Nat × Int32 × Int32 × Int32 × Int32 × Int32) (h : q_H) => q_Ev none 295 91 [(0, .ref (s.1)), (2, .int (s.2.1)), (3, .int (s.2.2.1)), (4, .int (s.2.2.2.1)), (5, .int (s.2.2.2.2.1)), (6, .int (s.2.2.2.2.2))] [] h o hz) (q_KI o hz)) x) : q_Ev none 295 199 [(0, .ref l0), (2, .int l2), (3, .int l3), (5, .int l5), (6, .int l6)] [.int s1, .int s0] h o hz := by
  unfold f295_199 at hf
  refine ev_iadd (q_cod qk295 rfl) (by decide) ?_
  refine ev_is2 (L' := [(0, .ref l0), (2, .int l2), (3, .int l3), (4, .int (s0 + s1)), (5, .int l5), (6, .int l6)]) (q_cod qk295 rfl) (by decide) rfl ?_
  refine ev_inc (v := l6 + 1) (L' := [(0, .ref l0), (2, .int l2), (3, .int l3), (4, .int (s0 + s1)), (5, .int l5), (6, .int (l6 + 1))]) (q_cod qk295 rfl) (by decide) rfl rfl rfl ?_
  refine ev_goto (q_cod qk295 rfl) (by decide) ?_
  obtain rfl := m_R_inv hf
  exact (show q_Ev none 295 91 [(0, .ref l0), (2, .int l2), (3, .int l3), (4, .int (s0 + s1)), (5, .int l5), (6, .int (l6 + 1))] [] _ o hz from hK)
def f295_174 (l0 : Nat) (l2 : Int32) (l3 : Int32) (l4 : Int32) (l5 : Int32) (l6 : Int32) : m_M ((Nat × Int32 × Int32 × Int32 × Int32 × Int32) ⊕ Int32) :=
  m_B (m_aK l0 12) (fun _ => m_B (f196 l0 0 l6 0) (fun v2 => if v2 = 1 then (m_B (m_aK l0 12) (fun _ => m_B (f294 l0 l6 l2) (fun v4 => f295_199 l0 l2 l3 l5 l6 l4 v4))) else (f295_199 l0 l2 l3 l5 l6 l4 0)))
theorem f295_174_ok {l0 : Nat} {l2 : Int32} {l3 : Int32} {l4 : Int32} {l5 : Int32} {l6 : Int32} {h : q_H} {o : q_O} {hz : q_H} {x : ((Nat × Int32 × Int32 × Int32 × Int32 × Int32) ⊕ Int32) × q_H} (hf : f295_174 l0 l2 l3 l4 l5 l6 h = some x) (hK : (m_yK (fun (s : Nat × Int32 × Int32 × Int32 × Int32 × Int32) (h : q_H) => q_Ev none 295 91 [(0, .ref (s.1)), (2, .int (s.2.1)), (3, .int (s.2.2.1)), (4, .int (s.2.2.2.1)), (5, .int (s.2.2.2.2.1)), (6, .int (s.2.2.2.2.2))] [] h o hz) (q_KI o hz)) x) : q_Ev none 295 174 [(0, .ref l0), (2, .int l2), (3, .int l3), (4, .int l4), (5, .int l5), (6, .int l6)] [] h o hz := by
  unfold f295_174 at hf
  refine ev_iload (q_cod qk295 rfl) (by decide) rfl ?_
  refine ev_aload_n (q_cod qk295 rfl) (by decide) rfl ?_
  refine ev_ic (v := 0) (q_cod qk295 rfl) (by decide) (by decide) ?_
  refine ev_iload (q_cod qk295 rfl) (by decide) rfl ?_
  refine ev_ic (v := 0) (q_cod qk295 rfl) (by decide) (by decide) ?_
  obtain ⟨g1, hf⟩ := m_aK_some hf
  refine em_call (v := (fun u => some (.int u))) (q_cod qk295 rfl) rfl rfl (q_cokV rfl rfl (Or.inr g1)) rfl (fun x e => f196_cl e) hf (fun v2 h hf => ?_)
  refine ev_ic (v := 1) (q_cod qk295 rfl) (by decide) (by decide) ?_
  refine em_ic_ne (q_cod qk295 rfl) (by decide) hf (fun c5 hf => ?_) (fun c5 hf => ?_)
  · refine ev_aload_n (q_cod qk295 rfl) (by decide) rfl ?_
    refine ev_iload (q_cod qk295 rfl) (by decide) rfl ?_
    refine ev_iload_n (q_cod qk295 rfl) (by decide) rfl ?_
    obtain ⟨g3, hf⟩ := m_aK_some hf
    refine em_call (v := (fun u => some (.int u))) (q_cod qk295 rfl) rfl rfl (q_cokV rfl rfl (Or.inr g3)) rfl (fun x e => f294_cl e) hf (fun v4 h hf => ?_)
    refine ev_goto (q_cod qk295 rfl) (by decide) ?_
    exact ev_weak (q_pk [0, 1, 2, 4, 5] rfl) (f295_199_ok hf hK)
  · refine ev_ic (v := 0) (q_cod qk295 rfl) (by decide) (by decide) ?_
    exact ev_weak (q_pk [0, 1, 2, 4, 5] rfl) (f295_199_ok hf hK)
def f295_137 (l0 : Nat) (l2 : Int32) (l3 : Int32) (l4 : Int32) (l6 : Int32) (l7 : Int32) (s0 : Int32) : m_M ((Nat × Int32 × Int32 × Int32 × Int32 × Int32) ⊕ Int32) :=
  m_B (m_aK l0 12) (fun _ => m_B (f197 l0 2 l6 3 (l3 + 1)) (fun _ => m_B (m_aK l0 12) (fun _ => m_B (f197 l0 2 l6 (4 + l3) l7) (fun _ => m_B (m_aK l0 12) (fun _ => m_B (f197 l0 2 l6 (6 + l3) (-1)) (fun _ => f295_174 l0 l2 l3 l4 s0 l6))))))
theorem f295_137_ok {l0 : Nat} {l2 : Int32} {l3 : Int32} {l4 : Int32} {l6 : Int32} {l7 : Int32} {s0 : Int32} {h : q_H} {o : q_O} {hz : q_H} {x : ((Nat × Int32 × Int32 × Int32 × Int32 × Int32) ⊕ Int32) × q_H} (hf : f295_137 l0 l2 l3 l4 l6 l7 s0 h = some x) (hK : (m_yK (fun (s : Nat × Int32 × Int32 × Int32 × Int32 × Int32) (h : q_H) => q_Ev none 295 91 [(0, .ref (s.1)), (2, .int (s.2.1)), (3, .int (s.2.2.1)), (4, .int (s.2.2.2.1)), (5, .int (s.2.2.2.2.1)), (6, .int (s.2.2.2.2.2))] [] h o hz) (q_KI o hz)) x) : q_Ev none 295 137 [(0, .ref l0), (2, .int l2), (3, .int l3), (4, .int l4), (6, .int l6), (7, .int l7)] [.int s0] h o hz := by
  unfold f295_137 at hf
  refine ev_is2 (L' := [(0, .ref l0), (2, .int l2), (3, .int l3), (4, .int l4), (5, .int s0), (6, .int l6), (7, .int l7)]) (q_cod qk295 rfl) (by decide) rfl ?_
  refine ev_aload_n (q_cod qk295 rfl) (by decide) rfl ?_
  refine ev_ic (v := 2) (q_cod qk295 rfl) (by decide) (by decide) ?_
  refine ev_iload (q_cod qk295 rfl) (by decide) rfl ?_
  refine ev_ic (v := 3) (q_cod qk295 rfl) (by decide) (by decide) ?_
  refine ev_iload_n (q_cod qk295 rfl) (by decide) rfl ?_
  refine ev_ic (v := 1) (q_cod qk295 rfl) (by decide) (by decide) ?_
  refine ev_iadd (q_cod qk295 rfl) (by decide) ?_
  obtain ⟨g1, hf⟩ := m_aK_some hf
  refine em_call (v := (fun _ => none)) (q_cod qk295 rfl) rfl rfl (q_cokV rfl rfl (Or.inr g1)) rfl (fun x e => f197_cl e) hf (fun _ h hf => ?_)
  refine ev_aload_n (q_cod qk295 rfl) (by decide) rfl ?_
  refine ev_ic (v := 2) (q_cod qk295 rfl) (by decide) (by decide) ?_
  refine ev_iload (q_cod qk295 rfl) (by decide) rfl ?_
  refine ev_ic (v := 4) (q_cod qk295 rfl) (by decide) (by decide) ?_
  refine ev_iload_n (q_cod qk295 rfl) (by decide) rfl ?_
  refine ev_iadd (q_cod qk295 rfl) (by decide) ?_
  refine ev_iload (q_cod qk295 rfl) (by decide) rfl ?_
  obtain ⟨g3, hf⟩ := m_aK_some hf
  refine em_call (v := (fun _ => none)) (q_cod qk295 rfl) rfl rfl (q_cokV rfl rfl (Or.inr g3)) rfl (fun x e => f197_cl e) hf (fun _ h hf => ?_)
  refine ev_aload_n (q_cod qk295 rfl) (by decide) rfl ?_
  refine ev_ic (v := 2) (q_cod qk295 rfl) (by decide) (by decide) ?_
  refine ev_iload (q_cod qk295 rfl) (by decide) rfl ?_
  refine ev_bi (v := 6) (q_cod qk295 rfl) (by decide) (by decide) ?_
  refine ev_iload_n (q_cod qk295 rfl) (by decide) rfl ?_
  refine ev_iadd (q_cod qk295 rfl) (by decide) ?_
  refine ev_ic (v := (-1)) (q_cod qk295 rfl) (by decide) (by decide) ?_
  obtain ⟨g5, hf⟩ := m_aK_some hf
  refine em_call (v := (fun _ => none)) (q_cod qk295 rfl) rfl rfl (q_cokV rfl rfl (Or.inr g5)) rfl (fun x e => f197_cl e) hf (fun _ h hf => ?_)
  exact ev_weak (q_pk [0, 1, 2, 3, 4, 5] rfl) (f295_174_ok hf hK)
def f295_136 (l0 : Nat) (l2 : Int32) (l3 : Int32) (l4 : Int32) (l6 : Int32) (l7 : Int32) : m_M ((Nat × Int32 × Int32 × Int32 × Int32 × Int32) ⊕ Int32) :=
  f295_137 l0 l2 l3 l4 l6 l7 0
theorem f295_136_ok {l0 : Nat} {l2 : Int32} {l3 : Int32} {l4 : Int32} {l6 : Int32} {l7 : Int32} {h : q_H} {o : q_O} {hz : q_H} {x : ((Nat × Int32 × Int32 × Int32 × Int32 × Int32) ⊕ Int32) × q_H} (hf : f295_136 l0 l2 l3 l4 l6 l7 h = some x) (hK : (m_yK (fun (s : Nat × Int32 × Int32 × Int32 × Int32 × Int32) (h : q_H) => q_Ev none 295 91 [(0, .ref (s.1)), (2, .int (s.2.1)), (3, .int (s.2.2.1)), (4, .int (s.2.2.2.1)), (5, .int (s.2.2.2.2.1)), (6, .int (s.2.2.2.2.2))] [] h o hz) (q_KI o hz)) x) : q_Ev none 295 136 [(0, .ref l0), (2, .int l2), (3, .int l3), (4, .int l4), (6, .int l6), (7, .int l7)] [] h o hz := by
  unfold f295_136 at hf
  refine ev_ic (v := 0) (q_cod qk295 rfl) (by decide) (by decide) ?_
  exact (f295_137_ok hf hK)
def f295_227 (s0 : Int32) : m_M Int32 :=
  m_R s0
theorem f295_227_ok {s0 : Int32} {h : q_H} {o : q_O} {hz : q_H} {x : Int32 × q_H} (hf : f295_227 s0 h = some x) (hK : (q_KI o hz) x) : q_Ev none 295 227 [] [.int s0] h o hz := by
  unfold f295_227 at hf
  obtain rfl := m_R_inv hf
  obtain ⟨rfl, rfl⟩ := (show q_KI o hz (s0, _) from hK)
  exact ev_ret (q_cod qk295 rfl) rfl
def f295_225  : m_M Int32 :=
  f295_227 (-6)
theorem f295_225_ok  {h : q_H} {o : q_O} {hz : q_H} {x : Int32 × q_H} (hf : f295_225 h = some x) (hK : (q_KI o hz) x) : q_Ev none 295 225 [] [] h o hz := by
  unfold f295_225 at hf
  refine ev_bi (v := (-6)) (q_cod qk295 rfl) (by decide) (by decide) ?_
  exact (f295_227_ok hf hK)
def f295_208 (l0 : Nat) (l4 : Int32) (l5 : Int32) : m_M Int32 :=
  if l5 = 0 then (f295_225) else (m_B (m_aK l0 12) (fun _ => m_B (f271 l0) (fun v2 => if v2 = 0 then (f295_225) else (f295_227 l4))))
theorem f295_208_ok {l0 : Nat} {l4 : Int32} {l5 : Int32} {h : q_H} {o : q_O} {hz : q_H} {x : Int32 × q_H} (hf : f295_208 l0 l4 l5 h = some x) (hK : (q_KI o hz) x) : q_Ev none 295 208 [(0, .ref l0), (4, .int l4), (5, .int l5)] [] h o hz := by
  unfold f295_208 at hf
  refine ev_iload (q_cod qk295 rfl) (by decide) rfl ?_
  refine em_if_eq (q_cod qk295 rfl) (by decide) hf (fun c4 hf => ?_) (fun c4 hf => ?_)
  · exact ev_weak (q_pk [] rfl) (f295_225_ok hf hK)
  · refine ev_aload_n (q_cod qk295 rfl) (by decide) rfl ?_
    obtain ⟨g1, hf⟩ := m_aK_some hf
    refine em_call (v := (fun u => some (.int u))) (q_cod qk295 rfl) rfl rfl (q_cokV rfl rfl (Or.inr g1)) rfl (fun x e => f271_cl e) hf (fun v2 h hf => ?_)
    refine em_if_eq (q_cod qk295 rfl) (by decide) hf (fun c3 hf => ?_) (fun c3 hf => ?_)
    · exact ev_weak (q_pk [] rfl) (f295_225_ok hf hK)
    · refine ev_iload (q_cod qk295 rfl) (by decide) rfl ?_
      refine ev_goto (q_cod qk295 rfl) (by decide) ?_
      exact ev_weak (q_pk [] rfl) (f295_227_ok hf hK)
def f295_91b (l0 : Nat) (l2 : Int32) (l3 : Int32) (l4 : Int32) (l5 : Int32) (l6 : Int32) : m_M ((Nat × Int32 × Int32 × Int32 × Int32 × Int32) ⊕ Int32) :=
  m_B (m_aK l0 12) (fun _ => m_B (f265 l0) (fun v2 => if l6 < v2 then (m_B (m_gR 12 l0 36) (fun r3 => m_B (m_lZ r3 l6) (fun v4 => if v4 = 0 then (f295_174 l0 l2 l3 l4 l5 l6) else (m_B (m_aK l0 12) (fun _ => m_B (f274 l0 l6 l6 (-1)) (fun v6 => if l5 = 0 then (f295_136 l0 l2 l3 l4 l6 v6) else (if v6 = (-1) then (f295_136 l0 l2 l3 l4 l6 v6) else (f295_137 l0 l2 l3 l4 l6 v6 1)))))))) else (m_B (f295_208 l0 l4 l5) (fun r => m_R (.inr r)))))
theorem f295_91b_ok {l0 : Nat} {l2 : Int32} {l3 : Int32} {l4 : Int32} {l5 : Int32} {l6 : Int32} {h : q_H} {o : q_O} {hz : q_H} {x : ((Nat × Int32 × Int32 × Int32 × Int32 × Int32) ⊕ Int32) × q_H} (hf : f295_91b l0 l2 l3 l4 l5 l6 h = some x) (hK : (m_yK (fun (s : Nat × Int32 × Int32 × Int32 × Int32 × Int32) (h : q_H) => q_Ev none 295 91 [(0, .ref (s.1)), (2, .int (s.2.1)), (3, .int (s.2.2.1)), (4, .int (s.2.2.2.1)), (5, .int (s.2.2.2.2.1)), (6, .int (s.2.2.2.2.2))] [] h o hz) (q_KI o hz)) x) : q_Ev none 295 91 [(0, .ref l0), (2, .int l2), (3, .int l3), (4, .int l4), (5, .int l5), (6, .int l6)] [] h o hz := by
  unfold f295_91b at hf
  refine ev_iload (q_cod qk295 rfl) (by decide) rfl ?_
  refine ev_aload_n (q_cod qk295 rfl) (by decide) rfl ?_
  obtain ⟨g1, hf⟩ := m_aK_some hf
  refine em_call (v := (fun u => some (.int u))) (q_cod qk295 rfl) rfl rfl (q_cokV rfl rfl (Or.inr g1)) rfl (fun x e => f265_cl e) hf (fun v2 h hf => ?_)
  refine em_ic_ge (q_cod qk295 rfl) (by decide) hf (fun c10 hf => ?_) (fun c10 hf => ?_)
  · refine ev_aload_n (q_cod qk295 rfl) (by decide) rfl ?_
    refine em_gR (q_cod qk295 rfl) (by decide) (by decide) hf (fun r3 hf => ?_)
    refine ev_iload (q_cod qk295 rfl) (by decide) rfl ?_
    refine em_lZ (q_cod qk295 rfl) (by decide) hf (fun v4 hf => ?_)
    refine em_if_eq (q_cod qk295 rfl) (by decide) hf (fun c9 hf => ?_) (fun c9 hf => ?_)
    · exact (f295_174_ok hf hK)
    · refine ev_aload_n (q_cod qk295 rfl) (by decide) rfl ?_
      refine ev_iload (q_cod qk295 rfl) (by decide) rfl ?_
      refine ev_iload (q_cod qk295 rfl) (by decide) rfl ?_
      refine ev_ic (v := (-1)) (q_cod qk295 rfl) (by decide) (by decide) ?_
      obtain ⟨g5, hf⟩ := m_aK_some hf
      refine em_call (v := (fun u => some (.int u))) (q_cod qk295 rfl) rfl rfl (q_cokV rfl rfl (Or.inr g5)) rfl (fun x e => f274_cl e) hf (fun v6 h hf => ?_)
      refine ev_is2 (L' := [(0, .ref l0), (2, .int l2), (3, .int l3), (4, .int l4), (5, .int l5), (6, .int l6), (7, .int v6)]) (q_cod qk295 rfl) (by decide) rfl ?_
      refine ev_iload (q_cod qk295 rfl) (by decide) rfl ?_
      refine em_if_eq (q_cod qk295 rfl) (by decide) hf (fun c8 hf => ?_) (fun c8 hf => ?_)
      · exact ev_weak (q_pk [0, 1, 2, 3, 5, 6] rfl) (f295_136_ok hf hK)
      · refine ev_iload (q_cod qk295 rfl) (by decide) rfl ?_
        refine ev_ic (v := (-1)) (q_cod qk295 rfl) (by decide) (by decide) ?_
        refine em_ic_eq (q_cod qk295 rfl) (by decide) hf (fun c7 hf => ?_) (fun c7 hf => ?_)
        · exact ev_weak (q_pk [0, 1, 2, 3, 5, 6] rfl) (f295_136_ok hf hK)
        · refine ev_ic (v := 1) (q_cod qk295 rfl) (by decide) (by decide) ?_
          refine ev_goto (q_cod qk295 rfl) (by decide) ?_
          exact ev_weak (q_pk [0, 1, 2, 3, 5, 6] rfl) (f295_137_ok hf hK)
  · obtain ⟨y0, hf0, hx⟩ := m_inr_some hf
    subst hx
    exact ev_weak (q_pk [0, 3, 4] rfl) (f295_208_ok hf0 hK)
def f295_91 (l0 : Nat) (l2 : Int32) (l3 : Int32) (l4 : Int32) (l5 : Int32) (l6 : Int32) : m_M Int32 := m_W (fun s => f295_91b (s.1) (s.2.1) (s.2.2.1) (s.2.2.2.1) (s.2.2.2.2.1) (s.2.2.2.2.2)) 1000000 (l0, l2, l3, l4, l5, l6)
theorem f295_91_ok {l0 : Nat} {l2 : Int32} {l3 : Int32} {l4 : Int32} {l5 : Int32} {l6 : Int32} {h : q_H} {o : q_O} {hz : q_H} {x : Int32 × q_H} (hf : f295_91 l0 l2 l3 l4 l5 l6 h = some x) (hK : (q_KI o hz) x) : q_Ev none 295 91 [(0, .ref l0), (2, .int l2), (3, .int l3), (4, .int l4), (5, .int l5), (6, .int l6)] [] h o hz :=
  m_W_ok (P := (fun (s : Nat × Int32 × Int32 × Int32 × Int32 × Int32) (h : q_H) => q_Ev none 295 91 [(0, .ref (s.1)), (2, .int (s.2.1)), (3, .int (s.2.2.1)), (4, .int (s.2.2.2.1)), (5, .int (s.2.2.2.2.1)), (6, .int (s.2.2.2.2.2))] [] h o hz)) (K := (q_KI o hz)) (fun s h x h1 h2 => f295_91b_ok h1 h2) _ (l0, l2, l3, l4, l5, l6) _ _ hf hK
def f295_26 (l0 : Nat) (l1 : Int32) (l2 : Int32) (s0 : Nat) (s1 : Int32) : m_M Int32 :=
  m_B (m_aK s0 12) (fun _ => m_B (f178 s0 s1) (fun v2 => if v2 = 0 then (m_B (m_aK l0 12) (fun _ => m_B (f196 l0 0 l1 3) (fun v4 => if v4 = 2 then (m_R (-6)) else (m_B (m_aK l0 12) (fun _ => m_B (f255 l0 0 l1) (fun _ => m_B (m_aK l0 12) (fun _ => m_B (f196 l0 0 l1 2) (fun v8 => m_B (m_aK l0 12) (fun _ => m_B (f257 l0 0 v8 (v4 + 1)) (fun v10 => if v10 = 0 then (m_R (-1)) else (m_B (m_aK l0 12) (fun _ => m_B (f203 l0 0 2) (fun _ => f295_91 l0 l2 v4 0 1 0))))))))))))) else (m_R 0)))
theorem f295_26_ok {l0 : Nat} {l1 : Int32} {l2 : Int32} {s0 : Nat} {s1 : Int32} {h : q_H} {o : q_O} {hz : q_H} {x : Int32 × q_H} (hf : f295_26 l0 l1 l2 s0 s1 h = some x) (hK : (q_KI o hz) x) : q_Ev none 295 26 [(0, .ref l0), (1, .int l1), (2, .int l2)] [.int s1, .ref s0] h o hz := by
  unfold f295_26 at hf
  obtain ⟨g1, hf⟩ := m_aK_some hf
  refine em_call (v := (fun u => some (.int u))) (q_cod qk295 rfl) rfl rfl (q_cokV rfl rfl (Or.inr g1)) rfl (fun x e => f178_cl e) hf (fun v2 h hf => ?_)
  refine em_if_eq (q_cod qk295 rfl) (by decide) hf (fun c15 hf => ?_) (fun c15 hf => ?_)
  · refine ev_aload_n (q_cod qk295 rfl) (by decide) rfl ?_
    refine ev_ic (v := 0) (q_cod qk295 rfl) (by decide) (by decide) ?_
    refine ev_iload_n (q_cod qk295 rfl) (by decide) rfl ?_
    refine ev_ic (v := 3) (q_cod qk295 rfl) (by decide) (by decide) ?_
    obtain ⟨g3, hf⟩ := m_aK_some hf
    refine em_call (v := (fun u => some (.int u))) (q_cod qk295 rfl) rfl rfl (q_cokV rfl rfl (Or.inr g3)) rfl (fun x e => f196_cl e) hf (fun v4 h hf => ?_)
    refine ev_is1 (L' := [(0, .ref l0), (1, .int l1), (2, .int l2), (3, .int v4)]) (q_cod qk295 rfl) (by decide) rfl ?_
    refine ev_iload_n (q_cod qk295 rfl) (by decide) rfl ?_
    refine ev_ic (v := 2) (q_cod qk295 rfl) (by decide) (by decide) ?_
    refine em_ic_ne (q_cod qk295 rfl) (by decide) hf (fun c14 hf => ?_) (fun c14 hf => ?_)
    · refine ev_bi (v := (-6)) (q_cod qk295 rfl) (by decide) (by decide) ?_
      obtain rfl := m_R_inv hf
      obtain ⟨rfl, rfl⟩ := (show q_KI o hz ((-6), _) from hK)
      exact ev_ret (q_cod qk295 rfl) rfl
    · refine ev_aload_n (q_cod qk295 rfl) (by decide) rfl ?_
      refine ev_ic (v := 0) (q_cod qk295 rfl) (by decide) (by decide) ?_
      refine ev_iload_n (q_cod qk295 rfl) (by decide) rfl ?_
      obtain ⟨g5, hf⟩ := m_aK_some hf
      refine em_call (v := (fun _ => none)) (q_cod qk295 rfl) rfl rfl (q_cokV rfl rfl (Or.inr g5)) rfl (fun x e => f255_cl e) hf (fun _ h hf => ?_)
      refine ev_aload_n (q_cod qk295 rfl) (by decide) rfl ?_
      refine ev_ic (v := 0) (q_cod qk295 rfl) (by decide) (by decide) ?_
      refine ev_aload_n (q_cod qk295 rfl) (by decide) rfl ?_
      refine ev_ic (v := 0) (q_cod qk295 rfl) (by decide) (by decide) ?_
      refine ev_iload_n (q_cod qk295 rfl) (by decide) rfl ?_
      refine ev_ic (v := 2) (q_cod qk295 rfl) (by decide) (by decide) ?_
      obtain ⟨g7, hf⟩ := m_aK_some hf
      refine em_call (v := (fun u => some (.int u))) (q_cod qk295 rfl) rfl rfl (q_cokV rfl rfl (Or.inr g7)) rfl (fun x e => f196_cl e) hf (fun v8 h hf => ?_)
      refine ev_iload_n (q_cod qk295 rfl) (by decide) rfl ?_
      refine ev_ic (v := 1) (q_cod qk295 rfl) (by decide) (by decide) ?_
      refine ev_iadd (q_cod qk295 rfl) (by decide) ?_
      obtain ⟨g9, hf⟩ := m_aK_some hf
      refine em_call (v := (fun u => some (.int u))) (q_cod qk295 rfl) rfl rfl (q_cokV rfl rfl (Or.inr g9)) rfl (fun x e => f257_cl e) hf (fun v10 h hf => ?_)
      refine em_if_ne (q_cod qk295 rfl) (by decide) hf (fun c13 hf => ?_) (fun c13 hf => ?_)
      · refine ev_ic (v := (-1)) (q_cod qk295 rfl) (by decide) (by decide) ?_
        obtain rfl := m_R_inv hf
        obtain ⟨rfl, rfl⟩ := (show q_KI o hz ((-1), _) from hK)
        exact ev_ret (q_cod qk295 rfl) rfl
      · refine ev_aload_n (q_cod qk295 rfl) (by decide) rfl ?_
        refine ev_ic (v := 0) (q_cod qk295 rfl) (by decide) (by decide) ?_
        refine ev_ic (v := 2) (q_cod qk295 rfl) (by decide) (by decide) ?_
        obtain ⟨g11, hf⟩ := m_aK_some hf
        refine em_call (v := (fun _ => none)) (q_cod qk295 rfl) rfl rfl (q_cokV rfl rfl (Or.inr g11)) rfl (fun x e => f203_cl e) hf (fun _ h hf => ?_)
        refine ev_ic (v := 0) (q_cod qk295 rfl) (by decide) (by decide) ?_
        refine ev_is2 (L' := [(0, .ref l0), (1, .int l1), (2, .int l2), (3, .int v4), (4, .int 0)]) (q_cod qk295 rfl) (by decide) rfl ?_
        refine ev_ic (v := 1) (q_cod qk295 rfl) (by decide) (by decide) ?_
        refine ev_is2 (L' := [(0, .ref l0), (1, .int l1), (2, .int l2), (3, .int v4), (4, .int 0), (5, .int 1)]) (q_cod qk295 rfl) (by decide) rfl ?_
        refine ev_ic (v := 0) (q_cod qk295 rfl) (by decide) (by decide) ?_
        refine ev_is2 (L' := [(0, .ref l0), (1, .int l1), (2, .int l2), (3, .int v4), (4, .int 0), (5, .int 1), (6, .int 0)]) (q_cod qk295 rfl) (by decide) rfl ?_
        exact ev_weak (q_pk [0, 2, 3, 4, 5, 6] rfl) (f295_91_ok hf hK)
  · refine ev_ic (v := 0) (q_cod qk295 rfl) (by decide) (by decide) ?_
    obtain rfl := m_R_inv hf
    obtain ⟨rfl, rfl⟩ := (show q_KI o hz (0, _) from hK)
    exact ev_ret (q_cod qk295 rfl) rfl
def f295 (l0 : Nat) (l1 : Int32) (l2 : Int32) : m_M Int32 :=
  m_B (m_aK l0 12) (fun _ => m_B (f206 l0 0 l1) (fun v2 => if v2 = 0 then (f295_26 l0 l1 l2 l0 1) else (m_B (m_aK l0 12) (fun _ => m_B (f272 l0) (fun v4 => if v4 = 0 then (f295_26 l0 l1 l2 l0 2) else (f295_26 l0 l1 l2 l0 0))))))
theorem f295_ok {l0 : Nat} {l1 : Int32} {l2 : Int32} {h : q_H} {o : q_O} {hz : q_H} {x : Int32 × q_H} (hf : f295 l0 l1 l2 h = some x) (hK : (q_KI o hz) x) : q_Ev none 295 0 [(0, .ref l0), (1, .int l1), (2, .int l2)] [] h o hz := by
  unfold f295 at hf
  refine ev_aload_n (q_cod qk295 rfl) (by decide) rfl ?_
  refine ev_aload_n (q_cod qk295 rfl) (by decide) rfl ?_
  refine ev_ic (v := 0) (q_cod qk295 rfl) (by decide) (by decide) ?_
  refine ev_iload_n (q_cod qk295 rfl) (by decide) rfl ?_
  obtain ⟨g1, hf⟩ := m_aK_some hf
  refine em_call (v := (fun u => some (.int u))) (q_cod qk295 rfl) rfl rfl (q_cokV rfl rfl (Or.inr g1)) rfl (fun x e => f206_cl e) hf (fun v2 h hf => ?_)
  refine em_if_ne (q_cod qk295 rfl) (by decide) hf (fun c6 hf => ?_) (fun c6 hf => ?_)
  · refine ev_ic (v := 1) (q_cod qk295 rfl) (by decide) (by decide) ?_
    refine ev_goto (q_cod qk295 rfl) (by decide) ?_
    exact (f295_26_ok hf hK)
  · refine ev_aload_n (q_cod qk295 rfl) (by decide) rfl ?_
    obtain ⟨g3, hf⟩ := m_aK_some hf
    refine em_call (v := (fun u => some (.int u))) (q_cod qk295 rfl) rfl rfl (q_cokV rfl rfl (Or.inr g3)) rfl (fun x e => f272_cl e) hf (fun v4 h hf => ?_)
    refine em_if_ne (q_cod qk295 rfl) (by decide) hf (fun c5 hf => ?_) (fun c5 hf => ?_)
    · refine ev_ic (v := 2) (q_cod qk295 rfl) (by decide) (by decide) ?_
      refine ev_goto (q_cod qk295 rfl) (by decide) ?_
      exact (f295_26_ok hf hK)
    · refine ev_ic (v := 0) (q_cod qk295 rfl) (by decide) (by decide) ?_
      exact (f295_26_ok hf hK)
theorem f295_cl {l0 : Nat} {l1 : Int32} {l2 : Int32} {h : q_H} {x : Int32 × q_H} (hf : f295 l0 l1 l2 h = some x) : q_Cl 295 [.ref l0, .int l1, .int l2] h (.inl (some (.int x.1))) x.2 := q_Cl.of rfl (q_LvS rfl rfl) (f295_ok hf ⟨rfl, rfl⟩)
