/-! SmithyBench$Inliner.<init>(LSmithyBench$Checker;)V -/
theorem qk35 : q_cs.getD 35 [] = qc_35 := rfl
def f35 (l0 : Nat) (l1 : Nat) : m_M Unit :=
  m_B (m_nO 0) (fun r1 => m_B (f0 r1 256) (fun _ => m_B (m_pR 3 l0 0 r1) (fun _ => m_B (m_pR 3 l0 1 l1) (fun _ => m_R ()))))
theorem f35_ok {l0 : Nat} {l1 : Nat} {h : q_H} {o : q_O} {hz : q_H} {x : Unit × q_H} (hf : f35 l0 l1 h = some x) (hK : (m_KU o hz) x) : q_Ev none 35 0 [(0, .ref l0), (1, .ref l1)] [] h o hz := by
  unfold f35 at hf
  refine ev_aload_n (q_cod qk35 rfl) (by decide) rfl ?_
  refine ev_objinit (q_cod qk35 rfl) (Nat.le_of_ble_eq_true rfl) ?_
  refine ev_aload_n (q_cod qk35 rfl) (by decide) rfl ?_
  refine em_nO (q_cod qk35 rfl) (by decide) hf (fun r1 h hf => ?_)
  refine ev_dup (q_cod qk35 rfl) (by decide) rfl ?_
  refine ev_si (v := 256) (q_cod qk35 rfl) (by decide) (by decide) ?_
  refine em_call (v := (fun _ => none)) (q_cod qk35 rfl) rfl rfl (q_cokV rfl rfl (Or.inl rfl)) rfl (fun x e => f0_cl e) hf (fun _ h hf => ?_)
  refine em_pR (q_cod qk35 rfl) (by decide) (by decide) (by decide) hf (fun hf => ?_)
  refine ev_aload_n (q_cod qk35 rfl) (by decide) rfl ?_
  refine ev_aload_n (q_cod qk35 rfl) (by decide) rfl ?_
  refine em_pR (q_cod qk35 rfl) (by decide) (by decide) (by decide) hf (fun hf => ?_)
  obtain rfl := m_R_inv hf
  obtain ⟨rfl, rfl⟩ := (show m_KU o hz ((), _) from hK)
  exact ev_ret (q_cod qk35 rfl) rfl
theorem f35_cl {l0 : Nat} {l1 : Nat} {h : q_H} {x : Unit × q_H} (hf : f35 l0 l1 h = some x) : q_Cl 35 [.ref l0, .ref l1] h (.inl none) x.2 := q_Cl.of rfl (q_LvS rfl rfl) (f35_ok hf ⟨rfl, rfl⟩)
/-! SmithyBench$Program.hasMethodBelow(III)Z -/
theorem qk92 : q_cs.getD 92 [] = qc_92 := rfl
def f92_51 (l0 : Nat) (l1 : Int32) (l2 : Int32) (l3 : Int32) (l4 : Int32) : m_M ((Nat × Int32 × Int32 × Int32 × Int32) ⊕ Int32) :=
  m_R (.inl (l0, l1, l2, l3, (l4 + 1)))
theorem f92_51_ok {l0 : Nat} {l1 : Int32} {l2 : Int32} {l3 : Int32} {l4 : Int32} {h : q_H} {o : q_O} {hz : q_H} {x : ((Nat × Int32 × Int32 × Int32 × Int32) ⊕ Int32) × q_H} (hf : f92_51 l0 l1 l2 l3 l4 h = some x) (hK : (m_yK (fun (s : Nat × Int32 × Int32 × Int32 × Int32) (h : q_H) => q_Ev none 92 3 [(0, .ref (s.1)), (1, .int (s.2.1)), (2, .int (s.2.2.1)), (3, .int (s.2.2.2.1)), (4, .int (s.2.2.2.2))] [] h o hz) (q_KI o hz)) x) : q_Ev none 92 51 [(0, .ref l0), (1, .int l1), (2, .int l2), (3, .int l3), (4, .int l4)] [] h o hz := by
  unfold f92_51 at hf
  refine ev_inc (v := l4 + 1) (L' := [(0, .ref l0), (1, .int l1), (2, .int l2), (3, .int l3), (4, .int (l4 + 1))]) (q_cod qk92 rfl) (by decide) rfl rfl rfl ?_
  refine ev_goto (q_cod qk92 rfl) (by decide) ?_
  obtain rfl := m_R_inv hf
  exact (show q_Ev none 92 3 [(0, .ref l0), (1, .int l1), (2, .int l2), (3, .int l3), (4, .int (l4 + 1))] [] _ o hz from hK)
def f92_49  : m_M Int32 :=
  m_R 1
theorem f92_49_ok  {h : q_H} {o : q_O} {hz : q_H} {x : Int32 × q_H} (hf : f92_49 h = some x) (hK : (q_KI o hz) x) : q_Ev none 92 49 [] [] h o hz := by
  unfold f92_49 at hf
  refine ev_ic (v := 1) (q_cod qk92 rfl) (by decide) (by decide) ?_
  obtain rfl := m_R_inv hf
  obtain ⟨rfl, rfl⟩ := (show q_KI o hz (1, _) from hK)
  exact ev_ret (q_cod qk92 rfl) rfl
def f92_57  : m_M Int32 :=
  m_R 0
theorem f92_57_ok  {h : q_H} {o : q_O} {hz : q_H} {x : Int32 × q_H} (hf : f92_57 h = some x) (hK : (q_KI o hz) x) : q_Ev none 92 57 [] [] h o hz := by
  unfold f92_57 at hf
  refine ev_ic (v := 0) (q_cod qk92 rfl) (by decide) (by decide) ?_
  obtain rfl := m_R_inv hf
  obtain ⟨rfl, rfl⟩ := (show q_KI o hz (0, _) from hK)
  exact ev_ret (q_cod qk92 rfl) rfl
def f92_3b (l0 : Nat) (l1 : Int32) (l2 : Int32) (l3 : Int32) (l4 : Int32) : m_M ((Nat × Int32 × Int32 × Int32 × Int32) ⊕ Int32) :=
  m_B (m_gI 7 l0 11) (fun v1 => if l4 < v1 then (m_B (m_aK l0 7) (fun _ => m_B (f88 l0 l4 l2 l3) (fun v3 => if v3 = 0 then (f92_51 l0 l1 l2 l3 l4) else (m_B (m_gR 7 l0 3) (fun r4 => m_B (m_lI r4 l4) (fun v5 => if v5 = l1 then (f92_51 l0 l1 l2 l3 l4) else (m_B (m_gR 7 l0 3) (fun r6 => m_B (m_lI r6 l4) (fun v7 => m_B (m_aK l0 7) (fun _ => m_B (f82 l0 v7 l1) (fun v9 => if v9 = 0 then (f92_51 l0 l1 l2 l3 l4) else (m_B (f92_49) (fun r => m_R (.inr r)))))))))))))) else (m_B (f92_57) (fun r => m_R (.inr r))))
theorem f92_3b_ok {l0 : Nat} {l1 : Int32} {l2 : Int32} {l3 : Int32} {l4 : Int32} {h : q_H} {o : q_O} {hz : q_H} {x : ((Nat × Int32 × Int32 × Int32 × Int32) ⊕ Int32) × q_H} (hf : f92_3b l0 l1 l2 l3 l4 h = some x) (hK : (m_yK (fun (s : Nat × Int32 × Int32 × Int32 × Int32) (h : q_H) => q_Ev none 92 3 [(0, .ref (s.1)), (1, .int (s.2.1)), (2, .int (s.2.2.1)), (3, .int (s.2.2.2.1)), (4, .int (s.2.2.2.2))] [] h o hz) (q_KI o hz)) x) : q_Ev none 92 3 [(0, .ref l0), (1, .int l1), (2, .int l2), (3, .int l3), (4, .int l4)] [] h o hz := by
  unfold f92_3b at hf
  refine ev_iload (q_cod qk92 rfl) (by decide) rfl ?_
  refine ev_aload_n (q_cod qk92 rfl) (by decide) rfl ?_
  refine em_gI (q_cod qk92 rfl) (by decide) (by decide) hf (fun v1 hf => ?_)
  refine em_ic_ge (q_cod qk92 rfl) (by decide) hf (fun c13 hf => ?_) (fun c13 hf => ?_)
  · refine ev_aload_n (q_cod qk92 rfl) (by decide) rfl ?_
    refine ev_iload (q_cod qk92 rfl) (by decide) rfl ?_
    refine ev_iload_n (q_cod qk92 rfl) (by decide) rfl ?_
    refine ev_iload_n (q_cod qk92 rfl) (by decide) rfl ?_
    obtain ⟨g2, hf⟩ := m_aK_some hf
    refine em_call (v := (fun u => some (.int u))) (q_cod qk92 rfl) rfl rfl (q_cokV rfl rfl (Or.inr g2)) rfl (fun x e => f88_cl e) hf (fun v3 h hf => ?_)
    refine em_if_eq (q_cod qk92 rfl) (by decide) hf (fun c12 hf => ?_) (fun c12 hf => ?_)
    · exact (f92_51_ok hf hK)
    · refine ev_aload_n (q_cod qk92 rfl) (by decide) rfl ?_
      refine em_gR (q_cod qk92 rfl) (by decide) (by decide) hf (fun r4 hf => ?_)
      refine ev_iload (q_cod qk92 rfl) (by decide) rfl ?_
      refine em_lI (q_cod qk92 rfl) (by decide) hf (fun v5 hf => ?_)
      refine ev_iload_n (q_cod qk92 rfl) (by decide) rfl ?_
      refine em_ic_eq (q_cod qk92 rfl) (by decide) hf (fun c11 hf => ?_) (fun c11 hf => ?_)
      · exact (f92_51_ok hf hK)
      · refine ev_aload_n (q_cod qk92 rfl) (by decide) rfl ?_
        refine ev_aload_n (q_cod qk92 rfl) (by decide) rfl ?_
        refine em_gR (q_cod qk92 rfl) (by decide) (by decide) hf (fun r6 hf => ?_)
        refine ev_iload (q_cod qk92 rfl) (by decide) rfl ?_
        refine em_lI (q_cod qk92 rfl) (by decide) hf (fun v7 hf => ?_)
        refine ev_iload_n (q_cod qk92 rfl) (by decide) rfl ?_
        obtain ⟨g8, hf⟩ := m_aK_some hf
        refine em_call (v := (fun u => some (.int u))) (q_cod qk92 rfl) rfl rfl (q_cokV rfl rfl (Or.inr g8)) rfl (fun x e => f82_cl e) hf (fun v9 h hf => ?_)
        refine em_if_eq (q_cod qk92 rfl) (by decide) hf (fun c10 hf => ?_) (fun c10 hf => ?_)
        · exact (f92_51_ok hf hK)
        · obtain ⟨y0, hf0, hx⟩ := m_inr_some hf
          subst hx
          exact ev_weak (q_pk [] rfl) (f92_49_ok hf0 hK)
  · obtain ⟨y0, hf0, hx⟩ := m_inr_some hf
    subst hx
    exact ev_weak (q_pk [] rfl) (f92_57_ok hf0 hK)
def f92_3 (l0 : Nat) (l1 : Int32) (l2 : Int32) (l3 : Int32) (l4 : Int32) : m_M Int32 := m_W (fun s => f92_3b (s.1) (s.2.1) (s.2.2.1) (s.2.2.2.1) (s.2.2.2.2)) 1000000 (l0, l1, l2, l3, l4)
theorem f92_3_ok {l0 : Nat} {l1 : Int32} {l2 : Int32} {l3 : Int32} {l4 : Int32} {h : q_H} {o : q_O} {hz : q_H} {x : Int32 × q_H} (hf : f92_3 l0 l1 l2 l3 l4 h = some x) (hK : (q_KI o hz) x) : q_Ev none 92 3 [(0, .ref l0), (1, .int l1), (2, .int l2), (3, .int l3), (4, .int l4)] [] h o hz :=
  m_W_ok (P := (fun (s : Nat × Int32 × Int32 × Int32 × Int32) (h : q_H) => q_Ev none 92 3 [(0, .ref (s.1)), (1, .int (s.2.1)), (2, .int (s.2.2.1)), (3, .int (s.2.2.2.1)), (4, .int (s.2.2.2.2))] [] h o hz)) (K := (q_KI o hz)) (fun s h x h1 h2 => f92_3b_ok h1 h2) _ (l0, l1, l2, l3, l4) _ _ hf hK
def f92 (l0 : Nat) (l1 : Int32) (l2 : Int32) (l3 : Int32) : m_M Int32 :=
  f92_3 l0 l1 l2 l3 0
theorem f92_ok {l0 : Nat} {l1 : Int32} {l2 : Int32} {l3 : Int32} {h : q_H} {o : q_O} {hz : q_H} {x : Int32 × q_H} (hf : f92 l0 l1 l2 l3 h = some x) (hK : (q_KI o hz) x) : q_Ev none 92 0 [(0, .ref l0), (1, .int l1), (2, .int l2), (3, .int l3)] [] h o hz := by
  unfold f92 at hf
  refine ev_ic (v := 0) (q_cod qk92 rfl) (by decide) (by decide) ?_
  refine ev_is2 (L' := [(0, .ref l0), (1, .int l1), (2, .int l2), (3, .int l3), (4, .int 0)]) (q_cod qk92 rfl) (by decide) rfl ?_
  exact (f92_3_ok hf hK)
theorem f92_cl {l0 : Nat} {l1 : Int32} {l2 : Int32} {l3 : Int32} {h : q_H} {x : Int32 × q_H} (hf : f92 l0 l1 l2 l3 h = some x) : q_Cl 92 [.ref l0, .int l1, .int l2, .int l3] h (.inl (some (.int x.1))) x.2 := q_Cl.of rfl (q_LvS rfl rfl) (f92_ok hf ⟨rfl, rfl⟩)
/-! SmithyBench$Program.callees(I)I -/
theorem qk104 : q_cs.getD 104 [] = qc_104 := rfl
def f104_109 (l0 : Nat) (l2 : Nat) (l3 : Int32) (l4 : Int32) (l5 : Int32) (l6 : Int32) : m_M ((Nat × Nat × Int32 × Int32 × Int32 × Int32) ⊕ ((Nat × Nat × Int32 × Int32) ⊕ Int32)) :=
  m_R (.inl (l0, l2, l3, l4, l5, (l6 + 1)))
theorem f104_109_ok {l0 : Nat} {l2 : Nat} {l3 : Int32} {l4 : Int32} {l5 : Int32} {l6 : Int32} {h : q_H} {o : q_O} {hz : q_H} {x : ((Nat × Nat × Int32 × Int32 × Int32 × Int32) ⊕ ((Nat × Nat × Int32 × Int32) ⊕ Int32)) × q_H} (hf : f104_109 l0 l2 l3 l4 l5 l6 h = some x) (hK : (m_yK (fun (s : Nat × Nat × Int32 × Int32 × Int32 × Int32) (h : q_H) => q_Ev none 104 59 [(0, .ref (s.1)), (2, .ref (s.2.1)), (3, .int (s.2.2.1)), (4, .int (s.2.2.2.1)), (5, .int (s.2.2.2.2.1)), (6, .int (s.2.2.2.2.2))] [] h o hz) (m_yK (fun (s : Nat × Nat × Int32 × Int32) (h : q_H) => q_Ev none 104 12 [(0, .ref (s.1)), (2, .ref (s.2.1)), (3, .int (s.2.2.1)), (4, .int (s.2.2.2))] [] h o hz) (q_KI o hz))) x) : q_Ev none 104 109 [(0, .ref l0), (2, .ref l2), (3, .int l3), (4, .int l4), (5, .int l5), (6, .int l6)] [] h o hz := by
  unfold f104_109 at hf
  refine ev_inc (v := l6 + 1) (L' := [(0, .ref l0), (2, .ref l2), (3, .int l3), (4, .int l4), (5, .int l5), (6, .int (l6 + 1))]) (q_cod qk104 rfl) (by decide) rfl rfl rfl ?_
  refine ev_goto (q_cod qk104 rfl) (by decide) ?_
  obtain rfl := m_R_inv hf
  exact (show q_Ev none 104 59 [(0, .ref l0), (2, .ref l2), (3, .int l3), (4, .int l4), (5, .int l5), (6, .int (l6 + 1))] [] _ o hz from hK)
def f104_115 (l0 : Nat) (l2 : Nat) (l3 : Int32) (l4 : Int32) : m_M ((Nat × Nat × Int32 × Int32) ⊕ Int32) :=
  m_R (.inl (l0, l2, l3, (l4 + 1)))
theorem f104_115_ok {l0 : Nat} {l2 : Nat} {l3 : Int32} {l4 : Int32} {h : q_H} {o : q_O} {hz : q_H} {x : ((Nat × Nat × Int32 × Int32) ⊕ Int32) × q_H} (hf : f104_115 l0 l2 l3 l4 h = some x) (hK : (m_yK (fun (s : Nat × Nat × Int32 × Int32) (h : q_H) => q_Ev none 104 12 [(0, .ref (s.1)), (2, .ref (s.2.1)), (3, .int (s.2.2.1)), (4, .int (s.2.2.2))] [] h o hz) (q_KI o hz)) x) : q_Ev none 104 115 [(0, .ref l0), (2, .ref l2), (3, .int l3), (4, .int l4)] [] h o hz := by
  unfold f104_115 at hf
  refine ev_inc (v := l4 + 1) (L' := [(0, .ref l0), (2, .ref l2), (3, .int l3), (4, .int (l4 + 1))]) (q_cod qk104 rfl) (by decide) rfl rfl rfl ?_
  refine ev_goto (q_cod qk104 rfl) (by decide) ?_
  obtain rfl := m_R_inv hf
  exact (show q_Ev none 104 12 [(0, .ref l0), (2, .ref l2), (3, .int l3), (4, .int (l4 + 1))] [] _ o hz from hK)
def f104_59b (l0 : Nat) (l2 : Nat) (l3 : Int32) (l4 : Int32) (l5 : Int32) (l6 : Int32) : m_M ((Nat × Nat × Int32 × Int32 × Int32 × Int32) ⊕ ((Nat × Nat × Int32 × Int32) ⊕ Int32)) :=
  m_B (m_gI 7 l0 11) (fun v1 => if l6 < v1 then (m_B (m_aK l0 7) (fun _ => m_B (f93 l0 l6 l5) (fun v3 => if v3 = 0 then (f104_109 l0 l2 l3 l4 l5 l6) else (m_B (m_gR 7 l0 3) (fun r4 => m_B (m_lI r4 l6) (fun v5 => m_B (m_gR 0 l2 4) (fun r6 => m_B (m_lI r6 (l4 + 1)) (fun v7 => m_B (m_aK l0 7) (fun _ => m_B (f82 l0 v5 v7) (fun v9 => if v9 = 0 then (f104_109 l0 l2 l3 l4 l5 l6) else (f104_109 l0 l2 (l3 ||| (1 <<< (l6 &&& 31))) l4 l5 l6))))))))))) else (m_B (f104_115 l0 l2 l3 l4) (fun r => m_R (.inr r))))
theorem f104_59b_ok {l0 : Nat} {l2 : Nat} {l3 : Int32} {l4 : Int32} {l5 : Int32} {l6 : Int32} {h : q_H} {o : q_O} {hz : q_H} {x : ((Nat × Nat × Int32 × Int32 × Int32 × Int32) ⊕ ((Nat × Nat × Int32 × Int32) ⊕ Int32)) × q_H} (hf : f104_59b l0 l2 l3 l4 l5 l6 h = some x) (hK : (m_yK (fun (s : Nat × Nat × Int32 × Int32 × Int32 × Int32) (h : q_H) => q_Ev none 104 59 [(0, .ref (s.1)), (2, .ref (s.2.1)), (3, .int (s.2.2.1)), (4, .int (s.2.2.2.1)), (5, .int (s.2.2.2.2.1)), (6, .int (s.2.2.2.2.2))] [] h o hz) (m_yK (fun (s : Nat × Nat × Int32 × Int32) (h : q_H) => q_Ev none 104 12 [(0, .ref (s.1)), (2, .ref (s.2.1)), (3, .int (s.2.2.1)), (4, .int (s.2.2.2))] [] h o hz) (q_KI o hz))) x) : q_Ev none 104 59 [(0, .ref l0), (2, .ref l2), (3, .int l3), (4, .int l4), (5, .int l5), (6, .int l6)] [] h o hz := by
  unfold f104_59b at hf
  refine ev_iload (q_cod qk104 rfl) (by decide) rfl ?_
  refine ev_aload_n (q_cod qk104 rfl) (by decide) rfl ?_
  refine em_gI (q_cod qk104 rfl) (by decide) (by decide) hf (fun v1 hf => ?_)
  refine em_ic_ge (q_cod qk104 rfl) (by decide) hf (fun c12 hf => ?_) (fun c12 hf => ?_)
  · refine ev_aload_n (q_cod qk104 rfl) (by decide) rfl ?_
    refine ev_iload (q_cod qk104 rfl) (by decide) rfl ?_
    refine ev_iload (q_cod qk104 rfl) (by decide) rfl ?_
    obtain ⟨g2, hf⟩ := m_aK_some hf
    refine em_call (v := (fun u => some (.int u))) (q_cod qk104 rfl) rfl rfl (q_cokV rfl rfl (Or.inr g2)) rfl (fun x e => f93_cl e) hf (fun v3 h hf => ?_)
    refine em_if_eq (q_cod qk104 rfl) (by decide) hf (fun c11 hf => ?_) (fun c11 hf => ?_)
    · exact (f104_109_ok hf hK)
    · refine ev_aload_n (q_cod qk104 rfl) (by decide) rfl ?_
      refine ev_aload_n (q_cod qk104 rfl) (by decide) rfl ?_
      refine em_gR (q_cod qk104 rfl) (by decide) (by decide) hf (fun r4 hf => ?_)
      refine ev_iload (q_cod qk104 rfl) (by decide) rfl ?_
      refine em_lI (q_cod qk104 rfl) (by decide) hf (fun v5 hf => ?_)
      refine ev_aload_n (q_cod qk104 rfl) (by decide) rfl ?_
      refine em_gR (q_cod qk104 rfl) (by decide) (by decide) hf (fun r6 hf => ?_)
      refine ev_iload (q_cod qk104 rfl) (by decide) rfl ?_
      refine ev_ic (v := 1) (q_cod qk104 rfl) (by decide) (by decide) ?_
      refine ev_iadd (q_cod qk104 rfl) (by decide) ?_
      refine em_lI (q_cod qk104 rfl) (by decide) hf (fun v7 hf => ?_)
      obtain ⟨g8, hf⟩ := m_aK_some hf
      refine em_call (v := (fun u => some (.int u))) (q_cod qk104 rfl) rfl rfl (q_cokV rfl rfl (Or.inr g8)) rfl (fun x e => f82_cl e) hf (fun v9 h hf => ?_)
      refine em_if_eq (q_cod qk104 rfl) (by decide) hf (fun c10 hf => ?_) (fun c10 hf => ?_)
      · exact (f104_109_ok hf hK)
      · refine ev_iload_n (q_cod qk104 rfl) (by decide) rfl ?_
        refine ev_ic (v := 1) (q_cod qk104 rfl) (by decide) (by decide) ?_
        refine ev_iload (q_cod qk104 rfl) (by decide) rfl ?_
        refine ev_ishl (q_cod qk104 rfl) (by decide) ?_
        refine ev_ior (q_cod qk104 rfl) (by decide) ?_
        refine ev_is1 (L' := [(0, .ref l0), (2, .ref l2), (3, .int (l3 ||| (1 <<< (l6 &&& 31)))), (4, .int l4), (5, .int l5), (6, .int l6)]) (q_cod qk104 rfl) (by decide) rfl ?_
        exact (f104_109_ok hf hK)
  · obtain ⟨y0, hf0, hx⟩ := m_inr_some hf
    subst hx
    exact ev_weak (q_pk [0, 1, 2, 3] rfl) (f104_115_ok hf0 hK)
def f104_59 (l0 : Nat) (l2 : Nat) (l3 : Int32) (l4 : Int32) (l5 : Int32) (l6 : Int32) : m_M ((Nat × Nat × Int32 × Int32) ⊕ Int32) := m_W (fun s => f104_59b (s.1) (s.2.1) (s.2.2.1) (s.2.2.2.1) (s.2.2.2.2.1) (s.2.2.2.2.2)) 1000000 (l0, l2, l3, l4, l5, l6)
theorem f104_59_ok {l0 : Nat} {l2 : Nat} {l3 : Int32} {l4 : Int32} {l5 : Int32} {l6 : Int32} {h : q_H} {o : q_O} {hz : q_H} {x : ((Nat × Nat × Int32 × Int32) ⊕ Int32) × q_H} (hf : f104_59 l0 l2 l3 l4 l5 l6 h = some x) (hK : (m_yK (fun (s : Nat × Nat × Int32 × Int32) (h : q_H) => q_Ev none 104 12 [(0, .ref (s.1)), (2, .ref (s.2.1)), (3, .int (s.2.2.1)), (4, .int (s.2.2.2))] [] h o hz) (q_KI o hz)) x) : q_Ev none 104 59 [(0, .ref l0), (2, .ref l2), (3, .int l3), (4, .int l4), (5, .int l5), (6, .int l6)] [] h o hz :=
  m_W_ok (P := (fun (s : Nat × Nat × Int32 × Int32 × Int32 × Int32) (h : q_H) => q_Ev none 104 59 [(0, .ref (s.1)), (2, .ref (s.2.1)), (3, .int (s.2.2.1)), (4, .int (s.2.2.2.1)), (5, .int (s.2.2.2.2.1)), (6, .int (s.2.2.2.2.2))] [] h o hz)) (K := (m_yK (fun (s : Nat × Nat × Int32 × Int32) (h : q_H) => q_Ev none 104 12 [(0, .ref (s.1)), (2, .ref (s.2.1)), (3, .int (s.2.2.1)), (4, .int (s.2.2.2))] [] h o hz) (q_KI o hz))) (fun s h x h1 h2 => f104_59b_ok h1 h2) _ (l0, l2, l3, l4, l5, l6) _ _ hf hK
def f104_121 (l3 : Int32) : m_M Int32 :=
  m_R l3
theorem f104_121_ok {l3 : Int32} {h : q_H} {o : q_O} {hz : q_H} {x : Int32 × q_H} (hf : f104_121 l3 h = some x) (hK : (q_KI o hz) x) : q_Ev none 104 121 [(3, .int l3)] [] h o hz := by
  unfold f104_121 at hf
  refine ev_iload_n (q_cod qk104 rfl) (by decide) rfl ?_
  obtain rfl := m_R_inv hf
  obtain ⟨rfl, rfl⟩ := (show q_KI o hz (l3, _) from hK)
  exact ev_ret (q_cod qk104 rfl) rfl
def f104_12b (l0 : Nat) (l2 : Nat) (l3 : Int32) (l4 : Int32) : m_M ((Nat × Nat × Int32 × Int32) ⊕ Int32) :=
  m_B (m_gI 0 l2 7) (fun v1 => if l4 < v1 then (m_B (m_gR 0 l2 0) (fun r2 => m_B (m_lI r2 l4) (fun v3 => if v3 = 7 then (m_B (m_gR 0 l2 5) (fun r4 => m_B (m_lI r4 l4) (fun v5 => f104_59 l0 l2 (l3 ||| (1 <<< ((v5 - 2000) &&& 31))) l4 (v5 - 2000) 0))) else (f104_115 l0 l2 l3 l4)))) else (m_B (f104_121 l3) (fun r => m_R (.inr r))))
theorem f104_12b_ok {l0 : Nat} {l2 : Nat} {l3 : Int32} {l4 : Int32} {h : q_H} {o : q_O} {hz : q_H} {x : ((Nat × Nat × Int32 × Int32) ⊕ Int32) × q_H} (hf : f104_12b l0 l2 l3 l4 h = some x) (hK : (m_yK (fun (s : Nat × Nat × Int32 × Int32) (h : q_H) => q_Ev none 104 12 [(0, .ref (s.1)), (2, .ref (s.2.1)), (3, .int (s.2.2.1)), (4, .int (s.2.2.2))] [] h o hz) (q_KI o hz)) x) : q_Ev none 104 12 [(0, .ref l0), (2, .ref l2), (3, .int l3), (4, .int l4)] [] h o hz := by
  unfold f104_12b at hf
  refine ev_iload (q_cod qk104 rfl) (by decide) rfl ?_
  refine ev_aload_n (q_cod qk104 rfl) (by decide) rfl ?_
  refine em_gI (q_cod qk104 rfl) (by decide) (by decide) hf (fun v1 hf => ?_)
  refine em_ic_ge (q_cod qk104 rfl) (by decide) hf (fun c7 hf => ?_) (fun c7 hf => ?_)
  · refine ev_aload_n (q_cod qk104 rfl) (by decide) rfl ?_
    refine em_gR (q_cod qk104 rfl) (by decide) (by decide) hf (fun r2 hf => ?_)
    refine ev_iload (q_cod qk104 rfl) (by decide) rfl ?_
    refine em_lI (q_cod qk104 rfl) (by decide) hf (fun v3 hf => ?_)
    refine ev_bi (v := 7) (q_cod qk104 rfl) (by decide) (by decide) ?_
    refine em_ic_eq (q_cod qk104 rfl) (by decide) hf (fun c6 hf => ?_) (fun c6 hf => ?_)
    · refine ev_aload_n (q_cod qk104 rfl) (by decide) rfl ?_
      refine em_gR (q_cod qk104 rfl) (by decide) (by decide) hf (fun r4 hf => ?_)
      refine ev_iload (q_cod qk104 rfl) (by decide) rfl ?_
      refine em_lI (q_cod qk104 rfl) (by decide) hf (fun v5 hf => ?_)
      refine ev_si (v := 2000) (q_cod qk104 rfl) (by decide) (by decide) ?_
      refine ev_isub (q_cod qk104 rfl) (by decide) ?_
      refine ev_is2 (L' := [(0, .ref l0), (2, .ref l2), (3, .int l3), (4, .int l4), (5, .int (v5 - 2000))]) (q_cod qk104 rfl) (by decide) rfl ?_
      refine ev_iload_n (q_cod qk104 rfl) (by decide) rfl ?_
      refine ev_ic (v := 1) (q_cod qk104 rfl) (by decide) (by decide) ?_
      refine ev_iload (q_cod qk104 rfl) (by decide) rfl ?_
      refine ev_ishl (q_cod qk104 rfl) (by decide) ?_
      refine ev_ior (q_cod qk104 rfl) (by decide) ?_
      refine ev_is1 (L' := [(0, .ref l0), (2, .ref l2), (3, .int (l3 ||| (1 <<< ((v5 - 2000) &&& 31)))), (4, .int l4), (5, .int (v5 - 2000))]) (q_cod qk104 rfl) (by decide) rfl ?_
      refine ev_ic (v := 0) (q_cod qk104 rfl) (by decide) (by decide) ?_
      refine ev_is2 (L' := [(0, .ref l0), (2, .ref l2), (3, .int (l3 ||| (1 <<< ((v5 - 2000) &&& 31)))), (4, .int l4), (5, .int (v5 - 2000)), (6, .int 0)]) (q_cod qk104 rfl) (by decide) rfl ?_
      exact (f104_59_ok hf hK)
    · refine ev_goto (q_cod qk104 rfl) (by decide) ?_
      exact (f104_115_ok hf hK)
  · obtain ⟨y0, hf0, hx⟩ := m_inr_some hf
    subst hx
    exact ev_weak (q_pk [2] rfl) (f104_121_ok hf0 hK)
def f104_12 (l0 : Nat) (l2 : Nat) (l3 : Int32) (l4 : Int32) : m_M Int32 := m_W (fun s => f104_12b (s.1) (s.2.1) (s.2.2.1) (s.2.2.2)) 1000000 (l0, l2, l3, l4)
theorem f104_12_ok {l0 : Nat} {l2 : Nat} {l3 : Int32} {l4 : Int32} {h : q_H} {o : q_O} {hz : q_H} {x : Int32 × q_H} (hf : f104_12 l0 l2 l3 l4 h = some x) (hK : (q_KI o hz) x) : q_Ev none 104 12 [(0, .ref l0), (2, .ref l2), (3, .int l3), (4, .int l4)] [] h o hz :=
  m_W_ok (P := (fun (s : Nat × Nat × Int32 × Int32) (h : q_H) => q_Ev none 104 12 [(0, .ref (s.1)), (2, .ref (s.2.1)), (3, .int (s.2.2.1)), (4, .int (s.2.2.2))] [] h o hz)) (K := (q_KI o hz)) (fun s h x h1 h2 => f104_12b_ok h1 h2) _ (l0, l2, l3, l4) _ _ hf hK
def f104 (l0 : Nat) (l1 : Int32) : m_M Int32 :=
  m_B (m_gR 7 l0 9) (fun r1 => m_B (m_lR r1 l1) (fun r2 => f104_12 l0 r2 0 0))
theorem f104_ok {l0 : Nat} {l1 : Int32} {h : q_H} {o : q_O} {hz : q_H} {x : Int32 × q_H} (hf : f104 l0 l1 h = some x) (hK : (q_KI o hz) x) : q_Ev none 104 0 [(0, .ref l0), (1, .int l1)] [] h o hz := by
  unfold f104 at hf
  refine ev_aload_n (q_cod qk104 rfl) (by decide) rfl ?_
  refine em_gR (q_cod qk104 rfl) (by decide) (by decide) hf (fun r1 hf => ?_)
  refine ev_iload_n (q_cod qk104 rfl) (by decide) rfl ?_
  refine em_lR (q_cod qk104 rfl) (by decide) hf (fun r2 hf => ?_)
  refine ev_as1 (L' := [(0, .ref l0), (1, .int l1), (2, .ref r2)]) (q_cod qk104 rfl) (by decide) rfl ?_
  refine ev_ic (v := 0) (q_cod qk104 rfl) (by decide) (by decide) ?_
  refine ev_is1 (L' := [(0, .ref l0), (1, .int l1), (2, .ref r2), (3, .int 0)]) (q_cod qk104 rfl) (by decide) rfl ?_
  refine ev_ic (v := 0) (q_cod qk104 rfl) (by decide) (by decide) ?_
  refine ev_is2 (L' := [(0, .ref l0), (1, .int l1), (2, .ref r2), (3, .int 0), (4, .int 0)]) (q_cod qk104 rfl) (by decide) rfl ?_
  exact ev_weak (q_pk [0, 2, 3, 4] rfl) (f104_12_ok hf hK)
theorem f104_cl {l0 : Nat} {l1 : Int32} {h : q_H} {x : Int32 × q_H} (hf : f104 l0 l1 h = some x) : q_Cl 104 [.ref l0, .int l1] h (.inl (some (.int x.1))) x.2 := q_Cl.of rfl (q_LvS rfl rfl) (f104_ok hf ⟨rfl, rfl⟩)
/-! SmithyBench$Program.reach(I)I -/
theorem qk103 : q_cs.getD 103 [] = qc_103 := rfl
def f103_76 (l2 : Int32) : m_M Int32 :=
  m_R l2
theorem f103_76_ok {l2 : Int32} {h : q_H} {o : q_O} {hz : q_H} {x : Int32 × q_H} (hf : f103_76 l2 h = some x) (hK : (q_KI o hz) x) : q_Ev none 103 76 [(2, .int l2)] [] h o hz := by
  unfold f103_76 at hf
  refine ev_iload_n (q_cod qk103 rfl) (by decide) rfl ?_
  obtain rfl := m_R_inv hf
  obtain ⟨rfl, rfl⟩ := (show q_KI o hz (l2, _) from hK)
  exact ev_ret (q_cod qk103 rfl) rfl
def f103_64 (l0 : Nat) (l2 : Int32) (l3 : Int32) (l4 : Int32) (l5 : Int32) (l6 : Int32) : m_M ((Nat × Int32 × Int32 × Int32 × Int32 × Int32) ⊕ ((Nat × Int32 × Int32 × Int32) ⊕ Int32)) :=
  m_R (.inl (l0, l2, l3, l4, l5, (l6 + 1)))
theorem f103_64_ok {l0 : Nat} {l2 : Int32} {l3 : Int32} {l4 : Int32} {l5 : Int32} {l6 : Int32} {h : q_H} {o : q_O} {hz : q_H} {x : ((Nat × Int32 × Int32 × Int32 × Int32 × Int32) ⊕ ((Nat × Int32 × Int32 × Int32) ⊕ Int32)) × q_H} (hf : f103_64 l0 l2 l3 l4 l5 l6 h = some x) (hK : (m_yK (fun (s : Nat × Int32 × Int32 × Int32 × Int32 × Int32) (h : q_H) => q_Ev none 103 35 [(0, .ref (s.1)), (2, .int (s.2.1)), (3, .int (s.2.2.1)), (4, .int (s.2.2.2.1)), (5, .int (s.2.2.2.2.1)), (6, .int (s.2.2.2.2.2))] [] h o hz) (m_yK (fun (s : Nat × Int32 × Int32 × Int32) (h : q_H) => q_Ev none 103 11 [(0, .ref (s.1)), (2, .int (s.2.1)), (3, .int (s.2.2.1)), (4, .int (s.2.2.2))] [] h o hz) (q_KI o hz))) x) : q_Ev none 103 64 [(0, .ref l0), (2, .int l2), (3, .int l3), (4, .int l4), (5, .int l5), (6, .int l6)] [] h o hz := by
  unfold f103_64 at hf
  refine ev_inc (v := l6 + 1) (L' := [(0, .ref l0), (2, .int l2), (3, .int l3), (4, .int l4), (5, .int l5), (6, .int (l6 + 1))]) (q_cod qk103 rfl) (by decide) rfl rfl rfl ?_
  refine ev_goto (q_cod qk103 rfl) (by decide) ?_
  obtain rfl := m_R_inv hf
  exact (show q_Ev none 103 35 [(0, .ref l0), (2, .int l2), (3, .int l3), (4, .int l4), (5, .int l5), (6, .int (l6 + 1))] [] _ o hz from hK)
def f103_70 (l0 : Nat) (l2 : Int32) (l3 : Int32) (l4 : Int32) : m_M ((Nat × Int32 × Int32 × Int32) ⊕ Int32) :=
  m_R (.inl (l0, l2, l3, (l4 + 1)))
theorem f103_70_ok {l0 : Nat} {l2 : Int32} {l3 : Int32} {l4 : Int32} {h : q_H} {o : q_O} {hz : q_H} {x : ((Nat × Int32 × Int32 × Int32) ⊕ Int32) × q_H} (hf : f103_70 l0 l2 l3 l4 h = some x) (hK : (m_yK (fun (s : Nat × Int32 × Int32 × Int32) (h : q_H) => q_Ev none 103 11 [(0, .ref (s.1)), (2, .int (s.2.1)), (3, .int (s.2.2.1)), (4, .int (s.2.2.2))] [] h o hz) (q_KI o hz)) x) : q_Ev none 103 70 [(0, .ref l0), (2, .int l2), (3, .int l3), (4, .int l4)] [] h o hz := by
  unfold f103_70 at hf
  refine ev_inc (v := l4 + 1) (L' := [(0, .ref l0), (2, .int l2), (3, .int l3), (4, .int (l4 + 1))]) (q_cod qk103 rfl) (by decide) rfl rfl rfl ?_
  refine ev_goto (q_cod qk103 rfl) (by decide) ?_
  obtain rfl := m_R_inv hf
  exact (show q_Ev none 103 11 [(0, .ref l0), (2, .int l2), (3, .int l3), (4, .int (l4 + 1))] [] _ o hz from hK)
def f103_35b (l0 : Nat) (l2 : Int32) (l3 : Int32) (l4 : Int32) (l5 : Int32) (l6 : Int32) : m_M ((Nat × Int32 × Int32 × Int32 × Int32 × Int32) ⊕ ((Nat × Int32 × Int32 × Int32) ⊕ Int32)) :=
  m_B (m_gI 7 l0 11) (fun v1 => if l6 < v1 then (if ((q_ush l5 l6) &&& 1) = 1 then (m_B (m_aK l0 7) (fun _ => m_B (f104 l0 l6) (fun v3 => f103_64 l0 (l2 ||| v3) l3 l4 l5 l6))) else (f103_64 l0 l2 l3 l4 l5 l6)) else (m_B (f103_70 l0 l2 l3 l4) (fun r => m_R (.inr r))))
theorem f103_35b_ok {l0 : Nat} {l2 : Int32} {l3 : Int32} {l4 : Int32} {l5 : Int32} {l6 : Int32} {h : q_H} {o : q_O} {hz : q_H} {x : ((Nat × Int32 × Int32 × Int32 × Int32 × Int32) ⊕ ((Nat × Int32 × Int32 × Int32) ⊕ Int32)) × q_H} (hf : f103_35b l0 l2 l3 l4 l5 l6 h = some x) (hK : (m_yK (fun (s : Nat × Int32 × Int32 × Int32 × Int32 × Int32) (h : q_H) => q_Ev none 103 35 [(0, .ref (s.1)), (2, .int (s.2.1)), (3, .int (s.2.2.1)), (4, .int (s.2.2.2.1)), (5, .int (s.2.2.2.2.1)), (6, .int (s.2.2.2.2.2))] [] h o hz) (m_yK (fun (s : Nat × Int32 × Int32 × Int32) (h : q_H) => q_Ev none 103 11 [(0, .ref (s.1)), (2, .int (s.2.1)), (3, .int (s.2.2.1)), (4, .int (s.2.2.2))] [] h o hz) (q_KI o hz))) x) : q_Ev none 103 35 [(0, .ref l0), (2, .int l2), (3, .int l3), (4, .int l4), (5, .int l5), (6, .int l6)] [] h o hz := by
  unfold f103_35b at hf
  refine ev_iload (q_cod qk103 rfl) (by decide) rfl ?_
  refine ev_aload_n (q_cod qk103 rfl) (by decide) rfl ?_
  refine em_gI (q_cod qk103 rfl) (by decide) (by decide) hf (fun v1 hf => ?_)
  refine em_ic_ge (q_cod qk103 rfl) (by decide) hf (fun c5 hf => ?_) (fun c5 hf => ?_)
  · refine ev_iload (q_cod qk103 rfl) (by decide) rfl ?_
    refine ev_iload (q_cod qk103 rfl) (by decide) rfl ?_
    refine ev_iushr (q_cod qk103 rfl) (by decide) ?_
    refine ev_ic (v := 1) (q_cod qk103 rfl) (by decide) (by decide) ?_
    refine ev_iand (q_cod qk103 rfl) (by decide) ?_
    refine ev_ic (v := 1) (q_cod qk103 rfl) (by decide) (by decide) ?_
    refine em_ic_ne (q_cod qk103 rfl) (by decide) hf (fun c4 hf => ?_) (fun c4 hf => ?_)
    · refine ev_iload_n (q_cod qk103 rfl) (by decide) rfl ?_
      refine ev_aload_n (q_cod qk103 rfl) (by decide) rfl ?_
      refine ev_iload (q_cod qk103 rfl) (by decide) rfl ?_
      obtain ⟨g2, hf⟩ := m_aK_some hf
      refine em_call (v := (fun u => some (.int u))) (q_cod qk103 rfl) rfl rfl (q_cokV rfl rfl (Or.inr g2)) rfl (fun x e => f104_cl e) hf (fun v3 h hf => ?_)
      refine ev_ior (q_cod qk103 rfl) (by decide) ?_
      refine ev_is1 (L' := [(0, .ref l0), (2, .int (l2 ||| v3)), (3, .int l3), (4, .int l4), (5, .int l5), (6, .int l6)]) (q_cod qk103 rfl) (by decide) rfl ?_
      exact (f103_64_ok hf hK)
    · exact (f103_64_ok hf hK)
  · obtain ⟨y0, hf0, hx⟩ := m_inr_some hf
    subst hx
    exact ev_weak (q_pk [0, 1, 2, 3] rfl) (f103_70_ok hf0 hK)
def f103_35 (l0 : Nat) (l2 : Int32) (l3 : Int32) (l4 : Int32) (l5 : Int32) (l6 : Int32) : m_M ((Nat × Int32 × Int32 × Int32) ⊕ Int32) := m_W (fun s => f103_35b (s.1) (s.2.1) (s.2.2.1) (s.2.2.2.1) (s.2.2.2.2.1) (s.2.2.2.2.2)) 1000000 (l0, l2, l3, l4, l5, l6)
theorem f103_35_ok {l0 : Nat} {l2 : Int32} {l3 : Int32} {l4 : Int32} {l5 : Int32} {l6 : Int32} {h : q_H} {o : q_O} {hz : q_H} {x : ((Nat × Int32 × Int32 × Int32) ⊕ Int32) × q_H} (hf : f103_35 l0 l2 l3 l4 l5 l6 h = some x) (hK : (m_yK (fun (s : Nat × Int32 × Int32 × Int32) (h : q_H) => q_Ev none 103 11 [(0, .ref (s.1)), (2, .int (s.2.1)), (3, .int (s.2.2.1)), (4, .int (s.2.2.2))] [] h o hz) (q_KI o hz)) x) : q_Ev none 103 35 [(0, .ref l0), (2, .int l2), (3, .int l3), (4, .int l4), (5, .int l5), (6, .int l6)] [] h o hz :=
  m_W_ok (P := (fun (s : Nat × Int32 × Int32 × Int32 × Int32 × Int32) (h : q_H) => q_Ev none 103 35 [(0, .ref (s.1)), (2, .int (s.2.1)), (3, .int (s.2.2.1)), (4, .int (s.2.2.2.1)), (5, .int (s.2.2.2.2.1)), (6, .int (s.2.2.2.2.2))] [] h o hz)) (K := (m_yK (fun (s : Nat × Int32 × Int32 × Int32) (h : q_H) => q_Ev none 103 11 [(0, .ref (s.1)), (2, .int (s.2.1)), (3, .int (s.2.2.1)), (4, .int (s.2.2.2))] [] h o hz) (q_KI o hz))) (fun s h x h1 h2 => f103_35b_ok h1 h2) _ (l0, l2, l3, l4, l5, l6) _ _ hf hK
def f103_11b (l0 : Nat) (l2 : Int32) (l3 : Int32) (l4 : Int32) : m_M ((Nat × Int32 × Int32 × Int32) ⊕ Int32) :=
  if l4 < 24 then (if l3 = l2 then (m_B (f103_76 l2) (fun r => m_R (.inr r))) else (f103_35 l0 l2 l2 l4 (l2 &&& (l3 ^^^ (-1))) 0)) else (m_B (f103_76 l2) (fun r => m_R (.inr r)))
theorem f103_11b_ok {l0 : Nat} {l2 : Int32} {l3 : Int32} {l4 : Int32} {h : q_H} {o : q_O} {hz : q_H} {x : ((Nat × Int32 × Int32 × Int32) ⊕ Int32) × q_H} (hf : f103_11b l0 l2 l3 l4 h = some x) (hK : (m_yK (fun (s : Nat × Int32 × Int32 × Int32) (h : q_H) => q_Ev none 103 11 [(0, .ref (s.1)), (2, .int (s.2.1)), (3, .int (s.2.2.1)), (4, .int (s.2.2.2))] [] h o hz) (q_KI o hz)) x) : q_Ev none 103 11 [(0, .ref l0), (2, .int l2), (3, .int l3), (4, .int l4)] [] h o hz := by
  unfold f103_11b at hf
  refine ev_iload (q_cod qk103 rfl) (by decide) rfl ?_
  refine ev_bi (v := 24) (q_cod qk103 rfl) (by decide) (by decide) ?_
  refine em_ic_ge (q_cod qk103 rfl) (by decide) hf (fun c2 hf => ?_) (fun c2 hf => ?_)
  · refine ev_iload_n (q_cod qk103 rfl) (by decide) rfl ?_
    refine ev_iload_n (q_cod qk103 rfl) (by decide) rfl ?_
    refine em_ic_eq (q_cod qk103 rfl) (by decide) hf (fun c1 hf => ?_) (fun c1 hf => ?_)
    · obtain ⟨y0, hf0, hx⟩ := m_inr_some hf
      subst hx
      exact ev_weak (q_pk [1] rfl) (f103_76_ok hf0 hK)
    · refine ev_iload_n (q_cod qk103 rfl) (by decide) rfl ?_
      refine ev_iload_n (q_cod qk103 rfl) (by decide) rfl ?_
      refine ev_ic (v := (-1)) (q_cod qk103 rfl) (by decide) (by decide) ?_
      refine ev_ixor (q_cod qk103 rfl) (by decide) ?_
      refine ev_iand (q_cod qk103 rfl) (by decide) ?_
      refine ev_is2 (L' := [(0, .ref l0), (2, .int l2), (3, .int l3), (4, .int l4), (5, .int (l2 &&& (l3 ^^^ (-1))))]) (q_cod qk103 rfl) (by decide) rfl ?_
      refine ev_iload_n (q_cod qk103 rfl) (by decide) rfl ?_
      refine ev_is1 (L' := [(0, .ref l0), (2, .int l2), (3, .int l2), (4, .int l4), (5, .int (l2 &&& (l3 ^^^ (-1))))]) (q_cod qk103 rfl) (by decide) rfl ?_
      refine ev_ic (v := 0) (q_cod qk103 rfl) (by decide) (by decide) ?_
      refine ev_is2 (L' := [(0, .ref l0), (2, .int l2), (3, .int l2), (4, .int l4), (5, .int (l2 &&& (l3 ^^^ (-1)))), (6, .int 0)]) (q_cod qk103 rfl) (by decide) rfl ?_
      exact (f103_35_ok hf hK)
  · obtain ⟨y0, hf0, hx⟩ := m_inr_some hf
    subst hx
    exact ev_weak (q_pk [1] rfl) (f103_76_ok hf0 hK)
def f103_11 (l0 : Nat) (l2 : Int32) (l3 : Int32) (l4 : Int32) : m_M Int32 := m_W (fun s => f103_11b (s.1) (s.2.1) (s.2.2.1) (s.2.2.2)) 1000000 (l0, l2, l3, l4)
theorem f103_11_ok {l0 : Nat} {l2 : Int32} {l3 : Int32} {l4 : Int32} {h : q_H} {o : q_O} {hz : q_H} {x : Int32 × q_H} (hf : f103_11 l0 l2 l3 l4 h = some x) (hK : (q_KI o hz) x) : q_Ev none 103 11 [(0, .ref l0), (2, .int l2), (3, .int l3), (4, .int l4)] [] h o hz :=
  m_W_ok (P := (fun (s : Nat × Int32 × Int32 × Int32) (h : q_H) => q_Ev none 103 11 [(0, .ref (s.1)), (2, .int (s.2.1)), (3, .int (s.2.2.1)), (4, .int (s.2.2.2))] [] h o hz)) (K := (q_KI o hz)) (fun s h x h1 h2 => f103_11b_ok h1 h2) _ (l0, l2, l3, l4) _ _ hf hK
def f103 (l0 : Nat) (l1 : Int32) : m_M Int32 :=
  m_B (m_aK l0 7) (fun _ => m_B (f104 l0 l1) (fun v2 => f103_11 l0 v2 0 0))
theorem f103_ok {l0 : Nat} {l1 : Int32} {h : q_H} {o : q_O} {hz : q_H} {x : Int32 × q_H} (hf : f103 l0 l1 h = some x) (hK : (q_KI o hz) x) : q_Ev none 103 0 [(0, .ref l0), (1, .int l1)] [] h o hz := by
  unfold f103 at hf
  refine ev_aload_n (q_cod qk103 rfl) (by decide) rfl ?_
  refine ev_iload_n (q_cod qk103 rfl) (by decide) rfl ?_
  obtain ⟨g1, hf⟩ := m_aK_some hf
  refine em_call (v := (fun u => some (.int u))) (q_cod qk103 rfl) rfl rfl (q_cokV rfl rfl (Or.inr g1)) rfl (fun x e => f104_cl e) hf (fun v2 h hf => ?_)
  refine ev_is1 (L' := [(0, .ref l0), (1, .int l1), (2, .int v2)]) (q_cod qk103 rfl) (by decide) rfl ?_
  refine ev_ic (v := 0) (q_cod qk103 rfl) (by decide) (by decide) ?_
  refine ev_is1 (L' := [(0, .ref l0), (1, .int l1), (2, .int v2), (3, .int 0)]) (q_cod qk103 rfl) (by decide) rfl ?_
  refine ev_ic (v := 0) (q_cod qk103 rfl) (by decide) (by decide) ?_
  refine ev_is2 (L' := [(0, .ref l0), (1, .int l1), (2, .int v2), (3, .int 0), (4, .int 0)]) (q_cod qk103 rfl) (by decide) rfl ?_
  exact ev_weak (q_pk [0, 2, 3, 4] rfl) (f103_11_ok hf hK)
theorem f103_cl {l0 : Nat} {l1 : Int32} {h : q_H} {x : Int32 × q_H} (hf : f103 l0 l1 h = some x) : q_Cl 103 [.ref l0, .int l1] h (.inl (some (.int x.1))) x.2 := q_Cl.of rfl (q_LvS rfl rfl) (f103_ok hf ⟨rfl, rfl⟩)
/-! SmithyBench$Program.namesIn(I)I -/
theorem qk102 : q_cs.getD 102 [] = qc_102 := rfl
def f102_43 (l2 : Int32) : m_M Int32 :=
  m_R l2
theorem f102_43_ok {l2 : Int32} {h : q_H} {o : q_O} {hz : q_H} {x : Int32 × q_H} (hf : f102_43 l2 h = some x) (hK : (q_KI o hz) x) : q_Ev none 102 43 [(2, .int l2)] [] h o hz := by
  unfold f102_43 at hf
  refine ev_iload_n (q_cod qk102 rfl) (by decide) rfl ?_
  obtain rfl := m_R_inv hf
  obtain ⟨rfl, rfl⟩ := (show q_KI o hz (l2, _) from hK)
  exact ev_ret (q_cod qk102 rfl) rfl
def f102_12b (l0 : Nat) (l1 : Int32) (l2 : Int32) (l3 : Int32) : m_M ((Nat × Int32 × Int32 × Int32) ⊕ Int32) :=
  m_B (m_gR 7 l0 5) (fun r1 => m_B (m_lI r1 l1) (fun v2 => if l3 < v2 then (m_B (m_gR 7 l0 6) (fun r3 => m_B (m_lI r3 ((l1 * 2) + l3)) (fun v4 => m_R (.inl (l0, l1, (l2 ||| (1 <<< (v4 &&& 31))), (l3 + 1)))))) else (m_B (f102_43 l2) (fun r => m_R (.inr r)))))
theorem f102_12b_ok {l0 : Nat} {l1 : Int32} {l2 : Int32} {l3 : Int32} {h : q_H} {o : q_O} {hz : q_H} {x : ((Nat × Int32 × Int32 × Int32) ⊕ Int32) × q_H} (hf : f102_12b l0 l1 l2 l3 h = some x) (hK : (m_yK (fun (s : Nat × Int32 × Int32 × Int32) (h : q_H) => q_Ev none 102 12 [(0, .ref (s.1)), (1, .int (s.2.1)), (2, .int (s.2.2.1)), (3, .int (s.2.2.2))] [] h o hz) (q_KI o hz)) x) : q_Ev none 102 12 [(0, .ref l0), (1, .int l1), (2, .int l2), (3, .int l3)] [] h o hz := by
  unfold f102_12b at hf
  refine ev_iload_n (q_cod qk102 rfl) (by decide) rfl ?_
  refine ev_aload_n (q_cod qk102 rfl) (by decide) rfl ?_
  refine em_gR (q_cod qk102 rfl) (by decide) (by decide) hf (fun r1 hf => ?_)
  refine ev_iload_n (q_cod qk102 rfl) (by decide) rfl ?_
  refine em_lI (q_cod qk102 rfl) (by decide) hf (fun v2 hf => ?_)
  refine em_ic_ge (q_cod qk102 rfl) (by decide) hf (fun c5 hf => ?_) (fun c5 hf => ?_)
  · refine ev_iload_n (q_cod qk102 rfl) (by decide) rfl ?_
    refine ev_ic (v := 1) (q_cod qk102 rfl) (by decide) (by decide) ?_
    refine ev_aload_n (q_cod qk102 rfl) (by decide) rfl ?_
    refine em_gR (q_cod qk102 rfl) (by decide) (by decide) hf (fun r3 hf => ?_)
    refine ev_iload_n (q_cod qk102 rfl) (by decide) rfl ?_
    refine ev_ic (v := 2) (q_cod qk102 rfl) (by decide) (by decide) ?_
    refine ev_imul (q_cod qk102 rfl) (by decide) ?_
    refine ev_iload_n (q_cod qk102 rfl) (by decide) rfl ?_
    refine ev_iadd (q_cod qk102 rfl) (by decide) ?_
    refine em_lI (q_cod qk102 rfl) (by decide) hf (fun v4 hf => ?_)
    refine ev_ishl (q_cod qk102 rfl) (by decide) ?_
    refine ev_ior (q_cod qk102 rfl) (by decide) ?_
    refine ev_is1 (L' := [(0, .ref l0), (1, .int l1), (2, .int (l2 ||| (1 <<< (v4 &&& 31)))), (3, .int l3)]) (q_cod qk102 rfl) (by decide) rfl ?_
    refine ev_inc (v := l3 + 1) (L' := [(0, .ref l0), (1, .int l1), (2, .int (l2 ||| (1 <<< (v4 &&& 31)))), (3, .int (l3 + 1))]) (q_cod qk102 rfl) (by decide) rfl rfl rfl ?_
    refine ev_goto (q_cod qk102 rfl) (by decide) ?_
    obtain rfl := m_R_inv hf
    exact (show q_Ev none 102 12 [(0, .ref l0), (1, .int l1), (2, .int (l2 ||| (1 <<< (v4 &&& 31)))), (3, .int (l3 + 1))] [] _ o hz from hK)
  · obtain ⟨y0, hf0, hx⟩ := m_inr_some hf
    subst hx
    exact ev_weak (q_pk [2] rfl) (f102_43_ok hf0 hK)
def f102_12 (l0 : Nat) (l1 : Int32) (l2 : Int32) (l3 : Int32) : m_M Int32 := m_W (fun s => f102_12b (s.1) (s.2.1) (s.2.2.1) (s.2.2.2)) 1000000 (l0, l1, l2, l3)
theorem f102_12_ok {l0 : Nat} {l1 : Int32} {l2 : Int32} {l3 : Int32} {h : q_H} {o : q_O} {hz : q_H} {x : Int32 × q_H} (hf : f102_12 l0 l1 l2 l3 h = some x) (hK : (q_KI o hz) x) : q_Ev none 102 12 [(0, .ref l0), (1, .int l1), (2, .int l2), (3, .int l3)] [] h o hz :=
  m_W_ok (P := (fun (s : Nat × Int32 × Int32 × Int32) (h : q_H) => q_Ev none 102 12 [(0, .ref (s.1)), (1, .int (s.2.1)), (2, .int (s.2.2.1)), (3, .int (s.2.2.2))] [] h o hz)) (K := (q_KI o hz)) (fun s h x h1 h2 => f102_12b_ok h1 h2) _ (l0, l1, l2, l3) _ _ hf hK
def f102 (l0 : Nat) (l1 : Int32) : m_M Int32 :=
  m_B (m_gR 7 l0 9) (fun r1 => m_B (m_lR r1 l1) (fun r2 => m_B (m_aK r2 0) (fun _ => m_B (f19 r2) (fun v4 => f102_12 l0 l1 v4 0))))
theorem f102_ok {l0 : Nat} {l1 : Int32} {h : q_H} {o : q_O} {hz : q_H} {x : Int32 × q_H} (hf : f102 l0 l1 h = some x) (hK : (q_KI o hz) x) : q_Ev none 102 0 [(0, .ref l0), (1, .int l1)] [] h o hz := by
  unfold f102 at hf
  refine ev_aload_n (q_cod qk102 rfl) (by decide) rfl ?_
  refine em_gR (q_cod qk102 rfl) (by decide) (by decide) hf (fun r1 hf => ?_)
  refine ev_iload_n (q_cod qk102 rfl) (by decide) rfl ?_
  refine em_lR (q_cod qk102 rfl) (by decide) hf (fun r2 hf => ?_)
  obtain ⟨g3, hf⟩ := m_aK_some hf
  refine em_call (v := (fun u => some (.int u))) (q_cod qk102 rfl) rfl rfl (q_cokV rfl rfl (Or.inr g3)) rfl (fun x e => f19_cl e) hf (fun v4 h hf => ?_)
  refine ev_is1 (L' := [(0, .ref l0), (1, .int l1), (2, .int v4)]) (q_cod qk102 rfl) (by decide) rfl ?_
  refine ev_ic (v := 0) (q_cod qk102 rfl) (by decide) (by decide) ?_
  refine ev_is1 (L' := [(0, .ref l0), (1, .int l1), (2, .int v4), (3, .int 0)]) (q_cod qk102 rfl) (by decide) rfl ?_
  exact (f102_12_ok hf hK)
theorem f102_cl {l0 : Nat} {l1 : Int32} {h : q_H} {x : Int32 × q_H} (hf : f102 l0 l1 h = some x) : q_Cl 102 [.ref l0, .int l1] h (.inl (some (.int x.1))) x.2 := q_Cl.of rfl (q_LvS rfl rfl) (f102_ok hf ⟨rfl, rfl⟩)
/-! SmithyBench.freshName(I)I -/
theorem qk175 : q_cs.getD 175 [] = qc_175 := rfl
def f175_16 (l1 : Int32) : m_M Int32 :=
  m_R l1
theorem f175_16_ok {l1 : Int32} {h : q_H} {o : q_O} {hz : q_H} {x : Int32 × q_H} (hf : f175_16 l1 h = some x) (hK : (q_KI o hz) x) : q_Ev none 175 16 [(1, .int l1)] [] h o hz := by
  unfold f175_16 at hf
  refine ev_iload_n (q_cod qk175 rfl) (by decide) rfl ?_
  obtain rfl := m_R_inv hf
  obtain ⟨rfl, rfl⟩ := (show q_KI o hz (l1, _) from hK)
  exact ev_ret (q_cod qk175 rfl) rfl
def f175_24  : m_M Int32 :=
  m_R (-1)
theorem f175_24_ok  {h : q_H} {o : q_O} {hz : q_H} {x : Int32 × q_H} (hf : f175_24 h = some x) (hK : (q_KI o hz) x) : q_Ev none 175 24 [] [] h o hz := by
  unfold f175_24 at hf
  refine ev_ic (v := (-1)) (q_cod qk175 rfl) (by decide) (by decide) ?_
  obtain rfl := m_R_inv hf
  obtain ⟨rfl, rfl⟩ := (show q_KI o hz ((-1), _) from hK)
  exact ev_ret (q_cod qk175 rfl) rfl
def f175_2b (l0 : Int32) (l1 : Int32) : m_M ((Int32 × Int32) ⊕ Int32) :=
  if l1 < 16 then (if ((q_ush l0 l1) &&& 1) = 0 then (m_B (f175_16 l1) (fun r => m_R (.inr r))) else (m_R (.inl (l0, (l1 + 1))))) else (m_B (f175_24) (fun r => m_R (.inr r)))
theorem f175_2b_ok {l0 : Int32} {l1 : Int32} {h : q_H} {o : q_O} {hz : q_H} {x : ((Int32 × Int32) ⊕ Int32) × q_H} (hf : f175_2b l0 l1 h = some x) (hK : (m_yK (fun (s : Int32 × Int32) (h : q_H) => q_Ev none 175 2 [(0, .int (s.1)), (1, .int (s.2))] [] h o hz) (q_KI o hz)) x) : q_Ev none 175 2 [(0, .int l0), (1, .int l1)] [] h o hz := by
  unfold f175_2b at hf
  refine ev_iload_n (q_cod qk175 rfl) (by decide) rfl ?_
  refine ev_bi (v := 16) (q_cod qk175 rfl) (by decide) (by decide) ?_
  refine em_ic_ge (q_cod qk175 rfl) (by decide) hf (fun c2 hf => ?_) (fun c2 hf => ?_)
  · refine ev_iload_n (q_cod qk175 rfl) (by decide) rfl ?_
    refine ev_iload_n (q_cod qk175 rfl) (by decide) rfl ?_
    refine ev_iushr (q_cod qk175 rfl) (by decide) ?_
    refine ev_ic (v := 1) (q_cod qk175 rfl) (by decide) (by decide) ?_
    refine ev_iand (q_cod qk175 rfl) (by decide) ?_
    refine em_if_ne (q_cod qk175 rfl) (by decide) hf (fun c1 hf => ?_) (fun c1 hf => ?_)
    · obtain ⟨y0, hf0, hx⟩ := m_inr_some hf
      subst hx
      exact ev_weak (q_pk [1] rfl) (f175_16_ok hf0 hK)
    · refine ev_inc (v := l1 + 1) (L' := [(0, .int l0), (1, .int (l1 + 1))]) (q_cod qk175 rfl) (by decide) rfl rfl rfl ?_
      refine ev_goto (q_cod qk175 rfl) (by decide) ?_
      obtain rfl := m_R_inv hf
      exact (show q_Ev none 175 2 [(0, .int l0), (1, .int (l1 + 1))] [] _ o hz from hK)
  · obtain ⟨y0, hf0, hx⟩ := m_inr_some hf
    subst hx
    exact ev_weak (q_pk [] rfl) (f175_24_ok hf0 hK)
def f175_2 (l0 : Int32) (l1 : Int32) : m_M Int32 := m_W (fun s => f175_2b (s.1) (s.2)) 1000000 (l0, l1)
theorem f175_2_ok {l0 : Int32} {l1 : Int32} {h : q_H} {o : q_O} {hz : q_H} {x : Int32 × q_H} (hf : f175_2 l0 l1 h = some x) (hK : (q_KI o hz) x) : q_Ev none 175 2 [(0, .int l0), (1, .int l1)] [] h o hz :=
  m_W_ok (P := (fun (s : Int32 × Int32) (h : q_H) => q_Ev none 175 2 [(0, .int (s.1)), (1, .int (s.2))] [] h o hz)) (K := (q_KI o hz)) (fun s h x h1 h2 => f175_2b_ok h1 h2) _ (l0, l1) _ _ hf hK
def f175 (l0 : Int32) : m_M Int32 :=
  f175_2 l0 0
theorem f175_ok {l0 : Int32} {h : q_H} {o : q_O} {hz : q_H} {x : Int32 × q_H} (hf : f175 l0 h = some x) (hK : (q_KI o hz) x) : q_Ev none 175 0 [(0, .int l0)] [] h o hz := by
  unfold f175 at hf
  refine ev_ic (v := 0) (q_cod qk175 rfl) (by decide) (by decide) ?_
  refine ev_is1 (L' := [(0, .int l0), (1, .int 0)]) (q_cod qk175 rfl) (by decide) rfl ?_
  exact (f175_2_ok hf hK)
theorem f175_cl {l0 : Int32} {h : q_H} {x : Int32 × q_H} (hf : f175 l0 h = some x) : q_Cl 175 [.int l0] h (.inl (some (.int x.1))) x.2 := q_Cl.of rfl (q_LvS rfl rfl) (f175_ok hf ⟨rfl, rfl⟩)
/-! SmithyBench$Inliner.addLet(LSmithyBench$Body;II)V -/
theorem qk37 : q_cs.getD 37 [] = qc_37 := rfl
def f37 (l0 : Nat) (l1 : Nat) (l2 : Int32) (l3 : Int32) : m_M Unit :=
  m_B (m_gR 3 l0 0) (fun r1 => m_B (m_aK r1 0) (fun _ => m_B (f2 r1 5 l3 2) (fun _ => m_B (m_gR 3 l0 0) (fun r4 => m_B (m_gR 0 l1 3) (fun r5 => m_B (m_lI r5 l2) (fun v6 => m_B (m_aK r4 0) (fun _ => m_B (f6 r4 l1 l2 v6) (fun _ => m_R ()))))))))
theorem f37_ok {l0 : Nat} {l1 : Nat} {l2 : Int32} {l3 : Int32} {h : q_H} {o : q_O} {hz : q_H} {x : Unit × q_H} (hf : f37 l0 l1 l2 l3 h = some x) (hK : (m_KU o hz) x) : q_Ev none 37 0 [(0, .ref l0), (1, .ref l1), (2, .int l2), (3, .int l3)] [] h o hz := by
  unfold f37 at hf
  refine ev_aload_n (q_cod qk37 rfl) (by decide) rfl ?_
  refine em_gR (q_cod qk37 rfl) (by decide) (by decide) hf (fun r1 hf => ?_)
  refine ev_ic (v := 5) (q_cod qk37 rfl) (by decide) (by decide) ?_
  refine ev_iload_n (q_cod qk37 rfl) (by decide) rfl ?_
  refine ev_ic (v := 2) (q_cod qk37 rfl) (by decide) (by decide) ?_
  obtain ⟨g2, hf⟩ := m_aK_some hf
  refine em_call (v := (fun _ => none)) (q_cod qk37 rfl) rfl rfl (q_cokV rfl rfl (Or.inr g2)) rfl (fun x e => f2_cl e) hf (fun _ h hf => ?_)
  refine ev_aload_n (q_cod qk37 rfl) (by decide) rfl ?_
  refine em_gR (q_cod qk37 rfl) (by decide) (by decide) hf (fun r4 hf => ?_)
  refine ev_aload_n (q_cod qk37 rfl) (by decide) rfl ?_
  refine ev_iload_n (q_cod qk37 rfl) (by decide) rfl ?_
  refine ev_aload_n (q_cod qk37 rfl) (by decide) rfl ?_
  refine em_gR (q_cod qk37 rfl) (by decide) (by decide) hf (fun r5 hf => ?_)
  refine ev_iload_n (q_cod qk37 rfl) (by decide) rfl ?_
  refine em_lI (q_cod qk37 rfl) (by decide) hf (fun v6 hf => ?_)
  obtain ⟨g7, hf⟩ := m_aK_some hf
  refine em_call (v := (fun _ => none)) (q_cod qk37 rfl) rfl rfl (q_cokV rfl rfl (Or.inr g7)) rfl (fun x e => f6_cl e) hf (fun _ h hf => ?_)
  obtain rfl := m_R_inv hf
  obtain ⟨rfl, rfl⟩ := (show m_KU o hz ((), _) from hK)
  exact ev_ret (q_cod qk37 rfl) rfl
theorem f37_cl {l0 : Nat} {l1 : Nat} {l2 : Int32} {l3 : Int32} {h : q_H} {x : Unit × q_H} (hf : f37 l0 l1 l2 l3 h = some x) : q_Cl 37 [.ref l0, .ref l1, .int l2, .int l3] h (.inl none) x.2 := q_Cl.of rfl (q_LvS rfl rfl) (f37_ok hf ⟨rfl, rfl⟩)
/-! SmithyBench$Program.hasLocal(III)Z -/
theorem qk101 : q_cs.getD 101 [] = qc_101 := rfl
def f101_30 (s0 : Int32) : m_M Int32 :=
  m_B (m_G (s0 = 0 ∨ s0 = 1)) (fun _ => m_R s0)
theorem f101_30_ok {s0 : Int32} {h : q_H} {o : q_O} {hz : q_H} {x : Int32 × q_H} (hf : f101_30 s0 h = some x) (hK : (q_KI o hz) x) : q_Ev none 101 30 [] [.int s0] h o hz := by
  unfold f101_30 at hf
  obtain ⟨g1, hf⟩ := m_G_some hf
  obtain rfl := m_R_inv hf
  obtain ⟨rfl, rfl⟩ := (show q_KI o hz (s0, _) from hK)
  exact ev_ret (q_cod qk101 rfl) (q_retZ g1)
def f101_25  : m_M Int32 :=
  f101_30 1
theorem f101_25_ok  {h : q_H} {o : q_O} {hz : q_H} {x : Int32 × q_H} (hf : f101_25 h = some x) (hK : (q_KI o hz) x) : q_Ev none 101 25 [] [] h o hz := by
  unfold f101_25 at hf
  refine ev_ic (v := 1) (q_cod qk101 rfl) (by decide) (by decide) ?_
  refine ev_goto (q_cod qk101 rfl) (by decide) ?_
  exact (f101_30_ok hf hK)
def f101 (l0 : Nat) (l1 : Int32) (l2 : Int32) (l3 : Int32) : m_M Int32 :=
  m_B (m_aK l0 7) (fun _ => m_B (f98 l0 l1 l3) (fun v2 => if v2 = (-1) then (m_B (m_gR 7 l0 9) (fun r3 => m_B (m_lR r3 l1) (fun r4 => m_B (m_aK r4 0) (fun _ => m_B (f10 r4 l2 l3) (fun v6 => if v6 = (-1) then (f101_30 0) else (f101_25)))))) else (f101_25)))
theorem f101_ok {l0 : Nat} {l1 : Int32} {l2 : Int32} {l3 : Int32} {h : q_H} {o : q_O} {hz : q_H} {x : Int32 × q_H} (hf : f101 l0 l1 l2 l3 h = some x) (hK : (q_KI o hz) x) : q_Ev none 101 0 [(0, .ref l0), (1, .int l1), (2, .int l2), (3, .int l3)] [] h o hz := by
  unfold f101 at hf
  refine ev_aload_n (q_cod qk101 rfl) (by decide) rfl ?_
  refine ev_iload_n (q_cod qk101 rfl) (by decide) rfl ?_
  refine ev_iload_n (q_cod qk101 rfl) (by decide) rfl ?_
  obtain ⟨g1, hf⟩ := m_aK_some hf
  refine em_call (v := (fun u => some (.int u))) (q_cod qk101 rfl) rfl rfl (q_cokV rfl rfl (Or.inr g1)) rfl (fun x e => f98_cl e) hf (fun v2 h hf => ?_)
  refine ev_ic (v := (-1)) (q_cod qk101 rfl) (by decide) (by decide) ?_
  refine em_ic_ne (q_cod qk101 rfl) (by decide) hf (fun c8 hf => ?_) (fun c8 hf => ?_)
  · refine ev_aload_n (q_cod qk101 rfl) (by decide) rfl ?_
    refine em_gR (q_cod qk101 rfl) (by decide) (by decide) hf (fun r3 hf => ?_)
    refine ev_iload_n (q_cod qk101 rfl) (by decide) rfl ?_
    refine em_lR (q_cod qk101 rfl) (by decide) hf (fun r4 hf => ?_)
    refine ev_iload_n (q_cod qk101 rfl) (by decide) rfl ?_
    refine ev_iload_n (q_cod qk101 rfl) (by decide) rfl ?_
    obtain ⟨g5, hf⟩ := m_aK_some hf
    refine em_call (v := (fun u => some (.int u))) (q_cod qk101 rfl) rfl rfl (q_cokV rfl rfl (Or.inr g5)) rfl (fun x e => f10_cl e) hf (fun v6 h hf => ?_)
    refine ev_ic (v := (-1)) (q_cod qk101 rfl) (by decide) (by decide) ?_
    refine em_ic_eq (q_cod qk101 rfl) (by decide) hf (fun c7 hf => ?_) (fun c7 hf => ?_)
    · refine ev_ic (v := 0) (q_cod qk101 rfl) (by decide) (by decide) ?_
      exact ev_weak (q_pk [] rfl) (f101_30_ok hf hK)
    · exact ev_weak (q_pk [] rfl) (f101_25_ok hf hK)
  · exact ev_weak (q_pk [] rfl) (f101_25_ok hf hK)
theorem f101_cl {l0 : Nat} {l1 : Int32} {l2 : Int32} {l3 : Int32} {h : q_H} {x : Int32 × q_H} (hf : f101 l0 l1 l2 l3 h = some x) : q_Cl 101 [.ref l0, .int l1, .int l2, .int l3] h (.inl (some (.int x.1))) x.2 := q_Cl.of rfl (q_LvS rfl rfl) (f101_ok hf ⟨rfl, rfl⟩)
/-! SmithyBench$Inliner.addBody(LSmithyBench$Program;IIII)V -/
theorem qk38 : q_cs.getD 38 [] = qc_38 := rfl
def f38_148 (l0 : Nat) (l1 : Nat) (l2 : Int32) (l3 : Int32) (l4 : Int32) (l5 : Int32) (l6 : Nat) (l7 : Int32) : m_M ((Nat × Nat × Int32 × Int32 × Int32 × Int32 × Nat × Int32) ⊕ Unit) :=
  m_R (.inl (l0, l1, l2, l3, l4, l5, l6, (l7 + 1)))
theorem f38_148_ok {l0 : Nat} {l1 : Nat} {l2 : Int32} {l3 : Int32} {l4 : Int32} {l5 : Int32} {l6 : Nat} {l7 : Int32} {h : q_H} {o : q_O} {hz : q_H} {x : ((Nat × Nat × Int32 × Int32 × Int32 × Int32 × Nat × Int32) ⊕ Unit) × q_H} (hf : f38_148 l0 l1 l2 l3 l4 l5 l6 l7 h = some x) (hK : (m_yK (fun (s : Nat × Nat × Int32 × Int32 × Int32 × Int32 × Nat × Int32) (h : q_H) => q_Ev none 38 25 [(0, .ref (s.1)), (1, .ref (s.2.1)), (2, .int (s.2.2.1)), (3, .int (s.2.2.2.1)), (4, .int (s.2.2.2.2.1)), (5, .int (s.2.2.2.2.2.1)), (6, .ref (s.2.2.2.2.2.2.1)), (7, .int (s.2.2.2.2.2.2.2))] [] h o hz) (m_KU o hz)) x) : q_Ev none 38 148 [(0, .ref l0), (1, .ref l1), (2, .int l2), (3, .int l3), (4, .int l4), (5, .int l5), (6, .ref l6), (7, .int l7)] [] h o hz := by
  unfold f38_148 at hf
  refine ev_inc (v := l7 + 1) (L' := [(0, .ref l0), (1, .ref l1), (2, .int l2), (3, .int l3), (4, .int l4), (5, .int l5), (6, .ref l6), (7, .int (l7 + 1))]) (q_cod qk38 rfl) (by decide) rfl rfl rfl ?_
  refine ev_goto (q_cod qk38 rfl) (by decide) ?_
  obtain rfl := m_R_inv hf
  exact (show q_Ev none 38 25 [(0, .ref l0), (1, .ref l1), (2, .int l2), (3, .int l3), (4, .int l4), (5, .int l5), (6, .ref l6), (7, .int (l7 + 1))] [] _ o hz from hK)
def f38_137 (l0 : Nat) (l1 : Nat) (l2 : Int32) (l3 : Int32) (l4 : Int32) (l5 : Int32) (l6 : Nat) (l7 : Int32) : m_M ((Nat × Nat × Int32 × Int32 × Int32 × Int32 × Nat × Int32) ⊕ Unit) :=
  m_B (m_gR 3 l0 0) (fun r1 => m_B (m_aK r1 0) (fun _ => m_B (f3 r1 l6 l7) (fun _ => f38_148 l0 l1 l2 l3 l4 l5 l6 l7)))
theorem f38_137_ok {l0 : Nat} {l1 : Nat} {l2 : Int32} {l3 : Int32} {l4 : Int32} {l5 : Int32} {l6 : Nat} {l7 : Int32} {h : q_H} {o : q_O} {hz : q_H} {x : ((Nat × Nat × Int32 × Int32 × Int32 × Int32 × Nat × Int32) ⊕ Unit) × q_H} (hf : f38_137 l0 l1 l2 l3 l4 l5 l6 l7 h = some x) (hK : (m_yK (fun (s : Nat × Nat × Int32 × Int32 × Int32 × Int32 × Nat × Int32) (h : q_H) => q_Ev none 38 25 [(0, .ref (s.1)), (1, .ref (s.2.1)), (2, .int (s.2.2.1)), (3, .int (s.2.2.2.1)), (4, .int (s.2.2.2.2.1)), (5, .int (s.2.2.2.2.2.1)), (6, .ref (s.2.2.2.2.2.2.1)), (7, .int (s.2.2.2.2.2.2.2))] [] h o hz) (m_KU o hz)) x) : q_Ev none 38 137 [(0, .ref l0), (1, .ref l1), (2, .int l2), (3, .int l3), (4, .int l4), (5, .int l5), (6, .ref l6), (7, .int l7)] [] h o hz := by
  unfold f38_137 at hf
  refine ev_aload_n (q_cod qk38 rfl) (by decide) rfl ?_
  refine em_gR (q_cod qk38 rfl) (by decide) (by decide) hf (fun r1 hf => ?_)
  refine ev_aload (q_cod qk38 rfl) (by decide) rfl ?_
  refine ev_iload (q_cod qk38 rfl) (by decide) rfl ?_
  obtain ⟨g2, hf⟩ := m_aK_some hf
  refine em_call (v := (fun _ => none)) (q_cod qk38 rfl) rfl rfl (q_cokV rfl rfl (Or.inr g2)) rfl (fun x e => f3_cl e) hf (fun _ h hf => ?_)
  exact (f38_148_ok hf hK)
def f38_154  : m_M Unit :=
  m_R ()
theorem f38_154_ok  {h : q_H} {o : q_O} {hz : q_H} {x : Unit × q_H} (hf : f38_154 h = some x) (hK : (m_KU o hz) x) : q_Ev none 38 154 [] [] h o hz := by
  unfold f38_154 at hf
  obtain rfl := m_R_inv hf
  obtain ⟨rfl, rfl⟩ := (show m_KU o hz ((), _) from hK)
  exact ev_ret (q_cod qk38 rfl) rfl
def f38_25b (l0 : Nat) (l1 : Nat) (l2 : Int32) (l3 : Int32) (l4 : Int32) (l5 : Int32) (l6 : Nat) (l7 : Int32) : m_M ((Nat × Nat × Int32 × Int32 × Int32 × Int32 × Nat × Int32) ⊕ Unit) :=
  m_B (m_gI 0 l6 7) (fun v1 => if l7 < v1 then (m_B (m_gR 0 l6 1) (fun r2 => m_B (m_lI r2 l7) (fun v3 => m_B (m_aK l6 0) (fun _ => m_B (f15 l6 l7 (-1)) (fun v5 => if v5 = 0 then (m_B (m_aK l6 0) (fun _ => m_B (f15 l6 l7 (-2)) (fun v7 => if v7 = 0 then (m_B (m_aK l6 0) (fun _ => m_B (f13 l6 l7) (fun v9 => if v9 = 0 then (f38_137 l0 l1 l2 l3 l4 l5 l6 l7) else (m_B (m_aK l1 7) (fun _ => m_B (f101 l1 l2 l3 v3) (fun v11 => if v11 = 0 then (f38_137 l0 l1 l2 l3 l4 l5 l6 l7) else (m_B (m_gR 3 l0 0) (fun r12 => m_B (m_aK r12 0) (fun _ => m_B (f5 r12 l6 l7 v3) (fun _ => f38_148 l0 l1 l2 l3 l4 l5 l6 l7)))))))))) else (m_B (m_gR 3 l0 0) (fun r17 => m_B (m_aK r17 0) (fun _ => m_B (f4 r17 l6 l7 l5) (fun _ => f38_148 l0 l1 l2 l3 l4 l5 l6 l7))))))) else (m_B (m_gR 3 l0 0) (fun r21 => m_B (m_aK r21 0) (fun _ => m_B (f4 r21 l6 l7 l4) (fun _ => f38_148 l0 l1 l2 l3 l4 l5 l6 l7))))))))) else (m_B (f38_154) (fun r => m_R (.inr r))))
theorem f38_25b_ok {l0 : Nat} {l1 : Nat} {l2 : Int32} {l3 : Int32} {l4 : Int32} {l5 : Int32} {l6 : Nat} {l7 : Int32} {h : q_H} {o : q_O} {hz : q_H} {x : ((Nat × Nat × Int32 × Int32 × Int32 × Int32 × Nat × Int32) ⊕ Unit) × q_H} (hf : f38_25b l0 l1 l2 l3 l4 l5 l6 l7 h = some x) (hK : (m_yK (fun (s : Nat × Nat × Int32 × Int32 × Int32 × Int32 × Nat × Int32) (h : q_H) => q_Ev none 38 25 [(0, .ref (s.1)), (1, .ref (s.2.1)), (2, .int (s.2.2.1)), (3, .int (s.2.2.2.1)), (4, .int (s.2.2.2.2.1)), (5, .int (s.2.2.2.2.2.1)), (6, .ref (s.2.2.2.2.2.2.1)), (7, .int (s.2.2.2.2.2.2.2))] [] h o hz) (m_KU o hz)) x) : q_Ev none 38 25 [(0, .ref l0), (1, .ref l1), (2, .int l2), (3, .int l3), (4, .int l4), (5, .int l5), (6, .ref l6), (7, .int l7)] [] h o hz := by
  unfold f38_25b at hf
  refine ev_iload (q_cod qk38 rfl) (by decide) rfl ?_
  refine ev_aload (q_cod qk38 rfl) (by decide) rfl ?_
  refine em_gI (q_cod qk38 rfl) (by decide) (by decide) hf (fun v1 hf => ?_)
  refine em_ic_ge (q_cod qk38 rfl) (by decide) hf (fun c25 hf => ?_) (fun c25 hf => ?_)
  · refine ev_aload (q_cod qk38 rfl) (by decide) rfl ?_
    refine em_gR (q_cod qk38 rfl) (by decide) (by decide) hf (fun r2 hf => ?_)
    refine ev_iload (q_cod qk38 rfl) (by decide) rfl ?_
    refine em_lI (q_cod qk38 rfl) (by decide) hf (fun v3 hf => ?_)
    refine ev_is2 (L' := [(0, .ref l0), (1, .ref l1), (2, .int l2), (3, .int l3), (4, .int l4), (5, .int l5), (6, .ref l6), (7, .int l7), (8, .int v3)]) (q_cod qk38 rfl) (by decide) rfl ?_
    refine ev_aload (q_cod qk38 rfl) (by decide) rfl ?_
    refine ev_iload (q_cod qk38 rfl) (by decide) rfl ?_
    refine ev_ic (v := (-1)) (q_cod qk38 rfl) (by decide) (by decide) ?_
    obtain ⟨g4, hf⟩ := m_aK_some hf
    refine em_call (v := (fun u => some (.int u))) (q_cod qk38 rfl) rfl rfl (q_cokV rfl rfl (Or.inr g4)) rfl (fun x e => f15_cl e) hf (fun v5 h hf => ?_)
    refine em_if_eq (q_cod qk38 rfl) (by decide) hf (fun c24 hf => ?_) (fun c24 hf => ?_)
    · refine ev_aload (q_cod qk38 rfl) (by decide) rfl ?_
      refine ev_iload (q_cod qk38 rfl) (by decide) rfl ?_
      refine ev_bi (v := (-2)) (q_cod qk38 rfl) (by decide) (by decide) ?_
      obtain ⟨g6, hf⟩ := m_aK_some hf
      refine em_call (v := (fun u => some (.int u))) (q_cod qk38 rfl) rfl rfl (q_cokV rfl rfl (Or.inr g6)) rfl (fun x e => f15_cl e) hf (fun v7 h hf => ?_)
      refine em_if_eq (q_cod qk38 rfl) (by decide) hf (fun c20 hf => ?_) (fun c20 hf => ?_)
      · refine ev_aload (q_cod qk38 rfl) (by decide) rfl ?_
        refine ev_iload (q_cod qk38 rfl) (by decide) rfl ?_
        obtain ⟨g8, hf⟩ := m_aK_some hf
        refine em_call (v := (fun u => some (.int u))) (q_cod qk38 rfl) rfl rfl (q_cokV rfl rfl (Or.inr g8)) rfl (fun x e => f13_cl e) hf (fun v9 h hf => ?_)
        refine em_if_eq (q_cod qk38 rfl) (by decide) hf (fun c16 hf => ?_) (fun c16 hf => ?_)
        · exact ev_weak (q_pk [0, 1, 2, 3, 4, 5, 6, 7] rfl) (f38_137_ok hf hK)
        · refine ev_aload_n (q_cod qk38 rfl) (by decide) rfl ?_
          refine ev_iload_n (q_cod qk38 rfl) (by decide) rfl ?_
          refine ev_iload_n (q_cod qk38 rfl) (by decide) rfl ?_
          refine ev_iload (q_cod qk38 rfl) (by decide) rfl ?_
          obtain ⟨g10, hf⟩ := m_aK_some hf
          refine em_call (v := (fun u => some (.int u))) (q_cod qk38 rfl) rfl rfl (q_cokV rfl rfl (Or.inr g10)) rfl (fun x e => f101_cl e) hf (fun v11 h hf => ?_)
          refine em_if_eq (q_cod qk38 rfl) (by decide) hf (fun c15 hf => ?_) (fun c15 hf => ?_)
          · exact ev_weak (q_pk [0, 1, 2, 3, 4, 5, 6, 7] rfl) (f38_137_ok hf hK)
          · refine ev_aload_n (q_cod qk38 rfl) (by decide) rfl ?_
            refine em_gR (q_cod qk38 rfl) (by decide) (by decide) hf (fun r12 hf => ?_)
            refine ev_aload (q_cod qk38 rfl) (by decide) rfl ?_
            refine ev_iload (q_cod qk38 rfl) (by decide) rfl ?_
            refine ev_iload (q_cod qk38 rfl) (by decide) rfl ?_
            obtain ⟨g13, hf⟩ := m_aK_some hf
            refine em_call (v := (fun _ => none)) (q_cod qk38 rfl) rfl rfl (q_cokV rfl rfl (Or.inr g13)) rfl (fun x e => f5_cl e) hf (fun _ h hf => ?_)
            refine ev_goto (q_cod qk38 rfl) (by decide) ?_
            exact ev_weak (q_pk [0, 1, 2, 3, 4, 5, 6, 7] rfl) (f38_148_ok hf hK)
      · refine ev_aload_n (q_cod qk38 rfl) (by decide) rfl ?_
        refine em_gR (q_cod qk38 rfl) (by decide) (by decide) hf (fun r17 hf => ?_)
        refine ev_aload (q_cod qk38 rfl) (by decide) rfl ?_
        refine ev_iload (q_cod qk38 rfl) (by decide) rfl ?_
        refine ev_iload (q_cod qk38 rfl) (by decide) rfl ?_
        obtain ⟨g18, hf⟩ := m_aK_some hf
        refine em_call (v := (fun _ => none)) (q_cod qk38 rfl) rfl rfl (q_cokV rfl rfl (Or.inr g18)) rfl (fun x e => f4_cl e) hf (fun _ h hf => ?_)
        refine ev_goto (q_cod qk38 rfl) (by decide) ?_
        exact ev_weak (q_pk [0, 1, 2, 3, 4, 5, 6, 7] rfl) (f38_148_ok hf hK)
    · refine ev_aload_n (q_cod qk38 rfl) (by decide) rfl ?_
      refine em_gR (q_cod qk38 rfl) (by decide) (by decide) hf (fun r21 hf => ?_)
      refine ev_aload (q_cod qk38 rfl) (by decide) rfl ?_
      refine ev_iload (q_cod qk38 rfl) (by decide) rfl ?_
      refine ev_iload (q_cod qk38 rfl) (by decide) rfl ?_
      obtain ⟨g22, hf⟩ := m_aK_some hf
      refine em_call (v := (fun _ => none)) (q_cod qk38 rfl) rfl rfl (q_cokV rfl rfl (Or.inr g22)) rfl (fun x e => f4_cl e) hf (fun _ h hf => ?_)
      refine ev_goto (q_cod qk38 rfl) (by decide) ?_
      exact ev_weak (q_pk [0, 1, 2, 3, 4, 5, 6, 7] rfl) (f38_148_ok hf hK)
  · obtain ⟨y0, hf0, hx⟩ := m_inr_some hf
    subst hx
    exact ev_weak (q_pk [] rfl) (f38_154_ok hf0 hK)
def f38_25 (l0 : Nat) (l1 : Nat) (l2 : Int32) (l3 : Int32) (l4 : Int32) (l5 : Int32) (l6 : Nat) (l7 : Int32) : m_M Unit := m_W (fun s => f38_25b (s.1) (s.2.1) (s.2.2.1) (s.2.2.2.1) (s.2.2.2.2.1) (s.2.2.2.2.2.1) (s.2.2.2.2.2.2.1) (s.2.2.2.2.2.2.2)) 1000000 (l0, l1, l2, l3, l4, l5, l6, l7)
theorem f38_25_ok {l0 : Nat} {l1 : Nat} {l2 : Int32} {l3 : Int32} {l4 : Int32} {l5 : Int32} {l6 : Nat} {l7 : Int32} {h : q_H} {o : q_O} {hz : q_H} {x : Unit × q_H} (hf : f38_25 l0 l1 l2 l3 l4 l5 l6 l7 h = some x) (hK : (m_KU o hz) x) : q_Ev none 38 25 [(0, .ref l0), (1, .ref l1), (2, .int l2), (3, .int l3), (4, .int l4), (5, .int l5), (6, .ref l6), (7, .int l7)] [] h o hz :=
  m_W_ok (P := (fun (s : Nat × Nat × Int32 × Int32 × Int32 × Int32 × Nat × Int32) (h : q_H) => q_Ev none 38 25 [(0, .ref (s.1)), (1, .ref (s.2.1)), (2, .int (s.2.2.1)), (3, .int (s.2.2.2.1)), (4, .int (s.2.2.2.2.1)), (5, .int (s.2.2.2.2.2.1)), (6, .ref (s.2.2.2.2.2.2.1)), (7, .int (s.2.2.2.2.2.2.2))] [] h o hz)) (K := (m_KU o hz)) (fun s h x h1 h2 => f38_25b_ok h1 h2) _ (l0, l1, l2, l3, l4, l5, l6, l7) _ _ hf hK
def f38 (l0 : Nat) (l1 : Nat) (l2 : Int32) (l3 : Int32) (l4 : Int32) (l5 : Int32) : m_M Unit :=
  m_B (m_gR 7 l1 9) (fun r1 => m_B (m_gR 7 l1 9) (fun r2 => m_B (m_lR r2 l2) (fun r3 => m_B (m_gR 0 r3 5) (fun r4 => m_B (m_lI r4 l3) (fun v5 => m_B (m_lR r1 (v5 - 2000)) (fun r6 => f38_25 l0 l1 l2 l3 l4 l5 r6 0))))))
theorem f38_ok {l0 : Nat} {l1 : Nat} {l2 : Int32} {l3 : Int32} {l4 : Int32} {l5 : Int32} {h : q_H} {o : q_O} {hz : q_H} {x : Unit × q_H} (hf : f38 l0 l1 l2 l3 l4 l5 h = some x) (hK : (m_KU o hz) x) : q_Ev none 38 0 [(0, .ref l0), (1, .ref l1), (2, .int l2), (3, .int l3), (4, .int l4), (5, .int l5)] [] h o hz := by
  unfold f38 at hf
  refine ev_aload_n (q_cod qk38 rfl) (by decide) rfl ?_
  refine em_gR (q_cod qk38 rfl) (by decide) (by decide) hf (fun r1 hf => ?_)
  refine ev_aload_n (q_cod qk38 rfl) (by decide) rfl ?_
  refine em_gR (q_cod qk38 rfl) (by decide) (by decide) hf (fun r2 hf => ?_)
  refine ev_iload_n (q_cod qk38 rfl) (by decide) rfl ?_
  refine em_lR (q_cod qk38 rfl) (by decide) hf (fun r3 hf => ?_)
  refine em_gR (q_cod qk38 rfl) (by decide) (by decide) hf (fun r4 hf => ?_)
  refine ev_iload_n (q_cod qk38 rfl) (by decide) rfl ?_
  refine em_lI (q_cod qk38 rfl) (by decide) hf (fun v5 hf => ?_)
  refine ev_si (v := 2000) (q_cod qk38 rfl) (by decide) (by decide) ?_
  refine ev_isub (q_cod qk38 rfl) (by decide) ?_
  refine em_lR (q_cod qk38 rfl) (by decide) hf (fun r6 hf => ?_)
  refine ev_as2 (L' := [(0, .ref l0), (1, .ref l1), (2, .int l2), (3, .int l3), (4, .int l4), (5, .int l5), (6, .ref r6)]) (q_cod qk38 rfl) (by decide) rfl ?_
  refine ev_ic (v := 0) (q_cod qk38 rfl) (by decide) (by decide) ?_
  refine ev_is2 (L' := [(0, .ref l0), (1, .ref l1), (2, .int l2), (3, .int l3), (4, .int l4), (5, .int l5), (6, .ref r6), (7, .int 0)]) (q_cod qk38 rfl) (by decide) rfl ?_
  exact (f38_25_ok hf hK)
theorem f38_cl {l0 : Nat} {l1 : Nat} {l2 : Int32} {l3 : Int32} {l4 : Int32} {l5 : Int32} {h : q_H} {x : Unit × q_H} (hf : f38 l0 l1 l2 l3 l4 l5 h = some x) : q_Cl 38 [.ref l0, .ref l1, .int l2, .int l3, .int l4, .int l5] h (.inl none) x.2 := q_Cl.of rfl (q_LvS rfl rfl) (f38_ok hf ⟨rfl, rfl⟩)
/-! SmithyBench$Inliner.replaceCall(LSmithyBench$Program;LSmithyBench$Program;II)I -/
theorem qk36 : q_cs.getD 36 [] = qc_36 := rfl
def f36_31  : m_M Int32 :=
  m_R (-10)
theorem f36_31_ok  {h : q_H} {o : q_O} {hz : q_H} {x : Int32 × q_H} (hf : f36_31 h = some x) (hK : (q_KI o hz) x) : q_Ev none 36 31 [] [] h o hz := by
  unfold f36_31 at hf
  refine ev_bi (v := (-10)) (q_cod qk36 rfl) (by decide) (by decide) ?_
  obtain rfl := m_R_inv hf
  obtain ⟨rfl, rfl⟩ := (show q_KI o hz ((-10), _) from hK)
  exact ev_ret (q_cod qk36 rfl) rfl
def f36_183  : m_M Int32 :=
  m_R (-6)
theorem f36_183_ok  {h : q_H} {o : q_O} {hz : q_H} {x : Int32 × q_H} (hf : f36_183 h = some x) (hK : (q_KI o hz) x) : q_Ev none 36 183 [] [] h o hz := by
  unfold f36_183 at hf
  refine ev_bi (v := (-6)) (q_cod qk36 rfl) (by decide) (by decide) ?_
  obtain rfl := m_R_inv hf
  obtain ⟨rfl, rfl⟩ := (show q_KI o hz ((-6), _) from hK)
  exact ev_ret (q_cod qk36 rfl) rfl
def f36_329 (s0 : Int32) : m_M Int32 :=
  m_R s0
theorem f36_329_ok {s0 : Int32} {h : q_H} {o : q_O} {hz : q_H} {x : Int32 × q_H} (hf : f36_329 s0 h = some x) (hK : (q_KI o hz) x) : q_Ev none 36 329 [] [.int s0] h o hz := by
  unfold f36_329 at hf
  obtain rfl := m_R_inv hf
  obtain ⟨rfl, rfl⟩ := (show q_KI o hz (s0, _) from hK)
  exact ev_ret (q_cod qk36 rfl) rfl
def f36_248 (l0 : Nat) (l1 : Nat) (l2 : Nat) (l3 : Int32) (l4 : Int32) (l5 : Nat) (l9 : Int32) (l10 : Int32) : m_M Int32 :=
  m_B (m_aK l0 3) (fun _ => m_B (f38 l0 l1 l3 l4 l9 l10) (fun _ => m_B (m_gR 3 l0 0) (fun r3 => m_B (m_gR 0 l5 3) (fun r4 => m_B (m_lI r4 l4) (fun v5 => m_B (m_gI 0 l5 7) (fun v6 => m_B (m_aK r3 0) (fun _ => m_B (f6 r3 l5 v5 v6) (fun _ => m_B (m_gR 3 l0 1) (fun r9 => m_B (m_gR 3 l0 0) (fun r10 => m_B (m_aK r9 1) (fun _ => m_B (f23 r9 l2 l3 r10) (fun v12 => if v12 = 0 then (m_R (-8)) else (m_B (m_gR 7 l2 9) (fun r13 => m_B (m_lR r13 l3) (fun r14 => m_B (m_gR 3 l0 0) (fun r15 => m_B (m_aK r14 0) (fun _ => m_B (f7 r14 r15) (fun v17 => if v17 = 0 then (f36_329 (-6)) else (m_B (m_gR 3 l0 0) (fun r18 => m_B (m_gI 0 r18 7) (fun v19 => f36_329 v19)))))))))))))))))))))
theorem f36_248_ok {l0 : Nat} {l1 : Nat} {l2 : Nat} {l3 : Int32} {l4 : Int32} {l5 : Nat} {l9 : Int32} {l10 : Int32} {h : q_H} {o : q_O} {hz : q_H} {x : Int32 × q_H} (hf : f36_248 l0 l1 l2 l3 l4 l5 l9 l10 h = some x) (hK : (q_KI o hz) x) : q_Ev none 36 248 [(0, .ref l0), (1, .ref l1), (2, .ref l2), (3, .int l3), (4, .int l4), (5, .ref l5), (9, .int l9), (10, .int l10)] [] h o hz := by
  unfold f36_248 at hf
  refine ev_aload_n (q_cod qk36 rfl) (by decide) rfl ?_
  refine ev_aload_n (q_cod qk36 rfl) (by decide) rfl ?_
  refine ev_iload_n (q_cod qk36 rfl) (by decide) rfl ?_
  refine ev_iload (q_cod qk36 rfl) (by decide) rfl ?_
  refine ev_iload (q_cod qk36 rfl) (by decide) rfl ?_
  refine ev_iload (q_cod qk36 rfl) (by decide) rfl ?_
  obtain ⟨g1, hf⟩ := m_aK_some hf
  refine em_call (v := (fun _ => none)) (q_cod qk36 rfl) rfl rfl (q_cokV rfl rfl (Or.inr g1)) rfl (fun x e => f38_cl e) hf (fun _ h hf => ?_)
  refine ev_aload_n (q_cod qk36 rfl) (by decide) rfl ?_
  refine em_gR (q_cod qk36 rfl) (by decide) (by decide) hf (fun r3 hf => ?_)
  refine ev_aload (q_cod qk36 rfl) (by decide) rfl ?_
  refine ev_aload (q_cod qk36 rfl) (by decide) rfl ?_
  refine em_gR (q_cod qk36 rfl) (by decide) (by decide) hf (fun r4 hf => ?_)
  refine ev_iload (q_cod qk36 rfl) (by decide) rfl ?_
  refine em_lI (q_cod qk36 rfl) (by decide) hf (fun v5 hf => ?_)
  refine ev_aload (q_cod qk36 rfl) (by decide) rfl ?_
  refine em_gI (q_cod qk36 rfl) (by decide) (by decide) hf (fun v6 hf => ?_)
  obtain ⟨g7, hf⟩ := m_aK_some hf
  refine em_call (v := (fun _ => none)) (q_cod qk36 rfl) rfl rfl (q_cokV rfl rfl (Or.inr g7)) rfl (fun x e => f6_cl e) hf (fun _ h hf => ?_)
  refine ev_aload_n (q_cod qk36 rfl) (by decide) rfl ?_
  refine em_gR (q_cod qk36 rfl) (by decide) (by decide) hf (fun r9 hf => ?_)
  refine ev_aload_n (q_cod qk36 rfl) (by decide) rfl ?_
  refine ev_iload_n (q_cod qk36 rfl) (by decide) rfl ?_
  refine ev_aload_n (q_cod qk36 rfl) (by decide) rfl ?_
  refine em_gR (q_cod qk36 rfl) (by decide) (by decide) hf (fun r10 hf => ?_)
  obtain ⟨g11, hf⟩ := m_aK_some hf
  refine em_call (v := (fun u => some (.int u))) (q_cod qk36 rfl) rfl rfl (q_cokV rfl rfl (Or.inr g11)) rfl (fun x e => f23_cl e) hf (fun v12 h hf => ?_)
  refine em_if_ne (q_cod qk36 rfl) (by decide) hf (fun c21 hf => ?_) (fun c21 hf => ?_)
  · refine ev_bi (v := (-8)) (q_cod qk36 rfl) (by decide) (by decide) ?_
    obtain rfl := m_R_inv hf
    obtain ⟨rfl, rfl⟩ := (show q_KI o hz ((-8), _) from hK)
    exact ev_ret (q_cod qk36 rfl) rfl
  · refine ev_aload_n (q_cod qk36 rfl) (by decide) rfl ?_
    refine em_gR (q_cod qk36 rfl) (by decide) (by decide) hf (fun r13 hf => ?_)
    refine ev_iload_n (q_cod qk36 rfl) (by decide) rfl ?_
    refine em_lR (q_cod qk36 rfl) (by decide) hf (fun r14 hf => ?_)
    refine ev_aload_n (q_cod qk36 rfl) (by decide) rfl ?_
    refine em_gR (q_cod qk36 rfl) (by decide) (by decide) hf (fun r15 hf => ?_)
    obtain ⟨g16, hf⟩ := m_aK_some hf
    refine em_call (v := (fun u => some (.int u))) (q_cod qk36 rfl) rfl rfl (q_cokV rfl rfl (Or.inr g16)) rfl (fun x e => f7_cl e) hf (fun v17 h hf => ?_)
    refine em_if_eq (q_cod qk36 rfl) (by decide) hf (fun c20 hf => ?_) (fun c20 hf => ?_)
    · refine ev_bi (v := (-6)) (q_cod qk36 rfl) (by decide) (by decide) ?_
      exact ev_weak (q_pk [] rfl) (f36_329_ok hf hK)
    · refine ev_aload_n (q_cod qk36 rfl) (by decide) rfl ?_
      refine em_gR (q_cod qk36 rfl) (by decide) (by decide) hf (fun r18 hf => ?_)
      refine em_gI (q_cod qk36 rfl) (by decide) (by decide) hf (fun v19 hf => ?_)
      refine ev_goto (q_cod qk36 rfl) (by decide) ?_
      exact ev_weak (q_pk [] rfl) (f36_329_ok hf hK)
def f36_226 (l0 : Nat) (l1 : Nat) (l2 : Nat) (l3 : Int32) (l4 : Int32) (l5 : Nat) (l6 : Int32) (l9 : Int32) (l10 : Int32) : m_M Int32 :=
  if 1 < l6 then (m_B (m_aK l5 0) (fun _ => m_B (f9 l5 l4 2) (fun v2 => m_B (m_aK l0 3) (fun _ => m_B (f37 l0 l5 v2 l10) (fun _ => f36_248 l0 l1 l2 l3 l4 l5 l9 l10))))) else (f36_248 l0 l1 l2 l3 l4 l5 l9 l10)
theorem f36_226_ok {l0 : Nat} {l1 : Nat} {l2 : Nat} {l3 : Int32} {l4 : Int32} {l5 : Nat} {l6 : Int32} {l9 : Int32} {l10 : Int32} {h : q_H} {o : q_O} {hz : q_H} {x : Int32 × q_H} (hf : f36_226 l0 l1 l2 l3 l4 l5 l6 l9 l10 h = some x) (hK : (q_KI o hz) x) : q_Ev none 36 226 [(0, .ref l0), (1, .ref l1), (2, .ref l2), (3, .int l3), (4, .int l4), (5, .ref l5), (6, .int l6), (9, .int l9), (10, .int l10)] [] h o hz := by
  unfold f36_226 at hf
  refine ev_iload (q_cod qk36 rfl) (by decide) rfl ?_
  refine ev_ic (v := 1) (q_cod qk36 rfl) (by decide) (by decide) ?_
  refine em_ic_le (q_cod qk36 rfl) (by decide) hf (fun c5 hf => ?_) (fun c5 hf => ?_)
  · refine ev_aload_n (q_cod qk36 rfl) (by decide) rfl ?_
    refine ev_aload (q_cod qk36 rfl) (by decide) rfl ?_
    refine ev_aload (q_cod qk36 rfl) (by decide) rfl ?_
    refine ev_iload (q_cod qk36 rfl) (by decide) rfl ?_
    refine ev_ic (v := 2) (q_cod qk36 rfl) (by decide) (by decide) ?_
    obtain ⟨g1, hf⟩ := m_aK_some hf
    refine em_call (v := (fun u => some (.int u))) (q_cod qk36 rfl) rfl rfl (q_cokV rfl rfl (Or.inr g1)) rfl (fun x e => f9_cl e) hf (fun v2 h hf => ?_)
    refine ev_iload (q_cod qk36 rfl) (by decide) rfl ?_
    obtain ⟨g3, hf⟩ := m_aK_some hf
    refine em_call (v := (fun _ => none)) (q_cod qk36 rfl) rfl rfl (q_cokV rfl rfl (Or.inr g3)) rfl (fun x e => f37_cl e) hf (fun _ h hf => ?_)
    exact ev_weak (q_pk [0, 1, 2, 3, 4, 5, 7, 8] rfl) (f36_248_ok hf hK)
  · exact ev_weak (q_pk [0, 1, 2, 3, 4, 5, 7, 8] rfl) (f36_248_ok hf hK)
def f36_186 (l0 : Nat) (l1 : Nat) (l2 : Nat) (l3 : Int32) (l4 : Int32) (l5 : Nat) (l6 : Int32) (l9 : Int32) (l10 : Int32) : m_M Int32 :=
  m_B (m_gR 3 l0 0) (fun r1 => m_B (m_aK r1 0) (fun _ => m_B (f1 r1) (fun _ => m_B (m_gR 3 l0 0) (fun r4 => m_B (m_aK r4 0) (fun _ => m_B (f6 r4 l5 0 l4) (fun _ => if 0 < l6 then (m_B (m_aK l5 0) (fun _ => m_B (f9 l5 l4 1) (fun v8 => m_B (m_aK l0 3) (fun _ => m_B (f37 l0 l5 v8 l9) (fun _ => f36_226 l0 l1 l2 l3 l4 l5 l6 l9 l10))))) else (f36_226 l0 l1 l2 l3 l4 l5 l6 l9 l10)))))))
theorem f36_186_ok {l0 : Nat} {l1 : Nat} {l2 : Nat} {l3 : Int32} {l4 : Int32} {l5 : Nat} {l6 : Int32} {l9 : Int32} {l10 : Int32} {h : q_H} {o : q_O} {hz : q_H} {x : Int32 × q_H} (hf : f36_186 l0 l1 l2 l3 l4 l5 l6 l9 l10 h = some x) (hK : (q_KI o hz) x) : q_Ev none 36 186 [(0, .ref l0), (1, .ref l1), (2, .ref l2), (3, .int l3), (4, .int l4), (5, .ref l5), (6, .int l6), (9, .int l9), (10, .int l10)] [] h o hz := by
  unfold f36_186 at hf
  refine ev_aload_n (q_cod qk36 rfl) (by decide) rfl ?_
  refine em_gR (q_cod qk36 rfl) (by decide) (by decide) hf (fun r1 hf => ?_)
  obtain ⟨g2, hf⟩ := m_aK_some hf
  refine em_call (v := (fun _ => none)) (q_cod qk36 rfl) rfl rfl (q_cokV rfl rfl (Or.inr g2)) rfl (fun x e => f1_cl e) hf (fun _ h hf => ?_)
  refine ev_aload_n (q_cod qk36 rfl) (by decide) rfl ?_
  refine em_gR (q_cod qk36 rfl) (by decide) (by decide) hf (fun r4 hf => ?_)
  refine ev_aload (q_cod qk36 rfl) (by decide) rfl ?_
  refine ev_ic (v := 0) (q_cod qk36 rfl) (by decide) (by decide) ?_
  refine ev_iload (q_cod qk36 rfl) (by decide) rfl ?_
  obtain ⟨g5, hf⟩ := m_aK_some hf
  refine em_call (v := (fun _ => none)) (q_cod qk36 rfl) rfl rfl (q_cokV rfl rfl (Or.inr g5)) rfl (fun x e => f6_cl e) hf (fun _ h hf => ?_)
  refine ev_iload (q_cod qk36 rfl) (by decide) rfl ?_
  refine em_if_le (q_cod qk36 rfl) (by decide) hf (fun c11 hf => ?_) (fun c11 hf => ?_)
  · refine ev_aload_n (q_cod qk36 rfl) (by decide) rfl ?_
    refine ev_aload (q_cod qk36 rfl) (by decide) rfl ?_
    refine ev_aload (q_cod qk36 rfl) (by decide) rfl ?_
    refine ev_iload (q_cod qk36 rfl) (by decide) rfl ?_
    refine ev_ic (v := 1) (q_cod qk36 rfl) (by decide) (by decide) ?_
    obtain ⟨g7, hf⟩ := m_aK_some hf
    refine em_call (v := (fun u => some (.int u))) (q_cod qk36 rfl) rfl rfl (q_cokV rfl rfl (Or.inr g7)) rfl (fun x e => f9_cl e) hf (fun v8 h hf => ?_)
    refine ev_iload (q_cod qk36 rfl) (by decide) rfl ?_
    obtain ⟨g9, hf⟩ := m_aK_some hf
    refine em_call (v := (fun _ => none)) (q_cod qk36 rfl) rfl rfl (q_cokV rfl rfl (Or.inr g9)) rfl (fun x e => f37_cl e) hf (fun _ h hf => ?_)
    exact (f36_226_ok hf hK)
  · exact (f36_226_ok hf hK)
def f36_171 (l0 : Nat) (l1 : Nat) (l2 : Nat) (l3 : Int32) (l4 : Int32) (l5 : Nat) (l6 : Int32) (l9 : Int32) (l10 : Int32) : m_M Int32 :=
  if 1 < l6 then (if l10 = (-1) then (f36_183) else (f36_186 l0 l1 l2 l3 l4 l5 l6 l9 l10)) else (f36_186 l0 l1 l2 l3 l4 l5 l6 l9 l10)
theorem f36_171_ok {l0 : Nat} {l1 : Nat} {l2 : Nat} {l3 : Int32} {l4 : Int32} {l5 : Nat} {l6 : Int32} {l9 : Int32} {l10 : Int32} {h : q_H} {o : q_O} {hz : q_H} {x : Int32 × q_H} (hf : f36_171 l0 l1 l2 l3 l4 l5 l6 l9 l10 h = some x) (hK : (q_KI o hz) x) : q_Ev none 36 171 [(0, .ref l0), (1, .ref l1), (2, .ref l2), (3, .int l3), (4, .int l4), (5, .ref l5), (6, .int l6), (9, .int l9), (10, .int l10)] [] h o hz := by
  unfold f36_171 at hf
  refine ev_iload (q_cod qk36 rfl) (by decide) rfl ?_
  refine ev_ic (v := 1) (q_cod qk36 rfl) (by decide) (by decide) ?_
  refine em_ic_le (q_cod qk36 rfl) (by decide) hf (fun c2 hf => ?_) (fun c2 hf => ?_)
  · refine ev_iload (q_cod qk36 rfl) (by decide) rfl ?_
    refine ev_ic (v := (-1)) (q_cod qk36 rfl) (by decide) (by decide) ?_
    refine em_ic_ne (q_cod qk36 rfl) (by decide) hf (fun c1 hf => ?_) (fun c1 hf => ?_)
    · exact ev_weak (q_pk [] rfl) (f36_183_ok hf hK)
    · exact (f36_186_ok hf hK)
  · exact (f36_186_ok hf hK)
def f36_158 (l0 : Nat) (l1 : Nat) (l2 : Nat) (l3 : Int32) (l4 : Int32) (l5 : Nat) (l6 : Int32) (l9 : Int32) (s0 : Int32) : m_M Int32 :=
  if 0 < l6 then (if l9 = (-1) then (f36_183) else (f36_171 l0 l1 l2 l3 l4 l5 l6 l9 s0)) else (f36_171 l0 l1 l2 l3 l4 l5 l6 l9 s0)
theorem f36_158_ok {l0 : Nat} {l1 : Nat} {l2 : Nat} {l3 : Int32} {l4 : Int32} {l5 : Nat} {l6 : Int32} {l9 : Int32} {s0 : Int32} {h : q_H} {o : q_O} {hz : q_H} {x : Int32 × q_H} (hf : f36_158 l0 l1 l2 l3 l4 l5 l6 l9 s0 h = some x) (hK : (q_KI o hz) x) : q_Ev none 36 158 [(0, .ref l0), (1, .ref l1), (2, .ref l2), (3, .int l3), (4, .int l4), (5, .ref l5), (6, .int l6), (9, .int l9)] [.int s0] h o hz := by
  unfold f36_158 at hf
  refine ev_is2 (L' := [(0, .ref l0), (1, .ref l1), (2, .ref l2), (3, .int l3), (4, .int l4), (5, .ref l5), (6, .int l6), (9, .int l9), (10, .int s0)]) (q_cod qk36 rfl) (by decide) rfl ?_
  refine ev_iload (q_cod qk36 rfl) (by decide) rfl ?_
  refine em_if_le (q_cod qk36 rfl) (by decide) hf (fun c2 hf => ?_) (fun c2 hf => ?_)
  · refine ev_iload (q_cod qk36 rfl) (by decide) rfl ?_
    refine ev_ic (v := (-1)) (q_cod qk36 rfl) (by decide) (by decide) ?_
    refine em_ic_eq (q_cod qk36 rfl) (by decide) hf (fun c1 hf => ?_) (fun c1 hf => ?_)
    · exact ev_weak (q_pk [] rfl) (f36_183_ok hf hK)
    · exact (f36_171_ok hf hK)
  · exact (f36_171_ok hf hK)
def f36_132 (l0 : Nat) (l1 : Nat) (l2 : Nat) (l3 : Int32) (l4 : Int32) (l5 : Nat) (l6 : Int32) (l8 : Int32) (s0 : Int32) : m_M Int32 :=
  if 1 < l6 then (m_B (f175 (l8 ||| (1 <<< ((if s0 < 0 then 0 else s0) &&& 31)))) (fun v1 => f36_158 l0 l1 l2 l3 l4 l5 l6 s0 v1)) else (f36_158 l0 l1 l2 l3 l4 l5 l6 s0 (-1))
theorem f36_132_ok {l0 : Nat} {l1 : Nat} {l2 : Nat} {l3 : Int32} {l4 : Int32} {l5 : Nat} {l6 : Int32} {l8 : Int32} {s0 : Int32} {h : q_H} {o : q_O} {hz : q_H} {x : Int32 × q_H} (hf : f36_132 l0 l1 l2 l3 l4 l5 l6 l8 s0 h = some x) (hK : (q_KI o hz) x) : q_Ev none 36 132 [(0, .ref l0), (1, .ref l1), (2, .ref l2), (3, .int l3), (4, .int l4), (5, .ref l5), (6, .int l6), (8, .int l8)] [.int s0] h o hz := by
  unfold f36_132 at hf
  refine ev_is2 (L' := [(0, .ref l0), (1, .ref l1), (2, .ref l2), (3, .int l3), (4, .int l4), (5, .ref l5), (6, .int l6), (8, .int l8), (9, .int s0)]) (q_cod qk36 rfl) (by decide) rfl ?_
  refine ev_iload (q_cod qk36 rfl) (by decide) rfl ?_
  refine ev_ic (v := 1) (q_cod qk36 rfl) (by decide) (by decide) ?_
  refine em_ic_le (q_cod qk36 rfl) (by decide) hf (fun c2 hf => ?_) (fun c2 hf => ?_)
  · refine ev_iload (q_cod qk36 rfl) (by decide) rfl ?_
    refine ev_ic (v := 1) (q_cod qk36 rfl) (by decide) (by decide) ?_
    refine ev_iload (q_cod qk36 rfl) (by decide) rfl ?_
    refine ev_ic (v := 0) (q_cod qk36 rfl) (by decide) (by decide) ?_
    refine ev_max (q_cod qk36 rfl) (Nat.le_of_ble_eq_true rfl) ?_
    refine ev_ishl (q_cod qk36 rfl) (by decide) ?_
    refine ev_ior (q_cod qk36 rfl) (by decide) ?_
    refine em_call (v := (fun u => some (.int u))) (q_cod qk36 rfl) rfl rfl (q_cokS rfl rfl) rfl (fun x e => f175_cl e) hf (fun v1 h hf => ?_)
    refine ev_goto (q_cod qk36 rfl) (by decide) ?_
    exact ev_weak (q_pk [0, 1, 2, 3, 4, 5, 6, 8] rfl) (f36_158_ok hf hK)
  · refine ev_ic (v := (-1)) (q_cod qk36 rfl) (by decide) (by decide) ?_
    exact ev_weak (q_pk [0, 1, 2, 3, 4, 5, 6, 8] rfl) (f36_158_ok hf hK)
def f36 (l0 : Nat) (l1 : Nat) (l2 : Nat) (l3 : Int32) (l4 : Int32) : m_M Int32 :=
  m_B (m_gR 7 l1 9) (fun r1 => m_B (m_lR r1 l3) (fun r2 => m_B (m_gR 0 r2 0) (fun r3 => m_B (m_lI r3 l4) (fun v4 => if v4 = 7 then (m_B (m_aK r2 0) (fun _ => m_B (f18 r2 l4) (fun v6 => if v6 = 0 then (f36_31) else (m_B (m_gR 0 r2 2) (fun r7 => m_B (m_lI r7 l4) (fun v8 => m_B (m_gR 7 l1 3) (fun r9 => m_B (m_lI r9 l3) (fun v10 => m_B (m_gR 0 r2 1) (fun r11 => m_B (m_lI r11 l4) (fun v12 => m_B (m_aK l1 7) (fun _ => m_B (f92 l1 v10 v12 (v8 - 1)) (fun v14 => if v14 = 0 then (m_B (m_gR 0 r2 5) (fun r15 => m_B (m_lI r15 l4) (fun v16 => m_B (m_aK l1 7) (fun _ => m_B (f103 l1 (v16 - 2000)) (fun v18 => if ((q_ush v18 (v16 - 2000)) &&& 1) = 1 then (m_R (-4)) else (m_B (m_aK l1 7) (fun _ => m_B (f102 l1 l3) (fun v20 => m_B (m_aK l1 7) (fun _ => m_B (f102 l1 (v16 - 2000)) (fun v22 => if 0 < (v8 - 1) then (m_B (f175 (v20 ||| v22)) (fun v23 => f36_132 l0 l1 l2 l3 l4 r2 (v8 - 1) (v20 ||| v22) v23)) else (f36_132 l0 l1 l2 l3 l4 r2 (v8 - 1) (v20 ||| v22) (-1)))))))))))) else (m_R (-3)))))))))))))) else (f36_31)))))
theorem f36_ok {l0 : Nat} {l1 : Nat} {l2 : Nat} {l3 : Int32} {l4 : Int32} {h : q_H} {o : q_O} {hz : q_H} {x : Int32 × q_H} (hf : f36 l0 l1 l2 l3 l4 h = some x) (hK : (q_KI o hz) x) : q_Ev none 36 0 [(0, .ref l0), (1, .ref l1), (2, .ref l2), (3, .int l3), (4, .int l4)] [] h o hz := by
  unfold f36 at hf
  refine ev_aload_n (q_cod qk36 rfl) (by decide) rfl ?_
  refine em_gR (q_cod qk36 rfl) (by decide) (by decide) hf (fun r1 hf => ?_)
  refine ev_iload_n (q_cod qk36 rfl) (by decide) rfl ?_
  refine em_lR (q_cod qk36 rfl) (by decide) hf (fun r2 hf => ?_)
  refine ev_as2 (L' := [(0, .ref l0), (1, .ref l1), (2, .ref l2), (3, .int l3), (4, .int l4), (5, .ref r2)]) (q_cod qk36 rfl) (by decide) rfl ?_
  refine ev_aload (q_cod qk36 rfl) (by decide) rfl ?_
  refine em_gR (q_cod qk36 rfl) (by decide) (by decide) hf (fun r3 hf => ?_)
  refine ev_iload (q_cod qk36 rfl) (by decide) rfl ?_
  refine em_lI (q_cod qk36 rfl) (by decide) hf (fun v4 hf => ?_)
  refine ev_bi (v := 7) (q_cod qk36 rfl) (by decide) (by decide) ?_
  refine em_ic_ne (q_cod qk36 rfl) (by decide) hf (fun c28 hf => ?_) (fun c28 hf => ?_)
  · refine ev_aload (q_cod qk36 rfl) (by decide) rfl ?_
    refine ev_iload (q_cod qk36 rfl) (by decide) rfl ?_
    obtain ⟨g5, hf⟩ := m_aK_some hf
    refine em_call (v := (fun u => some (.int u))) (q_cod qk36 rfl) rfl rfl (q_cokV rfl rfl (Or.inr g5)) rfl (fun x e => f18_cl e) hf (fun v6 h hf => ?_)
    refine em_if_ne (q_cod qk36 rfl) (by decide) hf (fun c27 hf => ?_) (fun c27 hf => ?_)
    · exact ev_weak (q_pk [] rfl) (f36_31_ok hf hK)
    · refine ev_aload (q_cod qk36 rfl) (by decide) rfl ?_
      refine em_gR (q_cod qk36 rfl) (by decide) (by decide) hf (fun r7 hf => ?_)
      refine ev_iload (q_cod qk36 rfl) (by decide) rfl ?_
      refine em_lI (q_cod qk36 rfl) (by decide) hf (fun v8 hf => ?_)
      refine ev_ic (v := 1) (q_cod qk36 rfl) (by decide) (by decide) ?_
      refine ev_isub (q_cod qk36 rfl) (by decide) ?_
      refine ev_is2 (L' := [(0, .ref l0), (1, .ref l1), (2, .ref l2), (3, .int l3), (4, .int l4), (5, .ref r2), (6, .int (v8 - 1))]) (q_cod qk36 rfl) (by decide) rfl ?_
      refine ev_aload_n (q_cod qk36 rfl) (by decide) rfl ?_
      refine ev_aload_n (q_cod qk36 rfl) (by decide) rfl ?_
      refine em_gR (q_cod qk36 rfl) (by decide) (by decide) hf (fun r9 hf => ?_)
      refine ev_iload_n (q_cod qk36 rfl) (by decide) rfl ?_
      refine em_lI (q_cod qk36 rfl) (by decide) hf (fun v10 hf => ?_)
      refine ev_aload (q_cod qk36 rfl) (by decide) rfl ?_
      refine em_gR (q_cod qk36 rfl) (by decide) (by decide) hf (fun r11 hf => ?_)
      refine ev_iload (q_cod qk36 rfl) (by decide) rfl ?_
      refine em_lI (q_cod qk36 rfl) (by decide) hf (fun v12 hf => ?_)
      refine ev_iload (q_cod qk36 rfl) (by decide) rfl ?_
      obtain ⟨g13, hf⟩ := m_aK_some hf
      refine em_call (v := (fun u => some (.int u))) (q_cod qk36 rfl) rfl rfl (q_cokV rfl rfl (Or.inr g13)) rfl (fun x e => f92_cl e) hf (fun v14 h hf => ?_)
      refine em_if_eq (q_cod qk36 rfl) (by decide) hf (fun c26 hf => ?_) (fun c26 hf => ?_)
      · refine ev_aload (q_cod qk36 rfl) (by decide) rfl ?_
        refine em_gR (q_cod qk36 rfl) (by decide) (by decide) hf (fun r15 hf => ?_)
        refine ev_iload (q_cod qk36 rfl) (by decide) rfl ?_
        refine em_lI (q_cod qk36 rfl) (by decide) hf (fun v16 hf => ?_)
        refine ev_si (v := 2000) (q_cod qk36 rfl) (by decide) (by decide) ?_
        refine ev_isub (q_cod qk36 rfl) (by decide) ?_
        refine ev_is2 (L' := [(0, .ref l0), (1, .ref l1), (2, .ref l2), (3, .int l3), (4, .int l4), (5, .ref r2), (6, .int (v8 - 1)), (7, .int (v16 - 2000))]) (q_cod qk36 rfl) (by decide) rfl ?_
        refine ev_aload_n (q_cod qk36 rfl) (by decide) rfl ?_
        refine ev_iload (q_cod qk36 rfl) (by decide) rfl ?_
        obtain ⟨g17, hf⟩ := m_aK_some hf
        refine em_call (v := (fun u => some (.int u))) (q_cod qk36 rfl) rfl rfl (q_cokV rfl rfl (Or.inr g17)) rfl (fun x e => f103_cl e) hf (fun v18 h hf => ?_)
        refine ev_iload (q_cod qk36 rfl) (by decide) rfl ?_
        refine ev_iushr (q_cod qk36 rfl) (by decide) ?_
        refine ev_ic (v := 1) (q_cod qk36 rfl) (by decide) (by decide) ?_
        refine ev_iand (q_cod qk36 rfl) (by decide) ?_
        refine ev_ic (v := 1) (q_cod qk36 rfl) (by decide) (by decide) ?_
        refine em_ic_ne (q_cod qk36 rfl) (by decide) hf (fun c25 hf => ?_) (fun c25 hf => ?_)
        · refine ev_bi (v := (-4)) (q_cod qk36 rfl) (by decide) (by decide) ?_
          obtain rfl := m_R_inv hf
          obtain ⟨rfl, rfl⟩ := (show q_KI o hz ((-4), _) from hK)
          exact ev_ret (q_cod qk36 rfl) rfl
        · refine ev_aload_n (q_cod qk36 rfl) (by decide) rfl ?_
          refine ev_iload_n (q_cod qk36 rfl) (by decide) rfl ?_
          obtain ⟨g19, hf⟩ := m_aK_some hf
          refine em_call (v := (fun u => some (.int u))) (q_cod qk36 rfl) rfl rfl (q_cokV rfl rfl (Or.inr g19)) rfl (fun x e => f102_cl e) hf (fun v20 h hf => ?_)
          refine ev_aload_n (q_cod qk36 rfl) (by decide) rfl ?_
          refine ev_iload (q_cod qk36 rfl) (by decide) rfl ?_
          obtain ⟨g21, hf⟩ := m_aK_some hf
          refine em_call (v := (fun u => some (.int u))) (q_cod qk36 rfl) rfl rfl (q_cokV rfl rfl (Or.inr g21)) rfl (fun x e => f102_cl e) hf (fun v22 h hf => ?_)
          refine ev_ior (q_cod qk36 rfl) (by decide) ?_
          refine ev_is2 (L' := [(0, .ref l0), (1, .ref l1), (2, .ref l2), (3, .int l3), (4, .int l4), (5, .ref r2), (6, .int (v8 - 1)), (7, .int (v16 - 2000)), (8, .int (v20 ||| v22))]) (q_cod qk36 rfl) (by decide) rfl ?_
          refine ev_iload (q_cod qk36 rfl) (by decide) rfl ?_
          refine em_if_le (q_cod qk36 rfl) (by decide) hf (fun c24 hf => ?_) (fun c24 hf => ?_)
          · refine ev_iload (q_cod qk36 rfl) (by decide) rfl ?_
            refine em_call (v := (fun u => some (.int u))) (q_cod qk36 rfl) rfl rfl (q_cokS rfl rfl) rfl (fun x e => f175_cl e) hf (fun v23 h hf => ?_)
            refine ev_goto (q_cod qk36 rfl) (by decide) ?_
            exact ev_weak (q_pk [0, 1, 2, 3, 4, 5, 6, 8] rfl) (f36_132_ok hf hK)
          · refine ev_ic (v := (-1)) (q_cod qk36 rfl) (by decide) (by decide) ?_
            exact ev_weak (q_pk [0, 1, 2, 3, 4, 5, 6, 8] rfl) (f36_132_ok hf hK)
      · refine ev_bi (v := (-3)) (q_cod qk36 rfl) (by decide) (by decide) ?_
        obtain rfl := m_R_inv hf
        obtain ⟨rfl, rfl⟩ := (show q_KI o hz ((-3), _) from hK)
        exact ev_ret (q_cod qk36 rfl) rfl
  · exact ev_weak (q_pk [] rfl) (f36_31_ok hf hK)
theorem f36_cl {l0 : Nat} {l1 : Nat} {l2 : Nat} {l3 : Int32} {l4 : Int32} {h : q_H} {x : Int32 × q_H} (hf : f36 l0 l1 l2 l3 l4 h = some x) : q_Cl 36 [.ref l0, .ref l1, .ref l2, .int l3, .int l4] h (.inl (some (.int x.1))) x.2 := q_Cl.of rfl (q_LvS rfl rfl) (f36_ok hf ⟨rfl, rfl⟩)
/-! SmithyBench$Machine.<init>()V -/
theorem qk43 : q_cs.getD 43 [] = qc_43 := rfl
def f43 (l0 : Nat) : m_M Unit :=
  m_B (m_nA 20 501) (fun r1 => m_B (m_pR 5 l0 0 r1) (fun _ => m_B (m_nA 20 501) (fun r2 => m_B (m_pR 5 l0 1 r2) (fun _ => m_B (m_nA 20 501) (fun r3 => m_B (m_pR 5 l0 2 r3) (fun _ => m_B (m_nA 20 501) (fun r4 => m_B (m_pR 5 l0 3 r4) (fun _ => m_B (m_nA 20 501) (fun r5 => m_B (m_pR 5 l0 4 r5) (fun _ => m_B (m_nA 20 20) (fun r6 => m_B (m_pR 5 l0 5 r6) (fun _ => m_B (m_nA 20 20) (fun r7 => m_B (m_pR 5 l0 6 r7) (fun _ => m_B (m_nA 20 1240) (fun r8 => m_B (m_pR 5 l0 7 r8) (fun _ => m_B (m_nA 20 501) (fun r9 => m_B (m_pR 5 l0 8 r9) (fun _ => m_B (m_nA 20 8016) (fun r10 => m_B (m_pR 5 l0 9 r10) (fun _ => m_R ()))))))))))))))))))))
theorem f43_ok {l0 : Nat} {h : q_H} {o : q_O} {hz : q_H} {x : Unit × q_H} (hf : f43 l0 h = some x) (hK : (m_KU o hz) x) : q_Ev none 43 0 [(0, .ref l0)] [] h o hz := by
  unfold f43 at hf
  refine ev_aload_n (q_cod qk43 rfl) (by decide) rfl ?_
  refine ev_objinit (q_cod qk43 rfl) (Nat.le_of_ble_eq_true rfl) ?_
  refine ev_aload_n (q_cod qk43 rfl) (by decide) rfl ?_
  refine ev_si (v := 501) (q_cod qk43 rfl) (by decide) (by decide) ?_
  refine em_nI (q_cod qk43 rfl) (by decide) hf (fun r1 h hf => ?_)
  refine em_pR (q_cod qk43 rfl) (by decide) (by decide) (by decide) hf (fun hf => ?_)
  refine ev_aload_n (q_cod qk43 rfl) (by decide) rfl ?_
  refine ev_si (v := 501) (q_cod qk43 rfl) (by decide) (by decide) ?_
  refine em_nI (q_cod qk43 rfl) (by decide) hf (fun r2 h hf => ?_)
  refine em_pR (q_cod qk43 rfl) (by decide) (by decide) (by decide) hf (fun hf => ?_)
  refine ev_aload_n (q_cod qk43 rfl) (by decide) rfl ?_
  refine ev_si (v := 501) (q_cod qk43 rfl) (by decide) (by decide) ?_
  refine em_nI (q_cod qk43 rfl) (by decide) hf (fun r3 h hf => ?_)
  refine em_pR (q_cod qk43 rfl) (by decide) (by decide) (by decide) hf (fun hf => ?_)
  refine ev_aload_n (q_cod qk43 rfl) (by decide) rfl ?_
  refine ev_si (v := 501) (q_cod qk43 rfl) (by decide) (by decide) ?_
  refine em_nI (q_cod qk43 rfl) (by decide) hf (fun r4 h hf => ?_)
  refine em_pR (q_cod qk43 rfl) (by decide) (by decide) (by decide) hf (fun hf => ?_)
  refine ev_aload_n (q_cod qk43 rfl) (by decide) rfl ?_
  refine ev_si (v := 501) (q_cod qk43 rfl) (by decide) (by decide) ?_
  refine em_nI (q_cod qk43 rfl) (by decide) hf (fun r5 h hf => ?_)
  refine em_pR (q_cod qk43 rfl) (by decide) (by decide) (by decide) hf (fun hf => ?_)
  refine ev_aload_n (q_cod qk43 rfl) (by decide) rfl ?_
  refine ev_bi (v := 20) (q_cod qk43 rfl) (by decide) (by decide) ?_
  refine em_nI (q_cod qk43 rfl) (by decide) hf (fun r6 h hf => ?_)
  refine em_pR (q_cod qk43 rfl) (by decide) (by decide) (by decide) hf (fun hf => ?_)
  refine ev_aload_n (q_cod qk43 rfl) (by decide) rfl ?_
  refine ev_bi (v := 20) (q_cod qk43 rfl) (by decide) (by decide) ?_
  refine em_nI (q_cod qk43 rfl) (by decide) hf (fun r7 h hf => ?_)
  refine em_pR (q_cod qk43 rfl) (by decide) (by decide) (by decide) hf (fun hf => ?_)
  refine ev_aload_n (q_cod qk43 rfl) (by decide) rfl ?_
  refine ev_si (v := 1240) (q_cod qk43 rfl) (by decide) (by decide) ?_
  refine em_nI (q_cod qk43 rfl) (by decide) hf (fun r8 h hf => ?_)
  refine em_pR (q_cod qk43 rfl) (by decide) (by decide) (by decide) hf (fun hf => ?_)
  refine ev_aload_n (q_cod qk43 rfl) (by decide) rfl ?_
  refine ev_si (v := 501) (q_cod qk43 rfl) (by decide) (by decide) ?_
  refine em_nI (q_cod qk43 rfl) (by decide) hf (fun r9 h hf => ?_)
  refine em_pR (q_cod qk43 rfl) (by decide) (by decide) (by decide) hf (fun hf => ?_)
  refine ev_aload_n (q_cod qk43 rfl) (by decide) rfl ?_
  refine ev_si (v := 8016) (q_cod qk43 rfl) (by decide) (by decide) ?_
  refine em_nI (q_cod qk43 rfl) (by decide) hf (fun r10 h hf => ?_)
  refine em_pR (q_cod qk43 rfl) (by decide) (by decide) (by decide) hf (fun hf => ?_)
  obtain rfl := m_R_inv hf
  obtain ⟨rfl, rfl⟩ := (show m_KU o hz ((), _) from hK)
  exact ev_ret (q_cod qk43 rfl) rfl
theorem f43_cl {l0 : Nat} {h : q_H} {x : Unit × q_H} (hf : f43 l0 h = some x) : q_Cl 43 [.ref l0] h (.inl none) x.2 := q_Cl.of rfl (q_LvS rfl rfl) (f43_ok hf ⟨rfl, rfl⟩)
/-! SmithyBench$Machine.create(I)I -/
theorem qk46 : q_cs.getD 46 [] = qc_46 := rfl
def f46_78 (l0 : Nat) (l1 : Int32) (l2 : Int32) (l3 : Int32) (s0 : Nat) (s1 : Int32) (s2 : Int32) : m_M ((Nat × Int32 × Int32 × Int32) ⊕ Int32) :=
  m_B (m_wI s0 s1 s2) (fun _ => m_R (.inl (l0, l1, l2, (l3 + 1))))
theorem f46_78_ok {l0 : Nat} {l1 : Int32} {l2 : Int32} {l3 : Int32} {s0 : Nat} {s1 : Int32} {s2 : Int32} {h : q_H} {o : q_O} {hz : q_H} {x : ((Nat × Int32 × Int32 × Int32) ⊕ Int32) × q_H} (hf : f46_78 l0 l1 l2 l3 s0 s1 s2 h = some x) (hK : (m_yK (fun (s : Nat × Int32 × Int32 × Int32) (h : q_H) => q_Ev none 46 14 [(0, .ref (s.1)), (1, .int (s.2.1)), (2, .int (s.2.2.1)), (3, .int (s.2.2.2))] [] h o hz) (q_KI o hz)) x) : q_Ev none 46 78 [(0, .ref l0), (1, .int l1), (2, .int l2), (3, .int l3)] [.int s2, .int s1, .ref s0] h o hz := by
  unfold f46_78 at hf
  refine em_wI (q_cod qk46 rfl) (by decide) hf (fun hf => ?_)
  refine ev_inc (v := l3 + 1) (L' := [(0, .ref l0), (1, .int l1), (2, .int l2), (3, .int (l3 + 1))]) (q_cod qk46 rfl) (by decide) rfl rfl rfl ?_
  refine ev_goto (q_cod qk46 rfl) (by decide) ?_
  obtain rfl := m_R_inv hf
  exact (show q_Ev none 46 14 [(0, .ref l0), (1, .int l1), (2, .int l2), (3, .int (l3 + 1))] [] _ o hz from hK)
def f46_56 (l0 : Nat) (l1 : Int32) (l2 : Int32) (l3 : Int32) (s0 : Int32) : m_M ((Nat × Int32 × Int32 × Int32) ⊕ Int32) :=
  m_B (m_gR 5 l0 9) (fun r1 => if s0 = 0 then (f46_78 l0 l1 l2 l3 r1 ((l2 * 16) + l3) 0) else (f46_78 l0 l1 l2 l3 r1 ((l2 * 16) + l3) (-1)))
theorem f46_56_ok {l0 : Nat} {l1 : Int32} {l2 : Int32} {l3 : Int32} {s0 : Int32} {h : q_H} {o : q_O} {hz : q_H} {x : ((Nat × Int32 × Int32 × Int32) ⊕ Int32) × q_H} (hf : f46_56 l0 l1 l2 l3 s0 h = some x) (hK : (m_yK (fun (s : Nat × Int32 × Int32 × Int32) (h : q_H) => q_Ev none 46 14 [(0, .ref (s.1)), (1, .int (s.2.1)), (2, .int (s.2.2.1)), (3, .int (s.2.2.2))] [] h o hz) (q_KI o hz)) x) : q_Ev none 46 56 [(0, .ref l0), (1, .int l1), (2, .int l2), (3, .int l3)] [.int s0] h o hz := by
  unfold f46_56 at hf
  refine ev_is2 (L' := [(0, .ref l0), (1, .int l1), (2, .int l2), (3, .int l3), (5, .int s0)]) (q_cod qk46 rfl) (by decide) rfl ?_
  refine ev_aload_n (q_cod qk46 rfl) (by decide) rfl ?_
  refine em_gR (q_cod qk46 rfl) (by decide) (by decide) hf (fun r1 hf => ?_)
  refine ev_iload_n (q_cod qk46 rfl) (by decide) rfl ?_
  refine ev_bi (v := 16) (q_cod qk46 rfl) (by decide) (by decide) ?_
  refine ev_imul (q_cod qk46 rfl) (by decide) ?_
  refine ev_iload_n (q_cod qk46 rfl) (by decide) rfl ?_
  refine ev_iadd (q_cod qk46 rfl) (by decide) ?_
  refine ev_iload (q_cod qk46 rfl) (by decide) rfl ?_
  refine em_if_eq (q_cod qk46 rfl) (by decide) hf (fun c2 hf => ?_) (fun c2 hf => ?_)
  · refine ev_ic (v := 0) (q_cod qk46 rfl) (by decide) (by decide) ?_
    exact ev_weak (q_pk [0, 1, 2, 3] rfl) (f46_78_ok hf hK)
  · refine ev_ic (v := (-1)) (q_cod qk46 rfl) (by decide) (by decide) ?_
    refine ev_goto (q_cod qk46 rfl) (by decide) ?_
    exact ev_weak (q_pk [0, 1, 2, 3] rfl) (f46_78_ok hf hK)
def f46_55 (l0 : Nat) (l1 : Int32) (l2 : Int32) (l3 : Int32) : m_M ((Nat × Int32 × Int32 × Int32) ⊕ Int32) :=
  f46_56 l0 l1 l2 l3 0
theorem f46_55_ok {l0 : Nat} {l1 : Int32} {l2 : Int32} {l3 : Int32} {h : q_H} {o : q_O} {hz : q_H} {x : ((Nat × Int32 × Int32 × Int32) ⊕ Int32) × q_H} (hf : f46_55 l0 l1 l2 l3 h = some x) (hK : (m_yK (fun (s : Nat × Int32 × Int32 × Int32) (h : q_H) => q_Ev none 46 14 [(0, .ref (s.1)), (1, .int (s.2.1)), (2, .int (s.2.2.1)), (3, .int (s.2.2.2))] [] h o hz) (q_KI o hz)) x) : q_Ev none 46 55 [(0, .ref l0), (1, .int l1), (2, .int l2), (3, .int l3)] [] h o hz := by
  unfold f46_55 at hf
  refine ev_ic (v := 0) (q_cod qk46 rfl) (by decide) (by decide) ?_
  exact (f46_56_ok hf hK)
def f46_85 (l0 : Nat) (l2 : Int32) : m_M Int32 :=
  m_B (m_gI 5 l0 14) (fun v1 => m_B (m_pI 5 l0 14 (v1 + 1)) (fun _ => m_R l2))
theorem f46_85_ok {l0 : Nat} {l2 : Int32} {h : q_H} {o : q_O} {hz : q_H} {x : Int32 × q_H} (hf : f46_85 l0 l2 h = some x) (hK : (q_KI o hz) x) : q_Ev none 46 85 [(0, .ref l0), (2, .int l2)] [] h o hz := by
  unfold f46_85 at hf
  refine ev_aload_n (q_cod qk46 rfl) (by decide) rfl ?_
  refine ev_dup (q_cod qk46 rfl) (by decide) rfl ?_
  refine em_gI (q_cod qk46 rfl) (by decide) (by decide) hf (fun v1 hf => ?_)
  refine ev_ic (v := 1) (q_cod qk46 rfl) (by decide) (by decide) ?_
  refine ev_iadd (q_cod qk46 rfl) (by decide) ?_
  refine em_pI (q_cod qk46 rfl) (by decide) (by decide) (by decide) hf (fun hf => ?_)
  refine ev_iload_n (q_cod qk46 rfl) (by decide) rfl ?_
  obtain rfl := m_R_inv hf
  obtain ⟨rfl, rfl⟩ := (show q_KI o hz (l2, _) from hK)
  exact ev_ret (q_cod qk46 rfl) rfl
def f46_14b (l0 : Nat) (l1 : Int32) (l2 : Int32) (l3 : Int32) : m_M ((Nat × Int32 × Int32 × Int32) ⊕ Int32) :=
  if l3 < 16 then (m_B (m_gR 5 l0 10) (fun r1 => m_B (m_aK r1 7) (fun _ => m_B (f86 r1 l1 l3) (fun v3 => if v3 = (-1) then (f46_55 l0 l1 l2 l3) else (m_B (m_gR 5 l0 10) (fun r4 => m_B (m_aK r4 7) (fun _ => m_B (f85 r4 v3 l3) (fun v6 => if v6 = (-1) then (f46_55 l0 l1 l2 l3) else (f46_56 l0 l1 l2 l3 1))))))))) else (m_B (f46_85 l0 l2) (fun r => m_R (.inr r)))
theorem f46_14b_ok {l0 : Nat} {l1 : Int32} {l2 : Int32} {l3 : Int32} {h : q_H} {o : q_O} {hz : q_H} {x : ((Nat × Int32 × Int32 × Int32) ⊕ Int32) × q_H} (hf : f46_14b l0 l1 l2 l3 h = some x) (hK : (m_yK (fun (s : Nat × Int32 × Int32 × Int32) (h : q_H) => q_Ev none 46 14 [(0, .ref (s.1)), (1, .int (s.2.1)), (2, .int (s.2.2.1)), (3, .int (s.2.2.2))] [] h o hz) (q_KI o hz)) x) : q_Ev none 46 14 [(0, .ref l0), (1, .int l1), (2, .int l2), (3, .int l3)] [] h o hz := by
  unfold f46_14b at hf
  refine ev_iload_n (q_cod qk46 rfl) (by decide) rfl ?_
  refine ev_bi (v := 16) (q_cod qk46 rfl) (by decide) (by decide) ?_
  refine em_ic_ge (q_cod qk46 rfl) (by decide) hf (fun c9 hf => ?_) (fun c9 hf => ?_)
  · refine ev_aload_n (q_cod qk46 rfl) (by decide) rfl ?_
    refine em_gR (q_cod qk46 rfl) (by decide) (by decide) hf (fun r1 hf => ?_)
    refine ev_iload_n (q_cod qk46 rfl) (by decide) rfl ?_
    refine ev_iload_n (q_cod qk46 rfl) (by decide) rfl ?_
    obtain ⟨g2, hf⟩ := m_aK_some hf
    refine em_call (v := (fun u => some (.int u))) (q_cod qk46 rfl) rfl rfl (q_cokV rfl rfl (Or.inr g2)) rfl (fun x e => f86_cl e) hf (fun v3 h hf => ?_)
    refine ev_is2 (L' := [(0, .ref l0), (1, .int l1), (2, .int l2), (3, .int l3), (4, .int v3)]) (q_cod qk46 rfl) (by decide) rfl ?_
    refine ev_iload (q_cod qk46 rfl) (by decide) rfl ?_
    refine ev_ic (v := (-1)) (q_cod qk46 rfl) (by decide) (by decide) ?_
    refine em_ic_eq (q_cod qk46 rfl) (by decide) hf (fun c8 hf => ?_) (fun c8 hf => ?_)
    · exact ev_weak (q_pk [0, 1, 2, 3] rfl) (f46_55_ok hf hK)
    · refine ev_aload_n (q_cod qk46 rfl) (by decide) rfl ?_
      refine em_gR (q_cod qk46 rfl) (by decide) (by decide) hf (fun r4 hf => ?_)
      refine ev_iload (q_cod qk46 rfl) (by decide) rfl ?_
      refine ev_iload_n (q_cod qk46 rfl) (by decide) rfl ?_
      obtain ⟨g5, hf⟩ := m_aK_some hf
      refine em_call (v := (fun u => some (.int u))) (q_cod qk46 rfl) rfl rfl (q_cokV rfl rfl (Or.inr g5)) rfl (fun x e => f85_cl e) hf (fun v6 h hf => ?_)
      refine ev_ic (v := (-1)) (q_cod qk46 rfl) (by decide) (by decide) ?_
      refine em_ic_eq (q_cod qk46 rfl) (by decide) hf (fun c7 hf => ?_) (fun c7 hf => ?_)
      · exact ev_weak (q_pk [0, 1, 2, 3] rfl) (f46_55_ok hf hK)
      · refine ev_ic (v := 1) (q_cod qk46 rfl) (by decide) (by decide) ?_
        refine ev_goto (q_cod qk46 rfl) (by decide) ?_
        exact ev_weak (q_pk [0, 1, 2, 3] rfl) (f46_56_ok hf hK)
  · obtain ⟨y0, hf0, hx⟩ := m_inr_some hf
    subst hx
    exact ev_weak (q_pk [0, 2] rfl) (f46_85_ok hf0 hK)
def f46_14 (l0 : Nat) (l1 : Int32) (l2 : Int32) (l3 : Int32) : m_M Int32 := m_W (fun s => f46_14b (s.1) (s.2.1) (s.2.2.1) (s.2.2.2)) 1000000 (l0, l1, l2, l3)
theorem f46_14_ok {l0 : Nat} {l1 : Int32} {l2 : Int32} {l3 : Int32} {h : q_H} {o : q_O} {hz : q_H} {x : Int32 × q_H} (hf : f46_14 l0 l1 l2 l3 h = some x) (hK : (q_KI o hz) x) : q_Ev none 46 14 [(0, .ref l0), (1, .int l1), (2, .int l2), (3, .int l3)] [] h o hz :=
  m_W_ok (P := (fun (s : Nat × Int32 × Int32 × Int32) (h : q_H) => q_Ev none 46 14 [(0, .ref (s.1)), (1, .int (s.2.1)), (2, .int (s.2.2.1)), (3, .int (s.2.2.2))] [] h o hz)) (K := (q_KI o hz)) (fun s h x h1 h2 => f46_14b_ok h1 h2) _ (l0, l1, l2, l3) _ _ hf hK
def f46 (l0 : Nat) (l1 : Int32) : m_M Int32 :=
  m_B (m_gI 5 l0 14) (fun v1 => m_B (m_gR 5 l0 8) (fun r2 => m_B (m_wI r2 v1 l1) (fun _ => f46_14 l0 l1 v1 0)))
theorem f46_ok {l0 : Nat} {l1 : Int32} {h : q_H} {o : q_O} {hz : q_H} {x : Int32 × q_H} (hf : f46 l0 l1 h = some x) (hK : (q_KI o hz) x) : q_Ev none 46 0 [(0, .ref l0), (1, .int l1)] [] h o hz := by
  unfold f46 at hf
  refine ev_aload_n (q_cod qk46 rfl) (by decide) rfl ?_
  refine em_gI (q_cod qk46 rfl) (by decide) (by decide) hf (fun v1 hf => ?_)
  refine ev_is1 (L' := [(0, .ref l0), (1, .int l1), (2, .int v1)]) (q_cod qk46 rfl) (by decide) rfl ?_
  refine ev_aload_n (q_cod qk46 rfl) (by decide) rfl ?_
  refine em_gR (q_cod qk46 rfl) (by decide) (by decide) hf (fun r2 hf => ?_)
  refine ev_iload_n (q_cod qk46 rfl) (by decide) rfl ?_
  refine ev_iload_n (q_cod qk46 rfl) (by decide) rfl ?_
  refine em_wI (q_cod qk46 rfl) (by decide) hf (fun hf => ?_)
  refine ev_ic (v := 0) (q_cod qk46 rfl) (by decide) (by decide) ?_
  refine ev_is1 (L' := [(0, .ref l0), (1, .int l1), (2, .int v1), (3, .int 0)]) (q_cod qk46 rfl) (by decide) rfl ?_
  exact (f46_14_ok hf hK)
theorem f46_cl {l0 : Nat} {l1 : Int32} {h : q_H} {x : Int32 × q_H} (hf : f46 l0 l1 h = some x) : q_Cl 46 [.ref l0, .int l1] h (.inl (some (.int x.1))) x.2 := q_Cl.of rfl (q_LvS rfl rfl) (f46_ok hf ⟨rfl, rfl⟩)
