-- deps: 92.00.law
def f340_569 (Ln : Nat) (xs : Nat → Int32) (l1 : Nat) (l2 : Nat) (l3 : Nat) (l4 : Int32) : m_M ((Nat × Nat × Nat × Int32) ⊕ Int32) :=
  f340_2357 Ln xs l1 l2 l3 l4
set_option maxRecDepth 20000 in
theorem f340_569_ok {Ln : Nat} {xs : Nat → Int32} {l1 : Nat} {l2 : Nat} {l3 : Nat} {l4 : Int32} {h : q_H} {o : q_O} {hz : q_H} {x : ((Nat × Nat × Nat × Int32) ⊕ Int32) × q_H} (hf : f340_569 Ln xs l1 l2 l3 l4 h = some x) (hK : (m_yK (fun (s : Nat × Nat × Nat × Int32) (h : q_H) => q_Ev (some (Ln, xs)) 340 23 [(0, .ref q_SC), (1, .ref (s.1)), (2, .ref (s.2.1)), (3, .ref (s.2.2.1)), (4, .int (s.2.2.2))] [] h o hz) (q_KI o hz)) x) : q_Ev (some (Ln, xs)) 340 569 [(0, .ref q_SC), (1, .ref l1), (2, .ref l2), (3, .ref l3), (4, .int l4)] [] h o hz := by
  unfold f340_569 at hf
  refine ev_goto (q_cod qk340 rfl) (by decide) ?_
  exact (f340_2357_ok hf hK)
def f340_567 (Ln : Nat) (xs : Nat → Int32) : m_M Int32 :=
  m_R 0
set_option maxRecDepth 20000 in
theorem f340_567_ok {Ln : Nat} {xs : Nat → Int32} {h : q_H} {o : q_O} {hz : q_H} {x : Int32 × q_H} (hf : f340_567 Ln xs h = some x) (hK : (q_KI o hz) x) : q_Ev (some (Ln, xs)) 340 567 [] [] h o hz := by
  unfold f340_567 at hf
  refine ev_ic (v := 0) (q_cod qk340 rfl) (by decide) (by decide) ?_
  obtain rfl := m_R_inv hf
  obtain ⟨rfl, rfl⟩ := (show q_KI o hz (0, _) from hK)
  exact ev_ret (q_cod qk340 rfl) rfl
def f340_550 (Ln : Nat) (xs : Nat → Int32) : m_M Int32 :=
  m_R 0
set_option maxRecDepth 20000 in
theorem f340_550_ok {Ln : Nat} {xs : Nat → Int32} {h : q_H} {o : q_O} {hz : q_H} {x : Int32 × q_H} (hf : f340_550 Ln xs h = some x) (hK : (q_KI o hz) x) : q_Ev (some (Ln, xs)) 340 550 [] [] h o hz := by
  unfold f340_550 at hf
  refine ev_ic (v := 0) (q_cod qk340 rfl) (by decide) (by decide) ?_
  obtain rfl := m_R_inv hf
  obtain ⟨rfl, rfl⟩ := (show q_KI o hz (0, _) from hK)
  exact ev_ret (q_cod qk340 rfl) rfl
def f340_492 (Ln : Nat) (xs : Nat → Int32) (l1 : Nat) (l2 : Nat) (l3 : Nat) (l4 : Int32) : m_M ((Nat × Nat × Nat × Int32) ⊕ Int32) :=
  m_B (m_G (q_ins (l4 + 1) Ln = true)) (fun _ => m_B (m_G (q_ins (l4 + 2) Ln = true)) (fun _ => m_B (m_G (q_ins (l4 + 3) Ln = true)) (fun _ => m_B (f315 l1 (xs (l4 + 1).toNatClampNeg) (xs (l4 + 2).toNatClampNeg) (xs (l4 + 3).toNatClampNeg) l3) (fun v4 => m_B (m_G (q_ins (l4 + 1) Ln = true)) (fun _ => m_B (m_G (q_ins (l4 + 2) Ln = true)) (fun _ => m_B (m_G (q_ins (l4 + 3) Ln = true)) (fun _ => m_B (m_aK l2 12) (fun _ => m_B (f190 l2 (xs (l4 + 1).toNatClampNeg) (xs (l4 + 2).toNatClampNeg) (xs (l4 + 3).toNatClampNeg)) (fun v9 => m_B (m_aK l2 12) (fun _ => m_B (f177 l2) (fun v11 => if v11 = v4 then (if v4 = 0 then (m_B (m_lJ l3 0) (fun v12 => if (lg_cmp v12 (v9.toInt64)) = 0 then (f340_569 Ln xs l1 l2 l3 l4) else (m_B (f340_567 Ln xs) (fun r => m_R (.inr r))))) else (f340_569 Ln xs l1 l2 l3 l4)) else (m_B (f340_550 Ln xs) (fun r => m_R (.inr r))))))))))))))
set_option maxRecDepth 20000 in
theorem f340_492_ok {Ln : Nat} {xs : Nat → Int32} {l1 : Nat} {l2 : Nat} {l3 : Nat} {l4 : Int32} {h : q_H} {o : q_O} {hz : q_H} {x : ((Nat × Nat × Nat × Int32) ⊕ Int32) × q_H} (hf : f340_492 Ln xs l1 l2 l3 l4 h = some x) (hK : (m_yK (fun (s : Nat × Nat × Nat × Int32) (h : q_H) => q_Ev (some (Ln, xs)) 340 23 [(0, .ref q_SC), (1, .ref (s.1)), (2, .ref (s.2.1)), (3, .ref (s.2.2.1)), (4, .int (s.2.2.2))] [] h o hz) (q_KI o hz)) x) : q_Ev (some (Ln, xs)) 340 492 [(0, .ref q_SC), (1, .ref l1), (2, .ref l2), (3, .ref l3), (4, .int l4)] [] h o hz := by
  unfold f340_492 at hf
  refine ev_aload_n (q_cod qk340 rfl) (by decide) rfl ?_
  refine ev_aload_n (q_cod qk340 rfl) (by decide) rfl ?_
  refine ev_iload (q_cod qk340 rfl) (by decide) rfl ?_
  refine ev_ic (v := 1) (q_cod qk340 rfl) (by decide) (by decide) ?_
  refine ev_iadd (q_cod qk340 rfl) (by decide) ?_
  refine em_sald (q_cod qk340 rfl) (by decide) hf (fun hf => ?_)
  refine ev_aload_n (q_cod qk340 rfl) (by decide) rfl ?_
  refine ev_iload (q_cod qk340 rfl) (by decide) rfl ?_
  refine ev_ic (v := 2) (q_cod qk340 rfl) (by decide) (by decide) ?_
  refine ev_iadd (q_cod qk340 rfl) (by decide) ?_
  refine em_sald (q_cod qk340 rfl) (by decide) hf (fun hf => ?_)
  refine ev_aload_n (q_cod qk340 rfl) (by decide) rfl ?_
  refine ev_iload (q_cod qk340 rfl) (by decide) rfl ?_
  refine ev_ic (v := 3) (q_cod qk340 rfl) (by decide) (by decide) ?_
  refine ev_iadd (q_cod qk340 rfl) (by decide) ?_
  refine em_sald (q_cod qk340 rfl) (by decide) hf (fun hf => ?_)
  refine ev_aload_n (q_cod qk340 rfl) (by decide) rfl ?_
  refine em_call (v := (fun u => some (.int u))) (q_cod qk340 rfl) rfl rfl (q_cokS rfl rfl) rfl (fun x e => f315_cl e) hf (fun v4 h hf => ?_)
  refine ev_is2 (L' := [(0, .ref q_SC), (1, .ref l1), (2, .ref l2), (3, .ref l3), (4, .int l4), (5, .int v4)]) (q_cod qk340 rfl) (by decide) rfl ?_
  refine ev_aload_n (q_cod qk340 rfl) (by decide) rfl ?_
  refine ev_aload_n (q_cod qk340 rfl) (by decide) rfl ?_
  refine ev_iload (q_cod qk340 rfl) (by decide) rfl ?_
  refine ev_ic (v := 1) (q_cod qk340 rfl) (by decide) (by decide) ?_
  refine ev_iadd (q_cod qk340 rfl) (by decide) ?_
  refine em_sald (q_cod qk340 rfl) (by decide) hf (fun hf => ?_)
  refine ev_aload_n (q_cod qk340 rfl) (by decide) rfl ?_
  refine ev_iload (q_cod qk340 rfl) (by decide) rfl ?_
  refine ev_ic (v := 2) (q_cod qk340 rfl) (by decide) (by decide) ?_
  refine ev_iadd (q_cod qk340 rfl) (by decide) ?_
  refine em_sald (q_cod qk340 rfl) (by decide) hf (fun hf => ?_)
  refine ev_aload_n (q_cod qk340 rfl) (by decide) rfl ?_
  refine ev_iload (q_cod qk340 rfl) (by decide) rfl ?_
  refine ev_ic (v := 3) (q_cod qk340 rfl) (by decide) (by decide) ?_
  refine ev_iadd (q_cod qk340 rfl) (by decide) ?_
  refine em_sald (q_cod qk340 rfl) (by decide) hf (fun hf => ?_)
  obtain ⟨g8, hf⟩ := m_aK_some hf
  refine em_call (v := (fun u => some (.int u))) (q_cod qk340 rfl) rfl rfl (q_cokV rfl rfl (Or.inr g8)) rfl (fun x e => f190_cl e) hf (fun v9 h hf => ?_)
  refine ev_is2 (L' := [(0, .ref q_SC), (1, .ref l1), (2, .ref l2), (3, .ref l3), (4, .int l4), (5, .int v4), (6, .int v9)]) (q_cod qk340 rfl) (by decide) rfl ?_
  refine ev_aload_n (q_cod qk340 rfl) (by decide) rfl ?_
  obtain ⟨g10, hf⟩ := m_aK_some hf
  refine em_call (v := (fun u => some (.int u))) (q_cod qk340 rfl) rfl rfl (q_cokV rfl rfl (Or.inr g10)) rfl (fun x e => f177_cl e) hf (fun v11 h hf => ?_)
  refine ev_iload (q_cod qk340 rfl) (by decide) rfl ?_
  refine em_ic_eq (q_cod qk340 rfl) (by decide) hf (fun c15 hf => ?_) (fun c15 hf => ?_)
  · refine ev_iload (q_cod qk340 rfl) (by decide) rfl ?_
    refine em_if_ne (q_cod qk340 rfl) (by decide) hf (fun c14 hf => ?_) (fun c14 hf => ?_)
    · refine ev_aload_n (q_cod qk340 rfl) (by decide) rfl ?_
      refine ev_ic (v := 0) (q_cod qk340 rfl) (by decide) (by decide) ?_
      refine em_lJ (q_cod qk340 rfl) (by decide) hf (fun v12 hf => ?_)
      refine ev_iload (q_cod qk340 rfl) (by decide) rfl ?_
      refine ev_i2l (q_cod qk340 rfl) (by decide) ?_
      refine ev_lcmp (q_cod qk340 rfl) (by decide) ?_
      refine em_if_eq (q_cod qk340 rfl) (by decide) hf (fun c13 hf => ?_) (fun c13 hf => ?_)
      · exact ev_weak (q_pk [0, 1, 2, 3, 4] rfl) (f340_569_ok hf hK)
      · obtain ⟨y0, hf0, hx⟩ := m_inr_some hf
        subst hx
        exact ev_weak (q_pk [] rfl) (f340_567_ok hf0 hK)
    · exact ev_weak (q_pk [0, 1, 2, 3, 4] rfl) (f340_569_ok hf hK)
  · obtain ⟨y0, hf0, hx⟩ := m_inr_some hf
    subst hx
    exact ev_weak (q_pk [] rfl) (f340_550_ok hf0 hK)
def f340_661 (Ln : Nat) (xs : Nat → Int32) (l1 : Nat) (l2 : Nat) (l3 : Nat) (l4 : Int32) : m_M ((Nat × Nat × Nat × Int32) ⊕ Int32) :=
  f340_2357 Ln xs l1 l2 l3 l4
set_option maxRecDepth 20000 in
theorem f340_661_ok {Ln : Nat} {xs : Nat → Int32} {l1 : Nat} {l2 : Nat} {l3 : Nat} {l4 : Int32} {h : q_H} {o : q_O} {hz : q_H} {x : ((Nat × Nat × Nat × Int32) ⊕ Int32) × q_H} (hf : f340_661 Ln xs l1 l2 l3 l4 h = some x) (hK : (m_yK (fun (s : Nat × Nat × Nat × Int32) (h : q_H) => q_Ev (some (Ln, xs)) 340 23 [(0, .ref q_SC), (1, .ref (s.1)), (2, .ref (s.2.1)), (3, .ref (s.2.2.1)), (4, .int (s.2.2.2))] [] h o hz) (q_KI o hz)) x) : q_Ev (some (Ln, xs)) 340 661 [(0, .ref q_SC), (1, .ref l1), (2, .ref l2), (3, .ref l3), (4, .int l4)] [] h o hz := by
  unfold f340_661 at hf
  refine ev_goto (q_cod qk340 rfl) (by decide) ?_
  exact (f340_2357_ok hf hK)
def f340_659 (Ln : Nat) (xs : Nat → Int32) : m_M Int32 :=
  m_R 0
set_option maxRecDepth 20000 in
theorem f340_659_ok {Ln : Nat} {xs : Nat → Int32} {h : q_H} {o : q_O} {hz : q_H} {x : Int32 × q_H} (hf : f340_659 Ln xs h = some x) (hK : (q_KI o hz) x) : q_Ev (some (Ln, xs)) 340 659 [] [] h o hz := by
  unfold f340_659 at hf
  refine ev_ic (v := 0) (q_cod qk340 rfl) (by decide) (by decide) ?_
  obtain rfl := m_R_inv hf
  obtain ⟨rfl, rfl⟩ := (show q_KI o hz (0, _) from hK)
  exact ev_ret (q_cod qk340 rfl) rfl
def f340_642 (Ln : Nat) (xs : Nat → Int32) : m_M Int32 :=
  m_R 0
set_option maxRecDepth 20000 in
theorem f340_642_ok {Ln : Nat} {xs : Nat → Int32} {h : q_H} {o : q_O} {hz : q_H} {x : Int32 × q_H} (hf : f340_642 Ln xs h = some x) (hK : (q_KI o hz) x) : q_Ev (some (Ln, xs)) 340 642 [] [] h o hz := by
  unfold f340_642 at hf
  refine ev_ic (v := 0) (q_cod qk340 rfl) (by decide) (by decide) ?_
  obtain rfl := m_R_inv hf
  obtain ⟨rfl, rfl⟩ := (show q_KI o hz (0, _) from hK)
  exact ev_ret (q_cod qk340 rfl) rfl
def f340_572 (Ln : Nat) (xs : Nat → Int32) (l1 : Nat) (l2 : Nat) (l3 : Nat) (l4 : Int32) : m_M ((Nat × Nat × Nat × Int32) ⊕ Int32) :=
  m_B (m_G (q_ins (l4 + 1) Ln = true)) (fun _ => m_B (m_G (q_ins (l4 + 2) Ln = true)) (fun _ => m_B (m_G (q_ins (l4 + 3) Ln = true)) (fun _ => m_B (m_G (q_ins (l4 + 4) Ln = true)) (fun _ => m_B (f316 l1 (xs (l4 + 1).toNatClampNeg) (xs (l4 + 2).toNatClampNeg) (xs (l4 + 3).toNatClampNeg) (xs (l4 + 4).toNatClampNeg) l3) (fun v5 => m_B (m_G (q_ins (l4 + 1) Ln = true)) (fun _ => m_B (m_G (q_ins (l4 + 2) Ln = true)) (fun _ => m_B (m_G (q_ins (l4 + 3) Ln = true)) (fun _ => m_B (m_G (q_ins (l4 + 4) Ln = true)) (fun _ => m_B (m_aK l2 12) (fun _ => m_B (f191 l2 (xs (l4 + 1).toNatClampNeg) (xs (l4 + 2).toNatClampNeg) (xs (l4 + 3).toNatClampNeg) (xs (l4 + 4).toNatClampNeg)) (fun v11 => m_B (m_aK l2 12) (fun _ => m_B (f177 l2) (fun v13 => if v13 = v5 then (if v5 = 0 then (m_B (m_lJ l3 0) (fun v14 => if (lg_cmp v14 (v11.toInt64)) = 0 then (f340_661 Ln xs l1 l2 l3 l4) else (m_B (f340_659 Ln xs) (fun r => m_R (.inr r))))) else (f340_661 Ln xs l1 l2 l3 l4)) else (m_B (f340_642 Ln xs) (fun r => m_R (.inr r))))))))))))))))
set_option maxRecDepth 20000 in
theorem f340_572_ok {Ln : Nat} {xs : Nat → Int32} {l1 : Nat} {l2 : Nat} {l3 : Nat} {l4 : Int32} {h : q_H} {o : q_O} {hz : q_H} {x : ((Nat × Nat × Nat × Int32) ⊕ Int32) × q_H} (hf : f340_572 Ln xs l1 l2 l3 l4 h = some x) (hK : (m_yK (fun (s : Nat × Nat × Nat × Int32) (h : q_H) => q_Ev (some (Ln, xs)) 340 23 [(0, .ref q_SC), (1, .ref (s.1)), (2, .ref (s.2.1)), (3, .ref (s.2.2.1)), (4, .int (s.2.2.2))] [] h o hz) (q_KI o hz)) x) : q_Ev (some (Ln, xs)) 340 572 [(0, .ref q_SC), (1, .ref l1), (2, .ref l2), (3, .ref l3), (4, .int l4)] [] h o hz := by
  unfold f340_572 at hf
  refine ev_aload_n (q_cod qk340 rfl) (by decide) rfl ?_
  refine ev_aload_n (q_cod qk340 rfl) (by decide) rfl ?_
  refine ev_iload (q_cod qk340 rfl) (by decide) rfl ?_
  refine ev_ic (v := 1) (q_cod qk340 rfl) (by decide) (by decide) ?_
  refine ev_iadd (q_cod qk340 rfl) (by decide) ?_
  refine em_sald (q_cod qk340 rfl) (by decide) hf (fun hf => ?_)
  refine ev_aload_n (q_cod qk340 rfl) (by decide) rfl ?_
  refine ev_iload (q_cod qk340 rfl) (by decide) rfl ?_
  refine ev_ic (v := 2) (q_cod qk340 rfl) (by decide) (by decide) ?_
  refine ev_iadd (q_cod qk340 rfl) (by decide) ?_
  refine em_sald (q_cod qk340 rfl) (by decide) hf (fun hf => ?_)
  refine ev_aload_n (q_cod qk340 rfl) (by decide) rfl ?_
  refine ev_iload (q_cod qk340 rfl) (by decide) rfl ?_
  refine ev_ic (v := 3) (q_cod qk340 rfl) (by decide) (by decide) ?_
  refine ev_iadd (q_cod qk340 rfl) (by decide) ?_
  refine em_sald (q_cod qk340 rfl) (by decide) hf (fun hf => ?_)
  refine ev_aload_n (q_cod qk340 rfl) (by decide) rfl ?_
  refine ev_iload (q_cod qk340 rfl) (by decide) rfl ?_
  refine ev_ic (v := 4) (q_cod qk340 rfl) (by decide) (by decide) ?_
  refine ev_iadd (q_cod qk340 rfl) (by decide) ?_
  refine em_sald (q_cod qk340 rfl) (by decide) hf (fun hf => ?_)
  refine ev_aload_n (q_cod qk340 rfl) (by decide) rfl ?_
  refine em_call (v := (fun u => some (.int u))) (q_cod qk340 rfl) rfl rfl (q_cokS rfl rfl) rfl (fun x e => f316_cl e) hf (fun v5 h hf => ?_)
  refine ev_is2 (L' := [(0, .ref q_SC), (1, .ref l1), (2, .ref l2), (3, .ref l3), (4, .int l4), (5, .int v5)]) (q_cod qk340 rfl) (by decide) rfl ?_
  refine ev_aload_n (q_cod qk340 rfl) (by decide) rfl ?_
  refine ev_aload_n (q_cod qk340 rfl) (by decide) rfl ?_
  refine ev_iload (q_cod qk340 rfl) (by decide) rfl ?_
  refine ev_ic (v := 1) (q_cod qk340 rfl) (by decide) (by decide) ?_
  refine ev_iadd (q_cod qk340 rfl) (by decide) ?_
  refine em_sald (q_cod qk340 rfl) (by decide) hf (fun hf => ?_)
  refine ev_aload_n (q_cod qk340 rfl) (by decide) rfl ?_
  refine ev_iload (q_cod qk340 rfl) (by decide) rfl ?_
  refine ev_ic (v := 2) (q_cod qk340 rfl) (by decide) (by decide) ?_
  refine ev_iadd (q_cod qk340 rfl) (by decide) ?_
  refine em_sald (q_cod qk340 rfl) (by decide) hf (fun hf => ?_)
  refine ev_aload_n (q_cod qk340 rfl) (by decide) rfl ?_
  refine ev_iload (q_cod qk340 rfl) (by decide) rfl ?_
  refine ev_ic (v := 3) (q_cod qk340 rfl) (by decide) (by decide) ?_
  refine ev_iadd (q_cod qk340 rfl) (by decide) ?_
  refine em_sald (q_cod qk340 rfl) (by decide) hf (fun hf => ?_)
  refine ev_aload_n (q_cod qk340 rfl) (by decide) rfl ?_
  refine ev_iload (q_cod qk340 rfl) (by decide) rfl ?_
  refine ev_ic (v := 4) (q_cod qk340 rfl) (by decide) (by decide) ?_
  refine ev_iadd (q_cod qk340 rfl) (by decide) ?_
  refine em_sald (q_cod qk340 rfl) (by decide) hf (fun hf => ?_)
  obtain ⟨g10, hf⟩ := m_aK_some hf
  refine em_call (v := (fun u => some (.int u))) (q_cod qk340 rfl) rfl rfl (q_cokV rfl rfl (Or.inr g10)) rfl (fun x e => f191_cl e) hf (fun v11 h hf => ?_)
  refine ev_is2 (L' := [(0, .ref q_SC), (1, .ref l1), (2, .ref l2), (3, .ref l3), (4, .int l4), (5, .int v5), (6, .int v11)]) (q_cod qk340 rfl) (by decide) rfl ?_
  refine ev_aload_n (q_cod qk340 rfl) (by decide) rfl ?_
  obtain ⟨g12, hf⟩ := m_aK_some hf
  refine em_call (v := (fun u => some (.int u))) (q_cod qk340 rfl) rfl rfl (q_cokV rfl rfl (Or.inr g12)) rfl (fun x e => f177_cl e) hf (fun v13 h hf => ?_)
  refine ev_iload (q_cod qk340 rfl) (by decide) rfl ?_
  refine em_ic_eq (q_cod qk340 rfl) (by decide) hf (fun c17 hf => ?_) (fun c17 hf => ?_)
  · refine ev_iload (q_cod qk340 rfl) (by decide) rfl ?_
    refine em_if_ne (q_cod qk340 rfl) (by decide) hf (fun c16 hf => ?_) (fun c16 hf => ?_)
    · refine ev_aload_n (q_cod qk340 rfl) (by decide) rfl ?_
      refine ev_ic (v := 0) (q_cod qk340 rfl) (by decide) (by decide) ?_
      refine em_lJ (q_cod qk340 rfl) (by decide) hf (fun v14 hf => ?_)
      refine ev_iload (q_cod qk340 rfl) (by decide) rfl ?_
      refine ev_i2l (q_cod qk340 rfl) (by decide) ?_
      refine ev_lcmp (q_cod qk340 rfl) (by decide) ?_
      refine em_if_eq (q_cod qk340 rfl) (by decide) hf (fun c15 hf => ?_) (fun c15 hf => ?_)
      · exact ev_weak (q_pk [0, 1, 2, 3, 4] rfl) (f340_661_ok hf hK)
      · obtain ⟨y0, hf0, hx⟩ := m_inr_some hf
        subst hx
        exact ev_weak (q_pk [] rfl) (f340_659_ok hf0 hK)
    · exact ev_weak (q_pk [0, 1, 2, 3, 4] rfl) (f340_661_ok hf hK)
  · obtain ⟨y0, hf0, hx⟩ := m_inr_some hf
    subst hx
    exact ev_weak (q_pk [] rfl) (f340_642_ok hf0 hK)
def f340_717 (Ln : Nat) (xs : Nat → Int32) (l1 : Nat) (l2 : Nat) (l3 : Nat) (l4 : Int32) : m_M ((Nat × Nat × Nat × Int32) ⊕ Int32) :=
  f340_2357 Ln xs l1 l2 l3 l4
set_option maxRecDepth 20000 in
theorem f340_717_ok {Ln : Nat} {xs : Nat → Int32} {l1 : Nat} {l2 : Nat} {l3 : Nat} {l4 : Int32} {h : q_H} {o : q_O} {hz : q_H} {x : ((Nat × Nat × Nat × Int32) ⊕ Int32) × q_H} (hf : f340_717 Ln xs l1 l2 l3 l4 h = some x) (hK : (m_yK (fun (s : Nat × Nat × Nat × Int32) (h : q_H) => q_Ev (some (Ln, xs)) 340 23 [(0, .ref q_SC), (1, .ref (s.1)), (2, .ref (s.2.1)), (3, .ref (s.2.2.1)), (4, .int (s.2.2.2))] [] h o hz) (q_KI o hz)) x) : q_Ev (some (Ln, xs)) 340 717 [(0, .ref q_SC), (1, .ref l1), (2, .ref l2), (3, .ref l3), (4, .int l4)] [] h o hz := by
  unfold f340_717 at hf
  refine ev_goto (q_cod qk340 rfl) (by decide) ?_
  exact (f340_2357_ok hf hK)
def f340_715 (Ln : Nat) (xs : Nat → Int32) : m_M Int32 :=
  m_R 0
set_option maxRecDepth 20000 in
theorem f340_715_ok {Ln : Nat} {xs : Nat → Int32} {h : q_H} {o : q_O} {hz : q_H} {x : Int32 × q_H} (hf : f340_715 Ln xs h = some x) (hK : (q_KI o hz) x) : q_Ev (some (Ln, xs)) 340 715 [] [] h o hz := by
  unfold f340_715 at hf
  refine ev_ic (v := 0) (q_cod qk340 rfl) (by decide) (by decide) ?_
  obtain rfl := m_R_inv hf
  obtain ⟨rfl, rfl⟩ := (show q_KI o hz (0, _) from hK)
  exact ev_ret (q_cod qk340 rfl) rfl
def f340_698 (Ln : Nat) (xs : Nat → Int32) : m_M Int32 :=
  m_R 0
set_option maxRecDepth 20000 in
theorem f340_698_ok {Ln : Nat} {xs : Nat → Int32} {h : q_H} {o : q_O} {hz : q_H} {x : Int32 × q_H} (hf : f340_698 Ln xs h = some x) (hK : (q_KI o hz) x) : q_Ev (some (Ln, xs)) 340 698 [] [] h o hz := by
  unfold f340_698 at hf
  refine ev_ic (v := 0) (q_cod qk340 rfl) (by decide) (by decide) ?_
  obtain rfl := m_R_inv hf
  obtain ⟨rfl, rfl⟩ := (show q_KI o hz (0, _) from hK)
  exact ev_ret (q_cod qk340 rfl) rfl
def f340_664 (Ln : Nat) (xs : Nat → Int32) (l1 : Nat) (l2 : Nat) (l3 : Nat) (l4 : Int32) : m_M ((Nat × Nat × Nat × Int32) ⊕ Int32) :=
  m_B (m_G (q_ins (l4 + 1) Ln = true)) (fun _ => m_B (f317 l1 (xs (l4 + 1).toNatClampNeg) l3) (fun v2 => m_B (m_G (q_ins (l4 + 1) Ln = true)) (fun _ => m_B (m_aK l2 12) (fun _ => m_B (f192 l2 (xs (l4 + 1).toNatClampNeg)) (fun v5 => m_B (m_aK l2 12) (fun _ => m_B (f177 l2) (fun v7 => if v7 = v2 then (if v2 = 0 then (m_B (m_lJ l3 0) (fun v8 => if (lg_cmp v8 (v5.toInt64)) = 0 then (f340_717 Ln xs l1 l2 l3 l4) else (m_B (f340_715 Ln xs) (fun r => m_R (.inr r))))) else (f340_717 Ln xs l1 l2 l3 l4)) else (m_B (f340_698 Ln xs) (fun r => m_R (.inr r))))))))))
set_option maxRecDepth 20000 in
theorem f340_664_ok {Ln : Nat} {xs : Nat → Int32} {l1 : Nat} {l2 : Nat} {l3 : Nat} {l4 : Int32} {h : q_H} {o : q_O} {hz : q_H} {x : ((Nat × Nat × Nat × Int32) ⊕ Int32) × q_H} (hf : f340_664 Ln xs l1 l2 l3 l4 h = some x) (hK : (m_yK (fun (s : Nat × Nat × Nat × Int32) (h : q_H) => q_Ev (some (Ln, xs)) 340 23 [(0, .ref q_SC), (1, .ref (s.1)), (2, .ref (s.2.1)), (3, .ref (s.2.2.1)), (4, .int (s.2.2.2))] [] h o hz) (q_KI o hz)) x) : q_Ev (some (Ln, xs)) 340 664 [(0, .ref q_SC), (1, .ref l1), (2, .ref l2), (3, .ref l3), (4, .int l4)] [] h o hz := by
  unfold f340_664 at hf
  refine ev_aload_n (q_cod qk340 rfl) (by decide) rfl ?_
  refine ev_aload_n (q_cod qk340 rfl) (by decide) rfl ?_
  refine ev_iload (q_cod qk340 rfl) (by decide) rfl ?_
  refine ev_ic (v := 1) (q_cod qk340 rfl) (by decide) (by decide) ?_
  refine ev_iadd (q_cod qk340 rfl) (by decide) ?_
  refine em_sald (q_cod qk340 rfl) (by decide) hf (fun hf => ?_)
  refine ev_aload_n (q_cod qk340 rfl) (by decide) rfl ?_
  refine em_call (v := (fun u => some (.int u))) (q_cod qk340 rfl) rfl rfl (q_cokS rfl rfl) rfl (fun x e => f317_cl e) hf (fun v2 h hf => ?_)
  refine ev_is2 (L' := [(0, .ref q_SC), (1, .ref l1), (2, .ref l2), (3, .ref l3), (4, .int l4), (5, .int v2)]) (q_cod qk340 rfl) (by decide) rfl ?_
  refine ev_aload_n (q_cod qk340 rfl) (by decide) rfl ?_
  refine ev_aload_n (q_cod qk340 rfl) (by decide) rfl ?_
  refine ev_iload (q_cod qk340 rfl) (by decide) rfl ?_
  refine ev_ic (v := 1) (q_cod qk340 rfl) (by decide) (by decide) ?_
  refine ev_iadd (q_cod qk340 rfl) (by decide) ?_
  refine em_sald (q_cod qk340 rfl) (by decide) hf (fun hf => ?_)
  obtain ⟨g4, hf⟩ := m_aK_some hf
  refine em_call (v := (fun u => some (.int u))) (q_cod qk340 rfl) rfl rfl (q_cokV rfl rfl (Or.inr g4)) rfl (fun x e => f192_cl e) hf (fun v5 h hf => ?_)
  refine ev_is2 (L' := [(0, .ref q_SC), (1, .ref l1), (2, .ref l2), (3, .ref l3), (4, .int l4), (5, .int v2), (6, .int v5)]) (q_cod qk340 rfl) (by decide) rfl ?_
  refine ev_aload_n (q_cod qk340 rfl) (by decide) rfl ?_
  obtain ⟨g6, hf⟩ := m_aK_some hf
  refine em_call (v := (fun u => some (.int u))) (q_cod qk340 rfl) rfl rfl (q_cokV rfl rfl (Or.inr g6)) rfl (fun x e => f177_cl e) hf (fun v7 h hf => ?_)
  refine ev_iload (q_cod qk340 rfl) (by decide) rfl ?_
  refine em_ic_eq (q_cod qk340 rfl) (by decide) hf (fun c11 hf => ?_) (fun c11 hf => ?_)
  · refine ev_iload (q_cod qk340 rfl) (by decide) rfl ?_
    refine em_if_ne (q_cod qk340 rfl) (by decide) hf (fun c10 hf => ?_) (fun c10 hf => ?_)
    · refine ev_aload_n (q_cod qk340 rfl) (by decide) rfl ?_
      refine ev_ic (v := 0) (q_cod qk340 rfl) (by decide) (by decide) ?_
      refine em_lJ (q_cod qk340 rfl) (by decide) hf (fun v8 hf => ?_)
      refine ev_iload (q_cod qk340 rfl) (by decide) rfl ?_
      refine ev_i2l (q_cod qk340 rfl) (by decide) ?_
      refine ev_lcmp (q_cod qk340 rfl) (by decide) ?_
      refine em_if_eq (q_cod qk340 rfl) (by decide) hf (fun c9 hf => ?_) (fun c9 hf => ?_)
      · exact ev_weak (q_pk [0, 1, 2, 3, 4] rfl) (f340_717_ok hf hK)
      · obtain ⟨y0, hf0, hx⟩ := m_inr_some hf
        subst hx
        exact ev_weak (q_pk [] rfl) (f340_715_ok hf0 hK)
    · exact ev_weak (q_pk [0, 1, 2, 3, 4] rfl) (f340_717_ok hf hK)
  · obtain ⟨y0, hf0, hx⟩ := m_inr_some hf
    subst hx
    exact ev_weak (q_pk [] rfl) (f340_698_ok hf0 hK)
def f340_797 (Ln : Nat) (xs : Nat → Int32) (l1 : Nat) (l2 : Nat) (l3 : Nat) (l4 : Int32) : m_M ((Nat × Nat × Nat × Int32) ⊕ Int32) :=
  f340_2357 Ln xs l1 l2 l3 l4
set_option maxRecDepth 20000 in
theorem f340_797_ok {Ln : Nat} {xs : Nat → Int32} {l1 : Nat} {l2 : Nat} {l3 : Nat} {l4 : Int32} {h : q_H} {o : q_O} {hz : q_H} {x : ((Nat × Nat × Nat × Int32) ⊕ Int32) × q_H} (hf : f340_797 Ln xs l1 l2 l3 l4 h = some x) (hK : (m_yK (fun (s : Nat × Nat × Nat × Int32) (h : q_H) => q_Ev (some (Ln, xs)) 340 23 [(0, .ref q_SC), (1, .ref (s.1)), (2, .ref (s.2.1)), (3, .ref (s.2.2.1)), (4, .int (s.2.2.2))] [] h o hz) (q_KI o hz)) x) : q_Ev (some (Ln, xs)) 340 797 [(0, .ref q_SC), (1, .ref l1), (2, .ref l2), (3, .ref l3), (4, .int l4)] [] h o hz := by
  unfold f340_797 at hf
  refine ev_goto (q_cod qk340 rfl) (by decide) ?_
  exact (f340_2357_ok hf hK)
def f340_795 (Ln : Nat) (xs : Nat → Int32) : m_M Int32 :=
  m_R 0
set_option maxRecDepth 20000 in
theorem f340_795_ok {Ln : Nat} {xs : Nat → Int32} {h : q_H} {o : q_O} {hz : q_H} {x : Int32 × q_H} (hf : f340_795 Ln xs h = some x) (hK : (q_KI o hz) x) : q_Ev (some (Ln, xs)) 340 795 [] [] h o hz := by
  unfold f340_795 at hf
  refine ev_ic (v := 0) (q_cod qk340 rfl) (by decide) (by decide) ?_
  obtain rfl := m_R_inv hf
  obtain ⟨rfl, rfl⟩ := (show q_KI o hz (0, _) from hK)
  exact ev_ret (q_cod qk340 rfl) rfl
def f340_778 (Ln : Nat) (xs : Nat → Int32) : m_M Int32 :=
  m_R 0
set_option maxRecDepth 20000 in
theorem f340_778_ok {Ln : Nat} {xs : Nat → Int32} {h : q_H} {o : q_O} {hz : q_H} {x : Int32 × q_H} (hf : f340_778 Ln xs h = some x) (hK : (q_KI o hz) x) : q_Ev (some (Ln, xs)) 340 778 [] [] h o hz := by
  unfold f340_778 at hf
  refine ev_ic (v := 0) (q_cod qk340 rfl) (by decide) (by decide) ?_
  obtain rfl := m_R_inv hf
  obtain ⟨rfl, rfl⟩ := (show q_KI o hz (0, _) from hK)
  exact ev_ret (q_cod qk340 rfl) rfl
def f340_720 (Ln : Nat) (xs : Nat → Int32) (l1 : Nat) (l2 : Nat) (l3 : Nat) (l4 : Int32) : m_M ((Nat × Nat × Nat × Int32) ⊕ Int32) :=
  m_B (m_G (q_ins (l4 + 1) Ln = true)) (fun _ => m_B (m_G (q_ins (l4 + 2) Ln = true)) (fun _ => m_B (m_G (q_ins (l4 + 3) Ln = true)) (fun _ => m_B (f318 l1 (xs (l4 + 1).toNatClampNeg) (xs (l4 + 2).toNatClampNeg) (xs (l4 + 3).toNatClampNeg) l3) (fun v4 => m_B (m_G (q_ins (l4 + 1) Ln = true)) (fun _ => m_B (m_G (q_ins (l4 + 2) Ln = true)) (fun _ => m_B (m_G (q_ins (l4 + 3) Ln = true)) (fun _ => m_B (m_aK l2 12) (fun _ => m_B (f193 l2 (xs (l4 + 1).toNatClampNeg) (xs (l4 + 2).toNatClampNeg) (xs (l4 + 3).toNatClampNeg)) (fun v9 => m_B (m_aK l2 12) (fun _ => m_B (f177 l2) (fun v11 => if v11 = v4 then (if v4 = 0 then (m_B (m_lJ l3 0) (fun v12 => if (lg_cmp v12 (v9.toInt64)) = 0 then (f340_797 Ln xs l1 l2 l3 l4) else (m_B (f340_795 Ln xs) (fun r => m_R (.inr r))))) else (f340_797 Ln xs l1 l2 l3 l4)) else (m_B (f340_778 Ln xs) (fun r => m_R (.inr r))))))))))))))
set_option maxRecDepth 20000 in
theorem f340_720_ok {Ln : Nat} {xs : Nat → Int32} {l1 : Nat} {l2 : Nat} {l3 : Nat} {l4 : Int32} {h : q_H} {o : q_O} {hz : q_H} {x : ((Nat × Nat × Nat × Int32) ⊕ Int32) × q_H} (hf : f340_720 Ln xs l1 l2 l3 l4 h = some x) (hK : (m_yK (fun (s : Nat × Nat × Nat × Int32) (h : q_H) => q_Ev (some (Ln, xs)) 340 23 [(0, .ref q_SC), (1, .ref (s.1)), (2, .ref (s.2.1)), (3, .ref (s.2.2.1)), (4, .int (s.2.2.2))] [] h o hz) (q_KI o hz)) x) : q_Ev (some (Ln, xs)) 340 720 [(0, .ref q_SC), (1, .ref l1), (2, .ref l2), (3, .ref l3), (4, .int l4)] [] h o hz := by
  unfold f340_720 at hf
  refine ev_aload_n (q_cod qk340 rfl) (by decide) rfl ?_
  refine ev_aload_n (q_cod qk340 rfl) (by decide) rfl ?_
  refine ev_iload (q_cod qk340 rfl) (by decide) rfl ?_
  refine ev_ic (v := 1) (q_cod qk340 rfl) (by decide) (by decide) ?_
  refine ev_iadd (q_cod qk340 rfl) (by decide) ?_
  refine em_sald (q_cod qk340 rfl) (by decide) hf (fun hf => ?_)
  refine ev_aload_n (q_cod qk340 rfl) (by decide) rfl ?_
  refine ev_iload (q_cod qk340 rfl) (by decide) rfl ?_
  refine ev_ic (v := 2) (q_cod qk340 rfl) (by decide) (by decide) ?_
  refine ev_iadd (q_cod qk340 rfl) (by decide) ?_
  refine em_sald (q_cod qk340 rfl) (by decide) hf (fun hf => ?_)
  refine ev_aload_n (q_cod qk340 rfl) (by decide) rfl ?_
  refine ev_iload (q_cod qk340 rfl) (by decide) rfl ?_
  refine ev_ic (v := 3) (q_cod qk340 rfl) (by decide) (by decide) ?_
  refine ev_iadd (q_cod qk340 rfl) (by decide) ?_
  refine em_sald (q_cod qk340 rfl) (by decide) hf (fun hf => ?_)
  refine ev_aload_n (q_cod qk340 rfl) (by decide) rfl ?_
  refine em_call (v := (fun u => some (.int u))) (q_cod qk340 rfl) rfl rfl (q_cokS rfl rfl) rfl (fun x e => f318_cl e) hf (fun v4 h hf => ?_)
  refine ev_is2 (L' := [(0, .ref q_SC), (1, .ref l1), (2, .ref l2), (3, .ref l3), (4, .int l4), (5, .int v4)]) (q_cod qk340 rfl) (by decide) rfl ?_
  refine ev_aload_n (q_cod qk340 rfl) (by decide) rfl ?_
  refine ev_aload_n (q_cod qk340 rfl) (by decide) rfl ?_
  refine ev_iload (q_cod qk340 rfl) (by decide) rfl ?_
  refine ev_ic (v := 1) (q_cod qk340 rfl) (by decide) (by decide) ?_
  refine ev_iadd (q_cod qk340 rfl) (by decide) ?_
  refine em_sald (q_cod qk340 rfl) (by decide) hf (fun hf => ?_)
  refine ev_aload_n (q_cod qk340 rfl) (by decide) rfl ?_
  refine ev_iload (q_cod qk340 rfl) (by decide) rfl ?_
  refine ev_ic (v := 2) (q_cod qk340 rfl) (by decide) (by decide) ?_
  refine ev_iadd (q_cod qk340 rfl) (by decide) ?_
  refine em_sald (q_cod qk340 rfl) (by decide) hf (fun hf => ?_)
  refine ev_aload_n (q_cod qk340 rfl) (by decide) rfl ?_
  refine ev_iload (q_cod qk340 rfl) (by decide) rfl ?_
  refine ev_ic (v := 3) (q_cod qk340 rfl) (by decide) (by decide) ?_
  refine ev_iadd (q_cod qk340 rfl) (by decide) ?_
  refine em_sald (q_cod qk340 rfl) (by decide) hf (fun hf => ?_)
  obtain ⟨g8, hf⟩ := m_aK_some hf
  refine em_call (v := (fun u => some (.int u))) (q_cod qk340 rfl) rfl rfl (q_cokV rfl rfl (Or.inr g8)) rfl (fun x e => f193_cl e) hf (fun v9 h hf => ?_)
  refine ev_is2 (L' := [(0, .ref q_SC), (1, .ref l1), (2, .ref l2), (3, .ref l3), (4, .int l4), (5, .int v4), (6, .int v9)]) (q_cod qk340 rfl) (by decide) rfl ?_
  refine ev_aload_n (q_cod qk340 rfl) (by decide) rfl ?_
  obtain ⟨g10, hf⟩ := m_aK_some hf
  refine em_call (v := (fun u => some (.int u))) (q_cod qk340 rfl) rfl rfl (q_cokV rfl rfl (Or.inr g10)) rfl (fun x e => f177_cl e) hf (fun v11 h hf => ?_)
  refine ev_iload (q_cod qk340 rfl) (by decide) rfl ?_
  refine em_ic_eq (q_cod qk340 rfl) (by decide) hf (fun c15 hf => ?_) (fun c15 hf => ?_)
  · refine ev_iload (q_cod qk340 rfl) (by decide) rfl ?_
    refine em_if_ne (q_cod qk340 rfl) (by decide) hf (fun c14 hf => ?_) (fun c14 hf => ?_)
    · refine ev_aload_n (q_cod qk340 rfl) (by decide) rfl ?_
      refine ev_ic (v := 0) (q_cod qk340 rfl) (by decide) (by decide) ?_
      refine em_lJ (q_cod qk340 rfl) (by decide) hf (fun v12 hf => ?_)
      refine ev_iload (q_cod qk340 rfl) (by decide) rfl ?_
      refine ev_i2l (q_cod qk340 rfl) (by decide) ?_
      refine ev_lcmp (q_cod qk340 rfl) (by decide) ?_
      refine em_if_eq (q_cod qk340 rfl) (by decide) hf (fun c13 hf => ?_) (fun c13 hf => ?_)
      · exact ev_weak (q_pk [0, 1, 2, 3, 4] rfl) (f340_797_ok hf hK)
      · obtain ⟨y0, hf0, hx⟩ := m_inr_some hf
        subst hx
        exact ev_weak (q_pk [] rfl) (f340_795_ok hf0 hK)
    · exact ev_weak (q_pk [0, 1, 2, 3, 4] rfl) (f340_797_ok hf hK)
  · obtain ⟨y0, hf0, hx⟩ := m_inr_some hf
    subst hx
    exact ev_weak (q_pk [] rfl) (f340_778_ok hf0 hK)
def f340_877 (Ln : Nat) (xs : Nat → Int32) (l1 : Nat) (l2 : Nat) (l3 : Nat) (l4 : Int32) : m_M ((Nat × Nat × Nat × Int32) ⊕ Int32) :=
  f340_2357 Ln xs l1 l2 l3 l4
set_option maxRecDepth 20000 in
theorem f340_877_ok {Ln : Nat} {xs : Nat → Int32} {l1 : Nat} {l2 : Nat} {l3 : Nat} {l4 : Int32} {h : q_H} {o : q_O} {hz : q_H} {x : ((Nat × Nat × Nat × Int32) ⊕ Int32) × q_H} (hf : f340_877 Ln xs l1 l2 l3 l4 h = some x) (hK : (m_yK (fun (s : Nat × Nat × Nat × Int32) (h : q_H) => q_Ev (some (Ln, xs)) 340 23 [(0, .ref q_SC), (1, .ref (s.1)), (2, .ref (s.2.1)), (3, .ref (s.2.2.1)), (4, .int (s.2.2.2))] [] h o hz) (q_KI o hz)) x) : q_Ev (some (Ln, xs)) 340 877 [(0, .ref q_SC), (1, .ref l1), (2, .ref l2), (3, .ref l3), (4, .int l4)] [] h o hz := by
  unfold f340_877 at hf
  refine ev_goto (q_cod qk340 rfl) (by decide) ?_
  exact (f340_2357_ok hf hK)
def f340_875 (Ln : Nat) (xs : Nat → Int32) : m_M Int32 :=
  m_R 0
set_option maxRecDepth 20000 in
theorem f340_875_ok {Ln : Nat} {xs : Nat → Int32} {h : q_H} {o : q_O} {hz : q_H} {x : Int32 × q_H} (hf : f340_875 Ln xs h = some x) (hK : (q_KI o hz) x) : q_Ev (some (Ln, xs)) 340 875 [] [] h o hz := by
  unfold f340_875 at hf
  refine ev_ic (v := 0) (q_cod qk340 rfl) (by decide) (by decide) ?_
  obtain rfl := m_R_inv hf
  obtain ⟨rfl, rfl⟩ := (show q_KI o hz (0, _) from hK)
  exact ev_ret (q_cod qk340 rfl) rfl
def f340_858 (Ln : Nat) (xs : Nat → Int32) : m_M Int32 :=
  m_R 0
set_option maxRecDepth 20000 in
theorem f340_858_ok {Ln : Nat} {xs : Nat → Int32} {h : q_H} {o : q_O} {hz : q_H} {x : Int32 × q_H} (hf : f340_858 Ln xs h = some x) (hK : (q_KI o hz) x) : q_Ev (some (Ln, xs)) 340 858 [] [] h o hz := by
  unfold f340_858 at hf
  refine ev_ic (v := 0) (q_cod qk340 rfl) (by decide) (by decide) ?_
  obtain rfl := m_R_inv hf
  obtain ⟨rfl, rfl⟩ := (show q_KI o hz (0, _) from hK)
  exact ev_ret (q_cod qk340 rfl) rfl
def f340_800 (Ln : Nat) (xs : Nat → Int32) (l1 : Nat) (l2 : Nat) (l3 : Nat) (l4 : Int32) : m_M ((Nat × Nat × Nat × Int32) ⊕ Int32) :=
  m_B (m_G (q_ins (l4 + 1) Ln = true)) (fun _ => m_B (m_G (q_ins (l4 + 2) Ln = true)) (fun _ => m_B (m_G (q_ins (l4 + 3) Ln = true)) (fun _ => m_B (f319 l1 (xs (l4 + 1).toNatClampNeg) (xs (l4 + 2).toNatClampNeg) (xs (l4 + 3).toNatClampNeg) l3) (fun v4 => m_B (m_G (q_ins (l4 + 1) Ln = true)) (fun _ => m_B (m_G (q_ins (l4 + 2) Ln = true)) (fun _ => m_B (m_G (q_ins (l4 + 3) Ln = true)) (fun _ => m_B (m_aK l2 12) (fun _ => m_B (f194 l2 (xs (l4 + 1).toNatClampNeg) (xs (l4 + 2).toNatClampNeg) (xs (l4 + 3).toNatClampNeg)) (fun v9 => m_B (m_aK l2 12) (fun _ => m_B (f177 l2) (fun v11 => if v11 = v4 then (if v4 = 0 then (m_B (m_lJ l3 0) (fun v12 => if (lg_cmp v12 (v9.toInt64)) = 0 then (f340_877 Ln xs l1 l2 l3 l4) else (m_B (f340_875 Ln xs) (fun r => m_R (.inr r))))) else (f340_877 Ln xs l1 l2 l3 l4)) else (m_B (f340_858 Ln xs) (fun r => m_R (.inr r))))))))))))))
set_option maxRecDepth 20000 in
theorem f340_800_ok {Ln : Nat} {xs : Nat → Int32} {l1 : Nat} {l2 : Nat} {l3 : Nat} {l4 : Int32} {h : q_H} {o : q_O} {hz : q_H} {x : ((Nat × Nat × Nat × Int32) ⊕ Int32) × q_H} (hf : f340_800 Ln xs l1 l2 l3 l4 h = some x) (hK : (m_yK (fun (s : Nat × Nat × Nat × Int32) (h : q_H) => q_Ev (some (Ln, xs)) 340 23 [(0, .ref q_SC), (1, .ref (s.1)), (2, .ref (s.2.1)), (3, .ref (s.2.2.1)), (4, .int (s.2.2.2))] [] h o hz) (q_KI o hz)) x) : q_Ev (some (Ln, xs)) 340 800 [(0, .ref q_SC), (1, .ref l1), (2, .ref l2), (3, .ref l3), (4, .int l4)] [] h o hz := by
  unfold f340_800 at hf
  refine ev_aload_n (q_cod qk340 rfl) (by decide) rfl ?_
  refine ev_aload_n (q_cod qk340 rfl) (by decide) rfl ?_
  refine ev_iload (q_cod qk340 rfl) (by decide) rfl ?_
  refine ev_ic (v := 1) (q_cod qk340 rfl) (by decide) (by decide) ?_
  refine ev_iadd (q_cod qk340 rfl) (by decide) ?_
  refine em_sald (q_cod qk340 rfl) (by decide) hf (fun hf => ?_)
  refine ev_aload_n (q_cod qk340 rfl) (by decide) rfl ?_
  refine ev_iload (q_cod qk340 rfl) (by decide) rfl ?_
  refine ev_ic (v := 2) (q_cod qk340 rfl) (by decide) (by decide) ?_
  refine ev_iadd (q_cod qk340 rfl) (by decide) ?_
  refine em_sald (q_cod qk340 rfl) (by decide) hf (fun hf => ?_)
  refine ev_aload_n (q_cod qk340 rfl) (by decide) rfl ?_
  refine ev_iload (q_cod qk340 rfl) (by decide) rfl ?_
  refine ev_ic (v := 3) (q_cod qk340 rfl) (by decide) (by decide) ?_
  refine ev_iadd (q_cod qk340 rfl) (by decide) ?_
  refine em_sald (q_cod qk340 rfl) (by decide) hf (fun hf => ?_)
  refine ev_aload_n (q_cod qk340 rfl) (by decide) rfl ?_
  refine em_call (v := (fun u => some (.int u))) (q_cod qk340 rfl) rfl rfl (q_cokS rfl rfl) rfl (fun x e => f319_cl e) hf (fun v4 h hf => ?_)
  refine ev_is2 (L' := [(0, .ref q_SC), (1, .ref l1), (2, .ref l2), (3, .ref l3), (4, .int l4), (5, .int v4)]) (q_cod qk340 rfl) (by decide) rfl ?_
  refine ev_aload_n (q_cod qk340 rfl) (by decide) rfl ?_
  refine ev_aload_n (q_cod qk340 rfl) (by decide) rfl ?_
  refine ev_iload (q_cod qk340 rfl) (by decide) rfl ?_
  refine ev_ic (v := 1) (q_cod qk340 rfl) (by decide) (by decide) ?_
  refine ev_iadd (q_cod qk340 rfl) (by decide) ?_
  refine em_sald (q_cod qk340 rfl) (by decide) hf (fun hf => ?_)
  refine ev_aload_n (q_cod qk340 rfl) (by decide) rfl ?_
  refine ev_iload (q_cod qk340 rfl) (by decide) rfl ?_
  refine ev_ic (v := 2) (q_cod qk340 rfl) (by decide) (by decide) ?_
  refine ev_iadd (q_cod qk340 rfl) (by decide) ?_
  refine em_sald (q_cod qk340 rfl) (by decide) hf (fun hf => ?_)
  refine ev_aload_n (q_cod qk340 rfl) (by decide) rfl ?_
  refine ev_iload (q_cod qk340 rfl) (by decide) rfl ?_
  refine ev_ic (v := 3) (q_cod qk340 rfl) (by decide) (by decide) ?_
  refine ev_iadd (q_cod qk340 rfl) (by decide) ?_
  refine em_sald (q_cod qk340 rfl) (by decide) hf (fun hf => ?_)
  obtain ⟨g8, hf⟩ := m_aK_some hf
  refine em_call (v := (fun u => some (.int u))) (q_cod qk340 rfl) rfl rfl (q_cokV rfl rfl (Or.inr g8)) rfl (fun x e => f194_cl e) hf (fun v9 h hf => ?_)
  refine ev_is2 (L' := [(0, .ref q_SC), (1, .ref l1), (2, .ref l2), (3, .ref l3), (4, .int l4), (5, .int v4), (6, .int v9)]) (q_cod qk340 rfl) (by decide) rfl ?_
  refine ev_aload_n (q_cod qk340 rfl) (by decide) rfl ?_
  obtain ⟨g10, hf⟩ := m_aK_some hf
  refine em_call (v := (fun u => some (.int u))) (q_cod qk340 rfl) rfl rfl (q_cokV rfl rfl (Or.inr g10)) rfl (fun x e => f177_cl e) hf (fun v11 h hf => ?_)
  refine ev_iload (q_cod qk340 rfl) (by decide) rfl ?_
  refine em_ic_eq (q_cod qk340 rfl) (by decide) hf (fun c15 hf => ?_) (fun c15 hf => ?_)
  · refine ev_iload (q_cod qk340 rfl) (by decide) rfl ?_
    refine em_if_ne (q_cod qk340 rfl) (by decide) hf (fun c14 hf => ?_) (fun c14 hf => ?_)
    · refine ev_aload_n (q_cod qk340 rfl) (by decide) rfl ?_
      refine ev_ic (v := 0) (q_cod qk340 rfl) (by decide) (by decide) ?_
      refine em_lJ (q_cod qk340 rfl) (by decide) hf (fun v12 hf => ?_)
      refine ev_iload (q_cod qk340 rfl) (by decide) rfl ?_
      refine ev_i2l (q_cod qk340 rfl) (by decide) ?_
      refine ev_lcmp (q_cod qk340 rfl) (by decide) ?_
      refine em_if_eq (q_cod qk340 rfl) (by decide) hf (fun c13 hf => ?_) (fun c13 hf => ?_)
      · exact ev_weak (q_pk [0, 1, 2, 3, 4] rfl) (f340_877_ok hf hK)
      · obtain ⟨y0, hf0, hx⟩ := m_inr_some hf
        subst hx
        exact ev_weak (q_pk [] rfl) (f340_875_ok hf0 hK)
    · exact ev_weak (q_pk [0, 1, 2, 3, 4] rfl) (f340_877_ok hf hK)
  · obtain ⟨y0, hf0, hx⟩ := m_inr_some hf
    subst hx
    exact ev_weak (q_pk [] rfl) (f340_858_ok hf0 hK)
