-- deps: 92.00.law
def f340_2328 (Ln : Nat) (xs : Nat → Int32) (l1 : Nat) (l2 : Nat) (l3 : Nat) (l4 : Int32) : m_M ((Nat × Nat × Nat × Int32) ⊕ Int32) :=
  f340_2357 Ln xs l1 l2 l3 l4
set_option maxRecDepth 20000 in
theorem f340_2328_ok {Ln : Nat} {xs : Nat → Int32} {l1 : Nat} {l2 : Nat} {l3 : Nat} {l4 : Int32} {h : q_H} {o : q_O} {hz : q_H} {x : ((Nat × Nat × Nat × Int32) ⊕ Int32) × q_H} (hf : f340_2328 Ln xs l1 l2 l3 l4 h = some x) (hK : (m_yK (fun (s : Nat × Nat × Nat × Int32) (h : q_H) => q_Ev (some (Ln, xs)) 340 23 [(0, .ref q_SC), (1, .ref (s.1)), (2, .ref (s.2.1)), (3, .ref (s.2.2.1)), (4, .int (s.2.2.2))] [] h o hz) (q_KI o hz)) x) : q_Ev (some (Ln, xs)) 340 2328 [(0, .ref q_SC), (1, .ref l1), (2, .ref l2), (3, .ref l3), (4, .int l4)] [] h o hz := by
  unfold f340_2328 at hf
  refine ev_goto (q_cod qk340 rfl) (by decide) ?_
  exact (f340_2357_ok hf hK)
def f340_2326 (Ln : Nat) (xs : Nat → Int32) : m_M Int32 :=
  m_R 0
set_option maxRecDepth 20000 in
theorem f340_2326_ok {Ln : Nat} {xs : Nat → Int32} {h : q_H} {o : q_O} {hz : q_H} {x : Int32 × q_H} (hf : f340_2326 Ln xs h = some x) (hK : (q_KI o hz) x) : q_Ev (some (Ln, xs)) 340 2326 [] [] h o hz := by
  unfold f340_2326 at hf
  refine ev_ic (v := 0) (q_cod qk340 rfl) (by decide) (by decide) ?_
  obtain rfl := m_R_inv hf
  obtain ⟨rfl, rfl⟩ := (show q_KI o hz (0, _) from hK)
  exact ev_ret (q_cod qk340 rfl) rfl
def f340_2309 (Ln : Nat) (xs : Nat → Int32) : m_M Int32 :=
  m_R 0
set_option maxRecDepth 20000 in
theorem f340_2309_ok {Ln : Nat} {xs : Nat → Int32} {h : q_H} {o : q_O} {hz : q_H} {x : Int32 × q_H} (hf : f340_2309 Ln xs h = some x) (hK : (q_KI o hz) x) : q_Ev (some (Ln, xs)) 340 2309 [] [] h o hz := by
  unfold f340_2309 at hf
  refine ev_ic (v := 0) (q_cod qk340 rfl) (by decide) (by decide) ?_
  obtain rfl := m_R_inv hf
  obtain ⟨rfl, rfl⟩ := (show q_KI o hz (0, _) from hK)
  exact ev_ret (q_cod qk340 rfl) rfl
def f340_2295 (Ln : Nat) (xs : Nat → Int32) (l1 : Nat) (l2 : Nat) (l3 : Nat) (l4 : Int32) (l5 : Int32) (s0 : Nat) (s1 : Int32) (s2 : Int32) (s3 : Int32) (s4 : Int32) (s5 : Int32) : m_M ((Nat × Nat × Nat × Int32) ⊕ Int32) :=
  m_B (m_aK s0 12) (fun _ => m_B (f252 s0 s1 s2 s3 s4 s5) (fun v2 => m_B (m_aK l2 12) (fun _ => m_B (f177 l2) (fun v4 => if v4 = l5 then (if l5 = 0 then (m_B (m_lJ l3 0) (fun v5 => if (lg_cmp v5 (v2.toInt64)) = 0 then (f340_2328 Ln xs l1 l2 l3 l4) else (m_B (f340_2326 Ln xs) (fun r => m_R (.inr r))))) else (f340_2328 Ln xs l1 l2 l3 l4)) else (m_B (f340_2309 Ln xs) (fun r => m_R (.inr r)))))))
set_option maxRecDepth 20000 in
theorem f340_2295_ok {Ln : Nat} {xs : Nat → Int32} {l1 : Nat} {l2 : Nat} {l3 : Nat} {l4 : Int32} {l5 : Int32} {s0 : Nat} {s1 : Int32} {s2 : Int32} {s3 : Int32} {s4 : Int32} {s5 : Int32} {h : q_H} {o : q_O} {hz : q_H} {x : ((Nat × Nat × Nat × Int32) ⊕ Int32) × q_H} (hf : f340_2295 Ln xs l1 l2 l3 l4 l5 s0 s1 s2 s3 s4 s5 h = some x) (hK : (m_yK (fun (s : Nat × Nat × Nat × Int32) (h : q_H) => q_Ev (some (Ln, xs)) 340 23 [(0, .ref q_SC), (1, .ref (s.1)), (2, .ref (s.2.1)), (3, .ref (s.2.2.1)), (4, .int (s.2.2.2))] [] h o hz) (q_KI o hz)) x) : q_Ev (some (Ln, xs)) 340 2295 [(0, .ref q_SC), (1, .ref l1), (2, .ref l2), (3, .ref l3), (4, .int l4), (5, .int l5)] [.int s5, .int s4, .int s3, .int s2, .int s1, .ref s0] h o hz := by
  unfold f340_2295 at hf
  obtain ⟨g1, hf⟩ := m_aK_some hf
  refine em_call (v := (fun u => some (.int u))) (q_cod qk340 rfl) rfl rfl (q_cokV rfl rfl (Or.inr g1)) rfl (fun x e => f252_cl e) hf (fun v2 h hf => ?_)
  refine ev_is2 (L' := [(0, .ref q_SC), (1, .ref l1), (2, .ref l2), (3, .ref l3), (4, .int l4), (5, .int l5), (6, .int v2)]) (q_cod qk340 rfl) (by decide) rfl ?_
  refine ev_aload_n (q_cod qk340 rfl) (by decide) rfl ?_
  obtain ⟨g3, hf⟩ := m_aK_some hf
  refine em_call (v := (fun u => some (.int u))) (q_cod qk340 rfl) rfl rfl (q_cokV rfl rfl (Or.inr g3)) rfl (fun x e => f177_cl e) hf (fun v4 h hf => ?_)
  refine ev_iload (q_cod qk340 rfl) (by decide) rfl ?_
  refine em_ic_eq (q_cod qk340 rfl) (by decide) hf (fun c8 hf => ?_) (fun c8 hf => ?_)
  · refine ev_iload (q_cod qk340 rfl) (by decide) rfl ?_
    refine em_if_ne (q_cod qk340 rfl) (by decide) hf (fun c7 hf => ?_) (fun c7 hf => ?_)
    · refine ev_aload_n (q_cod qk340 rfl) (by decide) rfl ?_
      refine ev_ic (v := 0) (q_cod qk340 rfl) (by decide) (by decide) ?_
      refine em_lJ (q_cod qk340 rfl) (by decide) hf (fun v5 hf => ?_)
      refine ev_iload (q_cod qk340 rfl) (by decide) rfl ?_
      refine ev_i2l (q_cod qk340 rfl) (by decide) ?_
      refine ev_lcmp (q_cod qk340 rfl) (by decide) ?_
      refine em_if_eq (q_cod qk340 rfl) (by decide) hf (fun c6 hf => ?_) (fun c6 hf => ?_)
      · exact ev_weak (q_pk [0, 1, 2, 3, 4] rfl) (f340_2328_ok hf hK)
      · obtain ⟨y0, hf0, hx⟩ := m_inr_some hf
        subst hx
        exact ev_weak (q_pk [] rfl) (f340_2326_ok hf0 hK)
    · exact ev_weak (q_pk [0, 1, 2, 3, 4] rfl) (f340_2328_ok hf hK)
  · obtain ⟨y0, hf0, hx⟩ := m_inr_some hf
    subst hx
    exact ev_weak (q_pk [] rfl) (f340_2309_ok hf0 hK)
def f340_2250 (Ln : Nat) (xs : Nat → Int32) (l1 : Nat) (l2 : Nat) (l3 : Nat) (l4 : Int32) (s0 : Nat) (s1 : Int32) (s2 : Int32) (s3 : Int32) (s4 : Int32) (s5 : Int32) : m_M ((Nat × Nat × Nat × Int32) ⊕ Int32) :=
  m_B (f339 s0 s1 s2 s3 s4 s5 l3) (fun v1 => m_B (m_G (q_ins (l4 + 1) Ln = true)) (fun _ => m_B (m_G (q_ins (l4 + 2) Ln = true)) (fun _ => m_B (m_G (q_ins (l4 + 3) Ln = true)) (fun _ => m_B (m_G (q_ins (l4 + 4) Ln = true)) (fun _ => m_B (m_G (q_ins (l4 + 5) Ln = true)) (fun _ => if (xs (l4 + 5).toNatClampNeg) = 0 then (f340_2295 Ln xs l1 l2 l3 l4 v1 l2 (xs (l4 + 1).toNatClampNeg) (xs (l4 + 2).toNatClampNeg) (xs (l4 + 3).toNatClampNeg) (xs (l4 + 4).toNatClampNeg) 0) else (f340_2295 Ln xs l1 l2 l3 l4 v1 l2 (xs (l4 + 1).toNatClampNeg) (xs (l4 + 2).toNatClampNeg) (xs (l4 + 3).toNatClampNeg) (xs (l4 + 4).toNatClampNeg) 1)))))))
set_option maxRecDepth 20000 in
theorem f340_2250_ok {Ln : Nat} {xs : Nat → Int32} {l1 : Nat} {l2 : Nat} {l3 : Nat} {l4 : Int32} {s0 : Nat} {s1 : Int32} {s2 : Int32} {s3 : Int32} {s4 : Int32} {s5 : Int32} {h : q_H} {o : q_O} {hz : q_H} {x : ((Nat × Nat × Nat × Int32) ⊕ Int32) × q_H} (hf : f340_2250 Ln xs l1 l2 l3 l4 s0 s1 s2 s3 s4 s5 h = some x) (hK : (m_yK (fun (s : Nat × Nat × Nat × Int32) (h : q_H) => q_Ev (some (Ln, xs)) 340 23 [(0, .ref q_SC), (1, .ref (s.1)), (2, .ref (s.2.1)), (3, .ref (s.2.2.1)), (4, .int (s.2.2.2))] [] h o hz) (q_KI o hz)) x) : q_Ev (some (Ln, xs)) 340 2250 [(0, .ref q_SC), (1, .ref l1), (2, .ref l2), (3, .ref l3), (4, .int l4)] [.int s5, .int s4, .int s3, .int s2, .int s1, .ref s0] h o hz := by
  unfold f340_2250 at hf
  refine ev_aload_n (q_cod qk340 rfl) (by decide) rfl ?_
  refine em_call (v := (fun u => some (.int u))) (q_cod qk340 rfl) rfl rfl (q_cokS rfl rfl) rfl (fun x e => f339_cl e) hf (fun v1 h hf => ?_)
  refine ev_is2 (L' := [(0, .ref q_SC), (1, .ref l1), (2, .ref l2), (3, .ref l3), (4, .int l4), (5, .int v1)]) (q_cod qk340 rfl) (by decide) rfl ?_
  refine ev_aload_n (q_cod qk340 rfl) (by decide) rfl ?_
  refine ev_aload_n (q_cod qk340 rfl) (by decide) rfl ?_
  refine ev_iload (q_cod qk340 rfl) (by decide) rfl ?_
  refine ev_ic (v := 1) (q_cod qk340 rfl) (by decide) (by decide) ?_
  refine ev_iadd (q_cod qk340 rfl) (by decide) ?_
  refine em_sald (q_cod qk340 rfl) (by decide) hf (fun hf => ?_)
  refine ev_aload_n (q_cod qk340 rfl) (by decide) rfl ?_
  refine ev_iload (q_cod qk340 rfl) (by decide) rfl ?_
  refine ev_ic (v := 2) (q_cod qk340 rfl) (by decide) (by decide) ?_
  refine ev_iadd (q_cod qk340 rfl) (by decide) ?_
  refine em_sald (q_cod qk340 rfl) (by decide) hf (fun hf => ?_)
  refine ev_aload_n (q_cod qk340 rfl) (by decide) rfl ?_
  refine ev_iload (q_cod qk340 rfl) (by decide) rfl ?_
  refine ev_ic (v := 3) (q_cod qk340 rfl) (by decide) (by decide) ?_
  refine ev_iadd (q_cod qk340 rfl) (by decide) ?_
  refine em_sald (q_cod qk340 rfl) (by decide) hf (fun hf => ?_)
  refine ev_aload_n (q_cod qk340 rfl) (by decide) rfl ?_
  refine ev_iload (q_cod qk340 rfl) (by decide) rfl ?_
  refine ev_ic (v := 4) (q_cod qk340 rfl) (by decide) (by decide) ?_
  refine ev_iadd (q_cod qk340 rfl) (by decide) ?_
  refine em_sald (q_cod qk340 rfl) (by decide) hf (fun hf => ?_)
  refine ev_aload_n (q_cod qk340 rfl) (by decide) rfl ?_
  refine ev_iload (q_cod qk340 rfl) (by decide) rfl ?_
  refine ev_ic (v := 5) (q_cod qk340 rfl) (by decide) (by decide) ?_
  refine ev_iadd (q_cod qk340 rfl) (by decide) ?_
  refine em_sald (q_cod qk340 rfl) (by decide) hf (fun hf => ?_)
  refine em_if_eq (q_cod qk340 rfl) (by decide) hf (fun c7 hf => ?_) (fun c7 hf => ?_)
  · refine ev_ic (v := 0) (q_cod qk340 rfl) (by decide) (by decide) ?_
    exact (f340_2295_ok hf hK)
  · refine ev_ic (v := 1) (q_cod qk340 rfl) (by decide) (by decide) ?_
    refine ev_goto (q_cod qk340 rfl) (by decide) ?_
    exact (f340_2295_ok hf hK)
def f340_2211 (Ln : Nat) (xs : Nat → Int32) (l1 : Nat) (l2 : Nat) (l3 : Nat) (l4 : Int32) : m_M ((Nat × Nat × Nat × Int32) ⊕ Int32) :=
  m_B (m_G (q_ins (l4 + 1) Ln = true)) (fun _ => m_B (m_G (q_ins (l4 + 2) Ln = true)) (fun _ => m_B (m_G (q_ins (l4 + 3) Ln = true)) (fun _ => m_B (m_G (q_ins (l4 + 4) Ln = true)) (fun _ => m_B (m_G (q_ins (l4 + 5) Ln = true)) (fun _ => if (xs (l4 + 5).toNatClampNeg) = 0 then (f340_2250 Ln xs l1 l2 l3 l4 l1 (xs (l4 + 1).toNatClampNeg) (xs (l4 + 2).toNatClampNeg) (xs (l4 + 3).toNatClampNeg) (xs (l4 + 4).toNatClampNeg) 0) else (f340_2250 Ln xs l1 l2 l3 l4 l1 (xs (l4 + 1).toNatClampNeg) (xs (l4 + 2).toNatClampNeg) (xs (l4 + 3).toNatClampNeg) (xs (l4 + 4).toNatClampNeg) 1))))))
set_option maxRecDepth 20000 in
theorem f340_2211_ok {Ln : Nat} {xs : Nat → Int32} {l1 : Nat} {l2 : Nat} {l3 : Nat} {l4 : Int32} {h : q_H} {o : q_O} {hz : q_H} {x : ((Nat × Nat × Nat × Int32) ⊕ Int32) × q_H} (hf : f340_2211 Ln xs l1 l2 l3 l4 h = some x) (hK : (m_yK (fun (s : Nat × Nat × Nat × Int32) (h : q_H) => q_Ev (some (Ln, xs)) 340 23 [(0, .ref q_SC), (1, .ref (s.1)), (2, .ref (s.2.1)), (3, .ref (s.2.2.1)), (4, .int (s.2.2.2))] [] h o hz) (q_KI o hz)) x) : q_Ev (some (Ln, xs)) 340 2211 [(0, .ref q_SC), (1, .ref l1), (2, .ref l2), (3, .ref l3), (4, .int l4)] [] h o hz := by
  unfold f340_2211 at hf
  refine ev_aload_n (q_cod qk340 rfl) (by decide) rfl ?_
  refine ev_aload_n (q_cod qk340 rfl) (by decide) rfl ?_
  refine ev_iload (q_cod qk340 rfl) (by decide) rfl ?_
  refine ev_ic (v := 1) (q_cod qk340 rfl) (by decide) (by decide) ?_
  refine ev_iadd (q_cod qk340 rfl) (by decide) ?_
  refine em_sald (q_cod qk340 rfl) (by decide) hf (fun hf => ?_)
  refine ev_aload_n (q_cod qk340 rfl) (by decide) rfl ?_
  refine ev_iload (q_cod qk340 rfl) (by decide) rfl ?_
  refine ev_ic (v := 2) (q_cod qk340 rfl) (by decide) (by decide) ?_
  refine ev_iadd (q_cod qk340 rfl) (by decide) ?_
  refine em_sald (q_cod qk340 rfl) (by decide) hf (fun hf => ?_)
  refine ev_aload_n (q_cod qk340 rfl) (by decide) rfl ?_
  refine ev_iload (q_cod qk340 rfl) (by decide) rfl ?_
  refine ev_ic (v := 3) (q_cod qk340 rfl) (by decide) (by decide) ?_
  refine ev_iadd (q_cod qk340 rfl) (by decide) ?_
  refine em_sald (q_cod qk340 rfl) (by decide) hf (fun hf => ?_)
  refine ev_aload_n (q_cod qk340 rfl) (by decide) rfl ?_
  refine ev_iload (q_cod qk340 rfl) (by decide) rfl ?_
  refine ev_ic (v := 4) (q_cod qk340 rfl) (by decide) (by decide) ?_
  refine ev_iadd (q_cod qk340 rfl) (by decide) ?_
  refine em_sald (q_cod qk340 rfl) (by decide) hf (fun hf => ?_)
  refine ev_aload_n (q_cod qk340 rfl) (by decide) rfl ?_
  refine ev_iload (q_cod qk340 rfl) (by decide) rfl ?_
  refine ev_ic (v := 5) (q_cod qk340 rfl) (by decide) (by decide) ?_
  refine ev_iadd (q_cod qk340 rfl) (by decide) ?_
  refine em_sald (q_cod qk340 rfl) (by decide) hf (fun hf => ?_)
  refine em_if_eq (q_cod qk340 rfl) (by decide) hf (fun c6 hf => ?_) (fun c6 hf => ?_)
  · refine ev_ic (v := 0) (q_cod qk340 rfl) (by decide) (by decide) ?_
    exact (f340_2250_ok hf hK)
  · refine ev_ic (v := 1) (q_cod qk340 rfl) (by decide) (by decide) ?_
    refine ev_goto (q_cod qk340 rfl) (by decide) ?_
    exact (f340_2250_ok hf hK)
def f340_2342 (Ln : Nat) (xs : Nat → Int32) : m_M Int32 :=
  m_R 0
set_option maxRecDepth 20000 in
theorem f340_2342_ok {Ln : Nat} {xs : Nat → Int32} {h : q_H} {o : q_O} {hz : q_H} {x : Int32 × q_H} (hf : f340_2342 Ln xs h = some x) (hK : (q_KI o hz) x) : q_Ev (some (Ln, xs)) 340 2342 [] [] h o hz := by
  unfold f340_2342 at hf
  refine ev_ic (v := 0) (q_cod qk340 rfl) (by decide) (by decide) ?_
  obtain rfl := m_R_inv hf
  obtain ⟨rfl, rfl⟩ := (show q_KI o hz (0, _) from hK)
  exact ev_ret (q_cod qk340 rfl) rfl
def f340_2331 (Ln : Nat) (xs : Nat → Int32) (l1 : Nat) (l2 : Nat) (l3 : Nat) (l4 : Int32) : m_M ((Nat × Nat × Nat × Int32) ⊕ Int32) :=
  m_B (m_aK l1 11) (fun _ => m_B (f155 l1) (fun v2 => m_B (m_aK l2 12) (fun _ => m_B (f253 l2) (fun v4 => if v2 = v4 then (f340_2357 Ln xs l1 l2 l3 l4) else (m_B (f340_2342 Ln xs) (fun r => m_R (.inr r)))))))
set_option maxRecDepth 20000 in
theorem f340_2331_ok {Ln : Nat} {xs : Nat → Int32} {l1 : Nat} {l2 : Nat} {l3 : Nat} {l4 : Int32} {h : q_H} {o : q_O} {hz : q_H} {x : ((Nat × Nat × Nat × Int32) ⊕ Int32) × q_H} (hf : f340_2331 Ln xs l1 l2 l3 l4 h = some x) (hK : (m_yK (fun (s : Nat × Nat × Nat × Int32) (h : q_H) => q_Ev (some (Ln, xs)) 340 23 [(0, .ref q_SC), (1, .ref (s.1)), (2, .ref (s.2.1)), (3, .ref (s.2.2.1)), (4, .int (s.2.2.2))] [] h o hz) (q_KI o hz)) x) : q_Ev (some (Ln, xs)) 340 2331 [(0, .ref q_SC), (1, .ref l1), (2, .ref l2), (3, .ref l3), (4, .int l4)] [] h o hz := by
  unfold f340_2331 at hf
  refine ev_aload_n (q_cod qk340 rfl) (by decide) rfl ?_
  obtain ⟨g1, hf⟩ := m_aK_some hf
  refine em_call (v := (fun u => some (.int u))) (q_cod qk340 rfl) rfl rfl (q_cokV rfl rfl (Or.inr g1)) rfl (fun x e => f155_cl e) hf (fun v2 h hf => ?_)
  refine ev_aload_n (q_cod qk340 rfl) (by decide) rfl ?_
  obtain ⟨g3, hf⟩ := m_aK_some hf
  refine em_call (v := (fun u => some (.int u))) (q_cod qk340 rfl) rfl rfl (q_cokV rfl rfl (Or.inr g3)) rfl (fun x e => f253_cl e) hf (fun v4 h hf => ?_)
  refine em_ic_eq (q_cod qk340 rfl) (by decide) hf (fun c5 hf => ?_) (fun c5 hf => ?_)
  · exact (f340_2357_ok hf hK)
  · obtain ⟨y0, hf0, hx⟩ := m_inr_some hf
    subst hx
    exact ev_weak (q_pk [] rfl) (f340_2342_ok hf0 hK)
def f340_2355 (Ln : Nat) (xs : Nat → Int32) : m_M Int32 :=
  m_R 0
set_option maxRecDepth 20000 in
theorem f340_2355_ok {Ln : Nat} {xs : Nat → Int32} {h : q_H} {o : q_O} {hz : q_H} {x : Int32 × q_H} (hf : f340_2355 Ln xs h = some x) (hK : (q_KI o hz) x) : q_Ev (some (Ln, xs)) 340 2355 [] [] h o hz := by
  unfold f340_2355 at hf
  refine ev_ic (v := 0) (q_cod qk340 rfl) (by decide) (by decide) ?_
  obtain rfl := m_R_inv hf
  obtain ⟨rfl, rfl⟩ := (show q_KI o hz (0, _) from hK)
  exact ev_ret (q_cod qk340 rfl) rfl
def f340_2344 (Ln : Nat) (xs : Nat → Int32) (l1 : Nat) (l2 : Nat) (l3 : Nat) (l4 : Int32) : m_M ((Nat × Nat × Nat × Int32) ⊕ Int32) :=
  m_B (m_aK l1 11) (fun _ => m_B (f156 l1) (fun v2 => m_B (m_aK l2 12) (fun _ => m_B (f254 l2) (fun v4 => if v2 = v4 then (f340_2357 Ln xs l1 l2 l3 l4) else (m_B (f340_2355 Ln xs) (fun r => m_R (.inr r)))))))
set_option maxRecDepth 20000 in
theorem f340_2344_ok {Ln : Nat} {xs : Nat → Int32} {l1 : Nat} {l2 : Nat} {l3 : Nat} {l4 : Int32} {h : q_H} {o : q_O} {hz : q_H} {x : ((Nat × Nat × Nat × Int32) ⊕ Int32) × q_H} (hf : f340_2344 Ln xs l1 l2 l3 l4 h = some x) (hK : (m_yK (fun (s : Nat × Nat × Nat × Int32) (h : q_H) => q_Ev (some (Ln, xs)) 340 23 [(0, .ref q_SC), (1, .ref (s.1)), (2, .ref (s.2.1)), (3, .ref (s.2.2.1)), (4, .int (s.2.2.2))] [] h o hz) (q_KI o hz)) x) : q_Ev (some (Ln, xs)) 340 2344 [(0, .ref q_SC), (1, .ref l1), (2, .ref l2), (3, .ref l3), (4, .int l4)] [] h o hz := by
  unfold f340_2344 at hf
  refine ev_aload_n (q_cod qk340 rfl) (by decide) rfl ?_
  obtain ⟨g1, hf⟩ := m_aK_some hf
  refine em_call (v := (fun u => some (.int u))) (q_cod qk340 rfl) rfl rfl (q_cokV rfl rfl (Or.inr g1)) rfl (fun x e => f156_cl e) hf (fun v2 h hf => ?_)
  refine ev_aload_n (q_cod qk340 rfl) (by decide) rfl ?_
  obtain ⟨g3, hf⟩ := m_aK_some hf
  refine em_call (v := (fun u => some (.int u))) (q_cod qk340 rfl) rfl rfl (q_cokV rfl rfl (Or.inr g3)) rfl (fun x e => f254_cl e) hf (fun v4 h hf => ?_)
  refine em_ic_eq (q_cod qk340 rfl) (by decide) hf (fun c5 hf => ?_) (fun c5 hf => ?_)
  · exact (f340_2357_ok hf hK)
  · obtain ⟨y0, hf0, hx⟩ := m_inr_some hf
    subst hx
    exact ev_weak (q_pk [] rfl) (f340_2355_ok hf0 hK)
