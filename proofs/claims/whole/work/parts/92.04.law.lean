-- deps: 92.00.law
def f340_1244 (Ln : Nat) (xs : Nat → Int32) (l1 : Nat) (l2 : Nat) (l3 : Nat) (l4 : Int32) : m_M ((Nat × Nat × Nat × Int32) ⊕ Int32) :=
  f340_2357 Ln xs l1 l2 l3 l4
set_option maxRecDepth 20000 in
theorem f340_1244_ok {Ln : Nat} {xs : Nat → Int32} {l1 : Nat} {l2 : Nat} {l3 : Nat} {l4 : Int32} {h : q_H} {o : q_O} {hz : q_H} {x : ((Nat × Nat × Nat × Int32) ⊕ Int32) × q_H} (hf : f340_1244 Ln xs l1 l2 l3 l4 h = some x) (hK : (m_yK (fun (s : Nat × Nat × Nat × Int32) (h : q_H) => q_Ev (some (Ln, xs)) 340 23 [(0, .ref q_SC), (1, .ref (s.1)), (2, .ref (s.2.1)), (3, .ref (s.2.2.1)), (4, .int (s.2.2.2))] [] h o hz) (q_KI o hz)) x) : q_Ev (some (Ln, xs)) 340 1244 [(0, .ref q_SC), (1, .ref l1), (2, .ref l2), (3, .ref l3), (4, .int l4)] [] h o hz := by
  unfold f340_1244 at hf
  refine ev_goto (q_cod qk340 rfl) (by decide) ?_
  exact (f340_2357_ok hf hK)
def f340_1242 (Ln : Nat) (xs : Nat → Int32) : m_M Int32 :=
  m_R 0
set_option maxRecDepth 20000 in
theorem f340_1242_ok {Ln : Nat} {xs : Nat → Int32} {h : q_H} {o : q_O} {hz : q_H} {x : Int32 × q_H} (hf : f340_1242 Ln xs h = some x) (hK : (q_KI o hz) x) : q_Ev (some (Ln, xs)) 340 1242 [] [] h o hz := by
  unfold f340_1242 at hf
  refine ev_ic (v := 0) (q_cod qk340 rfl) (by decide) (by decide) ?_
  obtain rfl := m_R_inv hf
  obtain ⟨rfl, rfl⟩ := (show q_KI o hz (0, _) from hK)
  exact ev_ret (q_cod qk340 rfl) rfl
def f340_1225 (Ln : Nat) (xs : Nat → Int32) : m_M Int32 :=
  m_R 0
set_option maxRecDepth 20000 in
theorem f340_1225_ok {Ln : Nat} {xs : Nat → Int32} {h : q_H} {o : q_O} {hz : q_H} {x : Int32 × q_H} (hf : f340_1225 Ln xs h = some x) (hK : (q_KI o hz) x) : q_Ev (some (Ln, xs)) 340 1225 [] [] h o hz := by
  unfold f340_1225 at hf
  refine ev_ic (v := 0) (q_cod qk340 rfl) (by decide) (by decide) ?_
  obtain rfl := m_R_inv hf
  obtain ⟨rfl, rfl⟩ := (show q_KI o hz (0, _) from hK)
  exact ev_ret (q_cod qk340 rfl) rfl
def f340_1203 (Ln : Nat) (xs : Nat → Int32) (l1 : Nat) (l2 : Nat) (l3 : Nat) (l4 : Int32) : m_M ((Nat × Nat × Nat × Int32) ⊕ Int32) :=
  m_B (f324 l1 l3) (fun v1 => m_B (m_aK l2 12) (fun _ => m_B (f237 l2) (fun v3 => m_B (m_aK l2 12) (fun _ => m_B (f177 l2) (fun v5 => if v5 = v1 then (if v1 = 0 then (m_B (m_lJ l3 0) (fun v6 => if (lg_cmp v6 (v3.toInt64)) = 0 then (f340_1244 Ln xs l1 l2 l3 l4) else (m_B (f340_1242 Ln xs) (fun r => m_R (.inr r))))) else (f340_1244 Ln xs l1 l2 l3 l4)) else (m_B (f340_1225 Ln xs) (fun r => m_R (.inr r))))))))
set_option maxRecDepth 20000 in
theorem f340_1203_ok {Ln : Nat} {xs : Nat → Int32} {l1 : Nat} {l2 : Nat} {l3 : Nat} {l4 : Int32} {h : q_H} {o : q_O} {hz : q_H} {x : ((Nat × Nat × Nat × Int32) ⊕ Int32) × q_H} (hf : f340_1203 Ln xs l1 l2 l3 l4 h = some x) (hK : (m_yK (fun (s : Nat × Nat × Nat × Int32) (h : q_H) => q_Ev (some (Ln, xs)) 340 23 [(0, .ref q_SC), (1, .ref (s.1)), (2, .ref (s.2.1)), (3, .ref (s.2.2.1)), (4, .int (s.2.2.2))] [] h o hz) (q_KI o hz)) x) : q_Ev (some (Ln, xs)) 340 1203 [(0, .ref q_SC), (1, .ref l1), (2, .ref l2), (3, .ref l3), (4, .int l4)] [] h o hz := by
  unfold f340_1203 at hf
  refine ev_aload_n (q_cod qk340 rfl) (by decide) rfl ?_
  refine ev_aload_n (q_cod qk340 rfl) (by decide) rfl ?_
  refine em_call (v := (fun u => some (.int u))) (q_cod qk340 rfl) rfl rfl (q_cokS rfl rfl) rfl (fun x e => f324_cl e) hf (fun v1 h hf => ?_)
  refine ev_is2 (L' := [(0, .ref q_SC), (1, .ref l1), (2, .ref l2), (3, .ref l3), (4, .int l4), (5, .int v1)]) (q_cod qk340 rfl) (by decide) rfl ?_
  refine ev_aload_n (q_cod qk340 rfl) (by decide) rfl ?_
  obtain ⟨g2, hf⟩ := m_aK_some hf
  refine em_call (v := (fun u => some (.int u))) (q_cod qk340 rfl) rfl rfl (q_cokV rfl rfl (Or.inr g2)) rfl (fun x e => f237_cl e) hf (fun v3 h hf => ?_)
  refine ev_is2 (L' := [(0, .ref q_SC), (1, .ref l1), (2, .ref l2), (3, .ref l3), (4, .int l4), (5, .int v1), (6, .int v3)]) (q_cod qk340 rfl) (by decide) rfl ?_
  refine ev_aload_n (q_cod qk340 rfl) (by decide) rfl ?_
  obtain ⟨g4, hf⟩ := m_aK_some hf
  refine em_call (v := (fun u => some (.int u))) (q_cod qk340 rfl) rfl rfl (q_cokV rfl rfl (Or.inr g4)) rfl (fun x e => f177_cl e) hf (fun v5 h hf => ?_)
  refine ev_iload (q_cod qk340 rfl) (by decide) rfl ?_
  refine em_ic_eq (q_cod qk340 rfl) (by decide) hf (fun c9 hf => ?_) (fun c9 hf => ?_)
  · refine ev_iload (q_cod qk340 rfl) (by decide) rfl ?_
    refine em_if_ne (q_cod qk340 rfl) (by decide) hf (fun c8 hf => ?_) (fun c8 hf => ?_)
    · refine ev_aload_n (q_cod qk340 rfl) (by decide) rfl ?_
      refine ev_ic (v := 0) (q_cod qk340 rfl) (by decide) (by decide) ?_
      refine em_lJ (q_cod qk340 rfl) (by decide) hf (fun v6 hf => ?_)
      refine ev_iload (q_cod qk340 rfl) (by decide) rfl ?_
      refine ev_i2l (q_cod qk340 rfl) (by decide) ?_
      refine ev_lcmp (q_cod qk340 rfl) (by decide) ?_
      refine em_if_eq (q_cod qk340 rfl) (by decide) hf (fun c7 hf => ?_) (fun c7 hf => ?_)
      · exact ev_weak (q_pk [0, 1, 2, 3, 4] rfl) (f340_1244_ok hf hK)
      · obtain ⟨y0, hf0, hx⟩ := m_inr_some hf
        subst hx
        exact ev_weak (q_pk [] rfl) (f340_1242_ok hf0 hK)
    · exact ev_weak (q_pk [0, 1, 2, 3, 4] rfl) (f340_1244_ok hf hK)
  · obtain ⟨y0, hf0, hx⟩ := m_inr_some hf
    subst hx
    exact ev_weak (q_pk [] rfl) (f340_1225_ok hf0 hK)
def f340_1312 (Ln : Nat) (xs : Nat → Int32) (l1 : Nat) (l2 : Nat) (l3 : Nat) (l4 : Int32) : m_M ((Nat × Nat × Nat × Int32) ⊕ Int32) :=
  f340_2357 Ln xs l1 l2 l3 l4
set_option maxRecDepth 20000 in
theorem f340_1312_ok {Ln : Nat} {xs : Nat → Int32} {l1 : Nat} {l2 : Nat} {l3 : Nat} {l4 : Int32} {h : q_H} {o : q_O} {hz : q_H} {x : ((Nat × Nat × Nat × Int32) ⊕ Int32) × q_H} (hf : f340_1312 Ln xs l1 l2 l3 l4 h = some x) (hK : (m_yK (fun (s : Nat × Nat × Nat × Int32) (h : q_H) => q_Ev (some (Ln, xs)) 340 23 [(0, .ref q_SC), (1, .ref (s.1)), (2, .ref (s.2.1)), (3, .ref (s.2.2.1)), (4, .int (s.2.2.2))] [] h o hz) (q_KI o hz)) x) : q_Ev (some (Ln, xs)) 340 1312 [(0, .ref q_SC), (1, .ref l1), (2, .ref l2), (3, .ref l3), (4, .int l4)] [] h o hz := by
  unfold f340_1312 at hf
  refine ev_goto (q_cod qk340 rfl) (by decide) ?_
  exact (f340_2357_ok hf hK)
def f340_1310 (Ln : Nat) (xs : Nat → Int32) : m_M Int32 :=
  m_R 0
set_option maxRecDepth 20000 in
theorem f340_1310_ok {Ln : Nat} {xs : Nat → Int32} {h : q_H} {o : q_O} {hz : q_H} {x : Int32 × q_H} (hf : f340_1310 Ln xs h = some x) (hK : (q_KI o hz) x) : q_Ev (some (Ln, xs)) 340 1310 [] [] h o hz := by
  unfold f340_1310 at hf
  refine ev_ic (v := 0) (q_cod qk340 rfl) (by decide) (by decide) ?_
  obtain rfl := m_R_inv hf
  obtain ⟨rfl, rfl⟩ := (show q_KI o hz (0, _) from hK)
  exact ev_ret (q_cod qk340 rfl) rfl
def f340_1293 (Ln : Nat) (xs : Nat → Int32) : m_M Int32 :=
  m_R 0
set_option maxRecDepth 20000 in
theorem f340_1293_ok {Ln : Nat} {xs : Nat → Int32} {h : q_H} {o : q_O} {hz : q_H} {x : Int32 × q_H} (hf : f340_1293 Ln xs h = some x) (hK : (q_KI o hz) x) : q_Ev (some (Ln, xs)) 340 1293 [] [] h o hz := by
  unfold f340_1293 at hf
  refine ev_ic (v := 0) (q_cod qk340 rfl) (by decide) (by decide) ?_
  obtain rfl := m_R_inv hf
  obtain ⟨rfl, rfl⟩ := (show q_KI o hz (0, _) from hK)
  exact ev_ret (q_cod qk340 rfl) rfl
def f340_1247 (Ln : Nat) (xs : Nat → Int32) (l1 : Nat) (l2 : Nat) (l3 : Nat) (l4 : Int32) : m_M ((Nat × Nat × Nat × Int32) ⊕ Int32) :=
  m_B (m_G (q_ins (l4 + 1) Ln = true)) (fun _ => m_B (m_G (q_ins (l4 + 2) Ln = true)) (fun _ => m_B (f325 l1 (xs (l4 + 1).toNatClampNeg) (xs (l4 + 2).toNatClampNeg) l3) (fun v3 => m_B (m_G (q_ins (l4 + 1) Ln = true)) (fun _ => m_B (m_G (q_ins (l4 + 2) Ln = true)) (fun _ => m_B (m_aK l2 12) (fun _ => m_B (f275 l2 (xs (l4 + 1).toNatClampNeg) (xs (l4 + 2).toNatClampNeg)) (fun v7 => m_B (m_aK l2 12) (fun _ => m_B (f177 l2) (fun v9 => if v9 = v3 then (if v3 = 0 then (m_B (m_lJ l3 0) (fun v10 => if (lg_cmp v10 (v7.toInt64)) = 0 then (f340_1312 Ln xs l1 l2 l3 l4) else (m_B (f340_1310 Ln xs) (fun r => m_R (.inr r))))) else (f340_1312 Ln xs l1 l2 l3 l4)) else (m_B (f340_1293 Ln xs) (fun r => m_R (.inr r))))))))))))
set_option maxRecDepth 20000 in
theorem f340_1247_ok {Ln : Nat} {xs : Nat → Int32} {l1 : Nat} {l2 : Nat} {l3 : Nat} {l4 : Int32} {h : q_H} {o : q_O} {hz : q_H} {x : ((Nat × Nat × Nat × Int32) ⊕ Int32) × q_H} (hf : f340_1247 Ln xs l1 l2 l3 l4 h = some x) (hK : (m_yK (fun (s : Nat × Nat × Nat × Int32) (h : q_H) => q_Ev (some (Ln, xs)) 340 23 [(0, .ref q_SC), (1, .ref (s.1)), (2, .ref (s.2.1)), (3, .ref (s.2.2.1)), (4, .int (s.2.2.2))] [] h o hz) (q_KI o hz)) x) : q_Ev (some (Ln, xs)) 340 1247 [(0, .ref q_SC), (1, .ref l1), (2, .ref l2), (3, .ref l3), (4, .int l4)] [] h o hz := by
  unfold f340_1247 at hf
  refine ev_aload_n (q_cod qk340 rfl) (by decide) rfl ?_
  refine ev_aload_n (q_cod qk340 rfl) (by decide) rfl ?_
  refine ev_iload (q_cod qk340 rfl) (by decide) rfl ?_
  refine ev_ic (v := 1) (q_cod qk340 rfl) (by decide) (by decide) ?_
  refine ev_iadd (q_cod qk340 rfl) (by decide) ?_
  refine em_sald (q_cod qk340 rfl) (by decide) hf (fun hf => ?_)
  refine ev_aload_n (q_cod qk340 rfl) (by decide) rfl ?_
  refine ev_iload (q_cod qk340 rfl) (by decide) rfl ?_
  refine ev_ic (v := 2) (q_cod qk340 rfl) (by decide) (by decide) ?_
  refine ev_iadd (q_cod qk340 rfl) (by decide) ?_
  refine em_sald (q_cod qk340 rfl) (by decide) hf (fun hf => ?_)
  refine ev_aload_n (q_cod qk340 rfl) (by decide) rfl ?_
  refine em_call (v := (fun u => some (.int u))) (q_cod qk340 rfl) rfl rfl (q_cokS rfl rfl) rfl (fun x e => f325_cl e) hf (fun v3 h hf => ?_)
  refine ev_is2 (L' := [(0, .ref q_SC), (1, .ref l1), (2, .ref l2), (3, .ref l3), (4, .int l4), (5, .int v3)]) (q_cod qk340 rfl) (by decide) rfl ?_
  refine ev_aload_n (q_cod qk340 rfl) (by decide) rfl ?_
  refine ev_aload_n (q_cod qk340 rfl) (by decide) rfl ?_
  refine ev_iload (q_cod qk340 rfl) (by decide) rfl ?_
  refine ev_ic (v := 1) (q_cod qk340 rfl) (by decide) (by decide) ?_
  refine ev_iadd (q_cod qk340 rfl) (by decide) ?_
  refine em_sald (q_cod qk340 rfl) (by decide) hf (fun hf => ?_)
  refine ev_aload_n (q_cod qk340 rfl) (by decide) rfl ?_
  refine ev_iload (q_cod qk340 rfl) (by decide) rfl ?_
  refine ev_ic (v := 2) (q_cod qk340 rfl) (by decide) (by decide) ?_
  refine ev_iadd (q_cod qk340 rfl) (by decide) ?_
  refine em_sald (q_cod qk340 rfl) (by decide) hf (fun hf => ?_)
  obtain ⟨g6, hf⟩ := m_aK_some hf
  refine em_call (v := (fun u => some (.int u))) (q_cod qk340 rfl) rfl rfl (q_cokV rfl rfl (Or.inr g6)) rfl (fun x e => f275_cl e) hf (fun v7 h hf => ?_)
  refine ev_is2 (L' := [(0, .ref q_SC), (1, .ref l1), (2, .ref l2), (3, .ref l3), (4, .int l4), (5, .int v3), (6, .int v7)]) (q_cod qk340 rfl) (by decide) rfl ?_
  refine ev_aload_n (q_cod qk340 rfl) (by decide) rfl ?_
  obtain ⟨g8, hf⟩ := m_aK_some hf
  refine em_call (v := (fun u => some (.int u))) (q_cod qk340 rfl) rfl rfl (q_cokV rfl rfl (Or.inr g8)) rfl (fun x e => f177_cl e) hf (fun v9 h hf => ?_)
  refine ev_iload (q_cod qk340 rfl) (by decide) rfl ?_
  refine em_ic_eq (q_cod qk340 rfl) (by decide) hf (fun c13 hf => ?_) (fun c13 hf => ?_)
  · refine ev_iload (q_cod qk340 rfl) (by decide) rfl ?_
    refine em_if_ne (q_cod qk340 rfl) (by decide) hf (fun c12 hf => ?_) (fun c12 hf => ?_)
    · refine ev_aload_n (q_cod qk340 rfl) (by decide) rfl ?_
      refine ev_ic (v := 0) (q_cod qk340 rfl) (by decide) (by decide) ?_
      refine em_lJ (q_cod qk340 rfl) (by decide) hf (fun v10 hf => ?_)
      refine ev_iload (q_cod qk340 rfl) (by decide) rfl ?_
      refine ev_i2l (q_cod qk340 rfl) (by decide) ?_
      refine ev_lcmp (q_cod qk340 rfl) (by decide) ?_
      refine em_if_eq (q_cod qk340 rfl) (by decide) hf (fun c11 hf => ?_) (fun c11 hf => ?_)
      · exact ev_weak (q_pk [0, 1, 2, 3, 4] rfl) (f340_1312_ok hf hK)
      · obtain ⟨y0, hf0, hx⟩ := m_inr_some hf
        subst hx
        exact ev_weak (q_pk [] rfl) (f340_1310_ok hf0 hK)
    · exact ev_weak (q_pk [0, 1, 2, 3, 4] rfl) (f340_1312_ok hf hK)
  · obtain ⟨y0, hf0, hx⟩ := m_inr_some hf
    subst hx
    exact ev_weak (q_pk [] rfl) (f340_1293_ok hf0 hK)
def f340_1392 (Ln : Nat) (xs : Nat → Int32) (l1 : Nat) (l2 : Nat) (l3 : Nat) (l4 : Int32) : m_M ((Nat × Nat × Nat × Int32) ⊕ Int32) :=
  f340_2357 Ln xs l1 l2 l3 l4
set_option maxRecDepth 20000 in
theorem f340_1392_ok {Ln : Nat} {xs : Nat → Int32} {l1 : Nat} {l2 : Nat} {l3 : Nat} {l4 : Int32} {h : q_H} {o : q_O} {hz : q_H} {x : ((Nat × Nat × Nat × Int32) ⊕ Int32) × q_H} (hf : f340_1392 Ln xs l1 l2 l3 l4 h = some x) (hK : (m_yK (fun (s : Nat × Nat × Nat × Int32) (h : q_H) => q_Ev (some (Ln, xs)) 340 23 [(0, .ref q_SC), (1, .ref (s.1)), (2, .ref (s.2.1)), (3, .ref (s.2.2.1)), (4, .int (s.2.2.2))] [] h o hz) (q_KI o hz)) x) : q_Ev (some (Ln, xs)) 340 1392 [(0, .ref q_SC), (1, .ref l1), (2, .ref l2), (3, .ref l3), (4, .int l4)] [] h o hz := by
  unfold f340_1392 at hf
  refine ev_goto (q_cod qk340 rfl) (by decide) ?_
  exact (f340_2357_ok hf hK)
def f340_1390 (Ln : Nat) (xs : Nat → Int32) : m_M Int32 :=
  m_R 0
set_option maxRecDepth 20000 in
theorem f340_1390_ok {Ln : Nat} {xs : Nat → Int32} {h : q_H} {o : q_O} {hz : q_H} {x : Int32 × q_H} (hf : f340_1390 Ln xs h = some x) (hK : (q_KI o hz) x) : q_Ev (some (Ln, xs)) 340 1390 [] [] h o hz := by
  unfold f340_1390 at hf
  refine ev_ic (v := 0) (q_cod qk340 rfl) (by decide) (by decide) ?_
  obtain rfl := m_R_inv hf
  obtain ⟨rfl, rfl⟩ := (show q_KI o hz (0, _) from hK)
  exact ev_ret (q_cod qk340 rfl) rfl
def f340_1373 (Ln : Nat) (xs : Nat → Int32) : m_M Int32 :=
  m_R 0
set_option maxRecDepth 20000 in
theorem f340_1373_ok {Ln : Nat} {xs : Nat → Int32} {h : q_H} {o : q_O} {hz : q_H} {x : Int32 × q_H} (hf : f340_1373 Ln xs h = some x) (hK : (q_KI o hz) x) : q_Ev (some (Ln, xs)) 340 1373 [] [] h o hz := by
  unfold f340_1373 at hf
  refine ev_ic (v := 0) (q_cod qk340 rfl) (by decide) (by decide) ?_
  obtain rfl := m_R_inv hf
  obtain ⟨rfl, rfl⟩ := (show q_KI o hz (0, _) from hK)
  exact ev_ret (q_cod qk340 rfl) rfl
def f340_1315 (Ln : Nat) (xs : Nat → Int32) (l1 : Nat) (l2 : Nat) (l3 : Nat) (l4 : Int32) : m_M ((Nat × Nat × Nat × Int32) ⊕ Int32) :=
  m_B (m_G (q_ins (l4 + 1) Ln = true)) (fun _ => m_B (m_G (q_ins (l4 + 2) Ln = true)) (fun _ => m_B (m_G (q_ins (l4 + 3) Ln = true)) (fun _ => m_B (f326 l1 (xs (l4 + 1).toNatClampNeg) (xs (l4 + 2).toNatClampNeg) (xs (l4 + 3).toNatClampNeg) l3) (fun v4 => m_B (m_G (q_ins (l4 + 1) Ln = true)) (fun _ => m_B (m_G (q_ins (l4 + 2) Ln = true)) (fun _ => m_B (m_G (q_ins (l4 + 3) Ln = true)) (fun _ => m_B (m_aK l2 12) (fun _ => m_B (f279 l2 (xs (l4 + 1).toNatClampNeg) (xs (l4 + 2).toNatClampNeg) (xs (l4 + 3).toNatClampNeg)) (fun v9 => m_B (m_aK l2 12) (fun _ => m_B (f177 l2) (fun v11 => if v11 = v4 then (if v4 = 0 then (m_B (m_lJ l3 0) (fun v12 => if (lg_cmp v12 (v9.toInt64)) = 0 then (f340_1392 Ln xs l1 l2 l3 l4) else (m_B (f340_1390 Ln xs) (fun r => m_R (.inr r))))) else (f340_1392 Ln xs l1 l2 l3 l4)) else (m_B (f340_1373 Ln xs) (fun r => m_R (.inr r))))))))))))))
set_option maxRecDepth 20000 in
theorem f340_1315_ok {Ln : Nat} {xs : Nat → Int32} {l1 : Nat} {l2 : Nat} {l3 : Nat} {l4 : Int32} {h : q_H} {o : q_O} {hz : q_H} {x : ((Nat × Nat × Nat × Int32) ⊕ Int32) × q_H} (hf : f340_1315 Ln xs l1 l2 l3 l4 h = some x) (hK : (m_yK (fun (s : Nat × Nat × Nat × Int32) (h : q_H) => q_Ev (some (Ln, xs)) 340 23 [(0, .ref q_SC), (1, .ref (s.1)), (2, .ref (s.2.1)), (3, .ref (s.2.2.1)), (4, .int (s.2.2.2))] [] h o hz) (q_KI o hz)) x) : q_Ev (some (Ln, xs)) 340 1315 [(0, .ref q_SC), (1, .ref l1), (2, .ref l2), (3, .ref l3), (4, .int l4)] [] h o hz := by
  unfold f340_1315 at hf
  refine ev_aload_n (q_cod qk340 rfl) (by decide) rfl ?_
  refine ev_aload_n (q_cod qk340 rfl) (by decide) rfl ?_
  refine ev_iload (q_cod qk340 rfl) (by decide) rfl ?_
  refine ev_ic (v := 1) (q_cod qk340 rfl) (by decide) (by decide) ?_
  refine ev_iadd (q_cod qk340 rfl) (by decide) ?_
  refine em_sald (q_cod qk340 rfl) (by decide) hf (fun hf => ?_)
  refine ev_aload_n (q_cod qk340 rfl) (by decide) rfl ?_
  refine ev_iload (q_cod qk340 rfl) (by decide) rfl ?_
  refine ev_ic (v := 2) (q_cod qk340 rfl) (by decide) (by decide) ?_
  refine ev_iadd (q_cod qk340 rfl) (by decide) ?_
  refine em_sald (q_cod qk340 rfl) (by decide) hf (fun hf => ?_)
  refine ev_aload_n (q_cod qk340 rfl) (by decide) rfl ?_
  refine ev_iload (q_cod qk340 rfl) (by decide) rfl ?_
  refine ev_ic (v := 3) (q_cod qk340 rfl) (by decide) (by decide) ?_
  refine ev_iadd (q_cod qk340 rfl) (by decide) ?_
  refine em_sald (q_cod qk340 rfl) (by decide) hf (fun hf => ?_)
  refine ev_aload_n (q_cod qk340 rfl) (by decide) rfl ?_
  refine em_call (v := (fun u => some (.int u))) (q_cod qk340 rfl) rfl rfl (q_cokS rfl rfl) rfl (fun x e => f326_cl e) hf (fun v4 h hf => ?_)
  refine ev_is2 (L' := [(0, .ref q_SC), (1, .ref l1), (2, .ref l2), (3, .ref l3), (4, .int l4), (5, .int v4)]) (q_cod qk340 rfl) (by decide) rfl ?_
  refine ev_aload_n (q_cod qk340 rfl) (by decide) rfl ?_
  refine ev_aload_n (q_cod qk340 rfl) (by decide) rfl ?_
  refine ev_iload (q_cod qk340 rfl) (by decide) rfl ?_
  refine ev_ic (v := 1) (q_cod qk340 rfl) (by decide) (by decide) ?_
  refine ev_iadd (q_cod qk340 rfl) (by decide) ?_
  refine em_sald (q_cod qk340 rfl) (by decide) hf (fun hf => ?_)
  refine ev_aload_n (q_cod qk340 rfl) (by decide) rfl ?_
  refine ev_iload (q_cod qk340 rfl) (by decide) rfl ?_
  refine ev_ic (v := 2) (q_cod qk340 rfl) (by decide) (by decide) ?_
  refine ev_iadd (q_cod qk340 rfl) (by decide) ?_
  refine em_sald (q_cod qk340 rfl) (by decide) hf (fun hf => ?_)
  refine ev_aload_n (q_cod qk340 rfl) (by decide) rfl ?_
  refine ev_iload (q_cod qk340 rfl) (by decide) rfl ?_
  refine ev_ic (v := 3) (q_cod qk340 rfl) (by decide) (by decide) ?_
  refine ev_iadd (q_cod qk340 rfl) (by decide) ?_
  refine em_sald (q_cod qk340 rfl) (by decide) hf (fun hf => ?_)
  obtain ⟨g8, hf⟩ := m_aK_some hf
  refine em_call (v := (fun u => some (.int u))) (q_cod qk340 rfl) rfl rfl (q_cokV rfl rfl (Or.inr g8)) rfl (fun x e => f279_cl e) hf (fun v9 h hf => ?_)
  refine ev_is2 (L' := [(0, .ref q_SC), (1, .ref l1), (2, .ref l2), (3, .ref l3), (4, .int l4), (5, .int v4), (6, .int v9)]) (q_cod qk340 rfl) (by decide) rfl ?_
  refine ev_aload_n (q_cod qk340 rfl) (by decide) rfl ?_
  obtain ⟨g10, hf⟩ := m_aK_some hf
  refine em_call (v := (fun u => some (.int u))) (q_cod qk340 rfl) rfl rfl (q_cokV rfl rfl (Or.inr g10)) rfl (fun x e => f177_cl e) hf (fun v11 h hf => ?_)
  refine ev_iload (q_cod qk340 rfl) (by decide) rfl ?_
  refine em_ic_eq (q_cod qk340 rfl) (by decide) hf (fun c15 hf => ?_) (fun c15 hf => ?_)
  · refine ev_iload (q_cod qk340 rfl) (by decide) rfl ?_
    refine em_if_ne (q_cod qk340 rfl) (by decide) hf (fun c14 hf => ?_) (fun c14 hf => ?_)
    · refine ev_aload_n (q_cod qk340 rfl) (by decide) rfl ?_
      refine ev_ic (v := 0) (q_cod qk340 rfl) (by decide) (by decide) ?_
      refine em_lJ (q_cod qk340 rfl) (by decide) hf (fun v12 hf => ?_)
      refine ev_iload (q_cod qk340 rfl) (by decide) rfl ?_
      refine ev_i2l (q_cod qk340 rfl) (by decide) ?_
      refine ev_lcmp (q_cod qk340 rfl) (by decide) ?_
      refine em_if_eq (q_cod qk340 rfl) (by decide) hf (fun c13 hf => ?_) (fun c13 hf => ?_)
      · exact ev_weak (q_pk [0, 1, 2, 3, 4] rfl) (f340_1392_ok hf hK)
      · obtain ⟨y0, hf0, hx⟩ := m_inr_some hf
        subst hx
        exact ev_weak (q_pk [] rfl) (f340_1390_ok hf0 hK)
    · exact ev_weak (q_pk [0, 1, 2, 3, 4] rfl) (f340_1392_ok hf hK)
  · obtain ⟨y0, hf0, hx⟩ := m_inr_some hf
    subst hx
    exact ev_weak (q_pk [] rfl) (f340_1373_ok hf0 hK)
def f340_1472 (Ln : Nat) (xs : Nat → Int32) (l1 : Nat) (l2 : Nat) (l3 : Nat) (l4 : Int32) : m_M ((Nat × Nat × Nat × Int32) ⊕ Int32) :=
  f340_2357 Ln xs l1 l2 l3 l4
set_option maxRecDepth 20000 in
theorem f340_1472_ok {Ln : Nat} {xs : Nat → Int32} {l1 : Nat} {l2 : Nat} {l3 : Nat} {l4 : Int32} {h : q_H} {o : q_O} {hz : q_H} {x : ((Nat × Nat × Nat × Int32) ⊕ Int32) × q_H} (hf : f340_1472 Ln xs l1 l2 l3 l4 h = some x) (hK : (m_yK (fun (s : Nat × Nat × Nat × Int32) (h : q_H) => q_Ev (some (Ln, xs)) 340 23 [(0, .ref q_SC), (1, .ref (s.1)), (2, .ref (s.2.1)), (3, .ref (s.2.2.1)), (4, .int (s.2.2.2))] [] h o hz) (q_KI o hz)) x) : q_Ev (some (Ln, xs)) 340 1472 [(0, .ref q_SC), (1, .ref l1), (2, .ref l2), (3, .ref l3), (4, .int l4)] [] h o hz := by
  unfold f340_1472 at hf
  refine ev_goto (q_cod qk340 rfl) (by decide) ?_
  exact (f340_2357_ok hf hK)
def f340_1470 (Ln : Nat) (xs : Nat → Int32) : m_M Int32 :=
  m_R 0
set_option maxRecDepth 20000 in
theorem f340_1470_ok {Ln : Nat} {xs : Nat → Int32} {h : q_H} {o : q_O} {hz : q_H} {x : Int32 × q_H} (hf : f340_1470 Ln xs h = some x) (hK : (q_KI o hz) x) : q_Ev (some (Ln, xs)) 340 1470 [] [] h o hz := by
  unfold f340_1470 at hf
  refine ev_ic (v := 0) (q_cod qk340 rfl) (by decide) (by decide) ?_
  obtain rfl := m_R_inv hf
  obtain ⟨rfl, rfl⟩ := (show q_KI o hz (0, _) from hK)
  exact ev_ret (q_cod qk340 rfl) rfl
def f340_1453 (Ln : Nat) (xs : Nat → Int32) : m_M Int32 :=
  m_R 0
set_option maxRecDepth 20000 in
theorem f340_1453_ok {Ln : Nat} {xs : Nat → Int32} {h : q_H} {o : q_O} {hz : q_H} {x : Int32 × q_H} (hf : f340_1453 Ln xs h = some x) (hK : (q_KI o hz) x) : q_Ev (some (Ln, xs)) 340 1453 [] [] h o hz := by
  unfold f340_1453 at hf
  refine ev_ic (v := 0) (q_cod qk340 rfl) (by decide) (by decide) ?_
  obtain rfl := m_R_inv hf
  obtain ⟨rfl, rfl⟩ := (show q_KI o hz (0, _) from hK)
  exact ev_ret (q_cod qk340 rfl) rfl
def f340_1395 (Ln : Nat) (xs : Nat → Int32) (l1 : Nat) (l2 : Nat) (l3 : Nat) (l4 : Int32) : m_M ((Nat × Nat × Nat × Int32) ⊕ Int32) :=
  m_B (m_G (q_ins (l4 + 1) Ln = true)) (fun _ => m_B (m_G (q_ins (l4 + 2) Ln = true)) (fun _ => m_B (m_G (q_ins (l4 + 3) Ln = true)) (fun _ => m_B (f327 l1 (xs (l4 + 1).toNatClampNeg) (xs (l4 + 2).toNatClampNeg) (xs (l4 + 3).toNatClampNeg) l3) (fun v4 => m_B (m_G (q_ins (l4 + 1) Ln = true)) (fun _ => m_B (m_G (q_ins (l4 + 2) Ln = true)) (fun _ => m_B (m_G (q_ins (l4 + 3) Ln = true)) (fun _ => m_B (m_aK l2 12) (fun _ => m_B (f280 l2 (xs (l4 + 1).toNatClampNeg) (xs (l4 + 2).toNatClampNeg) (xs (l4 + 3).toNatClampNeg)) (fun v9 => m_B (m_aK l2 12) (fun _ => m_B (f177 l2) (fun v11 => if v11 = v4 then (if v4 = 0 then (m_B (m_lJ l3 0) (fun v12 => if (lg_cmp v12 (v9.toInt64)) = 0 then (f340_1472 Ln xs l1 l2 l3 l4) else (m_B (f340_1470 Ln xs) (fun r => m_R (.inr r))))) else (f340_1472 Ln xs l1 l2 l3 l4)) else (m_B (f340_1453 Ln xs) (fun r => m_R (.inr r))))))))))))))
set_option maxRecDepth 20000 in
theorem f340_1395_ok {Ln : Nat} {xs : Nat → Int32} {l1 : Nat} {l2 : Nat} {l3 : Nat} {l4 : Int32} {h : q_H} {o : q_O} {hz : q_H} {x : ((Nat × Nat × Nat × Int32) ⊕ Int32) × q_H} (hf : f340_1395 Ln xs l1 l2 l3 l4 h = some x) (hK : (m_yK (fun (s : Nat × Nat × Nat × Int32) (h : q_H) => q_Ev (some (Ln, xs)) 340 23 [(0, .ref q_SC), (1, .ref (s.1)), (2, .ref (s.2.1)), (3, .ref (s.2.2.1)), (4, .int (s.2.2.2))] [] h o hz) (q_KI o hz)) x) : q_Ev (some (Ln, xs)) 340 1395 [(0, .ref q_SC), (1, .ref l1), (2, .ref l2), (3, .ref l3), (4, .int l4)] [] h o hz := by
  unfold f340_1395 at hf
  refine ev_aload_n (q_cod qk340 rfl) (by decide) rfl ?_
  refine ev_aload_n (q_cod qk340 rfl) (by decide) rfl ?_
  refine ev_iload (q_cod qk340 rfl) (by decide) rfl ?_
  refine ev_ic (v := 1) (q_cod qk340 rfl) (by decide) (by decide) ?_
  refine ev_iadd (q_cod qk340 rfl) (by decide) ?_
  refine em_sald (q_cod qk340 rfl) (by decide) hf (fun hf => ?_)
  refine ev_aload_n (q_cod qk340 rfl) (by decide) rfl ?_
  refine ev_iload (q_cod qk340 rfl) (by decide) rfl ?_
  refine ev_ic (v := 2) (q_cod qk340 rfl) (by decide) (by decide) ?_
  refine ev_iadd (q_cod qk340 rfl) (by decide) ?_
  refine em_sald (q_cod qk340 rfl) (by decide) hf (fun hf => ?_)
  refine ev_aload_n (q_cod qk340 rfl) (by decide) rfl ?_
  refine ev_iload (q_cod qk340 rfl) (by decide) rfl ?_
  refine ev_ic (v := 3) (q_cod qk340 rfl) (by decide) (by decide) ?_
  refine ev_iadd (q_cod qk340 rfl) (by decide) ?_
  refine em_sald (q_cod qk340 rfl) (by decide) hf (fun hf => ?_)
  refine ev_aload_n (q_cod qk340 rfl) (by decide) rfl ?_
  refine em_call (v := (fun u => some (.int u))) (q_cod qk340 rfl) rfl rfl (q_cokS rfl rfl) rfl (fun x e => f327_cl e) hf (fun v4 h hf => ?_)
  refine ev_is2 (L' := [(0, .ref q_SC), (1, .ref l1), (2, .ref l2), (3, .ref l3), (4, .int l4), (5, .int v4)]) (q_cod qk340 rfl) (by decide) rfl ?_
  refine ev_aload_n (q_cod qk340 rfl) (by decide) rfl ?_
  refine ev_aload_n (q_cod qk340 rfl) (by decide) rfl ?_
  refine ev_iload (q_cod qk340 rfl) (by decide) rfl ?_
  refine ev_ic (v := 1) (q_cod qk340 rfl) (by decide) (by decide) ?_
  refine ev_iadd (q_cod qk340 rfl) (by decide) ?_
  refine em_sald (q_cod qk340 rfl) (by decide) hf (fun hf => ?_)
  refine ev_aload_n (q_cod qk340 rfl) (by decide) rfl ?_
  refine ev_iload (q_cod qk340 rfl) (by decide) rfl ?_
  refine ev_ic (v := 2) (q_cod qk340 rfl) (by decide) (by decide) ?_
  refine ev_iadd (q_cod qk340 rfl) (by decide) ?_
  refine em_sald (q_cod qk340 rfl) (by decide) hf (fun hf => ?_)
  refine ev_aload_n (q_cod qk340 rfl) (by decide) rfl ?_
  refine ev_iload (q_cod qk340 rfl) (by decide) rfl ?_
  refine ev_ic (v := 3) (q_cod qk340 rfl) (by decide) (by decide) ?_
  refine ev_iadd (q_cod qk340 rfl) (by decide) ?_
  refine em_sald (q_cod qk340 rfl) (by decide) hf (fun hf => ?_)
  obtain ⟨g8, hf⟩ := m_aK_some hf
  refine em_call (v := (fun u => some (.int u))) (q_cod qk340 rfl) rfl rfl (q_cokV rfl rfl (Or.inr g8)) rfl (fun x e => f280_cl e) hf (fun v9 h hf => ?_)
  refine ev_is2 (L' := [(0, .ref q_SC), (1, .ref l1), (2, .ref l2), (3, .ref l3), (4, .int l4), (5, .int v4), (6, .int v9)]) (q_cod qk340 rfl) (by decide) rfl ?_
  refine ev_aload_n (q_cod qk340 rfl) (by decide) rfl ?_
  obtain ⟨g10, hf⟩ := m_aK_some hf
  refine em_call (v := (fun u => some (.int u))) (q_cod qk340 rfl) rfl rfl (q_cokV rfl rfl (Or.inr g10)) rfl (fun x e => f177_cl e) hf (fun v11 h hf => ?_)
  refine ev_iload (q_cod qk340 rfl) (by decide) rfl ?_
  refine em_ic_eq (q_cod qk340 rfl) (by decide) hf (fun c15 hf => ?_) (fun c15 hf => ?_)
  · refine ev_iload (q_cod qk340 rfl) (by decide) rfl ?_
    refine em_if_ne (q_cod qk340 rfl) (by decide) hf (fun c14 hf => ?_) (fun c14 hf => ?_)
    · refine ev_aload_n (q_cod qk340 rfl) (by decide) rfl ?_
      refine ev_ic (v := 0) (q_cod qk340 rfl) (by decide) (by decide) ?_
      refine em_lJ (q_cod qk340 rfl) (by decide) hf (fun v12 hf => ?_)
      refine ev_iload (q_cod qk340 rfl) (by decide) rfl ?_
      refine ev_i2l (q_cod qk340 rfl) (by decide) ?_
      refine ev_lcmp (q_cod qk340 rfl) (by decide) ?_
      refine em_if_eq (q_cod qk340 rfl) (by decide) hf (fun c13 hf => ?_) (fun c13 hf => ?_)
      · exact ev_weak (q_pk [0, 1, 2, 3, 4] rfl) (f340_1472_ok hf hK)
      · obtain ⟨y0, hf0, hx⟩ := m_inr_some hf
        subst hx
        exact ev_weak (q_pk [] rfl) (f340_1470_ok hf0 hK)
    · exact ev_weak (q_pk [0, 1, 2, 3, 4] rfl) (f340_1472_ok hf hK)
  · obtain ⟨y0, hf0, hx⟩ := m_inr_some hf
    subst hx
    exact ev_weak (q_pk [] rfl) (f340_1453_ok hf0 hK)
def f340_1540 (Ln : Nat) (xs : Nat → Int32) (l1 : Nat) (l2 : Nat) (l3 : Nat) (l4 : Int32) : m_M ((Nat × Nat × Nat × Int32) ⊕ Int32) :=
  f340_2357 Ln xs l1 l2 l3 l4
set_option maxRecDepth 20000 in
theorem f340_1540_ok {Ln : Nat} {xs : Nat → Int32} {l1 : Nat} {l2 : Nat} {l3 : Nat} {l4 : Int32} {h : q_H} {o : q_O} {hz : q_H} {x : ((Nat × Nat × Nat × Int32) ⊕ Int32) × q_H} (hf : f340_1540 Ln xs l1 l2 l3 l4 h = some x) (hK : (m_yK (fun (s : Nat × Nat × Nat × Int32) (h : q_H) => q_Ev (some (Ln, xs)) 340 23 [(0, .ref q_SC), (1, .ref (s.1)), (2, .ref (s.2.1)), (3, .ref (s.2.2.1)), (4, .int (s.2.2.2))] [] h o hz) (q_KI o hz)) x) : q_Ev (some (Ln, xs)) 340 1540 [(0, .ref q_SC), (1, .ref l1), (2, .ref l2), (3, .ref l3), (4, .int l4)] [] h o hz := by
  unfold f340_1540 at hf
  refine ev_goto (q_cod qk340 rfl) (by decide) ?_
  exact (f340_2357_ok hf hK)
def f340_1538 (Ln : Nat) (xs : Nat → Int32) : m_M Int32 :=
  m_R 0
set_option maxRecDepth 20000 in
theorem f340_1538_ok {Ln : Nat} {xs : Nat → Int32} {h : q_H} {o : q_O} {hz : q_H} {x : Int32 × q_H} (hf : f340_1538 Ln xs h = some x) (hK : (q_KI o hz) x) : q_Ev (some (Ln, xs)) 340 1538 [] [] h o hz := by
  unfold f340_1538 at hf
  refine ev_ic (v := 0) (q_cod qk340 rfl) (by decide) (by decide) ?_
  obtain rfl := m_R_inv hf
  obtain ⟨rfl, rfl⟩ := (show q_KI o hz (0, _) from hK)
  exact ev_ret (q_cod qk340 rfl) rfl
def f340_1521 (Ln : Nat) (xs : Nat → Int32) : m_M Int32 :=
  m_R 0
set_option maxRecDepth 20000 in
theorem f340_1521_ok {Ln : Nat} {xs : Nat → Int32} {h : q_H} {o : q_O} {hz : q_H} {x : Int32 × q_H} (hf : f340_1521 Ln xs h = some x) (hK : (q_KI o hz) x) : q_Ev (some (Ln, xs)) 340 1521 [] [] h o hz := by
  unfold f340_1521 at hf
  refine ev_ic (v := 0) (q_cod qk340 rfl) (by decide) (by decide) ?_
  obtain rfl := m_R_inv hf
  obtain ⟨rfl, rfl⟩ := (show q_KI o hz (0, _) from hK)
  exact ev_ret (q_cod qk340 rfl) rfl
def f340_1475 (Ln : Nat) (xs : Nat → Int32) (l1 : Nat) (l2 : Nat) (l3 : Nat) (l4 : Int32) : m_M ((Nat × Nat × Nat × Int32) ⊕ Int32) :=
  m_B (m_G (q_ins (l4 + 1) Ln = true)) (fun _ => m_B (m_G (q_ins (l4 + 2) Ln = true)) (fun _ => m_B (f328 l1 (xs (l4 + 1).toNatClampNeg) (xs (l4 + 2).toNatClampNeg) l3) (fun v3 => m_B (m_G (q_ins (l4 + 1) Ln = true)) (fun _ => m_B (m_G (q_ins (l4 + 2) Ln = true)) (fun _ => m_B (m_aK l2 12) (fun _ => m_B (f284 l2 (xs (l4 + 1).toNatClampNeg) (xs (l4 + 2).toNatClampNeg)) (fun v7 => m_B (m_aK l2 12) (fun _ => m_B (f177 l2) (fun v9 => if v9 = v3 then (if v3 = 0 then (m_B (m_lJ l3 0) (fun v10 => if (lg_cmp v10 (v7.toInt64)) = 0 then (f340_1540 Ln xs l1 l2 l3 l4) else (m_B (f340_1538 Ln xs) (fun r => m_R (.inr r))))) else (f340_1540 Ln xs l1 l2 l3 l4)) else (m_B (f340_1521 Ln xs) (fun r => m_R (.inr r))))))))))))
set_option maxRecDepth 20000 in
theorem f340_1475_ok {Ln : Nat} {xs : Nat → Int32} {l1 : Nat} {l2 : Nat} {l3 : Nat} {l4 : Int32} {h : q_H} {o : q_O} {hz : q_H} {x : ((Nat × Nat × Nat × Int32) ⊕ Int32) × q_H} (hf : f340_1475 Ln xs l1 l2 l3 l4 h = some x) (hK : (m_yK (fun (s : Nat × Nat × Nat × Int32) (h : q_H) => q_Ev (some (Ln, xs)) 340 23 [(0, .ref q_SC), (1, .ref (s.1)), (2, .ref (s.2.1)), (3, .ref (s.2.2.1)), (4, .int (s.2.2.2))] [] h o hz) (q_KI o hz)) x) : q_Ev (some (Ln, xs)) 340 1475 [(0, .ref q_SC), (1, .ref l1), (2, .ref l2), (3, .ref l3), (4, .int l4)] [] h o hz := by
  unfold f340_1475 at hf
  refine ev_aload_n (q_cod qk340 rfl) (by decide) rfl ?_
  refine ev_aload_n (q_cod qk340 rfl) (by decide) rfl ?_
  refine ev_iload (q_cod qk340 rfl) (by decide) rfl ?_
  refine ev_ic (v := 1) (q_cod qk340 rfl) (by decide) (by decide) ?_
  refine ev_iadd (q_cod qk340 rfl) (by decide) ?_
  refine em_sald (q_cod qk340 rfl) (by decide) hf (fun hf => ?_)
  refine ev_aload_n (q_cod qk340 rfl) (by decide) rfl ?_
  refine ev_iload (q_cod qk340 rfl) (by decide) rfl ?_
  refine ev_ic (v := 2) (q_cod qk340 rfl) (by decide) (by decide) ?_
  refine ev_iadd (q_cod qk340 rfl) (by decide) ?_
  refine em_sald (q_cod qk340 rfl) (by decide) hf (fun hf => ?_)
  refine ev_aload_n (q_cod qk340 rfl) (by decide) rfl ?_
  refine em_call (v := (fun u => some (.int u))) (q_cod qk340 rfl) rfl rfl (q_cokS rfl rfl) rfl (fun x e => f328_cl e) hf (fun v3 h hf => ?_)
  refine ev_is2 (L' := [(0, .ref q_SC), (1, .ref l1), (2, .ref l2), (3, .ref l3), (4, .int l4), (5, .int v3)]) (q_cod qk340 rfl) (by decide) rfl ?_
  refine ev_aload_n (q_cod qk340 rfl) (by decide) rfl ?_
  refine ev_aload_n (q_cod qk340 rfl) (by decide) rfl ?_
  refine ev_iload (q_cod qk340 rfl) (by decide) rfl ?_
  refine ev_ic (v := 1) (q_cod qk340 rfl) (by decide) (by decide) ?_
  refine ev_iadd (q_cod qk340 rfl) (by decide) ?_
  refine em_sald (q_cod qk340 rfl) (by decide) hf (fun hf => ?_)
  refine ev_aload_n (q_cod qk340 rfl) (by decide) rfl ?_
  refine ev_iload (q_cod qk340 rfl) (by decide) rfl ?_
  refine ev_ic (v := 2) (q_cod qk340 rfl) (by decide) (by decide) ?_
  refine ev_iadd (q_cod qk340 rfl) (by decide) ?_
  refine em_sald (q_cod qk340 rfl) (by decide) hf (fun hf => ?_)
  obtain ⟨g6, hf⟩ := m_aK_some hf
  refine em_call (v := (fun u => some (.int u))) (q_cod qk340 rfl) rfl rfl (q_cokV rfl rfl (Or.inr g6)) rfl (fun x e => f284_cl e) hf (fun v7 h hf => ?_)
  refine ev_is2 (L' := [(0, .ref q_SC), (1, .ref l1), (2, .ref l2), (3, .ref l3), (4, .int l4), (5, .int v3), (6, .int v7)]) (q_cod qk340 rfl) (by decide) rfl ?_
  refine ev_aload_n (q_cod qk340 rfl) (by decide) rfl ?_
  obtain ⟨g8, hf⟩ := m_aK_some hf
  refine em_call (v := (fun u => some (.int u))) (q_cod qk340 rfl) rfl rfl (q_cokV rfl rfl (Or.inr g8)) rfl (fun x e => f177_cl e) hf (fun v9 h hf => ?_)
  refine ev_iload (q_cod qk340 rfl) (by decide) rfl ?_
  refine em_ic_eq (q_cod qk340 rfl) (by decide) hf (fun c13 hf => ?_) (fun c13 hf => ?_)
  · refine ev_iload (q_cod qk340 rfl) (by decide) rfl ?_
    refine em_if_ne (q_cod qk340 rfl) (by decide) hf (fun c12 hf => ?_) (fun c12 hf => ?_)
    · refine ev_aload_n (q_cod qk340 rfl) (by decide) rfl ?_
      refine ev_ic (v := 0) (q_cod qk340 rfl) (by decide) (by decide) ?_
      refine em_lJ (q_cod qk340 rfl) (by decide) hf (fun v10 hf => ?_)
      refine ev_iload (q_cod qk340 rfl) (by decide) rfl ?_
      refine ev_i2l (q_cod qk340 rfl) (by decide) ?_
      refine ev_lcmp (q_cod qk340 rfl) (by decide) ?_
      refine em_if_eq (q_cod qk340 rfl) (by decide) hf (fun c11 hf => ?_) (fun c11 hf => ?_)
      · exact ev_weak (q_pk [0, 1, 2, 3, 4] rfl) (f340_1540_ok hf hK)
      · obtain ⟨y0, hf0, hx⟩ := m_inr_some hf
        subst hx
        exact ev_weak (q_pk [] rfl) (f340_1538_ok hf0 hK)
    · exact ev_weak (q_pk [0, 1, 2, 3, 4] rfl) (f340_1540_ok hf hK)
  · obtain ⟨y0, hf0, hx⟩ := m_inr_some hf
    subst hx
    exact ev_weak (q_pk [] rfl) (f340_1521_ok hf0 hK)
