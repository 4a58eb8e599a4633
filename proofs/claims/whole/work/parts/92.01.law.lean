-- deps: 92.00.law
def f340_241 (Ln : Nat) (xs : Nat → Int32) (l1 : Nat) (l2 : Nat) (l3 : Nat) (l4 : Int32) : m_M ((Nat × Nat × Nat × Int32) ⊕ Int32) :=
  f340_2357 Ln xs l1 l2 l3 l4
set_option maxRecDepth 20000 in
theorem f340_241_ok {Ln : Nat} {xs : Nat → Int32} {l1 : Nat} {l2 : Nat} {l3 : Nat} {l4 : Int32} {h : q_H} {o : q_O} {hz : q_H} {x : ((Nat × Nat × Nat × Int32) ⊕ Int32) × q_H} (hf : f340_241 Ln xs l1 l2 l3 l4 h = some x) (hK : (m_yK (fun (s : Nat × Nat × Nat × Int32) (h : q_H) => q_Ev (some (Ln, xs)) 340 23 [(0, .ref q_SC), (1, .ref (s.1)), (2, .ref (s.2.1)), (3, .ref (s.2.2.1)), (4, .int (s.2.2.2))] [] h o hz) (q_KI o hz)) x) : q_Ev (some (Ln, xs)) 340 241 [(0, .ref q_SC), (1, .ref l1), (2, .ref l2), (3, .ref l3), (4, .int l4)] [] h o hz := by
  unfold f340_241 at hf
  refine ev_goto (q_cod qk340 rfl) (by decide) ?_
  exact (f340_2357_ok hf hK)
def f340_239 (Ln : Nat) (xs : Nat → Int32) : m_M Int32 :=
  m_R 0
set_option maxRecDepth 20000 in
theorem f340_239_ok {Ln : Nat} {xs : Nat → Int32} {h : q_H} {o : q_O} {hz : q_H} {x : Int32 × q_H} (hf : f340_239 Ln xs h = some x) (hK : (q_KI o hz) x) : q_Ev (some (Ln, xs)) 340 239 [] [] h o hz := by
  unfold f340_239 at hf
  refine ev_ic (v := 0) (q_cod qk340 rfl) (by decide) (by decide) ?_
  obtain rfl := m_R_inv hf
  obtain ⟨rfl, rfl⟩ := (show q_KI o hz (0, _) from hK)
  exact ev_ret (q_cod qk340 rfl) rfl
def f340_222 (Ln : Nat) (xs : Nat → Int32) : m_M Int32 :=
  m_R 0
set_option maxRecDepth 20000 in
theorem f340_222_ok {Ln : Nat} {xs : Nat → Int32} {h : q_H} {o : q_O} {hz : q_H} {x : Int32 × q_H} (hf : f340_222 Ln xs h = some x) (hK : (q_KI o hz) x) : q_Ev (some (Ln, xs)) 340 222 [] [] h o hz := by
  unfold f340_222 at hf
  refine ev_ic (v := 0) (q_cod qk340 rfl) (by decide) (by decide) ?_
  obtain rfl := m_R_inv hf
  obtain ⟨rfl, rfl⟩ := (show q_KI o hz (0, _) from hK)
  exact ev_ret (q_cod qk340 rfl) rfl
def f340_188 (Ln : Nat) (xs : Nat → Int32) (l1 : Nat) (l2 : Nat) (l3 : Nat) (l4 : Int32) : m_M ((Nat × Nat × Nat × Int32) ⊕ Int32) :=
  m_B (m_G (q_ins (l4 + 1) Ln = true)) (fun _ => m_B (f310 l1 (xs (l4 + 1).toNatClampNeg) l3) (fun v2 => m_B (m_G (q_ins (l4 + 1) Ln = true)) (fun _ => m_B (m_aK l2 12) (fun _ => m_B (f185 l2 (xs (l4 + 1).toNatClampNeg)) (fun v5 => m_B (m_aK l2 12) (fun _ => m_B (f177 l2) (fun v7 => if v7 = v2 then (if v2 = 0 then (m_B (m_lJ l3 0) (fun v8 => if (lg_cmp v8 (v5.toInt64)) = 0 then (f340_241 Ln xs l1 l2 l3 l4) else (m_B (f340_239 Ln xs) (fun r => m_R (.inr r))))) else (f340_241 Ln xs l1 l2 l3 l4)) else (m_B (f340_222 Ln xs) (fun r => m_R (.inr r))))))))))
set_option maxRecDepth 20000 in
theorem f340_188_ok {Ln : Nat} {xs : Nat → Int32} {l1 : Nat} {l2 : Nat} {l3 : Nat} {l4 : Int32} {h : q_H} {o : q_O} {hz : q_H} {x : ((Nat × Nat × Nat × Int32) ⊕ Int32) × q_H} (hf : f340_188 Ln xs l1 l2 l3 l4 h = some x) (hK : (m_yK (fun (s : Nat × Nat × Nat × Int32) (h : q_H) => q_Ev (some (Ln, xs)) 340 23 [(0, .ref q_SC), (1, .ref (s.1)), (2, .ref (s.2.1)), (3, .ref (s.2.2.1)), (4, .int (s.2.2.2))] [] h o hz) (q_KI o hz)) x) : q_Ev (some (Ln, xs)) 340 188 [(0, .ref q_SC), (1, .ref l1), (2, .ref l2), (3, .ref l3), (4, .int l4)] [] h o hz := by
  unfold f340_188 at hf
  refine ev_aload_n (q_cod qk340 rfl) (by decide) rfl ?_
  refine ev_aload_n (q_cod qk340 rfl) (by decide) rfl ?_
  refine ev_iload (q_cod qk340 rfl) (by decide) rfl ?_
  refine ev_ic (v := 1) (q_cod qk340 rfl) (by decide) (by decide) ?_
  refine ev_iadd (q_cod qk340 rfl) (by decide) ?_
  refine em_sald (q_cod qk340 rfl) (by decide) hf (fun hf => ?_)
  refine ev_aload_n (q_cod qk340 rfl) (by decide) rfl ?_
  refine em_call (v := (fun u => some (.int u))) (q_cod qk340 rfl) rfl rfl (q_cokS rfl rfl) rfl (fun x e => f310_cl e) hf (fun v2 h hf => ?_)
  refine ev_is2 (L' := [(0, .ref q_SC), (1, .ref l1), (2, .ref l2), (3, .ref l3), (4, .int l4), (5, .int v2)]) (q_cod qk340 rfl) (by decide) rfl ?_
  refine ev_aload_n (q_cod qk340 rfl) (by decide) rfl ?_
  refine ev_aload_n (q_cod qk340 rfl) (by decide) rfl ?_
  refine ev_iload (q_cod qk340 rfl) (by decide) rfl ?_
  refine ev_ic (v := 1) (q_cod qk340 rfl) (by decide) (by decide) ?_
  refine ev_iadd (q_cod qk340 rfl) (by decide) ?_
  refine em_sald (q_cod qk340 rfl) (by decide) hf (fun hf => ?_)
  obtain ⟨g4, hf⟩ := m_aK_some hf
  refine em_call (v := (fun u => some (.int u))) (q_cod qk340 rfl) rfl rfl (q_cokV rfl rfl (Or.inr g4)) rfl (fun x e => f185_cl e) hf (fun v5 h hf => ?_)
  refine ev_is2 (L' := [(0, .ref q_SC), (1, .ref l1), (2, .ref l2), (3, .ref l3), (4, .int l4), (5, .int v2), (6, .int v5)]) (q_cod qk340 rfl) (by decide) rfl ?_
  refine ev_aload_n (q_cod qk340 rfl) (by decide) rfl ?_
  obtain ⟨g6, hf⟩ := m_aK_some hf
  refine em_call (v := (fun u => some (.int u))) (q_cod qk340 rfl) rfl rfl (q_cokV rfl rfl (Or.inr g6)) rfl (fun x e => f177_cl e) hf (fun v7 h hf => ?_)
  refine ev_iload (q_cod qk340 rfl) (by decide) rfl ?_
  refine em_ic_eq (q_cod qk340 rfl) (by decide) hf (fun c11 hf => ?_) (fun c11 hf => ?_)
  · refine ev_iload (q_cod qk340 rfl) (by decide) rfl ?_
    refine em_if_ne (q_cod qk340 rfl) (by decide) hf (fun c10 hf => ?_) (fun c10 hf => ?_)
    · refine ev_aload_n (q_cod qk340 rfl) (by decide) rfl ?_
      refine ev_ic (v := 0) (q_cod qk340 rfl) (by decide) (by decide) ?_
      refine em_lJ (q_cod qk340 rfl) (by decide) hf (fun v8 hf => ?_)
      refine ev_iload (q_cod qk340 rfl) (by decide) rfl ?_
      refine ev_i2l (q_cod qk340 rfl) (by decide) ?_
      refine ev_lcmp (q_cod qk340 rfl) (by decide) ?_
      refine em_if_eq (q_cod qk340 rfl) (by decide) hf (fun c9 hf => ?_) (fun c9 hf => ?_)
      · exact ev_weak (q_pk [0, 1, 2, 3, 4] rfl) (f340_241_ok hf hK)
      · obtain ⟨y0, hf0, hx⟩ := m_inr_some hf
        subst hx
        exact ev_weak (q_pk [] rfl) (f340_239_ok hf0 hK)
    · exact ev_weak (q_pk [0, 1, 2, 3, 4] rfl) (f340_241_ok hf hK)
  · obtain ⟨y0, hf0, hx⟩ := m_inr_some hf
    subst hx
    exact ev_weak (q_pk [] rfl) (f340_222_ok hf0 hK)
def f340_297 (Ln : Nat) (xs : Nat → Int32) (l1 : Nat) (l2 : Nat) (l3 : Nat) (l4 : Int32) : m_M ((Nat × Nat × Nat × Int32) ⊕ Int32) :=
  f340_2357 Ln xs l1 l2 l3 l4
set_option maxRecDepth 20000 in
theorem f340_297_ok {Ln : Nat} {xs : Nat → Int32} {l1 : Nat} {l2 : Nat} {l3 : Nat} {l4 : Int32} {h : q_H} {o : q_O} {hz : q_H} {x : ((Nat × Nat × Nat × Int32) ⊕ Int32) × q_H} (hf : f340_297 Ln xs l1 l2 l3 l4 h = some x) (hK : (m_yK (fun (s : Nat × Nat × Nat × Int32) (h : q_H) => q_Ev (some (Ln, xs)) 340 23 [(0, .ref q_SC), (1, .ref (s.1)), (2, .ref (s.2.1)), (3, .ref (s.2.2.1)), (4, .int (s.2.2.2))] [] h o hz) (q_KI o hz)) x) : q_Ev (some (Ln, xs)) 340 297 [(0, .ref q_SC), (1, .ref l1), (2, .ref l2), (3, .ref l3), (4, .int l4)] [] h o hz := by
  unfold f340_297 at hf
  refine ev_goto (q_cod qk340 rfl) (by decide) ?_
  exact (f340_2357_ok hf hK)
def f340_295 (Ln : Nat) (xs : Nat → Int32) : m_M Int32 :=
  m_R 0
set_option maxRecDepth 20000 in
theorem f340_295_ok {Ln : Nat} {xs : Nat → Int32} {h : q_H} {o : q_O} {hz : q_H} {x : Int32 × q_H} (hf : f340_295 Ln xs h = some x) (hK : (q_KI o hz) x) : q_Ev (some (Ln, xs)) 340 295 [] [] h o hz := by
  unfold f340_295 at hf
  refine ev_ic (v := 0) (q_cod qk340 rfl) (by decide) (by decide) ?_
  obtain rfl := m_R_inv hf
  obtain ⟨rfl, rfl⟩ := (show q_KI o hz (0, _) from hK)
  exact ev_ret (q_cod qk340 rfl) rfl
def f340_278 (Ln : Nat) (xs : Nat → Int32) : m_M Int32 :=
  m_R 0
set_option maxRecDepth 20000 in
theorem f340_278_ok {Ln : Nat} {xs : Nat → Int32} {h : q_H} {o : q_O} {hz : q_H} {x : Int32 × q_H} (hf : f340_278 Ln xs h = some x) (hK : (q_KI o hz) x) : q_Ev (some (Ln, xs)) 340 278 [] [] h o hz := by
  unfold f340_278 at hf
  refine ev_ic (v := 0) (q_cod qk340 rfl) (by decide) (by decide) ?_
  obtain rfl := m_R_inv hf
  obtain ⟨rfl, rfl⟩ := (show q_KI o hz (0, _) from hK)
  exact ev_ret (q_cod qk340 rfl) rfl
def f340_244 (Ln : Nat) (xs : Nat → Int32) (l1 : Nat) (l2 : Nat) (l3 : Nat) (l4 : Int32) : m_M ((Nat × Nat × Nat × Int32) ⊕ Int32) :=
  m_B (m_G (q_ins (l4 + 1) Ln = true)) (fun _ => m_B (f311 l1 (xs (l4 + 1).toNatClampNeg) l3) (fun v2 => m_B (m_G (q_ins (l4 + 1) Ln = true)) (fun _ => m_B (m_aK l2 12) (fun _ => m_B (f186 l2 (xs (l4 + 1).toNatClampNeg)) (fun v5 => m_B (m_aK l2 12) (fun _ => m_B (f177 l2) (fun v7 => if v7 = v2 then (if v2 = 0 then (m_B (m_lJ l3 0) (fun v8 => if (lg_cmp v8 (v5.toInt64)) = 0 then (f340_297 Ln xs l1 l2 l3 l4) else (m_B (f340_295 Ln xs) (fun r => m_R (.inr r))))) else (f340_297 Ln xs l1 l2 l3 l4)) else (m_B (f340_278 Ln xs) (fun r => m_R (.inr r))))))))))
set_option maxRecDepth 20000 in
theorem f340_244_ok {Ln : Nat} {xs : Nat → Int32} {l1 : Nat} {l2 : Nat} {l3 : Nat} {l4 : Int32} {h : q_H} {o : q_O} {hz : q_H} {x : ((Nat × Nat × Nat × Int32) ⊕ Int32) × q_H} (hf : f340_244 Ln xs l1 l2 l3 l4 h = some x) (hK : (m_yK (fun (s : Nat × Nat × Nat × Int32) (h : q_H) => q_Ev (some (Ln, xs)) 340 23 [(0, .ref q_SC), (1, .ref (s.1)), (2, .ref (s.2.1)), (3, .ref (s.2.2.1)), (4, .int (s.2.2.2))] [] h o hz) (q_KI o hz)) x) : q_Ev (some (Ln, xs)) 340 244 [(0, .ref q_SC), (1, .ref l1), (2, .ref l2), (3, .ref l3), (4, .int l4)] [] h o hz := by
  unfold f340_244 at hf
  refine ev_aload_n (q_cod qk340 rfl) (by decide) rfl ?_
  refine ev_aload_n (q_cod qk340 rfl) (by decide) rfl ?_
  refine ev_iload (q_cod qk340 rfl) (by decide) rfl ?_
  refine ev_ic (v := 1) (q_cod qk340 rfl) (by decide) (by decide) ?_
  refine ev_iadd (q_cod qk340 rfl) (by decide) ?_
  refine em_sald (q_cod qk340 rfl) (by decide) hf (fun hf => ?_)
  refine ev_aload_n (q_cod qk340 rfl) (by decide) rfl ?_
  refine em_call (v := (fun u => some (.int u))) (q_cod qk340 rfl) rfl rfl (q_cokS rfl rfl) rfl (fun x e => f311_cl e) hf (fun v2 h hf => ?_)
  refine ev_is2 (L' := [(0, .ref q_SC), (1, .ref l1), (2, .ref l2), (3, .ref l3), (4, .int l4), (5, .int v2)]) (q_cod qk340 rfl) (by decide) rfl ?_
  refine ev_aload_n (q_cod qk340 rfl) (by decide) rfl ?_
  refine ev_aload_n (q_cod qk340 rfl) (by decide) rfl ?_
  refine ev_iload (q_cod qk340 rfl) (by decide) rfl ?_
  refine ev_ic (v := 1) (q_cod qk340 rfl) (by decide) (by decide) ?_
  refine ev_iadd (q_cod qk340 rfl) (by decide) ?_
  refine em_sald (q_cod qk340 rfl) (by decide) hf (fun hf => ?_)
  obtain ⟨g4, hf⟩ := m_aK_some hf
  refine em_call (v := (fun u => some (.int u))) (q_cod qk340 rfl) rfl rfl (q_cokV rfl rfl (Or.inr g4)) rfl (fun x e => f186_cl e) hf (fun v5 h hf => ?_)
  refine ev_is2 (L' := [(0, .ref q_SC), (1, .ref l1), (2, .ref l2), (3, .ref l3), (4, .int l4), (5, .int v2), (6, .int v5)]) (q_cod qk340 rfl) (by decide) rfl ?_
  refine ev_aload_n (q_cod qk340 rfl) (by decide) rfl ?_
  obtain ⟨g6, hf⟩ := m_aK_some hf
  refine em_call (v := (fun u => some (.int u))) (q_cod qk340 rfl) rfl rfl (q_cokV rfl rfl (Or.inr g6)) rfl (fun x e => f177_cl e) hf (fun v7 h hf => ?_)
  refine ev_iload (q_cod qk340 rfl) (by decide) rfl ?_
  refine em_ic_eq (q_cod qk340 rfl) (by decide) hf (fun c11 hf => ?_) (fun c11 hf => ?_)
  · refine ev_iload (q_cod qk340 rfl) (by decide) rfl ?_
    refine em_if_ne (q_cod qk340 rfl) (by decide) hf (fun c10 hf => ?_) (fun c10 hf => ?_)
    · refine ev_aload_n (q_cod qk340 rfl) (by decide) rfl ?_
      refine ev_ic (v := 0) (q_cod qk340 rfl) (by decide) (by decide) ?_
      refine em_lJ (q_cod qk340 rfl) (by decide) hf (fun v8 hf => ?_)
      refine ev_iload (q_cod qk340 rfl) (by decide) rfl ?_
      refine ev_i2l (q_cod qk340 rfl) (by decide) ?_
      refine ev_lcmp (q_cod qk340 rfl) (by decide) ?_
      refine em_if_eq (q_cod qk340 rfl) (by decide) hf (fun c9 hf => ?_) (fun c9 hf => ?_)
      · exact ev_weak (q_pk [0, 1, 2, 3, 4] rfl) (f340_297_ok hf hK)
      · obtain ⟨y0, hf0, hx⟩ := m_inr_some hf
        subst hx
        exact ev_weak (q_pk [] rfl) (f340_295_ok hf0 hK)
    · exact ev_weak (q_pk [0, 1, 2, 3, 4] rfl) (f340_297_ok hf hK)
  · obtain ⟨y0, hf0, hx⟩ := m_inr_some hf
    subst hx
    exact ev_weak (q_pk [] rfl) (f340_278_ok hf0 hK)
def f340_341 (Ln : Nat) (xs : Nat → Int32) (l1 : Nat) (l2 : Nat) (l3 : Nat) (l4 : Int32) : m_M ((Nat × Nat × Nat × Int32) ⊕ Int32) :=
  f340_2357 Ln xs l1 l2 l3 l4
set_option maxRecDepth 20000 in
theorem f340_341_ok {Ln : Nat} {xs : Nat → Int32} {l1 : Nat} {l2 : Nat} {l3 : Nat} {l4 : Int32} {h : q_H} {o : q_O} {hz : q_H} {x : ((Nat × Nat × Nat × Int32) ⊕ Int32) × q_H} (hf : f340_341 Ln xs l1 l2 l3 l4 h = some x) (hK : (m_yK (fun (s : Nat × Nat × Nat × Int32) (h : q_H) => q_Ev (some (Ln, xs)) 340 23 [(0, .ref q_SC), (1, .ref (s.1)), (2, .ref (s.2.1)), (3, .ref (s.2.2.1)), (4, .int (s.2.2.2))] [] h o hz) (q_KI o hz)) x) : q_Ev (some (Ln, xs)) 340 341 [(0, .ref q_SC), (1, .ref l1), (2, .ref l2), (3, .ref l3), (4, .int l4)] [] h o hz := by
  unfold f340_341 at hf
  refine ev_goto (q_cod qk340 rfl) (by decide) ?_
  exact (f340_2357_ok hf hK)
def f340_339 (Ln : Nat) (xs : Nat → Int32) : m_M Int32 :=
  m_R 0
set_option maxRecDepth 20000 in
theorem f340_339_ok {Ln : Nat} {xs : Nat → Int32} {h : q_H} {o : q_O} {hz : q_H} {x : Int32 × q_H} (hf : f340_339 Ln xs h = some x) (hK : (q_KI o hz) x) : q_Ev (some (Ln, xs)) 340 339 [] [] h o hz := by
  unfold f340_339 at hf
  refine ev_ic (v := 0) (q_cod qk340 rfl) (by decide) (by decide) ?_
  obtain rfl := m_R_inv hf
  obtain ⟨rfl, rfl⟩ := (show q_KI o hz (0, _) from hK)
  exact ev_ret (q_cod qk340 rfl) rfl
def f340_322 (Ln : Nat) (xs : Nat → Int32) : m_M Int32 :=
  m_R 0
set_option maxRecDepth 20000 in
theorem f340_322_ok {Ln : Nat} {xs : Nat → Int32} {h : q_H} {o : q_O} {hz : q_H} {x : Int32 × q_H} (hf : f340_322 Ln xs h = some x) (hK : (q_KI o hz) x) : q_Ev (some (Ln, xs)) 340 322 [] [] h o hz := by
  unfold f340_322 at hf
  refine ev_ic (v := 0) (q_cod qk340 rfl) (by decide) (by decide) ?_
  obtain rfl := m_R_inv hf
  obtain ⟨rfl, rfl⟩ := (show q_KI o hz (0, _) from hK)
  exact ev_ret (q_cod qk340 rfl) rfl
def f340_300 (Ln : Nat) (xs : Nat → Int32) (l1 : Nat) (l2 : Nat) (l3 : Nat) (l4 : Int32) : m_M ((Nat × Nat × Nat × Int32) ⊕ Int32) :=
  m_B (f312 l1 l3) (fun v1 => m_B (m_aK l2 12) (fun _ => m_B (f187 l2) (fun v3 => m_B (m_aK l2 12) (fun _ => m_B (f177 l2) (fun v5 => if v5 = v1 then (if v1 = 0 then (m_B (m_lJ l3 0) (fun v6 => if (lg_cmp v6 (v3.toInt64)) = 0 then (f340_341 Ln xs l1 l2 l3 l4) else (m_B (f340_339 Ln xs) (fun r => m_R (.inr r))))) else (f340_341 Ln xs l1 l2 l3 l4)) else (m_B (f340_322 Ln xs) (fun r => m_R (.inr r))))))))
set_option maxRecDepth 20000 in
theorem f340_300_ok {Ln : Nat} {xs : Nat → Int32} {l1 : Nat} {l2 : Nat} {l3 : Nat} {l4 : Int32} {h : q_H} {o : q_O} {hz : q_H} {x : ((Nat × Nat × Nat × Int32) ⊕ Int32) × q_H} (hf : f340_300 Ln xs l1 l2 l3 l4 h = some x) (hK : (m_yK (fun (s : Nat × Nat × Nat × Int32) (h : q_H) => q_Ev (some (Ln, xs)) 340 23 [(0, .ref q_SC), (1, .ref (s.1)), (2, .ref (s.2.1)), (3, .ref (s.2.2.1)), (4, .int (s.2.2.2))] [] h o hz) (q_KI o hz)) x) : q_Ev (some (Ln, xs)) 340 300 [(0, .ref q_SC), (1, .ref l1), (2, .ref l2), (3, .ref l3), (4, .int l4)] [] h o hz := by
  unfold f340_300 at hf
  refine ev_aload_n (q_cod qk340 rfl) (by decide) rfl ?_
  refine ev_aload_n (q_cod qk340 rfl) (by decide) rfl ?_
  refine em_call (v := (fun u => some (.int u))) (q_cod qk340 rfl) rfl rfl (q_cokS rfl rfl) rfl (fun x e => f312_cl e) hf (fun v1 h hf => ?_)
  refine ev_is2 (L' := [(0, .ref q_SC), (1, .ref l1), (2, .ref l2), (3, .ref l3), (4, .int l4), (5, .int v1)]) (q_cod qk340 rfl) (by decide) rfl ?_
  refine ev_aload_n (q_cod qk340 rfl) (by decide) rfl ?_
  obtain ⟨g2, hf⟩ := m_aK_some hf
  refine em_call (v := (fun u => some (.int u))) (q_cod qk340 rfl) rfl rfl (q_cokV rfl rfl (Or.inr g2)) rfl (fun x e => f187_cl e) hf (fun v3 h hf => ?_)
  refine ev_is2 (L' := [(0, .ref q_SC), (1, .ref l1), (2, .ref l2), (3, .ref l3), (4, .int l4), (5, .int v1), (6, .int v3)]) (q_cod qk340 rfl) (by decide) rfl ?_
  refine ev_aload_n (q_cod qk340 rfl) (by decide) rfl ?_
  obtain ⟨g4, hf⟩ := m_aK_some hf
  refine em_call (v := (fun u => some (.int u))) (q_cod qk340 rfl) rfl rfl (q_cokV rfl rfl (Or.inr g4)) rfl (fun x e => f177_cl e) hf (fun v5 h hf => ?_)
  refine ev_iload (q_cod qk340 rfl) (by decide) rfl ?_
  refine em_ic_eq (q_cod qk340 rfl) (by decide) hf (fun c9 hf => ?_) (fun c9 hf => ?_)
  · refine ev_iload (q_cod qk340 rfl) (by decide) rfl ?_
    refine em_if_ne (q_cod qk340 rfl) (by decide) hf (fun c8 hf => ?_) (fun c8 hf => ?_)
    · refine ev_aload_n (q_cod qk340 rfl) (by decide) rfl ?_
      refine ev_ic (v := 0) (q_cod qk340 rfl) (by decide) (by decide) ?_
      refine em_lJ (q_cod qk340 rfl) (by decide) hf (fun v6 hf => ?_)
      refine ev_iload (q_cod qk340 rfl) (by decide) rfl ?_
      refine ev_i2l (q_cod qk340 rfl) (by decide) ?_
      refine ev_lcmp (q_cod qk340 rfl) (by decide) ?_
      refine em_if_eq (q_cod qk340 rfl) (by decide) hf (fun c7 hf => ?_) (fun c7 hf => ?_)
      · exact ev_weak (q_pk [0, 1, 2, 3, 4] rfl) (f340_341_ok hf hK)
      · obtain ⟨y0, hf0, hx⟩ := m_inr_some hf
        subst hx
        exact ev_weak (q_pk [] rfl) (f340_339_ok hf0 hK)
    · exact ev_weak (q_pk [0, 1, 2, 3, 4] rfl) (f340_341_ok hf hK)
  · obtain ⟨y0, hf0, hx⟩ := m_inr_some hf
    subst hx
    exact ev_weak (q_pk [] rfl) (f340_322_ok hf0 hK)
def f340_409 (Ln : Nat) (xs : Nat → Int32) (l1 : Nat) (l2 : Nat) (l3 : Nat) (l4 : Int32) : m_M ((Nat × Nat × Nat × Int32) ⊕ Int32) :=
  f340_2357 Ln xs l1 l2 l3 l4
set_option maxRecDepth 20000 in
theorem f340_409_ok {Ln : Nat} {xs : Nat → Int32} {l1 : Nat} {l2 : Nat} {l3 : Nat} {l4 : Int32} {h : q_H} {o : q_O} {hz : q_H} {x : ((Nat × Nat × Nat × Int32) ⊕ Int32) × q_H} (hf : f340_409 Ln xs l1 l2 l3 l4 h = some x) (hK : (m_yK (fun (s : Nat × Nat × Nat × Int32) (h : q_H) => q_Ev (some (Ln, xs)) 340 23 [(0, .ref q_SC), (1, .ref (s.1)), (2, .ref (s.2.1)), (3, .ref (s.2.2.1)), (4, .int (s.2.2.2))] [] h o hz) (q_KI o hz)) x) : q_Ev (some (Ln, xs)) 340 409 [(0, .ref q_SC), (1, .ref l1), (2, .ref l2), (3, .ref l3), (4, .int l4)] [] h o hz := by
  unfold f340_409 at hf
  refine ev_goto (q_cod qk340 rfl) (by decide) ?_
  exact (f340_2357_ok hf hK)
def f340_407 (Ln : Nat) (xs : Nat → Int32) : m_M Int32 :=
  m_R 0
set_option maxRecDepth 20000 in
theorem f340_407_ok {Ln : Nat} {xs : Nat → Int32} {h : q_H} {o : q_O} {hz : q_H} {x : Int32 × q_H} (hf : f340_407 Ln xs h = some x) (hK : (q_KI o hz) x) : q_Ev (some (Ln, xs)) 340 407 [] [] h o hz := by
  unfold f340_407 at hf
  refine ev_ic (v := 0) (q_cod qk340 rfl) (by decide) (by decide) ?_
  obtain rfl := m_R_inv hf
  obtain ⟨rfl, rfl⟩ := (show q_KI o hz (0, _) from hK)
  exact ev_ret (q_cod qk340 rfl) rfl
def f340_390 (Ln : Nat) (xs : Nat → Int32) : m_M Int32 :=
  m_R 0
set_option maxRecDepth 20000 in
theorem f340_390_ok {Ln : Nat} {xs : Nat → Int32} {h : q_H} {o : q_O} {hz : q_H} {x : Int32 × q_H} (hf : f340_390 Ln xs h = some x) (hK : (q_KI o hz) x) : q_Ev (some (Ln, xs)) 340 390 [] [] h o hz := by
  unfold f340_390 at hf
  refine ev_ic (v := 0) (q_cod qk340 rfl) (by decide) (by decide) ?_
  obtain rfl := m_R_inv hf
  obtain ⟨rfl, rfl⟩ := (show q_KI o hz (0, _) from hK)
  exact ev_ret (q_cod qk340 rfl) rfl
def f340_344 (Ln : Nat) (xs : Nat → Int32) (l1 : Nat) (l2 : Nat) (l3 : Nat) (l4 : Int32) : m_M ((Nat × Nat × Nat × Int32) ⊕ Int32) :=
  m_B (m_G (q_ins (l4 + 1) Ln = true)) (fun _ => m_B (m_G (q_ins (l4 + 2) Ln = true)) (fun _ => m_B (f313 l1 (xs (l4 + 1).toNatClampNeg) (xs (l4 + 2).toNatClampNeg) l3) (fun v3 => m_B (m_G (q_ins (l4 + 1) Ln = true)) (fun _ => m_B (m_G (q_ins (l4 + 2) Ln = true)) (fun _ => m_B (m_aK l2 12) (fun _ => m_B (f188 l2 (xs (l4 + 1).toNatClampNeg) (xs (l4 + 2).toNatClampNeg)) (fun v7 => m_B (m_aK l2 12) (fun _ => m_B (f177 l2) (fun v9 => if v9 = v3 then (if v3 = 0 then (m_B (m_lJ l3 0) (fun v10 => if (lg_cmp v10 (v7.toInt64)) = 0 then (f340_409 Ln xs l1 l2 l3 l4) else (m_B (f340_407 Ln xs) (fun r => m_R (.inr r))))) else (f340_409 Ln xs l1 l2 l3 l4)) else (m_B (f340_390 Ln xs) (fun r => m_R (.inr r))))))))))))
set_option maxRecDepth 20000 in
theorem f340_344_ok {Ln : Nat} {xs : Nat → Int32} {l1 : Nat} {l2 : Nat} {l3 : Nat} {l4 : Int32} {h : q_H} {o : q_O} {hz : q_H} {x : ((Nat × Nat × Nat × Int32) ⊕ Int32) × q_H} (hf : f340_344 Ln xs l1 l2 l3 l4 h = some x) (hK : (m_yK (fun (s : Nat × Nat × Nat × Int32) (h : q_H) => q_Ev (some (Ln, xs)) 340 23 [(0, .ref q_SC), (1, .ref (s.1)), (2, .ref (s.2.1)), (3, .ref (s.2.2.1)), (4, .int (s.2.2.2))] [] h o hz) (q_KI o hz)) x) : q_Ev (some (Ln, xs)) 340 344 [(0, .ref q_SC), (1, .ref l1), (2, .ref l2), (3, .ref l3), (4, .int l4)] [] h o hz := by
  unfold f340_344 at hf
  refine ev_aload_n (q_cod qk340 rfl) (by decide) rfl ?_
  refine ev_aload_n (q_cod qk340 rfl) (by decide) rfl ?_
  refine ev_iload (q_cod qk340 rfl) (by decide) rfl ?_
  refine ev_ic (v := 1) (q_cod qk340 rfl) (by decide) (by decide) ?_
  refine ev_iadd (q_cod qk340 rfl) (by decide) ?_
  refine em_sald (q_cod qk340 rfl) (by decide) hf (fun hf => ?_)
  refine ev_aload_n (q_cod qk340 rfl) (by decide) rfl ?_
  refine ev_iload (q_cod qk340 rfl) (by decide) rfl ?_
  refine ev_ic (v := 2) (q_cod qk340 rfl) (by decide) (by decide) ?_
  refine ev_iadd (q_cod qk340 rfl) (by decide) ?_
  refine em_sald (q_cod qk340 rfl) (by decide) hf (fun hf => ?_)
  refine ev_aload_n (q_cod qk340 rfl) (by decide) rfl ?_
  refine em_call (v := (fun u => some (.int u))) (q_cod qk340 rfl) rfl rfl (q_cokS rfl rfl) rfl (fun x e => f313_cl e) hf (fun v3 h hf => ?_)
  refine ev_is2 (L' := [(0, .ref q_SC), (1, .ref l1), (2, .ref l2), (3, .ref l3), (4, .int l4), (5, .int v3)]) (q_cod qk340 rfl) (by decide) rfl ?_
  refine ev_aload_n (q_cod qk340 rfl) (by decide) rfl ?_
  refine ev_aload_n (q_cod qk340 rfl) (by decide) rfl ?_
  refine ev_iload (q_cod qk340 rfl) (by decide) rfl ?_
  refine ev_ic (v := 1) (q_cod qk340 rfl) (by decide) (by decide) ?_
  refine ev_iadd (q_cod qk340 rfl) (by decide) ?_
  refine em_sald (q_cod qk340 rfl) (by decide) hf (fun hf => ?_)
  refine ev_aload_n (q_cod qk340 rfl) (by decide) rfl ?_
  refine ev_iload (q_cod qk340 rfl) (by decide) rfl ?_
  refine ev_ic (v := 2) (q_cod qk340 rfl) (by decide) (by decide) ?_
  refine ev_iadd (q_cod qk340 rfl) (by decide) ?_
  refine em_sald (q_cod qk340 rfl) (by decide) hf (fun hf => ?_)
  obtain ⟨g6, hf⟩ := m_aK_some hf
  refine em_call (v := (fun u => some (.int u))) (q_cod qk340 rfl) rfl rfl (q_cokV rfl rfl (Or.inr g6)) rfl (fun x e => f188_cl e) hf (fun v7 h hf => ?_)
  refine ev_is2 (L' := [(0, .ref q_SC), (1, .ref l1), (2, .ref l2), (3, .ref l3), (4, .int l4), (5, .int v3), (6, .int v7)]) (q_cod qk340 rfl) (by decide) rfl ?_
  refine ev_aload_n (q_cod qk340 rfl) (by decide) rfl ?_
  obtain ⟨g8, hf⟩ := m_aK_some hf
  refine em_call (v := (fun u => some (.int u))) (q_cod qk340 rfl) rfl rfl (q_cokV rfl rfl (Or.inr g8)) rfl (fun x e => f177_cl e) hf (fun v9 h hf => ?_)
  refine ev_iload (q_cod qk340 rfl) (by decide) rfl ?_
  refine em_ic_eq (q_cod qk340 rfl) (by decide) hf (fun c13 hf => ?_) (fun c13 hf => ?_)
  · refine ev_iload (q_cod qk340 rfl) (by decide) rfl ?_
    refine em_if_ne (q_cod qk340 rfl) (by decide) hf (fun c12 hf => ?_) (fun c12 hf => ?_)
    · refine ev_aload_n (q_cod qk340 rfl) (by decide) rfl ?_
      refine ev_ic (v := 0) (q_cod qk340 rfl) (by decide) (by decide) ?_
      refine em_lJ (q_cod qk340 rfl) (by decide) hf (fun v10 hf => ?_)
      refine ev_iload (q_cod qk340 rfl) (by decide) rfl ?_
      refine ev_i2l (q_cod qk340 rfl) (by decide) ?_
      refine ev_lcmp (q_cod qk340 rfl) (by decide) ?_
      refine em_if_eq (q_cod qk340 rfl) (by decide) hf (fun c11 hf => ?_) (fun c11 hf => ?_)
      · exact ev_weak (q_pk [0, 1, 2, 3, 4] rfl) (f340_409_ok hf hK)
      · obtain ⟨y0, hf0, hx⟩ := m_inr_some hf
        subst hx
        exact ev_weak (q_pk [] rfl) (f340_407_ok hf0 hK)
    · exact ev_weak (q_pk [0, 1, 2, 3, 4] rfl) (f340_409_ok hf hK)
  · obtain ⟨y0, hf0, hx⟩ := m_inr_some hf
    subst hx
    exact ev_weak (q_pk [] rfl) (f340_390_ok hf0 hK)
def f340_489 (Ln : Nat) (xs : Nat → Int32) (l1 : Nat) (l2 : Nat) (l3 : Nat) (l4 : Int32) : m_M ((Nat × Nat × Nat × Int32) ⊕ Int32) :=
  f340_2357 Ln xs l1 l2 l3 l4
set_option maxRecDepth 20000 in
theorem f340_489_ok {Ln : Nat} {xs : Nat → Int32} {l1 : Nat} {l2 : Nat} {l3 : Nat} {l4 : Int32} {h : q_H} {o : q_O} {hz : q_H} {x : ((Nat × Nat × Nat × Int32) ⊕ Int32) × q_H} (hf : f340_489 Ln xs l1 l2 l3 l4 h = some x) (hK : (m_yK (fun (s : Nat × Nat × Nat × Int32) (h : q_H) => q_Ev (some (Ln, xs)) 340 23 [(0, .ref q_SC), (1, .ref (s.1)), (2, .ref (s.2.1)), (3, .ref (s.2.2.1)), (4, .int (s.2.2.2))] [] h o hz) (q_KI o hz)) x) : q_Ev (some (Ln, xs)) 340 489 [(0, .ref q_SC), (1, .ref l1), (2, .ref l2), (3, .ref l3), (4, .int l4)] [] h o hz := by
  unfold f340_489 at hf
  refine ev_goto (q_cod qk340 rfl) (by decide) ?_
  exact (f340_2357_ok hf hK)
def f340_487 (Ln : Nat) (xs : Nat → Int32) : m_M Int32 :=
  m_R 0
set_option maxRecDepth 20000 in
theorem f340_487_ok {Ln : Nat} {xs : Nat → Int32} {h : q_H} {o : q_O} {hz : q_H} {x : Int32 × q_H} (hf : f340_487 Ln xs h = some x) (hK : (q_KI o hz) x) : q_Ev (some (Ln, xs)) 340 487 [] [] h o hz := by
  unfold f340_487 at hf
  refine ev_ic (v := 0) (q_cod qk340 rfl) (by decide) (by decide) ?_
  obtain rfl := m_R_inv hf
  obtain ⟨rfl, rfl⟩ := (show q_KI o hz (0, _) from hK)
  exact ev_ret (q_cod qk340 rfl) rfl
def f340_470 (Ln : Nat) (xs : Nat → Int32) : m_M Int32 :=
  m_R 0
set_option maxRecDepth 20000 in
theorem f340_470_ok {Ln : Nat} {xs : Nat → Int32} {h : q_H} {o : q_O} {hz : q_H} {x : Int32 × q_H} (hf : f340_470 Ln xs h = some x) (hK : (q_KI o hz) x) : q_Ev (some (Ln, xs)) 340 470 [] [] h o hz := by
  unfold f340_470 at hf
  refine ev_ic (v := 0) (q_cod qk340 rfl) (by decide) (by decide) ?_
  obtain rfl := m_R_inv hf
  obtain ⟨rfl, rfl⟩ := (show q_KI o hz (0, _) from hK)
  exact ev_ret (q_cod qk340 rfl) rfl
def f340_412 (Ln : Nat) (xs : Nat → Int32) (l1 : Nat) (l2 : Nat) (l3 : Nat) (l4 : Int32) : m_M ((Nat × Nat × Nat × Int32) ⊕ Int32) :=
  m_B (m_G (q_ins (l4 + 1) Ln = true)) (fun _ => m_B (m_G (q_ins (l4 + 2) Ln = true)) (fun _ => m_B (m_G (q_ins (l4 + 3) Ln = true)) (fun _ => m_B (f314 l1 (xs (l4 + 1).toNatClampNeg) (xs (l4 + 2).toNatClampNeg) (xs (l4 + 3).toNatClampNeg) l3) (fun v4 => m_B (m_G (q_ins (l4 + 1) Ln = true)) (fun _ => m_B (m_G (q_ins (l4 + 2) Ln = true)) (fun _ => m_B (m_G (q_ins (l4 + 3) Ln = true)) (fun _ => m_B (m_aK l2 12) (fun _ => m_B (f189 l2 (xs (l4 + 1).toNatClampNeg) (xs (l4 + 2).toNatClampNeg) (xs (l4 + 3).toNatClampNeg)) (fun v9 => m_B (m_aK l2 12) (fun _ => m_B (f177 l2) (fun v11 => if v11 = v4 then (if v4 = 0 then (m_B (m_lJ l3 0) (fun v12 => if (lg_cmp v12 (v9.toInt64)) = 0 then (f340_489 Ln xs l1 l2 l3 l4) else (m_B (f340_487 Ln xs) (fun r => m_R (.inr r))))) else (f340_489 Ln xs l1 l2 l3 l4)) else (m_B (f340_470 Ln xs) (fun r => m_R (.inr r))))))))))))))
set_option maxRecDepth 20000 in
theorem f340_412_ok {Ln : Nat} {xs : Nat → Int32} {l1 : Nat} {l2 : Nat} {l3 : Nat} {l4 : Int32} {h : q_H} {o : q_O} {hz : q_H} {x : ((Nat × Nat × Nat × Int32) ⊕ Int32) × q_H} (hf : f340_412 Ln xs l1 l2 l3 l4 h = some x) (hK : (m_yK (fun (s : Nat × Nat × Nat × Int32) (h : q_H) => q_Ev (some (Ln, xs)) 340 23 [(0, .ref q_SC), (1, .ref (s.1)), (2, .ref (s.2.1)), (3, .ref (s.2.2.1)), (4, .int (s.2.2.2))] [] h o hz) (q_KI o hz)) x) : q_Ev (some (Ln, xs)) 340 412 [(0, .ref q_SC), (1, .ref l1), (2, .ref l2), (3, .ref l3), (4, .int l4)] [] h o hz := by
  unfold f340_412 at hf
  refine ev_aload_n (q_cod qk340 rfl) (by decide) rfl ?_
  refine ev_aload_n (q_cod qk340 rfl) (by decide) rfl ?_
  refine ev_iload (q_cod qk340 rfl) (by decide) rfl ?_
  refine ev_ic (v := 1) (q_cod qk340 rfl) (by decide) (by decide) ?_
  refine ev_iadd (q_cod qk340 rfl) (by decide) ?_
  refine em_sald (q_cod qk340 rfl) (by decide) hf (fun hf => ?_)
  refine ev_aload_n (q_cod qk340 rfl) (by decide) rfl ?_
  refine ev_iload (q_cod qk340 rfl) (by decide) rfl ?_
  refine ev_ic (v := 2) (q_cod qk340 rfl) (by decide) (by decide) ?_
  refine ev_iadd (q_cod qk340 rfl) (by decide) ?_
  refine em_sald (q_cod qk340 rfl) (by decide) hf (fun hf => ?_)
  refine ev_aload_n (q_cod qk340 rfl) (by decide) rfl ?_
  refine ev_iload (q_cod qk340 rfl) (by decide) rfl ?_
  refine ev_ic (v := 3) (q_cod qk340 rfl) (by decide) (by decide) ?_
  refine ev_iadd (q_cod qk340 rfl) (by decide) ?_
  refine em_sald (q_cod qk340 rfl) (by decide) hf (fun hf => ?_)
  refine ev_aload_n (q_cod qk340 rfl) (by decide) rfl ?_
  refine em_call (v := (fun u => some (.int u))) (q_cod qk340 rfl) rfl rfl (q_cokS rfl rfl) rfl (fun x e => f314_cl e) hf (fun v4 h hf => ?_)
  refine ev_is2 (L' := [(0, .ref q_SC), (1, .ref l1), (2, .ref l2), (3, .ref l3), (4, .int l4), (5, .int v4)]) (q_cod qk340 rfl) (by decide) rfl ?_
  refine ev_aload_n (q_cod qk340 rfl) (by decide) rfl ?_
  refine ev_aload_n (q_cod qk340 rfl) (by decide) rfl ?_
  refine ev_iload (q_cod qk340 rfl) (by decide) rfl ?_
  refine ev_ic (v := 1) (q_cod qk340 rfl) (by decide) (by decide) ?_
  refine ev_iadd (q_cod qk340 rfl) (by decide) ?_
  refine em_sald (q_cod qk340 rfl) (by decide) hf (fun hf => ?_)
  refine ev_aload_n (q_cod qk340 rfl) (by decide) rfl ?_
  refine ev_iload (q_cod qk340 rfl) (by decide) rfl ?_
  refine ev_ic (v := 2) (q_cod qk340 rfl) (by decide) (by decide) ?_
  refine ev_iadd (q_cod qk340 rfl) (by decide) ?_
  refine em_sald (q_cod qk340 rfl) (by decide) hf (fun hf => ?_)
  refine ev_aload_n (q_cod qk340 rfl) (by decide) rfl ?_
  refine ev_iload (q_cod qk340 rfl) (by decide) rfl ?_
  refine ev_ic (v := 3) (q_cod qk340 rfl) (by decide) (by decide) ?_
  refine ev_iadd (q_cod qk340 rfl) (by decide) ?_
  refine em_sald (q_cod qk340 rfl) (by decide) hf (fun hf => ?_)
  obtain ⟨g8, hf⟩ := m_aK_some hf
  refine em_call (v := (fun u => some (.int u))) (q_cod qk340 rfl) rfl rfl (q_cokV rfl rfl (Or.inr g8)) rfl (fun x e => f189_cl e) hf (fun v9 h hf => ?_)
  refine ev_is2 (L' := [(0, .ref q_SC), (1, .ref l1), (2, .ref l2), (3, .ref l3), (4, .int l4), (5, .int v4), (6, .int v9)]) (q_cod qk340 rfl) (by decide) rfl ?_
  refine ev_aload_n (q_cod qk340 rfl) (by decide) rfl ?_
  obtain ⟨g10, hf⟩ := m_aK_some hf
  refine em_call (v := (fun u => some (.int u))) (q_cod qk340 rfl) rfl rfl (q_cokV rfl rfl (Or.inr g10)) rfl (fun x e => f177_cl e) hf (fun v11 h hf => ?_)
  refine ev_iload (q_cod qk340 rfl) (by decide) rfl ?_
  refine em_ic_eq (q_cod qk340 rfl) (by decide) hf (fun c15 hf => ?_) (fun c15 hf => ?_)
  · refine ev_iload (q_cod qk340 rfl) (by decide) rfl ?_
    refine em_if_ne (q_cod qk340 rfl) (by decide) hf (fun c14 hf => ?_) (fun c14 hf => ?_)
    · refine ev_aload_n (q_cod qk340 rfl) (by decide) rfl ?_
      refine ev_ic (v := 0) (q_cod qk340 rfl) (by decide) (by decide) ?_
      refine em_lJ (q_cod qk340 rfl) (by decide) hf (fun v12 hf => ?_)
      refine ev_iload (q_cod qk340 rfl) (by decide) rfl ?_
      refine ev_i2l (q_cod qk340 rfl) (by decide) ?_
      refine ev_lcmp (q_cod qk340 rfl) (by decide) ?_
      refine em_if_eq (q_cod qk340 rfl) (by decide) hf (fun c13 hf => ?_) (fun c13 hf => ?_)
      · exact ev_weak (q_pk [0, 1, 2, 3, 4] rfl) (f340_489_ok hf hK)
      · obtain ⟨y0, hf0, hx⟩ := m_inr_some hf
        subst hx
        exact ev_weak (q_pk [] rfl) (f340_487_ok hf0 hK)
    · exact ev_weak (q_pk [0, 1, 2, 3, 4] rfl) (f340_489_ok hf hK)
  · obtain ⟨y0, hf0, hx⟩ := m_inr_some hf
    subst hx
    exact ev_weak (q_pk [] rfl) (f340_470_ok hf0 hK)
