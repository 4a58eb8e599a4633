/-! SmithyBench.wrong()I -/
theorem qk138 : q_cs.getD 138 [] = qc_138 := rfl
def f138 (l0 : Nat) : m_M Int32 :=
  m_B (m_gR 11 l0 1) (fun r1 => m_B (m_gR 11 l0 10) (fun r2 => m_B (m_aK r1 1) (fun _ => m_B (f21 r1 r2) (fun v4 => m_B (m_gR 11 l0 10) (fun r5 => m_B (m_gI 7 r5 13) (fun v6 => m_R v6))))))
theorem f138_ok {l0 : Nat} {h : q_H} {o : q_O} {hz : q_H} {x : Int32 × q_H} (hf : f138 l0 h = some x) (hK : (q_KI o hz) x) : q_Ev none 138 0 [(0, .ref l0)] [] h o hz := by
  unfold f138 at hf
  refine ev_aload_n (q_cod qk138 rfl) (by decide) rfl ?_
  refine em_gR (q_cod qk138 rfl) (by decide) (by decide) hf (fun r1 hf => ?_)
  refine ev_aload_n (q_cod qk138 rfl) (by decide) rfl ?_
  refine em_gR (q_cod qk138 rfl) (by decide) (by decide) hf (fun r2 hf => ?_)
  obtain ⟨g3, hf⟩ := m_aK_some hf
  refine em_call (v := (fun u => some (.int u))) (q_cod qk138 rfl) rfl rfl (q_cokV rfl rfl (Or.inr g3)) rfl (fun x e => f21_cl e) hf (fun v4 h hf => ?_)
  refine ev_pop (q_cod qk138 rfl) (by decide) rfl ?_
  refine ev_aload_n (q_cod qk138 rfl) (by decide) rfl ?_
  refine em_gR (q_cod qk138 rfl) (by decide) (by decide) hf (fun r5 hf => ?_)
  refine em_gI (q_cod qk138 rfl) (by decide) (by decide) hf (fun v6 hf => ?_)
  obtain rfl := m_R_inv hf
  obtain ⟨rfl, rfl⟩ := (show q_KI o hz (v6, _) from hK)
  exact ev_ret (q_cod qk138 rfl) rfl
theorem f138_cl {l0 : Nat} {h : q_H} {x : Int32 × q_H} (hf : f138 l0 h = some x) : q_Cl 138 [.ref l0] h (.inl (some (.int x.1))) x.2 := q_Cl.of rfl (q_LvS rfl rfl) (f138_ok hf ⟨rfl, rfl⟩)
/-! SmithyBench.requireRight(LSmithyBench$Program;)V -/
theorem qk169 : q_cs.getD 169 [] = qc_169 := rfl
def f169 (l0 : Nat) (l1 : Nat) : m_M (Unit ⊕ Nat) :=
  m_B (m_gR 11 l0 1) (fun r1 => m_B (m_aK r1 1) (fun _ => m_B (f21 r1 l1) (fun v3 => if v3 = 0 then (m_thr 0) else (m_R (.inl ())))))
theorem f169_ok {l0 : Nat} {l1 : Nat} {h : q_H} {o : q_O} {hz : q_H} {x : (Unit ⊕ Nat) × q_H} (hf : f169 l0 l1 h = some x) (hK : (q_KVX o hz) x) : q_Ev none 169 0 [(0, .ref l0), (1, .ref l1)] [] h o hz := by
  unfold f169 at hf
  refine ev_aload_n (q_cod qk169 rfl) (by decide) rfl ?_
  refine em_gR (q_cod qk169 rfl) (by decide) (by decide) hf (fun r1 hf => ?_)
  refine ev_aload_n (q_cod qk169 rfl) (by decide) rfl ?_
  obtain ⟨g2, hf⟩ := m_aK_some hf
  refine em_call (v := (fun u => some (.int u))) (q_cod qk169 rfl) rfl rfl (q_cokV rfl rfl (Or.inr g2)) rfl (fun x e => f21_cl e) hf (fun v3 h hf => ?_)
  refine em_if_ne (q_cod qk169 rfl) (by decide) hf (fun c4 hf => ?_) (fun c4 hf => ?_)
  · cases hf
    obtain ⟨rfl, rfl⟩ := (show q_KVX o hz (.inr 0, q_ex1 _) from hK)
    exact em_throw (q_cod qk169 rfl) (by decide) (by decide) rfl (Nat.le_of_ble_eq_true rfl)
  · obtain rfl := m_R_inv hf
    obtain ⟨rfl, rfl⟩ := (show q_KVX o hz ((.inl ()), _) from hK)
    exact ev_ret (q_cod qk169 rfl) rfl
theorem f169_cl {l0 : Nat} {l1 : Nat} {h : q_H} {x : (Unit ⊕ Nat) × q_H} (hf : f169 l0 l1 h = some x) : q_Cl 169 [.ref l0, .ref l1] h (q_oX (fun _ => none) x.1) x.2 := q_Cl.of rfl (q_LvS rfl rfl) (f169_ok hf ⟨rfl, rfl⟩)
/-! SmithyBench.begin()I -/
theorem qk139 : q_cs.getD 139 [] = qc_139 := rfl
def f139 (l0 : Nat) : m_M (Int32 ⊕ Nat) :=
  m_B (m_gR 11 l0 10) (fun r1 => m_B (m_aK l0 11) (fun _ => m_T (f169 l0 r1) (fun _ => m_B (m_pI 11 l0 13 0) (fun _ => m_B (m_gR 11 l0 8) (fun r5 => m_B (m_gR 11 l0 10) (fun r6 => m_B (m_aK r5 7) (fun _ => m_B (f70 r5 r6) (fun _ => m_B (m_pZ 11 l0 12 1) (fun _ => m_B (m_gR 11 l0 10) (fun r9 => m_B (m_aK r9 7) (fun _ => m_B (f81 r9) (fun v11 => m_R (.inl v11))))))))))) (fun E4 => m_B (m_G (E4 < 3)) (fun _ => m_R (.inr E4)))))
theorem f139_ok {l0 : Nat} {h : q_H} {o : q_O} {hz : q_H} {x : (Int32 ⊕ Nat) × q_H} (hf : f139 l0 h = some x) (hK : (q_KIX o hz) x) : q_Ev none 139 0 [(0, .ref l0)] [] h o hz := by
  unfold f139 at hf
  refine ev_aload_n (q_cod qk139 rfl) (by decide) rfl ?_
  refine ev_aload_n (q_cod qk139 rfl) (by decide) rfl ?_
  refine em_gR (q_cod qk139 rfl) (by decide) (by decide) hf (fun r1 hf => ?_)
  obtain ⟨g2, hf⟩ := m_aK_some hf
  refine em_callX (v := (fun _ => none)) (q_cod qk139 rfl) (by decide) (q_cokV rfl rfl (Or.inr g2)) rfl (fun x e => f169_cl e) rfl hf (fun _ h hf => ?_) (fun E4 h hf => ?_)
  · refine ev_aload_n (q_cod qk139 rfl) (by decide) rfl ?_
    refine ev_ic (v := 0) (q_cod qk139 rfl) (by decide) (by decide) ?_
    refine em_pI (q_cod qk139 rfl) (by decide) (by decide) (by decide) hf (fun hf => ?_)
    refine ev_aload_n (q_cod qk139 rfl) (by decide) rfl ?_
    refine em_gR (q_cod qk139 rfl) (by decide) (by decide) hf (fun r5 hf => ?_)
    refine ev_aload_n (q_cod qk139 rfl) (by decide) rfl ?_
    refine em_gR (q_cod qk139 rfl) (by decide) (by decide) hf (fun r6 hf => ?_)
    obtain ⟨g7, hf⟩ := m_aK_some hf
    refine em_call (v := (fun _ => none)) (q_cod qk139 rfl) rfl rfl (q_cokV rfl rfl (Or.inr g7)) rfl (fun x e => f70_cl e) hf (fun _ h hf => ?_)
    refine ev_aload_n (q_cod qk139 rfl) (by decide) rfl ?_
    refine ev_ic (v := 1) (q_cod qk139 rfl) (by decide) (by decide) ?_
    refine em_pZ (q_cod qk139 rfl) (by decide) (by decide) (by decide) hf (fun hf => ?_)
    refine ev_aload_n (q_cod qk139 rfl) (by decide) rfl ?_
    refine em_gR (q_cod qk139 rfl) (by decide) (by decide) hf (fun r9 hf => ?_)
    obtain ⟨g10, hf⟩ := m_aK_some hf
    refine em_call (v := (fun u => some (.int u))) (q_cod qk139 rfl) rfl rfl (q_cokV rfl rfl (Or.inr g10)) rfl (fun x e => f81_cl e) hf (fun v11 h hf => ?_)
    obtain rfl := m_R_inv hf
    obtain ⟨rfl, rfl⟩ := (show q_KIX o hz ((.inl v11), _) from hK)
    exact ev_ret (q_cod qk139 rfl) rfl
  · obtain ⟨g, hf⟩ := m_G_some hf
    obtain rfl := m_R_inv hf
    exact ⟨g, hK⟩
theorem f139_cl {l0 : Nat} {h : q_H} {x : (Int32 ⊕ Nat) × q_H} (hf : f139 l0 h = some x) : q_Cl 139 [.ref l0] h (q_oX (fun u => some (.int u)) x.1) x.2 := q_Cl.of rfl (q_LvS rfl rfl) (f139_ok hf ⟨rfl, rfl⟩)
/-! SmithyBench.requireMethod(LSmithyBench$Program;I)V -/
theorem qk165 : q_cs.getD 165 [] = qc_165 := rfl
def f165 (l0 : Nat) (l1 : Nat) (l2 : Int32) : m_M (Unit ⊕ Nat) :=
  m_B (m_aK l1 7) (fun _ => m_B (f80 l1 l2) (fun v2 => if v2 = 0 then (m_thr 2) else (m_R (.inl ()))))
theorem f165_ok {l0 : Nat} {l1 : Nat} {l2 : Int32} {h : q_H} {o : q_O} {hz : q_H} {x : (Unit ⊕ Nat) × q_H} (hf : f165 l0 l1 l2 h = some x) (hK : (q_KVX o hz) x) : q_Ev none 165 0 [(0, .ref l0), (1, .ref l1), (2, .int l2)] [] h o hz := by
  unfold f165 at hf
  refine ev_aload_n (q_cod qk165 rfl) (by decide) rfl ?_
  refine ev_iload_n (q_cod qk165 rfl) (by decide) rfl ?_
  obtain ⟨g1, hf⟩ := m_aK_some hf
  refine em_call (v := (fun u => some (.int u))) (q_cod qk165 rfl) rfl rfl (q_cokV rfl rfl (Or.inr g1)) rfl (fun x e => f80_cl e) hf (fun v2 h hf => ?_)
  refine em_if_ne (q_cod qk165 rfl) (by decide) hf (fun c3 hf => ?_) (fun c3 hf => ?_)
  · cases hf
    obtain ⟨rfl, rfl⟩ := (show q_KVX o hz (.inr 2, q_ex1 _) from hK)
    exact em_throw (q_cod qk165 rfl) (by decide) (by decide) rfl (Nat.le_of_ble_eq_true rfl)
  · obtain rfl := m_R_inv hf
    obtain ⟨rfl, rfl⟩ := (show q_KVX o hz ((.inl ()), _) from hK)
    exact ev_ret (q_cod qk165 rfl) rfl
theorem f165_cl {l0 : Nat} {l1 : Nat} {l2 : Int32} {h : q_H} {x : (Unit ⊕ Nat) × q_H} (hf : f165 l0 l1 l2 h = some x) : q_Cl 165 [.ref l0, .ref l1, .int l2] h (q_oX (fun _ => none) x.1) x.2 := q_Cl.of rfl (q_LvS rfl rfl) (f165_ok hf ⟨rfl, rfl⟩)
/-! SmithyBench.requireOtherName(II)V -/
theorem qk161 : q_cs.getD 161 [] = qc_161 := rfl
def f161 (l0 : Nat) (l1 : Int32) (l2 : Int32) : m_M (Unit ⊕ Nat) :=
  m_B (m_aK l0 11) (fun _ => m_T (f160 l0 l1) (fun _ => if l1 = l2 then (m_thr 1) else (m_R (.inl ()))) (fun E3 => m_B (m_G (E3 < 3)) (fun _ => m_R (.inr E3))))
theorem f161_ok {l0 : Nat} {l1 : Int32} {l2 : Int32} {h : q_H} {o : q_O} {hz : q_H} {x : (Unit ⊕ Nat) × q_H} (hf : f161 l0 l1 l2 h = some x) (hK : (q_KVX o hz) x) : q_Ev none 161 0 [(0, .ref l0), (1, .int l1), (2, .int l2)] [] h o hz := by
  unfold f161 at hf
  refine ev_aload_n (q_cod qk161 rfl) (by decide) rfl ?_
  refine ev_iload_n (q_cod qk161 rfl) (by decide) rfl ?_
  obtain ⟨g1, hf⟩ := m_aK_some hf
  refine em_callX (v := (fun _ => none)) (q_cod qk161 rfl) (by decide) (q_cokV rfl rfl (Or.inr g1)) rfl (fun x e => f160_cl e) rfl hf (fun _ h hf => ?_) (fun E3 h hf => ?_)
  · refine ev_iload_n (q_cod qk161 rfl) (by decide) rfl ?_
    refine ev_iload_n (q_cod qk161 rfl) (by decide) rfl ?_
    refine em_ic_ne (q_cod qk161 rfl) (by decide) hf (fun c4 hf => ?_) (fun c4 hf => ?_)
    · cases hf
      obtain ⟨rfl, rfl⟩ := (show q_KVX o hz (.inr 1, q_ex1 _) from hK)
      exact em_throw (q_cod qk161 rfl) (by decide) (by decide) rfl (Nat.le_of_ble_eq_true rfl)
    · obtain rfl := m_R_inv hf
      obtain ⟨rfl, rfl⟩ := (show q_KVX o hz ((.inl ()), _) from hK)
      exact ev_ret (q_cod qk161 rfl) rfl
  · obtain ⟨g, hf⟩ := m_G_some hf
    obtain rfl := m_R_inv hf
    exact ⟨g, hK⟩
theorem f161_cl {l0 : Nat} {l1 : Int32} {l2 : Int32} {h : q_H} {x : (Unit ⊕ Nat) × q_H} (hf : f161 l0 l1 l2 h = some x) : q_Cl 161 [.ref l0, .int l1, .int l2] h (q_oX (fun _ => none) x.1) x.2 := q_Cl.of rfl (q_LvS rfl rfl) (f161_ok hf ⟨rfl, rfl⟩)
/-! SmithyBench.plan()LSmithyBench$Program; -/
theorem qk172 : q_cs.getD 172 [] = qc_172 := rfl
def f172 (l0 : Nat) : m_M Nat :=
  m_B (m_gR 11 l0 11) (fun r1 => m_B (m_gR 11 l0 10) (fun r2 => m_B (m_aK r1 7) (fun _ => m_B (f70 r1 r2) (fun _ => m_B (m_gR 11 l0 11) (fun r5 => m_R r5)))))
theorem f172_ok {l0 : Nat} {h : q_H} {o : q_O} {hz : q_H} {x : Nat × q_H} (hf : f172 l0 h = some x) (hK : (q_KA o hz) x) : q_Ev none 172 0 [(0, .ref l0)] [] h o hz := by
  unfold f172 at hf
  refine ev_aload_n (q_cod qk172 rfl) (by decide) rfl ?_
  refine em_gR (q_cod qk172 rfl) (by decide) (by decide) hf (fun r1 hf => ?_)
  refine ev_aload_n (q_cod qk172 rfl) (by decide) rfl ?_
  refine em_gR (q_cod qk172 rfl) (by decide) (by decide) hf (fun r2 hf => ?_)
  obtain ⟨g3, hf⟩ := m_aK_some hf
  refine em_call (v := (fun _ => none)) (q_cod qk172 rfl) rfl rfl (q_cokV rfl rfl (Or.inr g3)) rfl (fun x e => f70_cl e) hf (fun _ h hf => ?_)
  refine ev_aload_n (q_cod qk172 rfl) (by decide) rfl ?_
  refine em_gR (q_cod qk172 rfl) (by decide) (by decide) hf (fun r5 hf => ?_)
  obtain rfl := m_R_inv hf
  obtain ⟨rfl, rfl⟩ := (show q_KA o hz (r5, _) from hK)
  exact ev_ret (q_cod qk172 rfl) rfl
theorem f172_cl {l0 : Nat} {h : q_H} {x : Nat × q_H} (hf : f172 l0 h = some x) : q_Cl 172 [.ref l0] h (.inl (some (.ref x.1))) x.2 := q_Cl.of rfl (q_LvS rfl rfl) (f172_ok hf ⟨rfl, rfl⟩)
/-! SmithyBench.forgetOldest()V -/
theorem qk174 : q_cs.getD 174 [] = qc_174 := rfl
def f174_35 (l0 : Nat) (l1 : Nat) : m_M Unit :=
  m_B (m_gR 11 l0 9) (fun r1 => m_B (m_wR r1 9 l1) (fun _ => m_B (m_pI 11 l0 13 9) (fun _ => m_R ())))
theorem f174_35_ok {l0 : Nat} {l1 : Nat} {h : q_H} {o : q_O} {hz : q_H} {x : Unit × q_H} (hf : f174_35 l0 l1 h = some x) (hK : (m_KU o hz) x) : q_Ev none 174 35 [(0, .ref l0), (1, .ref l1)] [] h o hz := by
  unfold f174_35 at hf
  refine ev_aload_n (q_cod qk174 rfl) (by decide) rfl ?_
  refine em_gR (q_cod qk174 rfl) (by decide) (by decide) hf (fun r1 hf => ?_)
  refine ev_bi (v := 9) (q_cod qk174 rfl) (by decide) (by decide) ?_
  refine ev_aload_n (q_cod qk174 rfl) (by decide) rfl ?_
  refine em_wR (q_cod qk174 rfl) (by decide) hf (fun hf => ?_)
  refine ev_aload_n (q_cod qk174 rfl) (by decide) rfl ?_
  refine ev_bi (v := 9) (q_cod qk174 rfl) (by decide) (by decide) ?_
  refine em_pI (q_cod qk174 rfl) (by decide) (by decide) (by decide) hf (fun hf => ?_)
  obtain rfl := m_R_inv hf
  obtain ⟨rfl, rfl⟩ := (show m_KU o hz ((), _) from hK)
  exact ev_ret (q_cod qk174 rfl) rfl
def f174_9b (l0 : Nat) (l1 : Nat) (l2 : Int32) : m_M ((Nat × Nat × Int32) ⊕ Unit) :=
  if l2 < 10 then (m_B (m_gR 11 l0 9) (fun r1 => m_B (m_gR 11 l0 9) (fun r2 => m_B (m_lR r2 l2) (fun r3 => m_B (m_wR r1 (l2 - 1) r3) (fun _ => m_R (.inl (l0, l1, (l2 + 1)))))))) else (m_B (f174_35 l0 l1) (fun r => m_R (.inr r)))
theorem f174_9b_ok {l0 : Nat} {l1 : Nat} {l2 : Int32} {h : q_H} {o : q_O} {hz : q_H} {x : ((Nat × Nat × Int32) ⊕ Unit) × q_H} (hf : f174_9b l0 l1 l2 h = some x) (hK : (m_yK (fun (s : Nat × Nat × Int32) (h : q_H) => q_Ev none 174 9 [(0, .ref (s.1)), (1, .ref (s.2.1)), (2, .int (s.2.2))] [] h o hz) (m_KU o hz)) x) : q_Ev none 174 9 [(0, .ref l0), (1, .ref l1), (2, .int l2)] [] h o hz := by
  unfold f174_9b at hf
  refine ev_iload_n (q_cod qk174 rfl) (by decide) rfl ?_
  refine ev_bi (v := 10) (q_cod qk174 rfl) (by decide) (by decide) ?_
  refine em_ic_ge (q_cod qk174 rfl) (by decide) hf (fun c4 hf => ?_) (fun c4 hf => ?_)
  · refine ev_aload_n (q_cod qk174 rfl) (by decide) rfl ?_
    refine em_gR (q_cod qk174 rfl) (by decide) (by decide) hf (fun r1 hf => ?_)
    refine ev_iload_n (q_cod qk174 rfl) (by decide) rfl ?_
    refine ev_ic (v := 1) (q_cod qk174 rfl) (by decide) (by decide) ?_
    refine ev_isub (q_cod qk174 rfl) (by decide) ?_
    refine ev_aload_n (q_cod qk174 rfl) (by decide) rfl ?_
    refine em_gR (q_cod qk174 rfl) (by decide) (by decide) hf (fun r2 hf => ?_)
    refine ev_iload_n (q_cod qk174 rfl) (by decide) rfl ?_
    refine em_lR (q_cod qk174 rfl) (by decide) hf (fun r3 hf => ?_)
    refine em_wR (q_cod qk174 rfl) (by decide) hf (fun hf => ?_)
    refine ev_inc (v := l2 + 1) (L' := [(0, .ref l0), (1, .ref l1), (2, .int (l2 + 1))]) (q_cod qk174 rfl) (by decide) rfl rfl rfl ?_
    refine ev_goto (q_cod qk174 rfl) (by decide) ?_
    obtain rfl := m_R_inv hf
    exact (show q_Ev none 174 9 [(0, .ref l0), (1, .ref l1), (2, .int (l2 + 1))] [] _ o hz from hK)
  · obtain ⟨y0, hf0, hx⟩ := m_inr_some hf
    subst hx
    exact ev_weak (q_pk [0, 1] rfl) (f174_35_ok hf0 hK)
def f174_9 (l0 : Nat) (l1 : Nat) (l2 : Int32) : m_M Unit := m_W (fun s => f174_9b (s.1) (s.2.1) (s.2.2)) 1000000 (l0, l1, l2)
theorem f174_9_ok {l0 : Nat} {l1 : Nat} {l2 : Int32} {h : q_H} {o : q_O} {hz : q_H} {x : Unit × q_H} (hf : f174_9 l0 l1 l2 h = some x) (hK : (m_KU o hz) x) : q_Ev none 174 9 [(0, .ref l0), (1, .ref l1), (2, .int l2)] [] h o hz :=
  m_W_ok (P := (fun (s : Nat × Nat × Int32) (h : q_H) => q_Ev none 174 9 [(0, .ref (s.1)), (1, .ref (s.2.1)), (2, .int (s.2.2))] [] h o hz)) (K := (m_KU o hz)) (fun s h x h1 h2 => f174_9b_ok h1 h2) _ (l0, l1, l2) _ _ hf hK
def f174 (l0 : Nat) : m_M Unit :=
  m_B (m_gR 11 l0 9) (fun r1 => m_B (m_lR r1 0) (fun r2 => f174_9 l0 r2 1))
theorem f174_ok {l0 : Nat} {h : q_H} {o : q_O} {hz : q_H} {x : Unit × q_H} (hf : f174 l0 h = some x) (hK : (m_KU o hz) x) : q_Ev none 174 0 [(0, .ref l0)] [] h o hz := by
  unfold f174 at hf
  refine ev_aload_n (q_cod qk174 rfl) (by decide) rfl ?_
  refine em_gR (q_cod qk174 rfl) (by decide) (by decide) hf (fun r1 hf => ?_)
  refine ev_ic (v := 0) (q_cod qk174 rfl) (by decide) (by decide) ?_
  refine em_lR (q_cod qk174 rfl) (by decide) hf (fun r2 hf => ?_)
  refine ev_as1 (L' := [(0, .ref l0), (1, .ref r2)]) (q_cod qk174 rfl) (by decide) rfl ?_
  refine ev_ic (v := 1) (q_cod qk174 rfl) (by decide) (by decide) ?_
  refine ev_is1 (L' := [(0, .ref l0), (1, .ref r2), (2, .int 1)]) (q_cod qk174 rfl) (by decide) rfl ?_
  exact (f174_9_ok hf hK)
theorem f174_cl {l0 : Nat} {h : q_H} {x : Unit × q_H} (hf : f174 l0 h = some x) : q_Cl 174 [.ref l0] h (.inl none) x.2 := q_Cl.of rfl (q_LvS rfl rfl) (f174_ok hf ⟨rfl, rfl⟩)
/-! SmithyBench.settle(I)I -/
theorem qk173 : q_cs.getD 173 [] = qc_173 := rfl
def f173_19 (l0 : Nat) (l1 : Int32) : m_M Int32 :=
  m_B (m_gR 11 l0 9) (fun r1 => m_B (m_gI 11 l0 13) (fun v2 => m_B (m_lR r1 v2) (fun r3 => m_B (m_gR 11 l0 9) (fun r4 => m_B (m_gI 11 l0 13) (fun v5 => m_B (m_gR 11 l0 10) (fun r6 => m_B (m_wR r4 v5 r6) (fun _ => m_B (m_gI 11 l0 13) (fun v7 => m_B (m_pI 11 l0 13 (v7 + 1)) (fun _ => m_B (m_gR 11 l0 11) (fun r8 => m_B (m_pR 11 l0 10 r8) (fun _ => m_B (m_pR 11 l0 11 r3) (fun _ => m_R l1))))))))))))
theorem f173_19_ok {l0 : Nat} {l1 : Int32} {h : q_H} {o : q_O} {hz : q_H} {x : Int32 × q_H} (hf : f173_19 l0 l1 h = some x) (hK : (q_KI o hz) x) : q_Ev none 173 19 [(0, .ref l0), (1, .int l1)] [] h o hz := by
  unfold f173_19 at hf
  refine ev_aload_n (q_cod qk173 rfl) (by decide) rfl ?_
  refine em_gR (q_cod qk173 rfl) (by decide) (by decide) hf (fun r1 hf => ?_)
  refine ev_aload_n (q_cod qk173 rfl) (by decide) rfl ?_
  refine em_gI (q_cod qk173 rfl) (by decide) (by decide) hf (fun v2 hf => ?_)
  refine em_lR (q_cod qk173 rfl) (by decide) hf (fun r3 hf => ?_)
  refine ev_as1 (L' := [(0, .ref l0), (1, .int l1), (2, .ref r3)]) (q_cod qk173 rfl) (by decide) rfl ?_
  refine ev_aload_n (q_cod qk173 rfl) (by decide) rfl ?_
  refine em_gR (q_cod qk173 rfl) (by decide) (by decide) hf (fun r4 hf => ?_)
  refine ev_aload_n (q_cod qk173 rfl) (by decide) rfl ?_
  refine em_gI (q_cod qk173 rfl) (by decide) (by decide) hf (fun v5 hf => ?_)
  refine ev_aload_n (q_cod qk173 rfl) (by decide) rfl ?_
  refine em_gR (q_cod qk173 rfl) (by decide) (by decide) hf (fun r6 hf => ?_)
  refine em_wR (q_cod qk173 rfl) (by decide) hf (fun hf => ?_)
  refine ev_aload_n (q_cod qk173 rfl) (by decide) rfl ?_
  refine ev_dup (q_cod qk173 rfl) (by decide) rfl ?_
  refine em_gI (q_cod qk173 rfl) (by decide) (by decide) hf (fun v7 hf => ?_)
  refine ev_ic (v := 1) (q_cod qk173 rfl) (by decide) (by decide) ?_
  refine ev_iadd (q_cod qk173 rfl) (by decide) ?_
  refine em_pI (q_cod qk173 rfl) (by decide) (by decide) (by decide) hf (fun hf => ?_)
  refine ev_aload_n (q_cod qk173 rfl) (by decide) rfl ?_
  refine ev_aload_n (q_cod qk173 rfl) (by decide) rfl ?_
  refine em_gR (q_cod qk173 rfl) (by decide) (by decide) hf (fun r8 hf => ?_)
  refine em_pR (q_cod qk173 rfl) (by decide) (by decide) (by decide) hf (fun hf => ?_)
  refine ev_aload_n (q_cod qk173 rfl) (by decide) rfl ?_
  refine ev_aload_n (q_cod qk173 rfl) (by decide) rfl ?_
  refine em_pR (q_cod qk173 rfl) (by decide) (by decide) (by decide) hf (fun hf => ?_)
  refine ev_iload_n (q_cod qk173 rfl) (by decide) rfl ?_
  obtain rfl := m_R_inv hf
  obtain ⟨rfl, rfl⟩ := (show q_KI o hz (l1, _) from hK)
  exact ev_ret (q_cod qk173 rfl) rfl
def f173 (l0 : Nat) (l1 : Int32) : m_M Int32 :=
  if l1 < 0 then (m_R l1) else (m_B (m_gI 11 l0 13) (fun v1 => if v1 = 10 then (m_B (m_aK l0 11) (fun _ => m_B (f174 l0) (fun _ => f173_19 l0 l1))) else (f173_19 l0 l1)))
theorem f173_ok {l0 : Nat} {l1 : Int32} {h : q_H} {o : q_O} {hz : q_H} {x : Int32 × q_H} (hf : f173 l0 l1 h = some x) (hK : (q_KI o hz) x) : q_Ev none 173 0 [(0, .ref l0), (1, .int l1)] [] h o hz := by
  unfold f173 at hf
  refine ev_iload_n (q_cod qk173 rfl) (by decide) rfl ?_
  refine em_if_ge (q_cod qk173 rfl) (by decide) hf (fun c5 hf => ?_) (fun c5 hf => ?_)
  · refine ev_iload_n (q_cod qk173 rfl) (by decide) rfl ?_
    obtain rfl := m_R_inv hf
    obtain ⟨rfl, rfl⟩ := (show q_KI o hz (l1, _) from hK)
    exact ev_ret (q_cod qk173 rfl) rfl
  · refine ev_aload_n (q_cod qk173 rfl) (by decide) rfl ?_
    refine em_gI (q_cod qk173 rfl) (by decide) (by decide) hf (fun v1 hf => ?_)
    refine ev_bi (v := 10) (q_cod qk173 rfl) (by decide) (by decide) ?_
    refine em_ic_ne (q_cod qk173 rfl) (by decide) hf (fun c4 hf => ?_) (fun c4 hf => ?_)
    · refine ev_aload_n (q_cod qk173 rfl) (by decide) rfl ?_
      obtain ⟨g2, hf⟩ := m_aK_some hf
      refine em_call (v := (fun _ => none)) (q_cod qk173 rfl) rfl rfl (q_cokV rfl rfl (Or.inr g2)) rfl (fun x e => f174_cl e) hf (fun _ h hf => ?_)
      exact (f173_19_ok hf hK)
    · exact (f173_19_ok hf hK)
theorem f173_cl {l0 : Nat} {l1 : Int32} {h : q_H} {x : Int32 × q_H} (hf : f173 l0 l1 h = some x) : q_Cl 173 [.ref l0, .int l1] h (.inl (some (.int x.1))) x.2 := q_Cl.of rfl (q_LvS rfl rfl) (f173_ok hf ⟨rfl, rfl⟩)
/-! SmithyBench.renameMethod(II)I -/
theorem qk140 : q_cs.getD 140 [] = qc_140 := rfl
def f140 (l0 : Nat) (l1 : Int32) (l2 : Int32) : m_M (Int32 ⊕ Nat) :=
  m_B (m_gR 11 l0 10) (fun r1 => m_B (m_aK l0 11) (fun _ => m_T (f165 l0 r1 l1) (fun _ => m_B (m_gR 11 l0 10) (fun r5 => m_B (m_gR 7 r5 4) (fun r6 => m_B (m_lI r6 l1) (fun v7 => m_B (m_aK l0 11) (fun _ => m_T (f161 l0 l2 v7) (fun _ => m_B (m_gR 11 l0 10) (fun r11 => m_B (m_aK l0 11) (fun _ => m_T (f169 l0 r11) (fun _ => m_B (m_gR 11 l0 3) (fun r15 => m_B (m_gR 11 l0 10) (fun r16 => m_B (m_aK l0 11) (fun _ => m_B (f172 l0) (fun r18 => m_B (m_aK r15 8) (fun _ => m_B (f106 r15 r16 r18 l1 l2) (fun v20 => m_B (m_aK l0 11) (fun _ => m_B (f173 l0 v20) (fun v22 => m_R (.inl v22)))))))))) (fun E14 => m_B (m_G (E14 < 3)) (fun _ => m_R (.inr E14)))))) (fun E10 => m_B (m_G (E10 < 3)) (fun _ => m_R (.inr E10)))))))) (fun E4 => m_B (m_G (E4 < 3)) (fun _ => m_R (.inr E4)))))
theorem f140_ok {l0 : Nat} {l1 : Int32} {l2 : Int32} {h : q_H} {o : q_O} {hz : q_H} {x : (Int32 ⊕ Nat) × q_H} (hf : f140 l0 l1 l2 h = some x) (hK : (q_KIX o hz) x) : q_Ev none 140 0 [(0, .ref l0), (1, .int l1), (2, .int l2)] [] h o hz := by
  unfold f140 at hf
  refine ev_aload_n (q_cod qk140 rfl) (by decide) rfl ?_
  refine ev_aload_n (q_cod qk140 rfl) (by decide) rfl ?_
  refine em_gR (q_cod qk140 rfl) (by decide) (by decide) hf (fun r1 hf => ?_)
  refine ev_iload_n (q_cod qk140 rfl) (by decide) rfl ?_
  obtain ⟨g2, hf⟩ := m_aK_some hf
  refine em_callX (v := (fun _ => none)) (q_cod qk140 rfl) (by decide) (q_cokV rfl rfl (Or.inr g2)) rfl (fun x e => f165_cl e) rfl hf (fun _ h hf => ?_) (fun E4 h hf => ?_)
  · refine ev_aload_n (q_cod qk140 rfl) (by decide) rfl ?_
    refine ev_iload_n (q_cod qk140 rfl) (by decide) rfl ?_
    refine ev_aload_n (q_cod qk140 rfl) (by decide) rfl ?_
    refine em_gR (q_cod qk140 rfl) (by decide) (by decide) hf (fun r5 hf => ?_)
    refine em_gR (q_cod qk140 rfl) (by decide) (by decide) hf (fun r6 hf => ?_)
    refine ev_iload_n (q_cod qk140 rfl) (by decide) rfl ?_
    refine em_lI (q_cod qk140 rfl) (by decide) hf (fun v7 hf => ?_)
    obtain ⟨g8, hf⟩ := m_aK_some hf
    refine em_callX (v := (fun _ => none)) (q_cod qk140 rfl) (by decide) (q_cokV rfl rfl (Or.inr g8)) rfl (fun x e => f161_cl e) rfl hf (fun _ h hf => ?_) (fun E10 h hf => ?_)
    · refine ev_aload_n (q_cod qk140 rfl) (by decide) rfl ?_
      refine ev_aload_n (q_cod qk140 rfl) (by decide) rfl ?_
      refine em_gR (q_cod qk140 rfl) (by decide) (by decide) hf (fun r11 hf => ?_)
      obtain ⟨g12, hf⟩ := m_aK_some hf
      refine em_callX (v := (fun _ => none)) (q_cod qk140 rfl) (by decide) (q_cokV rfl rfl (Or.inr g12)) rfl (fun x e => f169_cl e) rfl hf (fun _ h hf => ?_) (fun E14 h hf => ?_)
      · refine ev_aload_n (q_cod qk140 rfl) (by decide) rfl ?_
        refine ev_aload_n (q_cod qk140 rfl) (by decide) rfl ?_
        refine em_gR (q_cod qk140 rfl) (by decide) (by decide) hf (fun r15 hf => ?_)
        refine ev_aload_n (q_cod qk140 rfl) (by decide) rfl ?_
        refine em_gR (q_cod qk140 rfl) (by decide) (by decide) hf (fun r16 hf => ?_)
        refine ev_aload_n (q_cod qk140 rfl) (by decide) rfl ?_
        obtain ⟨g17, hf⟩ := m_aK_some hf
        refine em_call (v := (fun u => some (.ref u))) (q_cod qk140 rfl) rfl rfl (q_cokV rfl rfl (Or.inr g17)) rfl (fun x e => f172_cl e) hf (fun r18 h hf => ?_)
        refine ev_iload_n (q_cod qk140 rfl) (by decide) rfl ?_
        refine ev_iload_n (q_cod qk140 rfl) (by decide) rfl ?_
        obtain ⟨g19, hf⟩ := m_aK_some hf
        refine em_call (v := (fun u => some (.int u))) (q_cod qk140 rfl) rfl rfl (q_cokV rfl rfl (Or.inr g19)) rfl (fun x e => f106_cl e) hf (fun v20 h hf => ?_)
        obtain ⟨g21, hf⟩ := m_aK_some hf
        refine em_call (v := (fun u => some (.int u))) (q_cod qk140 rfl) rfl rfl (q_cokV rfl rfl (Or.inr g21)) rfl (fun x e => f173_cl e) hf (fun v22 h hf => ?_)
        obtain rfl := m_R_inv hf
        obtain ⟨rfl, rfl⟩ := (show q_KIX o hz ((.inl v22), _) from hK)
        exact ev_ret (q_cod qk140 rfl) rfl
      · obtain ⟨g, hf⟩ := m_G_some hf
        obtain rfl := m_R_inv hf
        exact ⟨g, hK⟩
    · obtain ⟨g, hf⟩ := m_G_some hf
      obtain rfl := m_R_inv hf
      exact ⟨g, hK⟩
  · obtain ⟨g, hf⟩ := m_G_some hf
    obtain rfl := m_R_inv hf
    exact ⟨g, hK⟩
theorem f140_cl {l0 : Nat} {l1 : Int32} {l2 : Int32} {h : q_H} {x : (Int32 ⊕ Nat) × q_H} (hf : f140 l0 l1 l2 h = some x) : q_Cl 140 [.ref l0, .int l1, .int l2] h (q_oX (fun u => some (.int u)) x.1) x.2 := q_Cl.of rfl (q_LvS rfl rfl) (f140_ok hf ⟨rfl, rfl⟩)
/-! SmithyBench.requireField(II)V -/
theorem qk168 : q_cs.getD 168 [] = qc_168 := rfl
def f168 (l0 : Nat) (l1 : Int32) (l2 : Int32) : m_M (Unit ⊕ Nat) :=
  m_B (m_aK l0 11) (fun _ => m_T (f162 l0 l1) (fun _ => m_B (m_gR 11 l0 10) (fun r4 => m_B (m_aK r4 7) (fun _ => m_B (f85 r4 l1 l2) (fun v6 => if v6 = (-3) then (m_thr 2) else (m_R (.inl ())))))) (fun E3 => m_B (m_G (E3 < 3)) (fun _ => m_R (.inr E3))))
theorem f168_ok {l0 : Nat} {l1 : Int32} {l2 : Int32} {h : q_H} {o : q_O} {hz : q_H} {x : (Unit ⊕ Nat) × q_H} (hf : f168 l0 l1 l2 h = some x) (hK : (q_KVX o hz) x) : q_Ev none 168 0 [(0, .ref l0), (1, .int l1), (2, .int l2)] [] h o hz := by
  unfold f168 at hf
  refine ev_aload_n (q_cod qk168 rfl) (by decide) rfl ?_
  refine ev_iload_n (q_cod qk168 rfl) (by decide) rfl ?_
  obtain ⟨g1, hf⟩ := m_aK_some hf
  refine em_callX (v := (fun _ => none)) (q_cod qk168 rfl) (by decide) (q_cokV rfl rfl (Or.inr g1)) rfl (fun x e => f162_cl e) rfl hf (fun _ h hf => ?_) (fun E3 h hf => ?_)
  · refine ev_aload_n (q_cod qk168 rfl) (by decide) rfl ?_
    refine em_gR (q_cod qk168 rfl) (by decide) (by decide) hf (fun r4 hf => ?_)
    refine ev_iload_n (q_cod qk168 rfl) (by decide) rfl ?_
    refine ev_iload_n (q_cod qk168 rfl) (by decide) rfl ?_
    obtain ⟨g5, hf⟩ := m_aK_some hf
    refine em_call (v := (fun u => some (.int u))) (q_cod qk168 rfl) rfl rfl (q_cokV rfl rfl (Or.inr g5)) rfl (fun x e => f85_cl e) hf (fun v6 h hf => ?_)
    refine ev_bi (v := (-3)) (q_cod qk168 rfl) (by decide) (by decide) ?_
    refine em_ic_ne (q_cod qk168 rfl) (by decide) hf (fun c7 hf => ?_) (fun c7 hf => ?_)
    · cases hf
      obtain ⟨rfl, rfl⟩ := (show q_KVX o hz (.inr 2, q_ex1 _) from hK)
      exact em_throw (q_cod qk168 rfl) (by decide) (by decide) rfl (Nat.le_of_ble_eq_true rfl)
    · obtain rfl := m_R_inv hf
      obtain ⟨rfl, rfl⟩ := (show q_KVX o hz ((.inl ()), _) from hK)
      exact ev_ret (q_cod qk168 rfl) rfl
  · obtain ⟨g, hf⟩ := m_G_some hf
    obtain rfl := m_R_inv hf
    exact ⟨g, hK⟩
theorem f168_cl {l0 : Nat} {l1 : Int32} {l2 : Int32} {h : q_H} {x : (Unit ⊕ Nat) × q_H} (hf : f168 l0 l1 l2 h = some x) : q_Cl 168 [.ref l0, .int l1, .int l2] h (q_oX (fun _ => none) x.1) x.2 := q_Cl.of rfl (q_LvS rfl rfl) (f168_ok hf ⟨rfl, rfl⟩)
/-! SmithyBench.renameField(III)I -/
theorem qk141 : q_cs.getD 141 [] = qc_141 := rfl
def f141 (l0 : Nat) (l1 : Int32) (l2 : Int32) (l3 : Int32) : m_M (Int32 ⊕ Nat) :=
  m_B (m_aK l0 11) (fun _ => m_T (f168 l0 l1 l2) (fun _ => m_B (m_aK l0 11) (fun _ => m_T (f161 l0 l3 l2) (fun _ => m_B (m_gR 11 l0 10) (fun r7 => m_B (m_aK l0 11) (fun _ => m_T (f169 l0 r7) (fun _ => m_B (m_gR 11 l0 3) (fun r11 => m_B (m_gR 11 l0 10) (fun r12 => m_B (m_aK l0 11) (fun _ => m_B (f172 l0) (fun r14 => m_B (m_aK r11 8) (fun _ => m_B (f107 r11 r12 r14 l1 l2 l3) (fun v16 => m_B (m_aK l0 11) (fun _ => m_B (f173 l0 v16) (fun v18 => m_R (.inl v18)))))))))) (fun E10 => m_B (m_G (E10 < 3)) (fun _ => m_R (.inr E10)))))) (fun E6 => m_B (m_G (E6 < 3)) (fun _ => m_R (.inr E6))))) (fun E3 => m_B (m_G (E3 < 3)) (fun _ => m_R (.inr E3))))
theorem f141_ok {l0 : Nat} {l1 : Int32} {l2 : Int32} {l3 : Int32} {h : q_H} {o : q_O} {hz : q_H} {x : (Int32 ⊕ Nat) × q_H} (hf : f141 l0 l1 l2 l3 h = some x) (hK : (q_KIX o hz) x) : q_Ev none 141 0 [(0, .ref l0), (1, .int l1), (2, .int l2), (3, .int l3)] [] h o hz := by
  unfold f141 at hf
  refine ev_aload_n (q_cod qk141 rfl) (by decide) rfl ?_
  refine ev_iload_n (q_cod qk141 rfl) (by decide) rfl ?_
  refine ev_iload_n (q_cod qk141 rfl) (by decide) rfl ?_
  obtain ⟨g1, hf⟩ := m_aK_some hf
  refine em_callX (v := (fun _ => none)) (q_cod qk141 rfl) (by decide) (q_cokV rfl rfl (Or.inr g1)) rfl (fun x e => f168_cl e) rfl hf (fun _ h hf => ?_) (fun E3 h hf => ?_)
  · refine ev_aload_n (q_cod qk141 rfl) (by decide) rfl ?_
    refine ev_iload_n (q_cod qk141 rfl) (by decide) rfl ?_
    refine ev_iload_n (q_cod qk141 rfl) (by decide) rfl ?_
    obtain ⟨g4, hf⟩ := m_aK_some hf
    refine em_callX (v := (fun _ => none)) (q_cod qk141 rfl) (by decide) (q_cokV rfl rfl (Or.inr g4)) rfl (fun x e => f161_cl e) rfl hf (fun _ h hf => ?_) (fun E6 h hf => ?_)
    · refine ev_aload_n (q_cod qk141 rfl) (by decide) rfl ?_
      refine ev_aload_n (q_cod qk141 rfl) (by decide) rfl ?_
      refine em_gR (q_cod qk141 rfl) (by decide) (by decide) hf (fun r7 hf => ?_)
      obtain ⟨g8, hf⟩ := m_aK_some hf
      refine em_callX (v := (fun _ => none)) (q_cod qk141 rfl) (by decide) (q_cokV rfl rfl (Or.inr g8)) rfl (fun x e => f169_cl e) rfl hf (fun _ h hf => ?_) (fun E10 h hf => ?_)
      · refine ev_aload_n (q_cod qk141 rfl) (by decide) rfl ?_
        refine ev_aload_n (q_cod qk141 rfl) (by decide) rfl ?_
        refine em_gR (q_cod qk141 rfl) (by decide) (by decide) hf (fun r11 hf => ?_)
        refine ev_aload_n (q_cod qk141 rfl) (by decide) rfl ?_
        refine em_gR (q_cod qk141 rfl) (by decide) (by decide) hf (fun r12 hf => ?_)
        refine ev_aload_n (q_cod qk141 rfl) (by decide) rfl ?_
        obtain ⟨g13, hf⟩ := m_aK_some hf
        refine em_call (v := (fun u => some (.ref u))) (q_cod qk141 rfl) rfl rfl (q_cokV rfl rfl (Or.inr g13)) rfl (fun x e => f172_cl e) hf (fun r14 h hf => ?_)
        refine ev_iload_n (q_cod qk141 rfl) (by decide) rfl ?_
        refine ev_iload_n (q_cod qk141 rfl) (by decide) rfl ?_
        refine ev_iload_n (q_cod qk141 rfl) (by decide) rfl ?_
        obtain ⟨g15, hf⟩ := m_aK_some hf
        refine em_call (v := (fun u => some (.int u))) (q_cod qk141 rfl) rfl rfl (q_cokV rfl rfl (Or.inr g15)) rfl (fun x e => f107_cl e) hf (fun v16 h hf => ?_)
        obtain ⟨g17, hf⟩ := m_aK_some hf
        refine em_call (v := (fun u => some (.int u))) (q_cod qk141 rfl) rfl rfl (q_cokV rfl rfl (Or.inr g17)) rfl (fun x e => f173_cl e) hf (fun v18 h hf => ?_)
        obtain rfl := m_R_inv hf
        obtain ⟨rfl, rfl⟩ := (show q_KIX o hz ((.inl v18), _) from hK)
        exact ev_ret (q_cod qk141 rfl) rfl
      · obtain ⟨g, hf⟩ := m_G_some hf
        obtain rfl := m_R_inv hf
        exact ⟨g, hK⟩
    · obtain ⟨g, hf⟩ := m_G_some hf
      obtain rfl := m_R_inv hf
      exact ⟨g, hK⟩
  · obtain ⟨g, hf⟩ := m_G_some hf
    obtain rfl := m_R_inv hf
    exact ⟨g, hK⟩
theorem f141_cl {l0 : Nat} {l1 : Int32} {l2 : Int32} {l3 : Int32} {h : q_H} {x : (Int32 ⊕ Nat) × q_H} (hf : f141 l0 l1 l2 l3 h = some x) : q_Cl 141 [.ref l0, .int l1, .int l2, .int l3] h (q_oX (fun u => some (.int u)) x.1) x.2 := q_Cl.of rfl (q_LvS rfl rfl) (f141_ok hf ⟨rfl, rfl⟩)
/-! SmithyBench.requireParameter(II)V -/
theorem qk167 : q_cs.getD 167 [] = qc_167 := rfl
def f167_17  : m_M (Unit ⊕ Nat) :=
  m_thr 2
theorem f167_17_ok  {h : q_H} {o : q_O} {hz : q_H} {x : (Unit ⊕ Nat) × q_H} (hf : f167_17 h = some x) (hK : (q_KVX o hz) x) : q_Ev none 167 17 [] [] h o hz := by
  unfold f167_17 at hf
  cases hf
  obtain ⟨rfl, rfl⟩ := (show q_KVX o hz (.inr 2, q_ex1 _) from hK)
  exact em_throw (q_cod qk167 rfl) (by decide) (by decide) rfl (Nat.le_of_ble_eq_true rfl)
def f167 (l0 : Nat) (l1 : Int32) (l2 : Int32) : m_M (Unit ⊕ Nat) :=
  if l2 < 0 then (f167_17) else (m_B (m_gR 11 l0 10) (fun r1 => m_B (m_gR 7 r1 5) (fun r2 => m_B (m_lI r2 l1) (fun v3 => if l2 < v3 then (m_R (.inl ())) else (f167_17)))))
theorem f167_ok {l0 : Nat} {l1 : Int32} {l2 : Int32} {h : q_H} {o : q_O} {hz : q_H} {x : (Unit ⊕ Nat) × q_H} (hf : f167 l0 l1 l2 h = some x) (hK : (q_KVX o hz) x) : q_Ev none 167 0 [(0, .ref l0), (1, .int l1), (2, .int l2)] [] h o hz := by
  unfold f167 at hf
  refine ev_iload_n (q_cod qk167 rfl) (by decide) rfl ?_
  refine em_if_lt (q_cod qk167 rfl) (by decide) hf (fun c5 hf => ?_) (fun c5 hf => ?_)
  · exact ev_weak (q_pk [] rfl) (f167_17_ok hf hK)
  · refine ev_iload_n (q_cod qk167 rfl) (by decide) rfl ?_
    refine ev_aload_n (q_cod qk167 rfl) (by decide) rfl ?_
    refine em_gR (q_cod qk167 rfl) (by decide) (by decide) hf (fun r1 hf => ?_)
    refine em_gR (q_cod qk167 rfl) (by decide) (by decide) hf (fun r2 hf => ?_)
    refine ev_iload_n (q_cod qk167 rfl) (by decide) rfl ?_
    refine em_lI (q_cod qk167 rfl) (by decide) hf (fun v3 hf => ?_)
    refine em_ic_lt (q_cod qk167 rfl) (by decide) hf (fun c4 hf => ?_) (fun c4 hf => ?_)
    · obtain rfl := m_R_inv hf
      obtain ⟨rfl, rfl⟩ := (show q_KVX o hz ((.inl ()), _) from hK)
      exact ev_ret (q_cod qk167 rfl) rfl
    · exact ev_weak (q_pk [] rfl) (f167_17_ok hf hK)
theorem f167_cl {l0 : Nat} {l1 : Int32} {l2 : Int32} {h : q_H} {x : (Unit ⊕ Nat) × q_H} (hf : f167 l0 l1 l2 h = some x) : q_Cl 167 [.ref l0, .int l1, .int l2] h (q_oX (fun _ => none) x.1) x.2 := q_Cl.of rfl (q_LvS rfl rfl) (f167_ok hf ⟨rfl, rfl⟩)
/-! SmithyBench.requirePlace(II)V -/
theorem qk166 : q_cs.getD 166 [] = qc_166 := rfl
def f166_20  : m_M (Unit ⊕ Nat) :=
  m_thr 2
theorem f166_20_ok  {h : q_H} {o : q_O} {hz : q_H} {x : (Unit ⊕ Nat) × q_H} (hf : f166_20 h = some x) (hK : (q_KVX o hz) x) : q_Ev none 166 20 [] [] h o hz := by
  unfold f166_20 at hf
  cases hf
  obtain ⟨rfl, rfl⟩ := (show q_KVX o hz (.inr 2, q_ex1 _) from hK)
  exact em_throw (q_cod qk166 rfl) (by decide) (by decide) rfl (Nat.le_of_ble_eq_true rfl)
def f166 (l0 : Nat) (l1 : Int32) (l2 : Int32) : m_M (Unit ⊕ Nat) :=
  if l2 < 0 then (f166_20) else (m_B (m_gR 11 l0 10) (fun r1 => m_B (m_gR 7 r1 9) (fun r2 => m_B (m_lR r2 l1) (fun r3 => m_B (m_gI 0 r3 7) (fun v4 => if l2 < v4 then (m_R (.inl ())) else (f166_20))))))
theorem f166_ok {l0 : Nat} {l1 : Int32} {l2 : Int32} {h : q_H} {o : q_O} {hz : q_H} {x : (Unit ⊕ Nat) × q_H} (hf : f166 l0 l1 l2 h = some x) (hK : (q_KVX o hz) x) : q_Ev none 166 0 [(0, .ref l0), (1, .int l1), (2, .int l2)] [] h o hz := by
  unfold f166 at hf
  refine ev_iload_n (q_cod qk166 rfl) (by decide) rfl ?_
  refine em_if_lt (q_cod qk166 rfl) (by decide) hf (fun c6 hf => ?_) (fun c6 hf => ?_)
  · exact ev_weak (q_pk [] rfl) (f166_20_ok hf hK)
  · refine ev_iload_n (q_cod qk166 rfl) (by decide) rfl ?_
    refine ev_aload_n (q_cod qk166 rfl) (by decide) rfl ?_
    refine em_gR (q_cod qk166 rfl) (by decide) (by decide) hf (fun r1 hf => ?_)
    refine em_gR (q_cod qk166 rfl) (by decide) (by decide) hf (fun r2 hf => ?_)
    refine ev_iload_n (q_cod qk166 rfl) (by decide) rfl ?_
    refine em_lR (q_cod qk166 rfl) (by decide) hf (fun r3 hf => ?_)
    refine em_gI (q_cod qk166 rfl) (by decide) (by decide) hf (fun v4 hf => ?_)
    refine em_ic_lt (q_cod qk166 rfl) (by decide) hf (fun c5 hf => ?_) (fun c5 hf => ?_)
    · obtain rfl := m_R_inv hf
      obtain ⟨rfl, rfl⟩ := (show q_KVX o hz ((.inl ()), _) from hK)
      exact ev_ret (q_cod qk166 rfl) rfl
    · exact ev_weak (q_pk [] rfl) (f166_20_ok hf hK)
theorem f166_cl {l0 : Nat} {l1 : Int32} {l2 : Int32} {h : q_H} {x : (Unit ⊕ Nat) × q_H} (hf : f166 l0 l1 l2 h = some x) : q_Cl 166 [.ref l0, .int l1, .int l2] h (q_oX (fun _ => none) x.1) x.2 := q_Cl.of rfl (q_LvS rfl rfl) (f166_ok hf ⟨rfl, rfl⟩)
/-! SmithyBench.renameLocal(III)I -/
theorem qk142 : q_cs.getD 142 [] = qc_142 := rfl
def f142_30 (l0 : Nat) (l1 : Int32) (l2 : Int32) (l3 : Int32) : m_M (Int32 ⊕ Nat) :=
  m_B (m_gR 11 l0 10) (fun r1 => m_B (m_aK r1 7) (fun _ => m_B (f99 r1 l1 l2) (fun v3 => m_B (m_aK l0 11) (fun _ => m_T (f161 l0 l3 v3) (fun _ => m_B (m_gR 11 l0 10) (fun r7 => m_B (m_aK l0 11) (fun _ => m_T (f169 l0 r7) (fun _ => m_B (m_gR 11 l0 3) (fun r11 => m_B (m_gR 11 l0 10) (fun r12 => m_B (m_aK l0 11) (fun _ => m_B (f172 l0) (fun r14 => m_B (m_aK r11 8) (fun _ => m_B (f108 r11 r12 r14 l1 l2 l3) (fun v16 => m_B (m_aK l0 11) (fun _ => m_B (f173 l0 v16) (fun v18 => m_R (.inl v18)))))))))) (fun E10 => m_B (m_G (E10 < 3)) (fun _ => m_R (.inr E10)))))) (fun E6 => m_B (m_G (E6 < 3)) (fun _ => m_R (.inr E6)))))))
theorem f142_30_ok {l0 : Nat} {l1 : Int32} {l2 : Int32} {l3 : Int32} {h : q_H} {o : q_O} {hz : q_H} {x : (Int32 ⊕ Nat) × q_H} (hf : f142_30 l0 l1 l2 l3 h = some x) (hK : (q_KIX o hz) x) : q_Ev none 142 30 [(0, .ref l0), (1, .int l1), (2, .int l2), (3, .int l3)] [] h o hz := by
  unfold f142_30 at hf
  refine ev_aload_n (q_cod qk142 rfl) (by decide) rfl ?_
  refine ev_iload_n (q_cod qk142 rfl) (by decide) rfl ?_
  refine ev_aload_n (q_cod qk142 rfl) (by decide) rfl ?_
  refine em_gR (q_cod qk142 rfl) (by decide) (by decide) hf (fun r1 hf => ?_)
  refine ev_iload_n (q_cod qk142 rfl) (by decide) rfl ?_
  refine ev_iload_n (q_cod qk142 rfl) (by decide) rfl ?_
  obtain ⟨g2, hf⟩ := m_aK_some hf
  refine em_call (v := (fun u => some (.int u))) (q_cod qk142 rfl) rfl rfl (q_cokV rfl rfl (Or.inr g2)) rfl (fun x e => f99_cl e) hf (fun v3 h hf => ?_)
  obtain ⟨g4, hf⟩ := m_aK_some hf
  refine em_callX (v := (fun _ => none)) (q_cod qk142 rfl) (by decide) (q_cokV rfl rfl (Or.inr g4)) rfl (fun x e => f161_cl e) rfl hf (fun _ h hf => ?_) (fun E6 h hf => ?_)
  · refine ev_aload_n (q_cod qk142 rfl) (by decide) rfl ?_
    refine ev_aload_n (q_cod qk142 rfl) (by decide) rfl ?_
    refine em_gR (q_cod qk142 rfl) (by decide) (by decide) hf (fun r7 hf => ?_)
    obtain ⟨g8, hf⟩ := m_aK_some hf
    refine em_callX (v := (fun _ => none)) (q_cod qk142 rfl) (by decide) (q_cokV rfl rfl (Or.inr g8)) rfl (fun x e => f169_cl e) rfl hf (fun _ h hf => ?_) (fun E10 h hf => ?_)
    · refine ev_aload_n (q_cod qk142 rfl) (by decide) rfl ?_
      refine ev_aload_n (q_cod qk142 rfl) (by decide) rfl ?_
      refine em_gR (q_cod qk142 rfl) (by decide) (by decide) hf (fun r11 hf => ?_)
      refine ev_aload_n (q_cod qk142 rfl) (by decide) rfl ?_
      refine em_gR (q_cod qk142 rfl) (by decide) (by decide) hf (fun r12 hf => ?_)
      refine ev_aload_n (q_cod qk142 rfl) (by decide) rfl ?_
      obtain ⟨g13, hf⟩ := m_aK_some hf
      refine em_call (v := (fun u => some (.ref u))) (q_cod qk142 rfl) rfl rfl (q_cokV rfl rfl (Or.inr g13)) rfl (fun x e => f172_cl e) hf (fun r14 h hf => ?_)
      refine ev_iload_n (q_cod qk142 rfl) (by decide) rfl ?_
      refine ev_iload_n (q_cod qk142 rfl) (by decide) rfl ?_
      refine ev_iload_n (q_cod qk142 rfl) (by decide) rfl ?_
      obtain ⟨g15, hf⟩ := m_aK_some hf
      refine em_call (v := (fun u => some (.int u))) (q_cod qk142 rfl) rfl rfl (q_cokV rfl rfl (Or.inr g15)) rfl (fun x e => f108_cl e) hf (fun v16 h hf => ?_)
      obtain ⟨g17, hf⟩ := m_aK_some hf
      refine em_call (v := (fun u => some (.int u))) (q_cod qk142 rfl) rfl rfl (q_cokV rfl rfl (Or.inr g17)) rfl (fun x e => f173_cl e) hf (fun v18 h hf => ?_)
      obtain rfl := m_R_inv hf
      obtain ⟨rfl, rfl⟩ := (show q_KIX o hz ((.inl v18), _) from hK)
      exact ev_ret (q_cod qk142 rfl) rfl
    · obtain ⟨g, hf⟩ := m_G_some hf
      obtain rfl := m_R_inv hf
      exact ⟨g, hK⟩
  · obtain ⟨g, hf⟩ := m_G_some hf
    obtain rfl := m_R_inv hf
    exact ⟨g, hK⟩
def f142 (l0 : Nat) (l1 : Int32) (l2 : Int32) (l3 : Int32) : m_M (Int32 ⊕ Nat) :=
  m_B (m_gR 11 l0 10) (fun r1 => m_B (m_aK l0 11) (fun _ => m_T (f165 l0 r1 l1) (fun _ => if l2 < 0 then (m_B (m_aK l0 11) (fun _ => m_T (f167 l0 l1 ((-1) - l2)) (fun _ => f142_30 l0 l1 l2 l3) (fun E7 => m_B (m_G (E7 < 3)) (fun _ => m_R (.inr E7))))) else (m_B (m_aK l0 11) (fun _ => m_T (f166 l0 l1 l2) (fun _ => f142_30 l0 l1 l2 l3) (fun E10 => m_B (m_G (E10 < 3)) (fun _ => m_R (.inr E10)))))) (fun E4 => m_B (m_G (E4 < 3)) (fun _ => m_R (.inr E4)))))
theorem f142_ok {l0 : Nat} {l1 : Int32} {l2 : Int32} {l3 : Int32} {h : q_H} {o : q_O} {hz : q_H} {x : (Int32 ⊕ Nat) × q_H} (hf : f142 l0 l1 l2 l3 h = some x) (hK : (q_KIX o hz) x) : q_Ev none 142 0 [(0, .ref l0), (1, .int l1), (2, .int l2), (3, .int l3)] [] h o hz := by
  unfold f142 at hf
  refine ev_aload_n (q_cod qk142 rfl) (by decide) rfl ?_
  refine ev_aload_n (q_cod qk142 rfl) (by decide) rfl ?_
  refine em_gR (q_cod qk142 rfl) (by decide) (by decide) hf (fun r1 hf => ?_)
  refine ev_iload_n (q_cod qk142 rfl) (by decide) rfl ?_
  obtain ⟨g2, hf⟩ := m_aK_some hf
  refine em_callX (v := (fun _ => none)) (q_cod qk142 rfl) (by decide) (q_cokV rfl rfl (Or.inr g2)) rfl (fun x e => f165_cl e) rfl hf (fun _ h hf => ?_) (fun E4 h hf => ?_)
  · refine ev_iload_n (q_cod qk142 rfl) (by decide) rfl ?_
    refine em_if_ge (q_cod qk142 rfl) (by decide) hf (fun c11 hf => ?_) (fun c11 hf => ?_)
    · refine ev_aload_n (q_cod qk142 rfl) (by decide) rfl ?_
      refine ev_iload_n (q_cod qk142 rfl) (by decide) rfl ?_
      refine ev_ic (v := (-1)) (q_cod qk142 rfl) (by decide) (by decide) ?_
      refine ev_iload_n (q_cod qk142 rfl) (by decide) rfl ?_
      refine ev_isub (q_cod qk142 rfl) (by decide) ?_
      obtain ⟨g5, hf⟩ := m_aK_some hf
      refine em_callX (v := (fun _ => none)) (q_cod qk142 rfl) (by decide) (q_cokV rfl rfl (Or.inr g5)) rfl (fun x e => f167_cl e) rfl hf (fun _ h hf => ?_) (fun E7 h hf => ?_)
      · refine ev_goto (q_cod qk142 rfl) (by decide) ?_
        exact (f142_30_ok hf hK)
      · obtain ⟨g, hf⟩ := m_G_some hf
        obtain rfl := m_R_inv hf
        exact ⟨g, hK⟩
    · refine ev_aload_n (q_cod qk142 rfl) (by decide) rfl ?_
      refine ev_iload_n (q_cod qk142 rfl) (by decide) rfl ?_
      refine ev_iload_n (q_cod qk142 rfl) (by decide) rfl ?_
      obtain ⟨g8, hf⟩ := m_aK_some hf
      refine em_callX (v := (fun _ => none)) (q_cod qk142 rfl) (by decide) (q_cokV rfl rfl (Or.inr g8)) rfl (fun x e => f166_cl e) rfl hf (fun _ h hf => ?_) (fun E10 h hf => ?_)
      · exact (f142_30_ok hf hK)
      · obtain ⟨g, hf⟩ := m_G_some hf
        obtain rfl := m_R_inv hf
        exact ⟨g, hK⟩
  · obtain ⟨g, hf⟩ := m_G_some hf
    obtain rfl := m_R_inv hf
    exact ⟨g, hK⟩
theorem f142_cl {l0 : Nat} {l1 : Int32} {l2 : Int32} {l3 : Int32} {h : q_H} {x : (Int32 ⊕ Nat) × q_H} (hf : f142 l0 l1 l2 l3 h = some x) : q_Cl 142 [.ref l0, .int l1, .int l2, .int l3] h (q_oX (fun u => some (.int u)) x.1) x.2 := q_Cl.of rfl (q_LvS rfl rfl) (f142_ok hf ⟨rfl, rfl⟩)
/-! SmithyBench.inline(II)I -/
theorem qk143 : q_cs.getD 143 [] = qc_143 := rfl
def f143 (l0 : Nat) (l1 : Int32) (l2 : Int32) : m_M (Int32 ⊕ Nat) :=
  m_B (m_gR 11 l0 10) (fun r1 => m_B (m_aK l0 11) (fun _ => m_T (f165 l0 r1 l1) (fun _ => m_B (m_aK l0 11) (fun _ => m_T (f166 l0 l1 l2) (fun _ => m_B (m_gR 11 l0 10) (fun r8 => m_B (m_aK l0 11) (fun _ => m_T (f169 l0 r8) (fun _ => m_B (m_gR 11 l0 4) (fun r12 => m_B (m_gR 11 l0 10) (fun r13 => m_B (m_aK l0 11) (fun _ => m_B (f172 l0) (fun r15 => m_B (m_aK r12 3) (fun _ => m_B (f36 r12 r13 r15 l1 l2) (fun v17 => m_B (m_aK l0 11) (fun _ => m_B (f173 l0 v17) (fun v19 => m_R (.inl v19)))))))))) (fun E11 => m_B (m_G (E11 < 3)) (fun _ => m_R (.inr E11)))))) (fun E7 => m_B (m_G (E7 < 3)) (fun _ => m_R (.inr E7))))) (fun E4 => m_B (m_G (E4 < 3)) (fun _ => m_R (.inr E4)))))
theorem f143_ok {l0 : Nat} {l1 : Int32} {l2 : Int32} {h : q_H} {o : q_O} {hz : q_H} {x : (Int32 ⊕ Nat) × q_H} (hf : f143 l0 l1 l2 h = some x) (hK : (q_KIX o hz) x) : q_Ev none 143 0 [(0, .ref l0), (1, .int l1), (2, .int l2)] [] h o hz := by
  unfold f143 at hf
  refine ev_aload_n (q_cod qk143 rfl) (by decide) rfl ?_
  refine ev_aload_n (q_cod qk143 rfl) (by decide) rfl ?_
  refine em_gR (q_cod qk143 rfl) (by decide) (by decide) hf (fun r1 hf => ?_)
  refine ev_iload_n (q_cod qk143 rfl) (by decide) rfl ?_
  obtain ⟨g2, hf⟩ := m_aK_some hf
  refine em_callX (v := (fun _ => none)) (q_cod qk143 rfl) (by decide) (q_cokV rfl rfl (Or.inr g2)) rfl (fun x e => f165_cl e) rfl hf (fun _ h hf => ?_) (fun E4 h hf => ?_)
  · refine ev_aload_n (q_cod qk143 rfl) (by decide) rfl ?_
    refine ev_iload_n (q_cod qk143 rfl) (by decide) rfl ?_
    refine ev_iload_n (q_cod qk143 rfl) (by decide) rfl ?_
    obtain ⟨g5, hf⟩ := m_aK_some hf
    refine em_callX (v := (fun _ => none)) (q_cod qk143 rfl) (by decide) (q_cokV rfl rfl (Or.inr g5)) rfl (fun x e => f166_cl e) rfl hf (fun _ h hf => ?_) (fun E7 h hf => ?_)
    · refine ev_aload_n (q_cod qk143 rfl) (by decide) rfl ?_
      refine ev_aload_n (q_cod qk143 rfl) (by decide) rfl ?_
      refine em_gR (q_cod qk143 rfl) (by decide) (by decide) hf (fun r8 hf => ?_)
      obtain ⟨g9, hf⟩ := m_aK_some hf
      refine em_callX (v := (fun _ => none)) (q_cod qk143 rfl) (by decide) (q_cokV rfl rfl (Or.inr g9)) rfl (fun x e => f169_cl e) rfl hf (fun _ h hf => ?_) (fun E11 h hf => ?_)
      · refine ev_aload_n (q_cod qk143 rfl) (by decide) rfl ?_
        refine ev_aload_n (q_cod qk143 rfl) (by decide) rfl ?_
        refine em_gR (q_cod qk143 rfl) (by decide) (by decide) hf (fun r12 hf => ?_)
        refine ev_aload_n (q_cod qk143 rfl) (by decide) rfl ?_
        refine em_gR (q_cod qk143 rfl) (by decide) (by decide) hf (fun r13 hf => ?_)
        refine ev_aload_n (q_cod qk143 rfl) (by decide) rfl ?_
        obtain ⟨g14, hf⟩ := m_aK_some hf
        refine em_call (v := (fun u => some (.ref u))) (q_cod qk143 rfl) rfl rfl (q_cokV rfl rfl (Or.inr g14)) rfl (fun x e => f172_cl e) hf (fun r15 h hf => ?_)
        refine ev_iload_n (q_cod qk143 rfl) (by decide) rfl ?_
        refine ev_iload_n (q_cod qk143 rfl) (by decide) rfl ?_
        obtain ⟨g16, hf⟩ := m_aK_some hf
        refine em_call (v := (fun u => some (.int u))) (q_cod qk143 rfl) rfl rfl (q_cokV rfl rfl (Or.inr g16)) rfl (fun x e => f36_cl e) hf (fun v17 h hf => ?_)
        obtain ⟨g18, hf⟩ := m_aK_some hf
        refine em_call (v := (fun u => some (.int u))) (q_cod qk143 rfl) rfl rfl (q_cokV rfl rfl (Or.inr g18)) rfl (fun x e => f173_cl e) hf (fun v19 h hf => ?_)
        obtain rfl := m_R_inv hf
        obtain ⟨rfl, rfl⟩ := (show q_KIX o hz ((.inl v19), _) from hK)
        exact ev_ret (q_cod qk143 rfl) rfl
      · obtain ⟨g, hf⟩ := m_G_some hf
        obtain rfl := m_R_inv hf
        exact ⟨g, hK⟩
    · obtain ⟨g, hf⟩ := m_G_some hf
      obtain rfl := m_R_inv hf
      exact ⟨g, hK⟩
  · obtain ⟨g, hf⟩ := m_G_some hf
    obtain rfl := m_R_inv hf
    exact ⟨g, hK⟩
theorem f143_cl {l0 : Nat} {l1 : Int32} {l2 : Int32} {h : q_H} {x : (Int32 ⊕ Nat) × q_H} (hf : f143 l0 l1 l2 h = some x) : q_Cl 143 [.ref l0, .int l1, .int l2] h (q_oX (fun u => some (.int u)) x.1) x.2 := q_Cl.of rfl (q_LvS rfl rfl) (f143_ok hf ⟨rfl, rfl⟩)
/-! SmithyBench.extract(III)I -/
theorem qk144 : q_cs.getD 144 [] = qc_144 := rfl
def f144 (l0 : Nat) (l1 : Int32) (l2 : Int32) (l3 : Int32) : m_M (Int32 ⊕ Nat) :=
  m_B (m_gR 11 l0 10) (fun r1 => m_B (m_aK l0 11) (fun _ => m_T (f165 l0 r1 l1) (fun _ => m_B (m_aK l0 11) (fun _ => m_T (f166 l0 l1 l2) (fun _ => m_B (m_aK l0 11) (fun _ => m_T (f160 l0 l3) (fun _ => m_B (m_gR 11 l0 10) (fun r11 => m_B (m_aK l0 11) (fun _ => m_T (f169 l0 r11) (fun _ => m_B (m_gR 11 l0 5) (fun r15 => m_B (m_gR 11 l0 10) (fun r16 => m_B (m_aK l0 11) (fun _ => m_B (f172 l0) (fun r18 => m_B (m_aK r15 2) (fun _ => m_B (f31 r15 r16 r18 l1 l2 l3) (fun v20 => m_B (m_aK l0 11) (fun _ => m_B (f173 l0 v20) (fun v22 => m_R (.inl v22)))))))))) (fun E14 => m_B (m_G (E14 < 3)) (fun _ => m_R (.inr E14)))))) (fun E10 => m_B (m_G (E10 < 3)) (fun _ => m_R (.inr E10))))) (fun E7 => m_B (m_G (E7 < 3)) (fun _ => m_R (.inr E7))))) (fun E4 => m_B (m_G (E4 < 3)) (fun _ => m_R (.inr E4)))))
theorem f144_ok {l0 : Nat} {l1 : Int32} {l2 : Int32} {l3 : Int32} {h : q_H} {o : q_O} {hz : q_H} {x : (Int32 ⊕ Nat) × q_H} (hf : f144 l0 l1 l2 l3 h = some x) (hK : (q_KIX o hz) x) : q_Ev none 144 0 [(0, .ref l0), (1, .int l1), (2, .int l2), (3, .int l3)] [] h o hz := by
  unfold f144 at hf
  refine ev_aload_n (q_cod qk144 rfl) (by decide) rfl ?_
  refine ev_aload_n (q_cod qk144 rfl) (by decide) rfl ?_
  refine em_gR (q_cod qk144 rfl) (by decide) (by decide) hf (fun r1 hf => ?_)
  refine ev_iload_n (q_cod qk144 rfl) (by decide) rfl ?_
  obtain ⟨g2, hf⟩ := m_aK_some hf
  refine em_callX (v := (fun _ => none)) (q_cod qk144 rfl) (by decide) (q_cokV rfl rfl (Or.inr g2)) rfl (fun x e => f165_cl e) rfl hf (fun _ h hf => ?_) (fun E4 h hf => ?_)
  · refine ev_aload_n (q_cod qk144 rfl) (by decide) rfl ?_
    refine ev_iload_n (q_cod qk144 rfl) (by decide) rfl ?_
    refine ev_iload_n (q_cod qk144 rfl) (by decide) rfl ?_
    obtain ⟨g5, hf⟩ := m_aK_some hf
    refine em_callX (v := (fun _ => none)) (q_cod qk144 rfl) (by decide) (q_cokV rfl rfl (Or.inr g5)) rfl (fun x e => f166_cl e) rfl hf (fun _ h hf => ?_) (fun E7 h hf => ?_)
    · refine ev_aload_n (q_cod qk144 rfl) (by decide) rfl ?_
      refine ev_iload_n (q_cod qk144 rfl) (by decide) rfl ?_
      obtain ⟨g8, hf⟩ := m_aK_some hf
      refine em_callX (v := (fun _ => none)) (q_cod qk144 rfl) (by decide) (q_cokV rfl rfl (Or.inr g8)) rfl (fun x e => f160_cl e) rfl hf (fun _ h hf => ?_) (fun E10 h hf => ?_)
      · refine ev_aload_n (q_cod qk144 rfl) (by decide) rfl ?_
        refine ev_aload_n (q_cod qk144 rfl) (by decide) rfl ?_
        refine em_gR (q_cod qk144 rfl) (by decide) (by decide) hf (fun r11 hf => ?_)
        obtain ⟨g12, hf⟩ := m_aK_some hf
        refine em_callX (v := (fun _ => none)) (q_cod qk144 rfl) (by decide) (q_cokV rfl rfl (Or.inr g12)) rfl (fun x e => f169_cl e) rfl hf (fun _ h hf => ?_) (fun E14 h hf => ?_)
        · refine ev_aload_n (q_cod qk144 rfl) (by decide) rfl ?_
          refine ev_aload_n (q_cod qk144 rfl) (by decide) rfl ?_
          refine em_gR (q_cod qk144 rfl) (by decide) (by decide) hf (fun r15 hf => ?_)
          refine ev_aload_n (q_cod qk144 rfl) (by decide) rfl ?_
          refine em_gR (q_cod qk144 rfl) (by decide) (by decide) hf (fun r16 hf => ?_)
          refine ev_aload_n (q_cod qk144 rfl) (by decide) rfl ?_
          obtain ⟨g17, hf⟩ := m_aK_some hf
          refine em_call (v := (fun u => some (.ref u))) (q_cod qk144 rfl) rfl rfl (q_cokV rfl rfl (Or.inr g17)) rfl (fun x e => f172_cl e) hf (fun r18 h hf => ?_)
          refine ev_iload_n (q_cod qk144 rfl) (by decide) rfl ?_
          refine ev_iload_n (q_cod qk144 rfl) (by decide) rfl ?_
          refine ev_iload_n (q_cod qk144 rfl) (by decide) rfl ?_
          obtain ⟨g19, hf⟩ := m_aK_some hf
          refine em_call (v := (fun u => some (.int u))) (q_cod qk144 rfl) rfl rfl (q_cokV rfl rfl (Or.inr g19)) rfl (fun x e => f31_cl e) hf (fun v20 h hf => ?_)
          obtain ⟨g21, hf⟩ := m_aK_some hf
          refine em_call (v := (fun u => some (.int u))) (q_cod qk144 rfl) rfl rfl (q_cokV rfl rfl (Or.inr g21)) rfl (fun x e => f173_cl e) hf (fun v22 h hf => ?_)
          obtain rfl := m_R_inv hf
          obtain ⟨rfl, rfl⟩ := (show q_KIX o hz ((.inl v22), _) from hK)
          exact ev_ret (q_cod qk144 rfl) rfl
        · obtain ⟨g, hf⟩ := m_G_some hf
          obtain rfl := m_R_inv hf
          exact ⟨g, hK⟩
      · obtain ⟨g, hf⟩ := m_G_some hf
        obtain rfl := m_R_inv hf
        exact ⟨g, hK⟩
    · obtain ⟨g, hf⟩ := m_G_some hf
      obtain rfl := m_R_inv hf
      exact ⟨g, hK⟩
  · obtain ⟨g, hf⟩ := m_G_some hf
    obtain rfl := m_R_inv hf
    exact ⟨g, hK⟩
theorem f144_cl {l0 : Nat} {l1 : Int32} {l2 : Int32} {l3 : Int32} {h : q_H} {x : (Int32 ⊕ Nat) × q_H} (hf : f144 l0 l1 l2 l3 h = some x) : q_Cl 144 [.ref l0, .int l1, .int l2, .int l3] h (q_oX (fun u => some (.int u)) x.1) x.2 := q_Cl.of rfl (q_LvS rfl rfl) (f144_ok hf ⟨rfl, rfl⟩)
/-! SmithyBench.addParameter(II)I -/
theorem qk145 : q_cs.getD 145 [] = qc_145 := rfl
def f145 (l0 : Nat) (l1 : Int32) (l2 : Int32) : m_M (Int32 ⊕ Nat) :=
  m_B (m_gR 11 l0 10) (fun r1 => m_B (m_aK l0 11) (fun _ => m_T (f165 l0 r1 l1) (fun _ => m_B (m_gR 11 l0 10) (fun r5 => m_B (m_aK l0 11) (fun _ => m_T (f169 l0 r5) (fun _ => m_B (m_gR 11 l0 6) (fun r9 => m_B (m_gR 11 l0 10) (fun r10 => m_B (m_aK l0 11) (fun _ => m_B (f172 l0) (fun r12 => m_B (m_aK r9 9) (fun _ => m_B (f111 r9 r10 r12 l1 l2) (fun v14 => m_B (m_aK l0 11) (fun _ => m_B (f173 l0 v14) (fun v16 => m_R (.inl v16)))))))))) (fun E8 => m_B (m_G (E8 < 3)) (fun _ => m_R (.inr E8)))))) (fun E4 => m_B (m_G (E4 < 3)) (fun _ => m_R (.inr E4)))))
theorem f145_ok {l0 : Nat} {l1 : Int32} {l2 : Int32} {h : q_H} {o : q_O} {hz : q_H} {x : (Int32 ⊕ Nat) × q_H} (hf : f145 l0 l1 l2 h = some x) (hK : (q_KIX o hz) x) : q_Ev none 145 0 [(0, .ref l0), (1, .int l1), (2, .int l2)] [] h o hz := by
  unfold f145 at hf
  refine ev_aload_n (q_cod qk145 rfl) (by decide) rfl ?_
  refine ev_aload_n (q_cod qk145 rfl) (by decide) rfl ?_
  refine em_gR (q_cod qk145 rfl) (by decide) (by decide) hf (fun r1 hf => ?_)
  refine ev_iload_n (q_cod qk145 rfl) (by decide) rfl ?_
  obtain ⟨g2, hf⟩ := m_aK_some hf
  refine em_callX (v := (fun _ => none)) (q_cod qk145 rfl) (by decide) (q_cokV rfl rfl (Or.inr g2)) rfl (fun x e => f165_cl e) rfl hf (fun _ h hf => ?_) (fun E4 h hf => ?_)
  · refine ev_aload_n (q_cod qk145 rfl) (by decide) rfl ?_
    refine ev_aload_n (q_cod qk145 rfl) (by decide) rfl ?_
    refine em_gR (q_cod qk145 rfl) (by decide) (by decide) hf (fun r5 hf => ?_)
    obtain ⟨g6, hf⟩ := m_aK_some hf
    refine em_callX (v := (fun _ => none)) (q_cod qk145 rfl) (by decide) (q_cokV rfl rfl (Or.inr g6)) rfl (fun x e => f169_cl e) rfl hf (fun _ h hf => ?_) (fun E8 h hf => ?_)
    · refine ev_aload_n (q_cod qk145 rfl) (by decide) rfl ?_
      refine ev_aload_n (q_cod qk145 rfl) (by decide) rfl ?_
      refine em_gR (q_cod qk145 rfl) (by decide) (by decide) hf (fun r9 hf => ?_)
      refine ev_aload_n (q_cod qk145 rfl) (by decide) rfl ?_
      refine em_gR (q_cod qk145 rfl) (by decide) (by decide) hf (fun r10 hf => ?_)
      refine ev_aload_n (q_cod qk145 rfl) (by decide) rfl ?_
      obtain ⟨g11, hf⟩ := m_aK_some hf
      refine em_call (v := (fun u => some (.ref u))) (q_cod qk145 rfl) rfl rfl (q_cokV rfl rfl (Or.inr g11)) rfl (fun x e => f172_cl e) hf (fun r12 h hf => ?_)
      refine ev_iload_n (q_cod qk145 rfl) (by decide) rfl ?_
      refine ev_iload_n (q_cod qk145 rfl) (by decide) rfl ?_
      obtain ⟨g13, hf⟩ := m_aK_some hf
      refine em_call (v := (fun u => some (.int u))) (q_cod qk145 rfl) rfl rfl (q_cokV rfl rfl (Or.inr g13)) rfl (fun x e => f111_cl e) hf (fun v14 h hf => ?_)
      obtain ⟨g15, hf⟩ := m_aK_some hf
      refine em_call (v := (fun u => some (.int u))) (q_cod qk145 rfl) rfl rfl (q_cokV rfl rfl (Or.inr g15)) rfl (fun x e => f173_cl e) hf (fun v16 h hf => ?_)
      obtain rfl := m_R_inv hf
      obtain ⟨rfl, rfl⟩ := (show q_KIX o hz ((.inl v16), _) from hK)
      exact ev_ret (q_cod qk145 rfl) rfl
    · obtain ⟨g, hf⟩ := m_G_some hf
      obtain rfl := m_R_inv hf
      exact ⟨g, hK⟩
  · obtain ⟨g, hf⟩ := m_G_some hf
    obtain rfl := m_R_inv hf
    exact ⟨g, hK⟩
theorem f145_cl {l0 : Nat} {l1 : Int32} {l2 : Int32} {h : q_H} {x : (Int32 ⊕ Nat) × q_H} (hf : f145 l0 l1 l2 h = some x) : q_Cl 145 [.ref l0, .int l1, .int l2] h (q_oX (fun u => some (.int u)) x.1) x.2 := q_Cl.of rfl (q_LvS rfl rfl) (f145_ok hf ⟨rfl, rfl⟩)
/-! SmithyBench.dropParameter(II)I -/
theorem qk146 : q_cs.getD 146 [] = qc_146 := rfl
def f146 (l0 : Nat) (l1 : Int32) (l2 : Int32) : m_M (Int32 ⊕ Nat) :=
  m_B (m_gR 11 l0 10) (fun r1 => m_B (m_aK l0 11) (fun _ => m_T (f165 l0 r1 l1) (fun _ => m_B (m_aK l0 11) (fun _ => m_T (f167 l0 l1 l2) (fun _ => m_B (m_gR 11 l0 10) (fun r8 => m_B (m_aK l0 11) (fun _ => m_T (f169 l0 r8) (fun _ => m_B (m_gR 11 l0 6) (fun r12 => m_B (m_gR 11 l0 10) (fun r13 => m_B (m_aK l0 11) (fun _ => m_B (f172 l0) (fun r15 => m_B (m_aK r12 9) (fun _ => m_B (f113 r12 r13 r15 l1 l2) (fun v17 => m_B (m_aK l0 11) (fun _ => m_B (f173 l0 v17) (fun v19 => m_R (.inl v19)))))))))) (fun E11 => m_B (m_G (E11 < 3)) (fun _ => m_R (.inr E11)))))) (fun E7 => m_B (m_G (E7 < 3)) (fun _ => m_R (.inr E7))))) (fun E4 => m_B (m_G (E4 < 3)) (fun _ => m_R (.inr E4)))))
theorem f146_ok {l0 : Nat} {l1 : Int32} {l2 : Int32} {h : q_H} {o : q_O} {hz : q_H} {x : (Int32 ⊕ Nat) × q_H} (hf : f146 l0 l1 l2 h = some x) (hK : (q_KIX o hz) x) : q_Ev none 146 0 [(0, .ref l0), (1, .int l1), (2, .int l2)] [] h o hz := by
  unfold f146 at hf
  refine ev_aload_n (q_cod qk146 rfl) (by decide) rfl ?_
  refine ev_aload_n (q_cod qk146 rfl) (by decide) rfl ?_
  refine em_gR (q_cod qk146 rfl) (by decide) (by decide) hf (fun r1 hf => ?_)
  refine ev_iload_n (q_cod qk146 rfl) (by decide) rfl ?_
  obtain ⟨g2, hf⟩ := m_aK_some hf
  refine em_callX (v := (fun _ => none)) (q_cod qk146 rfl) (by decide) (q_cokV rfl rfl (Or.inr g2)) rfl (fun x e => f165_cl e) rfl hf (fun _ h hf => ?_) (fun E4 h hf => ?_)
  · refine ev_aload_n (q_cod qk146 rfl) (by decide) rfl ?_
    refine ev_iload_n (q_cod qk146 rfl) (by decide) rfl ?_
    refine ev_iload_n (q_cod qk146 rfl) (by decide) rfl ?_
    obtain ⟨g5, hf⟩ := m_aK_some hf
    refine em_callX (v := (fun _ => none)) (q_cod qk146 rfl) (by decide) (q_cokV rfl rfl (Or.inr g5)) rfl (fun x e => f167_cl e) rfl hf (fun _ h hf => ?_) (fun E7 h hf => ?_)
    · refine ev_aload_n (q_cod qk146 rfl) (by decide) rfl ?_
      refine ev_aload_n (q_cod qk146 rfl) (by decide) rfl ?_
      refine em_gR (q_cod qk146 rfl) (by decide) (by decide) hf (fun r8 hf => ?_)
      obtain ⟨g9, hf⟩ := m_aK_some hf
      refine em_callX (v := (fun _ => none)) (q_cod qk146 rfl) (by decide) (q_cokV rfl rfl (Or.inr g9)) rfl (fun x e => f169_cl e) rfl hf (fun _ h hf => ?_) (fun E11 h hf => ?_)
      · refine ev_aload_n (q_cod qk146 rfl) (by decide) rfl ?_
        refine ev_aload_n (q_cod qk146 rfl) (by decide) rfl ?_
        refine em_gR (q_cod qk146 rfl) (by decide) (by decide) hf (fun r12 hf => ?_)
        refine ev_aload_n (q_cod qk146 rfl) (by decide) rfl ?_
        refine em_gR (q_cod qk146 rfl) (by decide) (by decide) hf (fun r13 hf => ?_)
        refine ev_aload_n (q_cod qk146 rfl) (by decide) rfl ?_
        obtain ⟨g14, hf⟩ := m_aK_some hf
        refine em_call (v := (fun u => some (.ref u))) (q_cod qk146 rfl) rfl rfl (q_cokV rfl rfl (Or.inr g14)) rfl (fun x e => f172_cl e) hf (fun r15 h hf => ?_)
        refine ev_iload_n (q_cod qk146 rfl) (by decide) rfl ?_
        refine ev_iload_n (q_cod qk146 rfl) (by decide) rfl ?_
        obtain ⟨g16, hf⟩ := m_aK_some hf
        refine em_call (v := (fun u => some (.int u))) (q_cod qk146 rfl) rfl rfl (q_cokV rfl rfl (Or.inr g16)) rfl (fun x e => f113_cl e) hf (fun v17 h hf => ?_)
        obtain ⟨g18, hf⟩ := m_aK_some hf
        refine em_call (v := (fun u => some (.int u))) (q_cod qk146 rfl) rfl rfl (q_cokV rfl rfl (Or.inr g18)) rfl (fun x e => f173_cl e) hf (fun v19 h hf => ?_)
        obtain rfl := m_R_inv hf
        obtain ⟨rfl, rfl⟩ := (show q_KIX o hz ((.inl v19), _) from hK)
        exact ev_ret (q_cod qk146 rfl) rfl
      · obtain ⟨g, hf⟩ := m_G_some hf
        obtain rfl := m_R_inv hf
        exact ⟨g, hK⟩
    · obtain ⟨g, hf⟩ := m_G_some hf
      obtain rfl := m_R_inv hf
      exact ⟨g, hK⟩
  · obtain ⟨g, hf⟩ := m_G_some hf
    obtain rfl := m_R_inv hf
    exact ⟨g, hK⟩
theorem f146_cl {l0 : Nat} {l1 : Int32} {l2 : Int32} {h : q_H} {x : (Int32 ⊕ Nat) × q_H} (hf : f146 l0 l1 l2 h = some x) : q_Cl 146 [.ref l0, .int l1, .int l2] h (q_oX (fun u => some (.int u)) x.1) x.2 := q_Cl.of rfl (q_LvS rfl rfl) (f146_ok hf ⟨rfl, rfl⟩)
/-! SmithyBench.pullUp(I)I -/
theorem qk147 : q_cs.getD 147 [] = qc_147 := rfl
def f147 (l0 : Nat) (l1 : Int32) : m_M (Int32 ⊕ Nat) :=
  m_B (m_gR 11 l0 10) (fun r1 => m_B (m_aK l0 11) (fun _ => m_T (f165 l0 r1 l1) (fun _ => m_B (m_gR 11 l0 10) (fun r5 => m_B (m_aK l0 11) (fun _ => m_T (f169 l0 r5) (fun _ => m_B (m_gR 11 l0 7) (fun r9 => m_B (m_gR 11 l0 10) (fun r10 => m_B (m_aK l0 11) (fun _ => m_B (f172 l0) (fun r12 => m_B (m_aK r9 6) (fun _ => m_B (f60 r9 r10 r12 l1) (fun v14 => m_B (m_aK l0 11) (fun _ => m_B (f173 l0 v14) (fun v16 => m_R (.inl v16)))))))))) (fun E8 => m_B (m_G (E8 < 3)) (fun _ => m_R (.inr E8)))))) (fun E4 => m_B (m_G (E4 < 3)) (fun _ => m_R (.inr E4)))))
theorem f147_ok {l0 : Nat} {l1 : Int32} {h : q_H} {o : q_O} {hz : q_H} {x : (Int32 ⊕ Nat) × q_H} (hf : f147 l0 l1 h = some x) (hK : (q_KIX o hz) x) : q_Ev none 147 0 [(0, .ref l0), (1, .int l1)] [] h o hz := by
  unfold f147 at hf
  refine ev_aload_n (q_cod qk147 rfl) (by decide) rfl ?_
  refine ev_aload_n (q_cod qk147 rfl) (by decide) rfl ?_
  refine em_gR (q_cod qk147 rfl) (by decide) (by decide) hf (fun r1 hf => ?_)
  refine ev_iload_n (q_cod qk147 rfl) (by decide) rfl ?_
  obtain ⟨g2, hf⟩ := m_aK_some hf
  refine em_callX (v := (fun _ => none)) (q_cod qk147 rfl) (by decide) (q_cokV rfl rfl (Or.inr g2)) rfl (fun x e => f165_cl e) rfl hf (fun _ h hf => ?_) (fun E4 h hf => ?_)
  · refine ev_aload_n (q_cod qk147 rfl) (by decide) rfl ?_
    refine ev_aload_n (q_cod qk147 rfl) (by decide) rfl ?_
    refine em_gR (q_cod qk147 rfl) (by decide) (by decide) hf (fun r5 hf => ?_)
    obtain ⟨g6, hf⟩ := m_aK_some hf
    refine em_callX (v := (fun _ => none)) (q_cod qk147 rfl) (by decide) (q_cokV rfl rfl (Or.inr g6)) rfl (fun x e => f169_cl e) rfl hf (fun _ h hf => ?_) (fun E8 h hf => ?_)
    · refine ev_aload_n (q_cod qk147 rfl) (by decide) rfl ?_
      refine ev_aload_n (q_cod qk147 rfl) (by decide) rfl ?_
      refine em_gR (q_cod qk147 rfl) (by decide) (by decide) hf (fun r9 hf => ?_)
      refine ev_aload_n (q_cod qk147 rfl) (by decide) rfl ?_
      refine em_gR (q_cod qk147 rfl) (by decide) (by decide) hf (fun r10 hf => ?_)
      refine ev_aload_n (q_cod qk147 rfl) (by decide) rfl ?_
      obtain ⟨g11, hf⟩ := m_aK_some hf
      refine em_call (v := (fun u => some (.ref u))) (q_cod qk147 rfl) rfl rfl (q_cokV rfl rfl (Or.inr g11)) rfl (fun x e => f172_cl e) hf (fun r12 h hf => ?_)
      refine ev_iload_n (q_cod qk147 rfl) (by decide) rfl ?_
      obtain ⟨g13, hf⟩ := m_aK_some hf
      refine em_call (v := (fun u => some (.int u))) (q_cod qk147 rfl) rfl rfl (q_cokV rfl rfl (Or.inr g13)) rfl (fun x e => f60_cl e) hf (fun v14 h hf => ?_)
      obtain ⟨g15, hf⟩ := m_aK_some hf
      refine em_call (v := (fun u => some (.int u))) (q_cod qk147 rfl) rfl rfl (q_cokV rfl rfl (Or.inr g15)) rfl (fun x e => f173_cl e) hf (fun v16 h hf => ?_)
      obtain rfl := m_R_inv hf
      obtain ⟨rfl, rfl⟩ := (show q_KIX o hz ((.inl v16), _) from hK)
      exact ev_ret (q_cod qk147 rfl) rfl
    · obtain ⟨g, hf⟩ := m_G_some hf
      obtain rfl := m_R_inv hf
      exact ⟨g, hK⟩
  · obtain ⟨g, hf⟩ := m_G_some hf
    obtain rfl := m_R_inv hf
    exact ⟨g, hK⟩
theorem f147_cl {l0 : Nat} {l1 : Int32} {h : q_H} {x : (Int32 ⊕ Nat) × q_H} (hf : f147 l0 l1 h = some x) : q_Cl 147 [.ref l0, .int l1] h (q_oX (fun u => some (.int u)) x.1) x.2 := q_Cl.of rfl (q_LvS rfl rfl) (f147_ok hf ⟨rfl, rfl⟩)
/-! SmithyBench.pushDown(I)I -/
theorem qk148 : q_cs.getD 148 [] = qc_148 := rfl
def f148 (l0 : Nat) (l1 : Int32) : m_M (Int32 ⊕ Nat) :=
  m_B (m_gR 11 l0 10) (fun r1 => m_B (m_aK l0 11) (fun _ => m_T (f165 l0 r1 l1) (fun _ => m_B (m_gR 11 l0 10) (fun r5 => m_B (m_aK l0 11) (fun _ => m_T (f169 l0 r5) (fun _ => m_B (m_gR 11 l0 7) (fun r9 => m_B (m_gR 11 l0 10) (fun r10 => m_B (m_aK l0 11) (fun _ => m_B (f172 l0) (fun r12 => m_B (m_aK r9 6) (fun _ => m_B (f61 r9 r10 r12 l1) (fun v14 => m_B (m_aK l0 11) (fun _ => m_B (f173 l0 v14) (fun v16 => m_R (.inl v16)))))))))) (fun E8 => m_B (m_G (E8 < 3)) (fun _ => m_R (.inr E8)))))) (fun E4 => m_B (m_G (E4 < 3)) (fun _ => m_R (.inr E4)))))
theorem f148_ok {l0 : Nat} {l1 : Int32} {h : q_H} {o : q_O} {hz : q_H} {x : (Int32 ⊕ Nat) × q_H} (hf : f148 l0 l1 h = some x) (hK : (q_KIX o hz) x) : q_Ev none 148 0 [(0, .ref l0), (1, .int l1)] [] h o hz := by
  unfold f148 at hf
  refine ev_aload_n (q_cod qk148 rfl) (by decide) rfl ?_
  refine ev_aload_n (q_cod qk148 rfl) (by decide) rfl ?_
  refine em_gR (q_cod qk148 rfl) (by decide) (by decide) hf (fun r1 hf => ?_)
  refine ev_iload_n (q_cod qk148 rfl) (by decide) rfl ?_
  obtain ⟨g2, hf⟩ := m_aK_some hf
  refine em_callX (v := (fun _ => none)) (q_cod qk148 rfl) (by decide) (q_cokV rfl rfl (Or.inr g2)) rfl (fun x e => f165_cl e) rfl hf (fun _ h hf => ?_) (fun E4 h hf => ?_)
  · refine ev_aload_n (q_cod qk148 rfl) (by decide) rfl ?_
    refine ev_aload_n (q_cod qk148 rfl) (by decide) rfl ?_
    refine em_gR (q_cod qk148 rfl) (by decide) (by decide) hf (fun r5 hf => ?_)
    obtain ⟨g6, hf⟩ := m_aK_some hf
    refine em_callX (v := (fun _ => none)) (q_cod qk148 rfl) (by decide) (q_cokV rfl rfl (Or.inr g6)) rfl (fun x e => f169_cl e) rfl hf (fun _ h hf => ?_) (fun E8 h hf => ?_)
    · refine ev_aload_n (q_cod qk148 rfl) (by decide) rfl ?_
      refine ev_aload_n (q_cod qk148 rfl) (by decide) rfl ?_
      refine em_gR (q_cod qk148 rfl) (by decide) (by decide) hf (fun r9 hf => ?_)
      refine ev_aload_n (q_cod qk148 rfl) (by decide) rfl ?_
      refine em_gR (q_cod qk148 rfl) (by decide) (by decide) hf (fun r10 hf => ?_)
      refine ev_aload_n (q_cod qk148 rfl) (by decide) rfl ?_
      obtain ⟨g11, hf⟩ := m_aK_some hf
      refine em_call (v := (fun u => some (.ref u))) (q_cod qk148 rfl) rfl rfl (q_cokV rfl rfl (Or.inr g11)) rfl (fun x e => f172_cl e) hf (fun r12 h hf => ?_)
      refine ev_iload_n (q_cod qk148 rfl) (by decide) rfl ?_
      obtain ⟨g13, hf⟩ := m_aK_some hf
      refine em_call (v := (fun u => some (.int u))) (q_cod qk148 rfl) rfl rfl (q_cokV rfl rfl (Or.inr g13)) rfl (fun x e => f61_cl e) hf (fun v14 h hf => ?_)
      obtain ⟨g15, hf⟩ := m_aK_some hf
      refine em_call (v := (fun u => some (.int u))) (q_cod qk148 rfl) rfl rfl (q_cokV rfl rfl (Or.inr g15)) rfl (fun x e => f173_cl e) hf (fun v16 h hf => ?_)
      obtain rfl := m_R_inv hf
      obtain ⟨rfl, rfl⟩ := (show q_KIX o hz ((.inl v16), _) from hK)
      exact ev_ret (q_cod qk148 rfl) rfl
    · obtain ⟨g, hf⟩ := m_G_some hf
      obtain rfl := m_R_inv hf
      exact ⟨g, hK⟩
  · obtain ⟨g, hf⟩ := m_G_some hf
    obtain rfl := m_R_inv hf
    exact ⟨g, hK⟩
theorem f148_cl {l0 : Nat} {l1 : Int32} {h : q_H} {x : (Int32 ⊕ Nat) × q_H} (hf : f148 l0 l1 h = some x) : q_Cl 148 [.ref l0, .int l1] h (q_oX (fun u => some (.int u)) x.1) x.2 := q_Cl.of rfl (q_LvS rfl rfl) (f148_ok hf ⟨rfl, rfl⟩)
/-! SmithyBench.enclose(IIII)I -/
theorem qk149 : q_cs.getD 149 [] = qc_149 := rfl
def f149 (l0 : Nat) (l1 : Int32) (l2 : Int32) (l3 : Int32) (l4 : Int32) : m_M (Int32 ⊕ Nat) :=
  m_B (m_aK l0 11) (fun _ => m_T (f168 l0 l1 l2) (fun _ => m_B (m_aK l0 11) (fun _ => m_T (f160 l0 l3) (fun _ => m_B (m_aK l0 11) (fun _ => m_T (f160 l0 l4) (fun _ => m_B (m_gR 11 l0 10) (fun r10 => m_B (m_aK l0 11) (fun _ => m_T (f169 l0 r10) (fun _ => m_B (m_gR 11 l0 7) (fun r14 => m_B (m_gR 11 l0 10) (fun r15 => m_B (m_aK l0 11) (fun _ => m_B (f172 l0) (fun r17 => m_B (m_aK r14 6) (fun _ => m_B (f67 r14 r15 r17 l1 l2 l3 l4) (fun v19 => m_B (m_aK l0 11) (fun _ => m_B (f173 l0 v19) (fun v21 => m_R (.inl v21)))))))))) (fun E13 => m_B (m_G (E13 < 3)) (fun _ => m_R (.inr E13)))))) (fun E9 => m_B (m_G (E9 < 3)) (fun _ => m_R (.inr E9))))) (fun E6 => m_B (m_G (E6 < 3)) (fun _ => m_R (.inr E6))))) (fun E3 => m_B (m_G (E3 < 3)) (fun _ => m_R (.inr E3))))
theorem f149_ok {l0 : Nat} {l1 : Int32} {l2 : Int32} {l3 : Int32} {l4 : Int32} {h : q_H} {o : q_O} {hz : q_H} {x : (Int32 ⊕ Nat) × q_H} (hf : f149 l0 l1 l2 l3 l4 h = some x) (hK : (q_KIX o hz) x) : q_Ev none 149 0 [(0, .ref l0), (1, .int l1), (2, .int l2), (3, .int l3), (4, .int l4)] [] h o hz := by
  unfold f149 at hf
  refine ev_aload_n (q_cod qk149 rfl) (by decide) rfl ?_
  refine ev_iload_n (q_cod qk149 rfl) (by decide) rfl ?_
  refine ev_iload_n (q_cod qk149 rfl) (by decide) rfl ?_
  obtain ⟨g1, hf⟩ := m_aK_some hf
  refine em_callX (v := (fun _ => none)) (q_cod qk149 rfl) (by decide) (q_cokV rfl rfl (Or.inr g1)) rfl (fun x e => f168_cl e) rfl hf (fun _ h hf => ?_) (fun E3 h hf => ?_)
  · refine ev_aload_n (q_cod qk149 rfl) (by decide) rfl ?_
    refine ev_iload_n (q_cod qk149 rfl) (by decide) rfl ?_
    obtain ⟨g4, hf⟩ := m_aK_some hf
    refine em_callX (v := (fun _ => none)) (q_cod qk149 rfl) (by decide) (q_cokV rfl rfl (Or.inr g4)) rfl (fun x e => f160_cl e) rfl hf (fun _ h hf => ?_) (fun E6 h hf => ?_)
    · refine ev_aload_n (q_cod qk149 rfl) (by decide) rfl ?_
      refine ev_iload (q_cod qk149 rfl) (by decide) rfl ?_
      obtain ⟨g7, hf⟩ := m_aK_some hf
      refine em_callX (v := (fun _ => none)) (q_cod qk149 rfl) (by decide) (q_cokV rfl rfl (Or.inr g7)) rfl (fun x e => f160_cl e) rfl hf (fun _ h hf => ?_) (fun E9 h hf => ?_)
      · refine ev_aload_n (q_cod qk149 rfl) (by decide) rfl ?_
        refine ev_aload_n (q_cod qk149 rfl) (by decide) rfl ?_
        refine em_gR (q_cod qk149 rfl) (by decide) (by decide) hf (fun r10 hf => ?_)
        obtain ⟨g11, hf⟩ := m_aK_some hf
        refine em_callX (v := (fun _ => none)) (q_cod qk149 rfl) (by decide) (q_cokV rfl rfl (Or.inr g11)) rfl (fun x e => f169_cl e) rfl hf (fun _ h hf => ?_) (fun E13 h hf => ?_)
        · refine ev_aload_n (q_cod qk149 rfl) (by decide) rfl ?_
          refine ev_aload_n (q_cod qk149 rfl) (by decide) rfl ?_
          refine em_gR (q_cod qk149 rfl) (by decide) (by decide) hf (fun r14 hf => ?_)
          refine ev_aload_n (q_cod qk149 rfl) (by decide) rfl ?_
          refine em_gR (q_cod qk149 rfl) (by decide) (by decide) hf (fun r15 hf => ?_)
          refine ev_aload_n (q_cod qk149 rfl) (by decide) rfl ?_
          obtain ⟨g16, hf⟩ := m_aK_some hf
          refine em_call (v := (fun u => some (.ref u))) (q_cod qk149 rfl) rfl rfl (q_cokV rfl rfl (Or.inr g16)) rfl (fun x e => f172_cl e) hf (fun r17 h hf => ?_)
          refine ev_iload_n (q_cod qk149 rfl) (by decide) rfl ?_
          refine ev_iload_n (q_cod qk149 rfl) (by decide) rfl ?_
          refine ev_iload_n (q_cod qk149 rfl) (by decide) rfl ?_
          refine ev_iload (q_cod qk149 rfl) (by decide) rfl ?_
          obtain ⟨g18, hf⟩ := m_aK_some hf
          refine em_call (v := (fun u => some (.int u))) (q_cod qk149 rfl) rfl rfl (q_cokV rfl rfl (Or.inr g18)) rfl (fun x e => f67_cl e) hf (fun v19 h hf => ?_)
          obtain ⟨g20, hf⟩ := m_aK_some hf
          refine em_call (v := (fun u => some (.int u))) (q_cod qk149 rfl) rfl rfl (q_cokV rfl rfl (Or.inr g20)) rfl (fun x e => f173_cl e) hf (fun v21 h hf => ?_)
          obtain rfl := m_R_inv hf
          obtain ⟨rfl, rfl⟩ := (show q_KIX o hz ((.inl v21), _) from hK)
          exact ev_ret (q_cod qk149 rfl) rfl
        · obtain ⟨g, hf⟩ := m_G_some hf
          obtain rfl := m_R_inv hf
          exact ⟨g, hK⟩
      · obtain ⟨g, hf⟩ := m_G_some hf
        obtain rfl := m_R_inv hf
        exact ⟨g, hK⟩
    · obtain ⟨g, hf⟩ := m_G_some hf
      obtain rfl := m_R_inv hf
      exact ⟨g, hK⟩
  · obtain ⟨g, hf⟩ := m_G_some hf
    obtain rfl := m_R_inv hf
    exact ⟨g, hK⟩
theorem f149_cl {l0 : Nat} {l1 : Int32} {l2 : Int32} {l3 : Int32} {l4 : Int32} {h : q_H} {x : (Int32 ⊕ Nat) × q_H} (hf : f149 l0 l1 l2 l3 l4 h = some x) : q_Cl 149 [.ref l0, .int l1, .int l2, .int l3, .int l4] h (q_oX (fun u => some (.int u)) x.1) x.2 := q_Cl.of rfl (q_LvS rfl rfl) (f149_ok hf ⟨rfl, rfl⟩)
/-! SmithyBench.removeDead(I)I -/
theorem qk150 : q_cs.getD 150 [] = qc_150 := rfl
def f150 (l0 : Nat) (l1 : Int32) : m_M (Int32 ⊕ Nat) :=
  m_B (m_gR 11 l0 10) (fun r1 => m_B (m_aK l0 11) (fun _ => m_T (f165 l0 r1 l1) (fun _ => m_B (m_gR 11 l0 10) (fun r5 => m_B (m_aK l0 11) (fun _ => m_T (f169 l0 r5) (fun _ => m_B (m_gR 11 l0 7) (fun r9 => m_B (m_gR 11 l0 10) (fun r10 => m_B (m_aK l0 11) (fun _ => m_B (f172 l0) (fun r12 => m_B (m_aK r9 6) (fun _ => m_B (f68 r9 r10 r12 l1) (fun v14 => m_B (m_aK l0 11) (fun _ => m_B (f173 l0 v14) (fun v16 => m_R (.inl v16)))))))))) (fun E8 => m_B (m_G (E8 < 3)) (fun _ => m_R (.inr E8)))))) (fun E4 => m_B (m_G (E4 < 3)) (fun _ => m_R (.inr E4)))))
theorem f150_ok {l0 : Nat} {l1 : Int32} {h : q_H} {o : q_O} {hz : q_H} {x : (Int32 ⊕ Nat) × q_H} (hf : f150 l0 l1 h = some x) (hK : (q_KIX o hz) x) : q_Ev none 150 0 [(0, .ref l0), (1, .int l1)] [] h o hz := by
  unfold f150 at hf
  refine ev_aload_n (q_cod qk150 rfl) (by decide) rfl ?_
  refine ev_aload_n (q_cod qk150 rfl) (by decide) rfl ?_
  refine em_gR (q_cod qk150 rfl) (by decide) (by decide) hf (fun r1 hf => ?_)
  refine ev_iload_n (q_cod qk150 rfl) (by decide) rfl ?_
  obtain ⟨g2, hf⟩ := m_aK_some hf
  refine em_callX (v := (fun _ => none)) (q_cod qk150 rfl) (by decide) (q_cokV rfl rfl (Or.inr g2)) rfl (fun x e => f165_cl e) rfl hf (fun _ h hf => ?_) (fun E4 h hf => ?_)
  · refine ev_aload_n (q_cod qk150 rfl) (by decide) rfl ?_
    refine ev_aload_n (q_cod qk150 rfl) (by decide) rfl ?_
    refine em_gR (q_cod qk150 rfl) (by decide) (by decide) hf (fun r5 hf => ?_)
    obtain ⟨g6, hf⟩ := m_aK_some hf
    refine em_callX (v := (fun _ => none)) (q_cod qk150 rfl) (by decide) (q_cokV rfl rfl (Or.inr g6)) rfl (fun x e => f169_cl e) rfl hf (fun _ h hf => ?_) (fun E8 h hf => ?_)
    · refine ev_aload_n (q_cod qk150 rfl) (by decide) rfl ?_
      refine ev_aload_n (q_cod qk150 rfl) (by decide) rfl ?_
      refine em_gR (q_cod qk150 rfl) (by decide) (by decide) hf (fun r9 hf => ?_)
      refine ev_aload_n (q_cod qk150 rfl) (by decide) rfl ?_
      refine em_gR (q_cod qk150 rfl) (by decide) (by decide) hf (fun r10 hf => ?_)
      refine ev_aload_n (q_cod qk150 rfl) (by decide) rfl ?_
      obtain ⟨g11, hf⟩ := m_aK_some hf
      refine em_call (v := (fun u => some (.ref u))) (q_cod qk150 rfl) rfl rfl (q_cokV rfl rfl (Or.inr g11)) rfl (fun x e => f172_cl e) hf (fun r12 h hf => ?_)
      refine ev_iload_n (q_cod qk150 rfl) (by decide) rfl ?_
      obtain ⟨g13, hf⟩ := m_aK_some hf
      refine em_call (v := (fun u => some (.int u))) (q_cod qk150 rfl) rfl rfl (q_cokV rfl rfl (Or.inr g13)) rfl (fun x e => f68_cl e) hf (fun v14 h hf => ?_)
      obtain ⟨g15, hf⟩ := m_aK_some hf
      refine em_call (v := (fun u => some (.int u))) (q_cod qk150 rfl) rfl rfl (q_cokV rfl rfl (Or.inr g15)) rfl (fun x e => f173_cl e) hf (fun v16 h hf => ?_)
      obtain rfl := m_R_inv hf
      obtain ⟨rfl, rfl⟩ := (show q_KIX o hz ((.inl v16), _) from hK)
      exact ev_ret (q_cod qk150 rfl) rfl
    · obtain ⟨g, hf⟩ := m_G_some hf
      obtain rfl := m_R_inv hf
      exact ⟨g, hK⟩
  · obtain ⟨g, hf⟩ := m_G_some hf
    obtain rfl := m_R_inv hf
    exact ⟨g, hK⟩
theorem f150_cl {l0 : Nat} {l1 : Int32} {h : q_H} {x : (Int32 ⊕ Nat) × q_H} (hf : f150 l0 l1 h = some x) : q_Cl 150 [.ref l0, .int l1] h (q_oX (fun u => some (.int u)) x.1) x.2 := q_Cl.of rfl (q_LvS rfl rfl) (f150_ok hf ⟨rfl, rfl⟩)
/-! SmithyBench.undo()I -/
theorem qk151 : q_cs.getD 151 [] = qc_151 := rfl
def f151 (l0 : Nat) : m_M (Int32 ⊕ Nat) :=
  m_B (m_gI 11 l0 13) (fun v1 => if 0 < v1 then (m_B (m_gI 11 l0 13) (fun v2 => m_B (m_pI 11 l0 13 (v2 - 1)) (fun _ => m_B (m_gR 11 l0 10) (fun r3 => m_B (m_gR 11 l0 9) (fun r4 => m_B (m_gI 11 l0 13) (fun v5 => m_B (m_lR r4 v5) (fun r6 => m_B (m_pR 11 l0 10 r6) (fun _ => m_B (m_gR 11 l0 9) (fun r7 => m_B (m_gI 11 l0 13) (fun v8 => m_B (m_wR r7 v8 r3) (fun _ => m_B (m_gI 11 l0 13) (fun v9 => m_R (.inl v9))))))))))))) else (m_thr 0))
theorem f151_ok {l0 : Nat} {h : q_H} {o : q_O} {hz : q_H} {x : (Int32 ⊕ Nat) × q_H} (hf : f151 l0 h = some x) (hK : (q_KIX o hz) x) : q_Ev none 151 0 [(0, .ref l0)] [] h o hz := by
  unfold f151 at hf
  refine ev_aload_n (q_cod qk151 rfl) (by decide) rfl ?_
  refine em_gI (q_cod qk151 rfl) (by decide) (by decide) hf (fun v1 hf => ?_)
  refine em_if_gt (q_cod qk151 rfl) (by decide) hf (fun c10 hf => ?_) (fun c10 hf => ?_)
  · refine ev_aload_n (q_cod qk151 rfl) (by decide) rfl ?_
    refine ev_dup (q_cod qk151 rfl) (by decide) rfl ?_
    refine em_gI (q_cod qk151 rfl) (by decide) (by decide) hf (fun v2 hf => ?_)
    refine ev_ic (v := 1) (q_cod qk151 rfl) (by decide) (by decide) ?_
    refine ev_isub (q_cod qk151 rfl) (by decide) ?_
    refine em_pI (q_cod qk151 rfl) (by decide) (by decide) (by decide) hf (fun hf => ?_)
    refine ev_aload_n (q_cod qk151 rfl) (by decide) rfl ?_
    refine em_gR (q_cod qk151 rfl) (by decide) (by decide) hf (fun r3 hf => ?_)
    refine ev_as1 (L' := [(0, .ref l0), (1, .ref r3)]) (q_cod qk151 rfl) (by decide) rfl ?_
    refine ev_aload_n (q_cod qk151 rfl) (by decide) rfl ?_
    refine ev_aload_n (q_cod qk151 rfl) (by decide) rfl ?_
    refine em_gR (q_cod qk151 rfl) (by decide) (by decide) hf (fun r4 hf => ?_)
    refine ev_aload_n (q_cod qk151 rfl) (by decide) rfl ?_
    refine em_gI (q_cod qk151 rfl) (by decide) (by decide) hf (fun v5 hf => ?_)
    refine em_lR (q_cod qk151 rfl) (by decide) hf (fun r6 hf => ?_)
    refine em_pR (q_cod qk151 rfl) (by decide) (by decide) (by decide) hf (fun hf => ?_)
    refine ev_aload_n (q_cod qk151 rfl) (by decide) rfl ?_
    refine em_gR (q_cod qk151 rfl) (by decide) (by decide) hf (fun r7 hf => ?_)
    refine ev_aload_n (q_cod qk151 rfl) (by decide) rfl ?_
    refine em_gI (q_cod qk151 rfl) (by decide) (by decide) hf (fun v8 hf => ?_)
    refine ev_aload_n (q_cod qk151 rfl) (by decide) rfl ?_
    refine em_wR (q_cod qk151 rfl) (by decide) hf (fun hf => ?_)
    refine ev_aload_n (q_cod qk151 rfl) (by decide) rfl ?_
    refine em_gI (q_cod qk151 rfl) (by decide) (by decide) hf (fun v9 hf => ?_)
    obtain rfl := m_R_inv hf
    obtain ⟨rfl, rfl⟩ := (show q_KIX o hz ((.inl v9), _) from hK)
    exact ev_ret (q_cod qk151 rfl) rfl
  · cases hf
    obtain ⟨rfl, rfl⟩ := (show q_KIX o hz (.inr 0, q_ex1 _) from hK)
    exact em_throw (q_cod qk151 rfl) (by decide) (by decide) rfl (Nat.le_of_ble_eq_true rfl)
theorem f151_cl {l0 : Nat} {h : q_H} {x : (Int32 ⊕ Nat) × q_H} (hf : f151 l0 h = some x) : q_Cl 151 [.ref l0] h (q_oX (fun u => some (.int u)) x.1) x.2 := q_Cl.of rfl (q_LvS rfl rfl) (f151_ok hf ⟨rfl, rfl⟩)
/-! SmithyBench.tell(II)I -/
theorem qk152 : q_cs.getD 152 [] = qc_152 := rfl
def f152 (l0 : Nat) (l1 : Int32) (l2 : Int32) : m_M (Int32 ⊕ Nat) :=
  m_B (m_gR 11 l0 10) (fun r1 => m_B (m_aK l0 11) (fun _ => m_T (f165 l0 r1 l1) (fun _ => if (l2).toInt = 0 then (m_B (m_gR 11 l0 10) (fun r6 => m_B (m_gR 7 r6 3) (fun r7 => m_B (m_lI r7 l1) (fun v8 => m_R (.inl v8))))) else (if (l2).toInt = 1 then (m_B (m_gR 11 l0 10) (fun r10 => m_B (m_gR 7 r10 4) (fun r11 => m_B (m_lI r11 l1) (fun v12 => m_R (.inl v12))))) else (if (l2).toInt = 2 then (m_B (m_gR 11 l0 10) (fun r14 => m_B (m_gR 7 r14 5) (fun r15 => m_B (m_lI r15 l1) (fun v16 => m_R (.inl v16))))) else (if (l2).toInt = 3 then (m_B (m_gR 11 l0 10) (fun r18 => m_B (m_gR 7 r18 6) (fun r19 => m_B (m_lI r19 (l1 * 2)) (fun v20 => m_R (.inl v20))))) else (if (l2).toInt = 4 then (m_B (m_gR 11 l0 10) (fun r22 => m_B (m_gR 7 r22 6) (fun r23 => m_B (m_lI r23 ((l1 * 2) + 1)) (fun v24 => m_R (.inl v24))))) else (if (l2).toInt = 5 then (m_B (m_gR 11 l0 10) (fun r26 => m_B (m_gR 7 r26 8) (fun r27 => m_B (m_lI r27 l1) (fun v28 => m_R (.inl v28))))) else (if (l2).toInt = 6 then (m_B (m_gR 11 l0 10) (fun r30 => m_B (m_gR 7 r30 9) (fun r31 => m_B (m_lR r31 l1) (fun r32 => m_B (m_gI 0 r32 7) (fun v33 => m_R (.inl v33)))))) else (if (l2).toInt = 7 then (m_B (m_gR 11 l0 10) (fun r35 => m_B (m_aK r35 7) (fun _ => m_B (f95 r35 l1) (fun v37 => m_B (f309 v37) (fun v38 => m_R (.inl v38)))))) else (m_thr 1))))))))) (fun E4 => m_B (m_G (E4 < 3)) (fun _ => m_R (.inr E4)))))
theorem f152_ok {l0 : Nat} {l1 : Int32} {l2 : Int32} {h : q_H} {o : q_O} {hz : q_H} {x : (Int32 ⊕ Nat) × q_H} (hf : f152 l0 l1 l2 h = some x) (hK : (q_KIX o hz) x) : q_Ev none 152 0 [(0, .ref l0), (1, .int l1), (2, .int l2)] [] h o hz := by
  unfold f152 at hf
  refine ev_aload_n (q_cod qk152 rfl) (by decide) rfl ?_
  refine ev_aload_n (q_cod qk152 rfl) (by decide) rfl ?_
  refine em_gR (q_cod qk152 rfl) (by decide) (by decide) hf (fun r1 hf => ?_)
  refine ev_iload_n (q_cod qk152 rfl) (by decide) rfl ?_
  obtain ⟨g2, hf⟩ := m_aK_some hf
  refine em_callX (v := (fun _ => none)) (q_cod qk152 rfl) (by decide) (q_cokV rfl rfl (Or.inr g2)) rfl (fun x e => f165_cl e) rfl hf (fun _ h hf => ?_) (fun E4 h hf => ?_)
  · refine ev_iload_n (q_cod qk152 rfl) (by decide) rfl ?_
    rcases m_iteM hf with ⟨c5, hf⟩ | ⟨c5, hf⟩
    · refine ev_tsw (q_cod qk152 rfl) (by decide) (t := 56) (by rw [c5]; rfl) ?_
      refine ev_aload_n (q_cod qk152 rfl) (by decide) rfl ?_
      refine em_gR (q_cod qk152 rfl) (by decide) (by decide) hf (fun r6 hf => ?_)
      refine em_gR (q_cod qk152 rfl) (by decide) (by decide) hf (fun r7 hf => ?_)
      refine ev_iload_n (q_cod qk152 rfl) (by decide) rfl ?_
      refine em_lI (q_cod qk152 rfl) (by decide) hf (fun v8 hf => ?_)
      obtain rfl := m_R_inv hf
      obtain ⟨rfl, rfl⟩ := (show q_KIX o hz ((.inl v8), _) from hK)
      exact ev_ret (q_cod qk152 rfl) rfl
    rcases m_iteM hf with ⟨c9, hf⟩ | ⟨c9, hf⟩
    · refine ev_tsw (q_cod qk152 rfl) (by decide) (t := 66) (by rw [c9]; rfl) ?_
      refine ev_aload_n (q_cod qk152 rfl) (by decide) rfl ?_
      refine em_gR (q_cod qk152 rfl) (by decide) (by decide) hf (fun r10 hf => ?_)
      refine em_gR (q_cod qk152 rfl) (by decide) (by decide) hf (fun r11 hf => ?_)
      refine ev_iload_n (q_cod qk152 rfl) (by decide) rfl ?_
      refine em_lI (q_cod qk152 rfl) (by decide) hf (fun v12 hf => ?_)
      obtain rfl := m_R_inv hf
      obtain ⟨rfl, rfl⟩ := (show q_KIX o hz ((.inl v12), _) from hK)
      exact ev_ret (q_cod qk152 rfl) rfl
    rcases m_iteM hf with ⟨c13, hf⟩ | ⟨c13, hf⟩
    · refine ev_tsw (q_cod qk152 rfl) (by decide) (t := 76) (by rw [c13]; rfl) ?_
      refine ev_aload_n (q_cod qk152 rfl) (by decide) rfl ?_
      refine em_gR (q_cod qk152 rfl) (by decide) (by decide) hf (fun r14 hf => ?_)
      refine em_gR (q_cod qk152 rfl) (by decide) (by decide) hf (fun r15 hf => ?_)
      refine ev_iload_n (q_cod qk152 rfl) (by decide) rfl ?_
      refine em_lI (q_cod qk152 rfl) (by decide) hf (fun v16 hf => ?_)
      obtain rfl := m_R_inv hf
      obtain ⟨rfl, rfl⟩ := (show q_KIX o hz ((.inl v16), _) from hK)
      exact ev_ret (q_cod qk152 rfl) rfl
    rcases m_iteM hf with ⟨c17, hf⟩ | ⟨c17, hf⟩
    · refine ev_tsw (q_cod qk152 rfl) (by decide) (t := 86) (by rw [c17]; rfl) ?_
      refine ev_aload_n (q_cod qk152 rfl) (by decide) rfl ?_
      refine em_gR (q_cod qk152 rfl) (by decide) (by decide) hf (fun r18 hf => ?_)
      refine em_gR (q_cod qk152 rfl) (by decide) (by decide) hf (fun r19 hf => ?_)
      refine ev_iload_n (q_cod qk152 rfl) (by decide) rfl ?_
      refine ev_ic (v := 2) (q_cod qk152 rfl) (by decide) (by decide) ?_
      refine ev_imul (q_cod qk152 rfl) (by decide) ?_
      refine em_lI (q_cod qk152 rfl) (by decide) hf (fun v20 hf => ?_)
      obtain rfl := m_R_inv hf
      obtain ⟨rfl, rfl⟩ := (show q_KIX o hz ((.inl v20), _) from hK)
      exact ev_ret (q_cod qk152 rfl) rfl
    rcases m_iteM hf with ⟨c21, hf⟩ | ⟨c21, hf⟩
    · refine ev_tsw (q_cod qk152 rfl) (by decide) (t := 98) (by rw [c21]; rfl) ?_
      refine ev_aload_n (q_cod qk152 rfl) (by decide) rfl ?_
      refine em_gR (q_cod qk152 rfl) (by decide) (by decide) hf (fun r22 hf => ?_)
      refine em_gR (q_cod qk152 rfl) (by decide) (by decide) hf (fun r23 hf => ?_)
      refine ev_iload_n (q_cod qk152 rfl) (by decide) rfl ?_
      refine ev_ic (v := 2) (q_cod qk152 rfl) (by decide) (by decide) ?_
      refine ev_imul (q_cod qk152 rfl) (by decide) ?_
      refine ev_ic (v := 1) (q_cod qk152 rfl) (by decide) (by decide) ?_
      refine ev_iadd (q_cod qk152 rfl) (by decide) ?_
      refine em_lI (q_cod qk152 rfl) (by decide) hf (fun v24 hf => ?_)
      obtain rfl := m_R_inv hf
      obtain ⟨rfl, rfl⟩ := (show q_KIX o hz ((.inl v24), _) from hK)
      exact ev_ret (q_cod qk152 rfl) rfl
    rcases m_iteM hf with ⟨c25, hf⟩ | ⟨c25, hf⟩
    · refine ev_tsw (q_cod qk152 rfl) (by decide) (t := 112) (by rw [c25]; rfl) ?_
      refine ev_aload_n (q_cod qk152 rfl) (by decide) rfl ?_
      refine em_gR (q_cod qk152 rfl) (by decide) (by decide) hf (fun r26 hf => ?_)
      refine em_gR (q_cod qk152 rfl) (by decide) (by decide) hf (fun r27 hf => ?_)
      refine ev_iload_n (q_cod qk152 rfl) (by decide) rfl ?_
      refine em_lI (q_cod qk152 rfl) (by decide) hf (fun v28 hf => ?_)
      obtain rfl := m_R_inv hf
      obtain ⟨rfl, rfl⟩ := (show q_KIX o hz ((.inl v28), _) from hK)
      exact ev_ret (q_cod qk152 rfl) rfl
    rcases m_iteM hf with ⟨c29, hf⟩ | ⟨c29, hf⟩
    · refine ev_tsw (q_cod qk152 rfl) (by decide) (t := 122) (by rw [c29]; rfl) ?_
      refine ev_aload_n (q_cod qk152 rfl) (by decide) rfl ?_
      refine em_gR (q_cod qk152 rfl) (by decide) (by decide) hf (fun r30 hf => ?_)
      refine em_gR (q_cod qk152 rfl) (by decide) (by decide) hf (fun r31 hf => ?_)
      refine ev_iload_n (q_cod qk152 rfl) (by decide) rfl ?_
      refine em_lR (q_cod qk152 rfl) (by decide) hf (fun r32 hf => ?_)
      refine em_gI (q_cod qk152 rfl) (by decide) (by decide) hf (fun v33 hf => ?_)
      obtain rfl := m_R_inv hf
      obtain ⟨rfl, rfl⟩ := (show q_KIX o hz ((.inl v33), _) from hK)
      exact ev_ret (q_cod qk152 rfl) rfl
    rcases m_iteM hf with ⟨c34, hf⟩ | ⟨c34, hf⟩
    · refine ev_tsw (q_cod qk152 rfl) (by decide) (t := 135) (by rw [c34]; rfl) ?_
      refine ev_aload_n (q_cod qk152 rfl) (by decide) rfl ?_
      refine em_gR (q_cod qk152 rfl) (by decide) (by decide) hf (fun r35 hf => ?_)
      refine ev_iload_n (q_cod qk152 rfl) (by decide) rfl ?_
      obtain ⟨g36, hf⟩ := m_aK_some hf
      refine em_call (v := (fun u => some (.int u))) (q_cod qk152 rfl) rfl rfl (q_cokV rfl rfl (Or.inr g36)) rfl (fun x e => f95_cl e) hf (fun v37 h hf => ?_)
      refine em_call (v := (fun u => some (.int u))) (q_cod qk152 rfl) rfl rfl (q_cokS rfl rfl) rfl (fun x e => f309_cl e) hf (fun v38 h hf => ?_)
      obtain rfl := m_R_inv hf
      obtain ⟨rfl, rfl⟩ := (show q_KIX o hz ((.inl v38), _) from hK)
      exact ev_ret (q_cod qk152 rfl) rfl
    refine ev_tsw (q_cod qk152 rfl) (by decide) (t := 147) (by rw [if_pos (by omega)]; rfl) ?_
    cases hf
    obtain ⟨rfl, rfl⟩ := (show q_KIX o hz (.inr 1, q_ex1 _) from hK)
    exact em_throw (q_cod qk152 rfl) (by decide) (by decide) rfl (Nat.le_of_ble_eq_true rfl)
  · obtain ⟨g, hf⟩ := m_G_some hf
    obtain rfl := m_R_inv hf
    exact ⟨g, hK⟩
theorem f152_cl {l0 : Nat} {l1 : Int32} {l2 : Int32} {h : q_H} {x : (Int32 ⊕ Nat) × q_H} (hf : f152 l0 l1 l2 h = some x) : q_Cl 152 [.ref l0, .int l1, .int l2] h (q_oX (fun u => some (.int u)) x.1) x.2 := q_Cl.of rfl (q_LvS rfl rfl) (f152_ok hf ⟨rfl, rfl⟩)
/-! SmithyBench.node(III)I -/
theorem qk153 : q_cs.getD 153 [] = qc_153 := rfl
def f153_97 (s0 : Int32) : m_M (Int32 ⊕ Nat) :=
  m_R (.inl s0)
theorem f153_97_ok {s0 : Int32} {h : q_H} {o : q_O} {hz : q_H} {x : (Int32 ⊕ Nat) × q_H} (hf : f153_97 s0 h = some x) (hK : (q_KIX o hz) x) : q_Ev none 153 97 [] [.int s0] h o hz := by
  unfold f153_97 at hf
  obtain rfl := m_R_inv hf
  obtain ⟨rfl, rfl⟩ := (show q_KIX o hz ((.inl s0), _) from hK)
  exact ev_ret (q_cod qk153 rfl) rfl
def f153_123 (s0 : Int32) : m_M (Int32 ⊕ Nat) :=
  m_R (.inl s0)
theorem f153_123_ok {s0 : Int32} {h : q_H} {o : q_O} {hz : q_H} {x : (Int32 ⊕ Nat) × q_H} (hf : f153_123 s0 h = some x) (hK : (q_KIX o hz) x) : q_Ev none 153 123 [] [.int s0] h o hz := by
  unfold f153_123 at hf
  obtain rfl := m_R_inv hf
  obtain ⟨rfl, rfl⟩ := (show q_KIX o hz ((.inl s0), _) from hK)
  exact ev_ret (q_cod qk153 rfl) rfl
def f153 (l0 : Nat) (l1 : Int32) (l2 : Int32) (l3 : Int32) : m_M (Int32 ⊕ Nat) :=
  m_B (m_gR 11 l0 10) (fun r1 => m_B (m_aK l0 11) (fun _ => m_T (f165 l0 r1 l1) (fun _ => m_B (m_aK l0 11) (fun _ => m_T (f166 l0 l1 l2) (fun _ => m_B (m_gR 11 l0 10) (fun r8 => m_B (m_gR 7 r8 9) (fun r9 => m_B (m_lR r9 l1) (fun r10 => if (l3).toInt = 0 then (m_B (m_gR 0 r10 0) (fun r12 => m_B (m_lI r12 l2) (fun v13 => m_R (.inl v13)))) else (if (l3).toInt = 1 then (m_B (m_gR 0 r10 1) (fun r15 => m_B (m_lI r15 l2) (fun v16 => m_R (.inl v16)))) else (if (l3).toInt = 2 then (m_B (m_gR 11 l0 1) (fun r18 => m_B (m_gR 11 l0 10) (fun r19 => m_B (m_aK r18 1) (fun _ => m_B (f21 r18 r19) (fun v21 => if v21 = 0 then (f153_97 0) else (m_B (m_gR 0 r10 4) (fun r22 => m_B (m_lI r22 l2) (fun v23 => f153_97 v23)))))))) else (if (l3).toInt = 3 then (m_B (m_gR 11 l0 1) (fun r26 => m_B (m_gR 11 l0 10) (fun r27 => m_B (m_aK r26 1) (fun _ => m_B (f21 r26 r27) (fun v29 => if v29 = 0 then (f153_123 0) else (m_B (m_gR 0 r10 5) (fun r30 => m_B (m_lI r30 l2) (fun v31 => f153_123 v31)))))))) else (m_thr 1)))))))) (fun E7 => m_B (m_G (E7 < 3)) (fun _ => m_R (.inr E7))))) (fun E4 => m_B (m_G (E4 < 3)) (fun _ => m_R (.inr E4)))))
theorem f153_ok {l0 : Nat} {l1 : Int32} {l2 : Int32} {l3 : Int32} {h : q_H} {o : q_O} {hz : q_H} {x : (Int32 ⊕ Nat) × q_H} (hf : f153 l0 l1 l2 l3 h = some x) (hK : (q_KIX o hz) x) : q_Ev none 153 0 [(0, .ref l0), (1, .int l1), (2, .int l2), (3, .int l3)] [] h o hz := by
  unfold f153 at hf
  refine ev_aload_n (q_cod qk153 rfl) (by decide) rfl ?_
  refine ev_aload_n (q_cod qk153 rfl) (by decide) rfl ?_
  refine em_gR (q_cod qk153 rfl) (by decide) (by decide) hf (fun r1 hf => ?_)
  refine ev_iload_n (q_cod qk153 rfl) (by decide) rfl ?_
  obtain ⟨g2, hf⟩ := m_aK_some hf
  refine em_callX (v := (fun _ => none)) (q_cod qk153 rfl) (by decide) (q_cokV rfl rfl (Or.inr g2)) rfl (fun x e => f165_cl e) rfl hf (fun _ h hf => ?_) (fun E4 h hf => ?_)
  · refine ev_aload_n (q_cod qk153 rfl) (by decide) rfl ?_
    refine ev_iload_n (q_cod qk153 rfl) (by decide) rfl ?_
    refine ev_iload_n (q_cod qk153 rfl) (by decide) rfl ?_
    obtain ⟨g5, hf⟩ := m_aK_some hf
    refine em_callX (v := (fun _ => none)) (q_cod qk153 rfl) (by decide) (q_cokV rfl rfl (Or.inr g5)) rfl (fun x e => f166_cl e) rfl hf (fun _ h hf => ?_) (fun E7 h hf => ?_)
    · refine ev_aload_n (q_cod qk153 rfl) (by decide) rfl ?_
      refine em_gR (q_cod qk153 rfl) (by decide) (by decide) hf (fun r8 hf => ?_)
      refine em_gR (q_cod qk153 rfl) (by decide) (by decide) hf (fun r9 hf => ?_)
      refine ev_iload_n (q_cod qk153 rfl) (by decide) rfl ?_
      refine em_lR (q_cod qk153 rfl) (by decide) hf (fun r10 hf => ?_)
      refine ev_as2 (L' := [(0, .ref l0), (1, .int l1), (2, .int l2), (3, .int l3), (4, .ref r10)]) (q_cod qk153 rfl) (by decide) rfl ?_
      refine ev_iload_n (q_cod qk153 rfl) (by decide) rfl ?_
      rcases m_iteM hf with ⟨c11, hf⟩ | ⟨c11, hf⟩
      · refine ev_tsw (q_cod qk153 rfl) (by decide) (t := 56) (by rw [c11]; rfl) ?_
        refine ev_aload (q_cod qk153 rfl) (by decide) rfl ?_
        refine em_gR (q_cod qk153 rfl) (by decide) (by decide) hf (fun r12 hf => ?_)
        refine ev_iload_n (q_cod qk153 rfl) (by decide) rfl ?_
        refine em_lI (q_cod qk153 rfl) (by decide) hf (fun v13 hf => ?_)
        obtain rfl := m_R_inv hf
        obtain ⟨rfl, rfl⟩ := (show q_KIX o hz ((.inl v13), _) from hK)
        exact ev_ret (q_cod qk153 rfl) rfl
      rcases m_iteM hf with ⟨c14, hf⟩ | ⟨c14, hf⟩
      · refine ev_tsw (q_cod qk153 rfl) (by decide) (t := 64) (by rw [c14]; rfl) ?_
        refine ev_aload (q_cod qk153 rfl) (by decide) rfl ?_
        refine em_gR (q_cod qk153 rfl) (by decide) (by decide) hf (fun r15 hf => ?_)
        refine ev_iload_n (q_cod qk153 rfl) (by decide) rfl ?_
        refine em_lI (q_cod qk153 rfl) (by decide) hf (fun v16 hf => ?_)
        obtain rfl := m_R_inv hf
        obtain ⟨rfl, rfl⟩ := (show q_KIX o hz ((.inl v16), _) from hK)
        exact ev_ret (q_cod qk153 rfl) rfl
      rcases m_iteM hf with ⟨c17, hf⟩ | ⟨c17, hf⟩
      · refine ev_tsw (q_cod qk153 rfl) (by decide) (t := 72) (by rw [c17]; rfl) ?_
        refine ev_aload_n (q_cod qk153 rfl) (by decide) rfl ?_
        refine em_gR (q_cod qk153 rfl) (by decide) (by decide) hf (fun r18 hf => ?_)
        refine ev_aload_n (q_cod qk153 rfl) (by decide) rfl ?_
        refine em_gR (q_cod qk153 rfl) (by decide) (by decide) hf (fun r19 hf => ?_)
        obtain ⟨g20, hf⟩ := m_aK_some hf
        refine em_call (v := (fun u => some (.int u))) (q_cod qk153 rfl) rfl rfl (q_cokV rfl rfl (Or.inr g20)) rfl (fun x e => f21_cl e) hf (fun v21 h hf => ?_)
        refine em_if_eq (q_cod qk153 rfl) (by decide) hf (fun c24 hf => ?_) (fun c24 hf => ?_)
        · refine ev_ic (v := 0) (q_cod qk153 rfl) (by decide) (by decide) ?_
          exact ev_weak (q_pk [] rfl) (f153_97_ok hf hK)
        · refine ev_aload (q_cod qk153 rfl) (by decide) rfl ?_
          refine em_gR (q_cod qk153 rfl) (by decide) (by decide) hf (fun r22 hf => ?_)
          refine ev_iload_n (q_cod qk153 rfl) (by decide) rfl ?_
          refine em_lI (q_cod qk153 rfl) (by decide) hf (fun v23 hf => ?_)
          refine ev_goto (q_cod qk153 rfl) (by decide) ?_
          exact ev_weak (q_pk [] rfl) (f153_97_ok hf hK)
      rcases m_iteM hf with ⟨c25, hf⟩ | ⟨c25, hf⟩
      · refine ev_tsw (q_cod qk153 rfl) (by decide) (t := 98) (by rw [c25]; rfl) ?_
        refine ev_aload_n (q_cod qk153 rfl) (by decide) rfl ?_
        refine em_gR (q_cod qk153 rfl) (by decide) (by decide) hf (fun r26 hf => ?_)
        refine ev_aload_n (q_cod qk153 rfl) (by decide) rfl ?_
        refine em_gR (q_cod qk153 rfl) (by decide) (by decide) hf (fun r27 hf => ?_)
        obtain ⟨g28, hf⟩ := m_aK_some hf
        refine em_call (v := (fun u => some (.int u))) (q_cod qk153 rfl) rfl rfl (q_cokV rfl rfl (Or.inr g28)) rfl (fun x e => f21_cl e) hf (fun v29 h hf => ?_)
        refine em_if_eq (q_cod qk153 rfl) (by decide) hf (fun c32 hf => ?_) (fun c32 hf => ?_)
        · refine ev_ic (v := 0) (q_cod qk153 rfl) (by decide) (by decide) ?_
          exact ev_weak (q_pk [] rfl) (f153_123_ok hf hK)
        · refine ev_aload (q_cod qk153 rfl) (by decide) rfl ?_
          refine em_gR (q_cod qk153 rfl) (by decide) (by decide) hf (fun r30 hf => ?_)
          refine ev_iload_n (q_cod qk153 rfl) (by decide) rfl ?_
          refine em_lI (q_cod qk153 rfl) (by decide) hf (fun v31 hf => ?_)
          refine ev_goto (q_cod qk153 rfl) (by decide) ?_
          exact ev_weak (q_pk [] rfl) (f153_123_ok hf hK)
      refine ev_tsw (q_cod qk153 rfl) (by decide) (t := 124) (by rw [if_pos (by omega)]; rfl) ?_
      cases hf
      obtain ⟨rfl, rfl⟩ := (show q_KIX o hz (.inr 1, q_ex1 _) from hK)
      exact em_throw (q_cod qk153 rfl) (by decide) (by decide) rfl (Nat.le_of_ble_eq_true rfl)
    · obtain ⟨g, hf⟩ := m_G_some hf
      obtain rfl := m_R_inv hf
      exact ⟨g, hK⟩
  · obtain ⟨g, hf⟩ := m_G_some hf
    obtain rfl := m_R_inv hf
    exact ⟨g, hK⟩
theorem f153_cl {l0 : Nat} {l1 : Int32} {l2 : Int32} {l3 : Int32} {h : q_H} {x : (Int32 ⊕ Nat) × q_H} (hf : f153 l0 l1 l2 l3 h = some x) : q_Cl 153 [.ref l0, .int l1, .int l2, .int l3] h (q_oX (fun u => some (.int u)) x.1) x.2 := q_Cl.of rfl (q_LvS rfl rfl) (f153_ok hf ⟨rfl, rfl⟩)
