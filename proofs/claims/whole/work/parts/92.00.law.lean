-- deps: 
/-! SmithyBenchLaw.number(LSmithyBench;I[J)I -/
theorem qk310 : q_cs.getD 310 [] = qc_310 := rfl
def f310 (l0 : Nat) (l1 : Int32) (l2 : Nat) : m_M Int32 :=
  m_B (m_aK l0 11) (fun _ => m_T (f124 l0 l1) (fun v2 => m_B (m_wJ l2 0 (v2.toInt64)) (fun _ => m_R 0)) (fun E3 => m_B (m_G (E3 < 3)) (fun _ => if E3 = 0 then (m_R 1) else (m_F))))
theorem f310_ok {l0 : Nat} {l1 : Int32} {l2 : Nat} {h : q_H} {o : q_O} {hz : q_H} {x : Int32 × q_H} (hf : f310 l0 l1 l2 h = some x) (hK : (q_KI o hz) x) : q_Ev none 310 0 [(0, .ref l0), (1, .int l1), (2, .ref l2)] [] h o hz := by
  unfold f310 at hf
  refine ev_aload_n (q_cod qk310 rfl) (by decide) rfl ?_
  refine ev_ic (v := 0) (q_cod qk310 rfl) (by decide) (by decide) ?_
  refine ev_aload_n (q_cod qk310 rfl) (by decide) rfl ?_
  refine ev_iload_n (q_cod qk310 rfl) (by decide) rfl ?_
  obtain ⟨g1, hf⟩ := m_aK_some hf
  refine em_callC (v := (fun u => some (.int u))) (q_cod qk310 rfl) (by decide) (q_cokV rfl rfl (Or.inr g1)) rfl (fun x e => f124_cl e) hf (fun v2 h hf => ?_) (fun E3 h hf => ?_)
  · refine ev_i2l (q_cod qk310 rfl) (by decide) ?_
    refine em_wJ (q_cod qk310 rfl) (by decide) hf (fun hf => ?_)
    refine ev_goto (q_cod qk310 rfl) (by decide) ?_
    refine ev_ic (v := 0) (q_cod qk310 rfl) (by decide) (by decide) ?_
    obtain rfl := m_R_inv hf
    obtain ⟨rfl, rfl⟩ := (show q_KI o hz (0, _) from hK)
    exact ev_ret (q_cod qk310 rfl) rfl
  · obtain ⟨gE, hf⟩ := m_G_some hf
    rcases m_iteM hf with ⟨c9, hf⟩ | ⟨c9, hf⟩
    · subst c9
      refine ⟨gE, 3, 13, rfl, ?_⟩
      show q_Ev none 310 13 [(0, .ref l0), (1, .int l1), (2, .ref l2)] [] _ o hz
      refine ev_ic (v := 1) (q_cod qk310 rfl) (by decide) (by decide) ?_
      obtain rfl := m_R_inv hf
      obtain ⟨rfl, rfl⟩ := (show q_KI o hz (1, _) from hK)
      exact ev_ret (q_cod qk310 rfl) rfl
    cases hf
theorem f310_cl {l0 : Nat} {l1 : Int32} {l2 : Nat} {h : q_H} {x : Int32 × q_H} (hf : f310 l0 l1 l2 h = some x) : q_Cl 310 [.ref l0, .int l1, .ref l2] h (.inl (some (.int x.1))) x.2 := q_Cl.of rfl (q_LvS rfl rfl) (f310_ok hf ⟨rfl, rfl⟩)
/-! SmithyBenchLaw.var(LSmithyBench;I[J)I -/
theorem qk311 : q_cs.getD 311 [] = qc_311 := rfl
def f311 (l0 : Nat) (l1 : Int32) (l2 : Nat) : m_M Int32 :=
  m_B (m_aK l0 11) (fun _ => m_T (f125 l0 l1) (fun v2 => m_B (m_wJ l2 0 (v2.toInt64)) (fun _ => m_R 0)) (fun E3 => m_B (m_G (E3 < 3)) (fun _ => if E3 = 1 then (m_R 1) else (if E3 = 0 then (m_R 2) else (m_F)))))
theorem f311_ok {l0 : Nat} {l1 : Int32} {l2 : Nat} {h : q_H} {o : q_O} {hz : q_H} {x : Int32 × q_H} (hf : f311 l0 l1 l2 h = some x) (hK : (q_KI o hz) x) : q_Ev none 311 0 [(0, .ref l0), (1, .int l1), (2, .ref l2)] [] h o hz := by
  unfold f311 at hf
  refine ev_aload_n (q_cod qk311 rfl) (by decide) rfl ?_
  refine ev_ic (v := 0) (q_cod qk311 rfl) (by decide) (by decide) ?_
  refine ev_aload_n (q_cod qk311 rfl) (by decide) rfl ?_
  refine ev_iload_n (q_cod qk311 rfl) (by decide) rfl ?_
  obtain ⟨g1, hf⟩ := m_aK_some hf
  refine em_callC (v := (fun u => some (.int u))) (q_cod qk311 rfl) (by decide) (q_cokV rfl rfl (Or.inr g1)) rfl (fun x e => f125_cl e) hf (fun v2 h hf => ?_) (fun E3 h hf => ?_)
  · refine ev_i2l (q_cod qk311 rfl) (by decide) ?_
    refine em_wJ (q_cod qk311 rfl) (by decide) hf (fun hf => ?_)
    refine ev_goto (q_cod qk311 rfl) (by decide) ?_
    refine ev_ic (v := 0) (q_cod qk311 rfl) (by decide) (by decide) ?_
    obtain rfl := m_R_inv hf
    obtain ⟨rfl, rfl⟩ := (show q_KI o hz (0, _) from hK)
    exact ev_ret (q_cod qk311 rfl) rfl
  · obtain ⟨gE, hf⟩ := m_G_some hf
    rcases m_iteM hf with ⟨c9, hf⟩ | ⟨c9, hf⟩
    · subst c9
      refine ⟨gE, 3, 13, rfl, ?_⟩
      show q_Ev none 311 13 [(0, .ref l0), (1, .int l1), (2, .ref l2)] [] _ o hz
      refine ev_ic (v := 1) (q_cod qk311 rfl) (by decide) (by decide) ?_
      obtain rfl := m_R_inv hf
      obtain ⟨rfl, rfl⟩ := (show q_KI o hz (1, _) from hK)
      exact ev_ret (q_cod qk311 rfl) rfl
    rcases m_iteM hf with ⟨c9, hf⟩ | ⟨c9, hf⟩
    · subst c9
      refine ⟨gE, 3, 16, rfl, ?_⟩
      show q_Ev none 311 16 [(0, .ref l0), (1, .int l1), (2, .ref l2)] [] _ o hz
      refine ev_ic (v := 2) (q_cod qk311 rfl) (by decide) (by decide) ?_
      obtain rfl := m_R_inv hf
      obtain ⟨rfl, rfl⟩ := (show q_KI o hz (2, _) from hK)
      exact ev_ret (q_cod qk311 rfl) rfl
    cases hf
theorem f311_cl {l0 : Nat} {l1 : Int32} {l2 : Nat} {h : q_H} {x : Int32 × q_H} (hf : f311 l0 l1 l2 h = some x) : q_Cl 311 [.ref l0, .int l1, .ref l2] h (.inl (some (.int x.1))) x.2 := q_Cl.of rfl (q_LvS rfl rfl) (f311_ok hf ⟨rfl, rfl⟩)
/-! SmithyBenchLaw.self(LSmithyBench;[J)I -/
theorem qk312 : q_cs.getD 312 [] = qc_312 := rfl
def f312 (l0 : Nat) (l1 : Nat) : m_M Int32 :=
  m_B (m_aK l0 11) (fun _ => m_T (f126 l0) (fun v2 => m_B (m_wJ l1 0 (v2.toInt64)) (fun _ => m_R 0)) (fun E3 => m_B (m_G (E3 < 3)) (fun _ => if E3 = 0 then (m_R 1) else (m_F))))
theorem f312_ok {l0 : Nat} {l1 : Nat} {h : q_H} {o : q_O} {hz : q_H} {x : Int32 × q_H} (hf : f312 l0 l1 h = some x) (hK : (q_KI o hz) x) : q_Ev none 312 0 [(0, .ref l0), (1, .ref l1)] [] h o hz := by
  unfold f312 at hf
  refine ev_aload_n (q_cod qk312 rfl) (by decide) rfl ?_
  refine ev_ic (v := 0) (q_cod qk312 rfl) (by decide) (by decide) ?_
  refine ev_aload_n (q_cod qk312 rfl) (by decide) rfl ?_
  obtain ⟨g1, hf⟩ := m_aK_some hf
  refine em_callC (v := (fun u => some (.int u))) (q_cod qk312 rfl) (by decide) (q_cokV rfl rfl (Or.inr g1)) rfl (fun x e => f126_cl e) hf (fun v2 h hf => ?_) (fun E3 h hf => ?_)
  · refine ev_i2l (q_cod qk312 rfl) (by decide) ?_
    refine em_wJ (q_cod qk312 rfl) (by decide) hf (fun hf => ?_)
    refine ev_goto (q_cod qk312 rfl) (by decide) ?_
    refine ev_ic (v := 0) (q_cod qk312 rfl) (by decide) (by decide) ?_
    obtain rfl := m_R_inv hf
    obtain ⟨rfl, rfl⟩ := (show q_KI o hz (0, _) from hK)
    exact ev_ret (q_cod qk312 rfl) rfl
  · obtain ⟨gE, hf⟩ := m_G_some hf
    rcases m_iteM hf with ⟨c9, hf⟩ | ⟨c9, hf⟩
    · subst c9
      refine ⟨gE, 2, 12, rfl, ?_⟩
      show q_Ev none 312 12 [(0, .ref l0), (1, .ref l1)] [] _ o hz
      refine ev_ic (v := 1) (q_cod qk312 rfl) (by decide) (by decide) ?_
      obtain rfl := m_R_inv hf
      obtain ⟨rfl, rfl⟩ := (show q_KI o hz (1, _) from hK)
      exact ev_ret (q_cod qk312 rfl) rfl
    cases hf
theorem f312_cl {l0 : Nat} {l1 : Nat} {h : q_H} {x : Int32 × q_H} (hf : f312 l0 l1 h = some x) : q_Cl 312 [.ref l0, .ref l1] h (.inl (some (.int x.1))) x.2 := q_Cl.of rfl (q_LvS rfl rfl) (f312_ok hf ⟨rfl, rfl⟩)
/-! SmithyBenchLaw.field(LSmithyBench;II[J)I -/
theorem qk313 : q_cs.getD 313 [] = qc_313 := rfl
def f313 (l0 : Nat) (l1 : Int32) (l2 : Int32) (l3 : Nat) : m_M Int32 :=
  m_B (m_aK l0 11) (fun _ => m_T (f127 l0 l1 l2) (fun v2 => m_B (m_wJ l3 0 (v2.toInt64)) (fun _ => m_R 0)) (fun E3 => m_B (m_G (E3 < 3)) (fun _ => if E3 = 2 then (m_R 1) else (if E3 = 1 then (m_R 2) else (if E3 = 0 then (m_R 3) else (m_F))))))
theorem f313_ok {l0 : Nat} {l1 : Int32} {l2 : Int32} {l3 : Nat} {h : q_H} {o : q_O} {hz : q_H} {x : Int32 × q_H} (hf : f313 l0 l1 l2 l3 h = some x) (hK : (q_KI o hz) x) : q_Ev none 313 0 [(0, .ref l0), (1, .int l1), (2, .int l2), (3, .ref l3)] [] h o hz := by
  unfold f313 at hf
  refine ev_aload_n (q_cod qk313 rfl) (by decide) rfl ?_
  refine ev_ic (v := 0) (q_cod qk313 rfl) (by decide) (by decide) ?_
  refine ev_aload_n (q_cod qk313 rfl) (by decide) rfl ?_
  refine ev_iload_n (q_cod qk313 rfl) (by decide) rfl ?_
  refine ev_iload_n (q_cod qk313 rfl) (by decide) rfl ?_
  obtain ⟨g1, hf⟩ := m_aK_some hf
  refine em_callC (v := (fun u => some (.int u))) (q_cod qk313 rfl) (by decide) (q_cokV rfl rfl (Or.inr g1)) rfl (fun x e => f127_cl e) hf (fun v2 h hf => ?_) (fun E3 h hf => ?_)
  · refine ev_i2l (q_cod qk313 rfl) (by decide) ?_
    refine em_wJ (q_cod qk313 rfl) (by decide) hf (fun hf => ?_)
    refine ev_goto (q_cod qk313 rfl) (by decide) ?_
    refine ev_ic (v := 0) (q_cod qk313 rfl) (by decide) (by decide) ?_
    obtain rfl := m_R_inv hf
    obtain ⟨rfl, rfl⟩ := (show q_KI o hz (0, _) from hK)
    exact ev_ret (q_cod qk313 rfl) rfl
  · obtain ⟨gE, hf⟩ := m_G_some hf
    rcases m_iteM hf with ⟨c9, hf⟩ | ⟨c9, hf⟩
    · subst c9
      refine ⟨gE, 4, 15, rfl, ?_⟩
      show q_Ev none 313 15 [(0, .ref l0), (1, .int l1), (2, .int l2), (3, .ref l3)] [] _ o hz
      refine ev_ic (v := 1) (q_cod qk313 rfl) (by decide) (by decide) ?_
      obtain rfl := m_R_inv hf
      obtain ⟨rfl, rfl⟩ := (show q_KI o hz (1, _) from hK)
      exact ev_ret (q_cod qk313 rfl) rfl
    rcases m_iteM hf with ⟨c9, hf⟩ | ⟨c9, hf⟩
    · subst c9
      refine ⟨gE, 4, 19, rfl, ?_⟩
      show q_Ev none 313 19 [(0, .ref l0), (1, .int l1), (2, .int l2), (3, .ref l3)] [] _ o hz
      refine ev_ic (v := 2) (q_cod qk313 rfl) (by decide) (by decide) ?_
      obtain rfl := m_R_inv hf
      obtain ⟨rfl, rfl⟩ := (show q_KI o hz (2, _) from hK)
      exact ev_ret (q_cod qk313 rfl) rfl
    rcases m_iteM hf with ⟨c9, hf⟩ | ⟨c9, hf⟩
    · subst c9
      refine ⟨gE, 4, 23, rfl, ?_⟩
      show q_Ev none 313 23 [(0, .ref l0), (1, .int l1), (2, .int l2), (3, .ref l3)] [] _ o hz
      refine ev_ic (v := 3) (q_cod qk313 rfl) (by decide) (by decide) ?_
      obtain rfl := m_R_inv hf
      obtain ⟨rfl, rfl⟩ := (show q_KI o hz (3, _) from hK)
      exact ev_ret (q_cod qk313 rfl) rfl
    cases hf
theorem f313_cl {l0 : Nat} {l1 : Int32} {l2 : Int32} {l3 : Nat} {h : q_H} {x : Int32 × q_H} (hf : f313 l0 l1 l2 l3 h = some x) : q_Cl 313 [.ref l0, .int l1, .int l2, .ref l3] h (.inl (some (.int x.1))) x.2 := q_Cl.of rfl (q_LvS rfl rfl) (f313_ok hf ⟨rfl, rfl⟩)
/-! SmithyBenchLaw.put(LSmithyBench;III[J)I -/
theorem qk314 : q_cs.getD 314 [] = qc_314 := rfl
def f314 (l0 : Nat) (l1 : Int32) (l2 : Int32) (l3 : Int32) (l4 : Nat) : m_M Int32 :=
  m_B (m_aK l0 11) (fun _ => m_T (f128 l0 l1 l2 l3) (fun v2 => m_B (m_wJ l4 0 (v2.toInt64)) (fun _ => m_R 0)) (fun E3 => m_B (m_G (E3 < 3)) (fun _ => if E3 = 2 then (m_R 1) else (if E3 = 1 then (m_R 2) else (if E3 = 0 then (m_R 3) else (m_F))))))
theorem f314_ok {l0 : Nat} {l1 : Int32} {l2 : Int32} {l3 : Int32} {l4 : Nat} {h : q_H} {o : q_O} {hz : q_H} {x : Int32 × q_H} (hf : f314 l0 l1 l2 l3 l4 h = some x) (hK : (q_KI o hz) x) : q_Ev none 314 0 [(0, .ref l0), (1, .int l1), (2, .int l2), (3, .int l3), (4, .ref l4)] [] h o hz := by
  unfold f314 at hf
  refine ev_aload (q_cod qk314 rfl) (by decide) rfl ?_
  refine ev_ic (v := 0) (q_cod qk314 rfl) (by decide) (by decide) ?_
  refine ev_aload_n (q_cod qk314 rfl) (by decide) rfl ?_
  refine ev_iload_n (q_cod qk314 rfl) (by decide) rfl ?_
  refine ev_iload_n (q_cod qk314 rfl) (by decide) rfl ?_
  refine ev_iload_n (q_cod qk314 rfl) (by decide) rfl ?_
  obtain ⟨g1, hf⟩ := m_aK_some hf
  refine em_callC (v := (fun u => some (.int u))) (q_cod qk314 rfl) (by decide) (q_cokV rfl rfl (Or.inr g1)) rfl (fun x e => f128_cl e) hf (fun v2 h hf => ?_) (fun E3 h hf => ?_)
  · refine ev_i2l (q_cod qk314 rfl) (by decide) ?_
    refine em_wJ (q_cod qk314 rfl) (by decide) hf (fun hf => ?_)
    refine ev_goto (q_cod qk314 rfl) (by decide) ?_
    refine ev_ic (v := 0) (q_cod qk314 rfl) (by decide) (by decide) ?_
    obtain rfl := m_R_inv hf
    obtain ⟨rfl, rfl⟩ := (show q_KI o hz (0, _) from hK)
    exact ev_ret (q_cod qk314 rfl) rfl
  · obtain ⟨gE, hf⟩ := m_G_some hf
    rcases m_iteM hf with ⟨c9, hf⟩ | ⟨c9, hf⟩
    · subst c9
      refine ⟨gE, 5, 17, rfl, ?_⟩
      show q_Ev none 314 17 [(0, .ref l0), (1, .int l1), (2, .int l2), (3, .int l3), (4, .ref l4)] [] _ o hz
      refine ev_ic (v := 1) (q_cod qk314 rfl) (by decide) (by decide) ?_
      obtain rfl := m_R_inv hf
      obtain ⟨rfl, rfl⟩ := (show q_KI o hz (1, _) from hK)
      exact ev_ret (q_cod qk314 rfl) rfl
    rcases m_iteM hf with ⟨c9, hf⟩ | ⟨c9, hf⟩
    · subst c9
      refine ⟨gE, 5, 21, rfl, ?_⟩
      show q_Ev none 314 21 [(0, .ref l0), (1, .int l1), (2, .int l2), (3, .int l3), (4, .ref l4)] [] _ o hz
      refine ev_ic (v := 2) (q_cod qk314 rfl) (by decide) (by decide) ?_
      obtain rfl := m_R_inv hf
      obtain ⟨rfl, rfl⟩ := (show q_KI o hz (2, _) from hK)
      exact ev_ret (q_cod qk314 rfl) rfl
    rcases m_iteM hf with ⟨c9, hf⟩ | ⟨c9, hf⟩
    · subst c9
      refine ⟨gE, 5, 25, rfl, ?_⟩
      show q_Ev none 314 25 [(0, .ref l0), (1, .int l1), (2, .int l2), (3, .int l3), (4, .ref l4)] [] _ o hz
      refine ev_ic (v := 3) (q_cod qk314 rfl) (by decide) (by decide) ?_
      obtain rfl := m_R_inv hf
      obtain ⟨rfl, rfl⟩ := (show q_KI o hz (3, _) from hK)
      exact ev_ret (q_cod qk314 rfl) rfl
    cases hf
theorem f314_cl {l0 : Nat} {l1 : Int32} {l2 : Int32} {l3 : Int32} {l4 : Nat} {h : q_H} {x : Int32 × q_H} (hf : f314 l0 l1 l2 l3 l4 h = some x) : q_Cl 314 [.ref l0, .int l1, .int l2, .int l3, .ref l4] h (.inl (some (.int x.1))) x.2 := q_Cl.of rfl (q_LvS rfl rfl) (f314_ok hf ⟨rfl, rfl⟩)
/-! SmithyBenchLaw.let(LSmithyBench;III[J)I -/
theorem qk315 : q_cs.getD 315 [] = qc_315 := rfl
def f315 (l0 : Nat) (l1 : Int32) (l2 : Int32) (l3 : Int32) (l4 : Nat) : m_M Int32 :=
  m_B (m_aK l0 11) (fun _ => m_T (f129 l0 l1 l2 l3) (fun v2 => m_B (m_wJ l4 0 (v2.toInt64)) (fun _ => m_R 0)) (fun E3 => m_B (m_G (E3 < 3)) (fun _ => if E3 = 2 then (m_R 1) else (if E3 = 1 then (m_R 2) else (if E3 = 0 then (m_R 3) else (m_F))))))
theorem f315_ok {l0 : Nat} {l1 : Int32} {l2 : Int32} {l3 : Int32} {l4 : Nat} {h : q_H} {o : q_O} {hz : q_H} {x : Int32 × q_H} (hf : f315 l0 l1 l2 l3 l4 h = some x) (hK : (q_KI o hz) x) : q_Ev none 315 0 [(0, .ref l0), (1, .int l1), (2, .int l2), (3, .int l3), (4, .ref l4)] [] h o hz := by
  unfold f315 at hf
  refine ev_aload (q_cod qk315 rfl) (by decide) rfl ?_
  refine ev_ic (v := 0) (q_cod qk315 rfl) (by decide) (by decide) ?_
  refine ev_aload_n (q_cod qk315 rfl) (by decide) rfl ?_
  refine ev_iload_n (q_cod qk315 rfl) (by decide) rfl ?_
  refine ev_iload_n (q_cod qk315 rfl) (by decide) rfl ?_
  refine ev_iload_n (q_cod qk315 rfl) (by decide) rfl ?_
  obtain ⟨g1, hf⟩ := m_aK_some hf
  refine em_callC (v := (fun u => some (.int u))) (q_cod qk315 rfl) (by decide) (q_cokV rfl rfl (Or.inr g1)) rfl (fun x e => f129_cl e) hf (fun v2 h hf => ?_) (fun E3 h hf => ?_)
  · refine ev_i2l (q_cod qk315 rfl) (by decide) ?_
    refine em_wJ (q_cod qk315 rfl) (by decide) hf (fun hf => ?_)
    refine ev_goto (q_cod qk315 rfl) (by decide) ?_
    refine ev_ic (v := 0) (q_cod qk315 rfl) (by decide) (by decide) ?_
    obtain rfl := m_R_inv hf
    obtain ⟨rfl, rfl⟩ := (show q_KI o hz (0, _) from hK)
    exact ev_ret (q_cod qk315 rfl) rfl
  · obtain ⟨gE, hf⟩ := m_G_some hf
    rcases m_iteM hf with ⟨c9, hf⟩ | ⟨c9, hf⟩
    · subst c9
      refine ⟨gE, 5, 17, rfl, ?_⟩
      show q_Ev none 315 17 [(0, .ref l0), (1, .int l1), (2, .int l2), (3, .int l3), (4, .ref l4)] [] _ o hz
      refine ev_ic (v := 1) (q_cod qk315 rfl) (by decide) (by decide) ?_
      obtain rfl := m_R_inv hf
      obtain ⟨rfl, rfl⟩ := (show q_KI o hz (1, _) from hK)
      exact ev_ret (q_cod qk315 rfl) rfl
    rcases m_iteM hf with ⟨c9, hf⟩ | ⟨c9, hf⟩
    · subst c9
      refine ⟨gE, 5, 21, rfl, ?_⟩
      show q_Ev none 315 21 [(0, .ref l0), (1, .int l1), (2, .int l2), (3, .int l3), (4, .ref l4)] [] _ o hz
      refine ev_ic (v := 2) (q_cod qk315 rfl) (by decide) (by decide) ?_
      obtain rfl := m_R_inv hf
      obtain ⟨rfl, rfl⟩ := (show q_KI o hz (2, _) from hK)
      exact ev_ret (q_cod qk315 rfl) rfl
    rcases m_iteM hf with ⟨c9, hf⟩ | ⟨c9, hf⟩
    · subst c9
      refine ⟨gE, 5, 25, rfl, ?_⟩
      show q_Ev none 315 25 [(0, .ref l0), (1, .int l1), (2, .int l2), (3, .int l3), (4, .ref l4)] [] _ o hz
      refine ev_ic (v := 3) (q_cod qk315 rfl) (by decide) (by decide) ?_
      obtain rfl := m_R_inv hf
      obtain ⟨rfl, rfl⟩ := (show q_KI o hz (3, _) from hK)
      exact ev_ret (q_cod qk315 rfl) rfl
    cases hf
theorem f315_cl {l0 : Nat} {l1 : Int32} {l2 : Int32} {l3 : Int32} {l4 : Nat} {h : q_H} {x : Int32 × q_H} (hf : f315 l0 l1 l2 l3 l4 h = some x) : q_Cl 315 [.ref l0, .int l1, .int l2, .int l3, .ref l4] h (.inl (some (.int x.1))) x.2 := q_Cl.of rfl (q_LvS rfl rfl) (f315_ok hf ⟨rfl, rfl⟩)
/-! SmithyBenchLaw.call(LSmithyBench;IIII[J)I -/
theorem qk316 : q_cs.getD 316 [] = qc_316 := rfl
def f316 (l0 : Nat) (l1 : Int32) (l2 : Int32) (l3 : Int32) (l4 : Int32) (l5 : Nat) : m_M Int32 :=
  m_B (m_aK l0 11) (fun _ => m_T (f130 l0 l1 l2 l3 l4) (fun v2 => m_B (m_wJ l5 0 (v2.toInt64)) (fun _ => m_R 0)) (fun E3 => m_B (m_G (E3 < 3)) (fun _ => if E3 = 2 then (m_R 1) else (if E3 = 1 then (m_R 2) else (if E3 = 0 then (m_R 3) else (m_F))))))
theorem f316_ok {l0 : Nat} {l1 : Int32} {l2 : Int32} {l3 : Int32} {l4 : Int32} {l5 : Nat} {h : q_H} {o : q_O} {hz : q_H} {x : Int32 × q_H} (hf : f316 l0 l1 l2 l3 l4 l5 h = some x) (hK : (q_KI o hz) x) : q_Ev none 316 0 [(0, .ref l0), (1, .int l1), (2, .int l2), (3, .int l3), (4, .int l4), (5, .ref l5)] [] h o hz := by
  unfold f316 at hf
  refine ev_aload (q_cod qk316 rfl) (by decide) rfl ?_
  refine ev_ic (v := 0) (q_cod qk316 rfl) (by decide) (by decide) ?_
  refine ev_aload_n (q_cod qk316 rfl) (by decide) rfl ?_
  refine ev_iload_n (q_cod qk316 rfl) (by decide) rfl ?_
  refine ev_iload_n (q_cod qk316 rfl) (by decide) rfl ?_
  refine ev_iload_n (q_cod qk316 rfl) (by decide) rfl ?_
  refine ev_iload (q_cod qk316 rfl) (by decide) rfl ?_
  obtain ⟨g1, hf⟩ := m_aK_some hf
  refine em_callC (v := (fun u => some (.int u))) (q_cod qk316 rfl) (by decide) (q_cokV rfl rfl (Or.inr g1)) rfl (fun x e => f130_cl e) hf (fun v2 h hf => ?_) (fun E3 h hf => ?_)
  · refine ev_i2l (q_cod qk316 rfl) (by decide) ?_
    refine em_wJ (q_cod qk316 rfl) (by decide) hf (fun hf => ?_)
    refine ev_goto (q_cod qk316 rfl) (by decide) ?_
    refine ev_ic (v := 0) (q_cod qk316 rfl) (by decide) (by decide) ?_
    obtain rfl := m_R_inv hf
    obtain ⟨rfl, rfl⟩ := (show q_KI o hz (0, _) from hK)
    exact ev_ret (q_cod qk316 rfl) rfl
  · obtain ⟨gE, hf⟩ := m_G_some hf
    rcases m_iteM hf with ⟨c9, hf⟩ | ⟨c9, hf⟩
    · subst c9
      refine ⟨gE, 6, 19, rfl, ?_⟩
      show q_Ev none 316 19 [(0, .ref l0), (1, .int l1), (2, .int l2), (3, .int l3), (4, .int l4), (5, .ref l5)] [] _ o hz
      refine ev_ic (v := 1) (q_cod qk316 rfl) (by decide) (by decide) ?_
      obtain rfl := m_R_inv hf
      obtain ⟨rfl, rfl⟩ := (show q_KI o hz (1, _) from hK)
      exact ev_ret (q_cod qk316 rfl) rfl
    rcases m_iteM hf with ⟨c9, hf⟩ | ⟨c9, hf⟩
    · subst c9
      refine ⟨gE, 6, 23, rfl, ?_⟩
      show q_Ev none 316 23 [(0, .ref l0), (1, .int l1), (2, .int l2), (3, .int l3), (4, .int l4), (5, .ref l5)] [] _ o hz
      refine ev_ic (v := 2) (q_cod qk316 rfl) (by decide) (by decide) ?_
      obtain rfl := m_R_inv hf
      obtain ⟨rfl, rfl⟩ := (show q_KI o hz (2, _) from hK)
      exact ev_ret (q_cod qk316 rfl) rfl
    rcases m_iteM hf with ⟨c9, hf⟩ | ⟨c9, hf⟩
    · subst c9
      refine ⟨gE, 6, 27, rfl, ?_⟩
      show q_Ev none 316 27 [(0, .ref l0), (1, .int l1), (2, .int l2), (3, .int l3), (4, .int l4), (5, .ref l5)] [] _ o hz
      refine ev_ic (v := 3) (q_cod qk316 rfl) (by decide) (by decide) ?_
      obtain rfl := m_R_inv hf
      obtain ⟨rfl, rfl⟩ := (show q_KI o hz (3, _) from hK)
      exact ev_ret (q_cod qk316 rfl) rfl
    cases hf
theorem f316_cl {l0 : Nat} {l1 : Int32} {l2 : Int32} {l3 : Int32} {l4 : Int32} {l5 : Nat} {h : q_H} {x : Int32 × q_H} (hf : f316 l0 l1 l2 l3 l4 l5 h = some x) : q_Cl 316 [.ref l0, .int l1, .int l2, .int l3, .int l4, .ref l5] h (.inl (some (.int x.1))) x.2 := q_Cl.of rfl (q_LvS rfl rfl) (f316_ok hf ⟨rfl, rfl⟩)
/-! SmithyBenchLaw.make(LSmithyBench;I[J)I -/
theorem qk317 : q_cs.getD 317 [] = qc_317 := rfl
def f317 (l0 : Nat) (l1 : Int32) (l2 : Nat) : m_M Int32 :=
  m_B (m_aK l0 11) (fun _ => m_T (f131 l0 l1) (fun v2 => m_B (m_wJ l2 0 (v2.toInt64)) (fun _ => m_R 0)) (fun E3 => m_B (m_G (E3 < 3)) (fun _ => if E3 = 2 then (m_R 1) else (if E3 = 0 then (m_R 2) else (m_F)))))
theorem f317_ok {l0 : Nat} {l1 : Int32} {l2 : Nat} {h : q_H} {o : q_O} {hz : q_H} {x : Int32 × q_H} (hf : f317 l0 l1 l2 h = some x) (hK : (q_KI o hz) x) : q_Ev none 317 0 [(0, .ref l0), (1, .int l1), (2, .ref l2)] [] h o hz := by
  unfold f317 at hf
  refine ev_aload_n (q_cod qk317 rfl) (by decide) rfl ?_
  refine ev_ic (v := 0) (q_cod qk317 rfl) (by decide) (by decide) ?_
  refine ev_aload_n (q_cod qk317 rfl) (by decide) rfl ?_
  refine ev_iload_n (q_cod qk317 rfl) (by decide) rfl ?_
  obtain ⟨g1, hf⟩ := m_aK_some hf
  refine em_callC (v := (fun u => some (.int u))) (q_cod qk317 rfl) (by decide) (q_cokV rfl rfl (Or.inr g1)) rfl (fun x e => f131_cl e) hf (fun v2 h hf => ?_) (fun E3 h hf => ?_)
  · refine ev_i2l (q_cod qk317 rfl) (by decide) ?_
    refine em_wJ (q_cod qk317 rfl) (by decide) hf (fun hf => ?_)
    refine ev_goto (q_cod qk317 rfl) (by decide) ?_
    refine ev_ic (v := 0) (q_cod qk317 rfl) (by decide) (by decide) ?_
    obtain rfl := m_R_inv hf
    obtain ⟨rfl, rfl⟩ := (show q_KI o hz (0, _) from hK)
    exact ev_ret (q_cod qk317 rfl) rfl
  · obtain ⟨gE, hf⟩ := m_G_some hf
    rcases m_iteM hf with ⟨c9, hf⟩ | ⟨c9, hf⟩
    · subst c9
      refine ⟨gE, 3, 13, rfl, ?_⟩
      show q_Ev none 317 13 [(0, .ref l0), (1, .int l1), (2, .ref l2)] [] _ o hz
      refine ev_ic (v := 1) (q_cod qk317 rfl) (by decide) (by decide) ?_
      obtain rfl := m_R_inv hf
      obtain ⟨rfl, rfl⟩ := (show q_KI o hz (1, _) from hK)
      exact ev_ret (q_cod qk317 rfl) rfl
    rcases m_iteM hf with ⟨c9, hf⟩ | ⟨c9, hf⟩
    · subst c9
      refine ⟨gE, 3, 16, rfl, ?_⟩
      show q_Ev none 317 16 [(0, .ref l0), (1, .int l1), (2, .ref l2)] [] _ o hz
      refine ev_ic (v := 2) (q_cod qk317 rfl) (by decide) (by decide) ?_
      obtain rfl := m_R_inv hf
      obtain ⟨rfl, rfl⟩ := (show q_KI o hz (2, _) from hK)
      exact ev_ret (q_cod qk317 rfl) rfl
    cases hf
theorem f317_cl {l0 : Nat} {l1 : Int32} {l2 : Nat} {h : q_H} {x : Int32 × q_H} (hf : f317 l0 l1 l2 h = some x) : q_Cl 317 [.ref l0, .int l1, .ref l2] h (.inl (some (.int x.1))) x.2 := q_Cl.of rfl (q_LvS rfl rfl) (f317_ok hf ⟨rfl, rfl⟩)
/-! SmithyBenchLaw.two(LSmithyBench;III[J)I -/
theorem qk318 : q_cs.getD 318 [] = qc_318 := rfl
def f318 (l0 : Nat) (l1 : Int32) (l2 : Int32) (l3 : Int32) (l4 : Nat) : m_M Int32 :=
  m_B (m_aK l0 11) (fun _ => m_T (f132 l0 l1 l2 l3) (fun v2 => m_B (m_wJ l4 0 (v2.toInt64)) (fun _ => m_R 0)) (fun E3 => m_B (m_G (E3 < 3)) (fun _ => if E3 = 2 then (m_R 1) else (if E3 = 1 then (m_R 2) else (if E3 = 0 then (m_R 3) else (m_F))))))
theorem f318_ok {l0 : Nat} {l1 : Int32} {l2 : Int32} {l3 : Int32} {l4 : Nat} {h : q_H} {o : q_O} {hz : q_H} {x : Int32 × q_H} (hf : f318 l0 l1 l2 l3 l4 h = some x) (hK : (q_KI o hz) x) : q_Ev none 318 0 [(0, .ref l0), (1, .int l1), (2, .int l2), (3, .int l3), (4, .ref l4)] [] h o hz := by
  unfold f318 at hf
  refine ev_aload (q_cod qk318 rfl) (by decide) rfl ?_
  refine ev_ic (v := 0) (q_cod qk318 rfl) (by decide) (by decide) ?_
  refine ev_aload_n (q_cod qk318 rfl) (by decide) rfl ?_
  refine ev_iload_n (q_cod qk318 rfl) (by decide) rfl ?_
  refine ev_iload_n (q_cod qk318 rfl) (by decide) rfl ?_
  refine ev_iload_n (q_cod qk318 rfl) (by decide) rfl ?_
  obtain ⟨g1, hf⟩ := m_aK_some hf
  refine em_callC (v := (fun u => some (.int u))) (q_cod qk318 rfl) (by decide) (q_cokV rfl rfl (Or.inr g1)) rfl (fun x e => f132_cl e) hf (fun v2 h hf => ?_) (fun E3 h hf => ?_)
  · refine ev_i2l (q_cod qk318 rfl) (by decide) ?_
    refine em_wJ (q_cod qk318 rfl) (by decide) hf (fun hf => ?_)
    refine ev_goto (q_cod qk318 rfl) (by decide) ?_
    refine ev_ic (v := 0) (q_cod qk318 rfl) (by decide) (by decide) ?_
    obtain rfl := m_R_inv hf
    obtain ⟨rfl, rfl⟩ := (show q_KI o hz (0, _) from hK)
    exact ev_ret (q_cod qk318 rfl) rfl
  · obtain ⟨gE, hf⟩ := m_G_some hf
    rcases m_iteM hf with ⟨c9, hf⟩ | ⟨c9, hf⟩
    · subst c9
      refine ⟨gE, 5, 17, rfl, ?_⟩
      show q_Ev none 318 17 [(0, .ref l0), (1, .int l1), (2, .int l2), (3, .int l3), (4, .ref l4)] [] _ o hz
      refine ev_ic (v := 1) (q_cod qk318 rfl) (by decide) (by decide) ?_
      obtain rfl := m_R_inv hf
      obtain ⟨rfl, rfl⟩ := (show q_KI o hz (1, _) from hK)
      exact ev_ret (q_cod qk318 rfl) rfl
    rcases m_iteM hf with ⟨c9, hf⟩ | ⟨c9, hf⟩
    · subst c9
      refine ⟨gE, 5, 21, rfl, ?_⟩
      show q_Ev none 318 21 [(0, .ref l0), (1, .int l1), (2, .int l2), (3, .int l3), (4, .ref l4)] [] _ o hz
      refine ev_ic (v := 2) (q_cod qk318 rfl) (by decide) (by decide) ?_
      obtain rfl := m_R_inv hf
      obtain ⟨rfl, rfl⟩ := (show q_KI o hz (2, _) from hK)
      exact ev_ret (q_cod qk318 rfl) rfl
    rcases m_iteM hf with ⟨c9, hf⟩ | ⟨c9, hf⟩
    · subst c9
      refine ⟨gE, 5, 25, rfl, ?_⟩
      show q_Ev none 318 25 [(0, .ref l0), (1, .int l1), (2, .int l2), (3, .int l3), (4, .ref l4)] [] _ o hz
      refine ev_ic (v := 3) (q_cod qk318 rfl) (by decide) (by decide) ?_
      obtain rfl := m_R_inv hf
      obtain ⟨rfl, rfl⟩ := (show q_KI o hz (3, _) from hK)
      exact ev_ret (q_cod qk318 rfl) rfl
    cases hf
theorem f318_cl {l0 : Nat} {l1 : Int32} {l2 : Int32} {l3 : Int32} {l4 : Nat} {h : q_H} {x : Int32 × q_H} (hf : f318 l0 l1 l2 l3 l4 h = some x) : q_Cl 318 [.ref l0, .int l1, .int l2, .int l3, .ref l4] h (.inl (some (.int x.1))) x.2 := q_Cl.of rfl (q_LvS rfl rfl) (f318_ok hf ⟨rfl, rfl⟩)
/-! SmithyBenchLaw.test(LSmithyBench;III[J)I -/
theorem qk319 : q_cs.getD 319 [] = qc_319 := rfl
def f319 (l0 : Nat) (l1 : Int32) (l2 : Int32) (l3 : Int32) (l4 : Nat) : m_M Int32 :=
  m_B (m_aK l0 11) (fun _ => m_T (f133 l0 l1 l2 l3) (fun v2 => m_B (m_wJ l4 0 (v2.toInt64)) (fun _ => m_R 0)) (fun E3 => m_B (m_G (E3 < 3)) (fun _ => if E3 = 2 then (m_R 1) else (if E3 = 0 then (m_R 2) else (m_F)))))
theorem f319_ok {l0 : Nat} {l1 : Int32} {l2 : Int32} {l3 : Int32} {l4 : Nat} {h : q_H} {o : q_O} {hz : q_H} {x : Int32 × q_H} (hf : f319 l0 l1 l2 l3 l4 h = some x) (hK : (q_KI o hz) x) : q_Ev none 319 0 [(0, .ref l0), (1, .int l1), (2, .int l2), (3, .int l3), (4, .ref l4)] [] h o hz := by
  unfold f319 at hf
  refine ev_aload (q_cod qk319 rfl) (by decide) rfl ?_
  refine ev_ic (v := 0) (q_cod qk319 rfl) (by decide) (by decide) ?_
  refine ev_aload_n (q_cod qk319 rfl) (by decide) rfl ?_
  refine ev_iload_n (q_cod qk319 rfl) (by decide) rfl ?_
  refine ev_iload_n (q_cod qk319 rfl) (by decide) rfl ?_
  refine ev_iload_n (q_cod qk319 rfl) (by decide) rfl ?_
  obtain ⟨g1, hf⟩ := m_aK_some hf
  refine em_callC (v := (fun u => some (.int u))) (q_cod qk319 rfl) (by decide) (q_cokV rfl rfl (Or.inr g1)) rfl (fun x e => f133_cl e) hf (fun v2 h hf => ?_) (fun E3 h hf => ?_)
  · refine ev_i2l (q_cod qk319 rfl) (by decide) ?_
    refine em_wJ (q_cod qk319 rfl) (by decide) hf (fun hf => ?_)
    refine ev_goto (q_cod qk319 rfl) (by decide) ?_
    refine ev_ic (v := 0) (q_cod qk319 rfl) (by decide) (by decide) ?_
    obtain rfl := m_R_inv hf
    obtain ⟨rfl, rfl⟩ := (show q_KI o hz (0, _) from hK)
    exact ev_ret (q_cod qk319 rfl) rfl
  · obtain ⟨gE, hf⟩ := m_G_some hf
    rcases m_iteM hf with ⟨c9, hf⟩ | ⟨c9, hf⟩
    · subst c9
      refine ⟨gE, 5, 17, rfl, ?_⟩
      show q_Ev none 319 17 [(0, .ref l0), (1, .int l1), (2, .int l2), (3, .int l3), (4, .ref l4)] [] _ o hz
      refine ev_ic (v := 1) (q_cod qk319 rfl) (by decide) (by decide) ?_
      obtain rfl := m_R_inv hf
      obtain ⟨rfl, rfl⟩ := (show q_KI o hz (1, _) from hK)
      exact ev_ret (q_cod qk319 rfl) rfl
    rcases m_iteM hf with ⟨c9, hf⟩ | ⟨c9, hf⟩
    · subst c9
      refine ⟨gE, 5, 21, rfl, ?_⟩
      show q_Ev none 319 21 [(0, .ref l0), (1, .int l1), (2, .int l2), (3, .int l3), (4, .ref l4)] [] _ o hz
      refine ev_ic (v := 2) (q_cod qk319 rfl) (by decide) (by decide) ?_
      obtain rfl := m_R_inv hf
      obtain ⟨rfl, rfl⟩ := (show q_KI o hz (2, _) from hK)
      exact ev_ret (q_cod qk319 rfl) rfl
    cases hf
theorem f319_cl {l0 : Nat} {l1 : Int32} {l2 : Int32} {l3 : Int32} {l4 : Nat} {h : q_H} {x : Int32 × q_H} (hf : f319 l0 l1 l2 l3 l4 h = some x) : q_Cl 319 [.ref l0, .int l1, .int l2, .int l3, .ref l4] h (.inl (some (.int x.1))) x.2 := q_Cl.of rfl (q_LvS rfl rfl) (f319_ok hf ⟨rfl, rfl⟩)
/-! SmithyBenchLaw.raise(LSmithyBench;I[J)I -/
theorem qk320 : q_cs.getD 320 [] = qc_320 := rfl
def f320 (l0 : Nat) (l1 : Int32) (l2 : Nat) : m_M Int32 :=
  m_B (m_aK l0 11) (fun _ => m_T (f134 l0 l1) (fun v2 => m_B (m_wJ l2 0 (v2.toInt64)) (fun _ => m_R 0)) (fun E3 => m_B (m_G (E3 < 3)) (fun _ => if E3 = 2 then (m_R 1) else (if E3 = 0 then (m_R 2) else (m_F)))))
theorem f320_ok {l0 : Nat} {l1 : Int32} {l2 : Nat} {h : q_H} {o : q_O} {hz : q_H} {x : Int32 × q_H} (hf : f320 l0 l1 l2 h = some x) (hK : (q_KI o hz) x) : q_Ev none 320 0 [(0, .ref l0), (1, .int l1), (2, .ref l2)] [] h o hz := by
  unfold f320 at hf
  refine ev_aload_n (q_cod qk320 rfl) (by decide) rfl ?_
  refine ev_ic (v := 0) (q_cod qk320 rfl) (by decide) (by decide) ?_
  refine ev_aload_n (q_cod qk320 rfl) (by decide) rfl ?_
  refine ev_iload_n (q_cod qk320 rfl) (by decide) rfl ?_
  obtain ⟨g1, hf⟩ := m_aK_some hf
  refine em_callC (v := (fun u => some (.int u))) (q_cod qk320 rfl) (by decide) (q_cokV rfl rfl (Or.inr g1)) rfl (fun x e => f134_cl e) hf (fun v2 h hf => ?_) (fun E3 h hf => ?_)
  · refine ev_i2l (q_cod qk320 rfl) (by decide) ?_
    refine em_wJ (q_cod qk320 rfl) (by decide) hf (fun hf => ?_)
    refine ev_goto (q_cod qk320 rfl) (by decide) ?_
    refine ev_ic (v := 0) (q_cod qk320 rfl) (by decide) (by decide) ?_
    obtain rfl := m_R_inv hf
    obtain ⟨rfl, rfl⟩ := (show q_KI o hz (0, _) from hK)
    exact ev_ret (q_cod qk320 rfl) rfl
  · obtain ⟨gE, hf⟩ := m_G_some hf
    rcases m_iteM hf with ⟨c9, hf⟩ | ⟨c9, hf⟩
    · subst c9
      refine ⟨gE, 3, 13, rfl, ?_⟩
      show q_Ev none 320 13 [(0, .ref l0), (1, .int l1), (2, .ref l2)] [] _ o hz
      refine ev_ic (v := 1) (q_cod qk320 rfl) (by decide) (by decide) ?_
      obtain rfl := m_R_inv hf
      obtain ⟨rfl, rfl⟩ := (show q_KI o hz (1, _) from hK)
      exact ev_ret (q_cod qk320 rfl) rfl
    rcases m_iteM hf with ⟨c9, hf⟩ | ⟨c9, hf⟩
    · subst c9
      refine ⟨gE, 3, 16, rfl, ?_⟩
      show q_Ev none 320 16 [(0, .ref l0), (1, .int l1), (2, .ref l2)] [] _ o hz
      refine ev_ic (v := 2) (q_cod qk320 rfl) (by decide) (by decide) ?_
      obtain rfl := m_R_inv hf
      obtain ⟨rfl, rfl⟩ := (show q_KI o hz (2, _) from hK)
      exact ev_ret (q_cod qk320 rfl) rfl
    cases hf
theorem f320_cl {l0 : Nat} {l1 : Int32} {l2 : Nat} {h : q_H} {x : Int32 × q_H} (hf : f320 l0 l1 l2 h = some x) : q_Cl 320 [.ref l0, .int l1, .ref l2] h (.inl (some (.int x.1))) x.2 := q_Cl.of rfl (q_LvS rfl rfl) (f320_ok hf ⟨rfl, rfl⟩)
/-! SmithyBenchLaw.classOf(LSmithyBench;I[J)I -/
theorem qk321 : q_cs.getD 321 [] = qc_321 := rfl
def f321 (l0 : Nat) (l1 : Int32) (l2 : Nat) : m_M Int32 :=
  m_B (m_aK l0 11) (fun _ => m_T (f135 l0 l1) (fun v2 => m_B (m_wJ l2 0 (v2.toInt64)) (fun _ => m_R 0)) (fun E3 => m_B (m_G (E3 < 3)) (fun _ => if E3 = 2 then (m_R 1) else (if E3 = 0 then (m_R 2) else (m_F)))))
theorem f321_ok {l0 : Nat} {l1 : Int32} {l2 : Nat} {h : q_H} {o : q_O} {hz : q_H} {x : Int32 × q_H} (hf : f321 l0 l1 l2 h = some x) (hK : (q_KI o hz) x) : q_Ev none 321 0 [(0, .ref l0), (1, .int l1), (2, .ref l2)] [] h o hz := by
  unfold f321 at hf
  refine ev_aload_n (q_cod qk321 rfl) (by decide) rfl ?_
  refine ev_ic (v := 0) (q_cod qk321 rfl) (by decide) (by decide) ?_
  refine ev_aload_n (q_cod qk321 rfl) (by decide) rfl ?_
  refine ev_iload_n (q_cod qk321 rfl) (by decide) rfl ?_
  obtain ⟨g1, hf⟩ := m_aK_some hf
  refine em_callC (v := (fun u => some (.int u))) (q_cod qk321 rfl) (by decide) (q_cokV rfl rfl (Or.inr g1)) rfl (fun x e => f135_cl e) hf (fun v2 h hf => ?_) (fun E3 h hf => ?_)
  · refine ev_i2l (q_cod qk321 rfl) (by decide) ?_
    refine em_wJ (q_cod qk321 rfl) (by decide) hf (fun hf => ?_)
    refine ev_goto (q_cod qk321 rfl) (by decide) ?_
    refine ev_ic (v := 0) (q_cod qk321 rfl) (by decide) (by decide) ?_
    obtain rfl := m_R_inv hf
    obtain ⟨rfl, rfl⟩ := (show q_KI o hz (0, _) from hK)
    exact ev_ret (q_cod qk321 rfl) rfl
  · obtain ⟨gE, hf⟩ := m_G_some hf
    rcases m_iteM hf with ⟨c9, hf⟩ | ⟨c9, hf⟩
    · subst c9
      refine ⟨gE, 3, 13, rfl, ?_⟩
      show q_Ev none 321 13 [(0, .ref l0), (1, .int l1), (2, .ref l2)] [] _ o hz
      refine ev_ic (v := 1) (q_cod qk321 rfl) (by decide) (by decide) ?_
      obtain rfl := m_R_inv hf
      obtain ⟨rfl, rfl⟩ := (show q_KI o hz (1, _) from hK)
      exact ev_ret (q_cod qk321 rfl) rfl
    rcases m_iteM hf with ⟨c9, hf⟩ | ⟨c9, hf⟩
    · subst c9
      refine ⟨gE, 3, 16, rfl, ?_⟩
      show q_Ev none 321 16 [(0, .ref l0), (1, .int l1), (2, .ref l2)] [] _ o hz
      refine ev_ic (v := 2) (q_cod qk321 rfl) (by decide) (by decide) ?_
      obtain rfl := m_R_inv hf
      obtain ⟨rfl, rfl⟩ := (show q_KI o hz (2, _) from hK)
      exact ev_ret (q_cod qk321 rfl) rfl
    cases hf
theorem f321_cl {l0 : Nat} {l1 : Int32} {l2 : Nat} {h : q_H} {x : Int32 × q_H} (hf : f321 l0 l1 l2 h = some x) : q_Cl 321 [.ref l0, .int l1, .ref l2] h (.inl (some (.int x.1))) x.2 := q_Cl.of rfl (q_LvS rfl rfl) (f321_ok hf ⟨rfl, rfl⟩)
/-! SmithyBenchLaw.fieldOf(LSmithyBench;III[J)I -/
theorem qk322 : q_cs.getD 322 [] = qc_322 := rfl
def f322 (l0 : Nat) (l1 : Int32) (l2 : Int32) (l3 : Int32) (l4 : Nat) : m_M Int32 :=
  m_B (m_aK l0 11) (fun _ => m_T (f136 l0 l1 l2 l3) (fun v2 => m_B (m_wJ l4 0 (v2.toInt64)) (fun _ => m_R 0)) (fun E3 => m_B (m_G (E3 < 3)) (fun _ => if E3 = 2 then (m_R 1) else (if E3 = 1 then (m_R 2) else (if E3 = 0 then (m_R 3) else (m_F))))))
theorem f322_ok {l0 : Nat} {l1 : Int32} {l2 : Int32} {l3 : Int32} {l4 : Nat} {h : q_H} {o : q_O} {hz : q_H} {x : Int32 × q_H} (hf : f322 l0 l1 l2 l3 l4 h = some x) (hK : (q_KI o hz) x) : q_Ev none 322 0 [(0, .ref l0), (1, .int l1), (2, .int l2), (3, .int l3), (4, .ref l4)] [] h o hz := by
  unfold f322 at hf
  refine ev_aload (q_cod qk322 rfl) (by decide) rfl ?_
  refine ev_ic (v := 0) (q_cod qk322 rfl) (by decide) (by decide) ?_
  refine ev_aload_n (q_cod qk322 rfl) (by decide) rfl ?_
  refine ev_iload_n (q_cod qk322 rfl) (by decide) rfl ?_
  refine ev_iload_n (q_cod qk322 rfl) (by decide) rfl ?_
  refine ev_iload_n (q_cod qk322 rfl) (by decide) rfl ?_
  obtain ⟨g1, hf⟩ := m_aK_some hf
  refine em_callC (v := (fun u => some (.int u))) (q_cod qk322 rfl) (by decide) (q_cokV rfl rfl (Or.inr g1)) rfl (fun x e => f136_cl e) hf (fun v2 h hf => ?_) (fun E3 h hf => ?_)
  · refine ev_i2l (q_cod qk322 rfl) (by decide) ?_
    refine em_wJ (q_cod qk322 rfl) (by decide) hf (fun hf => ?_)
    refine ev_goto (q_cod qk322 rfl) (by decide) ?_
    refine ev_ic (v := 0) (q_cod qk322 rfl) (by decide) (by decide) ?_
    obtain rfl := m_R_inv hf
    obtain ⟨rfl, rfl⟩ := (show q_KI o hz (0, _) from hK)
    exact ev_ret (q_cod qk322 rfl) rfl
  · obtain ⟨gE, hf⟩ := m_G_some hf
    rcases m_iteM hf with ⟨c9, hf⟩ | ⟨c9, hf⟩
    · subst c9
      refine ⟨gE, 5, 17, rfl, ?_⟩
      show q_Ev none 322 17 [(0, .ref l0), (1, .int l1), (2, .int l2), (3, .int l3), (4, .ref l4)] [] _ o hz
      refine ev_ic (v := 1) (q_cod qk322 rfl) (by decide) (by decide) ?_
      obtain rfl := m_R_inv hf
      obtain ⟨rfl, rfl⟩ := (show q_KI o hz (1, _) from hK)
      exact ev_ret (q_cod qk322 rfl) rfl
    rcases m_iteM hf with ⟨c9, hf⟩ | ⟨c9, hf⟩
    · subst c9
      refine ⟨gE, 5, 21, rfl, ?_⟩
      show q_Ev none 322 21 [(0, .ref l0), (1, .int l1), (2, .int l2), (3, .int l3), (4, .ref l4)] [] _ o hz
      refine ev_ic (v := 2) (q_cod qk322 rfl) (by decide) (by decide) ?_
      obtain rfl := m_R_inv hf
      obtain ⟨rfl, rfl⟩ := (show q_KI o hz (2, _) from hK)
      exact ev_ret (q_cod qk322 rfl) rfl
    rcases m_iteM hf with ⟨c9, hf⟩ | ⟨c9, hf⟩
    · subst c9
      refine ⟨gE, 5, 25, rfl, ?_⟩
      show q_Ev none 322 25 [(0, .ref l0), (1, .int l1), (2, .int l2), (3, .int l3), (4, .ref l4)] [] _ o hz
      refine ev_ic (v := 3) (q_cod qk322 rfl) (by decide) (by decide) ?_
      obtain rfl := m_R_inv hf
      obtain ⟨rfl, rfl⟩ := (show q_KI o hz (3, _) from hK)
      exact ev_ret (q_cod qk322 rfl) rfl
    cases hf
theorem f322_cl {l0 : Nat} {l1 : Int32} {l2 : Int32} {l3 : Int32} {l4 : Nat} {h : q_H} {x : Int32 × q_H} (hf : f322 l0 l1 l2 l3 l4 h = some x) : q_Cl 322 [.ref l0, .int l1, .int l2, .int l3, .ref l4] h (.inl (some (.int x.1))) x.2 := q_Cl.of rfl (q_LvS rfl rfl) (f322_ok hf ⟨rfl, rfl⟩)
/-! SmithyBenchLaw.method(LSmithyBench;IIIIII[J)I -/
theorem qk323 : q_cs.getD 323 [] = qc_323 := rfl
def f323 (l0 : Nat) (l1 : Int32) (l2 : Int32) (l3 : Int32) (l4 : Int32) (l5 : Int32) (l6 : Int32) (l7 : Nat) : m_M Int32 :=
  m_B (m_aK l0 11) (fun _ => m_T (f137 l0 l1 l2 l3 l4 l5 l6) (fun v2 => m_B (m_wJ l7 0 (v2.toInt64)) (fun _ => m_R 0)) (fun E3 => m_B (m_G (E3 < 3)) (fun _ => if E3 = 2 then (m_R 1) else (if E3 = 1 then (m_R 2) else (if E3 = 0 then (m_R 3) else (m_F))))))
theorem f323_ok {l0 : Nat} {l1 : Int32} {l2 : Int32} {l3 : Int32} {l4 : Int32} {l5 : Int32} {l6 : Int32} {l7 : Nat} {h : q_H} {o : q_O} {hz : q_H} {x : Int32 × q_H} (hf : f323 l0 l1 l2 l3 l4 l5 l6 l7 h = some x) (hK : (q_KI o hz) x) : q_Ev none 323 0 [(0, .ref l0), (1, .int l1), (2, .int l2), (3, .int l3), (4, .int l4), (5, .int l5), (6, .int l6), (7, .ref l7)] [] h o hz := by
  unfold f323 at hf
  refine ev_aload (q_cod qk323 rfl) (by decide) rfl ?_
  refine ev_ic (v := 0) (q_cod qk323 rfl) (by decide) (by decide) ?_
  refine ev_aload_n (q_cod qk323 rfl) (by decide) rfl ?_
  refine ev_iload_n (q_cod qk323 rfl) (by decide) rfl ?_
  refine ev_iload_n (q_cod qk323 rfl) (by decide) rfl ?_
  refine ev_iload_n (q_cod qk323 rfl) (by decide) rfl ?_
  refine ev_iload (q_cod qk323 rfl) (by decide) rfl ?_
  refine ev_iload (q_cod qk323 rfl) (by decide) rfl ?_
  refine ev_iload (q_cod qk323 rfl) (by decide) rfl ?_
  obtain ⟨g1, hf⟩ := m_aK_some hf
  refine em_callC (v := (fun u => some (.int u))) (q_cod qk323 rfl) (by decide) (q_cokV rfl rfl (Or.inr g1)) rfl (fun x e => f137_cl e) hf (fun v2 h hf => ?_) (fun E3 h hf => ?_)
  · refine ev_i2l (q_cod qk323 rfl) (by decide) ?_
    refine em_wJ (q_cod qk323 rfl) (by decide) hf (fun hf => ?_)
    refine ev_goto (q_cod qk323 rfl) (by decide) ?_
    refine ev_ic (v := 0) (q_cod qk323 rfl) (by decide) (by decide) ?_
    obtain rfl := m_R_inv hf
    obtain ⟨rfl, rfl⟩ := (show q_KI o hz (0, _) from hK)
    exact ev_ret (q_cod qk323 rfl) rfl
  · obtain ⟨gE, hf⟩ := m_G_some hf
    rcases m_iteM hf with ⟨c9, hf⟩ | ⟨c9, hf⟩
    · subst c9
      refine ⟨gE, 8, 23, rfl, ?_⟩
      show q_Ev none 323 23 [(0, .ref l0), (1, .int l1), (2, .int l2), (3, .int l3), (4, .int l4), (5, .int l5), (6, .int l6), (7, .ref l7)] [] _ o hz
      refine ev_ic (v := 1) (q_cod qk323 rfl) (by decide) (by decide) ?_
      obtain rfl := m_R_inv hf
      obtain ⟨rfl, rfl⟩ := (show q_KI o hz (1, _) from hK)
      exact ev_ret (q_cod qk323 rfl) rfl
    rcases m_iteM hf with ⟨c9, hf⟩ | ⟨c9, hf⟩
    · subst c9
      refine ⟨gE, 8, 27, rfl, ?_⟩
      show q_Ev none 323 27 [(0, .ref l0), (1, .int l1), (2, .int l2), (3, .int l3), (4, .int l4), (5, .int l5), (6, .int l6), (7, .ref l7)] [] _ o hz
      refine ev_ic (v := 2) (q_cod qk323 rfl) (by decide) (by decide) ?_
      obtain rfl := m_R_inv hf
      obtain ⟨rfl, rfl⟩ := (show q_KI o hz (2, _) from hK)
      exact ev_ret (q_cod qk323 rfl) rfl
    rcases m_iteM hf with ⟨c9, hf⟩ | ⟨c9, hf⟩
    · subst c9
      refine ⟨gE, 8, 31, rfl, ?_⟩
      show q_Ev none 323 31 [(0, .ref l0), (1, .int l1), (2, .int l2), (3, .int l3), (4, .int l4), (5, .int l5), (6, .int l6), (7, .ref l7)] [] _ o hz
      refine ev_ic (v := 3) (q_cod qk323 rfl) (by decide) (by decide) ?_
      obtain rfl := m_R_inv hf
      obtain ⟨rfl, rfl⟩ := (show q_KI o hz (3, _) from hK)
      exact ev_ret (q_cod qk323 rfl) rfl
    cases hf
theorem f323_cl {l0 : Nat} {l1 : Int32} {l2 : Int32} {l3 : Int32} {l4 : Int32} {l5 : Int32} {l6 : Int32} {l7 : Nat} {h : q_H} {x : Int32 × q_H} (hf : f323 l0 l1 l2 l3 l4 l5 l6 l7 h = some x) : q_Cl 323 [.ref l0, .int l1, .int l2, .int l3, .int l4, .int l5, .int l6, .ref l7] h (.inl (some (.int x.1))) x.2 := q_Cl.of rfl (q_LvS rfl rfl) (f323_ok hf ⟨rfl, rfl⟩)
/-! SmithyBenchLaw.begin(LSmithyBench;[J)I -/
theorem qk324 : q_cs.getD 324 [] = qc_324 := rfl
def f324 (l0 : Nat) (l1 : Nat) : m_M Int32 :=
  m_B (m_aK l0 11) (fun _ => m_T (f139 l0) (fun v2 => m_B (m_wJ l1 0 (v2.toInt64)) (fun _ => m_R 0)) (fun E3 => m_B (m_G (E3 < 3)) (fun _ => if E3 = 0 then (m_R 1) else (m_F))))
theorem f324_ok {l0 : Nat} {l1 : Nat} {h : q_H} {o : q_O} {hz : q_H} {x : Int32 × q_H} (hf : f324 l0 l1 h = some x) (hK : (q_KI o hz) x) : q_Ev none 324 0 [(0, .ref l0), (1, .ref l1)] [] h o hz := by
  unfold f324 at hf
  refine ev_aload_n (q_cod qk324 rfl) (by decide) rfl ?_
  refine ev_ic (v := 0) (q_cod qk324 rfl) (by decide) (by decide) ?_
  refine ev_aload_n (q_cod qk324 rfl) (by decide) rfl ?_
  obtain ⟨g1, hf⟩ := m_aK_some hf
  refine em_callC (v := (fun u => some (.int u))) (q_cod qk324 rfl) (by decide) (q_cokV rfl rfl (Or.inr g1)) rfl (fun x e => f139_cl e) hf (fun v2 h hf => ?_) (fun E3 h hf => ?_)
  · refine ev_i2l (q_cod qk324 rfl) (by decide) ?_
    refine em_wJ (q_cod qk324 rfl) (by decide) hf (fun hf => ?_)
    refine ev_goto (q_cod qk324 rfl) (by decide) ?_
    refine ev_ic (v := 0) (q_cod qk324 rfl) (by decide) (by decide) ?_
    obtain rfl := m_R_inv hf
    obtain ⟨rfl, rfl⟩ := (show q_KI o hz (0, _) from hK)
    exact ev_ret (q_cod qk324 rfl) rfl
  · obtain ⟨gE, hf⟩ := m_G_some hf
    rcases m_iteM hf with ⟨c9, hf⟩ | ⟨c9, hf⟩
    · subst c9
      refine ⟨gE, 2, 12, rfl, ?_⟩
      show q_Ev none 324 12 [(0, .ref l0), (1, .ref l1)] [] _ o hz
      refine ev_ic (v := 1) (q_cod qk324 rfl) (by decide) (by decide) ?_
      obtain rfl := m_R_inv hf
      obtain ⟨rfl, rfl⟩ := (show q_KI o hz (1, _) from hK)
      exact ev_ret (q_cod qk324 rfl) rfl
    cases hf
theorem f324_cl {l0 : Nat} {l1 : Nat} {h : q_H} {x : Int32 × q_H} (hf : f324 l0 l1 h = some x) : q_Cl 324 [.ref l0, .ref l1] h (.inl (some (.int x.1))) x.2 := q_Cl.of rfl (q_LvS rfl rfl) (f324_ok hf ⟨rfl, rfl⟩)
/-! SmithyBenchLaw.renameMethod(LSmithyBench;II[J)I -/
theorem qk325 : q_cs.getD 325 [] = qc_325 := rfl
def f325 (l0 : Nat) (l1 : Int32) (l2 : Int32) (l3 : Nat) : m_M Int32 :=
  m_B (m_aK l0 11) (fun _ => m_T (f140 l0 l1 l2) (fun v2 => m_B (m_wJ l3 0 (v2.toInt64)) (fun _ => m_R 0)) (fun E3 => m_B (m_G (E3 < 3)) (fun _ => if E3 = 2 then (m_R 1) else (if E3 = 1 then (m_R 2) else (if E3 = 0 then (m_R 3) else (m_F))))))
theorem f325_ok {l0 : Nat} {l1 : Int32} {l2 : Int32} {l3 : Nat} {h : q_H} {o : q_O} {hz : q_H} {x : Int32 × q_H} (hf : f325 l0 l1 l2 l3 h = some x) (hK : (q_KI o hz) x) : q_Ev none 325 0 [(0, .ref l0), (1, .int l1), (2, .int l2), (3, .ref l3)] [] h o hz := by
  unfold f325 at hf
  refine ev_aload_n (q_cod qk325 rfl) (by decide) rfl ?_
  refine ev_ic (v := 0) (q_cod qk325 rfl) (by decide) (by decide) ?_
  refine ev_aload_n (q_cod qk325 rfl) (by decide) rfl ?_
  refine ev_iload_n (q_cod qk325 rfl) (by decide) rfl ?_
  refine ev_iload_n (q_cod qk325 rfl) (by decide) rfl ?_
  obtain ⟨g1, hf⟩ := m_aK_some hf
  refine em_callC (v := (fun u => some (.int u))) (q_cod qk325 rfl) (by decide) (q_cokV rfl rfl (Or.inr g1)) rfl (fun x e => f140_cl e) hf (fun v2 h hf => ?_) (fun E3 h hf => ?_)
  · refine ev_i2l (q_cod qk325 rfl) (by decide) ?_
    refine em_wJ (q_cod qk325 rfl) (by decide) hf (fun hf => ?_)
    refine ev_goto (q_cod qk325 rfl) (by decide) ?_
    refine ev_ic (v := 0) (q_cod qk325 rfl) (by decide) (by decide) ?_
    obtain rfl := m_R_inv hf
    obtain ⟨rfl, rfl⟩ := (show q_KI o hz (0, _) from hK)
    exact ev_ret (q_cod qk325 rfl) rfl
  · obtain ⟨gE, hf⟩ := m_G_some hf
    rcases m_iteM hf with ⟨c9, hf⟩ | ⟨c9, hf⟩
    · subst c9
      refine ⟨gE, 4, 15, rfl, ?_⟩
      show q_Ev none 325 15 [(0, .ref l0), (1, .int l1), (2, .int l2), (3, .ref l3)] [] _ o hz
      refine ev_ic (v := 1) (q_cod qk325 rfl) (by decide) (by decide) ?_
      obtain rfl := m_R_inv hf
      obtain ⟨rfl, rfl⟩ := (show q_KI o hz (1, _) from hK)
      exact ev_ret (q_cod qk325 rfl) rfl
    rcases m_iteM hf with ⟨c9, hf⟩ | ⟨c9, hf⟩
    · subst c9
      refine ⟨gE, 4, 19, rfl, ?_⟩
      show q_Ev none 325 19 [(0, .ref l0), (1, .int l1), (2, .int l2), (3, .ref l3)] [] _ o hz
      refine ev_ic (v := 2) (q_cod qk325 rfl) (by decide) (by decide) ?_
      obtain rfl := m_R_inv hf
      obtain ⟨rfl, rfl⟩ := (show q_KI o hz (2, _) from hK)
      exact ev_ret (q_cod qk325 rfl) rfl
    rcases m_iteM hf with ⟨c9, hf⟩ | ⟨c9, hf⟩
    · subst c9
      refine ⟨gE, 4, 23, rfl, ?_⟩
      show q_Ev none 325 23 [(0, .ref l0), (1, .int l1), (2, .int l2), (3, .ref l3)] [] _ o hz
      refine ev_ic (v := 3) (q_cod qk325 rfl) (by decide) (by decide) ?_
      obtain rfl := m_R_inv hf
      obtain ⟨rfl, rfl⟩ := (show q_KI o hz (3, _) from hK)
      exact ev_ret (q_cod qk325 rfl) rfl
    cases hf
theorem f325_cl {l0 : Nat} {l1 : Int32} {l2 : Int32} {l3 : Nat} {h : q_H} {x : Int32 × q_H} (hf : f325 l0 l1 l2 l3 h = some x) : q_Cl 325 [.ref l0, .int l1, .int l2, .ref l3] h (.inl (some (.int x.1))) x.2 := q_Cl.of rfl (q_LvS rfl rfl) (f325_ok hf ⟨rfl, rfl⟩)
/-! SmithyBenchLaw.renameField(LSmithyBench;III[J)I -/
theorem qk326 : q_cs.getD 326 [] = qc_326 := rfl
def f326 (l0 : Nat) (l1 : Int32) (l2 : Int32) (l3 : Int32) (l4 : Nat) : m_M Int32 :=
  m_B (m_aK l0 11) (fun _ => m_T (f141 l0 l1 l2 l3) (fun v2 => m_B (m_wJ l4 0 (v2.toInt64)) (fun _ => m_R 0)) (fun E3 => m_B (m_G (E3 < 3)) (fun _ => if E3 = 2 then (m_R 1) else (if E3 = 1 then (m_R 2) else (if E3 = 0 then (m_R 3) else (m_F))))))
theorem f326_ok {l0 : Nat} {l1 : Int32} {l2 : Int32} {l3 : Int32} {l4 : Nat} {h : q_H} {o : q_O} {hz : q_H} {x : Int32 × q_H} (hf : f326 l0 l1 l2 l3 l4 h = some x) (hK : (q_KI o hz) x) : q_Ev none 326 0 [(0, .ref l0), (1, .int l1), (2, .int l2), (3, .int l3), (4, .ref l4)] [] h o hz := by
  unfold f326 at hf
  refine ev_aload (q_cod qk326 rfl) (by decide) rfl ?_
  refine ev_ic (v := 0) (q_cod qk326 rfl) (by decide) (by decide) ?_
  refine ev_aload_n (q_cod qk326 rfl) (by decide) rfl ?_
  refine ev_iload_n (q_cod qk326 rfl) (by decide) rfl ?_
  refine ev_iload_n (q_cod qk326 rfl) (by decide) rfl ?_
  refine ev_iload_n (q_cod qk326 rfl) (by decide) rfl ?_
  obtain ⟨g1, hf⟩ := m_aK_some hf
  refine em_callC (v := (fun u => some (.int u))) (q_cod qk326 rfl) (by decide) (q_cokV rfl rfl (Or.inr g1)) rfl (fun x e => f141_cl e) hf (fun v2 h hf => ?_) (fun E3 h hf => ?_)
  · refine ev_i2l (q_cod qk326 rfl) (by decide) ?_
    refine em_wJ (q_cod qk326 rfl) (by decide) hf (fun hf => ?_)
    refine ev_goto (q_cod qk326 rfl) (by decide) ?_
    refine ev_ic (v := 0) (q_cod qk326 rfl) (by decide) (by decide) ?_
    obtain rfl := m_R_inv hf
    obtain ⟨rfl, rfl⟩ := (show q_KI o hz (0, _) from hK)
    exact ev_ret (q_cod qk326 rfl) rfl
  · obtain ⟨gE, hf⟩ := m_G_some hf
    rcases m_iteM hf with ⟨c9, hf⟩ | ⟨c9, hf⟩
    · subst c9
      refine ⟨gE, 5, 17, rfl, ?_⟩
      show q_Ev none 326 17 [(0, .ref l0), (1, .int l1), (2, .int l2), (3, .int l3), (4, .ref l4)] [] _ o hz
      refine ev_ic (v := 1) (q_cod qk326 rfl) (by decide) (by decide) ?_
      obtain rfl := m_R_inv hf
      obtain ⟨rfl, rfl⟩ := (show q_KI o hz (1, _) from hK)
      exact ev_ret (q_cod qk326 rfl) rfl
    rcases m_iteM hf with ⟨c9, hf⟩ | ⟨c9, hf⟩
    · subst c9
      refine ⟨gE, 5, 21, rfl, ?_⟩
      show q_Ev none 326 21 [(0, .ref l0), (1, .int l1), (2, .int l2), (3, .int l3), (4, .ref l4)] [] _ o hz
      refine ev_ic (v := 2) (q_cod qk326 rfl) (by decide) (by decide) ?_
      obtain rfl := m_R_inv hf
      obtain ⟨rfl, rfl⟩ := (show q_KI o hz (2, _) from hK)
      exact ev_ret (q_cod qk326 rfl) rfl
    rcases m_iteM hf with ⟨c9, hf⟩ | ⟨c9, hf⟩
    · subst c9
      refine ⟨gE, 5, 25, rfl, ?_⟩
      show q_Ev none 326 25 [(0, .ref l0), (1, .int l1), (2, .int l2), (3, .int l3), (4, .ref l4)] [] _ o hz
      refine ev_ic (v := 3) (q_cod qk326 rfl) (by decide) (by decide) ?_
      obtain rfl := m_R_inv hf
      obtain ⟨rfl, rfl⟩ := (show q_KI o hz (3, _) from hK)
      exact ev_ret (q_cod qk326 rfl) rfl
    cases hf
theorem f326_cl {l0 : Nat} {l1 : Int32} {l2 : Int32} {l3 : Int32} {l4 : Nat} {h : q_H} {x : Int32 × q_H} (hf : f326 l0 l1 l2 l3 l4 h = some x) : q_Cl 326 [.ref l0, .int l1, .int l2, .int l3, .ref l4] h (.inl (some (.int x.1))) x.2 := q_Cl.of rfl (q_LvS rfl rfl) (f326_ok hf ⟨rfl, rfl⟩)
/-! SmithyBenchLaw.renameLocal(LSmithyBench;III[J)I -/
theorem qk327 : q_cs.getD 327 [] = qc_327 := rfl
def f327 (l0 : Nat) (l1 : Int32) (l2 : Int32) (l3 : Int32) (l4 : Nat) : m_M Int32 :=
  m_B (m_aK l0 11) (fun _ => m_T (f142 l0 l1 l2 l3) (fun v2 => m_B (m_wJ l4 0 (v2.toInt64)) (fun _ => m_R 0)) (fun E3 => m_B (m_G (E3 < 3)) (fun _ => if E3 = 2 then (m_R 1) else (if E3 = 1 then (m_R 2) else (if E3 = 0 then (m_R 3) else (m_F))))))
theorem f327_ok {l0 : Nat} {l1 : Int32} {l2 : Int32} {l3 : Int32} {l4 : Nat} {h : q_H} {o : q_O} {hz : q_H} {x : Int32 × q_H} (hf : f327 l0 l1 l2 l3 l4 h = some x) (hK : (q_KI o hz) x) : q_Ev none 327 0 [(0, .ref l0), (1, .int l1), (2, .int l2), (3, .int l3), (4, .ref l4)] [] h o hz := by
  unfold f327 at hf
  refine ev_aload (q_cod qk327 rfl) (by decide) rfl ?_
  refine ev_ic (v := 0) (q_cod qk327 rfl) (by decide) (by decide) ?_
  refine ev_aload_n (q_cod qk327 rfl) (by decide) rfl ?_
  refine ev_iload_n (q_cod qk327 rfl) (by decide) rfl ?_
  refine ev_iload_n (q_cod qk327 rfl) (by decide) rfl ?_
  refine ev_iload_n (q_cod qk327 rfl) (by decide) rfl ?_
  obtain ⟨g1, hf⟩ := m_aK_some hf
  refine em_callC (v := (fun u => some (.int u))) (q_cod qk327 rfl) (by decide) (q_cokV rfl rfl (Or.inr g1)) rfl (fun x e => f142_cl e) hf (fun v2 h hf => ?_) (fun E3 h hf => ?_)
  · refine ev_i2l (q_cod qk327 rfl) (by decide) ?_
    refine em_wJ (q_cod qk327 rfl) (by decide) hf (fun hf => ?_)
    refine ev_goto (q_cod qk327 rfl) (by decide) ?_
    refine ev_ic (v := 0) (q_cod qk327 rfl) (by decide) (by decide) ?_
    obtain rfl := m_R_inv hf
    obtain ⟨rfl, rfl⟩ := (show q_KI o hz (0, _) from hK)
    exact ev_ret (q_cod qk327 rfl) rfl
  · obtain ⟨gE, hf⟩ := m_G_some hf
    rcases m_iteM hf with ⟨c9, hf⟩ | ⟨c9, hf⟩
    · subst c9
      refine ⟨gE, 5, 17, rfl, ?_⟩
      show q_Ev none 327 17 [(0, .ref l0), (1, .int l1), (2, .int l2), (3, .int l3), (4, .ref l4)] [] _ o hz
      refine ev_ic (v := 1) (q_cod qk327 rfl) (by decide) (by decide) ?_
      obtain rfl := m_R_inv hf
      obtain ⟨rfl, rfl⟩ := (show q_KI o hz (1, _) from hK)
      exact ev_ret (q_cod qk327 rfl) rfl
    rcases m_iteM hf with ⟨c9, hf⟩ | ⟨c9, hf⟩
    · subst c9
      refine ⟨gE, 5, 21, rfl, ?_⟩
      show q_Ev none 327 21 [(0, .ref l0), (1, .int l1), (2, .int l2), (3, .int l3), (4, .ref l4)] [] _ o hz
      refine ev_ic (v := 2) (q_cod qk327 rfl) (by decide) (by decide) ?_
      obtain rfl := m_R_inv hf
      obtain ⟨rfl, rfl⟩ := (show q_KI o hz (2, _) from hK)
      exact ev_ret (q_cod qk327 rfl) rfl
    rcases m_iteM hf with ⟨c9, hf⟩ | ⟨c9, hf⟩
    · subst c9
      refine ⟨gE, 5, 25, rfl, ?_⟩
      show q_Ev none 327 25 [(0, .ref l0), (1, .int l1), (2, .int l2), (3, .int l3), (4, .ref l4)] [] _ o hz
      refine ev_ic (v := 3) (q_cod qk327 rfl) (by decide) (by decide) ?_
      obtain rfl := m_R_inv hf
      obtain ⟨rfl, rfl⟩ := (show q_KI o hz (3, _) from hK)
      exact ev_ret (q_cod qk327 rfl) rfl
    cases hf
theorem f327_cl {l0 : Nat} {l1 : Int32} {l2 : Int32} {l3 : Int32} {l4 : Nat} {h : q_H} {x : Int32 × q_H} (hf : f327 l0 l1 l2 l3 l4 h = some x) : q_Cl 327 [.ref l0, .int l1, .int l2, .int l3, .ref l4] h (.inl (some (.int x.1))) x.2 := q_Cl.of rfl (q_LvS rfl rfl) (f327_ok hf ⟨rfl, rfl⟩)
/-! SmithyBenchLaw.inline(LSmithyBench;II[J)I -/
theorem qk328 : q_cs.getD 328 [] = qc_328 := rfl
def f328 (l0 : Nat) (l1 : Int32) (l2 : Int32) (l3 : Nat) : m_M Int32 :=
  m_B (m_aK l0 11) (fun _ => m_T (f143 l0 l1 l2) (fun v2 => m_B (m_wJ l3 0 (v2.toInt64)) (fun _ => m_R 0)) (fun E3 => m_B (m_G (E3 < 3)) (fun _ => if E3 = 2 then (m_R 1) else (if E3 = 0 then (m_R 2) else (m_F)))))
theorem f328_ok {l0 : Nat} {l1 : Int32} {l2 : Int32} {l3 : Nat} {h : q_H} {o : q_O} {hz : q_H} {x : Int32 × q_H} (hf : f328 l0 l1 l2 l3 h = some x) (hK : (q_KI o hz) x) : q_Ev none 328 0 [(0, .ref l0), (1, .int l1), (2, .int l2), (3, .ref l3)] [] h o hz := by
  unfold f328 at hf
  refine ev_aload_n (q_cod qk328 rfl) (by decide) rfl ?_
  refine ev_ic (v := 0) (q_cod qk328 rfl) (by decide) (by decide) ?_
  refine ev_aload_n (q_cod qk328 rfl) (by decide) rfl ?_
  refine ev_iload_n (q_cod qk328 rfl) (by decide) rfl ?_
  refine ev_iload_n (q_cod qk328 rfl) (by decide) rfl ?_
  obtain ⟨g1, hf⟩ := m_aK_some hf
  refine em_callC (v := (fun u => some (.int u))) (q_cod qk328 rfl) (by decide) (q_cokV rfl rfl (Or.inr g1)) rfl (fun x e => f143_cl e) hf (fun v2 h hf => ?_) (fun E3 h hf => ?_)
  · refine ev_i2l (q_cod qk328 rfl) (by decide) ?_
    refine em_wJ (q_cod qk328 rfl) (by decide) hf (fun hf => ?_)
    refine ev_goto (q_cod qk328 rfl) (by decide) ?_
    refine ev_ic (v := 0) (q_cod qk328 rfl) (by decide) (by decide) ?_
    obtain rfl := m_R_inv hf
    obtain ⟨rfl, rfl⟩ := (show q_KI o hz (0, _) from hK)
    exact ev_ret (q_cod qk328 rfl) rfl
  · obtain ⟨gE, hf⟩ := m_G_some hf
    rcases m_iteM hf with ⟨c9, hf⟩ | ⟨c9, hf⟩
    · subst c9
      refine ⟨gE, 4, 15, rfl, ?_⟩
      show q_Ev none 328 15 [(0, .ref l0), (1, .int l1), (2, .int l2), (3, .ref l3)] [] _ o hz
      refine ev_ic (v := 1) (q_cod qk328 rfl) (by decide) (by decide) ?_
      obtain rfl := m_R_inv hf
      obtain ⟨rfl, rfl⟩ := (show q_KI o hz (1, _) from hK)
      exact ev_ret (q_cod qk328 rfl) rfl
    rcases m_iteM hf with ⟨c9, hf⟩ | ⟨c9, hf⟩
    · subst c9
      refine ⟨gE, 4, 19, rfl, ?_⟩
      show q_Ev none 328 19 [(0, .ref l0), (1, .int l1), (2, .int l2), (3, .ref l3)] [] _ o hz
      refine ev_ic (v := 2) (q_cod qk328 rfl) (by decide) (by decide) ?_
      obtain rfl := m_R_inv hf
      obtain ⟨rfl, rfl⟩ := (show q_KI o hz (2, _) from hK)
      exact ev_ret (q_cod qk328 rfl) rfl
    cases hf
theorem f328_cl {l0 : Nat} {l1 : Int32} {l2 : Int32} {l3 : Nat} {h : q_H} {x : Int32 × q_H} (hf : f328 l0 l1 l2 l3 h = some x) : q_Cl 328 [.ref l0, .int l1, .int l2, .ref l3] h (.inl (some (.int x.1))) x.2 := q_Cl.of rfl (q_LvS rfl rfl) (f328_ok hf ⟨rfl, rfl⟩)
/-! SmithyBenchLaw.extract(LSmithyBench;III[J)I -/
theorem qk329 : q_cs.getD 329 [] = qc_329 := rfl
def f329 (l0 : Nat) (l1 : Int32) (l2 : Int32) (l3 : Int32) (l4 : Nat) : m_M Int32 :=
  m_B (m_aK l0 11) (fun _ => m_T (f144 l0 l1 l2 l3) (fun v2 => m_B (m_wJ l4 0 (v2.toInt64)) (fun _ => m_R 0)) (fun E3 => m_B (m_G (E3 < 3)) (fun _ => if E3 = 2 then (m_R 1) else (if E3 = 1 then (m_R 2) else (if E3 = 0 then (m_R 3) else (m_F))))))
theorem f329_ok {l0 : Nat} {l1 : Int32} {l2 : Int32} {l3 : Int32} {l4 : Nat} {h : q_H} {o : q_O} {hz : q_H} {x : Int32 × q_H} (hf : f329 l0 l1 l2 l3 l4 h = some x) (hK : (q_KI o hz) x) : q_Ev none 329 0 [(0, .ref l0), (1, .int l1), (2, .int l2), (3, .int l3), (4, .ref l4)] [] h o hz := by
  unfold f329 at hf
  refine ev_aload (q_cod qk329 rfl) (by decide) rfl ?_
  refine ev_ic (v := 0) (q_cod qk329 rfl) (by decide) (by decide) ?_
  refine ev_aload_n (q_cod qk329 rfl) (by decide) rfl ?_
  refine ev_iload_n (q_cod qk329 rfl) (by decide) rfl ?_
  refine ev_iload_n (q_cod qk329 rfl) (by decide) rfl ?_
  refine ev_iload_n (q_cod qk329 rfl) (by decide) rfl ?_
  obtain ⟨g1, hf⟩ := m_aK_some hf
  refine em_callC (v := (fun u => some (.int u))) (q_cod qk329 rfl) (by decide) (q_cokV rfl rfl (Or.inr g1)) rfl (fun x e => f144_cl e) hf (fun v2 h hf => ?_) (fun E3 h hf => ?_)
  · refine ev_i2l (q_cod qk329 rfl) (by decide) ?_
    refine em_wJ (q_cod qk329 rfl) (by decide) hf (fun hf => ?_)
    refine ev_goto (q_cod qk329 rfl) (by decide) ?_
    refine ev_ic (v := 0) (q_cod qk329 rfl) (by decide) (by decide) ?_
    obtain rfl := m_R_inv hf
    obtain ⟨rfl, rfl⟩ := (show q_KI o hz (0, _) from hK)
    exact ev_ret (q_cod qk329 rfl) rfl
  · obtain ⟨gE, hf⟩ := m_G_some hf
    rcases m_iteM hf with ⟨c9, hf⟩ | ⟨c9, hf⟩
    · subst c9
      refine ⟨gE, 5, 17, rfl, ?_⟩
      show q_Ev none 329 17 [(0, .ref l0), (1, .int l1), (2, .int l2), (3, .int l3), (4, .ref l4)] [] _ o hz
      refine ev_ic (v := 1) (q_cod qk329 rfl) (by decide) (by decide) ?_
      obtain rfl := m_R_inv hf
      obtain ⟨rfl, rfl⟩ := (show q_KI o hz (1, _) from hK)
      exact ev_ret (q_cod qk329 rfl) rfl
    rcases m_iteM hf with ⟨c9, hf⟩ | ⟨c9, hf⟩
    · subst c9
      refine ⟨gE, 5, 21, rfl, ?_⟩
      show q_Ev none 329 21 [(0, .ref l0), (1, .int l1), (2, .int l2), (3, .int l3), (4, .ref l4)] [] _ o hz
      refine ev_ic (v := 2) (q_cod qk329 rfl) (by decide) (by decide) ?_
      obtain rfl := m_R_inv hf
      obtain ⟨rfl, rfl⟩ := (show q_KI o hz (2, _) from hK)
      exact ev_ret (q_cod qk329 rfl) rfl
    rcases m_iteM hf with ⟨c9, hf⟩ | ⟨c9, hf⟩
    · subst c9
      refine ⟨gE, 5, 25, rfl, ?_⟩
      show q_Ev none 329 25 [(0, .ref l0), (1, .int l1), (2, .int l2), (3, .int l3), (4, .ref l4)] [] _ o hz
      refine ev_ic (v := 3) (q_cod qk329 rfl) (by decide) (by decide) ?_
      obtain rfl := m_R_inv hf
      obtain ⟨rfl, rfl⟩ := (show q_KI o hz (3, _) from hK)
      exact ev_ret (q_cod qk329 rfl) rfl
    cases hf
theorem f329_cl {l0 : Nat} {l1 : Int32} {l2 : Int32} {l3 : Int32} {l4 : Nat} {h : q_H} {x : Int32 × q_H} (hf : f329 l0 l1 l2 l3 l4 h = some x) : q_Cl 329 [.ref l0, .int l1, .int l2, .int l3, .ref l4] h (.inl (some (.int x.1))) x.2 := q_Cl.of rfl (q_LvS rfl rfl) (f329_ok hf ⟨rfl, rfl⟩)
/-! SmithyBenchLaw.addParameter(LSmithyBench;II[J)I -/
theorem qk330 : q_cs.getD 330 [] = qc_330 := rfl
def f330 (l0 : Nat) (l1 : Int32) (l2 : Int32) (l3 : Nat) : m_M Int32 :=
  m_B (m_aK l0 11) (fun _ => m_T (f145 l0 l1 l2) (fun v2 => m_B (m_wJ l3 0 (v2.toInt64)) (fun _ => m_R 0)) (fun E3 => m_B (m_G (E3 < 3)) (fun _ => if E3 = 2 then (m_R 1) else (if E3 = 0 then (m_R 2) else (m_F)))))
theorem f330_ok {l0 : Nat} {l1 : Int32} {l2 : Int32} {l3 : Nat} {h : q_H} {o : q_O} {hz : q_H} {x : Int32 × q_H} (hf : f330 l0 l1 l2 l3 h = some x) (hK : (q_KI o hz) x) : q_Ev none 330 0 [(0, .ref l0), (1, .int l1), (2, .int l2), (3, .ref l3)] [] h o hz := by
  unfold f330 at hf
  refine ev_aload_n (q_cod qk330 rfl) (by decide) rfl ?_
  refine ev_ic (v := 0) (q_cod qk330 rfl) (by decide) (by decide) ?_
  refine ev_aload_n (q_cod qk330 rfl) (by decide) rfl ?_
  refine ev_iload_n (q_cod qk330 rfl) (by decide) rfl ?_
  refine ev_iload_n (q_cod qk330 rfl) (by decide) rfl ?_
  obtain ⟨g1, hf⟩ := m_aK_some hf
  refine em_callC (v := (fun u => some (.int u))) (q_cod qk330 rfl) (by decide) (q_cokV rfl rfl (Or.inr g1)) rfl (fun x e => f145_cl e) hf (fun v2 h hf => ?_) (fun E3 h hf => ?_)
  · refine ev_i2l (q_cod qk330 rfl) (by decide) ?_
    refine em_wJ (q_cod qk330 rfl) (by decide) hf (fun hf => ?_)
    refine ev_goto (q_cod qk330 rfl) (by decide) ?_
    refine ev_ic (v := 0) (q_cod qk330 rfl) (by decide) (by decide) ?_
    obtain rfl := m_R_inv hf
    obtain ⟨rfl, rfl⟩ := (show q_KI o hz (0, _) from hK)
    exact ev_ret (q_cod qk330 rfl) rfl
  · obtain ⟨gE, hf⟩ := m_G_some hf
    rcases m_iteM hf with ⟨c9, hf⟩ | ⟨c9, hf⟩
    · subst c9
      refine ⟨gE, 4, 15, rfl, ?_⟩
      show q_Ev none 330 15 [(0, .ref l0), (1, .int l1), (2, .int l2), (3, .ref l3)] [] _ o hz
      refine ev_ic (v := 1) (q_cod qk330 rfl) (by decide) (by decide) ?_
      obtain rfl := m_R_inv hf
      obtain ⟨rfl, rfl⟩ := (show q_KI o hz (1, _) from hK)
      exact ev_ret (q_cod qk330 rfl) rfl
    rcases m_iteM hf with ⟨c9, hf⟩ | ⟨c9, hf⟩
    · subst c9
      refine ⟨gE, 4, 19, rfl, ?_⟩
      show q_Ev none 330 19 [(0, .ref l0), (1, .int l1), (2, .int l2), (3, .ref l3)] [] _ o hz
      refine ev_ic (v := 2) (q_cod qk330 rfl) (by decide) (by decide) ?_
      obtain rfl := m_R_inv hf
      obtain ⟨rfl, rfl⟩ := (show q_KI o hz (2, _) from hK)
      exact ev_ret (q_cod qk330 rfl) rfl
    cases hf
theorem f330_cl {l0 : Nat} {l1 : Int32} {l2 : Int32} {l3 : Nat} {h : q_H} {x : Int32 × q_H} (hf : f330 l0 l1 l2 l3 h = some x) : q_Cl 330 [.ref l0, .int l1, .int l2, .ref l3] h (.inl (some (.int x.1))) x.2 := q_Cl.of rfl (q_LvS rfl rfl) (f330_ok hf ⟨rfl, rfl⟩)
/-! SmithyBenchLaw.dropParameter(LSmithyBench;II[J)I -/
theorem qk331 : q_cs.getD 331 [] = qc_331 := rfl
def f331 (l0 : Nat) (l1 : Int32) (l2 : Int32) (l3 : Nat) : m_M Int32 :=
  m_B (m_aK l0 11) (fun _ => m_T (f146 l0 l1 l2) (fun v2 => m_B (m_wJ l3 0 (v2.toInt64)) (fun _ => m_R 0)) (fun E3 => m_B (m_G (E3 < 3)) (fun _ => if E3 = 2 then (m_R 1) else (if E3 = 0 then (m_R 2) else (m_F)))))
theorem f331_ok {l0 : Nat} {l1 : Int32} {l2 : Int32} {l3 : Nat} {h : q_H} {o : q_O} {hz : q_H} {x : Int32 × q_H} (hf : f331 l0 l1 l2 l3 h = some x) (hK : (q_KI o hz) x) : q_Ev none 331 0 [(0, .ref l0), (1, .int l1), (2, .int l2), (3, .ref l3)] [] h o hz := by
  unfold f331 at hf
  refine ev_aload_n (q_cod qk331 rfl) (by decide) rfl ?_
  refine ev_ic (v := 0) (q_cod qk331 rfl) (by decide) (by decide) ?_
  refine ev_aload_n (q_cod qk331 rfl) (by decide) rfl ?_
  refine ev_iload_n (q_cod qk331 rfl) (by decide) rfl ?_
  refine ev_iload_n (q_cod qk331 rfl) (by decide) rfl ?_
  obtain ⟨g1, hf⟩ := m_aK_some hf
  refine em_callC (v := (fun u => some (.int u))) (q_cod qk331 rfl) (by decide) (q_cokV rfl rfl (Or.inr g1)) rfl (fun x e => f146_cl e) hf (fun v2 h hf => ?_) (fun E3 h hf => ?_)
  · refine ev_i2l (q_cod qk331 rfl) (by decide) ?_
    refine em_wJ (q_cod qk331 rfl) (by decide) hf (fun hf => ?_)
    refine ev_goto (q_cod qk331 rfl) (by decide) ?_
    refine ev_ic (v := 0) (q_cod qk331 rfl) (by decide) (by decide) ?_
    obtain rfl := m_R_inv hf
    obtain ⟨rfl, rfl⟩ := (show q_KI o hz (0, _) from hK)
    exact ev_ret (q_cod qk331 rfl) rfl
  · obtain ⟨gE, hf⟩ := m_G_some hf
    rcases m_iteM hf with ⟨c9, hf⟩ | ⟨c9, hf⟩
    · subst c9
      refine ⟨gE, 4, 15, rfl, ?_⟩
      show q_Ev none 331 15 [(0, .ref l0), (1, .int l1), (2, .int l2), (3, .ref l3)] [] _ o hz
      refine ev_ic (v := 1) (q_cod qk331 rfl) (by decide) (by decide) ?_
      obtain rfl := m_R_inv hf
      obtain ⟨rfl, rfl⟩ := (show q_KI o hz (1, _) from hK)
      exact ev_ret (q_cod qk331 rfl) rfl
    rcases m_iteM hf with ⟨c9, hf⟩ | ⟨c9, hf⟩
    · subst c9
      refine ⟨gE, 4, 19, rfl, ?_⟩
      show q_Ev none 331 19 [(0, .ref l0), (1, .int l1), (2, .int l2), (3, .ref l3)] [] _ o hz
      refine ev_ic (v := 2) (q_cod qk331 rfl) (by decide) (by decide) ?_
      obtain rfl := m_R_inv hf
      obtain ⟨rfl, rfl⟩ := (show q_KI o hz (2, _) from hK)
      exact ev_ret (q_cod qk331 rfl) rfl
    cases hf
theorem f331_cl {l0 : Nat} {l1 : Int32} {l2 : Int32} {l3 : Nat} {h : q_H} {x : Int32 × q_H} (hf : f331 l0 l1 l2 l3 h = some x) : q_Cl 331 [.ref l0, .int l1, .int l2, .ref l3] h (.inl (some (.int x.1))) x.2 := q_Cl.of rfl (q_LvS rfl rfl) (f331_ok hf ⟨rfl, rfl⟩)
/-! SmithyBenchLaw.pullUp(LSmithyBench;I[J)I -/
theorem qk332 : q_cs.getD 332 [] = qc_332 := rfl
def f332 (l0 : Nat) (l1 : Int32) (l2 : Nat) : m_M Int32 :=
  m_B (m_aK l0 11) (fun _ => m_T (f147 l0 l1) (fun v2 => m_B (m_wJ l2 0 (v2.toInt64)) (fun _ => m_R 0)) (fun E3 => m_B (m_G (E3 < 3)) (fun _ => if E3 = 2 then (m_R 1) else (if E3 = 0 then (m_R 2) else (m_F)))))
theorem f332_ok {l0 : Nat} {l1 : Int32} {l2 : Nat} {h : q_H} {o : q_O} {hz : q_H} {x : Int32 × q_H} (hf : f332 l0 l1 l2 h = some x) (hK : (q_KI o hz) x) : q_Ev none 332 0 [(0, .ref l0), (1, .int l1), (2, .ref l2)] [] h o hz := by
  unfold f332 at hf
  refine ev_aload_n (q_cod qk332 rfl) (by decide) rfl ?_
  refine ev_ic (v := 0) (q_cod qk332 rfl) (by decide) (by decide) ?_
  refine ev_aload_n (q_cod qk332 rfl) (by decide) rfl ?_
  refine ev_iload_n (q_cod qk332 rfl) (by decide) rfl ?_
  obtain ⟨g1, hf⟩ := m_aK_some hf
  refine em_callC (v := (fun u => some (.int u))) (q_cod qk332 rfl) (by decide) (q_cokV rfl rfl (Or.inr g1)) rfl (fun x e => f147_cl e) hf (fun v2 h hf => ?_) (fun E3 h hf => ?_)
  · refine ev_i2l (q_cod qk332 rfl) (by decide) ?_
    refine em_wJ (q_cod qk332 rfl) (by decide) hf (fun hf => ?_)
    refine ev_goto (q_cod qk332 rfl) (by decide) ?_
    refine ev_ic (v := 0) (q_cod qk332 rfl) (by decide) (by decide) ?_
    obtain rfl := m_R_inv hf
    obtain ⟨rfl, rfl⟩ := (show q_KI o hz (0, _) from hK)
    exact ev_ret (q_cod qk332 rfl) rfl
  · obtain ⟨gE, hf⟩ := m_G_some hf
    rcases m_iteM hf with ⟨c9, hf⟩ | ⟨c9, hf⟩
    · subst c9
      refine ⟨gE, 3, 13, rfl, ?_⟩
      show q_Ev none 332 13 [(0, .ref l0), (1, .int l1), (2, .ref l2)] [] _ o hz
      refine ev_ic (v := 1) (q_cod qk332 rfl) (by decide) (by decide) ?_
      obtain rfl := m_R_inv hf
      obtain ⟨rfl, rfl⟩ := (show q_KI o hz (1, _) from hK)
      exact ev_ret (q_cod qk332 rfl) rfl
    rcases m_iteM hf with ⟨c9, hf⟩ | ⟨c9, hf⟩
    · subst c9
      refine ⟨gE, 3, 16, rfl, ?_⟩
      show q_Ev none 332 16 [(0, .ref l0), (1, .int l1), (2, .ref l2)] [] _ o hz
      refine ev_ic (v := 2) (q_cod qk332 rfl) (by decide) (by decide) ?_
      obtain rfl := m_R_inv hf
      obtain ⟨rfl, rfl⟩ := (show q_KI o hz (2, _) from hK)
      exact ev_ret (q_cod qk332 rfl) rfl
    cases hf
theorem f332_cl {l0 : Nat} {l1 : Int32} {l2 : Nat} {h : q_H} {x : Int32 × q_H} (hf : f332 l0 l1 l2 h = some x) : q_Cl 332 [.ref l0, .int l1, .ref l2] h (.inl (some (.int x.1))) x.2 := q_Cl.of rfl (q_LvS rfl rfl) (f332_ok hf ⟨rfl, rfl⟩)
/-! SmithyBenchLaw.pushDown(LSmithyBench;I[J)I -/
theorem qk333 : q_cs.getD 333 [] = qc_333 := rfl
def f333 (l0 : Nat) (l1 : Int32) (l2 : Nat) : m_M Int32 :=
  m_B (m_aK l0 11) (fun _ => m_T (f148 l0 l1) (fun v2 => m_B (m_wJ l2 0 (v2.toInt64)) (fun _ => m_R 0)) (fun E3 => m_B (m_G (E3 < 3)) (fun _ => if E3 = 2 then (m_R 1) else (if E3 = 0 then (m_R 2) else (m_F)))))
theorem f333_ok {l0 : Nat} {l1 : Int32} {l2 : Nat} {h : q_H} {o : q_O} {hz : q_H} {x : Int32 × q_H} (hf : f333 l0 l1 l2 h = some x) (hK : (q_KI o hz) x) : q_Ev none 333 0 [(0, .ref l0), (1, .int l1), (2, .ref l2)] [] h o hz := by
  unfold f333 at hf
  refine ev_aload_n (q_cod qk333 rfl) (by decide) rfl ?_
  refine ev_ic (v := 0) (q_cod qk333 rfl) (by decide) (by decide) ?_
  refine ev_aload_n (q_cod qk333 rfl) (by decide) rfl ?_
  refine ev_iload_n (q_cod qk333 rfl) (by decide) rfl ?_
  obtain ⟨g1, hf⟩ := m_aK_some hf
  refine em_callC (v := (fun u => some (.int u))) (q_cod qk333 rfl) (by decide) (q_cokV rfl rfl (Or.inr g1)) rfl (fun x e => f148_cl e) hf (fun v2 h hf => ?_) (fun E3 h hf => ?_)
  · refine ev_i2l (q_cod qk333 rfl) (by decide) ?_
    refine em_wJ (q_cod qk333 rfl) (by decide) hf (fun hf => ?_)
    refine ev_goto (q_cod qk333 rfl) (by decide) ?_
    refine ev_ic (v := 0) (q_cod qk333 rfl) (by decide) (by decide) ?_
    obtain rfl := m_R_inv hf
    obtain ⟨rfl, rfl⟩ := (show q_KI o hz (0, _) from hK)
    exact ev_ret (q_cod qk333 rfl) rfl
  · obtain ⟨gE, hf⟩ := m_G_some hf
    rcases m_iteM hf with ⟨c9, hf⟩ | ⟨c9, hf⟩
    · subst c9
      refine ⟨gE, 3, 13, rfl, ?_⟩
      show q_Ev none 333 13 [(0, .ref l0), (1, .int l1), (2, .ref l2)] [] _ o hz
      refine ev_ic (v := 1) (q_cod qk333 rfl) (by decide) (by decide) ?_
      obtain rfl := m_R_inv hf
      obtain ⟨rfl, rfl⟩ := (show q_KI o hz (1, _) from hK)
      exact ev_ret (q_cod qk333 rfl) rfl
    rcases m_iteM hf with ⟨c9, hf⟩ | ⟨c9, hf⟩
    · subst c9
      refine ⟨gE, 3, 16, rfl, ?_⟩
      show q_Ev none 333 16 [(0, .ref l0), (1, .int l1), (2, .ref l2)] [] _ o hz
      refine ev_ic (v := 2) (q_cod qk333 rfl) (by decide) (by decide) ?_
      obtain rfl := m_R_inv hf
      obtain ⟨rfl, rfl⟩ := (show q_KI o hz (2, _) from hK)
      exact ev_ret (q_cod qk333 rfl) rfl
    cases hf
theorem f333_cl {l0 : Nat} {l1 : Int32} {l2 : Nat} {h : q_H} {x : Int32 × q_H} (hf : f333 l0 l1 l2 h = some x) : q_Cl 333 [.ref l0, .int l1, .ref l2] h (.inl (some (.int x.1))) x.2 := q_Cl.of rfl (q_LvS rfl rfl) (f333_ok hf ⟨rfl, rfl⟩)
/-! SmithyBenchLaw.enclose(LSmithyBench;IIII[J)I -/
theorem qk334 : q_cs.getD 334 [] = qc_334 := rfl
def f334 (l0 : Nat) (l1 : Int32) (l2 : Int32) (l3 : Int32) (l4 : Int32) (l5 : Nat) : m_M Int32 :=
  m_B (m_aK l0 11) (fun _ => m_T (f149 l0 l1 l2 l3 l4) (fun v2 => m_B (m_wJ l5 0 (v2.toInt64)) (fun _ => m_R 0)) (fun E3 => m_B (m_G (E3 < 3)) (fun _ => if E3 = 2 then (m_R 1) else (if E3 = 1 then (m_R 2) else (if E3 = 0 then (m_R 3) else (m_F))))))
theorem f334_ok {l0 : Nat} {l1 : Int32} {l2 : Int32} {l3 : Int32} {l4 : Int32} {l5 : Nat} {h : q_H} {o : q_O} {hz : q_H} {x : Int32 × q_H} (hf : f334 l0 l1 l2 l3 l4 l5 h = some x) (hK : (q_KI o hz) x) : q_Ev none 334 0 [(0, .ref l0), (1, .int l1), (2, .int l2), (3, .int l3), (4, .int l4), (5, .ref l5)] [] h o hz := by
  unfold f334 at hf
  refine ev_aload (q_cod qk334 rfl) (by decide) rfl ?_
  refine ev_ic (v := 0) (q_cod qk334 rfl) (by decide) (by decide) ?_
  refine ev_aload_n (q_cod qk334 rfl) (by decide) rfl ?_
  refine ev_iload_n (q_cod qk334 rfl) (by decide) rfl ?_
  refine ev_iload_n (q_cod qk334 rfl) (by decide) rfl ?_
  refine ev_iload_n (q_cod qk334 rfl) (by decide) rfl ?_
  refine ev_iload (q_cod qk334 rfl) (by decide) rfl ?_
  obtain ⟨g1, hf⟩ := m_aK_some hf
  refine em_callC (v := (fun u => some (.int u))) (q_cod qk334 rfl) (by decide) (q_cokV rfl rfl (Or.inr g1)) rfl (fun x e => f149_cl e) hf (fun v2 h hf => ?_) (fun E3 h hf => ?_)
  · refine ev_i2l (q_cod qk334 rfl) (by decide) ?_
    refine em_wJ (q_cod qk334 rfl) (by decide) hf (fun hf => ?_)
    refine ev_goto (q_cod qk334 rfl) (by decide) ?_
    refine ev_ic (v := 0) (q_cod qk334 rfl) (by decide) (by decide) ?_
    obtain rfl := m_R_inv hf
    obtain ⟨rfl, rfl⟩ := (show q_KI o hz (0, _) from hK)
    exact ev_ret (q_cod qk334 rfl) rfl
  · obtain ⟨gE, hf⟩ := m_G_some hf
    rcases m_iteM hf with ⟨c9, hf⟩ | ⟨c9, hf⟩
    · subst c9
      refine ⟨gE, 6, 19, rfl, ?_⟩
      show q_Ev none 334 19 [(0, .ref l0), (1, .int l1), (2, .int l2), (3, .int l3), (4, .int l4), (5, .ref l5)] [] _ o hz
      refine ev_ic (v := 1) (q_cod qk334 rfl) (by decide) (by decide) ?_
      obtain rfl := m_R_inv hf
      obtain ⟨rfl, rfl⟩ := (show q_KI o hz (1, _) from hK)
      exact ev_ret (q_cod qk334 rfl) rfl
    rcases m_iteM hf with ⟨c9, hf⟩ | ⟨c9, hf⟩
    · subst c9
      refine ⟨gE, 6, 23, rfl, ?_⟩
      show q_Ev none 334 23 [(0, .ref l0), (1, .int l1), (2, .int l2), (3, .int l3), (4, .int l4), (5, .ref l5)] [] _ o hz
      refine ev_ic (v := 2) (q_cod qk334 rfl) (by decide) (by decide) ?_
      obtain rfl := m_R_inv hf
      obtain ⟨rfl, rfl⟩ := (show q_KI o hz (2, _) from hK)
      exact ev_ret (q_cod qk334 rfl) rfl
    rcases m_iteM hf with ⟨c9, hf⟩ | ⟨c9, hf⟩
    · subst c9
      refine ⟨gE, 6, 27, rfl, ?_⟩
      show q_Ev none 334 27 [(0, .ref l0), (1, .int l1), (2, .int l2), (3, .int l3), (4, .int l4), (5, .ref l5)] [] _ o hz
      refine ev_ic (v := 3) (q_cod qk334 rfl) (by decide) (by decide) ?_
      obtain rfl := m_R_inv hf
      obtain ⟨rfl, rfl⟩ := (show q_KI o hz (3, _) from hK)
      exact ev_ret (q_cod qk334 rfl) rfl
    cases hf
theorem f334_cl {l0 : Nat} {l1 : Int32} {l2 : Int32} {l3 : Int32} {l4 : Int32} {l5 : Nat} {h : q_H} {x : Int32 × q_H} (hf : f334 l0 l1 l2 l3 l4 l5 h = some x) : q_Cl 334 [.ref l0, .int l1, .int l2, .int l3, .int l4, .ref l5] h (.inl (some (.int x.1))) x.2 := q_Cl.of rfl (q_LvS rfl rfl) (f334_ok hf ⟨rfl, rfl⟩)
/-! SmithyBenchLaw.removeDead(LSmithyBench;I[J)I -/
theorem qk335 : q_cs.getD 335 [] = qc_335 := rfl
def f335 (l0 : Nat) (l1 : Int32) (l2 : Nat) : m_M Int32 :=
  m_B (m_aK l0 11) (fun _ => m_T (f150 l0 l1) (fun v2 => m_B (m_wJ l2 0 (v2.toInt64)) (fun _ => m_R 0)) (fun E3 => m_B (m_G (E3 < 3)) (fun _ => if E3 = 2 then (m_R 1) else (if E3 = 0 then (m_R 2) else (m_F)))))
theorem f335_ok {l0 : Nat} {l1 : Int32} {l2 : Nat} {h : q_H} {o : q_O} {hz : q_H} {x : Int32 × q_H} (hf : f335 l0 l1 l2 h = some x) (hK : (q_KI o hz) x) : q_Ev none 335 0 [(0, .ref l0), (1, .int l1), (2, .ref l2)] [] h o hz := by
  unfold f335 at hf
  refine ev_aload_n (q_cod qk335 rfl) (by decide) rfl ?_
  refine ev_ic (v := 0) (q_cod qk335 rfl) (by decide) (by decide) ?_
  refine ev_aload_n (q_cod qk335 rfl) (by decide) rfl ?_
  refine ev_iload_n (q_cod qk335 rfl) (by decide) rfl ?_
  obtain ⟨g1, hf⟩ := m_aK_some hf
  refine em_callC (v := (fun u => some (.int u))) (q_cod qk335 rfl) (by decide) (q_cokV rfl rfl (Or.inr g1)) rfl (fun x e => f150_cl e) hf (fun v2 h hf => ?_) (fun E3 h hf => ?_)
  · refine ev_i2l (q_cod qk335 rfl) (by decide) ?_
    refine em_wJ (q_cod qk335 rfl) (by decide) hf (fun hf => ?_)
    refine ev_goto (q_cod qk335 rfl) (by decide) ?_
    refine ev_ic (v := 0) (q_cod qk335 rfl) (by decide) (by decide) ?_
    obtain rfl := m_R_inv hf
    obtain ⟨rfl, rfl⟩ := (show q_KI o hz (0, _) from hK)
    exact ev_ret (q_cod qk335 rfl) rfl
  · obtain ⟨gE, hf⟩ := m_G_some hf
    rcases m_iteM hf with ⟨c9, hf⟩ | ⟨c9, hf⟩
    · subst c9
      refine ⟨gE, 3, 13, rfl, ?_⟩
      show q_Ev none 335 13 [(0, .ref l0), (1, .int l1), (2, .ref l2)] [] _ o hz
      refine ev_ic (v := 1) (q_cod qk335 rfl) (by decide) (by decide) ?_
      obtain rfl := m_R_inv hf
      obtain ⟨rfl, rfl⟩ := (show q_KI o hz (1, _) from hK)
      exact ev_ret (q_cod qk335 rfl) rfl
    rcases m_iteM hf with ⟨c9, hf⟩ | ⟨c9, hf⟩
    · subst c9
      refine ⟨gE, 3, 16, rfl, ?_⟩
      show q_Ev none 335 16 [(0, .ref l0), (1, .int l1), (2, .ref l2)] [] _ o hz
      refine ev_ic (v := 2) (q_cod qk335 rfl) (by decide) (by decide) ?_
      obtain rfl := m_R_inv hf
      obtain ⟨rfl, rfl⟩ := (show q_KI o hz (2, _) from hK)
      exact ev_ret (q_cod qk335 rfl) rfl
    cases hf
theorem f335_cl {l0 : Nat} {l1 : Int32} {l2 : Nat} {h : q_H} {x : Int32 × q_H} (hf : f335 l0 l1 l2 h = some x) : q_Cl 335 [.ref l0, .int l1, .ref l2] h (.inl (some (.int x.1))) x.2 := q_Cl.of rfl (q_LvS rfl rfl) (f335_ok hf ⟨rfl, rfl⟩)
/-! SmithyBenchLaw.undo(LSmithyBench;[J)I -/
theorem qk336 : q_cs.getD 336 [] = qc_336 := rfl
def f336 (l0 : Nat) (l1 : Nat) : m_M Int32 :=
  m_B (m_aK l0 11) (fun _ => m_T (f151 l0) (fun v2 => m_B (m_wJ l1 0 (v2.toInt64)) (fun _ => m_R 0)) (fun E3 => m_B (m_G (E3 < 3)) (fun _ => if E3 = 0 then (m_R 1) else (m_F))))
theorem f336_ok {l0 : Nat} {l1 : Nat} {h : q_H} {o : q_O} {hz : q_H} {x : Int32 × q_H} (hf : f336 l0 l1 h = some x) (hK : (q_KI o hz) x) : q_Ev none 336 0 [(0, .ref l0), (1, .ref l1)] [] h o hz := by
  unfold f336 at hf
  refine ev_aload_n (q_cod qk336 rfl) (by decide) rfl ?_
  refine ev_ic (v := 0) (q_cod qk336 rfl) (by decide) (by decide) ?_
  refine ev_aload_n (q_cod qk336 rfl) (by decide) rfl ?_
  obtain ⟨g1, hf⟩ := m_aK_some hf
  refine em_callC (v := (fun u => some (.int u))) (q_cod qk336 rfl) (by decide) (q_cokV rfl rfl (Or.inr g1)) rfl (fun x e => f151_cl e) hf (fun v2 h hf => ?_) (fun E3 h hf => ?_)
  · refine ev_i2l (q_cod qk336 rfl) (by decide) ?_
    refine em_wJ (q_cod qk336 rfl) (by decide) hf (fun hf => ?_)
    refine ev_goto (q_cod qk336 rfl) (by decide) ?_
    refine ev_ic (v := 0) (q_cod qk336 rfl) (by decide) (by decide) ?_
    obtain rfl := m_R_inv hf
    obtain ⟨rfl, rfl⟩ := (show q_KI o hz (0, _) from hK)
    exact ev_ret (q_cod qk336 rfl) rfl
  · obtain ⟨gE, hf⟩ := m_G_some hf
    rcases m_iteM hf with ⟨c9, hf⟩ | ⟨c9, hf⟩
    · subst c9
      refine ⟨gE, 2, 12, rfl, ?_⟩
      show q_Ev none 336 12 [(0, .ref l0), (1, .ref l1)] [] _ o hz
      refine ev_ic (v := 1) (q_cod qk336 rfl) (by decide) (by decide) ?_
      obtain rfl := m_R_inv hf
      obtain ⟨rfl, rfl⟩ := (show q_KI o hz (1, _) from hK)
      exact ev_ret (q_cod qk336 rfl) rfl
    cases hf
theorem f336_cl {l0 : Nat} {l1 : Nat} {h : q_H} {x : Int32 × q_H} (hf : f336 l0 l1 h = some x) : q_Cl 336 [.ref l0, .ref l1] h (.inl (some (.int x.1))) x.2 := q_Cl.of rfl (q_LvS rfl rfl) (f336_ok hf ⟨rfl, rfl⟩)
/-! SmithyBenchLaw.tell(LSmithyBench;II[J)I -/
theorem qk337 : q_cs.getD 337 [] = qc_337 := rfl
def f337 (l0 : Nat) (l1 : Int32) (l2 : Int32) (l3 : Nat) : m_M Int32 :=
  m_B (m_aK l0 11) (fun _ => m_T (f152 l0 l1 l2) (fun v2 => m_B (m_wJ l3 0 (v2.toInt64)) (fun _ => m_R 0)) (fun E3 => m_B (m_G (E3 < 3)) (fun _ => if E3 = 2 then (m_R 1) else (if E3 = 1 then (m_R 2) else (m_F)))))
theorem f337_ok {l0 : Nat} {l1 : Int32} {l2 : Int32} {l3 : Nat} {h : q_H} {o : q_O} {hz : q_H} {x : Int32 × q_H} (hf : f337 l0 l1 l2 l3 h = some x) (hK : (q_KI o hz) x) : q_Ev none 337 0 [(0, .ref l0), (1, .int l1), (2, .int l2), (3, .ref l3)] [] h o hz := by
  unfold f337 at hf
  refine ev_aload_n (q_cod qk337 rfl) (by decide) rfl ?_
  refine ev_ic (v := 0) (q_cod qk337 rfl) (by decide) (by decide) ?_
  refine ev_aload_n (q_cod qk337 rfl) (by decide) rfl ?_
  refine ev_iload_n (q_cod qk337 rfl) (by decide) rfl ?_
  refine ev_iload_n (q_cod qk337 rfl) (by decide) rfl ?_
  obtain ⟨g1, hf⟩ := m_aK_some hf
  refine em_callC (v := (fun u => some (.int u))) (q_cod qk337 rfl) (by decide) (q_cokV rfl rfl (Or.inr g1)) rfl (fun x e => f152_cl e) hf (fun v2 h hf => ?_) (fun E3 h hf => ?_)
  · refine ev_i2l (q_cod qk337 rfl) (by decide) ?_
    refine em_wJ (q_cod qk337 rfl) (by decide) hf (fun hf => ?_)
    refine ev_goto (q_cod qk337 rfl) (by decide) ?_
    refine ev_ic (v := 0) (q_cod qk337 rfl) (by decide) (by decide) ?_
    obtain rfl := m_R_inv hf
    obtain ⟨rfl, rfl⟩ := (show q_KI o hz (0, _) from hK)
    exact ev_ret (q_cod qk337 rfl) rfl
  · obtain ⟨gE, hf⟩ := m_G_some hf
    rcases m_iteM hf with ⟨c9, hf⟩ | ⟨c9, hf⟩
    · subst c9
      refine ⟨gE, 4, 15, rfl, ?_⟩
      show q_Ev none 337 15 [(0, .ref l0), (1, .int l1), (2, .int l2), (3, .ref l3)] [] _ o hz
      refine ev_ic (v := 1) (q_cod qk337 rfl) (by decide) (by decide) ?_
      obtain rfl := m_R_inv hf
      obtain ⟨rfl, rfl⟩ := (show q_KI o hz (1, _) from hK)
      exact ev_ret (q_cod qk337 rfl) rfl
    rcases m_iteM hf with ⟨c9, hf⟩ | ⟨c9, hf⟩
    · subst c9
      refine ⟨gE, 4, 19, rfl, ?_⟩
      show q_Ev none 337 19 [(0, .ref l0), (1, .int l1), (2, .int l2), (3, .ref l3)] [] _ o hz
      refine ev_ic (v := 2) (q_cod qk337 rfl) (by decide) (by decide) ?_
      obtain rfl := m_R_inv hf
      obtain ⟨rfl, rfl⟩ := (show q_KI o hz (2, _) from hK)
      exact ev_ret (q_cod qk337 rfl) rfl
    cases hf
theorem f337_cl {l0 : Nat} {l1 : Int32} {l2 : Int32} {l3 : Nat} {h : q_H} {x : Int32 × q_H} (hf : f337 l0 l1 l2 l3 h = some x) : q_Cl 337 [.ref l0, .int l1, .int l2, .ref l3] h (.inl (some (.int x.1))) x.2 := q_Cl.of rfl (q_LvS rfl rfl) (f337_ok hf ⟨rfl, rfl⟩)
/-! SmithyBenchLaw.node(LSmithyBench;III[J)I -/
theorem qk338 : q_cs.getD 338 [] = qc_338 := rfl
def f338 (l0 : Nat) (l1 : Int32) (l2 : Int32) (l3 : Int32) (l4 : Nat) : m_M Int32 :=
  m_B (m_aK l0 11) (fun _ => m_T (f153 l0 l1 l2 l3) (fun v2 => m_B (m_wJ l4 0 (v2.toInt64)) (fun _ => m_R 0)) (fun E3 => m_B (m_G (E3 < 3)) (fun _ => if E3 = 2 then (m_R 1) else (if E3 = 1 then (m_R 2) else (m_F)))))
theorem f338_ok {l0 : Nat} {l1 : Int32} {l2 : Int32} {l3 : Int32} {l4 : Nat} {h : q_H} {o : q_O} {hz : q_H} {x : Int32 × q_H} (hf : f338 l0 l1 l2 l3 l4 h = some x) (hK : (q_KI o hz) x) : q_Ev none 338 0 [(0, .ref l0), (1, .int l1), (2, .int l2), (3, .int l3), (4, .ref l4)] [] h o hz := by
  unfold f338 at hf
  refine ev_aload (q_cod qk338 rfl) (by decide) rfl ?_
  refine ev_ic (v := 0) (q_cod qk338 rfl) (by decide) (by decide) ?_
  refine ev_aload_n (q_cod qk338 rfl) (by decide) rfl ?_
  refine ev_iload_n (q_cod qk338 rfl) (by decide) rfl ?_
  refine ev_iload_n (q_cod qk338 rfl) (by decide) rfl ?_
  refine ev_iload_n (q_cod qk338 rfl) (by decide) rfl ?_
  obtain ⟨g1, hf⟩ := m_aK_some hf
  refine em_callC (v := (fun u => some (.int u))) (q_cod qk338 rfl) (by decide) (q_cokV rfl rfl (Or.inr g1)) rfl (fun x e => f153_cl e) hf (fun v2 h hf => ?_) (fun E3 h hf => ?_)
  · refine ev_i2l (q_cod qk338 rfl) (by decide) ?_
    refine em_wJ (q_cod qk338 rfl) (by decide) hf (fun hf => ?_)
    refine ev_goto (q_cod qk338 rfl) (by decide) ?_
    refine ev_ic (v := 0) (q_cod qk338 rfl) (by decide) (by decide) ?_
    obtain rfl := m_R_inv hf
    obtain ⟨rfl, rfl⟩ := (show q_KI o hz (0, _) from hK)
    exact ev_ret (q_cod qk338 rfl) rfl
  · obtain ⟨gE, hf⟩ := m_G_some hf
    rcases m_iteM hf with ⟨c9, hf⟩ | ⟨c9, hf⟩
    · subst c9
      refine ⟨gE, 5, 17, rfl, ?_⟩
      show q_Ev none 338 17 [(0, .ref l0), (1, .int l1), (2, .int l2), (3, .int l3), (4, .ref l4)] [] _ o hz
      refine ev_ic (v := 1) (q_cod qk338 rfl) (by decide) (by decide) ?_
      obtain rfl := m_R_inv hf
      obtain ⟨rfl, rfl⟩ := (show q_KI o hz (1, _) from hK)
      exact ev_ret (q_cod qk338 rfl) rfl
    rcases m_iteM hf with ⟨c9, hf⟩ | ⟨c9, hf⟩
    · subst c9
      refine ⟨gE, 5, 21, rfl, ?_⟩
      show q_Ev none 338 21 [(0, .ref l0), (1, .int l1), (2, .int l2), (3, .int l3), (4, .ref l4)] [] _ o hz
      refine ev_ic (v := 2) (q_cod qk338 rfl) (by decide) (by decide) ?_
      obtain rfl := m_R_inv hf
      obtain ⟨rfl, rfl⟩ := (show q_KI o hz (2, _) from hK)
      exact ev_ret (q_cod qk338 rfl) rfl
    cases hf
theorem f338_cl {l0 : Nat} {l1 : Int32} {l2 : Int32} {l3 : Int32} {l4 : Nat} {h : q_H} {x : Int32 × q_H} (hf : f338 l0 l1 l2 l3 l4 h = some x) : q_Cl 338 [.ref l0, .int l1, .int l2, .int l3, .ref l4] h (.inl (some (.int x.1))) x.2 := q_Cl.of rfl (q_LvS rfl rfl) (f338_ok hf ⟨rfl, rfl⟩)
/-! SmithyBenchLaw.run(LSmithyBench;IIIIZ[J)I -/
theorem qk339 : q_cs.getD 339 [] = qc_339 := rfl
def f339 (l0 : Nat) (l1 : Int32) (l2 : Int32) (l3 : Int32) (l4 : Int32) (l5 : Int32) (l6 : Nat) : m_M Int32 :=
  m_B (m_aK l0 11) (fun _ => m_T (f154 l0 l1 l2 l3 l4 l5) (fun v2 => m_B (m_wJ l6 0 (v2.toInt64)) (fun _ => m_R 0)) (fun E3 => m_B (m_G (E3 < 3)) (fun _ => if E3 = 2 then (m_R 1) else (if E3 = 1 then (m_R 2) else (if E3 = 0 then (m_R 3) else (m_F))))))
theorem f339_ok {l0 : Nat} {l1 : Int32} {l2 : Int32} {l3 : Int32} {l4 : Int32} {l5 : Int32} {l6 : Nat} {h : q_H} {o : q_O} {hz : q_H} {x : Int32 × q_H} (hf : f339 l0 l1 l2 l3 l4 l5 l6 h = some x) (hK : (q_KI o hz) x) : q_Ev none 339 0 [(0, .ref l0), (1, .int l1), (2, .int l2), (3, .int l3), (4, .int l4), (5, .int l5), (6, .ref l6)] [] h o hz := by
  unfold f339 at hf
  refine ev_aload (q_cod qk339 rfl) (by decide) rfl ?_
  refine ev_ic (v := 0) (q_cod qk339 rfl) (by decide) (by decide) ?_
  refine ev_aload_n (q_cod qk339 rfl) (by decide) rfl ?_
  refine ev_iload_n (q_cod qk339 rfl) (by decide) rfl ?_
  refine ev_iload_n (q_cod qk339 rfl) (by decide) rfl ?_
  refine ev_iload_n (q_cod qk339 rfl) (by decide) rfl ?_
  refine ev_iload (q_cod qk339 rfl) (by decide) rfl ?_
  refine ev_iload (q_cod qk339 rfl) (by decide) rfl ?_
  obtain ⟨g1, hf⟩ := m_aK_some hf
  refine em_callC (v := (fun u => some (.int u))) (q_cod qk339 rfl) (by decide) (q_cokV rfl rfl (Or.inr g1)) rfl (fun x e => f154_cl e) hf (fun v2 h hf => ?_) (fun E3 h hf => ?_)
  · refine ev_i2l (q_cod qk339 rfl) (by decide) ?_
    refine em_wJ (q_cod qk339 rfl) (by decide) hf (fun hf => ?_)
    refine ev_goto (q_cod qk339 rfl) (by decide) ?_
    refine ev_ic (v := 0) (q_cod qk339 rfl) (by decide) (by decide) ?_
    obtain rfl := m_R_inv hf
    obtain ⟨rfl, rfl⟩ := (show q_KI o hz (0, _) from hK)
    exact ev_ret (q_cod qk339 rfl) rfl
  · obtain ⟨gE, hf⟩ := m_G_some hf
    rcases m_iteM hf with ⟨c9, hf⟩ | ⟨c9, hf⟩
    · subst c9
      refine ⟨gE, 7, 21, rfl, ?_⟩
      show q_Ev none 339 21 [(0, .ref l0), (1, .int l1), (2, .int l2), (3, .int l3), (4, .int l4), (5, .int l5), (6, .ref l6)] [] _ o hz
      refine ev_ic (v := 1) (q_cod qk339 rfl) (by decide) (by decide) ?_
      obtain rfl := m_R_inv hf
      obtain ⟨rfl, rfl⟩ := (show q_KI o hz (1, _) from hK)
      exact ev_ret (q_cod qk339 rfl) rfl
    rcases m_iteM hf with ⟨c9, hf⟩ | ⟨c9, hf⟩
    · subst c9
      refine ⟨gE, 7, 25, rfl, ?_⟩
      show q_Ev none 339 25 [(0, .ref l0), (1, .int l1), (2, .int l2), (3, .int l3), (4, .int l4), (5, .int l5), (6, .ref l6)] [] _ o hz
      refine ev_ic (v := 2) (q_cod qk339 rfl) (by decide) (by decide) ?_
      obtain rfl := m_R_inv hf
      obtain ⟨rfl, rfl⟩ := (show q_KI o hz (2, _) from hK)
      exact ev_ret (q_cod qk339 rfl) rfl
    rcases m_iteM hf with ⟨c9, hf⟩ | ⟨c9, hf⟩
    · subst c9
      refine ⟨gE, 7, 29, rfl, ?_⟩
      show q_Ev none 339 29 [(0, .ref l0), (1, .int l1), (2, .int l2), (3, .int l3), (4, .int l4), (5, .int l5), (6, .ref l6)] [] _ o hz
      refine ev_ic (v := 3) (q_cod qk339 rfl) (by decide) (by decide) ?_
      obtain rfl := m_R_inv hf
      obtain ⟨rfl, rfl⟩ := (show q_KI o hz (3, _) from hK)
      exact ev_ret (q_cod qk339 rfl) rfl
    cases hf
theorem f339_cl {l0 : Nat} {l1 : Int32} {l2 : Int32} {l3 : Int32} {l4 : Int32} {l5 : Int32} {l6 : Nat} {h : q_H} {x : Int32 × q_H} (hf : f339 l0 l1 l2 l3 l4 l5 l6 h = some x) : q_Cl 339 [.ref l0, .int l1, .int l2, .int l3, .int l4, .int l5, .ref l6] h (.inl (some (.int x.1))) x.2 := q_Cl.of rfl (q_LvS rfl rfl) (f339_ok hf ⟨rfl, rfl⟩)
/-! SmithyBenchLaw.law([I)Z -/
theorem qk340 : q_cs.getD 340 [] = qc_340 := rfl
def f340_2363 (Ln : Nat) (xs : Nat → Int32) : m_M Int32 :=
  m_R 1
set_option maxRecDepth 20000 in
theorem f340_2363_ok {Ln : Nat} {xs : Nat → Int32} {h : q_H} {o : q_O} {hz : q_H} {x : Int32 × q_H} (hf : f340_2363 Ln xs h = some x) (hK : (q_KI o hz) x) : q_Ev (some (Ln, xs)) 340 2363 [] [] h o hz := by
  unfold f340_2363 at hf
  refine ev_ic (v := 1) (q_cod qk340 rfl) (by decide) (by decide) ?_
  obtain rfl := m_R_inv hf
  obtain ⟨rfl, rfl⟩ := (show q_KI o hz (1, _) from hK)
  exact ev_ret (q_cod qk340 rfl) rfl
def f340_2357 (Ln : Nat) (xs : Nat → Int32) (l1 : Nat) (l2 : Nat) (l3 : Nat) (l4 : Int32) : m_M ((Nat × Nat × Nat × Int32) ⊕ Int32) :=
  m_R (.inl (l1, l2, l3, (l4 + 7)))
set_option maxRecDepth 20000 in
theorem f340_2357_ok {Ln : Nat} {xs : Nat → Int32} {l1 : Nat} {l2 : Nat} {l3 : Nat} {l4 : Int32} {h : q_H} {o : q_O} {hz : q_H} {x : ((Nat × Nat × Nat × Int32) ⊕ Int32) × q_H} (hf : f340_2357 Ln xs l1 l2 l3 l4 h = some x) (hK : (m_yK (fun (s : Nat × Nat × Nat × Int32) (h : q_H) => q_Ev (some (Ln, xs)) 340 23 [(0, .ref q_SC), (1, .ref (s.1)), (2, .ref (s.2.1)), (3, .ref (s.2.2.1)), (4, .int (s.2.2.2))] [] h o hz) (q_KI o hz)) x) : q_Ev (some (Ln, xs)) 340 2357 [(0, .ref q_SC), (1, .ref l1), (2, .ref l2), (3, .ref l3), (4, .int l4)] [] h o hz := by
  unfold f340_2357 at hf
  refine ev_inc (v := l4 + 7) (L' := [(0, .ref q_SC), (1, .ref l1), (2, .ref l2), (3, .ref l3), (4, .int (l4 + 7))]) (q_cod qk340 rfl) (by decide) rfl rfl rfl ?_
  refine ev_goto (q_cod qk340 rfl) (by decide) ?_
  obtain rfl := m_R_inv hf
  exact (show q_Ev (some (Ln, xs)) 340 23 [(0, .ref q_SC), (1, .ref l1), (2, .ref l2), (3, .ref l3), (4, .int (l4 + 7))] [] _ o hz from hK)
