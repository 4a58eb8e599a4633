/-! SmithyBenchLaw.number(LSmithyBench;I[J)I -/
theorem qk310 : q_cs.getD 310 [] = qc_310 := rfl
def f310 (l0 : Nat) (l1 : Int32) (l2 : Nat) : m_M Int32 :=
  m_B (m_aK l0 11) (fun _ => m_T (f124 l0 l1) (fun v2 => m_B (m_wJ l2 0 (v2.toInt64)) (fun _ => m_R 0)) (fun E3 => m_B (m_G (E3 < 3)) (fun _ => if E3 = 0 then (m_R 1) else (m_F))))
theorem f310_ok {l0 : Nat} {l1 : Int32} {l2 : Nat} {h : q_H} {o : q_O} {hz : q_H} {x : Int32 × q_H} (hf : f310 l0 l1 l2 h = some x) (hK : (q_KI o hz) x) : q_Ev none 310 0 [(0, .ref l0), (1, .int l1), (2, .ref l2)] [] h o hz := by
  unfold f310 at hf
  refine ev_aload_n (q_cod qk310 rfl) (by decide) rfl ?_
  refine ev_ic (v := 0) (q_cod qk310 rfl) (by decide) (by decide) ?_
  refine ev_aload_n (q_cod qk310 rfl) (by decide) rfl ?_
  refine ev_iload_n (q_cod qk310 rfl) (by decide) rfl ?_
  obtain ⟨g1, hf⟩ := m_aK_some hf
  refine em_callC (v := (fun u => some (.int u))) (q_cod qk310 rfl) (by decide) (q_cokV rfl rfl (Or.inr g1)) rfl (fun x e => f124_cl e) hf (fun v2 h hf => ?_) (fun E3 h hf => ?_)
  · refine ev_i2l (q_cod qk310 rfl) (by decide) ?_
    refine em_wJ (q_cod qk310 rfl) (by decide) hf (fun hf => ?_)
    refine ev_goto (q_cod qk310 rfl) (by decide) ?_
    refine ev_ic (v := 0) (q_cod qk310 rfl) (by decide) (by decide) ?_
    obtain rfl := m_R_inv hf
    obtain ⟨rfl, rfl⟩ := (show q_KI o hz (0, _) from hK)
    exact ev_ret (q_cod qk310 rfl) rfl
  · obtain ⟨gE, hf⟩ := m_G_some hf
    rcases m_iteM hf with ⟨c9, hf⟩ | ⟨c9, hf⟩
    · subst c9
      refine ⟨gE, 3, 13, rfl, ?_⟩
      show q_Ev none 310 13 [(0, .ref l0), (1, .int l1), (2, .ref l2)] [] _ o hz
      refine ev_ic (v := 1) (q_cod qk310 rfl) (by decide) (by decide) ?_
      obtain rfl := m_R_inv hf
      obtain ⟨rfl, rfl⟩ := (show q_KI o hz (1, _) from hK)
      exact ev_ret (q_cod qk310 rfl) rfl
    cases hf
theorem f310_cl {l0 : Nat} {l1 : Int32} {l2 : Nat} {h : q_H} {x : Int32 × q_H} (hf : f310 l0 l1 l2 h = some x) : q_Cl 310 [.ref l0, .int l1, .ref l2] h (.inl (some (.int x.1))) x.2 := q_Cl.of rfl (q_LvS rfl rfl) (f310_ok hf ⟨rfl, rfl⟩)
/-! SmithyBenchLaw.var(LSmithyBench;I[J)I -/
theorem qk311 : q_cs.getD 311 [] = qc_311 := rfl
def f311 (l0 : Nat) (l1 : Int32) (l2 : Nat) : m_M Int32 :=
  m_B (m_aK l0 11) (fun _ => m_T (f125 l0 l1) (fun v2 => m_B (m_wJ l2 0 (v2.toInt64)) (fun _ => m_R 0)) (fun E3 => m_B (m_G (E3 < 3)) (fun _ => if E3 = 1 then (m_R 1) else (if E3 = 0 then (m_R 2) else (m_F)))))
theorem f311_ok {l0 : Nat} {l1 : Int32} {l2 : Nat} {h : q_H} {o : q_O} {hz : q_H} {x : Int32 × q_H} (hf : f311 l0 l1 l2 h = some x) (hK : (q_KI o hz) x) : q_Ev none 311 0 [(0, .ref l0), (1, .int l1), (2, .ref l2)] [] h o hz := by
  unfold f311 at hf
  refine ev_aload_n (q_cod qk311 rfl) (by decide) rfl ?_
  refine ev_ic (v := 0) (q_cod qk311 rfl) (by decide) (by decide) ?_
  refine ev_aload_n (q_cod qk311 rfl) (by decide) rfl ?_
  refine ev_iload_n (q_cod qk311 rfl) (by decide) rfl ?_
  obtain ⟨g1, hf⟩ := m_aK_some hf
  refine em_callC (v := (fun u => some (.int u))) (q_cod qk311 rfl) (by decide) (q_cokV rfl rfl (Or.inr g1)) rfl (fun x e => f125_cl e) hf (fun v2 h hf => ?_) (fun E3 h hf => ?_)
  · refine ev_i2l (q_cod qk311 rfl) (by decide) ?_
    refine em_wJ (q_cod qk311 rfl) (by decide) hf (fun hf => ?_)
    refine ev_goto (q_cod qk311 rfl) (by decide) ?_
    refine ev_ic (v := 0) (q_cod qk311 rfl) (by decide) (by decide) ?_
    obtain rfl := m_R_inv hf
    obtain ⟨rfl, rfl⟩ := (show q_KI o hz (0, _) from hK)
    exact ev_ret (q_cod qk311 rfl) rfl
  · obtain ⟨gE, hf⟩ := m_G_some hf
    rcases m_iteM hf with ⟨c9, hf⟩ | ⟨c9, hf⟩
    · subst c9
      refine ⟨gE, 3, 13, rfl, ?_⟩
      show q_Ev none 311 13 [(0, .ref l0), (1, .int l1), (2, .ref l2)] [] _ o hz
      refine ev_ic (v := 1) (q_cod qk311 rfl) (by decide) (by decide) ?_
      obtain rfl := m_R_inv hf
      obtain ⟨rfl, rfl⟩ := (show q_KI o hz (1, _) from hK)
      exact ev_ret (q_cod qk311 rfl) rfl
    rcases m_iteM hf with ⟨c9, hf⟩ | ⟨c9, hf⟩
    · subst c9
      refine ⟨gE, 3, 16, rfl, ?_⟩
      show q_Ev none 311 16 [(0, .ref l0), (1, .int l1), (2, .ref l2)] [] _ o hz
      refine ev_ic (v := 2) (q_cod qk311 rfl) (by decide) (by decide) ?_
      obtain rfl := m_R_inv hf
      obtain ⟨rfl, rfl⟩ := (show q_KI o hz (2, _) from hK)
      exact ev_ret (q_cod qk311 rfl) rfl
    cases hf
theorem f311_cl {l0 : Nat} {l1 : Int32} {l2 : Nat} {h : q_H} {x : Int32 × q_H} (hf : f311 l0 l1 l2 h = some x) : q_Cl 311 [.ref l0, .int l1, .ref l2] h (.inl (some (.int x.1))) x.2 := q_Cl.of rfl (q_LvS rfl rfl) (f311_ok hf ⟨rfl, rfl⟩)
/-! SmithyBenchLaw.self(LSmithyBench;[J)I -/
theorem qk312 : q_cs.getD 312 [] = qc_312 := rfl
def f312 (l0 : Nat) (l1 : Nat) : m_M Int32 :=
  m_B (m_aK l0 11) (fun _ => m_T (f126 l0) (fun v2 => m_B (m_wJ l1 0 (v2.toInt64)) (fun _ => m_R 0)) (fun E3 => m_B (m_G (E3 < 3)) (fun _ => if E3 = 0 then (m_R 1) else (m_F))))
theorem f312_ok {l0 : Nat} {l1 : Nat} {h : q_H} {o : q_O} {hz : q_H} {x : Int32 × q_H} (hf : f312 l0 l1 h = some x) (hK : (q_KI o hz) x) : q_Ev none 312 0 [(0, .ref l0), (1, .ref l1)] [] h o hz := by
  unfold f312 at hf
  refine ev_aload_n (q_cod qk312 rfl) (by decide) rfl ?_
  refine ev_ic (v := 0) (q_cod qk312 rfl) (by decide) (by decide) ?_
  refine ev_aload_n (q_cod qk312 rfl) (by decide) rfl ?_
  obtain ⟨g1, hf⟩ := m_aK_some hf
  refine em_callC (v := (fun u => some (.int u))) (q_cod qk312 rfl) (by decide) (q_cokV rfl rfl (Or.inr g1)) rfl (fun x e => f126_cl e) hf (fun v2 h hf => ?_) (fun E3 h hf => ?_)
  · refine ev_i2l (q_cod qk312 rfl) (by decide) ?_
    refine em_wJ (q_cod qk312 rfl) (by decide) hf (fun hf => ?_)
    refine ev_goto (q_cod qk312 rfl) (by decide) ?_
    refine ev_ic (v := 0) (q_cod qk312 rfl) (by decide) (by decide) ?_
    obtain rfl := m_R_inv hf
    obtain ⟨rfl, rfl⟩ := (show q_KI o hz (0, _) from hK)
    exact ev_ret (q_cod qk312 rfl) rfl
  · obtain ⟨gE, hf⟩ := m_G_some hf
    rcases m_iteM hf with ⟨c9, hf⟩ | ⟨c9, hf⟩
    · subst c9
      refine ⟨gE, 2, 12, rfl, ?_⟩
      show q_Ev none 312 12 [(0, .ref l0), (1, .ref l1)] [] _ o hz
      refine ev_ic (v := 1) (q_cod qk312 rfl) (by decide) (by decide) ?_
      obtain rfl := m_R_inv hf
      obtain ⟨rfl, rfl⟩ := (show q_KI o hz (1, _) from hK)
      exact ev_ret (q_cod qk312 rfl) rfl
    cases hf
theorem f312_cl {l0 : Nat} {l1 : Nat} {h : q_H} {x : Int32 × q_H} (hf : f312 l0 l1 h = some x) : q_Cl 312 [.ref l0, .ref l1] h (.inl (some (.int x.1))) x.2 := q_Cl.of rfl (q_LvS rfl rfl) (f312_ok hf ⟨rfl, rfl⟩)
/-! SmithyBenchLaw.field(LSmithyBench;II[J)I -/
theorem qk313 : q_cs.getD 313 [] = qc_313 := rfl
def f313 (l0 : Nat) (l1 : Int32) (l2 : Int32) (l3 : Nat) : m_M Int32 :=
  m_B (m_aK l0 11) (fun _ => m_T (f127 l0 l1 l2) (fun v2 => m_B (m_wJ l3 0 (v2.toInt64)) (fun _ => m_R 0)) (fun E3 => m_B (m_G (E3 < 3)) (fun _ => if E3 = 2 then (m_R 1) else (if E3 = 1 then (m_R 2) else (if E3 = 0 then (m_R 3) else (m_F))))))
theorem f313_ok {l0 : Nat} {l1 : Int32} {l2 : Int32} {l3 : Nat} {h : q_H} {o : q_O} {hz : q_H} {x : Int32 × q_H} (hf : f313 l0 l1 l2 l3 h = some x) (hK : (q_KI o hz) x) : q_Ev none 313 0 [(0, .ref l0), (1, .int l1), (2, .int l2), (3, .ref l3)] [] h o hz := by
  unfold f313 at hf
  refine ev_aload_n (q_cod qk313 rfl) (by decide) rfl ?_
  refine ev_ic (v := 0) (q_cod qk313 rfl) (by decide) (by decide) ?_
  refine ev_aload_n (q_cod qk313 rfl) (by decide) rfl ?_
  refine ev_iload_n (q_cod qk313 rfl) (by decide) rfl ?_
  refine ev_iload_n (q_cod qk313 rfl) (by decide) rfl ?_
  obtain ⟨g1, hf⟩ := m_aK_some hf
  refine em_callC (v := (fun u => some (.int u))) (q_cod qk313 rfl) (by decide) (q_cokV rfl rfl (Or.inr g1)) rfl (fun x e => f127_cl e) hf (fun v2 h hf => ?_) (fun E3 h hf => ?_)
  · refine ev_i2l (q_cod qk313 rfl) (by decide) ?_
    refine em_wJ (q_cod qk313 rfl) (by decide) hf (fun hf => ?_)
    refine ev_goto (q_cod qk313 rfl) (by decide) ?_
    refine ev_ic (v := 0) (q_cod qk313 rfl) (by decide) (by decide) ?_
    obtain rfl := m_R_inv hf
    obtain ⟨rfl, rfl⟩ := (show q_KI o hz (0, _) from hK)
    exact ev_ret (q_cod qk313 rfl) rfl
  · obtain ⟨gE, hf⟩ := m_G_some hf
    rcases m_iteM hf with ⟨c9, hf⟩ | ⟨c9, hf⟩
    · subst c9
      refine ⟨gE, 4, 15, rfl, ?_⟩
      show q_Ev none 313 15 [(0, .ref l0), (1, .int l1), (2, .int l2), (3, .ref l3)] [] _ o hz
      refine ev_ic (v := 1) (q_cod qk313 rfl) (by decide) (by decide) ?_
      obtain rfl := m_R_inv hf
      obtain ⟨rfl, rfl⟩ := (show q_KI o hz (1, _) from hK)
      exact ev_ret (q_cod qk313 rfl) rfl
    rcases m_iteM hf with ⟨c9, hf⟩ | ⟨c9, hf⟩
    · subst c9
      refine ⟨gE, 4, 19, rfl, ?_⟩
      show q_Ev none 313 19 [(0, .ref l0), (1, .int l1), (2, .int l2), (3, .ref l3)] [] _ o hz
      refine ev_ic (v := 2) (q_cod qk313 rfl) (by decide) (by decide) ?_
      obtain rfl := m_R_inv hf
      obtain ⟨rfl, rfl⟩ := (show q_KI o hz (2, _) from hK)
      exact ev_ret (q_cod qk313 rfl) rfl
    rcases m_iteM hf with ⟨c9, hf⟩ | ⟨c9, hf⟩
    · subst c9
      refine ⟨gE, 4, 23, rfl, ?_⟩
      show q_Ev none 313 23 [(0, .ref l0), (1, .int l1), (2, .int l2), (3, .ref l3)] [] _ o hz
      refine ev_ic (v := 3) (q_cod qk313 rfl) (by decide) (by decide) ?_
      obtain rfl := m_R_inv hf
      obtain ⟨rfl, rfl⟩ := (show q_KI o hz (3, _) from hK)
      exact ev_ret (q_cod qk313 rfl) rfl
    cases hf
theorem f313_cl {l0 : Nat} {l1 : Int32} {l2 : Int32} {l3 : Nat} {h : q_H} {x : Int32 × q_H} (hf : f313 l0 l1 l2 l3 h = some x) : q_Cl 313 [.ref l0, .int l1, .int l2, .ref l3] h (.inl (some (.int x.1))) x.2 := q_Cl.of rfl (q_LvS rfl rfl) (f313_ok hf ⟨rfl, rfl⟩)
/-! SmithyBenchLaw.put(LSmithyBench;III[J)I -/
theorem qk314 : q_cs.getD 314 [] = qc_314 := rfl
def f314 (l0 : Nat) (l1 : Int32) (l2 : Int32) (l3 : Int32) (l4 : Nat) : m_M Int32 :=
  m_B (m_aK l0 11) (fun _ => m_T (f128 l0 l1 l2 l3) (fun v2 => m_B (m_wJ l4 0 (v2.toInt64)) (fun _ => m_R 0)) (fun E3 => m_B (m_G (E3 < 3)) (fun _ => if E3 = 2 then (m_R 1) else (if E3 = 1 then (m_R 2) else (if E3 = 0 then (m_R 3) else (m_F))))))
theorem f314_ok {l0 : Nat} {l1 : Int32} {l2 : Int32} {l3 : Int32} {l4 : Nat} {h : q_H} {o : q_O} {hz : q_H} {x : Int32 × q_H} (hf : f314 l0 l1 l2 l3 l4 h = some x) (hK : (q_KI o hz) x) : q_Ev none 314 0 [(0, .ref l0), (1, .int l1), (2, .int l2), (3, .int l3), (4, .ref l4)] [] h o hz := by
  unfold f314 at hf
  refine ev_aload (q_cod qk314 rfl) (by decide) rfl ?_
  refine ev_ic (v := 0) (q_cod qk314 rfl) (by decide) (by decide) ?_
  refine ev_aload_n (q_cod qk314 rfl) (by decide) rfl ?_
  refine ev_iload_n (q_cod qk314 rfl) (by decide) rfl ?_
  refine ev_iload_n (q_cod qk314 rfl) (by decide) rfl ?_
  refine ev_iload_n (q_cod qk314 rfl) (by decide) rfl ?_
  obtain ⟨g1, hf⟩ := m_aK_some hf
  refine em_callC (v := (fun u => some (.int u))) (q_cod qk314 rfl) (by decide) (q_cokV rfl rfl (Or.inr g1)) rfl (fun x e => f128_cl e) hf (fun v2 h hf => ?_) (fun E3 h hf => ?_)
  · refine ev_i2l (q_cod qk314 rfl) (by decide) ?_
    refine em_wJ (q_cod qk314 rfl) (by decide) hf (fun hf => ?_)
    refine ev_goto (q_cod qk314 rfl) (by decide) ?_
    refine ev_ic (v := 0) (q_cod qk314 rfl) (by decide) (by decide) ?_
    obtain rfl := m_R_inv hf
    obtain ⟨rfl, rfl⟩ := (show q_KI o hz (0, _) from hK)
    exact ev_ret (q_cod qk314 rfl) rfl
  · obtain ⟨gE, hf⟩ := m_G_some hf
    rcases m_iteM hf with ⟨c9, hf⟩ | ⟨c9, hf⟩
    · subst c9
      refine ⟨gE, 5, 17, rfl, ?_⟩
      show q_Ev none 314 17 [(0, .ref l0), (1, .int l1), (2, .int l2), (3, .int l3), (4, .ref l4)] [] _ o hz
      refine ev_ic (v := 1) (q_cod qk314 rfl) (by decide) (by decide) ?_
      obtain rfl := m_R_inv hf
      obtain ⟨rfl, rfl⟩ := (show q_KI o hz (1, _) from hK)
      exact ev_ret (q_cod qk314 rfl) rfl
    rcases m_iteM hf with ⟨c9, hf⟩ | ⟨c9, hf⟩
    · subst c9
      refine ⟨gE, 5, 21, rfl, ?_⟩
      show q_Ev none 314 21 [(0, .ref l0), (1, .int l1), (2, .int l2), (3, .int l3), (4, .ref l4)] [] _ o hz
      refine ev_ic (v := 2) (q_cod qk314 rfl) (by decide) (by decide) ?_
      obtain rfl := m_R_inv hf
      obtain ⟨rfl, rfl⟩ := (show q_KI o hz (2, _) from hK)
      exact ev_ret (q_cod qk314 rfl) rfl
    rcases m_iteM hf with ⟨c9, hf⟩ | ⟨c9, hf⟩
    · subst c9
      refine ⟨gE, 5, 25, rfl, ?_⟩
      show q_Ev none 314 25 [(0, .ref l0), (1, .int l1), (2, .int l2), (3, .int l3), (4, .ref l4)] [] _ o hz
      refine ev_ic (v := 3) (q_cod qk314 rfl) (by decide) (by decide) ?_
      obtain rfl := m_R_inv hf
      obtain ⟨rfl, rfl⟩ := (show q_KI o hz (3, _) from hK)
      exact ev_ret (q_cod qk314 rfl) rfl
    cases hf
theorem f314_cl {l0 : Nat} {l1 : Int32} {l2 : Int32} {l3 : Int32} {l4 : Nat} {h : q_H} {x : Int32 × q_H} (hf : f314 l0 l1 l2 l3 l4 h = some x) : q_Cl 314 [.ref l0, .int l1, .int l2, .int l3, .ref l4] h (.inl (some (.int x.1))) x.2 := q_Cl.of rfl (q_LvS rfl rfl) (f314_ok hf ⟨rfl, rfl⟩)
/-! SmithyBenchLaw.let(LSmithyBench;III[J)I -/
theorem qk315 : q_cs.getD 315 [] = qc_315 := rfl
def f315 (l0 : Nat) (l1 : Int32) (l2 : Int32) (l3 : Int32) (l4 : Nat) : m_M Int32 :=
  m_B (m_aK l0 11) (fun _ => m_T (f129 l0 l1 l2 l3) (fun v2 => m_B (m_wJ l4 0 (v2.toInt64)) (fun _ => m_R 0)) (fun E3 => m_B (m_G (E3 < 3)) (fun _ => if E3 = 2 then (m_R 1) else (if E3 = 1 then (m_R 2) else (if E3 = 0 then (m_R 3) else (m_F))))))
theorem f315_ok {l0 : Nat} {l1 : Int32} {l2 : Int32} {l3 : Int32} {l4 : Nat} {h : q_H} {o : q_O} {hz : q_H} {x : Int32 × q_H} (hf : f315 l0 l1 l2 l3 l4 h = some x) (hK : (q_KI o hz) x) : q_Ev none 315 0 [(0, .ref l0), (1, .int l1), (2, .int l2), (3, .int l3), (4, .ref l4)] [] h o hz := by
  unfold f315 at hf
  refine ev_aload (q_cod qk315 rfl) (by decide) rfl ?_
  refine ev_ic (v := 0) (q_cod qk315 rfl) (by decide) (by decide) ?_
  refine ev_aload_n (q_cod qk315 rfl) (by decide) rfl ?_
  refine ev_iload_n (q_cod qk315 rfl) (by decide) rfl ?_
  refine ev_iload_n (q_cod qk315 rfl) (by decide) rfl ?_
  refine ev_iload_n (q_cod qk315 rfl) (by decide) rfl ?_
  obtain ⟨g1, hf⟩ := m_aK_some hf
  refine em_callC (v := (fun u => some (.int u))) (q_cod qk315 rfl) (by decide) (q_cokV rfl rfl (Or.inr g1)) rfl (fun x e => f129_cl e) hf (fun v2 h hf => ?_) (fun E3 h hf => ?_)
  · refine ev_i2l (q_cod qk315 rfl) (by decide) ?_
    refine em_wJ (q_cod qk315 rfl) (by decide) hf (fun hf => ?_)
    refine ev_goto (q_cod qk315 rfl) (by decide) ?_
    refine ev_ic (v := 0) (q_cod qk315 rfl) (by decide) (by decide) ?_
    obtain rfl := m_R_inv hf
    obtain ⟨rfl, rfl⟩ := (show q_KI o hz (0, _) from hK)
    exact ev_ret (q_cod qk315 rfl) rfl
  · obtain ⟨gE, hf⟩ := m_G_some hf
    rcases m_iteM hf with ⟨c9, hf⟩ | ⟨c9, hf⟩
    · subst c9
      refine ⟨gE, 5, 17, rfl, ?_⟩
      show q_Ev none 315 17 [(0, .ref l0), (1, .int l1), (2, .int l2), (3, .int l3), (4, .ref l4)] [] _ o hz
      refine ev_ic (v := 1) (q_cod qk315 rfl) (by decide) (by decide) ?_
      obtain rfl := m_R_inv hf
      obtain ⟨rfl, rfl⟩ := (show q_KI o hz (1, _) from hK)
      exact ev_ret (q_cod qk315 rfl) rfl
    rcases m_iteM hf with ⟨c9, hf⟩ | ⟨c9, hf⟩
    · subst c9
      refine ⟨gE, 5, 21, rfl, ?_⟩
      show q_Ev none 315 21 [(0, .ref l0), (1, .int l1), (2, .int l2), (3, .int l3), (4, .ref l4)] [] _ o hz
      refine ev_ic (v := 2) (q_cod qk315 rfl) (by decide) (by decide) ?_
      obtain rfl := m_R_inv hf
      obtain ⟨rfl, rfl⟩ := (show q_KI o hz (2, _) from hK)
      exact ev_ret (q_cod qk315 rfl) rfl
    rcases m_iteM hf with ⟨c9, hf⟩ | ⟨c9, hf⟩
    · subst c9
      refine ⟨gE, 5, 25, rfl, ?_⟩
      show q_Ev none 315 25 [(0, .ref l0), (1, .int l1), (2, .int l2), (3, .int l3), (4, .ref l4)] [] _ o hz
      refine ev_ic (v := 3) (q_cod qk315 rfl) (by decide) (by decide) ?_
      obtain rfl := m_R_inv hf
      obtain ⟨rfl, rfl⟩ := (show q_KI o hz (3, _) from hK)
      exact ev_ret (q_cod qk315 rfl) rfl
    cases hf
theorem f315_cl {l0 : Nat} {l1 : Int32} {l2 : Int32} {l3 : Int32} {l4 : Nat} {h : q_H} {x : Int32 × q_H} (hf : f315 l0 l1 l2 l3 l4 h = some x) : q_Cl 315 [.ref l0, .int l1, .int l2, .int l3, .ref l4] h (.inl (some (.int x.1))) x.2 := q_Cl.of rfl (q_LvS rfl rfl) (f315_ok hf ⟨rfl, rfl⟩)
/-! SmithyBenchLaw.call(LSmithyBench;IIII[J)I -/
theorem qk316 : q_cs.getD 316 [] = qc_316 := rfl
def f316 (l0 : Nat) (l1 : Int32) (l2 : Int32) (l3 : Int32) (l4 : Int32) (l5 : Nat) : m_M Int32 :=
  m_B (m_aK l0 11) (fun _ => m_T (f130 l0 l1 l2 l3 l4) (fun v2 => m_B (m_wJ l5 0 (v2.toInt64)) (fun _ => m_R 0)) (fun E3 => m_B (m_G (E3 < 3)) (fun _ => if E3 = 2 then (m_R 1) else (if E3 = 1 then (m_R 2) else (if E3 = 0 then (m_R 3) else (m_F))))))
theorem f316_ok {l0 : Nat} {l1 : Int32} {l2 : Int32} {l3 : Int32} {l4 : Int32} {l5 : Nat} {h : q_H} {o : q_O} {hz : q_H} {x : Int32 × q_H} (hf : f316 l0 l1 l2 l3 l4 l5 h = some x) (hK : (q_KI o hz) x) : q_Ev none 316 0 [(0, .ref l0), (1, .int l1), (2, .int l2), (3, .int l3), (4, .int l4), (5, .ref l5)] [] h o hz := by
  unfold f316 at hf
  refine ev_aload (q_cod qk316 rfl) (by decide) rfl ?_
  refine ev_ic (v := 0) (q_cod qk316 rfl) (by decide) (by decide) ?_
  refine ev_aload_n (q_cod qk316 rfl) (by decide) rfl ?_
  refine ev_iload_n (q_cod qk316 rfl) (by decide) rfl ?_
  refine ev_iload_n (q_cod qk316 rfl) (by decide) rfl ?_
  refine ev_iload_n (q_cod qk316 rfl) (by decide) rfl ?_
  refine ev_iload (q_cod qk316 rfl) (by decide) rfl ?_
  obtain ⟨g1, hf⟩ := m_aK_some hf
  refine em_callC (v := (fun u => some (.int u))) (q_cod qk316 rfl) (by decide) (q_cokV rfl rfl (Or.inr g1)) rfl (fun x e => f130_cl e) hf (fun v2 h hf => ?_) (fun E3 h hf => ?_)
  · refine ev_i2l (q_cod qk316 rfl) (by decide) ?_
    refine em_wJ (q_cod qk316 rfl) (by decide) hf (fun hf => ?_)
    refine ev_goto (q_cod qk316 rfl) (by decide) ?_
    refine ev_ic (v := 0) (q_cod qk316 rfl) (by decide) (by decide) ?_
    obtain rfl := m_R_inv hf
    obtain ⟨rfl, rfl⟩ := (show q_KI o hz (0, _) from hK)
    exact ev_ret (q_cod qk316 rfl) rfl
  · obtain ⟨gE, hf⟩ := m_G_some hf
    rcases m_iteM hf with ⟨c9, hf⟩ | ⟨c9, hf⟩
    · subst c9
      refine ⟨gE, 6, 19, rfl, ?_⟩
      show q_Ev none 316 19 [(0, .ref l0), (1, .int l1), (2, .int l2), (3, .int l3), (4, .int l4), (5, .ref l5)] [] _ o hz
      refine ev_ic (v := 1) (q_cod qk316 rfl) (by decide) (by decide) ?_
      obtain rfl := m_R_inv hf
      obtain ⟨rfl, rfl⟩ := (show q_KI o hz (1, _) from hK)
      exact ev_ret (q_cod qk316 rfl) rfl
    rcases m_iteM hf with ⟨c9, hf⟩ | ⟨c9, hf⟩
    · subst c9
      refine ⟨gE, 6, 23, rfl, ?_⟩
      show q_Ev none 316 23 [(0, .ref l0), (1, .int l1), (2, .int l2), (3, .int l3), (4, .int l4), (5, .ref l5)] [] _ o hz
      refine ev_ic (v := 2) (q_cod qk316 rfl) (by decide) (by decide) ?_
      obtain rfl := m_R_inv hf
      obtain ⟨rfl, rfl⟩ := (show q_KI o hz (2, _) from hK)
      exact ev_ret (q_cod qk316 rfl) rfl
    rcases m_iteM hf with ⟨c9, hf⟩ | ⟨c9, hf⟩
    · subst c9
      refine ⟨gE, 6, 27, rfl, ?_⟩
      show q_Ev none 316 27 [(0, .ref l0), (1, .int l1), (2, .int l2), (3, .int l3), (4, .int l4), (5, .ref l5)] [] _ o hz
      refine ev_ic (v := 3) (q_cod qk316 rfl) (by decide) (by decide) ?_
      obtain rfl := m_R_inv hf
      obtain ⟨rfl, rfl⟩ := (show q_KI o hz (3, _) from hK)
      exact ev_ret (q_cod qk316 rfl) rfl
    cases hf
theorem f316_cl {l0 : Nat} {l1 : Int32} {l2 : Int32} {l3 : Int32} {l4 : Int32} {l5 : Nat} {h : q_H} {x : Int32 × q_H} (hf : f316 l0 l1 l2 l3 l4 l5 h = some x) : q_Cl 316 [.ref l0, .int l1, .int l2, .int l3, .int l4, .ref l5] h (.inl (some (.int x.1))) x.2 := q_Cl.of rfl (q_LvS rfl rfl) (f316_ok hf ⟨rfl, rfl⟩)
/-! SmithyBenchLaw.make(LSmithyBench;I[J)I -/
theorem qk317 : q_cs.getD 317 [] = qc_317 := rfl
def f317 (l0 : Nat) (l1 : Int32) (l2 : Nat) : m_M Int32 :=
  m_B (m_aK l0 11) (fun _ => m_T (f131 l0 l1) (fun v2 => m_B (m_wJ l2 0 (v2.toInt64)) (fun _ => m_R 0)) (fun E3 => m_B (m_G (E3 < 3)) (fun _ => if E3 = 2 then (m_R 1) else (if E3 = 0 then (m_R 2) else (m_F)))))
theorem f317_ok {l0 : Nat} {l1 : Int32} {l2 : Nat} {h : q_H} {o : q_O} {hz : q_H} {x : Int32 × q_H} (hf : f317 l0 l1 l2 h = some x) (hK : (q_KI o hz) x) : q_Ev none 317 0 [(0, .ref l0), (1, .int l1), (2, .ref l2)] [] h o hz := by
  unfold f317 at hf
  refine ev_aload_n (q_cod qk317 rfl) (by decide) rfl ?_
  refine ev_ic (v := 0) (q_cod qk317 rfl) (by decide) (by decide) ?_
  refine ev_aload_n (q_cod qk317 rfl) (by decide) rfl ?_
  refine ev_iload_n (q_cod qk317 rfl) (by decide) rfl ?_
  obtain ⟨g1, hf⟩ := m_aK_some hf
  refine em_callC (v := (fun u => some (.int u))) (q_cod qk317 rfl) (by decide) (q_cokV rfl rfl (Or.inr g1)) rfl (fun x e => f131_cl e) hf (fun v2 h hf => ?_) (fun E3 h hf => ?_)
  · refine ev_i2l (q_cod qk317 rfl) (by decide) ?_
    refine em_wJ (q_cod qk317 rfl) (by decide) hf (fun hf => ?_)
    refine ev_goto (q_cod qk317 rfl) (by decide) ?_
    refine ev_ic (v := 0) (q_cod qk317 rfl) (by decide) (by decide) ?_
    obtain rfl := m_R_inv hf
    obtain ⟨rfl, rfl⟩ := (show q_KI o hz (0, _) from hK)
    exact ev_ret (q_cod qk317 rfl) rfl
  · obtain ⟨gE, hf⟩ := m_G_some hf
    rcases m_iteM hf with ⟨c9, hf⟩ | ⟨c9, hf⟩
    · subst c9
      refine ⟨gE, 3, 13, rfl, ?_⟩
      show q_Ev none 317 13 [(0, .ref l0), (1, .int l1), (2, .ref l2)] [] _ o hz
      refine ev_ic (v := 1) (q_cod qk317 rfl) (by decide) (by decide) ?_
      obtain rfl := m_R_inv hf
      obtain ⟨rfl, rfl⟩ := (show q_KI o hz (1, _) from hK)
      exact ev_ret (q_cod qk317 rfl) rfl
    rcases m_iteM hf with ⟨c9, hf⟩ | ⟨c9, hf⟩
    · subst c9
      refine ⟨gE, 3, 16, rfl, ?_⟩
      show q_Ev none 317 16 [(0, .ref l0), (1, .int l1), (2, .ref l2)] [] _ o hz
      refine ev_ic (v := 2) (q_cod qk317 rfl) (by decide) (by decide) ?_
      obtain rfl := m_R_inv hf
      obtain ⟨rfl, rfl⟩ := (show q_KI o hz (2, _) from hK)
      exact ev_ret (q_cod qk317 rfl) rfl
    cases hf
theorem f317_cl {l0 : Nat} {l1 : Int32} {l2 : Nat} {h : q_H} {x : Int32 × q_H} (hf : f317 l0 l1 l2 h = some x) : q_Cl 317 [.ref l0, .int l1, .ref l2] h (.inl (some (.int x.1))) x.2 := q_Cl.of rfl (q_LvS rfl rfl) (f317_ok hf ⟨rfl, rfl⟩)
/-! SmithyBenchLaw.two(LSmithyBench;III[J)I -/
theorem qk318 : q_cs.getD 318 [] = qc_318 := rfl
def f318 (l0 : Nat) (l1 : Int32) (l2 : Int32) (l3 : Int32) (l4 : Nat) : m_M Int32 :=
  m_B (m_aK l0 11) (fun _ => m_T (f132 l0 l1 l2 l3) (fun v2 => m_B (m_wJ l4 0 (v2.toInt64)) (fun _ => m_R 0)) (fun E3 => m_B (m_G (E3 < 3)) (fun _ => if E3 = 2 then (m_R 1) else (if E3 = 1 then (m_R 2) else (if E3 = 0 then (m_R 3) else (m_F))))))
theorem f318_ok {l0 : Nat} {l1 : Int32} {l2 : Int32} {l3 : Int32} {l4 : Nat} {h : q_H} {o : q_O} {hz : q_H} {x : Int32 × q_H} (hf : f318 l0 l1 l2 l3 l4 h = some x) (hK : (q_KI o hz) x) : q_Ev none 318 0 [(0, .ref l0), (1, .int l1), (2, .int l2), (3, .int l3), (4, .ref l4)] [] h o hz := by
  unfold f318 at hf
  refine ev_aload (q_cod qk318 rfl) (by decide) rfl ?_
  refine ev_ic (v := 0) (q_cod qk318 rfl) (by decide) (by decide) ?_
  refine ev_aload_n (q_cod qk318 rfl) (by decide) rfl ?_
  refine ev_iload_n (q_cod qk318 rfl) (by decide) rfl ?_
  refine ev_iload_n (q_cod qk318 rfl) (by decide) rfl ?_
  refine ev_iload_n (q_cod qk318 rfl) (by decide) rfl ?_
  obtain ⟨g1, hf⟩ := m_aK_some hf
  refine em_callC (v := (fun u => some (.int u))) (q_cod qk318 rfl) (by decide) (q_cokV rfl rfl (Or.inr g1)) rfl (fun x e => f132_cl e) hf (fun v2 h hf => ?_) (fun E3 h hf => ?_)
  · refine ev_i2l (q_cod qk318 rfl) (by decide) ?_
    refine em_wJ (q_cod qk318 rfl) (by decide) hf (fun hf => ?_)
    refine ev_goto (q_cod qk318 rfl) (by decide) ?_
    refine ev_ic (v := 0) (q_cod qk318 rfl) (by decide) (by decide) ?_
    obtain rfl := m_R_inv hf
    obtain ⟨rfl, rfl⟩ := (show q_KI o hz (0, _) from hK)
    exact ev_ret (q_cod qk318 rfl) rfl
  · obtain ⟨gE, hf⟩ := m_G_some hf
    rcases m_iteM hf with ⟨c9, hf⟩ | ⟨c9, hf⟩
    · subst c9
      refine ⟨gE, 5, 17, rfl, ?_⟩
      show q_Ev none 318 17 [(0, .ref l0), (1, .int l1), (2, .int l2), (3, .int l3), (4, .ref l4)] [] _ o hz
      refine ev_ic (v := 1) (q_cod qk318 rfl) (by decide) (by decide) ?_
      obtain rfl := m_R_inv hf
      obtain ⟨rfl, rfl⟩ := (show q_KI o hz (1, _) from hK)
      exact ev_ret (q_cod qk318 rfl) rfl
    rcases m_iteM hf with ⟨c9, hf⟩ | ⟨c9, hf⟩
    · subst c9
      refine ⟨gE, 5, 21, rfl, ?_⟩
      show q_Ev none 318 21 [(0, .ref l0), (1, .int l1), (2, .int l2), (3, .int l3), (4, .ref l4)] [] _ o hz
      refine ev_ic (v := 2) (q_cod qk318 rfl) (by decide) (by decide) ?_
      obtain rfl := m_R_inv hf
      obtain ⟨rfl, rfl⟩ := (show q_KI o hz (2, _) from hK)
      exact ev_ret (q_cod qk318 rfl) rfl
    rcases m_iteM hf with ⟨c9, hf⟩ | ⟨c9, hf⟩
    · subst c9
      refine ⟨gE, 5, 25, rfl, ?_⟩
      show q_Ev none 318 25 [(0, .ref l0), (1, .int l1), (2, .int l2), (3, .int l3), (4, .ref l4)] [] _ o hz
      refine ev_ic (v := 3) (q_cod qk318 rfl) (by decide) (by decide) ?_
      obtain rfl := m_R_inv hf
      obtain ⟨rfl, rfl⟩ := (show q_KI o hz (3, _) from hK)
      exact ev_ret (q_cod qk318 rfl) rfl
    cases hf
theorem f318_cl {l0 : Nat} {l1 : Int32} {l2 : Int32} {l3 : Int32} {l4 : Nat} {h : q_H} {x : Int32 × q_H} (hf : f318 l0 l1 l2 l3 l4 h = some x) : q_Cl 318 [.ref l0, .int l1, .int l2, .int l3, .ref l4] h (.inl (some (.int x.1))) x.2 := q_Cl.of rfl (q_LvS rfl rfl) (f318_ok hf ⟨rfl, rfl⟩)
/-! SmithyBenchLaw.test(LSmithyBench;III[J)I -/
theorem qk319 : q_cs.getD 319 [] = qc_319 := rfl
def f319 (l0 : Nat) (l1 : Int32) (l2 : Int32) (l3 : Int32) (l4 : Nat) : m_M Int32 :=
  m_B (m_aK l0 11) (fun _ => m_T (f133 l0 l1 l2 l3) (fun v2 => m_B (m_wJ l4 0 (v2.toInt64)) (fun _ => m_R 0)) (fun E3 => m_B (m_G (E3 < 3)) (fun _ => if E3 = 2 then (m_R 1) else (if E3 = 0 then (m_R 2) else (m_F)))))
theorem f319_ok {l0 : Nat} {l1 : Int32} {l2 : Int32} {l3 : Int32} {l4 : Nat} {h : q_H} {o : q_O} {hz : q_H} {x : Int32 × q_H} (hf : f319 l0 l1 l2 l3 l4 h = some x) (hK : (q_KI o hz) x) : q_Ev none 319 0 [(0, .ref l0), (1, .int l1), (2, .int l2), (3, .int l3), (4, .ref l4)] [] h o hz := by
  unfold f319 at hf
  refine ev_aload (q_cod qk319 rfl) (by decide) rfl ?_
  refine ev_ic (v := 0) (q_cod qk319 rfl) (by decide) (by decide) ?_
  refine ev_aload_n (q_cod qk319 rfl) (by decide) rfl ?_
  refine ev_iload_n (q_cod qk319 rfl) (by decide) rfl ?_
  refine ev_iload_n (q_cod qk319 rfl) (by decide) rfl ?_
  refine ev_iload_n (q_cod qk319 rfl) (by decide) rfl ?_
  obtain ⟨g1, hf⟩ := m_aK_some hf
  refine em_callC (v := (fun u => some (.int u))) (q_cod qk319 rfl) (by decide) (q_cokV rfl rfl (Or.inr g1)) rfl (fun x e => f133_cl e) hf (fun v2 h hf => ?_) (fun E3 h hf => ?_)
  · refine ev_i2l (q_cod qk319 rfl) (by decide) ?_
    refine em_wJ (q_cod qk319 rfl) (by decide) hf (fun hf => ?_)
    refine ev_goto (q_cod qk319 rfl) (by decide) ?_
    refine ev_ic (v := 0) (q_cod qk319 rfl) (by decide) (by decide) ?_
    obtain rfl := m_R_inv hf
    obtain ⟨rfl, rfl⟩ := (show q_KI o hz (0, _) from hK)
    exact ev_ret (q_cod qk319 rfl) rfl
  · obtain ⟨gE, hf⟩ := m_G_some hf
    rcases m_iteM hf with ⟨c9, hf⟩ | ⟨c9, hf⟩
    · subst c9
      refine ⟨gE, 5, 17, rfl, ?_⟩
      show q_Ev none 319 17 [(0, .ref l0), (1, .int l1), (2, .int l2), (3, .int l3), (4, .ref l4)] [] _ o hz
      refine ev_ic (v := 1) (q_cod qk319 rfl) (by decide) (by decide) ?_
      obtain rfl := m_R_inv hf
      obtain ⟨rfl, rfl⟩ := (show q_KI o hz (1, _) from hK)
      exact ev_ret (q_cod qk319 rfl) rfl
    rcases m_iteM hf with ⟨c9, hf⟩ | ⟨c9, hf⟩
    · subst c9
      refine ⟨gE, 5, 21, rfl, ?_⟩
      show q_Ev none 319 21 [(0, .ref l0), (1, .int l1), (2, .int l2), (3, .int l3), (4, .ref l4)] [] _ o hz
      refine ev_ic (v := 2) (q_cod qk319 rfl) (by decide) (by decide) ?_
      obtain rfl := m_R_inv hf
      obtain ⟨rfl, rfl⟩ := (show q_KI o hz (2, _) from hK)
      exact ev_ret (q_cod qk319 rfl) rfl
    cases hf
theorem f319_cl {l0 : Nat} {l1 : Int32} {l2 : Int32} {l3 : Int32} {l4 : Nat} {h : q_H} {x : Int32 × q_H} (hf : f319 l0 l1 l2 l3 l4 h = some x) : q_Cl 319 [.ref l0, .int l1, .int l2, .int l3, .ref l4] h (.inl (some (.int x.1))) x.2 := q_Cl.of rfl (q_LvS rfl rfl) (f319_ok hf ⟨rfl, rfl⟩)
/-! SmithyBenchLaw.raise(LSmithyBench;I[J)I -/
theorem qk320 : q_cs.getD 320 [] = qc_320 := rfl
def f320 (l0 : Nat) (l1 : Int32) (l2 : Nat) : m_M Int32 :=
  m_B (m_aK l0 11) (fun _ => m_T (f134 l0 l1) (fun v2 => m_B (m_wJ l2 0 (v2.toInt64)) (fun _ => m_R 0)) (fun E3 => m_B (m_G (E3 < 3)) (fun _ => if E3 = 2 then (m_R 1) else (if E3 = 0 then (m_R 2) else (m_F)))))
theorem f320_ok {l0 : Nat} {l1 : Int32} {l2 : Nat} {h : q_H} {o : q_O} {hz : q_H} {x : Int32 × q_H} (hf : f320 l0 l1 l2 h = some x) (hK : (q_KI o hz) x) : q_Ev none 320 0 [(0, .ref l0), (1, .int l1), (2, .ref l2)] [] h o hz := by
  unfold f320 at hf
  refine ev_aload_n (q_cod qk320 rfl) (by decide) rfl ?_
  refine ev_ic (v := 0) (q_cod qk320 rfl) (by decide) (by decide) ?_
  refine ev_aload_n (q_cod qk320 rfl) (by decide) rfl ?_
  refine ev_iload_n (q_cod qk320 rfl) (by decide) rfl ?_
  obtain ⟨g1, hf⟩ := m_aK_some hf
  refine em_callC (v := (fun u => some (.int u))) (q_cod qk320 rfl) (by decide) (q_cokV rfl rfl (Or.inr g1)) rfl (fun x e => f134_cl e) hf (fun v2 h hf => ?_) (fun E3 h hf => ?_)
  · refine ev_i2l (q_cod qk320 rfl) (by decide) ?_
    refine em_wJ (q_cod qk320 rfl) (by decide) hf (fun hf => ?_)
    refine ev_goto (q_cod qk320 rfl) (by decide) ?_
    refine ev_ic (v := 0) (q_cod qk320 rfl) (by decide) (by decide) ?_
    obtain rfl := m_R_inv hf
    obtain ⟨rfl, rfl⟩ := (show q_KI o hz (0, _) from hK)
    exact ev_ret (q_cod qk320 rfl) rfl
  · obtain ⟨gE, hf⟩ := m_G_some hf
    rcases m_iteM hf with ⟨c9, hf⟩ | ⟨c9, hf⟩
    · subst c9
      refine ⟨gE, 3, 13, rfl, ?_⟩
      show q_Ev none 320 13 [(0, .ref l0), (1, .int l1), (2, .ref l2)] [] _ o hz
      refine ev_ic (v := 1) (q_cod qk320 rfl) (by decide) (by decide) ?_
      obtain rfl := m_R_inv hf
      obtain ⟨rfl, rfl⟩ := (show q_KI o hz (1, _) from hK)
      exact ev_ret (q_cod qk320 rfl) rfl
    rcases m_iteM hf with ⟨c9, hf⟩ | ⟨c9, hf⟩
    · subst c9
      refine ⟨gE, 3, 16, rfl, ?_⟩
      show q_Ev none 320 16 [(0, .ref l0), (1, .int l1), (2, .ref l2)] [] _ o hz
      refine ev_ic (v := 2) (q_cod qk320 rfl) (by decide) (by decide) ?_
      obtain rfl := m_R_inv hf
      obtain ⟨rfl, rfl⟩ := (show q_KI o hz (2, _) from hK)
      exact ev_ret (q_cod qk320 rfl) rfl
    cases hf
theorem f320_cl {l0 : Nat} {l1 : Int32} {l2 : Nat} {h : q_H} {x : Int32 × q_H} (hf : f320 l0 l1 l2 h = some x) : q_Cl 320 [.ref l0, .int l1, .ref l2] h (.inl (some (.int x.1))) x.2 := q_Cl.of rfl (q_LvS rfl rfl) (f320_ok hf ⟨rfl, rfl⟩)
/-! SmithyBenchLaw.classOf(LSmithyBench;I[J)I -/
theorem qk321 : q_cs.getD 321 [] = qc_321 := rfl
def f321 (l0 : Nat) (l1 : Int32) (l2 : Nat) : m_M Int32 :=
  m_B (m_aK l0 11) (fun _ => m_T (f135 l0 l1) (fun v2 => m_B (m_wJ l2 0 (v2.toInt64)) (fun _ => m_R 0)) (fun E3 => m_B (m_G (E3 < 3)) (fun _ => if E3 = 2 then (m_R 1) else (if E3 = 0 then (m_R 2) else (m_F)))))
theorem f321_ok {l0 : Nat} {l1 : Int32} {l2 : Nat} {h : q_H} {o : q_O} {hz : q_H} {x : Int32 × q_H} (hf : f321 l0 l1 l2 h = some x) (hK : (q_KI o hz) x) : q_Ev none 321 0 [(0, .ref l0), (1, .int l1), (2, .ref l2)] [] h o hz := by
  unfold f321 at hf
  refine ev_aload_n (q_cod qk321 rfl) (by decide) rfl ?_
  refine ev_ic (v := 0) (q_cod qk321 rfl) (by decide) (by decide) ?_
  refine ev_aload_n (q_cod qk321 rfl) (by decide) rfl ?_
  refine ev_iload_n (q_cod qk321 rfl) (by decide) rfl ?_
  obtain ⟨g1, hf⟩ := m_aK_some hf
  refine em_callC (v := (fun u => some (.int u))) (q_cod qk321 rfl) (by decide) (q_cokV rfl rfl (Or.inr g1)) rfl (fun x e => f135_cl e) hf (fun v2 h hf => ?_) (fun E3 h hf => ?_)
  · refine ev_i2l (q_cod qk321 rfl) (by decide) ?_
    refine em_wJ (q_cod qk321 rfl) (by decide) hf (fun hf => ?_)
    refine ev_goto (q_cod qk321 rfl) (by decide) ?_
    refine ev_ic (v := 0) (q_cod qk321 rfl) (by decide) (by decide) ?_
    obtain rfl := m_R_inv hf
    obtain ⟨rfl, rfl⟩ := (show q_KI o hz (0, _) from hK)
    exact ev_ret (q_cod qk321 rfl) rfl
  · obtain ⟨gE, hf⟩ := m_G_some hf
    rcases m_iteM hf with ⟨c9, hf⟩ | ⟨c9, hf⟩
    · subst c9
      refine ⟨gE, 3, 13, rfl, ?_⟩
      show q_Ev none 321 13 [(0, .ref l0), (1, .int l1), (2, .ref l2)] [] _ o hz
      refine ev_ic (v := 1) (q_cod qk321 rfl) (by decide) (by decide) ?_
      obtain rfl := m_R_inv hf
      obtain ⟨rfl, rfl⟩ := (show q_KI o hz (1, _) from hK)
      exact ev_ret (q_cod qk321 rfl) rfl
    rcases m_iteM hf with ⟨c9, hf⟩ | ⟨c9, hf⟩
    · subst c9
      refine ⟨gE, 3, 16, rfl, ?_⟩
      show q_Ev none 321 16 [(0, .ref l0), (1, .int l1), (2, .ref l2)] [] _ o hz
      refine ev_ic (v := 2) (q_cod qk321 rfl) (by decide) (by decide) ?_
      obtain rfl := m_R_inv hf
      obtain ⟨rfl, rfl⟩ := (show q_KI o hz (2, _) from hK)
      exact ev_ret (q_cod qk321 rfl) rfl
    cases hf
theorem f321_cl {l0 : Nat} {l1 : Int32} {l2 : Nat} {h : q_H} {x : Int32 × q_H} (hf : f321 l0 l1 l2 h = some x) : q_Cl 321 [.ref l0, .int l1, .ref l2] h (.inl (some (.int x.1))) x.2 := q_Cl.of rfl (q_LvS rfl rfl) (f321_ok hf ⟨rfl, rfl⟩)
/-! SmithyBenchLaw.fieldOf(LSmithyBench;III[J)I -/
theorem qk322 : q_cs.getD 322 [] = qc_322 := rfl
def f322 (l0 : Nat) (l1 : Int32) (l2 : Int32) (l3 : Int32) (l4 : Nat) : m_M Int32 :=
  m_B (m_aK l0 11) (fun _ => m_T (f136 l0 l1 l2 l3) (fun v2 => m_B (m_wJ l4 0 (v2.toInt64)) (fun _ => m_R 0)) (fun E3 => m_B (m_G (E3 < 3)) (fun _ => if E3 = 2 then (m_R 1) else (if E3 = 1 then (m_R 2) else (if E3 = 0 then (m_R 3) else (m_F))))))
theorem f322_ok {l0 : Nat} {l1 : Int32} {l2 : Int32} {l3 : Int32} {l4 : Nat} {h : q_H} {o : q_O} {hz : q_H} {x : Int32 × q_H} (hf : f322 l0 l1 l2 l3 l4 h = some x) (hK : (q_KI o hz) x) : q_Ev none 322 0 [(0, .ref l0), (1, .int l1), (2, .int l2), (3, .int l3), (4, .ref l4)] [] h o hz := by
  unfold f322 at hf
  refine ev_aload (q_cod qk322 rfl) (by decide) rfl ?_
  refine ev_ic (v := 0) (q_cod qk322 rfl) (by decide) (by decide) ?_
  refine ev_aload_n (q_cod qk322 rfl) (by decide) rfl ?_
  refine ev_iload_n (q_cod qk322 rfl) (by decide) rfl ?_
  refine ev_iload_n (q_cod qk322 rfl) (by decide) rfl ?_
  refine ev_iload_n (q_cod qk322 rfl) (by decide) rfl ?_
  obtain ⟨g1, hf⟩ := m_aK_some hf
  refine em_callC (v := (fun u => some (.int u))) (q_cod qk322 rfl) (by decide) (q_cokV rfl rfl (Or.inr g1)) rfl (fun x e => f136_cl e) hf (fun v2 h hf => ?_) (fun E3 h hf => ?_)
  · refine ev_i2l (q_cod qk322 rfl) (by decide) ?_
    refine em_wJ (q_cod qk322 rfl) (by decide) hf (fun hf => ?_)
    refine ev_goto (q_cod qk322 rfl) (by decide) ?_
    refine ev_ic (v := 0) (q_cod qk322 rfl) (by decide) (by decide) ?_
    obtain rfl := m_R_inv hf
    obtain ⟨rfl, rfl⟩ := (show q_KI o hz (0, _) from hK)
    exact ev_ret (q_cod qk322 rfl) rfl
  · obtain ⟨gE, hf⟩ := m_G_some hf
    rcases m_iteM hf with ⟨c9, hf⟩ | ⟨c9, hf⟩
    · subst c9
      refine ⟨gE, 5, 17, rfl, ?_⟩
      show q_Ev none 322 17 [(0, .ref l0), (1, .int l1), (2, .int l2), (3, .int l3), (4, .ref l4)] [] _ o hz
      refine ev_ic (v := 1) (q_cod qk322 rfl) (by decide) (by decide) ?_
      obtain rfl := m_R_inv hf
      obtain ⟨rfl, rfl⟩ := (show q_KI o hz (1, _) from hK)
      exact ev_ret (q_cod qk322 rfl) rfl
    rcases m_iteM hf with ⟨c9, hf⟩ | ⟨c9, hf⟩
    · subst c9
      refine ⟨gE, 5, 21, rfl, ?_⟩
      show q_Ev none 322 21 [(0, .ref l0), (1, .int l1), (2, .int l2), (3, .int l3), (4, .ref l4)] [] _ o hz
      refine ev_ic (v := 2) (q_cod qk322 rfl) (by decide) (by decide) ?_
      obtain rfl := m_R_inv hf
      obtain ⟨rfl, rfl⟩ := (show q_KI o hz (2, _) from hK)
      exact ev_ret (q_cod qk322 rfl) rfl
    rcases m_iteM hf with ⟨c9, hf⟩ | ⟨c9, hf⟩
    · subst c9
      refine ⟨gE, 5, 25, rfl, ?_⟩
      show q_Ev none 322 25 [(0, .ref l0), (1, .int l1), (2, .int l2), (3, .int l3), (4, .ref l4)] [] _ o hz
      refine ev_ic (v := 3) (q_cod qk322 rfl) (by decide) (by decide) ?_
      obtain rfl := m_R_inv hf
      obtain ⟨rfl, rfl⟩ := (show q_KI o hz (3, _) from hK)
      exact ev_ret (q_cod qk322 rfl) rfl
    cases hf
theorem f322_cl {l0 : Nat} {l1 : Int32} {l2 : Int32} {l3 : Int32} {l4 : Nat} {h : q_H} {x : Int32 × q_H} (hf : f322 l0 l1 l2 l3 l4 h = some x) : q_Cl 322 [.ref l0, .int l1, .int l2, .int l3, .ref l4] h (.inl (some (.int x.1))) x.2 := q_Cl.of rfl (q_LvS rfl rfl) (f322_ok hf ⟨rfl, rfl⟩)
/-! SmithyBenchLaw.method(LSmithyBench;IIIIII[J)I -/
theorem qk323 : q_cs.getD 323 [] = qc_323 := rfl
def f323 (l0 : Nat) (l1 : Int32) (l2 : Int32) (l3 : Int32) (l4 : Int32) (l5 : Int32) (l6 : Int32) (l7 : Nat) : m_M Int32 :=
  m_B (m_aK l0 11) (fun _ => m_T (f137 l0 l1 l2 l3 l4 l5 l6) (fun v2 => m_B (m_wJ l7 0 (v2.toInt64)) (fun _ => m_R 0)) (fun E3 => m_B (m_G (E3 < 3)) (fun _ => if E3 = 2 then (m_R 1) else (if E3 = 1 then (m_R 2) else (if E3 = 0 then (m_R 3) else (m_F))))))
theorem f323_ok {l0 : Nat} {l1 : Int32} {l2 : Int32} {l3 : Int32} {l4 : Int32} {l5 : Int32} {l6 : Int32} {l7 : Nat} {h : q_H} {o : q_O} {hz : q_H} {x : Int32 × q_H} (hf : f323 l0 l1 l2 l3 l4 l5 l6 l7 h = some x) (hK : (q_KI o hz) x) : q_Ev none 323 0 [(0, .ref l0), (1, .int l1), (2, .int l2), (3, .int l3), (4, .int l4), (5, .int l5), (6, .int l6), (7, .ref l7)] [] h o hz := by
  unfold f323 at hf
  refine ev_aload (q_cod qk323 rfl) (by decide) rfl ?_
  refine ev_ic (v := 0) (q_cod qk323 rfl) (by decide) (by decide) ?_
  refine ev_aload_n (q_cod qk323 rfl) (by decide) rfl ?_
  refine ev_iload_n (q_cod qk323 rfl) (by decide) rfl ?_
  refine ev_iload_n (q_cod qk323 rfl) (by decide) rfl ?_
  refine ev_iload_n (q_cod qk323 rfl) (by decide) rfl ?_
  refine ev_iload (q_cod qk323 rfl) (by decide) rfl ?_
  refine ev_iload (q_cod qk323 rfl) (by decide) rfl ?_
  refine ev_iload (q_cod qk323 rfl) (by decide) rfl ?_
  obtain ⟨g1, hf⟩ := m_aK_some hf
  refine em_callC (v := (fun u => some (.int u))) (q_cod qk323 rfl) (by decide) (q_cokV rfl rfl (Or.inr g1)) rfl (fun x e => f137_cl e) hf (fun v2 h hf => ?_) (fun E3 h hf => ?_)
  · refine ev_i2l (q_cod qk323 rfl) (by decide) ?_
    refine em_wJ (q_cod qk323 rfl) (by decide) hf (fun hf => ?_)
    refine ev_goto (q_cod qk323 rfl) (by decide) ?_
    refine ev_ic (v := 0) (q_cod qk323 rfl) (by decide) (by decide) ?_
    obtain rfl := m_R_inv hf
    obtain ⟨rfl, rfl⟩ := (show q_KI o hz (0, _) from hK)
    exact ev_ret (q_cod qk323 rfl) rfl
  · obtain ⟨gE, hf⟩ := m_G_some hf
    rcases m_iteM hf with ⟨c9, hf⟩ | ⟨c9, hf⟩
    · subst c9
      refine ⟨gE, 8, 23, rfl, ?_⟩
      show q_Ev none 323 23 [(0, .ref l0), (1, .int l1), (2, .int l2), (3, .int l3), (4, .int l4), (5, .int l5), (6, .int l6), (7, .ref l7)] [] _ o hz
      refine ev_ic (v := 1) (q_cod qk323 rfl) (by decide) (by decide) ?_
      obtain rfl := m_R_inv hf
      obtain ⟨rfl, rfl⟩ := (show q_KI o hz (1, _) from hK)
      exact ev_ret (q_cod qk323 rfl) rfl
    rcases m_iteM hf with ⟨c9, hf⟩ | ⟨c9, hf⟩
    · subst c9
      refine ⟨gE, 8, 27, rfl, ?_⟩
      show q_Ev none 323 27 [(0, .ref l0), (1, .int l1), (2, .int l2), (3, .int l3), (4, .int l4), (5, .int l5), (6, .int l6), (7, .ref l7)] [] _ o hz
      refine ev_ic (v := 2) (q_cod qk323 rfl) (by decide) (by decide) ?_
      obtain rfl := m_R_inv hf
      obtain ⟨rfl, rfl⟩ := (show q_KI o hz (2, _) from hK)
      exact ev_ret (q_cod qk323 rfl) rfl
    rcases m_iteM hf with ⟨c9, hf⟩ | ⟨c9, hf⟩
    · subst c9
      refine ⟨gE, 8, 31, rfl, ?_⟩
      show q_Ev none 323 31 [(0, .ref l0), (1, .int l1), (2, .int l2), (3, .int l3), (4, .int l4), (5, .int l5), (6, .int l6), (7, .ref l7)] [] _ o hz
      refine ev_ic (v := 3) (q_cod qk323 rfl) (by decide) (by decide) ?_
      obtain rfl := m_R_inv hf
      obtain ⟨rfl, rfl⟩ := (show q_KI o hz (3, _) from hK)
      exact ev_ret (q_cod qk323 rfl) rfl
    cases hf
theorem f323_cl {l0 : Nat} {l1 : Int32} {l2 : Int32} {l3 : Int32} {l4 : Int32} {l5 : Int32} {l6 : Int32} {l7 : Nat} {h : q_H} {x : Int32 × q_H} (hf : f323 l0 l1 l2 l3 l4 l5 l6 l7 h = some x) : q_Cl 323 [.ref l0, .int l1, .int l2, .int l3, .int l4, .int l5, .int l6, .ref l7] h (.inl (some (.int x.1))) x.2 := q_Cl.of rfl (q_LvS rfl rfl) (f323_ok hf ⟨rfl, rfl⟩)
/-! SmithyBenchLaw.begin(LSmithyBench;[J)I -/
theorem qk324 : q_cs.getD 324 [] = qc_324 := rfl
def f324 (l0 : Nat) (l1 : Nat) : m_M Int32 :=
  m_B (m_aK l0 11) (fun _ => m_T (f139 l0) (fun v2 => m_B (m_wJ l1 0 (v2.toInt64)) (fun _ => m_R 0)) (fun E3 => m_B (m_G (E3 < 3)) (fun _ => if E3 = 0 then (m_R 1) else (m_F))))
theorem f324_ok {l0 : Nat} {l1 : Nat} {h : q_H} {o : q_O} {hz : q_H} {x : Int32 × q_H} (hf : f324 l0 l1 h = some x) (hK : (q_KI o hz) x) : q_Ev none 324 0 [(0, .ref l0), (1, .ref l1)] [] h o hz := by
  unfold f324 at hf
  refine ev_aload_n (q_cod qk324 rfl) (by decide) rfl ?_
  refine ev_ic (v := 0) (q_cod qk324 rfl) (by decide) (by decide) ?_
  refine ev_aload_n (q_cod qk324 rfl) (by decide) rfl ?_
  obtain ⟨g1, hf⟩ := m_aK_some hf
  refine em_callC (v := (fun u => some (.int u))) (q_cod qk324 rfl) (by decide) (q_cokV rfl rfl (Or.inr g1)) rfl (fun x e => f139_cl e) hf (fun v2 h hf => ?_) (fun E3 h hf => ?_)
  · refine ev_i2l (q_cod qk324 rfl) (by decide) ?_
    refine em_wJ (q_cod qk324 rfl) (by decide) hf (fun hf => ?_)
    refine ev_goto (q_cod qk324 rfl) (by decide) ?_
    refine ev_ic (v := 0) (q_cod qk324 rfl) (by decide) (by decide) ?_
    obtain rfl := m_R_inv hf
    obtain ⟨rfl, rfl⟩ := (show q_KI o hz (0, _) from hK)
    exact ev_ret (q_cod qk324 rfl) rfl
  · obtain ⟨gE, hf⟩ := m_G_some hf
    rcases m_iteM hf with ⟨c9, hf⟩ | ⟨c9, hf⟩
    · subst c9
      refine ⟨gE, 2, 12, rfl, ?_⟩
      show q_Ev none 324 12 [(0, .ref l0), (1, .ref l1)] [] _ o hz
      refine ev_ic (v := 1) (q_cod qk324 rfl) (by decide) (by decide) ?_
      obtain rfl := m_R_inv hf
      obtain ⟨rfl, rfl⟩ := (show q_KI o hz (1, _) from hK)
      exact ev_ret (q_cod qk324 rfl) rfl
    cases hf
theorem f324_cl {l0 : Nat} {l1 : Nat} {h : q_H} {x : Int32 × q_H} (hf : f324 l0 l1 h = some x) : q_Cl 324 [.ref l0, .ref l1] h (.inl (some (.int x.1))) x.2 := q_Cl.of rfl (q_LvS rfl rfl) (f324_ok hf ⟨rfl, rfl⟩)
/-! SmithyBenchLaw.renameMethod(LSmithyBench;II[J)I -/
theorem qk325 : q_cs.getD 325 [] = qc_325 := rfl
def f325 (l0 : Nat) (l1 : Int32) (l2 : Int32) (l3 : Nat) : m_M Int32 :=
  m_B (m_aK l0 11) (fun _ => m_T (f140 l0 l1 l2) (fun v2 => m_B (m_wJ l3 0 (v2.toInt64)) (fun _ => m_R 0)) (fun E3 => m_B (m_G (E3 < 3)) (fun _ => if E3 = 2 then (m_R 1) else (if E3 = 1 then (m_R 2) else (if E3 = 0 then (m_R 3) else (m_F))))))
theorem f325_ok {l0 : Nat} {l1 : Int32} {l2 : Int32} {l3 : Nat} {h : q_H} {o : q_O} {hz : q_H} {x : Int32 × q_H} (hf : f325 l0 l1 l2 l3 h = some x) (hK : (q_KI o hz) x) : q_Ev none 325 0 [(0, .ref l0), (1, .int l1), (2, .int l2), (3, .ref l3)] [] h o hz := by
  unfold f325 at hf
  refine ev_aload_n (q_cod qk325 rfl) (by decide) rfl ?_
  refine ev_ic (v := 0) (q_cod qk325 rfl) (by decide) (by decide) ?_
  refine ev_aload_n (q_cod qk325 rfl) (by decide) rfl ?_
  refine ev_iload_n (q_cod qk325 rfl) (by decide) rfl ?_
  refine ev_iload_n (q_cod qk325 rfl) (by decide) rfl ?_
  obtain ⟨g1, hf⟩ := m_aK_some hf
  refine em_callC (v := (fun u => some (.int u))) (q_cod qk325 rfl) (by decide) (q_cokV rfl rfl (Or.inr g1)) rfl (fun x e => f140_cl e) hf (fun v2 h hf => ?_) (fun E3 h hf => ?_)
  · refine ev_i2l (q_cod qk325 rfl) (by decide) ?_
    refine em_wJ (q_cod qk325 rfl) (by decide) hf (fun hf => ?_)
    refine ev_goto (q_cod qk325 rfl) (by decide) ?_
    refine ev_ic (v := 0) (q_cod qk325 rfl) (by decide) (by decide) ?_
    obtain rfl := m_R_inv hf
    obtain ⟨rfl, rfl⟩ := (show q_KI o hz (0, _) from hK)
    exact ev_ret (q_cod qk325 rfl) rfl
  · obtain ⟨gE, hf⟩ := m_G_some hf
    rcases m_iteM hf with ⟨c9, hf⟩ | ⟨c9, hf⟩
    · subst c9
      refine ⟨gE, 4, 15, rfl, ?_⟩
      show q_Ev none 325 15 [(0, .ref l0), (1, .int l1), (2, .int l2), (3, .ref l3)] [] _ o hz
      refine ev_ic (v := 1) (q_cod qk325 rfl) (by decide) (by decide) ?_
      obtain rfl := m_R_inv hf
      obtain ⟨rfl, rfl⟩ := (show q_KI o hz (1, _) from hK)
      exact ev_ret (q_cod qk325 rfl) rfl
    rcases m_iteM hf with ⟨c9, hf⟩ | ⟨c9, hf⟩
    · subst c9
      refine ⟨gE, 4, 19, rfl, ?_⟩
      show q_Ev none 325 19 [(0, .ref l0), (1, .int l1), (2, .int l2), (3, .ref l3)] [] _ o hz
      refine ev_ic (v := 2) (q_cod qk325 rfl) (by decide) (by decide) ?_
      obtain rfl := m_R_inv hf
      obtain ⟨rfl, rfl⟩ := (show q_KI o hz (2, _) from hK)
      exact ev_ret (q_cod qk325 rfl) rfl
    rcases m_iteM hf with ⟨c9, hf⟩ | ⟨c9, hf⟩
    · subst c9
      refine ⟨gE, 4, 23, rfl, ?_⟩
      show q_Ev none 325 23 [(0, .ref l0), (1, .int l1), (2, .int l2), (3, .ref l3)] [] _ o hz
      refine ev_ic (v := 3) (q_cod qk325 rfl) (by decide) (by decide) ?_
      obtain rfl := m_R_inv hf
      obtain ⟨rfl, rfl⟩ := (show q_KI o hz (3, _) from hK)
      exact ev_ret (q_cod qk325 rfl) rfl
    cases hf
theorem f325_cl {l0 : Nat} {l1 : Int32} {l2 : Int32} {l3 : Nat} {h : q_H} {x : Int32 × q_H} (hf : f325 l0 l1 l2 l3 h = some x) : q_Cl 325 [.ref l0, .int l1, .int l2, .ref l3] h (.inl (some (.int x.1))) x.2 := q_Cl.of rfl (q_LvS rfl rfl) (f325_ok hf ⟨rfl, rfl⟩)
/-! SmithyBenchLaw.renameField(LSmithyBench;III[J)I -/
theorem qk326 : q_cs.getD 326 [] = qc_326 := rfl
def f326 (l0 : Nat) (l1 : Int32) (l2 : Int32) (l3 : Int32) (l4 : Nat) : m_M Int32 :=
  m_B (m_aK l0 11) (fun _ => m_T (f141 l0 l1 l2 l3) (fun v2 => m_B (m_wJ l4 0 (v2.toInt64)) (fun _ => m_R 0)) (fun E3 => m_B (m_G (E3 < 3)) (fun _ => if E3 = 2 then (m_R 1) else (if E3 = 1 then (m_R 2) else (if E3 = 0 then (m_R 3) else (m_F))))))
theorem f326_ok {l0 : Nat} {l1 : Int32} {l2 : Int32} {l3 : Int32} {l4 : Nat} {h : q_H} {o : q_O} {hz : q_H} {x : Int32 × q_H} (hf : f326 l0 l1 l2 l3 l4 h = some x) (hK : (q_KI o hz) x) : q_Ev none 326 0 [(0, .ref l0), (1, .int l1), (2, .int l2), (3, .int l3), (4, .ref l4)] [] h o hz := by
  unfold f326 at hf
  refine ev_aload (q_cod qk326 rfl) (by decide) rfl ?_
  refine ev_ic (v := 0) (q_cod qk326 rfl) (by decide) (by decide) ?_
  refine ev_aload_n (q_cod qk326 rfl) (by decide) rfl ?_
  refine ev_iload_n (q_cod qk326 rfl) (by decide) rfl ?_
  refine ev_iload_n (q_cod qk326 rfl) (by decide) rfl ?_
  refine ev_iload_n (q_cod qk326 rfl) (by decide) rfl ?_
  obtain ⟨g1, hf⟩ := m_aK_some hf
  refine em_callC (v := (fun u => some (.int u))) (q_cod qk326 rfl) (by decide) (q_cokV rfl rfl (Or.inr g1)) rfl (fun x e => f141_cl e) hf (fun v2 h hf => ?_) (fun E3 h hf => ?_)
  · refine ev_i2l (q_cod qk326 rfl) (by decide) ?_
    refine em_wJ (q_cod qk326 rfl) (by decide) hf (fun hf => ?_)
    refine ev_goto (q_cod qk326 rfl) (by decide) ?_
    refine ev_ic (v := 0) (q_cod qk326 rfl) (by decide) (by decide) ?_
    obtain rfl := m_R_inv hf
    obtain ⟨rfl, rfl⟩ := (show q_KI o hz (0, _) from hK)
    exact ev_ret (q_cod qk326 rfl) rfl
  · obtain ⟨gE, hf⟩ := m_G_some hf
    rcases m_iteM hf with ⟨c9, hf⟩ | ⟨c9, hf⟩
    · subst c9
      refine ⟨gE, 5, 17, rfl, ?_⟩
      show q_Ev none 326 17 [(0, .ref l0), (1, .int l1), (2, .int l2), (3, .int l3), (4, .ref l4)] [] _ o hz
      refine ev_ic (v := 1) (q_cod qk326 rfl) (by decide) (by decide) ?_
      obtain rfl := m_R_inv hf
      obtain ⟨rfl, rfl⟩ := (show q_KI o hz (1, _) from hK)
      exact ev_ret (q_cod qk326 rfl) rfl
    rcases m_iteM hf with ⟨c9, hf⟩ | ⟨c9, hf⟩
    · subst c9
      refine ⟨gE, 5, 21, rfl, ?_⟩
      show q_Ev none 326 21 [(0, .ref l0), (1, .int l1), (2, .int l2), (3, .int l3), (4, .ref l4)] [] _ o hz
      refine ev_ic (v := 2) (q_cod qk326 rfl) (by decide) (by decide) ?_
      obtain rfl := m_R_inv hf
      obtain ⟨rfl, rfl⟩ := (show q_KI o hz (2, _) from hK)
      exact ev_ret (q_cod qk326 rfl) rfl
    rcases m_iteM hf with ⟨c9, hf⟩ | ⟨c9, hf⟩
    · subst c9
      refine ⟨gE, 5, 25, rfl, ?_⟩
      show q_Ev none 326 25 [(0, .ref l0), (1, .int l1), (2, .int l2), (3, .int l3), (4, .ref l4)] [] _ o hz
      refine ev_ic (v := 3) (q_cod qk326 rfl) (by decide) (by decide) ?_
      obtain rfl := m_R_inv hf
      obtain ⟨rfl, rfl⟩ := (show q_KI o hz (3, _) from hK)
      exact ev_ret (q_cod qk326 rfl) rfl
    cases hf
theorem f326_cl {l0 : Nat} {l1 : Int32} {l2 : Int32} {l3 : Int32} {l4 : Nat} {h : q_H} {x : Int32 × q_H} (hf : f326 l0 l1 l2 l3 l4 h = some x) : q_Cl 326 [.ref l0, .int l1, .int l2, .int l3, .ref l4] h (.inl (some (.int x.1))) x.2 := q_Cl.of rfl (q_LvS rfl rfl) (f326_ok hf ⟨rfl, rfl⟩)
/-! SmithyBenchLaw.renameLocal(LSmithyBench;III[J)I -/
theorem qk327 : q_cs.getD 327 [] = qc_327 := rfl
def f327 (l0 : Nat) (l1 : Int32) (l2 : Int32) (l3 : Int32) (l4 : Nat) : m_M Int32 :=
  m_B (m_aK l0 11) (fun _ => m_T (f142 l0 l1 l2 l3) (fun v2 => m_B (m_wJ l4 0 (v2.toInt64)) (fun _ => m_R 0)) (fun E3 => m_B (m_G (E3 < 3)) (fun _ => if E3 = 2 then (m_R 1) else (if E3 = 1 then (m_R 2) else (if E3 = 0 then (m_R 3) else (m_F))))))
theorem f327_ok {l0 : Nat} {l1 : Int32} {l2 : Int32} {l3 : Int32} {l4 : Nat} {h : q_H} {o : q_O} {hz : q_H} {x : Int32 × q_H} (hf : f327 l0 l1 l2 l3 l4 h = some x) (hK : (q_KI o hz) x) : q_Ev none 327 0 [(0, .ref l0), (1, .int l1), (2, .int l2), (3, .int l3), (4, .ref l4)] [] h o hz := by
  unfold f327 at hf
  refine ev_aload (q_cod qk327 rfl) (by decide) rfl ?_
  refine ev_ic (v := 0) (q_cod qk327 rfl) (by decide) (by decide) ?_
  refine ev_aload_n (q_cod qk327 rfl) (by decide) rfl ?_
  refine ev_iload_n (q_cod qk327 rfl) (by decide) rfl ?_
  refine ev_iload_n (q_cod qk327 rfl) (by decide) rfl ?_
  refine ev_iload_n (q_cod qk327 rfl) (by decide) rfl ?_
  obtain ⟨g1, hf⟩ := m_aK_some hf
  refine em_callC (v := (fun u => some (.int u))) (q_cod qk327 rfl) (by decide) (q_cokV rfl rfl (Or.inr g1)) rfl (fun x e => f142_cl e) hf (fun v2 h hf => ?_) (fun E3 h hf => ?_)
  · refine ev_i2l (q_cod qk327 rfl) (by decide) ?_
    refine em_wJ (q_cod qk327 rfl) (by decide) hf (fun hf => ?_)
    refine ev_goto (q_cod qk327 rfl) (by decide) ?_
    refine ev_ic (v := 0) (q_cod qk327 rfl) (by decide) (by decide) ?_
    obtain rfl := m_R_inv hf
    obtain ⟨rfl, rfl⟩ := (show q_KI o hz (0, _) from hK)
    exact ev_ret (q_cod qk327 rfl) rfl
  · obtain ⟨gE, hf⟩ := m_G_some hf
    rcases m_iteM hf with ⟨c9, hf⟩ | ⟨c9, hf⟩
    · subst c9
      refine ⟨gE, 5, 17, rfl, ?_⟩
      show q_Ev none 327 17 [(0, .ref l0), (1, .int l1), (2, .int l2), (3, .int l3), (4, .ref l4)] [] _ o hz
      refine ev_ic (v := 1) (q_cod qk327 rfl) (by decide) (by decide) ?_
      obtain rfl := m_R_inv hf
      obtain ⟨rfl, rfl⟩ := (show q_KI o hz (1, _) from hK)
      exact ev_ret (q_cod qk327 rfl) rfl
    rcases m_iteM hf with ⟨c9, hf⟩ | ⟨c9, hf⟩
    · subst c9
      refine ⟨gE, 5, 21, rfl, ?_⟩
      show q_Ev none 327 21 [(0, .ref l0), (1, .int l1), (2, .int l2), (3, .int l3), (4, .ref l4)] [] _ o hz
      refine ev_ic (v := 2) (q_cod qk327 rfl) (by decide) (by decide) ?_
      obtain rfl := m_R_inv hf
      obtain ⟨rfl, rfl⟩ := (show q_KI o hz (2, _) from hK)
      exact ev_ret (q_cod qk327 rfl) rfl
    rcases m_iteM hf with ⟨c9, hf⟩ | ⟨c9, hf⟩
    · subst c9
      refine ⟨gE, 5, 25, rfl, ?_⟩
      show q_Ev none 327 25 [(0, .ref l0), (1, .int l1), (2, .int l2), (3, .int l3), (4, .ref l4)] [] _ o hz
      refine ev_ic (v := 3) (q_cod qk327 rfl) (by decide) (by decide) ?_
      obtain rfl := m_R_inv hf
      obtain ⟨rfl, rfl⟩ := (show q_KI o hz (3, _) from hK)
      exact ev_ret (q_cod qk327 rfl) rfl
    cases hf
theorem f327_cl {l0 : Nat} {l1 : Int32} {l2 : Int32} {l3 : Int32} {l4 : Nat} {h : q_H} {x : Int32 × q_H} (hf : f327 l0 l1 l2 l3 l4 h = some x) : q_Cl 327 [.ref l0, .int l1, .int l2, .int l3, .ref l4] h (.inl (some (.int x.1))) x.2 := q_Cl.of rfl (q_LvS rfl rfl) (f327_ok hf ⟨rfl, rfl⟩)
/-! SmithyBenchLaw.inline(LSmithyBench;II[J)I -/
theorem qk328 : q_cs.getD 328 [] = qc_328 := rfl
def f328 (l0 : Nat) (l1 : Int32) (l2 : Int32) (l3 : Nat) : m_M Int32 :=
  m_B (m_aK l0 11) (fun _ => m_T (f143 l0 l1 l2) (fun v2 => m_B (m_wJ l3 0 (v2.toInt64)) (fun _ => m_R 0)) (fun E3 => m_B (m_G (E3 < 3)) (fun _ => if E3 = 2 then (m_R 1) else (if E3 = 0 then (m_R 2) else (m_F)))))
theorem f328_ok {l0 : Nat} {l1 : Int32} {l2 : Int32} {l3 : Nat} {h : q_H} {o : q_O} {hz : q_H} {x : Int32 × q_H} (hf : f328 l0 l1 l2 l3 h = some x) (hK : (q_KI o hz) x) : q_Ev none 328 0 [(0, .ref l0), (1, .int l1), (2, .int l2), (3, .ref l3)] [] h o hz := by
  unfold f328 at hf
  refine ev_aload_n (q_cod qk328 rfl) (by decide) rfl ?_
  refine ev_ic (v := 0) (q_cod qk328 rfl) (by decide) (by decide) ?_
  refine ev_aload_n (q_cod qk328 rfl) (by decide) rfl ?_
  refine ev_iload_n (q_cod qk328 rfl) (by decide) rfl ?_
  refine ev_iload_n (q_cod qk328 rfl) (by decide) rfl ?_
  obtain ⟨g1, hf⟩ := m_aK_some hf
  refine em_callC (v := (fun u => some (.int u))) (q_cod qk328 rfl) (by decide) (q_cokV rfl rfl (Or.inr g1)) rfl (fun x e => f143_cl e) hf (fun v2 h hf => ?_) (fun E3 h hf => ?_)
  · refine ev_i2l (q_cod qk328 rfl) (by decide) ?_
    refine em_wJ (q_cod qk328 rfl) (by decide) hf (fun hf => ?_)
    refine ev_goto (q_cod qk328 rfl) (by decide) ?_
    refine ev_ic (v := 0) (q_cod qk328 rfl) (by decide) (by decide) ?_
    obtain rfl := m_R_inv hf
    obtain ⟨rfl, rfl⟩ := (show q_KI o hz (0, _) from hK)
    exact ev_ret (q_cod qk328 rfl) rfl
  · obtain ⟨gE, hf⟩ := m_G_some hf
    rcases m_iteM hf with ⟨c9, hf⟩ | ⟨c9, hf⟩
    · subst c9
      refine ⟨gE, 4, 15, rfl, ?_⟩
      show q_Ev none 328 15 [(0, .ref l0), (1, .int l1), (2, .int l2), (3, .ref l3)] [] _ o hz
      refine ev_ic (v := 1) (q_cod qk328 rfl) (by decide) (by decide) ?_
      obtain rfl := m_R_inv hf
      obtain ⟨rfl, rfl⟩ := (show q_KI o hz (1, _) from hK)
      exact ev_ret (q_cod qk328 rfl) rfl
    rcases m_iteM hf with ⟨c9, hf⟩ | ⟨c9, hf⟩
    · subst c9
      refine ⟨gE, 4, 19, rfl, ?_⟩
      show q_Ev none 328 19 [(0, .ref l0), (1, .int l1), (2, .int l2), (3, .ref l3)] [] _ o hz
      refine ev_ic (v := 2) (q_cod qk328 rfl) (by decide) (by decide) ?_
      obtain rfl := m_R_inv hf
      obtain ⟨rfl, rfl⟩ := (show q_KI o hz (2, _) from hK)
      exact ev_ret (q_cod qk328 rfl) rfl
    cases hf
theorem f328_cl {l0 : Nat} {l1 : Int32} {l2 : Int32} {l3 : Nat} {h : q_H} {x : Int32 × q_H} (hf : f328 l0 l1 l2 l3 h = some x) : q_Cl 328 [.ref l0, .int l1, .int l2, .ref l3] h (.inl (some (.int x.1))) x.2 := q_Cl.of rfl (q_LvS rfl rfl) (f328_ok hf ⟨rfl, rfl⟩)
/-! SmithyBenchLaw.extract(LSmithyBench;III[J)I -/
theorem qk329 : q_cs.getD 329 [] = qc_329 := rfl
def f329 (l0 : Nat) (l1 : Int32) (l2 : Int32) (l3 : Int32) (l4 : Nat) : m_M Int32 :=
  m_B (m_aK l0 11) (fun _ => m_T (f144 l0 l1 l2 l3) (fun v2 => m_B (m_wJ l4 0 (v2.toInt64)) (fun _ => m_R 0)) (fun E3 => m_B (m_G (E3 < 3)) (fun _ => if E3 = 2 then (m_R 1) else (if E3 = 1 then (m_R 2) else (if E3 = 0 then (m_R 3) else (m_F))))))
theorem f329_ok {l0 : Nat} {l1 : Int32} {l2 : Int32} {l3 : Int32} {l4 : Nat} {h : q_H} {o : q_O} {hz : q_H} {x : Int32 × q_H} (hf : f329 l0 l1 l2 l3 l4 h = some x) (hK : (q_KI o hz) x) : q_Ev none 329 0 [(0, .ref l0), (1, .int l1), (2, .int l2), (3, .int l3), (4, .ref l4)] [] h o hz := by
  unfold f329 at hf
  refine ev_aload (q_cod qk329 rfl) (by decide) rfl ?_
  refine ev_ic (v := 0) (q_cod qk329 rfl) (by decide) (by decide) ?_
  refine ev_aload_n (q_cod qk329 rfl) (by decide) rfl ?_
  refine ev_iload_n (q_cod qk329 rfl) (by decide) rfl ?_
  refine ev_iload_n (q_cod qk329 rfl) (by decide) rfl ?_
  refine ev_iload_n (q_cod qk329 rfl) (by decide) rfl ?_
  obtain ⟨g1, hf⟩ := m_aK_some hf
  refine em_callC (v := (fun u => some (.int u))) (q_cod qk329 rfl) (by decide) (q_cokV rfl rfl (Or.inr g1)) rfl (fun x e => f144_cl e) hf (fun v2 h hf => ?_) (fun E3 h hf => ?_)
  · refine ev_i2l (q_cod qk329 rfl) (by decide) ?_
    refine em_wJ (q_cod qk329 rfl) (by decide) hf (fun hf => ?_)
    refine ev_goto (q_cod qk329 rfl) (by decide) ?_
    refine ev_ic (v := 0) (q_cod qk329 rfl) (by decide) (by decide) ?_
    obtain rfl := m_R_inv hf
    obtain ⟨rfl, rfl⟩ := (show q_KI o hz (0, _) from hK)
    exact ev_ret (q_cod qk329 rfl) rfl
  · obtain ⟨gE, hf⟩ := m_G_some hf
    rcases m_iteM hf with ⟨c9, hf⟩ | ⟨c9, hf⟩
    · subst c9
      refine ⟨gE, 5, 17, rfl, ?_⟩
      show q_Ev none 329 17 [(0, .ref l0), (1, .int l1), (2, .int l2), (3, .int l3), (4, .ref l4)] [] _ o hz
      refine ev_ic (v := 1) (q_cod qk329 rfl) (by decide) (by decide) ?_
      obtain rfl := m_R_inv hf
      obtain ⟨rfl, rfl⟩ := (show q_KI o hz (1, _) from hK)
      exact ev_ret (q_cod qk329 rfl) rfl
    rcases m_iteM hf with ⟨c9, hf⟩ | ⟨c9, hf⟩
    · subst c9
      refine ⟨gE, 5, 21, rfl, ?_⟩
      show q_Ev none 329 21 [(0, .ref l0), (1, .int l1), (2, .int l2), (3, .int l3), (4, .ref l4)] [] _ o hz
      refine ev_ic (v := 2) (q_cod qk329 rfl) (by decide) (by decide) ?_
      obtain rfl := m_R_inv hf
      obtain ⟨rfl, rfl⟩ := (show q_KI o hz (2, _) from hK)
      exact ev_ret (q_cod qk329 rfl) rfl
    rcases m_iteM hf with ⟨c9, hf⟩ | ⟨c9, hf⟩
    · subst c9
      refine ⟨gE, 5, 25, rfl, ?_⟩
      show q_Ev none 329 25 [(0, .ref l0), (1, .int l1), (2, .int l2), (3, .int l3), (4, .ref l4)] [] _ o hz
      refine ev_ic (v := 3) (q_cod qk329 rfl) (by decide) (by decide) ?_
      obtain rfl := m_R_inv hf
      obtain ⟨rfl, rfl⟩ := (show q_KI o hz (3, _) from hK)
      exact ev_ret (q_cod qk329 rfl) rfl
    cases hf
theorem f329_cl {l0 : Nat} {l1 : Int32} {l2 : Int32} {l3 : Int32} {l4 : Nat} {h : q_H} {x : Int32 × q_H} (hf : f329 l0 l1 l2 l3 l4 h = some x) : q_Cl 329 [.ref l0, .int l1, .int l2, .int l3, .ref l4] h (.inl (some (.int x.1))) x.2 := q_Cl.of rfl (q_LvS rfl rfl) (f329_ok hf ⟨rfl, rfl⟩)
/-! SmithyBenchLaw.addParameter(LSmithyBench;II[J)I -/
theorem qk330 : q_cs.getD 330 [] = qc_330 := rfl
def f330 (l0 : Nat) (l1 : Int32) (l2 : Int32) (l3 : Nat) : m_M Int32 :=
  m_B (m_aK l0 11) (fun _ => m_T (f145 l0 l1 l2) (fun v2 => m_B (m_wJ l3 0 (v2.toInt64)) (fun _ => m_R 0)) (fun E3 => m_B (m_G (E3 < 3)) (fun _ => if E3 = 2 then (m_R 1) else (if E3 = 0 then (m_R 2) else (m_F)))))
theorem f330_ok {l0 : Nat} {l1 : Int32} {l2 : Int32} {l3 : Nat} {h : q_H} {o : q_O} {hz : q_H} {x : Int32 × q_H} (hf : f330 l0 l1 l2 l3 h = some x) (hK : (q_KI o hz) x) : q_Ev none 330 0 [(0, .ref l0), (1, .int l1), (2, .int l2), (3, .ref l3)] [] h o hz := by
  unfold f330 at hf
  refine ev_aload_n (q_cod qk330 rfl) (by decide) rfl ?_
  refine ev_ic (v := 0) (q_cod qk330 rfl) (by decide) (by decide) ?_
  refine ev_aload_n (q_cod qk330 rfl) (by decide) rfl ?_
  refine ev_iload_n (q_cod qk330 rfl) (by decide) rfl ?_
  refine ev_iload_n (q_cod qk330 rfl) (by decide) rfl ?_
  obtain ⟨g1, hf⟩ := m_aK_some hf
  refine em_callC (v := (fun u => some (.int u))) (q_cod qk330 rfl) (by decide) (q_cokV rfl rfl (Or.inr g1)) rfl (fun x e => f145_cl e) hf (fun v2 h hf => ?_) (fun E3 h hf => ?_)
  · refine ev_i2l (q_cod qk330 rfl) (by decide) ?_
    refine em_wJ (q_cod qk330 rfl) (by decide) hf (fun hf => ?_)
    refine ev_goto (q_cod qk330 rfl) (by decide) ?_
    refine ev_ic (v := 0) (q_cod qk330 rfl) (by decide) (by decide) ?_
    obtain rfl := m_R_inv hf
    obtain ⟨rfl, rfl⟩ := (show q_KI o hz (0, _) from hK)
    exact ev_ret (q_cod qk330 rfl) rfl
  · obtain ⟨gE, hf⟩ := m_G_some hf
    rcases m_iteM hf with ⟨c9, hf⟩ | ⟨c9, hf⟩
    · subst c9
      refine ⟨gE, 4, 15, rfl, ?_⟩
      show q_Ev none 330 15 [(0, .ref l0), (1, .int l1), (2, .int l2), (3, .ref l3)] [] _ o hz
      refine ev_ic (v := 1) (q_cod qk330 rfl) (by decide) (by decide) ?_
      obtain rfl := m_R_inv hf
      obtain ⟨rfl, rfl⟩ := (show q_KI o hz (1, _) from hK)
      exact ev_ret (q_cod qk330 rfl) rfl
    rcases m_iteM hf with ⟨c9, hf⟩ | ⟨c9, hf⟩
    · subst c9
      refine ⟨gE, 4, 19, rfl, ?_⟩
      show q_Ev none 330 19 [(0, .ref l0), (1, .int l1), (2, .int l2), (3, .ref l3)] [] _ o hz
      refine ev_ic (v := 2) (q_cod qk330 rfl) (by decide) (by decide) ?_
      obtain rfl := m_R_inv hf
      obtain ⟨rfl, rfl⟩ := (show q_KI o hz (2, _) from hK)
      exact ev_ret (q_cod qk330 rfl) rfl
    cases hf
theorem f330_cl {l0 : Nat} {l1 : Int32} {l2 : Int32} {l3 : Nat} {h : q_H} {x : Int32 × q_H} (hf : f330 l0 l1 l2 l3 h = some x) : q_Cl 330 [.ref l0, .int l1, .int l2, .ref l3] h (.inl (some (.int x.1))) x.2 := q_Cl.of rfl (q_LvS rfl rfl) (f330_ok hf ⟨rfl, rfl⟩)
/-! SmithyBenchLaw.dropParameter(LSmithyBench;II[J)I -/
theorem qk331 : q_cs.getD 331 [] = qc_331 := rfl
def f331 (l0 : Nat) (l1 : Int32) (l2 : Int32) (l3 : Nat) : m_M Int32 :=
  m_B (m_aK l0 11) (fun _ => m_T (f146 l0 l1 l2) (fun v2 => m_B (m_wJ l3 0 (v2.toInt64)) (fun _ => m_R 0)) (fun E3 => m_B (m_G (E3 < 3)) (fun _ => if E3 = 2 then (m_R 1) else (if E3 = 0 then (m_R 2) else (m_F)))))
theorem f331_ok {l0 : Nat} {l1 : Int32} {l2 : Int32} {l3 : Nat} {h : q_H} {o : q_O} {hz : q_H} {x : Int32 × q_H} (hf : f331 l0 l1 l2 l3 h = some x) (hK : (q_KI o hz) x) : q_Ev none 331 0 [(0, .ref l0), (1, .int l1), (2, .int l2), (3, .ref l3)] [] h o hz := by
  unfold f331 at hf
  refine ev_aload_n (q_cod qk331 rfl) (by decide) rfl ?_
  refine ev_ic (v := 0) (q_cod qk331 rfl) (by decide) (by decide) ?_
  refine ev_aload_n (q_cod qk331 rfl) (by decide) rfl ?_
  refine ev_iload_n (q_cod qk331 rfl) (by decide) rfl ?_
  refine ev_iload_n (q_cod qk331 rfl) (by decide) rfl ?_
  obtain ⟨g1, hf⟩ := m_aK_some hf
  refine em_callC (v := (fun u => some (.int u))) (q_cod qk331 rfl) (by decide) (q_cokV rfl rfl (Or.inr g1)) rfl (fun x e => f146_cl e) hf (fun v2 h hf => ?_) (fun E3 h hf => ?_)
  · refine ev_i2l (q_cod qk331 rfl) (by decide) ?_
    refine em_wJ (q_cod qk331 rfl) (by decide) hf (fun hf => ?_)
    refine ev_goto (q_cod qk331 rfl) (by decide) ?_
    refine ev_ic (v := 0) (q_cod qk331 rfl) (by decide) (by decide) ?_
    obtain rfl := m_R_inv hf
    obtain ⟨rfl, rfl⟩ := (show q_KI o hz (0, _) from hK)
    exact ev_ret (q_cod qk331 rfl) rfl
  · obtain ⟨gE, hf⟩ := m_G_some hf
    rcases m_iteM hf with ⟨c9, hf⟩ | ⟨c9, hf⟩
    · subst c9
      refine ⟨gE, 4, 15, rfl, ?_⟩
      show q_Ev none 331 15 [(0, .ref l0), (1, .int l1), (2, .int l2), (3, .ref l3)] [] _ o hz
      refine ev_ic (v := 1) (q_cod qk331 rfl) (by decide) (by decide) ?_
      obtain rfl := m_R_inv hf
      obtain ⟨rfl, rfl⟩ := (show q_KI o hz (1, _) from hK)
      exact ev_ret (q_cod qk331 rfl) rfl
    rcases m_iteM hf with ⟨c9, hf⟩ | ⟨c9, hf⟩
    · subst c9
      refine ⟨gE, 4, 19, rfl, ?_⟩
      show q_Ev none 331 19 [(0, .ref l0), (1, .int l1), (2, .int l2), (3, .ref l3)] [] _ o hz
      refine ev_ic (v := 2) (q_cod qk331 rfl) (by decide) (by decide) ?_
      obtain rfl := m_R_inv hf
      obtain ⟨rfl, rfl⟩ := (show q_KI o hz (2, _) from hK)
      exact ev_ret (q_cod qk331 rfl) rfl
    cases hf
theorem f331_cl {l0 : Nat} {l1 : Int32} {l2 : Int32} {l3 : Nat} {h : q_H} {x : Int32 × q_H} (hf : f331 l0 l1 l2 l3 h = some x) : q_Cl 331 [.ref l0, .int l1, .int l2, .ref l3] h (.inl (some (.int x.1))) x.2 := q_Cl.of rfl (q_LvS rfl rfl) (f331_ok hf ⟨rfl, rfl⟩)
/-! SmithyBenchLaw.pullUp(LSmithyBench;I[J)I -/
theorem qk332 : q_cs.getD 332 [] = qc_332 := rfl
def f332 (l0 : Nat) (l1 : Int32) (l2 : Nat) : m_M Int32 :=
  m_B (m_aK l0 11) (fun _ => m_T (f147 l0 l1) (fun v2 => m_B (m_wJ l2 0 (v2.toInt64)) (fun _ => m_R 0)) (fun E3 => m_B (m_G (E3 < 3)) (fun _ => if E3 = 2 then (m_R 1) else (if E3 = 0 then (m_R 2) else (m_F)))))
theorem f332_ok {l0 : Nat} {l1 : Int32} {l2 : Nat} {h : q_H} {o : q_O} {hz : q_H} {x : Int32 × q_H} (hf : f332 l0 l1 l2 h = some x) (hK : (q_KI o hz) x) : q_Ev none 332 0 [(0, .ref l0), (1, .int l1), (2, .ref l2)] [] h o hz := by
  unfold f332 at hf
  refine ev_aload_n (q_cod qk332 rfl) (by decide) rfl ?_
  refine ev_ic (v := 0) (q_cod qk332 rfl) (by decide) (by decide) ?_
  refine ev_aload_n (q_cod qk332 rfl) (by decide) rfl ?_
  refine ev_iload_n (q_cod qk332 rfl) (by decide) rfl ?_
  obtain ⟨g1, hf⟩ := m_aK_some hf
  refine em_callC (v := (fun u => some (.int u))) (q_cod qk332 rfl) (by decide) (q_cokV rfl rfl (Or.inr g1)) rfl (fun x e => f147_cl e) hf (fun v2 h hf => ?_) (fun E3 h hf => ?_)
  · refine ev_i2l (q_cod qk332 rfl) (by decide) ?_
    refine em_wJ (q_cod qk332 rfl) (by decide) hf (fun hf => ?_)
    refine ev_goto (q_cod qk332 rfl) (by decide) ?_
    refine ev_ic (v := 0) (q_cod qk332 rfl) (by decide) (by decide) ?_
    obtain rfl := m_R_inv hf
    obtain ⟨rfl, rfl⟩ := (show q_KI o hz (0, _) from hK)
    exact ev_ret (q_cod qk332 rfl) rfl
  · obtain ⟨gE, hf⟩ := m_G_some hf
    rcases m_iteM hf with ⟨c9, hf⟩ | ⟨c9, hf⟩
    · subst c9
      refine ⟨gE, 3, 13, rfl, ?_⟩
      show q_Ev none 332 13 [(0, .ref l0), (1, .int l1), (2, .ref l2)] [] _ o hz
      refine ev_ic (v := 1) (q_cod qk332 rfl) (by decide) (by decide) ?_
      obtain rfl := m_R_inv hf
      obtain ⟨rfl, rfl⟩ := (show q_KI o hz (1, _) from hK)
      exact ev_ret (q_cod qk332 rfl) rfl
    rcases m_iteM hf with ⟨c9, hf⟩ | ⟨c9, hf⟩
    · subst c9
      refine ⟨gE, 3, 16, rfl, ?_⟩
      show q_Ev none 332 16 [(0, .ref l0), (1, .int l1), (2, .ref l2)] [] _ o hz
      refine ev_ic (v := 2) (q_cod qk332 rfl) (by decide) (by decide) ?_
      obtain rfl := m_R_inv hf
      obtain ⟨rfl, rfl⟩ := (show q_KI o hz (2, _) from hK)
      exact ev_ret (q_cod qk332 rfl) rfl
    cases hf
theorem f332_cl {l0 : Nat} {l1 : Int32} {l2 : Nat} {h : q_H} {x : Int32 × q_H} (hf : f332 l0 l1 l2 h = some x) : q_Cl 332 [.ref l0, .int l1, .ref l2] h (.inl (some (.int x.1))) x.2 := q_Cl.of rfl (q_LvS rfl rfl) (f332_ok hf ⟨rfl, rfl⟩)
/-! SmithyBenchLaw.pushDown(LSmithyBench;I[J)I -/
theorem qk333 : q_cs.getD 333 [] = qc_333 := rfl
def f333 (l0 : Nat) (l1 : Int32) (l2 : Nat) : m_M Int32 :=
  m_B (m_aK l0 11) (fun _ => m_T (f148 l0 l1) (fun v2 => m_B (m_wJ l2 0 (v2.toInt64)) (fun _ => m_R 0)) (fun E3 => m_B (m_G (E3 < 3)) (fun _ => if E3 = 2 then (m_R 1) else (if E3 = 0 then (m_R 2) else (m_F)))))
theorem f333_ok {l0 : Nat} {l1 : Int32} {l2 : Nat} {h : q_H} {o : q_O} {hz : q_H} {x : Int32 × q_H} (hf : f333 l0 l1 l2 h = some x) (hK : (q_KI o hz) x) : q_Ev none 333 0 [(0, .ref l0), (1, .int l1), (2, .ref l2)] [] h o hz := by
  unfold f333 at hf
  refine ev_aload_n (q_cod qk333 rfl) (by decide) rfl ?_
  refine ev_ic (v := 0) (q_cod qk333 rfl) (by decide) (by decide) ?_
  refine ev_aload_n (q_cod qk333 rfl) (by decide) rfl ?_
  refine ev_iload_n (q_cod qk333 rfl) (by decide) rfl ?_
  obtain ⟨g1, hf⟩ := m_aK_some hf
  refine em_callC (v := (fun u => some (.int u))) (q_cod qk333 rfl) (by decide) (q_cokV rfl rfl (Or.inr g1)) rfl (fun x e => f148_cl e) hf (fun v2 h hf => ?_) (fun E3 h hf => ?_)
  · refine ev_i2l (q_cod qk333 rfl) (by decide) ?_
    refine em_wJ (q_cod qk333 rfl) (by decide) hf (fun hf => ?_)
    refine ev_goto (q_cod qk333 rfl) (by decide) ?_
    refine ev_ic (v := 0) (q_cod qk333 rfl) (by decide) (by decide) ?_
    obtain rfl := m_R_inv hf
    obtain ⟨rfl, rfl⟩ := (show q_KI o hz (0, _) from hK)
    exact ev_ret (q_cod qk333 rfl) rfl
  · obtain ⟨gE, hf⟩ := m_G_some hf
    rcases m_iteM hf with ⟨c9, hf⟩ | ⟨c9, hf⟩
    · subst c9
      refine ⟨gE, 3, 13, rfl, ?_⟩
      show q_Ev none 333 13 [(0, .ref l0), (1, .int l1), (2, .ref l2)] [] _ o hz
      refine ev_ic (v := 1) (q_cod qk333 rfl) (by decide) (by decide) ?_
      obtain rfl := m_R_inv hf
      obtain ⟨rfl, rfl⟩ := (show q_KI o hz (1, _) from hK)
      exact ev_ret (q_cod qk333 rfl) rfl
    rcases m_iteM hf with ⟨c9, hf⟩ | ⟨c9, hf⟩
    · subst c9
      refine ⟨gE, 3, 16, rfl, ?_⟩
      show q_Ev none 333 16 [(0, .ref l0), (1, .int l1), (2, .ref l2)] [] _ o hz
      refine ev_ic (v := 2) (q_cod qk333 rfl) (by decide) (by decide) ?_
      obtain rfl := m_R_inv hf
      obtain ⟨rfl, rfl⟩ := (show q_KI o hz (2, _) from hK)
      exact ev_ret (q_cod qk333 rfl) rfl
    cases hf
theorem f333_cl {l0 : Nat} {l1 : Int32} {l2 : Nat} {h : q_H} {x : Int32 × q_H} (hf : f333 l0 l1 l2 h = some x) : q_Cl 333 [.ref l0, .int l1, .ref l2] h (.inl (some (.int x.1))) x.2 := q_Cl.of rfl (q_LvS rfl rfl) (f333_ok hf ⟨rfl, rfl⟩)
/-! SmithyBenchLaw.enclose(LSmithyBench;IIII[J)I -/
theorem qk334 : q_cs.getD 334 [] = qc_334 := rfl
def f334 (l0 : Nat) (l1 : Int32) (l2 : Int32) (l3 : Int32) (l4 : Int32) (l5 : Nat) : m_M Int32 :=
  m_B (m_aK l0 11) (fun _ => m_T (f149 l0 l1 l2 l3 l4) (fun v2 => m_B (m_wJ l5 0 (v2.toInt64)) (fun _ => m_R 0)) (fun E3 => m_B (m_G (E3 < 3)) (fun _ => if E3 = 2 then (m_R 1) else (if E3 = 1 then (m_R 2) else (if E3 = 0 then (m_R 3) else (m_F))))))
theorem f334_ok {l0 : Nat} {l1 : Int32} {l2 : Int32} {l3 : Int32} {l4 : Int32} {l5 : Nat} {h : q_H} {o : q_O} {hz : q_H} {x : Int32 × q_H} (hf : f334 l0 l1 l2 l3 l4 l5 h = some x) (hK : (q_KI o hz) x) : q_Ev none 334 0 [(0, .ref l0), (1, .int l1), (2, .int l2), (3, .int l3), (4, .int l4), (5, .ref l5)] [] h o hz := by
  unfold f334 at hf
  refine ev_aload (q_cod qk334 rfl) (by decide) rfl ?_
  refine ev_ic (v := 0) (q_cod qk334 rfl) (by decide) (by decide) ?_
  refine ev_aload_n (q_cod qk334 rfl) (by decide) rfl ?_
  refine ev_iload_n (q_cod qk334 rfl) (by decide) rfl ?_
  refine ev_iload_n (q_cod qk334 rfl) (by decide) rfl ?_
  refine ev_iload_n (q_cod qk334 rfl) (by decide) rfl ?_
  refine ev_iload (q_cod qk334 rfl) (by decide) rfl ?_
  obtain ⟨g1, hf⟩ := m_aK_some hf
  refine em_callC (v := (fun u => some (.int u))) (q_cod qk334 rfl) (by decide) (q_cokV rfl rfl (Or.inr g1)) rfl (fun x e => f149_cl e) hf (fun v2 h hf => ?_) (fun E3 h hf => ?_)
  · refine ev_i2l (q_cod qk334 rfl) (by decide) ?_
    refine em_wJ (q_cod qk334 rfl) (by decide) hf (fun hf => ?_)
    refine ev_goto (q_cod qk334 rfl) (by decide) ?_
    refine ev_ic (v := 0) (q_cod qk334 rfl) (by decide) (by decide) ?_
    obtain rfl := m_R_inv hf
    obtain ⟨rfl, rfl⟩ := (show q_KI o hz (0, _) from hK)
    exact ev_ret (q_cod qk334 rfl) rfl
  · obtain ⟨gE, hf⟩ := m_G_some hf
    rcases m_iteM hf with ⟨c9, hf⟩ | ⟨c9, hf⟩
    · subst c9
      refine ⟨gE, 6, 19, rfl, ?_⟩
      show q_Ev none 334 19 [(0, .ref l0), (1, .int l1), (2, .int l2), (3, .int l3), (4, .int l4), (5, .ref l5)] [] _ o hz
      refine ev_ic (v := 1) (q_cod qk334 rfl) (by decide) (by decide) ?_
      obtain rfl := m_R_inv hf
      obtain ⟨rfl, rfl⟩ := (show q_KI o hz (1, _) from hK)
      exact ev_ret (q_cod qk334 rfl) rfl
    rcases m_iteM hf with ⟨c9, hf⟩ | ⟨c9, hf⟩
    · subst c9
      refine ⟨gE, 6, 23, rfl, ?_⟩
      show q_Ev none 334 23 [(0, .ref l0), (1, .int l1), (2, .int l2), (3, .int l3), (4, .int l4), (5, .ref l5)] [] _ o hz
      refine ev_ic (v := 2) (q_cod qk334 rfl) (by decide) (by decide) ?_
      obtain rfl := m_R_inv hf
      obtain ⟨rfl, rfl⟩ := (show q_KI o hz (2, _) from hK)
      exact ev_ret (q_cod qk334 rfl) rfl
    rcases m_iteM hf with ⟨c9, hf⟩ | ⟨c9, hf⟩
    · subst c9
      refine ⟨gE, 6, 27, rfl, ?_⟩
      show q_Ev none 334 27 [(0, .ref l0), (1, .int l1), (2, .int l2), (3, .int l3), (4, .int l4), (5, .ref l5)] [] _ o hz
      refine ev_ic (v := 3) (q_cod qk334 rfl) (by decide) (by decide) ?_
      obtain rfl := m_R_inv hf
      obtain ⟨rfl, rfl⟩ := (show q_KI o hz (3, _) from hK)
      exact ev_ret (q_cod qk334 rfl) rfl
    cases hf
theorem f334_cl {l0 : Nat} {l1 : Int32} {l2 : Int32} {l3 : Int32} {l4 : Int32} {l5 : Nat} {h : q_H} {x : Int32 × q_H} (hf : f334 l0 l1 l2 l3 l4 l5 h = some x) : q_Cl 334 [.ref l0, .int l1, .int l2, .int l3, .int l4, .ref l5] h (.inl (some (.int x.1))) x.2 := q_Cl.of rfl (q_LvS rfl rfl) (f334_ok hf ⟨rfl, rfl⟩)
/-! SmithyBenchLaw.removeDead(LSmithyBench;I[J)I -/
theorem qk335 : q_cs.getD 335 [] = qc_335 := rfl
def f335 (l0 : Nat) (l1 : Int32) (l2 : Nat) : m_M Int32 :=
  m_B (m_aK l0 11) (fun _ => m_T (f150 l0 l1) (fun v2 => m_B (m_wJ l2 0 (v2.toInt64)) (fun _ => m_R 0)) (fun E3 => m_B (m_G (E3 < 3)) (fun _ => if E3 = 2 then (m_R 1) else (if E3 = 0 then (m_R 2) else (m_F)))))
theorem f335_ok {l0 : Nat} {l1 : Int32} {l2 : Nat} {h : q_H} {o : q_O} {hz : q_H} {x : Int32 × q_H} (hf : f335 l0 l1 l2 h = some x) (hK : (q_KI o hz) x) : q_Ev none 335 0 [(0, .ref l0), (1, .int l1), (2, .ref l2)] [] h o hz := by
  unfold f335 at hf
  refine ev_aload_n (q_cod qk335 rfl) (by decide) rfl ?_
  refine ev_ic (v := 0) (q_cod qk335 rfl) (by decide) (by decide) ?_
  refine ev_aload_n (q_cod qk335 rfl) (by decide) rfl ?_
  refine ev_iload_n (q_cod qk335 rfl) (by decide) rfl ?_
  obtain ⟨g1, hf⟩ := m_aK_some hf
  refine em_callC (v := (fun u => some (.int u))) (q_cod qk335 rfl) (by decide) (q_cokV rfl rfl (Or.inr g1)) rfl (fun x e => f150_cl e) hf (fun v2 h hf => ?_) (fun E3 h hf => ?_)
  · refine ev_i2l (q_cod qk335 rfl) (by decide) ?_
    refine em_wJ (q_cod qk335 rfl) (by decide) hf (fun hf => ?_)
    refine ev_goto (q_cod qk335 rfl) (by decide) ?_
    refine ev_ic (v := 0) (q_cod qk335 rfl) (by decide) (by decide) ?_
    obtain rfl := m_R_inv hf
    obtain ⟨rfl, rfl⟩ := (show q_KI o hz (0, _) from hK)
    exact ev_ret (q_cod qk335 rfl) rfl
  · obtain ⟨gE, hf⟩ := m_G_some hf
    rcases m_iteM hf with ⟨c9, hf⟩ | ⟨c9, hf⟩
    · subst c9
      refine ⟨gE, 3, 13, rfl, ?_⟩
      show q_Ev none 335 13 [(0, .ref l0), (1, .int l1), (2, .ref l2)] [] _ o hz
      refine ev_ic (v := 1) (q_cod qk335 rfl) (by decide) (by decide) ?_
      obtain rfl := m_R_inv hf
      obtain ⟨rfl, rfl⟩ := (show q_KI o hz (1, _) from hK)
      exact ev_ret (q_cod qk335 rfl) rfl
    rcases m_iteM hf with ⟨c9, hf⟩ | ⟨c9, hf⟩
    · subst c9
      refine ⟨gE, 3, 16, rfl, ?_⟩
      show q_Ev none 335 16 [(0, .ref l0), (1, .int l1), (2, .ref l2)] [] _ o hz
      refine ev_ic (v := 2) (q_cod qk335 rfl) (by decide) (by decide) ?_
      obtain rfl := m_R_inv hf
      obtain ⟨rfl, rfl⟩ := (show q_KI o hz (2, _) from hK)
      exact ev_ret (q_cod qk335 rfl) rfl
    cases hf
theorem f335_cl {l0 : Nat} {l1 : Int32} {l2 : Nat} {h : q_H} {x : Int32 × q_H} (hf : f335 l0 l1 l2 h = some x) : q_Cl 335 [.ref l0, .int l1, .ref l2] h (.inl (some (.int x.1))) x.2 := q_Cl.of rfl (q_LvS rfl rfl) (f335_ok hf ⟨rfl, rfl⟩)
/-! SmithyBenchLaw.undo(LSmithyBench;[J)I -/
theorem qk336 : q_cs.getD 336 [] = qc_336 := rfl
def f336 (l0 : Nat) (l1 : Nat) : m_M Int32 :=
  m_B (m_aK l0 11) (fun _ => m_T (f151 l0) (fun v2 => m_B (m_wJ l1 0 (v2.toInt64)) (fun _ => m_R 0)) (fun E3 => m_B (m_G (E3 < 3)) (fun _ => if E3 = 0 then (m_R 1) else (m_F))))
theorem f336_ok {l0 : Nat} {l1 : Nat} {h : q_H} {o : q_O} {hz : q_H} {x : Int32 × q_H} (hf : f336 l0 l1 h = some x) (hK : (q_KI o hz) x) : q_Ev none 336 0 [(0, .ref l0), (1, .ref l1)] [] h o hz := by
  unfold f336 at hf
  refine ev_aload_n (q_cod qk336 rfl) (by decide) rfl ?_
  refine ev_ic (v := 0) (q_cod qk336 rfl) (by decide) (by decide) ?_
  refine ev_aload_n (q_cod qk336 rfl) (by decide) rfl ?_
  obtain ⟨g1, hf⟩ := m_aK_some hf
  refine em_callC (v := (fun u => some (.int u))) (q_cod qk336 rfl) (by decide) (q_cokV rfl rfl (Or.inr g1)) rfl (fun x e => f151_cl e) hf (fun v2 h hf => ?_) (fun E3 h hf => ?_)
  · refine ev_i2l (q_cod qk336 rfl) (by decide) ?_
    refine em_wJ (q_cod qk336 rfl) (by decide) hf (fun hf => ?_)
    refine ev_goto (q_cod qk336 rfl) (by decide) ?_
    refine ev_ic (v := 0) (q_cod qk336 rfl) (by decide) (by decide) ?_
    obtain rfl := m_R_inv hf
    obtain ⟨rfl, rfl⟩ := (show q_KI o hz (0, _) from hK)
    exact ev_ret (q_cod qk336 rfl) rfl
  · obtain ⟨gE, hf⟩ := m_G_some hf
    rcases m_iteM hf with ⟨c9, hf⟩ | ⟨c9, hf⟩
    · subst c9
      refine ⟨gE, 2, 12, rfl, ?_⟩
      show q_Ev none 336 12 [(0, .ref l0), (1, .ref l1)] [] _ o hz
      refine ev_ic (v := 1) (q_cod qk336 rfl) (by decide) (by decide) ?_
      obtain rfl := m_R_inv hf
      obtain ⟨rfl, rfl⟩ := (show q_KI o hz (1, _) from hK)
      exact ev_ret (q_cod qk336 rfl) rfl
    cases hf
theorem f336_cl {l0 : Nat} {l1 : Nat} {h : q_H} {x : Int32 × q_H} (hf : f336 l0 l1 h = some x) : q_Cl 336 [.ref l0, .ref l1] h (.inl (some (.int x.1))) x.2 := q_Cl.of rfl (q_LvS rfl rfl) (f336_ok hf ⟨rfl, rfl⟩)
/-! SmithyBenchLaw.tell(LSmithyBench;II[J)I -/
theorem qk337 : q_cs.getD 337 [] = qc_337 := rfl
def f337 (l0 : Nat) (l1 : Int32) (l2 : Int32) (l3 : Nat) : m_M Int32 :=
  m_B (m_aK l0 11) (fun _ => m_T (f152 l0 l1 l2) (fun v2 => m_B (m_wJ l3 0 (v2.toInt64)) (fun _ => m_R 0)) (fun E3 => m_B (m_G (E3 < 3)) (fun _ => if E3 = 2 then (m_R 1) else (if E3 = 1 then (m_R 2) else (m_F)))))
theorem f337_ok {l0 : Nat} {l1 : Int32} {l2 : Int32} {l3 : Nat} {h : q_H} {o : q_O} {hz : q_H} {x : Int32 × q_H} (hf : f337 l0 l1 l2 l3 h = some x) (hK : (q_KI o hz) x) : q_Ev none 337 0 [(0, .ref l0), (1, .int l1), (2, .int l2), (3, .ref l3)] [] h o hz := by
  unfold f337 at hf
  refine ev_aload_n (q_cod qk337 rfl) (by decide) rfl ?_
  refine ev_ic (v := 0) (q_cod qk337 rfl) (by decide) (by decide) ?_
  refine ev_aload_n (q_cod qk337 rfl) (by decide) rfl ?_
  refine ev_iload_n (q_cod qk337 rfl) (by decide) rfl ?_
  refine ev_iload_n (q_cod qk337 rfl) (by decide) rfl ?_
  obtain ⟨g1, hf⟩ := m_aK_some hf
  refine em_callC (v := (fun u => some (.int u))) (q_cod qk337 rfl) (by decide) (q_cokV rfl rfl (Or.inr g1)) rfl (fun x e => f152_cl e) hf (fun v2 h hf => ?_) (fun E3 h hf => ?_)
  · refine ev_i2l (q_cod qk337 rfl) (by decide) ?_
    refine em_wJ (q_cod qk337 rfl) (by decide) hf (fun hf => ?_)
    refine ev_goto (q_cod qk337 rfl) (by decide) ?_
    refine ev_ic (v := 0) (q_cod qk337 rfl) (by decide) (by decide) ?_
    obtain rfl := m_R_inv hf
    obtain ⟨rfl, rfl⟩ := (show q_KI o hz (0, _) from hK)
    exact ev_ret (q_cod qk337 rfl) rfl
  · obtain ⟨gE, hf⟩ := m_G_some hf
    rcases m_iteM hf with ⟨c9, hf⟩ | ⟨c9, hf⟩
    · subst c9
      refine ⟨gE, 4, 15, rfl, ?_⟩
      show q_Ev none 337 15 [(0, .ref l0), (1, .int l1), (2, .int l2), (3, .ref l3)] [] _ o hz
      refine ev_ic (v := 1) (q_cod qk337 rfl) (by decide) (by decide) ?_
      obtain rfl := m_R_inv hf
      obtain ⟨rfl, rfl⟩ := (show q_KI o hz (1, _) from hK)
      exact ev_ret (q_cod qk337 rfl) rfl
    rcases m_iteM hf with ⟨c9, hf⟩ | ⟨c9, hf⟩
    · subst c9
      refine ⟨gE, 4, 19, rfl, ?_⟩
      show q_Ev none 337 19 [(0, .ref l0), (1, .int l1), (2, .int l2), (3, .ref l3)] [] _ o hz
      refine ev_ic (v := 2) (q_cod qk337 rfl) (by decide) (by decide) ?_
      obtain rfl := m_R_inv hf
      obtain ⟨rfl, rfl⟩ := (show q_KI o hz (2, _) from hK)
      exact ev_ret (q_cod qk337 rfl) rfl
    cases hf
theorem f337_cl {l0 : Nat} {l1 : Int32} {l2 : Int32} {l3 : Nat} {h : q_H} {x : Int32 × q_H} (hf : f337 l0 l1 l2 l3 h = some x) : q_Cl 337 [.ref l0, .int l1, .int l2, .ref l3] h (.inl (some (.int x.1))) x.2 := q_Cl.of rfl (q_LvS rfl rfl) (f337_ok hf ⟨rfl, rfl⟩)
/-! SmithyBenchLaw.node(LSmithyBench;III[J)I -/
theorem qk338 : q_cs.getD 338 [] = qc_338 := rfl
def f338 (l0 : Nat) (l1 : Int32) (l2 : Int32) (l3 : Int32) (l4 : Nat) : m_M Int32 :=
  m_B (m_aK l0 11) (fun _ => m_T (f153 l0 l1 l2 l3) (fun v2 => m_B (m_wJ l4 0 (v2.toInt64)) (fun _ => m_R 0)) (fun E3 => m_B (m_G (E3 < 3)) (fun _ => if E3 = 2 then (m_R 1) else (if E3 = 1 then (m_R 2) else (m_F)))))
theorem f338_ok {l0 : Nat} {l1 : Int32} {l2 : Int32} {l3 : Int32} {l4 : Nat} {h : q_H} {o : q_O} {hz : q_H} {x : Int32 × q_H} (hf : f338 l0 l1 l2 l3 l4 h = some x) (hK : (q_KI o hz) x) : q_Ev none 338 0 [(0, .ref l0), (1, .int l1), (2, .int l2), (3, .int l3), (4, .ref l4)] [] h o hz := by
  unfold f338 at hf
  refine ev_aload (q_cod qk338 rfl) (by decide) rfl ?_
  refine ev_ic (v := 0) (q_cod qk338 rfl) (by decide) (by decide) ?_
  refine ev_aload_n (q_cod qk338 rfl) (by decide) rfl ?_
  refine ev_iload_n (q_cod qk338 rfl) (by decide) rfl ?_
  refine ev_iload_n (q_cod qk338 rfl) (by decide) rfl ?_
  refine ev_iload_n (q_cod qk338 rfl) (by decide) rfl ?_
  obtain ⟨g1, hf⟩ := m_aK_some hf
  refine em_callC (v := (fun u => some (.int u))) (q_cod qk338 rfl) (by decide) (q_cokV rfl rfl (Or.inr g1)) rfl (fun x e => f153_cl e) hf (fun v2 h hf => ?_) (fun E3 h hf => ?_)
  · refine ev_i2l (q_cod qk338 rfl) (by decide) ?_
    refine em_wJ (q_cod qk338 rfl) (by decide) hf (fun hf => ?_)
    refine ev_goto (q_cod qk338 rfl) (by decide) ?_
    refine ev_ic (v := 0) (q_cod qk338 rfl) (by decide) (by decide) ?_
    obtain rfl := m_R_inv hf
    obtain ⟨rfl, rfl⟩ := (show q_KI o hz (0, _) from hK)
    exact ev_ret (q_cod qk338 rfl) rfl
  · obtain ⟨gE, hf⟩ := m_G_some hf
    rcases m_iteM hf with ⟨c9, hf⟩ | ⟨c9, hf⟩
    · subst c9
      refine ⟨gE, 5, 17, rfl, ?_⟩
      show q_Ev none 338 17 [(0, .ref l0), (1, .int l1), (2, .int l2), (3, .int l3), (4, .ref l4)] [] _ o hz
      refine ev_ic (v := 1) (q_cod qk338 rfl) (by decide) (by decide) ?_
      obtain rfl := m_R_inv hf
      obtain ⟨rfl, rfl⟩ := (show q_KI o hz (1, _) from hK)
      exact ev_ret (q_cod qk338 rfl) rfl
    rcases m_iteM hf with ⟨c9, hf⟩ | ⟨c9, hf⟩
    · subst c9
      refine ⟨gE, 5, 21, rfl, ?_⟩
      show q_Ev none 338 21 [(0, .ref l0), (1, .int l1), (2, .int l2), (3, .int l3), (4, .ref l4)] [] _ o hz
      refine ev_ic (v := 2) (q_cod qk338 rfl) (by decide) (by decide) ?_
      obtain rfl := m_R_inv hf
      obtain ⟨rfl, rfl⟩ := (show q_KI o hz (2, _) from hK)
      exact ev_ret (q_cod qk338 rfl) rfl
    cases hf
theorem f338_cl {l0 : Nat} {l1 : Int32} {l2 : Int32} {l3 : Int32} {l4 : Nat} {h : q_H} {x : Int32 × q_H} (hf : f338 l0 l1 l2 l3 l4 h = some x) : q_Cl 338 [.ref l0, .int l1, .int l2, .int l3, .ref l4] h (.inl (some (.int x.1))) x.2 := q_Cl.of rfl (q_LvS rfl rfl) (f338_ok hf ⟨rfl, rfl⟩)
/-! SmithyBenchLaw.run(LSmithyBench;IIIIZ[J)I -/
theorem qk339 : q_cs.getD 339 [] = qc_339 := rfl
def f339 (l0 : Nat) (l1 : Int32) (l2 : Int32) (l3 : Int32) (l4 : Int32) (l5 : Int32) (l6 : Nat) : m_M Int32 :=
  m_B (m_aK l0 11) (fun _ => m_T (f154 l0 l1 l2 l3 l4 l5) (fun v2 => m_B (m_wJ l6 0 (v2.toInt64)) (fun _ => m_R 0)) (fun E3 => m_B (m_G (E3 < 3)) (fun _ => if E3 = 2 then (m_R 1) else (if E3 = 1 then (m_R 2) else (if E3 = 0 then (m_R 3) else (m_F))))))
theorem f339_ok {l0 : Nat} {l1 : Int32} {l2 : Int32} {l3 : Int32} {l4 : Int32} {l5 : Int32} {l6 : Nat} {h : q_H} {o : q_O} {hz : q_H} {x : Int32 × q_H} (hf : f339 l0 l1 l2 l3 l4 l5 l6 h = some x) (hK : (q_KI o hz) x) : q_Ev none 339 0 [(0, .ref l0), (1, .int l1), (2, .int l2), (3, .int l3), (4, .int l4), (5, .int l5), (6, .ref l6)] [] h o hz := by
  unfold f339 at hf
  refine ev_aload (q_cod qk339 rfl) (by decide) rfl ?_
  refine ev_ic (v := 0) (q_cod qk339 rfl) (by decide) (by decide) ?_
  refine ev_aload_n (q_cod qk339 rfl) (by decide) rfl ?_
  refine ev_iload_n (q_cod qk339 rfl) (by decide) rfl ?_
  refine ev_iload_n (q_cod qk339 rfl) (by decide) rfl ?_
  refine ev_iload_n (q_cod qk339 rfl) (by decide) rfl ?_
  refine ev_iload (q_cod qk339 rfl) (by decide) rfl ?_
  refine ev_iload (q_cod qk339 rfl) (by decide) rfl ?_
  obtain ⟨g1, hf⟩ := m_aK_some hf
  refine em_callC (v := (fun u => some (.int u))) (q_cod qk339 rfl) (by decide) (q_cokV rfl rfl (Or.inr g1)) rfl (fun x e => f154_cl e) hf (fun v2 h hf => ?_) (fun E3 h hf => ?_)
  · refine ev_i2l (q_cod qk339 rfl) (by decide) ?_
    refine em_wJ (q_cod qk339 rfl) (by decide) hf (fun hf => ?_)
    refine ev_goto (q_cod qk339 rfl) (by decide) ?_
    refine ev_ic (v := 0) (q_cod qk339 rfl) (by decide) (by decide) ?_
    obtain rfl := m_R_inv hf
    obtain ⟨rfl, rfl⟩ := (show q_KI o hz (0, _) from hK)
    exact ev_ret (q_cod qk339 rfl) rfl
  · obtain ⟨gE, hf⟩ := m_G_some hf
    rcases m_iteM hf with ⟨c9, hf⟩ | ⟨c9, hf⟩
    · subst c9
      refine ⟨gE, 7, 21, rfl, ?_⟩
      show q_Ev none 339 21 [(0, .ref l0), (1, .int l1), (2, .int l2), (3, .int l3), (4, .int l4), (5, .int l5), (6, .ref l6)] [] _ o hz
      refine ev_ic (v := 1) (q_cod qk339 rfl) (by decide) (by decide) ?_
      obtain rfl := m_R_inv hf
      obtain ⟨rfl, rfl⟩ := (show q_KI o hz (1, _) from hK)
      exact ev_ret (q_cod qk339 rfl) rfl
    rcases m_iteM hf with ⟨c9, hf⟩ | ⟨c9, hf⟩
    · subst c9
      refine ⟨gE, 7, 25, rfl, ?_⟩
      show q_Ev none 339 25 [(0, .ref l0), (1, .int l1), (2, .int l2), (3, .int l3), (4, .int l4), (5, .int l5), (6, .ref l6)] [] _ o hz
      refine ev_ic (v := 2) (q_cod qk339 rfl) (by decide) (by decide) ?_
      obtain rfl := m_R_inv hf
      obtain ⟨rfl, rfl⟩ := (show q_KI o hz (2, _) from hK)
      exact ev_ret (q_cod qk339 rfl) rfl
    rcases m_iteM hf with ⟨c9, hf⟩ | ⟨c9, hf⟩
    · subst c9
      refine ⟨gE, 7, 29, rfl, ?_⟩
      show q_Ev none 339 29 [(0, .ref l0), (1, .int l1), (2, .int l2), (3, .int l3), (4, .int l4), (5, .int l5), (6, .ref l6)] [] _ o hz
      refine ev_ic (v := 3) (q_cod qk339 rfl) (by decide) (by decide) ?_
      obtain rfl := m_R_inv hf
      obtain ⟨rfl, rfl⟩ := (show q_KI o hz (3, _) from hK)
      exact ev_ret (q_cod qk339 rfl) rfl
    cases hf
theorem f339_cl {l0 : Nat} {l1 : Int32} {l2 : Int32} {l3 : Int32} {l4 : Int32} {l5 : Int32} {l6 : Nat} {h : q_H} {x : Int32 × q_H} (hf : f339 l0 l1 l2 l3 l4 l5 l6 h = some x) : q_Cl 339 [.ref l0, .int l1, .int l2, .int l3, .int l4, .int l5, .ref l6] h (.inl (some (.int x.1))) x.2 := q_Cl.of rfl (q_LvS rfl rfl) (f339_ok hf ⟨rfl, rfl⟩)
/-! SmithyBenchLaw.law([I)Z -/
theorem qk340 : q_cs.getD 340 [] = qc_340 := rfl
def f340_2363 (Ln : Nat) (xs : Nat → Int32) : m_M Int32 :=
  m_R 1
set_option maxRecDepth 20000 in
theorem f340_2363_ok {Ln : Nat} {xs : Nat → Int32} {h : q_H} {o : q_O} {hz : q_H} {x : Int32 × q_H} (hf : f340_2363 Ln xs h = some x) (hK : (q_KI o hz) x) : q_Ev (some (Ln, xs)) 340 2363 [] [] h o hz := by
  unfold f340_2363 at hf
  refine ev_ic (v := 1) (q_cod qk340 rfl) (by decide) (by decide) ?_
  obtain rfl := m_R_inv hf
  obtain ⟨rfl, rfl⟩ := (show q_KI o hz (1, _) from hK)
  exact ev_ret (q_cod qk340 rfl) rfl
def f340_2357 (Ln : Nat) (xs : Nat → Int32) (l1 : Nat) (l2 : Nat) (l3 : Nat) (l4 : Int32) : m_M ((Nat × Nat × Nat × Int32) ⊕ Int32) :=
  m_R (.inl (l1, l2, l3, (l4 + 7)))
set_option maxRecDepth 20000 in
theorem f340_2357_ok {Ln : Nat} {xs : Nat → Int32} {l1 : Nat} {l2 : Nat} {l3 : Nat} {l4 : Int32} {h : q_H} {o : q_O} {hz : q_H} {x : ((Nat × Nat × Nat × Int32) ⊕ Int32) × q_H} (hf : f340_2357 Ln xs l1 l2 l3 l4 h = some x) (hK : (m_yK (fun (s : Nat × Nat × Nat × Int32) (h : q_H) => q_Ev (some (Ln, xs)) 340 23 [(0, .ref q_SC), (1, .ref (s.1)), (2, .ref (s.2.1)), (3, .ref (s.2.2.1)), (4, .int (s.2.2.2))] [] h o hz) (q_KI o hz)) x) : q_Ev (some (Ln, xs)) 340 2357 [(0, .ref q_SC), (1, .ref l1), (2, .ref l2), (3, .ref l3), (4, .int l4)] [] h o hz := by
  unfold f340_2357 at hf
  refine ev_inc (v := l4 + 7) (L' := [(0, .ref q_SC), (1, .ref l1), (2, .ref l2), (3, .ref l3), (4, .int (l4 + 7))]) (q_cod qk340 rfl) (by decide) rfl rfl rfl ?_
  refine ev_goto (q_cod qk340 rfl) (by decide) ?_
  obtain rfl := m_R_inv hf
  exact (show q_Ev (some (Ln, xs)) 340 23 [(0, .ref q_SC), (1, .ref l1), (2, .ref l2), (3, .ref l3), (4, .int (l4 + 7))] [] _ o hz from hK)
def f340_241 (Ln : Nat) (xs : Nat → Int32) (l1 : Nat) (l2 : Nat) (l3 : Nat) (l4 : Int32) : m_M ((Nat × Nat × Nat × Int32) ⊕ Int32) :=
  f340_2357 Ln xs l1 l2 l3 l4
set_option maxRecDepth 20000 in
theorem f340_241_ok {Ln : Nat} {xs : Nat → Int32} {l1 : Nat} {l2 : Nat} {l3 : Nat} {l4 : Int32} {h : q_H} {o : q_O} {hz : q_H} {x : ((Nat × Nat × Nat × Int32) ⊕ Int32) × q_H} (hf : f340_241 Ln xs l1 l2 l3 l4 h = some x) (hK : (m_yK (fun (s : Nat × Nat × Nat × Int32) (h : q_H) => q_Ev (some (Ln, xs)) 340 23 [(0, .ref q_SC), (1, .ref (s.1)), (2, .ref (s.2.1)), (3, .ref (s.2.2.1)), (4, .int (s.2.2.2))] [] h o hz) (q_KI o hz)) x) : q_Ev (some (Ln, xs)) 340 241 [(0, .ref q_SC), (1, .ref l1), (2, .ref l2), (3, .ref l3), (4, .int l4)] [] h o hz := by
  unfold f340_241 at hf
  refine ev_goto (q_cod qk340 rfl) (by decide) ?_
  exact (f340_2357_ok hf hK)
def f340_239 (Ln : Nat) (xs : Nat → Int32) : m_M Int32 :=
  m_R 0
set_option maxRecDepth 20000 in
theorem f340_239_ok {Ln : Nat} {xs : Nat → Int32} {h : q_H} {o : q_O} {hz : q_H} {x : Int32 × q_H} (hf : f340_239 Ln xs h = some x) (hK : (q_KI o hz) x) : q_Ev (some (Ln, xs)) 340 239 [] [] h o hz := by
  unfold f340_239 at hf
  refine ev_ic (v := 0) (q_cod qk340 rfl) (by decide) (by decide) ?_
  obtain rfl := m_R_inv hf
  obtain ⟨rfl, rfl⟩ := (show q_KI o hz (0, _) from hK)
  exact ev_ret (q_cod qk340 rfl) rfl
def f340_222 (Ln : Nat) (xs : Nat → Int32) : m_M Int32 :=
  m_R 0
set_option maxRecDepth 20000 in
theorem f340_222_ok {Ln : Nat} {xs : Nat → Int32} {h : q_H} {o : q_O} {hz : q_H} {x : Int32 × q_H} (hf : f340_222 Ln xs h = some x) (hK : (q_KI o hz) x) : q_Ev (some (Ln, xs)) 340 222 [] [] h o hz := by
  unfold f340_222 at hf
  refine ev_ic (v := 0) (q_cod qk340 rfl) (by decide) (by decide) ?_
  obtain rfl := m_R_inv hf
  obtain ⟨rfl, rfl⟩ := (show q_KI o hz (0, _) from hK)
  exact ev_ret (q_cod qk340 rfl) rfl
def f340_188 (Ln : Nat) (xs : Nat → Int32) (l1 : Nat) (l2 : Nat) (l3 : Nat) (l4 : Int32) : m_M ((Nat × Nat × Nat × Int32) ⊕ Int32) :=
  m_B (m_G (q_ins (l4 + 1) Ln = true)) (fun _ => m_B (f310 l1 (xs (l4 + 1).toNatClampNeg) l3) (fun v2 => m_B (m_G (q_ins (l4 + 1) Ln = true)) (fun _ => m_B (m_aK l2 12) (fun _ => m_B (f185 l2 (xs (l4 + 1).toNatClampNeg)) (fun v5 => m_B (m_aK l2 12) (fun _ => m_B (f177 l2) (fun v7 => if v7 = v2 then (if v2 = 0 then (m_B (m_lJ l3 0) (fun v8 => if (lg_cmp v8 (v5.toInt64)) = 0 then (f340_241 Ln xs l1 l2 l3 l4) else (m_B (f340_239 Ln xs) (fun r => m_R (.inr r))))) else (f340_241 Ln xs l1 l2 l3 l4)) else (m_B (f340_222 Ln xs) (fun r => m_R (.inr r))))))))))
set_option maxRecDepth 20000 in
theorem f340_188_ok {Ln : Nat} {xs : Nat → Int32} {l1 : Nat} {l2 : Nat} {l3 : Nat} {l4 : Int32} {h : q_H} {o : q_O} {hz : q_H} {x : ((Nat × Nat × Nat × Int32) ⊕ Int32) × q_H} (hf : f340_188 Ln xs l1 l2 l3 l4 h = some x) (hK : (m_yK (fun (s : Nat × Nat × Nat × Int32) (h : q_H) => q_Ev (some (Ln, xs)) 340 23 [(0, .ref q_SC), (1, .ref (s.1)), (2, .ref (s.2.1)), (3, .ref (s.2.2.1)), (4, .int (s.2.2.2))] [] h o hz) (q_KI o hz)) x) : q_Ev (some (Ln, xs)) 340 188 [(0, .ref q_SC), (1, .ref l1), (2, .ref l2), (3, .ref l3), (4, .int l4)] [] h o hz := by
  unfold f340_188 at hf
  refine ev_aload_n (q_cod qk340 rfl) (by decide) rfl ?_
  refine ev_aload_n (q_cod qk340 rfl) (by decide) rfl ?_
  refine ev_iload (q_cod qk340 rfl) (by decide) rfl ?_
  refine ev_ic (v := 1) (q_cod qk340 rfl) (by decide) (by decide) ?_
  refine ev_iadd (q_cod qk340 rfl) (by decide) ?_
  refine em_sald (q_cod qk340 rfl) (by decide) hf (fun hf => ?_)
  refine ev_aload_n (q_cod qk340 rfl) (by decide) rfl ?_
  refine em_call (v := (fun u => some (.int u))) (q_cod qk340 rfl) rfl rfl (q_cokS rfl rfl) rfl (fun x e => f310_cl e) hf (fun v2 h hf => ?_)
  refine ev_is2 (L' := [(0, .ref q_SC), (1, .ref l1), (2, .ref l2), (3, .ref l3), (4, .int l4), (5, .int v2)]) (q_cod qk340 rfl) (by decide) rfl ?_
  refine ev_aload_n (q_cod qk340 rfl) (by decide) rfl ?_
  refine ev_aload_n (q_cod qk340 rfl) (by decide) rfl ?_
  refine ev_iload (q_cod qk340 rfl) (by decide) rfl ?_
  refine ev_ic (v := 1) (q_cod qk340 rfl) (by decide) (by decide) ?_
  refine ev_iadd (q_cod qk340 rfl) (by decide) ?_
  refine em_sald (q_cod qk340 rfl) (by decide) hf (fun hf => ?_)
  obtain ⟨g4, hf⟩ := m_aK_some hf
  refine em_call (v := (fun u => some (.int u))) (q_cod qk340 rfl) rfl rfl (q_cokV rfl rfl (Or.inr g4)) rfl (fun x e => f185_cl e) hf (fun v5 h hf => ?_)
  refine ev_is2 (L' := [(0, .ref q_SC), (1, .ref l1), (2, .ref l2), (3, .ref l3), (4, .int l4), (5, .int v2), (6, .int v5)]) (q_cod qk340 rfl) (by decide) rfl ?_
  refine ev_aload_n (q_cod qk340 rfl) (by decide) rfl ?_
  obtain ⟨g6, hf⟩ := m_aK_some hf
  refine em_call (v := (fun u => some (.int u))) (q_cod qk340 rfl) rfl rfl (q_cokV rfl rfl (Or.inr g6)) rfl (fun x e => f177_cl e) hf (fun v7 h hf => ?_)
  refine ev_iload (q_cod qk340 rfl) (by decide) rfl ?_
  refine em_ic_eq (q_cod qk340 rfl) (by decide) hf (fun c11 hf => ?_) (fun c11 hf => ?_)
  · refine ev_iload (q_cod qk340 rfl) (by decide) rfl ?_
    refine em_if_ne (q_cod qk340 rfl) (by decide) hf (fun c10 hf => ?_) (fun c10 hf => ?_)
    · refine ev_aload_n (q_cod qk340 rfl) (by decide) rfl ?_
      refine ev_ic (v := 0) (q_cod qk340 rfl) (by decide) (by decide) ?_
      refine em_lJ (q_cod qk340 rfl) (by decide) hf (fun v8 hf => ?_)
      refine ev_iload (q_cod qk340 rfl) (by decide) rfl ?_
      refine ev_i2l (q_cod qk340 rfl) (by decide) ?_
      refine ev_lcmp (q_cod qk340 rfl) (by decide) ?_
      refine em_if_eq (q_cod qk340 rfl) (by decide) hf (fun c9 hf => ?_) (fun c9 hf => ?_)
      · exact ev_weak (q_pk [0, 1, 2, 3, 4] rfl) (f340_241_ok hf hK)
      · obtain ⟨y0, hf0, hx⟩ := m_inr_some hf
        subst hx
        exact ev_weak (q_pk [] rfl) (f340_239_ok hf0 hK)
    · exact ev_weak (q_pk [0, 1, 2, 3, 4] rfl) (f340_241_ok hf hK)
  · obtain ⟨y0, hf0, hx⟩ := m_inr_some hf
    subst hx
    exact ev_weak (q_pk [] rfl) (f340_222_ok hf0 hK)
def f340_297 (Ln : Nat) (xs : Nat → Int32) (l1 : Nat) (l2 : Nat) (l3 : Nat) (l4 : Int32) : m_M ((Nat × Nat × Nat × Int32) ⊕ Int32) :=
  f340_2357 Ln xs l1 l2 l3 l4
set_option maxRecDepth 20000 in
theorem f340_297_ok {Ln : Nat} {xs : Nat → Int32} {l1 : Nat} {l2 : Nat} {l3 : Nat} {l4 : Int32} {h : q_H} {o : q_O} {hz : q_H} {x : ((Nat × Nat × Nat × Int32) ⊕ Int32) × q_H} (hf : f340_297 Ln xs l1 l2 l3 l4 h = some x) (hK : (m_yK (fun (s : Nat × Nat × Nat × Int32) (h : q_H) => q_Ev (some (Ln, xs)) 340 23 [(0, .ref q_SC), (1, .ref (s.1)), (2, .ref (s.2.1)), (3, .ref (s.2.2.1)), (4, .int (s.2.2.2))] [] h o hz) (q_KI o hz)) x) : q_Ev (some (Ln, xs)) 340 297 [(0, .ref q_SC), (1, .ref l1), (2, .ref l2), (3, .ref l3), (4, .int l4)] [] h o hz := by
  unfold f340_297 at hf
  refine ev_goto (q_cod qk340 rfl) (by decide) ?_
  exact (f340_2357_ok hf hK)
def f340_295 (Ln : Nat) (xs : Nat → Int32) : m_M Int32 :=
  m_R 0
set_option maxRecDepth 20000 in
theorem f340_295_ok {Ln : Nat} {xs : Nat → Int32} {h : q_H} {o : q_O} {hz : q_H} {x : Int32 × q_H} (hf : f340_295 Ln xs h = some x) (hK : (q_KI o hz) x) : q_Ev (some (Ln, xs)) 340 295 [] [] h o hz := by
  unfold f340_295 at hf
  refine ev_ic (v := 0) (q_cod qk340 rfl) (by decide) (by decide) ?_
  obtain rfl := m_R_inv hf
  obtain ⟨rfl, rfl⟩ := (show q_KI o hz (0, _) from hK)
  exact ev_ret (q_cod qk340 rfl) rfl
def f340_278 (Ln : Nat) (xs : Nat → Int32) : m_M Int32 :=
  m_R 0
set_option maxRecDepth 20000 in
theorem f340_278_ok {Ln : Nat} {xs : Nat → Int32} {h : q_H} {o : q_O} {hz : q_H} {x : Int32 × q_H} (hf : f340_278 Ln xs h = some x) (hK : (q_KI o hz) x) : q_Ev (some (Ln, xs)) 340 278 [] [] h o hz := by
  unfold f340_278 at hf
  refine ev_ic (v := 0) (q_cod qk340 rfl) (by decide) (by decide) ?_
  obtain rfl := m_R_inv hf
  obtain ⟨rfl, rfl⟩ := (show q_KI o hz (0, _) from hK)
  exact ev_ret (q_cod qk340 rfl) rfl
def f340_244 (Ln : Nat) (xs : Nat → Int32) (l1 : Nat) (l2 : Nat) (l3 : Nat) (l4 : Int32) : m_M ((Nat × Nat × Nat × Int32) ⊕ Int32) :=
  m_B (m_G (q_ins (l4 + 1) Ln = true)) (fun _ => m_B (f311 l1 (xs (l4 + 1).toNatClampNeg) l3) (fun v2 => m_B (m_G (q_ins (l4 + 1) Ln = true)) (fun _ => m_B (m_aK l2 12) (fun _ => m_B (f186 l2 (xs (l4 + 1).toNatClampNeg)) (fun v5 => m_B (m_aK l2 12) (fun _ => m_B (f177 l2) (fun v7 => if v7 = v2 then (if v2 = 0 then (m_B (m_lJ l3 0) (fun v8 => if (lg_cmp v8 (v5.toInt64)) = 0 then (f340_297 Ln xs l1 l2 l3 l4) else (m_B (f340_295 Ln xs) (fun r => m_R (.inr r))))) else (f340_297 Ln xs l1 l2 l3 l4)) else (m_B (f340_278 Ln xs) (fun r => m_R (.inr r))))))))))
set_option maxRecDepth 20000 in
theorem f340_244_ok {Ln : Nat} {xs : Nat → Int32} {l1 : Nat} {l2 : Nat} {l3 : Nat} {l4 : Int32} {h : q_H} {o : q_O} {hz : q_H} {x : ((Nat × Nat × Nat × Int32) ⊕ Int32) × q_H} (hf : f340_244 Ln xs l1 l2 l3 l4 h = some x) (hK : (m_yK (fun (s : Nat × Nat × Nat × Int32) (h : q_H) => q_Ev (some (Ln, xs)) 340 23 [(0, .ref q_SC), (1, .ref (s.1)), (2, .ref (s.2.1)), (3, .ref (s.2.2.1)), (4, .int (s.2.2.2))] [] h o hz) (q_KI o hz)) x) : q_Ev (some (Ln, xs)) 340 244 [(0, .ref q_SC), (1, .ref l1), (2, .ref l2), (3, .ref l3), (4, .int l4)] [] h o hz := by
  unfold f340_244 at hf
  refine ev_aload_n (q_cod qk340 rfl) (by decide) rfl ?_
  refine ev_aload_n (q_cod qk340 rfl) (by decide) rfl ?_
  refine ev_iload (q_cod qk340 rfl) (by decide) rfl ?_
  refine ev_ic (v := 1) (q_cod qk340 rfl) (by decide) (by decide) ?_
  refine ev_iadd (q_cod qk340 rfl) (by decide) ?_
  refine em_sald (q_cod qk340 rfl) (by decide) hf (fun hf => ?_)
  refine ev_aload_n (q_cod qk340 rfl) (by decide) rfl ?_
  refine em_call (v := (fun u => some (.int u))) (q_cod qk340 rfl) rfl rfl (q_cokS rfl rfl) rfl (fun x e => f311_cl e) hf (fun v2 h hf => ?_)
  refine ev_is2 (L' := [(0, .ref q_SC), (1, .ref l1), (2, .ref l2), (3, .ref l3), (4, .int l4), (5, .int v2)]) (q_cod qk340 rfl) (by decide) rfl ?_
  refine ev_aload_n (q_cod qk340 rfl) (by decide) rfl ?_
  refine ev_aload_n (q_cod qk340 rfl) (by decide) rfl ?_
  refine ev_iload (q_cod qk340 rfl) (by decide) rfl ?_
  refine ev_ic (v := 1) (q_cod qk340 rfl) (by decide) (by decide) ?_
  refine ev_iadd (q_cod qk340 rfl) (by decide) ?_
  refine em_sald (q_cod qk340 rfl) (by decide) hf (fun hf => ?_)
  obtain ⟨g4, hf⟩ := m_aK_some hf
  refine em_call (v := (fun u => some (.int u))) (q_cod qk340 rfl) rfl rfl (q_cokV rfl rfl (Or.inr g4)) rfl (fun x e => f186_cl e) hf (fun v5 h hf => ?_)
  refine ev_is2 (L' := [(0, .ref q_SC), (1, .ref l1), (2, .ref l2), (3, .ref l3), (4, .int l4), (5, .int v2), (6, .int v5)]) (q_cod qk340 rfl) (by decide) rfl ?_
  refine ev_aload_n (q_cod qk340 rfl) (by decide) rfl ?_
  obtain ⟨g6, hf⟩ := m_aK_some hf
  refine em_call (v := (fun u => some (.int u))) (q_cod qk340 rfl) rfl rfl (q_cokV rfl rfl (Or.inr g6)) rfl (fun x e => f177_cl e) hf (fun v7 h hf => ?_)
  refine ev_iload (q_cod qk340 rfl) (by decide) rfl ?_
  refine em_ic_eq (q_cod qk340 rfl) (by decide) hf (fun c11 hf => ?_) (fun c11 hf => ?_)
  · refine ev_iload (q_cod qk340 rfl) (by decide) rfl ?_
    refine em_if_ne (q_cod qk340 rfl) (by decide) hf (fun c10 hf => ?_) (fun c10 hf => ?_)
    · refine ev_aload_n (q_cod qk340 rfl) (by decide) rfl ?_
      refine ev_ic (v := 0) (q_cod qk340 rfl) (by decide) (by decide) ?_
      refine em_lJ (q_cod qk340 rfl) (by decide) hf (fun v8 hf => ?_)
      refine ev_iload (q_cod qk340 rfl) (by decide) rfl ?_
      refine ev_i2l (q_cod qk340 rfl) (by decide) ?_
      refine ev_lcmp (q_cod qk340 rfl) (by decide) ?_
      refine em_if_eq (q_cod qk340 rfl) (by decide) hf (fun c9 hf => ?_) (fun c9 hf => ?_)
      · exact ev_weak (q_pk [0, 1, 2, 3, 4] rfl) (f340_297_ok hf hK)
      · obtain ⟨y0, hf0, hx⟩ := m_inr_some hf
        subst hx
        exact ev_weak (q_pk [] rfl) (f340_295_ok hf0 hK)
    · exact ev_weak (q_pk [0, 1, 2, 3, 4] rfl) (f340_297_ok hf hK)
  · obtain ⟨y0, hf0, hx⟩ := m_inr_some hf
    subst hx
    exact ev_weak (q_pk [] rfl) (f340_278_ok hf0 hK)
def f340_341 (Ln : Nat) (xs : Nat → Int32) (l1 : Nat) (l2 : Nat) (l3 : Nat) (l4 : Int32) : m_M ((Nat × Nat × Nat × Int32) ⊕ Int32) :=
  f340_2357 Ln xs l1 l2 l3 l4
set_option maxRecDepth 20000 in
theorem f340_341_ok {Ln : Nat} {xs : Nat → Int32} {l1 : Nat} {l2 : Nat} {l3 : Nat} {l4 : Int32} {h : q_H} {o : q_O} {hz : q_H} {x : ((Nat × Nat × Nat × Int32) ⊕ Int32) × q_H} (hf : f340_341 Ln xs l1 l2 l3 l4 h = some x) (hK : (m_yK (fun (s : Nat × Nat × Nat × Int32) (h : q_H) => q_Ev (some (Ln, xs)) 340 23 [(0, .ref q_SC), (1, .ref (s.1)), (2, .ref (s.2.1)), (3, .ref (s.2.2.1)), (4, .int (s.2.2.2))] [] h o hz) (q_KI o hz)) x) : q_Ev (some (Ln, xs)) 340 341 [(0, .ref q_SC), (1, .ref l1), (2, .ref l2), (3, .ref l3), (4, .int l4)] [] h o hz := by
  unfold f340_341 at hf
  refine ev_goto (q_cod qk340 rfl) (by decide) ?_
  exact (f340_2357_ok hf hK)
def f340_339 (Ln : Nat) (xs : Nat → Int32) : m_M Int32 :=
  m_R 0
set_option maxRecDepth 20000 in
theorem f340_339_ok {Ln : Nat} {xs : Nat → Int32} {h : q_H} {o : q_O} {hz : q_H} {x : Int32 × q_H} (hf : f340_339 Ln xs h = some x) (hK : (q_KI o hz) x) : q_Ev (some (Ln, xs)) 340 339 [] [] h o hz := by
  unfold f340_339 at hf
  refine ev_ic (v := 0) (q_cod qk340 rfl) (by decide) (by decide) ?_
  obtain rfl := m_R_inv hf
  obtain ⟨rfl, rfl⟩ := (show q_KI o hz (0, _) from hK)
  exact ev_ret (q_cod qk340 rfl) rfl
def f340_322 (Ln : Nat) (xs : Nat → Int32) : m_M Int32 :=
  m_R 0
set_option maxRecDepth 20000 in
theorem f340_322_ok {Ln : Nat} {xs : Nat → Int32} {h : q_H} {o : q_O} {hz : q_H} {x : Int32 × q_H} (hf : f340_322 Ln xs h = some x) (hK : (q_KI o hz) x) : q_Ev (some (Ln, xs)) 340 322 [] [] h o hz := by
  unfold f340_322 at hf
  refine ev_ic (v := 0) (q_cod qk340 rfl) (by decide) (by decide) ?_
  obtain rfl := m_R_inv hf
  obtain ⟨rfl, rfl⟩ := (show q_KI o hz (0, _) from hK)
  exact ev_ret (q_cod qk340 rfl) rfl
def f340_300 (Ln : Nat) (xs : Nat → Int32) (l1 : Nat) (l2 : Nat) (l3 : Nat) (l4 : Int32) : m_M ((Nat × Nat × Nat × Int32) ⊕ Int32) :=
  m_B (f312 l1 l3) (fun v1 => m_B (m_aK l2 12) (fun _ => m_B (f187 l2) (fun v3 => m_B (m_aK l2 12) (fun _ => m_B (f177 l2) (fun v5 => if v5 = v1 then (if v1 = 0 then (m_B (m_lJ l3 0) (fun v6 => if (lg_cmp v6 (v3.toInt64)) = 0 then (f340_341 Ln xs l1 l2 l3 l4) else (m_B (f340_339 Ln xs) (fun r => m_R (.inr r))))) else (f340_341 Ln xs l1 l2 l3 l4)) else (m_B (f340_322 Ln xs) (fun r => m_R (.inr r))))))))
set_option maxRecDepth 20000 in
theorem f340_300_ok {Ln : Nat} {xs : Nat → Int32} {l1 : Nat} {l2 : Nat} {l3 : Nat} {l4 : Int32} {h : q_H} {o : q_O} {hz : q_H} {x : ((Nat × Nat × Nat × Int32) ⊕ Int32) × q_H} (hf : f340_300 Ln xs l1 l2 l3 l4 h = some x) (hK : (m_yK (fun (s : Nat × Nat × Nat × Int32) (h : q_H) => q_Ev (some (Ln, xs)) 340 23 [(0, .ref q_SC), (1, .ref (s.1)), (2, .ref (s.2.1)), (3, .ref (s.2.2.1)), (4, .int (s.2.2.2))] [] h o hz) (q_KI o hz)) x) : q_Ev (some (Ln, xs)) 340 300 [(0, .ref q_SC), (1, .ref l1), (2, .ref l2), (3, .ref l3), (4, .int l4)] [] h o hz := by
  unfold f340_300 at hf
  refine ev_aload_n (q_cod qk340 rfl) (by decide) rfl ?_
  refine ev_aload_n (q_cod qk340 rfl) (by decide) rfl ?_
  refine em_call (v := (fun u => some (.int u))) (q_cod qk340 rfl) rfl rfl (q_cokS rfl rfl) rfl (fun x e => f312_cl e) hf (fun v1 h hf => ?_)
  refine ev_is2 (L' := [(0, .ref q_SC), (1, .ref l1), (2, .ref l2), (3, .ref l3), (4, .int l4), (5, .int v1)]) (q_cod qk340 rfl) (by decide) rfl ?_
  refine ev_aload_n (q_cod qk340 rfl) (by decide) rfl ?_
  obtain ⟨g2, hf⟩ := m_aK_some hf
  refine em_call (v := (fun u => some (.int u))) (q_cod qk340 rfl) rfl rfl (q_cokV rfl rfl (Or.inr g2)) rfl (fun x e => f187_cl e) hf (fun v3 h hf => ?_)
  refine ev_is2 (L' := [(0, .ref q_SC), (1, .ref l1), (2, .ref l2), (3, .ref l3), (4, .int l4), (5, .int v1), (6, .int v3)]) (q_cod qk340 rfl) (by decide) rfl ?_
  refine ev_aload_n (q_cod qk340 rfl) (by decide) rfl ?_
  obtain ⟨g4, hf⟩ := m_aK_some hf
  refine em_call (v := (fun u => some (.int u))) (q_cod qk340 rfl) rfl rfl (q_cokV rfl rfl (Or.inr g4)) rfl (fun x e => f177_cl e) hf (fun v5 h hf => ?_)
  refine ev_iload (q_cod qk340 rfl) (by decide) rfl ?_
  refine em_ic_eq (q_cod qk340 rfl) (by decide) hf (fun c9 hf => ?_) (fun c9 hf => ?_)
  · refine ev_iload (q_cod qk340 rfl) (by decide) rfl ?_
    refine em_if_ne (q_cod qk340 rfl) (by decide) hf (fun c8 hf => ?_) (fun c8 hf => ?_)
    · refine ev_aload_n (q_cod qk340 rfl) (by decide) rfl ?_
      refine ev_ic (v := 0) (q_cod qk340 rfl) (by decide) (by decide) ?_
      refine em_lJ (q_cod qk340 rfl) (by decide) hf (fun v6 hf => ?_)
      refine ev_iload (q_cod qk340 rfl) (by decide) rfl ?_
      refine ev_i2l (q_cod qk340 rfl) (by decide) ?_
      refine ev_lcmp (q_cod qk340 rfl) (by decide) ?_
      refine em_if_eq (q_cod qk340 rfl) (by decide) hf (fun c7 hf => ?_) (fun c7 hf => ?_)
      · exact ev_weak (q_pk [0, 1, 2, 3, 4] rfl) (f340_341_ok hf hK)
      · obtain ⟨y0, hf0, hx⟩ := m_inr_some hf
        subst hx
        exact ev_weak (q_pk [] rfl) (f340_339_ok hf0 hK)
    · exact ev_weak (q_pk [0, 1, 2, 3, 4] rfl) (f340_341_ok hf hK)
  · obtain ⟨y0, hf0, hx⟩ := m_inr_some hf
    subst hx
    exact ev_weak (q_pk [] rfl) (f340_322_ok hf0 hK)
def f340_409 (Ln : Nat) (xs : Nat → Int32) (l1 : Nat) (l2 : Nat) (l3 : Nat) (l4 : Int32) : m_M ((Nat × Nat × Nat × Int32) ⊕ Int32) :=
  f340_2357 Ln xs l1 l2 l3 l4
set_option maxRecDepth 20000 in
theorem f340_409_ok {Ln : Nat} {xs : Nat → Int32} {l1 : Nat} {l2 : Nat} {l3 : Nat} {l4 : Int32} {h : q_H} {o : q_O} {hz : q_H} {x : ((Nat × Nat × Nat × Int32) ⊕ Int32) × q_H} (hf : f340_409 Ln xs l1 l2 l3 l4 h = some x) (hK : (m_yK (fun (s : Nat × Nat × Nat × Int32) (h : q_H) => q_Ev (some (Ln, xs)) 340 23 [(0, .ref q_SC), (1, .ref (s.1)), (2, .ref (s.2.1)), (3, .ref (s.2.2.1)), (4, .int (s.2.2.2))] [] h o hz) (q_KI o hz)) x) : q_Ev (some (Ln, xs)) 340 409 [(0, .ref q_SC), (1, .ref l1), (2, .ref l2), (3, .ref l3), (4, .int l4)] [] h o hz := by
  unfold f340_409 at hf
  refine ev_goto (q_cod qk340 rfl) (by decide) ?_
  exact (f340_2357_ok hf hK)
def f340_407 (Ln : Nat) (xs : Nat → Int32) : m_M Int32 :=
  m_R 0
set_option maxRecDepth 20000 in
theorem f340_407_ok {Ln : Nat} {xs : Nat → Int32} {h : q_H} {o : q_O} {hz : q_H} {x : Int32 × q_H} (hf : f340_407 Ln xs h = some x) (hK : (q_KI o hz) x) : q_Ev (some (Ln, xs)) 340 407 [] [] h o hz := by
  unfold f340_407 at hf
  refine ev_ic (v := 0) (q_cod qk340 rfl) (by decide) (by decide) ?_
  obtain rfl := m_R_inv hf
  obtain ⟨rfl, rfl⟩ := (show q_KI o hz (0, _) from hK)
  exact ev_ret (q_cod qk340 rfl) rfl
def f340_390 (Ln : Nat) (xs : Nat → Int32) : m_M Int32 :=
  m_R 0
set_option maxRecDepth 20000 in
theorem f340_390_ok {Ln : Nat} {xs : Nat → Int32} {h : q_H} {o : q_O} {hz : q_H} {x : Int32 × q_H} (hf : f340_390 Ln xs h = some x) (hK : (q_KI o hz) x) : q_Ev (some (Ln, xs)) 340 390 [] [] h o hz := by
  unfold f340_390 at hf
  refine ev_ic (v := 0) (q_cod qk340 rfl) (by decide) (by decide) ?_
  obtain rfl := m_R_inv hf
  obtain ⟨rfl, rfl⟩ := (show q_KI o hz (0, _) from hK)
  exact ev_ret (q_cod qk340 rfl) rfl
def f340_344 (Ln : Nat) (xs : Nat → Int32) (l1 : Nat) (l2 : Nat) (l3 : Nat) (l4 : Int32) : m_M ((Nat × Nat × Nat × Int32) ⊕ Int32) :=
  m_B (m_G (q_ins (l4 + 1) Ln = true)) (fun _ => m_B (m_G (q_ins (l4 + 2) Ln = true)) (fun _ => m_B (f313 l1 (xs (l4 + 1).toNatClampNeg) (xs (l4 + 2).toNatClampNeg) l3) (fun v3 => m_B (m_G (q_ins (l4 + 1) Ln = true)) (fun _ => m_B (m_G (q_ins (l4 + 2) Ln = true)) (fun _ => m_B (m_aK l2 12) (fun _ => m_B (f188 l2 (xs (l4 + 1).toNatClampNeg) (xs (l4 + 2).toNatClampNeg)) (fun v7 => m_B (m_aK l2 12) (fun _ => m_B (f177 l2) (fun v9 => if v9 = v3 then (if v3 = 0 then (m_B (m_lJ l3 0) (fun v10 => if (lg_cmp v10 (v7.toInt64)) = 0 then (f340_409 Ln xs l1 l2 l3 l4) else (m_B (f340_407 Ln xs) (fun r => m_R (.inr r))))) else (f340_409 Ln xs l1 l2 l3 l4)) else (m_B (f340_390 Ln xs) (fun r => m_R (.inr r))))))))))))
set_option maxRecDepth 20000 in
theorem f340_344_ok {Ln : Nat} {xs : Nat → Int32} {l1 : Nat} {l2 : Nat} {l3 : Nat} {l4 : Int32} {h : q_H} {o : q_O} {hz : q_H} {x : ((Nat × Nat × Nat × Int32) ⊕ Int32) × q_H} (hf : f340_344 Ln xs l1 l2 l3 l4 h = some x) (hK : (m_yK (fun (s : Nat × Nat × Nat × Int32) (h : q_H) => q_Ev (some (Ln, xs)) 340 23 [(0, .ref q_SC), (1, .ref (s.1)), (2, .ref (s.2.1)), (3, .ref (s.2.2.1)), (4, .int (s.2.2.2))] [] h o hz) (q_KI o hz)) x) : q_Ev (some (Ln, xs)) 340 344 [(0, .ref q_SC), (1, .ref l1), (2, .ref l2), (3, .ref l3), (4, .int l4)] [] h o hz := by
  unfold f340_344 at hf
  refine ev_aload_n (q_cod qk340 rfl) (by decide) rfl ?_
  refine ev_aload_n (q_cod qk340 rfl) (by decide) rfl ?_
  refine ev_iload (q_cod qk340 rfl) (by decide) rfl ?_
  refine ev_ic (v := 1) (q_cod qk340 rfl) (by decide) (by decide) ?_
  refine ev_iadd (q_cod qk340 rfl) (by decide) ?_
  refine em_sald (q_cod qk340 rfl) (by decide) hf (fun hf => ?_)
  refine ev_aload_n (q_cod qk340 rfl) (by decide) rfl ?_
  refine ev_iload (q_cod qk340 rfl) (by decide) rfl ?_
  refine ev_ic (v := 2) (q_cod qk340 rfl) (by decide) (by decide) ?_
  refine ev_iadd (q_cod qk340 rfl) (by decide) ?_
  refine em_sald (q_cod qk340 rfl) (by decide) hf (fun hf => ?_)
  refine ev_aload_n (q_cod qk340 rfl) (by decide) rfl ?_
  refine em_call (v := (fun u => some (.int u))) (q_cod qk340 rfl) rfl rfl (q_cokS rfl rfl) rfl (fun x e => f313_cl e) hf (fun v3 h hf => ?_)
  refine ev_is2 (L' := [(0, .ref q_SC), (1, .ref l1), (2, .ref l2), (3, .ref l3), (4, .int l4), (5, .int v3)]) (q_cod qk340 rfl) (by decide) rfl ?_
  refine ev_aload_n (q_cod qk340 rfl) (by decide) rfl ?_
  refine ev_aload_n (q_cod qk340 rfl) (by decide) rfl ?_
  refine ev_iload (q_cod qk340 rfl) (by decide) rfl ?_
  refine ev_ic (v := 1) (q_cod qk340 rfl) (by decide) (by decide) ?_
  refine ev_iadd (q_cod qk340 rfl) (by decide) ?_
  refine em_sald (q_cod qk340 rfl) (by decide) hf (fun hf => ?_)
  refine ev_aload_n (q_cod qk340 rfl) (by decide) rfl ?_
  refine ev_iload (q_cod qk340 rfl) (by decide) rfl ?_
  refine ev_ic (v := 2) (q_cod qk340 rfl) (by decide) (by decide) ?_
  refine ev_iadd (q_cod qk340 rfl) (by decide) ?_
  refine em_sald (q_cod qk340 rfl) (by decide) hf (fun hf => ?_)
  obtain ⟨g6, hf⟩ := m_aK_some hf
  refine em_call (v := (fun u => some (.int u))) (q_cod qk340 rfl) rfl rfl (q_cokV rfl rfl (Or.inr g6)) rfl (fun x e => f188_cl e) hf (fun v7 h hf => ?_)
  refine ev_is2 (L' := [(0, .ref q_SC), (1, .ref l1), (2, .ref l2), (3, .ref l3), (4, .int l4), (5, .int v3), (6, .int v7)]) (q_cod qk340 rfl) (by decide) rfl ?_
  refine ev_aload_n (q_cod qk340 rfl) (by decide) rfl ?_
  obtain ⟨g8, hf⟩ := m_aK_some hf
  refine em_call (v := (fun u => some (.int u))) (q_cod qk340 rfl) rfl rfl (q_cokV rfl rfl (Or.inr g8)) rfl (fun x e => f177_cl e) hf (fun v9 h hf => ?_)
  refine ev_iload (q_cod qk340 rfl) (by decide) rfl ?_
  refine em_ic_eq (q_cod qk340 rfl) (by decide) hf (fun c13 hf => ?_) (fun c13 hf => ?_)
  · refine ev_iload (q_cod qk340 rfl) (by decide) rfl ?_
    refine em_if_ne (q_cod qk340 rfl) (by decide) hf (fun c12 hf => ?_) (fun c12 hf => ?_)
    · refine ev_aload_n (q_cod qk340 rfl) (by decide) rfl ?_
      refine ev_ic (v := 0) (q_cod qk340 rfl) (by decide) (by decide) ?_
      refine em_lJ (q_cod qk340 rfl) (by decide) hf (fun v10 hf => ?_)
      refine ev_iload (q_cod qk340 rfl) (by decide) rfl ?_
      refine ev_i2l (q_cod qk340 rfl) (by decide) ?_
      refine ev_lcmp (q_cod qk340 rfl) (by decide) ?_
      refine em_if_eq (q_cod qk340 rfl) (by decide) hf (fun c11 hf => ?_) (fun c11 hf => ?_)
      · exact ev_weak (q_pk [0, 1, 2, 3, 4] rfl) (f340_409_ok hf hK)
      · obtain ⟨y0, hf0, hx⟩ := m_inr_some hf
        subst hx
        exact ev_weak (q_pk [] rfl) (f340_407_ok hf0 hK)
    · exact ev_weak (q_pk [0, 1, 2, 3, 4] rfl) (f340_409_ok hf hK)
  · obtain ⟨y0, hf0, hx⟩ := m_inr_some hf
    subst hx
    exact ev_weak (q_pk [] rfl) (f340_390_ok hf0 hK)
def f340_489 (Ln : Nat) (xs : Nat → Int32) (l1 : Nat) (l2 : Nat) (l3 : Nat) (l4 : Int32) : m_M ((Nat × Nat × Nat × Int32) ⊕ Int32) :=
  f340_2357 Ln xs l1 l2 l3 l4
set_option maxRecDepth 20000 in
theorem f340_489_ok {Ln : Nat} {xs : Nat → Int32} {l1 : Nat} {l2 : Nat} {l3 : Nat} {l4 : Int32} {h : q_H} {o : q_O} {hz : q_H} {x : ((Nat × Nat × Nat × Int32) ⊕ Int32) × q_H} (hf : f340_489 Ln xs l1 l2 l3 l4 h = some x) (hK : (m_yK (fun (s : Nat × Nat × Nat × Int32) (h : q_H) => q_Ev (some (Ln, xs)) 340 23 [(0, .ref q_SC), (1, .ref (s.1)), (2, .ref (s.2.1)), (3, .ref (s.2.2.1)), (4, .int (s.2.2.2))] [] h o hz) (q_KI o hz)) x) : q_Ev (some (Ln, xs)) 340 489 [(0, .ref q_SC), (1, .ref l1), (2, .ref l2), (3, .ref l3), (4, .int l4)] [] h o hz := by
  unfold f340_489 at hf
  refine ev_goto (q_cod qk340 rfl) (by decide) ?_
  exact (f340_2357_ok hf hK)
def f340_487 (Ln : Nat) (xs : Nat → Int32) : m_M Int32 :=
  m_R 0
set_option maxRecDepth 20000 in
theorem f340_487_ok {Ln : Nat} {xs : Nat → Int32} {h : q_H} {o : q_O} {hz : q_H} {x : Int32 × q_H} (hf : f340_487 Ln xs h = some x) (hK : (q_KI o hz) x) : q_Ev (some (Ln, xs)) 340 487 [] [] h o hz := by
  unfold f340_487 at hf
  refine ev_ic (v := 0) (q_cod qk340 rfl) (by decide) (by decide) ?_
  obtain rfl := m_R_inv hf
  obtain ⟨rfl, rfl⟩ := (show q_KI o hz (0, _) from hK)
  exact ev_ret (q_cod qk340 rfl) rfl
def f340_470 (Ln : Nat) (xs : Nat → Int32) : m_M Int32 :=
  m_R 0
set_option maxRecDepth 20000 in
theorem f340_470_ok {Ln : Nat} {xs : Nat → Int32} {h : q_H} {o : q_O} {hz : q_H} {x : Int32 × q_H} (hf : f340_470 Ln xs h = some x) (hK : (q_KI o hz) x) : q_Ev (some (Ln, xs)) 340 470 [] [] h o hz := by
  unfold f340_470 at hf
  refine ev_ic (v := 0) (q_cod qk340 rfl) (by decide) (by decide) ?_
  obtain rfl := m_R_inv hf
  obtain ⟨rfl, rfl⟩ := (show q_KI o hz (0, _) from hK)
  exact ev_ret (q_cod qk340 rfl) rfl
def f340_412 (Ln : Nat) (xs : Nat → Int32) (l1 : Nat) (l2 : Nat) (l3 : Nat) (l4 : Int32) : m_M ((Nat × Nat × Nat × Int32) ⊕ Int32) :=
  m_B (m_G (q_ins (l4 + 1) Ln = true)) (fun _ => m_B (m_G (q_ins (l4 + 2) Ln = true)) (fun _ => m_B (m_G (q_ins (l4 + 3) Ln = true)) (fun _ => m_B (f314 l1 (xs (l4 + 1).toNatClampNeg) (xs (l4 + 2).toNatClampNeg) (xs (l4 + 3).toNatClampNeg) l3) (fun v4 => m_B (m_G (q_ins (l4 + 1) Ln = true)) (fun _ => m_B (m_G (q_ins (l4 + 2) Ln = true)) (fun _ => m_B (m_G (q_ins (l4 + 3) Ln = true)) (fun _ => m_B (m_aK l2 12) (fun _ => m_B (f189 l2 (xs (l4 + 1).toNatClampNeg) (xs (l4 + 2).toNatClampNeg) (xs (l4 + 3).toNatClampNeg)) (fun v9 => m_B (m_aK l2 12) (fun _ => m_B (f177 l2) (fun v11 => if v11 = v4 then (if v4 = 0 then (m_B (m_lJ l3 0) (fun v12 => if (lg_cmp v12 (v9.toInt64)) = 0 then (f340_489 Ln xs l1 l2 l3 l4) else (m_B (f340_487 Ln xs) (fun r => m_R (.inr r))))) else (f340_489 Ln xs l1 l2 l3 l4)) else (m_B (f340_470 Ln xs) (fun r => m_R (.inr r))))))))))))))
set_option maxRecDepth 20000 in
theorem f340_412_ok {Ln : Nat} {xs : Nat → Int32} {l1 : Nat} {l2 : Nat} {l3 : Nat} {l4 : Int32} {h : q_H} {o : q_O} {hz : q_H} {x : ((Nat × Nat × Nat × Int32) ⊕ Int32) × q_H} (hf : f340_412 Ln xs l1 l2 l3 l4 h = some x) (hK : (m_yK (fun (s : Nat × Nat × Nat × Int32) (h : q_H) => q_Ev (some (Ln, xs)) 340 23 [(0, .ref q_SC), (1, .ref (s.1)), (2, .ref (s.2.1)), (3, .ref (s.2.2.1)), (4, .int (s.2.2.2))] [] h o hz) (q_KI o hz)) x) : q_Ev (some (Ln, xs)) 340 412 [(0, .ref q_SC), (1, .ref l1), (2, .ref l2), (3, .ref l3), (4, .int l4)] [] h o hz := by
  unfold f340_412 at hf
  refine ev_aload_n (q_cod qk340 rfl) (by decide) rfl ?_
  refine ev_aload_n (q_cod qk340 rfl) (by decide) rfl ?_
  refine ev_iload (q_cod qk340 rfl) (by decide) rfl ?_
  refine ev_ic (v := 1) (q_cod qk340 rfl) (by decide) (by decide) ?_
  refine ev_iadd (q_cod qk340 rfl) (by decide) ?_
  refine em_sald (q_cod qk340 rfl) (by decide) hf (fun hf => ?_)
  refine ev_aload_n (q_cod qk340 rfl) (by decide) rfl ?_
  refine ev_iload (q_cod qk340 rfl) (by decide) rfl ?_
  refine ev_ic (v := 2) (q_cod qk340 rfl) (by decide) (by decide) ?_
  refine ev_iadd (q_cod qk340 rfl) (by decide) ?_
  refine em_sald (q_cod qk340 rfl) (by decide) hf (fun hf => ?_)
  refine ev_aload_n (q_cod qk340 rfl) (by decide) rfl ?_
  refine ev_iload (q_cod qk340 rfl) (by decide) rfl ?_
  refine ev_ic (v := 3) (q_cod qk340 rfl) (by decide) (by decide) ?_
  refine ev_iadd (q_cod qk340 rfl) (by decide) ?_
  refine em_sald (q_cod qk340 rfl) (by decide) hf (fun hf => ?_)
  refine ev_aload_n (q_cod qk340 rfl) (by decide) rfl ?_
  refine em_call (v := (fun u => some (.int u))) (q_cod qk340 rfl) rfl rfl (q_cokS rfl rfl) rfl (fun x e => f314_cl e) hf (fun v4 h hf => ?_)
  refine ev_is2 (L' := [(0, .ref q_SC), (1, .ref l1), (2, .ref l2), (3, .ref l3), (4, .int l4), (5, .int v4)]) (q_cod qk340 rfl) (by decide) rfl ?_
  refine ev_aload_n (q_cod qk340 rfl) (by decide) rfl ?_
  refine ev_aload_n (q_cod qk340 rfl) (by decide) rfl ?_
  refine ev_iload (q_cod qk340 rfl) (by decide) rfl ?_
  refine ev_ic (v := 1) (q_cod qk340 rfl) (by decide) (by decide) ?_
  refine ev_iadd (q_cod qk340 rfl) (by decide) ?_
  refine em_sald (q_cod qk340 rfl) (by decide) hf (fun hf => ?_)
  refine ev_aload_n (q_cod qk340 rfl) (by decide) rfl ?_
  refine ev_iload (q_cod qk340 rfl) (by decide) rfl ?_
  refine ev_ic (v := 2) (q_cod qk340 rfl) (by decide) (by decide) ?_
  refine ev_iadd (q_cod qk340 rfl) (by decide) ?_
  refine em_sald (q_cod qk340 rfl) (by decide) hf (fun hf => ?_)
  refine ev_aload_n (q_cod qk340 rfl) (by decide) rfl ?_
  refine ev_iload (q_cod qk340 rfl) (by decide) rfl ?_
  refine ev_ic (v := 3) (q_cod qk340 rfl) (by decide) (by decide) ?_
  refine ev_iadd (q_cod qk340 rfl) (by decide) ?_
  refine em_sald (q_cod qk340 rfl) (by decide) hf (fun hf => ?_)
  obtain ⟨g8, hf⟩ := m_aK_some hf
  refine em_call (v := (fun u => some (.int u))) (q_cod qk340 rfl) rfl rfl (q_cokV rfl rfl (Or.inr g8)) rfl (fun x e => f189_cl e) hf (fun v9 h hf => ?_)
  refine ev_is2 (L' := [(0, .ref q_SC), (1, .ref l1), (2, .ref l2), (3, .ref l3), (4, .int l4), (5, .int v4), (6, .int v9)]) (q_cod qk340 rfl) (by decide) rfl ?_
  refine ev_aload_n (q_cod qk340 rfl) (by decide) rfl ?_
  obtain ⟨g10, hf⟩ := m_aK_some hf
  refine em_call (v := (fun u => some (.int u))) (q_cod qk340 rfl) rfl rfl (q_cokV rfl rfl (Or.inr g10)) rfl (fun x e => f177_cl e) hf (fun v11 h hf => ?_)
  refine ev_iload (q_cod qk340 rfl) (by decide) rfl ?_
  refine em_ic_eq (q_cod qk340 rfl) (by decide) hf (fun c15 hf => ?_) (fun c15 hf => ?_)
  · refine ev_iload (q_cod qk340 rfl) (by decide) rfl ?_
    refine em_if_ne (q_cod qk340 rfl) (by decide) hf (fun c14 hf => ?_) (fun c14 hf => ?_)
    · refine ev_aload_n (q_cod qk340 rfl) (by decide) rfl ?_
      refine ev_ic (v := 0) (q_cod qk340 rfl) (by decide) (by decide) ?_
      refine em_lJ (q_cod qk340 rfl) (by decide) hf (fun v12 hf => ?_)
      refine ev_iload (q_cod qk340 rfl) (by decide) rfl ?_
      refine ev_i2l (q_cod qk340 rfl) (by decide) ?_
      refine ev_lcmp (q_cod qk340 rfl) (by decide) ?_
      refine em_if_eq (q_cod qk340 rfl) (by decide) hf (fun c13 hf => ?_) (fun c13 hf => ?_)
      · exact ev_weak (q_pk [0, 1, 2, 3, 4] rfl) (f340_489_ok hf hK)
      · obtain ⟨y0, hf0, hx⟩ := m_inr_some hf
        subst hx
        exact ev_weak (q_pk [] rfl) (f340_487_ok hf0 hK)
    · exact ev_weak (q_pk [0, 1, 2, 3, 4] rfl) (f340_489_ok hf hK)
  · obtain ⟨y0, hf0, hx⟩ := m_inr_some hf
    subst hx
    exact ev_weak (q_pk [] rfl) (f340_470_ok hf0 hK)
def f340_569 (Ln : Nat) (xs : Nat → Int32) (l1 : Nat) (l2 : Nat) (l3 : Nat) (l4 : Int32) : m_M ((Nat × Nat × Nat × Int32) ⊕ Int32) :=
  f340_2357 Ln xs l1 l2 l3 l4
set_option maxRecDepth 20000 in
theorem f340_569_ok {Ln : Nat} {xs : Nat → Int32} {l1 : Nat} {l2 : Nat} {l3 : Nat} {l4 : Int32} {h : q_H} {o : q_O} {hz : q_H} {x : ((Nat × Nat × Nat × Int32) ⊕ Int32) × q_H} (hf : f340_569 Ln xs l1 l2 l3 l4 h = some x) (hK : (m_yK (fun (s : Nat × Nat × Nat × Int32) (h : q_H) => q_Ev (some (Ln, xs)) 340 23 [(0, .ref q_SC), (1, .ref (s.1)), (2, .ref (s.2.1)), (3, .ref (s.2.2.1)), (4, .int (s.2.2.2))] [] h o hz) (q_KI o hz)) x) : q_Ev (some (Ln, xs)) 340 569 [(0, .ref q_SC), (1, .ref l1), (2, .ref l2), (3, .ref l3), (4, .int l4)] [] h o hz := by
  unfold f340_569 at hf
  refine ev_goto (q_cod qk340 rfl) (by decide) ?_
  exact (f340_2357_ok hf hK)
def f340_567 (Ln : Nat) (xs : Nat → Int32) : m_M Int32 :=
  m_R 0
set_option maxRecDepth 20000 in
theorem f340_567_ok {Ln : Nat} {xs : Nat → Int32} {h : q_H} {o : q_O} {hz : q_H} {x : Int32 × q_H} (hf : f340_567 Ln xs h = some x) (hK : (q_KI o hz) x) : q_Ev (some (Ln, xs)) 340 567 [] [] h o hz := by
  unfold f340_567 at hf
  refine ev_ic (v := 0) (q_cod qk340 rfl) (by decide) (by decide) ?_
  obtain rfl := m_R_inv hf
  obtain ⟨rfl, rfl⟩ := (show q_KI o hz (0, _) from hK)
  exact ev_ret (q_cod qk340 rfl) rfl
def f340_550 (Ln : Nat) (xs : Nat → Int32) : m_M Int32 :=
  m_R 0
set_option maxRecDepth 20000 in
theorem f340_550_ok {Ln : Nat} {xs : Nat → Int32} {h : q_H} {o : q_O} {hz : q_H} {x : Int32 × q_H} (hf : f340_550 Ln xs h = some x) (hK : (q_KI o hz) x) : q_Ev (some (Ln, xs)) 340 550 [] [] h o hz := by
  unfold f340_550 at hf
  refine ev_ic (v := 0) (q_cod qk340 rfl) (by decide) (by decide) ?_
  obtain rfl := m_R_inv hf
  obtain ⟨rfl, rfl⟩ := (show q_KI o hz (0, _) from hK)
  exact ev_ret (q_cod qk340 rfl) rfl
def f340_492 (Ln : Nat) (xs : Nat → Int32) (l1 : Nat) (l2 : Nat) (l3 : Nat) (l4 : Int32) : m_M ((Nat × Nat × Nat × Int32) ⊕ Int32) :=
  m_B (m_G (q_ins (l4 + 1) Ln = true)) (fun _ => m_B (m_G (q_ins (l4 + 2) Ln = true)) (fun _ => m_B (m_G (q_ins (l4 + 3) Ln = true)) (fun _ => m_B (f315 l1 (xs (l4 + 1).toNatClampNeg) (xs (l4 + 2).toNatClampNeg) (xs (l4 + 3).toNatClampNeg) l3) (fun v4 => m_B (m_G (q_ins (l4 + 1) Ln = true)) (fun _ => m_B (m_G (q_ins (l4 + 2) Ln = true)) (fun _ => m_B (m_G (q_ins (l4 + 3) Ln = true)) (fun _ => m_B (m_aK l2 12) (fun _ => m_B (f190 l2 (xs (l4 + 1).toNatClampNeg) (xs (l4 + 2).toNatClampNeg) (xs (l4 + 3).toNatClampNeg)) (fun v9 => m_B (m_aK l2 12) (fun _ => m_B (f177 l2) (fun v11 => if v11 = v4 then (if v4 = 0 then (m_B (m_lJ l3 0) (fun v12 => if (lg_cmp v12 (v9.toInt64)) = 0 then (f340_569 Ln xs l1 l2 l3 l4) else (m_B (f340_567 Ln xs) (fun r => m_R (.inr r))))) else (f340_569 Ln xs l1 l2 l3 l4)) else (m_B (f340_550 Ln xs) (fun r => m_R (.inr r))))))))))))))
set_option maxRecDepth 20000 in
theorem f340_492_ok {Ln : Nat} {xs : Nat → Int32} {l1 : Nat} {l2 : Nat} {l3 : Nat} {l4 : Int32} {h : q_H} {o : q_O} {hz : q_H} {x : ((Nat × Nat × Nat × Int32) ⊕ Int32) × q_H} (hf : f340_492 Ln xs l1 l2 l3 l4 h = some x) (hK : (m_yK (fun (s : Nat × Nat × Nat × Int32) (h : q_H) => q_Ev (some (Ln, xs)) 340 23 [(0, .ref q_SC), (1, .ref (s.1)), (2, .ref (s.2.1)), (3, .ref (s.2.2.1)), (4, .int (s.2.2.2))] [] h o hz) (q_KI o hz)) x) : q_Ev (some (Ln, xs)) 340 492 [(0, .ref q_SC), (1, .ref l1), (2, .ref l2), (3, .ref l3), (4, .int l4)] [] h o hz := by
  unfold f340_492 at hf
  refine ev_aload_n (q_cod qk340 rfl) (by decide) rfl ?_
  refine ev_aload_n (q_cod qk340 rfl) (by decide) rfl ?_
  refine ev_iload (q_cod qk340 rfl) (by decide) rfl ?_
  refine ev_ic (v := 1) (q_cod qk340 rfl) (by decide) (by decide) ?_
  refine ev_iadd (q_cod qk340 rfl) (by decide) ?_
  refine em_sald (q_cod qk340 rfl) (by decide) hf (fun hf => ?_)
  refine ev_aload_n (q_cod qk340 rfl) (by decide) rfl ?_
  refine ev_iload (q_cod qk340 rfl) (by decide) rfl ?_
  refine ev_ic (v := 2) (q_cod qk340 rfl) (by decide) (by decide) ?_
  refine ev_iadd (q_cod qk340 rfl) (by decide) ?_
  refine em_sald (q_cod qk340 rfl) (by decide) hf (fun hf => ?_)
  refine ev_aload_n (q_cod qk340 rfl) (by decide) rfl ?_
  refine ev_iload (q_cod qk340 rfl) (by decide) rfl ?_
  refine ev_ic (v := 3) (q_cod qk340 rfl) (by decide) (by decide) ?_
  refine ev_iadd (q_cod qk340 rfl) (by decide) ?_
  refine em_sald (q_cod qk340 rfl) (by decide) hf (fun hf => ?_)
  refine ev_aload_n (q_cod qk340 rfl) (by decide) rfl ?_
  refine em_call (v := (fun u => some (.int u))) (q_cod qk340 rfl) rfl rfl (q_cokS rfl rfl) rfl (fun x e => f315_cl e) hf (fun v4 h hf => ?_)
  refine ev_is2 (L' := [(0, .ref q_SC), (1, .ref l1), (2, .ref l2), (3, .ref l3), (4, .int l4), (5, .int v4)]) (q_cod qk340 rfl) (by decide) rfl ?_
  refine ev_aload_n (q_cod qk340 rfl) (by decide) rfl ?_
  refine ev_aload_n (q_cod qk340 rfl) (by decide) rfl ?_
  refine ev_iload (q_cod qk340 rfl) (by decide) rfl ?_
  refine ev_ic (v := 1) (q_cod qk340 rfl) (by decide) (by decide) ?_
  refine ev_iadd (q_cod qk340 rfl) (by decide) ?_
  refine em_sald (q_cod qk340 rfl) (by decide) hf (fun hf => ?_)
  refine ev_aload_n (q_cod qk340 rfl) (by decide) rfl ?_
  refine ev_iload (q_cod qk340 rfl) (by decide) rfl ?_
  refine ev_ic (v := 2) (q_cod qk340 rfl) (by decide) (by decide) ?_
  refine ev_iadd (q_cod qk340 rfl) (by decide) ?_
  refine em_sald (q_cod qk340 rfl) (by decide) hf (fun hf => ?_)
  refine ev_aload_n (q_cod qk340 rfl) (by decide) rfl ?_
  refine ev_iload (q_cod qk340 rfl) (by decide) rfl ?_
  refine ev_ic (v := 3) (q_cod qk340 rfl) (by decide) (by decide) ?_
  refine ev_iadd (q_cod qk340 rfl) (by decide) ?_
  refine em_sald (q_cod qk340 rfl) (by decide) hf (fun hf => ?_)
  obtain ⟨g8, hf⟩ := m_aK_some hf
  refine em_call (v := (fun u => some (.int u))) (q_cod qk340 rfl) rfl rfl (q_cokV rfl rfl (Or.inr g8)) rfl (fun x e => f190_cl e) hf (fun v9 h hf => ?_)
  refine ev_is2 (L' := [(0, .ref q_SC), (1, .ref l1), (2, .ref l2), (3, .ref l3), (4, .int l4), (5, .int v4), (6, .int v9)]) (q_cod qk340 rfl) (by decide) rfl ?_
  refine ev_aload_n (q_cod qk340 rfl) (by decide) rfl ?_
  obtain ⟨g10, hf⟩ := m_aK_some hf
  refine em_call (v := (fun u => some (.int u))) (q_cod qk340 rfl) rfl rfl (q_cokV rfl rfl (Or.inr g10)) rfl (fun x e => f177_cl e) hf (fun v11 h hf => ?_)
  refine ev_iload (q_cod qk340 rfl) (by decide) rfl ?_
  refine em_ic_eq (q_cod qk340 rfl) (by decide) hf (fun c15 hf => ?_) (fun c15 hf => ?_)
  · refine ev_iload (q_cod qk340 rfl) (by decide) rfl ?_
    refine em_if_ne (q_cod qk340 rfl) (by decide) hf (fun c14 hf => ?_) (fun c14 hf => ?_)
    · refine ev_aload_n (q_cod qk340 rfl) (by decide) rfl ?_
      refine ev_ic (v := 0) (q_cod qk340 rfl) (by decide) (by decide) ?_
      refine em_lJ (q_cod qk340 rfl) (by decide) hf (fun v12 hf => ?_)
      refine ev_iload (q_cod qk340 rfl) (by decide) rfl ?_
      refine ev_i2l (q_cod qk340 rfl) (by decide) ?_
      refine ev_lcmp (q_cod qk340 rfl) (by decide) ?_
      refine em_if_eq (q_cod qk340 rfl) (by decide) hf (fun c13 hf => ?_) (fun c13 hf => ?_)
      · exact ev_weak (q_pk [0, 1, 2, 3, 4] rfl) (f340_569_ok hf hK)
      · obtain ⟨y0, hf0, hx⟩ := m_inr_some hf
        subst hx
        exact ev_weak (q_pk [] rfl) (f340_567_ok hf0 hK)
    · exact ev_weak (q_pk [0, 1, 2, 3, 4] rfl) (f340_569_ok hf hK)
  · obtain ⟨y0, hf0, hx⟩ := m_inr_some hf
    subst hx
    exact ev_weak (q_pk [] rfl) (f340_550_ok hf0 hK)
def f340_661 (Ln : Nat) (xs : Nat → Int32) (l1 : Nat) (l2 : Nat) (l3 : Nat) (l4 : Int32) : m_M ((Nat × Nat × Nat × Int32) ⊕ Int32) :=
  f340_2357 Ln xs l1 l2 l3 l4
set_option maxRecDepth 20000 in
theorem f340_661_ok {Ln : Nat} {xs : Nat → Int32} {l1 : Nat} {l2 : Nat} {l3 : Nat} {l4 : Int32} {h : q_H} {o : q_O} {hz : q_H} {x : ((Nat × Nat × Nat × Int32) ⊕ Int32) × q_H} (hf : f340_661 Ln xs l1 l2 l3 l4 h = some x) (hK : (m_yK (fun (s : Nat × Nat × Nat × Int32) (h : q_H) => q_Ev (some (Ln, xs)) 340 23 [(0, .ref q_SC), (1, .ref (s.1)), (2, .ref (s.2.1)), (3, .ref (s.2.2.1)), (4, .int (s.2.2.2))] [] h o hz) (q_KI o hz)) x) : q_Ev (some (Ln, xs)) 340 661 [(0, .ref q_SC), (1, .ref l1), (2, .ref l2), (3, .ref l3), (4, .int l4)] [] h o hz := by
  unfold f340_661 at hf
  refine ev_goto (q_cod qk340 rfl) (by decide) ?_
  exact (f340_2357_ok hf hK)
def f340_659 (Ln : Nat) (xs : Nat → Int32) : m_M Int32 :=
  m_R 0
set_option maxRecDepth 20000 in
theorem f340_659_ok {Ln : Nat} {xs : Nat → Int32} {h : q_H} {o : q_O} {hz : q_H} {x : Int32 × q_H} (hf : f340_659 Ln xs h = some x) (hK : (q_KI o hz) x) : q_Ev (some (Ln, xs)) 340 659 [] [] h o hz := by
  unfold f340_659 at hf
  refine ev_ic (v := 0) (q_cod qk340 rfl) (by decide) (by decide) ?_
  obtain rfl := m_R_inv hf
  obtain ⟨rfl, rfl⟩ := (show q_KI o hz (0, _) from hK)
  exact ev_ret (q_cod qk340 rfl) rfl
def f340_642 (Ln : Nat) (xs : Nat → Int32) : m_M Int32 :=
  m_R 0
set_option maxRecDepth 20000 in
theorem f340_642_ok {Ln : Nat} {xs : Nat → Int32} {h : q_H} {o : q_O} {hz : q_H} {x : Int32 × q_H} (hf : f340_642 Ln xs h = some x) (hK : (q_KI o hz) x) : q_Ev (some (Ln, xs)) 340 642 [] [] h o hz := by
  unfold f340_642 at hf
  refine ev_ic (v := 0) (q_cod qk340 rfl) (by decide) (by decide) ?_
  obtain rfl := m_R_inv hf
  obtain ⟨rfl, rfl⟩ := (show q_KI o hz (0, _) from hK)
  exact ev_ret (q_cod qk340 rfl) rfl
def f340_572 (Ln : Nat) (xs : Nat → Int32) (l1 : Nat) (l2 : Nat) (l3 : Nat) (l4 : Int32) : m_M ((Nat × Nat × Nat × Int32) ⊕ Int32) :=
  m_B (m_G (q_ins (l4 + 1) Ln = true)) (fun _ => m_B (m_G (q_ins (l4 + 2) Ln = true)) (fun _ => m_B (m_G (q_ins (l4 + 3) Ln = true)) (fun _ => m_B (m_G (q_ins (l4 + 4) Ln = true)) (fun _ => m_B (f316 l1 (xs (l4 + 1).toNatClampNeg) (xs (l4 + 2).toNatClampNeg) (xs (l4 + 3).toNatClampNeg) (xs (l4 + 4).toNatClampNeg) l3) (fun v5 => m_B (m_G (q_ins (l4 + 1) Ln = true)) (fun _ => m_B (m_G (q_ins (l4 + 2) Ln = true)) (fun _ => m_B (m_G (q_ins (l4 + 3) Ln = true)) (fun _ => m_B (m_G (q_ins (l4 + 4) Ln = true)) (fun _ => m_B (m_aK l2 12) (fun _ => m_B (f191 l2 (xs (l4 + 1).toNatClampNeg) (xs (l4 + 2).toNatClampNeg) (xs (l4 + 3).toNatClampNeg) (xs (l4 + 4).toNatClampNeg)) (fun v11 => m_B (m_aK l2 12) (fun _ => m_B (f177 l2) (fun v13 => if v13 = v5 then (if v5 = 0 then (m_B (m_lJ l3 0) (fun v14 => if (lg_cmp v14 (v11.toInt64)) = 0 then (f340_661 Ln xs l1 l2 l3 l4) else (m_B (f340_659 Ln xs) (fun r => m_R (.inr r))))) else (f340_661 Ln xs l1 l2 l3 l4)) else (m_B (f340_642 Ln xs) (fun r => m_R (.inr r))))))))))))))))
set_option maxRecDepth 20000 in
theorem f340_572_ok {Ln : Nat} {xs : Nat → Int32} {l1 : Nat} {l2 : Nat} {l3 : Nat} {l4 : Int32} {h : q_H} {o : q_O} {hz : q_H} {x : ((Nat × Nat × Nat × Int32) ⊕ Int32) × q_H} (hf : f340_572 Ln xs l1 l2 l3 l4 h = some x) (hK : (m_yK (fun (s : Nat × Nat × Nat × Int32) (h : q_H) => q_Ev (some (Ln, xs)) 340 23 [(0, .ref q_SC), (1, .ref (s.1)), (2, .ref (s.2.1)), (3, .ref (s.2.2.1)), (4, .int (s.2.2.2))] [] h o hz) (q_KI o hz)) x) : q_Ev (some (Ln, xs)) 340 572 [(0, .ref q_SC), (1, .ref l1), (2, .ref l2), (3, .ref l3), (4, .int l4)] [] h o hz := by
  unfold f340_572 at hf
  refine ev_aload_n (q_cod qk340 rfl) (by decide) rfl ?_
  refine ev_aload_n (q_cod qk340 rfl) (by decide) rfl ?_
  refine ev_iload (q_cod qk340 rfl) (by decide) rfl ?_
  refine ev_ic (v := 1) (q_cod qk340 rfl) (by decide) (by decide) ?_
  refine ev_iadd (q_cod qk340 rfl) (by decide) ?_
  refine em_sald (q_cod qk340 rfl) (by decide) hf (fun hf => ?_)
  refine ev_aload_n (q_cod qk340 rfl) (by decide) rfl ?_
  refine ev_iload (q_cod qk340 rfl) (by decide) rfl ?_
  refine ev_ic (v := 2) (q_cod qk340 rfl) (by decide) (by decide) ?_
  refine ev_iadd (q_cod qk340 rfl) (by decide) ?_
  refine em_sald (q_cod qk340 rfl) (by decide) hf (fun hf => ?_)
  refine ev_aload_n (q_cod qk340 rfl) (by decide) rfl ?_
  refine ev_iload (q_cod qk340 rfl) (by decide) rfl ?_
  refine ev_ic (v := 3) (q_cod qk340 rfl) (by decide) (by decide) ?_
  refine ev_iadd (q_cod qk340 rfl) (by decide) ?_
  refine em_sald (q_cod qk340 rfl) (by decide) hf (fun hf => ?_)
  refine ev_aload_n (q_cod qk340 rfl) (by decide) rfl ?_
  refine ev_iload (q_cod qk340 rfl) (by decide) rfl ?_
  refine ev_ic (v := 4) (q_cod qk340 rfl) (by decide) (by decide) ?_
  refine ev_iadd (q_cod qk340 rfl) (by decide) ?_
  refine em_sald (q_cod qk340 rfl) (by decide) hf (fun hf => ?_)
  refine ev_aload_n (q_cod qk340 rfl) (by decide) rfl ?_
  refine em_call (v := (fun u => some (.int u))) (q_cod qk340 rfl) rfl rfl (q_cokS rfl rfl) rfl (fun x e => f316_cl e) hf (fun v5 h hf => ?_)
  refine ev_is2 (L' := [(0, .ref q_SC), (1, .ref l1), (2, .ref l2), (3, .ref l3), (4, .int l4), (5, .int v5)]) (q_cod qk340 rfl) (by decide) rfl ?_
  refine ev_aload_n (q_cod qk340 rfl) (by decide) rfl ?_
  refine ev_aload_n (q_cod qk340 rfl) (by decide) rfl ?_
  refine ev_iload (q_cod qk340 rfl) (by decide) rfl ?_
  refine ev_ic (v := 1) (q_cod qk340 rfl) (by decide) (by decide) ?_
  refine ev_iadd (q_cod qk340 rfl) (by decide) ?_
  refine em_sald (q_cod qk340 rfl) (by decide) hf (fun hf => ?_)
  refine ev_aload_n (q_cod qk340 rfl) (by decide) rfl ?_
  refine ev_iload (q_cod qk340 rfl) (by decide) rfl ?_
  refine ev_ic (v := 2) (q_cod qk340 rfl) (by decide) (by decide) ?_
  refine ev_iadd (q_cod qk340 rfl) (by decide) ?_
  refine em_sald (q_cod qk340 rfl) (by decide) hf (fun hf => ?_)
  refine ev_aload_n (q_cod qk340 rfl) (by decide) rfl ?_
  refine ev_iload (q_cod qk340 rfl) (by decide) rfl ?_
  refine ev_ic (v := 3) (q_cod qk340 rfl) (by decide) (by decide) ?_
  refine ev_iadd (q_cod qk340 rfl) (by decide) ?_
  refine em_sald (q_cod qk340 rfl) (by decide) hf (fun hf => ?_)
  refine ev_aload_n (q_cod qk340 rfl) (by decide) rfl ?_
  refine ev_iload (q_cod qk340 rfl) (by decide) rfl ?_
  refine ev_ic (v := 4) (q_cod qk340 rfl) (by decide) (by decide) ?_
  refine ev_iadd (q_cod qk340 rfl) (by decide) ?_
  refine em_sald (q_cod qk340 rfl) (by decide) hf (fun hf => ?_)
  obtain ⟨g10, hf⟩ := m_aK_some hf
  refine em_call (v := (fun u => some (.int u))) (q_cod qk340 rfl) rfl rfl (q_cokV rfl rfl (Or.inr g10)) rfl (fun x e => f191_cl e) hf (fun v11 h hf => ?_)
  refine ev_is2 (L' := [(0, .ref q_SC), (1, .ref l1), (2, .ref l2), (3, .ref l3), (4, .int l4), (5, .int v5), (6, .int v11)]) (q_cod qk340 rfl) (by decide) rfl ?_
  refine ev_aload_n (q_cod qk340 rfl) (by decide) rfl ?_
  obtain ⟨g12, hf⟩ := m_aK_some hf
  refine em_call (v := (fun u => some (.int u))) (q_cod qk340 rfl) rfl rfl (q_cokV rfl rfl (Or.inr g12)) rfl (fun x e => f177_cl e) hf (fun v13 h hf => ?_)
  refine ev_iload (q_cod qk340 rfl) (by decide) rfl ?_
  refine em_ic_eq (q_cod qk340 rfl) (by decide) hf (fun c17 hf => ?_) (fun c17 hf => ?_)
  · refine ev_iload (q_cod qk340 rfl) (by decide) rfl ?_
    refine em_if_ne (q_cod qk340 rfl) (by decide) hf (fun c16 hf => ?_) (fun c16 hf => ?_)
    · refine ev_aload_n (q_cod qk340 rfl) (by decide) rfl ?_
      refine ev_ic (v := 0) (q_cod qk340 rfl) (by decide) (by decide) ?_
      refine em_lJ (q_cod qk340 rfl) (by decide) hf (fun v14 hf => ?_)
      refine ev_iload (q_cod qk340 rfl) (by decide) rfl ?_
      refine ev_i2l (q_cod qk340 rfl) (by decide) ?_
      refine ev_lcmp (q_cod qk340 rfl) (by decide) ?_
      refine em_if_eq (q_cod qk340 rfl) (by decide) hf (fun c15 hf => ?_) (fun c15 hf => ?_)
      · exact ev_weak (q_pk [0, 1, 2, 3, 4] rfl) (f340_661_ok hf hK)
      · obtain ⟨y0, hf0, hx⟩ := m_inr_some hf
        subst hx
        exact ev_weak (q_pk [] rfl) (f340_659_ok hf0 hK)
    · exact ev_weak (q_pk [0, 1, 2, 3, 4] rfl) (f340_661_ok hf hK)
  · obtain ⟨y0, hf0, hx⟩ := m_inr_some hf
    subst hx
    exact ev_weak (q_pk [] rfl) (f340_642_ok hf0 hK)
def f340_717 (Ln : Nat) (xs : Nat → Int32) (l1 : Nat) (l2 : Nat) (l3 : Nat) (l4 : Int32) : m_M ((Nat × Nat × Nat × Int32) ⊕ Int32) :=
  f340_2357 Ln xs l1 l2 l3 l4
set_option maxRecDepth 20000 in
theorem f340_717_ok {Ln : Nat} {xs : Nat → Int32} {l1 : Nat} {l2 : Nat} {l3 : Nat} {l4 : Int32} {h : q_H} {o : q_O} {hz : q_H} {x : ((Nat × Nat × Nat × Int32) ⊕ Int32) × q_H} (hf : f340_717 Ln xs l1 l2 l3 l4 h = some x) (hK : (m_yK (fun (s : Nat × Nat × Nat × Int32) (h : q_H) => q_Ev (some (Ln, xs)) 340 23 [(0, .ref q_SC), (1, .ref (s.1)), (2, .ref (s.2.1)), (3, .ref (s.2.2.1)), (4, .int (s.2.2.2))] [] h o hz) (q_KI o hz)) x) : q_Ev (some (Ln, xs)) 340 717 [(0, .ref q_SC), (1, .ref l1), (2, .ref l2), (3, .ref l3), (4, .int l4)] [] h o hz := by
  unfold f340_717 at hf
  refine ev_goto (q_cod qk340 rfl) (by decide) ?_
  exact (f340_2357_ok hf hK)
def f340_715 (Ln : Nat) (xs : Nat → Int32) : m_M Int32 :=
  m_R 0
set_option maxRecDepth 20000 in
theorem f340_715_ok {Ln : Nat} {xs : Nat → Int32} {h : q_H} {o : q_O} {hz : q_H} {x : Int32 × q_H} (hf : f340_715 Ln xs h = some x) (hK : (q_KI o hz) x) : q_Ev (some (Ln, xs)) 340 715 [] [] h o hz := by
  unfold f340_715 at hf
  refine ev_ic (v := 0) (q_cod qk340 rfl) (by decide) (by decide) ?_
  obtain rfl := m_R_inv hf
  obtain ⟨rfl, rfl⟩ := (show q_KI o hz (0, _) from hK)
  exact ev_ret (q_cod qk340 rfl) rfl
def f340_698 (Ln : Nat) (xs : Nat → Int32) : m_M Int32 :=
  m_R 0
set_option maxRecDepth 20000 in
theorem f340_698_ok {Ln : Nat} {xs : Nat → Int32} {h : q_H} {o : q_O} {hz : q_H} {x : Int32 × q_H} (hf : f340_698 Ln xs h = some x) (hK : (q_KI o hz) x) : q_Ev (some (Ln, xs)) 340 698 [] [] h o hz := by
  unfold f340_698 at hf
  refine ev_ic (v := 0) (q_cod qk340 rfl) (by decide) (by decide) ?_
  obtain rfl := m_R_inv hf
  obtain ⟨rfl, rfl⟩ := (show q_KI o hz (0, _) from hK)
  exact ev_ret (q_cod qk340 rfl) rfl
def f340_664 (Ln : Nat) (xs : Nat → Int32) (l1 : Nat) (l2 : Nat) (l3 : Nat) (l4 : Int32) : m_M ((Nat × Nat × Nat × Int32) ⊕ Int32) :=
  m_B (m_G (q_ins (l4 + 1) Ln = true)) (fun _ => m_B (f317 l1 (xs (l4 + 1).toNatClampNeg) l3) (fun v2 => m_B (m_G (q_ins (l4 + 1) Ln = true)) (fun _ => m_B (m_aK l2 12) (fun _ => m_B (f192 l2 (xs (l4 + 1).toNatClampNeg)) (fun v5 => m_B (m_aK l2 12) (fun _ => m_B (f177 l2) (fun v7 => if v7 = v2 then (if v2 = 0 then (m_B (m_lJ l3 0) (fun v8 => if (lg_cmp v8 (v5.toInt64)) = 0 then (f340_717 Ln xs l1 l2 l3 l4) else (m_B (f340_715 Ln xs) (fun r => m_R (.inr r))))) else (f340_717 Ln xs l1 l2 l3 l4)) else (m_B (f340_698 Ln xs) (fun r => m_R (.inr r))))))))))
set_option maxRecDepth 20000 in
theorem f340_664_ok {Ln : Nat} {xs : Nat → Int32} {l1 : Nat} {l2 : Nat} {l3 : Nat} {l4 : Int32} {h : q_H} {o : q_O} {hz : q_H} {x : ((Nat × Nat × Nat × Int32) ⊕ Int32) × q_H} (hf : f340_664 Ln xs l1 l2 l3 l4 h = some x) (hK : (m_yK (fun (s : Nat × Nat × Nat × Int32) (h : q_H) => q_Ev (some (Ln, xs)) 340 23 [(0, .ref q_SC), (1, .ref (s.1)), (2, .ref (s.2.1)), (3, .ref (s.2.2.1)), (4, .int (s.2.2.2))] [] h o hz) (q_KI o hz)) x) : q_Ev (some (Ln, xs)) 340 664 [(0, .ref q_SC), (1, .ref l1), (2, .ref l2), (3, .ref l3), (4, .int l4)] [] h o hz := by
  unfold f340_664 at hf
  refine ev_aload_n (q_cod qk340 rfl) (by decide) rfl ?_
  refine ev_aload_n (q_cod qk340 rfl) (by decide) rfl ?_
  refine ev_iload (q_cod qk340 rfl) (by decide) rfl ?_
  refine ev_ic (v := 1) (q_cod qk340 rfl) (by decide) (by decide) ?_
  refine ev_iadd (q_cod qk340 rfl) (by decide) ?_
  refine em_sald (q_cod qk340 rfl) (by decide) hf (fun hf => ?_)
  refine ev_aload_n (q_cod qk340 rfl) (by decide) rfl ?_
  refine em_call (v := (fun u => some (.int u))) (q_cod qk340 rfl) rfl rfl (q_cokS rfl rfl) rfl (fun x e => f317_cl e) hf (fun v2 h hf => ?_)
  refine ev_is2 (L' := [(0, .ref q_SC), (1, .ref l1), (2, .ref l2), (3, .ref l3), (4, .int l4), (5, .int v2)]) (q_cod qk340 rfl) (by decide) rfl ?_
  refine ev_aload_n (q_cod qk340 rfl) (by decide) rfl ?_
  refine ev_aload_n (q_cod qk340 rfl) (by decide) rfl ?_
  refine ev_iload (q_cod qk340 rfl) (by decide) rfl ?_
  refine ev_ic (v := 1) (q_cod qk340 rfl) (by decide) (by decide) ?_
  refine ev_iadd (q_cod qk340 rfl) (by decide) ?_
  refine em_sald (q_cod qk340 rfl) (by decide) hf (fun hf => ?_)
  obtain ⟨g4, hf⟩ := m_aK_some hf
  refine em_call (v := (fun u => some (.int u))) (q_cod qk340 rfl) rfl rfl (q_cokV rfl rfl (Or.inr g4)) rfl (fun x e => f192_cl e) hf (fun v5 h hf => ?_)
  refine ev_is2 (L' := [(0, .ref q_SC), (1, .ref l1), (2, .ref l2), (3, .ref l3), (4, .int l4), (5, .int v2), (6, .int v5)]) (q_cod qk340 rfl) (by decide) rfl ?_
  refine ev_aload_n (q_cod qk340 rfl) (by decide) rfl ?_
  obtain ⟨g6, hf⟩ := m_aK_some hf
  refine em_call (v := (fun u => some (.int u))) (q_cod qk340 rfl) rfl rfl (q_cokV rfl rfl (Or.inr g6)) rfl (fun x e => f177_cl e) hf (fun v7 h hf => ?_)
  refine ev_iload (q_cod qk340 rfl) (by decide) rfl ?_
  refine em_ic_eq (q_cod qk340 rfl) (by decide) hf (fun c11 hf => ?_) (fun c11 hf => ?_)
  · refine ev_iload (q_cod qk340 rfl) (by decide) rfl ?_
    refine em_if_ne (q_cod qk340 rfl) (by decide) hf (fun c10 hf => ?_) (fun c10 hf => ?_)
    · refine ev_aload_n (q_cod qk340 rfl) (by decide) rfl ?_
      refine ev_ic (v := 0) (q_cod qk340 rfl) (by decide) (by decide) ?_
      refine em_lJ (q_cod qk340 rfl) (by decide) hf (fun v8 hf => ?_)
      refine ev_iload (q_cod qk340 rfl) (by decide) rfl ?_
      refine ev_i2l (q_cod qk340 rfl) (by decide) ?_
      refine ev_lcmp (q_cod qk340 rfl) (by decide) ?_
      refine em_if_eq (q_cod qk340 rfl) (by decide) hf (fun c9 hf => ?_) (fun c9 hf => ?_)
      · exact ev_weak (q_pk [0, 1, 2, 3, 4] rfl) (f340_717_ok hf hK)
      · obtain ⟨y0, hf0, hx⟩ := m_inr_some hf
        subst hx
        exact ev_weak (q_pk [] rfl) (f340_715_ok hf0 hK)
    · exact ev_weak (q_pk [0, 1, 2, 3, 4] rfl) (f340_717_ok hf hK)
  · obtain ⟨y0, hf0, hx⟩ := m_inr_some hf
    subst hx
    exact ev_weak (q_pk [] rfl) (f340_698_ok hf0 hK)
def f340_797 (Ln : Nat) (xs : Nat → Int32) (l1 : Nat) (l2 : Nat) (l3 : Nat) (l4 : Int32) : m_M ((Nat × Nat × Nat × Int32) ⊕ Int32) :=
  f340_2357 Ln xs l1 l2 l3 l4
set_option maxRecDepth 20000 in
theorem f340_797_ok {Ln : Nat} {xs : Nat → Int32} {l1 : Nat} {l2 : Nat} {l3 : Nat} {l4 : Int32} {h : q_H} {o : q_O} {hz : q_H} {x : ((Nat × Nat × Nat × Int32) ⊕ Int32) × q_H} (hf : f340_797 Ln xs l1 l2 l3 l4 h = some x) (hK : (m_yK (fun (s : Nat × Nat × Nat × Int32) (h : q_H) => q_Ev (some (Ln, xs)) 340 23 [(0, .ref q_SC), (1, .ref (s.1)), (2, .ref (s.2.1)), (3, .ref (s.2.2.1)), (4, .int (s.2.2.2))] [] h o hz) (q_KI o hz)) x) : q_Ev (some (Ln, xs)) 340 797 [(0, .ref q_SC), (1, .ref l1), (2, .ref l2), (3, .ref l3), (4, .int l4)] [] h o hz := by
  unfold f340_797 at hf
  refine ev_goto (q_cod qk340 rfl) (by decide) ?_
  exact (f340_2357_ok hf hK)
def f340_795 (Ln : Nat) (xs : Nat → Int32) : m_M Int32 :=
  m_R 0
set_option maxRecDepth 20000 in
theorem f340_795_ok {Ln : Nat} {xs : Nat → Int32} {h : q_H} {o : q_O} {hz : q_H} {x : Int32 × q_H} (hf : f340_795 Ln xs h = some x) (hK : (q_KI o hz) x) : q_Ev (some (Ln, xs)) 340 795 [] [] h o hz := by
  unfold f340_795 at hf
  refine ev_ic (v := 0) (q_cod qk340 rfl) (by decide) (by decide) ?_
  obtain rfl := m_R_inv hf
  obtain ⟨rfl, rfl⟩ := (show q_KI o hz (0, _) from hK)
  exact ev_ret (q_cod qk340 rfl) rfl
def f340_778 (Ln : Nat) (xs : Nat → Int32) : m_M Int32 :=
  m_R 0
set_option maxRecDepth 20000 in
theorem f340_778_ok {Ln : Nat} {xs : Nat → Int32} {h : q_H} {o : q_O} {hz : q_H} {x : Int32 × q_H} (hf : f340_778 Ln xs h = some x) (hK : (q_KI o hz) x) : q_Ev (some (Ln, xs)) 340 778 [] [] h o hz := by
  unfold f340_778 at hf
  refine ev_ic (v := 0) (q_cod qk340 rfl) (by decide) (by decide) ?_
  obtain rfl := m_R_inv hf
  obtain ⟨rfl, rfl⟩ := (show q_KI o hz (0, _) from hK)
  exact ev_ret (q_cod qk340 rfl) rfl
def f340_720 (Ln : Nat) (xs : Nat → Int32) (l1 : Nat) (l2 : Nat) (l3 : Nat) (l4 : Int32) : m_M ((Nat × Nat × Nat × Int32) ⊕ Int32) :=
  m_B (m_G (q_ins (l4 + 1) Ln = true)) (fun _ => m_B (m_G (q_ins (l4 + 2) Ln = true)) (fun _ => m_B (m_G (q_ins (l4 + 3) Ln = true)) (fun _ => m_B (f318 l1 (xs (l4 + 1).toNatClampNeg) (xs (l4 + 2).toNatClampNeg) (xs (l4 + 3).toNatClampNeg) l3) (fun v4 => m_B (m_G (q_ins (l4 + 1) Ln = true)) (fun _ => m_B (m_G (q_ins (l4 + 2) Ln = true)) (fun _ => m_B (m_G (q_ins (l4 + 3) Ln = true)) (fun _ => m_B (m_aK l2 12) (fun _ => m_B (f193 l2 (xs (l4 + 1).toNatClampNeg) (xs (l4 + 2).toNatClampNeg) (xs (l4 + 3).toNatClampNeg)) (fun v9 => m_B (m_aK l2 12) (fun _ => m_B (f177 l2) (fun v11 => if v11 = v4 then (if v4 = 0 then (m_B (m_lJ l3 0) (fun v12 => if (lg_cmp v12 (v9.toInt64)) = 0 then (f340_797 Ln xs l1 l2 l3 l4) else (m_B (f340_795 Ln xs) (fun r => m_R (.inr r))))) else (f340_797 Ln xs l1 l2 l3 l4)) else (m_B (f340_778 Ln xs) (fun r => m_R (.inr r))))))))))))))
set_option maxRecDepth 20000 in
theorem f340_720_ok {Ln : Nat} {xs : Nat → Int32} {l1 : Nat} {l2 : Nat} {l3 : Nat} {l4 : Int32} {h : q_H} {o : q_O} {hz : q_H} {x : ((Nat × Nat × Nat × Int32) ⊕ Int32) × q_H} (hf : f340_720 Ln xs l1 l2 l3 l4 h = some x) (hK : (m_yK (fun (s : Nat × Nat × Nat × Int32) (h : q_H) => q_Ev (some (Ln, xs)) 340 23 [(0, .ref q_SC), (1, .ref (s.1)), (2, .ref (s.2.1)), (3, .ref (s.2.2.1)), (4, .int (s.2.2.2))] [] h o hz) (q_KI o hz)) x) : q_Ev (some (Ln, xs)) 340 720 [(0, .ref q_SC), (1, .ref l1), (2, .ref l2), (3, .ref l3), (4, .int l4)] [] h o hz := by
  unfold f340_720 at hf
  refine ev_aload_n (q_cod qk340 rfl) (by decide) rfl ?_
  refine ev_aload_n (q_cod qk340 rfl) (by decide) rfl ?_
  refine ev_iload (q_cod qk340 rfl) (by decide) rfl ?_
  refine ev_ic (v := 1) (q_cod qk340 rfl) (by decide) (by decide) ?_
  refine ev_iadd (q_cod qk340 rfl) (by decide) ?_
  refine em_sald (q_cod qk340 rfl) (by decide) hf (fun hf => ?_)
  refine ev_aload_n (q_cod qk340 rfl) (by decide) rfl ?_
  refine ev_iload (q_cod qk340 rfl) (by decide) rfl ?_
  refine ev_ic (v := 2) (q_cod qk340 rfl) (by decide) (by decide) ?_
  refine ev_iadd (q_cod qk340 rfl) (by decide) ?_
  refine em_sald (q_cod qk340 rfl) (by decide) hf (fun hf => ?_)
  refine ev_aload_n (q_cod qk340 rfl) (by decide) rfl ?_
  refine ev_iload (q_cod qk340 rfl) (by decide) rfl ?_
  refine ev_ic (v := 3) (q_cod qk340 rfl) (by decide) (by decide) ?_
  refine ev_iadd (q_cod qk340 rfl) (by decide) ?_
  refine em_sald (q_cod qk340 rfl) (by decide) hf (fun hf => ?_)
  refine ev_aload_n (q_cod qk340 rfl) (by decide) rfl ?_
  refine em_call (v := (fun u => some (.int u))) (q_cod qk340 rfl) rfl rfl (q_cokS rfl rfl) rfl (fun x e => f318_cl e) hf (fun v4 h hf => ?_)
  refine ev_is2 (L' := [(0, .ref q_SC), (1, .ref l1), (2, .ref l2), (3, .ref l3), (4, .int l4), (5, .int v4)]) (q_cod qk340 rfl) (by decide) rfl ?_
  refine ev_aload_n (q_cod qk340 rfl) (by decide) rfl ?_
  refine ev_aload_n (q_cod qk340 rfl) (by decide) rfl ?_
  refine ev_iload (q_cod qk340 rfl) (by decide) rfl ?_
  refine ev_ic (v := 1) (q_cod qk340 rfl) (by decide) (by decide) ?_
  refine ev_iadd (q_cod qk340 rfl) (by decide) ?_
  refine em_sald (q_cod qk340 rfl) (by decide) hf (fun hf => ?_)
  refine ev_aload_n (q_cod qk340 rfl) (by decide) rfl ?_
  refine ev_iload (q_cod qk340 rfl) (by decide) rfl ?_
  refine ev_ic (v := 2) (q_cod qk340 rfl) (by decide) (by decide) ?_
  refine ev_iadd (q_cod qk340 rfl) (by decide) ?_
  refine em_sald (q_cod qk340 rfl) (by decide) hf (fun hf => ?_)
  refine ev_aload_n (q_cod qk340 rfl) (by decide) rfl ?_
  refine ev_iload (q_cod qk340 rfl) (by decide) rfl ?_
  refine ev_ic (v := 3) (q_cod qk340 rfl) (by decide) (by decide) ?_
  refine ev_iadd (q_cod qk340 rfl) (by decide) ?_
  refine em_sald (q_cod qk340 rfl) (by decide) hf (fun hf => ?_)
  obtain ⟨g8, hf⟩ := m_aK_some hf
  refine em_call (v := (fun u => some (.int u))) (q_cod qk340 rfl) rfl rfl (q_cokV rfl rfl (Or.inr g8)) rfl (fun x e => f193_cl e) hf (fun v9 h hf => ?_)
  refine ev_is2 (L' := [(0, .ref q_SC), (1, .ref l1), (2, .ref l2), (3, .ref l3), (4, .int l4), (5, .int v4), (6, .int v9)]) (q_cod qk340 rfl) (by decide) rfl ?_
  refine ev_aload_n (q_cod qk340 rfl) (by decide) rfl ?_
  obtain ⟨g10, hf⟩ := m_aK_some hf
  refine em_call (v := (fun u => some (.int u))) (q_cod qk340 rfl) rfl rfl (q_cokV rfl rfl (Or.inr g10)) rfl (fun x e => f177_cl e) hf (fun v11 h hf => ?_)
  refine ev_iload (q_cod qk340 rfl) (by decide) rfl ?_
  refine em_ic_eq (q_cod qk340 rfl) (by decide) hf (fun c15 hf => ?_) (fun c15 hf => ?_)
  · refine ev_iload (q_cod qk340 rfl) (by decide) rfl ?_
    refine em_if_ne (q_cod qk340 rfl) (by decide) hf (fun c14 hf => ?_) (fun c14 hf => ?_)
    · refine ev_aload_n (q_cod qk340 rfl) (by decide) rfl ?_
      refine ev_ic (v := 0) (q_cod qk340 rfl) (by decide) (by decide) ?_
      refine em_lJ (q_cod qk340 rfl) (by decide) hf (fun v12 hf => ?_)
      refine ev_iload (q_cod qk340 rfl) (by decide) rfl ?_
      refine ev_i2l (q_cod qk340 rfl) (by decide) ?_
      refine ev_lcmp (q_cod qk340 rfl) (by decide) ?_
      refine em_if_eq (q_cod qk340 rfl) (by decide) hf (fun c13 hf => ?_) (fun c13 hf => ?_)
      · exact ev_weak (q_pk [0, 1, 2, 3, 4] rfl) (f340_797_ok hf hK)
      · obtain ⟨y0, hf0, hx⟩ := m_inr_some hf
        subst hx
        exact ev_weak (q_pk [] rfl) (f340_795_ok hf0 hK)
    · exact ev_weak (q_pk [0, 1, 2, 3, 4] rfl) (f340_797_ok hf hK)
  · obtain ⟨y0, hf0, hx⟩ := m_inr_some hf
    subst hx
    exact ev_weak (q_pk [] rfl) (f340_778_ok hf0 hK)
def f340_877 (Ln : Nat) (xs : Nat → Int32) (l1 : Nat) (l2 : Nat) (l3 : Nat) (l4 : Int32) : m_M ((Nat × Nat × Nat × Int32) ⊕ Int32) :=
  f340_2357 Ln xs l1 l2 l3 l4
set_option maxRecDepth 20000 in
theorem f340_877_ok {Ln : Nat} {xs : Nat → Int32} {l1 : Nat} {l2 : Nat} {l3 : Nat} {l4 : Int32} {h : q_H} {o : q_O} {hz : q_H} {x : ((Nat × Nat × Nat × Int32) ⊕ Int32) × q_H} (hf : f340_877 Ln xs l1 l2 l3 l4 h = some x) (hK : (m_yK (fun (s : Nat × Nat × Nat × Int32) (h : q_H) => q_Ev (some (Ln, xs)) 340 23 [(0, .ref q_SC), (1, .ref (s.1)), (2, .ref (s.2.1)), (3, .ref (s.2.2.1)), (4, .int (s.2.2.2))] [] h o hz) (q_KI o hz)) x) : q_Ev (some (Ln, xs)) 340 877 [(0, .ref q_SC), (1, .ref l1), (2, .ref l2), (3, .ref l3), (4, .int l4)] [] h o hz := by
  unfold f340_877 at hf
  refine ev_goto (q_cod qk340 rfl) (by decide) ?_
  exact (f340_2357_ok hf hK)
def f340_875 (Ln : Nat) (xs : Nat → Int32) : m_M Int32 :=
  m_R 0
set_option maxRecDepth 20000 in
theorem f340_875_ok {Ln : Nat} {xs : Nat → Int32} {h : q_H} {o : q_O} {hz : q_H} {x : Int32 × q_H} (hf : f340_875 Ln xs h = some x) (hK : (q_KI o hz) x) : q_Ev (some (Ln, xs)) 340 875 [] [] h o hz := by
  unfold f340_875 at hf
  refine ev_ic (v := 0) (q_cod qk340 rfl) (by decide) (by decide) ?_
  obtain rfl := m_R_inv hf
  obtain ⟨rfl, rfl⟩ := (show q_KI o hz (0, _) from hK)
  exact ev_ret (q_cod qk340 rfl) rfl
def f340_858 (Ln : Nat) (xs : Nat → Int32) : m_M Int32 :=
  m_R 0
set_option maxRecDepth 20000 in
theorem f340_858_ok {Ln : Nat} {xs : Nat → Int32} {h : q_H} {o : q_O} {hz : q_H} {x : Int32 × q_H} (hf : f340_858 Ln xs h = some x) (hK : (q_KI o hz) x) : q_Ev (some (Ln, xs)) 340 858 [] [] h o hz := by
  unfold f340_858 at hf
  refine ev_ic (v := 0) (q_cod qk340 rfl) (by decide) (by decide) ?_
  obtain rfl := m_R_inv hf
  obtain ⟨rfl, rfl⟩ := (show q_KI o hz (0, _) from hK)
  exact ev_ret (q_cod qk340 rfl) rfl
def f340_800 (Ln : Nat) (xs : Nat → Int32) (l1 : Nat) (l2 : Nat) (l3 : Nat) (l4 : Int32) : m_M ((Nat × Nat × Nat × Int32) ⊕ Int32) :=
  m_B (m_G (q_ins (l4 + 1) Ln = true)) (fun _ => m_B (m_G (q_ins (l4 + 2) Ln = true)) (fun _ => m_B (m_G (q_ins (l4 + 3) Ln = true)) (fun _ => m_B (f319 l1 (xs (l4 + 1).toNatClampNeg) (xs (l4 + 2).toNatClampNeg) (xs (l4 + 3).toNatClampNeg) l3) (fun v4 => m_B (m_G (q_ins (l4 + 1) Ln = true)) (fun _ => m_B (m_G (q_ins (l4 + 2) Ln = true)) (fun _ => m_B (m_G (q_ins (l4 + 3) Ln = true)) (fun _ => m_B (m_aK l2 12) (fun _ => m_B (f194 l2 (xs (l4 + 1).toNatClampNeg) (xs (l4 + 2).toNatClampNeg) (xs (l4 + 3).toNatClampNeg)) (fun v9 => m_B (m_aK l2 12) (fun _ => m_B (f177 l2) (fun v11 => if v11 = v4 then (if v4 = 0 then (m_B (m_lJ l3 0) (fun v12 => if (lg_cmp v12 (v9.toInt64)) = 0 then (f340_877 Ln xs l1 l2 l3 l4) else (m_B (f340_875 Ln xs) (fun r => m_R (.inr r))))) else (f340_877 Ln xs l1 l2 l3 l4)) else (m_B (f340_858 Ln xs) (fun r => m_R (.inr r))))))))))))))
set_option maxRecDepth 20000 in
theorem f340_800_ok {Ln : Nat} {xs : Nat → Int32} {l1 : Nat} {l2 : Nat} {l3 : Nat} {l4 : Int32} {h : q_H} {o : q_O} {hz : q_H} {x : ((Nat × Nat × Nat × Int32) ⊕ Int32) × q_H} (hf : f340_800 Ln xs l1 l2 l3 l4 h = some x) (hK : (m_yK (fun (s : Nat × Nat × Nat × Int32) (h : q_H) => q_Ev (some (Ln, xs)) 340 23 [(0, .ref q_SC), (1, .ref (s.1)), (2, .ref (s.2.1)), (3, .ref (s.2.2.1)), (4, .int (s.2.2.2))] [] h o hz) (q_KI o hz)) x) : q_Ev (some (Ln, xs)) 340 800 [(0, .ref q_SC), (1, .ref l1), (2, .ref l2), (3, .ref l3), (4, .int l4)] [] h o hz := by
  unfold f340_800 at hf
  refine ev_aload_n (q_cod qk340 rfl) (by decide) rfl ?_
  refine ev_aload_n (q_cod qk340 rfl) (by decide) rfl ?_
  refine ev_iload (q_cod qk340 rfl) (by decide) rfl ?_
  refine ev_ic (v := 1) (q_cod qk340 rfl) (by decide) (by decide) ?_
  refine ev_iadd (q_cod qk340 rfl) (by decide) ?_
  refine em_sald (q_cod qk340 rfl) (by decide) hf (fun hf => ?_)
  refine ev_aload_n (q_cod qk340 rfl) (by decide) rfl ?_
  refine ev_iload (q_cod qk340 rfl) (by decide) rfl ?_
  refine ev_ic (v := 2) (q_cod qk340 rfl) (by decide) (by decide) ?_
  refine ev_iadd (q_cod qk340 rfl) (by decide) ?_
  refine em_sald (q_cod qk340 rfl) (by decide) hf (fun hf => ?_)
  refine ev_aload_n (q_cod qk340 rfl) (by decide) rfl ?_
  refine ev_iload (q_cod qk340 rfl) (by decide) rfl ?_
  refine ev_ic (v := 3) (q_cod qk340 rfl) (by decide) (by decide) ?_
  refine ev_iadd (q_cod qk340 rfl) (by decide) ?_
  refine em_sald (q_cod qk340 rfl) (by decide) hf (fun hf => ?_)
  refine ev_aload_n (q_cod qk340 rfl) (by decide) rfl ?_
  refine em_call (v := (fun u => some (.int u))) (q_cod qk340 rfl) rfl rfl (q_cokS rfl rfl) rfl (fun x e => f319_cl e) hf (fun v4 h hf => ?_)
  refine ev_is2 (L' := [(0, .ref q_SC), (1, .ref l1), (2, .ref l2), (3, .ref l3), (4, .int l4), (5, .int v4)]) (q_cod qk340 rfl) (by decide) rfl ?_
  refine ev_aload_n (q_cod qk340 rfl) (by decide) rfl ?_
  refine ev_aload_n (q_cod qk340 rfl) (by decide) rfl ?_
  refine ev_iload (q_cod qk340 rfl) (by decide) rfl ?_
  refine ev_ic (v := 1) (q_cod qk340 rfl) (by decide) (by decide) ?_
  refine ev_iadd (q_cod qk340 rfl) (by decide) ?_
  refine em_sald (q_cod qk340 rfl) (by decide) hf (fun hf => ?_)
  refine ev_aload_n (q_cod qk340 rfl) (by decide) rfl ?_
  refine ev_iload (q_cod qk340 rfl) (by decide) rfl ?_
  refine ev_ic (v := 2) (q_cod qk340 rfl) (by decide) (by decide) ?_
  refine ev_iadd (q_cod qk340 rfl) (by decide) ?_
  refine em_sald (q_cod qk340 rfl) (by decide) hf (fun hf => ?_)
  refine ev_aload_n (q_cod qk340 rfl) (by decide) rfl ?_
  refine ev_iload (q_cod qk340 rfl) (by decide) rfl ?_
  refine ev_ic (v := 3) (q_cod qk340 rfl) (by decide) (by decide) ?_
  refine ev_iadd (q_cod qk340 rfl) (by decide) ?_
  refine em_sald (q_cod qk340 rfl) (by decide) hf (fun hf => ?_)
  obtain ⟨g8, hf⟩ := m_aK_some hf
  refine em_call (v := (fun u => some (.int u))) (q_cod qk340 rfl) rfl rfl (q_cokV rfl rfl (Or.inr g8)) rfl (fun x e => f194_cl e) hf (fun v9 h hf => ?_)
  refine ev_is2 (L' := [(0, .ref q_SC), (1, .ref l1), (2, .ref l2), (3, .ref l3), (4, .int l4), (5, .int v4), (6, .int v9)]) (q_cod qk340 rfl) (by decide) rfl ?_
  refine ev_aload_n (q_cod qk340 rfl) (by decide) rfl ?_
  obtain ⟨g10, hf⟩ := m_aK_some hf
  refine em_call (v := (fun u => some (.int u))) (q_cod qk340 rfl) rfl rfl (q_cokV rfl rfl (Or.inr g10)) rfl (fun x e => f177_cl e) hf (fun v11 h hf => ?_)
  refine ev_iload (q_cod qk340 rfl) (by decide) rfl ?_
  refine em_ic_eq (q_cod qk340 rfl) (by decide) hf (fun c15 hf => ?_) (fun c15 hf => ?_)
  · refine ev_iload (q_cod qk340 rfl) (by decide) rfl ?_
    refine em_if_ne (q_cod qk340 rfl) (by decide) hf (fun c14 hf => ?_) (fun c14 hf => ?_)
    · refine ev_aload_n (q_cod qk340 rfl) (by decide) rfl ?_
      refine ev_ic (v := 0) (q_cod qk340 rfl) (by decide) (by decide) ?_
      refine em_lJ (q_cod qk340 rfl) (by decide) hf (fun v12 hf => ?_)
      refine ev_iload (q_cod qk340 rfl) (by decide) rfl ?_
      refine ev_i2l (q_cod qk340 rfl) (by decide) ?_
      refine ev_lcmp (q_cod qk340 rfl) (by decide) ?_
      refine em_if_eq (q_cod qk340 rfl) (by decide) hf (fun c13 hf => ?_) (fun c13 hf => ?_)
      · exact ev_weak (q_pk [0, 1, 2, 3, 4] rfl) (f340_877_ok hf hK)
      · obtain ⟨y0, hf0, hx⟩ := m_inr_some hf
        subst hx
        exact ev_weak (q_pk [] rfl) (f340_875_ok hf0 hK)
    · exact ev_weak (q_pk [0, 1, 2, 3, 4] rfl) (f340_877_ok hf hK)
  · obtain ⟨y0, hf0, hx⟩ := m_inr_some hf
    subst hx
    exact ev_weak (q_pk [] rfl) (f340_858_ok hf0 hK)
def f340_933 (Ln : Nat) (xs : Nat → Int32) (l1 : Nat) (l2 : Nat) (l3 : Nat) (l4 : Int32) : m_M ((Nat × Nat × Nat × Int32) ⊕ Int32) :=
  f340_2357 Ln xs l1 l2 l3 l4
set_option maxRecDepth 20000 in
theorem f340_933_ok {Ln : Nat} {xs : Nat → Int32} {l1 : Nat} {l2 : Nat} {l3 : Nat} {l4 : Int32} {h : q_H} {o : q_O} {hz : q_H} {x : ((Nat × Nat × Nat × Int32) ⊕ Int32) × q_H} (hf : f340_933 Ln xs l1 l2 l3 l4 h = some x) (hK : (m_yK (fun (s : Nat × Nat × Nat × Int32) (h : q_H) => q_Ev (some (Ln, xs)) 340 23 [(0, .ref q_SC), (1, .ref (s.1)), (2, .ref (s.2.1)), (3, .ref (s.2.2.1)), (4, .int (s.2.2.2))] [] h o hz) (q_KI o hz)) x) : q_Ev (some (Ln, xs)) 340 933 [(0, .ref q_SC), (1, .ref l1), (2, .ref l2), (3, .ref l3), (4, .int l4)] [] h o hz := by
  unfold f340_933 at hf
  refine ev_goto (q_cod qk340 rfl) (by decide) ?_
  exact (f340_2357_ok hf hK)
def f340_931 (Ln : Nat) (xs : Nat → Int32) : m_M Int32 :=
  m_R 0
set_option maxRecDepth 20000 in
theorem f340_931_ok {Ln : Nat} {xs : Nat → Int32} {h : q_H} {o : q_O} {hz : q_H} {x : Int32 × q_H} (hf : f340_931 Ln xs h = some x) (hK : (q_KI o hz) x) : q_Ev (some (Ln, xs)) 340 931 [] [] h o hz := by
  unfold f340_931 at hf
  refine ev_ic (v := 0) (q_cod qk340 rfl) (by decide) (by decide) ?_
  obtain rfl := m_R_inv hf
  obtain ⟨rfl, rfl⟩ := (show q_KI o hz (0, _) from hK)
  exact ev_ret (q_cod qk340 rfl) rfl
def f340_914 (Ln : Nat) (xs : Nat → Int32) : m_M Int32 :=
  m_R 0
set_option maxRecDepth 20000 in
theorem f340_914_ok {Ln : Nat} {xs : Nat → Int32} {h : q_H} {o : q_O} {hz : q_H} {x : Int32 × q_H} (hf : f340_914 Ln xs h = some x) (hK : (q_KI o hz) x) : q_Ev (some (Ln, xs)) 340 914 [] [] h o hz := by
  unfold f340_914 at hf
  refine ev_ic (v := 0) (q_cod qk340 rfl) (by decide) (by decide) ?_
  obtain rfl := m_R_inv hf
  obtain ⟨rfl, rfl⟩ := (show q_KI o hz (0, _) from hK)
  exact ev_ret (q_cod qk340 rfl) rfl
def f340_880 (Ln : Nat) (xs : Nat → Int32) (l1 : Nat) (l2 : Nat) (l3 : Nat) (l4 : Int32) : m_M ((Nat × Nat × Nat × Int32) ⊕ Int32) :=
  m_B (m_G (q_ins (l4 + 1) Ln = true)) (fun _ => m_B (f320 l1 (xs (l4 + 1).toNatClampNeg) l3) (fun v2 => m_B (m_G (q_ins (l4 + 1) Ln = true)) (fun _ => m_B (m_aK l2 12) (fun _ => m_B (f195 l2 (xs (l4 + 1).toNatClampNeg)) (fun v5 => m_B (m_aK l2 12) (fun _ => m_B (f177 l2) (fun v7 => if v7 = v2 then (if v2 = 0 then (m_B (m_lJ l3 0) (fun v8 => if (lg_cmp v8 (v5.toInt64)) = 0 then (f340_933 Ln xs l1 l2 l3 l4) else (m_B (f340_931 Ln xs) (fun r => m_R (.inr r))))) else (f340_933 Ln xs l1 l2 l3 l4)) else (m_B (f340_914 Ln xs) (fun r => m_R (.inr r))))))))))
set_option maxRecDepth 20000 in
theorem f340_880_ok {Ln : Nat} {xs : Nat → Int32} {l1 : Nat} {l2 : Nat} {l3 : Nat} {l4 : Int32} {h : q_H} {o : q_O} {hz : q_H} {x : ((Nat × Nat × Nat × Int32) ⊕ Int32) × q_H} (hf : f340_880 Ln xs l1 l2 l3 l4 h = some x) (hK : (m_yK (fun (s : Nat × Nat × Nat × Int32) (h : q_H) => q_Ev (some (Ln, xs)) 340 23 [(0, .ref q_SC), (1, .ref (s.1)), (2, .ref (s.2.1)), (3, .ref (s.2.2.1)), (4, .int (s.2.2.2))] [] h o hz) (q_KI o hz)) x) : q_Ev (some (Ln, xs)) 340 880 [(0, .ref q_SC), (1, .ref l1), (2, .ref l2), (3, .ref l3), (4, .int l4)] [] h o hz := by
  unfold f340_880 at hf
  refine ev_aload_n (q_cod qk340 rfl) (by decide) rfl ?_
  refine ev_aload_n (q_cod qk340 rfl) (by decide) rfl ?_
  refine ev_iload (q_cod qk340 rfl) (by decide) rfl ?_
  refine ev_ic (v := 1) (q_cod qk340 rfl) (by decide) (by decide) ?_
  refine ev_iadd (q_cod qk340 rfl) (by decide) ?_
  refine em_sald (q_cod qk340 rfl) (by decide) hf (fun hf => ?_)
  refine ev_aload_n (q_cod qk340 rfl) (by decide) rfl ?_
  refine em_call (v := (fun u => some (.int u))) (q_cod qk340 rfl) rfl rfl (q_cokS rfl rfl) rfl (fun x e => f320_cl e) hf (fun v2 h hf => ?_)
  refine ev_is2 (L' := [(0, .ref q_SC), (1, .ref l1), (2, .ref l2), (3, .ref l3), (4, .int l4), (5, .int v2)]) (q_cod qk340 rfl) (by decide) rfl ?_
  refine ev_aload_n (q_cod qk340 rfl) (by decide) rfl ?_
  refine ev_aload_n (q_cod qk340 rfl) (by decide) rfl ?_
  refine ev_iload (q_cod qk340 rfl) (by decide) rfl ?_
  refine ev_ic (v := 1) (q_cod qk340 rfl) (by decide) (by decide) ?_
  refine ev_iadd (q_cod qk340 rfl) (by decide) ?_
  refine em_sald (q_cod qk340 rfl) (by decide) hf (fun hf => ?_)
  obtain ⟨g4, hf⟩ := m_aK_some hf
  refine em_call (v := (fun u => some (.int u))) (q_cod qk340 rfl) rfl rfl (q_cokV rfl rfl (Or.inr g4)) rfl (fun x e => f195_cl e) hf (fun v5 h hf => ?_)
  refine ev_is2 (L' := [(0, .ref q_SC), (1, .ref l1), (2, .ref l2), (3, .ref l3), (4, .int l4), (5, .int v2), (6, .int v5)]) (q_cod qk340 rfl) (by decide) rfl ?_
  refine ev_aload_n (q_cod qk340 rfl) (by decide) rfl ?_
  obtain ⟨g6, hf⟩ := m_aK_some hf
  refine em_call (v := (fun u => some (.int u))) (q_cod qk340 rfl) rfl rfl (q_cokV rfl rfl (Or.inr g6)) rfl (fun x e => f177_cl e) hf (fun v7 h hf => ?_)
  refine ev_iload (q_cod qk340 rfl) (by decide) rfl ?_
  refine em_ic_eq (q_cod qk340 rfl) (by decide) hf (fun c11 hf => ?_) (fun c11 hf => ?_)
  · refine ev_iload (q_cod qk340 rfl) (by decide) rfl ?_
    refine em_if_ne (q_cod qk340 rfl) (by decide) hf (fun c10 hf => ?_) (fun c10 hf => ?_)
    · refine ev_aload_n (q_cod qk340 rfl) (by decide) rfl ?_
      refine ev_ic (v := 0) (q_cod qk340 rfl) (by decide) (by decide) ?_
      refine em_lJ (q_cod qk340 rfl) (by decide) hf (fun v8 hf => ?_)
      refine ev_iload (q_cod qk340 rfl) (by decide) rfl ?_
      refine ev_i2l (q_cod qk340 rfl) (by decide) ?_
      refine ev_lcmp (q_cod qk340 rfl) (by decide) ?_
      refine em_if_eq (q_cod qk340 rfl) (by decide) hf (fun c9 hf => ?_) (fun c9 hf => ?_)
      · exact ev_weak (q_pk [0, 1, 2, 3, 4] rfl) (f340_933_ok hf hK)
      · obtain ⟨y0, hf0, hx⟩ := m_inr_some hf
        subst hx
        exact ev_weak (q_pk [] rfl) (f340_931_ok hf0 hK)
    · exact ev_weak (q_pk [0, 1, 2, 3, 4] rfl) (f340_933_ok hf hK)
  · obtain ⟨y0, hf0, hx⟩ := m_inr_some hf
    subst hx
    exact ev_weak (q_pk [] rfl) (f340_914_ok hf0 hK)
def f340_989 (Ln : Nat) (xs : Nat → Int32) (l1 : Nat) (l2 : Nat) (l3 : Nat) (l4 : Int32) : m_M ((Nat × Nat × Nat × Int32) ⊕ Int32) :=
  f340_2357 Ln xs l1 l2 l3 l4
set_option maxRecDepth 20000 in
theorem f340_989_ok {Ln : Nat} {xs : Nat → Int32} {l1 : Nat} {l2 : Nat} {l3 : Nat} {l4 : Int32} {h : q_H} {o : q_O} {hz : q_H} {x : ((Nat × Nat × Nat × Int32) ⊕ Int32) × q_H} (hf : f340_989 Ln xs l1 l2 l3 l4 h = some x) (hK : (m_yK (fun (s : Nat × Nat × Nat × Int32) (h : q_H) => q_Ev (some (Ln, xs)) 340 23 [(0, .ref q_SC), (1, .ref (s.1)), (2, .ref (s.2.1)), (3, .ref (s.2.2.1)), (4, .int (s.2.2.2))] [] h o hz) (q_KI o hz)) x) : q_Ev (some (Ln, xs)) 340 989 [(0, .ref q_SC), (1, .ref l1), (2, .ref l2), (3, .ref l3), (4, .int l4)] [] h o hz := by
  unfold f340_989 at hf
  refine ev_goto (q_cod qk340 rfl) (by decide) ?_
  exact (f340_2357_ok hf hK)
def f340_987 (Ln : Nat) (xs : Nat → Int32) : m_M Int32 :=
  m_R 0
set_option maxRecDepth 20000 in
theorem f340_987_ok {Ln : Nat} {xs : Nat → Int32} {h : q_H} {o : q_O} {hz : q_H} {x : Int32 × q_H} (hf : f340_987 Ln xs h = some x) (hK : (q_KI o hz) x) : q_Ev (some (Ln, xs)) 340 987 [] [] h o hz := by
  unfold f340_987 at hf
  refine ev_ic (v := 0) (q_cod qk340 rfl) (by decide) (by decide) ?_
  obtain rfl := m_R_inv hf
  obtain ⟨rfl, rfl⟩ := (show q_KI o hz (0, _) from hK)
  exact ev_ret (q_cod qk340 rfl) rfl
def f340_970 (Ln : Nat) (xs : Nat → Int32) : m_M Int32 :=
  m_R 0
set_option maxRecDepth 20000 in
theorem f340_970_ok {Ln : Nat} {xs : Nat → Int32} {h : q_H} {o : q_O} {hz : q_H} {x : Int32 × q_H} (hf : f340_970 Ln xs h = some x) (hK : (q_KI o hz) x) : q_Ev (some (Ln, xs)) 340 970 [] [] h o hz := by
  unfold f340_970 at hf
  refine ev_ic (v := 0) (q_cod qk340 rfl) (by decide) (by decide) ?_
  obtain rfl := m_R_inv hf
  obtain ⟨rfl, rfl⟩ := (show q_KI o hz (0, _) from hK)
  exact ev_ret (q_cod qk340 rfl) rfl
def f340_936 (Ln : Nat) (xs : Nat → Int32) (l1 : Nat) (l2 : Nat) (l3 : Nat) (l4 : Int32) : m_M ((Nat × Nat × Nat × Int32) ⊕ Int32) :=
  m_B (m_G (q_ins (l4 + 1) Ln = true)) (fun _ => m_B (f321 l1 (xs (l4 + 1).toNatClampNeg) l3) (fun v2 => m_B (m_G (q_ins (l4 + 1) Ln = true)) (fun _ => m_B (m_aK l2 12) (fun _ => m_B (f216 l2 (xs (l4 + 1).toNatClampNeg)) (fun v5 => m_B (m_aK l2 12) (fun _ => m_B (f177 l2) (fun v7 => if v7 = v2 then (if v2 = 0 then (m_B (m_lJ l3 0) (fun v8 => if (lg_cmp v8 (v5.toInt64)) = 0 then (f340_989 Ln xs l1 l2 l3 l4) else (m_B (f340_987 Ln xs) (fun r => m_R (.inr r))))) else (f340_989 Ln xs l1 l2 l3 l4)) else (m_B (f340_970 Ln xs) (fun r => m_R (.inr r))))))))))
set_option maxRecDepth 20000 in
theorem f340_936_ok {Ln : Nat} {xs : Nat → Int32} {l1 : Nat} {l2 : Nat} {l3 : Nat} {l4 : Int32} {h : q_H} {o : q_O} {hz : q_H} {x : ((Nat × Nat × Nat × Int32) ⊕ Int32) × q_H} (hf : f340_936 Ln xs l1 l2 l3 l4 h = some x) (hK : (m_yK (fun (s : Nat × Nat × Nat × Int32) (h : q_H) => q_Ev (some (Ln, xs)) 340 23 [(0, .ref q_SC), (1, .ref (s.1)), (2, .ref (s.2.1)), (3, .ref (s.2.2.1)), (4, .int (s.2.2.2))] [] h o hz) (q_KI o hz)) x) : q_Ev (some (Ln, xs)) 340 936 [(0, .ref q_SC), (1, .ref l1), (2, .ref l2), (3, .ref l3), (4, .int l4)] [] h o hz := by
  unfold f340_936 at hf
  refine ev_aload_n (q_cod qk340 rfl) (by decide) rfl ?_
  refine ev_aload_n (q_cod qk340 rfl) (by decide) rfl ?_
  refine ev_iload (q_cod qk340 rfl) (by decide) rfl ?_
  refine ev_ic (v := 1) (q_cod qk340 rfl) (by decide) (by decide) ?_
  refine ev_iadd (q_cod qk340 rfl) (by decide) ?_
  refine em_sald (q_cod qk340 rfl) (by decide) hf (fun hf => ?_)
  refine ev_aload_n (q_cod qk340 rfl) (by decide) rfl ?_
  refine em_call (v := (fun u => some (.int u))) (q_cod qk340 rfl) rfl rfl (q_cokS rfl rfl) rfl (fun x e => f321_cl e) hf (fun v2 h hf => ?_)
  refine ev_is2 (L' := [(0, .ref q_SC), (1, .ref l1), (2, .ref l2), (3, .ref l3), (4, .int l4), (5, .int v2)]) (q_cod qk340 rfl) (by decide) rfl ?_
  refine ev_aload_n (q_cod qk340 rfl) (by decide) rfl ?_
  refine ev_aload_n (q_cod qk340 rfl) (by decide) rfl ?_
  refine ev_iload (q_cod qk340 rfl) (by decide) rfl ?_
  refine ev_ic (v := 1) (q_cod qk340 rfl) (by decide) (by decide) ?_
  refine ev_iadd (q_cod qk340 rfl) (by decide) ?_
  refine em_sald (q_cod qk340 rfl) (by decide) hf (fun hf => ?_)
  obtain ⟨g4, hf⟩ := m_aK_some hf
  refine em_call (v := (fun u => some (.int u))) (q_cod qk340 rfl) rfl rfl (q_cokV rfl rfl (Or.inr g4)) rfl (fun x e => f216_cl e) hf (fun v5 h hf => ?_)
  refine ev_is2 (L' := [(0, .ref q_SC), (1, .ref l1), (2, .ref l2), (3, .ref l3), (4, .int l4), (5, .int v2), (6, .int v5)]) (q_cod qk340 rfl) (by decide) rfl ?_
  refine ev_aload_n (q_cod qk340 rfl) (by decide) rfl ?_
  obtain ⟨g6, hf⟩ := m_aK_some hf
  refine em_call (v := (fun u => some (.int u))) (q_cod qk340 rfl) rfl rfl (q_cokV rfl rfl (Or.inr g6)) rfl (fun x e => f177_cl e) hf (fun v7 h hf => ?_)
  refine ev_iload (q_cod qk340 rfl) (by decide) rfl ?_
  refine em_ic_eq (q_cod qk340 rfl) (by decide) hf (fun c11 hf => ?_) (fun c11 hf => ?_)
  · refine ev_iload (q_cod qk340 rfl) (by decide) rfl ?_
    refine em_if_ne (q_cod qk340 rfl) (by decide) hf (fun c10 hf => ?_) (fun c10 hf => ?_)
    · refine ev_aload_n (q_cod qk340 rfl) (by decide) rfl ?_
      refine ev_ic (v := 0) (q_cod qk340 rfl) (by decide) (by decide) ?_
      refine em_lJ (q_cod qk340 rfl) (by decide) hf (fun v8 hf => ?_)
      refine ev_iload (q_cod qk340 rfl) (by decide) rfl ?_
      refine ev_i2l (q_cod qk340 rfl) (by decide) ?_
      refine ev_lcmp (q_cod qk340 rfl) (by decide) ?_
      refine em_if_eq (q_cod qk340 rfl) (by decide) hf (fun c9 hf => ?_) (fun c9 hf => ?_)
      · exact ev_weak (q_pk [0, 1, 2, 3, 4] rfl) (f340_989_ok hf hK)
      · obtain ⟨y0, hf0, hx⟩ := m_inr_some hf
        subst hx
        exact ev_weak (q_pk [] rfl) (f340_987_ok hf0 hK)
    · exact ev_weak (q_pk [0, 1, 2, 3, 4] rfl) (f340_989_ok hf hK)
  · obtain ⟨y0, hf0, hx⟩ := m_inr_some hf
    subst hx
    exact ev_weak (q_pk [] rfl) (f340_970_ok hf0 hK)
def f340_1069 (Ln : Nat) (xs : Nat → Int32) (l1 : Nat) (l2 : Nat) (l3 : Nat) (l4 : Int32) : m_M ((Nat × Nat × Nat × Int32) ⊕ Int32) :=
  f340_2357 Ln xs l1 l2 l3 l4
set_option maxRecDepth 20000 in
theorem f340_1069_ok {Ln : Nat} {xs : Nat → Int32} {l1 : Nat} {l2 : Nat} {l3 : Nat} {l4 : Int32} {h : q_H} {o : q_O} {hz : q_H} {x : ((Nat × Nat × Nat × Int32) ⊕ Int32) × q_H} (hf : f340_1069 Ln xs l1 l2 l3 l4 h = some x) (hK : (m_yK (fun (s : Nat × Nat × Nat × Int32) (h : q_H) => q_Ev (some (Ln, xs)) 340 23 [(0, .ref q_SC), (1, .ref (s.1)), (2, .ref (s.2.1)), (3, .ref (s.2.2.1)), (4, .int (s.2.2.2))] [] h o hz) (q_KI o hz)) x) : q_Ev (some (Ln, xs)) 340 1069 [(0, .ref q_SC), (1, .ref l1), (2, .ref l2), (3, .ref l3), (4, .int l4)] [] h o hz := by
  unfold f340_1069 at hf
  refine ev_goto (q_cod qk340 rfl) (by decide) ?_
  exact (f340_2357_ok hf hK)
def f340_1067 (Ln : Nat) (xs : Nat → Int32) : m_M Int32 :=
  m_R 0
set_option maxRecDepth 20000 in
theorem f340_1067_ok {Ln : Nat} {xs : Nat → Int32} {h : q_H} {o : q_O} {hz : q_H} {x : Int32 × q_H} (hf : f340_1067 Ln xs h = some x) (hK : (q_KI o hz) x) : q_Ev (some (Ln, xs)) 340 1067 [] [] h o hz := by
  unfold f340_1067 at hf
  refine ev_ic (v := 0) (q_cod qk340 rfl) (by decide) (by decide) ?_
  obtain rfl := m_R_inv hf
  obtain ⟨rfl, rfl⟩ := (show q_KI o hz (0, _) from hK)
  exact ev_ret (q_cod qk340 rfl) rfl
def f340_1050 (Ln : Nat) (xs : Nat → Int32) : m_M Int32 :=
  m_R 0
set_option maxRecDepth 20000 in
theorem f340_1050_ok {Ln : Nat} {xs : Nat → Int32} {h : q_H} {o : q_O} {hz : q_H} {x : Int32 × q_H} (hf : f340_1050 Ln xs h = some x) (hK : (q_KI o hz) x) : q_Ev (some (Ln, xs)) 340 1050 [] [] h o hz := by
  unfold f340_1050 at hf
  refine ev_ic (v := 0) (q_cod qk340 rfl) (by decide) (by decide) ?_
  obtain rfl := m_R_inv hf
  obtain ⟨rfl, rfl⟩ := (show q_KI o hz (0, _) from hK)
  exact ev_ret (q_cod qk340 rfl) rfl
def f340_992 (Ln : Nat) (xs : Nat → Int32) (l1 : Nat) (l2 : Nat) (l3 : Nat) (l4 : Int32) : m_M ((Nat × Nat × Nat × Int32) ⊕ Int32) :=
  m_B (m_G (q_ins (l4 + 1) Ln = true)) (fun _ => m_B (m_G (q_ins (l4 + 2) Ln = true)) (fun _ => m_B (m_G (q_ins (l4 + 3) Ln = true)) (fun _ => m_B (f322 l1 (xs (l4 + 1).toNatClampNeg) (xs (l4 + 2).toNatClampNeg) (xs (l4 + 3).toNatClampNeg) l3) (fun v4 => m_B (m_G (q_ins (l4 + 1) Ln = true)) (fun _ => m_B (m_G (q_ins (l4 + 2) Ln = true)) (fun _ => m_B (m_G (q_ins (l4 + 3) Ln = true)) (fun _ => m_B (m_aK l2 12) (fun _ => m_B (f217 l2 (xs (l4 + 1).toNatClampNeg) (xs (l4 + 2).toNatClampNeg) (xs (l4 + 3).toNatClampNeg)) (fun v9 => m_B (m_aK l2 12) (fun _ => m_B (f177 l2) (fun v11 => if v11 = v4 then (if v4 = 0 then (m_B (m_lJ l3 0) (fun v12 => if (lg_cmp v12 (v9.toInt64)) = 0 then (f340_1069 Ln xs l1 l2 l3 l4) else (m_B (f340_1067 Ln xs) (fun r => m_R (.inr r))))) else (f340_1069 Ln xs l1 l2 l3 l4)) else (m_B (f340_1050 Ln xs) (fun r => m_R (.inr r))))))))))))))
set_option maxRecDepth 20000 in
theorem f340_992_ok {Ln : Nat} {xs : Nat → Int32} {l1 : Nat} {l2 : Nat} {l3 : Nat} {l4 : Int32} {h : q_H} {o : q_O} {hz : q_H} {x : ((Nat × Nat × Nat × Int32) ⊕ Int32) × q_H} (hf : f340_992 Ln xs l1 l2 l3 l4 h = some x) (hK : (m_yK (fun (s : Nat × Nat × Nat × Int32) (h : q_H) => q_Ev (some (Ln, xs)) 340 23 [(0, .ref q_SC), (1, .ref (s.1)), (2, .ref (s.2.1)), (3, .ref (s.2.2.1)), (4, .int (s.2.2.2))] [] h o hz) (q_KI o hz)) x) : q_Ev (some (Ln, xs)) 340 992 [(0, .ref q_SC), (1, .ref l1), (2, .ref l2), (3, .ref l3), (4, .int l4)] [] h o hz := by
  unfold f340_992 at hf
  refine ev_aload_n (q_cod qk340 rfl) (by decide) rfl ?_
  refine ev_aload_n (q_cod qk340 rfl) (by decide) rfl ?_
  refine ev_iload (q_cod qk340 rfl) (by decide) rfl ?_
  refine ev_ic (v := 1) (q_cod qk340 rfl) (by decide) (by decide) ?_
  refine ev_iadd (q_cod qk340 rfl) (by decide) ?_
  refine em_sald (q_cod qk340 rfl) (by decide) hf (fun hf => ?_)
  refine ev_aload_n (q_cod qk340 rfl) (by decide) rfl ?_
  refine ev_iload (q_cod qk340 rfl) (by decide) rfl ?_
  refine ev_ic (v := 2) (q_cod qk340 rfl) (by decide) (by decide) ?_
  refine ev_iadd (q_cod qk340 rfl) (by decide) ?_
  refine em_sald (q_cod qk340 rfl) (by decide) hf (fun hf => ?_)
  refine ev_aload_n (q_cod qk340 rfl) (by decide) rfl ?_
  refine ev_iload (q_cod qk340 rfl) (by decide) rfl ?_
  refine ev_ic (v := 3) (q_cod qk340 rfl) (by decide) (by decide) ?_
  refine ev_iadd (q_cod qk340 rfl) (by decide) ?_
  refine em_sald (q_cod qk340 rfl) (by decide) hf (fun hf => ?_)
  refine ev_aload_n (q_cod qk340 rfl) (by decide) rfl ?_
  refine em_call (v := (fun u => some (.int u))) (q_cod qk340 rfl) rfl rfl (q_cokS rfl rfl) rfl (fun x e => f322_cl e) hf (fun v4 h hf => ?_)
  refine ev_is2 (L' := [(0, .ref q_SC), (1, .ref l1), (2, .ref l2), (3, .ref l3), (4, .int l4), (5, .int v4)]) (q_cod qk340 rfl) (by decide) rfl ?_
  refine ev_aload_n (q_cod qk340 rfl) (by decide) rfl ?_
  refine ev_aload_n (q_cod qk340 rfl) (by decide) rfl ?_
  refine ev_iload (q_cod qk340 rfl) (by decide) rfl ?_
  refine ev_ic (v := 1) (q_cod qk340 rfl) (by decide) (by decide) ?_
  refine ev_iadd (q_cod qk340 rfl) (by decide) ?_
  refine em_sald (q_cod qk340 rfl) (by decide) hf (fun hf => ?_)
  refine ev_aload_n (q_cod qk340 rfl) (by decide) rfl ?_
  refine ev_iload (q_cod qk340 rfl) (by decide) rfl ?_
  refine ev_ic (v := 2) (q_cod qk340 rfl) (by decide) (by decide) ?_
  refine ev_iadd (q_cod qk340 rfl) (by decide) ?_
  refine em_sald (q_cod qk340 rfl) (by decide) hf (fun hf => ?_)
  refine ev_aload_n (q_cod qk340 rfl) (by decide) rfl ?_
  refine ev_iload (q_cod qk340 rfl) (by decide) rfl ?_
  refine ev_ic (v := 3) (q_cod qk340 rfl) (by decide) (by decide) ?_
  refine ev_iadd (q_cod qk340 rfl) (by decide) ?_
  refine em_sald (q_cod qk340 rfl) (by decide) hf (fun hf => ?_)
  obtain ⟨g8, hf⟩ := m_aK_some hf
  refine em_call (v := (fun u => some (.int u))) (q_cod qk340 rfl) rfl rfl (q_cokV rfl rfl (Or.inr g8)) rfl (fun x e => f217_cl e) hf (fun v9 h hf => ?_)
  refine ev_is2 (L' := [(0, .ref q_SC), (1, .ref l1), (2, .ref l2), (3, .ref l3), (4, .int l4), (5, .int v4), (6, .int v9)]) (q_cod qk340 rfl) (by decide) rfl ?_
  refine ev_aload_n (q_cod qk340 rfl) (by decide) rfl ?_
  obtain ⟨g10, hf⟩ := m_aK_some hf
  refine em_call (v := (fun u => some (.int u))) (q_cod qk340 rfl) rfl rfl (q_cokV rfl rfl (Or.inr g10)) rfl (fun x e => f177_cl e) hf (fun v11 h hf => ?_)
  refine ev_iload (q_cod qk340 rfl) (by decide) rfl ?_
  refine em_ic_eq (q_cod qk340 rfl) (by decide) hf (fun c15 hf => ?_) (fun c15 hf => ?_)
  · refine ev_iload (q_cod qk340 rfl) (by decide) rfl ?_
    refine em_if_ne (q_cod qk340 rfl) (by decide) hf (fun c14 hf => ?_) (fun c14 hf => ?_)
    · refine ev_aload_n (q_cod qk340 rfl) (by decide) rfl ?_
      refine ev_ic (v := 0) (q_cod qk340 rfl) (by decide) (by decide) ?_
      refine em_lJ (q_cod qk340 rfl) (by decide) hf (fun v12 hf => ?_)
      refine ev_iload (q_cod qk340 rfl) (by decide) rfl ?_
      refine ev_i2l (q_cod qk340 rfl) (by decide) ?_
      refine ev_lcmp (q_cod qk340 rfl) (by decide) ?_
      refine em_if_eq (q_cod qk340 rfl) (by decide) hf (fun c13 hf => ?_) (fun c13 hf => ?_)
      · exact ev_weak (q_pk [0, 1, 2, 3, 4] rfl) (f340_1069_ok hf hK)
      · obtain ⟨y0, hf0, hx⟩ := m_inr_some hf
        subst hx
        exact ev_weak (q_pk [] rfl) (f340_1067_ok hf0 hK)
    · exact ev_weak (q_pk [0, 1, 2, 3, 4] rfl) (f340_1069_ok hf hK)
  · obtain ⟨y0, hf0, hx⟩ := m_inr_some hf
    subst hx
    exact ev_weak (q_pk [] rfl) (f340_1050_ok hf0 hK)
def f340_1187 (Ln : Nat) (xs : Nat → Int32) (l1 : Nat) (l2 : Nat) (l3 : Nat) (l4 : Int32) : m_M ((Nat × Nat × Nat × Int32) ⊕ Int32) :=
  f340_2357 Ln xs l1 l2 l3 l4
set_option maxRecDepth 20000 in
theorem f340_1187_ok {Ln : Nat} {xs : Nat → Int32} {l1 : Nat} {l2 : Nat} {l3 : Nat} {l4 : Int32} {h : q_H} {o : q_O} {hz : q_H} {x : ((Nat × Nat × Nat × Int32) ⊕ Int32) × q_H} (hf : f340_1187 Ln xs l1 l2 l3 l4 h = some x) (hK : (m_yK (fun (s : Nat × Nat × Nat × Int32) (h : q_H) => q_Ev (some (Ln, xs)) 340 23 [(0, .ref q_SC), (1, .ref (s.1)), (2, .ref (s.2.1)), (3, .ref (s.2.2.1)), (4, .int (s.2.2.2))] [] h o hz) (q_KI o hz)) x) : q_Ev (some (Ln, xs)) 340 1187 [(0, .ref q_SC), (1, .ref l1), (2, .ref l2), (3, .ref l3), (4, .int l4)] [] h o hz := by
  unfold f340_1187 at hf
  refine ev_goto (q_cod qk340 rfl) (by decide) ?_
  exact (f340_2357_ok hf hK)
def f340_1185 (Ln : Nat) (xs : Nat → Int32) : m_M Int32 :=
  m_R 0
set_option maxRecDepth 20000 in
theorem f340_1185_ok {Ln : Nat} {xs : Nat → Int32} {h : q_H} {o : q_O} {hz : q_H} {x : Int32 × q_H} (hf : f340_1185 Ln xs h = some x) (hK : (q_KI o hz) x) : q_Ev (some (Ln, xs)) 340 1185 [] [] h o hz := by
  unfold f340_1185 at hf
  refine ev_ic (v := 0) (q_cod qk340 rfl) (by decide) (by decide) ?_
  obtain rfl := m_R_inv hf
  obtain ⟨rfl, rfl⟩ := (show q_KI o hz (0, _) from hK)
  exact ev_ret (q_cod qk340 rfl) rfl
def f340_1168 (Ln : Nat) (xs : Nat → Int32) : m_M Int32 :=
  m_R 0
set_option maxRecDepth 20000 in
theorem f340_1168_ok {Ln : Nat} {xs : Nat → Int32} {h : q_H} {o : q_O} {hz : q_H} {x : Int32 × q_H} (hf : f340_1168 Ln xs h = some x) (hK : (q_KI o hz) x) : q_Ev (some (Ln, xs)) 340 1168 [] [] h o hz := by
  unfold f340_1168 at hf
  refine ev_ic (v := 0) (q_cod qk340 rfl) (by decide) (by decide) ?_
  obtain rfl := m_R_inv hf
  obtain ⟨rfl, rfl⟩ := (show q_KI o hz (0, _) from hK)
  exact ev_ret (q_cod qk340 rfl) rfl
def f340_1072 (Ln : Nat) (xs : Nat → Int32) (l1 : Nat) (l2 : Nat) (l3 : Nat) (l4 : Int32) : m_M ((Nat × Nat × Nat × Int32) ⊕ Int32) :=
  m_B (m_G (q_ins (l4 + 1) Ln = true)) (fun _ => m_B (m_G (q_ins (l4 + 2) Ln = true)) (fun _ => m_B (m_G (q_ins (l4 + 3) Ln = true)) (fun _ => m_B (m_G (q_ins (l4 + 4) Ln = true)) (fun _ => m_B (m_G (q_ins (l4 + 5) Ln = true)) (fun _ => m_B (m_G (q_ins (l4 + 6) Ln = true)) (fun _ => m_B (f323 l1 (xs (l4 + 1).toNatClampNeg) (xs (l4 + 2).toNatClampNeg) (xs (l4 + 3).toNatClampNeg) (xs (l4 + 4).toNatClampNeg) (xs (l4 + 5).toNatClampNeg) (xs (l4 + 6).toNatClampNeg) l3) (fun v7 => m_B (m_G (q_ins (l4 + 1) Ln = true)) (fun _ => m_B (m_G (q_ins (l4 + 2) Ln = true)) (fun _ => m_B (m_G (q_ins (l4 + 3) Ln = true)) (fun _ => m_B (m_G (q_ins (l4 + 4) Ln = true)) (fun _ => m_B (m_G (q_ins (l4 + 5) Ln = true)) (fun _ => m_B (m_G (q_ins (l4 + 6) Ln = true)) (fun _ => m_B (m_aK l2 12) (fun _ => m_B (f219 l2 (xs (l4 + 1).toNatClampNeg) (xs (l4 + 2).toNatClampNeg) (xs (l4 + 3).toNatClampNeg) (xs (l4 + 4).toNatClampNeg) (xs (l4 + 5).toNatClampNeg) (xs (l4 + 6).toNatClampNeg)) (fun v15 => m_B (m_aK l2 12) (fun _ => m_B (f177 l2) (fun v17 => if v17 = v7 then (if v7 = 0 then (m_B (m_lJ l3 0) (fun v18 => if (lg_cmp v18 (v15.toInt64)) = 0 then (f340_1187 Ln xs l1 l2 l3 l4) else (m_B (f340_1185 Ln xs) (fun r => m_R (.inr r))))) else (f340_1187 Ln xs l1 l2 l3 l4)) else (m_B (f340_1168 Ln xs) (fun r => m_R (.inr r))))))))))))))))))))
set_option maxRecDepth 20000 in
theorem f340_1072_ok {Ln : Nat} {xs : Nat → Int32} {l1 : Nat} {l2 : Nat} {l3 : Nat} {l4 : Int32} {h : q_H} {o : q_O} {hz : q_H} {x : ((Nat × Nat × Nat × Int32) ⊕ Int32) × q_H} (hf : f340_1072 Ln xs l1 l2 l3 l4 h = some x) (hK : (m_yK (fun (s : Nat × Nat × Nat × Int32) (h : q_H) => q_Ev (some (Ln, xs)) 340 23 [(0, .ref q_SC), (1, .ref (s.1)), (2, .ref (s.2.1)), (3, .ref (s.2.2.1)), (4, .int (s.2.2.2))] [] h o hz) (q_KI o hz)) x) : q_Ev (some (Ln, xs)) 340 1072 [(0, .ref q_SC), (1, .ref l1), (2, .ref l2), (3, .ref l3), (4, .int l4)] [] h o hz := by
  unfold f340_1072 at hf
  refine ev_aload_n (q_cod qk340 rfl) (by decide) rfl ?_
  refine ev_aload_n (q_cod qk340 rfl) (by decide) rfl ?_
  refine ev_iload (q_cod qk340 rfl) (by decide) rfl ?_
  refine ev_ic (v := 1) (q_cod qk340 rfl) (by decide) (by decide) ?_
  refine ev_iadd (q_cod qk340 rfl) (by decide) ?_
  refine em_sald (q_cod qk340 rfl) (by decide) hf (fun hf => ?_)
  refine ev_aload_n (q_cod qk340 rfl) (by decide) rfl ?_
  refine ev_iload (q_cod qk340 rfl) (by decide) rfl ?_
  refine ev_ic (v := 2) (q_cod qk340 rfl) (by decide) (by decide) ?_
  refine ev_iadd (q_cod qk340 rfl) (by decide) ?_
  refine em_sald (q_cod qk340 rfl) (by decide) hf (fun hf => ?_)
  refine ev_aload_n (q_cod qk340 rfl) (by decide) rfl ?_
  refine ev_iload (q_cod qk340 rfl) (by decide) rfl ?_
  refine ev_ic (v := 3) (q_cod qk340 rfl) (by decide) (by decide) ?_
  refine ev_iadd (q_cod qk340 rfl) (by decide) ?_
  refine em_sald (q_cod qk340 rfl) (by decide) hf (fun hf => ?_)
  refine ev_aload_n (q_cod qk340 rfl) (by decide) rfl ?_
  refine ev_iload (q_cod qk340 rfl) (by decide) rfl ?_
  refine ev_ic (v := 4) (q_cod qk340 rfl) (by decide) (by decide) ?_
  refine ev_iadd (q_cod qk340 rfl) (by decide) ?_
  refine em_sald (q_cod qk340 rfl) (by decide) hf (fun hf => ?_)
  refine ev_aload_n (q_cod qk340 rfl) (by decide) rfl ?_
  refine ev_iload (q_cod qk340 rfl) (by decide) rfl ?_
  refine ev_ic (v := 5) (q_cod qk340 rfl) (by decide) (by decide) ?_
  refine ev_iadd (q_cod qk340 rfl) (by decide) ?_
  refine em_sald (q_cod qk340 rfl) (by decide) hf (fun hf => ?_)
  refine ev_aload_n (q_cod qk340 rfl) (by decide) rfl ?_
  refine ev_iload (q_cod qk340 rfl) (by decide) rfl ?_
  refine ev_bi (v := 6) (q_cod qk340 rfl) (by decide) (by decide) ?_
  refine ev_iadd (q_cod qk340 rfl) (by decide) ?_
  refine em_sald (q_cod qk340 rfl) (by decide) hf (fun hf => ?_)
  refine ev_aload_n (q_cod qk340 rfl) (by decide) rfl ?_
  refine em_call (v := (fun u => some (.int u))) (q_cod qk340 rfl) rfl rfl (q_cokS rfl rfl) rfl (fun x e => f323_cl e) hf (fun v7 h hf => ?_)
  refine ev_is2 (L' := [(0, .ref q_SC), (1, .ref l1), (2, .ref l2), (3, .ref l3), (4, .int l4), (5, .int v7)]) (q_cod qk340 rfl) (by decide) rfl ?_
  refine ev_aload_n (q_cod qk340 rfl) (by decide) rfl ?_
  refine ev_aload_n (q_cod qk340 rfl) (by decide) rfl ?_
  refine ev_iload (q_cod qk340 rfl) (by decide) rfl ?_
  refine ev_ic (v := 1) (q_cod qk340 rfl) (by decide) (by decide) ?_
  refine ev_iadd (q_cod qk340 rfl) (by decide) ?_
  refine em_sald (q_cod qk340 rfl) (by decide) hf (fun hf => ?_)
  refine ev_aload_n (q_cod qk340 rfl) (by decide) rfl ?_
  refine ev_iload (q_cod qk340 rfl) (by decide) rfl ?_
  refine ev_ic (v := 2) (q_cod qk340 rfl) (by decide) (by decide) ?_
  refine ev_iadd (q_cod qk340 rfl) (by decide) ?_
  refine em_sald (q_cod qk340 rfl) (by decide) hf (fun hf => ?_)
  refine ev_aload_n (q_cod qk340 rfl) (by decide) rfl ?_
  refine ev_iload (q_cod qk340 rfl) (by decide) rfl ?_
  refine ev_ic (v := 3) (q_cod qk340 rfl) (by decide) (by decide) ?_
  refine ev_iadd (q_cod qk340 rfl) (by decide) ?_
  refine em_sald (q_cod qk340 rfl) (by decide) hf (fun hf => ?_)
  refine ev_aload_n (q_cod qk340 rfl) (by decide) rfl ?_
  refine ev_iload (q_cod qk340 rfl) (by decide) rfl ?_
  refine ev_ic (v := 4) (q_cod qk340 rfl) (by decide) (by decide) ?_
  refine ev_iadd (q_cod qk340 rfl) (by decide) ?_
  refine em_sald (q_cod qk340 rfl) (by decide) hf (fun hf => ?_)
  refine ev_aload_n (q_cod qk340 rfl) (by decide) rfl ?_
  refine ev_iload (q_cod qk340 rfl) (by decide) rfl ?_
  refine ev_ic (v := 5) (q_cod qk340 rfl) (by decide) (by decide) ?_
  refine ev_iadd (q_cod qk340 rfl) (by decide) ?_
  refine em_sald (q_cod qk340 rfl) (by decide) hf (fun hf => ?_)
  refine ev_aload_n (q_cod qk340 rfl) (by decide) rfl ?_
  refine ev_iload (q_cod qk340 rfl) (by decide) rfl ?_
  refine ev_bi (v := 6) (q_cod qk340 rfl) (by decide) (by decide) ?_
  refine ev_iadd (q_cod qk340 rfl) (by decide) ?_
  refine em_sald (q_cod qk340 rfl) (by decide) hf (fun hf => ?_)
  obtain ⟨g14, hf⟩ := m_aK_some hf
  refine em_call (v := (fun u => some (.int u))) (q_cod qk340 rfl) rfl rfl (q_cokV rfl rfl (Or.inr g14)) rfl (fun x e => f219_cl e) hf (fun v15 h hf => ?_)
  refine ev_is2 (L' := [(0, .ref q_SC), (1, .ref l1), (2, .ref l2), (3, .ref l3), (4, .int l4), (5, .int v7), (6, .int v15)]) (q_cod qk340 rfl) (by decide) rfl ?_
  refine ev_aload_n (q_cod qk340 rfl) (by decide) rfl ?_
  obtain ⟨g16, hf⟩ := m_aK_some hf
  refine em_call (v := (fun u => some (.int u))) (q_cod qk340 rfl) rfl rfl (q_cokV rfl rfl (Or.inr g16)) rfl (fun x e => f177_cl e) hf (fun v17 h hf => ?_)
  refine ev_iload (q_cod qk340 rfl) (by decide) rfl ?_
  refine em_ic_eq (q_cod qk340 rfl) (by decide) hf (fun c21 hf => ?_) (fun c21 hf => ?_)
  · refine ev_iload (q_cod qk340 rfl) (by decide) rfl ?_
    refine em_if_ne (q_cod qk340 rfl) (by decide) hf (fun c20 hf => ?_) (fun c20 hf => ?_)
    · refine ev_aload_n (q_cod qk340 rfl) (by decide) rfl ?_
      refine ev_ic (v := 0) (q_cod qk340 rfl) (by decide) (by decide) ?_
      refine em_lJ (q_cod qk340 rfl) (by decide) hf (fun v18 hf => ?_)
      refine ev_iload (q_cod qk340 rfl) (by decide) rfl ?_
      refine ev_i2l (q_cod qk340 rfl) (by decide) ?_
      refine ev_lcmp (q_cod qk340 rfl) (by decide) ?_
      refine em_if_eq (q_cod qk340 rfl) (by decide) hf (fun c19 hf => ?_) (fun c19 hf => ?_)
      · exact ev_weak (q_pk [0, 1, 2, 3, 4] rfl) (f340_1187_ok hf hK)
      · obtain ⟨y0, hf0, hx⟩ := m_inr_some hf
        subst hx
        exact ev_weak (q_pk [] rfl) (f340_1185_ok hf0 hK)
    · exact ev_weak (q_pk [0, 1, 2, 3, 4] rfl) (f340_1187_ok hf hK)
  · obtain ⟨y0, hf0, hx⟩ := m_inr_some hf
    subst hx
    exact ev_weak (q_pk [] rfl) (f340_1168_ok hf0 hK)
def f340_1201 (Ln : Nat) (xs : Nat → Int32) : m_M Int32 :=
  m_R 0
set_option maxRecDepth 20000 in
theorem f340_1201_ok {Ln : Nat} {xs : Nat → Int32} {h : q_H} {o : q_O} {hz : q_H} {x : Int32 × q_H} (hf : f340_1201 Ln xs h = some x) (hK : (q_KI o hz) x) : q_Ev (some (Ln, xs)) 340 1201 [] [] h o hz := by
  unfold f340_1201 at hf
  refine ev_ic (v := 0) (q_cod qk340 rfl) (by decide) (by decide) ?_
  obtain rfl := m_R_inv hf
  obtain ⟨rfl, rfl⟩ := (show q_KI o hz (0, _) from hK)
  exact ev_ret (q_cod qk340 rfl) rfl
def f340_1190 (Ln : Nat) (xs : Nat → Int32) (l1 : Nat) (l2 : Nat) (l3 : Nat) (l4 : Int32) : m_M ((Nat × Nat × Nat × Int32) ⊕ Int32) :=
  m_B (m_aK l1 11) (fun _ => m_B (f138 l1) (fun v2 => m_B (m_aK l2 12) (fun _ => m_B (f236 l2) (fun v4 => if v2 = v4 then (f340_2357 Ln xs l1 l2 l3 l4) else (m_B (f340_1201 Ln xs) (fun r => m_R (.inr r)))))))
set_option maxRecDepth 20000 in
theorem f340_1190_ok {Ln : Nat} {xs : Nat → Int32} {l1 : Nat} {l2 : Nat} {l3 : Nat} {l4 : Int32} {h : q_H} {o : q_O} {hz : q_H} {x : ((Nat × Nat × Nat × Int32) ⊕ Int32) × q_H} (hf : f340_1190 Ln xs l1 l2 l3 l4 h = some x) (hK : (m_yK (fun (s : Nat × Nat × Nat × Int32) (h : q_H) => q_Ev (some (Ln, xs)) 340 23 [(0, .ref q_SC), (1, .ref (s.1)), (2, .ref (s.2.1)), (3, .ref (s.2.2.1)), (4, .int (s.2.2.2))] [] h o hz) (q_KI o hz)) x) : q_Ev (some (Ln, xs)) 340 1190 [(0, .ref q_SC), (1, .ref l1), (2, .ref l2), (3, .ref l3), (4, .int l4)] [] h o hz := by
  unfold f340_1190 at hf
  refine ev_aload_n (q_cod qk340 rfl) (by decide) rfl ?_
  obtain ⟨g1, hf⟩ := m_aK_some hf
  refine em_call (v := (fun u => some (.int u))) (q_cod qk340 rfl) rfl rfl (q_cokV rfl rfl (Or.inr g1)) rfl (fun x e => f138_cl e) hf (fun v2 h hf => ?_)
  refine ev_aload_n (q_cod qk340 rfl) (by decide) rfl ?_
  obtain ⟨g3, hf⟩ := m_aK_some hf
  refine em_call (v := (fun u => some (.int u))) (q_cod qk340 rfl) rfl rfl (q_cokV rfl rfl (Or.inr g3)) rfl (fun x e => f236_cl e) hf (fun v4 h hf => ?_)
  refine em_ic_eq (q_cod qk340 rfl) (by decide) hf (fun c5 hf => ?_) (fun c5 hf => ?_)
  · exact (f340_2357_ok hf hK)
  · obtain ⟨y0, hf0, hx⟩ := m_inr_some hf
    subst hx
    exact ev_weak (q_pk [] rfl) (f340_1201_ok hf0 hK)
def f340_1244 (Ln : Nat) (xs : Nat → Int32) (l1 : Nat) (l2 : Nat) (l3 : Nat) (l4 : Int32) : m_M ((Nat × Nat × Nat × Int32) ⊕ Int32) :=
  f340_2357 Ln xs l1 l2 l3 l4
set_option maxRecDepth 20000 in
theorem f340_1244_ok {Ln : Nat} {xs : Nat → Int32} {l1 : Nat} {l2 : Nat} {l3 : Nat} {l4 : Int32} {h : q_H} {o : q_O} {hz : q_H} {x : ((Nat × Nat × Nat × Int32) ⊕ Int32) × q_H} (hf : f340_1244 Ln xs l1 l2 l3 l4 h = some x) (hK : (m_yK (fun (s : Nat × Nat × Nat × Int32) (h : q_H) => q_Ev (some (Ln, xs)) 340 23 [(0, .ref q_SC), (1, .ref (s.1)), (2, .ref (s.2.1)), (3, .ref (s.2.2.1)), (4, .int (s.2.2.2))] [] h o hz) (q_KI o hz)) x) : q_Ev (some (Ln, xs)) 340 1244 [(0, .ref q_SC), (1, .ref l1), (2, .ref l2), (3, .ref l3), (4, .int l4)] [] h o hz := by
  unfold f340_1244 at hf
  refine ev_goto (q_cod qk340 rfl) (by decide) ?_
  exact (f340_2357_ok hf hK)
def f340_1242 (Ln : Nat) (xs : Nat → Int32) : m_M Int32 :=
  m_R 0
set_option maxRecDepth 20000 in
theorem f340_1242_ok {Ln : Nat} {xs : Nat → Int32} {h : q_H} {o : q_O} {hz : q_H} {x : Int32 × q_H} (hf : f340_1242 Ln xs h = some x) (hK : (q_KI o hz) x) : q_Ev (some (Ln, xs)) 340 1242 [] [] h o hz := by
  unfold f340_1242 at hf
  refine ev_ic (v := 0) (q_cod qk340 rfl) (by decide) (by decide) ?_
  obtain rfl := m_R_inv hf
  obtain ⟨rfl, rfl⟩ := (show q_KI o hz (0, _) from hK)
  exact ev_ret (q_cod qk340 rfl) rfl
def f340_1225 (Ln : Nat) (xs : Nat → Int32) : m_M Int32 :=
  m_R 0
set_option maxRecDepth 20000 in
theorem f340_1225_ok {Ln : Nat} {xs : Nat → Int32} {h : q_H} {o : q_O} {hz : q_H} {x : Int32 × q_H} (hf : f340_1225 Ln xs h = some x) (hK : (q_KI o hz) x) : q_Ev (some (Ln, xs)) 340 1225 [] [] h o hz := by
  unfold f340_1225 at hf
  refine ev_ic (v := 0) (q_cod qk340 rfl) (by decide) (by decide) ?_
  obtain rfl := m_R_inv hf
  obtain ⟨rfl, rfl⟩ := (show q_KI o hz (0, _) from hK)
  exact ev_ret (q_cod qk340 rfl) rfl
def f340_1203 (Ln : Nat) (xs : Nat → Int32) (l1 : Nat) (l2 : Nat) (l3 : Nat) (l4 : Int32) : m_M ((Nat × Nat × Nat × Int32) ⊕ Int32) :=
  m_B (f324 l1 l3) (fun v1 => m_B (m_aK l2 12) (fun _ => m_B (f237 l2) (fun v3 => m_B (m_aK l2 12) (fun _ => m_B (f177 l2) (fun v5 => if v5 = v1 then (if v1 = 0 then (m_B (m_lJ l3 0) (fun v6 => if (lg_cmp v6 (v3.toInt64)) = 0 then (f340_1244 Ln xs l1 l2 l3 l4) else (m_B (f340_1242 Ln xs) (fun r => m_R (.inr r))))) else (f340_1244 Ln xs l1 l2 l3 l4)) else (m_B (f340_1225 Ln xs) (fun r => m_R (.inr r))))))))
set_option maxRecDepth 20000 in
theorem f340_1203_ok {Ln : Nat} {xs : Nat → Int32} {l1 : Nat} {l2 : Nat} {l3 : Nat} {l4 : Int32} {h : q_H} {o : q_O} {hz : q_H} {x : ((Nat × Nat × Nat × Int32) ⊕ Int32) × q_H} (hf : f340_1203 Ln xs l1 l2 l3 l4 h = some x) (hK : (m_yK (fun (s : Nat × Nat × Nat × Int32) (h : q_H) => q_Ev (some (Ln, xs)) 340 23 [(0, .ref q_SC), (1, .ref (s.1)), (2, .ref (s.2.1)), (3, .ref (s.2.2.1)), (4, .int (s.2.2.2))] [] h o hz) (q_KI o hz)) x) : q_Ev (some (Ln, xs)) 340 1203 [(0, .ref q_SC), (1, .ref l1), (2, .ref l2), (3, .ref l3), (4, .int l4)] [] h o hz := by
  unfold f340_1203 at hf
  refine ev_aload_n (q_cod qk340 rfl) (by decide) rfl ?_
  refine ev_aload_n (q_cod qk340 rfl) (by decide) rfl ?_
  refine em_call (v := (fun u => some (.int u))) (q_cod qk340 rfl) rfl rfl (q_cokS rfl rfl) rfl (fun x e => f324_cl e) hf (fun v1 h hf => ?_)
  refine ev_is2 (L' := [(0, .ref q_SC), (1, .ref l1), (2, .ref l2), (3, .ref l3), (4, .int l4), (5, .int v1)]) (q_cod qk340 rfl) (by decide) rfl ?_
  refine ev_aload_n (q_cod qk340 rfl) (by decide) rfl ?_
  obtain ⟨g2, hf⟩ := m_aK_some hf
  refine em_call (v := (fun u => some (.int u))) (q_cod qk340 rfl) rfl rfl (q_cokV rfl rfl (Or.inr g2)) rfl (fun x e => f237_cl e) hf (fun v3 h hf => ?_)
  refine ev_is2 (L' := [(0, .ref q_SC), (1, .ref l1), (2, .ref l2), (3, .ref l3), (4, .int l4), (5, .int v1), (6, .int v3)]) (q_cod qk340 rfl) (by decide) rfl ?_
  refine ev_aload_n (q_cod qk340 rfl) (by decide) rfl ?_
  obtain ⟨g4, hf⟩ := m_aK_some hf
  refine em_call (v := (fun u => some (.int u))) (q_cod qk340 rfl) rfl rfl (q_cokV rfl rfl (Or.inr g4)) rfl (fun x e => f177_cl e) hf (fun v5 h hf => ?_)
  refine ev_iload (q_cod qk340 rfl) (by decide) rfl ?_
  refine em_ic_eq (q_cod qk340 rfl) (by decide) hf (fun c9 hf => ?_) (fun c9 hf => ?_)
  · refine ev_iload (q_cod qk340 rfl) (by decide) rfl ?_
    refine em_if_ne (q_cod qk340 rfl) (by decide) hf (fun c8 hf => ?_) (fun c8 hf => ?_)
    · refine ev_aload_n (q_cod qk340 rfl) (by decide) rfl ?_
      refine ev_ic (v := 0) (q_cod qk340 rfl) (by decide) (by decide) ?_
      refine em_lJ (q_cod qk340 rfl) (by decide) hf (fun v6 hf => ?_)
      refine ev_iload (q_cod qk340 rfl) (by decide) rfl ?_
      refine ev_i2l (q_cod qk340 rfl) (by decide) ?_
      refine ev_lcmp (q_cod qk340 rfl) (by decide) ?_
      refine em_if_eq (q_cod qk340 rfl) (by decide) hf (fun c7 hf => ?_) (fun c7 hf => ?_)
      · exact ev_weak (q_pk [0, 1, 2, 3, 4] rfl) (f340_1244_ok hf hK)
      · obtain ⟨y0, hf0, hx⟩ := m_inr_some hf
        subst hx
        exact ev_weak (q_pk [] rfl) (f340_1242_ok hf0 hK)
    · exact ev_weak (q_pk [0, 1, 2, 3, 4] rfl) (f340_1244_ok hf hK)
  · obtain ⟨y0, hf0, hx⟩ := m_inr_some hf
    subst hx
    exact ev_weak (q_pk [] rfl) (f340_1225_ok hf0 hK)
def f340_1312 (Ln : Nat) (xs : Nat → Int32) (l1 : Nat) (l2 : Nat) (l3 : Nat) (l4 : Int32) : m_M ((Nat × Nat × Nat × Int32) ⊕ Int32) :=
  f340_2357 Ln xs l1 l2 l3 l4
set_option maxRecDepth 20000 in
theorem f340_1312_ok {Ln : Nat} {xs : Nat → Int32} {l1 : Nat} {l2 : Nat} {l3 : Nat} {l4 : Int32} {h : q_H} {o : q_O} {hz : q_H} {x : ((Nat × Nat × Nat × Int32) ⊕ Int32) × q_H} (hf : f340_1312 Ln xs l1 l2 l3 l4 h = some x) (hK : (m_yK (fun (s : Nat × Nat × Nat × Int32) (h : q_H) => q_Ev (some (Ln, xs)) 340 23 [(0, .ref q_SC), (1, .ref (s.1)), (2, .ref (s.2.1)), (3, .ref (s.2.2.1)), (4, .int (s.2.2.2))] [] h o hz) (q_KI o hz)) x) : q_Ev (some (Ln, xs)) 340 1312 [(0, .ref q_SC), (1, .ref l1), (2, .ref l2), (3, .ref l3), (4, .int l4)] [] h o hz := by
  unfold f340_1312 at hf
  refine ev_goto (q_cod qk340 rfl) (by decide) ?_
  exact (f340_2357_ok hf hK)
def f340_1310 (Ln : Nat) (xs : Nat → Int32) : m_M Int32 :=
  m_R 0
set_option maxRecDepth 20000 in
theorem f340_1310_ok {Ln : Nat} {xs : Nat → Int32} {h : q_H} {o : q_O} {hz : q_H} {x : Int32 × q_H} (hf : f340_1310 Ln xs h = some x) (hK : (q_KI o hz) x) : q_Ev (some (Ln, xs)) 340 1310 [] [] h o hz := by
  unfold f340_1310 at hf
  refine ev_ic (v := 0) (q_cod qk340 rfl) (by decide) (by decide) ?_
  obtain rfl := m_R_inv hf
  obtain ⟨rfl, rfl⟩ := (show q_KI o hz (0, _) from hK)
  exact ev_ret (q_cod qk340 rfl) rfl
def f340_1293 (Ln : Nat) (xs : Nat → Int32) : m_M Int32 :=
  m_R 0
set_option maxRecDepth 20000 in
theorem f340_1293_ok {Ln : Nat} {xs : Nat → Int32} {h : q_H} {o : q_O} {hz : q_H} {x : Int32 × q_H} (hf : f340_1293 Ln xs h = some x) (hK : (q_KI o hz) x) : q_Ev (some (Ln, xs)) 340 1293 [] [] h o hz := by
  unfold f340_1293 at hf
  refine ev_ic (v := 0) (q_cod qk340 rfl) (by decide) (by decide) ?_
  obtain rfl := m_R_inv hf
  obtain ⟨rfl, rfl⟩ := (show q_KI o hz (0, _) from hK)
  exact ev_ret (q_cod qk340 rfl) rfl
def f340_1247 (Ln : Nat) (xs : Nat → Int32) (l1 : Nat) (l2 : Nat) (l3 : Nat) (l4 : Int32) : m_M ((Nat × Nat × Nat × Int32) ⊕ Int32) :=
  m_B (m_G (q_ins (l4 + 1) Ln = true)) (fun _ => m_B (m_G (q_ins (l4 + 2) Ln = true)) (fun _ => m_B (f325 l1 (xs (l4 + 1).toNatClampNeg) (xs (l4 + 2).toNatClampNeg) l3) (fun v3 => m_B (m_G (q_ins (l4 + 1) Ln = true)) (fun _ => m_B (m_G (q_ins (l4 + 2) Ln = true)) (fun _ => m_B (m_aK l2 12) (fun _ => m_B (f275 l2 (xs (l4 + 1).toNatClampNeg) (xs (l4 + 2).toNatClampNeg)) (fun v7 => m_B (m_aK l2 12) (fun _ => m_B (f177 l2) (fun v9 => if v9 = v3 then (if v3 = 0 then (m_B (m_lJ l3 0) (fun v10 => if (lg_cmp v10 (v7.toInt64)) = 0 then (f340_1312 Ln xs l1 l2 l3 l4) else (m_B (f340_1310 Ln xs) (fun r => m_R (.inr r))))) else (f340_1312 Ln xs l1 l2 l3 l4)) else (m_B (f340_1293 Ln xs) (fun r => m_R (.inr r))))))))))))
set_option maxRecDepth 20000 in
theorem f340_1247_ok {Ln : Nat} {xs : Nat → Int32} {l1 : Nat} {l2 : Nat} {l3 : Nat} {l4 : Int32} {h : q_H} {o : q_O} {hz : q_H} {x : ((Nat × Nat × Nat × Int32) ⊕ Int32) × q_H} (hf : f340_1247 Ln xs l1 l2 l3 l4 h = some x) (hK : (m_yK (fun (s : Nat × Nat × Nat × Int32) (h : q_H) => q_Ev (some (Ln, xs)) 340 23 [(0, .ref q_SC), (1, .ref (s.1)), (2, .ref (s.2.1)), (3, .ref (s.2.2.1)), (4, .int (s.2.2.2))] [] h o hz) (q_KI o hz)) x) : q_Ev (some (Ln, xs)) 340 1247 [(0, .ref q_SC), (1, .ref l1), (2, .ref l2), (3, .ref l3), (4, .int l4)] [] h o hz := by
  unfold f340_1247 at hf
  refine ev_aload_n (q_cod qk340 rfl) (by decide) rfl ?_
  refine ev_aload_n (q_cod qk340 rfl) (by decide) rfl ?_
  refine ev_iload (q_cod qk340 rfl) (by decide) rfl ?_
  refine ev_ic (v := 1) (q_cod qk340 rfl) (by decide) (by decide) ?_
  refine ev_iadd (q_cod qk340 rfl) (by decide) ?_
  refine em_sald (q_cod qk340 rfl) (by decide) hf (fun hf => ?_)
  refine ev_aload_n (q_cod qk340 rfl) (by decide) rfl ?_
  refine ev_iload (q_cod qk340 rfl) (by decide) rfl ?_
  refine ev_ic (v := 2) (q_cod qk340 rfl) (by decide) (by decide) ?_
  refine ev_iadd (q_cod qk340 rfl) (by decide) ?_
  refine em_sald (q_cod qk340 rfl) (by decide) hf (fun hf => ?_)
  refine ev_aload_n (q_cod qk340 rfl) (by decide) rfl ?_
  refine em_call (v := (fun u => some (.int u))) (q_cod qk340 rfl) rfl rfl (q_cokS rfl rfl) rfl (fun x e => f325_cl e) hf (fun v3 h hf => ?_)
  refine ev_is2 (L' := [(0, .ref q_SC), (1, .ref l1), (2, .ref l2), (3, .ref l3), (4, .int l4), (5, .int v3)]) (q_cod qk340 rfl) (by decide) rfl ?_
  refine ev_aload_n (q_cod qk340 rfl) (by decide) rfl ?_
  refine ev_aload_n (q_cod qk340 rfl) (by decide) rfl ?_
  refine ev_iload (q_cod qk340 rfl) (by decide) rfl ?_
  refine ev_ic (v := 1) (q_cod qk340 rfl) (by decide) (by decide) ?_
  refine ev_iadd (q_cod qk340 rfl) (by decide) ?_
  refine em_sald (q_cod qk340 rfl) (by decide) hf (fun hf => ?_)
  refine ev_aload_n (q_cod qk340 rfl) (by decide) rfl ?_
  refine ev_iload (q_cod qk340 rfl) (by decide) rfl ?_
  refine ev_ic (v := 2) (q_cod qk340 rfl) (by decide) (by decide) ?_
  refine ev_iadd (q_cod qk340 rfl) (by decide) ?_
  refine em_sald (q_cod qk340 rfl) (by decide) hf (fun hf => ?_)
  obtain ⟨g6, hf⟩ := m_aK_some hf
  refine em_call (v := (fun u => some (.int u))) (q_cod qk340 rfl) rfl rfl (q_cokV rfl rfl (Or.inr g6)) rfl (fun x e => f275_cl e) hf (fun v7 h hf => ?_)
  refine ev_is2 (L' := [(0, .ref q_SC), (1, .ref l1), (2, .ref l2), (3, .ref l3), (4, .int l4), (5, .int v3), (6, .int v7)]) (q_cod qk340 rfl) (by decide) rfl ?_
  refine ev_aload_n (q_cod qk340 rfl) (by decide) rfl ?_
  obtain ⟨g8, hf⟩ := m_aK_some hf
  refine em_call (v := (fun u => some (.int u))) (q_cod qk340 rfl) rfl rfl (q_cokV rfl rfl (Or.inr g8)) rfl (fun x e => f177_cl e) hf (fun v9 h hf => ?_)
  refine ev_iload (q_cod qk340 rfl) (by decide) rfl ?_
  refine em_ic_eq (q_cod qk340 rfl) (by decide) hf (fun c13 hf => ?_) (fun c13 hf => ?_)
  · refine ev_iload (q_cod qk340 rfl) (by decide) rfl ?_
    refine em_if_ne (q_cod qk340 rfl) (by decide) hf (fun c12 hf => ?_) (fun c12 hf => ?_)
    · refine ev_aload_n (q_cod qk340 rfl) (by decide) rfl ?_
      refine ev_ic (v := 0) (q_cod qk340 rfl) (by decide) (by decide) ?_
      refine em_lJ (q_cod qk340 rfl) (by decide) hf (fun v10 hf => ?_)
      refine ev_iload (q_cod qk340 rfl) (by decide) rfl ?_
      refine ev_i2l (q_cod qk340 rfl) (by decide) ?_
      refine ev_lcmp (q_cod qk340 rfl) (by decide) ?_
      refine em_if_eq (q_cod qk340 rfl) (by decide) hf (fun c11 hf => ?_) (fun c11 hf => ?_)
      · exact ev_weak (q_pk [0, 1, 2, 3, 4] rfl) (f340_1312_ok hf hK)
      · obtain ⟨y0, hf0, hx⟩ := m_inr_some hf
        subst hx
        exact ev_weak (q_pk [] rfl) (f340_1310_ok hf0 hK)
    · exact ev_weak (q_pk [0, 1, 2, 3, 4] rfl) (f340_1312_ok hf hK)
  · obtain ⟨y0, hf0, hx⟩ := m_inr_some hf
    subst hx
    exact ev_weak (q_pk [] rfl) (f340_1293_ok hf0 hK)
def f340_1392 (Ln : Nat) (xs : Nat → Int32) (l1 : Nat) (l2 : Nat) (l3 : Nat) (l4 : Int32) : m_M ((Nat × Nat × Nat × Int32) ⊕ Int32) :=
  f340_2357 Ln xs l1 l2 l3 l4
set_option maxRecDepth 20000 in
theorem f340_1392_ok {Ln : Nat} {xs : Nat → Int32} {l1 : Nat} {l2 : Nat} {l3 : Nat} {l4 : Int32} {h : q_H} {o : q_O} {hz : q_H} {x : ((Nat × Nat × Nat × Int32) ⊕ Int32) × q_H} (hf : f340_1392 Ln xs l1 l2 l3 l4 h = some x) (hK : (m_yK (fun (s : Nat × Nat × Nat × Int32) (h : q_H) => q_Ev (some (Ln, xs)) 340 23 [(0, .ref q_SC), (1, .ref (s.1)), (2, .ref (s.2.1)), (3, .ref (s.2.2.1)), (4, .int (s.2.2.2))] [] h o hz) (q_KI o hz)) x) : q_Ev (some (Ln, xs)) 340 1392 [(0, .ref q_SC), (1, .ref l1), (2, .ref l2), (3, .ref l3), (4, .int l4)] [] h o hz := by
  unfold f340_1392 at hf
  refine ev_goto (q_cod qk340 rfl) (by decide) ?_
  exact (f340_2357_ok hf hK)
def f340_1390 (Ln : Nat) (xs : Nat → Int32) : m_M Int32 :=
  m_R 0
set_option maxRecDepth 20000 in
theorem f340_1390_ok {Ln : Nat} {xs : Nat → Int32} {h : q_H} {o : q_O} {hz : q_H} {x : Int32 × q_H} (hf : f340_1390 Ln xs h = some x) (hK : (q_KI o hz) x) : q_Ev (some (Ln, xs)) 340 1390 [] [] h o hz := by
  unfold f340_1390 at hf
  refine ev_ic (v := 0) (q_cod qk340 rfl) (by decide) (by decide) ?_
  obtain rfl := m_R_inv hf
  obtain ⟨rfl, rfl⟩ := (show q_KI o hz (0, _) from hK)
  exact ev_ret (q_cod qk340 rfl) rfl
def f340_1373 (Ln : Nat) (xs : Nat → Int32) : m_M Int32 :=
  m_R 0
set_option maxRecDepth 20000 in
theorem f340_1373_ok {Ln : Nat} {xs : Nat → Int32} {h : q_H} {o : q_O} {hz : q_H} {x : Int32 × q_H} (hf : f340_1373 Ln xs h = some x) (hK : (q_KI o hz) x) : q_Ev (some (Ln, xs)) 340 1373 [] [] h o hz := by
  unfold f340_1373 at hf
  refine ev_ic (v := 0) (q_cod qk340 rfl) (by decide) (by decide) ?_
  obtain rfl := m_R_inv hf
  obtain ⟨rfl, rfl⟩ := (show q_KI o hz (0, _) from hK)
  exact ev_ret (q_cod qk340 rfl) rfl
def f340_1315 (Ln : Nat) (xs : Nat → Int32) (l1 : Nat) (l2 : Nat) (l3 : Nat) (l4 : Int32) : m_M ((Nat × Nat × Nat × Int32) ⊕ Int32) :=
  m_B (m_G (q_ins (l4 + 1) Ln = true)) (fun _ => m_B (m_G (q_ins (l4 + 2) Ln = true)) (fun _ => m_B (m_G (q_ins (l4 + 3) Ln = true)) (fun _ => m_B (f326 l1 (xs (l4 + 1).toNatClampNeg) (xs (l4 + 2).toNatClampNeg) (xs (l4 + 3).toNatClampNeg) l3) (fun v4 => m_B (m_G (q_ins (l4 + 1) Ln = true)) (fun _ => m_B (m_G (q_ins (l4 + 2) Ln = true)) (fun _ => m_B (m_G (q_ins (l4 + 3) Ln = true)) (fun _ => m_B (m_aK l2 12) (fun _ => m_B (f279 l2 (xs (l4 + 1).toNatClampNeg) (xs (l4 + 2).toNatClampNeg) (xs (l4 + 3).toNatClampNeg)) (fun v9 => m_B (m_aK l2 12) (fun _ => m_B (f177 l2) (fun v11 => if v11 = v4 then (if v4 = 0 then (m_B (m_lJ l3 0) (fun v12 => if (lg_cmp v12 (v9.toInt64)) = 0 then (f340_1392 Ln xs l1 l2 l3 l4) else (m_B (f340_1390 Ln xs) (fun r => m_R (.inr r))))) else (f340_1392 Ln xs l1 l2 l3 l4)) else (m_B (f340_1373 Ln xs) (fun r => m_R (.inr r))))))))))))))
set_option maxRecDepth 20000 in
theorem f340_1315_ok {Ln : Nat} {xs : Nat → Int32} {l1 : Nat} {l2 : Nat} {l3 : Nat} {l4 : Int32} {h : q_H} {o : q_O} {hz : q_H} {x : ((Nat × Nat × Nat × Int32) ⊕ Int32) × q_H} (hf : f340_1315 Ln xs l1 l2 l3 l4 h = some x) (hK : (m_yK (fun (s : Nat × Nat × Nat × Int32) (h : q_H) => q_Ev (some (Ln, xs)) 340 23 [(0, .ref q_SC), (1, .ref (s.1)), (2, .ref (s.2.1)), (3, .ref (s.2.2.1)), (4, .int (s.2.2.2))] [] h o hz) (q_KI o hz)) x) : q_Ev (some (Ln, xs)) 340 1315 [(0, .ref q_SC), (1, .ref l1), (2, .ref l2), (3, .ref l3), (4, .int l4)] [] h o hz := by
  unfold f340_1315 at hf
  refine ev_aload_n (q_cod qk340 rfl) (by decide) rfl ?_
  refine ev_aload_n (q_cod qk340 rfl) (by decide) rfl ?_
  refine ev_iload (q_cod qk340 rfl) (by decide) rfl ?_
  refine ev_ic (v := 1) (q_cod qk340 rfl) (by decide) (by decide) ?_
  refine ev_iadd (q_cod qk340 rfl) (by decide) ?_
  refine em_sald (q_cod qk340 rfl) (by decide) hf (fun hf => ?_)
  refine ev_aload_n (q_cod qk340 rfl) (by decide) rfl ?_
  refine ev_iload (q_cod qk340 rfl) (by decide) rfl ?_
  refine ev_ic (v := 2) (q_cod qk340 rfl) (by decide) (by decide) ?_
  refine ev_iadd (q_cod qk340 rfl) (by decide) ?_
  refine em_sald (q_cod qk340 rfl) (by decide) hf (fun hf => ?_)
  refine ev_aload_n (q_cod qk340 rfl) (by decide) rfl ?_
  refine ev_iload (q_cod qk340 rfl) (by decide) rfl ?_
  refine ev_ic (v := 3) (q_cod qk340 rfl) (by decide) (by decide) ?_
  refine ev_iadd (q_cod qk340 rfl) (by decide) ?_
  refine em_sald (q_cod qk340 rfl) (by decide) hf (fun hf => ?_)
  refine ev_aload_n (q_cod qk340 rfl) (by decide) rfl ?_
  refine em_call (v := (fun u => some (.int u))) (q_cod qk340 rfl) rfl rfl (q_cokS rfl rfl) rfl (fun x e => f326_cl e) hf (fun v4 h hf => ?_)
  refine ev_is2 (L' := [(0, .ref q_SC), (1, .ref l1), (2, .ref l2), (3, .ref l3), (4, .int l4), (5, .int v4)]) (q_cod qk340 rfl) (by decide) rfl ?_
  refine ev_aload_n (q_cod qk340 rfl) (by decide) rfl ?_
  refine ev_aload_n (q_cod qk340 rfl) (by decide) rfl ?_
  refine ev_iload (q_cod qk340 rfl) (by decide) rfl ?_
  refine ev_ic (v := 1) (q_cod qk340 rfl) (by decide) (by decide) ?_
  refine ev_iadd (q_cod qk340 rfl) (by decide) ?_
  refine em_sald (q_cod qk340 rfl) (by decide) hf (fun hf => ?_)
  refine ev_aload_n (q_cod qk340 rfl) (by decide) rfl ?_
  refine ev_iload (q_cod qk340 rfl) (by decide) rfl ?_
  refine ev_ic (v := 2) (q_cod qk340 rfl) (by decide) (by decide) ?_
  refine ev_iadd (q_cod qk340 rfl) (by decide) ?_
  refine em_sald (q_cod qk340 rfl) (by decide) hf (fun hf => ?_)
  refine ev_aload_n (q_cod qk340 rfl) (by decide) rfl ?_
  refine ev_iload (q_cod qk340 rfl) (by decide) rfl ?_
  refine ev_ic (v := 3) (q_cod qk340 rfl) (by decide) (by decide) ?_
  refine ev_iadd (q_cod qk340 rfl) (by decide) ?_
  refine em_sald (q_cod qk340 rfl) (by decide) hf (fun hf => ?_)
  obtain ⟨g8, hf⟩ := m_aK_some hf
  refine em_call (v := (fun u => some (.int u))) (q_cod qk340 rfl) rfl rfl (q_cokV rfl rfl (Or.inr g8)) rfl (fun x e => f279_cl e) hf (fun v9 h hf => ?_)
  refine ev_is2 (L' := [(0, .ref q_SC), (1, .ref l1), (2, .ref l2), (3, .ref l3), (4, .int l4), (5, .int v4), (6, .int v9)]) (q_cod qk340 rfl) (by decide) rfl ?_
  refine ev_aload_n (q_cod qk340 rfl) (by decide) rfl ?_
  obtain ⟨g10, hf⟩ := m_aK_some hf
  refine em_call (v := (fun u => some (.int u))) (q_cod qk340 rfl) rfl rfl (q_cokV rfl rfl (Or.inr g10)) rfl (fun x e => f177_cl e) hf (fun v11 h hf => ?_)
  refine ev_iload (q_cod qk340 rfl) (by decide) rfl ?_
  refine em_ic_eq (q_cod qk340 rfl) (by decide) hf (fun c15 hf => ?_) (fun c15 hf => ?_)
  · refine ev_iload (q_cod qk340 rfl) (by decide) rfl ?_
    refine em_if_ne (q_cod qk340 rfl) (by decide) hf (fun c14 hf => ?_) (fun c14 hf => ?_)
    · refine ev_aload_n (q_cod qk340 rfl) (by decide) rfl ?_
      refine ev_ic (v := 0) (q_cod qk340 rfl) (by decide) (by decide) ?_
      refine em_lJ (q_cod qk340 rfl) (by decide) hf (fun v12 hf => ?_)
      refine ev_iload (q_cod qk340 rfl) (by decide) rfl ?_
      refine ev_i2l (q_cod qk340 rfl) (by decide) ?_
      refine ev_lcmp (q_cod qk340 rfl) (by decide) ?_
      refine em_if_eq (q_cod qk340 rfl) (by decide) hf (fun c13 hf => ?_) (fun c13 hf => ?_)
      · exact ev_weak (q_pk [0, 1, 2, 3, 4] rfl) (f340_1392_ok hf hK)
      · obtain ⟨y0, hf0, hx⟩ := m_inr_some hf
        subst hx
        exact ev_weak (q_pk [] rfl) (f340_1390_ok hf0 hK)
    · exact ev_weak (q_pk [0, 1, 2, 3, 4] rfl) (f340_1392_ok hf hK)
  · obtain ⟨y0, hf0, hx⟩ := m_inr_some hf
    subst hx
    exact ev_weak (q_pk [] rfl) (f340_1373_ok hf0 hK)
def f340_1472 (Ln : Nat) (xs : Nat → Int32) (l1 : Nat) (l2 : Nat) (l3 : Nat) (l4 : Int32) : m_M ((Nat × Nat × Nat × Int32) ⊕ Int32) :=
  f340_2357 Ln xs l1 l2 l3 l4
set_option maxRecDepth 20000 in
theorem f340_1472_ok {Ln : Nat} {xs : Nat → Int32} {l1 : Nat} {l2 : Nat} {l3 : Nat} {l4 : Int32} {h : q_H} {o : q_O} {hz : q_H} {x : ((Nat × Nat × Nat × Int32) ⊕ Int32) × q_H} (hf : f340_1472 Ln xs l1 l2 l3 l4 h = some x) (hK : (m_yK (fun (s : Nat × Nat × Nat × Int32) (h : q_H) => q_Ev (some (Ln, xs)) 340 23 [(0, .ref q_SC), (1, .ref (s.1)), (2, .ref (s.2.1)), (3, .ref (s.2.2.1)), (4, .int (s.2.2.2))] [] h o hz) (q_KI o hz)) x) : q_Ev (some (Ln, xs)) 340 1472 [(0, .ref q_SC), (1, .ref l1), (2, .ref l2), (3, .ref l3), (4, .int l4)] [] h o hz := by
  unfold f340_1472 at hf
  refine ev_goto (q_cod qk340 rfl) (by decide) ?_
  exact (f340_2357_ok hf hK)
def f340_1470 (Ln : Nat) (xs : Nat → Int32) : m_M Int32 :=
  m_R 0
set_option maxRecDepth 20000 in
theorem f340_1470_ok {Ln : Nat} {xs : Nat → Int32} {h : q_H} {o : q_O} {hz : q_H} {x : Int32 × q_H} (hf : f340_1470 Ln xs h = some x) (hK : (q_KI o hz) x) : q_Ev (some (Ln, xs)) 340 1470 [] [] h o hz := by
  unfold f340_1470 at hf
  refine ev_ic (v := 0) (q_cod qk340 rfl) (by decide) (by decide) ?_
  obtain rfl := m_R_inv hf
  obtain ⟨rfl, rfl⟩ := (show q_KI o hz (0, _) from hK)
  exact ev_ret (q_cod qk340 rfl) rfl
def f340_1453 (Ln : Nat) (xs : Nat → Int32) : m_M Int32 :=
  m_R 0
set_option maxRecDepth 20000 in
theorem f340_1453_ok {Ln : Nat} {xs : Nat → Int32} {h : q_H} {o : q_O} {hz : q_H} {x : Int32 × q_H} (hf : f340_1453 Ln xs h = some x) (hK : (q_KI o hz) x) : q_Ev (some (Ln, xs)) 340 1453 [] [] h o hz := by
  unfold f340_1453 at hf
  refine ev_ic (v := 0) (q_cod qk340 rfl) (by decide) (by decide) ?_
  obtain rfl := m_R_inv hf
  obtain ⟨rfl, rfl⟩ := (show q_KI o hz (0, _) from hK)
  exact ev_ret (q_cod qk340 rfl) rfl
def f340_1395 (Ln : Nat) (xs : Nat → Int32) (l1 : Nat) (l2 : Nat) (l3 : Nat) (l4 : Int32) : m_M ((Nat × Nat × Nat × Int32) ⊕ Int32) :=
  m_B (m_G (q_ins (l4 + 1) Ln = true)) (fun _ => m_B (m_G (q_ins (l4 + 2) Ln = true)) (fun _ => m_B (m_G (q_ins (l4 + 3) Ln = true)) (fun _ => m_B (f327 l1 (xs (l4 + 1).toNatClampNeg) (xs (l4 + 2).toNatClampNeg) (xs (l4 + 3).toNatClampNeg) l3) (fun v4 => m_B (m_G (q_ins (l4 + 1) Ln = true)) (fun _ => m_B (m_G (q_ins (l4 + 2) Ln = true)) (fun _ => m_B (m_G (q_ins (l4 + 3) Ln = true)) (fun _ => m_B (m_aK l2 12) (fun _ => m_B (f280 l2 (xs (l4 + 1).toNatClampNeg) (xs (l4 + 2).toNatClampNeg) (xs (l4 + 3).toNatClampNeg)) (fun v9 => m_B (m_aK l2 12) (fun _ => m_B (f177 l2) (fun v11 => if v11 = v4 then (if v4 = 0 then (m_B (m_lJ l3 0) (fun v12 => if (lg_cmp v12 (v9.toInt64)) = 0 then (f340_1472 Ln xs l1 l2 l3 l4) else (m_B (f340_1470 Ln xs) (fun r => m_R (.inr r))))) else (f340_1472 Ln xs l1 l2 l3 l4)) else (m_B (f340_1453 Ln xs) (fun r => m_R (.inr r))))))))))))))
set_option maxRecDepth 20000 in
theorem f340_1395_ok {Ln : Nat} {xs : Nat → Int32} {l1 : Nat} {l2 : Nat} {l3 : Nat} {l4 : Int32} {h : q_H} {o : q_O} {hz : q_H} {x : ((Nat × Nat × Nat × Int32) ⊕ Int32) × q_H} (hf : f340_1395 Ln xs l1 l2 l3 l4 h = some x) (hK : (m_yK (fun (s : Nat × Nat × Nat × Int32) (h : q_H) => q_Ev (some (Ln, xs)) 340 23 [(0, .ref q_SC), (1, .ref (s.1)), (2, .ref (s.2.1)), (3, .ref (s.2.2.1)), (4, .int (s.2.2.2))] [] h o hz) (q_KI o hz)) x) : q_Ev (some (Ln, xs)) 340 1395 [(0, .ref q_SC), (1, .ref l1), (2, .ref l2), (3, .ref l3), (4, .int l4)] [] h o hz := by
  unfold f340_1395 at hf
  refine ev_aload_n (q_cod qk340 rfl) (by decide) rfl ?_
  refine ev_aload_n (q_cod qk340 rfl) (by decide) rfl ?_
  refine ev_iload (q_cod qk340 rfl) (by decide) rfl ?_
  refine ev_ic (v := 1) (q_cod qk340 rfl) (by decide) (by decide) ?_
  refine ev_iadd (q_cod qk340 rfl) (by decide) ?_
  refine em_sald (q_cod qk340 rfl) (by decide) hf (fun hf => ?_)
  refine ev_aload_n (q_cod qk340 rfl) (by decide) rfl ?_
  refine ev_iload (q_cod qk340 rfl) (by decide) rfl ?_
  refine ev_ic (v := 2) (q_cod qk340 rfl) (by decide) (by decide) ?_
  refine ev_iadd (q_cod qk340 rfl) (by decide) ?_
  refine em_sald (q_cod qk340 rfl) (by decide) hf (fun hf => ?_)
  refine ev_aload_n (q_cod qk340 rfl) (by decide) rfl ?_
  refine ev_iload (q_cod qk340 rfl) (by decide) rfl ?_
  refine ev_ic (v := 3) (q_cod qk340 rfl) (by decide) (by decide) ?_
  refine ev_iadd (q_cod qk340 rfl) (by decide) ?_
  refine em_sald (q_cod qk340 rfl) (by decide) hf (fun hf => ?_)
  refine ev_aload_n (q_cod qk340 rfl) (by decide) rfl ?_
  refine em_call (v := (fun u => some (.int u))) (q_cod qk340 rfl) rfl rfl (q_cokS rfl rfl) rfl (fun x e => f327_cl e) hf (fun v4 h hf => ?_)
  refine ev_is2 (L' := [(0, .ref q_SC), (1, .ref l1), (2, .ref l2), (3, .ref l3), (4, .int l4), (5, .int v4)]) (q_cod qk340 rfl) (by decide) rfl ?_
  refine ev_aload_n (q_cod qk340 rfl) (by decide) rfl ?_
  refine ev_aload_n (q_cod qk340 rfl) (by decide) rfl ?_
  refine ev_iload (q_cod qk340 rfl) (by decide) rfl ?_
  refine ev_ic (v := 1) (q_cod qk340 rfl) (by decide) (by decide) ?_
  refine ev_iadd (q_cod qk340 rfl) (by decide) ?_
  refine em_sald (q_cod qk340 rfl) (by decide) hf (fun hf => ?_)
  refine ev_aload_n (q_cod qk340 rfl) (by decide) rfl ?_
  refine ev_iload (q_cod qk340 rfl) (by decide) rfl ?_
  refine ev_ic (v := 2) (q_cod qk340 rfl) (by decide) (by decide) ?_
  refine ev_iadd (q_cod qk340 rfl) (by decide) ?_
  refine em_sald (q_cod qk340 rfl) (by decide) hf (fun hf => ?_)
  refine ev_aload_n (q_cod qk340 rfl) (by decide) rfl ?_
  refine ev_iload (q_cod qk340 rfl) (by decide) rfl ?_
  refine ev_ic (v := 3) (q_cod qk340 rfl) (by decide) (by decide) ?_
  refine ev_iadd (q_cod qk340 rfl) (by decide) ?_
  refine em_sald (q_cod qk340 rfl) (by decide) hf (fun hf => ?_)
  obtain ⟨g8, hf⟩ := m_aK_some hf
  refine em_call (v := (fun u => some (.int u))) (q_cod qk340 rfl) rfl rfl (q_cokV rfl rfl (Or.inr g8)) rfl (fun x e => f280_cl e) hf (fun v9 h hf => ?_)
  refine ev_is2 (L' := [(0, .ref q_SC), (1, .ref l1), (2, .ref l2), (3, .ref l3), (4, .int l4), (5, .int v4), (6, .int v9)]) (q_cod qk340 rfl) (by decide) rfl ?_
  refine ev_aload_n (q_cod qk340 rfl) (by decide) rfl ?_
  obtain ⟨g10, hf⟩ := m_aK_some hf
  refine em_call (v := (fun u => some (.int u))) (q_cod qk340 rfl) rfl rfl (q_cokV rfl rfl (Or.inr g10)) rfl (fun x e => f177_cl e) hf (fun v11 h hf => ?_)
  refine ev_iload (q_cod qk340 rfl) (by decide) rfl ?_
  refine em_ic_eq (q_cod qk340 rfl) (by decide) hf (fun c15 hf => ?_) (fun c15 hf => ?_)
  · refine ev_iload (q_cod qk340 rfl) (by decide) rfl ?_
    refine em_if_ne (q_cod qk340 rfl) (by decide) hf (fun c14 hf => ?_) (fun c14 hf => ?_)
    · refine ev_aload_n (q_cod qk340 rfl) (by decide) rfl ?_
      refine ev_ic (v := 0) (q_cod qk340 rfl) (by decide) (by decide) ?_
      refine em_lJ (q_cod qk340 rfl) (by decide) hf (fun v12 hf => ?_)
      refine ev_iload (q_cod qk340 rfl) (by decide) rfl ?_
      refine ev_i2l (q_cod qk340 rfl) (by decide) ?_
      refine ev_lcmp (q_cod qk340 rfl) (by decide) ?_
      refine em_if_eq (q_cod qk340 rfl) (by decide) hf (fun c13 hf => ?_) (fun c13 hf => ?_)
      · exact ev_weak (q_pk [0, 1, 2, 3, 4] rfl) (f340_1472_ok hf hK)
      · obtain ⟨y0, hf0, hx⟩ := m_inr_some hf
        subst hx
        exact ev_weak (q_pk [] rfl) (f340_1470_ok hf0 hK)
    · exact ev_weak (q_pk [0, 1, 2, 3, 4] rfl) (f340_1472_ok hf hK)
  · obtain ⟨y0, hf0, hx⟩ := m_inr_some hf
    subst hx
    exact ev_weak (q_pk [] rfl) (f340_1453_ok hf0 hK)
def f340_1540 (Ln : Nat) (xs : Nat → Int32) (l1 : Nat) (l2 : Nat) (l3 : Nat) (l4 : Int32) : m_M ((Nat × Nat × Nat × Int32) ⊕ Int32) :=
  f340_2357 Ln xs l1 l2 l3 l4
set_option maxRecDepth 20000 in
theorem f340_1540_ok {Ln : Nat} {xs : Nat → Int32} {l1 : Nat} {l2 : Nat} {l3 : Nat} {l4 : Int32} {h : q_H} {o : q_O} {hz : q_H} {x : ((Nat × Nat × Nat × Int32) ⊕ Int32) × q_H} (hf : f340_1540 Ln xs l1 l2 l3 l4 h = some x) (hK : (m_yK (fun (s : Nat × Nat × Nat × Int32) (h : q_H) => q_Ev (some (Ln, xs)) 340 23 [(0, .ref q_SC), (1, .ref (s.1)), (2, .ref (s.2.1)), (3, .ref (s.2.2.1)), (4, .int (s.2.2.2))] [] h o hz) (q_KI o hz)) x) : q_Ev (some (Ln, xs)) 340 1540 [(0, .ref q_SC), (1, .ref l1), (2, .ref l2), (3, .ref l3), (4, .int l4)] [] h o hz := by
  unfold f340_1540 at hf
  refine ev_goto (q_cod qk340 rfl) (by decide) ?_
  exact (f340_2357_ok hf hK)
def f340_1538 (Ln : Nat) (xs : Nat → Int32) : m_M Int32 :=
  m_R 0
set_option maxRecDepth 20000 in
theorem f340_1538_ok {Ln : Nat} {xs : Nat → Int32} {h : q_H} {o : q_O} {hz : q_H} {x : Int32 × q_H} (hf : f340_1538 Ln xs h = some x) (hK : (q_KI o hz) x) : q_Ev (some (Ln, xs)) 340 1538 [] [] h o hz := by
  unfold f340_1538 at hf
  refine ev_ic (v := 0) (q_cod qk340 rfl) (by decide) (by decide) ?_
  obtain rfl := m_R_inv hf
  obtain ⟨rfl, rfl⟩ := (show q_KI o hz (0, _) from hK)
  exact ev_ret (q_cod qk340 rfl) rfl
def f340_1521 (Ln : Nat) (xs : Nat → Int32) : m_M Int32 :=
  m_R 0
set_option maxRecDepth 20000 in
theorem f340_1521_ok {Ln : Nat} {xs : Nat → Int32} {h : q_H} {o : q_O} {hz : q_H} {x : Int32 × q_H} (hf : f340_1521 Ln xs h = some x) (hK : (q_KI o hz) x) : q_Ev (some (Ln, xs)) 340 1521 [] [] h o hz := by
  unfold f340_1521 at hf
  refine ev_ic (v := 0) (q_cod qk340 rfl) (by decide) (by decide) ?_
  obtain rfl := m_R_inv hf
  obtain ⟨rfl, rfl⟩ := (show q_KI o hz (0, _) from hK)
  exact ev_ret (q_cod qk340 rfl) rfl
def f340_1475 (Ln : Nat) (xs : Nat → Int32) (l1 : Nat) (l2 : Nat) (l3 : Nat) (l4 : Int32) : m_M ((Nat × Nat × Nat × Int32) ⊕ Int32) :=
  m_B (m_G (q_ins (l4 + 1) Ln = true)) (fun _ => m_B (m_G (q_ins (l4 + 2) Ln = true)) (fun _ => m_B (f328 l1 (xs (l4 + 1).toNatClampNeg) (xs (l4 + 2).toNatClampNeg) l3) (fun v3 => m_B (m_G (q_ins (l4 + 1) Ln = true)) (fun _ => m_B (m_G (q_ins (l4 + 2) Ln = true)) (fun _ => m_B (m_aK l2 12) (fun _ => m_B (f284 l2 (xs (l4 + 1).toNatClampNeg) (xs (l4 + 2).toNatClampNeg)) (fun v7 => m_B (m_aK l2 12) (fun _ => m_B (f177 l2) (fun v9 => if v9 = v3 then (if v3 = 0 then (m_B (m_lJ l3 0) (fun v10 => if (lg_cmp v10 (v7.toInt64)) = 0 then (f340_1540 Ln xs l1 l2 l3 l4) else (m_B (f340_1538 Ln xs) (fun r => m_R (.inr r))))) else (f340_1540 Ln xs l1 l2 l3 l4)) else (m_B (f340_1521 Ln xs) (fun r => m_R (.inr r))))))))))))
set_option maxRecDepth 20000 in
theorem f340_1475_ok {Ln : Nat} {xs : Nat → Int32} {l1 : Nat} {l2 : Nat} {l3 : Nat} {l4 : Int32} {h : q_H} {o : q_O} {hz : q_H} {x : ((Nat × Nat × Nat × Int32) ⊕ Int32) × q_H} (hf : f340_1475 Ln xs l1 l2 l3 l4 h = some x) (hK : (m_yK (fun (s : Nat × Nat × Nat × Int32) (h : q_H) => q_Ev (some (Ln, xs)) 340 23 [(0, .ref q_SC), (1, .ref (s.1)), (2, .ref (s.2.1)), (3, .ref (s.2.2.1)), (4, .int (s.2.2.2))] [] h o hz) (q_KI o hz)) x) : q_Ev (some (Ln, xs)) 340 1475 [(0, .ref q_SC), (1, .ref l1), (2, .ref l2), (3, .ref l3), (4, .int l4)] [] h o hz := by
  unfold f340_1475 at hf
  refine ev_aload_n (q_cod qk340 rfl) (by decide) rfl ?_
  refine ev_aload_n (q_cod qk340 rfl) (by decide) rfl ?_
  refine ev_iload (q_cod qk340 rfl) (by decide) rfl ?_
  refine ev_ic (v := 1) (q_cod qk340 rfl) (by decide) (by decide) ?_
  refine ev_iadd (q_cod qk340 rfl) (by decide) ?_
  refine em_sald (q_cod qk340 rfl) (by decide) hf (fun hf => ?_)
  refine ev_aload_n (q_cod qk340 rfl) (by decide) rfl ?_
  refine ev_iload (q_cod qk340 rfl) (by decide) rfl ?_
  refine ev_ic (v := 2) (q_cod qk340 rfl) (by decide) (by decide) ?_
  refine ev_iadd (q_cod qk340 rfl) (by decide) ?_
  refine em_sald (q_cod qk340 rfl) (by decide) hf (fun hf => ?_)
  refine ev_aload_n (q_cod qk340 rfl) (by decide) rfl ?_
  refine em_call (v := (fun u => some (.int u))) (q_cod qk340 rfl) rfl rfl (q_cokS rfl rfl) rfl (fun x e => f328_cl e) hf (fun v3 h hf => ?_)
  refine ev_is2 (L' := [(0, .ref q_SC), (1, .ref l1), (2, .ref l2), (3, .ref l3), (4, .int l4), (5, .int v3)]) (q_cod qk340 rfl) (by decide) rfl ?_
  refine ev_aload_n (q_cod qk340 rfl) (by decide) rfl ?_
  refine ev_aload_n (q_cod qk340 rfl) (by decide) rfl ?_
  refine ev_iload (q_cod qk340 rfl) (by decide) rfl ?_
  refine ev_ic (v := 1) (q_cod qk340 rfl) (by decide) (by decide) ?_
  refine ev_iadd (q_cod qk340 rfl) (by decide) ?_
  refine em_sald (q_cod qk340 rfl) (by decide) hf (fun hf => ?_)
  refine ev_aload_n (q_cod qk340 rfl) (by decide) rfl ?_
  refine ev_iload (q_cod qk340 rfl) (by decide) rfl ?_
  refine ev_ic (v := 2) (q_cod qk340 rfl) (by decide) (by decide) ?_
  refine ev_iadd (q_cod qk340 rfl) (by decide) ?_
  refine em_sald (q_cod qk340 rfl) (by decide) hf (fun hf => ?_)
  obtain ⟨g6, hf⟩ := m_aK_some hf
  refine em_call (v := (fun u => some (.int u))) (q_cod qk340 rfl) rfl rfl (q_cokV rfl rfl (Or.inr g6)) rfl (fun x e => f284_cl e) hf (fun v7 h hf => ?_)
  refine ev_is2 (L' := [(0, .ref q_SC), (1, .ref l1), (2, .ref l2), (3, .ref l3), (4, .int l4), (5, .int v3), (6, .int v7)]) (q_cod qk340 rfl) (by decide) rfl ?_
  refine ev_aload_n (q_cod qk340 rfl) (by decide) rfl ?_
  obtain ⟨g8, hf⟩ := m_aK_some hf
  refine em_call (v := (fun u => some (.int u))) (q_cod qk340 rfl) rfl rfl (q_cokV rfl rfl (Or.inr g8)) rfl (fun x e => f177_cl e) hf (fun v9 h hf => ?_)
  refine ev_iload (q_cod qk340 rfl) (by decide) rfl ?_
  refine em_ic_eq (q_cod qk340 rfl) (by decide) hf (fun c13 hf => ?_) (fun c13 hf => ?_)
  · refine ev_iload (q_cod qk340 rfl) (by decide) rfl ?_
    refine em_if_ne (q_cod qk340 rfl) (by decide) hf (fun c12 hf => ?_) (fun c12 hf => ?_)
    · refine ev_aload_n (q_cod qk340 rfl) (by decide) rfl ?_
      refine ev_ic (v := 0) (q_cod qk340 rfl) (by decide) (by decide) ?_
      refine em_lJ (q_cod qk340 rfl) (by decide) hf (fun v10 hf => ?_)
      refine ev_iload (q_cod qk340 rfl) (by decide) rfl ?_
      refine ev_i2l (q_cod qk340 rfl) (by decide) ?_
      refine ev_lcmp (q_cod qk340 rfl) (by decide) ?_
      refine em_if_eq (q_cod qk340 rfl) (by decide) hf (fun c11 hf => ?_) (fun c11 hf => ?_)
      · exact ev_weak (q_pk [0, 1, 2, 3, 4] rfl) (f340_1540_ok hf hK)
      · obtain ⟨y0, hf0, hx⟩ := m_inr_some hf
        subst hx
        exact ev_weak (q_pk [] rfl) (f340_1538_ok hf0 hK)
    · exact ev_weak (q_pk [0, 1, 2, 3, 4] rfl) (f340_1540_ok hf hK)
  · obtain ⟨y0, hf0, hx⟩ := m_inr_some hf
    subst hx
    exact ev_weak (q_pk [] rfl) (f340_1521_ok hf0 hK)
def f340_1620 (Ln : Nat) (xs : Nat → Int32) (l1 : Nat) (l2 : Nat) (l3 : Nat) (l4 : Int32) : m_M ((Nat × Nat × Nat × Int32) ⊕ Int32) :=
  f340_2357 Ln xs l1 l2 l3 l4
set_option maxRecDepth 20000 in
theorem f340_1620_ok {Ln : Nat} {xs : Nat → Int32} {l1 : Nat} {l2 : Nat} {l3 : Nat} {l4 : Int32} {h : q_H} {o : q_O} {hz : q_H} {x : ((Nat × Nat × Nat × Int32) ⊕ Int32) × q_H} (hf : f340_1620 Ln xs l1 l2 l3 l4 h = some x) (hK : (m_yK (fun (s : Nat × Nat × Nat × Int32) (h : q_H) => q_Ev (some (Ln, xs)) 340 23 [(0, .ref q_SC), (1, .ref (s.1)), (2, .ref (s.2.1)), (3, .ref (s.2.2.1)), (4, .int (s.2.2.2))] [] h o hz) (q_KI o hz)) x) : q_Ev (some (Ln, xs)) 340 1620 [(0, .ref q_SC), (1, .ref l1), (2, .ref l2), (3, .ref l3), (4, .int l4)] [] h o hz := by
  unfold f340_1620 at hf
  refine ev_goto (q_cod qk340 rfl) (by decide) ?_
  exact (f340_2357_ok hf hK)
def f340_1618 (Ln : Nat) (xs : Nat → Int32) : m_M Int32 :=
  m_R 0
set_option maxRecDepth 20000 in
theorem f340_1618_ok {Ln : Nat} {xs : Nat → Int32} {h : q_H} {o : q_O} {hz : q_H} {x : Int32 × q_H} (hf : f340_1618 Ln xs h = some x) (hK : (q_KI o hz) x) : q_Ev (some (Ln, xs)) 340 1618 [] [] h o hz := by
  unfold f340_1618 at hf
  refine ev_ic (v := 0) (q_cod qk340 rfl) (by decide) (by decide) ?_
  obtain rfl := m_R_inv hf
  obtain ⟨rfl, rfl⟩ := (show q_KI o hz (0, _) from hK)
  exact ev_ret (q_cod qk340 rfl) rfl
def f340_1601 (Ln : Nat) (xs : Nat → Int32) : m_M Int32 :=
  m_R 0
set_option maxRecDepth 20000 in
theorem f340_1601_ok {Ln : Nat} {xs : Nat → Int32} {h : q_H} {o : q_O} {hz : q_H} {x : Int32 × q_H} (hf : f340_1601 Ln xs h = some x) (hK : (q_KI o hz) x) : q_Ev (some (Ln, xs)) 340 1601 [] [] h o hz := by
  unfold f340_1601 at hf
  refine ev_ic (v := 0) (q_cod qk340 rfl) (by decide) (by decide) ?_
  obtain rfl := m_R_inv hf
  obtain ⟨rfl, rfl⟩ := (show q_KI o hz (0, _) from hK)
  exact ev_ret (q_cod qk340 rfl) rfl
def f340_1543 (Ln : Nat) (xs : Nat → Int32) (l1 : Nat) (l2 : Nat) (l3 : Nat) (l4 : Int32) : m_M ((Nat × Nat × Nat × Int32) ⊕ Int32) :=
  m_B (m_G (q_ins (l4 + 1) Ln = true)) (fun _ => m_B (m_G (q_ins (l4 + 2) Ln = true)) (fun _ => m_B (m_G (q_ins (l4 + 3) Ln = true)) (fun _ => m_B (f329 l1 (xs (l4 + 1).toNatClampNeg) (xs (l4 + 2).toNatClampNeg) (xs (l4 + 3).toNatClampNeg) l3) (fun v4 => m_B (m_G (q_ins (l4 + 1) Ln = true)) (fun _ => m_B (m_G (q_ins (l4 + 2) Ln = true)) (fun _ => m_B (m_G (q_ins (l4 + 3) Ln = true)) (fun _ => m_B (m_aK l2 12) (fun _ => m_B (f292 l2 (xs (l4 + 1).toNatClampNeg) (xs (l4 + 2).toNatClampNeg) (xs (l4 + 3).toNatClampNeg)) (fun v9 => m_B (m_aK l2 12) (fun _ => m_B (f177 l2) (fun v11 => if v11 = v4 then (if v4 = 0 then (m_B (m_lJ l3 0) (fun v12 => if (lg_cmp v12 (v9.toInt64)) = 0 then (f340_1620 Ln xs l1 l2 l3 l4) else (m_B (f340_1618 Ln xs) (fun r => m_R (.inr r))))) else (f340_1620 Ln xs l1 l2 l3 l4)) else (m_B (f340_1601 Ln xs) (fun r => m_R (.inr r))))))))))))))
set_option maxRecDepth 20000 in
theorem f340_1543_ok {Ln : Nat} {xs : Nat → Int32} {l1 : Nat} {l2 : Nat} {l3 : Nat} {l4 : Int32} {h : q_H} {o : q_O} {hz : q_H} {x : ((Nat × Nat × Nat × Int32) ⊕ Int32) × q_H} (hf : f340_1543 Ln xs l1 l2 l3 l4 h = some x) (hK : (m_yK (fun (s : Nat × Nat × Nat × Int32) (h : q_H) => q_Ev (some (Ln, xs)) 340 23 [(0, .ref q_SC), (1, .ref (s.1)), (2, .ref (s.2.1)), (3, .ref (s.2.2.1)), (4, .int (s.2.2.2))] [] h o hz) (q_KI o hz)) x) : q_Ev (some (Ln, xs)) 340 1543 [(0, .ref q_SC), (1, .ref l1), (2, .ref l2), (3, .ref l3), (4, .int l4)] [] h o hz := by
  unfold f340_1543 at hf
  refine ev_aload_n (q_cod qk340 rfl) (by decide) rfl ?_
  refine ev_aload_n (q_cod qk340 rfl) (by decide) rfl ?_
  refine ev_iload (q_cod qk340 rfl) (by decide) rfl ?_
  refine ev_ic (v := 1) (q_cod qk340 rfl) (by decide) (by decide) ?_
  refine ev_iadd (q_cod qk340 rfl) (by decide) ?_
  refine em_sald (q_cod qk340 rfl) (by decide) hf (fun hf => ?_)
  refine ev_aload_n (q_cod qk340 rfl) (by decide) rfl ?_
  refine ev_iload (q_cod qk340 rfl) (by decide) rfl ?_
  refine ev_ic (v := 2) (q_cod qk340 rfl) (by decide) (by decide) ?_
  refine ev_iadd (q_cod qk340 rfl) (by decide) ?_
  refine em_sald (q_cod qk340 rfl) (by decide) hf (fun hf => ?_)
  refine ev_aload_n (q_cod qk340 rfl) (by decide) rfl ?_
  refine ev_iload (q_cod qk340 rfl) (by decide) rfl ?_
  refine ev_ic (v := 3) (q_cod qk340 rfl) (by decide) (by decide) ?_
  refine ev_iadd (q_cod qk340 rfl) (by decide) ?_
  refine em_sald (q_cod qk340 rfl) (by decide) hf (fun hf => ?_)
  refine ev_aload_n (q_cod qk340 rfl) (by decide) rfl ?_
  refine em_call (v := (fun u => some (.int u))) (q_cod qk340 rfl) rfl rfl (q_cokS rfl rfl) rfl (fun x e => f329_cl e) hf (fun v4 h hf => ?_)
  refine ev_is2 (L' := [(0, .ref q_SC), (1, .ref l1), (2, .ref l2), (3, .ref l3), (4, .int l4), (5, .int v4)]) (q_cod qk340 rfl) (by decide) rfl ?_
  refine ev_aload_n (q_cod qk340 rfl) (by decide) rfl ?_
  refine ev_aload_n (q_cod qk340 rfl) (by decide) rfl ?_
  refine ev_iload (q_cod qk340 rfl) (by decide) rfl ?_
  refine ev_ic (v := 1) (q_cod qk340 rfl) (by decide) (by decide) ?_
  refine ev_iadd (q_cod qk340 rfl) (by decide) ?_
  refine em_sald (q_cod qk340 rfl) (by decide) hf (fun hf => ?_)
  refine ev_aload_n (q_cod qk340 rfl) (by decide) rfl ?_
  refine ev_iload (q_cod qk340 rfl) (by decide) rfl ?_
  refine ev_ic (v := 2) (q_cod qk340 rfl) (by decide) (by decide) ?_
  refine ev_iadd (q_cod qk340 rfl) (by decide) ?_
  refine em_sald (q_cod qk340 rfl) (by decide) hf (fun hf => ?_)
  refine ev_aload_n (q_cod qk340 rfl) (by decide) rfl ?_
  refine ev_iload (q_cod qk340 rfl) (by decide) rfl ?_
  refine ev_ic (v := 3) (q_cod qk340 rfl) (by decide) (by decide) ?_
  refine ev_iadd (q_cod qk340 rfl) (by decide) ?_
  refine em_sald (q_cod qk340 rfl) (by decide) hf (fun hf => ?_)
  obtain ⟨g8, hf⟩ := m_aK_some hf
  refine em_call (v := (fun u => some (.int u))) (q_cod qk340 rfl) rfl rfl (q_cokV rfl rfl (Or.inr g8)) rfl (fun x e => f292_cl e) hf (fun v9 h hf => ?_)
  refine ev_is2 (L' := [(0, .ref q_SC), (1, .ref l1), (2, .ref l2), (3, .ref l3), (4, .int l4), (5, .int v4), (6, .int v9)]) (q_cod qk340 rfl) (by decide) rfl ?_
  refine ev_aload_n (q_cod qk340 rfl) (by decide) rfl ?_
  obtain ⟨g10, hf⟩ := m_aK_some hf
  refine em_call (v := (fun u => some (.int u))) (q_cod qk340 rfl) rfl rfl (q_cokV rfl rfl (Or.inr g10)) rfl (fun x e => f177_cl e) hf (fun v11 h hf => ?_)
  refine ev_iload (q_cod qk340 rfl) (by decide) rfl ?_
  refine em_ic_eq (q_cod qk340 rfl) (by decide) hf (fun c15 hf => ?_) (fun c15 hf => ?_)
  · refine ev_iload (q_cod qk340 rfl) (by decide) rfl ?_
    refine em_if_ne (q_cod qk340 rfl) (by decide) hf (fun c14 hf => ?_) (fun c14 hf => ?_)
    · refine ev_aload_n (q_cod qk340 rfl) (by decide) rfl ?_
      refine ev_ic (v := 0) (q_cod qk340 rfl) (by decide) (by decide) ?_
      refine em_lJ (q_cod qk340 rfl) (by decide) hf (fun v12 hf => ?_)
      refine ev_iload (q_cod qk340 rfl) (by decide) rfl ?_
      refine ev_i2l (q_cod qk340 rfl) (by decide) ?_
      refine ev_lcmp (q_cod qk340 rfl) (by decide) ?_
      refine em_if_eq (q_cod qk340 rfl) (by decide) hf (fun c13 hf => ?_) (fun c13 hf => ?_)
      · exact ev_weak (q_pk [0, 1, 2, 3, 4] rfl) (f340_1620_ok hf hK)
      · obtain ⟨y0, hf0, hx⟩ := m_inr_some hf
        subst hx
        exact ev_weak (q_pk [] rfl) (f340_1618_ok hf0 hK)
    · exact ev_weak (q_pk [0, 1, 2, 3, 4] rfl) (f340_1620_ok hf hK)
  · obtain ⟨y0, hf0, hx⟩ := m_inr_some hf
    subst hx
    exact ev_weak (q_pk [] rfl) (f340_1601_ok hf0 hK)
def f340_1688 (Ln : Nat) (xs : Nat → Int32) (l1 : Nat) (l2 : Nat) (l3 : Nat) (l4 : Int32) : m_M ((Nat × Nat × Nat × Int32) ⊕ Int32) :=
  f340_2357 Ln xs l1 l2 l3 l4
set_option maxRecDepth 20000 in
theorem f340_1688_ok {Ln : Nat} {xs : Nat → Int32} {l1 : Nat} {l2 : Nat} {l3 : Nat} {l4 : Int32} {h : q_H} {o : q_O} {hz : q_H} {x : ((Nat × Nat × Nat × Int32) ⊕ Int32) × q_H} (hf : f340_1688 Ln xs l1 l2 l3 l4 h = some x) (hK : (m_yK (fun (s : Nat × Nat × Nat × Int32) (h : q_H) => q_Ev (some (Ln, xs)) 340 23 [(0, .ref q_SC), (1, .ref (s.1)), (2, .ref (s.2.1)), (3, .ref (s.2.2.1)), (4, .int (s.2.2.2))] [] h o hz) (q_KI o hz)) x) : q_Ev (some (Ln, xs)) 340 1688 [(0, .ref q_SC), (1, .ref l1), (2, .ref l2), (3, .ref l3), (4, .int l4)] [] h o hz := by
  unfold f340_1688 at hf
  refine ev_goto (q_cod qk340 rfl) (by decide) ?_
  exact (f340_2357_ok hf hK)
def f340_1686 (Ln : Nat) (xs : Nat → Int32) : m_M Int32 :=
  m_R 0
set_option maxRecDepth 20000 in
theorem f340_1686_ok {Ln : Nat} {xs : Nat → Int32} {h : q_H} {o : q_O} {hz : q_H} {x : Int32 × q_H} (hf : f340_1686 Ln xs h = some x) (hK : (q_KI o hz) x) : q_Ev (some (Ln, xs)) 340 1686 [] [] h o hz := by
  unfold f340_1686 at hf
  refine ev_ic (v := 0) (q_cod qk340 rfl) (by decide) (by decide) ?_
  obtain rfl := m_R_inv hf
  obtain ⟨rfl, rfl⟩ := (show q_KI o hz (0, _) from hK)
  exact ev_ret (q_cod qk340 rfl) rfl
def f340_1669 (Ln : Nat) (xs : Nat → Int32) : m_M Int32 :=
  m_R 0
set_option maxRecDepth 20000 in
theorem f340_1669_ok {Ln : Nat} {xs : Nat → Int32} {h : q_H} {o : q_O} {hz : q_H} {x : Int32 × q_H} (hf : f340_1669 Ln xs h = some x) (hK : (q_KI o hz) x) : q_Ev (some (Ln, xs)) 340 1669 [] [] h o hz := by
  unfold f340_1669 at hf
  refine ev_ic (v := 0) (q_cod qk340 rfl) (by decide) (by decide) ?_
  obtain rfl := m_R_inv hf
  obtain ⟨rfl, rfl⟩ := (show q_KI o hz (0, _) from hK)
  exact ev_ret (q_cod qk340 rfl) rfl
def f340_1623 (Ln : Nat) (xs : Nat → Int32) (l1 : Nat) (l2 : Nat) (l3 : Nat) (l4 : Int32) : m_M ((Nat × Nat × Nat × Int32) ⊕ Int32) :=
  m_B (m_G (q_ins (l4 + 1) Ln = true)) (fun _ => m_B (m_G (q_ins (l4 + 2) Ln = true)) (fun _ => m_B (f330 l1 (xs (l4 + 1).toNatClampNeg) (xs (l4 + 2).toNatClampNeg) l3) (fun v3 => m_B (m_G (q_ins (l4 + 1) Ln = true)) (fun _ => m_B (m_G (q_ins (l4 + 2) Ln = true)) (fun _ => m_B (m_aK l2 12) (fun _ => m_B (f295 l2 (xs (l4 + 1).toNatClampNeg) (xs (l4 + 2).toNatClampNeg)) (fun v7 => m_B (m_aK l2 12) (fun _ => m_B (f177 l2) (fun v9 => if v9 = v3 then (if v3 = 0 then (m_B (m_lJ l3 0) (fun v10 => if (lg_cmp v10 (v7.toInt64)) = 0 then (f340_1688 Ln xs l1 l2 l3 l4) else (m_B (f340_1686 Ln xs) (fun r => m_R (.inr r))))) else (f340_1688 Ln xs l1 l2 l3 l4)) else (m_B (f340_1669 Ln xs) (fun r => m_R (.inr r))))))))))))
set_option maxRecDepth 20000 in
theorem f340_1623_ok {Ln : Nat} {xs : Nat → Int32} {l1 : Nat} {l2 : Nat} {l3 : Nat} {l4 : Int32} {h : q_H} {o : q_O} {hz : q_H} {x : ((Nat × Nat × Nat × Int32) ⊕ Int32) × q_H} (hf : f340_1623 Ln xs l1 l2 l3 l4 h = some x) (hK : (m_yK (fun (s : Nat × Nat × Nat × Int32) (h : q_H) => q_Ev (some (Ln, xs)) 340 23 [(0, .ref q_SC), (1, .ref (s.1)), (2, .ref (s.2.1)), (3, .ref (s.2.2.1)), (4, .int (s.2.2.2))] [] h o hz) (q_KI o hz)) x) : q_Ev (some (Ln, xs)) 340 1623 [(0, .ref q_SC), (1, .ref l1), (2, .ref l2), (3, .ref l3), (4, .int l4)] [] h o hz := by
  unfold f340_1623 at hf
  refine ev_aload_n (q_cod qk340 rfl) (by decide) rfl ?_
  refine ev_aload_n (q_cod qk340 rfl) (by decide) rfl ?_
  refine ev_iload (q_cod qk340 rfl) (by decide) rfl ?_
  refine ev_ic (v := 1) (q_cod qk340 rfl) (by decide) (by decide) ?_
  refine ev_iadd (q_cod qk340 rfl) (by decide) ?_
  refine em_sald (q_cod qk340 rfl) (by decide) hf (fun hf => ?_)
  refine ev_aload_n (q_cod qk340 rfl) (by decide) rfl ?_
  refine ev_iload (q_cod qk340 rfl) (by decide) rfl ?_
  refine ev_ic (v := 2) (q_cod qk340 rfl) (by decide) (by decide) ?_
  refine ev_iadd (q_cod qk340 rfl) (by decide) ?_
  refine em_sald (q_cod qk340 rfl) (by decide) hf (fun hf => ?_)
  refine ev_aload_n (q_cod qk340 rfl) (by decide) rfl ?_
  refine em_call (v := (fun u => some (.int u))) (q_cod qk340 rfl) rfl rfl (q_cokS rfl rfl) rfl (fun x e => f330_cl e) hf (fun v3 h hf => ?_)
  refine ev_is2 (L' := [(0, .ref q_SC), (1, .ref l1), (2, .ref l2), (3, .ref l3), (4, .int l4), (5, .int v3)]) (q_cod qk340 rfl) (by decide) rfl ?_
  refine ev_aload_n (q_cod qk340 rfl) (by decide) rfl ?_
  refine ev_aload_n (q_cod qk340 rfl) (by decide) rfl ?_
  refine ev_iload (q_cod qk340 rfl) (by decide) rfl ?_
  refine ev_ic (v := 1) (q_cod qk340 rfl) (by decide) (by decide) ?_
  refine ev_iadd (q_cod qk340 rfl) (by decide) ?_
  refine em_sald (q_cod qk340 rfl) (by decide) hf (fun hf => ?_)
  refine ev_aload_n (q_cod qk340 rfl) (by decide) rfl ?_
  refine ev_iload (q_cod qk340 rfl) (by decide) rfl ?_
  refine ev_ic (v := 2) (q_cod qk340 rfl) (by decide) (by decide) ?_
  refine ev_iadd (q_cod qk340 rfl) (by decide) ?_
  refine em_sald (q_cod qk340 rfl) (by decide) hf (fun hf => ?_)
  obtain ⟨g6, hf⟩ := m_aK_some hf
  refine em_call (v := (fun u => some (.int u))) (q_cod qk340 rfl) rfl rfl (q_cokV rfl rfl (Or.inr g6)) rfl (fun x e => f295_cl e) hf (fun v7 h hf => ?_)
  refine ev_is2 (L' := [(0, .ref q_SC), (1, .ref l1), (2, .ref l2), (3, .ref l3), (4, .int l4), (5, .int v3), (6, .int v7)]) (q_cod qk340 rfl) (by decide) rfl ?_
  refine ev_aload_n (q_cod qk340 rfl) (by decide) rfl ?_
  obtain ⟨g8, hf⟩ := m_aK_some hf
  refine em_call (v := (fun u => some (.int u))) (q_cod qk340 rfl) rfl rfl (q_cokV rfl rfl (Or.inr g8)) rfl (fun x e => f177_cl e) hf (fun v9 h hf => ?_)
  refine ev_iload (q_cod qk340 rfl) (by decide) rfl ?_
  refine em_ic_eq (q_cod qk340 rfl) (by decide) hf (fun c13 hf => ?_) (fun c13 hf => ?_)
  · refine ev_iload (q_cod qk340 rfl) (by decide) rfl ?_
    refine em_if_ne (q_cod qk340 rfl) (by decide) hf (fun c12 hf => ?_) (fun c12 hf => ?_)
    · refine ev_aload_n (q_cod qk340 rfl) (by decide) rfl ?_
      refine ev_ic (v := 0) (q_cod qk340 rfl) (by decide) (by decide) ?_
      refine em_lJ (q_cod qk340 rfl) (by decide) hf (fun v10 hf => ?_)
      refine ev_iload (q_cod qk340 rfl) (by decide) rfl ?_
      refine ev_i2l (q_cod qk340 rfl) (by decide) ?_
      refine ev_lcmp (q_cod qk340 rfl) (by decide) ?_
      refine em_if_eq (q_cod qk340 rfl) (by decide) hf (fun c11 hf => ?_) (fun c11 hf => ?_)
      · exact ev_weak (q_pk [0, 1, 2, 3, 4] rfl) (f340_1688_ok hf hK)
      · obtain ⟨y0, hf0, hx⟩ := m_inr_some hf
        subst hx
        exact ev_weak (q_pk [] rfl) (f340_1686_ok hf0 hK)
    · exact ev_weak (q_pk [0, 1, 2, 3, 4] rfl) (f340_1688_ok hf hK)
  · obtain ⟨y0, hf0, hx⟩ := m_inr_some hf
    subst hx
    exact ev_weak (q_pk [] rfl) (f340_1669_ok hf0 hK)
def f340_1756 (Ln : Nat) (xs : Nat → Int32) (l1 : Nat) (l2 : Nat) (l3 : Nat) (l4 : Int32) : m_M ((Nat × Nat × Nat × Int32) ⊕ Int32) :=
  f340_2357 Ln xs l1 l2 l3 l4
set_option maxRecDepth 20000 in
theorem f340_1756_ok {Ln : Nat} {xs : Nat → Int32} {l1 : Nat} {l2 : Nat} {l3 : Nat} {l4 : Int32} {h : q_H} {o : q_O} {hz : q_H} {x : ((Nat × Nat × Nat × Int32) ⊕ Int32) × q_H} (hf : f340_1756 Ln xs l1 l2 l3 l4 h = some x) (hK : (m_yK (fun (s : Nat × Nat × Nat × Int32) (h : q_H) => q_Ev (some (Ln, xs)) 340 23 [(0, .ref q_SC), (1, .ref (s.1)), (2, .ref (s.2.1)), (3, .ref (s.2.2.1)), (4, .int (s.2.2.2))] [] h o hz) (q_KI o hz)) x) : q_Ev (some (Ln, xs)) 340 1756 [(0, .ref q_SC), (1, .ref l1), (2, .ref l2), (3, .ref l3), (4, .int l4)] [] h o hz := by
  unfold f340_1756 at hf
  refine ev_goto (q_cod qk340 rfl) (by decide) ?_
  exact (f340_2357_ok hf hK)
def f340_1754 (Ln : Nat) (xs : Nat → Int32) : m_M Int32 :=
  m_R 0
set_option maxRecDepth 20000 in
theorem f340_1754_ok {Ln : Nat} {xs : Nat → Int32} {h : q_H} {o : q_O} {hz : q_H} {x : Int32 × q_H} (hf : f340_1754 Ln xs h = some x) (hK : (q_KI o hz) x) : q_Ev (some (Ln, xs)) 340 1754 [] [] h o hz := by
  unfold f340_1754 at hf
  refine ev_ic (v := 0) (q_cod qk340 rfl) (by decide) (by decide) ?_
  obtain rfl := m_R_inv hf
  obtain ⟨rfl, rfl⟩ := (show q_KI o hz (0, _) from hK)
  exact ev_ret (q_cod qk340 rfl) rfl
def f340_1737 (Ln : Nat) (xs : Nat → Int32) : m_M Int32 :=
  m_R 0
set_option maxRecDepth 20000 in
theorem f340_1737_ok {Ln : Nat} {xs : Nat → Int32} {h : q_H} {o : q_O} {hz : q_H} {x : Int32 × q_H} (hf : f340_1737 Ln xs h = some x) (hK : (q_KI o hz) x) : q_Ev (some (Ln, xs)) 340 1737 [] [] h o hz := by
  unfold f340_1737 at hf
  refine ev_ic (v := 0) (q_cod qk340 rfl) (by decide) (by decide) ?_
  obtain rfl := m_R_inv hf
  obtain ⟨rfl, rfl⟩ := (show q_KI o hz (0, _) from hK)
  exact ev_ret (q_cod qk340 rfl) rfl
def f340_1691 (Ln : Nat) (xs : Nat → Int32) (l1 : Nat) (l2 : Nat) (l3 : Nat) (l4 : Int32) : m_M ((Nat × Nat × Nat × Int32) ⊕ Int32) :=
  m_B (m_G (q_ins (l4 + 1) Ln = true)) (fun _ => m_B (m_G (q_ins (l4 + 2) Ln = true)) (fun _ => m_B (f331 l1 (xs (l4 + 1).toNatClampNeg) (xs (l4 + 2).toNatClampNeg) l3) (fun v3 => m_B (m_G (q_ins (l4 + 1) Ln = true)) (fun _ => m_B (m_G (q_ins (l4 + 2) Ln = true)) (fun _ => m_B (m_aK l2 12) (fun _ => m_B (f300 l2 (xs (l4 + 1).toNatClampNeg) (xs (l4 + 2).toNatClampNeg)) (fun v7 => m_B (m_aK l2 12) (fun _ => m_B (f177 l2) (fun v9 => if v9 = v3 then (if v3 = 0 then (m_B (m_lJ l3 0) (fun v10 => if (lg_cmp v10 (v7.toInt64)) = 0 then (f340_1756 Ln xs l1 l2 l3 l4) else (m_B (f340_1754 Ln xs) (fun r => m_R (.inr r))))) else (f340_1756 Ln xs l1 l2 l3 l4)) else (m_B (f340_1737 Ln xs) (fun r => m_R (.inr r))))))))))))
set_option maxRecDepth 20000 in
theorem f340_1691_ok {Ln : Nat} {xs : Nat → Int32} {l1 : Nat} {l2 : Nat} {l3 : Nat} {l4 : Int32} {h : q_H} {o : q_O} {hz : q_H} {x : ((Nat × Nat × Nat × Int32) ⊕ Int32) × q_H} (hf : f340_1691 Ln xs l1 l2 l3 l4 h = some x) (hK : (m_yK (fun (s : Nat × Nat × Nat × Int32) (h : q_H) => q_Ev (some (Ln, xs)) 340 23 [(0, .ref q_SC), (1, .ref (s.1)), (2, .ref (s.2.1)), (3, .ref (s.2.2.1)), (4, .int (s.2.2.2))] [] h o hz) (q_KI o hz)) x) : q_Ev (some (Ln, xs)) 340 1691 [(0, .ref q_SC), (1, .ref l1), (2, .ref l2), (3, .ref l3), (4, .int l4)] [] h o hz := by
  unfold f340_1691 at hf
  refine ev_aload_n (q_cod qk340 rfl) (by decide) rfl ?_
  refine ev_aload_n (q_cod qk340 rfl) (by decide) rfl ?_
  refine ev_iload (q_cod qk340 rfl) (by decide) rfl ?_
  refine ev_ic (v := 1) (q_cod qk340 rfl) (by decide) (by decide) ?_
  refine ev_iadd (q_cod qk340 rfl) (by decide) ?_
  refine em_sald (q_cod qk340 rfl) (by decide) hf (fun hf => ?_)
  refine ev_aload_n (q_cod qk340 rfl) (by decide) rfl ?_
  refine ev_iload (q_cod qk340 rfl) (by decide) rfl ?_
  refine ev_ic (v := 2) (q_cod qk340 rfl) (by decide) (by decide) ?_
  refine ev_iadd (q_cod qk340 rfl) (by decide) ?_
  refine em_sald (q_cod qk340 rfl) (by decide) hf (fun hf => ?_)
  refine ev_aload_n (q_cod qk340 rfl) (by decide) rfl ?_
  refine em_call (v := (fun u => some (.int u))) (q_cod qk340 rfl) rfl rfl (q_cokS rfl rfl) rfl (fun x e => f331_cl e) hf (fun v3 h hf => ?_)
  refine ev_is2 (L' := [(0, .ref q_SC), (1, .ref l1), (2, .ref l2), (3, .ref l3), (4, .int l4), (5, .int v3)]) (q_cod qk340 rfl) (by decide) rfl ?_
  refine ev_aload_n (q_cod qk340 rfl) (by decide) rfl ?_
  refine ev_aload_n (q_cod qk340 rfl) (by decide) rfl ?_
  refine ev_iload (q_cod qk340 rfl) (by decide) rfl ?_
  refine ev_ic (v := 1) (q_cod qk340 rfl) (by decide) (by decide) ?_
  refine ev_iadd (q_cod qk340 rfl) (by decide) ?_
  refine em_sald (q_cod qk340 rfl) (by decide) hf (fun hf => ?_)
  refine ev_aload_n (q_cod qk340 rfl) (by decide) rfl ?_
  refine ev_iload (q_cod qk340 rfl) (by decide) rfl ?_
  refine ev_ic (v := 2) (q_cod qk340 rfl) (by decide) (by decide) ?_
  refine ev_iadd (q_cod qk340 rfl) (by decide) ?_
  refine em_sald (q_cod qk340 rfl) (by decide) hf (fun hf => ?_)
  obtain ⟨g6, hf⟩ := m_aK_some hf
  refine em_call (v := (fun u => some (.int u))) (q_cod qk340 rfl) rfl rfl (q_cokV rfl rfl (Or.inr g6)) rfl (fun x e => f300_cl e) hf (fun v7 h hf => ?_)
  refine ev_is2 (L' := [(0, .ref q_SC), (1, .ref l1), (2, .ref l2), (3, .ref l3), (4, .int l4), (5, .int v3), (6, .int v7)]) (q_cod qk340 rfl) (by decide) rfl ?_
  refine ev_aload_n (q_cod qk340 rfl) (by decide) rfl ?_
  obtain ⟨g8, hf⟩ := m_aK_some hf
  refine em_call (v := (fun u => some (.int u))) (q_cod qk340 rfl) rfl rfl (q_cokV rfl rfl (Or.inr g8)) rfl (fun x e => f177_cl e) hf (fun v9 h hf => ?_)
  refine ev_iload (q_cod qk340 rfl) (by decide) rfl ?_
  refine em_ic_eq (q_cod qk340 rfl) (by decide) hf (fun c13 hf => ?_) (fun c13 hf => ?_)
  · refine ev_iload (q_cod qk340 rfl) (by decide) rfl ?_
    refine em_if_ne (q_cod qk340 rfl) (by decide) hf (fun c12 hf => ?_) (fun c12 hf => ?_)
    · refine ev_aload_n (q_cod qk340 rfl) (by decide) rfl ?_
      refine ev_ic (v := 0) (q_cod qk340 rfl) (by decide) (by decide) ?_
      refine em_lJ (q_cod qk340 rfl) (by decide) hf (fun v10 hf => ?_)
      refine ev_iload (q_cod qk340 rfl) (by decide) rfl ?_
      refine ev_i2l (q_cod qk340 rfl) (by decide) ?_
      refine ev_lcmp (q_cod qk340 rfl) (by decide) ?_
      refine em_if_eq (q_cod qk340 rfl) (by decide) hf (fun c11 hf => ?_) (fun c11 hf => ?_)
      · exact ev_weak (q_pk [0, 1, 2, 3, 4] rfl) (f340_1756_ok hf hK)
      · obtain ⟨y0, hf0, hx⟩ := m_inr_some hf
        subst hx
        exact ev_weak (q_pk [] rfl) (f340_1754_ok hf0 hK)
    · exact ev_weak (q_pk [0, 1, 2, 3, 4] rfl) (f340_1756_ok hf hK)
  · obtain ⟨y0, hf0, hx⟩ := m_inr_some hf
    subst hx
    exact ev_weak (q_pk [] rfl) (f340_1737_ok hf0 hK)
def f340_1812 (Ln : Nat) (xs : Nat → Int32) (l1 : Nat) (l2 : Nat) (l3 : Nat) (l4 : Int32) : m_M ((Nat × Nat × Nat × Int32) ⊕ Int32) :=
  f340_2357 Ln xs l1 l2 l3 l4
set_option maxRecDepth 20000 in
theorem f340_1812_ok {Ln : Nat} {xs : Nat → Int32} {l1 : Nat} {l2 : Nat} {l3 : Nat} {l4 : Int32} {h : q_H} {o : q_O} {hz : q_H} {x : ((Nat × Nat × Nat × Int32) ⊕ Int32) × q_H} (hf : f340_1812 Ln xs l1 l2 l3 l4 h = some x) (hK : (m_yK (fun (s : Nat × Nat × Nat × Int32) (h : q_H) => q_Ev (some (Ln, xs)) 340 23 [(0, .ref q_SC), (1, .ref (s.1)), (2, .ref (s.2.1)), (3, .ref (s.2.2.1)), (4, .int (s.2.2.2))] [] h o hz) (q_KI o hz)) x) : q_Ev (some (Ln, xs)) 340 1812 [(0, .ref q_SC), (1, .ref l1), (2, .ref l2), (3, .ref l3), (4, .int l4)] [] h o hz := by
  unfold f340_1812 at hf
  refine ev_goto (q_cod qk340 rfl) (by decide) ?_
  exact (f340_2357_ok hf hK)
def f340_1810 (Ln : Nat) (xs : Nat → Int32) : m_M Int32 :=
  m_R 0
set_option maxRecDepth 20000 in
theorem f340_1810_ok {Ln : Nat} {xs : Nat → Int32} {h : q_H} {o : q_O} {hz : q_H} {x : Int32 × q_H} (hf : f340_1810 Ln xs h = some x) (hK : (q_KI o hz) x) : q_Ev (some (Ln, xs)) 340 1810 [] [] h o hz := by
  unfold f340_1810 at hf
  refine ev_ic (v := 0) (q_cod qk340 rfl) (by decide) (by decide) ?_
  obtain rfl := m_R_inv hf
  obtain ⟨rfl, rfl⟩ := (show q_KI o hz (0, _) from hK)
  exact ev_ret (q_cod qk340 rfl) rfl
def f340_1793 (Ln : Nat) (xs : Nat → Int32) : m_M Int32 :=
  m_R 0
set_option maxRecDepth 20000 in
theorem f340_1793_ok {Ln : Nat} {xs : Nat → Int32} {h : q_H} {o : q_O} {hz : q_H} {x : Int32 × q_H} (hf : f340_1793 Ln xs h = some x) (hK : (q_KI o hz) x) : q_Ev (some (Ln, xs)) 340 1793 [] [] h o hz := by
  unfold f340_1793 at hf
  refine ev_ic (v := 0) (q_cod qk340 rfl) (by decide) (by decide) ?_
  obtain rfl := m_R_inv hf
  obtain ⟨rfl, rfl⟩ := (show q_KI o hz (0, _) from hK)
  exact ev_ret (q_cod qk340 rfl) rfl
def f340_1759 (Ln : Nat) (xs : Nat → Int32) (l1 : Nat) (l2 : Nat) (l3 : Nat) (l4 : Int32) : m_M ((Nat × Nat × Nat × Int32) ⊕ Int32) :=
  m_B (m_G (q_ins (l4 + 1) Ln = true)) (fun _ => m_B (f332 l1 (xs (l4 + 1).toNatClampNeg) l3) (fun v2 => m_B (m_G (q_ins (l4 + 1) Ln = true)) (fun _ => m_B (m_aK l2 12) (fun _ => m_B (f301 l2 (xs (l4 + 1).toNatClampNeg)) (fun v5 => m_B (m_aK l2 12) (fun _ => m_B (f177 l2) (fun v7 => if v7 = v2 then (if v2 = 0 then (m_B (m_lJ l3 0) (fun v8 => if (lg_cmp v8 (v5.toInt64)) = 0 then (f340_1812 Ln xs l1 l2 l3 l4) else (m_B (f340_1810 Ln xs) (fun r => m_R (.inr r))))) else (f340_1812 Ln xs l1 l2 l3 l4)) else (m_B (f340_1793 Ln xs) (fun r => m_R (.inr r))))))))))
set_option maxRecDepth 20000 in
theorem f340_1759_ok {Ln : Nat} {xs : Nat → Int32} {l1 : Nat} {l2 : Nat} {l3 : Nat} {l4 : Int32} {h : q_H} {o : q_O} {hz : q_H} {x : ((Nat × Nat × Nat × Int32) ⊕ Int32) × q_H} (hf : f340_1759 Ln xs l1 l2 l3 l4 h = some x) (hK : (m_yK (fun (s : Nat × Nat × Nat × Int32) (h : q_H) => q_Ev (some (Ln, xs)) 340 23 [(0, .ref q_SC), (1, .ref (s.1)), (2, .ref (s.2.1)), (3, .ref (s.2.2.1)), (4, .int (s.2.2.2))] [] h o hz) (q_KI o hz)) x) : q_Ev (some (Ln, xs)) 340 1759 [(0, .ref q_SC), (1, .ref l1), (2, .ref l2), (3, .ref l3), (4, .int l4)] [] h o hz := by
  unfold f340_1759 at hf
  refine ev_aload_n (q_cod qk340 rfl) (by decide) rfl ?_
  refine ev_aload_n (q_cod qk340 rfl) (by decide) rfl ?_
  refine ev_iload (q_cod qk340 rfl) (by decide) rfl ?_
  refine ev_ic (v := 1) (q_cod qk340 rfl) (by decide) (by decide) ?_
  refine ev_iadd (q_cod qk340 rfl) (by decide) ?_
  refine em_sald (q_cod qk340 rfl) (by decide) hf (fun hf => ?_)
  refine ev_aload_n (q_cod qk340 rfl) (by decide) rfl ?_
  refine em_call (v := (fun u => some (.int u))) (q_cod qk340 rfl) rfl rfl (q_cokS rfl rfl) rfl (fun x e => f332_cl e) hf (fun v2 h hf => ?_)
  refine ev_is2 (L' := [(0, .ref q_SC), (1, .ref l1), (2, .ref l2), (3, .ref l3), (4, .int l4), (5, .int v2)]) (q_cod qk340 rfl) (by decide) rfl ?_
  refine ev_aload_n (q_cod qk340 rfl) (by decide) rfl ?_
  refine ev_aload_n (q_cod qk340 rfl) (by decide) rfl ?_
  refine ev_iload (q_cod qk340 rfl) (by decide) rfl ?_
  refine ev_ic (v := 1) (q_cod qk340 rfl) (by decide) (by decide) ?_
  refine ev_iadd (q_cod qk340 rfl) (by decide) ?_
  refine em_sald (q_cod qk340 rfl) (by decide) hf (fun hf => ?_)
  obtain ⟨g4, hf⟩ := m_aK_some hf
  refine em_call (v := (fun u => some (.int u))) (q_cod qk340 rfl) rfl rfl (q_cokV rfl rfl (Or.inr g4)) rfl (fun x e => f301_cl e) hf (fun v5 h hf => ?_)
  refine ev_is2 (L' := [(0, .ref q_SC), (1, .ref l1), (2, .ref l2), (3, .ref l3), (4, .int l4), (5, .int v2), (6, .int v5)]) (q_cod qk340 rfl) (by decide) rfl ?_
  refine ev_aload_n (q_cod qk340 rfl) (by decide) rfl ?_
  obtain ⟨g6, hf⟩ := m_aK_some hf
  refine em_call (v := (fun u => some (.int u))) (q_cod qk340 rfl) rfl rfl (q_cokV rfl rfl (Or.inr g6)) rfl (fun x e => f177_cl e) hf (fun v7 h hf => ?_)
  refine ev_iload (q_cod qk340 rfl) (by decide) rfl ?_
  refine em_ic_eq (q_cod qk340 rfl) (by decide) hf (fun c11 hf => ?_) (fun c11 hf => ?_)
  · refine ev_iload (q_cod qk340 rfl) (by decide) rfl ?_
    refine em_if_ne (q_cod qk340 rfl) (by decide) hf (fun c10 hf => ?_) (fun c10 hf => ?_)
    · refine ev_aload_n (q_cod qk340 rfl) (by decide) rfl ?_
      refine ev_ic (v := 0) (q_cod qk340 rfl) (by decide) (by decide) ?_
      refine em_lJ (q_cod qk340 rfl) (by decide) hf (fun v8 hf => ?_)
      refine ev_iload (q_cod qk340 rfl) (by decide) rfl ?_
      refine ev_i2l (q_cod qk340 rfl) (by decide) ?_
      refine ev_lcmp (q_cod qk340 rfl) (by decide) ?_
      refine em_if_eq (q_cod qk340 rfl) (by decide) hf (fun c9 hf => ?_) (fun c9 hf => ?_)
      · exact ev_weak (q_pk [0, 1, 2, 3, 4] rfl) (f340_1812_ok hf hK)
      · obtain ⟨y0, hf0, hx⟩ := m_inr_some hf
        subst hx
        exact ev_weak (q_pk [] rfl) (f340_1810_ok hf0 hK)
    · exact ev_weak (q_pk [0, 1, 2, 3, 4] rfl) (f340_1812_ok hf hK)
  · obtain ⟨y0, hf0, hx⟩ := m_inr_some hf
    subst hx
    exact ev_weak (q_pk [] rfl) (f340_1793_ok hf0 hK)
def f340_1868 (Ln : Nat) (xs : Nat → Int32) (l1 : Nat) (l2 : Nat) (l3 : Nat) (l4 : Int32) : m_M ((Nat × Nat × Nat × Int32) ⊕ Int32) :=
  f340_2357 Ln xs l1 l2 l3 l4
set_option maxRecDepth 20000 in
theorem f340_1868_ok {Ln : Nat} {xs : Nat → Int32} {l1 : Nat} {l2 : Nat} {l3 : Nat} {l4 : Int32} {h : q_H} {o : q_O} {hz : q_H} {x : ((Nat × Nat × Nat × Int32) ⊕ Int32) × q_H} (hf : f340_1868 Ln xs l1 l2 l3 l4 h = some x) (hK : (m_yK (fun (s : Nat × Nat × Nat × Int32) (h : q_H) => q_Ev (some (Ln, xs)) 340 23 [(0, .ref q_SC), (1, .ref (s.1)), (2, .ref (s.2.1)), (3, .ref (s.2.2.1)), (4, .int (s.2.2.2))] [] h o hz) (q_KI o hz)) x) : q_Ev (some (Ln, xs)) 340 1868 [(0, .ref q_SC), (1, .ref l1), (2, .ref l2), (3, .ref l3), (4, .int l4)] [] h o hz := by
  unfold f340_1868 at hf
  refine ev_goto (q_cod qk340 rfl) (by decide) ?_
  exact (f340_2357_ok hf hK)
def f340_1866 (Ln : Nat) (xs : Nat → Int32) : m_M Int32 :=
  m_R 0
set_option maxRecDepth 20000 in
theorem f340_1866_ok {Ln : Nat} {xs : Nat → Int32} {h : q_H} {o : q_O} {hz : q_H} {x : Int32 × q_H} (hf : f340_1866 Ln xs h = some x) (hK : (q_KI o hz) x) : q_Ev (some (Ln, xs)) 340 1866 [] [] h o hz := by
  unfold f340_1866 at hf
  refine ev_ic (v := 0) (q_cod qk340 rfl) (by decide) (by decide) ?_
  obtain rfl := m_R_inv hf
  obtain ⟨rfl, rfl⟩ := (show q_KI o hz (0, _) from hK)
  exact ev_ret (q_cod qk340 rfl) rfl
def f340_1849 (Ln : Nat) (xs : Nat → Int32) : m_M Int32 :=
  m_R 0
set_option maxRecDepth 20000 in
theorem f340_1849_ok {Ln : Nat} {xs : Nat → Int32} {h : q_H} {o : q_O} {hz : q_H} {x : Int32 × q_H} (hf : f340_1849 Ln xs h = some x) (hK : (q_KI o hz) x) : q_Ev (some (Ln, xs)) 340 1849 [] [] h o hz := by
  unfold f340_1849 at hf
  refine ev_ic (v := 0) (q_cod qk340 rfl) (by decide) (by decide) ?_
  obtain rfl := m_R_inv hf
  obtain ⟨rfl, rfl⟩ := (show q_KI o hz (0, _) from hK)
  exact ev_ret (q_cod qk340 rfl) rfl
def f340_1815 (Ln : Nat) (xs : Nat → Int32) (l1 : Nat) (l2 : Nat) (l3 : Nat) (l4 : Int32) : m_M ((Nat × Nat × Nat × Int32) ⊕ Int32) :=
  m_B (m_G (q_ins (l4 + 1) Ln = true)) (fun _ => m_B (f333 l1 (xs (l4 + 1).toNatClampNeg) l3) (fun v2 => m_B (m_G (q_ins (l4 + 1) Ln = true)) (fun _ => m_B (m_aK l2 12) (fun _ => m_B (f303 l2 (xs (l4 + 1).toNatClampNeg)) (fun v5 => m_B (m_aK l2 12) (fun _ => m_B (f177 l2) (fun v7 => if v7 = v2 then (if v2 = 0 then (m_B (m_lJ l3 0) (fun v8 => if (lg_cmp v8 (v5.toInt64)) = 0 then (f340_1868 Ln xs l1 l2 l3 l4) else (m_B (f340_1866 Ln xs) (fun r => m_R (.inr r))))) else (f340_1868 Ln xs l1 l2 l3 l4)) else (m_B (f340_1849 Ln xs) (fun r => m_R (.inr r))))))))))
set_option maxRecDepth 20000 in
theorem f340_1815_ok {Ln : Nat} {xs : Nat → Int32} {l1 : Nat} {l2 : Nat} {l3 : Nat} {l4 : Int32} {h : q_H} {o : q_O} {hz : q_H} {x : ((Nat × Nat × Nat × Int32) ⊕ Int32) × q_H} (hf : f340_1815 Ln xs l1 l2 l3 l4 h = some x) (hK : (m_yK (fun (s : Nat × Nat × Nat × Int32) (h : q_H) => q_Ev (some (Ln, xs)) 340 23 [(0, .ref q_SC), (1, .ref (s.1)), (2, .ref (s.2.1)), (3, .ref (s.2.2.1)), (4, .int (s.2.2.2))] [] h o hz) (q_KI o hz)) x) : q_Ev (some (Ln, xs)) 340 1815 [(0, .ref q_SC), (1, .ref l1), (2, .ref l2), (3, .ref l3), (4, .int l4)] [] h o hz := by
  unfold f340_1815 at hf
  refine ev_aload_n (q_cod qk340 rfl) (by decide) rfl ?_
  refine ev_aload_n (q_cod qk340 rfl) (by decide) rfl ?_
  refine ev_iload (q_cod qk340 rfl) (by decide) rfl ?_
  refine ev_ic (v := 1) (q_cod qk340 rfl) (by decide) (by decide) ?_
  refine ev_iadd (q_cod qk340 rfl) (by decide) ?_
  refine em_sald (q_cod qk340 rfl) (by decide) hf (fun hf => ?_)
  refine ev_aload_n (q_cod qk340 rfl) (by decide) rfl ?_
  refine em_call (v := (fun u => some (.int u))) (q_cod qk340 rfl) rfl rfl (q_cokS rfl rfl) rfl (fun x e => f333_cl e) hf (fun v2 h hf => ?_)
  refine ev_is2 (L' := [(0, .ref q_SC), (1, .ref l1), (2, .ref l2), (3, .ref l3), (4, .int l4), (5, .int v2)]) (q_cod qk340 rfl) (by decide) rfl ?_
  refine ev_aload_n (q_cod qk340 rfl) (by decide) rfl ?_
  refine ev_aload_n (q_cod qk340 rfl) (by decide) rfl ?_
  refine ev_iload (q_cod qk340 rfl) (by decide) rfl ?_
  refine ev_ic (v := 1) (q_cod qk340 rfl) (by decide) (by decide) ?_
  refine ev_iadd (q_cod qk340 rfl) (by decide) ?_
  refine em_sald (q_cod qk340 rfl) (by decide) hf (fun hf => ?_)
  obtain ⟨g4, hf⟩ := m_aK_some hf
  refine em_call (v := (fun u => some (.int u))) (q_cod qk340 rfl) rfl rfl (q_cokV rfl rfl (Or.inr g4)) rfl (fun x e => f303_cl e) hf (fun v5 h hf => ?_)
  refine ev_is2 (L' := [(0, .ref q_SC), (1, .ref l1), (2, .ref l2), (3, .ref l3), (4, .int l4), (5, .int v2), (6, .int v5)]) (q_cod qk340 rfl) (by decide) rfl ?_
  refine ev_aload_n (q_cod qk340 rfl) (by decide) rfl ?_
  obtain ⟨g6, hf⟩ := m_aK_some hf
  refine em_call (v := (fun u => some (.int u))) (q_cod qk340 rfl) rfl rfl (q_cokV rfl rfl (Or.inr g6)) rfl (fun x e => f177_cl e) hf (fun v7 h hf => ?_)
  refine ev_iload (q_cod qk340 rfl) (by decide) rfl ?_
  refine em_ic_eq (q_cod qk340 rfl) (by decide) hf (fun c11 hf => ?_) (fun c11 hf => ?_)
  · refine ev_iload (q_cod qk340 rfl) (by decide) rfl ?_
    refine em_if_ne (q_cod qk340 rfl) (by decide) hf (fun c10 hf => ?_) (fun c10 hf => ?_)
    · refine ev_aload_n (q_cod qk340 rfl) (by decide) rfl ?_
      refine ev_ic (v := 0) (q_cod qk340 rfl) (by decide) (by decide) ?_
      refine em_lJ (q_cod qk340 rfl) (by decide) hf (fun v8 hf => ?_)
      refine ev_iload (q_cod qk340 rfl) (by decide) rfl ?_
      refine ev_i2l (q_cod qk340 rfl) (by decide) ?_
      refine ev_lcmp (q_cod qk340 rfl) (by decide) ?_
      refine em_if_eq (q_cod qk340 rfl) (by decide) hf (fun c9 hf => ?_) (fun c9 hf => ?_)
      · exact ev_weak (q_pk [0, 1, 2, 3, 4] rfl) (f340_1868_ok hf hK)
      · obtain ⟨y0, hf0, hx⟩ := m_inr_some hf
        subst hx
        exact ev_weak (q_pk [] rfl) (f340_1866_ok hf0 hK)
    · exact ev_weak (q_pk [0, 1, 2, 3, 4] rfl) (f340_1868_ok hf hK)
  · obtain ⟨y0, hf0, hx⟩ := m_inr_some hf
    subst hx
    exact ev_weak (q_pk [] rfl) (f340_1849_ok hf0 hK)
def f340_1960 (Ln : Nat) (xs : Nat → Int32) (l1 : Nat) (l2 : Nat) (l3 : Nat) (l4 : Int32) : m_M ((Nat × Nat × Nat × Int32) ⊕ Int32) :=
  f340_2357 Ln xs l1 l2 l3 l4
set_option maxRecDepth 20000 in
theorem f340_1960_ok {Ln : Nat} {xs : Nat → Int32} {l1 : Nat} {l2 : Nat} {l3 : Nat} {l4 : Int32} {h : q_H} {o : q_O} {hz : q_H} {x : ((Nat × Nat × Nat × Int32) ⊕ Int32) × q_H} (hf : f340_1960 Ln xs l1 l2 l3 l4 h = some x) (hK : (m_yK (fun (s : Nat × Nat × Nat × Int32) (h : q_H) => q_Ev (some (Ln, xs)) 340 23 [(0, .ref q_SC), (1, .ref (s.1)), (2, .ref (s.2.1)), (3, .ref (s.2.2.1)), (4, .int (s.2.2.2))] [] h o hz) (q_KI o hz)) x) : q_Ev (some (Ln, xs)) 340 1960 [(0, .ref q_SC), (1, .ref l1), (2, .ref l2), (3, .ref l3), (4, .int l4)] [] h o hz := by
  unfold f340_1960 at hf
  refine ev_goto (q_cod qk340 rfl) (by decide) ?_
  exact (f340_2357_ok hf hK)
def f340_1958 (Ln : Nat) (xs : Nat → Int32) : m_M Int32 :=
  m_R 0
set_option maxRecDepth 20000 in
theorem f340_1958_ok {Ln : Nat} {xs : Nat → Int32} {h : q_H} {o : q_O} {hz : q_H} {x : Int32 × q_H} (hf : f340_1958 Ln xs h = some x) (hK : (q_KI o hz) x) : q_Ev (some (Ln, xs)) 340 1958 [] [] h o hz := by
  unfold f340_1958 at hf
  refine ev_ic (v := 0) (q_cod qk340 rfl) (by decide) (by decide) ?_
  obtain rfl := m_R_inv hf
  obtain ⟨rfl, rfl⟩ := (show q_KI o hz (0, _) from hK)
  exact ev_ret (q_cod qk340 rfl) rfl
def f340_1941 (Ln : Nat) (xs : Nat → Int32) : m_M Int32 :=
  m_R 0
set_option maxRecDepth 20000 in
theorem f340_1941_ok {Ln : Nat} {xs : Nat → Int32} {h : q_H} {o : q_O} {hz : q_H} {x : Int32 × q_H} (hf : f340_1941 Ln xs h = some x) (hK : (q_KI o hz) x) : q_Ev (some (Ln, xs)) 340 1941 [] [] h o hz := by
  unfold f340_1941 at hf
  refine ev_ic (v := 0) (q_cod qk340 rfl) (by decide) (by decide) ?_
  obtain rfl := m_R_inv hf
  obtain ⟨rfl, rfl⟩ := (show q_KI o hz (0, _) from hK)
  exact ev_ret (q_cod qk340 rfl) rfl
def f340_1871 (Ln : Nat) (xs : Nat → Int32) (l1 : Nat) (l2 : Nat) (l3 : Nat) (l4 : Int32) : m_M ((Nat × Nat × Nat × Int32) ⊕ Int32) :=
  m_B (m_G (q_ins (l4 + 1) Ln = true)) (fun _ => m_B (m_G (q_ins (l4 + 2) Ln = true)) (fun _ => m_B (m_G (q_ins (l4 + 3) Ln = true)) (fun _ => m_B (m_G (q_ins (l4 + 4) Ln = true)) (fun _ => m_B (f334 l1 (xs (l4 + 1).toNatClampNeg) (xs (l4 + 2).toNatClampNeg) (xs (l4 + 3).toNatClampNeg) (xs (l4 + 4).toNatClampNeg) l3) (fun v5 => m_B (m_G (q_ins (l4 + 1) Ln = true)) (fun _ => m_B (m_G (q_ins (l4 + 2) Ln = true)) (fun _ => m_B (m_G (q_ins (l4 + 3) Ln = true)) (fun _ => m_B (m_G (q_ins (l4 + 4) Ln = true)) (fun _ => m_B (m_aK l2 12) (fun _ => m_B (f306 l2 (xs (l4 + 1).toNatClampNeg) (xs (l4 + 2).toNatClampNeg) (xs (l4 + 3).toNatClampNeg) (xs (l4 + 4).toNatClampNeg)) (fun v11 => m_B (m_aK l2 12) (fun _ => m_B (f177 l2) (fun v13 => if v13 = v5 then (if v5 = 0 then (m_B (m_lJ l3 0) (fun v14 => if (lg_cmp v14 (v11.toInt64)) = 0 then (f340_1960 Ln xs l1 l2 l3 l4) else (m_B (f340_1958 Ln xs) (fun r => m_R (.inr r))))) else (f340_1960 Ln xs l1 l2 l3 l4)) else (m_B (f340_1941 Ln xs) (fun r => m_R (.inr r))))))))))))))))
set_option maxRecDepth 20000 in
theorem f340_1871_ok {Ln : Nat} {xs : Nat → Int32} {l1 : Nat} {l2 : Nat} {l3 : Nat} {l4 : Int32} {h : q_H} {o : q_O} {hz : q_H} {x : ((Nat × Nat × Nat × Int32) ⊕ Int32) × q_H} (hf : f340_1871 Ln xs l1 l2 l3 l4 h = some x) (hK : (m_yK (fun (s : Nat × Nat × Nat × Int32) (h : q_H) => q_Ev (some (Ln, xs)) 340 23 [(0, .ref q_SC), (1, .ref (s.1)), (2, .ref (s.2.1)), (3, .ref (s.2.2.1)), (4, .int (s.2.2.2))] [] h o hz) (q_KI o hz)) x) : q_Ev (some (Ln, xs)) 340 1871 [(0, .ref q_SC), (1, .ref l1), (2, .ref l2), (3, .ref l3), (4, .int l4)] [] h o hz := by
  unfold f340_1871 at hf
  refine ev_aload_n (q_cod qk340 rfl) (by decide) rfl ?_
  refine ev_aload_n (q_cod qk340 rfl) (by decide) rfl ?_
  refine ev_iload (q_cod qk340 rfl) (by decide) rfl ?_
  refine ev_ic (v := 1) (q_cod qk340 rfl) (by decide) (by decide) ?_
  refine ev_iadd (q_cod qk340 rfl) (by decide) ?_
  refine em_sald (q_cod qk340 rfl) (by decide) hf (fun hf => ?_)
  refine ev_aload_n (q_cod qk340 rfl) (by decide) rfl ?_
  refine ev_iload (q_cod qk340 rfl) (by decide) rfl ?_
  refine ev_ic (v := 2) (q_cod qk340 rfl) (by decide) (by decide) ?_
  refine ev_iadd (q_cod qk340 rfl) (by decide) ?_
  refine em_sald (q_cod qk340 rfl) (by decide) hf (fun hf => ?_)
  refine ev_aload_n (q_cod qk340 rfl) (by decide) rfl ?_
  refine ev_iload (q_cod qk340 rfl) (by decide) rfl ?_
  refine ev_ic (v := 3) (q_cod qk340 rfl) (by decide) (by decide) ?_
  refine ev_iadd (q_cod qk340 rfl) (by decide) ?_
  refine em_sald (q_cod qk340 rfl) (by decide) hf (fun hf => ?_)
  refine ev_aload_n (q_cod qk340 rfl) (by decide) rfl ?_
  refine ev_iload (q_cod qk340 rfl) (by decide) rfl ?_
  refine ev_ic (v := 4) (q_cod qk340 rfl) (by decide) (by decide) ?_
  refine ev_iadd (q_cod qk340 rfl) (by decide) ?_
  refine em_sald (q_cod qk340 rfl) (by decide) hf (fun hf => ?_)
  refine ev_aload_n (q_cod qk340 rfl) (by decide) rfl ?_
  refine em_call (v := (fun u => some (.int u))) (q_cod qk340 rfl) rfl rfl (q_cokS rfl rfl) rfl (fun x e => f334_cl e) hf (fun v5 h hf => ?_)
  refine ev_is2 (L' := [(0, .ref q_SC), (1, .ref l1), (2, .ref l2), (3, .ref l3), (4, .int l4), (5, .int v5)]) (q_cod qk340 rfl) (by decide) rfl ?_
  refine ev_aload_n (q_cod qk340 rfl) (by decide) rfl ?_
  refine ev_aload_n (q_cod qk340 rfl) (by decide) rfl ?_
  refine ev_iload (q_cod qk340 rfl) (by decide) rfl ?_
  refine ev_ic (v := 1) (q_cod qk340 rfl) (by decide) (by decide) ?_
  refine ev_iadd (q_cod qk340 rfl) (by decide) ?_
  refine em_sald (q_cod qk340 rfl) (by decide) hf (fun hf => ?_)
  refine ev_aload_n (q_cod qk340 rfl) (by decide) rfl ?_
  refine ev_iload (q_cod qk340 rfl) (by decide) rfl ?_
  refine ev_ic (v := 2) (q_cod qk340 rfl) (by decide) (by decide) ?_
  refine ev_iadd (q_cod qk340 rfl) (by decide) ?_
  refine em_sald (q_cod qk340 rfl) (by decide) hf (fun hf => ?_)
  refine ev_aload_n (q_cod qk340 rfl) (by decide) rfl ?_
  refine ev_iload (q_cod qk340 rfl) (by decide) rfl ?_
  refine ev_ic (v := 3) (q_cod qk340 rfl) (by decide) (by decide) ?_
  refine ev_iadd (q_cod qk340 rfl) (by decide) ?_
  refine em_sald (q_cod qk340 rfl) (by decide) hf (fun hf => ?_)
  refine ev_aload_n (q_cod qk340 rfl) (by decide) rfl ?_
  refine ev_iload (q_cod qk340 rfl) (by decide) rfl ?_
  refine ev_ic (v := 4) (q_cod qk340 rfl) (by decide) (by decide) ?_
  refine ev_iadd (q_cod qk340 rfl) (by decide) ?_
  refine em_sald (q_cod qk340 rfl) (by decide) hf (fun hf => ?_)
  obtain ⟨g10, hf⟩ := m_aK_some hf
  refine em_call (v := (fun u => some (.int u))) (q_cod qk340 rfl) rfl rfl (q_cokV rfl rfl (Or.inr g10)) rfl (fun x e => f306_cl e) hf (fun v11 h hf => ?_)
  refine ev_is2 (L' := [(0, .ref q_SC), (1, .ref l1), (2, .ref l2), (3, .ref l3), (4, .int l4), (5, .int v5), (6, .int v11)]) (q_cod qk340 rfl) (by decide) rfl ?_
  refine ev_aload_n (q_cod qk340 rfl) (by decide) rfl ?_
  obtain ⟨g12, hf⟩ := m_aK_some hf
  refine em_call (v := (fun u => some (.int u))) (q_cod qk340 rfl) rfl rfl (q_cokV rfl rfl (Or.inr g12)) rfl (fun x e => f177_cl e) hf (fun v13 h hf => ?_)
  refine ev_iload (q_cod qk340 rfl) (by decide) rfl ?_
  refine em_ic_eq (q_cod qk340 rfl) (by decide) hf (fun c17 hf => ?_) (fun c17 hf => ?_)
  · refine ev_iload (q_cod qk340 rfl) (by decide) rfl ?_
    refine em_if_ne (q_cod qk340 rfl) (by decide) hf (fun c16 hf => ?_) (fun c16 hf => ?_)
    · refine ev_aload_n (q_cod qk340 rfl) (by decide) rfl ?_
      refine ev_ic (v := 0) (q_cod qk340 rfl) (by decide) (by decide) ?_
      refine em_lJ (q_cod qk340 rfl) (by decide) hf (fun v14 hf => ?_)
      refine ev_iload (q_cod qk340 rfl) (by decide) rfl ?_
      refine ev_i2l (q_cod qk340 rfl) (by decide) ?_
      refine ev_lcmp (q_cod qk340 rfl) (by decide) ?_
      refine em_if_eq (q_cod qk340 rfl) (by decide) hf (fun c15 hf => ?_) (fun c15 hf => ?_)
      · exact ev_weak (q_pk [0, 1, 2, 3, 4] rfl) (f340_1960_ok hf hK)
      · obtain ⟨y0, hf0, hx⟩ := m_inr_some hf
        subst hx
        exact ev_weak (q_pk [] rfl) (f340_1958_ok hf0 hK)
    · exact ev_weak (q_pk [0, 1, 2, 3, 4] rfl) (f340_1960_ok hf hK)
  · obtain ⟨y0, hf0, hx⟩ := m_inr_some hf
    subst hx
    exact ev_weak (q_pk [] rfl) (f340_1941_ok hf0 hK)
def f340_2016 (Ln : Nat) (xs : Nat → Int32) (l1 : Nat) (l2 : Nat) (l3 : Nat) (l4 : Int32) : m_M ((Nat × Nat × Nat × Int32) ⊕ Int32) :=
  f340_2357 Ln xs l1 l2 l3 l4
set_option maxRecDepth 20000 in
theorem f340_2016_ok {Ln : Nat} {xs : Nat → Int32} {l1 : Nat} {l2 : Nat} {l3 : Nat} {l4 : Int32} {h : q_H} {o : q_O} {hz : q_H} {x : ((Nat × Nat × Nat × Int32) ⊕ Int32) × q_H} (hf : f340_2016 Ln xs l1 l2 l3 l4 h = some x) (hK : (m_yK (fun (s : Nat × Nat × Nat × Int32) (h : q_H) => q_Ev (some (Ln, xs)) 340 23 [(0, .ref q_SC), (1, .ref (s.1)), (2, .ref (s.2.1)), (3, .ref (s.2.2.1)), (4, .int (s.2.2.2))] [] h o hz) (q_KI o hz)) x) : q_Ev (some (Ln, xs)) 340 2016 [(0, .ref q_SC), (1, .ref l1), (2, .ref l2), (3, .ref l3), (4, .int l4)] [] h o hz := by
  unfold f340_2016 at hf
  refine ev_goto (q_cod qk340 rfl) (by decide) ?_
  exact (f340_2357_ok hf hK)
def f340_2014 (Ln : Nat) (xs : Nat → Int32) : m_M Int32 :=
  m_R 0
set_option maxRecDepth 20000 in
theorem f340_2014_ok {Ln : Nat} {xs : Nat → Int32} {h : q_H} {o : q_O} {hz : q_H} {x : Int32 × q_H} (hf : f340_2014 Ln xs h = some x) (hK : (q_KI o hz) x) : q_Ev (some (Ln, xs)) 340 2014 [] [] h o hz := by
  unfold f340_2014 at hf
  refine ev_ic (v := 0) (q_cod qk340 rfl) (by decide) (by decide) ?_
  obtain rfl := m_R_inv hf
  obtain ⟨rfl, rfl⟩ := (show q_KI o hz (0, _) from hK)
  exact ev_ret (q_cod qk340 rfl) rfl
def f340_1997 (Ln : Nat) (xs : Nat → Int32) : m_M Int32 :=
  m_R 0
set_option maxRecDepth 20000 in
theorem f340_1997_ok {Ln : Nat} {xs : Nat → Int32} {h : q_H} {o : q_O} {hz : q_H} {x : Int32 × q_H} (hf : f340_1997 Ln xs h = some x) (hK : (q_KI o hz) x) : q_Ev (some (Ln, xs)) 340 1997 [] [] h o hz := by
  unfold f340_1997 at hf
  refine ev_ic (v := 0) (q_cod qk340 rfl) (by decide) (by decide) ?_
  obtain rfl := m_R_inv hf
  obtain ⟨rfl, rfl⟩ := (show q_KI o hz (0, _) from hK)
  exact ev_ret (q_cod qk340 rfl) rfl
def f340_1963 (Ln : Nat) (xs : Nat → Int32) (l1 : Nat) (l2 : Nat) (l3 : Nat) (l4 : Int32) : m_M ((Nat × Nat × Nat × Int32) ⊕ Int32) :=
  m_B (m_G (q_ins (l4 + 1) Ln = true)) (fun _ => m_B (f335 l1 (xs (l4 + 1).toNatClampNeg) l3) (fun v2 => m_B (m_G (q_ins (l4 + 1) Ln = true)) (fun _ => m_B (m_aK l2 12) (fun _ => m_B (f307 l2 (xs (l4 + 1).toNatClampNeg)) (fun v5 => m_B (m_aK l2 12) (fun _ => m_B (f177 l2) (fun v7 => if v7 = v2 then (if v2 = 0 then (m_B (m_lJ l3 0) (fun v8 => if (lg_cmp v8 (v5.toInt64)) = 0 then (f340_2016 Ln xs l1 l2 l3 l4) else (m_B (f340_2014 Ln xs) (fun r => m_R (.inr r))))) else (f340_2016 Ln xs l1 l2 l3 l4)) else (m_B (f340_1997 Ln xs) (fun r => m_R (.inr r))))))))))
set_option maxRecDepth 20000 in
theorem f340_1963_ok {Ln : Nat} {xs : Nat → Int32} {l1 : Nat} {l2 : Nat} {l3 : Nat} {l4 : Int32} {h : q_H} {o : q_O} {hz : q_H} {x : ((Nat × Nat × Nat × Int32) ⊕ Int32) × q_H} (hf : f340_1963 Ln xs l1 l2 l3 l4 h = some x) (hK : (m_yK (fun (s : Nat × Nat × Nat × Int32) (h : q_H) => q_Ev (some (Ln, xs)) 340 23 [(0, .ref q_SC), (1, .ref (s.1)), (2, .ref (s.2.1)), (3, .ref (s.2.2.1)), (4, .int (s.2.2.2))] [] h o hz) (q_KI o hz)) x) : q_Ev (some (Ln, xs)) 340 1963 [(0, .ref q_SC), (1, .ref l1), (2, .ref l2), (3, .ref l3), (4, .int l4)] [] h o hz := by
  unfold f340_1963 at hf
  refine ev_aload_n (q_cod qk340 rfl) (by decide) rfl ?_
  refine ev_aload_n (q_cod qk340 rfl) (by decide) rfl ?_
  refine ev_iload (q_cod qk340 rfl) (by decide) rfl ?_
  refine ev_ic (v := 1) (q_cod qk340 rfl) (by decide) (by decide) ?_
  refine ev_iadd (q_cod qk340 rfl) (by decide) ?_
  refine em_sald (q_cod qk340 rfl) (by decide) hf (fun hf => ?_)
  refine ev_aload_n (q_cod qk340 rfl) (by decide) rfl ?_
  refine em_call (v := (fun u => some (.int u))) (q_cod qk340 rfl) rfl rfl (q_cokS rfl rfl) rfl (fun x e => f335_cl e) hf (fun v2 h hf => ?_)
  refine ev_is2 (L' := [(0, .ref q_SC), (1, .ref l1), (2, .ref l2), (3, .ref l3), (4, .int l4), (5, .int v2)]) (q_cod qk340 rfl) (by decide) rfl ?_
  refine ev_aload_n (q_cod qk340 rfl) (by decide) rfl ?_
  refine ev_aload_n (q_cod qk340 rfl) (by decide) rfl ?_
  refine ev_iload (q_cod qk340 rfl) (by decide) rfl ?_
  refine ev_ic (v := 1) (q_cod qk340 rfl) (by decide) (by decide) ?_
  refine ev_iadd (q_cod qk340 rfl) (by decide) ?_
  refine em_sald (q_cod qk340 rfl) (by decide) hf (fun hf => ?_)
  obtain ⟨g4, hf⟩ := m_aK_some hf
  refine em_call (v := (fun u => some (.int u))) (q_cod qk340 rfl) rfl rfl (q_cokV rfl rfl (Or.inr g4)) rfl (fun x e => f307_cl e) hf (fun v5 h hf => ?_)
  refine ev_is2 (L' := [(0, .ref q_SC), (1, .ref l1), (2, .ref l2), (3, .ref l3), (4, .int l4), (5, .int v2), (6, .int v5)]) (q_cod qk340 rfl) (by decide) rfl ?_
  refine ev_aload_n (q_cod qk340 rfl) (by decide) rfl ?_
  obtain ⟨g6, hf⟩ := m_aK_some hf
  refine em_call (v := (fun u => some (.int u))) (q_cod qk340 rfl) rfl rfl (q_cokV rfl rfl (Or.inr g6)) rfl (fun x e => f177_cl e) hf (fun v7 h hf => ?_)
  refine ev_iload (q_cod qk340 rfl) (by decide) rfl ?_
  refine em_ic_eq (q_cod qk340 rfl) (by decide) hf (fun c11 hf => ?_) (fun c11 hf => ?_)
  · refine ev_iload (q_cod qk340 rfl) (by decide) rfl ?_
    refine em_if_ne (q_cod qk340 rfl) (by decide) hf (fun c10 hf => ?_) (fun c10 hf => ?_)
    · refine ev_aload_n (q_cod qk340 rfl) (by decide) rfl ?_
      refine ev_ic (v := 0) (q_cod qk340 rfl) (by decide) (by decide) ?_
      refine em_lJ (q_cod qk340 rfl) (by decide) hf (fun v8 hf => ?_)
      refine ev_iload (q_cod qk340 rfl) (by decide) rfl ?_
      refine ev_i2l (q_cod qk340 rfl) (by decide) ?_
      refine ev_lcmp (q_cod qk340 rfl) (by decide) ?_
      refine em_if_eq (q_cod qk340 rfl) (by decide) hf (fun c9 hf => ?_) (fun c9 hf => ?_)
      · exact ev_weak (q_pk [0, 1, 2, 3, 4] rfl) (f340_2016_ok hf hK)
      · obtain ⟨y0, hf0, hx⟩ := m_inr_some hf
        subst hx
        exact ev_weak (q_pk [] rfl) (f340_2014_ok hf0 hK)
    · exact ev_weak (q_pk [0, 1, 2, 3, 4] rfl) (f340_2016_ok hf hK)
  · obtain ⟨y0, hf0, hx⟩ := m_inr_some hf
    subst hx
    exact ev_weak (q_pk [] rfl) (f340_1997_ok hf0 hK)
def f340_2060 (Ln : Nat) (xs : Nat → Int32) (l1 : Nat) (l2 : Nat) (l3 : Nat) (l4 : Int32) : m_M ((Nat × Nat × Nat × Int32) ⊕ Int32) :=
  f340_2357 Ln xs l1 l2 l3 l4
set_option maxRecDepth 20000 in
theorem f340_2060_ok {Ln : Nat} {xs : Nat → Int32} {l1 : Nat} {l2 : Nat} {l3 : Nat} {l4 : Int32} {h : q_H} {o : q_O} {hz : q_H} {x : ((Nat × Nat × Nat × Int32) ⊕ Int32) × q_H} (hf : f340_2060 Ln xs l1 l2 l3 l4 h = some x) (hK : (m_yK (fun (s : Nat × Nat × Nat × Int32) (h : q_H) => q_Ev (some (Ln, xs)) 340 23 [(0, .ref q_SC), (1, .ref (s.1)), (2, .ref (s.2.1)), (3, .ref (s.2.2.1)), (4, .int (s.2.2.2))] [] h o hz) (q_KI o hz)) x) : q_Ev (some (Ln, xs)) 340 2060 [(0, .ref q_SC), (1, .ref l1), (2, .ref l2), (3, .ref l3), (4, .int l4)] [] h o hz := by
  unfold f340_2060 at hf
  refine ev_goto (q_cod qk340 rfl) (by decide) ?_
  exact (f340_2357_ok hf hK)
def f340_2058 (Ln : Nat) (xs : Nat → Int32) : m_M Int32 :=
  m_R 0
set_option maxRecDepth 20000 in
theorem f340_2058_ok {Ln : Nat} {xs : Nat → Int32} {h : q_H} {o : q_O} {hz : q_H} {x : Int32 × q_H} (hf : f340_2058 Ln xs h = some x) (hK : (q_KI o hz) x) : q_Ev (some (Ln, xs)) 340 2058 [] [] h o hz := by
  unfold f340_2058 at hf
  refine ev_ic (v := 0) (q_cod qk340 rfl) (by decide) (by decide) ?_
  obtain rfl := m_R_inv hf
  obtain ⟨rfl, rfl⟩ := (show q_KI o hz (0, _) from hK)
  exact ev_ret (q_cod qk340 rfl) rfl
def f340_2041 (Ln : Nat) (xs : Nat → Int32) : m_M Int32 :=
  m_R 0
set_option maxRecDepth 20000 in
theorem f340_2041_ok {Ln : Nat} {xs : Nat → Int32} {h : q_H} {o : q_O} {hz : q_H} {x : Int32 × q_H} (hf : f340_2041 Ln xs h = some x) (hK : (q_KI o hz) x) : q_Ev (some (Ln, xs)) 340 2041 [] [] h o hz := by
  unfold f340_2041 at hf
  refine ev_ic (v := 0) (q_cod qk340 rfl) (by decide) (by decide) ?_
  obtain rfl := m_R_inv hf
  obtain ⟨rfl, rfl⟩ := (show q_KI o hz (0, _) from hK)
  exact ev_ret (q_cod qk340 rfl) rfl
def f340_2019 (Ln : Nat) (xs : Nat → Int32) (l1 : Nat) (l2 : Nat) (l3 : Nat) (l4 : Int32) : m_M ((Nat × Nat × Nat × Int32) ⊕ Int32) :=
  m_B (f336 l1 l3) (fun v1 => m_B (m_aK l2 12) (fun _ => m_B (f308 l2) (fun v3 => m_B (m_aK l2 12) (fun _ => m_B (f177 l2) (fun v5 => if v5 = v1 then (if v1 = 0 then (m_B (m_lJ l3 0) (fun v6 => if (lg_cmp v6 (v3.toInt64)) = 0 then (f340_2060 Ln xs l1 l2 l3 l4) else (m_B (f340_2058 Ln xs) (fun r => m_R (.inr r))))) else (f340_2060 Ln xs l1 l2 l3 l4)) else (m_B (f340_2041 Ln xs) (fun r => m_R (.inr r))))))))
set_option maxRecDepth 20000 in
theorem f340_2019_ok {Ln : Nat} {xs : Nat → Int32} {l1 : Nat} {l2 : Nat} {l3 : Nat} {l4 : Int32} {h : q_H} {o : q_O} {hz : q_H} {x : ((Nat × Nat × Nat × Int32) ⊕ Int32) × q_H} (hf : f340_2019 Ln xs l1 l2 l3 l4 h = some x) (hK : (m_yK (fun (s : Nat × Nat × Nat × Int32) (h : q_H) => q_Ev (some (Ln, xs)) 340 23 [(0, .ref q_SC), (1, .ref (s.1)), (2, .ref (s.2.1)), (3, .ref (s.2.2.1)), (4, .int (s.2.2.2))] [] h o hz) (q_KI o hz)) x) : q_Ev (some (Ln, xs)) 340 2019 [(0, .ref q_SC), (1, .ref l1), (2, .ref l2), (3, .ref l3), (4, .int l4)] [] h o hz := by
  unfold f340_2019 at hf
  refine ev_aload_n (q_cod qk340 rfl) (by decide) rfl ?_
  refine ev_aload_n (q_cod qk340 rfl) (by decide) rfl ?_
  refine em_call (v := (fun u => some (.int u))) (q_cod qk340 rfl) rfl rfl (q_cokS rfl rfl) rfl (fun x e => f336_cl e) hf (fun v1 h hf => ?_)
  refine ev_is2 (L' := [(0, .ref q_SC), (1, .ref l1), (2, .ref l2), (3, .ref l3), (4, .int l4), (5, .int v1)]) (q_cod qk340 rfl) (by decide) rfl ?_
  refine ev_aload_n (q_cod qk340 rfl) (by decide) rfl ?_
  obtain ⟨g2, hf⟩ := m_aK_some hf
  refine em_call (v := (fun u => some (.int u))) (q_cod qk340 rfl) rfl rfl (q_cokV rfl rfl (Or.inr g2)) rfl (fun x e => f308_cl e) hf (fun v3 h hf => ?_)
  refine ev_is2 (L' := [(0, .ref q_SC), (1, .ref l1), (2, .ref l2), (3, .ref l3), (4, .int l4), (5, .int v1), (6, .int v3)]) (q_cod qk340 rfl) (by decide) rfl ?_
  refine ev_aload_n (q_cod qk340 rfl) (by decide) rfl ?_
  obtain ⟨g4, hf⟩ := m_aK_some hf
  refine em_call (v := (fun u => some (.int u))) (q_cod qk340 rfl) rfl rfl (q_cokV rfl rfl (Or.inr g4)) rfl (fun x e => f177_cl e) hf (fun v5 h hf => ?_)
  refine ev_iload (q_cod qk340 rfl) (by decide) rfl ?_
  refine em_ic_eq (q_cod qk340 rfl) (by decide) hf (fun c9 hf => ?_) (fun c9 hf => ?_)
  · refine ev_iload (q_cod qk340 rfl) (by decide) rfl ?_
    refine em_if_ne (q_cod qk340 rfl) (by decide) hf (fun c8 hf => ?_) (fun c8 hf => ?_)
    · refine ev_aload_n (q_cod qk340 rfl) (by decide) rfl ?_
      refine ev_ic (v := 0) (q_cod qk340 rfl) (by decide) (by decide) ?_
      refine em_lJ (q_cod qk340 rfl) (by decide) hf (fun v6 hf => ?_)
      refine ev_iload (q_cod qk340 rfl) (by decide) rfl ?_
      refine ev_i2l (q_cod qk340 rfl) (by decide) ?_
      refine ev_lcmp (q_cod qk340 rfl) (by decide) ?_
      refine em_if_eq (q_cod qk340 rfl) (by decide) hf (fun c7 hf => ?_) (fun c7 hf => ?_)
      · exact ev_weak (q_pk [0, 1, 2, 3, 4] rfl) (f340_2060_ok hf hK)
      · obtain ⟨y0, hf0, hx⟩ := m_inr_some hf
        subst hx
        exact ev_weak (q_pk [] rfl) (f340_2058_ok hf0 hK)
    · exact ev_weak (q_pk [0, 1, 2, 3, 4] rfl) (f340_2060_ok hf hK)
  · obtain ⟨y0, hf0, hx⟩ := m_inr_some hf
    subst hx
    exact ev_weak (q_pk [] rfl) (f340_2041_ok hf0 hK)
def f340_2128 (Ln : Nat) (xs : Nat → Int32) (l1 : Nat) (l2 : Nat) (l3 : Nat) (l4 : Int32) : m_M ((Nat × Nat × Nat × Int32) ⊕ Int32) :=
  f340_2357 Ln xs l1 l2 l3 l4
set_option maxRecDepth 20000 in
theorem f340_2128_ok {Ln : Nat} {xs : Nat → Int32} {l1 : Nat} {l2 : Nat} {l3 : Nat} {l4 : Int32} {h : q_H} {o : q_O} {hz : q_H} {x : ((Nat × Nat × Nat × Int32) ⊕ Int32) × q_H} (hf : f340_2128 Ln xs l1 l2 l3 l4 h = some x) (hK : (m_yK (fun (s : Nat × Nat × Nat × Int32) (h : q_H) => q_Ev (some (Ln, xs)) 340 23 [(0, .ref q_SC), (1, .ref (s.1)), (2, .ref (s.2.1)), (3, .ref (s.2.2.1)), (4, .int (s.2.2.2))] [] h o hz) (q_KI o hz)) x) : q_Ev (some (Ln, xs)) 340 2128 [(0, .ref q_SC), (1, .ref l1), (2, .ref l2), (3, .ref l3), (4, .int l4)] [] h o hz := by
  unfold f340_2128 at hf
  refine ev_goto (q_cod qk340 rfl) (by decide) ?_
  exact (f340_2357_ok hf hK)
def f340_2126 (Ln : Nat) (xs : Nat → Int32) : m_M Int32 :=
  m_R 0
set_option maxRecDepth 20000 in
theorem f340_2126_ok {Ln : Nat} {xs : Nat → Int32} {h : q_H} {o : q_O} {hz : q_H} {x : Int32 × q_H} (hf : f340_2126 Ln xs h = some x) (hK : (q_KI o hz) x) : q_Ev (some (Ln, xs)) 340 2126 [] [] h o hz := by
  unfold f340_2126 at hf
  refine ev_ic (v := 0) (q_cod qk340 rfl) (by decide) (by decide) ?_
  obtain rfl := m_R_inv hf
  obtain ⟨rfl, rfl⟩ := (show q_KI o hz (0, _) from hK)
  exact ev_ret (q_cod qk340 rfl) rfl
def f340_2109 (Ln : Nat) (xs : Nat → Int32) : m_M Int32 :=
  m_R 0
set_option maxRecDepth 20000 in
theorem f340_2109_ok {Ln : Nat} {xs : Nat → Int32} {h : q_H} {o : q_O} {hz : q_H} {x : Int32 × q_H} (hf : f340_2109 Ln xs h = some x) (hK : (q_KI o hz) x) : q_Ev (some (Ln, xs)) 340 2109 [] [] h o hz := by
  unfold f340_2109 at hf
  refine ev_ic (v := 0) (q_cod qk340 rfl) (by decide) (by decide) ?_
  obtain rfl := m_R_inv hf
  obtain ⟨rfl, rfl⟩ := (show q_KI o hz (0, _) from hK)
  exact ev_ret (q_cod qk340 rfl) rfl
def f340_2063 (Ln : Nat) (xs : Nat → Int32) (l1 : Nat) (l2 : Nat) (l3 : Nat) (l4 : Int32) : m_M ((Nat × Nat × Nat × Int32) ⊕ Int32) :=
  m_B (m_G (q_ins (l4 + 1) Ln = true)) (fun _ => m_B (m_G (q_ins (l4 + 2) Ln = true)) (fun _ => m_B (f337 l1 (xs (l4 + 1).toNatClampNeg) (xs (l4 + 2).toNatClampNeg) l3) (fun v3 => m_B (m_G (q_ins (l4 + 1) Ln = true)) (fun _ => m_B (m_G (q_ins (l4 + 2) Ln = true)) (fun _ => m_B (m_aK l2 12) (fun _ => m_B (f238 l2 (xs (l4 + 1).toNatClampNeg) (xs (l4 + 2).toNatClampNeg)) (fun v7 => m_B (m_aK l2 12) (fun _ => m_B (f177 l2) (fun v9 => if v9 = v3 then (if v3 = 0 then (m_B (m_lJ l3 0) (fun v10 => if (lg_cmp v10 (v7.toInt64)) = 0 then (f340_2128 Ln xs l1 l2 l3 l4) else (m_B (f340_2126 Ln xs) (fun r => m_R (.inr r))))) else (f340_2128 Ln xs l1 l2 l3 l4)) else (m_B (f340_2109 Ln xs) (fun r => m_R (.inr r))))))))))))
set_option maxRecDepth 20000 in
theorem f340_2063_ok {Ln : Nat} {xs : Nat → Int32} {l1 : Nat} {l2 : Nat} {l3 : Nat} {l4 : Int32} {h : q_H} {o : q_O} {hz : q_H} {x : ((Nat × Nat × Nat × Int32) ⊕ Int32) × q_H} (hf : f340_2063 Ln xs l1 l2 l3 l4 h = some x) (hK : (m_yK (fun (s : Nat × Nat × Nat × Int32) (h : q_H) => q_Ev (some (Ln, xs)) 340 23 [(0, .ref q_SC), (1, .ref (s.1)), (2, .ref (s.2.1)), (3, .ref (s.2.2.1)), (4, .int (s.2.2.2))] [] h o hz) (q_KI o hz)) x) : q_Ev (some (Ln, xs)) 340 2063 [(0, .ref q_SC), (1, .ref l1), (2, .ref l2), (3, .ref l3), (4, .int l4)] [] h o hz := by
  unfold f340_2063 at hf
  refine ev_aload_n (q_cod qk340 rfl) (by decide) rfl ?_
  refine ev_aload_n (q_cod qk340 rfl) (by decide) rfl ?_
  refine ev_iload (q_cod qk340 rfl) (by decide) rfl ?_
  refine ev_ic (v := 1) (q_cod qk340 rfl) (by decide) (by decide) ?_
  refine ev_iadd (q_cod qk340 rfl) (by decide) ?_
  refine em_sald (q_cod qk340 rfl) (by decide) hf (fun hf => ?_)
  refine ev_aload_n (q_cod qk340 rfl) (by decide) rfl ?_
  refine ev_iload (q_cod qk340 rfl) (by decide) rfl ?_
  refine ev_ic (v := 2) (q_cod qk340 rfl) (by decide) (by decide) ?_
  refine ev_iadd (q_cod qk340 rfl) (by decide) ?_
  refine em_sald (q_cod qk340 rfl) (by decide) hf (fun hf => ?_)
  refine ev_aload_n (q_cod qk340 rfl) (by decide) rfl ?_
  refine em_call (v := (fun u => some (.int u))) (q_cod qk340 rfl) rfl rfl (q_cokS rfl rfl) rfl (fun x e => f337_cl e) hf (fun v3 h hf => ?_)
  refine ev_is2 (L' := [(0, .ref q_SC), (1, .ref l1), (2, .ref l2), (3, .ref l3), (4, .int l4), (5, .int v3)]) (q_cod qk340 rfl) (by decide) rfl ?_
  refine ev_aload_n (q_cod qk340 rfl) (by decide) rfl ?_
  refine ev_aload_n (q_cod qk340 rfl) (by decide) rfl ?_
  refine ev_iload (q_cod qk340 rfl) (by decide) rfl ?_
  refine ev_ic (v := 1) (q_cod qk340 rfl) (by decide) (by decide) ?_
  refine ev_iadd (q_cod qk340 rfl) (by decide) ?_
  refine em_sald (q_cod qk340 rfl) (by decide) hf (fun hf => ?_)
  refine ev_aload_n (q_cod qk340 rfl) (by decide) rfl ?_
  refine ev_iload (q_cod qk340 rfl) (by decide) rfl ?_
  refine ev_ic (v := 2) (q_cod qk340 rfl) (by decide) (by decide) ?_
  refine ev_iadd (q_cod qk340 rfl) (by decide) ?_
  refine em_sald (q_cod qk340 rfl) (by decide) hf (fun hf => ?_)
  obtain ⟨g6, hf⟩ := m_aK_some hf
  refine em_call (v := (fun u => some (.int u))) (q_cod qk340 rfl) rfl rfl (q_cokV rfl rfl (Or.inr g6)) rfl (fun x e => f238_cl e) hf (fun v7 h hf => ?_)
  refine ev_is2 (L' := [(0, .ref q_SC), (1, .ref l1), (2, .ref l2), (3, .ref l3), (4, .int l4), (5, .int v3), (6, .int v7)]) (q_cod qk340 rfl) (by decide) rfl ?_
  refine ev_aload_n (q_cod qk340 rfl) (by decide) rfl ?_
  obtain ⟨g8, hf⟩ := m_aK_some hf
  refine em_call (v := (fun u => some (.int u))) (q_cod qk340 rfl) rfl rfl (q_cokV rfl rfl (Or.inr g8)) rfl (fun x e => f177_cl e) hf (fun v9 h hf => ?_)
  refine ev_iload (q_cod qk340 rfl) (by decide) rfl ?_
  refine em_ic_eq (q_cod qk340 rfl) (by decide) hf (fun c13 hf => ?_) (fun c13 hf => ?_)
  · refine ev_iload (q_cod qk340 rfl) (by decide) rfl ?_
    refine em_if_ne (q_cod qk340 rfl) (by decide) hf (fun c12 hf => ?_) (fun c12 hf => ?_)
    · refine ev_aload_n (q_cod qk340 rfl) (by decide) rfl ?_
      refine ev_ic (v := 0) (q_cod qk340 rfl) (by decide) (by decide) ?_
      refine em_lJ (q_cod qk340 rfl) (by decide) hf (fun v10 hf => ?_)
      refine ev_iload (q_cod qk340 rfl) (by decide) rfl ?_
      refine ev_i2l (q_cod qk340 rfl) (by decide) ?_
      refine ev_lcmp (q_cod qk340 rfl) (by decide) ?_
      refine em_if_eq (q_cod qk340 rfl) (by decide) hf (fun c11 hf => ?_) (fun c11 hf => ?_)
      · exact ev_weak (q_pk [0, 1, 2, 3, 4] rfl) (f340_2128_ok hf hK)
      · obtain ⟨y0, hf0, hx⟩ := m_inr_some hf
        subst hx
        exact ev_weak (q_pk [] rfl) (f340_2126_ok hf0 hK)
    · exact ev_weak (q_pk [0, 1, 2, 3, 4] rfl) (f340_2128_ok hf hK)
  · obtain ⟨y0, hf0, hx⟩ := m_inr_some hf
    subst hx
    exact ev_weak (q_pk [] rfl) (f340_2109_ok hf0 hK)
def f340_2208 (Ln : Nat) (xs : Nat → Int32) (l1 : Nat) (l2 : Nat) (l3 : Nat) (l4 : Int32) : m_M ((Nat × Nat × Nat × Int32) ⊕ Int32) :=
  f340_2357 Ln xs l1 l2 l3 l4
set_option maxRecDepth 20000 in
theorem f340_2208_ok {Ln : Nat} {xs : Nat → Int32} {l1 : Nat} {l2 : Nat} {l3 : Nat} {l4 : Int32} {h : q_H} {o : q_O} {hz : q_H} {x : ((Nat × Nat × Nat × Int32) ⊕ Int32) × q_H} (hf : f340_2208 Ln xs l1 l2 l3 l4 h = some x) (hK : (m_yK (fun (s : Nat × Nat × Nat × Int32) (h : q_H) => q_Ev (some (Ln, xs)) 340 23 [(0, .ref q_SC), (1, .ref (s.1)), (2, .ref (s.2.1)), (3, .ref (s.2.2.1)), (4, .int (s.2.2.2))] [] h o hz) (q_KI o hz)) x) : q_Ev (some (Ln, xs)) 340 2208 [(0, .ref q_SC), (1, .ref l1), (2, .ref l2), (3, .ref l3), (4, .int l4)] [] h o hz := by
  unfold f340_2208 at hf
  refine ev_goto (q_cod qk340 rfl) (by decide) ?_
  exact (f340_2357_ok hf hK)
def f340_2206 (Ln : Nat) (xs : Nat → Int32) : m_M Int32 :=
  m_R 0
set_option maxRecDepth 20000 in
theorem f340_2206_ok {Ln : Nat} {xs : Nat → Int32} {h : q_H} {o : q_O} {hz : q_H} {x : Int32 × q_H} (hf : f340_2206 Ln xs h = some x) (hK : (q_KI o hz) x) : q_Ev (some (Ln, xs)) 340 2206 [] [] h o hz := by
  unfold f340_2206 at hf
  refine ev_ic (v := 0) (q_cod qk340 rfl) (by decide) (by decide) ?_
  obtain rfl := m_R_inv hf
  obtain ⟨rfl, rfl⟩ := (show q_KI o hz (0, _) from hK)
  exact ev_ret (q_cod qk340 rfl) rfl
def f340_2189 (Ln : Nat) (xs : Nat → Int32) : m_M Int32 :=
  m_R 0
set_option maxRecDepth 20000 in
theorem f340_2189_ok {Ln : Nat} {xs : Nat → Int32} {h : q_H} {o : q_O} {hz : q_H} {x : Int32 × q_H} (hf : f340_2189 Ln xs h = some x) (hK : (q_KI o hz) x) : q_Ev (some (Ln, xs)) 340 2189 [] [] h o hz := by
  unfold f340_2189 at hf
  refine ev_ic (v := 0) (q_cod qk340 rfl) (by decide) (by decide) ?_
  obtain rfl := m_R_inv hf
  obtain ⟨rfl, rfl⟩ := (show q_KI o hz (0, _) from hK)
  exact ev_ret (q_cod qk340 rfl) rfl
def f340_2131 (Ln : Nat) (xs : Nat → Int32) (l1 : Nat) (l2 : Nat) (l3 : Nat) (l4 : Int32) : m_M ((Nat × Nat × Nat × Int32) ⊕ Int32) :=
  m_B (m_G (q_ins (l4 + 1) Ln = true)) (fun _ => m_B (m_G (q_ins (l4 + 2) Ln = true)) (fun _ => m_B (m_G (q_ins (l4 + 3) Ln = true)) (fun _ => m_B (f338 l1 (xs (l4 + 1).toNatClampNeg) (xs (l4 + 2).toNatClampNeg) (xs (l4 + 3).toNatClampNeg) l3) (fun v4 => m_B (m_G (q_ins (l4 + 1) Ln = true)) (fun _ => m_B (m_G (q_ins (l4 + 2) Ln = true)) (fun _ => m_B (m_G (q_ins (l4 + 3) Ln = true)) (fun _ => m_B (m_aK l2 12) (fun _ => m_B (f240 l2 (xs (l4 + 1).toNatClampNeg) (xs (l4 + 2).toNatClampNeg) (xs (l4 + 3).toNatClampNeg)) (fun v9 => m_B (m_aK l2 12) (fun _ => m_B (f177 l2) (fun v11 => if v11 = v4 then (if v4 = 0 then (m_B (m_lJ l3 0) (fun v12 => if (lg_cmp v12 (v9.toInt64)) = 0 then (f340_2208 Ln xs l1 l2 l3 l4) else (m_B (f340_2206 Ln xs) (fun r => m_R (.inr r))))) else (f340_2208 Ln xs l1 l2 l3 l4)) else (m_B (f340_2189 Ln xs) (fun r => m_R (.inr r))))))))))))))
set_option maxRecDepth 20000 in
theorem f340_2131_ok {Ln : Nat} {xs : Nat → Int32} {l1 : Nat} {l2 : Nat} {l3 : Nat} {l4 : Int32} {h : q_H} {o : q_O} {hz : q_H} {x : ((Nat × Nat × Nat × Int32) ⊕ Int32) × q_H} (hf : f340_2131 Ln xs l1 l2 l3 l4 h = some x) (hK : (m_yK (fun (s : Nat × Nat × Nat × Int32) (h : q_H) => q_Ev (some (Ln, xs)) 340 23 [(0, .ref q_SC), (1, .ref (s.1)), (2, .ref (s.2.1)), (3, .ref (s.2.2.1)), (4, .int (s.2.2.2))] [] h o hz) (q_KI o hz)) x) : q_Ev (some (Ln, xs)) 340 2131 [(0, .ref q_SC), (1, .ref l1), (2, .ref l2), (3, .ref l3), (4, .int l4)] [] h o hz := by
  unfold f340_2131 at hf
  refine ev_aload_n (q_cod qk340 rfl) (by decide) rfl ?_
  refine ev_aload_n (q_cod qk340 rfl) (by decide) rfl ?_
  refine ev_iload (q_cod qk340 rfl) (by decide) rfl ?_
  refine ev_ic (v := 1) (q_cod qk340 rfl) (by decide) (by decide) ?_
  refine ev_iadd (q_cod qk340 rfl) (by decide) ?_
  refine em_sald (q_cod qk340 rfl) (by decide) hf (fun hf => ?_)
  refine ev_aload_n (q_cod qk340 rfl) (by decide) rfl ?_
  refine ev_iload (q_cod qk340 rfl) (by decide) rfl ?_
  refine ev_ic (v := 2) (q_cod qk340 rfl) (by decide) (by decide) ?_
  refine ev_iadd (q_cod qk340 rfl) (by decide) ?_
  refine em_sald (q_cod qk340 rfl) (by decide) hf (fun hf => ?_)
  refine ev_aload_n (q_cod qk340 rfl) (by decide) rfl ?_
  refine ev_iload (q_cod qk340 rfl) (by decide) rfl ?_
  refine ev_ic (v := 3) (q_cod qk340 rfl) (by decide) (by decide) ?_
  refine ev_iadd (q_cod qk340 rfl) (by decide) ?_
  refine em_sald (q_cod qk340 rfl) (by decide) hf (fun hf => ?_)
  refine ev_aload_n (q_cod qk340 rfl) (by decide) rfl ?_
  refine em_call (v := (fun u => some (.int u))) (q_cod qk340 rfl) rfl rfl (q_cokS rfl rfl) rfl (fun x e => f338_cl e) hf (fun v4 h hf => ?_)
  refine ev_is2 (L' := [(0, .ref q_SC), (1, .ref l1), (2, .ref l2), (3, .ref l3), (4, .int l4), (5, .int v4)]) (q_cod qk340 rfl) (by decide) rfl ?_
  refine ev_aload_n (q_cod qk340 rfl) (by decide) rfl ?_
  refine ev_aload_n (q_cod qk340 rfl) (by decide) rfl ?_
  refine ev_iload (q_cod qk340 rfl) (by decide) rfl ?_
  refine ev_ic (v := 1) (q_cod qk340 rfl) (by decide) (by decide) ?_
  refine ev_iadd (q_cod qk340 rfl) (by decide) ?_
  refine em_sald (q_cod qk340 rfl) (by decide) hf (fun hf => ?_)
  refine ev_aload_n (q_cod qk340 rfl) (by decide) rfl ?_
  refine ev_iload (q_cod qk340 rfl) (by decide) rfl ?_
  refine ev_ic (v := 2) (q_cod qk340 rfl) (by decide) (by decide) ?_
  refine ev_iadd (q_cod qk340 rfl) (by decide) ?_
  refine em_sald (q_cod qk340 rfl) (by decide) hf (fun hf => ?_)
  refine ev_aload_n (q_cod qk340 rfl) (by decide) rfl ?_
  refine ev_iload (q_cod qk340 rfl) (by decide) rfl ?_
  refine ev_ic (v := 3) (q_cod qk340 rfl) (by decide) (by decide) ?_
  refine ev_iadd (q_cod qk340 rfl) (by decide) ?_
  refine em_sald (q_cod qk340 rfl) (by decide) hf (fun hf => ?_)
  obtain ⟨g8, hf⟩ := m_aK_some hf
  refine em_call (v := (fun u => some (.int u))) (q_cod qk340 rfl) rfl rfl (q_cokV rfl rfl (Or.inr g8)) rfl (fun x e => f240_cl e) hf (fun v9 h hf => ?_)
  refine ev_is2 (L' := [(0, .ref q_SC), (1, .ref l1), (2, .ref l2), (3, .ref l3), (4, .int l4), (5, .int v4), (6, .int v9)]) (q_cod qk340 rfl) (by decide) rfl ?_
  refine ev_aload_n (q_cod qk340 rfl) (by decide) rfl ?_
  obtain ⟨g10, hf⟩ := m_aK_some hf
  refine em_call (v := (fun u => some (.int u))) (q_cod qk340 rfl) rfl rfl (q_cokV rfl rfl (Or.inr g10)) rfl (fun x e => f177_cl e) hf (fun v11 h hf => ?_)
  refine ev_iload (q_cod qk340 rfl) (by decide) rfl ?_
  refine em_ic_eq (q_cod qk340 rfl) (by decide) hf (fun c15 hf => ?_) (fun c15 hf => ?_)
  · refine ev_iload (q_cod qk340 rfl) (by decide) rfl ?_
    refine em_if_ne (q_cod qk340 rfl) (by decide) hf (fun c14 hf => ?_) (fun c14 hf => ?_)
    · refine ev_aload_n (q_cod qk340 rfl) (by decide) rfl ?_
      refine ev_ic (v := 0) (q_cod qk340 rfl) (by decide) (by decide) ?_
      refine em_lJ (q_cod qk340 rfl) (by decide) hf (fun v12 hf => ?_)
      refine ev_iload (q_cod qk340 rfl) (by decide) rfl ?_
      refine ev_i2l (q_cod qk340 rfl) (by decide) ?_
      refine ev_lcmp (q_cod qk340 rfl) (by decide) ?_
      refine em_if_eq (q_cod qk340 rfl) (by decide) hf (fun c13 hf => ?_) (fun c13 hf => ?_)
      · exact ev_weak (q_pk [0, 1, 2, 3, 4] rfl) (f340_2208_ok hf hK)
      · obtain ⟨y0, hf0, hx⟩ := m_inr_some hf
        subst hx
        exact ev_weak (q_pk [] rfl) (f340_2206_ok hf0 hK)
    · exact ev_weak (q_pk [0, 1, 2, 3, 4] rfl) (f340_2208_ok hf hK)
  · obtain ⟨y0, hf0, hx⟩ := m_inr_some hf
    subst hx
    exact ev_weak (q_pk [] rfl) (f340_2189_ok hf0 hK)
def f340_2328 (Ln : Nat) (xs : Nat → Int32) (l1 : Nat) (l2 : Nat) (l3 : Nat) (l4 : Int32) : m_M ((Nat × Nat × Nat × Int32) ⊕ Int32) :=
  f340_2357 Ln xs l1 l2 l3 l4
set_option maxRecDepth 20000 in
theorem f340_2328_ok {Ln : Nat} {xs : Nat → Int32} {l1 : Nat} {l2 : Nat} {l3 : Nat} {l4 : Int32} {h : q_H} {o : q_O} {hz : q_H} {x : ((Nat × Nat × Nat × Int32) ⊕ Int32) × q_H} (hf : f340_2328 Ln xs l1 l2 l3 l4 h = some x) (hK : (m_yK (fun (s : Nat × Nat × Nat × Int32) (h : q_H) => q_Ev (some (Ln, xs)) 340 23 [(0, .ref q_SC), (1, .ref (s.1)), (2, .ref (s.2.1)), (3, .ref (s.2.2.1)), (4, .int (s.2.2.2))] [] h o hz) (q_KI o hz)) x) : q_Ev (some (Ln, xs)) 340 2328 [(0, .ref q_SC), (1, .ref l1), (2, .ref l2), (3, .ref l3), (4, .int l4)] [] h o hz := by
  unfold f340_2328 at hf
  refine ev_goto (q_cod qk340 rfl) (by decide) ?_
  exact (f340_2357_ok hf hK)
def f340_2326 (Ln : Nat) (xs : Nat → Int32) : m_M Int32 :=
  m_R 0
set_option maxRecDepth 20000 in
theorem f340_2326_ok {Ln : Nat} {xs : Nat → Int32} {h : q_H} {o : q_O} {hz : q_H} {x : Int32 × q_H} (hf : f340_2326 Ln xs h = some x) (hK : (q_KI o hz) x) : q_Ev (some (Ln, xs)) 340 2326 [] [] h o hz := by
  unfold f340_2326 at hf
  refine ev_ic (v := 0) (q_cod qk340 rfl) (by decide) (by decide) ?_
  obtain rfl := m_R_inv hf
  obtain ⟨rfl, rfl⟩ := (show q_KI o hz (0, _) from hK)
  exact ev_ret (q_cod qk340 rfl) rfl
def f340_2309 (Ln : Nat) (xs : Nat → Int32) : m_M Int32 :=
  m_R 0
set_option maxRecDepth 20000 in
theorem f340_2309_ok {Ln : Nat} {xs : Nat → Int32} {h : q_H} {o : q_O} {hz : q_H} {x : Int32 × q_H} (hf : f340_2309 Ln xs h = some x) (hK : (q_KI o hz) x) : q_Ev (some (Ln, xs)) 340 2309 [] [] h o hz := by
  unfold f340_2309 at hf
  refine ev_ic (v := 0) (q_cod qk340 rfl) (by decide) (by decide) ?_
  obtain rfl := m_R_inv hf
  obtain ⟨rfl, rfl⟩ := (show q_KI o hz (0, _) from hK)
  exact ev_ret (q_cod qk340 rfl) rfl
def f340_2295 (Ln : Nat) (xs : Nat → Int32) (l1 : Nat) (l2 : Nat) (l3 : Nat) (l4 : Int32) (l5 : Int32) (s0 : Nat) (s1 : Int32) (s2 : Int32) (s3 : Int32) (s4 : Int32) (s5 : Int32) : m_M ((Nat × Nat × Nat × Int32) ⊕ Int32) :=
  m_B (m_aK s0 12) (fun _ => m_B (f252 s0 s1 s2 s3 s4 s5) (fun v2 => m_B (m_aK l2 12) (fun _ => m_B (f177 l2) (fun v4 => if v4 = l5 then (if l5 = 0 then (m_B (m_lJ l3 0) (fun v5 => if (lg_cmp v5 (v2.toInt64)) = 0 then (f340_2328 Ln xs l1 l2 l3 l4) else (m_B (f340_2326 Ln xs) (fun r => m_R (.inr r))))) else (f340_2328 Ln xs l1 l2 l3 l4)) else (m_B (f340_2309 Ln xs) (fun r => m_R (.inr r)))))))
set_option maxRecDepth 20000 in
theorem f340_2295_ok {Ln : Nat} {xs : Nat → Int32} {l1 : Nat} {l2 : Nat} {l3 : Nat} {l4 : Int32} {l5 : Int32} {s0 : Nat} {s1 : Int32} {s2 : Int32} {s3 : Int32} {s4 : Int32} {s5 : Int32} {h : q_H} {o : q_O} {hz : q_H} {x : ((Nat × Nat × Nat × Int32) ⊕ Int32) × q_H} (hf : f340_2295 Ln xs l1 l2 l3 l4 l5 s0 s1 s2 s3 s4 s5 h = some x) (hK : (m_yK (fun (s : Nat × Nat × Nat × Int32) (h : q_H) => q_Ev (some (Ln, xs)) 340 23 [(0, .ref q_SC), (1, .ref (s.1)), (2, .ref (s.2.1)), (3, .ref (s.2.2.1)), (4, .int (s.2.2.2))] [] h o hz) (q_KI o hz)) x) : q_Ev (some (Ln, xs)) 340 2295 [(0, .ref q_SC), (1, .ref l1), (2, .ref l2), (3, .ref l3), (4, .int l4), (5, .int l5)] [.int s5, .int s4, .int s3, .int s2, .int s1, .ref s0] h o hz := by
  unfold f340_2295 at hf
  obtain ⟨g1, hf⟩ := m_aK_some hf
  refine em_call (v := (fun u => some (.int u))) (q_cod qk340 rfl) rfl rfl (q_cokV rfl rfl (Or.inr g1)) rfl (fun x e => f252_cl e) hf (fun v2 h hf => ?_)
  refine ev_is2 (L' := [(0, .ref q_SC), (1, .ref l1), (2, .ref l2), (3, .ref l3), (4, .int l4), (5, .int l5), (6, .int v2)]) (q_cod qk340 rfl) (by decide) rfl ?_
  refine ev_aload_n (q_cod qk340 rfl) (by decide) rfl ?_
  obtain ⟨g3, hf⟩ := m_aK_some hf
  refine em_call (v := (fun u => some (.int u))) (q_cod qk340 rfl) rfl rfl (q_cokV rfl rfl (Or.inr g3)) rfl (fun x e => f177_cl e) hf (fun v4 h hf => ?_)
  refine ev_iload (q_cod qk340 rfl) (by decide) rfl ?_
  refine em_ic_eq (q_cod qk340 rfl) (by decide) hf (fun c8 hf => ?_) (fun c8 hf => ?_)
  · refine ev_iload (q_cod qk340 rfl) (by decide) rfl ?_
    refine em_if_ne (q_cod qk340 rfl) (by decide) hf (fun c7 hf => ?_) (fun c7 hf => ?_)
    · refine ev_aload_n (q_cod qk340 rfl) (by decide) rfl ?_
      refine ev_ic (v := 0) (q_cod qk340 rfl) (by decide) (by decide) ?_
      refine em_lJ (q_cod qk340 rfl) (by decide) hf (fun v5 hf => ?_)
      refine ev_iload (q_cod qk340 rfl) (by decide) rfl ?_
      refine ev_i2l (q_cod qk340 rfl) (by decide) ?_
      refine ev_lcmp (q_cod qk340 rfl) (by decide) ?_
      refine em_if_eq (q_cod qk340 rfl) (by decide) hf (fun c6 hf => ?_) (fun c6 hf => ?_)
      · exact ev_weak (q_pk [0, 1, 2, 3, 4] rfl) (f340_2328_ok hf hK)
      · obtain ⟨y0, hf0, hx⟩ := m_inr_some hf
        subst hx
        exact ev_weak (q_pk [] rfl) (f340_2326_ok hf0 hK)
    · exact ev_weak (q_pk [0, 1, 2, 3, 4] rfl) (f340_2328_ok hf hK)
  · obtain ⟨y0, hf0, hx⟩ := m_inr_some hf
    subst hx
    exact ev_weak (q_pk [] rfl) (f340_2309_ok hf0 hK)
def f340_2250 (Ln : Nat) (xs : Nat → Int32) (l1 : Nat) (l2 : Nat) (l3 : Nat) (l4 : Int32) (s0 : Nat) (s1 : Int32) (s2 : Int32) (s3 : Int32) (s4 : Int32) (s5 : Int32) : m_M ((Nat × Nat × Nat × Int32) ⊕ Int32) :=
  m_B (f339 s0 s1 s2 s3 s4 s5 l3) (fun v1 => m_B (m_G (q_ins (l4 + 1) Ln = true)) (fun _ => m_B (m_G (q_ins (l4 + 2) Ln = true)) (fun _ => m_B (m_G (q_ins (l4 + 3) Ln = true)) (fun _ => m_B (m_G (q_ins (l4 + 4) Ln = true)) (fun _ => m_B (m_G (q_ins (l4 + 5) Ln = true)) (fun _ => if (xs (l4 + 5).toNatClampNeg) = 0 then (f340_2295 Ln xs l1 l2 l3 l4 v1 l2 (xs (l4 + 1).toNatClampNeg) (xs (l4 + 2).toNatClampNeg) (xs (l4 + 3).toNatClampNeg) (xs (l4 + 4).toNatClampNeg) 0) else (f340_2295 Ln xs l1 l2 l3 l4 v1 l2 (xs (l4 + 1).toNatClampNeg) (xs (l4 + 2).toNatClampNeg) (xs (l4 + 3).toNatClampNeg) (xs (l4 + 4).toNatClampNeg) 1)))))))
set_option maxRecDepth 20000 in
theorem f340_2250_ok {Ln : Nat} {xs : Nat → Int32} {l1 : Nat} {l2 : Nat} {l3 : Nat} {l4 : Int32} {s0 : Nat} {s1 : Int32} {s2 : Int32} {s3 : Int32} {s4 : Int32} {s5 : Int32} {h : q_H} {o : q_O} {hz : q_H} {x : ((Nat × Nat × Nat × Int32) ⊕ Int32) × q_H} (hf : f340_2250 Ln xs l1 l2 l3 l4 s0 s1 s2 s3 s4 s5 h = some x) (hK : (m_yK (fun (s : Nat × Nat × Nat × Int32) (h : q_H) => q_Ev (some (Ln, xs)) 340 23 [(0, .ref q_SC), (1, .ref (s.1)), (2, .ref (s.2.1)), (3, .ref (s.2.2.1)), (4, .int (s.2.2.2))] [] h o hz) (q_KI o hz)) x) : q_Ev (some (Ln, xs)) 340 2250 [(0, .ref q_SC), (1, .ref l1), (2, .ref l2), (3, .ref l3), (4, .int l4)] [.int s5, .int s4, .int s3, .int s2, .int s1, .ref s0] h o hz := by
  unfold f340_2250 at hf
  refine ev_aload_n (q_cod qk340 rfl) (by decide) rfl ?_
  refine em_call (v := (fun u => some (.int u))) (q_cod qk340 rfl) rfl rfl (q_cokS rfl rfl) rfl (fun x e => f339_cl e) hf (fun v1 h hf => ?_)
  refine ev_is2 (L' := [(0, .ref q_SC), (1, .ref l1), (2, .ref l2), (3, .ref l3), (4, .int l4), (5, .int v1)]) (q_cod qk340 rfl) (by decide) rfl ?_
  refine ev_aload_n (q_cod qk340 rfl) (by decide) rfl ?_
  refine ev_aload_n (q_cod qk340 rfl) (by decide) rfl ?_
  refine ev_iload (q_cod qk340 rfl) (by decide) rfl ?_
  refine ev_ic (v := 1) (q_cod qk340 rfl) (by decide) (by decide) ?_
  refine ev_iadd (q_cod qk340 rfl) (by decide) ?_
  refine em_sald (q_cod qk340 rfl) (by decide) hf (fun hf => ?_)
  refine ev_aload_n (q_cod qk340 rfl) (by decide) rfl ?_
  refine ev_iload (q_cod qk340 rfl) (by decide) rfl ?_
  refine ev_ic (v := 2) (q_cod qk340 rfl) (by decide) (by decide) ?_
  refine ev_iadd (q_cod qk340 rfl) (by decide) ?_
  refine em_sald (q_cod qk340 rfl) (by decide) hf (fun hf => ?_)
  refine ev_aload_n (q_cod qk340 rfl) (by decide) rfl ?_
  refine ev_iload (q_cod qk340 rfl) (by decide) rfl ?_
  refine ev_ic (v := 3) (q_cod qk340 rfl) (by decide) (by decide) ?_
  refine ev_iadd (q_cod qk340 rfl) (by decide) ?_
  refine em_sald (q_cod qk340 rfl) (by decide) hf (fun hf => ?_)
  refine ev_aload_n (q_cod qk340 rfl) (by decide) rfl ?_
  refine ev_iload (q_cod qk340 rfl) (by decide) rfl ?_
  refine ev_ic (v := 4) (q_cod qk340 rfl) (by decide) (by decide) ?_
  refine ev_iadd (q_cod qk340 rfl) (by decide) ?_
  refine em_sald (q_cod qk340 rfl) (by decide) hf (fun hf => ?_)
  refine ev_aload_n (q_cod qk340 rfl) (by decide) rfl ?_
  refine ev_iload (q_cod qk340 rfl) (by decide) rfl ?_
  refine ev_ic (v := 5) (q_cod qk340 rfl) (by decide) (by decide) ?_
  refine ev_iadd (q_cod qk340 rfl) (by decide) ?_
  refine em_sald (q_cod qk340 rfl) (by decide) hf (fun hf => ?_)
  refine em_if_eq (q_cod qk340 rfl) (by decide) hf (fun c7 hf => ?_) (fun c7 hf => ?_)
  · refine ev_ic (v := 0) (q_cod qk340 rfl) (by decide) (by decide) ?_
    exact (f340_2295_ok hf hK)
  · refine ev_ic (v := 1) (q_cod qk340 rfl) (by decide) (by decide) ?_
    refine ev_goto (q_cod qk340 rfl) (by decide) ?_
    exact (f340_2295_ok hf hK)
def f340_2211 (Ln : Nat) (xs : Nat → Int32) (l1 : Nat) (l2 : Nat) (l3 : Nat) (l4 : Int32) : m_M ((Nat × Nat × Nat × Int32) ⊕ Int32) :=
  m_B (m_G (q_ins (l4 + 1) Ln = true)) (fun _ => m_B (m_G (q_ins (l4 + 2) Ln = true)) (fun _ => m_B (m_G (q_ins (l4 + 3) Ln = true)) (fun _ => m_B (m_G (q_ins (l4 + 4) Ln = true)) (fun _ => m_B (m_G (q_ins (l4 + 5) Ln = true)) (fun _ => if (xs (l4 + 5).toNatClampNeg) = 0 then (f340_2250 Ln xs l1 l2 l3 l4 l1 (xs (l4 + 1).toNatClampNeg) (xs (l4 + 2).toNatClampNeg) (xs (l4 + 3).toNatClampNeg) (xs (l4 + 4).toNatClampNeg) 0) else (f340_2250 Ln xs l1 l2 l3 l4 l1 (xs (l4 + 1).toNatClampNeg) (xs (l4 + 2).toNatClampNeg) (xs (l4 + 3).toNatClampNeg) (xs (l4 + 4).toNatClampNeg) 1))))))
set_option maxRecDepth 20000 in
theorem f340_2211_ok {Ln : Nat} {xs : Nat → Int32} {l1 : Nat} {l2 : Nat} {l3 : Nat} {l4 : Int32} {h : q_H} {o : q_O} {hz : q_H} {x : ((Nat × Nat × Nat × Int32) ⊕ Int32) × q_H} (hf : f340_2211 Ln xs l1 l2 l3 l4 h = some x) (hK : (m_yK (fun (s : Nat × Nat × Nat × Int32) (h : q_H) => q_Ev (some (Ln, xs)) 340 23 [(0, .ref q_SC), (1, .ref (s.1)), (2, .ref (s.2.1)), (3, .ref (s.2.2.1)), (4, .int (s.2.2.2))] [] h o hz) (q_KI o hz)) x) : q_Ev (some (Ln, xs)) 340 2211 [(0, .ref q_SC), (1, .ref l1), (2, .ref l2), (3, .ref l3), (4, .int l4)] [] h o hz := by
  unfold f340_2211 at hf
  refine ev_aload_n (q_cod qk340 rfl) (by decide) rfl ?_
  refine ev_aload_n (q_cod qk340 rfl) (by decide) rfl ?_
  refine ev_iload (q_cod qk340 rfl) (by decide) rfl ?_
  refine ev_ic (v := 1) (q_cod qk340 rfl) (by decide) (by decide) ?_
  refine ev_iadd (q_cod qk340 rfl) (by decide) ?_
  refine em_sald (q_cod qk340 rfl) (by decide) hf (fun hf => ?_)
  refine ev_aload_n (q_cod qk340 rfl) (by decide) rfl ?_
  refine ev_iload (q_cod qk340 rfl) (by decide) rfl ?_
  refine ev_ic (v := 2) (q_cod qk340 rfl) (by decide) (by decide) ?_
  refine ev_iadd (q_cod qk340 rfl) (by decide) ?_
  refine em_sald (q_cod qk340 rfl) (by decide) hf (fun hf => ?_)
  refine ev_aload_n (q_cod qk340 rfl) (by decide) rfl ?_
  refine ev_iload (q_cod qk340 rfl) (by decide) rfl ?_
  refine ev_ic (v := 3) (q_cod qk340 rfl) (by decide) (by decide) ?_
  refine ev_iadd (q_cod qk340 rfl) (by decide) ?_
  refine em_sald (q_cod qk340 rfl) (by decide) hf (fun hf => ?_)
  refine ev_aload_n (q_cod qk340 rfl) (by decide) rfl ?_
  refine ev_iload (q_cod qk340 rfl) (by decide) rfl ?_
  refine ev_ic (v := 4) (q_cod qk340 rfl) (by decide) (by decide) ?_
  refine ev_iadd (q_cod qk340 rfl) (by decide) ?_
  refine em_sald (q_cod qk340 rfl) (by decide) hf (fun hf => ?_)
  refine ev_aload_n (q_cod qk340 rfl) (by decide) rfl ?_
  refine ev_iload (q_cod qk340 rfl) (by decide) rfl ?_
  refine ev_ic (v := 5) (q_cod qk340 rfl) (by decide) (by decide) ?_
  refine ev_iadd (q_cod qk340 rfl) (by decide) ?_
  refine em_sald (q_cod qk340 rfl) (by decide) hf (fun hf => ?_)
  refine em_if_eq (q_cod qk340 rfl) (by decide) hf (fun c6 hf => ?_) (fun c6 hf => ?_)
  · refine ev_ic (v := 0) (q_cod qk340 rfl) (by decide) (by decide) ?_
    exact (f340_2250_ok hf hK)
  · refine ev_ic (v := 1) (q_cod qk340 rfl) (by decide) (by decide) ?_
    refine ev_goto (q_cod qk340 rfl) (by decide) ?_
    exact (f340_2250_ok hf hK)
def f340_2342 (Ln : Nat) (xs : Nat → Int32) : m_M Int32 :=
  m_R 0
set_option maxRecDepth 20000 in
theorem f340_2342_ok {Ln : Nat} {xs : Nat → Int32} {h : q_H} {o : q_O} {hz : q_H} {x : Int32 × q_H} (hf : f340_2342 Ln xs h = some x) (hK : (q_KI o hz) x) : q_Ev (some (Ln, xs)) 340 2342 [] [] h o hz := by
  unfold f340_2342 at hf
  refine ev_ic (v := 0) (q_cod qk340 rfl) (by decide) (by decide) ?_
  obtain rfl := m_R_inv hf
  obtain ⟨rfl, rfl⟩ := (show q_KI o hz (0, _) from hK)
  exact ev_ret (q_cod qk340 rfl) rfl
def f340_2331 (Ln : Nat) (xs : Nat → Int32) (l1 : Nat) (l2 : Nat) (l3 : Nat) (l4 : Int32) : m_M ((Nat × Nat × Nat × Int32) ⊕ Int32) :=
  m_B (m_aK l1 11) (fun _ => m_B (f155 l1) (fun v2 => m_B (m_aK l2 12) (fun _ => m_B (f253 l2) (fun v4 => if v2 = v4 then (f340_2357 Ln xs l1 l2 l3 l4) else (m_B (f340_2342 Ln xs) (fun r => m_R (.inr r)))))))
set_option maxRecDepth 20000 in
theorem f340_2331_ok {Ln : Nat} {xs : Nat → Int32} {l1 : Nat} {l2 : Nat} {l3 : Nat} {l4 : Int32} {h : q_H} {o : q_O} {hz : q_H} {x : ((Nat × Nat × Nat × Int32) ⊕ Int32) × q_H} (hf : f340_2331 Ln xs l1 l2 l3 l4 h = some x) (hK : (m_yK (fun (s : Nat × Nat × Nat × Int32) (h : q_H) => q_Ev (some (Ln, xs)) 340 23 [(0, .ref q_SC), (1, .ref (s.1)), (2, .ref (s.2.1)), (3, .ref (s.2.2.1)), (4, .int (s.2.2.2))] [] h o hz) (q_KI o hz)) x) : q_Ev (some (Ln, xs)) 340 2331 [(0, .ref q_SC), (1, .ref l1), (2, .ref l2), (3, .ref l3), (4, .int l4)] [] h o hz := by
  unfold f340_2331 at hf
  refine ev_aload_n (q_cod qk340 rfl) (by decide) rfl ?_
  obtain ⟨g1, hf⟩ := m_aK_some hf
  refine em_call (v := (fun u => some (.int u))) (q_cod qk340 rfl) rfl rfl (q_cokV rfl rfl (Or.inr g1)) rfl (fun x e => f155_cl e) hf (fun v2 h hf => ?_)
  refine ev_aload_n (q_cod qk340 rfl) (by decide) rfl ?_
  obtain ⟨g3, hf⟩ := m_aK_some hf
  refine em_call (v := (fun u => some (.int u))) (q_cod qk340 rfl) rfl rfl (q_cokV rfl rfl (Or.inr g3)) rfl (fun x e => f253_cl e) hf (fun v4 h hf => ?_)
  refine em_ic_eq (q_cod qk340 rfl) (by decide) hf (fun c5 hf => ?_) (fun c5 hf => ?_)
  · exact (f340_2357_ok hf hK)
  · obtain ⟨y0, hf0, hx⟩ := m_inr_some hf
    subst hx
    exact ev_weak (q_pk [] rfl) (f340_2342_ok hf0 hK)
def f340_2355 (Ln : Nat) (xs : Nat → Int32) : m_M Int32 :=
  m_R 0
set_option maxRecDepth 20000 in
theorem f340_2355_ok {Ln : Nat} {xs : Nat → Int32} {h : q_H} {o : q_O} {hz : q_H} {x : Int32 × q_H} (hf : f340_2355 Ln xs h = some x) (hK : (q_KI o hz) x) : q_Ev (some (Ln, xs)) 340 2355 [] [] h o hz := by
  unfold f340_2355 at hf
  refine ev_ic (v := 0) (q_cod qk340 rfl) (by decide) (by decide) ?_
  obtain rfl := m_R_inv hf
  obtain ⟨rfl, rfl⟩ := (show q_KI o hz (0, _) from hK)
  exact ev_ret (q_cod qk340 rfl) rfl
def f340_2344 (Ln : Nat) (xs : Nat → Int32) (l1 : Nat) (l2 : Nat) (l3 : Nat) (l4 : Int32) : m_M ((Nat × Nat × Nat × Int32) ⊕ Int32) :=
  m_B (m_aK l1 11) (fun _ => m_B (f156 l1) (fun v2 => m_B (m_aK l2 12) (fun _ => m_B (f254 l2) (fun v4 => if v2 = v4 then (f340_2357 Ln xs l1 l2 l3 l4) else (m_B (f340_2355 Ln xs) (fun r => m_R (.inr r)))))))
set_option maxRecDepth 20000 in
theorem f340_2344_ok {Ln : Nat} {xs : Nat → Int32} {l1 : Nat} {l2 : Nat} {l3 : Nat} {l4 : Int32} {h : q_H} {o : q_O} {hz : q_H} {x : ((Nat × Nat × Nat × Int32) ⊕ Int32) × q_H} (hf : f340_2344 Ln xs l1 l2 l3 l4 h = some x) (hK : (m_yK (fun (s : Nat × Nat × Nat × Int32) (h : q_H) => q_Ev (some (Ln, xs)) 340 23 [(0, .ref q_SC), (1, .ref (s.1)), (2, .ref (s.2.1)), (3, .ref (s.2.2.1)), (4, .int (s.2.2.2))] [] h o hz) (q_KI o hz)) x) : q_Ev (some (Ln, xs)) 340 2344 [(0, .ref q_SC), (1, .ref l1), (2, .ref l2), (3, .ref l3), (4, .int l4)] [] h o hz := by
  unfold f340_2344 at hf
  refine ev_aload_n (q_cod qk340 rfl) (by decide) rfl ?_
  obtain ⟨g1, hf⟩ := m_aK_some hf
  refine em_call (v := (fun u => some (.int u))) (q_cod qk340 rfl) rfl rfl (q_cokV rfl rfl (Or.inr g1)) rfl (fun x e => f156_cl e) hf (fun v2 h hf => ?_)
  refine ev_aload_n (q_cod qk340 rfl) (by decide) rfl ?_
  obtain ⟨g3, hf⟩ := m_aK_some hf
  refine em_call (v := (fun u => some (.int u))) (q_cod qk340 rfl) rfl rfl (q_cokV rfl rfl (Or.inr g3)) rfl (fun x e => f254_cl e) hf (fun v4 h hf => ?_)
  refine em_ic_eq (q_cod qk340 rfl) (by decide) hf (fun c5 hf => ?_) (fun c5 hf => ?_)
  · exact (f340_2357_ok hf hK)
  · obtain ⟨y0, hf0, hx⟩ := m_inr_some hf
    subst hx
    exact ev_weak (q_pk [] rfl) (f340_2355_ok hf0 hK)
def f340_23b (Ln : Nat) (xs : Nat → Int32) (l1 : Nat) (l2 : Nat) (l3 : Nat) (l4 : Int32) : m_M ((Nat × Nat × Nat × Int32) ⊕ Int32) :=
  if ((Int32.ofNat Ln) - 7) < l4 then (m_B (f340_2363 Ln xs) (fun r => m_R (.inr r))) else (m_B (m_G (q_ins l4 Ln = true)) (fun _ => if ((xs (l4).toNatClampNeg) &&& 63).toInt = 0 then (f340_188 Ln xs l1 l2 l3 l4) else (if ((xs (l4).toNatClampNeg) &&& 63).toInt = 1 then (f340_244 Ln xs l1 l2 l3 l4) else (if ((xs (l4).toNatClampNeg) &&& 63).toInt = 2 then (f340_300 Ln xs l1 l2 l3 l4) else (if ((xs (l4).toNatClampNeg) &&& 63).toInt = 3 then (f340_344 Ln xs l1 l2 l3 l4) else (if ((xs (l4).toNatClampNeg) &&& 63).toInt = 4 then (f340_412 Ln xs l1 l2 l3 l4) else (if ((xs (l4).toNatClampNeg) &&& 63).toInt = 5 then (f340_492 Ln xs l1 l2 l3 l4) else (if ((xs (l4).toNatClampNeg) &&& 63).toInt = 6 then (f340_572 Ln xs l1 l2 l3 l4) else (if ((xs (l4).toNatClampNeg) &&& 63).toInt = 7 then (f340_664 Ln xs l1 l2 l3 l4) else (if ((xs (l4).toNatClampNeg) &&& 63).toInt = 8 then (f340_720 Ln xs l1 l2 l3 l4) else (if ((xs (l4).toNatClampNeg) &&& 63).toInt = 9 then (f340_800 Ln xs l1 l2 l3 l4) else (if ((xs (l4).toNatClampNeg) &&& 63).toInt = 10 then (f340_880 Ln xs l1 l2 l3 l4) else (if ((xs (l4).toNatClampNeg) &&& 63).toInt = 11 then (f340_936 Ln xs l1 l2 l3 l4) else (if ((xs (l4).toNatClampNeg) &&& 63).toInt = 12 then (f340_992 Ln xs l1 l2 l3 l4) else (if ((xs (l4).toNatClampNeg) &&& 63).toInt = 13 then (f340_1072 Ln xs l1 l2 l3 l4) else (if ((xs (l4).toNatClampNeg) &&& 63).toInt = 14 then (f340_1190 Ln xs l1 l2 l3 l4) else (if ((xs (l4).toNatClampNeg) &&& 63).toInt = 15 then (f340_1203 Ln xs l1 l2 l3 l4) else (if ((xs (l4).toNatClampNeg) &&& 63).toInt = 16 then (f340_1247 Ln xs l1 l2 l3 l4) else (if ((xs (l4).toNatClampNeg) &&& 63).toInt = 17 then (f340_1315 Ln xs l1 l2 l3 l4) else (if ((xs (l4).toNatClampNeg) &&& 63).toInt = 18 then (f340_1395 Ln xs l1 l2 l3 l4) else (if ((xs (l4).toNatClampNeg) &&& 63).toInt = 19 then (f340_1475 Ln xs l1 l2 l3 l4) else (if ((xs (l4).toNatClampNeg) &&& 63).toInt = 20 then (f340_1543 Ln xs l1 l2 l3 l4) else (if ((xs (l4).toNatClampNeg) &&& 63).toInt = 21 then (f340_1623 Ln xs l1 l2 l3 l4) else (if ((xs (l4).toNatClampNeg) &&& 63).toInt = 22 then (f340_1691 Ln xs l1 l2 l3 l4) else (if ((xs (l4).toNatClampNeg) &&& 63).toInt = 23 then (f340_1759 Ln xs l1 l2 l3 l4) else (if ((xs (l4).toNatClampNeg) &&& 63).toInt = 24 then (f340_1815 Ln xs l1 l2 l3 l4) else (if ((xs (l4).toNatClampNeg) &&& 63).toInt = 25 then (f340_1871 Ln xs l1 l2 l3 l4) else (if ((xs (l4).toNatClampNeg) &&& 63).toInt = 26 then (f340_1963 Ln xs l1 l2 l3 l4) else (if ((xs (l4).toNatClampNeg) &&& 63).toInt = 27 then (f340_2019 Ln xs l1 l2 l3 l4) else (if ((xs (l4).toNatClampNeg) &&& 63).toInt = 28 then (f340_2063 Ln xs l1 l2 l3 l4) else (if ((xs (l4).toNatClampNeg) &&& 63).toInt = 29 then (f340_2131 Ln xs l1 l2 l3 l4) else (if ((xs (l4).toNatClampNeg) &&& 63).toInt = 30 then (f340_2211 Ln xs l1 l2 l3 l4) else (if ((xs (l4).toNatClampNeg) &&& 63).toInt = 31 then (f340_2331 Ln xs l1 l2 l3 l4) else (if ((xs (l4).toNatClampNeg) &&& 63).toInt = 32 then (f340_2344 Ln xs l1 l2 l3 l4) else (f340_2357 Ln xs l1 l2 l3 l4)))))))))))))))))))))))))))))))))))
set_option maxRecDepth 20000 in
theorem f340_23b_ok {Ln : Nat} {xs : Nat → Int32} {l1 : Nat} {l2 : Nat} {l3 : Nat} {l4 : Int32} {h : q_H} {o : q_O} {hz : q_H} {x : ((Nat × Nat × Nat × Int32) ⊕ Int32) × q_H} (hf : f340_23b Ln xs l1 l2 l3 l4 h = some x) (hK : (m_yK (fun (s : Nat × Nat × Nat × Int32) (h : q_H) => q_Ev (some (Ln, xs)) 340 23 [(0, .ref q_SC), (1, .ref (s.1)), (2, .ref (s.2.1)), (3, .ref (s.2.2.1)), (4, .int (s.2.2.2))] [] h o hz) (q_KI o hz)) x) : q_Ev (some (Ln, xs)) 340 23 [(0, .ref q_SC), (1, .ref l1), (2, .ref l2), (3, .ref l3), (4, .int l4)] [] h o hz := by
  unfold f340_23b at hf
  refine ev_iload (q_cod qk340 rfl) (by decide) rfl ?_
  refine ev_aload_n (q_cod qk340 rfl) (by decide) rfl ?_
  refine ev_slen (q_cod qk340 rfl) (by decide) ?_
  refine ev_bi (v := 7) (q_cod qk340 rfl) (by decide) (by decide) ?_
  refine ev_isub (q_cod qk340 rfl) (by decide) ?_
  refine em_ic_gt (q_cod qk340 rfl) (by decide) hf (fun c35 hf => ?_) (fun c35 hf => ?_)
  · obtain ⟨y0, hf0, hx⟩ := m_inr_some hf
    subst hx
    exact ev_weak (q_pk [] rfl) (f340_2363_ok hf0 hK)
  · refine ev_aload_n (q_cod qk340 rfl) (by decide) rfl ?_
    refine ev_iload (q_cod qk340 rfl) (by decide) rfl ?_
    refine em_sald (q_cod qk340 rfl) (by decide) hf (fun hf => ?_)
    refine ev_bi (v := 63) (q_cod qk340 rfl) (by decide) (by decide) ?_
    refine ev_iand (q_cod qk340 rfl) (by decide) ?_
    rcases m_iteM hf with ⟨c2, hf⟩ | ⟨c2, hf⟩
    · refine ev_tsw (q_cod qk340 rfl) (by decide) (t := 188) (by rw [c2]; rfl) ?_
      exact (f340_188_ok hf hK)
    rcases m_iteM hf with ⟨c3, hf⟩ | ⟨c3, hf⟩
    · refine ev_tsw (q_cod qk340 rfl) (by decide) (t := 244) (by rw [c3]; rfl) ?_
      exact (f340_244_ok hf hK)
    rcases m_iteM hf with ⟨c4, hf⟩ | ⟨c4, hf⟩
    · refine ev_tsw (q_cod qk340 rfl) (by decide) (t := 300) (by rw [c4]; rfl) ?_
      exact (f340_300_ok hf hK)
    rcases m_iteM hf with ⟨c5, hf⟩ | ⟨c5, hf⟩
    · refine ev_tsw (q_cod qk340 rfl) (by decide) (t := 344) (by rw [c5]; rfl) ?_
      exact (f340_344_ok hf hK)
    rcases m_iteM hf with ⟨c6, hf⟩ | ⟨c6, hf⟩
    · refine ev_tsw (q_cod qk340 rfl) (by decide) (t := 412) (by rw [c6]; rfl) ?_
      exact (f340_412_ok hf hK)
    rcases m_iteM hf with ⟨c7, hf⟩ | ⟨c7, hf⟩
    · refine ev_tsw (q_cod qk340 rfl) (by decide) (t := 492) (by rw [c7]; rfl) ?_
      exact (f340_492_ok hf hK)
    rcases m_iteM hf with ⟨c8, hf⟩ | ⟨c8, hf⟩
    · refine ev_tsw (q_cod qk340 rfl) (by decide) (t := 572) (by rw [c8]; rfl) ?_
      exact (f340_572_ok hf hK)
    rcases m_iteM hf with ⟨c9, hf⟩ | ⟨c9, hf⟩
    · refine ev_tsw (q_cod qk340 rfl) (by decide) (t := 664) (by rw [c9]; rfl) ?_
      exact (f340_664_ok hf hK)
    rcases m_iteM hf with ⟨c10, hf⟩ | ⟨c10, hf⟩
    · refine ev_tsw (q_cod qk340 rfl) (by decide) (t := 720) (by rw [c10]; rfl) ?_
      exact (f340_720_ok hf hK)
    rcases m_iteM hf with ⟨c11, hf⟩ | ⟨c11, hf⟩
    · refine ev_tsw (q_cod qk340 rfl) (by decide) (t := 800) (by rw [c11]; rfl) ?_
      exact (f340_800_ok hf hK)
    rcases m_iteM hf with ⟨c12, hf⟩ | ⟨c12, hf⟩
    · refine ev_tsw (q_cod qk340 rfl) (by decide) (t := 880) (by rw [c12]; rfl) ?_
      exact (f340_880_ok hf hK)
    rcases m_iteM hf with ⟨c13, hf⟩ | ⟨c13, hf⟩
    · refine ev_tsw (q_cod qk340 rfl) (by decide) (t := 936) (by rw [c13]; rfl) ?_
      exact (f340_936_ok hf hK)
    rcases m_iteM hf with ⟨c14, hf⟩ | ⟨c14, hf⟩
    · refine ev_tsw (q_cod qk340 rfl) (by decide) (t := 992) (by rw [c14]; rfl) ?_
      exact (f340_992_ok hf hK)
    rcases m_iteM hf with ⟨c15, hf⟩ | ⟨c15, hf⟩
    · refine ev_tsw (q_cod qk340 rfl) (by decide) (t := 1072) (by rw [c15]; rfl) ?_
      exact (f340_1072_ok hf hK)
    rcases m_iteM hf with ⟨c16, hf⟩ | ⟨c16, hf⟩
    · refine ev_tsw (q_cod qk340 rfl) (by decide) (t := 1190) (by rw [c16]; rfl) ?_
      exact (f340_1190_ok hf hK)
    rcases m_iteM hf with ⟨c17, hf⟩ | ⟨c17, hf⟩
    · refine ev_tsw (q_cod qk340 rfl) (by decide) (t := 1203) (by rw [c17]; rfl) ?_
      exact (f340_1203_ok hf hK)
    rcases m_iteM hf with ⟨c18, hf⟩ | ⟨c18, hf⟩
    · refine ev_tsw (q_cod qk340 rfl) (by decide) (t := 1247) (by rw [c18]; rfl) ?_
      exact (f340_1247_ok hf hK)
    rcases m_iteM hf with ⟨c19, hf⟩ | ⟨c19, hf⟩
    · refine ev_tsw (q_cod qk340 rfl) (by decide) (t := 1315) (by rw [c19]; rfl) ?_
      exact (f340_1315_ok hf hK)
    rcases m_iteM hf with ⟨c20, hf⟩ | ⟨c20, hf⟩
    · refine ev_tsw (q_cod qk340 rfl) (by decide) (t := 1395) (by rw [c20]; rfl) ?_
      exact (f340_1395_ok hf hK)
    rcases m_iteM hf with ⟨c21, hf⟩ | ⟨c21, hf⟩
    · refine ev_tsw (q_cod qk340 rfl) (by decide) (t := 1475) (by rw [c21]; rfl) ?_
      exact (f340_1475_ok hf hK)
    rcases m_iteM hf with ⟨c22, hf⟩ | ⟨c22, hf⟩
    · refine ev_tsw (q_cod qk340 rfl) (by decide) (t := 1543) (by rw [c22]; rfl) ?_
      exact (f340_1543_ok hf hK)
    rcases m_iteM hf with ⟨c23, hf⟩ | ⟨c23, hf⟩
    · refine ev_tsw (q_cod qk340 rfl) (by decide) (t := 1623) (by rw [c23]; rfl) ?_
      exact (f340_1623_ok hf hK)
    rcases m_iteM hf with ⟨c24, hf⟩ | ⟨c24, hf⟩
    · refine ev_tsw (q_cod qk340 rfl) (by decide) (t := 1691) (by rw [c24]; rfl) ?_
      exact (f340_1691_ok hf hK)
    rcases m_iteM hf with ⟨c25, hf⟩ | ⟨c25, hf⟩
    · refine ev_tsw (q_cod qk340 rfl) (by decide) (t := 1759) (by rw [c25]; rfl) ?_
      exact (f340_1759_ok hf hK)
    rcases m_iteM hf with ⟨c26, hf⟩ | ⟨c26, hf⟩
    · refine ev_tsw (q_cod qk340 rfl) (by decide) (t := 1815) (by rw [c26]; rfl) ?_
      exact (f340_1815_ok hf hK)
    rcases m_iteM hf with ⟨c27, hf⟩ | ⟨c27, hf⟩
    · refine ev_tsw (q_cod qk340 rfl) (by decide) (t := 1871) (by rw [c27]; rfl) ?_
      exact (f340_1871_ok hf hK)
    rcases m_iteM hf with ⟨c28, hf⟩ | ⟨c28, hf⟩
    · refine ev_tsw (q_cod qk340 rfl) (by decide) (t := 1963) (by rw [c28]; rfl) ?_
      exact (f340_1963_ok hf hK)
    rcases m_iteM hf with ⟨c29, hf⟩ | ⟨c29, hf⟩
    · refine ev_tsw (q_cod qk340 rfl) (by decide) (t := 2019) (by rw [c29]; rfl) ?_
      exact (f340_2019_ok hf hK)
    rcases m_iteM hf with ⟨c30, hf⟩ | ⟨c30, hf⟩
    · refine ev_tsw (q_cod qk340 rfl) (by decide) (t := 2063) (by rw [c30]; rfl) ?_
      exact (f340_2063_ok hf hK)
    rcases m_iteM hf with ⟨c31, hf⟩ | ⟨c31, hf⟩
    · refine ev_tsw (q_cod qk340 rfl) (by decide) (t := 2131) (by rw [c31]; rfl) ?_
      exact (f340_2131_ok hf hK)
    rcases m_iteM hf with ⟨c32, hf⟩ | ⟨c32, hf⟩
    · refine ev_tsw (q_cod qk340 rfl) (by decide) (t := 2211) (by rw [c32]; rfl) ?_
      exact (f340_2211_ok hf hK)
    rcases m_iteM hf with ⟨c33, hf⟩ | ⟨c33, hf⟩
    · refine ev_tsw (q_cod qk340 rfl) (by decide) (t := 2331) (by rw [c33]; rfl) ?_
      exact (f340_2331_ok hf hK)
    rcases m_iteM hf with ⟨c34, hf⟩ | ⟨c34, hf⟩
    · refine ev_tsw (q_cod qk340 rfl) (by decide) (t := 2344) (by rw [c34]; rfl) ?_
      exact (f340_2344_ok hf hK)
    refine ev_tsw (q_cod qk340 rfl) (by decide) (t := 2357) (by rw [if_pos (by omega)]; rfl) ?_
    exact (f340_2357_ok hf hK)
def f340_23 (Ln : Nat) (xs : Nat → Int32) (l1 : Nat) (l2 : Nat) (l3 : Nat) (l4 : Int32) : m_M Int32 := m_W (fun s => f340_23b Ln xs (s.1) (s.2.1) (s.2.2.1) (s.2.2.2)) 1000000 (l1, l2, l3, l4)
theorem f340_23_ok {Ln : Nat} {xs : Nat → Int32} {l1 : Nat} {l2 : Nat} {l3 : Nat} {l4 : Int32} {h : q_H} {o : q_O} {hz : q_H} {x : Int32 × q_H} (hf : f340_23 Ln xs l1 l2 l3 l4 h = some x) (hK : (q_KI o hz) x) : q_Ev (some (Ln, xs)) 340 23 [(0, .ref q_SC), (1, .ref l1), (2, .ref l2), (3, .ref l3), (4, .int l4)] [] h o hz :=
  m_W_ok (P := (fun (s : Nat × Nat × Nat × Int32) (h : q_H) => q_Ev (some (Ln, xs)) 340 23 [(0, .ref q_SC), (1, .ref (s.1)), (2, .ref (s.2.1)), (3, .ref (s.2.2.1)), (4, .int (s.2.2.2))] [] h o hz)) (K := (q_KI o hz)) (fun s h x h1 h2 => f340_23b_ok h1 h2) _ (l1, l2, l3, l4) _ _ hf hK
def f340 (Ln : Nat) (xs : Nat → Int32) : m_M Int32 :=
  m_B (m_nO 11) (fun r1 => m_B (f123 r1) (fun _ => m_B (m_nO 12) (fun r3 => m_B (f176 r3) (fun _ => m_B (m_nA 22 1) (fun r5 => f340_23 Ln xs r1 r3 r5 0)))))
set_option maxRecDepth 20000 in
theorem f340_ok {Ln : Nat} {xs : Nat → Int32} {h : q_H} {o : q_O} {hz : q_H} {x : Int32 × q_H} (hf : f340 Ln xs h = some x) (hK : (q_KI o hz) x) : q_Ev (some (Ln, xs)) 340 0 [(0, .ref q_SC)] [] h o hz := by
  unfold f340 at hf
  refine em_nO (q_cod qk340 rfl) (by decide) hf (fun r1 h hf => ?_)
  refine ev_dup (q_cod qk340 rfl) (by decide) rfl ?_
  refine em_call (v := (fun _ => none)) (q_cod qk340 rfl) rfl rfl (q_cokV rfl rfl (Or.inl rfl)) rfl (fun x e => f123_cl e) hf (fun _ h hf => ?_)
  refine ev_as1 (L' := [(0, .ref q_SC), (1, .ref r1)]) (q_cod qk340 rfl) (by decide) rfl ?_
  refine em_nO (q_cod qk340 rfl) (by decide) hf (fun r3 h hf => ?_)
  refine ev_dup (q_cod qk340 rfl) (by decide) rfl ?_
  refine em_call (v := (fun _ => none)) (q_cod qk340 rfl) rfl rfl (q_cokV rfl rfl (Or.inl rfl)) rfl (fun x e => f176_cl e) hf (fun _ h hf => ?_)
  refine ev_as1 (L' := [(0, .ref q_SC), (1, .ref r1), (2, .ref r3)]) (q_cod qk340 rfl) (by decide) rfl ?_
  refine ev_ic (v := 1) (q_cod qk340 rfl) (by decide) (by decide) ?_
  refine em_nJ (q_cod qk340 rfl) (by decide) hf (fun r5 h hf => ?_)
  refine ev_as1 (L' := [(0, .ref q_SC), (1, .ref r1), (2, .ref r3), (3, .ref r5)]) (q_cod qk340 rfl) (by decide) rfl ?_
  refine ev_ic (v := 0) (q_cod qk340 rfl) (by decide) (by decide) ?_
  refine ev_is2 (L' := [(0, .ref q_SC), (1, .ref r1), (2, .ref r3), (3, .ref r5), (4, .int 0)]) (q_cod qk340 rfl) (by decide) rfl ?_
  exact (f340_23_ok hf hK)
theorem f340_cl {Ln : Nat} {xs : Nat → Int32} {h : q_H} {x : Int32 × q_H} (hf : f340 Ln xs h = some x) : ∃ n, q_ex (some (Ln, xs)) n 340 0 [(0, .ref q_SC)] [] h = some (.inl (some (.int x.1)), x.2) := f340_ok hf ⟨rfl, rfl⟩ _ (q_LvS rfl rfl)
