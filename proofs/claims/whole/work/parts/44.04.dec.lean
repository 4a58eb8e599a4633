/-! SmithyBench$Machine.start(I)V -/
theorem qk48 : q_cs.getD 48 [] = qc_48 := rfl
def f48 (l0 : Nat) (l1 : Int32) : m_M Unit :=
  m_B (m_gI 5 l0 15) (fun v1 => if v1 < 500 then (m_B (m_gR 5 l0 0) (fun r2 => m_B (m_gI 5 l0 11) (fun v3 => m_B (m_wI r2 v3 l1) (fun _ => m_B (m_gR 5 l0 1) (fun r4 => m_B (m_gI 5 l0 11) (fun v5 => m_B (m_wI r4 v5 0) (fun _ => m_B (m_gR 5 l0 2) (fun r6 => m_B (m_gI 5 l0 11) (fun v7 => m_B (m_gI 5 l0 13) (fun v8 => m_B (m_wI r6 v7 v8) (fun _ => m_B (m_gR 5 l0 3) (fun r9 => m_B (m_gI 5 l0 11) (fun v10 => m_B (m_gI 5 l0 12) (fun v11 => m_B (m_wI r9 v10 v11) (fun _ => m_B (m_gI 5 l0 15) (fun v12 => m_B (m_pI 5 l0 15 (v12 + 1)) (fun _ => m_B (m_gI 5 l0 11) (fun v13 => m_B (m_pI 5 l0 11 (v13 + 1)) (fun _ => m_R ()))))))))))))))))))) else (m_B (m_pI 5 l0 16 5) (fun _ => m_R ())))
theorem f48_ok {l0 : Nat} {l1 : Int32} {h : q_H} {o : q_O} {hz : q_H} {x : Unit × q_H} (hf : f48 l0 l1 h = some x) (hK : (m_KU o hz) x) : q_Ev none 48 0 [(0, .ref l0), (1, .int l1)] [] h o hz := by
  unfold f48 at hf
  refine ev_aload_n (q_cod qk48 rfl) (by decide) rfl ?_
  refine em_gI (q_cod qk48 rfl) (by decide) (by decide) hf (fun v1 hf => ?_)
  refine ev_si (v := 500) (q_cod qk48 rfl) (by decide) (by decide) ?_
  refine em_ic_lt (q_cod qk48 rfl) (by decide) hf (fun c14 hf => ?_) (fun c14 hf => ?_)
  · refine ev_aload_n (q_cod qk48 rfl) (by decide) rfl ?_
    refine em_gR (q_cod qk48 rfl) (by decide) (by decide) hf (fun r2 hf => ?_)
    refine ev_aload_n (q_cod qk48 rfl) (by decide) rfl ?_
    refine em_gI (q_cod qk48 rfl) (by decide) (by decide) hf (fun v3 hf => ?_)
    refine ev_iload_n (q_cod qk48 rfl) (by decide) rfl ?_
    refine em_wI (q_cod qk48 rfl) (by decide) hf (fun hf => ?_)
    refine ev_aload_n (q_cod qk48 rfl) (by decide) rfl ?_
    refine em_gR (q_cod qk48 rfl) (by decide) (by decide) hf (fun r4 hf => ?_)
    refine ev_aload_n (q_cod qk48 rfl) (by decide) rfl ?_
    refine em_gI (q_cod qk48 rfl) (by decide) (by decide) hf (fun v5 hf => ?_)
    refine ev_ic (v := 0) (q_cod qk48 rfl) (by decide) (by decide) ?_
    refine em_wI (q_cod qk48 rfl) (by decide) hf (fun hf => ?_)
    refine ev_aload_n (q_cod qk48 rfl) (by decide) rfl ?_
    refine em_gR (q_cod qk48 rfl) (by decide) (by decide) hf (fun r6 hf => ?_)
    refine ev_aload_n (q_cod qk48 rfl) (by decide) rfl ?_
    refine em_gI (q_cod qk48 rfl) (by decide) (by decide) hf (fun v7 hf => ?_)
    refine ev_aload_n (q_cod qk48 rfl) (by decide) rfl ?_
    refine em_gI (q_cod qk48 rfl) (by decide) (by decide) hf (fun v8 hf => ?_)
    refine em_wI (q_cod qk48 rfl) (by decide) hf (fun hf => ?_)
    refine ev_aload_n (q_cod qk48 rfl) (by decide) rfl ?_
    refine em_gR (q_cod qk48 rfl) (by decide) (by decide) hf (fun r9 hf => ?_)
    refine ev_aload_n (q_cod qk48 rfl) (by decide) rfl ?_
    refine em_gI (q_cod qk48 rfl) (by decide) (by decide) hf (fun v10 hf => ?_)
    refine ev_aload_n (q_cod qk48 rfl) (by decide) rfl ?_
    refine em_gI (q_cod qk48 rfl) (by decide) (by decide) hf (fun v11 hf => ?_)
    refine em_wI (q_cod qk48 rfl) (by decide) hf (fun hf => ?_)
    refine ev_aload_n (q_cod qk48 rfl) (by decide) rfl ?_
    refine ev_dup (q_cod qk48 rfl) (by decide) rfl ?_
    refine em_gI (q_cod qk48 rfl) (by decide) (by decide) hf (fun v12 hf => ?_)
    refine ev_ic (v := 1) (q_cod qk48 rfl) (by decide) (by decide) ?_
    refine ev_iadd (q_cod qk48 rfl) (by decide) ?_
    refine em_pI (q_cod qk48 rfl) (by decide) (by decide) (by decide) hf (fun hf => ?_)
    refine ev_aload_n (q_cod qk48 rfl) (by decide) rfl ?_
    refine ev_dup (q_cod qk48 rfl) (by decide) rfl ?_
    refine em_gI (q_cod qk48 rfl) (by decide) (by decide) hf (fun v13 hf => ?_)
    refine ev_ic (v := 1) (q_cod qk48 rfl) (by decide) (by decide) ?_
    refine ev_iadd (q_cod qk48 rfl) (by decide) ?_
    refine em_pI (q_cod qk48 rfl) (by decide) (by decide) (by decide) hf (fun hf => ?_)
    obtain rfl := m_R_inv hf
    obtain ⟨rfl, rfl⟩ := (show m_KU o hz ((), _) from hK)
    exact ev_ret (q_cod qk48 rfl) rfl
  · refine ev_aload_n (q_cod qk48 rfl) (by decide) rfl ?_
    refine ev_ic (v := 5) (q_cod qk48 rfl) (by decide) (by decide) ?_
    refine em_pI (q_cod qk48 rfl) (by decide) (by decide) (by decide) hf (fun hf => ?_)
    obtain rfl := m_R_inv hf
    obtain ⟨rfl, rfl⟩ := (show m_KU o hz ((), _) from hK)
    exact ev_ret (q_cod qk48 rfl) rfl
theorem f48_cl {l0 : Nat} {l1 : Int32} {h : q_H} {x : Unit × q_H} (hf : f48 l0 l1 h = some x) : q_Cl 48 [.ref l0, .int l1] h (.inl none) x.2 := q_Cl.of rfl (q_LvS rfl rfl) (f48_ok hf ⟨rfl, rfl⟩)
/-! SmithyBench$Machine.enter(IIII)V -/
theorem qk47 : q_cs.getD 47 [] = qc_47 := rfl
def f47 (l0 : Nat) (l1 : Int32) (l2 : Int32) (l3 : Int32) (l4 : Int32) : m_M Unit :=
  m_B (m_gI 5 l0 13) (fun v1 => if v1 < 20 then (m_B (m_gR 5 l0 5) (fun r2 => m_B (m_gI 5 l0 13) (fun v3 => m_B (m_wI r2 v3 l1) (fun _ => m_B (m_gR 5 l0 6) (fun r4 => m_B (m_gI 5 l0 13) (fun v5 => m_B (m_wI r4 v5 l2) (fun _ => m_B (m_gR 5 l0 7) (fun r6 => m_B (m_gI 5 l0 13) (fun v7 => m_B (m_wI r6 ((v7 * 62) + 1) l3) (fun _ => m_B (m_gR 5 l0 7) (fun r8 => m_B (m_gI 5 l0 13) (fun v9 => m_B (m_wI r8 (v9 * 62) l4) (fun _ => m_B (m_gI 5 l0 13) (fun v10 => m_B (m_pI 5 l0 13 (v10 + 1)) (fun _ => m_B (m_aK l0 5) (fun _ => m_B (f48 l0 0) (fun _ => m_R ()))))))))))))))))) else (m_B (m_pI 5 l0 16 5) (fun _ => m_R ())))
theorem f47_ok {l0 : Nat} {l1 : Int32} {l2 : Int32} {l3 : Int32} {l4 : Int32} {h : q_H} {o : q_O} {hz : q_H} {x : Unit × q_H} (hf : f47 l0 l1 l2 l3 l4 h = some x) (hK : (m_KU o hz) x) : q_Ev none 47 0 [(0, .ref l0), (1, .int l1), (2, .int l2), (3, .int l3), (4, .int l4)] [] h o hz := by
  unfold f47 at hf
  refine ev_aload_n (q_cod qk47 rfl) (by decide) rfl ?_
  refine em_gI (q_cod qk47 rfl) (by decide) (by decide) hf (fun v1 hf => ?_)
  refine ev_bi (v := 20) (q_cod qk47 rfl) (by decide) (by decide) ?_
  refine em_ic_lt (q_cod qk47 rfl) (by decide) hf (fun c13 hf => ?_) (fun c13 hf => ?_)
  · refine ev_aload_n (q_cod qk47 rfl) (by decide) rfl ?_
    refine em_gR (q_cod qk47 rfl) (by decide) (by decide) hf (fun r2 hf => ?_)
    refine ev_aload_n (q_cod qk47 rfl) (by decide) rfl ?_
    refine em_gI (q_cod qk47 rfl) (by decide) (by decide) hf (fun v3 hf => ?_)
    refine ev_iload_n (q_cod qk47 rfl) (by decide) rfl ?_
    refine em_wI (q_cod qk47 rfl) (by decide) hf (fun hf => ?_)
    refine ev_aload_n (q_cod qk47 rfl) (by decide) rfl ?_
    refine em_gR (q_cod qk47 rfl) (by decide) (by decide) hf (fun r4 hf => ?_)
    refine ev_aload_n (q_cod qk47 rfl) (by decide) rfl ?_
    refine em_gI (q_cod qk47 rfl) (by decide) (by decide) hf (fun v5 hf => ?_)
    refine ev_iload_n (q_cod qk47 rfl) (by decide) rfl ?_
    refine em_wI (q_cod qk47 rfl) (by decide) hf (fun hf => ?_)
    refine ev_aload_n (q_cod qk47 rfl) (by decide) rfl ?_
    refine em_gR (q_cod qk47 rfl) (by decide) (by decide) hf (fun r6 hf => ?_)
    refine ev_aload_n (q_cod qk47 rfl) (by decide) rfl ?_
    refine em_gI (q_cod qk47 rfl) (by decide) (by decide) hf (fun v7 hf => ?_)
    refine ev_bi (v := 62) (q_cod qk47 rfl) (by decide) (by decide) ?_
    refine ev_imul (q_cod qk47 rfl) (by decide) ?_
    refine ev_ic (v := 1) (q_cod qk47 rfl) (by decide) (by decide) ?_
    refine ev_iadd (q_cod qk47 rfl) (by decide) ?_
    refine ev_iload_n (q_cod qk47 rfl) (by decide) rfl ?_
    refine em_wI (q_cod qk47 rfl) (by decide) hf (fun hf => ?_)
    refine ev_aload_n (q_cod qk47 rfl) (by decide) rfl ?_
    refine em_gR (q_cod qk47 rfl) (by decide) (by decide) hf (fun r8 hf => ?_)
    refine ev_aload_n (q_cod qk47 rfl) (by decide) rfl ?_
    refine em_gI (q_cod qk47 rfl) (by decide) (by decide) hf (fun v9 hf => ?_)
    refine ev_bi (v := 62) (q_cod qk47 rfl) (by decide) (by decide) ?_
    refine ev_imul (q_cod qk47 rfl) (by decide) ?_
    refine ev_iload (q_cod qk47 rfl) (by decide) rfl ?_
    refine em_wI (q_cod qk47 rfl) (by decide) hf (fun hf => ?_)
    refine ev_aload_n (q_cod qk47 rfl) (by decide) rfl ?_
    refine ev_dup (q_cod qk47 rfl) (by decide) rfl ?_
    refine em_gI (q_cod qk47 rfl) (by decide) (by decide) hf (fun v10 hf => ?_)
    refine ev_ic (v := 1) (q_cod qk47 rfl) (by decide) (by decide) ?_
    refine ev_iadd (q_cod qk47 rfl) (by decide) ?_
    refine em_pI (q_cod qk47 rfl) (by decide) (by decide) (by decide) hf (fun hf => ?_)
    refine ev_aload_n (q_cod qk47 rfl) (by decide) rfl ?_
    refine ev_ic (v := 0) (q_cod qk47 rfl) (by decide) (by decide) ?_
    obtain ⟨g11, hf⟩ := m_aK_some hf
    refine em_call (v := (fun _ => none)) (q_cod qk47 rfl) rfl rfl (q_cokV rfl rfl (Or.inr g11)) rfl (fun x e => f48_cl e) hf (fun _ h hf => ?_)
    obtain rfl := m_R_inv hf
    obtain ⟨rfl, rfl⟩ := (show m_KU o hz ((), _) from hK)
    exact ev_ret (q_cod qk47 rfl) rfl
  · refine ev_aload_n (q_cod qk47 rfl) (by decide) rfl ?_
    refine ev_ic (v := 5) (q_cod qk47 rfl) (by decide) (by decide) ?_
    refine em_pI (q_cod qk47 rfl) (by decide) (by decide) (by decide) hf (fun hf => ?_)
    obtain rfl := m_R_inv hf
    obtain ⟨rfl, rfl⟩ := (show m_KU o hz ((), _) from hK)
    exact ev_ret (q_cod qk47 rfl) rfl
theorem f47_cl {l0 : Nat} {l1 : Int32} {l2 : Int32} {l3 : Int32} {l4 : Int32} {h : q_H} {x : Unit × q_H} (hf : f47 l0 l1 l2 l3 l4 h = some x) : q_Cl 47 [.ref l0, .int l1, .int l2, .int l3, .int l4] h (.inl none) x.2 := q_Cl.of rfl (q_LvS rfl rfl) (f47_ok hf ⟨rfl, rfl⟩)
/-! SmithyBench$Machine.finish(I)V -/
theorem qk49 : q_cs.getD 49 [] = qc_49 := rfl
def f49 (l0 : Nat) (l1 : Int32) : m_M Unit :=
  m_B (m_gI 5 l0 11) (fun v1 => m_B (m_pI 5 l0 11 (v1 - 1)) (fun _ => m_B (m_gR 5 l0 3) (fun r2 => m_B (m_gI 5 l0 11) (fun v3 => m_B (m_lI r2 v3) (fun v4 => m_B (m_pI 5 l0 12 v4) (fun _ => m_B (m_gR 5 l0 4) (fun r5 => m_B (m_gI 5 l0 12) (fun v6 => m_B (m_wI r5 v6 l1) (fun _ => m_B (m_gI 5 l0 12) (fun v7 => m_B (m_pI 5 l0 12 (v7 + 1)) (fun _ => m_R ())))))))))))
theorem f49_ok {l0 : Nat} {l1 : Int32} {h : q_H} {o : q_O} {hz : q_H} {x : Unit × q_H} (hf : f49 l0 l1 h = some x) (hK : (m_KU o hz) x) : q_Ev none 49 0 [(0, .ref l0), (1, .int l1)] [] h o hz := by
  unfold f49 at hf
  refine ev_aload_n (q_cod qk49 rfl) (by decide) rfl ?_
  refine ev_dup (q_cod qk49 rfl) (by decide) rfl ?_
  refine em_gI (q_cod qk49 rfl) (by decide) (by decide) hf (fun v1 hf => ?_)
  refine ev_ic (v := 1) (q_cod qk49 rfl) (by decide) (by decide) ?_
  refine ev_isub (q_cod qk49 rfl) (by decide) ?_
  refine em_pI (q_cod qk49 rfl) (by decide) (by decide) (by decide) hf (fun hf => ?_)
  refine ev_aload_n (q_cod qk49 rfl) (by decide) rfl ?_
  refine ev_aload_n (q_cod qk49 rfl) (by decide) rfl ?_
  refine em_gR (q_cod qk49 rfl) (by decide) (by decide) hf (fun r2 hf => ?_)
  refine ev_aload_n (q_cod qk49 rfl) (by decide) rfl ?_
  refine em_gI (q_cod qk49 rfl) (by decide) (by decide) hf (fun v3 hf => ?_)
  refine em_lI (q_cod qk49 rfl) (by decide) hf (fun v4 hf => ?_)
  refine em_pI (q_cod qk49 rfl) (by decide) (by decide) (by decide) hf (fun hf => ?_)
  refine ev_aload_n (q_cod qk49 rfl) (by decide) rfl ?_
  refine em_gR (q_cod qk49 rfl) (by decide) (by decide) hf (fun r5 hf => ?_)
  refine ev_aload_n (q_cod qk49 rfl) (by decide) rfl ?_
  refine em_gI (q_cod qk49 rfl) (by decide) (by decide) hf (fun v6 hf => ?_)
  refine ev_iload_n (q_cod qk49 rfl) (by decide) rfl ?_
  refine em_wI (q_cod qk49 rfl) (by decide) hf (fun hf => ?_)
  refine ev_aload_n (q_cod qk49 rfl) (by decide) rfl ?_
  refine ev_dup (q_cod qk49 rfl) (by decide) rfl ?_
  refine em_gI (q_cod qk49 rfl) (by decide) (by decide) hf (fun v7 hf => ?_)
  refine ev_ic (v := 1) (q_cod qk49 rfl) (by decide) (by decide) ?_
  refine ev_iadd (q_cod qk49 rfl) (by decide) ?_
  refine em_pI (q_cod qk49 rfl) (by decide) (by decide) (by decide) hf (fun hf => ?_)
  obtain rfl := m_R_inv hf
  obtain ⟨rfl, rfl⟩ := (show m_KU o hz ((), _) from hK)
  exact ev_ret (q_cod qk49 rfl) rfl
theorem f49_cl {l0 : Nat} {l1 : Int32} {h : q_H} {x : Unit × q_H} (hf : f49 l0 l1 h = some x) : q_Cl 49 [.ref l0, .int l1] h (.inl none) x.2 := q_Cl.of rfl (q_LvS rfl rfl) (f49_ok hf ⟨rfl, rfl⟩)
/-! SmithyBench$Machine.slot(I)I -/
theorem qk53 : q_cs.getD 53 [] = qc_53 := rfl
def f53 (l0 : Nat) (l1 : Int32) : m_M Int32 :=
  m_B (m_gI 5 l0 13) (fun v1 => m_R ((((v1 - 1) * 62) + l1) + 2))
theorem f53_ok {l0 : Nat} {l1 : Int32} {h : q_H} {o : q_O} {hz : q_H} {x : Int32 × q_H} (hf : f53 l0 l1 h = some x) (hK : (q_KI o hz) x) : q_Ev none 53 0 [(0, .ref l0), (1, .int l1)] [] h o hz := by
  unfold f53 at hf
  refine ev_aload_n (q_cod qk53 rfl) (by decide) rfl ?_
  refine em_gI (q_cod qk53 rfl) (by decide) (by decide) hf (fun v1 hf => ?_)
  refine ev_ic (v := 1) (q_cod qk53 rfl) (by decide) (by decide) ?_
  refine ev_isub (q_cod qk53 rfl) (by decide) ?_
  refine ev_bi (v := 62) (q_cod qk53 rfl) (by decide) (by decide) ?_
  refine ev_imul (q_cod qk53 rfl) (by decide) ?_
  refine ev_iload_n (q_cod qk53 rfl) (by decide) rfl ?_
  refine ev_iadd (q_cod qk53 rfl) (by decide) ?_
  refine ev_ic (v := 2) (q_cod qk53 rfl) (by decide) (by decide) ?_
  refine ev_iadd (q_cod qk53 rfl) (by decide) ?_
  obtain rfl := m_R_inv hf
  obtain ⟨rfl, rfl⟩ := (show q_KI o hz (((((v1 - 1) * 62) + l1) + 2), _) from hK)
  exact ev_ret (q_cod qk53 rfl) rfl
theorem f53_cl {l0 : Nat} {l1 : Int32} {h : q_H} {x : Int32 × q_H} (hf : f53 l0 l1 h = some x) : q_Cl 53 [.ref l0, .int l1] h (.inl (some (.int x.1))) x.2 := q_Cl.of rfl (q_LvS rfl rfl) (f53_ok hf ⟨rfl, rfl⟩)
/-! SmithyBench$Machine.read(LSmithyBench$Body;I)I -/
theorem qk51 : q_cs.getD 51 [] = qc_51 := rfl
def f51 (l0 : Nat) (l1 : Nat) (l2 : Int32) : m_M Int32 :=
  m_B (m_aK l1 0) (fun _ => m_B (f12 l1 l2) (fun v2 => if v2 = 0 then (m_B (m_gR 5 l0 9) (fun r3 => m_B (m_gR 5 l0 6) (fun r4 => m_B (m_gI 5 l0 13) (fun v5 => m_B (m_lI r4 (v5 - 1)) (fun v6 => m_B (m_gR 0 l1 1) (fun r7 => m_B (m_lI r7 l2) (fun v8 => m_B (m_lI r3 ((v6 * 16) + v8)) (fun v9 => m_R v9)))))))) else (m_B (m_gR 5 l0 7) (fun r10 => m_B (m_gR 0 l1 5) (fun r11 => m_B (m_lI r11 l2) (fun v12 => m_B (m_aK l0 5) (fun _ => m_B (f53 l0 v12) (fun v14 => m_B (m_lI r10 v14) (fun v15 => m_R v15)))))))))
theorem f51_ok {l0 : Nat} {l1 : Nat} {l2 : Int32} {h : q_H} {o : q_O} {hz : q_H} {x : Int32 × q_H} (hf : f51 l0 l1 l2 h = some x) (hK : (q_KI o hz) x) : q_Ev none 51 0 [(0, .ref l0), (1, .ref l1), (2, .int l2)] [] h o hz := by
  unfold f51 at hf
  refine ev_aload_n (q_cod qk51 rfl) (by decide) rfl ?_
  refine ev_iload_n (q_cod qk51 rfl) (by decide) rfl ?_
  obtain ⟨g1, hf⟩ := m_aK_some hf
  refine em_call (v := (fun u => some (.int u))) (q_cod qk51 rfl) rfl rfl (q_cokV rfl rfl (Or.inr g1)) rfl (fun x e => f12_cl e) hf (fun v2 h hf => ?_)
  refine em_if_eq (q_cod qk51 rfl) (by decide) hf (fun c16 hf => ?_) (fun c16 hf => ?_)
  · refine ev_aload_n (q_cod qk51 rfl) (by decide) rfl ?_
    refine em_gR (q_cod qk51 rfl) (by decide) (by decide) hf (fun r3 hf => ?_)
    refine ev_aload_n (q_cod qk51 rfl) (by decide) rfl ?_
    refine em_gR (q_cod qk51 rfl) (by decide) (by decide) hf (fun r4 hf => ?_)
    refine ev_aload_n (q_cod qk51 rfl) (by decide) rfl ?_
    refine em_gI (q_cod qk51 rfl) (by decide) (by decide) hf (fun v5 hf => ?_)
    refine ev_ic (v := 1) (q_cod qk51 rfl) (by decide) (by decide) ?_
    refine ev_isub (q_cod qk51 rfl) (by decide) ?_
    refine em_lI (q_cod qk51 rfl) (by decide) hf (fun v6 hf => ?_)
    refine ev_bi (v := 16) (q_cod qk51 rfl) (by decide) (by decide) ?_
    refine ev_imul (q_cod qk51 rfl) (by decide) ?_
    refine ev_aload_n (q_cod qk51 rfl) (by decide) rfl ?_
    refine em_gR (q_cod qk51 rfl) (by decide) (by decide) hf (fun r7 hf => ?_)
    refine ev_iload_n (q_cod qk51 rfl) (by decide) rfl ?_
    refine em_lI (q_cod qk51 rfl) (by decide) hf (fun v8 hf => ?_)
    refine ev_iadd (q_cod qk51 rfl) (by decide) ?_
    refine em_lI (q_cod qk51 rfl) (by decide) hf (fun v9 hf => ?_)
    obtain rfl := m_R_inv hf
    obtain ⟨rfl, rfl⟩ := (show q_KI o hz (v9, _) from hK)
    exact ev_ret (q_cod qk51 rfl) rfl
  · refine ev_aload_n (q_cod qk51 rfl) (by decide) rfl ?_
    refine em_gR (q_cod qk51 rfl) (by decide) (by decide) hf (fun r10 hf => ?_)
    refine ev_aload_n (q_cod qk51 rfl) (by decide) rfl ?_
    refine ev_aload_n (q_cod qk51 rfl) (by decide) rfl ?_
    refine em_gR (q_cod qk51 rfl) (by decide) (by decide) hf (fun r11 hf => ?_)
    refine ev_iload_n (q_cod qk51 rfl) (by decide) rfl ?_
    refine em_lI (q_cod qk51 rfl) (by decide) hf (fun v12 hf => ?_)
    obtain ⟨g13, hf⟩ := m_aK_some hf
    refine em_call (v := (fun u => some (.int u))) (q_cod qk51 rfl) rfl rfl (q_cokV rfl rfl (Or.inr g13)) rfl (fun x e => f53_cl e) hf (fun v14 h hf => ?_)
    refine em_lI (q_cod qk51 rfl) (by decide) hf (fun v15 hf => ?_)
    obtain rfl := m_R_inv hf
    obtain ⟨rfl, rfl⟩ := (show q_KI o hz (v15, _) from hK)
    exact ev_ret (q_cod qk51 rfl) rfl
theorem f51_cl {l0 : Nat} {l1 : Nat} {l2 : Int32} {h : q_H} {x : Int32 × q_H} (hf : f51 l0 l1 l2 h = some x) : q_Cl 51 [.ref l0, .ref l1, .int l2] h (.inl (some (.int x.1))) x.2 := q_Cl.of rfl (q_LvS rfl rfl) (f51_ok hf ⟨rfl, rfl⟩)
/-! SmithyBench$Machine.choose(LSmithyBench$Body;II)V -/
theorem qk54 : q_cs.getD 54 [] = qc_54 := rfl
def f54_48 (l0 : Nat) (l4 : Int32) : m_M Unit :=
  m_B (m_aK l0 5) (fun _ => m_B (f49 l0 l4) (fun _ => m_R ()))
theorem f54_48_ok {l0 : Nat} {l4 : Int32} {h : q_H} {o : q_O} {hz : q_H} {x : Unit × q_H} (hf : f54_48 l0 l4 h = some x) (hK : (m_KU o hz) x) : q_Ev none 54 48 [(0, .ref l0), (4, .int l4)] [] h o hz := by
  unfold f54_48 at hf
  refine ev_aload_n (q_cod qk54 rfl) (by decide) rfl ?_
  refine ev_iload (q_cod qk54 rfl) (by decide) rfl ?_
  obtain ⟨g1, hf⟩ := m_aK_some hf
  refine em_call (v := (fun _ => none)) (q_cod qk54 rfl) rfl rfl (q_cokV rfl rfl (Or.inr g1)) rfl (fun x e => f49_cl e) hf (fun _ h hf => ?_)
  obtain rfl := m_R_inv hf
  obtain ⟨rfl, rfl⟩ := (show m_KU o hz ((), _) from hK)
  exact ev_ret (q_cod qk54 rfl) rfl
def f54_105 (s0 : Nat) (s1 : Nat) (s2 : Int32) (s3 : Int32) : m_M Unit :=
  m_B (m_aK s1 0) (fun _ => m_B (f9 s1 s2 s3) (fun v2 => m_B (m_aK s0 5) (fun _ => m_B (f48 s0 v2) (fun _ => m_R ()))))
theorem f54_105_ok {s0 : Nat} {s1 : Nat} {s2 : Int32} {s3 : Int32} {h : q_H} {o : q_O} {hz : q_H} {x : Unit × q_H} (hf : f54_105 s0 s1 s2 s3 h = some x) (hK : (m_KU o hz) x) : q_Ev none 54 105 [] [.int s3, .int s2, .ref s1, .ref s0] h o hz := by
  unfold f54_105 at hf
  obtain ⟨g1, hf⟩ := m_aK_some hf
  refine em_call (v := (fun u => some (.int u))) (q_cod qk54 rfl) rfl rfl (q_cokV rfl rfl (Or.inr g1)) rfl (fun x e => f9_cl e) hf (fun v2 h hf => ?_)
  obtain ⟨g3, hf⟩ := m_aK_some hf
  refine em_call (v := (fun _ => none)) (q_cod qk54 rfl) rfl rfl (q_cokV rfl rfl (Or.inr g3)) rfl (fun x e => f48_cl e) hf (fun _ h hf => ?_)
  obtain rfl := m_R_inv hf
  obtain ⟨rfl, rfl⟩ := (show m_KU o hz ((), _) from hK)
  exact ev_ret (q_cod qk54 rfl) rfl
def f54_90 (l0 : Nat) (l1 : Nat) (l2 : Int32) (s0 : Int32) : m_M Unit :=
  if s0 = 0 then (f54_105 l0 l1 l2 1) else (f54_105 l0 l1 l2 2)
theorem f54_90_ok {l0 : Nat} {l1 : Nat} {l2 : Int32} {s0 : Int32} {h : q_H} {o : q_O} {hz : q_H} {x : Unit × q_H} (hf : f54_90 l0 l1 l2 s0 h = some x) (hK : (m_KU o hz) x) : q_Ev none 54 90 [(0, .ref l0), (1, .ref l1), (2, .int l2)] [.int s0] h o hz := by
  unfold f54_90 at hf
  refine ev_is2 (L' := [(0, .ref l0), (1, .ref l1), (2, .int l2), (6, .int s0)]) (q_cod qk54 rfl) (by decide) rfl ?_
  refine ev_aload_n (q_cod qk54 rfl) (by decide) rfl ?_
  refine ev_aload_n (q_cod qk54 rfl) (by decide) rfl ?_
  refine ev_iload_n (q_cod qk54 rfl) (by decide) rfl ?_
  refine ev_iload (q_cod qk54 rfl) (by decide) rfl ?_
  refine em_if_eq (q_cod qk54 rfl) (by decide) hf (fun c1 hf => ?_) (fun c1 hf => ?_)
  · refine ev_ic (v := 1) (q_cod qk54 rfl) (by decide) (by decide) ?_
    exact ev_weak (q_pk [] rfl) (f54_105_ok hf hK)
  · refine ev_ic (v := 2) (q_cod qk54 rfl) (by decide) (by decide) ?_
    refine ev_goto (q_cod qk54 rfl) (by decide) ?_
    exact ev_weak (q_pk [] rfl) (f54_105_ok hf hK)
def f54_89 (l0 : Nat) (l1 : Nat) (l2 : Int32) : m_M Unit :=
  f54_90 l0 l1 l2 0
theorem f54_89_ok {l0 : Nat} {l1 : Nat} {l2 : Int32} {h : q_H} {o : q_O} {hz : q_H} {x : Unit × q_H} (hf : f54_89 l0 l1 l2 h = some x) (hK : (m_KU o hz) x) : q_Ev none 54 89 [(0, .ref l0), (1, .ref l1), (2, .int l2)] [] h o hz := by
  unfold f54_89 at hf
  refine ev_ic (v := 0) (q_cod qk54 rfl) (by decide) (by decide) ?_
  exact (f54_90_ok hf hK)
def f54_73 (l0 : Nat) (l1 : Nat) (l2 : Int32) (l4 : Int32) (l5 : Int32) : m_M Unit :=
  if l5 = 10 then (if l4 = 0 then (f54_90 l0 l1 l2 1) else (f54_89 l0 l1 l2)) else (f54_89 l0 l1 l2)
theorem f54_73_ok {l0 : Nat} {l1 : Nat} {l2 : Int32} {l4 : Int32} {l5 : Int32} {h : q_H} {o : q_O} {hz : q_H} {x : Unit × q_H} (hf : f54_73 l0 l1 l2 l4 l5 h = some x) (hK : (m_KU o hz) x) : q_Ev none 54 73 [(0, .ref l0), (1, .ref l1), (2, .int l2), (4, .int l4), (5, .int l5)] [] h o hz := by
  unfold f54_73 at hf
  refine ev_iload (q_cod qk54 rfl) (by decide) rfl ?_
  refine ev_bi (v := 10) (q_cod qk54 rfl) (by decide) (by decide) ?_
  refine em_ic_ne (q_cod qk54 rfl) (by decide) hf (fun c2 hf => ?_) (fun c2 hf => ?_)
  · refine ev_iload (q_cod qk54 rfl) (by decide) rfl ?_
    refine em_if_ne (q_cod qk54 rfl) (by decide) hf (fun c1 hf => ?_) (fun c1 hf => ?_)
    · refine ev_ic (v := 1) (q_cod qk54 rfl) (by decide) (by decide) ?_
      refine ev_goto (q_cod qk54 rfl) (by decide) ?_
      exact ev_weak (q_pk [0, 1, 2] rfl) (f54_90_ok hf hK)
    · exact ev_weak (q_pk [0, 1, 2] rfl) (f54_89_ok hf hK)
  · exact ev_weak (q_pk [0, 1, 2] rfl) (f54_89_ok hf hK)
def f54 (l0 : Nat) (l1 : Nat) (l2 : Int32) (l3 : Int32) : m_M Unit :=
  if l3 = 0 then (m_B (m_aK l1 0) (fun _ => m_B (f9 l1 l2 0) (fun v2 => m_B (m_aK l0 5) (fun _ => m_B (f48 l0 v2) (fun _ => m_R ()))))) else (m_B (m_gR 5 l0 4) (fun r5 => m_B (m_gI 5 l0 12) (fun v6 => m_B (m_lI r5 (v6 - 1)) (fun v7 => m_B (m_gR 0 l1 0) (fun r8 => m_B (m_lI r8 l2) (fun v9 => if 1 < l3 then (f54_48 l0 v7) else (if v9 = 13 then (f54_48 l0 v7) else (if v9 = 5 then (m_B (m_gR 5 l0 7) (fun r10 => m_B (m_aK l0 5) (fun _ => m_B (f53 l0 l2) (fun v12 => m_B (m_wI r10 v12 v7) (fun _ => f54_73 l0 l1 l2 v7 v9))))) else (f54_73 l0 l1 l2 v7 v9)))))))))
theorem f54_ok {l0 : Nat} {l1 : Nat} {l2 : Int32} {l3 : Int32} {h : q_H} {o : q_O} {hz : q_H} {x : Unit × q_H} (hf : f54 l0 l1 l2 l3 h = some x) (hK : (m_KU o hz) x) : q_Ev none 54 0 [(0, .ref l0), (1, .ref l1), (2, .int l2), (3, .int l3)] [] h o hz := by
  unfold f54 at hf
  refine ev_iload_n (q_cod qk54 rfl) (by decide) rfl ?_
  refine em_if_ne (q_cod qk54 rfl) (by decide) hf (fun c16 hf => ?_) (fun c16 hf => ?_)
  · refine ev_aload_n (q_cod qk54 rfl) (by decide) rfl ?_
    refine ev_aload_n (q_cod qk54 rfl) (by decide) rfl ?_
    refine ev_iload_n (q_cod qk54 rfl) (by decide) rfl ?_
    refine ev_ic (v := 0) (q_cod qk54 rfl) (by decide) (by decide) ?_
    obtain ⟨g1, hf⟩ := m_aK_some hf
    refine em_call (v := (fun u => some (.int u))) (q_cod qk54 rfl) rfl rfl (q_cokV rfl rfl (Or.inr g1)) rfl (fun x e => f9_cl e) hf (fun v2 h hf => ?_)
    obtain ⟨g3, hf⟩ := m_aK_some hf
    refine em_call (v := (fun _ => none)) (q_cod qk54 rfl) rfl rfl (q_cokV rfl rfl (Or.inr g3)) rfl (fun x e => f48_cl e) hf (fun _ h hf => ?_)
    obtain rfl := m_R_inv hf
    obtain ⟨rfl, rfl⟩ := (show m_KU o hz ((), _) from hK)
    exact ev_ret (q_cod qk54 rfl) rfl
  · refine ev_aload_n (q_cod qk54 rfl) (by decide) rfl ?_
    refine em_gR (q_cod qk54 rfl) (by decide) (by decide) hf (fun r5 hf => ?_)
    refine ev_aload_n (q_cod qk54 rfl) (by decide) rfl ?_
    refine em_gI (q_cod qk54 rfl) (by decide) (by decide) hf (fun v6 hf => ?_)
    refine ev_ic (v := 1) (q_cod qk54 rfl) (by decide) (by decide) ?_
    refine ev_isub (q_cod qk54 rfl) (by decide) ?_
    refine em_lI (q_cod qk54 rfl) (by decide) hf (fun v7 hf => ?_)
    refine ev_is2 (L' := [(0, .ref l0), (1, .ref l1), (2, .int l2), (3, .int l3), (4, .int v7)]) (q_cod qk54 rfl) (by decide) rfl ?_
    refine ev_aload_n (q_cod qk54 rfl) (by decide) rfl ?_
    refine em_gR (q_cod qk54 rfl) (by decide) (by decide) hf (fun r8 hf => ?_)
    refine ev_iload_n (q_cod qk54 rfl) (by decide) rfl ?_
    refine em_lI (q_cod qk54 rfl) (by decide) hf (fun v9 hf => ?_)
    refine ev_is2 (L' := [(0, .ref l0), (1, .ref l1), (2, .int l2), (3, .int l3), (4, .int v7), (5, .int v9)]) (q_cod qk54 rfl) (by decide) rfl ?_
    refine ev_iload_n (q_cod qk54 rfl) (by decide) rfl ?_
    refine ev_ic (v := 1) (q_cod qk54 rfl) (by decide) (by decide) ?_
    refine em_ic_gt (q_cod qk54 rfl) (by decide) hf (fun c15 hf => ?_) (fun c15 hf => ?_)
    · exact ev_weak (q_pk [0, 4] rfl) (f54_48_ok hf hK)
    · refine ev_iload (q_cod qk54 rfl) (by decide) rfl ?_
      refine ev_bi (v := 13) (q_cod qk54 rfl) (by decide) (by decide) ?_
      refine em_ic_ne (q_cod qk54 rfl) (by decide) hf (fun c14 hf => ?_) (fun c14 hf => ?_)
      · exact ev_weak (q_pk [0, 4] rfl) (f54_48_ok hf hK)
      · refine ev_iload (q_cod qk54 rfl) (by decide) rfl ?_
        refine ev_ic (v := 5) (q_cod qk54 rfl) (by decide) (by decide) ?_
        refine em_ic_ne (q_cod qk54 rfl) (by decide) hf (fun c13 hf => ?_) (fun c13 hf => ?_)
        · refine ev_aload_n (q_cod qk54 rfl) (by decide) rfl ?_
          refine em_gR (q_cod qk54 rfl) (by decide) (by decide) hf (fun r10 hf => ?_)
          refine ev_aload_n (q_cod qk54 rfl) (by decide) rfl ?_
          refine ev_iload_n (q_cod qk54 rfl) (by decide) rfl ?_
          obtain ⟨g11, hf⟩ := m_aK_some hf
          refine em_call (v := (fun u => some (.int u))) (q_cod qk54 rfl) rfl rfl (q_cokV rfl rfl (Or.inr g11)) rfl (fun x e => f53_cl e) hf (fun v12 h hf => ?_)
          refine ev_iload (q_cod qk54 rfl) (by decide) rfl ?_
          refine em_wI (q_cod qk54 rfl) (by decide) hf (fun hf => ?_)
          exact ev_weak (q_pk [0, 1, 2, 4, 5] rfl) (f54_73_ok hf hK)
        · exact ev_weak (q_pk [0, 1, 2, 4, 5] rfl) (f54_73_ok hf hK)
theorem f54_cl {l0 : Nat} {l1 : Nat} {l2 : Int32} {l3 : Int32} {h : q_H} {x : Unit × q_H} (hf : f54 l0 l1 l2 l3 h = some x) : q_Cl 54 [.ref l0, .ref l1, .int l2, .int l3] h (.inl none) x.2 := q_Cl.of rfl (q_LvS rfl rfl) (f54_ok hf ⟨rfl, rfl⟩)
/-! SmithyBench$Machine.raiseUp(II)V -/
theorem qk58 : q_cs.getD 58 [] = qc_58 := rfl
def f58_64 (l0 : Nat) (l3 : Int32) (l4 : Nat) : m_M Unit :=
  m_B (m_gR 5 l0 2) (fun r1 => m_B (m_lI r1 l3) (fun v2 => m_B (m_pI 5 l0 13 v2) (fun _ => m_B (m_gR 5 l0 3) (fun r3 => m_B (m_lI r3 l3) (fun v4 => m_B (m_pI 5 l0 12 v4) (fun _ => m_B (m_gR 5 l0 1) (fun r5 => m_B (m_wI r5 l3 2) (fun _ => m_B (m_gR 5 l0 0) (fun r6 => m_B (m_lI r6 l3) (fun v7 => m_B (m_aK l4 0) (fun _ => m_B (f9 l4 v7 1) (fun v9 => m_B (m_aK l0 5) (fun _ => m_B (f48 l0 v9) (fun _ => m_R ()))))))))))))))
theorem f58_64_ok {l0 : Nat} {l3 : Int32} {l4 : Nat} {h : q_H} {o : q_O} {hz : q_H} {x : Unit × q_H} (hf : f58_64 l0 l3 l4 h = some x) (hK : (m_KU o hz) x) : q_Ev none 58 64 [(0, .ref l0), (3, .int l3), (4, .ref l4)] [] h o hz := by
  unfold f58_64 at hf
  refine ev_aload_n (q_cod qk58 rfl) (by decide) rfl ?_
  refine ev_aload_n (q_cod qk58 rfl) (by decide) rfl ?_
  refine em_gR (q_cod qk58 rfl) (by decide) (by decide) hf (fun r1 hf => ?_)
  refine ev_iload_n (q_cod qk58 rfl) (by decide) rfl ?_
  refine em_lI (q_cod qk58 rfl) (by decide) hf (fun v2 hf => ?_)
  refine em_pI (q_cod qk58 rfl) (by decide) (by decide) (by decide) hf (fun hf => ?_)
  refine ev_aload_n (q_cod qk58 rfl) (by decide) rfl ?_
  refine ev_aload_n (q_cod qk58 rfl) (by decide) rfl ?_
  refine em_gR (q_cod qk58 rfl) (by decide) (by decide) hf (fun r3 hf => ?_)
  refine ev_iload_n (q_cod qk58 rfl) (by decide) rfl ?_
  refine em_lI (q_cod qk58 rfl) (by decide) hf (fun v4 hf => ?_)
  refine em_pI (q_cod qk58 rfl) (by decide) (by decide) (by decide) hf (fun hf => ?_)
  refine ev_aload_n (q_cod qk58 rfl) (by decide) rfl ?_
  refine em_gR (q_cod qk58 rfl) (by decide) (by decide) hf (fun r5 hf => ?_)
  refine ev_iload_n (q_cod qk58 rfl) (by decide) rfl ?_
  refine ev_ic (v := 2) (q_cod qk58 rfl) (by decide) (by decide) ?_
  refine em_wI (q_cod qk58 rfl) (by decide) hf (fun hf => ?_)
  refine ev_aload_n (q_cod qk58 rfl) (by decide) rfl ?_
  refine ev_aload (q_cod qk58 rfl) (by decide) rfl ?_
  refine ev_aload_n (q_cod qk58 rfl) (by decide) rfl ?_
  refine em_gR (q_cod qk58 rfl) (by decide) (by decide) hf (fun r6 hf => ?_)
  refine ev_iload_n (q_cod qk58 rfl) (by decide) rfl ?_
  refine em_lI (q_cod qk58 rfl) (by decide) hf (fun v7 hf => ?_)
  refine ev_ic (v := 1) (q_cod qk58 rfl) (by decide) (by decide) ?_
  obtain ⟨g8, hf⟩ := m_aK_some hf
  refine em_call (v := (fun u => some (.int u))) (q_cod qk58 rfl) rfl rfl (q_cokV rfl rfl (Or.inr g8)) rfl (fun x e => f9_cl e) hf (fun v9 h hf => ?_)
  obtain ⟨g10, hf⟩ := m_aK_some hf
  refine em_call (v := (fun _ => none)) (q_cod qk58 rfl) rfl rfl (q_cokV rfl rfl (Or.inr g10)) rfl (fun x e => f48_cl e) hf (fun _ h hf => ?_)
  obtain rfl := m_R_inv hf
  obtain ⟨rfl, rfl⟩ := (show m_KU o hz ((), _) from hK)
  exact ev_ret (q_cod qk58 rfl) rfl
def f58_108 (l0 : Nat) (l1 : Int32) (l2 : Int32) : m_M ((Nat × Int32 × Int32) ⊕ Unit) :=
  m_B (m_gI 5 l0 11) (fun v1 => m_B (m_pI 5 l0 11 (v1 - 1)) (fun _ => m_R (.inl (l0, l1, l2))))
theorem f58_108_ok {l0 : Nat} {l1 : Int32} {l2 : Int32} {h : q_H} {o : q_O} {hz : q_H} {x : ((Nat × Int32 × Int32) ⊕ Unit) × q_H} (hf : f58_108 l0 l1 l2 h = some x) (hK : (m_yK (fun (s : Nat × Int32 × Int32) (h : q_H) => q_Ev none 58 0 [(0, .ref (s.1)), (1, .int (s.2.1)), (2, .int (s.2.2))] [] h o hz) (m_KU o hz)) x) : q_Ev none 58 108 [(0, .ref l0), (1, .int l1), (2, .int l2)] [] h o hz := by
  unfold f58_108 at hf
  refine ev_aload_n (q_cod qk58 rfl) (by decide) rfl ?_
  refine ev_dup (q_cod qk58 rfl) (by decide) rfl ?_
  refine em_gI (q_cod qk58 rfl) (by decide) (by decide) hf (fun v1 hf => ?_)
  refine ev_ic (v := 1) (q_cod qk58 rfl) (by decide) (by decide) ?_
  refine ev_isub (q_cod qk58 rfl) (by decide) ?_
  refine em_pI (q_cod qk58 rfl) (by decide) (by decide) (by decide) hf (fun hf => ?_)
  refine ev_goto (q_cod qk58 rfl) (by decide) ?_
  obtain rfl := m_R_inv hf
  exact (show q_Ev none 58 0 [(0, .ref l0), (1, .int l1), (2, .int l2)] [] _ o hz from hK)
def f58_121 (l0 : Nat) (l1 : Int32) (l2 : Int32) : m_M Unit :=
  m_B (m_pI 5 l0 16 l1) (fun _ => m_B (m_pI 5 l0 17 l2) (fun _ => m_R ()))
theorem f58_121_ok {l0 : Nat} {l1 : Int32} {l2 : Int32} {h : q_H} {o : q_O} {hz : q_H} {x : Unit × q_H} (hf : f58_121 l0 l1 l2 h = some x) (hK : (m_KU o hz) x) : q_Ev none 58 121 [(0, .ref l0), (1, .int l1), (2, .int l2)] [] h o hz := by
  unfold f58_121 at hf
  refine ev_aload_n (q_cod qk58 rfl) (by decide) rfl ?_
  refine ev_iload_n (q_cod qk58 rfl) (by decide) rfl ?_
  refine em_pI (q_cod qk58 rfl) (by decide) (by decide) (by decide) hf (fun hf => ?_)
  refine ev_aload_n (q_cod qk58 rfl) (by decide) rfl ?_
  refine ev_iload_n (q_cod qk58 rfl) (by decide) rfl ?_
  refine em_pI (q_cod qk58 rfl) (by decide) (by decide) (by decide) hf (fun hf => ?_)
  obtain rfl := m_R_inv hf
  obtain ⟨rfl, rfl⟩ := (show m_KU o hz ((), _) from hK)
  exact ev_ret (q_cod qk58 rfl) rfl
def f58b (l0 : Nat) (l1 : Int32) (l2 : Int32) : m_M ((Nat × Int32 × Int32) ⊕ Unit) :=
  m_B (m_gI 5 l0 11) (fun v1 => if 0 < v1 then (m_B (m_gI 5 l0 11) (fun v2 => m_B (m_gR 5 l0 10) (fun r3 => m_B (m_gR 7 r3 9) (fun r4 => m_B (m_gR 5 l0 5) (fun r5 => m_B (m_gR 5 l0 2) (fun r6 => m_B (m_lI r6 (v2 - 1)) (fun v7 => m_B (m_lI r5 (v7 - 1)) (fun v8 => m_B (m_lR r4 v8) (fun r9 => m_B (m_gR 0 r9 0) (fun r10 => m_B (m_gR 5 l0 0) (fun r11 => m_B (m_lI r11 (v2 - 1)) (fun v12 => m_B (m_lI r10 v12) (fun v13 => if v13 = 13 then (m_B (m_gR 5 l0 1) (fun r14 => m_B (m_lI r14 (v2 - 1)) (fun v15 => if v15 = 1 then (m_B (f58_64 l0 (v2 - 1) r9) (fun r => m_R (.inr r))) else (f58_108 l0 l1 l2)))) else (f58_108 l0 l1 l2)))))))))))))) else (m_B (f58_121 l0 l1 l2) (fun r => m_R (.inr r))))
theorem f58b_ok {l0 : Nat} {l1 : Int32} {l2 : Int32} {h : q_H} {o : q_O} {hz : q_H} {x : ((Nat × Int32 × Int32) ⊕ Unit) × q_H} (hf : f58b l0 l1 l2 h = some x) (hK : (m_yK (fun (s : Nat × Int32 × Int32) (h : q_H) => q_Ev none 58 0 [(0, .ref (s.1)), (1, .int (s.2.1)), (2, .int (s.2.2))] [] h o hz) (m_KU o hz)) x) : q_Ev none 58 0 [(0, .ref l0), (1, .int l1), (2, .int l2)] [] h o hz := by
  unfold f58b at hf
  refine ev_aload_n (q_cod qk58 rfl) (by decide) rfl ?_
  refine em_gI (q_cod qk58 rfl) (by decide) (by decide) hf (fun v1 hf => ?_)
  refine em_if_le (q_cod qk58 rfl) (by decide) hf (fun c18 hf => ?_) (fun c18 hf => ?_)
  · refine ev_aload_n (q_cod qk58 rfl) (by decide) rfl ?_
    refine em_gI (q_cod qk58 rfl) (by decide) (by decide) hf (fun v2 hf => ?_)
    refine ev_ic (v := 1) (q_cod qk58 rfl) (by decide) (by decide) ?_
    refine ev_isub (q_cod qk58 rfl) (by decide) ?_
    refine ev_is1 (L' := [(0, .ref l0), (1, .int l1), (2, .int l2), (3, .int (v2 - 1))]) (q_cod qk58 rfl) (by decide) rfl ?_
    refine ev_aload_n (q_cod qk58 rfl) (by decide) rfl ?_
    refine em_gR (q_cod qk58 rfl) (by decide) (by decide) hf (fun r3 hf => ?_)
    refine em_gR (q_cod qk58 rfl) (by decide) (by decide) hf (fun r4 hf => ?_)
    refine ev_aload_n (q_cod qk58 rfl) (by decide) rfl ?_
    refine em_gR (q_cod qk58 rfl) (by decide) (by decide) hf (fun r5 hf => ?_)
    refine ev_aload_n (q_cod qk58 rfl) (by decide) rfl ?_
    refine em_gR (q_cod qk58 rfl) (by decide) (by decide) hf (fun r6 hf => ?_)
    refine ev_iload_n (q_cod qk58 rfl) (by decide) rfl ?_
    refine em_lI (q_cod qk58 rfl) (by decide) hf (fun v7 hf => ?_)
    refine ev_ic (v := 1) (q_cod qk58 rfl) (by decide) (by decide) ?_
    refine ev_isub (q_cod qk58 rfl) (by decide) ?_
    refine em_lI (q_cod qk58 rfl) (by decide) hf (fun v8 hf => ?_)
    refine em_lR (q_cod qk58 rfl) (by decide) hf (fun r9 hf => ?_)
    refine ev_as2 (L' := [(0, .ref l0), (1, .int l1), (2, .int l2), (3, .int (v2 - 1)), (4, .ref r9)]) (q_cod qk58 rfl) (by decide) rfl ?_
    refine ev_aload (q_cod qk58 rfl) (by decide) rfl ?_
    refine em_gR (q_cod qk58 rfl) (by decide) (by decide) hf (fun r10 hf => ?_)
    refine ev_aload_n (q_cod qk58 rfl) (by decide) rfl ?_
    refine em_gR (q_cod qk58 rfl) (by decide) (by decide) hf (fun r11 hf => ?_)
    refine ev_iload_n (q_cod qk58 rfl) (by decide) rfl ?_
    refine em_lI (q_cod qk58 rfl) (by decide) hf (fun v12 hf => ?_)
    refine em_lI (q_cod qk58 rfl) (by decide) hf (fun v13 hf => ?_)
    refine ev_bi (v := 13) (q_cod qk58 rfl) (by decide) (by decide) ?_
    refine em_ic_ne (q_cod qk58 rfl) (by decide) hf (fun c17 hf => ?_) (fun c17 hf => ?_)
    · refine ev_aload_n (q_cod qk58 rfl) (by decide) rfl ?_
      refine em_gR (q_cod qk58 rfl) (by decide) (by decide) hf (fun r14 hf => ?_)
      refine ev_iload_n (q_cod qk58 rfl) (by decide) rfl ?_
      refine em_lI (q_cod qk58 rfl) (by decide) hf (fun v15 hf => ?_)
      refine ev_ic (v := 1) (q_cod qk58 rfl) (by decide) (by decide) ?_
      refine em_ic_ne (q_cod qk58 rfl) (by decide) hf (fun c16 hf => ?_) (fun c16 hf => ?_)
      · obtain ⟨y0, hf0, hx⟩ := m_inr_some hf
        subst hx
        exact ev_weak (q_pk [0, 3, 4] rfl) (f58_64_ok hf0 hK)
      · exact ev_weak (q_pk [0, 1, 2] rfl) (f58_108_ok hf hK)
    · exact ev_weak (q_pk [0, 1, 2] rfl) (f58_108_ok hf hK)
  · obtain ⟨y0, hf0, hx⟩ := m_inr_some hf
    subst hx
    exact (f58_121_ok hf0 hK)
def f58 (l0 : Nat) (l1 : Int32) (l2 : Int32) : m_M Unit := m_W (fun s => f58b (s.1) (s.2.1) (s.2.2)) 1000000 (l0, l1, l2)
theorem f58_ok {l0 : Nat} {l1 : Int32} {l2 : Int32} {h : q_H} {o : q_O} {hz : q_H} {x : Unit × q_H} (hf : f58 l0 l1 l2 h = some x) (hK : (m_KU o hz) x) : q_Ev none 58 0 [(0, .ref l0), (1, .int l1), (2, .int l2)] [] h o hz :=
  m_W_ok (P := (fun (s : Nat × Int32 × Int32) (h : q_H) => q_Ev none 58 0 [(0, .ref (s.1)), (1, .int (s.2.1)), (2, .int (s.2.2))] [] h o hz)) (K := (m_KU o hz)) (fun s h x h1 h2 => f58b_ok h1 h2) _ (l0, l1, l2) _ _ hf hK
theorem f58_cl {l0 : Nat} {l1 : Int32} {l2 : Int32} {h : q_H} {x : Unit × q_H} (hf : f58 l0 l1 l2 h = some x) : q_Cl 58 [.ref l0, .int l1, .int l2] h (.inl none) x.2 := q_Cl.of rfl (q_LvS rfl rfl) (f58_ok hf ⟨rfl, rfl⟩)
/-! SmithyBench$Machine.write(LSmithyBench$Body;II)V -/
theorem qk52 : q_cs.getD 52 [] = qc_52 := rfl
def f52_54  : m_M Unit :=
  m_R ()
theorem f52_54_ok  {h : q_H} {o : q_O} {hz : q_H} {x : Unit × q_H} (hf : f52_54 h = some x) (hK : (m_KU o hz) x) : q_Ev none 52 54 [] [] h o hz := by
  unfold f52_54 at hf
  obtain rfl := m_R_inv hf
  obtain ⟨rfl, rfl⟩ := (show m_KU o hz ((), _) from hK)
  exact ev_ret (q_cod qk52 rfl) rfl
def f52 (l0 : Nat) (l1 : Nat) (l2 : Int32) (l3 : Int32) : m_M Unit :=
  m_B (m_aK l1 0) (fun _ => m_B (f12 l1 l2) (fun v2 => if v2 = 0 then (m_B (m_gR 5 l0 9) (fun r3 => m_B (m_gR 5 l0 6) (fun r4 => m_B (m_gI 5 l0 13) (fun v5 => m_B (m_lI r4 (v5 - 1)) (fun v6 => m_B (m_gR 0 l1 1) (fun r7 => m_B (m_lI r7 l2) (fun v8 => m_B (m_wI r3 ((v6 * 16) + v8) l3) (fun _ => f52_54)))))))) else (m_B (m_gR 5 l0 7) (fun r9 => m_B (m_gR 0 l1 5) (fun r10 => m_B (m_lI r10 l2) (fun v11 => m_B (m_aK l0 5) (fun _ => m_B (f53 l0 v11) (fun v13 => m_B (m_wI r9 v13 l3) (fun _ => f52_54)))))))))
theorem f52_ok {l0 : Nat} {l1 : Nat} {l2 : Int32} {l3 : Int32} {h : q_H} {o : q_O} {hz : q_H} {x : Unit × q_H} (hf : f52 l0 l1 l2 l3 h = some x) (hK : (m_KU o hz) x) : q_Ev none 52 0 [(0, .ref l0), (1, .ref l1), (2, .int l2), (3, .int l3)] [] h o hz := by
  unfold f52 at hf
  refine ev_aload_n (q_cod qk52 rfl) (by decide) rfl ?_
  refine ev_iload_n (q_cod qk52 rfl) (by decide) rfl ?_
  obtain ⟨g1, hf⟩ := m_aK_some hf
  refine em_call (v := (fun u => some (.int u))) (q_cod qk52 rfl) rfl rfl (q_cokV rfl rfl (Or.inr g1)) rfl (fun x e => f12_cl e) hf (fun v2 h hf => ?_)
  refine em_if_eq (q_cod qk52 rfl) (by decide) hf (fun c14 hf => ?_) (fun c14 hf => ?_)
  · refine ev_aload_n (q_cod qk52 rfl) (by decide) rfl ?_
    refine em_gR (q_cod qk52 rfl) (by decide) (by decide) hf (fun r3 hf => ?_)
    refine ev_aload_n (q_cod qk52 rfl) (by decide) rfl ?_
    refine em_gR (q_cod qk52 rfl) (by decide) (by decide) hf (fun r4 hf => ?_)
    refine ev_aload_n (q_cod qk52 rfl) (by decide) rfl ?_
    refine em_gI (q_cod qk52 rfl) (by decide) (by decide) hf (fun v5 hf => ?_)
    refine ev_ic (v := 1) (q_cod qk52 rfl) (by decide) (by decide) ?_
    refine ev_isub (q_cod qk52 rfl) (by decide) ?_
    refine em_lI (q_cod qk52 rfl) (by decide) hf (fun v6 hf => ?_)
    refine ev_bi (v := 16) (q_cod qk52 rfl) (by decide) (by decide) ?_
    refine ev_imul (q_cod qk52 rfl) (by decide) ?_
    refine ev_aload_n (q_cod qk52 rfl) (by decide) rfl ?_
    refine em_gR (q_cod qk52 rfl) (by decide) (by decide) hf (fun r7 hf => ?_)
    refine ev_iload_n (q_cod qk52 rfl) (by decide) rfl ?_
    refine em_lI (q_cod qk52 rfl) (by decide) hf (fun v8 hf => ?_)
    refine ev_iadd (q_cod qk52 rfl) (by decide) ?_
    refine ev_iload_n (q_cod qk52 rfl) (by decide) rfl ?_
    refine em_wI (q_cod qk52 rfl) (by decide) hf (fun hf => ?_)
    exact ev_weak (q_pk [] rfl) (f52_54_ok hf hK)
  · refine ev_aload_n (q_cod qk52 rfl) (by decide) rfl ?_
    refine em_gR (q_cod qk52 rfl) (by decide) (by decide) hf (fun r9 hf => ?_)
    refine ev_aload_n (q_cod qk52 rfl) (by decide) rfl ?_
    refine ev_aload_n (q_cod qk52 rfl) (by decide) rfl ?_
    refine em_gR (q_cod qk52 rfl) (by decide) (by decide) hf (fun r10 hf => ?_)
    refine ev_iload_n (q_cod qk52 rfl) (by decide) rfl ?_
    refine em_lI (q_cod qk52 rfl) (by decide) hf (fun v11 hf => ?_)
    obtain ⟨g12, hf⟩ := m_aK_some hf
    refine em_call (v := (fun u => some (.int u))) (q_cod qk52 rfl) rfl rfl (q_cokV rfl rfl (Or.inr g12)) rfl (fun x e => f53_cl e) hf (fun v13 h hf => ?_)
    refine ev_iload_n (q_cod qk52 rfl) (by decide) rfl ?_
    refine em_wI (q_cod qk52 rfl) (by decide) hf (fun hf => ?_)
    refine ev_goto (q_cod qk52 rfl) (by decide) ?_
    exact ev_weak (q_pk [] rfl) (f52_54_ok hf hK)
theorem f52_cl {l0 : Nat} {l1 : Nat} {l2 : Int32} {l3 : Int32} {h : q_H} {x : Unit × q_H} (hf : f52 l0 l1 l2 l3 h = some x) : q_Cl 52 [.ref l0, .ref l1, .int l2, .int l3] h (.inl none) x.2 := q_Cl.of rfl (q_LvS rfl rfl) (f52_ok hf ⟨rfl, rfl⟩)
/-! SmithyBench$Machine.combine(III)I -/
theorem qk56 : q_cs.getD 56 [] = qc_56 := rfl
def f56_50 (s0 : Int32) : m_M Int32 :=
  m_R s0
theorem f56_50_ok {s0 : Int32} {h : q_H} {o : q_O} {hz : q_H} {x : Int32 × q_H} (hf : f56_50 s0 h = some x) (hK : (q_KI o hz) x) : q_Ev none 56 50 [] [.int s0] h o hz := by
  unfold f56_50 at hf
  obtain rfl := m_R_inv hf
  obtain ⟨rfl, rfl⟩ := (show q_KI o hz (s0, _) from hK)
  exact ev_ret (q_cod qk56 rfl) rfl
def f56 (l0 : Int32) (l1 : Int32) (l2 : Int32) : m_M Int32 :=
  if (l0).toInt = 0 then (m_R (l1 + l2)) else (if (l0).toInt = 1 then (m_R (l1 - l2)) else (if (l0).toInt = 2 then (m_R (l1 * l2)) else (if l1 < l2 then (f56_50 1) else (f56_50 0))))
theorem f56_ok {l0 : Int32} {l1 : Int32} {l2 : Int32} {h : q_H} {o : q_O} {hz : q_H} {x : Int32 × q_H} (hf : f56 l0 l1 l2 h = some x) (hK : (q_KI o hz) x) : q_Ev none 56 0 [(0, .int l0), (1, .int l1), (2, .int l2)] [] h o hz := by
  unfold f56 at hf
  refine ev_iload_n (q_cod qk56 rfl) (by decide) rfl ?_
  rcases m_iteM hf with ⟨c1, hf⟩ | ⟨c1, hf⟩
  · refine ev_tsw (q_cod qk56 rfl) (by decide) (t := 28) (by rw [c1]; rfl) ?_
    refine ev_iload_n (q_cod qk56 rfl) (by decide) rfl ?_
    refine ev_iload_n (q_cod qk56 rfl) (by decide) rfl ?_
    refine ev_iadd (q_cod qk56 rfl) (by decide) ?_
    obtain rfl := m_R_inv hf
    obtain ⟨rfl, rfl⟩ := (show q_KI o hz ((l1 + l2), _) from hK)
    exact ev_ret (q_cod qk56 rfl) rfl
  rcases m_iteM hf with ⟨c2, hf⟩ | ⟨c2, hf⟩
  · refine ev_tsw (q_cod qk56 rfl) (by decide) (t := 32) (by rw [c2]; rfl) ?_
    refine ev_iload_n (q_cod qk56 rfl) (by decide) rfl ?_
    refine ev_iload_n (q_cod qk56 rfl) (by decide) rfl ?_
    refine ev_isub (q_cod qk56 rfl) (by decide) ?_
    obtain rfl := m_R_inv hf
    obtain ⟨rfl, rfl⟩ := (show q_KI o hz ((l1 - l2), _) from hK)
    exact ev_ret (q_cod qk56 rfl) rfl
  rcases m_iteM hf with ⟨c3, hf⟩ | ⟨c3, hf⟩
  · refine ev_tsw (q_cod qk56 rfl) (by decide) (t := 36) (by rw [c3]; rfl) ?_
    refine ev_iload_n (q_cod qk56 rfl) (by decide) rfl ?_
    refine ev_iload_n (q_cod qk56 rfl) (by decide) rfl ?_
    refine ev_imul (q_cod qk56 rfl) (by decide) ?_
    obtain rfl := m_R_inv hf
    obtain ⟨rfl, rfl⟩ := (show q_KI o hz ((l1 * l2), _) from hK)
    exact ev_ret (q_cod qk56 rfl) rfl
  refine ev_tsw (q_cod qk56 rfl) (by decide) (t := 40) (by rw [if_pos (by omega)]; rfl) ?_
  refine ev_iload_n (q_cod qk56 rfl) (by decide) rfl ?_
  refine ev_iload_n (q_cod qk56 rfl) (by decide) rfl ?_
  refine em_ic_ge (q_cod qk56 rfl) (by decide) hf (fun c4 hf => ?_) (fun c4 hf => ?_)
  · refine ev_ic (v := 1) (q_cod qk56 rfl) (by decide) (by decide) ?_
    refine ev_goto (q_cod qk56 rfl) (by decide) ?_
    exact ev_weak (q_pk [] rfl) (f56_50_ok hf hK)
  · refine ev_ic (v := 0) (q_cod qk56 rfl) (by decide) (by decide) ?_
    exact ev_weak (q_pk [] rfl) (f56_50_ok hf hK)
theorem f56_cl {l0 : Int32} {l1 : Int32} {l2 : Int32} {h : q_H} {x : Int32 × q_H} (hf : f56 l0 l1 l2 h = some x) : q_Cl 56 [.int l0, .int l1, .int l2] h (.inl (some (.int x.1))) x.2 := q_Cl.of rfl (q_LvS rfl rfl) (f56_ok hf ⟨rfl, rfl⟩)
/-! SmithyBench$Machine.dispatch(LSmithyBench$Body;II)V -/
theorem qk57 : q_cs.getD 57 [] = qc_57 := rfl
def f57_82 (s0 : Nat) (s1 : Int32) (s2 : Int32) (s3 : Int32) (s4 : Int32) : m_M Unit :=
  m_B (m_aK s0 5) (fun _ => m_B (f47 s0 s1 s2 s3 s4) (fun _ => m_R ()))
theorem f57_82_ok {s0 : Nat} {s1 : Int32} {s2 : Int32} {s3 : Int32} {s4 : Int32} {h : q_H} {o : q_O} {hz : q_H} {x : Unit × q_H} (hf : f57_82 s0 s1 s2 s3 s4 h = some x) (hK : (m_KU o hz) x) : q_Ev none 57 82 [] [.int s4, .int s3, .int s2, .int s1, .ref s0] h o hz := by
  unfold f57_82 at hf
  obtain ⟨g1, hf⟩ := m_aK_some hf
  refine em_call (v := (fun _ => none)) (q_cod qk57 rfl) rfl rfl (q_cokV rfl rfl (Or.inr g1)) rfl (fun x e => f47_cl e) hf (fun _ h hf => ?_)
  obtain rfl := m_R_inv hf
  obtain ⟨rfl, rfl⟩ := (show m_KU o hz ((), _) from hK)
  exact ev_ret (q_cod qk57 rfl) rfl
def f57_64 (l0 : Nat) (l3 : Int32) (l4 : Int32) (s0 : Nat) (s1 : Int32) (s2 : Int32) (s3 : Int32) : m_M Unit :=
  if 1 < l4 then (m_B (m_gR 5 l0 4) (fun r1 => m_B (m_lI r1 (l3 + 2)) (fun v2 => f57_82 s0 s1 s2 s3 v2))) else (f57_82 s0 s1 s2 s3 0)
theorem f57_64_ok {l0 : Nat} {l3 : Int32} {l4 : Int32} {s0 : Nat} {s1 : Int32} {s2 : Int32} {s3 : Int32} {h : q_H} {o : q_O} {hz : q_H} {x : Unit × q_H} (hf : f57_64 l0 l3 l4 s0 s1 s2 s3 h = some x) (hK : (m_KU o hz) x) : q_Ev none 57 64 [(0, .ref l0), (3, .int l3), (4, .int l4)] [.int s3, .int s2, .int s1, .ref s0] h o hz := by
  unfold f57_64 at hf
  refine ev_iload (q_cod qk57 rfl) (by decide) rfl ?_
  refine ev_ic (v := 1) (q_cod qk57 rfl) (by decide) (by decide) ?_
  refine em_ic_le (q_cod qk57 rfl) (by decide) hf (fun c3 hf => ?_) (fun c3 hf => ?_)
  · refine ev_aload_n (q_cod qk57 rfl) (by decide) rfl ?_
    refine em_gR (q_cod qk57 rfl) (by decide) (by decide) hf (fun r1 hf => ?_)
    refine ev_iload_n (q_cod qk57 rfl) (by decide) rfl ?_
    refine ev_ic (v := 2) (q_cod qk57 rfl) (by decide) (by decide) ?_
    refine ev_iadd (q_cod qk57 rfl) (by decide) ?_
    refine em_lI (q_cod qk57 rfl) (by decide) hf (fun v2 hf => ?_)
    refine ev_goto (q_cod qk57 rfl) (by decide) ?_
    exact ev_weak (q_pk [] rfl) (f57_82_ok hf hK)
  · refine ev_ic (v := 0) (q_cod qk57 rfl) (by decide) (by decide) ?_
    exact ev_weak (q_pk [] rfl) (f57_82_ok hf hK)
def f57 (l0 : Nat) (l1 : Nat) (l2 : Int32) (l3 : Int32) : m_M Unit :=
  m_B (m_gR 0 l1 2) (fun r1 => m_B (m_lI r1 l2) (fun v2 => m_B (m_gR 5 l0 4) (fun r3 => m_B (m_lI r3 l3) (fun v4 => m_B (m_gR 5 l0 10) (fun r5 => m_B (m_gR 5 l0 8) (fun r6 => m_B (m_lI r6 v4) (fun v7 => m_B (m_gR 0 l1 1) (fun r8 => m_B (m_lI r8 l2) (fun v9 => m_B (m_aK r5 7) (fun _ => m_B (f90 r5 v7 v9 (v2 - 1)) (fun v11 => if 0 < (v2 - 1) then (m_B (m_gR 5 l0 4) (fun r12 => m_B (m_lI r12 (l3 + 1)) (fun v13 => f57_64 l0 l3 (v2 - 1) l0 v11 v4 v13))) else (f57_64 l0 l3 (v2 - 1) l0 v11 v4 0))))))))))))
theorem f57_ok {l0 : Nat} {l1 : Nat} {l2 : Int32} {l3 : Int32} {h : q_H} {o : q_O} {hz : q_H} {x : Unit × q_H} (hf : f57 l0 l1 l2 l3 h = some x) (hK : (m_KU o hz) x) : q_Ev none 57 0 [(0, .ref l0), (1, .ref l1), (2, .int l2), (3, .int l3)] [] h o hz := by
  unfold f57 at hf
  refine ev_aload_n (q_cod qk57 rfl) (by decide) rfl ?_
  refine em_gR (q_cod qk57 rfl) (by decide) (by decide) hf (fun r1 hf => ?_)
  refine ev_iload_n (q_cod qk57 rfl) (by decide) rfl ?_
  refine em_lI (q_cod qk57 rfl) (by decide) hf (fun v2 hf => ?_)
  refine ev_ic (v := 1) (q_cod qk57 rfl) (by decide) (by decide) ?_
  refine ev_isub (q_cod qk57 rfl) (by decide) ?_
  refine ev_is2 (L' := [(0, .ref l0), (1, .ref l1), (2, .int l2), (3, .int l3), (4, .int (v2 - 1))]) (q_cod qk57 rfl) (by decide) rfl ?_
  refine ev_aload_n (q_cod qk57 rfl) (by decide) rfl ?_
  refine em_gR (q_cod qk57 rfl) (by decide) (by decide) hf (fun r3 hf => ?_)
  refine ev_iload_n (q_cod qk57 rfl) (by decide) rfl ?_
  refine em_lI (q_cod qk57 rfl) (by decide) hf (fun v4 hf => ?_)
  refine ev_is2 (L' := [(0, .ref l0), (1, .ref l1), (2, .int l2), (3, .int l3), (4, .int (v2 - 1)), (5, .int v4)]) (q_cod qk57 rfl) (by decide) rfl ?_
  refine ev_aload_n (q_cod qk57 rfl) (by decide) rfl ?_
  refine em_gR (q_cod qk57 rfl) (by decide) (by decide) hf (fun r5 hf => ?_)
  refine ev_aload_n (q_cod qk57 rfl) (by decide) rfl ?_
  refine em_gR (q_cod qk57 rfl) (by decide) (by decide) hf (fun r6 hf => ?_)
  refine ev_iload (q_cod qk57 rfl) (by decide) rfl ?_
  refine em_lI (q_cod qk57 rfl) (by decide) hf (fun v7 hf => ?_)
  refine ev_aload_n (q_cod qk57 rfl) (by decide) rfl ?_
  refine em_gR (q_cod qk57 rfl) (by decide) (by decide) hf (fun r8 hf => ?_)
  refine ev_iload_n (q_cod qk57 rfl) (by decide) rfl ?_
  refine em_lI (q_cod qk57 rfl) (by decide) hf (fun v9 hf => ?_)
  refine ev_iload (q_cod qk57 rfl) (by decide) rfl ?_
  obtain ⟨g10, hf⟩ := m_aK_some hf
  refine em_call (v := (fun u => some (.int u))) (q_cod qk57 rfl) rfl rfl (q_cokV rfl rfl (Or.inr g10)) rfl (fun x e => f90_cl e) hf (fun v11 h hf => ?_)
  refine ev_is2 (L' := [(0, .ref l0), (1, .ref l1), (2, .int l2), (3, .int l3), (4, .int (v2 - 1)), (5, .int v4), (6, .int v11)]) (q_cod qk57 rfl) (by decide) rfl ?_
  refine ev_aload_n (q_cod qk57 rfl) (by decide) rfl ?_
  refine ev_iload (q_cod qk57 rfl) (by decide) rfl ?_
  refine ev_iload (q_cod qk57 rfl) (by decide) rfl ?_
  refine ev_iload (q_cod qk57 rfl) (by decide) rfl ?_
  refine em_if_le (q_cod qk57 rfl) (by decide) hf (fun c14 hf => ?_) (fun c14 hf => ?_)
  · refine ev_aload_n (q_cod qk57 rfl) (by decide) rfl ?_
    refine em_gR (q_cod qk57 rfl) (by decide) (by decide) hf (fun r12 hf => ?_)
    refine ev_iload_n (q_cod qk57 rfl) (by decide) rfl ?_
    refine ev_ic (v := 1) (q_cod qk57 rfl) (by decide) (by decide) ?_
    refine ev_iadd (q_cod qk57 rfl) (by decide) ?_
    refine em_lI (q_cod qk57 rfl) (by decide) hf (fun v13 hf => ?_)
    refine ev_goto (q_cod qk57 rfl) (by decide) ?_
    exact ev_weak (q_pk [0, 3, 4] rfl) (f57_64_ok hf hK)
  · refine ev_ic (v := 0) (q_cod qk57 rfl) (by decide) (by decide) ?_
    exact ev_weak (q_pk [0, 3, 4] rfl) (f57_64_ok hf hK)
theorem f57_cl {l0 : Nat} {l1 : Nat} {l2 : Int32} {l3 : Int32} {h : q_H} {x : Unit × q_H} (hf : f57 l0 l1 l2 l3 h = some x) : q_Cl 57 [.ref l0, .ref l1, .int l2, .int l3] h (.inl none) x.2 := q_Cl.of rfl (q_LvS rfl rfl) (f57_ok hf ⟨rfl, rfl⟩)
/-! SmithyBench$Machine.apply(LSmithyBench$Body;II)V -/
theorem qk55 : q_cs.getD 55 [] = qc_55 := rfl
def f55_284  : m_M Unit :=
  m_R ()
theorem f55_284_ok  {h : q_H} {o : q_O} {hz : q_H} {x : Unit × q_H} (hf : f55_284 h = some x) (hK : (m_KU o hz) x) : q_Ev none 55 284 [] [] h o hz := by
  unfold f55_284 at hf
  obtain rfl := m_R_inv hf
  obtain ⟨rfl, rfl⟩ := (show m_KU o hz ((), _) from hK)
  exact ev_ret (q_cod qk55 rfl) rfl
def f55_45 (l0 : Nat) (l1 : Nat) (l2 : Int32) (l3 : Int32) (l4 : Int32) (l5 : Int32) (s0 : Int32) : m_M Unit :=
  m_B (m_gR 0 l1 0) (fun r1 => m_B (m_lI r1 l2) (fun v2 => if (v2).toInt = 3 then (if l5 = (-1) then (m_B (m_aK l0 5) (fun _ => m_B (f58 l0 4 0) (fun _ => f55_284))) else (m_B (m_gR 5 l0 9) (fun r6 => m_B (m_gR 0 l1 1) (fun r7 => m_B (m_lI r7 l2) (fun v8 => m_B (m_lI r6 ((l5 * 16) + v8)) (fun v9 => m_B (m_aK l0 5) (fun _ => m_B (f49 l0 v9) (fun _ => f55_284)))))))) else (if (v2).toInt = 4 then (if l5 = (-1) then (m_B (m_aK l0 5) (fun _ => m_B (f58 l0 4 0) (fun _ => f55_284))) else (m_B (m_gR 5 l0 9) (fun r16 => m_B (m_gR 0 l1 1) (fun r17 => m_B (m_lI r17 l2) (fun v18 => m_B (m_wI r16 ((l5 * 16) + v18) s0) (fun _ => m_B (m_aK l0 5) (fun _ => m_B (f49 l0 s0) (fun _ => f55_284)))))))) else (if (v2).toInt = 5 then (m_B (m_aK l0 5) (fun _ => m_B (f58 l0 3 l5) (fun _ => f55_284))) else (if (v2).toInt = 6 then (m_B (m_aK l0 5) (fun _ => m_B (f52 l0 l1 l2 l5) (fun _ => m_B (m_aK l0 5) (fun _ => m_B (f49 l0 l5) (fun _ => f55_284))))) else (if (v2).toInt = 7 then (m_B (m_gR 0 l1 2) (fun r31 => m_B (m_lI r31 l2) (fun v32 => if v32 < l3 then (m_B (m_gR 5 l0 4) (fun r33 => m_B (m_gI 5 l0 12) (fun v34 => m_B (m_lI r33 (v34 - 1)) (fun v35 => m_B (m_aK l0 5) (fun _ => m_B (f49 l0 v35) (fun _ => f55_284)))))) else (if l5 = (-1) then (m_B (m_aK l0 5) (fun _ => m_B (f58 l0 4 0) (fun _ => f55_284))) else (m_B (m_aK l0 5) (fun _ => m_B (f57 l0 l1 l2 l4) (fun _ => f55_284))))))) else (if (v2).toInt = 8 then (m_B (m_aK l0 5) (fun _ => m_B (f58 l0 3 l5) (fun _ => f55_284))) else (if (v2).toInt = 9 then (m_B (m_aK l0 5) (fun _ => m_B (f58 l0 3 l5) (fun _ => f55_284))) else (if (v2).toInt = 10 then (m_B (m_aK l0 5) (fun _ => m_B (f58 l0 3 l5) (fun _ => f55_284))) else (if (v2).toInt = 11 then (m_B (m_gR 0 l1 1) (fun r54 => m_B (m_lI r54 l2) (fun v55 => m_B (f56 v55 l5 s0) (fun v56 => m_B (m_aK l0 5) (fun _ => m_B (f49 l0 v56) (fun _ => f55_284)))))) else (m_B (m_aK l0 5) (fun _ => m_B (f58 l0 3 l5) (fun _ => f55_284)))))))))))))
theorem f55_45_ok {l0 : Nat} {l1 : Nat} {l2 : Int32} {l3 : Int32} {l4 : Int32} {l5 : Int32} {s0 : Int32} {h : q_H} {o : q_O} {hz : q_H} {x : Unit × q_H} (hf : f55_45 l0 l1 l2 l3 l4 l5 s0 h = some x) (hK : (m_KU o hz) x) : q_Ev none 55 45 [(0, .ref l0), (1, .ref l1), (2, .int l2), (3, .int l3), (4, .int l4), (5, .int l5)] [.int s0] h o hz := by
  unfold f55_45 at hf
  refine ev_is2 (L' := [(0, .ref l0), (1, .ref l1), (2, .int l2), (3, .int l3), (4, .int l4), (5, .int l5), (6, .int s0)]) (q_cod qk55 rfl) (by decide) rfl ?_
  refine ev_aload_n (q_cod qk55 rfl) (by decide) rfl ?_
  refine em_gR (q_cod qk55 rfl) (by decide) (by decide) hf (fun r1 hf => ?_)
  refine ev_iload_n (q_cod qk55 rfl) (by decide) rfl ?_
  refine em_lI (q_cod qk55 rfl) (by decide) hf (fun v2 hf => ?_)
  rcases m_iteM hf with ⟨c3, hf⟩ | ⟨c3, hf⟩
  · refine ev_tsw (q_cod qk55 rfl) (by decide) (t := 104) (by rw [c3]; rfl) ?_
    refine ev_iload (q_cod qk55 rfl) (by decide) rfl ?_
    refine ev_ic (v := (-1)) (q_cod qk55 rfl) (by decide) (by decide) ?_
    refine em_ic_ne (q_cod qk55 rfl) (by decide) hf (fun c12 hf => ?_) (fun c12 hf => ?_)
    · refine ev_aload_n (q_cod qk55 rfl) (by decide) rfl ?_
      refine ev_ic (v := 4) (q_cod qk55 rfl) (by decide) (by decide) ?_
      refine ev_ic (v := 0) (q_cod qk55 rfl) (by decide) (by decide) ?_
      obtain ⟨g4, hf⟩ := m_aK_some hf
      refine em_call (v := (fun _ => none)) (q_cod qk55 rfl) rfl rfl (q_cokV rfl rfl (Or.inr g4)) rfl (fun x e => f58_cl e) hf (fun _ h hf => ?_)
      refine ev_goto (q_cod qk55 rfl) (by decide) ?_
      exact ev_weak (q_pk [] rfl) (f55_284_ok hf hK)
    · refine ev_aload_n (q_cod qk55 rfl) (by decide) rfl ?_
      refine ev_aload_n (q_cod qk55 rfl) (by decide) rfl ?_
      refine em_gR (q_cod qk55 rfl) (by decide) (by decide) hf (fun r6 hf => ?_)
      refine ev_iload (q_cod qk55 rfl) (by decide) rfl ?_
      refine ev_bi (v := 16) (q_cod qk55 rfl) (by decide) (by decide) ?_
      refine ev_imul (q_cod qk55 rfl) (by decide) ?_
      refine ev_aload_n (q_cod qk55 rfl) (by decide) rfl ?_
      refine em_gR (q_cod qk55 rfl) (by decide) (by decide) hf (fun r7 hf => ?_)
      refine ev_iload_n (q_cod qk55 rfl) (by decide) rfl ?_
      refine em_lI (q_cod qk55 rfl) (by decide) hf (fun v8 hf => ?_)
      refine ev_iadd (q_cod qk55 rfl) (by decide) ?_
      refine em_lI (q_cod qk55 rfl) (by decide) hf (fun v9 hf => ?_)
      obtain ⟨g10, hf⟩ := m_aK_some hf
      refine em_call (v := (fun _ => none)) (q_cod qk55 rfl) rfl rfl (q_cokV rfl rfl (Or.inr g10)) rfl (fun x e => f49_cl e) hf (fun _ h hf => ?_)
      refine ev_goto (q_cod qk55 rfl) (by decide) ?_
      exact ev_weak (q_pk [] rfl) (f55_284_ok hf hK)
  rcases m_iteM hf with ⟨c13, hf⟩ | ⟨c13, hf⟩
  · refine ev_tsw (q_cod qk55 rfl) (by decide) (t := 143) (by rw [c13]; rfl) ?_
    refine ev_iload (q_cod qk55 rfl) (by decide) rfl ?_
    refine ev_ic (v := (-1)) (q_cod qk55 rfl) (by decide) (by decide) ?_
    refine em_ic_ne (q_cod qk55 rfl) (by decide) hf (fun c21 hf => ?_) (fun c21 hf => ?_)
    · refine ev_aload_n (q_cod qk55 rfl) (by decide) rfl ?_
      refine ev_ic (v := 4) (q_cod qk55 rfl) (by decide) (by decide) ?_
      refine ev_ic (v := 0) (q_cod qk55 rfl) (by decide) (by decide) ?_
      obtain ⟨g14, hf⟩ := m_aK_some hf
      refine em_call (v := (fun _ => none)) (q_cod qk55 rfl) rfl rfl (q_cokV rfl rfl (Or.inr g14)) rfl (fun x e => f58_cl e) hf (fun _ h hf => ?_)
      refine ev_goto (q_cod qk55 rfl) (by decide) ?_
      exact ev_weak (q_pk [] rfl) (f55_284_ok hf hK)
    · refine ev_aload_n (q_cod qk55 rfl) (by decide) rfl ?_
      refine em_gR (q_cod qk55 rfl) (by decide) (by decide) hf (fun r16 hf => ?_)
      refine ev_iload (q_cod qk55 rfl) (by decide) rfl ?_
      refine ev_bi (v := 16) (q_cod qk55 rfl) (by decide) (by decide) ?_
      refine ev_imul (q_cod qk55 rfl) (by decide) ?_
      refine ev_aload_n (q_cod qk55 rfl) (by decide) rfl ?_
      refine em_gR (q_cod qk55 rfl) (by decide) (by decide) hf (fun r17 hf => ?_)
      refine ev_iload_n (q_cod qk55 rfl) (by decide) rfl ?_
      refine em_lI (q_cod qk55 rfl) (by decide) hf (fun v18 hf => ?_)
      refine ev_iadd (q_cod qk55 rfl) (by decide) ?_
      refine ev_iload (q_cod qk55 rfl) (by decide) rfl ?_
      refine em_wI (q_cod qk55 rfl) (by decide) hf (fun hf => ?_)
      refine ev_aload_n (q_cod qk55 rfl) (by decide) rfl ?_
      refine ev_iload (q_cod qk55 rfl) (by decide) rfl ?_
      obtain ⟨g19, hf⟩ := m_aK_some hf
      refine em_call (v := (fun _ => none)) (q_cod qk55 rfl) rfl rfl (q_cokV rfl rfl (Or.inr g19)) rfl (fun x e => f49_cl e) hf (fun _ h hf => ?_)
      refine ev_goto (q_cod qk55 rfl) (by decide) ?_
      exact ev_weak (q_pk [] rfl) (f55_284_ok hf hK)
  rcases m_iteM hf with ⟨c22, hf⟩ | ⟨c22, hf⟩
  · refine ev_tsw (q_cod qk55 rfl) (by decide) (t := 277) (by rw [c22]; rfl) ?_
    refine ev_aload_n (q_cod qk55 rfl) (by decide) rfl ?_
    refine ev_ic (v := 3) (q_cod qk55 rfl) (by decide) (by decide) ?_
    refine ev_iload (q_cod qk55 rfl) (by decide) rfl ?_
    obtain ⟨g23, hf⟩ := m_aK_some hf
    refine em_call (v := (fun _ => none)) (q_cod qk55 rfl) rfl rfl (q_cokV rfl rfl (Or.inr g23)) rfl (fun x e => f58_cl e) hf (fun _ h hf => ?_)
    exact ev_weak (q_pk [] rfl) (f55_284_ok hf hK)
  rcases m_iteM hf with ⟨c25, hf⟩ | ⟨c25, hf⟩
  · refine ev_tsw (q_cod qk55 rfl) (by decide) (t := 186) (by rw [c25]; rfl) ?_
    refine ev_aload_n (q_cod qk55 rfl) (by decide) rfl ?_
    refine ev_aload_n (q_cod qk55 rfl) (by decide) rfl ?_
    refine ev_iload_n (q_cod qk55 rfl) (by decide) rfl ?_
    refine ev_iload (q_cod qk55 rfl) (by decide) rfl ?_
    obtain ⟨g26, hf⟩ := m_aK_some hf
    refine em_call (v := (fun _ => none)) (q_cod qk55 rfl) rfl rfl (q_cokV rfl rfl (Or.inr g26)) rfl (fun x e => f52_cl e) hf (fun _ h hf => ?_)
    refine ev_aload_n (q_cod qk55 rfl) (by decide) rfl ?_
    refine ev_iload (q_cod qk55 rfl) (by decide) rfl ?_
    obtain ⟨g28, hf⟩ := m_aK_some hf
    refine em_call (v := (fun _ => none)) (q_cod qk55 rfl) rfl rfl (q_cokV rfl rfl (Or.inr g28)) rfl (fun x e => f49_cl e) hf (fun _ h hf => ?_)
    refine ev_goto (q_cod qk55 rfl) (by decide) ?_
    exact ev_weak (q_pk [] rfl) (f55_284_ok hf hK)
  rcases m_iteM hf with ⟨c30, hf⟩ | ⟨c30, hf⟩
  · refine ev_tsw (q_cod qk55 rfl) (by decide) (t := 223) (by rw [c30]; rfl) ?_
    refine ev_iload_n (q_cod qk55 rfl) (by decide) rfl ?_
    refine ev_aload_n (q_cod qk55 rfl) (by decide) rfl ?_
    refine em_gR (q_cod qk55 rfl) (by decide) (by decide) hf (fun r31 hf => ?_)
    refine ev_iload_n (q_cod qk55 rfl) (by decide) rfl ?_
    refine em_lI (q_cod qk55 rfl) (by decide) hf (fun v32 hf => ?_)
    refine em_ic_le (q_cod qk55 rfl) (by decide) hf (fun c43 hf => ?_) (fun c43 hf => ?_)
    · refine ev_aload_n (q_cod qk55 rfl) (by decide) rfl ?_
      refine ev_aload_n (q_cod qk55 rfl) (by decide) rfl ?_
      refine em_gR (q_cod qk55 rfl) (by decide) (by decide) hf (fun r33 hf => ?_)
      refine ev_aload_n (q_cod qk55 rfl) (by decide) rfl ?_
      refine em_gI (q_cod qk55 rfl) (by decide) (by decide) hf (fun v34 hf => ?_)
      refine ev_ic (v := 1) (q_cod qk55 rfl) (by decide) (by decide) ?_
      refine ev_isub (q_cod qk55 rfl) (by decide) ?_
      refine em_lI (q_cod qk55 rfl) (by decide) hf (fun v35 hf => ?_)
      obtain ⟨g36, hf⟩ := m_aK_some hf
      refine em_call (v := (fun _ => none)) (q_cod qk55 rfl) rfl rfl (q_cokV rfl rfl (Or.inr g36)) rfl (fun x e => f49_cl e) hf (fun _ h hf => ?_)
      refine ev_goto (q_cod qk55 rfl) (by decide) ?_
      exact ev_weak (q_pk [] rfl) (f55_284_ok hf hK)
    · refine ev_iload (q_cod qk55 rfl) (by decide) rfl ?_
      refine ev_ic (v := (-1)) (q_cod qk55 rfl) (by decide) (by decide) ?_
      refine em_ic_ne (q_cod qk55 rfl) (by decide) hf (fun c42 hf => ?_) (fun c42 hf => ?_)
      · refine ev_aload_n (q_cod qk55 rfl) (by decide) rfl ?_
        refine ev_ic (v := 4) (q_cod qk55 rfl) (by decide) (by decide) ?_
        refine ev_ic (v := 0) (q_cod qk55 rfl) (by decide) (by decide) ?_
        obtain ⟨g38, hf⟩ := m_aK_some hf
        refine em_call (v := (fun _ => none)) (q_cod qk55 rfl) rfl rfl (q_cokV rfl rfl (Or.inr g38)) rfl (fun x e => f58_cl e) hf (fun _ h hf => ?_)
        refine ev_goto (q_cod qk55 rfl) (by decide) ?_
        exact ev_weak (q_pk [] rfl) (f55_284_ok hf hK)
      · refine ev_aload_n (q_cod qk55 rfl) (by decide) rfl ?_
        refine ev_aload_n (q_cod qk55 rfl) (by decide) rfl ?_
        refine ev_iload_n (q_cod qk55 rfl) (by decide) rfl ?_
        refine ev_iload (q_cod qk55 rfl) (by decide) rfl ?_
        obtain ⟨g40, hf⟩ := m_aK_some hf
        refine em_call (v := (fun _ => none)) (q_cod qk55 rfl) rfl rfl (q_cokV rfl rfl (Or.inr g40)) rfl (fun x e => f57_cl e) hf (fun _ h hf => ?_)
        refine ev_goto (q_cod qk55 rfl) (by decide) ?_
        exact ev_weak (q_pk [] rfl) (f55_284_ok hf hK)
  rcases m_iteM hf with ⟨c44, hf⟩ | ⟨c44, hf⟩
  · refine ev_tsw (q_cod qk55 rfl) (by decide) (t := 277) (by rw [c44]; rfl) ?_
    refine ev_aload_n (q_cod qk55 rfl) (by decide) rfl ?_
    refine ev_ic (v := 3) (q_cod qk55 rfl) (by decide) (by decide) ?_
    refine ev_iload (q_cod qk55 rfl) (by decide) rfl ?_
    obtain ⟨g45, hf⟩ := m_aK_some hf
    refine em_call (v := (fun _ => none)) (q_cod qk55 rfl) rfl rfl (q_cokV rfl rfl (Or.inr g45)) rfl (fun x e => f58_cl e) hf (fun _ h hf => ?_)
    exact ev_weak (q_pk [] rfl) (f55_284_ok hf hK)
  rcases m_iteM hf with ⟨c47, hf⟩ | ⟨c47, hf⟩
  · refine ev_tsw (q_cod qk55 rfl) (by decide) (t := 277) (by rw [c47]; rfl) ?_
    refine ev_aload_n (q_cod qk55 rfl) (by decide) rfl ?_
    refine ev_ic (v := 3) (q_cod qk55 rfl) (by decide) (by decide) ?_
    refine ev_iload (q_cod qk55 rfl) (by decide) rfl ?_
    obtain ⟨g48, hf⟩ := m_aK_some hf
    refine em_call (v := (fun _ => none)) (q_cod qk55 rfl) rfl rfl (q_cokV rfl rfl (Or.inr g48)) rfl (fun x e => f58_cl e) hf (fun _ h hf => ?_)
    exact ev_weak (q_pk [] rfl) (f55_284_ok hf hK)
  rcases m_iteM hf with ⟨c50, hf⟩ | ⟨c50, hf⟩
  · refine ev_tsw (q_cod qk55 rfl) (by decide) (t := 277) (by rw [c50]; rfl) ?_
    refine ev_aload_n (q_cod qk55 rfl) (by decide) rfl ?_
    refine ev_ic (v := 3) (q_cod qk55 rfl) (by decide) (by decide) ?_
    refine ev_iload (q_cod qk55 rfl) (by decide) rfl ?_
    obtain ⟨g51, hf⟩ := m_aK_some hf
    refine em_call (v := (fun _ => none)) (q_cod qk55 rfl) rfl rfl (q_cokV rfl rfl (Or.inr g51)) rfl (fun x e => f58_cl e) hf (fun _ h hf => ?_)
    exact ev_weak (q_pk [] rfl) (f55_284_ok hf hK)
  rcases m_iteM hf with ⟨c53, hf⟩ | ⟨c53, hf⟩
  · refine ev_tsw (q_cod qk55 rfl) (by decide) (t := 203) (by rw [c53]; rfl) ?_
    refine ev_aload_n (q_cod qk55 rfl) (by decide) rfl ?_
    refine ev_aload_n (q_cod qk55 rfl) (by decide) rfl ?_
    refine em_gR (q_cod qk55 rfl) (by decide) (by decide) hf (fun r54 hf => ?_)
    refine ev_iload_n (q_cod qk55 rfl) (by decide) rfl ?_
    refine em_lI (q_cod qk55 rfl) (by decide) hf (fun v55 hf => ?_)
    refine ev_iload (q_cod qk55 rfl) (by decide) rfl ?_
    refine ev_iload (q_cod qk55 rfl) (by decide) rfl ?_
    refine em_call (v := (fun u => some (.int u))) (q_cod qk55 rfl) rfl rfl (q_cokS rfl rfl) rfl (fun x e => f56_cl e) hf (fun v56 h hf => ?_)
    obtain ⟨g57, hf⟩ := m_aK_some hf
    refine em_call (v := (fun _ => none)) (q_cod qk55 rfl) rfl rfl (q_cokV rfl rfl (Or.inr g57)) rfl (fun x e => f49_cl e) hf (fun _ h hf => ?_)
    refine ev_goto (q_cod qk55 rfl) (by decide) ?_
    exact ev_weak (q_pk [] rfl) (f55_284_ok hf hK)
  refine ev_tsw (q_cod qk55 rfl) (by decide) (t := 277) (by rw [if_pos (by omega)]; rfl) ?_
  refine ev_aload_n (q_cod qk55 rfl) (by decide) rfl ?_
  refine ev_ic (v := 3) (q_cod qk55 rfl) (by decide) (by decide) ?_
  refine ev_iload (q_cod qk55 rfl) (by decide) rfl ?_
  obtain ⟨g59, hf⟩ := m_aK_some hf
  refine em_call (v := (fun _ => none)) (q_cod qk55 rfl) rfl rfl (q_cokV rfl rfl (Or.inr g59)) rfl (fun x e => f58_cl e) hf (fun _ h hf => ?_)
  exact ev_weak (q_pk [] rfl) (f55_284_ok hf hK)
def f55 (l0 : Nat) (l1 : Nat) (l2 : Int32) (l3 : Int32) : m_M Unit :=
  m_B (m_gR 5 l0 3) (fun r1 => m_B (m_gI 5 l0 11) (fun v2 => m_B (m_lI r1 (v2 - 1)) (fun v3 => m_B (m_gR 5 l0 4) (fun r4 => m_B (m_lI r4 v3) (fun v5 => m_B (m_gR 0 l1 2) (fun r6 => m_B (m_lI r6 l2) (fun v7 => if 1 < v7 then (m_B (m_gR 5 l0 4) (fun r8 => m_B (m_lI r8 (v3 + 1)) (fun v9 => f55_45 l0 l1 l2 l3 v3 v5 v9))) else (f55_45 l0 l1 l2 l3 v3 v5 0))))))))
theorem f55_ok {l0 : Nat} {l1 : Nat} {l2 : Int32} {l3 : Int32} {h : q_H} {o : q_O} {hz : q_H} {x : Unit × q_H} (hf : f55 l0 l1 l2 l3 h = some x) (hK : (m_KU o hz) x) : q_Ev none 55 0 [(0, .ref l0), (1, .ref l1), (2, .int l2), (3, .int l3)] [] h o hz := by
  unfold f55 at hf
  refine ev_aload_n (q_cod qk55 rfl) (by decide) rfl ?_
  refine em_gR (q_cod qk55 rfl) (by decide) (by decide) hf (fun r1 hf => ?_)
  refine ev_aload_n (q_cod qk55 rfl) (by decide) rfl ?_
  refine em_gI (q_cod qk55 rfl) (by decide) (by decide) hf (fun v2 hf => ?_)
  refine ev_ic (v := 1) (q_cod qk55 rfl) (by decide) (by decide) ?_
  refine ev_isub (q_cod qk55 rfl) (by decide) ?_
  refine em_lI (q_cod qk55 rfl) (by decide) hf (fun v3 hf => ?_)
  refine ev_is2 (L' := [(0, .ref l0), (1, .ref l1), (2, .int l2), (3, .int l3), (4, .int v3)]) (q_cod qk55 rfl) (by decide) rfl ?_
  refine ev_aload_n (q_cod qk55 rfl) (by decide) rfl ?_
  refine em_gR (q_cod qk55 rfl) (by decide) (by decide) hf (fun r4 hf => ?_)
  refine ev_iload (q_cod qk55 rfl) (by decide) rfl ?_
  refine em_lI (q_cod qk55 rfl) (by decide) hf (fun v5 hf => ?_)
  refine ev_is2 (L' := [(0, .ref l0), (1, .ref l1), (2, .int l2), (3, .int l3), (4, .int v3), (5, .int v5)]) (q_cod qk55 rfl) (by decide) rfl ?_
  refine ev_aload_n (q_cod qk55 rfl) (by decide) rfl ?_
  refine em_gR (q_cod qk55 rfl) (by decide) (by decide) hf (fun r6 hf => ?_)
  refine ev_iload_n (q_cod qk55 rfl) (by decide) rfl ?_
  refine em_lI (q_cod qk55 rfl) (by decide) hf (fun v7 hf => ?_)
  refine ev_ic (v := 1) (q_cod qk55 rfl) (by decide) (by decide) ?_
  refine em_ic_le (q_cod qk55 rfl) (by decide) hf (fun c10 hf => ?_) (fun c10 hf => ?_)
  · refine ev_aload_n (q_cod qk55 rfl) (by decide) rfl ?_
    refine em_gR (q_cod qk55 rfl) (by decide) (by decide) hf (fun r8 hf => ?_)
    refine ev_iload (q_cod qk55 rfl) (by decide) rfl ?_
    refine ev_ic (v := 1) (q_cod qk55 rfl) (by decide) (by decide) ?_
    refine ev_iadd (q_cod qk55 rfl) (by decide) ?_
    refine em_lI (q_cod qk55 rfl) (by decide) hf (fun v9 hf => ?_)
    refine ev_goto (q_cod qk55 rfl) (by decide) ?_
    exact (f55_45_ok hf hK)
  · refine ev_ic (v := 0) (q_cod qk55 rfl) (by decide) (by decide) ?_
    exact (f55_45_ok hf hK)
theorem f55_cl {l0 : Nat} {l1 : Nat} {l2 : Int32} {l3 : Int32} {h : q_H} {x : Unit × q_H} (hf : f55 l0 l1 l2 l3 h = some x) : q_Cl 55 [.ref l0, .ref l1, .int l2, .int l3] h (.inl none) x.2 := q_Cl.of rfl (q_LvS rfl rfl) (f55_ok hf ⟨rfl, rfl⟩)
/-! SmithyBench$Machine.goOn()V -/
theorem qk50 : q_cs.getD 50 [] = qc_50 := rfl
def f50_248  : m_M Unit :=
  m_R ()
theorem f50_248_ok  {h : q_H} {o : q_O} {hz : q_H} {x : Unit × q_H} (hf : f50_248 h = some x) (hK : (m_KU o hz) x) : q_Ev none 50 248 [] [] h o hz := by
  unfold f50_248 at hf
  obtain rfl := m_R_inv hf
  obtain ⟨rfl, rfl⟩ := (show m_KU o hz ((), _) from hK)
  exact ev_ret (q_cod qk50 rfl) rfl
def f50 (l0 : Nat) : m_M Unit :=
  m_B (m_gI 5 l0 11) (fun v1 => m_B (m_gR 5 l0 2) (fun r2 => m_B (m_lI r2 (v1 - 1)) (fun v3 => m_B (m_pI 5 l0 13 v3) (fun _ => m_B (m_gR 5 l0 0) (fun r4 => m_B (m_lI r4 (v1 - 1)) (fun v5 => m_B (m_gR 5 l0 1) (fun r6 => m_B (m_lI r6 (v1 - 1)) (fun v7 => m_B (m_gR 5 l0 1) (fun r8 => m_B (m_lI r8 (v1 - 1)) (fun v9 => m_B (m_wI r8 (v1 - 1) (v9 + 1)) (fun _ => m_B (m_gR 5 l0 10) (fun r10 => m_B (m_gR 7 r10 9) (fun r11 => m_B (m_gR 5 l0 5) (fun r12 => m_B (m_gI 5 l0 13) (fun v13 => m_B (m_lI r12 (v13 - 1)) (fun v14 => m_B (m_lR r11 v14) (fun r15 => m_B (m_gR 0 r15 0) (fun r16 => m_B (m_lI r16 v5) (fun v17 => if (v17).toInt = 0 then (m_B (m_gR 0 r15 1) (fun r19 => m_B (m_lI r19 v5) (fun v20 => m_B (m_aK l0 5) (fun _ => m_B (f49 l0 v20) (fun _ => f50_248))))) else (if (v17).toInt = 1 then (m_B (m_aK l0 5) (fun _ => m_B (f51 l0 r15 v5) (fun v25 => m_B (m_aK l0 5) (fun _ => m_B (f49 l0 v25) (fun _ => f50_248))))) else (if (v17).toInt = 2 then (m_B (m_gR 5 l0 6) (fun r29 => m_B (m_gI 5 l0 13) (fun v30 => m_B (m_lI r29 (v30 - 1)) (fun v31 => m_B (m_aK l0 5) (fun _ => m_B (f49 l0 v31) (fun _ => f50_248)))))) else (if (v17).toInt = 3 then (m_B (m_gR 0 r15 2) (fun r35 => m_B (m_lI r35 v5) (fun v36 => if v7 < v36 then (m_B (m_aK r15 0) (fun _ => m_B (f9 r15 v5 v7) (fun v38 => m_B (m_aK l0 5) (fun _ => m_B (f48 l0 v38) (fun _ => f50_248))))) else (m_B (m_aK l0 5) (fun _ => m_B (f55 l0 r15 v5 v7) (fun _ => f50_248)))))) else (if (v17).toInt = 4 then (m_B (m_gR 0 r15 2) (fun r45 => m_B (m_lI r45 v5) (fun v46 => if v7 < v46 then (m_B (m_aK r15 0) (fun _ => m_B (f9 r15 v5 v7) (fun v48 => m_B (m_aK l0 5) (fun _ => m_B (f48 l0 v48) (fun _ => f50_248))))) else (m_B (m_aK l0 5) (fun _ => m_B (f55 l0 r15 v5 v7) (fun _ => f50_248)))))) else (if (v17).toInt = 5 then (m_B (m_aK l0 5) (fun _ => m_B (f54 l0 r15 v5 v7) (fun _ => f50_248))) else (if (v17).toInt = 6 then (m_B (m_gR 0 r15 2) (fun r58 => m_B (m_lI r58 v5) (fun v59 => if v7 < v59 then (m_B (m_aK r15 0) (fun _ => m_B (f9 r15 v5 v7) (fun v61 => m_B (m_aK l0 5) (fun _ => m_B (f48 l0 v61) (fun _ => f50_248))))) else (m_B (m_aK l0 5) (fun _ => m_B (f55 l0 r15 v5 v7) (fun _ => f50_248)))))) else (if (v17).toInt = 7 then (m_B (m_gR 0 r15 2) (fun r68 => m_B (m_lI r68 v5) (fun v69 => if v7 < v69 then (m_B (m_aK r15 0) (fun _ => m_B (f9 r15 v5 v7) (fun v71 => m_B (m_aK l0 5) (fun _ => m_B (f48 l0 v71) (fun _ => f50_248))))) else (m_B (m_aK l0 5) (fun _ => m_B (f55 l0 r15 v5 v7) (fun _ => f50_248)))))) else (if (v17).toInt = 8 then (m_B (m_gR 0 r15 1) (fun r78 => m_B (m_lI r78 v5) (fun v79 => m_B (m_aK l0 5) (fun _ => m_B (f46 l0 v79) (fun v81 => m_B (m_aK l0 5) (fun _ => m_B (f49 l0 v81) (fun _ => f50_248))))))) else (if (v17).toInt = 9 then (m_B (m_aK l0 5) (fun _ => m_B (f54 l0 r15 v5 v7) (fun _ => f50_248))) else (if (v17).toInt = 10 then (m_B (m_aK l0 5) (fun _ => m_B (f54 l0 r15 v5 v7) (fun _ => f50_248))) else (if (v17).toInt = 11 then (m_B (m_gR 0 r15 2) (fun r91 => m_B (m_lI r91 v5) (fun v92 => if v7 < v92 then (m_B (m_aK r15 0) (fun _ => m_B (f9 r15 v5 v7) (fun v94 => m_B (m_aK l0 5) (fun _ => m_B (f48 l0 v94) (fun _ => f50_248))))) else (m_B (m_aK l0 5) (fun _ => m_B (f55 l0 r15 v5 v7) (fun _ => f50_248)))))) else (if (v17).toInt = 12 then (m_B (m_gR 0 r15 2) (fun r101 => m_B (m_lI r101 v5) (fun v102 => if v7 < v102 then (m_B (m_aK r15 0) (fun _ => m_B (f9 r15 v5 v7) (fun v104 => m_B (m_aK l0 5) (fun _ => m_B (f48 l0 v104) (fun _ => f50_248))))) else (m_B (m_aK l0 5) (fun _ => m_B (f55 l0 r15 v5 v7) (fun _ => f50_248)))))) else (if (v17).toInt = 13 then (m_B (m_aK l0 5) (fun _ => m_B (f54 l0 r15 v5 v7) (fun _ => f50_248))) else (m_B (m_gR 0 r15 2) (fun r113 => m_B (m_lI r113 v5) (fun v114 => if v7 < v114 then (m_B (m_aK r15 0) (fun _ => m_B (f9 r15 v5 v7) (fun v116 => m_B (m_aK l0 5) (fun _ => m_B (f48 l0 v116) (fun _ => f50_248))))) else (m_B (m_aK l0 5) (fun _ => m_B (f55 l0 r15 v5 v7) (fun _ => f50_248))))))))))))))))))))))))))))))))))))))
theorem f50_ok {l0 : Nat} {h : q_H} {o : q_O} {hz : q_H} {x : Unit × q_H} (hf : f50 l0 h = some x) (hK : (m_KU o hz) x) : q_Ev none 50 0 [(0, .ref l0)] [] h o hz := by
  unfold f50 at hf
  refine ev_aload_n (q_cod qk50 rfl) (by decide) rfl ?_
  refine em_gI (q_cod qk50 rfl) (by decide) (by decide) hf (fun v1 hf => ?_)
  refine ev_ic (v := 1) (q_cod qk50 rfl) (by decide) (by decide) ?_
  refine ev_isub (q_cod qk50 rfl) (by decide) ?_
  refine ev_is1 (L' := [(0, .ref l0), (1, .int (v1 - 1))]) (q_cod qk50 rfl) (by decide) rfl ?_
  refine ev_aload_n (q_cod qk50 rfl) (by decide) rfl ?_
  refine ev_aload_n (q_cod qk50 rfl) (by decide) rfl ?_
  refine em_gR (q_cod qk50 rfl) (by decide) (by decide) hf (fun r2 hf => ?_)
  refine ev_iload_n (q_cod qk50 rfl) (by decide) rfl ?_
  refine em_lI (q_cod qk50 rfl) (by decide) hf (fun v3 hf => ?_)
  refine em_pI (q_cod qk50 rfl) (by decide) (by decide) (by decide) hf (fun hf => ?_)
  refine ev_aload_n (q_cod qk50 rfl) (by decide) rfl ?_
  refine em_gR (q_cod qk50 rfl) (by decide) (by decide) hf (fun r4 hf => ?_)
  refine ev_iload_n (q_cod qk50 rfl) (by decide) rfl ?_
  refine em_lI (q_cod qk50 rfl) (by decide) hf (fun v5 hf => ?_)
  refine ev_is1 (L' := [(0, .ref l0), (1, .int (v1 - 1)), (2, .int v5)]) (q_cod qk50 rfl) (by decide) rfl ?_
  refine ev_aload_n (q_cod qk50 rfl) (by decide) rfl ?_
  refine em_gR (q_cod qk50 rfl) (by decide) (by decide) hf (fun r6 hf => ?_)
  refine ev_iload_n (q_cod qk50 rfl) (by decide) rfl ?_
  refine em_lI (q_cod qk50 rfl) (by decide) hf (fun v7 hf => ?_)
  refine ev_is1 (L' := [(0, .ref l0), (1, .int (v1 - 1)), (2, .int v5), (3, .int v7)]) (q_cod qk50 rfl) (by decide) rfl ?_
  refine ev_aload_n (q_cod qk50 rfl) (by decide) rfl ?_
  refine em_gR (q_cod qk50 rfl) (by decide) (by decide) hf (fun r8 hf => ?_)
  refine ev_iload_n (q_cod qk50 rfl) (by decide) rfl ?_
  refine ev_dup2 (q_cod qk50 rfl) (by decide) rfl rfl ?_
  refine em_lI (q_cod qk50 rfl) (by decide) hf (fun v9 hf => ?_)
  refine ev_ic (v := 1) (q_cod qk50 rfl) (by decide) (by decide) ?_
  refine ev_iadd (q_cod qk50 rfl) (by decide) ?_
  refine em_wI (q_cod qk50 rfl) (by decide) hf (fun hf => ?_)
  refine ev_aload_n (q_cod qk50 rfl) (by decide) rfl ?_
  refine em_gR (q_cod qk50 rfl) (by decide) (by decide) hf (fun r10 hf => ?_)
  refine em_gR (q_cod qk50 rfl) (by decide) (by decide) hf (fun r11 hf => ?_)
  refine ev_aload_n (q_cod qk50 rfl) (by decide) rfl ?_
  refine em_gR (q_cod qk50 rfl) (by decide) (by decide) hf (fun r12 hf => ?_)
  refine ev_aload_n (q_cod qk50 rfl) (by decide) rfl ?_
  refine em_gI (q_cod qk50 rfl) (by decide) (by decide) hf (fun v13 hf => ?_)
  refine ev_ic (v := 1) (q_cod qk50 rfl) (by decide) (by decide) ?_
  refine ev_isub (q_cod qk50 rfl) (by decide) ?_
  refine em_lI (q_cod qk50 rfl) (by decide) hf (fun v14 hf => ?_)
  refine em_lR (q_cod qk50 rfl) (by decide) hf (fun r15 hf => ?_)
  refine ev_as2 (L' := [(0, .ref l0), (1, .int (v1 - 1)), (2, .int v5), (3, .int v7), (4, .ref r15)]) (q_cod qk50 rfl) (by decide) rfl ?_
  refine ev_aload (q_cod qk50 rfl) (by decide) rfl ?_
  refine em_gR (q_cod qk50 rfl) (by decide) (by decide) hf (fun r16 hf => ?_)
  refine ev_iload_n (q_cod qk50 rfl) (by decide) rfl ?_
  refine em_lI (q_cod qk50 rfl) (by decide) hf (fun v17 hf => ?_)
  rcases m_iteM hf with ⟨c18, hf⟩ | ⟨c18, hf⟩
  · refine ev_tsw (q_cod qk50 rfl) (by decide) (t := 140) (by rw [c18]; rfl) ?_
    refine ev_aload_n (q_cod qk50 rfl) (by decide) rfl ?_
    refine ev_aload (q_cod qk50 rfl) (by decide) rfl ?_
    refine em_gR (q_cod qk50 rfl) (by decide) (by decide) hf (fun r19 hf => ?_)
    refine ev_iload_n (q_cod qk50 rfl) (by decide) rfl ?_
    refine em_lI (q_cod qk50 rfl) (by decide) hf (fun v20 hf => ?_)
    obtain ⟨g21, hf⟩ := m_aK_some hf
    refine em_call (v := (fun _ => none)) (q_cod qk50 rfl) rfl rfl (q_cokV rfl rfl (Or.inr g21)) rfl (fun x e => f49_cl e) hf (fun _ h hf => ?_)
    refine ev_goto (q_cod qk50 rfl) (by decide) ?_
    exact ev_weak (q_pk [] rfl) (f50_248_ok hf hK)
  rcases m_iteM hf with ⟨c23, hf⟩ | ⟨c23, hf⟩
  · refine ev_tsw (q_cod qk50 rfl) (by decide) (t := 154) (by rw [c23]; rfl) ?_
    refine ev_aload_n (q_cod qk50 rfl) (by decide) rfl ?_
    refine ev_aload_n (q_cod qk50 rfl) (by decide) rfl ?_
    refine ev_aload (q_cod qk50 rfl) (by decide) rfl ?_
    refine ev_iload_n (q_cod qk50 rfl) (by decide) rfl ?_
    obtain ⟨g24, hf⟩ := m_aK_some hf
    refine em_call (v := (fun u => some (.int u))) (q_cod qk50 rfl) rfl rfl (q_cokV rfl rfl (Or.inr g24)) rfl (fun x e => f51_cl e) hf (fun v25 h hf => ?_)
    obtain ⟨g26, hf⟩ := m_aK_some hf
    refine em_call (v := (fun _ => none)) (q_cod qk50 rfl) rfl rfl (q_cokV rfl rfl (Or.inr g26)) rfl (fun x e => f49_cl e) hf (fun _ h hf => ?_)
    refine ev_goto (q_cod qk50 rfl) (by decide) ?_
    exact ev_weak (q_pk [] rfl) (f50_248_ok hf hK)
  rcases m_iteM hf with ⟨c28, hf⟩ | ⟨c28, hf⟩
  · refine ev_tsw (q_cod qk50 rfl) (by decide) (t := 168) (by rw [c28]; rfl) ?_
    refine ev_aload_n (q_cod qk50 rfl) (by decide) rfl ?_
    refine ev_aload_n (q_cod qk50 rfl) (by decide) rfl ?_
    refine em_gR (q_cod qk50 rfl) (by decide) (by decide) hf (fun r29 hf => ?_)
    refine ev_aload_n (q_cod qk50 rfl) (by decide) rfl ?_
    refine em_gI (q_cod qk50 rfl) (by decide) (by decide) hf (fun v30 hf => ?_)
    refine ev_ic (v := 1) (q_cod qk50 rfl) (by decide) (by decide) ?_
    refine ev_isub (q_cod qk50 rfl) (by decide) ?_
    refine em_lI (q_cod qk50 rfl) (by decide) hf (fun v31 hf => ?_)
    obtain ⟨g32, hf⟩ := m_aK_some hf
    refine em_call (v := (fun _ => none)) (q_cod qk50 rfl) rfl rfl (q_cokV rfl rfl (Or.inr g32)) rfl (fun x e => f49_cl e) hf (fun _ h hf => ?_)
    refine ev_goto (q_cod qk50 rfl) (by decide) ?_
    exact ev_weak (q_pk [] rfl) (f50_248_ok hf hK)
  rcases m_iteM hf with ⟨c34, hf⟩ | ⟨c34, hf⟩
  · refine ev_tsw (q_cod qk50 rfl) (by decide) (t := 215) (by rw [c34]; rfl) ?_
    refine ev_iload_n (q_cod qk50 rfl) (by decide) rfl ?_
    refine ev_aload (q_cod qk50 rfl) (by decide) rfl ?_
    refine em_gR (q_cod qk50 rfl) (by decide) (by decide) hf (fun r35 hf => ?_)
    refine ev_iload_n (q_cod qk50 rfl) (by decide) rfl ?_
    refine em_lI (q_cod qk50 rfl) (by decide) hf (fun v36 hf => ?_)
    refine em_ic_ge (q_cod qk50 rfl) (by decide) hf (fun c43 hf => ?_) (fun c43 hf => ?_)
    · refine ev_aload_n (q_cod qk50 rfl) (by decide) rfl ?_
      refine ev_aload (q_cod qk50 rfl) (by decide) rfl ?_
      refine ev_iload_n (q_cod qk50 rfl) (by decide) rfl ?_
      refine ev_iload_n (q_cod qk50 rfl) (by decide) rfl ?_
      obtain ⟨g37, hf⟩ := m_aK_some hf
      refine em_call (v := (fun u => some (.int u))) (q_cod qk50 rfl) rfl rfl (q_cokV rfl rfl (Or.inr g37)) rfl (fun x e => f9_cl e) hf (fun v38 h hf => ?_)
      obtain ⟨g39, hf⟩ := m_aK_some hf
      refine em_call (v := (fun _ => none)) (q_cod qk50 rfl) rfl rfl (q_cokV rfl rfl (Or.inr g39)) rfl (fun x e => f48_cl e) hf (fun _ h hf => ?_)
      refine ev_goto (q_cod qk50 rfl) (by decide) ?_
      exact ev_weak (q_pk [] rfl) (f50_248_ok hf hK)
    · refine ev_aload_n (q_cod qk50 rfl) (by decide) rfl ?_
      refine ev_aload (q_cod qk50 rfl) (by decide) rfl ?_
      refine ev_iload_n (q_cod qk50 rfl) (by decide) rfl ?_
      refine ev_iload_n (q_cod qk50 rfl) (by decide) rfl ?_
      obtain ⟨g41, hf⟩ := m_aK_some hf
      refine em_call (v := (fun _ => none)) (q_cod qk50 rfl) rfl rfl (q_cokV rfl rfl (Or.inr g41)) rfl (fun x e => f55_cl e) hf (fun _ h hf => ?_)
      exact ev_weak (q_pk [] rfl) (f50_248_ok hf hK)
  rcases m_iteM hf with ⟨c44, hf⟩ | ⟨c44, hf⟩
  · refine ev_tsw (q_cod qk50 rfl) (by decide) (t := 215) (by rw [c44]; rfl) ?_
    refine ev_iload_n (q_cod qk50 rfl) (by decide) rfl ?_
    refine ev_aload (q_cod qk50 rfl) (by decide) rfl ?_
    refine em_gR (q_cod qk50 rfl) (by decide) (by decide) hf (fun r45 hf => ?_)
    refine ev_iload_n (q_cod qk50 rfl) (by decide) rfl ?_
    refine em_lI (q_cod qk50 rfl) (by decide) hf (fun v46 hf => ?_)
    refine em_ic_ge (q_cod qk50 rfl) (by decide) hf (fun c53 hf => ?_) (fun c53 hf => ?_)
    · refine ev_aload_n (q_cod qk50 rfl) (by decide) rfl ?_
      refine ev_aload (q_cod qk50 rfl) (by decide) rfl ?_
      refine ev_iload_n (q_cod qk50 rfl) (by decide) rfl ?_
      refine ev_iload_n (q_cod qk50 rfl) (by decide) rfl ?_
      obtain ⟨g47, hf⟩ := m_aK_some hf
      refine em_call (v := (fun u => some (.int u))) (q_cod qk50 rfl) rfl rfl (q_cokV rfl rfl (Or.inr g47)) rfl (fun x e => f9_cl e) hf (fun v48 h hf => ?_)
      obtain ⟨g49, hf⟩ := m_aK_some hf
      refine em_call (v := (fun _ => none)) (q_cod qk50 rfl) rfl rfl (q_cokV rfl rfl (Or.inr g49)) rfl (fun x e => f48_cl e) hf (fun _ h hf => ?_)
      refine ev_goto (q_cod qk50 rfl) (by decide) ?_
      exact ev_weak (q_pk [] rfl) (f50_248_ok hf hK)
    · refine ev_aload_n (q_cod qk50 rfl) (by decide) rfl ?_
      refine ev_aload (q_cod qk50 rfl) (by decide) rfl ?_
      refine ev_iload_n (q_cod qk50 rfl) (by decide) rfl ?_
      refine ev_iload_n (q_cod qk50 rfl) (by decide) rfl ?_
      obtain ⟨g51, hf⟩ := m_aK_some hf
      refine em_call (v := (fun _ => none)) (q_cod qk50 rfl) rfl rfl (q_cokV rfl rfl (Or.inr g51)) rfl (fun x e => f55_cl e) hf (fun _ h hf => ?_)
      exact ev_weak (q_pk [] rfl) (f50_248_ok hf hK)
  rcases m_iteM hf with ⟨c54, hf⟩ | ⟨c54, hf⟩
  · refine ev_tsw (q_cod qk50 rfl) (by decide) (t := 204) (by rw [c54]; rfl) ?_
    refine ev_aload_n (q_cod qk50 rfl) (by decide) rfl ?_
    refine ev_aload (q_cod qk50 rfl) (by decide) rfl ?_
    refine ev_iload_n (q_cod qk50 rfl) (by decide) rfl ?_
    refine ev_iload_n (q_cod qk50 rfl) (by decide) rfl ?_
    obtain ⟨g55, hf⟩ := m_aK_some hf
    refine em_call (v := (fun _ => none)) (q_cod qk50 rfl) rfl rfl (q_cokV rfl rfl (Or.inr g55)) rfl (fun x e => f54_cl e) hf (fun _ h hf => ?_)
    refine ev_goto (q_cod qk50 rfl) (by decide) ?_
    exact ev_weak (q_pk [] rfl) (f50_248_ok hf hK)
  rcases m_iteM hf with ⟨c57, hf⟩ | ⟨c57, hf⟩
  · refine ev_tsw (q_cod qk50 rfl) (by decide) (t := 215) (by rw [c57]; rfl) ?_
    refine ev_iload_n (q_cod qk50 rfl) (by decide) rfl ?_
    refine ev_aload (q_cod qk50 rfl) (by decide) rfl ?_
    refine em_gR (q_cod qk50 rfl) (by decide) (by decide) hf (fun r58 hf => ?_)
    refine ev_iload_n (q_cod qk50 rfl) (by decide) rfl ?_
    refine em_lI (q_cod qk50 rfl) (by decide) hf (fun v59 hf => ?_)
    refine em_ic_ge (q_cod qk50 rfl) (by decide) hf (fun c66 hf => ?_) (fun c66 hf => ?_)
    · refine ev_aload_n (q_cod qk50 rfl) (by decide) rfl ?_
      refine ev_aload (q_cod qk50 rfl) (by decide) rfl ?_
      refine ev_iload_n (q_cod qk50 rfl) (by decide) rfl ?_
      refine ev_iload_n (q_cod qk50 rfl) (by decide) rfl ?_
      obtain ⟨g60, hf⟩ := m_aK_some hf
      refine em_call (v := (fun u => some (.int u))) (q_cod qk50 rfl) rfl rfl (q_cokV rfl rfl (Or.inr g60)) rfl (fun x e => f9_cl e) hf (fun v61 h hf => ?_)
      obtain ⟨g62, hf⟩ := m_aK_some hf
      refine em_call (v := (fun _ => none)) (q_cod qk50 rfl) rfl rfl (q_cokV rfl rfl (Or.inr g62)) rfl (fun x e => f48_cl e) hf (fun _ h hf => ?_)
      refine ev_goto (q_cod qk50 rfl) (by decide) ?_
      exact ev_weak (q_pk [] rfl) (f50_248_ok hf hK)
    · refine ev_aload_n (q_cod qk50 rfl) (by decide) rfl ?_
      refine ev_aload (q_cod qk50 rfl) (by decide) rfl ?_
      refine ev_iload_n (q_cod qk50 rfl) (by decide) rfl ?_
      refine ev_iload_n (q_cod qk50 rfl) (by decide) rfl ?_
      obtain ⟨g64, hf⟩ := m_aK_some hf
      refine em_call (v := (fun _ => none)) (q_cod qk50 rfl) rfl rfl (q_cokV rfl rfl (Or.inr g64)) rfl (fun x e => f55_cl e) hf (fun _ h hf => ?_)
      exact ev_weak (q_pk [] rfl) (f50_248_ok hf hK)
  rcases m_iteM hf with ⟨c67, hf⟩ | ⟨c67, hf⟩
  · refine ev_tsw (q_cod qk50 rfl) (by decide) (t := 215) (by rw [c67]; rfl) ?_
    refine ev_iload_n (q_cod qk50 rfl) (by decide) rfl ?_
    refine ev_aload (q_cod qk50 rfl) (by decide) rfl ?_
    refine em_gR (q_cod qk50 rfl) (by decide) (by decide) hf (fun r68 hf => ?_)
    refine ev_iload_n (q_cod qk50 rfl) (by decide) rfl ?_
    refine em_lI (q_cod qk50 rfl) (by decide) hf (fun v69 hf => ?_)
    refine em_ic_ge (q_cod qk50 rfl) (by decide) hf (fun c76 hf => ?_) (fun c76 hf => ?_)
    · refine ev_aload_n (q_cod qk50 rfl) (by decide) rfl ?_
      refine ev_aload (q_cod qk50 rfl) (by decide) rfl ?_
      refine ev_iload_n (q_cod qk50 rfl) (by decide) rfl ?_
      refine ev_iload_n (q_cod qk50 rfl) (by decide) rfl ?_
      obtain ⟨g70, hf⟩ := m_aK_some hf
      refine em_call (v := (fun u => some (.int u))) (q_cod qk50 rfl) rfl rfl (q_cokV rfl rfl (Or.inr g70)) rfl (fun x e => f9_cl e) hf (fun v71 h hf => ?_)
      obtain ⟨g72, hf⟩ := m_aK_some hf
      refine em_call (v := (fun _ => none)) (q_cod qk50 rfl) rfl rfl (q_cokV rfl rfl (Or.inr g72)) rfl (fun x e => f48_cl e) hf (fun _ h hf => ?_)
      refine ev_goto (q_cod qk50 rfl) (by decide) ?_
      exact ev_weak (q_pk [] rfl) (f50_248_ok hf hK)
    · refine ev_aload_n (q_cod qk50 rfl) (by decide) rfl ?_
      refine ev_aload (q_cod qk50 rfl) (by decide) rfl ?_
      refine ev_iload_n (q_cod qk50 rfl) (by decide) rfl ?_
      refine ev_iload_n (q_cod qk50 rfl) (by decide) rfl ?_
      obtain ⟨g74, hf⟩ := m_aK_some hf
      refine em_call (v := (fun _ => none)) (q_cod qk50 rfl) rfl rfl (q_cokV rfl rfl (Or.inr g74)) rfl (fun x e => f55_cl e) hf (fun _ h hf => ?_)
      exact ev_weak (q_pk [] rfl) (f50_248_ok hf hK)
  rcases m_iteM hf with ⟨c77, hf⟩ | ⟨c77, hf⟩
  · refine ev_tsw (q_cod qk50 rfl) (by decide) (t := 186) (by rw [c77]; rfl) ?_
    refine ev_aload_n (q_cod qk50 rfl) (by decide) rfl ?_
    refine ev_aload_n (q_cod qk50 rfl) (by decide) rfl ?_
    refine ev_aload (q_cod qk50 rfl) (by decide) rfl ?_
    refine em_gR (q_cod qk50 rfl) (by decide) (by decide) hf (fun r78 hf => ?_)
    refine ev_iload_n (q_cod qk50 rfl) (by decide) rfl ?_
    refine em_lI (q_cod qk50 rfl) (by decide) hf (fun v79 hf => ?_)
    obtain ⟨g80, hf⟩ := m_aK_some hf
    refine em_call (v := (fun u => some (.int u))) (q_cod qk50 rfl) rfl rfl (q_cokV rfl rfl (Or.inr g80)) rfl (fun x e => f46_cl e) hf (fun v81 h hf => ?_)
    obtain ⟨g82, hf⟩ := m_aK_some hf
    refine em_call (v := (fun _ => none)) (q_cod qk50 rfl) rfl rfl (q_cokV rfl rfl (Or.inr g82)) rfl (fun x e => f49_cl e) hf (fun _ h hf => ?_)
    refine ev_goto (q_cod qk50 rfl) (by decide) ?_
    exact ev_weak (q_pk [] rfl) (f50_248_ok hf hK)
  rcases m_iteM hf with ⟨c84, hf⟩ | ⟨c84, hf⟩
  · refine ev_tsw (q_cod qk50 rfl) (by decide) (t := 204) (by rw [c84]; rfl) ?_
    refine ev_aload_n (q_cod qk50 rfl) (by decide) rfl ?_
    refine ev_aload (q_cod qk50 rfl) (by decide) rfl ?_
    refine ev_iload_n (q_cod qk50 rfl) (by decide) rfl ?_
    refine ev_iload_n (q_cod qk50 rfl) (by decide) rfl ?_
    obtain ⟨g85, hf⟩ := m_aK_some hf
    refine em_call (v := (fun _ => none)) (q_cod qk50 rfl) rfl rfl (q_cokV rfl rfl (Or.inr g85)) rfl (fun x e => f54_cl e) hf (fun _ h hf => ?_)
    refine ev_goto (q_cod qk50 rfl) (by decide) ?_
    exact ev_weak (q_pk [] rfl) (f50_248_ok hf hK)
  rcases m_iteM hf with ⟨c87, hf⟩ | ⟨c87, hf⟩
  · refine ev_tsw (q_cod qk50 rfl) (by decide) (t := 204) (by rw [c87]; rfl) ?_
    refine ev_aload_n (q_cod qk50 rfl) (by decide) rfl ?_
    refine ev_aload (q_cod qk50 rfl) (by decide) rfl ?_
    refine ev_iload_n (q_cod qk50 rfl) (by decide) rfl ?_
    refine ev_iload_n (q_cod qk50 rfl) (by decide) rfl ?_
    obtain ⟨g88, hf⟩ := m_aK_some hf
    refine em_call (v := (fun _ => none)) (q_cod qk50 rfl) rfl rfl (q_cokV rfl rfl (Or.inr g88)) rfl (fun x e => f54_cl e) hf (fun _ h hf => ?_)
    refine ev_goto (q_cod qk50 rfl) (by decide) ?_
    exact ev_weak (q_pk [] rfl) (f50_248_ok hf hK)
  rcases m_iteM hf with ⟨c90, hf⟩ | ⟨c90, hf⟩
  · refine ev_tsw (q_cod qk50 rfl) (by decide) (t := 215) (by rw [c90]; rfl) ?_
    refine ev_iload_n (q_cod qk50 rfl) (by decide) rfl ?_
    refine ev_aload (q_cod qk50 rfl) (by decide) rfl ?_
    refine em_gR (q_cod qk50 rfl) (by decide) (by decide) hf (fun r91 hf => ?_)
    refine ev_iload_n (q_cod qk50 rfl) (by decide) rfl ?_
    refine em_lI (q_cod qk50 rfl) (by decide) hf (fun v92 hf => ?_)
    refine em_ic_ge (q_cod qk50 rfl) (by decide) hf (fun c99 hf => ?_) (fun c99 hf => ?_)
    · refine ev_aload_n (q_cod qk50 rfl) (by decide) rfl ?_
      refine ev_aload (q_cod qk50 rfl) (by decide) rfl ?_
      refine ev_iload_n (q_cod qk50 rfl) (by decide) rfl ?_
      refine ev_iload_n (q_cod qk50 rfl) (by decide) rfl ?_
      obtain ⟨g93, hf⟩ := m_aK_some hf
      refine em_call (v := (fun u => some (.int u))) (q_cod qk50 rfl) rfl rfl (q_cokV rfl rfl (Or.inr g93)) rfl (fun x e => f9_cl e) hf (fun v94 h hf => ?_)
      obtain ⟨g95, hf⟩ := m_aK_some hf
      refine em_call (v := (fun _ => none)) (q_cod qk50 rfl) rfl rfl (q_cokV rfl rfl (Or.inr g95)) rfl (fun x e => f48_cl e) hf (fun _ h hf => ?_)
      refine ev_goto (q_cod qk50 rfl) (by decide) ?_
      exact ev_weak (q_pk [] rfl) (f50_248_ok hf hK)
    · refine ev_aload_n (q_cod qk50 rfl) (by decide) rfl ?_
      refine ev_aload (q_cod qk50 rfl) (by decide) rfl ?_
      refine ev_iload_n (q_cod qk50 rfl) (by decide) rfl ?_
      refine ev_iload_n (q_cod qk50 rfl) (by decide) rfl ?_
      obtain ⟨g97, hf⟩ := m_aK_some hf
      refine em_call (v := (fun _ => none)) (q_cod qk50 rfl) rfl rfl (q_cokV rfl rfl (Or.inr g97)) rfl (fun x e => f55_cl e) hf (fun _ h hf => ?_)
      exact ev_weak (q_pk [] rfl) (f50_248_ok hf hK)
  rcases m_iteM hf with ⟨c100, hf⟩ | ⟨c100, hf⟩
  · refine ev_tsw (q_cod qk50 rfl) (by decide) (t := 215) (by rw [c100]; rfl) ?_
    refine ev_iload_n (q_cod qk50 rfl) (by decide) rfl ?_
    refine ev_aload (q_cod qk50 rfl) (by decide) rfl ?_
    refine em_gR (q_cod qk50 rfl) (by decide) (by decide) hf (fun r101 hf => ?_)
    refine ev_iload_n (q_cod qk50 rfl) (by decide) rfl ?_
    refine em_lI (q_cod qk50 rfl) (by decide) hf (fun v102 hf => ?_)
    refine em_ic_ge (q_cod qk50 rfl) (by decide) hf (fun c109 hf => ?_) (fun c109 hf => ?_)
    · refine ev_aload_n (q_cod qk50 rfl) (by decide) rfl ?_
      refine ev_aload (q_cod qk50 rfl) (by decide) rfl ?_
      refine ev_iload_n (q_cod qk50 rfl) (by decide) rfl ?_
      refine ev_iload_n (q_cod qk50 rfl) (by decide) rfl ?_
      obtain ⟨g103, hf⟩ := m_aK_some hf
      refine em_call (v := (fun u => some (.int u))) (q_cod qk50 rfl) rfl rfl (q_cokV rfl rfl (Or.inr g103)) rfl (fun x e => f9_cl e) hf (fun v104 h hf => ?_)
      obtain ⟨g105, hf⟩ := m_aK_some hf
      refine em_call (v := (fun _ => none)) (q_cod qk50 rfl) rfl rfl (q_cokV rfl rfl (Or.inr g105)) rfl (fun x e => f48_cl e) hf (fun _ h hf => ?_)
      refine ev_goto (q_cod qk50 rfl) (by decide) ?_
      exact ev_weak (q_pk [] rfl) (f50_248_ok hf hK)
    · refine ev_aload_n (q_cod qk50 rfl) (by decide) rfl ?_
      refine ev_aload (q_cod qk50 rfl) (by decide) rfl ?_
      refine ev_iload_n (q_cod qk50 rfl) (by decide) rfl ?_
      refine ev_iload_n (q_cod qk50 rfl) (by decide) rfl ?_
      obtain ⟨g107, hf⟩ := m_aK_some hf
      refine em_call (v := (fun _ => none)) (q_cod qk50 rfl) rfl rfl (q_cokV rfl rfl (Or.inr g107)) rfl (fun x e => f55_cl e) hf (fun _ h hf => ?_)
      exact ev_weak (q_pk [] rfl) (f50_248_ok hf hK)
  rcases m_iteM hf with ⟨c110, hf⟩ | ⟨c110, hf⟩
  · refine ev_tsw (q_cod qk50 rfl) (by decide) (t := 204) (by rw [c110]; rfl) ?_
    refine ev_aload_n (q_cod qk50 rfl) (by decide) rfl ?_
    refine ev_aload (q_cod qk50 rfl) (by decide) rfl ?_
    refine ev_iload_n (q_cod qk50 rfl) (by decide) rfl ?_
    refine ev_iload_n (q_cod qk50 rfl) (by decide) rfl ?_
    obtain ⟨g111, hf⟩ := m_aK_some hf
    refine em_call (v := (fun _ => none)) (q_cod qk50 rfl) rfl rfl (q_cokV rfl rfl (Or.inr g111)) rfl (fun x e => f54_cl e) hf (fun _ h hf => ?_)
    refine ev_goto (q_cod qk50 rfl) (by decide) ?_
    exact ev_weak (q_pk [] rfl) (f50_248_ok hf hK)
  refine ev_tsw (q_cod qk50 rfl) (by decide) (t := 215) (by rw [if_pos (by omega)]; rfl) ?_
  refine ev_iload_n (q_cod qk50 rfl) (by decide) rfl ?_
  refine ev_aload (q_cod qk50 rfl) (by decide) rfl ?_
  refine em_gR (q_cod qk50 rfl) (by decide) (by decide) hf (fun r113 hf => ?_)
  refine ev_iload_n (q_cod qk50 rfl) (by decide) rfl ?_
  refine em_lI (q_cod qk50 rfl) (by decide) hf (fun v114 hf => ?_)
  refine em_ic_ge (q_cod qk50 rfl) (by decide) hf (fun c121 hf => ?_) (fun c121 hf => ?_)
  · refine ev_aload_n (q_cod qk50 rfl) (by decide) rfl ?_
    refine ev_aload (q_cod qk50 rfl) (by decide) rfl ?_
    refine ev_iload_n (q_cod qk50 rfl) (by decide) rfl ?_
    refine ev_iload_n (q_cod qk50 rfl) (by decide) rfl ?_
    obtain ⟨g115, hf⟩ := m_aK_some hf
    refine em_call (v := (fun u => some (.int u))) (q_cod qk50 rfl) rfl rfl (q_cokV rfl rfl (Or.inr g115)) rfl (fun x e => f9_cl e) hf (fun v116 h hf => ?_)
    obtain ⟨g117, hf⟩ := m_aK_some hf
    refine em_call (v := (fun _ => none)) (q_cod qk50 rfl) rfl rfl (q_cokV rfl rfl (Or.inr g117)) rfl (fun x e => f48_cl e) hf (fun _ h hf => ?_)
    refine ev_goto (q_cod qk50 rfl) (by decide) ?_
    exact ev_weak (q_pk [] rfl) (f50_248_ok hf hK)
  · refine ev_aload_n (q_cod qk50 rfl) (by decide) rfl ?_
    refine ev_aload (q_cod qk50 rfl) (by decide) rfl ?_
    refine ev_iload_n (q_cod qk50 rfl) (by decide) rfl ?_
    refine ev_iload_n (q_cod qk50 rfl) (by decide) rfl ?_
    obtain ⟨g119, hf⟩ := m_aK_some hf
    refine em_call (v := (fun _ => none)) (q_cod qk50 rfl) rfl rfl (q_cokV rfl rfl (Or.inr g119)) rfl (fun x e => f55_cl e) hf (fun _ h hf => ?_)
    exact ev_weak (q_pk [] rfl) (f50_248_ok hf hK)
theorem f50_cl {l0 : Nat} {h : q_H} {x : Unit × q_H} (hf : f50 l0 h = some x) : q_Cl 50 [.ref l0] h (.inl none) x.2 := q_Cl.of rfl (q_LvS rfl rfl) (f50_ok hf ⟨rfl, rfl⟩)
