/-! SmithyBenchModel.undo()I -/
theorem qk308 : q_cs.getD 308 [] = qc_308 := rfl
def f308_13 (l0 : Nat) (s0 : Nat) (s1 : Int32) : m_M Int32 :=
  m_B (m_aK s0 12) (fun _ => m_B (f178 s0 s1) (fun v2 => if v2 = 0 then (m_B (m_gI 12 l0 2) (fun v3 => m_B (m_pI 12 l0 2 (v3 - 1)) (fun _ => m_B (m_gI 12 l0 2) (fun v4 => m_B (m_aK l0 12) (fun _ => m_B (f203 l0 (3 + v4) 0) (fun _ => m_B (m_gI 12 l0 2) (fun v7 => m_R v7))))))) else (m_R 0)))
theorem f308_13_ok {l0 : Nat} {s0 : Nat} {s1 : Int32} {h : q_H} {o : q_O} {hz : q_H} {x : Int32 × q_H} (hf : f308_13 l0 s0 s1 h = some x) (hK : (q_KI o hz) x) : q_Ev none 308 13 [(0, .ref l0)] [.int s1, .ref s0] h o hz := by
  unfold f308_13 at hf
  obtain ⟨g1, hf⟩ := m_aK_some hf
  refine em_call (v := (fun u => some (.int u))) (q_cod qk308 rfl) rfl rfl (q_cokV rfl rfl (Or.inr g1)) rfl (fun x e => f178_cl e) hf (fun v2 h hf => ?_)
  refine em_if_eq (q_cod qk308 rfl) (by decide) hf (fun c8 hf => ?_) (fun c8 hf => ?_)
  · refine ev_aload_n (q_cod qk308 rfl) (by decide) rfl ?_
    refine ev_dup (q_cod qk308 rfl) (by decide) rfl ?_
    refine em_gI (q_cod qk308 rfl) (by decide) (by decide) hf (fun v3 hf => ?_)
    refine ev_ic (v := 1) (q_cod qk308 rfl) (by decide) (by decide) ?_
    refine ev_isub (q_cod qk308 rfl) (by decide) ?_
    refine em_pI (q_cod qk308 rfl) (by decide) (by decide) (by decide) hf (fun hf => ?_)
    refine ev_aload_n (q_cod qk308 rfl) (by decide) rfl ?_
    refine ev_ic (v := 3) (q_cod qk308 rfl) (by decide) (by decide) ?_
    refine ev_aload_n (q_cod qk308 rfl) (by decide) rfl ?_
    refine em_gI (q_cod qk308 rfl) (by decide) (by decide) hf (fun v4 hf => ?_)
    refine ev_iadd (q_cod qk308 rfl) (by decide) ?_
    refine ev_ic (v := 0) (q_cod qk308 rfl) (by decide) (by decide) ?_
    obtain ⟨g5, hf⟩ := m_aK_some hf
    refine em_call (v := (fun _ => none)) (q_cod qk308 rfl) rfl rfl (q_cokV rfl rfl (Or.inr g5)) rfl (fun x e => f203_cl e) hf (fun _ h hf => ?_)
    refine ev_aload_n (q_cod qk308 rfl) (by decide) rfl ?_
    refine em_gI (q_cod qk308 rfl) (by decide) (by decide) hf (fun v7 hf => ?_)
    obtain rfl := m_R_inv hf
    obtain ⟨rfl, rfl⟩ := (show q_KI o hz (v7, _) from hK)
    exact ev_ret (q_cod qk308 rfl) rfl
  · refine ev_ic (v := 0) (q_cod qk308 rfl) (by decide) (by decide) ?_
    obtain rfl := m_R_inv hf
    obtain ⟨rfl, rfl⟩ := (show q_KI o hz (0, _) from hK)
    exact ev_ret (q_cod qk308 rfl) rfl
def f308 (l0 : Nat) : m_M Int32 :=
  m_B (m_gI 12 l0 2) (fun v1 => if v1 = 0 then (f308_13 l0 l0 1) else (f308_13 l0 l0 0))
theorem f308_ok {l0 : Nat} {h : q_H} {o : q_O} {hz : q_H} {x : Int32 × q_H} (hf : f308 l0 h = some x) (hK : (q_KI o hz) x) : q_Ev none 308 0 [(0, .ref l0)] [] h o hz := by
  unfold f308 at hf
  refine ev_aload_n (q_cod qk308 rfl) (by decide) rfl ?_
  refine ev_aload_n (q_cod qk308 rfl) (by decide) rfl ?_
  refine em_gI (q_cod qk308 rfl) (by decide) (by decide) hf (fun v1 hf => ?_)
  refine em_if_ne (q_cod qk308 rfl) (by decide) hf (fun c2 hf => ?_) (fun c2 hf => ?_)
  · refine ev_ic (v := 1) (q_cod qk308 rfl) (by decide) (by decide) ?_
    refine ev_goto (q_cod qk308 rfl) (by decide) ?_
    exact (f308_13_ok hf hK)
  · refine ev_ic (v := 0) (q_cod qk308 rfl) (by decide) (by decide) ?_
    exact (f308_13_ok hf hK)
theorem f308_cl {l0 : Nat} {h : q_H} {x : Int32 × q_H} (hf : f308 l0 h = some x) : q_Cl 308 [.ref l0] h (.inl (some (.int x.1))) x.2 := q_Cl.of rfl (q_LvS rfl rfl) (f308_ok hf ⟨rfl, rfl⟩)
