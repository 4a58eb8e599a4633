/-! SmithyBenchModel.isClass(II)Z -/
theorem qk204 : q_cs.getD 204 [] = qc_204 := rfl
def f204 (l0 : Nat) (l1 : Int32) (l2 : Int32) : m_M Int32 :=
  m_B (m_gR 12 l0 1) (fun r1 => m_B (m_lI r1 (14200 * l1)) (fun v2 => m_B (f179 l2 0 (v2 - 1)) (fun v3 => m_B (m_G (v3 = 0 ∨ v3 = 1)) (fun _ => m_R v3))))
theorem f204_ok {l0 : Nat} {l1 : Int32} {l2 : Int32} {h : q_H} {o : q_O} {hz : q_H} {x : Int32 × q_H} (hf : f204 l0 l1 l2 h = some x) (hK : (q_KI o hz) x) : q_Ev none 204 0 [(0, .ref l0), (1, .int l1), (2, .int l2)] [] h o hz := by
  unfold f204 at hf
  refine ev_iload_n (q_cod qk204 rfl) (by decide) rfl ?_
  refine ev_ic (v := 0) (q_cod qk204 rfl) (by decide) (by decide) ?_
  refine ev_aload_n (q_cod qk204 rfl) (by decide) rfl ?_
  refine em_gR (q_cod qk204 rfl) (by decide) (by decide) hf (fun r1 hf => ?_)
  refine ev_si (v := 14200) (q_cod qk204 rfl) (by decide) (by decide) ?_
  refine ev_iload_n (q_cod qk204 rfl) (by decide) rfl ?_
  refine ev_imul (q_cod qk204 rfl) (by decide) ?_
  refine em_lI (q_cod qk204 rfl) (by decide) hf (fun v2 hf => ?_)
  refine ev_ic (v := 1) (q_cod qk204 rfl) (by decide) (by decide) ?_
  refine ev_isub (q_cod qk204 rfl) (by decide) ?_
  refine em_call (v := (fun u => some (.int u))) (q_cod qk204 rfl) rfl rfl (q_cokS rfl rfl) rfl (fun x e => f179_cl e) hf (fun v3 h hf => ?_)
  obtain ⟨g4, hf⟩ := m_G_some hf
  obtain rfl := m_R_inv hf
  obtain ⟨rfl, rfl⟩ := (show q_KI o hz (v3, _) from hK)
  exact ev_ret (q_cod qk204 rfl) (q_retZ g4)
theorem f204_cl {l0 : Nat} {l1 : Int32} {l2 : Int32} {h : q_H} {x : Int32 × q_H} (hf : f204 l0 l1 l2 h = some x) : q_Cl 204 [.ref l0, .int l1, .int l2] h (.inl (some (.int x.1))) x.2 := q_Cl.of rfl (q_LvS rfl rfl) (f204_ok hf ⟨rfl, rfl⟩)
/-! SmithyBenchModel.make(I)I -/
theorem qk192 : q_cs.getD 192 [] = qc_192 := rfl
def f192_50 (s0 : Int32) : m_M Int32 :=
  m_R s0
theorem f192_50_ok {s0 : Int32} {h : q_H} {o : q_O} {hz : q_H} {x : Int32 × q_H} (hf : f192_50 s0 h = some x) (hK : (q_KI o hz) x) : q_Ev none 192 50 [] [.int s0] h o hz := by
  unfold f192_50 at hf
  obtain rfl := m_R_inv hf
  obtain ⟨rfl, rfl⟩ := (show q_KI o hz (s0, _) from hK)
  exact ev_ret (q_cod qk192 rfl) rfl
def f192_29 (l0 : Nat) (l1 : Int32) (s0 : Nat) (s1 : Int32) : m_M Int32 :=
  m_B (m_aK s0 12) (fun _ => m_B (f178 s0 s1) (fun v2 => if v2 = 0 then (m_B (m_aK l0 12) (fun _ => m_B (f182 l0 8 l1 0 0 0 0) (fun v4 => f192_50 v4))) else (f192_50 0)))
theorem f192_29_ok {l0 : Nat} {l1 : Int32} {s0 : Nat} {s1 : Int32} {h : q_H} {o : q_O} {hz : q_H} {x : Int32 × q_H} (hf : f192_29 l0 l1 s0 s1 h = some x) (hK : (q_KI o hz) x) : q_Ev none 192 29 [(0, .ref l0), (1, .int l1)] [.int s1, .ref s0] h o hz := by
  unfold f192_29 at hf
  obtain ⟨g1, hf⟩ := m_aK_some hf
  refine em_call (v := (fun u => some (.int u))) (q_cod qk192 rfl) rfl rfl (q_cokV rfl rfl (Or.inr g1)) rfl (fun x e => f178_cl e) hf (fun v2 h hf => ?_)
  refine em_if_eq (q_cod qk192 rfl) (by decide) hf (fun c5 hf => ?_) (fun c5 hf => ?_)
  · refine ev_aload_n (q_cod qk192 rfl) (by decide) rfl ?_
    refine ev_bi (v := 8) (q_cod qk192 rfl) (by decide) (by decide) ?_
    refine ev_iload_n (q_cod qk192 rfl) (by decide) rfl ?_
    refine ev_ic (v := 0) (q_cod qk192 rfl) (by decide) (by decide) ?_
    refine ev_ic (v := 0) (q_cod qk192 rfl) (by decide) (by decide) ?_
    refine ev_ic (v := 0) (q_cod qk192 rfl) (by decide) (by decide) ?_
    refine ev_ic (v := 0) (q_cod qk192 rfl) (by decide) (by decide) ?_
    obtain ⟨g3, hf⟩ := m_aK_some hf
    refine em_call (v := (fun u => some (.int u))) (q_cod qk192 rfl) rfl rfl (q_cokV rfl rfl (Or.inr g3)) rfl (fun x e => f182_cl e) hf (fun v4 h hf => ?_)
    exact ev_weak (q_pk [] rfl) (f192_50_ok hf hK)
  · refine ev_ic (v := 0) (q_cod qk192 rfl) (by decide) (by decide) ?_
    refine ev_goto (q_cod qk192 rfl) (by decide) ?_
    exact ev_weak (q_pk [] rfl) (f192_50_ok hf hK)
def f192 (l0 : Nat) (l1 : Int32) : m_M Int32 :=
  m_B (m_aK l0 12) (fun _ => m_B (f204 l0 0 l1) (fun v2 => if v2 = 0 then (f192_29 l0 l1 l0 1) else (m_B (m_gI 12 l0 4) (fun v3 => if v3 = 150 then (f192_29 l0 l1 l0 2) else (f192_29 l0 l1 l0 0)))))
theorem f192_ok {l0 : Nat} {l1 : Int32} {h : q_H} {o : q_O} {hz : q_H} {x : Int32 × q_H} (hf : f192 l0 l1 h = some x) (hK : (q_KI o hz) x) : q_Ev none 192 0 [(0, .ref l0), (1, .int l1)] [] h o hz := by
  unfold f192 at hf
  refine ev_aload_n (q_cod qk192 rfl) (by decide) rfl ?_
  refine ev_aload_n (q_cod qk192 rfl) (by decide) rfl ?_
  refine ev_ic (v := 0) (q_cod qk192 rfl) (by decide) (by decide) ?_
  refine ev_iload_n (q_cod qk192 rfl) (by decide) rfl ?_
  obtain ⟨g1, hf⟩ := m_aK_some hf
  refine em_call (v := (fun u => some (.int u))) (q_cod qk192 rfl) rfl rfl (q_cokV rfl rfl (Or.inr g1)) rfl (fun x e => f204_cl e) hf (fun v2 h hf => ?_)
  refine em_if_ne (q_cod qk192 rfl) (by decide) hf (fun c5 hf => ?_) (fun c5 hf => ?_)
  · refine ev_ic (v := 1) (q_cod qk192 rfl) (by decide) (by decide) ?_
    refine ev_goto (q_cod qk192 rfl) (by decide) ?_
    exact (f192_29_ok hf hK)
  · refine ev_aload_n (q_cod qk192 rfl) (by decide) rfl ?_
    refine em_gI (q_cod qk192 rfl) (by decide) (by decide) hf (fun v3 hf => ?_)
    refine ev_si (v := 150) (q_cod qk192 rfl) (by decide) (by decide) ?_
    refine em_ic_ne (q_cod qk192 rfl) (by decide) hf (fun c4 hf => ?_) (fun c4 hf => ?_)
    · refine ev_ic (v := 2) (q_cod qk192 rfl) (by decide) (by decide) ?_
      refine ev_goto (q_cod qk192 rfl) (by decide) ?_
      exact (f192_29_ok hf hK)
    · refine ev_ic (v := 0) (q_cod qk192 rfl) (by decide) (by decide) ?_
      exact (f192_29_ok hf hK)
theorem f192_cl {l0 : Nat} {l1 : Int32} {h : q_H} {x : Int32 × q_H} (hf : f192 l0 l1 h = some x) : q_Cl 192 [.ref l0, .int l1] h (.inl (some (.int x.1))) x.2 := q_Cl.of rfl (q_LvS rfl rfl) (f192_ok hf ⟨rfl, rfl⟩)
/-! SmithyBenchModel.two(III)I -/
theorem qk193 : q_cs.getD 193 [] = qc_193 := rfl
def f193_82 (l2 : Int32) (l3 : Int32) (s0 : Nat) (s1 : Int32) (s2 : Int32) : m_M Int32 :=
  m_B (m_aK s0 12) (fun _ => m_B (f182 s0 s1 s2 0 l2 l3 0) (fun v2 => m_R v2))
theorem f193_82_ok {l2 : Int32} {l3 : Int32} {s0 : Nat} {s1 : Int32} {s2 : Int32} {h : q_H} {o : q_O} {hz : q_H} {x : Int32 × q_H} (hf : f193_82 l2 l3 s0 s1 s2 h = some x) (hK : (q_KI o hz) x) : q_Ev none 193 82 [(2, .int l2), (3, .int l3)] [.int s2, .int s1, .ref s0] h o hz := by
  unfold f193_82 at hf
  refine ev_ic (v := 0) (q_cod qk193 rfl) (by decide) (by decide) ?_
  refine ev_iload_n (q_cod qk193 rfl) (by decide) rfl ?_
  refine ev_iload_n (q_cod qk193 rfl) (by decide) rfl ?_
  refine ev_ic (v := 0) (q_cod qk193 rfl) (by decide) (by decide) ?_
  obtain ⟨g1, hf⟩ := m_aK_some hf
  refine em_call (v := (fun u => some (.int u))) (q_cod qk193 rfl) rfl rfl (q_cokV rfl rfl (Or.inr g1)) rfl (fun x e => f182_cl e) hf (fun v2 h hf => ?_)
  obtain rfl := m_R_inv hf
  obtain ⟨rfl, rfl⟩ := (show q_KI o hz (v2, _) from hK)
  exact ev_ret (q_cod qk193 rfl) rfl
def f193_65 (l0 : Nat) (l1 : Int32) (l2 : Int32) (l3 : Int32) (s0 : Int32) : m_M Int32 :=
  if l1 < 2 then (f193_82 l2 l3 l0 s0 0) else (f193_82 l2 l3 l0 s0 (l1 - 2))
theorem f193_65_ok {l0 : Nat} {l1 : Int32} {l2 : Int32} {l3 : Int32} {s0 : Int32} {h : q_H} {o : q_O} {hz : q_H} {x : Int32 × q_H} (hf : f193_65 l0 l1 l2 l3 s0 h = some x) (hK : (q_KI o hz) x) : q_Ev none 193 65 [(0, .ref l0), (1, .int l1), (2, .int l2), (3, .int l3)] [.int s0] h o hz := by
  unfold f193_65 at hf
  refine ev_is2 (L' := [(0, .ref l0), (1, .int l1), (2, .int l2), (3, .int l3), (5, .int s0)]) (q_cod qk193 rfl) (by decide) rfl ?_
  refine ev_aload_n (q_cod qk193 rfl) (by decide) rfl ?_
  refine ev_iload (q_cod qk193 rfl) (by decide) rfl ?_
  refine ev_iload_n (q_cod qk193 rfl) (by decide) rfl ?_
  refine ev_ic (v := 2) (q_cod qk193 rfl) (by decide) (by decide) ?_
  refine em_ic_ge (q_cod qk193 rfl) (by decide) hf (fun c1 hf => ?_) (fun c1 hf => ?_)
  · refine ev_ic (v := 0) (q_cod qk193 rfl) (by decide) (by decide) ?_
    refine ev_goto (q_cod qk193 rfl) (by decide) ?_
    exact ev_weak (q_pk [2, 3] rfl) (f193_82_ok hf hK)
  · refine ev_iload_n (q_cod qk193 rfl) (by decide) rfl ?_
    refine ev_ic (v := 2) (q_cod qk193 rfl) (by decide) (by decide) ?_
    refine ev_isub (q_cod qk193 rfl) (by decide) ?_
    exact ev_weak (q_pk [2, 3] rfl) (f193_82_ok hf hK)
def f193_21 (l0 : Nat) (l1 : Int32) (l2 : Int32) (l3 : Int32) (s0 : Int32) : m_M Int32 :=
  m_B (f179 l1 0 5) (fun v1 => m_B (m_aK l0 12) (fun _ => m_B (f184 l0 s0 v1) (fun v3 => m_B (m_aK l0 12) (fun _ => m_B (f178 l0 v3) (fun v5 => if v5 = 0 then (if l1 = 0 then (f193_65 l0 l1 l2 l3 9) else (if l1 = 1 then (f193_65 l0 l1 l2 l3 13) else (f193_65 l0 l1 l2 l3 11))) else (m_R 0))))))
theorem f193_21_ok {l0 : Nat} {l1 : Int32} {l2 : Int32} {l3 : Int32} {s0 : Int32} {h : q_H} {o : q_O} {hz : q_H} {x : Int32 × q_H} (hf : f193_21 l0 l1 l2 l3 s0 h = some x) (hK : (q_KI o hz) x) : q_Ev none 193 21 [(0, .ref l0), (1, .int l1), (2, .int l2), (3, .int l3)] [.int s0] h o hz := by
  unfold f193_21 at hf
  refine ev_is2 (L' := [(0, .ref l0), (1, .int l1), (2, .int l2), (3, .int l3), (4, .int s0)]) (q_cod qk193 rfl) (by decide) rfl ?_
  refine ev_aload_n (q_cod qk193 rfl) (by decide) rfl ?_
  refine ev_aload_n (q_cod qk193 rfl) (by decide) rfl ?_
  refine ev_iload (q_cod qk193 rfl) (by decide) rfl ?_
  refine ev_iload_n (q_cod qk193 rfl) (by decide) rfl ?_
  refine ev_ic (v := 0) (q_cod qk193 rfl) (by decide) (by decide) ?_
  refine ev_ic (v := 5) (q_cod qk193 rfl) (by decide) (by decide) ?_
  refine em_call (v := (fun u => some (.int u))) (q_cod qk193 rfl) rfl rfl (q_cokS rfl rfl) rfl (fun x e => f179_cl e) hf (fun v1 h hf => ?_)
  obtain ⟨g2, hf⟩ := m_aK_some hf
  refine em_call (v := (fun u => some (.int u))) (q_cod qk193 rfl) rfl rfl (q_cokV rfl rfl (Or.inr g2)) rfl (fun x e => f184_cl e) hf (fun v3 h hf => ?_)
  obtain ⟨g4, hf⟩ := m_aK_some hf
  refine em_call (v := (fun u => some (.int u))) (q_cod qk193 rfl) rfl rfl (q_cokV rfl rfl (Or.inr g4)) rfl (fun x e => f178_cl e) hf (fun v5 h hf => ?_)
  refine em_if_eq (q_cod qk193 rfl) (by decide) hf (fun c8 hf => ?_) (fun c8 hf => ?_)
  · refine ev_iload_n (q_cod qk193 rfl) (by decide) rfl ?_
    refine em_if_ne (q_cod qk193 rfl) (by decide) hf (fun c7 hf => ?_) (fun c7 hf => ?_)
    · refine ev_bi (v := 9) (q_cod qk193 rfl) (by decide) (by decide) ?_
      refine ev_goto (q_cod qk193 rfl) (by decide) ?_
      exact ev_weak (q_pk [0, 1, 2, 3] rfl) (f193_65_ok hf hK)
    · refine ev_iload_n (q_cod qk193 rfl) (by decide) rfl ?_
      refine ev_ic (v := 1) (q_cod qk193 rfl) (by decide) (by decide) ?_
      refine em_ic_ne (q_cod qk193 rfl) (by decide) hf (fun c6 hf => ?_) (fun c6 hf => ?_)
      · refine ev_bi (v := 13) (q_cod qk193 rfl) (by decide) (by decide) ?_
        refine ev_goto (q_cod qk193 rfl) (by decide) ?_
        exact ev_weak (q_pk [0, 1, 2, 3] rfl) (f193_65_ok hf hK)
      · refine ev_bi (v := 11) (q_cod qk193 rfl) (by decide) (by decide) ?_
        exact ev_weak (q_pk [0, 1, 2, 3] rfl) (f193_65_ok hf hK)
  · refine ev_ic (v := 0) (q_cod qk193 rfl) (by decide) (by decide) ?_
    obtain rfl := m_R_inv hf
    obtain ⟨rfl, rfl⟩ := (show q_KI o hz (0, _) from hK)
    exact ev_ret (q_cod qk193 rfl) rfl
def f193_20 (l0 : Nat) (l1 : Int32) (l2 : Int32) (l3 : Int32) : m_M Int32 :=
  f193_21 l0 l1 l2 l3 0
theorem f193_20_ok {l0 : Nat} {l1 : Int32} {l2 : Int32} {l3 : Int32} {h : q_H} {o : q_O} {hz : q_H} {x : Int32 × q_H} (hf : f193_20 l0 l1 l2 l3 h = some x) (hK : (q_KI o hz) x) : q_Ev none 193 20 [(0, .ref l0), (1, .int l1), (2, .int l2), (3, .int l3)] [] h o hz := by
  unfold f193_20 at hf
  refine ev_ic (v := 0) (q_cod qk193 rfl) (by decide) (by decide) ?_
  exact (f193_21_ok hf hK)
def f193 (l0 : Nat) (l1 : Int32) (l2 : Int32) (l3 : Int32) : m_M Int32 :=
  m_B (m_aK l0 12) (fun _ => m_B (f181 l0 l2) (fun v2 => if v2 = 0 then (f193_20 l0 l1 l2 l3) else (m_B (m_aK l0 12) (fun _ => m_B (f181 l0 l3) (fun v4 => if v4 = 0 then (f193_20 l0 l1 l2 l3) else (f193_21 l0 l1 l2 l3 1))))))
theorem f193_ok {l0 : Nat} {l1 : Int32} {l2 : Int32} {l3 : Int32} {h : q_H} {o : q_O} {hz : q_H} {x : Int32 × q_H} (hf : f193 l0 l1 l2 l3 h = some x) (hK : (q_KI o hz) x) : q_Ev none 193 0 [(0, .ref l0), (1, .int l1), (2, .int l2), (3, .int l3)] [] h o hz := by
  unfold f193 at hf
  refine ev_aload_n (q_cod qk193 rfl) (by decide) rfl ?_
  refine ev_iload_n (q_cod qk193 rfl) (by decide) rfl ?_
  obtain ⟨g1, hf⟩ := m_aK_some hf
  refine em_call (v := (fun u => some (.int u))) (q_cod qk193 rfl) rfl rfl (q_cokV rfl rfl (Or.inr g1)) rfl (fun x e => f181_cl e) hf (fun v2 h hf => ?_)
  refine em_if_eq (q_cod qk193 rfl) (by decide) hf (fun c6 hf => ?_) (fun c6 hf => ?_)
  · exact (f193_20_ok hf hK)
  · refine ev_aload_n (q_cod qk193 rfl) (by decide) rfl ?_
    refine ev_iload_n (q_cod qk193 rfl) (by decide) rfl ?_
    obtain ⟨g3, hf⟩ := m_aK_some hf
    refine em_call (v := (fun u => some (.int u))) (q_cod qk193 rfl) rfl rfl (q_cokV rfl rfl (Or.inr g3)) rfl (fun x e => f181_cl e) hf (fun v4 h hf => ?_)
    refine em_if_eq (q_cod qk193 rfl) (by decide) hf (fun c5 hf => ?_) (fun c5 hf => ?_)
    · exact (f193_20_ok hf hK)
    · refine ev_ic (v := 1) (q_cod qk193 rfl) (by decide) (by decide) ?_
      refine ev_goto (q_cod qk193 rfl) (by decide) ?_
      exact (f193_21_ok hf hK)
theorem f193_cl {l0 : Nat} {l1 : Int32} {l2 : Int32} {l3 : Int32} {h : q_H} {x : Int32 × q_H} (hf : f193 l0 l1 l2 l3 h = some x) : q_Cl 193 [.ref l0, .int l1, .int l2, .int l3] h (.inl (some (.int x.1))) x.2 := q_Cl.of rfl (q_LvS rfl rfl) (f193_ok hf ⟨rfl, rfl⟩)
/-! SmithyBenchModel.test(III)I -/
theorem qk194 : q_cs.getD 194 [] = qc_194 := rfl
def f194_77 (s0 : Int32) : m_M Int32 :=
  m_R s0
theorem f194_77_ok {s0 : Int32} {h : q_H} {o : q_O} {hz : q_H} {x : Int32 × q_H} (hf : f194_77 s0 h = some x) (hK : (q_KI o hz) x) : q_Ev none 194 77 [] [.int s0] h o hz := by
  unfold f194_77 at hf
  obtain rfl := m_R_inv hf
  obtain ⟨rfl, rfl⟩ := (show q_KI o hz (s0, _) from hK)
  exact ev_ret (q_cod qk194 rfl) rfl
def f194_56 (l0 : Nat) (l1 : Int32) (l2 : Int32) (l3 : Int32) (s0 : Nat) (s1 : Int32) : m_M Int32 :=
  m_B (m_aK s0 12) (fun _ => m_B (f178 s0 s1) (fun v2 => if v2 = 0 then (m_B (m_aK l0 12) (fun _ => m_B (f182 l0 10 0 0 l1 l2 l3) (fun v4 => f194_77 v4))) else (f194_77 0)))
theorem f194_56_ok {l0 : Nat} {l1 : Int32} {l2 : Int32} {l3 : Int32} {s0 : Nat} {s1 : Int32} {h : q_H} {o : q_O} {hz : q_H} {x : Int32 × q_H} (hf : f194_56 l0 l1 l2 l3 s0 s1 h = some x) (hK : (q_KI o hz) x) : q_Ev none 194 56 [(0, .ref l0), (1, .int l1), (2, .int l2), (3, .int l3)] [.int s1, .ref s0] h o hz := by
  unfold f194_56 at hf
  obtain ⟨g1, hf⟩ := m_aK_some hf
  refine em_call (v := (fun u => some (.int u))) (q_cod qk194 rfl) rfl rfl (q_cokV rfl rfl (Or.inr g1)) rfl (fun x e => f178_cl e) hf (fun v2 h hf => ?_)
  refine em_if_eq (q_cod qk194 rfl) (by decide) hf (fun c5 hf => ?_) (fun c5 hf => ?_)
  · refine ev_aload_n (q_cod qk194 rfl) (by decide) rfl ?_
    refine ev_bi (v := 10) (q_cod qk194 rfl) (by decide) (by decide) ?_
    refine ev_ic (v := 0) (q_cod qk194 rfl) (by decide) (by decide) ?_
    refine ev_ic (v := 0) (q_cod qk194 rfl) (by decide) (by decide) ?_
    refine ev_iload_n (q_cod qk194 rfl) (by decide) rfl ?_
    refine ev_iload_n (q_cod qk194 rfl) (by decide) rfl ?_
    refine ev_iload_n (q_cod qk194 rfl) (by decide) rfl ?_
    obtain ⟨g3, hf⟩ := m_aK_some hf
    refine em_call (v := (fun u => some (.int u))) (q_cod qk194 rfl) rfl rfl (q_cokV rfl rfl (Or.inr g3)) rfl (fun x e => f182_cl e) hf (fun v4 h hf => ?_)
    exact ev_weak (q_pk [] rfl) (f194_77_ok hf hK)
  · refine ev_ic (v := 0) (q_cod qk194 rfl) (by decide) (by decide) ?_
    refine ev_goto (q_cod qk194 rfl) (by decide) ?_
    exact ev_weak (q_pk [] rfl) (f194_77_ok hf hK)
def f194_29 (l0 : Nat) (l1 : Int32) (l2 : Int32) (l3 : Int32) (s0 : Int32) : m_M Int32 :=
  if s0 = 0 then (f194_56 l0 l1 l2 l3 l0 1) else (m_B (m_gI 12 l0 4) (fun v1 => if v1 = 150 then (f194_56 l0 l1 l2 l3 l0 2) else (f194_56 l0 l1 l2 l3 l0 0)))
theorem f194_29_ok {l0 : Nat} {l1 : Int32} {l2 : Int32} {l3 : Int32} {s0 : Int32} {h : q_H} {o : q_O} {hz : q_H} {x : Int32 × q_H} (hf : f194_29 l0 l1 l2 l3 s0 h = some x) (hK : (q_KI o hz) x) : q_Ev none 194 29 [(0, .ref l0), (1, .int l1), (2, .int l2), (3, .int l3)] [.int s0] h o hz := by
  unfold f194_29 at hf
  refine ev_is2 (L' := [(0, .ref l0), (1, .int l1), (2, .int l2), (3, .int l3), (4, .int s0)]) (q_cod qk194 rfl) (by decide) rfl ?_
  refine ev_aload_n (q_cod qk194 rfl) (by decide) rfl ?_
  refine ev_iload (q_cod qk194 rfl) (by decide) rfl ?_
  refine em_if_ne (q_cod qk194 rfl) (by decide) hf (fun c3 hf => ?_) (fun c3 hf => ?_)
  · refine ev_ic (v := 1) (q_cod qk194 rfl) (by decide) (by decide) ?_
    refine ev_goto (q_cod qk194 rfl) (by decide) ?_
    exact ev_weak (q_pk [0, 1, 2, 3] rfl) (f194_56_ok hf hK)
  · refine ev_aload_n (q_cod qk194 rfl) (by decide) rfl ?_
    refine em_gI (q_cod qk194 rfl) (by decide) (by decide) hf (fun v1 hf => ?_)
    refine ev_si (v := 150) (q_cod qk194 rfl) (by decide) (by decide) ?_
    refine em_ic_ne (q_cod qk194 rfl) (by decide) hf (fun c2 hf => ?_) (fun c2 hf => ?_)
    · refine ev_ic (v := 2) (q_cod qk194 rfl) (by decide) (by decide) ?_
      refine ev_goto (q_cod qk194 rfl) (by decide) ?_
      exact ev_weak (q_pk [0, 1, 2, 3] rfl) (f194_56_ok hf hK)
    · refine ev_ic (v := 0) (q_cod qk194 rfl) (by decide) (by decide) ?_
      exact ev_weak (q_pk [0, 1, 2, 3] rfl) (f194_56_ok hf hK)
def f194_28 (l0 : Nat) (l1 : Int32) (l2 : Int32) (l3 : Int32) : m_M Int32 :=
  f194_29 l0 l1 l2 l3 0
theorem f194_28_ok {l0 : Nat} {l1 : Int32} {l2 : Int32} {l3 : Int32} {h : q_H} {o : q_O} {hz : q_H} {x : Int32 × q_H} (hf : f194_28 l0 l1 l2 l3 h = some x) (hK : (q_KI o hz) x) : q_Ev none 194 28 [(0, .ref l0), (1, .int l1), (2, .int l2), (3, .int l3)] [] h o hz := by
  unfold f194_28 at hf
  refine ev_ic (v := 0) (q_cod qk194 rfl) (by decide) (by decide) ?_
  exact (f194_29_ok hf hK)
def f194 (l0 : Nat) (l1 : Int32) (l2 : Int32) (l3 : Int32) : m_M Int32 :=
  m_B (m_aK l0 12) (fun _ => m_B (f181 l0 l1) (fun v2 => if v2 = 0 then (f194_28 l0 l1 l2 l3) else (m_B (m_aK l0 12) (fun _ => m_B (f181 l0 l2) (fun v4 => if v4 = 0 then (f194_28 l0 l1 l2 l3) else (m_B (m_aK l0 12) (fun _ => m_B (f181 l0 l3) (fun v6 => if v6 = 0 then (f194_28 l0 l1 l2 l3) else (f194_29 l0 l1 l2 l3 1)))))))))
theorem f194_ok {l0 : Nat} {l1 : Int32} {l2 : Int32} {l3 : Int32} {h : q_H} {o : q_O} {hz : q_H} {x : Int32 × q_H} (hf : f194 l0 l1 l2 l3 h = some x) (hK : (q_KI o hz) x) : q_Ev none 194 0 [(0, .ref l0), (1, .int l1), (2, .int l2), (3, .int l3)] [] h o hz := by
  unfold f194 at hf
  refine ev_aload_n (q_cod qk194 rfl) (by decide) rfl ?_
  refine ev_iload_n (q_cod qk194 rfl) (by decide) rfl ?_
  obtain ⟨g1, hf⟩ := m_aK_some hf
  refine em_call (v := (fun u => some (.int u))) (q_cod qk194 rfl) rfl rfl (q_cokV rfl rfl (Or.inr g1)) rfl (fun x e => f181_cl e) hf (fun v2 h hf => ?_)
  refine em_if_eq (q_cod qk194 rfl) (by decide) hf (fun c9 hf => ?_) (fun c9 hf => ?_)
  · exact (f194_28_ok hf hK)
  · refine ev_aload_n (q_cod qk194 rfl) (by decide) rfl ?_
    refine ev_iload_n (q_cod qk194 rfl) (by decide) rfl ?_
    obtain ⟨g3, hf⟩ := m_aK_some hf
    refine em_call (v := (fun u => some (.int u))) (q_cod qk194 rfl) rfl rfl (q_cokV rfl rfl (Or.inr g3)) rfl (fun x e => f181_cl e) hf (fun v4 h hf => ?_)
    refine em_if_eq (q_cod qk194 rfl) (by decide) hf (fun c8 hf => ?_) (fun c8 hf => ?_)
    · exact (f194_28_ok hf hK)
    · refine ev_aload_n (q_cod qk194 rfl) (by decide) rfl ?_
      refine ev_iload_n (q_cod qk194 rfl) (by decide) rfl ?_
      obtain ⟨g5, hf⟩ := m_aK_some hf
      refine em_call (v := (fun u => some (.int u))) (q_cod qk194 rfl) rfl rfl (q_cokV rfl rfl (Or.inr g5)) rfl (fun x e => f181_cl e) hf (fun v6 h hf => ?_)
      refine em_if_eq (q_cod qk194 rfl) (by decide) hf (fun c7 hf => ?_) (fun c7 hf => ?_)
      · exact (f194_28_ok hf hK)
      · refine ev_ic (v := 1) (q_cod qk194 rfl) (by decide) (by decide) ?_
        refine ev_goto (q_cod qk194 rfl) (by decide) ?_
        exact (f194_29_ok hf hK)
theorem f194_cl {l0 : Nat} {l1 : Int32} {l2 : Int32} {l3 : Int32} {h : q_H} {x : Int32 × q_H} (hf : f194 l0 l1 l2 l3 h = some x) : q_Cl 194 [.ref l0, .int l1, .int l2, .int l3] h (.inl (some (.int x.1))) x.2 := q_Cl.of rfl (q_LvS rfl rfl) (f194_ok hf ⟨rfl, rfl⟩)
/-! SmithyBenchModel.raise(I)I -/
theorem qk195 : q_cs.getD 195 [] = qc_195 := rfl
def f195_49 (s0 : Int32) : m_M Int32 :=
  m_R s0
theorem f195_49_ok {s0 : Int32} {h : q_H} {o : q_O} {hz : q_H} {x : Int32 × q_H} (hf : f195_49 s0 h = some x) (hK : (q_KI o hz) x) : q_Ev none 195 49 [] [.int s0] h o hz := by
  unfold f195_49 at hf
  obtain rfl := m_R_inv hf
  obtain ⟨rfl, rfl⟩ := (show q_KI o hz (s0, _) from hK)
  exact ev_ret (q_cod qk195 rfl) rfl
def f195_28 (l0 : Nat) (l1 : Int32) (s0 : Nat) (s1 : Int32) : m_M Int32 :=
  m_B (m_aK s0 12) (fun _ => m_B (f178 s0 s1) (fun v2 => if v2 = 0 then (m_B (m_aK l0 12) (fun _ => m_B (f182 l0 12 0 0 l1 0 0) (fun v4 => f195_49 v4))) else (f195_49 0)))
theorem f195_28_ok {l0 : Nat} {l1 : Int32} {s0 : Nat} {s1 : Int32} {h : q_H} {o : q_O} {hz : q_H} {x : Int32 × q_H} (hf : f195_28 l0 l1 s0 s1 h = some x) (hK : (q_KI o hz) x) : q_Ev none 195 28 [(0, .ref l0), (1, .int l1)] [.int s1, .ref s0] h o hz := by
  unfold f195_28 at hf
  obtain ⟨g1, hf⟩ := m_aK_some hf
  refine em_call (v := (fun u => some (.int u))) (q_cod qk195 rfl) rfl rfl (q_cokV rfl rfl (Or.inr g1)) rfl (fun x e => f178_cl e) hf (fun v2 h hf => ?_)
  refine em_if_eq (q_cod qk195 rfl) (by decide) hf (fun c5 hf => ?_) (fun c5 hf => ?_)
  · refine ev_aload_n (q_cod qk195 rfl) (by decide) rfl ?_
    refine ev_bi (v := 12) (q_cod qk195 rfl) (by decide) (by decide) ?_
    refine ev_ic (v := 0) (q_cod qk195 rfl) (by decide) (by decide) ?_
    refine ev_ic (v := 0) (q_cod qk195 rfl) (by decide) (by decide) ?_
    refine ev_iload_n (q_cod qk195 rfl) (by decide) rfl ?_
    refine ev_ic (v := 0) (q_cod qk195 rfl) (by decide) (by decide) ?_
    refine ev_ic (v := 0) (q_cod qk195 rfl) (by decide) (by decide) ?_
    obtain ⟨g3, hf⟩ := m_aK_some hf
    refine em_call (v := (fun u => some (.int u))) (q_cod qk195 rfl) rfl rfl (q_cokV rfl rfl (Or.inr g3)) rfl (fun x e => f182_cl e) hf (fun v4 h hf => ?_)
    exact ev_weak (q_pk [] rfl) (f195_49_ok hf hK)
  · refine ev_ic (v := 0) (q_cod qk195 rfl) (by decide) (by decide) ?_
    refine ev_goto (q_cod qk195 rfl) (by decide) ?_
    exact ev_weak (q_pk [] rfl) (f195_49_ok hf hK)
def f195 (l0 : Nat) (l1 : Int32) : m_M Int32 :=
  m_B (m_aK l0 12) (fun _ => m_B (f181 l0 l1) (fun v2 => if v2 = 0 then (f195_28 l0 l1 l0 1) else (m_B (m_gI 12 l0 4) (fun v3 => if v3 = 150 then (f195_28 l0 l1 l0 2) else (f195_28 l0 l1 l0 0)))))
theorem f195_ok {l0 : Nat} {l1 : Int32} {h : q_H} {o : q_O} {hz : q_H} {x : Int32 × q_H} (hf : f195 l0 l1 h = some x) (hK : (q_KI o hz) x) : q_Ev none 195 0 [(0, .ref l0), (1, .int l1)] [] h o hz := by
  unfold f195 at hf
  refine ev_aload_n (q_cod qk195 rfl) (by decide) rfl ?_
  refine ev_aload_n (q_cod qk195 rfl) (by decide) rfl ?_
  refine ev_iload_n (q_cod qk195 rfl) (by decide) rfl ?_
  obtain ⟨g1, hf⟩ := m_aK_some hf
  refine em_call (v := (fun u => some (.int u))) (q_cod qk195 rfl) rfl rfl (q_cokV rfl rfl (Or.inr g1)) rfl (fun x e => f181_cl e) hf (fun v2 h hf => ?_)
  refine em_if_ne (q_cod qk195 rfl) (by decide) hf (fun c5 hf => ?_) (fun c5 hf => ?_)
  · refine ev_ic (v := 1) (q_cod qk195 rfl) (by decide) (by decide) ?_
    refine ev_goto (q_cod qk195 rfl) (by decide) ?_
    exact (f195_28_ok hf hK)
  · refine ev_aload_n (q_cod qk195 rfl) (by decide) rfl ?_
    refine em_gI (q_cod qk195 rfl) (by decide) (by decide) hf (fun v3 hf => ?_)
    refine ev_si (v := 150) (q_cod qk195 rfl) (by decide) (by decide) ?_
    refine em_ic_ne (q_cod qk195 rfl) (by decide) hf (fun c4 hf => ?_) (fun c4 hf => ?_)
    · refine ev_ic (v := 2) (q_cod qk195 rfl) (by decide) (by decide) ?_
      refine ev_goto (q_cod qk195 rfl) (by decide) ?_
      exact (f195_28_ok hf hK)
    · refine ev_ic (v := 0) (q_cod qk195 rfl) (by decide) (by decide) ?_
      exact (f195_28_ok hf hK)
theorem f195_cl {l0 : Nat} {l1 : Int32} {h : q_H} {x : Int32 × q_H} (hf : f195 l0 l1 h = some x) : q_Cl 195 [.ref l0, .int l1] h (.inl (some (.int x.1))) x.2 := q_Cl.of rfl (q_LvS rfl rfl) (f195_ok hf ⟨rfl, rfl⟩)
/-! SmithyBenchModel.head(III)I -/
theorem qk196 : q_cs.getD 196 [] = qc_196 := rfl
def f196 (l0 : Nat) (l1 : Int32) (l2 : Int32) (l3 : Int32) : m_M Int32 :=
  m_B (m_gR 12 l0 1) (fun r1 => m_B (m_lI r1 ((((14200 * l1) + 104) + (10 * l2)) + l3)) (fun v2 => m_R v2))
theorem f196_ok {l0 : Nat} {l1 : Int32} {l2 : Int32} {l3 : Int32} {h : q_H} {o : q_O} {hz : q_H} {x : Int32 × q_H} (hf : f196 l0 l1 l2 l3 h = some x) (hK : (q_KI o hz) x) : q_Ev none 196 0 [(0, .ref l0), (1, .int l1), (2, .int l2), (3, .int l3)] [] h o hz := by
  unfold f196 at hf
  refine ev_aload_n (q_cod qk196 rfl) (by decide) rfl ?_
  refine em_gR (q_cod qk196 rfl) (by decide) (by decide) hf (fun r1 hf => ?_)
  refine ev_si (v := 14200) (q_cod qk196 rfl) (by decide) (by decide) ?_
  refine ev_iload_n (q_cod qk196 rfl) (by decide) rfl ?_
  refine ev_imul (q_cod qk196 rfl) (by decide) ?_
  refine ev_bi (v := 104) (q_cod qk196 rfl) (by decide) (by decide) ?_
  refine ev_iadd (q_cod qk196 rfl) (by decide) ?_
  refine ev_bi (v := 10) (q_cod qk196 rfl) (by decide) (by decide) ?_
  refine ev_iload_n (q_cod qk196 rfl) (by decide) rfl ?_
  refine ev_imul (q_cod qk196 rfl) (by decide) ?_
  refine ev_iadd (q_cod qk196 rfl) (by decide) ?_
  refine ev_iload_n (q_cod qk196 rfl) (by decide) rfl ?_
  refine ev_iadd (q_cod qk196 rfl) (by decide) ?_
  refine em_lI (q_cod qk196 rfl) (by decide) hf (fun v2 hf => ?_)
  obtain rfl := m_R_inv hf
  obtain ⟨rfl, rfl⟩ := (show q_KI o hz (v2, _) from hK)
  exact ev_ret (q_cod qk196 rfl) rfl
theorem f196_cl {l0 : Nat} {l1 : Int32} {l2 : Int32} {l3 : Int32} {h : q_H} {x : Int32 × q_H} (hf : f196 l0 l1 l2 l3 h = some x) : q_Cl 196 [.ref l0, .int l1, .int l2, .int l3] h (.inl (some (.int x.1))) x.2 := q_Cl.of rfl (q_LvS rfl rfl) (f196_ok hf ⟨rfl, rfl⟩)
/-! SmithyBenchModel.setHead(IIII)V -/
theorem qk197 : q_cs.getD 197 [] = qc_197 := rfl
def f197 (l0 : Nat) (l1 : Int32) (l2 : Int32) (l3 : Int32) (l4 : Int32) : m_M Unit :=
  m_B (m_gR 12 l0 1) (fun r1 => m_B (m_wI r1 ((((14200 * l1) + 104) + (10 * l2)) + l3) l4) (fun _ => m_R ()))
theorem f197_ok {l0 : Nat} {l1 : Int32} {l2 : Int32} {l3 : Int32} {l4 : Int32} {h : q_H} {o : q_O} {hz : q_H} {x : Unit × q_H} (hf : f197 l0 l1 l2 l3 l4 h = some x) (hK : (m_KU o hz) x) : q_Ev none 197 0 [(0, .ref l0), (1, .int l1), (2, .int l2), (3, .int l3), (4, .int l4)] [] h o hz := by
  unfold f197 at hf
  refine ev_aload_n (q_cod qk197 rfl) (by decide) rfl ?_
  refine em_gR (q_cod qk197 rfl) (by decide) (by decide) hf (fun r1 hf => ?_)
  refine ev_si (v := 14200) (q_cod qk197 rfl) (by decide) (by decide) ?_
  refine ev_iload_n (q_cod qk197 rfl) (by decide) rfl ?_
  refine ev_imul (q_cod qk197 rfl) (by decide) ?_
  refine ev_bi (v := 104) (q_cod qk197 rfl) (by decide) (by decide) ?_
  refine ev_iadd (q_cod qk197 rfl) (by decide) ?_
  refine ev_bi (v := 10) (q_cod qk197 rfl) (by decide) (by decide) ?_
  refine ev_iload_n (q_cod qk197 rfl) (by decide) rfl ?_
  refine ev_imul (q_cod qk197 rfl) (by decide) ?_
  refine ev_iadd (q_cod qk197 rfl) (by decide) ?_
  refine ev_iload_n (q_cod qk197 rfl) (by decide) rfl ?_
  refine ev_iadd (q_cod qk197 rfl) (by decide) ?_
  refine ev_iload (q_cod qk197 rfl) (by decide) rfl ?_
  refine em_wI (q_cod qk197 rfl) (by decide) hf (fun hf => ?_)
  obtain rfl := m_R_inv hf
  obtain ⟨rfl, rfl⟩ := (show m_KU o hz ((), _) from hK)
  exact ev_ret (q_cod qk197 rfl) rfl
theorem f197_cl {l0 : Nat} {l1 : Int32} {l2 : Int32} {l3 : Int32} {l4 : Int32} {h : q_H} {x : Unit × q_H} (hf : f197 l0 l1 l2 l3 l4 h = some x) : q_Cl 197 [.ref l0, .int l1, .int l2, .int l3, .int l4] h (.inl none) x.2 := q_Cl.of rfl (q_LvS rfl rfl) (f197_ok hf ⟨rfl, rfl⟩)
/-! SmithyBenchModel.body(III)I -/
theorem qk198 : q_cs.getD 198 [] = qc_198 := rfl
def f198 (l0 : Nat) (l1 : Int32) (l2 : Int32) (l3 : Int32) : m_M Int32 :=
  m_R ((((14200 * l1) + 344) + (576 * l2)) + l3)
theorem f198_ok {l0 : Nat} {l1 : Int32} {l2 : Int32} {l3 : Int32} {h : q_H} {o : q_O} {hz : q_H} {x : Int32 × q_H} (hf : f198 l0 l1 l2 l3 h = some x) (hK : (q_KI o hz) x) : q_Ev none 198 0 [(0, .ref l0), (1, .int l1), (2, .int l2), (3, .int l3)] [] h o hz := by
  unfold f198 at hf
  refine ev_si (v := 14200) (q_cod qk198 rfl) (by decide) (by decide) ?_
  refine ev_iload_n (q_cod qk198 rfl) (by decide) rfl ?_
  refine ev_imul (q_cod qk198 rfl) (by decide) ?_
  refine ev_si (v := 344) (q_cod qk198 rfl) (by decide) (by decide) ?_
  refine ev_iadd (q_cod qk198 rfl) (by decide) ?_
  refine ev_si (v := 576) (q_cod qk198 rfl) (by decide) (by decide) ?_
  refine ev_iload_n (q_cod qk198 rfl) (by decide) rfl ?_
  refine ev_imul (q_cod qk198 rfl) (by decide) ?_
  refine ev_iadd (q_cod qk198 rfl) (by decide) ?_
  refine ev_iload_n (q_cod qk198 rfl) (by decide) rfl ?_
  refine ev_iadd (q_cod qk198 rfl) (by decide) ?_
  obtain rfl := m_R_inv hf
  obtain ⟨rfl, rfl⟩ := (show q_KI o hz (((((14200 * l1) + 344) + (576 * l2)) + l3), _) from hK)
  exact ev_ret (q_cod qk198 rfl) rfl
theorem f198_cl {l0 : Nat} {l1 : Int32} {l2 : Int32} {l3 : Int32} {h : q_H} {x : Int32 × q_H} (hf : f198 l0 l1 l2 l3 h = some x) : q_Cl 198 [.ref l0, .int l1, .int l2, .int l3] h (.inl (some (.int x.1))) x.2 := q_Cl.of rfl (q_LvS rfl rfl) (f198_ok hf ⟨rfl, rfl⟩)
/-! SmithyBenchModel.kind(III)I -/
theorem qk199 : q_cs.getD 199 [] = qc_199 := rfl
def f199 (l0 : Nat) (l1 : Int32) (l2 : Int32) (l3 : Int32) : m_M Int32 :=
  m_B (m_gR 12 l0 1) (fun r1 => m_B (m_aK l0 12) (fun _ => m_B (f198 l0 l1 l2 l3) (fun v3 => m_B (m_lI r1 v3) (fun v4 => m_R v4))))
theorem f199_ok {l0 : Nat} {l1 : Int32} {l2 : Int32} {l3 : Int32} {h : q_H} {o : q_O} {hz : q_H} {x : Int32 × q_H} (hf : f199 l0 l1 l2 l3 h = some x) (hK : (q_KI o hz) x) : q_Ev none 199 0 [(0, .ref l0), (1, .int l1), (2, .int l2), (3, .int l3)] [] h o hz := by
  unfold f199 at hf
  refine ev_aload_n (q_cod qk199 rfl) (by decide) rfl ?_
  refine em_gR (q_cod qk199 rfl) (by decide) (by decide) hf (fun r1 hf => ?_)
  refine ev_aload_n (q_cod qk199 rfl) (by decide) rfl ?_
  refine ev_iload_n (q_cod qk199 rfl) (by decide) rfl ?_
  refine ev_iload_n (q_cod qk199 rfl) (by decide) rfl ?_
  refine ev_iload_n (q_cod qk199 rfl) (by decide) rfl ?_
  obtain ⟨g2, hf⟩ := m_aK_some hf
  refine em_call (v := (fun u => some (.int u))) (q_cod qk199 rfl) rfl rfl (q_cokV rfl rfl (Or.inr g2)) rfl (fun x e => f198_cl e) hf (fun v3 h hf => ?_)
  refine em_lI (q_cod qk199 rfl) (by decide) hf (fun v4 hf => ?_)
  obtain rfl := m_R_inv hf
  obtain ⟨rfl, rfl⟩ := (show q_KI o hz (v4, _) from hK)
  exact ev_ret (q_cod qk199 rfl) rfl
theorem f199_cl {l0 : Nat} {l1 : Int32} {l2 : Int32} {l3 : Int32} {h : q_H} {x : Int32 × q_H} (hf : f199 l0 l1 l2 l3 h = some x) : q_Cl 199 [.ref l0, .int l1, .int l2, .int l3] h (.inl (some (.int x.1))) x.2 := q_Cl.of rfl (q_LvS rfl rfl) (f199_ok hf ⟨rfl, rfl⟩)
/-! SmithyBenchModel.value(III)I -/
theorem qk200 : q_cs.getD 200 [] = qc_200 := rfl
def f200 (l0 : Nat) (l1 : Int32) (l2 : Int32) (l3 : Int32) : m_M Int32 :=
  m_B (m_gR 12 l0 1) (fun r1 => m_B (m_aK l0 12) (fun _ => m_B (f198 l0 l1 l2 l3) (fun v3 => m_B (m_lI r1 (v3 + 192)) (fun v4 => m_R v4))))
theorem f200_ok {l0 : Nat} {l1 : Int32} {l2 : Int32} {l3 : Int32} {h : q_H} {o : q_O} {hz : q_H} {x : Int32 × q_H} (hf : f200 l0 l1 l2 l3 h = some x) (hK : (q_KI o hz) x) : q_Ev none 200 0 [(0, .ref l0), (1, .int l1), (2, .int l2), (3, .int l3)] [] h o hz := by
  unfold f200 at hf
  refine ev_aload_n (q_cod qk200 rfl) (by decide) rfl ?_
  refine em_gR (q_cod qk200 rfl) (by decide) (by decide) hf (fun r1 hf => ?_)
  refine ev_aload_n (q_cod qk200 rfl) (by decide) rfl ?_
  refine ev_iload_n (q_cod qk200 rfl) (by decide) rfl ?_
  refine ev_iload_n (q_cod qk200 rfl) (by decide) rfl ?_
  refine ev_iload_n (q_cod qk200 rfl) (by decide) rfl ?_
  obtain ⟨g2, hf⟩ := m_aK_some hf
  refine em_call (v := (fun u => some (.int u))) (q_cod qk200 rfl) rfl rfl (q_cokV rfl rfl (Or.inr g2)) rfl (fun x e => f198_cl e) hf (fun v3 h hf => ?_)
  refine ev_si (v := 192) (q_cod qk200 rfl) (by decide) (by decide) ?_
  refine ev_iadd (q_cod qk200 rfl) (by decide) ?_
  refine em_lI (q_cod qk200 rfl) (by decide) hf (fun v4 hf => ?_)
  obtain rfl := m_R_inv hf
  obtain ⟨rfl, rfl⟩ := (show q_KI o hz (v4, _) from hK)
  exact ev_ret (q_cod qk200 rfl) rfl
theorem f200_cl {l0 : Nat} {l1 : Int32} {l2 : Int32} {l3 : Int32} {h : q_H} {x : Int32 × q_H} (hf : f200 l0 l1 l2 l3 h = some x) : q_Cl 200 [.ref l0, .int l1, .int l2, .int l3] h (.inl (some (.int x.1))) x.2 := q_Cl.of rfl (q_LvS rfl rfl) (f200_ok hf ⟨rfl, rfl⟩)
/-! SmithyBenchModel.args(III)I -/
theorem qk201 : q_cs.getD 201 [] = qc_201 := rfl
def f201 (l0 : Nat) (l1 : Int32) (l2 : Int32) (l3 : Int32) : m_M Int32 :=
  m_B (m_gR 12 l0 1) (fun r1 => m_B (m_aK l0 12) (fun _ => m_B (f198 l0 l1 l2 l3) (fun v3 => m_B (m_lI r1 (v3 + 384)) (fun v4 => m_R v4))))
theorem f201_ok {l0 : Nat} {l1 : Int32} {l2 : Int32} {l3 : Int32} {h : q_H} {o : q_O} {hz : q_H} {x : Int32 × q_H} (hf : f201 l0 l1 l2 l3 h = some x) (hK : (q_KI o hz) x) : q_Ev none 201 0 [(0, .ref l0), (1, .int l1), (2, .int l2), (3, .int l3)] [] h o hz := by
  unfold f201 at hf
  refine ev_aload_n (q_cod qk201 rfl) (by decide) rfl ?_
  refine em_gR (q_cod qk201 rfl) (by decide) (by decide) hf (fun r1 hf => ?_)
  refine ev_aload_n (q_cod qk201 rfl) (by decide) rfl ?_
  refine ev_iload_n (q_cod qk201 rfl) (by decide) rfl ?_
  refine ev_iload_n (q_cod qk201 rfl) (by decide) rfl ?_
  refine ev_iload_n (q_cod qk201 rfl) (by decide) rfl ?_
  obtain ⟨g2, hf⟩ := m_aK_some hf
  refine em_call (v := (fun u => some (.int u))) (q_cod qk201 rfl) rfl rfl (q_cokV rfl rfl (Or.inr g2)) rfl (fun x e => f198_cl e) hf (fun v3 h hf => ?_)
  refine ev_si (v := 384) (q_cod qk201 rfl) (by decide) (by decide) ?_
  refine ev_iadd (q_cod qk201 rfl) (by decide) ?_
  refine em_lI (q_cod qk201 rfl) (by decide) hf (fun v4 hf => ?_)
  obtain rfl := m_R_inv hf
  obtain ⟨rfl, rfl⟩ := (show q_KI o hz (v4, _) from hK)
  exact ev_ret (q_cod qk201 rfl) rfl
theorem f201_cl {l0 : Nat} {l1 : Int32} {l2 : Int32} {l3 : Int32} {h : q_H} {x : Int32 × q_H} (hf : f201 l0 l1 l2 l3 h = some x) : q_Cl 201 [.ref l0, .int l1, .int l2, .int l3] h (.inl (some (.int x.1))) x.2 := q_Cl.of rfl (q_LvS rfl rfl) (f201_ok hf ⟨rfl, rfl⟩)
/-! SmithyBenchModel.setNode(IIIIII)V -/
theorem qk202 : q_cs.getD 202 [] = qc_202 := rfl
def f202 (l0 : Nat) (l1 : Int32) (l2 : Int32) (l3 : Int32) (l4 : Int32) (l5 : Int32) (l6 : Int32) : m_M Unit :=
  m_B (m_aK l0 12) (fun _ => m_B (f198 l0 l1 l2 l3) (fun v2 => m_B (m_gR 12 l0 1) (fun r3 => m_B (m_wI r3 v2 l4) (fun _ => m_B (m_gR 12 l0 1) (fun r4 => m_B (m_wI r4 (v2 + 192) l5) (fun _ => m_B (m_gR 12 l0 1) (fun r5 => m_B (m_wI r5 (v2 + 384) l6) (fun _ => m_R ()))))))))
theorem f202_ok {l0 : Nat} {l1 : Int32} {l2 : Int32} {l3 : Int32} {l4 : Int32} {l5 : Int32} {l6 : Int32} {h : q_H} {o : q_O} {hz : q_H} {x : Unit × q_H} (hf : f202 l0 l1 l2 l3 l4 l5 l6 h = some x) (hK : (m_KU o hz) x) : q_Ev none 202 0 [(0, .ref l0), (1, .int l1), (2, .int l2), (3, .int l3), (4, .int l4), (5, .int l5), (6, .int l6)] [] h o hz := by
  unfold f202 at hf
  refine ev_aload_n (q_cod qk202 rfl) (by decide) rfl ?_
  refine ev_iload_n (q_cod qk202 rfl) (by decide) rfl ?_
  refine ev_iload_n (q_cod qk202 rfl) (by decide) rfl ?_
  refine ev_iload_n (q_cod qk202 rfl) (by decide) rfl ?_
  obtain ⟨g1, hf⟩ := m_aK_some hf
  refine em_call (v := (fun u => some (.int u))) (q_cod qk202 rfl) rfl rfl (q_cokV rfl rfl (Or.inr g1)) rfl (fun x e => f198_cl e) hf (fun v2 h hf => ?_)
  refine ev_is2 (L' := [(0, .ref l0), (1, .int l1), (2, .int l2), (3, .int l3), (4, .int l4), (5, .int l5), (6, .int l6), (7, .int v2)]) (q_cod qk202 rfl) (by decide) rfl ?_
  refine ev_aload_n (q_cod qk202 rfl) (by decide) rfl ?_
  refine em_gR (q_cod qk202 rfl) (by decide) (by decide) hf (fun r3 hf => ?_)
  refine ev_iload (q_cod qk202 rfl) (by decide) rfl ?_
  refine ev_iload (q_cod qk202 rfl) (by decide) rfl ?_
  refine em_wI (q_cod qk202 rfl) (by decide) hf (fun hf => ?_)
  refine ev_aload_n (q_cod qk202 rfl) (by decide) rfl ?_
  refine em_gR (q_cod qk202 rfl) (by decide) (by decide) hf (fun r4 hf => ?_)
  refine ev_iload (q_cod qk202 rfl) (by decide) rfl ?_
  refine ev_si (v := 192) (q_cod qk202 rfl) (by decide) (by decide) ?_
  refine ev_iadd (q_cod qk202 rfl) (by decide) ?_
  refine ev_iload (q_cod qk202 rfl) (by decide) rfl ?_
  refine em_wI (q_cod qk202 rfl) (by decide) hf (fun hf => ?_)
  refine ev_aload_n (q_cod qk202 rfl) (by decide) rfl ?_
  refine em_gR (q_cod qk202 rfl) (by decide) (by decide) hf (fun r5 hf => ?_)
  refine ev_iload (q_cod qk202 rfl) (by decide) rfl ?_
  refine ev_si (v := 384) (q_cod qk202 rfl) (by decide) (by decide) ?_
  refine ev_iadd (q_cod qk202 rfl) (by decide) ?_
  refine ev_iload (q_cod qk202 rfl) (by decide) rfl ?_
  refine em_wI (q_cod qk202 rfl) (by decide) hf (fun hf => ?_)
  obtain rfl := m_R_inv hf
  obtain ⟨rfl, rfl⟩ := (show m_KU o hz ((), _) from hK)
  exact ev_ret (q_cod qk202 rfl) rfl
theorem f202_cl {l0 : Nat} {l1 : Int32} {l2 : Int32} {l3 : Int32} {l4 : Int32} {l5 : Int32} {l6 : Int32} {h : q_H} {x : Unit × q_H} (hf : f202 l0 l1 l2 l3 l4 l5 l6 h = some x) : q_Cl 202 [.ref l0, .int l1, .int l2, .int l3, .int l4, .int l5, .int l6] h (.inl none) x.2 := q_Cl.of rfl (q_LvS rfl rfl) (f202_ok hf ⟨rfl, rfl⟩)
/-! SmithyBenchModel.copyBank(II)V -/
theorem qk203 : q_cs.getD 203 [] = qc_203 := rfl
def f203_39  : m_M Unit :=
  m_R ()
theorem f203_39_ok  {h : q_H} {o : q_O} {hz : q_H} {x : Unit × q_H} (hf : f203_39 h = some x) (hK : (m_KU o hz) x) : q_Ev none 203 39 [] [] h o hz := by
  unfold f203_39 at hf
  obtain rfl := m_R_inv hf
  obtain ⟨rfl, rfl⟩ := (show m_KU o hz ((), _) from hK)
  exact ev_ret (q_cod qk203 rfl) rfl
def f203_2b (l0 : Nat) (l1 : Int32) (l2 : Int32) (l3 : Int32) : m_M ((Nat × Int32 × Int32 × Int32) ⊕ Unit) :=
  if l3 < 14200 then (m_B (m_gR 12 l0 1) (fun r1 => m_B (m_gR 12 l0 1) (fun r2 => m_B (m_lI r2 ((14200 * l1) + l3)) (fun v3 => m_B (m_wI r1 ((14200 * l2) + l3) v3) (fun _ => m_R (.inl (l0, l1, l2, (l3 + 1)))))))) else (m_B (f203_39) (fun r => m_R (.inr r)))
theorem f203_2b_ok {l0 : Nat} {l1 : Int32} {l2 : Int32} {l3 : Int32} {h : q_H} {o : q_O} {hz : q_H} {x : ((Nat × Int32 × Int32 × Int32) ⊕ Unit) × q_H} (hf : f203_2b l0 l1 l2 l3 h = some x) (hK : (m_yK (fun (s : Nat × Int32 × Int32 × Int32) (h : q_H) => q_Ev none 203 2 [(0, .ref (s.1)), (1, .int (s.2.1)), (2, .int (s.2.2.1)), (3, .int (s.2.2.2))] [] h o hz) (m_KU o hz)) x) : q_Ev none 203 2 [(0, .ref l0), (1, .int l1), (2, .int l2), (3, .int l3)] [] h o hz := by
  unfold f203_2b at hf
  refine ev_iload_n (q_cod qk203 rfl) (by decide) rfl ?_
  refine ev_si (v := 14200) (q_cod qk203 rfl) (by decide) (by decide) ?_
  refine em_ic_ge (q_cod qk203 rfl) (by decide) hf (fun c4 hf => ?_) (fun c4 hf => ?_)
  · refine ev_aload_n (q_cod qk203 rfl) (by decide) rfl ?_
    refine em_gR (q_cod qk203 rfl) (by decide) (by decide) hf (fun r1 hf => ?_)
    refine ev_si (v := 14200) (q_cod qk203 rfl) (by decide) (by decide) ?_
    refine ev_iload_n (q_cod qk203 rfl) (by decide) rfl ?_
    refine ev_imul (q_cod qk203 rfl) (by decide) ?_
    refine ev_iload_n (q_cod qk203 rfl) (by decide) rfl ?_
    refine ev_iadd (q_cod qk203 rfl) (by decide) ?_
    refine ev_aload_n (q_cod qk203 rfl) (by decide) rfl ?_
    refine em_gR (q_cod qk203 rfl) (by decide) (by decide) hf (fun r2 hf => ?_)
    refine ev_si (v := 14200) (q_cod qk203 rfl) (by decide) (by decide) ?_
    refine ev_iload_n (q_cod qk203 rfl) (by decide) rfl ?_
    refine ev_imul (q_cod qk203 rfl) (by decide) ?_
    refine ev_iload_n (q_cod qk203 rfl) (by decide) rfl ?_
    refine ev_iadd (q_cod qk203 rfl) (by decide) ?_
    refine em_lI (q_cod qk203 rfl) (by decide) hf (fun v3 hf => ?_)
    refine em_wI (q_cod qk203 rfl) (by decide) hf (fun hf => ?_)
    refine ev_inc (v := l3 + 1) (L' := [(0, .ref l0), (1, .int l1), (2, .int l2), (3, .int (l3 + 1))]) (q_cod qk203 rfl) (by decide) rfl rfl rfl ?_
    refine ev_goto (q_cod qk203 rfl) (by decide) ?_
    obtain rfl := m_R_inv hf
    exact (show q_Ev none 203 2 [(0, .ref l0), (1, .int l1), (2, .int l2), (3, .int (l3 + 1))] [] _ o hz from hK)
  · obtain ⟨y0, hf0, hx⟩ := m_inr_some hf
    subst hx
    exact ev_weak (q_pk [] rfl) (f203_39_ok hf0 hK)
def f203_2 (l0 : Nat) (l1 : Int32) (l2 : Int32) (l3 : Int32) : m_M Unit := m_W (fun s => f203_2b (s.1) (s.2.1) (s.2.2.1) (s.2.2.2)) 1000000 (l0, l1, l2, l3)
theorem f203_2_ok {l0 : Nat} {l1 : Int32} {l2 : Int32} {l3 : Int32} {h : q_H} {o : q_O} {hz : q_H} {x : Unit × q_H} (hf : f203_2 l0 l1 l2 l3 h = some x) (hK : (m_KU o hz) x) : q_Ev none 203 2 [(0, .ref l0), (1, .int l1), (2, .int l2), (3, .int l3)] [] h o hz :=
  m_W_ok (P := (fun (s : Nat × Int32 × Int32 × Int32) (h : q_H) => q_Ev none 203 2 [(0, .ref (s.1)), (1, .int (s.2.1)), (2, .int (s.2.2.1)), (3, .int (s.2.2.2))] [] h o hz)) (K := (m_KU o hz)) (fun s h x h1 h2 => f203_2b_ok h1 h2) _ (l0, l1, l2, l3) _ _ hf hK
def f203 (l0 : Nat) (l1 : Int32) (l2 : Int32) : m_M Unit :=
  f203_2 l0 l1 l2 0
theorem f203_ok {l0 : Nat} {l1 : Int32} {l2 : Int32} {h : q_H} {o : q_O} {hz : q_H} {x : Unit × q_H} (hf : f203 l0 l1 l2 h = some x) (hK : (m_KU o hz) x) : q_Ev none 203 0 [(0, .ref l0), (1, .int l1), (2, .int l2)] [] h o hz := by
  unfold f203 at hf
  refine ev_ic (v := 0) (q_cod qk203 rfl) (by decide) (by decide) ?_
  refine ev_is1 (L' := [(0, .ref l0), (1, .int l1), (2, .int l2), (3, .int 0)]) (q_cod qk203 rfl) (by decide) rfl ?_
  exact (f203_2_ok hf hK)
theorem f203_cl {l0 : Nat} {l1 : Int32} {l2 : Int32} {h : q_H} {x : Unit × q_H} (hf : f203 l0 l1 l2 h = some x) : q_Cl 203 [.ref l0, .int l1, .int l2] h (.inl none) x.2 := q_Cl.of rfl (q_LvS rfl rfl) (f203_ok hf ⟨rfl, rfl⟩)
/-! SmithyBenchModel.isType(II)Z -/
theorem qk205 : q_cs.getD 205 [] = qc_205 := rfl
def f205_19 (s0 : Int32) : m_M Int32 :=
  m_B (m_G (s0 = 0 ∨ s0 = 1)) (fun _ => m_R s0)
theorem f205_19_ok {s0 : Int32} {h : q_H} {o : q_O} {hz : q_H} {x : Int32 × q_H} (hf : f205_19 s0 h = some x) (hK : (q_KI o hz) x) : q_Ev none 205 19 [] [.int s0] h o hz := by
  unfold f205_19 at hf
  obtain ⟨g1, hf⟩ := m_G_some hf
  obtain rfl := m_R_inv hf
  obtain ⟨rfl, rfl⟩ := (show q_KI o hz (s0, _) from hK)
  exact ev_ret (q_cod qk205 rfl) (q_retZ g1)
def f205_14  : m_M Int32 :=
  f205_19 1
theorem f205_14_ok  {h : q_H} {o : q_O} {hz : q_H} {x : Int32 × q_H} (hf : f205_14 h = some x) (hK : (q_KI o hz) x) : q_Ev none 205 14 [] [] h o hz := by
  unfold f205_14 at hf
  refine ev_ic (v := 1) (q_cod qk205 rfl) (by decide) (by decide) ?_
  refine ev_goto (q_cod qk205 rfl) (by decide) ?_
  exact (f205_19_ok hf hK)
def f205 (l0 : Nat) (l1 : Int32) (l2 : Int32) : m_M Int32 :=
  if l2 = (-1) then (f205_14) else (m_B (m_aK l0 12) (fun _ => m_B (f204 l0 l1 l2) (fun v2 => if v2 = 0 then (f205_19 0) else (f205_14))))
theorem f205_ok {l0 : Nat} {l1 : Int32} {l2 : Int32} {h : q_H} {o : q_O} {hz : q_H} {x : Int32 × q_H} (hf : f205 l0 l1 l2 h = some x) (hK : (q_KI o hz) x) : q_Ev none 205 0 [(0, .ref l0), (1, .int l1), (2, .int l2)] [] h o hz := by
  unfold f205 at hf
  refine ev_iload_n (q_cod qk205 rfl) (by decide) rfl ?_
  refine ev_ic (v := (-1)) (q_cod qk205 rfl) (by decide) (by decide) ?_
  refine em_ic_eq (q_cod qk205 rfl) (by decide) hf (fun c4 hf => ?_) (fun c4 hf => ?_)
  · exact ev_weak (q_pk [] rfl) (f205_14_ok hf hK)
  · refine ev_aload_n (q_cod qk205 rfl) (by decide) rfl ?_
    refine ev_iload_n (q_cod qk205 rfl) (by decide) rfl ?_
    refine ev_iload_n (q_cod qk205 rfl) (by decide) rfl ?_
    obtain ⟨g1, hf⟩ := m_aK_some hf
    refine em_call (v := (fun u => some (.int u))) (q_cod qk205 rfl) rfl rfl (q_cokV rfl rfl (Or.inr g1)) rfl (fun x e => f204_cl e) hf (fun v2 h hf => ?_)
    refine em_if_eq (q_cod qk205 rfl) (by decide) hf (fun c3 hf => ?_) (fun c3 hf => ?_)
    · refine ev_ic (v := 0) (q_cod qk205 rfl) (by decide) (by decide) ?_
      exact ev_weak (q_pk [] rfl) (f205_19_ok hf hK)
    · exact ev_weak (q_pk [] rfl) (f205_14_ok hf hK)
theorem f205_cl {l0 : Nat} {l1 : Int32} {l2 : Int32} {h : q_H} {x : Int32 × q_H} (hf : f205 l0 l1 l2 h = some x) : q_Cl 205 [.ref l0, .int l1, .int l2] h (.inl (some (.int x.1))) x.2 := q_Cl.of rfl (q_LvS rfl rfl) (f205_ok hf ⟨rfl, rfl⟩)
/-! SmithyBenchModel.isMethod(II)Z -/
theorem qk206 : q_cs.getD 206 [] = qc_206 := rfl
def f206_38 (s0 : Int32) : m_M Int32 :=
  m_B (m_G (s0 = 0 ∨ s0 = 1)) (fun _ => m_R s0)
theorem f206_38_ok {s0 : Int32} {h : q_H} {o : q_O} {hz : q_H} {x : Int32 × q_H} (hf : f206_38 s0 h = some x) (hK : (q_KI o hz) x) : q_Ev none 206 38 [] [.int s0] h o hz := by
  unfold f206_38 at hf
  obtain ⟨g1, hf⟩ := m_G_some hf
  obtain rfl := m_R_inv hf
  obtain ⟨rfl, rfl⟩ := (show q_KI o hz (s0, _) from hK)
  exact ev_ret (q_cod qk206 rfl) (q_retZ g1)
def f206_37  : m_M Int32 :=
  f206_38 0
theorem f206_37_ok  {h : q_H} {o : q_O} {hz : q_H} {x : Int32 × q_H} (hf : f206_37 h = some x) (hK : (q_KI o hz) x) : q_Ev none 206 37 [] [] h o hz := by
  unfold f206_37 at hf
  refine ev_ic (v := 0) (q_cod qk206 rfl) (by decide) (by decide) ?_
  exact (f206_38_ok hf hK)
def f206 (l0 : Nat) (l1 : Int32) (l2 : Int32) : m_M Int32 :=
  m_B (m_gR 12 l0 1) (fun r1 => m_B (m_lI r1 ((14200 * l1) + 1)) (fun v2 => m_B (f179 l2 0 (v2 - 1)) (fun v3 => if v3 = 0 then (f206_37) else (m_B (m_aK l0 12) (fun _ => m_B (f196 l0 l1 l2 0) (fun v5 => if v5 = 1 then (f206_38 1) else (f206_37)))))))
theorem f206_ok {l0 : Nat} {l1 : Int32} {l2 : Int32} {h : q_H} {o : q_O} {hz : q_H} {x : Int32 × q_H} (hf : f206 l0 l1 l2 h = some x) (hK : (q_KI o hz) x) : q_Ev none 206 0 [(0, .ref l0), (1, .int l1), (2, .int l2)] [] h o hz := by
  unfold f206 at hf
  refine ev_iload_n (q_cod qk206 rfl) (by decide) rfl ?_
  refine ev_ic (v := 0) (q_cod qk206 rfl) (by decide) (by decide) ?_
  refine ev_aload_n (q_cod qk206 rfl) (by decide) rfl ?_
  refine em_gR (q_cod qk206 rfl) (by decide) (by decide) hf (fun r1 hf => ?_)
  refine ev_si (v := 14200) (q_cod qk206 rfl) (by decide) (by decide) ?_
  refine ev_iload_n (q_cod qk206 rfl) (by decide) rfl ?_
  refine ev_imul (q_cod qk206 rfl) (by decide) ?_
  refine ev_ic (v := 1) (q_cod qk206 rfl) (by decide) (by decide) ?_
  refine ev_iadd (q_cod qk206 rfl) (by decide) ?_
  refine em_lI (q_cod qk206 rfl) (by decide) hf (fun v2 hf => ?_)
  refine ev_ic (v := 1) (q_cod qk206 rfl) (by decide) (by decide) ?_
  refine ev_isub (q_cod qk206 rfl) (by decide) ?_
  refine em_call (v := (fun u => some (.int u))) (q_cod qk206 rfl) rfl rfl (q_cokS rfl rfl) rfl (fun x e => f179_cl e) hf (fun v3 h hf => ?_)
  refine em_if_eq (q_cod qk206 rfl) (by decide) hf (fun c7 hf => ?_) (fun c7 hf => ?_)
  · exact ev_weak (q_pk [] rfl) (f206_37_ok hf hK)
  · refine ev_aload_n (q_cod qk206 rfl) (by decide) rfl ?_
    refine ev_iload_n (q_cod qk206 rfl) (by decide) rfl ?_
    refine ev_iload_n (q_cod qk206 rfl) (by decide) rfl ?_
    refine ev_ic (v := 0) (q_cod qk206 rfl) (by decide) (by decide) ?_
    obtain ⟨g4, hf⟩ := m_aK_some hf
    refine em_call (v := (fun u => some (.int u))) (q_cod qk206 rfl) rfl rfl (q_cokV rfl rfl (Or.inr g4)) rfl (fun x e => f196_cl e) hf (fun v5 h hf => ?_)
    refine ev_ic (v := 1) (q_cod qk206 rfl) (by decide) (by decide) ?_
    refine em_ic_ne (q_cod qk206 rfl) (by decide) hf (fun c6 hf => ?_) (fun c6 hf => ?_)
    · refine ev_ic (v := 1) (q_cod qk206 rfl) (by decide) (by decide) ?_
      refine ev_goto (q_cod qk206 rfl) (by decide) ?_
      exact ev_weak (q_pk [] rfl) (f206_38_ok hf hK)
    · exact ev_weak (q_pk [] rfl) (f206_37_ok hf hK)
theorem f206_cl {l0 : Nat} {l1 : Int32} {l2 : Int32} {h : q_H} {x : Int32 × q_H} (hf : f206 l0 l1 l2 h = some x) : q_Cl 206 [.ref l0, .int l1, .int l2] h (.inl (some (.int x.1))) x.2 := q_Cl.of rfl (q_LvS rfl rfl) (f206_ok hf ⟨rfl, rfl⟩)
/-! SmithyBenchModel.parentOf(II)I -/
theorem qk207 : q_cs.getD 207 [] = qc_207 := rfl
def f207 (l0 : Nat) (l1 : Int32) (l2 : Int32) : m_M Int32 :=
  m_B (m_gR 12 l0 1) (fun r1 => m_B (m_lI r1 (((14200 * l1) + 2) + l2)) (fun v2 => m_R v2))
theorem f207_ok {l0 : Nat} {l1 : Int32} {l2 : Int32} {h : q_H} {o : q_O} {hz : q_H} {x : Int32 × q_H} (hf : f207 l0 l1 l2 h = some x) (hK : (q_KI o hz) x) : q_Ev none 207 0 [(0, .ref l0), (1, .int l1), (2, .int l2)] [] h o hz := by
  unfold f207 at hf
  refine ev_aload_n (q_cod qk207 rfl) (by decide) rfl ?_
  refine em_gR (q_cod qk207 rfl) (by decide) (by decide) hf (fun r1 hf => ?_)
  refine ev_si (v := 14200) (q_cod qk207 rfl) (by decide) (by decide) ?_
  refine ev_iload_n (q_cod qk207 rfl) (by decide) rfl ?_
  refine ev_imul (q_cod qk207 rfl) (by decide) ?_
  refine ev_ic (v := 2) (q_cod qk207 rfl) (by decide) (by decide) ?_
  refine ev_iadd (q_cod qk207 rfl) (by decide) ?_
  refine ev_iload_n (q_cod qk207 rfl) (by decide) rfl ?_
  refine ev_iadd (q_cod qk207 rfl) (by decide) ?_
  refine em_lI (q_cod qk207 rfl) (by decide) hf (fun v2 hf => ?_)
  obtain rfl := m_R_inv hf
  obtain ⟨rfl, rfl⟩ := (show q_KI o hz (v2, _) from hK)
  exact ev_ret (q_cod qk207 rfl) rfl
theorem f207_cl {l0 : Nat} {l1 : Int32} {l2 : Int32} {h : q_H} {x : Int32 × q_H} (hf : f207 l0 l1 l2 h = some x) : q_Cl 207 [.ref l0, .int l1, .int l2] h (.inl (some (.int x.1))) x.2 := q_Cl.of rfl (q_LvS rfl rfl) (f207_ok hf ⟨rfl, rfl⟩)
/-! SmithyBenchModel.isBelow(III)Z -/
theorem qk208 : q_cs.getD 208 [] = qc_208 := rfl
def f208_38 (s0 : Int32) : m_M Int32 :=
  m_B (m_G (s0 = 0 ∨ s0 = 1)) (fun _ => m_R s0)
theorem f208_38_ok {s0 : Int32} {h : q_H} {o : q_O} {hz : q_H} {x : Int32 × q_H} (hf : f208_38 s0 h = some x) (hK : (q_KI o hz) x) : q_Ev none 208 38 [] [.int s0] h o hz := by
  unfold f208_38 at hf
  obtain ⟨g1, hf⟩ := m_G_some hf
  obtain rfl := m_R_inv hf
  obtain ⟨rfl, rfl⟩ := (show q_KI o hz (s0, _) from hK)
  exact ev_ret (q_cod qk208 rfl) (q_retZ g1)
def f208_27 (l4 : Int32) : m_M Int32 :=
  if l4 = (-1) then (f208_38 0) else (f208_38 1)
theorem f208_27_ok {l4 : Int32} {h : q_H} {o : q_O} {hz : q_H} {x : Int32 × q_H} (hf : f208_27 l4 h = some x) (hK : (q_KI o hz) x) : q_Ev none 208 27 [(4, .int l4)] [] h o hz := by
  unfold f208_27 at hf
  refine ev_iload (q_cod qk208 rfl) (by decide) rfl ?_
  refine ev_ic (v := (-1)) (q_cod qk208 rfl) (by decide) (by decide) ?_
  refine em_ic_eq (q_cod qk208 rfl) (by decide) hf (fun c1 hf => ?_) (fun c1 hf => ?_)
  · refine ev_ic (v := 0) (q_cod qk208 rfl) (by decide) (by decide) ?_
    exact ev_weak (q_pk [] rfl) (f208_38_ok hf hK)
  · refine ev_ic (v := 1) (q_cod qk208 rfl) (by decide) (by decide) ?_
    refine ev_goto (q_cod qk208 rfl) (by decide) ?_
    exact ev_weak (q_pk [] rfl) (f208_38_ok hf hK)
def f208_3b (l0 : Nat) (l1 : Int32) (l3 : Int32) (l4 : Int32) : m_M ((Nat × Int32 × Int32 × Int32) ⊕ Int32) :=
  if l4 = (-1) then (m_B (f208_27 l4) (fun r => m_R (.inr r))) else (if l4 = l3 then (m_B (f208_27 l4) (fun r => m_R (.inr r))) else (m_B (m_aK l0 12) (fun _ => m_B (f207 l0 l1 l4) (fun v2 => m_R (.inl (l0, l1, l3, v2))))))
theorem f208_3b_ok {l0 : Nat} {l1 : Int32} {l3 : Int32} {l4 : Int32} {h : q_H} {o : q_O} {hz : q_H} {x : ((Nat × Int32 × Int32 × Int32) ⊕ Int32) × q_H} (hf : f208_3b l0 l1 l3 l4 h = some x) (hK : (m_yK (fun (s : Nat × Int32 × Int32 × Int32) (h : q_H) => q_Ev none 208 3 [(0, .ref (s.1)), (1, .int (s.2.1)), (3, .int (s.2.2.1)), (4, .int (s.2.2.2))] [] h o hz) (q_KI o hz)) x) : q_Ev none 208 3 [(0, .ref l0), (1, .int l1), (3, .int l3), (4, .int l4)] [] h o hz := by
  unfold f208_3b at hf
  refine ev_iload (q_cod qk208 rfl) (by decide) rfl ?_
  refine ev_ic (v := (-1)) (q_cod qk208 rfl) (by decide) (by decide) ?_
  refine em_ic_eq (q_cod qk208 rfl) (by decide) hf (fun c4 hf => ?_) (fun c4 hf => ?_)
  · obtain ⟨y0, hf0, hx⟩ := m_inr_some hf
    subst hx
    exact ev_weak (q_pk [3] rfl) (f208_27_ok hf0 hK)
  · refine ev_iload (q_cod qk208 rfl) (by decide) rfl ?_
    refine ev_iload_n (q_cod qk208 rfl) (by decide) rfl ?_
    refine em_ic_eq (q_cod qk208 rfl) (by decide) hf (fun c3 hf => ?_) (fun c3 hf => ?_)
    · obtain ⟨y0, hf0, hx⟩ := m_inr_some hf
      subst hx
      exact ev_weak (q_pk [3] rfl) (f208_27_ok hf0 hK)
    · refine ev_aload_n (q_cod qk208 rfl) (by decide) rfl ?_
      refine ev_iload_n (q_cod qk208 rfl) (by decide) rfl ?_
      refine ev_iload (q_cod qk208 rfl) (by decide) rfl ?_
      obtain ⟨g1, hf⟩ := m_aK_some hf
      refine em_call (v := (fun u => some (.int u))) (q_cod qk208 rfl) rfl rfl (q_cokV rfl rfl (Or.inr g1)) rfl (fun x e => f207_cl e) hf (fun v2 h hf => ?_)
      refine ev_is2 (L' := [(0, .ref l0), (1, .int l1), (3, .int l3), (4, .int v2)]) (q_cod qk208 rfl) (by decide) rfl ?_
      refine ev_goto (q_cod qk208 rfl) (by decide) ?_
      obtain rfl := m_R_inv hf
      exact (show q_Ev none 208 3 [(0, .ref l0), (1, .int l1), (3, .int l3), (4, .int v2)] [] _ o hz from hK)
def f208_3 (l0 : Nat) (l1 : Int32) (l3 : Int32) (l4 : Int32) : m_M Int32 := m_W (fun s => f208_3b (s.1) (s.2.1) (s.2.2.1) (s.2.2.2)) 1000000 (l0, l1, l3, l4)
theorem f208_3_ok {l0 : Nat} {l1 : Int32} {l3 : Int32} {l4 : Int32} {h : q_H} {o : q_O} {hz : q_H} {x : Int32 × q_H} (hf : f208_3 l0 l1 l3 l4 h = some x) (hK : (q_KI o hz) x) : q_Ev none 208 3 [(0, .ref l0), (1, .int l1), (3, .int l3), (4, .int l4)] [] h o hz :=
  m_W_ok (P := (fun (s : Nat × Int32 × Int32 × Int32) (h : q_H) => q_Ev none 208 3 [(0, .ref (s.1)), (1, .int (s.2.1)), (3, .int (s.2.2.1)), (4, .int (s.2.2.2))] [] h o hz)) (K := (q_KI o hz)) (fun s h x h1 h2 => f208_3b_ok h1 h2) _ (l0, l1, l3, l4) _ _ hf hK
def f208 (l0 : Nat) (l1 : Int32) (l2 : Int32) (l3 : Int32) : m_M Int32 :=
  f208_3 l0 l1 l3 l2
theorem f208_ok {l0 : Nat} {l1 : Int32} {l2 : Int32} {l3 : Int32} {h : q_H} {o : q_O} {hz : q_H} {x : Int32 × q_H} (hf : f208 l0 l1 l2 l3 h = some x) (hK : (q_KI o hz) x) : q_Ev none 208 0 [(0, .ref l0), (1, .int l1), (2, .int l2), (3, .int l3)] [] h o hz := by
  unfold f208 at hf
  refine ev_iload_n (q_cod qk208 rfl) (by decide) rfl ?_
  refine ev_is2 (L' := [(0, .ref l0), (1, .int l1), (2, .int l2), (3, .int l3), (4, .int l2)]) (q_cod qk208 rfl) (by decide) rfl ?_
  exact ev_weak (q_pk [0, 1, 3, 4] rfl) (f208_3_ok hf hK)
theorem f208_cl {l0 : Nat} {l1 : Int32} {l2 : Int32} {l3 : Int32} {h : q_H} {x : Int32 × q_H} (hf : f208 l0 l1 l2 l3 h = some x) : q_Cl 208 [.ref l0, .int l1, .int l2, .int l3] h (.inl (some (.int x.1))) x.2 := q_Cl.of rfl (q_LvS rfl rfl) (f208_ok hf ⟨rfl, rfl⟩)
/-! SmithyBenchModel.areAkin(III)Z -/
theorem qk209 : q_cs.getD 209 [] = qc_209 := rfl
def f209_25 (s0 : Int32) : m_M Int32 :=
  m_B (m_G (s0 = 0 ∨ s0 = 1)) (fun _ => m_R s0)
theorem f209_25_ok {s0 : Int32} {h : q_H} {o : q_O} {hz : q_H} {x : Int32 × q_H} (hf : f209_25 s0 h = some x) (hK : (q_KI o hz) x) : q_Ev none 209 25 [] [.int s0] h o hz := by
  unfold f209_25 at hf
  obtain ⟨g1, hf⟩ := m_G_some hf
  obtain rfl := m_R_inv hf
  obtain ⟨rfl, rfl⟩ := (show q_KI o hz (s0, _) from hK)
  exact ev_ret (q_cod qk209 rfl) (q_retZ g1)
def f209_20  : m_M Int32 :=
  f209_25 1
theorem f209_20_ok  {h : q_H} {o : q_O} {hz : q_H} {x : Int32 × q_H} (hf : f209_20 h = some x) (hK : (q_KI o hz) x) : q_Ev none 209 20 [] [] h o hz := by
  unfold f209_20 at hf
  refine ev_ic (v := 1) (q_cod qk209 rfl) (by decide) (by decide) ?_
  refine ev_goto (q_cod qk209 rfl) (by decide) ?_
  exact (f209_25_ok hf hK)
def f209 (l0 : Nat) (l1 : Int32) (l2 : Int32) (l3 : Int32) : m_M Int32 :=
  m_B (m_aK l0 12) (fun _ => m_B (f208 l0 l1 l2 l3) (fun v2 => if v2 = 0 then (m_B (m_aK l0 12) (fun _ => m_B (f208 l0 l1 l3 l2) (fun v4 => if v4 = 0 then (f209_25 0) else (f209_20)))) else (f209_20)))
theorem f209_ok {l0 : Nat} {l1 : Int32} {l2 : Int32} {l3 : Int32} {h : q_H} {o : q_O} {hz : q_H} {x : Int32 × q_H} (hf : f209 l0 l1 l2 l3 h = some x) (hK : (q_KI o hz) x) : q_Ev none 209 0 [(0, .ref l0), (1, .int l1), (2, .int l2), (3, .int l3)] [] h o hz := by
  unfold f209 at hf
  refine ev_aload_n (q_cod qk209 rfl) (by decide) rfl ?_
  refine ev_iload_n (q_cod qk209 rfl) (by decide) rfl ?_
  refine ev_iload_n (q_cod qk209 rfl) (by decide) rfl ?_
  refine ev_iload_n (q_cod qk209 rfl) (by decide) rfl ?_
  obtain ⟨g1, hf⟩ := m_aK_some hf
  refine em_call (v := (fun u => some (.int u))) (q_cod qk209 rfl) rfl rfl (q_cokV rfl rfl (Or.inr g1)) rfl (fun x e => f208_cl e) hf (fun v2 h hf => ?_)
  refine em_if_ne (q_cod qk209 rfl) (by decide) hf (fun c6 hf => ?_) (fun c6 hf => ?_)
  · refine ev_aload_n (q_cod qk209 rfl) (by decide) rfl ?_
    refine ev_iload_n (q_cod qk209 rfl) (by decide) rfl ?_
    refine ev_iload_n (q_cod qk209 rfl) (by decide) rfl ?_
    refine ev_iload_n (q_cod qk209 rfl) (by decide) rfl ?_
    obtain ⟨g3, hf⟩ := m_aK_some hf
    refine em_call (v := (fun u => some (.int u))) (q_cod qk209 rfl) rfl rfl (q_cokV rfl rfl (Or.inr g3)) rfl (fun x e => f208_cl e) hf (fun v4 h hf => ?_)
    refine em_if_eq (q_cod qk209 rfl) (by decide) hf (fun c5 hf => ?_) (fun c5 hf => ?_)
    · refine ev_ic (v := 0) (q_cod qk209 rfl) (by decide) (by decide) ?_
      exact ev_weak (q_pk [] rfl) (f209_25_ok hf hK)
    · exact ev_weak (q_pk [] rfl) (f209_20_ok hf hK)
  · exact ev_weak (q_pk [] rfl) (f209_20_ok hf hK)
theorem f209_cl {l0 : Nat} {l1 : Int32} {l2 : Int32} {l3 : Int32} {h : q_H} {x : Int32 × q_H} (hf : f209 l0 l1 l2 l3 h = some x) : q_Cl 209 [.ref l0, .int l1, .int l2, .int l3] h (.inl (some (.int x.1))) x.2 := q_Cl.of rfl (q_LvS rfl rfl) (f209_ok hf ⟨rfl, rfl⟩)
/-! SmithyBenchModel.ownField(III)I -/
theorem qk210 : q_cs.getD 210 [] = qc_210 := rfl
def f210 (l0 : Nat) (l1 : Int32) (l2 : Int32) (l3 : Int32) : m_M Int32 :=
  m_B (m_gR 12 l0 1) (fun r1 => m_B (m_lI r1 ((((14200 * l1) + 8) + (16 * l2)) + l3)) (fun v2 => m_R v2))
theorem f210_ok {l0 : Nat} {l1 : Int32} {l2 : Int32} {l3 : Int32} {h : q_H} {o : q_O} {hz : q_H} {x : Int32 × q_H} (hf : f210 l0 l1 l2 l3 h = some x) (hK : (q_KI o hz) x) : q_Ev none 210 0 [(0, .ref l0), (1, .int l1), (2, .int l2), (3, .int l3)] [] h o hz := by
  unfold f210 at hf
  refine ev_aload_n (q_cod qk210 rfl) (by decide) rfl ?_
  refine em_gR (q_cod qk210 rfl) (by decide) (by decide) hf (fun r1 hf => ?_)
  refine ev_si (v := 14200) (q_cod qk210 rfl) (by decide) (by decide) ?_
  refine ev_iload_n (q_cod qk210 rfl) (by decide) rfl ?_
  refine ev_imul (q_cod qk210 rfl) (by decide) ?_
  refine ev_bi (v := 8) (q_cod qk210 rfl) (by decide) (by decide) ?_
  refine ev_iadd (q_cod qk210 rfl) (by decide) ?_
  refine ev_bi (v := 16) (q_cod qk210 rfl) (by decide) (by decide) ?_
  refine ev_iload_n (q_cod qk210 rfl) (by decide) rfl ?_
  refine ev_imul (q_cod qk210 rfl) (by decide) ?_
  refine ev_iadd (q_cod qk210 rfl) (by decide) ?_
  refine ev_iload_n (q_cod qk210 rfl) (by decide) rfl ?_
  refine ev_iadd (q_cod qk210 rfl) (by decide) ?_
  refine em_lI (q_cod qk210 rfl) (by decide) hf (fun v2 hf => ?_)
  obtain rfl := m_R_inv hf
  obtain ⟨rfl, rfl⟩ := (show q_KI o hz (v2, _) from hK)
  exact ev_ret (q_cod qk210 rfl) rfl
theorem f210_cl {l0 : Nat} {l1 : Int32} {l2 : Int32} {l3 : Int32} {h : q_H} {x : Int32 × q_H} (hf : f210 l0 l1 l2 l3 h = some x) : q_Cl 210 [.ref l0, .int l1, .int l2, .int l3] h (.inl (some (.int x.1))) x.2 := q_Cl.of rfl (q_LvS rfl rfl) (f210_ok hf ⟨rfl, rfl⟩)
/-! SmithyBenchModel.fieldClass(III)I -/
theorem qk211 : q_cs.getD 211 [] = qc_211 := rfl
def f211_32 (l4 : Int32) : m_M Int32 :=
  m_R l4
theorem f211_32_ok {l4 : Int32} {h : q_H} {o : q_O} {hz : q_H} {x : Int32 × q_H} (hf : f211_32 l4 h = some x) (hK : (q_KI o hz) x) : q_Ev none 211 32 [(4, .int l4)] [] h o hz := by
  unfold f211_32 at hf
  refine ev_iload (q_cod qk211 rfl) (by decide) rfl ?_
  obtain rfl := m_R_inv hf
  obtain ⟨rfl, rfl⟩ := (show q_KI o hz (l4, _) from hK)
  exact ev_ret (q_cod qk211 rfl) rfl
def f211_3b (l0 : Nat) (l1 : Int32) (l3 : Int32) (l4 : Int32) : m_M ((Nat × Int32 × Int32 × Int32) ⊕ Int32) :=
  if l4 = (-1) then (m_B (f211_32 l4) (fun r => m_R (.inr r))) else (m_B (m_aK l0 12) (fun _ => m_B (f210 l0 l1 l4 l3) (fun v2 => if v2 = 0 then (m_B (m_aK l0 12) (fun _ => m_B (f207 l0 l1 l4) (fun v4 => m_R (.inl (l0, l1, l3, v4))))) else (m_B (f211_32 l4) (fun r => m_R (.inr r))))))
theorem f211_3b_ok {l0 : Nat} {l1 : Int32} {l3 : Int32} {l4 : Int32} {h : q_H} {o : q_O} {hz : q_H} {x : ((Nat × Int32 × Int32 × Int32) ⊕ Int32) × q_H} (hf : f211_3b l0 l1 l3 l4 h = some x) (hK : (m_yK (fun (s : Nat × Int32 × Int32 × Int32) (h : q_H) => q_Ev none 211 3 [(0, .ref (s.1)), (1, .int (s.2.1)), (3, .int (s.2.2.1)), (4, .int (s.2.2.2))] [] h o hz) (q_KI o hz)) x) : q_Ev none 211 3 [(0, .ref l0), (1, .int l1), (3, .int l3), (4, .int l4)] [] h o hz := by
  unfold f211_3b at hf
  refine ev_iload (q_cod qk211 rfl) (by decide) rfl ?_
  refine ev_ic (v := (-1)) (q_cod qk211 rfl) (by decide) (by decide) ?_
  refine em_ic_eq (q_cod qk211 rfl) (by decide) hf (fun c6 hf => ?_) (fun c6 hf => ?_)
  · obtain ⟨y0, hf0, hx⟩ := m_inr_some hf
    subst hx
    exact ev_weak (q_pk [3] rfl) (f211_32_ok hf0 hK)
  · refine ev_aload_n (q_cod qk211 rfl) (by decide) rfl ?_
    refine ev_iload_n (q_cod qk211 rfl) (by decide) rfl ?_
    refine ev_iload (q_cod qk211 rfl) (by decide) rfl ?_
    refine ev_iload_n (q_cod qk211 rfl) (by decide) rfl ?_
    obtain ⟨g1, hf⟩ := m_aK_some hf
    refine em_call (v := (fun u => some (.int u))) (q_cod qk211 rfl) rfl rfl (q_cokV rfl rfl (Or.inr g1)) rfl (fun x e => f210_cl e) hf (fun v2 h hf => ?_)
    refine em_if_ne (q_cod qk211 rfl) (by decide) hf (fun c5 hf => ?_) (fun c5 hf => ?_)
    · refine ev_aload_n (q_cod qk211 rfl) (by decide) rfl ?_
      refine ev_iload_n (q_cod qk211 rfl) (by decide) rfl ?_
      refine ev_iload (q_cod qk211 rfl) (by decide) rfl ?_
      obtain ⟨g3, hf⟩ := m_aK_some hf
      refine em_call (v := (fun u => some (.int u))) (q_cod qk211 rfl) rfl rfl (q_cokV rfl rfl (Or.inr g3)) rfl (fun x e => f207_cl e) hf (fun v4 h hf => ?_)
      refine ev_is2 (L' := [(0, .ref l0), (1, .int l1), (3, .int l3), (4, .int v4)]) (q_cod qk211 rfl) (by decide) rfl ?_
      refine ev_goto (q_cod qk211 rfl) (by decide) ?_
      obtain rfl := m_R_inv hf
      exact (show q_Ev none 211 3 [(0, .ref l0), (1, .int l1), (3, .int l3), (4, .int v4)] [] _ o hz from hK)
    · obtain ⟨y0, hf0, hx⟩ := m_inr_some hf
      subst hx
      exact ev_weak (q_pk [3] rfl) (f211_32_ok hf0 hK)
def f211_3 (l0 : Nat) (l1 : Int32) (l3 : Int32) (l4 : Int32) : m_M Int32 := m_W (fun s => f211_3b (s.1) (s.2.1) (s.2.2.1) (s.2.2.2)) 1000000 (l0, l1, l3, l4)
theorem f211_3_ok {l0 : Nat} {l1 : Int32} {l3 : Int32} {l4 : Int32} {h : q_H} {o : q_O} {hz : q_H} {x : Int32 × q_H} (hf : f211_3 l0 l1 l3 l4 h = some x) (hK : (q_KI o hz) x) : q_Ev none 211 3 [(0, .ref l0), (1, .int l1), (3, .int l3), (4, .int l4)] [] h o hz :=
  m_W_ok (P := (fun (s : Nat × Int32 × Int32 × Int32) (h : q_H) => q_Ev none 211 3 [(0, .ref (s.1)), (1, .int (s.2.1)), (3, .int (s.2.2.1)), (4, .int (s.2.2.2))] [] h o hz)) (K := (q_KI o hz)) (fun s h x h1 h2 => f211_3b_ok h1 h2) _ (l0, l1, l3, l4) _ _ hf hK
def f211 (l0 : Nat) (l1 : Int32) (l2 : Int32) (l3 : Int32) : m_M Int32 :=
  f211_3 l0 l1 l3 l2
theorem f211_ok {l0 : Nat} {l1 : Int32} {l2 : Int32} {l3 : Int32} {h : q_H} {o : q_O} {hz : q_H} {x : Int32 × q_H} (hf : f211 l0 l1 l2 l3 h = some x) (hK : (q_KI o hz) x) : q_Ev none 211 0 [(0, .ref l0), (1, .int l1), (2, .int l2), (3, .int l3)] [] h o hz := by
  unfold f211 at hf
  refine ev_iload_n (q_cod qk211 rfl) (by decide) rfl ?_
  refine ev_is2 (L' := [(0, .ref l0), (1, .int l1), (2, .int l2), (3, .int l3), (4, .int l2)]) (q_cod qk211 rfl) (by decide) rfl ?_
  exact ev_weak (q_pk [0, 1, 3, 4] rfl) (f211_3_ok hf hK)
theorem f211_cl {l0 : Nat} {l1 : Int32} {l2 : Int32} {l3 : Int32} {h : q_H} {x : Int32 × q_H} (hf : f211 l0 l1 l2 l3 h = some x) : q_Cl 211 [.ref l0, .int l1, .int l2, .int l3] h (.inl (some (.int x.1))) x.2 := q_Cl.of rfl (q_LvS rfl rfl) (f211_ok hf ⟨rfl, rfl⟩)
/-! SmithyBenchModel.hasAkinField(III)Z -/
theorem qk212 : q_cs.getD 212 [] = qc_212 := rfl
def f212_53 (l0 : Nat) (l1 : Int32) (l2 : Int32) (l3 : Int32) (l5 : Int32) (s0 : Int32) : m_M ((Nat × Int32 × Int32 × Int32 × Int32 × Int32) ⊕ Int32) :=
  m_R (.inl (l0, l1, l2, l3, s0, (l5 + 1)))
theorem f212_53_ok {l0 : Nat} {l1 : Int32} {l2 : Int32} {l3 : Int32} {l5 : Int32} {s0 : Int32} {h : q_H} {o : q_O} {hz : q_H} {x : ((Nat × Int32 × Int32 × Int32 × Int32 × Int32) ⊕ Int32) × q_H} (hf : f212_53 l0 l1 l2 l3 l5 s0 h = some x) (hK : (m_yK (fun (s : Nat × Int32 × Int32 × Int32 × Int32 × Int32) (h : q_H) => q_Ev none 212 6 [(0, .ref (s.1)), (1, .int (s.2.1)), (2, .int (s.2.2.1)), (3, .int (s.2.2.2.1)), (4, .int (s.2.2.2.2.1)), (5, .int (s.2.2.2.2.2))] [] h o hz) (q_KI o hz)) x) : q_Ev none 212 53 [(0, .ref l0), (1, .int l1), (2, .int l2), (3, .int l3), (5, .int l5)] [.int s0] h o hz := by
  unfold f212_53 at hf
  refine ev_is2 (L' := [(0, .ref l0), (1, .int l1), (2, .int l2), (3, .int l3), (4, .int s0), (5, .int l5)]) (q_cod qk212 rfl) (by decide) rfl ?_
  refine ev_inc (v := l5 + 1) (L' := [(0, .ref l0), (1, .int l1), (2, .int l2), (3, .int l3), (4, .int s0), (5, .int (l5 + 1))]) (q_cod qk212 rfl) (by decide) rfl rfl rfl ?_
  refine ev_goto (q_cod qk212 rfl) (by decide) ?_
  obtain rfl := m_R_inv hf
  exact (show q_Ev none 212 6 [(0, .ref l0), (1, .int l1), (2, .int l2), (3, .int l3), (4, .int s0), (5, .int (l5 + 1))] [] _ o hz from hK)
def f212_52 (l0 : Nat) (l1 : Int32) (l2 : Int32) (l3 : Int32) (l5 : Int32) : m_M ((Nat × Int32 × Int32 × Int32 × Int32 × Int32) ⊕ Int32) :=
  f212_53 l0 l1 l2 l3 l5 0
theorem f212_52_ok {l0 : Nat} {l1 : Int32} {l2 : Int32} {l3 : Int32} {l5 : Int32} {h : q_H} {o : q_O} {hz : q_H} {x : ((Nat × Int32 × Int32 × Int32 × Int32 × Int32) ⊕ Int32) × q_H} (hf : f212_52 l0 l1 l2 l3 l5 h = some x) (hK : (m_yK (fun (s : Nat × Int32 × Int32 × Int32 × Int32 × Int32) (h : q_H) => q_Ev none 212 6 [(0, .ref (s.1)), (1, .int (s.2.1)), (2, .int (s.2.2.1)), (3, .int (s.2.2.2.1)), (4, .int (s.2.2.2.2.1)), (5, .int (s.2.2.2.2.2))] [] h o hz) (q_KI o hz)) x) : q_Ev none 212 52 [(0, .ref l0), (1, .int l1), (2, .int l2), (3, .int l3), (5, .int l5)] [] h o hz := by
  unfold f212_52 at hf
  refine ev_ic (v := 0) (q_cod qk212 rfl) (by decide) (by decide) ?_
  exact (f212_53_ok hf hK)
def f212_48 (l0 : Nat) (l1 : Int32) (l2 : Int32) (l3 : Int32) (l5 : Int32) : m_M ((Nat × Int32 × Int32 × Int32 × Int32 × Int32) ⊕ Int32) :=
  f212_53 l0 l1 l2 l3 l5 1
theorem f212_48_ok {l0 : Nat} {l1 : Int32} {l2 : Int32} {l3 : Int32} {l5 : Int32} {h : q_H} {o : q_O} {hz : q_H} {x : ((Nat × Int32 × Int32 × Int32 × Int32 × Int32) ⊕ Int32) × q_H} (hf : f212_48 l0 l1 l2 l3 l5 h = some x) (hK : (m_yK (fun (s : Nat × Int32 × Int32 × Int32 × Int32 × Int32) (h : q_H) => q_Ev none 212 6 [(0, .ref (s.1)), (1, .int (s.2.1)), (2, .int (s.2.2.1)), (3, .int (s.2.2.2.1)), (4, .int (s.2.2.2.2.1)), (5, .int (s.2.2.2.2.2))] [] h o hz) (q_KI o hz)) x) : q_Ev none 212 48 [(0, .ref l0), (1, .int l1), (2, .int l2), (3, .int l3), (5, .int l5)] [] h o hz := by
  unfold f212_48 at hf
  refine ev_ic (v := 1) (q_cod qk212 rfl) (by decide) (by decide) ?_
  refine ev_goto (q_cod qk212 rfl) (by decide) ?_
  exact (f212_53_ok hf hK)
def f212_61 (l4 : Int32) : m_M Int32 :=
  m_B (m_G (l4 = 0 ∨ l4 = 1)) (fun _ => m_R l4)
theorem f212_61_ok {l4 : Int32} {h : q_H} {o : q_O} {hz : q_H} {x : Int32 × q_H} (hf : f212_61 l4 h = some x) (hK : (q_KI o hz) x) : q_Ev none 212 61 [(4, .int l4)] [] h o hz := by
  unfold f212_61 at hf
  refine ev_iload (q_cod qk212 rfl) (by decide) rfl ?_
  obtain ⟨g1, hf⟩ := m_G_some hf
  obtain rfl := m_R_inv hf
  obtain ⟨rfl, rfl⟩ := (show q_KI o hz (l4, _) from hK)
  exact ev_ret (q_cod qk212 rfl) (q_retZ g1)
def f212_6b (l0 : Nat) (l1 : Int32) (l2 : Int32) (l3 : Int32) (l4 : Int32) (l5 : Int32) : m_M ((Nat × Int32 × Int32 × Int32 × Int32 × Int32) ⊕ Int32) :=
  m_B (m_gR 12 l0 1) (fun r1 => m_B (m_lI r1 (14200 * l1)) (fun v2 => if l5 < v2 then (if l4 = 0 then (m_B (m_aK l0 12) (fun _ => m_B (f209 l0 l1 l2 l5) (fun v4 => if v4 = 0 then (f212_52 l0 l1 l2 l3 l5) else (m_B (m_aK l0 12) (fun _ => m_B (f210 l0 l1 l5 l3) (fun v6 => if v6 = 0 then (f212_52 l0 l1 l2 l3 l5) else (f212_48 l0 l1 l2 l3 l5))))))) else (f212_48 l0 l1 l2 l3 l5)) else (m_B (f212_61 l4) (fun r => m_R (.inr r)))))
theorem f212_6b_ok {l0 : Nat} {l1 : Int32} {l2 : Int32} {l3 : Int32} {l4 : Int32} {l5 : Int32} {h : q_H} {o : q_O} {hz : q_H} {x : ((Nat × Int32 × Int32 × Int32 × Int32 × Int32) ⊕ Int32) × q_H} (hf : f212_6b l0 l1 l2 l3 l4 l5 h = some x) (hK : (m_yK (fun (s : Nat × Int32 × Int32 × Int32 × Int32 × Int32) (h : q_H) => q_Ev none 212 6 [(0, .ref (s.1)), (1, .int (s.2.1)), (2, .int (s.2.2.1)), (3, .int (s.2.2.2.1)), (4, .int (s.2.2.2.2.1)), (5, .int (s.2.2.2.2.2))] [] h o hz) (q_KI o hz)) x) : q_Ev none 212 6 [(0, .ref l0), (1, .int l1), (2, .int l2), (3, .int l3), (4, .int l4), (5, .int l5)] [] h o hz := by
  unfold f212_6b at hf
  refine ev_iload (q_cod qk212 rfl) (by decide) rfl ?_
  refine ev_aload_n (q_cod qk212 rfl) (by decide) rfl ?_
  refine em_gR (q_cod qk212 rfl) (by decide) (by decide) hf (fun r1 hf => ?_)
  refine ev_si (v := 14200) (q_cod qk212 rfl) (by decide) (by decide) ?_
  refine ev_iload_n (q_cod qk212 rfl) (by decide) rfl ?_
  refine ev_imul (q_cod qk212 rfl) (by decide) ?_
  refine em_lI (q_cod qk212 rfl) (by decide) hf (fun v2 hf => ?_)
  refine em_ic_ge (q_cod qk212 rfl) (by decide) hf (fun c10 hf => ?_) (fun c10 hf => ?_)
  · refine ev_iload (q_cod qk212 rfl) (by decide) rfl ?_
    refine em_if_ne (q_cod qk212 rfl) (by decide) hf (fun c9 hf => ?_) (fun c9 hf => ?_)
    · refine ev_aload_n (q_cod qk212 rfl) (by decide) rfl ?_
      refine ev_iload_n (q_cod qk212 rfl) (by decide) rfl ?_
      refine ev_iload_n (q_cod qk212 rfl) (by decide) rfl ?_
      refine ev_iload (q_cod qk212 rfl) (by decide) rfl ?_
      obtain ⟨g3, hf⟩ := m_aK_some hf
      refine em_call (v := (fun u => some (.int u))) (q_cod qk212 rfl) rfl rfl (q_cokV rfl rfl (Or.inr g3)) rfl (fun x e => f209_cl e) hf (fun v4 h hf => ?_)
      refine em_if_eq (q_cod qk212 rfl) (by decide) hf (fun c8 hf => ?_) (fun c8 hf => ?_)
      · exact ev_weak (q_pk [0, 1, 2, 3, 5] rfl) (f212_52_ok hf hK)
      · refine ev_aload_n (q_cod qk212 rfl) (by decide) rfl ?_
        refine ev_iload_n (q_cod qk212 rfl) (by decide) rfl ?_
        refine ev_iload (q_cod qk212 rfl) (by decide) rfl ?_
        refine ev_iload_n (q_cod qk212 rfl) (by decide) rfl ?_
        obtain ⟨g5, hf⟩ := m_aK_some hf
        refine em_call (v := (fun u => some (.int u))) (q_cod qk212 rfl) rfl rfl (q_cokV rfl rfl (Or.inr g5)) rfl (fun x e => f210_cl e) hf (fun v6 h hf => ?_)
        refine em_if_eq (q_cod qk212 rfl) (by decide) hf (fun c7 hf => ?_) (fun c7 hf => ?_)
        · exact ev_weak (q_pk [0, 1, 2, 3, 5] rfl) (f212_52_ok hf hK)
        · exact ev_weak (q_pk [0, 1, 2, 3, 5] rfl) (f212_48_ok hf hK)
    · exact ev_weak (q_pk [0, 1, 2, 3, 5] rfl) (f212_48_ok hf hK)
  · obtain ⟨y0, hf0, hx⟩ := m_inr_some hf
    subst hx
    exact ev_weak (q_pk [4] rfl) (f212_61_ok hf0 hK)
def f212_6 (l0 : Nat) (l1 : Int32) (l2 : Int32) (l3 : Int32) (l4 : Int32) (l5 : Int32) : m_M Int32 := m_W (fun s => f212_6b (s.1) (s.2.1) (s.2.2.1) (s.2.2.2.1) (s.2.2.2.2.1) (s.2.2.2.2.2)) 1000000 (l0, l1, l2, l3, l4, l5)
theorem f212_6_ok {l0 : Nat} {l1 : Int32} {l2 : Int32} {l3 : Int32} {l4 : Int32} {l5 : Int32} {h : q_H} {o : q_O} {hz : q_H} {x : Int32 × q_H} (hf : f212_6 l0 l1 l2 l3 l4 l5 h = some x) (hK : (q_KI o hz) x) : q_Ev none 212 6 [(0, .ref l0), (1, .int l1), (2, .int l2), (3, .int l3), (4, .int l4), (5, .int l5)] [] h o hz :=
  m_W_ok (P := (fun (s : Nat × Int32 × Int32 × Int32 × Int32 × Int32) (h : q_H) => q_Ev none 212 6 [(0, .ref (s.1)), (1, .int (s.2.1)), (2, .int (s.2.2.1)), (3, .int (s.2.2.2.1)), (4, .int (s.2.2.2.2.1)), (5, .int (s.2.2.2.2.2))] [] h o hz)) (K := (q_KI o hz)) (fun s h x h1 h2 => f212_6b_ok h1 h2) _ (l0, l1, l2, l3, l4, l5) _ _ hf hK
def f212 (l0 : Nat) (l1 : Int32) (l2 : Int32) (l3 : Int32) : m_M Int32 :=
  f212_6 l0 l1 l2 l3 0 0
theorem f212_ok {l0 : Nat} {l1 : Int32} {l2 : Int32} {l3 : Int32} {h : q_H} {o : q_O} {hz : q_H} {x : Int32 × q_H} (hf : f212 l0 l1 l2 l3 h = some x) (hK : (q_KI o hz) x) : q_Ev none 212 0 [(0, .ref l0), (1, .int l1), (2, .int l2), (3, .int l3)] [] h o hz := by
  unfold f212 at hf
  refine ev_ic (v := 0) (q_cod qk212 rfl) (by decide) (by decide) ?_
  refine ev_is2 (L' := [(0, .ref l0), (1, .int l1), (2, .int l2), (3, .int l3), (4, .int 0)]) (q_cod qk212 rfl) (by decide) rfl ?_
  refine ev_ic (v := 0) (q_cod qk212 rfl) (by decide) (by decide) ?_
  refine ev_is2 (L' := [(0, .ref l0), (1, .int l1), (2, .int l2), (3, .int l3), (4, .int 0), (5, .int 0)]) (q_cod qk212 rfl) (by decide) rfl ?_
  exact (f212_6_ok hf hK)
theorem f212_cl {l0 : Nat} {l1 : Int32} {l2 : Int32} {l3 : Int32} {h : q_H} {x : Int32 × q_H} (hf : f212 l0 l1 l2 l3 h = some x) : q_Cl 212 [.ref l0, .int l1, .int l2, .int l3] h (.inl (some (.int x.1))) x.2 := q_Cl.of rfl (q_LvS rfl rfl) (f212_ok hf ⟨rfl, rfl⟩)
/-! SmithyBenchModel.ownMethod(IIII)I -/
theorem qk213 : q_cs.getD 213 [] = qc_213 := rfl
def f213_91 (l0 : Nat) (l1 : Int32) (l2 : Int32) (l3 : Int32) (l4 : Int32) (l6 : Int32) (s0 : Int32) : m_M ((Nat × Int32 × Int32 × Int32 × Int32 × Int32 × Int32) ⊕ Int32) :=
  m_R (.inl (l0, l1, l2, l3, l4, s0, (l6 + 1)))
theorem f213_91_ok {l0 : Nat} {l1 : Int32} {l2 : Int32} {l3 : Int32} {l4 : Int32} {l6 : Int32} {s0 : Int32} {h : q_H} {o : q_O} {hz : q_H} {x : ((Nat × Int32 × Int32 × Int32 × Int32 × Int32 × Int32) ⊕ Int32) × q_H} (hf : f213_91 l0 l1 l2 l3 l4 l6 s0 h = some x) (hK : (m_yK (fun (s : Nat × Int32 × Int32 × Int32 × Int32 × Int32 × Int32) (h : q_H) => q_Ev none 213 6 [(0, .ref (s.1)), (1, .int (s.2.1)), (2, .int (s.2.2.1)), (3, .int (s.2.2.2.1)), (4, .int (s.2.2.2.2.1)), (5, .int (s.2.2.2.2.2.1)), (6, .int (s.2.2.2.2.2.2))] [] h o hz) (q_KI o hz)) x) : q_Ev none 213 91 [(0, .ref l0), (1, .int l1), (2, .int l2), (3, .int l3), (4, .int l4), (6, .int l6)] [.int s0] h o hz := by
  unfold f213_91 at hf
  refine ev_is2 (L' := [(0, .ref l0), (1, .int l1), (2, .int l2), (3, .int l3), (4, .int l4), (5, .int s0), (6, .int l6)]) (q_cod qk213 rfl) (by decide) rfl ?_
  refine ev_inc (v := l6 + 1) (L' := [(0, .ref l0), (1, .int l1), (2, .int l2), (3, .int l3), (4, .int l4), (5, .int s0), (6, .int (l6 + 1))]) (q_cod qk213 rfl) (by decide) rfl rfl rfl ?_
  refine ev_goto (q_cod qk213 rfl) (by decide) ?_
  obtain rfl := m_R_inv hf
  exact (show q_Ev none 213 6 [(0, .ref l0), (1, .int l1), (2, .int l2), (3, .int l3), (4, .int l4), (5, .int s0), (6, .int (l6 + 1))] [] _ o hz from hK)
def f213_77 (l0 : Nat) (l1 : Int32) (l2 : Int32) (l3 : Int32) (l4 : Int32) (l5 : Int32) (l6 : Int32) (s0 : Int32) : m_M ((Nat × Int32 × Int32 × Int32 × Int32 × Int32 × Int32) ⊕ Int32) :=
  if s0 = 0 then (f213_91 l0 l1 l2 l3 l4 l6 l5) else (f213_91 l0 l1 l2 l3 l4 l6 l6)
theorem f213_77_ok {l0 : Nat} {l1 : Int32} {l2 : Int32} {l3 : Int32} {l4 : Int32} {l5 : Int32} {l6 : Int32} {s0 : Int32} {h : q_H} {o : q_O} {hz : q_H} {x : ((Nat × Int32 × Int32 × Int32 × Int32 × Int32 × Int32) ⊕ Int32) × q_H} (hf : f213_77 l0 l1 l2 l3 l4 l5 l6 s0 h = some x) (hK : (m_yK (fun (s : Nat × Int32 × Int32 × Int32 × Int32 × Int32 × Int32) (h : q_H) => q_Ev none 213 6 [(0, .ref (s.1)), (1, .int (s.2.1)), (2, .int (s.2.2.1)), (3, .int (s.2.2.2.1)), (4, .int (s.2.2.2.2.1)), (5, .int (s.2.2.2.2.2.1)), (6, .int (s.2.2.2.2.2.2))] [] h o hz) (q_KI o hz)) x) : q_Ev none 213 77 [(0, .ref l0), (1, .int l1), (2, .int l2), (3, .int l3), (4, .int l4), (5, .int l5), (6, .int l6)] [.int s0] h o hz := by
  unfold f213_77 at hf
  refine ev_is2 (L' := [(0, .ref l0), (1, .int l1), (2, .int l2), (3, .int l3), (4, .int l4), (5, .int l5), (6, .int l6), (7, .int s0)]) (q_cod qk213 rfl) (by decide) rfl ?_
  refine ev_iload (q_cod qk213 rfl) (by decide) rfl ?_
  refine em_if_eq (q_cod qk213 rfl) (by decide) hf (fun c1 hf => ?_) (fun c1 hf => ?_)
  · refine ev_iload (q_cod qk213 rfl) (by decide) rfl ?_
    exact ev_weak (q_pk [0, 1, 2, 3, 4, 6] rfl) (f213_91_ok hf hK)
  · refine ev_iload (q_cod qk213 rfl) (by decide) rfl ?_
    refine ev_goto (q_cod qk213 rfl) (by decide) ?_
    exact ev_weak (q_pk [0, 1, 2, 3, 4, 6] rfl) (f213_91_ok hf hK)
def f213_76 (l0 : Nat) (l1 : Int32) (l2 : Int32) (l3 : Int32) (l4 : Int32) (l5 : Int32) (l6 : Int32) : m_M ((Nat × Int32 × Int32 × Int32 × Int32 × Int32 × Int32) ⊕ Int32) :=
  f213_77 l0 l1 l2 l3 l4 l5 l6 0
theorem f213_76_ok {l0 : Nat} {l1 : Int32} {l2 : Int32} {l3 : Int32} {l4 : Int32} {l5 : Int32} {l6 : Int32} {h : q_H} {o : q_O} {hz : q_H} {x : ((Nat × Int32 × Int32 × Int32 × Int32 × Int32 × Int32) ⊕ Int32) × q_H} (hf : f213_76 l0 l1 l2 l3 l4 l5 l6 h = some x) (hK : (m_yK (fun (s : Nat × Int32 × Int32 × Int32 × Int32 × Int32 × Int32) (h : q_H) => q_Ev none 213 6 [(0, .ref (s.1)), (1, .int (s.2.1)), (2, .int (s.2.2.1)), (3, .int (s.2.2.2.1)), (4, .int (s.2.2.2.2.1)), (5, .int (s.2.2.2.2.2.1)), (6, .int (s.2.2.2.2.2.2))] [] h o hz) (q_KI o hz)) x) : q_Ev none 213 76 [(0, .ref l0), (1, .int l1), (2, .int l2), (3, .int l3), (4, .int l4), (5, .int l5), (6, .int l6)] [] h o hz := by
  unfold f213_76 at hf
  refine ev_ic (v := 0) (q_cod qk213 rfl) (by decide) (by decide) ?_
  exact (f213_77_ok hf hK)
def f213_99 (l5 : Int32) : m_M Int32 :=
  m_R l5
theorem f213_99_ok {l5 : Int32} {h : q_H} {o : q_O} {hz : q_H} {x : Int32 × q_H} (hf : f213_99 l5 h = some x) (hK : (q_KI o hz) x) : q_Ev none 213 99 [(5, .int l5)] [] h o hz := by
  unfold f213_99 at hf
  refine ev_iload (q_cod qk213 rfl) (by decide) rfl ?_
  obtain rfl := m_R_inv hf
  obtain ⟨rfl, rfl⟩ := (show q_KI o hz (l5, _) from hK)
  exact ev_ret (q_cod qk213 rfl) rfl
def f213_6b (l0 : Nat) (l1 : Int32) (l2 : Int32) (l3 : Int32) (l4 : Int32) (l5 : Int32) (l6 : Int32) : m_M ((Nat × Int32 × Int32 × Int32 × Int32 × Int32 × Int32) ⊕ Int32) :=
  m_B (m_gR 12 l0 1) (fun r1 => m_B (m_lI r1 ((14200 * l1) + 1)) (fun v2 => if l6 < v2 then (m_B (m_aK l0 12) (fun _ => m_B (f196 l0 l1 l6 0) (fun v4 => if v4 = 1 then (m_B (m_aK l0 12) (fun _ => m_B (f196 l0 l1 l6 1) (fun v6 => if v6 = l2 then (m_B (m_aK l0 12) (fun _ => m_B (f196 l0 l1 l6 2) (fun v8 => if v8 = l3 then (m_B (m_aK l0 12) (fun _ => m_B (f196 l0 l1 l6 3) (fun v10 => if v10 = l4 then (f213_77 l0 l1 l2 l3 l4 l5 l6 1) else (f213_76 l0 l1 l2 l3 l4 l5 l6)))) else (f213_76 l0 l1 l2 l3 l4 l5 l6)))) else (f213_76 l0 l1 l2 l3 l4 l5 l6)))) else (f213_76 l0 l1 l2 l3 l4 l5 l6)))) else (m_B (f213_99 l5) (fun r => m_R (.inr r)))))
theorem f213_6b_ok {l0 : Nat} {l1 : Int32} {l2 : Int32} {l3 : Int32} {l4 : Int32} {l5 : Int32} {l6 : Int32} {h : q_H} {o : q_O} {hz : q_H} {x : ((Nat × Int32 × Int32 × Int32 × Int32 × Int32 × Int32) ⊕ Int32) × q_H} (hf : f213_6b l0 l1 l2 l3 l4 l5 l6 h = some x) (hK : (m_yK (fun (s : Nat × Int32 × Int32 × Int32 × Int32 × Int32 × Int32) (h : q_H) => q_Ev none 213 6 [(0, .ref (s.1)), (1, .int (s.2.1)), (2, .int (s.2.2.1)), (3, .int (s.2.2.2.1)), (4, .int (s.2.2.2.2.1)), (5, .int (s.2.2.2.2.2.1)), (6, .int (s.2.2.2.2.2.2))] [] h o hz) (q_KI o hz)) x) : q_Ev none 213 6 [(0, .ref l0), (1, .int l1), (2, .int l2), (3, .int l3), (4, .int l4), (5, .int l5), (6, .int l6)] [] h o hz := by
  unfold f213_6b at hf
  refine ev_iload (q_cod qk213 rfl) (by decide) rfl ?_
  refine ev_aload_n (q_cod qk213 rfl) (by decide) rfl ?_
  refine em_gR (q_cod qk213 rfl) (by decide) (by decide) hf (fun r1 hf => ?_)
  refine ev_si (v := 14200) (q_cod qk213 rfl) (by decide) (by decide) ?_
  refine ev_iload_n (q_cod qk213 rfl) (by decide) rfl ?_
  refine ev_imul (q_cod qk213 rfl) (by decide) ?_
  refine ev_ic (v := 1) (q_cod qk213 rfl) (by decide) (by decide) ?_
  refine ev_iadd (q_cod qk213 rfl) (by decide) ?_
  refine em_lI (q_cod qk213 rfl) (by decide) hf (fun v2 hf => ?_)
  refine em_ic_ge (q_cod qk213 rfl) (by decide) hf (fun c15 hf => ?_) (fun c15 hf => ?_)
  · refine ev_aload_n (q_cod qk213 rfl) (by decide) rfl ?_
    refine ev_iload_n (q_cod qk213 rfl) (by decide) rfl ?_
    refine ev_iload (q_cod qk213 rfl) (by decide) rfl ?_
    refine ev_ic (v := 0) (q_cod qk213 rfl) (by decide) (by decide) ?_
    obtain ⟨g3, hf⟩ := m_aK_some hf
    refine em_call (v := (fun u => some (.int u))) (q_cod qk213 rfl) rfl rfl (q_cokV rfl rfl (Or.inr g3)) rfl (fun x e => f196_cl e) hf (fun v4 h hf => ?_)
    refine ev_ic (v := 1) (q_cod qk213 rfl) (by decide) (by decide) ?_
    refine em_ic_ne (q_cod qk213 rfl) (by decide) hf (fun c14 hf => ?_) (fun c14 hf => ?_)
    · refine ev_aload_n (q_cod qk213 rfl) (by decide) rfl ?_
      refine ev_iload_n (q_cod qk213 rfl) (by decide) rfl ?_
      refine ev_iload (q_cod qk213 rfl) (by decide) rfl ?_
      refine ev_ic (v := 1) (q_cod qk213 rfl) (by decide) (by decide) ?_
      obtain ⟨g5, hf⟩ := m_aK_some hf
      refine em_call (v := (fun u => some (.int u))) (q_cod qk213 rfl) rfl rfl (q_cokV rfl rfl (Or.inr g5)) rfl (fun x e => f196_cl e) hf (fun v6 h hf => ?_)
      refine ev_iload_n (q_cod qk213 rfl) (by decide) rfl ?_
      refine em_ic_ne (q_cod qk213 rfl) (by decide) hf (fun c13 hf => ?_) (fun c13 hf => ?_)
      · refine ev_aload_n (q_cod qk213 rfl) (by decide) rfl ?_
        refine ev_iload_n (q_cod qk213 rfl) (by decide) rfl ?_
        refine ev_iload (q_cod qk213 rfl) (by decide) rfl ?_
        refine ev_ic (v := 2) (q_cod qk213 rfl) (by decide) (by decide) ?_
        obtain ⟨g7, hf⟩ := m_aK_some hf
        refine em_call (v := (fun u => some (.int u))) (q_cod qk213 rfl) rfl rfl (q_cokV rfl rfl (Or.inr g7)) rfl (fun x e => f196_cl e) hf (fun v8 h hf => ?_)
        refine ev_iload_n (q_cod qk213 rfl) (by decide) rfl ?_
        refine em_ic_ne (q_cod qk213 rfl) (by decide) hf (fun c12 hf => ?_) (fun c12 hf => ?_)
        · refine ev_aload_n (q_cod qk213 rfl) (by decide) rfl ?_
          refine ev_iload_n (q_cod qk213 rfl) (by decide) rfl ?_
          refine ev_iload (q_cod qk213 rfl) (by decide) rfl ?_
          refine ev_ic (v := 3) (q_cod qk213 rfl) (by decide) (by decide) ?_
          obtain ⟨g9, hf⟩ := m_aK_some hf
          refine em_call (v := (fun u => some (.int u))) (q_cod qk213 rfl) rfl rfl (q_cokV rfl rfl (Or.inr g9)) rfl (fun x e => f196_cl e) hf (fun v10 h hf => ?_)
          refine ev_iload (q_cod qk213 rfl) (by decide) rfl ?_
          refine em_ic_ne (q_cod qk213 rfl) (by decide) hf (fun c11 hf => ?_) (fun c11 hf => ?_)
          · refine ev_ic (v := 1) (q_cod qk213 rfl) (by decide) (by decide) ?_
            refine ev_goto (q_cod qk213 rfl) (by decide) ?_
            exact (f213_77_ok hf hK)
          · exact (f213_76_ok hf hK)
        · exact (f213_76_ok hf hK)
      · exact (f213_76_ok hf hK)
    · exact (f213_76_ok hf hK)
  · obtain ⟨y0, hf0, hx⟩ := m_inr_some hf
    subst hx
    exact ev_weak (q_pk [5] rfl) (f213_99_ok hf0 hK)
def f213_6 (l0 : Nat) (l1 : Int32) (l2 : Int32) (l3 : Int32) (l4 : Int32) (l5 : Int32) (l6 : Int32) : m_M Int32 := m_W (fun s => f213_6b (s.1) (s.2.1) (s.2.2.1) (s.2.2.2.1) (s.2.2.2.2.1) (s.2.2.2.2.2.1) (s.2.2.2.2.2.2)) 1000000 (l0, l1, l2, l3, l4, l5, l6)
theorem f213_6_ok {l0 : Nat} {l1 : Int32} {l2 : Int32} {l3 : Int32} {l4 : Int32} {l5 : Int32} {l6 : Int32} {h : q_H} {o : q_O} {hz : q_H} {x : Int32 × q_H} (hf : f213_6 l0 l1 l2 l3 l4 l5 l6 h = some x) (hK : (q_KI o hz) x) : q_Ev none 213 6 [(0, .ref l0), (1, .int l1), (2, .int l2), (3, .int l3), (4, .int l4), (5, .int l5), (6, .int l6)] [] h o hz :=
  m_W_ok (P := (fun (s : Nat × Int32 × Int32 × Int32 × Int32 × Int32 × Int32) (h : q_H) => q_Ev none 213 6 [(0, .ref (s.1)), (1, .int (s.2.1)), (2, .int (s.2.2.1)), (3, .int (s.2.2.2.1)), (4, .int (s.2.2.2.2.1)), (5, .int (s.2.2.2.2.2.1)), (6, .int (s.2.2.2.2.2.2))] [] h o hz)) (K := (q_KI o hz)) (fun s h x h1 h2 => f213_6b_ok h1 h2) _ (l0, l1, l2, l3, l4, l5, l6) _ _ hf hK
def f213 (l0 : Nat) (l1 : Int32) (l2 : Int32) (l3 : Int32) (l4 : Int32) : m_M Int32 :=
  f213_6 l0 l1 l2 l3 l4 (-1) 0
theorem f213_ok {l0 : Nat} {l1 : Int32} {l2 : Int32} {l3 : Int32} {l4 : Int32} {h : q_H} {o : q_O} {hz : q_H} {x : Int32 × q_H} (hf : f213 l0 l1 l2 l3 l4 h = some x) (hK : (q_KI o hz) x) : q_Ev none 213 0 [(0, .ref l0), (1, .int l1), (2, .int l2), (3, .int l3), (4, .int l4)] [] h o hz := by
  unfold f213 at hf
  refine ev_ic (v := (-1)) (q_cod qk213 rfl) (by decide) (by decide) ?_
  refine ev_is2 (L' := [(0, .ref l0), (1, .int l1), (2, .int l2), (3, .int l3), (4, .int l4), (5, .int (-1))]) (q_cod qk213 rfl) (by decide) rfl ?_
  refine ev_ic (v := 0) (q_cod qk213 rfl) (by decide) (by decide) ?_
  refine ev_is2 (L' := [(0, .ref l0), (1, .int l1), (2, .int l2), (3, .int l3), (4, .int l4), (5, .int (-1)), (6, .int 0)]) (q_cod qk213 rfl) (by decide) rfl ?_
  exact (f213_6_ok hf hK)
theorem f213_cl {l0 : Nat} {l1 : Int32} {l2 : Int32} {l3 : Int32} {l4 : Int32} {h : q_H} {x : Int32 × q_H} (hf : f213 l0 l1 l2 l3 l4 h = some x) : q_Cl 213 [.ref l0, .int l1, .int l2, .int l3, .int l4] h (.inl (some (.int x.1))) x.2 := q_Cl.of rfl (q_LvS rfl rfl) (f213_ok hf ⟨rfl, rfl⟩)
/-! SmithyBenchModel.findMethod(IIII)I -/
theorem qk214 : q_cs.getD 214 [] = qc_214 := rfl
def f214_42 (l6 : Int32) : m_M Int32 :=
  m_R l6
theorem f214_42_ok {l6 : Int32} {h : q_H} {o : q_O} {hz : q_H} {x : Int32 × q_H} (hf : f214_42 l6 h = some x) (hK : (q_KI o hz) x) : q_Ev none 214 42 [(6, .int l6)] [] h o hz := by
  unfold f214_42 at hf
  refine ev_iload (q_cod qk214 rfl) (by decide) rfl ?_
  obtain rfl := m_R_inv hf
  obtain ⟨rfl, rfl⟩ := (show q_KI o hz (l6, _) from hK)
  exact ev_ret (q_cod qk214 rfl) rfl
def f214_6b (l0 : Nat) (l1 : Int32) (l3 : Int32) (l4 : Int32) (l5 : Int32) (l6 : Int32) : m_M ((Nat × Int32 × Int32 × Int32 × Int32 × Int32) ⊕ Int32) :=
  if l5 = (-1) then (m_B (f214_42 l6) (fun r => m_R (.inr r))) else (if l6 = (-1) then (m_B (m_aK l0 12) (fun _ => m_B (f213 l0 l1 l5 l3 l4) (fun v2 => m_B (m_aK l0 12) (fun _ => m_B (f207 l0 l1 l5) (fun v4 => m_R (.inl (l0, l1, l3, l4, v4, v2))))))) else (m_B (f214_42 l6) (fun r => m_R (.inr r))))
theorem f214_6b_ok {l0 : Nat} {l1 : Int32} {l3 : Int32} {l4 : Int32} {l5 : Int32} {l6 : Int32} {h : q_H} {o : q_O} {hz : q_H} {x : ((Nat × Int32 × Int32 × Int32 × Int32 × Int32) ⊕ Int32) × q_H} (hf : f214_6b l0 l1 l3 l4 l5 l6 h = some x) (hK : (m_yK (fun (s : Nat × Int32 × Int32 × Int32 × Int32 × Int32) (h : q_H) => q_Ev none 214 6 [(0, .ref (s.1)), (1, .int (s.2.1)), (3, .int (s.2.2.1)), (4, .int (s.2.2.2.1)), (5, .int (s.2.2.2.2.1)), (6, .int (s.2.2.2.2.2))] [] h o hz) (q_KI o hz)) x) : q_Ev none 214 6 [(0, .ref l0), (1, .int l1), (3, .int l3), (4, .int l4), (5, .int l5), (6, .int l6)] [] h o hz := by
  unfold f214_6b at hf
  refine ev_iload (q_cod qk214 rfl) (by decide) rfl ?_
  refine ev_ic (v := (-1)) (q_cod qk214 rfl) (by decide) (by decide) ?_
  refine em_ic_eq (q_cod qk214 rfl) (by decide) hf (fun c6 hf => ?_) (fun c6 hf => ?_)
  · obtain ⟨y0, hf0, hx⟩ := m_inr_some hf
    subst hx
    exact ev_weak (q_pk [5] rfl) (f214_42_ok hf0 hK)
  · refine ev_iload (q_cod qk214 rfl) (by decide) rfl ?_
    refine ev_ic (v := (-1)) (q_cod qk214 rfl) (by decide) (by decide) ?_
    refine em_ic_ne (q_cod qk214 rfl) (by decide) hf (fun c5 hf => ?_) (fun c5 hf => ?_)
    · refine ev_aload_n (q_cod qk214 rfl) (by decide) rfl ?_
      refine ev_iload_n (q_cod qk214 rfl) (by decide) rfl ?_
      refine ev_iload (q_cod qk214 rfl) (by decide) rfl ?_
      refine ev_iload_n (q_cod qk214 rfl) (by decide) rfl ?_
      refine ev_iload (q_cod qk214 rfl) (by decide) rfl ?_
      obtain ⟨g1, hf⟩ := m_aK_some hf
      refine em_call (v := (fun u => some (.int u))) (q_cod qk214 rfl) rfl rfl (q_cokV rfl rfl (Or.inr g1)) rfl (fun x e => f213_cl e) hf (fun v2 h hf => ?_)
      refine ev_is2 (L' := [(0, .ref l0), (1, .int l1), (3, .int l3), (4, .int l4), (5, .int l5), (6, .int v2)]) (q_cod qk214 rfl) (by decide) rfl ?_
      refine ev_aload_n (q_cod qk214 rfl) (by decide) rfl ?_
      refine ev_iload_n (q_cod qk214 rfl) (by decide) rfl ?_
      refine ev_iload (q_cod qk214 rfl) (by decide) rfl ?_
      obtain ⟨g3, hf⟩ := m_aK_some hf
      refine em_call (v := (fun u => some (.int u))) (q_cod qk214 rfl) rfl rfl (q_cokV rfl rfl (Or.inr g3)) rfl (fun x e => f207_cl e) hf (fun v4 h hf => ?_)
      refine ev_is2 (L' := [(0, .ref l0), (1, .int l1), (3, .int l3), (4, .int l4), (5, .int v4), (6, .int v2)]) (q_cod qk214 rfl) (by decide) rfl ?_
      refine ev_goto (q_cod qk214 rfl) (by decide) ?_
      obtain rfl := m_R_inv hf
      exact (show q_Ev none 214 6 [(0, .ref l0), (1, .int l1), (3, .int l3), (4, .int l4), (5, .int v4), (6, .int v2)] [] _ o hz from hK)
    · obtain ⟨y0, hf0, hx⟩ := m_inr_some hf
      subst hx
      exact ev_weak (q_pk [5] rfl) (f214_42_ok hf0 hK)
def f214_6 (l0 : Nat) (l1 : Int32) (l3 : Int32) (l4 : Int32) (l5 : Int32) (l6 : Int32) : m_M Int32 := m_W (fun s => f214_6b (s.1) (s.2.1) (s.2.2.1) (s.2.2.2.1) (s.2.2.2.2.1) (s.2.2.2.2.2)) 1000000 (l0, l1, l3, l4, l5, l6)
theorem f214_6_ok {l0 : Nat} {l1 : Int32} {l3 : Int32} {l4 : Int32} {l5 : Int32} {l6 : Int32} {h : q_H} {o : q_O} {hz : q_H} {x : Int32 × q_H} (hf : f214_6 l0 l1 l3 l4 l5 l6 h = some x) (hK : (q_KI o hz) x) : q_Ev none 214 6 [(0, .ref l0), (1, .int l1), (3, .int l3), (4, .int l4), (5, .int l5), (6, .int l6)] [] h o hz :=
  m_W_ok (P := (fun (s : Nat × Int32 × Int32 × Int32 × Int32 × Int32) (h : q_H) => q_Ev none 214 6 [(0, .ref (s.1)), (1, .int (s.2.1)), (3, .int (s.2.2.1)), (4, .int (s.2.2.2.1)), (5, .int (s.2.2.2.2.1)), (6, .int (s.2.2.2.2.2))] [] h o hz)) (K := (q_KI o hz)) (fun s h x h1 h2 => f214_6b_ok h1 h2) _ (l0, l1, l3, l4, l5, l6) _ _ hf hK
def f214 (l0 : Nat) (l1 : Int32) (l2 : Int32) (l3 : Int32) (l4 : Int32) : m_M Int32 :=
  f214_6 l0 l1 l3 l4 l2 (-1)
theorem f214_ok {l0 : Nat} {l1 : Int32} {l2 : Int32} {l3 : Int32} {l4 : Int32} {h : q_H} {o : q_O} {hz : q_H} {x : Int32 × q_H} (hf : f214 l0 l1 l2 l3 l4 h = some x) (hK : (q_KI o hz) x) : q_Ev none 214 0 [(0, .ref l0), (1, .int l1), (2, .int l2), (3, .int l3), (4, .int l4)] [] h o hz := by
  unfold f214 at hf
  refine ev_iload_n (q_cod qk214 rfl) (by decide) rfl ?_
  refine ev_is2 (L' := [(0, .ref l0), (1, .int l1), (2, .int l2), (3, .int l3), (4, .int l4), (5, .int l2)]) (q_cod qk214 rfl) (by decide) rfl ?_
  refine ev_ic (v := (-1)) (q_cod qk214 rfl) (by decide) (by decide) ?_
  refine ev_is2 (L' := [(0, .ref l0), (1, .int l1), (2, .int l2), (3, .int l3), (4, .int l4), (5, .int l2), (6, .int (-1))]) (q_cod qk214 rfl) (by decide) rfl ?_
  exact ev_weak (q_pk [0, 1, 3, 4, 5, 6] rfl) (f214_6_ok hf hK)
theorem f214_cl {l0 : Nat} {l1 : Int32} {l2 : Int32} {l3 : Int32} {l4 : Int32} {h : q_H} {x : Int32 × q_H} (hf : f214 l0 l1 l2 l3 l4 h = some x) : q_Cl 214 [.ref l0, .int l1, .int l2, .int l3, .int l4] h (.inl (some (.int x.1))) x.2 := q_Cl.of rfl (q_LvS rfl rfl) (f214_ok hf ⟨rfl, rfl⟩)
