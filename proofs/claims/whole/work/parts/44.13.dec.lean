/-! SmithyBenchModel.hasAkinMethod(IIII)Z -/
theorem qk215 : q_cs.getD 215 [] = qc_215 := rfl
def f215_56 (l0 : Nat) (l1 : Int32) (l2 : Int32) (l3 : Int32) (l4 : Int32) (l6 : Int32) (s0 : Int32) : m_M ((Nat × Int32 × Int32 × Int32 × Int32 × Int32 × Int32) ⊕ Int32) :=
  m_R (.inl (l0, l1, l2, l3, l4, s0, (l6 + 1)))
theorem f215_56_ok {l0 : Nat} {l1 : Int32} {l2 : Int32} {l3 : Int32} {l4 : Int32} {l6 : Int32} {s0 : Int32} {h : q_H} {o : q_O} {hz : q_H} {x : ((Nat × Int32 × Int32 × Int32 × Int32 × Int32 × Int32) ⊕ Int32) × q_H} (hf : f215_56 l0 l1 l2 l3 l4 l6 s0 h = some x) (hK : (m_yK (fun (s : Nat × Int32 × Int32 × Int32 × Int32 × Int32 × Int32) (h : q_H) => q_Ev none 215 6 [(0, .ref (s.1)), (1, .int (s.2.1)), (2, .int (s.2.2.1)), (3, .int (s.2.2.2.1)), (4, .int (s.2.2.2.2.1)), (5, .int (s.2.2.2.2.2.1)), (6, .int (s.2.2.2.2.2.2))] [] h o hz) (q_KI o hz)) x) : q_Ev none 215 56 [(0, .ref l0), (1, .int l1), (2, .int l2), (3, .int l3), (4, .int l4), (6, .int l6)] [.int s0] h o hz := by
  unfold f215_56 at hf
  refine ev_is2 (L' := [(0, .ref l0), (1, .int l1), (2, .int l2), (3, .int l3), (4, .int l4), (5, .int s0), (6, .int l6)]) (q_cod qk215 rfl) (by decide) rfl ?_
  refine ev_inc (v := l6 + 1) (L' := [(0, .ref l0), (1, .int l1), (2, .int l2), (3, .int l3), (4, .int l4), (5, .int s0), (6, .int (l6 + 1))]) (q_cod qk215 rfl) (by decide) rfl rfl rfl ?_
  refine ev_goto (q_cod qk215 rfl) (by decide) ?_
  obtain rfl := m_R_inv hf
  exact (show q_Ev none 215 6 [(0, .ref l0), (1, .int l1), (2, .int l2), (3, .int l3), (4, .int l4), (5, .int s0), (6, .int (l6 + 1))] [] _ o hz from hK)
def f215_55 (l0 : Nat) (l1 : Int32) (l2 : Int32) (l3 : Int32) (l4 : Int32) (l6 : Int32) : m_M ((Nat × Int32 × Int32 × Int32 × Int32 × Int32 × Int32) ⊕ Int32) :=
  f215_56 l0 l1 l2 l3 l4 l6 0
theorem f215_55_ok {l0 : Nat} {l1 : Int32} {l2 : Int32} {l3 : Int32} {l4 : Int32} {l6 : Int32} {h : q_H} {o : q_O} {hz : q_H} {x : ((Nat × Int32 × Int32 × Int32 × Int32 × Int32 × Int32) ⊕ Int32) × q_H} (hf : f215_55 l0 l1 l2 l3 l4 l6 h = some x) (hK : (m_yK (fun (s : Nat × Int32 × Int32 × Int32 × Int32 × Int32 × Int32) (h : q_H) => q_Ev none 215 6 [(0, .ref (s.1)), (1, .int (s.2.1)), (2, .int (s.2.2.1)), (3, .int (s.2.2.2.1)), (4, .int (s.2.2.2.2.1)), (5, .int (s.2.2.2.2.2.1)), (6, .int (s.2.2.2.2.2.2))] [] h o hz) (q_KI o hz)) x) : q_Ev none 215 55 [(0, .ref l0), (1, .int l1), (2, .int l2), (3, .int l3), (4, .int l4), (6, .int l6)] [] h o hz := by
  unfold f215_55 at hf
  refine ev_ic (v := 0) (q_cod qk215 rfl) (by decide) (by decide) ?_
  exact (f215_56_ok hf hK)
def f215_51 (l0 : Nat) (l1 : Int32) (l2 : Int32) (l3 : Int32) (l4 : Int32) (l6 : Int32) : m_M ((Nat × Int32 × Int32 × Int32 × Int32 × Int32 × Int32) ⊕ Int32) :=
  f215_56 l0 l1 l2 l3 l4 l6 1
theorem f215_51_ok {l0 : Nat} {l1 : Int32} {l2 : Int32} {l3 : Int32} {l4 : Int32} {l6 : Int32} {h : q_H} {o : q_O} {hz : q_H} {x : ((Nat × Int32 × Int32 × Int32 × Int32 × Int32 × Int32) ⊕ Int32) × q_H} (hf : f215_51 l0 l1 l2 l3 l4 l6 h = some x) (hK : (m_yK (fun (s : Nat × Int32 × Int32 × Int32 × Int32 × Int32 × Int32) (h : q_H) => q_Ev none 215 6 [(0, .ref (s.1)), (1, .int (s.2.1)), (2, .int (s.2.2.1)), (3, .int (s.2.2.2.1)), (4, .int (s.2.2.2.2.1)), (5, .int (s.2.2.2.2.2.1)), (6, .int (s.2.2.2.2.2.2))] [] h o hz) (q_KI o hz)) x) : q_Ev none 215 51 [(0, .ref l0), (1, .int l1), (2, .int l2), (3, .int l3), (4, .int l4), (6, .int l6)] [] h o hz := by
  unfold f215_51 at hf
  refine ev_ic (v := 1) (q_cod qk215 rfl) (by decide) (by decide) ?_
  refine ev_goto (q_cod qk215 rfl) (by decide) ?_
  exact (f215_56_ok hf hK)
def f215_64 (l5 : Int32) : m_M Int32 :=
  m_B (m_G (l5 = 0 ∨ l5 = 1)) (fun _ => m_R l5)
theorem f215_64_ok {l5 : Int32} {h : q_H} {o : q_O} {hz : q_H} {x : Int32 × q_H} (hf : f215_64 l5 h = some x) (hK : (q_KI o hz) x) : q_Ev none 215 64 [(5, .int l5)] [] h o hz := by
  unfold f215_64 at hf
  refine ev_iload (q_cod qk215 rfl) (by decide) rfl ?_
  obtain ⟨g1, hf⟩ := m_G_some hf
  obtain rfl := m_R_inv hf
  obtain ⟨rfl, rfl⟩ := (show q_KI o hz (l5, _) from hK)
  exact ev_ret (q_cod qk215 rfl) (q_retZ g1)
def f215_6b (l0 : Nat) (l1 : Int32) (l2 : Int32) (l3 : Int32) (l4 : Int32) (l5 : Int32) (l6 : Int32) : m_M ((Nat × Int32 × Int32 × Int32 × Int32 × Int32 × Int32) ⊕ Int32) :=
  m_B (m_gR 12 l0 1) (fun r1 => m_B (m_lI r1 (14200 * l1)) (fun v2 => if l6 < v2 then (if l5 = 0 then (m_B (m_aK l0 12) (fun _ => m_B (f209 l0 l1 l2 l6) (fun v4 => if v4 = 0 then (f215_55 l0 l1 l2 l3 l4 l6) else (m_B (m_aK l0 12) (fun _ => m_B (f213 l0 l1 l6 l3 l4) (fun v6 => if v6 = (-1) then (f215_55 l0 l1 l2 l3 l4 l6) else (f215_51 l0 l1 l2 l3 l4 l6))))))) else (f215_51 l0 l1 l2 l3 l4 l6)) else (m_B (f215_64 l5) (fun r => m_R (.inr r)))))
theorem f215_6b_ok {l0 : Nat} {l1 : Int32} {l2 : Int32} {l3 : Int32} {l4 : Int32} {l5 : Int32} {l6 : Int32} {h : q_H} {o : q_O} {hz : q_H} {x : ((Nat × Int32 × Int32 × Int32 × Int32 × Int32 × Int32) ⊕ Int32) × q_H} (hf : f215_6b l0 l1 l2 l3 l4 l5 l6 h = some x) (hK : (m_yK (fun (s : Nat × Int32 × Int32 × Int32 × Int32 × Int32 × Int32) (h : q_H) => q_Ev none 215 6 [(0, .ref (s.1)), (1, .int (s.2.1)), (2, .int (s.2.2.1)), (3, .int (s.2.2.2.1)), (4, .int (s.2.2.2.2.1)), (5, .int (s.2.2.2.2.2.1)), (6, .int (s.2.2.2.2.2.2))] [] h o hz) (q_KI o hz)) x) : q_Ev none 215 6 [(0, .ref l0), (1, .int l1), (2, .int l2), (3, .int l3), (4, .int l4), (5, .int l5), (6, .int l6)] [] h o hz := by
  unfold f215_6b at hf
  refine ev_iload (q_cod qk215 rfl) (by decide) rfl ?_
  refine ev_aload_n (q_cod qk215 rfl) (by decide) rfl ?_
  refine em_gR (q_cod qk215 rfl) (by decide) (by decide) hf (fun r1 hf => ?_)
  refine ev_si (v := 14200) (q_cod qk215 rfl) (by decide) (by decide) ?_
  refine ev_iload_n (q_cod qk215 rfl) (by decide) rfl ?_
  refine ev_imul (q_cod qk215 rfl) (by decide) ?_
  refine em_lI (q_cod qk215 rfl) (by decide) hf (fun v2 hf => ?_)
  refine em_ic_ge (q_cod qk215 rfl) (by decide) hf (fun c10 hf => ?_) (fun c10 hf => ?_)
  · refine ev_iload (q_cod qk215 rfl) (by decide) rfl ?_
    refine em_if_ne (q_cod qk215 rfl) (by decide) hf (fun c9 hf => ?_) (fun c9 hf => ?_)
    · refine ev_aload_n (q_cod qk215 rfl) (by decide) rfl ?_
      refine ev_iload_n (q_cod qk215 rfl) (by decide) rfl ?_
      refine ev_iload_n (q_cod qk215 rfl) (by decide) rfl ?_
      refine ev_iload (q_cod qk215 rfl) (by decide) rfl ?_
      obtain ⟨g3, hf⟩ := m_aK_some hf
      refine em_call (v := (fun u => some (.int u))) (q_cod qk215 rfl) rfl rfl (q_cokV rfl rfl (Or.inr g3)) rfl (fun x e => f209_cl e) hf (fun v4 h hf => ?_)
      refine em_if_eq (q_cod qk215 rfl) (by decide) hf (fun c8 hf => ?_) (fun c8 hf => ?_)
      · exact ev_weak (q_pk [0, 1, 2, 3, 4, 6] rfl) (f215_55_ok hf hK)
      · refine ev_aload_n (q_cod qk215 rfl) (by decide) rfl ?_
        refine ev_iload_n (q_cod qk215 rfl) (by decide) rfl ?_
        refine ev_iload (q_cod qk215 rfl) (by decide) rfl ?_
        refine ev_iload_n (q_cod qk215 rfl) (by decide) rfl ?_
        refine ev_iload (q_cod qk215 rfl) (by decide) rfl ?_
        obtain ⟨g5, hf⟩ := m_aK_some hf
        refine em_call (v := (fun u => some (.int u))) (q_cod qk215 rfl) rfl rfl (q_cokV rfl rfl (Or.inr g5)) rfl (fun x e => f213_cl e) hf (fun v6 h hf => ?_)
        refine ev_ic (v := (-1)) (q_cod qk215 rfl) (by decide) (by decide) ?_
        refine em_ic_eq (q_cod qk215 rfl) (by decide) hf (fun c7 hf => ?_) (fun c7 hf => ?_)
        · exact ev_weak (q_pk [0, 1, 2, 3, 4, 6] rfl) (f215_55_ok hf hK)
        · exact ev_weak (q_pk [0, 1, 2, 3, 4, 6] rfl) (f215_51_ok hf hK)
    · exact ev_weak (q_pk [0, 1, 2, 3, 4, 6] rfl) (f215_51_ok hf hK)
  · obtain ⟨y0, hf0, hx⟩ := m_inr_some hf
    subst hx
    exact ev_weak (q_pk [5] rfl) (f215_64_ok hf0 hK)
def f215_6 (l0 : Nat) (l1 : Int32) (l2 : Int32) (l3 : Int32) (l4 : Int32) (l5 : Int32) (l6 : Int32) : m_M Int32 := m_W (fun s => f215_6b (s.1) (s.2.1) (s.2.2.1) (s.2.2.2.1) (s.2.2.2.2.1) (s.2.2.2.2.2.1) (s.2.2.2.2.2.2)) 1000000 (l0, l1, l2, l3, l4, l5, l6)
theorem f215_6_ok {l0 : Nat} {l1 : Int32} {l2 : Int32} {l3 : Int32} {l4 : Int32} {l5 : Int32} {l6 : Int32} {h : q_H} {o : q_O} {hz : q_H} {x : Int32 × q_H} (hf : f215_6 l0 l1 l2 l3 l4 l5 l6 h = some x) (hK : (q_KI o hz) x) : q_Ev none 215 6 [(0, .ref l0), (1, .int l1), (2, .int l2), (3, .int l3), (4, .int l4), (5, .int l5), (6, .int l6)] [] h o hz :=
  m_W_ok (P := (fun (s : Nat × Int32 × Int32 × Int32 × Int32 × Int32 × Int32) (h : q_H) => q_Ev none 215 6 [(0, .ref (s.1)), (1, .int (s.2.1)), (2, .int (s.2.2.1)), (3, .int (s.2.2.2.1)), (4, .int (s.2.2.2.2.1)), (5, .int (s.2.2.2.2.2.1)), (6, .int (s.2.2.2.2.2.2))] [] h o hz)) (K := (q_KI o hz)) (fun s h x h1 h2 => f215_6b_ok h1 h2) _ (l0, l1, l2, l3, l4, l5, l6) _ _ hf hK
def f215 (l0 : Nat) (l1 : Int32) (l2 : Int32) (l3 : Int32) (l4 : Int32) : m_M Int32 :=
  f215_6 l0 l1 l2 l3 l4 0 0
theorem f215_ok {l0 : Nat} {l1 : Int32} {l2 : Int32} {l3 : Int32} {l4 : Int32} {h : q_H} {o : q_O} {hz : q_H} {x : Int32 × q_H} (hf : f215 l0 l1 l2 l3 l4 h = some x) (hK : (q_KI o hz) x) : q_Ev none 215 0 [(0, .ref l0), (1, .int l1), (2, .int l2), (3, .int l3), (4, .int l4)] [] h o hz := by
  unfold f215 at hf
  refine ev_ic (v := 0) (q_cod qk215 rfl) (by decide) (by decide) ?_
  refine ev_is2 (L' := [(0, .ref l0), (1, .int l1), (2, .int l2), (3, .int l3), (4, .int l4), (5, .int 0)]) (q_cod qk215 rfl) (by decide) rfl ?_
  refine ev_ic (v := 0) (q_cod qk215 rfl) (by decide) (by decide) ?_
  refine ev_is2 (L' := [(0, .ref l0), (1, .int l1), (2, .int l2), (3, .int l3), (4, .int l4), (5, .int 0), (6, .int 0)]) (q_cod qk215 rfl) (by decide) rfl ?_
  exact (f215_6_ok hf hK)
theorem f215_cl {l0 : Nat} {l1 : Int32} {l2 : Int32} {l3 : Int32} {l4 : Int32} {h : q_H} {x : Int32 × q_H} (hf : f215 l0 l1 l2 l3 l4 h = some x) : q_Cl 215 [.ref l0, .int l1, .int l2, .int l3, .int l4] h (.inl (some (.int x.1))) x.2 := q_Cl.of rfl (q_LvS rfl rfl) (f215_ok hf ⟨rfl, rfl⟩)
/-! SmithyBenchModel.classOf(I)I -/
theorem qk216 : q_cs.getD 216 [] = qc_216 := rfl
def f216_35 (l0 : Nat) (l1 : Int32) (s0 : Nat) (s1 : Int32) : m_M Int32 :=
  m_B (m_aK s0 12) (fun _ => m_B (f178 s0 s1) (fun v2 => if v2 = 0 then (m_B (m_gR 12 l0 1) (fun r3 => m_B (m_gR 12 l0 1) (fun r4 => m_B (m_lI r4 0) (fun v5 => m_B (m_wI r3 (2 + v5) l1) (fun _ => m_B (m_gR 12 l0 1) (fun r6 => m_B (m_lI r6 0) (fun v7 => m_B (m_wI r6 0 (v7 + 1)) (fun _ => m_B (m_pI 12 l0 2 0) (fun _ => m_B (m_gR 12 l0 1) (fun r8 => m_B (m_lI r8 0) (fun v9 => m_R (v9 - 1)))))))))))) else (m_R 0)))
theorem f216_35_ok {l0 : Nat} {l1 : Int32} {s0 : Nat} {s1 : Int32} {h : q_H} {o : q_O} {hz : q_H} {x : Int32 × q_H} (hf : f216_35 l0 l1 s0 s1 h = some x) (hK : (q_KI o hz) x) : q_Ev none 216 35 [(0, .ref l0), (1, .int l1)] [.int s1, .ref s0] h o hz := by
  unfold f216_35 at hf
  obtain ⟨g1, hf⟩ := m_aK_some hf
  refine em_call (v := (fun u => some (.int u))) (q_cod qk216 rfl) rfl rfl (q_cokV rfl rfl (Or.inr g1)) rfl (fun x e => f178_cl e) hf (fun v2 h hf => ?_)
  refine em_if_eq (q_cod qk216 rfl) (by decide) hf (fun c10 hf => ?_) (fun c10 hf => ?_)
  · refine ev_aload_n (q_cod qk216 rfl) (by decide) rfl ?_
    refine em_gR (q_cod qk216 rfl) (by decide) (by decide) hf (fun r3 hf => ?_)
    refine ev_ic (v := 2) (q_cod qk216 rfl) (by decide) (by decide) ?_
    refine ev_aload_n (q_cod qk216 rfl) (by decide) rfl ?_
    refine em_gR (q_cod qk216 rfl) (by decide) (by decide) hf (fun r4 hf => ?_)
    refine ev_ic (v := 0) (q_cod qk216 rfl) (by decide) (by decide) ?_
    refine em_lI (q_cod qk216 rfl) (by decide) hf (fun v5 hf => ?_)
    refine ev_iadd (q_cod qk216 rfl) (by decide) ?_
    refine ev_iload_n (q_cod qk216 rfl) (by decide) rfl ?_
    refine em_wI (q_cod qk216 rfl) (by decide) hf (fun hf => ?_)
    refine ev_aload_n (q_cod qk216 rfl) (by decide) rfl ?_
    refine em_gR (q_cod qk216 rfl) (by decide) (by decide) hf (fun r6 hf => ?_)
    refine ev_ic (v := 0) (q_cod qk216 rfl) (by decide) (by decide) ?_
    refine ev_dup2 (q_cod qk216 rfl) (by decide) rfl rfl ?_
    refine em_lI (q_cod qk216 rfl) (by decide) hf (fun v7 hf => ?_)
    refine ev_ic (v := 1) (q_cod qk216 rfl) (by decide) (by decide) ?_
    refine ev_iadd (q_cod qk216 rfl) (by decide) ?_
    refine em_wI (q_cod qk216 rfl) (by decide) hf (fun hf => ?_)
    refine ev_aload_n (q_cod qk216 rfl) (by decide) rfl ?_
    refine ev_ic (v := 0) (q_cod qk216 rfl) (by decide) (by decide) ?_
    refine em_pI (q_cod qk216 rfl) (by decide) (by decide) (by decide) hf (fun hf => ?_)
    refine ev_aload_n (q_cod qk216 rfl) (by decide) rfl ?_
    refine em_gR (q_cod qk216 rfl) (by decide) (by decide) hf (fun r8 hf => ?_)
    refine ev_ic (v := 0) (q_cod qk216 rfl) (by decide) (by decide) ?_
    refine em_lI (q_cod qk216 rfl) (by decide) hf (fun v9 hf => ?_)
    refine ev_ic (v := 1) (q_cod qk216 rfl) (by decide) (by decide) ?_
    refine ev_isub (q_cod qk216 rfl) (by decide) ?_
    obtain rfl := m_R_inv hf
    obtain ⟨rfl, rfl⟩ := (show q_KI o hz ((v9 - 1), _) from hK)
    exact ev_ret (q_cod qk216 rfl) rfl
  · refine ev_ic (v := 0) (q_cod qk216 rfl) (by decide) (by decide) ?_
    obtain rfl := m_R_inv hf
    obtain ⟨rfl, rfl⟩ := (show q_KI o hz (0, _) from hK)
    exact ev_ret (q_cod qk216 rfl) rfl
def f216_19 (l0 : Nat) (l1 : Int32) (s0 : Nat) : m_M Int32 :=
  m_B (m_gR 12 l0 1) (fun r1 => m_B (m_lI r1 0) (fun v2 => if v2 = 6 then (f216_35 l0 l1 s0 2) else (f216_35 l0 l1 s0 0)))
theorem f216_19_ok {l0 : Nat} {l1 : Int32} {s0 : Nat} {h : q_H} {o : q_O} {hz : q_H} {x : Int32 × q_H} (hf : f216_19 l0 l1 s0 h = some x) (hK : (q_KI o hz) x) : q_Ev none 216 19 [(0, .ref l0), (1, .int l1)] [.ref s0] h o hz := by
  unfold f216_19 at hf
  refine ev_aload_n (q_cod qk216 rfl) (by decide) rfl ?_
  refine em_gR (q_cod qk216 rfl) (by decide) (by decide) hf (fun r1 hf => ?_)
  refine ev_ic (v := 0) (q_cod qk216 rfl) (by decide) (by decide) ?_
  refine em_lI (q_cod qk216 rfl) (by decide) hf (fun v2 hf => ?_)
  refine ev_bi (v := 6) (q_cod qk216 rfl) (by decide) (by decide) ?_
  refine em_ic_ne (q_cod qk216 rfl) (by decide) hf (fun c3 hf => ?_) (fun c3 hf => ?_)
  · refine ev_ic (v := 2) (q_cod qk216 rfl) (by decide) (by decide) ?_
    refine ev_goto (q_cod qk216 rfl) (by decide) ?_
    exact (f216_35_ok hf hK)
  · refine ev_ic (v := 0) (q_cod qk216 rfl) (by decide) (by decide) ?_
    exact (f216_35_ok hf hK)
def f216 (l0 : Nat) (l1 : Int32) : m_M Int32 :=
  if l1 = (-1) then (f216_19 l0 l1 l0) else (m_B (m_aK l0 12) (fun _ => m_B (f204 l0 0 l1) (fun v2 => if v2 = 0 then (f216_35 l0 l1 l0 1) else (f216_19 l0 l1 l0))))
theorem f216_ok {l0 : Nat} {l1 : Int32} {h : q_H} {o : q_O} {hz : q_H} {x : Int32 × q_H} (hf : f216 l0 l1 h = some x) (hK : (q_KI o hz) x) : q_Ev none 216 0 [(0, .ref l0), (1, .int l1)] [] h o hz := by
  unfold f216 at hf
  refine ev_aload_n (q_cod qk216 rfl) (by decide) rfl ?_
  refine ev_iload_n (q_cod qk216 rfl) (by decide) rfl ?_
  refine ev_ic (v := (-1)) (q_cod qk216 rfl) (by decide) (by decide) ?_
  refine em_ic_eq (q_cod qk216 rfl) (by decide) hf (fun c4 hf => ?_) (fun c4 hf => ?_)
  · exact (f216_19_ok hf hK)
  · refine ev_aload_n (q_cod qk216 rfl) (by decide) rfl ?_
    refine ev_ic (v := 0) (q_cod qk216 rfl) (by decide) (by decide) ?_
    refine ev_iload_n (q_cod qk216 rfl) (by decide) rfl ?_
    obtain ⟨g1, hf⟩ := m_aK_some hf
    refine em_call (v := (fun u => some (.int u))) (q_cod qk216 rfl) rfl rfl (q_cokV rfl rfl (Or.inr g1)) rfl (fun x e => f204_cl e) hf (fun v2 h hf => ?_)
    refine em_if_ne (q_cod qk216 rfl) (by decide) hf (fun c3 hf => ?_) (fun c3 hf => ?_)
    · refine ev_ic (v := 1) (q_cod qk216 rfl) (by decide) (by decide) ?_
      refine ev_goto (q_cod qk216 rfl) (by decide) ?_
      exact (f216_35_ok hf hK)
    · exact (f216_19_ok hf hK)
theorem f216_cl {l0 : Nat} {l1 : Int32} {h : q_H} {x : Int32 × q_H} (hf : f216 l0 l1 h = some x) : q_Cl 216 [.ref l0, .int l1] h (.inl (some (.int x.1))) x.2 := q_Cl.of rfl (q_LvS rfl rfl) (f216_ok hf ⟨rfl, rfl⟩)
/-! SmithyBenchModel.fieldOf(III)I -/
theorem qk217 : q_cs.getD 217 [] = qc_217 := rfl
def f217_122 (l0 : Nat) (l1 : Int32) (l6 : Int32) (s0 : Int32) (s1 : Int32) : m_M ((Nat × Int32 × Int32 × Int32) ⊕ Int32) :=
  m_R (.inl (l0, l1, (s0 + s1), (l6 + 1)))
theorem f217_122_ok {l0 : Nat} {l1 : Int32} {l6 : Int32} {s0 : Int32} {s1 : Int32} {h : q_H} {o : q_O} {hz : q_H} {x : ((Nat × Int32 × Int32 × Int32) ⊕ Int32) × q_H} (hf : f217_122 l0 l1 l6 s0 s1 h = some x) (hK : (m_yK (fun (s : Nat × Int32 × Int32 × Int32) (h : q_H) => q_Ev none 217 97 [(0, .ref (s.1)), (1, .int (s.2.1)), (5, .int (s.2.2.1)), (6, .int (s.2.2.2))] [] h o hz) (q_KI o hz)) x) : q_Ev none 217 122 [(0, .ref l0), (1, .int l1), (6, .int l6)] [.int s1, .int s0] h o hz := by
  unfold f217_122 at hf
  refine ev_iadd (q_cod qk217 rfl) (by decide) ?_
  refine ev_is2 (L' := [(0, .ref l0), (1, .int l1), (5, .int (s0 + s1)), (6, .int l6)]) (q_cod qk217 rfl) (by decide) rfl ?_
  refine ev_inc (v := l6 + 1) (L' := [(0, .ref l0), (1, .int l1), (5, .int (s0 + s1)), (6, .int (l6 + 1))]) (q_cod qk217 rfl) (by decide) rfl rfl rfl ?_
  refine ev_goto (q_cod qk217 rfl) (by decide) ?_
  obtain rfl := m_R_inv hf
  exact (show q_Ev none 217 97 [(0, .ref l0), (1, .int l1), (5, .int (s0 + s1)), (6, .int (l6 + 1))] [] _ o hz from hK)
def f217_131 (l5 : Int32) : m_M Int32 :=
  m_R l5
theorem f217_131_ok {l5 : Int32} {h : q_H} {o : q_O} {hz : q_H} {x : Int32 × q_H} (hf : f217_131 l5 h = some x) (hK : (q_KI o hz) x) : q_Ev none 217 131 [(5, .int l5)] [] h o hz := by
  unfold f217_131 at hf
  refine ev_iload (q_cod qk217 rfl) (by decide) rfl ?_
  obtain rfl := m_R_inv hf
  obtain ⟨rfl, rfl⟩ := (show q_KI o hz (l5, _) from hK)
  exact ev_ret (q_cod qk217 rfl) rfl
def f217_97b (l0 : Nat) (l1 : Int32) (l5 : Int32) (l6 : Int32) : m_M ((Nat × Int32 × Int32 × Int32) ⊕ Int32) :=
  if l6 < 16 then (m_B (m_aK l0 12) (fun _ => m_B (f210 l0 0 l1 l6) (fun v2 => if v2 = 0 then (f217_122 l0 l1 l6 l5 0) else (f217_122 l0 l1 l6 l5 1)))) else (m_B (f217_131 l5) (fun r => m_R (.inr r)))
theorem f217_97b_ok {l0 : Nat} {l1 : Int32} {l5 : Int32} {l6 : Int32} {h : q_H} {o : q_O} {hz : q_H} {x : ((Nat × Int32 × Int32 × Int32) ⊕ Int32) × q_H} (hf : f217_97b l0 l1 l5 l6 h = some x) (hK : (m_yK (fun (s : Nat × Int32 × Int32 × Int32) (h : q_H) => q_Ev none 217 97 [(0, .ref (s.1)), (1, .int (s.2.1)), (5, .int (s.2.2.1)), (6, .int (s.2.2.2))] [] h o hz) (q_KI o hz)) x) : q_Ev none 217 97 [(0, .ref l0), (1, .int l1), (5, .int l5), (6, .int l6)] [] h o hz := by
  unfold f217_97b at hf
  refine ev_iload (q_cod qk217 rfl) (by decide) rfl ?_
  refine ev_bi (v := 16) (q_cod qk217 rfl) (by decide) (by decide) ?_
  refine em_ic_ge (q_cod qk217 rfl) (by decide) hf (fun c4 hf => ?_) (fun c4 hf => ?_)
  · refine ev_iload (q_cod qk217 rfl) (by decide) rfl ?_
    refine ev_aload_n (q_cod qk217 rfl) (by decide) rfl ?_
    refine ev_ic (v := 0) (q_cod qk217 rfl) (by decide) (by decide) ?_
    refine ev_iload_n (q_cod qk217 rfl) (by decide) rfl ?_
    refine ev_iload (q_cod qk217 rfl) (by decide) rfl ?_
    obtain ⟨g1, hf⟩ := m_aK_some hf
    refine em_call (v := (fun u => some (.int u))) (q_cod qk217 rfl) rfl rfl (q_cokV rfl rfl (Or.inr g1)) rfl (fun x e => f210_cl e) hf (fun v2 h hf => ?_)
    refine em_if_ne (q_cod qk217 rfl) (by decide) hf (fun c3 hf => ?_) (fun c3 hf => ?_)
    · refine ev_ic (v := 0) (q_cod qk217 rfl) (by decide) (by decide) ?_
      refine ev_goto (q_cod qk217 rfl) (by decide) ?_
      exact ev_weak (q_pk [0, 1, 3] rfl) (f217_122_ok hf hK)
    · refine ev_ic (v := 1) (q_cod qk217 rfl) (by decide) (by decide) ?_
      exact ev_weak (q_pk [0, 1, 3] rfl) (f217_122_ok hf hK)
  · obtain ⟨y0, hf0, hx⟩ := m_inr_some hf
    subst hx
    exact ev_weak (q_pk [2] rfl) (f217_131_ok hf0 hK)
def f217_97 (l0 : Nat) (l1 : Int32) (l5 : Int32) (l6 : Int32) : m_M Int32 := m_W (fun s => f217_97b (s.1) (s.2.1) (s.2.2.1) (s.2.2.2)) 1000000 (l0, l1, l5, l6)
theorem f217_97_ok {l0 : Nat} {l1 : Int32} {l5 : Int32} {l6 : Int32} {h : q_H} {o : q_O} {hz : q_H} {x : Int32 × q_H} (hf : f217_97 l0 l1 l5 l6 h = some x) (hK : (q_KI o hz) x) : q_Ev none 217 97 [(0, .ref l0), (1, .int l1), (5, .int l5), (6, .int l6)] [] h o hz :=
  m_W_ok (P := (fun (s : Nat × Int32 × Int32 × Int32) (h : q_H) => q_Ev none 217 97 [(0, .ref (s.1)), (1, .int (s.2.1)), (5, .int (s.2.2.1)), (6, .int (s.2.2.2))] [] h o hz)) (K := (q_KI o hz)) (fun s h x h1 h2 => f217_97b_ok h1 h2) _ (l0, l1, l5, l6) _ _ hf hK
def f217_61 (l0 : Nat) (l1 : Int32) (l2 : Int32) (l3 : Int32) (s0 : Nat) (s1 : Int32) : m_M Int32 :=
  m_B (m_aK s0 12) (fun _ => m_B (f178 s0 s1) (fun v2 => if v2 = 0 then (m_B (m_gR 12 l0 1) (fun r3 => m_B (m_wI r3 ((8 + (16 * l1)) + l2) (l3 + 2)) (fun _ => m_B (m_pI 12 l0 2 0) (fun _ => f217_97 l0 l1 0 0)))) else (m_R 0)))
theorem f217_61_ok {l0 : Nat} {l1 : Int32} {l2 : Int32} {l3 : Int32} {s0 : Nat} {s1 : Int32} {h : q_H} {o : q_O} {hz : q_H} {x : Int32 × q_H} (hf : f217_61 l0 l1 l2 l3 s0 s1 h = some x) (hK : (q_KI o hz) x) : q_Ev none 217 61 [(0, .ref l0), (1, .int l1), (2, .int l2), (3, .int l3)] [.int s1, .ref s0] h o hz := by
  unfold f217_61 at hf
  obtain ⟨g1, hf⟩ := m_aK_some hf
  refine em_call (v := (fun u => some (.int u))) (q_cod qk217 rfl) rfl rfl (q_cokV rfl rfl (Or.inr g1)) rfl (fun x e => f178_cl e) hf (fun v2 h hf => ?_)
  refine em_if_eq (q_cod qk217 rfl) (by decide) hf (fun c4 hf => ?_) (fun c4 hf => ?_)
  · refine ev_aload_n (q_cod qk217 rfl) (by decide) rfl ?_
    refine em_gR (q_cod qk217 rfl) (by decide) (by decide) hf (fun r3 hf => ?_)
    refine ev_bi (v := 8) (q_cod qk217 rfl) (by decide) (by decide) ?_
    refine ev_bi (v := 16) (q_cod qk217 rfl) (by decide) (by decide) ?_
    refine ev_iload_n (q_cod qk217 rfl) (by decide) rfl ?_
    refine ev_imul (q_cod qk217 rfl) (by decide) ?_
    refine ev_iadd (q_cod qk217 rfl) (by decide) ?_
    refine ev_iload_n (q_cod qk217 rfl) (by decide) rfl ?_
    refine ev_iadd (q_cod qk217 rfl) (by decide) ?_
    refine ev_iload_n (q_cod qk217 rfl) (by decide) rfl ?_
    refine ev_ic (v := 2) (q_cod qk217 rfl) (by decide) (by decide) ?_
    refine ev_iadd (q_cod qk217 rfl) (by decide) ?_
    refine em_wI (q_cod qk217 rfl) (by decide) hf (fun hf => ?_)
    refine ev_aload_n (q_cod qk217 rfl) (by decide) rfl ?_
    refine ev_ic (v := 0) (q_cod qk217 rfl) (by decide) (by decide) ?_
    refine em_pI (q_cod qk217 rfl) (by decide) (by decide) (by decide) hf (fun hf => ?_)
    refine ev_ic (v := 0) (q_cod qk217 rfl) (by decide) (by decide) ?_
    refine ev_is2 (L' := [(0, .ref l0), (1, .int l1), (2, .int l2), (3, .int l3), (5, .int 0)]) (q_cod qk217 rfl) (by decide) rfl ?_
    refine ev_ic (v := 0) (q_cod qk217 rfl) (by decide) (by decide) ?_
    refine ev_is2 (L' := [(0, .ref l0), (1, .int l1), (2, .int l2), (3, .int l3), (5, .int 0), (6, .int 0)]) (q_cod qk217 rfl) (by decide) rfl ?_
    exact ev_weak (q_pk [0, 1, 4, 5] rfl) (f217_97_ok hf hK)
  · refine ev_ic (v := 0) (q_cod qk217 rfl) (by decide) (by decide) ?_
    obtain rfl := m_R_inv hf
    obtain ⟨rfl, rfl⟩ := (show q_KI o hz (0, _) from hK)
    exact ev_ret (q_cod qk217 rfl) rfl
def f217_23 (l0 : Nat) (l1 : Int32) (l2 : Int32) (l3 : Int32) (s0 : Int32) : m_M Int32 :=
  if s0 = 0 then (f217_61 l0 l1 l2 l3 l0 1) else (m_B (f180 l2) (fun v1 => if v1 = 0 then (f217_61 l0 l1 l2 l3 l0 2) else (m_B (m_aK l0 12) (fun _ => m_B (f212 l0 0 l1 l2) (fun v3 => if v3 = 0 then (f217_61 l0 l1 l2 l3 l0 0) else (f217_61 l0 l1 l2 l3 l0 3))))))
theorem f217_23_ok {l0 : Nat} {l1 : Int32} {l2 : Int32} {l3 : Int32} {s0 : Int32} {h : q_H} {o : q_O} {hz : q_H} {x : Int32 × q_H} (hf : f217_23 l0 l1 l2 l3 s0 h = some x) (hK : (q_KI o hz) x) : q_Ev none 217 23 [(0, .ref l0), (1, .int l1), (2, .int l2), (3, .int l3)] [.int s0] h o hz := by
  unfold f217_23 at hf
  refine ev_is2 (L' := [(0, .ref l0), (1, .int l1), (2, .int l2), (3, .int l3), (4, .int s0)]) (q_cod qk217 rfl) (by decide) rfl ?_
  refine ev_aload_n (q_cod qk217 rfl) (by decide) rfl ?_
  refine ev_iload (q_cod qk217 rfl) (by decide) rfl ?_
  refine em_if_ne (q_cod qk217 rfl) (by decide) hf (fun c6 hf => ?_) (fun c6 hf => ?_)
  · refine ev_ic (v := 1) (q_cod qk217 rfl) (by decide) (by decide) ?_
    refine ev_goto (q_cod qk217 rfl) (by decide) ?_
    exact ev_weak (q_pk [0, 1, 2, 3] rfl) (f217_61_ok hf hK)
  · refine ev_iload_n (q_cod qk217 rfl) (by decide) rfl ?_
    refine em_call (v := (fun u => some (.int u))) (q_cod qk217 rfl) rfl rfl (q_cokS rfl rfl) rfl (fun x e => f180_cl e) hf (fun v1 h hf => ?_)
    refine em_if_ne (q_cod qk217 rfl) (by decide) hf (fun c5 hf => ?_) (fun c5 hf => ?_)
    · refine ev_ic (v := 2) (q_cod qk217 rfl) (by decide) (by decide) ?_
      refine ev_goto (q_cod qk217 rfl) (by decide) ?_
      exact ev_weak (q_pk [0, 1, 2, 3] rfl) (f217_61_ok hf hK)
    · refine ev_aload_n (q_cod qk217 rfl) (by decide) rfl ?_
      refine ev_ic (v := 0) (q_cod qk217 rfl) (by decide) (by decide) ?_
      refine ev_iload_n (q_cod qk217 rfl) (by decide) rfl ?_
      refine ev_iload_n (q_cod qk217 rfl) (by decide) rfl ?_
      obtain ⟨g2, hf⟩ := m_aK_some hf
      refine em_call (v := (fun u => some (.int u))) (q_cod qk217 rfl) rfl rfl (q_cokV rfl rfl (Or.inr g2)) rfl (fun x e => f212_cl e) hf (fun v3 h hf => ?_)
      refine em_if_eq (q_cod qk217 rfl) (by decide) hf (fun c4 hf => ?_) (fun c4 hf => ?_)
      · refine ev_ic (v := 0) (q_cod qk217 rfl) (by decide) (by decide) ?_
        exact ev_weak (q_pk [0, 1, 2, 3] rfl) (f217_61_ok hf hK)
      · refine ev_ic (v := 3) (q_cod qk217 rfl) (by decide) (by decide) ?_
        refine ev_goto (q_cod qk217 rfl) (by decide) ?_
        exact ev_weak (q_pk [0, 1, 2, 3] rfl) (f217_61_ok hf hK)
def f217_22 (l0 : Nat) (l1 : Int32) (l2 : Int32) (l3 : Int32) : m_M Int32 :=
  f217_23 l0 l1 l2 l3 0
theorem f217_22_ok {l0 : Nat} {l1 : Int32} {l2 : Int32} {l3 : Int32} {h : q_H} {o : q_O} {hz : q_H} {x : Int32 × q_H} (hf : f217_22 l0 l1 l2 l3 h = some x) (hK : (q_KI o hz) x) : q_Ev none 217 22 [(0, .ref l0), (1, .int l1), (2, .int l2), (3, .int l3)] [] h o hz := by
  unfold f217_22 at hf
  refine ev_ic (v := 0) (q_cod qk217 rfl) (by decide) (by decide) ?_
  exact (f217_23_ok hf hK)
def f217 (l0 : Nat) (l1 : Int32) (l2 : Int32) (l3 : Int32) : m_M Int32 :=
  m_B (m_aK l0 12) (fun _ => m_B (f204 l0 0 l1) (fun v2 => if v2 = 0 then (f217_22 l0 l1 l2 l3) else (m_B (m_aK l0 12) (fun _ => m_B (f205 l0 0 l3) (fun v4 => if v4 = 0 then (f217_22 l0 l1 l2 l3) else (f217_23 l0 l1 l2 l3 1))))))
theorem f217_ok {l0 : Nat} {l1 : Int32} {l2 : Int32} {l3 : Int32} {h : q_H} {o : q_O} {hz : q_H} {x : Int32 × q_H} (hf : f217 l0 l1 l2 l3 h = some x) (hK : (q_KI o hz) x) : q_Ev none 217 0 [(0, .ref l0), (1, .int l1), (2, .int l2), (3, .int l3)] [] h o hz := by
  unfold f217 at hf
  refine ev_aload_n (q_cod qk217 rfl) (by decide) rfl ?_
  refine ev_ic (v := 0) (q_cod qk217 rfl) (by decide) (by decide) ?_
  refine ev_iload_n (q_cod qk217 rfl) (by decide) rfl ?_
  obtain ⟨g1, hf⟩ := m_aK_some hf
  refine em_call (v := (fun u => some (.int u))) (q_cod qk217 rfl) rfl rfl (q_cokV rfl rfl (Or.inr g1)) rfl (fun x e => f204_cl e) hf (fun v2 h hf => ?_)
  refine em_if_eq (q_cod qk217 rfl) (by decide) hf (fun c6 hf => ?_) (fun c6 hf => ?_)
  · exact (f217_22_ok hf hK)
  · refine ev_aload_n (q_cod qk217 rfl) (by decide) rfl ?_
    refine ev_ic (v := 0) (q_cod qk217 rfl) (by decide) (by decide) ?_
    refine ev_iload_n (q_cod qk217 rfl) (by decide) rfl ?_
    obtain ⟨g3, hf⟩ := m_aK_some hf
    refine em_call (v := (fun u => some (.int u))) (q_cod qk217 rfl) rfl rfl (q_cokV rfl rfl (Or.inr g3)) rfl (fun x e => f205_cl e) hf (fun v4 h hf => ?_)
    refine em_if_eq (q_cod qk217 rfl) (by decide) hf (fun c5 hf => ?_) (fun c5 hf => ?_)
    · exact (f217_22_ok hf hK)
    · refine ev_ic (v := 1) (q_cod qk217 rfl) (by decide) (by decide) ?_
      refine ev_goto (q_cod qk217 rfl) (by decide) ?_
      exact (f217_23_ok hf hK)
theorem f217_cl {l0 : Nat} {l1 : Int32} {l2 : Int32} {l3 : Int32} {h : q_H} {x : Int32 × q_H} (hf : f217 l0 l1 l2 l3 h = some x) : q_Cl 217 [.ref l0, .int l1, .int l2, .int l3] h (.inl (some (.int x.1))) x.2 := q_Cl.of rfl (q_LvS rfl rfl) (f217_ok hf ⟨rfl, rfl⟩)
/-! SmithyBenchModel.isParameterClass(I)Z -/
theorem qk218 : q_cs.getD 218 [] = qc_218 := rfl
def f218_23 (s0 : Int32) : m_M Int32 :=
  m_B (m_G (s0 = 0 ∨ s0 = 1)) (fun _ => m_R s0)
theorem f218_23_ok {s0 : Int32} {h : q_H} {o : q_O} {hz : q_H} {x : Int32 × q_H} (hf : f218_23 s0 h = some x) (hK : (q_KI o hz) x) : q_Ev none 218 23 [] [.int s0] h o hz := by
  unfold f218_23 at hf
  obtain ⟨g1, hf⟩ := m_G_some hf
  obtain rfl := m_R_inv hf
  obtain ⟨rfl, rfl⟩ := (show q_KI o hz (s0, _) from hK)
  exact ev_ret (q_cod qk218 rfl) (q_retZ g1)
def f218_18  : m_M Int32 :=
  f218_23 1
theorem f218_18_ok  {h : q_H} {o : q_O} {hz : q_H} {x : Int32 × q_H} (hf : f218_18 h = some x) (hK : (q_KI o hz) x) : q_Ev none 218 18 [] [] h o hz := by
  unfold f218_18 at hf
  refine ev_ic (v := 1) (q_cod qk218 rfl) (by decide) (by decide) ?_
  refine ev_goto (q_cod qk218 rfl) (by decide) ?_
  exact (f218_23_ok hf hK)
def f218 (l0 : Nat) (l1 : Int32) : m_M Int32 :=
  if l1 < 0 then (f218_18) else (m_B (m_aK l0 12) (fun _ => m_B (f205 l0 0 ((l1 / 100) - 1)) (fun v2 => if v2 = 0 then (f218_23 0) else (f218_18))))
theorem f218_ok {l0 : Nat} {l1 : Int32} {h : q_H} {o : q_O} {hz : q_H} {x : Int32 × q_H} (hf : f218 l0 l1 h = some x) (hK : (q_KI o hz) x) : q_Ev none 218 0 [(0, .ref l0), (1, .int l1)] [] h o hz := by
  unfold f218 at hf
  refine ev_iload_n (q_cod qk218 rfl) (by decide) rfl ?_
  refine em_if_lt (q_cod qk218 rfl) (by decide) hf (fun c4 hf => ?_) (fun c4 hf => ?_)
  · exact ev_weak (q_pk [] rfl) (f218_18_ok hf hK)
  · refine ev_aload_n (q_cod qk218 rfl) (by decide) rfl ?_
    refine ev_ic (v := 0) (q_cod qk218 rfl) (by decide) (by decide) ?_
    refine ev_iload_n (q_cod qk218 rfl) (by decide) rfl ?_
    refine ev_bi (v := 100) (q_cod qk218 rfl) (by decide) (by decide) ?_
    refine ev_idiv (q_cod qk218 rfl) (by decide) (by decide) ?_
    refine ev_ic (v := 1) (q_cod qk218 rfl) (by decide) (by decide) ?_
    refine ev_isub (q_cod qk218 rfl) (by decide) ?_
    obtain ⟨g1, hf⟩ := m_aK_some hf
    refine em_call (v := (fun u => some (.int u))) (q_cod qk218 rfl) rfl rfl (q_cokV rfl rfl (Or.inr g1)) rfl (fun x e => f205_cl e) hf (fun v2 h hf => ?_)
    refine em_if_eq (q_cod qk218 rfl) (by decide) hf (fun c3 hf => ?_) (fun c3 hf => ?_)
    · refine ev_ic (v := 0) (q_cod qk218 rfl) (by decide) (by decide) ?_
      exact ev_weak (q_pk [] rfl) (f218_23_ok hf hK)
    · exact ev_weak (q_pk [] rfl) (f218_18_ok hf hK)
theorem f218_cl {l0 : Nat} {l1 : Int32} {h : q_H} {x : Int32 × q_H} (hf : f218 l0 l1 h = some x) : q_Cl 218 [.ref l0, .int l1] h (.inl (some (.int x.1))) x.2 := q_Cl.of rfl (q_LvS rfl rfl) (f218_ok hf ⟨rfl, rfl⟩)
/-! SmithyBenchModel.layHead(IIIII)V -/
theorem qk220 : q_cs.getD 220 [] = qc_220 := rfl
def f220 (l0 : Nat) (l1 : Int32) (l2 : Int32) (l3 : Int32) (l4 : Int32) (l5 : Int32) : m_M Unit :=
  m_B (m_aK l0 12) (fun _ => m_B (f197 l0 l1 l2 0 1) (fun _ => m_B (m_aK l0 12) (fun _ => m_B (f197 l0 l1 l2 1 l3) (fun _ => m_B (m_aK l0 12) (fun _ => m_B (f197 l0 l1 l2 2 l4) (fun _ => m_B (m_aK l0 12) (fun _ => m_B (f197 l0 l1 l2 3 0) (fun _ => m_B (m_aK l0 12) (fun _ => m_B (f197 l0 l1 l2 4 (-1)) (fun _ => m_B (m_aK l0 12) (fun _ => m_B (f197 l0 l1 l2 5 (-1)) (fun _ => m_B (m_aK l0 12) (fun _ => m_B (f197 l0 l1 l2 6 (-1)) (fun _ => m_B (m_aK l0 12) (fun _ => m_B (f197 l0 l1 l2 7 (-1)) (fun _ => m_B (m_aK l0 12) (fun _ => m_B (f197 l0 l1 l2 8 l5) (fun _ => m_B (m_aK l0 12) (fun _ => m_B (f197 l0 l1 l2 9 0) (fun _ => m_R ()))))))))))))))))))))
theorem f220_ok {l0 : Nat} {l1 : Int32} {l2 : Int32} {l3 : Int32} {l4 : Int32} {l5 : Int32} {h : q_H} {o : q_O} {hz : q_H} {x : Unit × q_H} (hf : f220 l0 l1 l2 l3 l4 l5 h = some x) (hK : (m_KU o hz) x) : q_Ev none 220 0 [(0, .ref l0), (1, .int l1), (2, .int l2), (3, .int l3), (4, .int l4), (5, .int l5)] [] h o hz := by
  unfold f220 at hf
  refine ev_aload_n (q_cod qk220 rfl) (by decide) rfl ?_
  refine ev_iload_n (q_cod qk220 rfl) (by decide) rfl ?_
  refine ev_iload_n (q_cod qk220 rfl) (by decide) rfl ?_
  refine ev_ic (v := 0) (q_cod qk220 rfl) (by decide) (by decide) ?_
  refine ev_ic (v := 1) (q_cod qk220 rfl) (by decide) (by decide) ?_
  obtain ⟨g1, hf⟩ := m_aK_some hf
  refine em_call (v := (fun _ => none)) (q_cod qk220 rfl) rfl rfl (q_cokV rfl rfl (Or.inr g1)) rfl (fun x e => f197_cl e) hf (fun _ h hf => ?_)
  refine ev_aload_n (q_cod qk220 rfl) (by decide) rfl ?_
  refine ev_iload_n (q_cod qk220 rfl) (by decide) rfl ?_
  refine ev_iload_n (q_cod qk220 rfl) (by decide) rfl ?_
  refine ev_ic (v := 1) (q_cod qk220 rfl) (by decide) (by decide) ?_
  refine ev_iload_n (q_cod qk220 rfl) (by decide) rfl ?_
  obtain ⟨g3, hf⟩ := m_aK_some hf
  refine em_call (v := (fun _ => none)) (q_cod qk220 rfl) rfl rfl (q_cokV rfl rfl (Or.inr g3)) rfl (fun x e => f197_cl e) hf (fun _ h hf => ?_)
  refine ev_aload_n (q_cod qk220 rfl) (by decide) rfl ?_
  refine ev_iload_n (q_cod qk220 rfl) (by decide) rfl ?_
  refine ev_iload_n (q_cod qk220 rfl) (by decide) rfl ?_
  refine ev_ic (v := 2) (q_cod qk220 rfl) (by decide) (by decide) ?_
  refine ev_iload (q_cod qk220 rfl) (by decide) rfl ?_
  obtain ⟨g5, hf⟩ := m_aK_some hf
  refine em_call (v := (fun _ => none)) (q_cod qk220 rfl) rfl rfl (q_cokV rfl rfl (Or.inr g5)) rfl (fun x e => f197_cl e) hf (fun _ h hf => ?_)
  refine ev_aload_n (q_cod qk220 rfl) (by decide) rfl ?_
  refine ev_iload_n (q_cod qk220 rfl) (by decide) rfl ?_
  refine ev_iload_n (q_cod qk220 rfl) (by decide) rfl ?_
  refine ev_ic (v := 3) (q_cod qk220 rfl) (by decide) (by decide) ?_
  refine ev_ic (v := 0) (q_cod qk220 rfl) (by decide) (by decide) ?_
  obtain ⟨g7, hf⟩ := m_aK_some hf
  refine em_call (v := (fun _ => none)) (q_cod qk220 rfl) rfl rfl (q_cokV rfl rfl (Or.inr g7)) rfl (fun x e => f197_cl e) hf (fun _ h hf => ?_)
  refine ev_aload_n (q_cod qk220 rfl) (by decide) rfl ?_
  refine ev_iload_n (q_cod qk220 rfl) (by decide) rfl ?_
  refine ev_iload_n (q_cod qk220 rfl) (by decide) rfl ?_
  refine ev_ic (v := 4) (q_cod qk220 rfl) (by decide) (by decide) ?_
  refine ev_ic (v := (-1)) (q_cod qk220 rfl) (by decide) (by decide) ?_
  obtain ⟨g9, hf⟩ := m_aK_some hf
  refine em_call (v := (fun _ => none)) (q_cod qk220 rfl) rfl rfl (q_cokV rfl rfl (Or.inr g9)) rfl (fun x e => f197_cl e) hf (fun _ h hf => ?_)
  refine ev_aload_n (q_cod qk220 rfl) (by decide) rfl ?_
  refine ev_iload_n (q_cod qk220 rfl) (by decide) rfl ?_
  refine ev_iload_n (q_cod qk220 rfl) (by decide) rfl ?_
  refine ev_ic (v := 5) (q_cod qk220 rfl) (by decide) (by decide) ?_
  refine ev_ic (v := (-1)) (q_cod qk220 rfl) (by decide) (by decide) ?_
  obtain ⟨g11, hf⟩ := m_aK_some hf
  refine em_call (v := (fun _ => none)) (q_cod qk220 rfl) rfl rfl (q_cokV rfl rfl (Or.inr g11)) rfl (fun x e => f197_cl e) hf (fun _ h hf => ?_)
  refine ev_aload_n (q_cod qk220 rfl) (by decide) rfl ?_
  refine ev_iload_n (q_cod qk220 rfl) (by decide) rfl ?_
  refine ev_iload_n (q_cod qk220 rfl) (by decide) rfl ?_
  refine ev_bi (v := 6) (q_cod qk220 rfl) (by decide) (by decide) ?_
  refine ev_ic (v := (-1)) (q_cod qk220 rfl) (by decide) (by decide) ?_
  obtain ⟨g13, hf⟩ := m_aK_some hf
  refine em_call (v := (fun _ => none)) (q_cod qk220 rfl) rfl rfl (q_cokV rfl rfl (Or.inr g13)) rfl (fun x e => f197_cl e) hf (fun _ h hf => ?_)
  refine ev_aload_n (q_cod qk220 rfl) (by decide) rfl ?_
  refine ev_iload_n (q_cod qk220 rfl) (by decide) rfl ?_
  refine ev_iload_n (q_cod qk220 rfl) (by decide) rfl ?_
  refine ev_bi (v := 7) (q_cod qk220 rfl) (by decide) (by decide) ?_
  refine ev_ic (v := (-1)) (q_cod qk220 rfl) (by decide) (by decide) ?_
  obtain ⟨g15, hf⟩ := m_aK_some hf
  refine em_call (v := (fun _ => none)) (q_cod qk220 rfl) rfl rfl (q_cokV rfl rfl (Or.inr g15)) rfl (fun x e => f197_cl e) hf (fun _ h hf => ?_)
  refine ev_aload_n (q_cod qk220 rfl) (by decide) rfl ?_
  refine ev_iload_n (q_cod qk220 rfl) (by decide) rfl ?_
  refine ev_iload_n (q_cod qk220 rfl) (by decide) rfl ?_
  refine ev_bi (v := 8) (q_cod qk220 rfl) (by decide) (by decide) ?_
  refine ev_iload (q_cod qk220 rfl) (by decide) rfl ?_
  obtain ⟨g17, hf⟩ := m_aK_some hf
  refine em_call (v := (fun _ => none)) (q_cod qk220 rfl) rfl rfl (q_cokV rfl rfl (Or.inr g17)) rfl (fun x e => f197_cl e) hf (fun _ h hf => ?_)
  refine ev_aload_n (q_cod qk220 rfl) (by decide) rfl ?_
  refine ev_iload_n (q_cod qk220 rfl) (by decide) rfl ?_
  refine ev_iload_n (q_cod qk220 rfl) (by decide) rfl ?_
  refine ev_bi (v := 9) (q_cod qk220 rfl) (by decide) (by decide) ?_
  refine ev_ic (v := 0) (q_cod qk220 rfl) (by decide) (by decide) ?_
  obtain ⟨g19, hf⟩ := m_aK_some hf
  refine em_call (v := (fun _ => none)) (q_cod qk220 rfl) rfl rfl (q_cokV rfl rfl (Or.inr g19)) rfl (fun x e => f197_cl e) hf (fun _ h hf => ?_)
  obtain rfl := m_R_inv hf
  obtain ⟨rfl, rfl⟩ := (show m_KU o hz ((), _) from hK)
  exact ev_ret (q_cod qk220 rfl) rfl
theorem f220_cl {l0 : Nat} {l1 : Int32} {l2 : Int32} {l3 : Int32} {l4 : Int32} {l5 : Int32} {h : q_H} {x : Unit × q_H} (hf : f220 l0 l1 l2 l3 l4 l5 h = some x) : q_Cl 220 [.ref l0, .int l1, .int l2, .int l3, .int l4, .int l5] h (.inl none) x.2 := q_Cl.of rfl (q_LvS rfl rfl) (f220_ok hf ⟨rfl, rfl⟩)
/-! SmithyBenchModel.layBody(II)V -/
theorem qk221 : q_cs.getD 221 [] = qc_221 := rfl
def f221_112 (l0 : Nat) (l1 : Int32) (l3 : Int32) (l4 : Int32) : m_M ((Nat × Int32 × Int32 × Int32) ⊕ Unit) :=
  m_R (.inl (l0, l1, l3, l4))
theorem f221_112_ok {l0 : Nat} {l1 : Int32} {l3 : Int32} {l4 : Int32} {h : q_H} {o : q_O} {hz : q_H} {x : ((Nat × Int32 × Int32 × Int32) ⊕ Unit) × q_H} (hf : f221_112 l0 l1 l3 l4 h = some x) (hK : (m_yK (fun (s : Nat × Int32 × Int32 × Int32) (h : q_H) => q_Ev none 221 12 [(0, .ref (s.1)), (1, .int (s.2.1)), (3, .int (s.2.2.1)), (4, .int (s.2.2.2))] [] h o hz) (m_KU o hz)) x) : q_Ev none 221 112 [(0, .ref l0), (1, .int l1), (3, .int l3), (4, .int l4)] [] h o hz := by
  unfold f221_112 at hf
  refine ev_goto (q_cod qk221 rfl) (by decide) ?_
  obtain rfl := m_R_inv hf
  exact (show q_Ev none 221 12 [(0, .ref l0), (1, .int l1), (3, .int l3), (4, .int l4)] [] _ o hz from hK)
def f221_80b (l0 : Nat) (l1 : Int32) (l3 : Int32) (l4 : Int32) (l5 : Int32) (l6 : Int32) : m_M ((Nat × Int32 × Int32 × Int32 × Int32 × Int32) ⊕ ((Nat × Int32 × Int32 × Int32) ⊕ Unit)) :=
  if l6 < 0 then (m_B (f221_112 l0 l1 l3 l4) (fun r => m_R (.inr r))) else (m_B (m_gR 12 l0 14) (fun r1 => m_B (m_gR 12 l0 8) (fun r2 => m_B (m_lI r2 ((3 * l5) + l6)) (fun v3 => m_B (m_wI r1 l3 v3) (fun _ => m_R (.inl (l0, l1, (l3 + 1), l4, l5, (l6 + (-1)))))))))
theorem f221_80b_ok {l0 : Nat} {l1 : Int32} {l3 : Int32} {l4 : Int32} {l5 : Int32} {l6 : Int32} {h : q_H} {o : q_O} {hz : q_H} {x : ((Nat × Int32 × Int32 × Int32 × Int32 × Int32) ⊕ ((Nat × Int32 × Int32 × Int32) ⊕ Unit)) × q_H} (hf : f221_80b l0 l1 l3 l4 l5 l6 h = some x) (hK : (m_yK (fun (s : Nat × Int32 × Int32 × Int32 × Int32 × Int32) (h : q_H) => q_Ev none 221 80 [(0, .ref (s.1)), (1, .int (s.2.1)), (3, .int (s.2.2.1)), (4, .int (s.2.2.2.1)), (5, .int (s.2.2.2.2.1)), (6, .int (s.2.2.2.2.2))] [] h o hz) (m_yK (fun (s : Nat × Int32 × Int32 × Int32) (h : q_H) => q_Ev none 221 12 [(0, .ref (s.1)), (1, .int (s.2.1)), (3, .int (s.2.2.1)), (4, .int (s.2.2.2))] [] h o hz) (m_KU o hz))) x) : q_Ev none 221 80 [(0, .ref l0), (1, .int l1), (3, .int l3), (4, .int l4), (5, .int l5), (6, .int l6)] [] h o hz := by
  unfold f221_80b at hf
  refine ev_iload (q_cod qk221 rfl) (by decide) rfl ?_
  refine em_if_lt (q_cod qk221 rfl) (by decide) hf (fun c4 hf => ?_) (fun c4 hf => ?_)
  · obtain ⟨y0, hf0, hx⟩ := m_inr_some hf
    subst hx
    exact ev_weak (q_pk [0, 1, 2, 3] rfl) (f221_112_ok hf0 hK)
  · refine ev_aload_n (q_cod qk221 rfl) (by decide) rfl ?_
    refine em_gR (q_cod qk221 rfl) (by decide) (by decide) hf (fun r1 hf => ?_)
    refine ev_iload_n (q_cod qk221 rfl) (by decide) rfl ?_
    refine ev_aload_n (q_cod qk221 rfl) (by decide) rfl ?_
    refine em_gR (q_cod qk221 rfl) (by decide) (by decide) hf (fun r2 hf => ?_)
    refine ev_ic (v := 3) (q_cod qk221 rfl) (by decide) (by decide) ?_
    refine ev_iload (q_cod qk221 rfl) (by decide) rfl ?_
    refine ev_imul (q_cod qk221 rfl) (by decide) ?_
    refine ev_iload (q_cod qk221 rfl) (by decide) rfl ?_
    refine ev_iadd (q_cod qk221 rfl) (by decide) ?_
    refine em_lI (q_cod qk221 rfl) (by decide) hf (fun v3 hf => ?_)
    refine em_wI (q_cod qk221 rfl) (by decide) hf (fun hf => ?_)
    refine ev_inc (v := l3 + 1) (L' := [(0, .ref l0), (1, .int l1), (3, .int (l3 + 1)), (4, .int l4), (5, .int l5), (6, .int l6)]) (q_cod qk221 rfl) (by decide) rfl rfl rfl ?_
    refine ev_inc (v := l6 + (-1)) (L' := [(0, .ref l0), (1, .int l1), (3, .int (l3 + 1)), (4, .int l4), (5, .int l5), (6, .int (l6 + (-1)))]) (q_cod qk221 rfl) (by decide) rfl rfl rfl ?_
    refine ev_goto (q_cod qk221 rfl) (by decide) ?_
    obtain rfl := m_R_inv hf
    exact (show q_Ev none 221 80 [(0, .ref l0), (1, .int l1), (3, .int (l3 + 1)), (4, .int l4), (5, .int l5), (6, .int (l6 + (-1)))] [] _ o hz from hK)
def f221_80 (l0 : Nat) (l1 : Int32) (l3 : Int32) (l4 : Int32) (l5 : Int32) (l6 : Int32) : m_M ((Nat × Int32 × Int32 × Int32) ⊕ Unit) := m_W (fun s => f221_80b (s.1) (s.2.1) (s.2.2.1) (s.2.2.2.1) (s.2.2.2.2.1) (s.2.2.2.2.2)) 1000000 (l0, l1, l3, l4, l5, l6)
theorem f221_80_ok {l0 : Nat} {l1 : Int32} {l3 : Int32} {l4 : Int32} {l5 : Int32} {l6 : Int32} {h : q_H} {o : q_O} {hz : q_H} {x : ((Nat × Int32 × Int32 × Int32) ⊕ Unit) × q_H} (hf : f221_80 l0 l1 l3 l4 l5 l6 h = some x) (hK : (m_yK (fun (s : Nat × Int32 × Int32 × Int32) (h : q_H) => q_Ev none 221 12 [(0, .ref (s.1)), (1, .int (s.2.1)), (3, .int (s.2.2.1)), (4, .int (s.2.2.2))] [] h o hz) (m_KU o hz)) x) : q_Ev none 221 80 [(0, .ref l0), (1, .int l1), (3, .int l3), (4, .int l4), (5, .int l5), (6, .int l6)] [] h o hz :=
  m_W_ok (P := (fun (s : Nat × Int32 × Int32 × Int32 × Int32 × Int32) (h : q_H) => q_Ev none 221 80 [(0, .ref (s.1)), (1, .int (s.2.1)), (3, .int (s.2.2.1)), (4, .int (s.2.2.2.1)), (5, .int (s.2.2.2.2.1)), (6, .int (s.2.2.2.2.2))] [] h o hz)) (K := (m_yK (fun (s : Nat × Int32 × Int32 × Int32) (h : q_H) => q_Ev none 221 12 [(0, .ref (s.1)), (1, .int (s.2.1)), (3, .int (s.2.2.1)), (4, .int (s.2.2.2))] [] h o hz) (m_KU o hz))) (fun s h x h1 h2 => f221_80b_ok h1 h2) _ (l0, l1, l3, l4, l5, l6) _ _ hf hK
def f221_115 (l0 : Nat) (l1 : Int32) (l4 : Int32) : m_M Unit :=
  m_B (m_aK l0 12) (fun _ => m_B (f197 l0 0 l1 9 l4) (fun _ => m_R ()))
theorem f221_115_ok {l0 : Nat} {l1 : Int32} {l4 : Int32} {h : q_H} {o : q_O} {hz : q_H} {x : Unit × q_H} (hf : f221_115 l0 l1 l4 h = some x) (hK : (m_KU o hz) x) : q_Ev none 221 115 [(0, .ref l0), (1, .int l1), (4, .int l4)] [] h o hz := by
  unfold f221_115 at hf
  refine ev_aload_n (q_cod qk221 rfl) (by decide) rfl ?_
  refine ev_ic (v := 0) (q_cod qk221 rfl) (by decide) (by decide) ?_
  refine ev_iload_n (q_cod qk221 rfl) (by decide) rfl ?_
  refine ev_bi (v := 9) (q_cod qk221 rfl) (by decide) (by decide) ?_
  refine ev_iload (q_cod qk221 rfl) (by decide) rfl ?_
  obtain ⟨g1, hf⟩ := m_aK_some hf
  refine em_call (v := (fun _ => none)) (q_cod qk221 rfl) rfl rfl (q_cokV rfl rfl (Or.inr g1)) rfl (fun x e => f197_cl e) hf (fun _ h hf => ?_)
  obtain rfl := m_R_inv hf
  obtain ⟨rfl, rfl⟩ := (show m_KU o hz ((), _) from hK)
  exact ev_ret (q_cod qk221 rfl) rfl
def f221_12b (l0 : Nat) (l1 : Int32) (l3 : Int32) (l4 : Int32) : m_M ((Nat × Int32 × Int32 × Int32) ⊕ Unit) :=
  if 0 < l3 then (m_B (m_gR 12 l0 14) (fun r1 => m_B (m_lI r1 (l3 + (-1))) (fun v2 => m_B (m_gR 12 l0 5) (fun r3 => m_B (m_lI r3 v2) (fun v4 => m_B (m_gR 12 l0 6) (fun r5 => m_B (m_lI r5 v2) (fun v6 => m_B (m_gR 12 l0 7) (fun r7 => m_B (m_lI r7 v2) (fun v8 => m_B (m_aK l0 12) (fun _ => m_B (f202 l0 0 l1 l4 v4 v6 v8) (fun _ => m_B (m_gR 12 l0 5) (fun r11 => m_B (m_lI r11 v2) (fun v12 => m_B (m_gR 12 l0 7) (fun r13 => m_B (m_lI r13 v2) (fun v14 => m_B (f183 v12 v14) (fun v15 => f221_80 l0 l1 (l3 + (-1)) (l4 + 1) v2 (v15 - 1))))))))))))))))) else (m_B (f221_115 l0 l1 l4) (fun r => m_R (.inr r)))
theorem f221_12b_ok {l0 : Nat} {l1 : Int32} {l3 : Int32} {l4 : Int32} {h : q_H} {o : q_O} {hz : q_H} {x : ((Nat × Int32 × Int32 × Int32) ⊕ Unit) × q_H} (hf : f221_12b l0 l1 l3 l4 h = some x) (hK : (m_yK (fun (s : Nat × Int32 × Int32 × Int32) (h : q_H) => q_Ev none 221 12 [(0, .ref (s.1)), (1, .int (s.2.1)), (3, .int (s.2.2.1)), (4, .int (s.2.2.2))] [] h o hz) (m_KU o hz)) x) : q_Ev none 221 12 [(0, .ref l0), (1, .int l1), (3, .int l3), (4, .int l4)] [] h o hz := by
  unfold f221_12b at hf
  refine ev_iload_n (q_cod qk221 rfl) (by decide) rfl ?_
  refine em_if_le (q_cod qk221 rfl) (by decide) hf (fun c16 hf => ?_) (fun c16 hf => ?_)
  · refine ev_inc (v := l3 + (-1)) (L' := [(0, .ref l0), (1, .int l1), (3, .int (l3 + (-1))), (4, .int l4)]) (q_cod qk221 rfl) (by decide) rfl rfl rfl ?_
    refine ev_aload_n (q_cod qk221 rfl) (by decide) rfl ?_
    refine em_gR (q_cod qk221 rfl) (by decide) (by decide) hf (fun r1 hf => ?_)
    refine ev_iload_n (q_cod qk221 rfl) (by decide) rfl ?_
    refine em_lI (q_cod qk221 rfl) (by decide) hf (fun v2 hf => ?_)
    refine ev_is2 (L' := [(0, .ref l0), (1, .int l1), (3, .int (l3 + (-1))), (4, .int l4), (5, .int v2)]) (q_cod qk221 rfl) (by decide) rfl ?_
    refine ev_aload_n (q_cod qk221 rfl) (by decide) rfl ?_
    refine ev_ic (v := 0) (q_cod qk221 rfl) (by decide) (by decide) ?_
    refine ev_iload_n (q_cod qk221 rfl) (by decide) rfl ?_
    refine ev_iload (q_cod qk221 rfl) (by decide) rfl ?_
    refine ev_aload_n (q_cod qk221 rfl) (by decide) rfl ?_
    refine em_gR (q_cod qk221 rfl) (by decide) (by decide) hf (fun r3 hf => ?_)
    refine ev_iload (q_cod qk221 rfl) (by decide) rfl ?_
    refine em_lI (q_cod qk221 rfl) (by decide) hf (fun v4 hf => ?_)
    refine ev_aload_n (q_cod qk221 rfl) (by decide) rfl ?_
    refine em_gR (q_cod qk221 rfl) (by decide) (by decide) hf (fun r5 hf => ?_)
    refine ev_iload (q_cod qk221 rfl) (by decide) rfl ?_
    refine em_lI (q_cod qk221 rfl) (by decide) hf (fun v6 hf => ?_)
    refine ev_aload_n (q_cod qk221 rfl) (by decide) rfl ?_
    refine em_gR (q_cod qk221 rfl) (by decide) (by decide) hf (fun r7 hf => ?_)
    refine ev_iload (q_cod qk221 rfl) (by decide) rfl ?_
    refine em_lI (q_cod qk221 rfl) (by decide) hf (fun v8 hf => ?_)
    obtain ⟨g9, hf⟩ := m_aK_some hf
    refine em_call (v := (fun _ => none)) (q_cod qk221 rfl) rfl rfl (q_cokV rfl rfl (Or.inr g9)) rfl (fun x e => f202_cl e) hf (fun _ h hf => ?_)
    refine ev_inc (v := l4 + 1) (L' := [(0, .ref l0), (1, .int l1), (3, .int (l3 + (-1))), (4, .int (l4 + 1)), (5, .int v2)]) (q_cod qk221 rfl) (by decide) rfl rfl rfl ?_
    refine ev_aload_n (q_cod qk221 rfl) (by decide) rfl ?_
    refine em_gR (q_cod qk221 rfl) (by decide) (by decide) hf (fun r11 hf => ?_)
    refine ev_iload (q_cod qk221 rfl) (by decide) rfl ?_
    refine em_lI (q_cod qk221 rfl) (by decide) hf (fun v12 hf => ?_)
    refine ev_aload_n (q_cod qk221 rfl) (by decide) rfl ?_
    refine em_gR (q_cod qk221 rfl) (by decide) (by decide) hf (fun r13 hf => ?_)
    refine ev_iload (q_cod qk221 rfl) (by decide) rfl ?_
    refine em_lI (q_cod qk221 rfl) (by decide) hf (fun v14 hf => ?_)
    refine em_call (v := (fun u => some (.int u))) (q_cod qk221 rfl) rfl rfl (q_cokS rfl rfl) rfl (fun x e => f183_cl e) hf (fun v15 h hf => ?_)
    refine ev_ic (v := 1) (q_cod qk221 rfl) (by decide) (by decide) ?_
    refine ev_isub (q_cod qk221 rfl) (by decide) ?_
    refine ev_is2 (L' := [(0, .ref l0), (1, .int l1), (3, .int (l3 + (-1))), (4, .int (l4 + 1)), (5, .int v2), (6, .int (v15 - 1))]) (q_cod qk221 rfl) (by decide) rfl ?_
    exact (f221_80_ok hf hK)
  · obtain ⟨y0, hf0, hx⟩ := m_inr_some hf
    subst hx
    exact ev_weak (q_pk [0, 1, 3] rfl) (f221_115_ok hf0 hK)
def f221_12 (l0 : Nat) (l1 : Int32) (l3 : Int32) (l4 : Int32) : m_M Unit := m_W (fun s => f221_12b (s.1) (s.2.1) (s.2.2.1) (s.2.2.2)) 1000000 (l0, l1, l3, l4)
theorem f221_12_ok {l0 : Nat} {l1 : Int32} {l3 : Int32} {l4 : Int32} {h : q_H} {o : q_O} {hz : q_H} {x : Unit × q_H} (hf : f221_12 l0 l1 l3 l4 h = some x) (hK : (m_KU o hz) x) : q_Ev none 221 12 [(0, .ref l0), (1, .int l1), (3, .int l3), (4, .int l4)] [] h o hz :=
  m_W_ok (P := (fun (s : Nat × Int32 × Int32 × Int32) (h : q_H) => q_Ev none 221 12 [(0, .ref (s.1)), (1, .int (s.2.1)), (3, .int (s.2.2.1)), (4, .int (s.2.2.2))] [] h o hz)) (K := (m_KU o hz)) (fun s h x h1 h2 => f221_12b_ok h1 h2) _ (l0, l1, l3, l4) _ _ hf hK
def f221 (l0 : Nat) (l1 : Int32) (l2 : Int32) : m_M Unit :=
  m_B (m_gR 12 l0 14) (fun r1 => m_B (m_wI r1 0 l2) (fun _ => f221_12 l0 l1 1 0))
theorem f221_ok {l0 : Nat} {l1 : Int32} {l2 : Int32} {h : q_H} {o : q_O} {hz : q_H} {x : Unit × q_H} (hf : f221 l0 l1 l2 h = some x) (hK : (m_KU o hz) x) : q_Ev none 221 0 [(0, .ref l0), (1, .int l1), (2, .int l2)] [] h o hz := by
  unfold f221 at hf
  refine ev_ic (v := 1) (q_cod qk221 rfl) (by decide) (by decide) ?_
  refine ev_is1 (L' := [(0, .ref l0), (1, .int l1), (2, .int l2), (3, .int 1)]) (q_cod qk221 rfl) (by decide) rfl ?_
  refine ev_ic (v := 0) (q_cod qk221 rfl) (by decide) (by decide) ?_
  refine ev_is2 (L' := [(0, .ref l0), (1, .int l1), (2, .int l2), (3, .int 1), (4, .int 0)]) (q_cod qk221 rfl) (by decide) rfl ?_
  refine ev_aload_n (q_cod qk221 rfl) (by decide) rfl ?_
  refine em_gR (q_cod qk221 rfl) (by decide) (by decide) hf (fun r1 hf => ?_)
  refine ev_ic (v := 0) (q_cod qk221 rfl) (by decide) (by decide) ?_
  refine ev_iload_n (q_cod qk221 rfl) (by decide) rfl ?_
  refine em_wI (q_cod qk221 rfl) (by decide) hf (fun hf => ?_)
  exact ev_weak (q_pk [0, 1, 3, 4] rfl) (f221_12_ok hf hK)
theorem f221_cl {l0 : Nat} {l1 : Int32} {l2 : Int32} {h : q_H} {x : Unit × q_H} (hf : f221 l0 l1 l2 h = some x) : q_Cl 221 [.ref l0, .int l1, .int l2] h (.inl none) x.2 := q_Cl.of rfl (q_LvS rfl rfl) (f221_ok hf ⟨rfl, rfl⟩)
/-! SmithyBenchModel.method(IIIIII)I -/
theorem qk219 : q_cs.getD 219 [] = qc_219 := rfl
def f219_390 (l0 : Nat) (l6 : Int32) (l11 : Int32) (s0 : Nat) (s1 : Int32) (s2 : Int32) (s3 : Int32) (s4 : Int32) : m_M Int32 :=
  m_B (m_aK s0 12) (fun _ => m_B (f197 s0 s1 s2 s3 s4) (fun _ => m_B (m_aK l0 12) (fun _ => m_B (f221 l0 l11 l6) (fun _ => m_B (m_pI 12 l0 2 0) (fun _ => m_R l11)))))
theorem f219_390_ok {l0 : Nat} {l6 : Int32} {l11 : Int32} {s0 : Nat} {s1 : Int32} {s2 : Int32} {s3 : Int32} {s4 : Int32} {h : q_H} {o : q_O} {hz : q_H} {x : Int32 × q_H} (hf : f219_390 l0 l6 l11 s0 s1 s2 s3 s4 h = some x) (hK : (q_KI o hz) x) : q_Ev none 219 390 [(0, .ref l0), (6, .int l6), (11, .int l11)] [.int s4, .int s3, .int s2, .int s1, .ref s0] h o hz := by
  unfold f219_390 at hf
  obtain ⟨g1, hf⟩ := m_aK_some hf
  refine em_call (v := (fun _ => none)) (q_cod qk219 rfl) rfl rfl (q_cokV rfl rfl (Or.inr g1)) rfl (fun x e => f197_cl e) hf (fun _ h hf => ?_)
  refine ev_aload_n (q_cod qk219 rfl) (by decide) rfl ?_
  refine ev_iload (q_cod qk219 rfl) (by decide) rfl ?_
  refine ev_iload (q_cod qk219 rfl) (by decide) rfl ?_
  obtain ⟨g3, hf⟩ := m_aK_some hf
  refine em_call (v := (fun _ => none)) (q_cod qk219 rfl) rfl rfl (q_cokV rfl rfl (Or.inr g3)) rfl (fun x e => f221_cl e) hf (fun _ h hf => ?_)
  refine ev_aload_n (q_cod qk219 rfl) (by decide) rfl ?_
  refine ev_ic (v := 0) (q_cod qk219 rfl) (by decide) (by decide) ?_
  refine em_pI (q_cod qk219 rfl) (by decide) (by decide) (by decide) hf (fun hf => ?_)
  refine ev_iload (q_cod qk219 rfl) (by decide) rfl ?_
  obtain rfl := m_R_inv hf
  obtain ⟨rfl, rfl⟩ := (show q_KI o hz (l11, _) from hK)
  exact ev_ret (q_cod qk219 rfl) rfl
def f219_364 (l0 : Nat) (l4 : Int32) (l6 : Int32) (l8 : Int32) (l11 : Int32) (s0 : Nat) (s1 : Int32) (s2 : Int32) (s3 : Int32) (s4 : Int32) : m_M Int32 :=
  m_B (m_aK s0 12) (fun _ => m_B (f197 s0 s1 s2 s3 s4) (fun _ => if 1 < l8 then (f219_390 l0 l6 l11 l0 0 l11 7 ((l4 / 100) - 1)) else (f219_390 l0 l6 l11 l0 0 l11 7 (-1))))
theorem f219_364_ok {l0 : Nat} {l4 : Int32} {l6 : Int32} {l8 : Int32} {l11 : Int32} {s0 : Nat} {s1 : Int32} {s2 : Int32} {s3 : Int32} {s4 : Int32} {h : q_H} {o : q_O} {hz : q_H} {x : Int32 × q_H} (hf : f219_364 l0 l4 l6 l8 l11 s0 s1 s2 s3 s4 h = some x) (hK : (q_KI o hz) x) : q_Ev none 219 364 [(0, .ref l0), (4, .int l4), (6, .int l6), (8, .int l8), (11, .int l11)] [.int s4, .int s3, .int s2, .int s1, .ref s0] h o hz := by
  unfold f219_364 at hf
  obtain ⟨g1, hf⟩ := m_aK_some hf
  refine em_call (v := (fun _ => none)) (q_cod qk219 rfl) rfl rfl (q_cokV rfl rfl (Or.inr g1)) rfl (fun x e => f197_cl e) hf (fun _ h hf => ?_)
  refine ev_aload_n (q_cod qk219 rfl) (by decide) rfl ?_
  refine ev_ic (v := 0) (q_cod qk219 rfl) (by decide) (by decide) ?_
  refine ev_iload (q_cod qk219 rfl) (by decide) rfl ?_
  refine ev_bi (v := 7) (q_cod qk219 rfl) (by decide) (by decide) ?_
  refine ev_iload (q_cod qk219 rfl) (by decide) rfl ?_
  refine ev_ic (v := 1) (q_cod qk219 rfl) (by decide) (by decide) ?_
  refine em_ic_le (q_cod qk219 rfl) (by decide) hf (fun c3 hf => ?_) (fun c3 hf => ?_)
  · refine ev_iload (q_cod qk219 rfl) (by decide) rfl ?_
    refine ev_bi (v := 100) (q_cod qk219 rfl) (by decide) (by decide) ?_
    refine ev_idiv (q_cod qk219 rfl) (by decide) (by decide) ?_
    refine ev_ic (v := 1) (q_cod qk219 rfl) (by decide) (by decide) ?_
    refine ev_isub (q_cod qk219 rfl) (by decide) ?_
    refine ev_goto (q_cod qk219 rfl) (by decide) ?_
    exact ev_weak (q_pk [0, 2, 4] rfl) (f219_390_ok hf hK)
  · refine ev_ic (v := (-1)) (q_cod qk219 rfl) (by decide) (by decide) ?_
    exact ev_weak (q_pk [0, 2, 4] rfl) (f219_390_ok hf hK)
def f219_340 (l0 : Nat) (l3 : Int32) (l4 : Int32) (l6 : Int32) (l8 : Int32) (l11 : Int32) (s0 : Nat) (s1 : Int32) (s2 : Int32) (s3 : Int32) (s4 : Int32) : m_M Int32 :=
  m_B (m_aK s0 12) (fun _ => m_B (f197 s0 s1 s2 s3 s4) (fun _ => if 0 < l8 then (f219_364 l0 l4 l6 l8 l11 l0 0 l11 6 ((l3 / 100) - 1)) else (f219_364 l0 l4 l6 l8 l11 l0 0 l11 6 (-1))))
theorem f219_340_ok {l0 : Nat} {l3 : Int32} {l4 : Int32} {l6 : Int32} {l8 : Int32} {l11 : Int32} {s0 : Nat} {s1 : Int32} {s2 : Int32} {s3 : Int32} {s4 : Int32} {h : q_H} {o : q_O} {hz : q_H} {x : Int32 × q_H} (hf : f219_340 l0 l3 l4 l6 l8 l11 s0 s1 s2 s3 s4 h = some x) (hK : (q_KI o hz) x) : q_Ev none 219 340 [(0, .ref l0), (3, .int l3), (4, .int l4), (6, .int l6), (8, .int l8), (11, .int l11)] [.int s4, .int s3, .int s2, .int s1, .ref s0] h o hz := by
  unfold f219_340 at hf
  obtain ⟨g1, hf⟩ := m_aK_some hf
  refine em_call (v := (fun _ => none)) (q_cod qk219 rfl) rfl rfl (q_cokV rfl rfl (Or.inr g1)) rfl (fun x e => f197_cl e) hf (fun _ h hf => ?_)
  refine ev_aload_n (q_cod qk219 rfl) (by decide) rfl ?_
  refine ev_ic (v := 0) (q_cod qk219 rfl) (by decide) (by decide) ?_
  refine ev_iload (q_cod qk219 rfl) (by decide) rfl ?_
  refine ev_bi (v := 6) (q_cod qk219 rfl) (by decide) (by decide) ?_
  refine ev_iload (q_cod qk219 rfl) (by decide) rfl ?_
  refine em_if_le (q_cod qk219 rfl) (by decide) hf (fun c3 hf => ?_) (fun c3 hf => ?_)
  · refine ev_iload_n (q_cod qk219 rfl) (by decide) rfl ?_
    refine ev_bi (v := 100) (q_cod qk219 rfl) (by decide) (by decide) ?_
    refine ev_idiv (q_cod qk219 rfl) (by decide) (by decide) ?_
    refine ev_ic (v := 1) (q_cod qk219 rfl) (by decide) (by decide) ?_
    refine ev_isub (q_cod qk219 rfl) (by decide) ?_
    refine ev_goto (q_cod qk219 rfl) (by decide) ?_
    exact ev_weak (q_pk [0, 2, 3, 4, 5] rfl) (f219_364_ok hf hK)
  · refine ev_ic (v := (-1)) (q_cod qk219 rfl) (by decide) (by decide) ?_
    exact ev_weak (q_pk [0, 2, 3, 4, 5] rfl) (f219_364_ok hf hK)
def f219_317 (l0 : Nat) (l3 : Int32) (l4 : Int32) (l6 : Int32) (l8 : Int32) (l11 : Int32) (s0 : Nat) (s1 : Int32) (s2 : Int32) (s3 : Int32) (s4 : Int32) : m_M Int32 :=
  m_B (m_aK s0 12) (fun _ => m_B (f197 s0 s1 s2 s3 s4) (fun _ => if 1 < l8 then (f219_340 l0 l3 l4 l6 l8 l11 l0 0 l11 5 (l4 - l4 / 100 * 100)) else (f219_340 l0 l3 l4 l6 l8 l11 l0 0 l11 5 (-1))))
theorem f219_317_ok {l0 : Nat} {l3 : Int32} {l4 : Int32} {l6 : Int32} {l8 : Int32} {l11 : Int32} {s0 : Nat} {s1 : Int32} {s2 : Int32} {s3 : Int32} {s4 : Int32} {h : q_H} {o : q_O} {hz : q_H} {x : Int32 × q_H} (hf : f219_317 l0 l3 l4 l6 l8 l11 s0 s1 s2 s3 s4 h = some x) (hK : (q_KI o hz) x) : q_Ev none 219 317 [(0, .ref l0), (3, .int l3), (4, .int l4), (6, .int l6), (8, .int l8), (11, .int l11)] [.int s4, .int s3, .int s2, .int s1, .ref s0] h o hz := by
  unfold f219_317 at hf
  obtain ⟨g1, hf⟩ := m_aK_some hf
  refine em_call (v := (fun _ => none)) (q_cod qk219 rfl) rfl rfl (q_cokV rfl rfl (Or.inr g1)) rfl (fun x e => f197_cl e) hf (fun _ h hf => ?_)
  refine ev_aload_n (q_cod qk219 rfl) (by decide) rfl ?_
  refine ev_ic (v := 0) (q_cod qk219 rfl) (by decide) (by decide) ?_
  refine ev_iload (q_cod qk219 rfl) (by decide) rfl ?_
  refine ev_ic (v := 5) (q_cod qk219 rfl) (by decide) (by decide) ?_
  refine ev_iload (q_cod qk219 rfl) (by decide) rfl ?_
  refine ev_ic (v := 1) (q_cod qk219 rfl) (by decide) (by decide) ?_
  refine em_ic_le (q_cod qk219 rfl) (by decide) hf (fun c3 hf => ?_) (fun c3 hf => ?_)
  · refine ev_iload (q_cod qk219 rfl) (by decide) rfl ?_
    refine ev_bi (v := 100) (q_cod qk219 rfl) (by decide) (by decide) ?_
    refine ev_irem (q_cod qk219 rfl) (by decide) (by decide) ?_
    refine ev_goto (q_cod qk219 rfl) (by decide) ?_
    exact (f219_340_ok hf hK)
  · refine ev_ic (v := (-1)) (q_cod qk219 rfl) (by decide) (by decide) ?_
    exact (f219_340_ok hf hK)
def f219_252 (l0 : Nat) (l1 : Int32) (l2 : Int32) (l3 : Int32) (l4 : Int32) (l5 : Int32) (l6 : Int32) (l8 : Int32) (s0 : Nat) (s1 : Int32) : m_M Int32 :=
  m_B (m_aK s0 12) (fun _ => m_B (f178 s0 s1) (fun v2 => if v2 = 0 then (m_B (m_gR 12 l0 1) (fun r3 => m_B (m_lI r3 1) (fun v4 => m_B (m_gR 12 l0 1) (fun r5 => m_B (m_lI r5 1) (fun v6 => m_B (m_wI r5 1 (v6 + 1)) (fun _ => m_B (m_aK l0 12) (fun _ => m_B (f220 l0 0 v4 l1 l2 l5) (fun _ => m_B (m_aK l0 12) (fun _ => m_B (f197 l0 0 v4 3 l8) (fun _ => if 0 < l8 then (f219_317 l0 l3 l4 l6 l8 v4 l0 0 v4 4 (l3 - l3 / 100 * 100)) else (f219_317 l0 l3 l4 l6 l8 v4 l0 0 v4 4 (-1)))))))))))) else (m_R 0)))
theorem f219_252_ok {l0 : Nat} {l1 : Int32} {l2 : Int32} {l3 : Int32} {l4 : Int32} {l5 : Int32} {l6 : Int32} {l8 : Int32} {s0 : Nat} {s1 : Int32} {h : q_H} {o : q_O} {hz : q_H} {x : Int32 × q_H} (hf : f219_252 l0 l1 l2 l3 l4 l5 l6 l8 s0 s1 h = some x) (hK : (q_KI o hz) x) : q_Ev none 219 252 [(0, .ref l0), (1, .int l1), (2, .int l2), (3, .int l3), (4, .int l4), (5, .int l5), (6, .int l6), (8, .int l8)] [.int s1, .ref s0] h o hz := by
  unfold f219_252 at hf
  obtain ⟨g1, hf⟩ := m_aK_some hf
  refine em_call (v := (fun u => some (.int u))) (q_cod qk219 rfl) rfl rfl (q_cokV rfl rfl (Or.inr g1)) rfl (fun x e => f178_cl e) hf (fun v2 h hf => ?_)
  refine em_if_eq (q_cod qk219 rfl) (by decide) hf (fun c12 hf => ?_) (fun c12 hf => ?_)
  · refine ev_aload_n (q_cod qk219 rfl) (by decide) rfl ?_
    refine em_gR (q_cod qk219 rfl) (by decide) (by decide) hf (fun r3 hf => ?_)
    refine ev_ic (v := 1) (q_cod qk219 rfl) (by decide) (by decide) ?_
    refine em_lI (q_cod qk219 rfl) (by decide) hf (fun v4 hf => ?_)
    refine ev_is2 (L' := [(0, .ref l0), (1, .int l1), (2, .int l2), (3, .int l3), (4, .int l4), (5, .int l5), (6, .int l6), (8, .int l8), (11, .int v4)]) (q_cod qk219 rfl) (by decide) rfl ?_
    refine ev_aload_n (q_cod qk219 rfl) (by decide) rfl ?_
    refine em_gR (q_cod qk219 rfl) (by decide) (by decide) hf (fun r5 hf => ?_)
    refine ev_ic (v := 1) (q_cod qk219 rfl) (by decide) (by decide) ?_
    refine ev_dup2 (q_cod qk219 rfl) (by decide) rfl rfl ?_
    refine em_lI (q_cod qk219 rfl) (by decide) hf (fun v6 hf => ?_)
    refine ev_ic (v := 1) (q_cod qk219 rfl) (by decide) (by decide) ?_
    refine ev_iadd (q_cod qk219 rfl) (by decide) ?_
    refine em_wI (q_cod qk219 rfl) (by decide) hf (fun hf => ?_)
    refine ev_aload_n (q_cod qk219 rfl) (by decide) rfl ?_
    refine ev_ic (v := 0) (q_cod qk219 rfl) (by decide) (by decide) ?_
    refine ev_iload (q_cod qk219 rfl) (by decide) rfl ?_
    refine ev_iload_n (q_cod qk219 rfl) (by decide) rfl ?_
    refine ev_iload_n (q_cod qk219 rfl) (by decide) rfl ?_
    refine ev_iload (q_cod qk219 rfl) (by decide) rfl ?_
    obtain ⟨g7, hf⟩ := m_aK_some hf
    refine em_call (v := (fun _ => none)) (q_cod qk219 rfl) rfl rfl (q_cokV rfl rfl (Or.inr g7)) rfl (fun x e => f220_cl e) hf (fun _ h hf => ?_)
    refine ev_aload_n (q_cod qk219 rfl) (by decide) rfl ?_
    refine ev_ic (v := 0) (q_cod qk219 rfl) (by decide) (by decide) ?_
    refine ev_iload (q_cod qk219 rfl) (by decide) rfl ?_
    refine ev_ic (v := 3) (q_cod qk219 rfl) (by decide) (by decide) ?_
    refine ev_iload (q_cod qk219 rfl) (by decide) rfl ?_
    obtain ⟨g9, hf⟩ := m_aK_some hf
    refine em_call (v := (fun _ => none)) (q_cod qk219 rfl) rfl rfl (q_cokV rfl rfl (Or.inr g9)) rfl (fun x e => f197_cl e) hf (fun _ h hf => ?_)
    refine ev_aload_n (q_cod qk219 rfl) (by decide) rfl ?_
    refine ev_ic (v := 0) (q_cod qk219 rfl) (by decide) (by decide) ?_
    refine ev_iload (q_cod qk219 rfl) (by decide) rfl ?_
    refine ev_ic (v := 4) (q_cod qk219 rfl) (by decide) (by decide) ?_
    refine ev_iload (q_cod qk219 rfl) (by decide) rfl ?_
    refine em_if_le (q_cod qk219 rfl) (by decide) hf (fun c11 hf => ?_) (fun c11 hf => ?_)
    · refine ev_iload_n (q_cod qk219 rfl) (by decide) rfl ?_
      refine ev_bi (v := 100) (q_cod qk219 rfl) (by decide) (by decide) ?_
      refine ev_irem (q_cod qk219 rfl) (by decide) (by decide) ?_
      refine ev_goto (q_cod qk219 rfl) (by decide) ?_
      exact ev_weak (q_pk [0, 3, 4, 6, 7, 8] rfl) (f219_317_ok hf hK)
    · refine ev_ic (v := (-1)) (q_cod qk219 rfl) (by decide) (by decide) ?_
      exact ev_weak (q_pk [0, 3, 4, 6, 7, 8] rfl) (f219_317_ok hf hK)
  · refine ev_ic (v := 0) (q_cod qk219 rfl) (by decide) (by decide) ?_
    obtain rfl := m_R_inv hf
    obtain ⟨rfl, rfl⟩ := (show q_KI o hz (0, _) from hK)
    exact ev_ret (q_cod qk219 rfl) rfl
def f219_221 (l0 : Nat) (l1 : Int32) (l2 : Int32) (l3 : Int32) (l4 : Int32) (l5 : Int32) (l6 : Int32) (l7 : Int32) (l8 : Int32) (l9 : Int32) (s0 : Int32) : m_M Int32 :=
  if l7 = 0 then (f219_252 l0 l1 l2 l3 l4 l5 l6 l8 l0 1) else (if l9 = 0 then (f219_252 l0 l1 l2 l3 l4 l5 l6 l8 l0 2) else (if s0 = 0 then (f219_252 l0 l1 l2 l3 l4 l5 l6 l8 l0 3) else (f219_252 l0 l1 l2 l3 l4 l5 l6 l8 l0 0)))
theorem f219_221_ok {l0 : Nat} {l1 : Int32} {l2 : Int32} {l3 : Int32} {l4 : Int32} {l5 : Int32} {l6 : Int32} {l7 : Int32} {l8 : Int32} {l9 : Int32} {s0 : Int32} {h : q_H} {o : q_O} {hz : q_H} {x : Int32 × q_H} (hf : f219_221 l0 l1 l2 l3 l4 l5 l6 l7 l8 l9 s0 h = some x) (hK : (q_KI o hz) x) : q_Ev none 219 221 [(0, .ref l0), (1, .int l1), (2, .int l2), (3, .int l3), (4, .int l4), (5, .int l5), (6, .int l6), (7, .int l7), (8, .int l8), (9, .int l9)] [.int s0] h o hz := by
  unfold f219_221 at hf
  refine ev_is2 (L' := [(0, .ref l0), (1, .int l1), (2, .int l2), (3, .int l3), (4, .int l4), (5, .int l5), (6, .int l6), (7, .int l7), (8, .int l8), (9, .int l9), (10, .int s0)]) (q_cod qk219 rfl) (by decide) rfl ?_
  refine ev_aload_n (q_cod qk219 rfl) (by decide) rfl ?_
  refine ev_iload (q_cod qk219 rfl) (by decide) rfl ?_
  refine em_if_ne (q_cod qk219 rfl) (by decide) hf (fun c3 hf => ?_) (fun c3 hf => ?_)
  · refine ev_ic (v := 1) (q_cod qk219 rfl) (by decide) (by decide) ?_
    refine ev_goto (q_cod qk219 rfl) (by decide) ?_
    exact ev_weak (q_pk [0, 1, 2, 3, 4, 5, 6, 8] rfl) (f219_252_ok hf hK)
  · refine ev_iload (q_cod qk219 rfl) (by decide) rfl ?_
    refine em_if_ne (q_cod qk219 rfl) (by decide) hf (fun c2 hf => ?_) (fun c2 hf => ?_)
    · refine ev_ic (v := 2) (q_cod qk219 rfl) (by decide) (by decide) ?_
      refine ev_goto (q_cod qk219 rfl) (by decide) ?_
      exact ev_weak (q_pk [0, 1, 2, 3, 4, 5, 6, 8] rfl) (f219_252_ok hf hK)
    · refine ev_iload (q_cod qk219 rfl) (by decide) rfl ?_
      refine em_if_ne (q_cod qk219 rfl) (by decide) hf (fun c1 hf => ?_) (fun c1 hf => ?_)
      · refine ev_ic (v := 3) (q_cod qk219 rfl) (by decide) (by decide) ?_
        refine ev_goto (q_cod qk219 rfl) (by decide) ?_
        exact ev_weak (q_pk [0, 1, 2, 3, 4, 5, 6, 8] rfl) (f219_252_ok hf hK)
      · refine ev_ic (v := 0) (q_cod qk219 rfl) (by decide) (by decide) ?_
        exact ev_weak (q_pk [0, 1, 2, 3, 4, 5, 6, 8] rfl) (f219_252_ok hf hK)
def f219_220 (l0 : Nat) (l1 : Int32) (l2 : Int32) (l3 : Int32) (l4 : Int32) (l5 : Int32) (l6 : Int32) (l7 : Int32) (l8 : Int32) (l9 : Int32) : m_M Int32 :=
  f219_221 l0 l1 l2 l3 l4 l5 l6 l7 l8 l9 0
theorem f219_220_ok {l0 : Nat} {l1 : Int32} {l2 : Int32} {l3 : Int32} {l4 : Int32} {l5 : Int32} {l6 : Int32} {l7 : Int32} {l8 : Int32} {l9 : Int32} {h : q_H} {o : q_O} {hz : q_H} {x : Int32 × q_H} (hf : f219_220 l0 l1 l2 l3 l4 l5 l6 l7 l8 l9 h = some x) (hK : (q_KI o hz) x) : q_Ev none 219 220 [(0, .ref l0), (1, .int l1), (2, .int l2), (3, .int l3), (4, .int l4), (5, .int l5), (6, .int l6), (7, .int l7), (8, .int l8), (9, .int l9)] [] h o hz := by
  unfold f219_220 at hf
  refine ev_ic (v := 0) (q_cod qk219 rfl) (by decide) (by decide) ?_
  exact (f219_221_ok hf hK)
def f219_168 (l0 : Nat) (l1 : Int32) (l2 : Int32) (l3 : Int32) (l4 : Int32) (l5 : Int32) (l6 : Int32) (l7 : Int32) (l8 : Int32) (s0 : Int32) : m_M Int32 :=
  if l7 = 0 then (f219_220 l0 l1 l2 l3 l4 l5 l6 l7 l8 s0) else (if s0 = 0 then (f219_220 l0 l1 l2 l3 l4 l5 l6 l7 l8 s0) else (m_B (m_gR 12 l0 9) (fun r1 => m_B (m_lI r1 l6) (fun v2 => if 60 < v2 then (f219_220 l0 l1 l2 l3 l4 l5 l6 l7 l8 s0) else (m_B (m_aK l0 12) (fun _ => m_B (f213 l0 0 l1 l2 l8) (fun v4 => if v4 = (-1) then (m_B (m_gR 12 l0 1) (fun r5 => m_B (m_lI r5 1) (fun v6 => if v6 < 24 then (f219_221 l0 l1 l2 l3 l4 l5 l6 l7 l8 s0 1) else (f219_220 l0 l1 l2 l3 l4 l5 l6 l7 l8 s0)))) else (f219_220 l0 l1 l2 l3 l4 l5 l6 l7 l8 s0))))))))
theorem f219_168_ok {l0 : Nat} {l1 : Int32} {l2 : Int32} {l3 : Int32} {l4 : Int32} {l5 : Int32} {l6 : Int32} {l7 : Int32} {l8 : Int32} {s0 : Int32} {h : q_H} {o : q_O} {hz : q_H} {x : Int32 × q_H} (hf : f219_168 l0 l1 l2 l3 l4 l5 l6 l7 l8 s0 h = some x) (hK : (q_KI o hz) x) : q_Ev none 219 168 [(0, .ref l0), (1, .int l1), (2, .int l2), (3, .int l3), (4, .int l4), (5, .int l5), (6, .int l6), (7, .int l7), (8, .int l8)] [.int s0] h o hz := by
  unfold f219_168 at hf
  refine ev_is2 (L' := [(0, .ref l0), (1, .int l1), (2, .int l2), (3, .int l3), (4, .int l4), (5, .int l5), (6, .int l6), (7, .int l7), (8, .int l8), (9, .int s0)]) (q_cod qk219 rfl) (by decide) rfl ?_
  refine ev_iload (q_cod qk219 rfl) (by decide) rfl ?_
  refine em_if_eq (q_cod qk219 rfl) (by decide) hf (fun c11 hf => ?_) (fun c11 hf => ?_)
  · exact (f219_220_ok hf hK)
  · refine ev_iload (q_cod qk219 rfl) (by decide) rfl ?_
    refine em_if_eq (q_cod qk219 rfl) (by decide) hf (fun c10 hf => ?_) (fun c10 hf => ?_)
    · exact (f219_220_ok hf hK)
    · refine ev_aload_n (q_cod qk219 rfl) (by decide) rfl ?_
      refine em_gR (q_cod qk219 rfl) (by decide) (by decide) hf (fun r1 hf => ?_)
      refine ev_iload (q_cod qk219 rfl) (by decide) rfl ?_
      refine em_lI (q_cod qk219 rfl) (by decide) hf (fun v2 hf => ?_)
      refine ev_bi (v := 60) (q_cod qk219 rfl) (by decide) (by decide) ?_
      refine em_ic_gt (q_cod qk219 rfl) (by decide) hf (fun c9 hf => ?_) (fun c9 hf => ?_)
      · exact (f219_220_ok hf hK)
      · refine ev_aload_n (q_cod qk219 rfl) (by decide) rfl ?_
        refine ev_ic (v := 0) (q_cod qk219 rfl) (by decide) (by decide) ?_
        refine ev_iload_n (q_cod qk219 rfl) (by decide) rfl ?_
        refine ev_iload_n (q_cod qk219 rfl) (by decide) rfl ?_
        refine ev_iload (q_cod qk219 rfl) (by decide) rfl ?_
        obtain ⟨g3, hf⟩ := m_aK_some hf
        refine em_call (v := (fun u => some (.int u))) (q_cod qk219 rfl) rfl rfl (q_cokV rfl rfl (Or.inr g3)) rfl (fun x e => f213_cl e) hf (fun v4 h hf => ?_)
        refine ev_ic (v := (-1)) (q_cod qk219 rfl) (by decide) (by decide) ?_
        refine em_ic_ne (q_cod qk219 rfl) (by decide) hf (fun c8 hf => ?_) (fun c8 hf => ?_)
        · refine ev_aload_n (q_cod qk219 rfl) (by decide) rfl ?_
          refine em_gR (q_cod qk219 rfl) (by decide) (by decide) hf (fun r5 hf => ?_)
          refine ev_ic (v := 1) (q_cod qk219 rfl) (by decide) (by decide) ?_
          refine em_lI (q_cod qk219 rfl) (by decide) hf (fun v6 hf => ?_)
          refine ev_bi (v := 24) (q_cod qk219 rfl) (by decide) (by decide) ?_
          refine em_ic_ge (q_cod qk219 rfl) (by decide) hf (fun c7 hf => ?_) (fun c7 hf => ?_)
          · refine ev_ic (v := 1) (q_cod qk219 rfl) (by decide) (by decide) ?_
            refine ev_goto (q_cod qk219 rfl) (by decide) ?_
            exact (f219_221_ok hf hK)
          · exact (f219_220_ok hf hK)
        · exact (f219_220_ok hf hK)
def f219_167 (l0 : Nat) (l1 : Int32) (l2 : Int32) (l3 : Int32) (l4 : Int32) (l5 : Int32) (l6 : Int32) (l7 : Int32) (l8 : Int32) : m_M Int32 :=
  f219_168 l0 l1 l2 l3 l4 l5 l6 l7 l8 0
theorem f219_167_ok {l0 : Nat} {l1 : Int32} {l2 : Int32} {l3 : Int32} {l4 : Int32} {l5 : Int32} {l6 : Int32} {l7 : Int32} {l8 : Int32} {h : q_H} {o : q_O} {hz : q_H} {x : Int32 × q_H} (hf : f219_167 l0 l1 l2 l3 l4 l5 l6 l7 l8 h = some x) (hK : (q_KI o hz) x) : q_Ev none 219 167 [(0, .ref l0), (1, .int l1), (2, .int l2), (3, .int l3), (4, .int l4), (5, .int l5), (6, .int l6), (7, .int l7), (8, .int l8)] [] h o hz := by
  unfold f219_167 at hf
  refine ev_ic (v := 0) (q_cod qk219 rfl) (by decide) (by decide) ?_
  exact (f219_168_ok hf hK)
def f219_163 (l0 : Nat) (l1 : Int32) (l2 : Int32) (l3 : Int32) (l4 : Int32) (l5 : Int32) (l6 : Int32) (l7 : Int32) (l8 : Int32) : m_M Int32 :=
  f219_168 l0 l1 l2 l3 l4 l5 l6 l7 l8 1
theorem f219_163_ok {l0 : Nat} {l1 : Int32} {l2 : Int32} {l3 : Int32} {l4 : Int32} {l5 : Int32} {l6 : Int32} {l7 : Int32} {l8 : Int32} {h : q_H} {o : q_O} {hz : q_H} {x : Int32 × q_H} (hf : f219_163 l0 l1 l2 l3 l4 l5 l6 l7 l8 h = some x) (hK : (q_KI o hz) x) : q_Ev none 219 163 [(0, .ref l0), (1, .int l1), (2, .int l2), (3, .int l3), (4, .int l4), (5, .int l5), (6, .int l6), (7, .int l7), (8, .int l8)] [] h o hz := by
  unfold f219_163 at hf
  refine ev_ic (v := 1) (q_cod qk219 rfl) (by decide) (by decide) ?_
  refine ev_goto (q_cod qk219 rfl) (by decide) ?_
  exact (f219_168_ok hf hK)
def f219_138 (l0 : Nat) (l1 : Int32) (l2 : Int32) (l3 : Int32) (l4 : Int32) (l5 : Int32) (l6 : Int32) (l7 : Int32) (l8 : Int32) (s0 : Int32) : m_M Int32 :=
  if s0 = 0 then (f219_167 l0 l1 l2 l3 l4 l5 l6 l7 l8) else (if l8 < 2 then (f219_163 l0 l1 l2 l3 l4 l5 l6 l7 l8) else (if (l3 - l3 / 100 * 100) = (l4 - l4 / 100 * 100) then (f219_167 l0 l1 l2 l3 l4 l5 l6 l7 l8) else (f219_163 l0 l1 l2 l3 l4 l5 l6 l7 l8)))
theorem f219_138_ok {l0 : Nat} {l1 : Int32} {l2 : Int32} {l3 : Int32} {l4 : Int32} {l5 : Int32} {l6 : Int32} {l7 : Int32} {l8 : Int32} {s0 : Int32} {h : q_H} {o : q_O} {hz : q_H} {x : Int32 × q_H} (hf : f219_138 l0 l1 l2 l3 l4 l5 l6 l7 l8 s0 h = some x) (hK : (q_KI o hz) x) : q_Ev none 219 138 [(0, .ref l0), (1, .int l1), (2, .int l2), (3, .int l3), (4, .int l4), (5, .int l5), (6, .int l6), (7, .int l7), (8, .int l8)] [.int s0] h o hz := by
  unfold f219_138 at hf
  refine ev_is2 (L' := [(0, .ref l0), (1, .int l1), (2, .int l2), (3, .int l3), (4, .int l4), (5, .int l5), (6, .int l6), (7, .int l7), (8, .int l8), (9, .int s0)]) (q_cod qk219 rfl) (by decide) rfl ?_
  refine ev_iload (q_cod qk219 rfl) (by decide) rfl ?_
  refine em_if_eq (q_cod qk219 rfl) (by decide) hf (fun c3 hf => ?_) (fun c3 hf => ?_)
  · exact ev_weak (q_pk [0, 1, 2, 3, 4, 5, 6, 7, 8] rfl) (f219_167_ok hf hK)
  · refine ev_iload (q_cod qk219 rfl) (by decide) rfl ?_
    refine ev_ic (v := 2) (q_cod qk219 rfl) (by decide) (by decide) ?_
    refine em_ic_lt (q_cod qk219 rfl) (by decide) hf (fun c2 hf => ?_) (fun c2 hf => ?_)
    · exact ev_weak (q_pk [0, 1, 2, 3, 4, 5, 6, 7, 8] rfl) (f219_163_ok hf hK)
    · refine ev_iload_n (q_cod qk219 rfl) (by decide) rfl ?_
      refine ev_bi (v := 100) (q_cod qk219 rfl) (by decide) (by decide) ?_
      refine ev_irem (q_cod qk219 rfl) (by decide) (by decide) ?_
      refine ev_iload (q_cod qk219 rfl) (by decide) rfl ?_
      refine ev_bi (v := 100) (q_cod qk219 rfl) (by decide) (by decide) ?_
      refine ev_irem (q_cod qk219 rfl) (by decide) (by decide) ?_
      refine em_ic_eq (q_cod qk219 rfl) (by decide) hf (fun c1 hf => ?_) (fun c1 hf => ?_)
      · exact ev_weak (q_pk [0, 1, 2, 3, 4, 5, 6, 7, 8] rfl) (f219_167_ok hf hK)
      · exact ev_weak (q_pk [0, 1, 2, 3, 4, 5, 6, 7, 8] rfl) (f219_163_ok hf hK)
def f219_137 (l0 : Nat) (l1 : Int32) (l2 : Int32) (l3 : Int32) (l4 : Int32) (l5 : Int32) (l6 : Int32) (l7 : Int32) (l8 : Int32) : m_M Int32 :=
  f219_138 l0 l1 l2 l3 l4 l5 l6 l7 l8 0
theorem f219_137_ok {l0 : Nat} {l1 : Int32} {l2 : Int32} {l3 : Int32} {l4 : Int32} {l5 : Int32} {l6 : Int32} {l7 : Int32} {l8 : Int32} {h : q_H} {o : q_O} {hz : q_H} {x : Int32 × q_H} (hf : f219_137 l0 l1 l2 l3 l4 l5 l6 l7 l8 h = some x) (hK : (q_KI o hz) x) : q_Ev none 219 137 [(0, .ref l0), (1, .int l1), (2, .int l2), (3, .int l3), (4, .int l4), (5, .int l5), (6, .int l6), (7, .int l7), (8, .int l8)] [] h o hz := by
  unfold f219_137 at hf
  refine ev_ic (v := 0) (q_cod qk219 rfl) (by decide) (by decide) ?_
  exact (f219_138_ok hf hK)
def f219_133 (l0 : Nat) (l1 : Int32) (l2 : Int32) (l3 : Int32) (l4 : Int32) (l5 : Int32) (l6 : Int32) (l7 : Int32) (l8 : Int32) : m_M Int32 :=
  f219_138 l0 l1 l2 l3 l4 l5 l6 l7 l8 1
theorem f219_133_ok {l0 : Nat} {l1 : Int32} {l2 : Int32} {l3 : Int32} {l4 : Int32} {l5 : Int32} {l6 : Int32} {l7 : Int32} {l8 : Int32} {h : q_H} {o : q_O} {hz : q_H} {x : Int32 × q_H} (hf : f219_133 l0 l1 l2 l3 l4 l5 l6 l7 l8 h = some x) (hK : (q_KI o hz) x) : q_Ev none 219 133 [(0, .ref l0), (1, .int l1), (2, .int l2), (3, .int l3), (4, .int l4), (5, .int l5), (6, .int l6), (7, .int l7), (8, .int l8)] [] h o hz := by
  unfold f219_133 at hf
  refine ev_ic (v := 1) (q_cod qk219 rfl) (by decide) (by decide) ?_
  refine ev_goto (q_cod qk219 rfl) (by decide) ?_
  exact (f219_138_ok hf hK)
def f219_122 (l0 : Nat) (l1 : Int32) (l2 : Int32) (l3 : Int32) (l4 : Int32) (l5 : Int32) (l6 : Int32) (l7 : Int32) (l8 : Int32) : m_M Int32 :=
  if l4 = (-1) then (f219_133 l0 l1 l2 l3 l4 l5 l6 l7 l8) else (if l3 = (-1) then (f219_137 l0 l1 l2 l3 l4 l5 l6 l7 l8) else (f219_133 l0 l1 l2 l3 l4 l5 l6 l7 l8))
theorem f219_122_ok {l0 : Nat} {l1 : Int32} {l2 : Int32} {l3 : Int32} {l4 : Int32} {l5 : Int32} {l6 : Int32} {l7 : Int32} {l8 : Int32} {h : q_H} {o : q_O} {hz : q_H} {x : Int32 × q_H} (hf : f219_122 l0 l1 l2 l3 l4 l5 l6 l7 l8 h = some x) (hK : (q_KI o hz) x) : q_Ev none 219 122 [(0, .ref l0), (1, .int l1), (2, .int l2), (3, .int l3), (4, .int l4), (5, .int l5), (6, .int l6), (7, .int l7), (8, .int l8)] [] h o hz := by
  unfold f219_122 at hf
  refine ev_iload (q_cod qk219 rfl) (by decide) rfl ?_
  refine ev_ic (v := (-1)) (q_cod qk219 rfl) (by decide) (by decide) ?_
  refine em_ic_eq (q_cod qk219 rfl) (by decide) hf (fun c2 hf => ?_) (fun c2 hf => ?_)
  · exact (f219_133_ok hf hK)
  · refine ev_iload_n (q_cod qk219 rfl) (by decide) rfl ?_
    refine ev_ic (v := (-1)) (q_cod qk219 rfl) (by decide) (by decide) ?_
    refine em_ic_eq (q_cod qk219 rfl) (by decide) hf (fun c1 hf => ?_) (fun c1 hf => ?_)
    · exact (f219_137_ok hf hK)
    · exact (f219_133_ok hf hK)
def f219_106 (l0 : Nat) (l1 : Int32) (l2 : Int32) (l3 : Int32) (l4 : Int32) (l5 : Int32) (l6 : Int32) (l7 : Int32) (l8 : Int32) : m_M Int32 :=
  if l4 < 0 then (f219_122 l0 l1 l2 l3 l4 l5 l6 l7 l8) else (m_B (f180 (l4 - l4 / 100 * 100)) (fun v1 => if v1 = 0 then (f219_137 l0 l1 l2 l3 l4 l5 l6 l7 l8) else (f219_122 l0 l1 l2 l3 l4 l5 l6 l7 l8)))
theorem f219_106_ok {l0 : Nat} {l1 : Int32} {l2 : Int32} {l3 : Int32} {l4 : Int32} {l5 : Int32} {l6 : Int32} {l7 : Int32} {l8 : Int32} {h : q_H} {o : q_O} {hz : q_H} {x : Int32 × q_H} (hf : f219_106 l0 l1 l2 l3 l4 l5 l6 l7 l8 h = some x) (hK : (q_KI o hz) x) : q_Ev none 219 106 [(0, .ref l0), (1, .int l1), (2, .int l2), (3, .int l3), (4, .int l4), (5, .int l5), (6, .int l6), (7, .int l7), (8, .int l8)] [] h o hz := by
  unfold f219_106 at hf
  refine ev_iload (q_cod qk219 rfl) (by decide) rfl ?_
  refine em_if_lt (q_cod qk219 rfl) (by decide) hf (fun c3 hf => ?_) (fun c3 hf => ?_)
  · exact (f219_122_ok hf hK)
  · refine ev_iload (q_cod qk219 rfl) (by decide) rfl ?_
    refine ev_bi (v := 100) (q_cod qk219 rfl) (by decide) (by decide) ?_
    refine ev_irem (q_cod qk219 rfl) (by decide) (by decide) ?_
    refine em_call (v := (fun u => some (.int u))) (q_cod qk219 rfl) rfl rfl (q_cokS rfl rfl) rfl (fun x e => f180_cl e) hf (fun v1 h hf => ?_)
    refine em_if_eq (q_cod qk219 rfl) (by decide) hf (fun c2 hf => ?_) (fun c2 hf => ?_)
    · exact (f219_137_ok hf hK)
    · exact (f219_122_ok hf hK)
def f219_72 (l0 : Nat) (l1 : Int32) (l2 : Int32) (l3 : Int32) (l4 : Int32) (l5 : Int32) (l6 : Int32) (l7 : Int32) (s0 : Int32) : m_M Int32 :=
  m_B (f180 l2) (fun v1 => if v1 = 0 then (f219_137 l0 l1 l2 l3 l4 l5 l6 l7 s0) else (if l3 < (-1) then (f219_137 l0 l1 l2 l3 l4 l5 l6 l7 s0) else (if l4 < (-1) then (f219_137 l0 l1 l2 l3 l4 l5 l6 l7 s0) else (if l3 < 0 then (f219_106 l0 l1 l2 l3 l4 l5 l6 l7 s0) else (m_B (f180 (l3 - l3 / 100 * 100)) (fun v2 => if v2 = 0 then (f219_137 l0 l1 l2 l3 l4 l5 l6 l7 s0) else (f219_106 l0 l1 l2 l3 l4 l5 l6 l7 s0)))))))
theorem f219_72_ok {l0 : Nat} {l1 : Int32} {l2 : Int32} {l3 : Int32} {l4 : Int32} {l5 : Int32} {l6 : Int32} {l7 : Int32} {s0 : Int32} {h : q_H} {o : q_O} {hz : q_H} {x : Int32 × q_H} (hf : f219_72 l0 l1 l2 l3 l4 l5 l6 l7 s0 h = some x) (hK : (q_KI o hz) x) : q_Ev none 219 72 [(0, .ref l0), (1, .int l1), (2, .int l2), (3, .int l3), (4, .int l4), (5, .int l5), (6, .int l6), (7, .int l7)] [.int s0] h o hz := by
  unfold f219_72 at hf
  refine ev_is2 (L' := [(0, .ref l0), (1, .int l1), (2, .int l2), (3, .int l3), (4, .int l4), (5, .int l5), (6, .int l6), (7, .int l7), (8, .int s0)]) (q_cod qk219 rfl) (by decide) rfl ?_
  refine ev_iload_n (q_cod qk219 rfl) (by decide) rfl ?_
  refine em_call (v := (fun u => some (.int u))) (q_cod qk219 rfl) rfl rfl (q_cokS rfl rfl) rfl (fun x e => f180_cl e) hf (fun v1 h hf => ?_)
  refine em_if_eq (q_cod qk219 rfl) (by decide) hf (fun c7 hf => ?_) (fun c7 hf => ?_)
  · exact (f219_137_ok hf hK)
  · refine ev_iload_n (q_cod qk219 rfl) (by decide) rfl ?_
    refine ev_ic (v := (-1)) (q_cod qk219 rfl) (by decide) (by decide) ?_
    refine em_ic_lt (q_cod qk219 rfl) (by decide) hf (fun c6 hf => ?_) (fun c6 hf => ?_)
    · exact (f219_137_ok hf hK)
    · refine ev_iload (q_cod qk219 rfl) (by decide) rfl ?_
      refine ev_ic (v := (-1)) (q_cod qk219 rfl) (by decide) (by decide) ?_
      refine em_ic_lt (q_cod qk219 rfl) (by decide) hf (fun c5 hf => ?_) (fun c5 hf => ?_)
      · exact (f219_137_ok hf hK)
      · refine ev_iload_n (q_cod qk219 rfl) (by decide) rfl ?_
        refine em_if_lt (q_cod qk219 rfl) (by decide) hf (fun c4 hf => ?_) (fun c4 hf => ?_)
        · exact (f219_106_ok hf hK)
        · refine ev_iload_n (q_cod qk219 rfl) (by decide) rfl ?_
          refine ev_bi (v := 100) (q_cod qk219 rfl) (by decide) (by decide) ?_
          refine ev_irem (q_cod qk219 rfl) (by decide) (by decide) ?_
          refine em_call (v := (fun u => some (.int u))) (q_cod qk219 rfl) rfl rfl (q_cokS rfl rfl) rfl (fun x e => f180_cl e) hf (fun v2 h hf => ?_)
          refine em_if_eq (q_cod qk219 rfl) (by decide) hf (fun c3 hf => ?_) (fun c3 hf => ?_)
          · exact (f219_137_ok hf hK)
          · exact (f219_106_ok hf hK)
def f219_50 (l0 : Nat) (l1 : Int32) (l2 : Int32) (l3 : Int32) (l4 : Int32) (l5 : Int32) (l6 : Int32) (s0 : Int32) : m_M Int32 :=
  if l3 = (-1) then (f219_72 l0 l1 l2 l3 l4 l5 l6 s0 0) else (if l4 = (-1) then (f219_72 l0 l1 l2 l3 l4 l5 l6 s0 1) else (f219_72 l0 l1 l2 l3 l4 l5 l6 s0 2))
theorem f219_50_ok {l0 : Nat} {l1 : Int32} {l2 : Int32} {l3 : Int32} {l4 : Int32} {l5 : Int32} {l6 : Int32} {s0 : Int32} {h : q_H} {o : q_O} {hz : q_H} {x : Int32 × q_H} (hf : f219_50 l0 l1 l2 l3 l4 l5 l6 s0 h = some x) (hK : (q_KI o hz) x) : q_Ev none 219 50 [(0, .ref l0), (1, .int l1), (2, .int l2), (3, .int l3), (4, .int l4), (5, .int l5), (6, .int l6)] [.int s0] h o hz := by
  unfold f219_50 at hf
  refine ev_is2 (L' := [(0, .ref l0), (1, .int l1), (2, .int l2), (3, .int l3), (4, .int l4), (5, .int l5), (6, .int l6), (7, .int s0)]) (q_cod qk219 rfl) (by decide) rfl ?_
  refine ev_iload_n (q_cod qk219 rfl) (by decide) rfl ?_
  refine ev_ic (v := (-1)) (q_cod qk219 rfl) (by decide) (by decide) ?_
  refine em_ic_ne (q_cod qk219 rfl) (by decide) hf (fun c2 hf => ?_) (fun c2 hf => ?_)
  · refine ev_ic (v := 0) (q_cod qk219 rfl) (by decide) (by decide) ?_
    refine ev_goto (q_cod qk219 rfl) (by decide) ?_
    exact (f219_72_ok hf hK)
  · refine ev_iload (q_cod qk219 rfl) (by decide) rfl ?_
    refine ev_ic (v := (-1)) (q_cod qk219 rfl) (by decide) (by decide) ?_
    refine em_ic_ne (q_cod qk219 rfl) (by decide) hf (fun c1 hf => ?_) (fun c1 hf => ?_)
    · refine ev_ic (v := 1) (q_cod qk219 rfl) (by decide) (by decide) ?_
      refine ev_goto (q_cod qk219 rfl) (by decide) ?_
      exact (f219_72_ok hf hK)
    · refine ev_ic (v := 2) (q_cod qk219 rfl) (by decide) (by decide) ?_
      exact (f219_72_ok hf hK)
def f219_49 (l0 : Nat) (l1 : Int32) (l2 : Int32) (l3 : Int32) (l4 : Int32) (l5 : Int32) (l6 : Int32) : m_M Int32 :=
  f219_50 l0 l1 l2 l3 l4 l5 l6 0
theorem f219_49_ok {l0 : Nat} {l1 : Int32} {l2 : Int32} {l3 : Int32} {l4 : Int32} {l5 : Int32} {l6 : Int32} {h : q_H} {o : q_O} {hz : q_H} {x : Int32 × q_H} (hf : f219_49 l0 l1 l2 l3 l4 l5 l6 h = some x) (hK : (q_KI o hz) x) : q_Ev none 219 49 [(0, .ref l0), (1, .int l1), (2, .int l2), (3, .int l3), (4, .int l4), (5, .int l5), (6, .int l6)] [] h o hz := by
  unfold f219_49 at hf
  refine ev_ic (v := 0) (q_cod qk219 rfl) (by decide) (by decide) ?_
  exact (f219_50_ok hf hK)
def f219 (l0 : Nat) (l1 : Int32) (l2 : Int32) (l3 : Int32) (l4 : Int32) (l5 : Int32) (l6 : Int32) : m_M Int32 :=
  m_B (m_aK l0 12) (fun _ => m_B (f204 l0 0 l1) (fun v2 => if v2 = 0 then (f219_49 l0 l1 l2 l3 l4 l5 l6) else (m_B (m_aK l0 12) (fun _ => m_B (f205 l0 0 l5) (fun v4 => if v4 = 0 then (f219_49 l0 l1 l2 l3 l4 l5 l6) else (m_B (m_aK l0 12) (fun _ => m_B (f181 l0 l6) (fun v6 => if v6 = 0 then (f219_49 l0 l1 l2 l3 l4 l5 l6) else (m_B (m_aK l0 12) (fun _ => m_B (f218 l0 l3) (fun v8 => if v8 = 0 then (f219_49 l0 l1 l2 l3 l4 l5 l6) else (m_B (m_aK l0 12) (fun _ => m_B (f218 l0 l4) (fun v10 => if v10 = 0 then (f219_49 l0 l1 l2 l3 l4 l5 l6) else (f219_50 l0 l1 l2 l3 l4 l5 l6 1)))))))))))))))
theorem f219_ok {l0 : Nat} {l1 : Int32} {l2 : Int32} {l3 : Int32} {l4 : Int32} {l5 : Int32} {l6 : Int32} {h : q_H} {o : q_O} {hz : q_H} {x : Int32 × q_H} (hf : f219 l0 l1 l2 l3 l4 l5 l6 h = some x) (hK : (q_KI o hz) x) : q_Ev none 219 0 [(0, .ref l0), (1, .int l1), (2, .int l2), (3, .int l3), (4, .int l4), (5, .int l5), (6, .int l6)] [] h o hz := by
  unfold f219 at hf
  refine ev_aload_n (q_cod qk219 rfl) (by decide) rfl ?_
  refine ev_ic (v := 0) (q_cod qk219 rfl) (by decide) (by decide) ?_
  refine ev_iload_n (q_cod qk219 rfl) (by decide) rfl ?_
  obtain ⟨g1, hf⟩ := m_aK_some hf
  refine em_call (v := (fun u => some (.int u))) (q_cod qk219 rfl) rfl rfl (q_cokV rfl rfl (Or.inr g1)) rfl (fun x e => f204_cl e) hf (fun v2 h hf => ?_)
  refine em_if_eq (q_cod qk219 rfl) (by decide) hf (fun c15 hf => ?_) (fun c15 hf => ?_)
  · exact (f219_49_ok hf hK)
  · refine ev_aload_n (q_cod qk219 rfl) (by decide) rfl ?_
    refine ev_ic (v := 0) (q_cod qk219 rfl) (by decide) (by decide) ?_
    refine ev_iload (q_cod qk219 rfl) (by decide) rfl ?_
    obtain ⟨g3, hf⟩ := m_aK_some hf
    refine em_call (v := (fun u => some (.int u))) (q_cod qk219 rfl) rfl rfl (q_cokV rfl rfl (Or.inr g3)) rfl (fun x e => f205_cl e) hf (fun v4 h hf => ?_)
    refine em_if_eq (q_cod qk219 rfl) (by decide) hf (fun c14 hf => ?_) (fun c14 hf => ?_)
    · exact (f219_49_ok hf hK)
    · refine ev_aload_n (q_cod qk219 rfl) (by decide) rfl ?_
      refine ev_iload (q_cod qk219 rfl) (by decide) rfl ?_
      obtain ⟨g5, hf⟩ := m_aK_some hf
      refine em_call (v := (fun u => some (.int u))) (q_cod qk219 rfl) rfl rfl (q_cokV rfl rfl (Or.inr g5)) rfl (fun x e => f181_cl e) hf (fun v6 h hf => ?_)
      refine em_if_eq (q_cod qk219 rfl) (by decide) hf (fun c13 hf => ?_) (fun c13 hf => ?_)
      · exact (f219_49_ok hf hK)
      · refine ev_aload_n (q_cod qk219 rfl) (by decide) rfl ?_
        refine ev_iload_n (q_cod qk219 rfl) (by decide) rfl ?_
        obtain ⟨g7, hf⟩ := m_aK_some hf
        refine em_call (v := (fun u => some (.int u))) (q_cod qk219 rfl) rfl rfl (q_cokV rfl rfl (Or.inr g7)) rfl (fun x e => f218_cl e) hf (fun v8 h hf => ?_)
        refine em_if_eq (q_cod qk219 rfl) (by decide) hf (fun c12 hf => ?_) (fun c12 hf => ?_)
        · exact (f219_49_ok hf hK)
        · refine ev_aload_n (q_cod qk219 rfl) (by decide) rfl ?_
          refine ev_iload (q_cod qk219 rfl) (by decide) rfl ?_
          obtain ⟨g9, hf⟩ := m_aK_some hf
          refine em_call (v := (fun u => some (.int u))) (q_cod qk219 rfl) rfl rfl (q_cokV rfl rfl (Or.inr g9)) rfl (fun x e => f218_cl e) hf (fun v10 h hf => ?_)
          refine em_if_eq (q_cod qk219 rfl) (by decide) hf (fun c11 hf => ?_) (fun c11 hf => ?_)
          · exact (f219_49_ok hf hK)
          · refine ev_ic (v := 1) (q_cod qk219 rfl) (by decide) (by decide) ?_
            refine ev_goto (q_cod qk219 rfl) (by decide) ?_
            exact (f219_50_ok hf hK)
theorem f219_cl {l0 : Nat} {l1 : Int32} {l2 : Int32} {l3 : Int32} {l4 : Int32} {l5 : Int32} {l6 : Int32} {h : q_H} {x : Int32 × q_H} (hf : f219 l0 l1 l2 l3 l4 l5 l6 h = some x) : q_Cl 219 [.ref l0, .int l1, .int l2, .int l3, .int l4, .int l5, .int l6] h (.inl (some (.int x.1))) x.2 := q_Cl.of rfl (q_LvS rfl rfl) (f219_ok hf ⟨rfl, rfl⟩)
/-! SmithyBenchModel.parts(III)I -/
theorem qk222 : q_cs.getD 222 [] = qc_222 := rfl
def f222 (l0 : Nat) (l1 : Int32) (l2 : Int32) (l3 : Int32) : m_M Int32 :=
  m_B (m_aK l0 12) (fun _ => m_B (f199 l0 l1 l2 l3) (fun v2 => m_B (m_aK l0 12) (fun _ => m_B (f201 l0 l1 l2 l3) (fun v4 => m_B (f183 v2 v4) (fun v5 => m_R v5)))))
theorem f222_ok {l0 : Nat} {l1 : Int32} {l2 : Int32} {l3 : Int32} {h : q_H} {o : q_O} {hz : q_H} {x : Int32 × q_H} (hf : f222 l0 l1 l2 l3 h = some x) (hK : (q_KI o hz) x) : q_Ev none 222 0 [(0, .ref l0), (1, .int l1), (2, .int l2), (3, .int l3)] [] h o hz := by
  unfold f222 at hf
  refine ev_aload_n (q_cod qk222 rfl) (by decide) rfl ?_
  refine ev_iload_n (q_cod qk222 rfl) (by decide) rfl ?_
  refine ev_iload_n (q_cod qk222 rfl) (by decide) rfl ?_
  refine ev_iload_n (q_cod qk222 rfl) (by decide) rfl ?_
  obtain ⟨g1, hf⟩ := m_aK_some hf
  refine em_call (v := (fun u => some (.int u))) (q_cod qk222 rfl) rfl rfl (q_cokV rfl rfl (Or.inr g1)) rfl (fun x e => f199_cl e) hf (fun v2 h hf => ?_)
  refine ev_aload_n (q_cod qk222 rfl) (by decide) rfl ?_
  refine ev_iload_n (q_cod qk222 rfl) (by decide) rfl ?_
  refine ev_iload_n (q_cod qk222 rfl) (by decide) rfl ?_
  refine ev_iload_n (q_cod qk222 rfl) (by decide) rfl ?_
  obtain ⟨g3, hf⟩ := m_aK_some hf
  refine em_call (v := (fun u => some (.int u))) (q_cod qk222 rfl) rfl rfl (q_cokV rfl rfl (Or.inr g3)) rfl (fun x e => f201_cl e) hf (fun v4 h hf => ?_)
  refine em_call (v := (fun u => some (.int u))) (q_cod qk222 rfl) rfl rfl (q_cokS rfl rfl) rfl (fun x e => f183_cl e) hf (fun v5 h hf => ?_)
  obtain rfl := m_R_inv hf
  obtain ⟨rfl, rfl⟩ := (show q_KI o hz (v5, _) from hK)
  exact ev_ret (q_cod qk222 rfl) rfl
theorem f222_cl {l0 : Nat} {l1 : Int32} {l2 : Int32} {l3 : Int32} {h : q_H} {x : Int32 × q_H} (hf : f222 l0 l1 l2 l3 h = some x) : q_Cl 222 [.ref l0, .int l1, .int l2, .int l3] h (.inl (some (.int x.1))) x.2 := q_Cl.of rfl (q_LvS rfl rfl) (f222_ok hf ⟨rfl, rfl⟩)
/-! SmithyBenchModel.partAt(III)I -/
theorem qk223 : q_cs.getD 223 [] = qc_223 := rfl
def f223_38 (l4 : Int32) : m_M Int32 :=
  m_R l4
theorem f223_38_ok {l4 : Int32} {h : q_H} {o : q_O} {hz : q_H} {x : Int32 × q_H} (hf : f223_38 l4 h = some x) (hK : (q_KI o hz) x) : q_Ev none 223 38 [(4, .int l4)] [] h o hz := by
  unfold f223_38 at hf
  refine ev_iload (q_cod qk223 rfl) (by decide) rfl ?_
  obtain rfl := m_R_inv hf
  obtain ⟨rfl, rfl⟩ := (show q_KI o hz (l4, _) from hK)
  exact ev_ret (q_cod qk223 rfl) rfl
def f223_8b (l0 : Nat) (l1 : Int32) (l3 : Int32) (l4 : Int32) (l5 : Int32) : m_M ((Nat × Int32 × Int32 × Int32 × Int32) ⊕ Int32) :=
  if l5 < l3 then (m_B (m_gR 12 l0 10) (fun r1 => m_B (m_lI r1 ((192 * l1) + l4)) (fun v2 => m_R (.inl (l0, l1, l3, (l4 + v2), (l5 + 1)))))) else (m_B (f223_38 l4) (fun r => m_R (.inr r)))
theorem f223_8b_ok {l0 : Nat} {l1 : Int32} {l3 : Int32} {l4 : Int32} {l5 : Int32} {h : q_H} {o : q_O} {hz : q_H} {x : ((Nat × Int32 × Int32 × Int32 × Int32) ⊕ Int32) × q_H} (hf : f223_8b l0 l1 l3 l4 l5 h = some x) (hK : (m_yK (fun (s : Nat × Int32 × Int32 × Int32 × Int32) (h : q_H) => q_Ev none 223 8 [(0, .ref (s.1)), (1, .int (s.2.1)), (3, .int (s.2.2.1)), (4, .int (s.2.2.2.1)), (5, .int (s.2.2.2.2))] [] h o hz) (q_KI o hz)) x) : q_Ev none 223 8 [(0, .ref l0), (1, .int l1), (3, .int l3), (4, .int l4), (5, .int l5)] [] h o hz := by
  unfold f223_8b at hf
  refine ev_iload (q_cod qk223 rfl) (by decide) rfl ?_
  refine ev_iload_n (q_cod qk223 rfl) (by decide) rfl ?_
  refine em_ic_ge (q_cod qk223 rfl) (by decide) hf (fun c3 hf => ?_) (fun c3 hf => ?_)
  · refine ev_iload (q_cod qk223 rfl) (by decide) rfl ?_
    refine ev_aload_n (q_cod qk223 rfl) (by decide) rfl ?_
    refine em_gR (q_cod qk223 rfl) (by decide) (by decide) hf (fun r1 hf => ?_)
    refine ev_si (v := 192) (q_cod qk223 rfl) (by decide) (by decide) ?_
    refine ev_iload_n (q_cod qk223 rfl) (by decide) rfl ?_
    refine ev_imul (q_cod qk223 rfl) (by decide) ?_
    refine ev_iload (q_cod qk223 rfl) (by decide) rfl ?_
    refine ev_iadd (q_cod qk223 rfl) (by decide) ?_
    refine em_lI (q_cod qk223 rfl) (by decide) hf (fun v2 hf => ?_)
    refine ev_iadd (q_cod qk223 rfl) (by decide) ?_
    refine ev_is2 (L' := [(0, .ref l0), (1, .int l1), (3, .int l3), (4, .int (l4 + v2)), (5, .int l5)]) (q_cod qk223 rfl) (by decide) rfl ?_
    refine ev_inc (v := l5 + 1) (L' := [(0, .ref l0), (1, .int l1), (3, .int l3), (4, .int (l4 + v2)), (5, .int (l5 + 1))]) (q_cod qk223 rfl) (by decide) rfl rfl rfl ?_
    refine ev_goto (q_cod qk223 rfl) (by decide) ?_
    obtain rfl := m_R_inv hf
    exact (show q_Ev none 223 8 [(0, .ref l0), (1, .int l1), (3, .int l3), (4, .int (l4 + v2)), (5, .int (l5 + 1))] [] _ o hz from hK)
  · obtain ⟨y0, hf0, hx⟩ := m_inr_some hf
    subst hx
    exact ev_weak (q_pk [3] rfl) (f223_38_ok hf0 hK)
def f223_8 (l0 : Nat) (l1 : Int32) (l3 : Int32) (l4 : Int32) (l5 : Int32) : m_M Int32 := m_W (fun s => f223_8b (s.1) (s.2.1) (s.2.2.1) (s.2.2.2.1) (s.2.2.2.2)) 1000000 (l0, l1, l3, l4, l5)
theorem f223_8_ok {l0 : Nat} {l1 : Int32} {l3 : Int32} {l4 : Int32} {l5 : Int32} {h : q_H} {o : q_O} {hz : q_H} {x : Int32 × q_H} (hf : f223_8 l0 l1 l3 l4 l5 h = some x) (hK : (q_KI o hz) x) : q_Ev none 223 8 [(0, .ref l0), (1, .int l1), (3, .int l3), (4, .int l4), (5, .int l5)] [] h o hz :=
  m_W_ok (P := (fun (s : Nat × Int32 × Int32 × Int32 × Int32) (h : q_H) => q_Ev none 223 8 [(0, .ref (s.1)), (1, .int (s.2.1)), (3, .int (s.2.2.1)), (4, .int (s.2.2.2.1)), (5, .int (s.2.2.2.2))] [] h o hz)) (K := (q_KI o hz)) (fun s h x h1 h2 => f223_8b_ok h1 h2) _ (l0, l1, l3, l4, l5) _ _ hf hK
def f223 (l0 : Nat) (l1 : Int32) (l2 : Int32) (l3 : Int32) : m_M Int32 :=
  f223_8 l0 l1 l3 (l2 + 1) 0
theorem f223_ok {l0 : Nat} {l1 : Int32} {l2 : Int32} {l3 : Int32} {h : q_H} {o : q_O} {hz : q_H} {x : Int32 × q_H} (hf : f223 l0 l1 l2 l3 h = some x) (hK : (q_KI o hz) x) : q_Ev none 223 0 [(0, .ref l0), (1, .int l1), (2, .int l2), (3, .int l3)] [] h o hz := by
  unfold f223 at hf
  refine ev_iload_n (q_cod qk223 rfl) (by decide) rfl ?_
  refine ev_ic (v := 1) (q_cod qk223 rfl) (by decide) (by decide) ?_
  refine ev_iadd (q_cod qk223 rfl) (by decide) ?_
  refine ev_is2 (L' := [(0, .ref l0), (1, .int l1), (2, .int l2), (3, .int l3), (4, .int (l2 + 1))]) (q_cod qk223 rfl) (by decide) rfl ?_
  refine ev_ic (v := 0) (q_cod qk223 rfl) (by decide) (by decide) ?_
  refine ev_is2 (L' := [(0, .ref l0), (1, .int l1), (2, .int l2), (3, .int l3), (4, .int (l2 + 1)), (5, .int 0)]) (q_cod qk223 rfl) (by decide) rfl ?_
  exact ev_weak (q_pk [0, 1, 3, 4, 5] rfl) (f223_8_ok hf hK)
theorem f223_cl {l0 : Nat} {l1 : Int32} {l2 : Int32} {l3 : Int32} {h : q_H} {x : Int32 × q_H} (hf : f223 l0 l1 l2 l3 h = some x) : q_Cl 223 [.ref l0, .int l1, .int l2, .int l3] h (.inl (some (.int x.1))) x.2 := q_Cl.of rfl (q_LvS rfl rfl) (f223_ok hf ⟨rfl, rfl⟩)
