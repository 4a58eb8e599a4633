/-! SmithyBench.run(IIIIZ)I -/
theorem qk154 : q_cs.getD 154 [] = qc_154 := rfl
def f154_126  : m_M (Int32 ⊕ Nat) :=
  m_thr 1
theorem f154_126_ok  {h : q_H} {o : q_O} {hz : q_H} {x : (Int32 ⊕ Nat) × q_H} (hf : f154_126 h = some x) (hK : (q_KIX o hz) x) : q_Ev none 154 126 [] [] h o hz := by
  unfold f154_126 at hf
  cases hf
  obtain ⟨rfl, rfl⟩ := (show q_KIX o hz (.inr 1, q_ex1 _) from hK)
  exact em_throw (q_cod qk154 rfl) (by decide) (by decide) rfl (Nat.le_of_ble_eq_true rfl)
def f154_143 (l0 : Nat) (l1 : Int32) (l2 : Int32) (l3 : Int32) (l4 : Int32) (l6 : Nat) : m_M (Int32 ⊕ Nat) :=
  m_B (m_aK l0 11) (fun _ => m_T (f169 l0 l6) (fun _ => m_B (m_gR 11 l0 2) (fun r4 => m_B (m_aK r4 5) (fun _ => m_B (f44 r4 l6 l1 l2 l3 l4) (fun v6 => m_R (.inl v6))))) (fun E3 => m_B (m_G (E3 < 3)) (fun _ => m_R (.inr E3))))
theorem f154_143_ok {l0 : Nat} {l1 : Int32} {l2 : Int32} {l3 : Int32} {l4 : Int32} {l6 : Nat} {h : q_H} {o : q_O} {hz : q_H} {x : (Int32 ⊕ Nat) × q_H} (hf : f154_143 l0 l1 l2 l3 l4 l6 h = some x) (hK : (q_KIX o hz) x) : q_Ev none 154 143 [(0, .ref l0), (1, .int l1), (2, .int l2), (3, .int l3), (4, .int l4), (6, .ref l6)] [] h o hz := by
  unfold f154_143 at hf
  refine ev_aload_n (q_cod qk154 rfl) (by decide) rfl ?_
  refine ev_aload (q_cod qk154 rfl) (by decide) rfl ?_
  obtain ⟨g1, hf⟩ := m_aK_some hf
  refine em_callX (v := (fun _ => none)) (q_cod qk154 rfl) (by decide) (q_cokV rfl rfl (Or.inr g1)) rfl (fun x e => f169_cl e) rfl hf (fun _ h hf => ?_) (fun E3 h hf => ?_)
  · refine ev_aload_n (q_cod qk154 rfl) (by decide) rfl ?_
    refine em_gR (q_cod qk154 rfl) (by decide) (by decide) hf (fun r4 hf => ?_)
    refine ev_aload (q_cod qk154 rfl) (by decide) rfl ?_
    refine ev_iload_n (q_cod qk154 rfl) (by decide) rfl ?_
    refine ev_iload_n (q_cod qk154 rfl) (by decide) rfl ?_
    refine ev_iload_n (q_cod qk154 rfl) (by decide) rfl ?_
    refine ev_iload (q_cod qk154 rfl) (by decide) rfl ?_
    obtain ⟨g5, hf⟩ := m_aK_some hf
    refine em_call (v := (fun u => some (.int u))) (q_cod qk154 rfl) rfl rfl (q_cokV rfl rfl (Or.inr g5)) rfl (fun x e => f44_cl e) hf (fun v6 h hf => ?_)
    obtain rfl := m_R_inv hf
    obtain ⟨rfl, rfl⟩ := (show q_KIX o hz ((.inl v6), _) from hK)
    exact ev_ret (q_cod qk154 rfl) rfl
  · obtain ⟨g, hf⟩ := m_G_some hf
    obtain rfl := m_R_inv hf
    exact ⟨g, hK⟩
def f154_98b (l0 : Nat) (l1 : Int32) (l2 : Int32) (l3 : Int32) (l4 : Int32) (l6 : Nat) (l7 : Int32) : m_M ((Nat × Int32 × Int32 × Int32 × Int32 × Nat × Int32) ⊕ (Int32 ⊕ Nat)) :=
  m_B (m_gR 7 l6 5) (fun r1 => m_B (m_lI r1 l1) (fun v2 => if l7 < v2 then (m_B (m_gR 7 l6 7) (fun r3 => m_B (m_lI r3 ((l1 * 2) + l7)) (fun v4 => if v4 = (-1) then (m_R (.inl (l0, l1, l2, l3, l4, l6, (l7 + 1)))) else (m_B (f154_126) (fun r => m_R (.inr r)))))) else (m_B (f154_143 l0 l1 l2 l3 l4 l6) (fun r => m_R (.inr r)))))
theorem f154_98b_ok {l0 : Nat} {l1 : Int32} {l2 : Int32} {l3 : Int32} {l4 : Int32} {l6 : Nat} {l7 : Int32} {h : q_H} {o : q_O} {hz : q_H} {x : ((Nat × Int32 × Int32 × Int32 × Int32 × Nat × Int32) ⊕ (Int32 ⊕ Nat)) × q_H} (hf : f154_98b l0 l1 l2 l3 l4 l6 l7 h = some x) (hK : (m_yK (fun (s : Nat × Int32 × Int32 × Int32 × Int32 × Nat × Int32) (h : q_H) => q_Ev none 154 98 [(0, .ref (s.1)), (1, .int (s.2.1)), (2, .int (s.2.2.1)), (3, .int (s.2.2.2.1)), (4, .int (s.2.2.2.2.1)), (6, .ref (s.2.2.2.2.2.1)), (7, .int (s.2.2.2.2.2.2))] [] h o hz) (q_KIX o hz)) x) : q_Ev none 154 98 [(0, .ref l0), (1, .int l1), (2, .int l2), (3, .int l3), (4, .int l4), (6, .ref l6), (7, .int l7)] [] h o hz := by
  unfold f154_98b at hf
  refine ev_iload (q_cod qk154 rfl) (by decide) rfl ?_
  refine ev_aload (q_cod qk154 rfl) (by decide) rfl ?_
  refine em_gR (q_cod qk154 rfl) (by decide) (by decide) hf (fun r1 hf => ?_)
  refine ev_iload_n (q_cod qk154 rfl) (by decide) rfl ?_
  refine em_lI (q_cod qk154 rfl) (by decide) hf (fun v2 hf => ?_)
  refine em_ic_ge (q_cod qk154 rfl) (by decide) hf (fun c6 hf => ?_) (fun c6 hf => ?_)
  · refine ev_aload (q_cod qk154 rfl) (by decide) rfl ?_
    refine em_gR (q_cod qk154 rfl) (by decide) (by decide) hf (fun r3 hf => ?_)
    refine ev_iload_n (q_cod qk154 rfl) (by decide) rfl ?_
    refine ev_ic (v := 2) (q_cod qk154 rfl) (by decide) (by decide) ?_
    refine ev_imul (q_cod qk154 rfl) (by decide) ?_
    refine ev_iload (q_cod qk154 rfl) (by decide) rfl ?_
    refine ev_iadd (q_cod qk154 rfl) (by decide) ?_
    refine em_lI (q_cod qk154 rfl) (by decide) hf (fun v4 hf => ?_)
    refine ev_ic (v := (-1)) (q_cod qk154 rfl) (by decide) (by decide) ?_
    refine em_ic_eq (q_cod qk154 rfl) (by decide) hf (fun c5 hf => ?_) (fun c5 hf => ?_)
    · refine ev_inc (v := l7 + 1) (L' := [(0, .ref l0), (1, .int l1), (2, .int l2), (3, .int l3), (4, .int l4), (6, .ref l6), (7, .int (l7 + 1))]) (q_cod qk154 rfl) (by decide) rfl rfl rfl ?_
      refine ev_goto (q_cod qk154 rfl) (by decide) ?_
      obtain rfl := m_R_inv hf
      exact (show q_Ev none 154 98 [(0, .ref l0), (1, .int l1), (2, .int l2), (3, .int l3), (4, .int l4), (6, .ref l6), (7, .int (l7 + 1))] [] _ o hz from hK)
    · obtain ⟨y0, hf0, hx⟩ := m_inr_some hf
      subst hx
      exact ev_weak (q_pk [] rfl) (f154_126_ok hf0 hK)
  · obtain ⟨y0, hf0, hx⟩ := m_inr_some hf
    subst hx
    exact ev_weak (q_pk [0, 1, 2, 3, 4, 5] rfl) (f154_143_ok hf0 hK)
def f154_98 (l0 : Nat) (l1 : Int32) (l2 : Int32) (l3 : Int32) (l4 : Int32) (l6 : Nat) (l7 : Int32) : m_M (Int32 ⊕ Nat) := m_W (fun s => f154_98b (s.1) (s.2.1) (s.2.2.1) (s.2.2.2.1) (s.2.2.2.2.1) (s.2.2.2.2.2.1) (s.2.2.2.2.2.2)) 1000000 (l0, l1, l2, l3, l4, l6, l7)
theorem f154_98_ok {l0 : Nat} {l1 : Int32} {l2 : Int32} {l3 : Int32} {l4 : Int32} {l6 : Nat} {l7 : Int32} {h : q_H} {o : q_O} {hz : q_H} {x : (Int32 ⊕ Nat) × q_H} (hf : f154_98 l0 l1 l2 l3 l4 l6 l7 h = some x) (hK : (q_KIX o hz) x) : q_Ev none 154 98 [(0, .ref l0), (1, .int l1), (2, .int l2), (3, .int l3), (4, .int l4), (6, .ref l6), (7, .int l7)] [] h o hz :=
  m_W_ok (P := (fun (s : Nat × Int32 × Int32 × Int32 × Int32 × Nat × Int32) (h : q_H) => q_Ev none 154 98 [(0, .ref (s.1)), (1, .int (s.2.1)), (2, .int (s.2.2.1)), (3, .int (s.2.2.2.1)), (4, .int (s.2.2.2.2.1)), (6, .ref (s.2.2.2.2.2.1)), (7, .int (s.2.2.2.2.2.2))] [] h o hz)) (K := (q_KIX o hz)) (fun s h x h1 h2 => f154_98b_ok h1 h2) _ (l0, l1, l2, l3, l4, l6, l7) _ _ hf hK
def f154_39 (l0 : Nat) (l1 : Int32) (l2 : Int32) (l3 : Int32) (l4 : Int32) (s0 : Nat) : m_M (Int32 ⊕ Nat) :=
  m_B (m_aK l0 11) (fun _ => m_T (f165 l0 s0 l1) (fun _ => m_B (m_aK s0 7) (fun _ => m_B (f78 s0 l2) (fun v5 => if v5 = 0 then (m_thr 2) else (m_B (m_gR 7 s0 3) (fun r6 => m_B (m_lI r6 l1) (fun v7 => m_B (m_aK s0 7) (fun _ => m_B (f82 s0 l2 v7) (fun v9 => if v9 = 0 then (m_thr 1) else (f154_98 l0 l1 l2 l3 l4 s0 0))))))))) (fun E3 => m_B (m_G (E3 < 3)) (fun _ => m_R (.inr E3))))
theorem f154_39_ok {l0 : Nat} {l1 : Int32} {l2 : Int32} {l3 : Int32} {l4 : Int32} {s0 : Nat} {h : q_H} {o : q_O} {hz : q_H} {x : (Int32 ⊕ Nat) × q_H} (hf : f154_39 l0 l1 l2 l3 l4 s0 h = some x) (hK : (q_KIX o hz) x) : q_Ev none 154 39 [(0, .ref l0), (1, .int l1), (2, .int l2), (3, .int l3), (4, .int l4)] [.ref s0] h o hz := by
  unfold f154_39 at hf
  refine ev_as2 (L' := [(0, .ref l0), (1, .int l1), (2, .int l2), (3, .int l3), (4, .int l4), (6, .ref s0)]) (q_cod qk154 rfl) (by decide) rfl ?_
  refine ev_aload_n (q_cod qk154 rfl) (by decide) rfl ?_
  refine ev_aload (q_cod qk154 rfl) (by decide) rfl ?_
  refine ev_iload_n (q_cod qk154 rfl) (by decide) rfl ?_
  obtain ⟨g1, hf⟩ := m_aK_some hf
  refine em_callX (v := (fun _ => none)) (q_cod qk154 rfl) (by decide) (q_cokV rfl rfl (Or.inr g1)) rfl (fun x e => f165_cl e) rfl hf (fun _ h hf => ?_) (fun E3 h hf => ?_)
  · refine ev_aload (q_cod qk154 rfl) (by decide) rfl ?_
    refine ev_iload_n (q_cod qk154 rfl) (by decide) rfl ?_
    obtain ⟨g4, hf⟩ := m_aK_some hf
    refine em_call (v := (fun u => some (.int u))) (q_cod qk154 rfl) rfl rfl (q_cokV rfl rfl (Or.inr g4)) rfl (fun x e => f78_cl e) hf (fun v5 h hf => ?_)
    refine em_if_ne (q_cod qk154 rfl) (by decide) hf (fun c11 hf => ?_) (fun c11 hf => ?_)
    · cases hf
      obtain ⟨rfl, rfl⟩ := (show q_KIX o hz (.inr 2, q_ex1 _) from hK)
      exact em_throw (q_cod qk154 rfl) (by decide) (by decide) rfl (Nat.le_of_ble_eq_true rfl)
    · refine ev_aload (q_cod qk154 rfl) (by decide) rfl ?_
      refine ev_iload_n (q_cod qk154 rfl) (by decide) rfl ?_
      refine ev_aload (q_cod qk154 rfl) (by decide) rfl ?_
      refine em_gR (q_cod qk154 rfl) (by decide) (by decide) hf (fun r6 hf => ?_)
      refine ev_iload_n (q_cod qk154 rfl) (by decide) rfl ?_
      refine em_lI (q_cod qk154 rfl) (by decide) hf (fun v7 hf => ?_)
      obtain ⟨g8, hf⟩ := m_aK_some hf
      refine em_call (v := (fun u => some (.int u))) (q_cod qk154 rfl) rfl rfl (q_cokV rfl rfl (Or.inr g8)) rfl (fun x e => f82_cl e) hf (fun v9 h hf => ?_)
      refine em_if_ne (q_cod qk154 rfl) (by decide) hf (fun c10 hf => ?_) (fun c10 hf => ?_)
      · cases hf
        obtain ⟨rfl, rfl⟩ := (show q_KIX o hz (.inr 1, q_ex1 _) from hK)
        exact em_throw (q_cod qk154 rfl) (by decide) (by decide) rfl (Nat.le_of_ble_eq_true rfl)
      · refine ev_ic (v := 0) (q_cod qk154 rfl) (by decide) (by decide) ?_
        refine ev_is2 (L' := [(0, .ref l0), (1, .int l1), (2, .int l2), (3, .int l3), (4, .int l4), (6, .ref s0), (7, .int 0)]) (q_cod qk154 rfl) (by decide) rfl ?_
        exact (f154_98_ok hf hK)
  · obtain ⟨g, hf⟩ := m_G_some hf
    obtain rfl := m_R_inv hf
    exact ⟨g, hK⟩
def f154_23 (l0 : Nat) (l1 : Int32) (l2 : Int32) (l3 : Int32) (l4 : Int32) (l5 : Int32) : m_M (Int32 ⊕ Nat) :=
  if l5 = 0 then (m_B (m_gR 11 l0 10) (fun r1 => f154_39 l0 l1 l2 l3 l4 r1)) else (m_B (m_gR 11 l0 8) (fun r2 => f154_39 l0 l1 l2 l3 l4 r2))
theorem f154_23_ok {l0 : Nat} {l1 : Int32} {l2 : Int32} {l3 : Int32} {l4 : Int32} {l5 : Int32} {h : q_H} {o : q_O} {hz : q_H} {x : (Int32 ⊕ Nat) × q_H} (hf : f154_23 l0 l1 l2 l3 l4 l5 h = some x) (hK : (q_KIX o hz) x) : q_Ev none 154 23 [(0, .ref l0), (1, .int l1), (2, .int l2), (3, .int l3), (4, .int l4), (5, .int l5)] [] h o hz := by
  unfold f154_23 at hf
  refine ev_iload (q_cod qk154 rfl) (by decide) rfl ?_
  refine em_if_eq (q_cod qk154 rfl) (by decide) hf (fun c3 hf => ?_) (fun c3 hf => ?_)
  · refine ev_aload_n (q_cod qk154 rfl) (by decide) rfl ?_
    refine em_gR (q_cod qk154 rfl) (by decide) (by decide) hf (fun r1 hf => ?_)
    exact ev_weak (q_pk [0, 1, 2, 3, 4] rfl) (f154_39_ok hf hK)
  · refine ev_aload_n (q_cod qk154 rfl) (by decide) rfl ?_
    refine em_gR (q_cod qk154 rfl) (by decide) (by decide) hf (fun r2 hf => ?_)
    refine ev_goto (q_cod qk154 rfl) (by decide) ?_
    exact ev_weak (q_pk [0, 1, 2, 3, 4] rfl) (f154_39_ok hf hK)
def f154 (l0 : Nat) (l1 : Int32) (l2 : Int32) (l3 : Int32) (l4 : Int32) (l5 : Int32) : m_M (Int32 ⊕ Nat) :=
  if l5 = 0 then (f154_23 l0 l1 l2 l3 l4 l5) else (m_B (m_gI 11 l0 12) (fun v1 => if v1 = 0 then (m_thr 0) else (f154_23 l0 l1 l2 l3 l4 l5)))
theorem f154_ok {l0 : Nat} {l1 : Int32} {l2 : Int32} {l3 : Int32} {l4 : Int32} {l5 : Int32} {h : q_H} {o : q_O} {hz : q_H} {x : (Int32 ⊕ Nat) × q_H} (hf : f154 l0 l1 l2 l3 l4 l5 h = some x) (hK : (q_KIX o hz) x) : q_Ev none 154 0 [(0, .ref l0), (1, .int l1), (2, .int l2), (3, .int l3), (4, .int l4), (5, .int l5)] [] h o hz := by
  unfold f154 at hf
  refine ev_iload (q_cod qk154 rfl) (by decide) rfl ?_
  refine em_if_eq (q_cod qk154 rfl) (by decide) hf (fun c3 hf => ?_) (fun c3 hf => ?_)
  · exact (f154_23_ok hf hK)
  · refine ev_aload_n (q_cod qk154 rfl) (by decide) rfl ?_
    refine em_gI (q_cod qk154 rfl) (by decide) (by decide) hf (fun v1 hf => ?_)
    refine em_if_ne (q_cod qk154 rfl) (by decide) hf (fun c2 hf => ?_) (fun c2 hf => ?_)
    · cases hf
      obtain ⟨rfl, rfl⟩ := (show q_KIX o hz (.inr 0, q_ex1 _) from hK)
      exact em_throw (q_cod qk154 rfl) (by decide) (by decide) rfl (Nat.le_of_ble_eq_true rfl)
    · exact (f154_23_ok hf hK)
theorem f154_cl {l0 : Nat} {l1 : Int32} {l2 : Int32} {l3 : Int32} {l4 : Int32} {l5 : Int32} {h : q_H} {x : (Int32 ⊕ Nat) × q_H} (hf : f154 l0 l1 l2 l3 l4 l5 h = some x) : q_Cl 154 [.ref l0, .int l1, .int l2, .int l3, .int l4, .int l5] h (q_oX (fun u => some (.int u)) x.1) x.2 := q_Cl.of rfl (q_LvS rfl rfl) (f154_ok hf ⟨rfl, rfl⟩)
/-! SmithyBench.value()I -/
theorem qk155 : q_cs.getD 155 [] = qc_155 := rfl
def f155 (l0 : Nat) : m_M Int32 :=
  m_B (m_gR 11 l0 2) (fun r1 => m_B (m_gI 5 r1 17) (fun v2 => m_R v2))
theorem f155_ok {l0 : Nat} {h : q_H} {o : q_O} {hz : q_H} {x : Int32 × q_H} (hf : f155 l0 h = some x) (hK : (q_KI o hz) x) : q_Ev none 155 0 [(0, .ref l0)] [] h o hz := by
  unfold f155 at hf
  refine ev_aload_n (q_cod qk155 rfl) (by decide) rfl ?_
  refine em_gR (q_cod qk155 rfl) (by decide) (by decide) hf (fun r1 hf => ?_)
  refine em_gI (q_cod qk155 rfl) (by decide) (by decide) hf (fun v2 hf => ?_)
  obtain rfl := m_R_inv hf
  obtain ⟨rfl, rfl⟩ := (show q_KI o hz (v2, _) from hK)
  exact ev_ret (q_cod qk155 rfl) rfl
theorem f155_cl {l0 : Nat} {h : q_H} {x : Int32 × q_H} (hf : f155 l0 h = some x) : q_Cl 155 [.ref l0] h (.inl (some (.int x.1))) x.2 := q_Cl.of rfl (q_LvS rfl rfl) (f155_ok hf ⟨rfl, rfl⟩)
/-! SmithyBench.steps()I -/
theorem qk156 : q_cs.getD 156 [] = qc_156 := rfl
def f156 (l0 : Nat) : m_M Int32 :=
  m_B (m_gR 11 l0 2) (fun r1 => m_B (m_gI 5 r1 15) (fun v2 => m_R v2))
theorem f156_ok {l0 : Nat} {h : q_H} {o : q_O} {hz : q_H} {x : Int32 × q_H} (hf : f156 l0 h = some x) (hK : (q_KI o hz) x) : q_Ev none 156 0 [(0, .ref l0)] [] h o hz := by
  unfold f156 at hf
  refine ev_aload_n (q_cod qk156 rfl) (by decide) rfl ?_
  refine em_gR (q_cod qk156 rfl) (by decide) (by decide) hf (fun r1 hf => ?_)
  refine em_gI (q_cod qk156 rfl) (by decide) (by decide) hf (fun v2 hf => ?_)
  obtain rfl := m_R_inv hf
  obtain ⟨rfl, rfl⟩ := (show q_KI o hz (v2, _) from hK)
  exact ev_ret (q_cod qk156 rfl) rfl
theorem f156_cl {l0 : Nat} {h : q_H} {x : Int32 × q_H} (hf : f156 l0 h = some x) : q_Cl 156 [.ref l0] h (.inl (some (.int x.1))) x.2 := q_Cl.of rfl (q_LvS rfl rfl) (f156_ok hf ⟨rfl, rfl⟩)
/-! SmithyBenchModel.<init>()V -/
theorem qk176 : q_cs.getD 176 [] = qc_176 := rfl
def f176 (l0 : Nat) : m_M Unit :=
  m_B (m_nA 20 (Int32.ofNat 184600)) (fun r1 => m_B (m_pR 12 l0 1 r1) (fun _ => m_B (m_nA 20 150) (fun r2 => m_B (m_pR 12 l0 5 r2) (fun _ => m_B (m_nA 20 150) (fun r3 => m_B (m_pR 12 l0 6 r3) (fun _ => m_B (m_nA 20 150) (fun r4 => m_B (m_pR 12 l0 7 r4) (fun _ => m_B (m_nA 20 450) (fun r5 => m_B (m_pR 12 l0 8 r5) (fun _ => m_B (m_nA 20 150) (fun r6 => m_B (m_pR 12 l0 9 r6) (fun _ => m_B (m_nA 20 4608) (fun r7 => m_B (m_pR 12 l0 10 r7) (fun _ => m_B (m_nA 20 4608) (fun r8 => m_B (m_pR 12 l0 11 r8) (fun _ => m_B (m_nA 20 4608) (fun r9 => m_B (m_pR 12 l0 12 r9) (fun _ => m_B (m_nA 20 4608) (fun r10 => m_B (m_pR 12 l0 13 r10) (fun _ => m_B (m_nA 20 400) (fun r11 => m_B (m_pR 12 l0 14 r11) (fun _ => m_B (m_nA 20 21) (fun r12 => m_B (m_pR 12 l0 16 r12) (fun _ => m_B (m_nA 20 21) (fun r13 => m_B (m_pR 12 l0 17 r13) (fun _ => m_B (m_nA 20 4074) (fun r14 => m_B (m_pR 12 l0 18 r14) (fun _ => m_B (m_nA 20 4074) (fun r15 => m_B (m_pR 12 l0 19 r15) (fun _ => m_B (m_nA 20 1400) (fun r16 => m_B (m_pR 12 l0 21 r16) (fun _ => m_B (m_nA 20 1400) (fun r17 => m_B (m_pR 12 l0 22 r17) (fun _ => m_B (m_nA 20 1400) (fun r18 => m_B (m_pR 12 l0 23 r18) (fun _ => m_B (m_nA 20 1400) (fun r19 => m_B (m_pR 12 l0 24 r19) (fun _ => m_B (m_nA 20 1400) (fun r20 => m_B (m_pR 12 l0 25 r20) (fun _ => m_B (m_nA 20 4000) (fun r21 => m_B (m_pR 12 l0 27 r21) (fun _ => m_B (m_nA 20 4000) (fun r22 => m_B (m_pR 12 l0 28 r22) (fun _ => m_B (m_nA 20 520) (fun r23 => m_B (m_pR 12 l0 30 r23) (fun _ => m_B (m_nA 20 8320) (fun r24 => m_B (m_pR 12 l0 31 r24) (fun _ => m_B (m_nA 20 8320) (fun r25 => m_B (m_pR 12 l0 32 r25) (fun _ => m_B (m_nA 21 24) (fun r26 => m_B (m_pR 12 l0 36 r26) (fun _ => m_B (m_nA 21 24) (fun r27 => m_B (m_pR 12 l0 37 r27) (fun _ => m_B (m_nA 20 400) (fun r28 => m_B (m_pR 12 l0 39 r28) (fun _ => m_B (m_nA 20 400) (fun r29 => m_B (m_pR 12 l0 40 r29) (fun _ => m_B (m_nA 20 400) (fun r30 => m_B (m_pR 12 l0 41 r30) (fun _ => m_B (m_nA 20 64) (fun r31 => m_B (m_pR 12 l0 43 r31) (fun _ => m_B (m_nA 20 64) (fun r32 => m_B (m_pR 12 l0 45 r32) (fun _ => m_B (m_nA 20 200) (fun r33 => m_B (m_pR 12 l0 46 r33) (fun _ => m_R ()))))))))))))))))))))))))))))))))))))))))))))))))))))))))))))))))))
theorem f176_ok {l0 : Nat} {h : q_H} {o : q_O} {hz : q_H} {x : Unit × q_H} (hf : f176 l0 h = some x) (hK : (m_KU o hz) x) : q_Ev none 176 0 [(0, .ref l0)] [] h o hz := by
  unfold f176 at hf
  refine ev_aload_n (q_cod qk176 rfl) (by decide) rfl ?_
  refine ev_objinit (q_cod qk176 rfl) (Nat.le_of_ble_eq_true rfl) ?_
  refine ev_aload_n (q_cod qk176 rfl) (by decide) rfl ?_
  refine ev_ldc (q_cod qk176 rfl) ?_
  refine em_nI (q_cod qk176 rfl) (by decide) hf (fun r1 h hf => ?_)
  refine em_pR (q_cod qk176 rfl) (by decide) (by decide) (by decide) hf (fun hf => ?_)
  refine ev_aload_n (q_cod qk176 rfl) (by decide) rfl ?_
  refine ev_si (v := 150) (q_cod qk176 rfl) (by decide) (by decide) ?_
  refine em_nI (q_cod qk176 rfl) (by decide) hf (fun r2 h hf => ?_)
  refine em_pR (q_cod qk176 rfl) (by decide) (by decide) (by decide) hf (fun hf => ?_)
  refine ev_aload_n (q_cod qk176 rfl) (by decide) rfl ?_
  refine ev_si (v := 150) (q_cod qk176 rfl) (by decide) (by decide) ?_
  refine em_nI (q_cod qk176 rfl) (by decide) hf (fun r3 h hf => ?_)
  refine em_pR (q_cod qk176 rfl) (by decide) (by decide) (by decide) hf (fun hf => ?_)
  refine ev_aload_n (q_cod qk176 rfl) (by decide) rfl ?_
  refine ev_si (v := 150) (q_cod qk176 rfl) (by decide) (by decide) ?_
  refine em_nI (q_cod qk176 rfl) (by decide) hf (fun r4 h hf => ?_)
  refine em_pR (q_cod qk176 rfl) (by decide) (by decide) (by decide) hf (fun hf => ?_)
  refine ev_aload_n (q_cod qk176 rfl) (by decide) rfl ?_
  refine ev_si (v := 450) (q_cod qk176 rfl) (by decide) (by decide) ?_
  refine em_nI (q_cod qk176 rfl) (by decide) hf (fun r5 h hf => ?_)
  refine em_pR (q_cod qk176 rfl) (by decide) (by decide) (by decide) hf (fun hf => ?_)
  refine ev_aload_n (q_cod qk176 rfl) (by decide) rfl ?_
  refine ev_si (v := 150) (q_cod qk176 rfl) (by decide) (by decide) ?_
  refine em_nI (q_cod qk176 rfl) (by decide) hf (fun r6 h hf => ?_)
  refine em_pR (q_cod qk176 rfl) (by decide) (by decide) (by decide) hf (fun hf => ?_)
  refine ev_aload_n (q_cod qk176 rfl) (by decide) rfl ?_
  refine ev_si (v := 4608) (q_cod qk176 rfl) (by decide) (by decide) ?_
  refine em_nI (q_cod qk176 rfl) (by decide) hf (fun r7 h hf => ?_)
  refine em_pR (q_cod qk176 rfl) (by decide) (by decide) (by decide) hf (fun hf => ?_)
  refine ev_aload_n (q_cod qk176 rfl) (by decide) rfl ?_
  refine ev_si (v := 4608) (q_cod qk176 rfl) (by decide) (by decide) ?_
  refine em_nI (q_cod qk176 rfl) (by decide) hf (fun r8 h hf => ?_)
  refine em_pR (q_cod qk176 rfl) (by decide) (by decide) (by decide) hf (fun hf => ?_)
  refine ev_aload_n (q_cod qk176 rfl) (by decide) rfl ?_
  refine ev_si (v := 4608) (q_cod qk176 rfl) (by decide) (by decide) ?_
  refine em_nI (q_cod qk176 rfl) (by decide) hf (fun r9 h hf => ?_)
  refine em_pR (q_cod qk176 rfl) (by decide) (by decide) (by decide) hf (fun hf => ?_)
  refine ev_aload_n (q_cod qk176 rfl) (by decide) rfl ?_
  refine ev_si (v := 4608) (q_cod qk176 rfl) (by decide) (by decide) ?_
  refine em_nI (q_cod qk176 rfl) (by decide) hf (fun r10 h hf => ?_)
  refine em_pR (q_cod qk176 rfl) (by decide) (by decide) (by decide) hf (fun hf => ?_)
  refine ev_aload_n (q_cod qk176 rfl) (by decide) rfl ?_
  refine ev_si (v := 400) (q_cod qk176 rfl) (by decide) (by decide) ?_
  refine em_nI (q_cod qk176 rfl) (by decide) hf (fun r11 h hf => ?_)
  refine em_pR (q_cod qk176 rfl) (by decide) (by decide) (by decide) hf (fun hf => ?_)
  refine ev_aload_n (q_cod qk176 rfl) (by decide) rfl ?_
  refine ev_bi (v := 21) (q_cod qk176 rfl) (by decide) (by decide) ?_
  refine em_nI (q_cod qk176 rfl) (by decide) hf (fun r12 h hf => ?_)
  refine em_pR (q_cod qk176 rfl) (by decide) (by decide) (by decide) hf (fun hf => ?_)
  refine ev_aload_n (q_cod qk176 rfl) (by decide) rfl ?_
  refine ev_bi (v := 21) (q_cod qk176 rfl) (by decide) (by decide) ?_
  refine em_nI (q_cod qk176 rfl) (by decide) hf (fun r13 h hf => ?_)
  refine em_pR (q_cod qk176 rfl) (by decide) (by decide) (by decide) hf (fun hf => ?_)
  refine ev_aload_n (q_cod qk176 rfl) (by decide) rfl ?_
  refine ev_si (v := 4074) (q_cod qk176 rfl) (by decide) (by decide) ?_
  refine em_nI (q_cod qk176 rfl) (by decide) hf (fun r14 h hf => ?_)
  refine em_pR (q_cod qk176 rfl) (by decide) (by decide) (by decide) hf (fun hf => ?_)
  refine ev_aload_n (q_cod qk176 rfl) (by decide) rfl ?_
  refine ev_si (v := 4074) (q_cod qk176 rfl) (by decide) (by decide) ?_
  refine em_nI (q_cod qk176 rfl) (by decide) hf (fun r15 h hf => ?_)
  refine em_pR (q_cod qk176 rfl) (by decide) (by decide) (by decide) hf (fun hf => ?_)
  refine ev_aload_n (q_cod qk176 rfl) (by decide) rfl ?_
  refine ev_si (v := 1400) (q_cod qk176 rfl) (by decide) (by decide) ?_
  refine em_nI (q_cod qk176 rfl) (by decide) hf (fun r16 h hf => ?_)
  refine em_pR (q_cod qk176 rfl) (by decide) (by decide) (by decide) hf (fun hf => ?_)
  refine ev_aload_n (q_cod qk176 rfl) (by decide) rfl ?_
  refine ev_si (v := 1400) (q_cod qk176 rfl) (by decide) (by decide) ?_
  refine em_nI (q_cod qk176 rfl) (by decide) hf (fun r17 h hf => ?_)
  refine em_pR (q_cod qk176 rfl) (by decide) (by decide) (by decide) hf (fun hf => ?_)
  refine ev_aload_n (q_cod qk176 rfl) (by decide) rfl ?_
  refine ev_si (v := 1400) (q_cod qk176 rfl) (by decide) (by decide) ?_
  refine em_nI (q_cod qk176 rfl) (by decide) hf (fun r18 h hf => ?_)
  refine em_pR (q_cod qk176 rfl) (by decide) (by decide) (by decide) hf (fun hf => ?_)
  refine ev_aload_n (q_cod qk176 rfl) (by decide) rfl ?_
  refine ev_si (v := 1400) (q_cod qk176 rfl) (by decide) (by decide) ?_
  refine em_nI (q_cod qk176 rfl) (by decide) hf (fun r19 h hf => ?_)
  refine em_pR (q_cod qk176 rfl) (by decide) (by decide) (by decide) hf (fun hf => ?_)
  refine ev_aload_n (q_cod qk176 rfl) (by decide) rfl ?_
  refine ev_si (v := 1400) (q_cod qk176 rfl) (by decide) (by decide) ?_
  refine em_nI (q_cod qk176 rfl) (by decide) hf (fun r20 h hf => ?_)
  refine em_pR (q_cod qk176 rfl) (by decide) (by decide) (by decide) hf (fun hf => ?_)
  refine ev_aload_n (q_cod qk176 rfl) (by decide) rfl ?_
  refine ev_si (v := 4000) (q_cod qk176 rfl) (by decide) (by decide) ?_
  refine em_nI (q_cod qk176 rfl) (by decide) hf (fun r21 h hf => ?_)
  refine em_pR (q_cod qk176 rfl) (by decide) (by decide) (by decide) hf (fun hf => ?_)
  refine ev_aload_n (q_cod qk176 rfl) (by decide) rfl ?_
  refine ev_si (v := 4000) (q_cod qk176 rfl) (by decide) (by decide) ?_
  refine em_nI (q_cod qk176 rfl) (by decide) hf (fun r22 h hf => ?_)
  refine em_pR (q_cod qk176 rfl) (by decide) (by decide) (by decide) hf (fun hf => ?_)
  refine ev_aload_n (q_cod qk176 rfl) (by decide) rfl ?_
  refine ev_si (v := 520) (q_cod qk176 rfl) (by decide) (by decide) ?_
  refine em_nI (q_cod qk176 rfl) (by decide) hf (fun r23 h hf => ?_)
  refine em_pR (q_cod qk176 rfl) (by decide) (by decide) (by decide) hf (fun hf => ?_)
  refine ev_aload_n (q_cod qk176 rfl) (by decide) rfl ?_
  refine ev_si (v := 8320) (q_cod qk176 rfl) (by decide) (by decide) ?_
  refine em_nI (q_cod qk176 rfl) (by decide) hf (fun r24 h hf => ?_)
  refine em_pR (q_cod qk176 rfl) (by decide) (by decide) (by decide) hf (fun hf => ?_)
  refine ev_aload_n (q_cod qk176 rfl) (by decide) rfl ?_
  refine ev_si (v := 8320) (q_cod qk176 rfl) (by decide) (by decide) ?_
  refine em_nI (q_cod qk176 rfl) (by decide) hf (fun r25 h hf => ?_)
  refine em_pR (q_cod qk176 rfl) (by decide) (by decide) (by decide) hf (fun hf => ?_)
  refine ev_aload_n (q_cod qk176 rfl) (by decide) rfl ?_
  refine ev_bi (v := 24) (q_cod qk176 rfl) (by decide) (by decide) ?_
  refine em_nZ (q_cod qk176 rfl) (by decide) hf (fun r26 h hf => ?_)
  refine em_pR (q_cod qk176 rfl) (by decide) (by decide) (by decide) hf (fun hf => ?_)
  refine ev_aload_n (q_cod qk176 rfl) (by decide) rfl ?_
  refine ev_bi (v := 24) (q_cod qk176 rfl) (by decide) (by decide) ?_
  refine em_nZ (q_cod qk176 rfl) (by decide) hf (fun r27 h hf => ?_)
  refine em_pR (q_cod qk176 rfl) (by decide) (by decide) (by decide) hf (fun hf => ?_)
  refine ev_aload_n (q_cod qk176 rfl) (by decide) rfl ?_
  refine ev_si (v := 400) (q_cod qk176 rfl) (by decide) (by decide) ?_
  refine em_nI (q_cod qk176 rfl) (by decide) hf (fun r28 h hf => ?_)
  refine em_pR (q_cod qk176 rfl) (by decide) (by decide) (by decide) hf (fun hf => ?_)
  refine ev_aload_n (q_cod qk176 rfl) (by decide) rfl ?_
  refine ev_si (v := 400) (q_cod qk176 rfl) (by decide) (by decide) ?_
  refine em_nI (q_cod qk176 rfl) (by decide) hf (fun r29 h hf => ?_)
  refine em_pR (q_cod qk176 rfl) (by decide) (by decide) (by decide) hf (fun hf => ?_)
  refine ev_aload_n (q_cod qk176 rfl) (by decide) rfl ?_
  refine ev_si (v := 400) (q_cod qk176 rfl) (by decide) (by decide) ?_
  refine em_nI (q_cod qk176 rfl) (by decide) hf (fun r30 h hf => ?_)
  refine em_pR (q_cod qk176 rfl) (by decide) (by decide) (by decide) hf (fun hf => ?_)
  refine ev_aload_n (q_cod qk176 rfl) (by decide) rfl ?_
  refine ev_bi (v := 64) (q_cod qk176 rfl) (by decide) (by decide) ?_
  refine em_nI (q_cod qk176 rfl) (by decide) hf (fun r31 h hf => ?_)
  refine em_pR (q_cod qk176 rfl) (by decide) (by decide) (by decide) hf (fun hf => ?_)
  refine ev_aload_n (q_cod qk176 rfl) (by decide) rfl ?_
  refine ev_bi (v := 64) (q_cod qk176 rfl) (by decide) (by decide) ?_
  refine em_nI (q_cod qk176 rfl) (by decide) hf (fun r32 h hf => ?_)
  refine em_pR (q_cod qk176 rfl) (by decide) (by decide) (by decide) hf (fun hf => ?_)
  refine ev_aload_n (q_cod qk176 rfl) (by decide) rfl ?_
  refine ev_si (v := 200) (q_cod qk176 rfl) (by decide) (by decide) ?_
  refine em_nI (q_cod qk176 rfl) (by decide) hf (fun r33 h hf => ?_)
  refine em_pR (q_cod qk176 rfl) (by decide) (by decide) (by decide) hf (fun hf => ?_)
  obtain rfl := m_R_inv hf
  obtain ⟨rfl, rfl⟩ := (show m_KU o hz ((), _) from hK)
  exact ev_ret (q_cod qk176 rfl) rfl
theorem f176_cl {l0 : Nat} {h : q_H} {x : Unit × q_H} (hf : f176 l0 h = some x) : q_Cl 176 [.ref l0] h (.inl none) x.2 := q_Cl.of rfl (q_LvS rfl rfl) (f176_ok hf ⟨rfl, rfl⟩)
/-! SmithyBenchModel.thrown()I -/
theorem qk177 : q_cs.getD 177 [] = qc_177 := rfl
def f177 (l0 : Nat) : m_M Int32 :=
  m_B (m_gI 12 l0 0) (fun v1 => m_R v1)
theorem f177_ok {l0 : Nat} {h : q_H} {o : q_O} {hz : q_H} {x : Int32 × q_H} (hf : f177 l0 h = some x) (hK : (q_KI o hz) x) : q_Ev none 177 0 [(0, .ref l0)] [] h o hz := by
  unfold f177 at hf
  refine ev_aload_n (q_cod qk177 rfl) (by decide) rfl ?_
  refine em_gI (q_cod qk177 rfl) (by decide) (by decide) hf (fun v1 hf => ?_)
  obtain rfl := m_R_inv hf
  obtain ⟨rfl, rfl⟩ := (show q_KI o hz (v1, _) from hK)
  exact ev_ret (q_cod qk177 rfl) rfl
theorem f177_cl {l0 : Nat} {h : q_H} {x : Int32 × q_H} (hf : f177 l0 h = some x) : q_Cl 177 [.ref l0] h (.inl (some (.int x.1))) x.2 := q_Cl.of rfl (q_LvS rfl rfl) (f177_ok hf ⟨rfl, rfl⟩)
/-! SmithyBenchModel.refused(I)Z -/
theorem qk178 : q_cs.getD 178 [] = qc_178 := rfl
def f178_14 (s0 : Int32) : m_M Int32 :=
  m_B (m_G (s0 = 0 ∨ s0 = 1)) (fun _ => m_R s0)
theorem f178_14_ok {s0 : Int32} {h : q_H} {o : q_O} {hz : q_H} {x : Int32 × q_H} (hf : f178_14 s0 h = some x) (hK : (q_KI o hz) x) : q_Ev none 178 14 [] [.int s0] h o hz := by
  unfold f178_14 at hf
  obtain ⟨g1, hf⟩ := m_G_some hf
  obtain rfl := m_R_inv hf
  obtain ⟨rfl, rfl⟩ := (show q_KI o hz (s0, _) from hK)
  exact ev_ret (q_cod qk178 rfl) (q_retZ g1)
def f178 (l0 : Nat) (l1 : Int32) : m_M Int32 :=
  m_B (m_pI 12 l0 0 l1) (fun _ => if l1 = 0 then (f178_14 0) else (f178_14 1))
theorem f178_ok {l0 : Nat} {l1 : Int32} {h : q_H} {o : q_O} {hz : q_H} {x : Int32 × q_H} (hf : f178 l0 l1 h = some x) (hK : (q_KI o hz) x) : q_Ev none 178 0 [(0, .ref l0), (1, .int l1)] [] h o hz := by
  unfold f178 at hf
  refine ev_aload_n (q_cod qk178 rfl) (by decide) rfl ?_
  refine ev_iload_n (q_cod qk178 rfl) (by decide) rfl ?_
  refine em_pI (q_cod qk178 rfl) (by decide) (by decide) (by decide) hf (fun hf => ?_)
  refine ev_iload_n (q_cod qk178 rfl) (by decide) rfl ?_
  refine em_if_eq (q_cod qk178 rfl) (by decide) hf (fun c1 hf => ?_) (fun c1 hf => ?_)
  · refine ev_ic (v := 0) (q_cod qk178 rfl) (by decide) (by decide) ?_
    exact ev_weak (q_pk [] rfl) (f178_14_ok hf hK)
  · refine ev_ic (v := 1) (q_cod qk178 rfl) (by decide) (by decide) ?_
    refine ev_goto (q_cod qk178 rfl) (by decide) ?_
    exact ev_weak (q_pk [] rfl) (f178_14_ok hf hK)
theorem f178_cl {l0 : Nat} {l1 : Int32} {h : q_H} {x : Int32 × q_H} (hf : f178 l0 l1 h = some x) : q_Cl 178 [.ref l0, .int l1] h (.inl (some (.int x.1))) x.2 := q_Cl.of rfl (q_LvS rfl rfl) (f178_ok hf ⟨rfl, rfl⟩)
/-! SmithyBenchModel.within(III)Z -/
theorem qk179 : q_cs.getD 179 [] = qc_179 := rfl
def f179_15 (s0 : Int32) : m_M Int32 :=
  m_B (m_G (s0 = 0 ∨ s0 = 1)) (fun _ => m_R s0)
theorem f179_15_ok {s0 : Int32} {h : q_H} {o : q_O} {hz : q_H} {x : Int32 × q_H} (hf : f179_15 s0 h = some x) (hK : (q_KI o hz) x) : q_Ev none 179 15 [] [.int s0] h o hz := by
  unfold f179_15 at hf
  obtain ⟨g1, hf⟩ := m_G_some hf
  obtain rfl := m_R_inv hf
  obtain ⟨rfl, rfl⟩ := (show q_KI o hz (s0, _) from hK)
  exact ev_ret (q_cod qk179 rfl) (q_retZ g1)
def f179_14  : m_M Int32 :=
  f179_15 0
theorem f179_14_ok  {h : q_H} {o : q_O} {hz : q_H} {x : Int32 × q_H} (hf : f179_14 h = some x) (hK : (q_KI o hz) x) : q_Ev none 179 14 [] [] h o hz := by
  unfold f179_14 at hf
  refine ev_ic (v := 0) (q_cod qk179 rfl) (by decide) (by decide) ?_
  exact (f179_15_ok hf hK)
def f179 (l0 : Int32) (l1 : Int32) (l2 : Int32) : m_M Int32 :=
  if l0 < l1 then (f179_14) else (if l2 < l0 then (f179_14) else (f179_15 1))
theorem f179_ok {l0 : Int32} {l1 : Int32} {l2 : Int32} {h : q_H} {o : q_O} {hz : q_H} {x : Int32 × q_H} (hf : f179 l0 l1 l2 h = some x) (hK : (q_KI o hz) x) : q_Ev none 179 0 [(0, .int l0), (1, .int l1), (2, .int l2)] [] h o hz := by
  unfold f179 at hf
  refine ev_iload_n (q_cod qk179 rfl) (by decide) rfl ?_
  refine ev_iload_n (q_cod qk179 rfl) (by decide) rfl ?_
  refine em_ic_lt (q_cod qk179 rfl) (by decide) hf (fun c2 hf => ?_) (fun c2 hf => ?_)
  · exact ev_weak (q_pk [] rfl) (f179_14_ok hf hK)
  · refine ev_iload_n (q_cod qk179 rfl) (by decide) rfl ?_
    refine ev_iload_n (q_cod qk179 rfl) (by decide) rfl ?_
    refine em_ic_gt (q_cod qk179 rfl) (by decide) hf (fun c1 hf => ?_) (fun c1 hf => ?_)
    · exact ev_weak (q_pk [] rfl) (f179_14_ok hf hK)
    · refine ev_ic (v := 1) (q_cod qk179 rfl) (by decide) (by decide) ?_
      refine ev_goto (q_cod qk179 rfl) (by decide) ?_
      exact ev_weak (q_pk [] rfl) (f179_15_ok hf hK)
theorem f179_cl {l0 : Int32} {l1 : Int32} {l2 : Int32} {h : q_H} {x : Int32 × q_H} (hf : f179 l0 l1 l2 h = some x) : q_Cl 179 [.int l0, .int l1, .int l2] h (.inl (some (.int x.1))) x.2 := q_Cl.of rfl (q_LvS rfl rfl) (f179_ok hf ⟨rfl, rfl⟩)
/-! SmithyBenchModel.isName(I)Z -/
theorem qk180 : q_cs.getD 180 [] = qc_180 := rfl
def f180 (l0 : Int32) : m_M Int32 :=
  m_B (f179 l0 0 15) (fun v1 => m_B (m_G (v1 = 0 ∨ v1 = 1)) (fun _ => m_R v1))
theorem f180_ok {l0 : Int32} {h : q_H} {o : q_O} {hz : q_H} {x : Int32 × q_H} (hf : f180 l0 h = some x) (hK : (q_KI o hz) x) : q_Ev none 180 0 [(0, .int l0)] [] h o hz := by
  unfold f180 at hf
  refine ev_iload_n (q_cod qk180 rfl) (by decide) rfl ?_
  refine ev_ic (v := 0) (q_cod qk180 rfl) (by decide) (by decide) ?_
  refine ev_bi (v := 15) (q_cod qk180 rfl) (by decide) (by decide) ?_
  refine em_call (v := (fun u => some (.int u))) (q_cod qk180 rfl) rfl rfl (q_cokS rfl rfl) rfl (fun x e => f179_cl e) hf (fun v1 h hf => ?_)
  obtain ⟨g2, hf⟩ := m_G_some hf
  obtain rfl := m_R_inv hf
  obtain ⟨rfl, rfl⟩ := (show q_KI o hz (v1, _) from hK)
  exact ev_ret (q_cod qk180 rfl) (q_retZ g2)
theorem f180_cl {l0 : Int32} {h : q_H} {x : Int32 × q_H} (hf : f180 l0 h = some x) : q_Cl 180 [.int l0] h (.inl (some (.int x.1))) x.2 := q_Cl.of rfl (q_LvS rfl rfl) (f180_ok hf ⟨rfl, rfl⟩)
/-! SmithyBenchModel.isNode(I)Z -/
theorem qk181 : q_cs.getD 181 [] = qc_181 := rfl
def f181 (l0 : Nat) (l1 : Int32) : m_M Int32 :=
  m_B (m_gI 12 l0 4) (fun v1 => m_B (f179 l1 0 (v1 - 1)) (fun v2 => m_B (m_G (v2 = 0 ∨ v2 = 1)) (fun _ => m_R v2)))
theorem f181_ok {l0 : Nat} {l1 : Int32} {h : q_H} {o : q_O} {hz : q_H} {x : Int32 × q_H} (hf : f181 l0 l1 h = some x) (hK : (q_KI o hz) x) : q_Ev none 181 0 [(0, .ref l0), (1, .int l1)] [] h o hz := by
  unfold f181 at hf
  refine ev_iload_n (q_cod qk181 rfl) (by decide) rfl ?_
  refine ev_ic (v := 0) (q_cod qk181 rfl) (by decide) (by decide) ?_
  refine ev_aload_n (q_cod qk181 rfl) (by decide) rfl ?_
  refine em_gI (q_cod qk181 rfl) (by decide) (by decide) hf (fun v1 hf => ?_)
  refine ev_ic (v := 1) (q_cod qk181 rfl) (by decide) (by decide) ?_
  refine ev_isub (q_cod qk181 rfl) (by decide) ?_
  refine em_call (v := (fun u => some (.int u))) (q_cod qk181 rfl) rfl rfl (q_cokS rfl rfl) rfl (fun x e => f179_cl e) hf (fun v2 h hf => ?_)
  obtain ⟨g3, hf⟩ := m_G_some hf
  obtain rfl := m_R_inv hf
  obtain ⟨rfl, rfl⟩ := (show q_KI o hz (v2, _) from hK)
  exact ev_ret (q_cod qk181 rfl) (q_retZ g3)
theorem f181_cl {l0 : Nat} {l1 : Int32} {h : q_H} {x : Int32 × q_H} (hf : f181 l0 l1 h = some x) : q_Cl 181 [.ref l0, .int l1] h (.inl (some (.int x.1))) x.2 := q_Cl.of rfl (q_LvS rfl rfl) (f181_ok hf ⟨rfl, rfl⟩)
/-! SmithyBenchModel.partsOf(II)I -/
theorem qk183 : q_cs.getD 183 [] = qc_183 := rfl
def f183_17  : m_M Int32 :=
  m_R 1
theorem f183_17_ok  {h : q_H} {o : q_O} {hz : q_H} {x : Int32 × q_H} (hf : f183_17 h = some x) (hK : (q_KI o hz) x) : q_Ev none 183 17 [] [] h o hz := by
  unfold f183_17 at hf
  refine ev_ic (v := 1) (q_cod qk183 rfl) (by decide) (by decide) ?_
  obtain rfl := m_R_inv hf
  obtain ⟨rfl, rfl⟩ := (show q_KI o hz (1, _) from hK)
  exact ev_ret (q_cod qk183 rfl) rfl
def f183_47  : m_M Int32 :=
  m_R 2
theorem f183_47_ok  {h : q_H} {o : q_O} {hz : q_H} {x : Int32 × q_H} (hf : f183_47 h = some x) (hK : (q_KI o hz) x) : q_Ev none 183 47 [] [] h o hz := by
  unfold f183_47 at hf
  refine ev_ic (v := 2) (q_cod qk183 rfl) (by decide) (by decide) ?_
  obtain rfl := m_R_inv hf
  obtain ⟨rfl, rfl⟩ := (show q_KI o hz (2, _) from hK)
  exact ev_ret (q_cod qk183 rfl) rfl
def f183_72 (s0 : Int32) : m_M Int32 :=
  m_R s0
theorem f183_72_ok {s0 : Int32} {h : q_H} {o : q_O} {hz : q_H} {x : Int32 × q_H} (hf : f183_72 s0 h = some x) (hK : (q_KI o hz) x) : q_Ev none 183 72 [] [.int s0] h o hz := by
  unfold f183_72 at hf
  obtain rfl := m_R_inv hf
  obtain ⟨rfl, rfl⟩ := (show q_KI o hz (s0, _) from hK)
  exact ev_ret (q_cod qk183 rfl) rfl
def f183 (l0 : Int32) (l1 : Int32) : m_M Int32 :=
  if l0 = 3 then (f183_17) else (if l0 = 6 then (f183_17) else (if l0 = 12 then (f183_17) else (if l0 = 4 then (f183_47) else (if l0 = 5 then (f183_47) else (if l0 = 9 then (f183_47) else (if l0 = 11 then (f183_47) else (if l0 = 13 then (f183_47) else (if l0 = 7 then (f183_72 (1 + l1)) else (if l0 = 10 then (f183_72 3) else (f183_72 0))))))))))
theorem f183_ok {l0 : Int32} {l1 : Int32} {h : q_H} {o : q_O} {hz : q_H} {x : Int32 × q_H} (hf : f183 l0 l1 h = some x) (hK : (q_KI o hz) x) : q_Ev none 183 0 [(0, .int l0), (1, .int l1)] [] h o hz := by
  unfold f183 at hf
  refine ev_iload_n (q_cod qk183 rfl) (by decide) rfl ?_
  refine ev_ic (v := 3) (q_cod qk183 rfl) (by decide) (by decide) ?_
  refine em_ic_eq (q_cod qk183 rfl) (by decide) hf (fun c10 hf => ?_) (fun c10 hf => ?_)
  · exact ev_weak (q_pk [] rfl) (f183_17_ok hf hK)
  · refine ev_iload_n (q_cod qk183 rfl) (by decide) rfl ?_
    refine ev_bi (v := 6) (q_cod qk183 rfl) (by decide) (by decide) ?_
    refine em_ic_eq (q_cod qk183 rfl) (by decide) hf (fun c9 hf => ?_) (fun c9 hf => ?_)
    · exact ev_weak (q_pk [] rfl) (f183_17_ok hf hK)
    · refine ev_iload_n (q_cod qk183 rfl) (by decide) rfl ?_
      refine ev_bi (v := 12) (q_cod qk183 rfl) (by decide) (by decide) ?_
      refine em_ic_ne (q_cod qk183 rfl) (by decide) hf (fun c8 hf => ?_) (fun c8 hf => ?_)
      · exact ev_weak (q_pk [] rfl) (f183_17_ok hf hK)
      · refine ev_iload_n (q_cod qk183 rfl) (by decide) rfl ?_
        refine ev_ic (v := 4) (q_cod qk183 rfl) (by decide) (by decide) ?_
        refine em_ic_eq (q_cod qk183 rfl) (by decide) hf (fun c7 hf => ?_) (fun c7 hf => ?_)
        · exact ev_weak (q_pk [] rfl) (f183_47_ok hf hK)
        · refine ev_iload_n (q_cod qk183 rfl) (by decide) rfl ?_
          refine ev_ic (v := 5) (q_cod qk183 rfl) (by decide) (by decide) ?_
          refine em_ic_eq (q_cod qk183 rfl) (by decide) hf (fun c6 hf => ?_) (fun c6 hf => ?_)
          · exact ev_weak (q_pk [] rfl) (f183_47_ok hf hK)
          · refine ev_iload_n (q_cod qk183 rfl) (by decide) rfl ?_
            refine ev_bi (v := 9) (q_cod qk183 rfl) (by decide) (by decide) ?_
            refine em_ic_eq (q_cod qk183 rfl) (by decide) hf (fun c5 hf => ?_) (fun c5 hf => ?_)
            · exact ev_weak (q_pk [] rfl) (f183_47_ok hf hK)
            · refine ev_iload_n (q_cod qk183 rfl) (by decide) rfl ?_
              refine ev_bi (v := 11) (q_cod qk183 rfl) (by decide) (by decide) ?_
              refine em_ic_eq (q_cod qk183 rfl) (by decide) hf (fun c4 hf => ?_) (fun c4 hf => ?_)
              · exact ev_weak (q_pk [] rfl) (f183_47_ok hf hK)
              · refine ev_iload_n (q_cod qk183 rfl) (by decide) rfl ?_
                refine ev_bi (v := 13) (q_cod qk183 rfl) (by decide) (by decide) ?_
                refine em_ic_ne (q_cod qk183 rfl) (by decide) hf (fun c3 hf => ?_) (fun c3 hf => ?_)
                · exact ev_weak (q_pk [] rfl) (f183_47_ok hf hK)
                · refine ev_iload_n (q_cod qk183 rfl) (by decide) rfl ?_
                  refine ev_bi (v := 7) (q_cod qk183 rfl) (by decide) (by decide) ?_
                  refine em_ic_ne (q_cod qk183 rfl) (by decide) hf (fun c2 hf => ?_) (fun c2 hf => ?_)
                  · refine ev_ic (v := 1) (q_cod qk183 rfl) (by decide) (by decide) ?_
                    refine ev_iload_n (q_cod qk183 rfl) (by decide) rfl ?_
                    refine ev_iadd (q_cod qk183 rfl) (by decide) ?_
                    refine ev_goto (q_cod qk183 rfl) (by decide) ?_
                    exact ev_weak (q_pk [] rfl) (f183_72_ok hf hK)
                  · refine ev_iload_n (q_cod qk183 rfl) (by decide) rfl ?_
                    refine ev_bi (v := 10) (q_cod qk183 rfl) (by decide) (by decide) ?_
                    refine em_ic_ne (q_cod qk183 rfl) (by decide) hf (fun c1 hf => ?_) (fun c1 hf => ?_)
                    · refine ev_ic (v := 3) (q_cod qk183 rfl) (by decide) (by decide) ?_
                      refine ev_goto (q_cod qk183 rfl) (by decide) ?_
                      exact ev_weak (q_pk [] rfl) (f183_72_ok hf hK)
                    · refine ev_ic (v := 0) (q_cod qk183 rfl) (by decide) (by decide) ?_
                      exact ev_weak (q_pk [] rfl) (f183_72_ok hf hK)
theorem f183_cl {l0 : Int32} {l1 : Int32} {h : q_H} {x : Int32 × q_H} (hf : f183 l0 l1 h = some x) : q_Cl 183 [.int l0, .int l1] h (.inl (some (.int x.1))) x.2 := q_Cl.of rfl (q_LvS rfl rfl) (f183_ok hf ⟨rfl, rfl⟩)
/-! SmithyBenchModel.tell(IIIIII)I -/
theorem qk182 : q_cs.getD 182 [] = qc_182 := rfl
def f182_135 (l0 : Nat) (s0 : Nat) (s1 : Int32) (s2 : Int32) : m_M Int32 :=
  m_B (m_wI s0 s1 s2) (fun _ => m_B (m_gI 12 l0 4) (fun v1 => m_B (m_pI 12 l0 4 (v1 + 1)) (fun _ => m_B (m_gI 12 l0 4) (fun v2 => m_R (v2 - 1)))))
theorem f182_135_ok {l0 : Nat} {s0 : Nat} {s1 : Int32} {s2 : Int32} {h : q_H} {o : q_O} {hz : q_H} {x : Int32 × q_H} (hf : f182_135 l0 s0 s1 s2 h = some x) (hK : (q_KI o hz) x) : q_Ev none 182 135 [(0, .ref l0)] [.int s2, .int s1, .ref s0] h o hz := by
  unfold f182_135 at hf
  refine em_wI (q_cod qk182 rfl) (by decide) hf (fun hf => ?_)
  refine ev_aload_n (q_cod qk182 rfl) (by decide) rfl ?_
  refine ev_dup (q_cod qk182 rfl) (by decide) rfl ?_
  refine em_gI (q_cod qk182 rfl) (by decide) (by decide) hf (fun v1 hf => ?_)
  refine ev_ic (v := 1) (q_cod qk182 rfl) (by decide) (by decide) ?_
  refine ev_iadd (q_cod qk182 rfl) (by decide) ?_
  refine em_pI (q_cod qk182 rfl) (by decide) (by decide) (by decide) hf (fun hf => ?_)
  refine ev_aload_n (q_cod qk182 rfl) (by decide) rfl ?_
  refine em_gI (q_cod qk182 rfl) (by decide) (by decide) hf (fun v2 hf => ?_)
  refine ev_ic (v := 1) (q_cod qk182 rfl) (by decide) (by decide) ?_
  refine ev_isub (q_cod qk182 rfl) (by decide) ?_
  obtain rfl := m_R_inv hf
  obtain ⟨rfl, rfl⟩ := (show q_KI o hz ((v2 - 1), _) from hK)
  exact ev_ret (q_cod qk182 rfl) rfl
def f182_111 (l0 : Nat) (l8 : Int32) : m_M Int32 :=
  m_B (m_gR 12 l0 9) (fun r1 => m_B (m_gI 12 l0 4) (fun v2 => if 1000 < l8 then (f182_135 l0 r1 v2 1000) else (f182_135 l0 r1 v2 l8)))
theorem f182_111_ok {l0 : Nat} {l8 : Int32} {h : q_H} {o : q_O} {hz : q_H} {x : Int32 × q_H} (hf : f182_111 l0 l8 h = some x) (hK : (q_KI o hz) x) : q_Ev none 182 111 [(0, .ref l0), (8, .int l8)] [] h o hz := by
  unfold f182_111 at hf
  refine ev_aload_n (q_cod qk182 rfl) (by decide) rfl ?_
  refine em_gR (q_cod qk182 rfl) (by decide) (by decide) hf (fun r1 hf => ?_)
  refine ev_aload_n (q_cod qk182 rfl) (by decide) rfl ?_
  refine em_gI (q_cod qk182 rfl) (by decide) (by decide) hf (fun v2 hf => ?_)
  refine ev_iload (q_cod qk182 rfl) (by decide) rfl ?_
  refine ev_si (v := 1000) (q_cod qk182 rfl) (by decide) (by decide) ?_
  refine em_ic_le (q_cod qk182 rfl) (by decide) hf (fun c3 hf => ?_) (fun c3 hf => ?_)
  · refine ev_si (v := 1000) (q_cod qk182 rfl) (by decide) (by decide) ?_
    refine ev_goto (q_cod qk182 rfl) (by decide) ?_
    exact ev_weak (q_pk [0] rfl) (f182_135_ok hf hK)
  · refine ev_iload (q_cod qk182 rfl) (by decide) rfl ?_
    exact ev_weak (q_pk [0] rfl) (f182_135_ok hf hK)
def f182_75b (l0 : Nat) (l1 : Int32) (l3 : Int32) (l7 : Int32) (l8 : Int32) (l9 : Int32) : m_M ((Nat × Int32 × Int32 × Int32 × Int32 × Int32) ⊕ Int32) :=
  m_B (f183 l1 l3) (fun v1 => if l9 < v1 then (m_B (m_gR 12 l0 9) (fun r2 => m_B (m_gR 12 l0 8) (fun r3 => m_B (m_lI r3 (l7 + l9)) (fun v4 => m_B (m_lI r2 v4) (fun v5 => m_R (.inl (l0, l1, l3, l7, (l8 + v5), (l9 + 1)))))))) else (m_B (f182_111 l0 l8) (fun r => m_R (.inr r))))
theorem f182_75b_ok {l0 : Nat} {l1 : Int32} {l3 : Int32} {l7 : Int32} {l8 : Int32} {l9 : Int32} {h : q_H} {o : q_O} {hz : q_H} {x : ((Nat × Int32 × Int32 × Int32 × Int32 × Int32) ⊕ Int32) × q_H} (hf : f182_75b l0 l1 l3 l7 l8 l9 h = some x) (hK : (m_yK (fun (s : Nat × Int32 × Int32 × Int32 × Int32 × Int32) (h : q_H) => q_Ev none 182 75 [(0, .ref (s.1)), (1, .int (s.2.1)), (3, .int (s.2.2.1)), (7, .int (s.2.2.2.1)), (8, .int (s.2.2.2.2.1)), (9, .int (s.2.2.2.2.2))] [] h o hz) (q_KI o hz)) x) : q_Ev none 182 75 [(0, .ref l0), (1, .int l1), (3, .int l3), (7, .int l7), (8, .int l8), (9, .int l9)] [] h o hz := by
  unfold f182_75b at hf
  refine ev_iload (q_cod qk182 rfl) (by decide) rfl ?_
  refine ev_iload_n (q_cod qk182 rfl) (by decide) rfl ?_
  refine ev_iload_n (q_cod qk182 rfl) (by decide) rfl ?_
  refine em_call (v := (fun u => some (.int u))) (q_cod qk182 rfl) rfl rfl (q_cokS rfl rfl) rfl (fun x e => f183_cl e) hf (fun v1 h hf => ?_)
  refine em_ic_ge (q_cod qk182 rfl) (by decide) hf (fun c6 hf => ?_) (fun c6 hf => ?_)
  · refine ev_iload (q_cod qk182 rfl) (by decide) rfl ?_
    refine ev_aload_n (q_cod qk182 rfl) (by decide) rfl ?_
    refine em_gR (q_cod qk182 rfl) (by decide) (by decide) hf (fun r2 hf => ?_)
    refine ev_aload_n (q_cod qk182 rfl) (by decide) rfl ?_
    refine em_gR (q_cod qk182 rfl) (by decide) (by decide) hf (fun r3 hf => ?_)
    refine ev_iload (q_cod qk182 rfl) (by decide) rfl ?_
    refine ev_iload (q_cod qk182 rfl) (by decide) rfl ?_
    refine ev_iadd (q_cod qk182 rfl) (by decide) ?_
    refine em_lI (q_cod qk182 rfl) (by decide) hf (fun v4 hf => ?_)
    refine em_lI (q_cod qk182 rfl) (by decide) hf (fun v5 hf => ?_)
    refine ev_iadd (q_cod qk182 rfl) (by decide) ?_
    refine ev_is2 (L' := [(0, .ref l0), (1, .int l1), (3, .int l3), (7, .int l7), (8, .int (l8 + v5)), (9, .int l9)]) (q_cod qk182 rfl) (by decide) rfl ?_
    refine ev_inc (v := l9 + 1) (L' := [(0, .ref l0), (1, .int l1), (3, .int l3), (7, .int l7), (8, .int (l8 + v5)), (9, .int (l9 + 1))]) (q_cod qk182 rfl) (by decide) rfl rfl rfl ?_
    refine ev_goto (q_cod qk182 rfl) (by decide) ?_
    obtain rfl := m_R_inv hf
    exact (show q_Ev none 182 75 [(0, .ref l0), (1, .int l1), (3, .int l3), (7, .int l7), (8, .int (l8 + v5)), (9, .int (l9 + 1))] [] _ o hz from hK)
  · obtain ⟨y0, hf0, hx⟩ := m_inr_some hf
    subst hx
    exact ev_weak (q_pk [0, 4] rfl) (f182_111_ok hf0 hK)
def f182_75 (l0 : Nat) (l1 : Int32) (l3 : Int32) (l7 : Int32) (l8 : Int32) (l9 : Int32) : m_M Int32 := m_W (fun s => f182_75b (s.1) (s.2.1) (s.2.2.1) (s.2.2.2.1) (s.2.2.2.2.1) (s.2.2.2.2.2)) 1000000 (l0, l1, l3, l7, l8, l9)
theorem f182_75_ok {l0 : Nat} {l1 : Int32} {l3 : Int32} {l7 : Int32} {l8 : Int32} {l9 : Int32} {h : q_H} {o : q_O} {hz : q_H} {x : Int32 × q_H} (hf : f182_75 l0 l1 l3 l7 l8 l9 h = some x) (hK : (q_KI o hz) x) : q_Ev none 182 75 [(0, .ref l0), (1, .int l1), (3, .int l3), (7, .int l7), (8, .int l8), (9, .int l9)] [] h o hz :=
  m_W_ok (P := (fun (s : Nat × Int32 × Int32 × Int32 × Int32 × Int32) (h : q_H) => q_Ev none 182 75 [(0, .ref (s.1)), (1, .int (s.2.1)), (3, .int (s.2.2.1)), (7, .int (s.2.2.2.1)), (8, .int (s.2.2.2.2.1)), (9, .int (s.2.2.2.2.2))] [] h o hz)) (K := (q_KI o hz)) (fun s h x h1 h2 => f182_75b_ok h1 h2) _ (l0, l1, l3, l7, l8, l9) _ _ hf hK
def f182 (l0 : Nat) (l1 : Int32) (l2 : Int32) (l3 : Int32) (l4 : Int32) (l5 : Int32) (l6 : Int32) : m_M Int32 :=
  m_B (m_gI 12 l0 4) (fun v1 => m_B (m_gR 12 l0 5) (fun r2 => m_B (m_gI 12 l0 4) (fun v3 => m_B (m_wI r2 v3 l1) (fun _ => m_B (m_gR 12 l0 6) (fun r4 => m_B (m_gI 12 l0 4) (fun v5 => m_B (m_wI r4 v5 l2) (fun _ => m_B (m_gR 12 l0 7) (fun r6 => m_B (m_gI 12 l0 4) (fun v7 => m_B (m_wI r6 v7 l3) (fun _ => m_B (m_gR 12 l0 8) (fun r8 => m_B (m_wI r8 (3 * v1) l4) (fun _ => m_B (m_gR 12 l0 8) (fun r9 => m_B (m_wI r9 ((3 * v1) + 1) l5) (fun _ => m_B (m_gR 12 l0 8) (fun r10 => m_B (m_wI r10 ((3 * v1) + 2) l6) (fun _ => f182_75 l0 l1 l3 (3 * v1) 1 0))))))))))))))))
theorem f182_ok {l0 : Nat} {l1 : Int32} {l2 : Int32} {l3 : Int32} {l4 : Int32} {l5 : Int32} {l6 : Int32} {h : q_H} {o : q_O} {hz : q_H} {x : Int32 × q_H} (hf : f182 l0 l1 l2 l3 l4 l5 l6 h = some x) (hK : (q_KI o hz) x) : q_Ev none 182 0 [(0, .ref l0), (1, .int l1), (2, .int l2), (3, .int l3), (4, .int l4), (5, .int l5), (6, .int l6)] [] h o hz := by
  unfold f182 at hf
  refine ev_ic (v := 3) (q_cod qk182 rfl) (by decide) (by decide) ?_
  refine ev_aload_n (q_cod qk182 rfl) (by decide) rfl ?_
  refine em_gI (q_cod qk182 rfl) (by decide) (by decide) hf (fun v1 hf => ?_)
  refine ev_imul (q_cod qk182 rfl) (by decide) ?_
  refine ev_is2 (L' := [(0, .ref l0), (1, .int l1), (2, .int l2), (3, .int l3), (4, .int l4), (5, .int l5), (6, .int l6), (7, .int (3 * v1))]) (q_cod qk182 rfl) (by decide) rfl ?_
  refine ev_aload_n (q_cod qk182 rfl) (by decide) rfl ?_
  refine em_gR (q_cod qk182 rfl) (by decide) (by decide) hf (fun r2 hf => ?_)
  refine ev_aload_n (q_cod qk182 rfl) (by decide) rfl ?_
  refine em_gI (q_cod qk182 rfl) (by decide) (by decide) hf (fun v3 hf => ?_)
  refine ev_iload_n (q_cod qk182 rfl) (by decide) rfl ?_
  refine em_wI (q_cod qk182 rfl) (by decide) hf (fun hf => ?_)
  refine ev_aload_n (q_cod qk182 rfl) (by decide) rfl ?_
  refine em_gR (q_cod qk182 rfl) (by decide) (by decide) hf (fun r4 hf => ?_)
  refine ev_aload_n (q_cod qk182 rfl) (by decide) rfl ?_
  refine em_gI (q_cod qk182 rfl) (by decide) (by decide) hf (fun v5 hf => ?_)
  refine ev_iload_n (q_cod qk182 rfl) (by decide) rfl ?_
  refine em_wI (q_cod qk182 rfl) (by decide) hf (fun hf => ?_)
  refine ev_aload_n (q_cod qk182 rfl) (by decide) rfl ?_
  refine em_gR (q_cod qk182 rfl) (by decide) (by decide) hf (fun r6 hf => ?_)
  refine ev_aload_n (q_cod qk182 rfl) (by decide) rfl ?_
  refine em_gI (q_cod qk182 rfl) (by decide) (by decide) hf (fun v7 hf => ?_)
  refine ev_iload_n (q_cod qk182 rfl) (by decide) rfl ?_
  refine em_wI (q_cod qk182 rfl) (by decide) hf (fun hf => ?_)
  refine ev_aload_n (q_cod qk182 rfl) (by decide) rfl ?_
  refine em_gR (q_cod qk182 rfl) (by decide) (by decide) hf (fun r8 hf => ?_)
  refine ev_iload (q_cod qk182 rfl) (by decide) rfl ?_
  refine ev_iload (q_cod qk182 rfl) (by decide) rfl ?_
  refine em_wI (q_cod qk182 rfl) (by decide) hf (fun hf => ?_)
  refine ev_aload_n (q_cod qk182 rfl) (by decide) rfl ?_
  refine em_gR (q_cod qk182 rfl) (by decide) (by decide) hf (fun r9 hf => ?_)
  refine ev_iload (q_cod qk182 rfl) (by decide) rfl ?_
  refine ev_ic (v := 1) (q_cod qk182 rfl) (by decide) (by decide) ?_
  refine ev_iadd (q_cod qk182 rfl) (by decide) ?_
  refine ev_iload (q_cod qk182 rfl) (by decide) rfl ?_
  refine em_wI (q_cod qk182 rfl) (by decide) hf (fun hf => ?_)
  refine ev_aload_n (q_cod qk182 rfl) (by decide) rfl ?_
  refine em_gR (q_cod qk182 rfl) (by decide) (by decide) hf (fun r10 hf => ?_)
  refine ev_iload (q_cod qk182 rfl) (by decide) rfl ?_
  refine ev_ic (v := 2) (q_cod qk182 rfl) (by decide) (by decide) ?_
  refine ev_iadd (q_cod qk182 rfl) (by decide) ?_
  refine ev_iload (q_cod qk182 rfl) (by decide) rfl ?_
  refine em_wI (q_cod qk182 rfl) (by decide) hf (fun hf => ?_)
  refine ev_ic (v := 1) (q_cod qk182 rfl) (by decide) (by decide) ?_
  refine ev_is2 (L' := [(0, .ref l0), (1, .int l1), (2, .int l2), (3, .int l3), (4, .int l4), (5, .int l5), (6, .int l6), (7, .int (3 * v1)), (8, .int 1)]) (q_cod qk182 rfl) (by decide) rfl ?_
  refine ev_ic (v := 0) (q_cod qk182 rfl) (by decide) (by decide) ?_
  refine ev_is2 (L' := [(0, .ref l0), (1, .int l1), (2, .int l2), (3, .int l3), (4, .int l4), (5, .int l5), (6, .int l6), (7, .int (3 * v1)), (8, .int 1), (9, .int 0)]) (q_cod qk182 rfl) (by decide) rfl ?_
  exact ev_weak (q_pk [0, 1, 3, 7, 8, 9] rfl) (f182_75_ok hf hK)
theorem f182_cl {l0 : Nat} {l1 : Int32} {l2 : Int32} {l3 : Int32} {l4 : Int32} {l5 : Int32} {l6 : Int32} {h : q_H} {x : Int32 × q_H} (hf : f182 l0 l1 l2 l3 l4 l5 l6 h = some x) : q_Cl 182 [.ref l0, .int l1, .int l2, .int l3, .int l4, .int l5, .int l6] h (.inl (some (.int x.1))) x.2 := q_Cl.of rfl (q_LvS rfl rfl) (f182_ok hf ⟨rfl, rfl⟩)
/-! SmithyBenchModel.whyNot(ZZ)I -/
theorem qk184 : q_cs.getD 184 [] = qc_184 := rfl
def f184_31 (s0 : Int32) : m_M Int32 :=
  m_R s0
theorem f184_31_ok {s0 : Int32} {h : q_H} {o : q_O} {hz : q_H} {x : Int32 × q_H} (hf : f184_31 s0 h = some x) (hK : (q_KI o hz) x) : q_Ev none 184 31 [] [.int s0] h o hz := by
  unfold f184_31 at hf
  obtain rfl := m_R_inv hf
  obtain ⟨rfl, rfl⟩ := (show q_KI o hz (s0, _) from hK)
  exact ev_ret (q_cod qk184 rfl) rfl
def f184 (l0 : Nat) (l1 : Int32) (l2 : Int32) : m_M Int32 :=
  if l1 = 0 then (f184_31 1) else (if l2 = 0 then (f184_31 2) else (m_B (m_gI 12 l0 4) (fun v1 => if v1 = 150 then (f184_31 3) else (f184_31 0))))
theorem f184_ok {l0 : Nat} {l1 : Int32} {l2 : Int32} {h : q_H} {o : q_O} {hz : q_H} {x : Int32 × q_H} (hf : f184 l0 l1 l2 h = some x) (hK : (q_KI o hz) x) : q_Ev none 184 0 [(0, .ref l0), (1, .int l1), (2, .int l2)] [] h o hz := by
  unfold f184 at hf
  refine ev_iload_n (q_cod qk184 rfl) (by decide) rfl ?_
  refine em_if_ne (q_cod qk184 rfl) (by decide) hf (fun c4 hf => ?_) (fun c4 hf => ?_)
  · refine ev_ic (v := 1) (q_cod qk184 rfl) (by decide) (by decide) ?_
    refine ev_goto (q_cod qk184 rfl) (by decide) ?_
    exact ev_weak (q_pk [] rfl) (f184_31_ok hf hK)
  · refine ev_iload_n (q_cod qk184 rfl) (by decide) rfl ?_
    refine em_if_ne (q_cod qk184 rfl) (by decide) hf (fun c3 hf => ?_) (fun c3 hf => ?_)
    · refine ev_ic (v := 2) (q_cod qk184 rfl) (by decide) (by decide) ?_
      refine ev_goto (q_cod qk184 rfl) (by decide) ?_
      exact ev_weak (q_pk [] rfl) (f184_31_ok hf hK)
    · refine ev_aload_n (q_cod qk184 rfl) (by decide) rfl ?_
      refine em_gI (q_cod qk184 rfl) (by decide) (by decide) hf (fun v1 hf => ?_)
      refine ev_si (v := 150) (q_cod qk184 rfl) (by decide) (by decide) ?_
      refine em_ic_ne (q_cod qk184 rfl) (by decide) hf (fun c2 hf => ?_) (fun c2 hf => ?_)
      · refine ev_ic (v := 3) (q_cod qk184 rfl) (by decide) (by decide) ?_
        refine ev_goto (q_cod qk184 rfl) (by decide) ?_
        exact ev_weak (q_pk [] rfl) (f184_31_ok hf hK)
      · refine ev_ic (v := 0) (q_cod qk184 rfl) (by decide) (by decide) ?_
        exact ev_weak (q_pk [] rfl) (f184_31_ok hf hK)
theorem f184_cl {l0 : Nat} {l1 : Int32} {l2 : Int32} {h : q_H} {x : Int32 × q_H} (hf : f184 l0 l1 l2 h = some x) : q_Cl 184 [.ref l0, .int l1, .int l2] h (.inl (some (.int x.1))) x.2 := q_Cl.of rfl (q_LvS rfl rfl) (f184_ok hf ⟨rfl, rfl⟩)
/-! SmithyBenchModel.number(I)I -/
theorem qk185 : q_cs.getD 185 [] = qc_185 := rfl
def f185_36 (s0 : Int32) : m_M Int32 :=
  m_R s0
theorem f185_36_ok {s0 : Int32} {h : q_H} {o : q_O} {hz : q_H} {x : Int32 × q_H} (hf : f185_36 s0 h = some x) (hK : (q_KI o hz) x) : q_Ev none 185 36 [] [.int s0] h o hz := by
  unfold f185_36 at hf
  obtain rfl := m_R_inv hf
  obtain ⟨rfl, rfl⟩ := (show q_KI o hz (s0, _) from hK)
  exact ev_ret (q_cod qk185 rfl) rfl
def f185_16 (l0 : Nat) (l1 : Int32) (s0 : Nat) (s1 : Int32) : m_M Int32 :=
  m_B (m_aK s0 12) (fun _ => m_B (f178 s0 s1) (fun v2 => if v2 = 0 then (m_B (m_aK l0 12) (fun _ => m_B (f182 l0 0 l1 0 0 0 0) (fun v4 => f185_36 v4))) else (f185_36 0)))
theorem f185_16_ok {l0 : Nat} {l1 : Int32} {s0 : Nat} {s1 : Int32} {h : q_H} {o : q_O} {hz : q_H} {x : Int32 × q_H} (hf : f185_16 l0 l1 s0 s1 h = some x) (hK : (q_KI o hz) x) : q_Ev none 185 16 [(0, .ref l0), (1, .int l1)] [.int s1, .ref s0] h o hz := by
  unfold f185_16 at hf
  obtain ⟨g1, hf⟩ := m_aK_some hf
  refine em_call (v := (fun u => some (.int u))) (q_cod qk185 rfl) rfl rfl (q_cokV rfl rfl (Or.inr g1)) rfl (fun x e => f178_cl e) hf (fun v2 h hf => ?_)
  refine em_if_eq (q_cod qk185 rfl) (by decide) hf (fun c5 hf => ?_) (fun c5 hf => ?_)
  · refine ev_aload_n (q_cod qk185 rfl) (by decide) rfl ?_
    refine ev_ic (v := 0) (q_cod qk185 rfl) (by decide) (by decide) ?_
    refine ev_iload_n (q_cod qk185 rfl) (by decide) rfl ?_
    refine ev_ic (v := 0) (q_cod qk185 rfl) (by decide) (by decide) ?_
    refine ev_ic (v := 0) (q_cod qk185 rfl) (by decide) (by decide) ?_
    refine ev_ic (v := 0) (q_cod qk185 rfl) (by decide) (by decide) ?_
    refine ev_ic (v := 0) (q_cod qk185 rfl) (by decide) (by decide) ?_
    obtain ⟨g3, hf⟩ := m_aK_some hf
    refine em_call (v := (fun u => some (.int u))) (q_cod qk185 rfl) rfl rfl (q_cokV rfl rfl (Or.inr g3)) rfl (fun x e => f182_cl e) hf (fun v4 h hf => ?_)
    exact ev_weak (q_pk [] rfl) (f185_36_ok hf hK)
  · refine ev_ic (v := 0) (q_cod qk185 rfl) (by decide) (by decide) ?_
    refine ev_goto (q_cod qk185 rfl) (by decide) ?_
    exact ev_weak (q_pk [] rfl) (f185_36_ok hf hK)
def f185 (l0 : Nat) (l1 : Int32) : m_M Int32 :=
  m_B (m_gI 12 l0 4) (fun v1 => if v1 = 150 then (f185_16 l0 l1 l0 1) else (f185_16 l0 l1 l0 0))
theorem f185_ok {l0 : Nat} {l1 : Int32} {h : q_H} {o : q_O} {hz : q_H} {x : Int32 × q_H} (hf : f185 l0 l1 h = some x) (hK : (q_KI o hz) x) : q_Ev none 185 0 [(0, .ref l0), (1, .int l1)] [] h o hz := by
  unfold f185 at hf
  refine ev_aload_n (q_cod qk185 rfl) (by decide) rfl ?_
  refine ev_aload_n (q_cod qk185 rfl) (by decide) rfl ?_
  refine em_gI (q_cod qk185 rfl) (by decide) (by decide) hf (fun v1 hf => ?_)
  refine ev_si (v := 150) (q_cod qk185 rfl) (by decide) (by decide) ?_
  refine em_ic_ne (q_cod qk185 rfl) (by decide) hf (fun c2 hf => ?_) (fun c2 hf => ?_)
  · refine ev_ic (v := 1) (q_cod qk185 rfl) (by decide) (by decide) ?_
    refine ev_goto (q_cod qk185 rfl) (by decide) ?_
    exact (f185_16_ok hf hK)
  · refine ev_ic (v := 0) (q_cod qk185 rfl) (by decide) (by decide) ?_
    exact (f185_16_ok hf hK)
theorem f185_cl {l0 : Nat} {l1 : Int32} {h : q_H} {x : Int32 × q_H} (hf : f185 l0 l1 h = some x) : q_Cl 185 [.ref l0, .int l1] h (.inl (some (.int x.1))) x.2 := q_Cl.of rfl (q_LvS rfl rfl) (f185_ok hf ⟨rfl, rfl⟩)
/-! SmithyBenchModel.var(I)I -/
theorem qk186 : q_cs.getD 186 [] = qc_186 := rfl
def f186_47 (s0 : Int32) : m_M Int32 :=
  m_R s0
theorem f186_47_ok {s0 : Int32} {h : q_H} {o : q_O} {hz : q_H} {x : Int32 × q_H} (hf : f186_47 s0 h = some x) (hK : (q_KI o hz) x) : q_Ev none 186 47 [] [.int s0] h o hz := by
  unfold f186_47 at hf
  obtain rfl := m_R_inv hf
  obtain ⟨rfl, rfl⟩ := (show q_KI o hz (s0, _) from hK)
  exact ev_ret (q_cod qk186 rfl) rfl
def f186_27 (l0 : Nat) (l1 : Int32) (s0 : Nat) (s1 : Int32) : m_M Int32 :=
  m_B (m_aK s0 12) (fun _ => m_B (f178 s0 s1) (fun v2 => if v2 = 0 then (m_B (m_aK l0 12) (fun _ => m_B (f182 l0 1 l1 0 0 0 0) (fun v4 => f186_47 v4))) else (f186_47 0)))
theorem f186_27_ok {l0 : Nat} {l1 : Int32} {s0 : Nat} {s1 : Int32} {h : q_H} {o : q_O} {hz : q_H} {x : Int32 × q_H} (hf : f186_27 l0 l1 s0 s1 h = some x) (hK : (q_KI o hz) x) : q_Ev none 186 27 [(0, .ref l0), (1, .int l1)] [.int s1, .ref s0] h o hz := by
  unfold f186_27 at hf
  obtain ⟨g1, hf⟩ := m_aK_some hf
  refine em_call (v := (fun u => some (.int u))) (q_cod qk186 rfl) rfl rfl (q_cokV rfl rfl (Or.inr g1)) rfl (fun x e => f178_cl e) hf (fun v2 h hf => ?_)
  refine em_if_eq (q_cod qk186 rfl) (by decide) hf (fun c5 hf => ?_) (fun c5 hf => ?_)
  · refine ev_aload_n (q_cod qk186 rfl) (by decide) rfl ?_
    refine ev_ic (v := 1) (q_cod qk186 rfl) (by decide) (by decide) ?_
    refine ev_iload_n (q_cod qk186 rfl) (by decide) rfl ?_
    refine ev_ic (v := 0) (q_cod qk186 rfl) (by decide) (by decide) ?_
    refine ev_ic (v := 0) (q_cod qk186 rfl) (by decide) (by decide) ?_
    refine ev_ic (v := 0) (q_cod qk186 rfl) (by decide) (by decide) ?_
    refine ev_ic (v := 0) (q_cod qk186 rfl) (by decide) (by decide) ?_
    obtain ⟨g3, hf⟩ := m_aK_some hf
    refine em_call (v := (fun u => some (.int u))) (q_cod qk186 rfl) rfl rfl (q_cokV rfl rfl (Or.inr g3)) rfl (fun x e => f182_cl e) hf (fun v4 h hf => ?_)
    exact ev_weak (q_pk [] rfl) (f186_47_ok hf hK)
  · refine ev_ic (v := 0) (q_cod qk186 rfl) (by decide) (by decide) ?_
    refine ev_goto (q_cod qk186 rfl) (by decide) ?_
    exact ev_weak (q_pk [] rfl) (f186_47_ok hf hK)
def f186 (l0 : Nat) (l1 : Int32) : m_M Int32 :=
  m_B (f180 l1) (fun v1 => if v1 = 0 then (f186_27 l0 l1 l0 1) else (m_B (m_gI 12 l0 4) (fun v2 => if v2 = 150 then (f186_27 l0 l1 l0 2) else (f186_27 l0 l1 l0 0))))
theorem f186_ok {l0 : Nat} {l1 : Int32} {h : q_H} {o : q_O} {hz : q_H} {x : Int32 × q_H} (hf : f186 l0 l1 h = some x) (hK : (q_KI o hz) x) : q_Ev none 186 0 [(0, .ref l0), (1, .int l1)] [] h o hz := by
  unfold f186 at hf
  refine ev_aload_n (q_cod qk186 rfl) (by decide) rfl ?_
  refine ev_iload_n (q_cod qk186 rfl) (by decide) rfl ?_
  refine em_call (v := (fun u => some (.int u))) (q_cod qk186 rfl) rfl rfl (q_cokS rfl rfl) rfl (fun x e => f180_cl e) hf (fun v1 h hf => ?_)
  refine em_if_ne (q_cod qk186 rfl) (by decide) hf (fun c4 hf => ?_) (fun c4 hf => ?_)
  · refine ev_ic (v := 1) (q_cod qk186 rfl) (by decide) (by decide) ?_
    refine ev_goto (q_cod qk186 rfl) (by decide) ?_
    exact (f186_27_ok hf hK)
  · refine ev_aload_n (q_cod qk186 rfl) (by decide) rfl ?_
    refine em_gI (q_cod qk186 rfl) (by decide) (by decide) hf (fun v2 hf => ?_)
    refine ev_si (v := 150) (q_cod qk186 rfl) (by decide) (by decide) ?_
    refine em_ic_ne (q_cod qk186 rfl) (by decide) hf (fun c3 hf => ?_) (fun c3 hf => ?_)
    · refine ev_ic (v := 2) (q_cod qk186 rfl) (by decide) (by decide) ?_
      refine ev_goto (q_cod qk186 rfl) (by decide) ?_
      exact (f186_27_ok hf hK)
    · refine ev_ic (v := 0) (q_cod qk186 rfl) (by decide) (by decide) ?_
      exact (f186_27_ok hf hK)
theorem f186_cl {l0 : Nat} {l1 : Int32} {h : q_H} {x : Int32 × q_H} (hf : f186 l0 l1 h = some x) : q_Cl 186 [.ref l0, .int l1] h (.inl (some (.int x.1))) x.2 := q_Cl.of rfl (q_LvS rfl rfl) (f186_ok hf ⟨rfl, rfl⟩)
/-! SmithyBenchModel.self()I -/
theorem qk187 : q_cs.getD 187 [] = qc_187 := rfl
def f187_36 (s0 : Int32) : m_M Int32 :=
  m_R s0
theorem f187_36_ok {s0 : Int32} {h : q_H} {o : q_O} {hz : q_H} {x : Int32 × q_H} (hf : f187_36 s0 h = some x) (hK : (q_KI o hz) x) : q_Ev none 187 36 [] [.int s0] h o hz := by
  unfold f187_36 at hf
  obtain rfl := m_R_inv hf
  obtain ⟨rfl, rfl⟩ := (show q_KI o hz (s0, _) from hK)
  exact ev_ret (q_cod qk187 rfl) rfl
def f187_16 (l0 : Nat) (s0 : Nat) (s1 : Int32) : m_M Int32 :=
  m_B (m_aK s0 12) (fun _ => m_B (f178 s0 s1) (fun v2 => if v2 = 0 then (m_B (m_aK l0 12) (fun _ => m_B (f182 l0 2 0 0 0 0 0) (fun v4 => f187_36 v4))) else (f187_36 0)))
theorem f187_16_ok {l0 : Nat} {s0 : Nat} {s1 : Int32} {h : q_H} {o : q_O} {hz : q_H} {x : Int32 × q_H} (hf : f187_16 l0 s0 s1 h = some x) (hK : (q_KI o hz) x) : q_Ev none 187 16 [(0, .ref l0)] [.int s1, .ref s0] h o hz := by
  unfold f187_16 at hf
  obtain ⟨g1, hf⟩ := m_aK_some hf
  refine em_call (v := (fun u => some (.int u))) (q_cod qk187 rfl) rfl rfl (q_cokV rfl rfl (Or.inr g1)) rfl (fun x e => f178_cl e) hf (fun v2 h hf => ?_)
  refine em_if_eq (q_cod qk187 rfl) (by decide) hf (fun c5 hf => ?_) (fun c5 hf => ?_)
  · refine ev_aload_n (q_cod qk187 rfl) (by decide) rfl ?_
    refine ev_ic (v := 2) (q_cod qk187 rfl) (by decide) (by decide) ?_
    refine ev_ic (v := 0) (q_cod qk187 rfl) (by decide) (by decide) ?_
    refine ev_ic (v := 0) (q_cod qk187 rfl) (by decide) (by decide) ?_
    refine ev_ic (v := 0) (q_cod qk187 rfl) (by decide) (by decide) ?_
    refine ev_ic (v := 0) (q_cod qk187 rfl) (by decide) (by decide) ?_
    refine ev_ic (v := 0) (q_cod qk187 rfl) (by decide) (by decide) ?_
    obtain ⟨g3, hf⟩ := m_aK_some hf
    refine em_call (v := (fun u => some (.int u))) (q_cod qk187 rfl) rfl rfl (q_cokV rfl rfl (Or.inr g3)) rfl (fun x e => f182_cl e) hf (fun v4 h hf => ?_)
    exact ev_weak (q_pk [] rfl) (f187_36_ok hf hK)
  · refine ev_ic (v := 0) (q_cod qk187 rfl) (by decide) (by decide) ?_
    refine ev_goto (q_cod qk187 rfl) (by decide) ?_
    exact ev_weak (q_pk [] rfl) (f187_36_ok hf hK)
def f187 (l0 : Nat) : m_M Int32 :=
  m_B (m_gI 12 l0 4) (fun v1 => if v1 = 150 then (f187_16 l0 l0 1) else (f187_16 l0 l0 0))
theorem f187_ok {l0 : Nat} {h : q_H} {o : q_O} {hz : q_H} {x : Int32 × q_H} (hf : f187 l0 h = some x) (hK : (q_KI o hz) x) : q_Ev none 187 0 [(0, .ref l0)] [] h o hz := by
  unfold f187 at hf
  refine ev_aload_n (q_cod qk187 rfl) (by decide) rfl ?_
  refine ev_aload_n (q_cod qk187 rfl) (by decide) rfl ?_
  refine em_gI (q_cod qk187 rfl) (by decide) (by decide) hf (fun v1 hf => ?_)
  refine ev_si (v := 150) (q_cod qk187 rfl) (by decide) (by decide) ?_
  refine em_ic_ne (q_cod qk187 rfl) (by decide) hf (fun c2 hf => ?_) (fun c2 hf => ?_)
  · refine ev_ic (v := 1) (q_cod qk187 rfl) (by decide) (by decide) ?_
    refine ev_goto (q_cod qk187 rfl) (by decide) ?_
    exact (f187_16_ok hf hK)
  · refine ev_ic (v := 0) (q_cod qk187 rfl) (by decide) (by decide) ?_
    exact (f187_16_ok hf hK)
theorem f187_cl {l0 : Nat} {h : q_H} {x : Int32 × q_H} (hf : f187 l0 h = some x) : q_Cl 187 [.ref l0] h (.inl (some (.int x.1))) x.2 := q_Cl.of rfl (q_LvS rfl rfl) (f187_ok hf ⟨rfl, rfl⟩)
/-! SmithyBenchModel.field(II)I -/
theorem qk188 : q_cs.getD 188 [] = qc_188 := rfl
def f188_34 (s0 : Int32) : m_M Int32 :=
  m_R s0
theorem f188_34_ok {s0 : Int32} {h : q_H} {o : q_O} {hz : q_H} {x : Int32 × q_H} (hf : f188_34 s0 h = some x) (hK : (q_KI o hz) x) : q_Ev none 188 34 [] [.int s0] h o hz := by
  unfold f188_34 at hf
  obtain rfl := m_R_inv hf
  obtain ⟨rfl, rfl⟩ := (show q_KI o hz (s0, _) from hK)
  exact ev_ret (q_cod qk188 rfl) rfl
def f188 (l0 : Nat) (l1 : Int32) (l2 : Int32) : m_M Int32 :=
  m_B (m_aK l0 12) (fun _ => m_B (f181 l0 l1) (fun v2 => m_B (f180 l2) (fun v3 => m_B (m_aK l0 12) (fun _ => m_B (f184 l0 v2 v3) (fun v5 => m_B (m_aK l0 12) (fun _ => m_B (f178 l0 v5) (fun v7 => if v7 = 0 then (m_B (m_aK l0 12) (fun _ => m_B (f182 l0 3 l2 0 l1 0 0) (fun v9 => f188_34 v9))) else (f188_34 0))))))))
theorem f188_ok {l0 : Nat} {l1 : Int32} {l2 : Int32} {h : q_H} {o : q_O} {hz : q_H} {x : Int32 × q_H} (hf : f188 l0 l1 l2 h = some x) (hK : (q_KI o hz) x) : q_Ev none 188 0 [(0, .ref l0), (1, .int l1), (2, .int l2)] [] h o hz := by
  unfold f188 at hf
  refine ev_aload_n (q_cod qk188 rfl) (by decide) rfl ?_
  refine ev_aload_n (q_cod qk188 rfl) (by decide) rfl ?_
  refine ev_aload_n (q_cod qk188 rfl) (by decide) rfl ?_
  refine ev_iload_n (q_cod qk188 rfl) (by decide) rfl ?_
  obtain ⟨g1, hf⟩ := m_aK_some hf
  refine em_call (v := (fun u => some (.int u))) (q_cod qk188 rfl) rfl rfl (q_cokV rfl rfl (Or.inr g1)) rfl (fun x e => f181_cl e) hf (fun v2 h hf => ?_)
  refine ev_iload_n (q_cod qk188 rfl) (by decide) rfl ?_
  refine em_call (v := (fun u => some (.int u))) (q_cod qk188 rfl) rfl rfl (q_cokS rfl rfl) rfl (fun x e => f180_cl e) hf (fun v3 h hf => ?_)
  obtain ⟨g4, hf⟩ := m_aK_some hf
  refine em_call (v := (fun u => some (.int u))) (q_cod qk188 rfl) rfl rfl (q_cokV rfl rfl (Or.inr g4)) rfl (fun x e => f184_cl e) hf (fun v5 h hf => ?_)
  obtain ⟨g6, hf⟩ := m_aK_some hf
  refine em_call (v := (fun u => some (.int u))) (q_cod qk188 rfl) rfl rfl (q_cokV rfl rfl (Or.inr g6)) rfl (fun x e => f178_cl e) hf (fun v7 h hf => ?_)
  refine em_if_eq (q_cod qk188 rfl) (by decide) hf (fun c10 hf => ?_) (fun c10 hf => ?_)
  · refine ev_aload_n (q_cod qk188 rfl) (by decide) rfl ?_
    refine ev_ic (v := 3) (q_cod qk188 rfl) (by decide) (by decide) ?_
    refine ev_iload_n (q_cod qk188 rfl) (by decide) rfl ?_
    refine ev_ic (v := 0) (q_cod qk188 rfl) (by decide) (by decide) ?_
    refine ev_iload_n (q_cod qk188 rfl) (by decide) rfl ?_
    refine ev_ic (v := 0) (q_cod qk188 rfl) (by decide) (by decide) ?_
    refine ev_ic (v := 0) (q_cod qk188 rfl) (by decide) (by decide) ?_
    obtain ⟨g8, hf⟩ := m_aK_some hf
    refine em_call (v := (fun u => some (.int u))) (q_cod qk188 rfl) rfl rfl (q_cokV rfl rfl (Or.inr g8)) rfl (fun x e => f182_cl e) hf (fun v9 h hf => ?_)
    exact ev_weak (q_pk [] rfl) (f188_34_ok hf hK)
  · refine ev_ic (v := 0) (q_cod qk188 rfl) (by decide) (by decide) ?_
    refine ev_goto (q_cod qk188 rfl) (by decide) ?_
    exact ev_weak (q_pk [] rfl) (f188_34_ok hf hK)
theorem f188_cl {l0 : Nat} {l1 : Int32} {l2 : Int32} {h : q_H} {x : Int32 × q_H} (hf : f188 l0 l1 l2 h = some x) : q_Cl 188 [.ref l0, .int l1, .int l2] h (.inl (some (.int x.1))) x.2 := q_Cl.of rfl (q_LvS rfl rfl) (f188_ok hf ⟨rfl, rfl⟩)
/-! SmithyBenchModel.put(III)I -/
theorem qk189 : q_cs.getD 189 [] = qc_189 := rfl
def f189_50 (s0 : Int32) : m_M Int32 :=
  m_R s0
theorem f189_50_ok {s0 : Int32} {h : q_H} {o : q_O} {hz : q_H} {x : Int32 × q_H} (hf : f189_50 s0 h = some x) (hK : (q_KI o hz) x) : q_Ev none 189 50 [] [.int s0] h o hz := by
  unfold f189_50 at hf
  obtain rfl := m_R_inv hf
  obtain ⟨rfl, rfl⟩ := (show q_KI o hz (s0, _) from hK)
  exact ev_ret (q_cod qk189 rfl) rfl
def f189_23 (l0 : Nat) (l1 : Int32) (l2 : Int32) (l3 : Int32) (s0 : Nat) (s1 : Nat) (s2 : Int32) : m_M Int32 :=
  m_B (f180 l2) (fun v1 => m_B (m_aK s1 12) (fun _ => m_B (f184 s1 s2 v1) (fun v3 => m_B (m_aK s0 12) (fun _ => m_B (f178 s0 v3) (fun v5 => if v5 = 0 then (m_B (m_aK l0 12) (fun _ => m_B (f182 l0 4 l2 0 l1 l3 0) (fun v7 => f189_50 v7))) else (f189_50 0))))))
theorem f189_23_ok {l0 : Nat} {l1 : Int32} {l2 : Int32} {l3 : Int32} {s0 : Nat} {s1 : Nat} {s2 : Int32} {h : q_H} {o : q_O} {hz : q_H} {x : Int32 × q_H} (hf : f189_23 l0 l1 l2 l3 s0 s1 s2 h = some x) (hK : (q_KI o hz) x) : q_Ev none 189 23 [(0, .ref l0), (1, .int l1), (2, .int l2), (3, .int l3)] [.int s2, .ref s1, .ref s0] h o hz := by
  unfold f189_23 at hf
  refine ev_iload_n (q_cod qk189 rfl) (by decide) rfl ?_
  refine em_call (v := (fun u => some (.int u))) (q_cod qk189 rfl) rfl rfl (q_cokS rfl rfl) rfl (fun x e => f180_cl e) hf (fun v1 h hf => ?_)
  obtain ⟨g2, hf⟩ := m_aK_some hf
  refine em_call (v := (fun u => some (.int u))) (q_cod qk189 rfl) rfl rfl (q_cokV rfl rfl (Or.inr g2)) rfl (fun x e => f184_cl e) hf (fun v3 h hf => ?_)
  obtain ⟨g4, hf⟩ := m_aK_some hf
  refine em_call (v := (fun u => some (.int u))) (q_cod qk189 rfl) rfl rfl (q_cokV rfl rfl (Or.inr g4)) rfl (fun x e => f178_cl e) hf (fun v5 h hf => ?_)
  refine em_if_eq (q_cod qk189 rfl) (by decide) hf (fun c8 hf => ?_) (fun c8 hf => ?_)
  · refine ev_aload_n (q_cod qk189 rfl) (by decide) rfl ?_
    refine ev_ic (v := 4) (q_cod qk189 rfl) (by decide) (by decide) ?_
    refine ev_iload_n (q_cod qk189 rfl) (by decide) rfl ?_
    refine ev_ic (v := 0) (q_cod qk189 rfl) (by decide) (by decide) ?_
    refine ev_iload_n (q_cod qk189 rfl) (by decide) rfl ?_
    refine ev_iload_n (q_cod qk189 rfl) (by decide) rfl ?_
    refine ev_ic (v := 0) (q_cod qk189 rfl) (by decide) (by decide) ?_
    obtain ⟨g6, hf⟩ := m_aK_some hf
    refine em_call (v := (fun u => some (.int u))) (q_cod qk189 rfl) rfl rfl (q_cokV rfl rfl (Or.inr g6)) rfl (fun x e => f182_cl e) hf (fun v7 h hf => ?_)
    exact ev_weak (q_pk [] rfl) (f189_50_ok hf hK)
  · refine ev_ic (v := 0) (q_cod qk189 rfl) (by decide) (by decide) ?_
    refine ev_goto (q_cod qk189 rfl) (by decide) ?_
    exact ev_weak (q_pk [] rfl) (f189_50_ok hf hK)
def f189_22 (l0 : Nat) (l1 : Int32) (l2 : Int32) (l3 : Int32) (s0 : Nat) (s1 : Nat) : m_M Int32 :=
  f189_23 l0 l1 l2 l3 s0 s1 0
theorem f189_22_ok {l0 : Nat} {l1 : Int32} {l2 : Int32} {l3 : Int32} {s0 : Nat} {s1 : Nat} {h : q_H} {o : q_O} {hz : q_H} {x : Int32 × q_H} (hf : f189_22 l0 l1 l2 l3 s0 s1 h = some x) (hK : (q_KI o hz) x) : q_Ev none 189 22 [(0, .ref l0), (1, .int l1), (2, .int l2), (3, .int l3)] [.ref s1, .ref s0] h o hz := by
  unfold f189_22 at hf
  refine ev_ic (v := 0) (q_cod qk189 rfl) (by decide) (by decide) ?_
  exact (f189_23_ok hf hK)
def f189 (l0 : Nat) (l1 : Int32) (l2 : Int32) (l3 : Int32) : m_M Int32 :=
  m_B (m_aK l0 12) (fun _ => m_B (f181 l0 l1) (fun v2 => if v2 = 0 then (f189_22 l0 l1 l2 l3 l0 l0) else (m_B (m_aK l0 12) (fun _ => m_B (f181 l0 l3) (fun v4 => if v4 = 0 then (f189_22 l0 l1 l2 l3 l0 l0) else (f189_23 l0 l1 l2 l3 l0 l0 1))))))
theorem f189_ok {l0 : Nat} {l1 : Int32} {l2 : Int32} {l3 : Int32} {h : q_H} {o : q_O} {hz : q_H} {x : Int32 × q_H} (hf : f189 l0 l1 l2 l3 h = some x) (hK : (q_KI o hz) x) : q_Ev none 189 0 [(0, .ref l0), (1, .int l1), (2, .int l2), (3, .int l3)] [] h o hz := by
  unfold f189 at hf
  refine ev_aload_n (q_cod qk189 rfl) (by decide) rfl ?_
  refine ev_aload_n (q_cod qk189 rfl) (by decide) rfl ?_
  refine ev_aload_n (q_cod qk189 rfl) (by decide) rfl ?_
  refine ev_iload_n (q_cod qk189 rfl) (by decide) rfl ?_
  obtain ⟨g1, hf⟩ := m_aK_some hf
  refine em_call (v := (fun u => some (.int u))) (q_cod qk189 rfl) rfl rfl (q_cokV rfl rfl (Or.inr g1)) rfl (fun x e => f181_cl e) hf (fun v2 h hf => ?_)
  refine em_if_eq (q_cod qk189 rfl) (by decide) hf (fun c6 hf => ?_) (fun c6 hf => ?_)
  · exact (f189_22_ok hf hK)
  · refine ev_aload_n (q_cod qk189 rfl) (by decide) rfl ?_
    refine ev_iload_n (q_cod qk189 rfl) (by decide) rfl ?_
    obtain ⟨g3, hf⟩ := m_aK_some hf
    refine em_call (v := (fun u => some (.int u))) (q_cod qk189 rfl) rfl rfl (q_cokV rfl rfl (Or.inr g3)) rfl (fun x e => f181_cl e) hf (fun v4 h hf => ?_)
    refine em_if_eq (q_cod qk189 rfl) (by decide) hf (fun c5 hf => ?_) (fun c5 hf => ?_)
    · exact (f189_22_ok hf hK)
    · refine ev_ic (v := 1) (q_cod qk189 rfl) (by decide) (by decide) ?_
      refine ev_goto (q_cod qk189 rfl) (by decide) ?_
      exact (f189_23_ok hf hK)
theorem f189_cl {l0 : Nat} {l1 : Int32} {l2 : Int32} {l3 : Int32} {h : q_H} {x : Int32 × q_H} (hf : f189 l0 l1 l2 l3 h = some x) : q_Cl 189 [.ref l0, .int l1, .int l2, .int l3] h (.inl (some (.int x.1))) x.2 := q_Cl.of rfl (q_LvS rfl rfl) (f189_ok hf ⟨rfl, rfl⟩)
/-! SmithyBenchModel.let(III)I -/
theorem qk190 : q_cs.getD 190 [] = qc_190 := rfl
def f190_76 (s0 : Int32) : m_M Int32 :=
  m_R s0
theorem f190_76_ok {s0 : Int32} {h : q_H} {o : q_O} {hz : q_H} {x : Int32 × q_H} (hf : f190_76 s0 h = some x) (hK : (q_KI o hz) x) : q_Ev none 190 76 [] [.int s0] h o hz := by
  unfold f190_76 at hf
  obtain rfl := m_R_inv hf
  obtain ⟨rfl, rfl⟩ := (show q_KI o hz (s0, _) from hK)
  exact ev_ret (q_cod qk190 rfl) rfl
def f190_26 (l0 : Nat) (l1 : Int32) (l2 : Int32) (l3 : Int32) (s0 : Int32) : m_M Int32 :=
  m_B (f180 l1) (fun v1 => m_B (m_aK l0 12) (fun _ => m_B (f184 l0 s0 v1) (fun v3 => m_B (m_aK l0 12) (fun _ => m_B (f178 l0 v3) (fun v5 => if v5 = 0 then (if l3 = (-1) then (m_B (m_aK l0 12) (fun _ => m_B (f182 l0 6 l1 0 l2 0 0) (fun v7 => f190_76 v7))) else (m_B (m_aK l0 12) (fun _ => m_B (f182 l0 5 l1 0 l2 l3 0) (fun v9 => f190_76 v9)))) else (m_R 0))))))
theorem f190_26_ok {l0 : Nat} {l1 : Int32} {l2 : Int32} {l3 : Int32} {s0 : Int32} {h : q_H} {o : q_O} {hz : q_H} {x : Int32 × q_H} (hf : f190_26 l0 l1 l2 l3 s0 h = some x) (hK : (q_KI o hz) x) : q_Ev none 190 26 [(0, .ref l0), (1, .int l1), (2, .int l2), (3, .int l3)] [.int s0] h o hz := by
  unfold f190_26 at hf
  refine ev_is2 (L' := [(0, .ref l0), (1, .int l1), (2, .int l2), (3, .int l3), (4, .int s0)]) (q_cod qk190 rfl) (by decide) rfl ?_
  refine ev_aload_n (q_cod qk190 rfl) (by decide) rfl ?_
  refine ev_aload_n (q_cod qk190 rfl) (by decide) rfl ?_
  refine ev_iload (q_cod qk190 rfl) (by decide) rfl ?_
  refine ev_iload_n (q_cod qk190 rfl) (by decide) rfl ?_
  refine em_call (v := (fun u => some (.int u))) (q_cod qk190 rfl) rfl rfl (q_cokS rfl rfl) rfl (fun x e => f180_cl e) hf (fun v1 h hf => ?_)
  obtain ⟨g2, hf⟩ := m_aK_some hf
  refine em_call (v := (fun u => some (.int u))) (q_cod qk190 rfl) rfl rfl (q_cokV rfl rfl (Or.inr g2)) rfl (fun x e => f184_cl e) hf (fun v3 h hf => ?_)
  obtain ⟨g4, hf⟩ := m_aK_some hf
  refine em_call (v := (fun u => some (.int u))) (q_cod qk190 rfl) rfl rfl (q_cokV rfl rfl (Or.inr g4)) rfl (fun x e => f178_cl e) hf (fun v5 h hf => ?_)
  refine em_if_eq (q_cod qk190 rfl) (by decide) hf (fun c11 hf => ?_) (fun c11 hf => ?_)
  · refine ev_iload_n (q_cod qk190 rfl) (by decide) rfl ?_
    refine ev_ic (v := (-1)) (q_cod qk190 rfl) (by decide) (by decide) ?_
    refine em_ic_ne (q_cod qk190 rfl) (by decide) hf (fun c10 hf => ?_) (fun c10 hf => ?_)
    · refine ev_aload_n (q_cod qk190 rfl) (by decide) rfl ?_
      refine ev_bi (v := 6) (q_cod qk190 rfl) (by decide) (by decide) ?_
      refine ev_iload_n (q_cod qk190 rfl) (by decide) rfl ?_
      refine ev_ic (v := 0) (q_cod qk190 rfl) (by decide) (by decide) ?_
      refine ev_iload_n (q_cod qk190 rfl) (by decide) rfl ?_
      refine ev_ic (v := 0) (q_cod qk190 rfl) (by decide) (by decide) ?_
      refine ev_ic (v := 0) (q_cod qk190 rfl) (by decide) (by decide) ?_
      obtain ⟨g6, hf⟩ := m_aK_some hf
      refine em_call (v := (fun u => some (.int u))) (q_cod qk190 rfl) rfl rfl (q_cokV rfl rfl (Or.inr g6)) rfl (fun x e => f182_cl e) hf (fun v7 h hf => ?_)
      refine ev_goto (q_cod qk190 rfl) (by decide) ?_
      exact ev_weak (q_pk [] rfl) (f190_76_ok hf hK)
    · refine ev_aload_n (q_cod qk190 rfl) (by decide) rfl ?_
      refine ev_ic (v := 5) (q_cod qk190 rfl) (by decide) (by decide) ?_
      refine ev_iload_n (q_cod qk190 rfl) (by decide) rfl ?_
      refine ev_ic (v := 0) (q_cod qk190 rfl) (by decide) (by decide) ?_
      refine ev_iload_n (q_cod qk190 rfl) (by decide) rfl ?_
      refine ev_iload_n (q_cod qk190 rfl) (by decide) rfl ?_
      refine ev_ic (v := 0) (q_cod qk190 rfl) (by decide) (by decide) ?_
      obtain ⟨g8, hf⟩ := m_aK_some hf
      refine em_call (v := (fun u => some (.int u))) (q_cod qk190 rfl) rfl rfl (q_cokV rfl rfl (Or.inr g8)) rfl (fun x e => f182_cl e) hf (fun v9 h hf => ?_)
      exact ev_weak (q_pk [] rfl) (f190_76_ok hf hK)
  · refine ev_ic (v := 0) (q_cod qk190 rfl) (by decide) (by decide) ?_
    obtain rfl := m_R_inv hf
    obtain ⟨rfl, rfl⟩ := (show q_KI o hz (0, _) from hK)
    exact ev_ret (q_cod qk190 rfl) rfl
def f190_25 (l0 : Nat) (l1 : Int32) (l2 : Int32) (l3 : Int32) : m_M Int32 :=
  f190_26 l0 l1 l2 l3 0
theorem f190_25_ok {l0 : Nat} {l1 : Int32} {l2 : Int32} {l3 : Int32} {h : q_H} {o : q_O} {hz : q_H} {x : Int32 × q_H} (hf : f190_25 l0 l1 l2 l3 h = some x) (hK : (q_KI o hz) x) : q_Ev none 190 25 [(0, .ref l0), (1, .int l1), (2, .int l2), (3, .int l3)] [] h o hz := by
  unfold f190_25 at hf
  refine ev_ic (v := 0) (q_cod qk190 rfl) (by decide) (by decide) ?_
  exact (f190_26_ok hf hK)
def f190_21 (l0 : Nat) (l1 : Int32) (l2 : Int32) (l3 : Int32) : m_M Int32 :=
  f190_26 l0 l1 l2 l3 1
theorem f190_21_ok {l0 : Nat} {l1 : Int32} {l2 : Int32} {l3 : Int32} {h : q_H} {o : q_O} {hz : q_H} {x : Int32 × q_H} (hf : f190_21 l0 l1 l2 l3 h = some x) (hK : (q_KI o hz) x) : q_Ev none 190 21 [(0, .ref l0), (1, .int l1), (2, .int l2), (3, .int l3)] [] h o hz := by
  unfold f190_21 at hf
  refine ev_ic (v := 1) (q_cod qk190 rfl) (by decide) (by decide) ?_
  refine ev_goto (q_cod qk190 rfl) (by decide) ?_
  exact (f190_26_ok hf hK)
def f190 (l0 : Nat) (l1 : Int32) (l2 : Int32) (l3 : Int32) : m_M Int32 :=
  m_B (m_aK l0 12) (fun _ => m_B (f181 l0 l2) (fun v2 => if v2 = 0 then (f190_25 l0 l1 l2 l3) else (if l3 = (-1) then (f190_21 l0 l1 l2 l3) else (m_B (m_aK l0 12) (fun _ => m_B (f181 l0 l3) (fun v4 => if v4 = 0 then (f190_25 l0 l1 l2 l3) else (f190_21 l0 l1 l2 l3)))))))
theorem f190_ok {l0 : Nat} {l1 : Int32} {l2 : Int32} {l3 : Int32} {h : q_H} {o : q_O} {hz : q_H} {x : Int32 × q_H} (hf : f190 l0 l1 l2 l3 h = some x) (hK : (q_KI o hz) x) : q_Ev none 190 0 [(0, .ref l0), (1, .int l1), (2, .int l2), (3, .int l3)] [] h o hz := by
  unfold f190 at hf
  refine ev_aload_n (q_cod qk190 rfl) (by decide) rfl ?_
  refine ev_iload_n (q_cod qk190 rfl) (by decide) rfl ?_
  obtain ⟨g1, hf⟩ := m_aK_some hf
  refine em_call (v := (fun u => some (.int u))) (q_cod qk190 rfl) rfl rfl (q_cokV rfl rfl (Or.inr g1)) rfl (fun x e => f181_cl e) hf (fun v2 h hf => ?_)
  refine em_if_eq (q_cod qk190 rfl) (by decide) hf (fun c7 hf => ?_) (fun c7 hf => ?_)
  · exact (f190_25_ok hf hK)
  · refine ev_iload_n (q_cod qk190 rfl) (by decide) rfl ?_
    refine ev_ic (v := (-1)) (q_cod qk190 rfl) (by decide) (by decide) ?_
    refine em_ic_eq (q_cod qk190 rfl) (by decide) hf (fun c6 hf => ?_) (fun c6 hf => ?_)
    · exact (f190_21_ok hf hK)
    · refine ev_aload_n (q_cod qk190 rfl) (by decide) rfl ?_
      refine ev_iload_n (q_cod qk190 rfl) (by decide) rfl ?_
      obtain ⟨g3, hf⟩ := m_aK_some hf
      refine em_call (v := (fun u => some (.int u))) (q_cod qk190 rfl) rfl rfl (q_cokV rfl rfl (Or.inr g3)) rfl (fun x e => f181_cl e) hf (fun v4 h hf => ?_)
      refine em_if_eq (q_cod qk190 rfl) (by decide) hf (fun c5 hf => ?_) (fun c5 hf => ?_)
      · exact (f190_25_ok hf hK)
      · exact (f190_21_ok hf hK)
theorem f190_cl {l0 : Nat} {l1 : Int32} {l2 : Int32} {l3 : Int32} {h : q_H} {x : Int32 × q_H} (hf : f190 l0 l1 l2 l3 h = some x) : q_Cl 190 [.ref l0, .int l1, .int l2, .int l3] h (.inl (some (.int x.1))) x.2 := q_Cl.of rfl (q_LvS rfl rfl) (f190_ok hf ⟨rfl, rfl⟩)
/-! SmithyBenchModel.call(IIII)I -/
theorem qk191 : q_cs.getD 191 [] = qc_191 := rfl
def f191_122 (s0 : Int32) : m_M Int32 :=
  m_R s0
theorem f191_122_ok {s0 : Int32} {h : q_H} {o : q_O} {hz : q_H} {x : Int32 × q_H} (hf : f191_122 s0 h = some x) (hK : (q_KI o hz) x) : q_Ev none 191 122 [] [.int s0] h o hz := by
  unfold f191_122 at hf
  obtain rfl := m_R_inv hf
  obtain ⟨rfl, rfl⟩ := (show q_KI o hz (s0, _) from hK)
  exact ev_ret (q_cod qk191 rfl) rfl
def f191_88 (l0 : Nat) (l1 : Int32) (l2 : Int32) (l3 : Int32) (l4 : Int32) (l5 : Int32) (l6 : Int32) (s0 : Int32) : m_M Int32 :=
  m_B (m_aK l0 12) (fun _ => m_B (f184 l0 l5 l6) (fun v2 => m_B (m_aK l0 12) (fun _ => m_B (f178 l0 v2) (fun v4 => if v4 = 0 then (m_B (m_aK l0 12) (fun _ => m_B (f182 l0 7 l2 s0 l1 l3 l4) (fun v6 => f191_122 v6))) else (f191_122 0)))))
theorem f191_88_ok {l0 : Nat} {l1 : Int32} {l2 : Int32} {l3 : Int32} {l4 : Int32} {l5 : Int32} {l6 : Int32} {s0 : Int32} {h : q_H} {o : q_O} {hz : q_H} {x : Int32 × q_H} (hf : f191_88 l0 l1 l2 l3 l4 l5 l6 s0 h = some x) (hK : (q_KI o hz) x) : q_Ev none 191 88 [(0, .ref l0), (1, .int l1), (2, .int l2), (3, .int l3), (4, .int l4), (5, .int l5), (6, .int l6)] [.int s0] h o hz := by
  unfold f191_88 at hf
  refine ev_is2 (L' := [(0, .ref l0), (1, .int l1), (2, .int l2), (3, .int l3), (4, .int l4), (5, .int l5), (6, .int l6), (7, .int s0)]) (q_cod qk191 rfl) (by decide) rfl ?_
  refine ev_aload_n (q_cod qk191 rfl) (by decide) rfl ?_
  refine ev_aload_n (q_cod qk191 rfl) (by decide) rfl ?_
  refine ev_iload (q_cod qk191 rfl) (by decide) rfl ?_
  refine ev_iload (q_cod qk191 rfl) (by decide) rfl ?_
  obtain ⟨g1, hf⟩ := m_aK_some hf
  refine em_call (v := (fun u => some (.int u))) (q_cod qk191 rfl) rfl rfl (q_cokV rfl rfl (Or.inr g1)) rfl (fun x e => f184_cl e) hf (fun v2 h hf => ?_)
  obtain ⟨g3, hf⟩ := m_aK_some hf
  refine em_call (v := (fun u => some (.int u))) (q_cod qk191 rfl) rfl rfl (q_cokV rfl rfl (Or.inr g3)) rfl (fun x e => f178_cl e) hf (fun v4 h hf => ?_)
  refine em_if_eq (q_cod qk191 rfl) (by decide) hf (fun c7 hf => ?_) (fun c7 hf => ?_)
  · refine ev_aload_n (q_cod qk191 rfl) (by decide) rfl ?_
    refine ev_bi (v := 7) (q_cod qk191 rfl) (by decide) (by decide) ?_
    refine ev_iload_n (q_cod qk191 rfl) (by decide) rfl ?_
    refine ev_iload (q_cod qk191 rfl) (by decide) rfl ?_
    refine ev_iload_n (q_cod qk191 rfl) (by decide) rfl ?_
    refine ev_iload_n (q_cod qk191 rfl) (by decide) rfl ?_
    refine ev_iload (q_cod qk191 rfl) (by decide) rfl ?_
    obtain ⟨g5, hf⟩ := m_aK_some hf
    refine em_call (v := (fun u => some (.int u))) (q_cod qk191 rfl) rfl rfl (q_cokV rfl rfl (Or.inr g5)) rfl (fun x e => f182_cl e) hf (fun v6 h hf => ?_)
    exact ev_weak (q_pk [] rfl) (f191_122_ok hf hK)
  · refine ev_ic (v := 0) (q_cod qk191 rfl) (by decide) (by decide) ?_
    refine ev_goto (q_cod qk191 rfl) (by decide) ?_
    exact ev_weak (q_pk [] rfl) (f191_122_ok hf hK)
def f191_66 (l0 : Nat) (l1 : Int32) (l2 : Int32) (l3 : Int32) (l4 : Int32) (l5 : Int32) (s0 : Int32) : m_M Int32 :=
  if l3 = (-1) then (f191_88 l0 l1 l2 l3 l4 l5 s0 0) else (if l4 = (-1) then (f191_88 l0 l1 l2 l3 l4 l5 s0 1) else (f191_88 l0 l1 l2 l3 l4 l5 s0 2))
theorem f191_66_ok {l0 : Nat} {l1 : Int32} {l2 : Int32} {l3 : Int32} {l4 : Int32} {l5 : Int32} {s0 : Int32} {h : q_H} {o : q_O} {hz : q_H} {x : Int32 × q_H} (hf : f191_66 l0 l1 l2 l3 l4 l5 s0 h = some x) (hK : (q_KI o hz) x) : q_Ev none 191 66 [(0, .ref l0), (1, .int l1), (2, .int l2), (3, .int l3), (4, .int l4), (5, .int l5)] [.int s0] h o hz := by
  unfold f191_66 at hf
  refine ev_is2 (L' := [(0, .ref l0), (1, .int l1), (2, .int l2), (3, .int l3), (4, .int l4), (5, .int l5), (6, .int s0)]) (q_cod qk191 rfl) (by decide) rfl ?_
  refine ev_iload_n (q_cod qk191 rfl) (by decide) rfl ?_
  refine ev_ic (v := (-1)) (q_cod qk191 rfl) (by decide) (by decide) ?_
  refine em_ic_ne (q_cod qk191 rfl) (by decide) hf (fun c2 hf => ?_) (fun c2 hf => ?_)
  · refine ev_ic (v := 0) (q_cod qk191 rfl) (by decide) (by decide) ?_
    refine ev_goto (q_cod qk191 rfl) (by decide) ?_
    exact (f191_88_ok hf hK)
  · refine ev_iload (q_cod qk191 rfl) (by decide) rfl ?_
    refine ev_ic (v := (-1)) (q_cod qk191 rfl) (by decide) (by decide) ?_
    refine em_ic_ne (q_cod qk191 rfl) (by decide) hf (fun c1 hf => ?_) (fun c1 hf => ?_)
    · refine ev_ic (v := 1) (q_cod qk191 rfl) (by decide) (by decide) ?_
      refine ev_goto (q_cod qk191 rfl) (by decide) ?_
      exact (f191_88_ok hf hK)
    · refine ev_ic (v := 2) (q_cod qk191 rfl) (by decide) (by decide) ?_
      exact (f191_88_ok hf hK)
def f191_65 (l0 : Nat) (l1 : Int32) (l2 : Int32) (l3 : Int32) (l4 : Int32) (l5 : Int32) : m_M Int32 :=
  f191_66 l0 l1 l2 l3 l4 l5 0
theorem f191_65_ok {l0 : Nat} {l1 : Int32} {l2 : Int32} {l3 : Int32} {l4 : Int32} {l5 : Int32} {h : q_H} {o : q_O} {hz : q_H} {x : Int32 × q_H} (hf : f191_65 l0 l1 l2 l3 l4 l5 h = some x) (hK : (q_KI o hz) x) : q_Ev none 191 65 [(0, .ref l0), (1, .int l1), (2, .int l2), (3, .int l3), (4, .int l4), (5, .int l5)] [] h o hz := by
  unfold f191_65 at hf
  refine ev_ic (v := 0) (q_cod qk191 rfl) (by decide) (by decide) ?_
  exact (f191_66_ok hf hK)
def f191_61 (l0 : Nat) (l1 : Int32) (l2 : Int32) (l3 : Int32) (l4 : Int32) (l5 : Int32) : m_M Int32 :=
  f191_66 l0 l1 l2 l3 l4 l5 1
theorem f191_61_ok {l0 : Nat} {l1 : Int32} {l2 : Int32} {l3 : Int32} {l4 : Int32} {l5 : Int32} {h : q_H} {o : q_O} {hz : q_H} {x : Int32 × q_H} (hf : f191_61 l0 l1 l2 l3 l4 l5 h = some x) (hK : (q_KI o hz) x) : q_Ev none 191 61 [(0, .ref l0), (1, .int l1), (2, .int l2), (3, .int l3), (4, .int l4), (5, .int l5)] [] h o hz := by
  unfold f191_61 at hf
  refine ev_ic (v := 1) (q_cod qk191 rfl) (by decide) (by decide) ?_
  refine ev_goto (q_cod qk191 rfl) (by decide) ?_
  exact (f191_66_ok hf hK)
def f191_41 (l0 : Nat) (l1 : Int32) (l2 : Int32) (l3 : Int32) (l4 : Int32) (s0 : Int32) : m_M Int32 :=
  m_B (f180 l2) (fun v1 => if v1 = 0 then (f191_65 l0 l1 l2 l3 l4 s0) else (if l4 = (-1) then (f191_61 l0 l1 l2 l3 l4 s0) else (if l3 = (-1) then (f191_65 l0 l1 l2 l3 l4 s0) else (f191_61 l0 l1 l2 l3 l4 s0))))
theorem f191_41_ok {l0 : Nat} {l1 : Int32} {l2 : Int32} {l3 : Int32} {l4 : Int32} {s0 : Int32} {h : q_H} {o : q_O} {hz : q_H} {x : Int32 × q_H} (hf : f191_41 l0 l1 l2 l3 l4 s0 h = some x) (hK : (q_KI o hz) x) : q_Ev none 191 41 [(0, .ref l0), (1, .int l1), (2, .int l2), (3, .int l3), (4, .int l4)] [.int s0] h o hz := by
  unfold f191_41 at hf
  refine ev_is2 (L' := [(0, .ref l0), (1, .int l1), (2, .int l2), (3, .int l3), (4, .int l4), (5, .int s0)]) (q_cod qk191 rfl) (by decide) rfl ?_
  refine ev_iload_n (q_cod qk191 rfl) (by decide) rfl ?_
  refine em_call (v := (fun u => some (.int u))) (q_cod qk191 rfl) rfl rfl (q_cokS rfl rfl) rfl (fun x e => f180_cl e) hf (fun v1 h hf => ?_)
  refine em_if_eq (q_cod qk191 rfl) (by decide) hf (fun c4 hf => ?_) (fun c4 hf => ?_)
  · exact (f191_65_ok hf hK)
  · refine ev_iload (q_cod qk191 rfl) (by decide) rfl ?_
    refine ev_ic (v := (-1)) (q_cod qk191 rfl) (by decide) (by decide) ?_
    refine em_ic_eq (q_cod qk191 rfl) (by decide) hf (fun c3 hf => ?_) (fun c3 hf => ?_)
    · exact (f191_61_ok hf hK)
    · refine ev_iload_n (q_cod qk191 rfl) (by decide) rfl ?_
      refine ev_ic (v := (-1)) (q_cod qk191 rfl) (by decide) (by decide) ?_
      refine em_ic_eq (q_cod qk191 rfl) (by decide) hf (fun c2 hf => ?_) (fun c2 hf => ?_)
      · exact (f191_65_ok hf hK)
      · exact (f191_61_ok hf hK)
def f191_40 (l0 : Nat) (l1 : Int32) (l2 : Int32) (l3 : Int32) (l4 : Int32) : m_M Int32 :=
  f191_41 l0 l1 l2 l3 l4 0
theorem f191_40_ok {l0 : Nat} {l1 : Int32} {l2 : Int32} {l3 : Int32} {l4 : Int32} {h : q_H} {o : q_O} {hz : q_H} {x : Int32 × q_H} (hf : f191_40 l0 l1 l2 l3 l4 h = some x) (hK : (q_KI o hz) x) : q_Ev none 191 40 [(0, .ref l0), (1, .int l1), (2, .int l2), (3, .int l3), (4, .int l4)] [] h o hz := by
  unfold f191_40 at hf
  refine ev_ic (v := 0) (q_cod qk191 rfl) (by decide) (by decide) ?_
  exact (f191_41_ok hf hK)
def f191_36 (l0 : Nat) (l1 : Int32) (l2 : Int32) (l3 : Int32) (l4 : Int32) : m_M Int32 :=
  f191_41 l0 l1 l2 l3 l4 1
theorem f191_36_ok {l0 : Nat} {l1 : Int32} {l2 : Int32} {l3 : Int32} {l4 : Int32} {h : q_H} {o : q_O} {hz : q_H} {x : Int32 × q_H} (hf : f191_36 l0 l1 l2 l3 l4 h = some x) (hK : (q_KI o hz) x) : q_Ev none 191 36 [(0, .ref l0), (1, .int l1), (2, .int l2), (3, .int l3), (4, .int l4)] [] h o hz := by
  unfold f191_36 at hf
  refine ev_ic (v := 1) (q_cod qk191 rfl) (by decide) (by decide) ?_
  refine ev_goto (q_cod qk191 rfl) (by decide) ?_
  exact (f191_41_ok hf hK)
def f191_21 (l0 : Nat) (l1 : Int32) (l2 : Int32) (l3 : Int32) (l4 : Int32) : m_M Int32 :=
  if l4 = (-1) then (f191_36 l0 l1 l2 l3 l4) else (m_B (m_aK l0 12) (fun _ => m_B (f181 l0 l4) (fun v2 => if v2 = 0 then (f191_40 l0 l1 l2 l3 l4) else (f191_36 l0 l1 l2 l3 l4))))
theorem f191_21_ok {l0 : Nat} {l1 : Int32} {l2 : Int32} {l3 : Int32} {l4 : Int32} {h : q_H} {o : q_O} {hz : q_H} {x : Int32 × q_H} (hf : f191_21 l0 l1 l2 l3 l4 h = some x) (hK : (q_KI o hz) x) : q_Ev none 191 21 [(0, .ref l0), (1, .int l1), (2, .int l2), (3, .int l3), (4, .int l4)] [] h o hz := by
  unfold f191_21 at hf
  refine ev_iload (q_cod qk191 rfl) (by decide) rfl ?_
  refine ev_ic (v := (-1)) (q_cod qk191 rfl) (by decide) (by decide) ?_
  refine em_ic_eq (q_cod qk191 rfl) (by decide) hf (fun c4 hf => ?_) (fun c4 hf => ?_)
  · exact (f191_36_ok hf hK)
  · refine ev_aload_n (q_cod qk191 rfl) (by decide) rfl ?_
    refine ev_iload (q_cod qk191 rfl) (by decide) rfl ?_
    obtain ⟨g1, hf⟩ := m_aK_some hf
    refine em_call (v := (fun u => some (.int u))) (q_cod qk191 rfl) rfl rfl (q_cokV rfl rfl (Or.inr g1)) rfl (fun x e => f181_cl e) hf (fun v2 h hf => ?_)
    refine em_if_eq (q_cod qk191 rfl) (by decide) hf (fun c3 hf => ?_) (fun c3 hf => ?_)
    · exact (f191_40_ok hf hK)
    · exact (f191_36_ok hf hK)
def f191 (l0 : Nat) (l1 : Int32) (l2 : Int32) (l3 : Int32) (l4 : Int32) : m_M Int32 :=
  m_B (m_aK l0 12) (fun _ => m_B (f181 l0 l1) (fun v2 => if v2 = 0 then (f191_40 l0 l1 l2 l3 l4) else (if l3 = (-1) then (f191_21 l0 l1 l2 l3 l4) else (m_B (m_aK l0 12) (fun _ => m_B (f181 l0 l3) (fun v4 => if v4 = 0 then (f191_40 l0 l1 l2 l3 l4) else (f191_21 l0 l1 l2 l3 l4)))))))
theorem f191_ok {l0 : Nat} {l1 : Int32} {l2 : Int32} {l3 : Int32} {l4 : Int32} {h : q_H} {o : q_O} {hz : q_H} {x : Int32 × q_H} (hf : f191 l0 l1 l2 l3 l4 h = some x) (hK : (q_KI o hz) x) : q_Ev none 191 0 [(0, .ref l0), (1, .int l1), (2, .int l2), (3, .int l3), (4, .int l4)] [] h o hz := by
  unfold f191 at hf
  refine ev_aload_n (q_cod qk191 rfl) (by decide) rfl ?_
  refine ev_iload_n (q_cod qk191 rfl) (by decide) rfl ?_
  obtain ⟨g1, hf⟩ := m_aK_some hf
  refine em_call (v := (fun u => some (.int u))) (q_cod qk191 rfl) rfl rfl (q_cokV rfl rfl (Or.inr g1)) rfl (fun x e => f181_cl e) hf (fun v2 h hf => ?_)
  refine em_if_eq (q_cod qk191 rfl) (by decide) hf (fun c7 hf => ?_) (fun c7 hf => ?_)
  · exact (f191_40_ok hf hK)
  · refine ev_iload_n (q_cod qk191 rfl) (by decide) rfl ?_
    refine ev_ic (v := (-1)) (q_cod qk191 rfl) (by decide) (by decide) ?_
    refine em_ic_eq (q_cod qk191 rfl) (by decide) hf (fun c6 hf => ?_) (fun c6 hf => ?_)
    · exact (f191_21_ok hf hK)
    · refine ev_aload_n (q_cod qk191 rfl) (by decide) rfl ?_
      refine ev_iload_n (q_cod qk191 rfl) (by decide) rfl ?_
      obtain ⟨g3, hf⟩ := m_aK_some hf
      refine em_call (v := (fun u => some (.int u))) (q_cod qk191 rfl) rfl rfl (q_cokV rfl rfl (Or.inr g3)) rfl (fun x e => f181_cl e) hf (fun v4 h hf => ?_)
      refine em_if_eq (q_cod qk191 rfl) (by decide) hf (fun c5 hf => ?_) (fun c5 hf => ?_)
      · exact (f191_40_ok hf hK)
      · exact (f191_21_ok hf hK)
theorem f191_cl {l0 : Nat} {l1 : Int32} {l2 : Int32} {l3 : Int32} {l4 : Int32} {h : q_H} {x : Int32 × q_H} (hf : f191 l0 l1 l2 l3 l4 h = some x) : q_Cl 191 [.ref l0, .int l1, .int l2, .int l3, .int l4] h (.inl (some (.int x.1))) x.2 := q_Cl.of rfl (q_LvS rfl rfl) (f191_ok hf ⟨rfl, rfl⟩)
