/-! SmithyBenchModel.goOn(I)V -/
theorem qk247 : q_cs.getD 247 [] = qc_247 := rfl
def f247_347  : m_M Unit :=
  m_R ()
set_option maxRecDepth 20000 in
theorem f247_347_ok  {h : q_H} {o : q_O} {hz : q_H} {x : Unit × q_H} (hf : f247_347 h = some x) (hK : (m_KU o hz) x) : q_Ev none 247 347 [] [] h o hz := by
  unfold f247_347 at hf
  obtain rfl := m_R_inv hf
  obtain ⟨rfl, rfl⟩ := (show m_KU o hz ((), _) from hK)
  exact ev_ret (q_cod qk247 rfl) rfl
def f247_173 (l0 : Nat) (l2 : Int32) (s0 : Nat) (s1 : Nat) (s2 : Int32) (s3 : Int32) (s4 : Int32) : m_M Unit :=
  m_B (m_aK s1 12) (fun _ => m_B (f223 s1 s2 s3 s4) (fun v2 => m_B (m_gR 12 l0 21) (fun r3 => m_B (m_lI r3 l2) (fun v4 => m_B (m_aK s0 12) (fun _ => m_B (f243 s0 v2 v4) (fun _ => f247_347))))))
set_option maxRecDepth 20000 in
theorem f247_173_ok {l0 : Nat} {l2 : Int32} {s0 : Nat} {s1 : Nat} {s2 : Int32} {s3 : Int32} {s4 : Int32} {h : q_H} {o : q_O} {hz : q_H} {x : Unit × q_H} (hf : f247_173 l0 l2 s0 s1 s2 s3 s4 h = some x) (hK : (m_KU o hz) x) : q_Ev none 247 173 [(0, .ref l0), (2, .int l2)] [.int s4, .int s3, .int s2, .ref s1, .ref s0] h o hz := by
  unfold f247_173 at hf
  obtain ⟨g1, hf⟩ := m_aK_some hf
  refine em_call (v := (fun u => some (.int u))) (q_cod qk247 rfl) rfl rfl (q_cokV rfl rfl (Or.inr g1)) rfl (fun x e => f223_cl e) hf (fun v2 h hf => ?_)
  refine ev_aload_n (q_cod qk247 rfl) (by decide) rfl ?_
  refine em_gR (q_cod qk247 rfl) (by decide) (by decide) hf (fun r3 hf => ?_)
  refine ev_iload_n (q_cod qk247 rfl) (by decide) rfl ?_
  refine em_lI (q_cod qk247 rfl) (by decide) hf (fun v4 hf => ?_)
  obtain ⟨g5, hf⟩ := m_aK_some hf
  refine em_call (v := (fun _ => none)) (q_cod qk247 rfl) rfl rfl (q_cokV rfl rfl (Or.inr g5)) rfl (fun x e => f243_cl e) hf (fun _ h hf => ?_)
  refine ev_goto (q_cod qk247 rfl) (by decide) ?_
  exact ev_weak (q_pk [] rfl) (f247_347_ok hf hK)
def f247_225 (l0 : Nat) : m_M Unit :=
  m_B (m_gI 12 l0 20) (fun v1 => m_B (m_pI 12 l0 20 (v1 - 1)) (fun _ => f247_347))
set_option maxRecDepth 20000 in
theorem f247_225_ok {l0 : Nat} {h : q_H} {o : q_O} {hz : q_H} {x : Unit × q_H} (hf : f247_225 l0 h = some x) (hK : (m_KU o hz) x) : q_Ev none 247 225 [(0, .ref l0)] [] h o hz := by
  unfold f247_225 at hf
  refine ev_aload_n (q_cod qk247 rfl) (by decide) rfl ?_
  refine ev_dup (q_cod qk247 rfl) (by decide) rfl ?_
  refine em_gI (q_cod qk247 rfl) (by decide) (by decide) hf (fun v1 hf => ?_)
  refine ev_ic (v := 1) (q_cod qk247 rfl) (by decide) (by decide) ?_
  refine ev_isub (q_cod qk247 rfl) (by decide) ?_
  refine em_pI (q_cod qk247 rfl) (by decide) (by decide) (by decide) hf (fun hf => ?_)
  refine ev_goto (q_cod qk247 rfl) (by decide) ?_
  exact ev_weak (q_pk [] rfl) (f247_347_ok hf hK)
def f247_315 (l0 : Nat) (l1 : Int32) (l2 : Int32) (l3 : Int32) (l4 : Int32) (l5 : Int32) (l6 : Int32) : m_M Unit :=
  m_B (m_aK l0 12) (fun _ => m_B (f222 l0 l1 l3 l4) (fun v2 => if l6 < v2 then (m_B (m_aK l0 12) (fun _ => m_B (f245 l0 l2) (fun _ => f247_347))) else (m_B (m_aK l0 12) (fun _ => m_B (f249 l0 l1 l2 l3 l4 l5) (fun _ => f247_347)))))
set_option maxRecDepth 20000 in
theorem f247_315_ok {l0 : Nat} {l1 : Int32} {l2 : Int32} {l3 : Int32} {l4 : Int32} {l5 : Int32} {l6 : Int32} {h : q_H} {o : q_O} {hz : q_H} {x : Unit × q_H} (hf : f247_315 l0 l1 l2 l3 l4 l5 l6 h = some x) (hK : (m_KU o hz) x) : q_Ev none 247 315 [(0, .ref l0), (1, .int l1), (2, .int l2), (3, .int l3), (4, .int l4), (5, .int l5), (6, .int l6)] [] h o hz := by
  unfold f247_315 at hf
  refine ev_iload (q_cod qk247 rfl) (by decide) rfl ?_
  refine ev_aload_n (q_cod qk247 rfl) (by decide) rfl ?_
  refine ev_iload_n (q_cod qk247 rfl) (by decide) rfl ?_
  refine ev_iload_n (q_cod qk247 rfl) (by decide) rfl ?_
  refine ev_iload (q_cod qk247 rfl) (by decide) rfl ?_
  obtain ⟨g1, hf⟩ := m_aK_some hf
  refine em_call (v := (fun u => some (.int u))) (q_cod qk247 rfl) rfl rfl (q_cokV rfl rfl (Or.inr g1)) rfl (fun x e => f222_cl e) hf (fun v2 h hf => ?_)
  refine em_ic_ge (q_cod qk247 rfl) (by decide) hf (fun c7 hf => ?_) (fun c7 hf => ?_)
  · refine ev_aload_n (q_cod qk247 rfl) (by decide) rfl ?_
    refine ev_iload_n (q_cod qk247 rfl) (by decide) rfl ?_
    obtain ⟨g3, hf⟩ := m_aK_some hf
    refine em_call (v := (fun _ => none)) (q_cod qk247 rfl) rfl rfl (q_cokV rfl rfl (Or.inr g3)) rfl (fun x e => f245_cl e) hf (fun _ h hf => ?_)
    refine ev_goto (q_cod qk247 rfl) (by decide) ?_
    exact ev_weak (q_pk [] rfl) (f247_347_ok hf hK)
  · refine ev_aload_n (q_cod qk247 rfl) (by decide) rfl ?_
    refine ev_iload_n (q_cod qk247 rfl) (by decide) rfl ?_
    refine ev_iload_n (q_cod qk247 rfl) (by decide) rfl ?_
    refine ev_iload_n (q_cod qk247 rfl) (by decide) rfl ?_
    refine ev_iload (q_cod qk247 rfl) (by decide) rfl ?_
    refine ev_iload (q_cod qk247 rfl) (by decide) rfl ?_
    obtain ⟨g5, hf⟩ := m_aK_some hf
    refine em_call (v := (fun _ => none)) (q_cod qk247 rfl) rfl rfl (q_cokV rfl rfl (Or.inr g5)) rfl (fun x e => f249_cl e) hf (fun _ h hf => ?_)
    exact ev_weak (q_pk [] rfl) (f247_347_ok hf hK)
def f247_283 (l0 : Nat) (l1 : Int32) (l2 : Int32) (l3 : Int32) (l4 : Int32) (l5 : Int32) (l6 : Int32) : m_M Unit :=
  if l5 = 7 then (m_B (m_aK l0 12) (fun _ => m_B (f222 l0 l1 l3 l4) (fun v2 => if l6 = v2 then (m_B (m_aK l0 12) (fun _ => m_B (f248 l0 l1 l2 l3 l4) (fun _ => f247_347))) else (f247_315 l0 l1 l2 l3 l4 l5 l6)))) else (f247_315 l0 l1 l2 l3 l4 l5 l6)
set_option maxRecDepth 20000 in
theorem f247_283_ok {l0 : Nat} {l1 : Int32} {l2 : Int32} {l3 : Int32} {l4 : Int32} {l5 : Int32} {l6 : Int32} {h : q_H} {o : q_O} {hz : q_H} {x : Unit × q_H} (hf : f247_283 l0 l1 l2 l3 l4 l5 l6 h = some x) (hK : (m_KU o hz) x) : q_Ev none 247 283 [(0, .ref l0), (1, .int l1), (2, .int l2), (3, .int l3), (4, .int l4), (5, .int l5), (6, .int l6)] [] h o hz := by
  unfold f247_283 at hf
  refine ev_iload (q_cod qk247 rfl) (by decide) rfl ?_
  refine ev_bi (v := 7) (q_cod qk247 rfl) (by decide) (by decide) ?_
  refine em_ic_ne (q_cod qk247 rfl) (by decide) hf (fun c6 hf => ?_) (fun c6 hf => ?_)
  · refine ev_iload (q_cod qk247 rfl) (by decide) rfl ?_
    refine ev_aload_n (q_cod qk247 rfl) (by decide) rfl ?_
    refine ev_iload_n (q_cod qk247 rfl) (by decide) rfl ?_
    refine ev_iload_n (q_cod qk247 rfl) (by decide) rfl ?_
    refine ev_iload (q_cod qk247 rfl) (by decide) rfl ?_
    obtain ⟨g1, hf⟩ := m_aK_some hf
    refine em_call (v := (fun u => some (.int u))) (q_cod qk247 rfl) rfl rfl (q_cokV rfl rfl (Or.inr g1)) rfl (fun x e => f222_cl e) hf (fun v2 h hf => ?_)
    refine em_ic_ne (q_cod qk247 rfl) (by decide) hf (fun c5 hf => ?_) (fun c5 hf => ?_)
    · refine ev_aload_n (q_cod qk247 rfl) (by decide) rfl ?_
      refine ev_iload_n (q_cod qk247 rfl) (by decide) rfl ?_
      refine ev_iload_n (q_cod qk247 rfl) (by decide) rfl ?_
      refine ev_iload_n (q_cod qk247 rfl) (by decide) rfl ?_
      refine ev_iload (q_cod qk247 rfl) (by decide) rfl ?_
      obtain ⟨g3, hf⟩ := m_aK_some hf
      refine em_call (v := (fun _ => none)) (q_cod qk247 rfl) rfl rfl (q_cokV rfl rfl (Or.inr g3)) rfl (fun x e => f248_cl e) hf (fun _ h hf => ?_)
      refine ev_goto (q_cod qk247 rfl) (by decide) ?_
      exact ev_weak (q_pk [] rfl) (f247_347_ok hf hK)
    · exact (f247_315_ok hf hK)
  · exact (f247_315_ok hf hK)
def f247_238 (l0 : Nat) (l1 : Int32) (l2 : Int32) (l3 : Int32) (l4 : Int32) (l5 : Int32) (l6 : Int32) : m_M Unit :=
  if l5 = 7 then (m_B (m_aK l0 12) (fun _ => m_B (f222 l0 l1 l3 l4) (fun v2 => if l6 = (v2 + 1) then (m_B (m_gI 12 l0 15) (fun v3 => m_B (m_pI 12 l0 15 (v3 - 1)) (fun _ => m_B (m_gI 12 l0 20) (fun v4 => m_B (m_pI 12 l0 20 (v4 - 1)) (fun _ => f247_347))))) else (f247_283 l0 l1 l2 l3 l4 l5 l6)))) else (f247_283 l0 l1 l2 l3 l4 l5 l6)
set_option maxRecDepth 20000 in
theorem f247_238_ok {l0 : Nat} {l1 : Int32} {l2 : Int32} {l3 : Int32} {l4 : Int32} {l5 : Int32} {l6 : Int32} {h : q_H} {o : q_O} {hz : q_H} {x : Unit × q_H} (hf : f247_238 l0 l1 l2 l3 l4 l5 l6 h = some x) (hK : (m_KU o hz) x) : q_Ev none 247 238 [(0, .ref l0), (1, .int l1), (2, .int l2), (3, .int l3), (4, .int l4), (5, .int l5), (6, .int l6)] [] h o hz := by
  unfold f247_238 at hf
  refine ev_iload (q_cod qk247 rfl) (by decide) rfl ?_
  refine ev_bi (v := 7) (q_cod qk247 rfl) (by decide) (by decide) ?_
  refine em_ic_ne (q_cod qk247 rfl) (by decide) hf (fun c6 hf => ?_) (fun c6 hf => ?_)
  · refine ev_iload (q_cod qk247 rfl) (by decide) rfl ?_
    refine ev_aload_n (q_cod qk247 rfl) (by decide) rfl ?_
    refine ev_iload_n (q_cod qk247 rfl) (by decide) rfl ?_
    refine ev_iload_n (q_cod qk247 rfl) (by decide) rfl ?_
    refine ev_iload (q_cod qk247 rfl) (by decide) rfl ?_
    obtain ⟨g1, hf⟩ := m_aK_some hf
    refine em_call (v := (fun u => some (.int u))) (q_cod qk247 rfl) rfl rfl (q_cokV rfl rfl (Or.inr g1)) rfl (fun x e => f222_cl e) hf (fun v2 h hf => ?_)
    refine ev_ic (v := 1) (q_cod qk247 rfl) (by decide) (by decide) ?_
    refine ev_iadd (q_cod qk247 rfl) (by decide) ?_
    refine em_ic_ne (q_cod qk247 rfl) (by decide) hf (fun c5 hf => ?_) (fun c5 hf => ?_)
    · refine ev_aload_n (q_cod qk247 rfl) (by decide) rfl ?_
      refine ev_dup (q_cod qk247 rfl) (by decide) rfl ?_
      refine em_gI (q_cod qk247 rfl) (by decide) (by decide) hf (fun v3 hf => ?_)
      refine ev_ic (v := 1) (q_cod qk247 rfl) (by decide) (by decide) ?_
      refine ev_isub (q_cod qk247 rfl) (by decide) ?_
      refine em_pI (q_cod qk247 rfl) (by decide) (by decide) (by decide) hf (fun hf => ?_)
      refine ev_aload_n (q_cod qk247 rfl) (by decide) rfl ?_
      refine ev_dup (q_cod qk247 rfl) (by decide) rfl ?_
      refine em_gI (q_cod qk247 rfl) (by decide) (by decide) hf (fun v4 hf => ?_)
      refine ev_ic (v := 1) (q_cod qk247 rfl) (by decide) (by decide) ?_
      refine ev_isub (q_cod qk247 rfl) (by decide) ?_
      refine em_pI (q_cod qk247 rfl) (by decide) (by decide) (by decide) hf (fun hf => ?_)
      refine ev_goto (q_cod qk247 rfl) (by decide) ?_
      exact ev_weak (q_pk [] rfl) (f247_347_ok hf hK)
    · exact (f247_283_ok hf hK)
  · exact (f247_283_ok hf hK)
def f247_213 (l0 : Nat) (l1 : Int32) (l2 : Int32) (l3 : Int32) (l4 : Int32) (l5 : Int32) (l6 : Int32) : m_M Unit :=
  if l5 = 5 then (if l6 = 2 then (f247_225 l0) else (f247_238 l0 l1 l2 l3 l4 l5 l6)) else (f247_238 l0 l1 l2 l3 l4 l5 l6)
set_option maxRecDepth 20000 in
theorem f247_213_ok {l0 : Nat} {l1 : Int32} {l2 : Int32} {l3 : Int32} {l4 : Int32} {l5 : Int32} {l6 : Int32} {h : q_H} {o : q_O} {hz : q_H} {x : Unit × q_H} (hf : f247_213 l0 l1 l2 l3 l4 l5 l6 h = some x) (hK : (m_KU o hz) x) : q_Ev none 247 213 [(0, .ref l0), (1, .int l1), (2, .int l2), (3, .int l3), (4, .int l4), (5, .int l5), (6, .int l6)] [] h o hz := by
  unfold f247_213 at hf
  refine ev_iload (q_cod qk247 rfl) (by decide) rfl ?_
  refine ev_ic (v := 5) (q_cod qk247 rfl) (by decide) (by decide) ?_
  refine em_ic_ne (q_cod qk247 rfl) (by decide) hf (fun c2 hf => ?_) (fun c2 hf => ?_)
  · refine ev_iload (q_cod qk247 rfl) (by decide) rfl ?_
    refine ev_ic (v := 2) (q_cod qk247 rfl) (by decide) (by decide) ?_
    refine em_ic_ne (q_cod qk247 rfl) (by decide) hf (fun c1 hf => ?_) (fun c1 hf => ?_)
    · exact ev_weak (q_pk [0] rfl) (f247_225_ok hf hK)
    · exact (f247_238_ok hf hK)
  · exact (f247_238_ok hf hK)
def f247_201 (l0 : Nat) (l1 : Int32) (l2 : Int32) (l3 : Int32) (l4 : Int32) (l5 : Int32) (l6 : Int32) : m_M Unit :=
  if l5 = 13 then (if 0 < l6 then (f247_225 l0) else (f247_213 l0 l1 l2 l3 l4 l5 l6)) else (f247_213 l0 l1 l2 l3 l4 l5 l6)
set_option maxRecDepth 20000 in
theorem f247_201_ok {l0 : Nat} {l1 : Int32} {l2 : Int32} {l3 : Int32} {l4 : Int32} {l5 : Int32} {l6 : Int32} {h : q_H} {o : q_O} {hz : q_H} {x : Unit × q_H} (hf : f247_201 l0 l1 l2 l3 l4 l5 l6 h = some x) (hK : (m_KU o hz) x) : q_Ev none 247 201 [(0, .ref l0), (1, .int l1), (2, .int l2), (3, .int l3), (4, .int l4), (5, .int l5), (6, .int l6)] [] h o hz := by
  unfold f247_201 at hf
  refine ev_iload (q_cod qk247 rfl) (by decide) rfl ?_
  refine ev_bi (v := 13) (q_cod qk247 rfl) (by decide) (by decide) ?_
  refine em_ic_ne (q_cod qk247 rfl) (by decide) hf (fun c2 hf => ?_) (fun c2 hf => ?_)
  · refine ev_iload (q_cod qk247 rfl) (by decide) rfl ?_
    refine em_if_gt (q_cod qk247 rfl) (by decide) hf (fun c1 hf => ?_) (fun c1 hf => ?_)
    · exact ev_weak (q_pk [0] rfl) (f247_225_ok hf hK)
    · exact (f247_213_ok hf hK)
  · exact (f247_213_ok hf hK)
def f247_188 (l0 : Nat) (l1 : Int32) (l2 : Int32) (l3 : Int32) (l4 : Int32) (l5 : Int32) (l6 : Int32) : m_M Unit :=
  if l5 = 10 then (if l6 = 3 then (f247_225 l0) else (f247_201 l0 l1 l2 l3 l4 l5 l6)) else (f247_201 l0 l1 l2 l3 l4 l5 l6)
set_option maxRecDepth 20000 in
theorem f247_188_ok {l0 : Nat} {l1 : Int32} {l2 : Int32} {l3 : Int32} {l4 : Int32} {l5 : Int32} {l6 : Int32} {h : q_H} {o : q_O} {hz : q_H} {x : Unit × q_H} (hf : f247_188 l0 l1 l2 l3 l4 l5 l6 h = some x) (hK : (m_KU o hz) x) : q_Ev none 247 188 [(0, .ref l0), (1, .int l1), (2, .int l2), (3, .int l3), (4, .int l4), (5, .int l5), (6, .int l6)] [] h o hz := by
  unfold f247_188 at hf
  refine ev_iload (q_cod qk247 rfl) (by decide) rfl ?_
  refine ev_bi (v := 10) (q_cod qk247 rfl) (by decide) (by decide) ?_
  refine em_ic_ne (q_cod qk247 rfl) (by decide) hf (fun c2 hf => ?_) (fun c2 hf => ?_)
  · refine ev_iload (q_cod qk247 rfl) (by decide) rfl ?_
    refine ev_ic (v := 3) (q_cod qk247 rfl) (by decide) (by decide) ?_
    refine em_ic_eq (q_cod qk247 rfl) (by decide) hf (fun c1 hf => ?_) (fun c1 hf => ?_)
    · exact ev_weak (q_pk [0] rfl) (f247_225_ok hf hK)
    · exact (f247_201_ok hf hK)
  · exact (f247_201_ok hf hK)
def f247_121 (l0 : Nat) (l1 : Int32) (l2 : Int32) (l3 : Int32) (l4 : Int32) (l5 : Int32) (l6 : Int32) : m_M Unit :=
  if l5 = 10 then (if l6 = 1 then (m_B (m_gI 12 l0 26) (fun v1 => m_B (m_pI 12 l0 26 (v1 - 1)) (fun _ => m_B (m_gR 12 l0 23) (fun r2 => m_B (m_wI r2 l2 3) (fun _ => m_B (m_gR 12 l0 28) (fun r3 => m_B (m_gI 12 l0 26) (fun v4 => m_B (m_lI r3 v4) (fun v5 => if v5 = 0 then (f247_173 l0 l2 l0 l0 l3 l4 2) else (f247_173 l0 l2 l0 l0 l3 l4 1))))))))) else (f247_188 l0 l1 l2 l3 l4 l5 l6)) else (f247_188 l0 l1 l2 l3 l4 l5 l6)
set_option maxRecDepth 20000 in
theorem f247_121_ok {l0 : Nat} {l1 : Int32} {l2 : Int32} {l3 : Int32} {l4 : Int32} {l5 : Int32} {l6 : Int32} {h : q_H} {o : q_O} {hz : q_H} {x : Unit × q_H} (hf : f247_121 l0 l1 l2 l3 l4 l5 l6 h = some x) (hK : (m_KU o hz) x) : q_Ev none 247 121 [(0, .ref l0), (1, .int l1), (2, .int l2), (3, .int l3), (4, .int l4), (5, .int l5), (6, .int l6)] [] h o hz := by
  unfold f247_121 at hf
  refine ev_iload (q_cod qk247 rfl) (by decide) rfl ?_
  refine ev_bi (v := 10) (q_cod qk247 rfl) (by decide) (by decide) ?_
  refine em_ic_ne (q_cod qk247 rfl) (by decide) hf (fun c8 hf => ?_) (fun c8 hf => ?_)
  · refine ev_iload (q_cod qk247 rfl) (by decide) rfl ?_
    refine ev_ic (v := 1) (q_cod qk247 rfl) (by decide) (by decide) ?_
    refine em_ic_ne (q_cod qk247 rfl) (by decide) hf (fun c7 hf => ?_) (fun c7 hf => ?_)
    · refine ev_aload_n (q_cod qk247 rfl) (by decide) rfl ?_
      refine ev_dup (q_cod qk247 rfl) (by decide) rfl ?_
      refine em_gI (q_cod qk247 rfl) (by decide) (by decide) hf (fun v1 hf => ?_)
      refine ev_ic (v := 1) (q_cod qk247 rfl) (by decide) (by decide) ?_
      refine ev_isub (q_cod qk247 rfl) (by decide) ?_
      refine em_pI (q_cod qk247 rfl) (by decide) (by decide) (by decide) hf (fun hf => ?_)
      refine ev_aload_n (q_cod qk247 rfl) (by decide) rfl ?_
      refine em_gR (q_cod qk247 rfl) (by decide) (by decide) hf (fun r2 hf => ?_)
      refine ev_iload_n (q_cod qk247 rfl) (by decide) rfl ?_
      refine ev_ic (v := 3) (q_cod qk247 rfl) (by decide) (by decide) ?_
      refine em_wI (q_cod qk247 rfl) (by decide) hf (fun hf => ?_)
      refine ev_aload_n (q_cod qk247 rfl) (by decide) rfl ?_
      refine ev_aload_n (q_cod qk247 rfl) (by decide) rfl ?_
      refine ev_iload_n (q_cod qk247 rfl) (by decide) rfl ?_
      refine ev_iload (q_cod qk247 rfl) (by decide) rfl ?_
      refine ev_aload_n (q_cod qk247 rfl) (by decide) rfl ?_
      refine em_gR (q_cod qk247 rfl) (by decide) (by decide) hf (fun r3 hf => ?_)
      refine ev_aload_n (q_cod qk247 rfl) (by decide) rfl ?_
      refine em_gI (q_cod qk247 rfl) (by decide) (by decide) hf (fun v4 hf => ?_)
      refine em_lI (q_cod qk247 rfl) (by decide) hf (fun v5 hf => ?_)
      refine em_if_eq (q_cod qk247 rfl) (by decide) hf (fun c6 hf => ?_) (fun c6 hf => ?_)
      · refine ev_ic (v := 2) (q_cod qk247 rfl) (by decide) (by decide) ?_
        exact ev_weak (q_pk [0, 2] rfl) (f247_173_ok hf hK)
      · refine ev_ic (v := 1) (q_cod qk247 rfl) (by decide) (by decide) ?_
        refine ev_goto (q_cod qk247 rfl) (by decide) ?_
        exact ev_weak (q_pk [0, 2] rfl) (f247_173_ok hf hK)
    · exact (f247_188_ok hf hK)
  · exact (f247_188_ok hf hK)
def f247 (l0 : Nat) (l1 : Int32) : m_M Unit :=
  m_B (m_gI 12 l0 20) (fun v1 => m_B (m_gR 12 l0 16) (fun r2 => m_B (m_gR 12 l0 21) (fun r3 => m_B (m_lI r3 (v1 - 1)) (fun v4 => m_B (m_lI r2 v4) (fun v5 => m_B (m_gR 12 l0 22) (fun r6 => m_B (m_lI r6 (v1 - 1)) (fun v7 => m_B (m_aK l0 12) (fun _ => m_B (f199 l0 l1 v5 v7) (fun v9 => m_B (m_gR 12 l0 23) (fun r10 => m_B (m_lI r10 (v1 - 1)) (fun v11 => if v9 = 5 then (if v11 = 1 then (m_B (m_gR 12 l0 21) (fun r12 => m_B (m_lI r12 (v1 - 1)) (fun v13 => m_B (m_aK l0 12) (fun _ => m_B (f246 l0 v13 v7) (fun v15 => m_B (m_gI 12 l0 26) (fun v16 => m_B (m_pI 12 l0 26 (v16 - 1)) (fun _ => m_B (m_gR 12 l0 18) (fun r17 => m_B (m_gR 12 l0 27) (fun r18 => m_B (m_gI 12 l0 26) (fun v19 => m_B (m_lI r18 v19) (fun v20 => m_B (m_wI r17 v15 v20) (fun _ => m_B (m_gR 12 l0 19) (fun r21 => m_B (m_gR 12 l0 28) (fun r22 => m_B (m_gI 12 l0 26) (fun v23 => m_B (m_lI r22 v23) (fun v24 => m_B (m_wI r21 v15 v24) (fun _ => m_B (m_aK l0 12) (fun _ => m_B (f245 l0 (v1 - 1)) (fun _ => f247_347))))))))))))))))))) else (f247_121 l0 l1 (v1 - 1) v5 v7 v9 v11)) else (f247_121 l0 l1 (v1 - 1) v5 v7 v9 v11))))))))))))
set_option maxRecDepth 20000 in
theorem f247_ok {l0 : Nat} {l1 : Int32} {h : q_H} {o : q_O} {hz : q_H} {x : Unit × q_H} (hf : f247 l0 l1 h = some x) (hK : (m_KU o hz) x) : q_Ev none 247 0 [(0, .ref l0), (1, .int l1)] [] h o hz := by
  unfold f247 at hf
  refine ev_aload_n (q_cod qk247 rfl) (by decide) rfl ?_
  refine em_gI (q_cod qk247 rfl) (by decide) (by decide) hf (fun v1 hf => ?_)
  refine ev_ic (v := 1) (q_cod qk247 rfl) (by decide) (by decide) ?_
  refine ev_isub (q_cod qk247 rfl) (by decide) ?_
  refine ev_is1 (L' := [(0, .ref l0), (1, .int l1), (2, .int (v1 - 1))]) (q_cod qk247 rfl) (by decide) rfl ?_
  refine ev_aload_n (q_cod qk247 rfl) (by decide) rfl ?_
  refine em_gR (q_cod qk247 rfl) (by decide) (by decide) hf (fun r2 hf => ?_)
  refine ev_aload_n (q_cod qk247 rfl) (by decide) rfl ?_
  refine em_gR (q_cod qk247 rfl) (by decide) (by decide) hf (fun r3 hf => ?_)
  refine ev_iload_n (q_cod qk247 rfl) (by decide) rfl ?_
  refine em_lI (q_cod qk247 rfl) (by decide) hf (fun v4 hf => ?_)
  refine em_lI (q_cod qk247 rfl) (by decide) hf (fun v5 hf => ?_)
  refine ev_is1 (L' := [(0, .ref l0), (1, .int l1), (2, .int (v1 - 1)), (3, .int v5)]) (q_cod qk247 rfl) (by decide) rfl ?_
  refine ev_aload_n (q_cod qk247 rfl) (by decide) rfl ?_
  refine em_gR (q_cod qk247 rfl) (by decide) (by decide) hf (fun r6 hf => ?_)
  refine ev_iload_n (q_cod qk247 rfl) (by decide) rfl ?_
  refine em_lI (q_cod qk247 rfl) (by decide) hf (fun v7 hf => ?_)
  refine ev_is2 (L' := [(0, .ref l0), (1, .int l1), (2, .int (v1 - 1)), (3, .int v5), (4, .int v7)]) (q_cod qk247 rfl) (by decide) rfl ?_
  refine ev_aload_n (q_cod qk247 rfl) (by decide) rfl ?_
  refine ev_iload_n (q_cod qk247 rfl) (by decide) rfl ?_
  refine ev_iload_n (q_cod qk247 rfl) (by decide) rfl ?_
  refine ev_iload (q_cod qk247 rfl) (by decide) rfl ?_
  obtain ⟨g8, hf⟩ := m_aK_some hf
  refine em_call (v := (fun u => some (.int u))) (q_cod qk247 rfl) rfl rfl (q_cokV rfl rfl (Or.inr g8)) rfl (fun x e => f199_cl e) hf (fun v9 h hf => ?_)
  refine ev_is2 (L' := [(0, .ref l0), (1, .int l1), (2, .int (v1 - 1)), (3, .int v5), (4, .int v7), (5, .int v9)]) (q_cod qk247 rfl) (by decide) rfl ?_
  refine ev_aload_n (q_cod qk247 rfl) (by decide) rfl ?_
  refine em_gR (q_cod qk247 rfl) (by decide) (by decide) hf (fun r10 hf => ?_)
  refine ev_iload_n (q_cod qk247 rfl) (by decide) rfl ?_
  refine em_lI (q_cod qk247 rfl) (by decide) hf (fun v11 hf => ?_)
  refine ev_is2 (L' := [(0, .ref l0), (1, .int l1), (2, .int (v1 - 1)), (3, .int v5), (4, .int v7), (5, .int v9), (6, .int v11)]) (q_cod qk247 rfl) (by decide) rfl ?_
  refine ev_iload (q_cod qk247 rfl) (by decide) rfl ?_
  refine ev_ic (v := 5) (q_cod qk247 rfl) (by decide) (by decide) ?_
  refine em_ic_ne (q_cod qk247 rfl) (by decide) hf (fun c28 hf => ?_) (fun c28 hf => ?_)
  · refine ev_iload (q_cod qk247 rfl) (by decide) rfl ?_
    refine ev_ic (v := 1) (q_cod qk247 rfl) (by decide) (by decide) ?_
    refine em_ic_ne (q_cod qk247 rfl) (by decide) hf (fun c27 hf => ?_) (fun c27 hf => ?_)
    · refine ev_aload_n (q_cod qk247 rfl) (by decide) rfl ?_
      refine ev_aload_n (q_cod qk247 rfl) (by decide) rfl ?_
      refine em_gR (q_cod qk247 rfl) (by decide) (by decide) hf (fun r12 hf => ?_)
      refine ev_iload_n (q_cod qk247 rfl) (by decide) rfl ?_
      refine em_lI (q_cod qk247 rfl) (by decide) hf (fun v13 hf => ?_)
      refine ev_iload (q_cod qk247 rfl) (by decide) rfl ?_
      obtain ⟨g14, hf⟩ := m_aK_some hf
      refine em_call (v := (fun u => some (.int u))) (q_cod qk247 rfl) rfl rfl (q_cokV rfl rfl (Or.inr g14)) rfl (fun x e => f246_cl e) hf (fun v15 h hf => ?_)
      refine ev_is2 (L' := [(0, .ref l0), (1, .int l1), (2, .int (v1 - 1)), (3, .int v5), (4, .int v7), (5, .int v9), (6, .int v11), (7, .int v15)]) (q_cod qk247 rfl) (by decide) rfl ?_
      refine ev_aload_n (q_cod qk247 rfl) (by decide) rfl ?_
      refine ev_dup (q_cod qk247 rfl) (by decide) rfl ?_
      refine em_gI (q_cod qk247 rfl) (by decide) (by decide) hf (fun v16 hf => ?_)
      refine ev_ic (v := 1) (q_cod qk247 rfl) (by decide) (by decide) ?_
      refine ev_isub (q_cod qk247 rfl) (by decide) ?_
      refine em_pI (q_cod qk247 rfl) (by decide) (by decide) (by decide) hf (fun hf => ?_)
      refine ev_aload_n (q_cod qk247 rfl) (by decide) rfl ?_
      refine em_gR (q_cod qk247 rfl) (by decide) (by decide) hf (fun r17 hf => ?_)
      refine ev_iload (q_cod qk247 rfl) (by decide) rfl ?_
      refine ev_aload_n (q_cod qk247 rfl) (by decide) rfl ?_
      refine em_gR (q_cod qk247 rfl) (by decide) (by decide) hf (fun r18 hf => ?_)
      refine ev_aload_n (q_cod qk247 rfl) (by decide) rfl ?_
      refine em_gI (q_cod qk247 rfl) (by decide) (by decide) hf (fun v19 hf => ?_)
      refine em_lI (q_cod qk247 rfl) (by decide) hf (fun v20 hf => ?_)
      refine em_wI (q_cod qk247 rfl) (by decide) hf (fun hf => ?_)
      refine ev_aload_n (q_cod qk247 rfl) (by decide) rfl ?_
      refine em_gR (q_cod qk247 rfl) (by decide) (by decide) hf (fun r21 hf => ?_)
      refine ev_iload (q_cod qk247 rfl) (by decide) rfl ?_
      refine ev_aload_n (q_cod qk247 rfl) (by decide) rfl ?_
      refine em_gR (q_cod qk247 rfl) (by decide) (by decide) hf (fun r22 hf => ?_)
      refine ev_aload_n (q_cod qk247 rfl) (by decide) rfl ?_
      refine em_gI (q_cod qk247 rfl) (by decide) (by decide) hf (fun v23 hf => ?_)
      refine em_lI (q_cod qk247 rfl) (by decide) hf (fun v24 hf => ?_)
      refine em_wI (q_cod qk247 rfl) (by decide) hf (fun hf => ?_)
      refine ev_aload_n (q_cod qk247 rfl) (by decide) rfl ?_
      refine ev_iload_n (q_cod qk247 rfl) (by decide) rfl ?_
      obtain ⟨g25, hf⟩ := m_aK_some hf
      refine em_call (v := (fun _ => none)) (q_cod qk247 rfl) rfl rfl (q_cokV rfl rfl (Or.inr g25)) rfl (fun x e => f245_cl e) hf (fun _ h hf => ?_)
      refine ev_goto (q_cod qk247 rfl) (by decide) ?_
      exact ev_weak (q_pk [] rfl) (f247_347_ok hf hK)
    · exact (f247_121_ok hf hK)
  · exact (f247_121_ok hf hK)
theorem f247_cl {l0 : Nat} {l1 : Int32} {h : q_H} {x : Unit × q_H} (hf : f247 l0 l1 h = some x) : q_Cl 247 [.ref l0, .int l1] h (.inl none) x.2 := q_Cl.of rfl (q_LvS rfl rfl) (f247_ok hf ⟨rfl, rfl⟩)
/-! SmithyBenchModel.run(IIIIZ)I -/
theorem qk252 : q_cs.getD 252 [] = qc_252 := rfl
def f252_384 (l0 : Nat) : m_M Int32 :=
  m_B (m_gI 12 l0 34) (fun v1 => m_R v1)
set_option maxRecDepth 20000 in
theorem f252_384_ok {l0 : Nat} {h : q_H} {o : q_O} {hz : q_H} {x : Int32 × q_H} (hf : f252_384 l0 h = some x) (hK : (q_KI o hz) x) : q_Ev none 252 384 [(0, .ref l0)] [] h o hz := by
  unfold f252_384 at hf
  refine ev_aload_n (q_cod qk252 rfl) (by decide) rfl ?_
  refine em_gI (q_cod qk252 rfl) (by decide) (by decide) hf (fun v1 hf => ?_)
  obtain rfl := m_R_inv hf
  obtain ⟨rfl, rfl⟩ := (show q_KI o hz (v1, _) from hK)
  exact ev_ret (q_cod qk252 rfl) rfl
def f252_381 (l0 : Nat) (s0 : Nat) (s1 : Int32) : m_M Int32 :=
  m_B (m_pI 12 s0 35 s1) (fun _ => f252_384 l0)
set_option maxRecDepth 20000 in
theorem f252_381_ok {l0 : Nat} {s0 : Nat} {s1 : Int32} {h : q_H} {o : q_O} {hz : q_H} {x : Int32 × q_H} (hf : f252_381 l0 s0 s1 h = some x) (hK : (q_KI o hz) x) : q_Ev none 252 381 [(0, .ref l0)] [.int s1, .ref s0] h o hz := by
  unfold f252_381 at hf
  refine em_pI (q_cod qk252 rfl) (by decide) (by decide) (by decide) hf (fun hf => ?_)
  exact (f252_384_ok hf hK)
def f252_323 (l0 : Nat) : m_M Int32 :=
  m_B (m_gI 12 l0 34) (fun v1 => if v1 = (-1) then (m_B (m_gR 12 l0 27) (fun r2 => m_B (m_lI r2 0) (fun v3 => m_B (m_pI 12 l0 34 v3) (fun _ => m_B (m_gI 12 l0 34) (fun v4 => if v4 = 0 then (m_B (m_gR 12 l0 28) (fun r5 => m_B (m_lI r5 0) (fun v6 => f252_381 l0 l0 v6))) else (m_B (m_gI 12 l0 34) (fun v7 => if v7 = 1 then (m_B (m_gR 12 l0 30) (fun r8 => m_B (m_gR 12 l0 28) (fun r9 => m_B (m_lI r9 0) (fun v10 => m_B (m_lI r8 v10) (fun v11 => f252_381 l0 l0 v11))))) else (f252_381 l0 l0 0)))))))) else (f252_384 l0))
set_option maxRecDepth 20000 in
theorem f252_323_ok {l0 : Nat} {h : q_H} {o : q_O} {hz : q_H} {x : Int32 × q_H} (hf : f252_323 l0 h = some x) (hK : (q_KI o hz) x) : q_Ev none 252 323 [(0, .ref l0)] [] h o hz := by
  unfold f252_323 at hf
  refine ev_aload_n (q_cod qk252 rfl) (by decide) rfl ?_
  refine em_gI (q_cod qk252 rfl) (by decide) (by decide) hf (fun v1 hf => ?_)
  refine ev_ic (v := (-1)) (q_cod qk252 rfl) (by decide) (by decide) ?_
  refine em_ic_ne (q_cod qk252 rfl) (by decide) hf (fun c14 hf => ?_) (fun c14 hf => ?_)
  · refine ev_aload_n (q_cod qk252 rfl) (by decide) rfl ?_
    refine ev_aload_n (q_cod qk252 rfl) (by decide) rfl ?_
    refine em_gR (q_cod qk252 rfl) (by decide) (by decide) hf (fun r2 hf => ?_)
    refine ev_ic (v := 0) (q_cod qk252 rfl) (by decide) (by decide) ?_
    refine em_lI (q_cod qk252 rfl) (by decide) hf (fun v3 hf => ?_)
    refine em_pI (q_cod qk252 rfl) (by decide) (by decide) (by decide) hf (fun hf => ?_)
    refine ev_aload_n (q_cod qk252 rfl) (by decide) rfl ?_
    refine ev_aload_n (q_cod qk252 rfl) (by decide) rfl ?_
    refine em_gI (q_cod qk252 rfl) (by decide) (by decide) hf (fun v4 hf => ?_)
    refine em_if_ne (q_cod qk252 rfl) (by decide) hf (fun c13 hf => ?_) (fun c13 hf => ?_)
    · refine ev_aload_n (q_cod qk252 rfl) (by decide) rfl ?_
      refine em_gR (q_cod qk252 rfl) (by decide) (by decide) hf (fun r5 hf => ?_)
      refine ev_ic (v := 0) (q_cod qk252 rfl) (by decide) (by decide) ?_
      refine em_lI (q_cod qk252 rfl) (by decide) hf (fun v6 hf => ?_)
      refine ev_goto (q_cod qk252 rfl) (by decide) ?_
      exact (f252_381_ok hf hK)
    · refine ev_aload_n (q_cod qk252 rfl) (by decide) rfl ?_
      refine em_gI (q_cod qk252 rfl) (by decide) (by decide) hf (fun v7 hf => ?_)
      refine ev_ic (v := 1) (q_cod qk252 rfl) (by decide) (by decide) ?_
      refine em_ic_ne (q_cod qk252 rfl) (by decide) hf (fun c12 hf => ?_) (fun c12 hf => ?_)
      · refine ev_aload_n (q_cod qk252 rfl) (by decide) rfl ?_
        refine em_gR (q_cod qk252 rfl) (by decide) (by decide) hf (fun r8 hf => ?_)
        refine ev_aload_n (q_cod qk252 rfl) (by decide) rfl ?_
        refine em_gR (q_cod qk252 rfl) (by decide) (by decide) hf (fun r9 hf => ?_)
        refine ev_ic (v := 0) (q_cod qk252 rfl) (by decide) (by decide) ?_
        refine em_lI (q_cod qk252 rfl) (by decide) hf (fun v10 hf => ?_)
        refine em_lI (q_cod qk252 rfl) (by decide) hf (fun v11 hf => ?_)
        refine ev_goto (q_cod qk252 rfl) (by decide) ?_
        exact (f252_381_ok hf hK)
      · refine ev_ic (v := 0) (q_cod qk252 rfl) (by decide) (by decide) ?_
        exact (f252_381_ok hf hK)
  · exact (f252_384_ok hf hK)
def f252_299b (l0 : Nat) (l6 : Int32) : m_M ((Nat × Int32) ⊕ Int32) :=
  m_B (m_gI 12 l0 20) (fun v1 => if 0 < v1 then (m_B (m_gI 12 l0 34) (fun v2 => if v2 = (-1) then (m_B (m_aK l0 12) (fun _ => m_B (f247 l0 l6) (fun _ => m_R (.inl (l0, l6))))) else (m_B (f252_323 l0) (fun r => m_R (.inr r))))) else (m_B (f252_323 l0) (fun r => m_R (.inr r))))
set_option maxRecDepth 20000 in
theorem f252_299b_ok {l0 : Nat} {l6 : Int32} {h : q_H} {o : q_O} {hz : q_H} {x : ((Nat × Int32) ⊕ Int32) × q_H} (hf : f252_299b l0 l6 h = some x) (hK : (m_yK (fun (s : Nat × Int32) (h : q_H) => q_Ev none 252 299 [(0, .ref (s.1)), (6, .int (s.2))] [] h o hz) (q_KI o hz)) x) : q_Ev none 252 299 [(0, .ref l0), (6, .int l6)] [] h o hz := by
  unfold f252_299b at hf
  refine ev_aload_n (q_cod qk252 rfl) (by decide) rfl ?_
  refine em_gI (q_cod qk252 rfl) (by decide) (by decide) hf (fun v1 hf => ?_)
  refine em_if_le (q_cod qk252 rfl) (by decide) hf (fun c6 hf => ?_) (fun c6 hf => ?_)
  · refine ev_aload_n (q_cod qk252 rfl) (by decide) rfl ?_
    refine em_gI (q_cod qk252 rfl) (by decide) (by decide) hf (fun v2 hf => ?_)
    refine ev_ic (v := (-1)) (q_cod qk252 rfl) (by decide) (by decide) ?_
    refine em_ic_ne (q_cod qk252 rfl) (by decide) hf (fun c5 hf => ?_) (fun c5 hf => ?_)
    · refine ev_aload_n (q_cod qk252 rfl) (by decide) rfl ?_
      refine ev_iload (q_cod qk252 rfl) (by decide) rfl ?_
      obtain ⟨g3, hf⟩ := m_aK_some hf
      refine em_call (v := (fun _ => none)) (q_cod qk252 rfl) rfl rfl (q_cokV rfl rfl (Or.inr g3)) rfl (fun x e => f247_cl e) hf (fun _ h hf => ?_)
      refine ev_goto (q_cod qk252 rfl) (by decide) ?_
      obtain rfl := m_R_inv hf
      exact (show q_Ev none 252 299 [(0, .ref l0), (6, .int l6)] [] _ o hz from hK)
    · obtain ⟨y0, hf0, hx⟩ := m_inr_some hf
      subst hx
      exact ev_weak (q_pk [0] rfl) (f252_323_ok hf0 hK)
  · obtain ⟨y0, hf0, hx⟩ := m_inr_some hf
    subst hx
    exact ev_weak (q_pk [0] rfl) (f252_323_ok hf0 hK)
def f252_299 (l0 : Nat) (l6 : Int32) : m_M Int32 := m_W (fun s => f252_299b (s.1) (s.2)) 1000000 (l0, l6)
theorem f252_299_ok {l0 : Nat} {l6 : Int32} {h : q_H} {o : q_O} {hz : q_H} {x : Int32 × q_H} (hf : f252_299 l0 l6 h = some x) (hK : (q_KI o hz) x) : q_Ev none 252 299 [(0, .ref l0), (6, .int l6)] [] h o hz :=
  m_W_ok (P := (fun (s : Nat × Int32) (h : q_H) => q_Ev none 252 299 [(0, .ref (s.1)), (6, .int (s.2))] [] h o hz)) (K := (q_KI o hz)) (fun s h x h1 h2 => f252_299b_ok h1 h2) _ (l0, l6) _ _ hf hK
def f252_179 (l0 : Nat) (l1 : Int32) (l2 : Int32) (l3 : Int32) (l4 : Int32) (l6 : Int32) (s0 : Nat) (s1 : Int32) : m_M Int32 :=
  m_B (m_aK s0 12) (fun _ => m_B (f178 s0 s1) (fun v2 => if v2 = 0 then (m_B (m_pI 12 l0 29 0) (fun _ => m_B (m_pI 12 l0 26 0) (fun _ => m_B (m_pI 12 l0 20 0) (fun _ => m_B (m_pI 12 l0 33 0) (fun _ => m_B (m_pI 12 l0 15 1) (fun _ => m_B (m_gR 12 l0 16) (fun r3 => m_B (m_wI r3 0 l1) (fun _ => m_B (m_gR 12 l0 17) (fun r4 => m_B (m_aK l0 12) (fun _ => m_B (f241 l0 l6 l2) (fun v6 => m_B (m_wI r4 0 v6) (fun _ => m_B (m_gR 12 l0 18) (fun r7 => m_B (m_aK l0 12) (fun _ => m_B (f246 l0 0 (-1)) (fun v9 => m_B (m_wI r7 v9 0) (fun _ => m_B (m_gR 12 l0 19) (fun r10 => m_B (m_aK l0 12) (fun _ => m_B (f246 l0 0 (-1)) (fun v12 => m_B (m_wI r10 v12 l3) (fun _ => m_B (m_gR 12 l0 18) (fun r13 => m_B (m_aK l0 12) (fun _ => m_B (f246 l0 0 (-2)) (fun v15 => m_B (m_wI r13 v15 0) (fun _ => m_B (m_gR 12 l0 19) (fun r16 => m_B (m_aK l0 12) (fun _ => m_B (f246 l0 0 (-2)) (fun v18 => m_B (m_wI r16 v18 l4) (fun _ => m_B (m_pI 12 l0 34 (-1)) (fun _ => m_B (m_pI 12 l0 35 0) (fun _ => m_B (m_aK l0 12) (fun _ => m_B (f243 l0 0 0) (fun _ => f252_299 l0 l6)))))))))))))))))))))))))))))))) else (m_R 0)))
set_option maxRecDepth 20000 in
theorem f252_179_ok {l0 : Nat} {l1 : Int32} {l2 : Int32} {l3 : Int32} {l4 : Int32} {l6 : Int32} {s0 : Nat} {s1 : Int32} {h : q_H} {o : q_O} {hz : q_H} {x : Int32 × q_H} (hf : f252_179 l0 l1 l2 l3 l4 l6 s0 s1 h = some x) (hK : (q_KI o hz) x) : q_Ev none 252 179 [(0, .ref l0), (1, .int l1), (2, .int l2), (3, .int l3), (4, .int l4), (6, .int l6)] [.int s1, .ref s0] h o hz := by
  unfold f252_179 at hf
  obtain ⟨g1, hf⟩ := m_aK_some hf
  refine em_call (v := (fun u => some (.int u))) (q_cod qk252 rfl) rfl rfl (q_cokV rfl rfl (Or.inr g1)) rfl (fun x e => f178_cl e) hf (fun v2 h hf => ?_)
  refine em_if_eq (q_cod qk252 rfl) (by decide) hf (fun c21 hf => ?_) (fun c21 hf => ?_)
  · refine ev_aload_n (q_cod qk252 rfl) (by decide) rfl ?_
    refine ev_ic (v := 0) (q_cod qk252 rfl) (by decide) (by decide) ?_
    refine em_pI (q_cod qk252 rfl) (by decide) (by decide) (by decide) hf (fun hf => ?_)
    refine ev_aload_n (q_cod qk252 rfl) (by decide) rfl ?_
    refine ev_ic (v := 0) (q_cod qk252 rfl) (by decide) (by decide) ?_
    refine em_pI (q_cod qk252 rfl) (by decide) (by decide) (by decide) hf (fun hf => ?_)
    refine ev_aload_n (q_cod qk252 rfl) (by decide) rfl ?_
    refine ev_ic (v := 0) (q_cod qk252 rfl) (by decide) (by decide) ?_
    refine em_pI (q_cod qk252 rfl) (by decide) (by decide) (by decide) hf (fun hf => ?_)
    refine ev_aload_n (q_cod qk252 rfl) (by decide) rfl ?_
    refine ev_ic (v := 0) (q_cod qk252 rfl) (by decide) (by decide) ?_
    refine em_pI (q_cod qk252 rfl) (by decide) (by decide) (by decide) hf (fun hf => ?_)
    refine ev_aload_n (q_cod qk252 rfl) (by decide) rfl ?_
    refine ev_ic (v := 1) (q_cod qk252 rfl) (by decide) (by decide) ?_
    refine em_pI (q_cod qk252 rfl) (by decide) (by decide) (by decide) hf (fun hf => ?_)
    refine ev_aload_n (q_cod qk252 rfl) (by decide) rfl ?_
    refine em_gR (q_cod qk252 rfl) (by decide) (by decide) hf (fun r3 hf => ?_)
    refine ev_ic (v := 0) (q_cod qk252 rfl) (by decide) (by decide) ?_
    refine ev_iload_n (q_cod qk252 rfl) (by decide) rfl ?_
    refine em_wI (q_cod qk252 rfl) (by decide) hf (fun hf => ?_)
    refine ev_aload_n (q_cod qk252 rfl) (by decide) rfl ?_
    refine em_gR (q_cod qk252 rfl) (by decide) (by decide) hf (fun r4 hf => ?_)
    refine ev_ic (v := 0) (q_cod qk252 rfl) (by decide) (by decide) ?_
    refine ev_aload_n (q_cod qk252 rfl) (by decide) rfl ?_
    refine ev_iload (q_cod qk252 rfl) (by decide) rfl ?_
    refine ev_iload_n (q_cod qk252 rfl) (by decide) rfl ?_
    obtain ⟨g5, hf⟩ := m_aK_some hf
    refine em_call (v := (fun u => some (.int u))) (q_cod qk252 rfl) rfl rfl (q_cokV rfl rfl (Or.inr g5)) rfl (fun x e => f241_cl e) hf (fun v6 h hf => ?_)
    refine em_wI (q_cod qk252 rfl) (by decide) hf (fun hf => ?_)
    refine ev_aload_n (q_cod qk252 rfl) (by decide) rfl ?_
    refine em_gR (q_cod qk252 rfl) (by decide) (by decide) hf (fun r7 hf => ?_)
    refine ev_aload_n (q_cod qk252 rfl) (by decide) rfl ?_
    refine ev_ic (v := 0) (q_cod qk252 rfl) (by decide) (by decide) ?_
    refine ev_ic (v := (-1)) (q_cod qk252 rfl) (by decide) (by decide) ?_
    obtain ⟨g8, hf⟩ := m_aK_some hf
    refine em_call (v := (fun u => some (.int u))) (q_cod qk252 rfl) rfl rfl (q_cokV rfl rfl (Or.inr g8)) rfl (fun x e => f246_cl e) hf (fun v9 h hf => ?_)
    refine ev_ic (v := 0) (q_cod qk252 rfl) (by decide) (by decide) ?_
    refine em_wI (q_cod qk252 rfl) (by decide) hf (fun hf => ?_)
    refine ev_aload_n (q_cod qk252 rfl) (by decide) rfl ?_
    refine em_gR (q_cod qk252 rfl) (by decide) (by decide) hf (fun r10 hf => ?_)
    refine ev_aload_n (q_cod qk252 rfl) (by decide) rfl ?_
    refine ev_ic (v := 0) (q_cod qk252 rfl) (by decide) (by decide) ?_
    refine ev_ic (v := (-1)) (q_cod qk252 rfl) (by decide) (by decide) ?_
    obtain ⟨g11, hf⟩ := m_aK_some hf
    refine em_call (v := (fun u => some (.int u))) (q_cod qk252 rfl) rfl rfl (q_cokV rfl rfl (Or.inr g11)) rfl (fun x e => f246_cl e) hf (fun v12 h hf => ?_)
    refine ev_iload_n (q_cod qk252 rfl) (by decide) rfl ?_
    refine em_wI (q_cod qk252 rfl) (by decide) hf (fun hf => ?_)
    refine ev_aload_n (q_cod qk252 rfl) (by decide) rfl ?_
    refine em_gR (q_cod qk252 rfl) (by decide) (by decide) hf (fun r13 hf => ?_)
    refine ev_aload_n (q_cod qk252 rfl) (by decide) rfl ?_
    refine ev_ic (v := 0) (q_cod qk252 rfl) (by decide) (by decide) ?_
    refine ev_bi (v := (-2)) (q_cod qk252 rfl) (by decide) (by decide) ?_
    obtain ⟨g14, hf⟩ := m_aK_some hf
    refine em_call (v := (fun u => some (.int u))) (q_cod qk252 rfl) rfl rfl (q_cokV rfl rfl (Or.inr g14)) rfl (fun x e => f246_cl e) hf (fun v15 h hf => ?_)
    refine ev_ic (v := 0) (q_cod qk252 rfl) (by decide) (by decide) ?_
    refine em_wI (q_cod qk252 rfl) (by decide) hf (fun hf => ?_)
    refine ev_aload_n (q_cod qk252 rfl) (by decide) rfl ?_
    refine em_gR (q_cod qk252 rfl) (by decide) (by decide) hf (fun r16 hf => ?_)
    refine ev_aload_n (q_cod qk252 rfl) (by decide) rfl ?_
    refine ev_ic (v := 0) (q_cod qk252 rfl) (by decide) (by decide) ?_
    refine ev_bi (v := (-2)) (q_cod qk252 rfl) (by decide) (by decide) ?_
    obtain ⟨g17, hf⟩ := m_aK_some hf
    refine em_call (v := (fun u => some (.int u))) (q_cod qk252 rfl) rfl rfl (q_cokV rfl rfl (Or.inr g17)) rfl (fun x e => f246_cl e) hf (fun v18 h hf => ?_)
    refine ev_iload (q_cod qk252 rfl) (by decide) rfl ?_
    refine em_wI (q_cod qk252 rfl) (by decide) hf (fun hf => ?_)
    refine ev_aload_n (q_cod qk252 rfl) (by decide) rfl ?_
    refine ev_ic (v := (-1)) (q_cod qk252 rfl) (by decide) (by decide) ?_
    refine em_pI (q_cod qk252 rfl) (by decide) (by decide) (by decide) hf (fun hf => ?_)
    refine ev_aload_n (q_cod qk252 rfl) (by decide) rfl ?_
    refine ev_ic (v := 0) (q_cod qk252 rfl) (by decide) (by decide) ?_
    refine em_pI (q_cod qk252 rfl) (by decide) (by decide) (by decide) hf (fun hf => ?_)
    refine ev_aload_n (q_cod qk252 rfl) (by decide) rfl ?_
    refine ev_ic (v := 0) (q_cod qk252 rfl) (by decide) (by decide) ?_
    refine ev_ic (v := 0) (q_cod qk252 rfl) (by decide) (by decide) ?_
    obtain ⟨g19, hf⟩ := m_aK_some hf
    refine em_call (v := (fun _ => none)) (q_cod qk252 rfl) rfl rfl (q_cokV rfl rfl (Or.inr g19)) rfl (fun x e => f243_cl e) hf (fun _ h hf => ?_)
    exact ev_weak (q_pk [0, 5] rfl) (f252_299_ok hf hK)
  · refine ev_ic (v := 0) (q_cod qk252 rfl) (by decide) (by decide) ?_
    obtain rfl := m_R_inv hf
    obtain ⟨rfl, rfl⟩ := (show q_KI o hz (0, _) from hK)
    exact ev_ret (q_cod qk252 rfl) rfl
def f252_145 (l0 : Nat) (l1 : Int32) (l2 : Int32) (l3 : Int32) (l4 : Int32) (l6 : Int32) (l7 : Int32) (l8 : Int32) : m_M Int32 :=
  if l7 = 0 then (f252_179 l0 l1 l2 l3 l4 l6 l0 1) else (if l8 = 0 then (f252_179 l0 l1 l2 l3 l4 l6 l0 2) else (m_B (m_aK l0 12) (fun _ => m_B (f235 l0 l6) (fun v2 => if v2 = (-1) then (f252_179 l0 l1 l2 l3 l4 l6 l0 0) else (f252_179 l0 l1 l2 l3 l4 l6 l0 3)))))
set_option maxRecDepth 20000 in
theorem f252_145_ok {l0 : Nat} {l1 : Int32} {l2 : Int32} {l3 : Int32} {l4 : Int32} {l6 : Int32} {l7 : Int32} {l8 : Int32} {h : q_H} {o : q_O} {hz : q_H} {x : Int32 × q_H} (hf : f252_145 l0 l1 l2 l3 l4 l6 l7 l8 h = some x) (hK : (q_KI o hz) x) : q_Ev none 252 145 [(0, .ref l0), (1, .int l1), (2, .int l2), (3, .int l3), (4, .int l4), (6, .int l6), (7, .int l7), (8, .int l8)] [] h o hz := by
  unfold f252_145 at hf
  refine ev_aload_n (q_cod qk252 rfl) (by decide) rfl ?_
  refine ev_iload (q_cod qk252 rfl) (by decide) rfl ?_
  refine em_if_ne (q_cod qk252 rfl) (by decide) hf (fun c5 hf => ?_) (fun c5 hf => ?_)
  · refine ev_ic (v := 1) (q_cod qk252 rfl) (by decide) (by decide) ?_
    refine ev_goto (q_cod qk252 rfl) (by decide) ?_
    exact ev_weak (q_pk [0, 1, 2, 3, 4, 5] rfl) (f252_179_ok hf hK)
  · refine ev_iload (q_cod qk252 rfl) (by decide) rfl ?_
    refine em_if_ne (q_cod qk252 rfl) (by decide) hf (fun c4 hf => ?_) (fun c4 hf => ?_)
    · refine ev_ic (v := 2) (q_cod qk252 rfl) (by decide) (by decide) ?_
      refine ev_goto (q_cod qk252 rfl) (by decide) ?_
      exact ev_weak (q_pk [0, 1, 2, 3, 4, 5] rfl) (f252_179_ok hf hK)
    · refine ev_aload_n (q_cod qk252 rfl) (by decide) rfl ?_
      refine ev_iload (q_cod qk252 rfl) (by decide) rfl ?_
      obtain ⟨g1, hf⟩ := m_aK_some hf
      refine em_call (v := (fun u => some (.int u))) (q_cod qk252 rfl) rfl rfl (q_cokV rfl rfl (Or.inr g1)) rfl (fun x e => f235_cl e) hf (fun v2 h hf => ?_)
      refine ev_ic (v := (-1)) (q_cod qk252 rfl) (by decide) (by decide) ?_
      refine em_ic_eq (q_cod qk252 rfl) (by decide) hf (fun c3 hf => ?_) (fun c3 hf => ?_)
      · refine ev_ic (v := 0) (q_cod qk252 rfl) (by decide) (by decide) ?_
        exact ev_weak (q_pk [0, 1, 2, 3, 4, 5] rfl) (f252_179_ok hf hK)
      · refine ev_ic (v := 3) (q_cod qk252 rfl) (by decide) (by decide) ?_
        refine ev_goto (q_cod qk252 rfl) (by decide) ?_
        exact ev_weak (q_pk [0, 1, 2, 3, 4, 5] rfl) (f252_179_ok hf hK)
def f252_137 (l0 : Nat) (l1 : Int32) (l2 : Int32) (l3 : Int32) (l4 : Int32) (l6 : Int32) (l7 : Int32) (l9 : Int32) (s0 : Int32) : m_M ((Nat × Int32 × Int32 × Int32 × Int32 × Int32 × Int32 × Int32 × Int32) ⊕ Int32) :=
  m_R (.inl (l0, l1, l2, l3, l4, l6, l7, s0, (l9 + 1)))
set_option maxRecDepth 20000 in
theorem f252_137_ok {l0 : Nat} {l1 : Int32} {l2 : Int32} {l3 : Int32} {l4 : Int32} {l6 : Int32} {l7 : Int32} {l9 : Int32} {s0 : Int32} {h : q_H} {o : q_O} {hz : q_H} {x : ((Nat × Int32 × Int32 × Int32 × Int32 × Int32 × Int32 × Int32 × Int32) ⊕ Int32) × q_H} (hf : f252_137 l0 l1 l2 l3 l4 l6 l7 l9 s0 h = some x) (hK : (m_yK (fun (s : Nat × Int32 × Int32 × Int32 × Int32 × Int32 × Int32 × Int32 × Int32) (h : q_H) => q_Ev none 252 98 [(0, .ref (s.1)), (1, .int (s.2.1)), (2, .int (s.2.2.1)), (3, .int (s.2.2.2.1)), (4, .int (s.2.2.2.2.1)), (6, .int (s.2.2.2.2.2.1)), (7, .int (s.2.2.2.2.2.2.1)), (8, .int (s.2.2.2.2.2.2.2.1)), (9, .int (s.2.2.2.2.2.2.2.2))] [] h o hz) (q_KI o hz)) x) : q_Ev none 252 137 [(0, .ref l0), (1, .int l1), (2, .int l2), (3, .int l3), (4, .int l4), (6, .int l6), (7, .int l7), (9, .int l9)] [.int s0] h o hz := by
  unfold f252_137 at hf
  refine ev_is2 (L' := [(0, .ref l0), (1, .int l1), (2, .int l2), (3, .int l3), (4, .int l4), (6, .int l6), (7, .int l7), (8, .int s0), (9, .int l9)]) (q_cod qk252 rfl) (by decide) rfl ?_
  refine ev_inc (v := l9 + 1) (L' := [(0, .ref l0), (1, .int l1), (2, .int l2), (3, .int l3), (4, .int l4), (6, .int l6), (7, .int l7), (8, .int s0), (9, .int (l9 + 1))]) (q_cod qk252 rfl) (by decide) rfl rfl rfl ?_
  refine ev_goto (q_cod qk252 rfl) (by decide) ?_
  obtain rfl := m_R_inv hf
  exact (show q_Ev none 252 98 [(0, .ref l0), (1, .int l1), (2, .int l2), (3, .int l3), (4, .int l4), (6, .int l6), (7, .int l7), (8, .int s0), (9, .int (l9 + 1))] [] _ o hz from hK)
def f252_98b (l0 : Nat) (l1 : Int32) (l2 : Int32) (l3 : Int32) (l4 : Int32) (l6 : Int32) (l7 : Int32) (l8 : Int32) (l9 : Int32) : m_M ((Nat × Int32 × Int32 × Int32 × Int32 × Int32 × Int32 × Int32 × Int32) ⊕ Int32) :=
  if l8 = 0 then (m_B (f252_145 l0 l1 l2 l3 l4 l6 l7 l8) (fun r => m_R (.inr r))) else (m_B (m_aK l0 12) (fun _ => m_B (f196 l0 l6 l1 3) (fun v2 => if l9 < v2 then (m_B (m_aK l0 12) (fun _ => m_B (f196 l0 l6 l1 (6 + l9)) (fun v4 => if v4 = (-1) then (f252_137 l0 l1 l2 l3 l4 l6 l7 l9 1) else (f252_137 l0 l1 l2 l3 l4 l6 l7 l9 0)))) else (m_B (f252_145 l0 l1 l2 l3 l4 l6 l7 l8) (fun r => m_R (.inr r))))))
set_option maxRecDepth 20000 in
theorem f252_98b_ok {l0 : Nat} {l1 : Int32} {l2 : Int32} {l3 : Int32} {l4 : Int32} {l6 : Int32} {l7 : Int32} {l8 : Int32} {l9 : Int32} {h : q_H} {o : q_O} {hz : q_H} {x : ((Nat × Int32 × Int32 × Int32 × Int32 × Int32 × Int32 × Int32 × Int32) ⊕ Int32) × q_H} (hf : f252_98b l0 l1 l2 l3 l4 l6 l7 l8 l9 h = some x) (hK : (m_yK (fun (s : Nat × Int32 × Int32 × Int32 × Int32 × Int32 × Int32 × Int32 × Int32) (h : q_H) => q_Ev none 252 98 [(0, .ref (s.1)), (1, .int (s.2.1)), (2, .int (s.2.2.1)), (3, .int (s.2.2.2.1)), (4, .int (s.2.2.2.2.1)), (6, .int (s.2.2.2.2.2.1)), (7, .int (s.2.2.2.2.2.2.1)), (8, .int (s.2.2.2.2.2.2.2.1)), (9, .int (s.2.2.2.2.2.2.2.2))] [] h o hz) (q_KI o hz)) x) : q_Ev none 252 98 [(0, .ref l0), (1, .int l1), (2, .int l2), (3, .int l3), (4, .int l4), (6, .int l6), (7, .int l7), (8, .int l8), (9, .int l9)] [] h o hz := by
  unfold f252_98b at hf
  refine ev_iload (q_cod qk252 rfl) (by decide) rfl ?_
  refine em_if_eq (q_cod qk252 rfl) (by decide) hf (fun c7 hf => ?_) (fun c7 hf => ?_)
  · obtain ⟨y0, hf0, hx⟩ := m_inr_some hf
    subst hx
    exact ev_weak (q_pk [0, 1, 2, 3, 4, 5, 6, 7] rfl) (f252_145_ok hf0 hK)
  · refine ev_iload (q_cod qk252 rfl) (by decide) rfl ?_
    refine ev_aload_n (q_cod qk252 rfl) (by decide) rfl ?_
    refine ev_iload (q_cod qk252 rfl) (by decide) rfl ?_
    refine ev_iload_n (q_cod qk252 rfl) (by decide) rfl ?_
    refine ev_ic (v := 3) (q_cod qk252 rfl) (by decide) (by decide) ?_
    obtain ⟨g1, hf⟩ := m_aK_some hf
    refine em_call (v := (fun u => some (.int u))) (q_cod qk252 rfl) rfl rfl (q_cokV rfl rfl (Or.inr g1)) rfl (fun x e => f196_cl e) hf (fun v2 h hf => ?_)
    refine em_ic_ge (q_cod qk252 rfl) (by decide) hf (fun c6 hf => ?_) (fun c6 hf => ?_)
    · refine ev_aload_n (q_cod qk252 rfl) (by decide) rfl ?_
      refine ev_iload (q_cod qk252 rfl) (by decide) rfl ?_
      refine ev_iload_n (q_cod qk252 rfl) (by decide) rfl ?_
      refine ev_bi (v := 6) (q_cod qk252 rfl) (by decide) (by decide) ?_
      refine ev_iload (q_cod qk252 rfl) (by decide) rfl ?_
      refine ev_iadd (q_cod qk252 rfl) (by decide) ?_
      obtain ⟨g3, hf⟩ := m_aK_some hf
      refine em_call (v := (fun u => some (.int u))) (q_cod qk252 rfl) rfl rfl (q_cokV rfl rfl (Or.inr g3)) rfl (fun x e => f196_cl e) hf (fun v4 h hf => ?_)
      refine ev_ic (v := (-1)) (q_cod qk252 rfl) (by decide) (by decide) ?_
      refine em_ic_ne (q_cod qk252 rfl) (by decide) hf (fun c5 hf => ?_) (fun c5 hf => ?_)
      · refine ev_ic (v := 1) (q_cod qk252 rfl) (by decide) (by decide) ?_
        refine ev_goto (q_cod qk252 rfl) (by decide) ?_
        exact ev_weak (q_pk [0, 1, 2, 3, 4, 5, 6, 8] rfl) (f252_137_ok hf hK)
      · refine ev_ic (v := 0) (q_cod qk252 rfl) (by decide) (by decide) ?_
        exact ev_weak (q_pk [0, 1, 2, 3, 4, 5, 6, 8] rfl) (f252_137_ok hf hK)
    · obtain ⟨y0, hf0, hx⟩ := m_inr_some hf
      subst hx
      exact ev_weak (q_pk [0, 1, 2, 3, 4, 5, 6, 7] rfl) (f252_145_ok hf0 hK)
def f252_98 (l0 : Nat) (l1 : Int32) (l2 : Int32) (l3 : Int32) (l4 : Int32) (l6 : Int32) (l7 : Int32) (l8 : Int32) (l9 : Int32) : m_M Int32 := m_W (fun s => f252_98b (s.1) (s.2.1) (s.2.2.1) (s.2.2.2.1) (s.2.2.2.2.1) (s.2.2.2.2.2.1) (s.2.2.2.2.2.2.1) (s.2.2.2.2.2.2.2.1) (s.2.2.2.2.2.2.2.2)) 1000000 (l0, l1, l2, l3, l4, l6, l7, l8, l9)
theorem f252_98_ok {l0 : Nat} {l1 : Int32} {l2 : Int32} {l3 : Int32} {l4 : Int32} {l6 : Int32} {l7 : Int32} {l8 : Int32} {l9 : Int32} {h : q_H} {o : q_O} {hz : q_H} {x : Int32 × q_H} (hf : f252_98 l0 l1 l2 l3 l4 l6 l7 l8 l9 h = some x) (hK : (q_KI o hz) x) : q_Ev none 252 98 [(0, .ref l0), (1, .int l1), (2, .int l2), (3, .int l3), (4, .int l4), (6, .int l6), (7, .int l7), (8, .int l8), (9, .int l9)] [] h o hz :=
  m_W_ok (P := (fun (s : Nat × Int32 × Int32 × Int32 × Int32 × Int32 × Int32 × Int32 × Int32) (h : q_H) => q_Ev none 252 98 [(0, .ref (s.1)), (1, .int (s.2.1)), (2, .int (s.2.2.1)), (3, .int (s.2.2.2.1)), (4, .int (s.2.2.2.2.1)), (6, .int (s.2.2.2.2.2.1)), (7, .int (s.2.2.2.2.2.2.1)), (8, .int (s.2.2.2.2.2.2.2.1)), (9, .int (s.2.2.2.2.2.2.2.2))] [] h o hz)) (K := (q_KI o hz)) (fun s h x h1 h2 => f252_98b_ok h1 h2) _ (l0, l1, l2, l3, l4, l6, l7, l8, l9) _ _ hf hK
def f252_93 (l0 : Nat) (l1 : Int32) (l2 : Int32) (l3 : Int32) (l4 : Int32) (l6 : Int32) (l7 : Int32) (s0 : Int32) : m_M Int32 :=
  f252_98 l0 l1 l2 l3 l4 l6 l7 s0 0
set_option maxRecDepth 20000 in
theorem f252_93_ok {l0 : Nat} {l1 : Int32} {l2 : Int32} {l3 : Int32} {l4 : Int32} {l6 : Int32} {l7 : Int32} {s0 : Int32} {h : q_H} {o : q_O} {hz : q_H} {x : Int32 × q_H} (hf : f252_93 l0 l1 l2 l3 l4 l6 l7 s0 h = some x) (hK : (q_KI o hz) x) : q_Ev none 252 93 [(0, .ref l0), (1, .int l1), (2, .int l2), (3, .int l3), (4, .int l4), (6, .int l6), (7, .int l7)] [.int s0] h o hz := by
  unfold f252_93 at hf
  refine ev_is2 (L' := [(0, .ref l0), (1, .int l1), (2, .int l2), (3, .int l3), (4, .int l4), (6, .int l6), (7, .int l7), (8, .int s0)]) (q_cod qk252 rfl) (by decide) rfl ?_
  refine ev_ic (v := 0) (q_cod qk252 rfl) (by decide) (by decide) ?_
  refine ev_is2 (L' := [(0, .ref l0), (1, .int l1), (2, .int l2), (3, .int l3), (4, .int l4), (6, .int l6), (7, .int l7), (8, .int s0), (9, .int 0)]) (q_cod qk252 rfl) (by decide) rfl ?_
  exact (f252_98_ok hf hK)
def f252_92 (l0 : Nat) (l1 : Int32) (l2 : Int32) (l3 : Int32) (l4 : Int32) (l6 : Int32) (l7 : Int32) : m_M Int32 :=
  f252_93 l0 l1 l2 l3 l4 l6 l7 0
set_option maxRecDepth 20000 in
theorem f252_92_ok {l0 : Nat} {l1 : Int32} {l2 : Int32} {l3 : Int32} {l4 : Int32} {l6 : Int32} {l7 : Int32} {h : q_H} {o : q_O} {hz : q_H} {x : Int32 × q_H} (hf : f252_92 l0 l1 l2 l3 l4 l6 l7 h = some x) (hK : (q_KI o hz) x) : q_Ev none 252 92 [(0, .ref l0), (1, .int l1), (2, .int l2), (3, .int l3), (4, .int l4), (6, .int l6), (7, .int l7)] [] h o hz := by
  unfold f252_92 at hf
  refine ev_ic (v := 0) (q_cod qk252 rfl) (by decide) (by decide) ?_
  exact (f252_93_ok hf hK)
def f252_63 (l0 : Nat) (l1 : Int32) (l2 : Int32) (l3 : Int32) (l4 : Int32) (l6 : Int32) (s0 : Int32) : m_M Int32 :=
  if s0 = 0 then (f252_92 l0 l1 l2 l3 l4 l6 s0) else (m_B (m_aK l0 12) (fun _ => m_B (f196 l0 l6 l1 1) (fun v2 => m_B (m_aK l0 12) (fun _ => m_B (f208 l0 l6 l2 v2) (fun v4 => if v4 = 0 then (f252_92 l0 l1 l2 l3 l4 l6 s0) else (f252_93 l0 l1 l2 l3 l4 l6 s0 1))))))
set_option maxRecDepth 20000 in
theorem f252_63_ok {l0 : Nat} {l1 : Int32} {l2 : Int32} {l3 : Int32} {l4 : Int32} {l6 : Int32} {s0 : Int32} {h : q_H} {o : q_O} {hz : q_H} {x : Int32 × q_H} (hf : f252_63 l0 l1 l2 l3 l4 l6 s0 h = some x) (hK : (q_KI o hz) x) : q_Ev none 252 63 [(0, .ref l0), (1, .int l1), (2, .int l2), (3, .int l3), (4, .int l4), (6, .int l6)] [.int s0] h o hz := by
  unfold f252_63 at hf
  refine ev_is2 (L' := [(0, .ref l0), (1, .int l1), (2, .int l2), (3, .int l3), (4, .int l4), (6, .int l6), (7, .int s0)]) (q_cod qk252 rfl) (by decide) rfl ?_
  refine ev_iload (q_cod qk252 rfl) (by decide) rfl ?_
  refine em_if_eq (q_cod qk252 rfl) (by decide) hf (fun c6 hf => ?_) (fun c6 hf => ?_)
  · exact (f252_92_ok hf hK)
  · refine ev_aload_n (q_cod qk252 rfl) (by decide) rfl ?_
    refine ev_iload (q_cod qk252 rfl) (by decide) rfl ?_
    refine ev_iload_n (q_cod qk252 rfl) (by decide) rfl ?_
    refine ev_aload_n (q_cod qk252 rfl) (by decide) rfl ?_
    refine ev_iload (q_cod qk252 rfl) (by decide) rfl ?_
    refine ev_iload_n (q_cod qk252 rfl) (by decide) rfl ?_
    refine ev_ic (v := 1) (q_cod qk252 rfl) (by decide) (by decide) ?_
    obtain ⟨g1, hf⟩ := m_aK_some hf
    refine em_call (v := (fun u => some (.int u))) (q_cod qk252 rfl) rfl rfl (q_cokV rfl rfl (Or.inr g1)) rfl (fun x e => f196_cl e) hf (fun v2 h hf => ?_)
    obtain ⟨g3, hf⟩ := m_aK_some hf
    refine em_call (v := (fun u => some (.int u))) (q_cod qk252 rfl) rfl rfl (q_cokV rfl rfl (Or.inr g3)) rfl (fun x e => f208_cl e) hf (fun v4 h hf => ?_)
    refine em_if_eq (q_cod qk252 rfl) (by decide) hf (fun c5 hf => ?_) (fun c5 hf => ?_)
    · exact (f252_92_ok hf hK)
    · refine ev_ic (v := 1) (q_cod qk252 rfl) (by decide) (by decide) ?_
      refine ev_goto (q_cod qk252 rfl) (by decide) ?_
      exact (f252_93_ok hf hK)
def f252_62 (l0 : Nat) (l1 : Int32) (l2 : Int32) (l3 : Int32) (l4 : Int32) (l6 : Int32) : m_M Int32 :=
  f252_63 l0 l1 l2 l3 l4 l6 0
set_option maxRecDepth 20000 in
theorem f252_62_ok {l0 : Nat} {l1 : Int32} {l2 : Int32} {l3 : Int32} {l4 : Int32} {l6 : Int32} {h : q_H} {o : q_O} {hz : q_H} {x : Int32 × q_H} (hf : f252_62 l0 l1 l2 l3 l4 l6 h = some x) (hK : (q_KI o hz) x) : q_Ev none 252 62 [(0, .ref l0), (1, .int l1), (2, .int l2), (3, .int l3), (4, .int l4), (6, .int l6)] [] h o hz := by
  unfold f252_62 at hf
  refine ev_ic (v := 0) (q_cod qk252 rfl) (by decide) (by decide) ?_
  exact (f252_63_ok hf hK)
def f252_30 (l0 : Nat) (l1 : Int32) (l2 : Int32) (l3 : Int32) (l4 : Int32) (l6 : Int32) (s0 : Nat) (s1 : Int32) : m_M Int32 :=
  m_B (m_aK s0 12) (fun _ => m_B (f178 s0 s1) (fun v2 => if v2 = 0 then (m_B (m_aK l0 12) (fun _ => m_B (f206 l0 l6 l1) (fun v4 => if v4 = 0 then (f252_62 l0 l1 l2 l3 l4 l6) else (m_B (m_aK l0 12) (fun _ => m_B (f204 l0 l6 l2) (fun v6 => if v6 = 0 then (f252_62 l0 l1 l2 l3 l4 l6) else (f252_63 l0 l1 l2 l3 l4 l6 1))))))) else (m_R 0)))
set_option maxRecDepth 20000 in
theorem f252_30_ok {l0 : Nat} {l1 : Int32} {l2 : Int32} {l3 : Int32} {l4 : Int32} {l6 : Int32} {s0 : Nat} {s1 : Int32} {h : q_H} {o : q_O} {hz : q_H} {x : Int32 × q_H} (hf : f252_30 l0 l1 l2 l3 l4 l6 s0 s1 h = some x) (hK : (q_KI o hz) x) : q_Ev none 252 30 [(0, .ref l0), (1, .int l1), (2, .int l2), (3, .int l3), (4, .int l4), (6, .int l6)] [.int s1, .ref s0] h o hz := by
  unfold f252_30 at hf
  obtain ⟨g1, hf⟩ := m_aK_some hf
  refine em_call (v := (fun u => some (.int u))) (q_cod qk252 rfl) rfl rfl (q_cokV rfl rfl (Or.inr g1)) rfl (fun x e => f178_cl e) hf (fun v2 h hf => ?_)
  refine em_if_eq (q_cod qk252 rfl) (by decide) hf (fun c9 hf => ?_) (fun c9 hf => ?_)
  · refine ev_aload_n (q_cod qk252 rfl) (by decide) rfl ?_
    refine ev_iload (q_cod qk252 rfl) (by decide) rfl ?_
    refine ev_iload_n (q_cod qk252 rfl) (by decide) rfl ?_
    obtain ⟨g3, hf⟩ := m_aK_some hf
    refine em_call (v := (fun u => some (.int u))) (q_cod qk252 rfl) rfl rfl (q_cokV rfl rfl (Or.inr g3)) rfl (fun x e => f206_cl e) hf (fun v4 h hf => ?_)
    refine em_if_eq (q_cod qk252 rfl) (by decide) hf (fun c8 hf => ?_) (fun c8 hf => ?_)
    · exact (f252_62_ok hf hK)
    · refine ev_aload_n (q_cod qk252 rfl) (by decide) rfl ?_
      refine ev_iload (q_cod qk252 rfl) (by decide) rfl ?_
      refine ev_iload_n (q_cod qk252 rfl) (by decide) rfl ?_
      obtain ⟨g5, hf⟩ := m_aK_some hf
      refine em_call (v := (fun u => some (.int u))) (q_cod qk252 rfl) rfl rfl (q_cokV rfl rfl (Or.inr g5)) rfl (fun x e => f204_cl e) hf (fun v6 h hf => ?_)
      refine em_if_eq (q_cod qk252 rfl) (by decide) hf (fun c7 hf => ?_) (fun c7 hf => ?_)
      · exact (f252_62_ok hf hK)
      · refine ev_ic (v := 1) (q_cod qk252 rfl) (by decide) (by decide) ?_
        refine ev_goto (q_cod qk252 rfl) (by decide) ?_
        exact (f252_63_ok hf hK)
  · refine ev_ic (v := 0) (q_cod qk252 rfl) (by decide) (by decide) ?_
    obtain rfl := m_R_inv hf
    obtain ⟨rfl, rfl⟩ := (show q_KI o hz (0, _) from hK)
    exact ev_ret (q_cod qk252 rfl) rfl
def f252_29 (l0 : Nat) (l1 : Int32) (l2 : Int32) (l3 : Int32) (l4 : Int32) (l6 : Int32) (s0 : Nat) : m_M Int32 :=
  f252_30 l0 l1 l2 l3 l4 l6 s0 0
set_option maxRecDepth 20000 in
theorem f252_29_ok {l0 : Nat} {l1 : Int32} {l2 : Int32} {l3 : Int32} {l4 : Int32} {l6 : Int32} {s0 : Nat} {h : q_H} {o : q_O} {hz : q_H} {x : Int32 × q_H} (hf : f252_29 l0 l1 l2 l3 l4 l6 s0 h = some x) (hK : (q_KI o hz) x) : q_Ev none 252 29 [(0, .ref l0), (1, .int l1), (2, .int l2), (3, .int l3), (4, .int l4), (6, .int l6)] [.ref s0] h o hz := by
  unfold f252_29 at hf
  refine ev_ic (v := 0) (q_cod qk252 rfl) (by decide) (by decide) ?_
  exact (f252_30_ok hf hK)
def f252_10 (l0 : Nat) (l1 : Int32) (l2 : Int32) (l3 : Int32) (l4 : Int32) (l5 : Int32) (s0 : Int32) : m_M Int32 :=
  if l5 = 0 then (f252_29 l0 l1 l2 l3 l4 s0 l0) else (m_B (m_gI 12 l0 3) (fun v1 => if v1 = 0 then (f252_30 l0 l1 l2 l3 l4 s0 l0 3) else (f252_29 l0 l1 l2 l3 l4 s0 l0)))
set_option maxRecDepth 20000 in
theorem f252_10_ok {l0 : Nat} {l1 : Int32} {l2 : Int32} {l3 : Int32} {l4 : Int32} {l5 : Int32} {s0 : Int32} {h : q_H} {o : q_O} {hz : q_H} {x : Int32 × q_H} (hf : f252_10 l0 l1 l2 l3 l4 l5 s0 h = some x) (hK : (q_KI o hz) x) : q_Ev none 252 10 [(0, .ref l0), (1, .int l1), (2, .int l2), (3, .int l3), (4, .int l4), (5, .int l5)] [.int s0] h o hz := by
  unfold f252_10 at hf
  refine ev_is2 (L' := [(0, .ref l0), (1, .int l1), (2, .int l2), (3, .int l3), (4, .int l4), (5, .int l5), (6, .int s0)]) (q_cod qk252 rfl) (by decide) rfl ?_
  refine ev_aload_n (q_cod qk252 rfl) (by decide) rfl ?_
  refine ev_iload (q_cod qk252 rfl) (by decide) rfl ?_
  refine em_if_eq (q_cod qk252 rfl) (by decide) hf (fun c3 hf => ?_) (fun c3 hf => ?_)
  · exact ev_weak (q_pk [0, 1, 2, 3, 4, 6] rfl) (f252_29_ok hf hK)
  · refine ev_aload_n (q_cod qk252 rfl) (by decide) rfl ?_
    refine em_gI (q_cod qk252 rfl) (by decide) (by decide) hf (fun v1 hf => ?_)
    refine em_if_ne (q_cod qk252 rfl) (by decide) hf (fun c2 hf => ?_) (fun c2 hf => ?_)
    · refine ev_ic (v := 3) (q_cod qk252 rfl) (by decide) (by decide) ?_
      refine ev_goto (q_cod qk252 rfl) (by decide) ?_
      exact ev_weak (q_pk [0, 1, 2, 3, 4, 6] rfl) (f252_30_ok hf hK)
    · exact ev_weak (q_pk [0, 1, 2, 3, 4, 6] rfl) (f252_29_ok hf hK)
def f252 (l0 : Nat) (l1 : Int32) (l2 : Int32) (l3 : Int32) (l4 : Int32) (l5 : Int32) : m_M Int32 :=
  if l5 = 0 then (f252_10 l0 l1 l2 l3 l4 l5 0) else (f252_10 l0 l1 l2 l3 l4 l5 1)
set_option maxRecDepth 20000 in
theorem f252_ok {l0 : Nat} {l1 : Int32} {l2 : Int32} {l3 : Int32} {l4 : Int32} {l5 : Int32} {h : q_H} {o : q_O} {hz : q_H} {x : Int32 × q_H} (hf : f252 l0 l1 l2 l3 l4 l5 h = some x) (hK : (q_KI o hz) x) : q_Ev none 252 0 [(0, .ref l0), (1, .int l1), (2, .int l2), (3, .int l3), (4, .int l4), (5, .int l5)] [] h o hz := by
  unfold f252 at hf
  refine ev_iload (q_cod qk252 rfl) (by decide) rfl ?_
  refine em_if_eq (q_cod qk252 rfl) (by decide) hf (fun c1 hf => ?_) (fun c1 hf => ?_)
  · refine ev_ic (v := 0) (q_cod qk252 rfl) (by decide) (by decide) ?_
    exact (f252_10_ok hf hK)
  · refine ev_ic (v := 1) (q_cod qk252 rfl) (by decide) (by decide) ?_
    refine ev_goto (q_cod qk252 rfl) (by decide) ?_
    exact (f252_10_ok hf hK)
theorem f252_cl {l0 : Nat} {l1 : Int32} {l2 : Int32} {l3 : Int32} {l4 : Int32} {l5 : Int32} {h : q_H} {x : Int32 × q_H} (hf : f252 l0 l1 l2 l3 l4 l5 h = some x) : q_Cl 252 [.ref l0, .int l1, .int l2, .int l3, .int l4, .int l5] h (.inl (some (.int x.1))) x.2 := q_Cl.of rfl (q_LvS rfl rfl) (f252_ok hf ⟨rfl, rfl⟩)
/-! SmithyBenchModel.value()I -/
theorem qk253 : q_cs.getD 253 [] = qc_253 := rfl
def f253 (l0 : Nat) : m_M Int32 :=
  m_B (m_pI 12 l0 0 0) (fun _ => m_B (m_gI 12 l0 35) (fun v1 => m_R v1))
theorem f253_ok {l0 : Nat} {h : q_H} {o : q_O} {hz : q_H} {x : Int32 × q_H} (hf : f253 l0 h = some x) (hK : (q_KI o hz) x) : q_Ev none 253 0 [(0, .ref l0)] [] h o hz := by
  unfold f253 at hf
  refine ev_aload_n (q_cod qk253 rfl) (by decide) rfl ?_
  refine ev_ic (v := 0) (q_cod qk253 rfl) (by decide) (by decide) ?_
  refine em_pI (q_cod qk253 rfl) (by decide) (by decide) (by decide) hf (fun hf => ?_)
  refine ev_aload_n (q_cod qk253 rfl) (by decide) rfl ?_
  refine em_gI (q_cod qk253 rfl) (by decide) (by decide) hf (fun v1 hf => ?_)
  obtain rfl := m_R_inv hf
  obtain ⟨rfl, rfl⟩ := (show q_KI o hz (v1, _) from hK)
  exact ev_ret (q_cod qk253 rfl) rfl
theorem f253_cl {l0 : Nat} {h : q_H} {x : Int32 × q_H} (hf : f253 l0 h = some x) : q_Cl 253 [.ref l0] h (.inl (some (.int x.1))) x.2 := q_Cl.of rfl (q_LvS rfl rfl) (f253_ok hf ⟨rfl, rfl⟩)
/-! SmithyBenchModel.steps()I -/
theorem qk254 : q_cs.getD 254 [] = qc_254 := rfl
def f254 (l0 : Nat) : m_M Int32 :=
  m_B (m_pI 12 l0 0 0) (fun _ => m_B (m_gI 12 l0 33) (fun v1 => m_R v1))
theorem f254_ok {l0 : Nat} {h : q_H} {o : q_O} {hz : q_H} {x : Int32 × q_H} (hf : f254 l0 h = some x) (hK : (q_KI o hz) x) : q_Ev none 254 0 [(0, .ref l0)] [] h o hz := by
  unfold f254 at hf
  refine ev_aload_n (q_cod qk254 rfl) (by decide) rfl ?_
  refine ev_ic (v := 0) (q_cod qk254 rfl) (by decide) (by decide) ?_
  refine em_pI (q_cod qk254 rfl) (by decide) (by decide) (by decide) hf (fun hf => ?_)
  refine ev_aload_n (q_cod qk254 rfl) (by decide) rfl ?_
  refine em_gI (q_cod qk254 rfl) (by decide) (by decide) hf (fun v1 hf => ?_)
  obtain rfl := m_R_inv hf
  obtain ⟨rfl, rfl⟩ := (show q_KI o hz (v1, _) from hK)
  exact ev_ret (q_cod qk254 rfl) rfl
theorem f254_cl {l0 : Nat} {h : q_H} {x : Int32 × q_H} (hf : f254 l0 h = some x) : q_Cl 254 [.ref l0] h (.inl (some (.int x.1))) x.2 := q_Cl.of rfl (q_LvS rfl rfl) (f254_ok hf ⟨rfl, rfl⟩)
/-! SmithyBenchModel.isFree(III)Z -/
theorem qk257 : q_cs.getD 257 [] = qc_257 := rfl
def f257_51 (l0 : Nat) (l1 : Int32) (l2 : Int32) (l3 : Int32) (l5 : Int32) (s0 : Int32) : m_M ((Nat × Int32 × Int32 × Int32 × Int32 × Int32) ⊕ Int32) :=
  m_R (.inl (l0, l1, l2, l3, s0, (l5 + 1)))
theorem f257_51_ok {l0 : Nat} {l1 : Int32} {l2 : Int32} {l3 : Int32} {l5 : Int32} {s0 : Int32} {h : q_H} {o : q_O} {hz : q_H} {x : ((Nat × Int32 × Int32 × Int32 × Int32 × Int32) ⊕ Int32) × q_H} (hf : f257_51 l0 l1 l2 l3 l5 s0 h = some x) (hK : (m_yK (fun (s : Nat × Int32 × Int32 × Int32 × Int32 × Int32) (h : q_H) => q_Ev none 257 6 [(0, .ref (s.1)), (1, .int (s.2.1)), (2, .int (s.2.2.1)), (3, .int (s.2.2.2.1)), (4, .int (s.2.2.2.2.1)), (5, .int (s.2.2.2.2.2))] [] h o hz) (q_KI o hz)) x) : q_Ev none 257 51 [(0, .ref l0), (1, .int l1), (2, .int l2), (3, .int l3), (5, .int l5)] [.int s0] h o hz := by
  unfold f257_51 at hf
  refine ev_is2 (L' := [(0, .ref l0), (1, .int l1), (2, .int l2), (3, .int l3), (4, .int s0), (5, .int l5)]) (q_cod qk257 rfl) (by decide) rfl ?_
  refine ev_inc (v := l5 + 1) (L' := [(0, .ref l0), (1, .int l1), (2, .int l2), (3, .int l3), (4, .int s0), (5, .int (l5 + 1))]) (q_cod qk257 rfl) (by decide) rfl rfl rfl ?_
  refine ev_goto (q_cod qk257 rfl) (by decide) ?_
  obtain rfl := m_R_inv hf
  exact (show q_Ev none 257 6 [(0, .ref l0), (1, .int l1), (2, .int l2), (3, .int l3), (4, .int s0), (5, .int (l5 + 1))] [] _ o hz from hK)
def f257_50 (l0 : Nat) (l1 : Int32) (l2 : Int32) (l3 : Int32) (l5 : Int32) : m_M ((Nat × Int32 × Int32 × Int32 × Int32 × Int32) ⊕ Int32) :=
  f257_51 l0 l1 l2 l3 l5 0
theorem f257_50_ok {l0 : Nat} {l1 : Int32} {l2 : Int32} {l3 : Int32} {l5 : Int32} {h : q_H} {o : q_O} {hz : q_H} {x : ((Nat × Int32 × Int32 × Int32 × Int32 × Int32) ⊕ Int32) × q_H} (hf : f257_50 l0 l1 l2 l3 l5 h = some x) (hK : (m_yK (fun (s : Nat × Int32 × Int32 × Int32 × Int32 × Int32) (h : q_H) => q_Ev none 257 6 [(0, .ref (s.1)), (1, .int (s.2.1)), (2, .int (s.2.2.1)), (3, .int (s.2.2.2.1)), (4, .int (s.2.2.2.2.1)), (5, .int (s.2.2.2.2.2))] [] h o hz) (q_KI o hz)) x) : q_Ev none 257 50 [(0, .ref l0), (1, .int l1), (2, .int l2), (3, .int l3), (5, .int l5)] [] h o hz := by
  unfold f257_50 at hf
  refine ev_ic (v := 0) (q_cod qk257 rfl) (by decide) (by decide) ?_
  exact (f257_51_ok hf hK)
def f257_46 (l0 : Nat) (l1 : Int32) (l2 : Int32) (l3 : Int32) (l5 : Int32) : m_M ((Nat × Int32 × Int32 × Int32 × Int32 × Int32) ⊕ Int32) :=
  f257_51 l0 l1 l2 l3 l5 1
theorem f257_46_ok {l0 : Nat} {l1 : Int32} {l2 : Int32} {l3 : Int32} {l5 : Int32} {h : q_H} {o : q_O} {hz : q_H} {x : ((Nat × Int32 × Int32 × Int32 × Int32 × Int32) ⊕ Int32) × q_H} (hf : f257_46 l0 l1 l2 l3 l5 h = some x) (hK : (m_yK (fun (s : Nat × Int32 × Int32 × Int32 × Int32 × Int32) (h : q_H) => q_Ev none 257 6 [(0, .ref (s.1)), (1, .int (s.2.1)), (2, .int (s.2.2.1)), (3, .int (s.2.2.2.1)), (4, .int (s.2.2.2.2.1)), (5, .int (s.2.2.2.2.2))] [] h o hz) (q_KI o hz)) x) : q_Ev none 257 46 [(0, .ref l0), (1, .int l1), (2, .int l2), (3, .int l3), (5, .int l5)] [] h o hz := by
  unfold f257_46 at hf
  refine ev_ic (v := 1) (q_cod qk257 rfl) (by decide) (by decide) ?_
  refine ev_goto (q_cod qk257 rfl) (by decide) ?_
  exact (f257_51_ok hf hK)
def f257_59 (l4 : Int32) : m_M Int32 :=
  m_B (m_G (l4 = 0 ∨ l4 = 1)) (fun _ => m_R l4)
theorem f257_59_ok {l4 : Int32} {h : q_H} {o : q_O} {hz : q_H} {x : Int32 × q_H} (hf : f257_59 l4 h = some x) (hK : (q_KI o hz) x) : q_Ev none 257 59 [(4, .int l4)] [] h o hz := by
  unfold f257_59 at hf
  refine ev_iload (q_cod qk257 rfl) (by decide) rfl ?_
  obtain ⟨g1, hf⟩ := m_G_some hf
  obtain rfl := m_R_inv hf
  obtain ⟨rfl, rfl⟩ := (show q_KI o hz (l4, _) from hK)
  exact ev_ret (q_cod qk257 rfl) (q_retZ g1)
def f257_6b (l0 : Nat) (l1 : Int32) (l2 : Int32) (l3 : Int32) (l4 : Int32) (l5 : Int32) : m_M ((Nat × Int32 × Int32 × Int32 × Int32 × Int32) ⊕ Int32) :=
  if l5 < 24 then (if l4 = 0 then (f257_50 l0 l1 l2 l3 l5) else (m_B (m_gR 12 l0 36) (fun r1 => m_B (m_lZ r1 l5) (fun v2 => if v2 = 0 then (f257_46 l0 l1 l2 l3 l5) else (m_B (m_aK l0 12) (fun _ => m_B (f196 l0 l1 l5 1) (fun v4 => m_B (m_aK l0 12) (fun _ => m_B (f215 l0 l1 v4 l2 l3) (fun v6 => if v6 = 0 then (f257_46 l0 l1 l2 l3 l5) else (f257_50 l0 l1 l2 l3 l5)))))))))) else (m_B (f257_59 l4) (fun r => m_R (.inr r)))
theorem f257_6b_ok {l0 : Nat} {l1 : Int32} {l2 : Int32} {l3 : Int32} {l4 : Int32} {l5 : Int32} {h : q_H} {o : q_O} {hz : q_H} {x : ((Nat × Int32 × Int32 × Int32 × Int32 × Int32) ⊕ Int32) × q_H} (hf : f257_6b l0 l1 l2 l3 l4 l5 h = some x) (hK : (m_yK (fun (s : Nat × Int32 × Int32 × Int32 × Int32 × Int32) (h : q_H) => q_Ev none 257 6 [(0, .ref (s.1)), (1, .int (s.2.1)), (2, .int (s.2.2.1)), (3, .int (s.2.2.2.1)), (4, .int (s.2.2.2.2.1)), (5, .int (s.2.2.2.2.2))] [] h o hz) (q_KI o hz)) x) : q_Ev none 257 6 [(0, .ref l0), (1, .int l1), (2, .int l2), (3, .int l3), (4, .int l4), (5, .int l5)] [] h o hz := by
  unfold f257_6b at hf
  refine ev_iload (q_cod qk257 rfl) (by decide) rfl ?_
  refine ev_bi (v := 24) (q_cod qk257 rfl) (by decide) (by decide) ?_
  refine em_ic_ge (q_cod qk257 rfl) (by decide) hf (fun c10 hf => ?_) (fun c10 hf => ?_)
  · refine ev_iload (q_cod qk257 rfl) (by decide) rfl ?_
    refine em_if_eq (q_cod qk257 rfl) (by decide) hf (fun c9 hf => ?_) (fun c9 hf => ?_)
    · exact ev_weak (q_pk [0, 1, 2, 3, 5] rfl) (f257_50_ok hf hK)
    · refine ev_aload_n (q_cod qk257 rfl) (by decide) rfl ?_
      refine em_gR (q_cod qk257 rfl) (by decide) (by decide) hf (fun r1 hf => ?_)
      refine ev_iload (q_cod qk257 rfl) (by decide) rfl ?_
      refine em_lZ (q_cod qk257 rfl) (by decide) hf (fun v2 hf => ?_)
      refine em_if_eq (q_cod qk257 rfl) (by decide) hf (fun c8 hf => ?_) (fun c8 hf => ?_)
      · exact ev_weak (q_pk [0, 1, 2, 3, 5] rfl) (f257_46_ok hf hK)
      · refine ev_aload_n (q_cod qk257 rfl) (by decide) rfl ?_
        refine ev_iload_n (q_cod qk257 rfl) (by decide) rfl ?_
        refine ev_aload_n (q_cod qk257 rfl) (by decide) rfl ?_
        refine ev_iload_n (q_cod qk257 rfl) (by decide) rfl ?_
        refine ev_iload (q_cod qk257 rfl) (by decide) rfl ?_
        refine ev_ic (v := 1) (q_cod qk257 rfl) (by decide) (by decide) ?_
        obtain ⟨g3, hf⟩ := m_aK_some hf
        refine em_call (v := (fun u => some (.int u))) (q_cod qk257 rfl) rfl rfl (q_cokV rfl rfl (Or.inr g3)) rfl (fun x e => f196_cl e) hf (fun v4 h hf => ?_)
        refine ev_iload_n (q_cod qk257 rfl) (by decide) rfl ?_
        refine ev_iload_n (q_cod qk257 rfl) (by decide) rfl ?_
        obtain ⟨g5, hf⟩ := m_aK_some hf
        refine em_call (v := (fun u => some (.int u))) (q_cod qk257 rfl) rfl rfl (q_cokV rfl rfl (Or.inr g5)) rfl (fun x e => f215_cl e) hf (fun v6 h hf => ?_)
        refine em_if_ne (q_cod qk257 rfl) (by decide) hf (fun c7 hf => ?_) (fun c7 hf => ?_)
        · exact ev_weak (q_pk [0, 1, 2, 3, 5] rfl) (f257_46_ok hf hK)
        · exact ev_weak (q_pk [0, 1, 2, 3, 5] rfl) (f257_50_ok hf hK)
  · obtain ⟨y0, hf0, hx⟩ := m_inr_some hf
    subst hx
    exact ev_weak (q_pk [4] rfl) (f257_59_ok hf0 hK)
def f257_6 (l0 : Nat) (l1 : Int32) (l2 : Int32) (l3 : Int32) (l4 : Int32) (l5 : Int32) : m_M Int32 := m_W (fun s => f257_6b (s.1) (s.2.1) (s.2.2.1) (s.2.2.2.1) (s.2.2.2.2.1) (s.2.2.2.2.2)) 1000000 (l0, l1, l2, l3, l4, l5)
theorem f257_6_ok {l0 : Nat} {l1 : Int32} {l2 : Int32} {l3 : Int32} {l4 : Int32} {l5 : Int32} {h : q_H} {o : q_O} {hz : q_H} {x : Int32 × q_H} (hf : f257_6 l0 l1 l2 l3 l4 l5 h = some x) (hK : (q_KI o hz) x) : q_Ev none 257 6 [(0, .ref l0), (1, .int l1), (2, .int l2), (3, .int l3), (4, .int l4), (5, .int l5)] [] h o hz :=
  m_W_ok (P := (fun (s : Nat × Int32 × Int32 × Int32 × Int32 × Int32) (h : q_H) => q_Ev none 257 6 [(0, .ref (s.1)), (1, .int (s.2.1)), (2, .int (s.2.2.1)), (3, .int (s.2.2.2.1)), (4, .int (s.2.2.2.2.1)), (5, .int (s.2.2.2.2.2))] [] h o hz)) (K := (q_KI o hz)) (fun s h x h1 h2 => f257_6b_ok h1 h2) _ (l0, l1, l2, l3, l4, l5) _ _ hf hK
def f257 (l0 : Nat) (l1 : Int32) (l2 : Int32) (l3 : Int32) : m_M Int32 :=
  f257_6 l0 l1 l2 l3 1 0
theorem f257_ok {l0 : Nat} {l1 : Int32} {l2 : Int32} {l3 : Int32} {h : q_H} {o : q_O} {hz : q_H} {x : Int32 × q_H} (hf : f257 l0 l1 l2 l3 h = some x) (hK : (q_KI o hz) x) : q_Ev none 257 0 [(0, .ref l0), (1, .int l1), (2, .int l2), (3, .int l3)] [] h o hz := by
  unfold f257 at hf
  refine ev_ic (v := 1) (q_cod qk257 rfl) (by decide) (by decide) ?_
  refine ev_is2 (L' := [(0, .ref l0), (1, .int l1), (2, .int l2), (3, .int l3), (4, .int 1)]) (q_cod qk257 rfl) (by decide) rfl ?_
  refine ev_ic (v := 0) (q_cod qk257 rfl) (by decide) (by decide) ?_
  refine ev_is2 (L' := [(0, .ref l0), (1, .int l1), (2, .int l2), (3, .int l3), (4, .int 1), (5, .int 0)]) (q_cod qk257 rfl) (by decide) rfl ?_
  exact (f257_6_ok hf hK)
theorem f257_cl {l0 : Nat} {l1 : Int32} {l2 : Int32} {l3 : Int32} {h : q_H} {x : Int32 × q_H} (hf : f257 l0 l1 l2 l3 h = some x) : q_Cl 257 [.ref l0, .int l1, .int l2, .int l3] h (.inl (some (.int x.1))) x.2 := q_Cl.of rfl (q_LvS rfl rfl) (f257_ok hf ⟨rfl, rfl⟩)
/-! SmithyBenchModel.reachFrom(II)Z -/
theorem qk259 : q_cs.getD 259 [] = qc_259 := rfl
def f259_156 (l0 : Nat) (l1 : Int32) (l2 : Int32) (l3 : Int32) (l4 : Int32) (l5 : Int32) (l6 : Int32) (l7 : Int32) : m_M ((Nat × Int32 × Int32 × Int32 × Int32 × Int32 × Int32 × Int32) ⊕ ((Nat × Int32 × Int32 × Int32 × Int32) ⊕ Int32)) :=
  m_R (.inl (l0, l1, l2, l3, l4, l5, l6, (l7 + 1)))
theorem f259_156_ok {l0 : Nat} {l1 : Int32} {l2 : Int32} {l3 : Int32} {l4 : Int32} {l5 : Int32} {l6 : Int32} {l7 : Int32} {h : q_H} {o : q_O} {hz : q_H} {x : ((Nat × Int32 × Int32 × Int32 × Int32 × Int32 × Int32 × Int32) ⊕ ((Nat × Int32 × Int32 × Int32 × Int32) ⊕ Int32)) × q_H} (hf : f259_156 l0 l1 l2 l3 l4 l5 l6 l7 h = some x) (hK : (m_yK (fun (s : Nat × Int32 × Int32 × Int32 × Int32 × Int32 × Int32 × Int32) (h : q_H) => q_Ev none 259 70 [(0, .ref (s.1)), (1, .int (s.2.1)), (2, .int (s.2.2.1)), (3, .int (s.2.2.2.1)), (4, .int (s.2.2.2.2.1)), (5, .int (s.2.2.2.2.2.1)), (6, .int (s.2.2.2.2.2.2.1)), (7, .int (s.2.2.2.2.2.2.2))] [] h o hz) (m_yK (fun (s : Nat × Int32 × Int32 × Int32 × Int32) (h : q_H) => q_Ev none 259 5 [(0, .ref (s.1)), (1, .int (s.2.1)), (2, .int (s.2.2.1)), (3, .int (s.2.2.2.1)), (4, .int (s.2.2.2.2))] [] h o hz) (q_KI o hz))) x) : q_Ev none 259 156 [(0, .ref l0), (1, .int l1), (2, .int l2), (3, .int l3), (4, .int l4), (5, .int l5), (6, .int l6), (7, .int l7)] [] h o hz := by
  unfold f259_156 at hf
  refine ev_inc (v := l7 + 1) (L' := [(0, .ref l0), (1, .int l1), (2, .int l2), (3, .int l3), (4, .int l4), (5, .int l5), (6, .int l6), (7, .int (l7 + 1))]) (q_cod qk259 rfl) (by decide) rfl rfl rfl ?_
  refine ev_goto (q_cod qk259 rfl) (by decide) ?_
  obtain rfl := m_R_inv hf
  exact (show q_Ev none 259 70 [(0, .ref l0), (1, .int l1), (2, .int l2), (3, .int l3), (4, .int l4), (5, .int l5), (6, .int l6), (7, .int (l7 + 1))] [] _ o hz from hK)
def f259_129 (l0 : Nat) (l1 : Int32) (l2 : Int32) (l3 : Int32) (l4 : Int32) (l5 : Int32) (l6 : Int32) (l7 : Int32) (s0 : Int32) : m_M ((Nat × Int32 × Int32 × Int32 × Int32 × Int32 × Int32 × Int32) ⊕ ((Nat × Int32 × Int32 × Int32 × Int32) ⊕ Int32)) :=
  if s0 = 0 then (f259_156 l0 l1 l2 l3 l4 l5 l6 l7) else (m_B (m_gR 12 l0 37) (fun r1 => m_B (m_lZ r1 l7) (fun v2 => if v2 = 0 then (m_B (m_gR 12 l0 37) (fun r3 => m_B (m_wZ r3 l7 1) (fun _ => f259_156 l0 l1 l2 1 l4 l5 l6 l7))) else (f259_156 l0 l1 l2 l3 l4 l5 l6 l7))))
theorem f259_129_ok {l0 : Nat} {l1 : Int32} {l2 : Int32} {l3 : Int32} {l4 : Int32} {l5 : Int32} {l6 : Int32} {l7 : Int32} {s0 : Int32} {h : q_H} {o : q_O} {hz : q_H} {x : ((Nat × Int32 × Int32 × Int32 × Int32 × Int32 × Int32 × Int32) ⊕ ((Nat × Int32 × Int32 × Int32 × Int32) ⊕ Int32)) × q_H} (hf : f259_129 l0 l1 l2 l3 l4 l5 l6 l7 s0 h = some x) (hK : (m_yK (fun (s : Nat × Int32 × Int32 × Int32 × Int32 × Int32 × Int32 × Int32) (h : q_H) => q_Ev none 259 70 [(0, .ref (s.1)), (1, .int (s.2.1)), (2, .int (s.2.2.1)), (3, .int (s.2.2.2.1)), (4, .int (s.2.2.2.2.1)), (5, .int (s.2.2.2.2.2.1)), (6, .int (s.2.2.2.2.2.2.1)), (7, .int (s.2.2.2.2.2.2.2))] [] h o hz) (m_yK (fun (s : Nat × Int32 × Int32 × Int32 × Int32) (h : q_H) => q_Ev none 259 5 [(0, .ref (s.1)), (1, .int (s.2.1)), (2, .int (s.2.2.1)), (3, .int (s.2.2.2.1)), (4, .int (s.2.2.2.2))] [] h o hz) (q_KI o hz))) x) : q_Ev none 259 129 [(0, .ref l0), (1, .int l1), (2, .int l2), (3, .int l3), (4, .int l4), (5, .int l5), (6, .int l6), (7, .int l7)] [.int s0] h o hz := by
  unfold f259_129 at hf
  refine ev_is2 (L' := [(0, .ref l0), (1, .int l1), (2, .int l2), (3, .int l3), (4, .int l4), (5, .int l5), (6, .int l6), (7, .int l7), (8, .int s0)]) (q_cod qk259 rfl) (by decide) rfl ?_
  refine ev_iload (q_cod qk259 rfl) (by decide) rfl ?_
  refine em_if_eq (q_cod qk259 rfl) (by decide) hf (fun c5 hf => ?_) (fun c5 hf => ?_)
  · exact ev_weak (q_pk [0, 1, 2, 3, 4, 5, 6, 7] rfl) (f259_156_ok hf hK)
  · refine ev_aload_n (q_cod qk259 rfl) (by decide) rfl ?_
    refine em_gR (q_cod qk259 rfl) (by decide) (by decide) hf (fun r1 hf => ?_)
    refine ev_iload (q_cod qk259 rfl) (by decide) rfl ?_
    refine em_lZ (q_cod qk259 rfl) (by decide) hf (fun v2 hf => ?_)
    refine em_if_ne (q_cod qk259 rfl) (by decide) hf (fun c4 hf => ?_) (fun c4 hf => ?_)
    · refine ev_aload_n (q_cod qk259 rfl) (by decide) rfl ?_
      refine em_gR (q_cod qk259 rfl) (by decide) (by decide) hf (fun r3 hf => ?_)
      refine ev_iload (q_cod qk259 rfl) (by decide) rfl ?_
      refine ev_ic (v := 1) (q_cod qk259 rfl) (by decide) (by decide) ?_
      refine em_wZ (q_cod qk259 rfl) (by decide) hf (fun hf => ?_)
      refine ev_ic (v := 1) (q_cod qk259 rfl) (by decide) (by decide) ?_
      refine ev_is1 (L' := [(0, .ref l0), (1, .int l1), (2, .int l2), (3, .int 1), (4, .int l4), (5, .int l5), (6, .int l6), (7, .int l7), (8, .int s0)]) (q_cod qk259 rfl) (by decide) rfl ?_
      exact ev_weak (q_pk [0, 1, 2, 3, 4, 5, 6, 7] rfl) (f259_156_ok hf hK)
    · exact ev_weak (q_pk [0, 1, 2, 3, 4, 5, 6, 7] rfl) (f259_156_ok hf hK)
def f259_124 (l0 : Nat) (l1 : Int32) (l2 : Int32) (l3 : Int32) (l4 : Int32) (l5 : Int32) (l6 : Int32) (l7 : Int32) : m_M ((Nat × Int32 × Int32 × Int32 × Int32 × Int32 × Int32 × Int32) ⊕ ((Nat × Int32 × Int32 × Int32 × Int32) ⊕ Int32)) :=
  f259_129 l0 l1 l2 l3 l4 l5 l6 l7 1
theorem f259_124_ok {l0 : Nat} {l1 : Int32} {l2 : Int32} {l3 : Int32} {l4 : Int32} {l5 : Int32} {l6 : Int32} {l7 : Int32} {h : q_H} {o : q_O} {hz : q_H} {x : ((Nat × Int32 × Int32 × Int32 × Int32 × Int32 × Int32 × Int32) ⊕ ((Nat × Int32 × Int32 × Int32 × Int32) ⊕ Int32)) × q_H} (hf : f259_124 l0 l1 l2 l3 l4 l5 l6 l7 h = some x) (hK : (m_yK (fun (s : Nat × Int32 × Int32 × Int32 × Int32 × Int32 × Int32 × Int32) (h : q_H) => q_Ev none 259 70 [(0, .ref (s.1)), (1, .int (s.2.1)), (2, .int (s.2.2.1)), (3, .int (s.2.2.2.1)), (4, .int (s.2.2.2.2.1)), (5, .int (s.2.2.2.2.2.1)), (6, .int (s.2.2.2.2.2.2.1)), (7, .int (s.2.2.2.2.2.2.2))] [] h o hz) (m_yK (fun (s : Nat × Int32 × Int32 × Int32 × Int32) (h : q_H) => q_Ev none 259 5 [(0, .ref (s.1)), (1, .int (s.2.1)), (2, .int (s.2.2.1)), (3, .int (s.2.2.2.1)), (4, .int (s.2.2.2.2))] [] h o hz) (q_KI o hz))) x) : q_Ev none 259 124 [(0, .ref l0), (1, .int l1), (2, .int l2), (3, .int l3), (4, .int l4), (5, .int l5), (6, .int l6), (7, .int l7)] [] h o hz := by
  unfold f259_124 at hf
  refine ev_ic (v := 1) (q_cod qk259 rfl) (by decide) (by decide) ?_
  refine ev_goto (q_cod qk259 rfl) (by decide) ?_
  exact (f259_129_ok hf hK)
def f259_128 (l0 : Nat) (l1 : Int32) (l2 : Int32) (l3 : Int32) (l4 : Int32) (l5 : Int32) (l6 : Int32) (l7 : Int32) : m_M ((Nat × Int32 × Int32 × Int32 × Int32 × Int32 × Int32 × Int32) ⊕ ((Nat × Int32 × Int32 × Int32 × Int32) ⊕ Int32)) :=
  f259_129 l0 l1 l2 l3 l4 l5 l6 l7 0
theorem f259_128_ok {l0 : Nat} {l1 : Int32} {l2 : Int32} {l3 : Int32} {l4 : Int32} {l5 : Int32} {l6 : Int32} {l7 : Int32} {h : q_H} {o : q_O} {hz : q_H} {x : ((Nat × Int32 × Int32 × Int32 × Int32 × Int32 × Int32 × Int32) ⊕ ((Nat × Int32 × Int32 × Int32 × Int32) ⊕ Int32)) × q_H} (hf : f259_128 l0 l1 l2 l3 l4 l5 l6 l7 h = some x) (hK : (m_yK (fun (s : Nat × Int32 × Int32 × Int32 × Int32 × Int32 × Int32 × Int32) (h : q_H) => q_Ev none 259 70 [(0, .ref (s.1)), (1, .int (s.2.1)), (2, .int (s.2.2.1)), (3, .int (s.2.2.2.1)), (4, .int (s.2.2.2.2.1)), (5, .int (s.2.2.2.2.2.1)), (6, .int (s.2.2.2.2.2.2.1)), (7, .int (s.2.2.2.2.2.2.2))] [] h o hz) (m_yK (fun (s : Nat × Int32 × Int32 × Int32 × Int32) (h : q_H) => q_Ev none 259 5 [(0, .ref (s.1)), (1, .int (s.2.1)), (2, .int (s.2.2.1)), (3, .int (s.2.2.2.1)), (4, .int (s.2.2.2.2))] [] h o hz) (q_KI o hz))) x) : q_Ev none 259 128 [(0, .ref l0), (1, .int l1), (2, .int l2), (3, .int l3), (4, .int l4), (5, .int l5), (6, .int l6), (7, .int l7)] [] h o hz := by
  unfold f259_128 at hf
  refine ev_ic (v := 0) (q_cod qk259 rfl) (by decide) (by decide) ?_
  exact (f259_129_ok hf hK)
def f259_162 (l0 : Nat) (l1 : Int32) (l2 : Int32) (l3 : Int32) (l4 : Int32) : m_M ((Nat × Int32 × Int32 × Int32 × Int32) ⊕ Int32) :=
  m_R (.inl (l0, l1, l2, l3, (l4 + 1)))
theorem f259_162_ok {l0 : Nat} {l1 : Int32} {l2 : Int32} {l3 : Int32} {l4 : Int32} {h : q_H} {o : q_O} {hz : q_H} {x : ((Nat × Int32 × Int32 × Int32 × Int32) ⊕ Int32) × q_H} (hf : f259_162 l0 l1 l2 l3 l4 h = some x) (hK : (m_yK (fun (s : Nat × Int32 × Int32 × Int32 × Int32) (h : q_H) => q_Ev none 259 5 [(0, .ref (s.1)), (1, .int (s.2.1)), (2, .int (s.2.2.1)), (3, .int (s.2.2.2.1)), (4, .int (s.2.2.2.2))] [] h o hz) (q_KI o hz)) x) : q_Ev none 259 162 [(0, .ref l0), (1, .int l1), (2, .int l2), (3, .int l3), (4, .int l4)] [] h o hz := by
  unfold f259_162 at hf
  refine ev_inc (v := l4 + 1) (L' := [(0, .ref l0), (1, .int l1), (2, .int l2), (3, .int l3), (4, .int (l4 + 1))]) (q_cod qk259 rfl) (by decide) rfl rfl rfl ?_
  refine ev_goto (q_cod qk259 rfl) (by decide) ?_
  obtain rfl := m_R_inv hf
  exact (show q_Ev none 259 5 [(0, .ref l0), (1, .int l1), (2, .int l2), (3, .int l3), (4, .int (l4 + 1))] [] _ o hz from hK)
def f259_70b (l0 : Nat) (l1 : Int32) (l2 : Int32) (l3 : Int32) (l4 : Int32) (l5 : Int32) (l6 : Int32) (l7 : Int32) : m_M ((Nat × Int32 × Int32 × Int32 × Int32 × Int32 × Int32 × Int32) ⊕ ((Nat × Int32 × Int32 × Int32 × Int32) ⊕ Int32)) :=
  m_B (m_gR 12 l0 1) (fun r1 => m_B (m_lI r1 ((14200 * l1) + 1)) (fun v2 => if l7 < v2 then (if l7 = l5 then (f259_124 l0 l1 l2 l3 l4 l5 l6 l7) else (m_B (m_aK l0 12) (fun _ => m_B (f233 l0 l1 l5 l7) (fun v4 => if v4 = 0 then (f259_128 l0 l1 l2 l3 l4 l5 l6 l7) else (m_B (m_aK l0 12) (fun _ => m_B (f196 l0 l1 l7 1) (fun v6 => m_B (m_aK l0 12) (fun _ => m_B (f208 l0 l1 v6 l6) (fun v8 => if v8 = 0 then (f259_128 l0 l1 l2 l3 l4 l5 l6 l7) else (f259_124 l0 l1 l2 l3 l4 l5 l6 l7)))))))))) else (m_B (f259_162 l0 l1 l2 l3 l4) (fun r => m_R (.inr r)))))
theorem f259_70b_ok {l0 : Nat} {l1 : Int32} {l2 : Int32} {l3 : Int32} {l4 : Int32} {l5 : Int32} {l6 : Int32} {l7 : Int32} {h : q_H} {o : q_O} {hz : q_H} {x : ((Nat × Int32 × Int32 × Int32 × Int32 × Int32 × Int32 × Int32) ⊕ ((Nat × Int32 × Int32 × Int32 × Int32) ⊕ Int32)) × q_H} (hf : f259_70b l0 l1 l2 l3 l4 l5 l6 l7 h = some x) (hK : (m_yK (fun (s : Nat × Int32 × Int32 × Int32 × Int32 × Int32 × Int32 × Int32) (h : q_H) => q_Ev none 259 70 [(0, .ref (s.1)), (1, .int (s.2.1)), (2, .int (s.2.2.1)), (3, .int (s.2.2.2.1)), (4, .int (s.2.2.2.2.1)), (5, .int (s.2.2.2.2.2.1)), (6, .int (s.2.2.2.2.2.2.1)), (7, .int (s.2.2.2.2.2.2.2))] [] h o hz) (m_yK (fun (s : Nat × Int32 × Int32 × Int32 × Int32) (h : q_H) => q_Ev none 259 5 [(0, .ref (s.1)), (1, .int (s.2.1)), (2, .int (s.2.2.1)), (3, .int (s.2.2.2.1)), (4, .int (s.2.2.2.2))] [] h o hz) (q_KI o hz))) x) : q_Ev none 259 70 [(0, .ref l0), (1, .int l1), (2, .int l2), (3, .int l3), (4, .int l4), (5, .int l5), (6, .int l6), (7, .int l7)] [] h o hz := by
  unfold f259_70b at hf
  refine ev_iload (q_cod qk259 rfl) (by decide) rfl ?_
  refine ev_aload_n (q_cod qk259 rfl) (by decide) rfl ?_
  refine em_gR (q_cod qk259 rfl) (by decide) (by decide) hf (fun r1 hf => ?_)
  refine ev_si (v := 14200) (q_cod qk259 rfl) (by decide) (by decide) ?_
  refine ev_iload_n (q_cod qk259 rfl) (by decide) rfl ?_
  refine ev_imul (q_cod qk259 rfl) (by decide) ?_
  refine ev_ic (v := 1) (q_cod qk259 rfl) (by decide) (by decide) ?_
  refine ev_iadd (q_cod qk259 rfl) (by decide) ?_
  refine em_lI (q_cod qk259 rfl) (by decide) hf (fun v2 hf => ?_)
  refine em_ic_ge (q_cod qk259 rfl) (by decide) hf (fun c12 hf => ?_) (fun c12 hf => ?_)
  · refine ev_iload (q_cod qk259 rfl) (by decide) rfl ?_
    refine ev_iload (q_cod qk259 rfl) (by decide) rfl ?_
    refine em_ic_eq (q_cod qk259 rfl) (by decide) hf (fun c11 hf => ?_) (fun c11 hf => ?_)
    · exact (f259_124_ok hf hK)
    · refine ev_aload_n (q_cod qk259 rfl) (by decide) rfl ?_
      refine ev_iload_n (q_cod qk259 rfl) (by decide) rfl ?_
      refine ev_iload (q_cod qk259 rfl) (by decide) rfl ?_
      refine ev_iload (q_cod qk259 rfl) (by decide) rfl ?_
      obtain ⟨g3, hf⟩ := m_aK_some hf
      refine em_call (v := (fun u => some (.int u))) (q_cod qk259 rfl) rfl rfl (q_cokV rfl rfl (Or.inr g3)) rfl (fun x e => f233_cl e) hf (fun v4 h hf => ?_)
      refine em_if_eq (q_cod qk259 rfl) (by decide) hf (fun c10 hf => ?_) (fun c10 hf => ?_)
      · exact (f259_128_ok hf hK)
      · refine ev_aload_n (q_cod qk259 rfl) (by decide) rfl ?_
        refine ev_iload_n (q_cod qk259 rfl) (by decide) rfl ?_
        refine ev_aload_n (q_cod qk259 rfl) (by decide) rfl ?_
        refine ev_iload_n (q_cod qk259 rfl) (by decide) rfl ?_
        refine ev_iload (q_cod qk259 rfl) (by decide) rfl ?_
        refine ev_ic (v := 1) (q_cod qk259 rfl) (by decide) (by decide) ?_
        obtain ⟨g5, hf⟩ := m_aK_some hf
        refine em_call (v := (fun u => some (.int u))) (q_cod qk259 rfl) rfl rfl (q_cokV rfl rfl (Or.inr g5)) rfl (fun x e => f196_cl e) hf (fun v6 h hf => ?_)
        refine ev_iload (q_cod qk259 rfl) (by decide) rfl ?_
        obtain ⟨g7, hf⟩ := m_aK_some hf
        refine em_call (v := (fun u => some (.int u))) (q_cod qk259 rfl) rfl rfl (q_cokV rfl rfl (Or.inr g7)) rfl (fun x e => f208_cl e) hf (fun v8 h hf => ?_)
        refine em_if_eq (q_cod qk259 rfl) (by decide) hf (fun c9 hf => ?_) (fun c9 hf => ?_)
        · exact (f259_128_ok hf hK)
        · exact (f259_124_ok hf hK)
  · obtain ⟨y0, hf0, hx⟩ := m_inr_some hf
    subst hx
    exact ev_weak (q_pk [0, 1, 2, 3, 4] rfl) (f259_162_ok hf0 hK)
def f259_70 (l0 : Nat) (l1 : Int32) (l2 : Int32) (l3 : Int32) (l4 : Int32) (l5 : Int32) (l6 : Int32) (l7 : Int32) : m_M ((Nat × Int32 × Int32 × Int32 × Int32) ⊕ Int32) := m_W (fun s => f259_70b (s.1) (s.2.1) (s.2.2.1) (s.2.2.2.1) (s.2.2.2.2.1) (s.2.2.2.2.2.1) (s.2.2.2.2.2.2.1) (s.2.2.2.2.2.2.2)) 1000000 (l0, l1, l2, l3, l4, l5, l6, l7)
theorem f259_70_ok {l0 : Nat} {l1 : Int32} {l2 : Int32} {l3 : Int32} {l4 : Int32} {l5 : Int32} {l6 : Int32} {l7 : Int32} {h : q_H} {o : q_O} {hz : q_H} {x : ((Nat × Int32 × Int32 × Int32 × Int32) ⊕ Int32) × q_H} (hf : f259_70 l0 l1 l2 l3 l4 l5 l6 l7 h = some x) (hK : (m_yK (fun (s : Nat × Int32 × Int32 × Int32 × Int32) (h : q_H) => q_Ev none 259 5 [(0, .ref (s.1)), (1, .int (s.2.1)), (2, .int (s.2.2.1)), (3, .int (s.2.2.2.1)), (4, .int (s.2.2.2.2))] [] h o hz) (q_KI o hz)) x) : q_Ev none 259 70 [(0, .ref l0), (1, .int l1), (2, .int l2), (3, .int l3), (4, .int l4), (5, .int l5), (6, .int l6), (7, .int l7)] [] h o hz :=
  m_W_ok (P := (fun (s : Nat × Int32 × Int32 × Int32 × Int32 × Int32 × Int32 × Int32) (h : q_H) => q_Ev none 259 70 [(0, .ref (s.1)), (1, .int (s.2.1)), (2, .int (s.2.2.1)), (3, .int (s.2.2.2.1)), (4, .int (s.2.2.2.2.1)), (5, .int (s.2.2.2.2.2.1)), (6, .int (s.2.2.2.2.2.2.1)), (7, .int (s.2.2.2.2.2.2.2))] [] h o hz)) (K := (m_yK (fun (s : Nat × Int32 × Int32 × Int32 × Int32) (h : q_H) => q_Ev none 259 5 [(0, .ref (s.1)), (1, .int (s.2.1)), (2, .int (s.2.2.1)), (3, .int (s.2.2.2.1)), (4, .int (s.2.2.2.2))] [] h o hz) (q_KI o hz))) (fun s h x h1 h2 => f259_70b_ok h1 h2) _ (l0, l1, l2, l3, l4, l5, l6, l7) _ _ hf hK
def f259_168 (l3 : Int32) : m_M Int32 :=
  m_B (m_G (l3 = 0 ∨ l3 = 1)) (fun _ => m_R l3)
theorem f259_168_ok {l3 : Int32} {h : q_H} {o : q_O} {hz : q_H} {x : Int32 × q_H} (hf : f259_168 l3 h = some x) (hK : (q_KI o hz) x) : q_Ev none 259 168 [(3, .int l3)] [] h o hz := by
  unfold f259_168 at hf
  refine ev_iload_n (q_cod qk259 rfl) (by decide) rfl ?_
  obtain ⟨g1, hf⟩ := m_G_some hf
  obtain rfl := m_R_inv hf
  obtain ⟨rfl, rfl⟩ := (show q_KI o hz (l3, _) from hK)
  exact ev_ret (q_cod qk259 rfl) (q_retZ g1)
def f259_5b (l0 : Nat) (l1 : Int32) (l2 : Int32) (l3 : Int32) (l4 : Int32) : m_M ((Nat × Int32 × Int32 × Int32 × Int32) ⊕ Int32) :=
  m_B (m_aK l0 12) (fun _ => m_B (f196 l0 l1 l2 9) (fun v2 => if l4 < v2 then (m_B (m_aK l0 12) (fun _ => m_B (f199 l0 l1 l2 l4) (fun v4 => if v4 = 7 then (m_B (m_gR 12 l0 13) (fun r5 => m_B (m_lI r5 ((192 * l2) + l4)) (fun v6 => m_B (m_gR 12 l0 12) (fun r7 => m_B (m_lI r7 (((192 * l2) + l4) + 1)) (fun v8 => f259_70 l0 l1 l2 l3 l4 (v6 - 2000) v8 0))))) else (f259_162 l0 l1 l2 l3 l4)))) else (m_B (f259_168 l3) (fun r => m_R (.inr r)))))
theorem f259_5b_ok {l0 : Nat} {l1 : Int32} {l2 : Int32} {l3 : Int32} {l4 : Int32} {h : q_H} {o : q_O} {hz : q_H} {x : ((Nat × Int32 × Int32 × Int32 × Int32) ⊕ Int32) × q_H} (hf : f259_5b l0 l1 l2 l3 l4 h = some x) (hK : (m_yK (fun (s : Nat × Int32 × Int32 × Int32 × Int32) (h : q_H) => q_Ev none 259 5 [(0, .ref (s.1)), (1, .int (s.2.1)), (2, .int (s.2.2.1)), (3, .int (s.2.2.2.1)), (4, .int (s.2.2.2.2))] [] h o hz) (q_KI o hz)) x) : q_Ev none 259 5 [(0, .ref l0), (1, .int l1), (2, .int l2), (3, .int l3), (4, .int l4)] [] h o hz := by
  unfold f259_5b at hf
  refine ev_iload (q_cod qk259 rfl) (by decide) rfl ?_
  refine ev_aload_n (q_cod qk259 rfl) (by decide) rfl ?_
  refine ev_iload_n (q_cod qk259 rfl) (by decide) rfl ?_
  refine ev_iload_n (q_cod qk259 rfl) (by decide) rfl ?_
  refine ev_bi (v := 9) (q_cod qk259 rfl) (by decide) (by decide) ?_
  obtain ⟨g1, hf⟩ := m_aK_some hf
  refine em_call (v := (fun u => some (.int u))) (q_cod qk259 rfl) rfl rfl (q_cokV rfl rfl (Or.inr g1)) rfl (fun x e => f196_cl e) hf (fun v2 h hf => ?_)
  refine em_ic_ge (q_cod qk259 rfl) (by decide) hf (fun c10 hf => ?_) (fun c10 hf => ?_)
  · refine ev_aload_n (q_cod qk259 rfl) (by decide) rfl ?_
    refine ev_iload_n (q_cod qk259 rfl) (by decide) rfl ?_
    refine ev_iload_n (q_cod qk259 rfl) (by decide) rfl ?_
    refine ev_iload (q_cod qk259 rfl) (by decide) rfl ?_
    obtain ⟨g3, hf⟩ := m_aK_some hf
    refine em_call (v := (fun u => some (.int u))) (q_cod qk259 rfl) rfl rfl (q_cokV rfl rfl (Or.inr g3)) rfl (fun x e => f199_cl e) hf (fun v4 h hf => ?_)
    refine ev_bi (v := 7) (q_cod qk259 rfl) (by decide) (by decide) ?_
    refine em_ic_ne (q_cod qk259 rfl) (by decide) hf (fun c9 hf => ?_) (fun c9 hf => ?_)
    · refine ev_aload_n (q_cod qk259 rfl) (by decide) rfl ?_
      refine em_gR (q_cod qk259 rfl) (by decide) (by decide) hf (fun r5 hf => ?_)
      refine ev_si (v := 192) (q_cod qk259 rfl) (by decide) (by decide) ?_
      refine ev_iload_n (q_cod qk259 rfl) (by decide) rfl ?_
      refine ev_imul (q_cod qk259 rfl) (by decide) ?_
      refine ev_iload (q_cod qk259 rfl) (by decide) rfl ?_
      refine ev_iadd (q_cod qk259 rfl) (by decide) ?_
      refine em_lI (q_cod qk259 rfl) (by decide) hf (fun v6 hf => ?_)
      refine ev_si (v := 2000) (q_cod qk259 rfl) (by decide) (by decide) ?_
      refine ev_isub (q_cod qk259 rfl) (by decide) ?_
      refine ev_is2 (L' := [(0, .ref l0), (1, .int l1), (2, .int l2), (3, .int l3), (4, .int l4), (5, .int (v6 - 2000))]) (q_cod qk259 rfl) (by decide) rfl ?_
      refine ev_aload_n (q_cod qk259 rfl) (by decide) rfl ?_
      refine em_gR (q_cod qk259 rfl) (by decide) (by decide) hf (fun r7 hf => ?_)
      refine ev_si (v := 192) (q_cod qk259 rfl) (by decide) (by decide) ?_
      refine ev_iload_n (q_cod qk259 rfl) (by decide) rfl ?_
      refine ev_imul (q_cod qk259 rfl) (by decide) ?_
      refine ev_iload (q_cod qk259 rfl) (by decide) rfl ?_
      refine ev_iadd (q_cod qk259 rfl) (by decide) ?_
      refine ev_ic (v := 1) (q_cod qk259 rfl) (by decide) (by decide) ?_
      refine ev_iadd (q_cod qk259 rfl) (by decide) ?_
      refine em_lI (q_cod qk259 rfl) (by decide) hf (fun v8 hf => ?_)
      refine ev_is2 (L' := [(0, .ref l0), (1, .int l1), (2, .int l2), (3, .int l3), (4, .int l4), (5, .int (v6 - 2000)), (6, .int v8)]) (q_cod qk259 rfl) (by decide) rfl ?_
      refine ev_ic (v := 0) (q_cod qk259 rfl) (by decide) (by decide) ?_
      refine ev_is2 (L' := [(0, .ref l0), (1, .int l1), (2, .int l2), (3, .int l3), (4, .int l4), (5, .int (v6 - 2000)), (6, .int v8), (7, .int 0)]) (q_cod qk259 rfl) (by decide) rfl ?_
      exact (f259_70_ok hf hK)
    · exact (f259_162_ok hf hK)
  · obtain ⟨y0, hf0, hx⟩ := m_inr_some hf
    subst hx
    exact ev_weak (q_pk [3] rfl) (f259_168_ok hf0 hK)
def f259_5 (l0 : Nat) (l1 : Int32) (l2 : Int32) (l3 : Int32) (l4 : Int32) : m_M Int32 := m_W (fun s => f259_5b (s.1) (s.2.1) (s.2.2.1) (s.2.2.2.1) (s.2.2.2.2)) 1000000 (l0, l1, l2, l3, l4)
theorem f259_5_ok {l0 : Nat} {l1 : Int32} {l2 : Int32} {l3 : Int32} {l4 : Int32} {h : q_H} {o : q_O} {hz : q_H} {x : Int32 × q_H} (hf : f259_5 l0 l1 l2 l3 l4 h = some x) (hK : (q_KI o hz) x) : q_Ev none 259 5 [(0, .ref l0), (1, .int l1), (2, .int l2), (3, .int l3), (4, .int l4)] [] h o hz :=
  m_W_ok (P := (fun (s : Nat × Int32 × Int32 × Int32 × Int32) (h : q_H) => q_Ev none 259 5 [(0, .ref (s.1)), (1, .int (s.2.1)), (2, .int (s.2.2.1)), (3, .int (s.2.2.2.1)), (4, .int (s.2.2.2.2))] [] h o hz)) (K := (q_KI o hz)) (fun s h x h1 h2 => f259_5b_ok h1 h2) _ (l0, l1, l2, l3, l4) _ _ hf hK
def f259 (l0 : Nat) (l1 : Int32) (l2 : Int32) : m_M Int32 :=
  f259_5 l0 l1 l2 0 0
theorem f259_ok {l0 : Nat} {l1 : Int32} {l2 : Int32} {h : q_H} {o : q_O} {hz : q_H} {x : Int32 × q_H} (hf : f259 l0 l1 l2 h = some x) (hK : (q_KI o hz) x) : q_Ev none 259 0 [(0, .ref l0), (1, .int l1), (2, .int l2)] [] h o hz := by
  unfold f259 at hf
  refine ev_ic (v := 0) (q_cod qk259 rfl) (by decide) (by decide) ?_
  refine ev_is1 (L' := [(0, .ref l0), (1, .int l1), (2, .int l2), (3, .int 0)]) (q_cod qk259 rfl) (by decide) rfl ?_
  refine ev_ic (v := 0) (q_cod qk259 rfl) (by decide) (by decide) ?_
  refine ev_is2 (L' := [(0, .ref l0), (1, .int l1), (2, .int l2), (3, .int 0), (4, .int 0)]) (q_cod qk259 rfl) (by decide) rfl ?_
  exact (f259_5_ok hf hK)
theorem f259_cl {l0 : Nat} {l1 : Int32} {l2 : Int32} {h : q_H} {x : Int32 × q_H} (hf : f259 l0 l1 l2 h = some x) : q_Cl 259 [.ref l0, .int l1, .int l2] h (.inl (some (.int x.1))) x.2 := q_Cl.of rfl (q_LvS rfl rfl) (f259_ok hf ⟨rfl, rfl⟩)
