-- deps: 92.00.law 92.01.law 92.02.law 92.03.law 92.04.law 92.05.law 92.06.law 92.07.law
def f340_23b (Ln : Nat) (xs : Nat → Int32) (l1 : Nat) (l2 : Nat) (l3 : Nat) (l4 : Int32) : m_M ((Nat × Nat × Nat × Int32) ⊕ Int32) :=
  if ((Int32.ofNat Ln) - 7) < l4 then (m_B (f340_2363 Ln xs) (fun r => m_R (.inr r))) else (m_B (m_G (q_ins l4 Ln = true)) (fun _ => if ((xs (l4).toNatClampNeg) &&& 63).toInt = 0 then (f340_188 Ln xs l1 l2 l3 l4) else (if ((xs (l4).toNatClampNeg) &&& 63).toInt = 1 then (f340_244 Ln xs l1 l2 l3 l4) else (if ((xs (l4).toNatClampNeg) &&& 63).toInt = 2 then (f340_300 Ln xs l1 l2 l3 l4) else (if ((xs (l4).toNatClampNeg) &&& 63).toInt = 3 then (f340_344 Ln xs l1 l2 l3 l4) else (if ((xs (l4).toNatClampNeg) &&& 63).toInt = 4 then (f340_412 Ln xs l1 l2 l3 l4) else (if ((xs (l4).toNatClampNeg) &&& 63).toInt = 5 then (f340_492 Ln xs l1 l2 l3 l4) else (if ((xs (l4).toNatClampNeg) &&& 63).toInt = 6 then (f340_572 Ln xs l1 l2 l3 l4) else (if ((xs (l4).toNatClampNeg) &&& 63).toInt = 7 then (f340_664 Ln xs l1 l2 l3 l4) else (if ((xs (l4).toNatClampNeg) &&& 63).toInt = 8 then (f340_720 Ln xs l1 l2 l3 l4) else (if ((xs (l4).toNatClampNeg) &&& 63).toInt = 9 then (f340_800 Ln xs l1 l2 l3 l4) else (if ((xs (l4).toNatClampNeg) &&& 63).toInt = 10 then (f340_880 Ln xs l1 l2 l3 l4) else (if ((xs (l4).toNatClampNeg) &&& 63).toInt = 11 then (f340_936 Ln xs l1 l2 l3 l4) else (if ((xs (l4).toNatClampNeg) &&& 63).toInt = 12 then (f340_992 Ln xs l1 l2 l3 l4) else (if ((xs (l4).toNatClampNeg) &&& 63).toInt = 13 then (f340_1072 Ln xs l1 l2 l3 l4) else (if ((xs (l4).toNatClampNeg) &&& 63).toInt = 14 then (f340_1190 Ln xs l1 l2 l3 l4) else (if ((xs (l4).toNatClampNeg) &&& 63).toInt = 15 then (f340_1203 Ln xs l1 l2 l3 l4) else (if ((xs (l4).toNatClampNeg) &&& 63).toInt = 16 then (f340_1247 Ln xs l1 l2 l3 l4) else (if ((xs (l4).toNatClampNeg) &&& 63).toInt = 17 then (f340_1315 Ln xs l1 l2 l3 l4) else (if ((xs (l4).toNatClampNeg) &&& 63).toInt = 18 then (f340_1395 Ln xs l1 l2 l3 l4) else (if ((xs (l4).toNatClampNeg) &&& 63).toInt = 19 then (f340_1475 Ln xs l1 l2 l3 l4) else (if ((xs (l4).toNatClampNeg) &&& 63).toInt = 20 then (f340_1543 Ln xs l1 l2 l3 l4) else (if ((xs (l4).toNatClampNeg) &&& 63).toInt = 21 then (f340_1623 Ln xs l1 l2 l3 l4) else (if ((xs (l4).toNatClampNeg) &&& 63).toInt = 22 then (f340_1691 Ln xs l1 l2 l3 l4) else (if ((xs (l4).toNatClampNeg) &&& 63).toInt = 23 then (f340_1759 Ln xs l1 l2 l3 l4) else (if ((xs (l4).toNatClampNeg) &&& 63).toInt = 24 then (f340_1815 Ln xs l1 l2 l3 l4) else (if ((xs (l4).toNatClampNeg) &&& 63).toInt = 25 then (f340_1871 Ln xs l1 l2 l3 l4) else (if ((xs (l4).toNatClampNeg) &&& 63).toInt = 26 then (f340_1963 Ln xs l1 l2 l3 l4) else (if ((xs (l4).toNatClampNeg) &&& 63).toInt = 27 then (f340_2019 Ln xs l1 l2 l3 l4) else (if ((xs (l4).toNatClampNeg) &&& 63).toInt = 28 then (f340_2063 Ln xs l1 l2 l3 l4) else (if ((xs (l4).toNatClampNeg) &&& 63).toInt = 29 then (f340_2131 Ln xs l1 l2 l3 l4) else (if ((xs (l4).toNatClampNeg) &&& 63).toInt = 30 then (f340_2211 Ln xs l1 l2 l3 l4) else (if ((xs (l4).toNatClampNeg) &&& 63).toInt = 31 then (f340_2331 Ln xs l1 l2 l3 l4) else (if ((xs (l4).toNatClampNeg) &&& 63).toInt = 32 then (f340_2344 Ln xs l1 l2 l3 l4) else (f340_2357 Ln xs l1 l2 l3 l4)))))))))))))))))))))))))))))))))))
set_option maxRecDepth 20000 in
theorem f340_23b_ok {Ln : Nat} {xs : Nat → Int32} {l1 : Nat} {l2 : Nat} {l3 : Nat} {l4 : Int32} {h : q_H} {o : q_O} {hz : q_H} {x : ((Nat × Nat × Nat × Int32) ⊕ Int32) × q_H} (hf : f340_23b Ln xs l1 l2 l3 l4 h = some x) (hK : (m_yK (fun (s : Nat × Nat × Nat × Int32) (h : q_H) => q_Ev (some (Ln, xs)) 340 23 [(0, .ref q_SC), (1, .ref (s.1)), (2, .ref (s.2.1)), (3, .ref (s.2.2.1)), (4, .int (s.2.2.2))] [] h o hz) (q_KI o hz)) x) : q_Ev (some (Ln, xs)) 340 23 [(0, .ref q_SC), (1, .ref l1), (2, .ref l2), (3, .ref l3), (4, .int l4)] [] h o hz := by
  unfold f340_23b at hf
  refine ev_iload (q_cod qk340 rfl) (by decide) rfl ?_
  refine ev_aload_n (q_cod qk340 rfl) (by decide) rfl ?_
  refine ev_slen (q_cod qk340 rfl) (by decide) ?_
  refine ev_bi (v := 7) (q_cod qk340 rfl) (by decide) (by decide) ?_
  refine ev_isub (q_cod qk340 rfl) (by decide) ?_
  refine em_ic_gt (q_cod qk340 rfl) (by decide) hf (fun c35 hf => ?_) (fun c35 hf => ?_)
  · obtain ⟨y0, hf0, hx⟩ := m_inr_some hf
    subst hx
    exact ev_weak (q_pk [] rfl) (f340_2363_ok hf0 hK)
  · refine ev_aload_n (q_cod qk340 rfl) (by decide) rfl ?_
    refine ev_iload (q_cod qk340 rfl) (by decide) rfl ?_
    refine em_sald (q_cod qk340 rfl) (by decide) hf (fun hf => ?_)
    refine ev_bi (v := 63) (q_cod qk340 rfl) (by decide) (by decide) ?_
    refine ev_iand (q_cod qk340 rfl) (by decide) ?_
    rcases m_iteM hf with ⟨c2, hf⟩ | ⟨c2, hf⟩
    · refine ev_tsw (q_cod qk340 rfl) (by decide) (t := 188) (by rw [c2]; rfl) ?_
      exact (f340_188_ok hf hK)
    rcases m_iteM hf with ⟨c3, hf⟩ | ⟨c3, hf⟩
    · refine ev_tsw (q_cod qk340 rfl) (by decide) (t := 244) (by rw [c3]; rfl) ?_
      exact (f340_244_ok hf hK)
    rcases m_iteM hf with ⟨c4, hf⟩ | ⟨c4, hf⟩
    · refine ev_tsw (q_cod qk340 rfl) (by decide) (t := 300) (by rw [c4]; rfl) ?_
      exact (f340_300_ok hf hK)
    rcases m_iteM hf with ⟨c5, hf⟩ | ⟨c5, hf⟩
    · refine ev_tsw (q_cod qk340 rfl) (by decide) (t := 344) (by rw [c5]; rfl) ?_
      exact (f340_344_ok hf hK)
    rcases m_iteM hf with ⟨c6, hf⟩ | ⟨c6, hf⟩
    · refine ev_tsw (q_cod qk340 rfl) (by decide) (t := 412) (by rw [c6]; rfl) ?_
      exact (f340_412_ok hf hK)
    rcases m_iteM hf with ⟨c7, hf⟩ | ⟨c7, hf⟩
    · refine ev_tsw (q_cod qk340 rfl) (by decide) (t := 492) (by rw [c7]; rfl) ?_
      exact (f340_492_ok hf hK)
    rcases m_iteM hf with ⟨c8, hf⟩ | ⟨c8, hf⟩
    · refine ev_tsw (q_cod qk340 rfl) (by decide) (t := 572) (by rw [c8]; rfl) ?_
      exact (f340_572_ok hf hK)
    rcases m_iteM hf with ⟨c9, hf⟩ | ⟨c9, hf⟩
    · refine ev_tsw (q_cod qk340 rfl) (by decide) (t := 664) (by rw [c9]; rfl) ?_
      exact (f340_664_ok hf hK)
    rcases m_iteM hf with ⟨c10, hf⟩ | ⟨c10, hf⟩
    · refine ev_tsw (q_cod qk340 rfl) (by decide) (t := 720) (by rw [c10]; rfl) ?_
      exact (f340_720_ok hf hK)
    rcases m_iteM hf with ⟨c11, hf⟩ | ⟨c11, hf⟩
    · refine ev_tsw (q_cod qk340 rfl) (by decide) (t := 800) (by rw [c11]; rfl) ?_
      exact (f340_800_ok hf hK)
    rcases m_iteM hf with ⟨c12, hf⟩ | ⟨c12, hf⟩
    · refine ev_tsw (q_cod qk340 rfl) (by decide) (t := 880) (by rw [c12]; rfl) ?_
      exact (f340_880_ok hf hK)
    rcases m_iteM hf with ⟨c13, hf⟩ | ⟨c13, hf⟩
    · refine ev_tsw (q_cod qk340 rfl) (by decide) (t := 936) (by rw [c13]; rfl) ?_
      exact (f340_936_ok hf hK)
    rcases m_iteM hf with ⟨c14, hf⟩ | ⟨c14, hf⟩
    · refine ev_tsw (q_cod qk340 rfl) (by decide) (t := 992) (by rw [c14]; rfl) ?_
      exact (f340_992_ok hf hK)
    rcases m_iteM hf with ⟨c15, hf⟩ | ⟨c15, hf⟩
    · refine ev_tsw (q_cod qk340 rfl) (by decide) (t := 1072) (by rw [c15]; rfl) ?_
      exact (f340_1072_ok hf hK)
    rcases m_iteM hf with ⟨c16, hf⟩ | ⟨c16, hf⟩
    · refine ev_tsw (q_cod qk340 rfl) (by decide) (t := 1190) (by rw [c16]; rfl) ?_
      exact (f340_1190_ok hf hK)
    rcases m_iteM hf with ⟨c17, hf⟩ | ⟨c17, hf⟩
    · refine ev_tsw (q_cod qk340 rfl) (by decide) (t := 1203) (by rw [c17]; rfl) ?_
      exact (f340_1203_ok hf hK)
    rcases m_iteM hf with ⟨c18, hf⟩ | ⟨c18, hf⟩
    · refine ev_tsw (q_cod qk340 rfl) (by decide) (t := 1247) (by rw [c18]; rfl) ?_
      exact (f340_1247_ok hf hK)
    rcases m_iteM hf with ⟨c19, hf⟩ | ⟨c19, hf⟩
    · refine ev_tsw (q_cod qk340 rfl) (by decide) (t := 1315) (by rw [c19]; rfl) ?_
      exact (f340_1315_ok hf hK)
    rcases m_iteM hf with ⟨c20, hf⟩ | ⟨c20, hf⟩
    · refine ev_tsw (q_cod qk340 rfl) (by decide) (t := 1395) (by rw [c20]; rfl) ?_
      exact (f340_1395_ok hf hK)
    rcases m_iteM hf with ⟨c21, hf⟩ | ⟨c21, hf⟩
    · refine ev_tsw (q_cod qk340 rfl) (by decide) (t := 1475) (by rw [c21]; rfl) ?_
      exact (f340_1475_ok hf hK)
    rcases m_iteM hf with ⟨c22, hf⟩ | ⟨c22, hf⟩
    · refine ev_tsw (q_cod qk340 rfl) (by decide) (t := 1543) (by rw [c22]; rfl) ?_
      exact (f340_1543_ok hf hK)
    rcases m_iteM hf with ⟨c23, hf⟩ | ⟨c23, hf⟩
    · refine ev_tsw (q_cod qk340 rfl) (by decide) (t := 1623) (by rw [c23]; rfl) ?_
      exact (f340_1623_ok hf hK)
    rcases m_iteM hf with ⟨c24, hf⟩ | ⟨c24, hf⟩
    · refine ev_tsw (q_cod qk340 rfl) (by decide) (t := 1691) (by rw [c24]; rfl) ?_
      exact (f340_1691_ok hf hK)
    rcases m_iteM hf with ⟨c25, hf⟩ | ⟨c25, hf⟩
    · refine ev_tsw (q_cod qk340 rfl) (by decide) (t := 1759) (by rw [c25]; rfl) ?_
      exact (f340_1759_ok hf hK)
    rcases m_iteM hf with ⟨c26, hf⟩ | ⟨c26, hf⟩
    · refine ev_tsw (q_cod qk340 rfl) (by decide) (t := 1815) (by rw [c26]; rfl) ?_
      exact (f340_1815_ok hf hK)
    rcases m_iteM hf with ⟨c27, hf⟩ | ⟨c27, hf⟩
    · refine ev_tsw (q_cod qk340 rfl) (by decide) (t := 1871) (by rw [c27]; rfl) ?_
      exact (f340_1871_ok hf hK)
    rcases m_iteM hf with ⟨c28, hf⟩ | ⟨c28, hf⟩
    · refine ev_tsw (q_cod qk340 rfl) (by decide) (t := 1963) (by rw [c28]; rfl) ?_
      exact (f340_1963_ok hf hK)
    rcases m_iteM hf with ⟨c29, hf⟩ | ⟨c29, hf⟩
    · refine ev_tsw (q_cod qk340 rfl) (by decide) (t := 2019) (by rw [c29]; rfl) ?_
      exact (f340_2019_ok hf hK)
    rcases m_iteM hf with ⟨c30, hf⟩ | ⟨c30, hf⟩
    · refine ev_tsw (q_cod qk340 rfl) (by decide) (t := 2063) (by rw [c30]; rfl) ?_
      exact (f340_2063_ok hf hK)
    rcases m_iteM hf with ⟨c31, hf⟩ | ⟨c31, hf⟩
    · refine ev_tsw (q_cod qk340 rfl) (by decide) (t := 2131) (by rw [c31]; rfl) ?_
      exact (f340_2131_ok hf hK)
    rcases m_iteM hf with ⟨c32, hf⟩ | ⟨c32, hf⟩
    · refine ev_tsw (q_cod qk340 rfl) (by decide) (t := 2211) (by rw [c32]; rfl) ?_
      exact (f340_2211_ok hf hK)
    rcases m_iteM hf with ⟨c33, hf⟩ | ⟨c33, hf⟩
    · refine ev_tsw (q_cod qk340 rfl) (by decide) (t := 2331) (by rw [c33]; rfl) ?_
      exact (f340_2331_ok hf hK)
    rcases m_iteM hf with ⟨c34, hf⟩ | ⟨c34, hf⟩
    · refine ev_tsw (q_cod qk340 rfl) (by decide) (t := 2344) (by rw [c34]; rfl) ?_
      exact (f340_2344_ok hf hK)
    refine ev_tsw (q_cod qk340 rfl) (by decide) (t := 2357) (by rw [if_pos (by omega)]; rfl) ?_
    exact (f340_2357_ok hf hK)
def f340_23 (Ln : Nat) (xs : Nat → Int32) (l1 : Nat) (l2 : Nat) (l3 : Nat) (l4 : Int32) : m_M Int32 := m_W (fun s => f340_23b Ln xs (s.1) (s.2.1) (s.2.2.1) (s.2.2.2)) 1000000 (l1, l2, l3, l4)
theorem f340_23_ok {Ln : Nat} {xs : Nat → Int32} {l1 : Nat} {l2 : Nat} {l3 : Nat} {l4 : Int32} {h : q_H} {o : q_O} {hz : q_H} {x : Int32 × q_H} (hf : f340_23 Ln xs l1 l2 l3 l4 h = some x) (hK : (q_KI o hz) x) : q_Ev (some (Ln, xs)) 340 23 [(0, .ref q_SC), (1, .ref l1), (2, .ref l2), (3, .ref l3), (4, .int l4)] [] h o hz :=
  m_W_ok (P := (fun (s : Nat × Nat × Nat × Int32) (h : q_H) => q_Ev (some (Ln, xs)) 340 23 [(0, .ref q_SC), (1, .ref (s.1)), (2, .ref (s.2.1)), (3, .ref (s.2.2.1)), (4, .int (s.2.2.2))] [] h o hz)) (K := (q_KI o hz)) (fun s h x h1 h2 => f340_23b_ok h1 h2) _ (l1, l2, l3, l4) _ _ hf hK
def f340 (Ln : Nat) (xs : Nat → Int32) : m_M Int32 :=
  m_B (m_nO 11) (fun r1 => m_B (f123 r1) (fun _ => m_B (m_nO 12) (fun r3 => m_B (f176 r3) (fun _ => m_B (m_nA 22 1) (fun r5 => f340_23 Ln xs r1 r3 r5 0)))))
set_option maxRecDepth 20000 in
theorem f340_ok {Ln : Nat} {xs : Nat → Int32} {h : q_H} {o : q_O} {hz : q_H} {x : Int32 × q_H} (hf : f340 Ln xs h = some x) (hK : (q_KI o hz) x) : q_Ev (some (Ln, xs)) 340 0 [(0, .ref q_SC)] [] h o hz := by
  unfold f340 at hf
  refine em_nO (q_cod qk340 rfl) (by decide) hf (fun r1 h hf => ?_)
  refine ev_dup (q_cod qk340 rfl) (by decide) rfl ?_
  refine em_call (v := (fun _ => none)) (q_cod qk340 rfl) rfl rfl (q_cokV rfl rfl (Or.inl rfl)) rfl (fun x e => f123_cl e) hf (fun _ h hf => ?_)
  refine ev_as1 (L' := [(0, .ref q_SC), (1, .ref r1)]) (q_cod qk340 rfl) (by decide) rfl ?_
  refine em_nO (q_cod qk340 rfl) (by decide) hf (fun r3 h hf => ?_)
  refine ev_dup (q_cod qk340 rfl) (by decide) rfl ?_
  refine em_call (v := (fun _ => none)) (q_cod qk340 rfl) rfl rfl (q_cokV rfl rfl (Or.inl rfl)) rfl (fun x e => f176_cl e) hf (fun _ h hf => ?_)
  refine ev_as1 (L' := [(0, .ref q_SC), (1, .ref r1), (2, .ref r3)]) (q_cod qk340 rfl) (by decide) rfl ?_
  refine ev_ic (v := 1) (q_cod qk340 rfl) (by decide) (by decide) ?_
  refine em_nJ (q_cod qk340 rfl) (by decide) hf (fun r5 h hf => ?_)
  refine ev_as1 (L' := [(0, .ref q_SC), (1, .ref r1), (2, .ref r3), (3, .ref r5)]) (q_cod qk340 rfl) (by decide) rfl ?_
  refine ev_ic (v := 0) (q_cod qk340 rfl) (by decide) (by decide) ?_
  refine ev_is2 (L' := [(0, .ref q_SC), (1, .ref r1), (2, .ref r3), (3, .ref r5), (4, .int 0)]) (q_cod qk340 rfl) (by decide) rfl ?_
  exact (f340_23_ok hf hK)
theorem f340_cl {Ln : Nat} {xs : Nat → Int32} {h : q_H} {x : Int32 × q_H} (hf : f340 Ln xs h = some x) : ∃ n, q_ex (some (Ln, xs)) n 340 0 [(0, .ref q_SC)] [] h = some (.inl (some (.int x.1)), x.2) := f340_ok hf ⟨rfl, rfl⟩ _ (q_LvS rfl rfl)
