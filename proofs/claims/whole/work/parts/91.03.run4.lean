-- deps: 91.00.run 91.01.run2 91.02.run3
/-! a run: a turn keeps what is so, kind by kind -/
section
variable {P : z_Pg} {h h' : y_Qh} {k0 : Nat} {n : Nat} {out : y_V} {a : y_Ac} {s : List y_Ac}
theorem y_LK_c {a a' : y_Ac} (h1 : a'.1 = a.1) (h2 : a'.2.1 = a.2.1) (hl : y_LK P h k0 a s) : y_LK P h k0 a' s := by
  cases s with
  | nil => exact ⟨h1.trans hl.1, by rw [y_ty_eq (P := P) (h' := h) h1 rfl h2]; exact hl.2⟩
  | cons b s => exact ⟨hl.1, by have := hl.2.1; split <;> split at this <;> first | (rw [h1]; exact this) | (next g g' => exact absurd g g') | (next g g' => exact absurd g' g), by rw [y_ty_eq (P := P) (h' := h) h1 rfl h2]; exact hl.2.2⟩
/-- a part begins -/
theorem y_sp_ok (hP : y_PG P) (hC : y_CH P h k0 (a :: s)) (hn : n ≤ 500 ∧ y_ht (a :: s) + (a :: s).length ≤ n ∧ y_qn h + (a :: s).length ≤ n + 1) (h20 : a.1 < 20) (hI0 : y_HI P h a.1) (hl : y_le h h' a.1) (hq : y_qn h' = y_qn h) (hI : y_HI P h' a.1) {w : Nat} (hw : w < y_p P h a) (hst : a.2.2.1 + 1 ≤ y_sb (y_k P h a) (y_p P h a)) (hst4 : a.2.2.1 ≤ 4) (h7 : ¬ (y_k P h a = 7 ∧ a.2.2.1 + 1 = y_p P h a + 1)) (hx : a.2.2.2.length + 1 = y_xc (y_k P h a) (a.2.2.1 + 1)) (hf : z_fit P (z_Ty P (y_qm h a.1) (y_pt P h a w)) (y_rq P h a a.2.2.2.length) = true) (hV : w = 1 → y_k P h a = 5 → (y_ql h' a.1 (a.2.1 + 2)).isSome = true) : y_NX P k0 (a :: s) n (y_st (y_up1 a :: s) h' n out a.1 (y_pt P h a w)) := by
  have hwf := hP.1.1
  have hff := y_CH_f hC
  have hm := hI0.1 a.1 (Nat.le_refl _)
  have hB := hwf.2.2.2.2.1 _ hm.1
  have hi : a.2.1 < (z_bd P (y_qm h a.1)).length := hC.1.1
  have eq := (hl.1 a.1 (Nat.le_refl _)).1
  have hlt : y_pt P h a w < (z_bd P (y_qm h a.1)).length := z_pt_lt hB.1 hi hw
  have hC1 : y_CH P h' k0 (y_up1 a :: s) := by
    have := hC.le hl hff
    refine ⟨⟨this.1.1, this.1.2.1, ?_, this.1.2.2.2⟩, y_LK_c rfl rfl this.2.1, this.2.2⟩
    show a.2.2.1 + 1 ≤ y_sb (y_k P h' a) (y_p P h' a)
    rw [y_k_eq (P := P) (a := a) (a' := a) rfl eq rfl, y_p_eq (P := P) (a := a) (a' := a) rfl eq rfl]; exact hst
  have hst := y_st_ok (n := n) (out := out) (f := a.1) (i := y_pt P h a w) hC1 ⟨hn.1, hn.2.1, by rw [hq]; exact hn.2.2⟩ h20 hI (by
    refine ⟨?_, ?_, ?_⟩
    · show a.2.2.2.length + 1 = y_xc (y_k P h' a) (a.2.2.1 + 1)
      rw [y_k_eq (P := P) (a := a) (a' := a) rfl eq rfl]; exact hx
    · have e1 : y_k P h' (y_up1 a) = y_k P h a := y_k_eq (P := P) rfl eq rfl
      have e2 : y_p P h' (y_up1 a) = y_p P h a := y_p_eq (P := P) rfl eq rfl
      rw [if_neg (fun y => h7 ⟨e1.symm.trans y.1, by rw [← e2]; exact y.2⟩)]; rfl
    · show z_fit P (z_Ty P (y_qm h' a.1) (y_pt P h a w)) (y_rq P h' (y_up1 a) a.2.2.2.length) = true
      rw [eq, y_rq_eq (P := P) (a := a) (a' := y_up1 a) rfl eq rfl]; exact hf) (by rw [eq]; exact hlt) (fun s hs => by
    rw [eq] at hs
    rcases y_LV_part hB.1 hi hw hs with ⟨g1, g2, g3⟩ | g
    · rw [g1]; exact hV g3 g2
    · exact (hl.1 a.1 (Nat.le_refl _)).2 s (hC.1.2.1 s g))
  rcases hst with hst | ⟨g1, g2, g3, g4⟩
  · rw [hst]; exact Or.inl (by decide : ¬ (5 : Int32) = -1)
  · refine Or.inr ⟨_, _, _, _, g2, g3, ?_⟩
    have := y_up1_mu (a := a) (s := s) hst4
    omega
theorem y_NX_fin {s2 : List y_Ac} {out2 : y_V} {X : y_Qs} (e : X = (s2, h', n, -1, 0, out2)) (hQ : y_QI P k0 s2 h' n out2) (hm : y_mu s2 < y_mu (a :: s)) : y_NX P k0 (a :: s) n X := Or.inr ⟨s2, h', n, out2, e, hQ, by omega⟩
theorem y_vt_cls (hw : z_wf P) {c : Nat} {v : y_V} (hc : c < z_nc P) (h1 : y_vt P h (nI c) v) (h2 : ¬ v.1 = 2) : v.1 = 1 ∧ ∃ o, o < y_qn h ∧ v.2 = nI o ∧ y_qc h o < z_nc P ∧ z_blw P (y_qc h o) c = true := by
  have h6 := hw.1.1
  rcases h1 with ⟨g, _⟩ | ⟨c', h3, h4, h5⟩
  · exact absurd g (z_nI_m1 (by omega))
  · obtain rfl := (nI_eq (by omega) (by omega)).mp h4
    rcases h5 with g | g
    · exact absurd g h2
    · exact g
theorem y_vt_num {v : y_V} (h1 : y_vt P h (-1) v) (hw : z_wf P) : v.1 = 0 := by
  have h6 := hw.1.1
  rcases h1 with ⟨_, g⟩ | ⟨c, h3, h4, _⟩
  · exact g
  · exact absurd h4.symm (z_nI_m1 (by omega))
/-- a local is written -/
theorem y_wl_le (h : y_Qh) (f s : Nat) (v : y_V) (F : Nat) : y_le h (y_wl h f s v) F := ⟨fun f' _ => ⟨rfl, fun s' hs => by
  show (if f' = f ∧ s' = s then some v else y_ql h f' s').isSome = true
  split
  · rfl
  · exact hs⟩, Nat.le_refl _, fun _ _ => rfl⟩
theorem y_wl_HI {F f s : Nat} {v : y_V} (hI : y_HI P h F) (hv : y_vt P h (y_slt P (y_qm h f) s) v) : y_HI P (y_wl h f s v) F := by
  have hl := y_wl_le h f s v F
  refine ⟨hI.1, fun f' hf s' v' hs => ?_, fun o ho => ⟨(hI.2.2 o ho).1, fun n hn d hd => ((hI.2.2 o ho).2 n hn d hd).le hl⟩⟩
  have hs : (if f' = f ∧ s' = s then some v else y_ql h f' s') = some v' := hs
  by_cases g : f' = f ∧ s' = s
  · rw [if_pos g] at hs
    obtain rfl := Option.some.inj hs
    rw [g.1, g.2]; exact hv.le hl
  · rw [if_neg g] at hs
    exact (hI.2.1 f' hf s' v' hs).le hl
/-- a field is written -/
theorem y_wf_le (h : y_Qh) (o n : Nat) (v : y_V) (F : Nat) : y_le h (y_wf h o n v) F := ⟨fun _ _ => ⟨rfl, fun _ hs => hs⟩, Nat.le_refl _, fun _ _ => rfl⟩
theorem y_wf_HI {F o n : Nat} {v : y_V} (hI : y_HI P h F) (hv : ∀ d, z_fc P (y_qc h o) n = some d → y_vt P h (z_fld P d n - 2) v) : y_HI P (y_wf h o n v) F := by
  have hl := y_wf_le h o n v F
  refine ⟨hI.1, fun f hf s w hs => (hI.2.1 f hf s w hs).le hl, fun o' ho => ⟨(hI.2.2 o' ho).1, fun n' hn d hd => ?_⟩⟩
  show y_vt P (y_wf h o n v) (z_fld P d n' - 2) (if o' = o ∧ n' = n then v else y_qf h o' n')
  by_cases g : o' = o ∧ n' = n
  · rw [if_pos g]
    rw [g.2] at hd ⊢
    have hd : z_fc P (y_qc h o') n = some d := hd
    rw [g.1] at hd
    exact (hv d hd).le hl
  · rw [if_neg g]; exact ((hI.2.2 o' ho).2 n' hn d hd).le hl
/-- an object is made -/
theorem y_new_le (P : z_Pg) (h : y_Qh) (c F : Nat) : y_le h (y_new P h c) F := ⟨fun _ _ => ⟨rfl, fun _ hs => hs⟩, Nat.le_succ _, fun o ho => if_neg (by omega)⟩
theorem y_new_HI (hw : z_wf P) {F c : Nat} (hI : y_HI P h F) (hc : c < z_nc P) : y_HI P (y_new P h c) F := by
  have hl := y_new_le P h c F
  have eo : ∀ o, o < y_qn h → y_qc (y_new P h c) o = y_qc h o := fun o ho => if_neg (by omega)
  refine ⟨fun f hf => ?_, fun f hf s w hs => (hI.2.1 f hf s w hs).le hl, fun o ho => ?_⟩
  · obtain ⟨g1, g2, g3, g4⟩ := hI.1 f hf
    refine ⟨g1, g2, Nat.lt_succ_of_lt g3, ?_⟩
    show z_blw P (y_qc (y_new P h c) (y_qo h f)) _ = true
    rw [eo _ g3]; exact g4
  · have ho : o < y_qn h + 1 := ho
    rcases Nat.lt_or_ge o (y_qn h) with g | g
    · rw [eo o g]
      refine ⟨(hI.2.2 o g).1, fun n hn d hd => ?_⟩
      have e : y_qf (y_new P h c) o n = y_qf h o n := if_neg (by omega)
      rw [e]
      exact ((hI.2.2 o g).2 n hn d hd).le hl
    · obtain rfl : o = y_qn h := by omega
      have e : y_qc (y_new P h c) (y_qn h) = c := if_pos rfl
      rw [e]
      refine ⟨hc, fun n hn d hd => ?_⟩
      have e2 : y_qf (y_new P h c) (y_qn h) n = (if y_isN P c n = true then 2 else 0, 0) := if_pos rfl
      rw [e2]
      obtain ⟨f1, _, f3⟩ := z_fc_some hd
      have hty := (z_fld_ty hw (c := d) (by omega) hn f3).1
      have eN : y_isN P c n = !(z_fld P d n - 2 == -1) := by unfold y_isN; rw [hd]
      rw [eN]
      generalize z_fld P d n - 2 = T at hty ⊢
      rcases hty with g1 | ⟨c', g1, g2⟩
      · subst g1; exact Or.inl ⟨rfl, rfl⟩
      · have h6 := hw.1.1
        subst g2
        have : (nI c' == (-1 : Int32)) = false := by simpa using z_nI_m1 (d := c') (by omega)
        rw [this]
        exact Or.inr ⟨c', g1, rfl, Or.inl rfl⟩
end
