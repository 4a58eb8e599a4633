-- deps: 91.24.mrun9 91.30.fu 92.00.law 92.01.law 92.02.law 92.03.law 92.04.law 92.05.law 92.06.law 92.07.law 92.08.law 93.00.new 93.01.new2 93.02.new3 93.03.new4 94.00.step
/-! what the calls may throw -/
section
variable {A : z_A}
theorem z_il_l {v : Int32} {A' : z_A} {l : List Nat} : z_il ((Sum.inl v, A') : (Int32 ⊕ Nat) × z_A).1 l := trivial
theorem z_il_r {e : Nat} {A' : z_A} {l : List Nat} (h : e ∈ l) : z_il ((Sum.inr e, A') : (Int32 ⊕ Nat) × z_A).1 l := h
theorem z_il_nd {t : z_TN} {l : List Nat} (h : 0 ∈ l) : z_il (z_nd A t).1 l := by
  unfold z_nd
  split
  · exact h
  · exact trivial
theorem z_il_rf {r : Int32} {Q : z_Pg} {l : List Nat} : z_il (z_rf A r Q).1 l := by
  unfold z_rf
  split <;> exact trivial
theorem g_number (a0 : Int32) : z_il (z_onumber A a0).1 [0] := by
  unfold z_onumber
  repeat (first | with_reducible exact z_il_nd (by decide) | with_reducible exact z_il_rf | with_reducible exact z_il_l | with_reducible exact z_il_r (by decide) | split)
theorem g_var (a0 : Int32) : z_il (z_ovar A a0).1 [0, 1] := by
  unfold z_ovar
  repeat (first | with_reducible exact z_il_nd (by decide) | with_reducible exact z_il_rf | with_reducible exact z_il_l | with_reducible exact z_il_r (by decide) | split)
theorem g_self : z_il (z_oself A).1 [0] := by
  unfold z_oself
  repeat (first | with_reducible exact z_il_nd (by decide) | with_reducible exact z_il_rf | with_reducible exact z_il_l | with_reducible exact z_il_r (by decide) | split)
theorem g_field (a0 a1 : Int32) : z_il (z_ofield A a0 a1).1 [0, 1, 2] := by
  unfold z_ofield
  repeat (first | with_reducible exact z_il_nd (by decide) | with_reducible exact z_il_rf | with_reducible exact z_il_l | with_reducible exact z_il_r (by decide) | split)
theorem g_put (a0 a1 a2 : Int32) : z_il (z_oput A a0 a1 a2).1 [0, 1, 2] := by
  unfold z_oput
  repeat (first | with_reducible exact z_il_nd (by decide) | with_reducible exact z_il_rf | with_reducible exact z_il_l | with_reducible exact z_il_r (by decide) | split)
theorem g_let (a0 a1 a2 : Int32) : z_il (z_olet A a0 a1 a2).1 [0, 1, 2] := by
  unfold z_olet
  repeat (first | with_reducible exact z_il_nd (by decide) | with_reducible exact z_il_rf | with_reducible exact z_il_l | with_reducible exact z_il_r (by decide) | split)
theorem g_call (a0 a1 a2 a3 : Int32) : z_il (z_ocall A a0 a1 a2 a3).1 [0, 1, 2] := by
  unfold z_ocall
  repeat (first | with_reducible exact z_il_nd (by decide) | with_reducible exact z_il_rf | with_reducible exact z_il_l | with_reducible exact z_il_r (by decide) | split)
theorem g_make (a0 : Int32) : z_il (z_omake A a0).1 [0, 2] := by
  unfold z_omake
  repeat (first | with_reducible exact z_il_nd (by decide) | with_reducible exact z_il_rf | with_reducible exact z_il_l | with_reducible exact z_il_r (by decide) | split)
theorem g_two (a0 a1 a2 : Int32) : z_il (z_otwo A a0 a1 a2).1 [0, 1, 2] := by
  unfold z_otwo
  repeat (first | with_reducible exact z_il_nd (by decide) | with_reducible exact z_il_rf | with_reducible exact z_il_l | with_reducible exact z_il_r (by decide) | split)
theorem g_test (a0 a1 a2 : Int32) : z_il (z_otest A a0 a1 a2).1 [0, 2] := by
  unfold z_otest
  repeat (first | with_reducible exact z_il_nd (by decide) | with_reducible exact z_il_rf | with_reducible exact z_il_l | with_reducible exact z_il_r (by decide) | split)
theorem g_raise (a0 : Int32) : z_il (z_oraise A a0).1 [0, 2] := by
  unfold z_oraise
  repeat (first | with_reducible exact z_il_nd (by decide) | with_reducible exact z_il_rf | with_reducible exact z_il_l | with_reducible exact z_il_r (by decide) | split)
theorem g_class (a0 : Int32) : z_il (z_oclass A a0).1 [0, 2] := by
  unfold z_oclass
  repeat (first | with_reducible exact z_il_nd (by decide) | with_reducible exact z_il_rf | with_reducible exact z_il_l | with_reducible exact z_il_r (by decide) | split)
theorem g_fieldOf (a0 a1 a2 : Int32) : z_il (z_ofieldOf A a0 a1 a2).1 [0, 1, 2] := by
  unfold z_ofieldOf
  repeat (first | with_reducible exact z_il_nd (by decide) | with_reducible exact z_il_rf | with_reducible exact z_il_l | with_reducible exact z_il_r (by decide) | split)
theorem g_method (a0 a1 a2 a3 a4 a5 : Int32) : z_il (z_omethod A a0 a1 a2 a3 a4 a5).1 [0, 1, 2] := by
  unfold z_omethod
  repeat (first | with_reducible exact z_il_nd (by decide) | with_reducible exact z_il_rf | with_reducible exact z_il_l | with_reducible exact z_il_r (by decide) | split)
theorem g_begin : z_il (z_obegin A).1 [0] := by
  unfold z_obegin
  repeat (first | with_reducible exact z_il_nd (by decide) | with_reducible exact z_il_rf | with_reducible exact z_il_l | with_reducible exact z_il_r (by decide) | split)
theorem g_renM (a0 a1 : Int32) : z_il (z_orenM A a0 a1).1 [0, 1, 2] := by
  unfold z_orenM
  repeat (first | with_reducible exact z_il_nd (by decide) | with_reducible exact z_il_rf | with_reducible exact z_il_l | with_reducible exact z_il_r (by decide) | split)
theorem g_renF (a0 a1 a2 : Int32) : z_il (z_orenF A a0 a1 a2).1 [0, 1, 2] := by
  unfold z_orenF
  repeat (first | with_reducible exact z_il_nd (by decide) | with_reducible exact z_il_rf | with_reducible exact z_il_l | with_reducible exact z_il_r (by decide) | split)
theorem g_renL (a0 a1 a2 : Int32) : z_il (z_orenL A a0 a1 a2).1 [0, 1, 2] := by
  unfold z_orenL
  repeat (first | with_reducible exact z_il_nd (by decide) | with_reducible exact z_il_rf | with_reducible exact z_il_l | with_reducible exact z_il_r (by decide) | split)
theorem g_inl (a0 a1 : Int32) : z_il (z_oinl A a0 a1).1 [0, 2] := by
  unfold z_oinl
  repeat (first | with_reducible exact z_il_nd (by decide) | with_reducible exact z_il_rf | with_reducible exact z_il_l | with_reducible exact z_il_r (by decide) | split)
theorem g_ext (a0 a1 a2 : Int32) : z_il (z_oext A a0 a1 a2).1 [0, 1, 2] := by
  unfold z_oext
  repeat (first | with_reducible exact z_il_nd (by decide) | with_reducible exact z_il_rf | with_reducible exact z_il_l | with_reducible exact z_il_r (by decide) | split)
theorem g_addP (a0 a1 : Int32) : z_il (z_oaddP A a0 a1).1 [0, 2] := by
  unfold z_oaddP
  repeat (first | with_reducible exact z_il_nd (by decide) | with_reducible exact z_il_rf | with_reducible exact z_il_l | with_reducible exact z_il_r (by decide) | split)
theorem g_dropP (a0 a1 : Int32) : z_il (z_odropP A a0 a1).1 [0, 2] := by
  unfold z_odropP
  repeat (first | with_reducible exact z_il_nd (by decide) | with_reducible exact z_il_rf | with_reducible exact z_il_l | with_reducible exact z_il_r (by decide) | split)
theorem g_pull (a0 : Int32) : z_il (z_opull A a0).1 [0, 2] := by
  unfold z_opull
  repeat (first | with_reducible exact z_il_nd (by decide) | with_reducible exact z_il_rf | with_reducible exact z_il_l | with_reducible exact z_il_r (by decide) | split)
theorem g_push (a0 : Int32) : z_il (z_opush A a0).1 [0, 2] := by
  unfold z_opush
  repeat (first | with_reducible exact z_il_nd (by decide) | with_reducible exact z_il_rf | with_reducible exact z_il_l | with_reducible exact z_il_r (by decide) | split)
theorem g_enc (a0 a1 a2 a3 : Int32) : z_il (z_oenc A a0 a1 a2 a3).1 [0, 1, 2] := by
  unfold z_oenc
  repeat (first | with_reducible exact z_il_nd (by decide) | with_reducible exact z_il_rf | with_reducible exact z_il_l | with_reducible exact z_il_r (by decide) | split)
theorem g_dead (a0 : Int32) : z_il (z_odead A a0).1 [0, 2] := by
  unfold z_odead
  repeat (first | with_reducible exact z_il_nd (by decide) | with_reducible exact z_il_rf | with_reducible exact z_il_l | with_reducible exact z_il_r (by decide) | split)
theorem g_undo : z_il (z_oundo A).1 [0] := by
  unfold z_oundo
  repeat (first | with_reducible exact z_il_nd (by decide) | with_reducible exact z_il_rf | with_reducible exact z_il_l | with_reducible exact z_il_r (by decide) | split)
theorem g_tell (a0 a1 : Int32) : z_il (z_otell A a0 a1).1 [1, 2] := by
  unfold z_otell
  repeat (first | with_reducible exact z_il_nd (by decide) | with_reducible exact z_il_rf | with_reducible exact z_il_l | with_reducible exact z_il_r (by decide) | split)
theorem g_node (a0 a1 a2 : Int32) : z_il (z_onode A a0 a1 a2).1 [1, 2] := by
  unfold z_onode
  repeat (first | with_reducible exact z_il_nd (by decide) | with_reducible exact z_il_rf | with_reducible exact z_il_l | with_reducible exact z_il_r (by decide) | split)
theorem g_ans (P : z_Pg) (a0 a1 a2 a3 : Int32) : z_il (y_ans A P a0 a1 a2 a3).1 [0, 1, 2] := by
  unfold y_ans
  repeat (first | with_reducible exact z_il_nd (by decide) | with_reducible exact z_il_rf | with_reducible exact z_il_l | with_reducible exact z_il_r (by decide) | split)
theorem g_run (a0 a1 a2 a3 a4 : Int32) : z_il (z_orun A a0 a1 a2 a3 a4).1 [0, 1, 2] := by
  unfold z_orun
  split
  · exact g_ans _ _ _ _ _
  · split
    · exact z_il_r (by decide)
    · exact g_ans _ _ _ _ _
def z_ea : Nat → m_M Int32 := fun E3 => if E3 = 0 then (m_R 1) else (m_F)
theorem z_wk_a : z_wk z_ea z_cd1 [0] := by
  intro e he
  simp only [List.mem_cons, List.not_mem_nil, or_false] at he
  subst he
  exact ⟨by decide, rfl, by decide⟩
def z_ev : Nat → m_M Int32 := fun E3 => if E3 = 1 then (m_R 1) else (if E3 = 0 then (m_R 2) else (m_F))
theorem z_wk_v : z_wk z_ev z_cdv [0, 1] := by
  intro e he
  simp only [List.mem_cons, List.not_mem_nil, or_false] at he
  rcases he with rfl | rfl <;> exact ⟨by decide, rfl, by decide⟩
def z_e2 : Nat → m_M Int32 := fun E3 => if E3 = 2 then (m_R 1) else (if E3 = 0 then (m_R 2) else (m_F))
theorem z_wk_2 : z_wk z_e2 z_cd2 [0, 2] := by
  intro e he
  simp only [List.mem_cons, List.not_mem_nil, or_false] at he
  rcases he with rfl | rfl <;> exact ⟨by decide, rfl, by decide⟩
def z_et : Nat → m_M Int32 := fun E3 => if E3 = 2 then (m_R 1) else (if E3 = 1 then (m_R 2) else (m_F))
theorem z_wk_t : z_wk z_et z_cd2 [1, 2] := by
  intro e he
  simp only [List.mem_cons, List.not_mem_nil, or_false] at he
  rcases he with rfl | rfl <;> exact ⟨by decide, rfl, by decide⟩
def z_e3 : Nat → m_M Int32 := fun E3 => if E3 = 2 then (m_R 1) else (if E3 = 1 then (m_R 2) else (if E3 = 0 then (m_R 3) else (m_F)))
theorem z_wk_3 : z_wk z_e3 z_cd3 [0, 1, 2] := by
  intro e he
  simp only [List.mem_cons, List.not_mem_nil, or_false] at he
  rcases he with rfl | rfl | rfl <;> exact ⟨by decide, rfl, by decide⟩
end
