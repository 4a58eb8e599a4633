-- deps: 91.24.mrun9
/-! fields stay unique -/
section
variable {P Q : z_Pg} {A : z_A}
theorem z_fu_eq (h1 : Q.1 = P.1) (h2 : Q.2.1 = P.2.1) (h3 : Q.2.2.1 = P.2.2.1) (h : z_fu P) : z_fu Q := fun c d n hc hn hb g1 g2 => by
  have e : ∀ c n, z_fld Q c n = z_fld P c n := fun c n => by unfold z_fld; rw [h3]
  rw [z_blw_par h2] at hb
  rw [e] at g1 g2
  exact h c d n (by unfold z_nc at *; rw [← h1]; exact hc) hn hb g1 g2
theorem z_fu_mix {H : Nat → Nat → Int32} {D : Nat → List z_N} {n : Nat} (h : z_fu P) : z_fu (z_mix P H D n) := z_fu_eq (P := P) rfl rfl rfl h
theorem z_fu_sM {j : Nat} {H : Nat → Int32} {l : List z_N} (h : z_fu P) : z_fu (z_sM P j H l) := z_fu_eq (P := P) rfl rfl rfl h
theorem z_fu_aM {H : Nat → Int32} {l : List z_N} (h : z_fu P) : z_fu (z_addM P H l) := z_fu_eq (P := P) rfl rfl rfl h
theorem z_fu_pdF (h : z_fu P) (k : Nat) : ∀ n, z_fu (z_pdF P k n).2
  | 0 => h
  | n + 1 => by
    have ih := z_fu_pdF h k n
    unfold z_pdF
    split
    · show z_fu (if _ then _ else _)
      split
      · exact z_fu_aM ih
      · exact z_fu_sM h
    · exact ih
theorem z_fu_aC (hw : z_wf P) (x : Int32) (h : z_fu P) : z_fu (z_addC P x) := fun c d n hc hn hb g1 g2 => by
  have e : ∀ c n, z_fld (z_addC P x) c n = if c = z_nc P then 0 else z_fld P c n := fun _ _ => rfl
  rw [e] at g1 g2
  have hc : c < z_nc P + 1 := hc
  by_cases gc : c = z_nc P
  · rw [if_pos gc] at g1; exact absurd rfl g1
  rw [if_neg gc] at g1
  by_cases gd : d = z_nc P
  · rw [if_pos gd] at g2; exact absurd rfl g2
  rw [if_neg gd] at g2
  have hb2 := z_blw_congr (P := P) (P' := z_addC P x) hw.1 (fun c hc => if_neg (by omega)) (c := c) (by omega) d
  rw [hb2] at hb
  exact h c d n (by omega) hn hb g1 g2
theorem z_fu_put (hw : z_wf P) {c n : Nat} (hc : c < z_nc P) (hno : z_haf P c n = false) (h1 : Q.1 = P.1) (h2 : Q.2.1 = P.2.1) (hg : ∀ c1 n1, z_fld Q c1 n1 ≠ 0 → (c1 = c ∧ n1 = n) ∨ z_fld P c1 n1 ≠ 0) (h : z_fu P) : z_fu Q := fun c1 d1 n1 hc1 hn1 hb g1 g2 => by
  rw [z_blw_par h2] at hb
  have hc1 : c1 < z_nc P := by unfold z_nc at *; rw [← h1]; exact hc1
  have hd1 := z_blw_le hw.1 hc1 hb
  have no : ∀ d, d < z_nc P → z_akin P d c = true → z_fld P d n = 0 := fun d hd ha => by
    unfold z_haf at hno
    have := z_any_f.mp hno d hd
    rw [ha] at this
    simpa using this
  rcases hg c1 n1 g1 with ⟨rfl, rfl⟩ | g1'
  · rcases hg d1 n1 g2 with ⟨rfl, _⟩ | g2'
    · rfl
    · exact absurd (no d1 (by omega) (by unfold z_akin; rw [hb, Bool.or_true])) g2'
  · rcases hg d1 n1 g2 with ⟨rfl, rfl⟩ | g2'
    · exact absurd (no c1 hc1 (by unfold z_akin; rw [hb]; rfl)) g1'
    · exact h c1 d1 n1 hc1 hn1 hb g1' g2'
theorem z_FU_wn (hf : z_FU A) (h : z_fu P) : z_FU (z_wn (z_dp A) P) := ⟨h, hf.2.1, fun i hi => absurd hi (Nat.not_lt_zero _)⟩
theorem z_FU_rf (hw : z_WA A) (hf : z_FU A) {r : Int32} (h : ¬ r < 0 → z_fu Q) : z_FU (z_rf A r Q).2 := by
  unfold z_rf
  by_cases g : r < 0
  · rw [if_pos g]; exact hf
  · rw [if_neg g]
    have hp : ∀ i, i < (z_pop A).2.2.2.1.length → z_fu (z_pat (z_pop A).2.2.2.1 i) := fun i hi => by
      unfold z_pop at hi ⊢
      by_cases g10 : A.2.2.2.1.length = 10
      · rw [if_pos g10] at hi ⊢
        have hi : i < (A.2.2.2.1.drop 1).length := hi
        rw [List.length_drop] at hi
        show z_fu (z_pat (A.2.2.2.1.drop 1) i)
        rw [z_pat_drop]
        exact hf.2.2 (i + 1) (by omega)
      · rw [if_neg g10] at hi ⊢
        exact hf.2.2 i hi
    refine ⟨h g, hf.2.1, fun i hi => ?_⟩
    have hi : i < ((z_pop A).2.2.2.1 ++ [A.2.1]).length := hi
    rw [List.length_append] at hi
    have hi : i < (z_pop A).2.2.2.1.length + 1 := hi
    show z_fu (z_pat ((z_pop A).2.2.2.1 ++ [A.2.1]) i)
    rw [z_pat_app]
    by_cases g1 : i < (z_pop A).2.2.2.1.length
    · rw [if_pos g1]; exact hp i g1
    · rw [if_neg g1, if_pos (by omega)]; exact hf.1
theorem z_FU_A2 {A' : z_A} (h : A'.2.1 = A.2.1) (h2 : A'.2.2.1 = A.2.2.1) (h3 : A'.2.2.2.1 = A.2.2.2.1) (hf : z_FU A) : z_FU A' := by
  unfold z_FU at *
  rw [h, h2, h3]; exact hf
theorem z_FU_nd (hf : z_FU A) (t : z_TN) : z_FU (z_nd A t).2 := by
  unfold z_nd
  split
  · exact hf
  · exact z_FU_A2 (A := A) rfl rfl rfl hf
theorem u_number (hf : z_FU A) (x : Int32) : z_FU (z_onumber A x).2 := z_FU_nd hf _
theorem u_var (hf : z_FU A) (x : Int32) : z_FU (z_ovar A x).2 := by
  unfold z_ovar; split
  · exact hf
  · exact z_FU_nd hf _
theorem u_self (hf : z_FU A) : z_FU (z_oself A).2 := z_FU_nd hf _
theorem u_field (hf : z_FU A) (x y : Int32) : z_FU (z_ofield A x y).2 := by
  unfold z_ofield
  repeat (first | with_reducible exact hf | with_reducible exact z_FU_nd hf _ | split)
theorem u_put (hf : z_FU A) (x y z : Int32) : z_FU (z_oput A x y z).2 := by
  unfold z_oput
  repeat (first | with_reducible exact hf | with_reducible exact z_FU_nd hf _ | split)
theorem u_let (hf : z_FU A) (x y z : Int32) : z_FU (z_olet A x y z).2 := by
  unfold z_olet
  repeat (first | with_reducible exact hf | with_reducible exact z_FU_nd hf _ | split)
theorem u_call (hf : z_FU A) (x y z w : Int32) : z_FU (z_ocall A x y z w).2 := by
  unfold z_ocall
  repeat (first | with_reducible exact hf | with_reducible exact z_FU_nd hf _ | split)
theorem u_make (hf : z_FU A) (x : Int32) : z_FU (z_omake A x).2 := by
  unfold z_omake
  repeat (first | with_reducible exact hf | with_reducible exact z_FU_nd hf _ | split)
theorem u_two (hf : z_FU A) (x y z : Int32) : z_FU (z_otwo A x y z).2 := by
  unfold z_otwo
  repeat (first | with_reducible exact hf | with_reducible exact z_FU_nd hf _ | split)
theorem u_test (hf : z_FU A) (x y z : Int32) : z_FU (z_otest A x y z).2 := by
  unfold z_otest
  repeat (first | with_reducible exact hf | with_reducible exact z_FU_nd hf _ | split)
theorem u_raise (hf : z_FU A) (x : Int32) : z_FU (z_oraise A x).2 := by
  unfold z_oraise
  repeat (first | with_reducible exact hf | with_reducible exact z_FU_nd hf _ | split)
theorem u_class (hw : z_WA A) (hf : z_FU A) (x : Int32) : z_FU (z_oclass A x).2 := by
  unfold z_oclass
  repeat (first | with_reducible exact hf | ((with_reducible refine z_FU_wn hf ?_); exact z_fu_aC hw.2.1.1 x hf.1) | split)
theorem u_fieldOf (hw : z_WA A) (hf : z_FU A) (c n t : Int32) : z_FU (z_ofieldOf A c n t).2 := by
  unfold z_ofieldOf
  by_cases g1 : z_in c (z_nc A.2.1) = false
  · rw [if_pos g1]; exact hf
  rw [if_neg g1]
  have h6 := hw.2.1.1.1.1
  obtain ⟨c', hc', rfl⟩ := (z_in_iff (by omega)).mp (z_not_false g1)
  split
  · exact hf
  · split
    · exact hf
    · split
      · exact hf
      · next g => 
        rw [nI_clamp (show c' < 2 ^ 31 by omega)] at g ⊢
        refine z_FU_wn hf (z_fu_put (P := A.2.1) hw.2.1.1 hc' (by simpa using g) rfl rfl (fun c1 n1 h => ?_) hf.1)
        have h : (if c1 = c' ∧ n1 = n.toNatClampNeg then t + 2 else z_fld A.2.1 c1 n1) ≠ 0 := h
        by_cases q : c1 = c' ∧ n1 = n.toNatClampNeg
        · exact Or.inl q
        · rw [if_neg q] at h; exact Or.inr h
theorem u_method (hf : z_FU A) (c n x y t i : Int32) : z_FU (z_omethod A c n x y t i).2 := by
  unfold z_omethod
  repeat (first | with_reducible exact hf | ((with_reducible refine z_FU_wn hf ?_); exact z_fu_aM hf.1) | split)
theorem u_begin (hf : z_FU A) : z_FU (z_obegin A).2 := by
  unfold z_obegin
  split
  · refine ⟨hf.1, fun Bg hB => ?_, fun i hi => absurd hi (Nat.not_lt_zero _)⟩
    obtain rfl := Option.some.inj hB
    exact hf.1
  · exact hf
theorem u_undo (hf : z_FU A) : z_FU (z_oundo A).2 := by
  unfold z_oundo
  by_cases g : A.2.2.2.1.length = 0
  · rw [if_pos g]; exact hf
  · rw [if_neg g]
    refine ⟨hf.2.2 _ (by omega), hf.2.1, fun i hi => ?_⟩
    have hi : i < (A.2.2.2.1.take (A.2.2.2.1.length - 1)).length := hi
    rw [List.length_take] at hi
    show z_fu (z_pat (A.2.2.2.1.take _) i)
    rw [z_pat_take (by omega)]
    exact hf.2.2 i (by omega)
theorem u_renM (hw : z_WA A) (hf : z_FU A) (k x : Int32) : z_FU (z_orenM A k x).2 := by
  unfold z_orenM
  repeat (first | with_reducible exact hf | ((with_reducible refine z_FU_rf hw hf (fun _ => ?_)); exact z_fu_mix hf.1) | split)
theorem u_pull (hw : z_WA A) (hf : z_FU A) (k : Int32) : z_FU (z_opull A k).2 := by
  unfold z_opull
  repeat (first | with_reducible exact hf | ((with_reducible refine z_FU_rf hw hf (fun _ => ?_)); exact z_fu_sM hf.1) | split)
theorem u_dead (hw : z_WA A) (hf : z_FU A) (k : Int32) : z_FU (z_odead A k).2 := by
  unfold z_odead
  repeat (first | with_reducible exact hf | ((with_reducible refine z_FU_rf hw hf (fun _ => ?_)); exact z_fu_mix hf.1) | split)
theorem u_renL (hw : z_WA A) (hf : z_FU A) (k x n : Int32) : z_FU (z_orenL A k x n).2 := by
  unfold z_orenL
  repeat (first | with_reducible exact hf | ((with_reducible refine z_FU_rf hw hf (fun _ => ?_)); exact z_fu_sM hf.1) | split)
theorem u_enc (hw : z_WA A) (hf : z_FU A) (c f g s : Int32) : z_FU (z_oenc A c f g s).2 := by
  unfold z_oenc
  repeat (first | with_reducible exact hf | ((with_reducible refine z_FU_rf hw hf (fun _ => ?_)); exact z_fu_mix (z_fu_aM (z_fu_aM hf.1))) | split)
theorem u_addP (hw : z_WA A) (hf : z_FU A) (k v : Int32) : z_FU (z_oaddP A k v).2 := by
  unfold z_oaddP
  repeat (first | with_reducible exact hf | ((with_reducible refine z_FU_rf hw hf (fun _ => ?_)); exact z_fu_mix hf.1) | split)
theorem u_dropP (hw : z_WA A) (hf : z_FU A) (k v : Int32) : z_FU (z_odropP A k v).2 := by
  unfold z_odropP
  repeat (first | with_reducible exact hf | ((with_reducible refine z_FU_rf hw hf (fun _ => ?_)); exact z_fu_mix hf.1) | split)
theorem u_push (hw : z_WA A) (hf : z_FU A) (k : Int32) : z_FU (z_opush A k).2 := by
  have : z_fu (z_pdQ A.2.1 k.toNatClampNeg) := by
    unfold z_pdQ
    split
    · exact z_fu_pdF hf.1 _ _
    · exact z_fu_sM hf.1
  unfold z_opush
  repeat (first | with_reducible exact hf | ((with_reducible refine z_FU_rf hw hf (fun _ => ?_)); exact this) | split)
theorem u_inl (hw : z_WA A) (hf : z_FU A) (k i : Int32) : z_FU (z_oinl A k i).2 := by
  unfold z_oinl
  repeat (first | with_reducible exact hf | ((with_reducible refine z_FU_rf hw hf (fun _ => ?_)); exact z_fu_sM hf.1) | split)
theorem u_ext (hw : z_WA A) (hf : z_FU A) (k i x : Int32) : z_FU (z_oext A k i x).2 := by
  unfold z_oext
  repeat (first | with_reducible exact hf | ((with_reducible refine z_FU_rf hw hf (fun _ => ?_)); exact z_fu_mix (z_fu_aM hf.1)) | split)
theorem u_renF (hw : z_WA A) (hf : z_FU A) (c f x : Int32) : z_FU (z_orenF A c f x).2 := by
  unfold z_orenF
  by_cases g1 : z_in c (z_nc A.2.1) = false
  · rw [if_pos g1]; exact hf
  rw [if_neg g1]
  have h6 := hw.2.1.1.1.1
  obtain ⟨c', hc', rfl⟩ := (z_in_iff (by omega)).mp (z_not_false g1)
  rw [nI_clamp (show c' < 2 ^ 31 by omega)]
  split
  · exact hf
  · split
    · exact hf
    · split
      · refine z_FU_rf hw hf (fun hr => z_fu_mix ?_)
        have hno : z_haf A.2.1 c' x.toNatClampNeg = false := by
          by_cases q : z_haf A.2.1 c' x.toNatClampNeg = true
          · unfold z_rfR at hr
            rw [if_pos q] at hr
            exact absurd (show (-1 : Int32) < 0 by decide) hr
          · simpa using q
        refine z_fu_put (P := A.2.1) hw.2.1.1 hc' hno rfl rfl (fun c1 n1 h => ?_) hf.1
        have h : (if c1 = c' ∧ n1 = x.toNatClampNeg then z_fld A.2.1 c' f.toNatClampNeg else if c1 = c' ∧ n1 = f.toNatClampNeg then 0 else z_fld A.2.1 c1 n1) ≠ 0 := h
        by_cases q : c1 = c' ∧ n1 = x.toNatClampNeg
        · exact Or.inl q
        · rw [if_neg q] at h
          by_cases q2 : c1 = c' ∧ n1 = f.toNatClampNeg
          · rw [if_pos q2] at h; exact absurd rfl h
          · rw [if_neg q2] at h; exact Or.inr h
      · exact hf
theorem u_tell (hf : z_FU A) (x y : Int32) : z_FU (z_otell A x y).2 := by
  unfold z_otell
  repeat (first | with_reducible exact hf | split)
theorem u_node (hf : z_FU A) (x y z : Int32) : z_FU (z_onode A x y z).2 := by
  unfold z_onode
  repeat (first | with_reducible exact hf | split)
theorem u_ans (hf : z_FU A) (P : z_Pg) (k c f s : Int32) : z_FU (y_ans A P k c f s).2 := by
  unfold y_ans
  repeat (first | with_reducible exact hf | (with_reducible refine z_FU_A2 (A := A) ?_ ?_ ?_ hf) <;> rfl | split)
theorem u_run (hf : z_FU A) (k c f s b : Int32) : z_FU (z_orun A k c f s b).2 := by
  unfold z_orun
  split
  · exact u_ans hf _ _ _ _ _
  · split
    · exact hf
    · exact u_ans hf _ _ _ _ _
end
