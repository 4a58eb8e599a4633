/-! THE RUN: by induction on the fuel -/
section QTHR
variable {p : Program} {l : Launch} {e : Env} {R : Room} {s : State} {m : MethodId} {args : Array Value} {below : List Frame} {meth : Method} {c : Code}
variable {D : va_G} {b : Option Nat} {A : Nat → Prop} {ws0 : va_W} {nL k0 j0 : Nat} {sc : Option (Nat × (Nat → Int32))} {own : Nat} {ini : Bool} {cc : ByteArray}
theorem q_EN3 {P : String → Nat → Nat → Nat → Prop} (h0 : P (q_EN 0) (q_ik 0) (q_ic 0) (q_hcp 0)) (h1 : P (q_EN 1) (q_ik 1) (q_ic 1) (q_hcp 1)) (h2 : P (q_EN 2) (q_ik 2) (q_ic 2) (q_hcp 2)) {E : Nat} (hE : E < 3) : P (q_EN E) (q_ik E) (q_ic E) (q_hcp E) := by
  rcases (show E = 0 ∨ E = 1 ∨ E = 2 by omega) with rfl | rfl | rfl <;> assumption
theorem q_thw {E : Nat} (hE : E < 3) : Cond.classLink "SmithyBench" (q_ik E) (q_EN E) ∈ lw_tbl ∧ Cond.initialized (q_EN E) ∈ lw_tbl ∧ Cond.classLink "SmithyBenchLaw" (q_hcp E) (q_EN E) ∈ lw_tbl ∧ Cond.castable (q_EN E) (q_EN E) ∈ lw_tbl :=
  q_EN3 (P := fun X ik ic hc => Cond.classLink "SmithyBench" ik X ∈ lw_tbl ∧ Cond.initialized X ∈ lw_tbl ∧ Cond.classLink "SmithyBenchLaw" hc X ∈ lw_tbl ∧ Cond.castable X X ∈ lw_tbl) q_thw0 q_thw1 q_thw2 hE
theorem q_tha {E : Nat} (hE : E < 3) : ∀ w ∈ vx_atS "SmithyBench" (q_ic E) (q_EN E) q_nms, w ∈ lw_tbl :=
  q_EN3 (P := fun X ik ic hc => ∀ w ∈ vx_atS "SmithyBench" ic X q_nms, w ∈ lw_tbl) q_tha0 q_tha1 q_tha2 hE
theorem q_thgd {E : Nat} (hE : E < 3) : ∀ w ∈ vx_atS "SmithyBench" (q_ic E) (q_EN E) q_nms, (goodWord w || q_nk w) = true :=
  q_EN3 (P := fun X ik ic hc => ∀ w ∈ vx_atS "SmithyBench" ic X q_nms, (goodWord w || q_nk w) = true) q_thgd0 q_thgd1 q_thgd2 hE
theorem q_thg {E : Nat} (hE : E < 3) : ∀ w ∈ Cond.classLink "SmithyBench" (q_ik E) (q_EN E) :: Cond.initialized (q_EN E) :: vx_atS "SmithyBench" (q_ic E) (q_EN E) q_nms, vx_ot w = true :=
  q_EN3 (P := fun X ik ic hc => ∀ w ∈ Cond.classLink "SmithyBench" ik X :: Cond.initialized X :: vx_atS "SmithyBench" ic X q_nms, vx_ot w = true) q_thg0 q_thg1 q_thg2 hE
theorem q_thf {E : Nat} (hE : E < 3) : Bundle.fit (q_EN E) = true := q_EN3 (P := fun X ik ic hc => Bundle.fit X = true) q_thf0 q_thf1 q_thf2 hE
/-- a throw -/
theorem q_throw {y pc a bb len : Nat} {i : Instr} {lv : List (Nat × Value)} {st : List Value} {h : q_H} {mc ms : Nat} {Qc : Array Value → State → Outcome → State → Prop} (E : q_Env p s m args meth c R s.heap A b sc (q_mr y).1 (q_mr y).2.2.1 (q_mr y).2.2.2.1 cc) (hX0 : q_X0 A s s.heap) (hl : l.stackTraces = false)
    (hfr : (q_mr y).2.2.2.2.2.2.1 ≤ R.frames) (hlo : (q_mr y).2.2.2.2.2.2.2 ≤ R.locals) (hf6 : 6 ≤ (q_mr y).2.2.2.2.2.2.1) (hl90 : 90 ≤ (q_mr y).2.2.2.2.2.2.2) (hlocks : meth.locks = false) (htab : c.exceptionTable.toList = tableOf (q_hh y)) (hC : q_Cok y cc) (hcode : q_code y pc = some (i, len, a, bb)) (hb : 1000 ≤ bb) (hsum : q_sum st ≤ 8)
    (hcc : q_cc h + 1 ≤ R.cells + k0) (hss : q_ss h + 6 ≤ R.slots + j0) (hmc : mc + k0 = q_cc h + 1) (hms : ms + j0 = q_ss h + 6) :
    q_Go p l e R s m args below meth c (vx_MQ below Qc (q_XC D b A ws0 (q_ex1 h) (.inr (bb - 1000))) args s mc ms A) D b A s.heap ws0 (q_mr y).2.2.2.1 k0 j0 (pc, lv, st, h) := by
  obtain ⟨hx, hb9, hml, hown, hts, hA, hRf, hRl, -, -, -⟩ := E
  have hth := (hC pc i len a bb hcode).2.2.2.2
  unfold q_thok at hth
  have hnb : Nat.blt bb 1000 = false := by
    cases hq : Nat.blt bb 1000 with
    | false => rfl
    | true => have := Nat.blt_eq.mp hq; omega
  dsimp only at hth
  rw [hnb, Bool.false_or] at hth
  generalize hE : bb - 1000 = E at hth ⊢
  simp only [Bool.and_eq_true] at hth
  obtain ⟨h1, h2, h3, h4, h5, h6, h7⟩ := hth
  have hE3 : E < 3 := Nat.blt_eq.mp h2
  have ho : (q_mr y).1 = 11 := Nat.eq_of_beq_eq_true h3
  have hdec : ∀ {pc' : Nat} {j : Instr} {n : Nat}, q_isI (q_code y pc') j n = true → decode cc pc' = .ok (j, n) := fun hq => by
    obtain ⟨a', b', hq'⟩ := q_isI_of hq
    exact (hC _ _ _ _ _ hq').1
  have d0 : decode cc pc = .ok (.new (q_ik E), 3) := by
    obtain ⟨a', b', hq'⟩ := q_isI_of h1
    cases hq'
    exact (hC _ _ _ _ _ hcode).1
  obtain ⟨r, hr, hr2⟩ := List.any_eq_true.mp h6
  have hr3 : r.1 = (q_ths.getD a (0, 0)).1 := Nat.eq_of_beq_eq_true hr2
  obtain ⟨sa, hsa⟩ := hX0.2.2.1 r hr
  rw [hr3] at hsa
  have hown' : s.vm.findClass "SmithyBench" = some m.cls := by rw [ho] at hown; exact hown
  obtain ⟨w1, w2, -, -⟩ := q_thw hE3
  have hempty : c.exceptionTable.toList = [] := by
    rw [htab]
    unfold q_hh
    rw [List.isEmpty_iff.mp h4]; rfl
  have hout : ∀ (k : Nat), ∀ x ∈ c.exceptionTable.toList, covers x k = false := fun k x hx => by rw [hempty] at hx; cases hx
  intro H locs ls str cells slots (hF : q_Fr D b A s s.heap ws0 (q_mr y).2.2.2.1 h lv st H locs ls str) (g1 : cells + k0 = q_cc h) (g2 : slots + j0 = q_ss h)
  obtain ⟨tys, ws, lvr, hW, hP, hK, hD, hS, hX, hl', hL, hV, hn⟩ := hF
  have hsumr : (str.map fun v => v.category).sum ≤ 8 := by have := hV.sum; unfold q_sum at this hsum; omega
  have fin : ∀ t : State, s.vm.Alike t.vm → H.size ≤ t.heap.size → (∀ q : Nat, q < H.size → t.heap[q]? = H[q]?) → q_XC D b A ws0 (q_ex1 h) (.inr E) (q_EN E) s t := fun t ht hz hq =>
    ⟨rfl, ⟨tys, ws, rfl, hW, hP.kept (fun k q hk => hq q.1 (hP k q hk).lt), va_K.moved ht hK, hD, hX⟩, ⟨Nat.le_trans hS.1 hz, fun q h1 h2 => by rw [hq q (Nat.lt_of_lt_of_le h1 hS.1)]; exact hS.2.1 q h1 h2⟩⟩
  have hgw : ∀ w ∈ vx_atS "SmithyBench" (q_ic E) (q_EN E) q_nms, w.before args s = true := fun w hw => by
    have h9 := q_thgd hE3 w hw
    rw [Bool.or_eq_true] at h9
    rcases h9 with h9 | h9
    · exact hts _ (q_in (q_tha hE3 w hw) h9)
    · exact va_Nw.use (q_nkT h9) (hX0.2.2.2.2.2.2 w (q_tha hE3 w hw) h9)
  have hnl : q_nms.length = 2 := rfl
  rw [Bool.or_eq_true] at h7
  rcases h7 with h7 | h7
  · simp only [Bool.and_eq_true] at h7
    exact vx_throwS hx hb9 hl hown' (q_thf hE3) q_thn (hts _ (q_in w1 rfl)) (hts _ (q_in w2 rfl)) hsa hgw (q_thg hE3) hX0.1 hX0.2.1 hS (by rw [hl'.1, hml]) d0 (hdec h5) (hdec h7.1) (hdec h7.2.1) (hdec h7.2.2) (hout _) (by omega) (by omega) (by omega) (by omega) hlocks fin hS.2.2 (by omega) (by omega)
  · simp only [Bool.and_eq_true] at h7
    exact vx_throwSW hx hb9 hl hown' (q_thf hE3) q_thn (hts _ (q_in w1 rfl)) (hts _ (q_in w2 rfl)) hsa hgw (q_thg hE3) hX0.1 hX0.2.1 hS (by rw [hl'.1, hml]) d0 (hdec h5) (hdec h7.1) (hdec h7.2.1) (hdec h7.2.2) (hout _) (by omega) (by omega) (by omega) (by omega) hlocks fin hS.2.2 (by omega) (by omega)
end QTHR
theorem q_thr6 : ∀ y, y < 341 → ((q_cs.getD y []).any fun e => Nat.ble 1000 e.2.2.2.2) = true → 6 ≤ (q_mr y).2.2.2.2.2.2.1 ∧ 90 ≤ (q_mr y).2.2.2.2.2.2.2 := by decide +kernel
theorem q_run : ∀ n, q_Run n
  | 0 => fun sc y pc lv st h o h2 hs => by cases hs
  | n + 1 => by
    intro sc y pc lv st h o h2 hs p l e R s m args below meth c Q D b A ws0 k0 j0 cc E hX0 hl hfr hlo hlocks htab hC hy hcc hss hret hthr
    have ih := q_run n
    have hcon := q_con_of ih
    unfold q_ex at hs
    split at hs
    · cases hs
    · rename_i i len a bb hcode
      obtain ⟨hdg, hlk, hcl, hv0, hth⟩ := hC pc i len a bb hcode
      split at hs
      · rename_i v hv
        cases hs
        exact hret v rfl pc i len a bb lv st hcode hv
      · split at hs
        · rename_i hc
          obtain ⟨hkn, hf1, hl1, ha⟩ := hcl hc
          split at hs
          · rename_i hok
            split at hs
            · rename_i v h3 he
              have hm2 := q_mono _ _ _ _ _ _ _ _ _ hs
              refine q_call hcon E hX0 hl hdg hlk hc hv0 hkn (by omega) (by omega) ha hok he (by omega) (by omega) (fun v' hv' => ?_) (fun E' hE' => by cases hE') (Or.inl ⟨v, rfl⟩)
              cases hv'
              exact ih sc y (pc + 3) lv _ h3 o h2 hs p l e R s m args below meth c Q D b A ws0 k0 j0 cc E hX0 hl hfr hlo hlocks htab hC hy hcc hss hret hthr
            · rename_i E9 h3 he
              split at hs
              · rename_i hE9
                obtain ⟨hE3, hvir⟩ := hE9
                have hcp : ∃ cp, i = .invokevirtual cp := by
                  unfold q_vir at hvir
                  split at hvir
                  · exact ⟨_, rfl⟩
                  · cases hvir
                split at hs
                · rename_i hhs
                  cases hs
                  obtain ⟨mc, ms, Qc, g1, g2, rfl⟩ := hthr _ rfl
                  refine q_call hcon E hX0 hl hdg hlk hc hv0 hkn (by omega) (by omega) ha hok he hcc hss (fun v' hv' => by cases hv') (fun E' hE' _ H locs cells slots q9 ce ls restR hF k1 k2 hce hcv hcl => ?_) (Or.inr hcp)
                  cases hE'
                  obtain ⟨tys, ws, lvr, hW, hP, hK, hD, hS, hX, hl', hL, hV, hn⟩ := hF
                  exact vx_out (fun x hx => by rw [htab (Or.inl ⟨_, rfl⟩)] at hx; unfold q_hh at hx; rw [hhs] at hx; cases hx) hlocks hce hcv hcl
                    (fun t ht hvm => ⟨rfl, ⟨tys, ws, rfl, hW, by rw [ht]; exact hP, va_K.moved hvm hK, hD, hX⟩, hS.F ht⟩) hS.2.2 (by omega) (by omega)
                · split at hs
                  · rename_i k nx hhf
                    have hm2 := q_mono _ _ _ _ _ _ _ _ _ hs
                    have go := ih sc y nx (q_rmv lv k) [] h3 o h2 hs p l e R s m args below meth c Q D b A ws0 k0 j0 cc E hX0 hl hfr hlo hlocks htab hC hy hcc hss hret hthr
                    refine q_call hcon E hX0 hl hdg hlk hc hv0 hkn (by omega) (by omega) ha hok he (by omega) (by omega) (fun v' hv' => by cases hv') (fun E' hE' _ H locs cells slots q9 ce ls restR hF k1 k2 hce hcv hcl => ?_) (Or.inr hcp)
                    cases hE'
                    obtain ⟨tys, ws, lvr, hW, hP, hK, hD, hS, hX, hl', hL, hV, hn⟩ := hF
                    obtain ⟨pre, r, suf, e1, e2, e3, e4, e5⟩ := q_hf_inv hhf
                    have hho := q_thks y hy
                    rw [Bool.and_eq_true] at hho
                    have hall := List.all_eq_true.mp hho.2
                    have hrow := hall r (by rw [e1]; exact List.mem_append_right _ List.mem_cons_self)
                    simp only [Bool.and_eq_true] at hrow
                    obtain ⟨r1, r2, r3, r4, r5⟩ := hrow
                    have ho13 : (q_mr y).1 = 13 := Nat.eq_of_beq_eq_true r3
                    have hown' : s.vm.findClass "SmithyBenchLaw" = some m.cls := by have := E.2.2.2.1; rw [ho13] at this; exact this
                    have hts := E.2.2.2.2.1
                    have hcp' : r.2.2.2.1 = q_hcp E9 := by rw [Nat.eq_of_beq_eq_true r2, e3.2.2]
                    have hkl : k < (q_mr y).2.2.2.1 := by rw [← e4]; exact Nat.blt_eq.mp r4
                    have hc0 : ∀ E, E < 3 → q_hcp E ≠ 0 := by decide
                    obtain ⟨-, -, w3, w4⟩ := q_thw hE3
                    refine vx_catch (own := "SmithyBenchLaw") (name := q_EN E9) (E := q_EN E9) hown' (pre.map fun r => ⟨r.1, r.2.1, r.2.2.1, r.2.2.2.1⟩) ⟨r.1, r.2.1, r.2.2.1, r.2.2.2.1⟩ (suf.map fun r => ⟨r.1, r.2.1, r.2.2.1, r.2.2.2.1⟩) ?_ (fun z hz => ?_) ?_ ?_ (hts _ ?_) (va_Nw.use rfl (hX0.2.2.2.2.2.2 _ w4 rfl)) hce hcv hcl ?_
                    · rw [htab (Or.inr (by intro hq; rw [hq] at hhf; cases hhf))]
                      unfold q_hh tableOf
                      rw [e1, List.map_map, List.map_append, List.map_cons]
                      rfl
                    · obtain ⟨z', hz', rfl⟩ := List.mem_map.mp hz
                      have hrow' := hall z' (by rw [e1]; exact List.mem_append_left _ hz')
                      simp only [Bool.and_eq_true] at hrow'
                      have hz3 : z'.2.2.2.2.1 < 3 := Nat.blt_eq.mp hrow'.1
                      have hzc : z'.2.2.2.1 = q_hcp z'.2.2.2.2.1 := Nat.eq_of_beq_eq_true hrow'.2.1
                      by_cases hcov : z'.1 ≤ pc ∧ pc < z'.2.1
                      · have hne : z'.2.2.2.2.1 ≠ E9 := fun h => e2 z' hz' ⟨hcov.1, hcov.2, h⟩
                        refine Or.inr ⟨by show z'.2.2.2.1 ≠ 0; rw [hzc]; exact hc0 _ hz3, q_EN z'.2.2.2.2.1, ?_, hX0.2.2.2.2.2.1 _ _ hE3 hz3 (Ne.symm hne)⟩
                        show (Cond.classLink "SmithyBenchLaw" z'.2.2.2.1 (q_EN z'.2.2.2.2.1)).before args s = true
                        rw [hzc]
                        exact hts _ (q_in (q_thw hz3).2.2.1 rfl)
                      · left
                        show (decide (z'.1 ≤ pc) && decide (pc < z'.2.1)) = false
                        cases hq : (decide (z'.1 ≤ pc) && decide (pc < z'.2.1)) with
                        | false => rfl
                        | true =>
                          rw [Bool.and_eq_true] at hq
                          exact absurd ⟨of_decide_eq_true hq.1, of_decide_eq_true hq.2⟩ hcov
                    · show (decide (r.1 ≤ pc) && decide (pc < r.2.1)) = true
                      rw [decide_eq_true e3.1, decide_eq_true e3.2.1]; rfl
                    · show r.2.2.2.1 ≠ 0
                      rw [hcp']; exact hc0 _ hE3
                    · show Cond.classLink "SmithyBenchLaw" r.2.2.2.1 (q_EN E9) ∈ q_ALL
                      rw [hcp']
                      exact q_in w3 rfl
                    · have kk : ∀ ls' : Array Slot, lv_has ls' (q_mr y).2.2.2.1 ((k, Value.ref q9) :: lvr.filter (fun q => !(q.1 == k) && !(q.1 + 1 == k && q.2.category == 2))) → W p l e R s m args below meth c H locs cells slots Q (F0 m nx ls' []) := fun ls' hl9 =>
                        go H locs ls' [] cells slots ⟨tys, ws, _, hW, hP, hK, hD, hS, hX, lv_has.less hl9 (fun q hq => List.mem_cons_of_mem _ hq), hL.rmv, rfl, fun q hq => hn q (List.mem_filter.mp hq).1⟩ k1 k2
                      split at r5
                      · rename_i kf a' b' hcd
                        rw [Bool.and_eq_true] at r5
                        have u1 : kf.val = k := by rw [← e4]; exact Nat.eq_of_beq_eq_true r5.1
                        have u2 : nx = r.2.2.1 + 1 := by rw [← e5]; exact Nat.eq_of_beq_eq_true r5.2
                        rw [u2] at kk
                        exact lv_astore_n E.1 E.2.1 (hC _ _ _ _ _ hcd).1 u1 hl' hkl rfl kk
                      · rename_i kf a' b' hcd
                        rw [Bool.and_eq_true] at r5
                        have u1 : kf = k := by rw [← e4]; exact Nat.eq_of_beq_eq_true r5.1
                        have u2 : nx = r.2.2.1 + 2 := by rw [← e5]; exact Nat.eq_of_beq_eq_true r5.2
                        subst u1
                        rw [u2] at kk
                        exact lv_astore E.1 E.2.1 (hC _ _ _ _ _ hcd).1 hl' hkl rfl kk
                      · cases r5
                  · cases hs
              · cases hs
            · cases hs
          · cases hs
        · split at hs
          · rename_i hb
            split at hs
            · rename_i hhs
              split at hs
              · rename_i hsum
                cases hs
                obtain ⟨mc, ms, Qc, g1, g2, rfl⟩ := hthr _ rfl
                have h6 := q_thr6 y hy (List.any_eq_true.mpr ⟨_, q_lookup_mem hcode, Nat.ble_eq.mpr hb⟩)
                exact q_throw E hX0 hl hfr hlo h6.1 h6.2 hlocks (htab (Or.inl ⟨_, rfl⟩)) hC hcode hb hsum hcc hss g1 g2
              · cases hs
            · cases hs
          · split at hs
            · rename_i pc' lv' st' h' hst
              have hm1 := q_mono_st hst
              have hm2 := q_mono _ _ _ _ _ _ _ _ _ hs
              exact q_step E hdg hlk (by show q_cc h' ≤ R.cells + k0; omega) (by show q_ss h' ≤ R.slots + j0; omega) hst (ih sc y pc' lv' st' h' o h2 hs p l e R s m args below meth c Q D b A ws0 k0 j0 cc E hX0 hl hfr hlo hlocks htab hC hy hcc hss hret hthr)
            · cases hs
