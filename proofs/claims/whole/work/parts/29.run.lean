/-! one method goes on, by the pure machine's fuel; the contract of each method -/
def q_Cok (y : Nat) (cc : ByteArray) : Prop := ∀ pc i len a b, q_code y pc = some (i, len, a, b) → decode cc pc = .ok (i, len) ∧ q_lok (q_mr y).2.2.2.1 (q_mr y).1 i len a b pc ∧
  (q_cal i b = true → q_knd (q_kin i b) a = true ∧ (q_mr a).2.2.2.2.2.2.1 + 1 ≤ (q_mr y).2.2.2.2.2.2.1 ∧ 8 + ((q_mr a).2.2.2.1 + 11) + (q_mr a).2.2.2.2.2.2.2 ≤ (q_mr y).2.2.2.2.2.2.2 ∧ a < 340) ∧ (∀ cp, i = .invokevirtual cp → b = 0) ∧ q_thok y (pc, i, len, a, b) = true
def q_hh (y : Nat) : List (Nat × Nat × Nat × Nat) := (q_hs y).map fun r => (r.1, r.2.1, r.2.2.1, r.2.2.2.1)
/-- the contract of every method, for runs of so much fuel -/
def q_Con (n : Nat) : Prop := ∀ (a : Nat) (as : List Value) (h : q_H) (o : q_O) (h3 : q_H), a < 340 → q_ex none n a 0 (lv_args 0 as) [] h = some (o, h3) → q_sum as ≤ (q_mr a).2.2.2.1 →
  ∀ (l : Launch) (D : va_G) (b : Option Nat) (tys : List (ClassId × FieldType)) (ws : va_W) (sz : Nat) (asr : List Value) (mc ms : Nat), l.stackTraces = false → q_Wd b tys h ws → q_Vs (q_am b ws) as asr → mc + q_cc h = q_cc h3 → ms + q_ss h = q_ss h3 →
    vx_Met l (q_y a) (q_wsm a) (q_room a mc ms) (va_Pc asr (q_B D b tys h ws sz)) (q_Qc D b (va_A ws sz) ws h3 o) (q_XC D b (va_A ws sz) ws h3 o) mc ms (va_A ws sz)
theorem q_XC_inl {D : va_G} {b : Option Nat} {A : Nat → Prop} {ws0 : va_W} {h : q_H} {v : Option Value} : ∀ X st t, ¬ q_XC D b A ws0 h (.inl v) X st t := fun _ _ _ h => h
theorem q_goodIn {X : List Cond} (h : ∀ w ∈ X, w ∈ q_ALL) : GoodIn q_ALL X := fun w hw => ⟨h w hw, good_of_word (List.mem_filter.mp (h w hw)).2⟩
theorem q_cw_in {a : Nat} (ha : a < 340) : q_cw a ∈ q_ALL := by
  refine q_in (q_cws a ha) ?_
  unfold q_cw
  split <;> rfl
theorem q_ini_in {a : Nat} (ha : a < 340) : Cond.initialized (q_R (q_mr a).1) ∈ q_ALL := q_in (q_mws0 a ha _ (List.mem_append_right _ List.mem_cons_self)) rfl
theorem q_wsm_in {a : Nat} (ha : a < 340) : ∀ w ∈ q_wsm a, w ∈ q_ALL := fun w hw => (List.mem_cons.mp hw).elim (fun h => by rw [h]; exact q_cw_in ha) id
theorem q_mpf {a : Nat} (ha : a < 340) : plainName (q_y a).cls = true ∧ (q_y a).cls = q_R (q_mr a).1 ∧ ((q_y a).cls ≠ "java/lang/invoke/MethodHandle" ∧ (q_y a).cls ≠ "java/lang/invoke/VarHandle") ∧ (parseMethodDescriptor (q_y a).desc).map (fun d => d.parameters.length) = some ((q_mr a).2.2.2.2.2.1 - if (q_mr a).2.1 = true then 0 else 1) ∧ ((q_mr a).2.2.1 = true → (q_y a).name = "<init>") := by
  have h := q_mps a ha
  unfold q_mp at h
  simp only [Bool.and_eq_true, decide_eq_true_eq, Bool.or_eq_true, Bool.not_eq_true'] at h
  obtain ⟨h1, h2, h3, h4, h5⟩ := h
  exact ⟨h1, h2, h3, h4, fun h => h5.resolve_left (by rw [h]; exact Bool.noConfusion)⟩
section QRUN
variable {p : Program} {l : Launch} {e : Env} {R : Room} {s : State} {m : MethodId} {args : Array Value} {below : List Frame} {meth : Method} {c : Code} {Q : State → Prop}
variable {D : va_G} {b : Option Nat} {A : Nat → Prop} {ws0 : va_W} {nL k0 j0 : Nat} {sc : Option (Nat × (Nat → Int32))} {own : Nat} {ini : Bool} {cc : ByteArray}
/-- A CALL -/
theorem q_call {n a bb pc len : Nat} {i : Instr} {lv : List (Nat × Value)} {st : List Value} {h h3 : q_H} {o : q_O} (hcon : q_Con n) (E : q_Env p s m args meth c R s.heap A b sc own ini nL cc) (hX0 : q_X0 A s s.heap) (hl : l.stackTraces = false)
    (hd : decode cc pc = .ok (i, len)) (hk : q_lok nL own i len a bb pc) (hc : q_cal i bb = true) (hv0 : ∀ cp, i = .invokevirtual cp → bb = 0) (hkn : q_knd (q_kin i bb) a = true) (hfr : (q_mr a).2.2.2.2.2.2.1 + 1 ≤ R.frames) (hlo : 8 + ((q_mr a).2.2.2.1 + 11) + (q_mr a).2.2.2.2.2.2.2 ≤ R.locals) (ha : a < 340)
    (hok : q_cok (q_mr a) st h = true) (he : q_ex none n a 0 (lv_args 0 (st.take (q_mr a).2.2.2.2.2.1).reverse) [] h = some (o, h3)) (hcc : q_cc h3 ≤ R.cells + k0) (hss : q_ss h3 ≤ R.slots + j0)
    (kv : ∀ v, o = .inl v → q_Go p l e R s m args below meth c Q D b A s.heap ws0 nL k0 j0 (pc + 3, lv, v.toList ++ st.drop (q_mr a).2.2.2.2.2.1, h3))
    (kx : ∀ E, o = .inr E → (∃ cp, i = .invokevirtual cp) → ∀ (H : Heap) (locs : List Loc) (cells slots : Nat) (q9 : Addr) (ce : Cell) (ls : Array Slot) (restR : List Value), q_Fr D b A s s.heap ws0 nL h3 lv (st.drop (q_mr a).2.2.2.2.2.1) H locs ls restR → cells + k0 = q_cc h3 → slots + j0 = q_ss h3 → H[q9]? = some ce → ce.vm = .none → s.vm.findClass (q_EN E) = some ce.cls → vx_W p l e R s m args below meth c H locs cells slots Q (F0 m pc ls restR) q9)
    (ho : (∃ v, o = .inl v) ∨ ∃ cp, i = .invokevirtual cp) :
    q_Go p l e R s m args below meth c Q D b A s.heap ws0 nL k0 j0 (pc, lv, st, h) := by
  obtain ⟨hx, hb, hml, hown, hts, hA, hRf, hRl, -, -, -⟩ := E
  intro H locs ls str cells slots (hF : q_Fr D b A s s.heap ws0 nL h lv st H locs ls str) (h1 : cells + k0 = q_cc h) (h2 : slots + j0 = q_ss h)
  obtain ⟨tys, ws, lvr, hW, hP, hK, hD, hS, hX, hl', hL, hV, hn⟩ := hF
  generalize hna : (q_mr a).2.2.2.2.2.1 = na at *
  have hmo := q_mono _ _ _ _ _ _ _ _ _ he
  unfold q_cok at hok
  rw [hna] at hok
  simp only [Bool.and_eq_true, decide_eq_true_eq, Bool.or_eq_true] at hok
  obtain ⟨⟨⟨hlen, hsum⟩, hsumt⟩, hrecv⟩ := hok
  have hVt : q_Vs (q_am b ws) (st.take na).reverse (str.take na).reverse := (hV.take na).rev
  have hVd := hV.drop na
  have hstr : str = ((str.take na).reverse).reverse ++ str.drop na := by rw [List.reverse_reverse, List.take_append_drop]
  have hlr : (str.take na).reverse.length = na := by rw [List.length_reverse, List.length_take, hV.len]; omega
  have hsumr : ((str.drop na).map fun v => v.category).sum ≤ 8 := by
    have := hVd.sum; unfold q_sum at this hsum; omega
  have hFc : ∀ q, va_A ws H.size q → A q := by
    intro q h
    rcases h with ⟨k, e, h⟩ | h
    · exact hD.2 k (q, e) h
    · exact hA q (Nat.le_trans hS.1 h)
  generalize hmc : q_cc h3 - q_cc h = mc
  generalize hms : q_ss h3 - q_ss h = ms
  have hmc' : mc + q_cc h = q_cc h3 := by omega
  have hms' : ms + q_ss h = q_ss h3 := by omega
  have hM := hcon a _ h o h3 ha he (by unfold q_sum at hsumt ⊢; rw [List.map_reverse, List.sum_reverse]; exact hsumt) l D b tys ws H.size _ mc ms hl hW hVt hmc' hms'
  obtain ⟨y1, y2, y3, y4, y5⟩ := q_mpf ha
  rw [hna] at y4
  have hPcU : ∀ U : State, U.heap = H → s.WarmedH U.vm → va_Pc (str.take na).reverse (q_B D b tys h ws H.size) (str.take na).reverse.toArray U := fun U hU hWU =>
    ⟨rfl, by rw [hU], by rw [hU]; exact hP, va_K.moved hWU.alike hK, hD.weaken (fun _ _ _ _ => trivial), by rw [hU]; exact hX0.go hS.2.1 hFc hWU⟩
  have hrm : (q_room a mc ms).frames + 1 ≤ R.frames ∧ 8 + ((q_mr a).2.2.2.1 + 11) + (q_room a mc ms).locals ≤ R.locals := ⟨hfr, hlo⟩
  have hroom : cells + mc ≤ R.cells ∧ slots + ms ≤ R.slots := by omega
  have key : ∀ {aa : Array Value}, vx_Run p l e R s m args below meth c H locs cells slots mc ms (F0 m pc ls str) (str.drop na) (q_Qc D b (va_A ws H.size) ws h3 o aa) (q_XC D b (va_A ws H.size) ws h3 o) (va_A ws H.size) → W p l e R s m args below meth c H locs cells slots Q (F0 m pc ls str) := fun hr =>
    q_after hr hW hP hD hS hA hX hl' hL hVd hn h1 h2 hmc' hms' kv (fun E hE => by
      rcases ho with ⟨v, hv⟩ | hv
      · rw [hE] at hv; cases hv
      · exact fun H locs cells slots q9 ce g => kx E hE hv H locs cells slots q9 ce ls _ g)
  have hin : ∀ {w : Cond}, w ∈ q_mw a → goodWord w = true → w ∈ q_ALL := fun hw hg => q_in (q_mws a ha _ hw) hg
  have hini' := q_ini_in ha
  have hcl : (q_y a).cls = q_R (q_mr a).1 := y2
  have hS0 : CallFix p m c cc nL s args q_ALL (q_R own) := ⟨hx, hb, hml, hown, hts⟩
  have hlks : ∀ {bb : Nat} {cp : Nat}, q_lki own cp a bb → (bb = 0 → Cond.methodLink (q_R own) cp (q_y a) ∈ q_ALL) ∧ (bb = 1 → va_Nw (.methodLinkNest (q_R own) cp (q_y a) "SmithyBench") s) := fun hk =>
    ⟨fun h0 => q_in (hk.1 h0) rfl, fun h1 => hX0.2.2.2.2.2.2 _ (hk.2.1 h1) rfl⟩
  have hnotinl : (∀ cp, i ≠ .invokevirtual cp) → ∀ X st t, ¬ q_XC D b (va_A ws H.size) ws h3 o X st t := fun hi => by
    rcases ho with ⟨v, rfl⟩ | ⟨cp, hcp⟩
    · exact q_XC_inl
    · exact absurd hcp (hi cp)
  have href : (q_mr a).2.1 = false → ∃ k9 as9, (st.take na).reverse = .ref k9 :: as9 ∧ ((q_mr a).2.2.1 = true ∨ q_kd h k9 = (q_mr a).1) := fun h0 => by
    rcases hrecv with h | h
    · rw [h0] at h; cases h
    · split at h
      · rename_i k9 as9 heq
        simp only [Bool.or_eq_true, decide_eq_true_eq] at h
        exact ⟨k9, as9, heq, h⟩
      · cases h
  cases i with
  | invokevirtual cp =>
    have h0 := hv0 cp rfl
    subst h0
    obtain ⟨rfl, hlk⟩ := hk
    simp only [q_kin, q_knd, if_true, Bool.and_eq_true, Bool.not_eq_true', decide_eq_true_eq] at hkn
    obtain ⟨n1, n2, n3, n4⟩ := hkn
    obtain ⟨k9, as9, e1, e2⟩ := href n1
    rw [e1] at hVt
    obtain ⟨_, As, e3, ⟨ad, a3, rfl⟩, hVa⟩ := hVt
    have hkd : q_kd h k9 = (q_mr a).1 := e2.resolve_left (by rw [n2]; exact Bool.noConfusion)
    obtain ⟨fs, h4⟩ := q_at_obj hW hkd n4 a3
    have hwsm : q_wsm a = Cond.code (q_y a) (q_bytes a) (q_mr a).2.2.2.1 (q_rty (q_mr a).2.2.2.2.1) :: q_ALL := by unfold q_wsm q_cw; rw [if_pos n3]
    have hmw : Cond.instanceMethod (q_y a) ∈ q_mw a ∧ Cond.selects (q_R (q_mr a).1) (q_y a) (q_y a) ∈ q_mw a := by
      unfold q_mw q_mw0
      rw [if_neg (by rw [n1]; exact Bool.noConfusion), if_neg (by rw [n2]; exact Bool.noConfusion)]
      exact ⟨List.mem_append_left _ (List.mem_append_left _ List.mem_cons_self), List.mem_append_left _ (List.mem_append_left _ (List.mem_cons_of_mem _ List.mem_cons_self))⟩
    have hT : GoodIn q_ALL (wsV (q_R own) cp (q_R (q_mr a).1) (q_y a) (q_wsm a)) := q_goodIn (fun w hw => by
      unfold wsV at hw
      rcases List.mem_append.mp hw with hw | hw
      · simp only [List.mem_cons, List.not_mem_nil, or_false] at hw
        rcases hw with rfl | rfl | rfl | rfl
        · exact (hlks hlk).1 rfl
        · exact hin hmw.1 rfl
        · exact hin hmw.2 rfl
        · exact hini'
      · exact q_wsm_in ha w hw)
    rw [e3] at hM hPcU hstr hlr
    refine key (vx_runV (As := As) (C := q_R (q_mr a).1) hS0 hM (cwV (na - 1) hts hT hwsm rfl rfl ⟨hcl, y3.1, y3.2, by rw [y4, n1]; rfl⟩ hrm) ⟨q_blind, va_recv hK hP (q_clat n4) h4, hPcU⟩ rfl (by rw [← hlr]; rfl) hl'.1 (by rw [List.reverse_cons, List.append_assoc] at hstr; exact hstr) (lv_room hsumr) hd hroom)
  | invokespecial cp =>
    obtain ⟨rfl, -, -, -, hlk⟩ := hk
    replace hkn : ((q_mr a).2.2.1 && (!(q_mr a).2.1 && ((q_hs a).isEmpty && Nat.beq (q_mr a).2.2.2.2.1 0))) = true := hkn
    simp only [Bool.and_eq_true, Bool.not_eq_true', Nat.beq_eq] at hkn
    obtain ⟨n1, n2, n3, n4⟩ := hkn
    obtain ⟨k9, as9, e1, -⟩ := href n2
    rw [e1] at hVt
    obtain ⟨_, As, e3, ⟨ad, a3, rfl⟩, hVa⟩ := hVt
    have hwsm : q_wsm a = Cond.code (q_y a) (q_bytes a) (q_mr a).2.2.2.1 none :: q_ALL := by unfold q_wsm q_cw; rw [if_pos n3, n4]; rfl
    have hmi : Cond.instanceMethod (q_y a) ∈ q_mw a := by
      unfold q_mw q_mw0
      rw [if_neg (by rw [n2]; exact Bool.noConfusion), if_pos n1]
      exact List.mem_append_left _ (List.mem_append_left _ List.mem_cons_self)
    rw [e3] at hM hPcU hstr hlr
    have hst2 : str = As.reverse ++ .ref ad :: str.drop na := by rw [List.reverse_cons, List.append_assoc] at hstr; exact hstr
    have hM2 := Met.of_vx hM (hnotinl (fun _ h => nomatch h))
    have hb2 : bb = 0 ∨ bb = 1 := by
      have : bb < 2 := of_decide_eq_true hc
      omega
    rcases hb2 with h0 | h0
    · exact key (vx_Run.of_va (va_runI (As := As) hS0 hM2 (cwI (na - 1) hts (q_goodIn (q_wsm_in ha)) hwsm rfl rfl (by rw [hcl]; exact hts _ hini') (hts _ ((hlks hlk).1 h0)) (hts _ (hin hmi rfl)) (y5 n1) ⟨y3.1, y3.2, by rw [y4, n2]; rfl⟩ hrm) ⟨q_blind, hPcU⟩ rfl (by rw [← hlr]; rfl) hl'.1 hst2 (lv_room hsumr) hd hroom))
    · exact key (vx_Run.of_va (va_runIN (As := As) hS0 hM2 ⟨va_cnB (na - 1) hts (q_goodIn (q_wsm_in ha)) hwsm rfl rfl ((hlks hlk).2 h0) (by rw [hcl]; exact hts _ hini') ⟨y3.1, y3.2, by rw [y4, n2]; rfl⟩ hrm, y5 n1, hts _ (hin hmi rfl)⟩ ⟨q_blind, hPcU⟩ rfl (by rw [← hlr]; rfl) hl'.1 hst2 (lv_room hsumr) hd hroom))
  | invokestatic cp =>
    obtain ⟨rfl, -, hlk⟩ := hk
    have hb2 : bb = 0 ∨ bb = 1 := by
      have : bb < 2 := of_decide_eq_true hc
      omega
    have n1 : (q_mr a).2.1 = true := by
      rcases hb2 with h0 | h0
      · subst h0; exact hkn
      · subst h0
        have h9 : ((q_mr a).2.1 && (q_hs a).isEmpty) = true := hkn
        rw [Bool.and_eq_true] at h9; exact h9.1
    have hms2 : Cond.static (q_y a) ∈ q_mw a := by
      unfold q_mw q_mw0
      rw [if_pos n1]
      exact List.mem_append_left _ (List.mem_append_left _ List.mem_cons_self)
    have hT : bb = 0 → GoodIn q_ALL (va_wsS (q_R own) cp (q_y a) (q_wsm a)) := fun h0 => q_goodIn (fun w hw => by
      unfold va_wsS at hw
      rcases List.mem_append.mp hw with hw | hw
      · simp only [List.mem_cons, List.not_mem_nil, or_false] at hw
        rcases hw with rfl | rfl | rfl
        · exact (hlks hlk).1 h0
        · exact hin hms2 rfl
        · rw [hcl]; exact hini'
      · exact q_wsm_in ha w hw)
    by_cases hemp : (q_hs a).isEmpty = true
    · have hwsm : q_wsm a = Cond.code (q_y a) (q_bytes a) (q_mr a).2.2.2.1 (q_rty (q_mr a).2.2.2.2.1) :: q_ALL := by unfold q_wsm q_cw; rw [if_pos hemp]
      rcases hb2 with h0 | h0
      · exact key (vx_runS hS0 hM (va_cwS na hts (hT h0) hwsm rfl rfl ⟨y3.1, y3.2, by rw [y4, n1]; rfl⟩ hrm) ⟨q_blind, hPcU⟩ rfl hlr hl'.1 hstr (lv_room hsumr) hd hroom)
      · exact key (vx_Run.of_va (va_runSN hS0 (Met.of_vx hM (hnotinl (fun _ h => nomatch h))) ⟨va_cnB na hts (q_goodIn (q_wsm_in ha)) hwsm rfl rfl ((hlks hlk).2 h0) (by rw [hcl]; exact hts _ hini') ⟨y3.1, y3.2, by rw [y4, n1]; rfl⟩ hrm, hts _ (hin hms2 rfl), trivial⟩ ⟨q_blind, hPcU⟩ rfl hlr hl'.1 hstr (lv_room hsumr) hd hroom))
    · have h0 : bb = 0 := by
        rcases hb2 with h0 | h0
        · exact h0
        · subst h0
          have h9 : ((q_mr a).2.1 && (q_hs a).isEmpty) = true := hkn
          rw [Bool.and_eq_true] at h9; exact absurd h9.2 hemp
      have hwsm : q_wsm a = Cond.codeWith (q_y a) (q_bytes a) (q_mr a).2.2.2.1 (q_rty (q_mr a).2.2.2.2.1) (q_hh a) :: q_ALL := by unfold q_wsm q_cw; rw [if_neg hemp]; rfl
      exact key (vx_runSX (hh := q_hh a) hS0 hM (vx_cwSW na hts (hT h0) hwsm rfl rfl ⟨y3.1, y3.2, by rw [y4, n1]; rfl⟩ hrm) ⟨q_blind, hPcU⟩ rfl hlr hl'.1 hstr (lv_room hsumr) hd hroom)
  | _ => cases hc
end QRUN
