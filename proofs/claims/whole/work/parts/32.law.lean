/-! THE CLAIM OUT OF THE PURE MACHINE -/
/-! THE CLAIM OUT OF ONE WALK OF THE LAW'S BODY. Your part is whole_start (and what it stands on); all else here is the same for every law, but numbers. -/
def R_law : String := "SmithyBenchLaw"
def lw_P (b : Addr) (xs : List Int32) (args : Array Value) (s : State) : Prop := args = #[.ref b] ∧ s.IntsAt b xs ∧ xs.length ≤ 3584 ∧ (Jvm.Cond.and given_1 narrow_1).before args s = true
def lw_Q (_ : Array Value) (s : State) (o : Outcome) (t : State) : Prop := o = .returned (some (.int 1)) ∧ Framed s o t [] 601024 7293034
def lw_Z (below : List Frame) (a : Array Value) (s : State) : State → Prop := fun t => ∃ o, t.status = .running ∧ Ended t below o ∧ lw_Q a s o t
/-- the law's own end, with 1 on the stack, nothing written that was there before, its room as the claim has it -/
theorem lw_ret {p : Program} {l : Launch} {e : Env} {s : State} {m : MethodId} {below : List Frame} {meth : Method} {c : Code} {b : Nat} (hx : p.tables.exec = Jvm.exec) (hb : c.code = code) (hr : meth.sig.returnType = ret) (hlocks : meth.locks = false) {pc : Nat} {H : Heap} {ls : Array Slot} (hdg : decode code pc = .ok (.ireturn, 1)) : W p l e room_1 s m #[Value.ref b] below meth c H [] 601024 7293034 (lw_Z below #[Value.ref b] s) (F0 m pc ls [.int 1]) := by
  intro T hT X
  obtain ⟨fs, hret, hrun, hended, hW, hframe⟩ := X.leave (v := some (.int 1)) (hlocks := hlocks) (fun h => by rw [hr] at h; cases h)
  have hmeth' : T.vm.method? m = some meth := X.method'
  refine ⟨T.setFrames fs, ?_, .returned (some (.int 1)), hrun, hended, rfl, ⟨_, rfl⟩, hW, hframe⟩
  jvm_step X.here [X.here.top, hx, hb, hdg, hmeth', hr, ret, narrow_b1]
  (try refine ⟨rfl, ?_⟩); (try refine ⟨rfl, ?_⟩)
  first | (intro acts; rw [hret _ acts rfl rfl rfl]) | rw [hret _ _ rfl rfl rfl]
  exact Steps.refl _
/-- what holds at the law's entry: the machine, the code, the tables' words (any of lw_tbl by 'hts w (by decide +kernel)'), the script of L ints xs at the cell b, what the Statement gives of the start (any of its parts by flat_of_before) -/
def lw_At (p : Program) (s : State) (m : MethodId) (meth : Method) (c : Code) (b L : Nat) (xs : Nat → Int32) : Prop :=
  p.tables.exec = Jvm.exec ∧ c.code = code ∧ meth.sig.returnType = ret ∧ c.maxLocals = 7 ∧ s.vm.findClass R_law = some m.cls ∧ (∀ w ∈ lw_tbl, w.before #[Value.ref b] s = true) ∧ va_X b L xs s s.heap ∧ b < s.heap.size ∧ meth.locks = false ∧ (Jvm.Cond.and given_1 narrow_1).before #[Value.ref b] s = true

theorem q_law_mem {i k : Nat} {e : q_I} (hi : qc_340[i]? = some e) (h1 : k ≤ i) (h2 : i < k + 30) : e ∈ (qc_340.drop k).take 30 := by
  refine List.mem_of_getElem? (i := i - k) ?_
  rw [List.getElem?_take_of_lt (by omega), List.getElem?_drop, show k + (i - k) = i by omega]
  exact hi
theorem q_law_dec : ∀ e ∈ qc_340, decode code e.1 = .ok (e.2.1, e.2.2.1) := by
  intro e he
  obtain ⟨i, hi⟩ := List.getElem?_of_mem he
  have hl : i < 1468 := by
    have h9 : qc_340.length = 1468 := by decide +kernel
    rw [← h9]; exact (List.getElem?_eq_some_iff.mp hi).1
  have key : ∀ k : Nat, q_dok code ((qc_340.drop k).take 30) = true → k ≤ i → i < k + 30 → decode code e.1 = .ok (e.2.1, e.2.2.1) := fun k h h1 h2 => by
    unfold q_dok at h
    rw [List.all_eq_true] at h
    exact of_decide_eq_true (h e (q_law_mem hi h1 h2))
  rcases Nat.lt_or_ge i 30 with h0 | h0
  · exact key 0 qdl_0 (by omega) (by omega)
  rcases Nat.lt_or_ge i 60 with h30 | h30
  · exact key 30 qdl_30 (by omega) (by omega)
  rcases Nat.lt_or_ge i 90 with h60 | h60
  · exact key 60 qdl_60 (by omega) (by omega)
  rcases Nat.lt_or_ge i 120 with h90 | h90
  · exact key 90 qdl_90 (by omega) (by omega)
  rcases Nat.lt_or_ge i 150 with h120 | h120
  · exact key 120 qdl_120 (by omega) (by omega)
  rcases Nat.lt_or_ge i 180 with h150 | h150
  · exact key 150 qdl_150 (by omega) (by omega)
  rcases Nat.lt_or_ge i 210 with h180 | h180
  · exact key 180 qdl_180 (by omega) (by omega)
  rcases Nat.lt_or_ge i 240 with h210 | h210
  · exact key 210 qdl_210 (by omega) (by omega)
  rcases Nat.lt_or_ge i 270 with h240 | h240
  · exact key 240 qdl_240 (by omega) (by omega)
  rcases Nat.lt_or_ge i 300 with h270 | h270
  · exact key 270 qdl_270 (by omega) (by omega)
  rcases Nat.lt_or_ge i 330 with h300 | h300
  · exact key 300 qdl_300 (by omega) (by omega)
  rcases Nat.lt_or_ge i 360 with h330 | h330
  · exact key 330 qdl_330 (by omega) (by omega)
  rcases Nat.lt_or_ge i 390 with h360 | h360
  · exact key 360 qdl_360 (by omega) (by omega)
  rcases Nat.lt_or_ge i 420 with h390 | h390
  · exact key 390 qdl_390 (by omega) (by omega)
  rcases Nat.lt_or_ge i 450 with h420 | h420
  · exact key 420 qdl_420 (by omega) (by omega)
  rcases Nat.lt_or_ge i 480 with h450 | h450
  · exact key 450 qdl_450 (by omega) (by omega)
  rcases Nat.lt_or_ge i 510 with h480 | h480
  · exact key 480 qdl_480 (by omega) (by omega)
  rcases Nat.lt_or_ge i 540 with h510 | h510
  · exact key 510 qdl_510 (by omega) (by omega)
  rcases Nat.lt_or_ge i 570 with h540 | h540
  · exact key 540 qdl_540 (by omega) (by omega)
  rcases Nat.lt_or_ge i 600 with h570 | h570
  · exact key 570 qdl_570 (by omega) (by omega)
  rcases Nat.lt_or_ge i 630 with h600 | h600
  · exact key 600 qdl_600 (by omega) (by omega)
  rcases Nat.lt_or_ge i 660 with h630 | h630
  · exact key 630 qdl_630 (by omega) (by omega)
  rcases Nat.lt_or_ge i 690 with h660 | h660
  · exact key 660 qdl_660 (by omega) (by omega)
  rcases Nat.lt_or_ge i 720 with h690 | h690
  · exact key 690 qdl_690 (by omega) (by omega)
  rcases Nat.lt_or_ge i 750 with h720 | h720
  · exact key 720 qdl_720 (by omega) (by omega)
  rcases Nat.lt_or_ge i 780 with h750 | h750
  · exact key 750 qdl_750 (by omega) (by omega)
  rcases Nat.lt_or_ge i 810 with h780 | h780
  · exact key 780 qdl_780 (by omega) (by omega)
  rcases Nat.lt_or_ge i 840 with h810 | h810
  · exact key 810 qdl_810 (by omega) (by omega)
  rcases Nat.lt_or_ge i 870 with h840 | h840
  · exact key 840 qdl_840 (by omega) (by omega)
  rcases Nat.lt_or_ge i 900 with h870 | h870
  · exact key 870 qdl_870 (by omega) (by omega)
  rcases Nat.lt_or_ge i 930 with h900 | h900
  · exact key 900 qdl_900 (by omega) (by omega)
  rcases Nat.lt_or_ge i 960 with h930 | h930
  · exact key 930 qdl_930 (by omega) (by omega)
  rcases Nat.lt_or_ge i 990 with h960 | h960
  · exact key 960 qdl_960 (by omega) (by omega)
  rcases Nat.lt_or_ge i 1020 with h990 | h990
  · exact key 990 qdl_990 (by omega) (by omega)
  rcases Nat.lt_or_ge i 1050 with h1020 | h1020
  · exact key 1020 qdl_1020 (by omega) (by omega)
  rcases Nat.lt_or_ge i 1080 with h1050 | h1050
  · exact key 1050 qdl_1050 (by omega) (by omega)
  rcases Nat.lt_or_ge i 1110 with h1080 | h1080
  · exact key 1080 qdl_1080 (by omega) (by omega)
  rcases Nat.lt_or_ge i 1140 with h1110 | h1110
  · exact key 1110 qdl_1110 (by omega) (by omega)
  rcases Nat.lt_or_ge i 1170 with h1140 | h1140
  · exact key 1140 qdl_1140 (by omega) (by omega)
  rcases Nat.lt_or_ge i 1200 with h1170 | h1170
  · exact key 1170 qdl_1170 (by omega) (by omega)
  rcases Nat.lt_or_ge i 1230 with h1200 | h1200
  · exact key 1200 qdl_1200 (by omega) (by omega)
  rcases Nat.lt_or_ge i 1260 with h1230 | h1230
  · exact key 1230 qdl_1230 (by omega) (by omega)
  rcases Nat.lt_or_ge i 1290 with h1260 | h1260
  · exact key 1260 qdl_1260 (by omega) (by omega)
  rcases Nat.lt_or_ge i 1320 with h1290 | h1290
  · exact key 1290 qdl_1290 (by omega) (by omega)
  rcases Nat.lt_or_ge i 1350 with h1320 | h1320
  · exact key 1320 qdl_1320 (by omega) (by omega)
  rcases Nat.lt_or_ge i 1380 with h1350 | h1350
  · exact key 1350 qdl_1350 (by omega) (by omega)
  rcases Nat.lt_or_ge i 1410 with h1380 | h1380
  · exact key 1380 qdl_1380 (by omega) (by omega)
  rcases Nat.lt_or_ge i 1440 with h1410 | h1410
  · exact key 1410 qdl_1410 (by omega) (by omega)
  rcases Nat.lt_or_ge i 1470 with h1440 | h1440
  · exact key 1440 qdl_1440 (by omega) (by omega)
  omega
theorem q_Cok_law : q_Cok 340 code := q_Cok_of (by omega) q_law_dec
def q_h0 : q_H := (0, fun _ => 99, fun _ => 0, fun _ _ => 0, fun _ _ => none, fun _ _ => 0, 0, 0)
/-- WHAT IS OWED OF THE PURE MACHINE: on every script the law ends with 1, and the room suffices -/
def q_Owed : Prop := ∀ (L : Nat) (xs : Nat → Int32), L ≤ 3584 → ∃ (n : Nat) (h2 : q_H), q_ex (some (L, xs)) n 340 0 [(0, .ref q_SC)] [] q_h0 = some (.inl (some (.int 1)), h2) ∧ q_cc h2 ≤ 601024 ∧ q_ss h2 ≤ 7293034
abbrev q_NW : Jvm.Cond := Jvm.Cond.and given_1 narrow_1
theorem q_nwU : Cond.isRef (.static Bundle.tN "UNASSIGNED_STACK" Bundle.steD) ∈ flatC q_NW := List.mem_of_getElem? (i := 4) (by decide +kernel)
theorem q_nwS : Cond.isRef (.static Bundle.tN "SUPPRESSED_SENTINEL" Bundle.listD) ∈ flatC q_NW := List.mem_of_getElem? (i := 5) (by decide +kernel)
theorem q_twU : Cond.laysStatic Bundle.tN "UNASSIGNED_STACK" Bundle.steD ∈ lw_tbl := List.mem_of_getElem? (i := 711) (by decide +kernel)
theorem q_twS : Cond.laysStatic Bundle.tN "SUPPRESSED_SENTINEL" Bundle.listD ∈ lw_tbl := List.mem_of_getElem? (i := 713) (by decide +kernel)
theorem q_twI : Cond.initialized Bundle.tN ∈ lw_tbl := List.mem_of_getElem? (i := 148) (by decide +kernel)
theorem q_nc01 : Cond.not (.castable (q_EN 0) (q_EN 1)) ∈ flatC q_NW := List.mem_of_getElem? (i := 34) (by decide +kernel)
theorem q_nc02 : Cond.not (.castable (q_EN 0) (q_EN 2)) ∈ flatC q_NW := List.mem_of_getElem? (i := 49) (by decide +kernel)
theorem q_nc10 : Cond.not (.castable (q_EN 1) (q_EN 0)) ∈ flatC q_NW := List.mem_of_getElem? (i := 19) (by decide +kernel)
theorem q_nc12 : Cond.not (.castable (q_EN 1) (q_EN 2)) ∈ flatC q_NW := List.mem_of_getElem? (i := 50) (by decide +kernel)
theorem q_nc20 : Cond.not (.castable (q_EN 2) (q_EN 0)) ∈ flatC q_NW := List.mem_of_getElem? (i := 20) (by decide +kernel)
theorem q_nc21 : Cond.not (.castable (q_EN 2) (q_EN 1)) ∈ flatC q_NW := List.mem_of_getElem? (i := 35) (by decide +kernel)
theorem q_strT : ∀ r ∈ q_strs, Cond.stringRef "SmithyBench" r.1 r.2 ∈ lw_tbl := fun r hr => q_mem_of (ws := q_strs.map fun r => Cond.stringRef "SmithyBench" r.1 r.2) [725, 784, 819, 851, 867, 875, 897, 921, 943, 944, 945, 946, 951, 952, 985, 1024, 1029, 1079, 1134, 1426, 1436, 1444, 1452, 1454, 1455] (by decide +kernel) (List.mem_map.mpr ⟨r, hr, rfl⟩)
theorem q_mem_fl {ws : List Cond} (ps : List Nat) (h : ps.map (fun i => (flatC q_NW)[i]?) = ws.map some) {w : Cond} (hw : w ∈ ws) : w ∈ flatC q_NW := by
  have h1 : some w ∈ ws.map some := List.mem_map.mpr ⟨w, hw, rfl⟩
  rw [← h] at h1
  obtain ⟨i, -, hi⟩ := List.mem_map.mp h1
  exact List.mem_of_getElem? hi
theorem q_strN : ∀ r ∈ q_strs, Cond.exactly (.string "SmithyBench" r.1) "java/lang/String" ∈ flatC q_NW := fun r hr => q_mem_fl (ws := q_strs.map fun r => Cond.exactly (.string "SmithyBench" r.1) "java/lang/String") [85, 113, 130, 148, 192, 213, 234, 269, 318, 347, 398, 441, 483, 526, 569, 611, 644, 688, 722, 757, 803, 855, 906, 957, 1031] (by decide +kernel) (List.mem_map.mpr ⟨r, hr, rfl⟩)
theorem q_lawK {s : State} {b : Nat} (hts : ∀ w ∈ lw_tbl, w.before #[Value.ref b] s = true) : ∃ D : va_G, va_K D q_cl [] s := by
  have h : ∀ c, ∃ x : ClassId × (Nat → Nat), c < 13 → u_Kn s (q_R c) (q_T c) (q_NF c) x.1 x.2 := by
    intro c
    by_cases hc : c < 13
    · obtain ⟨cC, iS, hK⟩ := u_known (C := q_R c) (T := q_T c) (N := q_NF c) hts (q_wsin hc) (hts _ (q_instI hc))
      exact ⟨(cC, iS), fun _ => hK⟩
    · exact ⟨(0, fun _ => 0), fun h => absurd h hc⟩
  refine ⟨(fun c => (Classical.choose (h c)).1, fun c => (Classical.choose (h c)).2), fun c q hq => ?_, fun k q hq => by cases hq⟩
  have hc : c < 13 := (List.getElem?_eq_some_iff.mp hq).1
  rw [q_clat hc] at hq
  cases hq
  exact Classical.choose_spec (h c) hc
theorem q_lawX {s : State} {b : Nat} (hts : ∀ w ∈ lw_tbl, w.before #[Value.ref b] s = true) (hgv : q_NW.before #[Value.ref b] s = true) : q_X0 (fun q => s.heap.size ≤ q) s s.heap := by
  have hs := flat_of_before _ hgv
  have hA : ∀ a : Nat, a < s.heap.size → ¬ (fun q => s.heap.size ≤ q) a := fun a h => Nat.not_le.mpr h
  refine ⟨vx_Zqof (hts _ q_twU) (hts _ q_twI) (hs _ q_nwU) hA, vx_Zqof (hts _ q_twS) (hts _ q_twI) (hs _ q_nwS) hA, fun r hr => ?_, va_AO.of (hts _ q_aoP), va_AO.of (hts _ q_aoB), fun E E' h1 h2 h3 => ?_, fun w hw hk => va_Nw.of (q_nkT hk) (hts w hw)⟩
  · obtain ⟨a, -, -, -, ha, -⟩ := Cond.exactly_spec (hs _ (q_strN r hr))
    exact ⟨a, vk_R.of (hts _ (q_strT r hr)) ha⟩
  · rcases (show E = 0 ∨ E = 1 ∨ E = 2 by omega) with rfl | rfl | rfl <;> rcases (show E' = 0 ∨ E' = 1 ∨ E' = 2 by omega) with rfl | rfl | rfl
    · exact absurd rfl h3
    · exact va_Nc.of (hs _ q_nc01)
    · exact va_Nc.of (hs _ q_nc02)
    · exact va_Nc.of (hs _ q_nc10)
    · exact absurd rfl h3
    · exact va_Nc.of (hs _ q_nc12)
    · exact va_Nc.of (hs _ q_nc20)
    · exact va_Nc.of (hs _ q_nc21)
    · exact absurd rfl h3
/-- the walk of the law's body, out of what is owed of the pure machine -/
theorem whole_start_open (hO : q_Owed) {p : Program} {e : Env} {s : State} {m : MethodId} {below : List Frame} {meth : Method} {c : Code} (l : Launch) (hflags : l.flags = flags0) {b L : Nat} {xs : Nat → Int32} (hL : L ≤ 3584) (C0 : lw_At p s m meth c b L xs) : W p l e room_1 s m #[Value.ref b] below meth c s.heap [] 0 0 (lw_Z below #[Value.ref b] s) (entryFrame m ([Value.ref b] : List Value).toArray 7) := by
  obtain ⟨hx, hb, hr, hml, hown, hts, hX, hbl, hlocks, hgv⟩ := id C0
  obtain ⟨n, h2, he, hcc, hss⟩ := hO L xs hL
  obtain ⟨D, hK⟩ := q_lawK hts
  have hX0 := q_lawX hts hgv
  have hst : l.stackTraces = false := by
    unfold Launch.stackTraces
    rw [hflags]
    decide +kernel
  have hmr : q_mr 340 = ((13, true, false, 7, 2, 1, 11, 329) : q_Mr) := rfl
  have hhs : q_hs 340 = [] := by decide +kernel
  have E : q_Env p s m #[Value.ref b] meth c room_1 s.heap (fun q => s.heap.size ≤ q) (some b) (some (L, xs)) (q_mr 340).1 (q_mr 340).2.2.1 (q_mr 340).2.2.2.1 code := by
    rw [hmr]
    exact ⟨hx, hb, hml, hown, fun w hw => hts w (List.mem_filter.mp hw).1, fun q h => h, by decide, by decide, (fun h => by cases h), (fun L' xs' h => by cases h; exact ⟨b, rfl, hX, hbl, Nat.not_le.mpr hbl⟩), hX0.2.2.2.1, hX0.2.2.2.2.1⟩
  have hl := lv_entry ([.ref b]) (n := 7) (Nat.le_of_ble_eq_true rfl)
  rw [lg_entry_eq]
  generalize (lg_sl ([.ref b]) ++ List.replicate (7 - (lg_sl ([.ref b])).length) Slot.unset).toArray = ls at hl ⊢
  have go := q_run n (some (L, xs)) 340 0 [(0, .ref q_SC)] [] q_h0 (.inl (some (.int 1))) h2 he p l e room_1 s m #[Value.ref b] below meth c (lw_Z below #[Value.ref b] s) D (some b) (fun q => s.heap.size ≤ q) [] 0 0 code E hX0 hst (by rw [hmr]; decide) (by rw [hmr]; decide) hlocks (fun h => by
      rcases h with ⟨E, h⟩ | h
      · cases h
      · exact absurd hhs h) q_Cok_law (by omega) hcc hss
    (fun v hv pc i len a bb lv st hcode hret => by
      cases hv
      intro H locs ls str cells slots hF h1 h3
      obtain ⟨tys', ws', lvr, hW', hP', hK', hD', hS', hX', hl', hL', hV', hn'⟩ := hF
      obtain ⟨hdg, hlk, -⟩ := q_Cok_law pc i len a bb hcode
      rcases q_ret_inv hret with ⟨rfl, rfl, h9, h8⟩ | ⟨rfl, x, rfl, h9, h8⟩ | ⟨rfl, k, rfl, h9, h8⟩
      · cases h8
      · cases h8
        cases (show len = 1 from hlk)
        obtain ⟨_, _, rfl, rfl, hV'⟩ := hV'
        cases hV'
        have g1 : cells + 0 = q_cc h2 := h1
        have g2 : slots + 0 = q_ss h2 := h3
        exact va_forget hS'.2.2 (W.widen (k := 601024) (n := 7293034) (by omega) (by omega) (lw_ret hx hb hr hlocks hdg))
      · cases h8)
    (fun E hE => by cases hE)
  refine go s.heap [] ls [] 0 0 ⟨[], [], [(0, .ref b)], ⟨rfl, Nat.zero_le _, rfl, (fun k e h => by cases h)⟩, (fun k q h => by cases h), hK, ⟨(fun i j p q h => by cases h), (fun k q h => by cases h)⟩, va_S.rf, q_Le.rf, hl, ⟨_, _, rfl, ⟨b, by unfold q_am; rw [if_pos rfl], rfl⟩, rfl⟩, rfl, fun q hq => ?_⟩ rfl rfl
  rw [List.mem_singleton.mp hq, hmr]
  exact (by decide : (0 : Nat) < 7)
