/-! contracts of the methods by the pure machine; calls -/
def q_Vo (am : Nat → Option Nat) (v w : Option Value) : Prop := match v with
  | none => w = none
  | some x => ∃ y, w = some y ∧ q_V am x y
def q_World (D : va_G) (b : Option Nat) (A : Nat → Prop) (ws0 : va_W) (h : q_H) (v : Option Value) (w : Option Value) (t : State) : Prop :=
  ∃ (tys : List (ClassId × FieldType)) (ws : va_W), q_Vo (q_am b ws) v w ∧ q_Wd b tys h ws ∧ va_P D q_cl ws t.heap ∧ va_K D q_cl tys t ∧ va_D A ws ∧ q_Le (q_am b ws0) (q_am b ws)
/-- how a method ends, as the pure machine says -/
def q_Qc (D : va_G) (b : Option Nat) (A : Nat → Prop) (ws0 : va_W) (h : q_H) (o : q_O) : Array Value → State → Outcome → State → Prop := fun _ st oc t => match o with
  | .inl v => (∃ w, oc = .returned w ∧ q_World D b A ws0 h v w t) ∧ va_F A st t
  | .inr _ => False
def q_XC (D : va_G) (b : Option Nat) (A : Nat → Prop) (ws0 : va_W) (h : q_H) (o : q_O) : String → State → State → Prop := fun X st t => match o with
  | .inl _ => False
  | .inr E => X = q_EN E ∧ q_World D b A ws0 h none none t ∧ va_F A st t
/-- what every method is given besides its world: two statics, the texts, which exceptions are none of the others -/
def q_X0 (A : Nat → Prop) (U : State) (H : Heap) : Prop :=
  vx_Zq Bundle.tN "UNASSIGNED_STACK" Bundle.steD A U H ∧ vx_Zq Bundle.tN "SUPPRESSED_SENTINEL" Bundle.listD A U H ∧ (∀ r ∈ q_strs, ∃ sa, vk_R "SmithyBench" r.1 r.2 sa U) ∧ va_AO "SmithyBench$Program" U ∧ va_AO "SmithyBench$Body" U ∧ (∀ E E', E < 3 → E' < 3 → E ≠ E' → va_Nc (q_EN E) (q_EN E') U) ∧ (∀ w ∈ lw_tbl, q_nk w = true → va_Nw w U)
theorem q_nkw {s U : State} (hW : s.WarmedH U.vm) {w : Cond} (hk : q_nk w = true) (h : va_Nw w s) : va_Nw w U := by
  cases w with
  | castable a b => exact va_Nw.warmC hW h
  | declares x => exact va_Nw.warmD hW h
  | methodLinkNest a b c d => exact va_Nw.warmM hW h
  | _ => cases hk
theorem q_nkT {w : Cond} (hk : q_nk w = true) : w.onTables = true := by
  cases w with
  | castable a b => rfl
  | declares x => rfl
  | methodLinkNest a b c d => rfl
  | _ => cases hk
theorem q_X0.go {A A' : Nat → Prop} {s U : State} {H0 H : Heap} (h : q_X0 A s H0) (hS : ∀ q : Nat, q < H0.size → ¬ A q → H[q]? = H0[q]?) (hA : ∀ q, A' q → A q) (hW : s.WarmedH U.vm) : q_X0 A' U H := by
  obtain ⟨h1, h2, h3, h4, h5, h6, h7⟩ := h
  refine ⟨vx_Zq.moved hW.alike ((h1.kept hS).narrow hA), vx_Zq.moved hW.alike ((h2.kept hS).narrow hA), fun r hr => ?_, h4.moved hW.alike, h5.moved hW.alike, fun E E' a b c => (h6 E E' a b c).moved hW.alike, fun w hw hk => q_nkw hW hk (h7 w hw hk)⟩
  obtain ⟨sa, g⟩ := h3 r hr
  exact ⟨sa, g.warm hW⟩
def q_B (D : va_G) (b : Option Nat) (tys : List (ClassId × FieldType)) (h : q_H) (ws : va_W) (sz : Nat) (U : State) : Prop :=
  U.heap.size = sz ∧ va_P D q_cl ws U.heap ∧ va_K D q_cl tys U ∧ va_D (fun _ => True) ws ∧ q_X0 (va_A ws sz) U U.heap
theorem q_blind {D : va_G} {b : Option Nat} {tys : List (ClassId × FieldType)} {h : q_H} {ws : va_W} {sz : Nat} {av : List Value} : FrameBlind (va_Pc av (q_B D b tys h ws sz)) := by
  intro a U g mk q
  obtain ⟨q0, q1, qP, qK, qD, qX⟩ := q
  exact ⟨q0, q1, qP, va_K.moved (u := U) (U := U.calling g mk a) (Vm.Alike.refl U.vm) qK, qD, qX.go (fun _ _ _ => rfl) (fun _ h => h) (State.WarmedH.refl U)⟩
def q_room (a mc ms : Nat) : Room := { frames := (q_mr a).2.2.2.2.2.2.1, cells := mc, slots := ms, locals := (q_mr a).2.2.2.2.2.2.2 }
def q_wsm (a : Nat) : List Cond := q_cw a :: q_ALL
theorem Met.of_vx {l : Launch} {y : MethodName} {ws : List Cond} {rm : Room} {Pc : Array Value → State → Prop} {Qc : Array Value → State → Outcome → State → Prop} {XC : String → State → State → Prop} {mc ms : Nat} {free : Addr → Prop} (h : vx_Met l y ws rm Pc Qc XC mc ms free) (hX : ∀ X st t, ¬ XC X st t) : Met l y ws rm Pc Qc mc ms free := by
  intro p e a1 a2 a3 s m args below a4 a5 a6 a7
  obtain ⟨n, o, b1, b2, b3, b4⟩ := h p e a1 a2 a3 s m args below a4 a5 a6 a7
  refine ⟨n, o, b1, b2, b3, ?_⟩
  rcases b4 with b4 | ⟨q, -, E, ce, L, g, -⟩
  · exact b4
  · exact absurd g (hX _ _ _)
section QCALL
variable {p : Program} {l : Launch} {e : Env} {R : Room} {s : State} {m : MethodId} {args : Array Value} {below : List Frame} {meth : Method} {c : Code} {Q : State → Prop}
variable {D : va_G} {b : Option Nat} {A : Nat → Prop} {ws0 : va_W} {nL k0 j0 : Nat} {sc : Option (Nat × (Nat → Int32))} {own : Nat} {ini : Bool} {cc : ByteArray}
theorem vx_Run.of_va {H : Heap} {locs : List Loc} {cells slots mc ms : Nat} {g : JFrame} {rest : List Value} {Qa : State → Outcome → State → Prop} {XC : String → State → State → Prop} {free : Addr → Prop} (h : va_Run p l e R s m args below meth c H locs cells slots mc ms g rest Qa free) : vx_Run p l e R s m args below meth c H locs cells slots mc ms g rest Qa XC free := fun T hT X => Or.inl (h T hT X)
/-- behind a call -/
theorem q_after {pc mc ms : Nat} {lv : List (Nat × Value)} {rest restR : List Value} {h h3 : q_H} {o : q_O} {H : Heap} {locs : List Loc} {ls : Array Slot} {str : List Value} {cells slots : Nat} {tys : List (ClassId × FieldType)} {ws : va_W} {lvr : List (Nat × Value)} {aa : Array Value}
    (hr : vx_Run p l e R s m args below meth c H locs cells slots mc ms (F0 m pc ls str) restR (q_Qc D b (va_A ws H.size) ws h3 o aa) (q_XC D b (va_A ws H.size) ws h3 o) (va_A ws H.size))
    (hW : q_Wd b tys h ws) (hP : va_P D q_cl ws H) (hD : va_D A ws) (hS : va_S A s.heap H locs) (hA : ∀ q, s.heap.size ≤ q → A q) (hX : q_Le (q_am b ws0) (q_am b ws)) (hl : lv_has ls nL lvr) (hL : q_Ls (q_am b ws) lv lvr) (hV : q_Vs (q_am b ws) rest restR) (hn : ∀ q ∈ lv, q.1 < nL)
    (h1 : cells + k0 = q_cc h) (h2 : slots + j0 = q_ss h) (hmc : mc + q_cc h = q_cc h3) (hms : ms + q_ss h = q_ss h3)
    (kv : ∀ v, o = .inl v → q_Go p l e R s m args below meth c Q D b A s.heap ws0 nL k0 j0 (pc + 3, lv, v.toList ++ rest, h3))
    (kx : ∀ E, o = .inr E → ∀ (H : Heap) (locs : List Loc) (cells slots : Nat) (q9 : Addr) (ce : Cell), q_Fr D b A s s.heap ws0 nL h3 lv rest H locs ls restR → cells + k0 = q_cc h3 → slots + j0 = q_ss h3 → H[q9]? = some ce → ce.vm = .none → s.vm.findClass (q_EN E) = some ce.cls → vx_W p l e R s m args below meth c H locs cells slots Q (F0 m pc ls restR) q9) :
    W p l e R s m args below meth c H locs cells slots Q (F0 m pc ls str) := by
  have hFc : ∀ q, va_A ws H.size q → A q := by
    intro q h
    rcases h with ⟨k, e, h⟩ | h
    · exact hD.2 k (q, e) h
    · exact hA q (Nat.le_trans hS.1 h)
  intro T hT X
  cases o with
  | inl v =>
    rcases hr T hT X with ⟨vR, st₀, t, T', L, h0, X', hL', e1, e2, ⟨⟨w, hw, tys', ws', hvv, hW', hP', hK', hD', hX'⟩, hF⟩, st⟩ | ⟨q, st₀, t, T', L, E, ce, h0, X', hL', e1, e2, hf, -⟩
    · cases hw
      obtain ⟨k1, k2, k3⟩ := vx_keep h0 e1 hS (fun q _ h => hFc q h) (fun q h => hFc q h) hL' hF
      have hvm : s.vm.Alike t.vm := by rw [← e2]; exact X'.warmed.alike
      have hVV : q_Vs (q_am b ws') (v.toList ++ rest) (vR.toList ++ restR) := by
        refine q_Vs.app ?_ (hV.mono hX')
        cases v with
        | none => cases hvv; rfl
        | some x => obtain ⟨y, rfl, hy⟩ := hvv; exact ⟨y, [], rfl, hy, rfl⟩
      obtain ⟨t2, a1, b1⟩ := kv v rfl T'.heap (locs ++ L) ls (vR.toList ++ restR) (cells + mc) (slots + ms) ⟨tys', ws', lvr, hW', by rw [e1]; exact hP', va_K.moved hvm.symm hK', hD'.weaken (fun _ _ _ h => hFc _ h), k3, fun i a hi => hX' _ _ (hX i a hi), hl, hL.mono hX', hVV, hn⟩ (by show cells + mc + k0 = q_cc h3; omega) (by show slots + ms + j0 = q_ss h3; omega) T' rfl X'
      exact ⟨t2, st t2 a1, b1⟩
    · exact hf.elim
  | inr E =>
    rcases hr T hT X with ⟨vR, st₀, t, T', L, h0, X', hL', e1, e2, hf, st⟩ | ⟨q, st₀, t, T', L, E', ce, h0, X', hL', e1, e2, ⟨rfl, ⟨tys', ws', -, hW', hP', hK', hD', hX'⟩, hF⟩, hce, hcv, hcl, st⟩
    · exact hf.elim
    · obtain ⟨k1, k2, k3⟩ := vx_keep h0 e1 hS (fun q _ h => hFc q h) (fun q h => hFc q h) hL' hF
      have hvm : s.vm.Alike t.vm := by rw [← e2]; exact X'.warmed.alike
      obtain ⟨t2, a1, b1⟩ := kx E rfl T'.heap (locs ++ L) (cells + mc) (slots + ms) q ce ⟨tys', ws', lvr, hW', by rw [e1]; exact hP', va_K.moved hvm.symm hK', hD'.weaken (fun _ _ _ h => hFc _ h), k3, fun i a hi => hX' _ _ (hX i a hi), hl, hL.mono hX', hV.mono hX', hn⟩ (by omega) (by omega) (by rw [e1]; exact hce) hcv hcl T' rfl X'
      exact ⟨t2, st.trans a1, b1⟩
end QCALL
