/-! catching, and the script -/
def m_F {α : Type} : m_M α := fun _ => none
section QEC
variable {sc : Option (Nat × (Nat → Int32))} {y pc : Nat} {L : List (Nat × Value)} {st : List Value} {h h2 : q_H} {o : q_O} {α : Type} {z : α × q_H}
theorem em_callC {cp a b : Nat} {β : Type} {m : m_M (β ⊕ Nat)} {v : β → Option Value} {st' : List Value} {f : β → m_M α} {g : Nat → m_M α} (hc : q_code y pc = some (.invokevirtual cp, 3, a, b)) (hb : b < 2) (hok : q_cok (q_mr a) st h = true) (hd : st.drop (q_mr a).2.2.2.2.2.1 = st') (hcl : ∀ x : (β ⊕ Nat) × q_H, m h = some x → q_Cl a (st.take (q_mr a).2.2.2.2.2.1).reverse h (q_oX v x.1) x.2) (hf : m_T m f g h = some z) (kk : ∀ u h1, f u h1 = some z → q_Ev sc y (pc + 3) L ((v u).toList ++ st') h1 o h2) (kE : ∀ E h1, g E h1 = some z → E < 3 ∧ ∃ k nx, q_hf (q_hs y) pc E = some (k, nx) ∧ q_Ev sc y nx (L.filter (fun q => !(q.1 == k))) [] h1 o h2) : q_Ev sc y pc L st h o h2 := by
  rcases m_T_some hf with ⟨u, h1, e, hf⟩ | ⟨E, h1, e, hf⟩
  · subst hd
    exact ev_call hc rfl (decide_eq_true hb) hok (hcl _ e) (kk _ _ hf)
  · obtain ⟨hE, k, nx, hh, hq⟩ := kE E h1 hf
    exact ev_callC hc hb hok (hcl _ e) hE hh hq
theorem em_sald {a b Ln : Nat} {xs : Nat → Int32} {i : Int32} {f : Unit → m_M α} (hc : q_code y pc = some (.iaload, 1, a, b)) (hb : b < 1000) (hf : m_B (m_G (q_ins i Ln = true)) f h = some z) (kk : f () h = some z → q_Ev (some (Ln, xs)) y (pc + 1) L (.int (xs i.toNatClampNeg) :: st) h o h2) : q_Ev (some (Ln, xs)) y pc L (.int i :: .ref q_SC :: st) h o h2 := by
  obtain ⟨g, hf⟩ := m_G_some hf
  exact ev_sald hc hb g (kk hf)
end QEC
