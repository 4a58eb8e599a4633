/-! THE MAIN THEOREM: what the pure machine comes to, the machine comes to -/
theorem q_mono_st {sc : Option (Nat × (Nat → Int32))} {own : Nat} {ini : Bool} {i : Instr} {len a b pc : Nat} {lv : List (Nat × Value)} {st : List Value} {h : q_H} {pt : q_P} (hs : q_st sc own ini i len a b pc lv st h = some pt) : q_cc h ≤ q_cc pt.2.2.2 ∧ q_ss h ≤ q_ss pt.2.2.2 := by
  have harr : ∀ {kd len : Nat}, q_arr kd len pc lv st h = some pt → q_cc h ≤ q_cc pt.2.2.2 ∧ q_ss h ≤ q_ss pt.2.2.2 := fun hs => by
    obtain ⟨x, r, rfl, -, -, -, rfl⟩ := q_arr_inv hs
    exact ⟨Nat.le_succ _, Nat.le_add_right _ _⟩
  have hblt : q_blt b pc lv st h = some pt → q_cc h ≤ q_cc pt.2.2.2 ∧ q_ss h ≤ q_ss pt.2.2.2 := fun hs => by
    rcases q_blt_inv hs with ⟨-, k, r, rfl, -, rfl⟩ | ⟨-, x, y, r, rfl, -, rfl⟩ | ⟨-, x, y, r, rfl, -, rfl⟩ | ⟨-, hs⟩
    · exact ⟨Nat.le_refl _, Nat.le_refl _⟩
    · exact ⟨Nat.le_refl _, Nat.le_refl _⟩
    · exact ⟨Nat.le_refl _, Nat.le_refl _⟩
    · obtain ⟨_, _, _, _, _, _, rfl, -, rfl⟩ := q_cpy_inv hs
      exact ⟨Nat.le_refl _, Nat.le_refl _⟩
  have hbin : ∀ {f : Int32 → Int32 → Int32}, q_bin f pc lv st h = some pt → q_cc h ≤ q_cc pt.2.2.2 ∧ q_ss h ≤ q_ss pt.2.2.2 := fun hs => by
    obtain ⟨x, y, r, rfl, rfl⟩ := q_bin_inv hs
    exact ⟨Nat.le_refl _, Nat.le_refl _⟩
  have hc1 : ∀ {cnd : ClassFile.Cond} {t : Nat} {r : List Value} {x y : Int32}, q_cc h ≤ q_cc (q_c1 cnd t pc lv r h x y).2.2.2 ∧ q_ss h ≤ q_ss (q_c1 cnd t pc lv r h x y).2.2.2 := fun {cnd t r x y} => by
    have e1 : (q_c1 cnd t pc lv r h x y).2 = (lv, r, h) := by cases cnd <;> (dsimp only [q_c1]; split <;> rfl)
    rw [e1]; exact ⟨Nat.le_refl _, Nat.le_refl _⟩
  cases i with
  | iload_n n => obtain ⟨x, -, rfl⟩ := q_ld_inv hs; exact ⟨Nat.le_refl _, Nat.le_refl _⟩
  | iload n => obtain ⟨x, -, rfl⟩ := q_ld_inv hs; exact ⟨Nat.le_refl _, Nat.le_refl _⟩
  | aload_n n => obtain ⟨x, -, rfl⟩ := q_lda_inv hs; exact ⟨Nat.le_refl _, Nat.le_refl _⟩
  | aload n => obtain ⟨x, -, rfl⟩ := q_lda_inv hs; exact ⟨Nat.le_refl _, Nat.le_refl _⟩
  | istore_n n => obtain ⟨x, r, rfl, rfl⟩ := q_sto_inv hs; exact ⟨Nat.le_refl _, Nat.le_refl _⟩
  | istore n => obtain ⟨x, r, rfl, rfl⟩ := q_sto_inv hs; exact ⟨Nat.le_refl _, Nat.le_refl _⟩
  | astore_n n => obtain ⟨x, r, rfl, rfl⟩ := q_stoa_inv hs; exact ⟨Nat.le_refl _, Nat.le_refl _⟩
  | astore n => obtain ⟨x, r, rfl, rfl⟩ := q_stoa_inv hs; exact ⟨Nat.le_refl _, Nat.le_refl _⟩
  | getfield cp => obtain ⟨k, r, rfl, -, ⟨-, rfl⟩ | ⟨-, rfl⟩⟩ := q_get_inv hs <;> exact ⟨Nat.le_refl _, Nat.le_refl _⟩
  | putfield cp => obtain ⟨v, k, r, rfl, -, -, ⟨x, -, -, rfl⟩ | ⟨x, -, -, rfl⟩ | ⟨-, -, rfl⟩⟩ := q_put_inv hs <;> exact ⟨Nat.le_refl _, Nat.le_refl _⟩
  | iaload => obtain ⟨i, k, r, rfl, ⟨-, -, L, xs, -, -, rfl⟩ | ⟨-, -, -, rfl⟩⟩ := q_ald_inv hs <;> exact ⟨Nat.le_refl _, Nat.le_refl _⟩
  | baload => obtain ⟨i, k, r, rfl, ⟨-, -, L, xs, -, -, rfl⟩ | ⟨-, -, -, rfl⟩⟩ := q_ald_inv (sc := none) hs <;> exact ⟨Nat.le_refl _, Nat.le_refl _⟩
  | iastore => obtain ⟨x, i, k, r, rfl, -, -, -, rfl⟩ := q_ast_inv hs; exact ⟨Nat.le_refl _, Nat.le_refl _⟩
  | bastore => obtain ⟨x, i, k, r, rfl, -, -, -, rfl⟩ := q_ast_inv hs; exact ⟨Nat.le_refl _, Nat.le_refl _⟩
  | aaload => obtain ⟨i, k, r, rfl, -, -, rfl⟩ := q_qld_inv hs; exact ⟨Nat.le_refl _, Nat.le_refl _⟩
  | aastore => obtain ⟨v, i, k, r, rfl, -, -, rfl⟩ := q_qst_inv hs; exact ⟨Nat.le_refl _, Nat.le_refl _⟩
  | newarray t => dsimp only [q_st] at hs; split at hs <;> first | exact harr hs | cases hs
  | anewarray cp => dsimp only [q_st] at hs; split at hs <;> first | exact harr hs | cases hs
  | new cp =>
    dsimp only [q_st] at hs
    split at hs
    · cases hs; exact ⟨Nat.le_succ _, Nat.le_add_right _ _⟩
    · cases hs
  | invokespecial cp => exact hblt hs
  | invokestatic cp => exact hblt hs
  | ifCond c off => dsimp only [q_st] at hs; split at hs <;> first | (cases hs; exact hc1) | cases hs
  | if_icmp c off => dsimp only [q_st] at hs; split at hs <;> first | (cases hs; exact hc1) | cases hs
  | iadd => exact hbin hs
  | isub => exact hbin hs
  | imul => exact hbin hs
  | iand => exact hbin hs
  | ior => exact hbin hs
  | ixor => exact hbin hs
  | ishl => exact hbin hs
  | iushr => exact hbin hs
  | _ => dsimp only [q_st] at hs; (repeat' split at hs) <;> first | (cases hs; done) | (cases hs; exact ⟨Nat.le_refl _, Nat.le_refl _⟩)
theorem q_mono : ∀ (n y pc : Nat) (lv : List (Nat × Value)) (st : List Value) (h : q_H) (o : q_O) (h2 : q_H) (sc : Option (Nat × (Nat → Int32))), q_ex sc n y pc lv st h = some (o, h2) → q_cc h ≤ q_cc h2 ∧ q_ss h ≤ q_ss h2
  | 0, _, _, _, _, _, _, _, _, hs => by cases hs
  | n + 1, y, pc, lv, st, h, o, h2, sc, hs => by
    unfold q_ex at hs
    split at hs
    · cases hs
    · rename_i i len a b hcode
      split at hs
      · cases hs; exact ⟨Nat.le_refl _, Nat.le_refl _⟩
      · split at hs
        · split at hs
          · split at hs
            · rename_i v h3 he
              have ih1 := q_mono n _ _ _ _ _ _ _ _ he
              have ih2 := q_mono n _ _ _ _ _ _ _ _ hs
              exact ⟨Nat.le_trans ih1.1 ih2.1, Nat.le_trans ih1.2 ih2.2⟩
            · rename_i E h3 he
              have ih1 := q_mono n _ _ _ _ _ _ _ _ he
              split at hs
              · split at hs
                · cases hs; exact ih1
                · split at hs
                  · have ih2 := q_mono n _ _ _ _ _ _ _ _ hs
                    exact ⟨Nat.le_trans ih1.1 ih2.1, Nat.le_trans ih1.2 ih2.2⟩
                  · cases hs
              · cases hs
            · cases hs
          · cases hs
        · split at hs
          · split at hs
            · split at hs
              · cases hs; exact ⟨Nat.le_succ _, Nat.le_add_right _ _⟩
              · cases hs
            · cases hs
          · split at hs
            · rename_i pc' lv' st' h' he
              have ih1 := q_mono_st he
              have ih2 := q_mono n _ _ _ _ _ _ _ _ hs
              exact ⟨Nat.le_trans ih1.1 ih2.1, Nat.le_trans ih1.2 ih2.2⟩
            · cases hs
