/-! the rule call -/
def vOu (o : Op3) : Prop := o = (10, 0, 0) ∨ o = (8, 0, 0) ∨ o = (9, 0, 0) ∨ atO o
theorem okC_v : ∀ (c : List Op3) (d d' : Nat), okC c d d' → ∀ o, o ∈ c → vOu o
  | [], _, _, _, o, h => (List.not_mem_nil h).elim
  | x :: t, d, d', ⟨e, h1, h2, h3⟩, o, h => by
    rcases List.mem_cons.mp h with z | z
    · rw [z]
      rcases h3 with q | q | q | q
      · exact Or.inl q.1
      · exact Or.inr (Or.inl q.1)
      · exact Or.inr (Or.inr (Or.inl q.1))
      · exact Or.inr (Or.inr (Or.inr q.1))
    · exact okC_v t d e h1 o z
theorem e_dec {o : Op3} (h : vOu o) : ∃ s n, eCu o = 100000 * s + n ∧ n < 100000 ∧ s < 100 ∧ (s = 6 ↔ o.1 = 14) ∧ (s = 8 ↔ o.1 = 16) ∧ ((o.1 = 14 ∨ o.1 = 16) → n = o.2.2) := by
  rcases h with h | h | h | h
  · rw [h]; exact ⟨9, 0, by decide, by omega, by omega, by decide, by decide, by decide⟩
  · rw [h]; exact ⟨10, 0, by decide, by omega, by omega, by decide, by decide, by decide⟩
  · rw [h]; exact ⟨11, 0, by decide, by omega, by omega, by decide, by decide, by decide⟩
  · obtain ⟨w, sg, n⟩ := o
    obtain ⟨h1, h2, h3, h4⟩ := h
    dsimp only at h1 h2 h3 h4 ⊢
    by_cases c : w ≤ 13
    · obtain ⟨b, hb, hb2⟩ : ∃ b, b = (if sg = 62 then 1 else 0) ∧ b < 2 := ⟨_, rfl, by split <;> omega⟩
      refine ⟨2 * (w - 11) + b, n, ?_, h1, by omega, ⟨fun _ => by omega, fun _ => by omega⟩, ⟨fun _ => by omega, fun _ => by omega⟩, fun _ => rfl⟩
      unfold eCu
      dsimp only
      rw [if_neg (by omega), if_neg (by omega), if_neg (by omega), if_pos c, ← hb]
    · refine ⟨w - 8, n, ?_, h1, by omega, ⟨fun _ => by omega, fun _ => by omega⟩, ⟨fun _ => by omega, fun _ => by omega⟩, fun _ => rfl⟩
      unfold eCu
      dsimp only
      rw [if_neg (by omega), if_neg (by omega), if_neg (by omega), if_neg c]
theorem c_wrl {m : Mm} {nO N : Nat} {x2 : Int32} (e6 : m 261 6 = nI N) (hN : N ≤ 96) (hO : nO ≤ 8) : ∀ l : List Op3, CodC (m 262) l → (∀ o, o ∈ l → vOu o) → l.length ≤ N → (bdC nO l = true → ∀ F, f_Ru_isWrong_32 m (F + l.length) 261 (nI nO) x2 (nI 0) = some (nI 1)) ∧ (bdC nO l = false → ∀ F, f_Ru_isWrong_32 m (F + l.length) 261 (nI nO) x2 (nI 0) = f_Ru_isWrong_32 m F 261 (nI nO) x2 (nI l.length)) := by
  intro l
  induction l with
  | nil => exact fun _ _ _ => ⟨fun q => (by cases q), fun _ F => rfl⟩
  | cons o t ih =>
    intro hC hv hl
    rw [List.length_cons] at hl
    obtain ⟨i1, i2⟩ := ih hC.2 (fun o h => hv o (List.mem_cons_of_mem _ h)) (by omega)
    have sp : ∀ F, F + (o :: t).length = (F + 1) + t.length := fun F => by rw [List.length_cons]; omega
    rw [bdC]
    cases c : bdC nO t
    · have st := i2 c
      obtain ⟨s, n, d1, d2, d3, d4, d5, d6⟩ := e_dec (hv o (List.mem_cons_self ..))
      have e := hC.1
      rw [d1] at e
      obtain ⟨v1, v2⟩ := div5 (k := s) (N := n) d2 d3
      obtain ⟨w, hw⟩ : ∃ w, w = t.length := ⟨_, rfl⟩
      have stp1 : ∀ F, f_Ru_isWrong_32 m (F + 1) 261 (nI nO) x2 (nI t.length) = if bdO nO o = true then some (nI 1) else f_Ru_isWrong_32 m F 261 (nI nO) x2 (nI (t.length + 1)) := fun F => by
        unfold bdO
        rw [← hw] at e hl ⊢
        by_cases c6 : s = 6
        · have o1 := d4.mp c6
          have hn := d6 (Or.inl o1)
          subst c6
          by_cases cn : n < nO
          · rw [decide_eq_false (fun z => by have := z.2; omega), if_neg (by decide)]
            simp -dsimp -implicitDefEqProofs (disch := omega) only [f_Ru_isWrong_32, f_Ru_isWrong_67, f_Ru_isWrong_83, ↓l_m1, l_0, l_1, l_2, l_3, l_4, l_5, l_6, l_7, l_8, l_9, l_10, l_11, l_12, l_13, l_14, l_15, l_16, l_17, l_20, l_21, l_22, l_23, l_24, l_28, l_29, l_30, l_31, l_32, l_40, l_41, l_48, l_57, l_60, l_62, l_63, l_84, l_96, l_97, l_99, l_100, l_122, l_132, l_144, l_150, l_186, l_255, l_256, l_288, l_300, l_522, l_634, l_999, l_5242, l_5410, l_5420, l_5520, l_5528, l_9999, l_65535, l_65536, l_100000, l_16777215, l_252645135, l_858993459, l_1431655765, ↓reduceIte, Nat.reduceAdd, Nat.reduceMul, Nat.reduceSub, ixN, inbN, leT, leF, ltT, ltF, eqT, eqF, eqM, eqNone, addN, mulN, subN, m1N, ↓to_bnd, bnd_some, ↓to_nmT, nmT_eq, up2_r, up2_e, pk_us, pk_un, b2_t, b2_f, b2_0, b2_1, zB_1, zB_0, zB_b2, not_true_eq_false, not_false_eq_true, r_Mo, Nat.add_zero, Nat.add_sub_cancel, within_R, within_N, in_R, in_N, inN_yes, inR_yes, inR_pred, orNone_nn, nn_m, nn_N, f_Ct_isDay, f_Ct_isThing, f_Ct_isKind, f_Ct_isRoomSeat, f_Ct_isOffice, f_Ct_isTable, f_Ct_isPaper, f_Ct_isRule, f_Ct_isDecision, f_Mo_isOffice, f_Mo_isTable, f_Mo_isPaper, f_Mo_isRule, f_Mo_isDecision, f_Mo_isDay, f_Mo_isThing, f_Mo_paperOf, f_Mo_set, rt_s, e6, e, v1, v2]
          · rw [decide_eq_true ⟨Or.inl o1, by omega⟩, if_pos rfl]
            simp -dsimp -implicitDefEqProofs (disch := omega) only [f_Ru_isWrong_32, f_Ru_isWrong_67, f_Ru_isWrong_83, ↓l_m1, l_0, l_1, l_2, l_3, l_4, l_5, l_6, l_7, l_8, l_9, l_10, l_11, l_12, l_13, l_14, l_15, l_16, l_17, l_20, l_21, l_22, l_23, l_24, l_28, l_29, l_30, l_31, l_32, l_40, l_41, l_48, l_57, l_60, l_62, l_63, l_84, l_96, l_97, l_99, l_100, l_122, l_132, l_144, l_150, l_186, l_255, l_256, l_288, l_300, l_522, l_634, l_999, l_5242, l_5410, l_5420, l_5520, l_5528, l_9999, l_65535, l_65536, l_100000, l_16777215, l_252645135, l_858993459, l_1431655765, ↓reduceIte, Nat.reduceAdd, Nat.reduceMul, Nat.reduceSub, ixN, inbN, leT, leF, ltT, ltF, eqT, eqF, eqM, eqNone, addN, mulN, subN, m1N, ↓to_bnd, bnd_some, ↓to_nmT, nmT_eq, up2_r, up2_e, pk_us, pk_un, b2_t, b2_f, b2_0, b2_1, zB_1, zB_0, zB_b2, not_true_eq_false, not_false_eq_true, r_Mo, Nat.add_zero, Nat.add_sub_cancel, within_R, within_N, in_R, in_N, inN_yes, inR_yes, inR_pred, orNone_nn, nn_m, nn_N, f_Ct_isDay, f_Ct_isThing, f_Ct_isKind, f_Ct_isRoomSeat, f_Ct_isOffice, f_Ct_isTable, f_Ct_isPaper, f_Ct_isRule, f_Ct_isDecision, f_Mo_isOffice, f_Mo_isTable, f_Mo_isPaper, f_Mo_isRule, f_Mo_isDecision, f_Mo_isDay, f_Mo_isThing, f_Mo_paperOf, f_Mo_set, rt_s, e6, e, v1, v2]
        · by_cases c8 : s = 8
          · have o1 := d5.mp c8
            have hn := d6 (Or.inr o1)
            subst c8
            by_cases cn : n < nO
            · rw [decide_eq_false (fun z => by have := z.2; omega), if_neg (by decide)]
              simp -dsimp -implicitDefEqProofs (disch := omega) only [f_Ru_isWrong_32, f_Ru_isWrong_67, f_Ru_isWrong_83, ↓l_m1, l_0, l_1, l_2, l_3, l_4, l_5, l_6, l_7, l_8, l_9, l_10, l_11, l_12, l_13, l_14, l_15, l_16, l_17, l_20, l_21, l_22, l_23, l_24, l_28, l_29, l_30, l_31, l_32, l_40, l_41, l_48, l_57, l_60, l_62, l_63, l_84, l_96, l_97, l_99, l_100, l_122, l_132, l_144, l_150, l_186, l_255, l_256, l_288, l_300, l_522, l_634, l_999, l_5242, l_5410, l_5420, l_5520, l_5528, l_9999, l_65535, l_65536, l_100000, l_16777215, l_252645135, l_858993459, l_1431655765, ↓reduceIte, Nat.reduceAdd, Nat.reduceMul, Nat.reduceSub, ixN, inbN, leT, leF, ltT, ltF, eqT, eqF, eqM, eqNone, addN, mulN, subN, m1N, ↓to_bnd, bnd_some, ↓to_nmT, nmT_eq, up2_r, up2_e, pk_us, pk_un, b2_t, b2_f, b2_0, b2_1, zB_1, zB_0, zB_b2, not_true_eq_false, not_false_eq_true, r_Mo, Nat.add_zero, Nat.add_sub_cancel, within_R, within_N, in_R, in_N, inN_yes, inR_yes, inR_pred, orNone_nn, nn_m, nn_N, f_Ct_isDay, f_Ct_isThing, f_Ct_isKind, f_Ct_isRoomSeat, f_Ct_isOffice, f_Ct_isTable, f_Ct_isPaper, f_Ct_isRule, f_Ct_isDecision, f_Mo_isOffice, f_Mo_isTable, f_Mo_isPaper, f_Mo_isRule, f_Mo_isDecision, f_Mo_isDay, f_Mo_isThing, f_Mo_paperOf, f_Mo_set, rt_s, e6, e, v1, v2]
            · rw [decide_eq_true ⟨Or.inr o1, by omega⟩, if_pos rfl]
              simp -dsimp -implicitDefEqProofs (disch := omega) only [f_Ru_isWrong_32, f_Ru_isWrong_67, f_Ru_isWrong_83, ↓l_m1, l_0, l_1, l_2, l_3, l_4, l_5, l_6, l_7, l_8, l_9, l_10, l_11, l_12, l_13, l_14, l_15, l_16, l_17, l_20, l_21, l_22, l_23, l_24, l_28, l_29, l_30, l_31, l_32, l_40, l_41, l_48, l_57, l_60, l_62, l_63, l_84, l_96, l_97, l_99, l_100, l_122, l_132, l_144, l_150, l_186, l_255, l_256, l_288, l_300, l_522, l_634, l_999, l_5242, l_5410, l_5420, l_5520, l_5528, l_9999, l_65535, l_65536, l_100000, l_16777215, l_252645135, l_858993459, l_1431655765, ↓reduceIte, Nat.reduceAdd, Nat.reduceMul, Nat.reduceSub, ixN, inbN, leT, leF, ltT, ltF, eqT, eqF, eqM, eqNone, addN, mulN, subN, m1N, ↓to_bnd, bnd_some, ↓to_nmT, nmT_eq, up2_r, up2_e, pk_us, pk_un, b2_t, b2_f, b2_0, b2_1, zB_1, zB_0, zB_b2, not_true_eq_false, not_false_eq_true, r_Mo, Nat.add_zero, Nat.add_sub_cancel, within_R, within_N, in_R, in_N, inN_yes, inR_yes, inR_pred, orNone_nn, nn_m, nn_N, f_Ct_isDay, f_Ct_isThing, f_Ct_isKind, f_Ct_isRoomSeat, f_Ct_isOffice, f_Ct_isTable, f_Ct_isPaper, f_Ct_isRule, f_Ct_isDecision, f_Mo_isOffice, f_Mo_isTable, f_Mo_isPaper, f_Mo_isRule, f_Mo_isDecision, f_Mo_isDay, f_Mo_isThing, f_Mo_paperOf, f_Mo_set, rt_s, e6, e, v1, v2]
          · rw [decide_eq_false (fun z => by rcases z.1 with q | q; exact c6 (d4.mpr q); exact c8 (d5.mpr q)), if_neg (by decide)]
            simp -dsimp -implicitDefEqProofs (disch := omega) only [f_Ru_isWrong_32, f_Ru_isWrong_67, f_Ru_isWrong_83, ↓l_m1, l_0, l_1, l_2, l_3, l_4, l_5, l_6, l_7, l_8, l_9, l_10, l_11, l_12, l_13, l_14, l_15, l_16, l_17, l_20, l_21, l_22, l_23, l_24, l_28, l_29, l_30, l_31, l_32, l_40, l_41, l_48, l_57, l_60, l_62, l_63, l_84, l_96, l_97, l_99, l_100, l_122, l_132, l_144, l_150, l_186, l_255, l_256, l_288, l_300, l_522, l_634, l_999, l_5242, l_5410, l_5420, l_5520, l_5528, l_9999, l_65535, l_65536, l_100000, l_16777215, l_252645135, l_858993459, l_1431655765, ↓reduceIte, Nat.reduceAdd, Nat.reduceMul, Nat.reduceSub, ixN, inbN, leT, leF, ltT, ltF, eqT, eqF, eqM, eqNone, addN, mulN, subN, m1N, ↓to_bnd, bnd_some, ↓to_nmT, nmT_eq, up2_r, up2_e, pk_us, pk_un, b2_t, b2_f, b2_0, b2_1, zB_1, zB_0, zB_b2, not_true_eq_false, not_false_eq_true, r_Mo, Nat.add_zero, Nat.add_sub_cancel, within_R, within_N, in_R, in_N, inN_yes, inR_yes, inR_pred, orNone_nn, nn_m, nn_N, f_Ct_isDay, f_Ct_isThing, f_Ct_isKind, f_Ct_isRoomSeat, f_Ct_isOffice, f_Ct_isTable, f_Ct_isPaper, f_Ct_isRule, f_Ct_isDecision, f_Mo_isOffice, f_Mo_isTable, f_Mo_isPaper, f_Mo_isRule, f_Mo_isDecision, f_Mo_isDay, f_Mo_isThing, f_Mo_paperOf, f_Mo_set, rt_s, e6, e, v1, v2]
      refine ⟨fun q F => ?_, fun q F => ?_⟩
      · rw [Bool.false_or] at q
        rw [sp, st, stp1, if_pos q]
      · rw [Bool.false_or] at q
        rw [sp, st, stp1, if_neg (by rw [q]; decide), List.length_cons]
    · refine ⟨fun _ F => by rw [sp]; exact i1 c (F + 1), fun q => ?_⟩
      rw [Bool.true_or] at q
      cases q
theorem c_isWrong {m : Mm} {nO nT nR h v1 v2 : Nat} {c : List Op3} (hh : h ≤ 5) (l1 : v1 < 100000) (l2 : v2 < 100000) (e0 : m 261 0 = nI h) (e1 : m 261 1 = nI v1) (e2 : m 261 2 = (if h = 5 then -1000000005 else nI v2)) (e6 : m 261 6 = nI c.length) (hl : c.length ≤ 96) (hC : CodC (m 262) c) (hv : ∀ o, o ∈ c → vOu o) (hO : nO ≤ 8) (hT : nT ≤ 6) (hR : nR ≤ 16) : f_Ru_isWrong m 261 (nI nO) (nI nT) (nI nR) = some (b2 (bhB nO nT nR h v1 v2 || bdC nO c)) := by
  obtain ⟨z1, z2⟩ := c_wrl (x2 := nI nT) e6 hl hO c hC hv (Nat.le_refl _)
  have nn : NN = (9999 - c.length) + 1 + c.length := by show 10000 = _; omega
  have lp : ∀ fb : Bool, (∀ F, f_Ru_isWrong_32 m (F + 1) 261 (nI nO) (nI nT) (nI c.length) = some (b2 fb)) → f_Ru_isWrong_29 m 261 (nI nO) (nI nT) = some (b2 (bdC nO c || fb)) := fun fb hf => by
    unfold f_Ru_isWrong_29
    rw [l_0, nn]
    cases q : bdC nO c
    · rw [z2 q, hf, Bool.false_or]
    · rw [z1 q, Bool.true_or, b2_t]
  unfold bhB
  by_cases c5 : h = 5
  · subst c5
    rw [if_pos rfl] at e2 ⊢
    by_cases cr : nR ≤ v1
    · rw [decide_eq_true cr, Bool.true_or]
      simp -dsimp -implicitDefEqProofs (disch := omega) only [f_Ru_isWrong, f_Ru_isWrong_27, ↓l_m1, l_0, l_1, l_2, l_3, l_4, l_5, l_6, l_7, l_8, l_9, l_10, l_11, l_12, l_13, l_14, l_15, l_16, l_17, l_20, l_21, l_22, l_23, l_24, l_28, l_29, l_30, l_31, l_32, l_40, l_41, l_48, l_57, l_60, l_62, l_63, l_84, l_96, l_97, l_99, l_100, l_122, l_132, l_144, l_150, l_186, l_255, l_256, l_288, l_300, l_522, l_634, l_999, l_5242, l_5410, l_5420, l_5520, l_5528, l_9999, l_65535, l_65536, l_100000, l_16777215, l_252645135, l_858993459, l_1431655765, ↓reduceIte, Nat.reduceAdd, Nat.reduceMul, Nat.reduceSub, ixN, inbN, leT, leF, ltT, ltF, eqT, eqF, eqM, eqNone, addN, mulN, subN, m1N, ↓to_bnd, bnd_some, ↓to_nmT, nmT_eq, up2_r, up2_e, pk_us, pk_un, b2_t, b2_f, b2_0, b2_1, zB_1, zB_0, zB_b2, not_true_eq_false, not_false_eq_true, r_Mo, Nat.add_zero, Nat.add_sub_cancel, within_R, within_N, in_R, in_N, inN_yes, inR_yes, inR_pred, orNone_nn, nn_m, nn_N, f_Ct_isDay, f_Ct_isThing, f_Ct_isKind, f_Ct_isRoomSeat, f_Ct_isOffice, f_Ct_isTable, f_Ct_isPaper, f_Ct_isRule, f_Ct_isDecision, f_Mo_isOffice, f_Mo_isTable, f_Mo_isPaper, f_Mo_isRule, f_Mo_isDecision, f_Mo_isDay, f_Mo_isThing, f_Mo_paperOf, f_Mo_set, e0, e1]
    · rw [decide_eq_false cr, Bool.false_or]
      have q := lp false (fun F => by simp -dsimp -implicitDefEqProofs (disch := omega) only [f_Ru_isWrong_32, ↓l_m1, l_0, l_1, l_2, l_3, l_4, l_5, l_6, l_7, l_8, l_9, l_10, l_11, l_12, l_13, l_14, l_15, l_16, l_17, l_20, l_21, l_22, l_23, l_24, l_28, l_29, l_30, l_31, l_32, l_40, l_41, l_48, l_57, l_60, l_62, l_63, l_84, l_96, l_97, l_99, l_100, l_122, l_132, l_144, l_150, l_186, l_255, l_256, l_288, l_300, l_522, l_634, l_999, l_5242, l_5410, l_5420, l_5520, l_5528, l_9999, l_65535, l_65536, l_100000, l_16777215, l_252645135, l_858993459, l_1431655765, ↓reduceIte, Nat.reduceAdd, Nat.reduceMul, Nat.reduceSub, ixN, inbN, leT, leF, ltT, ltF, eqT, eqF, eqM, eqNone, addN, mulN, subN, m1N, ↓to_bnd, bnd_some, ↓to_nmT, nmT_eq, up2_r, up2_e, pk_us, pk_un, b2_t, b2_f, b2_0, b2_1, zB_1, zB_0, zB_b2, not_true_eq_false, not_false_eq_true, r_Mo, Nat.add_zero, Nat.add_sub_cancel, within_R, within_N, in_R, in_N, inN_yes, inR_yes, inR_pred, orNone_nn, nn_m, nn_N, f_Ct_isDay, f_Ct_isThing, f_Ct_isKind, f_Ct_isRoomSeat, f_Ct_isOffice, f_Ct_isTable, f_Ct_isPaper, f_Ct_isRule, f_Ct_isDecision, f_Mo_isOffice, f_Mo_isTable, f_Mo_isPaper, f_Mo_isRule, f_Mo_isDecision, f_Mo_isDay, f_Mo_isThing, f_Mo_paperOf, f_Mo_set, e6, e0])
      rw [Bool.or_false] at q
      rw [← q]
      simp -dsimp -implicitDefEqProofs (disch := omega) only [f_Ru_isWrong, ↓l_m1, l_0, l_1, l_2, l_3, l_4, l_5, l_6, l_7, l_8, l_9, l_10, l_11, l_12, l_13, l_14, l_15, l_16, l_17, l_20, l_21, l_22, l_23, l_24, l_28, l_29, l_30, l_31, l_32, l_40, l_41, l_48, l_57, l_60, l_62, l_63, l_84, l_96, l_97, l_99, l_100, l_122, l_132, l_144, l_150, l_186, l_255, l_256, l_288, l_300, l_522, l_634, l_999, l_5242, l_5410, l_5420, l_5520, l_5528, l_9999, l_65535, l_65536, l_100000, l_16777215, l_252645135, l_858993459, l_1431655765, ↓reduceIte, Nat.reduceAdd, Nat.reduceMul, Nat.reduceSub, ixN, inbN, leT, leF, ltT, ltF, eqT, eqF, eqM, eqNone, addN, mulN, subN, m1N, ↓to_bnd, bnd_some, ↓to_nmT, nmT_eq, up2_r, up2_e, pk_us, pk_un, b2_t, b2_f, b2_0, b2_1, zB_1, zB_0, zB_b2, not_true_eq_false, not_false_eq_true, r_Mo, Nat.add_zero, Nat.add_sub_cancel, within_R, within_N, in_R, in_N, inN_yes, inR_yes, inR_pred, orNone_nn, nn_m, nn_N, f_Ct_isDay, f_Ct_isThing, f_Ct_isKind, f_Ct_isRoomSeat, f_Ct_isOffice, f_Ct_isTable, f_Ct_isPaper, f_Ct_isRule, f_Ct_isDecision, f_Mo_isOffice, f_Mo_isTable, f_Mo_isPaper, f_Mo_isRule, f_Mo_isDecision, f_Mo_isDay, f_Mo_isThing, f_Mo_paperOf, f_Mo_set, e0, e1]
  · rw [if_neg c5] at e2 ⊢
    by_cases cr : 4 < v1
    · rw [decide_eq_true cr, Bool.true_or, Bool.true_or]
      simp -dsimp -implicitDefEqProofs (disch := omega) only [f_Ru_isWrong, f_Ru_isWrong_27, ↓l_m1, l_0, l_1, l_2, l_3, l_4, l_5, l_6, l_7, l_8, l_9, l_10, l_11, l_12, l_13, l_14, l_15, l_16, l_17, l_20, l_21, l_22, l_23, l_24, l_28, l_29, l_30, l_31, l_32, l_40, l_41, l_48, l_57, l_60, l_62, l_63, l_84, l_96, l_97, l_99, l_100, l_122, l_132, l_144, l_150, l_186, l_255, l_256, l_288, l_300, l_522, l_634, l_999, l_5242, l_5410, l_5420, l_5520, l_5528, l_9999, l_65535, l_65536, l_100000, l_16777215, l_252645135, l_858993459, l_1431655765, ↓reduceIte, Nat.reduceAdd, Nat.reduceMul, Nat.reduceSub, ixN, inbN, leT, leF, ltT, ltF, eqT, eqF, eqM, eqNone, addN, mulN, subN, m1N, ↓to_bnd, bnd_some, ↓to_nmT, nmT_eq, up2_r, up2_e, pk_us, pk_un, b2_t, b2_f, b2_0, b2_1, zB_1, zB_0, zB_b2, not_true_eq_false, not_false_eq_true, r_Mo, Nat.add_zero, Nat.add_sub_cancel, within_R, within_N, in_R, in_N, inN_yes, inR_yes, inR_pred, orNone_nn, nn_m, nn_N, f_Ct_isDay, f_Ct_isThing, f_Ct_isKind, f_Ct_isRoomSeat, f_Ct_isOffice, f_Ct_isTable, f_Ct_isPaper, f_Ct_isRule, f_Ct_isDecision, f_Mo_isOffice, f_Mo_isTable, f_Mo_isPaper, f_Mo_isRule, f_Mo_isDecision, f_Mo_isDay, f_Mo_isThing, f_Mo_paperOf, f_Mo_set, e0, e1]
    · rw [decide_eq_false cr, Bool.false_or, Bool.or_comm]
      have st : f_Ru_isWrong m 261 (nI nO) (nI nT) (nI nR) = f_Ru_isWrong_29 m 261 (nI nO) (nI nT) := by
        simp -dsimp -implicitDefEqProofs (disch := omega) only [f_Ru_isWrong, ↓l_m1, l_0, l_1, l_2, l_3, l_4, l_5, l_6, l_7, l_8, l_9, l_10, l_11, l_12, l_13, l_14, l_15, l_16, l_17, l_20, l_21, l_22, l_23, l_24, l_28, l_29, l_30, l_31, l_32, l_40, l_41, l_48, l_57, l_60, l_62, l_63, l_84, l_96, l_97, l_99, l_100, l_122, l_132, l_144, l_150, l_186, l_255, l_256, l_288, l_300, l_522, l_634, l_999, l_5242, l_5410, l_5420, l_5520, l_5528, l_9999, l_65535, l_65536, l_100000, l_16777215, l_252645135, l_858993459, l_1431655765, ↓reduceIte, Nat.reduceAdd, Nat.reduceMul, Nat.reduceSub, ixN, inbN, leT, leF, ltT, ltF, eqT, eqF, eqM, eqNone, addN, mulN, subN, m1N, ↓to_bnd, bnd_some, ↓to_nmT, nmT_eq, up2_r, up2_e, pk_us, pk_un, b2_t, b2_f, b2_0, b2_1, zB_1, zB_0, zB_b2, not_true_eq_false, not_false_eq_true, r_Mo, Nat.add_zero, Nat.add_sub_cancel, within_R, within_N, in_R, in_N, inN_yes, inR_yes, inR_pred, orNone_nn, nn_m, nn_N, f_Ct_isDay, f_Ct_isThing, f_Ct_isKind, f_Ct_isRoomSeat, f_Ct_isOffice, f_Ct_isTable, f_Ct_isPaper, f_Ct_isRule, f_Ct_isDecision, f_Mo_isOffice, f_Mo_isTable, f_Mo_isPaper, f_Mo_isRule, f_Mo_isDecision, f_Mo_isDay, f_Mo_isThing, f_Mo_paperOf, f_Mo_set, e0, e1]
      rw [st]
      refine lp _ (fun F => ?_)
      rcases (by omega : h = 0 ∨ h = 1 ∨ h = 2 ∨ h = 3 ∨ h = 4) with rfl | rfl | rfl | rfl | rfl
      · rw [if_pos rfl]
        by_cases q : nT ≤ v2
        · rw [decide_eq_true q]; simp -dsimp -implicitDefEqProofs (disch := omega) only [f_Ru_isWrong_32, f_Ru_isWrong_145, f_Ru_isWrong_159, f_Ru_isWrong_175, f_Ru_isWrong_192, ↓l_m1, l_0, l_1, l_2, l_3, l_4, l_5, l_6, l_7, l_8, l_9, l_10, l_11, l_12, l_13, l_14, l_15, l_16, l_17, l_20, l_21, l_22, l_23, l_24, l_28, l_29, l_30, l_31, l_32, l_40, l_41, l_48, l_57, l_60, l_62, l_63, l_84, l_96, l_97, l_99, l_100, l_122, l_132, l_144, l_150, l_186, l_255, l_256, l_288, l_300, l_522, l_634, l_999, l_5242, l_5410, l_5420, l_5520, l_5528, l_9999, l_65535, l_65536, l_100000, l_16777215, l_252645135, l_858993459, l_1431655765, ↓reduceIte, Nat.reduceAdd, Nat.reduceMul, Nat.reduceSub, ixN, inbN, leT, leF, ltT, ltF, eqT, eqF, eqM, eqNone, addN, mulN, subN, m1N, ↓to_bnd, bnd_some, ↓to_nmT, nmT_eq, up2_r, up2_e, pk_us, pk_un, b2_t, b2_f, b2_0, b2_1, zB_1, zB_0, zB_b2, not_true_eq_false, not_false_eq_true, r_Mo, Nat.add_zero, Nat.add_sub_cancel, within_R, within_N, in_R, in_N, inN_yes, inR_yes, inR_pred, orNone_nn, nn_m, nn_N, f_Ct_isDay, f_Ct_isThing, f_Ct_isKind, f_Ct_isRoomSeat, f_Ct_isOffice, f_Ct_isTable, f_Ct_isPaper, f_Ct_isRule, f_Ct_isDecision, f_Mo_isOffice, f_Mo_isTable, f_Mo_isPaper, f_Mo_isRule, f_Mo_isDecision, f_Mo_isDay, f_Mo_isThing, f_Mo_paperOf, f_Mo_set, e6, e0, e2]
        · rw [decide_eq_false q]; simp -dsimp -implicitDefEqProofs (disch := omega) only [f_Ru_isWrong_32, f_Ru_isWrong_145, f_Ru_isWrong_159, f_Ru_isWrong_175, f_Ru_isWrong_192, ↓l_m1, l_0, l_1, l_2, l_3, l_4, l_5, l_6, l_7, l_8, l_9, l_10, l_11, l_12, l_13, l_14, l_15, l_16, l_17, l_20, l_21, l_22, l_23, l_24, l_28, l_29, l_30, l_31, l_32, l_40, l_41, l_48, l_57, l_60, l_62, l_63, l_84, l_96, l_97, l_99, l_100, l_122, l_132, l_144, l_150, l_186, l_255, l_256, l_288, l_300, l_522, l_634, l_999, l_5242, l_5410, l_5420, l_5520, l_5528, l_9999, l_65535, l_65536, l_100000, l_16777215, l_252645135, l_858993459, l_1431655765, ↓reduceIte, Nat.reduceAdd, Nat.reduceMul, Nat.reduceSub, ixN, inbN, leT, leF, ltT, ltF, eqT, eqF, eqM, eqNone, addN, mulN, subN, m1N, ↓to_bnd, bnd_some, ↓to_nmT, nmT_eq, up2_r, up2_e, pk_us, pk_un, b2_t, b2_f, b2_0, b2_1, zB_1, zB_0, zB_b2, not_true_eq_false, not_false_eq_true, r_Mo, Nat.add_zero, Nat.add_sub_cancel, within_R, within_N, in_R, in_N, inN_yes, inR_yes, inR_pred, orNone_nn, nn_m, nn_N, f_Ct_isDay, f_Ct_isThing, f_Ct_isKind, f_Ct_isRoomSeat, f_Ct_isOffice, f_Ct_isTable, f_Ct_isPaper, f_Ct_isRule, f_Ct_isDecision, f_Mo_isOffice, f_Mo_isTable, f_Mo_isPaper, f_Mo_isRule, f_Mo_isDecision, f_Mo_isDay, f_Mo_isThing, f_Mo_paperOf, f_Mo_set, e6, e0, e2]
      · rw [if_neg (by decide), if_neg (by decide), if_neg (by decide)]
        by_cases q : 99 < v2
        · rw [decide_eq_true q]; simp -dsimp -implicitDefEqProofs (disch := omega) only [f_Ru_isWrong_32, f_Ru_isWrong_145, f_Ru_isWrong_159, f_Ru_isWrong_175, f_Ru_isWrong_192, ↓l_m1, l_0, l_1, l_2, l_3, l_4, l_5, l_6, l_7, l_8, l_9, l_10, l_11, l_12, l_13, l_14, l_15, l_16, l_17, l_20, l_21, l_22, l_23, l_24, l_28, l_29, l_30, l_31, l_32, l_40, l_41, l_48, l_57, l_60, l_62, l_63, l_84, l_96, l_97, l_99, l_100, l_122, l_132, l_144, l_150, l_186, l_255, l_256, l_288, l_300, l_522, l_634, l_999, l_5242, l_5410, l_5420, l_5520, l_5528, l_9999, l_65535, l_65536, l_100000, l_16777215, l_252645135, l_858993459, l_1431655765, ↓reduceIte, Nat.reduceAdd, Nat.reduceMul, Nat.reduceSub, ixN, inbN, leT, leF, ltT, ltF, eqT, eqF, eqM, eqNone, addN, mulN, subN, m1N, ↓to_bnd, bnd_some, ↓to_nmT, nmT_eq, up2_r, up2_e, pk_us, pk_un, b2_t, b2_f, b2_0, b2_1, zB_1, zB_0, zB_b2, not_true_eq_false, not_false_eq_true, r_Mo, Nat.add_zero, Nat.add_sub_cancel, within_R, within_N, in_R, in_N, inN_yes, inR_yes, inR_pred, orNone_nn, nn_m, nn_N, f_Ct_isDay, f_Ct_isThing, f_Ct_isKind, f_Ct_isRoomSeat, f_Ct_isOffice, f_Ct_isTable, f_Ct_isPaper, f_Ct_isRule, f_Ct_isDecision, f_Mo_isOffice, f_Mo_isTable, f_Mo_isPaper, f_Mo_isRule, f_Mo_isDecision, f_Mo_isDay, f_Mo_isThing, f_Mo_paperOf, f_Mo_set, e6, e0, e2]
        · rw [decide_eq_false q]; simp -dsimp -implicitDefEqProofs (disch := omega) only [f_Ru_isWrong_32, f_Ru_isWrong_145, f_Ru_isWrong_159, f_Ru_isWrong_175, f_Ru_isWrong_192, ↓l_m1, l_0, l_1, l_2, l_3, l_4, l_5, l_6, l_7, l_8, l_9, l_10, l_11, l_12, l_13, l_14, l_15, l_16, l_17, l_20, l_21, l_22, l_23, l_24, l_28, l_29, l_30, l_31, l_32, l_40, l_41, l_48, l_57, l_60, l_62, l_63, l_84, l_96, l_97, l_99, l_100, l_122, l_132, l_144, l_150, l_186, l_255, l_256, l_288, l_300, l_522, l_634, l_999, l_5242, l_5410, l_5420, l_5520, l_5528, l_9999, l_65535, l_65536, l_100000, l_16777215, l_252645135, l_858993459, l_1431655765, ↓reduceIte, Nat.reduceAdd, Nat.reduceMul, Nat.reduceSub, ixN, inbN, leT, leF, ltT, ltF, eqT, eqF, eqM, eqNone, addN, mulN, subN, m1N, ↓to_bnd, bnd_some, ↓to_nmT, nmT_eq, up2_r, up2_e, pk_us, pk_un, b2_t, b2_f, b2_0, b2_1, zB_1, zB_0, zB_b2, not_true_eq_false, not_false_eq_true, r_Mo, Nat.add_zero, Nat.add_sub_cancel, within_R, within_N, in_R, in_N, inN_yes, inR_yes, inR_pred, orNone_nn, nn_m, nn_N, f_Ct_isDay, f_Ct_isThing, f_Ct_isKind, f_Ct_isRoomSeat, f_Ct_isOffice, f_Ct_isTable, f_Ct_isPaper, f_Ct_isRule, f_Ct_isDecision, f_Mo_isOffice, f_Mo_isTable, f_Mo_isPaper, f_Mo_isRule, f_Mo_isDecision, f_Mo_isDay, f_Mo_isThing, f_Mo_paperOf, f_Mo_set, e6, e0, e2]
      · rw [if_neg (by decide), if_pos rfl]
        by_cases q : nO ≤ v2
        · rw [decide_eq_true q]; simp -dsimp -implicitDefEqProofs (disch := omega) only [f_Ru_isWrong_32, f_Ru_isWrong_145, f_Ru_isWrong_159, f_Ru_isWrong_175, f_Ru_isWrong_192, ↓l_m1, l_0, l_1, l_2, l_3, l_4, l_5, l_6, l_7, l_8, l_9, l_10, l_11, l_12, l_13, l_14, l_15, l_16, l_17, l_20, l_21, l_22, l_23, l_24, l_28, l_29, l_30, l_31, l_32, l_40, l_41, l_48, l_57, l_60, l_62, l_63, l_84, l_96, l_97, l_99, l_100, l_122, l_132, l_144, l_150, l_186, l_255, l_256, l_288, l_300, l_522, l_634, l_999, l_5242, l_5410, l_5420, l_5520, l_5528, l_9999, l_65535, l_65536, l_100000, l_16777215, l_252645135, l_858993459, l_1431655765, ↓reduceIte, Nat.reduceAdd, Nat.reduceMul, Nat.reduceSub, ixN, inbN, leT, leF, ltT, ltF, eqT, eqF, eqM, eqNone, addN, mulN, subN, m1N, ↓to_bnd, bnd_some, ↓to_nmT, nmT_eq, up2_r, up2_e, pk_us, pk_un, b2_t, b2_f, b2_0, b2_1, zB_1, zB_0, zB_b2, not_true_eq_false, not_false_eq_true, r_Mo, Nat.add_zero, Nat.add_sub_cancel, within_R, within_N, in_R, in_N, inN_yes, inR_yes, inR_pred, orNone_nn, nn_m, nn_N, f_Ct_isDay, f_Ct_isThing, f_Ct_isKind, f_Ct_isRoomSeat, f_Ct_isOffice, f_Ct_isTable, f_Ct_isPaper, f_Ct_isRule, f_Ct_isDecision, f_Mo_isOffice, f_Mo_isTable, f_Mo_isPaper, f_Mo_isRule, f_Mo_isDecision, f_Mo_isDay, f_Mo_isThing, f_Mo_paperOf, f_Mo_set, e6, e0, e2]
        · rw [decide_eq_false q]; simp -dsimp -implicitDefEqProofs (disch := omega) only [f_Ru_isWrong_32, f_Ru_isWrong_145, f_Ru_isWrong_159, f_Ru_isWrong_175, f_Ru_isWrong_192, ↓l_m1, l_0, l_1, l_2, l_3, l_4, l_5, l_6, l_7, l_8, l_9, l_10, l_11, l_12, l_13, l_14, l_15, l_16, l_17, l_20, l_21, l_22, l_23, l_24, l_28, l_29, l_30, l_31, l_32, l_40, l_41, l_48, l_57, l_60, l_62, l_63, l_84, l_96, l_97, l_99, l_100, l_122, l_132, l_144, l_150, l_186, l_255, l_256, l_288, l_300, l_522, l_634, l_999, l_5242, l_5410, l_5420, l_5520, l_5528, l_9999, l_65535, l_65536, l_100000, l_16777215, l_252645135, l_858993459, l_1431655765, ↓reduceIte, Nat.reduceAdd, Nat.reduceMul, Nat.reduceSub, ixN, inbN, leT, leF, ltT, ltF, eqT, eqF, eqM, eqNone, addN, mulN, subN, m1N, ↓to_bnd, bnd_some, ↓to_nmT, nmT_eq, up2_r, up2_e, pk_us, pk_un, b2_t, b2_f, b2_0, b2_1, zB_1, zB_0, zB_b2, not_true_eq_false, not_false_eq_true, r_Mo, Nat.add_zero, Nat.add_sub_cancel, within_R, within_N, in_R, in_N, inN_yes, inR_yes, inR_pred, orNone_nn, nn_m, nn_N, f_Ct_isDay, f_Ct_isThing, f_Ct_isKind, f_Ct_isRoomSeat, f_Ct_isOffice, f_Ct_isTable, f_Ct_isPaper, f_Ct_isRule, f_Ct_isDecision, f_Mo_isOffice, f_Mo_isTable, f_Mo_isPaper, f_Mo_isRule, f_Mo_isDecision, f_Mo_isDay, f_Mo_isThing, f_Mo_paperOf, f_Mo_set, e6, e0, e2]
      · rw [if_neg (by decide), if_neg (by decide), if_neg (by decide)]
        by_cases q : 99 < v2
        · rw [decide_eq_true q]; simp -dsimp -implicitDefEqProofs (disch := omega) only [f_Ru_isWrong_32, f_Ru_isWrong_145, f_Ru_isWrong_159, f_Ru_isWrong_175, f_Ru_isWrong_192, ↓l_m1, l_0, l_1, l_2, l_3, l_4, l_5, l_6, l_7, l_8, l_9, l_10, l_11, l_12, l_13, l_14, l_15, l_16, l_17, l_20, l_21, l_22, l_23, l_24, l_28, l_29, l_30, l_31, l_32, l_40, l_41, l_48, l_57, l_60, l_62, l_63, l_84, l_96, l_97, l_99, l_100, l_122, l_132, l_144, l_150, l_186, l_255, l_256, l_288, l_300, l_522, l_634, l_999, l_5242, l_5410, l_5420, l_5520, l_5528, l_9999, l_65535, l_65536, l_100000, l_16777215, l_252645135, l_858993459, l_1431655765, ↓reduceIte, Nat.reduceAdd, Nat.reduceMul, Nat.reduceSub, ixN, inbN, leT, leF, ltT, ltF, eqT, eqF, eqM, eqNone, addN, mulN, subN, m1N, ↓to_bnd, bnd_some, ↓to_nmT, nmT_eq, up2_r, up2_e, pk_us, pk_un, b2_t, b2_f, b2_0, b2_1, zB_1, zB_0, zB_b2, not_true_eq_false, not_false_eq_true, r_Mo, Nat.add_zero, Nat.add_sub_cancel, within_R, within_N, in_R, in_N, inN_yes, inR_yes, inR_pred, orNone_nn, nn_m, nn_N, f_Ct_isDay, f_Ct_isThing, f_Ct_isKind, f_Ct_isRoomSeat, f_Ct_isOffice, f_Ct_isTable, f_Ct_isPaper, f_Ct_isRule, f_Ct_isDecision, f_Mo_isOffice, f_Mo_isTable, f_Mo_isPaper, f_Mo_isRule, f_Mo_isDecision, f_Mo_isDay, f_Mo_isThing, f_Mo_paperOf, f_Mo_set, e6, e0, e2]
        · rw [decide_eq_false q]; simp -dsimp -implicitDefEqProofs (disch := omega) only [f_Ru_isWrong_32, f_Ru_isWrong_145, f_Ru_isWrong_159, f_Ru_isWrong_175, f_Ru_isWrong_192, ↓l_m1, l_0, l_1, l_2, l_3, l_4, l_5, l_6, l_7, l_8, l_9, l_10, l_11, l_12, l_13, l_14, l_15, l_16, l_17, l_20, l_21, l_22, l_23, l_24, l_28, l_29, l_30, l_31, l_32, l_40, l_41, l_48, l_57, l_60, l_62, l_63, l_84, l_96, l_97, l_99, l_100, l_122, l_132, l_144, l_150, l_186, l_255, l_256, l_288, l_300, l_522, l_634, l_999, l_5242, l_5410, l_5420, l_5520, l_5528, l_9999, l_65535, l_65536, l_100000, l_16777215, l_252645135, l_858993459, l_1431655765, ↓reduceIte, Nat.reduceAdd, Nat.reduceMul, Nat.reduceSub, ixN, inbN, leT, leF, ltT, ltF, eqT, eqF, eqM, eqNone, addN, mulN, subN, m1N, ↓to_bnd, bnd_some, ↓to_nmT, nmT_eq, up2_r, up2_e, pk_us, pk_un, b2_t, b2_f, b2_0, b2_1, zB_1, zB_0, zB_b2, not_true_eq_false, not_false_eq_true, r_Mo, Nat.add_zero, Nat.add_sub_cancel, within_R, within_N, in_R, in_N, inN_yes, inR_yes, inR_pred, orNone_nn, nn_m, nn_N, f_Ct_isDay, f_Ct_isThing, f_Ct_isKind, f_Ct_isRoomSeat, f_Ct_isOffice, f_Ct_isTable, f_Ct_isPaper, f_Ct_isRule, f_Ct_isDecision, f_Mo_isOffice, f_Mo_isTable, f_Mo_isPaper, f_Mo_isRule, f_Mo_isDecision, f_Mo_isDay, f_Mo_isThing, f_Mo_paperOf, f_Mo_set, e6, e0, e2]
      · rw [if_neg (by decide), if_neg (by decide), if_pos rfl]
        by_cases q : 999 < v2
        · rw [decide_eq_true q]; simp -dsimp -implicitDefEqProofs (disch := omega) only [f_Ru_isWrong_32, f_Ru_isWrong_145, f_Ru_isWrong_159, f_Ru_isWrong_175, f_Ru_isWrong_192, ↓l_m1, l_0, l_1, l_2, l_3, l_4, l_5, l_6, l_7, l_8, l_9, l_10, l_11, l_12, l_13, l_14, l_15, l_16, l_17, l_20, l_21, l_22, l_23, l_24, l_28, l_29, l_30, l_31, l_32, l_40, l_41, l_48, l_57, l_60, l_62, l_63, l_84, l_96, l_97, l_99, l_100, l_122, l_132, l_144, l_150, l_186, l_255, l_256, l_288, l_300, l_522, l_634, l_999, l_5242, l_5410, l_5420, l_5520, l_5528, l_9999, l_65535, l_65536, l_100000, l_16777215, l_252645135, l_858993459, l_1431655765, ↓reduceIte, Nat.reduceAdd, Nat.reduceMul, Nat.reduceSub, ixN, inbN, leT, leF, ltT, ltF, eqT, eqF, eqM, eqNone, addN, mulN, subN, m1N, ↓to_bnd, bnd_some, ↓to_nmT, nmT_eq, up2_r, up2_e, pk_us, pk_un, b2_t, b2_f, b2_0, b2_1, zB_1, zB_0, zB_b2, not_true_eq_false, not_false_eq_true, r_Mo, Nat.add_zero, Nat.add_sub_cancel, within_R, within_N, in_R, in_N, inN_yes, inR_yes, inR_pred, orNone_nn, nn_m, nn_N, f_Ct_isDay, f_Ct_isThing, f_Ct_isKind, f_Ct_isRoomSeat, f_Ct_isOffice, f_Ct_isTable, f_Ct_isPaper, f_Ct_isRule, f_Ct_isDecision, f_Mo_isOffice, f_Mo_isTable, f_Mo_isPaper, f_Mo_isRule, f_Mo_isDecision, f_Mo_isDay, f_Mo_isThing, f_Mo_paperOf, f_Mo_set, e6, e0, e2]
        · rw [decide_eq_false q]; simp -dsimp -implicitDefEqProofs (disch := omega) only [f_Ru_isWrong_32, f_Ru_isWrong_145, f_Ru_isWrong_159, f_Ru_isWrong_175, f_Ru_isWrong_192, ↓l_m1, l_0, l_1, l_2, l_3, l_4, l_5, l_6, l_7, l_8, l_9, l_10, l_11, l_12, l_13, l_14, l_15, l_16, l_17, l_20, l_21, l_22, l_23, l_24, l_28, l_29, l_30, l_31, l_32, l_40, l_41, l_48, l_57, l_60, l_62, l_63, l_84, l_96, l_97, l_99, l_100, l_122, l_132, l_144, l_150, l_186, l_255, l_256, l_288, l_300, l_522, l_634, l_999, l_5242, l_5410, l_5420, l_5520, l_5528, l_9999, l_65535, l_65536, l_100000, l_16777215, l_252645135, l_858993459, l_1431655765, ↓reduceIte, Nat.reduceAdd, Nat.reduceMul, Nat.reduceSub, ixN, inbN, leT, leF, ltT, ltF, eqT, eqF, eqM, eqNone, addN, mulN, subN, m1N, ↓to_bnd, bnd_some, ↓to_nmT, nmT_eq, up2_r, up2_e, pk_us, pk_un, b2_t, b2_f, b2_0, b2_1, zB_1, zB_0, zB_b2, not_true_eq_false, not_false_eq_true, r_Mo, Nat.add_zero, Nat.add_sub_cancel, within_R, within_N, in_R, in_N, inN_yes, inR_yes, inR_pred, orNone_nn, nn_m, nn_N, f_Ct_isDay, f_Ct_isThing, f_Ct_isKind, f_Ct_isRoomSeat, f_Ct_isOffice, f_Ct_isTable, f_Ct_isPaper, f_Ct_isRule, f_Ct_isDecision, f_Mo_isOffice, f_Mo_isTable, f_Mo_isPaper, f_Mo_isRule, f_Mo_isDecision, f_Mo_isDay, f_Mo_isThing, f_Mo_paperOf, f_Mo_set, e6, e0, e2]
theorem bdC_app (nO : Nat) (l : List Op3) : ∀ d, bdC nO (d ++ l) = (bdC nO l || bdC nO d)
  | [] => by rw [List.nil_append, bdC, Bool.or_false]
  | o :: t => by rw [List.cons_append, bdC, bdC, bdC_app nO l t, Bool.or_assoc]
theorem atC_app (l : List Op3) : ∀ d, atC (d ++ l) = atC l + atC d
  | [] => by rw [List.nil_append, atC]; rfl
  | o :: t => by rw [List.cons_append, atC, atC, atC_app l t, Nat.add_assoc]
theorem bdC_no {nO : Nat} : ∀ {l : List Op3}, bdC nO l = false → ∀ o, o ∈ l → o.1 = 16 → o.2.2 < nO
  | [], _, o, h, _ => (List.not_mem_nil h).elim
  | x :: t, hb, o, h, h16 => by
    rw [bdC, Bool.or_eq_false_iff] at hb
    rcases List.mem_cons.mp h with z | z
    · have q := hb.2
      unfold bdO at q
      have q2 := of_decide_eq_false q
      rw [z] at h16 ⊢
      by_cases c : x.2.2 < nO
      · exact c
      · exact (q2 ⟨Or.inr h16, by omega⟩).elim
    · exact bdC_no hb.1 o z h16
/-! cells of the new rule -/
theorem cdv_l {f : Nat → Int32} {b : Nat} : ∀ (l : List Op3) (d d' : Nat), okC l d d' → CodM f b l → (∀ o, o ∈ l → o.1 = 16 → o.2.2 < 8) → ∃ D : Nat → Nat, D 0 = d ∧ D l.length = d' ∧ ∀ i, i < l.length → D i ≤ 30 ∧ OpV (f (b + 3 * i)) (f (b + 3 * i + 1)) (f (b + 3 * i + 2)) (D i) (D (i + 1))
  | [], d, d', h, _, _ => ⟨fun _ => d, rfl, h, fun i hi => by rw [List.length_nil] at hi; omega⟩
  | o :: t, d, d', ⟨e, h1, h2, h3⟩, hM, hb => by
    obtain ⟨m1, m2, m3, m4⟩ := hM
    obtain ⟨D, D0, D1, D2⟩ := cdv_l t d e h1 m4 (fun o h => hb o (List.mem_cons_of_mem _ h))
    obtain ⟨E, E1, E2⟩ : ∃ E : Nat → Nat, (∀ i, i ≤ t.length → E i = D i) ∧ (∀ i, t.length < i → E i = d') := ⟨fun i => if i ≤ t.length then D i else d', fun i h => if_pos h, fun i h => if_neg (by omega)⟩
    refine ⟨E, ?_, ?_, fun i hi => ?_⟩
    · rw [E1 0 (Nat.zero_le _)]; exact D0
    · rw [List.length_cons]; exact E2 _ (by omega)
    · rw [List.length_cons] at hi
      by_cases c : i = t.length
      · rw [c, E1 _ (Nat.le_refl _), E2 _ (Nat.lt_succ_self _), D1, m1, m2, m3]
        refine ⟨h2, ?_⟩
        rcases h3 with ⟨q, q1, q2⟩ | ⟨q, q1, q2⟩ | ⟨q, q1, q2⟩ | ⟨q, q1⟩
        · rw [q]; exact Or.inl ⟨rfl, q1, q2⟩
        · rw [q]; exact Or.inr (Or.inl ⟨rfl, q1, q2⟩)
        · rw [q]; exact Or.inr (Or.inr (Or.inl ⟨rfl, q1, q2⟩))
        · obtain ⟨a1, a2, a3, a4⟩ := q
          refine Or.inr (Or.inr (Or.inr ⟨q1, o.2.2, a1, rfl, ?_⟩))
          rcases (by omega : o.1 = 11 ∨ o.1 = 12 ∨ o.1 = 13 ∨ o.1 = 14 ∨ o.1 = 15 ∨ o.1 = 16) with w | w | w | w | w | w
          · rw [w]; exact Or.inl ⟨Or.inl rfl, (a4 (by omega)).imp (fun z => by rw [z]) (fun z => by rw [z])⟩
          · rw [w]; exact Or.inl ⟨Or.inr (Or.inl rfl), (a4 (by omega)).imp (fun z => by rw [z]) (fun z => by rw [z])⟩
          · rw [w]; exact Or.inl ⟨Or.inr (Or.inr rfl), (a4 (by omega)).imp (fun z => by rw [z]) (fun z => by rw [z])⟩
          · rw [w]; exact Or.inr (Or.inl rfl)
          · rw [w]; exact Or.inr (Or.inr (Or.inl rfl))
          · rw [w]; exact Or.inr (Or.inr (Or.inr ⟨rfl, hb o (List.mem_cons_self ..) w⟩))
      · rw [E1 i (by omega), E1 (i + 1) (by omega)]
        exact D2 i (by omega)
theorem cdv_of {f : Nat → Int32} {b : Nat} {l : List Op3} (h : l = [] ∨ okC l 0 1) (hl : l.length ≤ 48) (hM : CodM f b l) (hb : ∀ o, o ∈ l → o.1 = 16 → o.2.2 < 8) : CDV f b (mnyI l.length) := by
  by_cases c : l = []
  · rw [c]; exact Or.inl rfl
  · have ok : okC l 0 1 := h.resolve_left c
    have l0 : 0 < l.length := List.length_pos_iff.mpr c
    obtain ⟨D, D0, D1, D2⟩ := cdv_l l 0 1 ok hM hb
    refine Or.inr ⟨l.length, D, l0, hl, ?_, D0, D1, D2⟩
    unfold mnyI
    rw [if_neg (by omega)]
theorem CodM_s {f f' : Nat → Int32} {b b' : Nat} : ∀ l : List Op3, CodM f b l → (∀ j, j < 3 * l.length → f' (b' + j) = f (b + j)) → CodM f' b' l
  | [], _, _ => trivial
  | x :: t, h, e => by
    rw [List.length_cons] at e
    refine ⟨?_, ?_, ?_, CodM_s t h.2.2.2 (fun j hj => e j (by omega))⟩
    · rw [e _ (by omega)]; exact h.1
    · rw [Nat.add_assoc, e _ (by omega), ← Nat.add_assoc]; exact h.2.1
    · rw [Nat.add_assoc, e _ (by omega), ← Nat.add_assoc]; exact h.2.2.1
theorem st_one {o : Op3} (h : vOu o) : stR (nI (eCu o)) (nI o.1) (nI o.2.1) (nI o.2.2) := by
  rcases h with h | h | h | h
  · rw [h]; exact Or.inl ⟨rfl, rfl⟩
  · rw [h]; exact Or.inr (Or.inl ⟨rfl, rfl⟩)
  · rw [h]; exact Or.inr (Or.inr (Or.inl ⟨rfl, rfl⟩))
  · obtain ⟨w, sg, n⟩ := o
    obtain ⟨a1, a2, a3, a4⟩ := h
    dsimp only at a1 a2 a3 a4 ⊢
    refine Or.inr (Or.inr (Or.inr ⟨n, a1, rfl, ?_⟩))
    rcases (by omega : w = 11 ∨ w = 12 ∨ w = 13 ∨ w = 14 ∨ w = 15 ∨ w = 16) with rfl | rfl | rfl | rfl | rfl | rfl
    · rcases a4 (by omega) with rfl | rfl
      · exact Or.inl ⟨rfl, rfl, congrArg nI (show 100000 * (2 * (11 - 11) + 0) + n = n by omega)⟩
      · exact Or.inr (Or.inl ⟨rfl, rfl, congrArg nI (show 100000 * (2 * (11 - 11) + 1) + n = 100000 + n by omega)⟩)
    · rcases a4 (by omega) with rfl | rfl
      · exact Or.inr (Or.inr (Or.inl ⟨rfl, rfl, congrArg nI (show 100000 * (2 * (12 - 11) + 0) + n = 200000 + n by omega)⟩))
      · exact Or.inr (Or.inr (Or.inr (Or.inl ⟨rfl, rfl, congrArg nI (show 100000 * (2 * (12 - 11) + 1) + n = 300000 + n by omega)⟩)))
    · rcases a4 (by omega) with rfl | rfl
      · exact Or.inr (Or.inr (Or.inr (Or.inr (Or.inl ⟨rfl, rfl, congrArg nI (show 100000 * (2 * (13 - 11) + 0) + n = 400000 + n by omega)⟩))))
      · exact Or.inr (Or.inr (Or.inr (Or.inr (Or.inr (Or.inl ⟨rfl, rfl, congrArg nI (show 100000 * (2 * (13 - 11) + 1) + n = 500000 + n by omega)⟩)))))
    · exact Or.inr (Or.inr (Or.inr (Or.inr (Or.inr (Or.inr (Or.inl ⟨rfl, congrArg nI (show 100000 * (14 - 8) + n = 600000 + n by omega)⟩))))))
    · exact Or.inr (Or.inr (Or.inr (Or.inr (Or.inr (Or.inr (Or.inr (Or.inl ⟨rfl, congrArg nI (show 100000 * (15 - 8) + n = 700000 + n by omega)⟩)))))))
    · exact Or.inr (Or.inr (Or.inr (Or.inr (Or.inr (Or.inr (Or.inr (Or.inr ⟨rfl, congrArg nI (show 100000 * (16 - 8) + n = 800000 + n by omega)⟩)))))))
theorem st_of {f g : Nat → Int32} {b : Nat} {l : List Op3} : ∀ d : List Op3, CodC f (d ++ l) → CodM g b d → (∀ o, o ∈ d → vOu o) → ∀ i, i < d.length → stR (f (l.length + i)) (g (b + 3 * i)) (g (b + 3 * i + 1)) (g (b + 3 * i + 2))
  | [], _, _, _, i, hi => by rw [List.length_nil] at hi; omega
  | o :: t, hC, hM, hv, i, hi => by
    rw [List.length_cons] at hi
    by_cases c : i = t.length
    · have e : f (t ++ l).length = nI (eCu o) := hC.1
      rw [List.length_append, Nat.add_comm] at e
      rw [c, e, hM.1, hM.2.1, hM.2.2.1]
      exact st_one (hv o (List.mem_cons_self ..))
    · exact st_of t hC.2 hM.2.2.2 (fun o h => hv o (List.mem_cons_of_mem _ h)) i (by omega)
theorem CodC_d {f : Nat → Int32} {l : List Op3} : ∀ d : List Op3, CodC f (d ++ l) → CodC f l
  | [], h => h
  | _ :: t, h => CodC_d t h.2
theorem RV_c2 {g g' : Nat → Int32} {r : Nat} (h : RV g r) (f1 : ∀ j, 522 + 7 * r ≤ j → j < 529 + 7 * r → g' j = g j) (f2 : ∀ j, 634 + 288 * r ≤ j → j < 922 + 288 * r → g' j = g j) : RV g' r := by
  unfold RV at h ⊢
  rw [f1 (522 + 7 * r) (by omega) (by omega), f1 (522 + 7 * r + 1) (by omega) (by omega), f1 (522 + 7 * r + 2) (by omega) (by omega), f1 (522 + 7 * r + 5) (by omega) (by omega), f1 (522 + 7 * r + 6) (by omega) (by omega)]
  exact ⟨h.1, CDV_c h.2.1 (fun j h1 h2 => f2 j (by omega) (by omega)), CDV_c h.2.2 (fun j h1 h2 => f2 j (by omega) (by omega))⟩
theorem mny_le {m : Nat} {g : Nat → Int32} {b : Nat} {x : Int32} (hx : x = mnyI m) (hm : m ≤ 96) (v : CDV g b x) : m ≤ 48 := by
  rw [hx] at v
  unfold mnyI at v
  by_cases hz : m = 0
  · omega
  · rw [if_neg hz] at v
    rcases v with c | ⟨k, D, h0, h1, c, -⟩
    · rw [eqM (by omega)] at c; exact c.elim
    · rw [eqN (by omega) (by omega)] at c; omega
theorem RuR_c2 {ru st g g' : Nat → Int32} {r : Nat} (h : RuR ru st g r) (v : RV g r) (f1 : ∀ j, 522 + 7 * r ≤ j → j < 529 + 7 * r → g' j = g j) (f2 : ∀ j, 634 + 288 * r ≤ j → j < 922 + 288 * r → g' j = g j) : RuR ru st g' r := by
  unfold RuR at h ⊢
  rw [f1 (522 + 7 * r) (by omega) (by omega), f1 (522 + 7 * r + 1) (by omega) (by omega), f1 (522 + 7 * r + 2) (by omega) (by omega), f1 (522 + 7 * r + 3) (by omega) (by omega), f1 (522 + 7 * r + 4) (by omega) (by omega), f1 (522 + 7 * r + 5) (by omega) (by omega), f1 (522 + 7 * r + 6) (by omega) (by omega)]
  obtain ⟨h0, h1, h2, h3, h4, m, n, hmn, q1, q2, q3, q4, q5, q6⟩ := h
  have hm := mny_le q3 (by omega) v.2.1
  have hn := mny_le q4 (by omega) v.2.2
  refine ⟨h0, h1, h2, h3, h4, m, n, hmn, q1, q2, q3, q4, fun i hi => ?_, fun i hi => ?_⟩
  · rw [f2 (634 + 288 * r + 3 * i) (by omega) (by omega), f2 (634 + 288 * r + 3 * i + 1) (by omega) (by omega), f2 (634 + 288 * r + 3 * i + 2) (by omega) (by omega)]
    exact q5 i hi
  · rw [f2 (634 + 288 * r + 144 + 3 * i) (by omega) (by omega), f2 (634 + 288 * r + 144 + 3 * i + 1) (by omega) (by omega), f2 (634 + 288 * r + 144 + 3 * i + 2) (by omega) (by omega)]
    exact q6 i hi
theorem ReR_t {σ σ' : Mm} (h : ReR σ) (e : ∀ a, a = 0 ∨ (85 ≤ a ∧ a < 169) ∨ a = 257 ∨ (263 ≤ a ∧ a < 298) ∨ a = 300 ∨ (305 ≤ a ∧ a < 308) ∨ (312 ≤ a ∧ a < 321) → σ' a = σ a) (e5 : σ' 256 5 = nI 0) (e10 : σ' 298 10 = nI 0) (e3 : σ' 298 3 = σ 298 3) (e44 : σ' 298 44 = σ 298 44) : ReR σ' := by
  obtain ⟨h1, h2, h3, h4, h5, h6⟩ := h
  have e0 := e 0 (by omega)
  refine ⟨ImR_c h1 (fun a p q => e a (by omega)) (by rw [e0]) e3 (e 300 (by omega)), ⟨0, by omega, e5, e10, fun i hi => by omega⟩, fun r hr => ?_, fun j hj => ?_, ?_, ?_⟩
  · rw [e (266 + 2 * r) (by omega), e (267 + 2 * r) (by omega), e 312 (by omega), e 313 (by omega), e 314 (by omega)]; exact h3 r hr
  · rw [e (274 + 4 * j) (by omega), e (275 + 4 * j) (by omega), e (276 + 4 * j) (by omega), e (277 + 4 * j) (by omega), e 316 (by omega), e 317 (by omega), e 318 (by omega), e 319 (by omega), e 313 (by omega), e 314 (by omega)]; exact h4 j hj
  · rw [e0, e44, e 263 (by omega), e 320 (by omega)]; exact h5
  · rw [e 306 (by omega), e 307 (by omega)]; exact h6
def rcM (m : Mm) (r : Nat) : Nat → Mm
  | 0 => m
  | k + 1 => up2 (rcM m r k) 299 (634 + 288 * r + k) (m 308 k)
theorem rcM_r (m : Mm) (r : Nat) {x : Nat} (h : x ≠ 299) : ∀ k, rcM m r k x = m x
  | 0 => rfl
  | k + 1 => by rw [rcM, up2_r _ _ _ h, rcM_r m r h k]
theorem rcM_o (m : Mm) (r : Nat) {j : Nat} (h : j < 634 + 288 * r ∨ 922 + 288 * r ≤ j) : ∀ k, k ≤ 288 → rcM m r k 299 j = m 299 j
  | 0, _ => rfl
  | k + 1, hk => by rw [rcM, up2_e, pk_un (by omega), rcM_o m r h k (by omega)]
theorem rcM_i (m : Mm) (r : Nat) {j : Nat} : ∀ k, j < k → rcM m r k 299 (634 + 288 * r + j) = m 308 j
  | 0, h => by omega
  | k + 1, h => by
    rw [rcM, up2_e]
    by_cases z : j = k
    · rw [z, pk_us]
    · rw [pk_un (by omega), rcM_i m r k (by omega)]
theorem mo_rcl {m : Mm} {r : Nat} (hr : r < 16) (e5 : m 299 5 = nI r) : f_Mo_rule_183 NN 298 (nI r) (nI 0) m = some (nI r, up2 (rcM m r 288) 299 5 (nI (r + 1))) := by
  refine loopA (fun f k => f_Mo_rule_183 f 298 (nI r) (nI k) (rcM m r k)) _ 288 (fun f => ?_) (fun f k hk => ?_) (NN_lt (by omega))
  · have q := rcM_o m r (j := 5) (by omega) 288 (by omega)
    simp -dsimp -implicitDefEqProofs (disch := omega) only [f_Mo_rule_183, ↓l_m1, l_0, l_1, l_2, l_3, l_4, l_5, l_6, l_7, l_8, l_9, l_10, l_11, l_12, l_13, l_14, l_15, l_16, l_17, l_20, l_21, l_22, l_23, l_24, l_28, l_29, l_30, l_31, l_32, l_40, l_41, l_48, l_57, l_60, l_62, l_63, l_84, l_96, l_97, l_99, l_100, l_122, l_132, l_144, l_150, l_186, l_255, l_256, l_288, l_300, l_522, l_634, l_999, l_5242, l_5410, l_5420, l_5520, l_5528, l_9999, l_65535, l_65536, l_100000, l_16777215, l_252645135, l_858993459, l_1431655765, ↓reduceIte, Nat.reduceAdd, Nat.reduceMul, Nat.reduceSub, ixN, inbN, leT, leF, ltT, ltF, eqT, eqF, eqM, eqNone, addN, mulN, subN, m1N, ↓to_bnd, bnd_some, ↓to_nmT, nmT_eq, up2_r, up2_e, pk_us, pk_un, b2_t, b2_f, b2_0, b2_1, zB_1, zB_0, zB_b2, not_true_eq_false, not_false_eq_true, r_Mo, Nat.add_zero, Nat.add_sub_cancel, within_R, within_N, in_R, in_N, inN_yes, inR_yes, inR_pred, orNone_nn, nn_m, nn_N, f_Ct_isDay, f_Ct_isThing, f_Ct_isKind, f_Ct_isRoomSeat, f_Ct_isOffice, f_Ct_isTable, f_Ct_isPaper, f_Ct_isRule, f_Ct_isDecision, f_Mo_isOffice, f_Mo_isTable, f_Mo_isPaper, f_Mo_isRule, f_Mo_isDecision, f_Mo_isDay, f_Mo_isThing, f_Mo_paperOf, f_Mo_set, q, e5]
  · have q := rcM_r m r (show 308 ≠ 299 by omega) k
    simp -dsimp -implicitDefEqProofs (disch := omega) only [f_Mo_rule_183, ↓l_m1, l_0, l_1, l_2, l_3, l_4, l_5, l_6, l_7, l_8, l_9, l_10, l_11, l_12, l_13, l_14, l_15, l_16, l_17, l_20, l_21, l_22, l_23, l_24, l_28, l_29, l_30, l_31, l_32, l_40, l_41, l_48, l_57, l_60, l_62, l_63, l_84, l_96, l_97, l_99, l_100, l_122, l_132, l_144, l_150, l_186, l_255, l_256, l_288, l_300, l_522, l_634, l_999, l_5242, l_5410, l_5420, l_5520, l_5528, l_9999, l_65535, l_65536, l_100000, l_16777215, l_252645135, l_858993459, l_1431655765, ↓reduceIte, Nat.reduceAdd, Nat.reduceMul, Nat.reduceSub, ixN, inbN, leT, leF, ltT, ltF, eqT, eqF, eqM, eqNone, addN, mulN, subN, m1N, ↓to_bnd, bnd_some, ↓to_nmT, nmT_eq, up2_r, up2_e, pk_us, pk_un, b2_t, b2_f, b2_0, b2_1, zB_1, zB_0, zB_b2, not_true_eq_false, not_false_eq_true, r_Mo, Nat.add_zero, Nat.add_sub_cancel, within_R, within_N, in_R, in_N, inN_yes, inR_yes, inR_pred, orNone_nn, nn_m, nn_N, f_Ct_isDay, f_Ct_isThing, f_Ct_isKind, f_Ct_isRoomSeat, f_Ct_isOffice, f_Ct_isTable, f_Ct_isPaper, f_Ct_isRule, f_Ct_isDecision, f_Mo_isOffice, f_Mo_isTable, f_Mo_isPaper, f_Mo_isRule, f_Mo_isDecision, f_Mo_isDay, f_Mo_isThing, f_Mo_paperOf, f_Mo_set, rc_1, rc_2, rc_3, rc_4, rc_5, rc_6, rc_7, rm_1, rm_2, rm_4, rm_5, rm_6, rm_9, rm_11, rm_12, rm_22, rm_30, rm_34, rm_35, rm_36, rm_37, rm_38, rm_39, rm_40, rm_41, rm_42, rm_43, rm_45, rm_46, rt_0, rt_1, rt_2, rt_3, rt_4, rt_s, rw_0, rw_1, rg_a, rg_v, rs_a, rs_p, rs_r, rs_v, q, rcM]
