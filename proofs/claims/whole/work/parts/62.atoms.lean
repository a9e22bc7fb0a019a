/-! one atom, by both; the class's reader -/
def atK (B : Nat → Nat) (L k : Nat) : Option Op3 × Nat :=
  if 17 ≤ tkT B L k ∧ tkT B L k ≤ 22 then
    if tkT B L k < 20 then
      if tkT B L (k + 1) = 4 ∨ tkT B L (k + 1) = 5 then
        if tkT B L (k + 2) = 1 then (some (tkT B L k - 6, (if tkT B L (k + 1) = 4 then 60 else 62), tkV B L (k + 2)), k + 3) else (none, k + 2)
      else (none, k + 1)
    else if tkT B L (k + 1) = 1 then (some (tkT B L k - 6, 0, tkV B L (k + 1)), k + 2) else (none, k + 1)
  else (none, k)
theorem atK_some {B : Nat → Nat} {L k k' : Nat} {o : Op3} (h : atK B L k = (some o, k')) : atO o ∧ k < k' ∧ tkP B L k + 2 ≤ tkP B L k' := by
  unfold atK at h
  by_cases c : 17 ≤ tkT B L k ∧ tkT B L k ≤ 22
  · have w := tkP_w (B := B) (L := L) (k := k) (by omega) (by omega)
    rw [if_pos c] at h
    by_cases c1 : tkT B L k < 20
    · rw [if_pos c1] at h
      by_cases c2 : tkT B L (k + 1) = 4 ∨ tkT B L (k + 1) = 5
      · rw [if_pos c2] at h
        by_cases c3 : tkT B L (k + 2) = 1
        · rw [if_pos c3] at h
          have v := (tkV_lt c3).2.2
          have m1 : tkP B L (k + 1) ≤ tkP B L (k + 2) := tkP_m B L (k + 1)
          have m2 : tkP B L (k + 2) ≤ tkP B L (k + 3) := tkP_m B L (k + 2)
          obtain ⟨h1, h2⟩ := Prod.mk.inj h
          have h3 := Option.some.inj h1
          subst h3
          subst h2
          refine ⟨⟨v, by omega, by omega, fun _ => ?_⟩, by omega, by omega⟩
          show (if tkT B L (k + 1) = 4 then 60 else 62) = 60 ∨ (if tkT B L (k + 1) = 4 then 60 else 62) = 62
          split
          · exact Or.inl rfl
          · exact Or.inr rfl
        · rw [if_neg c3] at h; cases h
      · rw [if_neg c2] at h; cases h
    · rw [if_neg c1] at h
      by_cases c3 : tkT B L (k + 1) = 1
      · rw [if_pos c3] at h
        have v := (tkV_lt c3).2.2
        have m1 : tkP B L (k + 1) ≤ tkP B L (k + 2) := tkP_m B L (k + 1)
        obtain ⟨h1, h2⟩ := Prod.mk.inj h
        have h3 := Option.some.inj h1
        subst h3
        subst h2
        exact ⟨⟨v, by omega, by omega, fun q => by omega⟩, by omega, by omega⟩
      · rw [if_neg c3] at h; cases h
  · rw [if_neg c] at h; cases h
/-! the model's atom -/
theorem k_num {B : Nat → Nat} {L k A : Nat} {q : MPu} {bd : Bool} {S : List Nat} {out : List Op3} {m : Mm} (hQ : MQu B L q) (h : MXu B L q k A bd S out m) : (tkT B L k = 1 → ∃ m', f_Mo_takesNumber 298 m = some (nI 1, m') ∧ MXu B L q (k + 1) A bd S out m' ∧ m' 298 29 = nI (tkV B L k)) ∧ (tkT B L k ≠ 1 → f_Mo_takesNumber 298 m = some (nI 0, m)) := by
  have hK := h.2.1
  obtain ⟨-, -, -, e16, e17⟩ := hK
  have le := tkT_le B L k
  refine ⟨fun c => ?_, fun c => ?_⟩
  · rw [c] at e16 e17
    have e17' := e17 (by omega) (by omega)
    rw [show mvl 1 (tkV B L k) = tkV B L k from rfl] at e17'
    rw [show mtk 1 = 2 from rfl] at e16
    obtain ⟨m', z1, z2, z3⟩ := x_go (m1 := up2 m 298 29 (nI (tkV B L k))) hQ h (fun a ha => up2_r _ _ _ ha) (fun i hi => by rw [up2_e, pk_un hi])
    refine ⟨m', ?_, z3, by rw [z2.2 29 (by omega), up2_e, pk_us]⟩
    simp -dsimp -implicitDefEqProofs (disch := omega) only [f_Mo_takesNumber, ↓l_m1, l_0, l_1, l_2, l_3, l_4, l_5, l_6, l_7, l_8, l_9, l_10, l_11, l_12, l_13, l_14, l_15, l_16, l_17, l_20, l_21, l_22, l_23, l_24, l_28, l_29, l_30, l_31, l_32, l_40, l_41, l_48, l_57, l_60, l_62, l_63, l_84, l_96, l_97, l_99, l_100, l_122, l_132, l_144, l_150, l_186, l_255, l_256, l_288, l_300, l_522, l_634, l_999, l_5242, l_5410, l_5420, l_5520, l_5528, l_9999, l_65535, l_65536, l_100000, l_16777215, l_252645135, l_858993459, l_1431655765, ↓reduceIte, Nat.reduceAdd, Nat.reduceMul, Nat.reduceSub, ixN, inbN, leT, leF, ltT, ltF, eqT, eqF, eqM, eqNone, addN, mulN, subN, m1N, ↓to_bnd, bnd_some, ↓to_nmT, nmT_eq, up2_r, up2_e, pk_us, pk_un, b2_t, b2_f, b2_0, b2_1, zB_1, zB_0, zB_b2, not_true_eq_false, not_false_eq_true, r_Mo, Nat.add_zero, Nat.add_sub_cancel, within_R, within_N, in_R, in_N, inN_yes, inR_yes, inR_pred, orNone_nn, nn_m, nn_N, f_Ct_isDay, f_Ct_isThing, f_Ct_isKind, f_Ct_isRoomSeat, f_Ct_isOffice, f_Ct_isTable, f_Ct_isPaper, f_Ct_isRule, f_Ct_isDecision, f_Mo_isOffice, f_Mo_isTable, f_Mo_isPaper, f_Mo_isRule, f_Mo_isDecision, f_Mo_isDay, f_Mo_isThing, f_Mo_paperOf, f_Mo_set, e16, e17', z1]
  · have n1 : mtk (tkT B L k) ≠ 2 ∧ mtk (tkT B L k) < 100 := by unfold mtk; (repeat' split) <;> omega
    simp -dsimp -implicitDefEqProofs (disch := omega) only [f_Mo_takesNumber, ↓l_m1, l_0, l_1, l_2, l_3, l_4, l_5, l_6, l_7, l_8, l_9, l_10, l_11, l_12, l_13, l_14, l_15, l_16, l_17, l_20, l_21, l_22, l_23, l_24, l_28, l_29, l_30, l_31, l_32, l_40, l_41, l_48, l_57, l_60, l_62, l_63, l_84, l_96, l_97, l_99, l_100, l_122, l_132, l_144, l_150, l_186, l_255, l_256, l_288, l_300, l_522, l_634, l_999, l_5242, l_5410, l_5420, l_5520, l_5528, l_9999, l_65535, l_65536, l_100000, l_16777215, l_252645135, l_858993459, l_1431655765, ↓reduceIte, Nat.reduceAdd, Nat.reduceMul, Nat.reduceSub, ixN, inbN, leT, leF, ltT, ltF, eqT, eqF, eqM, eqNone, addN, mulN, subN, m1N, ↓to_bnd, bnd_some, ↓to_nmT, nmT_eq, up2_r, up2_e, pk_us, pk_un, b2_t, b2_f, b2_0, b2_1, zB_1, zB_0, zB_b2, not_true_eq_false, not_false_eq_true, r_Mo, Nat.add_zero, Nat.add_sub_cancel, within_R, within_N, in_R, in_N, inN_yes, inR_yes, inR_pred, orNone_nn, nn_m, nn_N, f_Ct_isDay, f_Ct_isThing, f_Ct_isKind, f_Ct_isRoomSeat, f_Ct_isOffice, f_Ct_isTable, f_Ct_isPaper, f_Ct_isRule, f_Ct_isDecision, f_Mo_isOffice, f_Mo_isTable, f_Mo_isPaper, f_Mo_isRule, f_Mo_isDecision, f_Mo_isDay, f_Mo_isThing, f_Mo_paperOf, f_Mo_set, e16]
theorem FL_of {B : Nat → Nat} {L k A : Nat} {q : MPu} {bd : Bool} {S : List Nat} {out : List Op3} {m : Mm} (h : MXu B L q k A bd S out m) : FLr B L q k m := ⟨h.1.1, h.1.2.1, h.2.1.2.2.1⟩
theorem k_65 {B : Nat → Nat} {L k A w s : Nat} {q : MPu} {bd : Bool} {S : List Nat} {out : List Op3} {m : Mm} (hQ : MQu B L q) (h : MXu B L q k A bd S out m) (hw : 11 ≤ w ∧ w ≤ 16) (hb : 2 * (out.length + 1 + opSu S) ≤ tkP B L k) : (tkT B L k = 1 → ∃ m', f_Mo_takesAtom_65 298 (nI w) (nI s) m = some (nI 1, m') ∧ MXu B L q (k + 1) (A + 1) (bd || bdO q.2.2.2.1 (w, s, tkV B L k)) S ((w, s, tkV B L k) :: out) m') ∧ (tkT B L k ≠ 1 → f_Mo_takesAtom_65 298 (nI w) (nI s) m = some (nI 0, m)) := by
  obtain ⟨n1, n2⟩ := k_num hQ h
  refine ⟨fun c => ?_, fun c => ?_⟩
  · obtain ⟨m1, z1, z2, z3⟩ := n1 c
    have v := (tkV_lt c).2.2
    obtain ⟨V, hV⟩ : ∃ V, V = tkV B L k := ⟨_, rfl⟩
    rw [← hV] at z3 v ⊢
    have ps := tkP_s (B := B) (L := L) (k := k) (by omega)
    have e28 := z2.2.2.2.2.2.2.2.2.2.1
    have o2 : m1 299 2 = nI q.2.2.2.1 := by rw [z2.1.1 299 (by omega) (by omega) (by omega)]; exact hQ.2.2.2.1
    have l8 := hQ.2.2.2.2
    obtain ⟨nO, hnO⟩ : ∃ nO, nO = q.2.2.2.1 := ⟨_, rfl⟩
    rw [← hnO] at o2 l8 ⊢
    have fin : ∀ b' : Bool, ∃ m', f_Mo_takesAtom_110 298 (nI w) (nI s) 298 (b2 b') m1 = some (nI 1, m') ∧ MXu B L q (k + 1) (A + 1) b' S ((w, s, V) :: out) m' := fun b' => by
      obtain ⟨hF, hK, e24, hC, e31, hS, e32, e33, e27, -, hb1, hb2⟩ := z2
      have h2 : MXu B L q (k + 1) A b' S out (up2 m1 298 28 (b2 b')) := ⟨⟨fun a h1 h2 h3 => by rw [up2_r _ _ _ h1]; exact hF.1 a h1 h2 h3, fun i hi => by rw [up2_e, pk_un (by omega)]; exact hF.2.1 i hi, fun j hj => by rw [up2_r _ _ _ (by omega)]; exact hF.2.2 j hj⟩, MTk_c hK (fun i h1 h2 => by rw [up2_e, pk_un (by omega)]), by rw [up2_e, pk_un (by omega)]; exact e24, by rw [up2_r _ _ _ (by omega)]; exact hC, by rw [up2_e, pk_un (by omega)]; exact e31, by rw [up2_r _ _ _ (by omega)]; exact hS, by rw [up2_e, pk_un (by omega)]; exact e32, by rw [up2_e, pk_un (by omega)]; exact e33, by rw [up2_e, pk_un (by omega)]; exact e27, by rw [up2_e, pk_us], hb1, hb2⟩
      obtain ⟨m2, y1, y2⟩ := x_emit hQ h2 w s V (by omega)
      obtain ⟨hF, hK, e24, hC, e31, hS, e32, e33, e27, e28, hb1, hb2⟩ := y2
      refine ⟨up2 m2 298 27 (nI (A + 1)), ?_, ⟨fun a h1 h2 h3 => by rw [up2_r _ _ _ h1]; exact hF.1 a h1 h2 h3, fun i hi => by rw [up2_e, pk_un (by omega)]; exact hF.2.1 i hi, fun j hj => by rw [up2_r _ _ _ (by omega)]; exact hF.2.2 j hj⟩, MTk_c hK (fun i h1 h2 => by rw [up2_e, pk_un (by omega)]), by rw [up2_e, pk_un (by omega)]; exact e24, by rw [up2_r _ _ _ (by omega)]; exact hC, by rw [up2_e, pk_un (by omega)]; exact e31, by rw [up2_r _ _ _ (by omega)]; exact hS, by rw [up2_e, pk_un (by omega)]; exact e32, by rw [up2_e, pk_un (by omega)]; exact e33, by rw [up2_e, pk_us], by rw [up2_e, pk_un (by omega)]; exact e28, hb1, hb2⟩
      simp -dsimp -implicitDefEqProofs (disch := omega) only [f_Mo_takesAtom_110, ↓l_m1, l_0, l_1, l_2, l_3, l_4, l_5, l_6, l_7, l_8, l_9, l_10, l_11, l_12, l_13, l_14, l_15, l_16, l_17, l_20, l_21, l_22, l_23, l_24, l_28, l_29, l_30, l_31, l_32, l_40, l_41, l_48, l_57, l_60, l_62, l_63, l_84, l_96, l_97, l_99, l_100, l_122, l_132, l_144, l_150, l_186, l_255, l_256, l_288, l_300, l_522, l_634, l_999, l_5242, l_5410, l_5420, l_5520, l_5528, l_9999, l_65535, l_65536, l_100000, l_16777215, l_252645135, l_858993459, l_1431655765, ↓reduceIte, Nat.reduceAdd, Nat.reduceMul, Nat.reduceSub, ixN, inbN, leT, leF, ltT, ltF, eqT, eqF, eqM, eqNone, addN, mulN, subN, m1N, ↓to_bnd, bnd_some, ↓to_nmT, nmT_eq, up2_r, up2_e, pk_us, pk_un, b2_t, b2_f, b2_0, b2_1, zB_1, zB_0, zB_b2, not_true_eq_false, not_false_eq_true, r_Mo, Nat.add_zero, Nat.add_sub_cancel, within_R, within_N, in_R, in_N, inN_yes, inR_yes, inR_pred, orNone_nn, nn_m, nn_N, f_Ct_isDay, f_Ct_isThing, f_Ct_isKind, f_Ct_isRoomSeat, f_Ct_isOffice, f_Ct_isTable, f_Ct_isPaper, f_Ct_isRule, f_Ct_isDecision, f_Mo_isOffice, f_Mo_isTable, f_Mo_isPaper, f_Mo_isRule, f_Mo_isDecision, f_Mo_isDay, f_Mo_isThing, f_Mo_paperOf, f_Mo_set, z3, y1, e27]
    have isO : f_Mo_isOffice m1 298 (nI V) = some (b2 (decide (V < nO))) := by
      by_cases d : V < nO
      · rw [decide_eq_true d]
        simp -dsimp -implicitDefEqProofs (disch := omega) only [↓l_m1, l_0, l_1, l_2, l_3, l_4, l_5, l_6, l_7, l_8, l_9, l_10, l_11, l_12, l_13, l_14, l_15, l_16, l_17, l_20, l_21, l_22, l_23, l_24, l_28, l_29, l_30, l_31, l_32, l_40, l_41, l_48, l_57, l_60, l_62, l_63, l_84, l_96, l_97, l_99, l_100, l_122, l_132, l_144, l_150, l_186, l_255, l_256, l_288, l_300, l_522, l_634, l_999, l_5242, l_5410, l_5420, l_5520, l_5528, l_9999, l_65535, l_65536, l_100000, l_16777215, l_252645135, l_858993459, l_1431655765, ↓reduceIte, Nat.reduceAdd, Nat.reduceMul, Nat.reduceSub, ixN, inbN, leT, leF, ltT, ltF, eqT, eqF, eqM, eqNone, addN, mulN, subN, m1N, ↓to_bnd, bnd_some, ↓to_nmT, nmT_eq, up2_r, up2_e, pk_us, pk_un, b2_t, b2_f, b2_0, b2_1, zB_1, zB_0, zB_b2, not_true_eq_false, not_false_eq_true, r_Mo, Nat.add_zero, Nat.add_sub_cancel, within_R, within_N, in_R, in_N, inN_yes, inR_yes, inR_pred, orNone_nn, nn_m, nn_N, f_Ct_isDay, f_Ct_isThing, f_Ct_isKind, f_Ct_isRoomSeat, f_Ct_isOffice, f_Ct_isTable, f_Ct_isPaper, f_Ct_isRule, f_Ct_isDecision, f_Mo_isOffice, f_Mo_isTable, f_Mo_isPaper, f_Mo_isRule, f_Mo_isDecision, f_Mo_isDay, f_Mo_isThing, f_Mo_paperOf, f_Mo_set, o2]
      · rw [decide_eq_false d]
        have nn : inN (nI V) nO = false := by
          cases e : inN (nI V) nO
          · rfl
          · obtain ⟨k2, h1, h2⟩ := inN_of (by omega) e
            rw [eqN (by omega) (by omega)] at h2
            omega
        simp -dsimp -implicitDefEqProofs (disch := omega) only [↓l_m1, l_0, l_1, l_2, l_3, l_4, l_5, l_6, l_7, l_8, l_9, l_10, l_11, l_12, l_13, l_14, l_15, l_16, l_17, l_20, l_21, l_22, l_23, l_24, l_28, l_29, l_30, l_31, l_32, l_40, l_41, l_48, l_57, l_60, l_62, l_63, l_84, l_96, l_97, l_99, l_100, l_122, l_132, l_144, l_150, l_186, l_255, l_256, l_288, l_300, l_522, l_634, l_999, l_5242, l_5410, l_5420, l_5520, l_5528, l_9999, l_65535, l_65536, l_100000, l_16777215, l_252645135, l_858993459, l_1431655765, ↓reduceIte, Nat.reduceAdd, Nat.reduceMul, Nat.reduceSub, ixN, inbN, leT, leF, ltT, ltF, eqT, eqF, eqM, eqNone, addN, mulN, subN, m1N, ↓to_bnd, bnd_some, ↓to_nmT, nmT_eq, up2_r, up2_e, pk_us, pk_un, b2_t, b2_f, b2_0, b2_1, zB_1, zB_0, zB_b2, not_true_eq_false, not_false_eq_true, r_Mo, Nat.add_zero, Nat.add_sub_cancel, within_R, within_N, in_R, in_N, inN_yes, inR_yes, inR_pred, orNone_nn, nn_m, nn_N, f_Ct_isDay, f_Ct_isThing, f_Ct_isKind, f_Ct_isRoomSeat, f_Ct_isOffice, f_Ct_isTable, f_Ct_isPaper, f_Ct_isRule, f_Ct_isDecision, f_Mo_isOffice, f_Mo_isTable, f_Mo_isPaper, f_Mo_isRule, f_Mo_isDecision, f_Mo_isDay, f_Mo_isThing, f_Mo_paperOf, f_Mo_set, o2, nn]
    unfold bdO
    cases bd
    · rw [b2_f] at e28
      by_cases c14 : w = 14 ∨ w = 16
      · by_cases d : V < nO
        · rw [decide_eq_true d] at isO
          rw [decide_eq_false (fun z => by have := z.2; dsimp only at this; omega), Bool.false_or]
          obtain ⟨m', y1, y2⟩ := fin false
          rw [b2_f] at y1
          refine ⟨m', ?_, y2⟩
          rcases c14 with rfl | rfl
          · simp -dsimp -implicitDefEqProofs (disch := omega) only [f_Mo_takesAtom_65, f_Mo_takesAtom_94, f_Mo_takesAtom_109, f_Mo_takesAtom_105, ↓reduceIte, ↓l_m1, l_0, l_1, l_2, l_3, l_4, l_5, l_6, l_7, l_8, l_9, l_10, l_11, l_12, l_13, l_14, l_15, l_16, l_17, l_20, l_21, l_22, l_23, l_24, l_28, l_29, l_30, l_31, l_32, l_40, l_41, l_48, l_57, l_60, l_62, l_63, l_84, l_96, l_97, l_99, l_100, l_122, l_132, l_144, l_150, l_186, l_255, l_256, l_288, l_300, l_522, l_634, l_999, l_5242, l_5410, l_5420, l_5520, l_5528, l_9999, l_65535, l_65536, l_100000, l_16777215, l_252645135, l_858993459, l_1431655765, bnd_some, ↓to_bnd, eqT, eqF, z1, z3, e28, isO, b2_t, b2_f, y1, not_false_eq_true, not_true_eq_false]
          · simp -dsimp -implicitDefEqProofs (disch := omega) only [f_Mo_takesAtom_65, f_Mo_takesAtom_94, f_Mo_takesAtom_109, f_Mo_takesAtom_105, ↓reduceIte, ↓l_m1, l_0, l_1, l_2, l_3, l_4, l_5, l_6, l_7, l_8, l_9, l_10, l_11, l_12, l_13, l_14, l_15, l_16, l_17, l_20, l_21, l_22, l_23, l_24, l_28, l_29, l_30, l_31, l_32, l_40, l_41, l_48, l_57, l_60, l_62, l_63, l_84, l_96, l_97, l_99, l_100, l_122, l_132, l_144, l_150, l_186, l_255, l_256, l_288, l_300, l_522, l_634, l_999, l_5242, l_5410, l_5420, l_5520, l_5528, l_9999, l_65535, l_65536, l_100000, l_16777215, l_252645135, l_858993459, l_1431655765, bnd_some, ↓to_bnd, eqT, eqF, z1, z3, e28, isO, b2_t, b2_f, y1, not_false_eq_true, not_true_eq_false]
        · rw [decide_eq_false d] at isO
          rw [decide_eq_true (show (((w, s, V) : Op3).1 = 14 ∨ ((w, s, V) : Op3).1 = 16) ∧ nO ≤ ((w, s, V) : Op3).2.2 from ⟨c14, by dsimp only; omega⟩), Bool.false_or]
          obtain ⟨m', y1, y2⟩ := fin true
          rw [b2_t] at y1
          refine ⟨m', ?_, y2⟩
          rcases c14 with rfl | rfl
          · simp -dsimp -implicitDefEqProofs (disch := omega) only [f_Mo_takesAtom_65, f_Mo_takesAtom_94, f_Mo_takesAtom_109, f_Mo_takesAtom_105, ↓reduceIte, ↓l_m1, l_0, l_1, l_2, l_3, l_4, l_5, l_6, l_7, l_8, l_9, l_10, l_11, l_12, l_13, l_14, l_15, l_16, l_17, l_20, l_21, l_22, l_23, l_24, l_28, l_29, l_30, l_31, l_32, l_40, l_41, l_48, l_57, l_60, l_62, l_63, l_84, l_96, l_97, l_99, l_100, l_122, l_132, l_144, l_150, l_186, l_255, l_256, l_288, l_300, l_522, l_634, l_999, l_5242, l_5410, l_5420, l_5520, l_5528, l_9999, l_65535, l_65536, l_100000, l_16777215, l_252645135, l_858993459, l_1431655765, bnd_some, ↓to_bnd, eqT, eqF, z1, z3, e28, isO, b2_t, b2_f, y1, not_false_eq_true, not_true_eq_false]
          · simp -dsimp -implicitDefEqProofs (disch := omega) only [f_Mo_takesAtom_65, f_Mo_takesAtom_94, f_Mo_takesAtom_109, f_Mo_takesAtom_105, ↓reduceIte, ↓l_m1, l_0, l_1, l_2, l_3, l_4, l_5, l_6, l_7, l_8, l_9, l_10, l_11, l_12, l_13, l_14, l_15, l_16, l_17, l_20, l_21, l_22, l_23, l_24, l_28, l_29, l_30, l_31, l_32, l_40, l_41, l_48, l_57, l_60, l_62, l_63, l_84, l_96, l_97, l_99, l_100, l_122, l_132, l_144, l_150, l_186, l_255, l_256, l_288, l_300, l_522, l_634, l_999, l_5242, l_5410, l_5420, l_5520, l_5528, l_9999, l_65535, l_65536, l_100000, l_16777215, l_252645135, l_858993459, l_1431655765, bnd_some, ↓to_bnd, eqT, eqF, z1, z3, e28, isO, b2_t, b2_f, y1, not_false_eq_true, not_true_eq_false]
      · rw [decide_eq_false (fun z => c14 z.1), Bool.false_or]
        obtain ⟨m', y1, y2⟩ := fin false
        rw [b2_f] at y1
        refine ⟨m', ?_, y2⟩
        have c1 : w ≠ 14 := fun z => c14 (Or.inl z)
        have c2 : w ≠ 16 := fun z => c14 (Or.inr z)
        simp -dsimp -implicitDefEqProofs (disch := omega) only [f_Mo_takesAtom_65, f_Mo_takesAtom_94, f_Mo_takesAtom_109, f_Mo_takesAtom_105, ↓reduceIte, ↓l_m1, l_0, l_1, l_2, l_3, l_4, l_5, l_6, l_7, l_8, l_9, l_10, l_11, l_12, l_13, l_14, l_15, l_16, l_17, l_20, l_21, l_22, l_23, l_24, l_28, l_29, l_30, l_31, l_32, l_40, l_41, l_48, l_57, l_60, l_62, l_63, l_84, l_96, l_97, l_99, l_100, l_122, l_132, l_144, l_150, l_186, l_255, l_256, l_288, l_300, l_522, l_634, l_999, l_5242, l_5410, l_5420, l_5520, l_5528, l_9999, l_65535, l_65536, l_100000, l_16777215, l_252645135, l_858993459, l_1431655765, bnd_some, ↓to_bnd, eqT, eqF, z1, z3, e28, b2_t, b2_f, y1, not_false_eq_true, not_true_eq_false]
    · rw [b2_t] at e28
      rw [Bool.true_or]
      obtain ⟨m', y1, y2⟩ := fin true
      rw [b2_t] at y1
      refine ⟨m', ?_, y2⟩
      simp -dsimp -implicitDefEqProofs (disch := omega) only [f_Mo_takesAtom_65, f_Mo_takesAtom_94, f_Mo_takesAtom_109, f_Mo_takesAtom_105, ↓reduceIte, ↓l_m1, l_0, l_1, l_2, l_3, l_4, l_5, l_6, l_7, l_8, l_9, l_10, l_11, l_12, l_13, l_14, l_15, l_16, l_17, l_20, l_21, l_22, l_23, l_24, l_28, l_29, l_30, l_31, l_32, l_40, l_41, l_48, l_57, l_60, l_62, l_63, l_84, l_96, l_97, l_99, l_100, l_122, l_132, l_144, l_150, l_186, l_255, l_256, l_288, l_300, l_522, l_634, l_999, l_5242, l_5410, l_5420, l_5520, l_5528, l_9999, l_65535, l_65536, l_100000, l_16777215, l_252645135, l_858993459, l_1431655765, bnd_some, ↓to_bnd, eqT, eqF, z1, z3, e28, b2_t, b2_f, y1, not_false_eq_true, not_true_eq_false]
  · have z := n2 c
    simp -dsimp -implicitDefEqProofs (disch := omega) only [f_Mo_takesAtom_65, ↓l_m1, l_0, l_1, l_2, l_3, l_4, l_5, l_6, l_7, l_8, l_9, l_10, l_11, l_12, l_13, l_14, l_15, l_16, l_17, l_20, l_21, l_22, l_23, l_24, l_28, l_29, l_30, l_31, l_32, l_40, l_41, l_48, l_57, l_60, l_62, l_63, l_84, l_96, l_97, l_99, l_100, l_122, l_132, l_144, l_150, l_186, l_255, l_256, l_288, l_300, l_522, l_634, l_999, l_5242, l_5410, l_5420, l_5520, l_5528, l_9999, l_65535, l_65536, l_100000, l_16777215, l_252645135, l_858993459, l_1431655765, ↓reduceIte, Nat.reduceAdd, Nat.reduceMul, Nat.reduceSub, ixN, inbN, leT, leF, ltT, ltF, eqT, eqF, eqM, eqNone, addN, mulN, subN, m1N, ↓to_bnd, bnd_some, ↓to_nmT, nmT_eq, up2_r, up2_e, pk_us, pk_un, b2_t, b2_f, b2_0, b2_1, zB_1, zB_0, zB_b2, not_true_eq_false, not_false_eq_true, r_Mo, Nat.add_zero, Nat.add_sub_cancel, within_R, within_N, in_R, in_N, inN_yes, inR_yes, inR_pred, orNone_nn, nn_m, nn_N, f_Ct_isDay, f_Ct_isThing, f_Ct_isKind, f_Ct_isRoomSeat, f_Ct_isOffice, f_Ct_isTable, f_Ct_isPaper, f_Ct_isRule, f_Ct_isDecision, f_Mo_isOffice, f_Mo_isTable, f_Mo_isPaper, f_Mo_isRule, f_Mo_isDecision, f_Mo_isDay, f_Mo_isThing, f_Mo_paperOf, f_Mo_set, z]
theorem m_atom {B : Nat → Nat} {L k A : Nat} {q : MPu} {bd : Bool} {S : List Nat} {out : List Op3} {m : Mm} (hQ : MQu B L q) (h : MXu B L q k A bd S out m) : ∃ m', (match atK B L k with | (some o, k') => f_Mo_takesAtom 298 m = some (nI 1, m') ∧ MXu B L q k' (A + 1) (bd || bdO q.2.2.2.1 o) S (o :: out) m' | (none, k') => f_Mo_takesAtom 298 m = some (nI 0, m') ∧ FLr B L q k' m') := by
  have hK := h.2.1
  obtain ⟨-, -, -, e16, e17⟩ := hK
  have le := tkT_le B L k
  have hb := h.2.2.2.2.2.2.2.2.2.2.1
  unfold atK
  by_cases c : 17 ≤ tkT B L k ∧ tkT B L k ≤ 22
  · rw [if_pos c]
    have w := tkP_w (B := B) (L := L) (k := k) (by omega) (by omega)
    have e17' := e17 (by omega) (by omega)
    obtain ⟨t, ht⟩ : ∃ t, t = tkT B L k := ⟨_, rfl⟩
    rw [← ht] at e16 e17' c le ⊢
    rw [show mtk t = 1 by unfold mtk; rw [if_neg (by omega), if_neg (by omega), if_neg (by omega), if_pos (by omega)]] at e16
    rw [show mvl t (tkV B L k) = t - 6 by unfold mvl; rw [if_neg (by omega), if_neg (by omega), if_neg (by omega), if_neg (by omega), if_neg (by omega), if_neg (by omega), if_neg (by omega), if_neg (by omega), if_neg (by omega)]] at e17'
    obtain ⟨m1, z1, z2, z3⟩ := x_go (m1 := m) hQ h (fun _ _ => rfl) (fun _ _ => rfl)
    by_cases c1 : t < 20
    · rw [if_pos c1]
      have s1 := k_sign z3.2.1 (w := 60) (by omega) s_lt
      have s2 := k_sign z3.2.1 (w := 62) (by omega) s_gt
      by_cases c2 : tkT B L (k + 1) = 4 ∨ tkT B L (k + 1) = 5
      · rw [if_pos c2]
        obtain ⟨sg, hsg⟩ : ∃ sg, sg = if tkT B L (k + 1) = 4 then 60 else 62 := ⟨_, rfl⟩
        rw [← hsg]
        have v17 : m1 298 17 = nI sg := by
          have q17 := z3.2.1.2.2.2.2 (by omega) (by omega)
          rw [q17, hsg]
          rcases c2 with d | d
          · rw [d, if_pos rfl]; rfl
          · rw [d, if_neg (by decide)]; rfl
        obtain ⟨m2, y1, y2, y3⟩ := x_go (m1 := m1) hQ z3 (fun _ _ => rfl) (fun _ _ => rfl)
        have ps := tkP_m B L (k + 1)
        obtain ⟨a1, a2⟩ := k_65 (w := t - 6) (s := sg) hQ y3 (by omega) (by omega)
        have st : f_Mo_takesAtom 298 m = f_Mo_takesAtom_65 298 (nI (t - 6)) (nI sg) m2 := by
          rcases c2 with d | d
          · rw [decide_eq_true d] at s1
            simp -dsimp -implicitDefEqProofs (disch := omega) only [f_Mo_takesAtom, f_Mo_takesAtom_56, ↓l_m1, l_0, l_1, l_2, l_3, l_4, l_5, l_6, l_7, l_8, l_9, l_10, l_11, l_12, l_13, l_14, l_15, l_16, l_17, l_20, l_21, l_22, l_23, l_24, l_28, l_29, l_30, l_31, l_32, l_40, l_41, l_48, l_57, l_60, l_62, l_63, l_84, l_96, l_97, l_99, l_100, l_122, l_132, l_144, l_150, l_186, l_255, l_256, l_288, l_300, l_522, l_634, l_999, l_5242, l_5410, l_5420, l_5520, l_5528, l_9999, l_65535, l_65536, l_100000, l_16777215, l_252645135, l_858993459, l_1431655765, ↓reduceIte, Nat.reduceAdd, Nat.reduceMul, Nat.reduceSub, ixN, inbN, leT, leF, ltT, ltF, eqT, eqF, eqM, eqNone, addN, mulN, subN, m1N, ↓to_bnd, bnd_some, ↓to_nmT, nmT_eq, up2_r, up2_e, pk_us, pk_un, b2_t, b2_f, b2_0, b2_1, zB_1, zB_0, zB_b2, not_true_eq_false, not_false_eq_true, r_Mo, Nat.add_zero, Nat.add_sub_cancel, within_R, within_N, in_R, in_N, inN_yes, inR_yes, inR_pred, orNone_nn, nn_m, nn_N, f_Ct_isDay, f_Ct_isThing, f_Ct_isKind, f_Ct_isRoomSeat, f_Ct_isOffice, f_Ct_isTable, f_Ct_isPaper, f_Ct_isRule, f_Ct_isDecision, f_Mo_isOffice, f_Mo_isTable, f_Mo_isPaper, f_Mo_isRule, f_Mo_isDecision, f_Mo_isDay, f_Mo_isThing, f_Mo_paperOf, f_Mo_set, e16, e17', z1, s1, y1, v17]
          · rw [decide_eq_false (by omega)] at s1
            rw [decide_eq_true d] at s2
            simp -dsimp -implicitDefEqProofs (disch := omega) only [f_Mo_takesAtom, f_Mo_takesAtom_56, ↓l_m1, l_0, l_1, l_2, l_3, l_4, l_5, l_6, l_7, l_8, l_9, l_10, l_11, l_12, l_13, l_14, l_15, l_16, l_17, l_20, l_21, l_22, l_23, l_24, l_28, l_29, l_30, l_31, l_32, l_40, l_41, l_48, l_57, l_60, l_62, l_63, l_84, l_96, l_97, l_99, l_100, l_122, l_132, l_144, l_150, l_186, l_255, l_256, l_288, l_300, l_522, l_634, l_999, l_5242, l_5410, l_5420, l_5520, l_5528, l_9999, l_65535, l_65536, l_100000, l_16777215, l_252645135, l_858993459, l_1431655765, ↓reduceIte, Nat.reduceAdd, Nat.reduceMul, Nat.reduceSub, ixN, inbN, leT, leF, ltT, ltF, eqT, eqF, eqM, eqNone, addN, mulN, subN, m1N, ↓to_bnd, bnd_some, ↓to_nmT, nmT_eq, up2_r, up2_e, pk_us, pk_un, b2_t, b2_f, b2_0, b2_1, zB_1, zB_0, zB_b2, not_true_eq_false, not_false_eq_true, r_Mo, Nat.add_zero, Nat.add_sub_cancel, within_R, within_N, in_R, in_N, inN_yes, inR_yes, inR_pred, orNone_nn, nn_m, nn_N, f_Ct_isDay, f_Ct_isThing, f_Ct_isKind, f_Ct_isRoomSeat, f_Ct_isOffice, f_Ct_isTable, f_Ct_isPaper, f_Ct_isRule, f_Ct_isDecision, f_Mo_isOffice, f_Mo_isTable, f_Mo_isPaper, f_Mo_isRule, f_Mo_isDecision, f_Mo_isDay, f_Mo_isThing, f_Mo_paperOf, f_Mo_set, e16, e17', z1, s1, s2, y1, v17]
        by_cases c3 : tkT B L (k + 2) = 1
        · rw [if_pos c3]
          obtain ⟨m', x1, x2⟩ := a1 c3
          exact ⟨m', by rw [st]; exact x1, x2⟩
        · rw [if_neg c3]
          exact ⟨m2, by rw [st]; exact a2 c3, FL_of y3⟩
      · rw [if_neg c2]
        refine ⟨m1, ?_, FL_of z3⟩
        rw [decide_eq_false (by omega)] at s1 s2
        simp -dsimp -implicitDefEqProofs (disch := omega) only [f_Mo_takesAtom, f_Mo_takesAtom_56, ↓l_m1, l_0, l_1, l_2, l_3, l_4, l_5, l_6, l_7, l_8, l_9, l_10, l_11, l_12, l_13, l_14, l_15, l_16, l_17, l_20, l_21, l_22, l_23, l_24, l_28, l_29, l_30, l_31, l_32, l_40, l_41, l_48, l_57, l_60, l_62, l_63, l_84, l_96, l_97, l_99, l_100, l_122, l_132, l_144, l_150, l_186, l_255, l_256, l_288, l_300, l_522, l_634, l_999, l_5242, l_5410, l_5420, l_5520, l_5528, l_9999, l_65535, l_65536, l_100000, l_16777215, l_252645135, l_858993459, l_1431655765, ↓reduceIte, Nat.reduceAdd, Nat.reduceMul, Nat.reduceSub, ixN, inbN, leT, leF, ltT, ltF, eqT, eqF, eqM, eqNone, addN, mulN, subN, m1N, ↓to_bnd, bnd_some, ↓to_nmT, nmT_eq, up2_r, up2_e, pk_us, pk_un, b2_t, b2_f, b2_0, b2_1, zB_1, zB_0, zB_b2, not_true_eq_false, not_false_eq_true, r_Mo, Nat.add_zero, Nat.add_sub_cancel, within_R, within_N, in_R, in_N, inN_yes, inR_yes, inR_pred, orNone_nn, nn_m, nn_N, f_Ct_isDay, f_Ct_isThing, f_Ct_isKind, f_Ct_isRoomSeat, f_Ct_isOffice, f_Ct_isTable, f_Ct_isPaper, f_Ct_isRule, f_Ct_isDecision, f_Mo_isOffice, f_Mo_isTable, f_Mo_isPaper, f_Mo_isRule, f_Mo_isDecision, f_Mo_isDay, f_Mo_isThing, f_Mo_paperOf, f_Mo_set, e16, e17', z1, s1, s2]
    · rw [if_neg c1]
      obtain ⟨a1, a2⟩ := k_65 (w := t - 6) (s := 0) hQ z3 (by omega) (by omega)
      have st : f_Mo_takesAtom 298 m = f_Mo_takesAtom_65 298 (nI (t - 6)) (nI 0) m1 := by
        simp -dsimp -implicitDefEqProofs (disch := omega) only [f_Mo_takesAtom, ↓l_m1, l_0, l_1, l_2, l_3, l_4, l_5, l_6, l_7, l_8, l_9, l_10, l_11, l_12, l_13, l_14, l_15, l_16, l_17, l_20, l_21, l_22, l_23, l_24, l_28, l_29, l_30, l_31, l_32, l_40, l_41, l_48, l_57, l_60, l_62, l_63, l_84, l_96, l_97, l_99, l_100, l_122, l_132, l_144, l_150, l_186, l_255, l_256, l_288, l_300, l_522, l_634, l_999, l_5242, l_5410, l_5420, l_5520, l_5528, l_9999, l_65535, l_65536, l_100000, l_16777215, l_252645135, l_858993459, l_1431655765, ↓reduceIte, Nat.reduceAdd, Nat.reduceMul, Nat.reduceSub, ixN, inbN, leT, leF, ltT, ltF, eqT, eqF, eqM, eqNone, addN, mulN, subN, m1N, ↓to_bnd, bnd_some, ↓to_nmT, nmT_eq, up2_r, up2_e, pk_us, pk_un, b2_t, b2_f, b2_0, b2_1, zB_1, zB_0, zB_b2, not_true_eq_false, not_false_eq_true, r_Mo, Nat.add_zero, Nat.add_sub_cancel, within_R, within_N, in_R, in_N, inN_yes, inR_yes, inR_pred, orNone_nn, nn_m, nn_N, f_Ct_isDay, f_Ct_isThing, f_Ct_isKind, f_Ct_isRoomSeat, f_Ct_isOffice, f_Ct_isTable, f_Ct_isPaper, f_Ct_isRule, f_Ct_isDecision, f_Mo_isOffice, f_Mo_isTable, f_Mo_isPaper, f_Mo_isRule, f_Mo_isDecision, f_Mo_isDay, f_Mo_isThing, f_Mo_paperOf, f_Mo_set, e16, e17', z1]
      by_cases c3 : tkT B L (k + 1) = 1
      · rw [if_pos c3]
        obtain ⟨m', x1, x2⟩ := a1 c3
        exact ⟨m', by rw [st]; exact x1, x2⟩
      · rw [if_neg c3]
        exact ⟨m1, by rw [st]; exact a2 c3, FL_of z3⟩
  · rw [if_neg c]
    refine ⟨m, ?_, FL_of h⟩
    by_cases d : 6 ≤ tkT B L k ∧ tkT B L k ≤ 22
    · have e17' := e17 (by omega) (by omega)
      rw [mvl_v (by omega)] at e17'
      have l11 : mvl (tkT B L k) 0 < 11 := (by decide +kernel : ∀ t, t < 17 → 6 ≤ t → mvl t 0 < 11) _ (by omega) d.1
      rw [show mtk (tkT B L k) = 1 by unfold mtk; rw [if_neg (by omega), if_neg (by omega), if_neg (by omega), if_pos (by omega)]] at e16
      simp -dsimp -implicitDefEqProofs (disch := omega) only [f_Mo_takesAtom, f_Mo_takesAtom_17, ↓l_m1, l_0, l_1, l_2, l_3, l_4, l_5, l_6, l_7, l_8, l_9, l_10, l_11, l_12, l_13, l_14, l_15, l_16, l_17, l_20, l_21, l_22, l_23, l_24, l_28, l_29, l_30, l_31, l_32, l_40, l_41, l_48, l_57, l_60, l_62, l_63, l_84, l_96, l_97, l_99, l_100, l_122, l_132, l_144, l_150, l_186, l_255, l_256, l_288, l_300, l_522, l_634, l_999, l_5242, l_5410, l_5420, l_5520, l_5528, l_9999, l_65535, l_65536, l_100000, l_16777215, l_252645135, l_858993459, l_1431655765, ↓reduceIte, Nat.reduceAdd, Nat.reduceMul, Nat.reduceSub, ixN, inbN, leT, leF, ltT, ltF, eqT, eqF, eqM, eqNone, addN, mulN, subN, m1N, ↓to_bnd, bnd_some, ↓to_nmT, nmT_eq, up2_r, up2_e, pk_us, pk_un, b2_t, b2_f, b2_0, b2_1, zB_1, zB_0, zB_b2, not_true_eq_false, not_false_eq_true, r_Mo, Nat.add_zero, Nat.add_sub_cancel, within_R, within_N, in_R, in_N, inN_yes, inR_yes, inR_pred, orNone_nn, nn_m, nn_N, f_Ct_isDay, f_Ct_isThing, f_Ct_isKind, f_Ct_isRoomSeat, f_Ct_isOffice, f_Ct_isTable, f_Ct_isPaper, f_Ct_isRule, f_Ct_isDecision, f_Mo_isOffice, f_Mo_isTable, f_Mo_isPaper, f_Mo_isRule, f_Mo_isDecision, f_Mo_isDay, f_Mo_isThing, f_Mo_paperOf, f_Mo_set, e16, e17']
    · have n1 : mtk (tkT B L k) ≠ 1 ∧ mtk (tkT B L k) < 100 := by unfold mtk; (repeat' split) <;> omega
      simp -dsimp -implicitDefEqProofs (disch := omega) only [f_Mo_takesAtom, f_Mo_takesAtom_17, ↓l_m1, l_0, l_1, l_2, l_3, l_4, l_5, l_6, l_7, l_8, l_9, l_10, l_11, l_12, l_13, l_14, l_15, l_16, l_17, l_20, l_21, l_22, l_23, l_24, l_28, l_29, l_30, l_31, l_32, l_40, l_41, l_48, l_57, l_60, l_62, l_63, l_84, l_96, l_97, l_99, l_100, l_122, l_132, l_144, l_150, l_186, l_255, l_256, l_288, l_300, l_522, l_634, l_999, l_5242, l_5410, l_5420, l_5520, l_5528, l_9999, l_65535, l_65536, l_100000, l_16777215, l_252645135, l_858993459, l_1431655765, ↓reduceIte, Nat.reduceAdd, Nat.reduceMul, Nat.reduceSub, ixN, inbN, leT, leF, ltT, ltF, eqT, eqF, eqM, eqNone, addN, mulN, subN, m1N, ↓to_bnd, bnd_some, ↓to_nmT, nmT_eq, up2_r, up2_e, pk_us, pk_un, b2_t, b2_f, b2_0, b2_1, zB_1, zB_0, zB_b2, not_true_eq_false, not_false_eq_true, r_Mo, Nat.add_zero, Nat.add_sub_cancel, within_R, within_N, in_R, in_N, inN_yes, inR_yes, inR_pred, orNone_nn, nn_m, nn_N, f_Ct_isDay, f_Ct_isThing, f_Ct_isKind, f_Ct_isRoomSeat, f_Ct_isOffice, f_Ct_isTable, f_Ct_isPaper, f_Ct_isRule, f_Ct_isDecision, f_Mo_isOffice, f_Mo_isTable, f_Mo_isPaper, f_Mo_isRule, f_Mo_isDecision, f_Mo_isDay, f_Mo_isThing, f_Mo_paperOf, f_Mo_set, e16]
/-! the class's reader -/
def CS (B : Nat → Nat) (L K : Nat) (m0 : Mm) (k : Nat) (c : List Op3) (m : Mm) : Prop := (∀ a, a ≠ 256 → a ≠ 261 → a ≠ 262 → m a = m0 a) ∧ (∀ i, i ≠ 7 → i ≠ 8 → m 256 i = m0 256 i) ∧ (∀ i, i ≠ 4 → i ≠ 6 → m 261 i = m0 261 i) ∧ k ≤ K ∧ m 256 7 = nI k ∧ m 256 8 = nI (tkT B L k) ∧ m 261 6 = nI c.length ∧ m 261 4 = nI (atC c) ∧ CodC (m 262) c ∧ 2 * c.length ≤ tkP B L k
theorem c_adv {B : Nat → Nat} {L K k : Nat} {m0 m : Mm} {c : List Op3} (hE : CTe B L K m0) (h : CS B L K m0 k c m) (ht : tkT B L k ≠ 0) : ∃ m', f_Tp_advance 256 m = some m' ∧ CS B L K m0 (k + 1) c m' := by
  obtain ⟨f1, f2, f3, hk, e7, e8, e6, e4, hC, hb⟩ := h
  obtain ⟨hK, k6, t0, hne, hrow⟩ := hE
  have lt : k < K := by
    by_cases q : k = K
    · rw [q] at ht; exact (ht t0).elim
    · omega
  have l6 : m 256 6 = nI K := by rw [f2 6 (by omega) (by omega)]; exact k6
  have r := (hrow (k + 1) (by omega)).1
  have pm := tkP_m B L k
  rw [← f1 258 (by omega) (by omega) (by omega)] at r
  refine ⟨up2 (up2 m 256 7 (nI (k + 1))) 256 8 (nI (tkT B L (k + 1))), ?_, fun a h1 h2 h3 => by rw [up2_r _ _ _ h1, up2_r _ _ _ h1]; exact f1 a h1 h2 h3, fun i h1 h2 => by rw [up2_e, pk_un h2, up2_e, pk_un h1]; exact f2 i h1 h2, fun i h1 h2 => by rw [up2_r _ _ _ (by omega), up2_r _ _ _ (by omega)]; exact f3 i h1 h2, by omega, by rw [up2_e, pk_un (by omega), up2_e, pk_us], by rw [up2_e, pk_us], by rw [up2_r _ _ _ (by omega), up2_r _ _ _ (by omega)]; exact e6, by rw [up2_r _ _ _ (by omega), up2_r _ _ _ (by omega)]; exact e4, by rw [up2_r _ _ _ (by omega), up2_r _ _ _ (by omega)]; exact hC, by omega⟩
  simp -dsimp -implicitDefEqProofs (disch := omega) only [f_Tp_advance, f_Tp_advance_34, ↓l_m1, l_0, l_1, l_2, l_3, l_4, l_5, l_6, l_7, l_8, l_9, l_10, l_11, l_12, l_13, l_14, l_15, l_16, l_17, l_20, l_21, l_22, l_23, l_24, l_28, l_29, l_30, l_31, l_32, l_40, l_41, l_48, l_57, l_60, l_62, l_63, l_84, l_96, l_97, l_99, l_100, l_122, l_132, l_144, l_150, l_186, l_255, l_256, l_288, l_300, l_522, l_634, l_999, l_5242, l_5410, l_5420, l_5520, l_5528, l_9999, l_65535, l_65536, l_100000, l_16777215, l_252645135, l_858993459, l_1431655765, ↓reduceIte, Nat.reduceAdd, Nat.reduceMul, Nat.reduceSub, ixN, inbN, leT, leF, ltT, ltF, eqT, eqF, eqM, eqNone, addN, mulN, subN, m1N, ↓to_bnd, bnd_some, ↓to_nmT, nmT_eq, up2_r, up2_e, pk_us, pk_un, b2_t, b2_f, b2_0, b2_1, zB_1, zB_0, zB_b2, not_true_eq_false, not_false_eq_true, r_Mo, Nat.add_zero, Nat.add_sub_cancel, within_R, within_N, in_R, in_N, inN_yes, inR_yes, inR_pred, orNone_nn, nn_m, nn_N, f_Ct_isDay, f_Ct_isThing, f_Ct_isKind, f_Ct_isRoomSeat, f_Ct_isOffice, f_Ct_isTable, f_Ct_isPaper, f_Ct_isRule, f_Ct_isDecision, f_Mo_isOffice, f_Mo_isTable, f_Mo_isPaper, f_Mo_isRule, f_Mo_isDecision, f_Mo_isDay, f_Mo_isThing, f_Mo_paperOf, f_Mo_set, rt_1, l6, e7, r]
theorem c_add {B : Nat → Nat} {L K k s n : Nat} {m0 m : Mm} {c : List Op3} (hL : L ≤ 96) (h : CS B L K m0 k c m) (o : Op3) (hs : 100000 * s + n = eCu o) (hat : (s < 9 ∧ 11 ≤ o.1) ∨ (9 ≤ s ∧ o.1 < 11)) (hs2 : s < 100) (hn : n < 100000) (hb : 2 * (c.length + 1) ≤ tkP B L k) : ∃ m', f_Ru_addStep 261 (nI s) (nI n) m = some m' ∧ CS B L K m0 k (o :: c) m' := by
  obtain ⟨f1, f2, f3, hk, e7, e8, e6, e4, hC, -⟩ := h
  have pl := (tkP_le B L k).2
  obtain ⟨l, hl⟩ : ∃ l, l = c.length := ⟨_, rfl⟩
  rw [← hl] at e6 hb
  have base : CodC (upd (m 262) l (nI (eCu o))) (o :: c) := by
    refine ⟨by rw [← hl, pk_us], CodC_c c hC (fun i hi => ?_)⟩
    rw [pk_un (by omega)]
  have es : s * 100000 + n = eCu o := by omega
  rcases hat with ⟨a1, a2⟩ | ⟨a1, a2⟩
  · refine ⟨up2 (up2 (up2 m 262 l (nI (eCu o))) 261 6 (nI (l + 1))) 261 4 (nI (atC c + 1)), ?_, fun a h1 h2 h3 => by rw [up2_r _ _ _ h2, up2_r _ _ _ h2, up2_r _ _ _ h3]; exact f1 a h1 h2 h3, fun i h1 h2 => by rw [up2_r _ _ _ (by omega), up2_r _ _ _ (by omega), up2_r _ _ _ (by omega)]; exact f2 i h1 h2, fun i h1 h2 => by rw [up2_e, pk_un h1, up2_e, pk_un h2, up2_r _ _ _ (by omega)]; exact f3 i h1 h2, hk, by simp -dsimp -implicitDefEqProofs (disch := omega) only [up2_r]; exact e7, by simp -dsimp -implicitDefEqProofs (disch := omega) only [up2_r]; exact e8, by rw [List.length_cons, ← hl, up2_e, pk_un (by omega), up2_e, pk_us], by rw [up2_e, pk_us, atC, if_pos a2], by rw [up2_r _ _ _ (by omega), up2_r _ _ _ (by omega), up2_e]; exact base, by rw [List.length_cons, ← hl]; exact hb⟩
    simp -dsimp -implicitDefEqProofs (disch := omega) only [f_Ru_addStep, f_Ru_addStep_50, ↓l_m1, l_0, l_1, l_2, l_3, l_4, l_5, l_6, l_7, l_8, l_9, l_10, l_11, l_12, l_13, l_14, l_15, l_16, l_17, l_20, l_21, l_22, l_23, l_24, l_28, l_29, l_30, l_31, l_32, l_40, l_41, l_48, l_57, l_60, l_62, l_63, l_84, l_96, l_97, l_99, l_100, l_122, l_132, l_144, l_150, l_186, l_255, l_256, l_288, l_300, l_522, l_634, l_999, l_5242, l_5410, l_5420, l_5520, l_5528, l_9999, l_65535, l_65536, l_100000, l_16777215, l_252645135, l_858993459, l_1431655765, ↓reduceIte, Nat.reduceAdd, Nat.reduceMul, Nat.reduceSub, ixN, inbN, leT, leF, ltT, ltF, eqT, eqF, eqM, eqNone, addN, mulN, subN, m1N, ↓to_bnd, bnd_some, ↓to_nmT, nmT_eq, up2_r, up2_e, pk_us, pk_un, b2_t, b2_f, b2_0, b2_1, zB_1, zB_0, zB_b2, not_true_eq_false, not_false_eq_true, r_Mo, Nat.add_zero, Nat.add_sub_cancel, within_R, within_N, in_R, in_N, inN_yes, inR_yes, inR_pred, orNone_nn, nn_m, nn_N, f_Ct_isDay, f_Ct_isThing, f_Ct_isKind, f_Ct_isRoomSeat, f_Ct_isOffice, f_Ct_isTable, f_Ct_isPaper, f_Ct_isRule, f_Ct_isDecision, f_Mo_isOffice, f_Mo_isTable, f_Mo_isPaper, f_Mo_isRule, f_Mo_isDecision, f_Mo_isDay, f_Mo_isThing, f_Mo_paperOf, f_Mo_set, rt_s, e6, e4, es]
  · refine ⟨up2 (up2 m 262 l (nI (eCu o))) 261 6 (nI (l + 1)), ?_, fun a h1 h2 h3 => by rw [up2_r _ _ _ h2, up2_r _ _ _ h3]; exact f1 a h1 h2 h3, fun i h1 h2 => by rw [up2_r _ _ _ (by omega), up2_r _ _ _ (by omega)]; exact f2 i h1 h2, fun i h1 h2 => by rw [up2_e, pk_un h2, up2_r _ _ _ (by omega)]; exact f3 i h1 h2, hk, by simp -dsimp -implicitDefEqProofs (disch := omega) only [up2_r]; exact e7, by simp -dsimp -implicitDefEqProofs (disch := omega) only [up2_r]; exact e8, by rw [List.length_cons, ← hl, up2_e, pk_us], by rw [up2_e, pk_un (by omega), up2_r _ _ _ (by omega), e4, atC, if_neg (by omega)]; rfl, by rw [up2_r _ _ _ (by omega), up2_e]; exact base, by rw [List.length_cons, ← hl]; exact hb⟩
    simp -dsimp -implicitDefEqProofs (disch := omega) only [f_Ru_addStep, f_Ru_addStep_50, ↓l_m1, l_0, l_1, l_2, l_3, l_4, l_5, l_6, l_7, l_8, l_9, l_10, l_11, l_12, l_13, l_14, l_15, l_16, l_17, l_20, l_21, l_22, l_23, l_24, l_28, l_29, l_30, l_31, l_32, l_40, l_41, l_48, l_57, l_60, l_62, l_63, l_84, l_96, l_97, l_99, l_100, l_122, l_132, l_144, l_150, l_186, l_255, l_256, l_288, l_300, l_522, l_634, l_999, l_5242, l_5410, l_5420, l_5520, l_5528, l_9999, l_65535, l_65536, l_100000, l_16777215, l_252645135, l_858993459, l_1431655765, ↓reduceIte, Nat.reduceAdd, Nat.reduceMul, Nat.reduceSub, ixN, inbN, leT, leF, ltT, ltF, eqT, eqF, eqM, eqNone, addN, mulN, subN, m1N, ↓to_bnd, bnd_some, ↓to_nmT, nmT_eq, up2_r, up2_e, pk_us, pk_un, b2_t, b2_f, b2_0, b2_1, zB_1, zB_0, zB_b2, not_true_eq_false, not_false_eq_true, r_Mo, Nat.add_zero, Nat.add_sub_cancel, within_R, within_N, in_R, in_N, inN_yes, inR_yes, inR_pred, orNone_nn, nn_m, nn_N, f_Ct_isDay, f_Ct_isThing, f_Ct_isKind, f_Ct_isRoomSeat, f_Ct_isOffice, f_Ct_isTable, f_Ct_isPaper, f_Ct_isRule, f_Ct_isDecision, f_Mo_isOffice, f_Mo_isTable, f_Mo_isPaper, f_Mo_isRule, f_Mo_isDecision, f_Mo_isDay, f_Mo_isThing, f_Mo_paperOf, f_Mo_set, rt_s, e6, e4, es]
theorem CS_num {B : Nat → Nat} {L K k : Nat} {m0 m : Mm} {c : List Op3} (hE : CTe B L K m0) (h : CS B L K m0 k c m) (ht : tkT B L k = 1) : m 260 k = nI (tkV B L k) := by
  rw [h.1 260 (by omega) (by omega) (by omega)]
  exact (hE.2.2.2.2 k h.2.2.2.1).2.2 ht
theorem c_107 {B : Nat → Nat} {L K k s w sg : Nat} {m0 m : Mm} {c : List Op3} (hE : CTe B L K m0) (hL : L ≤ 96) (h : CS B L K m0 k c m) (hs : ∀ v, 100000 * s + v = eCu (w, sg, v)) (hs9 : s < 9) (hw : 11 ≤ w) (hb : 2 * (c.length + 1) ≤ tkP B L k) : (tkT B L k = 1 → ∃ m', f_Tp_readAtom_107 256 (nI s) m = some (nI 1, m') ∧ CS B L K m0 (k + 1) ((w, sg, tkV B L k) :: c) m') ∧ (tkT B L k ≠ 1 → f_Tp_readAtom_107 256 (nI s) m = some (nI 0, m)) := by
  have e7 := h.2.2.2.2.1
  have e8 := h.2.2.2.2.2.1
  have hk := h.2.2.2.1
  have hK := hE.1
  have le := tkT_le B L k
  refine ⟨fun c1 => ?_, fun c1 => ?_⟩
  · have v := (tkV_lt c1).2.2
    have nm := CS_num hE h c1
    obtain ⟨m1, z1, z2⟩ := c_add (s := s) (n := tkV B L k) hL h (w, sg, tkV B L k) (hs _) (Or.inl ⟨hs9, hw⟩) (by omega) v hb
    obtain ⟨m2, y1, y2⟩ := c_adv hE z2 (by omega)
    rw [c1] at e8
    refine ⟨m2, ?_, y2⟩
    simp -dsimp -implicitDefEqProofs (disch := omega) only [f_Tp_readAtom_107, ↓l_m1, l_0, l_1, l_2, l_3, l_4, l_5, l_6, l_7, l_8, l_9, l_10, l_11, l_12, l_13, l_14, l_15, l_16, l_17, l_20, l_21, l_22, l_23, l_24, l_28, l_29, l_30, l_31, l_32, l_40, l_41, l_48, l_57, l_60, l_62, l_63, l_84, l_96, l_97, l_99, l_100, l_122, l_132, l_144, l_150, l_186, l_255, l_256, l_288, l_300, l_522, l_634, l_999, l_5242, l_5410, l_5420, l_5520, l_5528, l_9999, l_65535, l_65536, l_100000, l_16777215, l_252645135, l_858993459, l_1431655765, ↓reduceIte, Nat.reduceAdd, Nat.reduceMul, Nat.reduceSub, ixN, inbN, leT, leF, ltT, ltF, eqT, eqF, eqM, eqNone, addN, mulN, subN, m1N, ↓to_bnd, bnd_some, ↓to_nmT, nmT_eq, up2_r, up2_e, pk_us, pk_un, b2_t, b2_f, b2_0, b2_1, zB_1, zB_0, zB_b2, not_true_eq_false, not_false_eq_true, r_Mo, Nat.add_zero, Nat.add_sub_cancel, within_R, within_N, in_R, in_N, inN_yes, inR_yes, inR_pred, orNone_nn, nn_m, nn_N, f_Ct_isDay, f_Ct_isThing, f_Ct_isKind, f_Ct_isRoomSeat, f_Ct_isOffice, f_Ct_isTable, f_Ct_isPaper, f_Ct_isRule, f_Ct_isDecision, f_Mo_isOffice, f_Mo_isTable, f_Mo_isPaper, f_Mo_isRule, f_Mo_isDecision, f_Mo_isDay, f_Mo_isThing, f_Mo_paperOf, f_Mo_set, rt_3, rt_4, e7, e8, nm, z1, y1]
  · simp -dsimp -implicitDefEqProofs (disch := omega) only [f_Tp_readAtom_107, ↓l_m1, l_0, l_1, l_2, l_3, l_4, l_5, l_6, l_7, l_8, l_9, l_10, l_11, l_12, l_13, l_14, l_15, l_16, l_17, l_20, l_21, l_22, l_23, l_24, l_28, l_29, l_30, l_31, l_32, l_40, l_41, l_48, l_57, l_60, l_62, l_63, l_84, l_96, l_97, l_99, l_100, l_122, l_132, l_144, l_150, l_186, l_255, l_256, l_288, l_300, l_522, l_634, l_999, l_5242, l_5410, l_5420, l_5520, l_5528, l_9999, l_65535, l_65536, l_100000, l_16777215, l_252645135, l_858993459, l_1431655765, ↓reduceIte, Nat.reduceAdd, Nat.reduceMul, Nat.reduceSub, ixN, inbN, leT, leF, ltT, ltF, eqT, eqF, eqM, eqNone, addN, mulN, subN, m1N, ↓to_bnd, bnd_some, ↓to_nmT, nmT_eq, up2_r, up2_e, pk_us, pk_un, b2_t, b2_f, b2_0, b2_1, zB_1, zB_0, zB_b2, not_true_eq_false, not_false_eq_true, r_Mo, Nat.add_zero, Nat.add_sub_cancel, within_R, within_N, in_R, in_N, inN_yes, inR_yes, inR_pred, orNone_nn, nn_m, nn_N, f_Ct_isDay, f_Ct_isThing, f_Ct_isKind, f_Ct_isRoomSeat, f_Ct_isOffice, f_Ct_isTable, f_Ct_isPaper, f_Ct_isRule, f_Ct_isDecision, f_Mo_isOffice, f_Mo_isTable, f_Mo_isPaper, f_Mo_isRule, f_Mo_isDecision, f_Mo_isDay, f_Mo_isThing, f_Mo_paperOf, f_Mo_set, e8]
theorem c_atom {B : Nat → Nat} {L K k : Nat} {m0 m : Mm} {c : List Op3} (hE : CTe B L K m0) (hL : L ≤ 96) (h : CS B L K m0 k c m) : ∃ m', (match atK B L k with | (some o, k') => f_Tp_readAtom 256 m = some (nI 1, m') ∧ CS B L K m0 k' (o :: c) m' | (none, k') => f_Tp_readAtom 256 m = some (nI 0, m') ∧ k ≤ k' ∧ CS B L K m0 k' c m') := by
  have e8 := h.2.2.2.2.2.1
  have le := tkT_le B L k
  have hb := h.2.2.2.2.2.2.2.2.2
  unfold atK
  by_cases c0 : 17 ≤ tkT B L k ∧ tkT B L k ≤ 22
  · rw [if_pos c0]
    have w := tkP_w (B := B) (L := L) (k := k) (by omega) (by omega)
    obtain ⟨m1, z1, z2⟩ := c_adv hE h (by omega)
    have e81 := z2.2.2.2.2.2.1
    obtain ⟨t, ht⟩ : ∃ t, t = tkT B L k := ⟨_, rfl⟩
    rw [← ht] at e8 c0 le ⊢
    by_cases c1 : t < 20
    · rw [if_pos c1]
      have st : f_Tp_readAtom 256 m = f_Tp_readAtom_58 256 (nI (2 * (t - 17))) (nI 1) m := by
        simp -dsimp -implicitDefEqProofs (disch := omega) only [f_Tp_readAtom, f_Tp_readAtom_41, ↓l_m1, l_0, l_1, l_2, l_3, l_4, l_5, l_6, l_7, l_8, l_9, l_10, l_11, l_12, l_13, l_14, l_15, l_16, l_17, l_20, l_21, l_22, l_23, l_24, l_28, l_29, l_30, l_31, l_32, l_40, l_41, l_48, l_57, l_60, l_62, l_63, l_84, l_96, l_97, l_99, l_100, l_122, l_132, l_144, l_150, l_186, l_255, l_256, l_288, l_300, l_522, l_634, l_999, l_5242, l_5410, l_5420, l_5520, l_5528, l_9999, l_65535, l_65536, l_100000, l_16777215, l_252645135, l_858993459, l_1431655765, ↓reduceIte, Nat.reduceAdd, Nat.reduceMul, Nat.reduceSub, ixN, inbN, leT, leF, ltT, ltF, eqT, eqF, eqM, eqNone, addN, mulN, subN, m1N, ↓to_bnd, bnd_some, ↓to_nmT, nmT_eq, up2_r, up2_e, pk_us, pk_un, b2_t, b2_f, b2_0, b2_1, zB_1, zB_0, zB_b2, not_true_eq_false, not_false_eq_true, r_Mo, Nat.add_zero, Nat.add_sub_cancel, within_R, within_N, in_R, in_N, inN_yes, inR_yes, inR_pred, orNone_nn, nn_m, nn_N, f_Ct_isDay, f_Ct_isThing, f_Ct_isKind, f_Ct_isRoomSeat, f_Ct_isOffice, f_Ct_isTable, f_Ct_isPaper, f_Ct_isRule, f_Ct_isDecision, f_Mo_isOffice, f_Mo_isTable, f_Mo_isPaper, f_Mo_isRule, f_Mo_isDecision, f_Mo_isDay, f_Mo_isThing, f_Mo_paperOf, f_Mo_set, e8, Nat.zero_add]
      by_cases c2 : tkT B L (k + 1) = 4 ∨ tkT B L (k + 1) = 5
      · rw [if_pos c2]
        obtain ⟨m2, y1, y2⟩ := c_adv hE z2 (by omega)
        have pm := tkP_m B L (k + 1)
        obtain ⟨bt, hbt⟩ : ∃ bt, bt = if tkT B L (k + 1) = 4 then 0 else 1 := ⟨_, rfl⟩
        have st2 : f_Tp_readAtom_58 256 (nI (2 * (t - 17))) (nI 1) m = f_Tp_readAtom_107 256 (nI (2 * (t - 17) + bt)) m2 := by
          rcases c2 with d | d
          · rw [d] at e81
            rw [d, if_pos rfl] at hbt
            subst hbt
            simp -dsimp -implicitDefEqProofs (disch := omega) only [f_Tp_readAtom_58, f_Tp_readAtom_84, f_Tp_readAtom_98, f_Ct_bit_9, f_Ct_bit, ↓l_m1, l_0, l_1, l_2, l_3, l_4, l_5, l_6, l_7, l_8, l_9, l_10, l_11, l_12, l_13, l_14, l_15, l_16, l_17, l_20, l_21, l_22, l_23, l_24, l_28, l_29, l_30, l_31, l_32, l_40, l_41, l_48, l_57, l_60, l_62, l_63, l_84, l_96, l_97, l_99, l_100, l_122, l_132, l_144, l_150, l_186, l_255, l_256, l_288, l_300, l_522, l_634, l_999, l_5242, l_5410, l_5420, l_5520, l_5528, l_9999, l_65535, l_65536, l_100000, l_16777215, l_252645135, l_858993459, l_1431655765, ↓reduceIte, Nat.reduceAdd, Nat.reduceMul, Nat.reduceSub, ixN, inbN, leT, leF, ltT, ltF, eqT, eqF, eqM, eqNone, addN, mulN, subN, m1N, ↓to_bnd, bnd_some, ↓to_nmT, nmT_eq, up2_r, up2_e, pk_us, pk_un, b2_t, b2_f, b2_0, b2_1, zB_1, zB_0, zB_b2, not_true_eq_false, not_false_eq_true, r_Mo, Nat.add_zero, Nat.add_sub_cancel, within_R, within_N, in_R, in_N, inN_yes, inR_yes, inR_pred, orNone_nn, nn_m, nn_N, f_Ct_isDay, f_Ct_isThing, f_Ct_isKind, f_Ct_isRoomSeat, f_Ct_isOffice, f_Ct_isTable, f_Ct_isPaper, f_Ct_isRule, f_Ct_isDecision, f_Mo_isOffice, f_Mo_isTable, f_Mo_isPaper, f_Mo_isRule, f_Mo_isDecision, f_Mo_isDay, f_Mo_isThing, f_Mo_paperOf, f_Mo_set, z1, e81, y1]
          · rw [d] at e81
            rw [d, if_neg (by decide)] at hbt
            subst hbt
            simp -dsimp -implicitDefEqProofs (disch := omega) only [f_Tp_readAtom_58, f_Tp_readAtom_84, f_Tp_readAtom_98, f_Ct_bit_9, f_Ct_bit, ↓l_m1, l_0, l_1, l_2, l_3, l_4, l_5, l_6, l_7, l_8, l_9, l_10, l_11, l_12, l_13, l_14, l_15, l_16, l_17, l_20, l_21, l_22, l_23, l_24, l_28, l_29, l_30, l_31, l_32, l_40, l_41, l_48, l_57, l_60, l_62, l_63, l_84, l_96, l_97, l_99, l_100, l_122, l_132, l_144, l_150, l_186, l_255, l_256, l_288, l_300, l_522, l_634, l_999, l_5242, l_5410, l_5420, l_5520, l_5528, l_9999, l_65535, l_65536, l_100000, l_16777215, l_252645135, l_858993459, l_1431655765, ↓reduceIte, Nat.reduceAdd, Nat.reduceMul, Nat.reduceSub, ixN, inbN, leT, leF, ltT, ltF, eqT, eqF, eqM, eqNone, addN, mulN, subN, m1N, ↓to_bnd, bnd_some, ↓to_nmT, nmT_eq, up2_r, up2_e, pk_us, pk_un, b2_t, b2_f, b2_0, b2_1, zB_1, zB_0, zB_b2, not_true_eq_false, not_false_eq_true, r_Mo, Nat.add_zero, Nat.add_sub_cancel, within_R, within_N, in_R, in_N, inN_yes, inR_yes, inR_pred, orNone_nn, nn_m, nn_N, f_Ct_isDay, f_Ct_isThing, f_Ct_isKind, f_Ct_isRoomSeat, f_Ct_isOffice, f_Ct_isTable, f_Ct_isPaper, f_Ct_isRule, f_Ct_isDecision, f_Mo_isOffice, f_Mo_isTable, f_Mo_isPaper, f_Mo_isRule, f_Mo_isDecision, f_Mo_isDay, f_Mo_isThing, f_Mo_paperOf, f_Mo_set, z1, e81, y1]
        obtain ⟨a1, a2⟩ := c_107 (s := 2 * (t - 17) + bt) (w := t - 6) (sg := if tkT B L (k + 1) = 4 then 60 else 62) hE hL y2 (fun v => by
          unfold eCu
          dsimp only
          rw [if_neg (by omega), if_neg (by omega), if_neg (by omega), if_pos (by omega), hbt]
          rcases c2 with d | d
          · rw [d, if_pos rfl, if_pos rfl, if_neg (by decide)]; omega
          · rw [d]
            show 100000 * (2 * (t - 17) + 1) + v = 100000 * (2 * (t - 6 - 11) + 1) + v
            omega) (by rw [hbt]; split <;> omega) (by omega) (by omega)
        by_cases c3 : tkT B L (k + 2) = 1
        · rw [if_pos c3]
          obtain ⟨m', x1, x2⟩ := a1 c3
          exact ⟨m', by rw [st, st2]; exact x1, x2⟩
        · rw [if_neg c3]
          exact ⟨m2, by rw [st, st2]; exact a2 c3, by omega, y2⟩
      · rw [if_neg c2]
        refine ⟨m1, ?_, by omega, z2⟩
        have le1 := tkT_le B L (k + 1)
        rw [st]
        simp -dsimp -implicitDefEqProofs (disch := omega) only [f_Tp_readAtom_58, ↓l_m1, l_0, l_1, l_2, l_3, l_4, l_5, l_6, l_7, l_8, l_9, l_10, l_11, l_12, l_13, l_14, l_15, l_16, l_17, l_20, l_21, l_22, l_23, l_24, l_28, l_29, l_30, l_31, l_32, l_40, l_41, l_48, l_57, l_60, l_62, l_63, l_84, l_96, l_97, l_99, l_100, l_122, l_132, l_144, l_150, l_186, l_255, l_256, l_288, l_300, l_522, l_634, l_999, l_5242, l_5410, l_5420, l_5520, l_5528, l_9999, l_65535, l_65536, l_100000, l_16777215, l_252645135, l_858993459, l_1431655765, ↓reduceIte, Nat.reduceAdd, Nat.reduceMul, Nat.reduceSub, ixN, inbN, leT, leF, ltT, ltF, eqT, eqF, eqM, eqNone, addN, mulN, subN, m1N, ↓to_bnd, bnd_some, ↓to_nmT, nmT_eq, up2_r, up2_e, pk_us, pk_un, b2_t, b2_f, b2_0, b2_1, zB_1, zB_0, zB_b2, not_true_eq_false, not_false_eq_true, r_Mo, Nat.add_zero, Nat.add_sub_cancel, within_R, within_N, in_R, in_N, inN_yes, inR_yes, inR_pred, orNone_nn, nn_m, nn_N, f_Ct_isDay, f_Ct_isThing, f_Ct_isKind, f_Ct_isRoomSeat, f_Ct_isOffice, f_Ct_isTable, f_Ct_isPaper, f_Ct_isRule, f_Ct_isDecision, f_Mo_isOffice, f_Mo_isTable, f_Mo_isPaper, f_Mo_isRule, f_Mo_isDecision, f_Mo_isDay, f_Mo_isThing, f_Mo_paperOf, f_Mo_set, z1, e81]
    · rw [if_neg c1]
      have st : f_Tp_readAtom 256 m = f_Tp_readAtom_107 256 (nI (6 + t - 20)) m1 := by
        simp -dsimp -implicitDefEqProofs (disch := omega) only [f_Tp_readAtom, f_Tp_readAtom_41, f_Tp_readAtom_58, ↓l_m1, l_0, l_1, l_2, l_3, l_4, l_5, l_6, l_7, l_8, l_9, l_10, l_11, l_12, l_13, l_14, l_15, l_16, l_17, l_20, l_21, l_22, l_23, l_24, l_28, l_29, l_30, l_31, l_32, l_40, l_41, l_48, l_57, l_60, l_62, l_63, l_84, l_96, l_97, l_99, l_100, l_122, l_132, l_144, l_150, l_186, l_255, l_256, l_288, l_300, l_522, l_634, l_999, l_5242, l_5410, l_5420, l_5520, l_5528, l_9999, l_65535, l_65536, l_100000, l_16777215, l_252645135, l_858993459, l_1431655765, ↓reduceIte, Nat.reduceAdd, Nat.reduceMul, Nat.reduceSub, ixN, inbN, leT, leF, ltT, ltF, eqT, eqF, eqM, eqNone, addN, mulN, subN, m1N, ↓to_bnd, bnd_some, ↓to_nmT, nmT_eq, up2_r, up2_e, pk_us, pk_un, b2_t, b2_f, b2_0, b2_1, zB_1, zB_0, zB_b2, not_true_eq_false, not_false_eq_true, r_Mo, Nat.add_zero, Nat.add_sub_cancel, within_R, within_N, in_R, in_N, inN_yes, inR_yes, inR_pred, orNone_nn, nn_m, nn_N, f_Ct_isDay, f_Ct_isThing, f_Ct_isKind, f_Ct_isRoomSeat, f_Ct_isOffice, f_Ct_isTable, f_Ct_isPaper, f_Ct_isRule, f_Ct_isDecision, f_Mo_isOffice, f_Mo_isTable, f_Mo_isPaper, f_Mo_isRule, f_Mo_isDecision, f_Mo_isDay, f_Mo_isThing, f_Mo_paperOf, f_Mo_set, e8, z1]
      obtain ⟨a1, a2⟩ := c_107 (s := 6 + t - 20) (w := t - 6) (sg := 0) hE hL z2 (fun v => by
          unfold eCu
          dsimp only
          rw [if_neg (by omega), if_neg (by omega), if_neg (by omega), if_neg (by omega)]
          omega) (by omega) (by omega) (by omega)
      by_cases c3 : tkT B L (k + 1) = 1
      · rw [if_pos c3]
        obtain ⟨m', x1, x2⟩ := a1 c3
        exact ⟨m', by rw [st]; exact x1, x2⟩
      · rw [if_neg c3]
        exact ⟨m1, by rw [st]; exact a2 c3, by omega, z2⟩
  · rw [if_neg c0]
    refine ⟨m, ?_, Nat.le_refl _, h⟩
    have nR : inR (nI (tkT B L k)) 17 22 = false := by
      cases e : inR (nI (tkT B L k)) 17 22
      · rfl
      · obtain ⟨k2, h1, h2, h3⟩ := inR_of (by omega) (by omega) e
        rw [eqN (by omega) (by omega)] at h3
        omega
    simp -dsimp -implicitDefEqProofs (disch := omega) only [f_Tp_readAtom, ↓l_m1, l_0, l_1, l_2, l_3, l_4, l_5, l_6, l_7, l_8, l_9, l_10, l_11, l_12, l_13, l_14, l_15, l_16, l_17, l_20, l_21, l_22, l_23, l_24, l_28, l_29, l_30, l_31, l_32, l_40, l_41, l_48, l_57, l_60, l_62, l_63, l_84, l_96, l_97, l_99, l_100, l_122, l_132, l_144, l_150, l_186, l_255, l_256, l_288, l_300, l_522, l_634, l_999, l_5242, l_5410, l_5420, l_5520, l_5528, l_9999, l_65535, l_65536, l_100000, l_16777215, l_252645135, l_858993459, l_1431655765, ↓reduceIte, Nat.reduceAdd, Nat.reduceMul, Nat.reduceSub, ixN, inbN, leT, leF, ltT, ltF, eqT, eqF, eqM, eqNone, addN, mulN, subN, m1N, ↓to_bnd, bnd_some, ↓to_nmT, nmT_eq, up2_r, up2_e, pk_us, pk_un, b2_t, b2_f, b2_0, b2_1, zB_1, zB_0, zB_b2, not_true_eq_false, not_false_eq_true, r_Mo, Nat.add_zero, Nat.add_sub_cancel, within_R, within_N, in_R, in_N, inN_yes, inR_yes, inR_pred, orNone_nn, nn_m, nn_N, f_Ct_isDay, f_Ct_isThing, f_Ct_isKind, f_Ct_isRoomSeat, f_Ct_isOffice, f_Ct_isTable, f_Ct_isPaper, f_Ct_isRule, f_Ct_isDecision, f_Mo_isOffice, f_Mo_isTable, f_Mo_isPaper, f_Mo_isRule, f_Mo_isDecision, f_Mo_isDay, f_Mo_isThing, f_Mo_paperOf, f_Mo_set, e8, nR]
