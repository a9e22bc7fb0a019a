/-! one state becomes another -/
theorem cpy0 {f g : Nat → Int32} {n j : Nat} (h : j < n) : va_cpy f g 0 0 n j = f j := by
  rw [pk_cpy_in (Nat.zero_le _) (by omega), Nat.zero_add, Nat.sub_zero]
def cw (o j : Nat) : Prop := (o = 0 ∧ 8 ≤ j ∧ j < 13) ∨ (o = 1 ∧ 3 ≤ j ∧ j < 5) ∨ (2 ≤ o ∧ o < 5 ∧ j < 40) ∨ (o = 5 ∧ j = 4) ∨ (6 ≤ o ∧ o < 10 ∧ j < 6) ∨ (o = 12 ∧ j = 8) ∨ (13 ≤ o ∧ o < 21 ∧ j < 24) ∨ (o = 21 ∧ 4 ≤ j ∧ j < 6) ∨ (22 ≤ o ∧ o < 26 ∧ j < 20) ∨ (o = 26 ∧ j < 8) ∨ (o = 27 ∧ j < 10) ∨ (28 ≤ o ∧ o < 52 ∧ j < 14) ∨ (52 ≤ o ∧ o < 84 ∧ ((o % 2 = 0 ∧ j < 7) ∨ (o % 2 = 1 ∧ j < 96)))
def CC (σ σ' : Mm) (t s lo hi : Nat) : Prop := (∀ o j, lo ≤ o → o < hi → cw o j → σ' (t + o) j = σ (s + o) j) ∧ ∀ a, ¬ (t + lo ≤ a ∧ a < t + hi) → σ' a = σ a
def AP (t s : Nat) : Prop := s + 84 ≤ t ∨ t + 84 ≤ s
theorem CC_src {σ σ' : Mm} {t s lo hi o : Nat} (h : CC σ σ' t s lo hi) (ap : AP t s) (hh : hi ≤ 84) (ho : o < 84) : σ' (s + o) = σ (s + o) := by
  unfold AP at ap
  exact h.2 _ (by omega)
theorem CC_tr {σ σ1 σ2 : Mm} {t s a b c : Nat} (ap : AP t s) (h1 : CC σ σ1 t s a b) (h2 : CC σ1 σ2 t s b c) (hab : a ≤ b) (hbc : b ≤ c) (hc : c ≤ 84) : CC σ σ2 t s a c := by
  refine ⟨fun o j q1 q2 q3 => ?_, fun x hx => by rw [h2.2 x (by omega), h1.2 x (by omega)]⟩
  by_cases z : o < b
  · rw [h2.2 _ (by omega)]; exact h1.1 o j q1 z q3
  · rw [h2.1 o j (by omega) q2 q3, CC_src h1 ap (by omega) (by omega)]
theorem k_ho {σ : Mm} {t s : Nat} (bs : BS s) (bt : BS t) (ap : AP t s) : ∃ σ', f_Ho_become (t + 1) (s + 1) σ = some σ' ∧ CC σ σ' t s 1 5 := by
  unfold AP at ap
  refine ⟨(up2 (up2 (cp2 (cp2 (cp2 σ (s + 2) 0 (t + 2) 0 40) (s + 3) 0 (t + 3) 0 40) (s + 4) 0 (t + 4) 0 40) (t + 1) 3 (σ (s + 1) 3)) (t + 1) 4 (σ (s + 1) 4)), ?_, fun o j h1 h2 h => ?_, fun a ha => ?_⟩
  · simp -dsimp -implicitDefEqProofs (disch := omega) only [f_Ho_become, ↓l_m1, l_0, l_1, l_2, l_3, l_4, l_5, l_6, l_7, l_8, l_9, l_10, l_11, l_12, l_13, l_14, l_15, l_16, l_17, l_20, l_21, l_22, l_23, l_24, l_28, l_29, l_30, l_31, l_32, l_40, l_41, l_48, l_57, l_60, l_62, l_63, l_84, l_96, l_97, l_99, l_100, l_122, l_132, l_144, l_150, l_186, l_255, l_256, l_288, l_300, l_522, l_634, l_999, l_5242, l_5410, l_5420, l_5520, l_5528, l_9999, l_65535, l_65536, l_100000, l_16777215, l_252645135, l_858993459, l_1431655765, ↓reduceIte, Nat.reduceAdd, Nat.reduceMul, Nat.reduceSub, ixN, inbN, leT, leF, ltT, ltF, eqT, eqF, eqM, eqNone, addN, mulN, subN, m1N, ↓to_bnd, bnd_some, ↓to_nmT, nmT_eq, up2_r, up2_e, pk_us, pk_un, b2_t, b2_f, b2_0, b2_1, zB_1, zB_0, zB_b2, not_true_eq_false, not_false_eq_true, r_Mo, Nat.add_zero, Nat.add_sub_cancel, within_R, within_N, in_R, in_N, inN_yes, inR_yes, inR_pred, orNone_nn, nn_m, nn_N, f_Ct_isDay, f_Ct_isThing, f_Ct_isKind, f_Ct_isRoomSeat, f_Ct_isOffice, f_Ct_isTable, f_Ct_isPaper, f_Ct_isRule, f_Ct_isDecision, f_Mo_isOffice, f_Mo_isTable, f_Mo_isPaper, f_Mo_isRule, f_Mo_isDecision, f_Mo_isDay, f_Mo_isThing, f_Mo_paperOf, f_Mo_set, cp2_e, cp2_r, r_h0 bs, r_h1 bs, r_h2 bs, r_h0 bt, r_h1 bt, r_h2 bt]
  · unfold cw at h
    rcases (by omega : (o = 1 ∧ j = 3) ∨ (o = 1 ∧ j = 4) ∨ (o = 2 ∧ j < 40) ∨ (o = 3 ∧ j < 40) ∨ (o = 4 ∧ j < 40)) with ⟨rfl, rfl⟩ | ⟨rfl, rfl⟩ | ⟨rfl, hj⟩ | ⟨rfl, hj⟩ | ⟨rfl, hj⟩
    all_goals simp -dsimp -implicitDefEqProofs (disch := omega) only [up2_e, up2_r, cp2_e, cp2_r, pk_us, pk_un, cpy0]
  · simp -dsimp -implicitDefEqProofs (disch := omega) only [up2_r, cp2_r]
theorem k_tb {σ : Mm} {t s : Nat} (bs : BS s) (bt : BS t) (ap : AP t s) : ∃ σ', f_Tb_become (t + 5) (s + 5) σ = some σ' ∧ CC σ σ' t s 5 10 := by
  unfold AP at ap
  refine ⟨(up2 (cp2 (cp2 (cp2 (cp2 σ (s + 6) 0 (t + 6) 0 6) (s + 7) 0 (t + 7) 0 6) (s + 8) 0 (t + 8) 0 6) (s + 9) 0 (t + 9) 0 6) (t + 5) 4 (σ (s + 5) 4)), ?_, fun o j h1 h2 h => ?_, fun a ha => ?_⟩
  · simp -dsimp -implicitDefEqProofs (disch := omega) only [f_Tb_become, ↓l_m1, l_0, l_1, l_2, l_3, l_4, l_5, l_6, l_7, l_8, l_9, l_10, l_11, l_12, l_13, l_14, l_15, l_16, l_17, l_20, l_21, l_22, l_23, l_24, l_28, l_29, l_30, l_31, l_32, l_40, l_41, l_48, l_57, l_60, l_62, l_63, l_84, l_96, l_97, l_99, l_100, l_122, l_132, l_144, l_150, l_186, l_255, l_256, l_288, l_300, l_522, l_634, l_999, l_5242, l_5410, l_5420, l_5520, l_5528, l_9999, l_65535, l_65536, l_100000, l_16777215, l_252645135, l_858993459, l_1431655765, ↓reduceIte, Nat.reduceAdd, Nat.reduceMul, Nat.reduceSub, ixN, inbN, leT, leF, ltT, ltF, eqT, eqF, eqM, eqNone, addN, mulN, subN, m1N, ↓to_bnd, bnd_some, ↓to_nmT, nmT_eq, up2_r, up2_e, pk_us, pk_un, b2_t, b2_f, b2_0, b2_1, zB_1, zB_0, zB_b2, not_true_eq_false, not_false_eq_true, r_Mo, Nat.add_zero, Nat.add_sub_cancel, within_R, within_N, in_R, in_N, inN_yes, inR_yes, inR_pred, orNone_nn, nn_m, nn_N, f_Ct_isDay, f_Ct_isThing, f_Ct_isKind, f_Ct_isRoomSeat, f_Ct_isOffice, f_Ct_isTable, f_Ct_isPaper, f_Ct_isRule, f_Ct_isDecision, f_Mo_isOffice, f_Mo_isTable, f_Mo_isPaper, f_Mo_isRule, f_Mo_isDecision, f_Mo_isDay, f_Mo_isThing, f_Mo_paperOf, f_Mo_set, cp2_e, cp2_r, r_t0 bs, r_t1 bs, r_t2 bs, r_t3 bs, r_t0 bt, r_t1 bt, r_t2 bt, r_t3 bt]
  · unfold cw at h
    rcases (by omega : (o = 5 ∧ j = 4) ∨ (o = 6 ∧ j < 6) ∨ (o = 7 ∧ j < 6) ∨ (o = 8 ∧ j < 6) ∨ (o = 9 ∧ j < 6)) with ⟨rfl, rfl⟩ | ⟨rfl, hj⟩ | ⟨rfl, hj⟩ | ⟨rfl, hj⟩ | ⟨rfl, hj⟩
    all_goals simp -dsimp -implicitDefEqProofs (disch := omega) only [up2_e, up2_r, cp2_e, cp2_r, pk_us, pk_un, cpy0]
  · simp -dsimp -implicitDefEqProofs (disch := omega) only [up2_r, cp2_r]
theorem k_dk {σ : Mm} {t s : Nat} (bs : BS s) (bt : BS t) (ap : AP t s) : ∃ σ', f_Dk_become (t + 12) (s + 12) σ = some σ' ∧ CC σ σ' t s 12 21 := by
  unfold AP at ap
  refine ⟨(up2 (cp2 (cp2 (cp2 (cp2 (cp2 (cp2 (cp2 (cp2 σ (s + 13) 0 (t + 13) 0 24) (s + 14) 0 (t + 14) 0 24) (s + 15) 0 (t + 15) 0 24) (s + 16) 0 (t + 16) 0 24) (s + 17) 0 (t + 17) 0 24) (s + 18) 0 (t + 18) 0 24) (s + 19) 0 (t + 19) 0 24) (s + 20) 0 (t + 20) 0 24) (t + 12) 8 (σ (s + 12) 8)), ?_, fun o j h1 h2 h => ?_, fun a ha => ?_⟩
  · simp -dsimp -implicitDefEqProofs (disch := omega) only [f_Dk_become, ↓l_m1, l_0, l_1, l_2, l_3, l_4, l_5, l_6, l_7, l_8, l_9, l_10, l_11, l_12, l_13, l_14, l_15, l_16, l_17, l_20, l_21, l_22, l_23, l_24, l_28, l_29, l_30, l_31, l_32, l_40, l_41, l_48, l_57, l_60, l_62, l_63, l_84, l_96, l_97, l_99, l_100, l_122, l_132, l_144, l_150, l_186, l_255, l_256, l_288, l_300, l_522, l_634, l_999, l_5242, l_5410, l_5420, l_5520, l_5528, l_9999, l_65535, l_65536, l_100000, l_16777215, l_252645135, l_858993459, l_1431655765, ↓reduceIte, Nat.reduceAdd, Nat.reduceMul, Nat.reduceSub, ixN, inbN, leT, leF, ltT, ltF, eqT, eqF, eqM, eqNone, addN, mulN, subN, m1N, ↓to_bnd, bnd_some, ↓to_nmT, nmT_eq, up2_r, up2_e, pk_us, pk_un, b2_t, b2_f, b2_0, b2_1, zB_1, zB_0, zB_b2, not_true_eq_false, not_false_eq_true, r_Mo, Nat.add_zero, Nat.add_sub_cancel, within_R, within_N, in_R, in_N, inN_yes, inR_yes, inR_pred, orNone_nn, nn_m, nn_N, f_Ct_isDay, f_Ct_isThing, f_Ct_isKind, f_Ct_isRoomSeat, f_Ct_isOffice, f_Ct_isTable, f_Ct_isPaper, f_Ct_isRule, f_Ct_isDecision, f_Mo_isOffice, f_Mo_isTable, f_Mo_isPaper, f_Mo_isRule, f_Mo_isDecision, f_Mo_isDay, f_Mo_isThing, f_Mo_paperOf, f_Mo_set, cp2_e, cp2_r, r_d0 bs, r_d0 bt, r_d1 bs, r_d1 bt, r_d2 bs, r_d2 bt, r_d3 bs, r_d3 bt, r_d4 bs, r_d4 bt, r_d5 bs, r_d5 bt, r_d6 bs, r_d6 bt, r_d7 bs, r_d7 bt]
  · unfold cw at h
    rcases (by omega : (o = 12 ∧ j = 8) ∨ (o = 13 ∧ j < 24) ∨ (o = 14 ∧ j < 24) ∨ (o = 15 ∧ j < 24) ∨ (o = 16 ∧ j < 24) ∨ (o = 17 ∧ j < 24) ∨ (o = 18 ∧ j < 24) ∨ (o = 19 ∧ j < 24) ∨ (o = 20 ∧ j < 24)) with ⟨rfl, rfl⟩ | ⟨rfl, hj⟩ | ⟨rfl, hj⟩ | ⟨rfl, hj⟩ | ⟨rfl, hj⟩ | ⟨rfl, hj⟩ | ⟨rfl, hj⟩ | ⟨rfl, hj⟩ | ⟨rfl, hj⟩
    all_goals simp -dsimp -implicitDefEqProofs (disch := omega) only [up2_e, up2_r, cp2_e, cp2_r, pk_us, pk_un, cpy0]
  · simp -dsimp -implicitDefEqProofs (disch := omega) only [up2_r, cp2_r]
theorem k_cp {σ : Mm} {t s : Nat} (bs : BS s) (bt : BS t) (ap : AP t s) : ∃ σ', f_Cp_become (t + 21) (s + 21) σ = some σ' ∧ CC σ σ' t s 21 26 := by
  unfold AP at ap
  refine ⟨(up2 (up2 (cp2 (cp2 (cp2 (cp2 σ (s + 22) 0 (t + 22) 0 20) (s + 23) 0 (t + 23) 0 20) (s + 24) 0 (t + 24) 0 20) (s + 25) 0 (t + 25) 0 20) (t + 21) 4 (σ (s + 21) 4)) (t + 21) 5 (σ (s + 21) 5)), ?_, fun o j h1 h2 h => ?_, fun a ha => ?_⟩
  · simp -dsimp -implicitDefEqProofs (disch := omega) only [f_Cp_become, ↓l_m1, l_0, l_1, l_2, l_3, l_4, l_5, l_6, l_7, l_8, l_9, l_10, l_11, l_12, l_13, l_14, l_15, l_16, l_17, l_20, l_21, l_22, l_23, l_24, l_28, l_29, l_30, l_31, l_32, l_40, l_41, l_48, l_57, l_60, l_62, l_63, l_84, l_96, l_97, l_99, l_100, l_122, l_132, l_144, l_150, l_186, l_255, l_256, l_288, l_300, l_522, l_634, l_999, l_5242, l_5410, l_5420, l_5520, l_5528, l_9999, l_65535, l_65536, l_100000, l_16777215, l_252645135, l_858993459, l_1431655765, ↓reduceIte, Nat.reduceAdd, Nat.reduceMul, Nat.reduceSub, ixN, inbN, leT, leF, ltT, ltF, eqT, eqF, eqM, eqNone, addN, mulN, subN, m1N, ↓to_bnd, bnd_some, ↓to_nmT, nmT_eq, up2_r, up2_e, pk_us, pk_un, b2_t, b2_f, b2_0, b2_1, zB_1, zB_0, zB_b2, not_true_eq_false, not_false_eq_true, r_Mo, Nat.add_zero, Nat.add_sub_cancel, within_R, within_N, in_R, in_N, inN_yes, inR_yes, inR_pred, orNone_nn, nn_m, nn_N, f_Ct_isDay, f_Ct_isThing, f_Ct_isKind, f_Ct_isRoomSeat, f_Ct_isOffice, f_Ct_isTable, f_Ct_isPaper, f_Ct_isRule, f_Ct_isDecision, f_Mo_isOffice, f_Mo_isTable, f_Mo_isPaper, f_Mo_isRule, f_Mo_isDecision, f_Mo_isDay, f_Mo_isThing, f_Mo_paperOf, f_Mo_set, cp2_e, cp2_r, r_c0 bs, r_c0 bt, r_c1 bs, r_c1 bt, r_c2 bs, r_c2 bt, r_c3 bs, r_c3 bt]
  · unfold cw at h
    rcases (by omega : (o = 21 ∧ j = 4) ∨ (o = 21 ∧ j = 5) ∨ (o = 22 ∧ j < 20) ∨ (o = 23 ∧ j < 20) ∨ (o = 24 ∧ j < 20) ∨ (o = 25 ∧ j < 20)) with ⟨rfl, rfl⟩ | ⟨rfl, rfl⟩ | ⟨rfl, hj⟩ | ⟨rfl, hj⟩ | ⟨rfl, hj⟩ | ⟨rfl, hj⟩
    all_goals simp -dsimp -implicitDefEqProofs (disch := omega) only [up2_e, up2_r, cp2_e, cp2_r, pk_us, pk_un, cpy0]
  · simp -dsimp -implicitDefEqProofs (disch := omega) only [up2_r, cp2_r]
theorem k_pa {σ : Mm} {t s i : Nat} (bs : BS s) (bt : BS t) (ap : AP t s) (hi : i < 24) (z : ZpR σ s) : ∃ σ', f_Pa_become (t + 28 + i) (s + 28 + i) σ = some σ' ∧ CC σ σ' t s (28 + i) (28 + (i + 1)) := by
  unfold AP at ap
  obtain ⟨z6, z12⟩ := z i hi
  refine ⟨(up2 (up2 (up2 (up2 (up2 (up2 (up2 (up2 (up2 (up2 (up2 (up2 (up2 (up2 σ (t + 28 + i) 0 (σ (s + 28 + i) 0)) (t + 28 + i) 1 (σ (s + 28 + i) 1)) (t + 28 + i) 2 (σ (s + 28 + i) 2)) (t + 28 + i) 3 (σ (s + 28 + i) 3)) (t + 28 + i) 4 (σ (s + 28 + i) 4)) (t + 28 + i) 5 (σ (s + 28 + i) 5)) (t + 28 + i) 6 (σ (s + 28 + i) 6)) (t + 28 + i) 7 (σ (s + 28 + i) 7)) (t + 28 + i) 8 (σ (s + 28 + i) 8)) (t + 28 + i) 9 (σ (s + 28 + i) 9)) (t + 28 + i) 10 (σ (s + 28 + i) 10)) (t + 28 + i) 11 (σ (s + 28 + i) 11)) (t + 28 + i) 12 (σ (s + 28 + i) 12)) (t + 28 + i) 13 (σ (s + 28 + i) 13)), ?_, fun o j h1 h2 h => ?_, fun a ha => ?_⟩
  · simp -dsimp -implicitDefEqProofs (disch := omega) only [f_Pa_become, ↓l_m1, l_0, l_1, l_2, l_3, l_4, l_5, l_6, l_7, l_8, l_9, l_10, l_11, l_12, l_13, l_14, l_15, l_16, l_17, l_20, l_21, l_22, l_23, l_24, l_28, l_29, l_30, l_31, l_32, l_40, l_41, l_48, l_57, l_60, l_62, l_63, l_84, l_96, l_97, l_99, l_100, l_122, l_132, l_144, l_150, l_186, l_255, l_256, l_288, l_300, l_522, l_634, l_999, l_5242, l_5410, l_5420, l_5520, l_5528, l_9999, l_65535, l_65536, l_100000, l_16777215, l_252645135, l_858993459, l_1431655765, ↓reduceIte, Nat.reduceAdd, Nat.reduceMul, Nat.reduceSub, ixN, inbN, leT, leF, ltT, ltF, eqT, eqF, eqM, eqNone, addN, mulN, subN, m1N, ↓to_bnd, bnd_some, ↓to_nmT, nmT_eq, up2_r, up2_e, pk_us, pk_un, b2_t, b2_f, b2_0, b2_1, zB_1, zB_0, zB_b2, not_true_eq_false, not_false_eq_true, r_Mo, Nat.add_zero, Nat.add_sub_cancel, within_R, within_N, in_R, in_N, inN_yes, inR_yes, inR_pred, orNone_nn, nn_m, nn_N, f_Ct_isDay, f_Ct_isThing, f_Ct_isKind, f_Ct_isRoomSeat, f_Ct_isOffice, f_Ct_isTable, f_Ct_isPaper, f_Ct_isRule, f_Ct_isDecision, f_Mo_isOffice, f_Mo_isTable, f_Mo_isPaper, f_Mo_isRule, f_Mo_isDecision, f_Mo_isDay, f_Mo_isThing, f_Mo_paperOf, f_Mo_set, cp2_e, cp2_r, z6, z12]
  · unfold cw at h
    rcases (by omega : (o = 28 + i ∧ j = 0) ∨ (o = 28 + i ∧ j = 1) ∨ (o = 28 + i ∧ j = 2) ∨ (o = 28 + i ∧ j = 3) ∨ (o = 28 + i ∧ j = 4) ∨ (o = 28 + i ∧ j = 5) ∨ (o = 28 + i ∧ j = 6) ∨ (o = 28 + i ∧ j = 7) ∨ (o = 28 + i ∧ j = 8) ∨ (o = 28 + i ∧ j = 9) ∨ (o = 28 + i ∧ j = 10) ∨ (o = 28 + i ∧ j = 11) ∨ (o = 28 + i ∧ j = 12) ∨ (o = 28 + i ∧ j = 13)) with ⟨rfl, rfl⟩ | ⟨rfl, rfl⟩ | ⟨rfl, rfl⟩ | ⟨rfl, rfl⟩ | ⟨rfl, rfl⟩ | ⟨rfl, rfl⟩ | ⟨rfl, rfl⟩ | ⟨rfl, rfl⟩ | ⟨rfl, rfl⟩ | ⟨rfl, rfl⟩ | ⟨rfl, rfl⟩ | ⟨rfl, rfl⟩ | ⟨rfl, rfl⟩ | ⟨rfl, rfl⟩
    all_goals simp -dsimp -implicitDefEqProofs (disch := omega) only [← Nat.add_assoc, up2_e, up2_r, cp2_e, cp2_r, pk_us, pk_un, cpy0]
  · simp -dsimp -implicitDefEqProofs (disch := omega) only [up2_r, cp2_r]
theorem k_ru {σ : Mm} {t s i : Nat} (bs : BS s) (bt : BS t) (ap : AP t s) (hi : i < 16) : ∃ σ', f_Ru_become (t + 52 + 2 * i) (s + 52 + 2 * i) σ = some σ' ∧ CC σ σ' t s (52 + 2 * i) (52 + 2 * (i + 1)) := by
  unfold AP at ap
  refine ⟨(cp2 (up2 (up2 (up2 (up2 (up2 (up2 (up2 σ (t + 52 + 2 * i) 0 (σ (s + 52 + 2 * i) 0)) (t + 52 + 2 * i) 1 (σ (s + 52 + 2 * i) 1)) (t + 52 + 2 * i) 2 (σ (s + 52 + 2 * i) 2)) (t + 52 + 2 * i) 3 (σ (s + 52 + 2 * i) 3)) (t + 52 + 2 * i) 4 (σ (s + 52 + 2 * i) 4)) (t + 52 + 2 * i) 5 (σ (s + 52 + 2 * i) 5)) (t + 52 + 2 * i) 6 (σ (s + 52 + 2 * i) 6)) (s + 53 + 2 * i) 0 (t + 53 + 2 * i) 0 96), ?_, fun o j h1 h2 h => ?_, fun a ha => ?_⟩
  · simp -dsimp -implicitDefEqProofs (disch := omega) only [f_Ru_become, ↓l_m1, l_0, l_1, l_2, l_3, l_4, l_5, l_6, l_7, l_8, l_9, l_10, l_11, l_12, l_13, l_14, l_15, l_16, l_17, l_20, l_21, l_22, l_23, l_24, l_28, l_29, l_30, l_31, l_32, l_40, l_41, l_48, l_57, l_60, l_62, l_63, l_84, l_96, l_97, l_99, l_100, l_122, l_132, l_144, l_150, l_186, l_255, l_256, l_288, l_300, l_522, l_634, l_999, l_5242, l_5410, l_5420, l_5520, l_5528, l_9999, l_65535, l_65536, l_100000, l_16777215, l_252645135, l_858993459, l_1431655765, ↓reduceIte, Nat.reduceAdd, Nat.reduceMul, Nat.reduceSub, ixN, inbN, leT, leF, ltT, ltF, eqT, eqF, eqM, eqNone, addN, mulN, subN, m1N, ↓to_bnd, bnd_some, ↓to_nmT, nmT_eq, up2_r, up2_e, pk_us, pk_un, b2_t, b2_f, b2_0, b2_1, zB_1, zB_0, zB_b2, not_true_eq_false, not_false_eq_true, r_Mo, Nat.add_zero, Nat.add_sub_cancel, within_R, within_N, in_R, in_N, inN_yes, inR_yes, inR_pred, orNone_nn, nn_m, nn_N, f_Ct_isDay, f_Ct_isThing, f_Ct_isKind, f_Ct_isRoomSeat, f_Ct_isOffice, f_Ct_isTable, f_Ct_isPaper, f_Ct_isRule, f_Ct_isDecision, f_Mo_isOffice, f_Mo_isTable, f_Mo_isPaper, f_Mo_isRule, f_Mo_isDecision, f_Mo_isDay, f_Mo_isThing, f_Mo_paperOf, f_Mo_set, cp2_e, cp2_r, r_rs bs, r_rs bt]
  · unfold cw at h
    rcases (by omega : (o = 52 + 2 * i ∧ j = 0) ∨ (o = 52 + 2 * i ∧ j = 1) ∨ (o = 52 + 2 * i ∧ j = 2) ∨ (o = 52 + 2 * i ∧ j = 3) ∨ (o = 52 + 2 * i ∧ j = 4) ∨ (o = 52 + 2 * i ∧ j = 5) ∨ (o = 52 + 2 * i ∧ j = 6) ∨ (o = 53 + 2 * i ∧ j < 96)) with ⟨rfl, rfl⟩ | ⟨rfl, rfl⟩ | ⟨rfl, rfl⟩ | ⟨rfl, rfl⟩ | ⟨rfl, rfl⟩ | ⟨rfl, rfl⟩ | ⟨rfl, rfl⟩ | ⟨rfl, hj⟩
    all_goals simp -dsimp -implicitDefEqProofs (disch := omega) only [← Nat.add_assoc, up2_e, up2_r, cp2_e, cp2_r, pk_us, pk_un, cpy0]
  · simp -dsimp -implicitDefEqProofs (disch := omega) only [up2_r, cp2_r]
theorem k_last {σ : Mm} {t s : Nat} (bs : BS s) (bt : BS t) (ap : AP t s) : ∃ σ', CC σ σ' t s 26 28 ∧ ∃ σ'', CC σ' σ'' t s 0 1 ∧ (nmM (cp2 σ (rfT s 6) (ix (0 : Int32)) (rfT t 6) (ix (0 : Int32)) (ix (8 : Int32))) fun σ114 => nmM (cp2 σ114 (rfT s 7) (ix (0 : Int32)) (rfT t 7) (ix (0 : Int32)) (ix (10 : Int32))) fun σ129 => nmM (up2 σ129 t 8 (σ129 s 8)) fun σ137 => nmM (up2 σ137 t 9 (σ137 s 9)) fun σ145 => nmM (up2 σ145 t 10 (σ145 s 10)) fun σ153 => nmM (up2 σ153 t 11 (σ153 s 11)) fun σ161 => nmM (up2 σ161 t 12 (σ161 s 12)) fun σ169 => some σ169) = some σ'' := by
  unfold AP at ap
  refine ⟨cp2 (cp2 σ (s + 26) 0 (t + 26) 0 8) (s + 27) 0 (t + 27) 0 10, ⟨fun o j h1 h2 h => ?_, fun a ha => ?_⟩, up2 (up2 (up2 (up2 (up2 (cp2 (cp2 σ (s + 26) 0 (t + 26) 0 8) (s + 27) 0 (t + 27) 0 10) t 8 (σ s 8)) t 9 (σ s 9)) t 10 (σ s 10)) t 11 (σ s 11)) t 12 (σ s 12), ⟨fun o j h1 h2 h => ?_, fun a ha => ?_⟩, ?_⟩
  · unfold cw at h
    rcases (by omega : (o = 26 ∧ j < 8) ∨ (o = 27 ∧ j < 10)) with ⟨rfl, hj⟩ | ⟨rfl, hj⟩
    all_goals simp -dsimp -implicitDefEqProofs (disch := omega) only [cp2_e, cp2_r, cpy0]
  · simp -dsimp -implicitDefEqProofs (disch := omega) only [cp2_r]
  · unfold cw at h
    rcases (by omega : (o = 0 ∧ j = 8) ∨ (o = 0 ∧ j = 9) ∨ (o = 0 ∧ j = 10) ∨ (o = 0 ∧ j = 11) ∨ (o = 0 ∧ j = 12)) with ⟨rfl, rfl⟩ | ⟨rfl, rfl⟩ | ⟨rfl, rfl⟩ | ⟨rfl, rfl⟩ | ⟨rfl, rfl⟩
    all_goals simp -dsimp -implicitDefEqProofs (disch := omega) only [Nat.add_zero, up2_e, up2_r, cp2_e, cp2_r, pk_us, pk_un]
  · simp -dsimp -implicitDefEqProofs (disch := omega) only [up2_r]
  · simp -dsimp -implicitDefEqProofs (disch := omega) only [↓l_m1, l_0, l_1, l_2, l_3, l_4, l_5, l_6, l_7, l_8, l_9, l_10, l_11, l_12, l_13, l_14, l_15, l_16, l_17, l_20, l_21, l_22, l_23, l_24, l_28, l_29, l_30, l_31, l_32, l_40, l_41, l_48, l_57, l_60, l_62, l_63, l_84, l_96, l_97, l_99, l_100, l_122, l_132, l_144, l_150, l_186, l_255, l_256, l_288, l_300, l_522, l_634, l_999, l_5242, l_5410, l_5420, l_5520, l_5528, l_9999, l_65535, l_65536, l_100000, l_16777215, l_252645135, l_858993459, l_1431655765, ↓reduceIte, Nat.reduceAdd, Nat.reduceMul, Nat.reduceSub, ixN, inbN, leT, leF, ltT, ltF, eqT, eqF, eqM, eqNone, addN, mulN, subN, m1N, ↓to_bnd, bnd_some, ↓to_nmT, nmT_eq, up2_r, up2_e, pk_us, pk_un, b2_t, b2_f, b2_0, b2_1, zB_1, zB_0, zB_b2, not_true_eq_false, not_false_eq_true, r_Mo, Nat.add_zero, Nat.add_sub_cancel, within_R, within_N, in_R, in_N, inN_yes, inR_yes, inR_pred, orNone_nn, nn_m, nn_N, f_Ct_isDay, f_Ct_isThing, f_Ct_isKind, f_Ct_isRoomSeat, f_Ct_isOffice, f_Ct_isTable, f_Ct_isPaper, f_Ct_isRule, f_Ct_isDecision, f_Mo_isOffice, f_Mo_isTable, f_Mo_isPaper, f_Mo_isRule, f_Mo_isDecision, f_Mo_isDay, f_Mo_isThing, f_Mo_paperOf, f_Mo_set, r_s6 bs, r_s6 bt, r_s7 bs, r_s7 bt, cp2_r]
theorem CC_Zp {σ σ' : Mm} {t s lo hi : Nat} (h : CC σ σ' t s lo hi) (ap : AP t s) (hh : hi ≤ 84) (z : ZpR σ s) : ZpR σ' s := by
  intro i hi
  rw [Nat.add_assoc, CC_src h ap hh (by omega), ← Nat.add_assoc]
  exact z i hi
theorem k_pas {t s : Nat} (bs : BS s) (bt : BS t) (ap : AP t s) : ∀ m k f (σ : Mm), k + m = 24 → m < f → ZpR σ s → ∃ σ', f_St_become_24 f t s (nI k) σ = f_St_become_53 NN t s (nI 0) σ' ∧ CC σ σ' t s (28 + k) 52 := by
  intro m
  induction m with
  | zero =>
    intro k f σ hk hf z
    obtain ⟨f, rfl⟩ : ∃ f', f = f' + 1 := ⟨f - 1, by omega⟩
    exact ⟨σ, by simp -dsimp -implicitDefEqProofs (disch := omega) only [f_St_become_24, ↓l_m1, l_0, l_1, l_2, l_3, l_4, l_5, l_6, l_7, l_8, l_9, l_10, l_11, l_12, l_13, l_14, l_15, l_16, l_17, l_20, l_21, l_22, l_23, l_24, l_28, l_29, l_30, l_31, l_32, l_40, l_41, l_48, l_57, l_60, l_62, l_63, l_84, l_96, l_97, l_99, l_100, l_122, l_132, l_144, l_150, l_186, l_255, l_256, l_288, l_300, l_522, l_634, l_999, l_5242, l_5410, l_5420, l_5520, l_5528, l_9999, l_65535, l_65536, l_100000, l_16777215, l_252645135, l_858993459, l_1431655765, ↓reduceIte, Nat.reduceAdd, Nat.reduceMul, Nat.reduceSub, ixN, inbN, leT, leF, ltT, ltF, eqT, eqF, eqM, eqNone, addN, mulN, subN, m1N, ↓to_bnd, bnd_some, ↓to_nmT, nmT_eq, up2_r, up2_e, pk_us, pk_un, b2_t, b2_f, b2_0, b2_1, zB_1, zB_0, zB_b2, not_true_eq_false, not_false_eq_true, r_Mo, Nat.add_zero, Nat.add_sub_cancel, within_R, within_N, in_R, in_N, inN_yes, inR_yes, inR_pred, orNone_nn, nn_m, nn_N, f_Ct_isDay, f_Ct_isThing, f_Ct_isKind, f_Ct_isRoomSeat, f_Ct_isOffice, f_Ct_isTable, f_Ct_isPaper, f_Ct_isRule, f_Ct_isDecision, f_Mo_isOffice, f_Mo_isTable, f_Mo_isPaper, f_Mo_isRule, f_Mo_isDecision, f_Mo_isDay, f_Mo_isThing, f_Mo_paperOf, f_Mo_set], fun o j h1 h2 => by omega, fun a h => rfl⟩
  | succ m ih =>
    intro k f σ hk hf z
    obtain ⟨f, rfl⟩ : ∃ f', f = f' + 1 := ⟨f - 1, by omega⟩
    obtain ⟨σ1, e1, c1⟩ := k_pa bs bt ap (show k < 24 by omega) z
    obtain ⟨σ2, e2, c2⟩ := ih (k + 1) f σ1 (by omega) (by omega) (CC_Zp c1 ap (by omega) z)
    refine ⟨σ2, ?_, CC_tr ap c1 c2 (by omega) (by omega) (by omega)⟩
    rw [← e2]
    simp -dsimp -implicitDefEqProofs (disch := omega) only [f_St_become_24, ↓l_m1, l_0, l_1, l_2, l_3, l_4, l_5, l_6, l_7, l_8, l_9, l_10, l_11, l_12, l_13, l_14, l_15, l_16, l_17, l_20, l_21, l_22, l_23, l_24, l_28, l_29, l_30, l_31, l_32, l_40, l_41, l_48, l_57, l_60, l_62, l_63, l_84, l_96, l_97, l_99, l_100, l_122, l_132, l_144, l_150, l_186, l_255, l_256, l_288, l_300, l_522, l_634, l_999, l_5242, l_5410, l_5420, l_5520, l_5528, l_9999, l_65535, l_65536, l_100000, l_16777215, l_252645135, l_858993459, l_1431655765, ↓reduceIte, Nat.reduceAdd, Nat.reduceMul, Nat.reduceSub, ixN, inbN, leT, leF, ltT, ltF, eqT, eqF, eqM, eqNone, addN, mulN, subN, m1N, ↓to_bnd, bnd_some, ↓to_nmT, nmT_eq, up2_r, up2_e, pk_us, pk_un, b2_t, b2_f, b2_0, b2_1, zB_1, zB_0, zB_b2, not_true_eq_false, not_false_eq_true, r_Mo, Nat.add_zero, Nat.add_sub_cancel, within_R, within_N, in_R, in_N, inN_yes, inR_yes, inR_pred, orNone_nn, nn_m, nn_N, f_Ct_isDay, f_Ct_isThing, f_Ct_isKind, f_Ct_isRoomSeat, f_Ct_isOffice, f_Ct_isTable, f_Ct_isPaper, f_Ct_isRule, f_Ct_isDecision, f_Mo_isOffice, f_Mo_isTable, f_Mo_isPaper, f_Mo_isRule, f_Mo_isDecision, f_Mo_isDay, f_Mo_isThing, f_Mo_paperOf, f_Mo_set, r_s2 bs, r_s2 bt, r_p bs, r_p bt, e1]
def lastF (t s : Nat) (σ : Mm) : Option Mm := (f_Dk_become (rfT t 4) (rfT s 4) σ).bind fun v88 => (f_Cp_become (rfT t 5) (rfT s 5) v88).bind fun v99 => nmM (cp2 v99 (rfT s 6) (ix (0 : Int32)) (rfT t 6) (ix (0 : Int32)) (ix (8 : Int32))) fun σ114 => nmM (cp2 σ114 (rfT s 7) (ix (0 : Int32)) (rfT t 7) (ix (0 : Int32)) (ix (10 : Int32))) fun σ129 => nmM (up2 σ129 t 8 (σ129 s 8)) fun σ137 => nmM (up2 σ137 t 9 (σ137 s 9)) fun σ145 => nmM (up2 σ145 t 10 (σ145 s 10)) fun σ153 => nmM (up2 σ153 t 11 (σ153 s 11)) fun σ161 => nmM (up2 σ161 t 12 (σ161 s 12)) fun σ169 => some σ169
theorem k_rus {t s : Nat} (bs : BS s) (bt : BS t) (ap : AP t s) : ∀ m k f (σ : Mm), k + m = 16 → m < f → ∃ σ', f_St_become_53 f t s (nI k) σ = lastF t s σ' ∧ CC σ σ' t s (52 + 2 * k) 84 := by
  intro m
  induction m with
  | zero =>
    intro k f σ hk hf
    obtain ⟨f, rfl⟩ : ∃ f', f = f' + 1 := ⟨f - 1, by omega⟩
    refine ⟨σ, ?_, fun o j h1 h2 => by omega, fun a h => rfl⟩
    obtain rfl : k = 16 := by omega
    rw [f_St_become_53, l_16, if_pos (by decide)]
    rfl
  | succ m ih =>
    intro k f σ hk hf
    obtain ⟨f, rfl⟩ : ∃ f', f = f' + 1 := ⟨f - 1, by omega⟩
    obtain ⟨σ1, e1, c1⟩ := k_ru (σ := σ) bs bt ap (show k < 16 by omega)
    obtain ⟨σ2, e2, c2⟩ := ih (k + 1) f σ1 (by omega) (by omega)
    refine ⟨σ2, ?_, CC_tr ap c1 c2 (by omega) (by omega) (by omega)⟩
    rw [← e2]
    simp -dsimp -implicitDefEqProofs (disch := omega) only [f_St_become_53, ↓l_m1, l_0, l_1, l_2, l_3, l_4, l_5, l_6, l_7, l_8, l_9, l_10, l_11, l_12, l_13, l_14, l_15, l_16, l_17, l_20, l_21, l_22, l_23, l_24, l_28, l_29, l_30, l_31, l_32, l_40, l_41, l_48, l_57, l_60, l_62, l_63, l_84, l_96, l_97, l_99, l_100, l_122, l_132, l_144, l_150, l_186, l_255, l_256, l_288, l_300, l_522, l_634, l_999, l_5242, l_5410, l_5420, l_5520, l_5528, l_9999, l_65535, l_65536, l_100000, l_16777215, l_252645135, l_858993459, l_1431655765, ↓reduceIte, Nat.reduceAdd, Nat.reduceMul, Nat.reduceSub, ixN, inbN, leT, leF, ltT, ltF, eqT, eqF, eqM, eqNone, addN, mulN, subN, m1N, ↓to_bnd, bnd_some, ↓to_nmT, nmT_eq, up2_r, up2_e, pk_us, pk_un, b2_t, b2_f, b2_0, b2_1, zB_1, zB_0, zB_b2, not_true_eq_false, not_false_eq_true, r_Mo, Nat.add_zero, Nat.add_sub_cancel, within_R, within_N, in_R, in_N, inN_yes, inR_yes, inR_pred, orNone_nn, nn_m, nn_N, f_Ct_isDay, f_Ct_isThing, f_Ct_isKind, f_Ct_isRoomSeat, f_Ct_isOffice, f_Ct_isTable, f_Ct_isPaper, f_Ct_isRule, f_Ct_isDecision, f_Mo_isOffice, f_Mo_isTable, f_Mo_isPaper, f_Mo_isRule, f_Mo_isDecision, f_Mo_isDay, f_Mo_isThing, f_Mo_paperOf, f_Mo_set, r_s3 bs, r_s3 bt, r_r bs, r_r bt, e1]
theorem k_become {σ : Mm} {t s : Nat} (bs : BS s) (bt : BS t) (ap : AP t s) (z : ZpR σ s) : ∃ σ', f_St_become t s σ = some σ' ∧ (∀ o j, cw o j → σ' (t + o) j = σ (s + o) j) ∧ ∀ a, ¬ (t ≤ a ∧ a < t + 84) → σ' a = σ a := by
  obtain ⟨σ1, e1, c1⟩ := k_ho (σ := σ) bs bt ap
  obtain ⟨σ2, e2, c2⟩ := k_tb (σ := σ1) bs bt ap
  have c12 := CC_tr ap c1 c2 (by omega) (by omega) (by omega)
  obtain ⟨σ3, e3, c3⟩ := k_pas bs bt ap 24 0 NN σ2 (by omega) (NN_lt (by omega)) (CC_Zp c12 ap (by omega) z)
  obtain ⟨σ4, e4, c4⟩ := k_rus bs bt ap 16 0 NN σ3 (by omega) (NN_lt (by omega))
  have c34 := CC_tr ap c3 c4 (by omega) (by omega) (by omega)
  obtain ⟨σ5, e5, c5⟩ := k_dk (σ := σ4) bs bt ap
  obtain ⟨σ6, e6, c6⟩ := k_cp (σ := σ5) bs bt ap
  have c56 := CC_tr ap c5 c6 (by omega) (by omega) (by omega)
  obtain ⟨σ7, c7, σ8, c8, e8⟩ := k_last (σ := σ6) bs bt ap
  have c57 := CC_tr ap c56 c7 (by omega) (by omega) (by omega)
  refine ⟨σ8, ?_, fun o j h => ?_, fun a h => ?_⟩
  · unfold f_St_become
    rw [r_s0 bs, r_s0 bt, e1, Option.bind_some, r_s1 bs, r_s1 bt, e2, Option.bind_some]
    refine e3.trans (e4.trans ?_)
    unfold lastF
    rw [r_s4 bs, r_s4 bt, e5, Option.bind_some, r_s5 bs, r_s5 bt, e6, Option.bind_some]
    exact e8
  · have ho : o < 84 := by unfold cw at h; omega
    by_cases k0 : o < 1
    · rw [c8.1 o j (by omega) k0 h, CC_src c57 ap (by omega) ho, CC_src c34 ap (by omega) ho, CC_src c12 ap (by omega) ho]
    · rw [c8.2 _ (by omega)]
      by_cases k1 : 12 ≤ o ∧ o < 28
      · rw [c57.1 o j k1.1 k1.2 h, CC_src c34 ap (by omega) ho, CC_src c12 ap (by omega) ho]
      · rw [c57.2 _ (by omega)]
        by_cases k2 : 28 ≤ o
        · rw [c34.1 o j (by omega) ho h, CC_src c12 ap (by omega) ho]
        · rw [c34.2 _ (by omega)]
          exact c12.1 o j (by omega) (by unfold cw at h; omega) h
  · rw [c8.2 _ (by omega), c57.2 _ (by omega), c34.2 _ (by omega), c12.2 _ (by omega)]

theorem StR_t {σ σ' : Mm} {t s D : Nat} {g : Nat → Int32} (hS : StR σ s g) (hV : VG D g) (E : ∀ o j, cw o j → σ' (t + o) j = σ (s + o) j) : StR σ' t g := by
  obtain ⟨h1, h2, h3, h4, h5, h6, h7, h8, h9⟩ := hS
  obtain ⟨v1, v2, v3, v4, v5, v6, v7, v8, v9⟩ := hV
  have E0 : ∀ j, 8 ≤ j → j < 13 → σ' t j = σ s j := fun j p q => E 0 j (by unfold cw; omega)
  refine ⟨?_, ?_, ?_, ?_, ?_, ?_, ?_, ?_, ?_⟩
  · unfold ScR; rw [E0 8 (by omega) (by omega), E0 9 (by omega) (by omega)]; exact h1
  · have hm := v2.2.2
    refine ⟨by rw [E 1 3 (by unfold cw; omega)]; exact h2.1, by rw [E 1 4 (by unfold cw; omega)]; exact h2.2.1, fun i hi => ?_⟩
    rw [E 2 i (by unfold cw; omega), E 3 i (by unfold cw; omega), E 4 i (by unfold cw; omega)]
    exact h2.2.2 i hi
  · have hm := v3.1.2
    refine ⟨by rw [E 5 4 (by unfold cw; omega)]; exact h3.1, fun i hi => ?_⟩
    rw [E 6 i (by unfold cw; omega), E 7 i (by unfold cw; omega), E 8 i (by unfold cw; omega), E 9 i (by unfold cw; omega)]
    exact h3.2 i hi
  · have hm := v4.1.2
    have EP : ∀ i j, i < 24 → j < 14 → σ' (t + 28 + i) j = σ (s + 28 + i) j := fun i j p q => by
      rw [Nat.add_assoc, Nat.add_assoc, E (28 + i) j (by unfold cw; omega)]
    refine ⟨by rw [E0 10 (by omega) (by omega)]; exact h4.1, fun i hi => ?_, fun i hi => ?_⟩
    · unfold PaR
      rw [EP i 0 (by omega) (by omega), EP i 1 (by omega) (by omega), EP i 2 (by omega) (by omega), EP i 3 (by omega) (by omega), EP i 4 (by omega) (by omega), EP i 5 (by omega) (by omega), EP i 6 (by omega) (by omega), EP i 7 (by omega) (by omega), EP i 8 (by omega) (by omega), EP i 9 (by omega) (by omega), EP i 10 (by omega) (by omega), EP i 11 (by omega) (by omega), EP i 12 (by omega) (by omega), EP i 13 (by omega) (by omega)]
      exact h4.2.1 i hi
    · rw [EP i 6 hi (by omega), EP i 12 hi (by omega)]
      exact h4.2.2 i hi
  · have hm := v5.1.2
    refine ⟨by rw [E0 11 (by omega) (by omega)]; exact h5.1, fun r hr => ?_⟩
    have ER : ∀ j, j < 7 → σ' (t + 52 + 2 * r) j = σ (s + 52 + 2 * r) j := fun j q => by
      rw [Nat.add_assoc, Nat.add_assoc, E (52 + 2 * r) j (by unfold cw; omega)]
    have ES : ∀ j, j < 96 → σ' (t + 53 + 2 * r) j = σ (s + 53 + 2 * r) j := fun j q => by
      rw [Nat.add_assoc, Nat.add_assoc, E (53 + 2 * r) j (by unfold cw; omega)]
    obtain ⟨q0, q1, q2, q3, q4, m, n, lmn, q5, q6, q7, q8, q9, qa⟩ := h5.2 r hr
    unfold RuR
    rw [ER 0 (by omega), ER 1 (by omega), ER 2 (by omega), ER 3 (by omega), ER 4 (by omega), ER 5 (by omega), ER 6 (by omega)]
    exact ⟨q0, q1, q2, q3, q4, m, n, lmn, q5, q6, q7, q8, fun i hi => by rw [ES i (by omega)]; exact q9 i hi, fun i hi => by rw [ES (m + i) (by omega)]; exact qa i hi⟩
  · have hm := v6.1.2
    refine ⟨by rw [E 12 8 (by unfold cw; omega)]; exact h6.1, fun d hd => ?_⟩
    rw [E 13 d (by unfold cw; omega), E 14 d (by unfold cw; omega), E 15 d (by unfold cw; omega), E 16 d (by unfold cw; omega), E 17 d (by unfold cw; omega), E 18 d (by unfold cw; omega), E 19 d (by unfold cw; omega), E 20 d (by unfold cw; omega)]
    exact h6.2 d hd
  · have hm := v7.1.2
    refine ⟨by rw [E 21 5 (by unfold cw; omega)]; exact h7.1, fun c hc => ?_, ?_⟩
    · rw [E 22 c (by unfold cw; omega), E 23 c (by unfold cw; omega), E 24 c (by unfold cw; omega), E 25 c (by unfold cw; omega)]
      exact h7.2.1 c hc
    · rw [E 21 4 (by unfold cw; omega)]; exact h7.2.2
  · have hm := v8.2
    refine ⟨by rw [E0 12 (by omega) (by omega)]; exact h8.1, fun i hi => ?_⟩
    rw [E 26 i (by unfold cw; omega)]
    exact h8.2 i hi
  · intro i hi
    rw [E 27 i (by unfold cw; omega)]
    exact h9 i hi
theorem c_become {σ : Mm} {t s D : Nat} {g : Nat → Int32} (bs : BS s) (bt : BS t) (ap : AP t s) (hV : VG D g) (hS : StR σ s g) : ∃ σ', f_St_become t s σ = some σ' ∧ StR σ' t g ∧ ∀ a, ¬ (t ≤ a ∧ a < t + 84) → σ' a = σ a := by
  obtain ⟨σ', e, c, f⟩ := k_become bs bt ap hS.2.2.2.1.2.2
  exact ⟨σ', e, StR_t hS hV c, f⟩
/-! rows alike -/
theorem VG_row {D : Nat} {g g' : Nat → Int32} (v : VG D g) (f : ∀ j, j < 5528 → g' j = g j) : VG D g' := by
  obtain ⟨v1, v2, v3, v4, v5, v6, v7, v8, v9⟩ := v
  exact ⟨VSc_c v1 (f 0 (by omega)) (f 1 (by omega)), VHo_c v2 (f 2 (by omega)) (f 9 (by omega)), VTb_c v3 (fun j q => f j (by omega)), VPp_c v4 (by rw [f 3 (by omega)]; exact Nat.le_refl _) (fun j q => f j (by omega)), VRu_c v5 (fun j q => f j (by omega)), VDc_c v6 (by rw [f 4 (by omega)]; exact Nat.le_refl _) (fun j q => f j (by omega)), VCp_c v7 (by rw [f 4 (by omega)]; exact Nat.le_refl _) (fun j q => f j (by omega)), cntG_c v8 (f 8 (by omega)), VLw_c v9 (fun j h1 h2 => f j (by omega))⟩
theorem StR_row {σ : Mm} {s D : Nat} {g g' : Nat → Int32} (h : StR σ s g) (v : VG D g) (f : ∀ j, j < 5528 → g' j = g j) : StR σ s g' := by
  obtain ⟨h1, h2, h3, h4, h5, h6, h7, h8, h9⟩ := h
  obtain ⟨v1, v2, v3, v4, v5, v6, v7, v8, v9⟩ := v
  have hp := v4.1.2
  exact ⟨ScR_c h1 rfl rfl (f 0 (by omega)) (f 1 (by omega)), HoR_c h2 v2 (fun _ _ _ => rfl) (fun j q => f j (by omega)), TbR_c h3 v3 (fun _ _ _ => rfl) (fun j q => f j (by omega)), PpR_c h4 v4 (fun _ _ _ => rfl) rfl (fun j q => f j (by omega)), RusR_c h5 v5 (fun _ _ _ => rfl) rfl (fun j q => f j (by omega)), DcR_c h6 v6 v4.1.2 (fun _ _ _ => rfl) (fun j q => f j (by omega)) (fun p q => f _ (by omega)), CpR_c h7 v7 (fun _ _ _ => rfl) (fun j q => f j (by omega)), GrR_c h8 v8 rfl rfl (fun j q => f j (by omega)), LwR_c h9 rfl (fun j p q => f j (by omega))⟩
def cpR (σ : Mm) (x y k : Nat) : Mm := fun a => if a = y then (fun j => if j < k then σ x j else σ y j) else σ a
theorem cpR_r {σ : Mm} {x y k a : Nat} (h : a ≠ y) : cpR σ x y k a = σ a := by unfold cpR; rw [if_neg h]
theorem cpR_e {σ : Mm} {x y k j : Nat} (h : j < k) : cpR σ x y k y j = σ x j := by unfold cpR; rw [if_pos rfl, if_pos h]
theorem cpR_0 (σ : Mm) (x y : Nat) : cpR σ x y 0 = σ := by
  funext a j
  unfold cpR
  by_cases h : a = y
  · rw [if_pos h, if_neg (by omega), h]
  · rw [if_neg h]
theorem cpR_s (σ : Mm) {x y k : Nat} (h : x ≠ y) : up2 (cpR σ x y k) y k (cpR σ x y k x k) = cpR σ x y (k + 1) := by
  funext a j
  by_cases c : a = y
  · subst c
    rw [up2_e, upd_at]
    by_cases d : j = k
    · subst d
      rw [if_pos rfl, cpR_e (by omega), cpR_r h]
    · rw [if_neg d]
      unfold cpR
      rw [if_pos rfl, if_pos rfl]
      by_cases e : j < k
      · rw [if_pos e, if_pos (by omega)]
      · rw [if_neg e, if_neg (by omega)]
  · rw [up2_r _ _ _ c, cpR_r c, cpR_r c]
theorem mo_copyRow (σ : Mm) {x y : Nat} (h : x ≠ y) : f_Mo_copyRow 298 x y σ = some (cpR σ x y 5528) := by
  unfold f_Mo_copyRow
  have key := loopA (fun f k => f_Mo_copyRow_2 f x y (nI k) (cpR σ x y k)) (some (cpR σ x y 5528)) 5528 (fun f => by simp -dsimp -implicitDefEqProofs (disch := omega) only [f_Mo_copyRow_2, ↓l_m1, l_0, l_1, l_2, l_3, l_4, l_5, l_6, l_7, l_8, l_9, l_10, l_11, l_12, l_13, l_14, l_15, l_16, l_17, l_20, l_21, l_22, l_23, l_24, l_28, l_29, l_30, l_31, l_32, l_40, l_41, l_48, l_57, l_60, l_62, l_63, l_84, l_96, l_97, l_99, l_100, l_122, l_132, l_144, l_150, l_186, l_255, l_256, l_288, l_300, l_522, l_634, l_999, l_5242, l_5410, l_5420, l_5520, l_5528, l_9999, l_65535, l_65536, l_100000, l_16777215, l_252645135, l_858993459, l_1431655765, ↓reduceIte, Nat.reduceAdd, Nat.reduceMul, Nat.reduceSub, ixN, inbN, leT, leF, ltT, ltF, eqT, eqF, eqM, eqNone, addN, mulN, subN, m1N, ↓to_bnd, bnd_some, ↓to_nmT, nmT_eq, up2_r, up2_e, pk_us, pk_un, b2_t, b2_f, b2_0, b2_1, zB_1, zB_0, zB_b2, not_true_eq_false, not_false_eq_true, r_Mo, Nat.add_zero, Nat.add_sub_cancel, within_R, within_N, in_R, in_N, inN_yes, inR_yes, inR_pred, orNone_nn, nn_m, nn_N, f_Ct_isDay, f_Ct_isThing, f_Ct_isKind, f_Ct_isRoomSeat, f_Ct_isOffice, f_Ct_isTable, f_Ct_isPaper, f_Ct_isRule, f_Ct_isDecision, f_Mo_isOffice, f_Mo_isTable, f_Mo_isPaper, f_Mo_isRule, f_Mo_isDecision, f_Mo_isDay, f_Mo_isThing, f_Mo_paperOf, f_Mo_set]) (fun f k hk => by
    rw [← cpR_s σ h]
    simp -dsimp -implicitDefEqProofs (disch := omega) only [f_Mo_copyRow_2, ↓l_m1, l_0, l_1, l_2, l_3, l_4, l_5, l_6, l_7, l_8, l_9, l_10, l_11, l_12, l_13, l_14, l_15, l_16, l_17, l_20, l_21, l_22, l_23, l_24, l_28, l_29, l_30, l_31, l_32, l_40, l_41, l_48, l_57, l_60, l_62, l_63, l_84, l_96, l_97, l_99, l_100, l_122, l_132, l_144, l_150, l_186, l_255, l_256, l_288, l_300, l_522, l_634, l_999, l_5242, l_5410, l_5420, l_5520, l_5528, l_9999, l_65535, l_65536, l_100000, l_16777215, l_252645135, l_858993459, l_1431655765, ↓reduceIte, Nat.reduceAdd, Nat.reduceMul, Nat.reduceSub, ixN, inbN, leT, leF, ltT, ltF, eqT, eqF, eqM, eqNone, addN, mulN, subN, m1N, ↓to_bnd, bnd_some, ↓to_nmT, nmT_eq, up2_r, up2_e, pk_us, pk_un, b2_t, b2_f, b2_0, b2_1, zB_1, zB_0, zB_b2, not_true_eq_false, not_false_eq_true, r_Mo, Nat.add_zero, Nat.add_sub_cancel, within_R, within_N, in_R, in_N, inN_yes, inR_yes, inR_pred, orNone_nn, nn_m, nn_N, f_Ct_isDay, f_Ct_isThing, f_Ct_isKind, f_Ct_isRoomSeat, f_Ct_isOffice, f_Ct_isTable, f_Ct_isPaper, f_Ct_isRule, f_Ct_isDecision, f_Mo_isOffice, f_Mo_isTable, f_Mo_isPaper, f_Mo_isRule, f_Mo_isDecision, f_Mo_isDay, f_Mo_isThing, f_Mo_paperOf, f_Mo_set]) (NN_lt (by omega))
  rw [cpR_0] at key
  exact key
theorem BS1 : BS 1 := Or.inl rfl
theorem BS85 : BS 85 := Or.inr (Or.inl rfl)
theorem BS169 : BS 169 := Or.inr (Or.inr rfl)
theorem ReR_im {σ σ' : Mm} (h : ReR σ) (hI : ImR σ') (e : ∀ a, (256 ≤ a ∧ a < 258) ∨ (263 ≤ a ∧ a < 298) ∨ (305 ≤ a ∧ a < 308) ∨ (312 ≤ a ∧ a < 321) → σ' a = σ a) (e9 : σ' 0 9 = σ 0 9) (e10 : σ' 298 10 = σ 298 10) (e44 : σ' 298 44 = σ 298 44) : ReR σ' := by
  obtain ⟨h1, h2, h3, h4, h5, h6⟩ := h
  refine ⟨hI, ?_, fun r hr => ?_, fun j hj => ?_, ?_, ?_⟩
  · rw [e 256 (by omega), e 257 (by omega), e 305 (by omega), e10]; exact h2
  · rw [e (266 + 2 * r) (by omega), e (267 + 2 * r) (by omega), e 312 (by omega), e 313 (by omega), e 314 (by omega)]; exact h3 r hr
  · rw [e (274 + 4 * j) (by omega), e (275 + 4 * j) (by omega), e (276 + 4 * j) (by omega), e (277 + 4 * j) (by omega), e 316 (by omega), e 317 (by omega), e 318 (by omega), e 319 (by omega), e 313 (by omega), e 314 (by omega)]; exact h4 j hj
  · rw [e9, e44, e 263 (by omega), e 320 (by omega)]; exact h5
  · rw [e 306 (by omega), e 307 (by omega)]; exact h6
theorem p_keep : Pr_keep Inv := by
  intro σ hI
  obtain ⟨hV, hS, hR⟩ := hI
  obtain ⟨σ1, e1, s1, f1⟩ := c_become (t := 85) BS1 BS85 (Or.inl (by omega)) hV hS
  have f99 : σ1 299 = σ 299 := f1 299 (by omega)
  refine ⟨σ 299 0, up2 σ1 0 8 (nI 1), up2 (cpR (up2 σ1 0 8 (nI 1)) 299 300 5528) 298 3 (nI 1), ?_, ?_, ?_⟩
  · simp -dsimp -implicitDefEqProofs (disch := omega) only [f_Ct_keep, ↓l_m1, l_0, l_1, l_2, l_3, l_4, l_5, l_6, l_7, l_8, l_9, l_10, l_11, l_12, l_13, l_14, l_15, l_16, l_17, l_20, l_21, l_22, l_23, l_24, l_28, l_29, l_30, l_31, l_32, l_40, l_41, l_48, l_57, l_60, l_62, l_63, l_84, l_96, l_97, l_99, l_100, l_122, l_132, l_144, l_150, l_186, l_255, l_256, l_288, l_300, l_522, l_634, l_999, l_5242, l_5410, l_5420, l_5520, l_5528, l_9999, l_65535, l_65536, l_100000, l_16777215, l_252645135, l_858993459, l_1431655765, ↓reduceIte, Nat.reduceAdd, Nat.reduceMul, Nat.reduceSub, ixN, inbN, leT, leF, ltT, ltF, eqT, eqF, eqM, eqNone, addN, mulN, subN, m1N, ↓to_bnd, bnd_some, ↓to_nmT, nmT_eq, up2_r, up2_e, pk_us, pk_un, b2_t, b2_f, b2_0, b2_1, zB_1, zB_0, zB_b2, not_true_eq_false, not_false_eq_true, r_Mo, Nat.add_zero, Nat.add_sub_cancel, within_R, within_N, in_R, in_N, inN_yes, inR_yes, inR_pred, orNone_nn, nn_m, nn_N, f_Ct_isDay, f_Ct_isThing, f_Ct_isKind, f_Ct_isRoomSeat, f_Ct_isOffice, f_Ct_isTable, f_Ct_isPaper, f_Ct_isRule, f_Ct_isDecision, f_Mo_isOffice, f_Mo_isTable, f_Mo_isPaper, f_Mo_isRule, f_Mo_isDecision, f_Mo_isDay, f_Mo_isThing, f_Mo_paperOf, f_Mo_set, rc_1, rc_2, rc_3, rc_4, rc_5, rc_6, rc_7, rm_1, rm_2, rm_4, rm_5, rm_6, rm_9, rm_11, rm_12, rm_22, rm_30, rm_34, rm_35, rm_36, rm_37, rm_38, rm_39, rm_40, rm_41, rm_42, rm_43, rm_45, rm_46, rt_0, rt_1, rt_2, rt_3, rt_4, rt_s, rw_0, rw_1, rg_a, rg_v, rs_a, rs_p, rs_r, rs_v, r_now, e1]
    rw [f1 1 (by omega), hS.1.1]
  · simp -dsimp -implicitDefEqProofs (disch := omega) only [f_Mo_keep, ↓l_m1, l_0, l_1, l_2, l_3, l_4, l_5, l_6, l_7, l_8, l_9, l_10, l_11, l_12, l_13, l_14, l_15, l_16, l_17, l_20, l_21, l_22, l_23, l_24, l_28, l_29, l_30, l_31, l_32, l_40, l_41, l_48, l_57, l_60, l_62, l_63, l_84, l_96, l_97, l_99, l_100, l_122, l_132, l_144, l_150, l_186, l_255, l_256, l_288, l_300, l_522, l_634, l_999, l_5242, l_5410, l_5420, l_5520, l_5528, l_9999, l_65535, l_65536, l_100000, l_16777215, l_252645135, l_858993459, l_1431655765, ↓reduceIte, Nat.reduceAdd, Nat.reduceMul, Nat.reduceSub, ixN, inbN, leT, leF, ltT, ltF, eqT, eqF, eqM, eqNone, addN, mulN, subN, m1N, ↓to_bnd, bnd_some, ↓to_nmT, nmT_eq, up2_r, up2_e, pk_us, pk_un, b2_t, b2_f, b2_0, b2_1, zB_1, zB_0, zB_b2, not_true_eq_false, not_false_eq_true, r_Mo, Nat.add_zero, Nat.add_sub_cancel, within_R, within_N, in_R, in_N, inN_yes, inR_yes, inR_pred, orNone_nn, nn_m, nn_N, f_Ct_isDay, f_Ct_isThing, f_Ct_isKind, f_Ct_isRoomSeat, f_Ct_isOffice, f_Ct_isTable, f_Ct_isPaper, f_Ct_isRule, f_Ct_isDecision, f_Mo_isOffice, f_Mo_isTable, f_Mo_isPaper, f_Mo_isRule, f_Mo_isDecision, f_Mo_isDay, f_Mo_isThing, f_Mo_paperOf, f_Mo_set, rc_1, rc_2, rc_3, rc_4, rc_5, rc_6, rc_7, rm_1, rm_2, rm_4, rm_5, rm_6, rm_9, rm_11, rm_12, rm_22, rm_30, rm_34, rm_35, rm_36, rm_37, rm_38, rm_39, rm_40, rm_41, rm_42, rm_43, rm_45, rm_46, rt_0, rt_1, rt_2, rt_3, rt_4, rt_s, rw_0, rw_1, rg_a, rg_v, rs_a, rs_p, rs_r, rs_v, mo_copyRow, cpR_r]
    rw [f99]
  · obtain ⟨τ, hτ⟩ : ∃ τ, τ = up2 (cpR (up2 σ1 0 8 (nI 1)) 299 300 5528) 298 3 (nI 1) := ⟨_, rfl⟩
    rw [← hτ]
    have fr : ∀ a, ¬ (85 ≤ a ∧ a < 169) → a ≠ 0 → a ≠ 298 → a ≠ 300 → τ a = σ a := fun a h1 h2 h3 h4 => by
      rw [hτ, up2_r _ _ _ h3, cpR_r h4, up2_r _ _ _ h2, f1 a h1]
    have fi : ∀ a, 85 ≤ a → a < 169 → τ a = σ1 a := fun a h1 h2 => by
      rw [hτ, up2_r _ _ _ (by omega), cpR_r (by omega), up2_r _ _ _ (by omega)]
    have r3 : ∀ j, j < 5528 → τ 300 j = σ 299 j := fun j h => by
      rw [hτ, up2_r _ _ _ (by omega), cpR_e h, up2_r _ _ _ (by omega), f99]
    have t0 : τ 0 = upd (σ 0) 8 (nI 1) := by
      rw [hτ, up2_r _ _ _ (by omega), cpR_r (by omega), up2_e, f1 0 (by omega)]
    have t98 : τ 298 = upd (σ 298) 3 (nI 1) := by
      rw [hτ, up2_e, cpR_r (by omega), up2_r _ _ _ (by omega), f1 298 (by omega)]
    have t9 := fr 299 (by omega) (by omega) (by omega) (by omega)
    refine ⟨by rw [t9]; exact hV, by rw [t9]; exact StR_c hS hV (fun a h1 h2 => fr a (by omega) (by omega) (by omega) (by omega)), ReR_im hR ⟨true, ?_, ?_, fun _ => ⟨VG_row hV r3, StR_c (StR_row s1 hV r3) (VG_row hV r3) (fun a h1 h2 => fi a h1 (by omega))⟩⟩ (fun a q => fr a (by omega) (by omega) (by omega) (by omega)) ?_ ?_ ?_⟩
    · rw [t0, pk_us]; rfl
    · rw [t98, pk_us]; rfl
    · rw [t0, pk_un (by omega)]
    · rw [t98, pk_un (by omega)]
    · rw [t98, pk_un (by omega)]
theorem p_back : Pr_back Inv := by
  intro σ hI
  obtain ⟨hV, hS, hR⟩ := hI
  obtain ⟨im, i1, i2, i3⟩ := hR.1
  cases im
  · refine ⟨-1000000002, σ, σ, ?_, ?_, hV, hS, hR⟩
    · simp -dsimp -implicitDefEqProofs (disch := omega) only [f_Ct_back, ↓l_m1, l_0, l_1, l_2, l_3, l_4, l_5, l_6, l_7, l_8, l_9, l_10, l_11, l_12, l_13, l_14, l_15, l_16, l_17, l_20, l_21, l_22, l_23, l_24, l_28, l_29, l_30, l_31, l_32, l_40, l_41, l_48, l_57, l_60, l_62, l_63, l_84, l_96, l_97, l_99, l_100, l_122, l_132, l_144, l_150, l_186, l_255, l_256, l_288, l_300, l_522, l_634, l_999, l_5242, l_5410, l_5420, l_5520, l_5528, l_9999, l_65535, l_65536, l_100000, l_16777215, l_252645135, l_858993459, l_1431655765, ↓reduceIte, Nat.reduceAdd, Nat.reduceMul, Nat.reduceSub, ixN, inbN, leT, leF, ltT, ltF, eqT, eqF, eqM, eqNone, addN, mulN, subN, m1N, ↓to_bnd, bnd_some, ↓to_nmT, nmT_eq, up2_r, up2_e, pk_us, pk_un, b2_t, b2_f, b2_0, b2_1, zB_1, zB_0, zB_b2, not_true_eq_false, not_false_eq_true, r_Mo, Nat.add_zero, Nat.add_sub_cancel, within_R, within_N, in_R, in_N, inN_yes, inR_yes, inR_pred, orNone_nn, nn_m, nn_N, f_Ct_isDay, f_Ct_isThing, f_Ct_isKind, f_Ct_isRoomSeat, f_Ct_isOffice, f_Ct_isTable, f_Ct_isPaper, f_Ct_isRule, f_Ct_isDecision, f_Mo_isOffice, f_Mo_isTable, f_Mo_isPaper, f_Mo_isRule, f_Mo_isDecision, f_Mo_isDay, f_Mo_isThing, f_Mo_paperOf, f_Mo_set, i1]
    · simp -dsimp -implicitDefEqProofs (disch := omega) only [f_Mo_back, ↓l_m1, l_0, l_1, l_2, l_3, l_4, l_5, l_6, l_7, l_8, l_9, l_10, l_11, l_12, l_13, l_14, l_15, l_16, l_17, l_20, l_21, l_22, l_23, l_24, l_28, l_29, l_30, l_31, l_32, l_40, l_41, l_48, l_57, l_60, l_62, l_63, l_84, l_96, l_97, l_99, l_100, l_122, l_132, l_144, l_150, l_186, l_255, l_256, l_288, l_300, l_522, l_634, l_999, l_5242, l_5410, l_5420, l_5520, l_5528, l_9999, l_65535, l_65536, l_100000, l_16777215, l_252645135, l_858993459, l_1431655765, ↓reduceIte, Nat.reduceAdd, Nat.reduceMul, Nat.reduceSub, ixN, inbN, leT, leF, ltT, ltF, eqT, eqF, eqM, eqNone, addN, mulN, subN, m1N, ↓to_bnd, bnd_some, ↓to_nmT, nmT_eq, up2_r, up2_e, pk_us, pk_un, b2_t, b2_f, b2_0, b2_1, zB_1, zB_0, zB_b2, not_true_eq_false, not_false_eq_true, r_Mo, Nat.add_zero, Nat.add_sub_cancel, within_R, within_N, in_R, in_N, inN_yes, inR_yes, inR_pred, orNone_nn, nn_m, nn_N, f_Ct_isDay, f_Ct_isThing, f_Ct_isKind, f_Ct_isRoomSeat, f_Ct_isOffice, f_Ct_isTable, f_Ct_isPaper, f_Ct_isRule, f_Ct_isDecision, f_Mo_isOffice, f_Mo_isTable, f_Mo_isPaper, f_Mo_isRule, f_Mo_isDecision, f_Mo_isDay, f_Mo_isThing, f_Mo_paperOf, f_Mo_set, i2]
  · obtain ⟨iV, iS⟩ := i3 rfl
    obtain ⟨σ1, e1, s1, f1⟩ := c_become (t := 1) BS85 BS1 (Or.inr (by omega)) iV iS
    have f00 : σ1 300 = σ 300 := f1 300 (by omega)
    have r3 : ∀ j, j < 5528 → cpR σ1 300 299 5528 299 j = σ 300 j := fun j h => by rw [cpR_e h, f00]
    have fr : ∀ a, ¬ (1 ≤ a ∧ a < 85) → a ≠ 299 → cpR σ1 300 299 5528 a = σ a := fun a h1 h2 => by rw [cpR_r h2, f1 a (by omega)]
    refine ⟨σ 300 0, σ1, cpR σ1 300 299 5528, ?_, ?_, VG_row iV r3, ?_, ReR_c' hR (fun a q => fr a (by omega) (by omega))⟩
    · simp -dsimp -implicitDefEqProofs (disch := omega) only [f_Ct_back, ↓l_m1, l_0, l_1, l_2, l_3, l_4, l_5, l_6, l_7, l_8, l_9, l_10, l_11, l_12, l_13, l_14, l_15, l_16, l_17, l_20, l_21, l_22, l_23, l_24, l_28, l_29, l_30, l_31, l_32, l_40, l_41, l_48, l_57, l_60, l_62, l_63, l_84, l_96, l_97, l_99, l_100, l_122, l_132, l_144, l_150, l_186, l_255, l_256, l_288, l_300, l_522, l_634, l_999, l_5242, l_5410, l_5420, l_5520, l_5528, l_9999, l_65535, l_65536, l_100000, l_16777215, l_252645135, l_858993459, l_1431655765, ↓reduceIte, Nat.reduceAdd, Nat.reduceMul, Nat.reduceSub, ixN, inbN, leT, leF, ltT, ltF, eqT, eqF, eqM, eqNone, addN, mulN, subN, m1N, ↓to_bnd, bnd_some, ↓to_nmT, nmT_eq, up2_r, up2_e, pk_us, pk_un, b2_t, b2_f, b2_0, b2_1, zB_1, zB_0, zB_b2, not_true_eq_false, not_false_eq_true, r_Mo, Nat.add_zero, Nat.add_sub_cancel, within_R, within_N, in_R, in_N, inN_yes, inR_yes, inR_pred, orNone_nn, nn_m, nn_N, f_Ct_isDay, f_Ct_isThing, f_Ct_isKind, f_Ct_isRoomSeat, f_Ct_isOffice, f_Ct_isTable, f_Ct_isPaper, f_Ct_isRule, f_Ct_isDecision, f_Mo_isOffice, f_Mo_isTable, f_Mo_isPaper, f_Mo_isRule, f_Mo_isDecision, f_Mo_isDay, f_Mo_isThing, f_Mo_paperOf, f_Mo_set, rc_1, rc_2, rc_3, rc_4, rc_5, rc_6, rc_7, rm_1, rm_2, rm_4, rm_5, rm_6, rm_9, rm_11, rm_12, rm_22, rm_30, rm_34, rm_35, rm_36, rm_37, rm_38, rm_39, rm_40, rm_41, rm_42, rm_43, rm_45, rm_46, rt_0, rt_1, rt_2, rt_3, rt_4, rt_s, rw_0, rw_1, rg_a, rg_v, rs_a, rs_p, rs_r, rs_v, r_now, i1, e1]
      rw [s1.1.1]
    · have i2' : σ1 298 3 = b2 true := by rw [f1 298 (by omega)]; exact i2
      simp -dsimp -implicitDefEqProofs (disch := omega) only [f_Mo_back, ↓l_m1, l_0, l_1, l_2, l_3, l_4, l_5, l_6, l_7, l_8, l_9, l_10, l_11, l_12, l_13, l_14, l_15, l_16, l_17, l_20, l_21, l_22, l_23, l_24, l_28, l_29, l_30, l_31, l_32, l_40, l_41, l_48, l_57, l_60, l_62, l_63, l_84, l_96, l_97, l_99, l_100, l_122, l_132, l_144, l_150, l_186, l_255, l_256, l_288, l_300, l_522, l_634, l_999, l_5242, l_5410, l_5420, l_5520, l_5528, l_9999, l_65535, l_65536, l_100000, l_16777215, l_252645135, l_858993459, l_1431655765, ↓reduceIte, Nat.reduceAdd, Nat.reduceMul, Nat.reduceSub, ixN, inbN, leT, leF, ltT, ltF, eqT, eqF, eqM, eqNone, addN, mulN, subN, m1N, ↓to_bnd, bnd_some, ↓to_nmT, nmT_eq, up2_r, up2_e, pk_us, pk_un, b2_t, b2_f, b2_0, b2_1, zB_1, zB_0, zB_b2, not_true_eq_false, not_false_eq_true, r_Mo, Nat.add_zero, Nat.add_sub_cancel, within_R, within_N, in_R, in_N, inN_yes, inR_yes, inR_pred, orNone_nn, nn_m, nn_N, f_Ct_isDay, f_Ct_isThing, f_Ct_isKind, f_Ct_isRoomSeat, f_Ct_isOffice, f_Ct_isTable, f_Ct_isPaper, f_Ct_isRule, f_Ct_isDecision, f_Mo_isOffice, f_Mo_isTable, f_Mo_isPaper, f_Mo_isRule, f_Mo_isDecision, f_Mo_isDay, f_Mo_isThing, f_Mo_paperOf, f_Mo_set, rc_1, rc_2, rc_3, rc_4, rc_5, rc_6, rc_7, rm_1, rm_2, rm_4, rm_5, rm_6, rm_9, rm_11, rm_12, rm_22, rm_30, rm_34, rm_35, rm_36, rm_37, rm_38, rm_39, rm_40, rm_41, rm_42, rm_43, rm_45, rm_46, rt_0, rt_1, rt_2, rt_3, rt_4, rt_s, rw_0, rw_1, rg_a, rg_v, rs_a, rs_p, rs_r, rs_v, i2', mo_copyRow]
      rw [r3 0 (by omega)]
    · exact StR_c (StR_row s1 iV r3) (VG_row iV r3) (fun a h1 h2 => cpR_r (by omega))
