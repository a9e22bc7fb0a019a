/-! the model reads on -/
def mtk (t : Nat) : Nat := if t = 0 then 0 else if t = 1 then 2 else if t ≤ 5 then 3 else if t ≤ 22 then 1 else 4
def mvl (t v : Nat) : Nat := if t = 1 then v else if t = 2 then 40 else if t = 3 then 41 else if t = 4 then 60 else if t = 5 then 62 else if t = 8 then 9 else if t = 9 then 8 else if t ≤ 10 then t else if t ≤ 16 then t - 11 else t - 6
theorem mvl_v {t v : Nat} (h : t ≠ 1) : mvl t v = mvl t 0 := by unfold mvl; rw [if_neg h, if_neg h]
def prm (w : Nat) : Nat := if w ≤ 5 then w + 5 else if w = 6 then 0 else if w = 7 then 1 else if w = 8 then 3 else if w = 9 then 2 else if w = 10 then 4 else w
def mw0 (c : Nat) : Nat := if c < 17 then mvl (6 + c) 0 else 17
theorem prm_lt : ∀ w, w < 17 → prm w < 17 := by decide +kernel
theorem prm_mw : ∀ c, c < 18 → ∀ w, w < 17 → (c = prm w ↔ mw0 c = w) := by decide +kernel
theorem mw0_t : ∀ c, c < 18 → (if mw0 c < 17 then 1 else 4) = mtk (6 + c) ∧ (c < 17 → mw0 c < 17) := by decide +kernel
def bgN (w : Nat) : Nat := [0, 5, 10, 14, 20, 24, 30, 32, 38, 41, 43, 46, 49, 52, 55, 57, 62, 68].getD w 0
theorem bg_1 : ∀ w, w < 18 → begsL.getD w 0 = nI (bgN w) := by decide +kernel
theorem bg_2 : ∀ w, w < 17 → bgN (w + 1) = bgN w + (wdL.getD (prm w) []).length ∧ bgN w + (wdL.getD (prm w) []).length ≤ 68 := by decide +kernel
theorem bg_3 : ∀ w, w < 17 → ∀ k, k < (wdL.getD (prm w) []).length → letsL.getD (bgN w + k) 0 = nI ((wdL.getD (prm w) []).getD k 0) := by decide +kernel
theorem bg_4 : ∀ w, w < 17 → ∀ k, k < (wdL.getD (prm w) []).length → (wdL.getD (prm w) []).getD k 0 < 128 := by decide +kernel
def TpM (B : Nat → Nat) (L : Nat) (m : Mm) : Prop := L ≤ 96 ∧ m 298 13 = nI L ∧ (∀ j, j < L → m 305 j = nI (B j) ∧ B j < 256) ∧ CoR (m 306) (m 307)
theorem TpM_u {B : Nat → Nat} {L : Nat} {m : Mm} (h : TpM B L m) {i : Nat} (v : Int32) (hi : i ≠ 13) : TpM B L (up2 m 298 i v) := by
  unfold TpM
  rw [up2_e, pk_un (by omega), up2_r _ _ _ (by omega), up2_r _ _ _ (by omega), up2_r _ _ _ (by omega)]
  exact h
theorem mo_isLetter {B : Nat → Nat} {L p : Nat} {m : Mm} (h : TpM B L m) (hp : p ≤ L) : f_Mo_isLetter m 298 (nI p) = some (b2 (decide (p < L ∧ soN (B p) = 1))) := by
  obtain ⟨hL, e, hb, -⟩ := h
  by_cases c : p < L
  · obtain ⟨b1, b2⟩ := hb p c
    by_cases c1 : B p < 97
    · rw [decide_eq_false (fun q => by have := so_1 q.2; omega)]
      simp -dsimp -implicitDefEqProofs (disch := omega) only [f_Mo_isLetter, f_Mo_isLetter_34, f_Mo_isLetter_35, ↓l_m1, l_0, l_1, l_2, l_3, l_4, l_5, l_6, l_7, l_8, l_9, l_10, l_11, l_12, l_13, l_14, l_15, l_16, l_17, l_20, l_21, l_22, l_23, l_24, l_28, l_29, l_30, l_31, l_32, l_40, l_41, l_48, l_57, l_60, l_62, l_63, l_84, l_96, l_97, l_99, l_100, l_122, l_132, l_144, l_150, l_186, l_255, l_256, l_288, l_300, l_522, l_634, l_999, l_5242, l_5410, l_5420, l_5520, l_5528, l_9999, l_65535, l_65536, l_100000, l_16777215, l_252645135, l_858993459, l_1431655765, ↓reduceIte, Nat.reduceAdd, Nat.reduceMul, Nat.reduceSub, ixN, inbN, leT, leF, ltT, ltF, eqT, eqF, eqM, eqNone, addN, mulN, subN, m1N, ↓to_bnd, bnd_some, ↓to_nmT, nmT_eq, up2_r, up2_e, pk_us, pk_un, b2_t, b2_f, b2_0, b2_1, zB_1, zB_0, zB_b2, not_true_eq_false, not_false_eq_true, r_Mo, Nat.add_zero, Nat.add_sub_cancel, within_R, within_N, in_R, in_N, inN_yes, inR_yes, inR_pred, orNone_nn, nn_m, nn_N, f_Ct_isDay, f_Ct_isThing, f_Ct_isKind, f_Ct_isRoomSeat, f_Ct_isOffice, f_Ct_isTable, f_Ct_isPaper, f_Ct_isRule, f_Ct_isDecision, f_Mo_isOffice, f_Mo_isTable, f_Mo_isPaper, f_Mo_isRule, f_Mo_isDecision, f_Mo_isDay, f_Mo_isThing, f_Mo_paperOf, f_Mo_set, rc_1, rc_2, rc_3, rc_4, rc_5, rc_6, rc_7, rm_1, rm_2, rm_4, rm_5, rm_6, rm_9, rm_11, rm_12, rm_22, rm_30, rm_34, rm_35, rm_36, rm_37, rm_38, rm_39, rm_40, rm_41, rm_42, rm_43, rm_45, rm_46, rt_0, rt_1, rt_2, rt_3, rt_4, rt_s, rw_0, rw_1, rg_a, rg_v, rs_a, rs_p, rs_r, rs_v, e, b1]
    · by_cases c2 : 122 < B p
      · rw [decide_eq_false (fun q => by have := so_1 q.2; omega)]
        simp -dsimp -implicitDefEqProofs (disch := omega) only [f_Mo_isLetter, f_Mo_isLetter_34, f_Mo_isLetter_35, ↓l_m1, l_0, l_1, l_2, l_3, l_4, l_5, l_6, l_7, l_8, l_9, l_10, l_11, l_12, l_13, l_14, l_15, l_16, l_17, l_20, l_21, l_22, l_23, l_24, l_28, l_29, l_30, l_31, l_32, l_40, l_41, l_48, l_57, l_60, l_62, l_63, l_84, l_96, l_97, l_99, l_100, l_122, l_132, l_144, l_150, l_186, l_255, l_256, l_288, l_300, l_522, l_634, l_999, l_5242, l_5410, l_5420, l_5520, l_5528, l_9999, l_65535, l_65536, l_100000, l_16777215, l_252645135, l_858993459, l_1431655765, ↓reduceIte, Nat.reduceAdd, Nat.reduceMul, Nat.reduceSub, ixN, inbN, leT, leF, ltT, ltF, eqT, eqF, eqM, eqNone, addN, mulN, subN, m1N, ↓to_bnd, bnd_some, ↓to_nmT, nmT_eq, up2_r, up2_e, pk_us, pk_un, b2_t, b2_f, b2_0, b2_1, zB_1, zB_0, zB_b2, not_true_eq_false, not_false_eq_true, r_Mo, Nat.add_zero, Nat.add_sub_cancel, within_R, within_N, in_R, in_N, inN_yes, inR_yes, inR_pred, orNone_nn, nn_m, nn_N, f_Ct_isDay, f_Ct_isThing, f_Ct_isKind, f_Ct_isRoomSeat, f_Ct_isOffice, f_Ct_isTable, f_Ct_isPaper, f_Ct_isRule, f_Ct_isDecision, f_Mo_isOffice, f_Mo_isTable, f_Mo_isPaper, f_Mo_isRule, f_Mo_isDecision, f_Mo_isDay, f_Mo_isThing, f_Mo_paperOf, f_Mo_set, rc_1, rc_2, rc_3, rc_4, rc_5, rc_6, rc_7, rm_1, rm_2, rm_4, rm_5, rm_6, rm_9, rm_11, rm_12, rm_22, rm_30, rm_34, rm_35, rm_36, rm_37, rm_38, rm_39, rm_40, rm_41, rm_42, rm_43, rm_45, rm_46, rt_0, rt_1, rt_2, rt_3, rt_4, rt_s, rw_0, rw_1, rg_a, rg_v, rs_a, rs_p, rs_r, rs_v, e, b1]
      · rw [decide_eq_true ⟨c, by unfold soN; rw [if_pos (by omega)]⟩]
        simp -dsimp -implicitDefEqProofs (disch := omega) only [f_Mo_isLetter, f_Mo_isLetter_34, f_Mo_isLetter_35, ↓l_m1, l_0, l_1, l_2, l_3, l_4, l_5, l_6, l_7, l_8, l_9, l_10, l_11, l_12, l_13, l_14, l_15, l_16, l_17, l_20, l_21, l_22, l_23, l_24, l_28, l_29, l_30, l_31, l_32, l_40, l_41, l_48, l_57, l_60, l_62, l_63, l_84, l_96, l_97, l_99, l_100, l_122, l_132, l_144, l_150, l_186, l_255, l_256, l_288, l_300, l_522, l_634, l_999, l_5242, l_5410, l_5420, l_5520, l_5528, l_9999, l_65535, l_65536, l_100000, l_16777215, l_252645135, l_858993459, l_1431655765, ↓reduceIte, Nat.reduceAdd, Nat.reduceMul, Nat.reduceSub, ixN, inbN, leT, leF, ltT, ltF, eqT, eqF, eqM, eqNone, addN, mulN, subN, m1N, ↓to_bnd, bnd_some, ↓to_nmT, nmT_eq, up2_r, up2_e, pk_us, pk_un, b2_t, b2_f, b2_0, b2_1, zB_1, zB_0, zB_b2, not_true_eq_false, not_false_eq_true, r_Mo, Nat.add_zero, Nat.add_sub_cancel, within_R, within_N, in_R, in_N, inN_yes, inR_yes, inR_pred, orNone_nn, nn_m, nn_N, f_Ct_isDay, f_Ct_isThing, f_Ct_isKind, f_Ct_isRoomSeat, f_Ct_isOffice, f_Ct_isTable, f_Ct_isPaper, f_Ct_isRule, f_Ct_isDecision, f_Mo_isOffice, f_Mo_isTable, f_Mo_isPaper, f_Mo_isRule, f_Mo_isDecision, f_Mo_isDay, f_Mo_isThing, f_Mo_paperOf, f_Mo_set, rc_1, rc_2, rc_3, rc_4, rc_5, rc_6, rc_7, rm_1, rm_2, rm_4, rm_5, rm_6, rm_9, rm_11, rm_12, rm_22, rm_30, rm_34, rm_35, rm_36, rm_37, rm_38, rm_39, rm_40, rm_41, rm_42, rm_43, rm_45, rm_46, rt_0, rt_1, rt_2, rt_3, rt_4, rt_s, rw_0, rw_1, rg_a, rg_v, rs_a, rs_p, rs_r, rs_v, e, b1]
  · rw [decide_eq_false (fun q => c q.1)]
    simp -dsimp -implicitDefEqProofs (disch := omega) only [f_Mo_isLetter, f_Mo_isLetter_34, f_Mo_isLetter_35, ↓l_m1, l_0, l_1, l_2, l_3, l_4, l_5, l_6, l_7, l_8, l_9, l_10, l_11, l_12, l_13, l_14, l_15, l_16, l_17, l_20, l_21, l_22, l_23, l_24, l_28, l_29, l_30, l_31, l_32, l_40, l_41, l_48, l_57, l_60, l_62, l_63, l_84, l_96, l_97, l_99, l_100, l_122, l_132, l_144, l_150, l_186, l_255, l_256, l_288, l_300, l_522, l_634, l_999, l_5242, l_5410, l_5420, l_5520, l_5528, l_9999, l_65535, l_65536, l_100000, l_16777215, l_252645135, l_858993459, l_1431655765, ↓reduceIte, Nat.reduceAdd, Nat.reduceMul, Nat.reduceSub, ixN, inbN, leT, leF, ltT, ltF, eqT, eqF, eqM, eqNone, addN, mulN, subN, m1N, ↓to_bnd, bnd_some, ↓to_nmT, nmT_eq, up2_r, up2_e, pk_us, pk_un, b2_t, b2_f, b2_0, b2_1, zB_1, zB_0, zB_b2, not_true_eq_false, not_false_eq_true, r_Mo, Nat.add_zero, Nat.add_sub_cancel, within_R, within_N, in_R, in_N, inN_yes, inR_yes, inR_pred, orNone_nn, nn_m, nn_N, f_Ct_isDay, f_Ct_isThing, f_Ct_isKind, f_Ct_isRoomSeat, f_Ct_isOffice, f_Ct_isTable, f_Ct_isPaper, f_Ct_isRule, f_Ct_isDecision, f_Mo_isOffice, f_Mo_isTable, f_Mo_isPaper, f_Mo_isRule, f_Mo_isDecision, f_Mo_isDay, f_Mo_isThing, f_Mo_paperOf, f_Mo_set, rc_1, rc_2, rc_3, rc_4, rc_5, rc_6, rc_7, rm_1, rm_2, rm_4, rm_5, rm_6, rm_9, rm_11, rm_12, rm_22, rm_30, rm_34, rm_35, rm_36, rm_37, rm_38, rm_39, rm_40, rm_41, rm_42, rm_43, rm_45, rm_46, rt_0, rt_1, rt_2, rt_3, rt_4, rt_s, rw_0, rw_1, rg_a, rg_v, rs_a, rs_p, rs_r, rs_v, e]
theorem mo_isFigure {B : Nat → Nat} {L p : Nat} {m : Mm} (h : TpM B L m) (hp : p ≤ L) : f_Mo_isFigure m 298 (nI p) = some (b2 (decide (p < L ∧ soN (B p) = 2))) := by
  obtain ⟨hL, e, hb, -⟩ := h
  by_cases c : p < L
  · obtain ⟨b1, b2⟩ := hb p c
    by_cases c1 : B p < 48
    · rw [decide_eq_false (fun q => by have := so_2 q.2; omega)]
      simp -dsimp -implicitDefEqProofs (disch := omega) only [f_Mo_isFigure, f_Mo_isFigure_34, f_Mo_isFigure_35, ↓l_m1, l_0, l_1, l_2, l_3, l_4, l_5, l_6, l_7, l_8, l_9, l_10, l_11, l_12, l_13, l_14, l_15, l_16, l_17, l_20, l_21, l_22, l_23, l_24, l_28, l_29, l_30, l_31, l_32, l_40, l_41, l_48, l_57, l_60, l_62, l_63, l_84, l_96, l_97, l_99, l_100, l_122, l_132, l_144, l_150, l_186, l_255, l_256, l_288, l_300, l_522, l_634, l_999, l_5242, l_5410, l_5420, l_5520, l_5528, l_9999, l_65535, l_65536, l_100000, l_16777215, l_252645135, l_858993459, l_1431655765, ↓reduceIte, Nat.reduceAdd, Nat.reduceMul, Nat.reduceSub, ixN, inbN, leT, leF, ltT, ltF, eqT, eqF, eqM, eqNone, addN, mulN, subN, m1N, ↓to_bnd, bnd_some, ↓to_nmT, nmT_eq, up2_r, up2_e, pk_us, pk_un, b2_t, b2_f, b2_0, b2_1, zB_1, zB_0, zB_b2, not_true_eq_false, not_false_eq_true, r_Mo, Nat.add_zero, Nat.add_sub_cancel, within_R, within_N, in_R, in_N, inN_yes, inR_yes, inR_pred, orNone_nn, nn_m, nn_N, f_Ct_isDay, f_Ct_isThing, f_Ct_isKind, f_Ct_isRoomSeat, f_Ct_isOffice, f_Ct_isTable, f_Ct_isPaper, f_Ct_isRule, f_Ct_isDecision, f_Mo_isOffice, f_Mo_isTable, f_Mo_isPaper, f_Mo_isRule, f_Mo_isDecision, f_Mo_isDay, f_Mo_isThing, f_Mo_paperOf, f_Mo_set, rc_1, rc_2, rc_3, rc_4, rc_5, rc_6, rc_7, rm_1, rm_2, rm_4, rm_5, rm_6, rm_9, rm_11, rm_12, rm_22, rm_30, rm_34, rm_35, rm_36, rm_37, rm_38, rm_39, rm_40, rm_41, rm_42, rm_43, rm_45, rm_46, rt_0, rt_1, rt_2, rt_3, rt_4, rt_s, rw_0, rw_1, rg_a, rg_v, rs_a, rs_p, rs_r, rs_v, e, b1]
    · by_cases c2 : 57 < B p
      · rw [decide_eq_false (fun q => by have := so_2 q.2; omega)]
        simp -dsimp -implicitDefEqProofs (disch := omega) only [f_Mo_isFigure, f_Mo_isFigure_34, f_Mo_isFigure_35, ↓l_m1, l_0, l_1, l_2, l_3, l_4, l_5, l_6, l_7, l_8, l_9, l_10, l_11, l_12, l_13, l_14, l_15, l_16, l_17, l_20, l_21, l_22, l_23, l_24, l_28, l_29, l_30, l_31, l_32, l_40, l_41, l_48, l_57, l_60, l_62, l_63, l_84, l_96, l_97, l_99, l_100, l_122, l_132, l_144, l_150, l_186, l_255, l_256, l_288, l_300, l_522, l_634, l_999, l_5242, l_5410, l_5420, l_5520, l_5528, l_9999, l_65535, l_65536, l_100000, l_16777215, l_252645135, l_858993459, l_1431655765, ↓reduceIte, Nat.reduceAdd, Nat.reduceMul, Nat.reduceSub, ixN, inbN, leT, leF, ltT, ltF, eqT, eqF, eqM, eqNone, addN, mulN, subN, m1N, ↓to_bnd, bnd_some, ↓to_nmT, nmT_eq, up2_r, up2_e, pk_us, pk_un, b2_t, b2_f, b2_0, b2_1, zB_1, zB_0, zB_b2, not_true_eq_false, not_false_eq_true, r_Mo, Nat.add_zero, Nat.add_sub_cancel, within_R, within_N, in_R, in_N, inN_yes, inR_yes, inR_pred, orNone_nn, nn_m, nn_N, f_Ct_isDay, f_Ct_isThing, f_Ct_isKind, f_Ct_isRoomSeat, f_Ct_isOffice, f_Ct_isTable, f_Ct_isPaper, f_Ct_isRule, f_Ct_isDecision, f_Mo_isOffice, f_Mo_isTable, f_Mo_isPaper, f_Mo_isRule, f_Mo_isDecision, f_Mo_isDay, f_Mo_isThing, f_Mo_paperOf, f_Mo_set, rc_1, rc_2, rc_3, rc_4, rc_5, rc_6, rc_7, rm_1, rm_2, rm_4, rm_5, rm_6, rm_9, rm_11, rm_12, rm_22, rm_30, rm_34, rm_35, rm_36, rm_37, rm_38, rm_39, rm_40, rm_41, rm_42, rm_43, rm_45, rm_46, rt_0, rt_1, rt_2, rt_3, rt_4, rt_s, rw_0, rw_1, rg_a, rg_v, rs_a, rs_p, rs_r, rs_v, e, b1]
      · rw [decide_eq_true ⟨c, by unfold soN; rw [if_neg (by omega), if_pos (by omega)]⟩]
        simp -dsimp -implicitDefEqProofs (disch := omega) only [f_Mo_isFigure, f_Mo_isFigure_34, f_Mo_isFigure_35, ↓l_m1, l_0, l_1, l_2, l_3, l_4, l_5, l_6, l_7, l_8, l_9, l_10, l_11, l_12, l_13, l_14, l_15, l_16, l_17, l_20, l_21, l_22, l_23, l_24, l_28, l_29, l_30, l_31, l_32, l_40, l_41, l_48, l_57, l_60, l_62, l_63, l_84, l_96, l_97, l_99, l_100, l_122, l_132, l_144, l_150, l_186, l_255, l_256, l_288, l_300, l_522, l_634, l_999, l_5242, l_5410, l_5420, l_5520, l_5528, l_9999, l_65535, l_65536, l_100000, l_16777215, l_252645135, l_858993459, l_1431655765, ↓reduceIte, Nat.reduceAdd, Nat.reduceMul, Nat.reduceSub, ixN, inbN, leT, leF, ltT, ltF, eqT, eqF, eqM, eqNone, addN, mulN, subN, m1N, ↓to_bnd, bnd_some, ↓to_nmT, nmT_eq, up2_r, up2_e, pk_us, pk_un, b2_t, b2_f, b2_0, b2_1, zB_1, zB_0, zB_b2, not_true_eq_false, not_false_eq_true, r_Mo, Nat.add_zero, Nat.add_sub_cancel, within_R, within_N, in_R, in_N, inN_yes, inR_yes, inR_pred, orNone_nn, nn_m, nn_N, f_Ct_isDay, f_Ct_isThing, f_Ct_isKind, f_Ct_isRoomSeat, f_Ct_isOffice, f_Ct_isTable, f_Ct_isPaper, f_Ct_isRule, f_Ct_isDecision, f_Mo_isOffice, f_Mo_isTable, f_Mo_isPaper, f_Mo_isRule, f_Mo_isDecision, f_Mo_isDay, f_Mo_isThing, f_Mo_paperOf, f_Mo_set, rc_1, rc_2, rc_3, rc_4, rc_5, rc_6, rc_7, rm_1, rm_2, rm_4, rm_5, rm_6, rm_9, rm_11, rm_12, rm_22, rm_30, rm_34, rm_35, rm_36, rm_37, rm_38, rm_39, rm_40, rm_41, rm_42, rm_43, rm_45, rm_46, rt_0, rt_1, rt_2, rt_3, rt_4, rt_s, rw_0, rw_1, rg_a, rg_v, rs_a, rs_p, rs_r, rs_v, e, b1]
  · rw [decide_eq_false (fun q => c q.1)]
    simp -dsimp -implicitDefEqProofs (disch := omega) only [f_Mo_isFigure, f_Mo_isFigure_34, f_Mo_isFigure_35, ↓l_m1, l_0, l_1, l_2, l_3, l_4, l_5, l_6, l_7, l_8, l_9, l_10, l_11, l_12, l_13, l_14, l_15, l_16, l_17, l_20, l_21, l_22, l_23, l_24, l_28, l_29, l_30, l_31, l_32, l_40, l_41, l_48, l_57, l_60, l_62, l_63, l_84, l_96, l_97, l_99, l_100, l_122, l_132, l_144, l_150, l_186, l_255, l_256, l_288, l_300, l_522, l_634, l_999, l_5242, l_5410, l_5420, l_5520, l_5528, l_9999, l_65535, l_65536, l_100000, l_16777215, l_252645135, l_858993459, l_1431655765, ↓reduceIte, Nat.reduceAdd, Nat.reduceMul, Nat.reduceSub, ixN, inbN, leT, leF, ltT, ltF, eqT, eqF, eqM, eqNone, addN, mulN, subN, m1N, ↓to_bnd, bnd_some, ↓to_nmT, nmT_eq, up2_r, up2_e, pk_us, pk_un, b2_t, b2_f, b2_0, b2_1, zB_1, zB_0, zB_b2, not_true_eq_false, not_false_eq_true, r_Mo, Nat.add_zero, Nat.add_sub_cancel, within_R, within_N, in_R, in_N, inN_yes, inR_yes, inR_pred, orNone_nn, nn_m, nn_N, f_Ct_isDay, f_Ct_isThing, f_Ct_isKind, f_Ct_isRoomSeat, f_Ct_isOffice, f_Ct_isTable, f_Ct_isPaper, f_Ct_isRule, f_Ct_isDecision, f_Mo_isOffice, f_Mo_isTable, f_Mo_isPaper, f_Mo_isRule, f_Mo_isDecision, f_Mo_isDay, f_Mo_isThing, f_Mo_paperOf, f_Mo_set, rc_1, rc_2, rc_3, rc_4, rc_5, rc_6, rc_7, rm_1, rm_2, rm_4, rm_5, rm_6, rm_9, rm_11, rm_12, rm_22, rm_30, rm_34, rm_35, rm_36, rm_37, rm_38, rm_39, rm_40, rm_41, rm_42, rm_43, rm_45, rm_46, rt_0, rt_1, rt_2, rt_3, rt_4, rt_s, rw_0, rw_1, rg_a, rg_v, rs_a, rs_p, rs_r, rs_v, e]
def FrV (m m' : Mm) : Prop := (∀ a, a ≠ 298 → m' a = m a) ∧ ∀ i, i ≠ 16 → i ≠ 17 → m' 298 i = m 298 i
theorem TpM_v {B : Nat → Nat} {L : Nat} {m m' : Mm} (h : TpM B L m) (f : FrV m m') : TpM B L m' := by
  unfold TpM
  rw [f.2 13 (by omega) (by omega), f.1 305 (by omega), f.1 306 (by omega), f.1 307 (by omega)]
  exact h
theorem sam_f {B : Nat → Nat} {p q : Nat} {w : List Nat} {j : Nat} (h : samK B p q w j = false) : ∀ r, samK B p q w (j + r) = false
  | 0 => h
  | r + 1 => by rw [← Nat.add_assoc, samK, sam_f h r, Bool.false_and]
theorem mo_rl75 {B : Nat → Nat} {L p n w : Nat} {m : Mm} (h : TpM B L m) (e15 : m 298 15 = nI p) (hw : w < 17) (hn : (wdL.getD (prm w) []).length = n) (hp : p + n ≤ L) (k31 : Nat → Int32 → Mm → Option Mm) : ∀ r j fuel, j + r = n → r < fuel → f_Mo_readLetters_75 k31 fuel 298 (nI w) (nI n) (b2 (samK B p (p + n) (wdL.getD (prm w) []) j)) (nI j) m = f_Mo_readLetters_126 k31 298 (nI w) (b2 (mtB B p (p + n) (wdL.getD (prm w) []))) m := by
  obtain ⟨hL, e, hb, co1, co2⟩ := h
  have mt := mt_sam B p (p + n) (wdL.getD (prm w) [])
  rw [hn, decide_eq_true rfl, Bool.and_true] at mt
  have g1 := bg_2 w hw
  rw [hn] at g1
  have g2 := co2 w (by omega)
  rw [bg_1 w (by omega)] at g2
  intro r
  induction r with
  | zero =>
    intro j fuel hj hf
    obtain ⟨f, rfl⟩ : ∃ f', fuel = f' + 1 := ⟨fuel - 1, by omega⟩
    obtain rfl : j = n := by omega
    rw [mt]
    simp -dsimp -implicitDefEqProofs (disch := omega) only [f_Mo_readLetters_75, ↓l_m1, l_0, l_1, l_2, l_3, l_4, l_5, l_6, l_7, l_8, l_9, l_10, l_11, l_12, l_13, l_14, l_15, l_16, l_17, l_20, l_21, l_22, l_23, l_24, l_28, l_29, l_30, l_31, l_32, l_40, l_41, l_48, l_57, l_60, l_62, l_63, l_84, l_96, l_97, l_99, l_100, l_122, l_132, l_144, l_150, l_186, l_255, l_256, l_288, l_300, l_522, l_634, l_999, l_5242, l_5410, l_5420, l_5520, l_5528, l_9999, l_65535, l_65536, l_100000, l_16777215, l_252645135, l_858993459, l_1431655765, ↓reduceIte, Nat.reduceAdd, Nat.reduceMul, Nat.reduceSub, ixN, inbN, leT, leF, ltT, ltF, eqT, eqF, eqM, eqNone, addN, mulN, subN, m1N, ↓to_bnd, bnd_some, ↓to_nmT, nmT_eq, up2_r, up2_e, pk_us, pk_un, b2_t, b2_f, b2_0, b2_1, zB_1, zB_0, zB_b2, not_true_eq_false, not_false_eq_true, r_Mo, Nat.add_zero, Nat.add_sub_cancel, within_R, within_N, in_R, in_N, inN_yes, inR_yes, inR_pred, orNone_nn, nn_m, nn_N, f_Ct_isDay, f_Ct_isThing, f_Ct_isKind, f_Ct_isRoomSeat, f_Ct_isOffice, f_Ct_isTable, f_Ct_isPaper, f_Ct_isRule, f_Ct_isDecision, f_Mo_isOffice, f_Mo_isTable, f_Mo_isPaper, f_Mo_isRule, f_Mo_isDecision, f_Mo_isDay, f_Mo_isThing, f_Mo_paperOf, f_Mo_set]
  | succ r ih =>
    intro j fuel hj hf
    obtain ⟨f, rfl⟩ : ∃ f', fuel = f' + 1 := ⟨fuel - 1, by omega⟩
    cases c : samK B p (p + n) (wdL.getD (prm w) []) j
    · have q := sam_f c (r + 1)
      rw [show j + (r + 1) = n by omega] at q
      rw [mt, q]
      simp -dsimp -implicitDefEqProofs (disch := omega) only [f_Mo_readLetters_75, ↓l_m1, l_0, l_1, l_2, l_3, l_4, l_5, l_6, l_7, l_8, l_9, l_10, l_11, l_12, l_13, l_14, l_15, l_16, l_17, l_20, l_21, l_22, l_23, l_24, l_28, l_29, l_30, l_31, l_32, l_40, l_41, l_48, l_57, l_60, l_62, l_63, l_84, l_96, l_97, l_99, l_100, l_122, l_132, l_144, l_150, l_186, l_255, l_256, l_288, l_300, l_522, l_634, l_999, l_5242, l_5410, l_5420, l_5520, l_5528, l_9999, l_65535, l_65536, l_100000, l_16777215, l_252645135, l_858993459, l_1431655765, ↓reduceIte, Nat.reduceAdd, Nat.reduceMul, Nat.reduceSub, ixN, inbN, leT, leF, ltT, ltF, eqT, eqF, eqM, eqNone, addN, mulN, subN, m1N, ↓to_bnd, bnd_some, ↓to_nmT, nmT_eq, up2_r, up2_e, pk_us, pk_un, b2_t, b2_f, b2_0, b2_1, zB_1, zB_0, zB_b2, not_true_eq_false, not_false_eq_true, r_Mo, Nat.add_zero, Nat.add_sub_cancel, within_R, within_N, in_R, in_N, inN_yes, inR_yes, inR_pred, orNone_nn, nn_m, nn_N, f_Ct_isDay, f_Ct_isThing, f_Ct_isKind, f_Ct_isRoomSeat, f_Ct_isOffice, f_Ct_isTable, f_Ct_isPaper, f_Ct_isRule, f_Ct_isDecision, f_Mo_isOffice, f_Mo_isTable, f_Mo_isPaper, f_Mo_isRule, f_Mo_isDecision, f_Mo_isDay, f_Mo_isThing, f_Mo_paperOf, f_Mo_set]
    · have z := ih (j + 1) f (by omega) (by omega)
      rw [← z, samK, c, decide_eq_true (show p + j < p + n by omega), Bool.true_and, Bool.true_and]
      obtain ⟨b1, b2⟩ := hb (p + j) (by omega)
      have g3 := co1 (bgN w + j) (by omega)
      rw [bg_3 w hw j (by omega)] at g3
      have g4 := bg_4 w hw j (by omega)
      by_cases d : B (p + j) = (wdL.getD (prm w) []).getD j 0
      · rw [decide_eq_true d]
        rw [← d] at g3
        simp -dsimp -implicitDefEqProofs (disch := omega) only [f_Mo_readLetters_75, f_Mo_readLetters_119, ↓l_m1, l_0, l_1, l_2, l_3, l_4, l_5, l_6, l_7, l_8, l_9, l_10, l_11, l_12, l_13, l_14, l_15, l_16, l_17, l_20, l_21, l_22, l_23, l_24, l_28, l_29, l_30, l_31, l_32, l_40, l_41, l_48, l_57, l_60, l_62, l_63, l_84, l_96, l_97, l_99, l_100, l_122, l_132, l_144, l_150, l_186, l_255, l_256, l_288, l_300, l_522, l_634, l_999, l_5242, l_5410, l_5420, l_5520, l_5528, l_9999, l_65535, l_65536, l_100000, l_16777215, l_252645135, l_858993459, l_1431655765, ↓reduceIte, Nat.reduceAdd, Nat.reduceMul, Nat.reduceSub, ixN, inbN, leT, leF, ltT, ltF, eqT, eqF, eqM, eqNone, addN, mulN, subN, m1N, ↓to_bnd, bnd_some, ↓to_nmT, nmT_eq, up2_r, up2_e, pk_us, pk_un, b2_t, b2_f, b2_0, b2_1, zB_1, zB_0, zB_b2, not_true_eq_false, not_false_eq_true, r_Mo, Nat.add_zero, Nat.add_sub_cancel, within_R, within_N, in_R, in_N, inN_yes, inR_yes, inR_pred, orNone_nn, nn_m, nn_N, f_Ct_isDay, f_Ct_isThing, f_Ct_isKind, f_Ct_isRoomSeat, f_Ct_isOffice, f_Ct_isTable, f_Ct_isPaper, f_Ct_isRule, f_Ct_isDecision, f_Mo_isOffice, f_Mo_isTable, f_Mo_isPaper, f_Mo_isRule, f_Mo_isDecision, f_Mo_isDay, f_Mo_isThing, f_Mo_paperOf, f_Mo_set, rc_1, rc_2, rc_3, rc_4, rc_5, rc_6, rc_7, rm_1, rm_2, rm_4, rm_5, rm_6, rm_9, rm_11, rm_12, rm_22, rm_30, rm_34, rm_35, rm_36, rm_37, rm_38, rm_39, rm_40, rm_41, rm_42, rm_43, rm_45, rm_46, rt_0, rt_1, rt_2, rt_3, rt_4, rt_s, rw_0, rw_1, rg_a, rg_v, rs_a, rs_p, rs_r, rs_v, e15, b1, g2, g3]
      · rw [decide_eq_false d]
        simp -dsimp -implicitDefEqProofs (disch := omega) only [f_Mo_readLetters_75, f_Mo_readLetters_119, ↓l_m1, l_0, l_1, l_2, l_3, l_4, l_5, l_6, l_7, l_8, l_9, l_10, l_11, l_12, l_13, l_14, l_15, l_16, l_17, l_20, l_21, l_22, l_23, l_24, l_28, l_29, l_30, l_31, l_32, l_40, l_41, l_48, l_57, l_60, l_62, l_63, l_84, l_96, l_97, l_99, l_100, l_122, l_132, l_144, l_150, l_186, l_255, l_256, l_288, l_300, l_522, l_634, l_999, l_5242, l_5410, l_5420, l_5520, l_5528, l_9999, l_65535, l_65536, l_100000, l_16777215, l_252645135, l_858993459, l_1431655765, ↓reduceIte, Nat.reduceAdd, Nat.reduceMul, Nat.reduceSub, ixN, inbN, leT, leF, ltT, ltF, eqT, eqF, eqM, eqNone, addN, mulN, subN, m1N, ↓to_bnd, bnd_some, ↓to_nmT, nmT_eq, up2_r, up2_e, pk_us, pk_un, b2_t, b2_f, b2_0, b2_1, zB_1, zB_0, zB_b2, not_true_eq_false, not_false_eq_true, r_Mo, Nat.add_zero, Nat.add_sub_cancel, within_R, within_N, in_R, in_N, inN_yes, inR_yes, inR_pred, orNone_nn, nn_m, nn_N, f_Ct_isDay, f_Ct_isThing, f_Ct_isKind, f_Ct_isRoomSeat, f_Ct_isOffice, f_Ct_isTable, f_Ct_isPaper, f_Ct_isRule, f_Ct_isDecision, f_Mo_isOffice, f_Mo_isTable, f_Mo_isPaper, f_Mo_isRule, f_Mo_isDecision, f_Mo_isDay, f_Mo_isThing, f_Mo_paperOf, f_Mo_set, rc_1, rc_2, rc_3, rc_4, rc_5, rc_6, rc_7, rm_1, rm_2, rm_4, rm_5, rm_6, rm_9, rm_11, rm_12, rm_22, rm_30, rm_34, rm_35, rm_36, rm_37, rm_38, rm_39, rm_40, rm_41, rm_42, rm_43, rm_45, rm_46, rt_0, rt_1, rt_2, rt_3, rt_4, rt_s, rw_0, rw_1, rg_a, rg_v, rs_a, rs_p, rs_r, rs_v, e15, b1, g2, g3]
theorem mo_rl31 {B : Nat → Nat} {L p q w0 : Nat} (hpq : p ≤ q) (hq : q ≤ L) (hw0 : ∀ w, w < 17 → mtB B p q (wdL.getD (prm w) []) = decide (w0 = w)) (h17 : w0 ≤ 17) : ∀ n w fuel m, w + n = 17 → n < fuel → TpM B L m → m 298 14 = nI q → m 298 15 = nI p → m 298 16 = nI (if w0 < w then 1 else 4) → (w0 < w → m 298 17 = nI w0) → ∃ m', f_Mo_readLetters_31 fuel 298 (nI w) m = some m' ∧ FrV m m' ∧ m' 298 16 = nI (if w0 < 17 then 1 else 4) ∧ (w0 < 17 → m' 298 17 = nI w0) := by
  intro n
  induction n with
  | zero =>
    intro w fuel m hw hf hT e14 e15 e16 e17
    obtain ⟨f, rfl⟩ : ∃ f', fuel = f' + 1 := ⟨fuel - 1, by omega⟩
    obtain rfl : w = 17 := by omega
    refine ⟨m, ?_, ⟨fun _ _ => rfl, fun _ _ _ => rfl⟩, e16, e17⟩
    simp -dsimp -implicitDefEqProofs (disch := omega) only [f_Mo_readLetters_31, ↓l_m1, l_0, l_1, l_2, l_3, l_4, l_5, l_6, l_7, l_8, l_9, l_10, l_11, l_12, l_13, l_14, l_15, l_16, l_17, l_20, l_21, l_22, l_23, l_24, l_28, l_29, l_30, l_31, l_32, l_40, l_41, l_48, l_57, l_60, l_62, l_63, l_84, l_96, l_97, l_99, l_100, l_122, l_132, l_144, l_150, l_186, l_255, l_256, l_288, l_300, l_522, l_634, l_999, l_5242, l_5410, l_5420, l_5520, l_5528, l_9999, l_65535, l_65536, l_100000, l_16777215, l_252645135, l_858993459, l_1431655765, ↓reduceIte, Nat.reduceAdd, Nat.reduceMul, Nat.reduceSub, ixN, inbN, leT, leF, ltT, ltF, eqT, eqF, eqM, eqNone, addN, mulN, subN, m1N, ↓to_bnd, bnd_some, ↓to_nmT, nmT_eq, up2_r, up2_e, pk_us, pk_un, b2_t, b2_f, b2_0, b2_1, zB_1, zB_0, zB_b2, not_true_eq_false, not_false_eq_true, r_Mo, Nat.add_zero, Nat.add_sub_cancel, within_R, within_N, in_R, in_N, inN_yes, inR_yes, inR_pred, orNone_nn, nn_m, nn_N, f_Ct_isDay, f_Ct_isThing, f_Ct_isKind, f_Ct_isRoomSeat, f_Ct_isOffice, f_Ct_isTable, f_Ct_isPaper, f_Ct_isRule, f_Ct_isDecision, f_Mo_isOffice, f_Mo_isTable, f_Mo_isPaper, f_Mo_isRule, f_Mo_isDecision, f_Mo_isDay, f_Mo_isThing, f_Mo_paperOf, f_Mo_set]
  | succ n ih =>
    intro w fuel m hw hf hT e14 e15 e16 e17
    obtain ⟨f, rfl⟩ : ∃ f', fuel = f' + 1 := ⟨fuel - 1, by omega⟩
    have hL := hT.1
    obtain ⟨N, hN⟩ : ∃ N, (wdL.getD (prm w) []).length = N := ⟨_, rfl⟩
    have co2 := hT.2.2.2.2
    have g1 := bg_2 w (by omega)
    rw [hN] at g1
    have g2 := co2 w (by omega)
    have g3 := co2 (w + 1) (by omega)
    rw [bg_1 _ (by omega)] at g2 g3
    rw [g1.1] at g3
    have mw := hw0 w (by omega)
    have st : f_Mo_readLetters_31 (f + 1) 298 (nI w) m = f_Mo_readLetters_126 (f_Mo_readLetters_31 f) 298 (nI w) (b2 (mtB B p q (wdL.getD (prm w) []))) m := by
      by_cases c : q = p + N
      · have z := mo_rl75 hT e15 (show w < 17 by omega) hN (by omega) (f_Mo_readLetters_31 f) N 0 NN (by omega) (NN_lt (by omega))
        rw [samK] at z
        rw [c, ← z]
        rw [c] at e14
        simp -dsimp -implicitDefEqProofs (disch := omega) only [f_Mo_readLetters_31, f_Mo_readLetters_71, ↓l_m1, l_0, l_1, l_2, l_3, l_4, l_5, l_6, l_7, l_8, l_9, l_10, l_11, l_12, l_13, l_14, l_15, l_16, l_17, l_20, l_21, l_22, l_23, l_24, l_28, l_29, l_30, l_31, l_32, l_40, l_41, l_48, l_57, l_60, l_62, l_63, l_84, l_96, l_97, l_99, l_100, l_122, l_132, l_144, l_150, l_186, l_255, l_256, l_288, l_300, l_522, l_634, l_999, l_5242, l_5410, l_5420, l_5520, l_5528, l_9999, l_65535, l_65536, l_100000, l_16777215, l_252645135, l_858993459, l_1431655765, ↓reduceIte, Nat.reduceAdd, Nat.reduceMul, Nat.reduceSub, ixN, inbN, leT, leF, ltT, ltF, eqT, eqF, eqM, eqNone, addN, mulN, subN, m1N, ↓to_bnd, bnd_some, ↓to_nmT, nmT_eq, up2_r, up2_e, pk_us, pk_un, b2_t, b2_f, b2_0, b2_1, zB_1, zB_0, zB_b2, not_true_eq_false, not_false_eq_true, r_Mo, Nat.add_zero, Nat.add_sub_cancel, within_R, within_N, in_R, in_N, inN_yes, inR_yes, inR_pred, orNone_nn, nn_m, nn_N, f_Ct_isDay, f_Ct_isThing, f_Ct_isKind, f_Ct_isRoomSeat, f_Ct_isOffice, f_Ct_isTable, f_Ct_isPaper, f_Ct_isRule, f_Ct_isDecision, f_Mo_isOffice, f_Mo_isTable, f_Mo_isPaper, f_Mo_isRule, f_Mo_isDecision, f_Mo_isDay, f_Mo_isThing, f_Mo_paperOf, f_Mo_set, rc_1, rc_2, rc_3, rc_4, rc_5, rc_6, rc_7, rm_1, rm_2, rm_4, rm_5, rm_6, rm_9, rm_11, rm_12, rm_22, rm_30, rm_34, rm_35, rm_36, rm_37, rm_38, rm_39, rm_40, rm_41, rm_42, rm_43, rm_45, rm_46, rt_0, rt_1, rt_2, rt_3, rt_4, rt_s, rw_0, rw_1, rg_a, rg_v, rs_a, rs_p, rs_r, rs_v, e14, e15, g2, g3, show bgN w + N - bgN w = N by omega, show p + N - p = N by omega]
      · have mf : mtB B p q (wdL.getD (prm w) []) = false := by
          unfold mtB
          rw [hN]
          exact decide_eq_false (fun z => c z.1)
        have z : ∀ f2, f_Mo_readLetters_75 (f_Mo_readLetters_31 f) (f2 + 1) 298 (nI w) (nI N) (nI 0) (nI 0) m = f_Mo_readLetters_126 (f_Mo_readLetters_31 f) 298 (nI w) (nI 0) m := fun f2 => by
          by_cases cN : N = 0
          · simp -dsimp -implicitDefEqProofs (disch := omega) only [f_Mo_readLetters_75, ↓l_m1, l_0, l_1, l_2, l_3, l_4, l_5, l_6, l_7, l_8, l_9, l_10, l_11, l_12, l_13, l_14, l_15, l_16, l_17, l_20, l_21, l_22, l_23, l_24, l_28, l_29, l_30, l_31, l_32, l_40, l_41, l_48, l_57, l_60, l_62, l_63, l_84, l_96, l_97, l_99, l_100, l_122, l_132, l_144, l_150, l_186, l_255, l_256, l_288, l_300, l_522, l_634, l_999, l_5242, l_5410, l_5420, l_5520, l_5528, l_9999, l_65535, l_65536, l_100000, l_16777215, l_252645135, l_858993459, l_1431655765, ↓reduceIte, Nat.reduceAdd, Nat.reduceMul, Nat.reduceSub, ixN, inbN, leT, leF, ltT, ltF, eqT, eqF, eqM, eqNone, addN, mulN, subN, m1N, ↓to_bnd, bnd_some, ↓to_nmT, nmT_eq, up2_r, up2_e, pk_us, pk_un, b2_t, b2_f, b2_0, b2_1, zB_1, zB_0, zB_b2, not_true_eq_false, not_false_eq_true, r_Mo, Nat.add_zero, Nat.add_sub_cancel, within_R, within_N, in_R, in_N, inN_yes, inR_yes, inR_pred, orNone_nn, nn_m, nn_N, f_Ct_isDay, f_Ct_isThing, f_Ct_isKind, f_Ct_isRoomSeat, f_Ct_isOffice, f_Ct_isTable, f_Ct_isPaper, f_Ct_isRule, f_Ct_isDecision, f_Mo_isOffice, f_Mo_isTable, f_Mo_isPaper, f_Mo_isRule, f_Mo_isDecision, f_Mo_isDay, f_Mo_isThing, f_Mo_paperOf, f_Mo_set]
          · simp -dsimp -implicitDefEqProofs (disch := omega) only [f_Mo_readLetters_75, ↓l_m1, l_0, l_1, l_2, l_3, l_4, l_5, l_6, l_7, l_8, l_9, l_10, l_11, l_12, l_13, l_14, l_15, l_16, l_17, l_20, l_21, l_22, l_23, l_24, l_28, l_29, l_30, l_31, l_32, l_40, l_41, l_48, l_57, l_60, l_62, l_63, l_84, l_96, l_97, l_99, l_100, l_122, l_132, l_144, l_150, l_186, l_255, l_256, l_288, l_300, l_522, l_634, l_999, l_5242, l_5410, l_5420, l_5520, l_5528, l_9999, l_65535, l_65536, l_100000, l_16777215, l_252645135, l_858993459, l_1431655765, ↓reduceIte, Nat.reduceAdd, Nat.reduceMul, Nat.reduceSub, ixN, inbN, leT, leF, ltT, ltF, eqT, eqF, eqM, eqNone, addN, mulN, subN, m1N, ↓to_bnd, bnd_some, ↓to_nmT, nmT_eq, up2_r, up2_e, pk_us, pk_un, b2_t, b2_f, b2_0, b2_1, zB_1, zB_0, zB_b2, not_true_eq_false, not_false_eq_true, r_Mo, Nat.add_zero, Nat.add_sub_cancel, within_R, within_N, in_R, in_N, inN_yes, inR_yes, inR_pred, orNone_nn, nn_m, nn_N, f_Ct_isDay, f_Ct_isThing, f_Ct_isKind, f_Ct_isRoomSeat, f_Ct_isOffice, f_Ct_isTable, f_Ct_isPaper, f_Ct_isRule, f_Ct_isDecision, f_Mo_isOffice, f_Mo_isTable, f_Mo_isPaper, f_Mo_isRule, f_Mo_isDecision, f_Mo_isDay, f_Mo_isThing, f_Mo_paperOf, f_Mo_set]
        have z2 : f_Mo_readLetters_75 (f_Mo_readLetters_31 f) NN 298 (nI w) (nI N) (nI 0) (nI 0) m = f_Mo_readLetters_126 (f_Mo_readLetters_31 f) 298 (nI w) (nI 0) m := z 9999
        rw [mf, b2_f, ← z2]
        simp -dsimp -implicitDefEqProofs (disch := omega) only [f_Mo_readLetters_31, f_Mo_readLetters_71, ↓l_m1, l_0, l_1, l_2, l_3, l_4, l_5, l_6, l_7, l_8, l_9, l_10, l_11, l_12, l_13, l_14, l_15, l_16, l_17, l_20, l_21, l_22, l_23, l_24, l_28, l_29, l_30, l_31, l_32, l_40, l_41, l_48, l_57, l_60, l_62, l_63, l_84, l_96, l_97, l_99, l_100, l_122, l_132, l_144, l_150, l_186, l_255, l_256, l_288, l_300, l_522, l_634, l_999, l_5242, l_5410, l_5420, l_5520, l_5528, l_9999, l_65535, l_65536, l_100000, l_16777215, l_252645135, l_858993459, l_1431655765, ↓reduceIte, Nat.reduceAdd, Nat.reduceMul, Nat.reduceSub, ixN, inbN, leT, leF, ltT, ltF, eqT, eqF, eqM, eqNone, addN, mulN, subN, m1N, ↓to_bnd, bnd_some, ↓to_nmT, nmT_eq, up2_r, up2_e, pk_us, pk_un, b2_t, b2_f, b2_0, b2_1, zB_1, zB_0, zB_b2, not_true_eq_false, not_false_eq_true, r_Mo, Nat.add_zero, Nat.add_sub_cancel, within_R, within_N, in_R, in_N, inN_yes, inR_yes, inR_pred, orNone_nn, nn_m, nn_N, f_Ct_isDay, f_Ct_isThing, f_Ct_isKind, f_Ct_isRoomSeat, f_Ct_isOffice, f_Ct_isTable, f_Ct_isPaper, f_Ct_isRule, f_Ct_isDecision, f_Mo_isOffice, f_Mo_isTable, f_Mo_isPaper, f_Mo_isRule, f_Mo_isDecision, f_Mo_isDay, f_Mo_isThing, f_Mo_paperOf, f_Mo_set, rc_1, rc_2, rc_3, rc_4, rc_5, rc_6, rc_7, rm_1, rm_2, rm_4, rm_5, rm_6, rm_9, rm_11, rm_12, rm_22, rm_30, rm_34, rm_35, rm_36, rm_37, rm_38, rm_39, rm_40, rm_41, rm_42, rm_43, rm_45, rm_46, rt_0, rt_1, rt_2, rt_3, rt_4, rt_s, rw_0, rw_1, rg_a, rg_v, rs_a, rs_p, rs_r, rs_v, e14, e15, g2, g3, show bgN w + N - bgN w = N by omega]
    rw [st, mw]
    by_cases c : w0 = w
    · rw [decide_eq_true c]
      obtain ⟨m', z1, z2, z3⟩ := ih (w + 1) f (up2 (up2 m 298 16 (nI 1)) 298 17 (nI w)) (by omega) (by omega) (TpM_u (TpM_u hT _ (by omega)) _ (by omega)) (by rw [up2_e, pk_un (by omega), up2_e, pk_un (by omega)]; exact e14) (by rw [up2_e, pk_un (by omega), up2_e, pk_un (by omega)]; exact e15) (by rw [up2_e, pk_un (by omega), up2_e, pk_us, if_pos (by omega)]) (fun _ => by rw [up2_e, pk_us, c])
      refine ⟨m', ?_, ⟨fun a qa => by rw [z2.1 a qa, up2_r _ _ _ qa, up2_r _ _ _ qa], fun i h1 h2 => by rw [z2.2 i h1 h2, up2_e, pk_un h2, up2_e, pk_un h1]⟩, z3⟩
      rw [← z1]
      simp -dsimp -implicitDefEqProofs (disch := omega) only [f_Mo_readLetters_126, f_Mo_readLetters_140, ↓l_m1, l_0, l_1, l_2, l_3, l_4, l_5, l_6, l_7, l_8, l_9, l_10, l_11, l_12, l_13, l_14, l_15, l_16, l_17, l_20, l_21, l_22, l_23, l_24, l_28, l_29, l_30, l_31, l_32, l_40, l_41, l_48, l_57, l_60, l_62, l_63, l_84, l_96, l_97, l_99, l_100, l_122, l_132, l_144, l_150, l_186, l_255, l_256, l_288, l_300, l_522, l_634, l_999, l_5242, l_5410, l_5420, l_5520, l_5528, l_9999, l_65535, l_65536, l_100000, l_16777215, l_252645135, l_858993459, l_1431655765, ↓reduceIte, Nat.reduceAdd, Nat.reduceMul, Nat.reduceSub, ixN, inbN, leT, leF, ltT, ltF, eqT, eqF, eqM, eqNone, addN, mulN, subN, m1N, ↓to_bnd, bnd_some, ↓to_nmT, nmT_eq, up2_r, up2_e, pk_us, pk_un, b2_t, b2_f, b2_0, b2_1, zB_1, zB_0, zB_b2, not_true_eq_false, not_false_eq_true, r_Mo, Nat.add_zero, Nat.add_sub_cancel, within_R, within_N, in_R, in_N, inN_yes, inR_yes, inR_pred, orNone_nn, nn_m, nn_N, f_Ct_isDay, f_Ct_isThing, f_Ct_isKind, f_Ct_isRoomSeat, f_Ct_isOffice, f_Ct_isTable, f_Ct_isPaper, f_Ct_isRule, f_Ct_isDecision, f_Mo_isOffice, f_Mo_isTable, f_Mo_isPaper, f_Mo_isRule, f_Mo_isDecision, f_Mo_isDay, f_Mo_isThing, f_Mo_paperOf, f_Mo_set]
    · rw [decide_eq_false c]
      obtain ⟨m', z1, z2⟩ := ih (w + 1) f m (by omega) (by omega) hT e14 e15 (by
        rw [e16]
        by_cases d : w0 < w
        · rw [if_pos d, if_pos (by omega)]
        · rw [if_neg d, if_neg (by omega)]) (fun d => e17 (by omega))
      refine ⟨m', ?_, z2⟩
      rw [← z1]
      simp -dsimp -implicitDefEqProofs (disch := omega) only [f_Mo_readLetters_126, f_Mo_readLetters_140, ↓l_m1, l_0, l_1, l_2, l_3, l_4, l_5, l_6, l_7, l_8, l_9, l_10, l_11, l_12, l_13, l_14, l_15, l_16, l_17, l_20, l_21, l_22, l_23, l_24, l_28, l_29, l_30, l_31, l_32, l_40, l_41, l_48, l_57, l_60, l_62, l_63, l_84, l_96, l_97, l_99, l_100, l_122, l_132, l_144, l_150, l_186, l_255, l_256, l_288, l_300, l_522, l_634, l_999, l_5242, l_5410, l_5420, l_5520, l_5528, l_9999, l_65535, l_65536, l_100000, l_16777215, l_252645135, l_858993459, l_1431655765, ↓reduceIte, Nat.reduceAdd, Nat.reduceMul, Nat.reduceSub, ixN, inbN, leT, leF, ltT, ltF, eqT, eqF, eqM, eqNone, addN, mulN, subN, m1N, ↓to_bnd, bnd_some, ↓to_nmT, nmT_eq, up2_r, up2_e, pk_us, pk_un, b2_t, b2_f, b2_0, b2_1, zB_1, zB_0, zB_b2, not_true_eq_false, not_false_eq_true, r_Mo, Nat.add_zero, Nat.add_sub_cancel, within_R, within_N, in_R, in_N, inN_yes, inR_yes, inR_pred, orNone_nn, nn_m, nn_N, f_Ct_isDay, f_Ct_isThing, f_Ct_isKind, f_Ct_isRoomSeat, f_Ct_isOffice, f_Ct_isTable, f_Ct_isPaper, f_Ct_isRule, f_Ct_isDecision, f_Mo_isOffice, f_Mo_isTable, f_Mo_isPaper, f_Mo_isRule, f_Mo_isDecision, f_Mo_isDay, f_Mo_isThing, f_Mo_paperOf, f_Mo_set]
theorem mo_rl0 {B : Nat → Nat} {L : Nat} {m : Mm} (h : TpM B L m) : ∀ n p fuel, L - p = n → p ≤ L → n < fuel → f_Mo_readLetters_0 fuel 298 (up2 m 298 14 (nI p)) = f_Mo_readLetters_31 NN 298 (nI 0) (up2 (up2 m 298 14 (nI (rnN B L 1 p))) 298 16 (nI 4)) := by
  intro n
  have hL := h.1
  induction n with
  | zero =>
    intro p fuel hn hp hf
    obtain ⟨f, rfl⟩ : ∃ f', fuel = f' + 1 := ⟨fuel - 1, by omega⟩
    have z := mo_isLetter (TpM_u h (nI p) (show 14 ≠ 13 by omega)) hp
    rw [decide_eq_false (fun q => by omega)] at z
    rw [rn_n (fun q => by omega)]
    simp -dsimp -implicitDefEqProofs (disch := omega) only [f_Mo_readLetters_0, ↓l_m1, l_0, l_1, l_2, l_3, l_4, l_5, l_6, l_7, l_8, l_9, l_10, l_11, l_12, l_13, l_14, l_15, l_16, l_17, l_20, l_21, l_22, l_23, l_24, l_28, l_29, l_30, l_31, l_32, l_40, l_41, l_48, l_57, l_60, l_62, l_63, l_84, l_96, l_97, l_99, l_100, l_122, l_132, l_144, l_150, l_186, l_255, l_256, l_288, l_300, l_522, l_634, l_999, l_5242, l_5410, l_5420, l_5520, l_5528, l_9999, l_65535, l_65536, l_100000, l_16777215, l_252645135, l_858993459, l_1431655765, ↓reduceIte, Nat.reduceAdd, Nat.reduceMul, Nat.reduceSub, ixN, inbN, leT, leF, ltT, ltF, eqT, eqF, eqM, eqNone, addN, mulN, subN, m1N, ↓to_bnd, bnd_some, ↓to_nmT, nmT_eq, up2_r, up2_e, pk_us, pk_un, b2_t, b2_f, b2_0, b2_1, zB_1, zB_0, zB_b2, not_true_eq_false, not_false_eq_true, r_Mo, Nat.add_zero, Nat.add_sub_cancel, within_R, within_N, in_R, in_N, inN_yes, inR_yes, inR_pred, orNone_nn, nn_m, nn_N, f_Ct_isDay, f_Ct_isThing, f_Ct_isKind, f_Ct_isRoomSeat, f_Ct_isOffice, f_Ct_isTable, f_Ct_isPaper, f_Ct_isRule, f_Ct_isDecision, f_Mo_isOffice, f_Mo_isTable, f_Mo_isPaper, f_Mo_isRule, f_Mo_isDecision, f_Mo_isDay, f_Mo_isThing, f_Mo_paperOf, f_Mo_set, z]
  | succ n ih =>
    intro p fuel hn hp hf
    obtain ⟨f, rfl⟩ : ∃ f', fuel = f' + 1 := ⟨fuel - 1, by omega⟩
    have z := mo_isLetter (TpM_u h (nI p) (show 14 ≠ 13 by omega)) hp
    by_cases c : soN (B p) = 1
    · rw [decide_eq_true ⟨by omega, c⟩] at z
      have y := ih (p + 1) f (by omega) (by omega) (by omega)
      rw [rn_s (by omega) c, ← y]
      simp -dsimp -implicitDefEqProofs (disch := omega) only [f_Mo_readLetters_0, ↓l_m1, l_0, l_1, l_2, l_3, l_4, l_5, l_6, l_7, l_8, l_9, l_10, l_11, l_12, l_13, l_14, l_15, l_16, l_17, l_20, l_21, l_22, l_23, l_24, l_28, l_29, l_30, l_31, l_32, l_40, l_41, l_48, l_57, l_60, l_62, l_63, l_84, l_96, l_97, l_99, l_100, l_122, l_132, l_144, l_150, l_186, l_255, l_256, l_288, l_300, l_522, l_634, l_999, l_5242, l_5410, l_5420, l_5520, l_5528, l_9999, l_65535, l_65536, l_100000, l_16777215, l_252645135, l_858993459, l_1431655765, ↓reduceIte, Nat.reduceAdd, Nat.reduceMul, Nat.reduceSub, ixN, inbN, leT, leF, ltT, ltF, eqT, eqF, eqM, eqNone, addN, mulN, subN, m1N, ↓to_bnd, bnd_some, ↓to_nmT, nmT_eq, up2_r, up2_e, pk_us, pk_un, b2_t, b2_f, b2_0, b2_1, zB_1, zB_0, zB_b2, not_true_eq_false, not_false_eq_true, r_Mo, Nat.add_zero, Nat.add_sub_cancel, within_R, within_N, in_R, in_N, inN_yes, inR_yes, inR_pred, orNone_nn, nn_m, nn_N, f_Ct_isDay, f_Ct_isThing, f_Ct_isKind, f_Ct_isRoomSeat, f_Ct_isOffice, f_Ct_isTable, f_Ct_isPaper, f_Ct_isRule, f_Ct_isDecision, f_Mo_isOffice, f_Mo_isTable, f_Mo_isPaper, f_Mo_isRule, f_Mo_isDecision, f_Mo_isDay, f_Mo_isThing, f_Mo_paperOf, f_Mo_set, z, u2u]
    · rw [decide_eq_false (fun q => c q.2)] at z
      rw [rn_n (fun _ => c)]
      simp -dsimp -implicitDefEqProofs (disch := omega) only [f_Mo_readLetters_0, ↓l_m1, l_0, l_1, l_2, l_3, l_4, l_5, l_6, l_7, l_8, l_9, l_10, l_11, l_12, l_13, l_14, l_15, l_16, l_17, l_20, l_21, l_22, l_23, l_24, l_28, l_29, l_30, l_31, l_32, l_40, l_41, l_48, l_57, l_60, l_62, l_63, l_84, l_96, l_97, l_99, l_100, l_122, l_132, l_144, l_150, l_186, l_255, l_256, l_288, l_300, l_522, l_634, l_999, l_5242, l_5410, l_5420, l_5520, l_5528, l_9999, l_65535, l_65536, l_100000, l_16777215, l_252645135, l_858993459, l_1431655765, ↓reduceIte, Nat.reduceAdd, Nat.reduceMul, Nat.reduceSub, ixN, inbN, leT, leF, ltT, ltF, eqT, eqF, eqM, eqNone, addN, mulN, subN, m1N, ↓to_bnd, bnd_some, ↓to_nmT, nmT_eq, up2_r, up2_e, pk_us, pk_un, b2_t, b2_f, b2_0, b2_1, zB_1, zB_0, zB_b2, not_true_eq_false, not_false_eq_true, r_Mo, Nat.add_zero, Nat.add_sub_cancel, within_R, within_N, in_R, in_N, inN_yes, inR_yes, inR_pred, orNone_nn, nn_m, nn_N, f_Ct_isDay, f_Ct_isThing, f_Ct_isKind, f_Ct_isRoomSeat, f_Ct_isOffice, f_Ct_isTable, f_Ct_isPaper, f_Ct_isRule, f_Ct_isDecision, f_Mo_isOffice, f_Mo_isTable, f_Mo_isPaper, f_Mo_isRule, f_Mo_isDecision, f_Mo_isDay, f_Mo_isThing, f_Mo_paperOf, f_Mo_set, z]
theorem mo_rf5 {B : Nat → Nat} {L f : Nat} (hf0 : f ≤ L) : ∀ n p fuel m, L - p = n → p ≤ L → f ≤ p → n < fuel → TpM B L m → m 298 15 = nI f → m 298 14 = nI p → (p ≤ f + 5 → m 298 17 = nI (nvF B f (p - f))) → (∀ j, f ≤ j → j < p → soN (B j) = 2) → ∃ m', f_Mo_readFigures_5 fuel 298 m = some m' ∧ (∀ a, a ≠ 298 → m' a = m a) ∧ (∀ i, i ≠ 14 → i ≠ 16 → i ≠ 17 → m' 298 i = m 298 i) ∧ m' 298 14 = nI (rnN B L 2 p) ∧ m' 298 16 = nI (if 5 < rnN B L 2 p - f then 4 else 2) ∧ (rnN B L 2 p ≤ f + 5 → m' 298 17 = nI (nvF B f (rnN B L 2 p - f))) := by
  intro n
  have stop : ∀ p fl m, p ≤ L → f ≤ p → ¬ (p < L ∧ soN (B p) = 2) → TpM B L m → m 298 15 = nI f → m 298 14 = nI p → (p ≤ f + 5 → m 298 17 = nI (nvF B f (p - f))) → ∃ m', f_Mo_readFigures_5 (fl + 1) 298 m = some m' ∧ (∀ a, a ≠ 298 → m' a = m a) ∧ (∀ i, i ≠ 14 → i ≠ 16 → i ≠ 17 → m' 298 i = m 298 i) ∧ m' 298 14 = nI p ∧ m' 298 16 = nI (if 5 < p - f then 4 else 2) ∧ (p ≤ f + 5 → m' 298 17 = nI (nvF B f (p - f))) := by
    intro p fl m hp hfp hc hT e15 e14 e17
    have hL := hT.1
    have z := mo_isFigure hT hp
    rw [decide_eq_false hc] at z
    refine ⟨up2 m 298 16 (nI (if 5 < p - f then 4 else 2)), ?_, fun a qa => up2_r _ _ _ qa, fun i h1 h2 h3 => by rw [up2_e, pk_un h2], by rw [up2_e, pk_un (by omega)]; exact e14, by rw [up2_e, pk_us], fun q => by rw [up2_e, pk_un (by omega)]; exact e17 q⟩
    by_cases c5 : 5 < p - f
    · rw [if_pos c5]
      simp -dsimp -implicitDefEqProofs (disch := omega) only [f_Mo_readFigures_5, f_Mo_readFigures_92, ↓l_m1, l_0, l_1, l_2, l_3, l_4, l_5, l_6, l_7, l_8, l_9, l_10, l_11, l_12, l_13, l_14, l_15, l_16, l_17, l_20, l_21, l_22, l_23, l_24, l_28, l_29, l_30, l_31, l_32, l_40, l_41, l_48, l_57, l_60, l_62, l_63, l_84, l_96, l_97, l_99, l_100, l_122, l_132, l_144, l_150, l_186, l_255, l_256, l_288, l_300, l_522, l_634, l_999, l_5242, l_5410, l_5420, l_5520, l_5528, l_9999, l_65535, l_65536, l_100000, l_16777215, l_252645135, l_858993459, l_1431655765, ↓reduceIte, Nat.reduceAdd, Nat.reduceMul, Nat.reduceSub, ixN, inbN, leT, leF, ltT, ltF, eqT, eqF, eqM, eqNone, addN, mulN, subN, m1N, ↓to_bnd, bnd_some, ↓to_nmT, nmT_eq, up2_r, up2_e, pk_us, pk_un, b2_t, b2_f, b2_0, b2_1, zB_1, zB_0, zB_b2, not_true_eq_false, not_false_eq_true, r_Mo, Nat.add_zero, Nat.add_sub_cancel, within_R, within_N, in_R, in_N, inN_yes, inR_yes, inR_pred, orNone_nn, nn_m, nn_N, f_Ct_isDay, f_Ct_isThing, f_Ct_isKind, f_Ct_isRoomSeat, f_Ct_isOffice, f_Ct_isTable, f_Ct_isPaper, f_Ct_isRule, f_Ct_isDecision, f_Mo_isOffice, f_Mo_isTable, f_Mo_isPaper, f_Mo_isRule, f_Mo_isDecision, f_Mo_isDay, f_Mo_isThing, f_Mo_paperOf, f_Mo_set, e14, e15, z]
    · rw [if_neg c5]
      simp -dsimp -implicitDefEqProofs (disch := omega) only [f_Mo_readFigures_5, f_Mo_readFigures_92, ↓l_m1, l_0, l_1, l_2, l_3, l_4, l_5, l_6, l_7, l_8, l_9, l_10, l_11, l_12, l_13, l_14, l_15, l_16, l_17, l_20, l_21, l_22, l_23, l_24, l_28, l_29, l_30, l_31, l_32, l_40, l_41, l_48, l_57, l_60, l_62, l_63, l_84, l_96, l_97, l_99, l_100, l_122, l_132, l_144, l_150, l_186, l_255, l_256, l_288, l_300, l_522, l_634, l_999, l_5242, l_5410, l_5420, l_5520, l_5528, l_9999, l_65535, l_65536, l_100000, l_16777215, l_252645135, l_858993459, l_1431655765, ↓reduceIte, Nat.reduceAdd, Nat.reduceMul, Nat.reduceSub, ixN, inbN, leT, leF, ltT, ltF, eqT, eqF, eqM, eqNone, addN, mulN, subN, m1N, ↓to_bnd, bnd_some, ↓to_nmT, nmT_eq, up2_r, up2_e, pk_us, pk_un, b2_t, b2_f, b2_0, b2_1, zB_1, zB_0, zB_b2, not_true_eq_false, not_false_eq_true, r_Mo, Nat.add_zero, Nat.add_sub_cancel, within_R, within_N, in_R, in_N, inN_yes, inR_yes, inR_pred, orNone_nn, nn_m, nn_N, f_Ct_isDay, f_Ct_isThing, f_Ct_isKind, f_Ct_isRoomSeat, f_Ct_isOffice, f_Ct_isTable, f_Ct_isPaper, f_Ct_isRule, f_Ct_isDecision, f_Mo_isOffice, f_Mo_isTable, f_Mo_isPaper, f_Mo_isRule, f_Mo_isDecision, f_Mo_isDay, f_Mo_isThing, f_Mo_paperOf, f_Mo_set, e14, e15, z]
  induction n with
  | zero =>
    intro p fuel m hn hp hfp hf hT e15 e14 e17 hd
    obtain ⟨fl, rfl⟩ : ∃ f', fuel = f' + 1 := ⟨fuel - 1, by omega⟩
    rw [rn_n (fun q => by omega)]
    exact stop p fl m hp hfp (fun q => by omega) hT e15 e14 e17
  | succ n ih =>
    intro p fuel m hn hp hfp hf hT e15 e14 e17 hd
    obtain ⟨fl, rfl⟩ : ∃ f', fuel = f' + 1 := ⟨fuel - 1, by omega⟩
    by_cases c : soN (B p) = 2
    · have hL := hT.1
      have z := mo_isFigure hT hp
      rw [decide_eq_true ⟨by omega, c⟩] at z
      obtain ⟨b1, b2⟩ := hT.2.2.1 p (by omega)
      have bd := so_2 c
      rw [rn_s (by omega) c]
      obtain ⟨v, hv⟩ : ∃ v, v = if 5 ≤ p - f then m 298 17 else nI (nvF B f (p + 1 - f)) := ⟨_, rfl⟩
      obtain ⟨m', z1, z2, z3, z4⟩ := ih (p + 1) fl (up2 (up2 m 298 17 v) 298 14 (nI (p + 1))) (by omega) (by omega) (by omega) (by omega) (TpM_u (TpM_u hT _ (by omega)) _ (by omega)) (by rw [up2_e, pk_un (by omega), up2_e, pk_un (by omega)]; exact e15) (by rw [up2_e, pk_us]) (fun q => by rw [up2_e, pk_un (by omega), up2_e, pk_us, hv, if_neg (by omega)]) (fun j h1 h2 => by
        by_cases ej : j = p
        · rw [ej]; exact c
        · exact hd j h1 (by omega))
      refine ⟨m', ?_, fun a qa => by rw [z2 a qa, up2_r _ _ _ qa, up2_r _ _ _ qa], fun i h1 h2 h3 => by rw [z3 i h1 h2 h3, up2_e, pk_un h1, up2_e, pk_un h3], z4⟩
      rw [← z1]
      by_cases c5 : 5 ≤ p - f
      · rw [if_pos c5] at hv
        subst hv
        simp -dsimp -implicitDefEqProofs (disch := omega) only [f_Mo_readFigures_5, f_Mo_readFigures_57, ↓l_m1, l_0, l_1, l_2, l_3, l_4, l_5, l_6, l_7, l_8, l_9, l_10, l_11, l_12, l_13, l_14, l_15, l_16, l_17, l_20, l_21, l_22, l_23, l_24, l_28, l_29, l_30, l_31, l_32, l_40, l_41, l_48, l_57, l_60, l_62, l_63, l_84, l_96, l_97, l_99, l_100, l_122, l_132, l_144, l_150, l_186, l_255, l_256, l_288, l_300, l_522, l_634, l_999, l_5242, l_5410, l_5420, l_5520, l_5528, l_9999, l_65535, l_65536, l_100000, l_16777215, l_252645135, l_858993459, l_1431655765, ↓reduceIte, Nat.reduceAdd, Nat.reduceMul, Nat.reduceSub, ixN, inbN, leT, leF, ltT, ltF, eqT, eqF, eqM, eqNone, addN, mulN, subN, m1N, ↓to_bnd, bnd_some, ↓to_nmT, nmT_eq, up2_r, up2_e, pk_us, pk_un, b2_t, b2_f, b2_0, b2_1, zB_1, zB_0, zB_b2, not_true_eq_false, not_false_eq_true, r_Mo, Nat.add_zero, Nat.add_sub_cancel, within_R, within_N, in_R, in_N, inN_yes, inR_yes, inR_pred, orNone_nn, nn_m, nn_N, f_Ct_isDay, f_Ct_isThing, f_Ct_isKind, f_Ct_isRoomSeat, f_Ct_isOffice, f_Ct_isTable, f_Ct_isPaper, f_Ct_isRule, f_Ct_isDecision, f_Mo_isOffice, f_Mo_isTable, f_Mo_isPaper, f_Mo_isRule, f_Mo_isDecision, f_Mo_isDay, f_Mo_isThing, f_Mo_paperOf, f_Mo_set, e14, e15, z]
      · rw [if_neg c5] at hv
        have e17' := e17 (by omega)
        have v0 := nv_lt (B := B) (p := f) (p - f) (fun i hi => (so_2 (hd (f + i) (by omega) (by omega))).2)
        have v2 : 10 ^ (p - f) ≤ 10 ^ 5 := Nat.pow_le_pow_right (by decide) (by omega)
        rw [show p + 1 - f = (p - f) + 1 by omega, nvF, show f + (p - f) = p by omega] at hv
        subst hv
        simp -dsimp -implicitDefEqProofs (disch := omega) only [f_Mo_readFigures_5, f_Mo_readFigures_57, ↓l_m1, l_0, l_1, l_2, l_3, l_4, l_5, l_6, l_7, l_8, l_9, l_10, l_11, l_12, l_13, l_14, l_15, l_16, l_17, l_20, l_21, l_22, l_23, l_24, l_28, l_29, l_30, l_31, l_32, l_40, l_41, l_48, l_57, l_60, l_62, l_63, l_84, l_96, l_97, l_99, l_100, l_122, l_132, l_144, l_150, l_186, l_255, l_256, l_288, l_300, l_522, l_634, l_999, l_5242, l_5410, l_5420, l_5520, l_5528, l_9999, l_65535, l_65536, l_100000, l_16777215, l_252645135, l_858993459, l_1431655765, ↓reduceIte, Nat.reduceAdd, Nat.reduceMul, Nat.reduceSub, ixN, inbN, leT, leF, ltT, ltF, eqT, eqF, eqM, eqNone, addN, mulN, subN, m1N, ↓to_bnd, bnd_some, ↓to_nmT, nmT_eq, up2_r, up2_e, pk_us, pk_un, b2_t, b2_f, b2_0, b2_1, zB_1, zB_0, zB_b2, not_true_eq_false, not_false_eq_true, r_Mo, Nat.add_zero, Nat.add_sub_cancel, within_R, within_N, in_R, in_N, inN_yes, inR_yes, inR_pred, orNone_nn, nn_m, nn_N, f_Ct_isDay, f_Ct_isThing, f_Ct_isKind, f_Ct_isRoomSeat, f_Ct_isOffice, f_Ct_isTable, f_Ct_isPaper, f_Ct_isRule, f_Ct_isDecision, f_Mo_isOffice, f_Mo_isTable, f_Mo_isPaper, f_Mo_isRule, f_Mo_isDecision, f_Mo_isDay, f_Mo_isThing, f_Mo_paperOf, f_Mo_set, rc_1, rc_2, rc_3, rc_4, rc_5, rc_6, rc_7, rm_1, rm_2, rm_4, rm_5, rm_6, rm_9, rm_11, rm_12, rm_22, rm_30, rm_34, rm_35, rm_36, rm_37, rm_38, rm_39, rm_40, rm_41, rm_42, rm_43, rm_45, rm_46, rt_0, rt_1, rt_2, rt_3, rt_4, rt_s, rw_0, rw_1, rg_a, rg_v, rs_a, rs_p, rs_r, rs_v, e14, e15, e17', z, b1]
        rw [show 10 * nvF B f (p - f) + B p - 48 = nvF B f (p - f) * 10 + (B p - 48) by omega]
    · rw [rn_n (fun _ => c)]
      exact stop p fl m hp hfp (fun q => c q.2) hT e15 e14 e17
def FrL (m m' : Mm) : Prop := (∀ a, a ≠ 298 → m' a = m a) ∧ ∀ i, i < 14 ∨ 18 < i → m' 298 i = m 298 i
def MTk (B : Nat → Nat) (L k : Nat) (m : Mm) : Prop := m 298 14 = nI (lxS B L (k + 1)).1 ∧ m 298 18 = eI (lxS B L (k + 1)).2 ∧ m 298 15 = nI (tkP B L k) ∧ m 298 16 = nI (mtk (tkT B L k)) ∧ (1 ≤ tkT B L k → tkT B L k ≤ 22 → m 298 17 = nI (mvl (tkT B L k) (tkV B L k)))
theorem u2i (m : Mm) (k i : Nat) : up2 m k i (m k i) = m := by
  funext a j
  by_cases c : a = k
  · rw [c, up2_e]
    by_cases d : j = i
    · rw [d, pk_us]
    · rw [pk_un d]
  · rw [up2_r _ _ _ c]
theorem mo_go0 {B : Nat → Nat} {L : Nat} {m : Mm} (h : TpM B L m) : ∀ n p fuel, L - p = n → p ≤ L → n < fuel → f_Mo_go_0 fuel 298 (up2 m 298 14 (nI p)) = f_Mo_go_38 298 (up2 m 298 14 (nI (skN B L p))) := by
  obtain ⟨hL, e, hb, -⟩ := h
  intro n
  induction n with
  | zero =>
    intro p fuel hn hp hf
    obtain ⟨f, rfl⟩ : ∃ f', fuel = f' + 1 := ⟨fuel - 1, by omega⟩
    rw [sk_n (fun q => by omega)]
    simp -dsimp -implicitDefEqProofs (disch := omega) only [f_Mo_go_0, ↓l_m1, l_0, l_1, l_2, l_3, l_4, l_5, l_6, l_7, l_8, l_9, l_10, l_11, l_12, l_13, l_14, l_15, l_16, l_17, l_20, l_21, l_22, l_23, l_24, l_28, l_29, l_30, l_31, l_32, l_40, l_41, l_48, l_57, l_60, l_62, l_63, l_84, l_96, l_97, l_99, l_100, l_122, l_132, l_144, l_150, l_186, l_255, l_256, l_288, l_300, l_522, l_634, l_999, l_5242, l_5410, l_5420, l_5520, l_5528, l_9999, l_65535, l_65536, l_100000, l_16777215, l_252645135, l_858993459, l_1431655765, ↓reduceIte, Nat.reduceAdd, Nat.reduceMul, Nat.reduceSub, ixN, inbN, leT, leF, ltT, ltF, eqT, eqF, eqM, eqNone, addN, mulN, subN, m1N, ↓to_bnd, bnd_some, ↓to_nmT, nmT_eq, up2_r, up2_e, pk_us, pk_un, b2_t, b2_f, b2_0, b2_1, zB_1, zB_0, zB_b2, not_true_eq_false, not_false_eq_true, r_Mo, Nat.add_zero, Nat.add_sub_cancel, within_R, within_N, in_R, in_N, inN_yes, inR_yes, inR_pred, orNone_nn, nn_m, nn_N, f_Ct_isDay, f_Ct_isThing, f_Ct_isKind, f_Ct_isRoomSeat, f_Ct_isOffice, f_Ct_isTable, f_Ct_isPaper, f_Ct_isRule, f_Ct_isDecision, f_Mo_isOffice, f_Mo_isTable, f_Mo_isPaper, f_Mo_isRule, f_Mo_isDecision, f_Mo_isDay, f_Mo_isThing, f_Mo_paperOf, f_Mo_set, e]
  | succ n ih =>
    intro p fuel hn hp hf
    obtain ⟨f, rfl⟩ : ∃ f', fuel = f' + 1 := ⟨fuel - 1, by omega⟩
    obtain ⟨b1, b2⟩ := hb p (by omega)
    by_cases c : B p = 32
    · have y := ih (p + 1) f (by omega) (by omega) (by omega)
      rw [sk_s (by omega) c, ← y]
      rw [c] at b1
      simp -dsimp -implicitDefEqProofs (disch := omega) only [f_Mo_go_0, ↓l_m1, l_0, l_1, l_2, l_3, l_4, l_5, l_6, l_7, l_8, l_9, l_10, l_11, l_12, l_13, l_14, l_15, l_16, l_17, l_20, l_21, l_22, l_23, l_24, l_28, l_29, l_30, l_31, l_32, l_40, l_41, l_48, l_57, l_60, l_62, l_63, l_84, l_96, l_97, l_99, l_100, l_122, l_132, l_144, l_150, l_186, l_255, l_256, l_288, l_300, l_522, l_634, l_999, l_5242, l_5410, l_5420, l_5520, l_5528, l_9999, l_65535, l_65536, l_100000, l_16777215, l_252645135, l_858993459, l_1431655765, ↓reduceIte, Nat.reduceAdd, Nat.reduceMul, Nat.reduceSub, ixN, inbN, leT, leF, ltT, ltF, eqT, eqF, eqM, eqNone, addN, mulN, subN, m1N, ↓to_bnd, bnd_some, ↓to_nmT, nmT_eq, up2_r, up2_e, pk_us, pk_un, b2_t, b2_f, b2_0, b2_1, zB_1, zB_0, zB_b2, not_true_eq_false, not_false_eq_true, r_Mo, Nat.add_zero, Nat.add_sub_cancel, within_R, within_N, in_R, in_N, inN_yes, inR_yes, inR_pred, orNone_nn, nn_m, nn_N, f_Ct_isDay, f_Ct_isThing, f_Ct_isKind, f_Ct_isRoomSeat, f_Ct_isOffice, f_Ct_isTable, f_Ct_isPaper, f_Ct_isRule, f_Ct_isDecision, f_Mo_isOffice, f_Mo_isTable, f_Mo_isPaper, f_Mo_isRule, f_Mo_isDecision, f_Mo_isDay, f_Mo_isThing, f_Mo_paperOf, f_Mo_set, rc_1, rc_2, rc_3, rc_4, rc_5, rc_6, rc_7, rm_1, rm_2, rm_4, rm_5, rm_6, rm_9, rm_11, rm_12, rm_22, rm_30, rm_34, rm_35, rm_36, rm_37, rm_38, rm_39, rm_40, rm_41, rm_42, rm_43, rm_45, rm_46, rt_0, rt_1, rt_2, rt_3, rt_4, rt_s, rw_0, rw_1, rg_a, rg_v, rs_a, rs_p, rs_r, rs_v, e, b1, u2u]
    · rw [sk_n (fun _ => c)]
      simp -dsimp -implicitDefEqProofs (disch := omega) only [f_Mo_go_0, ↓l_m1, l_0, l_1, l_2, l_3, l_4, l_5, l_6, l_7, l_8, l_9, l_10, l_11, l_12, l_13, l_14, l_15, l_16, l_17, l_20, l_21, l_22, l_23, l_24, l_28, l_29, l_30, l_31, l_32, l_40, l_41, l_48, l_57, l_60, l_62, l_63, l_84, l_96, l_97, l_99, l_100, l_122, l_132, l_144, l_150, l_186, l_255, l_256, l_288, l_300, l_522, l_634, l_999, l_5242, l_5410, l_5420, l_5520, l_5528, l_9999, l_65535, l_65536, l_100000, l_16777215, l_252645135, l_858993459, l_1431655765, ↓reduceIte, Nat.reduceAdd, Nat.reduceMul, Nat.reduceSub, ixN, inbN, leT, leF, ltT, ltF, eqT, eqF, eqM, eqNone, addN, mulN, subN, m1N, ↓to_bnd, bnd_some, ↓to_nmT, nmT_eq, up2_r, up2_e, pk_us, pk_un, b2_t, b2_f, b2_0, b2_1, zB_1, zB_0, zB_b2, not_true_eq_false, not_false_eq_true, r_Mo, Nat.add_zero, Nat.add_sub_cancel, within_R, within_N, in_R, in_N, inN_yes, inR_yes, inR_pred, orNone_nn, nn_m, nn_N, f_Ct_isDay, f_Ct_isThing, f_Ct_isKind, f_Ct_isRoomSeat, f_Ct_isOffice, f_Ct_isTable, f_Ct_isPaper, f_Ct_isRule, f_Ct_isDecision, f_Mo_isOffice, f_Mo_isTable, f_Mo_isPaper, f_Mo_isRule, f_Mo_isDecision, f_Mo_isDay, f_Mo_isThing, f_Mo_paperOf, f_Mo_set, rc_1, rc_2, rc_3, rc_4, rc_5, rc_6, rc_7, rm_1, rm_2, rm_4, rm_5, rm_6, rm_9, rm_11, rm_12, rm_22, rm_30, rm_34, rm_35, rm_36, rm_37, rm_38, rm_39, rm_40, rm_41, rm_42, rm_43, rm_45, rm_46, rt_0, rt_1, rt_2, rt_3, rt_4, rt_s, rw_0, rw_1, rg_a, rg_v, rs_a, rs_p, rs_r, rs_v, e, b1]
/-- what is read at f, where the word before ended at x -/
theorem mo_go62 {B : Nat → Nat} {L f : Nat} {m : Mm} (h : TpM B L m) (hf : f < L) (e14 : m 298 14 = nI f) (e15 : m 298 15 = nI f) (cl : Bool) : ∃ m', f_Mo_go_62 298 (b2 cl) m = some m' ∧ FrL m m' ∧ m' 298 14 = nI (enN B L f) ∧ m' 298 18 = eI (if soN (B f) = 3 then 200 else enN B L f) ∧ m' 298 15 = nI f ∧ m' 298 16 = nI (mtk (if soN (B f) ≠ 3 ∧ cl = true then 23 else tcN B f (enN B L f) (soN (B f)))) ∧ (¬ (soN (B f) ≠ 3 ∧ cl = true) → tcN B f (enN B L f) (soN (B f)) ≤ 22 → m' 298 17 = nI (mvl (tcN B f (enN B L f) (soN (B f))) (nvF B f (enN B L f - f)))) := by
  have hL := h.1
  have en := en_b (B := B) hf
  have so := soN_le (B f)
  have il := mo_isLetter h (show f ≤ L by omega)
  have ig := mo_isFigure h (show f ≤ L by omega)
  have e13 := h.2.1
  obtain ⟨b1, b2'⟩ := h.2.2.1 f hf
  have ee : eI (enN B L f) = nI (enN B L f) := by unfold eI; rw [if_pos (by omega)]
  rcases (by omega : soN (B f) = 1 ∨ soN (B f) = 2 ∨ soN (B f) = 3) with c | c | c
  · rw [decide_eq_true ⟨hf, c⟩] at il
    have er : rnN B L 1 f = enN B L f := by unfold enN; rw [c, if_neg (by decide), rn_s hf c]
    have wl := wc_le B f (enN B L f)
    obtain ⟨w1, w2⟩ := mw0_t (wcN B f (enN B L f)) (by omega)
    have z0 := mo_rl0 h _ f NN rfl (by omega) (NN_lt (by omega))
    rw [er] at z0
    obtain ⟨m1, z1, z2, z3, z4⟩ := mo_rl31 (B := B) (L := L) (p := f) (q := enN B L f) (w0 := mw0 (wcN B f (enN B L f))) (by omega) (by omega) (fun w hw => by
      rw [wc_iff B f (enN B L f) (prm_lt w hw)]
      exact decide_eq_decide.mpr (prm_mw _ (by omega) w hw)) (by unfold mw0; split <;> (try unfold mvl) <;> (repeat' split) <;> omega) 17 0 NN (up2 (up2 m 298 14 (nI (enN B L f))) 298 16 (nI 4)) (by omega) (NN_lt (by omega)) (TpM_u (TpM_u h _ (by omega)) _ (by omega)) (by rw [up2_e, pk_un (by omega), up2_e, pk_us]) (by rw [up2_e, pk_un (by omega), up2_e, pk_un (by omega)]; exact e15) (by rw [up2_e, pk_us, if_neg (by omega)]) (fun q => by omega)
    have rl : f_Mo_readLetters 298 m = some m1 := by
      unfold f_Mo_readLetters
      rw [← z1, ← z0, ← e14, u2i]
    have m14 : m1 298 14 = nI (enN B L f) := by rw [z2.2 14 (by omega) (by omega), up2_e, pk_un (by omega), up2_e, pk_us]
    have m15 : m1 298 15 = nI f := by rw [z2.2 15 (by omega) (by omega), up2_e, pk_un (by omega), up2_e, pk_un (by omega)]; exact e15
    have fr : ∀ i, i < 14 ∨ 18 < i → m1 298 i = m 298 i := fun i hi => by rw [z2.2 i (by omega) (by omega), up2_e, pk_un (by omega), up2_e, pk_un (by omega)]
    have fa : ∀ a, a ≠ 298 → m1 a = m a := fun a ha => by rw [z2.1 a ha, up2_r _ _ _ ha, up2_r _ _ _ ha]
    rw [w1] at z3
    have tc : tcN B f (enN B L f) 1 = 6 + wcN B f (enN B L f) := by unfold tcN; rw [if_pos rfl]
    rw [c, if_neg (by decide), ee, tc]
    refine ⟨up2 (up2 m1 298 18 (nI (enN B L f))) 298 16 (nI (mtk (if 1 ≠ 3 ∧ cl = true then 23 else 6 + wcN B f (enN B L f)))), ?_, ⟨fun a ha => by rw [up2_r _ _ _ ha, up2_r _ _ _ ha, fa a ha], fun i hi => by rw [up2_e, pk_un (by omega), up2_e, pk_un (by omega), fr i hi]⟩, by rw [up2_e, pk_un (by omega), up2_e, pk_un (by omega)]; exact m14, by rw [up2_e, pk_un (by omega), up2_e, pk_us], by rw [up2_e, pk_un (by omega), up2_e, pk_un (by omega)]; exact m15, by rw [up2_e, pk_us], fun q1 q2 => ?_⟩
    · cases cl
      · rw [if_neg (fun q => by cases q.2)]
        simp -dsimp -implicitDefEqProofs (disch := omega) only [f_Mo_go_62, f_Mo_go_102, f_Mo_go_124, f_Mo_go_145, ↓l_m1, l_0, l_1, l_2, l_3, l_4, l_5, l_6, l_7, l_8, l_9, l_10, l_11, l_12, l_13, l_14, l_15, l_16, l_17, l_20, l_21, l_22, l_23, l_24, l_28, l_29, l_30, l_31, l_32, l_40, l_41, l_48, l_57, l_60, l_62, l_63, l_84, l_96, l_97, l_99, l_100, l_122, l_132, l_144, l_150, l_186, l_255, l_256, l_288, l_300, l_522, l_634, l_999, l_5242, l_5410, l_5420, l_5520, l_5528, l_9999, l_65535, l_65536, l_100000, l_16777215, l_252645135, l_858993459, l_1431655765, ↓reduceIte, Nat.reduceAdd, Nat.reduceMul, Nat.reduceSub, ixN, inbN, leT, leF, ltT, ltF, eqT, eqF, eqM, eqNone, addN, mulN, subN, m1N, ↓to_bnd, bnd_some, ↓to_nmT, nmT_eq, up2_r, up2_e, pk_us, pk_un, b2_t, b2_f, b2_0, b2_1, zB_1, zB_0, zB_b2, not_true_eq_false, not_false_eq_true, r_Mo, Nat.add_zero, Nat.add_sub_cancel, within_R, within_N, in_R, in_N, inN_yes, inR_yes, inR_pred, orNone_nn, nn_m, nn_N, f_Ct_isDay, f_Ct_isThing, f_Ct_isKind, f_Ct_isRoomSeat, f_Ct_isOffice, f_Ct_isTable, f_Ct_isPaper, f_Ct_isRule, f_Ct_isDecision, f_Mo_isOffice, f_Mo_isTable, f_Mo_isPaper, f_Mo_isRule, f_Mo_isDecision, f_Mo_isDay, f_Mo_isThing, f_Mo_paperOf, f_Mo_set, e13, e15, il, rl, m14, z3]
      · rw [if_pos ⟨by decide, rfl⟩, show mtk 23 = 4 from rfl]
        simp -dsimp -implicitDefEqProofs (disch := omega) only [f_Mo_go_62, f_Mo_go_102, f_Mo_go_124, f_Mo_go_145, ↓l_m1, l_0, l_1, l_2, l_3, l_4, l_5, l_6, l_7, l_8, l_9, l_10, l_11, l_12, l_13, l_14, l_15, l_16, l_17, l_20, l_21, l_22, l_23, l_24, l_28, l_29, l_30, l_31, l_32, l_40, l_41, l_48, l_57, l_60, l_62, l_63, l_84, l_96, l_97, l_99, l_100, l_122, l_132, l_144, l_150, l_186, l_255, l_256, l_288, l_300, l_522, l_634, l_999, l_5242, l_5410, l_5420, l_5520, l_5528, l_9999, l_65535, l_65536, l_100000, l_16777215, l_252645135, l_858993459, l_1431655765, ↓reduceIte, Nat.reduceAdd, Nat.reduceMul, Nat.reduceSub, ixN, inbN, leT, leF, ltT, ltF, eqT, eqF, eqM, eqNone, addN, mulN, subN, m1N, ↓to_bnd, bnd_some, ↓to_nmT, nmT_eq, up2_r, up2_e, pk_us, pk_un, b2_t, b2_f, b2_0, b2_1, zB_1, zB_0, zB_b2, not_true_eq_false, not_false_eq_true, r_Mo, Nat.add_zero, Nat.add_sub_cancel, within_R, within_N, in_R, in_N, inN_yes, inR_yes, inR_pred, orNone_nn, nn_m, nn_N, f_Ct_isDay, f_Ct_isThing, f_Ct_isKind, f_Ct_isRoomSeat, f_Ct_isOffice, f_Ct_isTable, f_Ct_isPaper, f_Ct_isRule, f_Ct_isDecision, f_Mo_isOffice, f_Mo_isTable, f_Mo_isPaper, f_Mo_isRule, f_Mo_isDecision, f_Mo_isDay, f_Mo_isThing, f_Mo_paperOf, f_Mo_set, e13, e15, il, rl, m14, z3]
    · have wl2 : wcN B f (enN B L f) < 17 := by omega
      rw [up2_e, pk_un (by omega), up2_e, pk_un (by omega), z4 (w2 wl2)]
      unfold mw0
      rw [if_pos wl2]
      rw [mvl_v (t := 6 + wcN B f (enN B L f)) (v := nvF B f (enN B L f - f)) (by omega)]
  · rw [decide_eq_false (fun q => by omega)] at il
    rw [decide_eq_true ⟨hf, c⟩] at ig
    have er : rnN B L 2 f = enN B L f := by unfold enN; rw [c, if_neg (by decide), rn_s hf c]
    obtain ⟨m1, z1, z2, z3, z4, z5, z6⟩ := mo_rf5 (B := B) (L := L) (f := f) (by omega) _ f NN (up2 m 298 17 (nI 0)) rfl (by omega) (by omega) (NN_lt (by omega)) (TpM_u h _ (by omega)) (by rw [up2_e, pk_un (by omega)]; exact e15) (by rw [up2_e, pk_un (by omega)]; exact e14) (fun _ => by rw [up2_e, pk_us, Nat.sub_self]; rfl) (fun j h1 h2 => by omega)
    rw [er] at z4 z5 z6
    have rl : f_Mo_readFigures 298 m = some m1 := by
      unfold f_Mo_readFigures
      rw [l_0]
      exact z1
    have m15 : m1 298 15 = nI f := by rw [z3 15 (by omega) (by omega) (by omega), up2_e, pk_un (by omega)]; exact e15
    have fr : ∀ i, i < 14 ∨ 18 < i → m1 298 i = m 298 i := fun i hi => by rw [z3 i (by omega) (by omega) (by omega), up2_e, pk_un (by omega)]
    have fa : ∀ a, a ≠ 298 → m1 a = m a := fun a ha => by rw [z2 a ha, up2_r _ _ _ ha]
    have tc : tcN B f (enN B L f) 2 = if 5 < enN B L f - f then 23 else 1 := by unfold tcN; rw [if_neg (by decide), if_pos rfl]
    have tm : (if 5 < enN B L f - f then 4 else 2) = mtk (if 5 < enN B L f - f then 23 else 1) := by
      by_cases d : 5 < enN B L f - f
      · rw [if_pos d, if_pos d]; rfl
      · rw [if_neg d, if_neg d]; rfl
    rw [tm] at z5
    rw [c, if_neg (by decide), ee, tc]
    refine ⟨up2 (up2 m1 298 18 (nI (enN B L f))) 298 16 (nI (mtk (if 2 ≠ 3 ∧ cl = true then 23 else if 5 < enN B L f - f then 23 else 1))), ?_, ⟨fun a ha => by rw [up2_r _ _ _ ha, up2_r _ _ _ ha, fa a ha], fun i hi => by rw [up2_e, pk_un (by omega), up2_e, pk_un (by omega), fr i hi]⟩, by rw [up2_e, pk_un (by omega), up2_e, pk_un (by omega)]; exact z4, by rw [up2_e, pk_un (by omega), up2_e, pk_us], by rw [up2_e, pk_un (by omega), up2_e, pk_un (by omega)]; exact m15, by rw [up2_e, pk_us], fun q1 q2 => ?_⟩
    · cases cl
      · rw [if_neg (fun q => by cases q.2)]
        simp -dsimp -implicitDefEqProofs (disch := omega) only [f_Mo_go_62, f_Mo_go_102, f_Mo_go_124, f_Mo_go_145, ↓l_m1, l_0, l_1, l_2, l_3, l_4, l_5, l_6, l_7, l_8, l_9, l_10, l_11, l_12, l_13, l_14, l_15, l_16, l_17, l_20, l_21, l_22, l_23, l_24, l_28, l_29, l_30, l_31, l_32, l_40, l_41, l_48, l_57, l_60, l_62, l_63, l_84, l_96, l_97, l_99, l_100, l_122, l_132, l_144, l_150, l_186, l_255, l_256, l_288, l_300, l_522, l_634, l_999, l_5242, l_5410, l_5420, l_5520, l_5528, l_9999, l_65535, l_65536, l_100000, l_16777215, l_252645135, l_858993459, l_1431655765, ↓reduceIte, Nat.reduceAdd, Nat.reduceMul, Nat.reduceSub, ixN, inbN, leT, leF, ltT, ltF, eqT, eqF, eqM, eqNone, addN, mulN, subN, m1N, ↓to_bnd, bnd_some, ↓to_nmT, nmT_eq, up2_r, up2_e, pk_us, pk_un, b2_t, b2_f, b2_0, b2_1, zB_1, zB_0, zB_b2, not_true_eq_false, not_false_eq_true, r_Mo, Nat.add_zero, Nat.add_sub_cancel, within_R, within_N, in_R, in_N, inN_yes, inR_yes, inR_pred, orNone_nn, nn_m, nn_N, f_Ct_isDay, f_Ct_isThing, f_Ct_isKind, f_Ct_isRoomSeat, f_Ct_isOffice, f_Ct_isTable, f_Ct_isPaper, f_Ct_isRule, f_Ct_isDecision, f_Mo_isOffice, f_Mo_isTable, f_Mo_isPaper, f_Mo_isRule, f_Mo_isDecision, f_Mo_isDay, f_Mo_isThing, f_Mo_paperOf, f_Mo_set, e13, e15, il, ig, rl, z4, z5]
      · rw [if_pos ⟨by decide, rfl⟩, show mtk 23 = 4 from rfl]
        simp -dsimp -implicitDefEqProofs (disch := omega) only [f_Mo_go_62, f_Mo_go_102, f_Mo_go_124, f_Mo_go_145, ↓l_m1, l_0, l_1, l_2, l_3, l_4, l_5, l_6, l_7, l_8, l_9, l_10, l_11, l_12, l_13, l_14, l_15, l_16, l_17, l_20, l_21, l_22, l_23, l_24, l_28, l_29, l_30, l_31, l_32, l_40, l_41, l_48, l_57, l_60, l_62, l_63, l_84, l_96, l_97, l_99, l_100, l_122, l_132, l_144, l_150, l_186, l_255, l_256, l_288, l_300, l_522, l_634, l_999, l_5242, l_5410, l_5420, l_5520, l_5528, l_9999, l_65535, l_65536, l_100000, l_16777215, l_252645135, l_858993459, l_1431655765, ↓reduceIte, Nat.reduceAdd, Nat.reduceMul, Nat.reduceSub, ixN, inbN, leT, leF, ltT, ltF, eqT, eqF, eqM, eqNone, addN, mulN, subN, m1N, ↓to_bnd, bnd_some, ↓to_nmT, nmT_eq, up2_r, up2_e, pk_us, pk_un, b2_t, b2_f, b2_0, b2_1, zB_1, zB_0, zB_b2, not_true_eq_false, not_false_eq_true, r_Mo, Nat.add_zero, Nat.add_sub_cancel, within_R, within_N, in_R, in_N, inN_yes, inR_yes, inR_pred, orNone_nn, nn_m, nn_N, f_Ct_isDay, f_Ct_isThing, f_Ct_isKind, f_Ct_isRoomSeat, f_Ct_isOffice, f_Ct_isTable, f_Ct_isPaper, f_Ct_isRule, f_Ct_isDecision, f_Mo_isOffice, f_Mo_isTable, f_Mo_isPaper, f_Mo_isRule, f_Mo_isDecision, f_Mo_isDay, f_Mo_isThing, f_Mo_paperOf, f_Mo_set, e13, e15, il, ig, rl, z4, z5]
    · by_cases d : 5 < enN B L f - f
      · rw [if_pos d] at q2; omega
      · rw [if_neg d, up2_e, pk_un (by omega), up2_e, pk_un (by omega), z6 (by omega)]
        rfl
  · rw [decide_eq_false (fun q => by omega)] at il ig
    have en3 : enN B L f = f + 1 := by unfold enN; rw [if_pos c]
    have e200 : eI 200 = m1I := by unfold eI; rw [if_neg (by decide)]
    have tc : tcN B f (enN B L f) 3 = if B f = 40 then 2 else if B f = 41 then 3 else if B f = 60 then 4 else if B f = 62 then 5 else 23 := by unfold tcN; rw [if_neg (by decide), if_neg (by decide)]
    obtain ⟨t, ht⟩ : ∃ t, t = tcN B f (enN B L f) 3 := ⟨_, rfl⟩
    rw [c, if_pos rfl, e200, if_neg (fun q => q.1 rfl), ← ht]
    rw [tc] at ht
    refine ⟨up2 (up2 (up2 (up2 m 298 17 (nI (B f))) 298 16 (nI (mtk t))) 298 14 (nI (f + 1))) 298 18 m1I, ?_, ⟨fun a ha => by rw [up2_r _ _ _ ha, up2_r _ _ _ ha, up2_r _ _ _ ha, up2_r _ _ _ ha], fun i hi => by simp -dsimp -implicitDefEqProofs (disch := omega) only [up2_e, pk_un]⟩, by rw [en3]; simp -dsimp -implicitDefEqProofs (disch := omega) only [up2_e, pk_un, pk_us], by simp -dsimp -implicitDefEqProofs (disch := omega) only [up2_e, pk_un, pk_us], by simp -dsimp -implicitDefEqProofs (disch := omega) only [up2_e, pk_un, pk_us, e15], by simp -dsimp -implicitDefEqProofs (disch := omega) only [up2_e, pk_un, pk_us], fun q1 q2 => ?_⟩
    · by_cases c1 : B f = 40
      · rw [if_pos c1] at ht
        rw [ht, show mtk 2 = 3 from rfl]
        simp -dsimp -implicitDefEqProofs (disch := omega) only [f_Mo_go_62, f_Mo_go_199, f_Mo_go_204, ↓l_m1, l_0, l_1, l_2, l_3, l_4, l_5, l_6, l_7, l_8, l_9, l_10, l_11, l_12, l_13, l_14, l_15, l_16, l_17, l_20, l_21, l_22, l_23, l_24, l_28, l_29, l_30, l_31, l_32, l_40, l_41, l_48, l_57, l_60, l_62, l_63, l_84, l_96, l_97, l_99, l_100, l_122, l_132, l_144, l_150, l_186, l_255, l_256, l_288, l_300, l_522, l_634, l_999, l_5242, l_5410, l_5420, l_5520, l_5528, l_9999, l_65535, l_65536, l_100000, l_16777215, l_252645135, l_858993459, l_1431655765, ↓reduceIte, Nat.reduceAdd, Nat.reduceMul, Nat.reduceSub, ixN, inbN, leT, leF, ltT, ltF, eqT, eqF, eqM, eqNone, addN, mulN, subN, m1N, ↓to_bnd, bnd_some, ↓to_nmT, nmT_eq, up2_r, up2_e, pk_us, pk_un, b2_t, b2_f, b2_0, b2_1, zB_1, zB_0, zB_b2, not_true_eq_false, not_false_eq_true, r_Mo, Nat.add_zero, Nat.add_sub_cancel, within_R, within_N, in_R, in_N, inN_yes, inR_yes, inR_pred, orNone_nn, nn_m, nn_N, f_Ct_isDay, f_Ct_isThing, f_Ct_isKind, f_Ct_isRoomSeat, f_Ct_isOffice, f_Ct_isTable, f_Ct_isPaper, f_Ct_isRule, f_Ct_isDecision, f_Mo_isOffice, f_Mo_isTable, f_Mo_isPaper, f_Mo_isRule, f_Mo_isDecision, f_Mo_isDay, f_Mo_isThing, f_Mo_paperOf, f_Mo_set, rc_1, rc_2, rc_3, rc_4, rc_5, rc_6, rc_7, rm_1, rm_2, rm_4, rm_5, rm_6, rm_9, rm_11, rm_12, rm_22, rm_30, rm_34, rm_35, rm_36, rm_37, rm_38, rm_39, rm_40, rm_41, rm_42, rm_43, rm_45, rm_46, rt_0, rt_1, rt_2, rt_3, rt_4, rt_s, rw_0, rw_1, rg_a, rg_v, rs_a, rs_p, rs_r, rs_v, e13, e14, e15, il, ig, b1]
      · rw [if_neg c1] at ht
        by_cases c2 : B f = 41
        · rw [if_pos c2] at ht
          rw [ht, show mtk 3 = 3 from rfl]
          simp -dsimp -implicitDefEqProofs (disch := omega) only [f_Mo_go_62, f_Mo_go_199, f_Mo_go_204, ↓l_m1, l_0, l_1, l_2, l_3, l_4, l_5, l_6, l_7, l_8, l_9, l_10, l_11, l_12, l_13, l_14, l_15, l_16, l_17, l_20, l_21, l_22, l_23, l_24, l_28, l_29, l_30, l_31, l_32, l_40, l_41, l_48, l_57, l_60, l_62, l_63, l_84, l_96, l_97, l_99, l_100, l_122, l_132, l_144, l_150, l_186, l_255, l_256, l_288, l_300, l_522, l_634, l_999, l_5242, l_5410, l_5420, l_5520, l_5528, l_9999, l_65535, l_65536, l_100000, l_16777215, l_252645135, l_858993459, l_1431655765, ↓reduceIte, Nat.reduceAdd, Nat.reduceMul, Nat.reduceSub, ixN, inbN, leT, leF, ltT, ltF, eqT, eqF, eqM, eqNone, addN, mulN, subN, m1N, ↓to_bnd, bnd_some, ↓to_nmT, nmT_eq, up2_r, up2_e, pk_us, pk_un, b2_t, b2_f, b2_0, b2_1, zB_1, zB_0, zB_b2, not_true_eq_false, not_false_eq_true, r_Mo, Nat.add_zero, Nat.add_sub_cancel, within_R, within_N, in_R, in_N, inN_yes, inR_yes, inR_pred, orNone_nn, nn_m, nn_N, f_Ct_isDay, f_Ct_isThing, f_Ct_isKind, f_Ct_isRoomSeat, f_Ct_isOffice, f_Ct_isTable, f_Ct_isPaper, f_Ct_isRule, f_Ct_isDecision, f_Mo_isOffice, f_Mo_isTable, f_Mo_isPaper, f_Mo_isRule, f_Mo_isDecision, f_Mo_isDay, f_Mo_isThing, f_Mo_paperOf, f_Mo_set, rc_1, rc_2, rc_3, rc_4, rc_5, rc_6, rc_7, rm_1, rm_2, rm_4, rm_5, rm_6, rm_9, rm_11, rm_12, rm_22, rm_30, rm_34, rm_35, rm_36, rm_37, rm_38, rm_39, rm_40, rm_41, rm_42, rm_43, rm_45, rm_46, rt_0, rt_1, rt_2, rt_3, rt_4, rt_s, rw_0, rw_1, rg_a, rg_v, rs_a, rs_p, rs_r, rs_v, e13, e14, e15, il, ig, b1]
        · rw [if_neg c2] at ht
          by_cases c3 : B f = 60
          · rw [if_pos c3] at ht
            rw [ht, show mtk 4 = 3 from rfl]
            simp -dsimp -implicitDefEqProofs (disch := omega) only [f_Mo_go_62, f_Mo_go_199, f_Mo_go_204, ↓l_m1, l_0, l_1, l_2, l_3, l_4, l_5, l_6, l_7, l_8, l_9, l_10, l_11, l_12, l_13, l_14, l_15, l_16, l_17, l_20, l_21, l_22, l_23, l_24, l_28, l_29, l_30, l_31, l_32, l_40, l_41, l_48, l_57, l_60, l_62, l_63, l_84, l_96, l_97, l_99, l_100, l_122, l_132, l_144, l_150, l_186, l_255, l_256, l_288, l_300, l_522, l_634, l_999, l_5242, l_5410, l_5420, l_5520, l_5528, l_9999, l_65535, l_65536, l_100000, l_16777215, l_252645135, l_858993459, l_1431655765, ↓reduceIte, Nat.reduceAdd, Nat.reduceMul, Nat.reduceSub, ixN, inbN, leT, leF, ltT, ltF, eqT, eqF, eqM, eqNone, addN, mulN, subN, m1N, ↓to_bnd, bnd_some, ↓to_nmT, nmT_eq, up2_r, up2_e, pk_us, pk_un, b2_t, b2_f, b2_0, b2_1, zB_1, zB_0, zB_b2, not_true_eq_false, not_false_eq_true, r_Mo, Nat.add_zero, Nat.add_sub_cancel, within_R, within_N, in_R, in_N, inN_yes, inR_yes, inR_pred, orNone_nn, nn_m, nn_N, f_Ct_isDay, f_Ct_isThing, f_Ct_isKind, f_Ct_isRoomSeat, f_Ct_isOffice, f_Ct_isTable, f_Ct_isPaper, f_Ct_isRule, f_Ct_isDecision, f_Mo_isOffice, f_Mo_isTable, f_Mo_isPaper, f_Mo_isRule, f_Mo_isDecision, f_Mo_isDay, f_Mo_isThing, f_Mo_paperOf, f_Mo_set, rc_1, rc_2, rc_3, rc_4, rc_5, rc_6, rc_7, rm_1, rm_2, rm_4, rm_5, rm_6, rm_9, rm_11, rm_12, rm_22, rm_30, rm_34, rm_35, rm_36, rm_37, rm_38, rm_39, rm_40, rm_41, rm_42, rm_43, rm_45, rm_46, rt_0, rt_1, rt_2, rt_3, rt_4, rt_s, rw_0, rw_1, rg_a, rg_v, rs_a, rs_p, rs_r, rs_v, e13, e14, e15, il, ig, b1]
          · rw [if_neg c3] at ht
            by_cases c4 : B f = 62
            · rw [if_pos c4] at ht
              rw [ht, show mtk 5 = 3 from rfl]
              simp -dsimp -implicitDefEqProofs (disch := omega) only [f_Mo_go_62, f_Mo_go_199, f_Mo_go_204, ↓l_m1, l_0, l_1, l_2, l_3, l_4, l_5, l_6, l_7, l_8, l_9, l_10, l_11, l_12, l_13, l_14, l_15, l_16, l_17, l_20, l_21, l_22, l_23, l_24, l_28, l_29, l_30, l_31, l_32, l_40, l_41, l_48, l_57, l_60, l_62, l_63, l_84, l_96, l_97, l_99, l_100, l_122, l_132, l_144, l_150, l_186, l_255, l_256, l_288, l_300, l_522, l_634, l_999, l_5242, l_5410, l_5420, l_5520, l_5528, l_9999, l_65535, l_65536, l_100000, l_16777215, l_252645135, l_858993459, l_1431655765, ↓reduceIte, Nat.reduceAdd, Nat.reduceMul, Nat.reduceSub, ixN, inbN, leT, leF, ltT, ltF, eqT, eqF, eqM, eqNone, addN, mulN, subN, m1N, ↓to_bnd, bnd_some, ↓to_nmT, nmT_eq, up2_r, up2_e, pk_us, pk_un, b2_t, b2_f, b2_0, b2_1, zB_1, zB_0, zB_b2, not_true_eq_false, not_false_eq_true, r_Mo, Nat.add_zero, Nat.add_sub_cancel, within_R, within_N, in_R, in_N, inN_yes, inR_yes, inR_pred, orNone_nn, nn_m, nn_N, f_Ct_isDay, f_Ct_isThing, f_Ct_isKind, f_Ct_isRoomSeat, f_Ct_isOffice, f_Ct_isTable, f_Ct_isPaper, f_Ct_isRule, f_Ct_isDecision, f_Mo_isOffice, f_Mo_isTable, f_Mo_isPaper, f_Mo_isRule, f_Mo_isDecision, f_Mo_isDay, f_Mo_isThing, f_Mo_paperOf, f_Mo_set, rc_1, rc_2, rc_3, rc_4, rc_5, rc_6, rc_7, rm_1, rm_2, rm_4, rm_5, rm_6, rm_9, rm_11, rm_12, rm_22, rm_30, rm_34, rm_35, rm_36, rm_37, rm_38, rm_39, rm_40, rm_41, rm_42, rm_43, rm_45, rm_46, rt_0, rt_1, rt_2, rt_3, rt_4, rt_s, rw_0, rw_1, rg_a, rg_v, rs_a, rs_p, rs_r, rs_v, e13, e14, e15, il, ig, b1]
            · rw [if_neg c4] at ht
              rw [ht, show mtk 23 = 4 from rfl]
              simp -dsimp -implicitDefEqProofs (disch := omega) only [f_Mo_go_62, f_Mo_go_199, f_Mo_go_204, ↓l_m1, l_0, l_1, l_2, l_3, l_4, l_5, l_6, l_7, l_8, l_9, l_10, l_11, l_12, l_13, l_14, l_15, l_16, l_17, l_20, l_21, l_22, l_23, l_24, l_28, l_29, l_30, l_31, l_32, l_40, l_41, l_48, l_57, l_60, l_62, l_63, l_84, l_96, l_97, l_99, l_100, l_122, l_132, l_144, l_150, l_186, l_255, l_256, l_288, l_300, l_522, l_634, l_999, l_5242, l_5410, l_5420, l_5520, l_5528, l_9999, l_65535, l_65536, l_100000, l_16777215, l_252645135, l_858993459, l_1431655765, ↓reduceIte, Nat.reduceAdd, Nat.reduceMul, Nat.reduceSub, ixN, inbN, leT, leF, ltT, ltF, eqT, eqF, eqM, eqNone, addN, mulN, subN, m1N, ↓to_bnd, bnd_some, ↓to_nmT, nmT_eq, up2_r, up2_e, pk_us, pk_un, b2_t, b2_f, b2_0, b2_1, zB_1, zB_0, zB_b2, not_true_eq_false, not_false_eq_true, r_Mo, Nat.add_zero, Nat.add_sub_cancel, within_R, within_N, in_R, in_N, inN_yes, inR_yes, inR_pred, orNone_nn, nn_m, nn_N, f_Ct_isDay, f_Ct_isThing, f_Ct_isKind, f_Ct_isRoomSeat, f_Ct_isOffice, f_Ct_isTable, f_Ct_isPaper, f_Ct_isRule, f_Ct_isDecision, f_Mo_isOffice, f_Mo_isTable, f_Mo_isPaper, f_Mo_isRule, f_Mo_isDecision, f_Mo_isDay, f_Mo_isThing, f_Mo_paperOf, f_Mo_set, rc_1, rc_2, rc_3, rc_4, rc_5, rc_6, rc_7, rm_1, rm_2, rm_4, rm_5, rm_6, rm_9, rm_11, rm_12, rm_22, rm_30, rm_34, rm_35, rm_36, rm_37, rm_38, rm_39, rm_40, rm_41, rm_42, rm_43, rm_45, rm_46, rt_0, rt_1, rt_2, rt_3, rt_4, rt_s, rw_0, rw_1, rg_a, rg_v, rs_a, rs_p, rs_r, rs_v, e13, e14, e15, il, ig, b1]
    · have e17 : up2 (up2 (up2 (up2 m 298 17 (nI (B f))) 298 16 (nI (mtk t))) 298 14 (nI (f + 1))) 298 18 m1I 298 17 = nI (B f) := by simp -dsimp -implicitDefEqProofs (disch := omega) only [up2_e, pk_un, pk_us]
      rw [e17]
      congr 1
      by_cases c1 : B f = 40
      · rw [if_pos c1] at ht; rw [ht, c1]; rfl
      · rw [if_neg c1] at ht
        by_cases c2 : B f = 41
        · rw [if_pos c2] at ht; rw [ht, c2]; rfl
        · rw [if_neg c2] at ht
          by_cases c3 : B f = 60
          · rw [if_pos c3] at ht; rw [ht, c3]; rfl
          · rw [if_neg c3] at ht
            by_cases c4 : B f = 62
            · rw [if_pos c4] at ht; rw [ht, c4]; rfl
            · rw [if_neg c4] at ht; omega
theorem mo_goT {B : Nat → Nat} {L k : Nat} {m : Mm} (h : TpM B L m) (e14 : m 298 14 = nI (lxS B L k).1) (e18 : m 298 18 = eI (lxS B L k).2) : ∃ m', f_Mo_go 298 m = some m' ∧ FrL m m' ∧ MTk B L k m' := by
  have hL := h.1
  have l1 := lxS_le B L k
  have lp := tkP_le B L k
  have z0 := mo_go0 h _ (lxS B L k).1 NN rfl l1 (NN_lt (by omega))
  rw [← e14, u2i] at z0
  have tp : skN B L (lxS B L k).1 = tkP B L k := rfl
  rw [tp] at z0
  have q2 := eI_eq (e := (lxS B L k).2) (p := tkP B L k) (by omega)
  obtain ⟨m1, hm1⟩ : ∃ m1, m1 = up2 (up2 m 298 14 (nI (tkP B L k))) 298 15 (nI (tkP B L k)) := ⟨_, rfl⟩
  have hT1 : TpM B L m1 := by rw [hm1]; exact TpM_u (TpM_u h _ (by omega)) _ (by omega)
  have a14 : m1 298 14 = nI (tkP B L k) := by rw [hm1]; simp -dsimp -implicitDefEqProofs (disch := omega) only [up2_e, pk_un, pk_us]
  have a15 : m1 298 15 = nI (tkP B L k) := by rw [hm1]; simp -dsimp -implicitDefEqProofs (disch := omega) only [up2_e, pk_un, pk_us]
  have fL : FrL m m1 := ⟨fun a ha => by rw [hm1, up2_r _ _ _ ha, up2_r _ _ _ ha], fun i hi => by rw [hm1]; simp -dsimp -implicitDefEqProofs (disch := omega) only [up2_e, pk_un]⟩
  have a18 : m1 298 18 = eI (lxS B L k).2 := by rw [hm1]; simp -dsimp -implicitDefEqProofs (disch := omega) only [up2_e, pk_un, e18]
  have st : f_Mo_go 298 m = f_Mo_go_62 298 (b2 (decide ((lxS B L k).2 = tkP B L k))) m1 := by
    unfold f_Mo_go
    rw [z0, hm1]
    have q3 : (nI (tkP B L k) = eI (lxS B L k).2) = ((lxS B L k).2 = tkP B L k) := by rw [← q2]; exact propext ⟨fun q => q.symm, fun q => q.symm⟩
    by_cases c : (lxS B L k).2 = tkP B L k
    · rw [decide_eq_true c]
      rw [eq_true c] at q3
      simp -dsimp -implicitDefEqProofs (disch := omega) only [f_Mo_go_38, ↓l_m1, l_0, l_1, l_2, l_3, l_4, l_5, l_6, l_7, l_8, l_9, l_10, l_11, l_12, l_13, l_14, l_15, l_16, l_17, l_20, l_21, l_22, l_23, l_24, l_28, l_29, l_30, l_31, l_32, l_40, l_41, l_48, l_57, l_60, l_62, l_63, l_84, l_96, l_97, l_99, l_100, l_122, l_132, l_144, l_150, l_186, l_255, l_256, l_288, l_300, l_522, l_634, l_999, l_5242, l_5410, l_5420, l_5520, l_5528, l_9999, l_65535, l_65536, l_100000, l_16777215, l_252645135, l_858993459, l_1431655765, ↓reduceIte, Nat.reduceAdd, Nat.reduceMul, Nat.reduceSub, ixN, inbN, leT, leF, ltT, ltF, eqT, eqF, eqM, eqNone, addN, mulN, subN, m1N, ↓to_bnd, bnd_some, ↓to_nmT, nmT_eq, up2_r, up2_e, pk_us, pk_un, b2_t, b2_f, b2_0, b2_1, zB_1, zB_0, zB_b2, not_true_eq_false, not_false_eq_true, r_Mo, Nat.add_zero, Nat.add_sub_cancel, within_R, within_N, in_R, in_N, inN_yes, inR_yes, inR_pred, orNone_nn, nn_m, nn_N, f_Ct_isDay, f_Ct_isThing, f_Ct_isKind, f_Ct_isRoomSeat, f_Ct_isOffice, f_Ct_isTable, f_Ct_isPaper, f_Ct_isRule, f_Ct_isDecision, f_Mo_isOffice, f_Mo_isTable, f_Mo_isPaper, f_Mo_isRule, f_Mo_isDecision, f_Mo_isDay, f_Mo_isThing, f_Mo_paperOf, f_Mo_set, e18, q3]
    · rw [decide_eq_false c]
      rw [eq_false c] at q3
      simp -dsimp -implicitDefEqProofs (disch := omega) only [f_Mo_go_38, ↓l_m1, l_0, l_1, l_2, l_3, l_4, l_5, l_6, l_7, l_8, l_9, l_10, l_11, l_12, l_13, l_14, l_15, l_16, l_17, l_20, l_21, l_22, l_23, l_24, l_28, l_29, l_30, l_31, l_32, l_40, l_41, l_48, l_57, l_60, l_62, l_63, l_84, l_96, l_97, l_99, l_100, l_122, l_132, l_144, l_150, l_186, l_255, l_256, l_288, l_300, l_522, l_634, l_999, l_5242, l_5410, l_5420, l_5520, l_5528, l_9999, l_65535, l_65536, l_100000, l_16777215, l_252645135, l_858993459, l_1431655765, ↓reduceIte, Nat.reduceAdd, Nat.reduceMul, Nat.reduceSub, ixN, inbN, leT, leF, ltT, ltF, eqT, eqF, eqM, eqNone, addN, mulN, subN, m1N, ↓to_bnd, bnd_some, ↓to_nmT, nmT_eq, up2_r, up2_e, pk_us, pk_un, b2_t, b2_f, b2_0, b2_1, zB_1, zB_0, zB_b2, not_true_eq_false, not_false_eq_true, r_Mo, Nat.add_zero, Nat.add_sub_cancel, within_R, within_N, in_R, in_N, inN_yes, inR_yes, inR_pred, orNone_nn, nn_m, nn_N, f_Ct_isDay, f_Ct_isThing, f_Ct_isKind, f_Ct_isRoomSeat, f_Ct_isOffice, f_Ct_isTable, f_Ct_isPaper, f_Ct_isRule, f_Ct_isDecision, f_Mo_isOffice, f_Mo_isTable, f_Mo_isPaper, f_Mo_isRule, f_Mo_isDecision, f_Mo_isDay, f_Mo_isThing, f_Mo_paperOf, f_Mo_set, e18, q3]
  by_cases c : tkT B L k = 0
  · have cp := tkT_0.mp c
    have n1 : lxS B L (k + 1) = (tkP B L k, (lxS B L k).2) := by
      rw [lxS]
      unfold lxN
      have nl : L ≤ lxF B L (lxS B L k) := show L ≤ tkP B L k by omega
      rw [if_pos nl]
      rfl
    rw [cp] at a14 a15
    refine ⟨up2 m1 298 16 (nI 0), ?_, ⟨fun a ha => by rw [up2_r _ _ _ ha, fL.1 a ha], fun i hi => by rw [up2_e, pk_un (by omega), fL.2 i hi]⟩, ?_, ?_, ?_, ?_, fun q => by omega⟩
    · rw [st]
      have e13 := hT1.2.1
      simp -dsimp -implicitDefEqProofs (disch := omega) only [f_Mo_go_62, ↓l_m1, l_0, l_1, l_2, l_3, l_4, l_5, l_6, l_7, l_8, l_9, l_10, l_11, l_12, l_13, l_14, l_15, l_16, l_17, l_20, l_21, l_22, l_23, l_24, l_28, l_29, l_30, l_31, l_32, l_40, l_41, l_48, l_57, l_60, l_62, l_63, l_84, l_96, l_97, l_99, l_100, l_122, l_132, l_144, l_150, l_186, l_255, l_256, l_288, l_300, l_522, l_634, l_999, l_5242, l_5410, l_5420, l_5520, l_5528, l_9999, l_65535, l_65536, l_100000, l_16777215, l_252645135, l_858993459, l_1431655765, ↓reduceIte, Nat.reduceAdd, Nat.reduceMul, Nat.reduceSub, ixN, inbN, leT, leF, ltT, ltF, eqT, eqF, eqM, eqNone, addN, mulN, subN, m1N, ↓to_bnd, bnd_some, ↓to_nmT, nmT_eq, up2_r, up2_e, pk_us, pk_un, b2_t, b2_f, b2_0, b2_1, zB_1, zB_0, zB_b2, not_true_eq_false, not_false_eq_true, r_Mo, Nat.add_zero, Nat.add_sub_cancel, within_R, within_N, in_R, in_N, inN_yes, inR_yes, inR_pred, orNone_nn, nn_m, nn_N, f_Ct_isDay, f_Ct_isThing, f_Ct_isKind, f_Ct_isRoomSeat, f_Ct_isOffice, f_Ct_isTable, f_Ct_isPaper, f_Ct_isRule, f_Ct_isDecision, f_Mo_isOffice, f_Mo_isTable, f_Mo_isPaper, f_Mo_isRule, f_Mo_isDecision, f_Mo_isDay, f_Mo_isThing, f_Mo_paperOf, f_Mo_set, e13, a15]
    · rw [up2_e, pk_un (by omega), n1, cp]; exact a14
    · rw [up2_e, pk_un (by omega), n1]; exact a18
    · rw [up2_e, pk_un (by omega), cp]; exact a15
    · rw [up2_e, pk_us, c]; rfl
  · obtain ⟨n1, n2⟩ := lxS_ne c
    obtain ⟨m', z1, z2, z3, z4, z5, z6, z7⟩ := mo_go62 hT1 n2 a14 a15 (decide ((lxS B L k).2 = tkP B L k))
    have eT : tkT B L k = if soN (B (tkP B L k)) ≠ 3 ∧ (lxS B L k).2 = tkP B L k then 23 else tcN B (tkP B L k) (enN B L (tkP B L k)) (soN (B (tkP B L k))) := by
      have q : tkT B L k = if L ≤ tkP B L k then 0 else if soN (B (tkP B L k)) ≠ 3 ∧ (lxS B L k).2 = tkP B L k then 23 else tcN B (tkP B L k) (enN B L (tkP B L k)) (soN (B (tkP B L k))) := rfl
      rw [if_neg (by omega)] at q
      exact q
    refine ⟨m', by rw [st]; exact z1, ⟨fun a ha => by rw [z2.1 a ha, fL.1 a ha], fun i hi => by rw [z2.2 i hi, fL.2 i hi]⟩, by rw [n1]; exact z3, by rw [n1]; exact z4, z5, ?_, fun q1 q3 => ?_⟩
    · rw [z6, eT]
      by_cases d : (lxS B L k).2 = tkP B L k
      · rw [decide_eq_true d]
        by_cases d2 : soN (B (tkP B L k)) = 3
        · rw [if_neg (fun q => q.1 d2), if_neg (fun q => q.1 d2)]
        · rw [if_pos ⟨d2, rfl⟩, if_pos ⟨d2, d⟩]
      · rw [decide_eq_false d, if_neg (fun q => by cases q.2), if_neg (fun q => d q.2)]
    · have cg : ¬ (soN (B (tkP B L k)) ≠ 3 ∧ (lxS B L k).2 = tkP B L k) := fun q => by rw [if_pos q] at eT; omega
      rw [if_neg cg] at eT
      rw [z7 (fun q => cg ⟨q.1, of_decide_eq_true q.2⟩) (by omega), eT]
      rfl
