/-! what is open; what may be reckoned -/
def openB (g : Nat → Int32) (n p : Nat) : Bool := !decide (g (186 + 14 * p + 5) = m1I) && !decide (g 0 - g (186 + 14 * p + 5) < dueF g p n 4)
theorem op_f {g : Nat → Int32} {n p : Nat} (h : g (186 + 14 * p + 5) = m1I) : openB g n p = false := by unfold openB; rw [decide_eq_true h]; rfl
theorem op_2 {g : Nat → Int32} {n p d : Nat} (h : g (186 + 14 * p + 5) = nI d) (hd : d < 5000) : openB g n p = !decide (g 0 - nI d < dueF g p n 4) := by unfold openB; rw [h, decide_eq_false (p := nI d = m1I) (by rw [eqM (by omega)]; exact id)]; rfl
theorem c_openPapers {σ : Mm} {s D n nP : Nat} {g : Nat → Int32} (bs : BS s) (hV : VG D g) (hS : StR σ s g) (e5 : g 5 = nI n) (l5 : n ≤ 16) (e4 : g 4 = nI nP) (l4 : nP ≤ 24) : f_St_openPapers σ s = some (setF (openB g n) nP) := by
  have rv : ∀ r, r < n → RV g r := fun r hr => hV.2.2.2.2.1.2 r (by rw [e5, ixN (by omega)]; exact hr)
  have hU := hS.2.2.2.2.1
  have g4 : ix (g 4) = nP := by rw [e4, ixN (by omega)]
  have o4 := hS.2.2.2.1.1
  rw [e4] at o4
  unfold f_St_openPapers
  refine loopA (fun f k => f_St_openPapers_4 σ f s (setF (openB g n) k) (nI k)) _ nP (fun f => ?_) (fun f k hk => ?_) (NN_lt (by omega))
  · simp -dsimp -implicitDefEqProofs (disch := omega) only [f_St_openPapers_4, ↓l_m1, l_0, l_1, l_2, l_3, l_4, l_5, l_6, l_7, l_8, l_9, l_10, l_11, l_12, l_13, l_14, l_15, l_16, l_17, l_20, l_21, l_22, l_23, l_24, l_28, l_29, l_30, l_31, l_32, l_40, l_41, l_48, l_57, l_60, l_62, l_63, l_84, l_96, l_97, l_99, l_100, l_122, l_132, l_144, l_150, l_186, l_255, l_256, l_288, l_300, l_522, l_634, l_999, l_5242, l_5410, l_5420, l_5520, l_5528, l_9999, l_65535, l_65536, l_100000, l_16777215, l_252645135, l_858993459, l_1431655765, ↓reduceIte, Nat.reduceAdd, Nat.reduceMul, Nat.reduceSub, ixN, inbN, leT, leF, ltT, ltF, eqT, eqF, eqM, eqNone, addN, mulN, subN, m1N, ↓to_bnd, bnd_some, ↓to_nmT, nmT_eq, up2_r, up2_e, pk_us, pk_un, b2_t, b2_f, b2_0, b2_1, zB_1, zB_0, zB_b2, not_true_eq_false, not_false_eq_true, r_Mo, Nat.add_zero, Nat.add_sub_cancel, within_R, within_N, in_R, in_N, inN_yes, inR_yes, inR_pred, orNone_nn, nn_m, nn_N, f_Ct_isDay, f_Ct_isThing, f_Ct_isKind, f_Ct_isRoomSeat, f_Ct_isOffice, f_Ct_isTable, f_Ct_isPaper, f_Ct_isRule, f_Ct_isDecision, f_Mo_isOffice, f_Mo_isTable, f_Mo_isPaper, f_Mo_isRule, f_Mo_isDecision, f_Mo_isDay, f_Mo_isThing, f_Mo_paperOf, f_Mo_set, o4]
  · have pv := hV.2.2.2.1.2 k (by omega)
    have pr := hS.2.2.2.1.2.1 k (by omega)
    have q5 := pr.2.2.2.2.2.1
    have cd := c_dueOf (h := 4) bs e5 l5 rv hU hS.1 (show k < 24 by omega) pv pr (by omega)
    rcases pv.2.2.1 with c | ⟨d, hd, c⟩
    · rw [c, nn_m] at q5
      simp -dsimp -implicitDefEqProofs (disch := omega) only [f_St_openPapers_4, f_St_openPapers_50, f_Pa_isSent, f_Pa_isSent_14, ↓l_m1, l_0, l_1, l_2, l_3, l_4, l_5, l_6, l_7, l_8, l_9, l_10, l_11, l_12, l_13, l_14, l_15, l_16, l_17, l_20, l_21, l_22, l_23, l_24, l_28, l_29, l_30, l_31, l_32, l_40, l_41, l_48, l_57, l_60, l_62, l_63, l_84, l_96, l_97, l_99, l_100, l_122, l_132, l_144, l_150, l_186, l_255, l_256, l_288, l_300, l_522, l_634, l_999, l_5242, l_5410, l_5420, l_5520, l_5528, l_9999, l_65535, l_65536, l_100000, l_16777215, l_252645135, l_858993459, l_1431655765, ↓reduceIte, Nat.reduceAdd, Nat.reduceMul, Nat.reduceSub, ixN, inbN, leT, leF, ltT, ltF, eqT, eqF, eqM, eqNone, addN, mulN, subN, m1N, ↓to_bnd, bnd_some, ↓to_nmT, nmT_eq, up2_r, up2_e, pk_us, pk_un, b2_t, b2_f, b2_0, b2_1, zB_1, zB_0, zB_b2, not_true_eq_false, not_false_eq_true, r_Mo, Nat.add_zero, Nat.add_sub_cancel, within_R, within_N, in_R, in_N, inN_yes, inR_yes, inR_pred, orNone_nn, nn_m, nn_N, f_Ct_isDay, f_Ct_isThing, f_Ct_isKind, f_Ct_isRoomSeat, f_Ct_isOffice, f_Ct_isTable, f_Ct_isPaper, f_Ct_isRule, f_Ct_isDecision, f_Mo_isOffice, f_Mo_isTable, f_Mo_isPaper, f_Mo_isRule, f_Mo_isDecision, f_Mo_isDay, f_Mo_isThing, f_Mo_paperOf, f_Mo_set, o4, r_s2 bs, r_p bs, q5, setF, op_f c, Bool.false_eq_true]
    · rw [c, nn_N (by omega)] at q5
      by_cases c2 : g 0 - nI d < dueF g k n 4
      · simp -dsimp -implicitDefEqProofs (disch := omega) only [f_St_openPapers_4, f_St_openPapers_50, f_Pa_isSent, f_Pa_isSent_14, ↓l_m1, l_0, l_1, l_2, l_3, l_4, l_5, l_6, l_7, l_8, l_9, l_10, l_11, l_12, l_13, l_14, l_15, l_16, l_17, l_20, l_21, l_22, l_23, l_24, l_28, l_29, l_30, l_31, l_32, l_40, l_41, l_48, l_57, l_60, l_62, l_63, l_84, l_96, l_97, l_99, l_100, l_122, l_132, l_144, l_150, l_186, l_255, l_256, l_288, l_300, l_522, l_634, l_999, l_5242, l_5410, l_5420, l_5520, l_5528, l_9999, l_65535, l_65536, l_100000, l_16777215, l_252645135, l_858993459, l_1431655765, ↓reduceIte, Nat.reduceAdd, Nat.reduceMul, Nat.reduceSub, ixN, inbN, leT, leF, ltT, ltF, eqT, eqF, eqM, eqNone, addN, mulN, subN, m1N, ↓to_bnd, bnd_some, ↓to_nmT, nmT_eq, up2_r, up2_e, pk_us, pk_un, b2_t, b2_f, b2_0, b2_1, zB_1, zB_0, zB_b2, not_true_eq_false, not_false_eq_true, r_Mo, Nat.add_zero, Nat.add_sub_cancel, within_R, within_N, in_R, in_N, inN_yes, inR_yes, inR_pred, orNone_nn, nn_m, nn_N, f_Ct_isDay, f_Ct_isThing, f_Ct_isKind, f_Ct_isRoomSeat, f_Ct_isOffice, f_Ct_isTable, f_Ct_isPaper, f_Ct_isRule, f_Ct_isDecision, f_Mo_isOffice, f_Mo_isTable, f_Mo_isPaper, f_Mo_isRule, f_Mo_isDecision, f_Mo_isDay, f_Mo_isThing, f_Mo_paperOf, f_Mo_set, o4, r_s2 bs, r_p bs, q5, cd, hS.1.1, c2, setF, op_2 c, decide_true, Bool.not_true, Bool.false_eq_true]
      · simp -dsimp -implicitDefEqProofs (disch := omega) only [f_St_openPapers_4, f_St_openPapers_50, f_Pa_isSent, f_Pa_isSent_14, ↓l_m1, l_0, l_1, l_2, l_3, l_4, l_5, l_6, l_7, l_8, l_9, l_10, l_11, l_12, l_13, l_14, l_15, l_16, l_17, l_20, l_21, l_22, l_23, l_24, l_28, l_29, l_30, l_31, l_32, l_40, l_41, l_48, l_57, l_60, l_62, l_63, l_84, l_96, l_97, l_99, l_100, l_122, l_132, l_144, l_150, l_186, l_255, l_256, l_288, l_300, l_522, l_634, l_999, l_5242, l_5410, l_5420, l_5520, l_5528, l_9999, l_65535, l_65536, l_100000, l_16777215, l_252645135, l_858993459, l_1431655765, ↓reduceIte, Nat.reduceAdd, Nat.reduceMul, Nat.reduceSub, ixN, inbN, leT, leF, ltT, ltF, eqT, eqF, eqM, eqNone, addN, mulN, subN, m1N, ↓to_bnd, bnd_some, ↓to_nmT, nmT_eq, up2_r, up2_e, pk_us, pk_un, b2_t, b2_f, b2_0, b2_1, zB_1, zB_0, zB_b2, not_true_eq_false, not_false_eq_true, r_Mo, Nat.add_zero, Nat.add_sub_cancel, within_R, within_N, in_R, in_N, inN_yes, inR_yes, inR_pred, orNone_nn, nn_m, nn_N, f_Ct_isDay, f_Ct_isThing, f_Ct_isKind, f_Ct_isRoomSeat, f_Ct_isOffice, f_Ct_isTable, f_Ct_isPaper, f_Ct_isRule, f_Ct_isDecision, f_Mo_isOffice, f_Mo_isTable, f_Mo_isPaper, f_Mo_isRule, f_Mo_isDecision, f_Mo_isDay, f_Mo_isThing, f_Mo_paperOf, f_Mo_set, o4, r_s2 bs, r_p bs, q5, cd, hS.1.1, c2, setF, op_2 c, decide_false, Bool.not_false]
theorem mo_openNow {σ : Mm} {D n nP : Nat} {g : Nat → Int32} (hg : σ 299 = g) (hV : VG D g) (e5 : g 5 = nI n) (l5 : n ≤ 16) (e4 : g 4 = nI nP) (l4 : nP ≤ 24) : ∃ τ, f_Mo_openNow 298 σ = some (setF (openB g n) nP, τ) ∧ ∀ a, a ≠ 310 → a ≠ 311 → τ a = σ a := by
  have rv : ∀ r, r < n → RV g r := fun r hr => hV.2.2.2.2.1.2 r (by rw [e5, ixN (by omega)]; exact hr)
  have g4 : ix (g 4) = nP := by rw [e4, ixN (by omega)]
  have go : ∀ j k τ fuel, k + j = nP → j < fuel → (∀ a, a ≠ 310 → a ≠ 311 → τ a = σ a) → ∃ τ', f_Mo_openNow_4 fuel 298 (setF (openB g n) k) (nI k) τ = some (setF (openB g n) nP, τ') ∧ ∀ a, a ≠ 310 → a ≠ 311 → τ' a = σ a := by
    intro j
    induction j with
    | zero =>
      intro k τ fuel hk hf h1
      obtain ⟨f, rfl⟩ : ∃ f', fuel = f' + 1 := ⟨fuel - 1, by omega⟩
      obtain rfl : k = nP := by omega
      have t9 : τ 299 = g := by rw [h1 299 (by omega) (by omega), hg]
      refine ⟨τ, ?_, h1⟩
      simp -dsimp -implicitDefEqProofs (disch := omega) only [f_Mo_openNow_4, ↓l_m1, l_0, l_1, l_2, l_3, l_4, l_5, l_6, l_7, l_8, l_9, l_10, l_11, l_12, l_13, l_14, l_15, l_16, l_17, l_20, l_21, l_22, l_23, l_24, l_28, l_29, l_30, l_31, l_32, l_40, l_41, l_48, l_57, l_60, l_62, l_63, l_84, l_96, l_97, l_99, l_100, l_122, l_132, l_144, l_150, l_186, l_255, l_256, l_288, l_300, l_522, l_634, l_999, l_5242, l_5410, l_5420, l_5520, l_5528, l_9999, l_65535, l_65536, l_100000, l_16777215, l_252645135, l_858993459, l_1431655765, ↓reduceIte, Nat.reduceAdd, Nat.reduceMul, Nat.reduceSub, ixN, inbN, leT, leF, ltT, ltF, eqT, eqF, eqM, eqNone, addN, mulN, subN, m1N, ↓to_bnd, bnd_some, ↓to_nmT, nmT_eq, up2_r, up2_e, pk_us, pk_un, b2_t, b2_f, b2_0, b2_1, zB_1, zB_0, zB_b2, not_true_eq_false, not_false_eq_true, r_Mo, Nat.add_zero, Nat.add_sub_cancel, within_R, within_N, in_R, in_N, inN_yes, inR_yes, inR_pred, orNone_nn, nn_m, nn_N, f_Ct_isDay, f_Ct_isThing, f_Ct_isKind, f_Ct_isRoomSeat, f_Ct_isOffice, f_Ct_isTable, f_Ct_isPaper, f_Ct_isRule, f_Ct_isDecision, f_Mo_isOffice, f_Mo_isTable, f_Mo_isPaper, f_Mo_isRule, f_Mo_isDecision, f_Mo_isDay, f_Mo_isThing, f_Mo_paperOf, f_Mo_set, t9, e4]
    | succ j ih =>
      intro k τ fuel hk hf h1
      obtain ⟨f, rfl⟩ : ∃ f', fuel = f' + 1 := ⟨fuel - 1, by omega⟩
      have t9 : τ 299 = g := by rw [h1 299 (by omega) (by omega), hg]
      have pv := hV.2.2.2.1.2 k (by omega)
      rcases pv.2.2.1 with c | ⟨d, hd, c⟩
      · obtain ⟨τ', z1, z2⟩ := ih (k + 1) τ f (by omega) (by omega) h1
        refine ⟨τ', ?_, z2⟩
        rw [← z1]
        simp -dsimp -implicitDefEqProofs (disch := omega) only [f_Mo_openNow_4, f_Mo_openNow_49, f_Mo_openNow_50, ↓l_m1, l_0, l_1, l_2, l_3, l_4, l_5, l_6, l_7, l_8, l_9, l_10, l_11, l_12, l_13, l_14, l_15, l_16, l_17, l_20, l_21, l_22, l_23, l_24, l_28, l_29, l_30, l_31, l_32, l_40, l_41, l_48, l_57, l_60, l_62, l_63, l_84, l_96, l_97, l_99, l_100, l_122, l_132, l_144, l_150, l_186, l_255, l_256, l_288, l_300, l_522, l_634, l_999, l_5242, l_5410, l_5420, l_5520, l_5528, l_9999, l_65535, l_65536, l_100000, l_16777215, l_252645135, l_858993459, l_1431655765, ↓reduceIte, Nat.reduceAdd, Nat.reduceMul, Nat.reduceSub, ixN, inbN, leT, leF, ltT, ltF, eqT, eqF, eqM, eqNone, addN, mulN, subN, m1N, ↓to_bnd, bnd_some, ↓to_nmT, nmT_eq, up2_r, up2_e, pk_us, pk_un, b2_t, b2_f, b2_0, b2_1, zB_1, zB_0, zB_b2, not_true_eq_false, not_false_eq_true, r_Mo, Nat.add_zero, Nat.add_sub_cancel, within_R, within_N, in_R, in_N, inN_yes, inR_yes, inR_pred, orNone_nn, nn_m, nn_N, f_Ct_isDay, f_Ct_isThing, f_Ct_isKind, f_Ct_isRoomSeat, f_Ct_isOffice, f_Ct_isTable, f_Ct_isPaper, f_Ct_isRule, f_Ct_isDecision, f_Mo_isOffice, f_Mo_isTable, f_Mo_isPaper, f_Mo_isRule, f_Mo_isDecision, f_Mo_isDay, f_Mo_isThing, f_Mo_paperOf, f_Mo_set, t9, e4, c, m1_lt, setF, op_f c, or0, Bool.false_eq_true]
      · obtain ⟨τ2, w1, w2⟩ := mo_dueOf (σ := τ) (h := 4) t9 e5 l5 rv (show k < 24 by omega) pv (by omega)
        obtain ⟨τ', z1, z2⟩ := ih (k + 1) τ2 f (by omega) (by omega) (fun a p q => by rw [w2 a p q, h1 a p q])
        refine ⟨τ', ?_, z2⟩
        rw [← z1]
        by_cases c2 : g 0 - nI d < dueF g k n 4
        · simp -dsimp -implicitDefEqProofs (disch := omega) only [f_Mo_openNow_4, f_Mo_openNow_49, f_Mo_openNow_50, ↓l_m1, l_0, l_1, l_2, l_3, l_4, l_5, l_6, l_7, l_8, l_9, l_10, l_11, l_12, l_13, l_14, l_15, l_16, l_17, l_20, l_21, l_22, l_23, l_24, l_28, l_29, l_30, l_31, l_32, l_40, l_41, l_48, l_57, l_60, l_62, l_63, l_84, l_96, l_97, l_99, l_100, l_122, l_132, l_144, l_150, l_186, l_255, l_256, l_288, l_300, l_522, l_634, l_999, l_5242, l_5410, l_5420, l_5520, l_5528, l_9999, l_65535, l_65536, l_100000, l_16777215, l_252645135, l_858993459, l_1431655765, ↓reduceIte, Nat.reduceAdd, Nat.reduceMul, Nat.reduceSub, ixN, inbN, leT, leF, ltT, ltF, eqT, eqF, eqM, eqNone, addN, mulN, subN, m1N, ↓to_bnd, bnd_some, ↓to_nmT, nmT_eq, up2_r, up2_e, pk_us, pk_un, b2_t, b2_f, b2_0, b2_1, zB_1, zB_0, zB_b2, not_true_eq_false, not_false_eq_true, r_Mo, Nat.add_zero, Nat.add_sub_cancel, within_R, within_N, in_R, in_N, inN_yes, inR_yes, inR_pred, orNone_nn, nn_m, nn_N, f_Ct_isDay, f_Ct_isThing, f_Ct_isKind, f_Ct_isRoomSeat, f_Ct_isOffice, f_Ct_isTable, f_Ct_isPaper, f_Ct_isRule, f_Ct_isDecision, f_Mo_isOffice, f_Mo_isTable, f_Mo_isPaper, f_Mo_isRule, f_Mo_isDecision, f_Mo_isDay, f_Mo_isThing, f_Mo_paperOf, f_Mo_set, t9, e4, c, w1, c2, setF, op_2 c, or0, decide_true, Bool.not_true, Bool.false_eq_true]
        · simp -dsimp -implicitDefEqProofs (disch := omega) only [f_Mo_openNow_4, f_Mo_openNow_49, f_Mo_openNow_50, ↓l_m1, l_0, l_1, l_2, l_3, l_4, l_5, l_6, l_7, l_8, l_9, l_10, l_11, l_12, l_13, l_14, l_15, l_16, l_17, l_20, l_21, l_22, l_23, l_24, l_28, l_29, l_30, l_31, l_32, l_40, l_41, l_48, l_57, l_60, l_62, l_63, l_84, l_96, l_97, l_99, l_100, l_122, l_132, l_144, l_150, l_186, l_255, l_256, l_288, l_300, l_522, l_634, l_999, l_5242, l_5410, l_5420, l_5520, l_5528, l_9999, l_65535, l_65536, l_100000, l_16777215, l_252645135, l_858993459, l_1431655765, ↓reduceIte, Nat.reduceAdd, Nat.reduceMul, Nat.reduceSub, ixN, inbN, leT, leF, ltT, ltF, eqT, eqF, eqM, eqNone, addN, mulN, subN, m1N, ↓to_bnd, bnd_some, ↓to_nmT, nmT_eq, up2_r, up2_e, pk_us, pk_un, b2_t, b2_f, b2_0, b2_1, zB_1, zB_0, zB_b2, not_true_eq_false, not_false_eq_true, r_Mo, Nat.add_zero, Nat.add_sub_cancel, within_R, within_N, in_R, in_N, inN_yes, inR_yes, inR_pred, orNone_nn, nn_m, nn_N, f_Ct_isDay, f_Ct_isThing, f_Ct_isKind, f_Ct_isRoomSeat, f_Ct_isOffice, f_Ct_isTable, f_Ct_isPaper, f_Ct_isRule, f_Ct_isDecision, f_Mo_isOffice, f_Mo_isTable, f_Mo_isPaper, f_Mo_isRule, f_Mo_isDecision, f_Mo_isDay, f_Mo_isThing, f_Mo_paperOf, f_Mo_set, t9, e4, c, w1, c2, setF, op_2 c, or0, decide_false, Bool.not_false]
  exact go nP 0 σ NN (by omega) (NN_lt (by omega)) (fun _ _ _ => rfl)
theorem p_open : Pr_open Inv := by
  intro σ hI
  obtain ⟨s, g, hs, bs, r0, hg, hV, hS, hR⟩ := Inv_open hI
  obtain ⟨n, e5, l5, rv, hU, o5⟩ := ru_open hV hS
  obtain ⟨nP, e4, l4, g4⟩ := cnt_of hV.2.2.2.1.1
  obtain ⟨τ, z1, z2⟩ := mo_openNow hg hV e5 l5 e4 l4
  refine ⟨setF (openB g n) nP, τ, ?_, ?_, Inv_scr hI z2⟩
  · simp -dsimp -implicitDefEqProofs (disch := omega) only [f_Ct_open, ↓l_m1, l_0, l_1, l_2, l_3, l_4, l_5, l_6, l_7, l_8, l_9, l_10, l_11, l_12, l_13, l_14, l_15, l_16, l_17, l_20, l_21, l_22, l_23, l_24, l_28, l_29, l_30, l_31, l_32, l_40, l_41, l_48, l_57, l_60, l_62, l_63, l_84, l_96, l_97, l_99, l_100, l_122, l_132, l_144, l_150, l_186, l_255, l_256, l_288, l_300, l_522, l_634, l_999, l_5242, l_5410, l_5420, l_5520, l_5528, l_9999, l_65535, l_65536, l_100000, l_16777215, l_252645135, l_858993459, l_1431655765, ↓reduceIte, Nat.reduceAdd, Nat.reduceMul, Nat.reduceSub, ixN, inbN, leT, leF, ltT, ltF, eqT, eqF, eqM, eqNone, addN, mulN, subN, m1N, ↓to_bnd, bnd_some, ↓to_nmT, nmT_eq, up2_r, up2_e, pk_us, pk_un, b2_t, b2_f, b2_0, b2_1, zB_1, zB_0, zB_b2, not_true_eq_false, not_false_eq_true, r_Mo, Nat.add_zero, Nat.add_sub_cancel, within_R, within_N, in_R, in_N, inN_yes, inR_yes, inR_pred, orNone_nn, nn_m, nn_N, f_Ct_isDay, f_Ct_isThing, f_Ct_isKind, f_Ct_isRoomSeat, f_Ct_isOffice, f_Ct_isTable, f_Ct_isPaper, f_Ct_isRule, f_Ct_isDecision, f_Mo_isOffice, f_Mo_isTable, f_Mo_isPaper, f_Mo_isRule, f_Mo_isDecision, f_Mo_isDay, f_Mo_isThing, f_Mo_paperOf, f_Mo_set, r0, c_openPapers bs hV hS e5 l5 e4 l4]
  · simp -dsimp -implicitDefEqProofs (disch := omega) only [f_Mo_open, ↓l_m1, l_0, l_1, l_2, l_3, l_4, l_5, l_6, l_7, l_8, l_9, l_10, l_11, l_12, l_13, l_14, l_15, l_16, l_17, l_20, l_21, l_22, l_23, l_24, l_28, l_29, l_30, l_31, l_32, l_40, l_41, l_48, l_57, l_60, l_62, l_63, l_84, l_96, l_97, l_99, l_100, l_122, l_132, l_144, l_150, l_186, l_255, l_256, l_288, l_300, l_522, l_634, l_999, l_5242, l_5410, l_5420, l_5520, l_5528, l_9999, l_65535, l_65536, l_100000, l_16777215, l_252645135, l_858993459, l_1431655765, ↓reduceIte, Nat.reduceAdd, Nat.reduceMul, Nat.reduceSub, ixN, inbN, leT, leF, ltT, ltF, eqT, eqF, eqM, eqNone, addN, mulN, subN, m1N, ↓to_bnd, bnd_some, ↓to_nmT, nmT_eq, up2_r, up2_e, pk_us, pk_un, b2_t, b2_f, b2_0, b2_1, zB_1, zB_0, zB_b2, not_true_eq_false, not_false_eq_true, r_Mo, Nat.add_zero, Nat.add_sub_cancel, within_R, within_N, in_R, in_N, inN_yes, inR_yes, inR_pred, orNone_nn, nn_m, nn_N, f_Ct_isDay, f_Ct_isThing, f_Ct_isKind, f_Ct_isRoomSeat, f_Ct_isOffice, f_Ct_isTable, f_Ct_isPaper, f_Ct_isRule, f_Ct_isDecision, f_Mo_isOffice, f_Mo_isTable, f_Mo_isPaper, f_Mo_isRule, f_Mo_isDecision, f_Mo_isDay, f_Mo_isThing, f_Mo_paperOf, f_Mo_set, z1]
/-! reckoning -/
def unI (g : Nat → Int32) (all y : Int32) (i : Nat) : Int32 := (g (5520 + i) &&& all) &&& (y ^^^ m1I)
def rkB (g : Nat → Int32) (all y : Int32) (i : Nat) : Bool := decide (popN (fun j => btI (unI g all y i) j) 31 = 1)
def rkI (g : Nat → Int32) (all x : Int32) : Nat → Int32
  | 0 => x
  | i + 1 => if rkB g all (rkI g all x i) i = true then rkI g all x i ||| unI g all (rkI g all x i) i else rkI g all x i
def chB (g : Nat → Int32) (all x : Int32) : Nat → Bool
  | 0 => false
  | i + 1 => chB g all x i || rkB g all (rkI g all x i) i
def psI (g : Nat → Int32) (all : Int32) (nG : Nat) : Nat → Int32 → Int32
  | 0, x => x
  | j + 1, x => psI g all nG j (rkI g all x nG)
theorem psI_s (g : Nat → Int32) (all : Int32) (nG : Nat) : ∀ j x, psI g all nG (j + 1) x = rkI g all (psI g all nG j x) nG
  | 0, _ => rfl
  | j + 1, x => by rw [psI, psI_s g all nG j]; rfl
def SubN (x : Int32) (nP : Nat) : Prop := ∀ j, nP ≤ j → j < 32 → btI x j = false
theorem un_sub {g : Nat → Int32} {all y : Int32} {i nP : Nat} (ha : SubN all nP) : SubN (unI g all y i) nP := fun j h1 h2 => by unfold unI; rw [b_and, b_and, ha j h1 h2, Bool.and_false, Bool.false_and]
theorem rk_sub {g : Nat → Int32} {all x : Int32} {nP : Nat} (ha : SubN all nP) (hx : SubN x nP) : ∀ i, SubN (rkI g all x i) nP := by
  intro i
  induction i with
  | zero => exact hx
  | succ i ih =>
    rw [rkI]
    split
    · intro j h1 h2; rw [b_or, ih j h1 h2, un_sub ha j h1 h2]; rfl
    · exact ih
theorem popN_or {f h : Nat → Bool} : ∀ n, (∀ i, i < n → (f i && h i) = false) → popN (fun i => f i || h i) n = popN f n + popN h n
  | 0, _ => rfl
  | n + 1, q => by
    have e := q n (by omega)
    rw [popN, popN, popN, popN_or n (fun i hi => q i (by omega))]
    cases a : f n <;> cases b : h n <;> rw [a, b] at e
    · simp
    · simp; omega
    · simp; omega
    · cases e
def pc31 (x : Int32) : Nat := popN (fun j => btI x j) 31
theorem pc_le {x : Int32} {nP : Nat} (h : SubN x nP) (hP : nP ≤ 24) : pc31 x ≤ nP := by
  have z := popN_lt (f := fun i => btI x i) (n := nP) (fun i h1 h2 => h i h1 h2) (31 - nP) (by omega)
  rw [show nP + (31 - nP) = 31 by omega] at z
  unfold pc31
  rw [z]
  exact popN_le _ _
theorem rk_step {g : Nat → Int32} {all y : Int32} {i : Nat} : pc31 (y ||| unI g all y i) = pc31 y + pc31 (unI g all y i) := by
  unfold pc31
  rw [← popN_or 31 (fun j hj => by
    unfold unI
    rw [b_and, b_not _ (by omega)]
    cases btI y j
    · rfl
    · rw [Bool.not_true, Bool.and_false, Bool.and_false])]
  exact popN_congr 31 (fun j hj => b_or y _ j)
theorem rk_mono (g : Nat → Int32) (all x : Int32) : ∀ i, pc31 x + (if chB g all x i = true then 1 else 0) ≤ pc31 (rkI g all x i) ∧ (chB g all x i = false → rkI g all x i = x) := by
  intro i
  induction i with
  | zero => exact ⟨Nat.le_refl _, fun _ => rfl⟩
  | succ i ih =>
    rw [rkI, chB]
    cases c : rkB g all (rkI g all x i) i
    · rw [if_neg (c := false = true) (by decide), Bool.or_false]; exact ih
    · rw [if_pos rfl, Bool.or_true, if_pos rfl, rk_step]
      have e : pc31 (unI g all (rkI g all x i) i) = 1 := of_decide_eq_true c
      have ih1 := ih.1
      refine ⟨?_, fun z => by cases z⟩
      split at ih1 <;> omega
theorem rk_fix {g : Nat → Int32} {all x : Int32} {nG : Nat} (h : rkI g all x nG = x) : ∀ j, psI g all nG j x = x
  | 0 => rfl
  | j + 1 => by rw [psI, h, rk_fix h j]
theorem pop32_sub {x : Int32} {nP : Nat} (h : SubN x nP) (hP : nP ≤ 24) : popN (fun j => btI x j) 32 = popN (fun j => btI x j) 31 := pop31 (h 31 (by omega) (by omega))
theorem c_reck_in {σ : Mm} {s nG nP : Nat} {g : Nat → Int32} {op all x k : Int32} (bs : BS s) (e8 : g 8 = nI nG) (l8 : nG ≤ 8) (hG : GrR (σ (s + 26)) (σ s) g) (ha : SubN all nP) (hP : nP ≤ 24) (K : Nat → Int32 → Int32 → Int32 → Int32 → Option Int32) : f_St_reckonedFrom_24 σ K NN s op all x k (nI 0) = K s op all (rkI g all x nG) (k + nI 1) := by
  have o8 := hG.1
  rw [e8] at o8
  refine loopA (fun f i => f_St_reckonedFrom_24 σ K f s op all (rkI g all x i) k (nI i)) _ nG (fun f => ?_) (fun f i hi => ?_) (NN_lt (by omega))
  · simp -dsimp -implicitDefEqProofs (disch := omega) only [f_St_reckonedFrom_24, ↓l_m1, l_0, l_1, l_2, l_3, l_4, l_5, l_6, l_7, l_8, l_9, l_10, l_11, l_12, l_13, l_14, l_15, l_16, l_17, l_20, l_21, l_22, l_23, l_24, l_28, l_29, l_30, l_31, l_32, l_40, l_41, l_48, l_57, l_60, l_62, l_63, l_84, l_96, l_97, l_99, l_100, l_122, l_132, l_144, l_150, l_186, l_255, l_256, l_288, l_300, l_522, l_634, l_999, l_5242, l_5410, l_5420, l_5520, l_5528, l_9999, l_65535, l_65536, l_100000, l_16777215, l_252645135, l_858993459, l_1431655765, ↓reduceIte, Nat.reduceAdd, Nat.reduceMul, Nat.reduceSub, ixN, inbN, leT, leF, ltT, ltF, eqT, eqF, eqM, eqNone, addN, mulN, subN, m1N, ↓to_bnd, bnd_some, ↓to_nmT, nmT_eq, up2_r, up2_e, pk_us, pk_un, b2_t, b2_f, b2_0, b2_1, zB_1, zB_0, zB_b2, not_true_eq_false, not_false_eq_true, r_Mo, Nat.add_zero, Nat.add_sub_cancel, within_R, within_N, in_R, in_N, inN_yes, inR_yes, inR_pred, orNone_nn, nn_m, nn_N, f_Ct_isDay, f_Ct_isThing, f_Ct_isKind, f_Ct_isRoomSeat, f_Ct_isOffice, f_Ct_isTable, f_Ct_isPaper, f_Ct_isRule, f_Ct_isDecision, f_Mo_isOffice, f_Mo_isTable, f_Mo_isPaper, f_Mo_isRule, f_Mo_isDecision, f_Mo_isDay, f_Mo_isThing, f_Mo_paperOf, f_Mo_set, o8]
  · have q := hG.2 i (by rw [e8, ixN (by omega)]; exact hi)
    have b := bitCount_eq σ (unI g all (rkI g all x i) i)
    have le := popN_le (fun j => btI (unI g all (rkI g all x i) i) j) 31
    rw [pop32_sub (un_sub ha) hP] at b
    by_cases c : popN (fun j => btI (unI g all (rkI g all x i) i) j) 31 = 1
    · have e : rkB g all (rkI g all x i) i = true := decide_eq_true c
      rw [c] at b
      unfold unI at b
      simp -dsimp -implicitDefEqProofs (disch := omega) only [f_St_reckonedFrom_24, f_St_reckonedFrom_62, ↓l_m1, l_0, l_1, l_2, l_3, l_4, l_5, l_6, l_7, l_8, l_9, l_10, l_11, l_12, l_13, l_14, l_15, l_16, l_17, l_20, l_21, l_22, l_23, l_24, l_28, l_29, l_30, l_31, l_32, l_40, l_41, l_48, l_57, l_60, l_62, l_63, l_84, l_96, l_97, l_99, l_100, l_122, l_132, l_144, l_150, l_186, l_255, l_256, l_288, l_300, l_522, l_634, l_999, l_5242, l_5410, l_5420, l_5520, l_5528, l_9999, l_65535, l_65536, l_100000, l_16777215, l_252645135, l_858993459, l_1431655765, ↓reduceIte, Nat.reduceAdd, Nat.reduceMul, Nat.reduceSub, ixN, inbN, leT, leF, ltT, ltF, eqT, eqF, eqM, eqNone, addN, mulN, subN, m1N, ↓to_bnd, bnd_some, ↓to_nmT, nmT_eq, up2_r, up2_e, pk_us, pk_un, b2_t, b2_f, b2_0, b2_1, zB_1, zB_0, zB_b2, not_true_eq_false, not_false_eq_true, r_Mo, Nat.add_zero, Nat.add_sub_cancel, within_R, within_N, in_R, in_N, inN_yes, inR_yes, inR_pred, orNone_nn, nn_m, nn_N, f_Ct_isDay, f_Ct_isThing, f_Ct_isKind, f_Ct_isRoomSeat, f_Ct_isOffice, f_Ct_isTable, f_Ct_isPaper, f_Ct_isRule, f_Ct_isDecision, f_Mo_isOffice, f_Mo_isTable, f_Mo_isPaper, f_Mo_isRule, f_Mo_isDecision, f_Mo_isDay, f_Mo_isThing, f_Mo_paperOf, f_Mo_set, o8, r_s6 bs, q, b, rkI, e]
      rfl
    · have e : rkB g all (rkI g all x i) i = false := decide_eq_false c
      obtain ⟨m, hm, em⟩ : ∃ m, m ≤ 31 ∧ popN (fun j => btI (unI g all (rkI g all x i) i) j) 31 = m := ⟨_, le, rfl⟩
      rw [em] at b c
      unfold unI at b
      simp -dsimp -implicitDefEqProofs (disch := omega) only [f_St_reckonedFrom_24, f_St_reckonedFrom_62, ↓l_m1, l_0, l_1, l_2, l_3, l_4, l_5, l_6, l_7, l_8, l_9, l_10, l_11, l_12, l_13, l_14, l_15, l_16, l_17, l_20, l_21, l_22, l_23, l_24, l_28, l_29, l_30, l_31, l_32, l_40, l_41, l_48, l_57, l_60, l_62, l_63, l_84, l_96, l_97, l_99, l_100, l_122, l_132, l_144, l_150, l_186, l_255, l_256, l_288, l_300, l_522, l_634, l_999, l_5242, l_5410, l_5420, l_5520, l_5528, l_9999, l_65535, l_65536, l_100000, l_16777215, l_252645135, l_858993459, l_1431655765, ↓reduceIte, Nat.reduceAdd, Nat.reduceMul, Nat.reduceSub, ixN, inbN, leT, leF, ltT, ltF, eqT, eqF, eqM, eqNone, addN, mulN, subN, m1N, ↓to_bnd, bnd_some, ↓to_nmT, nmT_eq, up2_r, up2_e, pk_us, pk_un, b2_t, b2_f, b2_0, b2_1, zB_1, zB_0, zB_b2, not_true_eq_false, not_false_eq_true, r_Mo, Nat.add_zero, Nat.add_sub_cancel, within_R, within_N, in_R, in_N, inN_yes, inR_yes, inR_pred, orNone_nn, nn_m, nn_N, f_Ct_isDay, f_Ct_isThing, f_Ct_isKind, f_Ct_isRoomSeat, f_Ct_isOffice, f_Ct_isTable, f_Ct_isPaper, f_Ct_isRule, f_Ct_isDecision, f_Mo_isOffice, f_Mo_isTable, f_Mo_isPaper, f_Mo_isRule, f_Mo_isDecision, f_Mo_isDay, f_Mo_isThing, f_Mo_paperOf, f_Mo_set, o8, r_s6 bs, q, b, rkI, e, Bool.false_eq_true]
theorem all_eq {nP : Nat} (h : nP ≤ 24) : (nI 1 <<< (nI nP &&& nI 31)) - nI 1 = nI (2 ^ nP - 1) ∧ SubN (nI (2 ^ nP - 1)) nP := by
  obtain ⟨p1, p2⟩ := pw_lt nP h
  refine ⟨by rw [shl_p h, subN (by omega)], fun j h1 h2 => ?_⟩
  rw [b_nI _ h2, Nat.testBit_two_pow_sub_one, decide_eq_false (by omega)]
theorem mo_reck_in {σ : Mm} {nG nP : Nat} {op all x : Int32} (e8 : σ 299 8 = nI nG) (l8 : nG ≤ 8) (K : Nat → Int32 → Int32 → Int32 → Int32 → Mm → Option (Int32 × Mm)) : f_Mo_reckoned_32 K NN 298 op all x (nI 0) (nI 0) σ = K 298 op all (rkI (σ 299) all x nG) (b2 (chB (σ 299) all x nG)) σ := by
  refine loopA (fun f i => f_Mo_reckoned_32 K f 298 op all (rkI (σ 299) all x i) (b2 (chB (σ 299) all x i)) (nI i) σ) _ nG (fun f => ?_) (fun f i hi => ?_) (NN_lt (by omega))
  · simp -dsimp -implicitDefEqProofs (disch := omega) only [f_Mo_reckoned_32, ↓l_m1, l_0, l_1, l_2, l_3, l_4, l_5, l_6, l_7, l_8, l_9, l_10, l_11, l_12, l_13, l_14, l_15, l_16, l_17, l_20, l_21, l_22, l_23, l_24, l_28, l_29, l_30, l_31, l_32, l_40, l_41, l_48, l_57, l_60, l_62, l_63, l_84, l_96, l_97, l_99, l_100, l_122, l_132, l_144, l_150, l_186, l_255, l_256, l_288, l_300, l_522, l_634, l_999, l_5242, l_5410, l_5420, l_5520, l_5528, l_9999, l_65535, l_65536, l_100000, l_16777215, l_252645135, l_858993459, l_1431655765, ↓reduceIte, Nat.reduceAdd, Nat.reduceMul, Nat.reduceSub, ixN, inbN, leT, leF, ltT, ltF, eqT, eqF, eqM, eqNone, addN, mulN, subN, m1N, ↓to_bnd, bnd_some, ↓to_nmT, nmT_eq, up2_r, up2_e, pk_us, pk_un, b2_t, b2_f, b2_0, b2_1, zB_1, zB_0, zB_b2, not_true_eq_false, not_false_eq_true, r_Mo, Nat.add_zero, Nat.add_sub_cancel, within_R, within_N, in_R, in_N, inN_yes, inR_yes, inR_pred, orNone_nn, nn_m, nn_N, f_Ct_isDay, f_Ct_isThing, f_Ct_isKind, f_Ct_isRoomSeat, f_Ct_isOffice, f_Ct_isTable, f_Ct_isPaper, f_Ct_isRule, f_Ct_isDecision, f_Mo_isOffice, f_Mo_isTable, f_Mo_isPaper, f_Mo_isRule, f_Mo_isDecision, f_Mo_isDay, f_Mo_isThing, f_Mo_paperOf, f_Mo_set, e8]
  · have b := mo_bits σ (unI (σ 299) all (rkI (σ 299) all x i) i)
    have le := popN_le (fun j => btI (unI (σ 299) all (rkI (σ 299) all x i) i) j) 31
    by_cases c : popN (fun j => btI (unI (σ 299) all (rkI (σ 299) all x i) i) j) 31 = 1
    · have e : rkB (σ 299) all (rkI (σ 299) all x i) i = true := decide_eq_true c
      rw [c] at b
      unfold unI at b
      simp -dsimp -implicitDefEqProofs (disch := omega) only [f_Mo_reckoned_32, f_Mo_reckoned_80, ↓l_m1, l_0, l_1, l_2, l_3, l_4, l_5, l_6, l_7, l_8, l_9, l_10, l_11, l_12, l_13, l_14, l_15, l_16, l_17, l_20, l_21, l_22, l_23, l_24, l_28, l_29, l_30, l_31, l_32, l_40, l_41, l_48, l_57, l_60, l_62, l_63, l_84, l_96, l_97, l_99, l_100, l_122, l_132, l_144, l_150, l_186, l_255, l_256, l_288, l_300, l_522, l_634, l_999, l_5242, l_5410, l_5420, l_5520, l_5528, l_9999, l_65535, l_65536, l_100000, l_16777215, l_252645135, l_858993459, l_1431655765, ↓reduceIte, Nat.reduceAdd, Nat.reduceMul, Nat.reduceSub, ixN, inbN, leT, leF, ltT, ltF, eqT, eqF, eqM, eqNone, addN, mulN, subN, m1N, ↓to_bnd, bnd_some, ↓to_nmT, nmT_eq, up2_r, up2_e, pk_us, pk_un, b2_t, b2_f, b2_0, b2_1, zB_1, zB_0, zB_b2, not_true_eq_false, not_false_eq_true, r_Mo, Nat.add_zero, Nat.add_sub_cancel, within_R, within_N, in_R, in_N, inN_yes, inR_yes, inR_pred, orNone_nn, nn_m, nn_N, f_Ct_isDay, f_Ct_isThing, f_Ct_isKind, f_Ct_isRoomSeat, f_Ct_isOffice, f_Ct_isTable, f_Ct_isPaper, f_Ct_isRule, f_Ct_isDecision, f_Mo_isOffice, f_Mo_isTable, f_Mo_isPaper, f_Mo_isRule, f_Mo_isDecision, f_Mo_isDay, f_Mo_isThing, f_Mo_paperOf, f_Mo_set, e8, b, rkI, chB, e, Bool.or_true]
      rfl
    · have e : rkB (σ 299) all (rkI (σ 299) all x i) i = false := decide_eq_false c
      obtain ⟨m, hm, em⟩ : ∃ m, m ≤ 31 ∧ popN (fun j => btI (unI (σ 299) all (rkI (σ 299) all x i) i) j) 31 = m := ⟨_, le, rfl⟩
      rw [em] at b c
      unfold unI at b
      simp -dsimp -implicitDefEqProofs (disch := omega) only [f_Mo_reckoned_32, f_Mo_reckoned_80, ↓l_m1, l_0, l_1, l_2, l_3, l_4, l_5, l_6, l_7, l_8, l_9, l_10, l_11, l_12, l_13, l_14, l_15, l_16, l_17, l_20, l_21, l_22, l_23, l_24, l_28, l_29, l_30, l_31, l_32, l_40, l_41, l_48, l_57, l_60, l_62, l_63, l_84, l_96, l_97, l_99, l_100, l_122, l_132, l_144, l_150, l_186, l_255, l_256, l_288, l_300, l_522, l_634, l_999, l_5242, l_5410, l_5420, l_5520, l_5528, l_9999, l_65535, l_65536, l_100000, l_16777215, l_252645135, l_858993459, l_1431655765, ↓reduceIte, Nat.reduceAdd, Nat.reduceMul, Nat.reduceSub, ixN, inbN, leT, leF, ltT, ltF, eqT, eqF, eqM, eqNone, addN, mulN, subN, m1N, ↓to_bnd, bnd_some, ↓to_nmT, nmT_eq, up2_r, up2_e, pk_us, pk_un, b2_t, b2_f, b2_0, b2_1, zB_1, zB_0, zB_b2, not_true_eq_false, not_false_eq_true, r_Mo, Nat.add_zero, Nat.add_sub_cancel, within_R, within_N, in_R, in_N, inN_yes, inR_yes, inR_pred, orNone_nn, nn_m, nn_N, f_Ct_isDay, f_Ct_isThing, f_Ct_isKind, f_Ct_isRoomSeat, f_Ct_isOffice, f_Ct_isTable, f_Ct_isPaper, f_Ct_isRule, f_Ct_isDecision, f_Mo_isOffice, f_Mo_isTable, f_Mo_isPaper, f_Mo_isRule, f_Mo_isDecision, f_Mo_isDay, f_Mo_isThing, f_Mo_paperOf, f_Mo_set, e8, b, rkI, chB, e, Bool.or_false, Bool.false_eq_true]
theorem mo_reck_go {σ : Mm} {nG nP : Nat} {op all : Int32} (e8 : σ 299 8 = nI nG) (l8 : nG ≤ 8) (ha : SubN all nP) (hP : nP ≤ 24) : ∀ m x fuel, SubN x nP → 24 ≤ pc31 x + m → m + 1 < fuel → f_Mo_reckoned_21 fuel 298 op all x (nI 1) σ = some (psI (σ 299) all nG m x &&& (op ^^^ m1I), σ) := by
  intro m
  induction m with
  | zero =>
    intro x fuel hx hm hf
    obtain ⟨f, rfl⟩ : ∃ f', fuel = f' + 2 := ⟨fuel - 2, by omega⟩
    have q := mo_reck_in (op := op) (x := x) (all := all) (nP := nP) e8 l8 (f_Mo_reckoned_21 (f + 1))
    have mo := rk_mono (σ 299) all x nG
    have le := pc_le (rk_sub ha hx (g := σ 299) nG) hP
    have cf : chB (σ 299) all x nG = false := by
      cases c : chB (σ 299) all x nG
      · rfl
      · rw [c, if_pos rfl] at mo; omega
    rw [cf, mo.2 cf] at q
    have e : f_Mo_reckoned_21 (f + 2) 298 op all x (nI 1) σ = f_Mo_reckoned_32 (f_Mo_reckoned_21 (f + 1)) NN 298 op all x (nI 0) (nI 0) σ := by
      rw [f_Mo_reckoned_21, l_0, if_neg (by decide)]
    rw [e, q, b2_f, f_Mo_reckoned_21, l_0, if_pos rfl]
    rfl
  | succ m ih =>
    intro x fuel hx hm hf
    obtain ⟨f, rfl⟩ : ∃ f', fuel = f' + 2 := ⟨fuel - 2, by omega⟩
    have q := mo_reck_in (op := op) (x := x) (all := all) (nP := nP) e8 l8 (f_Mo_reckoned_21 (f + 1))
    have mo := rk_mono (σ 299) all x nG
    cases c : chB (σ 299) all x nG
    · rw [c, mo.2 c] at q
      rw [rk_fix (mo.2 c)]
      have e : f_Mo_reckoned_21 (f + 2) 298 op all x (nI 1) σ = f_Mo_reckoned_32 (f_Mo_reckoned_21 (f + 1)) NN 298 op all x (nI 0) (nI 0) σ := by
        rw [f_Mo_reckoned_21, l_0, if_neg (by decide)]
      rw [e, q, b2_f, f_Mo_reckoned_21, l_0, if_pos rfl]
      rfl
    · rw [c] at q mo
      rw [if_pos rfl] at mo
      have z := ih (rkI (σ 299) all x nG) (f + 1) (rk_sub ha hx nG) (by omega) (by omega)
      rw [b2_t] at q
      have e : f_Mo_reckoned_21 (f + 2) 298 op all x (nI 1) σ = f_Mo_reckoned_32 (f_Mo_reckoned_21 (f + 1)) NN 298 op all x (nI 0) (nI 0) σ := by
        rw [f_Mo_reckoned_21, l_0, if_neg (by decide)]
      rw [e, q, z]; rfl
theorem p_reckoned : Pr_reckoned Inv := by
  intro σ hI
  obtain ⟨s, g, hs, bs, r0, hg, hV, hS, hR⟩ := Inv_open hI
  obtain ⟨n, e5, l5, rv, hU, o5⟩ := ru_open hV hS
  obtain ⟨nP, e4, l4, g4⟩ := cnt_of hV.2.2.2.1.1
  obtain ⟨nG, e8, l8, g8⟩ := cnt_of hV.2.2.2.2.2.2.2.1
  have o4 := hS.2.2.2.1.1
  rw [e4] at o4
  have hG := hS.2.2.2.2.2.2.2.1
  obtain ⟨τ, z1, z2⟩ := mo_openNow hg hV e5 l5 e4 l4
  have t9 : τ 299 = g := by rw [z2 299 (by omega) (by omega), hg]
  obtain ⟨ae, as⟩ := all_eq l4
  have cop := c_openPapers bs hV hS e5 l5 e4 l4
  obtain ⟨op, hop⟩ : ∃ op, setF (openB g n) nP = op := ⟨_, rfl⟩
  have osub : SubN op nP := fun j h1 h2 => by rw [← hop, b_set _ nP (by omega) j h2, decide_eq_false (by omega), Bool.false_and]
  rw [hop] at z1 cop
  refine ⟨psI g (nI (2 ^ nP - 1)) nG 24 op &&& (op ^^^ m1I), τ, ?_, ?_, Inv_scr hI z2⟩
  · have key : f_St_reckonedFrom_14 σ NN s op (nI (2 ^ nP - 1)) op (nI 0) = some (psI g (nI (2 ^ nP - 1)) nG 24 op &&& (op ^^^ m1I)) := by
      refine loopA (fun f k => f_St_reckonedFrom_14 σ f s op (nI (2 ^ nP - 1)) (psI g (nI (2 ^ nP - 1)) nG k op) (nI k)) _ 24 (fun f => ?_) (fun f k hk => ?_) (NN_lt (by omega))
      · simp -dsimp -implicitDefEqProofs (disch := omega) only [f_St_reckonedFrom_14, ↓l_m1, l_0, l_1, l_2, l_3, l_4, l_5, l_6, l_7, l_8, l_9, l_10, l_11, l_12, l_13, l_14, l_15, l_16, l_17, l_20, l_21, l_22, l_23, l_24, l_28, l_29, l_30, l_31, l_32, l_40, l_41, l_48, l_57, l_60, l_62, l_63, l_84, l_96, l_97, l_99, l_100, l_122, l_132, l_144, l_150, l_186, l_255, l_256, l_288, l_300, l_522, l_634, l_999, l_5242, l_5410, l_5420, l_5520, l_5528, l_9999, l_65535, l_65536, l_100000, l_16777215, l_252645135, l_858993459, l_1431655765, ↓reduceIte, Nat.reduceAdd, Nat.reduceMul, Nat.reduceSub, ixN, inbN, leT, leF, ltT, ltF, eqT, eqF, eqM, eqNone, addN, mulN, subN, m1N, ↓to_bnd, bnd_some, ↓to_nmT, nmT_eq, up2_r, up2_e, pk_us, pk_un, b2_t, b2_f, b2_0, b2_1, zB_1, zB_0, zB_b2, not_true_eq_false, not_false_eq_true, r_Mo, Nat.add_zero, Nat.add_sub_cancel, within_R, within_N, in_R, in_N, inN_yes, inR_yes, inR_pred, orNone_nn, nn_m, nn_N, f_Ct_isDay, f_Ct_isThing, f_Ct_isKind, f_Ct_isRoomSeat, f_Ct_isOffice, f_Ct_isTable, f_Ct_isPaper, f_Ct_isRule, f_Ct_isDecision, f_Mo_isOffice, f_Mo_isTable, f_Mo_isPaper, f_Mo_isRule, f_Mo_isDecision, f_Mo_isDay, f_Mo_isThing, f_Mo_paperOf, f_Mo_set]
      · have q := c_reck_in (op := op) (x := psI g (nI (2 ^ nP - 1)) nG k op) (k := nI k) bs e8 l8 hG as l4 (f_St_reckonedFrom_14 σ f)
        simp -dsimp -implicitDefEqProofs (disch := omega) only [f_St_reckonedFrom_14, ↓l_m1, l_0, l_1, l_2, l_3, l_4, l_5, l_6, l_7, l_8, l_9, l_10, l_11, l_12, l_13, l_14, l_15, l_16, l_17, l_20, l_21, l_22, l_23, l_24, l_28, l_29, l_30, l_31, l_32, l_40, l_41, l_48, l_57, l_60, l_62, l_63, l_84, l_96, l_97, l_99, l_100, l_122, l_132, l_144, l_150, l_186, l_255, l_256, l_288, l_300, l_522, l_634, l_999, l_5242, l_5410, l_5420, l_5520, l_5528, l_9999, l_65535, l_65536, l_100000, l_16777215, l_252645135, l_858993459, l_1431655765, ↓reduceIte, Nat.reduceAdd, Nat.reduceMul, Nat.reduceSub, ixN, inbN, leT, leF, ltT, ltF, eqT, eqF, eqM, eqNone, addN, mulN, subN, m1N, ↓to_bnd, bnd_some, ↓to_nmT, nmT_eq, up2_r, up2_e, pk_us, pk_un, b2_t, b2_f, b2_0, b2_1, zB_1, zB_0, zB_b2, not_true_eq_false, not_false_eq_true, r_Mo, Nat.add_zero, Nat.add_sub_cancel, within_R, within_N, in_R, in_N, inN_yes, inR_yes, inR_pred, orNone_nn, nn_m, nn_N, f_Ct_isDay, f_Ct_isThing, f_Ct_isKind, f_Ct_isRoomSeat, f_Ct_isOffice, f_Ct_isTable, f_Ct_isPaper, f_Ct_isRule, f_Ct_isDecision, f_Mo_isOffice, f_Mo_isTable, f_Mo_isPaper, f_Mo_isRule, f_Mo_isDecision, f_Mo_isDay, f_Mo_isThing, f_Mo_paperOf, f_Mo_set, q, psI_s]
    simp -dsimp -implicitDefEqProofs (disch := omega) only [f_Ct_reckoned, f_St_reckonedFrom, ↓l_m1, l_0, l_1, l_2, l_3, l_4, l_5, l_6, l_7, l_8, l_9, l_10, l_11, l_12, l_13, l_14, l_15, l_16, l_17, l_20, l_21, l_22, l_23, l_24, l_28, l_29, l_30, l_31, l_32, l_40, l_41, l_48, l_57, l_60, l_62, l_63, l_84, l_96, l_97, l_99, l_100, l_122, l_132, l_144, l_150, l_186, l_255, l_256, l_288, l_300, l_522, l_634, l_999, l_5242, l_5410, l_5420, l_5520, l_5528, l_9999, l_65535, l_65536, l_100000, l_16777215, l_252645135, l_858993459, l_1431655765, ↓reduceIte, ↓to_bnd, bnd_some, r0, cop, o4, ae, key]
  · have q := mo_reck_go (σ := τ) (op := op) (all := nI (2 ^ nP - 1)) (by rw [t9]; exact e8) l8 as l4 24 op NN osub (by omega) (NN_lt (by omega))
    rw [t9] at q
    simp -dsimp -implicitDefEqProofs (disch := omega) only [f_Mo_reckoned, ↓l_m1, l_0, l_1, l_2, l_3, l_4, l_5, l_6, l_7, l_8, l_9, l_10, l_11, l_12, l_13, l_14, l_15, l_16, l_17, l_20, l_21, l_22, l_23, l_24, l_28, l_29, l_30, l_31, l_32, l_40, l_41, l_48, l_57, l_60, l_62, l_63, l_84, l_96, l_97, l_99, l_100, l_122, l_132, l_144, l_150, l_186, l_255, l_256, l_288, l_300, l_522, l_634, l_999, l_5242, l_5410, l_5420, l_5520, l_5528, l_9999, l_65535, l_65536, l_100000, l_16777215, l_252645135, l_858993459, l_1431655765, ↓reduceIte, ↓to_bnd, bnd_some, r_Mo, ixN, z1, t9, e4, ae, q]
