/-! what may pass; one more table -/
theorem c_mayPass {σ : Mm} {s t u nT : Nat} {g : Nat → Int32} (bs : BS s) (e3 : g 3 = nI nT) (l3 : nT ≤ 6) (h : TbR (σ (s + 5)) (σ (s + 6)) (σ (s + 7)) (σ (s + 8)) (σ (s + 9)) g) (ht : t < nT) (hu : u < nT) : f_Tb_mayPass σ (s + 5) (nI t) (nI u) = some (b2 (decide (g (150 + 6 * t + u) = nI 1))) := by
  obtain ⟨-, -, -, q4⟩ := h.2 t (by rw [e3, ixN (by omega)]; exact ht)
  have q := q4 u (by omega)
  rw [e3, ixN (by omega), decide_eq_true hu, Bool.true_and] at q
  cases c : decide (g (150 + 6 * t + u) = nI 1)
  · rw [c] at q
    simp -dsimp -implicitDefEqProofs (disch := omega) only [f_Tb_mayPass_19, f_Tb_mayPass, ↓l_m1, l_0, l_1, l_2, l_3, l_4, l_5, l_6, l_7, l_8, l_9, l_10, l_11, l_12, l_13, l_14, l_15, l_16, l_17, l_20, l_21, l_22, l_23, l_24, l_28, l_29, l_30, l_31, l_32, l_40, l_41, l_48, l_57, l_60, l_62, l_63, l_84, l_96, l_97, l_99, l_100, l_122, l_132, l_144, l_150, l_186, l_255, l_256, l_288, l_300, l_522, l_634, l_999, l_5242, l_5410, l_5420, l_5520, l_5528, l_9999, l_65535, l_65536, l_100000, l_16777215, l_252645135, l_858993459, l_1431655765, ↓reduceIte, Nat.reduceAdd, Nat.reduceMul, Nat.reduceSub, ixN, inbN, leT, leF, ltT, ltF, eqT, eqF, eqM, eqNone, addN, mulN, subN, m1N, ↓to_bnd, bnd_some, ↓to_nmT, nmT_eq, up2_r, up2_e, pk_us, pk_un, b2_t, b2_f, b2_0, b2_1, zB_1, zB_0, zB_b2, not_true_eq_false, not_false_eq_true, r_Mo, Nat.add_zero, Nat.add_sub_cancel, within_R, within_N, in_R, in_N, inN_yes, inR_yes, inR_pred, orNone_nn, nn_m, nn_N, f_Ct_isDay, f_Ct_isThing, f_Ct_isKind, f_Ct_isRoomSeat, f_Ct_isOffice, f_Ct_isTable, f_Ct_isPaper, f_Ct_isRule, f_Ct_isDecision, f_Mo_isOffice, f_Mo_isTable, f_Mo_isPaper, f_Mo_isRule, f_Mo_isDecision, f_Mo_isDay, f_Mo_isThing, r_t3 bs, bit_at, q, Bool.false_eq_true]
  · rw [c] at q
    simp -dsimp -implicitDefEqProofs (disch := omega) only [f_Tb_mayPass_19, f_Tb_mayPass, ↓l_m1, l_0, l_1, l_2, l_3, l_4, l_5, l_6, l_7, l_8, l_9, l_10, l_11, l_12, l_13, l_14, l_15, l_16, l_17, l_20, l_21, l_22, l_23, l_24, l_28, l_29, l_30, l_31, l_32, l_40, l_41, l_48, l_57, l_60, l_62, l_63, l_84, l_96, l_97, l_99, l_100, l_122, l_132, l_144, l_150, l_186, l_255, l_256, l_288, l_300, l_522, l_634, l_999, l_5242, l_5410, l_5420, l_5520, l_5528, l_9999, l_65535, l_65536, l_100000, l_16777215, l_252645135, l_858993459, l_1431655765, ↓reduceIte, Nat.reduceAdd, Nat.reduceMul, Nat.reduceSub, ixN, inbN, leT, leF, ltT, ltF, eqT, eqF, eqM, eqNone, addN, mulN, subN, m1N, ↓to_bnd, bnd_some, ↓to_nmT, nmT_eq, up2_r, up2_e, pk_us, pk_un, b2_t, b2_f, b2_0, b2_1, zB_1, zB_0, zB_b2, not_true_eq_false, not_false_eq_true, r_Mo, Nat.add_zero, Nat.add_sub_cancel, within_R, within_N, in_R, in_N, inN_yes, inR_yes, inR_pred, orNone_nn, nn_m, nn_N, f_Ct_isDay, f_Ct_isThing, f_Ct_isKind, f_Ct_isRoomSeat, f_Ct_isOffice, f_Ct_isTable, f_Ct_isPaper, f_Ct_isRule, f_Ct_isDecision, f_Mo_isOffice, f_Mo_isTable, f_Mo_isPaper, f_Mo_isRule, f_Mo_isDecision, f_Mo_isDay, f_Mo_isThing, r_t3 bs, bit_at, q, Bool.false_eq_true]
theorem pass_inv {σ : Mm} {s nT t u on : Nat} {g : Nat → Int32} {w : Int32} (hs : s = 1) (hg : σ 299 = g) (hV : VG 999 g) (hS : StR σ s g) (hR : ReR σ) (e3 : g 3 = nI nT) (l3 : nT ≤ 6) (ht : t < nT) (hu : u < nT) (hon : on ≤ 1) (hw : ∀ j, j < 32 → btI w j = if j = u then decide (on = 1) else btI (σ (s + 9) t) j) : Inv (up2 (up2 σ (s + 9) t w) 299 (150 + 6 * t + u) (nI on)) := by
  have hT := hS.2.2.1
  have hg2 : up2 (up2 σ (s + 9) t w) 299 (150 + 6 * t + u) (nI on) 299 = upd g (150 + 6 * t + u) (nI on) := by
    simp -dsimp -implicitDefEqProofs (disch := omega) only [up2_e, up2_r, hg]
  refine Inv_mk hs ?_ ?_ ?_
  · rw [hg2]
    refine VG_Tb hV (by rw [pk_un (by omega)]; exact Nat.le_refl _) (fun j q => pk_un (by omega)) ⟨cntG_c hV.2.2.1.1 (pk_un (by omega)), fun i hi => ?_⟩
    rw [pk_un (by omega), e3, ixN (by omega)] at hi
    have tv := hV.2.2.1.2 i (by rw [e3, ixN (by omega)]; exact hi)
    unfold TV at tv ⊢
    refine ⟨?_, ?_, fun j hj => ?_⟩
    · rw [pk_un (by omega)]; exact tv.1
    · rw [pk_un (by omega)]; exact tv.2.1
    · by_cases c : i = t ∧ j = u
      · rw [c.1, c.2, pk_us]
        rcases (by omega : on = 0 ∨ on = 1) with c | c
        · rw [c]; exact Or.inl rfl
        · rw [c]; exact Or.inr rfl
      · rw [pk_un (by omega)]; exact tv.2.2 j hj
  · rw [hg2]
    refine StR_Tb hS hV (fun a h1 h2 h3 => by simp -dsimp -implicitDefEqProofs (disch := omega) only [up2_r]) (fun j q => pk_un (by omega)) ⟨?_, fun i hi => ?_⟩
    · simp -dsimp -implicitDefEqProofs (disch := omega) only [up2_e, up2_r, pk_us, pk_un, hT.1]
    · rw [pk_un (by omega), e3, ixN (by omega)] at hi
      obtain ⟨w1, w2, w3, w4⟩ := hT.2 i (by rw [e3, ixN (by omega)]; exact hi)
      refine ⟨?_, ?_, ?_, fun j hj => ?_⟩
      · simp -dsimp -implicitDefEqProofs (disch := omega) only [up2_e, up2_r, pk_un, w1]
      · simp -dsimp -implicitDefEqProofs (disch := omega) only [up2_e, up2_r, pk_un, w2]
      · simp -dsimp -implicitDefEqProofs (disch := omega) only [up2_e, up2_r, pk_un, w3]
      · have w5 := w4 j hj
        rw [e3, ixN (by omega)] at w5
        simp -dsimp -implicitDefEqProofs (disch := omega) only [up2_r, up2_e, pk_un (show 3 ≠ 150 + 6 * t + u by omega), e3, ixN]
        by_cases c : i = t
        · subst c
          rw [pk_us, hw j hj]
          by_cases c2 : j = u
          · subst c2
            rw [if_pos rfl, decide_eq_true hu, Bool.true_and, pk_us, decide_eq_decide, eqN (by omega) (by omega)]
          · rw [if_neg c2, w5, pk_un (by omega)]
        · rw [pk_un c, w5]
          by_cases c2 : j < nT
          · rw [pk_un (by omega)]
          · rw [decide_eq_false c2, Bool.false_and, Bool.false_and]
  · exact ReR_c' hR (fun a q => by simp -dsimp -implicitDefEqProofs (disch := omega) only [up2_r])
theorem p_pass : Pr_pass Inv := by
  intro σ a1 a2 a3 hI
  obtain ⟨s, g, hs, bs, r0, hg, hV, hS, hR⟩ := Inv_open hI
  obtain ⟨nT, e3, l3, -⟩ := cnt_of hV.2.2.1.1
  have hT := hS.2.2.1
  have o3 := hT.1
  rw [e3] at o3
  rcases inN_cases a1 nT (by omega) with ⟨t, ht, rfl⟩ | c1
  · rcases inN_cases a2 nT (by omega) with ⟨u, hu, rfl⟩ | c2
    · by_cases ctu : t = u
      · subst ctu
        refine ⟨-1000000001, σ, σ, ?_, ?_, hI⟩
        · simp -dsimp -implicitDefEqProofs (disch := omega) only [f_Ct_pass_30, f_Ct_pass_52, f_Ct_pass, ↓l_m1, l_0, l_1, l_2, l_3, l_4, l_5, l_6, l_7, l_8, l_9, l_10, l_11, l_12, l_13, l_14, l_15, l_16, l_17, l_20, l_21, l_22, l_23, l_24, l_28, l_29, l_30, l_31, l_32, l_40, l_41, l_48, l_57, l_60, l_62, l_63, l_84, l_96, l_97, l_99, l_100, l_122, l_132, l_144, l_150, l_186, l_255, l_256, l_288, l_300, l_522, l_634, l_999, l_5242, l_5410, l_5420, l_5520, l_5528, l_9999, l_65535, l_65536, l_100000, l_16777215, l_252645135, l_858993459, l_1431655765, ↓reduceIte, Nat.reduceAdd, Nat.reduceMul, Nat.reduceSub, ixN, inbN, leT, leF, ltT, ltF, eqT, eqF, eqM, eqNone, addN, mulN, subN, m1N, ↓to_bnd, bnd_some, ↓to_nmT, nmT_eq, up2_r, up2_e, pk_us, pk_un, b2_t, b2_f, b2_0, b2_1, zB_1, zB_0, zB_b2, not_true_eq_false, not_false_eq_true, r_Mo, Nat.add_zero, Nat.add_sub_cancel, within_R, within_N, in_R, in_N, inN_yes, inR_yes, inR_pred, orNone_nn, nn_m, nn_N, f_Ct_isDay, f_Ct_isThing, f_Ct_isKind, f_Ct_isRoomSeat, f_Ct_isOffice, f_Ct_isTable, f_Ct_isPaper, f_Ct_isRule, f_Ct_isDecision, f_Mo_isOffice, f_Mo_isTable, f_Mo_isPaper, f_Mo_isRule, f_Mo_isDecision, f_Mo_isDay, f_Mo_isThing, r0, r_s1 bs, o3]
        · simp -dsimp -implicitDefEqProofs (disch := omega) only [f_Mo_pass_30, f_Mo_pass, ↓l_m1, l_0, l_1, l_2, l_3, l_4, l_5, l_6, l_7, l_8, l_9, l_10, l_11, l_12, l_13, l_14, l_15, l_16, l_17, l_20, l_21, l_22, l_23, l_24, l_28, l_29, l_30, l_31, l_32, l_40, l_41, l_48, l_57, l_60, l_62, l_63, l_84, l_96, l_97, l_99, l_100, l_122, l_132, l_144, l_150, l_186, l_255, l_256, l_288, l_300, l_522, l_634, l_999, l_5242, l_5410, l_5420, l_5520, l_5528, l_9999, l_65535, l_65536, l_100000, l_16777215, l_252645135, l_858993459, l_1431655765, ↓reduceIte, Nat.reduceAdd, Nat.reduceMul, Nat.reduceSub, ixN, inbN, leT, leF, ltT, ltF, eqT, eqF, eqM, eqNone, addN, mulN, subN, m1N, ↓to_bnd, bnd_some, ↓to_nmT, nmT_eq, up2_r, up2_e, pk_us, pk_un, b2_t, b2_f, b2_0, b2_1, zB_1, zB_0, zB_b2, not_true_eq_false, not_false_eq_true, r_Mo, Nat.add_zero, Nat.add_sub_cancel, within_R, within_N, in_R, in_N, inN_yes, inR_yes, inR_pred, orNone_nn, nn_m, nn_N, f_Ct_isDay, f_Ct_isThing, f_Ct_isKind, f_Ct_isRoomSeat, f_Ct_isOffice, f_Ct_isTable, f_Ct_isPaper, f_Ct_isRule, f_Ct_isDecision, f_Mo_isOffice, f_Mo_isTable, f_Mo_isPaper, f_Mo_isRule, f_Mo_isDecision, f_Mo_isDay, f_Mo_isThing, hg, e3]
      · rcases inR_cases a3 0 1 (by omega) (by omega) with ⟨on, -, hon, rfl⟩ | c3
        · have q := c_mayPass bs e3 l3 hT ht hu
          have tv := (hV.2.2.1.2 t (by rw [e3, ixN (by omega)]; exact ht)).2.2 u (by omega)
          have hv : b2 (decide (g (150 + 6 * t + u) = nI 1)) = g (150 + 6 * t + u) := by
            rcases tv with c | c
            · rw [c]; rfl
            · rw [c]; rfl
          rcases (by omega : on = 0 ∨ on = 1) with c | c
          · subst c
            refine ⟨g (150 + 6 * t + u), up2 σ (s + 9) t (σ (s + 9) t &&& ((nI 1 <<< (nI u &&& nI 31)) ^^^ m1I)), _, ?_, ?_, pass_inv hs hg hV hS hR e3 l3 ht hu (on := 0) (by omega) (w := σ (s + 9) t &&& ((nI 1 <<< (nI u &&& nI 31)) ^^^ m1I)) (fun j hj => ?_)⟩
            · cases c : decide (g (150 + 6 * t + u) = nI 1)
              · rw [c] at q hv
                simp -dsimp -implicitDefEqProofs (disch := omega) only [f_Ct_pass_30, f_Ct_pass_52, f_Ct_pass, f_Tb_changePass_42, f_Tb_changePass, f_Ct_bit_9, f_Ct_bit, ↓l_m1, l_0, l_1, l_2, l_3, l_4, l_5, l_6, l_7, l_8, l_9, l_10, l_11, l_12, l_13, l_14, l_15, l_16, l_17, l_20, l_21, l_22, l_23, l_24, l_28, l_29, l_30, l_31, l_32, l_40, l_41, l_48, l_57, l_60, l_62, l_63, l_84, l_96, l_97, l_99, l_100, l_122, l_132, l_144, l_150, l_186, l_255, l_256, l_288, l_300, l_522, l_634, l_999, l_5242, l_5410, l_5420, l_5520, l_5528, l_9999, l_65535, l_65536, l_100000, l_16777215, l_252645135, l_858993459, l_1431655765, ↓reduceIte, Nat.reduceAdd, Nat.reduceMul, Nat.reduceSub, ixN, inbN, leT, leF, ltT, ltF, eqT, eqF, eqM, eqNone, addN, mulN, subN, m1N, ↓to_bnd, bnd_some, ↓to_nmT, nmT_eq, up2_r, up2_e, pk_us, pk_un, b2_t, b2_f, b2_0, b2_1, zB_1, zB_0, zB_b2, not_true_eq_false, not_false_eq_true, r_Mo, Nat.add_zero, Nat.add_sub_cancel, within_R, within_N, in_R, in_N, inN_yes, inR_yes, inR_pred, orNone_nn, nn_m, nn_N, f_Ct_isDay, f_Ct_isThing, f_Ct_isKind, f_Ct_isRoomSeat, f_Ct_isOffice, f_Ct_isTable, f_Ct_isPaper, f_Ct_isRule, f_Ct_isDecision, f_Mo_isOffice, f_Mo_isTable, f_Mo_isPaper, f_Mo_isRule, f_Mo_isDecision, f_Mo_isDay, f_Mo_isThing, r0, r_s1 bs, r_t3 bs, o3, q, ← hv]
              · rw [c] at q hv
                simp -dsimp -implicitDefEqProofs (disch := omega) only [f_Ct_pass_30, f_Ct_pass_52, f_Ct_pass, f_Tb_changePass_42, f_Tb_changePass, f_Ct_bit_9, f_Ct_bit, ↓l_m1, l_0, l_1, l_2, l_3, l_4, l_5, l_6, l_7, l_8, l_9, l_10, l_11, l_12, l_13, l_14, l_15, l_16, l_17, l_20, l_21, l_22, l_23, l_24, l_28, l_29, l_30, l_31, l_32, l_40, l_41, l_48, l_57, l_60, l_62, l_63, l_84, l_96, l_97, l_99, l_100, l_122, l_132, l_144, l_150, l_186, l_255, l_256, l_288, l_300, l_522, l_634, l_999, l_5242, l_5410, l_5420, l_5520, l_5528, l_9999, l_65535, l_65536, l_100000, l_16777215, l_252645135, l_858993459, l_1431655765, ↓reduceIte, Nat.reduceAdd, Nat.reduceMul, Nat.reduceSub, ixN, inbN, leT, leF, ltT, ltF, eqT, eqF, eqM, eqNone, addN, mulN, subN, m1N, ↓to_bnd, bnd_some, ↓to_nmT, nmT_eq, up2_r, up2_e, pk_us, pk_un, b2_t, b2_f, b2_0, b2_1, zB_1, zB_0, zB_b2, not_true_eq_false, not_false_eq_true, r_Mo, Nat.add_zero, Nat.add_sub_cancel, within_R, within_N, in_R, in_N, inN_yes, inR_yes, inR_pred, orNone_nn, nn_m, nn_N, f_Ct_isDay, f_Ct_isThing, f_Ct_isKind, f_Ct_isRoomSeat, f_Ct_isOffice, f_Ct_isTable, f_Ct_isPaper, f_Ct_isRule, f_Ct_isDecision, f_Mo_isOffice, f_Mo_isTable, f_Mo_isPaper, f_Mo_isRule, f_Mo_isDecision, f_Mo_isDay, f_Mo_isThing, r0, r_s1 bs, r_t3 bs, o3, q, ← hv]
            · simp -dsimp -implicitDefEqProofs (disch := omega) only [f_Mo_pass_30, f_Mo_pass, ↓l_m1, l_0, l_1, l_2, l_3, l_4, l_5, l_6, l_7, l_8, l_9, l_10, l_11, l_12, l_13, l_14, l_15, l_16, l_17, l_20, l_21, l_22, l_23, l_24, l_28, l_29, l_30, l_31, l_32, l_40, l_41, l_48, l_57, l_60, l_62, l_63, l_84, l_96, l_97, l_99, l_100, l_122, l_132, l_144, l_150, l_186, l_255, l_256, l_288, l_300, l_522, l_634, l_999, l_5242, l_5410, l_5420, l_5520, l_5528, l_9999, l_65535, l_65536, l_100000, l_16777215, l_252645135, l_858993459, l_1431655765, ↓reduceIte, Nat.reduceAdd, Nat.reduceMul, Nat.reduceSub, ixN, inbN, leT, leF, ltT, ltF, eqT, eqF, eqM, eqNone, addN, mulN, subN, m1N, ↓to_bnd, bnd_some, ↓to_nmT, nmT_eq, up2_r, up2_e, pk_us, pk_un, b2_t, b2_f, b2_0, b2_1, zB_1, zB_0, zB_b2, not_true_eq_false, not_false_eq_true, r_Mo, Nat.add_zero, Nat.add_sub_cancel, within_R, within_N, in_R, in_N, inN_yes, inR_yes, inR_pred, orNone_nn, nn_m, nn_N, f_Ct_isDay, f_Ct_isThing, f_Ct_isKind, f_Ct_isRoomSeat, f_Ct_isOffice, f_Ct_isTable, f_Ct_isPaper, f_Ct_isRule, f_Ct_isDecision, f_Mo_isOffice, f_Mo_isTable, f_Mo_isPaper, f_Mo_isRule, f_Mo_isDecision, f_Mo_isDay, f_Mo_isThing, hg, e3]
            · rw [b_and, b_not _ hj, b_bit (by omega) hj]
              by_cases c2 : j = u
              · subst c2; rw [if_pos rfl]; simp
              · rw [if_neg c2, decide_eq_false c2]; simp
          · subst c
            refine ⟨g (150 + 6 * t + u), up2 σ (s + 9) t (σ (s + 9) t ||| (nI 1 <<< (nI u &&& nI 31))), _, ?_, ?_, pass_inv hs hg hV hS hR e3 l3 ht hu (on := 1) (by omega) (w := σ (s + 9) t ||| (nI 1 <<< (nI u &&& nI 31))) (fun j hj => ?_)⟩
            · cases c : decide (g (150 + 6 * t + u) = nI 1)
              · rw [c] at q hv
                simp -dsimp -implicitDefEqProofs (disch := omega) only [f_Ct_pass_30, f_Ct_pass_52, f_Ct_pass, f_Tb_changePass_42, f_Tb_changePass, f_Ct_bit_9, f_Ct_bit, ↓l_m1, l_0, l_1, l_2, l_3, l_4, l_5, l_6, l_7, l_8, l_9, l_10, l_11, l_12, l_13, l_14, l_15, l_16, l_17, l_20, l_21, l_22, l_23, l_24, l_28, l_29, l_30, l_31, l_32, l_40, l_41, l_48, l_57, l_60, l_62, l_63, l_84, l_96, l_97, l_99, l_100, l_122, l_132, l_144, l_150, l_186, l_255, l_256, l_288, l_300, l_522, l_634, l_999, l_5242, l_5410, l_5420, l_5520, l_5528, l_9999, l_65535, l_65536, l_100000, l_16777215, l_252645135, l_858993459, l_1431655765, ↓reduceIte, Nat.reduceAdd, Nat.reduceMul, Nat.reduceSub, ixN, inbN, leT, leF, ltT, ltF, eqT, eqF, eqM, eqNone, addN, mulN, subN, m1N, ↓to_bnd, bnd_some, ↓to_nmT, nmT_eq, up2_r, up2_e, pk_us, pk_un, b2_t, b2_f, b2_0, b2_1, zB_1, zB_0, zB_b2, not_true_eq_false, not_false_eq_true, r_Mo, Nat.add_zero, Nat.add_sub_cancel, within_R, within_N, in_R, in_N, inN_yes, inR_yes, inR_pred, orNone_nn, nn_m, nn_N, f_Ct_isDay, f_Ct_isThing, f_Ct_isKind, f_Ct_isRoomSeat, f_Ct_isOffice, f_Ct_isTable, f_Ct_isPaper, f_Ct_isRule, f_Ct_isDecision, f_Mo_isOffice, f_Mo_isTable, f_Mo_isPaper, f_Mo_isRule, f_Mo_isDecision, f_Mo_isDay, f_Mo_isThing, r0, r_s1 bs, r_t3 bs, o3, q, ← hv]
              · rw [c] at q hv
                simp -dsimp -implicitDefEqProofs (disch := omega) only [f_Ct_pass_30, f_Ct_pass_52, f_Ct_pass, f_Tb_changePass_42, f_Tb_changePass, f_Ct_bit_9, f_Ct_bit, ↓l_m1, l_0, l_1, l_2, l_3, l_4, l_5, l_6, l_7, l_8, l_9, l_10, l_11, l_12, l_13, l_14, l_15, l_16, l_17, l_20, l_21, l_22, l_23, l_24, l_28, l_29, l_30, l_31, l_32, l_40, l_41, l_48, l_57, l_60, l_62, l_63, l_84, l_96, l_97, l_99, l_100, l_122, l_132, l_144, l_150, l_186, l_255, l_256, l_288, l_300, l_522, l_634, l_999, l_5242, l_5410, l_5420, l_5520, l_5528, l_9999, l_65535, l_65536, l_100000, l_16777215, l_252645135, l_858993459, l_1431655765, ↓reduceIte, Nat.reduceAdd, Nat.reduceMul, Nat.reduceSub, ixN, inbN, leT, leF, ltT, ltF, eqT, eqF, eqM, eqNone, addN, mulN, subN, m1N, ↓to_bnd, bnd_some, ↓to_nmT, nmT_eq, up2_r, up2_e, pk_us, pk_un, b2_t, b2_f, b2_0, b2_1, zB_1, zB_0, zB_b2, not_true_eq_false, not_false_eq_true, r_Mo, Nat.add_zero, Nat.add_sub_cancel, within_R, within_N, in_R, in_N, inN_yes, inR_yes, inR_pred, orNone_nn, nn_m, nn_N, f_Ct_isDay, f_Ct_isThing, f_Ct_isKind, f_Ct_isRoomSeat, f_Ct_isOffice, f_Ct_isTable, f_Ct_isPaper, f_Ct_isRule, f_Ct_isDecision, f_Mo_isOffice, f_Mo_isTable, f_Mo_isPaper, f_Mo_isRule, f_Mo_isDecision, f_Mo_isDay, f_Mo_isThing, r0, r_s1 bs, r_t3 bs, o3, q, ← hv]
            · simp -dsimp -implicitDefEqProofs (disch := omega) only [f_Mo_pass_30, f_Mo_pass, ↓l_m1, l_0, l_1, l_2, l_3, l_4, l_5, l_6, l_7, l_8, l_9, l_10, l_11, l_12, l_13, l_14, l_15, l_16, l_17, l_20, l_21, l_22, l_23, l_24, l_28, l_29, l_30, l_31, l_32, l_40, l_41, l_48, l_57, l_60, l_62, l_63, l_84, l_96, l_97, l_99, l_100, l_122, l_132, l_144, l_150, l_186, l_255, l_256, l_288, l_300, l_522, l_634, l_999, l_5242, l_5410, l_5420, l_5520, l_5528, l_9999, l_65535, l_65536, l_100000, l_16777215, l_252645135, l_858993459, l_1431655765, ↓reduceIte, Nat.reduceAdd, Nat.reduceMul, Nat.reduceSub, ixN, inbN, leT, leF, ltT, ltF, eqT, eqF, eqM, eqNone, addN, mulN, subN, m1N, ↓to_bnd, bnd_some, ↓to_nmT, nmT_eq, up2_r, up2_e, pk_us, pk_un, b2_t, b2_f, b2_0, b2_1, zB_1, zB_0, zB_b2, not_true_eq_false, not_false_eq_true, r_Mo, Nat.add_zero, Nat.add_sub_cancel, within_R, within_N, in_R, in_N, inN_yes, inR_yes, inR_pred, orNone_nn, nn_m, nn_N, f_Ct_isDay, f_Ct_isThing, f_Ct_isKind, f_Ct_isRoomSeat, f_Ct_isOffice, f_Ct_isTable, f_Ct_isPaper, f_Ct_isRule, f_Ct_isDecision, f_Mo_isOffice, f_Mo_isTable, f_Mo_isPaper, f_Mo_isRule, f_Mo_isDecision, f_Mo_isDay, f_Mo_isThing, hg, e3]
            · rw [b_or, b_bit (by omega) hj]
              by_cases c2 : j = u
              · subst c2; rw [if_pos rfl]; simp
              · rw [if_neg c2, decide_eq_false c2]; simp
        · refine ⟨-1000000001, σ, σ, ?_, ?_, hI⟩
          · simp -dsimp -implicitDefEqProofs (disch := omega) only [f_Ct_pass_30, f_Ct_pass_52, f_Ct_pass, ↓l_m1, l_0, l_1, l_2, l_3, l_4, l_5, l_6, l_7, l_8, l_9, l_10, l_11, l_12, l_13, l_14, l_15, l_16, l_17, l_20, l_21, l_22, l_23, l_24, l_28, l_29, l_30, l_31, l_32, l_40, l_41, l_48, l_57, l_60, l_62, l_63, l_84, l_96, l_97, l_99, l_100, l_122, l_132, l_144, l_150, l_186, l_255, l_256, l_288, l_300, l_522, l_634, l_999, l_5242, l_5410, l_5420, l_5520, l_5528, l_9999, l_65535, l_65536, l_100000, l_16777215, l_252645135, l_858993459, l_1431655765, ↓reduceIte, Nat.reduceAdd, Nat.reduceMul, Nat.reduceSub, ixN, inbN, leT, leF, ltT, ltF, eqT, eqF, eqM, eqNone, addN, mulN, subN, m1N, ↓to_bnd, bnd_some, ↓to_nmT, nmT_eq, up2_r, up2_e, pk_us, pk_un, b2_t, b2_f, b2_0, b2_1, zB_1, zB_0, zB_b2, not_true_eq_false, not_false_eq_true, r_Mo, Nat.add_zero, Nat.add_sub_cancel, within_R, within_N, in_R, in_N, inN_yes, inR_yes, inR_pred, orNone_nn, nn_m, nn_N, f_Ct_isDay, f_Ct_isThing, f_Ct_isKind, f_Ct_isRoomSeat, f_Ct_isOffice, f_Ct_isTable, f_Ct_isPaper, f_Ct_isRule, f_Ct_isDecision, f_Mo_isOffice, f_Mo_isTable, f_Mo_isPaper, f_Mo_isRule, f_Mo_isDecision, f_Mo_isDay, f_Mo_isThing, r0, r_s1 bs, o3, c3]
          · simp -dsimp -implicitDefEqProofs (disch := omega) only [f_Mo_pass_30, f_Mo_pass, ↓l_m1, l_0, l_1, l_2, l_3, l_4, l_5, l_6, l_7, l_8, l_9, l_10, l_11, l_12, l_13, l_14, l_15, l_16, l_17, l_20, l_21, l_22, l_23, l_24, l_28, l_29, l_30, l_31, l_32, l_40, l_41, l_48, l_57, l_60, l_62, l_63, l_84, l_96, l_97, l_99, l_100, l_122, l_132, l_144, l_150, l_186, l_255, l_256, l_288, l_300, l_522, l_634, l_999, l_5242, l_5410, l_5420, l_5520, l_5528, l_9999, l_65535, l_65536, l_100000, l_16777215, l_252645135, l_858993459, l_1431655765, ↓reduceIte, Nat.reduceAdd, Nat.reduceMul, Nat.reduceSub, ixN, inbN, leT, leF, ltT, ltF, eqT, eqF, eqM, eqNone, addN, mulN, subN, m1N, ↓to_bnd, bnd_some, ↓to_nmT, nmT_eq, up2_r, up2_e, pk_us, pk_un, b2_t, b2_f, b2_0, b2_1, zB_1, zB_0, zB_b2, not_true_eq_false, not_false_eq_true, r_Mo, Nat.add_zero, Nat.add_sub_cancel, within_R, within_N, in_R, in_N, inN_yes, inR_yes, inR_pred, orNone_nn, nn_m, nn_N, f_Ct_isDay, f_Ct_isThing, f_Ct_isKind, f_Ct_isRoomSeat, f_Ct_isOffice, f_Ct_isTable, f_Ct_isPaper, f_Ct_isRule, f_Ct_isDecision, f_Mo_isOffice, f_Mo_isTable, f_Mo_isPaper, f_Mo_isRule, f_Mo_isDecision, f_Mo_isDay, f_Mo_isThing, hg, e3, c3]
    · refine ⟨-1000000001, σ, σ, ?_, ?_, hI⟩
      · simp -dsimp -implicitDefEqProofs (disch := omega) only [f_Ct_pass_30, f_Ct_pass_52, f_Ct_pass, ↓l_m1, l_0, l_1, l_2, l_3, l_4, l_5, l_6, l_7, l_8, l_9, l_10, l_11, l_12, l_13, l_14, l_15, l_16, l_17, l_20, l_21, l_22, l_23, l_24, l_28, l_29, l_30, l_31, l_32, l_40, l_41, l_48, l_57, l_60, l_62, l_63, l_84, l_96, l_97, l_99, l_100, l_122, l_132, l_144, l_150, l_186, l_255, l_256, l_288, l_300, l_522, l_634, l_999, l_5242, l_5410, l_5420, l_5520, l_5528, l_9999, l_65535, l_65536, l_100000, l_16777215, l_252645135, l_858993459, l_1431655765, ↓reduceIte, Nat.reduceAdd, Nat.reduceMul, Nat.reduceSub, ixN, inbN, leT, leF, ltT, ltF, eqT, eqF, eqM, eqNone, addN, mulN, subN, m1N, ↓to_bnd, bnd_some, ↓to_nmT, nmT_eq, up2_r, up2_e, pk_us, pk_un, b2_t, b2_f, b2_0, b2_1, zB_1, zB_0, zB_b2, not_true_eq_false, not_false_eq_true, r_Mo, Nat.add_zero, Nat.add_sub_cancel, within_R, within_N, in_R, in_N, inN_yes, inR_yes, inR_pred, orNone_nn, nn_m, nn_N, f_Ct_isDay, f_Ct_isThing, f_Ct_isKind, f_Ct_isRoomSeat, f_Ct_isOffice, f_Ct_isTable, f_Ct_isPaper, f_Ct_isRule, f_Ct_isDecision, f_Mo_isOffice, f_Mo_isTable, f_Mo_isPaper, f_Mo_isRule, f_Mo_isDecision, f_Mo_isDay, f_Mo_isThing, r0, r_s1 bs, o3, c2]
      · simp -dsimp -implicitDefEqProofs (disch := omega) only [f_Mo_pass_30, f_Mo_pass, ↓l_m1, l_0, l_1, l_2, l_3, l_4, l_5, l_6, l_7, l_8, l_9, l_10, l_11, l_12, l_13, l_14, l_15, l_16, l_17, l_20, l_21, l_22, l_23, l_24, l_28, l_29, l_30, l_31, l_32, l_40, l_41, l_48, l_57, l_60, l_62, l_63, l_84, l_96, l_97, l_99, l_100, l_122, l_132, l_144, l_150, l_186, l_255, l_256, l_288, l_300, l_522, l_634, l_999, l_5242, l_5410, l_5420, l_5520, l_5528, l_9999, l_65535, l_65536, l_100000, l_16777215, l_252645135, l_858993459, l_1431655765, ↓reduceIte, Nat.reduceAdd, Nat.reduceMul, Nat.reduceSub, ixN, inbN, leT, leF, ltT, ltF, eqT, eqF, eqM, eqNone, addN, mulN, subN, m1N, ↓to_bnd, bnd_some, ↓to_nmT, nmT_eq, up2_r, up2_e, pk_us, pk_un, b2_t, b2_f, b2_0, b2_1, zB_1, zB_0, zB_b2, not_true_eq_false, not_false_eq_true, r_Mo, Nat.add_zero, Nat.add_sub_cancel, within_R, within_N, in_R, in_N, inN_yes, inR_yes, inR_pred, orNone_nn, nn_m, nn_N, f_Ct_isDay, f_Ct_isThing, f_Ct_isKind, f_Ct_isRoomSeat, f_Ct_isOffice, f_Ct_isTable, f_Ct_isPaper, f_Ct_isRule, f_Ct_isDecision, f_Mo_isOffice, f_Mo_isTable, f_Mo_isPaper, f_Mo_isRule, f_Mo_isDecision, f_Mo_isDay, f_Mo_isThing, hg, e3, c2]
  · refine ⟨-1000000001, σ, σ, ?_, ?_, hI⟩
    · simp -dsimp -implicitDefEqProofs (disch := omega) only [f_Ct_pass_30, f_Ct_pass_52, f_Ct_pass, ↓l_m1, l_0, l_1, l_2, l_3, l_4, l_5, l_6, l_7, l_8, l_9, l_10, l_11, l_12, l_13, l_14, l_15, l_16, l_17, l_20, l_21, l_22, l_23, l_24, l_28, l_29, l_30, l_31, l_32, l_40, l_41, l_48, l_57, l_60, l_62, l_63, l_84, l_96, l_97, l_99, l_100, l_122, l_132, l_144, l_150, l_186, l_255, l_256, l_288, l_300, l_522, l_634, l_999, l_5242, l_5410, l_5420, l_5520, l_5528, l_9999, l_65535, l_65536, l_100000, l_16777215, l_252645135, l_858993459, l_1431655765, ↓reduceIte, Nat.reduceAdd, Nat.reduceMul, Nat.reduceSub, ixN, inbN, leT, leF, ltT, ltF, eqT, eqF, eqM, eqNone, addN, mulN, subN, m1N, ↓to_bnd, bnd_some, ↓to_nmT, nmT_eq, up2_r, up2_e, pk_us, pk_un, b2_t, b2_f, b2_0, b2_1, zB_1, zB_0, zB_b2, not_true_eq_false, not_false_eq_true, r_Mo, Nat.add_zero, Nat.add_sub_cancel, within_R, within_N, in_R, in_N, inN_yes, inR_yes, inR_pred, orNone_nn, nn_m, nn_N, f_Ct_isDay, f_Ct_isThing, f_Ct_isKind, f_Ct_isRoomSeat, f_Ct_isOffice, f_Ct_isTable, f_Ct_isPaper, f_Ct_isRule, f_Ct_isDecision, f_Mo_isOffice, f_Mo_isTable, f_Mo_isPaper, f_Mo_isRule, f_Mo_isDecision, f_Mo_isDay, f_Mo_isThing, r0, r_s1 bs, o3, c1]
    · simp -dsimp -implicitDefEqProofs (disch := omega) only [f_Mo_pass_30, f_Mo_pass, ↓l_m1, l_0, l_1, l_2, l_3, l_4, l_5, l_6, l_7, l_8, l_9, l_10, l_11, l_12, l_13, l_14, l_15, l_16, l_17, l_20, l_21, l_22, l_23, l_24, l_28, l_29, l_30, l_31, l_32, l_40, l_41, l_48, l_57, l_60, l_62, l_63, l_84, l_96, l_97, l_99, l_100, l_122, l_132, l_144, l_150, l_186, l_255, l_256, l_288, l_300, l_522, l_634, l_999, l_5242, l_5410, l_5420, l_5520, l_5528, l_9999, l_65535, l_65536, l_100000, l_16777215, l_252645135, l_858993459, l_1431655765, ↓reduceIte, Nat.reduceAdd, Nat.reduceMul, Nat.reduceSub, ixN, inbN, leT, leF, ltT, ltF, eqT, eqF, eqM, eqNone, addN, mulN, subN, m1N, ↓to_bnd, bnd_some, ↓to_nmT, nmT_eq, up2_r, up2_e, pk_us, pk_un, b2_t, b2_f, b2_0, b2_1, zB_1, zB_0, zB_b2, not_true_eq_false, not_false_eq_true, r_Mo, Nat.add_zero, Nat.add_sub_cancel, within_R, within_N, in_R, in_N, inN_yes, inR_yes, inR_pred, orNone_nn, nn_m, nn_N, f_Ct_isDay, f_Ct_isThing, f_Ct_isKind, f_Ct_isRoomSeat, f_Ct_isOffice, f_Ct_isTable, f_Ct_isPaper, f_Ct_isRule, f_Ct_isDecision, f_Mo_isOffice, f_Mo_isTable, f_Mo_isPaper, f_Mo_isRule, f_Mo_isDecision, f_Mo_isDay, f_Mo_isThing, hg, e3, c1]
/-- the model's loop that clears what may pass -/
def zmP (σ : Mm) (nT : Nat) : Nat → Mm
  | 0 => σ
  | k + 1 => up2 (up2 (zmP σ nT k) 299 (150 + 6 * nT + k) (nI 0)) 299 (150 + 6 * k + nT) (nI 0)
theorem zmP_r (σ : Mm) (nT : Nat) {a : Nat} (h : a ≠ 299) : ∀ k, zmP σ nT k a = σ a
  | 0 => rfl
  | k + 1 => by rw [zmP, up2_r _ _ _ h, up2_r _ _ _ h, zmP_r σ nT h k]
theorem zmP_o (σ : Mm) (nT : Nat) (hT : nT < 6) {j : Nat} (h : j < 150 ∨ 186 ≤ j) : ∀ k, k ≤ 6 → zmP σ nT k 299 j = σ 299 j
  | 0, _ => rfl
  | k + 1, hk => by rw [zmP, up2_e, pk_un (by omega), up2_e, pk_un (by omega), zmP_o σ nT hT h k (by omega)]
theorem zmP_i (σ : Mm) (nT : Nat) (hT : nT < 6) {i u : Nat} (hi : i ≠ nT) (hu : u ≠ nT) (hi6 : i < 6) (hu6 : u < 6) : ∀ k, k ≤ 6 → zmP σ nT k 299 (150 + 6 * i + u) = σ 299 (150 + 6 * i + u)
  | 0, _ => rfl
  | k + 1, hk => by rw [zmP, up2_e, pk_un (by omega), up2_e, pk_un (by omega), zmP_i σ nT hT hi hu hi6 hu6 k (by omega)]
theorem zmP_z (σ : Mm) (nT : Nat) (hT : nT < 6) {u : Nat} : ∀ k, k ≤ 6 → u < k → zmP σ nT k 299 (150 + 6 * nT + u) = nI 0 ∧ zmP σ nT k 299 (150 + 6 * u + nT) = nI 0
  | 0, _, h => by omega
  | k + 1, hk, h => by
    rw [zmP, up2_e, up2_e]
    by_cases c : u = k
    · subst c
      refine ⟨?_, pk_us⟩
      rw [upd_at]
      split
      · rfl
      · exact pk_us
    · obtain ⟨h1, h2⟩ := zmP_z σ nT hT k (by omega) (show u < k by omega)
      refine ⟨?_, ?_⟩
      · rw [upd_at]
        split
        · rfl
        · rw [pk_un (by omega)]; exact h1
      · rw [pk_un (by omega), upd_at]
        split
        · rfl
        · exact h2
theorem mo_table_loop {σ : Mm} {nT : Nat} (e : σ 299 3 = nI nT) (hT : nT < 6) : f_Mo_table_93 NN 298 (nI 0) σ = some (nI nT, up2 (zmP σ nT 6) 299 3 (nI (nT + 1))) := by
  refine loopA (fun f k => f_Mo_table_93 f 298 (nI k) (zmP σ nT k)) _ 6 (fun f => ?_) (fun f k hk => ?_) (NN_lt (by omega))
  · have e3 : zmP σ nT 6 299 3 = nI nT := by rw [zmP_o σ nT hT (by omega) 6 (by omega)]; exact e
    simp -dsimp -implicitDefEqProofs (disch := omega) only [f_Mo_table_31, f_Mo_table_93, f_Mo_table, ↓l_m1, l_0, l_1, l_2, l_3, l_4, l_5, l_6, l_7, l_8, l_9, l_10, l_11, l_12, l_13, l_14, l_15, l_16, l_17, l_20, l_21, l_22, l_23, l_24, l_28, l_29, l_30, l_31, l_32, l_40, l_41, l_48, l_57, l_60, l_62, l_63, l_84, l_96, l_97, l_99, l_100, l_122, l_132, l_144, l_150, l_186, l_255, l_256, l_288, l_300, l_522, l_634, l_999, l_5242, l_5410, l_5420, l_5520, l_5528, l_9999, l_65535, l_65536, l_100000, l_16777215, l_252645135, l_858993459, l_1431655765, ↓reduceIte, Nat.reduceAdd, Nat.reduceMul, Nat.reduceSub, ixN, inbN, leT, leF, ltT, ltF, eqT, eqF, eqM, eqNone, addN, mulN, subN, m1N, ↓to_bnd, bnd_some, ↓to_nmT, nmT_eq, up2_r, up2_e, pk_us, pk_un, b2_t, b2_f, b2_0, b2_1, zB_1, zB_0, zB_b2, not_true_eq_false, not_false_eq_true, r_Mo, Nat.add_zero, Nat.add_sub_cancel, within_R, within_N, in_R, in_N, inN_yes, inR_yes, inR_pred, orNone_nn, nn_m, nn_N, f_Ct_isDay, f_Ct_isThing, f_Ct_isKind, f_Ct_isRoomSeat, f_Ct_isOffice, f_Ct_isTable, f_Ct_isPaper, f_Ct_isRule, f_Ct_isDecision, f_Mo_isOffice, f_Mo_isTable, f_Mo_isPaper, f_Mo_isRule, f_Mo_isDecision, f_Mo_isDay, f_Mo_isThing, e3]
  · have e3 : zmP σ nT k 299 3 = nI nT := by rw [zmP_o σ nT hT (by omega) k (by omega)]; exact e
    simp -dsimp -implicitDefEqProofs (disch := omega) only [f_Mo_table_31, f_Mo_table_93, f_Mo_table, ↓l_m1, l_0, l_1, l_2, l_3, l_4, l_5, l_6, l_7, l_8, l_9, l_10, l_11, l_12, l_13, l_14, l_15, l_16, l_17, l_20, l_21, l_22, l_23, l_24, l_28, l_29, l_30, l_31, l_32, l_40, l_41, l_48, l_57, l_60, l_62, l_63, l_84, l_96, l_97, l_99, l_100, l_122, l_132, l_144, l_150, l_186, l_255, l_256, l_288, l_300, l_522, l_634, l_999, l_5242, l_5410, l_5420, l_5520, l_5528, l_9999, l_65535, l_65536, l_100000, l_16777215, l_252645135, l_858993459, l_1431655765, ↓reduceIte, Nat.reduceAdd, Nat.reduceMul, Nat.reduceSub, ixN, inbN, leT, leF, ltT, ltF, eqT, eqF, eqM, eqNone, addN, mulN, subN, m1N, ↓to_bnd, bnd_some, ↓to_nmT, nmT_eq, up2_r, up2_e, pk_us, pk_un, b2_t, b2_f, b2_0, b2_1, zB_1, zB_0, zB_b2, not_true_eq_false, not_false_eq_true, r_Mo, Nat.add_zero, Nat.add_sub_cancel, within_R, within_N, in_R, in_N, inN_yes, inR_yes, inR_pred, orNone_nn, nn_m, nn_N, f_Ct_isDay, f_Ct_isThing, f_Ct_isKind, f_Ct_isRoomSeat, f_Ct_isOffice, f_Ct_isTable, f_Ct_isPaper, f_Ct_isRule, f_Ct_isDecision, f_Mo_isOffice, f_Mo_isTable, f_Mo_isPaper, f_Mo_isRule, f_Mo_isDecision, f_Mo_isDay, f_Mo_isThing, e3, zmP]
