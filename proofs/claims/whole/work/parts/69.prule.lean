theorem p_rule : Pr_rule Inv := by
  intro σ a1 hI
  have hI' := hI
  obtain ⟨hV, hS, hR⟩ := hI
  have hR' := hR
  obtain ⟨hIm, ⟨L, lL, ea, eb, hL⟩, hRg, hSe, hWt, hCo⟩ := hR
  obtain ⟨nO, o2, l2, -⟩ := cnt_of hV.2.1.1
  obtain ⟨nT, o3, l3, -⟩ := cnt_of hV.2.2.1.1
  obtain ⟨nR, o5, l5, x5⟩ := cnt_of hV.2.2.2.2.1.1
  have k2 : σ 2 3 = nI nO := hS.2.1.1.trans o2
  have k3 : σ 6 4 = nI nT := hS.2.2.1.1.trans o3
  have k5 : σ 1 11 = nI nR := hS.2.2.2.2.1.1.trans o5
  obtain ⟨B, hB⟩ : ∃ B : Nat → Nat, B = fun i => ix (σ 305 i) := ⟨_, rfl⟩
  have hb : ∀ j, j < L → σ 305 j = nI (B j) ∧ B j < 256 ∧ σ 257 j = sbI (B j) := fun j hj => by
    obtain ⟨c, hc, e1, e2⟩ := hL j hj
    have eB : B j = c := by rw [hB]; show ix (σ 305 j) = c; rw [e1, ixN (by omega)]
    rw [eB]
    exact ⟨e1, hc, e2⟩
  have hT : TpC B L σ := ⟨lL, ea, fun j hj => ⟨(hb j hj).2.2, (hb j hj).2.1⟩⟩
  obtain ⟨b, kf, h, v1, v2, d1, d2, m1, r1, fr, i5, lk, e7, e59, lP, rC, rM⟩ := both_R hT
  obtain ⟨n1, hn1⟩ : ∃ n1, n1 = up2 m1 256 5 (nI 0) := ⟨_, rfl⟩
  have sh : f_Tp_shorten 256 (nI 0) m1 = some (nI 0, n1) := by rw [hn1]; simp -dsimp -implicitDefEqProofs (disch := omega) only [f_Tp_shorten, ↓l_m1, l_0, l_1, l_2, l_3, l_4, l_5, l_6, l_7, l_8, l_9, l_10, l_11, l_12, l_13, l_14, l_15, l_16, l_17, l_20, l_21, l_22, l_23, l_24, l_28, l_29, l_30, l_31, l_32, l_40, l_41, l_48, l_57, l_60, l_62, l_63, l_84, l_96, l_97, l_99, l_100, l_122, l_132, l_144, l_150, l_186, l_255, l_256, l_288, l_300, l_522, l_634, l_999, l_5242, l_5410, l_5420, l_5520, l_5528, l_9999, l_65535, l_65536, l_100000, l_16777215, l_252645135, l_858993459, l_1431655765, ↓reduceIte, Nat.reduceAdd, Nat.reduceMul, Nat.reduceSub, ixN, inbN, leT, leF, ltT, ltF, eqT, eqF, eqM, eqNone, addN, mulN, subN, m1N, ↓to_bnd, bnd_some, ↓to_nmT, nmT_eq, up2_r, up2_e, pk_us, pk_un, b2_t, b2_f, b2_0, b2_1, zB_1, zB_0, zB_b2, not_true_eq_false, not_false_eq_true, r_Mo, Nat.add_zero, Nat.add_sub_cancel, within_R, within_N, in_R, in_N, inN_yes, inR_yes, inR_pred, orNone_nn, nn_m, nn_N, f_Ct_isDay, f_Ct_isThing, f_Ct_isKind, f_Ct_isRoomSeat, f_Ct_isOffice, f_Ct_isTable, f_Ct_isPaper, f_Ct_isRule, f_Ct_isDecision, f_Mo_isOffice, f_Mo_isTable, f_Mo_isPaper, f_Mo_isRule, f_Mo_isDecision, f_Mo_isDay, f_Mo_isThing, f_Mo_paperOf, f_Mo_set, i5]
  have n1a : ∀ a, a ≠ 256 → n1 a = m1 a := fun a ha => by rw [hn1, up2_r _ _ _ ha]
  have fa : ∀ a, a < 256 ∨ a = 257 ∨ 262 < a → n1 a = σ a := fun a ha => by rw [n1a a (by omega), fr a ha]
  have n5 : n1 256 5 = nI 0 := by rw [hn1, up2_e, pk_us]
  have n7 : n1 256 7 = nI kf := by rw [hn1, up2_e, pk_un (by omega)]; exact e7
  have n59 : n1 259 kf = nI (tkP B L kf) := by rw [n1a 259 (by omega)]; exact e59
  have rM' : ∀ mm : Mm, (∀ a, a = 298 ∨ a = 299 ∨ (305 ≤ a ∧ a < 308) → mm a = σ a) → ∃ mm', f_Mo_takesRule 298 mm = some (b2 b, mm') ∧ (∀ a, a ≠ 298 → a ≠ 308 → a ≠ 309 → mm' a = mm a) ∧ (∀ i, i < 13 ∨ 33 < i → mm' 298 i = mm 298 i) ∧ (b = false → mm' 298 15 = nI (tkP B L kf)) ∧ (b = true → mm' 298 19 = nI h ∧ mm' 298 20 = nI v1 ∧ mm' 298 21 = (if h = 5 then m1I else nI v2) ∧ ResM nO (bhB nO nT nR h v1 v2) d1 d2 mm') := fun mm q => by
    refine rM nO nT nR mm ?_ ?_ ?_ ?_
    · unfold cnt3
      rw [q 299 (by omega)]
      exact ⟨o2, o3, o5, l2, l3, l5⟩
    · rw [q 298 (by omega)]; exact eb
    · rw [q 305 (by omega)]; exact fun j hj => ⟨(hb j hj).1, (hb j hj).2.1⟩
    · rw [q 306 (by omega), q 307 (by omega)]; exact hCo
  have inv0 : ∀ m' : Mm, (∀ a, a ≠ 298 → a ≠ 308 → a ≠ 309 → m' a = n1 a) → (∀ i, i < 10 ∨ 33 < i → m' 298 i = σ 298 i) → m' 298 10 = nI 0 → Inv m' := fun m' w1 w2 w3 =>
    Inv_rest hI' (fun a q => by rw [w1 a (by omega) (by omega) (by omega), fa a (by omega)]) (ReR_t hR' (fun a q => by rw [w1 a (by omega) (by omega) (by omega), fa a (by omega)]) (by rw [w1 256 (by omega) (by omega) (by omega)]; exact n5) w3 (w2 3 (by omega)) (w2 44 (by omega)))
  have q10 : rfT 1 0 = 2 := by decide
  have q11 : rfT 1 1 = 6 := by decide
  have q13 : rfT 1 3 = 12 := by decide
  have n2 : n1 2 3 = nI nO := by rw [fa 2 (by omega)]; exact k2
  have n3 : n1 6 4 = nI nT := by rw [fa 6 (by omega)]; exact k3
  have n4 : n1 1 11 = nI nR := by rw [fa 1 (by omega)]; exact k5
  have e98 : ∀ i, n1 298 i = σ 298 i := fun i => by rw [fa 298 (by omega)]
  rcases inR_cases a1 0 999 (by omega) (by omega) with ⟨t, -, ht, rfl⟩ | c1
  · cases b
    · obtain ⟨mm, x1, x2, x3, x4, -⟩ := rM' n1 (fun a q => fa a (by omega))
      have x4' := x4 rfl
      rw [b2_f] at x1 r1
      refine ⟨-100 - nI (tkP B L kf), n1, up2 mm 298 10 (nI 0), ?_, ?_, inv0 _ (fun a p q r => by rw [up2_r _ _ _ p]; exact x2 a p q r) (fun i hi => by rw [up2_e, pk_un (by omega), x3 i (by omega), e98]) (by rw [up2_e, pk_us])⟩
      · simp -dsimp -implicitDefEqProofs (disch := omega) only [f_Ct_rule, f_Tp_placeOfFault, ↓l_m1, l_0, l_1, l_2, l_3, l_4, l_5, l_6, l_7, l_8, l_9, l_10, l_11, l_12, l_13, l_14, l_15, l_16, l_17, l_20, l_21, l_22, l_23, l_24, l_28, l_29, l_30, l_31, l_32, l_40, l_41, l_48, l_57, l_60, l_62, l_63, l_84, l_96, l_97, l_99, l_100, l_122, l_132, l_144, l_150, l_186, l_255, l_256, l_288, l_300, l_522, l_634, l_999, l_5242, l_5410, l_5420, l_5520, l_5528, l_9999, l_65535, l_65536, l_100000, l_16777215, l_252645135, l_858993459, l_1431655765, ↓reduceIte, Nat.reduceAdd, Nat.reduceMul, Nat.reduceSub, ixN, inbN, leT, leF, ltT, ltF, eqT, eqF, eqM, eqNone, addN, mulN, subN, m1N, ↓to_bnd, bnd_some, ↓to_nmT, nmT_eq, up2_r, up2_e, pk_us, pk_un, b2_t, b2_f, b2_0, b2_1, zB_1, zB_0, zB_b2, not_true_eq_false, not_false_eq_true, r_Mo, Nat.add_zero, Nat.add_sub_cancel, within_R, within_N, in_R, in_N, inN_yes, inR_yes, inR_pred, orNone_nn, nn_m, nn_N, f_Ct_isDay, f_Ct_isThing, f_Ct_isKind, f_Ct_isRoomSeat, f_Ct_isOffice, f_Ct_isTable, f_Ct_isPaper, f_Ct_isRule, f_Ct_isDecision, f_Mo_isOffice, f_Mo_isTable, f_Mo_isPaper, f_Mo_isRule, f_Mo_isDecision, f_Mo_isDay, f_Mo_isThing, f_Mo_paperOf, f_Mo_set, rc_1, rc_2, rc_3, rc_4, rc_5, rc_6, rc_7, rm_1, rm_2, rm_4, rm_5, rm_6, rm_9, rm_11, rm_12, rm_22, rm_30, rm_34, rm_35, rm_36, rm_37, rm_38, rm_39, rm_40, rm_41, rm_42, rm_43, rm_45, rm_46, rt_0, rt_1, rt_2, rt_3, rt_4, rt_s, rw_0, rw_1, rg_a, rg_v, rs_a, rs_p, rs_r, rs_v, r_now, r1, sh, n7, n59]
      · simp -dsimp -implicitDefEqProofs (disch := omega) only [f_Mo_rule, f_Mo_rule_20, f_Mo_rule_21, ↓l_m1, l_0, l_1, l_2, l_3, l_4, l_5, l_6, l_7, l_8, l_9, l_10, l_11, l_12, l_13, l_14, l_15, l_16, l_17, l_20, l_21, l_22, l_23, l_24, l_28, l_29, l_30, l_31, l_32, l_40, l_41, l_48, l_57, l_60, l_62, l_63, l_84, l_96, l_97, l_99, l_100, l_122, l_132, l_144, l_150, l_186, l_255, l_256, l_288, l_300, l_522, l_634, l_999, l_5242, l_5410, l_5420, l_5520, l_5528, l_9999, l_65535, l_65536, l_100000, l_16777215, l_252645135, l_858993459, l_1431655765, ↓reduceIte, Nat.reduceAdd, Nat.reduceMul, Nat.reduceSub, ixN, inbN, leT, leF, ltT, ltF, eqT, eqF, eqM, eqNone, addN, mulN, subN, m1N, ↓to_bnd, bnd_some, ↓to_nmT, nmT_eq, up2_r, up2_e, pk_us, pk_un, b2_t, b2_f, b2_0, b2_1, zB_1, zB_0, zB_b2, not_true_eq_false, not_false_eq_true, r_Mo, Nat.add_zero, Nat.add_sub_cancel, within_R, within_N, in_R, in_N, inN_yes, inR_yes, inR_pred, orNone_nn, nn_m, nn_N, f_Ct_isDay, f_Ct_isThing, f_Ct_isKind, f_Ct_isRoomSeat, f_Ct_isOffice, f_Ct_isTable, f_Ct_isPaper, f_Ct_isRule, f_Ct_isDecision, f_Mo_isOffice, f_Mo_isTable, f_Mo_isPaper, f_Mo_isRule, f_Mo_isDecision, f_Mo_isDay, f_Mo_isThing, f_Mo_paperOf, f_Mo_set, x1, x4']
    · obtain ⟨lh, lv1, lv2, d0, e1, e2, RC⟩ := rC rfl
      obtain ⟨w5, w6, w4, wC, wo1, wo2, wl⟩ := RC
      have vv : ∀ o, o ∈ d2 ++ d1 → vOu o := fun o ho => by
        rcases List.mem_append.mp ho with z | z
        · rcases wo2 with q | q
          · rw [q] at z; exact (List.not_mem_nil z).elim
          · exact okC_v d2 0 1 q o z
        · rcases wo1 with q | q
          · rw [q] at z; exact (List.not_mem_nil z).elim
          · exact okC_v d1 0 1 q o z
      have wr := c_isWrong (m := n1) (nO := nO) (nT := nT) (nR := nR) lh lv1 lv2 (by rw [n1a 261 (by omega)]; exact d0) (by rw [n1a 261 (by omega)]; exact e1) (by rw [n1a 261 (by omega)]; exact e2) (by rw [n1a 261 (by omega)]; exact w6) (by omega) (by rw [n1a 262 (by omega)]; exact wC) vv l2 l3 l5
      rw [bdC_app, ← Bool.or_assoc] at wr
      rw [b2_t] at r1
      cases hbad : ((bhB nO nT nR h v1 v2 || bdC nO d1) || bdC nO d2)
      · rw [hbad, b2_f] at wr
        by_cases cf : nR = 16
        · obtain ⟨mm, x1, x2, x3, -, x4⟩ := rM' n1 (fun a q => fa a (by omega))
          obtain ⟨-, -, -, -, -, -, y28, -, -⟩ := x4 rfl
          rw [hbad, b2_f] at y28
          rw [b2_t] at x1
          have q5 : mm 299 5 = nI 16 := by rw [x2 299 (by omega) (by omega) (by omega), fa 299 (by omega), o5, cf]
          rw [cf] at n4
          rw [cf] at wr
          refine ⟨-1000000003, n1, up2 mm 298 10 (nI 0), ?_, ?_, inv0 _ (fun a p q r => by rw [up2_r _ _ _ p]; exact x2 a p q r) (fun i hi => by rw [up2_e, pk_un (by omega), x3 i (by omega), e98]) (by rw [up2_e, pk_us])⟩
          · simp -dsimp -implicitDefEqProofs (disch := omega) only [f_Ct_rule, ↓l_m1, l_0, l_1, l_2, l_3, l_4, l_5, l_6, l_7, l_8, l_9, l_10, l_11, l_12, l_13, l_14, l_15, l_16, l_17, l_20, l_21, l_22, l_23, l_24, l_28, l_29, l_30, l_31, l_32, l_40, l_41, l_48, l_57, l_60, l_62, l_63, l_84, l_96, l_97, l_99, l_100, l_122, l_132, l_144, l_150, l_186, l_255, l_256, l_288, l_300, l_522, l_634, l_999, l_5242, l_5410, l_5420, l_5520, l_5528, l_9999, l_65535, l_65536, l_100000, l_16777215, l_252645135, l_858993459, l_1431655765, ↓reduceIte, Nat.reduceAdd, Nat.reduceMul, Nat.reduceSub, ixN, inbN, leT, leF, ltT, ltF, eqT, eqF, eqM, eqNone, addN, mulN, subN, m1N, ↓to_bnd, bnd_some, ↓to_nmT, nmT_eq, up2_r, up2_e, pk_us, pk_un, b2_t, b2_f, b2_0, b2_1, zB_1, zB_0, zB_b2, not_true_eq_false, not_false_eq_true, r_Mo, Nat.add_zero, Nat.add_sub_cancel, within_R, within_N, in_R, in_N, inN_yes, inR_yes, inR_pred, orNone_nn, nn_m, nn_N, f_Ct_isDay, f_Ct_isThing, f_Ct_isKind, f_Ct_isRoomSeat, f_Ct_isOffice, f_Ct_isTable, f_Ct_isPaper, f_Ct_isRule, f_Ct_isDecision, f_Mo_isOffice, f_Mo_isTable, f_Mo_isPaper, f_Mo_isRule, f_Mo_isDecision, f_Mo_isDay, f_Mo_isThing, f_Mo_paperOf, f_Mo_set, rc_1, rc_2, rc_3, rc_4, rc_5, rc_6, rc_7, rm_1, rm_2, rm_4, rm_5, rm_6, rm_9, rm_11, rm_12, rm_22, rm_30, rm_34, rm_35, rm_36, rm_37, rm_38, rm_39, rm_40, rm_41, rm_42, rm_43, rm_45, rm_46, rt_0, rt_1, rt_2, rt_3, rt_4, rt_s, rw_0, rw_1, rg_a, rg_v, rs_a, rs_p, rs_r, rs_v, r_now, q10, q11, r1, sh, n2, n3, n4, wr]
          · simp -dsimp -implicitDefEqProofs (disch := omega) only [f_Mo_rule, f_Mo_rule_20, f_Mo_rule_21, ↓l_m1, l_0, l_1, l_2, l_3, l_4, l_5, l_6, l_7, l_8, l_9, l_10, l_11, l_12, l_13, l_14, l_15, l_16, l_17, l_20, l_21, l_22, l_23, l_24, l_28, l_29, l_30, l_31, l_32, l_40, l_41, l_48, l_57, l_60, l_62, l_63, l_84, l_96, l_97, l_99, l_100, l_122, l_132, l_144, l_150, l_186, l_255, l_256, l_288, l_300, l_522, l_634, l_999, l_5242, l_5410, l_5420, l_5520, l_5528, l_9999, l_65535, l_65536, l_100000, l_16777215, l_252645135, l_858993459, l_1431655765, ↓reduceIte, Nat.reduceAdd, Nat.reduceMul, Nat.reduceSub, ixN, inbN, leT, leF, ltT, ltF, eqT, eqF, eqM, eqNone, addN, mulN, subN, m1N, ↓to_bnd, bnd_some, ↓to_nmT, nmT_eq, up2_r, up2_e, pk_us, pk_un, b2_t, b2_f, b2_0, b2_1, zB_1, zB_0, zB_b2, not_true_eq_false, not_false_eq_true, r_Mo, Nat.add_zero, Nat.add_sub_cancel, within_R, within_N, in_R, in_N, inN_yes, inR_yes, inR_pred, orNone_nn, nn_m, nn_N, f_Ct_isDay, f_Ct_isThing, f_Ct_isKind, f_Ct_isRoomSeat, f_Ct_isOffice, f_Ct_isTable, f_Ct_isPaper, f_Ct_isRule, f_Ct_isDecision, f_Mo_isOffice, f_Mo_isTable, f_Mo_isPaper, f_Mo_isRule, f_Mo_isDecision, f_Mo_isDay, f_Mo_isThing, f_Mo_paperOf, f_Mo_set, x1, y28, q5]
        · have lr : nR < 16 := by omega
          have qr : rfT 12 nR = 53 + 2 * nR := (by decide : ∀ i, i < 16 → rfT 12 i = 53 + 2 * i) nR lr
          have qs : rfT (53 + 2 * nR) 7 = 54 + 2 * nR := (by decide : ∀ i, i < 16 → rfT (53 + 2 * i) 7 = 54 + 2 * i) nR lr
          obtain ⟨s1, hs1⟩ : ∃ s1, s1 = cp2 (up2 (up2 (up2 (up2 (up2 (up2 (up2 n1 (53 + 2 * nR) 0 (n1 261 0)) (53 + 2 * nR) 1 (n1 261 1)) (53 + 2 * nR) 2 (n1 261 2)) (53 + 2 * nR) 3 (n1 261 3)) (53 + 2 * nR) 4 (n1 261 4)) (53 + 2 * nR) 5 (n1 261 5)) (53 + 2 * nR) 6 (n1 261 6)) 262 0 (54 + 2 * nR) 0 96 := ⟨_, rfl⟩
          have bec : f_Ru_become (53 + 2 * nR) 261 n1 = some s1 := by rw [hs1]; simp -dsimp -implicitDefEqProofs (disch := omega) only [f_Ru_become, ↓l_m1, l_0, l_1, l_2, l_3, l_4, l_5, l_6, l_7, l_8, l_9, l_10, l_11, l_12, l_13, l_14, l_15, l_16, l_17, l_20, l_21, l_22, l_23, l_24, l_28, l_29, l_30, l_31, l_32, l_40, l_41, l_48, l_57, l_60, l_62, l_63, l_84, l_96, l_97, l_99, l_100, l_122, l_132, l_144, l_150, l_186, l_255, l_256, l_288, l_300, l_522, l_634, l_999, l_5242, l_5410, l_5420, l_5520, l_5528, l_9999, l_65535, l_65536, l_100000, l_16777215, l_252645135, l_858993459, l_1431655765, ↓reduceIte, Nat.reduceAdd, Nat.reduceMul, Nat.reduceSub, ixN, inbN, leT, leF, ltT, ltF, eqT, eqF, eqM, eqNone, addN, mulN, subN, m1N, ↓to_bnd, bnd_some, ↓to_nmT, nmT_eq, up2_r, up2_e, pk_us, pk_un, b2_t, b2_f, b2_0, b2_1, zB_1, zB_0, zB_b2, not_true_eq_false, not_false_eq_true, r_Mo, Nat.add_zero, Nat.add_sub_cancel, within_R, within_N, in_R, in_N, inN_yes, inR_yes, inR_pred, orNone_nn, nn_m, nn_N, f_Ct_isDay, f_Ct_isThing, f_Ct_isKind, f_Ct_isRoomSeat, f_Ct_isOffice, f_Ct_isTable, f_Ct_isPaper, f_Ct_isRule, f_Ct_isDecision, f_Mo_isOffice, f_Mo_isTable, f_Mo_isPaper, f_Mo_isRule, f_Mo_isDecision, f_Mo_isDay, f_Mo_isThing, f_Mo_paperOf, f_Mo_set, rt_s, qs]
          have s1a : ∀ a, a ≠ 53 + 2 * nR → a ≠ 54 + 2 * nR → s1 a = n1 a := fun a p q => by rw [hs1, cp2_r _ _ _ _ _ q]; simp -dsimp -implicitDefEqProofs (disch := omega) only [up2_r]
          have s1r : s1 (53 + 2 * nR) 0 = n1 261 0 ∧ s1 (53 + 2 * nR) 1 = n1 261 1 ∧ s1 (53 + 2 * nR) 2 = n1 261 2 ∧ s1 (53 + 2 * nR) 4 = n1 261 4 ∧ s1 (53 + 2 * nR) 5 = n1 261 5 ∧ s1 (53 + 2 * nR) 6 = n1 261 6 := by
            rw [hs1, cp2_r _ _ _ _ _ (by omega)]
            exact ⟨by simp -dsimp -implicitDefEqProofs (disch := omega) only [up2_e, pk_un, pk_us], by simp -dsimp -implicitDefEqProofs (disch := omega) only [up2_e, pk_un, pk_us], by simp -dsimp -implicitDefEqProofs (disch := omega) only [up2_e, pk_un, pk_us], by simp -dsimp -implicitDefEqProofs (disch := omega) only [up2_e, pk_un, pk_us], by simp -dsimp -implicitDefEqProofs (disch := omega) only [up2_e, pk_un, pk_us], by simp -dsimp -implicitDefEqProofs (disch := omega) only [up2_e, pk_un, pk_us]⟩
          have s1s : ∀ j, j < 96 → s1 (54 + 2 * nR) j = n1 262 j := fun j hj => by rw [hs1, cp2_e, cpy0 hj]; simp -dsimp -implicitDefEqProofs (disch := omega) only [up2_r]
          have s14 : s1 1 11 = nI nR := by rw [s1a 1 (by omega) (by omega)]; exact n4
          obtain ⟨σ1, hσ1⟩ : ∃ σ1, σ1 = up2 (up2 s1 (53 + 2 * nR) 3 (nI t)) 1 11 (nI (nR + 1)) := ⟨_, rfl⟩
          have ga : ∀ a, a ≠ 1 → a ≠ 53 + 2 * nR → a ≠ 54 + 2 * nR → σ1 a = n1 a := fun a p q r => by rw [hσ1, up2_r _ _ _ p, up2_r _ _ _ q, s1a a q r]
          have g1 : ∀ i, i ≠ 11 → σ1 1 i = n1 1 i := fun i hi => by rw [hσ1, up2_e, pk_un hi, up2_r _ _ _ (by omega), s1a 1 (by omega) (by omega)]
          have g11 : σ1 1 11 = nI (nR + 1) := by rw [hσ1, up2_e, pk_us]
          have gr : ∀ k, k ≠ 3 → σ1 (53 + 2 * nR) k = s1 (53 + 2 * nR) k := fun k hk => by rw [hσ1, up2_r _ _ _ (by omega), up2_e, pk_un hk]
          have g3 : σ1 (53 + 2 * nR) 3 = nI t := by rw [hσ1, up2_r _ _ _ (by omega), up2_e, pk_us]
          have gs : ∀ j, j < 96 → σ1 (54 + 2 * nR) j = n1 262 j := fun j hj => by rw [hσ1, up2_r _ _ _ (by omega), up2_r _ _ _ (by omega)]; exact s1s j hj
          obtain ⟨mm, x1, x2, x3, -, x4⟩ := rM' σ1 (fun a q => by rw [ga a (by omega) (by omega) (by omega), fa a (by omega)])
          obtain ⟨y19, y20, y21, y25, y26, y27, y28, yM1, yM2⟩ := x4 rfl
          rw [hbad, b2_f] at y28
          rw [b2_t] at x1
          have mm9 : mm 299 = σ 299 := by rw [x2 299 (by omega) (by omega) (by omega), ga 299 (by omega) (by omega) (by omega), fa 299 (by omega)]
          have q5 : mm 299 5 = nI nR := by rw [mm9]; exact o5
          obtain ⟨y2, hy2⟩ : ∃ y2, mm 298 21 = y2 := ⟨_, rfl⟩
          obtain ⟨y4, hy4⟩ : ∃ y4, mm 298 27 = y4 := ⟨_, rfl⟩
          obtain ⟨y5, hy5⟩ : ∃ y5, mm 298 25 = y5 := ⟨_, rfl⟩
          obtain ⟨y6, hy6⟩ : ∃ y6, mm 298 26 = y6 := ⟨_, rfl⟩
          obtain ⟨w, hw⟩ : ∃ w, w = up2 (up2 (up2 (up2 (up2 (up2 (up2 (up2 mm 298 10 (nI 0)) 299 (522 + 7 * nR) (nI h)) 299 (522 + 7 * nR + 1) (nI v1)) 299 (522 + 7 * nR + 2) y2) 299 (522 + 7 * nR + 3) (nI t)) 299 (522 + 7 * nR + 4) y4) 299 (522 + 7 * nR + 5) y5) 299 (522 + 7 * nR + 6) y6 := ⟨_, rfl⟩
          have wa : ∀ a, a ≠ 298 → a ≠ 299 → w a = mm a := fun a p q => by rw [hw]; simp -dsimp -implicitDefEqProofs (disch := omega) only [up2_r]
          have w98 : ∀ i, i ≠ 10 → w 298 i = mm 298 i := fun i hi => by rw [hw]; simp -dsimp -implicitDefEqProofs (disch := omega) only [up2_r, up2_e, pk_un]
          have w10 : w 298 10 = nI 0 := by rw [hw]; simp -dsimp -implicitDefEqProofs (disch := omega) only [up2_r, up2_e, pk_us]
          have w9 : ∀ j, ¬ (522 + 7 * nR ≤ j ∧ j < 529 + 7 * nR) → w 299 j = σ 299 j := fun j hj => by rw [hw, ← mm9]; simp -dsimp -implicitDefEqProofs (disch := omega) only [up2_r, up2_e, pk_un]
          have rc := mo_rcl (m := w) lr (by rw [w9 5 (by omega)]; exact o5)
          obtain ⟨σ2, hσ2⟩ : ∃ σ2, σ2 = up2 (rcM w nR 288) 299 5 (nI (nR + 1)) := ⟨_, rfl⟩
          rw [← hσ2] at rc
          have Ga : ∀ a, a ≠ 299 → σ2 a = w a := fun a ha => by rw [hσ2, up2_r _ _ _ ha, rcM_r w nR ha]
          have G5 : σ2 299 5 = nI (nR + 1) := by rw [hσ2, up2_e, pk_us]
          have Go : ∀ j, j ≠ 5 → (j < 634 + 288 * nR ∨ 922 + 288 * nR ≤ j) → σ2 299 j = w 299 j := fun j p q => by rw [hσ2, up2_e, pk_un p, rcM_o w nR q 288 (by omega)]
          have Gi : ∀ j, j < 288 → σ2 299 (634 + 288 * nR + j) = mm 308 j := fun j hj => by rw [hσ2, up2_e, pk_un (by omega), rcM_i w nR 288 hj, wa 308 (by omega) (by omega)]
          have Gf : ∀ j, ¬ (j = 5 ∨ (522 + 7 * nR ≤ j ∧ j < 529 + 7 * nR) ∨ (634 + 288 * nR ≤ j ∧ j < 922 + 288 * nR)) → σ2 299 j = σ 299 j := fun j hj => by rw [Go j (by omega) (by omega), w9 j (by omega)]
          have c0 : σ2 299 (522 + 7 * nR) = nI h := by rw [Go _ (by omega) (by omega), hw]; simp -dsimp -implicitDefEqProofs (disch := omega) only [up2_e, up2_r, pk_un, pk_us]
          have c1 : σ2 299 (522 + 7 * nR + 1) = nI v1 := by rw [Go _ (by omega) (by omega), hw]; simp -dsimp -implicitDefEqProofs (disch := omega) only [up2_e, up2_r, pk_un, pk_us]
          have c2 : σ2 299 (522 + 7 * nR + 2) = y2 := by rw [Go _ (by omega) (by omega), hw]; simp -dsimp -implicitDefEqProofs (disch := omega) only [up2_e, up2_r, pk_un, pk_us]
          have c3 : σ2 299 (522 + 7 * nR + 3) = nI t := by rw [Go _ (by omega) (by omega), hw]; simp -dsimp -implicitDefEqProofs (disch := omega) only [up2_e, up2_r, pk_un, pk_us]
          have c4 : σ2 299 (522 + 7 * nR + 4) = y4 := by rw [Go _ (by omega) (by omega), hw]; simp -dsimp -implicitDefEqProofs (disch := omega) only [up2_e, up2_r, pk_un, pk_us]
          have c5 : σ2 299 (522 + 7 * nR + 5) = y5 := by rw [Go _ (by omega) (by omega), hw]; simp -dsimp -implicitDefEqProofs (disch := omega) only [up2_e, up2_r, pk_un, pk_us]
          have c6 : σ2 299 (522 + 7 * nR + 6) = y6 := by rw [Go _ (by omega) (by omega), hw]; simp -dsimp -implicitDefEqProofs (disch := omega) only [up2_e, up2_r, pk_un, pk_us]
          have Gx : ∀ a, a ≠ 298 → a ≠ 299 → a ≠ 308 → a ≠ 309 → σ2 a = σ1 a := fun a p q r s => by rw [Ga a q, wa a p q, x2 a p r s]
          have a21 := hy2
          have a27 := hy4
          have a25 := hy5
          have a26 := hy6
          rw [y25] at hy5
          rw [y26] at hy6
          rw [y27] at hy4
          rw [y21] at hy2
          rw [List.length_append] at wl
          have nb1 : bdC nO d1 = false ∧ bdC nO d2 = false ∧ bhB nO nT nR h v1 v2 = false := by
            rw [Bool.or_eq_false_iff, Bool.or_eq_false_iff] at hbad
            exact ⟨hbad.1.2, hbad.2, hbad.1.1⟩
          have cm1 : CodM (σ2 299) (634 + 288 * nR) d1 := CodM_s d1 yM1 (fun j hj => by rw [Gi j (by omega), Nat.zero_add])
          have cm2 : CodM (σ2 299) (634 + 288 * nR + 144) d2 := CodM_s d2 yM2 (fun j hj => by rw [Nat.add_assoc, Gi (144 + j) (by omega)])
          have hx : ix (σ2 299 5) = nR + 1 := by rw [G5]; exact ixN (by omega)
          have RVn : RV (σ2 299) nR := by
            refine ⟨⟨h, v1, lh, lv1, c1, c0, fun q => by rw [c2, ← hy2, if_pos q], fun q => ⟨v2, lv2, by rw [c2, ← hy2, if_neg q], fun q2 => ?_⟩⟩, ?_, ?_⟩
            · have z := nb1.2.2
              unfold bhB at z
              rw [if_neg q, if_neg (by omega), if_pos q2, Bool.or_eq_false_iff] at z
              have := of_decide_eq_false z.2
              omega
            · rw [c5, ← hy5]
              exact cdv_of wo1 (by omega) cm1 (fun o ho h16 => by have := bdC_no nb1.1 o ho h16; omega)
            · rw [c6, ← hy6]
              exact cdv_of wo2 (by omega) cm2 (fun o ho h16 => by have := bdC_no nb1.2.1 o ho h16; omega)
          refine ⟨nI nR, σ1, σ2, ?_, ?_, VG_Ru hV (fun j hj => Gf j (by omega)) ⟨cntG_of G5 (by omega) (by omega), fun r hr => ?_⟩, StR_Ru hS hV ?_ ?_ ?_ ?_ (fun a p q r s => ?_) (fun j hj => Gf j (by omega)) ⟨?_, fun r hr => ?_⟩, ReR_t hR' (fun a q => ?_) ?_ ?_ ?_ ?_⟩
          · rw [hσ1]
            simp -dsimp -implicitDefEqProofs (disch := omega) only [f_Ct_rule, ↓l_m1, l_0, l_1, l_2, l_3, l_4, l_5, l_6, l_7, l_8, l_9, l_10, l_11, l_12, l_13, l_14, l_15, l_16, l_17, l_20, l_21, l_22, l_23, l_24, l_28, l_29, l_30, l_31, l_32, l_40, l_41, l_48, l_57, l_60, l_62, l_63, l_84, l_96, l_97, l_99, l_100, l_122, l_132, l_144, l_150, l_186, l_255, l_256, l_288, l_300, l_522, l_634, l_999, l_5242, l_5410, l_5420, l_5520, l_5528, l_9999, l_65535, l_65536, l_100000, l_16777215, l_252645135, l_858993459, l_1431655765, ↓reduceIte, Nat.reduceAdd, Nat.reduceMul, Nat.reduceSub, ixN, inbN, leT, leF, ltT, ltF, eqT, eqF, eqM, eqNone, addN, mulN, subN, m1N, ↓to_bnd, bnd_some, ↓to_nmT, nmT_eq, up2_r, up2_e, pk_us, pk_un, b2_t, b2_f, b2_0, b2_1, zB_1, zB_0, zB_b2, not_true_eq_false, not_false_eq_true, r_Mo, Nat.add_zero, Nat.add_sub_cancel, within_R, within_N, in_R, in_N, inN_yes, inR_yes, inR_pred, orNone_nn, nn_m, nn_N, f_Ct_isDay, f_Ct_isThing, f_Ct_isKind, f_Ct_isRoomSeat, f_Ct_isOffice, f_Ct_isTable, f_Ct_isPaper, f_Ct_isRule, f_Ct_isDecision, f_Mo_isOffice, f_Mo_isTable, f_Mo_isPaper, f_Mo_isRule, f_Mo_isDecision, f_Mo_isDay, f_Mo_isThing, f_Mo_paperOf, f_Mo_set, rc_1, rc_2, rc_3, rc_4, rc_5, rc_6, rc_7, rm_1, rm_2, rm_4, rm_5, rm_6, rm_9, rm_11, rm_12, rm_22, rm_30, rm_34, rm_35, rm_36, rm_37, rm_38, rm_39, rm_40, rm_41, rm_42, rm_43, rm_45, rm_46, rt_0, rt_1, rt_2, rt_3, rt_4, rt_s, rw_0, rw_1, rg_a, rg_v, rs_a, rs_p, rs_r, rs_v, r_now, q10, q11, q13, qr, r1, sh, n2, n3, n4, wr, bec, s14]
          · rw [hw] at rc
            simp -dsimp -implicitDefEqProofs (disch := omega) only [f_Mo_rule, f_Mo_rule_20, f_Mo_rule_21, ↓l_m1, l_0, l_1, l_2, l_3, l_4, l_5, l_6, l_7, l_8, l_9, l_10, l_11, l_12, l_13, l_14, l_15, l_16, l_17, l_20, l_21, l_22, l_23, l_24, l_28, l_29, l_30, l_31, l_32, l_40, l_41, l_48, l_57, l_60, l_62, l_63, l_84, l_96, l_97, l_99, l_100, l_122, l_132, l_144, l_150, l_186, l_255, l_256, l_288, l_300, l_522, l_634, l_999, l_5242, l_5410, l_5420, l_5520, l_5528, l_9999, l_65535, l_65536, l_100000, l_16777215, l_252645135, l_858993459, l_1431655765, ↓reduceIte, Nat.reduceAdd, Nat.reduceMul, Nat.reduceSub, ixN, inbN, leT, leF, ltT, ltF, eqT, eqF, eqM, eqNone, addN, mulN, subN, m1N, ↓to_bnd, bnd_some, ↓to_nmT, nmT_eq, up2_r, up2_e, pk_us, pk_un, b2_t, b2_f, b2_0, b2_1, zB_1, zB_0, zB_b2, not_true_eq_false, not_false_eq_true, r_Mo, Nat.add_zero, Nat.add_sub_cancel, within_R, within_N, in_R, in_N, inN_yes, inR_yes, inR_pred, orNone_nn, nn_m, nn_N, f_Ct_isDay, f_Ct_isThing, f_Ct_isKind, f_Ct_isRoomSeat, f_Ct_isOffice, f_Ct_isTable, f_Ct_isPaper, f_Ct_isRule, f_Ct_isDecision, f_Mo_isOffice, f_Mo_isTable, f_Mo_isPaper, f_Mo_isRule, f_Mo_isDecision, f_Mo_isDay, f_Mo_isThing, f_Mo_paperOf, f_Mo_set, x1, y28, q5, y19, y20, a21, a25, a26, a27, rc]
          · rw [hx] at hr
            by_cases z : r = nR
            · rw [z]; exact RVn
            · exact RV_c2 (hV.2.2.2.2.1.2 r (by rw [x5]; omega)) (fun j p q => Gf j (by omega)) (fun j p q => Gf j (by omega))
          · rw [Gx 1 (by omega) (by omega) (by omega) (by omega), g1 8 (by omega), fa 1 (by omega)]
          · rw [Gx 1 (by omega) (by omega) (by omega) (by omega), g1 9 (by omega), fa 1 (by omega)]
          · rw [Gx 1 (by omega) (by omega) (by omega) (by omega), g1 10 (by omega), fa 1 (by omega)]
          · rw [Gx 1 (by omega) (by omega) (by omega) (by omega), g1 12 (by omega), fa 1 (by omega)]
          · rw [Gx a (by omega) (by omega) (by omega) (by omega), ga a (by omega) (by omega) (by omega), fa a (by omega)]
          · rw [Gx 1 (by omega) (by omega) (by omega) (by omega), g11, G5]
          · rw [hx] at hr
            rw [Gx (1 + 52 + 2 * r) (by omega) (by omega) (by omega) (by omega), Gx (1 + 53 + 2 * r) (by omega) (by omega) (by omega) (by omega)]
            by_cases z : r = nR
            · subst z
              rw [show 1 + 52 + 2 * r = 53 + 2 * r by omega, show 1 + 53 + 2 * r = 54 + 2 * r by omega]
              have st2 : CodC (σ1 (54 + 2 * r)) (d2 ++ d1) := by
                have q : CodC (n1 262) (d2 ++ d1) := by rw [n1a 262 (by omega)]; exact wC
                exact CodC_c _ q (fun i hi => gs i (by rw [List.length_append] at hi; omega))
              refine ⟨?_, ?_, ?_, ?_, ?_, d1.length, d2.length, by omega, ?_, ?_, ?_, ?_, fun i hi => ?_, fun i hi => ?_⟩
              · rw [gr 0 (by omega), s1r.1, n1a 261 (by omega), d0, c0]
              · rw [gr 1 (by omega), s1r.2.1, n1a 261 (by omega), e1, c1]
              · rw [gr 2 (by omega), s1r.2.2.1, n1a 261 (by omega), e2, c2, ← hy2]
                by_cases q : h = 5
                · rw [if_pos q, if_pos q, nn_m]
                · rw [if_neg q, if_neg q, nn_N (by omega)]
              · rw [g3, c3]
              · rw [gr 4 (by omega), s1r.2.2.2.1, n1a 261 (by omega), w4, c4, ← hy4, atC_app]
              · rw [gr 5 (by omega), s1r.2.2.2.2.1, n1a 261 (by omega), w5]
              · rw [gr 6 (by omega), s1r.2.2.2.2.2, n1a 261 (by omega), w6, List.length_append, Nat.add_comm]
              · rw [c5, ← hy5]
              · rw [c6, ← hy6]
              · have q := st_of (l := []) d1 (by rw [List.append_nil]; exact CodC_d d2 st2) cm1 (fun o ho => vv o (List.mem_append.mpr (Or.inr ho))) i hi
                rw [List.length_nil, Nat.zero_add] at q
                exact q
              · exact st_of d2 st2 cm2 (fun o ho => vv o (List.mem_append.mpr (Or.inl ho))) i hi
            · rw [ga (1 + 52 + 2 * r) (by omega) (by omega) (by omega), ga (1 + 53 + 2 * r) (by omega) (by omega) (by omega), fa (1 + 52 + 2 * r) (by omega), fa (1 + 53 + 2 * r) (by omega)]
              exact RuR_c2 (hS.2.2.2.2.1.2 r (by rw [x5]; omega)) (hV.2.2.2.2.1.2 r (by rw [x5]; omega)) (fun j p q => Gf j (by omega)) (fun j p q => Gf j (by omega))
          · rw [Gx a (by omega) (by omega) (by omega) (by omega), ga a (by omega) (by omega) (by omega), fa a (by omega)]
          · rw [Gx 256 (by omega) (by omega) (by omega) (by omega), ga 256 (by omega) (by omega) (by omega)]; exact n5
          · rw [Ga 298 (by omega)]; exact w10
          · rw [Ga 298 (by omega), w98 3 (by omega), x3 3 (by omega), ga 298 (by omega) (by omega) (by omega), e98]
          · rw [Ga 298 (by omega), w98 44 (by omega), x3 44 (by omega), ga 298 (by omega) (by omega) (by omega), e98]
      · rw [hbad, b2_t] at wr
        obtain ⟨mm, x1, x2, x3, -, x4⟩ := rM' n1 (fun a q => fa a (by omega))
        obtain ⟨-, -, -, -, -, -, y28, -, -⟩ := x4 rfl
        rw [hbad, b2_t] at y28
        rw [b2_t] at x1
        refine ⟨-1000000002, n1, up2 mm 298 10 (nI 0), ?_, ?_, inv0 _ (fun a p q r => by rw [up2_r _ _ _ p]; exact x2 a p q r) (fun i hi => by rw [up2_e, pk_un (by omega), x3 i (by omega), e98]) (by rw [up2_e, pk_us])⟩
        · simp -dsimp -implicitDefEqProofs (disch := omega) only [f_Ct_rule, ↓l_m1, l_0, l_1, l_2, l_3, l_4, l_5, l_6, l_7, l_8, l_9, l_10, l_11, l_12, l_13, l_14, l_15, l_16, l_17, l_20, l_21, l_22, l_23, l_24, l_28, l_29, l_30, l_31, l_32, l_40, l_41, l_48, l_57, l_60, l_62, l_63, l_84, l_96, l_97, l_99, l_100, l_122, l_132, l_144, l_150, l_186, l_255, l_256, l_288, l_300, l_522, l_634, l_999, l_5242, l_5410, l_5420, l_5520, l_5528, l_9999, l_65535, l_65536, l_100000, l_16777215, l_252645135, l_858993459, l_1431655765, ↓reduceIte, Nat.reduceAdd, Nat.reduceMul, Nat.reduceSub, ixN, inbN, leT, leF, ltT, ltF, eqT, eqF, eqM, eqNone, addN, mulN, subN, m1N, ↓to_bnd, bnd_some, ↓to_nmT, nmT_eq, up2_r, up2_e, pk_us, pk_un, b2_t, b2_f, b2_0, b2_1, zB_1, zB_0, zB_b2, not_true_eq_false, not_false_eq_true, r_Mo, Nat.add_zero, Nat.add_sub_cancel, within_R, within_N, in_R, in_N, inN_yes, inR_yes, inR_pred, orNone_nn, nn_m, nn_N, f_Ct_isDay, f_Ct_isThing, f_Ct_isKind, f_Ct_isRoomSeat, f_Ct_isOffice, f_Ct_isTable, f_Ct_isPaper, f_Ct_isRule, f_Ct_isDecision, f_Mo_isOffice, f_Mo_isTable, f_Mo_isPaper, f_Mo_isRule, f_Mo_isDecision, f_Mo_isDay, f_Mo_isThing, f_Mo_paperOf, f_Mo_set, rc_1, rc_2, rc_3, rc_4, rc_5, rc_6, rc_7, rm_1, rm_2, rm_4, rm_5, rm_6, rm_9, rm_11, rm_12, rm_22, rm_30, rm_34, rm_35, rm_36, rm_37, rm_38, rm_39, rm_40, rm_41, rm_42, rm_43, rm_45, rm_46, rt_0, rt_1, rt_2, rt_3, rt_4, rt_s, rw_0, rw_1, rg_a, rg_v, rs_a, rs_p, rs_r, rs_v, r_now, q10, q11, r1, sh, n2, n3, n4, wr]
        · simp -dsimp -implicitDefEqProofs (disch := omega) only [f_Mo_rule, f_Mo_rule_20, f_Mo_rule_21, ↓l_m1, l_0, l_1, l_2, l_3, l_4, l_5, l_6, l_7, l_8, l_9, l_10, l_11, l_12, l_13, l_14, l_15, l_16, l_17, l_20, l_21, l_22, l_23, l_24, l_28, l_29, l_30, l_31, l_32, l_40, l_41, l_48, l_57, l_60, l_62, l_63, l_84, l_96, l_97, l_99, l_100, l_122, l_132, l_144, l_150, l_186, l_255, l_256, l_288, l_300, l_522, l_634, l_999, l_5242, l_5410, l_5420, l_5520, l_5528, l_9999, l_65535, l_65536, l_100000, l_16777215, l_252645135, l_858993459, l_1431655765, ↓reduceIte, Nat.reduceAdd, Nat.reduceMul, Nat.reduceSub, ixN, inbN, leT, leF, ltT, ltF, eqT, eqF, eqM, eqNone, addN, mulN, subN, m1N, ↓to_bnd, bnd_some, ↓to_nmT, nmT_eq, up2_r, up2_e, pk_us, pk_un, b2_t, b2_f, b2_0, b2_1, zB_1, zB_0, zB_b2, not_true_eq_false, not_false_eq_true, r_Mo, Nat.add_zero, Nat.add_sub_cancel, within_R, within_N, in_R, in_N, inN_yes, inR_yes, inR_pred, orNone_nn, nn_m, nn_N, f_Ct_isDay, f_Ct_isThing, f_Ct_isKind, f_Ct_isRoomSeat, f_Ct_isOffice, f_Ct_isTable, f_Ct_isPaper, f_Ct_isRule, f_Ct_isDecision, f_Mo_isOffice, f_Mo_isTable, f_Mo_isPaper, f_Mo_isRule, f_Mo_isDecision, f_Mo_isDay, f_Mo_isThing, f_Mo_paperOf, f_Mo_set, x1, y28]
  · refine ⟨-1000000001, n1, up2 n1 298 10 (nI 0), ?_, ?_, inv0 _ (fun a p q r => by rw [up2_r _ _ _ p]) (fun i hi => by rw [up2_e, pk_un (by omega), e98]) (by rw [up2_e, pk_us])⟩
    · simp -dsimp -implicitDefEqProofs (disch := omega) only [f_Ct_rule, ↓l_m1, l_0, l_1, l_2, l_3, l_4, l_5, l_6, l_7, l_8, l_9, l_10, l_11, l_12, l_13, l_14, l_15, l_16, l_17, l_20, l_21, l_22, l_23, l_24, l_28, l_29, l_30, l_31, l_32, l_40, l_41, l_48, l_57, l_60, l_62, l_63, l_84, l_96, l_97, l_99, l_100, l_122, l_132, l_144, l_150, l_186, l_255, l_256, l_288, l_300, l_522, l_634, l_999, l_5242, l_5410, l_5420, l_5520, l_5528, l_9999, l_65535, l_65536, l_100000, l_16777215, l_252645135, l_858993459, l_1431655765, ↓reduceIte, Nat.reduceAdd, Nat.reduceMul, Nat.reduceSub, ixN, inbN, leT, leF, ltT, ltF, eqT, eqF, eqM, eqNone, addN, mulN, subN, m1N, ↓to_bnd, bnd_some, ↓to_nmT, nmT_eq, up2_r, up2_e, pk_us, pk_un, b2_t, b2_f, b2_0, b2_1, zB_1, zB_0, zB_b2, not_true_eq_false, not_false_eq_true, r_Mo, Nat.add_zero, Nat.add_sub_cancel, within_R, within_N, in_R, in_N, inN_yes, inR_yes, inR_pred, orNone_nn, nn_m, nn_N, f_Ct_isDay, f_Ct_isThing, f_Ct_isKind, f_Ct_isRoomSeat, f_Ct_isOffice, f_Ct_isTable, f_Ct_isPaper, f_Ct_isRule, f_Ct_isDecision, f_Mo_isOffice, f_Mo_isTable, f_Mo_isPaper, f_Mo_isRule, f_Mo_isDecision, f_Mo_isDay, f_Mo_isThing, f_Mo_paperOf, f_Mo_set, rc_1, rc_2, rc_3, rc_4, rc_5, rc_6, rc_7, rm_1, rm_2, rm_4, rm_5, rm_6, rm_9, rm_11, rm_12, rm_22, rm_30, rm_34, rm_35, rm_36, rm_37, rm_38, rm_39, rm_40, rm_41, rm_42, rm_43, rm_45, rm_46, rt_0, rt_1, rt_2, rt_3, rt_4, rt_s, rw_0, rw_1, rg_a, rg_v, rs_a, rs_p, rs_r, rs_v, r1, sh, c1]
    · simp -dsimp -implicitDefEqProofs (disch := omega) only [f_Mo_rule, f_Mo_rule_20, f_Mo_rule_21, ↓l_m1, l_0, l_1, l_2, l_3, l_4, l_5, l_6, l_7, l_8, l_9, l_10, l_11, l_12, l_13, l_14, l_15, l_16, l_17, l_20, l_21, l_22, l_23, l_24, l_28, l_29, l_30, l_31, l_32, l_40, l_41, l_48, l_57, l_60, l_62, l_63, l_84, l_96, l_97, l_99, l_100, l_122, l_132, l_144, l_150, l_186, l_255, l_256, l_288, l_300, l_522, l_634, l_999, l_5242, l_5410, l_5420, l_5520, l_5528, l_9999, l_65535, l_65536, l_100000, l_16777215, l_252645135, l_858993459, l_1431655765, ↓reduceIte, Nat.reduceAdd, Nat.reduceMul, Nat.reduceSub, ixN, inbN, leT, leF, ltT, ltF, eqT, eqF, eqM, eqNone, addN, mulN, subN, m1N, ↓to_bnd, bnd_some, ↓to_nmT, nmT_eq, up2_r, up2_e, pk_us, pk_un, b2_t, b2_f, b2_0, b2_1, zB_1, zB_0, zB_b2, not_true_eq_false, not_false_eq_true, r_Mo, Nat.add_zero, Nat.add_sub_cancel, within_R, within_N, in_R, in_N, inN_yes, inR_yes, inR_pred, orNone_nn, nn_m, nn_N, f_Ct_isDay, f_Ct_isThing, f_Ct_isKind, f_Ct_isRoomSeat, f_Ct_isOffice, f_Ct_isTable, f_Ct_isPaper, f_Ct_isRule, f_Ct_isDecision, f_Mo_isOffice, f_Mo_isTable, f_Mo_isPaper, f_Mo_isRule, f_Mo_isDecision, f_Mo_isDay, f_Mo_isThing, f_Mo_paperOf, f_Mo_set, c1]
