/-! one more table -/
theorem n01 : decide (nI 0 = nI 1) = false := by decide
theorem table_inv {σ τ : Mm} {s nT p o : Nat} {g : Nat → Int32} {x : Int32} (hs : s = 1) (hV : VG 999 g) (hS : StR σ s g) (hR : ReR σ) (hg : σ 299 = g) (e3 : g 3 = nI nT) (l3 : nT < 6) (hp : 1 ≤ p) (hp2 : p ≤ 30) (ho : o ≤ 29) (hτ : τ = up2 (up2 (up2 (up2 (up2 (up2 (up2 (up2 σ (s + 6) nT x) (s + 7) nT (nI p)) (s + 8) nT (nI o)) (s + 9) nT (nI 0)) (s + 5) 4 (nI (nT + 1))) 299 (132 + 3 * nT) x) 299 (132 + 3 * nT + 1) (nI p)) 299 (132 + 3 * nT + 2) (nI o)) : Inv (up2 (zmP τ nT 6) 299 3 (nI (nT + 1))) := by
  have hT := hS.2.2.1
  have o3 := hT.1
  have hm : ∀ a, a ≠ 299 → up2 (zmP τ nT 6) 299 3 (nI (nT + 1)) a = τ a := fun a h => by rw [up2_r _ _ _ h, zmP_r τ nT h 6]
  have hg2 : up2 (zmP τ nT 6) 299 3 (nI (nT + 1)) 299 = upd (zmP τ nT 6 299) 3 (nI (nT + 1)) := by rw [up2_e]
  have t1 : ∀ j, j < 132 ∨ (j < 150 ∧ j ≠ 132 + 3 * nT ∧ j ≠ 132 + 3 * nT + 1 ∧ j ≠ 132 + 3 * nT + 2) ∨ 186 ≤ j → zmP τ nT 6 299 j = g j := fun j q => by
    rw [zmP_o τ nT l3 (by omega) 6 (by omega), hτ]
    simp -dsimp -implicitDefEqProofs (disch := omega) only [up2_e, up2_r, pk_un, hg]
  have t2 : zmP τ nT 6 299 (132 + 3 * nT) = x ∧ zmP τ nT 6 299 (132 + 3 * nT + 1) = nI p ∧ zmP τ nT 6 299 (132 + 3 * nT + 2) = nI o := by
    rw [zmP_o τ nT l3 (by omega) 6 (by omega), zmP_o τ nT l3 (by omega) 6 (by omega), zmP_o τ nT l3 (by omega) 6 (by omega), hτ]
    simp -dsimp -implicitDefEqProofs (disch := omega) only [up2_e, up2_r, pk_un, pk_us, and_self]
  have t3 : ∀ u, u < 6 → zmP τ nT 6 299 (150 + 6 * nT + u) = nI 0 ∧ zmP τ nT 6 299 (150 + 6 * u + nT) = nI 0 := fun u hu => zmP_z τ nT l3 6 (by omega) hu
  have t4 : ∀ i u, i ≠ nT → u ≠ nT → i < 6 → u < 6 → zmP τ nT 6 299 (150 + 6 * i + u) = g (150 + 6 * i + u) := fun i u h1 h2 h3 h4 => by
    rw [zmP_i τ nT l3 h1 h2 h3 h4 6 (by omega), hτ]
    simp -dsimp -implicitDefEqProofs (disch := omega) only [up2_e, up2_r, pk_un, hg]
  refine Inv_mk hs ?_ ?_ ?_
  · rw [hg2]
    refine VG_Tb hV (by rw [pk_us, e3, ixN (by omega), ixN (by omega)]; omega) (fun j q => by rw [pk_un (by omega), t1 j (by omega)]) ⟨cntG_of pk_us (by omega) (by omega), fun i hi => ?_⟩
    rw [pk_us, ixN (by omega)] at hi
    unfold TV
    by_cases c : i = nT
    · subst c
      refine ⟨⟨p, hp, hp2, ?_⟩, ⟨o, ho, ?_⟩, fun u hu => Or.inl ?_⟩
      · rw [pk_un (by omega)]; exact t2.2.1
      · rw [pk_un (by omega)]; exact t2.2.2
      · rw [pk_un (by omega)]; exact (t3 u hu).1
    · have tv := hV.2.2.1.2 i (by rw [e3, ixN (by omega)]; omega)
      unfold TV at tv
      refine ⟨?_, ?_, fun u hu => ?_⟩
      · rw [pk_un (by omega), t1 _ (by omega)]; exact tv.1
      · rw [pk_un (by omega), t1 _ (by omega)]; exact tv.2.1
      · rw [pk_un (by omega)]
        by_cases c2 : u = nT
        · subst c2; exact Or.inl (t3 i (by omega)).2
        · rw [t4 i u c c2 (by omega) hu]; exact tv.2.2 u hu
  · rw [hg2]
    refine StR_Tb hS hV (fun a h1 h2 h3 => ?_) (fun j q => by rw [pk_un (by omega), t1 j (by omega)]) ⟨?_, fun i hi => ?_⟩
    · rw [hm a (by omega), hτ]
      simp -dsimp -implicitDefEqProofs (disch := omega) only [up2_r]
    · rw [hm _ (by omega), hτ]
      simp -dsimp -implicitDefEqProofs (disch := omega) only [up2_e, up2_r, pk_us]
    · rw [pk_us, ixN (by omega)] at hi
      rw [hm _ (by omega), hm _ (by omega), hm _ (by omega), hm _ (by omega), hτ]
      by_cases c : i = nT
      · subst c
        rw [← hτ]
        refine ⟨?_, ?_, ?_, fun j hj => ?_⟩
        · rw [pk_un (by omega), t2.1, hτ]; simp -dsimp -implicitDefEqProofs (disch := omega) only [up2_e, up2_r, pk_us]
        · rw [pk_un (by omega), t2.2.1, hτ]; simp -dsimp -implicitDefEqProofs (disch := omega) only [up2_e, up2_r, pk_us]
        · rw [pk_un (by omega), t2.2.2, hτ]; simp -dsimp -implicitDefEqProofs (disch := omega) only [up2_e, up2_r, pk_us]
        · have z : btI (τ (s + 9) i) j = false := by
            rw [hτ]; simp -dsimp -implicitDefEqProofs (disch := omega) only [up2_e, up2_r, pk_us, b_zero]
          rw [z, pk_us, ixN (by omega)]
          by_cases c2 : j < i + 1
          · rw [pk_un (by omega), (t3 j (by omega)).1, n01, Bool.and_false]
          · rw [decide_eq_false c2, Bool.false_and]
      · obtain ⟨w1, w2, w3, w4⟩ := hT.2 i (by rw [e3, ixN (by omega)]; omega)
        rw [← hτ]
        refine ⟨?_, ?_, ?_, fun j hj => ?_⟩
        · rw [pk_un (by omega), t1 _ (by omega), hτ]; simp -dsimp -implicitDefEqProofs (disch := omega) only [up2_e, up2_r, pk_un, w1]
        · rw [pk_un (by omega), t1 _ (by omega), hτ]; simp -dsimp -implicitDefEqProofs (disch := omega) only [up2_e, up2_r, pk_un, w2]
        · rw [pk_un (by omega), t1 _ (by omega), hτ]; simp -dsimp -implicitDefEqProofs (disch := omega) only [up2_e, up2_r, pk_un, w3]
        · have w5 := w4 j hj
          rw [e3, ixN (by omega)] at w5
          have z : τ (s + 9) i = σ (s + 9) i := by rw [hτ]; simp -dsimp -implicitDefEqProofs (disch := omega) only [up2_e, up2_r, pk_un]
          rw [z, w5, pk_us, ixN (by omega)]
          by_cases c2 : j < nT
          · rw [pk_un (by omega), t4 i j c (by omega) (by omega) (by omega), decide_eq_true c2, decide_eq_true (by omega : j < nT + 1)]
          · rw [decide_eq_false c2, Bool.false_and]
            by_cases c3 : j = nT
            · subst c3
              rw [pk_un (by omega), (t3 i (by omega)).2, n01, Bool.and_false]
            · rw [decide_eq_false (by omega : ¬ j < nT + 1), Bool.false_and]
  · exact ReR_c' hR (fun a q => by rw [hm a (by omega), hτ]; simp -dsimp -implicitDefEqProofs (disch := omega) only [up2_r])
theorem mo_table {σ : Mm} {nT x p o : Nat} (e3 : σ 299 3 = nI nT) (l3 : nT < 6) (hx : x ≤ 255) (hp : 1 ≤ p) (hp2 : p ≤ 30) (ho : o ≤ 29) : f_Mo_table 298 (nI x) (nI p) (nI o) σ = some (nI nT, up2 (zmP (up2 (up2 (up2 σ 299 (132 + 3 * nT) (nI x)) 299 (132 + 3 * nT + 1) (nI p)) 299 (132 + 3 * nT + 2) (nI o)) nT 6) 299 3 (nI (nT + 1))) := by
  have q := mo_table_loop (σ := up2 (up2 (up2 σ 299 (132 + 3 * nT) (nI x)) 299 (132 + 3 * nT + 1) (nI p)) 299 (132 + 3 * nT + 2) (nI o)) (by simp -dsimp -implicitDefEqProofs (disch := omega) only [up2_e, up2_r, pk_un, e3]) l3
  simp -dsimp -implicitDefEqProofs (disch := omega) only [f_Mo_table, ↓l_m1, l_0, l_1, l_2, l_3, l_4, l_5, l_6, l_7, l_8, l_9, l_10, l_11, l_12, l_13, l_14, l_15, l_16, l_17, l_20, l_21, l_22, l_23, l_24, l_28, l_29, l_30, l_31, l_32, l_40, l_41, l_48, l_57, l_60, l_62, l_63, l_84, l_96, l_97, l_99, l_100, l_122, l_132, l_144, l_150, l_186, l_255, l_256, l_288, l_300, l_522, l_634, l_999, l_5242, l_5410, l_5420, l_5520, l_5528, l_9999, l_65535, l_65536, l_100000, l_16777215, l_252645135, l_858993459, l_1431655765, ↓reduceIte, Nat.reduceAdd, Nat.reduceMul, Nat.reduceSub, ixN, inbN, leT, leF, ltT, ltF, eqT, eqF, eqM, eqNone, addN, mulN, subN, m1N, ↓to_bnd, bnd_some, ↓to_nmT, nmT_eq, up2_r, up2_e, pk_us, pk_un, b2_t, b2_f, b2_0, b2_1, zB_1, zB_0, zB_b2, not_true_eq_false, not_false_eq_true, r_Mo, Nat.add_zero, Nat.add_sub_cancel, within_R, within_N, in_R, in_N, inN_yes, inR_yes, inR_pred, orNone_nn, nn_m, nn_N, f_Ct_isDay, f_Ct_isThing, f_Ct_isKind, f_Ct_isRoomSeat, f_Ct_isOffice, f_Ct_isTable, f_Ct_isPaper, f_Ct_isRule, f_Ct_isDecision, f_Mo_isOffice, f_Mo_isTable, f_Mo_isPaper, f_Mo_isRule, f_Mo_isDecision, f_Mo_isDay, f_Mo_isThing, f_Mo_paperOf, f_Mo_set, e3, q]
theorem p_table : Pr_table Inv := by
  intro σ a1 a2 a3 hI
  obtain ⟨s, g, hs, bs, r0, hg, hV, hS, hR⟩ := Inv_open hI
  obtain ⟨nT, e3, l3, -⟩ := cnt_of hV.2.2.1.1
  have hT := hS.2.2.1
  have o3 := hT.1
  rw [e3] at o3
  rcases inR_cases a1 0 255 (by omega) (by omega) with ⟨x, -, hx, rfl⟩ | c1
  · rcases inR_cases a2 1 30 (by omega) (by omega) with ⟨p, hp, hp2, rfl⟩ | c2
    · rcases inR_cases a3 0 29 (by omega) (by omega) with ⟨o, -, ho, rfl⟩ | c3
      · by_cases cT : nT = 6
        · refine ⟨-1000000003, σ, σ, ?_, ?_, hI⟩
          · simp -dsimp -implicitDefEqProofs (disch := omega) only [f_Ct_table_31, f_Ct_table, f_Tb_add, ↓l_m1, l_0, l_1, l_2, l_3, l_4, l_5, l_6, l_7, l_8, l_9, l_10, l_11, l_12, l_13, l_14, l_15, l_16, l_17, l_20, l_21, l_22, l_23, l_24, l_28, l_29, l_30, l_31, l_32, l_40, l_41, l_48, l_57, l_60, l_62, l_63, l_84, l_96, l_97, l_99, l_100, l_122, l_132, l_144, l_150, l_186, l_255, l_256, l_288, l_300, l_522, l_634, l_999, l_5242, l_5410, l_5420, l_5520, l_5528, l_9999, l_65535, l_65536, l_100000, l_16777215, l_252645135, l_858993459, l_1431655765, ↓reduceIte, Nat.reduceAdd, Nat.reduceMul, Nat.reduceSub, ixN, inbN, leT, leF, ltT, ltF, eqT, eqF, eqM, eqNone, addN, mulN, subN, m1N, ↓to_bnd, bnd_some, ↓to_nmT, nmT_eq, up2_r, up2_e, pk_us, pk_un, b2_t, b2_f, b2_0, b2_1, zB_1, zB_0, zB_b2, not_true_eq_false, not_false_eq_true, r_Mo, Nat.add_zero, Nat.add_sub_cancel, within_R, within_N, in_R, in_N, inN_yes, inR_yes, inR_pred, orNone_nn, nn_m, nn_N, f_Ct_isDay, f_Ct_isThing, f_Ct_isKind, f_Ct_isRoomSeat, f_Ct_isOffice, f_Ct_isTable, f_Ct_isPaper, f_Ct_isRule, f_Ct_isDecision, f_Mo_isOffice, f_Mo_isTable, f_Mo_isPaper, f_Mo_isRule, f_Mo_isDecision, f_Mo_isDay, f_Mo_isThing, f_Mo_paperOf, f_Mo_set, r0, r_s1 bs, o3]
          · simp -dsimp -implicitDefEqProofs (disch := omega) only [f_Mo_table_31, f_Mo_table_93, f_Mo_table, ↓l_m1, l_0, l_1, l_2, l_3, l_4, l_5, l_6, l_7, l_8, l_9, l_10, l_11, l_12, l_13, l_14, l_15, l_16, l_17, l_20, l_21, l_22, l_23, l_24, l_28, l_29, l_30, l_31, l_32, l_40, l_41, l_48, l_57, l_60, l_62, l_63, l_84, l_96, l_97, l_99, l_100, l_122, l_132, l_144, l_150, l_186, l_255, l_256, l_288, l_300, l_522, l_634, l_999, l_5242, l_5410, l_5420, l_5520, l_5528, l_9999, l_65535, l_65536, l_100000, l_16777215, l_252645135, l_858993459, l_1431655765, ↓reduceIte, Nat.reduceAdd, Nat.reduceMul, Nat.reduceSub, ixN, inbN, leT, leF, ltT, ltF, eqT, eqF, eqM, eqNone, addN, mulN, subN, m1N, ↓to_bnd, bnd_some, ↓to_nmT, nmT_eq, up2_r, up2_e, pk_us, pk_un, b2_t, b2_f, b2_0, b2_1, zB_1, zB_0, zB_b2, not_true_eq_false, not_false_eq_true, r_Mo, Nat.add_zero, Nat.add_sub_cancel, within_R, within_N, in_R, in_N, inN_yes, inR_yes, inR_pred, orNone_nn, nn_m, nn_N, f_Ct_isDay, f_Ct_isThing, f_Ct_isKind, f_Ct_isRoomSeat, f_Ct_isOffice, f_Ct_isTable, f_Ct_isPaper, f_Ct_isRule, f_Ct_isDecision, f_Mo_isOffice, f_Mo_isTable, f_Mo_isPaper, f_Mo_isRule, f_Mo_isDecision, f_Mo_isDay, f_Mo_isThing, f_Mo_paperOf, f_Mo_set, hg, e3]
        · refine ⟨nI nT, up2 (up2 (up2 (up2 (up2 σ (s + 6) nT (nI x)) (s + 7) nT (nI p)) (s + 8) nT (nI o)) (s + 9) nT (nI 0)) (s + 5) 4 (nI (nT + 1)), _, ?_, ?_, table_inv hs hV hS hR hg e3 (by omega) hp hp2 ho (x := nI x) rfl⟩
          · simp -dsimp -implicitDefEqProofs (disch := omega) only [f_Ct_table_31, f_Ct_table, f_Tb_add, ↓l_m1, l_0, l_1, l_2, l_3, l_4, l_5, l_6, l_7, l_8, l_9, l_10, l_11, l_12, l_13, l_14, l_15, l_16, l_17, l_20, l_21, l_22, l_23, l_24, l_28, l_29, l_30, l_31, l_32, l_40, l_41, l_48, l_57, l_60, l_62, l_63, l_84, l_96, l_97, l_99, l_100, l_122, l_132, l_144, l_150, l_186, l_255, l_256, l_288, l_300, l_522, l_634, l_999, l_5242, l_5410, l_5420, l_5520, l_5528, l_9999, l_65535, l_65536, l_100000, l_16777215, l_252645135, l_858993459, l_1431655765, ↓reduceIte, Nat.reduceAdd, Nat.reduceMul, Nat.reduceSub, ixN, inbN, leT, leF, ltT, ltF, eqT, eqF, eqM, eqNone, addN, mulN, subN, m1N, ↓to_bnd, bnd_some, ↓to_nmT, nmT_eq, up2_r, up2_e, pk_us, pk_un, b2_t, b2_f, b2_0, b2_1, zB_1, zB_0, zB_b2, not_true_eq_false, not_false_eq_true, r_Mo, Nat.add_zero, Nat.add_sub_cancel, within_R, within_N, in_R, in_N, inN_yes, inR_yes, inR_pred, orNone_nn, nn_m, nn_N, f_Ct_isDay, f_Ct_isThing, f_Ct_isKind, f_Ct_isRoomSeat, f_Ct_isOffice, f_Ct_isTable, f_Ct_isPaper, f_Ct_isRule, f_Ct_isDecision, f_Mo_isOffice, f_Mo_isTable, f_Mo_isPaper, f_Mo_isRule, f_Mo_isDecision, f_Mo_isDay, f_Mo_isThing, f_Mo_paperOf, f_Mo_set, r0, r_s1 bs, r_t0 bs, r_t1 bs, r_t2 bs, r_t3 bs, o3]
          · exact mo_table (by simp -dsimp -implicitDefEqProofs (disch := omega) only [up2_e, up2_r, hg, e3]) (by omega) hx hp hp2 ho
      · refine ⟨-1000000001, σ, σ, ?_, ?_, hI⟩
        · simp -dsimp -implicitDefEqProofs (disch := omega) only [f_Ct_table_31, f_Ct_table, ↓l_m1, l_0, l_1, l_2, l_3, l_4, l_5, l_6, l_7, l_8, l_9, l_10, l_11, l_12, l_13, l_14, l_15, l_16, l_17, l_20, l_21, l_22, l_23, l_24, l_28, l_29, l_30, l_31, l_32, l_40, l_41, l_48, l_57, l_60, l_62, l_63, l_84, l_96, l_97, l_99, l_100, l_122, l_132, l_144, l_150, l_186, l_255, l_256, l_288, l_300, l_522, l_634, l_999, l_5242, l_5410, l_5420, l_5520, l_5528, l_9999, l_65535, l_65536, l_100000, l_16777215, l_252645135, l_858993459, l_1431655765, ↓reduceIte, Nat.reduceAdd, Nat.reduceMul, Nat.reduceSub, ixN, inbN, leT, leF, ltT, ltF, eqT, eqF, eqM, eqNone, addN, mulN, subN, m1N, ↓to_bnd, bnd_some, ↓to_nmT, nmT_eq, up2_r, up2_e, pk_us, pk_un, b2_t, b2_f, b2_0, b2_1, zB_1, zB_0, zB_b2, not_true_eq_false, not_false_eq_true, r_Mo, Nat.add_zero, Nat.add_sub_cancel, within_R, within_N, in_R, in_N, inN_yes, inR_yes, inR_pred, orNone_nn, nn_m, nn_N, f_Ct_isDay, f_Ct_isThing, f_Ct_isKind, f_Ct_isRoomSeat, f_Ct_isOffice, f_Ct_isTable, f_Ct_isPaper, f_Ct_isRule, f_Ct_isDecision, f_Mo_isOffice, f_Mo_isTable, f_Mo_isPaper, f_Mo_isRule, f_Mo_isDecision, f_Mo_isDay, f_Mo_isThing, f_Mo_paperOf, f_Mo_set, c3]
        · simp -dsimp -implicitDefEqProofs (disch := omega) only [f_Mo_table_31, f_Mo_table_93, f_Mo_table, ↓l_m1, l_0, l_1, l_2, l_3, l_4, l_5, l_6, l_7, l_8, l_9, l_10, l_11, l_12, l_13, l_14, l_15, l_16, l_17, l_20, l_21, l_22, l_23, l_24, l_28, l_29, l_30, l_31, l_32, l_40, l_41, l_48, l_57, l_60, l_62, l_63, l_84, l_96, l_97, l_99, l_100, l_122, l_132, l_144, l_150, l_186, l_255, l_256, l_288, l_300, l_522, l_634, l_999, l_5242, l_5410, l_5420, l_5520, l_5528, l_9999, l_65535, l_65536, l_100000, l_16777215, l_252645135, l_858993459, l_1431655765, ↓reduceIte, Nat.reduceAdd, Nat.reduceMul, Nat.reduceSub, ixN, inbN, leT, leF, ltT, ltF, eqT, eqF, eqM, eqNone, addN, mulN, subN, m1N, ↓to_bnd, bnd_some, ↓to_nmT, nmT_eq, up2_r, up2_e, pk_us, pk_un, b2_t, b2_f, b2_0, b2_1, zB_1, zB_0, zB_b2, not_true_eq_false, not_false_eq_true, r_Mo, Nat.add_zero, Nat.add_sub_cancel, within_R, within_N, in_R, in_N, inN_yes, inR_yes, inR_pred, orNone_nn, nn_m, nn_N, f_Ct_isDay, f_Ct_isThing, f_Ct_isKind, f_Ct_isRoomSeat, f_Ct_isOffice, f_Ct_isTable, f_Ct_isPaper, f_Ct_isRule, f_Ct_isDecision, f_Mo_isOffice, f_Mo_isTable, f_Mo_isPaper, f_Mo_isRule, f_Mo_isDecision, f_Mo_isDay, f_Mo_isThing, f_Mo_paperOf, f_Mo_set, c3]
    · refine ⟨-1000000001, σ, σ, ?_, ?_, hI⟩
      · simp -dsimp -implicitDefEqProofs (disch := omega) only [f_Ct_table_31, f_Ct_table, ↓l_m1, l_0, l_1, l_2, l_3, l_4, l_5, l_6, l_7, l_8, l_9, l_10, l_11, l_12, l_13, l_14, l_15, l_16, l_17, l_20, l_21, l_22, l_23, l_24, l_28, l_29, l_30, l_31, l_32, l_40, l_41, l_48, l_57, l_60, l_62, l_63, l_84, l_96, l_97, l_99, l_100, l_122, l_132, l_144, l_150, l_186, l_255, l_256, l_288, l_300, l_522, l_634, l_999, l_5242, l_5410, l_5420, l_5520, l_5528, l_9999, l_65535, l_65536, l_100000, l_16777215, l_252645135, l_858993459, l_1431655765, ↓reduceIte, Nat.reduceAdd, Nat.reduceMul, Nat.reduceSub, ixN, inbN, leT, leF, ltT, ltF, eqT, eqF, eqM, eqNone, addN, mulN, subN, m1N, ↓to_bnd, bnd_some, ↓to_nmT, nmT_eq, up2_r, up2_e, pk_us, pk_un, b2_t, b2_f, b2_0, b2_1, zB_1, zB_0, zB_b2, not_true_eq_false, not_false_eq_true, r_Mo, Nat.add_zero, Nat.add_sub_cancel, within_R, within_N, in_R, in_N, inN_yes, inR_yes, inR_pred, orNone_nn, nn_m, nn_N, f_Ct_isDay, f_Ct_isThing, f_Ct_isKind, f_Ct_isRoomSeat, f_Ct_isOffice, f_Ct_isTable, f_Ct_isPaper, f_Ct_isRule, f_Ct_isDecision, f_Mo_isOffice, f_Mo_isTable, f_Mo_isPaper, f_Mo_isRule, f_Mo_isDecision, f_Mo_isDay, f_Mo_isThing, f_Mo_paperOf, f_Mo_set, c2]
      · simp -dsimp -implicitDefEqProofs (disch := omega) only [f_Mo_table_31, f_Mo_table_93, f_Mo_table, ↓l_m1, l_0, l_1, l_2, l_3, l_4, l_5, l_6, l_7, l_8, l_9, l_10, l_11, l_12, l_13, l_14, l_15, l_16, l_17, l_20, l_21, l_22, l_23, l_24, l_28, l_29, l_30, l_31, l_32, l_40, l_41, l_48, l_57, l_60, l_62, l_63, l_84, l_96, l_97, l_99, l_100, l_122, l_132, l_144, l_150, l_186, l_255, l_256, l_288, l_300, l_522, l_634, l_999, l_5242, l_5410, l_5420, l_5520, l_5528, l_9999, l_65535, l_65536, l_100000, l_16777215, l_252645135, l_858993459, l_1431655765, ↓reduceIte, Nat.reduceAdd, Nat.reduceMul, Nat.reduceSub, ixN, inbN, leT, leF, ltT, ltF, eqT, eqF, eqM, eqNone, addN, mulN, subN, m1N, ↓to_bnd, bnd_some, ↓to_nmT, nmT_eq, up2_r, up2_e, pk_us, pk_un, b2_t, b2_f, b2_0, b2_1, zB_1, zB_0, zB_b2, not_true_eq_false, not_false_eq_true, r_Mo, Nat.add_zero, Nat.add_sub_cancel, within_R, within_N, in_R, in_N, inN_yes, inR_yes, inR_pred, orNone_nn, nn_m, nn_N, f_Ct_isDay, f_Ct_isThing, f_Ct_isKind, f_Ct_isRoomSeat, f_Ct_isOffice, f_Ct_isTable, f_Ct_isPaper, f_Ct_isRule, f_Ct_isDecision, f_Mo_isOffice, f_Mo_isTable, f_Mo_isPaper, f_Mo_isRule, f_Mo_isDecision, f_Mo_isDay, f_Mo_isThing, f_Mo_paperOf, f_Mo_set, c2]
  · refine ⟨-1000000001, σ, σ, ?_, ?_, hI⟩
    · simp -dsimp -implicitDefEqProofs (disch := omega) only [f_Ct_table_31, f_Ct_table, ↓l_m1, l_0, l_1, l_2, l_3, l_4, l_5, l_6, l_7, l_8, l_9, l_10, l_11, l_12, l_13, l_14, l_15, l_16, l_17, l_20, l_21, l_22, l_23, l_24, l_28, l_29, l_30, l_31, l_32, l_40, l_41, l_48, l_57, l_60, l_62, l_63, l_84, l_96, l_97, l_99, l_100, l_122, l_132, l_144, l_150, l_186, l_255, l_256, l_288, l_300, l_522, l_634, l_999, l_5242, l_5410, l_5420, l_5520, l_5528, l_9999, l_65535, l_65536, l_100000, l_16777215, l_252645135, l_858993459, l_1431655765, ↓reduceIte, Nat.reduceAdd, Nat.reduceMul, Nat.reduceSub, ixN, inbN, leT, leF, ltT, ltF, eqT, eqF, eqM, eqNone, addN, mulN, subN, m1N, ↓to_bnd, bnd_some, ↓to_nmT, nmT_eq, up2_r, up2_e, pk_us, pk_un, b2_t, b2_f, b2_0, b2_1, zB_1, zB_0, zB_b2, not_true_eq_false, not_false_eq_true, r_Mo, Nat.add_zero, Nat.add_sub_cancel, within_R, within_N, in_R, in_N, inN_yes, inR_yes, inR_pred, orNone_nn, nn_m, nn_N, f_Ct_isDay, f_Ct_isThing, f_Ct_isKind, f_Ct_isRoomSeat, f_Ct_isOffice, f_Ct_isTable, f_Ct_isPaper, f_Ct_isRule, f_Ct_isDecision, f_Mo_isOffice, f_Mo_isTable, f_Mo_isPaper, f_Mo_isRule, f_Mo_isDecision, f_Mo_isDay, f_Mo_isThing, f_Mo_paperOf, f_Mo_set, c1]
    · simp -dsimp -implicitDefEqProofs (disch := omega) only [f_Mo_table_31, f_Mo_table_93, f_Mo_table, ↓l_m1, l_0, l_1, l_2, l_3, l_4, l_5, l_6, l_7, l_8, l_9, l_10, l_11, l_12, l_13, l_14, l_15, l_16, l_17, l_20, l_21, l_22, l_23, l_24, l_28, l_29, l_30, l_31, l_32, l_40, l_41, l_48, l_57, l_60, l_62, l_63, l_84, l_96, l_97, l_99, l_100, l_122, l_132, l_144, l_150, l_186, l_255, l_256, l_288, l_300, l_522, l_634, l_999, l_5242, l_5410, l_5420, l_5520, l_5528, l_9999, l_65535, l_65536, l_100000, l_16777215, l_252645135, l_858993459, l_1431655765, ↓reduceIte, Nat.reduceAdd, Nat.reduceMul, Nat.reduceSub, ixN, inbN, leT, leF, ltT, ltF, eqT, eqF, eqM, eqNone, addN, mulN, subN, m1N, ↓to_bnd, bnd_some, ↓to_nmT, nmT_eq, up2_r, up2_e, pk_us, pk_un, b2_t, b2_f, b2_0, b2_1, zB_1, zB_0, zB_b2, not_true_eq_false, not_false_eq_true, r_Mo, Nat.add_zero, Nat.add_sub_cancel, within_R, within_N, in_R, in_N, inN_yes, inR_yes, inR_pred, orNone_nn, nn_m, nn_N, f_Ct_isDay, f_Ct_isThing, f_Ct_isKind, f_Ct_isRoomSeat, f_Ct_isOffice, f_Ct_isTable, f_Ct_isPaper, f_Ct_isRule, f_Ct_isDecision, f_Mo_isOffice, f_Mo_isTable, f_Mo_isPaper, f_Mo_isRule, f_Mo_isDecision, f_Mo_isDay, f_Mo_isThing, f_Mo_paperOf, f_Mo_set, c1]
