/-! days go by -/
def silB (g : Nat → Int32) (p n : Nat) : Bool := underB (ix (g (186 + 14 * p))) 2 && (uwB g p && (decide (g (186 + 14 * p + 8) = nI 0) && (!decide (dueF g p n 3 = nI 0) && (decide (dueF g p n 3 ≤ g 0 - g (186 + 14 * p + 5)) && (!decide (g 6 = nI 24) && inN (dueF g p n 0) (ix (g 3)))))))
def silG (g : Nat → Int32) (p n : Nat) : Nat → Int32 := if silB g p n = true then decG (comesG g p n (dueF g p n 0) m1I (nI 1)) p (g (186 + 14 * p + 4)) (nI 0) else g
theorem VG_mono {D D' : Nat} {g : Nat → Int32} (h : VG D g) (hD : D ≤ D') : VG D' g := ⟨⟨⟨h.1.1.1, by have := h.1.1.2; omega⟩, h.1.2⟩, h.2⟩
/-- what a silence needs and gives -/
theorem sil_open {D p n nT : Nat} {g : Nat → Int32} (hV : VG D g) (hD : D ≤ 1100) (e5 : g 5 = nI n) (l5 : n ≤ 16) (e3 : g 3 = nI nT) (l3 : nT ≤ 6) (hp : p < ix (g 4)) (h : silB g p n = true) : ∃ t n6, t < nT ∧ dueF g p n 0 = nI t ∧ uwB g p = true ∧ g 6 = nI n6 ∧ n6 < 24 ∧ VG D (comesG g p n (nI t) m1I (nI 1)) := by
  obtain ⟨n6, e6, l6, g6⟩ := cnt_of hV.2.2.2.2.2.1.1
  have l4 := hV.2.2.2.1.1.2
  unfold silB at h
  rw [Bool.and_eq_true, Bool.and_eq_true, Bool.and_eq_true, Bool.and_eq_true, Bool.and_eq_true, Bool.and_eq_true] at h
  obtain ⟨-, uw, -, -, -, hn, ht⟩ := h
  rw [e3, ixN (by omega)] at ht
  obtain ⟨t, ht, et⟩ := inN_of (by omega) ht
  have h24 : n6 < 24 := by
    rcases Nat.lt_or_ge n6 24 with c | c
    · exact c
    · rw [e6, show n6 = 24 by omega, decide_eq_true rfl] at hn; cases hn
  refine ⟨t, n6, ht, et, uw, e6, h24, ?_⟩
  exact VG_Pp hV (by rw [comesG_o g p n _ _ _ (by omega)]; exact Nat.le_refl _) (fun j q => comesG_o g p n _ _ _ (by omega)) ⟨cntG_c hV.2.2.2.1.1 (comesG_o g p n _ _ _ (by omega)), fun i hi => by
    rw [comesG_o g p n _ _ _ (by omega)] at hi
    rw [comesG_o g p n _ _ _ (by omega)]
    by_cases c : i = p
    · rw [c]; exact come_V hV hD e5 l5 e3 l3 hp uw ht (Or.inl rfl) (Or.inr rfl)
    · exact PV_c (hV.2.2.2.1.2 i hi) (Nat.le_refl _) (fun j h1 h2 => comesG_o g p n _ _ _ (by omega))⟩
theorem silG_o {D p n nT : Nat} {g : Nat → Int32} (hV : VG D g) (hp : p < ix (g 4)) {j : Nat} (h6 : j ≠ 6) (h1 : j < 186 + 14 * p + 9 ∨ 200 + 14 * p ≤ j) (h2 : j < 5242 ∨ 5410 ≤ j) : silG g p n j = g j := by
  have l6 := hV.2.2.2.2.2.1.1.2
  have l4 := hV.2.2.2.1.1.2
  unfold silG
  split
  · next c =>
    have h24 : ix (g 6) < 24 := by
      unfold silB at c
      rw [Bool.and_eq_true, Bool.and_eq_true, Bool.and_eq_true, Bool.and_eq_true, Bool.and_eq_true, Bool.and_eq_true] at c
      obtain ⟨-, -, -, -, -, hn, -⟩ := c
      rcases Nat.lt_or_ge (ix (g 6)) 24 with q | q
      · exact q
      · rw [hV.2.2.2.2.2.1.1.1, show ix (g 6) = 24 by omega, decide_eq_true rfl] at hn; cases hn
    have e6 : ix (comesG g p n (dueF g p n 0) m1I (nI 1) 6) = ix (g 6) := by rw [comesG_o g p n _ _ _ (by omega)]
    rw [decG_o _ _ _ _ h6 (by rw [e6]; omega), comesG_o g p n _ _ _ h1]
  · rfl
theorem sil_V {D p n nT : Nat} {g : Nat → Int32} (hV : VG D g) (hD : D ≤ 1100) (e5 : g 5 = nI n) (l5 : n ≤ 16) (e3 : g 3 = nI nT) (l3 : nT ≤ 6) (hp : p < ix (g 4)) : VG D (silG g p n) := by
  unfold silG
  split
  · next c =>
    obtain ⟨t, n6, ht, et, uw, e6, l6, v'⟩ := sil_open hV hD e5 l5 e3 l3 hp c
    rw [et]
    exact dec_V (t := t) v' (by rw [comesG_o g p n _ _ _ (by omega)]; exact e6) l6 (by rw [comesG_o g p n _ _ _ (by omega)]; exact hp)
  · exact hV
theorem c_settle {σ : Mm} {s D p n nT : Nat} {g : Nat → Int32} (bs : BS s) (hV : VG D g) (hD : D ≤ 1100) (hS : StR σ s g) (e5 : g 5 = nI n) (l5 : n ≤ 16) (e3 : g 3 = nI nT) (l3 : nT ≤ 6) (hp : p < ix (g 4)) : ∃ σ', f_St_settleBySilence s (nI p) σ = some σ' ∧ StR σ' s (silG g p n) ∧ ∀ a, ¬ (s ≤ a ∧ a < s + 84) → σ' a = σ a := by
  have rv : ∀ r, r < n → RV g r := fun r hr => hV.2.2.2.2.1.2 r (by rw [e5, ixN (by omega)]; exact hr)
  have hU := hS.2.2.2.2.1
  have l4 := hV.2.2.2.1.1.2
  have pv := hV.2.2.2.1.2 p hp
  have pr := hS.2.2.2.1.2.1 p hp
  obtain ⟨n6, e6, l6, dv, o6, hDc⟩ := dc_open hV hS
  obtain ⟨k, hk, ek⟩ := pv.1
  have q0 := pr.1
  rw [ek] at q0
  have q8 := pr.2.2.2.2.2.2.2.2.1
  have q4 := pr.2.2.2.2.1
  have ck := c_isOfKind (σ := σ) (x := s + 28 + p) (w := 2) q0 hk (by omega)
  have cu := c_isUnderWay (x := s + 28 + p) pv hV.2.2.1.1.2 pr
  have cc := c_countingRules bs e5 l5 rv hU hS.1 (show p < 24 by omega) pv pr
  have d3 := c_dueBy (h := 3) bs e5 l5 rv hU pv pr (by omega)
  have d0 := c_dueBy (h := 0) bs e5 l5 rv hU pv pr (by omega)
  obtain ⟨S, hSl, eS⟩ := due_N (h := 3) l5 rv pv (by omega) (by omega)
  obtain ⟨T, hTl, eT⟩ := due_N (h := 0) l5 rv pv (by omega) (by omega)
  have o3 := hS.2.2.1.1
  rw [e3] at o3
  have o8 := hS.1.1
  have skip : silB g p n = false → f_St_settleBySilence s (nI p) σ = some σ → ∃ σ', f_St_settleBySilence s (nI p) σ = some σ' ∧ StR σ' s (silG g p n) ∧ ∀ a, ¬ (s ≤ a ∧ a < s + 84) → σ' a = σ a := fun h e => ⟨σ, e, by unfold silG; rw [if_neg (by rw [h]; decide)]; exact hS, fun _ _ => rfl⟩
  cases c1 : underB k 2
  · rw [c1] at ck
    refine skip (by unfold silB; rw [ek, ixN (by omega), c1]; rfl) ?_
    simp -dsimp -implicitDefEqProofs (disch := omega) only [f_St_settleBySilence_29, f_St_settleBySilence_64, f_St_settleBySilence_96, f_St_settleBySilence, ↓l_m1, l_0, l_1, l_2, l_3, l_4, l_5, l_6, l_7, l_8, l_9, l_10, l_11, l_12, l_13, l_14, l_15, l_16, l_17, l_20, l_21, l_22, l_23, l_24, l_28, l_29, l_30, l_31, l_32, l_40, l_41, l_48, l_57, l_60, l_62, l_63, l_84, l_96, l_97, l_99, l_100, l_122, l_132, l_144, l_150, l_186, l_255, l_256, l_288, l_300, l_522, l_634, l_999, l_5242, l_5410, l_5420, l_5520, l_5528, l_9999, l_65535, l_65536, l_100000, l_16777215, l_252645135, l_858993459, l_1431655765, ↓reduceIte, Nat.reduceAdd, Nat.reduceMul, Nat.reduceSub, ixN, inbN, leT, leF, ltT, ltF, eqT, eqF, eqM, eqNone, addN, mulN, subN, m1N, ↓to_bnd, bnd_some, ↓to_nmT, nmT_eq, up2_r, up2_e, pk_us, pk_un, b2_t, b2_f, b2_0, b2_1, zB_1, zB_0, zB_b2, not_true_eq_false, not_false_eq_true, r_Mo, Nat.add_zero, Nat.add_sub_cancel, within_R, within_N, in_R, in_N, inN_yes, inR_yes, inR_pred, orNone_nn, nn_m, nn_N, f_Ct_isDay, f_Ct_isThing, f_Ct_isKind, f_Ct_isRoomSeat, f_Ct_isOffice, f_Ct_isTable, f_Ct_isPaper, f_Ct_isRule, f_Ct_isDecision, f_Mo_isOffice, f_Mo_isTable, f_Mo_isPaper, f_Mo_isRule, f_Mo_isDecision, f_Mo_isDay, f_Mo_isThing, f_Mo_paperOf, f_Mo_set, r_s2 bs, r_p bs, ck]
  · rw [c1] at ck
    cases c2 : uwB g p
    · rw [c2] at cu
      refine skip (by unfold silB; rw [c2, Bool.false_and, Bool.and_false]) ?_
      simp -dsimp -implicitDefEqProofs (disch := omega) only [f_St_settleBySilence_29, f_St_settleBySilence_64, f_St_settleBySilence_96, f_St_settleBySilence, ↓l_m1, l_0, l_1, l_2, l_3, l_4, l_5, l_6, l_7, l_8, l_9, l_10, l_11, l_12, l_13, l_14, l_15, l_16, l_17, l_20, l_21, l_22, l_23, l_24, l_28, l_29, l_30, l_31, l_32, l_40, l_41, l_48, l_57, l_60, l_62, l_63, l_84, l_96, l_97, l_99, l_100, l_122, l_132, l_144, l_150, l_186, l_255, l_256, l_288, l_300, l_522, l_634, l_999, l_5242, l_5410, l_5420, l_5520, l_5528, l_9999, l_65535, l_65536, l_100000, l_16777215, l_252645135, l_858993459, l_1431655765, ↓reduceIte, Nat.reduceAdd, Nat.reduceMul, Nat.reduceSub, ixN, inbN, leT, leF, ltT, ltF, eqT, eqF, eqM, eqNone, addN, mulN, subN, m1N, ↓to_bnd, bnd_some, ↓to_nmT, nmT_eq, up2_r, up2_e, pk_us, pk_un, b2_t, b2_f, b2_0, b2_1, zB_1, zB_0, zB_b2, not_true_eq_false, not_false_eq_true, r_Mo, Nat.add_zero, Nat.add_sub_cancel, within_R, within_N, in_R, in_N, inN_yes, inR_yes, inR_pred, orNone_nn, nn_m, nn_N, f_Ct_isDay, f_Ct_isThing, f_Ct_isKind, f_Ct_isRoomSeat, f_Ct_isOffice, f_Ct_isTable, f_Ct_isPaper, f_Ct_isRule, f_Ct_isDecision, f_Mo_isOffice, f_Mo_isTable, f_Mo_isPaper, f_Mo_isRule, f_Mo_isDecision, f_Mo_isDay, f_Mo_isThing, f_Mo_paperOf, f_Mo_set, r_s2 bs, r_p bs, ck, cu]
    · rw [c2] at cu
      obtain ⟨⟨d, hd, u5⟩, u6, u9, u10, u11, u12⟩ := uwB_inv pv hV.2.2.1.1.2 c2
      have q5 := pr.2.2.2.2.2.1
      rw [u5, nn_N (by omega)] at q5
      by_cases c3 : g (186 + 14 * p + 8) = nI 0
      · rw [c3] at q8
        rw [eS] at d3
        rw [eT] at d0
        by_cases c4 : S = 0
        · subst c4
          refine skip (by unfold silB; rw [eS, decide_eq_true rfl, Bool.not_true, Bool.false_and, Bool.and_false, Bool.and_false, Bool.and_false]) ?_
          simp -dsimp -implicitDefEqProofs (disch := omega) only [f_St_settleBySilence_29, f_St_settleBySilence_64, f_St_settleBySilence_96, f_St_settleBySilence, ↓l_m1, l_0, l_1, l_2, l_3, l_4, l_5, l_6, l_7, l_8, l_9, l_10, l_11, l_12, l_13, l_14, l_15, l_16, l_17, l_20, l_21, l_22, l_23, l_24, l_28, l_29, l_30, l_31, l_32, l_40, l_41, l_48, l_57, l_60, l_62, l_63, l_84, l_96, l_97, l_99, l_100, l_122, l_132, l_144, l_150, l_186, l_255, l_256, l_288, l_300, l_522, l_634, l_999, l_5242, l_5410, l_5420, l_5520, l_5528, l_9999, l_65535, l_65536, l_100000, l_16777215, l_252645135, l_858993459, l_1431655765, ↓reduceIte, Nat.reduceAdd, Nat.reduceMul, Nat.reduceSub, ixN, inbN, leT, leF, ltT, ltF, eqT, eqF, eqM, eqNone, addN, mulN, subN, m1N, ↓to_bnd, bnd_some, ↓to_nmT, nmT_eq, up2_r, up2_e, pk_us, pk_un, b2_t, b2_f, b2_0, b2_1, zB_1, zB_0, zB_b2, not_true_eq_false, not_false_eq_true, r_Mo, Nat.add_zero, Nat.add_sub_cancel, within_R, within_N, in_R, in_N, inN_yes, inR_yes, inR_pred, orNone_nn, nn_m, nn_N, f_Ct_isDay, f_Ct_isThing, f_Ct_isKind, f_Ct_isRoomSeat, f_Ct_isOffice, f_Ct_isTable, f_Ct_isPaper, f_Ct_isRule, f_Ct_isDecision, f_Mo_isOffice, f_Mo_isTable, f_Mo_isPaper, f_Mo_isRule, f_Mo_isDecision, f_Mo_isDay, f_Mo_isThing, f_Mo_paperOf, f_Mo_set, r_s2 bs, r_p bs, ck, cu, q8, cc, d3]
        · by_cases c5 : nI S ≤ g 0 - nI d
          · by_cases c6 : n6 = 24
            · refine skip (by unfold silB; rw [e6, c6, decide_eq_true rfl, Bool.not_true, Bool.false_and, Bool.and_false, Bool.and_false, Bool.and_false, Bool.and_false, Bool.and_false]) ?_
              simp -dsimp -implicitDefEqProofs (disch := omega) only [f_St_settleBySilence_29, f_St_settleBySilence_64, f_St_settleBySilence_96, f_St_settleBySilence, f_Dk_isFull_14, f_Dk_isFull, ↓l_m1, l_0, l_1, l_2, l_3, l_4, l_5, l_6, l_7, l_8, l_9, l_10, l_11, l_12, l_13, l_14, l_15, l_16, l_17, l_20, l_21, l_22, l_23, l_24, l_28, l_29, l_30, l_31, l_32, l_40, l_41, l_48, l_57, l_60, l_62, l_63, l_84, l_96, l_97, l_99, l_100, l_122, l_132, l_144, l_150, l_186, l_255, l_256, l_288, l_300, l_522, l_634, l_999, l_5242, l_5410, l_5420, l_5520, l_5528, l_9999, l_65535, l_65536, l_100000, l_16777215, l_252645135, l_858993459, l_1431655765, ↓reduceIte, Nat.reduceAdd, Nat.reduceMul, Nat.reduceSub, ixN, inbN, leT, leF, ltT, ltF, eqT, eqF, eqM, eqNone, addN, mulN, subN, m1N, ↓to_bnd, bnd_some, ↓to_nmT, nmT_eq, up2_r, up2_e, pk_us, pk_un, b2_t, b2_f, b2_0, b2_1, zB_1, zB_0, zB_b2, not_true_eq_false, not_false_eq_true, r_Mo, Nat.add_zero, Nat.add_sub_cancel, within_R, within_N, in_R, in_N, inN_yes, inR_yes, inR_pred, orNone_nn, nn_m, nn_N, f_Ct_isDay, f_Ct_isThing, f_Ct_isKind, f_Ct_isRoomSeat, f_Ct_isOffice, f_Ct_isTable, f_Ct_isPaper, f_Ct_isRule, f_Ct_isDecision, f_Mo_isOffice, f_Mo_isTable, f_Mo_isPaper, f_Mo_isRule, f_Mo_isDecision, f_Mo_isDay, f_Mo_isThing, f_Mo_paperOf, f_Mo_set, r_s2 bs, r_s4 bs, r_p bs, ck, cu, q8, cc, d3, o8, q5, c5, d0, o6]
            · by_cases c7 : T < nT
              · have hB : silB g p n = true := by
                  unfold silB
                  rw [ek, ixN (by omega), c1, c2, decide_eq_true c3, eS, u5, decide_eq_true c5, e6, eT, e3, ixN (by omega), inN_yes c7 (by omega), decide_eq_false (p := nI S = nI 0) (by rw [eqN (by omega) (by omega)]; exact c4), decide_eq_false (p := nI n6 = nI 24) (by rw [eqN (by omega) (by omega)]; exact c6)]
                  rfl
                obtain ⟨σ1, h1⟩ : ∃ σ1, up2 (up2 (up2 σ (s + 28 + p) 12 (nI 1)) (s + 28 + p) 9 (nI T)) (s + 28 + p) 10 (g 0) = σ1 := ⟨_, rfl⟩
                have r1 : ∀ a, a ≠ s + 28 + p → σ1 a = σ a := fun a h => by rw [← h1]; simp -dsimp -implicitDefEqProofs (disch := omega) only [up2_r]
                have f4 : σ1 (s + 28 + p) 4 = g (186 + 14 * p + 4) := by rw [← h1]; simp -dsimp -implicitDefEqProofs (disch := omega) only [up2_e, pk_un]; exact q4
                obtain ⟨v', s'⟩ := silent_ok (σ' := σ1) hV hD hS e5 l5 e3 l3 hp c2 c7 (fun a _ _ q3 => r1 a q3) (by rw [← h1]; simp -dsimp -implicitDefEqProofs (disch := omega) only [up2_e])
                obtain ⟨σ2, z1, z2, z3⟩ := c_addDecision (v := g (186 + 14 * p + 4)) (l := nI 0) bs v' s' (by rw [comesG_o g p n _ _ _ (by omega)]; exact e6) (by omega) (by rw [comesG_o g p n _ _ _ (by omega)]; exact hp) (by rw [comesG_o g p n _ _ _ (by omega)]; exact e3) l3 (t := T) (by unfold comesG; simp -dsimp -implicitDefEqProofs (disch := omega) only [pk_un, pk_us]) c7
                refine ⟨σ2, ?_, ?_, fun a h => by rw [z3 a (by omega), r1 a (by omega)]⟩
                · simp -dsimp -implicitDefEqProofs (disch := omega) only [f_St_settleBySilence_29, f_St_settleBySilence_64, f_St_settleBySilence_96, f_St_settleBySilence, f_Dk_isFull_14, f_Dk_isFull, f_Pa_arrive, ↓l_m1, l_0, l_1, l_2, l_3, l_4, l_5, l_6, l_7, l_8, l_9, l_10, l_11, l_12, l_13, l_14, l_15, l_16, l_17, l_20, l_21, l_22, l_23, l_24, l_28, l_29, l_30, l_31, l_32, l_40, l_41, l_48, l_57, l_60, l_62, l_63, l_84, l_96, l_97, l_99, l_100, l_122, l_132, l_144, l_150, l_186, l_255, l_256, l_288, l_300, l_522, l_634, l_999, l_5242, l_5410, l_5420, l_5520, l_5528, l_9999, l_65535, l_65536, l_100000, l_16777215, l_252645135, l_858993459, l_1431655765, ↓reduceIte, Nat.reduceAdd, Nat.reduceMul, Nat.reduceSub, ixN, inbN, leT, leF, ltT, ltF, eqT, eqF, eqM, eqNone, addN, mulN, subN, m1N, ↓to_bnd, bnd_some, ↓to_nmT, nmT_eq, up2_r, up2_e, pk_us, pk_un, b2_t, b2_f, b2_0, b2_1, zB_1, zB_0, zB_b2, not_true_eq_false, not_false_eq_true, r_Mo, Nat.add_zero, Nat.add_sub_cancel, within_R, within_N, in_R, in_N, inN_yes, inR_yes, inR_pred, orNone_nn, nn_m, nn_N, f_Ct_isDay, f_Ct_isThing, f_Ct_isKind, f_Ct_isRoomSeat, f_Ct_isOffice, f_Ct_isTable, f_Ct_isPaper, f_Ct_isRule, f_Ct_isDecision, f_Mo_isOffice, f_Mo_isTable, f_Mo_isPaper, f_Mo_isRule, f_Mo_isDecision, f_Mo_isDay, f_Mo_isThing, f_Mo_paperOf, f_Mo_set, r_s1 bs, r_s2 bs, r_s4 bs, r_p bs, ck, cu, q8, cc, d3, o8, q5, c5, d0, o6, o3, q4]
                  rw [h1]
                  simp -dsimp -implicitDefEqProofs (disch := omega) only [↓l_m1, l_0, l_1, l_2, l_3, l_4, l_5, l_6, l_7, l_8, l_9, l_10, l_11, l_12, l_13, l_14, l_15, l_16, l_17, l_20, l_21, l_22, l_23, l_24, l_28, l_29, l_30, l_31, l_32, l_40, l_41, l_48, l_57, l_60, l_62, l_63, l_84, l_96, l_97, l_99, l_100, l_122, l_132, l_144, l_150, l_186, l_255, l_256, l_288, l_300, l_522, l_634, l_999, l_5242, l_5410, l_5420, l_5520, l_5528, l_9999, l_65535, l_65536, l_100000, l_16777215, l_252645135, l_858993459, l_1431655765, ↓reduceIte, Nat.reduceAdd, Nat.reduceMul, Nat.reduceSub, ixN, inbN, leT, leF, ltT, ltF, eqT, eqF, eqM, eqNone, addN, mulN, subN, m1N, ↓to_bnd, bnd_some, ↓to_nmT, nmT_eq, up2_r, up2_e, pk_us, pk_un, b2_t, b2_f, b2_0, b2_1, zB_1, zB_0, zB_b2, not_true_eq_false, not_false_eq_true, r_Mo, Nat.add_zero, Nat.add_sub_cancel, within_R, within_N, in_R, in_N, inN_yes, inR_yes, inR_pred, orNone_nn, nn_m, nn_N, f_Ct_isDay, f_Ct_isThing, f_Ct_isKind, f_Ct_isRoomSeat, f_Ct_isOffice, f_Ct_isTable, f_Ct_isPaper, f_Ct_isRule, f_Ct_isDecision, f_Mo_isOffice, f_Mo_isTable, f_Mo_isPaper, f_Mo_isRule, f_Mo_isDecision, f_Mo_isDay, f_Mo_isThing, f_Mo_paperOf, f_Mo_set, z1]
                · unfold silG
                  rw [if_pos hB, eT]
                  exact z2
              · refine skip (by unfold silB; rw [eT, e3, ixN (by omega), show inN (nI T) nT = false by unfold inN; rw [decide_eq_false (p := nI T < nI nT) (by rw [ltN (by omega) (by omega)]; exact c7), Bool.and_false], Bool.and_false, Bool.and_false, Bool.and_false, Bool.and_false, Bool.and_false, Bool.and_false]) ?_
                simp -dsimp -implicitDefEqProofs (disch := omega) only [f_St_settleBySilence_29, f_St_settleBySilence_64, f_St_settleBySilence_96, f_St_settleBySilence, f_Dk_isFull_14, f_Dk_isFull, ↓l_m1, l_0, l_1, l_2, l_3, l_4, l_5, l_6, l_7, l_8, l_9, l_10, l_11, l_12, l_13, l_14, l_15, l_16, l_17, l_20, l_21, l_22, l_23, l_24, l_28, l_29, l_30, l_31, l_32, l_40, l_41, l_48, l_57, l_60, l_62, l_63, l_84, l_96, l_97, l_99, l_100, l_122, l_132, l_144, l_150, l_186, l_255, l_256, l_288, l_300, l_522, l_634, l_999, l_5242, l_5410, l_5420, l_5520, l_5528, l_9999, l_65535, l_65536, l_100000, l_16777215, l_252645135, l_858993459, l_1431655765, ↓reduceIte, Nat.reduceAdd, Nat.reduceMul, Nat.reduceSub, ixN, inbN, leT, leF, ltT, ltF, eqT, eqF, eqM, eqNone, addN, mulN, subN, m1N, ↓to_bnd, bnd_some, ↓to_nmT, nmT_eq, up2_r, up2_e, pk_us, pk_un, b2_t, b2_f, b2_0, b2_1, zB_1, zB_0, zB_b2, not_true_eq_false, not_false_eq_true, r_Mo, Nat.add_zero, Nat.add_sub_cancel, within_R, within_N, in_R, in_N, inN_yes, inR_yes, inR_pred, orNone_nn, nn_m, nn_N, f_Ct_isDay, f_Ct_isThing, f_Ct_isKind, f_Ct_isRoomSeat, f_Ct_isOffice, f_Ct_isTable, f_Ct_isPaper, f_Ct_isRule, f_Ct_isDecision, f_Mo_isOffice, f_Mo_isTable, f_Mo_isPaper, f_Mo_isRule, f_Mo_isDecision, f_Mo_isDay, f_Mo_isThing, f_Mo_paperOf, f_Mo_set, r_s1 bs, r_s2 bs, r_s4 bs, r_p bs, ck, cu, q8, cc, d3, o8, q5, c5, d0, o6, o3]
          · refine skip (by unfold silB; rw [eS, u5, decide_eq_false c5, Bool.false_and, Bool.and_false, Bool.and_false, Bool.and_false, Bool.and_false]) ?_
            simp -dsimp -implicitDefEqProofs (disch := omega) only [f_St_settleBySilence_29, f_St_settleBySilence_64, f_St_settleBySilence_96, f_St_settleBySilence, ↓l_m1, l_0, l_1, l_2, l_3, l_4, l_5, l_6, l_7, l_8, l_9, l_10, l_11, l_12, l_13, l_14, l_15, l_16, l_17, l_20, l_21, l_22, l_23, l_24, l_28, l_29, l_30, l_31, l_32, l_40, l_41, l_48, l_57, l_60, l_62, l_63, l_84, l_96, l_97, l_99, l_100, l_122, l_132, l_144, l_150, l_186, l_255, l_256, l_288, l_300, l_522, l_634, l_999, l_5242, l_5410, l_5420, l_5520, l_5528, l_9999, l_65535, l_65536, l_100000, l_16777215, l_252645135, l_858993459, l_1431655765, ↓reduceIte, Nat.reduceAdd, Nat.reduceMul, Nat.reduceSub, ixN, inbN, leT, leF, ltT, ltF, eqT, eqF, eqM, eqNone, addN, mulN, subN, m1N, ↓to_bnd, bnd_some, ↓to_nmT, nmT_eq, up2_r, up2_e, pk_us, pk_un, b2_t, b2_f, b2_0, b2_1, zB_1, zB_0, zB_b2, not_true_eq_false, not_false_eq_true, r_Mo, Nat.add_zero, Nat.add_sub_cancel, within_R, within_N, in_R, in_N, inN_yes, inR_yes, inR_pred, orNone_nn, nn_m, nn_N, f_Ct_isDay, f_Ct_isThing, f_Ct_isKind, f_Ct_isRoomSeat, f_Ct_isOffice, f_Ct_isTable, f_Ct_isPaper, f_Ct_isRule, f_Ct_isDecision, f_Mo_isOffice, f_Mo_isTable, f_Mo_isPaper, f_Mo_isRule, f_Mo_isDecision, f_Mo_isDay, f_Mo_isThing, f_Mo_paperOf, f_Mo_set, r_s2 bs, r_p bs, ck, cu, q8, cc, d3, o8, q5, c5]
      · refine skip (by unfold silB; rw [decide_eq_false c3, Bool.false_and, Bool.and_false, Bool.and_false]) ?_
        simp -dsimp -implicitDefEqProofs (disch := omega) only [f_St_settleBySilence_29, f_St_settleBySilence_64, f_St_settleBySilence_96, f_St_settleBySilence, ↓l_m1, l_0, l_1, l_2, l_3, l_4, l_5, l_6, l_7, l_8, l_9, l_10, l_11, l_12, l_13, l_14, l_15, l_16, l_17, l_20, l_21, l_22, l_23, l_24, l_28, l_29, l_30, l_31, l_32, l_40, l_41, l_48, l_57, l_60, l_62, l_63, l_84, l_96, l_97, l_99, l_100, l_122, l_132, l_144, l_150, l_186, l_255, l_256, l_288, l_300, l_522, l_634, l_999, l_5242, l_5410, l_5420, l_5520, l_5528, l_9999, l_65535, l_65536, l_100000, l_16777215, l_252645135, l_858993459, l_1431655765, ↓reduceIte, Nat.reduceAdd, Nat.reduceMul, Nat.reduceSub, ixN, inbN, leT, leF, ltT, ltF, eqT, eqF, eqM, eqNone, addN, mulN, subN, m1N, ↓to_bnd, bnd_some, ↓to_nmT, nmT_eq, up2_r, up2_e, pk_us, pk_un, b2_t, b2_f, b2_0, b2_1, zB_1, zB_0, zB_b2, not_true_eq_false, not_false_eq_true, r_Mo, Nat.add_zero, Nat.add_sub_cancel, within_R, within_N, in_R, in_N, inN_yes, inR_yes, inR_pred, orNone_nn, nn_m, nn_N, f_Ct_isDay, f_Ct_isThing, f_Ct_isKind, f_Ct_isRoomSeat, f_Ct_isOffice, f_Ct_isTable, f_Ct_isPaper, f_Ct_isRule, f_Ct_isDecision, f_Mo_isOffice, f_Mo_isTable, f_Mo_isPaper, f_Mo_isRule, f_Mo_isDecision, f_Mo_isDay, f_Mo_isThing, f_Mo_paperOf, f_Mo_set, r_s2 bs, r_p bs, ck, cu, q8, c3]
theorem mo_isSilent {σ : Mm} {D p n nT : Nat} {g : Nat → Int32} (hg : σ 299 = g) (hV : VG D g) (hD : D ≤ 1100) (e5 : g 5 = nI n) (l5 : n ≤ 16) (e3 : g 3 = nI nT) (l3 : nT ≤ 6) (hp : p < ix (g 4)) : ∃ τ, f_Mo_isSilent 298 (nI p) σ = some τ ∧ τ 299 = silG g p n ∧ ∀ a, a ≠ 299 → a ≠ 310 → a ≠ 311 → τ a = σ a := by
  have rv : ∀ r, r < n → RV g r := fun r hr => hV.2.2.2.2.1.2 r (by rw [e5, ixN (by omega)]; exact hr)
  have l4 := hV.2.2.2.1.1.2
  have pv := hV.2.2.2.1.2 p hp
  obtain ⟨n6, e6, l6, g6⟩ := cnt_of hV.2.2.2.2.2.1.1
  obtain ⟨k, hk, ek⟩ := pv.1
  have ck := mo_isUnder σ (w := 2) hk (by omega)
  have cu := mo_isUnderWay (σ := σ) (p := p) (nT := ix (g 3)) (by rw [hg]; exact pv) hV.2.2.1.1.2 (by omega)
  rw [hg] at cu
  obtain ⟨S, hSl, eS⟩ := due_N (h := 3) l5 rv pv (by omega) (by omega)
  obtain ⟨T, hTl, eT⟩ := due_N (h := 0) l5 rv pv (by omega) (by omega)
  have skip : ∀ τ, silB g p n = false → f_Mo_isSilent 298 (nI p) σ = some τ → (∀ a, a ≠ 310 → a ≠ 311 → τ a = σ a) → ∃ τ, f_Mo_isSilent 298 (nI p) σ = some τ ∧ τ 299 = silG g p n ∧ ∀ a, a ≠ 299 → a ≠ 310 → a ≠ 311 → τ a = σ a := fun τ h e f => ⟨τ, e, by unfold silG; rw [if_neg (by rw [h]; decide), f 299 (by omega) (by omega), hg], fun a _ q1 q2 => f a q1 q2⟩
  cases c1 : underB k 2
  · rw [c1] at ck
    refine skip σ (by unfold silB; rw [ek, ixN (by omega), c1]; rfl) ?_ (fun _ _ _ => rfl)
    simp -dsimp -implicitDefEqProofs (disch := omega) only [f_Mo_isSilent, f_Mo_isSilent_33, ↓l_m1, l_0, l_1, l_2, l_3, l_4, l_5, l_6, l_7, l_8, l_9, l_10, l_11, l_12, l_13, l_14, l_15, l_16, l_17, l_20, l_21, l_22, l_23, l_24, l_28, l_29, l_30, l_31, l_32, l_40, l_41, l_48, l_57, l_60, l_62, l_63, l_84, l_96, l_97, l_99, l_100, l_122, l_132, l_144, l_150, l_186, l_255, l_256, l_288, l_300, l_522, l_634, l_999, l_5242, l_5410, l_5420, l_5520, l_5528, l_9999, l_65535, l_65536, l_100000, l_16777215, l_252645135, l_858993459, l_1431655765, ↓reduceIte, Nat.reduceAdd, Nat.reduceMul, Nat.reduceSub, ixN, inbN, leT, leF, ltT, ltF, eqT, eqF, eqM, eqNone, addN, mulN, subN, m1N, ↓to_bnd, bnd_some, ↓to_nmT, nmT_eq, up2_r, up2_e, pk_us, pk_un, b2_t, b2_f, b2_0, b2_1, zB_1, zB_0, zB_b2, not_true_eq_false, not_false_eq_true, r_Mo, Nat.add_zero, Nat.add_sub_cancel, within_R, within_N, in_R, in_N, inN_yes, inR_yes, inR_pred, orNone_nn, nn_m, nn_N, f_Ct_isDay, f_Ct_isThing, f_Ct_isKind, f_Ct_isRoomSeat, f_Ct_isOffice, f_Ct_isTable, f_Ct_isPaper, f_Ct_isRule, f_Ct_isDecision, f_Mo_isOffice, f_Mo_isTable, f_Mo_isPaper, f_Mo_isRule, f_Mo_isDecision, f_Mo_isDay, f_Mo_isThing, f_Mo_paperOf, f_Mo_set, hg, ek, ck]
  · rw [c1] at ck
    cases c2 : uwB g p
    · rw [c2] at cu
      refine skip σ (by unfold silB; rw [c2, Bool.false_and, Bool.and_false]) ?_ (fun _ _ _ => rfl)
      simp -dsimp -implicitDefEqProofs (disch := omega) only [f_Mo_isSilent, f_Mo_isSilent_33, ↓l_m1, l_0, l_1, l_2, l_3, l_4, l_5, l_6, l_7, l_8, l_9, l_10, l_11, l_12, l_13, l_14, l_15, l_16, l_17, l_20, l_21, l_22, l_23, l_24, l_28, l_29, l_30, l_31, l_32, l_40, l_41, l_48, l_57, l_60, l_62, l_63, l_84, l_96, l_97, l_99, l_100, l_122, l_132, l_144, l_150, l_186, l_255, l_256, l_288, l_300, l_522, l_634, l_999, l_5242, l_5410, l_5420, l_5520, l_5528, l_9999, l_65535, l_65536, l_100000, l_16777215, l_252645135, l_858993459, l_1431655765, ↓reduceIte, Nat.reduceAdd, Nat.reduceMul, Nat.reduceSub, ixN, inbN, leT, leF, ltT, ltF, eqT, eqF, eqM, eqNone, addN, mulN, subN, m1N, ↓to_bnd, bnd_some, ↓to_nmT, nmT_eq, up2_r, up2_e, pk_us, pk_un, b2_t, b2_f, b2_0, b2_1, zB_1, zB_0, zB_b2, not_true_eq_false, not_false_eq_true, r_Mo, Nat.add_zero, Nat.add_sub_cancel, within_R, within_N, in_R, in_N, inN_yes, inR_yes, inR_pred, orNone_nn, nn_m, nn_N, f_Ct_isDay, f_Ct_isThing, f_Ct_isKind, f_Ct_isRoomSeat, f_Ct_isOffice, f_Ct_isTable, f_Ct_isPaper, f_Ct_isRule, f_Ct_isDecision, f_Mo_isOffice, f_Mo_isTable, f_Mo_isPaper, f_Mo_isRule, f_Mo_isDecision, f_Mo_isDay, f_Mo_isThing, f_Mo_paperOf, f_Mo_set, hg, ek, ck, cu]
    · rw [c2] at cu
      obtain ⟨⟨d, hd, u5⟩, u6, u9, u10, u11, u12⟩ := uwB_inv pv hV.2.2.1.1.2 c2
      by_cases c3 : g (186 + 14 * p + 8) = nI 0
      · obtain ⟨τ1, z1, h1⟩ := mo_dueOf (h := 3) hg e5 l5 rv (show p < 24 by omega) pv (by omega)
        have t1 : τ1 299 = g := by rw [h1 299 (by omega) (by omega), hg]
        obtain ⟨τ2, z2, h2⟩ := mo_dueOf (σ := τ1) (h := 0) t1 e5 l5 rv (show p < 24 by omega) pv (by omega)
        have h2' : ∀ a, a ≠ 310 → a ≠ 311 → τ2 a = σ a := fun a p q => by rw [h2 a p q, h1 a p q]
        have t2 : τ2 299 = g := by rw [h2' 299 (by omega) (by omega), hg]
        rw [eS] at z1
        rw [eT] at z2
        by_cases c4 : S = 0
        · subst c4
          refine skip τ2 (by unfold silB; rw [eS, decide_eq_true rfl, Bool.not_true, Bool.false_and, Bool.and_false, Bool.and_false, Bool.and_false]) ?_ h2'
          simp -dsimp -implicitDefEqProofs (disch := omega) only [f_Mo_isSilent, f_Mo_isSilent_91, ↓l_m1, l_0, l_1, l_2, l_3, l_4, l_5, l_6, l_7, l_8, l_9, l_10, l_11, l_12, l_13, l_14, l_15, l_16, l_17, l_20, l_21, l_22, l_23, l_24, l_28, l_29, l_30, l_31, l_32, l_40, l_41, l_48, l_57, l_60, l_62, l_63, l_84, l_96, l_97, l_99, l_100, l_122, l_132, l_144, l_150, l_186, l_255, l_256, l_288, l_300, l_522, l_634, l_999, l_5242, l_5410, l_5420, l_5520, l_5528, l_9999, l_65535, l_65536, l_100000, l_16777215, l_252645135, l_858993459, l_1431655765, ↓reduceIte, Nat.reduceAdd, Nat.reduceMul, Nat.reduceSub, ixN, inbN, leT, leF, ltT, ltF, eqT, eqF, eqM, eqNone, addN, mulN, subN, m1N, ↓to_bnd, bnd_some, ↓to_nmT, nmT_eq, up2_r, up2_e, pk_us, pk_un, b2_t, b2_f, b2_0, b2_1, zB_1, zB_0, zB_b2, not_true_eq_false, not_false_eq_true, r_Mo, Nat.add_zero, Nat.add_sub_cancel, within_R, within_N, in_R, in_N, inN_yes, inR_yes, inR_pred, orNone_nn, nn_m, nn_N, f_Ct_isDay, f_Ct_isThing, f_Ct_isKind, f_Ct_isRoomSeat, f_Ct_isOffice, f_Ct_isTable, f_Ct_isPaper, f_Ct_isRule, f_Ct_isDecision, f_Mo_isOffice, f_Mo_isTable, f_Mo_isPaper, f_Mo_isRule, f_Mo_isDecision, f_Mo_isDay, f_Mo_isThing, f_Mo_paperOf, f_Mo_set, hg, ek, ck, cu, c3, z1, z2]
        · by_cases c5 : nI S ≤ g 0 - nI d
          · have c5' : (g 0 - nI d < nI S) = False := eq_false (by rw [nlt_le]; exact c5)
            by_cases c6 : n6 = 24
            · refine skip τ2 (by unfold silB; rw [e6, c6, decide_eq_true rfl, Bool.not_true, Bool.false_and, Bool.and_false, Bool.and_false, Bool.and_false, Bool.and_false, Bool.and_false]) ?_ h2'
              simp -dsimp -implicitDefEqProofs (disch := omega) only [f_Mo_isSilent, f_Mo_isSilent_91, ↓l_m1, l_0, l_1, l_2, l_3, l_4, l_5, l_6, l_7, l_8, l_9, l_10, l_11, l_12, l_13, l_14, l_15, l_16, l_17, l_20, l_21, l_22, l_23, l_24, l_28, l_29, l_30, l_31, l_32, l_40, l_41, l_48, l_57, l_60, l_62, l_63, l_84, l_96, l_97, l_99, l_100, l_122, l_132, l_144, l_150, l_186, l_255, l_256, l_288, l_300, l_522, l_634, l_999, l_5242, l_5410, l_5420, l_5520, l_5528, l_9999, l_65535, l_65536, l_100000, l_16777215, l_252645135, l_858993459, l_1431655765, ↓reduceIte, Nat.reduceAdd, Nat.reduceMul, Nat.reduceSub, ixN, inbN, leT, leF, ltT, ltF, eqT, eqF, eqM, eqNone, addN, mulN, subN, m1N, ↓to_bnd, bnd_some, ↓to_nmT, nmT_eq, up2_r, up2_e, pk_us, pk_un, b2_t, b2_f, b2_0, b2_1, zB_1, zB_0, zB_b2, not_true_eq_false, not_false_eq_true, r_Mo, Nat.add_zero, Nat.add_sub_cancel, within_R, within_N, in_R, in_N, inN_yes, inR_yes, inR_pred, orNone_nn, nn_m, nn_N, f_Ct_isDay, f_Ct_isThing, f_Ct_isKind, f_Ct_isRoomSeat, f_Ct_isOffice, f_Ct_isTable, f_Ct_isPaper, f_Ct_isRule, f_Ct_isDecision, f_Mo_isOffice, f_Mo_isTable, f_Mo_isPaper, f_Mo_isRule, f_Mo_isDecision, f_Mo_isDay, f_Mo_isThing, f_Mo_paperOf, f_Mo_set, hg, ek, ck, cu, c3, z1, z2, t2, u5, c5', e6]
            · by_cases c7 : T < nT
              · have hB : silB g p n = true := by
                  unfold silB
                  rw [ek, ixN (by omega), c1, c2, decide_eq_true c3, eS, u5, decide_eq_true c5, e6, eT, e3, ixN (by omega), inN_yes c7 (by omega), decide_eq_false (p := nI S = nI 0) (by rw [eqN (by omega) (by omega)]; exact c4), decide_eq_false (p := nI n6 = nI 24) (by rw [eqN (by omega) (by omega)]; exact c6)]
                  rfl
                obtain ⟨τ3, w1, w2, w3⟩ := mo_comesTo (σ := τ2) t2 e5 l5 rv (show p < 24 by omega) pv (nI T) m1I (nI 1)
                obtain ⟨τ4, y1, y2, y3⟩ := mo_decides (σ := τ3) (v := g (186 + 14 * p + 4)) (l := nI 0) (n := n6) (p := p) (t := T) w2 (by rw [comesG_o g p n _ _ _ (by omega)]; exact e6) (by omega) (by omega) (by unfold comesG; simp -dsimp -implicitDefEqProofs (disch := omega) only [pk_un, pk_us]) (by omega)
                have f4 : τ3 299 (186 + 14 * p + 4) = g (186 + 14 * p + 4) := by rw [w2, comesG_o g p n _ _ _ (by omega)]
                refine ⟨τ4, ?_, ?_, fun a q1 q2 q3 => by rw [y3 a q1, w3 a q1 q2 q3, h2' a q2 q3]⟩
                · simp -dsimp -implicitDefEqProofs (disch := omega) only [f_Mo_isSilent, f_Mo_isSilent_91, ↓l_m1, l_0, l_1, l_2, l_3, l_4, l_5, l_6, l_7, l_8, l_9, l_10, l_11, l_12, l_13, l_14, l_15, l_16, l_17, l_20, l_21, l_22, l_23, l_24, l_28, l_29, l_30, l_31, l_32, l_40, l_41, l_48, l_57, l_60, l_62, l_63, l_84, l_96, l_97, l_99, l_100, l_122, l_132, l_144, l_150, l_186, l_255, l_256, l_288, l_300, l_522, l_634, l_999, l_5242, l_5410, l_5420, l_5520, l_5528, l_9999, l_65535, l_65536, l_100000, l_16777215, l_252645135, l_858993459, l_1431655765, ↓reduceIte, Nat.reduceAdd, Nat.reduceMul, Nat.reduceSub, ixN, inbN, leT, leF, ltT, ltF, eqT, eqF, eqM, eqNone, addN, mulN, subN, m1N, ↓to_bnd, bnd_some, ↓to_nmT, nmT_eq, up2_r, up2_e, pk_us, pk_un, b2_t, b2_f, b2_0, b2_1, zB_1, zB_0, zB_b2, not_true_eq_false, not_false_eq_true, r_Mo, Nat.add_zero, Nat.add_sub_cancel, within_R, within_N, in_R, in_N, inN_yes, inR_yes, inR_pred, orNone_nn, nn_m, nn_N, f_Ct_isDay, f_Ct_isThing, f_Ct_isKind, f_Ct_isRoomSeat, f_Ct_isOffice, f_Ct_isTable, f_Ct_isPaper, f_Ct_isRule, f_Ct_isDecision, f_Mo_isOffice, f_Mo_isTable, f_Mo_isPaper, f_Mo_isRule, f_Mo_isDecision, f_Mo_isDay, f_Mo_isThing, f_Mo_paperOf, f_Mo_set, hg, ek, ck, cu, c3, z1, z2, t2, u5, c5', e6, e3, w1, f4, y1]
                · unfold silG
                  rw [if_pos hB, eT, y2]
              · have c7' : inN (nI T) nT = false := by unfold inN; rw [decide_eq_false (p := nI T < nI nT) (by rw [ltN (by omega) (by omega)]; exact c7), Bool.and_false]
                refine skip τ2 (by unfold silB; rw [eT, e3, ixN (by omega), c7', Bool.and_false, Bool.and_false, Bool.and_false, Bool.and_false, Bool.and_false, Bool.and_false]) ?_ h2'
                simp -dsimp -implicitDefEqProofs (disch := omega) only [f_Mo_isSilent, f_Mo_isSilent_91, ↓l_m1, l_0, l_1, l_2, l_3, l_4, l_5, l_6, l_7, l_8, l_9, l_10, l_11, l_12, l_13, l_14, l_15, l_16, l_17, l_20, l_21, l_22, l_23, l_24, l_28, l_29, l_30, l_31, l_32, l_40, l_41, l_48, l_57, l_60, l_62, l_63, l_84, l_96, l_97, l_99, l_100, l_122, l_132, l_144, l_150, l_186, l_255, l_256, l_288, l_300, l_522, l_634, l_999, l_5242, l_5410, l_5420, l_5520, l_5528, l_9999, l_65535, l_65536, l_100000, l_16777215, l_252645135, l_858993459, l_1431655765, ↓reduceIte, Nat.reduceAdd, Nat.reduceMul, Nat.reduceSub, ixN, inbN, leT, leF, ltT, ltF, eqT, eqF, eqM, eqNone, addN, mulN, subN, m1N, ↓to_bnd, bnd_some, ↓to_nmT, nmT_eq, up2_r, up2_e, pk_us, pk_un, b2_t, b2_f, b2_0, b2_1, zB_1, zB_0, zB_b2, not_true_eq_false, not_false_eq_true, r_Mo, Nat.add_zero, Nat.add_sub_cancel, within_R, within_N, in_R, in_N, inN_yes, inR_yes, inR_pred, orNone_nn, nn_m, nn_N, f_Ct_isDay, f_Ct_isThing, f_Ct_isKind, f_Ct_isRoomSeat, f_Ct_isOffice, f_Ct_isTable, f_Ct_isPaper, f_Ct_isRule, f_Ct_isDecision, f_Mo_isOffice, f_Mo_isTable, f_Mo_isPaper, f_Mo_isRule, f_Mo_isDecision, f_Mo_isDay, f_Mo_isThing, f_Mo_paperOf, f_Mo_set, hg, ek, ck, cu, c3, z1, z2, t2, u5, c5', e6, e3, c7']
          · have c5' : (g 0 - nI d < nI S) = True := eq_true (by rw [← nle_lt]; exact c5)
            refine skip τ2 (by unfold silB; rw [eS, u5, decide_eq_false c5, Bool.false_and, Bool.and_false, Bool.and_false, Bool.and_false, Bool.and_false]) ?_ h2'
            simp -dsimp -implicitDefEqProofs (disch := omega) only [f_Mo_isSilent, f_Mo_isSilent_91, ↓l_m1, l_0, l_1, l_2, l_3, l_4, l_5, l_6, l_7, l_8, l_9, l_10, l_11, l_12, l_13, l_14, l_15, l_16, l_17, l_20, l_21, l_22, l_23, l_24, l_28, l_29, l_30, l_31, l_32, l_40, l_41, l_48, l_57, l_60, l_62, l_63, l_84, l_96, l_97, l_99, l_100, l_122, l_132, l_144, l_150, l_186, l_255, l_256, l_288, l_300, l_522, l_634, l_999, l_5242, l_5410, l_5420, l_5520, l_5528, l_9999, l_65535, l_65536, l_100000, l_16777215, l_252645135, l_858993459, l_1431655765, ↓reduceIte, Nat.reduceAdd, Nat.reduceMul, Nat.reduceSub, ixN, inbN, leT, leF, ltT, ltF, eqT, eqF, eqM, eqNone, addN, mulN, subN, m1N, ↓to_bnd, bnd_some, ↓to_nmT, nmT_eq, up2_r, up2_e, pk_us, pk_un, b2_t, b2_f, b2_0, b2_1, zB_1, zB_0, zB_b2, not_true_eq_false, not_false_eq_true, r_Mo, Nat.add_zero, Nat.add_sub_cancel, within_R, within_N, in_R, in_N, inN_yes, inR_yes, inR_pred, orNone_nn, nn_m, nn_N, f_Ct_isDay, f_Ct_isThing, f_Ct_isKind, f_Ct_isRoomSeat, f_Ct_isOffice, f_Ct_isTable, f_Ct_isPaper, f_Ct_isRule, f_Ct_isDecision, f_Mo_isOffice, f_Mo_isTable, f_Mo_isPaper, f_Mo_isRule, f_Mo_isDecision, f_Mo_isDay, f_Mo_isThing, f_Mo_paperOf, f_Mo_set, hg, ek, ck, cu, c3, z1, z2, t2, u5, c5']
      · refine skip σ (by unfold silB; rw [decide_eq_false c3, Bool.false_and, Bool.and_false, Bool.and_false]) ?_ (fun _ _ _ => rfl)
        simp -dsimp -implicitDefEqProofs (disch := omega) only [f_Mo_isSilent, f_Mo_isSilent_33, ↓l_m1, l_0, l_1, l_2, l_3, l_4, l_5, l_6, l_7, l_8, l_9, l_10, l_11, l_12, l_13, l_14, l_15, l_16, l_17, l_20, l_21, l_22, l_23, l_24, l_28, l_29, l_30, l_31, l_32, l_40, l_41, l_48, l_57, l_60, l_62, l_63, l_84, l_96, l_97, l_99, l_100, l_122, l_132, l_144, l_150, l_186, l_255, l_256, l_288, l_300, l_522, l_634, l_999, l_5242, l_5410, l_5420, l_5520, l_5528, l_9999, l_65535, l_65536, l_100000, l_16777215, l_252645135, l_858993459, l_1431655765, ↓reduceIte, Nat.reduceAdd, Nat.reduceMul, Nat.reduceSub, ixN, inbN, leT, leF, ltT, ltF, eqT, eqF, eqM, eqNone, addN, mulN, subN, m1N, ↓to_bnd, bnd_some, ↓to_nmT, nmT_eq, up2_r, up2_e, pk_us, pk_un, b2_t, b2_f, b2_0, b2_1, zB_1, zB_0, zB_b2, not_true_eq_false, not_false_eq_true, r_Mo, Nat.add_zero, Nat.add_sub_cancel, within_R, within_N, in_R, in_N, inN_yes, inR_yes, inR_pred, orNone_nn, nn_m, nn_N, f_Ct_isDay, f_Ct_isThing, f_Ct_isKind, f_Ct_isRoomSeat, f_Ct_isOffice, f_Ct_isTable, f_Ct_isPaper, f_Ct_isRule, f_Ct_isDecision, f_Mo_isOffice, f_Mo_isTable, f_Mo_isPaper, f_Mo_isRule, f_Mo_isDecision, f_Mo_isDay, f_Mo_isThing, f_Mo_paperOf, f_Mo_set, hg, ek, ck, cu, c3]
