/-! what a paper lacks -/
def tzN (w : Nat) : Nat := if w % 2 = 1 then 0 else if w / 2 % 2 = 1 then 1 else if w / 4 % 2 = 1 then 2 else if w / 8 % 2 = 1 then 3 else if w / 16 % 2 = 1 then 4 else if w / 32 % 2 = 1 then 5 else if w / 64 % 2 = 1 then 6 else 7
theorem tz_c0 : ∀ w, w < 256 → 0 < w → f_In_numberOfTrailingZeros (fun _ _ => 0) (nI w) = some (nI (tzN w)) := by decide +kernel
theorem tz_c (σ : Mm) {w : Nat} (h : w < 256) (h0 : 0 < w) : f_In_numberOfTrailingZeros σ (nI w) = some (nI (tzN w)) := tz_c0 w h h0
theorem tz_b : ∀ w, w < 256 → 0 < w → (∀ k, k < 8 → k < tzN w → w.testBit k = false) ∧ w.testBit (tzN w) = true ∧ tzN w < 8 := by decide +kernel
theorem tz_m (σ : Mm) {w : Nat} (h : w < 256) (h0 : 0 < w) : f_Mo_firstBit σ (nI w) = some (nI (tzN w)) := by
  obtain ⟨q1, q2, q3⟩ := tz_b w h h0
  unfold f_Mo_firstBit
  refine loopA (fun f k => f_Mo_firstBit_2 σ f (nI w) (nI k)) _ (tzN w) (fun f => ?_) (fun f k hk => ?_) (NN_lt (by omega))
  · have c : btI (nI w) (tzN w) = true := by rw [b_nI _ (by omega)]; exact q2
    simp -dsimp -implicitDefEqProofs (disch := omega) only [f_Mo_firstBit_2, ↓l_m1, l_0, l_1, l_2, l_3, l_4, l_5, l_6, l_7, l_8, l_9, l_10, l_11, l_12, l_13, l_14, l_15, l_16, l_17, l_20, l_21, l_22, l_23, l_24, l_28, l_29, l_30, l_31, l_32, l_40, l_41, l_48, l_57, l_60, l_62, l_63, l_84, l_96, l_97, l_99, l_100, l_122, l_132, l_144, l_150, l_186, l_255, l_256, l_288, l_300, l_522, l_634, l_999, l_5242, l_5410, l_5420, l_5520, l_5528, l_9999, l_65535, l_65536, l_100000, l_16777215, l_252645135, l_858993459, l_1431655765, ↓reduceIte, Nat.reduceAdd, Nat.reduceMul, Nat.reduceSub, ixN, inbN, leT, leF, ltT, ltF, eqT, eqF, eqM, eqNone, addN, mulN, subN, m1N, ↓to_bnd, bnd_some, ↓to_nmT, nmT_eq, up2_r, up2_e, pk_us, pk_un, b2_t, b2_f, b2_0, b2_1, zB_1, zB_0, zB_b2, not_true_eq_false, not_false_eq_true, r_Mo, Nat.add_zero, Nat.add_sub_cancel, within_R, within_N, in_R, in_N, inN_yes, inR_yes, inR_pred, orNone_nn, nn_m, nn_N, f_Ct_isDay, f_Ct_isThing, f_Ct_isKind, f_Ct_isRoomSeat, f_Ct_isOffice, f_Ct_isTable, f_Ct_isPaper, f_Ct_isRule, f_Ct_isDecision, f_Mo_isOffice, f_Mo_isTable, f_Mo_isPaper, f_Mo_isRule, f_Mo_isDecision, f_Mo_isDay, f_Mo_isThing, f_Mo_paperOf, f_Mo_set, bit_at, c, Bool.true_eq_false]
  · have c : btI (nI w) k = false := by rw [b_nI _ (by omega)]; exact q1 k (by omega) hk
    simp -dsimp -implicitDefEqProofs (disch := omega) only [f_Mo_firstBit_2, ↓l_m1, l_0, l_1, l_2, l_3, l_4, l_5, l_6, l_7, l_8, l_9, l_10, l_11, l_12, l_13, l_14, l_15, l_16, l_17, l_20, l_21, l_22, l_23, l_24, l_28, l_29, l_30, l_31, l_32, l_40, l_41, l_48, l_57, l_60, l_62, l_63, l_84, l_96, l_97, l_99, l_100, l_122, l_132, l_144, l_150, l_186, l_255, l_256, l_288, l_300, l_522, l_634, l_999, l_5242, l_5410, l_5420, l_5520, l_5528, l_9999, l_65535, l_65536, l_100000, l_16777215, l_252645135, l_858993459, l_1431655765, ↓reduceIte, Nat.reduceAdd, Nat.reduceMul, Nat.reduceSub, ixN, inbN, leT, leF, ltT, ltF, eqT, eqF, eqM, eqNone, addN, mulN, subN, m1N, ↓to_bnd, bnd_some, ↓to_nmT, nmT_eq, up2_r, up2_e, pk_us, pk_un, b2_t, b2_f, b2_0, b2_1, zB_1, zB_0, zB_b2, not_true_eq_false, not_false_eq_true, r_Mo, Nat.add_zero, Nat.add_sub_cancel, within_R, within_N, in_R, in_N, inN_yes, inR_yes, inR_pred, orNone_nn, nn_m, nn_N, f_Ct_isDay, f_Ct_isThing, f_Ct_isKind, f_Ct_isRoomSeat, f_Ct_isOffice, f_Ct_isTable, f_Ct_isPaper, f_Ct_isRule, f_Ct_isDecision, f_Mo_isOffice, f_Mo_isTable, f_Mo_isPaper, f_Mo_isRule, f_Mo_isDecision, f_Mo_isDay, f_Mo_isThing, f_Mo_paperOf, f_Mo_set, bit_at, c]
theorem small8 {x : Int32} (h : ∀ j, 8 ≤ j → j < 32 → btI x j = false) : ∃ w, w < 256 ∧ x = nI w := by
  obtain ⟨n, hn, rfl⟩ : ∃ n : Nat, n < 4294967296 ∧ x = nI n := ⟨x.toBitVec.toNat, x.toBitVec.isLt, Int32.toBitVec_inj.mp (by show _ = BitVec.ofNat 32 _; simp)⟩
  refine ⟨n, ?_, rfl⟩
  have q : n < 2 ^ 8 := by
    apply Nat.lt_pow_two_of_testBit
    intro i hi
    by_cases c : i < 32
    · rw [← b_nI n c]; exact h i hi c
    · exact Nat.testBit_lt_two_pow (Nat.lt_of_lt_of_le (show n < 2 ^ 32 from hn) (Nat.pow_le_pow_right (by decide) (by omega)))
  exact q
theorem ndF_hi {g : Nat → Int32} {p n : Nat} (rv : ∀ r, r < n → RV g r) (l5 : n ≤ 16) : ∀ k, k ≤ n → ∀ j, 8 ≤ j → j < 32 → btI (ndF g p n k) j = false := by
  intro k
  induction k with
  | zero => intro _ j _ _; exact b_zero j
  | succ k ih =>
    intro hk j h1 h2
    have ih := ih (by omega) j h1 h2
    rw [ndF]
    split
    · split
      · next c =>
        obtain ⟨N, hN, eN, h8⟩ := num_of (rv k (by omega)) c (by omega)
        have := h8 rfl
        rw [b_or, ih, eN, b_bit (by omega) h2, decide_eq_false (by omega)]; rfl
      · exact ih
    · exact ih
def wantI (g : Nat → Int32) (p n : Nat) : Int32 := ndF g p n n &&& (g (186 + 14 * p + 7) ^^^ m1I)
theorem want_ok {g : Nat → Int32} {p n : Nat} (rv : ∀ r, r < n → RV g r) (l5 : n ≤ 16) : ∃ w, w < 256 ∧ wantI g p n = nI w :=
  small8 (fun j h1 h2 => by unfold wantI; rw [b_and, ndF_hi rv l5 n (Nat.le_refl _) j h1 h2, Bool.false_and])
def lacksF (g : Nat → Int32) (p t n : Nat) : Int32 := if uwB g p = true then (if dueF g p n 0 = nI t then (if sitsB g t (ix (g 0)) = true then (if dueF g p n 1 ≤ g 0 - g (186 + 14 * p + 5) then (if wantI g p n = nI 0 then nI 0 else nI (10 + tzN (ix (wantI g p n)))) else nI 4) else nI 3) else nI 2) else nI 1
theorem c_whatLacks {σ : Mm} {s D p t n nT : Nat} {g : Nat → Int32} (bs : BS s) (hV : VG D g) (hD : D ≤ 1100) (hS : StR σ s g) (e5 : g 5 = nI n) (ln : n ≤ 16) (e3 : g 3 = nI nT) (lT : nT ≤ 6) (hp : p < ix (g 4)) (ht : t < nT) : f_St_whatLacks σ s (s + 28 + p) (nI t) = some (lacksF g p t n) := by
  obtain ⟨n', e5', l5, rv, hU, o5⟩ := ru_open hV hS
  obtain ⟨nT', e3', l3, g3⟩ := cnt_of hV.2.2.1.1
  have l4 := hV.2.2.2.1.1.2
  obtain rfl : n = n' := by rw [e5', eqN (by omega) (by omega)] at e5; exact e5.symm
  obtain rfl : nT = nT' := by rw [e3', eqN (by omega) (by omega)] at e3; exact e3.symm
  obtain ⟨dd, e0, l0, g0⟩ := cnt_of hV.1.1
  have pv := hV.2.2.2.1.2 p hp
  have pr := hS.2.2.2.1.2.1 p hp
  have cu := c_isUnderWay (x := s + 28 + p) pv (by omega) pr
  have cc := c_countingRules bs e5 l5 rv hU hS.1 (show p < 24 by omega) pv pr
  have d0 := c_dueBy (h := 0) bs e5 l5 rv hU pv pr (by omega)
  have d1 := c_dueBy (h := 1) bs e5 l5 rv hU pv pr (by omega)
  have nd := c_neededOffices (p := p) bs e5 l5 rv hU
  have tv := hV.2.2.1.2 t (by omega)
  have cs := c_sitsOn (D := dd) bs tv e3 (by omega) hS.2.2.1 ht (by omega)
  have o8 := hS.1.1
  unfold lacksF
  rw [g0]
  cases c1 : uwB g p
  · rw [c1] at cu
    simp -dsimp -implicitDefEqProofs (disch := omega) only [f_St_whatLacks, ↓l_m1, l_0, l_1, l_2, l_3, l_4, l_5, l_6, l_7, l_8, l_9, l_10, l_11, l_12, l_13, l_14, l_15, l_16, l_17, l_20, l_21, l_22, l_23, l_24, l_28, l_29, l_30, l_31, l_32, l_40, l_41, l_48, l_57, l_60, l_62, l_63, l_84, l_96, l_97, l_99, l_100, l_122, l_132, l_144, l_150, l_186, l_255, l_256, l_288, l_300, l_522, l_634, l_999, l_5242, l_5410, l_5420, l_5520, l_5528, l_9999, l_65535, l_65536, l_100000, l_16777215, l_252645135, l_858993459, l_1431655765, ↓reduceIte, Nat.reduceAdd, Nat.reduceMul, Nat.reduceSub, ixN, inbN, leT, leF, ltT, ltF, eqT, eqF, eqM, eqNone, addN, mulN, subN, m1N, ↓to_bnd, bnd_some, ↓to_nmT, nmT_eq, up2_r, up2_e, pk_us, pk_un, b2_t, b2_f, b2_0, b2_1, zB_1, zB_0, zB_b2, not_true_eq_false, not_false_eq_true, r_Mo, Nat.add_zero, Nat.add_sub_cancel, within_R, within_N, in_R, in_N, inN_yes, inR_yes, inR_pred, orNone_nn, nn_m, nn_N, f_Ct_isDay, f_Ct_isThing, f_Ct_isKind, f_Ct_isRoomSeat, f_Ct_isOffice, f_Ct_isTable, f_Ct_isPaper, f_Ct_isRule, f_Ct_isDecision, f_Mo_isOffice, f_Mo_isTable, f_Mo_isPaper, f_Mo_isRule, f_Mo_isDecision, f_Mo_isDay, f_Mo_isThing, f_Mo_paperOf, f_Mo_set, cu, Bool.false_eq_true]
  · obtain ⟨⟨d, hd, u5⟩, -⟩ := uwB_inv pv (by omega) c1
    rw [c1] at cu
    have q5 := pr.2.2.2.2.2.1
    have q7 := pr.2.2.2.2.2.2.2.1
    rw [u5, nn_N (by omega)] at q5
    rw [u5]
    by_cases c2 : dueF g p n 0 = nI t
    · cases c3 : sitsB g t dd
      · rw [c3] at cs
        simp -dsimp -implicitDefEqProofs (disch := omega) only [f_St_whatLacks, ↓l_m1, l_0, l_1, l_2, l_3, l_4, l_5, l_6, l_7, l_8, l_9, l_10, l_11, l_12, l_13, l_14, l_15, l_16, l_17, l_20, l_21, l_22, l_23, l_24, l_28, l_29, l_30, l_31, l_32, l_40, l_41, l_48, l_57, l_60, l_62, l_63, l_84, l_96, l_97, l_99, l_100, l_122, l_132, l_144, l_150, l_186, l_255, l_256, l_288, l_300, l_522, l_634, l_999, l_5242, l_5410, l_5420, l_5520, l_5528, l_9999, l_65535, l_65536, l_100000, l_16777215, l_252645135, l_858993459, l_1431655765, ↓reduceIte, Nat.reduceAdd, Nat.reduceMul, Nat.reduceSub, ixN, inbN, leT, leF, ltT, ltF, eqT, eqF, eqM, eqNone, addN, mulN, subN, m1N, ↓to_bnd, bnd_some, ↓to_nmT, nmT_eq, up2_r, up2_e, pk_us, pk_un, b2_t, b2_f, b2_0, b2_1, zB_1, zB_0, zB_b2, not_true_eq_false, not_false_eq_true, r_Mo, Nat.add_zero, Nat.add_sub_cancel, within_R, within_N, in_R, in_N, inN_yes, inR_yes, inR_pred, orNone_nn, nn_m, nn_N, f_Ct_isDay, f_Ct_isThing, f_Ct_isKind, f_Ct_isRoomSeat, f_Ct_isOffice, f_Ct_isTable, f_Ct_isPaper, f_Ct_isRule, f_Ct_isDecision, f_Mo_isOffice, f_Mo_isTable, f_Mo_isPaper, f_Mo_isRule, f_Mo_isDecision, f_Mo_isDay, f_Mo_isThing, f_Mo_paperOf, f_Mo_set, cu, cc, d0, c2, r_s1 bs, o8, e0, cs, Bool.false_eq_true]
      · rw [c3] at cs
        by_cases c4 : dueF g p n 1 ≤ nI dd - nI d
        · obtain ⟨w, hw, ew⟩ := want_ok (p := p) rv l5
          have ew' := ew
          unfold wantI at ew'
          by_cases c5 : w = 0
          · subst c5
            simp -dsimp -implicitDefEqProofs (disch := omega) only [f_St_whatLacks, f_St_whatLacks_97, ↓l_m1, l_0, l_1, l_2, l_3, l_4, l_5, l_6, l_7, l_8, l_9, l_10, l_11, l_12, l_13, l_14, l_15, l_16, l_17, l_20, l_21, l_22, l_23, l_24, l_28, l_29, l_30, l_31, l_32, l_40, l_41, l_48, l_57, l_60, l_62, l_63, l_84, l_96, l_97, l_99, l_100, l_122, l_132, l_144, l_150, l_186, l_255, l_256, l_288, l_300, l_522, l_634, l_999, l_5242, l_5410, l_5420, l_5520, l_5528, l_9999, l_65535, l_65536, l_100000, l_16777215, l_252645135, l_858993459, l_1431655765, ↓reduceIte, ↓to_bnd, bnd_some, b2_t, zB_1, eqF, not_false_eq_true, not_true_eq_false, cu, cc, d0, c2, r_s1 bs, o8, e0, cs, d1, q5, c4, nd, q7, ew', ew]
          · simp -dsimp -implicitDefEqProofs (disch := omega) only [f_St_whatLacks, f_St_whatLacks_97, ↓l_m1, l_0, l_1, l_2, l_3, l_4, l_5, l_6, l_7, l_8, l_9, l_10, l_11, l_12, l_13, l_14, l_15, l_16, l_17, l_20, l_21, l_22, l_23, l_24, l_28, l_29, l_30, l_31, l_32, l_40, l_41, l_48, l_57, l_60, l_62, l_63, l_84, l_96, l_97, l_99, l_100, l_122, l_132, l_144, l_150, l_186, l_255, l_256, l_288, l_300, l_522, l_634, l_999, l_5242, l_5410, l_5420, l_5520, l_5528, l_9999, l_65535, l_65536, l_100000, l_16777215, l_252645135, l_858993459, l_1431655765, ↓reduceIte, ↓to_bnd, bnd_some, b2_t, zB_1, eqF, addN, ixN, not_false_eq_true, not_true_eq_false, cu, cc, d0, c2, r_s1 bs, o8, e0, cs, d1, q5, c4, nd, q7, ew', ew, tz_c]
        · simp -dsimp -implicitDefEqProofs (disch := omega) only [f_St_whatLacks, ↓l_m1, l_0, l_1, l_2, l_3, l_4, l_5, l_6, l_7, l_8, l_9, l_10, l_11, l_12, l_13, l_14, l_15, l_16, l_17, l_20, l_21, l_22, l_23, l_24, l_28, l_29, l_30, l_31, l_32, l_40, l_41, l_48, l_57, l_60, l_62, l_63, l_84, l_96, l_97, l_99, l_100, l_122, l_132, l_144, l_150, l_186, l_255, l_256, l_288, l_300, l_522, l_634, l_999, l_5242, l_5410, l_5420, l_5520, l_5528, l_9999, l_65535, l_65536, l_100000, l_16777215, l_252645135, l_858993459, l_1431655765, ↓reduceIte, ↓to_bnd, bnd_some, b2_t, zB_1, eqF, not_false_eq_true, not_true_eq_false, cu, cc, d0, c2, r_s1 bs, o8, e0, cs, d1, q5, c4]
    · simp -dsimp -implicitDefEqProofs (disch := omega) only [f_St_whatLacks, ↓l_m1, l_0, l_1, l_2, l_3, l_4, l_5, l_6, l_7, l_8, l_9, l_10, l_11, l_12, l_13, l_14, l_15, l_16, l_17, l_20, l_21, l_22, l_23, l_24, l_28, l_29, l_30, l_31, l_32, l_40, l_41, l_48, l_57, l_60, l_62, l_63, l_84, l_96, l_97, l_99, l_100, l_122, l_132, l_144, l_150, l_186, l_255, l_256, l_288, l_300, l_522, l_634, l_999, l_5242, l_5410, l_5420, l_5520, l_5528, l_9999, l_65535, l_65536, l_100000, l_16777215, l_252645135, l_858993459, l_1431655765, ↓reduceIte, Nat.reduceAdd, Nat.reduceMul, Nat.reduceSub, ixN, inbN, leT, leF, ltT, ltF, eqT, eqF, eqM, eqNone, addN, mulN, subN, m1N, ↓to_bnd, bnd_some, ↓to_nmT, nmT_eq, up2_r, up2_e, pk_us, pk_un, b2_t, b2_f, b2_0, b2_1, zB_1, zB_0, zB_b2, not_true_eq_false, not_false_eq_true, r_Mo, Nat.add_zero, Nat.add_sub_cancel, within_R, within_N, in_R, in_N, inN_yes, inR_yes, inR_pred, orNone_nn, nn_m, nn_N, f_Ct_isDay, f_Ct_isThing, f_Ct_isKind, f_Ct_isRoomSeat, f_Ct_isOffice, f_Ct_isTable, f_Ct_isPaper, f_Ct_isRule, f_Ct_isDecision, f_Mo_isOffice, f_Mo_isTable, f_Mo_isPaper, f_Mo_isRule, f_Mo_isDecision, f_Mo_isDay, f_Mo_isThing, f_Mo_paperOf, f_Mo_set, cu, cc, d0, c2]
theorem mo_lacksOf {σ : Mm} {D p t n nT : Nat} {g : Nat → Int32} (hg : σ 299 = g) (hV : VG D g) (hD : D ≤ 1100) (e5 : g 5 = nI n) (ln : n ≤ 16) (e3 : g 3 = nI nT) (lT : nT ≤ 6) (hp : p < ix (g 4)) (ht : t < nT) : ∃ τ, f_Mo_lacksOf 298 (nI p) (nI t) σ = some (lacksF g p t n, τ) ∧ (∀ a, a ≠ 310 → a ≠ 311 → τ a = σ a) := by
  obtain ⟨n', e5', l5, g5⟩ := cnt_of hV.2.2.2.2.1.1
  obtain ⟨nT', e3', l3, g3⟩ := cnt_of hV.2.2.1.1
  have l4 := hV.2.2.2.1.1.2
  obtain rfl : n = n' := by rw [e5', eqN (by omega) (by omega)] at e5; exact e5.symm
  obtain rfl : nT = nT' := by rw [e3', eqN (by omega) (by omega)] at e3; exact e3.symm
  have rv : ∀ r, r < n → RV g r := fun r hr => hV.2.2.2.2.1.2 r (by omega)
  obtain ⟨dd, e0, l0, g0⟩ := cnt_of hV.1.1
  have pv := hV.2.2.2.1.2 p hp
  have tv := hV.2.2.1.2 t (by omega)
  have cu := mo_isUnderWay (σ := σ) (p := p) (nT := ix (g 3)) (by rw [hg]; exact pv) (by omega) (by omega)
  rw [hg] at cu
  unfold lacksF
  rw [g0]
  cases c1 : uwB g p
  · rw [c1] at cu
    refine ⟨σ, ?_, fun _ _ _ => rfl⟩
    simp -dsimp -implicitDefEqProofs (disch := omega) only [f_Mo_lacksOf, ↓l_m1, l_0, l_1, l_2, l_3, l_4, l_5, l_6, l_7, l_8, l_9, l_10, l_11, l_12, l_13, l_14, l_15, l_16, l_17, l_20, l_21, l_22, l_23, l_24, l_28, l_29, l_30, l_31, l_32, l_40, l_41, l_48, l_57, l_60, l_62, l_63, l_84, l_96, l_97, l_99, l_100, l_122, l_132, l_144, l_150, l_186, l_255, l_256, l_288, l_300, l_522, l_634, l_999, l_5242, l_5410, l_5420, l_5520, l_5528, l_9999, l_65535, l_65536, l_100000, l_16777215, l_252645135, l_858993459, l_1431655765, ↓reduceIte, Nat.reduceAdd, Nat.reduceMul, Nat.reduceSub, ixN, inbN, leT, leF, ltT, ltF, eqT, eqF, eqM, eqNone, addN, mulN, subN, m1N, ↓to_bnd, bnd_some, ↓to_nmT, nmT_eq, up2_r, up2_e, pk_us, pk_un, b2_t, b2_f, b2_0, b2_1, zB_1, zB_0, zB_b2, not_true_eq_false, not_false_eq_true, r_Mo, Nat.add_zero, Nat.add_sub_cancel, within_R, within_N, in_R, in_N, inN_yes, inR_yes, inR_pred, orNone_nn, nn_m, nn_N, f_Ct_isDay, f_Ct_isThing, f_Ct_isKind, f_Ct_isRoomSeat, f_Ct_isOffice, f_Ct_isTable, f_Ct_isPaper, f_Ct_isRule, f_Ct_isDecision, f_Mo_isOffice, f_Mo_isTable, f_Mo_isPaper, f_Mo_isRule, f_Mo_isDecision, f_Mo_isDay, f_Mo_isThing, f_Mo_paperOf, f_Mo_set, cu, Bool.false_eq_true]
  · obtain ⟨⟨d, hd, u5⟩, -⟩ := uwB_inv pv (by omega) c1
    rw [c1] at cu
    rw [u5]
    obtain ⟨τ1, z1, h1⟩ := mo_dueOf (h := 0) hg e5 l5 rv (show p < 24 by omega) pv (by omega)
    have t1 : τ1 299 = g := by rw [h1 299 (by omega) (by omega), hg]
    by_cases c2 : dueF g p n 0 = nI t
    · have cs := mo_sitsOn (σ := τ1) (t := t) (D := dd) (by rw [t1]; exact tv) (by omega) (by omega)
      rw [t1] at cs
      cases c3 : sitsB g t dd
      · rw [c3] at cs
        refine ⟨τ1, ?_, h1⟩
        simp -dsimp -implicitDefEqProofs (disch := omega) only [f_Mo_lacksOf, ↓l_m1, l_0, l_1, l_2, l_3, l_4, l_5, l_6, l_7, l_8, l_9, l_10, l_11, l_12, l_13, l_14, l_15, l_16, l_17, l_20, l_21, l_22, l_23, l_24, l_28, l_29, l_30, l_31, l_32, l_40, l_41, l_48, l_57, l_60, l_62, l_63, l_84, l_96, l_97, l_99, l_100, l_122, l_132, l_144, l_150, l_186, l_255, l_256, l_288, l_300, l_522, l_634, l_999, l_5242, l_5410, l_5420, l_5520, l_5528, l_9999, l_65535, l_65536, l_100000, l_16777215, l_252645135, l_858993459, l_1431655765, ↓reduceIte, Nat.reduceAdd, Nat.reduceMul, Nat.reduceSub, ixN, inbN, leT, leF, ltT, ltF, eqT, eqF, eqM, eqNone, addN, mulN, subN, m1N, ↓to_bnd, bnd_some, ↓to_nmT, nmT_eq, up2_r, up2_e, pk_us, pk_un, b2_t, b2_f, b2_0, b2_1, zB_1, zB_0, zB_b2, not_true_eq_false, not_false_eq_true, r_Mo, Nat.add_zero, Nat.add_sub_cancel, within_R, within_N, in_R, in_N, inN_yes, inR_yes, inR_pred, orNone_nn, nn_m, nn_N, f_Ct_isDay, f_Ct_isThing, f_Ct_isKind, f_Ct_isRoomSeat, f_Ct_isOffice, f_Ct_isTable, f_Ct_isPaper, f_Ct_isRule, f_Ct_isDecision, f_Mo_isOffice, f_Mo_isTable, f_Mo_isPaper, f_Mo_isRule, f_Mo_isDecision, f_Mo_isDay, f_Mo_isThing, f_Mo_paperOf, f_Mo_set, cu, z1, c2, t1, e0, cs, Bool.false_eq_true]
      · rw [c3] at cs
        obtain ⟨τ2, z2, h2⟩ := mo_dueOf (σ := τ1) (h := 1) t1 e5 l5 rv (show p < 24 by omega) pv (by omega)
        have h2' : ∀ a, a ≠ 310 → a ≠ 311 → τ2 a = σ a := fun a p q => by rw [h2 a p q, h1 a p q]
        have t2 : τ2 299 = g := by rw [h2' 299 (by omega) (by omega), hg]
        by_cases c4 : dueF g p n 1 ≤ nI dd - nI d
        · obtain ⟨τ3, z3, h3⟩ := mo_needOf (σ := τ2) t2 e5 l5 rv (show p < 24 by omega) pv
          have h3' : ∀ a, a ≠ 310 → a ≠ 311 → τ3 a = σ a := fun a p q => by rw [h3 a p q, h2' a p q]
          have t3 : τ3 299 = g := by rw [h3' 299 (by omega) (by omega), hg]
          obtain ⟨w, hw, ew⟩ := want_ok (p := p) rv l5
          have ew' := ew
          unfold wantI at ew'
          refine ⟨τ3, ?_, h3'⟩
          by_cases c5 : w = 0
          · subst c5
            simp -dsimp -implicitDefEqProofs (disch := omega) only [f_Mo_lacksOf, f_Mo_lacksOf_93, f_Mo_paperOf, ↓l_m1, l_0, l_1, l_2, l_3, l_4, l_5, l_6, l_7, l_8, l_9, l_10, l_11, l_12, l_13, l_14, l_15, l_16, l_17, l_20, l_21, l_22, l_23, l_24, l_28, l_29, l_30, l_31, l_32, l_40, l_41, l_48, l_57, l_60, l_62, l_63, l_84, l_96, l_97, l_99, l_100, l_122, l_132, l_144, l_150, l_186, l_255, l_256, l_288, l_300, l_522, l_634, l_999, l_5242, l_5410, l_5420, l_5520, l_5528, l_9999, l_65535, l_65536, l_100000, l_16777215, l_252645135, l_858993459, l_1431655765, ↓reduceIte, ↓to_bnd, bnd_some, b2_t, zB_1, eqF, r_Mo, ixN, inbN, mulN, addN, not_false_eq_true, not_true_eq_false, cu, z1, c2, t1, e0, cs, z2, u5, c4, z3, t3, ew', ew]
          · simp -dsimp -implicitDefEqProofs (disch := omega) only [f_Mo_lacksOf, f_Mo_lacksOf_93, f_Mo_paperOf, ↓l_m1, l_0, l_1, l_2, l_3, l_4, l_5, l_6, l_7, l_8, l_9, l_10, l_11, l_12, l_13, l_14, l_15, l_16, l_17, l_20, l_21, l_22, l_23, l_24, l_28, l_29, l_30, l_31, l_32, l_40, l_41, l_48, l_57, l_60, l_62, l_63, l_84, l_96, l_97, l_99, l_100, l_122, l_132, l_144, l_150, l_186, l_255, l_256, l_288, l_300, l_522, l_634, l_999, l_5242, l_5410, l_5420, l_5520, l_5528, l_9999, l_65535, l_65536, l_100000, l_16777215, l_252645135, l_858993459, l_1431655765, ↓reduceIte, ↓to_bnd, bnd_some, b2_t, zB_1, eqF, r_Mo, ixN, inbN, mulN, addN, not_false_eq_true, not_true_eq_false, cu, z1, c2, t1, e0, cs, z2, u5, c4, z3, t3, ew', ew, tz_m]
        · refine ⟨τ2, ?_, h2'⟩
          simp -dsimp -implicitDefEqProofs (disch := omega) only [f_Mo_lacksOf, f_Mo_paperOf, ↓l_m1, l_0, l_1, l_2, l_3, l_4, l_5, l_6, l_7, l_8, l_9, l_10, l_11, l_12, l_13, l_14, l_15, l_16, l_17, l_20, l_21, l_22, l_23, l_24, l_28, l_29, l_30, l_31, l_32, l_40, l_41, l_48, l_57, l_60, l_62, l_63, l_84, l_96, l_97, l_99, l_100, l_122, l_132, l_144, l_150, l_186, l_255, l_256, l_288, l_300, l_522, l_634, l_999, l_5242, l_5410, l_5420, l_5520, l_5528, l_9999, l_65535, l_65536, l_100000, l_16777215, l_252645135, l_858993459, l_1431655765, ↓reduceIte, ↓to_bnd, bnd_some, b2_t, zB_1, eqF, r_Mo, ixN, inbN, mulN, addN, not_false_eq_true, not_true_eq_false, cu, z1, c2, t1, e0, cs, z2, u5, c4]
    · refine ⟨τ1, ?_, h1⟩
      simp -dsimp -implicitDefEqProofs (disch := omega) only [f_Mo_lacksOf, ↓l_m1, l_0, l_1, l_2, l_3, l_4, l_5, l_6, l_7, l_8, l_9, l_10, l_11, l_12, l_13, l_14, l_15, l_16, l_17, l_20, l_21, l_22, l_23, l_24, l_28, l_29, l_30, l_31, l_32, l_40, l_41, l_48, l_57, l_60, l_62, l_63, l_84, l_96, l_97, l_99, l_100, l_122, l_132, l_144, l_150, l_186, l_255, l_256, l_288, l_300, l_522, l_634, l_999, l_5242, l_5410, l_5420, l_5520, l_5528, l_9999, l_65535, l_65536, l_100000, l_16777215, l_252645135, l_858993459, l_1431655765, ↓reduceIte, Nat.reduceAdd, Nat.reduceMul, Nat.reduceSub, ixN, inbN, leT, leF, ltT, ltF, eqT, eqF, eqM, eqNone, addN, mulN, subN, m1N, ↓to_bnd, bnd_some, ↓to_nmT, nmT_eq, up2_r, up2_e, pk_us, pk_un, b2_t, b2_f, b2_0, b2_1, zB_1, zB_0, zB_b2, not_true_eq_false, not_false_eq_true, r_Mo, Nat.add_zero, Nat.add_sub_cancel, within_R, within_N, in_R, in_N, inN_yes, inR_yes, inR_pred, orNone_nn, nn_m, nn_N, f_Ct_isDay, f_Ct_isThing, f_Ct_isKind, f_Ct_isRoomSeat, f_Ct_isOffice, f_Ct_isTable, f_Ct_isPaper, f_Ct_isRule, f_Ct_isDecision, f_Mo_isOffice, f_Mo_isTable, f_Mo_isPaper, f_Mo_isRule, f_Mo_isDecision, f_Mo_isDay, f_Mo_isThing, f_Mo_paperOf, f_Mo_set, cu, z1, c2]
theorem p_lacks : Pr_lacks Inv := by
  intro σ a1 a2 hI
  obtain ⟨s, g, hs, bs, r0, hg, hV, hS, hR⟩ := Inv_open hI
  obtain ⟨n, e5, l5, rv, hU, o5⟩ := ru_open hV hS
  obtain ⟨nP, e4, l4, g4⟩ := cnt_of hV.2.2.2.1.1
  obtain ⟨nT, e3, l3, g3⟩ := cnt_of hV.2.2.1.1
  have o4 := hS.2.2.2.1.1
  rw [e4] at o4
  have o3 := hS.2.2.1.1
  rw [e3] at o3
  rcases inN_cases a1 nP (by omega) with ⟨p, hp, rfl⟩ | c1
  · rcases inN_cases a2 nT (by omega) with ⟨t, ht, rfl⟩ | c2
    · obtain ⟨τ, z1, z2⟩ := mo_lacksOf (p := p) (t := t) hg hV (by omega) e5 l5 e3 l3 (by omega) ht
      refine ⟨lacksF g p t n, τ, ?_, ?_, Inv_scr hI z2⟩
      · simp -dsimp -implicitDefEqProofs (disch := omega) only [f_Ct_lacks_16, f_Ct_lacks, ↓l_m1, l_0, l_1, l_2, l_3, l_4, l_5, l_6, l_7, l_8, l_9, l_10, l_11, l_12, l_13, l_14, l_15, l_16, l_17, l_20, l_21, l_22, l_23, l_24, l_28, l_29, l_30, l_31, l_32, l_40, l_41, l_48, l_57, l_60, l_62, l_63, l_84, l_96, l_97, l_99, l_100, l_122, l_132, l_144, l_150, l_186, l_255, l_256, l_288, l_300, l_522, l_634, l_999, l_5242, l_5410, l_5420, l_5520, l_5528, l_9999, l_65535, l_65536, l_100000, l_16777215, l_252645135, l_858993459, l_1431655765, ↓reduceIte, Nat.reduceAdd, Nat.reduceMul, Nat.reduceSub, ixN, inbN, leT, leF, ltT, ltF, eqT, eqF, eqM, eqNone, addN, mulN, subN, m1N, ↓to_bnd, bnd_some, ↓to_nmT, nmT_eq, up2_r, up2_e, pk_us, pk_un, b2_t, b2_f, b2_0, b2_1, zB_1, zB_0, zB_b2, not_true_eq_false, not_false_eq_true, r_Mo, Nat.add_zero, Nat.add_sub_cancel, within_R, within_N, in_R, in_N, inN_yes, inR_yes, inR_pred, orNone_nn, nn_m, nn_N, f_Ct_isDay, f_Ct_isThing, f_Ct_isKind, f_Ct_isRoomSeat, f_Ct_isOffice, f_Ct_isTable, f_Ct_isPaper, f_Ct_isRule, f_Ct_isDecision, f_Mo_isOffice, f_Mo_isTable, f_Mo_isPaper, f_Mo_isRule, f_Mo_isDecision, f_Mo_isDay, f_Mo_isThing, f_Mo_paperOf, f_Mo_set, r0, r_s1 bs, r_s2 bs, r_p bs, o3, o4, c_whatLacks (p := p) (t := t) bs hV (by omega) hS e5 l5 e3 l3 (by omega) ht]
      · simp -dsimp -implicitDefEqProofs (disch := omega) only [f_Mo_lacks_27, f_Mo_lacks_25, f_Mo_lacks, ↓l_m1, l_0, l_1, l_2, l_3, l_4, l_5, l_6, l_7, l_8, l_9, l_10, l_11, l_12, l_13, l_14, l_15, l_16, l_17, l_20, l_21, l_22, l_23, l_24, l_28, l_29, l_30, l_31, l_32, l_40, l_41, l_48, l_57, l_60, l_62, l_63, l_84, l_96, l_97, l_99, l_100, l_122, l_132, l_144, l_150, l_186, l_255, l_256, l_288, l_300, l_522, l_634, l_999, l_5242, l_5410, l_5420, l_5520, l_5528, l_9999, l_65535, l_65536, l_100000, l_16777215, l_252645135, l_858993459, l_1431655765, ↓reduceIte, Nat.reduceAdd, Nat.reduceMul, Nat.reduceSub, ixN, inbN, leT, leF, ltT, ltF, eqT, eqF, eqM, eqNone, addN, mulN, subN, m1N, ↓to_bnd, bnd_some, ↓to_nmT, nmT_eq, up2_r, up2_e, pk_us, pk_un, b2_t, b2_f, b2_0, b2_1, zB_1, zB_0, zB_b2, not_true_eq_false, not_false_eq_true, r_Mo, Nat.add_zero, Nat.add_sub_cancel, within_R, within_N, in_R, in_N, inN_yes, inR_yes, inR_pred, orNone_nn, nn_m, nn_N, f_Ct_isDay, f_Ct_isThing, f_Ct_isKind, f_Ct_isRoomSeat, f_Ct_isOffice, f_Ct_isTable, f_Ct_isPaper, f_Ct_isRule, f_Ct_isDecision, f_Mo_isOffice, f_Mo_isTable, f_Mo_isPaper, f_Mo_isRule, f_Mo_isDecision, f_Mo_isDay, f_Mo_isThing, f_Mo_paperOf, f_Mo_set, hg, e3, e4, z1]
    · refine ⟨-1000000001, σ, ?_, ?_, hI⟩
      · simp -dsimp -implicitDefEqProofs (disch := omega) only [f_Ct_lacks_16, f_Ct_lacks, ↓l_m1, l_0, l_1, l_2, l_3, l_4, l_5, l_6, l_7, l_8, l_9, l_10, l_11, l_12, l_13, l_14, l_15, l_16, l_17, l_20, l_21, l_22, l_23, l_24, l_28, l_29, l_30, l_31, l_32, l_40, l_41, l_48, l_57, l_60, l_62, l_63, l_84, l_96, l_97, l_99, l_100, l_122, l_132, l_144, l_150, l_186, l_255, l_256, l_288, l_300, l_522, l_634, l_999, l_5242, l_5410, l_5420, l_5520, l_5528, l_9999, l_65535, l_65536, l_100000, l_16777215, l_252645135, l_858993459, l_1431655765, ↓reduceIte, Nat.reduceAdd, Nat.reduceMul, Nat.reduceSub, ixN, inbN, leT, leF, ltT, ltF, eqT, eqF, eqM, eqNone, addN, mulN, subN, m1N, ↓to_bnd, bnd_some, ↓to_nmT, nmT_eq, up2_r, up2_e, pk_us, pk_un, b2_t, b2_f, b2_0, b2_1, zB_1, zB_0, zB_b2, not_true_eq_false, not_false_eq_true, r_Mo, Nat.add_zero, Nat.add_sub_cancel, within_R, within_N, in_R, in_N, inN_yes, inR_yes, inR_pred, orNone_nn, nn_m, nn_N, f_Ct_isDay, f_Ct_isThing, f_Ct_isKind, f_Ct_isRoomSeat, f_Ct_isOffice, f_Ct_isTable, f_Ct_isPaper, f_Ct_isRule, f_Ct_isDecision, f_Mo_isOffice, f_Mo_isTable, f_Mo_isPaper, f_Mo_isRule, f_Mo_isDecision, f_Mo_isDay, f_Mo_isThing, f_Mo_paperOf, f_Mo_set, r0, r_s1 bs, o3, o4, c2]
      · simp -dsimp -implicitDefEqProofs (disch := omega) only [f_Mo_lacks_27, f_Mo_lacks_25, f_Mo_lacks, ↓l_m1, l_0, l_1, l_2, l_3, l_4, l_5, l_6, l_7, l_8, l_9, l_10, l_11, l_12, l_13, l_14, l_15, l_16, l_17, l_20, l_21, l_22, l_23, l_24, l_28, l_29, l_30, l_31, l_32, l_40, l_41, l_48, l_57, l_60, l_62, l_63, l_84, l_96, l_97, l_99, l_100, l_122, l_132, l_144, l_150, l_186, l_255, l_256, l_288, l_300, l_522, l_634, l_999, l_5242, l_5410, l_5420, l_5520, l_5528, l_9999, l_65535, l_65536, l_100000, l_16777215, l_252645135, l_858993459, l_1431655765, ↓reduceIte, Nat.reduceAdd, Nat.reduceMul, Nat.reduceSub, ixN, inbN, leT, leF, ltT, ltF, eqT, eqF, eqM, eqNone, addN, mulN, subN, m1N, ↓to_bnd, bnd_some, ↓to_nmT, nmT_eq, up2_r, up2_e, pk_us, pk_un, b2_t, b2_f, b2_0, b2_1, zB_1, zB_0, zB_b2, not_true_eq_false, not_false_eq_true, r_Mo, Nat.add_zero, Nat.add_sub_cancel, within_R, within_N, in_R, in_N, inN_yes, inR_yes, inR_pred, orNone_nn, nn_m, nn_N, f_Ct_isDay, f_Ct_isThing, f_Ct_isKind, f_Ct_isRoomSeat, f_Ct_isOffice, f_Ct_isTable, f_Ct_isPaper, f_Ct_isRule, f_Ct_isDecision, f_Mo_isOffice, f_Mo_isTable, f_Mo_isPaper, f_Mo_isRule, f_Mo_isDecision, f_Mo_isDay, f_Mo_isThing, f_Mo_paperOf, f_Mo_set, hg, e3, e4, c2]
  · refine ⟨-1000000001, σ, ?_, ?_, hI⟩
    · simp -dsimp -implicitDefEqProofs (disch := omega) only [f_Ct_lacks_16, f_Ct_lacks, ↓l_m1, l_0, l_1, l_2, l_3, l_4, l_5, l_6, l_7, l_8, l_9, l_10, l_11, l_12, l_13, l_14, l_15, l_16, l_17, l_20, l_21, l_22, l_23, l_24, l_28, l_29, l_30, l_31, l_32, l_40, l_41, l_48, l_57, l_60, l_62, l_63, l_84, l_96, l_97, l_99, l_100, l_122, l_132, l_144, l_150, l_186, l_255, l_256, l_288, l_300, l_522, l_634, l_999, l_5242, l_5410, l_5420, l_5520, l_5528, l_9999, l_65535, l_65536, l_100000, l_16777215, l_252645135, l_858993459, l_1431655765, ↓reduceIte, Nat.reduceAdd, Nat.reduceMul, Nat.reduceSub, ixN, inbN, leT, leF, ltT, ltF, eqT, eqF, eqM, eqNone, addN, mulN, subN, m1N, ↓to_bnd, bnd_some, ↓to_nmT, nmT_eq, up2_r, up2_e, pk_us, pk_un, b2_t, b2_f, b2_0, b2_1, zB_1, zB_0, zB_b2, not_true_eq_false, not_false_eq_true, r_Mo, Nat.add_zero, Nat.add_sub_cancel, within_R, within_N, in_R, in_N, inN_yes, inR_yes, inR_pred, orNone_nn, nn_m, nn_N, f_Ct_isDay, f_Ct_isThing, f_Ct_isKind, f_Ct_isRoomSeat, f_Ct_isOffice, f_Ct_isTable, f_Ct_isPaper, f_Ct_isRule, f_Ct_isDecision, f_Mo_isOffice, f_Mo_isTable, f_Mo_isPaper, f_Mo_isRule, f_Mo_isDecision, f_Mo_isDay, f_Mo_isThing, f_Mo_paperOf, f_Mo_set, r0, o4, c1]
    · simp -dsimp -implicitDefEqProofs (disch := omega) only [f_Mo_lacks_27, f_Mo_lacks_25, f_Mo_lacks, ↓l_m1, l_0, l_1, l_2, l_3, l_4, l_5, l_6, l_7, l_8, l_9, l_10, l_11, l_12, l_13, l_14, l_15, l_16, l_17, l_20, l_21, l_22, l_23, l_24, l_28, l_29, l_30, l_31, l_32, l_40, l_41, l_48, l_57, l_60, l_62, l_63, l_84, l_96, l_97, l_99, l_100, l_122, l_132, l_144, l_150, l_186, l_255, l_256, l_288, l_300, l_522, l_634, l_999, l_5242, l_5410, l_5420, l_5520, l_5528, l_9999, l_65535, l_65536, l_100000, l_16777215, l_252645135, l_858993459, l_1431655765, ↓reduceIte, Nat.reduceAdd, Nat.reduceMul, Nat.reduceSub, ixN, inbN, leT, leF, ltT, ltF, eqT, eqF, eqM, eqNone, addN, mulN, subN, m1N, ↓to_bnd, bnd_some, ↓to_nmT, nmT_eq, up2_r, up2_e, pk_us, pk_un, b2_t, b2_f, b2_0, b2_1, zB_1, zB_0, zB_b2, not_true_eq_false, not_false_eq_true, r_Mo, Nat.add_zero, Nat.add_sub_cancel, within_R, within_N, in_R, in_N, inN_yes, inR_yes, inR_pred, orNone_nn, nn_m, nn_N, f_Ct_isDay, f_Ct_isThing, f_Ct_isKind, f_Ct_isRoomSeat, f_Ct_isOffice, f_Ct_isTable, f_Ct_isPaper, f_Ct_isRule, f_Ct_isDecision, f_Mo_isOffice, f_Mo_isTable, f_Mo_isPaper, f_Mo_isRule, f_Mo_isDecision, f_Mo_isDay, f_Mo_isThing, f_Mo_paperOf, f_Mo_set, hg, e4, c1]
