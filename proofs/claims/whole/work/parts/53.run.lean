/-! a day, days -/
def silL (g : Nat → Int32) (n : Nat) : Nat → (Nat → Int32)
  | 0 => g
  | k + 1 => silG (silL g n k) k n
def dayG (g : Nat → Int32) : Nat → Int32 := upd (silL g (ix (g 5)) (ix (g 4))) 0 (nI (ix (g 0) + 1))
theorem silL_ok {D n nT nP : Nat} {g : Nat → Int32} (hV : VG D g) (hD : D ≤ 1100) (e5 : g 5 = nI n) (l5 : n ≤ 16) (e3 : g 3 = nI nT) (l3 : nT ≤ 6) (e4 : g 4 = nI nP) (l4 : nP ≤ 24) : ∀ k, k ≤ nP → VG D (silL g n k) ∧ (∀ j, j < 6 ∨ (6 < j ∧ j < 186) → silL g n k j = g j) ∧ (∀ q, k ≤ q → q < nP → ∀ j, 186 + 14 * q ≤ j → j < 200 + 14 * q → silL g n k j = g j) := by
  intro k
  induction k with
  | zero => intro _; exact ⟨hV, fun _ _ => rfl, fun _ _ _ _ _ _ => rfl⟩
  | succ k ih =>
    intro hk
    obtain ⟨v, f1, f2⟩ := ih (by omega)
    have hp : k < ix (silL g n k 4) := by rw [f1 4 (by omega), e4, ixN (by omega)]; omega
    refine ⟨sil_V v hD (by rw [f1 5 (by omega)]; exact e5) l5 (by rw [f1 3 (by omega)]; exact e3) l3 hp, fun j hj => ?_, fun q h1 h2 j h3 h4 => ?_⟩
    · rw [silL, silG_o (nT := nT) v hp (by omega) (by omega) (by omega), f1 j hj]
    · rw [silL, silG_o (nT := nT) v hp (by omega) (by omega) (by omega), f2 q (by omega) h2 j h3 h4]
theorem dayG_eq {n nP dd : Nat} {g : Nat → Int32} (e5 : g 5 = nI n) (l5 : n ≤ 16) (e4 : g 4 = nI nP) (l4 : nP ≤ 24) (e0 : g 0 = nI dd) (l0 : dd ≤ 1100) : dayG g = upd (silL g n nP) 0 (nI (dd + 1)) := by
  unfold dayG; rw [e5, e4, e0, ixN (by omega), ixN (by omega), ixN (by omega)]
theorem day_V {D : Nat} {g : Nat → Int32} (hV : VG D g) (hD : D ≤ 1099) : VG (D + 1) (dayG g) := by
  obtain ⟨dd, e0, l0, g0⟩ := cnt_of hV.1.1
  obtain ⟨n, e5, l5, g5⟩ := cnt_of hV.2.2.2.2.1.1
  obtain ⟨nT, e3, l3, g3⟩ := cnt_of hV.2.2.1.1
  obtain ⟨nP, e4, l4, g4⟩ := cnt_of hV.2.2.2.1.1
  obtain ⟨v, f1, f2⟩ := silL_ok hV (by omega) e5 l5 e3 l3 e4 l4 nP (Nat.le_refl _)
  rw [dayG_eq e5 l5 e4 l4 e0 (by omega)]
  refine VG_Sc (VG_mono v (Nat.le_succ _)) (fun j q => pk_un (by omega)) ⟨cntG_of pk_us (by omega) (by omega), cntG_c (g := g) hV.1.2 (by rw [pk_un (by omega), f1 1 (by omega)])⟩
theorem day_0 {D dd : Nat} {g : Nat → Int32} (e0 : g 0 = nI dd) (l0 : dd ≤ 1100) : dayG g 0 = nI (dd + 1) := by
  unfold dayG; rw [pk_us, e0, ixN (by omega)]
theorem c_letDay {σ : Mm} {s D : Nat} {g : Nat → Int32} (bs : BS s) (hV : VG D g) (hD : D ≤ 1099) (hS : StR σ s g) : ∃ σ', f_St_letDayGoBy s σ = some σ' ∧ StR σ' s (dayG g) ∧ ∀ a, ¬ (s ≤ a ∧ a < s + 84) → σ' a = σ a := by
  obtain ⟨dd, e0, l0, g0⟩ := cnt_of hV.1.1
  obtain ⟨n, e5, l5, g5⟩ := cnt_of hV.2.2.2.2.1.1
  obtain ⟨nT, e3, l3, g3⟩ := cnt_of hV.2.2.1.1
  obtain ⟨nP, e4, l4, g4⟩ := cnt_of hV.2.2.2.1.1
  have hb : s = 1 ∨ s = 85 ∨ s = 169 := bs
  have go : ∀ j k τ fuel, k + j = nP → j < fuel → StR τ s (silL g n k) → (∀ a, ¬ (s ≤ a ∧ a < s + 84) → τ a = σ a) → ∃ σ', f_St_letDayGoBy_2 fuel s (nI k) τ = some σ' ∧ StR σ' s (dayG g) ∧ ∀ a, ¬ (s ≤ a ∧ a < s + 84) → σ' a = σ a := by
    intro j
    induction j with
    | zero =>
      intro k τ fuel hk hf h1 h2
      obtain ⟨f, rfl⟩ : ∃ f', fuel = f' + 1 := ⟨fuel - 1, by omega⟩
      obtain rfl : k = nP := by omega
      obtain ⟨v, f1, f2⟩ := silL_ok hV (by omega) e5 l5 e3 l3 e4 l4 k (Nat.le_refl _)
      have o4 := h1.2.2.2.1.1
      rw [f1 4 (by omega), e4] at o4
      have o8 := h1.1.1
      rw [f1 0 (by omega), e0] at o8
      refine ⟨up2 τ s 8 (nI (dd + 1)), ?_, ?_, fun a h => by rw [up2_r _ _ _ (by omega)]; exact h2 a h⟩
      · simp -dsimp -implicitDefEqProofs (disch := omega) only [f_St_letDayGoBy_2, ↓l_m1, l_0, l_1, l_2, l_3, l_4, l_5, l_6, l_7, l_8, l_9, l_10, l_11, l_12, l_13, l_14, l_15, l_16, l_17, l_20, l_21, l_22, l_23, l_24, l_28, l_29, l_30, l_31, l_32, l_40, l_41, l_48, l_57, l_60, l_62, l_63, l_84, l_96, l_97, l_99, l_100, l_122, l_132, l_144, l_150, l_186, l_255, l_256, l_288, l_300, l_522, l_634, l_999, l_5242, l_5410, l_5420, l_5520, l_5528, l_9999, l_65535, l_65536, l_100000, l_16777215, l_252645135, l_858993459, l_1431655765, ↓reduceIte, Nat.reduceAdd, Nat.reduceMul, Nat.reduceSub, ixN, inbN, leT, leF, ltT, ltF, eqT, eqF, eqM, eqNone, addN, mulN, subN, m1N, ↓to_bnd, bnd_some, ↓to_nmT, nmT_eq, up2_r, up2_e, pk_us, pk_un, b2_t, b2_f, b2_0, b2_1, zB_1, zB_0, zB_b2, not_true_eq_false, not_false_eq_true, r_Mo, Nat.add_zero, Nat.add_sub_cancel, within_R, within_N, in_R, in_N, inN_yes, inR_yes, inR_pred, orNone_nn, nn_m, nn_N, f_Ct_isDay, f_Ct_isThing, f_Ct_isKind, f_Ct_isRoomSeat, f_Ct_isOffice, f_Ct_isTable, f_Ct_isPaper, f_Ct_isRule, f_Ct_isDecision, f_Mo_isOffice, f_Mo_isTable, f_Mo_isPaper, f_Mo_isRule, f_Mo_isDecision, f_Mo_isDay, f_Mo_isThing, f_Mo_paperOf, f_Mo_set, o4, o8]
      · rw [dayG_eq e5 l5 e4 l4 e0 (by omega)]
        refine StR_Sc h1 v ?_ ?_ ?_ (fun a p1 p2 p3 => up2_r _ _ _ p3) (fun j q => pk_un (by omega)) ⟨?_, ?_⟩
        · rw [up2_e, pk_un (by omega)]
        · rw [up2_e, pk_un (by omega)]
        · rw [up2_e, pk_un (by omega)]
        · rw [up2_e, pk_us, pk_us]
        · rw [up2_e, pk_un (by omega), pk_un (by omega)]; exact h1.1.2
    | succ j ih =>
      intro k τ fuel hk hf h1 h2
      obtain ⟨f, rfl⟩ : ∃ f', fuel = f' + 1 := ⟨fuel - 1, by omega⟩
      obtain ⟨v, f1, f2⟩ := silL_ok hV (by omega) e5 l5 e3 l3 e4 l4 k (by omega)
      have o4 := h1.2.2.2.1.1
      rw [f1 4 (by omega), e4] at o4
      obtain ⟨σ1, z1, z2, z3⟩ := c_settle (p := k) bs v (by omega) h1 (by rw [f1 5 (by omega)]; exact e5) l5 (by rw [f1 3 (by omega)]; exact e3) l3 (by rw [f1 4 (by omega), e4, ixN (by omega)]; omega)
      obtain ⟨σ', w1, w2⟩ := ih (k + 1) σ1 f (by omega) (by omega) z2 (fun a h => by rw [z3 a h, h2 a h])
      refine ⟨σ', ?_, w2⟩
      rw [← w1]
      simp -dsimp -implicitDefEqProofs (disch := omega) only [f_St_letDayGoBy_2, ↓l_m1, l_0, l_1, l_2, l_3, l_4, l_5, l_6, l_7, l_8, l_9, l_10, l_11, l_12, l_13, l_14, l_15, l_16, l_17, l_20, l_21, l_22, l_23, l_24, l_28, l_29, l_30, l_31, l_32, l_40, l_41, l_48, l_57, l_60, l_62, l_63, l_84, l_96, l_97, l_99, l_100, l_122, l_132, l_144, l_150, l_186, l_255, l_256, l_288, l_300, l_522, l_634, l_999, l_5242, l_5410, l_5420, l_5520, l_5528, l_9999, l_65535, l_65536, l_100000, l_16777215, l_252645135, l_858993459, l_1431655765, ↓reduceIte, Nat.reduceAdd, Nat.reduceMul, Nat.reduceSub, ixN, inbN, leT, leF, ltT, ltF, eqT, eqF, eqM, eqNone, addN, mulN, subN, m1N, ↓to_bnd, bnd_some, ↓to_nmT, nmT_eq, up2_r, up2_e, pk_us, pk_un, b2_t, b2_f, b2_0, b2_1, zB_1, zB_0, zB_b2, not_true_eq_false, not_false_eq_true, r_Mo, Nat.add_zero, Nat.add_sub_cancel, within_R, within_N, in_R, in_N, inN_yes, inR_yes, inR_pred, orNone_nn, nn_m, nn_N, f_Ct_isDay, f_Ct_isThing, f_Ct_isKind, f_Ct_isRoomSeat, f_Ct_isOffice, f_Ct_isTable, f_Ct_isPaper, f_Ct_isRule, f_Ct_isDecision, f_Mo_isOffice, f_Mo_isTable, f_Mo_isPaper, f_Mo_isRule, f_Mo_isDecision, f_Mo_isDay, f_Mo_isThing, f_Mo_paperOf, f_Mo_set, o4, z1]
  exact go nP 0 σ NN (by omega) (NN_lt (by omega)) hS (fun _ _ => rfl)
theorem mo_goesBy {σ : Mm} {D : Nat} {g : Nat → Int32} (hg : σ 299 = g) (hV : VG D g) (hD : D ≤ 1099) : ∃ τ, f_Mo_goesBy 298 σ = some τ ∧ τ 299 = dayG g ∧ ∀ a, a ≠ 299 → a ≠ 310 → a ≠ 311 → τ a = σ a := by
  obtain ⟨dd, e0, l0, g0⟩ := cnt_of hV.1.1
  obtain ⟨n, e5, l5, g5⟩ := cnt_of hV.2.2.2.2.1.1
  obtain ⟨nT, e3, l3, g3⟩ := cnt_of hV.2.2.1.1
  obtain ⟨nP, e4, l4, g4⟩ := cnt_of hV.2.2.2.1.1
  have go : ∀ j k τ fuel, k + j = nP → j < fuel → τ 299 = silL g n k → (∀ a, a ≠ 299 → a ≠ 310 → a ≠ 311 → τ a = σ a) → ∃ σ', f_Mo_goesBy_2 fuel 298 (nI k) τ = some σ' ∧ σ' 299 = dayG g ∧ ∀ a, a ≠ 299 → a ≠ 310 → a ≠ 311 → σ' a = σ a := by
    intro j
    induction j with
    | zero =>
      intro k τ fuel hk hf h1 h2
      obtain ⟨f, rfl⟩ : ∃ f', fuel = f' + 1 := ⟨fuel - 1, by omega⟩
      obtain rfl : k = nP := by omega
      obtain ⟨v, f1, f2⟩ := silL_ok hV (by omega) e5 l5 e3 l3 e4 l4 k (Nat.le_refl _)
      have o4 := f1 4 (by omega)
      have o0 := f1 0 (by omega)
      rw [e4] at o4
      rw [e0] at o0
      refine ⟨up2 τ 299 0 (nI (dd + 1)), ?_, ?_, fun a p1 p2 p3 => by rw [up2_r _ _ _ p1]; exact h2 a p1 p2 p3⟩
      · simp -dsimp -implicitDefEqProofs (disch := omega) only [f_Mo_goesBy_2, ↓l_m1, l_0, l_1, l_2, l_3, l_4, l_5, l_6, l_7, l_8, l_9, l_10, l_11, l_12, l_13, l_14, l_15, l_16, l_17, l_20, l_21, l_22, l_23, l_24, l_28, l_29, l_30, l_31, l_32, l_40, l_41, l_48, l_57, l_60, l_62, l_63, l_84, l_96, l_97, l_99, l_100, l_122, l_132, l_144, l_150, l_186, l_255, l_256, l_288, l_300, l_522, l_634, l_999, l_5242, l_5410, l_5420, l_5520, l_5528, l_9999, l_65535, l_65536, l_100000, l_16777215, l_252645135, l_858993459, l_1431655765, ↓reduceIte, Nat.reduceAdd, Nat.reduceMul, Nat.reduceSub, ixN, inbN, leT, leF, ltT, ltF, eqT, eqF, eqM, eqNone, addN, mulN, subN, m1N, ↓to_bnd, bnd_some, ↓to_nmT, nmT_eq, up2_r, up2_e, pk_us, pk_un, b2_t, b2_f, b2_0, b2_1, zB_1, zB_0, zB_b2, not_true_eq_false, not_false_eq_true, r_Mo, Nat.add_zero, Nat.add_sub_cancel, within_R, within_N, in_R, in_N, inN_yes, inR_yes, inR_pred, orNone_nn, nn_m, nn_N, f_Ct_isDay, f_Ct_isThing, f_Ct_isKind, f_Ct_isRoomSeat, f_Ct_isOffice, f_Ct_isTable, f_Ct_isPaper, f_Ct_isRule, f_Ct_isDecision, f_Mo_isOffice, f_Mo_isTable, f_Mo_isPaper, f_Mo_isRule, f_Mo_isDecision, f_Mo_isDay, f_Mo_isThing, f_Mo_paperOf, f_Mo_set, h1, o4, o0]
      · rw [dayG_eq e5 l5 e4 l4 e0 (by omega), up2_e, h1]
    | succ j ih =>
      intro k τ fuel hk hf h1 h2
      obtain ⟨f, rfl⟩ : ∃ f', fuel = f' + 1 := ⟨fuel - 1, by omega⟩
      obtain ⟨v, f1, f2⟩ := silL_ok hV (by omega) e5 l5 e3 l3 e4 l4 k (by omega)
      have o4 := f1 4 (by omega)
      rw [e4] at o4
      obtain ⟨σ1, z1, z2, z3⟩ := mo_isSilent (σ := τ) (p := k) h1 v (by omega) (by rw [f1 5 (by omega)]; exact e5) l5 (by rw [f1 3 (by omega)]; exact e3) l3 (by rw [f1 4 (by omega), e4, ixN (by omega)]; omega)
      obtain ⟨σ', w1, w2⟩ := ih (k + 1) σ1 f (by omega) (by omega) z2 (fun a p1 p2 p3 => by rw [z3 a p1 p2 p3, h2 a p1 p2 p3])
      refine ⟨σ', ?_, w2⟩
      rw [← w1]
      simp -dsimp -implicitDefEqProofs (disch := omega) only [f_Mo_goesBy_2, ↓l_m1, l_0, l_1, l_2, l_3, l_4, l_5, l_6, l_7, l_8, l_9, l_10, l_11, l_12, l_13, l_14, l_15, l_16, l_17, l_20, l_21, l_22, l_23, l_24, l_28, l_29, l_30, l_31, l_32, l_40, l_41, l_48, l_57, l_60, l_62, l_63, l_84, l_96, l_97, l_99, l_100, l_122, l_132, l_144, l_150, l_186, l_255, l_256, l_288, l_300, l_522, l_634, l_999, l_5242, l_5410, l_5420, l_5520, l_5528, l_9999, l_65535, l_65536, l_100000, l_16777215, l_252645135, l_858993459, l_1431655765, ↓reduceIte, Nat.reduceAdd, Nat.reduceMul, Nat.reduceSub, ixN, inbN, leT, leF, ltT, ltF, eqT, eqF, eqM, eqNone, addN, mulN, subN, m1N, ↓to_bnd, bnd_some, ↓to_nmT, nmT_eq, up2_r, up2_e, pk_us, pk_un, b2_t, b2_f, b2_0, b2_1, zB_1, zB_0, zB_b2, not_true_eq_false, not_false_eq_true, r_Mo, Nat.add_zero, Nat.add_sub_cancel, within_R, within_N, in_R, in_N, inN_yes, inR_yes, inR_pred, orNone_nn, nn_m, nn_N, f_Ct_isDay, f_Ct_isThing, f_Ct_isKind, f_Ct_isRoomSeat, f_Ct_isOffice, f_Ct_isTable, f_Ct_isPaper, f_Ct_isRule, f_Ct_isDecision, f_Mo_isOffice, f_Mo_isTable, f_Mo_isPaper, f_Mo_isRule, f_Mo_isDecision, f_Mo_isDay, f_Mo_isThing, f_Mo_paperOf, f_Mo_set, h1, o4, z1]
  exact go nP 0 σ NN (by omega) (NN_lt (by omega)) hg (fun _ _ _ _ => rfl)
def dayI (g : Nat → Int32) : Nat → (Nat → Int32)
  | 0 => g
  | k + 1 => dayG (dayI g k)
theorem dayI_V {D : Nat} {g : Nat → Int32} (hV : VG D g) : ∀ k, D + k ≤ 1100 → VG (D + k) (dayI g k) := by
  intro k
  induction k with
  | zero => intro _; exact hV
  | succ k ih => intro h; exact day_V (ih (by omega)) (show D + k ≤ 1099 by omega)
theorem dayI_0 {dd : Nat} {g : Nat → Int32} (e0 : g 0 = nI dd) : ∀ k, dd + k ≤ 1100 → dayI g k 0 = nI (dd + k) := by
  intro k
  induction k with
  | zero => intro _; exact e0
  | succ k ih => intro h; rw [dayI, day_0 (D := 0) (ih (by omega)) (by omega)]; rfl
theorem c_run_go {σ : Mm} {s D N dd : Nat} {g : Nat → Int32} (bs : BS s) (r0 : rfT 0 0 = s) (hV : VG D g) (hD : D + N ≤ 1000) (hN : N ≤ 60) (hS : StR σ s g) (e0 : g 0 = nI dd) (l0 : dd ≤ D) : ∀ j k τ fuel, k + j = N → j < fuel → StR τ s (dayI g k) → (∀ a, ¬ (s ≤ a ∧ a < s + 84) → τ a = σ a) → ∃ σ', f_Ct_run_33 fuel 0 (nI N) (nI k) τ = some (nI (dd + N), σ') ∧ StR σ' s (dayI g N) ∧ ∀ a, ¬ (s ≤ a ∧ a < s + 84) → σ' a = σ a := by
  intro j
  induction j with
  | zero =>
    intro k τ fuel hk hf h1 h2
    obtain ⟨f, rfl⟩ : ∃ f', fuel = f' + 1 := ⟨fuel - 1, by omega⟩
    obtain rfl : k = N := by omega
    have o8 := h1.1.1
    rw [dayI_0 e0 k (by omega)] at o8
    refine ⟨τ, ?_, h1, h2⟩
    simp -dsimp -implicitDefEqProofs (disch := omega) only [f_Ct_run_33, ↓l_m1, l_0, l_1, l_2, l_3, l_4, l_5, l_6, l_7, l_8, l_9, l_10, l_11, l_12, l_13, l_14, l_15, l_16, l_17, l_20, l_21, l_22, l_23, l_24, l_28, l_29, l_30, l_31, l_32, l_40, l_41, l_48, l_57, l_60, l_62, l_63, l_84, l_96, l_97, l_99, l_100, l_122, l_132, l_144, l_150, l_186, l_255, l_256, l_288, l_300, l_522, l_634, l_999, l_5242, l_5410, l_5420, l_5520, l_5528, l_9999, l_65535, l_65536, l_100000, l_16777215, l_252645135, l_858993459, l_1431655765, ↓reduceIte, Nat.reduceAdd, Nat.reduceMul, Nat.reduceSub, ixN, inbN, leT, leF, ltT, ltF, eqT, eqF, eqM, eqNone, addN, mulN, subN, m1N, ↓to_bnd, bnd_some, ↓to_nmT, nmT_eq, up2_r, up2_e, pk_us, pk_un, b2_t, b2_f, b2_0, b2_1, zB_1, zB_0, zB_b2, not_true_eq_false, not_false_eq_true, r_Mo, Nat.add_zero, Nat.add_sub_cancel, within_R, within_N, in_R, in_N, inN_yes, inR_yes, inR_pred, orNone_nn, nn_m, nn_N, f_Ct_isDay, f_Ct_isThing, f_Ct_isKind, f_Ct_isRoomSeat, f_Ct_isOffice, f_Ct_isTable, f_Ct_isPaper, f_Ct_isRule, f_Ct_isDecision, f_Mo_isOffice, f_Mo_isTable, f_Mo_isPaper, f_Mo_isRule, f_Mo_isDecision, f_Mo_isDay, f_Mo_isThing, f_Mo_paperOf, f_Mo_set, r0, o8]
  | succ j ih =>
    intro k τ fuel hk hf h1 h2
    obtain ⟨f, rfl⟩ : ∃ f', fuel = f' + 1 := ⟨fuel - 1, by omega⟩
    obtain ⟨σ1, z1, z2, z3⟩ := c_letDay bs (dayI_V hV k (by omega)) (by omega) h1
    obtain ⟨σ', w1, w2⟩ := ih (k + 1) σ1 f (by omega) (by omega) z2 (fun a h => by rw [z3 a h, h2 a h])
    refine ⟨σ', ?_, w2⟩
    rw [← w1]
    simp -dsimp -implicitDefEqProofs (disch := omega) only [f_Ct_run_33, ↓l_m1, l_0, l_1, l_2, l_3, l_4, l_5, l_6, l_7, l_8, l_9, l_10, l_11, l_12, l_13, l_14, l_15, l_16, l_17, l_20, l_21, l_22, l_23, l_24, l_28, l_29, l_30, l_31, l_32, l_40, l_41, l_48, l_57, l_60, l_62, l_63, l_84, l_96, l_97, l_99, l_100, l_122, l_132, l_144, l_150, l_186, l_255, l_256, l_288, l_300, l_522, l_634, l_999, l_5242, l_5410, l_5420, l_5520, l_5528, l_9999, l_65535, l_65536, l_100000, l_16777215, l_252645135, l_858993459, l_1431655765, ↓reduceIte, Nat.reduceAdd, Nat.reduceMul, Nat.reduceSub, ixN, inbN, leT, leF, ltT, ltF, eqT, eqF, eqM, eqNone, addN, mulN, subN, m1N, ↓to_bnd, bnd_some, ↓to_nmT, nmT_eq, up2_r, up2_e, pk_us, pk_un, b2_t, b2_f, b2_0, b2_1, zB_1, zB_0, zB_b2, not_true_eq_false, not_false_eq_true, r_Mo, Nat.add_zero, Nat.add_sub_cancel, within_R, within_N, in_R, in_N, inN_yes, inR_yes, inR_pred, orNone_nn, nn_m, nn_N, f_Ct_isDay, f_Ct_isThing, f_Ct_isKind, f_Ct_isRoomSeat, f_Ct_isOffice, f_Ct_isTable, f_Ct_isPaper, f_Ct_isRule, f_Ct_isDecision, f_Mo_isOffice, f_Mo_isTable, f_Mo_isPaper, f_Mo_isRule, f_Mo_isDecision, f_Mo_isDay, f_Mo_isThing, f_Mo_paperOf, f_Mo_set, r0, z1]
theorem mo_run_go {σ : Mm} {D N dd : Nat} {g : Nat → Int32} (hV : VG D g) (hD : D + N ≤ 1000) (hN : N ≤ 60) (e0 : g 0 = nI dd) (l0 : dd ≤ D) : ∀ j k τ fuel, k + j = N → j < fuel → τ 299 = dayI g k → (∀ a, a ≠ 299 → a ≠ 310 → a ≠ 311 → τ a = σ a) → ∃ σ', f_Mo_run_32 fuel 298 (nI N) (nI k) τ = some (nI (dd + N), σ') ∧ σ' 299 = dayI g N ∧ ∀ a, a ≠ 299 → a ≠ 310 → a ≠ 311 → σ' a = σ a := by
  intro j
  induction j with
  | zero =>
    intro k τ fuel hk hf h1 h2
    obtain ⟨f, rfl⟩ : ∃ f', fuel = f' + 1 := ⟨fuel - 1, by omega⟩
    obtain rfl : k = N := by omega
    have o0 := dayI_0 e0 k (by omega)
    refine ⟨τ, ?_, h1, h2⟩
    simp -dsimp -implicitDefEqProofs (disch := omega) only [f_Mo_run_32, ↓l_m1, l_0, l_1, l_2, l_3, l_4, l_5, l_6, l_7, l_8, l_9, l_10, l_11, l_12, l_13, l_14, l_15, l_16, l_17, l_20, l_21, l_22, l_23, l_24, l_28, l_29, l_30, l_31, l_32, l_40, l_41, l_48, l_57, l_60, l_62, l_63, l_84, l_96, l_97, l_99, l_100, l_122, l_132, l_144, l_150, l_186, l_255, l_256, l_288, l_300, l_522, l_634, l_999, l_5242, l_5410, l_5420, l_5520, l_5528, l_9999, l_65535, l_65536, l_100000, l_16777215, l_252645135, l_858993459, l_1431655765, ↓reduceIte, Nat.reduceAdd, Nat.reduceMul, Nat.reduceSub, ixN, inbN, leT, leF, ltT, ltF, eqT, eqF, eqM, eqNone, addN, mulN, subN, m1N, ↓to_bnd, bnd_some, ↓to_nmT, nmT_eq, up2_r, up2_e, pk_us, pk_un, b2_t, b2_f, b2_0, b2_1, zB_1, zB_0, zB_b2, not_true_eq_false, not_false_eq_true, r_Mo, Nat.add_zero, Nat.add_sub_cancel, within_R, within_N, in_R, in_N, inN_yes, inR_yes, inR_pred, orNone_nn, nn_m, nn_N, f_Ct_isDay, f_Ct_isThing, f_Ct_isKind, f_Ct_isRoomSeat, f_Ct_isOffice, f_Ct_isTable, f_Ct_isPaper, f_Ct_isRule, f_Ct_isDecision, f_Mo_isOffice, f_Mo_isTable, f_Mo_isPaper, f_Mo_isRule, f_Mo_isDecision, f_Mo_isDay, f_Mo_isThing, f_Mo_paperOf, f_Mo_set, h1, o0]
  | succ j ih =>
    intro k τ fuel hk hf h1 h2
    obtain ⟨f, rfl⟩ : ∃ f', fuel = f' + 1 := ⟨fuel - 1, by omega⟩
    obtain ⟨σ1, z1, z2, z3⟩ := mo_goesBy h1 (dayI_V hV k (by omega)) (by omega)
    obtain ⟨σ', w1, w2⟩ := ih (k + 1) σ1 f (by omega) (by omega) z2 (fun a p1 p2 p3 => by rw [z3 a p1 p2 p3, h2 a p1 p2 p3])
    refine ⟨σ', ?_, w2⟩
    rw [← w1]
    simp -dsimp -implicitDefEqProofs (disch := omega) only [f_Mo_run_32, ↓l_m1, l_0, l_1, l_2, l_3, l_4, l_5, l_6, l_7, l_8, l_9, l_10, l_11, l_12, l_13, l_14, l_15, l_16, l_17, l_20, l_21, l_22, l_23, l_24, l_28, l_29, l_30, l_31, l_32, l_40, l_41, l_48, l_57, l_60, l_62, l_63, l_84, l_96, l_97, l_99, l_100, l_122, l_132, l_144, l_150, l_186, l_255, l_256, l_288, l_300, l_522, l_634, l_999, l_5242, l_5410, l_5420, l_5520, l_5528, l_9999, l_65535, l_65536, l_100000, l_16777215, l_252645135, l_858993459, l_1431655765, ↓reduceIte, Nat.reduceAdd, Nat.reduceMul, Nat.reduceSub, ixN, inbN, leT, leF, ltT, ltF, eqT, eqF, eqM, eqNone, addN, mulN, subN, m1N, ↓to_bnd, bnd_some, ↓to_nmT, nmT_eq, up2_r, up2_e, pk_us, pk_un, b2_t, b2_f, b2_0, b2_1, zB_1, zB_0, zB_b2, not_true_eq_false, not_false_eq_true, r_Mo, Nat.add_zero, Nat.add_sub_cancel, within_R, within_N, in_R, in_N, inN_yes, inR_yes, inR_pred, orNone_nn, nn_m, nn_N, f_Ct_isDay, f_Ct_isThing, f_Ct_isKind, f_Ct_isRoomSeat, f_Ct_isOffice, f_Ct_isTable, f_Ct_isPaper, f_Ct_isRule, f_Ct_isDecision, f_Mo_isOffice, f_Mo_isTable, f_Mo_isPaper, f_Mo_isRule, f_Mo_isDecision, f_Mo_isDay, f_Mo_isThing, f_Mo_paperOf, f_Mo_set, z1]
theorem VG_day {D dd : Nat} {g : Nat → Int32} (h : VG D g) (e0 : g 0 = nI dd) (l0 : dd < 2000) : VG dd g := ⟨⟨⟨h.1.1.1, by rw [e0, ixN (by omega)]; exact Nat.le_refl _⟩, h.1.2⟩, h.2⟩
theorem p_run : Pr_run Inv := by
  intro σ a1 hI
  obtain ⟨s, g, hs, bs, r0, hg, hV, hS, hR⟩ := Inv_open hI
  obtain ⟨dd, e0, l0, g0⟩ := cnt_of hV.1.1
  have o8 := hS.1.1
  rw [e0] at o8
  rcases inR_cases a1 1 60 (by omega) (by omega) with ⟨N, hN1, hN, rfl⟩ | c1
  · by_cases c : dd + N ≤ 999
    · have hV2 := VG_day hV e0 (by omega)
      obtain ⟨σ1, z1, z2, z3⟩ := c_run_go (N := N) bs r0 hV2 (by omega) hN hS e0 (Nat.le_refl _) N 0 σ NN (by omega) (NN_lt (by omega)) hS (fun _ _ => rfl)
      have g1 : σ1 299 = g := by rw [z3 299 (by omega), hg]
      obtain ⟨σ2, w1, w2, w3⟩ := mo_run_go (σ := σ1) (N := N) hV2 (by omega) hN e0 (Nat.le_refl _) N 0 σ1 NN (by omega) (NN_lt (by omega)) g1 (fun _ _ _ _ => rfl)
      refine ⟨nI (dd + N), σ1, σ2, ?_, ?_, ?_⟩
      · simp -dsimp -implicitDefEqProofs (disch := omega) only [f_Ct_run, ↓l_m1, l_0, l_1, l_2, l_3, l_4, l_5, l_6, l_7, l_8, l_9, l_10, l_11, l_12, l_13, l_14, l_15, l_16, l_17, l_20, l_21, l_22, l_23, l_24, l_28, l_29, l_30, l_31, l_32, l_40, l_41, l_48, l_57, l_60, l_62, l_63, l_84, l_96, l_97, l_99, l_100, l_122, l_132, l_144, l_150, l_186, l_255, l_256, l_288, l_300, l_522, l_634, l_999, l_5242, l_5410, l_5420, l_5520, l_5528, l_9999, l_65535, l_65536, l_100000, l_16777215, l_252645135, l_858993459, l_1431655765, ↓reduceIte, Nat.reduceAdd, Nat.reduceMul, Nat.reduceSub, ixN, inbN, leT, leF, ltT, ltF, eqT, eqF, eqM, eqNone, addN, mulN, subN, m1N, ↓to_bnd, bnd_some, ↓to_nmT, nmT_eq, up2_r, up2_e, pk_us, pk_un, b2_t, b2_f, b2_0, b2_1, zB_1, zB_0, zB_b2, not_true_eq_false, not_false_eq_true, r_Mo, Nat.add_zero, Nat.add_sub_cancel, within_R, within_N, in_R, in_N, inN_yes, inR_yes, inR_pred, orNone_nn, nn_m, nn_N, f_Ct_isDay, f_Ct_isThing, f_Ct_isKind, f_Ct_isRoomSeat, f_Ct_isOffice, f_Ct_isTable, f_Ct_isPaper, f_Ct_isRule, f_Ct_isDecision, f_Mo_isOffice, f_Mo_isTable, f_Mo_isPaper, f_Mo_isRule, f_Mo_isDecision, f_Mo_isDay, f_Mo_isThing, f_Mo_paperOf, f_Mo_set, r0, o8]
        exact z1
      · simp -dsimp -implicitDefEqProofs (disch := omega) only [f_Mo_run, ↓l_m1, l_0, l_1, l_2, l_3, l_4, l_5, l_6, l_7, l_8, l_9, l_10, l_11, l_12, l_13, l_14, l_15, l_16, l_17, l_20, l_21, l_22, l_23, l_24, l_28, l_29, l_30, l_31, l_32, l_40, l_41, l_48, l_57, l_60, l_62, l_63, l_84, l_96, l_97, l_99, l_100, l_122, l_132, l_144, l_150, l_186, l_255, l_256, l_288, l_300, l_522, l_634, l_999, l_5242, l_5410, l_5420, l_5520, l_5528, l_9999, l_65535, l_65536, l_100000, l_16777215, l_252645135, l_858993459, l_1431655765, ↓reduceIte, Nat.reduceAdd, Nat.reduceMul, Nat.reduceSub, ixN, inbN, leT, leF, ltT, ltF, eqT, eqF, eqM, eqNone, addN, mulN, subN, m1N, ↓to_bnd, bnd_some, ↓to_nmT, nmT_eq, up2_r, up2_e, pk_us, pk_un, b2_t, b2_f, b2_0, b2_1, zB_1, zB_0, zB_b2, not_true_eq_false, not_false_eq_true, r_Mo, Nat.add_zero, Nat.add_sub_cancel, within_R, within_N, in_R, in_N, inN_yes, inR_yes, inR_pred, orNone_nn, nn_m, nn_N, f_Ct_isDay, f_Ct_isThing, f_Ct_isKind, f_Ct_isRoomSeat, f_Ct_isOffice, f_Ct_isTable, f_Ct_isPaper, f_Ct_isRule, f_Ct_isDecision, f_Mo_isOffice, f_Mo_isTable, f_Mo_isPaper, f_Mo_isRule, f_Mo_isDecision, f_Mo_isDay, f_Mo_isThing, f_Mo_paperOf, f_Mo_set, g1, e0]
        exact w1
      · have v' := VG_mono (dayI_V hV2 N (by omega)) c
        refine Inv_mk hs (by rw [w2]; exact v') (by rw [w2]; exact StR_c z2 v' (fun a p1 p2 => w3 a (by omega) (by omega) (by omega))) (ReR_c' hR (fun a q => by rw [w3 a (by omega) (by omega) (by omega), z3 a (by omega)]))
    · refine ⟨-1000000003, σ, σ, ?_, ?_, hI⟩
      · simp -dsimp -implicitDefEqProofs (disch := omega) only [f_Ct_run, ↓l_m1, l_0, l_1, l_2, l_3, l_4, l_5, l_6, l_7, l_8, l_9, l_10, l_11, l_12, l_13, l_14, l_15, l_16, l_17, l_20, l_21, l_22, l_23, l_24, l_28, l_29, l_30, l_31, l_32, l_40, l_41, l_48, l_57, l_60, l_62, l_63, l_84, l_96, l_97, l_99, l_100, l_122, l_132, l_144, l_150, l_186, l_255, l_256, l_288, l_300, l_522, l_634, l_999, l_5242, l_5410, l_5420, l_5520, l_5528, l_9999, l_65535, l_65536, l_100000, l_16777215, l_252645135, l_858993459, l_1431655765, ↓reduceIte, Nat.reduceAdd, Nat.reduceMul, Nat.reduceSub, ixN, inbN, leT, leF, ltT, ltF, eqT, eqF, eqM, eqNone, addN, mulN, subN, m1N, ↓to_bnd, bnd_some, ↓to_nmT, nmT_eq, up2_r, up2_e, pk_us, pk_un, b2_t, b2_f, b2_0, b2_1, zB_1, zB_0, zB_b2, not_true_eq_false, not_false_eq_true, r_Mo, Nat.add_zero, Nat.add_sub_cancel, within_R, within_N, in_R, in_N, inN_yes, inR_yes, inR_pred, orNone_nn, nn_m, nn_N, f_Ct_isDay, f_Ct_isThing, f_Ct_isKind, f_Ct_isRoomSeat, f_Ct_isOffice, f_Ct_isTable, f_Ct_isPaper, f_Ct_isRule, f_Ct_isDecision, f_Mo_isOffice, f_Mo_isTable, f_Mo_isPaper, f_Mo_isRule, f_Mo_isDecision, f_Mo_isDay, f_Mo_isThing, f_Mo_paperOf, f_Mo_set, r0, o8]
      · simp -dsimp -implicitDefEqProofs (disch := omega) only [f_Mo_run, ↓l_m1, l_0, l_1, l_2, l_3, l_4, l_5, l_6, l_7, l_8, l_9, l_10, l_11, l_12, l_13, l_14, l_15, l_16, l_17, l_20, l_21, l_22, l_23, l_24, l_28, l_29, l_30, l_31, l_32, l_40, l_41, l_48, l_57, l_60, l_62, l_63, l_84, l_96, l_97, l_99, l_100, l_122, l_132, l_144, l_150, l_186, l_255, l_256, l_288, l_300, l_522, l_634, l_999, l_5242, l_5410, l_5420, l_5520, l_5528, l_9999, l_65535, l_65536, l_100000, l_16777215, l_252645135, l_858993459, l_1431655765, ↓reduceIte, Nat.reduceAdd, Nat.reduceMul, Nat.reduceSub, ixN, inbN, leT, leF, ltT, ltF, eqT, eqF, eqM, eqNone, addN, mulN, subN, m1N, ↓to_bnd, bnd_some, ↓to_nmT, nmT_eq, up2_r, up2_e, pk_us, pk_un, b2_t, b2_f, b2_0, b2_1, zB_1, zB_0, zB_b2, not_true_eq_false, not_false_eq_true, r_Mo, Nat.add_zero, Nat.add_sub_cancel, within_R, within_N, in_R, in_N, inN_yes, inR_yes, inR_pred, orNone_nn, nn_m, nn_N, f_Ct_isDay, f_Ct_isThing, f_Ct_isKind, f_Ct_isRoomSeat, f_Ct_isOffice, f_Ct_isTable, f_Ct_isPaper, f_Ct_isRule, f_Ct_isDecision, f_Mo_isOffice, f_Mo_isTable, f_Mo_isPaper, f_Mo_isRule, f_Mo_isDecision, f_Mo_isDay, f_Mo_isThing, f_Mo_paperOf, f_Mo_set, hg, e0]
  · refine ⟨-1000000001, σ, σ, ?_, ?_, hI⟩
    · simp -dsimp -implicitDefEqProofs (disch := omega) only [f_Ct_run, ↓l_m1, l_0, l_1, l_2, l_3, l_4, l_5, l_6, l_7, l_8, l_9, l_10, l_11, l_12, l_13, l_14, l_15, l_16, l_17, l_20, l_21, l_22, l_23, l_24, l_28, l_29, l_30, l_31, l_32, l_40, l_41, l_48, l_57, l_60, l_62, l_63, l_84, l_96, l_97, l_99, l_100, l_122, l_132, l_144, l_150, l_186, l_255, l_256, l_288, l_300, l_522, l_634, l_999, l_5242, l_5410, l_5420, l_5520, l_5528, l_9999, l_65535, l_65536, l_100000, l_16777215, l_252645135, l_858993459, l_1431655765, ↓reduceIte, Nat.reduceAdd, Nat.reduceMul, Nat.reduceSub, ixN, inbN, leT, leF, ltT, ltF, eqT, eqF, eqM, eqNone, addN, mulN, subN, m1N, ↓to_bnd, bnd_some, ↓to_nmT, nmT_eq, up2_r, up2_e, pk_us, pk_un, b2_t, b2_f, b2_0, b2_1, zB_1, zB_0, zB_b2, not_true_eq_false, not_false_eq_true, r_Mo, Nat.add_zero, Nat.add_sub_cancel, within_R, within_N, in_R, in_N, inN_yes, inR_yes, inR_pred, orNone_nn, nn_m, nn_N, f_Ct_isDay, f_Ct_isThing, f_Ct_isKind, f_Ct_isRoomSeat, f_Ct_isOffice, f_Ct_isTable, f_Ct_isPaper, f_Ct_isRule, f_Ct_isDecision, f_Mo_isOffice, f_Mo_isTable, f_Mo_isPaper, f_Mo_isRule, f_Mo_isDecision, f_Mo_isDay, f_Mo_isThing, f_Mo_paperOf, f_Mo_set, c1]
    · simp -dsimp -implicitDefEqProofs (disch := omega) only [f_Mo_run, ↓l_m1, l_0, l_1, l_2, l_3, l_4, l_5, l_6, l_7, l_8, l_9, l_10, l_11, l_12, l_13, l_14, l_15, l_16, l_17, l_20, l_21, l_22, l_23, l_24, l_28, l_29, l_30, l_31, l_32, l_40, l_41, l_48, l_57, l_60, l_62, l_63, l_84, l_96, l_97, l_99, l_100, l_122, l_132, l_144, l_150, l_186, l_255, l_256, l_288, l_300, l_522, l_634, l_999, l_5242, l_5410, l_5420, l_5520, l_5528, l_9999, l_65535, l_65536, l_100000, l_16777215, l_252645135, l_858993459, l_1431655765, ↓reduceIte, Nat.reduceAdd, Nat.reduceMul, Nat.reduceSub, ixN, inbN, leT, leF, ltT, ltF, eqT, eqF, eqM, eqNone, addN, mulN, subN, m1N, ↓to_bnd, bnd_some, ↓to_nmT, nmT_eq, up2_r, up2_e, pk_us, pk_un, b2_t, b2_f, b2_0, b2_1, zB_1, zB_0, zB_b2, not_true_eq_false, not_false_eq_true, r_Mo, Nat.add_zero, Nat.add_sub_cancel, within_R, within_N, in_R, in_N, inN_yes, inR_yes, inR_pred, orNone_nn, nn_m, nn_N, f_Ct_isDay, f_Ct_isThing, f_Ct_isKind, f_Ct_isRoomSeat, f_Ct_isOffice, f_Ct_isTable, f_Ct_isPaper, f_Ct_isRule, f_Ct_isDecision, f_Mo_isOffice, f_Mo_isTable, f_Mo_isPaper, f_Mo_isRule, f_Mo_isDecision, f_Mo_isDay, f_Mo_isThing, f_Mo_paperOf, f_Mo_set, c1]
