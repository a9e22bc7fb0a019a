/-! checking -/
def stV (h : Nat → Int32) : Int32 := nI (popN (fun i => btI (stdW h (-1000000005) (h 0) (ix (h 6))) i) 31)
def opV (h : Nat → Int32) : Int32 := nI (popN (fun i => btI (setF (openB h (ix (h 5))) (ix (h 4))) i) 31)
def vaG (g : Nat → Int32) (i : Nat) : Int32 := if i % 2 = 0 then stV (dayI g (i / 2 + 1)) else opV (dayI g (i / 2 + 1))
theorem c_stV {τ : Mm} {s D : Nat} {h : Nat → Int32} (bs : BS s) (hV : VG D h) (hS : StR τ s h) : ∃ y, f_Dk_standing τ (s + 12) (τ s 8) = some y ∧ ∀ τ', f_In_bitCount τ' y = some (stV h) := by
  obtain ⟨n, e6, l6, dv, o6, hD⟩ := dc_open hV hS
  refine ⟨_, c_standing bs e6 l6 dv hD (τ s 8), fun τ' => ?_⟩
  rw [bitCount_eq, pop31 (stdW_31 h _ _ l6)]
  unfold stV
  rw [hS.1.1, e6, ixN (by omega)]
theorem c_opV {τ : Mm} {s D : Nat} {h : Nat → Int32} (bs : BS s) (hV : VG D h) (hS : StR τ s h) : ∃ y, f_St_openPapers τ s = some y ∧ ∀ τ', f_In_bitCount τ' y = some (opV h) := by
  obtain ⟨n, e5, l5, rv, hU, o5⟩ := ru_open hV hS
  obtain ⟨nP, e4, l4, g4⟩ := cnt_of hV.2.2.2.1.1
  refine ⟨_, c_openPapers bs hV hS e5 l5 e4 l4, fun τ' => ?_⟩
  rw [bitCount_eq, pop31 (by rw [b_set _ nP (by omega) 31 (by omega), decide_eq_false (by omega), Bool.false_and])]
  unfold opV
  rw [e5, e4, ixN (by omega), ixN (by omega)]
def ckI (w N : Nat) (x v : Nat → Int32) : Nat → Nat → Int32
  | 0, _ => if w ≤ N then nI 0 else nI (N + 1)
  | m + 1, i => if w ≤ i then nI (i + 1) else if x i = v i then ckI w N x v m (i + 1) else nI (i + 1)
theorem c_check_go {σ : Mm} {s n w : Nat} {g x : Nat → Int32} (bs : BS s) (hs : s = 169) (r0 : rfT 0 2 = s) (hV : VG 999 g) (hn : n ≤ 28) (hw : w ≤ 60) (hx : ∀ i, i < w → σ 263 i = x i) : ∀ m i τ fuel, i + m = 2 * n → m < fuel → StR τ s (dayI g ((i + 1) / 2)) → (∀ a, ¬ (s ≤ a ∧ a < s + 84) → τ a = σ a) → ∃ σ', f_Ct_check_46 fuel 0 (nI n) (nI w) (nI i) τ = some (ckI w (2 * n) x (vaG g) m i, σ') ∧ ∀ a, ¬ (s ≤ a ∧ a < s + 84) → σ' a = σ a := by
  intro m
  induction m with
  | zero =>
    intro i τ fuel hi hf h1 h2
    obtain ⟨f, rfl⟩ : ∃ f', fuel = f' + 1 := ⟨fuel - 1, by omega⟩
    obtain rfl : i = 2 * n := by omega
    refine ⟨τ, ?_, h2⟩
    by_cases c : w ≤ 2 * n
    · simp -dsimp -implicitDefEqProofs (disch := omega) only [f_Ct_check_46, f_Ct_check_146, ↓l_m1, l_0, l_1, l_2, l_3, l_4, l_5, l_6, l_7, l_8, l_9, l_10, l_11, l_12, l_13, l_14, l_15, l_16, l_17, l_20, l_21, l_22, l_23, l_24, l_28, l_29, l_30, l_31, l_32, l_40, l_41, l_48, l_57, l_60, l_62, l_63, l_84, l_96, l_97, l_99, l_100, l_122, l_132, l_144, l_150, l_186, l_255, l_256, l_288, l_300, l_522, l_634, l_999, l_5242, l_5410, l_5420, l_5520, l_5528, l_9999, l_65535, l_65536, l_100000, l_16777215, l_252645135, l_858993459, l_1431655765, ↓reduceIte, Nat.reduceAdd, Nat.reduceMul, Nat.reduceSub, ixN, inbN, leT, leF, ltT, ltF, eqT, eqF, eqM, eqNone, addN, mulN, subN, m1N, ↓to_bnd, bnd_some, ↓to_nmT, nmT_eq, up2_r, up2_e, pk_us, pk_un, b2_t, b2_f, b2_0, b2_1, zB_1, zB_0, zB_b2, not_true_eq_false, not_false_eq_true, r_Mo, Nat.add_zero, Nat.add_sub_cancel, within_R, within_N, in_R, in_N, inN_yes, inR_yes, inR_pred, orNone_nn, nn_m, nn_N, f_Ct_isDay, f_Ct_isThing, f_Ct_isKind, f_Ct_isRoomSeat, f_Ct_isOffice, f_Ct_isTable, f_Ct_isPaper, f_Ct_isRule, f_Ct_isDecision, f_Mo_isOffice, f_Mo_isTable, f_Mo_isPaper, f_Mo_isRule, f_Mo_isDecision, f_Mo_isDay, f_Mo_isThing, f_Mo_paperOf, f_Mo_set, ckI, if_pos c]
    · simp -dsimp -implicitDefEqProofs (disch := omega) only [f_Ct_check_46, f_Ct_check_146, ↓l_m1, l_0, l_1, l_2, l_3, l_4, l_5, l_6, l_7, l_8, l_9, l_10, l_11, l_12, l_13, l_14, l_15, l_16, l_17, l_20, l_21, l_22, l_23, l_24, l_28, l_29, l_30, l_31, l_32, l_40, l_41, l_48, l_57, l_60, l_62, l_63, l_84, l_96, l_97, l_99, l_100, l_122, l_132, l_144, l_150, l_186, l_255, l_256, l_288, l_300, l_522, l_634, l_999, l_5242, l_5410, l_5420, l_5520, l_5528, l_9999, l_65535, l_65536, l_100000, l_16777215, l_252645135, l_858993459, l_1431655765, ↓reduceIte, Nat.reduceAdd, Nat.reduceMul, Nat.reduceSub, ixN, inbN, leT, leF, ltT, ltF, eqT, eqF, eqM, eqNone, addN, mulN, subN, m1N, ↓to_bnd, bnd_some, ↓to_nmT, nmT_eq, up2_r, up2_e, pk_us, pk_un, b2_t, b2_f, b2_0, b2_1, zB_1, zB_0, zB_b2, not_true_eq_false, not_false_eq_true, r_Mo, Nat.add_zero, Nat.add_sub_cancel, within_R, within_N, in_R, in_N, inN_yes, inR_yes, inR_pred, orNone_nn, nn_m, nn_N, f_Ct_isDay, f_Ct_isThing, f_Ct_isKind, f_Ct_isRoomSeat, f_Ct_isOffice, f_Ct_isTable, f_Ct_isPaper, f_Ct_isRule, f_Ct_isDecision, f_Mo_isOffice, f_Mo_isTable, f_Mo_isPaper, f_Mo_isRule, f_Mo_isDecision, f_Mo_isDay, f_Mo_isThing, f_Mo_paperOf, f_Mo_set, ckI, if_neg c]
  | succ m ih =>
    intro i τ fuel hi hf h1 h2
    obtain ⟨f, rfl⟩ : ∃ f', fuel = f' + 1 := ⟨fuel - 1, by omega⟩
    by_cases ev : i % 2 = 0
    · rw [show (i + 1) / 2 = i / 2 by omega] at h1
      obtain ⟨σ1, z1, z2, z3⟩ := c_letDay bs (dayI_V hV (i / 2) (by omega)) (by omega) h1
      have V1 : VG (999 + (i / 2 + 1)) (dayI g (i / 2 + 1)) := dayI_V hV (i / 2 + 1) (by omega)
      have S1 : StR σ1 s (dayI g (i / 2 + 1)) := z2
      obtain ⟨y, y1, y2⟩ := c_stV bs V1 S1
      have va : stV (dayI g (i / 2 + 1)) = vaG g i := by unfold vaG; rw [if_pos ev]
      have fr : ∀ a, ¬ (s ≤ a ∧ a < s + 84) → σ1 a = σ a := fun a h => by rw [z3 a h, h2 a h]
      have o3 := fr 263 (by omega)
      rw [va] at y2
      by_cases cw : w ≤ i
      · refine ⟨σ1, ?_, fr⟩
        simp -dsimp -implicitDefEqProofs (disch := omega) only [f_Ct_check_46, f_Ct_check_66, f_Ct_check_99, f_Ct_check_120, ↓l_m1, l_0, l_1, l_2, l_3, l_4, l_5, l_6, l_7, l_8, l_9, l_10, l_11, l_12, l_13, l_14, l_15, l_16, l_17, l_20, l_21, l_22, l_23, l_24, l_28, l_29, l_30, l_31, l_32, l_40, l_41, l_48, l_57, l_60, l_62, l_63, l_84, l_96, l_97, l_99, l_100, l_122, l_132, l_144, l_150, l_186, l_255, l_256, l_288, l_300, l_522, l_634, l_999, l_5242, l_5410, l_5420, l_5520, l_5528, l_9999, l_65535, l_65536, l_100000, l_16777215, l_252645135, l_858993459, l_1431655765, ↓reduceIte, Nat.reduceAdd, Nat.reduceMul, Nat.reduceSub, ixN, inbN, leT, leF, ltT, ltF, eqT, eqF, eqM, eqNone, addN, mulN, subN, m1N, ↓to_bnd, bnd_some, ↓to_nmT, nmT_eq, up2_r, up2_e, pk_us, pk_un, b2_t, b2_f, b2_0, b2_1, zB_1, zB_0, zB_b2, not_true_eq_false, not_false_eq_true, r_Mo, Nat.add_zero, Nat.add_sub_cancel, within_R, within_N, in_R, in_N, inN_yes, inR_yes, inR_pred, orNone_nn, nn_m, nn_N, f_Ct_isDay, f_Ct_isThing, f_Ct_isKind, f_Ct_isRoomSeat, f_Ct_isOffice, f_Ct_isTable, f_Ct_isPaper, f_Ct_isRule, f_Ct_isDecision, f_Mo_isOffice, f_Mo_isTable, f_Mo_isPaper, f_Mo_isRule, f_Mo_isDecision, f_Mo_isDay, f_Mo_isThing, f_Mo_paperOf, f_Mo_set, irmN, ev, r0, z1, r_s4 bs, y1, ckI, if_pos cw]
      · have xi := hx i (by omega)
        by_cases cx : x i = vaG g i
        · obtain ⟨σ', w1, w2⟩ := ih (i + 1) σ1 f (by omega) (by omega) (by rw [show (i + 1 + 1) / 2 = i / 2 + 1 by omega]; exact S1) fr
          refine ⟨σ', ?_, w2⟩
          rw [ckI, if_neg cw, if_pos cx, ← w1]
          simp -dsimp -implicitDefEqProofs (disch := omega) only [f_Ct_check_46, f_Ct_check_66, f_Ct_check_99, f_Ct_check_120, ↓l_m1, l_0, l_1, l_2, l_3, l_4, l_5, l_6, l_7, l_8, l_9, l_10, l_11, l_12, l_13, l_14, l_15, l_16, l_17, l_20, l_21, l_22, l_23, l_24, l_28, l_29, l_30, l_31, l_32, l_40, l_41, l_48, l_57, l_60, l_62, l_63, l_84, l_96, l_97, l_99, l_100, l_122, l_132, l_144, l_150, l_186, l_255, l_256, l_288, l_300, l_522, l_634, l_999, l_5242, l_5410, l_5420, l_5520, l_5528, l_9999, l_65535, l_65536, l_100000, l_16777215, l_252645135, l_858993459, l_1431655765, ↓reduceIte, Nat.reduceAdd, Nat.reduceMul, Nat.reduceSub, ixN, inbN, leT, leF, ltT, ltF, eqT, eqF, eqM, eqNone, addN, mulN, subN, m1N, ↓to_bnd, bnd_some, ↓to_nmT, nmT_eq, up2_r, up2_e, pk_us, pk_un, b2_t, b2_f, b2_0, b2_1, zB_1, zB_0, zB_b2, not_true_eq_false, not_false_eq_true, r_Mo, Nat.add_zero, Nat.add_sub_cancel, within_R, within_N, in_R, in_N, inN_yes, inR_yes, inR_pred, orNone_nn, nn_m, nn_N, f_Ct_isDay, f_Ct_isThing, f_Ct_isKind, f_Ct_isRoomSeat, f_Ct_isOffice, f_Ct_isTable, f_Ct_isPaper, f_Ct_isRule, f_Ct_isDecision, f_Mo_isOffice, f_Mo_isTable, f_Mo_isPaper, f_Mo_isRule, f_Mo_isDecision, f_Mo_isDay, f_Mo_isThing, f_Mo_paperOf, f_Mo_set, rc_5, irmN, ev, r0, z1, r_s4 bs, y1, y2, o3, xi, cx, eq_self]
        · refine ⟨σ1, ?_, fr⟩
          rw [ckI, if_neg cw, if_neg cx]
          simp -dsimp -implicitDefEqProofs (disch := omega) only [f_Ct_check_46, f_Ct_check_66, f_Ct_check_99, f_Ct_check_120, ↓l_m1, l_0, l_1, l_2, l_3, l_4, l_5, l_6, l_7, l_8, l_9, l_10, l_11, l_12, l_13, l_14, l_15, l_16, l_17, l_20, l_21, l_22, l_23, l_24, l_28, l_29, l_30, l_31, l_32, l_40, l_41, l_48, l_57, l_60, l_62, l_63, l_84, l_96, l_97, l_99, l_100, l_122, l_132, l_144, l_150, l_186, l_255, l_256, l_288, l_300, l_522, l_634, l_999, l_5242, l_5410, l_5420, l_5520, l_5528, l_9999, l_65535, l_65536, l_100000, l_16777215, l_252645135, l_858993459, l_1431655765, ↓reduceIte, Nat.reduceAdd, Nat.reduceMul, Nat.reduceSub, ixN, inbN, leT, leF, ltT, ltF, eqT, eqF, eqM, eqNone, addN, mulN, subN, m1N, ↓to_bnd, bnd_some, ↓to_nmT, nmT_eq, up2_r, up2_e, pk_us, pk_un, b2_t, b2_f, b2_0, b2_1, zB_1, zB_0, zB_b2, not_true_eq_false, not_false_eq_true, r_Mo, Nat.add_zero, Nat.add_sub_cancel, within_R, within_N, in_R, in_N, inN_yes, inR_yes, inR_pred, orNone_nn, nn_m, nn_N, f_Ct_isDay, f_Ct_isThing, f_Ct_isKind, f_Ct_isRoomSeat, f_Ct_isOffice, f_Ct_isTable, f_Ct_isPaper, f_Ct_isRule, f_Ct_isDecision, f_Mo_isOffice, f_Mo_isTable, f_Mo_isPaper, f_Mo_isRule, f_Mo_isDecision, f_Mo_isDay, f_Mo_isThing, f_Mo_paperOf, f_Mo_set, rc_5, irmN, ev, r0, z1, r_s4 bs, y1, y2, o3, xi, cx]
    · have od : i % 2 = 1 := by omega
      rw [show (i + 1) / 2 = i / 2 + 1 by omega] at h1
      have V1 : VG (999 + (i / 2 + 1)) (dayI g (i / 2 + 1)) := dayI_V hV (i / 2 + 1) (by omega)
      obtain ⟨y, y1, y2⟩ := c_opV bs V1 h1
      have va : opV (dayI g (i / 2 + 1)) = vaG g i := by unfold vaG; rw [if_neg ev]
      have o3 := h2 263 (by omega)
      rw [va] at y2
      by_cases cw : w ≤ i
      · refine ⟨τ, ?_, h2⟩
        simp -dsimp -implicitDefEqProofs (disch := omega) only [f_Ct_check_46, f_Ct_check_66, f_Ct_check_99, f_Ct_check_120, ↓l_m1, l_0, l_1, l_2, l_3, l_4, l_5, l_6, l_7, l_8, l_9, l_10, l_11, l_12, l_13, l_14, l_15, l_16, l_17, l_20, l_21, l_22, l_23, l_24, l_28, l_29, l_30, l_31, l_32, l_40, l_41, l_48, l_57, l_60, l_62, l_63, l_84, l_96, l_97, l_99, l_100, l_122, l_132, l_144, l_150, l_186, l_255, l_256, l_288, l_300, l_522, l_634, l_999, l_5242, l_5410, l_5420, l_5520, l_5528, l_9999, l_65535, l_65536, l_100000, l_16777215, l_252645135, l_858993459, l_1431655765, ↓reduceIte, Nat.reduceAdd, Nat.reduceMul, Nat.reduceSub, ixN, inbN, leT, leF, ltT, ltF, eqT, eqF, eqM, eqNone, addN, mulN, subN, m1N, ↓to_bnd, bnd_some, ↓to_nmT, nmT_eq, up2_r, up2_e, pk_us, pk_un, b2_t, b2_f, b2_0, b2_1, zB_1, zB_0, zB_b2, not_true_eq_false, not_false_eq_true, r_Mo, Nat.add_zero, Nat.add_sub_cancel, within_R, within_N, in_R, in_N, inN_yes, inR_yes, inR_pred, orNone_nn, nn_m, nn_N, f_Ct_isDay, f_Ct_isThing, f_Ct_isKind, f_Ct_isRoomSeat, f_Ct_isOffice, f_Ct_isTable, f_Ct_isPaper, f_Ct_isRule, f_Ct_isDecision, f_Mo_isOffice, f_Mo_isTable, f_Mo_isPaper, f_Mo_isRule, f_Mo_isDecision, f_Mo_isDay, f_Mo_isThing, f_Mo_paperOf, f_Mo_set, irmN, od, r0, y1, ckI, if_pos cw]
      · have xi := hx i (by omega)
        by_cases cx : x i = vaG g i
        · obtain ⟨σ', w1, w2⟩ := ih (i + 1) τ f (by omega) (by omega) (by rw [show (i + 1 + 1) / 2 = i / 2 + 1 by omega]; exact h1) h2
          refine ⟨σ', ?_, w2⟩
          rw [ckI, if_neg cw, if_pos cx, ← w1]
          simp -dsimp -implicitDefEqProofs (disch := omega) only [f_Ct_check_46, f_Ct_check_66, f_Ct_check_99, f_Ct_check_120, ↓l_m1, l_0, l_1, l_2, l_3, l_4, l_5, l_6, l_7, l_8, l_9, l_10, l_11, l_12, l_13, l_14, l_15, l_16, l_17, l_20, l_21, l_22, l_23, l_24, l_28, l_29, l_30, l_31, l_32, l_40, l_41, l_48, l_57, l_60, l_62, l_63, l_84, l_96, l_97, l_99, l_100, l_122, l_132, l_144, l_150, l_186, l_255, l_256, l_288, l_300, l_522, l_634, l_999, l_5242, l_5410, l_5420, l_5520, l_5528, l_9999, l_65535, l_65536, l_100000, l_16777215, l_252645135, l_858993459, l_1431655765, ↓reduceIte, Nat.reduceAdd, Nat.reduceMul, Nat.reduceSub, ixN, inbN, leT, leF, ltT, ltF, eqT, eqF, eqM, eqNone, addN, mulN, subN, m1N, ↓to_bnd, bnd_some, ↓to_nmT, nmT_eq, up2_r, up2_e, pk_us, pk_un, b2_t, b2_f, b2_0, b2_1, zB_1, zB_0, zB_b2, not_true_eq_false, not_false_eq_true, r_Mo, Nat.add_zero, Nat.add_sub_cancel, within_R, within_N, in_R, in_N, inN_yes, inR_yes, inR_pred, orNone_nn, nn_m, nn_N, f_Ct_isDay, f_Ct_isThing, f_Ct_isKind, f_Ct_isRoomSeat, f_Ct_isOffice, f_Ct_isTable, f_Ct_isPaper, f_Ct_isRule, f_Ct_isDecision, f_Mo_isOffice, f_Mo_isTable, f_Mo_isPaper, f_Mo_isRule, f_Mo_isDecision, f_Mo_isDay, f_Mo_isThing, f_Mo_paperOf, f_Mo_set, rc_5, irmN, od, r0, y1, y2, o3, xi, cx, eq_self]
        · refine ⟨τ, ?_, h2⟩
          rw [ckI, if_neg cw, if_neg cx]
          simp -dsimp -implicitDefEqProofs (disch := omega) only [f_Ct_check_46, f_Ct_check_66, f_Ct_check_99, f_Ct_check_120, ↓l_m1, l_0, l_1, l_2, l_3, l_4, l_5, l_6, l_7, l_8, l_9, l_10, l_11, l_12, l_13, l_14, l_15, l_16, l_17, l_20, l_21, l_22, l_23, l_24, l_28, l_29, l_30, l_31, l_32, l_40, l_41, l_48, l_57, l_60, l_62, l_63, l_84, l_96, l_97, l_99, l_100, l_122, l_132, l_144, l_150, l_186, l_255, l_256, l_288, l_300, l_522, l_634, l_999, l_5242, l_5410, l_5420, l_5520, l_5528, l_9999, l_65535, l_65536, l_100000, l_16777215, l_252645135, l_858993459, l_1431655765, ↓reduceIte, Nat.reduceAdd, Nat.reduceMul, Nat.reduceSub, ixN, inbN, leT, leF, ltT, ltF, eqT, eqF, eqM, eqNone, addN, mulN, subN, m1N, ↓to_bnd, bnd_some, ↓to_nmT, nmT_eq, up2_r, up2_e, pk_us, pk_un, b2_t, b2_f, b2_0, b2_1, zB_1, zB_0, zB_b2, not_true_eq_false, not_false_eq_true, r_Mo, Nat.add_zero, Nat.add_sub_cancel, within_R, within_N, in_R, in_N, inN_yes, inR_yes, inR_pred, orNone_nn, nn_m, nn_N, f_Ct_isDay, f_Ct_isThing, f_Ct_isKind, f_Ct_isRoomSeat, f_Ct_isOffice, f_Ct_isTable, f_Ct_isPaper, f_Ct_isRule, f_Ct_isDecision, f_Mo_isOffice, f_Mo_isTable, f_Mo_isPaper, f_Mo_isRule, f_Mo_isDecision, f_Mo_isDay, f_Mo_isThing, f_Mo_paperOf, f_Mo_set, rc_5, irmN, od, r0, y1, y2, o3, xi, cx]
theorem mo_check_cmp {τ : Mm} {n w : Nat} {x v : Nat → Int32} (hn : n ≤ 28) (hw : w ≤ 60) (hx : ∀ i, i < w → τ 320 i = x i) (hv : ∀ i, i < 2 * n → τ 321 i = v i) : ∀ m i fuel, i + m = 2 * n → i ≤ w → m < fuel → f_Mo_check_126 fuel 298 (nI n) (nI w) (nI i) τ = some (ckI w (2 * n) x v m i, τ) := by
  intro m
  induction m with
  | zero =>
    intro i fuel hi hl hf
    obtain ⟨f, rfl⟩ : ∃ f', fuel = f' + 1 := ⟨fuel - 1, by omega⟩
    obtain rfl : i = 2 * n := by omega
    by_cases c : w = 2 * n
    · simp -dsimp -implicitDefEqProofs (disch := omega) only [f_Mo_check_126, f_Mo_check_177, ↓l_m1, l_0, l_1, l_2, l_3, l_4, l_5, l_6, l_7, l_8, l_9, l_10, l_11, l_12, l_13, l_14, l_15, l_16, l_17, l_20, l_21, l_22, l_23, l_24, l_28, l_29, l_30, l_31, l_32, l_40, l_41, l_48, l_57, l_60, l_62, l_63, l_84, l_96, l_97, l_99, l_100, l_122, l_132, l_144, l_150, l_186, l_255, l_256, l_288, l_300, l_522, l_634, l_999, l_5242, l_5410, l_5420, l_5520, l_5528, l_9999, l_65535, l_65536, l_100000, l_16777215, l_252645135, l_858993459, l_1431655765, ↓reduceIte, Nat.reduceAdd, Nat.reduceMul, Nat.reduceSub, ixN, inbN, leT, leF, ltT, ltF, eqT, eqF, eqM, eqNone, addN, mulN, subN, m1N, ↓to_bnd, bnd_some, ↓to_nmT, nmT_eq, up2_r, up2_e, pk_us, pk_un, b2_t, b2_f, b2_0, b2_1, zB_1, zB_0, zB_b2, not_true_eq_false, not_false_eq_true, r_Mo, Nat.add_zero, Nat.add_sub_cancel, within_R, within_N, in_R, in_N, inN_yes, inR_yes, inR_pred, orNone_nn, nn_m, nn_N, f_Ct_isDay, f_Ct_isThing, f_Ct_isKind, f_Ct_isRoomSeat, f_Ct_isOffice, f_Ct_isTable, f_Ct_isPaper, f_Ct_isRule, f_Ct_isDecision, f_Mo_isOffice, f_Mo_isTable, f_Mo_isPaper, f_Mo_isRule, f_Mo_isDecision, f_Mo_isDay, f_Mo_isThing, f_Mo_paperOf, f_Mo_set, ckI, if_pos (show w ≤ 2 * n by omega)]
    · simp -dsimp -implicitDefEqProofs (disch := omega) only [f_Mo_check_126, f_Mo_check_153, ↓l_m1, l_0, l_1, l_2, l_3, l_4, l_5, l_6, l_7, l_8, l_9, l_10, l_11, l_12, l_13, l_14, l_15, l_16, l_17, l_20, l_21, l_22, l_23, l_24, l_28, l_29, l_30, l_31, l_32, l_40, l_41, l_48, l_57, l_60, l_62, l_63, l_84, l_96, l_97, l_99, l_100, l_122, l_132, l_144, l_150, l_186, l_255, l_256, l_288, l_300, l_522, l_634, l_999, l_5242, l_5410, l_5420, l_5520, l_5528, l_9999, l_65535, l_65536, l_100000, l_16777215, l_252645135, l_858993459, l_1431655765, ↓reduceIte, Nat.reduceAdd, Nat.reduceMul, Nat.reduceSub, ixN, inbN, leT, leF, ltT, ltF, eqT, eqF, eqM, eqNone, addN, mulN, subN, m1N, ↓to_bnd, bnd_some, ↓to_nmT, nmT_eq, up2_r, up2_e, pk_us, pk_un, b2_t, b2_f, b2_0, b2_1, zB_1, zB_0, zB_b2, not_true_eq_false, not_false_eq_true, r_Mo, Nat.add_zero, Nat.add_sub_cancel, within_R, within_N, in_R, in_N, inN_yes, inR_yes, inR_pred, orNone_nn, nn_m, nn_N, f_Ct_isDay, f_Ct_isThing, f_Ct_isKind, f_Ct_isRoomSeat, f_Ct_isOffice, f_Ct_isTable, f_Ct_isPaper, f_Ct_isRule, f_Ct_isDecision, f_Mo_isOffice, f_Mo_isTable, f_Mo_isPaper, f_Mo_isRule, f_Mo_isDecision, f_Mo_isDay, f_Mo_isThing, f_Mo_paperOf, f_Mo_set, ckI, if_neg (show ¬ w ≤ 2 * n by omega), Nat.add_comm 1]
  | succ m ih =>
    intro i fuel hi hl hf
    obtain ⟨f, rfl⟩ : ∃ f', fuel = f' + 1 := ⟨fuel - 1, by omega⟩
    by_cases c : w ≤ i
    · obtain rfl : w = i := by omega
      simp -dsimp -implicitDefEqProofs (disch := omega) only [f_Mo_check_126, f_Mo_check_177, ↓l_m1, l_0, l_1, l_2, l_3, l_4, l_5, l_6, l_7, l_8, l_9, l_10, l_11, l_12, l_13, l_14, l_15, l_16, l_17, l_20, l_21, l_22, l_23, l_24, l_28, l_29, l_30, l_31, l_32, l_40, l_41, l_48, l_57, l_60, l_62, l_63, l_84, l_96, l_97, l_99, l_100, l_122, l_132, l_144, l_150, l_186, l_255, l_256, l_288, l_300, l_522, l_634, l_999, l_5242, l_5410, l_5420, l_5520, l_5528, l_9999, l_65535, l_65536, l_100000, l_16777215, l_252645135, l_858993459, l_1431655765, ↓reduceIte, Nat.reduceAdd, Nat.reduceMul, Nat.reduceSub, ixN, inbN, leT, leF, ltT, ltF, eqT, eqF, eqM, eqNone, addN, mulN, subN, m1N, ↓to_bnd, bnd_some, ↓to_nmT, nmT_eq, up2_r, up2_e, pk_us, pk_un, b2_t, b2_f, b2_0, b2_1, zB_1, zB_0, zB_b2, not_true_eq_false, not_false_eq_true, r_Mo, Nat.add_zero, Nat.add_sub_cancel, within_R, within_N, in_R, in_N, inN_yes, inR_yes, inR_pred, orNone_nn, nn_m, nn_N, f_Ct_isDay, f_Ct_isThing, f_Ct_isKind, f_Ct_isRoomSeat, f_Ct_isOffice, f_Ct_isTable, f_Ct_isPaper, f_Ct_isRule, f_Ct_isDecision, f_Mo_isOffice, f_Mo_isTable, f_Mo_isPaper, f_Mo_isRule, f_Mo_isDecision, f_Mo_isDay, f_Mo_isThing, f_Mo_paperOf, f_Mo_set, ckI, if_pos c, Nat.add_comm 1]
    · have xi := hx i (by omega)
      have vi := hv i (by omega)
      by_cases cx : x i = v i
      · rw [ckI, if_neg c, if_pos cx, ← ih (i + 1) f (by omega) (by omega) (by omega)]
        simp -dsimp -implicitDefEqProofs (disch := omega) only [f_Mo_check_126, ↓l_m1, l_0, l_1, l_2, l_3, l_4, l_5, l_6, l_7, l_8, l_9, l_10, l_11, l_12, l_13, l_14, l_15, l_16, l_17, l_20, l_21, l_22, l_23, l_24, l_28, l_29, l_30, l_31, l_32, l_40, l_41, l_48, l_57, l_60, l_62, l_63, l_84, l_96, l_97, l_99, l_100, l_122, l_132, l_144, l_150, l_186, l_255, l_256, l_288, l_300, l_522, l_634, l_999, l_5242, l_5410, l_5420, l_5520, l_5528, l_9999, l_65535, l_65536, l_100000, l_16777215, l_252645135, l_858993459, l_1431655765, ↓reduceIte, Nat.reduceAdd, Nat.reduceMul, Nat.reduceSub, ixN, inbN, leT, leF, ltT, ltF, eqT, eqF, eqM, eqNone, addN, mulN, subN, m1N, ↓to_bnd, bnd_some, ↓to_nmT, nmT_eq, up2_r, up2_e, pk_us, pk_un, b2_t, b2_f, b2_0, b2_1, zB_1, zB_0, zB_b2, not_true_eq_false, not_false_eq_true, r_Mo, Nat.add_zero, Nat.add_sub_cancel, within_R, within_N, in_R, in_N, inN_yes, inR_yes, inR_pred, orNone_nn, nn_m, nn_N, f_Ct_isDay, f_Ct_isThing, f_Ct_isKind, f_Ct_isRoomSeat, f_Ct_isOffice, f_Ct_isTable, f_Ct_isPaper, f_Ct_isRule, f_Ct_isDecision, f_Mo_isOffice, f_Mo_isTable, f_Mo_isPaper, f_Mo_isRule, f_Mo_isDecision, f_Mo_isDay, f_Mo_isThing, f_Mo_paperOf, f_Mo_set, rm_45, rm_46, xi, vi, cx, eq_self]
      · rw [ckI, if_neg c, if_neg cx]
        simp -dsimp -implicitDefEqProofs (disch := omega) only [f_Mo_check_126, f_Mo_check_153, ↓l_m1, l_0, l_1, l_2, l_3, l_4, l_5, l_6, l_7, l_8, l_9, l_10, l_11, l_12, l_13, l_14, l_15, l_16, l_17, l_20, l_21, l_22, l_23, l_24, l_28, l_29, l_30, l_31, l_32, l_40, l_41, l_48, l_57, l_60, l_62, l_63, l_84, l_96, l_97, l_99, l_100, l_122, l_132, l_144, l_150, l_186, l_255, l_256, l_288, l_300, l_522, l_634, l_999, l_5242, l_5410, l_5420, l_5520, l_5528, l_9999, l_65535, l_65536, l_100000, l_16777215, l_252645135, l_858993459, l_1431655765, ↓reduceIte, Nat.reduceAdd, Nat.reduceMul, Nat.reduceSub, ixN, inbN, leT, leF, ltT, ltF, eqT, eqF, eqM, eqNone, addN, mulN, subN, m1N, ↓to_bnd, bnd_some, ↓to_nmT, nmT_eq, up2_r, up2_e, pk_us, pk_un, b2_t, b2_f, b2_0, b2_1, zB_1, zB_0, zB_b2, not_true_eq_false, not_false_eq_true, r_Mo, Nat.add_zero, Nat.add_sub_cancel, within_R, within_N, in_R, in_N, inN_yes, inR_yes, inR_pred, orNone_nn, nn_m, nn_N, f_Ct_isDay, f_Ct_isThing, f_Ct_isKind, f_Ct_isRoomSeat, f_Ct_isOffice, f_Ct_isTable, f_Ct_isPaper, f_Ct_isRule, f_Ct_isDecision, f_Mo_isOffice, f_Mo_isTable, f_Mo_isPaper, f_Mo_isRule, f_Mo_isDecision, f_Mo_isDay, f_Mo_isThing, f_Mo_paperOf, f_Mo_set, rm_45, rm_46, xi, vi, cx, Nat.add_comm 1]
theorem mo_check_days {σ : Mm} {n : Nat} {W : Int32} {g : Nat → Int32} (hV : VG 999 g) (hn : n ≤ 28) : ∀ j k τ fuel, k + j = n → j < fuel → τ 299 = dayI g k → (∀ i, i < 2 * k → τ 321 i = vaG g i) → (∀ a, a ≠ 299 → a ≠ 310 → a ≠ 311 → a ≠ 321 → τ a = σ a) → ∃ τ', f_Mo_check_59 fuel 298 (nI n) W (nI k) τ = f_Mo_check_126 NN 298 (nI n) W (nI 0) (cpR τ' 301 299 5528) ∧ (∀ i, i < 2 * n → τ' 321 i = vaG g i) ∧ ∀ a, a ≠ 299 → a ≠ 310 → a ≠ 311 → a ≠ 321 → τ' a = σ a := by
  intro j
  induction j with
  | zero =>
    intro k τ fuel hk hf h1 h2 h3
    obtain ⟨f, rfl⟩ : ∃ f', fuel = f' + 1 := ⟨fuel - 1, by omega⟩
    obtain rfl : k = n := by omega
    refine ⟨τ, ?_, h2, h3⟩
    simp -dsimp -implicitDefEqProofs (disch := omega) only [f_Mo_check_59, ↓l_m1, l_0, l_1, l_2, l_3, l_4, l_5, l_6, l_7, l_8, l_9, l_10, l_11, l_12, l_13, l_14, l_15, l_16, l_17, l_20, l_21, l_22, l_23, l_24, l_28, l_29, l_30, l_31, l_32, l_40, l_41, l_48, l_57, l_60, l_62, l_63, l_84, l_96, l_97, l_99, l_100, l_122, l_132, l_144, l_150, l_186, l_255, l_256, l_288, l_300, l_522, l_634, l_999, l_5242, l_5410, l_5420, l_5520, l_5528, l_9999, l_65535, l_65536, l_100000, l_16777215, l_252645135, l_858993459, l_1431655765, ↓reduceIte, Nat.reduceAdd, Nat.reduceMul, Nat.reduceSub, ixN, inbN, leT, leF, ltT, ltF, eqT, eqF, eqM, eqNone, addN, mulN, subN, m1N, ↓to_bnd, bnd_some, ↓to_nmT, nmT_eq, up2_r, up2_e, pk_us, pk_un, b2_t, b2_f, b2_0, b2_1, zB_1, zB_0, zB_b2, not_true_eq_false, not_false_eq_true, r_Mo, Nat.add_zero, Nat.add_sub_cancel, within_R, within_N, in_R, in_N, inN_yes, inR_yes, inR_pred, orNone_nn, nn_m, nn_N, f_Ct_isDay, f_Ct_isThing, f_Ct_isKind, f_Ct_isRoomSeat, f_Ct_isOffice, f_Ct_isTable, f_Ct_isPaper, f_Ct_isRule, f_Ct_isDecision, f_Mo_isOffice, f_Mo_isTable, f_Mo_isPaper, f_Mo_isRule, f_Mo_isDecision, f_Mo_isDay, f_Mo_isThing, f_Mo_paperOf, f_Mo_set, rm_2, mo_copyRow]
  | succ j ih =>
    intro k τ fuel hk hf h1 h2 h3
    obtain ⟨f, rfl⟩ : ∃ f', fuel = f' + 1 := ⟨fuel - 1, by omega⟩
    obtain ⟨σ1, z1, z2, z3⟩ := mo_goesBy h1 (dayI_V hV k (by omega)) (by omega)
    have V1 : VG (999 + (k + 1)) (dayI g (k + 1)) := dayI_V hV (k + 1) (by omega)
    obtain ⟨h, hh⟩ : ∃ h, h = dayI g (k + 1) := ⟨_, rfl⟩
    rw [← hh] at V1
    have z2' : σ1 299 = h := by rw [z2, hh]; rfl
    obtain ⟨n6, e6, l6, g6⟩ := cnt_of V1.2.2.2.2.2.1.1
    obtain ⟨n5, e5, l5, g5⟩ := cnt_of V1.2.2.2.2.1.1
    obtain ⟨nP, e4, l4, g4⟩ := cnt_of V1.2.2.2.1.1
    have st := mo_standing (σ := σ1) (by rw [z2']; exact e6) l6 (by rw [z2']; exact fun d hd => V1.2.2.2.2.2.1.2 d (by omega)) (h 0)
    have sb := mo_bits σ1 (stdW h (-1000000005) (h 0) n6)
    rw [z2'] at st
    have sv : nI (popN (fun i => btI (stdW h (-1000000005) (h 0) n6) i) 31) = stV h := by unfold stV; rw [g6]
    rw [sv] at sb
    obtain ⟨τ2, w1, w2⟩ := mo_openNow (σ := up2 σ1 321 (2 * k) (stV h)) (show up2 σ1 321 (2 * k) (stV h) 299 = h by rw [up2_r _ _ _ (by omega), z2']) V1 e5 l5 e4 l4
    have ob := mo_bits τ2 (setF (openB h n5) nP)
    have ov : nI (popN (fun i => btI (setF (openB h n5) nP) i) 31) = opV h := by unfold opV; rw [g5, g4]
    rw [ov] at ob
    have fr : ∀ a, a ≠ 299 → a ≠ 310 → a ≠ 311 → a ≠ 321 → up2 τ2 321 (2 * k + 1) (opV h) a = σ a := fun a p1 p2 p3 p4 => by
      rw [up2_r _ _ _ p4, w2 a p2 p3, up2_r _ _ _ p4, z3 a p1 p2 p3, h3 a p1 p2 p3 p4]
    obtain ⟨τ', q1, q2⟩ := ih (k + 1) (up2 τ2 321 (2 * k + 1) (opV h)) f (by omega) (by omega) (by rw [up2_r _ _ _ (by omega), w2 299 (by omega) (by omega), up2_r _ _ _ (by omega), z2', hh]) (fun i hi => by
      rw [up2_e, upd_at]
      by_cases c : i = 2 * k + 1
      · rw [if_pos c, c]; unfold vaG; rw [if_neg (by omega), show (2 * k + 1) / 2 + 1 = k + 1 by omega, hh]
      · rw [if_neg c, w2 321 (by omega) (by omega), up2_e, upd_at]
        by_cases d : i = 2 * k
        · rw [if_pos d, d]; unfold vaG; rw [if_pos (by omega), show 2 * k / 2 + 1 = k + 1 by omega, hh]
        · rw [if_neg d, z3 321 (by omega) (by omega) (by omega)]; exact h2 i (by omega)) fr
    refine ⟨τ', ?_, q2⟩
    rw [← q1]
    simp -dsimp -implicitDefEqProofs (disch := omega) only [f_Mo_check_59, ↓l_m1, l_0, l_1, l_2, l_3, l_4, l_5, l_6, l_7, l_8, l_9, l_10, l_11, l_12, l_13, l_14, l_15, l_16, l_17, l_20, l_21, l_22, l_23, l_24, l_28, l_29, l_30, l_31, l_32, l_40, l_41, l_48, l_57, l_60, l_62, l_63, l_84, l_96, l_97, l_99, l_100, l_122, l_132, l_144, l_150, l_186, l_255, l_256, l_288, l_300, l_522, l_634, l_999, l_5242, l_5410, l_5420, l_5520, l_5528, l_9999, l_65535, l_65536, l_100000, l_16777215, l_252645135, l_858993459, l_1431655765, ↓reduceIte, Nat.reduceAdd, Nat.reduceMul, Nat.reduceSub, ixN, inbN, leT, leF, ltT, ltF, eqT, eqF, eqM, eqNone, addN, mulN, subN, m1N, ↓to_bnd, bnd_some, ↓to_nmT, nmT_eq, up2_r, up2_e, pk_us, pk_un, b2_t, b2_f, b2_0, b2_1, zB_1, zB_0, zB_b2, not_true_eq_false, not_false_eq_true, r_Mo, Nat.add_zero, Nat.add_sub_cancel, within_R, within_N, in_R, in_N, inN_yes, inR_yes, inR_pred, orNone_nn, nn_m, nn_N, f_Ct_isDay, f_Ct_isThing, f_Ct_isKind, f_Ct_isRoomSeat, f_Ct_isOffice, f_Ct_isTable, f_Ct_isPaper, f_Ct_isRule, f_Ct_isDecision, f_Mo_isOffice, f_Mo_isTable, f_Mo_isPaper, f_Mo_isRule, f_Mo_isDecision, f_Mo_isDay, f_Mo_isThing, f_Mo_paperOf, f_Mo_set, rm_46, z1, z2', st, sb, w1, ob]
theorem p_check : Pr_check Inv := by
  intro σ a1 hI
  obtain ⟨hV, hS, hR⟩ := hI
  obtain ⟨im, i1, i2, i3⟩ := hR.1
  obtain ⟨w, lw, wt1, wt2, wt3⟩ := hR.2.2.2.2.1
  have reset : ∀ τ : Mm, (∀ a, 1 ≤ a → a < 85 → τ a = σ a) → (∀ j, j < 5528 → τ 299 j = σ 299 j) → (∀ a, (85 ≤ a ∧ a < 169) ∨ (256 ≤ a ∧ a < 258) ∨ (263 ≤ a ∧ a < 298) ∨ a = 300 ∨ (305 ≤ a ∧ a < 308) ∨ (312 ≤ a ∧ a < 320) → τ a = σ a) → τ 0 = upd (σ 0) 9 (nI 0) → τ 298 = upd (σ 298) 44 (nI 0) → Inv τ := by
    intro τ f1 f2 f3 f4 f5
    have v' := VG_row hV f2
    refine ⟨v', StR_c (StR_row hS hV f2) v' (fun a p q => f1 a p (by omega)), ImR_c hR.1 (fun a p q => f3 a (by omega)) (by rw [f4, pk_un (by omega)]) (by rw [f5, pk_un (by omega)]) (f3 300 (by omega)), ?_, fun r hr => ?_, fun j hj => ?_, ?_, ?_⟩
    · rw [f3 256 (by omega), f3 257 (by omega), f3 305 (by omega), f5, pk_un (by omega)]; exact hR.2.1
    · rw [f3 (266 + 2 * r) (by omega), f3 (267 + 2 * r) (by omega), f3 312 (by omega), f3 313 (by omega), f3 314 (by omega)]; exact hR.2.2.1 r hr
    · rw [f3 (274 + 4 * j) (by omega), f3 (275 + 4 * j) (by omega), f3 (276 + 4 * j) (by omega), f3 (277 + 4 * j) (by omega), f3 316 (by omega), f3 317 (by omega), f3 318 (by omega), f3 319 (by omega), f3 313 (by omega), f3 314 (by omega)]; exact hR.2.2.2.1 j hj
    · exact ⟨0, by omega, by rw [f4, pk_us], by rw [f5, pk_us], fun i hi => by omega⟩
    · rw [f3 306 (by omega), f3 307 (by omega)]; exact hR.2.2.2.2.2
  have simple : Inv (up2 (up2 σ 0 9 (nI 0)) 298 44 (nI 0)) := reset _ (fun a p q => by simp -dsimp -implicitDefEqProofs (disch := omega) only [up2_r]) (fun j _ => by simp -dsimp -implicitDefEqProofs (disch := omega) only [up2_r]) (fun a q => by simp -dsimp -implicitDefEqProofs (disch := omega) only [up2_r]) (by simp -dsimp -implicitDefEqProofs (disch := omega) only [up2_r, up2_e]) (by simp -dsimp -implicitDefEqProofs (disch := omega) only [up2_r, up2_e])
  rcases inR_cases a1 1 28 (by omega) (by omega) with ⟨n, hn1, hn, rfl⟩ | c1
  · cases im
    · refine ⟨-1000000002, up2 σ 0 9 (nI 0), up2 (up2 σ 0 9 (nI 0)) 298 44 (nI 0), ?_, ?_, simple⟩
      · simp -dsimp -implicitDefEqProofs (disch := omega) only [f_Ct_check, ↓l_m1, l_0, l_1, l_2, l_3, l_4, l_5, l_6, l_7, l_8, l_9, l_10, l_11, l_12, l_13, l_14, l_15, l_16, l_17, l_20, l_21, l_22, l_23, l_24, l_28, l_29, l_30, l_31, l_32, l_40, l_41, l_48, l_57, l_60, l_62, l_63, l_84, l_96, l_97, l_99, l_100, l_122, l_132, l_144, l_150, l_186, l_255, l_256, l_288, l_300, l_522, l_634, l_999, l_5242, l_5410, l_5420, l_5520, l_5528, l_9999, l_65535, l_65536, l_100000, l_16777215, l_252645135, l_858993459, l_1431655765, ↓reduceIte, Nat.reduceAdd, Nat.reduceMul, Nat.reduceSub, ixN, inbN, leT, leF, ltT, ltF, eqT, eqF, eqM, eqNone, addN, mulN, subN, m1N, ↓to_bnd, bnd_some, ↓to_nmT, nmT_eq, up2_r, up2_e, pk_us, pk_un, b2_t, b2_f, b2_0, b2_1, zB_1, zB_0, zB_b2, not_true_eq_false, not_false_eq_true, r_Mo, Nat.add_zero, Nat.add_sub_cancel, within_R, within_N, in_R, in_N, inN_yes, inR_yes, inR_pred, orNone_nn, nn_m, nn_N, f_Ct_isDay, f_Ct_isThing, f_Ct_isKind, f_Ct_isRoomSeat, f_Ct_isOffice, f_Ct_isTable, f_Ct_isPaper, f_Ct_isRule, f_Ct_isDecision, f_Mo_isOffice, f_Mo_isTable, f_Mo_isPaper, f_Mo_isRule, f_Mo_isDecision, f_Mo_isDay, f_Mo_isThing, f_Mo_paperOf, f_Mo_set, i1]
      · simp -dsimp -implicitDefEqProofs (disch := omega) only [f_Mo_check, ↓l_m1, l_0, l_1, l_2, l_3, l_4, l_5, l_6, l_7, l_8, l_9, l_10, l_11, l_12, l_13, l_14, l_15, l_16, l_17, l_20, l_21, l_22, l_23, l_24, l_28, l_29, l_30, l_31, l_32, l_40, l_41, l_48, l_57, l_60, l_62, l_63, l_84, l_96, l_97, l_99, l_100, l_122, l_132, l_144, l_150, l_186, l_255, l_256, l_288, l_300, l_522, l_634, l_999, l_5242, l_5410, l_5420, l_5520, l_5528, l_9999, l_65535, l_65536, l_100000, l_16777215, l_252645135, l_858993459, l_1431655765, ↓reduceIte, Nat.reduceAdd, Nat.reduceMul, Nat.reduceSub, ixN, inbN, leT, leF, ltT, ltF, eqT, eqF, eqM, eqNone, addN, mulN, subN, m1N, ↓to_bnd, bnd_some, ↓to_nmT, nmT_eq, up2_r, up2_e, pk_us, pk_un, b2_t, b2_f, b2_0, b2_1, zB_1, zB_0, zB_b2, not_true_eq_false, not_false_eq_true, r_Mo, Nat.add_zero, Nat.add_sub_cancel, within_R, within_N, in_R, in_N, inN_yes, inR_yes, inR_pred, orNone_nn, nn_m, nn_N, f_Ct_isDay, f_Ct_isThing, f_Ct_isKind, f_Ct_isRoomSeat, f_Ct_isOffice, f_Ct_isTable, f_Ct_isPaper, f_Ct_isRule, f_Ct_isDecision, f_Mo_isOffice, f_Mo_isTable, f_Mo_isPaper, f_Mo_isRule, f_Mo_isDecision, f_Mo_isDay, f_Mo_isThing, f_Mo_paperOf, f_Mo_set, i2]
    · obtain ⟨iV, iS⟩ := i3 rfl
      have iS2 : StR (up2 σ 0 9 (nI 0)) 85 (σ 300) := StR_c iS iV (fun a p q => up2_r _ _ _ (by omega))
      obtain ⟨σ1, e1, s1, f1⟩ := c_become (t := 169) BS85 BS169 (Or.inl (by omega)) iV iS2
      obtain ⟨h, hh⟩ : ∃ h : Nat → Int32, h = fun j => if j < 5528 then σ 300 j else σ 299 j := ⟨_, rfl⟩
      have hr : ∀ j, j < 5528 → h j = σ 300 j := fun j hj => by rw [hh]; exact if_pos hj
      have iVh := VG_row iV hr
      have s1h := StR_row s1 iV hr
      obtain ⟨s, hs⟩ : ∃ s, s = 169 := ⟨_, rfl⟩
      obtain ⟨σ2, z1, z2⟩ := c_check_go (σ := σ1) (s := s) (n := n) (w := w) (x := σ 263) (by rw [hs]; exact BS169) hs (by rw [hs]; exact rc_2) iVh hn lw (fun i hi => by rw [f1 263 (by omega), up2_r _ _ _ (by omega)]) (2 * n) 0 σ1 NN (by omega) (NN_lt (by omega)) (by rw [hs]; exact s1h) (fun _ _ => rfl)
      have g2 : ∀ a, ¬ (169 ≤ a ∧ a < 253) → a ≠ 0 → σ2 a = σ a := fun a p q => by rw [z2 a (by omega), f1 a (by omega), up2_r _ _ _ q]
      have g20 : σ2 0 = upd (σ 0) 9 (nI 0) := by rw [z2 0 (by omega), f1 0 (by omega), up2_e]
      obtain ⟨τ0, ht0⟩ : ∃ τ0, τ0 = cpR (cpR (up2 σ2 298 44 (nI 0)) 299 301 5528) 300 299 5528 := ⟨_, rfl⟩
      have t99 : τ0 299 = h := by
        rw [ht0, hh]
        show (if (299 : Nat) = 299 then _ else _) = _
        rw [if_pos rfl, cpR_r (by omega), cpR_r (by omega), up2_r _ _ _ (by omega), up2_r _ _ _ (by omega), g2 300 (by omega) (by omega), g2 299 (by omega) (by omega)]
      obtain ⟨τ1, q1, q2, q3⟩ := mo_check_days (σ := τ0) (n := n) (W := nI w) iVh hn n 0 τ0 NN (by omega) (NN_lt (by omega)) t99 (fun i hi => by omega) (fun _ _ _ _ _ => rfl)
      have fr : ∀ a, a ≠ 298 → a ≠ 299 → a ≠ 301 → a ≠ 310 → a ≠ 311 → a ≠ 321 → cpR τ1 301 299 5528 a = σ2 a := fun a p1 p2 p3 p4 p5 p6 => by
        rw [cpR_r p2, q3 a p2 p4 p5 p6, ht0, cpR_r p2, cpR_r p3, up2_r _ _ _ p1]
      have cmp := mo_check_cmp (τ := cpR τ1 301 299 5528) (x := σ 263) (v := vaG h) hn lw (fun i hi => by rw [fr 320 (by omega) (by omega) (by omega) (by omega) (by omega) (by omega), g2 320 (by omega) (by omega)]; exact (wt3 i hi).symm) (fun i hi => by rw [cpR_r (by omega)]; exact q2 i hi) (2 * n) 0 NN (by omega) (by omega) (NN_lt (by omega))
      refine ⟨ckI w (2 * n) (σ 263) (vaG h) (2 * n) 0, σ2, cpR τ1 301 299 5528, ?_, ?_, reset _ (fun a p q => ?_) (fun j hj => ?_) (fun a q => ?_) ?_ ?_⟩
      · simp -dsimp -implicitDefEqProofs (disch := omega) only [f_Ct_check, ↓l_m1, l_0, l_1, l_2, l_3, l_4, l_5, l_6, l_7, l_8, l_9, l_10, l_11, l_12, l_13, l_14, l_15, l_16, l_17, l_20, l_21, l_22, l_23, l_24, l_28, l_29, l_30, l_31, l_32, l_40, l_41, l_48, l_57, l_60, l_62, l_63, l_84, l_96, l_97, l_99, l_100, l_122, l_132, l_144, l_150, l_186, l_255, l_256, l_288, l_300, l_522, l_634, l_999, l_5242, l_5410, l_5420, l_5520, l_5528, l_9999, l_65535, l_65536, l_100000, l_16777215, l_252645135, l_858993459, l_1431655765, ↓reduceIte, Nat.reduceAdd, Nat.reduceMul, Nat.reduceSub, ixN, inbN, leT, leF, ltT, ltF, eqT, eqF, eqM, eqNone, addN, mulN, subN, m1N, ↓to_bnd, bnd_some, ↓to_nmT, nmT_eq, up2_r, up2_e, pk_us, pk_un, b2_t, b2_f, b2_0, b2_1, zB_1, zB_0, zB_b2, not_true_eq_false, not_false_eq_true, r_Mo, Nat.add_zero, Nat.add_sub_cancel, within_R, within_N, in_R, in_N, inN_yes, inR_yes, inR_pred, orNone_nn, nn_m, nn_N, f_Ct_isDay, f_Ct_isThing, f_Ct_isKind, f_Ct_isRoomSeat, f_Ct_isOffice, f_Ct_isTable, f_Ct_isPaper, f_Ct_isRule, f_Ct_isDecision, f_Mo_isOffice, f_Mo_isTable, f_Mo_isPaper, f_Mo_isRule, f_Mo_isDecision, f_Mo_isDay, f_Mo_isThing, f_Mo_paperOf, f_Mo_set, rc_1, rc_2, i1, wt1, e1]
        exact z1
      · have i2' : σ2 298 3 = b2 true := by rw [g2 298 (by omega) (by omega)]; exact i2
        have wt2' : σ2 298 44 = nI w := by rw [g2 298 (by omega) (by omega)]; exact wt2
        simp -dsimp -implicitDefEqProofs (disch := omega) only [f_Mo_check, ↓l_m1, l_0, l_1, l_2, l_3, l_4, l_5, l_6, l_7, l_8, l_9, l_10, l_11, l_12, l_13, l_14, l_15, l_16, l_17, l_20, l_21, l_22, l_23, l_24, l_28, l_29, l_30, l_31, l_32, l_40, l_41, l_48, l_57, l_60, l_62, l_63, l_84, l_96, l_97, l_99, l_100, l_122, l_132, l_144, l_150, l_186, l_255, l_256, l_288, l_300, l_522, l_634, l_999, l_5242, l_5410, l_5420, l_5520, l_5528, l_9999, l_65535, l_65536, l_100000, l_16777215, l_252645135, l_858993459, l_1431655765, ↓reduceIte, Nat.reduceAdd, Nat.reduceMul, Nat.reduceSub, ixN, inbN, leT, leF, ltT, ltF, eqT, eqF, eqM, eqNone, addN, mulN, subN, m1N, ↓to_bnd, bnd_some, ↓to_nmT, nmT_eq, up2_r, up2_e, pk_us, pk_un, b2_t, b2_f, b2_0, b2_1, zB_1, zB_0, zB_b2, not_true_eq_false, not_false_eq_true, r_Mo, Nat.add_zero, Nat.add_sub_cancel, within_R, within_N, in_R, in_N, inN_yes, inR_yes, inR_pred, orNone_nn, nn_m, nn_N, f_Ct_isDay, f_Ct_isThing, f_Ct_isKind, f_Ct_isRoomSeat, f_Ct_isOffice, f_Ct_isTable, f_Ct_isPaper, f_Ct_isRule, f_Ct_isDecision, f_Mo_isOffice, f_Mo_isTable, f_Mo_isPaper, f_Mo_isRule, f_Mo_isDecision, f_Mo_isDay, f_Mo_isThing, f_Mo_paperOf, f_Mo_set, rm_1, rm_2, i2', wt2', mo_copyRow]
        rw [← ht0, q1]
        exact cmp
      · rw [fr a (by omega) (by omega) (by omega) (by omega) (by omega) (by omega), g2 a (by omega) (by omega)]
      · rw [cpR_e hj, q3 301 (by omega) (by omega) (by omega) (by omega), ht0, cpR_r (by omega), cpR_e hj, up2_r _ _ _ (by omega), g2 299 (by omega) (by omega)]
      · rw [fr a (by omega) (by omega) (by omega) (by omega) (by omega) (by omega), g2 a (by omega) (by omega)]
      · rw [fr 0 (by omega) (by omega) (by omega) (by omega) (by omega) (by omega), g20]
      · rw [cpR_r (by omega), q3 298 (by omega) (by omega) (by omega) (by omega), ht0, cpR_r (by omega), cpR_r (by omega), up2_e, g2 298 (by omega) (by omega)]
  · refine ⟨-1000000001, up2 σ 0 9 (nI 0), up2 (up2 σ 0 9 (nI 0)) 298 44 (nI 0), ?_, ?_, simple⟩
    · simp -dsimp -implicitDefEqProofs (disch := omega) only [f_Ct_check, ↓l_m1, l_0, l_1, l_2, l_3, l_4, l_5, l_6, l_7, l_8, l_9, l_10, l_11, l_12, l_13, l_14, l_15, l_16, l_17, l_20, l_21, l_22, l_23, l_24, l_28, l_29, l_30, l_31, l_32, l_40, l_41, l_48, l_57, l_60, l_62, l_63, l_84, l_96, l_97, l_99, l_100, l_122, l_132, l_144, l_150, l_186, l_255, l_256, l_288, l_300, l_522, l_634, l_999, l_5242, l_5410, l_5420, l_5520, l_5528, l_9999, l_65535, l_65536, l_100000, l_16777215, l_252645135, l_858993459, l_1431655765, ↓reduceIte, Nat.reduceAdd, Nat.reduceMul, Nat.reduceSub, ixN, inbN, leT, leF, ltT, ltF, eqT, eqF, eqM, eqNone, addN, mulN, subN, m1N, ↓to_bnd, bnd_some, ↓to_nmT, nmT_eq, up2_r, up2_e, pk_us, pk_un, b2_t, b2_f, b2_0, b2_1, zB_1, zB_0, zB_b2, not_true_eq_false, not_false_eq_true, r_Mo, Nat.add_zero, Nat.add_sub_cancel, within_R, within_N, in_R, in_N, inN_yes, inR_yes, inR_pred, orNone_nn, nn_m, nn_N, f_Ct_isDay, f_Ct_isThing, f_Ct_isKind, f_Ct_isRoomSeat, f_Ct_isOffice, f_Ct_isTable, f_Ct_isPaper, f_Ct_isRule, f_Ct_isDecision, f_Mo_isOffice, f_Mo_isTable, f_Mo_isPaper, f_Mo_isRule, f_Mo_isDecision, f_Mo_isDay, f_Mo_isThing, f_Mo_paperOf, f_Mo_set, c1]
    · simp -dsimp -implicitDefEqProofs (disch := omega) only [f_Mo_check, ↓l_m1, l_0, l_1, l_2, l_3, l_4, l_5, l_6, l_7, l_8, l_9, l_10, l_11, l_12, l_13, l_14, l_15, l_16, l_17, l_20, l_21, l_22, l_23, l_24, l_28, l_29, l_30, l_31, l_32, l_40, l_41, l_48, l_57, l_60, l_62, l_63, l_84, l_96, l_97, l_99, l_100, l_122, l_132, l_144, l_150, l_186, l_255, l_256, l_288, l_300, l_522, l_634, l_999, l_5242, l_5410, l_5420, l_5520, l_5528, l_9999, l_65535, l_65536, l_100000, l_16777215, l_252645135, l_858993459, l_1431655765, ↓reduceIte, Nat.reduceAdd, Nat.reduceMul, Nat.reduceSub, ixN, inbN, leT, leF, ltT, ltF, eqT, eqF, eqM, eqNone, addN, mulN, subN, m1N, ↓to_bnd, bnd_some, ↓to_nmT, nmT_eq, up2_r, up2_e, pk_us, pk_un, b2_t, b2_f, b2_0, b2_1, zB_1, zB_0, zB_b2, not_true_eq_false, not_false_eq_true, r_Mo, Nat.add_zero, Nat.add_sub_cancel, within_R, within_N, in_R, in_N, inN_yes, inR_yes, inR_pred, orNone_nn, nn_m, nn_N, f_Ct_isDay, f_Ct_isThing, f_Ct_isKind, f_Ct_isRoomSeat, f_Ct_isOffice, f_Ct_isTable, f_Ct_isPaper, f_Ct_isRule, f_Ct_isDecision, f_Mo_isOffice, f_Mo_isTable, f_Mo_isPaper, f_Mo_isRule, f_Mo_isDecision, f_Mo_isDay, f_Mo_isThing, f_Mo_paperOf, f_Mo_set, c1]
