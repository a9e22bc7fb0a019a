/-! the tape's words -/
def soN (c : Nat) : Nat := if 97 ≤ c ∧ c ≤ 122 then 1 else if 48 ≤ c ∧ c ≤ 57 then 2 else 3
theorem soN_le (c : Nat) : 1 ≤ soN c ∧ soN c ≤ 3 := by unfold soN; (repeat' split) <;> omega
def sbI (c : Nat) : Int32 := (nI c).toInt8.toInt32
theorem sb_lo : ∀ c, c < 128 → sbI c = nI c := by decide +kernel
theorem sb_int : ∀ c, c < 256 → (sbI c).toInt = if c < 128 then (c : Int) else (c : Int) - 256 := by decide +kernel
theorem sb_eq {c v : Nat} (hc : c < 256) (hv : v < 128) : (sbI c = nI v) = (c = v) := by
  refine propext ⟨fun q => ?_, fun q => by rw [q, sb_lo v hv]⟩
  have z := congrArg Int32.toInt q
  rw [sb_int c hc, toN (by omega)] at z
  split at z <;> omega
theorem sb_lt {c v : Nat} (hc : c < 256) (hv : v < 128) : (sbI c < nI v) = (c < v ∨ 128 ≤ c) := by
  rw [Int32.lt_iff_toInt_lt, sb_int c hc, toN (by omega)]
  refine propext ⟨fun z => ?_, fun z => ?_⟩
  · split at z <;> omega
  · split <;> omega
theorem sb_gt {c v : Nat} (hc : c < 256) (hv : v < 128) : (nI v < sbI c) = (v < c ∧ c < 128) := by
  rw [Int32.lt_iff_toInt_lt, sb_int c hc, toN (by omega)]
  refine propext ⟨fun z => ?_, fun z => ?_⟩
  · split at z <;> omega
  · split <;> omega
theorem c_sortOf (σ : Mm) {c : Nat} (hc : c < 256) : f_Tp_sortOf σ (sbI c) = some (nI (soN c)) := by
  unfold f_Tp_sortOf f_Tp_sortOf_14 f_Tp_sortOf_30 f_Tp_sortOf_31 soN
  simp only [l_97, l_122, l_48, l_57, sb_lt hc (show 97 < 128 by omega), sb_gt hc (show 122 < 128 by omega), sb_lt hc (show 48 < 128 by omega), sb_gt hc (show 57 < 128 by omega), l_1, l_2, l_3]
  repeat' split
  all_goals first | (exfalso; omega) | rfl
def skF (B : Nat → Nat) (L : Nat) : Nat → Nat → Nat
  | 0, p => p
  | n + 1, p => if p < L ∧ B p = 32 then skF B L n (p + 1) else p
def skN (B : Nat → Nat) (L p : Nat) : Nat := skF B L (L - p) p
theorem sk_s {B : Nat → Nat} {L p : Nat} (h : p < L) (hb : B p = 32) : skN B L p = skN B L (p + 1) := by
  unfold skN
  obtain ⟨n, hn⟩ : ∃ n, L - p = n + 1 := ⟨L - p - 1, by omega⟩
  rw [hn, show L - (p + 1) = n by omega, skF, if_pos ⟨h, hb⟩]
theorem sk_n {B : Nat → Nat} {L p : Nat} (h : p < L → B p ≠ 32) : skN B L p = p := by
  unfold skN
  cases L - p with
  | zero => rfl
  | succ n => rw [skF, if_neg (fun q => h q.1 q.2)]
theorem sk_b {B : Nat → Nat} {L : Nat} : ∀ n p, L - p = n → p ≤ L → p ≤ skN B L p ∧ skN B L p ≤ L ∧ (skN B L p < L → B (skN B L p) ≠ 32) := by
  intro n
  induction n with
  | zero =>
    intro p hn hp
    rw [sk_n (fun q => by omega)]
    exact ⟨Nat.le_refl _, hp, fun q => by omega⟩
  | succ n ih =>
    intro p hn hp
    by_cases c : B p = 32
    · rw [sk_s (by omega) c]
      obtain ⟨a, b, d⟩ := ih (p + 1) (by omega) (by omega)
      exact ⟨by omega, b, d⟩
    · rw [sk_n (fun _ => c)]
      exact ⟨Nat.le_refl _, hp, fun _ => c⟩
def rnF (B : Nat → Nat) (L s : Nat) : Nat → Nat → Nat
  | 0, p => p
  | n + 1, p => if p < L ∧ soN (B p) = s then rnF B L s n (p + 1) else p
def rnN (B : Nat → Nat) (L s p : Nat) : Nat := rnF B L s (L - p) p
theorem rn_s {B : Nat → Nat} {L s p : Nat} (h : p < L) (hb : soN (B p) = s) : rnN B L s p = rnN B L s (p + 1) := by
  unfold rnN
  obtain ⟨n, hn⟩ : ∃ n, L - p = n + 1 := ⟨L - p - 1, by omega⟩
  rw [hn, show L - (p + 1) = n by omega, rnF, if_pos ⟨h, hb⟩]
theorem rn_n {B : Nat → Nat} {L s p : Nat} (h : p < L → soN (B p) ≠ s) : rnN B L s p = p := by
  unfold rnN
  cases L - p with
  | zero => rfl
  | succ n => rw [rnF, if_neg (fun q => h q.1 q.2)]
theorem rn_b {B : Nat → Nat} {L s : Nat} : ∀ n p, L - p = n → p ≤ L → p ≤ rnN B L s p ∧ rnN B L s p ≤ L ∧ ∀ j, p ≤ j → j < rnN B L s p → soN (B j) = s := by
  intro n
  induction n with
  | zero =>
    intro p hn hp
    rw [rn_n (fun q => by omega)]
    exact ⟨Nat.le_refl _, hp, fun j _ q => by omega⟩
  | succ n ih =>
    intro p hn hp
    by_cases c : soN (B p) = s
    · rw [rn_s (by omega) c]
      obtain ⟨a, b, d⟩ := ih (p + 1) (by omega) (by omega)
      refine ⟨by omega, b, fun j h1 h2 => ?_⟩
      by_cases e : j = p
      · rw [e]; exact c
      · exact d j (by omega) h2
    · rw [rn_n (fun _ => c)]
      exact ⟨Nat.le_refl _, hp, fun j _ q => by omega⟩
/-! words -/
def mtB (B : Nat → Nat) (p q : Nat) (w : List Nat) : Bool := decide (q = p + w.length ∧ ∀ k, k < w.length → B (p + k) = w.getD k 0)
def samK (B : Nat → Nat) (p q : Nat) (w : List Nat) : Nat → Bool
  | 0 => true
  | k + 1 => samK B p q w k && (decide (p + k < q) && decide (B (p + k) = w.getD k 0))
theorem samK_iff (B : Nat → Nat) (p q : Nat) (w : List Nat) : ∀ n, samK B p q w n = true ↔ ∀ k, k < n → p + k < q ∧ B (p + k) = w.getD k 0
  | 0 => ⟨fun _ k h => by omega, fun _ => rfl⟩
  | n + 1 => by
    rw [samK, Bool.and_eq_true, Bool.and_eq_true, decide_eq_true_eq, decide_eq_true_eq, samK_iff B p q w n]
    refine ⟨fun h k hk => ?_, fun h => ⟨fun k hk => h k (by omega), h n (by omega)⟩⟩
    by_cases e : k = n
    · rw [e]; exact h.2
    · exact h.1 k (by omega)
theorem mt_sam (B : Nat → Nat) (p q : Nat) (w : List Nat) : mtB B p q w = (samK B p q w w.length && decide (p + w.length = q)) := by
  rw [Bool.eq_iff_iff, Bool.and_eq_true, samK_iff]
  unfold mtB
  rw [decide_eq_true_eq, decide_eq_true_eq]
  exact ⟨fun h => ⟨fun k hk => ⟨by omega, h.2 k hk⟩, h.1.symm⟩, fun h => ⟨h.2.symm, fun k hk => (h.1 k hk).2⟩⟩
theorem mt_uq {B : Nat → Nat} {p q : Nat} {v w : List Nat} (hv : mtB B p q v = true) (hw : mtB B p q w = true) : v = w := by
  unfold mtB at hv hw
  rw [decide_eq_true_eq] at hv hw
  have e : v.length = w.length := by omega
  refine List.ext_getElem e (fun k h1 h2 => ?_)
  have a := hv.2 k h1
  have b := hw.2 k h2
  rw [a] at b
  rw [List.getD_eq_getElem?_getD, List.getD_eq_getElem?_getD, List.getElem?_eq_getElem h1, List.getElem?_eq_getElem h2] at b
  exact b
theorem ofN_nI (n : Nat) : Int32.ofNat n = nI n := rfl
theorem pa_word {m : Mm} {B : Nat → Nat} {L x1 p q a i N : Nat} {w : List Nat} (hm : ∀ j, j < L → m 257 j = sbI (B j)) (hB : ∀ j, j < L → B j < 256) (hp : p ≤ L) (hq : q ≤ L) (hL : L ≤ 96) (ha : a < 100) (hN : (strs.getD x1 []).length = N) (hN2 : N < 100) (hi : i + w.length < N) (hw : ∀ k, k < w.length → (strs.getD x1 []).getD (i + k) (nI 0) = nI (w.getD k 0) ∧ w.getD k 0 ≠ 32 ∧ w.getD k 0 < 128) (he : (strs.getD x1 []).getD (i + w.length) (nI 0) = nI 32) (g fuel : Nat) (hf : fuel = g + 1 + w.length) : f_Tp_placeAmong_12 m fuel 256 x1 (nI p) (nI q) (nI a) (nI 0) (nI 1) (nI i) = if mtB B p q w = true then some (nI a) else f_Tp_placeAmong_12 m g 256 x1 (nI p) (nI q) (nI (a + 1)) (nI 0) (nI 1) (nI (i + w.length + 1)) := by
  subst hf
  have inn : ∀ k, k ≤ w.length → f_Tp_placeAmong_12 m (g + 1 + w.length) 256 x1 (nI p) (nI q) (nI a) (nI 0) (nI 1) (nI i) = f_Tp_placeAmong_12 m (g + 1 + (w.length - k)) 256 x1 (nI p) (nI q) (nI a) (nI k) (b2 (samK B p q w k)) (nI (i + k)) := by
    intro k
    induction k with
    | zero => intro _; rfl
    | succ k ih =>
      intro hk
      rw [ih (by omega)]
      obtain ⟨f, hf⟩ : ∃ f, g + 1 + (w.length - k) = f + 1 := ⟨g + (w.length - k), by omega⟩
      rw [hf, show g + 1 + (w.length - (k + 1)) = f by omega]
      obtain ⟨w1, w2, w3⟩ := hw k (by omega)
      rw [samK]
      cases c : samK B p q w k
      · simp -dsimp -implicitDefEqProofs (disch := omega) only [f_Tp_placeAmong_12, f_Tp_placeAmong_67, f_Tp_placeAmong_68, f_Tp_placeAmong_101, ↓l_m1, l_0, l_1, l_2, l_3, l_4, l_5, l_6, l_7, l_8, l_9, l_10, l_11, l_12, l_13, l_14, l_15, l_16, l_17, l_20, l_21, l_22, l_23, l_24, l_28, l_29, l_30, l_31, l_32, l_40, l_41, l_48, l_57, l_60, l_62, l_63, l_84, l_96, l_97, l_99, l_100, l_122, l_132, l_144, l_150, l_186, l_255, l_256, l_288, l_300, l_522, l_634, l_999, l_5242, l_5410, l_5420, l_5520, l_5528, l_9999, l_65535, l_65536, l_100000, l_16777215, l_252645135, l_858993459, l_1431655765, ↓reduceIte, Nat.reduceAdd, Nat.reduceMul, Nat.reduceSub, ixN, inbN, leT, leF, ltT, ltF, eqT, eqF, eqM, eqNone, addN, mulN, subN, m1N, ↓to_bnd, bnd_some, ↓to_nmT, nmT_eq, up2_r, up2_e, pk_us, pk_un, b2_t, b2_f, b2_0, b2_1, zB_1, zB_0, zB_b2, not_true_eq_false, not_false_eq_true, r_Mo, Nat.add_zero, Nat.add_sub_cancel, within_R, within_N, in_R, in_N, inN_yes, inR_yes, inR_pred, orNone_nn, nn_m, nn_N, f_Ct_isDay, f_Ct_isThing, f_Ct_isKind, f_Ct_isRoomSeat, f_Ct_isOffice, f_Ct_isTable, f_Ct_isPaper, f_Ct_isRule, f_Ct_isDecision, f_Mo_isOffice, f_Mo_isTable, f_Mo_isPaper, f_Mo_isRule, f_Mo_isDecision, f_Mo_isDay, f_Mo_isThing, f_Mo_paperOf, f_Mo_set, ofN_nI, hN, w1, Bool.false_and, Nat.add_assoc]
      · by_cases c1 : p + k < q
        · have m1 := hm (p + k) (by omega)
          have b1 := hB (p + k) (by omega)
          by_cases c2 : B (p + k) = w.getD k 0
          · rw [decide_eq_true c1, decide_eq_true c2]
            have e1 : (sbI (B (p + k)) = nI (w.getD k 0)) = True := by rw [sb_eq b1 w3]; exact eq_true c2
            simp -dsimp -implicitDefEqProofs (disch := omega) only [f_Tp_placeAmong_12, f_Tp_placeAmong_67, f_Tp_placeAmong_68, f_Tp_placeAmong_101, ↓l_m1, l_0, l_1, l_2, l_3, l_4, l_5, l_6, l_7, l_8, l_9, l_10, l_11, l_12, l_13, l_14, l_15, l_16, l_17, l_20, l_21, l_22, l_23, l_24, l_28, l_29, l_30, l_31, l_32, l_40, l_41, l_48, l_57, l_60, l_62, l_63, l_84, l_96, l_97, l_99, l_100, l_122, l_132, l_144, l_150, l_186, l_255, l_256, l_288, l_300, l_522, l_634, l_999, l_5242, l_5410, l_5420, l_5520, l_5528, l_9999, l_65535, l_65536, l_100000, l_16777215, l_252645135, l_858993459, l_1431655765, ↓reduceIte, Nat.reduceAdd, Nat.reduceMul, Nat.reduceSub, ixN, inbN, leT, leF, ltT, ltF, eqT, eqF, eqM, eqNone, addN, mulN, subN, m1N, ↓to_bnd, bnd_some, ↓to_nmT, nmT_eq, up2_r, up2_e, pk_us, pk_un, b2_t, b2_f, b2_0, b2_1, zB_1, zB_0, zB_b2, not_true_eq_false, not_false_eq_true, r_Mo, Nat.add_zero, Nat.add_sub_cancel, within_R, within_N, in_R, in_N, inN_yes, inR_yes, inR_pred, orNone_nn, nn_m, nn_N, f_Ct_isDay, f_Ct_isThing, f_Ct_isKind, f_Ct_isRoomSeat, f_Ct_isOffice, f_Ct_isTable, f_Ct_isPaper, f_Ct_isRule, f_Ct_isDecision, f_Mo_isOffice, f_Mo_isTable, f_Mo_isPaper, f_Mo_isRule, f_Mo_isDecision, f_Mo_isDay, f_Mo_isThing, f_Mo_paperOf, f_Mo_set, rt_0, ofN_nI, hN, w1, m1, e1, Bool.true_and, Nat.add_assoc]
          · rw [decide_eq_true c1, decide_eq_false c2]
            have e1 : (sbI (B (p + k)) = nI (w.getD k 0)) = False := by rw [sb_eq b1 w3]; exact eq_false c2
            simp -dsimp -implicitDefEqProofs (disch := omega) only [f_Tp_placeAmong_12, f_Tp_placeAmong_67, f_Tp_placeAmong_68, f_Tp_placeAmong_101, ↓l_m1, l_0, l_1, l_2, l_3, l_4, l_5, l_6, l_7, l_8, l_9, l_10, l_11, l_12, l_13, l_14, l_15, l_16, l_17, l_20, l_21, l_22, l_23, l_24, l_28, l_29, l_30, l_31, l_32, l_40, l_41, l_48, l_57, l_60, l_62, l_63, l_84, l_96, l_97, l_99, l_100, l_122, l_132, l_144, l_150, l_186, l_255, l_256, l_288, l_300, l_522, l_634, l_999, l_5242, l_5410, l_5420, l_5520, l_5528, l_9999, l_65535, l_65536, l_100000, l_16777215, l_252645135, l_858993459, l_1431655765, ↓reduceIte, Nat.reduceAdd, Nat.reduceMul, Nat.reduceSub, ixN, inbN, leT, leF, ltT, ltF, eqT, eqF, eqM, eqNone, addN, mulN, subN, m1N, ↓to_bnd, bnd_some, ↓to_nmT, nmT_eq, up2_r, up2_e, pk_us, pk_un, b2_t, b2_f, b2_0, b2_1, zB_1, zB_0, zB_b2, not_true_eq_false, not_false_eq_true, r_Mo, Nat.add_zero, Nat.add_sub_cancel, within_R, within_N, in_R, in_N, inN_yes, inR_yes, inR_pred, orNone_nn, nn_m, nn_N, f_Ct_isDay, f_Ct_isThing, f_Ct_isKind, f_Ct_isRoomSeat, f_Ct_isOffice, f_Ct_isTable, f_Ct_isPaper, f_Ct_isRule, f_Ct_isDecision, f_Mo_isOffice, f_Mo_isTable, f_Mo_isPaper, f_Mo_isRule, f_Mo_isDecision, f_Mo_isDay, f_Mo_isThing, f_Mo_paperOf, f_Mo_set, rt_0, ofN_nI, hN, w1, m1, e1, Bool.true_and, Nat.add_assoc]
        · rw [decide_eq_false c1]
          simp -dsimp -implicitDefEqProofs (disch := omega) only [f_Tp_placeAmong_12, f_Tp_placeAmong_67, f_Tp_placeAmong_68, f_Tp_placeAmong_101, ↓l_m1, l_0, l_1, l_2, l_3, l_4, l_5, l_6, l_7, l_8, l_9, l_10, l_11, l_12, l_13, l_14, l_15, l_16, l_17, l_20, l_21, l_22, l_23, l_24, l_28, l_29, l_30, l_31, l_32, l_40, l_41, l_48, l_57, l_60, l_62, l_63, l_84, l_96, l_97, l_99, l_100, l_122, l_132, l_144, l_150, l_186, l_255, l_256, l_288, l_300, l_522, l_634, l_999, l_5242, l_5410, l_5420, l_5520, l_5528, l_9999, l_65535, l_65536, l_100000, l_16777215, l_252645135, l_858993459, l_1431655765, ↓reduceIte, Nat.reduceAdd, Nat.reduceMul, Nat.reduceSub, ixN, inbN, leT, leF, ltT, ltF, eqT, eqF, eqM, eqNone, addN, mulN, subN, m1N, ↓to_bnd, bnd_some, ↓to_nmT, nmT_eq, up2_r, up2_e, pk_us, pk_un, b2_t, b2_f, b2_0, b2_1, zB_1, zB_0, zB_b2, not_true_eq_false, not_false_eq_true, r_Mo, Nat.add_zero, Nat.add_sub_cancel, within_R, within_N, in_R, in_N, inN_yes, inR_yes, inR_pred, orNone_nn, nn_m, nn_N, f_Ct_isDay, f_Ct_isThing, f_Ct_isKind, f_Ct_isRoomSeat, f_Ct_isOffice, f_Ct_isTable, f_Ct_isPaper, f_Ct_isRule, f_Ct_isDecision, f_Mo_isOffice, f_Mo_isTable, f_Mo_isPaper, f_Mo_isRule, f_Mo_isDecision, f_Mo_isDay, f_Mo_isThing, f_Mo_paperOf, f_Mo_set, ofN_nI, hN, w1, Bool.true_and, Bool.false_and, Nat.add_assoc]
  rw [inn w.length (Nat.le_refl _), Nat.sub_self, Nat.add_zero, mt_sam]
  cases c : samK B p q w w.length
  · rw [Bool.false_and, if_neg (by decide)]
    simp -dsimp -implicitDefEqProofs (disch := omega) only [f_Tp_placeAmong_12, f_Tp_placeAmong_92, f_Tp_placeAmong_101, ↓l_m1, l_0, l_1, l_2, l_3, l_4, l_5, l_6, l_7, l_8, l_9, l_10, l_11, l_12, l_13, l_14, l_15, l_16, l_17, l_20, l_21, l_22, l_23, l_24, l_28, l_29, l_30, l_31, l_32, l_40, l_41, l_48, l_57, l_60, l_62, l_63, l_84, l_96, l_97, l_99, l_100, l_122, l_132, l_144, l_150, l_186, l_255, l_256, l_288, l_300, l_522, l_634, l_999, l_5242, l_5410, l_5420, l_5520, l_5528, l_9999, l_65535, l_65536, l_100000, l_16777215, l_252645135, l_858993459, l_1431655765, ↓reduceIte, Nat.reduceAdd, Nat.reduceMul, Nat.reduceSub, ixN, inbN, leT, leF, ltT, ltF, eqT, eqF, eqM, eqNone, addN, mulN, subN, m1N, ↓to_bnd, bnd_some, ↓to_nmT, nmT_eq, up2_r, up2_e, pk_us, pk_un, b2_t, b2_f, b2_0, b2_1, zB_1, zB_0, zB_b2, not_true_eq_false, not_false_eq_true, r_Mo, Nat.add_zero, Nat.add_sub_cancel, within_R, within_N, in_R, in_N, inN_yes, inR_yes, inR_pred, orNone_nn, nn_m, nn_N, f_Ct_isDay, f_Ct_isThing, f_Ct_isKind, f_Ct_isRoomSeat, f_Ct_isOffice, f_Ct_isTable, f_Ct_isPaper, f_Ct_isRule, f_Ct_isDecision, f_Mo_isOffice, f_Mo_isTable, f_Mo_isPaper, f_Mo_isRule, f_Mo_isDecision, f_Mo_isDay, f_Mo_isThing, f_Mo_paperOf, f_Mo_set, ofN_nI, hN, he]
  · by_cases c1 : p + w.length = q
    · rw [decide_eq_true c1, Bool.and_true, if_pos rfl]
      simp -dsimp -implicitDefEqProofs (disch := omega) only [f_Tp_placeAmong_12, f_Tp_placeAmong_92, f_Tp_placeAmong_101, ↓l_m1, l_0, l_1, l_2, l_3, l_4, l_5, l_6, l_7, l_8, l_9, l_10, l_11, l_12, l_13, l_14, l_15, l_16, l_17, l_20, l_21, l_22, l_23, l_24, l_28, l_29, l_30, l_31, l_32, l_40, l_41, l_48, l_57, l_60, l_62, l_63, l_84, l_96, l_97, l_99, l_100, l_122, l_132, l_144, l_150, l_186, l_255, l_256, l_288, l_300, l_522, l_634, l_999, l_5242, l_5410, l_5420, l_5520, l_5528, l_9999, l_65535, l_65536, l_100000, l_16777215, l_252645135, l_858993459, l_1431655765, ↓reduceIte, Nat.reduceAdd, Nat.reduceMul, Nat.reduceSub, ixN, inbN, leT, leF, ltT, ltF, eqT, eqF, eqM, eqNone, addN, mulN, subN, m1N, ↓to_bnd, bnd_some, ↓to_nmT, nmT_eq, up2_r, up2_e, pk_us, pk_un, b2_t, b2_f, b2_0, b2_1, zB_1, zB_0, zB_b2, not_true_eq_false, not_false_eq_true, r_Mo, Nat.add_zero, Nat.add_sub_cancel, within_R, within_N, in_R, in_N, inN_yes, inR_yes, inR_pred, orNone_nn, nn_m, nn_N, f_Ct_isDay, f_Ct_isThing, f_Ct_isKind, f_Ct_isRoomSeat, f_Ct_isOffice, f_Ct_isTable, f_Ct_isPaper, f_Ct_isRule, f_Ct_isDecision, f_Mo_isOffice, f_Mo_isTable, f_Mo_isPaper, f_Mo_isRule, f_Mo_isDecision, f_Mo_isDay, f_Mo_isThing, f_Mo_paperOf, f_Mo_set, ofN_nI, hN, he]
    · rw [decide_eq_false c1, Bool.and_false, if_neg (by decide)]
      simp -dsimp -implicitDefEqProofs (disch := omega) only [f_Tp_placeAmong_12, f_Tp_placeAmong_92, f_Tp_placeAmong_101, ↓l_m1, l_0, l_1, l_2, l_3, l_4, l_5, l_6, l_7, l_8, l_9, l_10, l_11, l_12, l_13, l_14, l_15, l_16, l_17, l_20, l_21, l_22, l_23, l_24, l_28, l_29, l_30, l_31, l_32, l_40, l_41, l_48, l_57, l_60, l_62, l_63, l_84, l_96, l_97, l_99, l_100, l_122, l_132, l_144, l_150, l_186, l_255, l_256, l_288, l_300, l_522, l_634, l_999, l_5242, l_5410, l_5420, l_5520, l_5528, l_9999, l_65535, l_65536, l_100000, l_16777215, l_252645135, l_858993459, l_1431655765, ↓reduceIte, Nat.reduceAdd, Nat.reduceMul, Nat.reduceSub, ixN, inbN, leT, leF, ltT, ltF, eqT, eqF, eqM, eqNone, addN, mulN, subN, m1N, ↓to_bnd, bnd_some, ↓to_nmT, nmT_eq, up2_r, up2_e, pk_us, pk_un, b2_t, b2_f, b2_0, b2_1, zB_1, zB_0, zB_b2, not_true_eq_false, not_false_eq_true, r_Mo, Nat.add_zero, Nat.add_sub_cancel, within_R, within_N, in_R, in_N, inN_yes, inR_yes, inR_pred, orNone_nn, nn_m, nn_N, f_Ct_isDay, f_Ct_isThing, f_Ct_isKind, f_Ct_isRoomSeat, f_Ct_isOffice, f_Ct_isTable, f_Ct_isPaper, f_Ct_isRule, f_Ct_isDecision, f_Mo_isOffice, f_Mo_isTable, f_Mo_isPaper, f_Mo_isRule, f_Mo_isDecision, f_Mo_isDay, f_Mo_isThing, f_Mo_paperOf, f_Mo_set, ofN_nI, hN, he]
def paN (B : Nat → Nat) (p q : Nat) : List (List Nat) → Nat → Int32
  | [], _ => m1I
  | w :: t, a => if mtB B p q w = true then nI a else paN B p q t (a + 1)
def fiN (B : Nat → Nat) (p q : Nat) : List (List Nat) → Nat → Nat
  | [], a => a
  | w :: t, a => if mtB B p q w = true then a else fiN B p q t (a + 1)
theorem fi_add (B : Nat → Nat) (p q : Nat) : ∀ ws a, fiN B p q ws a = a + fiN B p q ws 0
  | [], a => rfl
  | w :: t, a => by
    rw [fiN, fiN]
    by_cases c : mtB B p q w = true
    · rw [if_pos c, if_pos c]; rfl
    · rw [if_neg c, if_neg c, fi_add B p q t (a + 1), fi_add B p q t (0 + 1)]; omega
theorem fi_le (B : Nat → Nat) (p q : Nat) : ∀ ws, fiN B p q ws 0 ≤ ws.length
  | [] => Nat.le_refl _
  | w :: t => by
    have := fi_le B p q t
    rw [fiN, fi_add, List.length_cons]
    split <;> omega
theorem fi_app (B : Nat → Nat) (p q : Nat) (vs : List (List Nat)) : ∀ ws, fiN B p q (ws ++ vs) 0 = if fiN B p q ws 0 < ws.length then fiN B p q ws 0 else ws.length + fiN B p q vs 0
  | [] => by rw [List.nil_append, fiN, if_neg (by decide), List.length_nil, Nat.zero_add]
  | w :: t => by
    rw [List.cons_append, fiN, fiN, fi_add B p q (t ++ vs), fi_add B p q t (0 + 1), fi_app B p q vs t, List.length_cons]
    by_cases c : mtB B p q w = true
    · rw [if_pos c, if_pos c, if_pos (by omega)]
    · rw [if_neg c, if_neg c]
      by_cases d : fiN B p q t 0 < t.length
      · rw [if_pos d, if_pos (by omega)]
      · rw [if_neg d, if_neg (by omega)]; omega
theorem pa_fi (B : Nat → Nat) (p q : Nat) : ∀ ws a, paN B p q ws a = if fiN B p q ws 0 < ws.length then nI (a + fiN B p q ws 0) else m1I
  | [], a => by rw [fiN, paN, if_neg (by decide)]
  | w :: t, a => by
    rw [paN, fiN, pa_fi B p q t (a + 1), fi_add B p q t (0 + 1), List.length_cons]
    by_cases c : mtB B p q w = true
    · rw [if_pos c, if_pos c, if_pos (by omega)]; rfl
    · rw [if_neg c, if_neg c]
      by_cases d : fiN B p q t 0 < t.length
      · rw [if_pos d, if_pos (by omega), show a + 1 + fiN B p q t 0 = a + (0 + 1 + fiN B p q t 0) by omega]
      · rw [if_neg d, if_neg (by omega)]
def wd0 : List (List Nat) := [[105, 102], [117, 110, 108, 101, 115, 115], [111, 114], [97, 110, 100], [110, 111, 116]]
def wd1 : List (List Nat) := [[116, 97, 98, 108, 101], [97, 104, 101, 97, 100], [110, 101, 101, 100], [115, 105, 108, 101, 110, 116], [115, 104, 117, 116], [115, 116, 114, 105, 107, 101]]
def wd2 : List (List Nat) := [[115, 117, 109], [100, 97, 121], [103, 111, 118], [98, 121], [116, 104, 105, 110, 103], [97, 103, 114, 101, 101, 100]]
def wdL : List (List Nat) := wd0 ++ (wd1 ++ wd2)
theorem c_pa0 {m : Mm} {B : Nat → Nat} {L p q : Nat} (hm : ∀ j, j < L → m 257 j = sbI (B j)) (hB : ∀ j, j < L → B j < 256) (hp : p ≤ L) (hq : q ≤ L) (hL : L ≤ 96) : f_Tp_placeAmong m 256 0 (nI p) (nI q) = some (paN B p q wd0 0) := by
  have z : ∀ f, f_Tp_placeAmong_12 m (f + 22) 256 0 (nI p) (nI q) (nI 0) (nI 0) (nI 1) (nI 0) = some (paN B p q wd0 0) := by
    intro f
    rw [pa_word (w := [105, 102]) hm hB hp hq hL (by omega) (N := 21) (by decide) (by omega) (by decide) (by decide) (by decide) (f + 19) _ (by rfl)]
    rw [pa_word (w := [117, 110, 108, 101, 115, 115]) hm hB hp hq hL (by omega) (N := 21) (by decide) (by omega) (by decide) (by decide) (by decide) (f + 12) _ (by rfl)]
    rw [pa_word (w := [111, 114]) hm hB hp hq hL (by omega) (N := 21) (by decide) (by omega) (by decide) (by decide) (by decide) (f + 9) _ (by rfl)]
    rw [pa_word (w := [97, 110, 100]) hm hB hp hq hL (by omega) (N := 21) (by decide) (by omega) (by decide) (by decide) (by decide) (f + 5) _ (by rfl)]
    rw [pa_word (w := [110, 111, 116]) hm hB hp hq hL (by omega) (N := 21) (by decide) (by omega) (by decide) (by decide) (by decide) (f + 1) _ (by rfl)]
    have e : f_Tp_placeAmong_12 m (f + 1) 256 0 (nI p) (nI q) (nI 5) (nI 0) (nI 1) (nI 21) = some m1I := by
      have hN : (strs.getD 0 []).length = 21 := by decide
      simp -dsimp -implicitDefEqProofs (disch := omega) only [f_Tp_placeAmong_12, ↓l_m1, l_0, l_1, l_2, l_3, l_4, l_5, l_6, l_7, l_8, l_9, l_10, l_11, l_12, l_13, l_14, l_15, l_16, l_17, l_20, l_21, l_22, l_23, l_24, l_28, l_29, l_30, l_31, l_32, l_40, l_41, l_48, l_57, l_60, l_62, l_63, l_84, l_96, l_97, l_99, l_100, l_122, l_132, l_144, l_150, l_186, l_255, l_256, l_288, l_300, l_522, l_634, l_999, l_5242, l_5410, l_5420, l_5520, l_5528, l_9999, l_65535, l_65536, l_100000, l_16777215, l_252645135, l_858993459, l_1431655765, ↓reduceIte, Nat.reduceAdd, Nat.reduceMul, Nat.reduceSub, ixN, inbN, leT, leF, ltT, ltF, eqT, eqF, eqM, eqNone, addN, mulN, subN, m1N, ↓to_bnd, bnd_some, ↓to_nmT, nmT_eq, up2_r, up2_e, pk_us, pk_un, b2_t, b2_f, b2_0, b2_1, zB_1, zB_0, zB_b2, not_true_eq_false, not_false_eq_true, r_Mo, Nat.add_zero, Nat.add_sub_cancel, within_R, within_N, in_R, in_N, inN_yes, inR_yes, inR_pred, orNone_nn, nn_m, nn_N, f_Ct_isDay, f_Ct_isThing, f_Ct_isKind, f_Ct_isRoomSeat, f_Ct_isOffice, f_Ct_isTable, f_Ct_isPaper, f_Ct_isRule, f_Ct_isDecision, f_Mo_isOffice, f_Mo_isTable, f_Mo_isPaper, f_Mo_isRule, f_Mo_isDecision, f_Mo_isDay, f_Mo_isThing, f_Mo_paperOf, f_Mo_set, ofN_nI, hN]
    unfold wd0
    simp only [paN]
    repeat' split
    all_goals first | rfl | exact e
  unfold f_Tp_placeAmong
  rw [l_0, l_1]
  exact z 9978
theorem c_pa1 {m : Mm} {B : Nat → Nat} {L p q : Nat} (hm : ∀ j, j < L → m 257 j = sbI (B j)) (hB : ∀ j, j < L → B j < 256) (hp : p ≤ L) (hq : q ≤ L) (hL : L ≤ 96) : f_Tp_placeAmong m 256 1 (nI p) (nI q) = some (paN B p q wd1 0) := by
  have z : ∀ f, f_Tp_placeAmong_12 m (f + 37) 256 1 (nI p) (nI q) (nI 0) (nI 0) (nI 1) (nI 0) = some (paN B p q wd1 0) := by
    intro f
    rw [pa_word (w := [116, 97, 98, 108, 101]) hm hB hp hq hL (by omega) (N := 36) (by decide) (by omega) (by decide) (by decide) (by decide) (f + 31) _ (by rfl)]
    rw [pa_word (w := [97, 104, 101, 97, 100]) hm hB hp hq hL (by omega) (N := 36) (by decide) (by omega) (by decide) (by decide) (by decide) (f + 25) _ (by rfl)]
    rw [pa_word (w := [110, 101, 101, 100]) hm hB hp hq hL (by omega) (N := 36) (by decide) (by omega) (by decide) (by decide) (by decide) (f + 20) _ (by rfl)]
    rw [pa_word (w := [115, 105, 108, 101, 110, 116]) hm hB hp hq hL (by omega) (N := 36) (by decide) (by omega) (by decide) (by decide) (by decide) (f + 13) _ (by rfl)]
    rw [pa_word (w := [115, 104, 117, 116]) hm hB hp hq hL (by omega) (N := 36) (by decide) (by omega) (by decide) (by decide) (by decide) (f + 8) _ (by rfl)]
    rw [pa_word (w := [115, 116, 114, 105, 107, 101]) hm hB hp hq hL (by omega) (N := 36) (by decide) (by omega) (by decide) (by decide) (by decide) (f + 1) _ (by rfl)]
    have e : f_Tp_placeAmong_12 m (f + 1) 256 1 (nI p) (nI q) (nI 6) (nI 0) (nI 1) (nI 36) = some m1I := by
      have hN : (strs.getD 1 []).length = 36 := by decide
      simp -dsimp -implicitDefEqProofs (disch := omega) only [f_Tp_placeAmong_12, ↓l_m1, l_0, l_1, l_2, l_3, l_4, l_5, l_6, l_7, l_8, l_9, l_10, l_11, l_12, l_13, l_14, l_15, l_16, l_17, l_20, l_21, l_22, l_23, l_24, l_28, l_29, l_30, l_31, l_32, l_40, l_41, l_48, l_57, l_60, l_62, l_63, l_84, l_96, l_97, l_99, l_100, l_122, l_132, l_144, l_150, l_186, l_255, l_256, l_288, l_300, l_522, l_634, l_999, l_5242, l_5410, l_5420, l_5520, l_5528, l_9999, l_65535, l_65536, l_100000, l_16777215, l_252645135, l_858993459, l_1431655765, ↓reduceIte, Nat.reduceAdd, Nat.reduceMul, Nat.reduceSub, ixN, inbN, leT, leF, ltT, ltF, eqT, eqF, eqM, eqNone, addN, mulN, subN, m1N, ↓to_bnd, bnd_some, ↓to_nmT, nmT_eq, up2_r, up2_e, pk_us, pk_un, b2_t, b2_f, b2_0, b2_1, zB_1, zB_0, zB_b2, not_true_eq_false, not_false_eq_true, r_Mo, Nat.add_zero, Nat.add_sub_cancel, within_R, within_N, in_R, in_N, inN_yes, inR_yes, inR_pred, orNone_nn, nn_m, nn_N, f_Ct_isDay, f_Ct_isThing, f_Ct_isKind, f_Ct_isRoomSeat, f_Ct_isOffice, f_Ct_isTable, f_Ct_isPaper, f_Ct_isRule, f_Ct_isDecision, f_Mo_isOffice, f_Mo_isTable, f_Mo_isPaper, f_Mo_isRule, f_Mo_isDecision, f_Mo_isDay, f_Mo_isThing, f_Mo_paperOf, f_Mo_set, ofN_nI, hN]
    unfold wd1
    simp only [paN]
    repeat' split
    all_goals first | rfl | exact e
  unfold f_Tp_placeAmong
  rw [l_0, l_1]
  exact z 9963
theorem c_pa2 {m : Mm} {B : Nat → Nat} {L p q : Nat} (hm : ∀ j, j < L → m 257 j = sbI (B j)) (hB : ∀ j, j < L → B j < 256) (hp : p ≤ L) (hq : q ≤ L) (hL : L ≤ 96) : f_Tp_placeAmong m 256 2 (nI p) (nI q) = some (paN B p q wd2 0) := by
  have z : ∀ f, f_Tp_placeAmong_12 m (f + 29) 256 2 (nI p) (nI q) (nI 0) (nI 0) (nI 1) (nI 0) = some (paN B p q wd2 0) := by
    intro f
    rw [pa_word (w := [115, 117, 109]) hm hB hp hq hL (by omega) (N := 28) (by decide) (by omega) (by decide) (by decide) (by decide) (f + 25) _ (by rfl)]
    rw [pa_word (w := [100, 97, 121]) hm hB hp hq hL (by omega) (N := 28) (by decide) (by omega) (by decide) (by decide) (by decide) (f + 21) _ (by rfl)]
    rw [pa_word (w := [103, 111, 118]) hm hB hp hq hL (by omega) (N := 28) (by decide) (by omega) (by decide) (by decide) (by decide) (f + 17) _ (by rfl)]
    rw [pa_word (w := [98, 121]) hm hB hp hq hL (by omega) (N := 28) (by decide) (by omega) (by decide) (by decide) (by decide) (f + 14) _ (by rfl)]
    rw [pa_word (w := [116, 104, 105, 110, 103]) hm hB hp hq hL (by omega) (N := 28) (by decide) (by omega) (by decide) (by decide) (by decide) (f + 8) _ (by rfl)]
    rw [pa_word (w := [97, 103, 114, 101, 101, 100]) hm hB hp hq hL (by omega) (N := 28) (by decide) (by omega) (by decide) (by decide) (by decide) (f + 1) _ (by rfl)]
    have e : f_Tp_placeAmong_12 m (f + 1) 256 2 (nI p) (nI q) (nI 6) (nI 0) (nI 1) (nI 28) = some m1I := by
      have hN : (strs.getD 2 []).length = 28 := by decide
      simp -dsimp -implicitDefEqProofs (disch := omega) only [f_Tp_placeAmong_12, ↓l_m1, l_0, l_1, l_2, l_3, l_4, l_5, l_6, l_7, l_8, l_9, l_10, l_11, l_12, l_13, l_14, l_15, l_16, l_17, l_20, l_21, l_22, l_23, l_24, l_28, l_29, l_30, l_31, l_32, l_40, l_41, l_48, l_57, l_60, l_62, l_63, l_84, l_96, l_97, l_99, l_100, l_122, l_132, l_144, l_150, l_186, l_255, l_256, l_288, l_300, l_522, l_634, l_999, l_5242, l_5410, l_5420, l_5520, l_5528, l_9999, l_65535, l_65536, l_100000, l_16777215, l_252645135, l_858993459, l_1431655765, ↓reduceIte, Nat.reduceAdd, Nat.reduceMul, Nat.reduceSub, ixN, inbN, leT, leF, ltT, ltF, eqT, eqF, eqM, eqNone, addN, mulN, subN, m1N, ↓to_bnd, bnd_some, ↓to_nmT, nmT_eq, up2_r, up2_e, pk_us, pk_un, b2_t, b2_f, b2_0, b2_1, zB_1, zB_0, zB_b2, not_true_eq_false, not_false_eq_true, r_Mo, Nat.add_zero, Nat.add_sub_cancel, within_R, within_N, in_R, in_N, inN_yes, inR_yes, inR_pred, orNone_nn, nn_m, nn_N, f_Ct_isDay, f_Ct_isThing, f_Ct_isKind, f_Ct_isRoomSeat, f_Ct_isOffice, f_Ct_isTable, f_Ct_isPaper, f_Ct_isRule, f_Ct_isDecision, f_Mo_isOffice, f_Mo_isTable, f_Mo_isPaper, f_Mo_isRule, f_Mo_isDecision, f_Mo_isDay, f_Mo_isThing, f_Mo_paperOf, f_Mo_set, ofN_nI, hN]
    unfold wd2
    simp only [paN]
    repeat' split
    all_goals first | rfl | exact e
  unfold f_Tp_placeAmong
  rw [l_0, l_1]
  exact z 9971
def wcN (B : Nat → Nat) (p q : Nat) : Nat := fiN B p q wdL 0
theorem wc_le (B : Nat → Nat) (p q : Nat) : wcN B p q ≤ 17 := fi_le B p q wdL
theorem c_tokenOfWord {m : Mm} {B : Nat → Nat} {L p q : Nat} (hm : ∀ j, j < L → m 257 j = sbI (B j)) (hB : ∀ j, j < L → B j < 256) (hp : p ≤ L) (hq : q ≤ L) (hL : L ≤ 96) : f_Tp_tokenOfWord m 256 (nI p) (nI q) = some (nI (6 + wcN B p q)) := by
  have h0 := c_pa0 hm hB hp hq hL
  have h1 := c_pa1 hm hB hp hq hL
  have h2 := c_pa2 hm hB hp hq hL
  rw [pa_fi] at h0 h1 h2
  have n0 : wd0.length = 5 := rfl
  have n1 : wd1.length = 6 := rfl
  have n2 : wd2.length = 6 := rfl
  have k0 := fi_le B p q wd0
  have k1 := fi_le B p q wd1
  have k2 := fi_le B p q wd2
  have ng : (m1I < nI 0) = True := eq_true (by decide)
  have lz : (0 : Int32) = nI 0 := rfl
  unfold wcN wdL
  rw [fi_app, fi_app, n0, n1]
  rw [n0] at h0 k0
  rw [n1] at h1 k1
  rw [n2] at h2 k2
  by_cases c0 : fiN B p q wd0 0 < 5
  · rw [if_pos c0] at h0 ⊢
    simp -dsimp -implicitDefEqProofs (disch := omega) only [f_Tp_tokenOfWord, ↓l_m1, l_0, l_1, l_2, l_3, l_4, l_5, l_6, l_7, l_8, l_9, l_10, l_11, l_12, l_13, l_14, l_15, l_16, l_17, l_20, l_21, l_22, l_23, l_24, l_28, l_29, l_30, l_31, l_32, l_40, l_41, l_48, l_57, l_60, l_62, l_63, l_84, l_96, l_97, l_99, l_100, l_122, l_132, l_144, l_150, l_186, l_255, l_256, l_288, l_300, l_522, l_634, l_999, l_5242, l_5410, l_5420, l_5520, l_5528, l_9999, l_65535, l_65536, l_100000, l_16777215, l_252645135, l_858993459, l_1431655765, ↓reduceIte, Nat.reduceAdd, Nat.reduceMul, Nat.reduceSub, ixN, inbN, leT, leF, ltT, ltF, eqT, eqF, eqM, eqNone, addN, mulN, subN, m1N, ↓to_bnd, bnd_some, ↓to_nmT, nmT_eq, up2_r, up2_e, pk_us, pk_un, b2_t, b2_f, b2_0, b2_1, zB_1, zB_0, zB_b2, not_true_eq_false, not_false_eq_true, r_Mo, Nat.add_zero, Nat.add_sub_cancel, within_R, within_N, in_R, in_N, inN_yes, inR_yes, inR_pred, orNone_nn, nn_m, nn_N, f_Ct_isDay, f_Ct_isThing, f_Ct_isKind, f_Ct_isRoomSeat, f_Ct_isOffice, f_Ct_isTable, f_Ct_isPaper, f_Ct_isRule, f_Ct_isDecision, f_Mo_isOffice, f_Mo_isTable, f_Mo_isPaper, f_Mo_isRule, f_Mo_isDecision, f_Mo_isDay, f_Mo_isThing, f_Mo_paperOf, f_Mo_set, h0, Nat.zero_add]
  · rw [if_neg c0] at h0 ⊢
    by_cases c1 : fiN B p q wd1 0 < 6
    · rw [if_pos c1] at h1 ⊢
      simp -dsimp -implicitDefEqProofs (disch := omega) only [f_Tp_tokenOfWord, ↓l_m1, l_0, l_1, l_2, l_3, l_4, l_5, l_6, l_7, l_8, l_9, l_10, l_11, l_12, l_13, l_14, l_15, l_16, l_17, l_20, l_21, l_22, l_23, l_24, l_28, l_29, l_30, l_31, l_32, l_40, l_41, l_48, l_57, l_60, l_62, l_63, l_84, l_96, l_97, l_99, l_100, l_122, l_132, l_144, l_150, l_186, l_255, l_256, l_288, l_300, l_522, l_634, l_999, l_5242, l_5410, l_5420, l_5520, l_5528, l_9999, l_65535, l_65536, l_100000, l_16777215, l_252645135, l_858993459, l_1431655765, ↓reduceIte, Nat.reduceAdd, Nat.reduceMul, Nat.reduceSub, ixN, inbN, leT, leF, ltT, ltF, eqT, eqF, eqM, eqNone, addN, mulN, subN, m1N, ↓to_bnd, bnd_some, ↓to_nmT, nmT_eq, up2_r, up2_e, pk_us, pk_un, b2_t, b2_f, b2_0, b2_1, zB_1, zB_0, zB_b2, not_true_eq_false, not_false_eq_true, r_Mo, Nat.add_zero, Nat.add_sub_cancel, within_R, within_N, in_R, in_N, inN_yes, inR_yes, inR_pred, orNone_nn, nn_m, nn_N, f_Ct_isDay, f_Ct_isThing, f_Ct_isKind, f_Ct_isRoomSeat, f_Ct_isOffice, f_Ct_isTable, f_Ct_isPaper, f_Ct_isRule, f_Ct_isDecision, f_Mo_isOffice, f_Mo_isTable, f_Mo_isPaper, f_Mo_isRule, f_Mo_isDecision, f_Mo_isDay, f_Mo_isThing, f_Mo_paperOf, f_Mo_set, h0, h1, ng, Nat.zero_add]
      rw [show 6 + (5 + fiN B p q wd1 0) = 11 + fiN B p q wd1 0 by omega]
    · rw [if_neg c1] at h1 ⊢
      by_cases c2 : fiN B p q wd2 0 < 6
      · rw [if_pos c2] at h2
        simp -dsimp -implicitDefEqProofs (disch := omega) only [f_Tp_tokenOfWord, f_Tp_tokenOfWord_58, ↓l_m1, l_0, l_1, l_2, l_3, l_4, l_5, l_6, l_7, l_8, l_9, l_10, l_11, l_12, l_13, l_14, l_15, l_16, l_17, l_20, l_21, l_22, l_23, l_24, l_28, l_29, l_30, l_31, l_32, l_40, l_41, l_48, l_57, l_60, l_62, l_63, l_84, l_96, l_97, l_99, l_100, l_122, l_132, l_144, l_150, l_186, l_255, l_256, l_288, l_300, l_522, l_634, l_999, l_5242, l_5410, l_5420, l_5520, l_5528, l_9999, l_65535, l_65536, l_100000, l_16777215, l_252645135, l_858993459, l_1431655765, ↓reduceIte, Nat.reduceAdd, Nat.reduceMul, Nat.reduceSub, ixN, inbN, leT, leF, ltT, ltF, eqT, eqF, eqM, eqNone, addN, mulN, subN, m1N, ↓to_bnd, bnd_some, ↓to_nmT, nmT_eq, up2_r, up2_e, pk_us, pk_un, b2_t, b2_f, b2_0, b2_1, zB_1, zB_0, zB_b2, not_true_eq_false, not_false_eq_true, r_Mo, Nat.add_zero, Nat.add_sub_cancel, within_R, within_N, in_R, in_N, inN_yes, inR_yes, inR_pred, orNone_nn, nn_m, nn_N, f_Ct_isDay, f_Ct_isThing, f_Ct_isKind, f_Ct_isRoomSeat, f_Ct_isOffice, f_Ct_isTable, f_Ct_isPaper, f_Ct_isRule, f_Ct_isDecision, f_Mo_isOffice, f_Mo_isTable, f_Mo_isPaper, f_Mo_isRule, f_Mo_isDecision, f_Mo_isDay, f_Mo_isThing, f_Mo_paperOf, f_Mo_set, h0, h1, h2, ng, Nat.zero_add]
        rw [show 6 + (5 + (6 + fiN B p q wd2 0)) = 17 + fiN B p q wd2 0 by omega]
      · rw [if_neg c2] at h2
        have e2 : fiN B p q wd2 0 = 6 := by omega
        rw [e2]
        simp -dsimp -implicitDefEqProofs (disch := omega) only [f_Tp_tokenOfWord, f_Tp_tokenOfWord_58, ↓l_m1, l_0, l_1, l_2, l_3, l_4, l_5, l_6, l_7, l_8, l_9, l_10, l_11, l_12, l_13, l_14, l_15, l_16, l_17, l_20, l_21, l_22, l_23, l_24, l_28, l_29, l_30, l_31, l_32, l_40, l_41, l_48, l_57, l_60, l_62, l_63, l_84, l_96, l_97, l_99, l_100, l_122, l_132, l_144, l_150, l_186, l_255, l_256, l_288, l_300, l_522, l_634, l_999, l_5242, l_5410, l_5420, l_5520, l_5528, l_9999, l_65535, l_65536, l_100000, l_16777215, l_252645135, l_858993459, l_1431655765, ↓reduceIte, Nat.reduceAdd, Nat.reduceMul, Nat.reduceSub, ixN, inbN, leT, leF, ltT, ltF, eqT, eqF, eqM, eqNone, addN, mulN, subN, m1N, ↓to_bnd, bnd_some, ↓to_nmT, nmT_eq, up2_r, up2_e, pk_us, pk_un, b2_t, b2_f, b2_0, b2_1, zB_1, zB_0, zB_b2, not_true_eq_false, not_false_eq_true, r_Mo, Nat.add_zero, Nat.add_sub_cancel, within_R, within_N, in_R, in_N, inN_yes, inR_yes, inR_pred, orNone_nn, nn_m, nn_N, f_Ct_isDay, f_Ct_isThing, f_Ct_isKind, f_Ct_isRoomSeat, f_Ct_isOffice, f_Ct_isTable, f_Ct_isPaper, f_Ct_isRule, f_Ct_isDecision, f_Mo_isOffice, f_Mo_isTable, f_Mo_isPaper, f_Mo_isRule, f_Mo_isDecision, f_Mo_isDay, f_Mo_isThing, f_Mo_paperOf, f_Mo_set, h0, h1, h2, ng, Nat.zero_add]
theorem fi_spec (B : Nat → Nat) (p q : Nat) : ∀ ws, fiN B p q ws 0 < ws.length → mtB B p q (ws.getD (fiN B p q ws 0) []) = true
  | [], h => by rw [List.length_nil] at h; omega
  | w :: t, h => by
    by_cases c : mtB B p q w = true
    · rw [fiN, if_pos c]; exact c
    · rw [fiN, if_neg c, fi_add] at h ⊢
      rw [show 0 + 1 + fiN B p q t 0 = fiN B p q t 0 + 1 by omega] at h ⊢
      rw [List.length_cons] at h
      exact fi_spec B p q t (by omega)
theorem fi_no (B : Nat → Nat) (p q : Nat) : ∀ ws, fiN B p q ws 0 = ws.length → ∀ j, j < ws.length → mtB B p q (ws.getD j []) = false
  | [], _, j, h => by rw [List.length_nil] at h; omega
  | w :: t, e, j, h => by
    by_cases c : mtB B p q w = true
    · rw [fiN, if_pos c, List.length_cons] at e; omega
    · rw [fiN, if_neg c, fi_add, List.length_cons] at e
      cases j with
      | zero => exact Bool.eq_false_iff.mpr c
      | succ j =>
        rw [List.length_cons] at h
        exact fi_no B p q t (by omega) j (by omega)
theorem wd_inj : ∀ i, i < 17 → ∀ j, j < 17 → wdL.getD i [] = wdL.getD j [] → i = j := by decide +kernel
theorem wd_len : ∀ i, i < 17 → 2 ≤ (wdL.getD i []).length := by decide +kernel
theorem wc_iff (B : Nat → Nat) (p q : Nat) {j : Nat} (hj : j < 17) : mtB B p q (wdL.getD j []) = decide (wcN B p q = j) := by
  have n : wdL.length = 17 := rfl
  have le := wc_le B p q
  by_cases c : wcN B p q < 17
  · have s := fi_spec B p q wdL (by rw [n]; exact c)
    by_cases e : wcN B p q = j
    · rw [decide_eq_true e, ← e]; exact s
    · rw [decide_eq_false e, Bool.eq_false_iff]
      intro h
      exact e (wd_inj _ c _ hj (mt_uq s h))
  · rw [decide_eq_false (by omega)]
    exact fi_no B p q wdL (by rw [n]; show wcN B p q = 17; omega) j (by rw [n]; exact hj)
theorem wc_len {B : Nat → Nat} {p q : Nat} (h : wcN B p q < 17) : p + 2 ≤ q := by
  have s := wc_iff B p q h
  rw [decide_eq_true rfl] at s
  have l := wd_len _ h
  unfold mtB at s
  rw [decide_eq_true_eq] at s
  omega
