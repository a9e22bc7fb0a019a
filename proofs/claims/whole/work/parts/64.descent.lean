/-! the class's reading, and the model's beside it -/
def PRn (B : Nat → Nat) (L k k' br no : Nat) (b : Bool) (d : List Op3) : Prop := k ≤ k' ∧ tkP B L k + 2 * d.length ≤ tkP B L k' ∧ (b = true → k < k' ∧ (∀ δ, δ ≤ 2 * br + 2 → okC d δ (δ + 1)) ∧ ∀ q u n S0 out, MQu B L q → u < 2 → cnS 17 (List.replicate n 10 ++ S0) = br → cnS 10 (List.replicate n 10 ++ S0) = no → (∀ h t, S0 = h :: t → h ≠ 10) → RMu B L q (nI u) k 1 (List.replicate n 10 ++ S0) out k' 0 S0 (emT (List.replicate n 10) (d ++ out))) ∧ (b = false → ∀ q u S out, MQu B L q → u < 2 → cnS 17 S = br → cnS 10 S = no → FMu B L q (nI u) k 1 S out k')
def RdN (B : Nat → Nat) (L K : Nat) (m0 : Mm) (br no : Nat) (r : Nat → Int32 → Int32 → Mm → Option (Int32 × Mm)) : Prop := ∀ k c m, CS B L K m0 k c m → ∃ b k' d m', r 256 (nI br) (nI no) m = some (b2 b, m') ∧ CS B L K m0 k' (d ++ c) m' ∧ PRn B L k k' br no b d
def PSa (B : Nat → Nat) (L k k1 br no : Nat) (d : List Op3) : Prop := k < k1 ∧ tkP B L k + 2 * d.length ≤ tkP B L k1 ∧ (∀ δ, δ ≤ 2 * br + 1 → okC d δ (δ + 1)) ∧ ∃ T d', (∀ x, x ∈ T → x = 8) ∧ emT T d' = d ∧ ∀ q u S out, MQu B L q → u < 2 → cnS 17 S = br → cnS 10 S = no → (∀ h t, S = h :: t → h ≠ 10 ∧ h ≠ 8) → RMu B L q (nI u) k 1 S out k1 0 (T ++ S) (d' ++ out)
def PRa (B : Nat → Nat) (L k k' br no : Nat) (b : Bool) (d : List Op3) : Prop := k ≤ k' ∧ tkP B L k + 2 * d.length ≤ tkP B L k' ∧ (b = true → tkT B L k' ≠ 9 ∧ PSa B L k k' br no d) ∧ (b = false → ∀ q u S out, MQu B L q → u < 2 → cnS 17 S = br → cnS 10 S = no → (∀ h t, S = h :: t → h ≠ 10 ∧ h ≠ 8) → FMu B L q (nI u) k 1 S out k')
def RdA (B : Nat → Nat) (L K : Nat) (m0 : Mm) (br no : Nat) (r : Nat → Int32 → Int32 → Mm → Option (Int32 × Mm)) : Prop := ∀ k c m, CS B L K m0 k c m → ∃ b k' d m', r 256 (nI br) (nI no) m = some (b2 b, m') ∧ CS B L K m0 k' (d ++ c) m' ∧ PRa B L k k' br no b d
def PSo (B : Nat → Nat) (L k k1 br no : Nat) (d : List Op3) : Prop := k < k1 ∧ tkP B L k + 2 * d.length ≤ tkP B L k1 ∧ (∀ δ, δ ≤ 2 * br → okC d δ (δ + 1)) ∧ ∃ T d', (∀ x, x ∈ T → x = 8 ∨ x = 9) ∧ emT T d' = d ∧ ∀ q u S out, MQu B L q → u < 2 → cnS 17 S = br → cnS 10 S = no → (∀ h t, S = h :: t → h ≠ 10 ∧ h ≠ 8 ∧ h ≠ 9) → RMu B L q (nI u) k 1 S out k1 0 (T ++ S) (d' ++ out)
def PRo (B : Nat → Nat) (L k k' br no : Nat) (b : Bool) (d : List Op3) : Prop := k ≤ k' ∧ tkP B L k + 2 * d.length ≤ tkP B L k' ∧ (b = true → tkT B L k' ≠ 8 ∧ tkT B L k' ≠ 9 ∧ PSo B L k k' br no d) ∧ (b = false → ∀ q u S out, MQu B L q → u < 2 → cnS 17 S = br → cnS 10 S = no → (∀ h t, S = h :: t → h ≠ 10 ∧ h ≠ 8 ∧ h ≠ 9) → FMu B L q (nI u) k 1 S out k')
def RdO (B : Nat → Nat) (L K : Nat) (m0 : Mm) (br no : Nat) (r : Nat → Int32 → Int32 → Mm → Option (Int32 × Mm)) : Prop := ∀ k c m, CS B L K m0 k c m → ∃ b k' d m', r 256 (nI br) (nI no) m = some (b2 b, m') ∧ CS B L K m0 k' (d ++ c) m' ∧ PRo B L k k' br no b d
theorem CS_lt {B : Nat → Nat} {L K k : Nat} {m0 m : Mm} {c : List Op3} (hE : CTe B L K m0) (h : CS B L K m0 k c m) (ht : tkT B L k ≠ 0) : k < 96 := by
  have hk := h.2.2.2.1
  have hK := hE.1
  by_cases e : k = K
  · rw [e] at ht; exact (ht hE.2.2.1).elim
  · omega
theorem c_andl {B : Nat → Nat} {L K br no k : Nat} {m0 : Mm} {c : List Op3} {r : Nat → Int32 → Int32 → Mm → Option (Int32 × Mm)} (hE : CTe B L K m0) (hL : L ≤ 96) (hbr : br ≤ 8) (hr : RdN B L K m0 br no r) : ∀ N k1 d1 i fuel m, K - k1 < N → N ≤ fuel → i ≤ k1 → CS B L K m0 k1 (d1 ++ c) m → PSa B L k k1 br no d1 → ∃ b k' d m', f_Tp_readAnd_13 r fuel 256 (nI br) (nI no) (nI i) m = some (b2 b, m') ∧ CS B L K m0 k' (d ++ c) m' ∧ PRa B L k k' br no b d := by
  intro N
  induction N with
  | zero => intro k1 d1 i fuel m h; omega
  | succ N ih =>
    intro k1 d1 i fuel m hN hf hi hC hP
    obtain ⟨f, rfl⟩ : ∃ f', fuel = f' + 1 := ⟨fuel - 1, by omega⟩
    have e8 := hC.2.2.2.2.2.1
    have le := tkT_le B L k1
    have kK := hC.2.2.2.1
    have hK := hE.1
    by_cases c9 : tkT B L k1 = 9
    · have k96 := CS_lt hE hC (by omega)
      have lt : k1 < K := by
        by_cases e : k1 = K
        · have := hE.2.2.1; rw [← e] at this; omega
        · omega
      have pw := tkP_w (B := B) (L := L) (k := k1) (by omega) (by omega)
      obtain ⟨m1, a1, a2⟩ := c_adv hE hC (by omega)
      obtain ⟨b, k2, d2, m2, r1, r2, r3⟩ := hr (k1 + 1) (d1 ++ c) m1 a2
      obtain ⟨p1, p2, p3, T1, d1', t1, t2, t3⟩ := hP
      obtain ⟨q1, q2, q3, q4⟩ := r3
      have hb1 := hC.2.2.2.2.2.2.2.2.2
      rw [c9] at e8
      have pre : ∀ q u S out, MQu B L q → u < 2 → cnS 17 S = br → cnS 10 S = no → (∀ h t, S = h :: t → h ≠ 10 ∧ h ≠ 8) → RMu B L q (nI u) k 1 S out (k1 + 1) 1 (8 :: S) (d1 ++ out) := fun q u S out hq hu h17 h10 hS => by
        have z := t_op (T := T1) (S := S) (out := d1' ++ out) hq hu false c9 (fun x hx => Or.inl (t1 x hx)) (fun h t e => ⟨(hS h t e).2, fun z => (by cases z)⟩)
        rw [emT_app, t2] at z
        exact RM_tr (t3 q u S out hq hu h17 h10 hS) z
      cases b
      · refine ⟨false, k2, d2 ++ d1, m2, ?_, by rw [List.append_assoc]; exact r2, by omega, by rw [List.length_append]; omega, fun z => (by cases z), fun _ q u S out hq hu h17 h10 hS => ?_⟩
        · rw [b2_f] at r1
          simp -dsimp -implicitDefEqProofs (disch := omega) only [f_Tp_readAnd_13, ↓l_m1, l_0, l_1, l_2, l_3, l_4, l_5, l_6, l_7, l_8, l_9, l_10, l_11, l_12, l_13, l_14, l_15, l_16, l_17, l_20, l_21, l_22, l_23, l_24, l_28, l_29, l_30, l_31, l_32, l_40, l_41, l_48, l_57, l_60, l_62, l_63, l_84, l_96, l_97, l_99, l_100, l_122, l_132, l_144, l_150, l_186, l_255, l_256, l_288, l_300, l_522, l_634, l_999, l_5242, l_5410, l_5420, l_5520, l_5528, l_9999, l_65535, l_65536, l_100000, l_16777215, l_252645135, l_858993459, l_1431655765, ↓reduceIte, Nat.reduceAdd, Nat.reduceMul, Nat.reduceSub, ixN, inbN, leT, leF, ltT, ltF, eqT, eqF, eqM, eqNone, addN, mulN, subN, m1N, ↓to_bnd, bnd_some, ↓to_nmT, nmT_eq, up2_r, up2_e, pk_us, pk_un, b2_t, b2_f, b2_0, b2_1, zB_1, zB_0, zB_b2, not_true_eq_false, not_false_eq_true, r_Mo, Nat.add_zero, Nat.add_sub_cancel, within_R, within_N, in_R, in_N, inN_yes, inR_yes, inR_pred, orNone_nn, nn_m, nn_N, f_Ct_isDay, f_Ct_isThing, f_Ct_isKind, f_Ct_isRoomSeat, f_Ct_isOffice, f_Ct_isTable, f_Ct_isPaper, f_Ct_isRule, f_Ct_isDecision, f_Mo_isOffice, f_Mo_isTable, f_Mo_isPaper, f_Mo_isRule, f_Mo_isDecision, f_Mo_isDay, f_Mo_isThing, f_Mo_paperOf, f_Mo_set, e8, a1, r1]
        · exact RM_F (pre q u S out hq hu h17 h10 hS) (q4 rfl q u (8 :: S) (d1 ++ out) hq hu (by rw [cnS, if_neg (by decide)]; exact h17) (by rw [cnS, if_neg (by decide)]; exact h10))
      · obtain ⟨q5, q6, q7⟩ := q3 rfl
        obtain ⟨m3, s1, s2⟩ := c_add (s := 10) (n := 0) hL r2 (8, 0, 0) (by decide) (Or.inr ⟨by omega, by decide⟩) (by omega) (by omega) (by rw [List.length_append]; omega)
        obtain ⟨b, k', d, m', x1, x2⟩ := ih k2 ((8, 0, 0) :: (d2 ++ d1)) (i + 1) f m3 (by omega) (by omega) (by omega) (by rw [List.cons_append, List.append_assoc]; exact s2) ⟨by omega, by rw [List.length_cons, List.length_append]; omega, fun δ hδ => ⟨δ + 2, okC_app d2 d1 (p3 δ hδ) (q6 (δ + 1) (by omega)), by omega, Or.inr (Or.inl ⟨rfl, by omega, by omega⟩)⟩, [8], d2 ++ d1, fun x hx => List.mem_singleton.mp hx, rfl, fun q u S out hq hu h17 h10 hS => by
          have z := q7 q u 0 (8 :: S) (d1 ++ out) hq hu (by show cnS 17 (8 :: S) = br; rw [cnS, if_neg (by decide)]; exact h17) (by show cnS 10 (8 :: S) = no; rw [cnS, if_neg (by decide)]; exact h10) (fun h t e => by have := (List.cons.inj e).1; omega)
          have z2 := RM_tr (pre q u S out hq hu h17 h10 hS) z
          rw [List.append_assoc]
          exact z2⟩
        refine ⟨b, k', d, m', ?_, x2⟩
        rw [← x1]
        rw [b2_t] at r1
        simp -dsimp -implicitDefEqProofs (disch := omega) only [f_Tp_readAnd_13, ↓l_m1, l_0, l_1, l_2, l_3, l_4, l_5, l_6, l_7, l_8, l_9, l_10, l_11, l_12, l_13, l_14, l_15, l_16, l_17, l_20, l_21, l_22, l_23, l_24, l_28, l_29, l_30, l_31, l_32, l_40, l_41, l_48, l_57, l_60, l_62, l_63, l_84, l_96, l_97, l_99, l_100, l_122, l_132, l_144, l_150, l_186, l_255, l_256, l_288, l_300, l_522, l_634, l_999, l_5242, l_5410, l_5420, l_5520, l_5528, l_9999, l_65535, l_65536, l_100000, l_16777215, l_252645135, l_858993459, l_1431655765, ↓reduceIte, Nat.reduceAdd, Nat.reduceMul, Nat.reduceSub, ixN, inbN, leT, leF, ltT, ltF, eqT, eqF, eqM, eqNone, addN, mulN, subN, m1N, ↓to_bnd, bnd_some, ↓to_nmT, nmT_eq, up2_r, up2_e, pk_us, pk_un, b2_t, b2_f, b2_0, b2_1, zB_1, zB_0, zB_b2, not_true_eq_false, not_false_eq_true, r_Mo, Nat.add_zero, Nat.add_sub_cancel, within_R, within_N, in_R, in_N, inN_yes, inR_yes, inR_pred, orNone_nn, nn_m, nn_N, f_Ct_isDay, f_Ct_isThing, f_Ct_isKind, f_Ct_isRoomSeat, f_Ct_isOffice, f_Ct_isTable, f_Ct_isPaper, f_Ct_isRule, f_Ct_isDecision, f_Mo_isOffice, f_Mo_isTable, f_Mo_isPaper, f_Mo_isRule, f_Mo_isDecision, f_Mo_isDay, f_Mo_isThing, f_Mo_paperOf, f_Mo_set, rt_4, e8, a1, r1, s1]
    · refine ⟨true, k1, d1, m, ?_, hC, by have := hP.1; omega, hP.2.1, fun _ => ⟨c9, hP⟩, fun z => (by cases z)⟩
      by_cases ci : i < 96
      · simp -dsimp -implicitDefEqProofs (disch := omega) only [f_Tp_readAnd_13, f_Tp_readAnd_59, ↓l_m1, l_0, l_1, l_2, l_3, l_4, l_5, l_6, l_7, l_8, l_9, l_10, l_11, l_12, l_13, l_14, l_15, l_16, l_17, l_20, l_21, l_22, l_23, l_24, l_28, l_29, l_30, l_31, l_32, l_40, l_41, l_48, l_57, l_60, l_62, l_63, l_84, l_96, l_97, l_99, l_100, l_122, l_132, l_144, l_150, l_186, l_255, l_256, l_288, l_300, l_522, l_634, l_999, l_5242, l_5410, l_5420, l_5520, l_5528, l_9999, l_65535, l_65536, l_100000, l_16777215, l_252645135, l_858993459, l_1431655765, ↓reduceIte, Nat.reduceAdd, Nat.reduceMul, Nat.reduceSub, ixN, inbN, leT, leF, ltT, ltF, eqT, eqF, eqM, eqNone, addN, mulN, subN, m1N, ↓to_bnd, bnd_some, ↓to_nmT, nmT_eq, up2_r, up2_e, pk_us, pk_un, b2_t, b2_f, b2_0, b2_1, zB_1, zB_0, zB_b2, not_true_eq_false, not_false_eq_true, r_Mo, Nat.add_zero, Nat.add_sub_cancel, within_R, within_N, in_R, in_N, inN_yes, inR_yes, inR_pred, orNone_nn, nn_m, nn_N, f_Ct_isDay, f_Ct_isThing, f_Ct_isKind, f_Ct_isRoomSeat, f_Ct_isOffice, f_Ct_isTable, f_Ct_isPaper, f_Ct_isRule, f_Ct_isDecision, f_Mo_isOffice, f_Mo_isTable, f_Mo_isPaper, f_Mo_isRule, f_Mo_isDecision, f_Mo_isDay, f_Mo_isThing, f_Mo_paperOf, f_Mo_set, e8]
      · simp -dsimp -implicitDefEqProofs (disch := omega) only [f_Tp_readAnd_13, f_Tp_readAnd_59, ↓l_m1, l_0, l_1, l_2, l_3, l_4, l_5, l_6, l_7, l_8, l_9, l_10, l_11, l_12, l_13, l_14, l_15, l_16, l_17, l_20, l_21, l_22, l_23, l_24, l_28, l_29, l_30, l_31, l_32, l_40, l_41, l_48, l_57, l_60, l_62, l_63, l_84, l_96, l_97, l_99, l_100, l_122, l_132, l_144, l_150, l_186, l_255, l_256, l_288, l_300, l_522, l_634, l_999, l_5242, l_5410, l_5420, l_5520, l_5528, l_9999, l_65535, l_65536, l_100000, l_16777215, l_252645135, l_858993459, l_1431655765, ↓reduceIte, Nat.reduceAdd, Nat.reduceMul, Nat.reduceSub, ixN, inbN, leT, leF, ltT, ltF, eqT, eqF, eqM, eqNone, addN, mulN, subN, m1N, ↓to_bnd, bnd_some, ↓to_nmT, nmT_eq, up2_r, up2_e, pk_us, pk_un, b2_t, b2_f, b2_0, b2_1, zB_1, zB_0, zB_b2, not_true_eq_false, not_false_eq_true, r_Mo, Nat.add_zero, Nat.add_sub_cancel, within_R, within_N, in_R, in_N, inN_yes, inR_yes, inR_pred, orNone_nn, nn_m, nn_N, f_Ct_isDay, f_Ct_isThing, f_Ct_isKind, f_Ct_isRoomSeat, f_Ct_isOffice, f_Ct_isTable, f_Ct_isPaper, f_Ct_isRule, f_Ct_isDecision, f_Mo_isOffice, f_Mo_isTable, f_Mo_isPaper, f_Mo_isRule, f_Mo_isDecision, f_Mo_isDay, f_Mo_isThing, f_Mo_paperOf, f_Mo_set, e8]
theorem c_and {B : Nat → Nat} {L K br no : Nat} {m0 : Mm} {r : Nat → Int32 → Int32 → Mm → Option (Int32 × Mm)} (hE : CTe B L K m0) (hL : L ≤ 96) (hbr : br ≤ 8) (hr : RdN B L K m0 br no r) : RdA B L K m0 br no (f_Tp_readAnd r) := by
  intro k c m hC
  obtain ⟨b, k1, d, m1, r1, r2, q1, q2, q3, q4⟩ := hr k c m hC
  have hK := hE.1
  cases b
  · refine ⟨false, k1, d, m1, ?_, r2, q1, q2, fun z => (by cases z), fun _ q u S out hq hu h17 h10 hS => q4 rfl q u S out hq hu h17 h10⟩
    rw [b2_f] at r1
    simp -dsimp -implicitDefEqProofs (disch := omega) only [f_Tp_readAnd, ↓l_m1, l_0, l_1, l_2, l_3, l_4, l_5, l_6, l_7, l_8, l_9, l_10, l_11, l_12, l_13, l_14, l_15, l_16, l_17, l_20, l_21, l_22, l_23, l_24, l_28, l_29, l_30, l_31, l_32, l_40, l_41, l_48, l_57, l_60, l_62, l_63, l_84, l_96, l_97, l_99, l_100, l_122, l_132, l_144, l_150, l_186, l_255, l_256, l_288, l_300, l_522, l_634, l_999, l_5242, l_5410, l_5420, l_5520, l_5528, l_9999, l_65535, l_65536, l_100000, l_16777215, l_252645135, l_858993459, l_1431655765, ↓reduceIte, Nat.reduceAdd, Nat.reduceMul, Nat.reduceSub, ixN, inbN, leT, leF, ltT, ltF, eqT, eqF, eqM, eqNone, addN, mulN, subN, m1N, ↓to_bnd, bnd_some, ↓to_nmT, nmT_eq, up2_r, up2_e, pk_us, pk_un, b2_t, b2_f, b2_0, b2_1, zB_1, zB_0, zB_b2, not_true_eq_false, not_false_eq_true, r_Mo, Nat.add_zero, Nat.add_sub_cancel, within_R, within_N, in_R, in_N, inN_yes, inR_yes, inR_pred, orNone_nn, nn_m, nn_N, f_Ct_isDay, f_Ct_isThing, f_Ct_isKind, f_Ct_isRoomSeat, f_Ct_isOffice, f_Ct_isTable, f_Ct_isPaper, f_Ct_isRule, f_Ct_isDecision, f_Mo_isOffice, f_Mo_isTable, f_Mo_isPaper, f_Mo_isRule, f_Mo_isDecision, f_Mo_isDay, f_Mo_isThing, f_Mo_paperOf, f_Mo_set, r1]
  · obtain ⟨q5, q6, q7⟩ := q3 rfl
    obtain ⟨b, k', d', m', x1, x2⟩ := c_andl (k := k) (c := c) hE hL hbr hr (K + 1) k1 d 0 NN m1 (by omega) (NN_lt (by omega)) (by omega) r2 ⟨q5, q2, fun δ hδ => q6 δ (by omega), [], d, fun x hx => (List.not_mem_nil hx).elim, rfl, fun q u S out hq hu h17 h10 hS => q7 q u 0 S out hq hu h17 h10 (fun h t e => (hS h t e).1)⟩
    refine ⟨b, k', d', m', ?_, x2⟩
    rw [← x1]
    rw [b2_t] at r1
    simp -dsimp -implicitDefEqProofs (disch := omega) only [f_Tp_readAnd, ↓l_m1, l_0, l_1, l_2, l_3, l_4, l_5, l_6, l_7, l_8, l_9, l_10, l_11, l_12, l_13, l_14, l_15, l_16, l_17, l_20, l_21, l_22, l_23, l_24, l_28, l_29, l_30, l_31, l_32, l_40, l_41, l_48, l_57, l_60, l_62, l_63, l_84, l_96, l_97, l_99, l_100, l_122, l_132, l_144, l_150, l_186, l_255, l_256, l_288, l_300, l_522, l_634, l_999, l_5242, l_5410, l_5420, l_5520, l_5528, l_9999, l_65535, l_65536, l_100000, l_16777215, l_252645135, l_858993459, l_1431655765, ↓reduceIte, Nat.reduceAdd, Nat.reduceMul, Nat.reduceSub, ixN, inbN, leT, leF, ltT, ltF, eqT, eqF, eqM, eqNone, addN, mulN, subN, m1N, ↓to_bnd, bnd_some, ↓to_nmT, nmT_eq, up2_r, up2_e, pk_us, pk_un, b2_t, b2_f, b2_0, b2_1, zB_1, zB_0, zB_b2, not_true_eq_false, not_false_eq_true, r_Mo, Nat.add_zero, Nat.add_sub_cancel, within_R, within_N, in_R, in_N, inN_yes, inR_yes, inR_pred, orNone_nn, nn_m, nn_N, f_Ct_isDay, f_Ct_isThing, f_Ct_isKind, f_Ct_isRoomSeat, f_Ct_isOffice, f_Ct_isTable, f_Ct_isPaper, f_Ct_isRule, f_Ct_isDecision, f_Mo_isOffice, f_Mo_isTable, f_Mo_isPaper, f_Mo_isRule, f_Mo_isDecision, f_Mo_isDay, f_Mo_isThing, f_Mo_paperOf, f_Mo_set, r1]
theorem c_orl {B : Nat → Nat} {L K br no k : Nat} {m0 : Mm} {c : List Op3} {r : Nat → Int32 → Int32 → Mm → Option (Int32 × Mm)} (hE : CTe B L K m0) (hL : L ≤ 96) (hbr : br ≤ 8) (hr : RdA B L K m0 br no r) : ∀ N k1 d1 i fuel m, K - k1 < N → N ≤ fuel → i ≤ k1 → CS B L K m0 k1 (d1 ++ c) m → tkT B L k1 ≠ 9 → PSo B L k k1 br no d1 → ∃ b k' d m', f_Tp_readOr_13 r fuel 256 (nI br) (nI no) (nI i) m = some (b2 b, m') ∧ CS B L K m0 k' (d ++ c) m' ∧ PRo B L k k' br no b d := by
  intro N
  induction N with
  | zero => intro k1 d1 i fuel m h; omega
  | succ N ih =>
    intro k1 d1 i fuel m hN hf hi hC h9 hP
    obtain ⟨f, rfl⟩ : ∃ f', fuel = f' + 1 := ⟨fuel - 1, by omega⟩
    have e8 := hC.2.2.2.2.2.1
    have le := tkT_le B L k1
    have kK := hC.2.2.2.1
    have hK := hE.1
    by_cases c8 : tkT B L k1 = 8
    · have k96 := CS_lt hE hC (by omega)
      have lt : k1 < K := by
        by_cases e : k1 = K
        · have := hE.2.2.1; rw [← e] at this; omega
        · omega
      have pw := tkP_w (B := B) (L := L) (k := k1) (by omega) (by omega)
      obtain ⟨m1, a1, a2⟩ := c_adv hE hC (by omega)
      obtain ⟨b, k2, d2, m2, r1, r2, r3⟩ := hr (k1 + 1) (d1 ++ c) m1 a2
      obtain ⟨p1, p2, p3, T1, d1', t1, t2, t3⟩ := hP
      obtain ⟨q1, q2, q3, q4⟩ := r3
      have hb1 := hC.2.2.2.2.2.2.2.2.2
      rw [c8] at e8
      have pre : ∀ q u S out, MQu B L q → u < 2 → cnS 17 S = br → cnS 10 S = no → (∀ h t, S = h :: t → h ≠ 10 ∧ h ≠ 8 ∧ h ≠ 9) → RMu B L q (nI u) k 1 S out (k1 + 1) 1 (9 :: S) (d1 ++ out) := fun q u S out hq hu h17 h10 hS => by
        have z := t_op (T := T1) (S := S) (out := d1' ++ out) hq hu true c8 (fun x hx => (t1 x hx).imp id (fun z => ⟨rfl, z⟩)) (fun h t e => ⟨(hS h t e).2.1, fun _ => (hS h t e).2.2⟩)
        rw [emT_app, t2] at z
        exact RM_tr (t3 q u S out hq hu h17 h10 hS) z
      have c17 : ∀ S : List Nat, cnS 17 (9 :: S) = cnS 17 S := fun S => by rw [cnS, if_neg (by decide)]; rfl
      have c10 : ∀ S : List Nat, cnS 10 (9 :: S) = cnS 10 S := fun S => by rw [cnS, if_neg (by decide)]; rfl
      have tp : ∀ S : List Nat, ∀ h t, 9 :: S = h :: t → h ≠ 10 ∧ h ≠ 8 := fun S h t e => by have := (List.cons.inj e).1; omega
      cases b
      · refine ⟨false, k2, d2 ++ d1, m2, ?_, by rw [List.append_assoc]; exact r2, by omega, by rw [List.length_append]; omega, fun z => (by cases z), fun _ q u S out hq hu h17 h10 hS => ?_⟩
        · rw [b2_f] at r1
          simp -dsimp -implicitDefEqProofs (disch := omega) only [f_Tp_readOr_13, ↓l_m1, l_0, l_1, l_2, l_3, l_4, l_5, l_6, l_7, l_8, l_9, l_10, l_11, l_12, l_13, l_14, l_15, l_16, l_17, l_20, l_21, l_22, l_23, l_24, l_28, l_29, l_30, l_31, l_32, l_40, l_41, l_48, l_57, l_60, l_62, l_63, l_84, l_96, l_97, l_99, l_100, l_122, l_132, l_144, l_150, l_186, l_255, l_256, l_288, l_300, l_522, l_634, l_999, l_5242, l_5410, l_5420, l_5520, l_5528, l_9999, l_65535, l_65536, l_100000, l_16777215, l_252645135, l_858993459, l_1431655765, ↓reduceIte, Nat.reduceAdd, Nat.reduceMul, Nat.reduceSub, ixN, inbN, leT, leF, ltT, ltF, eqT, eqF, eqM, eqNone, addN, mulN, subN, m1N, ↓to_bnd, bnd_some, ↓to_nmT, nmT_eq, up2_r, up2_e, pk_us, pk_un, b2_t, b2_f, b2_0, b2_1, zB_1, zB_0, zB_b2, not_true_eq_false, not_false_eq_true, r_Mo, Nat.add_zero, Nat.add_sub_cancel, within_R, within_N, in_R, in_N, inN_yes, inR_yes, inR_pred, orNone_nn, nn_m, nn_N, f_Ct_isDay, f_Ct_isThing, f_Ct_isKind, f_Ct_isRoomSeat, f_Ct_isOffice, f_Ct_isTable, f_Ct_isPaper, f_Ct_isRule, f_Ct_isDecision, f_Mo_isOffice, f_Mo_isTable, f_Mo_isPaper, f_Mo_isRule, f_Mo_isDecision, f_Mo_isDay, f_Mo_isThing, f_Mo_paperOf, f_Mo_set, e8, a1, r1]
        · exact RM_F (pre q u S out hq hu h17 h10 hS) (q4 rfl q u (9 :: S) (d1 ++ out) hq hu (by rw [c17]; exact h17) (by rw [c10]; exact h10) (tp S))
      · obtain ⟨q5, v1, v2, v3, T2, d2', w1, w2, w3⟩ := q3 rfl
        obtain ⟨m3, s1, s2⟩ := c_add (s := 11) (n := 0) hL r2 (9, 0, 0) (by decide) (Or.inr ⟨by omega, by decide⟩) (by omega) (by omega) (by rw [List.length_append]; omega)
        obtain ⟨b, k', d, m', x1, x2⟩ := ih k2 ((9, 0, 0) :: (d2 ++ d1)) (i + 1) f m3 (by omega) (by omega) (by omega) (by rw [List.cons_append, List.append_assoc]; exact s2) q5 ⟨by omega, by rw [List.length_cons, List.length_append]; omega, fun δ hδ => ⟨δ + 2, okC_app d2 d1 (p3 δ hδ) (v3 (δ + 1) (by omega)), by omega, Or.inr (Or.inr (Or.inl ⟨rfl, by omega, by omega⟩))⟩, T2 ++ [9], d2' ++ d1, fun x hx => by
            rcases List.mem_append.mp hx with z | z
            · exact Or.inl (w1 x z)
            · exact Or.inr (List.mem_singleton.mp z), by rw [emT_sn, emT_app, w2], fun q u S out hq hu h17 h10 hS => by
          have z := w3 q u (9 :: S) (d1 ++ out) hq hu (by rw [c17]; exact h17) (by rw [c10]; exact h10) (tp S)
          have z2 := RM_tr (pre q u S out hq hu h17 h10 hS) z
          rw [List.append_assoc, List.append_assoc]
          exact z2⟩
        refine ⟨b, k', d, m', ?_, x2⟩
        rw [← x1]
        rw [b2_t] at r1
        simp -dsimp -implicitDefEqProofs (disch := omega) only [f_Tp_readOr_13, ↓l_m1, l_0, l_1, l_2, l_3, l_4, l_5, l_6, l_7, l_8, l_9, l_10, l_11, l_12, l_13, l_14, l_15, l_16, l_17, l_20, l_21, l_22, l_23, l_24, l_28, l_29, l_30, l_31, l_32, l_40, l_41, l_48, l_57, l_60, l_62, l_63, l_84, l_96, l_97, l_99, l_100, l_122, l_132, l_144, l_150, l_186, l_255, l_256, l_288, l_300, l_522, l_634, l_999, l_5242, l_5410, l_5420, l_5520, l_5528, l_9999, l_65535, l_65536, l_100000, l_16777215, l_252645135, l_858993459, l_1431655765, ↓reduceIte, Nat.reduceAdd, Nat.reduceMul, Nat.reduceSub, ixN, inbN, leT, leF, ltT, ltF, eqT, eqF, eqM, eqNone, addN, mulN, subN, m1N, ↓to_bnd, bnd_some, ↓to_nmT, nmT_eq, up2_r, up2_e, pk_us, pk_un, b2_t, b2_f, b2_0, b2_1, zB_1, zB_0, zB_b2, not_true_eq_false, not_false_eq_true, r_Mo, Nat.add_zero, Nat.add_sub_cancel, within_R, within_N, in_R, in_N, inN_yes, inR_yes, inR_pred, orNone_nn, nn_m, nn_N, f_Ct_isDay, f_Ct_isThing, f_Ct_isKind, f_Ct_isRoomSeat, f_Ct_isOffice, f_Ct_isTable, f_Ct_isPaper, f_Ct_isRule, f_Ct_isDecision, f_Mo_isOffice, f_Mo_isTable, f_Mo_isPaper, f_Mo_isRule, f_Mo_isDecision, f_Mo_isDay, f_Mo_isThing, f_Mo_paperOf, f_Mo_set, rt_4, e8, a1, r1, s1]
    · refine ⟨true, k1, d1, m, ?_, hC, by have := hP.1; omega, hP.2.1, fun _ => ⟨c8, h9, hP⟩, fun z => (by cases z)⟩
      by_cases ci : i < 96
      · simp -dsimp -implicitDefEqProofs (disch := omega) only [f_Tp_readOr_13, f_Tp_readOr_59, ↓l_m1, l_0, l_1, l_2, l_3, l_4, l_5, l_6, l_7, l_8, l_9, l_10, l_11, l_12, l_13, l_14, l_15, l_16, l_17, l_20, l_21, l_22, l_23, l_24, l_28, l_29, l_30, l_31, l_32, l_40, l_41, l_48, l_57, l_60, l_62, l_63, l_84, l_96, l_97, l_99, l_100, l_122, l_132, l_144, l_150, l_186, l_255, l_256, l_288, l_300, l_522, l_634, l_999, l_5242, l_5410, l_5420, l_5520, l_5528, l_9999, l_65535, l_65536, l_100000, l_16777215, l_252645135, l_858993459, l_1431655765, ↓reduceIte, Nat.reduceAdd, Nat.reduceMul, Nat.reduceSub, ixN, inbN, leT, leF, ltT, ltF, eqT, eqF, eqM, eqNone, addN, mulN, subN, m1N, ↓to_bnd, bnd_some, ↓to_nmT, nmT_eq, up2_r, up2_e, pk_us, pk_un, b2_t, b2_f, b2_0, b2_1, zB_1, zB_0, zB_b2, not_true_eq_false, not_false_eq_true, r_Mo, Nat.add_zero, Nat.add_sub_cancel, within_R, within_N, in_R, in_N, inN_yes, inR_yes, inR_pred, orNone_nn, nn_m, nn_N, f_Ct_isDay, f_Ct_isThing, f_Ct_isKind, f_Ct_isRoomSeat, f_Ct_isOffice, f_Ct_isTable, f_Ct_isPaper, f_Ct_isRule, f_Ct_isDecision, f_Mo_isOffice, f_Mo_isTable, f_Mo_isPaper, f_Mo_isRule, f_Mo_isDecision, f_Mo_isDay, f_Mo_isThing, f_Mo_paperOf, f_Mo_set, e8]
      · simp -dsimp -implicitDefEqProofs (disch := omega) only [f_Tp_readOr_13, f_Tp_readOr_59, ↓l_m1, l_0, l_1, l_2, l_3, l_4, l_5, l_6, l_7, l_8, l_9, l_10, l_11, l_12, l_13, l_14, l_15, l_16, l_17, l_20, l_21, l_22, l_23, l_24, l_28, l_29, l_30, l_31, l_32, l_40, l_41, l_48, l_57, l_60, l_62, l_63, l_84, l_96, l_97, l_99, l_100, l_122, l_132, l_144, l_150, l_186, l_255, l_256, l_288, l_300, l_522, l_634, l_999, l_5242, l_5410, l_5420, l_5520, l_5528, l_9999, l_65535, l_65536, l_100000, l_16777215, l_252645135, l_858993459, l_1431655765, ↓reduceIte, Nat.reduceAdd, Nat.reduceMul, Nat.reduceSub, ixN, inbN, leT, leF, ltT, ltF, eqT, eqF, eqM, eqNone, addN, mulN, subN, m1N, ↓to_bnd, bnd_some, ↓to_nmT, nmT_eq, up2_r, up2_e, pk_us, pk_un, b2_t, b2_f, b2_0, b2_1, zB_1, zB_0, zB_b2, not_true_eq_false, not_false_eq_true, r_Mo, Nat.add_zero, Nat.add_sub_cancel, within_R, within_N, in_R, in_N, inN_yes, inR_yes, inR_pred, orNone_nn, nn_m, nn_N, f_Ct_isDay, f_Ct_isThing, f_Ct_isKind, f_Ct_isRoomSeat, f_Ct_isOffice, f_Ct_isTable, f_Ct_isPaper, f_Ct_isRule, f_Ct_isDecision, f_Mo_isOffice, f_Mo_isTable, f_Mo_isPaper, f_Mo_isRule, f_Mo_isDecision, f_Mo_isDay, f_Mo_isThing, f_Mo_paperOf, f_Mo_set, e8]
theorem c_or {B : Nat → Nat} {L K br no : Nat} {m0 : Mm} {r : Nat → Int32 → Int32 → Mm → Option (Int32 × Mm)} (hE : CTe B L K m0) (hL : L ≤ 96) (hbr : br ≤ 8) (hr : RdA B L K m0 br no r) : RdO B L K m0 br no (f_Tp_readOr r) := by
  intro k c m hC
  obtain ⟨b, k1, d, m1, r1, r2, q1, q2, q3, q4⟩ := hr k c m hC
  have hK := hE.1
  cases b
  · refine ⟨false, k1, d, m1, ?_, r2, q1, q2, fun z => (by cases z), fun _ q u S out hq hu h17 h10 hS => q4 rfl q u S out hq hu h17 h10 (fun h t e => ⟨(hS h t e).1, (hS h t e).2.1⟩)⟩
    rw [b2_f] at r1
    simp -dsimp -implicitDefEqProofs (disch := omega) only [f_Tp_readOr, ↓l_m1, l_0, l_1, l_2, l_3, l_4, l_5, l_6, l_7, l_8, l_9, l_10, l_11, l_12, l_13, l_14, l_15, l_16, l_17, l_20, l_21, l_22, l_23, l_24, l_28, l_29, l_30, l_31, l_32, l_40, l_41, l_48, l_57, l_60, l_62, l_63, l_84, l_96, l_97, l_99, l_100, l_122, l_132, l_144, l_150, l_186, l_255, l_256, l_288, l_300, l_522, l_634, l_999, l_5242, l_5410, l_5420, l_5520, l_5528, l_9999, l_65535, l_65536, l_100000, l_16777215, l_252645135, l_858993459, l_1431655765, ↓reduceIte, Nat.reduceAdd, Nat.reduceMul, Nat.reduceSub, ixN, inbN, leT, leF, ltT, ltF, eqT, eqF, eqM, eqNone, addN, mulN, subN, m1N, ↓to_bnd, bnd_some, ↓to_nmT, nmT_eq, up2_r, up2_e, pk_us, pk_un, b2_t, b2_f, b2_0, b2_1, zB_1, zB_0, zB_b2, not_true_eq_false, not_false_eq_true, r_Mo, Nat.add_zero, Nat.add_sub_cancel, within_R, within_N, in_R, in_N, inN_yes, inR_yes, inR_pred, orNone_nn, nn_m, nn_N, f_Ct_isDay, f_Ct_isThing, f_Ct_isKind, f_Ct_isRoomSeat, f_Ct_isOffice, f_Ct_isTable, f_Ct_isPaper, f_Ct_isRule, f_Ct_isDecision, f_Mo_isOffice, f_Mo_isTable, f_Mo_isPaper, f_Mo_isRule, f_Mo_isDecision, f_Mo_isDay, f_Mo_isThing, f_Mo_paperOf, f_Mo_set, r1]
  · obtain ⟨q5, v1, v2, v3, T2, d2', w1, w2, w3⟩ := q3 rfl
    obtain ⟨b, k', d', m', x1, x2⟩ := c_orl (k := k) (c := c) hE hL hbr hr (K + 1) k1 d 0 NN m1 (by omega) (NN_lt (by omega)) (by omega) r2 q5 ⟨v1, q2, fun δ hδ => v3 δ (by omega), T2, d2', fun x hx => Or.inl (w1 x hx), w2, fun q u S out hq hu h17 h10 hS => w3 q u S out hq hu h17 h10 (fun h t e => ⟨(hS h t e).1, (hS h t e).2.1⟩)⟩
    refine ⟨b, k', d', m', ?_, x2⟩
    rw [← x1]
    rw [b2_t] at r1
    simp -dsimp -implicitDefEqProofs (disch := omega) only [f_Tp_readOr, ↓l_m1, l_0, l_1, l_2, l_3, l_4, l_5, l_6, l_7, l_8, l_9, l_10, l_11, l_12, l_13, l_14, l_15, l_16, l_17, l_20, l_21, l_22, l_23, l_24, l_28, l_29, l_30, l_31, l_32, l_40, l_41, l_48, l_57, l_60, l_62, l_63, l_84, l_96, l_97, l_99, l_100, l_122, l_132, l_144, l_150, l_186, l_255, l_256, l_288, l_300, l_522, l_634, l_999, l_5242, l_5410, l_5420, l_5520, l_5528, l_9999, l_65535, l_65536, l_100000, l_16777215, l_252645135, l_858993459, l_1431655765, ↓reduceIte, Nat.reduceAdd, Nat.reduceMul, Nat.reduceSub, ixN, inbN, leT, leF, ltT, ltF, eqT, eqF, eqM, eqNone, addN, mulN, subN, m1N, ↓to_bnd, bnd_some, ↓to_nmT, nmT_eq, up2_r, up2_e, pk_us, pk_un, b2_t, b2_f, b2_0, b2_1, zB_1, zB_0, zB_b2, not_true_eq_false, not_false_eq_true, r_Mo, Nat.add_zero, Nat.add_sub_cancel, within_R, within_N, in_R, in_N, inN_yes, inR_yes, inR_pred, orNone_nn, nn_m, nn_N, f_Ct_isDay, f_Ct_isThing, f_Ct_isKind, f_Ct_isRoomSeat, f_Ct_isOffice, f_Ct_isTable, f_Ct_isPaper, f_Ct_isRule, f_Ct_isDecision, f_Mo_isOffice, f_Mo_isTable, f_Mo_isPaper, f_Mo_isRule, f_Mo_isDecision, f_Mo_isDay, f_Mo_isThing, f_Mo_paperOf, f_Mo_set, r1]
theorem c_not {B : Nat → Nat} {L K : Nat} {m0 : Mm} (hE : CTe B L K m0) (hL : L ≤ 96) : ∀ j br no, 17 ≤ j + br + no → br ≤ 8 → no ≤ 8 → RdN B L K m0 br no (fz_Tp_readNot j) := by
  intro j
  induction j with
  | zero => intro br no h1 h2 h3; omega
  | succ j ih =>
    intro br no hj hbr hno k c m hC
    have e8 := hC.2.2.2.2.2.1
    have le := tkT_le B L k
    have hb1 := hC.2.2.2.2.2.2.2.2.2
    rw [fz_Tp_readNot]
    by_cases c10 : tkT B L k = 10 ∧ no < 8
    · obtain ⟨t10, n8⟩ := c10
      have pw := tkP_w (B := B) (L := L) (k := k) (by omega) (by omega)
      obtain ⟨m1, a1, a2⟩ := c_adv hE hC (by omega)
      obtain ⟨b, k2, d, m2, r1, r2, q1, q2, q3, q4⟩ := ih br (no + 1) (by omega) hbr (by omega) (k + 1) c m1 a2
      have c17 : ∀ S : List Nat, cnS 17 (10 :: S) = cnS 17 S := fun S => by rw [cnS, if_neg (by decide)]; rfl
      have c11 : ∀ S : List Nat, cnS 10 (10 :: S) = cnS 10 S + 1 := fun S => by rw [cnS, if_pos rfl]
      rw [t10] at e8
      cases b
      · refine ⟨false, k2, d, m2, ?_, r2, by omega, by omega, fun z => (by cases z), fun _ q u S out hq hu h17 h10 => ?_⟩
        · rw [b2_f] at r1
          simp -dsimp -implicitDefEqProofs (disch := omega) only [f_Tp_readNot, ↓l_m1, l_0, l_1, l_2, l_3, l_4, l_5, l_6, l_7, l_8, l_9, l_10, l_11, l_12, l_13, l_14, l_15, l_16, l_17, l_20, l_21, l_22, l_23, l_24, l_28, l_29, l_30, l_31, l_32, l_40, l_41, l_48, l_57, l_60, l_62, l_63, l_84, l_96, l_97, l_99, l_100, l_122, l_132, l_144, l_150, l_186, l_255, l_256, l_288, l_300, l_522, l_634, l_999, l_5242, l_5410, l_5420, l_5520, l_5528, l_9999, l_65535, l_65536, l_100000, l_16777215, l_252645135, l_858993459, l_1431655765, ↓reduceIte, Nat.reduceAdd, Nat.reduceMul, Nat.reduceSub, ixN, inbN, leT, leF, ltT, ltF, eqT, eqF, eqM, eqNone, addN, mulN, subN, m1N, ↓to_bnd, bnd_some, ↓to_nmT, nmT_eq, up2_r, up2_e, pk_us, pk_un, b2_t, b2_f, b2_0, b2_1, zB_1, zB_0, zB_b2, not_true_eq_false, not_false_eq_true, r_Mo, Nat.add_zero, Nat.add_sub_cancel, within_R, within_N, in_R, in_N, inN_yes, inR_yes, inR_pred, orNone_nn, nn_m, nn_N, f_Ct_isDay, f_Ct_isThing, f_Ct_isKind, f_Ct_isRoomSeat, f_Ct_isOffice, f_Ct_isTable, f_Ct_isPaper, f_Ct_isRule, f_Ct_isDecision, f_Mo_isOffice, f_Mo_isTable, f_Mo_isPaper, f_Mo_isRule, f_Mo_isDecision, f_Mo_isDay, f_Mo_isThing, f_Mo_paperOf, f_Mo_set, e8, a1, r1]
        · exact RM_F (t_not hq (nI u) t10 (by omega)) (q4 rfl q u (10 :: S) out hq hu (by rw [c17]; exact h17) (by rw [c11]; omega))
      · obtain ⟨v1, v2, v3⟩ := q3 rfl
        obtain ⟨m3, s1, s2⟩ := c_add (s := 9) (n := 0) hL r2 (10, 0, 0) (by decide) (Or.inr ⟨by omega, by decide⟩) (by omega) (by omega) (by rw [List.length_append]; omega)
        refine ⟨true, k2, (10, 0, 0) :: d, m3, ?_, s2, by omega, by rw [List.length_cons]; omega, fun _ => ⟨by omega, fun δ hδ => ⟨δ + 1, v2 δ hδ, by omega, Or.inl ⟨rfl, by omega, rfl⟩⟩, fun q u n S0 out hq hu h17 h10 hS => ?_⟩, fun z => (by cases z)⟩
        · rw [b2_t] at r1
          simp -dsimp -implicitDefEqProofs (disch := omega) only [f_Tp_readNot, ↓l_m1, l_0, l_1, l_2, l_3, l_4, l_5, l_6, l_7, l_8, l_9, l_10, l_11, l_12, l_13, l_14, l_15, l_16, l_17, l_20, l_21, l_22, l_23, l_24, l_28, l_29, l_30, l_31, l_32, l_40, l_41, l_48, l_57, l_60, l_62, l_63, l_84, l_96, l_97, l_99, l_100, l_122, l_132, l_144, l_150, l_186, l_255, l_256, l_288, l_300, l_522, l_634, l_999, l_5242, l_5410, l_5420, l_5520, l_5528, l_9999, l_65535, l_65536, l_100000, l_16777215, l_252645135, l_858993459, l_1431655765, ↓reduceIte, Nat.reduceAdd, Nat.reduceMul, Nat.reduceSub, ixN, inbN, leT, leF, ltT, ltF, eqT, eqF, eqM, eqNone, addN, mulN, subN, m1N, ↓to_bnd, bnd_some, ↓to_nmT, nmT_eq, up2_r, up2_e, pk_us, pk_un, b2_t, b2_f, b2_0, b2_1, zB_1, zB_0, zB_b2, not_true_eq_false, not_false_eq_true, r_Mo, Nat.add_zero, Nat.add_sub_cancel, within_R, within_N, in_R, in_N, inN_yes, inR_yes, inR_pred, orNone_nn, nn_m, nn_N, f_Ct_isDay, f_Ct_isThing, f_Ct_isKind, f_Ct_isRoomSeat, f_Ct_isOffice, f_Ct_isTable, f_Ct_isPaper, f_Ct_isRule, f_Ct_isDecision, f_Mo_isOffice, f_Mo_isTable, f_Mo_isPaper, f_Mo_isRule, f_Mo_isDecision, f_Mo_isDay, f_Mo_isThing, f_Mo_paperOf, f_Mo_set, rt_4, e8, a1, r1, s1]
        · have z := v3 q u (n + 1) S0 out hq hu (by rw [List.replicate_succ, List.cons_append, c17]; exact h17) (by rw [List.replicate_succ, List.cons_append, c11]; omega) hS
          rw [List.replicate_succ, List.cons_append, emT, ← List.cons_append] at z
          exact RM_tr (t_not hq (nI u) t10 (by omega)) z
    · have st1 : ∀ r100 r102, f_Tp_readNot r100 r102 256 (nI br) (nI no) m = f_Tp_readNot_44 r100 r102 256 (nI br) (nI no) m := fun r100 r102 => by
        by_cases t10 : tkT B L k = 10
        · have n8 : 8 ≤ no := by omega
          rw [t10] at e8
          simp -dsimp -implicitDefEqProofs (disch := omega) only [f_Tp_readNot, ↓l_m1, l_0, l_1, l_2, l_3, l_4, l_5, l_6, l_7, l_8, l_9, l_10, l_11, l_12, l_13, l_14, l_15, l_16, l_17, l_20, l_21, l_22, l_23, l_24, l_28, l_29, l_30, l_31, l_32, l_40, l_41, l_48, l_57, l_60, l_62, l_63, l_84, l_96, l_97, l_99, l_100, l_122, l_132, l_144, l_150, l_186, l_255, l_256, l_288, l_300, l_522, l_634, l_999, l_5242, l_5410, l_5420, l_5520, l_5528, l_9999, l_65535, l_65536, l_100000, l_16777215, l_252645135, l_858993459, l_1431655765, ↓reduceIte, Nat.reduceAdd, Nat.reduceMul, Nat.reduceSub, ixN, inbN, leT, leF, ltT, ltF, eqT, eqF, eqM, eqNone, addN, mulN, subN, m1N, ↓to_bnd, bnd_some, ↓to_nmT, nmT_eq, up2_r, up2_e, pk_us, pk_un, b2_t, b2_f, b2_0, b2_1, zB_1, zB_0, zB_b2, not_true_eq_false, not_false_eq_true, r_Mo, Nat.add_zero, Nat.add_sub_cancel, within_R, within_N, in_R, in_N, inN_yes, inR_yes, inR_pred, orNone_nn, nn_m, nn_N, f_Ct_isDay, f_Ct_isThing, f_Ct_isKind, f_Ct_isRoomSeat, f_Ct_isOffice, f_Ct_isTable, f_Ct_isPaper, f_Ct_isRule, f_Ct_isDecision, f_Mo_isOffice, f_Mo_isTable, f_Mo_isPaper, f_Mo_isRule, f_Mo_isDecision, f_Mo_isDay, f_Mo_isThing, f_Mo_paperOf, f_Mo_set, e8]
        · simp -dsimp -implicitDefEqProofs (disch := omega) only [f_Tp_readNot, ↓l_m1, l_0, l_1, l_2, l_3, l_4, l_5, l_6, l_7, l_8, l_9, l_10, l_11, l_12, l_13, l_14, l_15, l_16, l_17, l_20, l_21, l_22, l_23, l_24, l_28, l_29, l_30, l_31, l_32, l_40, l_41, l_48, l_57, l_60, l_62, l_63, l_84, l_96, l_97, l_99, l_100, l_122, l_132, l_144, l_150, l_186, l_255, l_256, l_288, l_300, l_522, l_634, l_999, l_5242, l_5410, l_5420, l_5520, l_5528, l_9999, l_65535, l_65536, l_100000, l_16777215, l_252645135, l_858993459, l_1431655765, ↓reduceIte, Nat.reduceAdd, Nat.reduceMul, Nat.reduceSub, ixN, inbN, leT, leF, ltT, ltF, eqT, eqF, eqM, eqNone, addN, mulN, subN, m1N, ↓to_bnd, bnd_some, ↓to_nmT, nmT_eq, up2_r, up2_e, pk_us, pk_un, b2_t, b2_f, b2_0, b2_1, zB_1, zB_0, zB_b2, not_true_eq_false, not_false_eq_true, r_Mo, Nat.add_zero, Nat.add_sub_cancel, within_R, within_N, in_R, in_N, inN_yes, inR_yes, inR_pred, orNone_nn, nn_m, nn_N, f_Ct_isDay, f_Ct_isThing, f_Ct_isKind, f_Ct_isRoomSeat, f_Ct_isOffice, f_Ct_isTable, f_Ct_isPaper, f_Ct_isRule, f_Ct_isDecision, f_Mo_isOffice, f_Mo_isTable, f_Mo_isPaper, f_Mo_isRule, f_Mo_isDecision, f_Mo_isDay, f_Mo_isThing, f_Mo_paperOf, f_Mo_set, e8]
      rw [st1]
      by_cases c2 : tkT B L k = 2 ∧ br < 8
      · obtain ⟨t2, n8⟩ := c2
        have ps := tkP_s (B := B) (L := L) (k := k) (by omega)
        obtain ⟨m1, a1, a2⟩ := c_adv hE hC (by omega)
        obtain ⟨b, k2, d, m2, r1, r2, q1, q2, q3, q4⟩ := c_or hE hL (by omega) (c_and hE hL (by omega) (ih (br + 1) no (by omega) (by omega) hno)) (k + 1) c m1 a2
        have c17 : ∀ S : List Nat, cnS 17 (17 :: S) = cnS 17 S + 1 := fun S => by rw [cnS, if_pos rfl]
        have c11 : ∀ S : List Nat, cnS 10 (17 :: S) = cnS 10 S := fun S => by rw [cnS, if_neg (by decide)]; rfl
        have tp : ∀ S : List Nat, ∀ h t, 17 :: S = h :: t → h ≠ 10 ∧ h ≠ 8 ∧ h ≠ 9 := fun S h t e => by have := (List.cons.inj e).1; omega
        rw [t2] at e8
        cases b
        · refine ⟨false, k2, d, m2, ?_, r2, by omega, by omega, fun z => (by cases z), fun _ q u S out hq hu h17 h10 => ?_⟩
          · rw [b2_f] at r1
            simp -dsimp -implicitDefEqProofs (disch := omega) only [f_Tp_readNot_44, f_Tp_readNot_81, ↓l_m1, l_0, l_1, l_2, l_3, l_4, l_5, l_6, l_7, l_8, l_9, l_10, l_11, l_12, l_13, l_14, l_15, l_16, l_17, l_20, l_21, l_22, l_23, l_24, l_28, l_29, l_30, l_31, l_32, l_40, l_41, l_48, l_57, l_60, l_62, l_63, l_84, l_96, l_97, l_99, l_100, l_122, l_132, l_144, l_150, l_186, l_255, l_256, l_288, l_300, l_522, l_634, l_999, l_5242, l_5410, l_5420, l_5520, l_5528, l_9999, l_65535, l_65536, l_100000, l_16777215, l_252645135, l_858993459, l_1431655765, ↓reduceIte, Nat.reduceAdd, Nat.reduceMul, Nat.reduceSub, ixN, inbN, leT, leF, ltT, ltF, eqT, eqF, eqM, eqNone, addN, mulN, subN, m1N, ↓to_bnd, bnd_some, ↓to_nmT, nmT_eq, up2_r, up2_e, pk_us, pk_un, b2_t, b2_f, b2_0, b2_1, zB_1, zB_0, zB_b2, not_true_eq_false, not_false_eq_true, r_Mo, Nat.add_zero, Nat.add_sub_cancel, within_R, within_N, in_R, in_N, inN_yes, inR_yes, inR_pred, orNone_nn, nn_m, nn_N, f_Ct_isDay, f_Ct_isThing, f_Ct_isKind, f_Ct_isRoomSeat, f_Ct_isOffice, f_Ct_isTable, f_Ct_isPaper, f_Ct_isRule, f_Ct_isDecision, f_Mo_isOffice, f_Mo_isTable, f_Mo_isPaper, f_Mo_isRule, f_Mo_isDecision, f_Mo_isDay, f_Mo_isThing, f_Mo_paperOf, f_Mo_set, e8, a1, r1]
          · exact RM_F (t_open hq (nI u) t2 (by omega)) (q4 rfl q u (17 :: S) out hq hu (by rw [c17]; omega) (by rw [c11]; exact h10) (tp S))
        · obtain ⟨g8, g9, v1, v2, v3, T, d', w1, w2, w3⟩ := q3 rfl
          rw [b2_t] at r1
          have f8 := r2.2.2.2.2.2.1
          have le2 := tkT_le B L k2
          by_cases t3 : tkT B L k2 = 3
          · obtain ⟨m3, s1, s2⟩ := c_adv hE r2 (by omega)
            have pm := tkP_m B L k2
            rw [t3] at f8
            refine ⟨true, k2 + 1, d, m3, ?_, s2, by omega, by omega, fun _ => ⟨by omega, fun δ hδ => v3 δ (by omega), fun q u n S0 out hq hu h17 h10 hS => ?_⟩, fun z => (by cases z)⟩
            · simp -dsimp -implicitDefEqProofs (disch := omega) only [f_Tp_readNot_44, f_Tp_readNot_81, ↓l_m1, l_0, l_1, l_2, l_3, l_4, l_5, l_6, l_7, l_8, l_9, l_10, l_11, l_12, l_13, l_14, l_15, l_16, l_17, l_20, l_21, l_22, l_23, l_24, l_28, l_29, l_30, l_31, l_32, l_40, l_41, l_48, l_57, l_60, l_62, l_63, l_84, l_96, l_97, l_99, l_100, l_122, l_132, l_144, l_150, l_186, l_255, l_256, l_288, l_300, l_522, l_634, l_999, l_5242, l_5410, l_5420, l_5520, l_5528, l_9999, l_65535, l_65536, l_100000, l_16777215, l_252645135, l_858993459, l_1431655765, ↓reduceIte, Nat.reduceAdd, Nat.reduceMul, Nat.reduceSub, ixN, inbN, leT, leF, ltT, ltF, eqT, eqF, eqM, eqNone, addN, mulN, subN, m1N, ↓to_bnd, bnd_some, ↓to_nmT, nmT_eq, up2_r, up2_e, pk_us, pk_un, b2_t, b2_f, b2_0, b2_1, zB_1, zB_0, zB_b2, not_true_eq_false, not_false_eq_true, r_Mo, Nat.add_zero, Nat.add_sub_cancel, within_R, within_N, in_R, in_N, inN_yes, inR_yes, inR_pred, orNone_nn, nn_m, nn_N, f_Ct_isDay, f_Ct_isThing, f_Ct_isKind, f_Ct_isRoomSeat, f_Ct_isOffice, f_Ct_isTable, f_Ct_isPaper, f_Ct_isRule, f_Ct_isDecision, f_Mo_isOffice, f_Mo_isTable, f_Mo_isPaper, f_Mo_isRule, f_Mo_isDecision, f_Mo_isDay, f_Mo_isThing, f_Mo_paperOf, f_Mo_set, e8, a1, r1, f8, s1]
            · have z1 := t_open (out := out) hq (nI u) t2 (show cnS 17 (List.replicate n 10 ++ S0) < 8 by omega)
              have z2 := w3 q u (17 :: (List.replicate n 10 ++ S0)) out hq hu (by rw [c17]; omega) (by rw [c11]; exact h10) (tp _)
              have z3 := t_close (n := n) (S0 := S0) (T := T) (out := d' ++ out) hq hu t3 w1 hS
              rw [emT_app T, w2] at z3
              exact RM_tr (RM_tr z1 z2) z3
          · refine ⟨false, k2, d, m2, ?_, r2, by omega, by omega, fun z => (by cases z), fun _ q u S out hq hu h17 h10 => ?_⟩
            · simp -dsimp -implicitDefEqProofs (disch := omega) only [f_Tp_readNot_44, f_Tp_readNot_81, ↓l_m1, l_0, l_1, l_2, l_3, l_4, l_5, l_6, l_7, l_8, l_9, l_10, l_11, l_12, l_13, l_14, l_15, l_16, l_17, l_20, l_21, l_22, l_23, l_24, l_28, l_29, l_30, l_31, l_32, l_40, l_41, l_48, l_57, l_60, l_62, l_63, l_84, l_96, l_97, l_99, l_100, l_122, l_132, l_144, l_150, l_186, l_255, l_256, l_288, l_300, l_522, l_634, l_999, l_5242, l_5410, l_5420, l_5520, l_5528, l_9999, l_65535, l_65536, l_100000, l_16777215, l_252645135, l_858993459, l_1431655765, ↓reduceIte, Nat.reduceAdd, Nat.reduceMul, Nat.reduceSub, ixN, inbN, leT, leF, ltT, ltF, eqT, eqF, eqM, eqNone, addN, mulN, subN, m1N, ↓to_bnd, bnd_some, ↓to_nmT, nmT_eq, up2_r, up2_e, pk_us, pk_un, b2_t, b2_f, b2_0, b2_1, zB_1, zB_0, zB_b2, not_true_eq_false, not_false_eq_true, r_Mo, Nat.add_zero, Nat.add_sub_cancel, within_R, within_N, in_R, in_N, inN_yes, inR_yes, inR_pred, orNone_nn, nn_m, nn_N, f_Ct_isDay, f_Ct_isThing, f_Ct_isKind, f_Ct_isRoomSeat, f_Ct_isOffice, f_Ct_isTable, f_Ct_isPaper, f_Ct_isRule, f_Ct_isDecision, f_Mo_isOffice, f_Mo_isTable, f_Mo_isPaper, f_Mo_isRule, f_Mo_isDecision, f_Mo_isDay, f_Mo_isThing, f_Mo_paperOf, f_Mo_set, e8, a1, r1, f8]
            · have z1 := t_open (out := out) hq (nI u) t2 (show cnS 17 S < 8 by omega)
              have z2 := w3 q u (17 :: S) out hq hu (by rw [c17]; omega) (by rw [c11]; exact h10) (tp S)
              have z3 := t_fail (S := T ++ 17 :: S) (out := d' ++ out) hq hu g8 g9 (fun z => t3 z.1) (fun z => by have := z.1; rw [cn_app, c17] at this; omega)
              exact RM_F (RM_tr z1 z2) z3
      · have st2 : ∀ r100 r102, f_Tp_readNot_44 r100 r102 256 (nI br) (nI no) m = f_Tp_readNot_89 r100 r102 256 m := fun r100 r102 => by
          by_cases t2 : tkT B L k = 2
          · have n8 : 8 ≤ br := by omega
            rw [t2] at e8
            simp -dsimp -implicitDefEqProofs (disch := omega) only [f_Tp_readNot_44, ↓l_m1, l_0, l_1, l_2, l_3, l_4, l_5, l_6, l_7, l_8, l_9, l_10, l_11, l_12, l_13, l_14, l_15, l_16, l_17, l_20, l_21, l_22, l_23, l_24, l_28, l_29, l_30, l_31, l_32, l_40, l_41, l_48, l_57, l_60, l_62, l_63, l_84, l_96, l_97, l_99, l_100, l_122, l_132, l_144, l_150, l_186, l_255, l_256, l_288, l_300, l_522, l_634, l_999, l_5242, l_5410, l_5420, l_5520, l_5528, l_9999, l_65535, l_65536, l_100000, l_16777215, l_252645135, l_858993459, l_1431655765, ↓reduceIte, Nat.reduceAdd, Nat.reduceMul, Nat.reduceSub, ixN, inbN, leT, leF, ltT, ltF, eqT, eqF, eqM, eqNone, addN, mulN, subN, m1N, ↓to_bnd, bnd_some, ↓to_nmT, nmT_eq, up2_r, up2_e, pk_us, pk_un, b2_t, b2_f, b2_0, b2_1, zB_1, zB_0, zB_b2, not_true_eq_false, not_false_eq_true, r_Mo, Nat.add_zero, Nat.add_sub_cancel, within_R, within_N, in_R, in_N, inN_yes, inR_yes, inR_pred, orNone_nn, nn_m, nn_N, f_Ct_isDay, f_Ct_isThing, f_Ct_isKind, f_Ct_isRoomSeat, f_Ct_isOffice, f_Ct_isTable, f_Ct_isPaper, f_Ct_isRule, f_Ct_isDecision, f_Mo_isOffice, f_Mo_isTable, f_Mo_isPaper, f_Mo_isRule, f_Mo_isDecision, f_Mo_isDay, f_Mo_isThing, f_Mo_paperOf, f_Mo_set, e8]
          · simp -dsimp -implicitDefEqProofs (disch := omega) only [f_Tp_readNot_44, ↓l_m1, l_0, l_1, l_2, l_3, l_4, l_5, l_6, l_7, l_8, l_9, l_10, l_11, l_12, l_13, l_14, l_15, l_16, l_17, l_20, l_21, l_22, l_23, l_24, l_28, l_29, l_30, l_31, l_32, l_40, l_41, l_48, l_57, l_60, l_62, l_63, l_84, l_96, l_97, l_99, l_100, l_122, l_132, l_144, l_150, l_186, l_255, l_256, l_288, l_300, l_522, l_634, l_999, l_5242, l_5410, l_5420, l_5520, l_5528, l_9999, l_65535, l_65536, l_100000, l_16777215, l_252645135, l_858993459, l_1431655765, ↓reduceIte, Nat.reduceAdd, Nat.reduceMul, Nat.reduceSub, ixN, inbN, leT, leF, ltT, ltF, eqT, eqF, eqM, eqNone, addN, mulN, subN, m1N, ↓to_bnd, bnd_some, ↓to_nmT, nmT_eq, up2_r, up2_e, pk_us, pk_un, b2_t, b2_f, b2_0, b2_1, zB_1, zB_0, zB_b2, not_true_eq_false, not_false_eq_true, r_Mo, Nat.add_zero, Nat.add_sub_cancel, within_R, within_N, in_R, in_N, inN_yes, inR_yes, inR_pred, orNone_nn, nn_m, nn_N, f_Ct_isDay, f_Ct_isThing, f_Ct_isKind, f_Ct_isRoomSeat, f_Ct_isOffice, f_Ct_isTable, f_Ct_isPaper, f_Ct_isRule, f_Ct_isDecision, f_Mo_isOffice, f_Mo_isTable, f_Mo_isPaper, f_Mo_isRule, f_Mo_isDecision, f_Mo_isDay, f_Mo_isThing, f_Mo_paperOf, f_Mo_set, e8]
        rw [st2]
        obtain ⟨m1, z⟩ := c_atom hE hL hC
        obtain ⟨o, k', ha⟩ : ∃ o k', atK B L k = (o, k') := ⟨_, _, rfl⟩
        rw [ha] at z
        cases o with
        | none =>
          obtain ⟨z1, z2, z3⟩ := z
          have pm : tkP B L k ≤ tkP B L k' := by
            have : ∀ j, tkP B L k ≤ tkP B L (k + j) := fun j => by
              induction j with
              | zero => exact Nat.le_refl _
              | succ j ih2 => have := tkP_m B L (k + j); exact Nat.le_trans ih2 this
            have q := this (k' - k)
            rw [show k + (k' - k) = k' by omega] at q
            exact q
          refine ⟨false, k', [], m1, ?_, z3, z2, pm, fun z => (by cases z), fun _ q u S out hq hu h17 h10 => t_atomF hq (nI u) ha z2 (by omega) (by omega)⟩
          simp -dsimp -implicitDefEqProofs (disch := omega) only [f_Tp_readNot_89, ↓l_m1, l_0, l_1, l_2, l_3, l_4, l_5, l_6, l_7, l_8, l_9, l_10, l_11, l_12, l_13, l_14, l_15, l_16, l_17, l_20, l_21, l_22, l_23, l_24, l_28, l_29, l_30, l_31, l_32, l_40, l_41, l_48, l_57, l_60, l_62, l_63, l_84, l_96, l_97, l_99, l_100, l_122, l_132, l_144, l_150, l_186, l_255, l_256, l_288, l_300, l_522, l_634, l_999, l_5242, l_5410, l_5420, l_5520, l_5528, l_9999, l_65535, l_65536, l_100000, l_16777215, l_252645135, l_858993459, l_1431655765, ↓reduceIte, Nat.reduceAdd, Nat.reduceMul, Nat.reduceSub, ixN, inbN, leT, leF, ltT, ltF, eqT, eqF, eqM, eqNone, addN, mulN, subN, m1N, ↓to_bnd, bnd_some, ↓to_nmT, nmT_eq, up2_r, up2_e, pk_us, pk_un, b2_t, b2_f, b2_0, b2_1, zB_1, zB_0, zB_b2, not_true_eq_false, not_false_eq_true, r_Mo, Nat.add_zero, Nat.add_sub_cancel, within_R, within_N, in_R, in_N, inN_yes, inR_yes, inR_pred, orNone_nn, nn_m, nn_N, f_Ct_isDay, f_Ct_isThing, f_Ct_isKind, f_Ct_isRoomSeat, f_Ct_isOffice, f_Ct_isTable, f_Ct_isPaper, f_Ct_isRule, f_Ct_isDecision, f_Mo_isOffice, f_Mo_isTable, f_Mo_isPaper, f_Mo_isRule, f_Mo_isDecision, f_Mo_isDay, f_Mo_isThing, f_Mo_paperOf, f_Mo_set, z1]
        | some o =>
          obtain ⟨z1, z2⟩ := z
          obtain ⟨oa, lt, pl⟩ := atK_some ha
          refine ⟨true, k', [o], m1, ?_, z2, by omega, pl, fun _ => ⟨lt, fun δ hδ => ⟨δ, rfl, by omega, Or.inr (Or.inr (Or.inr ⟨oa, rfl⟩))⟩, fun q u n S0 out hq hu h17 h10 hS => t_atom hq (nI u) ha hS⟩, fun z => (by cases z)⟩
          simp -dsimp -implicitDefEqProofs (disch := omega) only [f_Tp_readNot_89, ↓l_m1, l_0, l_1, l_2, l_3, l_4, l_5, l_6, l_7, l_8, l_9, l_10, l_11, l_12, l_13, l_14, l_15, l_16, l_17, l_20, l_21, l_22, l_23, l_24, l_28, l_29, l_30, l_31, l_32, l_40, l_41, l_48, l_57, l_60, l_62, l_63, l_84, l_96, l_97, l_99, l_100, l_122, l_132, l_144, l_150, l_186, l_255, l_256, l_288, l_300, l_522, l_634, l_999, l_5242, l_5410, l_5420, l_5520, l_5528, l_9999, l_65535, l_65536, l_100000, l_16777215, l_252645135, l_858993459, l_1431655765, ↓reduceIte, Nat.reduceAdd, Nat.reduceMul, Nat.reduceSub, ixN, inbN, leT, leF, ltT, ltF, eqT, eqF, eqM, eqNone, addN, mulN, subN, m1N, ↓to_bnd, bnd_some, ↓to_nmT, nmT_eq, up2_r, up2_e, pk_us, pk_un, b2_t, b2_f, b2_0, b2_1, zB_1, zB_0, zB_b2, not_true_eq_false, not_false_eq_true, r_Mo, Nat.add_zero, Nat.add_sub_cancel, within_R, within_N, in_R, in_N, inN_yes, inR_yes, inR_pred, orNone_nn, nn_m, nn_N, f_Ct_isDay, f_Ct_isThing, f_Ct_isKind, f_Ct_isRoomSeat, f_Ct_isOffice, f_Ct_isTable, f_Ct_isPaper, f_Ct_isRule, f_Ct_isDecision, f_Mo_isOffice, f_Mo_isTable, f_Mo_isPaper, f_Mo_isRule, f_Mo_isDecision, f_Mo_isDay, f_Mo_isThing, f_Mo_paperOf, f_Mo_set, z1]
/-- what stands behind if or unless, read by both -/
theorem both_E {B : Nat → Nat} {L K : Nat} {m0 : Mm} (hE : CTe B L K m0) (hL : L ≤ 96) {k : Nat} {c : List Op3} {m : Mm} (hC : CS B L K m0 k c m) : ∃ b k' d m', fz_Tp_readOr 256 (nI 0) (nI 0) m = some (b2 b, m') ∧ CS B L K m0 k' (d ++ c) m' ∧ k ≤ k' ∧ (b = true → 0 < d.length ∧ okC d 0 1 ∧ ∀ q u mm, MQu B L q → u < 2 → MSu B L q k [] [] mm → ((tkT B L k' = 0 ∨ (u = 0 ∧ tkT B L k' = 7)) → ∃ mm', f_Mo_takesE_37 NN 298 (nI u) (nI 1) mm = some (nI 1, mm') ∧ MSu B L q k' [] d mm') ∧ (¬ (tkT B L k' = 0 ∨ (u = 0 ∧ tkT B L k' = 7)) → ∃ mm', f_Mo_takesE_37 NN 298 (nI u) (nI 1) mm = some (nI 0, mm') ∧ FLr B L q k' mm')) ∧ (b = false → ∀ q u mm, MQu B L q → u < 2 → MSu B L q k [] [] mm → ∃ mm', f_Mo_takesE_37 NN 298 (nI u) (nI 1) mm = some (nI 0, mm') ∧ FLr B L q k' mm') := by
  obtain ⟨b, k', d, m', r1, r2, q1, q2, q3, q4⟩ := c_or hE hL (by omega) (c_and hE hL (by omega) (c_not hE hL 18 0 0 (by omega) (by omega) (by omega))) k c m hC
  have kK := r2.2.2.2.1
  have hK := hE.1
  have nn : ∀ n, n ≤ 9999 → NN = (9999 - n) + 1 + n := fun n h => by show 10000 = _; omega
  refine ⟨b, k', d, m', r1, r2, q1, fun hb => ?_, fun hb => ?_⟩
  · obtain ⟨g8, g9, v1, v2, v3, T, d', w1, w2, w3⟩ := q3 hb
    have ok := v3 0 (by omega)
    refine ⟨?_, ok, fun q u mm hq hu hM => ?_⟩
    · cases d with
      | nil => have : (0 : Nat) = 0 + 1 := ok; omega
      | cons _ _ => rw [List.length_cons]; omega
    · obtain ⟨n, m1, a1, a2, a3⟩ := w3 q u [] [] hq hu rfl rfl (fun h t e => (by cases e)) mm hM
      rw [List.append_nil, List.append_nil] at a2
      rw [nn n (by omega), a3]
      refine ⟨fun ho => ?_, fun ho => ?_⟩
      · obtain ⟨m2, x1, x2⟩ := t_over hq hu w1 ho a2
        rw [w2] at x1
        exact ⟨m2, x2 _, x1⟩
      · have z := t_fail (S := T) (out := d') hq hu g8 g9 (fun z => by rw [cn_no 17 T (fun x hx => by have := w1 x hx; omega)] at z; omega) (fun z => ho z.2)
        obtain ⟨n2, m2, x1, x2, x3⟩ := z m1 a2
        rw [show 9999 - n + 1 = (10000 - n - n2) + n2 by omega, x3]
        exact ⟨m2, rfl, x2⟩
  · intro q u mm hq hu hM
    obtain ⟨n, m1, a1, a2, a3⟩ := q4 hb q u [] [] hq hu rfl rfl (fun h t e => (by cases e)) mm hM
    rw [nn n (by omega), a3]
    exact ⟨m1, rfl, a2⟩
