/-! the model's steps through what stands behind if and unless -/
def MSu (B : Nat → Nat) (L : Nat) (q : MPu) (k : Nat) (S : List Nat) (out : List Op3) (m : Mm) : Prop := MXu B L q k (q.2.2.1 + atC out) (q.2.2.2.2 || bdC q.2.2.2.1 out) S out m
theorem em_c (nO : Nat) : ∀ (T : List Nat) (l : List Op3), (∀ x, x ∈ T → x < 11) → atC (emT T l) = atC l ∧ bdC nO (emT T l) = bdC nO l
  | [], l, _ => ⟨rfl, rfl⟩
  | x :: t, l, h => by
    have hx := h x (List.mem_cons_self ..)
    obtain ⟨a, b⟩ := em_c nO t ((x, 0, 0) :: l) (fun y hy => h y (List.mem_cons_of_mem _ hy))
    rw [emT, a, b, atC, bdC, if_neg (show ¬ 11 ≤ ((x, 0, 0) : Op3).1 from by dsimp only; omega)]
    refine ⟨rfl, ?_⟩
    unfold bdO
    rw [decide_eq_false (fun z => by have := z.1; dsimp only at this; omega), Bool.or_false]
theorem MSu_em {B : Nat → Nat} {L : Nat} {q : MPu} {k : Nat} {S T : List Nat} {out : List Op3} {m : Mm} (hT : ∀ x, x ∈ T → x < 11) (h : MXu B L q k (q.2.2.1 + atC out) (q.2.2.2.2 || bdC q.2.2.2.1 out) S (emT T out) m) : MSu B L q k S (emT T out) m := by
  obtain ⟨a, b⟩ := em_c q.2.2.2.1 T out hT
  unfold MSu
  rw [a, b]
  exact h
def RMu (B : Nat → Nat) (L : Nat) (q : MPu) (x1 : Int32) (k w : Nat) (S : List Nat) (out : List Op3) (k' w' : Nat) (S' : List Nat) (out' : List Op3) : Prop := ∀ m, MSu B L q k S out m → ∃ n m', n + k ≤ k' ∧ MSu B L q k' S' out' m' ∧ ∀ f, f_Mo_takesE_37 (f + n) 298 x1 (nI w) m = f_Mo_takesE_37 f 298 x1 (nI w') m'
def FMu (B : Nat → Nat) (L : Nat) (q : MPu) (x1 : Int32) (k w : Nat) (S : List Nat) (out : List Op3) (k' : Nat) : Prop := ∀ m, MSu B L q k S out m → ∃ n m', n + k ≤ k' + 1 ∧ FLr B L q k' m' ∧ ∀ f, f_Mo_takesE_37 (f + n) 298 x1 (nI w) m = some (nI 0, m')
theorem RM_tr {B : Nat → Nat} {L : Nat} {q : MPu} {x1 : Int32} {k w k1 w1 k2 w2 : Nat} {S S1 S2 : List Nat} {o o1 o2 : List Op3} (h1 : RMu B L q x1 k w S o k1 w1 S1 o1) (h2 : RMu B L q x1 k1 w1 S1 o1 k2 w2 S2 o2) : RMu B L q x1 k w S o k2 w2 S2 o2 := by
  intro m hm
  obtain ⟨n, m1, a1, a2, a3⟩ := h1 m hm
  obtain ⟨n2, m2, b1, b2, b3⟩ := h2 m1 a2
  refine ⟨n2 + n, m2, by omega, b2, fun f => ?_⟩
  rw [← Nat.add_assoc, a3, b3]
theorem RM_F {B : Nat → Nat} {L : Nat} {q : MPu} {x1 : Int32} {k w k1 w1 k2 : Nat} {S S1 : List Nat} {o o1 : List Op3} (h1 : RMu B L q x1 k w S o k1 w1 S1 o1) (h2 : FMu B L q x1 k1 w1 S1 o1 k2) : FMu B L q x1 k w S o k2 := by
  intro m hm
  obtain ⟨n, m1, a1, a2, a3⟩ := h1 m hm
  obtain ⟨n2, m2, b1, b2, b3⟩ := h2 m1 a2
  refine ⟨n2 + n, m2, by omega, b2, fun f => ?_⟩
  rw [← Nat.add_assoc, a3, b3]
theorem t_not {B : Nat → Nat} {L k : Nat} {q : MPu} {S : List Nat} {out : List Op3} (hQ : MQu B L q) (x1 : Int32) (hT : tkT B L k = 10) (hn : cnS 10 S < 8) : RMu B L q x1 k 1 S out (k + 1) 1 (10 :: S) out := by
  intro m h
  have h' := h
  obtain ⟨hF, hK, e24, hC, e31, hS, e32, e33, e27, e28, hb1, hb2⟩ := h
  have hL := hQ.1.1
  have pl := (tkP_le B L k).2
  have pw := tkP_w (B := B) (L := L) (k := k) (by omega) (by omega)
  have kw := k_word hK (w := 10) (by omega) w_not
  rw [decide_eq_true hT] at kw
  obtain ⟨m2, z1, z2⟩ := x_push (x := 10) (m1 := up2 (up2 (up2 m 309 S.length (nI 10)) 298 31 (nI (S.length + 1))) 298 33 (nI (cnS 10 S + 1))) hQ h' (by omega) (by rw [opSu, if_neg (by decide)]; omega) (by omega) (fun a h1 h2 => by simp -dsimp -implicitDefEqProofs (disch := omega) only [up2_r]) (fun i h1 h2 h3 => by simp -dsimp -implicitDefEqProofs (disch := omega) only [up2_e, up2_r, pk_un]) (by simp -dsimp -implicitDefEqProofs (disch := omega) only [up2_e, up2_r, pk_us]) (fun i hi => by simp -dsimp -implicitDefEqProofs (disch := omega) only [up2_e, up2_r, pk_un]) (by simp -dsimp -implicitDefEqProofs (disch := omega) only [up2_e, pk_un, pk_us]) (by rw [cnS, if_neg (by decide)]; simp -dsimp -implicitDefEqProofs (disch := omega) only [up2_e, up2_r, pk_un, e32, Nat.add_zero]) (by rw [cnS, if_pos rfl]; simp -dsimp -implicitDefEqProofs (disch := omega) only [up2_e, pk_us])
  refine ⟨1, m2, by omega, z2, fun f => ?_⟩
  rw [f_Mo_takesE_37]
  simp -dsimp -implicitDefEqProofs (disch := omega) only [f_Mo_takesE_49, f_Mo_await, ↓l_m1, l_0, l_1, l_2, l_3, l_4, l_5, l_6, l_7, l_8, l_9, l_10, l_11, l_12, l_13, l_14, l_15, l_16, l_17, l_20, l_21, l_22, l_23, l_24, l_28, l_29, l_30, l_31, l_32, l_40, l_41, l_48, l_57, l_60, l_62, l_63, l_84, l_96, l_97, l_99, l_100, l_122, l_132, l_144, l_150, l_186, l_255, l_256, l_288, l_300, l_522, l_634, l_999, l_5242, l_5410, l_5420, l_5520, l_5528, l_9999, l_65535, l_65536, l_100000, l_16777215, l_252645135, l_858993459, l_1431655765, ↓reduceIte, Nat.reduceAdd, Nat.reduceMul, Nat.reduceSub, ixN, inbN, leT, leF, ltT, ltF, eqT, eqF, eqM, eqNone, addN, mulN, subN, m1N, ↓to_bnd, bnd_some, ↓to_nmT, nmT_eq, up2_r, up2_e, pk_us, pk_un, b2_t, b2_f, b2_0, b2_1, zB_1, zB_0, zB_b2, not_true_eq_false, not_false_eq_true, r_Mo, Nat.add_zero, Nat.add_sub_cancel, within_R, within_N, in_R, in_N, inN_yes, inR_yes, inR_pred, orNone_nn, nn_m, nn_N, f_Ct_isDay, f_Ct_isThing, f_Ct_isKind, f_Ct_isRoomSeat, f_Ct_isOffice, f_Ct_isTable, f_Ct_isPaper, f_Ct_isRule, f_Ct_isDecision, f_Mo_isOffice, f_Mo_isTable, f_Mo_isPaper, f_Mo_isRule, f_Mo_isDecision, f_Mo_isDay, f_Mo_isThing, f_Mo_paperOf, f_Mo_set, rc_1, rc_2, rc_3, rc_4, rc_5, rc_6, rc_7, rm_1, rm_2, rm_4, rm_5, rm_6, rm_9, rm_11, rm_12, rm_22, rm_30, rm_34, rm_35, rm_36, rm_37, rm_38, rm_39, rm_40, rm_41, rm_42, rm_43, rm_45, rm_46, rt_0, rt_1, rt_2, rt_3, rt_4, rt_s, rw_0, rw_1, rg_a, rg_v, rs_a, rs_p, rs_r, rs_v, kw, e31, e33, z1]
theorem t_open {B : Nat → Nat} {L k : Nat} {q : MPu} {S : List Nat} {out : List Op3} (hQ : MQu B L q) (x1 : Int32) (hT : tkT B L k = 2) (hn : cnS 17 S < 8) : RMu B L q x1 k 1 S out (k + 1) 1 (17 :: S) out := by
  intro m h
  have h' := h
  obtain ⟨hF, hK, e24, hC, e31, hS, e32, e33, e27, e28, hb1, hb2⟩ := h
  have hL := hQ.1.1
  have pl := (tkP_le B L k).2
  have pw := tkP_s (B := B) (L := L) (k := k) (by omega)
  have kw := k_word hK (w := 10) (by omega) w_not
  rw [decide_eq_false (by omega)] at kw
  have ks := k_sign hK (w := 40) (by omega) s_op
  rw [decide_eq_true hT] at ks
  obtain ⟨m2, z1, z2⟩ := x_push (x := 17) (m1 := up2 (up2 (up2 m 309 S.length (nI 17)) 298 31 (nI (S.length + 1))) 298 32 (nI (cnS 17 S + 1))) hQ h' (by omega) (by rw [opSu, if_pos rfl]; omega) (by omega) (fun a h1 h2 => by simp -dsimp -implicitDefEqProofs (disch := omega) only [up2_r]) (fun i h1 h2 h3 => by simp -dsimp -implicitDefEqProofs (disch := omega) only [up2_e, up2_r, pk_un]) (by simp -dsimp -implicitDefEqProofs (disch := omega) only [up2_e, up2_r, pk_us]) (fun i hi => by simp -dsimp -implicitDefEqProofs (disch := omega) only [up2_e, up2_r, pk_un]) (by simp -dsimp -implicitDefEqProofs (disch := omega) only [up2_e, pk_un, pk_us]) (by rw [cnS, if_pos rfl]; simp -dsimp -implicitDefEqProofs (disch := omega) only [up2_e, pk_us]) (by rw [cnS, if_neg (by decide)]; simp -dsimp -implicitDefEqProofs (disch := omega) only [up2_e, up2_r, pk_un, e33, Nat.add_zero])
  refine ⟨1, m2, by omega, z2, fun f => ?_⟩
  rw [f_Mo_takesE_37]
  simp -dsimp -implicitDefEqProofs (disch := omega) only [f_Mo_takesE_49, f_Mo_takesE_94, f_Mo_await, ↓l_m1, l_0, l_1, l_2, l_3, l_4, l_5, l_6, l_7, l_8, l_9, l_10, l_11, l_12, l_13, l_14, l_15, l_16, l_17, l_20, l_21, l_22, l_23, l_24, l_28, l_29, l_30, l_31, l_32, l_40, l_41, l_48, l_57, l_60, l_62, l_63, l_84, l_96, l_97, l_99, l_100, l_122, l_132, l_144, l_150, l_186, l_255, l_256, l_288, l_300, l_522, l_634, l_999, l_5242, l_5410, l_5420, l_5520, l_5528, l_9999, l_65535, l_65536, l_100000, l_16777215, l_252645135, l_858993459, l_1431655765, ↓reduceIte, Nat.reduceAdd, Nat.reduceMul, Nat.reduceSub, ixN, inbN, leT, leF, ltT, ltF, eqT, eqF, eqM, eqNone, addN, mulN, subN, m1N, ↓to_bnd, bnd_some, ↓to_nmT, nmT_eq, up2_r, up2_e, pk_us, pk_un, b2_t, b2_f, b2_0, b2_1, zB_1, zB_0, zB_b2, not_true_eq_false, not_false_eq_true, r_Mo, Nat.add_zero, Nat.add_sub_cancel, within_R, within_N, in_R, in_N, inN_yes, inR_yes, inR_pred, orNone_nn, nn_m, nn_N, f_Ct_isDay, f_Ct_isThing, f_Ct_isKind, f_Ct_isRoomSeat, f_Ct_isOffice, f_Ct_isTable, f_Ct_isPaper, f_Ct_isRule, f_Ct_isDecision, f_Mo_isOffice, f_Mo_isTable, f_Mo_isPaper, f_Mo_isRule, f_Mo_isDecision, f_Mo_isDay, f_Mo_isThing, f_Mo_paperOf, f_Mo_set, rc_1, rc_2, rc_3, rc_4, rc_5, rc_6, rc_7, rm_1, rm_2, rm_4, rm_5, rm_6, rm_9, rm_11, rm_12, rm_22, rm_30, rm_34, rm_35, rm_36, rm_37, rm_38, rm_39, rm_40, rm_41, rm_42, rm_43, rm_45, rm_46, rt_0, rt_1, rt_2, rt_3, rt_4, rt_s, rw_0, rw_1, rg_a, rg_v, rs_a, rs_p, rs_r, rs_v, kw, ks, e31, e32, z1]
theorem rep_lt {n x : Nat} (h : x ∈ List.replicate n 10) : x < 11 := by
  rw [List.mem_replicate] at h
  omega
/-- to an atom, in any way -/
theorem t_135 {B : Nat → Nat} {L k : Nat} {q : MPu} {S : List Nat} {out : List Op3} {m : Mm} (h : MSu B L q k S out m) (x1 : Int32) (h1 : ¬ (tkT B L k = 10 ∧ cnS 10 S < 8)) (h2 : ¬ (tkT B L k = 2 ∧ cnS 17 S < 8)) (hL : L ≤ 96) (f : Nat) : f_Mo_takesE_37 (f + 1) 298 x1 (nI 1) m = f_Mo_takesE_135 (f_Mo_takesE_37 f) 298 x1 m := by
  obtain ⟨hF, hK, e24, hC, e31, hS, e32, e33, e27, e28, hb1, hb2⟩ := h
  have pl := (tkP_le B L k).2
  have c10 : cnS 10 S ≤ S.length := by
    clear hS e31 e32 e33 hb1 hb2 h1 h2
    induction S with
    | nil => exact Nat.le_refl _
    | cons x t ih => rw [cnS, List.length_cons]; split <;> omega
  have c17 : cnS 17 S ≤ S.length := by
    clear hS e31 e32 e33 hb1 hb2 h1 h2 c10
    induction S with
    | nil => exact Nat.le_refl _
    | cons x t ih => rw [cnS, List.length_cons]; split <;> omega
  have kw := k_word hK (w := 10) (by omega) w_not
  have ks := k_sign hK (w := 40) (by omega) s_op
  have st : f_Mo_takesE_37 (f + 1) 298 x1 (nI 1) m = f_Mo_takesE_94 (f_Mo_takesE_37 f) 298 x1 (nI 1) m := by
    rw [f_Mo_takesE_37]
    by_cases c : tkT B L k = 10
    · rw [decide_eq_true c] at kw
      have c2 : 8 ≤ cnS 10 S := by omega
      simp -dsimp -implicitDefEqProofs (disch := omega) only [f_Mo_takesE_49, ↓l_m1, l_0, l_1, l_2, l_3, l_4, l_5, l_6, l_7, l_8, l_9, l_10, l_11, l_12, l_13, l_14, l_15, l_16, l_17, l_20, l_21, l_22, l_23, l_24, l_28, l_29, l_30, l_31, l_32, l_40, l_41, l_48, l_57, l_60, l_62, l_63, l_84, l_96, l_97, l_99, l_100, l_122, l_132, l_144, l_150, l_186, l_255, l_256, l_288, l_300, l_522, l_634, l_999, l_5242, l_5410, l_5420, l_5520, l_5528, l_9999, l_65535, l_65536, l_100000, l_16777215, l_252645135, l_858993459, l_1431655765, ↓reduceIte, Nat.reduceAdd, Nat.reduceMul, Nat.reduceSub, ixN, inbN, leT, leF, ltT, ltF, eqT, eqF, eqM, eqNone, addN, mulN, subN, m1N, ↓to_bnd, bnd_some, ↓to_nmT, nmT_eq, up2_r, up2_e, pk_us, pk_un, b2_t, b2_f, b2_0, b2_1, zB_1, zB_0, zB_b2, not_true_eq_false, not_false_eq_true, r_Mo, Nat.add_zero, Nat.add_sub_cancel, within_R, within_N, in_R, in_N, inN_yes, inR_yes, inR_pred, orNone_nn, nn_m, nn_N, f_Ct_isDay, f_Ct_isThing, f_Ct_isKind, f_Ct_isRoomSeat, f_Ct_isOffice, f_Ct_isTable, f_Ct_isPaper, f_Ct_isRule, f_Ct_isDecision, f_Mo_isOffice, f_Mo_isTable, f_Mo_isPaper, f_Mo_isRule, f_Mo_isDecision, f_Mo_isDay, f_Mo_isThing, f_Mo_paperOf, f_Mo_set, kw, e33]
    · rw [decide_eq_false c] at kw
      simp -dsimp -implicitDefEqProofs (disch := omega) only [f_Mo_takesE_49, ↓l_m1, l_0, l_1, l_2, l_3, l_4, l_5, l_6, l_7, l_8, l_9, l_10, l_11, l_12, l_13, l_14, l_15, l_16, l_17, l_20, l_21, l_22, l_23, l_24, l_28, l_29, l_30, l_31, l_32, l_40, l_41, l_48, l_57, l_60, l_62, l_63, l_84, l_96, l_97, l_99, l_100, l_122, l_132, l_144, l_150, l_186, l_255, l_256, l_288, l_300, l_522, l_634, l_999, l_5242, l_5410, l_5420, l_5520, l_5528, l_9999, l_65535, l_65536, l_100000, l_16777215, l_252645135, l_858993459, l_1431655765, ↓reduceIte, Nat.reduceAdd, Nat.reduceMul, Nat.reduceSub, ixN, inbN, leT, leF, ltT, ltF, eqT, eqF, eqM, eqNone, addN, mulN, subN, m1N, ↓to_bnd, bnd_some, ↓to_nmT, nmT_eq, up2_r, up2_e, pk_us, pk_un, b2_t, b2_f, b2_0, b2_1, zB_1, zB_0, zB_b2, not_true_eq_false, not_false_eq_true, r_Mo, Nat.add_zero, Nat.add_sub_cancel, within_R, within_N, in_R, in_N, inN_yes, inR_yes, inR_pred, orNone_nn, nn_m, nn_N, f_Ct_isDay, f_Ct_isThing, f_Ct_isKind, f_Ct_isRoomSeat, f_Ct_isOffice, f_Ct_isTable, f_Ct_isPaper, f_Ct_isRule, f_Ct_isDecision, f_Mo_isOffice, f_Mo_isTable, f_Mo_isPaper, f_Mo_isRule, f_Mo_isDecision, f_Mo_isDay, f_Mo_isThing, f_Mo_paperOf, f_Mo_set, kw]
  rw [st]
  by_cases c : tkT B L k = 2
  · rw [decide_eq_true c] at ks
    have c2 : 8 ≤ cnS 17 S := by omega
    simp -dsimp -implicitDefEqProofs (disch := omega) only [f_Mo_takesE_94, ↓l_m1, l_0, l_1, l_2, l_3, l_4, l_5, l_6, l_7, l_8, l_9, l_10, l_11, l_12, l_13, l_14, l_15, l_16, l_17, l_20, l_21, l_22, l_23, l_24, l_28, l_29, l_30, l_31, l_32, l_40, l_41, l_48, l_57, l_60, l_62, l_63, l_84, l_96, l_97, l_99, l_100, l_122, l_132, l_144, l_150, l_186, l_255, l_256, l_288, l_300, l_522, l_634, l_999, l_5242, l_5410, l_5420, l_5520, l_5528, l_9999, l_65535, l_65536, l_100000, l_16777215, l_252645135, l_858993459, l_1431655765, ↓reduceIte, Nat.reduceAdd, Nat.reduceMul, Nat.reduceSub, ixN, inbN, leT, leF, ltT, ltF, eqT, eqF, eqM, eqNone, addN, mulN, subN, m1N, ↓to_bnd, bnd_some, ↓to_nmT, nmT_eq, up2_r, up2_e, pk_us, pk_un, b2_t, b2_f, b2_0, b2_1, zB_1, zB_0, zB_b2, not_true_eq_false, not_false_eq_true, r_Mo, Nat.add_zero, Nat.add_sub_cancel, within_R, within_N, in_R, in_N, inN_yes, inR_yes, inR_pred, orNone_nn, nn_m, nn_N, f_Ct_isDay, f_Ct_isThing, f_Ct_isKind, f_Ct_isRoomSeat, f_Ct_isOffice, f_Ct_isTable, f_Ct_isPaper, f_Ct_isRule, f_Ct_isDecision, f_Mo_isOffice, f_Mo_isTable, f_Mo_isPaper, f_Mo_isRule, f_Mo_isDecision, f_Mo_isDay, f_Mo_isThing, f_Mo_paperOf, f_Mo_set, ks, e32]
  · rw [decide_eq_false c] at ks
    simp -dsimp -implicitDefEqProofs (disch := omega) only [f_Mo_takesE_94, ↓l_m1, l_0, l_1, l_2, l_3, l_4, l_5, l_6, l_7, l_8, l_9, l_10, l_11, l_12, l_13, l_14, l_15, l_16, l_17, l_20, l_21, l_22, l_23, l_24, l_28, l_29, l_30, l_31, l_32, l_40, l_41, l_48, l_57, l_60, l_62, l_63, l_84, l_96, l_97, l_99, l_100, l_122, l_132, l_144, l_150, l_186, l_255, l_256, l_288, l_300, l_522, l_634, l_999, l_5242, l_5410, l_5420, l_5520, l_5528, l_9999, l_65535, l_65536, l_100000, l_16777215, l_252645135, l_858993459, l_1431655765, ↓reduceIte, Nat.reduceAdd, Nat.reduceMul, Nat.reduceSub, ixN, inbN, leT, leF, ltT, ltF, eqT, eqF, eqM, eqNone, addN, mulN, subN, m1N, ↓to_bnd, bnd_some, ↓to_nmT, nmT_eq, up2_r, up2_e, pk_us, pk_un, b2_t, b2_f, b2_0, b2_1, zB_1, zB_0, zB_b2, not_true_eq_false, not_false_eq_true, r_Mo, Nat.add_zero, Nat.add_sub_cancel, within_R, within_N, in_R, in_N, inN_yes, inR_yes, inR_pred, orNone_nn, nn_m, nn_N, f_Ct_isDay, f_Ct_isThing, f_Ct_isKind, f_Ct_isRoomSeat, f_Ct_isOffice, f_Ct_isTable, f_Ct_isPaper, f_Ct_isRule, f_Ct_isDecision, f_Mo_isOffice, f_Mo_isTable, f_Mo_isPaper, f_Mo_isRule, f_Mo_isDecision, f_Mo_isDay, f_Mo_isThing, f_Mo_paperOf, f_Mo_set, ks]
theorem t_atom {B : Nat → Nat} {L k k' n : Nat} {q : MPu} {S0 : List Nat} {out : List Op3} {o : Op3} (hQ : MQu B L q) (x1 : Int32) (ha : atK B L k = (some o, k')) (hS0 : ∀ h t, S0 = h :: t → h ≠ 10) : RMu B L q x1 k 1 (List.replicate n 10 ++ S0) out k' 0 S0 (emT (List.replicate n 10) (o :: out)) := by
  intro m h
  obtain ⟨oa, lt, -⟩ := atK_some ha
  have t17 : 17 ≤ tkT B L k ∧ tkT B L k ≤ 22 := by
    by_cases c : 17 ≤ tkT B L k ∧ tkT B L k ≤ 22
    · exact c
    · unfold atK at ha
      rw [if_neg c] at ha
      cases ha
  obtain ⟨m1, z⟩ := m_atom hQ h
  rw [ha] at z
  obtain ⟨z1, z2⟩ := z
  have hL := hQ.1.1
  have pl := (tkP_le B L k').2
  have nl : n < 10000 := by
    have q1 := z2.2.2.2.2.2.2.2.2.2.2.2
    rw [List.length_append, List.length_replicate] at q1
    omega
  obtain ⟨m2, y1, y2⟩ := x_nots hQ hS0 n (o :: out) m1 NN z2 (NN_lt nl)
  have y3 : f_Mo_endNots 298 m1 = some m2 := by unfold f_Mo_endNots; exact y1
  refine ⟨1, m2, by omega, MSu_em (fun x hx => rep_lt hx) ?_, fun f => ?_⟩
  · rw [atC, if_pos oa.2.1, bdC, ← Nat.add_assoc, ← Bool.or_assoc]
    exact y2
  · rw [t_135 h x1 (by omega) (by omega) hL f]
    simp -dsimp -implicitDefEqProofs (disch := omega) only [f_Mo_takesE_135, ↓l_m1, l_0, l_1, l_2, l_3, l_4, l_5, l_6, l_7, l_8, l_9, l_10, l_11, l_12, l_13, l_14, l_15, l_16, l_17, l_20, l_21, l_22, l_23, l_24, l_28, l_29, l_30, l_31, l_32, l_40, l_41, l_48, l_57, l_60, l_62, l_63, l_84, l_96, l_97, l_99, l_100, l_122, l_132, l_144, l_150, l_186, l_255, l_256, l_288, l_300, l_522, l_634, l_999, l_5242, l_5410, l_5420, l_5520, l_5528, l_9999, l_65535, l_65536, l_100000, l_16777215, l_252645135, l_858993459, l_1431655765, ↓reduceIte, Nat.reduceAdd, Nat.reduceMul, Nat.reduceSub, ixN, inbN, leT, leF, ltT, ltF, eqT, eqF, eqM, eqNone, addN, mulN, subN, m1N, ↓to_bnd, bnd_some, ↓to_nmT, nmT_eq, up2_r, up2_e, pk_us, pk_un, b2_t, b2_f, b2_0, b2_1, zB_1, zB_0, zB_b2, not_true_eq_false, not_false_eq_true, r_Mo, Nat.add_zero, Nat.add_sub_cancel, within_R, within_N, in_R, in_N, inN_yes, inR_yes, inR_pred, orNone_nn, nn_m, nn_N, f_Ct_isDay, f_Ct_isThing, f_Ct_isKind, f_Ct_isRoomSeat, f_Ct_isOffice, f_Ct_isTable, f_Ct_isPaper, f_Ct_isRule, f_Ct_isDecision, f_Mo_isOffice, f_Mo_isTable, f_Mo_isPaper, f_Mo_isRule, f_Mo_isDecision, f_Mo_isDay, f_Mo_isThing, f_Mo_paperOf, f_Mo_set, z1, y3]
theorem t_atomF {B : Nat → Nat} {L k k' : Nat} {q : MPu} {S : List Nat} {out : List Op3} (hQ : MQu B L q) (x1 : Int32) (ha : atK B L k = (none, k')) (hk : k ≤ k') (h1 : ¬ (tkT B L k = 10 ∧ cnS 10 S < 8)) (h2 : ¬ (tkT B L k = 2 ∧ cnS 17 S < 8)) : FMu B L q x1 k 1 S out k' := by
  intro m h
  obtain ⟨m1, z⟩ := m_atom hQ h
  rw [ha] at z
  obtain ⟨z1, z2⟩ := z
  refine ⟨1, m1, by omega, z2, fun f => ?_⟩
  rw [t_135 h x1 h1 h2 hQ.1.1 f]
  simp -dsimp -implicitDefEqProofs (disch := omega) only [f_Mo_takesE_135, ↓l_m1, l_0, l_1, l_2, l_3, l_4, l_5, l_6, l_7, l_8, l_9, l_10, l_11, l_12, l_13, l_14, l_15, l_16, l_17, l_20, l_21, l_22, l_23, l_24, l_28, l_29, l_30, l_31, l_32, l_40, l_41, l_48, l_57, l_60, l_62, l_63, l_84, l_96, l_97, l_99, l_100, l_122, l_132, l_144, l_150, l_186, l_255, l_256, l_288, l_300, l_522, l_634, l_999, l_5242, l_5410, l_5420, l_5520, l_5528, l_9999, l_65535, l_65536, l_100000, l_16777215, l_252645135, l_858993459, l_1431655765, ↓reduceIte, Nat.reduceAdd, Nat.reduceMul, Nat.reduceSub, ixN, inbN, leT, leF, ltT, ltF, eqT, eqF, eqM, eqNone, addN, mulN, subN, m1N, ↓to_bnd, bnd_some, ↓to_nmT, nmT_eq, up2_r, up2_e, pk_us, pk_un, b2_t, b2_f, b2_0, b2_1, zB_1, zB_0, zB_b2, not_true_eq_false, not_false_eq_true, r_Mo, Nat.add_zero, Nat.add_sub_cancel, within_R, within_N, in_R, in_N, inN_yes, inR_yes, inR_pred, orNone_nn, nn_m, nn_N, f_Ct_isDay, f_Ct_isThing, f_Ct_isKind, f_Ct_isRoomSeat, f_Ct_isOffice, f_Ct_isTable, f_Ct_isPaper, f_Ct_isRule, f_Ct_isDecision, f_Mo_isOffice, f_Mo_isTable, f_Mo_isPaper, f_Mo_isRule, f_Mo_isDecision, f_Mo_isDay, f_Mo_isThing, f_Mo_paperOf, f_Mo_set, z1]
theorem k_over {B : Nat → Nat} {L k c : Nat} {m : Mm} (hK : MTk B L k m) (e32 : m 298 32 = nI c) (hc : c < 1000) (u : Nat) (hu : u < 2) : f_Mo_isOver m 298 (nI u) = some (b2 (decide (c = 0 ∧ (tkT B L k = 0 ∨ (u = 0 ∧ tkT B L k = 7))))) := by
  have kw := k_word hK (w := 7) (by omega) w_unless
  have e16 := hK.2.2.2.1
  have le := tkT_le B L k
  by_cases c0 : c = 0
  · by_cases c1 : tkT B L k = 0
    · rw [decide_eq_true ⟨c0, Or.inl c1⟩]
      rw [c1, show mtk 0 = 0 from rfl] at e16
      simp -dsimp -implicitDefEqProofs (disch := omega) only [f_Mo_isOver_32, f_Mo_isOver_27, f_Mo_isOver_31, f_Mo_isOver, ↓l_m1, l_0, l_1, l_2, l_3, l_4, l_5, l_6, l_7, l_8, l_9, l_10, l_11, l_12, l_13, l_14, l_15, l_16, l_17, l_20, l_21, l_22, l_23, l_24, l_28, l_29, l_30, l_31, l_32, l_40, l_41, l_48, l_57, l_60, l_62, l_63, l_84, l_96, l_97, l_99, l_100, l_122, l_132, l_144, l_150, l_186, l_255, l_256, l_288, l_300, l_522, l_634, l_999, l_5242, l_5410, l_5420, l_5520, l_5528, l_9999, l_65535, l_65536, l_100000, l_16777215, l_252645135, l_858993459, l_1431655765, ↓reduceIte, Nat.reduceAdd, Nat.reduceMul, Nat.reduceSub, ixN, inbN, leT, leF, ltT, ltF, eqT, eqF, eqM, eqNone, addN, mulN, subN, m1N, ↓to_bnd, bnd_some, ↓to_nmT, nmT_eq, up2_r, up2_e, pk_us, pk_un, b2_t, b2_f, b2_0, b2_1, zB_1, zB_0, zB_b2, not_true_eq_false, not_false_eq_true, r_Mo, Nat.add_zero, Nat.add_sub_cancel, within_R, within_N, in_R, in_N, inN_yes, inR_yes, inR_pred, orNone_nn, nn_m, nn_N, f_Ct_isDay, f_Ct_isThing, f_Ct_isKind, f_Ct_isRoomSeat, f_Ct_isOffice, f_Ct_isTable, f_Ct_isPaper, f_Ct_isRule, f_Ct_isDecision, f_Mo_isOffice, f_Mo_isTable, f_Mo_isPaper, f_Mo_isRule, f_Mo_isDecision, f_Mo_isDay, f_Mo_isThing, f_Mo_paperOf, f_Mo_set, e32, e16]
    · have n1 : mtk (tkT B L k) ≠ 0 ∧ mtk (tkT B L k) < 100 := by unfold mtk; (repeat' split) <;> omega
      by_cases c2 : u = 0
      · by_cases c3 : tkT B L k = 7
        · rw [decide_eq_true ⟨c0, Or.inr ⟨c2, c3⟩⟩]
          rw [decide_eq_true c3] at kw
          simp -dsimp -implicitDefEqProofs (disch := omega) only [f_Mo_isOver_32, f_Mo_isOver_27, f_Mo_isOver_31, f_Mo_isOver, ↓l_m1, l_0, l_1, l_2, l_3, l_4, l_5, l_6, l_7, l_8, l_9, l_10, l_11, l_12, l_13, l_14, l_15, l_16, l_17, l_20, l_21, l_22, l_23, l_24, l_28, l_29, l_30, l_31, l_32, l_40, l_41, l_48, l_57, l_60, l_62, l_63, l_84, l_96, l_97, l_99, l_100, l_122, l_132, l_144, l_150, l_186, l_255, l_256, l_288, l_300, l_522, l_634, l_999, l_5242, l_5410, l_5420, l_5520, l_5528, l_9999, l_65535, l_65536, l_100000, l_16777215, l_252645135, l_858993459, l_1431655765, ↓reduceIte, Nat.reduceAdd, Nat.reduceMul, Nat.reduceSub, ixN, inbN, leT, leF, ltT, ltF, eqT, eqF, eqM, eqNone, addN, mulN, subN, m1N, ↓to_bnd, bnd_some, ↓to_nmT, nmT_eq, up2_r, up2_e, pk_us, pk_un, b2_t, b2_f, b2_0, b2_1, zB_1, zB_0, zB_b2, not_true_eq_false, not_false_eq_true, r_Mo, Nat.add_zero, Nat.add_sub_cancel, within_R, within_N, in_R, in_N, inN_yes, inR_yes, inR_pred, orNone_nn, nn_m, nn_N, f_Ct_isDay, f_Ct_isThing, f_Ct_isKind, f_Ct_isRoomSeat, f_Ct_isOffice, f_Ct_isTable, f_Ct_isPaper, f_Ct_isRule, f_Ct_isDecision, f_Mo_isOffice, f_Mo_isTable, f_Mo_isPaper, f_Mo_isRule, f_Mo_isDecision, f_Mo_isDay, f_Mo_isThing, f_Mo_paperOf, f_Mo_set, e32, e16, kw]
        · rw [decide_eq_false (fun z => by omega)]
          rw [decide_eq_false c3] at kw
          simp -dsimp -implicitDefEqProofs (disch := omega) only [f_Mo_isOver_32, f_Mo_isOver_27, f_Mo_isOver_31, f_Mo_isOver, ↓l_m1, l_0, l_1, l_2, l_3, l_4, l_5, l_6, l_7, l_8, l_9, l_10, l_11, l_12, l_13, l_14, l_15, l_16, l_17, l_20, l_21, l_22, l_23, l_24, l_28, l_29, l_30, l_31, l_32, l_40, l_41, l_48, l_57, l_60, l_62, l_63, l_84, l_96, l_97, l_99, l_100, l_122, l_132, l_144, l_150, l_186, l_255, l_256, l_288, l_300, l_522, l_634, l_999, l_5242, l_5410, l_5420, l_5520, l_5528, l_9999, l_65535, l_65536, l_100000, l_16777215, l_252645135, l_858993459, l_1431655765, ↓reduceIte, Nat.reduceAdd, Nat.reduceMul, Nat.reduceSub, ixN, inbN, leT, leF, ltT, ltF, eqT, eqF, eqM, eqNone, addN, mulN, subN, m1N, ↓to_bnd, bnd_some, ↓to_nmT, nmT_eq, up2_r, up2_e, pk_us, pk_un, b2_t, b2_f, b2_0, b2_1, zB_1, zB_0, zB_b2, not_true_eq_false, not_false_eq_true, r_Mo, Nat.add_zero, Nat.add_sub_cancel, within_R, within_N, in_R, in_N, inN_yes, inR_yes, inR_pred, orNone_nn, nn_m, nn_N, f_Ct_isDay, f_Ct_isThing, f_Ct_isKind, f_Ct_isRoomSeat, f_Ct_isOffice, f_Ct_isTable, f_Ct_isPaper, f_Ct_isRule, f_Ct_isDecision, f_Mo_isOffice, f_Mo_isTable, f_Mo_isPaper, f_Mo_isRule, f_Mo_isDecision, f_Mo_isDay, f_Mo_isThing, f_Mo_paperOf, f_Mo_set, e32, e16, kw]
      · rw [decide_eq_false (fun z => by omega)]
        simp -dsimp -implicitDefEqProofs (disch := omega) only [f_Mo_isOver_32, f_Mo_isOver_27, f_Mo_isOver_31, f_Mo_isOver, ↓l_m1, l_0, l_1, l_2, l_3, l_4, l_5, l_6, l_7, l_8, l_9, l_10, l_11, l_12, l_13, l_14, l_15, l_16, l_17, l_20, l_21, l_22, l_23, l_24, l_28, l_29, l_30, l_31, l_32, l_40, l_41, l_48, l_57, l_60, l_62, l_63, l_84, l_96, l_97, l_99, l_100, l_122, l_132, l_144, l_150, l_186, l_255, l_256, l_288, l_300, l_522, l_634, l_999, l_5242, l_5410, l_5420, l_5520, l_5528, l_9999, l_65535, l_65536, l_100000, l_16777215, l_252645135, l_858993459, l_1431655765, ↓reduceIte, Nat.reduceAdd, Nat.reduceMul, Nat.reduceSub, ixN, inbN, leT, leF, ltT, ltF, eqT, eqF, eqM, eqNone, addN, mulN, subN, m1N, ↓to_bnd, bnd_some, ↓to_nmT, nmT_eq, up2_r, up2_e, pk_us, pk_un, b2_t, b2_f, b2_0, b2_1, zB_1, zB_0, zB_b2, not_true_eq_false, not_false_eq_true, r_Mo, Nat.add_zero, Nat.add_sub_cancel, within_R, within_N, in_R, in_N, inN_yes, inR_yes, inR_pred, orNone_nn, nn_m, nn_N, f_Ct_isDay, f_Ct_isThing, f_Ct_isKind, f_Ct_isRoomSeat, f_Ct_isOffice, f_Ct_isTable, f_Ct_isPaper, f_Ct_isRule, f_Ct_isDecision, f_Mo_isOffice, f_Mo_isTable, f_Mo_isPaper, f_Mo_isRule, f_Mo_isDecision, f_Mo_isDay, f_Mo_isThing, f_Mo_paperOf, f_Mo_set, e32, e16]
  · rw [decide_eq_false (fun z => c0 z.1)]
    simp -dsimp -implicitDefEqProofs (disch := omega) only [f_Mo_isOver_32, f_Mo_isOver_27, f_Mo_isOver_31, f_Mo_isOver, ↓l_m1, l_0, l_1, l_2, l_3, l_4, l_5, l_6, l_7, l_8, l_9, l_10, l_11, l_12, l_13, l_14, l_15, l_16, l_17, l_20, l_21, l_22, l_23, l_24, l_28, l_29, l_30, l_31, l_32, l_40, l_41, l_48, l_57, l_60, l_62, l_63, l_84, l_96, l_97, l_99, l_100, l_122, l_132, l_144, l_150, l_186, l_255, l_256, l_288, l_300, l_522, l_634, l_999, l_5242, l_5410, l_5420, l_5520, l_5528, l_9999, l_65535, l_65536, l_100000, l_16777215, l_252645135, l_858993459, l_1431655765, ↓reduceIte, Nat.reduceAdd, Nat.reduceMul, Nat.reduceSub, ixN, inbN, leT, leF, ltT, ltF, eqT, eqF, eqM, eqNone, addN, mulN, subN, m1N, ↓to_bnd, bnd_some, ↓to_nmT, nmT_eq, up2_r, up2_e, pk_us, pk_un, b2_t, b2_f, b2_0, b2_1, zB_1, zB_0, zB_b2, not_true_eq_false, not_false_eq_true, r_Mo, Nat.add_zero, Nat.add_sub_cancel, within_R, within_N, in_R, in_N, inN_yes, inR_yes, inR_pred, orNone_nn, nn_m, nn_N, f_Ct_isDay, f_Ct_isThing, f_Ct_isKind, f_Ct_isRoomSeat, f_Ct_isOffice, f_Ct_isTable, f_Ct_isPaper, f_Ct_isRule, f_Ct_isDecision, f_Mo_isOffice, f_Mo_isTable, f_Mo_isPaper, f_Mo_isRule, f_Mo_isDecision, f_Mo_isDay, f_Mo_isThing, f_Mo_paperOf, f_Mo_set, e32]
theorem cn_le (v : Nat) : ∀ S, cnS v S ≤ S.length
  | [] => Nat.le_refl _
  | x :: t => by
    have := cn_le v t
    rw [cnS, List.length_cons]; split <;> omega
theorem cn_app (v : Nat) (S : List Nat) : ∀ T, cnS v (T ++ S) = cnS v T + cnS v S
  | [] => by rw [List.nil_append, cnS, Nat.zero_add]
  | x :: t => by rw [List.cons_append, cnS, cnS, cn_app v S t]; omega
theorem cn_no (v : Nat) : ∀ T, (∀ x, x ∈ T → x ≠ v) → cnS v T = 0
  | [], _ => rfl
  | x :: t, h => by rw [cnS, if_neg (h x (List.mem_cons_self ..)), cn_no v t (fun y hy => h y (List.mem_cons_of_mem _ hy))]
/-- behind an operand: and, or -/
theorem t_op {B : Nat → Nat} {L k u : Nat} {q : MPu} {S T : List Nat} {out : List Op3} (hQ : MQu B L q) (hu : u < 2) (ors : Bool) (hT : tkT B L k = if ors = true then 8 else 9) (hTs : ∀ x, x ∈ T → x = 8 ∨ (ors = true ∧ x = 9)) (hS : ∀ h t, S = h :: t → h ≠ 8 ∧ (ors = true → h ≠ 9)) : RMu B L q (nI u) k 0 (T ++ S) out (k + 1) 1 ((if ors = true then 9 else 8) :: S) (emT T out) := by
  intro m h
  have hL := hQ.1.1
  have pl := (tkP_le B L k).2
  have hM := h
  obtain ⟨hF, hK, e24, hC, e31, hSt, e32, e33, e27, e28, hb1, hb2⟩ := h
  have tl : T.length < 10000 := by rw [List.length_append] at hb2; omega
  have le := cn_le 17 (T ++ S)
  have ko := k_over hK e32 (by omega) u hu
  have h89 : 8 ≤ tkT B L k ∧ tkT B L k ≤ 9 := by rw [hT]; split <;> omega
  rw [decide_eq_false (fun z => by omega)] at ko
  have kw1 := k_word hK (w := 8) (by omega) w_and
  have kw2 := k_word hK (w := 9) (by omega) w_or
  have pw := tkP_w (B := B) (L := L) (k := k) (by omega) (by omega)
  obtain ⟨m1, z1, z2⟩ := x_all hQ ors hS T out m NN hTs hM (NN_lt tl)
  have z1' : f_Mo_doAll 298 (b2 ors) m = some m1 := by unfold f_Mo_doAll; exact z1
  have z3 := MSu_em (fun x hx => by have := hTs x hx; omega) z2
  have hM1 := z3
  obtain ⟨hF, hK1, e24, hC, e31, hSt, e32, e33, e27, e28, hb1, hb2⟩ := z3
  have e17 := hK.2.2.2.2 (by omega) (by omega)
  have e17b := hK1.2.2.2.2 (by omega) (by omega)
  obtain ⟨x, hx⟩ : ∃ x, x = if ors = true then 9 else 8 := ⟨_, rfl⟩
  rw [← hx]
  have x89 : 8 ≤ x ∧ x ≤ 9 := by rw [hx]; split <;> omega
  have ex : mvl (tkT B L k) (tkV B L k) = x := by rw [hT, hx]; cases ors <;> rfl
  rw [ex] at e17 e17b
  obtain ⟨m2, y1, y2⟩ := x_push (x := x) (m1 := up2 (up2 m1 309 S.length (nI x)) 298 31 (nI (S.length + 1))) hQ hM1 (by omega) (by rw [opSu, if_neg (by omega)]; omega) (by omega) (fun a h1 h2 => by simp -dsimp -implicitDefEqProofs (disch := omega) only [up2_r]) (fun i h1 h2 h3 => by simp -dsimp -implicitDefEqProofs (disch := omega) only [up2_e, up2_r, pk_un]) (by simp -dsimp -implicitDefEqProofs (disch := omega) only [up2_e, up2_r, pk_us]) (fun i hi => by simp -dsimp -implicitDefEqProofs (disch := omega) only [up2_e, up2_r, pk_un]) (by simp -dsimp -implicitDefEqProofs (disch := omega) only [up2_e, pk_un, pk_us]) (by rw [cnS, if_neg (by omega)]; simp -dsimp -implicitDefEqProofs (disch := omega) only [up2_e, up2_r, pk_un, e32, Nat.add_zero]) (by rw [cnS, if_neg (by omega)]; simp -dsimp -implicitDefEqProofs (disch := omega) only [up2_e, up2_r, pk_un, e33, Nat.add_zero])
  refine ⟨1, m2, by omega, y2, fun f => ?_⟩
  rw [f_Mo_takesE_37]
  cases ors
  · have hx8 : x = 8 := hx
    have hT9 : tkT B L k = 9 := hT
    subst hx8
    rw [decide_eq_true hT9] at kw1
    rw [b2_f] at z1'
    simp -dsimp -implicitDefEqProofs (disch := omega) only [f_Mo_takesE_49, f_Mo_takesE_171, f_Mo_takesE_186, f_Mo_await, ↓l_m1, l_0, l_1, l_2, l_3, l_4, l_5, l_6, l_7, l_8, l_9, l_10, l_11, l_12, l_13, l_14, l_15, l_16, l_17, l_20, l_21, l_22, l_23, l_24, l_28, l_29, l_30, l_31, l_32, l_40, l_41, l_48, l_57, l_60, l_62, l_63, l_84, l_96, l_97, l_99, l_100, l_122, l_132, l_144, l_150, l_186, l_255, l_256, l_288, l_300, l_522, l_634, l_999, l_5242, l_5410, l_5420, l_5520, l_5528, l_9999, l_65535, l_65536, l_100000, l_16777215, l_252645135, l_858993459, l_1431655765, ↓reduceIte, Nat.reduceAdd, Nat.reduceMul, Nat.reduceSub, ixN, inbN, leT, leF, ltT, ltF, eqT, eqF, eqM, eqNone, addN, mulN, subN, m1N, ↓to_bnd, bnd_some, ↓to_nmT, nmT_eq, up2_r, up2_e, pk_us, pk_un, b2_t, b2_f, b2_0, b2_1, zB_1, zB_0, zB_b2, not_true_eq_false, not_false_eq_true, r_Mo, Nat.add_zero, Nat.add_sub_cancel, within_R, within_N, in_R, in_N, inN_yes, inR_yes, inR_pred, orNone_nn, nn_m, nn_N, f_Ct_isDay, f_Ct_isThing, f_Ct_isKind, f_Ct_isRoomSeat, f_Ct_isOffice, f_Ct_isTable, f_Ct_isPaper, f_Ct_isRule, f_Ct_isDecision, f_Mo_isOffice, f_Mo_isTable, f_Mo_isPaper, f_Mo_isRule, f_Mo_isDecision, f_Mo_isDay, f_Mo_isThing, f_Mo_paperOf, f_Mo_set, rc_1, rc_2, rc_3, rc_4, rc_5, rc_6, rc_7, rm_1, rm_2, rm_4, rm_5, rm_6, rm_9, rm_11, rm_12, rm_22, rm_30, rm_34, rm_35, rm_36, rm_37, rm_38, rm_39, rm_40, rm_41, rm_42, rm_43, rm_45, rm_46, rt_0, rt_1, rt_2, rt_3, rt_4, rt_s, rw_0, rw_1, rg_a, rg_v, rs_a, rs_p, rs_r, rs_v, ko, kw1, e17, e17b, z1', e31, y1]
  · have hx8 : x = 9 := hx
    have hT9 : tkT B L k = 8 := hT
    subst hx8
    rw [decide_eq_false (by omega)] at kw1
    rw [decide_eq_true hT9] at kw2
    rw [b2_t] at z1'
    simp -dsimp -implicitDefEqProofs (disch := omega) only [f_Mo_takesE_49, f_Mo_takesE_171, f_Mo_takesE_186, f_Mo_await, ↓l_m1, l_0, l_1, l_2, l_3, l_4, l_5, l_6, l_7, l_8, l_9, l_10, l_11, l_12, l_13, l_14, l_15, l_16, l_17, l_20, l_21, l_22, l_23, l_24, l_28, l_29, l_30, l_31, l_32, l_40, l_41, l_48, l_57, l_60, l_62, l_63, l_84, l_96, l_97, l_99, l_100, l_122, l_132, l_144, l_150, l_186, l_255, l_256, l_288, l_300, l_522, l_634, l_999, l_5242, l_5410, l_5420, l_5520, l_5528, l_9999, l_65535, l_65536, l_100000, l_16777215, l_252645135, l_858993459, l_1431655765, ↓reduceIte, Nat.reduceAdd, Nat.reduceMul, Nat.reduceSub, ixN, inbN, leT, leF, ltT, ltF, eqT, eqF, eqM, eqNone, addN, mulN, subN, m1N, ↓to_bnd, bnd_some, ↓to_nmT, nmT_eq, up2_r, up2_e, pk_us, pk_un, b2_t, b2_f, b2_0, b2_1, zB_1, zB_0, zB_b2, not_true_eq_false, not_false_eq_true, r_Mo, Nat.add_zero, Nat.add_sub_cancel, within_R, within_N, in_R, in_N, inN_yes, inR_yes, inR_pred, orNone_nn, nn_m, nn_N, f_Ct_isDay, f_Ct_isThing, f_Ct_isKind, f_Ct_isRoomSeat, f_Ct_isOffice, f_Ct_isTable, f_Ct_isPaper, f_Ct_isRule, f_Ct_isDecision, f_Mo_isOffice, f_Mo_isTable, f_Mo_isPaper, f_Mo_isRule, f_Mo_isDecision, f_Mo_isDay, f_Mo_isThing, f_Mo_paperOf, f_Mo_set, rc_1, rc_2, rc_3, rc_4, rc_5, rc_6, rc_7, rm_1, rm_2, rm_4, rm_5, rm_6, rm_9, rm_11, rm_12, rm_22, rm_30, rm_34, rm_35, rm_36, rm_37, rm_38, rm_39, rm_40, rm_41, rm_42, rm_43, rm_45, rm_46, rt_0, rt_1, rt_2, rt_3, rt_4, rt_s, rw_0, rw_1, rg_a, rg_v, rs_a, rs_p, rs_r, rs_v, ko, kw1, kw2, e17, e17b, z1', e31, y1]
theorem t_close {B : Nat → Nat} {L k u n : Nat} {q : MPu} {S0 T : List Nat} {out : List Op3} (hQ : MQu B L q) (hu : u < 2) (hT : tkT B L k = 3) (hTs : ∀ x, x ∈ T → x = 8 ∨ x = 9) (hS0 : ∀ h t, S0 = h :: t → h ≠ 10) : RMu B L q (nI u) k 0 (T ++ 17 :: (List.replicate n 10 ++ S0)) out (k + 1) 0 S0 (emT (List.replicate n 10) (emT T out)) := by
  intro m h
  have hL := hQ.1.1
  have pl := (tkP_le B L k).2
  have hM := h
  obtain ⟨hF, hK, e24, hC, e31, hSt, e32, e33, e27, e28, hb1, hb2⟩ := h
  have tl : T.length < 10000 ∧ n < 10000 := by rw [List.length_append, List.length_cons, List.length_append, List.length_replicate] at hb2; omega
  have le := cn_le 17 (T ++ 17 :: (List.replicate n 10 ++ S0))
  obtain ⟨c, hc⟩ : ∃ c, c = cnS 17 (T ++ 17 :: (List.replicate n 10 ++ S0)) := ⟨_, rfl⟩
  have ca : c = cnS 17 (List.replicate n 10 ++ S0) + 1 := by
    rw [hc, cn_app, cn_no 17 T (fun x hx => by have := hTs x hx; omega), cnS, if_pos rfl]; omega
  rw [← hc] at e32 le
  have ko := k_over hK e32 (by omega) u hu
  rw [decide_eq_false (fun z => by omega)] at ko
  have kw1 := k_word hK (w := 8) (by omega) w_and
  have kw2 := k_word hK (w := 9) (by omega) w_or
  have ks := k_sign hK (w := 41) (by omega) s_cl
  rw [decide_eq_false (by omega)] at kw1 kw2
  rw [decide_eq_true hT] at ks
  obtain ⟨m1, z1, z2⟩ := x_all hQ true (S0 := 17 :: (List.replicate n 10 ++ S0)) (fun h t e => by have := (List.cons.inj e).1; omega) T out m NN (fun x hx => by have := hTs x hx; exact this.imp id (fun z => ⟨rfl, z⟩)) hM (NN_lt tl.1)
  have z1' : f_Mo_doAll 298 (nI 1) m = some m1 := by unfold f_Mo_doAll; exact z1
  have z3 := MSu_em (fun x hx => by have := hTs x hx; omega) z2
  have f31 := z3.2.2.2.2.1
  have f32 := z3.2.2.2.2.2.2.1
  have f33 := z3.2.2.2.2.2.2.2.1
  rw [cnS, if_pos rfl] at f32
  rw [cnS, if_neg (by decide), Nat.add_zero] at f33
  rw [List.length_cons] at f31
  have h2 := x_pop (m' := up2 (up2 m1 298 31 (nI (List.replicate n 10 ++ S0).length)) 298 32 (nI (cnS 17 (List.replicate n 10 ++ S0)))) z3 (fun a ha => by simp -dsimp -implicitDefEqProofs (disch := omega) only [up2_r]) (fun i h1 h2 h3 => by simp -dsimp -implicitDefEqProofs (disch := omega) only [up2_e, pk_un]) (by simp -dsimp -implicitDefEqProofs (disch := omega) only [up2_e, pk_un, pk_us]) (by simp -dsimp -implicitDefEqProofs (disch := omega) only [up2_e, pk_us]) (by simp -dsimp -implicitDefEqProofs (disch := omega) only [up2_e, pk_un, f33])
  obtain ⟨m2, y1, y2⟩ := x_nots hQ hS0 n (emT T out) _ NN h2 (NN_lt tl.2)
  have y1' : f_Mo_endNots 298 (up2 (up2 m1 298 31 (nI (List.replicate n 10 ++ S0).length)) 298 32 (nI (cnS 17 (List.replicate n 10 ++ S0)))) = some m2 := by unfold f_Mo_endNots; exact y1
  have y3 := MSu_em (fun x hx => rep_lt hx) y2
  obtain ⟨m3, x1, x2, x3⟩ := x_go (m1 := m2) hQ y3 (fun _ _ => rfl) (fun _ _ => rfl)
  refine ⟨1, m3, by omega, x3, fun f => ?_⟩
  rw [f_Mo_takesE_37]
  simp -dsimp -implicitDefEqProofs (disch := omega) only [f_Mo_takesE_49, ↓l_m1, l_0, l_1, l_2, l_3, l_4, l_5, l_6, l_7, l_8, l_9, l_10, l_11, l_12, l_13, l_14, l_15, l_16, l_17, l_20, l_21, l_22, l_23, l_24, l_28, l_29, l_30, l_31, l_32, l_40, l_41, l_48, l_57, l_60, l_62, l_63, l_84, l_96, l_97, l_99, l_100, l_122, l_132, l_144, l_150, l_186, l_255, l_256, l_288, l_300, l_522, l_634, l_999, l_5242, l_5410, l_5420, l_5520, l_5528, l_9999, l_65535, l_65536, l_100000, l_16777215, l_252645135, l_858993459, l_1431655765, ↓reduceIte, Nat.reduceAdd, Nat.reduceMul, Nat.reduceSub, ixN, inbN, leT, leF, ltT, ltF, eqT, eqF, eqM, eqNone, addN, mulN, subN, m1N, ↓to_bnd, bnd_some, ↓to_nmT, nmT_eq, up2_r, up2_e, pk_us, pk_un, b2_t, b2_f, b2_0, b2_1, zB_1, zB_0, zB_b2, not_true_eq_false, not_false_eq_true, r_Mo, Nat.add_zero, Nat.add_sub_cancel, within_R, within_N, in_R, in_N, inN_yes, inR_yes, inR_pred, orNone_nn, nn_m, nn_N, f_Ct_isDay, f_Ct_isThing, f_Ct_isKind, f_Ct_isRoomSeat, f_Ct_isOffice, f_Ct_isTable, f_Ct_isPaper, f_Ct_isRule, f_Ct_isDecision, f_Mo_isOffice, f_Mo_isTable, f_Mo_isPaper, f_Mo_isRule, f_Mo_isDecision, f_Mo_isDay, f_Mo_isThing, f_Mo_paperOf, f_Mo_set, rc_1, rc_2, rc_3, rc_4, rc_5, rc_6, rc_7, rm_1, rm_2, rm_4, rm_5, rm_6, rm_9, rm_11, rm_12, rm_22, rm_30, rm_34, rm_35, rm_36, rm_37, rm_38, rm_39, rm_40, rm_41, rm_42, rm_43, rm_45, rm_46, rt_0, rt_1, rt_2, rt_3, rt_4, rt_s, rw_0, rw_1, rg_a, rg_v, rs_a, rs_p, rs_r, rs_v, ko, kw1, kw2, ks, e32, z1', f31, f32, y1', x1]
theorem t_fail {B : Nat → Nat} {L k u : Nat} {q : MPu} {S : List Nat} {out : List Op3} (hQ : MQu B L q) (hu : u < 2) (h8 : tkT B L k ≠ 8) (h9 : tkT B L k ≠ 9) (h3 : ¬ (tkT B L k = 3 ∧ 0 < cnS 17 S)) (ho : ¬ (cnS 17 S = 0 ∧ (tkT B L k = 0 ∨ (u = 0 ∧ tkT B L k = 7)))) : FMu B L q (nI u) k 0 S out k := by
  intro m h
  have hL := hQ.1.1
  have pl := (tkP_le B L k).2
  have hM := h
  obtain ⟨hF, hK, e24, hC, e31, hSt, e32, e33, e27, e28, hb1, hb2⟩ := h
  have le := cn_le 17 S
  have ko := k_over hK e32 (by omega) u hu
  rw [decide_eq_false ho] at ko
  have kw1 := k_word hK (w := 8) (by omega) w_and
  have kw2 := k_word hK (w := 9) (by omega) w_or
  have ks := k_sign hK (w := 41) (by omega) s_cl
  rw [decide_eq_false h9] at kw1
  rw [decide_eq_false h8] at kw2
  refine ⟨1, m, by omega, FL_of hM, fun f => ?_⟩
  rw [f_Mo_takesE_37]
  by_cases c : tkT B L k = 3
  · rw [decide_eq_true c] at ks
    have c0 : cnS 17 S = 0 := by omega
    rw [c0] at e32
    simp -dsimp -implicitDefEqProofs (disch := omega) only [f_Mo_takesE_49, f_Mo_takesE_258, ↓l_m1, l_0, l_1, l_2, l_3, l_4, l_5, l_6, l_7, l_8, l_9, l_10, l_11, l_12, l_13, l_14, l_15, l_16, l_17, l_20, l_21, l_22, l_23, l_24, l_28, l_29, l_30, l_31, l_32, l_40, l_41, l_48, l_57, l_60, l_62, l_63, l_84, l_96, l_97, l_99, l_100, l_122, l_132, l_144, l_150, l_186, l_255, l_256, l_288, l_300, l_522, l_634, l_999, l_5242, l_5410, l_5420, l_5520, l_5528, l_9999, l_65535, l_65536, l_100000, l_16777215, l_252645135, l_858993459, l_1431655765, ↓reduceIte, Nat.reduceAdd, Nat.reduceMul, Nat.reduceSub, ixN, inbN, leT, leF, ltT, ltF, eqT, eqF, eqM, eqNone, addN, mulN, subN, m1N, ↓to_bnd, bnd_some, ↓to_nmT, nmT_eq, up2_r, up2_e, pk_us, pk_un, b2_t, b2_f, b2_0, b2_1, zB_1, zB_0, zB_b2, not_true_eq_false, not_false_eq_true, r_Mo, Nat.add_zero, Nat.add_sub_cancel, within_R, within_N, in_R, in_N, inN_yes, inR_yes, inR_pred, orNone_nn, nn_m, nn_N, f_Ct_isDay, f_Ct_isThing, f_Ct_isKind, f_Ct_isRoomSeat, f_Ct_isOffice, f_Ct_isTable, f_Ct_isPaper, f_Ct_isRule, f_Ct_isDecision, f_Mo_isOffice, f_Mo_isTable, f_Mo_isPaper, f_Mo_isRule, f_Mo_isDecision, f_Mo_isDay, f_Mo_isThing, f_Mo_paperOf, f_Mo_set, ko, kw1, kw2, ks, e32]
  · rw [decide_eq_false c] at ks
    simp -dsimp -implicitDefEqProofs (disch := omega) only [f_Mo_takesE_49, f_Mo_takesE_258, ↓l_m1, l_0, l_1, l_2, l_3, l_4, l_5, l_6, l_7, l_8, l_9, l_10, l_11, l_12, l_13, l_14, l_15, l_16, l_17, l_20, l_21, l_22, l_23, l_24, l_28, l_29, l_30, l_31, l_32, l_40, l_41, l_48, l_57, l_60, l_62, l_63, l_84, l_96, l_97, l_99, l_100, l_122, l_132, l_144, l_150, l_186, l_255, l_256, l_288, l_300, l_522, l_634, l_999, l_5242, l_5410, l_5420, l_5520, l_5528, l_9999, l_65535, l_65536, l_100000, l_16777215, l_252645135, l_858993459, l_1431655765, ↓reduceIte, Nat.reduceAdd, Nat.reduceMul, Nat.reduceSub, ixN, inbN, leT, leF, ltT, ltF, eqT, eqF, eqM, eqNone, addN, mulN, subN, m1N, ↓to_bnd, bnd_some, ↓to_nmT, nmT_eq, up2_r, up2_e, pk_us, pk_un, b2_t, b2_f, b2_0, b2_1, zB_1, zB_0, zB_b2, not_true_eq_false, not_false_eq_true, r_Mo, Nat.add_zero, Nat.add_sub_cancel, within_R, within_N, in_R, in_N, inN_yes, inR_yes, inR_pred, orNone_nn, nn_m, nn_N, f_Ct_isDay, f_Ct_isThing, f_Ct_isKind, f_Ct_isRoomSeat, f_Ct_isOffice, f_Ct_isTable, f_Ct_isPaper, f_Ct_isRule, f_Ct_isDecision, f_Mo_isOffice, f_Mo_isTable, f_Mo_isPaper, f_Mo_isRule, f_Mo_isDecision, f_Mo_isDay, f_Mo_isThing, f_Mo_paperOf, f_Mo_set, ko, kw1, kw2, ks]
theorem t_over {B : Nat → Nat} {L k u : Nat} {q : MPu} {T : List Nat} {out : List Op3} {m : Mm} (hQ : MQu B L q) (hu : u < 2) (hTs : ∀ x, x ∈ T → x = 8 ∨ x = 9) (ho : tkT B L k = 0 ∨ (u = 0 ∧ tkT B L k = 7)) (h : MSu B L q k T out m) : ∃ m', MSu B L q k [] (emT T out) m' ∧ ∀ f, f_Mo_takesE_37 (f + 1) 298 (nI u) (nI 0) m = some (nI 1, m') := by
  have hL := hQ.1.1
  have pl := (tkP_le B L k).2
  have hM := h
  obtain ⟨hF, hK, e24, hC, e31, hSt, e32, e33, e27, e28, hb1, hb2⟩ := h
  rw [cn_no 17 T (fun x hx => by have := hTs x hx; omega)] at e32
  have ko := k_over hK e32 (by omega) u hu
  rw [decide_eq_true ⟨rfl, ho⟩] at ko
  have hM2 : MXu B L q k (q.2.2.1 + atC out) (q.2.2.2.2 || bdC q.2.2.2.1 out) (T ++ []) out m := by rw [List.append_nil]; exact hM
  obtain ⟨m1, z1, z2⟩ := x_all hQ true (S0 := []) (fun h t e => by cases e) T out m NN (fun x hx => by have := hTs x hx; exact this.imp id (fun z => ⟨rfl, z⟩)) hM2 (NN_lt (by omega))
  have z1' : f_Mo_doAll 298 (nI 1) m = some m1 := by unfold f_Mo_doAll; exact z1
  refine ⟨m1, MSu_em (fun x hx => by have := hTs x hx; omega) z2, fun f => ?_⟩
  rw [f_Mo_takesE_37]
  simp -dsimp -implicitDefEqProofs (disch := omega) only [↓l_m1, l_0, l_1, l_2, l_3, l_4, l_5, l_6, l_7, l_8, l_9, l_10, l_11, l_12, l_13, l_14, l_15, l_16, l_17, l_20, l_21, l_22, l_23, l_24, l_28, l_29, l_30, l_31, l_32, l_40, l_41, l_48, l_57, l_60, l_62, l_63, l_84, l_96, l_97, l_99, l_100, l_122, l_132, l_144, l_150, l_186, l_255, l_256, l_288, l_300, l_522, l_634, l_999, l_5242, l_5410, l_5420, l_5520, l_5528, l_9999, l_65535, l_65536, l_100000, l_16777215, l_252645135, l_858993459, l_1431655765, ↓reduceIte, Nat.reduceAdd, Nat.reduceMul, Nat.reduceSub, ixN, inbN, leT, leF, ltT, ltF, eqT, eqF, eqM, eqNone, addN, mulN, subN, m1N, ↓to_bnd, bnd_some, ↓to_nmT, nmT_eq, up2_r, up2_e, pk_us, pk_un, b2_t, b2_f, b2_0, b2_1, zB_1, zB_0, zB_b2, not_true_eq_false, not_false_eq_true, r_Mo, Nat.add_zero, Nat.add_sub_cancel, within_R, within_N, in_R, in_N, inN_yes, inR_yes, inR_pred, orNone_nn, nn_m, nn_N, f_Ct_isDay, f_Ct_isThing, f_Ct_isKind, f_Ct_isRoomSeat, f_Ct_isOffice, f_Ct_isTable, f_Ct_isPaper, f_Ct_isRule, f_Ct_isDecision, f_Mo_isOffice, f_Mo_isTable, f_Mo_isPaper, f_Mo_isRule, f_Mo_isDecision, f_Mo_isDay, f_Mo_isThing, f_Mo_paperOf, f_Mo_set, ko, z1']
