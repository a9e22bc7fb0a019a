/-! a rule read by both -/
def reM (m : Mm) (b : Nat) : Mm := up2 (up2 (up2 (up2 (up2 m 298 23 (nI b)) 298 24 (nI 0)) 298 31 (nI 0)) 298 32 (nI 0)) 298 33 (nI 0)
theorem reM_a (m : Mm) (b : Nat) {a : Nat} (h : a ≠ 298) : reM m b a = m a := by unfold reM; simp -dsimp -implicitDefEqProofs (disch := omega) only [up2_r]
theorem reM_i (m : Mm) (b : Nat) {i : Nat} (h : i ≠ 23 ∧ i ≠ 24 ∧ i ≠ 31 ∧ i ≠ 32 ∧ i ≠ 33) : reM m b 298 i = m 298 i := by unfold reM; simp -dsimp -implicitDefEqProofs (disch := omega) only [up2_e, pk_un]
theorem reM_n (m : Mm) (b : Nat) : reM m b 298 23 = nI b ∧ reM m b 298 24 = nI 0 ∧ reM m b 298 31 = nI 0 ∧ reM m b 298 32 = nI 0 ∧ reM m b 298 33 = nI 0 := by
  unfold reM
  refine ⟨by simp -dsimp -implicitDefEqProofs (disch := omega) only [up2_e, pk_un, pk_us], by simp -dsimp -implicitDefEqProofs (disch := omega) only [up2_e, pk_un, pk_us], by simp -dsimp -implicitDefEqProofs (disch := omega) only [up2_e, pk_un, pk_us], by simp -dsimp -implicitDefEqProofs (disch := omega) only [up2_e, pk_un, pk_us], by simp -dsimp -implicitDefEqProofs (disch := omega) only [up2_e, pk_un, pk_us]⟩
theorem e_start {B : Nat → Nat} {L k u A nO : Nat} {bd : Bool} {m : Mm} (h : HMu B L k m) (hu : u < 2) (o2 : m 299 2 = nI nO) (o8 : nO ≤ 8) (e27 : m 298 27 = nI A) (e28 : m 298 28 = b2 bd) : f_Mo_takesE 298 (nI u) m = f_Mo_takesE_37 NN 298 (nI u) (nI 1) (reM m (144 * u)) ∧ MQu B L (reM m (144 * u), 144 * u, A, nO, bd) ∧ MSu B L (reM m (144 * u), 144 * u, A, nO, bd) k [] [] (reM m (144 * u)) := by
  obtain ⟨r1, r2, r3, r4, r5⟩ := reM_n m (144 * u)
  refine ⟨?_, ⟨TpM_i h.1 (fun a h1 _ _ => reM_a m _ h1) (reM_i m (144 * u) (i := 13) (by omega)), by show 144 * u = 0 ∨ 144 * u = 144; omega, r1, by show reM m (144 * u) 299 2 = nI nO; rw [reM_a m _ (by omega)]; exact o2, o8⟩, ⟨fun _ _ _ _ => rfl, fun _ _ => rfl, fun _ _ => rfl⟩, MTk_c h.2 (fun i h1 h2 => reM_i m _ (by omega)), r2, trivial, r3, trivial, r4, r5, by rw [reM_i m _ (by omega)]; exact e27, by rw [reM_i m _ (by omega), bdC, Bool.or_false]; exact e28, Nat.zero_le _, Nat.zero_le _⟩
  rcases (by omega : u = 0 ∨ u = 1) with rfl | rfl
  · unfold f_Mo_takesE f_Mo_takesE_12 nmM
    rw [l_0, if_pos rfl]
    rfl
  · unfold f_Mo_takesE f_Mo_takesE_12 nmM
    rw [l_0, if_neg (by rw [eqF (by omega) (by omega) (by omega)]; exact id)]
    rfl
def FrU (m m' : Mm) : Prop := (∀ a, a ≠ 298 → a ≠ 308 → a ≠ 309 → m' a = m a) ∧ ∀ i, i < 14 ∨ (19 ≤ i ∧ i ≤ 22) ∨ i = 25 ∨ i = 30 ∨ 33 < i → m' 298 i = m 298 i
theorem CS_7 {B : Nat → Nat} {L K k : Nat} {m0 m : Mm} {c : List Op3} (h : CS B L K m0 k c m) : m 256 7 = nI k := h.2.2.2.2.1
theorem both_U {B : Nat → Nat} {L K k : Nat} {m0 m : Mm} {c : List Op3} (hE : CTe B L K m0) (hL : L ≤ 96) (hC : CS B L K m0 k c m) : ∃ b kf d m', f_Tp_readRule_59 256 m = some (b2 b, m') ∧ FrC m m' ∧ kf ≤ K ∧ m' 256 7 = nI kf ∧ (∀ i, i < 4 → m' 261 i = m 261 i) ∧ (b = true → m' 261 5 = nI c.length ∧ m' 261 6 = nI (d ++ c).length ∧ m' 261 4 = nI (atC (d ++ c)) ∧ CodC (m' 262) (d ++ c) ∧ (d = [] ∨ okC d 0 1) ∧ 2 * (d ++ c).length ≤ 96) ∧ ∀ nO A bd mm, nO ≤ 8 → HMu B L k mm → mm 299 2 = nI nO → mm 298 27 = nI A → mm 298 28 = b2 bd → ∃ mm', f_Mo_takesRule_77 298 mm = some (b2 b, mm') ∧ FrU mm mm' ∧ (b = false → mm' 298 15 = nI (tkP B L kf)) ∧ (b = true → (∀ j, j < 144 → mm' 308 j = mm 308 j) ∧ mm' 298 26 = (if d.length = 0 then mm 298 26 else nI d.length) ∧ mm' 298 27 = nI (A + atC d) ∧ mm' 298 28 = b2 (bd || bdC nO d) ∧ CodM (mm' 308) 144 d) := by
  have e6 := hC.2.2.2.2.2.2.1
  have e8 := hC.2.2.2.2.2.1
  have kK := hC.2.2.2.1
  have hK := hE.1
  have le := tkT_le B L k
  obtain ⟨E1, C1⟩ := CS_re (i := 5) hE hC (nI c.length) (by omega) (by omega)
  obtain ⟨n1, hn1⟩ : ∃ n1, n1 = up2 m 261 5 (nI c.length) := ⟨_, rfl⟩
  rw [← hn1] at E1 C1
  have f1 : FrC m n1 := by rw [hn1]; exact FrC_u m 5 _
  have g8 : n1 256 8 = nI (tkT B L k) := C1.2.2.2.2.2.1
  have i4 : ∀ i, i < 4 → n1 261 i = m 261 i := fun i hi => by rw [hn1, up2_e, pk_un (by omega)]
  have i5 : n1 261 5 = nI c.length := by rw [hn1, up2_e, pk_us]
  have pl := tkP_le B L k
  by_cases c7 : tkT B L k = 7
  · obtain ⟨m1, a1, a2⟩ := c_adv E1 C1 (by omega)
    obtain ⟨b, k2, d, m2, r1, r2, r3, r4, r5⟩ := both_E E1 hL a2
    have h8 := r2.2.2.2.2.2.1
    have lt2 := tkT_le B L k2
    have pl2 := tkP_le B L k2
    have hb2 := r2.2.2.2.2.2.2.2.2.2
    have fr : FrC m m2 := FrC_tr f1 (CS_fr r2)
    have j4 : ∀ i, i < 4 → m2 261 i = m 261 i := fun i hi => by rw [r2.2.2.1 i (by omega) (by omega), i4 i hi]
    have j5 : m2 261 5 = nI c.length := by rw [r2.2.2.1 5 (by omega) (by omega)]; exact i5
    rw [c7] at g8 e8
    have mod : ∀ nO A bd mm, nO ≤ 8 → HMu B L k mm → mm 299 2 = nI nO → mm 298 27 = nI A → mm 298 28 = b2 bd → ∃ mg, f_Mo_go 298 mm = some mg ∧ FrL mm mg ∧ f_Mo_isWord mm 298 (nI 7) = some (nI 1) ∧ f_Mo_takesE 298 (nI 1) mg = f_Mo_takesE_37 NN 298 (nI 1) (nI 1) (reM mg 144) ∧ MQu B L (reM mg 144, 144, A, nO, bd) ∧ MSu B L (reM mg 144, 144, A, nO, bd) (k + 1) [] [] (reM mg 144) := fun nO A bd mm o8 hH o2 e27 e28 => by
      obtain ⟨mg, z1, z2, z3⟩ := h_go (m1 := mm) hH (fun _ _ => rfl) (fun _ _ _ => rfl)
      have kw := k_word hH.2 (w := 7) (by omega) w_unless
      rw [decide_eq_true c7] at kw
      obtain ⟨s1, s2, s3⟩ := e_start (u := 1) (A := A) (nO := nO) (bd := bd) z3 (by omega) (by rw [z2.1 299 (by omega)]; exact o2) o8 (by rw [z2.2 27 (by omega)]; exact e27) (by rw [z2.2 28 (by omega)]; exact e28)
      exact ⟨mg, z1, z2, kw, s1, s2, s3⟩
    have frq : ∀ (mm mg mx : Mm), FrL mm mg → (∀ a, a ≠ 298 → a ≠ 308 → a ≠ 309 → mx a = reM mg 144 a) → (∀ i, i < 14 ∨ (19 ≤ i ∧ i ≤ 23) ∨ i = 25 ∨ i = 26 ∨ i = 30 ∨ 33 < i → mx 298 i = reM mg 144 298 i) → FrU mm mx := fun mm mg mx z2 w1 w2 => ⟨fun a h1 h2 h3 => by rw [w1 a h1 h2 h3, reM_a mg _ h1, z2.1 a h1], fun i hi => by rw [w2 i (by omega), reM_i mg _ (by omega), z2.2 i (by omega)]⟩
    cases b
    · refine ⟨false, k2, d, m2, ?_, fr, r2.2.2.2.1, CS_7 r2, j4, fun q => (by cases q), fun nO A bd mm o8 hH o2 e27 e28 => ?_⟩
      · rw [b2_f] at r1
        simp -dsimp -implicitDefEqProofs (disch := omega) only [f_Tp_readRule_59, ↓l_m1, l_0, l_1, l_2, l_3, l_4, l_5, l_6, l_7, l_8, l_9, l_10, l_11, l_12, l_13, l_14, l_15, l_16, l_17, l_20, l_21, l_22, l_23, l_24, l_28, l_29, l_30, l_31, l_32, l_40, l_41, l_48, l_57, l_60, l_62, l_63, l_84, l_96, l_97, l_99, l_100, l_122, l_132, l_144, l_150, l_186, l_255, l_256, l_288, l_300, l_522, l_634, l_999, l_5242, l_5410, l_5420, l_5520, l_5528, l_9999, l_65535, l_65536, l_100000, l_16777215, l_252645135, l_858993459, l_1431655765, ↓reduceIte, Nat.reduceAdd, Nat.reduceMul, Nat.reduceSub, ixN, inbN, leT, leF, ltT, ltF, eqT, eqF, eqM, eqNone, addN, mulN, subN, m1N, ↓to_bnd, bnd_some, ↓to_nmT, nmT_eq, up2_r, up2_e, pk_us, pk_un, b2_t, b2_f, b2_0, b2_1, zB_1, zB_0, zB_b2, not_true_eq_false, not_false_eq_true, r_Mo, Nat.add_zero, Nat.add_sub_cancel, within_R, within_N, in_R, in_N, inN_yes, inR_yes, inR_pred, orNone_nn, nn_m, nn_N, f_Ct_isDay, f_Ct_isThing, f_Ct_isKind, f_Ct_isRoomSeat, f_Ct_isOffice, f_Ct_isTable, f_Ct_isPaper, f_Ct_isRule, f_Ct_isDecision, f_Mo_isOffice, f_Mo_isTable, f_Mo_isPaper, f_Mo_isRule, f_Mo_isDecision, f_Mo_isDay, f_Mo_isThing, f_Mo_paperOf, f_Mo_set, rt_4, e6]
        rw [← hn1]
        simp -dsimp -implicitDefEqProofs (disch := omega) only [↓l_m1, l_0, l_1, l_2, l_3, l_4, l_5, l_6, l_7, l_8, l_9, l_10, l_11, l_12, l_13, l_14, l_15, l_16, l_17, l_20, l_21, l_22, l_23, l_24, l_28, l_29, l_30, l_31, l_32, l_40, l_41, l_48, l_57, l_60, l_62, l_63, l_84, l_96, l_97, l_99, l_100, l_122, l_132, l_144, l_150, l_186, l_255, l_256, l_288, l_300, l_522, l_634, l_999, l_5242, l_5410, l_5420, l_5520, l_5528, l_9999, l_65535, l_65536, l_100000, l_16777215, l_252645135, l_858993459, l_1431655765, ↓reduceIte, Nat.reduceAdd, Nat.reduceMul, Nat.reduceSub, ixN, inbN, leT, leF, ltT, ltF, eqT, eqF, eqM, eqNone, addN, mulN, subN, m1N, ↓to_bnd, bnd_some, ↓to_nmT, nmT_eq, up2_r, up2_e, pk_us, pk_un, b2_t, b2_f, b2_0, b2_1, zB_1, zB_0, zB_b2, not_true_eq_false, not_false_eq_true, r_Mo, Nat.add_zero, Nat.add_sub_cancel, within_R, within_N, in_R, in_N, inN_yes, inR_yes, inR_pred, orNone_nn, nn_m, nn_N, f_Ct_isDay, f_Ct_isThing, f_Ct_isKind, f_Ct_isRoomSeat, f_Ct_isOffice, f_Ct_isTable, f_Ct_isPaper, f_Ct_isRule, f_Ct_isDecision, f_Mo_isOffice, f_Mo_isTable, f_Mo_isPaper, f_Mo_isRule, f_Mo_isDecision, f_Mo_isDay, f_Mo_isThing, f_Mo_paperOf, f_Mo_set, e8, g8, a1, r1]
      · obtain ⟨mg, z1, z2, kw, s1, s2, s3⟩ := mod nO A bd mm o8 hH o2 e27 e28
        obtain ⟨mx, x1, x2⟩ := r5 rfl _ 1 _ s2 (by omega) s3
        rw [← s1] at x1
        refine ⟨mx, ?_, frq mm mg mx z2 x2.1 x2.2.1, fun _ => x2.2.2, fun q => (by cases q)⟩
        simp -dsimp -implicitDefEqProofs (disch := omega) only [f_Mo_takesRule_77, ↓l_m1, l_0, l_1, l_2, l_3, l_4, l_5, l_6, l_7, l_8, l_9, l_10, l_11, l_12, l_13, l_14, l_15, l_16, l_17, l_20, l_21, l_22, l_23, l_24, l_28, l_29, l_30, l_31, l_32, l_40, l_41, l_48, l_57, l_60, l_62, l_63, l_84, l_96, l_97, l_99, l_100, l_122, l_132, l_144, l_150, l_186, l_255, l_256, l_288, l_300, l_522, l_634, l_999, l_5242, l_5410, l_5420, l_5520, l_5528, l_9999, l_65535, l_65536, l_100000, l_16777215, l_252645135, l_858993459, l_1431655765, ↓reduceIte, Nat.reduceAdd, Nat.reduceMul, Nat.reduceSub, ixN, inbN, leT, leF, ltT, ltF, eqT, eqF, eqM, eqNone, addN, mulN, subN, m1N, ↓to_bnd, bnd_some, ↓to_nmT, nmT_eq, up2_r, up2_e, pk_us, pk_un, b2_t, b2_f, b2_0, b2_1, zB_1, zB_0, zB_b2, not_true_eq_false, not_false_eq_true, r_Mo, Nat.add_zero, Nat.add_sub_cancel, within_R, within_N, in_R, in_N, inN_yes, inR_yes, inR_pred, orNone_nn, nn_m, nn_N, f_Ct_isDay, f_Ct_isThing, f_Ct_isKind, f_Ct_isRoomSeat, f_Ct_isOffice, f_Ct_isTable, f_Ct_isPaper, f_Ct_isRule, f_Ct_isDecision, f_Mo_isOffice, f_Mo_isTable, f_Mo_isPaper, f_Mo_isRule, f_Mo_isDecision, f_Mo_isDay, f_Mo_isThing, f_Mo_paperOf, f_Mo_set, kw, z1, x1]
    · obtain ⟨v1, v2, v3⟩ := r4 rfl
      rw [b2_t] at r1
      by_cases t0 : tkT B L k2 = 0
      · refine ⟨true, k2, d, m2, ?_, fr, r2.2.2.2.1, CS_7 r2, j4, fun _ => ⟨j5, r2.2.2.2.2.2.2.1, r2.2.2.2.2.2.2.2.1, r2.2.2.2.2.2.2.2.2.1, Or.inr v2, by omega⟩, fun nO A bd mm o8 hH o2 e27 e28 => ?_⟩
        · rw [t0] at h8
          simp -dsimp -implicitDefEqProofs (disch := omega) only [f_Tp_readRule_59, ↓l_m1, l_0, l_1, l_2, l_3, l_4, l_5, l_6, l_7, l_8, l_9, l_10, l_11, l_12, l_13, l_14, l_15, l_16, l_17, l_20, l_21, l_22, l_23, l_24, l_28, l_29, l_30, l_31, l_32, l_40, l_41, l_48, l_57, l_60, l_62, l_63, l_84, l_96, l_97, l_99, l_100, l_122, l_132, l_144, l_150, l_186, l_255, l_256, l_288, l_300, l_522, l_634, l_999, l_5242, l_5410, l_5420, l_5520, l_5528, l_9999, l_65535, l_65536, l_100000, l_16777215, l_252645135, l_858993459, l_1431655765, ↓reduceIte, Nat.reduceAdd, Nat.reduceMul, Nat.reduceSub, ixN, inbN, leT, leF, ltT, ltF, eqT, eqF, eqM, eqNone, addN, mulN, subN, m1N, ↓to_bnd, bnd_some, ↓to_nmT, nmT_eq, up2_r, up2_e, pk_us, pk_un, b2_t, b2_f, b2_0, b2_1, zB_1, zB_0, zB_b2, not_true_eq_false, not_false_eq_true, r_Mo, Nat.add_zero, Nat.add_sub_cancel, within_R, within_N, in_R, in_N, inN_yes, inR_yes, inR_pred, orNone_nn, nn_m, nn_N, f_Ct_isDay, f_Ct_isThing, f_Ct_isKind, f_Ct_isRoomSeat, f_Ct_isOffice, f_Ct_isTable, f_Ct_isPaper, f_Ct_isRule, f_Ct_isDecision, f_Mo_isOffice, f_Mo_isTable, f_Mo_isPaper, f_Mo_isRule, f_Mo_isDecision, f_Mo_isDay, f_Mo_isThing, f_Mo_paperOf, f_Mo_set, rt_4, e6]
          rw [← hn1]
          simp -dsimp -implicitDefEqProofs (disch := omega) only [f_Tp_readRule_97, f_Tp_readRule_109, ↓l_m1, l_0, l_1, l_2, l_3, l_4, l_5, l_6, l_7, l_8, l_9, l_10, l_11, l_12, l_13, l_14, l_15, l_16, l_17, l_20, l_21, l_22, l_23, l_24, l_28, l_29, l_30, l_31, l_32, l_40, l_41, l_48, l_57, l_60, l_62, l_63, l_84, l_96, l_97, l_99, l_100, l_122, l_132, l_144, l_150, l_186, l_255, l_256, l_288, l_300, l_522, l_634, l_999, l_5242, l_5410, l_5420, l_5520, l_5528, l_9999, l_65535, l_65536, l_100000, l_16777215, l_252645135, l_858993459, l_1431655765, ↓reduceIte, Nat.reduceAdd, Nat.reduceMul, Nat.reduceSub, ixN, inbN, leT, leF, ltT, ltF, eqT, eqF, eqM, eqNone, addN, mulN, subN, m1N, ↓to_bnd, bnd_some, ↓to_nmT, nmT_eq, up2_r, up2_e, pk_us, pk_un, b2_t, b2_f, b2_0, b2_1, zB_1, zB_0, zB_b2, not_true_eq_false, not_false_eq_true, r_Mo, Nat.add_zero, Nat.add_sub_cancel, within_R, within_N, in_R, in_N, inN_yes, inR_yes, inR_pred, orNone_nn, nn_m, nn_N, f_Ct_isDay, f_Ct_isThing, f_Ct_isKind, f_Ct_isRoomSeat, f_Ct_isOffice, f_Ct_isTable, f_Ct_isPaper, f_Ct_isRule, f_Ct_isDecision, f_Mo_isOffice, f_Mo_isTable, f_Mo_isPaper, f_Mo_isRule, f_Mo_isDecision, f_Mo_isDay, f_Mo_isThing, f_Mo_paperOf, f_Mo_set, e8, g8, a1, r1, h8]
        · obtain ⟨mg, z1, z2, kw, s1, s2, s3⟩ := mod nO A bd mm o8 hH o2 e27 e28
          obtain ⟨mx, x1, x2⟩ := (v3 _ 1 _ s2 (by omega) s3).1 (Or.inl t0)
          rw [← s1] at x1
          obtain ⟨hF, hKk, e24, hCm, -, -, -, -, e27', e28', -, -⟩ := x2
          have e16 := hKk.2.2.2.1
          rw [t0, show mtk 0 = 0 from rfl] at e16
          have fq := frq mm mg mx z2 hF.1 hF.2.1
          refine ⟨up2 mx 298 26 (nI d.length), ?_, ⟨fun a h1 h2 h3 => by rw [up2_r _ _ _ h1]; exact fq.1 a h1 h2 h3, fun i hi => by rw [up2_e, pk_un (by omega)]; exact fq.2 i hi⟩, fun q => (by cases q), fun _ => ⟨fun j hj => by rw [up2_r _ _ _ (by omega), hF.2.2 j hj]; show reM mg 144 308 j = mm 308 j; rw [reM_a mg _ (by omega), z2.1 308 (by omega)], by rw [up2_e, pk_us, if_neg (by omega)], by rw [up2_e, pk_un (by omega)]; exact e27', by rw [up2_e, pk_un (by omega)]; exact e28', by rw [up2_r _ _ _ (by omega)]; exact hCm⟩⟩
          simp -dsimp -implicitDefEqProofs (disch := omega) only [f_Mo_takesRule_77, f_Mo_takesRule_108, f_Mo_takesRule_120, ↓l_m1, l_0, l_1, l_2, l_3, l_4, l_5, l_6, l_7, l_8, l_9, l_10, l_11, l_12, l_13, l_14, l_15, l_16, l_17, l_20, l_21, l_22, l_23, l_24, l_28, l_29, l_30, l_31, l_32, l_40, l_41, l_48, l_57, l_60, l_62, l_63, l_84, l_96, l_97, l_99, l_100, l_122, l_132, l_144, l_150, l_186, l_255, l_256, l_288, l_300, l_522, l_634, l_999, l_5242, l_5410, l_5420, l_5520, l_5528, l_9999, l_65535, l_65536, l_100000, l_16777215, l_252645135, l_858993459, l_1431655765, ↓reduceIte, Nat.reduceAdd, Nat.reduceMul, Nat.reduceSub, ixN, inbN, leT, leF, ltT, ltF, eqT, eqF, eqM, eqNone, addN, mulN, subN, m1N, ↓to_bnd, bnd_some, ↓to_nmT, nmT_eq, up2_r, up2_e, pk_us, pk_un, b2_t, b2_f, b2_0, b2_1, zB_1, zB_0, zB_b2, not_true_eq_false, not_false_eq_true, r_Mo, Nat.add_zero, Nat.add_sub_cancel, within_R, within_N, in_R, in_N, inN_yes, inR_yes, inR_pred, orNone_nn, nn_m, nn_N, f_Ct_isDay, f_Ct_isThing, f_Ct_isKind, f_Ct_isRoomSeat, f_Ct_isOffice, f_Ct_isTable, f_Ct_isPaper, f_Ct_isRule, f_Ct_isDecision, f_Mo_isOffice, f_Mo_isTable, f_Mo_isPaper, f_Mo_isRule, f_Mo_isDecision, f_Mo_isDay, f_Mo_isThing, f_Mo_paperOf, f_Mo_set, kw, z1, x1, e24, e16]
      · refine ⟨false, k2, d, m2, ?_, fr, r2.2.2.2.1, CS_7 r2, j4, fun q => (by cases q), fun nO A bd mm o8 hH o2 e27 e28 => ?_⟩
        · simp -dsimp -implicitDefEqProofs (disch := omega) only [f_Tp_readRule_59, ↓l_m1, l_0, l_1, l_2, l_3, l_4, l_5, l_6, l_7, l_8, l_9, l_10, l_11, l_12, l_13, l_14, l_15, l_16, l_17, l_20, l_21, l_22, l_23, l_24, l_28, l_29, l_30, l_31, l_32, l_40, l_41, l_48, l_57, l_60, l_62, l_63, l_84, l_96, l_97, l_99, l_100, l_122, l_132, l_144, l_150, l_186, l_255, l_256, l_288, l_300, l_522, l_634, l_999, l_5242, l_5410, l_5420, l_5520, l_5528, l_9999, l_65535, l_65536, l_100000, l_16777215, l_252645135, l_858993459, l_1431655765, ↓reduceIte, Nat.reduceAdd, Nat.reduceMul, Nat.reduceSub, ixN, inbN, leT, leF, ltT, ltF, eqT, eqF, eqM, eqNone, addN, mulN, subN, m1N, ↓to_bnd, bnd_some, ↓to_nmT, nmT_eq, up2_r, up2_e, pk_us, pk_un, b2_t, b2_f, b2_0, b2_1, zB_1, zB_0, zB_b2, not_true_eq_false, not_false_eq_true, r_Mo, Nat.add_zero, Nat.add_sub_cancel, within_R, within_N, in_R, in_N, inN_yes, inR_yes, inR_pred, orNone_nn, nn_m, nn_N, f_Ct_isDay, f_Ct_isThing, f_Ct_isKind, f_Ct_isRoomSeat, f_Ct_isOffice, f_Ct_isTable, f_Ct_isPaper, f_Ct_isRule, f_Ct_isDecision, f_Mo_isOffice, f_Mo_isTable, f_Mo_isPaper, f_Mo_isRule, f_Mo_isDecision, f_Mo_isDay, f_Mo_isThing, f_Mo_paperOf, f_Mo_set, rt_4, e6]
          rw [← hn1]
          simp -dsimp -implicitDefEqProofs (disch := omega) only [f_Tp_readRule_97, f_Tp_readRule_109, ↓l_m1, l_0, l_1, l_2, l_3, l_4, l_5, l_6, l_7, l_8, l_9, l_10, l_11, l_12, l_13, l_14, l_15, l_16, l_17, l_20, l_21, l_22, l_23, l_24, l_28, l_29, l_30, l_31, l_32, l_40, l_41, l_48, l_57, l_60, l_62, l_63, l_84, l_96, l_97, l_99, l_100, l_122, l_132, l_144, l_150, l_186, l_255, l_256, l_288, l_300, l_522, l_634, l_999, l_5242, l_5410, l_5420, l_5520, l_5528, l_9999, l_65535, l_65536, l_100000, l_16777215, l_252645135, l_858993459, l_1431655765, ↓reduceIte, Nat.reduceAdd, Nat.reduceMul, Nat.reduceSub, ixN, inbN, leT, leF, ltT, ltF, eqT, eqF, eqM, eqNone, addN, mulN, subN, m1N, ↓to_bnd, bnd_some, ↓to_nmT, nmT_eq, up2_r, up2_e, pk_us, pk_un, b2_t, b2_f, b2_0, b2_1, zB_1, zB_0, zB_b2, not_true_eq_false, not_false_eq_true, r_Mo, Nat.add_zero, Nat.add_sub_cancel, within_R, within_N, in_R, in_N, inN_yes, inR_yes, inR_pred, orNone_nn, nn_m, nn_N, f_Ct_isDay, f_Ct_isThing, f_Ct_isKind, f_Ct_isRoomSeat, f_Ct_isOffice, f_Ct_isTable, f_Ct_isPaper, f_Ct_isRule, f_Ct_isDecision, f_Mo_isOffice, f_Mo_isTable, f_Mo_isPaper, f_Mo_isRule, f_Mo_isDecision, f_Mo_isDay, f_Mo_isThing, f_Mo_paperOf, f_Mo_set, e8, g8, a1, r1, h8]
        · obtain ⟨mg, z1, z2, kw, s1, s2, s3⟩ := mod nO A bd mm o8 hH o2 e27 e28
          obtain ⟨mx, x1, x2⟩ := (v3 _ 1 _ s2 (by omega) s3).2 (by omega)
          rw [← s1] at x1
          refine ⟨mx, ?_, frq mm mg mx z2 x2.1 x2.2.1, fun _ => x2.2.2, fun q => (by cases q)⟩
          simp -dsimp -implicitDefEqProofs (disch := omega) only [f_Mo_takesRule_77, ↓l_m1, l_0, l_1, l_2, l_3, l_4, l_5, l_6, l_7, l_8, l_9, l_10, l_11, l_12, l_13, l_14, l_15, l_16, l_17, l_20, l_21, l_22, l_23, l_24, l_28, l_29, l_30, l_31, l_32, l_40, l_41, l_48, l_57, l_60, l_62, l_63, l_84, l_96, l_97, l_99, l_100, l_122, l_132, l_144, l_150, l_186, l_255, l_256, l_288, l_300, l_522, l_634, l_999, l_5242, l_5410, l_5420, l_5520, l_5528, l_9999, l_65535, l_65536, l_100000, l_16777215, l_252645135, l_858993459, l_1431655765, ↓reduceIte, Nat.reduceAdd, Nat.reduceMul, Nat.reduceSub, ixN, inbN, leT, leF, ltT, ltF, eqT, eqF, eqM, eqNone, addN, mulN, subN, m1N, ↓to_bnd, bnd_some, ↓to_nmT, nmT_eq, up2_r, up2_e, pk_us, pk_un, b2_t, b2_f, b2_0, b2_1, zB_1, zB_0, zB_b2, not_true_eq_false, not_false_eq_true, r_Mo, Nat.add_zero, Nat.add_sub_cancel, within_R, within_N, in_R, in_N, inN_yes, inR_yes, inR_pred, orNone_nn, nn_m, nn_N, f_Ct_isDay, f_Ct_isThing, f_Ct_isKind, f_Ct_isRoomSeat, f_Ct_isOffice, f_Ct_isTable, f_Ct_isPaper, f_Ct_isRule, f_Ct_isDecision, f_Mo_isOffice, f_Mo_isTable, f_Mo_isPaper, f_Mo_isRule, f_Mo_isDecision, f_Mo_isDay, f_Mo_isThing, f_Mo_paperOf, f_Mo_set, kw, z1, x1]
  · have hb := hC.2.2.2.2.2.2.2.2.2
    refine ⟨decide (tkT B L k = 0), k, [], n1, ?_, f1, kK, CS_7 C1, i4, fun _ => ⟨i5, C1.2.2.2.2.2.2.1, C1.2.2.2.2.2.2.2.1, C1.2.2.2.2.2.2.2.2.1, Or.inl rfl, by show 2 * c.length ≤ 96; omega⟩, fun nO A bd mm o8 hH o2 e27 e28 => ⟨mm, ?_, ⟨fun _ _ _ _ => rfl, fun _ _ => rfl⟩, fun _ => hH.2.2.2.1, fun _ => ⟨fun _ _ => rfl, by rw [List.length_nil, if_pos rfl], e27, by rw [bdC, Bool.or_false]; exact e28, trivial⟩⟩⟩
    · simp -dsimp -implicitDefEqProofs (disch := omega) only [f_Tp_readRule_59, ↓l_m1, l_0, l_1, l_2, l_3, l_4, l_5, l_6, l_7, l_8, l_9, l_10, l_11, l_12, l_13, l_14, l_15, l_16, l_17, l_20, l_21, l_22, l_23, l_24, l_28, l_29, l_30, l_31, l_32, l_40, l_41, l_48, l_57, l_60, l_62, l_63, l_84, l_96, l_97, l_99, l_100, l_122, l_132, l_144, l_150, l_186, l_255, l_256, l_288, l_300, l_522, l_634, l_999, l_5242, l_5410, l_5420, l_5520, l_5528, l_9999, l_65535, l_65536, l_100000, l_16777215, l_252645135, l_858993459, l_1431655765, ↓reduceIte, Nat.reduceAdd, Nat.reduceMul, Nat.reduceSub, ixN, inbN, leT, leF, ltT, ltF, eqT, eqF, eqM, eqNone, addN, mulN, subN, m1N, ↓to_bnd, bnd_some, ↓to_nmT, nmT_eq, up2_r, up2_e, pk_us, pk_un, b2_t, b2_f, b2_0, b2_1, zB_1, zB_0, zB_b2, not_true_eq_false, not_false_eq_true, r_Mo, Nat.add_zero, Nat.add_sub_cancel, within_R, within_N, in_R, in_N, inN_yes, inR_yes, inR_pred, orNone_nn, nn_m, nn_N, f_Ct_isDay, f_Ct_isThing, f_Ct_isKind, f_Ct_isRoomSeat, f_Ct_isOffice, f_Ct_isTable, f_Ct_isPaper, f_Ct_isRule, f_Ct_isDecision, f_Mo_isOffice, f_Mo_isTable, f_Mo_isPaper, f_Mo_isRule, f_Mo_isDecision, f_Mo_isDay, f_Mo_isThing, f_Mo_paperOf, f_Mo_set, rt_4, e6]
      rw [← hn1]
      by_cases t0 : tkT B L k = 0
      · rw [decide_eq_true t0]
        rw [t0] at g8 e8
        simp -dsimp -implicitDefEqProofs (disch := omega) only [f_Tp_readRule_97, f_Tp_readRule_109, ↓l_m1, l_0, l_1, l_2, l_3, l_4, l_5, l_6, l_7, l_8, l_9, l_10, l_11, l_12, l_13, l_14, l_15, l_16, l_17, l_20, l_21, l_22, l_23, l_24, l_28, l_29, l_30, l_31, l_32, l_40, l_41, l_48, l_57, l_60, l_62, l_63, l_84, l_96, l_97, l_99, l_100, l_122, l_132, l_144, l_150, l_186, l_255, l_256, l_288, l_300, l_522, l_634, l_999, l_5242, l_5410, l_5420, l_5520, l_5528, l_9999, l_65535, l_65536, l_100000, l_16777215, l_252645135, l_858993459, l_1431655765, ↓reduceIte, Nat.reduceAdd, Nat.reduceMul, Nat.reduceSub, ixN, inbN, leT, leF, ltT, ltF, eqT, eqF, eqM, eqNone, addN, mulN, subN, m1N, ↓to_bnd, bnd_some, ↓to_nmT, nmT_eq, up2_r, up2_e, pk_us, pk_un, b2_t, b2_f, b2_0, b2_1, zB_1, zB_0, zB_b2, not_true_eq_false, not_false_eq_true, r_Mo, Nat.add_zero, Nat.add_sub_cancel, within_R, within_N, in_R, in_N, inN_yes, inR_yes, inR_pred, orNone_nn, nn_m, nn_N, f_Ct_isDay, f_Ct_isThing, f_Ct_isKind, f_Ct_isRoomSeat, f_Ct_isOffice, f_Ct_isTable, f_Ct_isPaper, f_Ct_isRule, f_Ct_isDecision, f_Mo_isOffice, f_Mo_isTable, f_Mo_isPaper, f_Mo_isRule, f_Mo_isDecision, f_Mo_isDay, f_Mo_isThing, f_Mo_paperOf, f_Mo_set, e8, g8]
      · rw [decide_eq_false t0]
        simp -dsimp -implicitDefEqProofs (disch := omega) only [f_Tp_readRule_97, f_Tp_readRule_109, ↓l_m1, l_0, l_1, l_2, l_3, l_4, l_5, l_6, l_7, l_8, l_9, l_10, l_11, l_12, l_13, l_14, l_15, l_16, l_17, l_20, l_21, l_22, l_23, l_24, l_28, l_29, l_30, l_31, l_32, l_40, l_41, l_48, l_57, l_60, l_62, l_63, l_84, l_96, l_97, l_99, l_100, l_122, l_132, l_144, l_150, l_186, l_255, l_256, l_288, l_300, l_522, l_634, l_999, l_5242, l_5410, l_5420, l_5520, l_5528, l_9999, l_65535, l_65536, l_100000, l_16777215, l_252645135, l_858993459, l_1431655765, ↓reduceIte, Nat.reduceAdd, Nat.reduceMul, Nat.reduceSub, ixN, inbN, leT, leF, ltT, ltF, eqT, eqF, eqM, eqNone, addN, mulN, subN, m1N, ↓to_bnd, bnd_some, ↓to_nmT, nmT_eq, up2_r, up2_e, pk_us, pk_un, b2_t, b2_f, b2_0, b2_1, zB_1, zB_0, zB_b2, not_true_eq_false, not_false_eq_true, r_Mo, Nat.add_zero, Nat.add_sub_cancel, within_R, within_N, in_R, in_N, inN_yes, inR_yes, inR_pred, orNone_nn, nn_m, nn_N, f_Ct_isDay, f_Ct_isThing, f_Ct_isKind, f_Ct_isRoomSeat, f_Ct_isOffice, f_Ct_isTable, f_Ct_isPaper, f_Ct_isRule, f_Ct_isDecision, f_Mo_isOffice, f_Mo_isTable, f_Mo_isPaper, f_Mo_isRule, f_Mo_isDecision, f_Mo_isDay, f_Mo_isThing, f_Mo_paperOf, f_Mo_set, e8, g8]
    · have kw := k_word hH.2 (w := 7) (by omega) w_unless
      rw [decide_eq_false c7] at kw
      have e16 := hH.2.2.2.2.1
      by_cases t0 : tkT B L k = 0
      · rw [decide_eq_true t0]
        rw [t0, show mtk 0 = 0 from rfl] at e16
        simp -dsimp -implicitDefEqProofs (disch := omega) only [f_Mo_takesRule_77, f_Mo_takesRule_108, f_Mo_takesRule_120, ↓l_m1, l_0, l_1, l_2, l_3, l_4, l_5, l_6, l_7, l_8, l_9, l_10, l_11, l_12, l_13, l_14, l_15, l_16, l_17, l_20, l_21, l_22, l_23, l_24, l_28, l_29, l_30, l_31, l_32, l_40, l_41, l_48, l_57, l_60, l_62, l_63, l_84, l_96, l_97, l_99, l_100, l_122, l_132, l_144, l_150, l_186, l_255, l_256, l_288, l_300, l_522, l_634, l_999, l_5242, l_5410, l_5420, l_5520, l_5528, l_9999, l_65535, l_65536, l_100000, l_16777215, l_252645135, l_858993459, l_1431655765, ↓reduceIte, Nat.reduceAdd, Nat.reduceMul, Nat.reduceSub, ixN, inbN, leT, leF, ltT, ltF, eqT, eqF, eqM, eqNone, addN, mulN, subN, m1N, ↓to_bnd, bnd_some, ↓to_nmT, nmT_eq, up2_r, up2_e, pk_us, pk_un, b2_t, b2_f, b2_0, b2_1, zB_1, zB_0, zB_b2, not_true_eq_false, not_false_eq_true, r_Mo, Nat.add_zero, Nat.add_sub_cancel, within_R, within_N, in_R, in_N, inN_yes, inR_yes, inR_pred, orNone_nn, nn_m, nn_N, f_Ct_isDay, f_Ct_isThing, f_Ct_isKind, f_Ct_isRoomSeat, f_Ct_isOffice, f_Ct_isTable, f_Ct_isPaper, f_Ct_isRule, f_Ct_isDecision, f_Mo_isOffice, f_Mo_isTable, f_Mo_isPaper, f_Mo_isRule, f_Mo_isDecision, f_Mo_isDay, f_Mo_isThing, f_Mo_paperOf, f_Mo_set, kw, e16]
      · rw [decide_eq_false t0]
        have n1 : mtk (tkT B L k) ≠ 0 ∧ mtk (tkT B L k) < 100 := by unfold mtk; (repeat' split) <;> omega
        simp -dsimp -implicitDefEqProofs (disch := omega) only [f_Mo_takesRule_77, f_Mo_takesRule_108, f_Mo_takesRule_120, ↓l_m1, l_0, l_1, l_2, l_3, l_4, l_5, l_6, l_7, l_8, l_9, l_10, l_11, l_12, l_13, l_14, l_15, l_16, l_17, l_20, l_21, l_22, l_23, l_24, l_28, l_29, l_30, l_31, l_32, l_40, l_41, l_48, l_57, l_60, l_62, l_63, l_84, l_96, l_97, l_99, l_100, l_122, l_132, l_144, l_150, l_186, l_255, l_256, l_288, l_300, l_522, l_634, l_999, l_5242, l_5410, l_5420, l_5520, l_5528, l_9999, l_65535, l_65536, l_100000, l_16777215, l_252645135, l_858993459, l_1431655765, ↓reduceIte, Nat.reduceAdd, Nat.reduceMul, Nat.reduceSub, ixN, inbN, leT, leF, ltT, ltF, eqT, eqF, eqM, eqNone, addN, mulN, subN, m1N, ↓to_bnd, bnd_some, ↓to_nmT, nmT_eq, up2_r, up2_e, pk_us, pk_un, b2_t, b2_f, b2_0, b2_1, zB_1, zB_0, zB_b2, not_true_eq_false, not_false_eq_true, r_Mo, Nat.add_zero, Nat.add_sub_cancel, within_R, within_N, in_R, in_N, inN_yes, inR_yes, inR_pred, orNone_nn, nn_m, nn_N, f_Ct_isDay, f_Ct_isThing, f_Ct_isKind, f_Ct_isRoomSeat, f_Ct_isOffice, f_Ct_isTable, f_Ct_isPaper, f_Ct_isRule, f_Ct_isDecision, f_Mo_isOffice, f_Mo_isTable, f_Mo_isPaper, f_Mo_isRule, f_Mo_isDecision, f_Mo_isDay, f_Mo_isThing, f_Mo_paperOf, f_Mo_set, kw, e16]
/-! from behind the head -/
def cIu (m : Mm) : Option (Int32 × Mm) := (if ¬ (m 256 8) = (6 : Int32) then (f_Tp_readRule_59 256 m) else ((f_Tp_advance 256 m).bind fun v45 => (fz_Tp_readOr 256 (0 : Int32) (0 : Int32) v45).bind fun v51 => (if ¬ v51.1 = 0 then (f_Tp_readRule_59 256 v51.2) else (some ((0 : Int32), v51.2)))))
def mIu (m : Mm) : Option (Int32 × Mm) := (f_Mo_isWord m 298 (6 : Int32)).bind fun v49 => (if v49 = 0 then (f_Mo_takesRule_77 298 m) else ((f_Mo_go 298 m).bind fun v56 => (f_Mo_takesE 298 (0 : Int32) v56).bind fun v61 => (if ¬ v61.1 = 0 then (nmM (up2 v61.2 298 25 (v61.2 298 24)) fun σ74 => f_Mo_takesRule_77 298 σ74) else (some ((0 : Int32), v61.2)))))
def FrW (m m' : Mm) : Prop := (∀ a, a ≠ 298 → a ≠ 308 → a ≠ 309 → m' a = m a) ∧ ∀ i, i < 13 ∨ (19 ≤ i ∧ i ≤ 22) ∨ i = 30 ∨ 33 < i → m' 298 i = m 298 i
def ResC (d1 d2 : List Op3) (m' : Mm) : Prop := m' 261 5 = nI d1.length ∧ m' 261 6 = nI (d2 ++ d1).length ∧ m' 261 4 = nI (atC (d2 ++ d1)) ∧ CodC (m' 262) (d2 ++ d1) ∧ (d1 = [] ∨ okC d1 0 1) ∧ (d2 = [] ∨ okC d2 0 1) ∧ 2 * (d2 ++ d1).length ≤ 96
def ResM (nO : Nat) (bd : Bool) (d1 d2 : List Op3) (m' : Mm) : Prop := m' 298 25 = mnyI d1.length ∧ m' 298 26 = mnyI d2.length ∧ m' 298 27 = nI (atC d1 + atC d2) ∧ m' 298 28 = b2 ((bd || bdC nO d1) || bdC nO d2) ∧ CodM (m' 308) 0 d1 ∧ CodM (m' 308) 144 d2
theorem both_I {B : Nat → Nat} {L K k : Nat} {m0 m : Mm} (hE : CTe B L K m0) (hL : L ≤ 96) (hC : CS B L K m0 k [] m) : ∃ b kf d1 d2 m', cIu m = some (b2 b, m') ∧ FrC m m' ∧ kf ≤ K ∧ m' 256 7 = nI kf ∧ (∀ i, i < 4 → m' 261 i = m 261 i) ∧ (b = true → ResC d1 d2 m') ∧ ∀ nO bd mm, nO ≤ 8 → HMu B L k mm → mm 299 2 = nI nO → mm 298 27 = nI 0 → mm 298 28 = b2 bd → mm 298 25 = m1I → mm 298 26 = m1I → ∃ mm', mIu mm = some (b2 b, mm') ∧ FrW mm mm' ∧ (b = false → mm' 298 15 = nI (tkP B L kf)) ∧ (b = true → ResM nO bd d1 d2 mm') := by
  have e8 := hC.2.2.2.2.2.1
  have kK := hC.2.2.2.1
  have hK := hE.1
  have le := tkT_le B L k
  by_cases c6 : tkT B L k = 6
  · obtain ⟨m1, a1, a2⟩ := c_adv hE hC (by omega)
    obtain ⟨b, k2, d, m2, r1, r2, r3, r4, r5⟩ := both_E hE hL a2
    have fr : FrC m m2 := by
      have z := CS_fr r2
      have z0 := CS_fr hC
      exact ⟨fun a p q r => by rw [z.1 a p q r, z0.1 a p q r], fun i p q => by rw [z.2 i p q, z0.2 i p q]⟩
    have j4 : ∀ i, i < 4 → m2 261 i = m 261 i := fun i hi => by rw [r2.2.2.1 i (by omega) (by omega), hC.2.2.1 i (by omega) (by omega)]
    rw [c6] at e8
    have mod : ∀ nO bd mm, nO ≤ 8 → HMu B L k mm → mm 299 2 = nI nO → mm 298 27 = nI 0 → mm 298 28 = b2 bd → ∃ mg, f_Mo_go 298 mm = some mg ∧ FrL mm mg ∧ f_Mo_isWord mm 298 (nI 6) = some (nI 1) ∧ f_Mo_takesE 298 (nI 0) mg = f_Mo_takesE_37 NN 298 (nI 0) (nI 1) (reM mg 0) ∧ MQu B L (reM mg 0, 0, 0, nO, bd) ∧ MSu B L (reM mg 0, 0, 0, nO, bd) (k + 1) [] [] (reM mg 0) := fun nO bd mm o8 hH o2 e27 e28 => by
      obtain ⟨mg, z1, z2, z3⟩ := h_go (m1 := mm) hH (fun _ _ => rfl) (fun _ _ _ => rfl)
      have kw := k_word hH.2 (w := 6) (by omega) w_if
      rw [decide_eq_true c6] at kw
      obtain ⟨s1, s2, s3⟩ := e_start (u := 0) (A := 0) (nO := nO) (bd := bd) z3 (by omega) (by rw [z2.1 299 (by omega)]; exact o2) o8 (by rw [z2.2 27 (by omega)]; exact e27) (by rw [z2.2 28 (by omega)]; exact e28)
      exact ⟨mg, z1, z2, kw, s1, s2, s3⟩
    have frq : ∀ (mm mg mx : Mm), FrL mm mg → (∀ a, a ≠ 298 → a ≠ 308 → a ≠ 309 → mx a = reM mg 0 a) → (∀ i, i < 14 ∨ (19 ≤ i ∧ i ≤ 23) ∨ i = 25 ∨ i = 26 ∨ i = 30 ∨ 33 < i → mx 298 i = reM mg 0 298 i) → FrW mm mx := fun mm mg mx z2 w1 w2 => ⟨fun a h1 h2 h3 => by rw [w1 a h1 h2 h3, reM_a mg _ h1, z2.1 a h1], fun i hi => by rw [w2 i (by omega), reM_i mg _ (by omega), z2.2 i (by omega)]⟩
    cases b
    · refine ⟨false, k2, [], [], m2, ?_, fr, r2.2.2.2.1, CS_7 r2, j4, fun q => (by cases q), fun nO bd mm o8 hH o2 e27 e28 e25 e26 => ?_⟩
      · rw [b2_f] at r1
        simp -dsimp -implicitDefEqProofs (disch := omega) only [cIu, ↓l_m1, l_0, l_1, l_2, l_3, l_4, l_5, l_6, l_7, l_8, l_9, l_10, l_11, l_12, l_13, l_14, l_15, l_16, l_17, l_20, l_21, l_22, l_23, l_24, l_28, l_29, l_30, l_31, l_32, l_40, l_41, l_48, l_57, l_60, l_62, l_63, l_84, l_96, l_97, l_99, l_100, l_122, l_132, l_144, l_150, l_186, l_255, l_256, l_288, l_300, l_522, l_634, l_999, l_5242, l_5410, l_5420, l_5520, l_5528, l_9999, l_65535, l_65536, l_100000, l_16777215, l_252645135, l_858993459, l_1431655765, ↓reduceIte, Nat.reduceAdd, Nat.reduceMul, Nat.reduceSub, ixN, inbN, leT, leF, ltT, ltF, eqT, eqF, eqM, eqNone, addN, mulN, subN, m1N, ↓to_bnd, bnd_some, ↓to_nmT, nmT_eq, up2_r, up2_e, pk_us, pk_un, b2_t, b2_f, b2_0, b2_1, zB_1, zB_0, zB_b2, not_true_eq_false, not_false_eq_true, r_Mo, Nat.add_zero, Nat.add_sub_cancel, within_R, within_N, in_R, in_N, inN_yes, inR_yes, inR_pred, orNone_nn, nn_m, nn_N, f_Ct_isDay, f_Ct_isThing, f_Ct_isKind, f_Ct_isRoomSeat, f_Ct_isOffice, f_Ct_isTable, f_Ct_isPaper, f_Ct_isRule, f_Ct_isDecision, f_Mo_isOffice, f_Mo_isTable, f_Mo_isPaper, f_Mo_isRule, f_Mo_isDecision, f_Mo_isDay, f_Mo_isThing, f_Mo_paperOf, f_Mo_set, e8, a1, r1]
      · obtain ⟨mg, z1, z2, kw, s1, s2, s3⟩ := mod nO bd mm o8 hH o2 e27 e28
        obtain ⟨mx, x1, x2⟩ := r5 rfl _ 0 _ s2 (by omega) s3
        rw [← s1] at x1
        refine ⟨mx, ?_, frq mm mg mx z2 x2.1 x2.2.1, fun _ => x2.2.2, fun q => (by cases q)⟩
        simp -dsimp -implicitDefEqProofs (disch := omega) only [mIu, ↓l_m1, l_0, l_1, l_2, l_3, l_4, l_5, l_6, l_7, l_8, l_9, l_10, l_11, l_12, l_13, l_14, l_15, l_16, l_17, l_20, l_21, l_22, l_23, l_24, l_28, l_29, l_30, l_31, l_32, l_40, l_41, l_48, l_57, l_60, l_62, l_63, l_84, l_96, l_97, l_99, l_100, l_122, l_132, l_144, l_150, l_186, l_255, l_256, l_288, l_300, l_522, l_634, l_999, l_5242, l_5410, l_5420, l_5520, l_5528, l_9999, l_65535, l_65536, l_100000, l_16777215, l_252645135, l_858993459, l_1431655765, ↓reduceIte, Nat.reduceAdd, Nat.reduceMul, Nat.reduceSub, ixN, inbN, leT, leF, ltT, ltF, eqT, eqF, eqM, eqNone, addN, mulN, subN, m1N, ↓to_bnd, bnd_some, ↓to_nmT, nmT_eq, up2_r, up2_e, pk_us, pk_un, b2_t, b2_f, b2_0, b2_1, zB_1, zB_0, zB_b2, not_true_eq_false, not_false_eq_true, r_Mo, Nat.add_zero, Nat.add_sub_cancel, within_R, within_N, in_R, in_N, inN_yes, inR_yes, inR_pred, orNone_nn, nn_m, nn_N, f_Ct_isDay, f_Ct_isThing, f_Ct_isKind, f_Ct_isRoomSeat, f_Ct_isOffice, f_Ct_isTable, f_Ct_isPaper, f_Ct_isRule, f_Ct_isDecision, f_Mo_isOffice, f_Mo_isTable, f_Mo_isPaper, f_Mo_isRule, f_Mo_isDecision, f_Mo_isDay, f_Mo_isThing, f_Mo_paperOf, f_Mo_set, kw, z1, x1]
    · obtain ⟨v1, v2, v3⟩ := r4 rfl
      rw [List.append_nil] at r2
      obtain ⟨b, kf, d2, m', u1, u2, u3, u4, u5, u6, u7⟩ := both_U hE hL r2
      have st : cIu m = f_Tp_readRule_59 256 m2 := by
        rw [b2_t] at r1
        simp -dsimp -implicitDefEqProofs (disch := omega) only [cIu, ↓l_m1, l_0, l_1, l_2, l_3, l_4, l_5, l_6, l_7, l_8, l_9, l_10, l_11, l_12, l_13, l_14, l_15, l_16, l_17, l_20, l_21, l_22, l_23, l_24, l_28, l_29, l_30, l_31, l_32, l_40, l_41, l_48, l_57, l_60, l_62, l_63, l_84, l_96, l_97, l_99, l_100, l_122, l_132, l_144, l_150, l_186, l_255, l_256, l_288, l_300, l_522, l_634, l_999, l_5242, l_5410, l_5420, l_5520, l_5528, l_9999, l_65535, l_65536, l_100000, l_16777215, l_252645135, l_858993459, l_1431655765, ↓reduceIte, Nat.reduceAdd, Nat.reduceMul, Nat.reduceSub, ixN, inbN, leT, leF, ltT, ltF, eqT, eqF, eqM, eqNone, addN, mulN, subN, m1N, ↓to_bnd, bnd_some, ↓to_nmT, nmT_eq, up2_r, up2_e, pk_us, pk_un, b2_t, b2_f, b2_0, b2_1, zB_1, zB_0, zB_b2, not_true_eq_false, not_false_eq_true, r_Mo, Nat.add_zero, Nat.add_sub_cancel, within_R, within_N, in_R, in_N, inN_yes, inR_yes, inR_pred, orNone_nn, nn_m, nn_N, f_Ct_isDay, f_Ct_isThing, f_Ct_isKind, f_Ct_isRoomSeat, f_Ct_isOffice, f_Ct_isTable, f_Ct_isPaper, f_Ct_isRule, f_Ct_isDecision, f_Mo_isOffice, f_Mo_isTable, f_Mo_isPaper, f_Mo_isRule, f_Mo_isDecision, f_Mo_isDay, f_Mo_isThing, f_Mo_paperOf, f_Mo_set, e8, a1, r1]
      by_cases ov : tkT B L k2 = 0 ∨ tkT B L k2 = 7
      · refine ⟨b, kf, d, d2, m', by rw [st]; exact u1, FrC_tr fr u2, u3, u4, fun i hi => by rw [u5 i hi, j4 i hi], fun hb => ?_, fun nO bd mm o8 hH o2 e27 e28 e25 e26 => ?_⟩
        · obtain ⟨w1, w2, w3, w4, w5, w6⟩ := u6 hb
          exact ⟨w1, w2, w3, w4, Or.inr v2, w5, w6⟩
        · obtain ⟨mg, z1, z2, kw, s1, s2, s3⟩ := mod nO bd mm o8 hH o2 e27 e28
          obtain ⟨mx, x1, x2⟩ := (v3 _ 0 _ s2 (by omega) s3).1 (ov.imp id (fun z => ⟨rfl, z⟩))
          rw [← s1] at x1
          have fq := frq mm mg mx z2 x2.1.1 x2.1.2.1
          have tm := TpM_f s2 x2.1
          obtain ⟨hF, hKk, e24, hCm, -, -, -, -, e27', e28', -, -⟩ := x2
          have e27'' : mx 298 27 = nI (0 + atC d) := e27'
          have e28'' : mx 298 28 = b2 (bd || bdC nO d) := e28'
          obtain ⟨my, y1, y2, y3, y4⟩ := u7 nO (atC d) (bd || bdC nO d) (up2 mx 298 25 (nI d.length)) o8 ⟨TpM_i tm (fun a h1 _ _ => up2_r _ _ _ h1) (by rw [up2_e, pk_un (by omega)]), MTk_c hKk (fun i h1 h2 => by rw [up2_e, pk_un (by omega)])⟩ (by rw [up2_r _ _ _ (by omega), fq.1 299 (by omega) (by omega) (by omega)]; exact o2) (by rw [up2_e, pk_un (by omega), e27'', Nat.zero_add]) (by rw [up2_e, pk_un (by omega)]; exact e28'')
          refine ⟨my, ?_, ⟨fun a h1 h2 h3 => by rw [y2.1 a h1 h2 h3, up2_r _ _ _ h1]; exact fq.1 a h1 h2 h3, fun i hi => by rw [y2.2 i (by omega), up2_e, pk_un (by omega)]; exact fq.2 i hi⟩, y3, fun hb => ?_⟩
          · simp -dsimp -implicitDefEqProofs (disch := omega) only [mIu, ↓l_m1, l_0, l_1, l_2, l_3, l_4, l_5, l_6, l_7, l_8, l_9, l_10, l_11, l_12, l_13, l_14, l_15, l_16, l_17, l_20, l_21, l_22, l_23, l_24, l_28, l_29, l_30, l_31, l_32, l_40, l_41, l_48, l_57, l_60, l_62, l_63, l_84, l_96, l_97, l_99, l_100, l_122, l_132, l_144, l_150, l_186, l_255, l_256, l_288, l_300, l_522, l_634, l_999, l_5242, l_5410, l_5420, l_5520, l_5528, l_9999, l_65535, l_65536, l_100000, l_16777215, l_252645135, l_858993459, l_1431655765, ↓reduceIte, Nat.reduceAdd, Nat.reduceMul, Nat.reduceSub, ixN, inbN, leT, leF, ltT, ltF, eqT, eqF, eqM, eqNone, addN, mulN, subN, m1N, ↓to_bnd, bnd_some, ↓to_nmT, nmT_eq, up2_r, up2_e, pk_us, pk_un, b2_t, b2_f, b2_0, b2_1, zB_1, zB_0, zB_b2, not_true_eq_false, not_false_eq_true, r_Mo, Nat.add_zero, Nat.add_sub_cancel, within_R, within_N, in_R, in_N, inN_yes, inR_yes, inR_pred, orNone_nn, nn_m, nn_N, f_Ct_isDay, f_Ct_isThing, f_Ct_isKind, f_Ct_isRoomSeat, f_Ct_isOffice, f_Ct_isTable, f_Ct_isPaper, f_Ct_isRule, f_Ct_isDecision, f_Mo_isOffice, f_Mo_isTable, f_Mo_isPaper, f_Mo_isRule, f_Mo_isDecision, f_Mo_isDay, f_Mo_isThing, f_Mo_paperOf, f_Mo_set, kw, z1, x1, e24, y1]
          · obtain ⟨g1, g2, g3, g4, g5⟩ := y4 hb
            obtain ⟨w1, w2, w3, w4, w5, w6⟩ := u6 hb
            rw [List.length_append] at w6
            have q26 : mx 298 26 = m1I := by rw [hF.2.1 26 (by omega)]; show reM mg 0 298 26 = m1I; rw [reM_i mg _ (by omega), z2.2 26 (by omega)]; exact e26
            refine ⟨?_, ?_, g3, g4, CodM_c d hCm (fun i h1 h2 => ?_), g5⟩
            · rw [y2.2 25 (by omega), up2_e, pk_us]
              unfold mnyI
              rw [if_neg (by omega)]
            · rw [g2, up2_e, pk_un (by omega), q26]
              rfl
            · rw [g1 i (by have h3 : i < 0 + 3 * d.length := h2; omega), up2_r _ _ _ (by omega)]
      · have nb : b = false ∧ kf = k2 := by
          have z := u4
          have h8 := r2.2.2.2.2.2.1
          have lt2 := tkT_le B L k2
          have h6 := r2.2.2.2.2.2.2.1
          have w : f_Tp_readRule_59 256 m2 = some (nI 0, up2 m2 261 5 (nI d.length)) := by
            simp -dsimp -implicitDefEqProofs (disch := omega) only [f_Tp_readRule_59, f_Tp_readRule_97, f_Tp_readRule_109, ↓l_m1, l_0, l_1, l_2, l_3, l_4, l_5, l_6, l_7, l_8, l_9, l_10, l_11, l_12, l_13, l_14, l_15, l_16, l_17, l_20, l_21, l_22, l_23, l_24, l_28, l_29, l_30, l_31, l_32, l_40, l_41, l_48, l_57, l_60, l_62, l_63, l_84, l_96, l_97, l_99, l_100, l_122, l_132, l_144, l_150, l_186, l_255, l_256, l_288, l_300, l_522, l_634, l_999, l_5242, l_5410, l_5420, l_5520, l_5528, l_9999, l_65535, l_65536, l_100000, l_16777215, l_252645135, l_858993459, l_1431655765, ↓reduceIte, Nat.reduceAdd, Nat.reduceMul, Nat.reduceSub, ixN, inbN, leT, leF, ltT, ltF, eqT, eqF, eqM, eqNone, addN, mulN, subN, m1N, ↓to_bnd, bnd_some, ↓to_nmT, nmT_eq, up2_r, up2_e, pk_us, pk_un, b2_t, b2_f, b2_0, b2_1, zB_1, zB_0, zB_b2, not_true_eq_false, not_false_eq_true, r_Mo, Nat.add_zero, Nat.add_sub_cancel, within_R, within_N, in_R, in_N, inN_yes, inR_yes, inR_pred, orNone_nn, nn_m, nn_N, f_Ct_isDay, f_Ct_isThing, f_Ct_isKind, f_Ct_isRoomSeat, f_Ct_isOffice, f_Ct_isTable, f_Ct_isPaper, f_Ct_isRule, f_Ct_isDecision, f_Mo_isOffice, f_Mo_isTable, f_Mo_isPaper, f_Mo_isRule, f_Mo_isDecision, f_Mo_isDay, f_Mo_isThing, f_Mo_paperOf, f_Mo_set, rt_4, h6, h8]
          rw [w] at u1
          obtain ⟨w1, w2⟩ := Prod.mk.inj (Option.some.inj u1)
          rw [← w2, up2_r _ _ _ (by omega), CS_7 r2] at z
          refine ⟨?_, ?_⟩
          · cases b
            · rfl
            · exact absurd w1 (by decide)
          · have l1 := r2.2.2.2.1
            rw [eqN (by omega) (by omega)] at z
            exact z.symm
        obtain ⟨rfl, rfl⟩ := nb
        refine ⟨false, kf, d, d2, m', by rw [st]; exact u1, FrC_tr fr u2, u3, u4, fun i hi => by rw [u5 i hi, j4 i hi], fun q => (by cases q), fun nO bd mm o8 hH o2 e27 e28 e25 e26 => ?_⟩
        obtain ⟨mg, z1, z2, kw, s1, s2, s3⟩ := mod nO bd mm o8 hH o2 e27 e28
        obtain ⟨mx, x1, x2⟩ := (v3 _ 0 _ s2 (by omega) s3).2 (by omega)
        rw [← s1] at x1
        refine ⟨mx, ?_, frq mm mg mx z2 x2.1 x2.2.1, fun _ => x2.2.2, fun q => (by cases q)⟩
        simp -dsimp -implicitDefEqProofs (disch := omega) only [mIu, ↓l_m1, l_0, l_1, l_2, l_3, l_4, l_5, l_6, l_7, l_8, l_9, l_10, l_11, l_12, l_13, l_14, l_15, l_16, l_17, l_20, l_21, l_22, l_23, l_24, l_28, l_29, l_30, l_31, l_32, l_40, l_41, l_48, l_57, l_60, l_62, l_63, l_84, l_96, l_97, l_99, l_100, l_122, l_132, l_144, l_150, l_186, l_255, l_256, l_288, l_300, l_522, l_634, l_999, l_5242, l_5410, l_5420, l_5520, l_5528, l_9999, l_65535, l_65536, l_100000, l_16777215, l_252645135, l_858993459, l_1431655765, ↓reduceIte, Nat.reduceAdd, Nat.reduceMul, Nat.reduceSub, ixN, inbN, leT, leF, ltT, ltF, eqT, eqF, eqM, eqNone, addN, mulN, subN, m1N, ↓to_bnd, bnd_some, ↓to_nmT, nmT_eq, up2_r, up2_e, pk_us, pk_un, b2_t, b2_f, b2_0, b2_1, zB_1, zB_0, zB_b2, not_true_eq_false, not_false_eq_true, r_Mo, Nat.add_zero, Nat.add_sub_cancel, within_R, within_N, in_R, in_N, inN_yes, inR_yes, inR_pred, orNone_nn, nn_m, nn_N, f_Ct_isDay, f_Ct_isThing, f_Ct_isKind, f_Ct_isRoomSeat, f_Ct_isOffice, f_Ct_isTable, f_Ct_isPaper, f_Ct_isRule, f_Ct_isDecision, f_Mo_isOffice, f_Mo_isTable, f_Mo_isPaper, f_Mo_isRule, f_Mo_isDecision, f_Mo_isDay, f_Mo_isThing, f_Mo_paperOf, f_Mo_set, kw, z1, x1]
  · obtain ⟨b, kf, d2, m', u1, u2, u3, u4, u5, u6, u7⟩ := both_U hE hL hC
    refine ⟨b, kf, [], d2, m', ?_, u2, u3, u4, u5, fun hb => ?_, fun nO bd mm o8 hH o2 e27 e28 e25 e26 => ?_⟩
    · rw [← u1]
      simp -dsimp -implicitDefEqProofs (disch := omega) only [cIu, ↓l_m1, l_0, l_1, l_2, l_3, l_4, l_5, l_6, l_7, l_8, l_9, l_10, l_11, l_12, l_13, l_14, l_15, l_16, l_17, l_20, l_21, l_22, l_23, l_24, l_28, l_29, l_30, l_31, l_32, l_40, l_41, l_48, l_57, l_60, l_62, l_63, l_84, l_96, l_97, l_99, l_100, l_122, l_132, l_144, l_150, l_186, l_255, l_256, l_288, l_300, l_522, l_634, l_999, l_5242, l_5410, l_5420, l_5520, l_5528, l_9999, l_65535, l_65536, l_100000, l_16777215, l_252645135, l_858993459, l_1431655765, ↓reduceIte, Nat.reduceAdd, Nat.reduceMul, Nat.reduceSub, ixN, inbN, leT, leF, ltT, ltF, eqT, eqF, eqM, eqNone, addN, mulN, subN, m1N, ↓to_bnd, bnd_some, ↓to_nmT, nmT_eq, up2_r, up2_e, pk_us, pk_un, b2_t, b2_f, b2_0, b2_1, zB_1, zB_0, zB_b2, not_true_eq_false, not_false_eq_true, r_Mo, Nat.add_zero, Nat.add_sub_cancel, within_R, within_N, in_R, in_N, inN_yes, inR_yes, inR_pred, orNone_nn, nn_m, nn_N, f_Ct_isDay, f_Ct_isThing, f_Ct_isKind, f_Ct_isRoomSeat, f_Ct_isOffice, f_Ct_isTable, f_Ct_isPaper, f_Ct_isRule, f_Ct_isDecision, f_Mo_isOffice, f_Mo_isTable, f_Mo_isPaper, f_Mo_isRule, f_Mo_isDecision, f_Mo_isDay, f_Mo_isThing, f_Mo_paperOf, f_Mo_set, e8]
    · obtain ⟨w1, w2, w3, w4, w5, w6⟩ := u6 hb
      exact ⟨w1, w2, w3, w4, Or.inl rfl, w5, w6⟩
    · obtain ⟨my, y1, y2, y3, y4⟩ := u7 nO 0 bd mm o8 hH o2 e27 e28
      have kw := k_word hH.2 (w := 6) (by omega) w_if
      rw [decide_eq_false c6] at kw
      refine ⟨my, ?_, ⟨y2.1, fun i hi => y2.2 i (by omega)⟩, y3, fun hb => ?_⟩
      · rw [← y1]
        simp -dsimp -implicitDefEqProofs (disch := omega) only [mIu, ↓l_m1, l_0, l_1, l_2, l_3, l_4, l_5, l_6, l_7, l_8, l_9, l_10, l_11, l_12, l_13, l_14, l_15, l_16, l_17, l_20, l_21, l_22, l_23, l_24, l_28, l_29, l_30, l_31, l_32, l_40, l_41, l_48, l_57, l_60, l_62, l_63, l_84, l_96, l_97, l_99, l_100, l_122, l_132, l_144, l_150, l_186, l_255, l_256, l_288, l_300, l_522, l_634, l_999, l_5242, l_5410, l_5420, l_5520, l_5528, l_9999, l_65535, l_65536, l_100000, l_16777215, l_252645135, l_858993459, l_1431655765, ↓reduceIte, Nat.reduceAdd, Nat.reduceMul, Nat.reduceSub, ixN, inbN, leT, leF, ltT, ltF, eqT, eqF, eqM, eqNone, addN, mulN, subN, m1N, ↓to_bnd, bnd_some, ↓to_nmT, nmT_eq, up2_r, up2_e, pk_us, pk_un, b2_t, b2_f, b2_0, b2_1, zB_1, zB_0, zB_b2, not_true_eq_false, not_false_eq_true, r_Mo, Nat.add_zero, Nat.add_sub_cancel, within_R, within_N, in_R, in_N, inN_yes, inR_yes, inR_pred, orNone_nn, nn_m, nn_N, f_Ct_isDay, f_Ct_isThing, f_Ct_isKind, f_Ct_isRoomSeat, f_Ct_isOffice, f_Ct_isTable, f_Ct_isPaper, f_Ct_isRule, f_Ct_isDecision, f_Mo_isOffice, f_Mo_isTable, f_Mo_isPaper, f_Mo_isRule, f_Mo_isDecision, f_Mo_isDay, f_Mo_isThing, f_Mo_paperOf, f_Mo_set, kw]
      · obtain ⟨g1, g2, g3, g4, g5⟩ := y4 hb
        refine ⟨by rw [y2.2 25 (by omega)]; exact e25, by rw [g2, e26]; rfl, g3, by rw [bdC, Bool.or_false]; exact g4, trivial, g5⟩
/-! the whole reading -/
theorem both_R {B : Nat → Nat} {L : Nat} {m : Mm} (hT : TpC B L m) : ∃ b kf h v1 v2 d1 d2 m', f_Tp_readRule 256 m = some (b2 b, m') ∧ (∀ a, a < 256 ∨ a = 257 ∨ 262 < a → m' a = m a) ∧ m' 256 5 = nI L ∧ kf ≤ 96 ∧ m' 256 7 = nI kf ∧ m' 259 kf = nI (tkP B L kf) ∧ tkP B L kf ≤ 96 ∧ (b = true → h ≤ 5 ∧ v1 < 100000 ∧ v2 < 100000 ∧ m' 261 0 = nI h ∧ m' 261 1 = nI v1 ∧ m' 261 2 = (if h = 5 then -1000000005 else nI v2) ∧ ResC d1 d2 m') ∧ ∀ nO nT nR mm, cnt3 nO nT nR mm → mm 298 10 = nI L → (∀ j, j < L → mm 305 j = nI (B j) ∧ B j < 256) → CoR (mm 306) (mm 307) → ∃ mm', f_Mo_takesRule 298 mm = some (b2 b, mm') ∧ (∀ a, a ≠ 298 → a ≠ 308 → a ≠ 309 → mm' a = mm a) ∧ (∀ i, i < 13 ∨ 33 < i → mm' 298 i = mm 298 i) ∧ (b = false → mm' 298 15 = nI (tkP B L kf)) ∧ (b = true → mm' 298 19 = nI h ∧ mm' 298 20 = nI v1 ∧ mm' 298 21 = (if h = 5 then m1I else nI v2) ∧ ResM nO (bhB nO nT nR h v1 v2) d1 d2 mm') := by
  have hL := hT.1
  obtain ⟨m1, K, a1, a2, a3⟩ := c_cut hT
  have hK := a3.1
  obtain ⟨m2, hm2⟩ : ∃ m2, m2 = up2 (up2 (up2 (up2 (up2 (up2 (up2 m1 261 0 (nI 0)) 261 1 (nI 0)) 261 2 (-1000000005)) 261 3 (nI 0)) 261 4 (nI 0)) 261 5 (nI 0)) 261 6 (nI 0) := ⟨_, rfl⟩
  have s1 : f_Ru_clear 261 m1 = some m2 := by rw [hm2]; simp -dsimp -implicitDefEqProofs (disch := omega) only [f_Ru_clear, ↓l_m1, l_0, l_1, l_2, l_3, l_4, l_5, l_6, l_7, l_8, l_9, l_10, l_11, l_12, l_13, l_14, l_15, l_16, l_17, l_20, l_21, l_22, l_23, l_24, l_28, l_29, l_30, l_31, l_32, l_40, l_41, l_48, l_57, l_60, l_62, l_63, l_84, l_96, l_97, l_99, l_100, l_122, l_132, l_144, l_150, l_186, l_255, l_256, l_288, l_300, l_522, l_634, l_999, l_5242, l_5410, l_5420, l_5520, l_5528, l_9999, l_65535, l_65536, l_100000, l_16777215, l_252645135, l_858993459, l_1431655765, ↓reduceIte, Nat.reduceAdd, Nat.reduceMul, Nat.reduceSub, ixN, inbN, leT, leF, ltT, ltF, eqT, eqF, eqM, eqNone, addN, mulN, subN, m1N, ↓to_bnd, bnd_some, ↓to_nmT, nmT_eq, up2_r, up2_e, pk_us, pk_un, b2_t, b2_f, b2_0, b2_1, zB_1, zB_0, zB_b2, not_true_eq_false, not_false_eq_true, r_Mo, Nat.add_zero, Nat.add_sub_cancel, within_R, within_N, in_R, in_N, inN_yes, inR_yes, inR_pred, orNone_nn, nn_m, nn_N, f_Ct_isDay, f_Ct_isThing, f_Ct_isKind, f_Ct_isRoomSeat, f_Ct_isOffice, f_Ct_isTable, f_Ct_isPaper, f_Ct_isRule, f_Ct_isDecision, f_Mo_isOffice, f_Mo_isTable, f_Mo_isPaper, f_Mo_isRule, f_Mo_isDecision, f_Mo_isDay, f_Mo_isThing, f_Mo_paperOf, f_Mo_set]
  obtain ⟨m3, hm3⟩ : ∃ m3, m3 = up2 (up2 m2 256 7 (nI 0)) 256 8 (nI (tkT B L 0)) := ⟨_, rfl⟩
  have f2 : ∀ a, a ≠ 261 → m2 a = m1 a := fun a ha => by rw [hm2]; simp -dsimp -implicitDefEqProofs (disch := omega) only [up2_r]
  have f3 : ∀ a, a ≠ 256 → m3 a = m2 a := fun a ha => by rw [hm3]; simp -dsimp -implicitDefEqProofs (disch := omega) only [up2_r]
  have f3i : ∀ i, i ≠ 7 → i ≠ 8 → m3 256 i = m1 256 i := fun i h1 h2 => by rw [hm3]; simp -dsimp -implicitDefEqProofs (disch := omega) only [up2_e, pk_un]; rw [f2 256 (by omega)]
  have r0 : m1 258 0 = nI (tkT B L 0) := (a3.2.2.2.2 0 (by omega)).1
  have E3 : CTe B L K m3 := CTe_c a3 (f3i 6 (by omega) (by omega)) (fun a h1 h2 h3 => by rw [f3 a h1, f2 a h2])
  have C3 : CS B L K m3 0 [] m3 := ⟨fun _ _ _ _ => rfl, fun _ _ _ => rfl, fun _ _ _ => rfl, by omega, by rw [hm3]; simp -dsimp -implicitDefEqProofs (disch := omega) only [up2_e, pk_un, pk_us], by rw [hm3]; simp -dsimp -implicitDefEqProofs (disch := omega) only [up2_e, pk_un, pk_us], by rw [f3 261 (by omega), hm2]; simp -dsimp -implicitDefEqProofs (disch := omega) only [up2_e, pk_un, pk_us]; rfl, by rw [f3 261 (by omega), hm2]; simp -dsimp -implicitDefEqProofs (disch := omega) only [up2_e, pk_un, pk_us]; rfl, trivial, Nat.zero_le _⟩
  have e2 : m3 261 2 = -1000000005 := by rw [f3 261 (by omega), hm2]; simp -dsimp -implicitDefEqProofs (disch := omega) only [up2_e, pk_un, pk_us]
  obtain ⟨m4, h1, E4, C4, F4, -, -, h2⟩ := c_head E3 C3 e2
  have top : f_Tp_readRule 256 m = (if (hdK B L).1 = true then cIu m4 else some (nI 0, m4)) := by
    have r0' : m2 258 0 = nI (tkT B L 0) := by rw [f2 258 (by omega)]; exact r0
    cases hd : (hdK B L).1
    · rw [hd, b2_f, hm3] at h1
      rw [if_neg (by decide)]
      simp -dsimp -implicitDefEqProofs (disch := omega) only [f_Tp_readRule, ↓l_m1, l_0, l_1, l_2, l_3, l_4, l_5, l_6, l_7, l_8, l_9, l_10, l_11, l_12, l_13, l_14, l_15, l_16, l_17, l_20, l_21, l_22, l_23, l_24, l_28, l_29, l_30, l_31, l_32, l_40, l_41, l_48, l_57, l_60, l_62, l_63, l_84, l_96, l_97, l_99, l_100, l_122, l_132, l_144, l_150, l_186, l_255, l_256, l_288, l_300, l_522, l_634, l_999, l_5242, l_5410, l_5420, l_5520, l_5528, l_9999, l_65535, l_65536, l_100000, l_16777215, l_252645135, l_858993459, l_1431655765, ↓reduceIte, Nat.reduceAdd, Nat.reduceMul, Nat.reduceSub, ixN, inbN, leT, leF, ltT, ltF, eqT, eqF, eqM, eqNone, addN, mulN, subN, m1N, ↓to_bnd, bnd_some, ↓to_nmT, nmT_eq, up2_r, up2_e, pk_us, pk_un, b2_t, b2_f, b2_0, b2_1, zB_1, zB_0, zB_b2, not_true_eq_false, not_false_eq_true, r_Mo, Nat.add_zero, Nat.add_sub_cancel, within_R, within_N, in_R, in_N, inN_yes, inR_yes, inR_pred, orNone_nn, nn_m, nn_N, f_Ct_isDay, f_Ct_isThing, f_Ct_isKind, f_Ct_isRoomSeat, f_Ct_isOffice, f_Ct_isTable, f_Ct_isPaper, f_Ct_isRule, f_Ct_isDecision, f_Mo_isOffice, f_Mo_isTable, f_Mo_isPaper, f_Mo_isRule, f_Mo_isDecision, f_Mo_isDay, f_Mo_isThing, f_Mo_paperOf, f_Mo_set, rt_1, rt_4, a1, s1, r0', h1]
    · rw [hd, b2_t, hm3] at h1
      rw [if_pos rfl]
      unfold cIu
      simp -dsimp -implicitDefEqProofs (disch := omega) only [f_Tp_readRule, ↓l_m1, l_0, l_1, l_2, l_3, l_4, l_5, l_6, l_7, l_8, l_9, l_10, l_11, l_12, l_13, l_14, l_15, l_16, l_17, l_20, l_21, l_22, l_23, l_24, l_28, l_29, l_30, l_31, l_32, l_40, l_41, l_48, l_57, l_60, l_62, l_63, l_84, l_96, l_97, l_99, l_100, l_122, l_132, l_144, l_150, l_186, l_255, l_256, l_288, l_300, l_522, l_634, l_999, l_5242, l_5410, l_5420, l_5520, l_5528, l_9999, l_65535, l_65536, l_100000, l_16777215, l_252645135, l_858993459, l_1431655765, ↓reduceIte, Nat.reduceAdd, Nat.reduceMul, Nat.reduceSub, ixN, inbN, leT, leF, ltT, ltF, eqT, eqF, eqM, eqNone, addN, mulN, subN, m1N, ↓to_bnd, bnd_some, ↓to_nmT, nmT_eq, up2_r, up2_e, pk_us, pk_un, b2_t, b2_f, b2_0, b2_1, zB_1, zB_0, zB_b2, not_true_eq_false, not_false_eq_true, r_Mo, Nat.add_zero, Nat.add_sub_cancel, within_R, within_N, in_R, in_N, inN_yes, inR_yes, inR_pred, orNone_nn, nn_m, nn_N, f_Ct_isDay, f_Ct_isThing, f_Ct_isKind, f_Ct_isRoomSeat, f_Ct_isOffice, f_Ct_isTable, f_Ct_isPaper, f_Ct_isRule, f_Ct_isDecision, f_Mo_isOffice, f_Mo_isTable, f_Mo_isPaper, f_Mo_isRule, f_Mo_isDecision, f_Mo_isDay, f_Mo_isThing, f_Mo_paperOf, f_Mo_set, rt_1, rt_4, a1, s1, r0', h1]
  have fr4 : ∀ a, a < 256 ∨ a = 257 ∨ 262 < a → m4 a = m a := fun a ha => by rw [F4.1 a (by omega) (by omega) (by omega), f3 a (by omega), f2 a (by omega), a2.1 a (by omega) (by omega) (by omega) (by omega)]
  have i5 : m4 256 5 = nI L := by rw [F4.2 5 (by omega) (by omega), f3i 5 (by omega) (by omega), a2.2 5 (by omega)]; exact hT.2.1
  have mstart : ∀ nO nT nR mm, cnt3 nO nT nR mm → mm 298 10 = nI L → (∀ j, j < L → mm 305 j = nI (B j) ∧ B j < 256) → CoR (mm 306) (mm 307) → ∃ mh, (f_Mo_takesRule 298 mm = if (hdK B L).1 = true then mIu mh else some (nI 0, mh)) ∧ HMu B L (hdK B L).2 mh ∧ (∀ a, a ≠ 298 → mh a = mm a) ∧ (∀ i, i < 13 ∨ 33 < i → mh 298 i = mm 298 i) ∧ mh 298 27 = nI 0 ∧ mh 298 25 = m1I ∧ mh 298 26 = m1I ∧ ((hdK B L).1 = true → mh 298 19 = nI (tkT B L 0 - 11) ∧ mh 298 20 = nI (tkV B L 1) ∧ mh 298 21 = (if tkT B L 0 - 11 = 5 then m1I else nI (tkV B L 2)) ∧ mh 298 28 = b2 (bhB nO nT nR (tkT B L 0 - 11) (tkV B L 1) (tkV B L 2))) := fun nO nT nR mm hc e10 hb hco => by
    obtain ⟨n1, hn1⟩ : ∃ n1, n1 = up2 (up2 (up2 (up2 (up2 (up2 mm 298 13 (nI L)) 298 14 (nI 0)) 298 18 m1I) 298 25 m1I) 298 26 m1I) 298 27 (nI 0) := ⟨_, rfl⟩
    have na : ∀ a, a ≠ 298 → n1 a = mm a := fun a ha => by rw [hn1]; simp -dsimp -implicitDefEqProofs (disch := omega) only [up2_r]
    have ni : ∀ i, i < 13 ∨ 33 < i → n1 298 i = mm 298 i := fun i hi => by rw [hn1]; simp -dsimp -implicitDefEqProofs (disch := omega) only [up2_e, pk_un]
    have tp : TpM B L n1 := ⟨hL, by rw [hn1]; simp -dsimp -implicitDefEqProofs (disch := omega) only [up2_e, pk_un, pk_us], by rw [na 305 (by omega)]; exact hb, by rw [na 306 (by omega), na 307 (by omega)]; exact hco⟩
    obtain ⟨n2, z1, z2, z3⟩ := mo_goT (k := 0) tp (by rw [hn1]; simp -dsimp -implicitDefEqProofs (disch := omega) only [up2_e, pk_un, pk_us]; rfl) (by rw [hn1]; simp -dsimp -implicitDefEqProofs (disch := omega) only [up2_e, pk_un, pk_us]; rfl)
    have n25 : n2 298 25 = m1I ∧ n2 298 26 = m1I ∧ n2 298 27 = nI 0 := by
      rw [z2.2 25 (by omega), z2.2 26 (by omega), z2.2 27 (by omega), hn1]
      exact ⟨by simp -dsimp -implicitDefEqProofs (disch := omega) only [up2_e, pk_un, pk_us], by simp -dsimp -implicitDefEqProofs (disch := omega) only [up2_e, pk_un, pk_us], by simp -dsimp -implicitDefEqProofs (disch := omega) only [up2_e, pk_un, pk_us]⟩
    have hH : HMu B L 0 n2 := ⟨TpM_i tp (fun a h1 _ _ => z2.1 a h1) (z2.2 13 (by omega)), z3⟩
    obtain ⟨mh, y1, y2, y3, y4, y5⟩ := mo_head (nO := nO) (nT := nT) (nR := nR) hH (by unfold cnt3; rw [z2.1 299 (by omega), na 299 (by omega)]; exact hc)
    refine ⟨mh, ?_, y2, fun a ha => by rw [y3 a ha, z2.1 a ha, na a ha], fun i hi => by rw [y4 i (by omega), z2.2 i (by omega), ni i hi], by rw [y4 27 (by omega)]; exact n25.2.2, by rw [y4 25 (by omega)]; exact n25.1, by rw [y4 26 (by omega)]; exact n25.2.1, y5⟩
    rw [hn1] at z1
    cases hd : (hdK B L).1
    · rw [hd, b2_f] at y1
      rw [if_neg (by decide)]
      simp -dsimp -implicitDefEqProofs (disch := omega) only [f_Mo_takesRule, ↓l_m1, l_0, l_1, l_2, l_3, l_4, l_5, l_6, l_7, l_8, l_9, l_10, l_11, l_12, l_13, l_14, l_15, l_16, l_17, l_20, l_21, l_22, l_23, l_24, l_28, l_29, l_30, l_31, l_32, l_40, l_41, l_48, l_57, l_60, l_62, l_63, l_84, l_96, l_97, l_99, l_100, l_122, l_132, l_144, l_150, l_186, l_255, l_256, l_288, l_300, l_522, l_634, l_999, l_5242, l_5410, l_5420, l_5520, l_5528, l_9999, l_65535, l_65536, l_100000, l_16777215, l_252645135, l_858993459, l_1431655765, ↓reduceIte, Nat.reduceAdd, Nat.reduceMul, Nat.reduceSub, ixN, inbN, leT, leF, ltT, ltF, eqT, eqF, eqM, eqNone, addN, mulN, subN, m1N, ↓to_bnd, bnd_some, ↓to_nmT, nmT_eq, up2_r, up2_e, pk_us, pk_un, b2_t, b2_f, b2_0, b2_1, zB_1, zB_0, zB_b2, not_true_eq_false, not_false_eq_true, r_Mo, Nat.add_zero, Nat.add_sub_cancel, within_R, within_N, in_R, in_N, inN_yes, inR_yes, inR_pred, orNone_nn, nn_m, nn_N, f_Ct_isDay, f_Ct_isThing, f_Ct_isKind, f_Ct_isRoomSeat, f_Ct_isOffice, f_Ct_isTable, f_Ct_isPaper, f_Ct_isRule, f_Ct_isDecision, f_Mo_isOffice, f_Mo_isTable, f_Mo_isPaper, f_Mo_isRule, f_Mo_isDecision, f_Mo_isDay, f_Mo_isThing, f_Mo_paperOf, f_Mo_set, e10, z1, y1]
    · rw [hd, b2_t] at y1
      rw [if_pos rfl]
      unfold mIu
      simp -dsimp -implicitDefEqProofs (disch := omega) only [f_Mo_takesRule, ↓l_m1, l_0, l_1, l_2, l_3, l_4, l_5, l_6, l_7, l_8, l_9, l_10, l_11, l_12, l_13, l_14, l_15, l_16, l_17, l_20, l_21, l_22, l_23, l_24, l_28, l_29, l_30, l_31, l_32, l_40, l_41, l_48, l_57, l_60, l_62, l_63, l_84, l_96, l_97, l_99, l_100, l_122, l_132, l_144, l_150, l_186, l_255, l_256, l_288, l_300, l_522, l_634, l_999, l_5242, l_5410, l_5420, l_5520, l_5528, l_9999, l_65535, l_65536, l_100000, l_16777215, l_252645135, l_858993459, l_1431655765, ↓reduceIte, Nat.reduceAdd, Nat.reduceMul, Nat.reduceSub, ixN, inbN, leT, leF, ltT, ltF, eqT, eqF, eqM, eqNone, addN, mulN, subN, m1N, ↓to_bnd, bnd_some, ↓to_nmT, nmT_eq, up2_r, up2_e, pk_us, pk_un, b2_t, b2_f, b2_0, b2_1, zB_1, zB_0, zB_b2, not_true_eq_false, not_false_eq_true, r_Mo, Nat.add_zero, Nat.add_sub_cancel, within_R, within_N, in_R, in_N, inN_yes, inR_yes, inR_pred, orNone_nn, nn_m, nn_N, f_Ct_isDay, f_Ct_isThing, f_Ct_isKind, f_Ct_isRoomSeat, f_Ct_isOffice, f_Ct_isTable, f_Ct_isPaper, f_Ct_isRule, f_Ct_isDecision, f_Mo_isOffice, f_Mo_isTable, f_Mo_isPaper, f_Mo_isRule, f_Mo_isDecision, f_Mo_isDay, f_Mo_isThing, f_Mo_paperOf, f_Mo_set, e10, z1, y1]
  have kb : (hdK B L).2 ≤ K := C4.2.2.2.1
  have rowP : ∀ mx kf, FrC m4 mx → kf ≤ K → mx 259 kf = nI (tkP B L kf) := fun mx kf f hk => by
    rw [f.1 259 (by omega) (by omega) (by omega)]
    exact (E4.2.2.2.2 kf hk).2.1
  have pl : ∀ kf, tkP B L kf ≤ 96 := fun kf => Nat.le_trans (tkP_le B L kf).2 hL
  cases hd : (hdK B L).1
  · rw [hd, if_neg (by decide)] at top
    refine ⟨false, (hdK B L).2, 0, 0, 0, [], [], m4, top, fr4, i5, by omega, CS_7 C4, rowP m4 _ ⟨fun _ _ _ _ => rfl, fun _ _ _ => rfl⟩ kb, pl _, fun q => (by cases q), fun nO nT nR mm hc e10 hb hco => ?_⟩
    obtain ⟨mh, y1, y2, y3, y4, -⟩ := mstart nO nT nR mm hc e10 hb hco
    rw [hd, if_neg (by decide)] at y1
    exact ⟨mh, y1, fun a h1 _ _ => y3 a h1, y4, fun _ => y2.2.2.2.1, fun q => (by cases q)⟩
  · rw [hd, if_pos rfl] at top
    obtain ⟨b, kf, d1, d2, m', g1, g2, g3, g4, g5, g6, g7⟩ := both_I E4 hL C4
    obtain ⟨w0, w1, w2⟩ := h2 hd
    have hv : (11 ≤ tkT B L 0 ∧ tkT B L 0 ≤ 16) ∧ tkT B L 1 = 1 ∧ (tkT B L 0 = 16 ∨ tkT B L 2 = 1) := by
      unfold hdK at hd
      by_cases c : 11 ≤ tkT B L 0 ∧ tkT B L 0 ≤ 16
      · rw [if_pos c] at hd
        by_cases c1 : tkT B L 1 = 1
        · rw [if_pos c1] at hd
          by_cases c5 : tkT B L 0 = 16
          · exact ⟨c, c1, Or.inl c5⟩
          · rw [if_neg c5] at hd
            by_cases c2 : tkT B L 2 = 1
            · exact ⟨c, c1, Or.inr c2⟩
            · rw [if_neg c2] at hd; cases hd
        · rw [if_neg c1] at hd; cases hd
      · rw [if_neg c] at hd; cases hd
    have l1 := (tkV_lt hv.2.1).2.2
    obtain ⟨v2, hv2, lv2⟩ : ∃ v2, v2 = (if tkT B L 0 - 11 = 5 then 0 else tkV B L 2) ∧ v2 < 100000 := by
      refine ⟨_, rfl, ?_⟩
      by_cases c : tkT B L 0 - 11 = 5
      · rw [if_pos c]; omega
      · rw [if_neg c]
        have t2 : tkT B L 2 = 1 := by omega
        exact (tkV_lt t2).2.2
    refine ⟨b, kf, tkT B L 0 - 11, tkV B L 1, v2, d1, d2, m', by rw [top]; exact g1, fun a ha => by rw [g2.1 a (by omega) (by omega) (by omega), fr4 a ha], by rw [g2.2 5 (by omega) (by omega)]; exact i5, by omega, g4, rowP m' kf g2 g3, pl _, fun hb => ⟨by omega, l1, lv2, by rw [g5 0 (by omega)]; exact w0, by rw [g5 1 (by omega)]; exact w1, ?_, g6 hb⟩, fun nO nT nR mm hc e10 hb hco => ?_⟩
    · rw [g5 2 (by omega), w2]
      by_cases c : tkT B L 0 - 11 = 5
      · rw [if_pos c, if_pos c]
      · rw [if_neg c, if_neg c, hv2, if_neg c]
    · obtain ⟨mh, y1, y2, y3, y4, y5, y6, y7, y8⟩ := mstart nO nT nR mm hc e10 hb hco
      rw [hd, if_pos rfl] at y1
      obtain ⟨x0, x1, x2, x3⟩ := y8 hd
      have bhe : bhB nO nT nR (tkT B L 0 - 11) (tkV B L 1) (tkV B L 2) = bhB nO nT nR (tkT B L 0 - 11) (tkV B L 1) v2 := by
        unfold bhB
        by_cases c : tkT B L 0 - 11 = 5
        · rw [if_pos c, if_pos c]
        · rw [if_neg c, if_neg c, hv2, if_neg c]
      rw [bhe] at x3
      obtain ⟨mx, z1, z2, z3, z4⟩ := g7 nO _ mh hc.2.2.2.1 y2 (by rw [y3 299 (by omega)]; exact hc.1) y5 x3 y6 y7
      refine ⟨mx, by rw [y1]; exact z1, fun a h1 h2 h3 => by rw [z2.1 a h1 h2 h3, y3 a h1], fun i hi => by rw [z2.2 i (by omega), y4 i hi], z3, fun hb => ⟨by rw [z2.2 19 (by omega)]; exact x0, by rw [z2.2 20 (by omega)]; exact x1, ?_, z4 hb⟩⟩
      rw [z2.2 21 (by omega), x2]
      by_cases c : tkT B L 0 - 11 = 5
      · rw [if_pos c, if_pos c]
      · rw [if_neg c, if_neg c, hv2, if_neg c]
