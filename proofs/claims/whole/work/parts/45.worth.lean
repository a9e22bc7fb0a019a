/-! how a condition is worked out -/
def d2 (q : Nat) (x : Bool) : Nat := 2 * q + (if x = true then 1 else 0)
theorem bl_lt (x : Bool) : (if x = true then 1 else 0) < 2 ^ 1 := by cases x <;> decide
theorem d2_xor (q : Nat) (x : Bool) : d2 q x ^^^ 1 = d2 q (!x) := by
  unfold d2
  apply Nat.eq_of_testBit_eq
  intro j
  have e := Nat.testBit_two_pow_mul_add q (bl_lt x) j
  have e2 := Nat.testBit_two_pow_mul_add q (bl_lt (!x)) j
  have e3 := Nat.testBit_two_pow_mul_add 0 (show 1 < 2 ^ 1 by decide) j
  rw [Nat.pow_one] at e e2
  rw [Nat.pow_one, Nat.mul_zero, Nat.zero_add] at e3
  rw [Nat.testBit_xor, e, e2, e3]
  by_cases c : j < 1
  · rw [if_pos c, if_pos c, if_pos c]
    have : j = 0 := by omega
    subst this
    cases x <;> decide
  · rw [if_neg c, if_neg c, if_neg c, Nat.zero_testBit, Bool.xor_false]
theorem d2_or (q : Nat) (x y : Bool) : d2 q x ||| (if y = true then 1 else 0) = d2 q (x || y) := by
  unfold d2
  apply Nat.eq_of_testBit_eq
  intro j
  have e := Nat.testBit_two_pow_mul_add q (bl_lt x) j
  have e2 := Nat.testBit_two_pow_mul_add q (bl_lt (x || y)) j
  have e3 := Nat.testBit_two_pow_mul_add 0 (bl_lt y) j
  rw [Nat.pow_one] at e e2
  rw [Nat.pow_one, Nat.mul_zero, Nat.zero_add] at e3
  rw [Nat.testBit_or, e, e2, e3]
  by_cases c : j < 1
  · rw [if_pos c, if_pos c, if_pos c]
    have : j = 0 := by omega
    subst this
    cases x <;> cases y <;> decide
  · rw [if_neg c, if_neg c, if_neg c, Nat.zero_testBit, Bool.or_false]
theorem b_m2 : ∀ i, i < 32 → btI (-nI 2) i = decide (¬ i = 0) := by decide +kernel
theorem d2_clr (q : Nat) (x : Bool) : nI (d2 q x) &&& -nI 2 = nI (d2 q false) := by
  refine b_ext (fun i hi => ?_)
  rw [b_and, b_nI _ hi, b_m2 i hi, b_nI _ hi]
  unfold d2
  have e := Nat.testBit_two_pow_mul_add q (bl_lt x) i
  have e2 := Nat.testBit_two_pow_mul_add q (bl_lt false) i
  rw [Nat.pow_one] at e e2
  rw [e, e2]
  by_cases c : i = 0
  · subst c
    rw [decide_eq_false (by omega), Bool.and_false]; rfl
  · rw [decide_eq_true c, Bool.and_true, if_neg (by omega), if_neg (by omega)]
theorem fa_or (a b : Nat) : nI a ||| nI b = nI (a ||| b) := by
  apply Int32.toBitVec_inj.1
  show BitVec.ofNat 32 a ||| BitVec.ofNat 32 b = BitVec.ofNat 32 (a ||| b)
  apply BitVec.eq_of_getLsbD_eq
  intro i hi
  simp [hi]
theorem fa_xor (a b : Nat) : nI a ^^^ nI b = nI (a ^^^ b) := by
  apply Int32.toBitVec_inj.1
  show BitVec.ofNat 32 a ^^^ BitVec.ofNat 32 b = BitVec.ofNat 32 (a ^^^ b)
  apply BitVec.eq_of_getLsbD_eq
  intro i hi
  simp [hi]
theorem pnd_c (x : Bool) (t : List Bool) : pnd (x :: t) = d2 (pnd t) x := rfl
theorem and_1 (q : Nat) (x : Bool) : nI (d2 q x) &&& nI 1 = b2 x := by
  refine b_ext (fun i hi => ?_)
  rw [b_and, b_nI _ hi, b_one i hi, b_b2 x hi]
  unfold d2
  have e := Nat.testBit_two_pow_mul_add q (bl_lt x) i
  rw [Nat.pow_one] at e
  rw [e]
  by_cases c : i = 0
  · subst c
    rw [if_pos (by omega)]
    cases x <;> decide
  · rw [decide_eq_false c, Bool.and_false, Bool.and_false]
theorem not_1 (q : Nat) (x : Bool) : nI (d2 q x) ^^^ nI 1 = nI (d2 q (!x)) := by rw [fa_xor, d2_xor]
theorem ush_1 {q : Nat} (x : Bool) (h : q < 1073741824) : ush (nI (d2 q x)) (nI 1) = nI q := by
  have e := (ushN (n := d2 q x) (by unfold d2; split <;> omega)).1
  rw [show (nI 1 : Int32) = 1 from rfl, e]
  congr 1
  unfold d2
  split <;> omega
theorem or_1 (q : Nat) (x y : Bool) : nI (d2 q x) ||| b2 y = nI (d2 q (x || y)) := by
  have e : b2 y = nI (if y = true then 1 else 0) := by cases y <;> rfl
  rw [e, fa_or, d2_or]
theorem shl_1 {P : Nat} (h : P < 1073741824) : nI P <<< (nI 1 &&& nI 31) = nI (d2 P false) := by
  rw [pk_shlN (n := P) (nI 1 &&& nI 31) 1 (by decide) (by omega)]
  congr 1
  unfold d2
  rw [if_neg (by decide)]; omega
/-- of a step on both sides -/
def AtK (w sg : Int32) (N k : Nat) : Prop := (k = 0 ∧ w = nI 11 ∧ sg = nI 60) ∨ (k = 1 ∧ w = nI 11 ∧ sg = nI 62) ∨ (k = 2 ∧ w = nI 12 ∧ sg = nI 60) ∨ (k = 3 ∧ w = nI 12 ∧ sg = nI 62) ∨ (k = 4 ∧ w = nI 13 ∧ sg = nI 60) ∨ (k = 5 ∧ w = nI 13 ∧ sg = nI 62) ∨ (k = 6 ∧ w = nI 14) ∨ (k = 7 ∧ w = nI 15) ∨ (k = 8 ∧ w = nI 16 ∧ N < 8)
theorem nIne {a b : Nat} {w : Int32} (h : w = nI a) (h2 : w = nI b) (ha : a < 100 := by omega) (hb : b < 100 := by omega) (hab : a ≠ b := by omega) : False := by
  rw [h, eqN (by omega) (by omega)] at h2; exact hab h2
theorem op_cases {st w sg n : Int32} {d d' : Nat} (v : OpV w sg n d d') (h : stR st w sg n) : (w = nI 10 ∧ st = nI 900000 ∧ 1 ≤ d ∧ d' = d) ∨ (w = nI 8 ∧ st = nI 1000000 ∧ 2 ≤ d ∧ d' + 1 = d) ∨ (w = nI 9 ∧ st = nI 1100000 ∧ 2 ≤ d ∧ d' + 1 = d) ∨ (d' = d + 1 ∧ ∃ N k, N < 100000 ∧ n = nI N ∧ AtV w sg N ∧ st = nI (100000 * k + N) ∧ AtK w sg N k) := by
  rcases v with ⟨hw, h1, h2⟩ | ⟨hw, h1, h2⟩ | ⟨hw, h1, h2⟩ | ⟨h1, N, hN, en, hv⟩
  · rcases h with ⟨q, e⟩ | ⟨q, e⟩ | ⟨q, e⟩ | ⟨N, hN, en, q⟩
    · exact Or.inl ⟨hw, e, h1, h2⟩
    · exact (nIne hw q).elim
    · exact (nIne hw q).elim
    · rcases q with q | q | q | q | q | q | q | q | q <;> exact (nIne hw q.1).elim
  · rcases h with ⟨q, e⟩ | ⟨q, e⟩ | ⟨q, e⟩ | ⟨N, hN, en, q⟩
    · exact (nIne hw q).elim
    · exact Or.inr (Or.inl ⟨hw, e, h1, h2⟩)
    · exact (nIne hw q).elim
    · rcases q with q | q | q | q | q | q | q | q | q <;> exact (nIne hw q.1).elim
  · rcases h with ⟨q, e⟩ | ⟨q, e⟩ | ⟨q, e⟩ | ⟨N, hN, en, q⟩
    · exact (nIne hw q).elim
    · exact (nIne hw q).elim
    · exact Or.inr (Or.inr (Or.inl ⟨hw, e, h1, h2⟩))
    · rcases q with q | q | q | q | q | q | q | q | q <;> exact (nIne hw q.1).elim
  · have hne : ∀ a, a = 8 ∨ a = 9 ∨ a = 10 → w ≠ nI a := fun a ha q => by
      rcases hv with ⟨hv | hv | hv, -⟩ | hv | hv | ⟨hv, -⟩ <;> exact nIne hv q (by omega) (by omega) (by omega)
    rcases h with ⟨q, e⟩ | ⟨q, e⟩ | ⟨q, e⟩ | ⟨N', hN', en', q⟩
    · exact (hne 10 (by omega) q).elim
    · exact (hne 8 (by omega) q).elim
    · exact (hne 9 (by omega) q).elim
    · obtain rfl : N = N' := by rw [en, eqN (by omega) (by omega)] at en'; exact en'
      have h8 : w = nI 16 → N < 8 := fun z => by
        rcases hv with ⟨hv | hv | hv, -⟩ | hv | hv | ⟨hv, h8⟩
        · exact (nIne hv z).elim
        · exact (nIne hv z).elim
        · exact (nIne hv z).elim
        · exact (nIne hv z).elim
        · exact (nIne hv z).elim
        · exact h8
      refine Or.inr (Or.inr (Or.inr ⟨h1, N, ?_⟩))
      rcases q with ⟨a, b, c⟩ | ⟨a, b, c⟩ | ⟨a, b, c⟩ | ⟨a, b, c⟩ | ⟨a, b, c⟩ | ⟨a, b, c⟩ | ⟨a, c⟩ | ⟨a, c⟩ | ⟨a, c⟩
      · exact ⟨0, hN, en, hv, by rw [c]; congr 1; omega, Or.inl ⟨rfl, a, b⟩⟩
      · exact ⟨1, hN, en, hv, c, Or.inr (Or.inl ⟨rfl, a, b⟩)⟩
      · exact ⟨2, hN, en, hv, c, Or.inr (Or.inr (Or.inl ⟨rfl, a, b⟩))⟩
      · exact ⟨3, hN, en, hv, c, Or.inr (Or.inr (Or.inr (Or.inl ⟨rfl, a, b⟩)))⟩
      · exact ⟨4, hN, en, hv, c, Or.inr (Or.inr (Or.inr (Or.inr (Or.inl ⟨rfl, a, b⟩))))⟩
      · exact ⟨5, hN, en, hv, c, Or.inr (Or.inr (Or.inr (Or.inr (Or.inr (Or.inl ⟨rfl, a, b⟩)))))⟩
      · exact ⟨6, hN, en, hv, c, Or.inr (Or.inr (Or.inr (Or.inr (Or.inr (Or.inr (Or.inl ⟨rfl, a⟩))))))⟩
      · exact ⟨7, hN, en, hv, c, Or.inr (Or.inr (Or.inr (Or.inr (Or.inr (Or.inr (Or.inr (Or.inl ⟨rfl, a⟩)))))))⟩
      · exact ⟨8, hN, en, hv, c, Or.inr (Or.inr (Or.inr (Or.inr (Or.inr (Or.inr (Or.inr (Or.inr ⟨rfl, a, h8 a⟩)))))))⟩
/-- a code that can be worked out, m steps long -/
def CDm (g : Nat → Int32) (b m : Nat) (D : Nat → Nat) : Prop := m ≤ 48 ∧ D 0 = 0 ∧ D m = 1 ∧ ∀ i, i < m → D i ≤ 30 ∧ OpV (g (b + 3 * i)) (g (b + 3 * i + 1)) (g (b + 3 * i + 2)) (D i) (D (i + 1))
theorem op_len {g : Nat → Int32} {b p i : Nat} {l : List Bool} {d d' : Nat} (v : OpV (g (b + 3 * i)) (g (b + 3 * i + 1)) (g (b + 3 * i + 2)) d d') (a : Bool) (h : l.length = d) : (opS (g (b + 3 * i)) a l).length = d' := by
  rcases v with ⟨hw, h1, h2⟩ | ⟨hw, h1, h2⟩ | ⟨hw, h1, h2⟩ | ⟨h1, N, hN, en, hv⟩
  · rw [hw]
    match l, h with
    | [], h => rw [List.length_nil] at h; omega
    | x :: t, h => rw [opS_10, List.length_cons]; rw [List.length_cons] at h; omega
  · rw [hw]
    match l, h with
    | [], h => rw [List.length_nil] at h; omega
    | [x], h => rw [List.length_cons, List.length_nil] at h; omega
    | x :: y :: t, h => rw [opS_8, List.length_cons]; rw [List.length_cons, List.length_cons] at h; omega
  · rw [hw]
    match l, h with
    | [], h => rw [List.length_nil] at h; omega
    | [x], h => rw [List.length_cons, List.length_nil] at h; omega
    | x :: y :: t, h => rw [opS_9, List.length_cons]; rw [List.length_cons, List.length_cons] at h; omega
  · rw [opS_a (N := N) (sg := g (b + 3 * i + 1)) hv, List.length_cons]; omega
theorem wst_len {g : Nat → Int32} {b p m : Nat} {D : Nat → Nat} (c : CDm g b m D) : ∀ k, k ≤ m → (wst g b p k).length = D k := by
  intro k
  induction k with
  | zero => intro _; rw [c.2.1]; rfl
  | succ k ih =>
    intro hk
    rw [wst]
    exact op_len (p := p) (c.2.2.2 k (by omega)).2 _ (ih (by omega))
theorem l_ten : nI 900000 / nI 100000 = nI 9 ∧ nI 1000000 / nI 100000 = nI 10 ∧ nI 1100000 / nI 100000 = nI 11 := ⟨by decide, by decide, by decide⟩
theorem pow31 {l : List Bool} {d : Nat} (h : l.length = d) (hd : d ≤ 30) : pnd l < 1073741824 := by
  have := pnd_lt l
  have e : 2 ^ l.length ≤ 2 ^ 30 := Nat.pow_le_pow_right (by decide) (by omega)
  omega
theorem c_isSo {σ : Mm} {s r x b p m o : Nat} {g : Nat → Int32} {D : Nat → Nat} (bs : BS s) (hr : r < 16) (c : CDm g b m D) (hp : PaR (σ x) g p) (hm : o + m ≤ 96) (hst : ∀ i, i < m → stR (σ (s + 53 + 2 * r) (o + i)) (g (b + 3 * i)) (g (b + 3 * i + 1)) (g (b + 3 * i + 2))) : f_Ru_isSo σ (s + 52 + 2 * r) (nI o) (nI (o + m)) x (g 0) (g 1) = some (b2 (wB g b p m)) := by
  unfold f_Ru_isSo
  refine loopA (fun f k => f_Ru_isSo_6 σ f (s + 52 + 2 * r) (nI (o + m)) x (g 0) (g 1) (nI (pnd (wst g b p k))) (nI (o + k))) _ m (fun f => ?_) (fun f k hk => ?_) (NN_lt (by omega))
  · have l := wst_len (p := p) c m (Nat.le_refl _)
    rw [c.2.2.1] at l
    unfold wB
    match e : wst g b p m, l with
    | [y], _ =>
      rw [pnd_c]
      cases y
      · simp -dsimp -implicitDefEqProofs (disch := omega) only [f_Ru_isSo_6, f_Ru_isSo_140, f_Ru_isSo_153, ↓l_m1, l_0, l_1, l_2, l_3, l_4, l_5, l_6, l_7, l_8, l_9, l_10, l_11, l_12, l_13, l_14, l_15, l_16, l_17, l_20, l_21, l_22, l_23, l_24, l_28, l_29, l_30, l_31, l_32, l_40, l_41, l_48, l_57, l_60, l_62, l_63, l_84, l_96, l_97, l_99, l_100, l_122, l_132, l_144, l_150, l_186, l_255, l_256, l_288, l_300, l_522, l_634, l_999, l_5242, l_5410, l_5420, l_5520, l_5528, l_9999, l_65535, l_65536, l_100000, l_16777215, l_252645135, l_858993459, l_1431655765, ↓reduceIte, Nat.reduceAdd, Nat.reduceMul, Nat.reduceSub, ixN, inbN, leT, leF, ltT, ltF, eqT, eqF, eqM, eqNone, addN, mulN, subN, m1N, ↓to_bnd, bnd_some, ↓to_nmT, nmT_eq, up2_r, up2_e, pk_us, pk_un, b2_t, b2_f, b2_0, b2_1, zB_1, zB_0, zB_b2, not_true_eq_false, not_false_eq_true, r_Mo, Nat.add_zero, Nat.add_sub_cancel, within_R, within_N, in_R, in_N, inN_yes, inR_yes, inR_pred, orNone_nn, nn_m, nn_N, f_Ct_isDay, f_Ct_isThing, f_Ct_isKind, f_Ct_isRoomSeat, f_Ct_isOffice, f_Ct_isTable, f_Ct_isPaper, f_Ct_isRule, f_Ct_isDecision, f_Mo_isOffice, f_Mo_isTable, f_Mo_isPaper, f_Mo_isRule, f_Mo_isDecision, f_Mo_isDay, f_Mo_isThing, f_Mo_paperOf, f_Mo_set, and_1, List.headD_cons]
      · simp -dsimp -implicitDefEqProofs (disch := omega) only [f_Ru_isSo_6, f_Ru_isSo_140, f_Ru_isSo_153, ↓l_m1, l_0, l_1, l_2, l_3, l_4, l_5, l_6, l_7, l_8, l_9, l_10, l_11, l_12, l_13, l_14, l_15, l_16, l_17, l_20, l_21, l_22, l_23, l_24, l_28, l_29, l_30, l_31, l_32, l_40, l_41, l_48, l_57, l_60, l_62, l_63, l_84, l_96, l_97, l_99, l_100, l_122, l_132, l_144, l_150, l_186, l_255, l_256, l_288, l_300, l_522, l_634, l_999, l_5242, l_5410, l_5420, l_5520, l_5528, l_9999, l_65535, l_65536, l_100000, l_16777215, l_252645135, l_858993459, l_1431655765, ↓reduceIte, Nat.reduceAdd, Nat.reduceMul, Nat.reduceSub, ixN, inbN, leT, leF, ltT, ltF, eqT, eqF, eqM, eqNone, addN, mulN, subN, m1N, ↓to_bnd, bnd_some, ↓to_nmT, nmT_eq, up2_r, up2_e, pk_us, pk_un, b2_t, b2_f, b2_0, b2_1, zB_1, zB_0, zB_b2, not_true_eq_false, not_false_eq_true, r_Mo, Nat.add_zero, Nat.add_sub_cancel, within_R, within_N, in_R, in_N, inN_yes, inR_yes, inR_pred, orNone_nn, nn_m, nn_N, f_Ct_isDay, f_Ct_isThing, f_Ct_isKind, f_Ct_isRoomSeat, f_Ct_isOffice, f_Ct_isTable, f_Ct_isPaper, f_Ct_isRule, f_Ct_isDecision, f_Mo_isOffice, f_Mo_isTable, f_Mo_isPaper, f_Mo_isRule, f_Mo_isDecision, f_Mo_isDay, f_Mo_isThing, f_Mo_paperOf, f_Mo_set, and_1, List.headD_cons]
  · have l := wst_len (p := p) c k (by omega)
    obtain ⟨hD, v⟩ := c.2.2.2 k hk
    have q := op_cases v (hst k hk)
    have hP := pow31 l hD
    rw [wst]
    rcases q with ⟨hw, es, h1, -⟩ | ⟨hw, es, h1, -⟩ | ⟨hw, es, h1, -⟩ | ⟨-, N, kk, hN, en, hv, es, hk2⟩
    · match e : wst g b p k, l with
      | [], l => rw [List.length_nil] at l; omega
      | y :: t, _ =>
        rw [hw, opS_10, pnd_c, pnd_c]
        simp -dsimp -implicitDefEqProofs (disch := omega) only [f_Ru_isSo_6, f_Ru_isSo_134, ↓l_m1, l_0, l_1, l_2, l_3, l_4, l_5, l_6, l_7, l_8, l_9, l_10, l_11, l_12, l_13, l_14, l_15, l_16, l_17, l_20, l_21, l_22, l_23, l_24, l_28, l_29, l_30, l_31, l_32, l_40, l_41, l_48, l_57, l_60, l_62, l_63, l_84, l_96, l_97, l_99, l_100, l_122, l_132, l_144, l_150, l_186, l_255, l_256, l_288, l_300, l_522, l_634, l_999, l_5242, l_5410, l_5420, l_5520, l_5528, l_9999, l_65535, l_65536, l_100000, l_16777215, l_252645135, l_858993459, l_1431655765, ↓reduceIte, Nat.reduceAdd, Nat.reduceMul, Nat.reduceSub, ixN, inbN, leT, leF, ltT, ltF, eqT, eqF, eqM, eqNone, addN, mulN, subN, m1N, ↓to_bnd, bnd_some, ↓to_nmT, nmT_eq, up2_r, up2_e, pk_us, pk_un, b2_t, b2_f, b2_0, b2_1, zB_1, zB_0, zB_b2, not_true_eq_false, not_false_eq_true, r_Mo, Nat.add_zero, Nat.add_sub_cancel, within_R, within_N, in_R, in_N, inN_yes, inR_yes, inR_pred, orNone_nn, nn_m, nn_N, f_Ct_isDay, f_Ct_isThing, f_Ct_isKind, f_Ct_isRoomSeat, f_Ct_isOffice, f_Ct_isTable, f_Ct_isPaper, f_Ct_isRule, f_Ct_isDecision, f_Mo_isOffice, f_Mo_isTable, f_Mo_isPaper, f_Mo_isRule, f_Mo_isDecision, f_Mo_isDay, f_Mo_isThing, f_Mo_paperOf, f_Mo_set, r_rs bs hr, es, l_ten.1, not_1, Nat.add_assoc o k 1]
    · match e : wst g b p k, l with
      | [], l => rw [List.length_nil] at l; omega
      | [y], l => rw [List.length_cons, List.length_nil] at l; omega
      | y :: z :: t, _ =>
        rw [e, pnd_c] at hP
        have hq : pnd (z :: t) < 1073741824 := by unfold d2 at hP; omega
        rw [hw, opS_8, pnd_c y, pnd_c (z && y)]
        cases y
        · rw [pnd_c] at hq ⊢
          simp -dsimp -implicitDefEqProofs (disch := omega) only [f_Ru_isSo_6, f_Ru_isSo_134, f_Ru_isSo_82, ↓l_m1, l_0, l_1, l_2, l_3, l_4, l_5, l_6, l_7, l_8, l_9, l_10, l_11, l_12, l_13, l_14, l_15, l_16, l_17, l_20, l_21, l_22, l_23, l_24, l_28, l_29, l_30, l_31, l_32, l_40, l_41, l_48, l_57, l_60, l_62, l_63, l_84, l_96, l_97, l_99, l_100, l_122, l_132, l_144, l_150, l_186, l_255, l_256, l_288, l_300, l_522, l_634, l_999, l_5242, l_5410, l_5420, l_5520, l_5528, l_9999, l_65535, l_65536, l_100000, l_16777215, l_252645135, l_858993459, l_1431655765, ↓reduceIte, Nat.reduceAdd, Nat.reduceMul, Nat.reduceSub, ixN, inbN, leT, leF, ltT, ltF, eqT, eqF, eqM, eqNone, addN, mulN, subN, m1N, ↓to_bnd, bnd_some, ↓to_nmT, nmT_eq, up2_r, up2_e, pk_us, pk_un, b2_t, b2_f, b2_0, b2_1, zB_1, zB_0, zB_b2, not_true_eq_false, not_false_eq_true, r_Mo, Nat.add_zero, Nat.add_sub_cancel, within_R, within_N, in_R, in_N, inN_yes, inR_yes, inR_pred, orNone_nn, nn_m, nn_N, f_Ct_isDay, f_Ct_isThing, f_Ct_isKind, f_Ct_isRoomSeat, f_Ct_isOffice, f_Ct_isTable, f_Ct_isPaper, f_Ct_isRule, f_Ct_isDecision, f_Mo_isOffice, f_Mo_isTable, f_Mo_isPaper, f_Mo_isRule, f_Mo_isDecision, f_Mo_isDay, f_Mo_isThing, f_Mo_paperOf, f_Mo_set, r_rs bs hr, es, l_ten.2.1, and_1, ush_1, d2_clr, Bool.and_false, Nat.add_assoc o k 1]
        · rw [pnd_c] at hq ⊢
          simp -dsimp -implicitDefEqProofs (disch := omega) only [f_Ru_isSo_6, f_Ru_isSo_134, f_Ru_isSo_82, ↓l_m1, l_0, l_1, l_2, l_3, l_4, l_5, l_6, l_7, l_8, l_9, l_10, l_11, l_12, l_13, l_14, l_15, l_16, l_17, l_20, l_21, l_22, l_23, l_24, l_28, l_29, l_30, l_31, l_32, l_40, l_41, l_48, l_57, l_60, l_62, l_63, l_84, l_96, l_97, l_99, l_100, l_122, l_132, l_144, l_150, l_186, l_255, l_256, l_288, l_300, l_522, l_634, l_999, l_5242, l_5410, l_5420, l_5520, l_5528, l_9999, l_65535, l_65536, l_100000, l_16777215, l_252645135, l_858993459, l_1431655765, ↓reduceIte, Nat.reduceAdd, Nat.reduceMul, Nat.reduceSub, ixN, inbN, leT, leF, ltT, ltF, eqT, eqF, eqM, eqNone, addN, mulN, subN, m1N, ↓to_bnd, bnd_some, ↓to_nmT, nmT_eq, up2_r, up2_e, pk_us, pk_un, b2_t, b2_f, b2_0, b2_1, zB_1, zB_0, zB_b2, not_true_eq_false, not_false_eq_true, r_Mo, Nat.add_zero, Nat.add_sub_cancel, within_R, within_N, in_R, in_N, inN_yes, inR_yes, inR_pred, orNone_nn, nn_m, nn_N, f_Ct_isDay, f_Ct_isThing, f_Ct_isKind, f_Ct_isRoomSeat, f_Ct_isOffice, f_Ct_isTable, f_Ct_isPaper, f_Ct_isRule, f_Ct_isDecision, f_Mo_isOffice, f_Mo_isTable, f_Mo_isPaper, f_Mo_isRule, f_Mo_isDecision, f_Mo_isDay, f_Mo_isThing, f_Mo_paperOf, f_Mo_set, r_rs bs hr, es, l_ten.2.1, and_1, ush_1, Bool.and_true, Nat.add_assoc o k 1]
    · match e : wst g b p k, l with
      | [], l => rw [List.length_nil] at l; omega
      | [y], l => rw [List.length_cons, List.length_nil] at l; omega
      | y :: z :: t, _ =>
        rw [e, pnd_c] at hP
        have hq : pnd (z :: t) < 1073741824 := by unfold d2 at hP; omega
        rw [hw, opS_9, pnd_c y, pnd_c (z || y)]
        rw [pnd_c] at hq ⊢
        simp -dsimp -implicitDefEqProofs (disch := omega) only [f_Ru_isSo_6, f_Ru_isSo_134, ↓l_m1, l_0, l_1, l_2, l_3, l_4, l_5, l_6, l_7, l_8, l_9, l_10, l_11, l_12, l_13, l_14, l_15, l_16, l_17, l_20, l_21, l_22, l_23, l_24, l_28, l_29, l_30, l_31, l_32, l_40, l_41, l_48, l_57, l_60, l_62, l_63, l_84, l_96, l_97, l_99, l_100, l_122, l_132, l_144, l_150, l_186, l_255, l_256, l_288, l_300, l_522, l_634, l_999, l_5242, l_5410, l_5420, l_5520, l_5528, l_9999, l_65535, l_65536, l_100000, l_16777215, l_252645135, l_858993459, l_1431655765, ↓reduceIte, Nat.reduceAdd, Nat.reduceMul, Nat.reduceSub, ixN, inbN, leT, leF, ltT, ltF, eqT, eqF, eqM, eqNone, addN, mulN, subN, m1N, ↓to_bnd, bnd_some, ↓to_nmT, nmT_eq, up2_r, up2_e, pk_us, pk_un, b2_t, b2_f, b2_0, b2_1, zB_1, zB_0, zB_b2, not_true_eq_false, not_false_eq_true, r_Mo, Nat.add_zero, Nat.add_sub_cancel, within_R, within_N, in_R, in_N, inN_yes, inR_yes, inR_pred, orNone_nn, nn_m, nn_N, f_Ct_isDay, f_Ct_isThing, f_Ct_isKind, f_Ct_isRoomSeat, f_Ct_isOffice, f_Ct_isTable, f_Ct_isPaper, f_Ct_isRule, f_Ct_isDecision, f_Mo_isOffice, f_Mo_isTable, f_Mo_isPaper, f_Mo_isRule, f_Mo_isDecision, f_Mo_isDay, f_Mo_isThing, f_Mo_paperOf, f_Mo_set, r_rs bs hr, es, l_ten.2.2, and_1, ush_1, or_1, Nat.add_assoc o k 1]
    · have ca := c_isAtomSo (σ := σ) (x := x) (b := b + 3 * k) hp en hN es hk2
      rw [opS_a hv, pnd_c]
      obtain ⟨d1, -⟩ := div5 (k := kk) hN (by unfold AtK at hk2; omega)
      have hkk : kk ≤ 8 := by unfold AtK at hk2; omega
      rw [es] at ca
      cases ct : atomB g (b + 3 * k) p
      · rw [ct] at ca
        have o1 := or_1 (pnd (wst g b p k)) false false
        rw [b2_f] at o1
        simp -dsimp -implicitDefEqProofs (disch := omega) only [f_Ru_isSo_6, f_Ru_isSo_134, f_Ru_isSo_131, ↓l_m1, l_0, l_1, l_2, l_3, l_4, l_5, l_6, l_7, l_8, l_9, l_10, l_11, l_12, l_13, l_14, l_15, l_16, l_17, l_20, l_21, l_22, l_23, l_24, l_28, l_29, l_30, l_31, l_32, l_40, l_41, l_48, l_57, l_60, l_62, l_63, l_84, l_96, l_97, l_99, l_100, l_122, l_132, l_144, l_150, l_186, l_255, l_256, l_288, l_300, l_522, l_634, l_999, l_5242, l_5410, l_5420, l_5520, l_5528, l_9999, l_65535, l_65536, l_100000, l_16777215, l_252645135, l_858993459, l_1431655765, ↓reduceIte, Nat.reduceAdd, Nat.reduceMul, Nat.reduceSub, ixN, inbN, leT, leF, ltT, ltF, eqT, eqF, eqM, eqNone, addN, mulN, subN, m1N, ↓to_bnd, bnd_some, ↓to_nmT, nmT_eq, up2_r, up2_e, pk_us, pk_un, b2_t, b2_f, b2_0, b2_1, zB_1, zB_0, zB_b2, not_true_eq_false, not_false_eq_true, r_Mo, Nat.add_zero, Nat.add_sub_cancel, within_R, within_N, in_R, in_N, inN_yes, inR_yes, inR_pred, orNone_nn, nn_m, nn_N, f_Ct_isDay, f_Ct_isThing, f_Ct_isKind, f_Ct_isRoomSeat, f_Ct_isOffice, f_Ct_isTable, f_Ct_isPaper, f_Ct_isRule, f_Ct_isDecision, f_Mo_isOffice, f_Mo_isTable, f_Mo_isPaper, f_Mo_isRule, f_Mo_isDecision, f_Mo_isDay, f_Mo_isThing, f_Mo_paperOf, f_Mo_set, r_rs bs hr, es, d1, ca, shl_1, o1, Bool.or_false, Nat.add_assoc o k 1]
      · rw [ct] at ca
        have o1 := or_1 (pnd (wst g b p k)) false true
        rw [b2_t] at o1
        simp -dsimp -implicitDefEqProofs (disch := omega) only [f_Ru_isSo_6, f_Ru_isSo_134, f_Ru_isSo_131, ↓l_m1, l_0, l_1, l_2, l_3, l_4, l_5, l_6, l_7, l_8, l_9, l_10, l_11, l_12, l_13, l_14, l_15, l_16, l_17, l_20, l_21, l_22, l_23, l_24, l_28, l_29, l_30, l_31, l_32, l_40, l_41, l_48, l_57, l_60, l_62, l_63, l_84, l_96, l_97, l_99, l_100, l_122, l_132, l_144, l_150, l_186, l_255, l_256, l_288, l_300, l_522, l_634, l_999, l_5242, l_5410, l_5420, l_5520, l_5528, l_9999, l_65535, l_65536, l_100000, l_16777215, l_252645135, l_858993459, l_1431655765, ↓reduceIte, Nat.reduceAdd, Nat.reduceMul, Nat.reduceSub, ixN, inbN, leT, leF, ltT, ltF, eqT, eqF, eqM, eqNone, addN, mulN, subN, m1N, ↓to_bnd, bnd_some, ↓to_nmT, nmT_eq, up2_r, up2_e, pk_us, pk_un, b2_t, b2_f, b2_0, b2_1, zB_1, zB_0, zB_b2, not_true_eq_false, not_false_eq_true, r_Mo, Nat.add_zero, Nat.add_sub_cancel, within_R, within_N, in_R, in_N, inN_yes, inR_yes, inR_pred, orNone_nn, nn_m, nn_N, f_Ct_isDay, f_Ct_isThing, f_Ct_isKind, f_Ct_isRoomSeat, f_Ct_isOffice, f_Ct_isTable, f_Ct_isPaper, f_Ct_isRule, f_Ct_isDecision, f_Mo_isOffice, f_Mo_isTable, f_Mo_isPaper, f_Mo_isRule, f_Mo_isDecision, f_Mo_isDay, f_Mo_isThing, f_Mo_paperOf, f_Mo_set, r_rs bs hr, es, d1, ca, shl_1, o1, Bool.false_or, Nat.add_assoc o k 1]
