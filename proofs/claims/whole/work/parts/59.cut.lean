/-! the tape cut into words and signs -/
def nvF (B : Nat → Nat) (p : Nat) : Nat → Nat
  | 0 => 0
  | j + 1 => nvF B p j * 10 + (B (p + j) - 48)
def tcN (B : Nat → Nat) (f q s : Nat) : Nat := if s = 1 then 6 + wcN B f q else if s = 2 then (if 5 < q - f then 23 else 1) else if B f = 40 then 2 else if B f = 41 then 3 else if B f = 60 then 4 else if B f = 62 then 5 else 23
def enN (B : Nat → Nat) (L f : Nat) : Nat := if soN (B f) = 3 then f + 1 else rnN B L (soN (B f)) (f + 1)
def lxF (B : Nat → Nat) (L : Nat) (x : Nat × Nat) : Nat := skN B L x.1
def lxT (B : Nat → Nat) (L : Nat) (x : Nat × Nat) : Nat := if L ≤ lxF B L x then 0 else if soN (B (lxF B L x)) ≠ 3 ∧ x.2 = lxF B L x then 23 else tcN B (lxF B L x) (enN B L (lxF B L x)) (soN (B (lxF B L x)))
def lxN (B : Nat → Nat) (L : Nat) (x : Nat × Nat) : Nat × Nat := if L ≤ lxF B L x then (lxF B L x, x.2) else (enN B L (lxF B L x), if soN (B (lxF B L x)) = 3 then 200 else enN B L (lxF B L x))
def lxS (B : Nat → Nat) (L : Nat) : Nat → Nat × Nat
  | 0 => (0, 200)
  | k + 1 => lxN B L (lxS B L k)
def tkT (B : Nat → Nat) (L k : Nat) : Nat := lxT B L (lxS B L k)
def tkP (B : Nat → Nat) (L k : Nat) : Nat := lxF B L (lxS B L k)
def tkV (B : Nat → Nat) (L k : Nat) : Nat := nvF B (tkP B L k) (enN B L (tkP B L k) - tkP B L k)
theorem en_b {B : Nat → Nat} {L f : Nat} (h : f < L) : f + 1 ≤ enN B L f ∧ enN B L f ≤ L := by
  unfold enN
  split
  · omega
  · have := rn_b (B := B) (L := L) (s := soN (B f)) _ (f + 1) rfl (by omega)
    omega
theorem en_so {B : Nat → Nat} {L f j : Nat} (h : f < L) (h1 : f ≤ j) (h2 : j < enN B L f) : soN (B j) = soN (B f) := by
  by_cases e : j = f
  · rw [e]
  · unfold enN at h2
    by_cases c : soN (B f) = 3
    · rw [if_pos c] at h2; omega
    · rw [if_neg c] at h2
      exact (rn_b (B := B) (L := L) (s := soN (B f)) _ (f + 1) rfl (by omega)).2.2 j (by omega) h2
theorem so_2 {c : Nat} (h : soN c = 2) : 48 ≤ c ∧ c ≤ 57 := by
  unfold soN at h
  split at h
  · omega
  · split at h <;> omega
theorem so_1 {c : Nat} (h : soN c = 1) : 97 ≤ c ∧ c ≤ 122 := by
  unfold soN at h
  split at h
  · omega
  · split at h <;> omega
theorem tc_b (B : Nat → Nat) (f q s : Nat) : 1 ≤ tcN B f q s ∧ tcN B f q s ≤ 23 := by
  have := wc_le B f q
  unfold tcN
  repeat' split
  all_goals omega
theorem lxS_le (B : Nat → Nat) (L : Nat) : ∀ k, (lxS B L k).1 ≤ L
  | 0 => Nat.zero_le _
  | k + 1 => by
    have b := sk_b (B := B) (L := L) _ (lxS B L k).1 rfl (lxS_le B L k)
    rw [lxS]
    unfold lxN lxF
    split
    · exact b.2.1
    · exact (en_b (by omega)).2
theorem tkP_le (B : Nat → Nat) (L k : Nat) : (lxS B L k).1 ≤ tkP B L k ∧ tkP B L k ≤ L := by
  have b := sk_b (B := B) (L := L) _ (lxS B L k).1 rfl (lxS_le B L k)
  exact ⟨b.1, b.2.1⟩
theorem tkT_0 {B : Nat → Nat} {L k : Nat} : tkT B L k = 0 ↔ tkP B L k = L := by
  have b := tkP_le B L k
  unfold tkT lxT
  show (if L ≤ tkP B L k then 0 else _) = 0 ↔ _
  by_cases c : L ≤ tkP B L k
  · rw [if_pos c]; omega
  · rw [if_neg c]
    have t := tc_b B (lxF B L (lxS B L k)) (enN B L (lxF B L (lxS B L k))) (soN (B (lxF B L (lxS B L k))))
    split <;> omega
theorem tkT_le (B : Nat → Nat) (L k : Nat) : tkT B L k ≤ 23 := by
  unfold tkT lxT
  have t := tc_b B (lxF B L (lxS B L k)) (enN B L (lxF B L (lxS B L k))) (soN (B (lxF B L (lxS B L k))))
  repeat' split
  all_goals omega
theorem lxS_ne {B : Nat → Nat} {L k : Nat} (h : tkT B L k ≠ 0) : lxS B L (k + 1) = (enN B L (tkP B L k), if soN (B (tkP B L k)) = 3 then 200 else enN B L (tkP B L k)) ∧ tkP B L k < L := by
  have b := tkP_le B L k
  have c : tkP B L k ≠ L := fun q => h (tkT_0.mpr q)
  refine ⟨?_, by omega⟩
  rw [lxS]
  unfold lxN
  have nl : ¬ L ≤ lxF B L (lxS B L k) := show ¬ L ≤ tkP B L k by omega
  rw [if_neg nl]
  rfl
theorem tkP_s {B : Nat → Nat} {L k : Nat} (h : tkT B L k ≠ 0) : tkP B L k + 1 ≤ tkP B L (k + 1) := by
  obtain ⟨e, l⟩ := lxS_ne h
  have a := (tkP_le B L (k + 1)).1
  rw [e] at a
  have := en_b (B := B) l
  have a2 : enN B L (tkP B L k) ≤ tkP B L (k + 1) := a
  omega
theorem tkT_ne {B : Nat → Nat} {L k : Nat} (h : tkT B L k ≠ 0) (h2 : tkT B L k ≠ 23) : tkT B L k = tcN B (tkP B L k) (enN B L (tkP B L k)) (soN (B (tkP B L k))) := by
  have b := tkP_le B L k
  have c : tkP B L k ≠ L := fun q => h (tkT_0.mpr q)
  have e : tkT B L k = if L ≤ tkP B L k then 0 else if soN (B (tkP B L k)) ≠ 3 ∧ (lxS B L k).2 = tkP B L k then 23 else tcN B (tkP B L k) (enN B L (tkP B L k)) (soN (B (tkP B L k))) := rfl
  rw [if_neg (by omega)] at e
  split at e
  · exact (h2 e).elim
  · exact e
theorem tkP_w {B : Nat → Nat} {L k : Nat} (h : 6 ≤ tkT B L k) (h2 : tkT B L k ≤ 22) : tkP B L k + 2 ≤ tkP B L (k + 1) := by
  have e := tkT_ne (B := B) (L := L) (k := k) (by omega) (by omega)
  obtain ⟨e1, l⟩ := lxS_ne (B := B) (L := L) (k := k) (by omega)
  have a := (tkP_le B L (k + 1)).1
  rw [e1] at a
  have a2 : enN B L (tkP B L k) ≤ tkP B L (k + 1) := a
  have w : tkP B L k + 2 ≤ enN B L (tkP B L k) := by
    apply wc_len (B := B)
    unfold tcN at e
    repeat' split at e
    all_goals omega
  omega
theorem tkP_e {B : Nat → Nat} {L k : Nat} (h : tkT B L k = 0) : tkT B L (k + 1) = 0 := by
  have e := tkT_0.mp h
  have n : (lxS B L (k + 1)).1 = L := by
    rw [lxS]
    unfold lxN
    have nl : L ≤ lxF B L (lxS B L k) := show L ≤ tkP B L k by omega
    rw [if_pos nl]
    exact e
  have b := tkP_le B L (k + 1)
  exact tkT_0.mpr (by omega)
theorem tkP_m (B : Nat → Nat) (L k : Nat) : tkP B L k ≤ tkP B L (k + 1) := by
  by_cases h : tkT B L k = 0
  · rw [tkT_0.mp h, tkT_0.mp (tkP_e h)]; exact Nat.le_refl _
  · have := tkP_s h; omega
theorem nv_lt {B : Nat → Nat} {p : Nat} : ∀ n, (∀ j, j < n → B (p + j) ≤ 57) → nvF B p n < 10 ^ n
  | 0, _ => by rw [nvF]; decide
  | n + 1, h => by
    have a := nv_lt n (fun j hj => h j (by omega))
    have b := h n (by omega)
    rw [nvF, Nat.pow_succ]
    omega
theorem tkV_lt {B : Nat → Nat} {L k : Nat} (h : tkT B L k = 1) : soN (B (tkP B L k)) = 2 ∧ enN B L (tkP B L k) - tkP B L k ≤ 5 ∧ tkV B L k < 100000 := by
  have e := tkT_ne (B := B) (L := L) (k := k) (by omega) (by omega)
  obtain ⟨e1, l⟩ := lxS_ne (B := B) (L := L) (k := k) (by omega)
  rw [h] at e
  have s : soN (B (tkP B L k)) = 2 ∧ enN B L (tkP B L k) - tkP B L k ≤ 5 := by
    unfold tcN at e
    repeat' split at e
    all_goals omega
  refine ⟨s.1, s.2, ?_⟩
  have a := nv_lt (B := B) (p := tkP B L k) (enN B L (tkP B L k) - tkP B L k) (fun j hj => by
    have q := en_so (B := B) (L := L) (f := tkP B L k) (j := tkP B L k + j) l (by omega) (by omega)
    exact (so_2 (q.trans s.1)).2)
  have b : 10 ^ (enN B L (tkP B L k) - tkP B L k) ≤ 10 ^ 5 := Nat.pow_le_pow_right (by decide) s.2
  unfold tkV
  omega
/-! the class cuts -/
def TpC (B : Nat → Nat) (L : Nat) (m : Mm) : Prop := L ≤ 96 ∧ m 256 5 = nI L ∧ ∀ j, j < L → m 257 j = sbI (B j) ∧ B j < 256
theorem c_endOf4 {m : Mm} {B : Nat → Nat} {L s : Nat} (h : TpC B L m) (hs : s < 3) : ∀ n p f, L - p = n → p ≤ L → n < f → f_Tp_endOf_4 m f 256 (nI s) (nI p) = some (nI (rnN B L s p)) := by
  obtain ⟨hL, e5, hb⟩ := h
  intro n
  induction n with
  | zero =>
    intro p f hn hp hf
    obtain ⟨f, rfl⟩ : ∃ f', f = f' + 1 := ⟨f - 1, by omega⟩
    rw [rn_n (fun q => by omega)]
    simp -dsimp -implicitDefEqProofs (disch := omega) only [f_Tp_endOf_4, f_Tp_endOf_36, ↓l_m1, l_0, l_1, l_2, l_3, l_4, l_5, l_6, l_7, l_8, l_9, l_10, l_11, l_12, l_13, l_14, l_15, l_16, l_17, l_20, l_21, l_22, l_23, l_24, l_28, l_29, l_30, l_31, l_32, l_40, l_41, l_48, l_57, l_60, l_62, l_63, l_84, l_96, l_97, l_99, l_100, l_122, l_132, l_144, l_150, l_186, l_255, l_256, l_288, l_300, l_522, l_634, l_999, l_5242, l_5410, l_5420, l_5520, l_5528, l_9999, l_65535, l_65536, l_100000, l_16777215, l_252645135, l_858993459, l_1431655765, ↓reduceIte, Nat.reduceAdd, Nat.reduceMul, Nat.reduceSub, ixN, inbN, leT, leF, ltT, ltF, eqT, eqF, eqM, eqNone, addN, mulN, subN, m1N, ↓to_bnd, bnd_some, ↓to_nmT, nmT_eq, up2_r, up2_e, pk_us, pk_un, b2_t, b2_f, b2_0, b2_1, zB_1, zB_0, zB_b2, not_true_eq_false, not_false_eq_true, r_Mo, Nat.add_zero, Nat.add_sub_cancel, within_R, within_N, in_R, in_N, inN_yes, inR_yes, inR_pred, orNone_nn, nn_m, nn_N, f_Ct_isDay, f_Ct_isThing, f_Ct_isKind, f_Ct_isRoomSeat, f_Ct_isOffice, f_Ct_isTable, f_Ct_isPaper, f_Ct_isRule, f_Ct_isDecision, f_Mo_isOffice, f_Mo_isTable, f_Mo_isPaper, f_Mo_isRule, f_Mo_isDecision, f_Mo_isDay, f_Mo_isThing, f_Mo_paperOf, f_Mo_set, e5]
  | succ n ih =>
    intro p f hn hp hf
    obtain ⟨f, rfl⟩ : ∃ f', f = f' + 1 := ⟨f - 1, by omega⟩
    obtain ⟨b1, b2⟩ := hb p (by omega)
    have so := soN_le (B p)
    have cs := c_sortOf m b2
    by_cases c : soN (B p) = s
    · have z := ih (p + 1) f (by omega) (by omega) (by omega)
      rw [rn_s (by omega) c, ← z]
      simp -dsimp -implicitDefEqProofs (disch := omega) only [f_Tp_endOf_4, f_Tp_endOf_36, ↓l_m1, l_0, l_1, l_2, l_3, l_4, l_5, l_6, l_7, l_8, l_9, l_10, l_11, l_12, l_13, l_14, l_15, l_16, l_17, l_20, l_21, l_22, l_23, l_24, l_28, l_29, l_30, l_31, l_32, l_40, l_41, l_48, l_57, l_60, l_62, l_63, l_84, l_96, l_97, l_99, l_100, l_122, l_132, l_144, l_150, l_186, l_255, l_256, l_288, l_300, l_522, l_634, l_999, l_5242, l_5410, l_5420, l_5520, l_5528, l_9999, l_65535, l_65536, l_100000, l_16777215, l_252645135, l_858993459, l_1431655765, ↓reduceIte, Nat.reduceAdd, Nat.reduceMul, Nat.reduceSub, ixN, inbN, leT, leF, ltT, ltF, eqT, eqF, eqM, eqNone, addN, mulN, subN, m1N, ↓to_bnd, bnd_some, ↓to_nmT, nmT_eq, up2_r, up2_e, pk_us, pk_un, b2_t, b2_f, b2_0, b2_1, zB_1, zB_0, zB_b2, not_true_eq_false, not_false_eq_true, r_Mo, Nat.add_zero, Nat.add_sub_cancel, within_R, within_N, in_R, in_N, inN_yes, inR_yes, inR_pred, orNone_nn, nn_m, nn_N, f_Ct_isDay, f_Ct_isThing, f_Ct_isKind, f_Ct_isRoomSeat, f_Ct_isOffice, f_Ct_isTable, f_Ct_isPaper, f_Ct_isRule, f_Ct_isDecision, f_Mo_isOffice, f_Mo_isTable, f_Mo_isPaper, f_Mo_isRule, f_Mo_isDecision, f_Mo_isDay, f_Mo_isThing, f_Mo_paperOf, f_Mo_set, e5, rt_0, b1, cs]
    · rw [rn_n (fun _ => c)]
      simp -dsimp -implicitDefEqProofs (disch := omega) only [f_Tp_endOf_4, f_Tp_endOf_36, ↓l_m1, l_0, l_1, l_2, l_3, l_4, l_5, l_6, l_7, l_8, l_9, l_10, l_11, l_12, l_13, l_14, l_15, l_16, l_17, l_20, l_21, l_22, l_23, l_24, l_28, l_29, l_30, l_31, l_32, l_40, l_41, l_48, l_57, l_60, l_62, l_63, l_84, l_96, l_97, l_99, l_100, l_122, l_132, l_144, l_150, l_186, l_255, l_256, l_288, l_300, l_522, l_634, l_999, l_5242, l_5410, l_5420, l_5520, l_5528, l_9999, l_65535, l_65536, l_100000, l_16777215, l_252645135, l_858993459, l_1431655765, ↓reduceIte, Nat.reduceAdd, Nat.reduceMul, Nat.reduceSub, ixN, inbN, leT, leF, ltT, ltF, eqT, eqF, eqM, eqNone, addN, mulN, subN, m1N, ↓to_bnd, bnd_some, ↓to_nmT, nmT_eq, up2_r, up2_e, pk_us, pk_un, b2_t, b2_f, b2_0, b2_1, zB_1, zB_0, zB_b2, not_true_eq_false, not_false_eq_true, r_Mo, Nat.add_zero, Nat.add_sub_cancel, within_R, within_N, in_R, in_N, inN_yes, inR_yes, inR_pred, orNone_nn, nn_m, nn_N, f_Ct_isDay, f_Ct_isThing, f_Ct_isKind, f_Ct_isRoomSeat, f_Ct_isOffice, f_Ct_isTable, f_Ct_isPaper, f_Ct_isRule, f_Ct_isDecision, f_Mo_isOffice, f_Mo_isTable, f_Mo_isPaper, f_Mo_isRule, f_Mo_isDecision, f_Mo_isDay, f_Mo_isThing, f_Mo_paperOf, f_Mo_set, e5, rt_0, b1, cs]
theorem c_endOf {m : Mm} {B : Nat → Nat} {L p : Nat} (h : TpC B L m) (hp : p < L) : f_Tp_endOf m 256 (nI p) (nI (soN (B p))) = some (nI (enN B L p)) := by
  have hL := h.1
  have so := soN_le (B p)
  unfold enN
  by_cases c : soN (B p) = 3
  · rw [if_pos c, c]
    have z : ∀ f, f_Tp_endOf_4 m (f + 1) 256 (nI 3) (nI (p + 1)) = some (nI (p + 1)) := fun f => by
      simp -dsimp -implicitDefEqProofs (disch := omega) only [f_Tp_endOf_4, f_Tp_endOf_36, ↓l_m1, l_0, l_1, l_2, l_3, l_4, l_5, l_6, l_7, l_8, l_9, l_10, l_11, l_12, l_13, l_14, l_15, l_16, l_17, l_20, l_21, l_22, l_23, l_24, l_28, l_29, l_30, l_31, l_32, l_40, l_41, l_48, l_57, l_60, l_62, l_63, l_84, l_96, l_97, l_99, l_100, l_122, l_132, l_144, l_150, l_186, l_255, l_256, l_288, l_300, l_522, l_634, l_999, l_5242, l_5410, l_5420, l_5520, l_5528, l_9999, l_65535, l_65536, l_100000, l_16777215, l_252645135, l_858993459, l_1431655765, ↓reduceIte, Nat.reduceAdd, Nat.reduceMul, Nat.reduceSub, ixN, inbN, leT, leF, ltT, ltF, eqT, eqF, eqM, eqNone, addN, mulN, subN, m1N, ↓to_bnd, bnd_some, ↓to_nmT, nmT_eq, up2_r, up2_e, pk_us, pk_un, b2_t, b2_f, b2_0, b2_1, zB_1, zB_0, zB_b2, not_true_eq_false, not_false_eq_true, r_Mo, Nat.add_zero, Nat.add_sub_cancel, within_R, within_N, in_R, in_N, inN_yes, inR_yes, inR_pred, orNone_nn, nn_m, nn_N, f_Ct_isDay, f_Ct_isThing, f_Ct_isKind, f_Ct_isRoomSeat, f_Ct_isOffice, f_Ct_isTable, f_Ct_isPaper, f_Ct_isRule, f_Ct_isDecision, f_Mo_isOffice, f_Mo_isTable, f_Mo_isPaper, f_Mo_isRule, f_Mo_isDecision, f_Mo_isDay, f_Mo_isThing, f_Mo_paperOf, f_Mo_set]
    unfold f_Tp_endOf
    rw [l_1, addN]
    exact z 9999
  · rw [if_neg c]
    unfold f_Tp_endOf
    rw [l_1, addN]
    exact c_endOf4 h (by omega) _ (p + 1) NN rfl (by omega) (NN_lt (by omega))
theorem u2u (m : Mm) (k i : Nat) (v w : Int32) : up2 (up2 m k i v) k i w = up2 m k i w := by
  funext a j
  by_cases c : a = k
  · rw [c, up2_e, up2_e, up2_e]
    by_cases d : j = i
    · rw [d, pk_us, pk_us]
    · rw [pk_un d, pk_un d, pk_un d]
  · rw [up2_r _ _ _ c, up2_r _ _ _ c, up2_r _ _ _ c]
theorem c_tokenOfNumber {m : Mm} {B : Nat → Nat} {L p q k : Nat} (h : TpC B L m) (hp : p ≤ q) (hq : q ≤ L) (hd : ∀ j, p ≤ j → j < q → soN (B j) = 2) (hk : m 256 6 = nI k) (hk2 : k ≤ 96) : f_Tp_tokenOfNumber 256 (nI p) (nI q) m = some (if 5 < q - p then (nI 23, m) else (nI 1, up2 m 260 k (nI (nvF B p (q - p))))) := by
  obtain ⟨hL, e5, hb⟩ := h
  by_cases c : 5 < q - p
  · rw [if_pos c]
    simp -dsimp -implicitDefEqProofs (disch := omega) only [f_Tp_tokenOfNumber, ↓l_m1, l_0, l_1, l_2, l_3, l_4, l_5, l_6, l_7, l_8, l_9, l_10, l_11, l_12, l_13, l_14, l_15, l_16, l_17, l_20, l_21, l_22, l_23, l_24, l_28, l_29, l_30, l_31, l_32, l_40, l_41, l_48, l_57, l_60, l_62, l_63, l_84, l_96, l_97, l_99, l_100, l_122, l_132, l_144, l_150, l_186, l_255, l_256, l_288, l_300, l_522, l_634, l_999, l_5242, l_5410, l_5420, l_5520, l_5528, l_9999, l_65535, l_65536, l_100000, l_16777215, l_252645135, l_858993459, l_1431655765, ↓reduceIte, Nat.reduceAdd, Nat.reduceMul, Nat.reduceSub, ixN, inbN, leT, leF, ltT, ltF, eqT, eqF, eqM, eqNone, addN, mulN, subN, m1N, ↓to_bnd, bnd_some, ↓to_nmT, nmT_eq, up2_r, up2_e, pk_us, pk_un, b2_t, b2_f, b2_0, b2_1, zB_1, zB_0, zB_b2, not_true_eq_false, not_false_eq_true, r_Mo, Nat.add_zero, Nat.add_sub_cancel, within_R, within_N, in_R, in_N, inN_yes, inR_yes, inR_pred, orNone_nn, nn_m, nn_N, f_Ct_isDay, f_Ct_isThing, f_Ct_isKind, f_Ct_isRoomSeat, f_Ct_isOffice, f_Ct_isTable, f_Ct_isPaper, f_Ct_isRule, f_Ct_isDecision, f_Mo_isOffice, f_Mo_isTable, f_Mo_isPaper, f_Mo_isRule, f_Mo_isDecision, f_Mo_isDay, f_Mo_isThing, f_Mo_paperOf, f_Mo_set]
  · rw [if_neg c]
    have z := loopA (fun f j => f_Tp_tokenOfNumber_22 f 256 (nI q) (nI (p + j)) (up2 m 260 k (nI (nvF B p j)))) (some (nI 1, up2 m 260 k (nI (nvF B p (q - p))))) (q - p) (fun f => by simp -dsimp -implicitDefEqProofs (disch := omega) only [f_Tp_tokenOfNumber_22, ↓l_m1, l_0, l_1, l_2, l_3, l_4, l_5, l_6, l_7, l_8, l_9, l_10, l_11, l_12, l_13, l_14, l_15, l_16, l_17, l_20, l_21, l_22, l_23, l_24, l_28, l_29, l_30, l_31, l_32, l_40, l_41, l_48, l_57, l_60, l_62, l_63, l_84, l_96, l_97, l_99, l_100, l_122, l_132, l_144, l_150, l_186, l_255, l_256, l_288, l_300, l_522, l_634, l_999, l_5242, l_5410, l_5420, l_5520, l_5528, l_9999, l_65535, l_65536, l_100000, l_16777215, l_252645135, l_858993459, l_1431655765, ↓reduceIte, Nat.reduceAdd, Nat.reduceMul, Nat.reduceSub, ixN, inbN, leT, leF, ltT, ltF, eqT, eqF, eqM, eqNone, addN, mulN, subN, m1N, ↓to_bnd, bnd_some, ↓to_nmT, nmT_eq, up2_r, up2_e, pk_us, pk_un, b2_t, b2_f, b2_0, b2_1, zB_1, zB_0, zB_b2, not_true_eq_false, not_false_eq_true, r_Mo, Nat.add_zero, Nat.add_sub_cancel, within_R, within_N, in_R, in_N, inN_yes, inR_yes, inR_pred, orNone_nn, nn_m, nn_N, f_Ct_isDay, f_Ct_isThing, f_Ct_isKind, f_Ct_isRoomSeat, f_Ct_isOffice, f_Ct_isTable, f_Ct_isPaper, f_Ct_isRule, f_Ct_isDecision, f_Mo_isOffice, f_Mo_isTable, f_Mo_isPaper, f_Mo_isRule, f_Mo_isDecision, f_Mo_isDay, f_Mo_isThing, f_Mo_paperOf, f_Mo_set]) (fun f j hj => by
      obtain ⟨b1, b2⟩ := hb (p + j) (by omega)
      have d := so_2 (hd (p + j) (by omega) (by omega))
      rw [sb_lo _ (by omega)] at b1
      have v := nv_lt (B := B) (p := p) j (fun i hi => (so_2 (hd (p + i) (by omega) (by omega))).2)
      have v2 : 10 ^ j ≤ 10 ^ 5 := Nat.pow_le_pow_right (by decide) (by omega)
      rw [nvF]
      simp -dsimp -implicitDefEqProofs (disch := omega) only [f_Tp_tokenOfNumber_22, ↓l_m1, l_0, l_1, l_2, l_3, l_4, l_5, l_6, l_7, l_8, l_9, l_10, l_11, l_12, l_13, l_14, l_15, l_16, l_17, l_20, l_21, l_22, l_23, l_24, l_28, l_29, l_30, l_31, l_32, l_40, l_41, l_48, l_57, l_60, l_62, l_63, l_84, l_96, l_97, l_99, l_100, l_122, l_132, l_144, l_150, l_186, l_255, l_256, l_288, l_300, l_522, l_634, l_999, l_5242, l_5410, l_5420, l_5520, l_5528, l_9999, l_65535, l_65536, l_100000, l_16777215, l_252645135, l_858993459, l_1431655765, ↓reduceIte, Nat.reduceAdd, Nat.reduceMul, Nat.reduceSub, ixN, inbN, leT, leF, ltT, ltF, eqT, eqF, eqM, eqNone, addN, mulN, subN, m1N, ↓to_bnd, bnd_some, ↓to_nmT, nmT_eq, up2_r, up2_e, pk_us, pk_un, b2_t, b2_f, b2_0, b2_1, zB_1, zB_0, zB_b2, not_true_eq_false, not_false_eq_true, r_Mo, Nat.add_zero, Nat.add_sub_cancel, within_R, within_N, in_R, in_N, inN_yes, inR_yes, inR_pred, orNone_nn, nn_m, nn_N, f_Ct_isDay, f_Ct_isThing, f_Ct_isKind, f_Ct_isRoomSeat, f_Ct_isOffice, f_Ct_isTable, f_Ct_isPaper, f_Ct_isRule, f_Ct_isDecision, f_Mo_isOffice, f_Mo_isTable, f_Mo_isPaper, f_Mo_isRule, f_Mo_isDecision, f_Mo_isDay, f_Mo_isThing, f_Mo_paperOf, f_Mo_set, rt_0, rt_3, hk, b1, u2u]
      rw [show nvF B p j * 10 + B (p + j) - 48 = nvF B p j * 10 + (B (p + j) - 48) by omega, Nat.add_assoc]) (NN_lt (by omega))
    rw [Nat.add_zero, nvF] at z
    simp -dsimp -implicitDefEqProofs (disch := omega) only [f_Tp_tokenOfNumber, ↓l_m1, l_0, l_1, l_2, l_3, l_4, l_5, l_6, l_7, l_8, l_9, l_10, l_11, l_12, l_13, l_14, l_15, l_16, l_17, l_20, l_21, l_22, l_23, l_24, l_28, l_29, l_30, l_31, l_32, l_40, l_41, l_48, l_57, l_60, l_62, l_63, l_84, l_96, l_97, l_99, l_100, l_122, l_132, l_144, l_150, l_186, l_255, l_256, l_288, l_300, l_522, l_634, l_999, l_5242, l_5410, l_5420, l_5520, l_5528, l_9999, l_65535, l_65536, l_100000, l_16777215, l_252645135, l_858993459, l_1431655765, ↓reduceIte, Nat.reduceAdd, Nat.reduceMul, Nat.reduceSub, ixN, inbN, leT, leF, ltT, ltF, eqT, eqF, eqM, eqNone, addN, mulN, subN, m1N, ↓to_bnd, bnd_some, ↓to_nmT, nmT_eq, up2_r, up2_e, pk_us, pk_un, b2_t, b2_f, b2_0, b2_1, zB_1, zB_0, zB_b2, not_true_eq_false, not_false_eq_true, r_Mo, Nat.add_zero, Nat.add_sub_cancel, within_R, within_N, in_R, in_N, inN_yes, inR_yes, inR_pred, orNone_nn, nn_m, nn_N, f_Ct_isDay, f_Ct_isThing, f_Ct_isKind, f_Ct_isRoomSeat, f_Ct_isOffice, f_Ct_isTable, f_Ct_isPaper, f_Ct_isRule, f_Ct_isDecision, f_Mo_isOffice, f_Mo_isTable, f_Mo_isPaper, f_Mo_isRule, f_Mo_isDecision, f_Mo_isDay, f_Mo_isThing, f_Mo_paperOf, f_Mo_set, rt_3, hk, z]
def tkO (m m' : Mm) (k : Nat) : Prop := (∀ a, a ≠ 260 → m' a = m a) ∧ ∀ j, j ≠ k → m' 260 j = m 260 j
theorem c_tokenOf {m : Mm} {B : Nat → Nat} {L f k : Nat} (h : TpC B L m) (hf : f < L) (hk : m 256 6 = nI k) (hk2 : k ≤ 96) : ∃ m', f_Tp_tokenOf 256 (nI f) (nI (enN B L f)) (nI (soN (B f))) m = some (nI (tcN B f (enN B L f) (soN (B f))), m') ∧ tkO m m' k ∧ (tcN B f (enN B L f) (soN (B f)) = 1 → m' 260 k = nI (nvF B f (enN B L f - f))) := by
  have h' := h
  obtain ⟨hL, e5, hb⟩ := h
  have en := en_b (B := B) hf
  have so := soN_le (B f)
  have o0 : tkO m m k := ⟨fun _ _ => rfl, fun _ _ => rfl⟩
  unfold tcN
  rcases (by omega : soN (B f) = 1 ∨ soN (B f) = 2 ∨ soN (B f) = 3) with c | c | c
  · rw [c, if_pos rfl]
    have w := c_tokenOfWord (m := m) (B := B) (L := L) (p := f) (q := enN B L f) (fun j hj => (hb j hj).1) (fun j hj => (hb j hj).2) (by omega) (by omega) hL
    refine ⟨m, ?_, o0, fun q => by omega⟩
    simp -dsimp -implicitDefEqProofs (disch := omega) only [f_Tp_tokenOf, ↓l_m1, l_0, l_1, l_2, l_3, l_4, l_5, l_6, l_7, l_8, l_9, l_10, l_11, l_12, l_13, l_14, l_15, l_16, l_17, l_20, l_21, l_22, l_23, l_24, l_28, l_29, l_30, l_31, l_32, l_40, l_41, l_48, l_57, l_60, l_62, l_63, l_84, l_96, l_97, l_99, l_100, l_122, l_132, l_144, l_150, l_186, l_255, l_256, l_288, l_300, l_522, l_634, l_999, l_5242, l_5410, l_5420, l_5520, l_5528, l_9999, l_65535, l_65536, l_100000, l_16777215, l_252645135, l_858993459, l_1431655765, ↓reduceIte, Nat.reduceAdd, Nat.reduceMul, Nat.reduceSub, ixN, inbN, leT, leF, ltT, ltF, eqT, eqF, eqM, eqNone, addN, mulN, subN, m1N, ↓to_bnd, bnd_some, ↓to_nmT, nmT_eq, up2_r, up2_e, pk_us, pk_un, b2_t, b2_f, b2_0, b2_1, zB_1, zB_0, zB_b2, not_true_eq_false, not_false_eq_true, r_Mo, Nat.add_zero, Nat.add_sub_cancel, within_R, within_N, in_R, in_N, inN_yes, inR_yes, inR_pred, orNone_nn, nn_m, nn_N, f_Ct_isDay, f_Ct_isThing, f_Ct_isKind, f_Ct_isRoomSeat, f_Ct_isOffice, f_Ct_isTable, f_Ct_isPaper, f_Ct_isRule, f_Ct_isDecision, f_Mo_isOffice, f_Mo_isTable, f_Mo_isPaper, f_Mo_isRule, f_Mo_isDecision, f_Mo_isDay, f_Mo_isThing, f_Mo_paperOf, f_Mo_set, w]
  · rw [c, if_neg (by decide), if_pos rfl]
    have w := c_tokenOfNumber (q := enN B L f) h' (by omega) (by omega) (fun j h1 h2 => (en_so hf h1 h2).trans c) hk hk2
    by_cases d : 5 < enN B L f - f
    · rw [if_pos d] at w ⊢
      refine ⟨m, ?_, o0, fun q => by omega⟩
      simp -dsimp -implicitDefEqProofs (disch := omega) only [f_Tp_tokenOf, ↓l_m1, l_0, l_1, l_2, l_3, l_4, l_5, l_6, l_7, l_8, l_9, l_10, l_11, l_12, l_13, l_14, l_15, l_16, l_17, l_20, l_21, l_22, l_23, l_24, l_28, l_29, l_30, l_31, l_32, l_40, l_41, l_48, l_57, l_60, l_62, l_63, l_84, l_96, l_97, l_99, l_100, l_122, l_132, l_144, l_150, l_186, l_255, l_256, l_288, l_300, l_522, l_634, l_999, l_5242, l_5410, l_5420, l_5520, l_5528, l_9999, l_65535, l_65536, l_100000, l_16777215, l_252645135, l_858993459, l_1431655765, ↓reduceIte, Nat.reduceAdd, Nat.reduceMul, Nat.reduceSub, ixN, inbN, leT, leF, ltT, ltF, eqT, eqF, eqM, eqNone, addN, mulN, subN, m1N, ↓to_bnd, bnd_some, ↓to_nmT, nmT_eq, up2_r, up2_e, pk_us, pk_un, b2_t, b2_f, b2_0, b2_1, zB_1, zB_0, zB_b2, not_true_eq_false, not_false_eq_true, r_Mo, Nat.add_zero, Nat.add_sub_cancel, within_R, within_N, in_R, in_N, inN_yes, inR_yes, inR_pred, orNone_nn, nn_m, nn_N, f_Ct_isDay, f_Ct_isThing, f_Ct_isKind, f_Ct_isRoomSeat, f_Ct_isOffice, f_Ct_isTable, f_Ct_isPaper, f_Ct_isRule, f_Ct_isDecision, f_Mo_isOffice, f_Mo_isTable, f_Mo_isPaper, f_Mo_isRule, f_Mo_isDecision, f_Mo_isDay, f_Mo_isThing, f_Mo_paperOf, f_Mo_set, w]
    · rw [if_neg d] at w ⊢
      refine ⟨up2 m 260 k (nI (nvF B f (enN B L f - f))), ?_, ⟨fun a q => up2_r _ _ _ q, fun j q => by rw [up2_e, pk_un q]⟩, fun _ => by rw [up2_e, pk_us]⟩
      simp -dsimp -implicitDefEqProofs (disch := omega) only [f_Tp_tokenOf, ↓l_m1, l_0, l_1, l_2, l_3, l_4, l_5, l_6, l_7, l_8, l_9, l_10, l_11, l_12, l_13, l_14, l_15, l_16, l_17, l_20, l_21, l_22, l_23, l_24, l_28, l_29, l_30, l_31, l_32, l_40, l_41, l_48, l_57, l_60, l_62, l_63, l_84, l_96, l_97, l_99, l_100, l_122, l_132, l_144, l_150, l_186, l_255, l_256, l_288, l_300, l_522, l_634, l_999, l_5242, l_5410, l_5420, l_5520, l_5528, l_9999, l_65535, l_65536, l_100000, l_16777215, l_252645135, l_858993459, l_1431655765, ↓reduceIte, Nat.reduceAdd, Nat.reduceMul, Nat.reduceSub, ixN, inbN, leT, leF, ltT, ltF, eqT, eqF, eqM, eqNone, addN, mulN, subN, m1N, ↓to_bnd, bnd_some, ↓to_nmT, nmT_eq, up2_r, up2_e, pk_us, pk_un, b2_t, b2_f, b2_0, b2_1, zB_1, zB_0, zB_b2, not_true_eq_false, not_false_eq_true, r_Mo, Nat.add_zero, Nat.add_sub_cancel, within_R, within_N, in_R, in_N, inN_yes, inR_yes, inR_pred, orNone_nn, nn_m, nn_N, f_Ct_isDay, f_Ct_isThing, f_Ct_isKind, f_Ct_isRoomSeat, f_Ct_isOffice, f_Ct_isTable, f_Ct_isPaper, f_Ct_isRule, f_Ct_isDecision, f_Mo_isOffice, f_Mo_isTable, f_Mo_isPaper, f_Mo_isRule, f_Mo_isDecision, f_Mo_isDay, f_Mo_isThing, f_Mo_paperOf, f_Mo_set, w]
  · rw [c, if_neg (by decide), if_neg (by decide)]
    obtain ⟨b1, b2⟩ := hb f hf
    have q1 := sb_eq (v := 40) b2 (by omega)
    have q2 := sb_eq (v := 41) b2 (by omega)
    have q3 := sb_eq (v := 60) b2 (by omega)
    have q4 := sb_eq (v := 62) b2 (by omega)
    refine ⟨m, ?_, o0, fun q => by (repeat' split at q) <;> omega⟩
    by_cases c1 : B f = 40
    · rw [if_pos c1]
      rw [eq_true c1] at q1
      simp -dsimp -implicitDefEqProofs (disch := omega) only [f_Tp_tokenOf, ↓l_m1, l_0, l_1, l_2, l_3, l_4, l_5, l_6, l_7, l_8, l_9, l_10, l_11, l_12, l_13, l_14, l_15, l_16, l_17, l_20, l_21, l_22, l_23, l_24, l_28, l_29, l_30, l_31, l_32, l_40, l_41, l_48, l_57, l_60, l_62, l_63, l_84, l_96, l_97, l_99, l_100, l_122, l_132, l_144, l_150, l_186, l_255, l_256, l_288, l_300, l_522, l_634, l_999, l_5242, l_5410, l_5420, l_5520, l_5528, l_9999, l_65535, l_65536, l_100000, l_16777215, l_252645135, l_858993459, l_1431655765, ↓reduceIte, Nat.reduceAdd, Nat.reduceMul, Nat.reduceSub, ixN, inbN, leT, leF, ltT, ltF, eqT, eqF, eqM, eqNone, addN, mulN, subN, m1N, ↓to_bnd, bnd_some, ↓to_nmT, nmT_eq, up2_r, up2_e, pk_us, pk_un, b2_t, b2_f, b2_0, b2_1, zB_1, zB_0, zB_b2, not_true_eq_false, not_false_eq_true, r_Mo, Nat.add_zero, Nat.add_sub_cancel, within_R, within_N, in_R, in_N, inN_yes, inR_yes, inR_pred, orNone_nn, nn_m, nn_N, f_Ct_isDay, f_Ct_isThing, f_Ct_isKind, f_Ct_isRoomSeat, f_Ct_isOffice, f_Ct_isTable, f_Ct_isPaper, f_Ct_isRule, f_Ct_isDecision, f_Mo_isOffice, f_Mo_isTable, f_Mo_isPaper, f_Mo_isRule, f_Mo_isDecision, f_Mo_isDay, f_Mo_isThing, f_Mo_paperOf, f_Mo_set, rt_0, b1, q1]
    · rw [if_neg c1]
      rw [eq_false c1] at q1
      by_cases c2 : B f = 41
      · rw [if_pos c2]
        rw [eq_true c2] at q2
        simp -dsimp -implicitDefEqProofs (disch := omega) only [f_Tp_tokenOf, ↓l_m1, l_0, l_1, l_2, l_3, l_4, l_5, l_6, l_7, l_8, l_9, l_10, l_11, l_12, l_13, l_14, l_15, l_16, l_17, l_20, l_21, l_22, l_23, l_24, l_28, l_29, l_30, l_31, l_32, l_40, l_41, l_48, l_57, l_60, l_62, l_63, l_84, l_96, l_97, l_99, l_100, l_122, l_132, l_144, l_150, l_186, l_255, l_256, l_288, l_300, l_522, l_634, l_999, l_5242, l_5410, l_5420, l_5520, l_5528, l_9999, l_65535, l_65536, l_100000, l_16777215, l_252645135, l_858993459, l_1431655765, ↓reduceIte, Nat.reduceAdd, Nat.reduceMul, Nat.reduceSub, ixN, inbN, leT, leF, ltT, ltF, eqT, eqF, eqM, eqNone, addN, mulN, subN, m1N, ↓to_bnd, bnd_some, ↓to_nmT, nmT_eq, up2_r, up2_e, pk_us, pk_un, b2_t, b2_f, b2_0, b2_1, zB_1, zB_0, zB_b2, not_true_eq_false, not_false_eq_true, r_Mo, Nat.add_zero, Nat.add_sub_cancel, within_R, within_N, in_R, in_N, inN_yes, inR_yes, inR_pred, orNone_nn, nn_m, nn_N, f_Ct_isDay, f_Ct_isThing, f_Ct_isKind, f_Ct_isRoomSeat, f_Ct_isOffice, f_Ct_isTable, f_Ct_isPaper, f_Ct_isRule, f_Ct_isDecision, f_Mo_isOffice, f_Mo_isTable, f_Mo_isPaper, f_Mo_isRule, f_Mo_isDecision, f_Mo_isDay, f_Mo_isThing, f_Mo_paperOf, f_Mo_set, rt_0, b1, q1, q2]
      · rw [if_neg c2]
        rw [eq_false c2] at q2
        by_cases c3 : B f = 60
        · rw [if_pos c3]
          rw [eq_true c3] at q3
          simp -dsimp -implicitDefEqProofs (disch := omega) only [f_Tp_tokenOf, ↓l_m1, l_0, l_1, l_2, l_3, l_4, l_5, l_6, l_7, l_8, l_9, l_10, l_11, l_12, l_13, l_14, l_15, l_16, l_17, l_20, l_21, l_22, l_23, l_24, l_28, l_29, l_30, l_31, l_32, l_40, l_41, l_48, l_57, l_60, l_62, l_63, l_84, l_96, l_97, l_99, l_100, l_122, l_132, l_144, l_150, l_186, l_255, l_256, l_288, l_300, l_522, l_634, l_999, l_5242, l_5410, l_5420, l_5520, l_5528, l_9999, l_65535, l_65536, l_100000, l_16777215, l_252645135, l_858993459, l_1431655765, ↓reduceIte, Nat.reduceAdd, Nat.reduceMul, Nat.reduceSub, ixN, inbN, leT, leF, ltT, ltF, eqT, eqF, eqM, eqNone, addN, mulN, subN, m1N, ↓to_bnd, bnd_some, ↓to_nmT, nmT_eq, up2_r, up2_e, pk_us, pk_un, b2_t, b2_f, b2_0, b2_1, zB_1, zB_0, zB_b2, not_true_eq_false, not_false_eq_true, r_Mo, Nat.add_zero, Nat.add_sub_cancel, within_R, within_N, in_R, in_N, inN_yes, inR_yes, inR_pred, orNone_nn, nn_m, nn_N, f_Ct_isDay, f_Ct_isThing, f_Ct_isKind, f_Ct_isRoomSeat, f_Ct_isOffice, f_Ct_isTable, f_Ct_isPaper, f_Ct_isRule, f_Ct_isDecision, f_Mo_isOffice, f_Mo_isTable, f_Mo_isPaper, f_Mo_isRule, f_Mo_isDecision, f_Mo_isDay, f_Mo_isThing, f_Mo_paperOf, f_Mo_set, rt_0, b1, q1, q2, q3]
        · rw [if_neg c3]
          rw [eq_false c3] at q3
          by_cases c4 : B f = 62
          · rw [if_pos c4]
            rw [eq_true c4] at q4
            simp -dsimp -implicitDefEqProofs (disch := omega) only [f_Tp_tokenOf, ↓l_m1, l_0, l_1, l_2, l_3, l_4, l_5, l_6, l_7, l_8, l_9, l_10, l_11, l_12, l_13, l_14, l_15, l_16, l_17, l_20, l_21, l_22, l_23, l_24, l_28, l_29, l_30, l_31, l_32, l_40, l_41, l_48, l_57, l_60, l_62, l_63, l_84, l_96, l_97, l_99, l_100, l_122, l_132, l_144, l_150, l_186, l_255, l_256, l_288, l_300, l_522, l_634, l_999, l_5242, l_5410, l_5420, l_5520, l_5528, l_9999, l_65535, l_65536, l_100000, l_16777215, l_252645135, l_858993459, l_1431655765, ↓reduceIte, Nat.reduceAdd, Nat.reduceMul, Nat.reduceSub, ixN, inbN, leT, leF, ltT, ltF, eqT, eqF, eqM, eqNone, addN, mulN, subN, m1N, ↓to_bnd, bnd_some, ↓to_nmT, nmT_eq, up2_r, up2_e, pk_us, pk_un, b2_t, b2_f, b2_0, b2_1, zB_1, zB_0, zB_b2, not_true_eq_false, not_false_eq_true, r_Mo, Nat.add_zero, Nat.add_sub_cancel, within_R, within_N, in_R, in_N, inN_yes, inR_yes, inR_pred, orNone_nn, nn_m, nn_N, f_Ct_isDay, f_Ct_isThing, f_Ct_isKind, f_Ct_isRoomSeat, f_Ct_isOffice, f_Ct_isTable, f_Ct_isPaper, f_Ct_isRule, f_Ct_isDecision, f_Mo_isOffice, f_Mo_isTable, f_Mo_isPaper, f_Mo_isRule, f_Mo_isDecision, f_Mo_isDay, f_Mo_isThing, f_Mo_paperOf, f_Mo_set, rt_0, b1, q1, q2, q3, q4]
          · rw [if_neg c4]
            rw [eq_false c4] at q4
            simp -dsimp -implicitDefEqProofs (disch := omega) only [f_Tp_tokenOf, ↓l_m1, l_0, l_1, l_2, l_3, l_4, l_5, l_6, l_7, l_8, l_9, l_10, l_11, l_12, l_13, l_14, l_15, l_16, l_17, l_20, l_21, l_22, l_23, l_24, l_28, l_29, l_30, l_31, l_32, l_40, l_41, l_48, l_57, l_60, l_62, l_63, l_84, l_96, l_97, l_99, l_100, l_122, l_132, l_144, l_150, l_186, l_255, l_256, l_288, l_300, l_522, l_634, l_999, l_5242, l_5410, l_5420, l_5520, l_5528, l_9999, l_65535, l_65536, l_100000, l_16777215, l_252645135, l_858993459, l_1431655765, ↓reduceIte, Nat.reduceAdd, Nat.reduceMul, Nat.reduceSub, ixN, inbN, leT, leF, ltT, ltF, eqT, eqF, eqM, eqNone, addN, mulN, subN, m1N, ↓to_bnd, bnd_some, ↓to_nmT, nmT_eq, up2_r, up2_e, pk_us, pk_un, b2_t, b2_f, b2_0, b2_1, zB_1, zB_0, zB_b2, not_true_eq_false, not_false_eq_true, r_Mo, Nat.add_zero, Nat.add_sub_cancel, within_R, within_N, in_R, in_N, inN_yes, inR_yes, inR_pred, orNone_nn, nn_m, nn_N, f_Ct_isDay, f_Ct_isThing, f_Ct_isKind, f_Ct_isRoomSeat, f_Ct_isOffice, f_Ct_isTable, f_Ct_isPaper, f_Ct_isRule, f_Ct_isDecision, f_Mo_isOffice, f_Mo_isTable, f_Mo_isPaper, f_Mo_isRule, f_Mo_isDecision, f_Mo_isDay, f_Mo_isThing, f_Mo_paperOf, f_Mo_set, rt_0, b1, q1, q2, q3, q4]
def eI (e : Nat) : Int32 := if e < 200 then nI e else m1I
theorem eI_eq {e p : Nat} (hp : p < 200) : (eI e = nI p) = (e = p) := by
  unfold eI
  by_cases c : e < 200
  · rw [if_pos c, eqN (by omega) (by omega)]
  · rw [if_neg c]
    refine propext ⟨fun q => ?_, fun q => by omega⟩
    have z := eqM (a := p) (by omega)
    rw [← q] at z
    exact (z.mp rfl).elim
def FrT (m m' : Mm) : Prop := (∀ a, a ≠ 256 → a ≠ 258 → a ≠ 259 → a ≠ 260 → m' a = m a) ∧ ∀ i, i ≠ 6 → m' 256 i = m 256 i
theorem FrT_tr {m m1 m2 : Mm} (h1 : FrT m m1) (h2 : FrT m1 m2) : FrT m m2 :=
  ⟨fun a p q r s => by rw [h2.1 a p q r s, h1.1 a p q r s], fun i hi => by rw [h2.2 i hi, h1.2 i hi]⟩
def CTa (B : Nat → Nat) (L k : Nat) (m : Mm) : Prop := m 256 6 = nI k ∧ ∀ j, j < k → m 258 j = nI (tkT B L j) ∧ m 259 j = nI (tkP B L j) ∧ (tkT B L j = 1 → m 260 j = nI (tkV B L j))
def ptM (m : Mm) (k : Nat) (t p : Int32) : Mm := up2 (up2 (up2 m 258 k t) 259 k p) 256 6 (nI (k + 1))
theorem c_putToken {m : Mm} {k : Nat} (hk : m 256 6 = nI k) (hk2 : k < 96) (t p : Int32) : f_Tp_putToken 256 t p m = some (ptM m k t p) := by
  unfold ptM
  simp -dsimp -implicitDefEqProofs (disch := omega) only [f_Tp_putToken, f_Tp_putToken_39, ↓l_m1, l_0, l_1, l_2, l_3, l_4, l_5, l_6, l_7, l_8, l_9, l_10, l_11, l_12, l_13, l_14, l_15, l_16, l_17, l_20, l_21, l_22, l_23, l_24, l_28, l_29, l_30, l_31, l_32, l_40, l_41, l_48, l_57, l_60, l_62, l_63, l_84, l_96, l_97, l_99, l_100, l_122, l_132, l_144, l_150, l_186, l_255, l_256, l_288, l_300, l_522, l_634, l_999, l_5242, l_5410, l_5420, l_5520, l_5528, l_9999, l_65535, l_65536, l_100000, l_16777215, l_252645135, l_858993459, l_1431655765, ↓reduceIte, Nat.reduceAdd, Nat.reduceMul, Nat.reduceSub, ixN, inbN, leT, leF, ltT, ltF, eqT, eqF, eqM, eqNone, addN, mulN, subN, m1N, ↓to_bnd, bnd_some, ↓to_nmT, nmT_eq, up2_r, up2_e, pk_us, pk_un, b2_t, b2_f, b2_0, b2_1, zB_1, zB_0, zB_b2, not_true_eq_false, not_false_eq_true, r_Mo, Nat.add_zero, Nat.add_sub_cancel, within_R, within_N, in_R, in_N, inN_yes, inR_yes, inR_pred, orNone_nn, nn_m, nn_N, f_Ct_isDay, f_Ct_isThing, f_Ct_isKind, f_Ct_isRoomSeat, f_Ct_isOffice, f_Ct_isTable, f_Ct_isPaper, f_Ct_isRule, f_Ct_isDecision, f_Mo_isOffice, f_Mo_isTable, f_Mo_isPaper, f_Mo_isRule, f_Mo_isDecision, f_Mo_isDay, f_Mo_isThing, f_Mo_paperOf, f_Mo_set, rt_1, rt_2, hk]
theorem CT_put {m m' : Mm} {B : Nat → Nat} {L k : Nat} (h : CTa B L k m) (o : tkO m m' k) (hv : tkT B L k = 1 → m' 260 k = nI (tkV B L k)) : CTa B L (k + 1) (ptM m' k (nI (tkT B L k)) (nI (tkP B L k))) ∧ FrT m (ptM m' k (nI (tkT B L k)) (nI (tkP B L k))) := by
  unfold ptM
  refine ⟨⟨by rw [up2_e, pk_us], fun j hj => ?_⟩, fun a p q r s => by rw [up2_r _ _ _ p, up2_r _ _ _ r, up2_r _ _ _ q, o.1 a s], fun i hi => by rw [up2_e, pk_un hi, up2_r _ _ _ (by omega), up2_r _ _ _ (by omega), o.1 256 (by omega)]⟩
  rw [up2_r _ _ _ (show 258 ≠ 256 by omega), up2_r _ _ _ (show 258 ≠ 259 by omega), up2_r _ _ _ (show 259 ≠ 256 by omega), up2_r _ _ _ (show 260 ≠ 256 by omega), up2_r _ _ _ (show 260 ≠ 259 by omega), up2_r _ _ _ (show 260 ≠ 258 by omega), up2_e, up2_e, up2_r _ _ _ (show 259 ≠ 258 by omega)]
  by_cases e : j = k
  · rw [e, pk_us, pk_us]
    exact ⟨rfl, rfl, hv⟩
  · rw [pk_un e, pk_un e, o.2 j e, o.1 258 (by omega), o.1 259 (by omega)]
    exact h.2 j (by omega)
theorem TpC_f {B : Nat → Nat} {L : Nat} {m m' : Mm} (h : TpC B L m) (f : FrT m m') : TpC B L m' :=
  ⟨h.1, by rw [f.2 5 (by omega)]; exact h.2.1, fun j hj => by rw [f.1 257 (by omega) (by omega) (by omega) (by omega)]; exact h.2.2 j hj⟩
def CTe (B : Nat → Nat) (L K : Nat) (m : Mm) : Prop := K ≤ 96 ∧ m 256 6 = nI K ∧ tkT B L K = 0 ∧ (∀ j, j < K → tkT B L j ≠ 0) ∧ ∀ j, j ≤ K → m 258 j = nI (tkT B L j) ∧ m 259 j = nI (tkP B L j) ∧ (tkT B L j = 1 → m 260 j = nI (tkV B L j))
theorem c_cutl {B : Nat → Nat} {L : Nat} : ∀ N p e i k fuel m, L - p < N → N ≤ fuel → p ≤ L → i ≤ p → k ≤ p → (lxS B L k).2 = e → tkP B L k = skN B L p → TpC B L m → CTa B L k m → (∀ j, j < k → tkT B L j ≠ 0) → ∃ m' K, f_Tp_cut_11 fuel 256 (nI p) (eI e) (nI i) m = some m' ∧ FrT m m' ∧ CTe B L K m' := by
  intro N
  induction N with
  | zero => intro p e i k fuel m h1; omega
  | succ N ih =>
    intro p e i k fuel m hN hf hp hi hk he hsk hT hC hne
    obtain ⟨f, rfl⟩ : ∃ f', fuel = f' + 1 := ⟨fuel - 1, by omega⟩
    have hT' := hT
    obtain ⟨hL, e5, hb⟩ := hT
    have e6 := hC.1
    by_cases c : p = L
    · subst c
      rw [sk_n (fun q => by omega)] at hsk
      have t0 := tkT_0.mpr hsk
      refine ⟨up2 (up2 m 258 k (nI 0)) 259 k (nI p), k, ?_, ⟨fun a q1 q2 q3 q4 => by rw [up2_r _ _ _ q3, up2_r _ _ _ q2], fun i hi => by rw [up2_r _ _ _ (by omega), up2_r _ _ _ (by omega)]⟩, by omega, ?_, t0, hne, fun j hj => ?_⟩
      · by_cases ci : i < 96
        · simp -dsimp -implicitDefEqProofs (disch := omega) only [f_Tp_cut_11, f_Tp_cut_126, ↓l_m1, l_0, l_1, l_2, l_3, l_4, l_5, l_6, l_7, l_8, l_9, l_10, l_11, l_12, l_13, l_14, l_15, l_16, l_17, l_20, l_21, l_22, l_23, l_24, l_28, l_29, l_30, l_31, l_32, l_40, l_41, l_48, l_57, l_60, l_62, l_63, l_84, l_96, l_97, l_99, l_100, l_122, l_132, l_144, l_150, l_186, l_255, l_256, l_288, l_300, l_522, l_634, l_999, l_5242, l_5410, l_5420, l_5520, l_5528, l_9999, l_65535, l_65536, l_100000, l_16777215, l_252645135, l_858993459, l_1431655765, ↓reduceIte, Nat.reduceAdd, Nat.reduceMul, Nat.reduceSub, ixN, inbN, leT, leF, ltT, ltF, eqT, eqF, eqM, eqNone, addN, mulN, subN, m1N, ↓to_bnd, bnd_some, ↓to_nmT, nmT_eq, up2_r, up2_e, pk_us, pk_un, b2_t, b2_f, b2_0, b2_1, zB_1, zB_0, zB_b2, not_true_eq_false, not_false_eq_true, r_Mo, Nat.add_zero, Nat.add_sub_cancel, within_R, within_N, in_R, in_N, inN_yes, inR_yes, inR_pred, orNone_nn, nn_m, nn_N, f_Ct_isDay, f_Ct_isThing, f_Ct_isKind, f_Ct_isRoomSeat, f_Ct_isOffice, f_Ct_isTable, f_Ct_isPaper, f_Ct_isRule, f_Ct_isDecision, f_Mo_isOffice, f_Mo_isTable, f_Mo_isPaper, f_Mo_isRule, f_Mo_isDecision, f_Mo_isDay, f_Mo_isThing, f_Mo_paperOf, f_Mo_set, rt_1, rt_2, e5, e6]
        · simp -dsimp -implicitDefEqProofs (disch := omega) only [f_Tp_cut_11, f_Tp_cut_126, ↓l_m1, l_0, l_1, l_2, l_3, l_4, l_5, l_6, l_7, l_8, l_9, l_10, l_11, l_12, l_13, l_14, l_15, l_16, l_17, l_20, l_21, l_22, l_23, l_24, l_28, l_29, l_30, l_31, l_32, l_40, l_41, l_48, l_57, l_60, l_62, l_63, l_84, l_96, l_97, l_99, l_100, l_122, l_132, l_144, l_150, l_186, l_255, l_256, l_288, l_300, l_522, l_634, l_999, l_5242, l_5410, l_5420, l_5520, l_5528, l_9999, l_65535, l_65536, l_100000, l_16777215, l_252645135, l_858993459, l_1431655765, ↓reduceIte, Nat.reduceAdd, Nat.reduceMul, Nat.reduceSub, ixN, inbN, leT, leF, ltT, ltF, eqT, eqF, eqM, eqNone, addN, mulN, subN, m1N, ↓to_bnd, bnd_some, ↓to_nmT, nmT_eq, up2_r, up2_e, pk_us, pk_un, b2_t, b2_f, b2_0, b2_1, zB_1, zB_0, zB_b2, not_true_eq_false, not_false_eq_true, r_Mo, Nat.add_zero, Nat.add_sub_cancel, within_R, within_N, in_R, in_N, inN_yes, inR_yes, inR_pred, orNone_nn, nn_m, nn_N, f_Ct_isDay, f_Ct_isThing, f_Ct_isKind, f_Ct_isRoomSeat, f_Ct_isOffice, f_Ct_isTable, f_Ct_isPaper, f_Ct_isRule, f_Ct_isDecision, f_Mo_isOffice, f_Mo_isTable, f_Mo_isPaper, f_Mo_isRule, f_Mo_isDecision, f_Mo_isDay, f_Mo_isThing, f_Mo_paperOf, f_Mo_set, rt_1, rt_2, e5, e6]
      · rw [up2_r _ _ _ (by omega), up2_r _ _ _ (by omega)]; exact e6
      · rw [up2_r _ _ _ (show 258 ≠ 259 by omega), up2_e, up2_e, up2_r _ _ _ (show 260 ≠ 259 by omega), up2_r _ _ _ (show 260 ≠ 258 by omega), up2_r _ _ _ (show 259 ≠ 258 by omega)]
        by_cases ej : j = k
        · rw [ej, pk_us, pk_us, t0, hsk]
          exact ⟨rfl, rfl, fun q => by omega⟩
        · rw [pk_un ej, pk_un ej]
          exact hC.2 j (by omega)
    · obtain ⟨b1, b2⟩ := hb p (by omega)
      have q1 := sb_eq (v := 32) b2 (by omega)
      by_cases cb : B p = 32
      · obtain ⟨m', K, z1, z2⟩ := ih (p + 1) e (i + 1) k f m (by omega) (by omega) (by omega) (by omega) (by omega) he (by rw [hsk, sk_s (by omega) cb]) hT' hC hne
        refine ⟨m', K, ?_, z2⟩
        rw [← z1]
        rw [eq_true cb] at q1
        simp -dsimp -implicitDefEqProofs (disch := omega) only [f_Tp_cut_11, f_Tp_cut_120, ↓l_m1, l_0, l_1, l_2, l_3, l_4, l_5, l_6, l_7, l_8, l_9, l_10, l_11, l_12, l_13, l_14, l_15, l_16, l_17, l_20, l_21, l_22, l_23, l_24, l_28, l_29, l_30, l_31, l_32, l_40, l_41, l_48, l_57, l_60, l_62, l_63, l_84, l_96, l_97, l_99, l_100, l_122, l_132, l_144, l_150, l_186, l_255, l_256, l_288, l_300, l_522, l_634, l_999, l_5242, l_5410, l_5420, l_5520, l_5528, l_9999, l_65535, l_65536, l_100000, l_16777215, l_252645135, l_858993459, l_1431655765, ↓reduceIte, Nat.reduceAdd, Nat.reduceMul, Nat.reduceSub, ixN, inbN, leT, leF, ltT, ltF, eqT, eqF, eqM, eqNone, addN, mulN, subN, m1N, ↓to_bnd, bnd_some, ↓to_nmT, nmT_eq, up2_r, up2_e, pk_us, pk_un, b2_t, b2_f, b2_0, b2_1, zB_1, zB_0, zB_b2, not_true_eq_false, not_false_eq_true, r_Mo, Nat.add_zero, Nat.add_sub_cancel, within_R, within_N, in_R, in_N, inN_yes, inR_yes, inR_pred, orNone_nn, nn_m, nn_N, f_Ct_isDay, f_Ct_isThing, f_Ct_isKind, f_Ct_isRoomSeat, f_Ct_isOffice, f_Ct_isTable, f_Ct_isPaper, f_Ct_isRule, f_Ct_isDecision, f_Mo_isOffice, f_Mo_isTable, f_Mo_isPaper, f_Mo_isRule, f_Mo_isDecision, f_Mo_isDay, f_Mo_isThing, f_Mo_paperOf, f_Mo_set, rt_0, e5, b1, q1]
      · rw [eq_false cb] at q1
        rw [sk_n (fun _ => cb)] at hsk
        have ne0 : tkT B L k ≠ 0 := fun q => by have := tkT_0.mp q; omega
        obtain ⟨s1, s2⟩ := lxS_ne ne0
        rw [hsk] at s1
        have en := en_b (B := B) (L := L) (f := p) (by omega)
        have so := soN_le (B p)
        have cs := c_sortOf m b2
        have ce := c_endOf (p := p) hT' (by omega)
        have eT : tkT B L k = if soN (B p) ≠ 3 ∧ e = p then 23 else tcN B p (enN B L p) (soN (B p)) := by
          have q : tkT B L k = if L ≤ tkP B L k then 0 else if soN (B (tkP B L k)) ≠ 3 ∧ (lxS B L k).2 = tkP B L k then 23 else tcN B (tkP B L k) (enN B L (tkP B L k)) (soN (B (tkP B L k))) := rfl
          rw [hsk, he, if_neg (by omega)] at q
          exact q
        have eV : tkV B L k = nvF B p (enN B L p - p) := by unfold tkV; rw [hsk]
        have q2 := eI_eq (e := e) (p := p) (by omega)
        have nx : ∀ m1, tkO m m1 k → (tkT B L k = 1 → m1 260 k = nI (tkV B L k)) → ∃ m' K, f_Tp_cut_11 f 256 (nI (enN B L p)) (eI (if soN (B p) = 3 then 200 else enN B L p)) (nI (i + 1)) (ptM m1 k (nI (tkT B L k)) (nI p)) = some m' ∧ FrT m m' ∧ CTe B L K m' := fun m1 o hv => by
          obtain ⟨g1, g2⟩ := CT_put hC o hv
          rw [hsk] at g1 g2
          obtain ⟨m', K, z1, z2, z3⟩ := ih (enN B L p) (if soN (B p) = 3 then 200 else enN B L p) (i + 1) (k + 1) f _ (by omega) (by omega) (by omega) (by omega) (by omega) (by rw [s1]) (by unfold tkP lxF; rw [s1]) (TpC_f hT' g2) g1 (fun j hj => by
            by_cases ej : j = k
            · rw [ej]; exact ne0
            · exact hne j (by omega))
          exact ⟨m', K, z1, FrT_tr g2 z2, z3⟩
        by_cases cg : soN (B p) ≠ 3 ∧ e = p
        · rw [if_pos cg] at eT
          rw [eq_true cg.2] at q2
          obtain ⟨m', K, z1, z2⟩ := nx m ⟨fun _ _ => rfl, fun _ _ => rfl⟩ (fun q => by omega)
          have pt := c_putToken e6 (by omega) (nI (tkT B L k)) (nI p)
          refine ⟨m', K, ?_, z2⟩
          rw [← z1, if_neg cg.1]
          rw [eT] at pt ⊢
          have c3 := cg.1
          have ee : eI (enN B L p) = nI (enN B L p) := by unfold eI; rw [if_pos (by omega)]
          simp -dsimp -implicitDefEqProofs (disch := omega) only [f_Tp_cut_11, f_Tp_cut_78, f_Tp_cut_100, f_Tp_cut_119, f_Tp_cut_120, ↓l_m1, l_0, l_1, l_2, l_3, l_4, l_5, l_6, l_7, l_8, l_9, l_10, l_11, l_12, l_13, l_14, l_15, l_16, l_17, l_20, l_21, l_22, l_23, l_24, l_28, l_29, l_30, l_31, l_32, l_40, l_41, l_48, l_57, l_60, l_62, l_63, l_84, l_96, l_97, l_99, l_100, l_122, l_132, l_144, l_150, l_186, l_255, l_256, l_288, l_300, l_522, l_634, l_999, l_5242, l_5410, l_5420, l_5520, l_5528, l_9999, l_65535, l_65536, l_100000, l_16777215, l_252645135, l_858993459, l_1431655765, ↓reduceIte, Nat.reduceAdd, Nat.reduceMul, Nat.reduceSub, ixN, inbN, leT, leF, ltT, ltF, eqT, eqF, eqM, eqNone, addN, mulN, subN, m1N, ↓to_bnd, bnd_some, ↓to_nmT, nmT_eq, up2_r, up2_e, pk_us, pk_un, b2_t, b2_f, b2_0, b2_1, zB_1, zB_0, zB_b2, not_true_eq_false, not_false_eq_true, r_Mo, Nat.add_zero, Nat.add_sub_cancel, within_R, within_N, in_R, in_N, inN_yes, inR_yes, inR_pred, orNone_nn, nn_m, nn_N, f_Ct_isDay, f_Ct_isThing, f_Ct_isKind, f_Ct_isRoomSeat, f_Ct_isOffice, f_Ct_isTable, f_Ct_isPaper, f_Ct_isRule, f_Ct_isDecision, f_Mo_isOffice, f_Mo_isTable, f_Mo_isPaper, f_Mo_isRule, f_Mo_isDecision, f_Mo_isDay, f_Mo_isThing, f_Mo_paperOf, f_Mo_set, rt_0, e5, b1, q1, q2, cs, ce, pt, ee]
        · rw [if_neg cg] at eT
          obtain ⟨m1, t1, t2, t3⟩ := c_tokenOf (f := p) hT' (by omega) e6 (by omega)
          rw [← eT] at t1 t3
          rw [← eV] at t3
          obtain ⟨m', K, z1, z2⟩ := nx m1 t2 t3
          have pt := c_putToken (m := m1) (by rw [t2.1 256 (by omega)]; exact e6) (by omega) (nI (tkT B L k)) (nI p)
          refine ⟨m', K, ?_, z2⟩
          rw [← z1]
          by_cases c3 : soN (B p) = 3
          · rw [if_pos c3]
            have ee : eI 200 = m1I := by unfold eI; rw [if_neg (by decide)]
            rw [c3] at cs ce t1
            simp -dsimp -implicitDefEqProofs (disch := omega) only [f_Tp_cut_11, f_Tp_cut_77, f_Tp_cut_78, f_Tp_cut_100, f_Tp_cut_119, f_Tp_cut_120, ↓l_m1, l_0, l_1, l_2, l_3, l_4, l_5, l_6, l_7, l_8, l_9, l_10, l_11, l_12, l_13, l_14, l_15, l_16, l_17, l_20, l_21, l_22, l_23, l_24, l_28, l_29, l_30, l_31, l_32, l_40, l_41, l_48, l_57, l_60, l_62, l_63, l_84, l_96, l_97, l_99, l_100, l_122, l_132, l_144, l_150, l_186, l_255, l_256, l_288, l_300, l_522, l_634, l_999, l_5242, l_5410, l_5420, l_5520, l_5528, l_9999, l_65535, l_65536, l_100000, l_16777215, l_252645135, l_858993459, l_1431655765, ↓reduceIte, Nat.reduceAdd, Nat.reduceMul, Nat.reduceSub, ixN, inbN, leT, leF, ltT, ltF, eqT, eqF, eqM, eqNone, addN, mulN, subN, m1N, ↓to_bnd, bnd_some, ↓to_nmT, nmT_eq, up2_r, up2_e, pk_us, pk_un, b2_t, b2_f, b2_0, b2_1, zB_1, zB_0, zB_b2, not_true_eq_false, not_false_eq_true, r_Mo, Nat.add_zero, Nat.add_sub_cancel, within_R, within_N, in_R, in_N, inN_yes, inR_yes, inR_pred, orNone_nn, nn_m, nn_N, f_Ct_isDay, f_Ct_isThing, f_Ct_isKind, f_Ct_isRoomSeat, f_Ct_isOffice, f_Ct_isTable, f_Ct_isPaper, f_Ct_isRule, f_Ct_isDecision, f_Mo_isOffice, f_Mo_isTable, f_Mo_isPaper, f_Mo_isRule, f_Mo_isDecision, f_Mo_isDay, f_Mo_isThing, f_Mo_paperOf, f_Mo_set, rt_0, e5, b1, q1, q2, cs, ce, t1, pt, ee]
          · rw [if_neg c3]
            rw [eq_false (show ¬ e = p from fun q => cg ⟨c3, q⟩)] at q2
            have ee : eI (enN B L p) = nI (enN B L p) := by unfold eI; rw [if_pos (by omega)]
            simp -dsimp -implicitDefEqProofs (disch := omega) only [f_Tp_cut_11, f_Tp_cut_77, f_Tp_cut_78, f_Tp_cut_100, f_Tp_cut_119, f_Tp_cut_120, ↓l_m1, l_0, l_1, l_2, l_3, l_4, l_5, l_6, l_7, l_8, l_9, l_10, l_11, l_12, l_13, l_14, l_15, l_16, l_17, l_20, l_21, l_22, l_23, l_24, l_28, l_29, l_30, l_31, l_32, l_40, l_41, l_48, l_57, l_60, l_62, l_63, l_84, l_96, l_97, l_99, l_100, l_122, l_132, l_144, l_150, l_186, l_255, l_256, l_288, l_300, l_522, l_634, l_999, l_5242, l_5410, l_5420, l_5520, l_5528, l_9999, l_65535, l_65536, l_100000, l_16777215, l_252645135, l_858993459, l_1431655765, ↓reduceIte, Nat.reduceAdd, Nat.reduceMul, Nat.reduceSub, ixN, inbN, leT, leF, ltT, ltF, eqT, eqF, eqM, eqNone, addN, mulN, subN, m1N, ↓to_bnd, bnd_some, ↓to_nmT, nmT_eq, up2_r, up2_e, pk_us, pk_un, b2_t, b2_f, b2_0, b2_1, zB_1, zB_0, zB_b2, not_true_eq_false, not_false_eq_true, r_Mo, Nat.add_zero, Nat.add_sub_cancel, within_R, within_N, in_R, in_N, inN_yes, inR_yes, inR_pred, orNone_nn, nn_m, nn_N, f_Ct_isDay, f_Ct_isThing, f_Ct_isKind, f_Ct_isRoomSeat, f_Ct_isOffice, f_Ct_isTable, f_Ct_isPaper, f_Ct_isRule, f_Ct_isDecision, f_Mo_isOffice, f_Mo_isTable, f_Mo_isPaper, f_Mo_isRule, f_Mo_isDecision, f_Mo_isDay, f_Mo_isThing, f_Mo_paperOf, f_Mo_set, rt_0, e5, b1, q1, q2, cs, ce, t1, pt, ee]
theorem c_cut {B : Nat → Nat} {L : Nat} {m : Mm} (h : TpC B L m) : ∃ m' K, f_Tp_cut 256 m = some m' ∧ FrT m m' ∧ CTe B L K m' := by
  have f0 : FrT m (up2 m 256 6 (nI 0)) := ⟨fun a p _ _ _ => up2_r _ _ _ p, fun i hi => by rw [up2_e, pk_un hi]⟩
  obtain ⟨m', K, z1, z2, z3⟩ := c_cutl (B := B) (L := L) (L + 1) 0 200 0 0 NN (up2 m 256 6 (nI 0)) (by omega) (NN_lt (by have := h.1; omega)) (by omega) (by omega) (by omega) rfl rfl (TpC_f h f0) ⟨by rw [up2_e, pk_us], fun j hj => by omega⟩ (fun j hj => by omega)
  have ee : eI 200 = m1I := by unfold eI; rw [if_neg (by decide)]
  rw [ee] at z1
  refine ⟨m', K, ?_, FrT_tr f0 z2, z3⟩
  unfold f_Tp_cut
  rw [l_0, l_m1]
  exact z1
