/-! how many bits -/
def popN (f : Nat → Bool) : Nat → Nat
  | 0 => 0
  | i + 1 => popN f i + (if f i = true then 1 else 0)
theorem popN_congr {f h : Nat → Bool} : ∀ n, (∀ i, i < n → f i = h i) → popN f n = popN h n
  | 0, _ => rfl
  | n + 1, q => by rw [popN, popN, q n (by omega), popN_congr n (fun i hi => q i (by omega))]
theorem popN_split (f : Nat → Bool) (m : Nat) : ∀ n, popN f (m + n) = popN f m + popN (fun i => f (m + i)) n
  | 0 => rfl
  | n + 1 => by rw [show m + (n + 1) = (m + n) + 1 by omega, popN, popN, popN_split f m n]; omega
theorem popN_le (f : Nat → Bool) : ∀ n, popN f n ≤ n
  | 0 => Nat.le_refl _
  | n + 1 => by
    have := popN_le f n
    rw [popN]; split <;> omega
def Q4 (a b c d : Nat) : Nat := 2 ^ 8 * (2 ^ 8 * (2 ^ 8 * d + c) + b) + a
theorem dig8 {a c : Nat} (y m : Nat) (ha : a < 256) (hc : c < 256) : (2 ^ 8 * y + a) &&& (2 ^ 8 * m + c) = 2 ^ 8 * (y &&& m) + (a &&& c) := by
  have hac : a &&& c < 2 ^ 8 := Nat.lt_of_le_of_lt Nat.and_le_left ha
  apply Nat.eq_of_testBit_eq
  intro j
  rw [Nat.testBit_and, Nat.testBit_two_pow_mul_add y (i := 8) ha, Nat.testBit_two_pow_mul_add m (i := 8) hc, Nat.testBit_two_pow_mul_add (y &&& m) (i := 8) hac]
  split
  · rw [Nat.testBit_and]
  · rw [Nat.testBit_and]
theorem Q_and {a b c d a' b' c' d' : Nat} (ha : a < 256) (hb : b < 256) (hc : c < 256) (ha' : a' < 256) (hb' : b' < 256) (hc' : c' < 256) : Q4 a b c d &&& Q4 a' b' c' d' = Q4 (a &&& a') (b &&& b') (c &&& c') (d &&& d') := by
  unfold Q4
  rw [dig8 _ _ ha ha', dig8 _ _ hb hb', dig8 _ _ hc hc']
def bf1 (a : Nat) : Nat := a - ((a / 2) &&& 85)
def bf2 (a : Nat) : Nat := (a &&& 51) + ((a / 4) &&& 51)
def bf3 (a : Nat) : Nat := (a + a / 16) &&& 15
theorem by1 : ∀ a, a < 256 → ∀ b, b < 2 → (a / 2 + 128 * b) &&& 85 = (a / 2) &&& 85 := by decide +kernel
theorem by2 : ∀ a, a < 256 → ∀ b, b < 4 → (a / 4 + 64 * b) &&& 51 = (a / 4) &&& 51 := by decide +kernel
theorem by3 : ∀ a, a < 256 → bf1 a < 256 ∧ bf2 (bf1 a) ≤ 68 ∧ bf3 (bf2 (bf1 a)) = popN (fun i => a.testBit i) 8 := by decide +kernel
theorem by4 : ∀ a, a ≤ 68 → ∀ b, b < 16 → b ≤ 4 → (a + a / 16 + 16 * b) &&& 15 = bf3 a := by decide +kernel
theorem by5 : ∀ a, a < 256 → bf2 (bf1 a) % 16 ≤ 4 := by decide +kernel
theorem by6 : ∀ a, a ≤ 32 → ∀ b, b < 1 → a &&& 63 = a := by decide +kernel
theorem st1 {a b c d : Nat} (ha : a < 256) (hb : b < 256) (hc : c < 256) (hd : d < 256) : (Q4 a b c d / 2) &&& 1431655765 ≤ Q4 a b c d ∧ Q4 a b c d - ((Q4 a b c d / 2) &&& 1431655765) = Q4 (bf1 a) (bf1 b) (bf1 c) (bf1 d) := by
  have e : Q4 a b c d / 2 = Q4 (a / 2 + 128 * (b % 2)) (b / 2 + 128 * (c % 2)) (c / 2 + 128 * (d % 2)) (d / 2 + 128 * 0) := by unfold Q4; omega
  rw [show (1431655765 : Nat) = Q4 85 85 85 85 from rfl, e, Q_and (by omega) (by omega) (by omega) (by omega) (by omega) (by omega), by1 a ha _ (by omega), by1 b hb _ (by omega), by1 c hc _ (by omega), by1 d hd _ (by omega)]
  have la : (a / 2) &&& 85 ≤ a / 2 := Nat.and_le_left
  have lb : (b / 2) &&& 85 ≤ b / 2 := Nat.and_le_left
  have lc : (c / 2) &&& 85 ≤ c / 2 := Nat.and_le_left
  have ld : (d / 2) &&& 85 ≤ d / 2 := Nat.and_le_left
  unfold bf1 Q4
  constructor <;> omega
theorem st2 {a b c d : Nat} (ha : a < 256) (hb : b < 256) (hc : c < 256) (hd : d < 256) : (Q4 a b c d &&& 858993459) + ((Q4 a b c d / 4) &&& 858993459) = Q4 (bf2 a) (bf2 b) (bf2 c) (bf2 d) := by
  have e : Q4 a b c d / 4 = Q4 (a / 4 + 64 * (b % 4)) (b / 4 + 64 * (c % 4)) (c / 4 + 64 * (d % 4)) (d / 4 + 64 * 0) := by unfold Q4; omega
  rw [show (858993459 : Nat) = Q4 51 51 51 51 from rfl, e, Q_and ha hb hc (by omega) (by omega) (by omega), Q_and (by omega) (by omega) (by omega) (by omega) (by omega) (by omega), by2 a ha _ (by omega), by2 b hb _ (by omega), by2 c hc _ (by omega), by2 d hd _ (by omega)]
  unfold bf2 Q4
  omega
theorem st3 {a b c d : Nat} (ha : a ≤ 68) (hb : b ≤ 68) (hc : c ≤ 68) (hd : d ≤ 68) (hb4 : b % 16 ≤ 4) (hc4 : c % 16 ≤ 4) (hd4 : d % 16 ≤ 4) : (Q4 a b c d + Q4 a b c d / 16) &&& 252645135 = Q4 (bf3 a) (bf3 b) (bf3 c) (bf3 d) := by
  have e : Q4 a b c d + Q4 a b c d / 16 = Q4 (a + a / 16 + 16 * (b % 16)) (b + b / 16 + 16 * (c % 16)) (c + c / 16 + 16 * (d % 16)) (d + d / 16 + 16 * 0) := by unfold Q4; omega
  rw [show (252645135 : Nat) = Q4 15 15 15 15 from rfl, e, Q_and (by omega) (by omega) (by omega) (by omega) (by omega) (by omega), by4 a ha _ (by omega) hb4, by4 b hb _ (by omega) hc4, by4 c hc _ (by omega) hd4, by4 d hd _ (by omega) (by omega)]
theorem st4 {a b c d : Nat} (ha : a ≤ 8) (hb : b ≤ 8) (hc : c ≤ 8) (hd : d ≤ 8) : ((Q4 a b c d + Q4 a b c d / 256) + (Q4 a b c d + Q4 a b c d / 256) / 65536) &&& 63 = a + b + c + d := by
  have e : (Q4 a b c d + Q4 a b c d / 256) + (Q4 a b c d + Q4 a b c d / 256) / 65536 = 2 ^ 8 * (b + c + d + 256 * (c + d) + 65536 * d) + (a + b + c + d) := by unfold Q4; omega
  have z := dig8 (b + c + d + 256 * (c + d) + 65536 * d) 0 (show a + b + c + d < 256 by omega) (show 63 < 256 by omega)
  rw [Nat.mul_zero, Nat.zero_add, Nat.and_zero, Nat.mul_zero, Nat.zero_add] at z
  rw [e, z, by6 _ (by omega) 0 (by omega)]
theorem Q_of {n : Nat} (h : n < 4294967296) : n = Q4 (n % 256) (n / 256 % 256) (n / 65536 % 256) (n / 16777216 % 256) := by unfold Q4; omega
theorem nx_and (a b : Nat) : nI a &&& nI b = nI (a &&& b) := by
  apply Int32.toBitVec_inj.1
  show BitVec.ofNat 32 a &&& BitVec.ofNat 32 b = BitVec.ofNat 32 (a &&& b)
  apply BitVec.eq_of_getLsbD_eq
  intro i hi
  simp [hi]
theorem ushN {n : Nat} (hn : n < 4294967296) : ush (nI n) 1 = nI (n / 2) ∧ ush (nI n) 2 = nI (n / 4) ∧ ush (nI n) 4 = nI (n / 16) ∧ ush (nI n) 8 = nI (n / 256) ∧ ush (nI n) 16 = nI (n / 65536) :=
  ⟨pk_ushrN hn 1 1 (by decide), pk_ushrN hn 2 2 (by decide), pk_ushrN hn 4 4 (by decide), pk_ushrN hn 8 8 (by decide), pk_ushrN hn 16 16 (by decide)⟩
theorem b_nI (n : Nat) {i : Nat} (hi : i < 32) : btI (nI n) i = n.testBit i := by
  show (BitVec.ofNat 32 n).getLsbD i = _
  rw [BitVec.getLsbD_ofNat]
  simp [hi]
theorem pop_bytes (n : Nat) : popN (fun i => n.testBit i) 32 = popN (fun i => (n % 256).testBit i) 8 + popN (fun i => (n / 256 % 256).testBit i) 8 + popN (fun i => (n / 65536 % 256).testBit i) 8 + popN (fun i => (n / 16777216 % 256).testBit i) 8 := by
  have t : ∀ m i, i < 8 → (m % 256).testBit i = m.testBit i := fun m i hi => by
    rw [show (256 : Nat) = 2 ^ 8 from rfl, Nat.testBit_mod_two_pow, decide_eq_true hi, Bool.true_and]
  have s1 := popN_split (fun i => n.testBit i) 8 24
  have s2 := popN_split (fun i => n.testBit (8 + i)) 8 16
  have s3 := popN_split (fun i => n.testBit (8 + (8 + i))) 8 8
  have e0 : popN (fun i => (n % 256).testBit i) 8 = popN (fun i => n.testBit i) 8 := popN_congr 8 (fun i hi => t n i hi)
  have e1 : popN (fun i => (n / 256 % 256).testBit i) 8 = popN (fun i => n.testBit (8 + i)) 8 := popN_congr 8 (fun i hi => by
    rw [t _ i hi, show (256 : Nat) = 2 ^ 8 from rfl, Nat.testBit_div_two_pow, Nat.add_comm])
  have e2 : popN (fun i => (n / 65536 % 256).testBit i) 8 = popN (fun i => n.testBit (8 + (8 + i))) 8 := popN_congr 8 (fun i hi => by
    rw [t _ i hi, show (65536 : Nat) = 2 ^ 16 from rfl, Nat.testBit_div_two_pow, show i + 16 = 8 + (8 + i) by omega])
  have e3 : popN (fun i => (n / 16777216 % 256).testBit i) 8 = popN (fun i => n.testBit (8 + (8 + (8 + i)))) 8 := popN_congr 8 (fun i hi => by
    rw [t _ i hi, show (16777216 : Nat) = 2 ^ 24 from rfl, Nat.testBit_div_two_pow, show i + 24 = 8 + (8 + (8 + i)) by omega])
  rw [e0, e1, e2, e3]
  have s1' : popN (fun i => n.testBit i) 32 = popN (fun i => n.testBit i) 8 + popN (fun i => n.testBit (8 + i)) 24 := s1
  have s2' : popN (fun i => n.testBit (8 + i)) 24 = popN (fun i => n.testBit (8 + i)) 8 + popN (fun i => n.testBit (8 + (8 + i))) 16 := s2
  have s3' : popN (fun i => n.testBit (8 + (8 + i))) 16 = popN (fun i => n.testBit (8 + (8 + i))) 8 + popN (fun i => n.testBit (8 + (8 + (8 + i)))) 8 := s3
  omega
theorem pop8_le (f : Nat → Bool) : popN f 8 ≤ 8 := popN_le f 8
theorem bitCount_eq (σ : Mm) (x : Int32) : f_In_bitCount σ x = some (nI (popN (fun i => btI x i) 32)) := by
  obtain ⟨n, hn, rfl⟩ : ∃ n : Nat, n < 4294967296 ∧ x = nI n := ⟨x.toBitVec.toNat, x.toBitVec.isLt, Int32.toBitVec_inj.mp (by show _ = BitVec.ofNat 32 _; simp)⟩
  have ep : popN (fun i => btI (nI n) i) 32 = popN (fun i => n.testBit i) 32 := popN_congr 32 (fun i hi => b_nI n hi)
  rw [ep, pop_bytes n]
  obtain ⟨a, ha, ea⟩ : ∃ a, a < 256 ∧ n % 256 = a := ⟨_, by omega, rfl⟩
  obtain ⟨b, hb, eb⟩ : ∃ b, b < 256 ∧ n / 256 % 256 = b := ⟨_, by omega, rfl⟩
  obtain ⟨c, hc, ec⟩ : ∃ c, c < 256 ∧ n / 65536 % 256 = c := ⟨_, by omega, rfl⟩
  obtain ⟨d, hd, ed⟩ : ∃ d, d < 256 ∧ n / 16777216 % 256 = d := ⟨_, by omega, rfl⟩
  have eq := Q_of hn
  rw [ea, eb, ec, ed] at eq
  rw [ea, eb, ec, ed, eq]
  obtain ⟨a1, a2, a3⟩ := by3 a ha
  obtain ⟨b1, b2', b3⟩ := by3 b hb
  obtain ⟨c1, c2, c3⟩ := by3 c hc
  obtain ⟨d1, d2, d3⟩ := by3 d hd
  have hQ : ∀ w x y z, w < 256 → x < 256 → y < 256 → z < 256 → Q4 w x y z < 4294967296 := fun w x y z h1 h2 h3 h4 => by unfold Q4; omega
  have k1 := hQ a b c d ha hb hc hd
  have k2 := hQ _ _ _ _ a1 b1 c1 d1
  have k3 := hQ (bf2 (bf1 a)) (bf2 (bf1 b)) (bf2 (bf1 c)) (bf2 (bf1 d)) (by omega) (by omega) (by omega) (by omega)
  have p3 : ∀ w, w < 256 → bf3 (bf2 (bf1 w)) ≤ 8 := fun w hw => by rw [(by3 w hw).2.2]; exact pop8_le _
  have pa := p3 a ha
  have pb := p3 b hb
  have pc := p3 c hc
  have pd := p3 d hd
  have k4 := hQ (bf3 (bf2 (bf1 a))) (bf3 (bf2 (bf1 b))) (bf3 (bf2 (bf1 c))) (bf3 (bf2 (bf1 d))) (by omega) (by omega) (by omega) (by omega)
  have e1 : nI (Q4 a b c d) - (ush (nI (Q4 a b c d)) 1 &&& 1431655765) = nI (Q4 (bf1 a) (bf1 b) (bf1 c) (bf1 d)) := by
    rw [(ushN k1).1, l_1431655765, nx_and, subN (st1 ha hb hc hd).1, (st1 ha hb hc hd).2]
  have e2 : (nI (Q4 (bf1 a) (bf1 b) (bf1 c) (bf1 d)) &&& 858993459) + (ush (nI (Q4 (bf1 a) (bf1 b) (bf1 c) (bf1 d))) 2 &&& 858993459) = nI (Q4 (bf2 (bf1 a)) (bf2 (bf1 b)) (bf2 (bf1 c)) (bf2 (bf1 d))) := by
    rw [(ushN k2).2.1, l_858993459, nx_and, nx_and, addN, st2 a1 b1 c1 d1]
  have e3 : (nI (Q4 (bf2 (bf1 a)) (bf2 (bf1 b)) (bf2 (bf1 c)) (bf2 (bf1 d))) + ush (nI (Q4 (bf2 (bf1 a)) (bf2 (bf1 b)) (bf2 (bf1 c)) (bf2 (bf1 d)))) 4) &&& 252645135 = nI (Q4 (bf3 (bf2 (bf1 a))) (bf3 (bf2 (bf1 b))) (bf3 (bf2 (bf1 c))) (bf3 (bf2 (bf1 d)))) := by
    rw [(ushN k3).2.2.1, l_252645135, addN, nx_and, st3 a2 b2' c2 d2 (by5 b hb) (by5 c hc) (by5 d hd)]
  rw [f_In_bitCount, e1, e2, e3, (ushN k4).2.2.2.1, addN]
  have k5 : Q4 (bf3 (bf2 (bf1 a))) (bf3 (bf2 (bf1 b))) (bf3 (bf2 (bf1 c))) (bf3 (bf2 (bf1 d))) + Q4 (bf3 (bf2 (bf1 a))) (bf3 (bf2 (bf1 b))) (bf3 (bf2 (bf1 c))) (bf3 (bf2 (bf1 d))) / 256 < 4294967296 := by unfold Q4; omega
  rw [(ushN k5).2.2.2.2, addN, l_63, nx_and, st4 pa pb pc pd, a3, b3, c3, d3]
theorem mo_bits (σ : Mm) (x : Int32) : f_Mo_bits σ x = some (nI (popN (fun i => btI x i) 31)) := by
  unfold f_Mo_bits
  refine loopA (fun f k => f_Mo_bits_4 σ f x (nI (popN (fun i => btI x i) k)) (nI k)) _ 31 (fun f => ?_) (fun f k hk => ?_) (NN_lt (by omega))
  · simp -dsimp -implicitDefEqProofs (disch := omega) only [f_Mo_bits_4, ↓l_m1, l_0, l_1, l_2, l_3, l_4, l_5, l_6, l_7, l_8, l_9, l_10, l_11, l_12, l_13, l_14, l_15, l_16, l_17, l_20, l_21, l_22, l_23, l_24, l_28, l_29, l_30, l_31, l_32, l_40, l_41, l_48, l_57, l_60, l_62, l_63, l_84, l_96, l_97, l_99, l_100, l_122, l_132, l_144, l_150, l_186, l_255, l_256, l_288, l_300, l_522, l_634, l_999, l_5242, l_5410, l_5420, l_5520, l_5528, l_9999, l_65535, l_65536, l_100000, l_16777215, l_252645135, l_858993459, l_1431655765, ↓reduceIte, Nat.reduceAdd, Nat.reduceMul, Nat.reduceSub, ixN, inbN, leT, leF, ltT, ltF, eqT, eqF, eqM, eqNone, addN, mulN, subN, m1N, ↓to_bnd, bnd_some, ↓to_nmT, nmT_eq, up2_r, up2_e, pk_us, pk_un, b2_t, b2_f, b2_0, b2_1, zB_1, zB_0, zB_b2, not_true_eq_false, not_false_eq_true, r_Mo, Nat.add_zero, Nat.add_sub_cancel, within_R, within_N, in_R, in_N, inN_yes, inR_yes, inR_pred, orNone_nn, nn_m, nn_N, f_Ct_isDay, f_Ct_isThing, f_Ct_isKind, f_Ct_isRoomSeat, f_Ct_isOffice, f_Ct_isTable, f_Ct_isPaper, f_Ct_isRule, f_Ct_isDecision, f_Mo_isOffice, f_Mo_isTable, f_Mo_isPaper, f_Mo_isRule, f_Mo_isDecision, f_Mo_isDay, f_Mo_isThing, f_Mo_paperOf, f_Mo_set]
  · cases c : btI x k
    · simp -dsimp -implicitDefEqProofs (disch := omega) only [f_Mo_bits_4, ↓l_m1, l_0, l_1, l_2, l_3, l_4, l_5, l_6, l_7, l_8, l_9, l_10, l_11, l_12, l_13, l_14, l_15, l_16, l_17, l_20, l_21, l_22, l_23, l_24, l_28, l_29, l_30, l_31, l_32, l_40, l_41, l_48, l_57, l_60, l_62, l_63, l_84, l_96, l_97, l_99, l_100, l_122, l_132, l_144, l_150, l_186, l_255, l_256, l_288, l_300, l_522, l_634, l_999, l_5242, l_5410, l_5420, l_5520, l_5528, l_9999, l_65535, l_65536, l_100000, l_16777215, l_252645135, l_858993459, l_1431655765, ↓reduceIte, Nat.reduceAdd, Nat.reduceMul, Nat.reduceSub, ixN, inbN, leT, leF, ltT, ltF, eqT, eqF, eqM, eqNone, addN, mulN, subN, m1N, ↓to_bnd, bnd_some, ↓to_nmT, nmT_eq, up2_r, up2_e, pk_us, pk_un, b2_t, b2_f, b2_0, b2_1, zB_1, zB_0, zB_b2, not_true_eq_false, not_false_eq_true, r_Mo, Nat.add_zero, Nat.add_sub_cancel, within_R, within_N, in_R, in_N, inN_yes, inR_yes, inR_pred, orNone_nn, nn_m, nn_N, f_Ct_isDay, f_Ct_isThing, f_Ct_isKind, f_Ct_isRoomSeat, f_Ct_isOffice, f_Ct_isTable, f_Ct_isPaper, f_Ct_isRule, f_Ct_isDecision, f_Mo_isOffice, f_Mo_isTable, f_Mo_isPaper, f_Mo_isRule, f_Mo_isDecision, f_Mo_isDay, f_Mo_isThing, f_Mo_paperOf, f_Mo_set, bit_at, c, popN, Bool.false_eq_true]
    · simp -dsimp -implicitDefEqProofs (disch := omega) only [f_Mo_bits_4, ↓l_m1, l_0, l_1, l_2, l_3, l_4, l_5, l_6, l_7, l_8, l_9, l_10, l_11, l_12, l_13, l_14, l_15, l_16, l_17, l_20, l_21, l_22, l_23, l_24, l_28, l_29, l_30, l_31, l_32, l_40, l_41, l_48, l_57, l_60, l_62, l_63, l_84, l_96, l_97, l_99, l_100, l_122, l_132, l_144, l_150, l_186, l_255, l_256, l_288, l_300, l_522, l_634, l_999, l_5242, l_5410, l_5420, l_5520, l_5528, l_9999, l_65535, l_65536, l_100000, l_16777215, l_252645135, l_858993459, l_1431655765, ↓reduceIte, Nat.reduceAdd, Nat.reduceMul, Nat.reduceSub, ixN, inbN, leT, leF, ltT, ltF, eqT, eqF, eqM, eqNone, addN, mulN, subN, m1N, ↓to_bnd, bnd_some, ↓to_nmT, nmT_eq, up2_r, up2_e, pk_us, pk_un, b2_t, b2_f, b2_0, b2_1, zB_1, zB_0, zB_b2, not_true_eq_false, not_false_eq_true, r_Mo, Nat.add_zero, Nat.add_sub_cancel, within_R, within_N, in_R, in_N, inN_yes, inR_yes, inR_pred, orNone_nn, nn_m, nn_N, f_Ct_isDay, f_Ct_isThing, f_Ct_isKind, f_Ct_isRoomSeat, f_Ct_isOffice, f_Ct_isTable, f_Ct_isPaper, f_Ct_isRule, f_Ct_isDecision, f_Mo_isOffice, f_Mo_isTable, f_Mo_isPaper, f_Mo_isRule, f_Mo_isDecision, f_Mo_isDay, f_Mo_isThing, f_Mo_paperOf, f_Mo_set, bit_at, c, popN]
theorem pop31 {x : Int32} (h : btI x 31 = false) : popN (fun i => btI x i) 32 = popN (fun i => btI x i) 31 := by
  rw [popN, h]; rfl
