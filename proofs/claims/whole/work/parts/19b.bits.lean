/-! bits -/
theorem b_one : ∀ i, i < 32 → btI (nI 1) i = decide (i = 0) := by decide +kernel
theorem b_zero (i : Nat) : btI (nI 0) i = false := b_0 i
theorem b_b2 (b : Bool) {i : Nat} (h : i < 32) : btI (b2 b) i = (b && decide (i = 0)) := by
  cases b
  · rw [b2_f, b_zero, Bool.false_and]
  · rw [b2_t, b_one i h, Bool.true_and]
theorem bit_at (x : Int32) {j : Nat} (h : j < 32) : (x >>> (nI j &&& nI 31)) &&& nI 1 = b2 (btI x j) := by
  refine b_ext (fun i hi => ?_)
  rw [b_and, b_b2 _ hi, b_one i hi, show (nI 31 : Int32) = 31 from rfl, b_sshr j h x hi]
  by_cases c : i = 0
  · subst c
    rw [if_pos (by omega)]; rfl
  · rw [decide_eq_false c, Bool.and_false, Bool.and_false]
theorem b_bit {j i : Nat} (hj : j < 32) (hi : i < 32) : btI (nI 1 <<< (nI j &&& nI 31)) i = decide (i = j) := by
  rw [show (nI 31 : Int32) = 31 from rfl, b_shl j hj (nI 1) hi, b_one _ (by omega)]
  by_cases c : i = j
  · subst c
    rw [decide_eq_true (Nat.le_refl _), decide_eq_true (by omega), decide_eq_true rfl]; rfl
  · rw [decide_eq_false c]
    by_cases c2 : j ≤ i
    · rw [decide_eq_false (by omega : ¬ i - j = 0), Bool.and_false]
    · rw [decide_eq_false c2, Bool.false_and]
theorem b_not (x : Int32) {i : Nat} (hi : i < 32) : btI (x ^^^ m1I) i = !btI x i := by
  rw [b_xor, show m1I = (-1 : Int32) from rfl, b_m1 i hi, Bool.xor_true]
def setF (P : Nat → Bool) : Nat → Int32
  | 0 => nI 0
  | k + 1 => if P k = true then setF P k ||| (nI 1 <<< (nI k &&& nI 31)) else setF P k
theorem b_set (P : Nat → Bool) : ∀ n, n ≤ 32 → ∀ j, j < 32 → btI (setF P n) j = (decide (j < n) && P j)
  | 0, _, j, _ => by rw [setF, b_zero, decide_eq_false (by omega), Bool.false_and]
  | n + 1, hn, j, hj => by
    have ih := b_set P n (by omega) j hj
    rw [setF]
    by_cases c : j = n
    · subst c
      cases e : P j
      · rw [if_neg (by decide), ih, decide_eq_false (by omega), Bool.false_and, Bool.and_false]
      · rw [if_pos rfl, b_or, b_bit hj hj, decide_eq_true rfl, Bool.or_true, decide_eq_true (by omega), Bool.true_and]
    · have e2 : decide (j < n + 1) = decide (j < n) := by rw [decide_eq_decide]; omega
      rw [e2]
      by_cases p : P n = true
      · rw [if_pos p, b_or, b_bit (by omega) hj, decide_eq_false c, Bool.or_false, ih]
      · rw [if_neg p, ih]
theorem setF_congr {P Q : Nat → Bool} : ∀ n, (∀ k, k < n → P k = Q k) → setF P n = setF Q n
  | 0, _ => rfl
  | n + 1, h => by rw [setF, setF, h n (by omega), setF_congr n (fun k hk => h k (by omega))]
theorem b_sign {x : Int32} (h : btI x 31 = false) : nI 0 ≤ x := by
  rw [Int32.le_iff_toInt_le, toN (by omega)]
  show (0 : Int) ≤ x.toBitVec.toInt
  rw [BitVec.toInt_eq_msb_cond, BitVec.msb_eq_getLsbD_last]
  have : x.toBitVec.getLsbD (32 - 1) = false := h
  rw [this]
  simp
theorem set_pos (P : Nat → Bool) {n : Nat} (h : n ≤ 31) : nI 0 ≤ setF P n := b_sign (by rw [b_set P n (by omega) 31 (by omega), decide_eq_false (by omega), Bool.false_and])
/-- a row of bits by what it holds -/
theorem set_of {x : Int32} {P : Nat → Bool} {n : Nat} (hn : n ≤ 32) (h : ∀ j, j < 32 → btI x j = (decide (j < n) && P j)) : x = setF P n :=
  b_ext (fun j hj => by rw [h j hj, b_set P n hn j hj])
