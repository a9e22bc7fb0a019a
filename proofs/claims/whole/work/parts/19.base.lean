/-! words for the pairs: numbers as Int, memories -/
abbrev oI (a : Int) : Int32 := Int32.ofInt a
theorem litI (n : Nat) : (@OfNat.ofNat Int32 n _) = oI (n : Int) := rfl
theorem oI_toInt {a : Int} (h1 : -2147483648 ≤ a) (h2 : a < 2147483648) : (oI a).toInt = a := Int32.toInt_ofInt_of_le h1 h2
theorem oI_add (a b : Int) : oI a + oI b = oI (a + b) := (Int32.ofInt_add a b).symm
theorem oI_sub (a b : Int) : oI a - oI b = oI (a - b) := (Int32.ofInt_sub a b).symm
theorem oI_mul (a b : Int) : oI a * oI b = oI (a * b) := (Int32.ofInt_mul a b).symm
theorem oI_neg (a : Int) : - oI a = oI (-a) := (Int32.ofInt_neg a).symm
theorem oI_lt {a b : Int} (h1 : -2147483648 ≤ a) (h2 : a < 2147483648) (h3 : -2147483648 ≤ b) (h4 : b < 2147483648) : (oI a < oI b) = (a < b) := by
  rw [Int32.lt_iff_toInt_lt, oI_toInt h1 h2, oI_toInt h3 h4]
theorem oI_le {a b : Int} (h1 : -2147483648 ≤ a) (h2 : a < 2147483648) (h3 : -2147483648 ≤ b) (h4 : b < 2147483648) : (oI a ≤ oI b) = (a ≤ b) := by
  rw [Int32.le_iff_toInt_le, oI_toInt h1 h2, oI_toInt h3 h4]
theorem oI_eq {a b : Int} (h1 : -2147483648 ≤ a) (h2 : a < 2147483648) (h3 : -2147483648 ≤ b) (h4 : b < 2147483648) : (oI a = oI b) = (a = b) := by
  rw [← Int32.toInt_inj, oI_toInt h1 h2, oI_toInt h3 h4]
theorem oI_ix {a : Int} (h1 : 0 ≤ a) (h2 : a < 2147483648) : ix (oI a) = a.toNat := by
  show (oI a).toInt.toNat = _
  rw [oI_toInt (by omega) h2]
theorem oI_inb {a : Int} {n : Nat} (h1 : 0 ≤ a) (h2 : a < 2147483648) (h3 : a < n) : inbB (oI a) n = true := by
  rw [inbB_iff]
  intro q
  rcases q with q | q
  · rw [Int32.lt_iff_toInt_lt, oI_toInt (by omega) h2] at q
    have : (0 : Int32).toInt = 0 := rfl
    omega
  · have := oI_ix h1 h2
    unfold ix at this
    omega
theorem exI (v : Int32) : ∃ a : Int, v = oI a ∧ -2147483648 ≤ a ∧ a < 2147483648 := ⟨v.toInt, (Int32.ofInt_toInt v).symm, Int32.le_toInt v, Int32.toInt_lt v⟩
theorem up2_at (σ : Mm) (k i : Nat) (v : Int32) (a b : Nat) : up2 σ k i v a b = if a = k then (if b = i then v else σ k b) else σ a b := by
  unfold up2
  by_cases h : a = k
  · rw [if_pos h, if_pos h]; rfl
  · rw [if_neg h, if_neg h]
theorem nmM_eq {α : Type} (v : Mm) (f : Mm → Option α) : nmM v f = f v := rfl
theorem up2_same (σ : Mm) (k i : Nat) (v : Int32) : up2 σ k i v k i = v := by rw [up2_at, if_pos rfl, if_pos rfl]
theorem up2_row {k a : Nat} (σ : Mm) (i : Nat) (v : Int32) (b : Nat) (h : a ≠ k) : up2 σ k i v a b = σ a b := by rw [up2_at, if_neg h]
theorem up2_cell {i b : Nat} (σ : Mm) (k : Nat) (v : Int32) (h : b ≠ i) : up2 σ k i v k b = σ k b := by rw [up2_at, if_pos rfl, if_neg h]
theorem r_now : rfT 0 0 = 1 := by decide
theorem r_hold : rfT 1 0 = 2 := by decide
theorem r_row : rfT 298 0 = 299 := by decide
def I1 (σ : Mm) : Prop := ∃ n : Int, 0 ≤ n ∧ n ≤ 8 ∧ σ 2 3 = oI n ∧ σ 299 2 = oI n
theorem p_office : Pr_office I1 := by
  rintro σ ⟨n, h0, hn, h1, h2⟩
  by_cases h : n = 8
  · refine ⟨-1000000003, σ, σ, ?_, ?_, n, h0, by omega, h1, h2⟩
    · simp (disch := omega) only [f_Ct_office, f_Ho_addOffice, r_now, r_hold, h1, litI, oI_neg, oI_lt, if_neg, Option.bind_some]
    · simp (disch := omega) only [f_Mo_office, r_row, litI, oI_ix, Int.toNat_natCast, h2, oI_neg, oI_eq, if_neg]
  · refine ⟨oI n, up2 σ 2 3 (oI (n + 1)), up2 (up2 σ 2 3 (oI (n + 1))) 299 2 (oI (n + 1)), ?_, ?_, n + 1, by omega, by omega, ?_, ?_⟩
    · simp (disch := omega) only [f_Ct_office, f_Ho_addOffice, r_now, r_hold, h1, litI, oI_lt, if_pos, nmM_eq, up2_same, oI_add, oI_sub, Option.bind_some]
      simp
    · simp (disch := omega) only [f_Mo_office, r_row, litI, oI_ix, Int.toNat_natCast, up2_row, h2, oI_eq, if_pos, nmM_eq, up2_same, oI_add, oI_sub, Option.bind_some]
      simp
    · simp (disch := omega) only [up2_row, up2_same]
    · simp (disch := omega) only [up2_row, up2_same]
