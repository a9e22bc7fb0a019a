/-! words for the pairs -/
theorem up2_at (σ : Mm) (k i : Nat) (v : Int32) (a b : Nat) : up2 σ k i v a b = if a = k then (if b = i then v else σ k b) else σ a b := by
  unfold up2
  by_cases h : a = k
  · rw [if_pos h, if_pos h]; rfl
  · rw [if_neg h, if_neg h]
theorem ofN_lt {a b : Nat} (ha : a < 2147483648) (hb : b < 2147483648) : Int32.ofNat a < Int32.ofNat b ↔ a < b := by
  rw [Int32.lt_iff_toInt_lt, ofN_toInt ha, ofN_toInt hb]; omega
theorem ofN_le {a b : Nat} (ha : a < 2147483648) (hb : b < 2147483648) : Int32.ofNat a ≤ Int32.ofNat b ↔ a ≤ b := by
  rw [Int32.le_iff_toInt_le, ofN_toInt ha, ofN_toInt hb]; omega
theorem ofN_inj {a b : Nat} (ha : a < 2147483648) (hb : b < 2147483648) : Int32.ofNat a = Int32.ofNat b ↔ a = b := by
  rw [← Int32.toInt_inj, ofN_toInt ha, ofN_toInt hb]; omega
theorem ofN_add (a b : Nat) : Int32.ofNat a + Int32.ofNat b = Int32.ofNat (a + b) := (Int32.ofNat_add a b).symm
theorem ofN_mul (a b : Nat) : Int32.ofNat a * Int32.ofNat b = Int32.ofNat (a * b) := (Int32.ofNat_mul a b).symm
theorem ofN_subN {a b : Nat} (h : b ≤ a) : Int32.ofNat a - Int32.ofNat b = Int32.ofNat (a - b) := (Int32.ofNat_sub a b h).symm
theorem litN (n : Nat) : (@OfNat.ofNat Int32 n _) = Int32.ofNat n := rfl
theorem nmM_eq {α : Type} (v : Mm) (f : Mm → Option α) : nmM v f = f v := rfl
theorem r_now : rfT 0 0 = 1 := by decide
theorem r_hold : rfT 1 0 = 2 := by decide
theorem r_row : rfT 298 0 = 299 := by decide
theorem up2_same (σ : Mm) (k i : Nat) (v : Int32) : up2 σ k i v k i = v := by rw [up2_at, if_pos rfl, if_pos rfl]
theorem up2_row {k a : Nat} (σ : Mm) (i : Nat) (v : Int32) (b : Nat) (h : a ≠ k) : up2 σ k i v a b = σ a b := by rw [up2_at, if_neg h]
theorem up2_cell {i b : Nat} (σ : Mm) (k : Nat) (v : Int32) (h : b ≠ i) : up2 σ k i v k b = σ k b := by rw [up2_at, if_pos rfl, if_neg h]
def I1 (σ : Mm) : Prop := ∃ n, n ≤ 8 ∧ σ 2 3 = Int32.ofNat n ∧ σ 299 2 = Int32.ofNat n
theorem p_office : Pr_office I1 := by
  rintro σ ⟨n, hn, h1, h2⟩
  by_cases h : n = 8
  · refine ⟨-1000000003, σ, σ, ?_, ?_, n, by omega, h1, h2⟩
    · simp (disch := omega) only [f_Ct_office, f_Ho_addOffice, r_now, r_hold, h1, litN, ofN_lt, if_neg, Option.bind_some]
    · simp (disch := omega) only [f_Mo_office, r_row, litN, ofN_ix, h2, ofN_inj, if_neg]
  · refine ⟨Int32.ofNat n, up2 σ 2 3 (Int32.ofNat (n + 1)), up2 (up2 σ 2 3 (Int32.ofNat (n + 1))) 299 2 (Int32.ofNat (n + 1)), ?_, ?_, n + 1, by omega, ?_, ?_⟩
    · simp (disch := omega) only [f_Ct_office, f_Ho_addOffice, r_now, r_hold, h1, litN, ofN_lt, if_pos, nmM_eq, up2_same, ofN_add, ofN_subN, Option.bind_some, Nat.add_sub_cancel]
    · simp (disch := omega) only [f_Mo_office, r_row, litN, ofN_ix, up2_row, h2, ofN_inj, if_pos, nmM_eq, up2_same, ofN_add, ofN_subN, Option.bind_some, Nat.add_sub_cancel]
    · simp (disch := omega) only [up2_row, up2_same]
    · simp (disch := omega) only [up2_row, up2_same]
