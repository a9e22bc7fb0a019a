/-! words for the pairs: numbers -/
theorem l_0 : (0 : Int32) = nI 0 := rfl
theorem l_1 : (1 : Int32) = nI 1 := rfl
theorem l_2 : (2 : Int32) = nI 2 := rfl
theorem l_3 : (3 : Int32) = nI 3 := rfl
theorem l_4 : (4 : Int32) = nI 4 := rfl
theorem l_5 : (5 : Int32) = nI 5 := rfl
theorem l_6 : (6 : Int32) = nI 6 := rfl
theorem l_7 : (7 : Int32) = nI 7 := rfl
theorem l_8 : (8 : Int32) = nI 8 := rfl
theorem l_9 : (9 : Int32) = nI 9 := rfl
theorem l_10 : (10 : Int32) = nI 10 := rfl
theorem l_11 : (11 : Int32) = nI 11 := rfl
theorem l_12 : (12 : Int32) = nI 12 := rfl
theorem l_13 : (13 : Int32) = nI 13 := rfl
theorem l_14 : (14 : Int32) = nI 14 := rfl
theorem l_15 : (15 : Int32) = nI 15 := rfl
theorem l_16 : (16 : Int32) = nI 16 := rfl
theorem l_17 : (17 : Int32) = nI 17 := rfl
theorem l_20 : (20 : Int32) = nI 20 := rfl
theorem l_21 : (21 : Int32) = nI 21 := rfl
theorem l_22 : (22 : Int32) = nI 22 := rfl
theorem l_23 : (23 : Int32) = nI 23 := rfl
theorem l_24 : (24 : Int32) = nI 24 := rfl
theorem l_28 : (28 : Int32) = nI 28 := rfl
theorem l_29 : (29 : Int32) = nI 29 := rfl
theorem l_30 : (30 : Int32) = nI 30 := rfl
theorem l_31 : (31 : Int32) = nI 31 := rfl
theorem l_32 : (32 : Int32) = nI 32 := rfl
theorem l_40 : (40 : Int32) = nI 40 := rfl
theorem l_41 : (41 : Int32) = nI 41 := rfl
theorem l_48 : (48 : Int32) = nI 48 := rfl
theorem l_57 : (57 : Int32) = nI 57 := rfl
theorem l_60 : (60 : Int32) = nI 60 := rfl
theorem l_62 : (62 : Int32) = nI 62 := rfl
theorem l_63 : (63 : Int32) = nI 63 := rfl
theorem l_84 : (84 : Int32) = nI 84 := rfl
theorem l_96 : (96 : Int32) = nI 96 := rfl
theorem l_97 : (97 : Int32) = nI 97 := rfl
theorem l_99 : (99 : Int32) = nI 99 := rfl
theorem l_100 : (100 : Int32) = nI 100 := rfl
theorem l_122 : (122 : Int32) = nI 122 := rfl
theorem l_132 : (132 : Int32) = nI 132 := rfl
theorem l_144 : (144 : Int32) = nI 144 := rfl
theorem l_150 : (150 : Int32) = nI 150 := rfl
theorem l_186 : (186 : Int32) = nI 186 := rfl
theorem l_255 : (255 : Int32) = nI 255 := rfl
theorem l_256 : (256 : Int32) = nI 256 := rfl
theorem l_288 : (288 : Int32) = nI 288 := rfl
theorem l_300 : (300 : Int32) = nI 300 := rfl
theorem l_522 : (522 : Int32) = nI 522 := rfl
theorem l_634 : (634 : Int32) = nI 634 := rfl
theorem l_999 : (999 : Int32) = nI 999 := rfl
theorem l_5242 : (5242 : Int32) = nI 5242 := rfl
theorem l_5410 : (5410 : Int32) = nI 5410 := rfl
theorem l_5420 : (5420 : Int32) = nI 5420 := rfl
theorem l_5520 : (5520 : Int32) = nI 5520 := rfl
theorem l_5528 : (5528 : Int32) = nI 5528 := rfl
theorem l_9999 : (9999 : Int32) = nI 9999 := rfl
theorem l_65535 : (65535 : Int32) = nI 65535 := rfl
theorem l_65536 : (65536 : Int32) = nI 65536 := rfl
theorem l_100000 : (100000 : Int32) = nI 100000 := rfl
theorem l_16777215 : (16777215 : Int32) = nI 16777215 := rfl
theorem l_252645135 : (252645135 : Int32) = nI 252645135 := rfl
theorem l_858993459 : (858993459 : Int32) = nI 858993459 := rfl
theorem l_1431655765 : (1431655765 : Int32) = nI 1431655765 := rfl
def m1I : Int32 := -1
theorem l_m1 : (-1 : Int32) = m1I := rfl
theorem ixN {n : Nat} (h : n < 2147483648) : ix (nI n) = n := nI_clamp h
theorem inbN {n m : Nat} (h : n < m) (h2 : m < 2147483648) : inbB (nI n) m = true := inbB_iff.mpr (nI_in h h2)
theorem leN {a b : Nat} (ha : a < 2147483648) (hb : b < 2147483648) : (nI a ≤ nI b) = (a ≤ b) := propext (nI_leI ha hb)
theorem ltN {a b : Nat} (ha : a < 2147483648) (hb : b < 2147483648) : (nI a < nI b) = (a < b) := propext (nI_ltI ha hb)
theorem eqN {a b : Nat} (ha : a < 2147483648) (hb : b < 2147483648) : (nI a = nI b) = (a = b) := propext (nI_eq ha hb)
theorem leT {a b : Nat} (h : a ≤ b) (hb : b < 2147483648) : (nI a ≤ nI b) = True := eq_true (nI_le h hb)
theorem leF {a b : Nat} (h : b < a) (hb : a < 2147483648) : (nI a ≤ nI b) = False := eq_false (nI_ge h hb)
theorem ltT {a b : Nat} (h : a < b) (hb : b < 2147483648) : (nI a < nI b) = True := eq_true (nI_lt h hb)
theorem ltF {a b : Nat} (h : b ≤ a) (hb : a < 2147483648) : (nI a < nI b) = False := eq_false (nI_nlt h hb)
theorem eqT {a b : Nat} (h : a = b) : (nI a = nI b) = True := eq_true (congrArg nI h)
theorem eqF {a b : Nat} (h : a ≠ b) (ha : a < 2147483648) (hb : b < 2147483648) : (nI a = nI b) = False := eq_false (fun q => h ((nI_eq ha hb).mp q))
theorem addN (a b : Nat) : nI a + nI b = nI (a + b) := nI_add a b
theorem mulN (a b : Nat) : nI a * nI b = nI (a * b) := pk_mul a b
theorem subN {a b : Nat} (h : b ≤ a) : nI a - nI b = nI (a - b) := pk_sub h
theorem m1N {a : Nat} (h : 0 < a) : nI a + m1I = nI (a - 1) := sb_m1 h
theorem toN {a : Nat} (h : a < 2147483648) : (nI a).toInt = (a : Int) := nI_toInt h
theorem m1I_toInt : m1I.toInt = -1 := by decide
theorem eqM {a : Nat} (h : a < 2147483648) : (nI a = m1I) = False := by
  refine propext ⟨fun q => ?_, False.elim⟩
  have := congrArg Int32.toInt q
  rw [toN h, m1I_toInt] at this
  omega
theorem none_toInt : (-1000000005 : Int32).toInt = -1000000005 := by decide
theorem eqNone {a : Nat} (h : a < 2147483648) : (nI a = -1000000005) = False := by
  refine propext ⟨fun q => ?_, False.elim⟩
  have := congrArg Int32.toInt q
  rw [toN h, none_toInt] at this
  omega
theorem nmM_eq {α : Type} (v : Mm) (f : Mm → Option α) : nmM v f = f v := rfl
/-! one step behind another: what follows is not looked at before its value is known -/
abbrev TagT {α β : Type} (_ : α → β) : Type := Unit
def bnd {α β : Type} (x : Option α) (f : α → Option β) (_ : TagT f) : Option β := x.bind f
theorem to_bnd {α β : Type} (x : Option α) (f : α → Option β) : x.bind f = bnd x f Unit.unit := rfl
theorem bnd_some {α β : Type} (a : α) (f : α → Option β) (t : TagT f) : bnd (some a) f t = f a := rfl
def nmT {α : Type} (v : Mm) (f : Mm → Option α) (_ : TagT f) : Option α := f v
theorem to_nmT {α : Type} (v : Mm) (f : Mm → Option α) : nmM v f = nmT v f Unit.unit := rfl
theorem nmT_eq {α : Type} (v : Mm) (f : Mm → Option α) (t : TagT f) : nmT v f t = f v := rfl
/-! booleans -/
def b2 (b : Bool) : Int32 := if b = true then nI 1 else nI 0
theorem b2_t : b2 true = nI 1 := rfl
theorem b2_f : b2 false = nI 0 := rfl
theorem zB_1 : zB (nI 1) = true := by decide
theorem zB_0 : zB (nI 0) = true := by decide
theorem zB_b2 (b : Bool) : zB (b2 b) = true := by cases b <;> decide
theorem b2_0 (b : Bool) : (b2 b = nI 0) = (b = false) := by cases b <;> simp [b2] <;> decide
theorem b2_1 (b : Bool) : (b2 b = nI 1) = (b = true) := by cases b <;> simp [b2] <;> decide
theorem b2_or (b : Bool) : b2 b = nI 0 ∨ b2 b = nI 1 := by cases b <;> simp [b2]
/-! ranges -/
def inR (v : Int32) (a b : Nat) : Bool := decide (nI a ≤ v) && decide (v ≤ nI b)
def inN (v : Int32) (n : Nat) : Bool := decide (nI 0 ≤ v) && decide (v < nI n)
theorem inN_yes {k n : Nat} (h : k < n) (hn : n < 2147483648) : inN (nI k) n = true := by
  unfold inN
  rw [Bool.and_eq_true, decide_eq_true_eq, decide_eq_true_eq, leN (by omega) (by omega), ltN (by omega) hn]
  omega
theorem inR_yes {k a b : Nat} (h : a ≤ k) (h2 : k ≤ b) (hn : b < 2147483648) : inR (nI k) a b = true := by
  unfold inR
  rw [Bool.and_eq_true, decide_eq_true_eq, decide_eq_true_eq, leN (by omega) (by omega), leN (by omega) hn]
  omega
theorem of_pos {v : Int32} (h : nI 0 ≤ v) : ∃ k : Nat, k < 2147483648 ∧ v = nI k := by
  refine nI_of (fun q => ?_)
  rw [Int32.lt_iff_toInt_lt] at q
  rw [Int32.le_iff_toInt_le, toN (by omega)] at h
  have e : (0 : Int32).toInt = 0 := rfl
  omega
theorem inN_of {v : Int32} {n : Nat} (hn : n < 2147483648) (h : inN v n = true) : ∃ k : Nat, k < n ∧ v = nI k := by
  unfold inN at h
  rw [Bool.and_eq_true, decide_eq_true_eq, decide_eq_true_eq] at h
  obtain ⟨k, hk, rfl⟩ := of_pos h.1
  have := h.2
  rw [ltN hk hn] at this
  exact ⟨k, this, rfl⟩
theorem inR_of {v : Int32} {a b : Nat} (ha : a < 2147483648) (hn : b < 2147483648) (h : inR v a b = true) : ∃ k : Nat, a ≤ k ∧ k ≤ b ∧ v = nI k := by
  unfold inR at h
  rw [Bool.and_eq_true, decide_eq_true_eq, decide_eq_true_eq] at h
  have h0 : nI 0 ≤ v := by
    have h1 := h.1
    rw [Int32.le_iff_toInt_le, toN ha] at h1
    rw [Int32.le_iff_toInt_le, toN (by omega)]
    omega
  obtain ⟨k, hk, rfl⟩ := of_pos h0
  have h1 := h.1
  have h2 := h.2
  rw [leN ha hk] at h1
  rw [leN hk hn] at h2
  exact ⟨k, h1, h2, rfl⟩
theorem inN_cases (v : Int32) (n : Nat) (hn : n < 2147483648) : (∃ k : Nat, k < n ∧ v = nI k) ∨ inN v n = false := by
  cases h : inN v n
  · exact Or.inr rfl
  · exact Or.inl (inN_of hn h)
theorem inR_cases (v : Int32) (a b : Nat) (ha : a < 2147483648) (hn : b < 2147483648) : (∃ k : Nat, a ≤ k ∧ k ≤ b ∧ v = nI k) ∨ inR v a b = false := by
  cases h : inR v a b
  · exact Or.inr rfl
  · exact Or.inl (inR_of ha hn h)
theorem inR_pred {v : Int32} {n : Nat} (h : 1 ≤ n) (hn : n < 2147483648) : inR v 0 (n - 1) = inN v n := by
  unfold inR inN
  congr 1
  rw [decide_eq_decide, Int32.le_iff_toInt_le, Int32.lt_iff_toInt_lt, toN (by omega), toN hn]
  exact ⟨fun h => by omega, fun h => by omega⟩
theorem nlt_le {a b : Int32} : (¬ a < b) = (b ≤ a) := by
  rw [Int32.lt_iff_toInt_lt, Int32.le_iff_toInt_le]
  exact propext ⟨fun h => by omega, fun h => by omega⟩
theorem nle_lt {a b : Int32} : (¬ a ≤ b) = (b < a) := by
  rw [Int32.lt_iff_toInt_lt, Int32.le_iff_toInt_le]
  exact propext ⟨fun h => by omega, fun h => by omega⟩
theorem within_R (σ : Mm) (v : Int32) (a b : Nat) : f_Ct_isWithin σ v (nI a) (nI b) = some (b2 (inR v a b)) := by
  unfold f_Ct_isWithin f_Ct_isWithin_14 f_Ct_isWithin_15 inR
  by_cases h1 : v < nI a
  · rw [if_pos h1, decide_eq_false (by rw [← nlt_le]; exact fun q => q h1)]; rfl
  · rw [if_neg h1, decide_eq_true (nlt_le ▸ h1)]
    by_cases h2 : nI b < v
    · rw [if_pos h2, decide_eq_false (by rw [← nlt_le]; exact fun q => q h2)]; rfl
    · rw [if_neg h2, decide_eq_true (nlt_le ▸ h2)]; rfl
theorem in_R (σ : Mm) (v : Int32) (a b : Nat) : f_Mo_in σ v (nI a) (nI b) = some (b2 (inR v a b)) := by
  unfold f_Mo_in f_Mo_in_14 f_Mo_in_15 inR
  by_cases h1 : v < nI a
  · rw [if_pos h1, decide_eq_false (by rw [← nlt_le]; exact fun q => q h1)]; rfl
  · rw [if_neg h1, decide_eq_true (nlt_le ▸ h1)]
    by_cases h2 : nI b < v
    · rw [if_pos h2, decide_eq_false (by rw [← nlt_le]; exact fun q => q h2)]; rfl
    · rw [if_neg h2, decide_eq_true (nlt_le ▸ h2)]; rfl
theorem pred_lt {v : Int32} {n : Nat} (hn : n < 2147483648) : (nI n - nI 1 < v) = (nI n ≤ v) := by
  have e : (nI n - nI 1).toInt = (n : Int) - 1 := by
    cases n with
    | zero => decide
    | succ m => rw [subN (by omega), toN (by omega)]; omega
  rw [Int32.lt_iff_toInt_lt, Int32.le_iff_toInt_le, e, toN hn]
  exact propext ⟨fun h => by omega, fun h => by omega⟩
theorem within_N (σ : Mm) (v : Int32) {n : Nat} (hn : n < 2147483648) : f_Ct_isWithin σ v (nI 0) (nI n - nI 1) = some (b2 (inN v n)) := by
  unfold f_Ct_isWithin f_Ct_isWithin_14 f_Ct_isWithin_15 inN
  by_cases h1 : v < nI 0
  · rw [if_pos h1, decide_eq_false (by rw [← nlt_le]; exact fun q => q h1)]; rfl
  · rw [if_neg h1, decide_eq_true (nlt_le ▸ h1)]
    by_cases h2 : nI n ≤ v
    · rw [if_pos (by rw [pred_lt hn]; exact h2), decide_eq_false (by rw [← nle_lt]; exact fun q => q h2)]; rfl
    · rw [if_neg (by rw [pred_lt hn]; exact h2), decide_eq_true (nle_lt ▸ h2)]; rfl
theorem in_N (σ : Mm) (v : Int32) {n : Nat} (hn : n < 2147483648) : f_Mo_in σ v (nI 0) (nI n - nI 1) = some (b2 (inN v n)) := by
  unfold f_Mo_in f_Mo_in_14 f_Mo_in_15 inN
  by_cases h1 : v < nI 0
  · rw [if_pos h1, decide_eq_false (by rw [← nlt_le]; exact fun q => q h1)]; rfl
  · rw [if_neg h1, decide_eq_true (nlt_le ▸ h1)]
    by_cases h2 : nI n ≤ v
    · rw [if_pos (by rw [pred_lt hn]; exact h2), decide_eq_false (by rw [← nle_lt]; exact fun q => q h2)]; rfl
    · rw [if_neg (by rw [pred_lt hn]; exact h2), decide_eq_true (nle_lt ▸ h2)]; rfl
/-! memories -/
theorem up2_e (σ : Mm) (k i : Nat) (v : Int32) : up2 σ k i v k = upd (σ k) i v := by unfold up2; rw [if_pos rfl]
theorem up2_r {k a : Nat} (σ : Mm) (i : Nat) (v : Int32) (h : a ≠ k) : up2 σ k i v a = σ a := by unfold up2; rw [if_neg h]
theorem cp2_e (σ : Mm) (j sp k dp n : Nat) : cp2 σ j sp k dp n k = va_cpy (σ j) (σ k) sp dp n := by unfold cp2; rw [if_pos rfl]
theorem cp2_r {k a : Nat} (σ : Mm) (j sp dp n : Nat) (h : a ≠ k) : cp2 σ j sp k dp n a = σ a := by unfold cp2; rw [if_neg h]
theorem upd_at (f : Nat → Int32) (i : Nat) (v : Int32) (j : Nat) : upd f i v j = if j = i then v else f j := rfl
/-! loops -/
theorem loopU {β : Type} (F : Nat → Nat → β) (R : Nat → β) (n : Nat) (h0 : ∀ f, F (f + 1) n = R n) (hs : ∀ f k, k < n → F f (k + 1) = R (k + 1) → F (f + 1) k = R k) : ∀ m k f, k + m = n → m < f → F f k = R k := by
  intro m
  induction m with
  | zero =>
    intro k f hk hf
    obtain ⟨f, rfl⟩ : ∃ f', f = f' + 1 := ⟨f - 1, by omega⟩
    obtain rfl : k = n := by omega
    exact h0 f
  | succ m ih =>
    intro k f hk hf
    obtain ⟨f, rfl⟩ : ∃ f', f = f' + 1 := ⟨f - 1, by omega⟩
    exact hs f k (by omega) (ih (k + 1) f (by omega) (by omega))
theorem loopD {β : Type} (F : Nat → Nat → β) (R : Nat → β) (n : Nat) (h0 : ∀ f, F (f + 1) 0 = R 0) (hs : ∀ f k, k < n → F f k = R k → F (f + 1) (k + 1) = R (k + 1)) : ∀ m f, m ≤ n → m < f → F f m = R m := by
  intro m
  induction m with
  | zero =>
    intro f hk hf
    obtain ⟨f, rfl⟩ : ∃ f', f = f' + 1 := ⟨f - 1, by omega⟩
    exact h0 f
  | succ m ih =>
    intro f hk hf
    obtain ⟨f, rfl⟩ : ∃ f', f = f' + 1 := ⟨f - 1, by omega⟩
    exact hs f m (by omega) (ih f (by omega) (by omega))
/-- from the first to the last, the state in between being known -/
theorem loopA {β : Type} (F : Nat → Nat → β) (r : β) (n : Nat) (h0 : ∀ f, F (f + 1) n = r) (hs : ∀ f k, k < n → F (f + 1) k = F f (k + 1)) (hN : n < NN) : F NN 0 = r :=
  loopU F (fun _ => r) n h0 (fun f k hk e => (hs f k hk).trans e) n 0 NN (by omega) hN
theorem NN_lt {n : Nat} (h : n < 10000) : n < NN := h
/-! where things lie -/
def BS (s : Nat) : Prop := s = 1 ∨ s = 85 ∨ s = 169
theorem r_Mo : rfT 298 0 = 299 := by decide
theorem r_now : rfT 0 0 = 1 := by decide
theorem r_s0 {s : Nat} (h : BS s) : rfT s 0 = s + 1 := by rcases h with rfl | rfl | rfl <;> decide
theorem r_s1 {s : Nat} (h : BS s) : rfT s 1 = s + 5 := by rcases h with rfl | rfl | rfl <;> decide
theorem r_s2 {s : Nat} (h : BS s) : rfT s 2 = s + 10 := by rcases h with rfl | rfl | rfl <;> decide
theorem r_s3 {s : Nat} (h : BS s) : rfT s 3 = s + 11 := by rcases h with rfl | rfl | rfl <;> decide
theorem r_s4 {s : Nat} (h : BS s) : rfT s 4 = s + 12 := by rcases h with rfl | rfl | rfl <;> decide
theorem r_s5 {s : Nat} (h : BS s) : rfT s 5 = s + 21 := by rcases h with rfl | rfl | rfl <;> decide
theorem r_s6 {s : Nat} (h : BS s) : rfT s 6 = s + 26 := by rcases h with rfl | rfl | rfl <;> decide
theorem r_s7 {s : Nat} (h : BS s) : rfT s 7 = s + 27 := by rcases h with rfl | rfl | rfl <;> decide
theorem r_h0 {s : Nat} (h : BS s) : rfT (s + 1) 0 = s + 2 := by rcases h with rfl | rfl | rfl <;> decide
theorem r_h1 {s : Nat} (h : BS s) : rfT (s + 1) 1 = s + 3 := by rcases h with rfl | rfl | rfl <;> decide
theorem r_h2 {s : Nat} (h : BS s) : rfT (s + 1) 2 = s + 4 := by rcases h with rfl | rfl | rfl <;> decide
theorem r_t0 {s : Nat} (h : BS s) : rfT (s + 5) 0 = s + 6 := by rcases h with rfl | rfl | rfl <;> decide
theorem r_t1 {s : Nat} (h : BS s) : rfT (s + 5) 1 = s + 7 := by rcases h with rfl | rfl | rfl <;> decide
theorem r_t2 {s : Nat} (h : BS s) : rfT (s + 5) 2 = s + 8 := by rcases h with rfl | rfl | rfl <;> decide
theorem r_t3 {s : Nat} (h : BS s) : rfT (s + 5) 3 = s + 9 := by rcases h with rfl | rfl | rfl <;> decide
theorem r_p {s : Nat} (h : BS s) {i : Nat} (hi : i < 24) : rfT (s + 10) i = s + 28 + i := by
  rcases h with rfl | rfl | rfl
  · exact (by decide : ∀ i, i < 24 → rfT 11 i = 29 + i) i hi
  · exact (by decide : ∀ i, i < 24 → rfT 95 i = 113 + i) i hi
  · exact (by decide : ∀ i, i < 24 → rfT 179 i = 197 + i) i hi
theorem r_r {s : Nat} (h : BS s) {i : Nat} (hi : i < 16) : rfT (s + 11) i = s + 52 + 2 * i := by
  rcases h with rfl | rfl | rfl
  · exact (by decide : ∀ i, i < 16 → rfT 12 i = 53 + 2 * i) i hi
  · exact (by decide : ∀ i, i < 16 → rfT 96 i = 137 + 2 * i) i hi
  · exact (by decide : ∀ i, i < 16 → rfT 180 i = 221 + 2 * i) i hi
theorem r_rs {s : Nat} (h : BS s) {i : Nat} (hi : i < 16) : rfT (s + 52 + 2 * i) 7 = s + 53 + 2 * i := by
  rcases h with rfl | rfl | rfl
  · exact (by decide : ∀ i, i < 16 → rfT (53 + 2 * i) 7 = 54 + 2 * i) i hi
  · exact (by decide : ∀ i, i < 16 → rfT (137 + 2 * i) 7 = 138 + 2 * i) i hi
  · exact (by decide : ∀ i, i < 16 → rfT (221 + 2 * i) 7 = 222 + 2 * i) i hi
theorem r_d0 {s : Nat} (h : BS s) : rfT (s + 12) 0 = s + 13 := by rcases h with rfl | rfl | rfl <;> decide
theorem r_d1 {s : Nat} (h : BS s) : rfT (s + 12) 1 = s + 14 := by rcases h with rfl | rfl | rfl <;> decide
theorem r_d2 {s : Nat} (h : BS s) : rfT (s + 12) 2 = s + 15 := by rcases h with rfl | rfl | rfl <;> decide
theorem r_d3 {s : Nat} (h : BS s) : rfT (s + 12) 3 = s + 16 := by rcases h with rfl | rfl | rfl <;> decide
theorem r_d4 {s : Nat} (h : BS s) : rfT (s + 12) 4 = s + 17 := by rcases h with rfl | rfl | rfl <;> decide
theorem r_d5 {s : Nat} (h : BS s) : rfT (s + 12) 5 = s + 18 := by rcases h with rfl | rfl | rfl <;> decide
theorem r_d6 {s : Nat} (h : BS s) : rfT (s + 12) 6 = s + 19 := by rcases h with rfl | rfl | rfl <;> decide
theorem r_d7 {s : Nat} (h : BS s) : rfT (s + 12) 7 = s + 20 := by rcases h with rfl | rfl | rfl <;> decide
theorem r_c0 {s : Nat} (h : BS s) : rfT (s + 21) 0 = s + 22 := by rcases h with rfl | rfl | rfl <;> decide
theorem r_c1 {s : Nat} (h : BS s) : rfT (s + 21) 1 = s + 23 := by rcases h with rfl | rfl | rfl <;> decide
theorem r_c2 {s : Nat} (h : BS s) : rfT (s + 21) 2 = s + 24 := by rcases h with rfl | rfl | rfl <;> decide
theorem r_c3 {s : Nat} (h : BS s) : rfT (s + 21) 3 = s + 25 := by rcases h with rfl | rfl | rfl <;> decide
/-! bits -/
def btI (x : Int32) (i : Nat) : Bool := x.toBitVec.getLsbD i
theorem b_ext {x y : Int32} (h : ∀ i, i < 32 → btI x i = btI y i) : x = y := Int32.toBitVec_inj.mp (BitVec.eq_of_getLsbD_eq (fun i hi => h i hi))
theorem b_or (x y : Int32) (i : Nat) : btI (x ||| y) i = (btI x i || btI y i) := by unfold btI; rw [Int32.toBitVec_or, BitVec.getLsbD_or]
theorem b_and (x y : Int32) (i : Nat) : btI (x &&& y) i = (btI x i && btI y i) := by unfold btI; rw [Int32.toBitVec_and, BitVec.getLsbD_and]
theorem b_xor (x y : Int32) (i : Nat) : btI (x ^^^ y) i = (btI x i ^^ btI y i) := by unfold btI; rw [Int32.toBitVec_xor, BitVec.getLsbD_xor]
theorem b_big {x : Int32} {i : Nat} (h : 32 ≤ i) : btI x i = false := BitVec.getLsbD_of_ge _ _ h
theorem b_255 (i : Nat) : btI 255 i = decide (i < 8) := by
  rcases Nat.lt_or_ge i 32 with h | h
  · exact (by decide +kernel : ∀ i, i < 32 → btI 255 i = decide (i < 8)) i h
  · rw [b_big h, decide_eq_false (by omega)]
theorem b_65535 (i : Nat) : btI 65535 i = decide (i < 16) := by
  rcases Nat.lt_or_ge i 32 with h | h
  · exact (by decide +kernel : ∀ i, i < 32 → btI 65535 i = decide (i < 16)) i h
  · rw [b_big h, decide_eq_false (by omega)]
theorem b_m1 : ∀ i, i < 32 → btI (-1) i = true := by decide +kernel
theorem b_0 (i : Nat) : btI 0 i = false := BitVec.getLsbD_zero
theorem s_l : ∀ n, n < 32 → ((nI n &&& 31).toBitVec.smod 32).toNat = n := by decide +kernel
theorem s_u : ∀ n, n < 32 → (((nI n).toUInt32 &&& Int32.toUInt32 31).toBitVec % 32).toNat = n := by decide +kernel
theorem b_shl (n : Nat) (hn : n < 32) (x : Int32) {i : Nat} (hi : i < 32) : btI (x <<< (nI n &&& 31)) i = (decide (n ≤ i) && btI x (i - n)) := by
  unfold btI
  rw [Int32.toBitVec_shiftLeft]
  show (x.toBitVec <<< ((nI n &&& 31).toBitVec.smod 32).toNat).getLsbD i = _
  rw [s_l n hn, BitVec.getLsbD_shiftLeft]
  rcases Nat.lt_or_ge i n with h | h
  · simp [h, Nat.not_le.mpr h]
  · simp [hi, h, Nat.not_lt.mpr h]
theorem b_ushr (n : Nat) (hn : n < 32) (x : Int32) (i : Nat) : btI ((x.toUInt32 >>> ((nI n).toUInt32 &&& Int32.toUInt32 31)).toInt32) i = btI x (n + i) := by
  show (x.toUInt32 >>> ((nI n).toUInt32 &&& Int32.toUInt32 31)).toBitVec.getLsbD i = x.toUInt32.toBitVec.getLsbD (n + i)
  rw [UInt32.toBitVec_shiftRight]
  show (x.toUInt32.toBitVec >>> (((nI n).toUInt32 &&& Int32.toUInt32 31).toBitVec % 32).toNat).getLsbD i = _
  rw [s_u n hn, BitVec.getLsbD_ushiftRight]
theorem b_sshr (n : Nat) (hn : n < 32) (x : Int32) {i : Nat} (hi : i < 32) : btI (x >>> (nI n &&& 31)) i = if n + i < 32 then btI x (n + i) else btI x 31 := by
  unfold btI
  rw [Int32.toBitVec_shiftRight]
  show (x.toBitVec.sshiftRight ((nI n &&& 31).toBitVec.smod 32).toNat).getLsbD i = _
  rw [s_l n hn, BitVec.getLsbD_sshiftRight, BitVec.msb_eq_getLsbD_last]
  simp [hi]
