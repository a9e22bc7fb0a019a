/-! what is left: a pair of methods at a time -/
def Pr_office (I : Mm → Prop) : Prop := ∀ (σ : Mm), I σ → ∃ (v : Int32) (σ1 : Mm) (σ2 : Mm), f_Ct_office 0  σ = some (v, σ1) ∧ f_Mo_office 298  σ1 = some (v, σ2) ∧ I σ2
theorem case_office {I : Mm → Prop} (hP : Pr_office I) {X : Xt} {k18 : Nat → Nat → Nat → Int32 → Mm → Option (Int32 × Mm)} {x0 : Nat} {i : Int32} {σ : Mm} (hI : I σ) (b1 : inbB (i + (1 : Int32)) X.1 = true) (b2 : inbB (i + (2 : Int32)) X.1 = true) (b3 : inbB (i + (3 : Int32)) X.1 = true) (b4 : inbB (i + (4 : Int32)) X.1 = true) (b5 : inbB (i + (5 : Int32)) X.1 = true) : ∃ σ2, I σ2 ∧ f_Lw_law_276 X k18 x0 0 298 i σ = k18 x0 0 298 (i + 6) σ2 := by
  obtain ⟨v, σ1, σ2, e1, e2, hI2⟩ := hP σ  hI
  refine ⟨σ2, hI2, ?_⟩
  unfold f_Lw_law_276
  simp only [ e1, e2, Option.bind_some, if_true, f_Lw_law_2077]
def Pr_hold (I : Mm → Prop) : Prop := ∀ (σ : Mm) (a1 a2 : Int32), I σ → ∃ (v : Int32) (σ1 : Mm) (σ2 : Mm), f_Ct_hold 0 a1 a2 σ = some (v, σ1) ∧ f_Mo_hold 298 a1 a2 σ1 = some (v, σ2) ∧ I σ2
theorem case_hold {I : Mm → Prop} (hP : Pr_hold I) {X : Xt} {k18 : Nat → Nat → Nat → Int32 → Mm → Option (Int32 × Mm)} {x0 : Nat} {i : Int32} {σ : Mm} (hI : I σ) (b1 : inbB (i + (1 : Int32)) X.1 = true) (b2 : inbB (i + (2 : Int32)) X.1 = true) (b3 : inbB (i + (3 : Int32)) X.1 = true) (b4 : inbB (i + (4 : Int32)) X.1 = true) (b5 : inbB (i + (5 : Int32)) X.1 = true) : ∃ σ2, I σ2 ∧ f_Lw_law_289 X k18 x0 0 298 i σ = k18 x0 0 298 (i + 6) σ2 := by
  obtain ⟨v, σ1, σ2, e1, e2, hI2⟩ := hP σ (X.2 (ix (i + (1 : Int32)))) (X.2 (ix (i + (2 : Int32)))) hI
  refine ⟨σ2, hI2, ?_⟩
  unfold f_Lw_law_289
  simp only [b1, b2,  e1, e2, Option.bind_some, if_true, f_Lw_law_2077]
def Pr_held (I : Mm → Prop) : Prop := ∀ (σ : Mm) (a1 a2 : Int32), I σ → ∃ (v : Int32), f_Ct_held σ 0 a1 a2 = some v ∧ f_Mo_held σ 298 a1 a2 = some v
theorem case_held {I : Mm → Prop} (hP : Pr_held I) {X : Xt} {k18 : Nat → Nat → Nat → Int32 → Mm → Option (Int32 × Mm)} {x0 : Nat} {i : Int32} {σ : Mm} (hI : I σ) (b1 : inbB (i + (1 : Int32)) X.1 = true) (b2 : inbB (i + (2 : Int32)) X.1 = true) (b3 : inbB (i + (3 : Int32)) X.1 = true) (b4 : inbB (i + (4 : Int32)) X.1 = true) (b5 : inbB (i + (5 : Int32)) X.1 = true) : ∃ σ2, I σ2 ∧ f_Lw_law_322 X k18 x0 0 298 i σ = k18 x0 0 298 (i + 6) σ2 := by
  obtain ⟨v, e1, e2⟩ := hP σ (X.2 (ix (i + (1 : Int32)))) (X.2 (ix (i + (2 : Int32)))) hI
  refine ⟨σ, hI, ?_⟩
  unfold f_Lw_law_322
  simp only [b1, b2,  e1, e2, Option.bind_some, if_true, f_Lw_law_2077]
def Pr_govern (I : Mm → Prop) : Prop := ∀ (σ : Mm), I σ → ∃ (v : Int32) (σ1 : Mm) (σ2 : Mm), f_Ct_govern 0  σ = some (v, σ1) ∧ f_Mo_govern 298  σ1 = some (v, σ2) ∧ I σ2
theorem case_govern {I : Mm → Prop} (hP : Pr_govern I) {X : Xt} {k18 : Nat → Nat → Nat → Int32 → Mm → Option (Int32 × Mm)} {x0 : Nat} {i : Int32} {σ : Mm} (hI : I σ) (b1 : inbB (i + (1 : Int32)) X.1 = true) (b2 : inbB (i + (2 : Int32)) X.1 = true) (b3 : inbB (i + (3 : Int32)) X.1 = true) (b4 : inbB (i + (4 : Int32)) X.1 = true) (b5 : inbB (i + (5 : Int32)) X.1 = true) : ∃ σ2, I σ2 ∧ f_Lw_law_355 X k18 x0 0 298 i σ = k18 x0 0 298 (i + 6) σ2 := by
  obtain ⟨v, σ1, σ2, e1, e2, hI2⟩ := hP σ  hI
  refine ⟨σ2, hI2, ?_⟩
  unfold f_Lw_law_355
  simp only [ e1, e2, Option.bind_some, if_true, f_Lw_law_2077]
def Pr_table (I : Mm → Prop) : Prop := ∀ (σ : Mm) (a1 a2 a3 : Int32), I σ → ∃ (v : Int32) (σ1 : Mm) (σ2 : Mm), f_Ct_table 0 a1 a2 a3 σ = some (v, σ1) ∧ f_Mo_table 298 a1 a2 a3 σ1 = some (v, σ2) ∧ I σ2
theorem case_table {I : Mm → Prop} (hP : Pr_table I) {X : Xt} {k18 : Nat → Nat → Nat → Int32 → Mm → Option (Int32 × Mm)} {x0 : Nat} {i : Int32} {σ : Mm} (hI : I σ) (b1 : inbB (i + (1 : Int32)) X.1 = true) (b2 : inbB (i + (2 : Int32)) X.1 = true) (b3 : inbB (i + (3 : Int32)) X.1 = true) (b4 : inbB (i + (4 : Int32)) X.1 = true) (b5 : inbB (i + (5 : Int32)) X.1 = true) : ∃ σ2, I σ2 ∧ f_Lw_law_368 X k18 x0 0 298 i σ = k18 x0 0 298 (i + 6) σ2 := by
  obtain ⟨v, σ1, σ2, e1, e2, hI2⟩ := hP σ (X.2 (ix (i + (1 : Int32)))) (X.2 (ix (i + (2 : Int32)))) (X.2 (ix (i + (3 : Int32)))) hI
  refine ⟨σ2, hI2, ?_⟩
  unfold f_Lw_law_368
  simp only [b1, b2, b3,  e1, e2, Option.bind_some, if_true, f_Lw_law_2077]
def Pr_seats (I : Mm → Prop) : Prop := ∀ (σ : Mm) (a1 a2 : Int32), I σ → ∃ (v : Int32) (σ1 : Mm) (σ2 : Mm), f_Ct_seats 0 a1 a2 σ = some (v, σ1) ∧ f_Mo_seats 298 a1 a2 σ1 = some (v, σ2) ∧ I σ2
theorem case_seats {I : Mm → Prop} (hP : Pr_seats I) {X : Xt} {k18 : Nat → Nat → Nat → Int32 → Mm → Option (Int32 × Mm)} {x0 : Nat} {i : Int32} {σ : Mm} (hI : I σ) (b1 : inbB (i + (1 : Int32)) X.1 = true) (b2 : inbB (i + (2 : Int32)) X.1 = true) (b3 : inbB (i + (3 : Int32)) X.1 = true) (b4 : inbB (i + (4 : Int32)) X.1 = true) (b5 : inbB (i + (5 : Int32)) X.1 = true) : ∃ σ2, I σ2 ∧ f_Lw_law_411 X k18 x0 0 298 i σ = k18 x0 0 298 (i + 6) σ2 := by
  obtain ⟨v, σ1, σ2, e1, e2, hI2⟩ := hP σ (X.2 (ix (i + (1 : Int32)))) (X.2 (ix (i + (2 : Int32)))) hI
  refine ⟨σ2, hI2, ?_⟩
  unfold f_Lw_law_411
  simp only [b1, b2,  e1, e2, Option.bind_some, if_true, f_Lw_law_2077]
def Pr_sits (I : Mm → Prop) : Prop := ∀ (σ : Mm) (a1 a2 : Int32), I σ → ∃ (v : Int32), f_Ct_sits σ 0 a1 a2 = some v ∧ f_Mo_sits σ 298 a1 a2 = some v
theorem case_sits {I : Mm → Prop} (hP : Pr_sits I) {X : Xt} {k18 : Nat → Nat → Nat → Int32 → Mm → Option (Int32 × Mm)} {x0 : Nat} {i : Int32} {σ : Mm} (hI : I σ) (b1 : inbB (i + (1 : Int32)) X.1 = true) (b2 : inbB (i + (2 : Int32)) X.1 = true) (b3 : inbB (i + (3 : Int32)) X.1 = true) (b4 : inbB (i + (4 : Int32)) X.1 = true) (b5 : inbB (i + (5 : Int32)) X.1 = true) : ∃ σ2, I σ2 ∧ f_Lw_law_444 X k18 x0 0 298 i σ = k18 x0 0 298 (i + 6) σ2 := by
  obtain ⟨v, e1, e2⟩ := hP σ (X.2 (ix (i + (1 : Int32)))) (X.2 (ix (i + (2 : Int32)))) hI
  refine ⟨σ, hI, ?_⟩
  unfold f_Lw_law_444
  simp only [b1, b2,  e1, e2, Option.bind_some, if_true, f_Lw_law_2077]
def Pr_pass (I : Mm → Prop) : Prop := ∀ (σ : Mm) (a1 a2 a3 : Int32), I σ → ∃ (v : Int32) (σ1 : Mm) (σ2 : Mm), f_Ct_pass 0 a1 a2 a3 σ = some (v, σ1) ∧ f_Mo_pass 298 a1 a2 a3 σ1 = some (v, σ2) ∧ I σ2
theorem case_pass {I : Mm → Prop} (hP : Pr_pass I) {X : Xt} {k18 : Nat → Nat → Nat → Int32 → Mm → Option (Int32 × Mm)} {x0 : Nat} {i : Int32} {σ : Mm} (hI : I σ) (b1 : inbB (i + (1 : Int32)) X.1 = true) (b2 : inbB (i + (2 : Int32)) X.1 = true) (b3 : inbB (i + (3 : Int32)) X.1 = true) (b4 : inbB (i + (4 : Int32)) X.1 = true) (b5 : inbB (i + (5 : Int32)) X.1 = true) : ∃ σ2, I σ2 ∧ f_Lw_law_477 X k18 x0 0 298 i σ = k18 x0 0 298 (i + 6) σ2 := by
  obtain ⟨v, σ1, σ2, e1, e2, hI2⟩ := hP σ (X.2 (ix (i + (1 : Int32)))) (X.2 (ix (i + (2 : Int32)))) (X.2 (ix (i + (3 : Int32)))) hI
  refine ⟨σ2, hI2, ?_⟩
  unfold f_Lw_law_477
  simp only [b1, b2, b3,  e1, e2, Option.bind_some, if_true, f_Lw_law_2077]
def Pr_way (I : Mm → Prop) : Prop := ∀ (σ : Mm) (a1 a2 a3 a4 : Int32), I σ → ∃ (v : Int32) (σ1 : Mm) (σ2 : Mm), f_Ct_way 0 a1 a2 a3 a4 σ = some (v, σ1) ∧ f_Mo_way 298 a1 a2 a3 a4 σ1 = some (v, σ2) ∧ I σ2
theorem case_way {I : Mm → Prop} (hP : Pr_way I) {X : Xt} {k18 : Nat → Nat → Nat → Int32 → Mm → Option (Int32 × Mm)} {x0 : Nat} {i : Int32} {σ : Mm} (hI : I σ) (b1 : inbB (i + (1 : Int32)) X.1 = true) (b2 : inbB (i + (2 : Int32)) X.1 = true) (b3 : inbB (i + (3 : Int32)) X.1 = true) (b4 : inbB (i + (4 : Int32)) X.1 = true) (b5 : inbB (i + (5 : Int32)) X.1 = true) : ∃ σ2, I σ2 ∧ f_Lw_law_520 X k18 x0 0 298 i σ = k18 x0 0 298 (i + 6) σ2 := by
  obtain ⟨v, σ1, σ2, e1, e2, hI2⟩ := hP σ (X.2 (ix (i + (1 : Int32)))) (X.2 (ix (i + (2 : Int32)))) (X.2 (ix (i + (3 : Int32)))) (X.2 (ix (i + (4 : Int32)))) hI
  refine ⟨σ2, hI2, ?_⟩
  unfold f_Lw_law_520
  simp only [b1, b2, b3, b4,  e1, e2, Option.bind_some, if_true, f_Lw_law_2077]
def Pr_paper (I : Mm → Prop) : Prop := ∀ (σ : Mm) (a1 a2 a3 a4 a5 : Int32), I σ → ∃ (v : Int32) (σ1 : Mm) (σ2 : Mm), f_Ct_paper 0 a1 a2 a3 a4 a5 σ = some (v, σ1) ∧ f_Mo_paper 298 a1 a2 a3 a4 a5 σ1 = some (v, σ2) ∧ I σ2
theorem case_paper {I : Mm → Prop} (hP : Pr_paper I) {X : Xt} {k18 : Nat → Nat → Nat → Int32 → Mm → Option (Int32 × Mm)} {x0 : Nat} {i : Int32} {σ : Mm} (hI : I σ) (b1 : inbB (i + (1 : Int32)) X.1 = true) (b2 : inbB (i + (2 : Int32)) X.1 = true) (b3 : inbB (i + (3 : Int32)) X.1 = true) (b4 : inbB (i + (4 : Int32)) X.1 = true) (b5 : inbB (i + (5 : Int32)) X.1 = true) : ∃ σ2, I σ2 ∧ f_Lw_law_573 X k18 x0 0 298 i σ = k18 x0 0 298 (i + 6) σ2 := by
  obtain ⟨v, σ1, σ2, e1, e2, hI2⟩ := hP σ (X.2 (ix (i + (1 : Int32)))) (X.2 (ix (i + (2 : Int32)))) (X.2 (ix (i + (3 : Int32)))) (X.2 (ix (i + (4 : Int32)))) (X.2 (ix (i + (5 : Int32)))) hI
  refine ⟨σ2, hI2, ?_⟩
  unfold f_Lw_law_573
  simp only [b1, b2, b3, b4, b5,  e1, e2, Option.bind_some, if_true, f_Lw_law_2077]
def Pr_told (I : Mm → Prop) : Prop := ∀ (σ : Mm) (a1 a2 : Int32), I σ → ∃ (v : Int32), f_Ct_told σ 0 a1 a2 = some v ∧ f_Mo_told σ 298 a1 a2 = some v
theorem case_told {I : Mm → Prop} (hP : Pr_told I) {X : Xt} {k18 : Nat → Nat → Nat → Int32 → Mm → Option (Int32 × Mm)} {x0 : Nat} {i : Int32} {σ : Mm} (hI : I σ) (b1 : inbB (i + (1 : Int32)) X.1 = true) (b2 : inbB (i + (2 : Int32)) X.1 = true) (b3 : inbB (i + (3 : Int32)) X.1 = true) (b4 : inbB (i + (4 : Int32)) X.1 = true) (b5 : inbB (i + (5 : Int32)) X.1 = true) : ∃ σ2, I σ2 ∧ f_Lw_law_636 X k18 x0 0 298 i σ = k18 x0 0 298 (i + 6) σ2 := by
  obtain ⟨v, e1, e2⟩ := hP σ (X.2 (ix (i + (1 : Int32)))) (X.2 (ix (i + (2 : Int32)))) hI
  refine ⟨σ, hI, ?_⟩
  unfold f_Lw_law_636
  simp only [b1, b2,  e1, e2, Option.bind_some, if_true, f_Lw_law_2077]
def Pr_as (I : Mm → Prop) : Prop := ∀ (σ : Mm) (a1 a2 : Int32), I σ → ∃ (v : Int32), f_Ct_as σ 0 a1 a2 = some v ∧ f_Mo_as σ 298 a1 a2 = some v
theorem case_as {I : Mm → Prop} (hP : Pr_as I) {X : Xt} {k18 : Nat → Nat → Nat → Int32 → Mm → Option (Int32 × Mm)} {x0 : Nat} {i : Int32} {σ : Mm} (hI : I σ) (b1 : inbB (i + (1 : Int32)) X.1 = true) (b2 : inbB (i + (2 : Int32)) X.1 = true) (b3 : inbB (i + (3 : Int32)) X.1 = true) (b4 : inbB (i + (4 : Int32)) X.1 = true) (b5 : inbB (i + (5 : Int32)) X.1 = true) : ∃ σ2, I σ2 ∧ f_Lw_law_669 X k18 x0 0 298 i σ = k18 x0 0 298 (i + 6) σ2 := by
  obtain ⟨v, e1, e2⟩ := hP σ (X.2 (ix (i + (1 : Int32)))) (X.2 (ix (i + (2 : Int32)))) hI
  refine ⟨σ, hI, ?_⟩
  unfold f_Lw_law_669
  simp only [b1, b2,  e1, e2, Option.bind_some, if_true, f_Lw_law_2077]
def Pr_send (I : Mm → Prop) : Prop := ∀ (σ : Mm) (a1 : Int32), I σ → ∃ (v : Int32) (σ1 : Mm) (σ2 : Mm), f_Ct_send 0 a1 σ = some (v, σ1) ∧ f_Mo_send 298 a1 σ1 = some (v, σ2) ∧ I σ2
theorem case_send {I : Mm → Prop} (hP : Pr_send I) {X : Xt} {k18 : Nat → Nat → Nat → Int32 → Mm → Option (Int32 × Mm)} {x0 : Nat} {i : Int32} {σ : Mm} (hI : I σ) (b1 : inbB (i + (1 : Int32)) X.1 = true) (b2 : inbB (i + (2 : Int32)) X.1 = true) (b3 : inbB (i + (3 : Int32)) X.1 = true) (b4 : inbB (i + (4 : Int32)) X.1 = true) (b5 : inbB (i + (5 : Int32)) X.1 = true) : ∃ σ2, I σ2 ∧ f_Lw_law_702 X k18 x0 0 298 i σ = k18 x0 0 298 (i + 6) σ2 := by
  obtain ⟨v, σ1, σ2, e1, e2, hI2⟩ := hP σ (X.2 (ix (i + (1 : Int32)))) hI
  refine ⟨σ2, hI2, ?_⟩
  unfold f_Lw_law_702
  simp only [b1,  e1, e2, Option.bind_some, if_true, f_Lw_law_2077]
def Pr_take (I : Mm → Prop) : Prop := ∀ (σ : Mm) (a1 : Int32), I σ → ∃ (v : Int32) (σ1 : Mm) (σ2 : Mm), f_Ct_take 0 a1 σ = some (v, σ1) ∧ f_Mo_take 298 a1 σ1 = some (v, σ2) ∧ I σ2
theorem case_take {I : Mm → Prop} (hP : Pr_take I) {X : Xt} {k18 : Nat → Nat → Nat → Int32 → Mm → Option (Int32 × Mm)} {x0 : Nat} {i : Int32} {σ : Mm} (hI : I σ) (b1 : inbB (i + (1 : Int32)) X.1 = true) (b2 : inbB (i + (2 : Int32)) X.1 = true) (b3 : inbB (i + (3 : Int32)) X.1 = true) (b4 : inbB (i + (4 : Int32)) X.1 = true) (b5 : inbB (i + (5 : Int32)) X.1 = true) : ∃ σ2, I σ2 ∧ f_Lw_law_725 X k18 x0 0 298 i σ = k18 x0 0 298 (i + 6) σ2 := by
  obtain ⟨v, σ1, σ2, e1, e2, hI2⟩ := hP σ (X.2 (ix (i + (1 : Int32)))) hI
  refine ⟨σ2, hI2, ?_⟩
  unfold f_Lw_law_725
  simp only [b1,  e1, e2, Option.bind_some, if_true, f_Lw_law_2077]
def Pr_word (I : Mm → Prop) : Prop := ∀ (σ : Mm) (a1 a2 a3 : Int32), I σ → ∃ (v : Int32) (σ1 : Mm) (σ2 : Mm), f_Ct_word 0 a1 a2 a3 σ = some (v, σ1) ∧ f_Mo_word 298 a1 a2 a3 σ1 = some (v, σ2) ∧ I σ2
theorem case_word {I : Mm → Prop} (hP : Pr_word I) {X : Xt} {k18 : Nat → Nat → Nat → Int32 → Mm → Option (Int32 × Mm)} {x0 : Nat} {i : Int32} {σ : Mm} (hI : I σ) (b1 : inbB (i + (1 : Int32)) X.1 = true) (b2 : inbB (i + (2 : Int32)) X.1 = true) (b3 : inbB (i + (3 : Int32)) X.1 = true) (b4 : inbB (i + (4 : Int32)) X.1 = true) (b5 : inbB (i + (5 : Int32)) X.1 = true) : ∃ σ2, I σ2 ∧ f_Lw_law_748 X k18 x0 0 298 i σ = k18 x0 0 298 (i + 6) σ2 := by
  obtain ⟨v, σ1, σ2, e1, e2, hI2⟩ := hP σ (X.2 (ix (i + (1 : Int32)))) (X.2 (ix (i + (2 : Int32)))) (X.2 (ix (i + (3 : Int32)))) hI
  refine ⟨σ2, hI2, ?_⟩
  unfold f_Lw_law_748
  simp only [b1, b2, b3,  e1, e2, Option.bind_some, if_true, f_Lw_law_2077]
def Pr_feed (I : Mm → Prop) : Prop := ∀ (σ : Mm) (a1 a2 a3 : Int32), I σ → ∃ (v : Int32) (σ1 : Mm) (σ2 : Mm), f_Ct_feed 0 a1 a2 a3 σ = some (v, σ1) ∧ f_Mo_feed 298 a1 a2 a3 σ1 = some (v, σ2) ∧ I σ2
theorem case_feed {I : Mm → Prop} (hP : Pr_feed I) {X : Xt} {k18 : Nat → Nat → Nat → Int32 → Mm → Option (Int32 × Mm)} {x0 : Nat} {i : Int32} {σ : Mm} (hI : I σ) (b1 : inbB (i + (1 : Int32)) X.1 = true) (b2 : inbB (i + (2 : Int32)) X.1 = true) (b3 : inbB (i + (3 : Int32)) X.1 = true) (b4 : inbB (i + (4 : Int32)) X.1 = true) (b5 : inbB (i + (5 : Int32)) X.1 = true) : ∃ σ2, I σ2 ∧ f_Lw_law_791 X k18 x0 0 298 i σ = k18 x0 0 298 (i + 6) σ2 := by
  obtain ⟨v, σ1, σ2, e1, e2, hI2⟩ := hP σ (X.2 (ix (i + (1 : Int32)))) (X.2 (ix (i + (2 : Int32)))) (X.2 (ix (i + (3 : Int32)))) hI
  refine ⟨σ2, hI2, ?_⟩
  unfold f_Lw_law_791
  simp only [b1, b2, b3,  e1, e2, Option.bind_some, if_true, f_Lw_law_2077]
def Pr_trim (I : Mm → Prop) : Prop := ∀ (σ : Mm) (a1 : Int32), I σ → ∃ (v : Int32) (σ1 : Mm) (σ2 : Mm), f_Ct_trim 0 a1 σ = some (v, σ1) ∧ f_Mo_trim 298 a1 σ1 = some (v, σ2) ∧ I σ2
theorem case_trim {I : Mm → Prop} (hP : Pr_trim I) {X : Xt} {k18 : Nat → Nat → Nat → Int32 → Mm → Option (Int32 × Mm)} {x0 : Nat} {i : Int32} {σ : Mm} (hI : I σ) (b1 : inbB (i + (1 : Int32)) X.1 = true) (b2 : inbB (i + (2 : Int32)) X.1 = true) (b3 : inbB (i + (3 : Int32)) X.1 = true) (b4 : inbB (i + (4 : Int32)) X.1 = true) (b5 : inbB (i + (5 : Int32)) X.1 = true) : ∃ σ2, I σ2 ∧ f_Lw_law_834 X k18 x0 0 298 i σ = k18 x0 0 298 (i + 6) σ2 := by
  obtain ⟨v, σ1, σ2, e1, e2, hI2⟩ := hP σ (X.2 (ix (i + (1 : Int32)))) hI
  refine ⟨σ2, hI2, ?_⟩
  unfold f_Lw_law_834
  simp only [b1,  e1, e2, Option.bind_some, if_true, f_Lw_law_2077]
def Pr_rule (I : Mm → Prop) : Prop := ∀ (σ : Mm) (a1 : Int32), I σ → ∃ (v : Int32) (σ1 : Mm) (σ2 : Mm), f_Ct_rule 0 a1 σ = some (v, σ1) ∧ f_Mo_rule 298 a1 σ1 = some (v, σ2) ∧ I σ2
theorem case_rule {I : Mm → Prop} (hP : Pr_rule I) {X : Xt} {k18 : Nat → Nat → Nat → Int32 → Mm → Option (Int32 × Mm)} {x0 : Nat} {i : Int32} {σ : Mm} (hI : I σ) (b1 : inbB (i + (1 : Int32)) X.1 = true) (b2 : inbB (i + (2 : Int32)) X.1 = true) (b3 : inbB (i + (3 : Int32)) X.1 = true) (b4 : inbB (i + (4 : Int32)) X.1 = true) (b5 : inbB (i + (5 : Int32)) X.1 = true) : ∃ σ2, I σ2 ∧ f_Lw_law_857 X k18 x0 0 298 i σ = k18 x0 0 298 (i + 6) σ2 := by
  obtain ⟨v, σ1, σ2, e1, e2, hI2⟩ := hP σ (X.2 (ix (i + (1 : Int32)))) hI
  refine ⟨σ2, hI2, ?_⟩
  unfold f_Lw_law_857
  simp only [b1,  e1, e2, Option.bind_some, if_true, f_Lw_law_2077]
def Pr_of (I : Mm → Prop) : Prop := ∀ (σ : Mm) (a1 a2 : Int32), I σ → ∃ (v : Int32), f_Ct_of σ 0 a1 a2 = some v ∧ f_Mo_of σ 298 a1 a2 = some v
theorem case_of {I : Mm → Prop} (hP : Pr_of I) {X : Xt} {k18 : Nat → Nat → Nat → Int32 → Mm → Option (Int32 × Mm)} {x0 : Nat} {i : Int32} {σ : Mm} (hI : I σ) (b1 : inbB (i + (1 : Int32)) X.1 = true) (b2 : inbB (i + (2 : Int32)) X.1 = true) (b3 : inbB (i + (3 : Int32)) X.1 = true) (b4 : inbB (i + (4 : Int32)) X.1 = true) (b5 : inbB (i + (5 : Int32)) X.1 = true) : ∃ σ2, I σ2 ∧ f_Lw_law_880 X k18 x0 0 298 i σ = k18 x0 0 298 (i + 6) σ2 := by
  obtain ⟨v, e1, e2⟩ := hP σ (X.2 (ix (i + (1 : Int32)))) (X.2 (ix (i + (2 : Int32)))) hI
  refine ⟨σ, hI, ?_⟩
  unfold f_Lw_law_880
  simp only [b1, b2,  e1, e2, Option.bind_some, if_true, f_Lw_law_2077]
def Pr_counts (I : Mm → Prop) : Prop := ∀ (σ : Mm) (a1 a2 : Int32), I σ → ∃ (v : Int32) (σ2 : Mm), f_Ct_counts σ 0 a1 a2 = some v ∧ f_Mo_counts 298 a1 a2 σ = some (v, σ2) ∧ I σ2
theorem case_counts {I : Mm → Prop} (hP : Pr_counts I) {X : Xt} {k18 : Nat → Nat → Nat → Int32 → Mm → Option (Int32 × Mm)} {x0 : Nat} {i : Int32} {σ : Mm} (hI : I σ) (b1 : inbB (i + (1 : Int32)) X.1 = true) (b2 : inbB (i + (2 : Int32)) X.1 = true) (b3 : inbB (i + (3 : Int32)) X.1 = true) (b4 : inbB (i + (4 : Int32)) X.1 = true) (b5 : inbB (i + (5 : Int32)) X.1 = true) : ∃ σ2, I σ2 ∧ f_Lw_law_913 X k18 x0 0 298 i σ = k18 x0 0 298 (i + 6) σ2 := by
  obtain ⟨v, σ2, e1, e2, hI2⟩ := hP σ (X.2 (ix (i + (1 : Int32)))) (X.2 (ix (i + (2 : Int32)))) hI
  refine ⟨σ2, hI2, ?_⟩
  unfold f_Lw_law_913
  simp only [b1, b2,  e1, e2, Option.bind_some, if_true, f_Lw_law_2077]
def Pr_due (I : Mm → Prop) : Prop := ∀ (σ : Mm) (a1 a2 : Int32), I σ → ∃ (v : Int32) (σ2 : Mm), f_Ct_due σ 0 a1 a2 = some v ∧ f_Mo_due 298 a1 a2 σ = some (v, σ2) ∧ I σ2
theorem case_due {I : Mm → Prop} (hP : Pr_due I) {X : Xt} {k18 : Nat → Nat → Nat → Int32 → Mm → Option (Int32 × Mm)} {x0 : Nat} {i : Int32} {σ : Mm} (hI : I σ) (b1 : inbB (i + (1 : Int32)) X.1 = true) (b2 : inbB (i + (2 : Int32)) X.1 = true) (b3 : inbB (i + (3 : Int32)) X.1 = true) (b4 : inbB (i + (4 : Int32)) X.1 = true) (b5 : inbB (i + (5 : Int32)) X.1 = true) : ∃ σ2, I σ2 ∧ f_Lw_law_946 X k18 x0 0 298 i σ = k18 x0 0 298 (i + 6) σ2 := by
  obtain ⟨v, σ2, e1, e2, hI2⟩ := hP σ (X.2 (ix (i + (1 : Int32)))) (X.2 (ix (i + (2 : Int32)))) hI
  refine ⟨σ2, hI2, ?_⟩
  unfold f_Lw_law_946
  simp only [b1, b2,  e1, e2, Option.bind_some, if_true, f_Lw_law_2077]
def Pr_why (I : Mm → Prop) : Prop := ∀ (σ : Mm) (a1 a2 : Int32), I σ → ∃ (v : Int32) (σ2 : Mm), f_Ct_why σ 0 a1 a2 = some v ∧ f_Mo_why 298 a1 a2 σ = some (v, σ2) ∧ I σ2
theorem case_why {I : Mm → Prop} (hP : Pr_why I) {X : Xt} {k18 : Nat → Nat → Nat → Int32 → Mm → Option (Int32 × Mm)} {x0 : Nat} {i : Int32} {σ : Mm} (hI : I σ) (b1 : inbB (i + (1 : Int32)) X.1 = true) (b2 : inbB (i + (2 : Int32)) X.1 = true) (b3 : inbB (i + (3 : Int32)) X.1 = true) (b4 : inbB (i + (4 : Int32)) X.1 = true) (b5 : inbB (i + (5 : Int32)) X.1 = true) : ∃ σ2, I σ2 ∧ f_Lw_law_979 X k18 x0 0 298 i σ = k18 x0 0 298 (i + 6) σ2 := by
  obtain ⟨v, σ2, e1, e2, hI2⟩ := hP σ (X.2 (ix (i + (1 : Int32)))) (X.2 (ix (i + (2 : Int32)))) hI
  refine ⟨σ2, hI2, ?_⟩
  unfold f_Lw_law_979
  simp only [b1, b2,  e1, e2, Option.bind_some, if_true, f_Lw_law_2077]
def Pr_quarrel (I : Mm → Prop) : Prop := ∀ (σ : Mm) (a1 a2 : Int32), I σ → ∃ (v : Int32) (σ2 : Mm), f_Ct_quarrel σ 0 a1 a2 = some v ∧ f_Mo_quarrel 298 a1 a2 σ = some (v, σ2) ∧ I σ2
theorem case_quarrel {I : Mm → Prop} (hP : Pr_quarrel I) {X : Xt} {k18 : Nat → Nat → Nat → Int32 → Mm → Option (Int32 × Mm)} {x0 : Nat} {i : Int32} {σ : Mm} (hI : I σ) (b1 : inbB (i + (1 : Int32)) X.1 = true) (b2 : inbB (i + (2 : Int32)) X.1 = true) (b3 : inbB (i + (3 : Int32)) X.1 = true) (b4 : inbB (i + (4 : Int32)) X.1 = true) (b5 : inbB (i + (5 : Int32)) X.1 = true) : ∃ σ2, I σ2 ∧ f_Lw_law_1012 X k18 x0 0 298 i σ = k18 x0 0 298 (i + 6) σ2 := by
  obtain ⟨v, σ2, e1, e2, hI2⟩ := hP σ (X.2 (ix (i + (1 : Int32)))) (X.2 (ix (i + (2 : Int32)))) hI
  refine ⟨σ2, hI2, ?_⟩
  unfold f_Lw_law_1012
  simp only [b1, b2,  e1, e2, Option.bind_some, if_true, f_Lw_law_2077]
def Pr_lacks (I : Mm → Prop) : Prop := ∀ (σ : Mm) (a1 a2 : Int32), I σ → ∃ (v : Int32) (σ2 : Mm), f_Ct_lacks σ 0 a1 a2 = some v ∧ f_Mo_lacks 298 a1 a2 σ = some (v, σ2) ∧ I σ2
theorem case_lacks {I : Mm → Prop} (hP : Pr_lacks I) {X : Xt} {k18 : Nat → Nat → Nat → Int32 → Mm → Option (Int32 × Mm)} {x0 : Nat} {i : Int32} {σ : Mm} (hI : I σ) (b1 : inbB (i + (1 : Int32)) X.1 = true) (b2 : inbB (i + (2 : Int32)) X.1 = true) (b3 : inbB (i + (3 : Int32)) X.1 = true) (b4 : inbB (i + (4 : Int32)) X.1 = true) (b5 : inbB (i + (5 : Int32)) X.1 = true) : ∃ σ2, I σ2 ∧ f_Lw_law_1045 X k18 x0 0 298 i σ = k18 x0 0 298 (i + 6) σ2 := by
  obtain ⟨v, σ2, e1, e2, hI2⟩ := hP σ (X.2 (ix (i + (1 : Int32)))) (X.2 (ix (i + (2 : Int32)))) hI
  refine ⟨σ2, hI2, ?_⟩
  unfold f_Lw_law_1045
  simp only [b1, b2,  e1, e2, Option.bind_some, if_true, f_Lw_law_2077]
def Pr_come (I : Mm → Prop) : Prop := ∀ (σ : Mm) (a1 a2 a3 : Int32), I σ → ∃ (v : Int32) (σ1 : Mm) (σ2 : Mm), f_Ct_come 0 a1 a2 a3 σ = some (v, σ1) ∧ f_Mo_come 298 a1 a2 a3 σ1 = some (v, σ2) ∧ I σ2
theorem case_come {I : Mm → Prop} (hP : Pr_come I) {X : Xt} {k18 : Nat → Nat → Nat → Int32 → Mm → Option (Int32 × Mm)} {x0 : Nat} {i : Int32} {σ : Mm} (hI : I σ) (b1 : inbB (i + (1 : Int32)) X.1 = true) (b2 : inbB (i + (2 : Int32)) X.1 = true) (b3 : inbB (i + (3 : Int32)) X.1 = true) (b4 : inbB (i + (4 : Int32)) X.1 = true) (b5 : inbB (i + (5 : Int32)) X.1 = true) : ∃ σ2, I σ2 ∧ f_Lw_law_1078 X k18 x0 0 298 i σ = k18 x0 0 298 (i + 6) σ2 := by
  obtain ⟨v, σ1, σ2, e1, e2, hI2⟩ := hP σ (X.2 (ix (i + (1 : Int32)))) (X.2 (ix (i + (2 : Int32)))) (X.2 (ix (i + (3 : Int32)))) hI
  refine ⟨σ2, hI2, ?_⟩
  unfold f_Lw_law_1078
  simp only [b1, b2, b3,  e1, e2, Option.bind_some, if_true, f_Lw_law_2077]
def Pr_decide (I : Mm → Prop) : Prop := ∀ (σ : Mm) (a1 a2 a3 : Int32), I σ → ∃ (v : Int32) (σ1 : Mm) (σ2 : Mm), f_Ct_decide 0 a1 a2 a3 σ = some (v, σ1) ∧ f_Mo_decide 298 a1 a2 a3 σ1 = some (v, σ2) ∧ I σ2
theorem case_decide {I : Mm → Prop} (hP : Pr_decide I) {X : Xt} {k18 : Nat → Nat → Nat → Int32 → Mm → Option (Int32 × Mm)} {x0 : Nat} {i : Int32} {σ : Mm} (hI : I σ) (b1 : inbB (i + (1 : Int32)) X.1 = true) (b2 : inbB (i + (2 : Int32)) X.1 = true) (b3 : inbB (i + (3 : Int32)) X.1 = true) (b4 : inbB (i + (4 : Int32)) X.1 = true) (b5 : inbB (i + (5 : Int32)) X.1 = true) : ∃ σ2, I σ2 ∧ f_Lw_law_1121 X k18 x0 0 298 i σ = k18 x0 0 298 (i + 6) σ2 := by
  obtain ⟨v, σ1, σ2, e1, e2, hI2⟩ := hP σ (X.2 (ix (i + (1 : Int32)))) (X.2 (ix (i + (2 : Int32)))) (X.2 (ix (i + (3 : Int32)))) hI
  refine ⟨σ2, hI2, ?_⟩
  unfold f_Lw_law_1121
  simp only [b1, b2, b3,  e1, e2, Option.bind_some, if_true, f_Lw_law_2077]
def Pr_is (I : Mm → Prop) : Prop := ∀ (σ : Mm) (a1 a2 : Int32), I σ → ∃ (v : Int32), f_Ct_is σ 0 a1 a2 = some v ∧ f_Mo_is σ 298 a1 a2 = some v
theorem case_is {I : Mm → Prop} (hP : Pr_is I) {X : Xt} {k18 : Nat → Nat → Nat → Int32 → Mm → Option (Int32 × Mm)} {x0 : Nat} {i : Int32} {σ : Mm} (hI : I σ) (b1 : inbB (i + (1 : Int32)) X.1 = true) (b2 : inbB (i + (2 : Int32)) X.1 = true) (b3 : inbB (i + (3 : Int32)) X.1 = true) (b4 : inbB (i + (4 : Int32)) X.1 = true) (b5 : inbB (i + (5 : Int32)) X.1 = true) : ∃ σ2, I σ2 ∧ f_Lw_law_1164 X k18 x0 0 298 i σ = k18 x0 0 298 (i + 6) σ2 := by
  obtain ⟨v, e1, e2⟩ := hP σ (X.2 (ix (i + (1 : Int32)))) (X.2 (ix (i + (2 : Int32)))) hI
  refine ⟨σ, hI, ?_⟩
  unfold f_Lw_law_1164
  simp only [b1, b2,  e1, e2, Option.bind_some, if_true, f_Lw_law_2077]
def Pr_reopen (I : Mm → Prop) : Prop := ∀ (σ : Mm) (a1 : Int32), I σ → ∃ (v : Int32) (σ1 : Mm) (σ2 : Mm), f_Ct_reopen 0 a1 σ = some (v, σ1) ∧ f_Mo_reopen 298 a1 σ1 = some (v, σ2) ∧ I σ2
theorem case_reopen {I : Mm → Prop} (hP : Pr_reopen I) {X : Xt} {k18 : Nat → Nat → Nat → Int32 → Mm → Option (Int32 × Mm)} {x0 : Nat} {i : Int32} {σ : Mm} (hI : I σ) (b1 : inbB (i + (1 : Int32)) X.1 = true) (b2 : inbB (i + (2 : Int32)) X.1 = true) (b3 : inbB (i + (3 : Int32)) X.1 = true) (b4 : inbB (i + (4 : Int32)) X.1 = true) (b5 : inbB (i + (5 : Int32)) X.1 = true) : ∃ σ2, I σ2 ∧ f_Lw_law_1197 X k18 x0 0 298 i σ = k18 x0 0 298 (i + 6) σ2 := by
  obtain ⟨v, σ1, σ2, e1, e2, hI2⟩ := hP σ (X.2 (ix (i + (1 : Int32)))) hI
  refine ⟨σ2, hI2, ?_⟩
  unfold f_Lw_law_1197
  simp only [b1,  e1, e2, Option.bind_some, if_true, f_Lw_law_2077]
def Pr_falls (I : Mm → Prop) : Prop := ∀ (σ : Mm) (a1 : Int32), I σ → ∃ (v : Int32) (σ2 : Mm), f_Ct_falls σ 0 a1 = some v ∧ f_Mo_falls 298 a1 σ = some (v, σ2) ∧ I σ2
theorem case_falls {I : Mm → Prop} (hP : Pr_falls I) {X : Xt} {k18 : Nat → Nat → Nat → Int32 → Mm → Option (Int32 × Mm)} {x0 : Nat} {i : Int32} {σ : Mm} (hI : I σ) (b1 : inbB (i + (1 : Int32)) X.1 = true) (b2 : inbB (i + (2 : Int32)) X.1 = true) (b3 : inbB (i + (3 : Int32)) X.1 = true) (b4 : inbB (i + (4 : Int32)) X.1 = true) (b5 : inbB (i + (5 : Int32)) X.1 = true) : ∃ σ2, I σ2 ∧ f_Lw_law_1220 X k18 x0 0 298 i σ = k18 x0 0 298 (i + 6) σ2 := by
  obtain ⟨v, σ2, e1, e2, hI2⟩ := hP σ (X.2 (ix (i + (1 : Int32)))) hI
  refine ⟨σ2, hI2, ?_⟩
  unfold f_Lw_law_1220
  simp only [b1,  e1, e2, Option.bind_some, if_true, f_Lw_law_2077]
def Pr_current (I : Mm → Prop) : Prop := ∀ (σ : Mm) (a1 a2 : Int32), I σ → ∃ (v : Int32), f_Ct_current σ 0 a1 a2 = some v ∧ f_Mo_current σ 298 a1 a2 = some v
theorem case_current {I : Mm → Prop} (hP : Pr_current I) {X : Xt} {k18 : Nat → Nat → Nat → Int32 → Mm → Option (Int32 × Mm)} {x0 : Nat} {i : Int32} {σ : Mm} (hI : I σ) (b1 : inbB (i + (1 : Int32)) X.1 = true) (b2 : inbB (i + (2 : Int32)) X.1 = true) (b3 : inbB (i + (3 : Int32)) X.1 = true) (b4 : inbB (i + (4 : Int32)) X.1 = true) (b5 : inbB (i + (5 : Int32)) X.1 = true) : ∃ σ2, I σ2 ∧ f_Lw_law_1243 X k18 x0 0 298 i σ = k18 x0 0 298 (i + 6) σ2 := by
  obtain ⟨v, e1, e2⟩ := hP σ (X.2 (ix (i + (1 : Int32)))) (X.2 (ix (i + (2 : Int32)))) hI
  refine ⟨σ, hI, ?_⟩
  unfold f_Lw_law_1243
  simp only [b1, b2,  e1, e2, Option.bind_some, if_true, f_Lw_law_2077]
def Pr_bound (I : Mm → Prop) : Prop := ∀ (σ : Mm) (a1 a2 : Int32), I σ → ∃ (v : Int32), f_Ct_bound σ 0 a1 a2 = some v ∧ f_Mo_bound σ 298 a1 a2 = some v
theorem case_bound {I : Mm → Prop} (hP : Pr_bound I) {X : Xt} {k18 : Nat → Nat → Nat → Int32 → Mm → Option (Int32 × Mm)} {x0 : Nat} {i : Int32} {σ : Mm} (hI : I σ) (b1 : inbB (i + (1 : Int32)) X.1 = true) (b2 : inbB (i + (2 : Int32)) X.1 = true) (b3 : inbB (i + (3 : Int32)) X.1 = true) (b4 : inbB (i + (4 : Int32)) X.1 = true) (b5 : inbB (i + (5 : Int32)) X.1 = true) : ∃ σ2, I σ2 ∧ f_Lw_law_1276 X k18 x0 0 298 i σ = k18 x0 0 298 (i + 6) σ2 := by
  obtain ⟨v, e1, e2⟩ := hP σ (X.2 (ix (i + (1 : Int32)))) (X.2 (ix (i + (2 : Int32)))) hI
  refine ⟨σ, hI, ?_⟩
  unfold f_Lw_law_1276
  simp only [b1, b2,  e1, e2, Option.bind_some, if_true, f_Lw_law_2077]
def Pr_against (I : Mm → Prop) : Prop := ∀ (σ : Mm) (a1 : Int32), I σ → ∃ (v : Int32), f_Ct_against σ 0 a1 = some v ∧ f_Mo_against σ 298 a1 = some v
theorem case_against {I : Mm → Prop} (hP : Pr_against I) {X : Xt} {k18 : Nat → Nat → Nat → Int32 → Mm → Option (Int32 × Mm)} {x0 : Nat} {i : Int32} {σ : Mm} (hI : I σ) (b1 : inbB (i + (1 : Int32)) X.1 = true) (b2 : inbB (i + (2 : Int32)) X.1 = true) (b3 : inbB (i + (3 : Int32)) X.1 = true) (b4 : inbB (i + (4 : Int32)) X.1 = true) (b5 : inbB (i + (5 : Int32)) X.1 = true) : ∃ σ2, I σ2 ∧ f_Lw_law_1309 X k18 x0 0 298 i σ = k18 x0 0 298 (i + 6) σ2 := by
  obtain ⟨v, e1, e2⟩ := hP σ (X.2 (ix (i + (1 : Int32)))) hI
  refine ⟨σ, hI, ?_⟩
  unfold f_Lw_law_1309
  simp only [b1,  e1, e2, Option.bind_some, if_true, f_Lw_law_2077]
def Pr_law (I : Mm → Prop) : Prop := ∀ (σ : Mm) (a1 a2 : Int32), I σ → ∃ (v : Int32) (σ1 : Mm) (σ2 : Mm), f_Ct_law 0 a1 a2 σ = some (v, σ1) ∧ f_Mo_law 298 a1 a2 σ1 = some (v, σ2) ∧ I σ2
theorem case_law {I : Mm → Prop} (hP : Pr_law I) {X : Xt} {k18 : Nat → Nat → Nat → Int32 → Mm → Option (Int32 × Mm)} {x0 : Nat} {i : Int32} {σ : Mm} (hI : I σ) (b1 : inbB (i + (1 : Int32)) X.1 = true) (b2 : inbB (i + (2 : Int32)) X.1 = true) (b3 : inbB (i + (3 : Int32)) X.1 = true) (b4 : inbB (i + (4 : Int32)) X.1 = true) (b5 : inbB (i + (5 : Int32)) X.1 = true) : ∃ σ2, I σ2 ∧ f_Lw_law_1332 X k18 x0 0 298 i σ = k18 x0 0 298 (i + 6) σ2 := by
  obtain ⟨v, σ1, σ2, e1, e2, hI2⟩ := hP σ (X.2 (ix (i + (1 : Int32)))) (X.2 (ix (i + (2 : Int32)))) hI
  refine ⟨σ2, hI2, ?_⟩
  unfold f_Lw_law_1332
  simp only [b1, b2,  e1, e2, Option.bind_some, if_true, f_Lw_law_2077]
def Pr_more (I : Mm → Prop) : Prop := ∀ (σ : Mm) (a1 : Int32), I σ → ∃ (v : Int32), f_Ct_more σ 0 a1 = some v ∧ f_Mo_more σ 298 a1 = some v
theorem case_more {I : Mm → Prop} (hP : Pr_more I) {X : Xt} {k18 : Nat → Nat → Nat → Int32 → Mm → Option (Int32 × Mm)} {x0 : Nat} {i : Int32} {σ : Mm} (hI : I σ) (b1 : inbB (i + (1 : Int32)) X.1 = true) (b2 : inbB (i + (2 : Int32)) X.1 = true) (b3 : inbB (i + (3 : Int32)) X.1 = true) (b4 : inbB (i + (4 : Int32)) X.1 = true) (b5 : inbB (i + (5 : Int32)) X.1 = true) : ∃ σ2, I σ2 ∧ f_Lw_law_1365 X k18 x0 0 298 i σ = k18 x0 0 298 (i + 6) σ2 := by
  obtain ⟨v, e1, e2⟩ := hP σ (X.2 (ix (i + (1 : Int32)))) hI
  refine ⟨σ, hI, ?_⟩
  unfold f_Lw_law_1365
  simp only [b1,  e1, e2, Option.bind_some, if_true, f_Lw_law_2077]
def Pr_run (I : Mm → Prop) : Prop := ∀ (σ : Mm) (a1 : Int32), I σ → ∃ (v : Int32) (σ1 : Mm) (σ2 : Mm), f_Ct_run 0 a1 σ = some (v, σ1) ∧ f_Mo_run 298 a1 σ1 = some (v, σ2) ∧ I σ2
theorem case_run {I : Mm → Prop} (hP : Pr_run I) {X : Xt} {k18 : Nat → Nat → Nat → Int32 → Mm → Option (Int32 × Mm)} {x0 : Nat} {i : Int32} {σ : Mm} (hI : I σ) (b1 : inbB (i + (1 : Int32)) X.1 = true) (b2 : inbB (i + (2 : Int32)) X.1 = true) (b3 : inbB (i + (3 : Int32)) X.1 = true) (b4 : inbB (i + (4 : Int32)) X.1 = true) (b5 : inbB (i + (5 : Int32)) X.1 = true) : ∃ σ2, I σ2 ∧ f_Lw_law_1388 X k18 x0 0 298 i σ = k18 x0 0 298 (i + 6) σ2 := by
  obtain ⟨v, σ1, σ2, e1, e2, hI2⟩ := hP σ (X.2 (ix (i + (1 : Int32)))) hI
  refine ⟨σ2, hI2, ?_⟩
  unfold f_Lw_law_1388
  simp only [b1,  e1, e2, Option.bind_some, if_true, f_Lw_law_2077]
def Pr_beside (I : Mm → Prop) : Prop := ∀ (σ : Mm) (a1 : Int32), I σ → ∃ (v : Int32), f_Ct_beside σ 0 a1 = some v ∧ f_Mo_beside σ 298 a1 = some v
theorem case_beside {I : Mm → Prop} (hP : Pr_beside I) {X : Xt} {k18 : Nat → Nat → Nat → Int32 → Mm → Option (Int32 × Mm)} {x0 : Nat} {i : Int32} {σ : Mm} (hI : I σ) (b1 : inbB (i + (1 : Int32)) X.1 = true) (b2 : inbB (i + (2 : Int32)) X.1 = true) (b3 : inbB (i + (3 : Int32)) X.1 = true) (b4 : inbB (i + (4 : Int32)) X.1 = true) (b5 : inbB (i + (5 : Int32)) X.1 = true) : ∃ σ2, I σ2 ∧ f_Lw_law_1411 X k18 x0 0 298 i σ = k18 x0 0 298 (i + 6) σ2 := by
  obtain ⟨v, e1, e2⟩ := hP σ (X.2 (ix (i + (1 : Int32)))) hI
  refine ⟨σ, hI, ?_⟩
  unfold f_Lw_law_1411
  simp only [b1,  e1, e2, Option.bind_some, if_true, f_Lw_law_2077]
def Pr_copy (I : Mm → Prop) : Prop := ∀ (σ : Mm) (a1 a2 a3 : Int32), I σ → ∃ (v : Int32) (σ1 : Mm) (σ2 : Mm), f_Ct_copy 0 a1 a2 a3 σ = some (v, σ1) ∧ f_Mo_copy 298 a1 a2 a3 σ1 = some (v, σ2) ∧ I σ2
theorem case_copy {I : Mm → Prop} (hP : Pr_copy I) {X : Xt} {k18 : Nat → Nat → Nat → Int32 → Mm → Option (Int32 × Mm)} {x0 : Nat} {i : Int32} {σ : Mm} (hI : I σ) (b1 : inbB (i + (1 : Int32)) X.1 = true) (b2 : inbB (i + (2 : Int32)) X.1 = true) (b3 : inbB (i + (3 : Int32)) X.1 = true) (b4 : inbB (i + (4 : Int32)) X.1 = true) (b5 : inbB (i + (5 : Int32)) X.1 = true) : ∃ σ2, I σ2 ∧ f_Lw_law_1434 X k18 x0 0 298 i σ = k18 x0 0 298 (i + 6) σ2 := by
  obtain ⟨v, σ1, σ2, e1, e2, hI2⟩ := hP σ (X.2 (ix (i + (1 : Int32)))) (X.2 (ix (i + (2 : Int32)))) (X.2 (ix (i + (3 : Int32)))) hI
  refine ⟨σ2, hI2, ?_⟩
  unfold f_Lw_law_1434
  simp only [b1, b2, b3,  e1, e2, Option.bind_some, if_true, f_Lw_law_2077]
def Pr_comesBack (I : Mm → Prop) : Prop := ∀ (σ : Mm) (a1 : Int32), I σ → ∃ (v : Int32) (σ1 : Mm) (σ2 : Mm), f_Ct_comesBack 0 a1 σ = some (v, σ1) ∧ f_Mo_comesBack 298 a1 σ1 = some (v, σ2) ∧ I σ2
theorem case_comesBack {I : Mm → Prop} (hP : Pr_comesBack I) {X : Xt} {k18 : Nat → Nat → Nat → Int32 → Mm → Option (Int32 × Mm)} {x0 : Nat} {i : Int32} {σ : Mm} (hI : I σ) (b1 : inbB (i + (1 : Int32)) X.1 = true) (b2 : inbB (i + (2 : Int32)) X.1 = true) (b3 : inbB (i + (3 : Int32)) X.1 = true) (b4 : inbB (i + (4 : Int32)) X.1 = true) (b5 : inbB (i + (5 : Int32)) X.1 = true) : ∃ σ2, I σ2 ∧ f_Lw_law_1477 X k18 x0 0 298 i σ = k18 x0 0 298 (i + 6) σ2 := by
  obtain ⟨v, σ1, σ2, e1, e2, hI2⟩ := hP σ (X.2 (ix (i + (1 : Int32)))) hI
  refine ⟨σ2, hI2, ?_⟩
  unfold f_Lw_law_1477
  simp only [b1,  e1, e2, Option.bind_some, if_true, f_Lw_law_2077]
def Pr_out (I : Mm → Prop) : Prop := ∀ (σ : Mm) (a1 : Int32), I σ → ∃ (v : Int32), f_Ct_out σ 0 a1 = some v ∧ f_Mo_out σ 298 a1 = some v
theorem case_out {I : Mm → Prop} (hP : Pr_out I) {X : Xt} {k18 : Nat → Nat → Nat → Int32 → Mm → Option (Int32 × Mm)} {x0 : Nat} {i : Int32} {σ : Mm} (hI : I σ) (b1 : inbB (i + (1 : Int32)) X.1 = true) (b2 : inbB (i + (2 : Int32)) X.1 = true) (b3 : inbB (i + (3 : Int32)) X.1 = true) (b4 : inbB (i + (4 : Int32)) X.1 = true) (b5 : inbB (i + (5 : Int32)) X.1 = true) : ∃ σ2, I σ2 ∧ f_Lw_law_1500 X k18 x0 0 298 i σ = k18 x0 0 298 (i + 6) σ2 := by
  obtain ⟨v, e1, e2⟩ := hP σ (X.2 (ix (i + (1 : Int32)))) hI
  refine ⟨σ, hI, ?_⟩
  unfold f_Lw_law_1500
  simp only [b1,  e1, e2, Option.bind_some, if_true, f_Lw_law_2077]
def Pr_suspect (I : Mm → Prop) : Prop := ∀ (σ : Mm) (a1 a2 a3 : Int32), I σ → ∃ (v : Int32), f_Ct_suspect σ 0 a1 a2 a3 = some v ∧ f_Mo_suspect σ 298 a1 a2 a3 = some v
theorem case_suspect {I : Mm → Prop} (hP : Pr_suspect I) {X : Xt} {k18 : Nat → Nat → Nat → Int32 → Mm → Option (Int32 × Mm)} {x0 : Nat} {i : Int32} {σ : Mm} (hI : I σ) (b1 : inbB (i + (1 : Int32)) X.1 = true) (b2 : inbB (i + (2 : Int32)) X.1 = true) (b3 : inbB (i + (3 : Int32)) X.1 = true) (b4 : inbB (i + (4 : Int32)) X.1 = true) (b5 : inbB (i + (5 : Int32)) X.1 = true) : ∃ σ2, I σ2 ∧ f_Lw_law_1523 X k18 x0 0 298 i σ = k18 x0 0 298 (i + 6) σ2 := by
  obtain ⟨v, e1, e2⟩ := hP σ (X.2 (ix (i + (1 : Int32)))) (X.2 (ix (i + (2 : Int32)))) (X.2 (ix (i + (3 : Int32)))) hI
  refine ⟨σ, hI, ?_⟩
  unfold f_Lw_law_1523
  simp only [b1, b2, b3,  e1, e2, Option.bind_some, if_true, f_Lw_law_2077]
def Pr_look (I : Mm → Prop) : Prop := ∀ (σ : Mm) (a1 a2 a3 : Int32), I σ → ∃ (v : Int32), f_Ct_look σ 0 a1 a2 a3 = some v ∧ f_Mo_look σ 298 a1 a2 a3 = some v
theorem case_look {I : Mm → Prop} (hP : Pr_look I) {X : Xt} {k18 : Nat → Nat → Nat → Int32 → Mm → Option (Int32 × Mm)} {x0 : Nat} {i : Int32} {σ : Mm} (hI : I σ) (b1 : inbB (i + (1 : Int32)) X.1 = true) (b2 : inbB (i + (2 : Int32)) X.1 = true) (b3 : inbB (i + (3 : Int32)) X.1 = true) (b4 : inbB (i + (4 : Int32)) X.1 = true) (b5 : inbB (i + (5 : Int32)) X.1 = true) : ∃ σ2, I σ2 ∧ f_Lw_law_1566 X k18 x0 0 298 i σ = k18 x0 0 298 (i + 6) σ2 := by
  obtain ⟨v, e1, e2⟩ := hP σ (X.2 (ix (i + (1 : Int32)))) (X.2 (ix (i + (2 : Int32)))) (X.2 (ix (i + (3 : Int32)))) hI
  refine ⟨σ, hI, ?_⟩
  unfold f_Lw_law_1566
  simp only [b1, b2, b3,  e1, e2, Option.bind_some, if_true, f_Lw_law_2077]
def Pr_knows (I : Mm → Prop) : Prop := ∀ (σ : Mm) (a1 a2 : Int32), I σ → ∃ (v : Int32), f_Ct_knows σ 0 a1 a2 = some v ∧ f_Mo_knows σ 298 a1 a2 = some v
theorem case_knows {I : Mm → Prop} (hP : Pr_knows I) {X : Xt} {k18 : Nat → Nat → Nat → Int32 → Mm → Option (Int32 × Mm)} {x0 : Nat} {i : Int32} {σ : Mm} (hI : I σ) (b1 : inbB (i + (1 : Int32)) X.1 = true) (b2 : inbB (i + (2 : Int32)) X.1 = true) (b3 : inbB (i + (3 : Int32)) X.1 = true) (b4 : inbB (i + (4 : Int32)) X.1 = true) (b5 : inbB (i + (5 : Int32)) X.1 = true) : ∃ σ2, I σ2 ∧ f_Lw_law_1609 X k18 x0 0 298 i σ = k18 x0 0 298 (i + 6) σ2 := by
  obtain ⟨v, e1, e2⟩ := hP σ (X.2 (ix (i + (1 : Int32)))) (X.2 (ix (i + (2 : Int32)))) hI
  refine ⟨σ, hI, ?_⟩
  unfold f_Lw_law_1609
  simp only [b1, b2,  e1, e2, Option.bind_some, if_true, f_Lw_law_2077]
def Pr_open (I : Mm → Prop) : Prop := ∀ (σ : Mm), I σ → ∃ (v : Int32) (σ2 : Mm), f_Ct_open σ 0  = some v ∧ f_Mo_open 298  σ = some (v, σ2) ∧ I σ2
theorem case_open {I : Mm → Prop} (hP : Pr_open I) {X : Xt} {k18 : Nat → Nat → Nat → Int32 → Mm → Option (Int32 × Mm)} {x0 : Nat} {i : Int32} {σ : Mm} (hI : I σ) (b1 : inbB (i + (1 : Int32)) X.1 = true) (b2 : inbB (i + (2 : Int32)) X.1 = true) (b3 : inbB (i + (3 : Int32)) X.1 = true) (b4 : inbB (i + (4 : Int32)) X.1 = true) (b5 : inbB (i + (5 : Int32)) X.1 = true) : ∃ σ2, I σ2 ∧ f_Lw_law_1642 X k18 x0 0 298 i σ = k18 x0 0 298 (i + 6) σ2 := by
  obtain ⟨v, σ2, e1, e2, hI2⟩ := hP σ  hI
  refine ⟨σ2, hI2, ?_⟩
  unfold f_Lw_law_1642
  simp only [ e1, e2, Option.bind_some, if_true, f_Lw_law_2077]
def Pr_group (I : Mm → Prop) : Prop := ∀ (σ : Mm) (a1 : Int32), I σ → ∃ (v : Int32) (σ1 : Mm) (σ2 : Mm), f_Ct_group 0 a1 σ = some (v, σ1) ∧ f_Mo_group 298 a1 σ1 = some (v, σ2) ∧ I σ2
theorem case_group {I : Mm → Prop} (hP : Pr_group I) {X : Xt} {k18 : Nat → Nat → Nat → Int32 → Mm → Option (Int32 × Mm)} {x0 : Nat} {i : Int32} {σ : Mm} (hI : I σ) (b1 : inbB (i + (1 : Int32)) X.1 = true) (b2 : inbB (i + (2 : Int32)) X.1 = true) (b3 : inbB (i + (3 : Int32)) X.1 = true) (b4 : inbB (i + (4 : Int32)) X.1 = true) (b5 : inbB (i + (5 : Int32)) X.1 = true) : ∃ σ2, I σ2 ∧ f_Lw_law_1655 X k18 x0 0 298 i σ = k18 x0 0 298 (i + 6) σ2 := by
  obtain ⟨v, σ1, σ2, e1, e2, hI2⟩ := hP σ (X.2 (ix (i + (1 : Int32)))) hI
  refine ⟨σ2, hI2, ?_⟩
  unfold f_Lw_law_1655
  simp only [b1,  e1, e2, Option.bind_some, if_true, f_Lw_law_2077]
def Pr_reckoned (I : Mm → Prop) : Prop := ∀ (σ : Mm), I σ → ∃ (v : Int32) (σ2 : Mm), f_Ct_reckoned σ 0  = some v ∧ f_Mo_reckoned 298  σ = some (v, σ2) ∧ I σ2
theorem case_reckoned {I : Mm → Prop} (hP : Pr_reckoned I) {X : Xt} {k18 : Nat → Nat → Nat → Int32 → Mm → Option (Int32 × Mm)} {x0 : Nat} {i : Int32} {σ : Mm} (hI : I σ) (b1 : inbB (i + (1 : Int32)) X.1 = true) (b2 : inbB (i + (2 : Int32)) X.1 = true) (b3 : inbB (i + (3 : Int32)) X.1 = true) (b4 : inbB (i + (4 : Int32)) X.1 = true) (b5 : inbB (i + (5 : Int32)) X.1 = true) : ∃ σ2, I σ2 ∧ f_Lw_law_1678 X k18 x0 0 298 i σ = k18 x0 0 298 (i + 6) σ2 := by
  obtain ⟨v, σ2, e1, e2, hI2⟩ := hP σ  hI
  refine ⟨σ2, hI2, ?_⟩
  unfold f_Lw_law_1678
  simp only [ e1, e2, Option.bind_some, if_true, f_Lw_law_2077]
def Pr_register (I : Mm → Prop) : Prop := ∀ (σ : Mm) (a1 a2 a3 : Int32), I σ → ∃ (v : Int32) (σ1 : Mm) (σ2 : Mm), f_Ct_register 0 a1 a2 a3 σ = some (v, σ1) ∧ f_Mo_register 298 a1 a2 a3 σ1 = some (v, σ2) ∧ I σ2
theorem case_register {I : Mm → Prop} (hP : Pr_register I) {X : Xt} {k18 : Nat → Nat → Nat → Int32 → Mm → Option (Int32 × Mm)} {x0 : Nat} {i : Int32} {σ : Mm} (hI : I σ) (b1 : inbB (i + (1 : Int32)) X.1 = true) (b2 : inbB (i + (2 : Int32)) X.1 = true) (b3 : inbB (i + (3 : Int32)) X.1 = true) (b4 : inbB (i + (4 : Int32)) X.1 = true) (b5 : inbB (i + (5 : Int32)) X.1 = true) : ∃ σ2, I σ2 ∧ f_Lw_law_1691 X k18 x0 0 298 i σ = k18 x0 0 298 (i + 6) σ2 := by
  obtain ⟨v, σ1, σ2, e1, e2, hI2⟩ := hP σ (X.2 (ix (i + (1 : Int32)))) (X.2 (ix (i + (2 : Int32)))) (X.2 (ix (i + (3 : Int32)))) hI
  refine ⟨σ2, hI2, ?_⟩
  unfold f_Lw_law_1691
  simp only [b1, b2, b3,  e1, e2, Option.bind_some, if_true, f_Lw_law_2077]
def Pr_note (I : Mm → Prop) : Prop := ∀ (σ : Mm) (a1 a2 a3 : Int32), I σ → ∃ (v : Int32) (σ1 : Mm) (σ2 : Mm), f_Ct_note 0 a1 a2 a3 σ = some (v, σ1) ∧ f_Mo_note 298 a1 a2 a3 σ1 = some (v, σ2) ∧ I σ2
theorem case_note {I : Mm → Prop} (hP : Pr_note I) {X : Xt} {k18 : Nat → Nat → Nat → Int32 → Mm → Option (Int32 × Mm)} {x0 : Nat} {i : Int32} {σ : Mm} (hI : I σ) (b1 : inbB (i + (1 : Int32)) X.1 = true) (b2 : inbB (i + (2 : Int32)) X.1 = true) (b3 : inbB (i + (3 : Int32)) X.1 = true) (b4 : inbB (i + (4 : Int32)) X.1 = true) (b5 : inbB (i + (5 : Int32)) X.1 = true) : ∃ σ2, I σ2 ∧ f_Lw_law_1734 X k18 x0 0 298 i σ = k18 x0 0 298 (i + 6) σ2 := by
  obtain ⟨v, σ1, σ2, e1, e2, hI2⟩ := hP σ (X.2 (ix (i + (1 : Int32)))) (X.2 (ix (i + (2 : Int32)))) (X.2 (ix (i + (3 : Int32)))) hI
  refine ⟨σ2, hI2, ?_⟩
  unfold f_Lw_law_1734
  simp only [b1, b2, b3,  e1, e2, Option.bind_some, if_true, f_Lw_law_2077]
def Pr_carry (I : Mm → Prop) : Prop := ∀ (σ : Mm) (a1 a2 a3 a4 a5 : Int32), I σ → ∃ (v : Int32) (σ1 : Mm) (σ2 : Mm), f_Ct_carry 0 a1 a2 a3 a4 a5 σ = some (v, σ1) ∧ f_Mo_carry 298 a1 a2 a3 a4 a5 σ1 = some (v, σ2) ∧ I σ2
theorem case_carry {I : Mm → Prop} (hP : Pr_carry I) {X : Xt} {k18 : Nat → Nat → Nat → Int32 → Mm → Option (Int32 × Mm)} {x0 : Nat} {i : Int32} {σ : Mm} (hI : I σ) (b1 : inbB (i + (1 : Int32)) X.1 = true) (b2 : inbB (i + (2 : Int32)) X.1 = true) (b3 : inbB (i + (3 : Int32)) X.1 = true) (b4 : inbB (i + (4 : Int32)) X.1 = true) (b5 : inbB (i + (5 : Int32)) X.1 = true) : ∃ σ2, I σ2 ∧ f_Lw_law_1777 X k18 x0 0 298 i σ = k18 x0 0 298 (i + 6) σ2 := by
  obtain ⟨v, σ1, σ2, e1, e2, hI2⟩ := hP σ (X.2 (ix (i + (1 : Int32)))) (X.2 (ix (i + (2 : Int32)))) (X.2 (ix (i + (3 : Int32)))) (X.2 (ix (i + (4 : Int32)))) (X.2 (ix (i + (5 : Int32)))) hI
  refine ⟨σ2, hI2, ?_⟩
  unfold f_Lw_law_1777
  simp only [b1, b2, b3, b4, b5,  e1, e2, Option.bind_some, if_true, f_Lw_law_2077]
def Pr_lay (I : Mm → Prop) : Prop := ∀ (σ : Mm) (a1 a2 a3 : Int32), I σ → ∃ (v : Int32) (σ1 : Mm) (σ2 : Mm), f_Ct_lay 0 a1 a2 a3 σ = some (v, σ1) ∧ f_Mo_lay 298 a1 a2 a3 σ1 = some (v, σ2) ∧ I σ2
theorem case_lay {I : Mm → Prop} (hP : Pr_lay I) {X : Xt} {k18 : Nat → Nat → Nat → Int32 → Mm → Option (Int32 × Mm)} {x0 : Nat} {i : Int32} {σ : Mm} (hI : I σ) (b1 : inbB (i + (1 : Int32)) X.1 = true) (b2 : inbB (i + (2 : Int32)) X.1 = true) (b3 : inbB (i + (3 : Int32)) X.1 = true) (b4 : inbB (i + (4 : Int32)) X.1 = true) (b5 : inbB (i + (5 : Int32)) X.1 = true) : ∃ σ2, I σ2 ∧ f_Lw_law_1840 X k18 x0 0 298 i σ = k18 x0 0 298 (i + 6) σ2 := by
  obtain ⟨v, σ1, σ2, e1, e2, hI2⟩ := hP σ (X.2 (ix (i + (1 : Int32)))) (X.2 (ix (i + (2 : Int32)))) (X.2 (ix (i + (3 : Int32)))) hI
  refine ⟨σ2, hI2, ?_⟩
  unfold f_Lw_law_1840
  simp only [b1, b2, b3,  e1, e2, Option.bind_some, if_true, f_Lw_law_2077]
def Pr_ask (I : Mm → Prop) : Prop := ∀ (σ : Mm) (a1 a2 : Int32), I σ → ∃ (v : Int32), f_Ct_ask σ 0 a1 a2 = some v ∧ f_Mo_ask σ 298 a1 a2 = some v
theorem case_ask {I : Mm → Prop} (hP : Pr_ask I) {X : Xt} {k18 : Nat → Nat → Nat → Int32 → Mm → Option (Int32 × Mm)} {x0 : Nat} {i : Int32} {σ : Mm} (hI : I σ) (b1 : inbB (i + (1 : Int32)) X.1 = true) (b2 : inbB (i + (2 : Int32)) X.1 = true) (b3 : inbB (i + (3 : Int32)) X.1 = true) (b4 : inbB (i + (4 : Int32)) X.1 = true) (b5 : inbB (i + (5 : Int32)) X.1 = true) : ∃ σ2, I σ2 ∧ f_Lw_law_1883 X k18 x0 0 298 i σ = k18 x0 0 298 (i + 6) σ2 := by
  obtain ⟨v, e1, e2⟩ := hP σ (X.2 (ix (i + (1 : Int32)))) (X.2 (ix (i + (2 : Int32)))) hI
  refine ⟨σ, hI, ?_⟩
  unfold f_Lw_law_1883
  simp only [b1, b2,  e1, e2, Option.bind_some, if_true, f_Lw_law_2077]
def Pr_item (I : Mm → Prop) : Prop := ∀ (σ : Mm) (a1 a2 : Int32), I σ → ∃ (v : Int32), f_Ct_item σ 0 a1 a2 = some v ∧ f_Mo_item σ 298 a1 a2 = some v
theorem case_item {I : Mm → Prop} (hP : Pr_item I) {X : Xt} {k18 : Nat → Nat → Nat → Int32 → Mm → Option (Int32 × Mm)} {x0 : Nat} {i : Int32} {σ : Mm} (hI : I σ) (b1 : inbB (i + (1 : Int32)) X.1 = true) (b2 : inbB (i + (2 : Int32)) X.1 = true) (b3 : inbB (i + (3 : Int32)) X.1 = true) (b4 : inbB (i + (4 : Int32)) X.1 = true) (b5 : inbB (i + (5 : Int32)) X.1 = true) : ∃ σ2, I σ2 ∧ f_Lw_law_1916 X k18 x0 0 298 i σ = k18 x0 0 298 (i + 6) σ2 := by
  obtain ⟨v, e1, e2⟩ := hP σ (X.2 (ix (i + (1 : Int32)))) (X.2 (ix (i + (2 : Int32)))) hI
  refine ⟨σ, hI, ?_⟩
  unfold f_Lw_law_1916
  simp only [b1, b2,  e1, e2, Option.bind_some, if_true, f_Lw_law_2077]
def Pr_rest (I : Mm → Prop) : Prop := ∀ (σ : Mm) (a1 a2 : Int32), I σ → ∃ (v : Int32), f_Ct_rest σ 0 a1 a2 = some v ∧ f_Mo_rest σ 298 a1 a2 = some v
theorem case_rest {I : Mm → Prop} (hP : Pr_rest I) {X : Xt} {k18 : Nat → Nat → Nat → Int32 → Mm → Option (Int32 × Mm)} {x0 : Nat} {i : Int32} {σ : Mm} (hI : I σ) (b1 : inbB (i + (1 : Int32)) X.1 = true) (b2 : inbB (i + (2 : Int32)) X.1 = true) (b3 : inbB (i + (3 : Int32)) X.1 = true) (b4 : inbB (i + (4 : Int32)) X.1 = true) (b5 : inbB (i + (5 : Int32)) X.1 = true) : ∃ σ2, I σ2 ∧ f_Lw_law_1949 X k18 x0 0 298 i σ = k18 x0 0 298 (i + 6) σ2 := by
  obtain ⟨v, e1, e2⟩ := hP σ (X.2 (ix (i + (1 : Int32)))) (X.2 (ix (i + (2 : Int32)))) hI
  refine ⟨σ, hI, ?_⟩
  unfold f_Lw_law_1949
  simp only [b1, b2,  e1, e2, Option.bind_some, if_true, f_Lw_law_2077]
def Pr_tell (I : Mm → Prop) : Prop := ∀ (σ : Mm) (a1 : Int32), I σ → ∃ (v : Int32) (σ1 : Mm) (σ2 : Mm), f_Ct_tell 0 a1 σ = some (v, σ1) ∧ f_Mo_tell 298 a1 σ1 = some (v, σ2) ∧ I σ2
theorem case_tell {I : Mm → Prop} (hP : Pr_tell I) {X : Xt} {k18 : Nat → Nat → Nat → Int32 → Mm → Option (Int32 × Mm)} {x0 : Nat} {i : Int32} {σ : Mm} (hI : I σ) (b1 : inbB (i + (1 : Int32)) X.1 = true) (b2 : inbB (i + (2 : Int32)) X.1 = true) (b3 : inbB (i + (3 : Int32)) X.1 = true) (b4 : inbB (i + (4 : Int32)) X.1 = true) (b5 : inbB (i + (5 : Int32)) X.1 = true) : ∃ σ2, I σ2 ∧ f_Lw_law_1982 X k18 x0 0 298 i σ = k18 x0 0 298 (i + 6) σ2 := by
  obtain ⟨v, σ1, σ2, e1, e2, hI2⟩ := hP σ (X.2 (ix (i + (1 : Int32)))) hI
  refine ⟨σ2, hI2, ?_⟩
  unfold f_Lw_law_1982
  simp only [b1,  e1, e2, Option.bind_some, if_true, f_Lw_law_2077]
def Pr_check (I : Mm → Prop) : Prop := ∀ (σ : Mm) (a1 : Int32), I σ → ∃ (v : Int32) (σ1 : Mm) (σ2 : Mm), f_Ct_check 0 a1 σ = some (v, σ1) ∧ f_Mo_check 298 a1 σ1 = some (v, σ2) ∧ I σ2
theorem case_check {I : Mm → Prop} (hP : Pr_check I) {X : Xt} {k18 : Nat → Nat → Nat → Int32 → Mm → Option (Int32 × Mm)} {x0 : Nat} {i : Int32} {σ : Mm} (hI : I σ) (b1 : inbB (i + (1 : Int32)) X.1 = true) (b2 : inbB (i + (2 : Int32)) X.1 = true) (b3 : inbB (i + (3 : Int32)) X.1 = true) (b4 : inbB (i + (4 : Int32)) X.1 = true) (b5 : inbB (i + (5 : Int32)) X.1 = true) : ∃ σ2, I σ2 ∧ f_Lw_law_2005 X k18 x0 0 298 i σ = k18 x0 0 298 (i + 6) σ2 := by
  obtain ⟨v, σ1, σ2, e1, e2, hI2⟩ := hP σ (X.2 (ix (i + (1 : Int32)))) hI
  refine ⟨σ2, hI2, ?_⟩
  unfold f_Lw_law_2005
  simp only [b1,  e1, e2, Option.bind_some, if_true, f_Lw_law_2077]
def Pr_keep (I : Mm → Prop) : Prop := ∀ (σ : Mm), I σ → ∃ (v : Int32) (σ1 : Mm) (σ2 : Mm), f_Ct_keep 0  σ = some (v, σ1) ∧ f_Mo_keep 298  σ1 = some (v, σ2) ∧ I σ2
theorem case_keep {I : Mm → Prop} (hP : Pr_keep I) {X : Xt} {k18 : Nat → Nat → Nat → Int32 → Mm → Option (Int32 × Mm)} {x0 : Nat} {i : Int32} {σ : Mm} (hI : I σ) (b1 : inbB (i + (1 : Int32)) X.1 = true) (b2 : inbB (i + (2 : Int32)) X.1 = true) (b3 : inbB (i + (3 : Int32)) X.1 = true) (b4 : inbB (i + (4 : Int32)) X.1 = true) (b5 : inbB (i + (5 : Int32)) X.1 = true) : ∃ σ2, I σ2 ∧ f_Lw_law_2028 X k18 x0 0 298 i σ = k18 x0 0 298 (i + 6) σ2 := by
  obtain ⟨v, σ1, σ2, e1, e2, hI2⟩ := hP σ  hI
  refine ⟨σ2, hI2, ?_⟩
  unfold f_Lw_law_2028
  simp only [ e1, e2, Option.bind_some, if_true, f_Lw_law_2077]
def Pr_back (I : Mm → Prop) : Prop := ∀ (σ : Mm), I σ → ∃ (v : Int32) (σ1 : Mm) (σ2 : Mm), f_Ct_back 0  σ = some (v, σ1) ∧ f_Mo_back 298  σ1 = some (v, σ2) ∧ I σ2
theorem case_back {I : Mm → Prop} (hP : Pr_back I) {X : Xt} {k18 : Nat → Nat → Nat → Int32 → Mm → Option (Int32 × Mm)} {x0 : Nat} {i : Int32} {σ : Mm} (hI : I σ) (b1 : inbB (i + (1 : Int32)) X.1 = true) (b2 : inbB (i + (2 : Int32)) X.1 = true) (b3 : inbB (i + (3 : Int32)) X.1 = true) (b4 : inbB (i + (4 : Int32)) X.1 = true) (b5 : inbB (i + (5 : Int32)) X.1 = true) : ∃ σ2, I σ2 ∧ f_Lw_law_2041 X k18 x0 0 298 i σ = k18 x0 0 298 (i + 6) σ2 := by
  obtain ⟨v, σ1, σ2, e1, e2, hI2⟩ := hP σ  hI
  refine ⟨σ2, hI2, ?_⟩
  unfold f_Lw_law_2041
  simp only [ e1, e2, Option.bind_some, if_true, f_Lw_law_2077]
def Pr_count (I : Mm → Prop) : Prop := ∀ (σ : Mm) (a1 : Int32), I σ → ∃ (v : Int32), f_Ct_count σ 0 a1 = some v ∧ f_Mo_count σ 298 a1 = some v
theorem case_count {I : Mm → Prop} (hP : Pr_count I) {X : Xt} {k18 : Nat → Nat → Nat → Int32 → Mm → Option (Int32 × Mm)} {x0 : Nat} {i : Int32} {σ : Mm} (hI : I σ) (b1 : inbB (i + (1 : Int32)) X.1 = true) (b2 : inbB (i + (2 : Int32)) X.1 = true) (b3 : inbB (i + (3 : Int32)) X.1 = true) (b4 : inbB (i + (4 : Int32)) X.1 = true) (b5 : inbB (i + (5 : Int32)) X.1 = true) : ∃ σ2, I σ2 ∧ f_Lw_law_2054 X k18 x0 0 298 i σ = k18 x0 0 298 (i + 6) σ2 := by
  obtain ⟨v, e1, e2⟩ := hP σ (X.2 (ix (i + (1 : Int32)))) hI
  refine ⟨σ, hI, ?_⟩
  unfold f_Lw_law_2054
  simp only [b1,  e1, e2, Option.bind_some, if_true, f_Lw_law_2077]
theorem ofN_toInt {a : Nat} (h : a < 2147483648) : (Int32.ofNat a).toInt = a := Int32.toInt_ofNat_of_lt h
theorem ofN_ix {a : Nat} (h : a < 2147483648) : ix (Int32.ofNat a) = a := by
  show (Int32.ofNat a).toInt.toNat = a
  rw [ofN_toInt h]; rfl
theorem ofN_inb {a n : Nat} (h : a < 2147483648) (hn : a < n) : inbB (Int32.ofNat a) n = true := by
  rw [inbB_iff]
  intro q
  rcases q with q | q
  · rw [Int32.lt_iff_toInt_lt, ofN_toInt h] at q
    have : (0 : Int32).toInt = 0 := rfl
    omega
  · have := ofN_ix h
    unfold ix at this
    omega
theorem ofN_sub {a : Nat} (h : a < 2147483648) : (Int32.ofNat a - 6).toInt = (a : Int) - 6 := by
  rw [Int32.toInt_sub, ofN_toInt h]
  have : (6 : Int32).toInt = 6 := rfl
  rw [this]
  exact Int.bmod_eq_of_le (by omega) (by omega)
theorem dite_ex {c : Prop} [Decidable c] {I : Mm → Prop} {a b : Option (Int32 × Mm)} {g : Mm → Option (Int32 × Mm)} (h1 : c → ∃ s, I s ∧ a = g s) (h2 : ¬ c → ∃ s, I s ∧ b = g s) : ∃ s, I s ∧ (if c then a else b) = g s := by
  by_cases h : c
  · rw [if_pos h]; exact h1 h
  · rw [if_neg h]; exact h2 h
set_option maxHeartbeats 4000000 in
theorem law_loop {I : Mm → Prop} (h0 : Pr_office I) (h1 : Pr_hold I) (h2 : Pr_held I) (h3 : Pr_govern I) (h4 : Pr_table I) (h5 : Pr_seats I) (h6 : Pr_sits I) (h7 : Pr_pass I) (h8 : Pr_way I) (h9 : Pr_paper I) (h10 : Pr_told I) (h11 : Pr_as I) (h12 : Pr_send I) (h13 : Pr_take I) (h14 : Pr_word I) (h15 : Pr_feed I) (h16 : Pr_trim I) (h17 : Pr_rule I) (h18 : Pr_of I) (h19 : Pr_counts I) (h20 : Pr_due I) (h21 : Pr_why I) (h22 : Pr_quarrel I) (h23 : Pr_lacks I) (h24 : Pr_come I) (h25 : Pr_decide I) (h26 : Pr_is I) (h27 : Pr_reopen I) (h28 : Pr_falls I) (h29 : Pr_current I) (h30 : Pr_bound I) (h31 : Pr_against I) (h32 : Pr_law I) (h33 : Pr_more I) (h34 : Pr_run I) (h35 : Pr_beside I) (h36 : Pr_copy I) (h37 : Pr_comesBack I) (h38 : Pr_out I) (h39 : Pr_suspect I) (h40 : Pr_look I) (h41 : Pr_knows I) (h42 : Pr_open I) (h43 : Pr_group I) (h44 : Pr_reckoned I) (h45 : Pr_register I) (h46 : Pr_note I) (h47 : Pr_carry I) (h48 : Pr_lay I) (h49 : Pr_ask I) (h50 : Pr_item I) (h51 : Pr_rest I) (h52 : Pr_tell I) (h53 : Pr_check I) (h54 : Pr_keep I) (h55 : Pr_back I) (h56 : Pr_count I) {X : Xt} (hX : X.1 ≤ 3072) : ∀ (n j : Nat) (σ : Mm), I σ → 6 * j ≤ X.1 + 6 → X.1 + 6 < 6 * (j + n) → ∃ σ2, f_Lw_law_18 X n 1000009 0 298 (Int32.ofNat (6 * j)) σ = some (1, σ2) := by
  intro n
  induction n with
  | zero => intro j σ hI g1 g2; omega
  | succ n ih =>
    intro j σ hI g1 g2
    rw [f_Lw_law_18]
    by_cases hc : (Int32.ofNat X.1 - (6 : Int32)) < Int32.ofNat (6 * j)
    · rw [if_pos hc]; exact ⟨σ, rfl⟩
    · rw [if_neg hc]
      have hj : 6 * j + 6 ≤ X.1 := by
        rw [Int32.lt_iff_toInt_lt, ofN_sub (by omega), ofN_toInt (by omega)] at hc
        omega
      have ad : ∀ c : Nat, Int32.ofNat (6 * j) + Int32.ofNat c = Int32.ofNat (6 * j + c) := fun c => (Int32.ofNat_add _ _).symm
      have b0 : inbB (Int32.ofNat (6 * j)) X.1 = true := ofN_inb (by omega) (by omega)
      have b1 : inbB (Int32.ofNat (6 * j) + (1 : Int32)) X.1 = true := by rw [show (1 : Int32) = Int32.ofNat 1 from rfl, ad]; exact ofN_inb (by omega) (by omega)
      have b2 : inbB (Int32.ofNat (6 * j) + (2 : Int32)) X.1 = true := by rw [show (2 : Int32) = Int32.ofNat 2 from rfl, ad]; exact ofN_inb (by omega) (by omega)
      have b3 : inbB (Int32.ofNat (6 * j) + (3 : Int32)) X.1 = true := by rw [show (3 : Int32) = Int32.ofNat 3 from rfl, ad]; exact ofN_inb (by omega) (by omega)
      have b4 : inbB (Int32.ofNat (6 * j) + (4 : Int32)) X.1 = true := by rw [show (4 : Int32) = Int32.ofNat 4 from rfl, ad]; exact ofN_inb (by omega) (by omega)
      have b5 : inbB (Int32.ofNat (6 * j) + (5 : Int32)) X.1 = true := by rw [show (5 : Int32) = Int32.ofNat 5 from rfl, ad]; exact ofN_inb (by omega) (by omega)
      have nx : ∀ σ2, I σ2 → ∃ σ3, f_Lw_law_18 X n 1000009 0 298 (Int32.ofNat (6 * j) + 6) σ2 = some (1, σ3) := by
        intro σ2 hI2
        rw [show Int32.ofNat (6 * j) + 6 = Int32.ofNat (6 * (j + 1)) from ad 6]
        exact ih (j + 1) σ2 hI2 (by omega) (by omega)
      have fin : ∀ y, (∃ σ2, I σ2 ∧ y = f_Lw_law_18 X n 1000009 0 298 (Int32.ofNat (6 * j) + 6) σ2) → ∃ σ3, y = some (1, σ3) := by
        rintro y ⟨σ2, hI2, e⟩
        rw [e]
        exact nx σ2 hI2
      rw [if_pos b0]
      apply fin
      refine dite_ex (fun _ => case_office h0 hI b1 b2 b3 b4 b5) (fun _ => ?_)
      refine dite_ex (fun _ => case_hold h1 hI b1 b2 b3 b4 b5) (fun _ => ?_)
      refine dite_ex (fun _ => case_held h2 hI b1 b2 b3 b4 b5) (fun _ => ?_)
      refine dite_ex (fun _ => case_govern h3 hI b1 b2 b3 b4 b5) (fun _ => ?_)
      refine dite_ex (fun _ => case_table h4 hI b1 b2 b3 b4 b5) (fun _ => ?_)
      refine dite_ex (fun _ => case_seats h5 hI b1 b2 b3 b4 b5) (fun _ => ?_)
      refine dite_ex (fun _ => case_sits h6 hI b1 b2 b3 b4 b5) (fun _ => ?_)
      refine dite_ex (fun _ => case_pass h7 hI b1 b2 b3 b4 b5) (fun _ => ?_)
      refine dite_ex (fun _ => case_way h8 hI b1 b2 b3 b4 b5) (fun _ => ?_)
      refine dite_ex (fun _ => case_paper h9 hI b1 b2 b3 b4 b5) (fun _ => ?_)
      refine dite_ex (fun _ => case_told h10 hI b1 b2 b3 b4 b5) (fun _ => ?_)
      refine dite_ex (fun _ => case_as h11 hI b1 b2 b3 b4 b5) (fun _ => ?_)
      refine dite_ex (fun _ => case_send h12 hI b1 b2 b3 b4 b5) (fun _ => ?_)
      refine dite_ex (fun _ => case_take h13 hI b1 b2 b3 b4 b5) (fun _ => ?_)
      refine dite_ex (fun _ => case_word h14 hI b1 b2 b3 b4 b5) (fun _ => ?_)
      refine dite_ex (fun _ => case_feed h15 hI b1 b2 b3 b4 b5) (fun _ => ?_)
      refine dite_ex (fun _ => case_trim h16 hI b1 b2 b3 b4 b5) (fun _ => ?_)
      refine dite_ex (fun _ => case_rule h17 hI b1 b2 b3 b4 b5) (fun _ => ?_)
      refine dite_ex (fun _ => case_of h18 hI b1 b2 b3 b4 b5) (fun _ => ?_)
      refine dite_ex (fun _ => case_counts h19 hI b1 b2 b3 b4 b5) (fun _ => ?_)
      refine dite_ex (fun _ => case_due h20 hI b1 b2 b3 b4 b5) (fun _ => ?_)
      refine dite_ex (fun _ => case_why h21 hI b1 b2 b3 b4 b5) (fun _ => ?_)
      refine dite_ex (fun _ => case_quarrel h22 hI b1 b2 b3 b4 b5) (fun _ => ?_)
      refine dite_ex (fun _ => case_lacks h23 hI b1 b2 b3 b4 b5) (fun _ => ?_)
      refine dite_ex (fun _ => case_come h24 hI b1 b2 b3 b4 b5) (fun _ => ?_)
      refine dite_ex (fun _ => case_decide h25 hI b1 b2 b3 b4 b5) (fun _ => ?_)
      refine dite_ex (fun _ => case_is h26 hI b1 b2 b3 b4 b5) (fun _ => ?_)
      refine dite_ex (fun _ => case_reopen h27 hI b1 b2 b3 b4 b5) (fun _ => ?_)
      refine dite_ex (fun _ => case_falls h28 hI b1 b2 b3 b4 b5) (fun _ => ?_)
      refine dite_ex (fun _ => case_current h29 hI b1 b2 b3 b4 b5) (fun _ => ?_)
      refine dite_ex (fun _ => case_bound h30 hI b1 b2 b3 b4 b5) (fun _ => ?_)
      refine dite_ex (fun _ => case_against h31 hI b1 b2 b3 b4 b5) (fun _ => ?_)
      refine dite_ex (fun _ => case_law h32 hI b1 b2 b3 b4 b5) (fun _ => ?_)
      refine dite_ex (fun _ => case_more h33 hI b1 b2 b3 b4 b5) (fun _ => ?_)
      refine dite_ex (fun _ => case_run h34 hI b1 b2 b3 b4 b5) (fun _ => ?_)
      refine dite_ex (fun _ => case_beside h35 hI b1 b2 b3 b4 b5) (fun _ => ?_)
      refine dite_ex (fun _ => case_copy h36 hI b1 b2 b3 b4 b5) (fun _ => ?_)
      refine dite_ex (fun _ => case_comesBack h37 hI b1 b2 b3 b4 b5) (fun _ => ?_)
      refine dite_ex (fun _ => case_out h38 hI b1 b2 b3 b4 b5) (fun _ => ?_)
      refine dite_ex (fun _ => case_suspect h39 hI b1 b2 b3 b4 b5) (fun _ => ?_)
      refine dite_ex (fun _ => case_look h40 hI b1 b2 b3 b4 b5) (fun _ => ?_)
      refine dite_ex (fun _ => case_knows h41 hI b1 b2 b3 b4 b5) (fun _ => ?_)
      refine dite_ex (fun _ => case_open h42 hI b1 b2 b3 b4 b5) (fun _ => ?_)
      refine dite_ex (fun _ => case_group h43 hI b1 b2 b3 b4 b5) (fun _ => ?_)
      refine dite_ex (fun _ => case_reckoned h44 hI b1 b2 b3 b4 b5) (fun _ => ?_)
      refine dite_ex (fun _ => case_register h45 hI b1 b2 b3 b4 b5) (fun _ => ?_)
      refine dite_ex (fun _ => case_note h46 hI b1 b2 b3 b4 b5) (fun _ => ?_)
      refine dite_ex (fun _ => case_carry h47 hI b1 b2 b3 b4 b5) (fun _ => ?_)
      refine dite_ex (fun _ => case_lay h48 hI b1 b2 b3 b4 b5) (fun _ => ?_)
      refine dite_ex (fun _ => case_ask h49 hI b1 b2 b3 b4 b5) (fun _ => ?_)
      refine dite_ex (fun _ => case_item h50 hI b1 b2 b3 b4 b5) (fun _ => ?_)
      refine dite_ex (fun _ => case_rest h51 hI b1 b2 b3 b4 b5) (fun _ => ?_)
      refine dite_ex (fun _ => case_tell h52 hI b1 b2 b3 b4 b5) (fun _ => ?_)
      refine dite_ex (fun _ => case_check h53 hI b1 b2 b3 b4 b5) (fun _ => ?_)
      refine dite_ex (fun _ => case_keep h54 hI b1 b2 b3 b4 b5) (fun _ => ?_)
      refine dite_ex (fun _ => case_back h55 hI b1 b2 b3 b4 b5) (fun _ => ?_)
      refine dite_ex (fun _ => case_count h56 hI b1 b2 b3 b4 b5) (fun _ => ?_)
      exact ⟨σ, hI, rfl⟩
/-- the law holds, if each pair of methods agrees -/
theorem law_true {I : Mm → Prop} (h00 : ∀ σ, VOK σ → I σ) (h0 : Pr_office I) (h1 : Pr_hold I) (h2 : Pr_held I) (h3 : Pr_govern I) (h4 : Pr_table I) (h5 : Pr_seats I) (h6 : Pr_sits I) (h7 : Pr_pass I) (h8 : Pr_way I) (h9 : Pr_paper I) (h10 : Pr_told I) (h11 : Pr_as I) (h12 : Pr_send I) (h13 : Pr_take I) (h14 : Pr_word I) (h15 : Pr_feed I) (h16 : Pr_trim I) (h17 : Pr_rule I) (h18 : Pr_of I) (h19 : Pr_counts I) (h20 : Pr_due I) (h21 : Pr_why I) (h22 : Pr_quarrel I) (h23 : Pr_lacks I) (h24 : Pr_come I) (h25 : Pr_decide I) (h26 : Pr_is I) (h27 : Pr_reopen I) (h28 : Pr_falls I) (h29 : Pr_current I) (h30 : Pr_bound I) (h31 : Pr_against I) (h32 : Pr_law I) (h33 : Pr_more I) (h34 : Pr_run I) (h35 : Pr_beside I) (h36 : Pr_copy I) (h37 : Pr_comesBack I) (h38 : Pr_out I) (h39 : Pr_suspect I) (h40 : Pr_look I) (h41 : Pr_knows I) (h42 : Pr_open I) (h43 : Pr_group I) (h44 : Pr_reckoned I) (h45 : Pr_register I) (h46 : Pr_note I) (h47 : Pr_carry I) (h48 : Pr_lay I) (h49 : Pr_ask I) (h50 : Pr_item I) (h51 : Pr_rest I) (h52 : Pr_tell I) (h53 : Pr_check I) (h54 : Pr_keep I) (h55 : Pr_back I) (h56 : Pr_count I) {L : Nat} {xs : Nat → Int32} (hL : L ≤ 3072) : ∃ (n : Nat) (h' : Hp), run (L, xs) n 100 325 0 [.ref 1000009, unset0, unset0, unset0] [] ((0, fun _ => noSe), fun _ _ => 0) = some (some (.int 1), h') ∧ h'.1.1 ≤ 600000 ∧ slt h'.1 ≤ 7302250 := by
  obtain ⟨S, σ, hS, hV, hl, hk⟩ := init_ok
  obtain ⟨σ2, e⟩ := law_loop h0 h1 h2 h3 h4 h5 h6 h7 h8 h9 h10 h11 h12 h13 h14 h15 h16 h17 h18 h19 h20 h21 h22 h23 h24 h25 h26 h27 h28 h29 h30 h31 h32 h33 h34 h35 h36 h37 h38 h39 h40 h41 h42 h43 h44 h45 h46 h47 h48 h49 h50 h51 h52 h53 h54 h55 h56 (X := (L, xs)) hL 1000 0 σ (h00 σ hV) (by omega) (by show L + 6 < _; omega)
  obtain ⟨n, r, σ3, hr, q1, q2⟩ := t_Lw_law_18 (X := (L, xs)) hS (d := 99) (by decide) 1000 1000009 0 298 (Int32.ofNat (6 * 0)) σ rfl (by decide) (by decide) _ e
  subst q1
  subst q2
  obtain ⟨n2, hr2⟩ := hk (L, xs) n _ hr
  refine ⟨n2, _, hr2, ?_, hl⟩
  show S.1 ≤ 600000
  rw [hS.1]
  decide
