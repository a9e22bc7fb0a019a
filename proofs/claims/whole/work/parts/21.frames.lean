/-! frames: what a part of the state rests on -/
theorem cntG_c {g g' : Nat → Int32} {a m : Nat} (h : cntG g a m) (f : g' a = g a) : cntG g' a m := by
  unfold cntG; rw [f]; exact h
theorem ScR_c {a a' g g' : Nat → Int32} (h : ScR a g) (e8 : a' 8 = a 8) (e9 : a' 9 = a 9) (f0 : g' 0 = g 0) (f1 : g' 1 = g 1) : ScR a' g' := by
  unfold ScR; rw [e8, e9, f0, f1]; exact h
theorem VSc_c {D : Nat} {g g' : Nat → Int32} (h : VSc D g) (f0 : g' 0 = g 0) (f1 : g' 1 = g 1) : VSc D g' := ⟨cntG_c h.1 f0, cntG_c h.2 f1⟩
theorem HoR_c {σ σ' : Mm} {s : Nat} {g g' : Nat → Int32} (h : HoR (σ (s + 1)) (σ (s + 2)) (σ (s + 3)) (σ (s + 4)) g) (v : VHo g) (e : ∀ a, s + 1 ≤ a → a < s + 5 → σ' a = σ a) (f : ∀ j, j = 2 ∨ j = 9 ∨ (12 ≤ j ∧ j < 132) → g' j = g j) : HoR (σ' (s + 1)) (σ' (s + 2)) (σ' (s + 3)) (σ' (s + 4)) g' := by
  have f2 := f 2 (by omega)
  have f9 := f 9 (by omega)
  have hm := v.2.2
  rw [e (s + 1) (by omega) (by omega), e (s + 2) (by omega) (by omega), e (s + 3) (by omega) (by omega), e (s + 4) (by omega) (by omega)]
  refine ⟨by rw [f2]; exact h.1, by rw [f9]; exact h.2.1, fun i hi => ?_⟩
  rw [f9] at hi
  rw [f (12 + 3 * i) (by omega), f (12 + 3 * i + 1) (by omega), f (12 + 3 * i + 2) (by omega)]
  exact h.2.2 i hi
theorem VHo_c {g g' : Nat → Int32} (v : VHo g) (f2 : g' 2 = g 2) (f9 : g' 9 = g 9) : VHo g' := ⟨cntG_c v.1 f2, cntG_c v.2 f9⟩
theorem TbR_c {σ σ' : Mm} {s : Nat} {g g' : Nat → Int32} (h : TbR (σ (s + 5)) (σ (s + 6)) (σ (s + 7)) (σ (s + 8)) (σ (s + 9)) g) (v : VTb g) (e : ∀ a, s + 5 ≤ a → a < s + 10 → σ' a = σ a) (f : ∀ j, j = 3 ∨ (132 ≤ j ∧ j < 186) → g' j = g j) : TbR (σ' (s + 5)) (σ' (s + 6)) (σ' (s + 7)) (σ' (s + 8)) (σ' (s + 9)) g' := by
  have f3 := f 3 (by omega)
  have hm := v.1.2
  rw [e (s + 5) (by omega) (by omega), e (s + 6) (by omega) (by omega), e (s + 7) (by omega) (by omega), e (s + 8) (by omega) (by omega), e (s + 9) (by omega) (by omega)]
  refine ⟨by rw [f3]; exact h.1, fun i hi => ?_⟩
  rw [f3] at hi
  rw [f (132 + 3 * i) (by omega), f (132 + 3 * i + 1) (by omega), f (132 + 3 * i + 2) (by omega), f3]
  obtain ⟨q1, q2, q3, q4⟩ := h.2 i hi
  refine ⟨q1, q2, q3, fun j hj => ?_⟩
  rw [q4 j hj]
  by_cases c : j < ix (g 3)
  · rw [f (150 + 6 * i + j) (by omega)]
  · rw [decide_eq_false c, Bool.false_and, Bool.false_and]
theorem VTb_c {g g' : Nat → Int32} (v : VTb g) (f : ∀ j, j = 3 ∨ (132 ≤ j ∧ j < 186) → g' j = g j) : VTb g' := by
  have f3 := f 3 (by omega)
  have hm := v.1.2
  refine ⟨cntG_c v.1 f3, fun t ht => ?_⟩
  rw [f3] at ht
  have q := v.2 t ht
  unfold TV at q ⊢
  rw [f (132 + 3 * t + 1) (by omega), f (132 + 3 * t + 2) (by omega)]
  refine ⟨q.1, q.2.1, fun u hu => ?_⟩
  rw [f (150 + 6 * t + u) (by omega)]
  exact q.2.2 u hu
theorem PaR_c {p g g' : Nat → Int32} {i : Nat} (h : PaR p g i) (f : ∀ j, 186 + 14 * i ≤ j → j < 200 + 14 * i → g' j = g j) : PaR p g' i := by
  unfold PaR at h ⊢
  rw [f (186 + 14 * i) (by omega) (by omega), f (186 + 14 * i + 1) (by omega) (by omega), f (186 + 14 * i + 2) (by omega) (by omega), f (186 + 14 * i + 3) (by omega) (by omega), f (186 + 14 * i + 4) (by omega) (by omega), f (186 + 14 * i + 5) (by omega) (by omega), f (186 + 14 * i + 6) (by omega) (by omega), f (186 + 14 * i + 7) (by omega) (by omega), f (186 + 14 * i + 8) (by omega) (by omega), f (186 + 14 * i + 9) (by omega) (by omega), f (186 + 14 * i + 10) (by omega) (by omega), f (186 + 14 * i + 11) (by omega) (by omega), f (186 + 14 * i + 12) (by omega) (by omega), f (186 + 14 * i + 13) (by omega) (by omega)]
  exact h
theorem PV_c {g g' : Nat → Int32} {nT nT' i : Nat} (h : PV g nT i) (hT : nT ≤ nT') (f : ∀ j, 186 + 14 * i ≤ j → j < 200 + 14 * i → g' j = g j) : PV g' nT' i := by
  unfold PV at h ⊢
  rw [f (186 + 14 * i) (by omega) (by omega), f (186 + 14 * i + 1) (by omega) (by omega), f (186 + 14 * i + 2) (by omega) (by omega), f (186 + 14 * i + 3) (by omega) (by omega), f (186 + 14 * i + 4) (by omega) (by omega), f (186 + 14 * i + 5) (by omega) (by omega), f (186 + 14 * i + 6) (by omega) (by omega), f (186 + 14 * i + 9) (by omega) (by omega), f (186 + 14 * i + 10) (by omega) (by omega), f (186 + 14 * i + 11) (by omega) (by omega), f (186 + 14 * i + 12) (by omega) (by omega), f (186 + 14 * i + 13) (by omega) (by omega)]
  obtain ⟨h1, h2, h3, h4, h5, h6⟩ := h
  refine ⟨h1, h2, h3, h4, ?_, h6⟩
  rcases h5 with q | ⟨⟨t, ht, e⟩, q⟩
  · exact Or.inl q
  · exact Or.inr ⟨⟨t, by omega, e⟩, q⟩
theorem PpR_c {σ σ' : Mm} {s : Nat} {g g' : Nat → Int32} (h : PpR σ s g) (v : VPp g) (e : ∀ a, s + 28 ≤ a → a < s + 52 → σ' a = σ a) (e10 : σ' s 10 = σ s 10) (f : ∀ j, j = 4 ∨ (186 ≤ j ∧ j < 522) → g' j = g j) : PpR σ' s g' := by
  have f4 := f 4 (by omega)
  have hm := v.1.2
  refine ⟨by rw [f4, e10]; exact h.1, fun i hi => ?_, fun i hi => ?_⟩
  · rw [f4] at hi
    rw [e (s + 28 + i) (by omega) (by omega)]
    exact PaR_c (h.2.1 i hi) (fun j h1 h2 => f j (by omega))
  · rw [e (s + 28 + i) (by omega) (by omega)]
    exact h.2.2 i hi
theorem VPp_c {g g' : Nat → Int32} (v : VPp g) (h3 : ix (g 3) ≤ ix (g' 3)) (f : ∀ j, j = 4 ∨ (186 ≤ j ∧ j < 522) → g' j = g j) : VPp g' := by
  have f4 := f 4 (by omega)
  have hm := v.1.2
  refine ⟨cntG_c v.1 f4, fun i hi => ?_⟩
  rw [f4] at hi
  exact PV_c (v.2 i hi) h3 (fun j h1 h2 => f j (by omega))
theorem RuR_c {ru st g g' : Nat → Int32} {r : Nat} (h : RuR ru st g r) (v : RV g r) (hr : r < 16) (f : ∀ j, 522 ≤ j → j < 5242 → g' j = g j) : RuR ru st g' r := by
  unfold RuR at h ⊢
  rw [f (522 + 7 * r) (by omega) (by omega), f (522 + 7 * r + 1) (by omega) (by omega), f (522 + 7 * r + 2) (by omega) (by omega), f (522 + 7 * r + 3) (by omega) (by omega), f (522 + 7 * r + 4) (by omega) (by omega), f (522 + 7 * r + 5) (by omega) (by omega), f (522 + 7 * r + 6) (by omega) (by omega)]
  obtain ⟨h0, h1, h2, h3, h4, m, n, hmn, q1, q2, q3, q4, q5, q6⟩ := h
  have hm : m ≤ 48 := by
    rcases v.2.1 with c | ⟨k, D, h0, h1, c, -⟩
    · rw [q3] at c; unfold mnyI at c
      by_cases hz : m = 0
      · omega
      · rw [if_neg hz, eqM (by omega)] at c; exact c.elim
    · rw [q3] at c; unfold mnyI at c
      by_cases hz : m = 0
      · omega
      · rw [if_neg hz, eqN (by omega) (by omega)] at c; omega
  have hn : n ≤ 48 := by
    rcases v.2.2 with c | ⟨k, D, h0, h1, c, -⟩
    · rw [q4] at c; unfold mnyI at c
      by_cases hz : n = 0
      · omega
      · rw [if_neg hz, eqM (by omega)] at c; exact c.elim
    · rw [q4] at c; unfold mnyI at c
      by_cases hz : n = 0
      · omega
      · rw [if_neg hz, eqN (by omega) (by omega)] at c; omega
  refine ⟨h0, h1, h2, h3, h4, m, n, hmn, q1, q2, q3, q4, fun i hi => ?_, fun i hi => ?_⟩
  · rw [f (634 + 288 * r + 3 * i) (by omega) (by omega), f (634 + 288 * r + 3 * i + 1) (by omega) (by omega), f (634 + 288 * r + 3 * i + 2) (by omega) (by omega)]
    exact q5 i hi
  · rw [f (634 + 288 * r + 144 + 3 * i) (by omega) (by omega), f (634 + 288 * r + 144 + 3 * i + 1) (by omega) (by omega), f (634 + 288 * r + 144 + 3 * i + 2) (by omega) (by omega)]
    exact q6 i hi
theorem CDV_c {g g' : Nat → Int32} {b : Nat} {m : Int32} (h : CDV g b m) (f : ∀ j, b ≤ j → j < b + 144 → g' j = g j) : CDV g' b m := by
  rcases h with c | ⟨k, D, h0, h1, c, d0, dk, q⟩
  · exact Or.inl c
  · refine Or.inr ⟨k, D, h0, h1, c, d0, dk, fun i hi => ?_⟩
    rw [f (b + 3 * i) (by omega) (by omega), f (b + 3 * i + 1) (by omega) (by omega), f (b + 3 * i + 2) (by omega) (by omega)]
    exact q i hi
theorem RV_c {g g' : Nat → Int32} {r : Nat} (h : RV g r) (hr : r < 16) (f : ∀ j, 522 ≤ j → j < 5242 → g' j = g j) : RV g' r := by
  unfold RV at h ⊢
  rw [f (522 + 7 * r) (by omega) (by omega), f (522 + 7 * r + 1) (by omega) (by omega), f (522 + 7 * r + 2) (by omega) (by omega), f (522 + 7 * r + 5) (by omega) (by omega), f (522 + 7 * r + 6) (by omega) (by omega)]
  exact ⟨h.1, CDV_c h.2.1 (fun j h1 h2 => f j (by omega) (by omega)), CDV_c h.2.2 (fun j h1 h2 => f j (by omega) (by omega))⟩
theorem RusR_c {σ σ' : Mm} {s : Nat} {g g' : Nat → Int32} (h : RusR σ s g) (v : VRu g) (e : ∀ a, s + 52 ≤ a → a < s + 84 → σ' a = σ a) (e11 : σ' s 11 = σ s 11) (f : ∀ j, j = 5 ∨ (522 ≤ j ∧ j < 5242) → g' j = g j) : RusR σ' s g' := by
  have f5 := f 5 (by omega)
  have hm := v.1.2
  refine ⟨by rw [f5, e11]; exact h.1, fun i hi => ?_⟩
  rw [f5] at hi
  rw [e (s + 52 + 2 * i) (by omega) (by omega), e (s + 53 + 2 * i) (by omega) (by omega)]
  exact RuR_c (h.2 i hi) (v.2 i hi) (by omega) (fun j h1 h2 => f j (by omega))
theorem VRu_c {g g' : Nat → Int32} (v : VRu g) (f : ∀ j, j = 5 ∨ (522 ≤ j ∧ j < 5242) → g' j = g j) : VRu g' := by
  have f5 := f 5 (by omega)
  have hm := v.1.2
  refine ⟨cntG_c v.1 f5, fun i hi => ?_⟩
  rw [f5] at hi
  exact RV_c (v.2 i hi) (by omega) (fun j h1 h2 => f j (by omega))
theorem DcR_c {σ σ' : Mm} {s : Nat} {g g' : Nat → Int32} (h : DcR (σ (s + 12)) (σ (s + 13)) (σ (s + 14)) (σ (s + 15)) (σ (s + 16)) (σ (s + 17)) (σ (s + 18)) (σ (s + 19)) (σ (s + 20)) g) (v : VDc g) (hp : ix (g 4) ≤ 24) (e : ∀ a, s + 12 ≤ a → a < s + 21 → σ' a = σ a) (f : ∀ j, j = 6 ∨ (5242 ≤ j ∧ j < 5410) → g' j = g j) (f2 : ∀ p, p < ix (g 4) → g' (186 + 14 * p + 2) = g (186 + 14 * p + 2)) : DcR (σ' (s + 12)) (σ' (s + 13)) (σ' (s + 14)) (σ' (s + 15)) (σ' (s + 16)) (σ' (s + 17)) (σ' (s + 18)) (σ' (s + 19)) (σ' (s + 20)) g' := by
  have f6 := f 6 (by omega)
  have hm := v.1.2
  rw [e (s + 12) (by omega) (by omega), e (s + 13) (by omega) (by omega), e (s + 14) (by omega) (by omega), e (s + 15) (by omega) (by omega), e (s + 16) (by omega) (by omega), e (s + 17) (by omega) (by omega), e (s + 18) (by omega) (by omega), e (s + 19) (by omega) (by omega), e (s + 20) (by omega) (by omega)]
  refine ⟨by rw [f6]; exact h.1, fun d hd => ?_⟩
  rw [f6] at hd
  obtain ⟨⟨p, hp1, hp2⟩, -⟩ := v.2 d hd
  rw [f (5242 + 7 * d) (by omega), f (5242 + 7 * d + 1) (by omega), f (5242 + 7 * d + 2) (by omega), f (5242 + 7 * d + 3) (by omega), f (5242 + 7 * d + 4) (by omega), f (5242 + 7 * d + 5) (by omega), f (5242 + 7 * d + 6) (by omega), f2 (ix (g (5242 + 7 * d))) (by rw [hp2, ixN (by omega)]; exact hp1)]
  exact h.2 d hd
theorem VDc_c {g g' : Nat → Int32} (v : VDc g) (h4 : ix (g 4) ≤ ix (g' 4)) (f : ∀ j, j = 6 ∨ (5242 ≤ j ∧ j < 5410) → g' j = g j) : VDc g' := by
  have f6 := f 6 (by omega)
  have hm := v.1.2
  refine ⟨cntG_c v.1 f6, fun d hd => ?_⟩
  rw [f6] at hd
  obtain ⟨⟨p, hp1, hp2⟩, q⟩ := v.2 d hd
  unfold DV
  rw [f (5242 + 7 * d) (by omega), f (5242 + 7 * d + 5) (by omega)]
  exact ⟨⟨p, by omega, hp2⟩, q⟩
theorem CpR_c {σ σ' : Mm} {s : Nat} {g g' : Nat → Int32} (h : CpR (σ (s + 21)) (σ (s + 22)) (σ (s + 23)) (σ (s + 24)) (σ (s + 25)) g) (v : VCp g) (e : ∀ a, s + 21 ≤ a → a < s + 26 → σ' a = σ a) (f : ∀ j, j = 7 ∨ (5420 ≤ j ∧ j < 5520) → g' j = g j) : CpR (σ' (s + 21)) (σ' (s + 22)) (σ' (s + 23)) (σ' (s + 24)) (σ' (s + 25)) g' := by
  have f7 := f 7 (by omega)
  have hm := v.1.2
  rw [e (s + 21) (by omega) (by omega), e (s + 22) (by omega) (by omega), e (s + 23) (by omega) (by omega), e (s + 24) (by omega) (by omega), e (s + 25) (by omega) (by omega)]
  refine ⟨by rw [f7]; exact h.1, fun c hc => ?_, fun j hj => ?_⟩
  · rw [f7] at hc
    rw [f (5420 + 5 * c) (by omega), f (5420 + 5 * c + 1) (by omega), f (5420 + 5 * c + 2) (by omega), f (5420 + 5 * c + 3) (by omega)]
    exact h.2.1 c hc
  · rw [h.2.2 j hj, f7]
    by_cases c : j < ix (g 7)
    · rw [f (5420 + 5 * j + 4) (by omega)]
    · rw [decide_eq_false c, Bool.false_and, Bool.false_and]
theorem VCp_c {g g' : Nat → Int32} (v : VCp g) (h4 : ix (g 4) ≤ ix (g' 4)) (f : ∀ j, j = 7 ∨ (5420 ≤ j ∧ j < 5520) → g' j = g j) : VCp g' := by
  have f7 := f 7 (by omega)
  have hm := v.1.2
  refine ⟨cntG_c v.1 f7, fun c hc => ?_⟩
  rw [f7] at hc
  obtain ⟨⟨p, hp1, hp2⟩, q⟩ := v.2 c hc
  unfold CV
  rw [f (5420 + 5 * c) (by omega), f (5420 + 5 * c + 4) (by omega)]
  exact ⟨⟨p, by omega, hp2⟩, q⟩
theorem GrR_c {σ σ' : Mm} {s : Nat} {g g' : Nat → Int32} (h : GrR (σ (s + 26)) (σ s) g) (v : VGr g) (e : σ' (s + 26) = σ (s + 26)) (e12 : σ' s 12 = σ s 12) (f : ∀ j, j = 8 ∨ (5520 ≤ j ∧ j < 5528) → g' j = g j) : GrR (σ' (s + 26)) (σ' s) g' := by
  have f8 := f 8 (by omega)
  have hm := v.2
  rw [e]
  refine ⟨by rw [f8, e12]; exact h.1, fun i hi => ?_⟩
  rw [f8] at hi
  rw [f (5520 + i) (by omega)]
  exact h.2 i hi
theorem LwR_c {a a' g g' : Nat → Int32} (h : LwR a g) (e : a' = a) (f : ∀ j, 5410 ≤ j → j < 5420 → g' j = g j) : LwR a' g' := by
  intro t ht
  rw [e, f (5410 + t) (by omega) (by omega)]
  exact h t ht
theorem VLw_c {g g' : Nat → Int32} (h : VLw g) (f : ∀ j, 5410 ≤ j → j < 5420 → g' j = g j) : VLw g' := by
  intro t ht
  have q := h t ht
  unfold LV at q ⊢
  rw [f (5410 + t) (by omega) (by omega)]
  exact q
/-- the same state, elsewhere in the same memory -/
theorem StR_c {σ σ' : Mm} {s D : Nat} {g : Nat → Int32} (h : StR σ s g) (v : VG D g) (e : ∀ a, s ≤ a → a < s + 84 → σ' a = σ a) : StR σ' s g := by
  obtain ⟨h1, h2, h3, h4, h5, h6, h7, h8, h9⟩ := h
  obtain ⟨v1, v2, v3, v4, v5, v6, v7, v8, v9⟩ := v
  have e0 := e s (by omega) (by omega)
  exact ⟨ScR_c h1 (by rw [e0]) (by rw [e0]) rfl rfl, HoR_c h2 v2 (fun a p q => e a (by omega) (by omega)) (fun _ _ => rfl), TbR_c h3 v3 (fun a p q => e a (by omega) (by omega)) (fun _ _ => rfl), PpR_c h4 v4 (fun a p q => e a (by omega) (by omega)) (by rw [e0]) (fun _ _ => rfl), RusR_c h5 v5 (fun a p q => e a (by omega) (by omega)) (by rw [e0]) (fun _ _ => rfl), DcR_c h6 v6 v4.1.2 (fun a p q => e a (by omega) (by omega)) (fun _ _ => rfl) (fun _ _ => rfl), CpR_c h7 v7 (fun a p q => e a (by omega) (by omega)) (fun _ _ => rfl), GrR_c h8 v8 (e _ (by omega) (by omega)) (by rw [e0]) (fun _ _ => rfl), LwR_c h9 (e _ (by omega) (by omega)) (fun _ _ _ => rfl)⟩
/-! beside the state -/
def TpR (a b : Int32) (x y : Nat → Int32) : Prop := ∃ L, L ≤ 96 ∧ a = nI L ∧ b = nI L ∧ ∀ i, i < L → ∃ c, c < 256 ∧ y i = nI c ∧ x i = (nI c).toInt8.toInt32
def RgR (r x : Nat → Int32) (sort size : Int32) (y : Nat → Int32) (b : Nat) : Prop := r 1 = sort ∧ (sort = m1I ∨ sort = nI 0 ∨ sort = nI 1) ∧ ∃ n, n ≤ 24 ∧ size = nI n ∧ r 2 = nI n ∧ ∀ i, i < n → x i = y (b + i)
def SeR (e p r x : Nat → Int32) (seat kind sum a size : Int32) (y : Nat → Int32) (b : Nat) : Prop := ∃ h, h ≤ 3 ∧ e 2 = nI h ∧ seat = nI h ∧ (h = 1 → (∃ k, k ≤ 4 ∧ kind = nI k) ∧ (∃ b, b ≤ 99 ∧ a = nI b) ∧ p 0 = kind ∧ p 3 = sum ∧ p 4 = a) ∧ (h = 2 → ∃ n, n ≤ 24 ∧ size = nI n ∧ r 2 = nI n ∧ ∀ i, i < n → x i = y (b + i)) ∧ (h = 3 → e 3 = sum)
def WtR (a b : Int32) (x y : Nat → Int32) : Prop := ∃ w, w ≤ 60 ∧ a = nI w ∧ b = nI w ∧ ∀ i, i < w → x i = y i
def ImR (σ : Mm) : Prop := ∃ im : Bool, σ 0 8 = b2 im ∧ σ 298 3 = b2 im ∧ (im = true → VG 999 (σ 300) ∧ StR σ 85 (σ 300))
def CoR (x y : Nat → Int32) : Prop := (∀ k, k < 68 → x k = letsL.getD k 0) ∧ ∀ k, k < 18 → y k = begsL.getD k 0
def ReR (σ : Mm) : Prop := ImR σ ∧ TpR (σ 256 5) (σ 298 10) (σ 257) (σ 305) ∧ (∀ r, r < 4 → RgR (σ (266 + 2 * r)) (σ (267 + 2 * r)) (σ 312 r) (σ 313 r) (σ 314) (24 * r)) ∧ (∀ j, j < 6 → SeR (σ (274 + 4 * j)) (σ (275 + 4 * j)) (σ (276 + 4 * j)) (σ (277 + 4 * j)) (σ 316 j) (σ 317 j) (σ 318 j) (σ 319 j) (σ 313 (4 + j)) (σ 314) (24 * (4 + j))) ∧ WtR (σ 0 9) (σ 298 44) (σ 263) (σ 320) ∧ CoR (σ 306) (σ 307)
def Inv (σ : Mm) : Prop := VG 999 (σ 299) ∧ StR σ 1 (σ 299) ∧ ReR σ
theorem ImR_c {σ σ' : Mm} (h : ImR σ) (e : ∀ a, 85 ≤ a → a < 169 → σ' a = σ a) (e0 : σ' 0 8 = σ 0 8) (e3 : σ' 298 3 = σ 298 3) (e300 : σ' 300 = σ 300) : ImR σ' := by
  obtain ⟨im, h1, h2, h3⟩ := h
  refine ⟨im, by rw [e0]; exact h1, by rw [e3]; exact h2, fun q => ?_⟩
  obtain ⟨v, h4⟩ := h3 q
  rw [e300]
  exact ⟨v, StR_c h4 v (fun a p q => e a p (by omega))⟩
/-- what lies beside the state, if the model's own words do not change -/
theorem ReR_c {σ σ' : Mm} (h : ReR σ) (e : ∀ a, a = 0 ∨ (85 ≤ a ∧ a < 169) ∨ (256 ≤ a ∧ a < 258) ∨ (263 ≤ a ∧ a < 298) ∨ a = 300 ∨ (305 ≤ a ∧ a < 308) ∨ (312 ≤ a ∧ a < 321) → σ' a = σ a) (e3 : σ' 298 3 = σ 298 3) (e10 : σ' 298 10 = σ 298 10) (e44 : σ' 298 44 = σ 298 44) : ReR σ' := by
  obtain ⟨h1, h2, h3, h4, h5, h6⟩ := h
  have e0 := e 0 (by omega)
  refine ⟨ImR_c h1 (fun a p q => e a (by omega)) (by rw [e0]) e3 (e 300 (by omega)), ?_, fun r hr => ?_, fun j hj => ?_, ?_, ?_⟩
  · rw [e 256 (by omega), e 257 (by omega), e 305 (by omega), e10]; exact h2
  · rw [e (266 + 2 * r) (by omega), e (267 + 2 * r) (by omega), e 312 (by omega), e 313 (by omega), e 314 (by omega)]; exact h3 r hr
  · rw [e (274 + 4 * j) (by omega), e (275 + 4 * j) (by omega), e (276 + 4 * j) (by omega), e (277 + 4 * j) (by omega), e 316 (by omega), e 317 (by omega), e 318 (by omega), e 319 (by omega), e 313 (by omega), e 314 (by omega)]; exact h4 j hj
  · rw [e0, e44, e 263 (by omega), e 320 (by omega)]; exact h5
  · rw [e 306 (by omega), e 307 (by omega)]; exact h6
theorem ReR_c' {σ σ' : Mm} (h : ReR σ) (e : ∀ a, a = 0 ∨ (85 ≤ a ∧ a < 169) ∨ (256 ≤ a ∧ a < 258) ∨ (263 ≤ a ∧ a < 299) ∨ a = 300 ∨ (305 ≤ a ∧ a < 308) ∨ (312 ≤ a ∧ a < 321) → σ' a = σ a) : ReR σ' :=
  ReR_c h (fun a q => e a (by omega)) (by rw [e 298 (by omega)]) (by rw [e 298 (by omega)]) (by rw [e 298 (by omega)])
