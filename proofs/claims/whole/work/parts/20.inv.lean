/-! what holds between the calls -/
def nn (x : Int32) : Int32 := if x = m1I then -1000000005 else x
theorem nn_m : nn m1I = -1000000005 := by unfold nn; rw [if_pos rfl]
theorem nn_N {a : Nat} (h : a < 2147483648) : nn (nI a) = nI a := by unfold nn; rw [if_neg (by rw [eqM h]; exact id)]
theorem orNone_nn (σ : Mm) (x : Int32) : f_Mo_orNone σ x = some (nn x) := by
  unfold f_Mo_orNone f_Mo_orNone_11 nn
  rw [l_m1]
  by_cases h : x = m1I
  · rw [if_neg (fun q => q h), if_pos h]
  · rw [if_pos h, if_neg h]
/-! a row of the model's by itself -/
def cntG (g : Nat → Int32) (a m : Nat) : Prop := g a = nI (ix (g a)) ∧ ix (g a) ≤ m
theorem cntG_of {g : Nat → Int32} {a m k : Nat} (h : g a = nI k) (hk : k ≤ m) (hm : m < 2147483648) : cntG g a m := by
  have e : ix (g a) = k := by rw [h]; exact ixN (by omega)
  exact ⟨by rw [e]; exact h, by omega⟩
def TV (g : Nat → Int32) (t : Nat) : Prop := (∃ p, 1 ≤ p ∧ p ≤ 30 ∧ g (132 + 3 * t + 1) = nI p) ∧ (∃ o, o ≤ 29 ∧ g (132 + 3 * t + 2) = nI o) ∧ ∀ u, u < 6 → g (150 + 6 * t + u) = nI 0 ∨ g (150 + 6 * t + u) = nI 1
def PV (g : Nat → Int32) (nT p : Nat) : Prop := (∃ k, k ≤ 4 ∧ g (186 + 14 * p) = nI k) ∧ (∃ a, a ≤ 99 ∧ g (186 + 14 * p + 4) = nI a) ∧ (g (186 + 14 * p + 5) = m1I ∨ ∃ d, d ≤ 2000 ∧ g (186 + 14 * p + 5) = nI d) ∧ (g (186 + 14 * p + 6) = nI 0 ∨ g (186 + 14 * p + 6) = nI 1) ∧ ((g (186 + 14 * p + 9) = m1I ∧ g (186 + 14 * p + 10) = m1I ∧ g (186 + 14 * p + 11) = m1I ∧ g (186 + 14 * p + 12) = nI 0) ∨ ((∃ t, t < nT ∧ g (186 + 14 * p + 9) = nI t) ∧ (∃ c, c ≤ 2000 ∧ g (186 + 14 * p + 10) = nI c) ∧ ∃ d, d ≤ 2000 ∧ g (186 + 14 * p + 5) = nI d)) ∧ (g (186 + 14 * p + 11) = m1I ∨ ∃ o, o ≤ 8 ∧ g (186 + 14 * p + 11) = nI o) ∧ (g (186 + 14 * p + 12) = nI 0 ∨ g (186 + 14 * p + 12) = nI 1) ∧ (∃ a, a ≤ 100000 ∧ g (186 + 14 * p + 13) = nI a) ∧ (∃ o, o ≤ 8 ∧ g (186 + 14 * p + 1) = nI o) ∧ (∃ t, t ≤ 9 ∧ g (186 + 14 * p + 2) = nI t) ∧ (∃ m, m ≤ 9999 ∧ g (186 + 14 * p + 3) = nI m)
def OpV (w sg n : Int32) (d d' : Nat) : Prop := (w = nI 10 ∧ 1 ≤ d ∧ d' = d) ∨ (w = nI 8 ∧ 2 ≤ d ∧ d' + 1 = d) ∨ (w = nI 9 ∧ 2 ≤ d ∧ d' + 1 = d) ∨ (d' = d + 1 ∧ ∃ N, N < 100000 ∧ n = nI N ∧ (((w = nI 11 ∨ w = nI 12 ∨ w = nI 13) ∧ (sg = nI 60 ∨ sg = nI 62)) ∨ w = nI 14 ∨ w = nI 15 ∨ (w = nI 16 ∧ N < 8)))
def CDV (g : Nat → Int32) (b : Nat) (m : Int32) : Prop := m = m1I ∨ ∃ (k : Nat) (D : Nat → Nat), 0 < k ∧ k ≤ 48 ∧ m = nI k ∧ D 0 = 0 ∧ D k = 1 ∧ ∀ i, i < k → D i ≤ 30 ∧ OpV (g (b + 3 * i)) (g (b + 3 * i + 1)) (g (b + 3 * i + 2)) (D i) (D (i + 1))
def RV (g : Nat → Int32) (r : Nat) : Prop := (∃ h K, h ≤ 5 ∧ K < 100000 ∧ g (522 + 7 * r + 1) = nI K ∧ g (522 + 7 * r) = nI h ∧ (h = 5 → g (522 + 7 * r + 2) = m1I) ∧ (h ≠ 5 → ∃ N, N < 100000 ∧ g (522 + 7 * r + 2) = nI N ∧ (h = 2 → N < 8))) ∧ CDV g (634 + 288 * r) (g (522 + 7 * r + 5)) ∧ CDV g (634 + 288 * r + 144) (g (522 + 7 * r + 6))
def DV (g : Nat → Int32) (nP d : Nat) : Prop := (∃ p, p < nP ∧ g (5242 + 7 * d) = nI p) ∧ (g (5242 + 7 * d + 5) = m1I ∨ ∃ k, k ≤ 2000 ∧ g (5242 + 7 * d + 5) = nI k)
def CV (g : Nat → Int32) (nP c : Nat) : Prop := (∃ p, p < nP ∧ g (5420 + 5 * c) = nI p) ∧ (g (5420 + 5 * c + 4) = nI 0 ∨ g (5420 + 5 * c + 4) = nI 1)
def LV (g : Nat → Int32) (t : Nat) : Prop := g (5410 + t) = m1I ∨ ∃ k, k ≤ 99 ∧ g (5410 + t) = nI k
def VSc (D : Nat) (g : Nat → Int32) : Prop := cntG g 0 D ∧ cntG g 1 99
def VHo (g : Nat → Int32) : Prop := cntG g 2 8 ∧ cntG g 9 40
def VTb (g : Nat → Int32) : Prop := cntG g 3 6 ∧ ∀ t, t < ix (g 3) → TV g t
def VPp (g : Nat → Int32) : Prop := cntG g 4 24 ∧ ∀ p, p < ix (g 4) → PV g (ix (g 3)) p
def VRu (g : Nat → Int32) : Prop := cntG g 5 16 ∧ ∀ r, r < ix (g 5) → RV g r
def VDc (g : Nat → Int32) : Prop := cntG g 6 24 ∧ ∀ d, d < ix (g 6) → DV g (ix (g 4)) d
def VCp (g : Nat → Int32) : Prop := cntG g 7 20 ∧ ∀ c, c < ix (g 7) → CV g (ix (g 4)) c
def VGr (g : Nat → Int32) : Prop := cntG g 8 8
def VLw (g : Nat → Int32) : Prop := ∀ t, t < 10 → LV g t
def VG (D : Nat) (g : Nat → Int32) : Prop := VSc D g ∧ VHo g ∧ VTb g ∧ VPp g ∧ VRu g ∧ VDc g ∧ VCp g ∧ VGr g ∧ VLw g
/-! the class's state beside it -/
def ScR (a g : Nat → Int32) : Prop := a 8 = g 0 ∧ a 9 = g 1
def HoR (o a b c g : Nat → Int32) : Prop := o 3 = g 2 ∧ o 4 = g 9 ∧ ∀ i, i < ix (g 9) → a i = g (12 + 3 * i) ∧ b i = nn (g (12 + 3 * i + 1)) ∧ c i = g (12 + 3 * i + 2)
def TbR (t a b c e g : Nat → Int32) : Prop := t 4 = g 3 ∧ ∀ i, i < ix (g 3) → a i = g (132 + 3 * i) ∧ b i = g (132 + 3 * i + 1) ∧ c i = g (132 + 3 * i + 2) ∧ ∀ j, j < 32 → btI (e i) j = (decide (j < ix (g 3)) && decide (g (150 + 6 * i + j) = nI 1))
def PaR (p g : Nat → Int32) (i : Nat) : Prop := p 0 = g (186 + 14 * i) ∧ p 1 = g (186 + 14 * i + 1) ∧ p 2 = g (186 + 14 * i + 2) ∧ p 3 = g (186 + 14 * i + 3) ∧ p 4 = g (186 + 14 * i + 4) ∧ p 5 = nn (g (186 + 14 * i + 5)) ∧ p 6 = g (186 + 14 * i + 6) ∧ p 7 = g (186 + 14 * i + 7) ∧ p 8 = g (186 + 14 * i + 8) ∧ p 9 = nn (g (186 + 14 * i + 9)) ∧ p 10 = nn (g (186 + 14 * i + 10)) ∧ p 11 = nn (g (186 + 14 * i + 11)) ∧ p 12 = g (186 + 14 * i + 12) ∧ (g (186 + 14 * i + 9) ≠ m1I → g (186 + 14 * i + 12) = nI 0 → p 13 = g (186 + 14 * i + 10) - g (186 + 14 * i + 5) - g (186 + 14 * i + 13)) 
def ZpR (σ : Mm) (s : Nat) : Prop := ∀ i, i < 24 → zB (σ (s + 28 + i) 6) = true ∧ zB (σ (s + 28 + i) 12) = true
def PpR (σ : Mm) (s : Nat) (g : Nat → Int32) : Prop := σ s 10 = g 4 ∧ (∀ i, i < ix (g 4) → PaR (σ (s + 28 + i)) g i) ∧ ZpR σ s
def stR (st w sg n : Int32) : Prop := (w = nI 10 ∧ st = nI 900000) ∨ (w = nI 8 ∧ st = nI 1000000) ∨ (w = nI 9 ∧ st = nI 1100000) ∨ ∃ N, N < 100000 ∧ n = nI N ∧ ((w = nI 11 ∧ sg = nI 60 ∧ st = nI N) ∨ (w = nI 11 ∧ sg = nI 62 ∧ st = nI (100000 + N)) ∨ (w = nI 12 ∧ sg = nI 60 ∧ st = nI (200000 + N)) ∨ (w = nI 12 ∧ sg = nI 62 ∧ st = nI (300000 + N)) ∨ (w = nI 13 ∧ sg = nI 60 ∧ st = nI (400000 + N)) ∨ (w = nI 13 ∧ sg = nI 62 ∧ st = nI (500000 + N)) ∨ (w = nI 14 ∧ st = nI (600000 + N)) ∨ (w = nI 15 ∧ st = nI (700000 + N)) ∨ (w = nI 16 ∧ st = nI (800000 + N)))
def mnyI (m : Nat) : Int32 := if m = 0 then m1I else nI m
def RuR (ru st g : Nat → Int32) (r : Nat) : Prop := ru 0 = g (522 + 7 * r) ∧ ru 1 = g (522 + 7 * r + 1) ∧ ru 2 = nn (g (522 + 7 * r + 2)) ∧ ru 3 = g (522 + 7 * r + 3) ∧ ru 4 = g (522 + 7 * r + 4) ∧ ∃ m n, m + n ≤ 96 ∧ ru 5 = nI m ∧ ru 6 = nI (m + n) ∧ g (522 + 7 * r + 5) = mnyI m ∧ g (522 + 7 * r + 6) = mnyI n ∧ (∀ i, i < m → stR (st i) (g (634 + 288 * r + 3 * i)) (g (634 + 288 * r + 3 * i + 1)) (g (634 + 288 * r + 3 * i + 2))) ∧ (∀ i, i < n → stR (st (m + i)) (g (634 + 288 * r + 144 + 3 * i)) (g (634 + 288 * r + 144 + 3 * i + 1)) (g (634 + 288 * r + 144 + 3 * i + 2)))
def RusR (σ : Mm) (s : Nat) (g : Nat → Int32) : Prop := σ s 11 = g 5 ∧ ∀ r, r < ix (g 5) → RuR (σ (s + 52 + 2 * r)) (σ (s + 53 + 2 * r)) g r
def DcR (k d0 d1 d2 d3 d4 d5 d6 d7 g : Nat → Int32) : Prop := k 8 = g 6 ∧ ∀ d, d < ix (g 6) → d0 d = g (5242 + 7 * d) ∧ d1 d = g (186 + 14 * ix (g (5242 + 7 * d)) + 2) ∧ d2 d = g (5242 + 7 * d + 1) ∧ d3 d = g (5242 + 7 * d + 2) ∧ d4 d = g (5242 + 7 * d + 3) ∧ d5 d = g (5242 + 7 * d + 4) ∧ d6 d = nn (g (5242 + 7 * d + 5)) ∧ d7 d = g (5242 + 7 * d + 6)
def CpR (k c0 c1 c2 c3 g : Nat → Int32) : Prop := k 5 = g 7 ∧ (∀ c, c < ix (g 7) → c0 c = g (5420 + 5 * c) ∧ c1 c = g (5420 + 5 * c + 1) ∧ c2 c = g (5420 + 5 * c + 2) ∧ c3 c = g (5420 + 5 * c + 3)) ∧ ∀ j, j < 32 → btI (k 4) j = (decide (j < ix (g 7)) && decide (g (5420 + 5 * j + 4) = nI 1))
def GrR (a k g : Nat → Int32) : Prop := k 12 = g 8 ∧ ∀ i, i < ix (g 8) → a i = g (5520 + i)
def LwR (a g : Nat → Int32) : Prop := ∀ t, t < 10 → a t = nn (g (5410 + t))
def StR (σ : Mm) (s : Nat) (g : Nat → Int32) : Prop := ScR (σ s) g ∧ HoR (σ (s + 1)) (σ (s + 2)) (σ (s + 3)) (σ (s + 4)) g ∧ TbR (σ (s + 5)) (σ (s + 6)) (σ (s + 7)) (σ (s + 8)) (σ (s + 9)) g ∧ PpR σ s g ∧ RusR σ s g ∧ DcR (σ (s + 12)) (σ (s + 13)) (σ (s + 14)) (σ (s + 15)) (σ (s + 16)) (σ (s + 17)) (σ (s + 18)) (σ (s + 19)) (σ (s + 20)) g ∧ CpR (σ (s + 21)) (σ (s + 22)) (σ (s + 23)) (σ (s + 24)) (σ (s + 25)) g ∧ GrR (σ (s + 26)) (σ s) g ∧ LwR (σ (s + 27)) g
