/-! a paper comes -/
def comesG (g : Nat → Int32) (p n : Nat) (t lb sl : Int32) : Nat → Int32 := upd (upd (upd (upd (upd g (186 + 14 * p + 13) (dueF g p n 1)) (186 + 14 * p + 9) t) (186 + 14 * p + 10) (g 0)) (186 + 14 * p + 11) lb) (186 + 14 * p + 12) sl
theorem comesG_o (g : Nat → Int32) (p n : Nat) (t lb sl : Int32) {j : Nat} (h : j < 186 + 14 * p + 9 ∨ 200 + 14 * p ≤ j) : comesG g p n t lb sl j = g j := by
  unfold comesG; simp -dsimp -implicitDefEqProofs (disch := omega) only [pk_un]
theorem mo_comesTo {σ : Mm} {n p nT : Nat} {g : Nat → Int32} (hg : σ 299 = g) (e5 : g 5 = nI n) (l5 : n ≤ 16) (rv : ∀ r, r < n → RV g r) (hp : p < 24) (pv : PV g nT p) (t lb sl : Int32) : ∃ τ, f_Mo_comesTo 298 (nI p) t lb sl σ = some τ ∧ τ 299 = comesG g p n t lb sl ∧ (∀ a, a ≠ 299 → a ≠ 310 → a ≠ 311 → τ a = σ a) := by
  obtain ⟨τ1, z1, h1⟩ := mo_dueOf (h := 1) hg e5 l5 rv hp pv (by omega)
  have t1 : τ1 299 = g := by rw [h1 299 (by omega) (by omega), hg]
  refine ⟨up2 (up2 (up2 (up2 (up2 τ1 299 (186 + 14 * p + 13) (dueF g p n 1)) 299 (186 + 14 * p + 9) t) 299 (186 + 14 * p + 10) (g 0)) 299 (186 + 14 * p + 11) lb) 299 (186 + 14 * p + 12) sl, ?_, ?_, fun a q1 q2 q3 => ?_⟩
  · simp -dsimp -implicitDefEqProofs (disch := omega) only [f_Mo_comesTo, ↓l_m1, l_0, l_1, l_2, l_3, l_4, l_5, l_6, l_7, l_8, l_9, l_10, l_11, l_12, l_13, l_14, l_15, l_16, l_17, l_20, l_21, l_22, l_23, l_24, l_28, l_29, l_30, l_31, l_32, l_40, l_41, l_48, l_57, l_60, l_62, l_63, l_84, l_96, l_97, l_99, l_100, l_122, l_132, l_144, l_150, l_186, l_255, l_256, l_288, l_300, l_522, l_634, l_999, l_5242, l_5410, l_5420, l_5520, l_5528, l_9999, l_65535, l_65536, l_100000, l_16777215, l_252645135, l_858993459, l_1431655765, ↓reduceIte, Nat.reduceAdd, Nat.reduceMul, Nat.reduceSub, ixN, inbN, leT, leF, ltT, ltF, eqT, eqF, eqM, eqNone, addN, mulN, subN, m1N, ↓to_bnd, bnd_some, ↓to_nmT, nmT_eq, up2_r, up2_e, pk_us, pk_un, b2_t, b2_f, b2_0, b2_1, zB_1, zB_0, zB_b2, not_true_eq_false, not_false_eq_true, r_Mo, Nat.add_zero, Nat.add_sub_cancel, within_R, within_N, in_R, in_N, inN_yes, inR_yes, inR_pred, orNone_nn, nn_m, nn_N, f_Ct_isDay, f_Ct_isThing, f_Ct_isKind, f_Ct_isRoomSeat, f_Ct_isOffice, f_Ct_isTable, f_Ct_isPaper, f_Ct_isRule, f_Ct_isDecision, f_Mo_isOffice, f_Mo_isTable, f_Mo_isPaper, f_Mo_isRule, f_Mo_isDecision, f_Mo_isDay, f_Mo_isThing, f_Mo_paperOf, f_Mo_set, z1, t1]
  · simp -dsimp -implicitDefEqProofs (disch := omega) only [up2_e, t1]; rfl
  · simp -dsimp -implicitDefEqProofs (disch := omega) only [up2_r]; exact h1 a q2 q3
theorem come_V {D p n nT t : Nat} {g : Nat → Int32} {lb sl : Int32} (hV : VG D g) (hD : D ≤ 1100) (e5 : g 5 = nI n) (l5 : n ≤ 16) (e3 : g 3 = nI nT) (l3 : nT ≤ 6) (hp : p < ix (g 4)) (uw : uwB g p = true) (ht : t < nT) (hlb : lb = m1I ∨ ∃ o, o ≤ 8 ∧ lb = nI o) (hsl : sl = nI 0 ∨ sl = nI 1) : PV (comesG g p n (nI t) lb sl) (ix (g 3)) p := by
  obtain ⟨dd, e0, l0, g0⟩ := cnt_of hV.1.1
  have rv : ∀ r, r < n → RV g r := fun r hr => hV.2.2.2.2.1.2 r (by rw [e5, ixN (by omega)]; exact hr)
  have pv := hV.2.2.2.1.2 p hp
  obtain ⟨N, hN, eN⟩ := due_N (h := 1) l5 rv pv (by omega) (by omega)
  have g3 : ix (g 3) = nT := by rw [e3, ixN (by omega)]
  obtain ⟨u5, u6, u9, u10, u11, u12⟩ := uwB_inv pv (by omega) uw
  obtain ⟨h0, h4, h5, h6, h9, h11, h12, h13, h1, h2, h3⟩ := pv
  unfold PV comesG
  simp -dsimp -implicitDefEqProofs (disch := omega) only [pk_un, pk_us]
  rw [g3]
  exact ⟨h0, h4, h5, h6, Or.inr ⟨⟨t, ht, rfl⟩, ⟨dd, by omega, e0⟩, u5⟩, hlb, hsl, ⟨N, by omega, eN⟩, h1, h2, h3⟩
/-- it comes, let in or not -/
theorem come_ok {σ σ' : Mm} {s D p n nT t : Nat} {g : Nat → Int32} {lb : Int32} (hV : VG D g) (hD : D ≤ 1100) (hS : StR σ s g) (e5 : g 5 = nI n) (l5 : n ≤ 16) (e3 : g 3 = nI nT) (l3 : nT ≤ 6) (hp : p < ix (g 4)) (uw : uwB g p = true) (ht : t < nT) (hlb : lb = m1I ∨ ∃ o, o ≤ 8 ∧ lb = nI o) (e : ∀ a, s ≤ a → a < s + 84 → a ≠ s + 28 + p → σ' a = σ a) (er : σ' (s + 28 + p) = upd (upd (upd (upd (σ (s + 28 + p)) 13 (g 0 - g (186 + 14 * p + 5) - dueF g p n 1)) 11 (nn lb)) 9 (nI t)) 10 (g 0)) : VG D (comesG g p n (nI t) lb (nI 0)) ∧ StR σ' s (comesG g p n (nI t) lb (nI 0)) := by
  obtain ⟨dd, e0, l0, g0⟩ := cnt_of hV.1.1
  have pv := hV.2.2.2.1.2 p hp
  have lT := hV.2.2.1.1.2
  obtain ⟨u5, u6, u9, u10, u11, u12⟩ := uwB_inv pv lT uw
  obtain ⟨q0, q1, q2, q3, q4, q5, q6, q7, q8, q9, q10, q11, q12, q13⟩ := hS.2.2.2.1.2.1 p hp
  refine Pp_one hV hS hp e (fun j q => comesG_o g p n _ _ _ (by omega)) (comesG_o g p n _ _ _ (by omega)) (come_V hV hD e5 l5 e3 l3 hp uw ht hlb (Or.inl rfl)) ?_
  rw [er]
  unfold PaR comesG
  rw [u12] at q12
  simp -dsimp -implicitDefEqProofs (disch := omega) only [pk_un, pk_us]
  rw [nn_N (by omega), e0, nn_N (by omega)]
  exact ⟨q0, q1, q2, q3, q4, q5, q6, q7, q8, rfl, rfl, trivial, q12, fun _ _ => trivial⟩
/-- it comes by silence -/
theorem silent_ok {σ σ' : Mm} {s D p n nT t : Nat} {g : Nat → Int32} (hV : VG D g) (hD : D ≤ 1100) (hS : StR σ s g) (e5 : g 5 = nI n) (l5 : n ≤ 16) (e3 : g 3 = nI nT) (l3 : nT ≤ 6) (hp : p < ix (g 4)) (uw : uwB g p = true) (ht : t < nT) (e : ∀ a, s ≤ a → a < s + 84 → a ≠ s + 28 + p → σ' a = σ a) (er : σ' (s + 28 + p) = upd (upd (upd (σ (s + 28 + p)) 12 (nI 1)) 9 (nI t)) 10 (g 0)) : VG D (comesG g p n (nI t) m1I (nI 1)) ∧ StR σ' s (comesG g p n (nI t) m1I (nI 1)) := by
  obtain ⟨dd, e0, l0, g0⟩ := cnt_of hV.1.1
  have pv := hV.2.2.2.1.2 p hp
  have lT := hV.2.2.1.1.2
  obtain ⟨u5, u6, u9, u10, u11, u12⟩ := uwB_inv pv lT uw
  obtain ⟨q0, q1, q2, q3, q4, q5, q6, q7, q8, q9, q10, q11, q12, q13⟩ := hS.2.2.2.1.2.1 p hp
  refine Pp_one hV hS hp e (fun j q => comesG_o g p n _ _ _ (by omega)) (comesG_o g p n _ _ _ (by omega)) (come_V hV hD e5 l5 e3 l3 hp uw ht (Or.inl rfl) (Or.inr rfl)) ?_
  rw [er]
  unfold PaR comesG
  rw [u11, nn_m] at q11
  simp -dsimp -implicitDefEqProofs (disch := omega) only [pk_un, pk_us]
  rw [nn_N (by omega), e0, nn_N (by omega), nn_m]
  refine ⟨q0, q1, q2, q3, q4, q5, q6, q7, q8, rfl, rfl, q11, trivial, fun _ z => absurd z ?_⟩
  decide
theorem lacks_val {g : Nat → Int32} {p t n : Nat} (rv : ∀ r, r < n → RV g r) (l5 : n ≤ 16) (uw : uwB g p = true) : ∃ L, L ≤ 17 ∧ L ≠ 1 ∧ lacksF g p t n = nI L := by
  obtain ⟨w, hw, ew⟩ := want_ok (p := p) rv l5
  unfold lacksF
  rw [if_pos uw]
  split
  · split
    · split
      · split
        · exact ⟨0, by omega, by omega, rfl⟩
        · next c =>
          rw [ew] at c
          have h0 : 0 < w := by
            rcases Nat.eq_zero_or_pos w with z | z
            · rw [z] at c; exact absurd rfl c
            · exact z
          have := (tz_b w hw h0).2.2
          rw [ew, ixN (by omega)]
          exact ⟨10 + tzN w, by omega, by omega, rfl⟩
      · exact ⟨4, by omega, by omega, rfl⟩
    · exact ⟨3, by omega, by omega, rfl⟩
  · exact ⟨2, by omega, by omega, rfl⟩
theorem lacks_1 {g : Nat → Int32} {p t n : Nat} (uw : uwB g p = false) : lacksF g p t n = nI 1 := by
  unfold lacksF; rw [if_neg (by rw [uw]; decide)]
theorem p_come : Pr_come Inv := by
  intro σ a1 a2 a3 hI
  obtain ⟨s, g, hs, bs, r0, hg, hV, hS, hR⟩ := Inv_open hI
  obtain ⟨n, e5, l5, rv, hU, o5⟩ := ru_open hV hS
  obtain ⟨nP, e4, l4, g4⟩ := cnt_of hV.2.2.2.1.1
  obtain ⟨nT, e3, l3, g3⟩ := cnt_of hV.2.2.1.1
  obtain ⟨nO, e2, l2, -⟩ := cnt_of hV.2.1.1
  have o2 := hS.2.1.1
  rw [e2] at o2
  have o4 := hS.2.2.2.1.1
  rw [e4] at o4
  have o3 := hS.2.2.1.1
  rw [e3] at o3
  have o8 := hS.1.1
  rcases inN_cases a1 nP (by omega) with ⟨p, hp, rfl⟩ | c1
  · rcases inN_cases a2 nT (by omega) with ⟨t, ht, rfl⟩ | c2
    · have hp' : p < ix (g 4) := by omega
      have pv := hV.2.2.2.1.2 p hp'
      have pr := hS.2.2.2.1.2.1 p hp'
      -- with an office told rightly, the rest is the same
      have go : ∀ hc : f_Ct_come 0 (nI p) (nI t) a3 σ = f_Ct_come_33 0 (nI p) (nI t) a3 σ, (∀ σ1, σ1 299 = g → f_Mo_come 298 (nI p) (nI t) a3 σ1 = f_Mo_come_33 298 (nI p) (nI t) a3 σ1) → ∀ b : Bool, f_Tb_hasSeat σ (s + 5) (nI t) a3 = some (b2 b) → (b = true → ∃ o, o < 8 ∧ a3 = nI o) → (∀ σ1 F, σ1 299 = g → (if a3 = -1000000005 then f_Mo_come_67 σ1 else (f_Mo_hasSeat σ1 298 a3 (nI t)).bind fun v61 => (if ¬ v61 = 0 then F else f_Mo_come_67 σ1)) = if b = true then F else f_Mo_come_67 σ1) → ∃ (v : Int32) (σ1 σ2 : Mm), f_Ct_come 0 (nI p) (nI t) a3 σ = some (v, σ1) ∧ f_Mo_come 298 (nI p) (nI t) a3 σ1 = some (v, σ2) ∧ Inv σ2 := by
        intro hc hm b hb hbo hms
        have cl := c_whatLacks (p := p) (t := t) bs hV (by omega) hS e5 l5 e3 l3 hp' ht
        cases uw : uwB g p
        · rw [lacks_1 uw] at cl
          obtain ⟨τ, z1, z2⟩ := mo_lacksOf (p := p) (t := t) hg hV (by omega) e5 l5 e3 l3 hp' ht
          rw [lacks_1 uw] at z1
          refine ⟨-1000000002, σ, τ, ?_, ?_, Inv_scr hI z2⟩
          · rw [hc]
            simp -dsimp -implicitDefEqProofs (disch := omega) only [f_Ct_come_33, f_Ct_come_82, ↓l_m1, l_0, l_1, l_2, l_3, l_4, l_5, l_6, l_7, l_8, l_9, l_10, l_11, l_12, l_13, l_14, l_15, l_16, l_17, l_20, l_21, l_22, l_23, l_24, l_28, l_29, l_30, l_31, l_32, l_40, l_41, l_48, l_57, l_60, l_62, l_63, l_84, l_96, l_97, l_99, l_100, l_122, l_132, l_144, l_150, l_186, l_255, l_256, l_288, l_300, l_522, l_634, l_999, l_5242, l_5410, l_5420, l_5520, l_5528, l_9999, l_65535, l_65536, l_100000, l_16777215, l_252645135, l_858993459, l_1431655765, ↓reduceIte, Nat.reduceAdd, Nat.reduceMul, Nat.reduceSub, ixN, inbN, leT, leF, ltT, ltF, eqT, eqF, eqM, eqNone, addN, mulN, subN, m1N, ↓to_bnd, bnd_some, ↓to_nmT, nmT_eq, up2_r, up2_e, pk_us, pk_un, b2_t, b2_f, b2_0, b2_1, zB_1, zB_0, zB_b2, not_true_eq_false, not_false_eq_true, r_Mo, Nat.add_zero, Nat.add_sub_cancel, within_R, within_N, in_R, in_N, inN_yes, inR_yes, inR_pred, orNone_nn, nn_m, nn_N, f_Ct_isDay, f_Ct_isThing, f_Ct_isKind, f_Ct_isRoomSeat, f_Ct_isOffice, f_Ct_isTable, f_Ct_isPaper, f_Ct_isRule, f_Ct_isDecision, f_Mo_isOffice, f_Mo_isTable, f_Mo_isPaper, f_Mo_isRule, f_Mo_isDecision, f_Mo_isDay, f_Mo_isThing, f_Mo_paperOf, f_Mo_set, r0, r_s2 bs, r_p bs, cl]
          · rw [hm σ hg]
            simp -dsimp -implicitDefEqProofs (disch := omega) only [f_Mo_come_33, f_Mo_come_67, ↓l_m1, l_0, l_1, l_2, l_3, l_4, l_5, l_6, l_7, l_8, l_9, l_10, l_11, l_12, l_13, l_14, l_15, l_16, l_17, l_20, l_21, l_22, l_23, l_24, l_28, l_29, l_30, l_31, l_32, l_40, l_41, l_48, l_57, l_60, l_62, l_63, l_84, l_96, l_97, l_99, l_100, l_122, l_132, l_144, l_150, l_186, l_255, l_256, l_288, l_300, l_522, l_634, l_999, l_5242, l_5410, l_5420, l_5520, l_5528, l_9999, l_65535, l_65536, l_100000, l_16777215, l_252645135, l_858993459, l_1431655765, ↓reduceIte, Nat.reduceAdd, Nat.reduceMul, Nat.reduceSub, ixN, inbN, leT, leF, ltT, ltF, eqT, eqF, eqM, eqNone, addN, mulN, subN, m1N, ↓to_bnd, bnd_some, ↓to_nmT, nmT_eq, up2_r, up2_e, pk_us, pk_un, b2_t, b2_f, b2_0, b2_1, zB_1, zB_0, zB_b2, not_true_eq_false, not_false_eq_true, r_Mo, Nat.add_zero, Nat.add_sub_cancel, within_R, within_N, in_R, in_N, inN_yes, inR_yes, inR_pred, orNone_nn, nn_m, nn_N, f_Ct_isDay, f_Ct_isThing, f_Ct_isKind, f_Ct_isRoomSeat, f_Ct_isOffice, f_Ct_isTable, f_Ct_isPaper, f_Ct_isRule, f_Ct_isDecision, f_Mo_isOffice, f_Mo_isTable, f_Mo_isPaper, f_Mo_isRule, f_Mo_isDecision, f_Mo_isDay, f_Mo_isThing, f_Mo_paperOf, f_Mo_set, z1]
        · obtain ⟨L, lL, L1, eL⟩ := lacks_val (t := t) rv l5 uw
          obtain ⟨⟨d, hd, u5⟩, u6, u9, u10, u11, u12⟩ := uwB_inv pv (by omega) uw
          rw [eL] at cl
          have cd := c_dueOf (h := 1) bs e5 l5 rv hU hS.1 (show p < 24 by omega) pv pr (by omega)
          have q5 := pr.2.2.2.2.2.1
          rw [u5, nn_N (by omega)] at q5
          -- it comes
          have comes : ∀ lb, (lb = m1I ∨ ∃ o, o ≤ 8 ∧ lb = nI o) → (L = 0 → lb = m1I) → (L ≠ 0 → nn lb = a3 ∧ lb = a3 ∧ b = true) → ∃ (v : Int32) (σ1 σ2 : Mm), f_Ct_come 0 (nI p) (nI t) a3 σ = some (v, σ1) ∧ f_Mo_come 298 (nI p) (nI t) a3 σ1 = some (v, σ2) ∧ Inv σ2 := by
            intro lb hlb hL0 hL1
            obtain ⟨σ1, h1⟩ : ∃ σ1, up2 (up2 (up2 (up2 σ (s + 28 + p) 13 (g 0 - nI d - dueF g p n 1)) (s + 28 + p) 11 (nn lb)) (s + 28 + p) 9 (nI t)) (s + 28 + p) 10 (g 0) = σ1 := ⟨_, rfl⟩
            have r1 : ∀ a, a ≠ s + 28 + p → σ1 a = σ a := fun a h => by rw [← h1]; simp -dsimp -implicitDefEqProofs (disch := omega) only [up2_r]
            have g1 : σ1 299 = g := by rw [r1 _ (by omega), hg]
            obtain ⟨v', s'⟩ := come_ok (σ' := σ1) hV (by omega) hS e5 l5 e3 l3 hp' uw ht hlb (fun a q1 q2 q3 => r1 a q3) (by rw [← h1, u5]; simp -dsimp -implicitDefEqProofs (disch := omega) only [up2_e])
            obtain ⟨τ, z1, z2⟩ := mo_lacksOf (σ := σ1) (p := p) (t := t) g1 hV (by omega) e5 l5 e3 l3 hp' ht
            rw [eL] at z1
            have tg : τ 299 = g := by rw [z2 299 (by omega) (by omega), g1]
            obtain ⟨τ2, w1, w2, w3⟩ := mo_comesTo (σ := τ) tg e5 l5 rv (show p < 24 by omega) pv (nI t) lb (nI 0)
            refine ⟨nI L, σ1, τ2, ?_, ?_, ?_⟩
            · rw [hc]
              by_cases c0 : L = 0
              · have := hL0 c0
                subst this
                subst c0
                rw [nn_m] at h1
                simp -dsimp -implicitDefEqProofs (disch := omega) only [f_Ct_come_33, f_Ct_come_85, f_Ct_come_127, f_Pa_arrive, ↓l_m1, l_0, l_1, l_2, l_3, l_4, l_5, l_6, l_7, l_8, l_9, l_10, l_11, l_12, l_13, l_14, l_15, l_16, l_17, l_20, l_21, l_22, l_23, l_24, l_28, l_29, l_30, l_31, l_32, l_40, l_41, l_48, l_57, l_60, l_62, l_63, l_84, l_96, l_97, l_99, l_100, l_122, l_132, l_144, l_150, l_186, l_255, l_256, l_288, l_300, l_522, l_634, l_999, l_5242, l_5410, l_5420, l_5520, l_5528, l_9999, l_65535, l_65536, l_100000, l_16777215, l_252645135, l_858993459, l_1431655765, ↓reduceIte, Nat.reduceAdd, Nat.reduceMul, Nat.reduceSub, ixN, inbN, leT, leF, ltT, ltF, eqT, eqF, eqM, eqNone, addN, mulN, subN, m1N, ↓to_bnd, bnd_some, ↓to_nmT, nmT_eq, up2_r, up2_e, pk_us, pk_un, b2_t, b2_f, b2_0, b2_1, zB_1, zB_0, zB_b2, not_true_eq_false, not_false_eq_true, r_Mo, Nat.add_zero, Nat.add_sub_cancel, within_R, within_N, in_R, in_N, inN_yes, inR_yes, inR_pred, orNone_nn, nn_m, nn_N, f_Ct_isDay, f_Ct_isThing, f_Ct_isKind, f_Ct_isRoomSeat, f_Ct_isOffice, f_Ct_isTable, f_Ct_isPaper, f_Ct_isRule, f_Ct_isDecision, f_Mo_isOffice, f_Mo_isTable, f_Mo_isPaper, f_Mo_isRule, f_Mo_isDecision, f_Mo_isDay, f_Mo_isThing, f_Mo_paperOf, f_Mo_set, r0, r_s1 bs, r_s2 bs, r_p bs, cl, cd, o8, q5]
                rw [h1]
              · obtain ⟨hn, -, hbt⟩ := hL1 c0
                rw [hbt] at hb
                rw [hn] at h1
                simp -dsimp -implicitDefEqProofs (disch := omega) only [f_Ct_come_33, f_Ct_come_85, f_Ct_come_127, f_Pa_arrive, ↓l_m1, l_0, l_1, l_2, l_3, l_4, l_5, l_6, l_7, l_8, l_9, l_10, l_11, l_12, l_13, l_14, l_15, l_16, l_17, l_20, l_21, l_22, l_23, l_24, l_28, l_29, l_30, l_31, l_32, l_40, l_41, l_48, l_57, l_60, l_62, l_63, l_84, l_96, l_97, l_99, l_100, l_122, l_132, l_144, l_150, l_186, l_255, l_256, l_288, l_300, l_522, l_634, l_999, l_5242, l_5410, l_5420, l_5520, l_5528, l_9999, l_65535, l_65536, l_100000, l_16777215, l_252645135, l_858993459, l_1431655765, ↓reduceIte, Nat.reduceAdd, Nat.reduceMul, Nat.reduceSub, ixN, inbN, leT, leF, ltT, ltF, eqT, eqF, eqM, eqNone, addN, mulN, subN, m1N, ↓to_bnd, bnd_some, ↓to_nmT, nmT_eq, up2_r, up2_e, pk_us, pk_un, b2_t, b2_f, b2_0, b2_1, zB_1, zB_0, zB_b2, not_true_eq_false, not_false_eq_true, r_Mo, Nat.add_zero, Nat.add_sub_cancel, within_R, within_N, in_R, in_N, inN_yes, inR_yes, inR_pred, orNone_nn, nn_m, nn_N, f_Ct_isDay, f_Ct_isThing, f_Ct_isKind, f_Ct_isRoomSeat, f_Ct_isOffice, f_Ct_isTable, f_Ct_isPaper, f_Ct_isRule, f_Ct_isDecision, f_Mo_isOffice, f_Mo_isTable, f_Mo_isPaper, f_Mo_isRule, f_Mo_isDecision, f_Mo_isDay, f_Mo_isThing, f_Mo_paperOf, f_Mo_set, r0, r_s1 bs, r_s2 bs, r_p bs, cl, hb, cd, o8, q5]
                rw [h1]
            · rw [hm σ1 g1]
              by_cases c0 : L = 0
              · have := hL0 c0
                subst this
                subst c0
                simp -dsimp -implicitDefEqProofs (disch := omega) only [f_Mo_come_33, f_Mo_come_70, f_Mo_come_83, ↓l_m1, l_0, l_1, l_2, l_3, l_4, l_5, l_6, l_7, l_8, l_9, l_10, l_11, l_12, l_13, l_14, l_15, l_16, l_17, l_20, l_21, l_22, l_23, l_24, l_28, l_29, l_30, l_31, l_32, l_40, l_41, l_48, l_57, l_60, l_62, l_63, l_84, l_96, l_97, l_99, l_100, l_122, l_132, l_144, l_150, l_186, l_255, l_256, l_288, l_300, l_522, l_634, l_999, l_5242, l_5410, l_5420, l_5520, l_5528, l_9999, l_65535, l_65536, l_100000, l_16777215, l_252645135, l_858993459, l_1431655765, ↓reduceIte, Nat.reduceAdd, Nat.reduceMul, Nat.reduceSub, ixN, inbN, leT, leF, ltT, ltF, eqT, eqF, eqM, eqNone, addN, mulN, subN, m1N, ↓to_bnd, bnd_some, ↓to_nmT, nmT_eq, up2_r, up2_e, pk_us, pk_un, b2_t, b2_f, b2_0, b2_1, zB_1, zB_0, zB_b2, not_true_eq_false, not_false_eq_true, r_Mo, Nat.add_zero, Nat.add_sub_cancel, within_R, within_N, in_R, in_N, inN_yes, inR_yes, inR_pred, orNone_nn, nn_m, nn_N, f_Ct_isDay, f_Ct_isThing, f_Ct_isKind, f_Ct_isRoomSeat, f_Ct_isOffice, f_Ct_isTable, f_Ct_isPaper, f_Ct_isRule, f_Ct_isDecision, f_Mo_isOffice, f_Mo_isTable, f_Mo_isPaper, f_Mo_isRule, f_Mo_isDecision, f_Mo_isDay, f_Mo_isThing, f_Mo_paperOf, f_Mo_set, z1, w1]
              · obtain ⟨-, hn, hbt⟩ := hL1 c0
                subst hn
                have q := hms τ (f_Mo_come_70 298 (nI p) (nI t) lb (nI L) τ) tg
                rw [if_pos hbt] at q
                have q2 : f_Mo_come_33 298 (nI p) (nI t) lb σ1 = f_Mo_come_70 298 (nI p) (nI t) lb (nI L) τ := by
                  rw [f_Mo_come_33, z1, Option.bind_some]
                  dsimp only
                  rw [if_neg (by rw [l_1, eqN (by omega) (by omega)]; omega), if_neg (by rw [l_0, leN (by omega) (by omega)]; omega)]
                  exact q
                rw [q2]
                simp -dsimp -implicitDefEqProofs (disch := omega) only [f_Mo_come_70, f_Mo_come_83, ↓l_m1, l_0, l_1, l_2, l_3, l_4, l_5, l_6, l_7, l_8, l_9, l_10, l_11, l_12, l_13, l_14, l_15, l_16, l_17, l_20, l_21, l_22, l_23, l_24, l_28, l_29, l_30, l_31, l_32, l_40, l_41, l_48, l_57, l_60, l_62, l_63, l_84, l_96, l_97, l_99, l_100, l_122, l_132, l_144, l_150, l_186, l_255, l_256, l_288, l_300, l_522, l_634, l_999, l_5242, l_5410, l_5420, l_5520, l_5528, l_9999, l_65535, l_65536, l_100000, l_16777215, l_252645135, l_858993459, l_1431655765, ↓reduceIte, Nat.reduceAdd, Nat.reduceMul, Nat.reduceSub, ixN, inbN, leT, leF, ltT, ltF, eqT, eqF, eqM, eqNone, addN, mulN, subN, m1N, ↓to_bnd, bnd_some, ↓to_nmT, nmT_eq, up2_r, up2_e, pk_us, pk_un, b2_t, b2_f, b2_0, b2_1, zB_1, zB_0, zB_b2, not_true_eq_false, not_false_eq_true, r_Mo, Nat.add_zero, Nat.add_sub_cancel, within_R, within_N, in_R, in_N, inN_yes, inR_yes, inR_pred, orNone_nn, nn_m, nn_N, f_Ct_isDay, f_Ct_isThing, f_Ct_isKind, f_Ct_isRoomSeat, f_Ct_isOffice, f_Ct_isTable, f_Ct_isPaper, f_Ct_isRule, f_Ct_isDecision, f_Mo_isOffice, f_Mo_isTable, f_Mo_isPaper, f_Mo_isRule, f_Mo_isDecision, f_Mo_isDay, f_Mo_isThing, f_Mo_paperOf, f_Mo_set, w1]
            · refine Inv_mk hs (by rw [w2]; exact v') (by rw [w2]; exact StR_c s' v' (fun a p1 p2 => by rw [w3 a (by omega) (by omega) (by omega), z2 a (by omega) (by omega)])) (ReR_c' hR (fun a q => by rw [w3 a (by omega) (by omega) (by omega), z2 a (by omega) (by omega), r1 a (by omega)]))
          by_cases c0 : L = 0
          · exact comes m1I (Or.inl rfl) (fun _ => rfl) (fun q => absurd c0 q)
          · cases b
            · obtain ⟨τ, z1, z2⟩ := mo_lacksOf (p := p) (t := t) hg hV (by omega) e5 l5 e3 l3 hp' ht
              rw [eL] at z1
              have tg : τ 299 = g := by rw [z2 299 (by omega) (by omega), hg]
              refine ⟨-1000000002, σ, τ, ?_, ?_, Inv_scr hI z2⟩
              · rw [hc]
                simp -dsimp -implicitDefEqProofs (disch := omega) only [f_Ct_come_33, f_Ct_come_82, ↓l_m1, l_0, l_1, l_2, l_3, l_4, l_5, l_6, l_7, l_8, l_9, l_10, l_11, l_12, l_13, l_14, l_15, l_16, l_17, l_20, l_21, l_22, l_23, l_24, l_28, l_29, l_30, l_31, l_32, l_40, l_41, l_48, l_57, l_60, l_62, l_63, l_84, l_96, l_97, l_99, l_100, l_122, l_132, l_144, l_150, l_186, l_255, l_256, l_288, l_300, l_522, l_634, l_999, l_5242, l_5410, l_5420, l_5520, l_5528, l_9999, l_65535, l_65536, l_100000, l_16777215, l_252645135, l_858993459, l_1431655765, ↓reduceIte, Nat.reduceAdd, Nat.reduceMul, Nat.reduceSub, ixN, inbN, leT, leF, ltT, ltF, eqT, eqF, eqM, eqNone, addN, mulN, subN, m1N, ↓to_bnd, bnd_some, ↓to_nmT, nmT_eq, up2_r, up2_e, pk_us, pk_un, b2_t, b2_f, b2_0, b2_1, zB_1, zB_0, zB_b2, not_true_eq_false, not_false_eq_true, r_Mo, Nat.add_zero, Nat.add_sub_cancel, within_R, within_N, in_R, in_N, inN_yes, inR_yes, inR_pred, orNone_nn, nn_m, nn_N, f_Ct_isDay, f_Ct_isThing, f_Ct_isKind, f_Ct_isRoomSeat, f_Ct_isOffice, f_Ct_isTable, f_Ct_isPaper, f_Ct_isRule, f_Ct_isDecision, f_Mo_isOffice, f_Mo_isTable, f_Mo_isPaper, f_Mo_isRule, f_Mo_isDecision, f_Mo_isDay, f_Mo_isThing, f_Mo_paperOf, f_Mo_set, r0, r_s1 bs, r_s2 bs, r_p bs, cl, hb]
              · rw [hm σ hg]
                have q := hms τ (f_Mo_come_70 298 (nI p) (nI t) a3 (nI L) τ) tg
                rw [if_neg (c := false = true) (by decide)] at q
                have q2 : f_Mo_come_33 298 (nI p) (nI t) a3 σ = f_Mo_come_67 τ := by
                  rw [f_Mo_come_33, z1, Option.bind_some]
                  dsimp only
                  rw [if_neg (by rw [l_1, eqN (by omega) (by omega)]; omega), if_neg (by rw [l_0, leN (by omega) (by omega)]; omega)]
                  exact q
                rw [q2]; rfl
            · obtain ⟨o, ho, eo⟩ := hbo rfl
              exact comes (nI o) (Or.inr ⟨o, by omega, rfl⟩) (fun q => absurd q c0) (fun _ => ⟨by rw [nn_N (by omega), eo], eo.symm, rfl⟩)
      by_cases cN : a3 = -1000000005
      · subst cN
        refine go ?_ (fun σ1 g1 => ?_) false ?_ (fun z => by cases z) (fun σ1 F g1 => by rw [if_pos rfl, if_neg (by decide)])
        · simp -dsimp -implicitDefEqProofs (disch := omega) only [f_Ct_come, ↓l_m1, l_0, l_1, l_2, l_3, l_4, l_5, l_6, l_7, l_8, l_9, l_10, l_11, l_12, l_13, l_14, l_15, l_16, l_17, l_20, l_21, l_22, l_23, l_24, l_28, l_29, l_30, l_31, l_32, l_40, l_41, l_48, l_57, l_60, l_62, l_63, l_84, l_96, l_97, l_99, l_100, l_122, l_132, l_144, l_150, l_186, l_255, l_256, l_288, l_300, l_522, l_634, l_999, l_5242, l_5410, l_5420, l_5520, l_5528, l_9999, l_65535, l_65536, l_100000, l_16777215, l_252645135, l_858993459, l_1431655765, ↓reduceIte, Nat.reduceAdd, Nat.reduceMul, Nat.reduceSub, ixN, inbN, leT, leF, ltT, ltF, eqT, eqF, eqM, eqNone, addN, mulN, subN, m1N, ↓to_bnd, bnd_some, ↓to_nmT, nmT_eq, up2_r, up2_e, pk_us, pk_un, b2_t, b2_f, b2_0, b2_1, zB_1, zB_0, zB_b2, not_true_eq_false, not_false_eq_true, r_Mo, Nat.add_zero, Nat.add_sub_cancel, within_R, within_N, in_R, in_N, inN_yes, inR_yes, inR_pred, orNone_nn, nn_m, nn_N, f_Ct_isDay, f_Ct_isThing, f_Ct_isKind, f_Ct_isRoomSeat, f_Ct_isOffice, f_Ct_isTable, f_Ct_isPaper, f_Ct_isRule, f_Ct_isDecision, f_Mo_isOffice, f_Mo_isTable, f_Mo_isPaper, f_Mo_isRule, f_Mo_isDecision, f_Mo_isDay, f_Mo_isThing, f_Mo_paperOf, f_Mo_set, r0, r_s1 bs, o3, o4]
        · simp -dsimp -implicitDefEqProofs (disch := omega) only [f_Mo_come, ↓l_m1, l_0, l_1, l_2, l_3, l_4, l_5, l_6, l_7, l_8, l_9, l_10, l_11, l_12, l_13, l_14, l_15, l_16, l_17, l_20, l_21, l_22, l_23, l_24, l_28, l_29, l_30, l_31, l_32, l_40, l_41, l_48, l_57, l_60, l_62, l_63, l_84, l_96, l_97, l_99, l_100, l_122, l_132, l_144, l_150, l_186, l_255, l_256, l_288, l_300, l_522, l_634, l_999, l_5242, l_5410, l_5420, l_5520, l_5528, l_9999, l_65535, l_65536, l_100000, l_16777215, l_252645135, l_858993459, l_1431655765, ↓reduceIte, Nat.reduceAdd, Nat.reduceMul, Nat.reduceSub, ixN, inbN, leT, leF, ltT, ltF, eqT, eqF, eqM, eqNone, addN, mulN, subN, m1N, ↓to_bnd, bnd_some, ↓to_nmT, nmT_eq, up2_r, up2_e, pk_us, pk_un, b2_t, b2_f, b2_0, b2_1, zB_1, zB_0, zB_b2, not_true_eq_false, not_false_eq_true, r_Mo, Nat.add_zero, Nat.add_sub_cancel, within_R, within_N, in_R, in_N, inN_yes, inR_yes, inR_pred, orNone_nn, nn_m, nn_N, f_Ct_isDay, f_Ct_isThing, f_Ct_isKind, f_Ct_isRoomSeat, f_Ct_isOffice, f_Ct_isTable, f_Ct_isPaper, f_Ct_isRule, f_Ct_isDecision, f_Mo_isOffice, f_Mo_isTable, f_Mo_isPaper, f_Mo_isRule, f_Mo_isDecision, f_Mo_isDay, f_Mo_isThing, f_Mo_paperOf, f_Mo_set, g1, e3, e4]
        · simp -dsimp -implicitDefEqProofs (disch := omega) only [f_Tb_hasSeat_28, f_Tb_hasSeat_27, f_Tb_hasSeat, ↓l_m1, l_0, l_1, l_2, l_3, l_4, l_5, l_6, l_7, l_8, l_9, l_10, l_11, l_12, l_13, l_14, l_15, l_16, l_17, l_20, l_21, l_22, l_23, l_24, l_28, l_29, l_30, l_31, l_32, l_40, l_41, l_48, l_57, l_60, l_62, l_63, l_84, l_96, l_97, l_99, l_100, l_122, l_132, l_144, l_150, l_186, l_255, l_256, l_288, l_300, l_522, l_634, l_999, l_5242, l_5410, l_5420, l_5520, l_5528, l_9999, l_65535, l_65536, l_100000, l_16777215, l_252645135, l_858993459, l_1431655765, ↓reduceIte, Nat.reduceAdd, Nat.reduceMul, Nat.reduceSub, ixN, inbN, leT, leF, ltT, ltF, eqT, eqF, eqM, eqNone, addN, mulN, subN, m1N, ↓to_bnd, bnd_some, ↓to_nmT, nmT_eq, up2_r, up2_e, pk_us, pk_un, b2_t, b2_f, b2_0, b2_1, zB_1, zB_0, zB_b2, not_true_eq_false, not_false_eq_true, r_Mo, Nat.add_zero, Nat.add_sub_cancel, within_R, within_N, in_R, in_N, inN_yes, inR_yes, inR_pred, orNone_nn, nn_m, nn_N, f_Ct_isDay, f_Ct_isThing, f_Ct_isKind, f_Ct_isRoomSeat, f_Ct_isOffice, f_Ct_isTable, f_Ct_isPaper, f_Ct_isRule, f_Ct_isDecision, f_Mo_isOffice, f_Mo_isTable, f_Mo_isPaper, f_Mo_isRule, f_Mo_isDecision, f_Mo_isDay, f_Mo_isThing, f_Mo_paperOf, f_Mo_set, show inR (-1000000005) 0 7 = false by decide]
      · rcases inN_cases a3 nO (by omega) with ⟨o, ho, rfl⟩ | c3
        · refine go ?_ (fun σ1 g1 => ?_) (btI (g (132 + 3 * t)) o) (c_hasSeat bs e3 l3 hS.2.2.1 ht (by omega)) (fun _ => ⟨o, by omega, rfl⟩) (fun σ1 F g1 => ?_)
          · simp -dsimp -implicitDefEqProofs (disch := omega) only [f_Ct_come, ↓l_m1, l_0, l_1, l_2, l_3, l_4, l_5, l_6, l_7, l_8, l_9, l_10, l_11, l_12, l_13, l_14, l_15, l_16, l_17, l_20, l_21, l_22, l_23, l_24, l_28, l_29, l_30, l_31, l_32, l_40, l_41, l_48, l_57, l_60, l_62, l_63, l_84, l_96, l_97, l_99, l_100, l_122, l_132, l_144, l_150, l_186, l_255, l_256, l_288, l_300, l_522, l_634, l_999, l_5242, l_5410, l_5420, l_5520, l_5528, l_9999, l_65535, l_65536, l_100000, l_16777215, l_252645135, l_858993459, l_1431655765, ↓reduceIte, Nat.reduceAdd, Nat.reduceMul, Nat.reduceSub, ixN, inbN, leT, leF, ltT, ltF, eqT, eqF, eqM, eqNone, addN, mulN, subN, m1N, ↓to_bnd, bnd_some, ↓to_nmT, nmT_eq, up2_r, up2_e, pk_us, pk_un, b2_t, b2_f, b2_0, b2_1, zB_1, zB_0, zB_b2, not_true_eq_false, not_false_eq_true, r_Mo, Nat.add_zero, Nat.add_sub_cancel, within_R, within_N, in_R, in_N, inN_yes, inR_yes, inR_pred, orNone_nn, nn_m, nn_N, f_Ct_isDay, f_Ct_isThing, f_Ct_isKind, f_Ct_isRoomSeat, f_Ct_isOffice, f_Ct_isTable, f_Ct_isPaper, f_Ct_isRule, f_Ct_isDecision, f_Mo_isOffice, f_Mo_isTable, f_Mo_isPaper, f_Mo_isRule, f_Mo_isDecision, f_Mo_isDay, f_Mo_isThing, f_Mo_paperOf, f_Mo_set, r0, r_s0 bs, r_s1 bs, o2, o3, o4]
          · simp -dsimp -implicitDefEqProofs (disch := omega) only [f_Mo_come, ↓l_m1, l_0, l_1, l_2, l_3, l_4, l_5, l_6, l_7, l_8, l_9, l_10, l_11, l_12, l_13, l_14, l_15, l_16, l_17, l_20, l_21, l_22, l_23, l_24, l_28, l_29, l_30, l_31, l_32, l_40, l_41, l_48, l_57, l_60, l_62, l_63, l_84, l_96, l_97, l_99, l_100, l_122, l_132, l_144, l_150, l_186, l_255, l_256, l_288, l_300, l_522, l_634, l_999, l_5242, l_5410, l_5420, l_5520, l_5528, l_9999, l_65535, l_65536, l_100000, l_16777215, l_252645135, l_858993459, l_1431655765, ↓reduceIte, Nat.reduceAdd, Nat.reduceMul, Nat.reduceSub, ixN, inbN, leT, leF, ltT, ltF, eqT, eqF, eqM, eqNone, addN, mulN, subN, m1N, ↓to_bnd, bnd_some, ↓to_nmT, nmT_eq, up2_r, up2_e, pk_us, pk_un, b2_t, b2_f, b2_0, b2_1, zB_1, zB_0, zB_b2, not_true_eq_false, not_false_eq_true, r_Mo, Nat.add_zero, Nat.add_sub_cancel, within_R, within_N, in_R, in_N, inN_yes, inR_yes, inR_pred, orNone_nn, nn_m, nn_N, f_Ct_isDay, f_Ct_isThing, f_Ct_isKind, f_Ct_isRoomSeat, f_Ct_isOffice, f_Ct_isTable, f_Ct_isPaper, f_Ct_isRule, f_Ct_isDecision, f_Mo_isOffice, f_Mo_isTable, f_Mo_isPaper, f_Mo_isRule, f_Mo_isDecision, f_Mo_isDay, f_Mo_isThing, f_Mo_paperOf, f_Mo_set, g1, e2, e3, e4]
          · have q := mo_hasSeat (σ := σ1) (show t < 6 by omega) (show o < 8 by omega)
            rw [g1] at q
            rw [if_neg cN, q, Option.bind_some]
            cases c : btI (g (132 + 3 * t)) o
            · rw [if_neg (by decide), if_neg (by decide)]
            · rw [if_pos (by decide), if_pos rfl]
        · refine ⟨-1000000001, σ, σ, ?_, ?_, hI⟩
          · simp -dsimp -implicitDefEqProofs (disch := omega) only [f_Ct_come, f_Ct_come_30, ↓l_m1, l_0, l_1, l_2, l_3, l_4, l_5, l_6, l_7, l_8, l_9, l_10, l_11, l_12, l_13, l_14, l_15, l_16, l_17, l_20, l_21, l_22, l_23, l_24, l_28, l_29, l_30, l_31, l_32, l_40, l_41, l_48, l_57, l_60, l_62, l_63, l_84, l_96, l_97, l_99, l_100, l_122, l_132, l_144, l_150, l_186, l_255, l_256, l_288, l_300, l_522, l_634, l_999, l_5242, l_5410, l_5420, l_5520, l_5528, l_9999, l_65535, l_65536, l_100000, l_16777215, l_252645135, l_858993459, l_1431655765, ↓reduceIte, Nat.reduceAdd, Nat.reduceMul, Nat.reduceSub, ixN, inbN, leT, leF, ltT, ltF, eqT, eqF, eqM, eqNone, addN, mulN, subN, m1N, ↓to_bnd, bnd_some, ↓to_nmT, nmT_eq, up2_r, up2_e, pk_us, pk_un, b2_t, b2_f, b2_0, b2_1, zB_1, zB_0, zB_b2, not_true_eq_false, not_false_eq_true, r_Mo, Nat.add_zero, Nat.add_sub_cancel, within_R, within_N, in_R, in_N, inN_yes, inR_yes, inR_pred, orNone_nn, nn_m, nn_N, f_Ct_isDay, f_Ct_isThing, f_Ct_isKind, f_Ct_isRoomSeat, f_Ct_isOffice, f_Ct_isTable, f_Ct_isPaper, f_Ct_isRule, f_Ct_isDecision, f_Mo_isOffice, f_Mo_isTable, f_Mo_isPaper, f_Mo_isRule, f_Mo_isDecision, f_Mo_isDay, f_Mo_isThing, f_Mo_paperOf, f_Mo_set, r0, r_s0 bs, r_s1 bs, o2, o3, o4, cN, c3]
          · simp -dsimp -implicitDefEqProofs (disch := omega) only [f_Mo_come, f_Mo_come_30, ↓l_m1, l_0, l_1, l_2, l_3, l_4, l_5, l_6, l_7, l_8, l_9, l_10, l_11, l_12, l_13, l_14, l_15, l_16, l_17, l_20, l_21, l_22, l_23, l_24, l_28, l_29, l_30, l_31, l_32, l_40, l_41, l_48, l_57, l_60, l_62, l_63, l_84, l_96, l_97, l_99, l_100, l_122, l_132, l_144, l_150, l_186, l_255, l_256, l_288, l_300, l_522, l_634, l_999, l_5242, l_5410, l_5420, l_5520, l_5528, l_9999, l_65535, l_65536, l_100000, l_16777215, l_252645135, l_858993459, l_1431655765, ↓reduceIte, Nat.reduceAdd, Nat.reduceMul, Nat.reduceSub, ixN, inbN, leT, leF, ltT, ltF, eqT, eqF, eqM, eqNone, addN, mulN, subN, m1N, ↓to_bnd, bnd_some, ↓to_nmT, nmT_eq, up2_r, up2_e, pk_us, pk_un, b2_t, b2_f, b2_0, b2_1, zB_1, zB_0, zB_b2, not_true_eq_false, not_false_eq_true, r_Mo, Nat.add_zero, Nat.add_sub_cancel, within_R, within_N, in_R, in_N, inN_yes, inR_yes, inR_pred, orNone_nn, nn_m, nn_N, f_Ct_isDay, f_Ct_isThing, f_Ct_isKind, f_Ct_isRoomSeat, f_Ct_isOffice, f_Ct_isTable, f_Ct_isPaper, f_Ct_isRule, f_Ct_isDecision, f_Mo_isOffice, f_Mo_isTable, f_Mo_isPaper, f_Mo_isRule, f_Mo_isDecision, f_Mo_isDay, f_Mo_isThing, f_Mo_paperOf, f_Mo_set, hg, e2, e3, e4, cN, c3]
    · refine ⟨-1000000001, σ, σ, ?_, ?_, hI⟩
      · simp -dsimp -implicitDefEqProofs (disch := omega) only [f_Ct_come, f_Ct_come_30, ↓l_m1, l_0, l_1, l_2, l_3, l_4, l_5, l_6, l_7, l_8, l_9, l_10, l_11, l_12, l_13, l_14, l_15, l_16, l_17, l_20, l_21, l_22, l_23, l_24, l_28, l_29, l_30, l_31, l_32, l_40, l_41, l_48, l_57, l_60, l_62, l_63, l_84, l_96, l_97, l_99, l_100, l_122, l_132, l_144, l_150, l_186, l_255, l_256, l_288, l_300, l_522, l_634, l_999, l_5242, l_5410, l_5420, l_5520, l_5528, l_9999, l_65535, l_65536, l_100000, l_16777215, l_252645135, l_858993459, l_1431655765, ↓reduceIte, Nat.reduceAdd, Nat.reduceMul, Nat.reduceSub, ixN, inbN, leT, leF, ltT, ltF, eqT, eqF, eqM, eqNone, addN, mulN, subN, m1N, ↓to_bnd, bnd_some, ↓to_nmT, nmT_eq, up2_r, up2_e, pk_us, pk_un, b2_t, b2_f, b2_0, b2_1, zB_1, zB_0, zB_b2, not_true_eq_false, not_false_eq_true, r_Mo, Nat.add_zero, Nat.add_sub_cancel, within_R, within_N, in_R, in_N, inN_yes, inR_yes, inR_pred, orNone_nn, nn_m, nn_N, f_Ct_isDay, f_Ct_isThing, f_Ct_isKind, f_Ct_isRoomSeat, f_Ct_isOffice, f_Ct_isTable, f_Ct_isPaper, f_Ct_isRule, f_Ct_isDecision, f_Mo_isOffice, f_Mo_isTable, f_Mo_isPaper, f_Mo_isRule, f_Mo_isDecision, f_Mo_isDay, f_Mo_isThing, f_Mo_paperOf, f_Mo_set, r0, r_s1 bs, o3, o4, c2]
      · simp -dsimp -implicitDefEqProofs (disch := omega) only [f_Mo_come, f_Mo_come_30, ↓l_m1, l_0, l_1, l_2, l_3, l_4, l_5, l_6, l_7, l_8, l_9, l_10, l_11, l_12, l_13, l_14, l_15, l_16, l_17, l_20, l_21, l_22, l_23, l_24, l_28, l_29, l_30, l_31, l_32, l_40, l_41, l_48, l_57, l_60, l_62, l_63, l_84, l_96, l_97, l_99, l_100, l_122, l_132, l_144, l_150, l_186, l_255, l_256, l_288, l_300, l_522, l_634, l_999, l_5242, l_5410, l_5420, l_5520, l_5528, l_9999, l_65535, l_65536, l_100000, l_16777215, l_252645135, l_858993459, l_1431655765, ↓reduceIte, Nat.reduceAdd, Nat.reduceMul, Nat.reduceSub, ixN, inbN, leT, leF, ltT, ltF, eqT, eqF, eqM, eqNone, addN, mulN, subN, m1N, ↓to_bnd, bnd_some, ↓to_nmT, nmT_eq, up2_r, up2_e, pk_us, pk_un, b2_t, b2_f, b2_0, b2_1, zB_1, zB_0, zB_b2, not_true_eq_false, not_false_eq_true, r_Mo, Nat.add_zero, Nat.add_sub_cancel, within_R, within_N, in_R, in_N, inN_yes, inR_yes, inR_pred, orNone_nn, nn_m, nn_N, f_Ct_isDay, f_Ct_isThing, f_Ct_isKind, f_Ct_isRoomSeat, f_Ct_isOffice, f_Ct_isTable, f_Ct_isPaper, f_Ct_isRule, f_Ct_isDecision, f_Mo_isOffice, f_Mo_isTable, f_Mo_isPaper, f_Mo_isRule, f_Mo_isDecision, f_Mo_isDay, f_Mo_isThing, f_Mo_paperOf, f_Mo_set, hg, e3, e4, c2]
  · refine ⟨-1000000001, σ, σ, ?_, ?_, hI⟩
    · simp -dsimp -implicitDefEqProofs (disch := omega) only [f_Ct_come, f_Ct_come_30, ↓l_m1, l_0, l_1, l_2, l_3, l_4, l_5, l_6, l_7, l_8, l_9, l_10, l_11, l_12, l_13, l_14, l_15, l_16, l_17, l_20, l_21, l_22, l_23, l_24, l_28, l_29, l_30, l_31, l_32, l_40, l_41, l_48, l_57, l_60, l_62, l_63, l_84, l_96, l_97, l_99, l_100, l_122, l_132, l_144, l_150, l_186, l_255, l_256, l_288, l_300, l_522, l_634, l_999, l_5242, l_5410, l_5420, l_5520, l_5528, l_9999, l_65535, l_65536, l_100000, l_16777215, l_252645135, l_858993459, l_1431655765, ↓reduceIte, Nat.reduceAdd, Nat.reduceMul, Nat.reduceSub, ixN, inbN, leT, leF, ltT, ltF, eqT, eqF, eqM, eqNone, addN, mulN, subN, m1N, ↓to_bnd, bnd_some, ↓to_nmT, nmT_eq, up2_r, up2_e, pk_us, pk_un, b2_t, b2_f, b2_0, b2_1, zB_1, zB_0, zB_b2, not_true_eq_false, not_false_eq_true, r_Mo, Nat.add_zero, Nat.add_sub_cancel, within_R, within_N, in_R, in_N, inN_yes, inR_yes, inR_pred, orNone_nn, nn_m, nn_N, f_Ct_isDay, f_Ct_isThing, f_Ct_isKind, f_Ct_isRoomSeat, f_Ct_isOffice, f_Ct_isTable, f_Ct_isPaper, f_Ct_isRule, f_Ct_isDecision, f_Mo_isOffice, f_Mo_isTable, f_Mo_isPaper, f_Mo_isRule, f_Mo_isDecision, f_Mo_isDay, f_Mo_isThing, f_Mo_paperOf, f_Mo_set, r0, o4, c1]
    · simp -dsimp -implicitDefEqProofs (disch := omega) only [f_Mo_come, f_Mo_come_30, ↓l_m1, l_0, l_1, l_2, l_3, l_4, l_5, l_6, l_7, l_8, l_9, l_10, l_11, l_12, l_13, l_14, l_15, l_16, l_17, l_20, l_21, l_22, l_23, l_24, l_28, l_29, l_30, l_31, l_32, l_40, l_41, l_48, l_57, l_60, l_62, l_63, l_84, l_96, l_97, l_99, l_100, l_122, l_132, l_144, l_150, l_186, l_255, l_256, l_288, l_300, l_522, l_634, l_999, l_5242, l_5410, l_5420, l_5520, l_5528, l_9999, l_65535, l_65536, l_100000, l_16777215, l_252645135, l_858993459, l_1431655765, ↓reduceIte, Nat.reduceAdd, Nat.reduceMul, Nat.reduceSub, ixN, inbN, leT, leF, ltT, ltF, eqT, eqF, eqM, eqNone, addN, mulN, subN, m1N, ↓to_bnd, bnd_some, ↓to_nmT, nmT_eq, up2_r, up2_e, pk_us, pk_un, b2_t, b2_f, b2_0, b2_1, zB_1, zB_0, zB_b2, not_true_eq_false, not_false_eq_true, r_Mo, Nat.add_zero, Nat.add_sub_cancel, within_R, within_N, in_R, in_N, inN_yes, inR_yes, inR_pred, orNone_nn, nn_m, nn_N, f_Ct_isDay, f_Ct_isThing, f_Ct_isKind, f_Ct_isRoomSeat, f_Ct_isOffice, f_Ct_isTable, f_Ct_isPaper, f_Ct_isRule, f_Ct_isDecision, f_Mo_isOffice, f_Mo_isTable, f_Mo_isPaper, f_Mo_isRule, f_Mo_isDecision, f_Mo_isDay, f_Mo_isThing, f_Mo_paperOf, f_Mo_set, hg, e4, c1]
