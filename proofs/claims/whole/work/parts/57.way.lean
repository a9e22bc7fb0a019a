/-! ways -/
def fsG (g : Nat → Int32) (i D : Nat) : Nat := fsN (ix (g (132 + 3 * i + 2))) (ix (g (132 + 3 * i + 1))) D
def psB (g : Nat → Int32) (t u : Nat) : Bool := decide (g (150 + 6 * t + u) = nI 1)
def upN (p : Nat → Nat) (i v : Nat) : Nat → Nat := fun j => if j = i then v else p j
theorem upN_e (p : Nat → Nat) (i v : Nat) : upN p i v i = v := if_pos rfl
theorem upN_r {p : Nat → Nat} {i v j : Nat} (h : j ≠ i) : upN p i v j = p j := if_neg h
def betB (d l : Nat) (b : Nat × Nat × (Nat → Nat)) : Bool := decide (b.1 = 0) || decide (d < b.2.1) || (decide (d = b.2.1) && decide (l < b.1))
def bet (p : Nat → Nat) (d l : Nat) (b : Nat × Nat × (Nat → Nat)) : Nat × Nat × (Nat → Nat) := if betB d l b = true then (l, d, p) else b
def onW (p : Nat → Nat) (i : Nat) : Nat → Bool
  | 0 => false
  | q + 1 => onW p i q || decide (p q = i)
theorem onW_up {p : Nat → Nat} {i L v : Nat} : ∀ q, q ≤ L → onW (upN p L v) i q = onW p i q
  | 0, _ => rfl
  | q + 1, h => by rw [onW, onW, onW_up q (by omega), upN_r (by omega)]
def lpF (r : Nat → Nat × Nat × (Nat → Nat) → Nat × Nat × (Nat → Nat)) (ok : Nat → Bool) : Nat → Nat → Nat × Nat × (Nat → Nat) → Nat × Nat × (Nat → Nat)
  | 0, _, b => b
  | m + 1, i, b => lpF r ok m (i + 1) (if ok i = true then r i b else b)
def okB (g : Nat → Int32) (p : Nat → Nat) (L t i : Nat) : Bool := !onW p i L && psB g t i
def wyF (g : Nat → Int32) (nT goal n : Nat) : Nat → (Nat → Nat) → Nat → Nat → Nat → Nat × Nat × (Nat → Nat) → Nat × Nat × (Nat → Nat)
  | 0, _, _, _, _, b => b
  | k + 1, p, dp, t, day, b => if t = goal then bet (upN p dp t) day (dp + 1) b else lpF (fun i b => wyF g nT goal n k (upN p dp t) (dp + 1) i (fsG g i (day + n)) b) (okB g (upN p dp t) (dp + 1) t) nT 0 b
theorem fsG_le {g : Nat → Int32} {t D M : Nat} (v : TV g t) (hM : D + 30 ≤ M) : fsG g t D ≤ M := by
  obtain ⟨⟨p, p1, p2, ep⟩, ⟨o, o1, eo⟩, -⟩ := v
  unfold fsG
  rw [ep, eo, ixN (by omega), ixN (by omega)]
  exact fsN_lt (by omega) o1 p2 hM
theorem fsN_step {o p D : Nat} (hp : 0 < p) (h : sitsN o p D = false) : fsN o p (D + 1) = fsN o p D := by
  by_cases c : D < o
  · unfold fsN
    rw [if_pos (by omega), if_pos (by omega)]
  · have c2 : ¬ (D - o) % p = 0 := fun q => by rw [sitsN_t (by omega) q] at h; cases h
    have c3 : ¬ D ≤ o := by
      intro q
      apply c2
      rw [show D - o = 0 by omega, Nat.zero_mod]
    have hm : (D - o) % p < p := Nat.mod_lt _ hp
    have h1 : 1 % p = 1 := Nat.mod_eq_of_lt (by omega)
    have e : (D + 1 - o) % p = ((D - o) % p + 1) % p := by
      rw [show D + 1 - o = (D - o) + 1 by omega, Nat.add_mod, h1]
    unfold fsN
    rw [if_neg (by omega), if_neg c3, if_neg c2, e]
    by_cases c4 : (D - o) % p + 1 = p
    · rw [c4, Nat.mod_self, if_pos rfl]; omega
    · rw [Nat.mod_eq_of_lt (by omega), if_neg (by omega)]; omega
/-! on the class's side -/
def CB (σ : Mm) (b : Nat × Nat × (Nat → Nat)) : Prop := b.1 ≤ 6 ∧ b.2.1 < 100000 ∧ σ 253 2 = nI b.1 ∧ (b.1 ≠ 0 → σ 253 3 = nI b.2.1) ∧ ∀ i, i < b.1 → σ 255 i = nI (b.2.2 i)
def Fr3 (σ σ' : Mm) (dp : Nat) : Prop := (∀ a, a ≠ 253 → a ≠ 254 → a ≠ 255 → σ' a = σ a) ∧ σ' 253 4 = σ 253 4 ∧ σ' 253 5 = σ 253 5 ∧ ∀ i, i < dp → σ' 254 i = σ 254 i
theorem Fr3_tr {σ σ1 σ2 : Mm} {d d1 : Nat} (h1 : Fr3 σ σ1 d) (h2 : Fr3 σ1 σ2 d1) (h : d ≤ d1) : Fr3 σ σ2 d :=
  ⟨fun a p q r => by rw [h2.1 a p q r, h1.1 a p q r], by rw [h2.2.1, h1.2.1], by rw [h2.2.2.1, h1.2.2.1], fun i hi => by rw [h2.2.2.2 i (by omega), h1.2.2.2 i hi]⟩
theorem c_rem {σ : Mm} {p : Nat → Nat} {d l : Nat} {b : Nat × Nat × (Nat → Nat)} (hb : CB σ b) (hl : l ≤ 6) (hd : d < 100000) (hp : ∀ i, i < l → σ 254 i = nI (p i)) : ∃ σ', f_Wf_rememberIfBetter 253 (nI d) (nI l) σ = some σ' ∧ CB σ' (bet p d l b) ∧ Fr3 σ σ' 7 := by
  obtain ⟨b1, b2, b3⟩ := b
  obtain ⟨w1, w2, w3, w4, w5⟩ := hb
  dsimp only at w1 w2 w3 w4 w5
  have cp : cpB (nI 0) (nI 0) (nI l) 6 6 = true := by
    unfold cpB
    rw [decide_eq_true_eq, ixN (by omega), ixN (by omega)]
    exact ⟨nI_pos (by omega), nI_pos (by omega), nI_pos (by omega), by omega, by omega⟩
  have yes : CB (up2 (up2 (cp2 σ 254 0 255 0 l) 253 2 (nI l)) 253 3 (nI d)) (l, d, p) ∧ Fr3 σ (up2 (up2 (cp2 σ 254 0 255 0 l) 253 2 (nI l)) 253 3 (nI d)) 7 := by
    refine ⟨⟨hl, hd, ?_, fun _ => ?_, fun i hi => ?_⟩, fun a q1 q2 q3 => ?_, ?_, ?_, fun i hi => ?_⟩
    · simp -dsimp -implicitDefEqProofs (disch := omega) only [up2_e, pk_us, pk_un]
    · simp -dsimp -implicitDefEqProofs (disch := omega) only [up2_e, pk_us, pk_un]
    · simp -dsimp -implicitDefEqProofs (disch := omega) only [up2_r, cp2_e]
      rw [cpy0 hi]; exact hp i hi
    · simp -dsimp -implicitDefEqProofs (disch := omega) only [up2_r, cp2_r]
    · simp -dsimp -implicitDefEqProofs (disch := omega) only [up2_e, pk_un, cp2_r]
    · simp -dsimp -implicitDefEqProofs (disch := omega) only [up2_e, pk_un, cp2_r]
    · simp -dsimp -implicitDefEqProofs (disch := omega) only [up2_r, cp2_r]
  have no : CB σ (b1, b2, b3) ∧ Fr3 σ σ 7 := ⟨⟨w1, w2, w3, w4, w5⟩, fun _ _ _ _ => rfl, rfl, rfl, fun _ _ => rfl⟩
  have eT : betB d l (b1, b2, b3) = true → bet p d l (b1, b2, b3) = (l, d, p) := fun h => by unfold bet; rw [if_pos h]
  have eF : betB d l (b1, b2, b3) = false → bet p d l (b1, b2, b3) = (b1, b2, b3) := fun h => by unfold bet; rw [if_neg (by rw [h]; decide)]
  by_cases c0 : b1 = 0
  · subst c0
    refine ⟨_, ?_, by rw [eT (by unfold betB; rw [decide_eq_true rfl]; rfl)]; exact yes⟩
    simp -dsimp -implicitDefEqProofs (disch := omega) only [f_Wf_rememberIfBetter, f_Wf_rememberIfBetter_31, f_Wf_rememberIfBetter_36, f_Wf_rememberIfBetter_65, ↓l_m1, l_0, l_1, l_2, l_3, l_4, l_5, l_6, l_7, l_8, l_9, l_10, l_11, l_12, l_13, l_14, l_15, l_16, l_17, l_20, l_21, l_22, l_23, l_24, l_28, l_29, l_30, l_31, l_32, l_40, l_41, l_48, l_57, l_60, l_62, l_63, l_84, l_96, l_97, l_99, l_100, l_122, l_132, l_144, l_150, l_186, l_255, l_256, l_288, l_300, l_522, l_634, l_999, l_5242, l_5410, l_5420, l_5520, l_5528, l_9999, l_65535, l_65536, l_100000, l_16777215, l_252645135, l_858993459, l_1431655765, ↓reduceIte, Nat.reduceAdd, Nat.reduceMul, Nat.reduceSub, ixN, inbN, leT, leF, ltT, ltF, eqT, eqF, eqM, eqNone, addN, mulN, subN, m1N, ↓to_bnd, bnd_some, ↓to_nmT, nmT_eq, up2_r, up2_e, pk_us, pk_un, b2_t, b2_f, b2_0, b2_1, zB_1, zB_0, zB_b2, not_true_eq_false, not_false_eq_true, r_Mo, Nat.add_zero, Nat.add_sub_cancel, within_R, within_N, in_R, in_N, inN_yes, inR_yes, inR_pred, orNone_nn, nn_m, nn_N, f_Ct_isDay, f_Ct_isThing, f_Ct_isKind, f_Ct_isRoomSeat, f_Ct_isOffice, f_Ct_isTable, f_Ct_isPaper, f_Ct_isRule, f_Ct_isDecision, f_Mo_isOffice, f_Mo_isTable, f_Mo_isPaper, f_Mo_isRule, f_Mo_isDecision, f_Mo_isDay, f_Mo_isThing, f_Mo_paperOf, f_Mo_set, w3, cp, rw_0, rw_1]
  · have w4' := w4 c0
    by_cases c1 : d < b2
    · refine ⟨_, ?_, by rw [eT (by unfold betB; rw [decide_eq_true (p := d < b2) c1, Bool.or_true]; rfl)]; exact yes⟩
      simp -dsimp -implicitDefEqProofs (disch := omega) only [f_Wf_rememberIfBetter, f_Wf_rememberIfBetter_31, f_Wf_rememberIfBetter_36, f_Wf_rememberIfBetter_65, ↓l_m1, l_0, l_1, l_2, l_3, l_4, l_5, l_6, l_7, l_8, l_9, l_10, l_11, l_12, l_13, l_14, l_15, l_16, l_17, l_20, l_21, l_22, l_23, l_24, l_28, l_29, l_30, l_31, l_32, l_40, l_41, l_48, l_57, l_60, l_62, l_63, l_84, l_96, l_97, l_99, l_100, l_122, l_132, l_144, l_150, l_186, l_255, l_256, l_288, l_300, l_522, l_634, l_999, l_5242, l_5410, l_5420, l_5520, l_5528, l_9999, l_65535, l_65536, l_100000, l_16777215, l_252645135, l_858993459, l_1431655765, ↓reduceIte, Nat.reduceAdd, Nat.reduceMul, Nat.reduceSub, ixN, inbN, leT, leF, ltT, ltF, eqT, eqF, eqM, eqNone, addN, mulN, subN, m1N, ↓to_bnd, bnd_some, ↓to_nmT, nmT_eq, up2_r, up2_e, pk_us, pk_un, b2_t, b2_f, b2_0, b2_1, zB_1, zB_0, zB_b2, not_true_eq_false, not_false_eq_true, r_Mo, Nat.add_zero, Nat.add_sub_cancel, within_R, within_N, in_R, in_N, inN_yes, inR_yes, inR_pred, orNone_nn, nn_m, nn_N, f_Ct_isDay, f_Ct_isThing, f_Ct_isKind, f_Ct_isRoomSeat, f_Ct_isOffice, f_Ct_isTable, f_Ct_isPaper, f_Ct_isRule, f_Ct_isDecision, f_Mo_isOffice, f_Mo_isTable, f_Mo_isPaper, f_Mo_isRule, f_Mo_isDecision, f_Mo_isDay, f_Mo_isThing, f_Mo_paperOf, f_Mo_set, w3, w4', cp, rw_0, rw_1]
    · by_cases c2 : d = b2
      · by_cases c3 : l < b1
        · refine ⟨_, ?_, by rw [eT (by unfold betB; rw [decide_eq_true (p := d = b2) c2, decide_eq_true (p := l < b1) c3, Bool.and_true, Bool.or_true])]; exact yes⟩
          simp -dsimp -implicitDefEqProofs (disch := omega) only [f_Wf_rememberIfBetter, f_Wf_rememberIfBetter_31, f_Wf_rememberIfBetter_36, f_Wf_rememberIfBetter_65, ↓l_m1, l_0, l_1, l_2, l_3, l_4, l_5, l_6, l_7, l_8, l_9, l_10, l_11, l_12, l_13, l_14, l_15, l_16, l_17, l_20, l_21, l_22, l_23, l_24, l_28, l_29, l_30, l_31, l_32, l_40, l_41, l_48, l_57, l_60, l_62, l_63, l_84, l_96, l_97, l_99, l_100, l_122, l_132, l_144, l_150, l_186, l_255, l_256, l_288, l_300, l_522, l_634, l_999, l_5242, l_5410, l_5420, l_5520, l_5528, l_9999, l_65535, l_65536, l_100000, l_16777215, l_252645135, l_858993459, l_1431655765, ↓reduceIte, Nat.reduceAdd, Nat.reduceMul, Nat.reduceSub, ixN, inbN, leT, leF, ltT, ltF, eqT, eqF, eqM, eqNone, addN, mulN, subN, m1N, ↓to_bnd, bnd_some, ↓to_nmT, nmT_eq, up2_r, up2_e, pk_us, pk_un, b2_t, b2_f, b2_0, b2_1, zB_1, zB_0, zB_b2, not_true_eq_false, not_false_eq_true, r_Mo, Nat.add_zero, Nat.add_sub_cancel, within_R, within_N, in_R, in_N, inN_yes, inR_yes, inR_pred, orNone_nn, nn_m, nn_N, f_Ct_isDay, f_Ct_isThing, f_Ct_isKind, f_Ct_isRoomSeat, f_Ct_isOffice, f_Ct_isTable, f_Ct_isPaper, f_Ct_isRule, f_Ct_isDecision, f_Mo_isOffice, f_Mo_isTable, f_Mo_isPaper, f_Mo_isRule, f_Mo_isDecision, f_Mo_isDay, f_Mo_isThing, f_Mo_paperOf, f_Mo_set, w3, w4', cp, rw_0, rw_1]
        · refine ⟨σ, ?_, by rw [eF (by unfold betB; rw [decide_eq_false (p := b1 = 0) c0, decide_eq_false (p := d < b2) c1, decide_eq_false (p := l < b1) c3, Bool.and_false]; rfl)]; exact no⟩
          simp -dsimp -implicitDefEqProofs (disch := omega) only [f_Wf_rememberIfBetter, f_Wf_rememberIfBetter_35, f_Wf_rememberIfBetter_36, f_Wf_rememberIfBetter_65, ↓l_m1, l_0, l_1, l_2, l_3, l_4, l_5, l_6, l_7, l_8, l_9, l_10, l_11, l_12, l_13, l_14, l_15, l_16, l_17, l_20, l_21, l_22, l_23, l_24, l_28, l_29, l_30, l_31, l_32, l_40, l_41, l_48, l_57, l_60, l_62, l_63, l_84, l_96, l_97, l_99, l_100, l_122, l_132, l_144, l_150, l_186, l_255, l_256, l_288, l_300, l_522, l_634, l_999, l_5242, l_5410, l_5420, l_5520, l_5528, l_9999, l_65535, l_65536, l_100000, l_16777215, l_252645135, l_858993459, l_1431655765, ↓reduceIte, Nat.reduceAdd, Nat.reduceMul, Nat.reduceSub, ixN, inbN, leT, leF, ltT, ltF, eqT, eqF, eqM, eqNone, addN, mulN, subN, m1N, ↓to_bnd, bnd_some, ↓to_nmT, nmT_eq, up2_r, up2_e, pk_us, pk_un, b2_t, b2_f, b2_0, b2_1, zB_1, zB_0, zB_b2, not_true_eq_false, not_false_eq_true, r_Mo, Nat.add_zero, Nat.add_sub_cancel, within_R, within_N, in_R, in_N, inN_yes, inR_yes, inR_pred, orNone_nn, nn_m, nn_N, f_Ct_isDay, f_Ct_isThing, f_Ct_isKind, f_Ct_isRoomSeat, f_Ct_isOffice, f_Ct_isTable, f_Ct_isPaper, f_Ct_isRule, f_Ct_isDecision, f_Mo_isOffice, f_Mo_isTable, f_Mo_isPaper, f_Mo_isRule, f_Mo_isDecision, f_Mo_isDay, f_Mo_isThing, f_Mo_paperOf, f_Mo_set, w3, w4', cp, rw_0, rw_1]
      · refine ⟨σ, ?_, by rw [eF (by unfold betB; rw [decide_eq_false (p := b1 = 0) c0, decide_eq_false (p := d < b2) c1, decide_eq_false (p := d = b2) c2, Bool.false_and]; rfl)]; exact no⟩
        simp -dsimp -implicitDefEqProofs (disch := omega) only [f_Wf_rememberIfBetter, f_Wf_rememberIfBetter_35, f_Wf_rememberIfBetter_36, f_Wf_rememberIfBetter_65, ↓l_m1, l_0, l_1, l_2, l_3, l_4, l_5, l_6, l_7, l_8, l_9, l_10, l_11, l_12, l_13, l_14, l_15, l_16, l_17, l_20, l_21, l_22, l_23, l_24, l_28, l_29, l_30, l_31, l_32, l_40, l_41, l_48, l_57, l_60, l_62, l_63, l_84, l_96, l_97, l_99, l_100, l_122, l_132, l_144, l_150, l_186, l_255, l_256, l_288, l_300, l_522, l_634, l_999, l_5242, l_5410, l_5420, l_5520, l_5528, l_9999, l_65535, l_65536, l_100000, l_16777215, l_252645135, l_858993459, l_1431655765, ↓reduceIte, Nat.reduceAdd, Nat.reduceMul, Nat.reduceSub, ixN, inbN, leT, leF, ltT, ltF, eqT, eqF, eqM, eqNone, addN, mulN, subN, m1N, ↓to_bnd, bnd_some, ↓to_nmT, nmT_eq, up2_r, up2_e, pk_us, pk_un, b2_t, b2_f, b2_0, b2_1, zB_1, zB_0, zB_b2, not_true_eq_false, not_false_eq_true, r_Mo, Nat.add_zero, Nat.add_sub_cancel, within_R, within_N, in_R, in_N, inN_yes, inR_yes, inR_pred, orNone_nn, nn_m, nn_N, f_Ct_isDay, f_Ct_isThing, f_Ct_isKind, f_Ct_isRoomSeat, f_Ct_isOffice, f_Ct_isTable, f_Ct_isPaper, f_Ct_isRule, f_Ct_isDecision, f_Mo_isOffice, f_Mo_isTable, f_Mo_isPaper, f_Mo_isRule, f_Mo_isDecision, f_Mo_isDay, f_Mo_isThing, f_Mo_paperOf, f_Mo_set, w3, w4', cp, rw_0, rw_1]
theorem TbR_3 {σ σ' : Mm} {s d D : Nat} {g : Nat → Int32} (bs : BS s) (hV : VG D g) (h : TbR (σ (s + 5)) (σ (s + 6)) (σ (s + 7)) (σ (s + 8)) (σ (s + 9)) g) (f : Fr3 σ σ' d) : TbR (σ' (s + 5)) (σ' (s + 6)) (σ' (s + 7)) (σ' (s + 8)) (σ' (s + 9)) g := by
  have hb : s = 1 ∨ s = 85 ∨ s = 169 := bs
  exact TbR_c h hV.2.2.1 (fun a p q => f.1 a (by omega) (by omega) (by omega)) (fun _ _ => rfl)
theorem c_stp {s D nT goal n : Nat} {g : Nat → Int32} (bs : BS s) (hV : VG D g) (e3 : g 3 = nI nT) (l3 : nT ≤ 6) (hn : n ≤ 30) (hgo : goal < nT) : ∀ k dp p t day x5 σ b, dp + k = 6 → t < nT → day ≤ 1000 + 60 * dp → (∀ j, j < 32 → btI x5 j = onW p j dp) → TbR (σ (s + 5)) (σ (s + 6)) (σ (s + 7)) (σ (s + 8)) (σ (s + 9)) g → σ 253 4 = nI goal → σ 253 5 = nI n → (∀ i, i < dp → σ 254 i = nI (p i)) → CB σ b → ∃ σ', fzn_Wf_stepTo (k + 2) 253 (s + 5) (nI t) (nI day) (nI dp) x5 σ = some σ' ∧ CB σ' (wyF g nT goal n k p dp t day b) ∧ Fr3 σ σ' dp := by
  have hb : s = 1 ∨ s = 85 ∨ s = 169 := bs
  have tv : ∀ t, t < nT → TV g t := fun t ht => hV.2.2.1.2 t (by rw [e3, ixN (by omega)]; exact ht)
  intro k
  induction k with
  | zero =>
    intro dp p t day x5 σ b hk ht hd hx hT h4 h5 hp hB
    obtain rfl : dp = 6 := by omega
    refine ⟨σ, ?_, hB, fun _ _ _ _ => rfl, rfl, rfl, fun _ _ => rfl⟩
    rw [fzn_Wf_stepTo]
    simp -dsimp -implicitDefEqProofs (disch := omega) only [f_Wf_stepTo, ↓l_m1, l_0, l_1, l_2, l_3, l_4, l_5, l_6, l_7, l_8, l_9, l_10, l_11, l_12, l_13, l_14, l_15, l_16, l_17, l_20, l_21, l_22, l_23, l_24, l_28, l_29, l_30, l_31, l_32, l_40, l_41, l_48, l_57, l_60, l_62, l_63, l_84, l_96, l_97, l_99, l_100, l_122, l_132, l_144, l_150, l_186, l_255, l_256, l_288, l_300, l_522, l_634, l_999, l_5242, l_5410, l_5420, l_5520, l_5528, l_9999, l_65535, l_65536, l_100000, l_16777215, l_252645135, l_858993459, l_1431655765, ↓reduceIte, Nat.reduceAdd, Nat.reduceMul, Nat.reduceSub, ixN, inbN, leT, leF, ltT, ltF, eqT, eqF, eqM, eqNone, addN, mulN, subN, m1N, ↓to_bnd, bnd_some, ↓to_nmT, nmT_eq, up2_r, up2_e, pk_us, pk_un, b2_t, b2_f, b2_0, b2_1, zB_1, zB_0, zB_b2, not_true_eq_false, not_false_eq_true, r_Mo, Nat.add_zero, Nat.add_sub_cancel, within_R, within_N, in_R, in_N, inN_yes, inR_yes, inR_pred, orNone_nn, nn_m, nn_N, f_Ct_isDay, f_Ct_isThing, f_Ct_isKind, f_Ct_isRoomSeat, f_Ct_isOffice, f_Ct_isTable, f_Ct_isPaper, f_Ct_isRule, f_Ct_isDecision, f_Mo_isOffice, f_Mo_isTable, f_Mo_isPaper, f_Mo_isRule, f_Mo_isDecision, f_Mo_isDay, f_Mo_isThing, f_Mo_paperOf, f_Mo_set]
  | succ k ih =>
    intro dp p t day x5 σ b hk ht hd hx hT h4 h5 hp hB
    have f1 : Fr3 σ (up2 σ 254 dp (nI t)) dp := ⟨fun a q1 q2 q3 => up2_r _ _ _ q2, by rw [up2_r _ _ _ (by omega)], by rw [up2_r _ _ _ (by omega)], fun i hi => by rw [up2_e, pk_un (by omega)]⟩
    have hp1 : ∀ i, i < dp + 1 → up2 σ 254 dp (nI t) 254 i = nI (upN p dp t i) := fun i hi => by
      rw [up2_e]
      by_cases c : i = dp
      · rw [c, pk_us, upN_e]
      · rw [pk_un c, upN_r c]; exact hp i (by omega)
    have hB1 : CB (up2 σ 254 dp (nI t)) b := by
      unfold CB
      rw [up2_r _ _ _ (by omega), up2_r _ _ _ (by omega)]
      exact hB
    rw [fzn_Wf_stepTo, wyF]
    by_cases cg : t = goal
    · rw [if_pos cg]
      obtain ⟨σ', z1, z2, z3⟩ := c_rem (p := upN p dp t) (d := day) (l := dp + 1) hB1 (by omega) (by omega) hp1
      refine ⟨σ', ?_, z2, Fr3_tr f1 z3 (by omega)⟩
      subst cg
      simp -dsimp -implicitDefEqProofs (disch := omega) only [f_Wf_stepTo, ↓l_m1, l_0, l_1, l_2, l_3, l_4, l_5, l_6, l_7, l_8, l_9, l_10, l_11, l_12, l_13, l_14, l_15, l_16, l_17, l_20, l_21, l_22, l_23, l_24, l_28, l_29, l_30, l_31, l_32, l_40, l_41, l_48, l_57, l_60, l_62, l_63, l_84, l_96, l_97, l_99, l_100, l_122, l_132, l_144, l_150, l_186, l_255, l_256, l_288, l_300, l_522, l_634, l_999, l_5242, l_5410, l_5420, l_5520, l_5528, l_9999, l_65535, l_65536, l_100000, l_16777215, l_252645135, l_858993459, l_1431655765, ↓reduceIte, Nat.reduceAdd, Nat.reduceMul, Nat.reduceSub, ixN, inbN, leT, leF, ltT, ltF, eqT, eqF, eqM, eqNone, addN, mulN, subN, m1N, ↓to_bnd, bnd_some, ↓to_nmT, nmT_eq, up2_r, up2_e, pk_us, pk_un, b2_t, b2_f, b2_0, b2_1, zB_1, zB_0, zB_b2, not_true_eq_false, not_false_eq_true, r_Mo, Nat.add_zero, Nat.add_sub_cancel, within_R, within_N, in_R, in_N, inN_yes, inR_yes, inR_pred, orNone_nn, nn_m, nn_N, f_Ct_isDay, f_Ct_isThing, f_Ct_isKind, f_Ct_isRoomSeat, f_Ct_isOffice, f_Ct_isTable, f_Ct_isPaper, f_Ct_isRule, f_Ct_isDecision, f_Mo_isOffice, f_Mo_isTable, f_Mo_isPaper, f_Mo_isRule, f_Mo_isDecision, f_Mo_isDay, f_Mo_isThing, f_Mo_paperOf, f_Mo_set, rw_0, h4, z1]
    · rw [if_neg cg]
      obtain ⟨x6, hx6⟩ : ∃ x6, x6 = x5 ||| (nI 1 <<< (nI t &&& nI 31)) := ⟨_, rfl⟩
      have hb6 : ∀ j, j < 32 → btI x6 j = onW (upN p dp t) j (dp + 1) := fun j hj => by
        rw [hx6, b_or, hx j hj, b_bit (by omega) hj, onW, onW_up dp (Nat.le_refl _), upN_e]
        congr 1
        rw [decide_eq_decide]
        exact ⟨fun q => q.symm, fun q => q.symm⟩
      have go : ∀ m i fuel τ b, i + m = nT → m < fuel → Fr3 (up2 σ 254 dp (nI t)) τ (dp + 1) → CB τ b → ∃ σ', f_Wf_stepTo_45 (fzn_Wf_stepTo (k + 2)) fuel 253 (s + 5) (nI t) (nI day) (nI dp) x6 (nI i) τ = some σ' ∧ CB σ' (lpF (fun i b => wyF g nT goal n k (upN p dp t) (dp + 1) i (fsG g i (day + n)) b) (okB g (upN p dp t) (dp + 1) t) m i b) ∧ Fr3 (up2 σ 254 dp (nI t)) σ' (dp + 1) := by
        intro m
        induction m with
        | zero =>
          intro i fuel τ b hi hf hF hB
          obtain ⟨f, rfl⟩ : ∃ f', fuel = f' + 1 := ⟨fuel - 1, by omega⟩
          obtain rfl : i = nT := by omega
          have hT2 := TbR_3 bs hV hT (Fr3_tr f1 hF (Nat.le_succ _))
          have o3 := hT2.1
          rw [e3] at o3
          refine ⟨τ, ?_, hB, hF⟩
          simp -dsimp -implicitDefEqProofs (disch := omega) only [f_Wf_stepTo_45, ↓l_m1, l_0, l_1, l_2, l_3, l_4, l_5, l_6, l_7, l_8, l_9, l_10, l_11, l_12, l_13, l_14, l_15, l_16, l_17, l_20, l_21, l_22, l_23, l_24, l_28, l_29, l_30, l_31, l_32, l_40, l_41, l_48, l_57, l_60, l_62, l_63, l_84, l_96, l_97, l_99, l_100, l_122, l_132, l_144, l_150, l_186, l_255, l_256, l_288, l_300, l_522, l_634, l_999, l_5242, l_5410, l_5420, l_5520, l_5528, l_9999, l_65535, l_65536, l_100000, l_16777215, l_252645135, l_858993459, l_1431655765, ↓reduceIte, Nat.reduceAdd, Nat.reduceMul, Nat.reduceSub, ixN, inbN, leT, leF, ltT, ltF, eqT, eqF, eqM, eqNone, addN, mulN, subN, m1N, ↓to_bnd, bnd_some, ↓to_nmT, nmT_eq, up2_r, up2_e, pk_us, pk_un, b2_t, b2_f, b2_0, b2_1, zB_1, zB_0, zB_b2, not_true_eq_false, not_false_eq_true, r_Mo, Nat.add_zero, Nat.add_sub_cancel, within_R, within_N, in_R, in_N, inN_yes, inR_yes, inR_pred, orNone_nn, nn_m, nn_N, f_Ct_isDay, f_Ct_isThing, f_Ct_isKind, f_Ct_isRoomSeat, f_Ct_isOffice, f_Ct_isTable, f_Ct_isPaper, f_Ct_isRule, f_Ct_isDecision, f_Mo_isOffice, f_Mo_isTable, f_Mo_isPaper, f_Mo_isRule, f_Mo_isDecision, f_Mo_isDay, f_Mo_isThing, f_Mo_paperOf, f_Mo_set, o3]
        | succ m ihm =>
          intro i fuel τ b hi hf hF hB
          obtain ⟨f, rfl⟩ : ∃ f', fuel = f' + 1 := ⟨fuel - 1, by omega⟩
          have hT2 := TbR_3 bs hV hT (Fr3_tr f1 hF (Nat.le_succ _))
          have o3 := hT2.1
          rw [e3] at o3
          have bi := bit_at x6 (show i < 32 by omega)
          rw [hb6 i (by omega)] at bi
          have mp := c_mayPass bs e3 l3 hT2 ht (show i < nT by omega)
          rw [lpF]
          cases co : onW (upN p dp t) i (dp + 1)
          · rw [co] at bi
            cases cp : psB g t i
            · rw [show okB g (upN p dp t) (dp + 1) t i = false by unfold okB; rw [co, cp]; rfl, if_neg (by decide)]
              unfold psB at cp
              rw [cp] at mp
              obtain ⟨σ', z1, z2⟩ := ihm (i + 1) f τ b (by omega) (by omega) hF hB
              refine ⟨σ', ?_, z2⟩
              rw [← z1]
              simp -dsimp -implicitDefEqProofs (disch := omega) only [f_Wf_stepTo_45, f_Wf_stepTo_99, ↓l_m1, l_0, l_1, l_2, l_3, l_4, l_5, l_6, l_7, l_8, l_9, l_10, l_11, l_12, l_13, l_14, l_15, l_16, l_17, l_20, l_21, l_22, l_23, l_24, l_28, l_29, l_30, l_31, l_32, l_40, l_41, l_48, l_57, l_60, l_62, l_63, l_84, l_96, l_97, l_99, l_100, l_122, l_132, l_144, l_150, l_186, l_255, l_256, l_288, l_300, l_522, l_634, l_999, l_5242, l_5410, l_5420, l_5520, l_5528, l_9999, l_65535, l_65536, l_100000, l_16777215, l_252645135, l_858993459, l_1431655765, ↓reduceIte, Nat.reduceAdd, Nat.reduceMul, Nat.reduceSub, ixN, inbN, leT, leF, ltT, ltF, eqT, eqF, eqM, eqNone, addN, mulN, subN, m1N, ↓to_bnd, bnd_some, ↓to_nmT, nmT_eq, up2_r, up2_e, pk_us, pk_un, b2_t, b2_f, b2_0, b2_1, zB_1, zB_0, zB_b2, not_true_eq_false, not_false_eq_true, r_Mo, Nat.add_zero, Nat.add_sub_cancel, within_R, within_N, in_R, in_N, inN_yes, inR_yes, inR_pred, orNone_nn, nn_m, nn_N, f_Ct_isDay, f_Ct_isThing, f_Ct_isKind, f_Ct_isRoomSeat, f_Ct_isOffice, f_Ct_isTable, f_Ct_isPaper, f_Ct_isRule, f_Ct_isDecision, f_Mo_isOffice, f_Mo_isTable, f_Mo_isPaper, f_Mo_isRule, f_Mo_isDecision, f_Mo_isDay, f_Mo_isThing, f_Mo_paperOf, f_Mo_set, o3, bi, mp]
            · rw [show okB g (upN p dp t) (dp + 1) t i = true by unfold okB; rw [co, cp]; rfl, if_pos rfl]
              unfold psB at cp
              rw [cp] at mp
              have fs := c_firstSitting (D := day + n) bs (tv i (by omega)) e3 l3 hT2 (show i < nT by omega) (by omega)
              have fl := fsG_le (D := day + n) (M := 1000 + 60 * (dp + 1)) (tv i (by omega)) (by omega)
              have t5 : τ 253 5 = nI n := by rw [hF.2.2.1, f1.2.2.1, h5]
              have t4 : τ 253 4 = nI goal := by rw [hF.2.1, f1.2.1, h4]
              obtain ⟨σ1, w1, w2, w3⟩ := ih (dp + 1) (upN p dp t) i (fsG g i (day + n)) x6 τ b (by omega) (by omega) fl hb6 hT2 t4 t5 (fun q hq => by rw [hF.2.2.2 q hq]; exact hp1 q hq) hB
              obtain ⟨σ', z1, z2⟩ := ihm (i + 1) f σ1 _ (by omega) (by omega) (Fr3_tr hF w3 (Nat.le_refl _)) w2
              refine ⟨σ', ?_, z2⟩
              rw [← z1]
              unfold fsG at w1
              simp -dsimp -implicitDefEqProofs (disch := omega) only [f_Wf_stepTo_45, f_Wf_stepTo_99, ↓l_m1, l_0, l_1, l_2, l_3, l_4, l_5, l_6, l_7, l_8, l_9, l_10, l_11, l_12, l_13, l_14, l_15, l_16, l_17, l_20, l_21, l_22, l_23, l_24, l_28, l_29, l_30, l_31, l_32, l_40, l_41, l_48, l_57, l_60, l_62, l_63, l_84, l_96, l_97, l_99, l_100, l_122, l_132, l_144, l_150, l_186, l_255, l_256, l_288, l_300, l_522, l_634, l_999, l_5242, l_5410, l_5420, l_5520, l_5528, l_9999, l_65535, l_65536, l_100000, l_16777215, l_252645135, l_858993459, l_1431655765, ↓reduceIte, Nat.reduceAdd, Nat.reduceMul, Nat.reduceSub, ixN, inbN, leT, leF, ltT, ltF, eqT, eqF, eqM, eqNone, addN, mulN, subN, m1N, ↓to_bnd, bnd_some, ↓to_nmT, nmT_eq, up2_r, up2_e, pk_us, pk_un, b2_t, b2_f, b2_0, b2_1, zB_1, zB_0, zB_b2, not_true_eq_false, not_false_eq_true, r_Mo, Nat.add_zero, Nat.add_sub_cancel, within_R, within_N, in_R, in_N, inN_yes, inR_yes, inR_pred, orNone_nn, nn_m, nn_N, f_Ct_isDay, f_Ct_isThing, f_Ct_isKind, f_Ct_isRoomSeat, f_Ct_isOffice, f_Ct_isTable, f_Ct_isPaper, f_Ct_isRule, f_Ct_isDecision, f_Mo_isOffice, f_Mo_isTable, f_Mo_isPaper, f_Mo_isRule, f_Mo_isDecision, f_Mo_isDay, f_Mo_isThing, f_Mo_paperOf, f_Mo_set, o3, bi, mp, t5, fs, w1]
          · rw [co] at bi
            rw [show okB g (upN p dp t) (dp + 1) t i = false by unfold okB; rw [co]; rfl, if_neg (by decide)]
            obtain ⟨σ', z1, z2⟩ := ihm (i + 1) f τ b (by omega) (by omega) hF hB
            refine ⟨σ', ?_, z2⟩
            rw [← z1]
            simp -dsimp -implicitDefEqProofs (disch := omega) only [f_Wf_stepTo_45, f_Wf_stepTo_99, ↓l_m1, l_0, l_1, l_2, l_3, l_4, l_5, l_6, l_7, l_8, l_9, l_10, l_11, l_12, l_13, l_14, l_15, l_16, l_17, l_20, l_21, l_22, l_23, l_24, l_28, l_29, l_30, l_31, l_32, l_40, l_41, l_48, l_57, l_60, l_62, l_63, l_84, l_96, l_97, l_99, l_100, l_122, l_132, l_144, l_150, l_186, l_255, l_256, l_288, l_300, l_522, l_634, l_999, l_5242, l_5410, l_5420, l_5520, l_5528, l_9999, l_65535, l_65536, l_100000, l_16777215, l_252645135, l_858993459, l_1431655765, ↓reduceIte, Nat.reduceAdd, Nat.reduceMul, Nat.reduceSub, ixN, inbN, leT, leF, ltT, ltF, eqT, eqF, eqM, eqNone, addN, mulN, subN, m1N, ↓to_bnd, bnd_some, ↓to_nmT, nmT_eq, up2_r, up2_e, pk_us, pk_un, b2_t, b2_f, b2_0, b2_1, zB_1, zB_0, zB_b2, not_true_eq_false, not_false_eq_true, r_Mo, Nat.add_zero, Nat.add_sub_cancel, within_R, within_N, in_R, in_N, inN_yes, inR_yes, inR_pred, orNone_nn, nn_m, nn_N, f_Ct_isDay, f_Ct_isThing, f_Ct_isKind, f_Ct_isRoomSeat, f_Ct_isOffice, f_Ct_isTable, f_Ct_isPaper, f_Ct_isRule, f_Ct_isDecision, f_Mo_isOffice, f_Mo_isTable, f_Mo_isPaper, f_Mo_isRule, f_Mo_isDecision, f_Mo_isDay, f_Mo_isThing, f_Mo_paperOf, f_Mo_set, o3, bi]
      obtain ⟨σ', z1, z2, z3⟩ := go nT 0 NN (up2 σ 254 dp (nI t)) b (by omega) (NN_lt (by omega)) ⟨fun _ _ _ _ => rfl, rfl, rfl, fun _ _ => rfl⟩ hB1
      refine ⟨σ', ?_, z2, Fr3_tr f1 z3 (Nat.le_succ _)⟩
      rw [← z1, hx6]
      simp -dsimp -implicitDefEqProofs (disch := omega) only [f_Wf_stepTo, ↓l_m1, l_0, l_1, l_2, l_3, l_4, l_5, l_6, l_7, l_8, l_9, l_10, l_11, l_12, l_13, l_14, l_15, l_16, l_17, l_20, l_21, l_22, l_23, l_24, l_28, l_29, l_30, l_31, l_32, l_40, l_41, l_48, l_57, l_60, l_62, l_63, l_84, l_96, l_97, l_99, l_100, l_122, l_132, l_144, l_150, l_186, l_255, l_256, l_288, l_300, l_522, l_634, l_999, l_5242, l_5410, l_5420, l_5520, l_5528, l_9999, l_65535, l_65536, l_100000, l_16777215, l_252645135, l_858993459, l_1431655765, ↓reduceIte, Nat.reduceAdd, Nat.reduceMul, Nat.reduceSub, ixN, inbN, leT, leF, ltT, ltF, eqT, eqF, eqM, eqNone, addN, mulN, subN, m1N, ↓to_bnd, bnd_some, ↓to_nmT, nmT_eq, up2_r, up2_e, pk_us, pk_un, b2_t, b2_f, b2_0, b2_1, zB_1, zB_0, zB_b2, not_true_eq_false, not_false_eq_true, r_Mo, Nat.add_zero, Nat.add_sub_cancel, within_R, within_N, in_R, in_N, inN_yes, inR_yes, inR_pred, orNone_nn, nn_m, nn_N, f_Ct_isDay, f_Ct_isThing, f_Ct_isKind, f_Ct_isRoomSeat, f_Ct_isOffice, f_Ct_isTable, f_Ct_isPaper, f_Ct_isRule, f_Ct_isDecision, f_Mo_isOffice, f_Mo_isTable, f_Mo_isPaper, f_Mo_isRule, f_Mo_isDecision, f_Mo_isDay, f_Mo_isThing, f_Mo_paperOf, f_Mo_set, rw_0, h4]
/-! on the model's side -/
def MB (σ : Mm) (b : Nat × Nat × (Nat → Nat)) : Prop := b.1 ≤ 6 ∧ b.2.1 < 100000 ∧ σ 298 7 = nI b.1 ∧ (b.1 ≠ 0 → σ 298 8 = nI b.2.1) ∧ ∀ i, i < b.1 → σ 304 i = nI (b.2.2 i)
def FrM (σ σ' : Mm) (dp : Nat) : Prop := (∀ a, a ≠ 298 → a ≠ 302 → a ≠ 303 → a ≠ 304 → σ' a = σ a) ∧ (∀ j, j ≠ 7 → j ≠ 8 → σ' 298 j = σ 298 j) ∧ (∀ q, q ≤ dp → σ' 302 q = σ 302 q) ∧ ∀ q, q ≤ dp → σ' 303 q = σ 303 q
theorem FrM_tr {σ σ1 σ2 : Mm} {d d1 : Nat} (h1 : FrM σ σ1 d) (h2 : FrM σ1 σ2 d1) (h : d ≤ d1) : FrM σ σ2 d :=
  ⟨fun a p q r s => by rw [h2.1 a p q r s, h1.1 a p q r s], fun j p q => by rw [h2.2.1 j p q, h1.2.1 j p q], fun q hq => by rw [h2.2.2.1 q (by omega), h1.2.2.1 q hq], fun q hq => by rw [h2.2.2.2 q (by omega), h1.2.2.2 q hq]⟩
theorem FrM_rfl (σ : Mm) (d : Nat) : FrM σ σ d := ⟨fun _ _ _ _ _ => rfl, fun _ _ _ => rfl, fun _ _ => rfl, fun _ _ => rfl⟩
theorem mo_onWay {σ : Mm} {p : Nat → Nat} {i L : Nat} (hL : L ≤ 7) (hi : i < 6) (hp : ∀ q, q < L → σ 302 q = nI (p q) ∧ p q < 6) : f_Mo_isOnWay σ 298 (nI i) (nI L) = some (b2 (onW p i L)) := by
  unfold f_Mo_isOnWay
  refine loopA (fun f k => f_Mo_isOnWay_5 σ f 298 (nI i) (nI L) (b2 (onW p i k)) (nI k)) _ L (fun f => ?_) (fun f k hk => ?_) (NN_lt (by omega))
  · simp -dsimp -implicitDefEqProofs (disch := omega) only [f_Mo_isOnWay_5, ↓l_m1, l_0, l_1, l_2, l_3, l_4, l_5, l_6, l_7, l_8, l_9, l_10, l_11, l_12, l_13, l_14, l_15, l_16, l_17, l_20, l_21, l_22, l_23, l_24, l_28, l_29, l_30, l_31, l_32, l_40, l_41, l_48, l_57, l_60, l_62, l_63, l_84, l_96, l_97, l_99, l_100, l_122, l_132, l_144, l_150, l_186, l_255, l_256, l_288, l_300, l_522, l_634, l_999, l_5242, l_5410, l_5420, l_5520, l_5528, l_9999, l_65535, l_65536, l_100000, l_16777215, l_252645135, l_858993459, l_1431655765, ↓reduceIte, Nat.reduceAdd, Nat.reduceMul, Nat.reduceSub, ixN, inbN, leT, leF, ltT, ltF, eqT, eqF, eqM, eqNone, addN, mulN, subN, m1N, ↓to_bnd, bnd_some, ↓to_nmT, nmT_eq, up2_r, up2_e, pk_us, pk_un, b2_t, b2_f, b2_0, b2_1, zB_1, zB_0, zB_b2, not_true_eq_false, not_false_eq_true, r_Mo, Nat.add_zero, Nat.add_sub_cancel, within_R, within_N, in_R, in_N, inN_yes, inR_yes, inR_pred, orNone_nn, nn_m, nn_N, f_Ct_isDay, f_Ct_isThing, f_Ct_isKind, f_Ct_isRoomSeat, f_Ct_isOffice, f_Ct_isTable, f_Ct_isPaper, f_Ct_isRule, f_Ct_isDecision, f_Mo_isOffice, f_Mo_isTable, f_Mo_isPaper, f_Mo_isRule, f_Mo_isDecision, f_Mo_isDay, f_Mo_isThing, f_Mo_paperOf, f_Mo_set]
  · obtain ⟨e, l⟩ := hp k hk
    rw [onW]
    cases c : onW p i k
    · by_cases d : p k = i
      · rw [decide_eq_true d]
        simp -dsimp -implicitDefEqProofs (disch := omega) only [f_Mo_isOnWay_5, f_Mo_isOnWay_26, f_Mo_isOnWay_31, ↓l_m1, l_0, l_1, l_2, l_3, l_4, l_5, l_6, l_7, l_8, l_9, l_10, l_11, l_12, l_13, l_14, l_15, l_16, l_17, l_20, l_21, l_22, l_23, l_24, l_28, l_29, l_30, l_31, l_32, l_40, l_41, l_48, l_57, l_60, l_62, l_63, l_84, l_96, l_97, l_99, l_100, l_122, l_132, l_144, l_150, l_186, l_255, l_256, l_288, l_300, l_522, l_634, l_999, l_5242, l_5410, l_5420, l_5520, l_5528, l_9999, l_65535, l_65536, l_100000, l_16777215, l_252645135, l_858993459, l_1431655765, ↓reduceIte, Nat.reduceAdd, Nat.reduceMul, Nat.reduceSub, ixN, inbN, leT, leF, ltT, ltF, eqT, eqF, eqM, eqNone, addN, mulN, subN, m1N, ↓to_bnd, bnd_some, ↓to_nmT, nmT_eq, up2_r, up2_e, pk_us, pk_un, b2_t, b2_f, b2_0, b2_1, zB_1, zB_0, zB_b2, not_true_eq_false, not_false_eq_true, r_Mo, Nat.add_zero, Nat.add_sub_cancel, within_R, within_N, in_R, in_N, inN_yes, inR_yes, inR_pred, orNone_nn, nn_m, nn_N, f_Ct_isDay, f_Ct_isThing, f_Ct_isKind, f_Ct_isRoomSeat, f_Ct_isOffice, f_Ct_isTable, f_Ct_isPaper, f_Ct_isRule, f_Ct_isDecision, f_Mo_isOffice, f_Mo_isTable, f_Mo_isPaper, f_Mo_isRule, f_Mo_isDecision, f_Mo_isDay, f_Mo_isThing, f_Mo_paperOf, f_Mo_set, rm_4, e, d, Bool.or_true]
      · rw [decide_eq_false d]
        simp -dsimp -implicitDefEqProofs (disch := omega) only [f_Mo_isOnWay_5, f_Mo_isOnWay_26, f_Mo_isOnWay_31, ↓l_m1, l_0, l_1, l_2, l_3, l_4, l_5, l_6, l_7, l_8, l_9, l_10, l_11, l_12, l_13, l_14, l_15, l_16, l_17, l_20, l_21, l_22, l_23, l_24, l_28, l_29, l_30, l_31, l_32, l_40, l_41, l_48, l_57, l_60, l_62, l_63, l_84, l_96, l_97, l_99, l_100, l_122, l_132, l_144, l_150, l_186, l_255, l_256, l_288, l_300, l_522, l_634, l_999, l_5242, l_5410, l_5420, l_5520, l_5528, l_9999, l_65535, l_65536, l_100000, l_16777215, l_252645135, l_858993459, l_1431655765, ↓reduceIte, Nat.reduceAdd, Nat.reduceMul, Nat.reduceSub, ixN, inbN, leT, leF, ltT, ltF, eqT, eqF, eqM, eqNone, addN, mulN, subN, m1N, ↓to_bnd, bnd_some, ↓to_nmT, nmT_eq, up2_r, up2_e, pk_us, pk_un, b2_t, b2_f, b2_0, b2_1, zB_1, zB_0, zB_b2, not_true_eq_false, not_false_eq_true, r_Mo, Nat.add_zero, Nat.add_sub_cancel, within_R, within_N, in_R, in_N, inN_yes, inR_yes, inR_pred, orNone_nn, nn_m, nn_N, f_Ct_isDay, f_Ct_isThing, f_Ct_isKind, f_Ct_isRoomSeat, f_Ct_isOffice, f_Ct_isTable, f_Ct_isPaper, f_Ct_isRule, f_Ct_isDecision, f_Mo_isOffice, f_Mo_isTable, f_Mo_isPaper, f_Mo_isRule, f_Mo_isDecision, f_Mo_isDay, f_Mo_isThing, f_Mo_paperOf, f_Mo_set, rm_4, e, d, Bool.or_false]
    · simp -dsimp -implicitDefEqProofs (disch := omega) only [f_Mo_isOnWay_5, f_Mo_isOnWay_26, f_Mo_isOnWay_31, ↓l_m1, l_0, l_1, l_2, l_3, l_4, l_5, l_6, l_7, l_8, l_9, l_10, l_11, l_12, l_13, l_14, l_15, l_16, l_17, l_20, l_21, l_22, l_23, l_24, l_28, l_29, l_30, l_31, l_32, l_40, l_41, l_48, l_57, l_60, l_62, l_63, l_84, l_96, l_97, l_99, l_100, l_122, l_132, l_144, l_150, l_186, l_255, l_256, l_288, l_300, l_522, l_634, l_999, l_5242, l_5410, l_5420, l_5520, l_5528, l_9999, l_65535, l_65536, l_100000, l_16777215, l_252645135, l_858993459, l_1431655765, ↓reduceIte, Nat.reduceAdd, Nat.reduceMul, Nat.reduceSub, ixN, inbN, leT, leF, ltT, ltF, eqT, eqF, eqM, eqNone, addN, mulN, subN, m1N, ↓to_bnd, bnd_some, ↓to_nmT, nmT_eq, up2_r, up2_e, pk_us, pk_un, b2_t, b2_f, b2_0, b2_1, zB_1, zB_0, zB_b2, not_true_eq_false, not_false_eq_true, r_Mo, Nat.add_zero, Nat.add_sub_cancel, within_R, within_N, in_R, in_N, inN_yes, inR_yes, inR_pred, orNone_nn, nn_m, nn_N, f_Ct_isDay, f_Ct_isThing, f_Ct_isKind, f_Ct_isRoomSeat, f_Ct_isOffice, f_Ct_isTable, f_Ct_isPaper, f_Ct_isRule, f_Ct_isDecision, f_Mo_isOffice, f_Mo_isTable, f_Mo_isPaper, f_Mo_isRule, f_Mo_isDecision, f_Mo_isDay, f_Mo_isThing, f_Mo_paperOf, f_Mo_set, rm_4, e, Bool.true_or]
theorem mo_best {σ : Mm} {l : Nat} (hl : l ≤ 6) : ∃ σ', f_Mo_judgeWay_52 NN 298 (nI l) (nI 0) σ = some σ' ∧ (∀ a, a ≠ 304 → σ' a = σ a) ∧ ∀ i, i < l → σ' 304 i = σ 302 i := by
  have go : ∀ m i fuel τ, i + m = l → m < fuel → (∀ a, a ≠ 304 → τ a = σ a) → (∀ q, q < i → τ 304 q = σ 302 q) → ∃ σ', f_Mo_judgeWay_52 fuel 298 (nI l) (nI i) τ = some σ' ∧ (∀ a, a ≠ 304 → σ' a = σ a) ∧ ∀ i, i < l → σ' 304 i = σ 302 i := by
    intro m
    induction m with
    | zero =>
      intro i fuel τ hi hf h1 h2
      obtain ⟨f, rfl⟩ : ∃ f', fuel = f' + 1 := ⟨fuel - 1, by omega⟩
      obtain rfl : i = l := by omega
      refine ⟨τ, ?_, h1, h2⟩
      simp -dsimp -implicitDefEqProofs (disch := omega) only [f_Mo_judgeWay_52, f_Mo_judgeWay_75, ↓l_m1, l_0, l_1, l_2, l_3, l_4, l_5, l_6, l_7, l_8, l_9, l_10, l_11, l_12, l_13, l_14, l_15, l_16, l_17, l_20, l_21, l_22, l_23, l_24, l_28, l_29, l_30, l_31, l_32, l_40, l_41, l_48, l_57, l_60, l_62, l_63, l_84, l_96, l_97, l_99, l_100, l_122, l_132, l_144, l_150, l_186, l_255, l_256, l_288, l_300, l_522, l_634, l_999, l_5242, l_5410, l_5420, l_5520, l_5528, l_9999, l_65535, l_65536, l_100000, l_16777215, l_252645135, l_858993459, l_1431655765, ↓reduceIte, Nat.reduceAdd, Nat.reduceMul, Nat.reduceSub, ixN, inbN, leT, leF, ltT, ltF, eqT, eqF, eqM, eqNone, addN, mulN, subN, m1N, ↓to_bnd, bnd_some, ↓to_nmT, nmT_eq, up2_r, up2_e, pk_us, pk_un, b2_t, b2_f, b2_0, b2_1, zB_1, zB_0, zB_b2, not_true_eq_false, not_false_eq_true, r_Mo, Nat.add_zero, Nat.add_sub_cancel, within_R, within_N, in_R, in_N, inN_yes, inR_yes, inR_pred, orNone_nn, nn_m, nn_N, f_Ct_isDay, f_Ct_isThing, f_Ct_isKind, f_Ct_isRoomSeat, f_Ct_isOffice, f_Ct_isTable, f_Ct_isPaper, f_Ct_isRule, f_Ct_isDecision, f_Mo_isOffice, f_Mo_isTable, f_Mo_isPaper, f_Mo_isRule, f_Mo_isDecision, f_Mo_isDay, f_Mo_isThing, f_Mo_paperOf, f_Mo_set]
    | succ m ih =>
      intro i fuel τ hi hf h1 h2
      obtain ⟨f, rfl⟩ : ∃ f', fuel = f' + 1 := ⟨fuel - 1, by omega⟩
      obtain ⟨σ', z1, z2⟩ := ih (i + 1) f (up2 τ 304 i (τ 302 i)) (by omega) (by omega) (fun a ha => by rw [up2_r _ _ _ ha, h1 a ha]) (fun q hq => by
        rw [up2_e]
        by_cases c : q = i
        · rw [c, pk_us, h1 302 (by omega)]
        · rw [pk_un c]; exact h2 q (by omega))
      refine ⟨σ', ?_, z2⟩
      rw [← z1]
      simp -dsimp -implicitDefEqProofs (disch := omega) only [f_Mo_judgeWay_52, ↓l_m1, l_0, l_1, l_2, l_3, l_4, l_5, l_6, l_7, l_8, l_9, l_10, l_11, l_12, l_13, l_14, l_15, l_16, l_17, l_20, l_21, l_22, l_23, l_24, l_28, l_29, l_30, l_31, l_32, l_40, l_41, l_48, l_57, l_60, l_62, l_63, l_84, l_96, l_97, l_99, l_100, l_122, l_132, l_144, l_150, l_186, l_255, l_256, l_288, l_300, l_522, l_634, l_999, l_5242, l_5410, l_5420, l_5520, l_5528, l_9999, l_65535, l_65536, l_100000, l_16777215, l_252645135, l_858993459, l_1431655765, ↓reduceIte, Nat.reduceAdd, Nat.reduceMul, Nat.reduceSub, ixN, inbN, leT, leF, ltT, ltF, eqT, eqF, eqM, eqNone, addN, mulN, subN, m1N, ↓to_bnd, bnd_some, ↓to_nmT, nmT_eq, up2_r, up2_e, pk_us, pk_un, b2_t, b2_f, b2_0, b2_1, zB_1, zB_0, zB_b2, not_true_eq_false, not_false_eq_true, r_Mo, Nat.add_zero, Nat.add_sub_cancel, within_R, within_N, in_R, in_N, inN_yes, inR_yes, inR_pred, orNone_nn, nn_m, nn_N, f_Ct_isDay, f_Ct_isThing, f_Ct_isKind, f_Ct_isRoomSeat, f_Ct_isOffice, f_Ct_isTable, f_Ct_isPaper, f_Ct_isRule, f_Ct_isDecision, f_Mo_isOffice, f_Mo_isTable, f_Mo_isPaper, f_Mo_isRule, f_Mo_isDecision, f_Mo_isDay, f_Mo_isThing, f_Mo_paperOf, f_Mo_set, rm_4, rm_6]
  exact go l 0 NN σ (by omega) (NN_lt (by omega)) (fun _ _ => rfl) (fun q hq => by omega)
theorem mo_judge {σ : Mm} {p : Nat → Nat} {d l : Nat} {b : Nat × Nat × (Nat → Nat)} (hb : MB σ b) (h1 : 1 ≤ l) (hl : l ≤ 6) (hd : d < 100000) (e3 : σ 303 (l - 1) = nI d) (hp : ∀ i, i < l → σ 302 i = nI (p i)) : ∃ σ', f_Mo_judgeWay 298 (nI l) σ = some σ' ∧ MB σ' (bet p d l b) ∧ FrM σ σ' 7 := by
  obtain ⟨b1, b2, b3⟩ := b
  obtain ⟨w1, w2, w3, w4, w5⟩ := hb
  dsimp only at w1 w2 w3 w4 w5
  obtain ⟨τ, y1, y2, y3⟩ := mo_best (σ := up2 (up2 σ 298 7 (nI l)) 298 8 (nI d)) hl
  have yes : MB τ (l, d, p) ∧ FrM σ τ 7 := by
    refine ⟨⟨hl, hd, ?_, fun _ => ?_, fun i hi => ?_⟩, fun a q1 q2 q3 q4 => ?_, fun j q1 q2 => ?_, fun i hi => ?_, fun i hi => ?_⟩
    · rw [y2 298 (by omega), up2_e, pk_un (by omega), up2_e, pk_us]
    · rw [y2 298 (by omega), up2_e, pk_us]
    · rw [y3 i hi, up2_r _ _ _ (by omega), up2_r _ _ _ (by omega)]; exact hp i hi
    · rw [y2 a q4, up2_r _ _ _ q1, up2_r _ _ _ q1]
    · rw [y2 298 (by omega), up2_e, pk_un q2, up2_e, pk_un q1]
    · rw [y2 302 (by omega), up2_r _ _ _ (by omega), up2_r _ _ _ (by omega)]
    · rw [y2 303 (by omega), up2_r _ _ _ (by omega), up2_r _ _ _ (by omega)]
  have no : MB σ (b1, b2, b3) ∧ FrM σ σ 7 := ⟨⟨w1, w2, w3, w4, w5⟩, FrM_rfl σ 7⟩
  have eT : betB d l (b1, b2, b3) = true → bet p d l (b1, b2, b3) = (l, d, p) := fun h => by unfold bet; rw [if_pos h]
  have eF : betB d l (b1, b2, b3) = false → bet p d l (b1, b2, b3) = (b1, b2, b3) := fun h => by unfold bet; rw [if_neg (by rw [h]; decide)]
  by_cases c0 : b1 = 0
  · subst c0
    refine ⟨τ, ?_, by rw [eT (by unfold betB; rw [decide_eq_true rfl]; rfl)]; exact yes⟩
    rw [← y1]
    simp -dsimp -implicitDefEqProofs (disch := omega) only [f_Mo_judgeWay, f_Mo_judgeWay_40, ↓l_m1, l_0, l_1, l_2, l_3, l_4, l_5, l_6, l_7, l_8, l_9, l_10, l_11, l_12, l_13, l_14, l_15, l_16, l_17, l_20, l_21, l_22, l_23, l_24, l_28, l_29, l_30, l_31, l_32, l_40, l_41, l_48, l_57, l_60, l_62, l_63, l_84, l_96, l_97, l_99, l_100, l_122, l_132, l_144, l_150, l_186, l_255, l_256, l_288, l_300, l_522, l_634, l_999, l_5242, l_5410, l_5420, l_5520, l_5528, l_9999, l_65535, l_65536, l_100000, l_16777215, l_252645135, l_858993459, l_1431655765, ↓reduceIte, Nat.reduceAdd, Nat.reduceMul, Nat.reduceSub, ixN, inbN, leT, leF, ltT, ltF, eqT, eqF, eqM, eqNone, addN, mulN, subN, m1N, ↓to_bnd, bnd_some, ↓to_nmT, nmT_eq, up2_r, up2_e, pk_us, pk_un, b2_t, b2_f, b2_0, b2_1, zB_1, zB_0, zB_b2, not_true_eq_false, not_false_eq_true, r_Mo, Nat.add_zero, Nat.add_sub_cancel, within_R, within_N, in_R, in_N, inN_yes, inR_yes, inR_pred, orNone_nn, nn_m, nn_N, f_Ct_isDay, f_Ct_isThing, f_Ct_isKind, f_Ct_isRoomSeat, f_Ct_isOffice, f_Ct_isTable, f_Ct_isPaper, f_Ct_isRule, f_Ct_isDecision, f_Mo_isOffice, f_Mo_isTable, f_Mo_isPaper, f_Mo_isRule, f_Mo_isDecision, f_Mo_isDay, f_Mo_isThing, f_Mo_paperOf, f_Mo_set, w3, rm_5, e3]
  · have w4' := w4 c0
    by_cases c1 : d < b2
    · refine ⟨τ, ?_, by rw [eT (by unfold betB; rw [decide_eq_true (p := d < b2) c1, Bool.or_true]; rfl)]; exact yes⟩
      rw [← y1]
      simp -dsimp -implicitDefEqProofs (disch := omega) only [f_Mo_judgeWay, f_Mo_judgeWay_40, ↓l_m1, l_0, l_1, l_2, l_3, l_4, l_5, l_6, l_7, l_8, l_9, l_10, l_11, l_12, l_13, l_14, l_15, l_16, l_17, l_20, l_21, l_22, l_23, l_24, l_28, l_29, l_30, l_31, l_32, l_40, l_41, l_48, l_57, l_60, l_62, l_63, l_84, l_96, l_97, l_99, l_100, l_122, l_132, l_144, l_150, l_186, l_255, l_256, l_288, l_300, l_522, l_634, l_999, l_5242, l_5410, l_5420, l_5520, l_5528, l_9999, l_65535, l_65536, l_100000, l_16777215, l_252645135, l_858993459, l_1431655765, ↓reduceIte, Nat.reduceAdd, Nat.reduceMul, Nat.reduceSub, ixN, inbN, leT, leF, ltT, ltF, eqT, eqF, eqM, eqNone, addN, mulN, subN, m1N, ↓to_bnd, bnd_some, ↓to_nmT, nmT_eq, up2_r, up2_e, pk_us, pk_un, b2_t, b2_f, b2_0, b2_1, zB_1, zB_0, zB_b2, not_true_eq_false, not_false_eq_true, r_Mo, Nat.add_zero, Nat.add_sub_cancel, within_R, within_N, in_R, in_N, inN_yes, inR_yes, inR_pred, orNone_nn, nn_m, nn_N, f_Ct_isDay, f_Ct_isThing, f_Ct_isKind, f_Ct_isRoomSeat, f_Ct_isOffice, f_Ct_isTable, f_Ct_isPaper, f_Ct_isRule, f_Ct_isDecision, f_Mo_isOffice, f_Mo_isTable, f_Mo_isPaper, f_Mo_isRule, f_Mo_isDecision, f_Mo_isDay, f_Mo_isThing, f_Mo_paperOf, f_Mo_set, w3, w4', rm_5, e3]
    · by_cases c2 : d = b2
      · by_cases c3 : l < b1
        · refine ⟨τ, ?_, by rw [eT (by unfold betB; rw [decide_eq_true (p := d = b2) c2, decide_eq_true (p := l < b1) c3, Bool.and_true, Bool.or_true])]; exact yes⟩
          rw [← y1]
          simp -dsimp -implicitDefEqProofs (disch := omega) only [f_Mo_judgeWay, f_Mo_judgeWay_40, ↓l_m1, l_0, l_1, l_2, l_3, l_4, l_5, l_6, l_7, l_8, l_9, l_10, l_11, l_12, l_13, l_14, l_15, l_16, l_17, l_20, l_21, l_22, l_23, l_24, l_28, l_29, l_30, l_31, l_32, l_40, l_41, l_48, l_57, l_60, l_62, l_63, l_84, l_96, l_97, l_99, l_100, l_122, l_132, l_144, l_150, l_186, l_255, l_256, l_288, l_300, l_522, l_634, l_999, l_5242, l_5410, l_5420, l_5520, l_5528, l_9999, l_65535, l_65536, l_100000, l_16777215, l_252645135, l_858993459, l_1431655765, ↓reduceIte, Nat.reduceAdd, Nat.reduceMul, Nat.reduceSub, ixN, inbN, leT, leF, ltT, ltF, eqT, eqF, eqM, eqNone, addN, mulN, subN, m1N, ↓to_bnd, bnd_some, ↓to_nmT, nmT_eq, up2_r, up2_e, pk_us, pk_un, b2_t, b2_f, b2_0, b2_1, zB_1, zB_0, zB_b2, not_true_eq_false, not_false_eq_true, r_Mo, Nat.add_zero, Nat.add_sub_cancel, within_R, within_N, in_R, in_N, inN_yes, inR_yes, inR_pred, orNone_nn, nn_m, nn_N, f_Ct_isDay, f_Ct_isThing, f_Ct_isKind, f_Ct_isRoomSeat, f_Ct_isOffice, f_Ct_isTable, f_Ct_isPaper, f_Ct_isRule, f_Ct_isDecision, f_Mo_isOffice, f_Mo_isTable, f_Mo_isPaper, f_Mo_isRule, f_Mo_isDecision, f_Mo_isDay, f_Mo_isThing, f_Mo_paperOf, f_Mo_set, w3, w4', rm_5, e3]
        · refine ⟨σ, ?_, by rw [eF (by unfold betB; rw [decide_eq_false (p := b1 = 0) c0, decide_eq_false (p := d < b2) c1, decide_eq_false (p := l < b1) c3, Bool.and_false]; rfl)]; exact no⟩
          simp -dsimp -implicitDefEqProofs (disch := omega) only [f_Mo_judgeWay, f_Mo_judgeWay_75, ↓l_m1, l_0, l_1, l_2, l_3, l_4, l_5, l_6, l_7, l_8, l_9, l_10, l_11, l_12, l_13, l_14, l_15, l_16, l_17, l_20, l_21, l_22, l_23, l_24, l_28, l_29, l_30, l_31, l_32, l_40, l_41, l_48, l_57, l_60, l_62, l_63, l_84, l_96, l_97, l_99, l_100, l_122, l_132, l_144, l_150, l_186, l_255, l_256, l_288, l_300, l_522, l_634, l_999, l_5242, l_5410, l_5420, l_5520, l_5528, l_9999, l_65535, l_65536, l_100000, l_16777215, l_252645135, l_858993459, l_1431655765, ↓reduceIte, Nat.reduceAdd, Nat.reduceMul, Nat.reduceSub, ixN, inbN, leT, leF, ltT, ltF, eqT, eqF, eqM, eqNone, addN, mulN, subN, m1N, ↓to_bnd, bnd_some, ↓to_nmT, nmT_eq, up2_r, up2_e, pk_us, pk_un, b2_t, b2_f, b2_0, b2_1, zB_1, zB_0, zB_b2, not_true_eq_false, not_false_eq_true, r_Mo, Nat.add_zero, Nat.add_sub_cancel, within_R, within_N, in_R, in_N, inN_yes, inR_yes, inR_pred, orNone_nn, nn_m, nn_N, f_Ct_isDay, f_Ct_isThing, f_Ct_isKind, f_Ct_isRoomSeat, f_Ct_isOffice, f_Ct_isTable, f_Ct_isPaper, f_Ct_isRule, f_Ct_isDecision, f_Mo_isOffice, f_Mo_isTable, f_Mo_isPaper, f_Mo_isRule, f_Mo_isDecision, f_Mo_isDay, f_Mo_isThing, f_Mo_paperOf, f_Mo_set, w3, w4', rm_5, e3]
      · refine ⟨σ, ?_, by rw [eF (by unfold betB; rw [decide_eq_false (p := b1 = 0) c0, decide_eq_false (p := d < b2) c1, decide_eq_false (p := d = b2) c2, Bool.false_and]; rfl)]; exact no⟩
        simp -dsimp -implicitDefEqProofs (disch := omega) only [f_Mo_judgeWay, f_Mo_judgeWay_75, ↓l_m1, l_0, l_1, l_2, l_3, l_4, l_5, l_6, l_7, l_8, l_9, l_10, l_11, l_12, l_13, l_14, l_15, l_16, l_17, l_20, l_21, l_22, l_23, l_24, l_28, l_29, l_30, l_31, l_32, l_40, l_41, l_48, l_57, l_60, l_62, l_63, l_84, l_96, l_97, l_99, l_100, l_122, l_132, l_144, l_150, l_186, l_255, l_256, l_288, l_300, l_522, l_634, l_999, l_5242, l_5410, l_5420, l_5520, l_5528, l_9999, l_65535, l_65536, l_100000, l_16777215, l_252645135, l_858993459, l_1431655765, ↓reduceIte, Nat.reduceAdd, Nat.reduceMul, Nat.reduceSub, ixN, inbN, leT, leF, ltT, ltF, eqT, eqF, eqM, eqNone, addN, mulN, subN, m1N, ↓to_bnd, bnd_some, ↓to_nmT, nmT_eq, up2_r, up2_e, pk_us, pk_un, b2_t, b2_f, b2_0, b2_1, zB_1, zB_0, zB_b2, not_true_eq_false, not_false_eq_true, r_Mo, Nat.add_zero, Nat.add_sub_cancel, within_R, within_N, in_R, in_N, inN_yes, inR_yes, inR_pred, orNone_nn, nn_m, nn_N, f_Ct_isDay, f_Ct_isThing, f_Ct_isKind, f_Ct_isRoomSeat, f_Ct_isOffice, f_Ct_isTable, f_Ct_isPaper, f_Ct_isRule, f_Ct_isDecision, f_Mo_isOffice, f_Mo_isTable, f_Mo_isPaper, f_Mo_isRule, f_Mo_isDecision, f_Mo_isDay, f_Mo_isThing, f_Mo_paperOf, f_Mo_set, w3, w4', rm_5, e3]
def un (p : Nat → Nat) (L : Nat) : Nat → Nat → Nat
  | 0, _ => 0
  | m + 1, i => (if onW p i L = true then 0 else 1) + un p L m (i + 1)
theorem un_0 (p : Nat → Nat) : ∀ m i, un p 0 m i = m
  | 0, _ => rfl
  | m + 1, i => by rw [un, un_0 p m (i + 1), onW, if_neg (by decide)]; omega
theorem un_c {p : Nat → Nat} {L t : Nat} : ∀ m i, t < i → un (upN p L t) (L + 1) m i = un p L m i
  | 0, _, _ => rfl
  | m + 1, i, h => by
    rw [un, un, un_c m (i + 1) (by omega), onW, onW_up L (Nat.le_refl _), upN_e, decide_eq_false (by omega), Bool.or_false]
theorem un_s {p : Nat → Nat} {L t : Nat} (h : onW p t L = false) : ∀ m i, i ≤ t → t < i + m → un (upN p L t) (L + 1) m i + 1 = un p L m i
  | 0, _, _, _ => by omega
  | m + 1, i, h1, h2 => by
    rw [un, un, onW, onW_up L (Nat.le_refl _), upN_e]
    by_cases c : t = i
    · subst c
      rw [un_c m (t + 1) (by omega), decide_eq_true rfl, Bool.or_true, if_pos rfl, h, if_neg (by decide)]; omega
    · rw [decide_eq_false c, Bool.or_false]
      have := un_s h m (i + 1) (by omega) (by omega)
      omega
def Kc : Nat → Nat
  | 0 => 0
  | k + 1 => (k + 1) * (2 + Kc k)
def Kd : Nat → Nat
  | 0 => 0
  | k + 1 => 2 + Kc k
theorem Kc_eq : ∀ k, Kc k = k * Kd k
  | 0 => rfl
  | k + 1 => rfl
theorem mo_sit {τ : Mm} {K : Nat → Int32 → Int32 → Int32 → Mm → Option Mm} {i dp D : Nat} {x2 x4 : Int32} (v : TV (τ 299) i) (hi : i < 6) : ∀ j D fuel, fsG (τ 299) i D = D + j → D + j < 100000 → j < fuel → f_Mo_findWay_151 K fuel 298 x2 x4 (nI dp) (nI i) (nI D) τ = f_Mo_findWay_151 K (fuel - j) 298 x2 x4 (nI dp) (nI i) (nI (D + j)) τ ∧ f_Mo_sitsOn τ 298 (nI i) (nI (D + j)) = some (nI 1) := by
  intro j
  have v' := v
  obtain ⟨⟨p, p1, p2, ep⟩, ⟨o, o1, eo⟩, -⟩ := v'
  have hf : ∀ D, fsG (τ 299) i D = fsN o p D := fun D => by unfold fsG; rw [ep, eo, ixN (by omega), ixN (by omega)]
  have hs : ∀ D, sitsB (τ 299) i D = sitsN o p D := fun D => by unfold sitsB; rw [ep, eo, ixN (by omega), ixN (by omega)]
  induction j with
  | zero =>
    intro D fuel h1 h2 h3
    refine ⟨rfl, ?_⟩
    rw [hf] at h1
    rw [Nat.add_zero] at h1 ⊢
    rw [mo_sitsOn v hi (by omega), hs, (fsN_eq (by omega)).mp h1]; rfl
  | succ j ih =>
    intro D fuel h1 h2 h3
    obtain ⟨f, rfl⟩ : ∃ f', fuel = f' + 1 := ⟨fuel - 1, by omega⟩
    rw [hf] at h1
    have ns : sitsN o p D = false := by
      cases c : sitsN o p D
      · rfl
      · rw [← fsN_eq (by omega)] at c; omega
    obtain ⟨z1, z2⟩ := ih (D + 1) f (by rw [hf, fsN_step (by omega) ns]; omega) (by omega) (by omega)
    have q := mo_sitsOn v hi (show D < 1000000 by omega)
    rw [hs, ns] at q
    refine ⟨?_, by rw [show D + (j + 1) = D + 1 + j by omega]; exact z2⟩
    rw [show f + 1 - (j + 1) = f - j by omega, show D + (j + 1) = D + 1 + j by omega, ← z1]
    simp -dsimp -implicitDefEqProofs (disch := omega) only [f_Mo_findWay_151, ↓l_m1, l_0, l_1, l_2, l_3, l_4, l_5, l_6, l_7, l_8, l_9, l_10, l_11, l_12, l_13, l_14, l_15, l_16, l_17, l_20, l_21, l_22, l_23, l_24, l_28, l_29, l_30, l_31, l_32, l_40, l_41, l_48, l_57, l_60, l_62, l_63, l_84, l_96, l_97, l_99, l_100, l_122, l_132, l_144, l_150, l_186, l_255, l_256, l_288, l_300, l_522, l_634, l_999, l_5242, l_5410, l_5420, l_5520, l_5528, l_9999, l_65535, l_65536, l_100000, l_16777215, l_252645135, l_858993459, l_1431655765, ↓reduceIte, Nat.reduceAdd, Nat.reduceMul, Nat.reduceSub, ixN, inbN, leT, leF, ltT, ltF, eqT, eqF, eqM, eqNone, addN, mulN, subN, m1N, ↓to_bnd, bnd_some, ↓to_nmT, nmT_eq, up2_r, up2_e, pk_us, pk_un, b2_t, b2_f, b2_0, b2_1, zB_1, zB_0, zB_b2, not_true_eq_false, not_false_eq_true, r_Mo, Nat.add_zero, Nat.add_sub_cancel, within_R, within_N, in_R, in_N, inN_yes, inR_yes, inR_pred, orNone_nn, nn_m, nn_N, f_Ct_isDay, f_Ct_isThing, f_Ct_isKind, f_Ct_isRoomSeat, f_Ct_isOffice, f_Ct_isTable, f_Ct_isPaper, f_Ct_isRule, f_Ct_isDecision, f_Mo_isOffice, f_Mo_isTable, f_Mo_isPaper, f_Mo_isRule, f_Mo_isDecision, f_Mo_isDay, f_Mo_isThing, f_Mo_paperOf, f_Mo_set, q]
theorem mo_go {f dp : Nat} {x2 x4 : Int32} {τ : Mm} (h1 : 0 < dp) (h2 : dp < 7) : f_Mo_findWay_40 (f + 1) 298 x2 x4 (nI dp) τ = f_Mo_findWay_56 (f_Mo_findWay_40 f) NN 298 x2 x4 (nI dp) (τ 302 dp + nI 1) τ := by
  simp -dsimp -implicitDefEqProofs (disch := omega) only [f_Mo_findWay_40, ↓l_m1, l_0, l_1, l_2, l_3, l_4, l_5, l_6, l_7, l_8, l_9, l_10, l_11, l_12, l_13, l_14, l_15, l_16, l_17, l_20, l_21, l_22, l_23, l_24, l_28, l_29, l_30, l_31, l_32, l_40, l_41, l_48, l_57, l_60, l_62, l_63, l_84, l_96, l_97, l_99, l_100, l_122, l_132, l_144, l_150, l_186, l_255, l_256, l_288, l_300, l_522, l_634, l_999, l_5242, l_5410, l_5420, l_5520, l_5528, l_9999, l_65535, l_65536, l_100000, l_16777215, l_252645135, l_858993459, l_1431655765, ↓reduceIte, Nat.reduceAdd, Nat.reduceMul, Nat.reduceSub, ixN, inbN, leT, leF, ltT, ltF, eqT, eqF, eqM, eqNone, addN, mulN, subN, m1N, ↓to_bnd, bnd_some, ↓to_nmT, nmT_eq, up2_r, up2_e, pk_us, pk_un, b2_t, b2_f, b2_0, b2_1, zB_1, zB_0, zB_b2, not_true_eq_false, not_false_eq_true, r_Mo, Nat.add_zero, Nat.add_sub_cancel, within_R, within_N, in_R, in_N, inN_yes, inR_yes, inR_pred, orNone_nn, nn_m, nn_N, f_Ct_isDay, f_Ct_isThing, f_Ct_isKind, f_Ct_isRoomSeat, f_Ct_isOffice, f_Ct_isTable, f_Ct_isPaper, f_Ct_isRule, f_Ct_isDecision, f_Mo_isOffice, f_Mo_isTable, f_Mo_isPaper, f_Mo_isRule, f_Mo_isDecision, f_Mo_isDay, f_Mo_isThing, f_Mo_paperOf, f_Mo_set, rm_4]
theorem mo_lvl {D nT goal n : Nat} {g : Nat → Int32} (hV : VG D g) (e3 : g 3 = nI nT) (l3 : nT ≤ 6) (hn : n ≤ 30) (hgo : goal < nT) : ∀ kk dp p day, dp + 1 + kk = 6 → (∀ q, q ≤ dp → p q < nT) → day ≤ 1000 + 60 * dp → un p (dp + 1) nT 0 ≤ kk → ∀ m i fi fuel τ b, i + m = nT → m < fi → un p (dp + 1) m i * Kd kk ≤ fuel → un p (dp + 1) m i ≤ kk → τ 299 = g → (∀ q, q ≤ dp → τ 302 q = nI (p q)) → τ 303 dp = nI day → MB τ b → ∃ f' τ', fuel ≤ f' + un p (dp + 1) m i * Kd kk ∧ f_Mo_findWay_56 (f_Mo_findWay_40 fuel) fi 298 (nI goal) (nI n) (nI (dp + 1)) (nI i) τ = f_Mo_findWay_40 f' 298 (nI goal) (nI n) (nI dp) τ' ∧ MB τ' (lpF (fun i b => wyF g nT goal n kk p (dp + 1) i (fsG g i (day + n)) b) (okB g p (dp + 1) (p dp)) m i b) ∧ FrM τ τ' dp := by
  have tv : ∀ t, t < nT → TV g t := fun t ht => hV.2.2.1.2 t (by rw [e3, ixN (by omega)]; exact ht)
  intro kk
  induction kk with
  | zero =>
    intro dp p day hk hpT hday hu m
    induction m with
    | zero =>
      intro i fi fuel τ b hi hf hfu hul h9 h2 h3 hB
      obtain ⟨fi, rfl⟩ : ∃ f', fi = f' + 1 := ⟨fi - 1, by omega⟩
      obtain rfl : i = nT := by omega
      refine ⟨fuel, up2 τ 302 (dp + 1) (nI i), by omega, ?_, ?_, fun a q1 q2 q3 q4 => up2_r _ _ _ q2, fun j q1 q2 => by rw [up2_r _ _ _ (by omega)], fun q hq => by rw [up2_e, pk_un (by omega)], fun q hq => by rw [up2_r _ _ _ (by omega)]⟩
      · simp -dsimp -implicitDefEqProofs (disch := omega) only [f_Mo_findWay_56, f_Mo_findWay_111, ↓l_m1, l_0, l_1, l_2, l_3, l_4, l_5, l_6, l_7, l_8, l_9, l_10, l_11, l_12, l_13, l_14, l_15, l_16, l_17, l_20, l_21, l_22, l_23, l_24, l_28, l_29, l_30, l_31, l_32, l_40, l_41, l_48, l_57, l_60, l_62, l_63, l_84, l_96, l_97, l_99, l_100, l_122, l_132, l_144, l_150, l_186, l_255, l_256, l_288, l_300, l_522, l_634, l_999, l_5242, l_5410, l_5420, l_5520, l_5528, l_9999, l_65535, l_65536, l_100000, l_16777215, l_252645135, l_858993459, l_1431655765, ↓reduceIte, Nat.reduceAdd, Nat.reduceMul, Nat.reduceSub, ixN, inbN, leT, leF, ltT, ltF, eqT, eqF, eqM, eqNone, addN, mulN, subN, m1N, ↓to_bnd, bnd_some, ↓to_nmT, nmT_eq, up2_r, up2_e, pk_us, pk_un, b2_t, b2_f, b2_0, b2_1, zB_1, zB_0, zB_b2, not_true_eq_false, not_false_eq_true, r_Mo, Nat.add_zero, Nat.add_sub_cancel, within_R, within_N, in_R, in_N, inN_yes, inR_yes, inR_pred, orNone_nn, nn_m, nn_N, f_Ct_isDay, f_Ct_isThing, f_Ct_isKind, f_Ct_isRoomSeat, f_Ct_isOffice, f_Ct_isTable, f_Ct_isPaper, f_Ct_isRule, f_Ct_isDecision, f_Mo_isOffice, f_Mo_isTable, f_Mo_isPaper, f_Mo_isRule, f_Mo_isDecision, f_Mo_isDay, f_Mo_isThing, f_Mo_paperOf, f_Mo_set, h9, e3, rm_4]
      · unfold MB; rw [up2_r _ _ _ (by omega), up2_r _ _ _ (by omega)]; exact hB
    | succ m ihm =>
      intro i fi fuel τ b hi hf hfu hul h9 h2 h3 hB
      obtain ⟨fi, rfl⟩ : ∃ f', fi = f' + 1 := ⟨fi - 1, by omega⟩
      have co : onW p i (dp + 1) = true := by
        cases c : onW p i (dp + 1)
        · rw [un, c, if_neg (by decide)] at hul; omega
        · rfl
      have ow := mo_onWay (σ := τ) (p := p) (i := i) (L := dp + 1) (by omega) (by omega) (fun q hq => ⟨h2 q (by omega), by have := hpT q (by omega); omega⟩)
      rw [co] at ow
      rw [un, co, if_pos rfl, Nat.zero_add] at hul hfu ⊢
      rw [lpF, show okB g p (dp + 1) (p dp) i = false by unfold okB; rw [co]; rfl, if_neg (by decide)]
      obtain ⟨f', τ', z0, z1, z2⟩ := ihm (i + 1) fi fuel τ b (by omega) (by omega) (by omega) (by omega) h9 h2 h3 hB
      refine ⟨f', τ', by omega, ?_, z2⟩
      rw [← z1]
      have pd := h2 dp (Nat.le_refl _)
      have pl := hpT dp (Nat.le_refl _)
      rcases (tv (p dp) pl).2.2 i (by omega) with c | c
      · simp -dsimp -implicitDefEqProofs (disch := omega) only [f_Mo_findWay_56, f_Mo_findWay_105, ↓l_m1, l_0, l_1, l_2, l_3, l_4, l_5, l_6, l_7, l_8, l_9, l_10, l_11, l_12, l_13, l_14, l_15, l_16, l_17, l_20, l_21, l_22, l_23, l_24, l_28, l_29, l_30, l_31, l_32, l_40, l_41, l_48, l_57, l_60, l_62, l_63, l_84, l_96, l_97, l_99, l_100, l_122, l_132, l_144, l_150, l_186, l_255, l_256, l_288, l_300, l_522, l_634, l_999, l_5242, l_5410, l_5420, l_5520, l_5528, l_9999, l_65535, l_65536, l_100000, l_16777215, l_252645135, l_858993459, l_1431655765, ↓reduceIte, Nat.reduceAdd, Nat.reduceMul, Nat.reduceSub, ixN, inbN, leT, leF, ltT, ltF, eqT, eqF, eqM, eqNone, addN, mulN, subN, m1N, ↓to_bnd, bnd_some, ↓to_nmT, nmT_eq, up2_r, up2_e, pk_us, pk_un, b2_t, b2_f, b2_0, b2_1, zB_1, zB_0, zB_b2, not_true_eq_false, not_false_eq_true, r_Mo, Nat.add_zero, Nat.add_sub_cancel, within_R, within_N, in_R, in_N, inN_yes, inR_yes, inR_pred, orNone_nn, nn_m, nn_N, f_Ct_isDay, f_Ct_isThing, f_Ct_isKind, f_Ct_isRoomSeat, f_Ct_isOffice, f_Ct_isTable, f_Ct_isPaper, f_Ct_isRule, f_Ct_isDecision, f_Mo_isOffice, f_Mo_isTable, f_Mo_isPaper, f_Mo_isRule, f_Mo_isDecision, f_Mo_isDay, f_Mo_isThing, f_Mo_paperOf, f_Mo_set, h9, e3, rm_4, pd, c]
      · simp -dsimp -implicitDefEqProofs (disch := omega) only [f_Mo_findWay_56, f_Mo_findWay_105, ↓l_m1, l_0, l_1, l_2, l_3, l_4, l_5, l_6, l_7, l_8, l_9, l_10, l_11, l_12, l_13, l_14, l_15, l_16, l_17, l_20, l_21, l_22, l_23, l_24, l_28, l_29, l_30, l_31, l_32, l_40, l_41, l_48, l_57, l_60, l_62, l_63, l_84, l_96, l_97, l_99, l_100, l_122, l_132, l_144, l_150, l_186, l_255, l_256, l_288, l_300, l_522, l_634, l_999, l_5242, l_5410, l_5420, l_5520, l_5528, l_9999, l_65535, l_65536, l_100000, l_16777215, l_252645135, l_858993459, l_1431655765, ↓reduceIte, Nat.reduceAdd, Nat.reduceMul, Nat.reduceSub, ixN, inbN, leT, leF, ltT, ltF, eqT, eqF, eqM, eqNone, addN, mulN, subN, m1N, ↓to_bnd, bnd_some, ↓to_nmT, nmT_eq, up2_r, up2_e, pk_us, pk_un, b2_t, b2_f, b2_0, b2_1, zB_1, zB_0, zB_b2, not_true_eq_false, not_false_eq_true, r_Mo, Nat.add_zero, Nat.add_sub_cancel, within_R, within_N, in_R, in_N, inN_yes, inR_yes, inR_pred, orNone_nn, nn_m, nn_N, f_Ct_isDay, f_Ct_isThing, f_Ct_isKind, f_Ct_isRoomSeat, f_Ct_isOffice, f_Ct_isTable, f_Ct_isPaper, f_Ct_isRule, f_Ct_isDecision, f_Mo_isOffice, f_Mo_isTable, f_Mo_isPaper, f_Mo_isRule, f_Mo_isDecision, f_Mo_isDay, f_Mo_isThing, f_Mo_paperOf, f_Mo_set, h9, e3, rm_4, pd, c, ow]
  | succ kk ihk =>
    intro dp p day hk hpT hday hu m
    induction m with
    | zero =>
      intro i fi fuel τ b hi hf hfu hul h9 h2 h3 hB
      obtain ⟨fi, rfl⟩ : ∃ f', fi = f' + 1 := ⟨fi - 1, by omega⟩
      obtain rfl : i = nT := by omega
      refine ⟨fuel, up2 τ 302 (dp + 1) (nI i), by omega, ?_, ?_, fun a q1 q2 q3 q4 => up2_r _ _ _ q2, fun j q1 q2 => by rw [up2_r _ _ _ (by omega)], fun q hq => by rw [up2_e, pk_un (by omega)], fun q hq => by rw [up2_r _ _ _ (by omega)]⟩
      · simp -dsimp -implicitDefEqProofs (disch := omega) only [f_Mo_findWay_56, f_Mo_findWay_111, ↓l_m1, l_0, l_1, l_2, l_3, l_4, l_5, l_6, l_7, l_8, l_9, l_10, l_11, l_12, l_13, l_14, l_15, l_16, l_17, l_20, l_21, l_22, l_23, l_24, l_28, l_29, l_30, l_31, l_32, l_40, l_41, l_48, l_57, l_60, l_62, l_63, l_84, l_96, l_97, l_99, l_100, l_122, l_132, l_144, l_150, l_186, l_255, l_256, l_288, l_300, l_522, l_634, l_999, l_5242, l_5410, l_5420, l_5520, l_5528, l_9999, l_65535, l_65536, l_100000, l_16777215, l_252645135, l_858993459, l_1431655765, ↓reduceIte, Nat.reduceAdd, Nat.reduceMul, Nat.reduceSub, ixN, inbN, leT, leF, ltT, ltF, eqT, eqF, eqM, eqNone, addN, mulN, subN, m1N, ↓to_bnd, bnd_some, ↓to_nmT, nmT_eq, up2_r, up2_e, pk_us, pk_un, b2_t, b2_f, b2_0, b2_1, zB_1, zB_0, zB_b2, not_true_eq_false, not_false_eq_true, r_Mo, Nat.add_zero, Nat.add_sub_cancel, within_R, within_N, in_R, in_N, inN_yes, inR_yes, inR_pred, orNone_nn, nn_m, nn_N, f_Ct_isDay, f_Ct_isThing, f_Ct_isKind, f_Ct_isRoomSeat, f_Ct_isOffice, f_Ct_isTable, f_Ct_isPaper, f_Ct_isRule, f_Ct_isDecision, f_Mo_isOffice, f_Mo_isTable, f_Mo_isPaper, f_Mo_isRule, f_Mo_isDecision, f_Mo_isDay, f_Mo_isThing, f_Mo_paperOf, f_Mo_set, h9, e3, rm_4]
      · unfold MB; rw [up2_r _ _ _ (by omega), up2_r _ _ _ (by omega)]; exact hB
    | succ m ihm =>
      intro i fi fuel τ b hi hf hfu hul h9 h2 h3 hB
      obtain ⟨fi, rfl⟩ : ∃ f', fi = f' + 1 := ⟨fi - 1, by omega⟩
      have ow := mo_onWay (σ := τ) (p := p) (i := i) (L := dp + 1) (by omega) (by omega) (fun q hq => ⟨h2 q (by omega), by have := hpT q (by omega); omega⟩)
      have pd := h2 dp (Nat.le_refl _)
      have pl := hpT dp (Nat.le_refl _)
      cases co : onW p i (dp + 1)
      · rw [co] at ow
        rcases (tv (p dp) pl).2.2 i (by omega) with c | c
        · rw [lpF, show okB g p (dp + 1) (p dp) i = false by unfold okB psB; rw [c, decide_eq_false (by rw [eqF (by omega) (by omega) (by omega)]; exact id), Bool.and_false], if_neg (by decide)]
          rw [un, co, if_neg (by decide), Nat.add_mul, Nat.one_mul] at hfu
          rw [un, co, if_neg (by decide)] at hul
          obtain ⟨f', τ', z0, z1, z2⟩ := ihm (i + 1) fi fuel τ b (by omega) (by omega) (by omega) (by omega) h9 h2 h3 hB
          refine ⟨f', τ', by rw [un, co, if_neg (by decide), Nat.add_mul]; omega, ?_, z2⟩
          rw [← z1]
          simp -dsimp -implicitDefEqProofs (disch := omega) only [f_Mo_findWay_56, f_Mo_findWay_105, ↓l_m1, l_0, l_1, l_2, l_3, l_4, l_5, l_6, l_7, l_8, l_9, l_10, l_11, l_12, l_13, l_14, l_15, l_16, l_17, l_20, l_21, l_22, l_23, l_24, l_28, l_29, l_30, l_31, l_32, l_40, l_41, l_48, l_57, l_60, l_62, l_63, l_84, l_96, l_97, l_99, l_100, l_122, l_132, l_144, l_150, l_186, l_255, l_256, l_288, l_300, l_522, l_634, l_999, l_5242, l_5410, l_5420, l_5520, l_5528, l_9999, l_65535, l_65536, l_100000, l_16777215, l_252645135, l_858993459, l_1431655765, ↓reduceIte, Nat.reduceAdd, Nat.reduceMul, Nat.reduceSub, ixN, inbN, leT, leF, ltT, ltF, eqT, eqF, eqM, eqNone, addN, mulN, subN, m1N, ↓to_bnd, bnd_some, ↓to_nmT, nmT_eq, up2_r, up2_e, pk_us, pk_un, b2_t, b2_f, b2_0, b2_1, zB_1, zB_0, zB_b2, not_true_eq_false, not_false_eq_true, r_Mo, Nat.add_zero, Nat.add_sub_cancel, within_R, within_N, in_R, in_N, inN_yes, inR_yes, inR_pred, orNone_nn, nn_m, nn_N, f_Ct_isDay, f_Ct_isThing, f_Ct_isKind, f_Ct_isRoomSeat, f_Ct_isOffice, f_Ct_isTable, f_Ct_isPaper, f_Ct_isRule, f_Ct_isDecision, f_Mo_isOffice, f_Mo_isTable, f_Mo_isPaper, f_Mo_isRule, f_Mo_isDecision, f_Mo_isDay, f_Mo_isThing, f_Mo_paperOf, f_Mo_set, h9, e3, rm_4, pd, c]
        · rw [lpF, show okB g p (dp + 1) (p dp) i = true by unfold okB psB; rw [c, co, decide_eq_true rfl]; rfl, if_pos rfl]
          rw [un, co, if_neg (by decide), Nat.add_mul, Nat.one_mul] at hfu
          rw [un, co, if_neg (by decide)] at hul
          have kd : Kd (kk + 1) = 2 + Kc kk := rfl
          obtain ⟨A, hA⟩ : ∃ A, A = un p (dp + 1) m (i + 1) * Kd (kk + 1) := ⟨_, rfl⟩
          rw [← hA] at hfu
          have tvi := tv i (by omega)
          have fl := fsG_le (D := day + n) (M := 1000 + 60 * (dp + 1)) tvi (by omega)
          have fg : day + n ≤ fsG g i (day + n) ∧ fsG g i (day + n) ≤ day + n + 30 := by
            refine ⟨?_, fsG_le tvi (Nat.le_refl _)⟩
            obtain ⟨⟨p', p1, p2, ep⟩, ⟨o, o1, eo⟩, -⟩ := tvi
            unfold fsG
            rw [ep, eo, ixN (by omega), ixN (by omega)]
            have hm : (day + n - o) % p' < p' := Nat.mod_lt _ (by omega)
            unfold fsN
            split
            · omega
            · split <;> omega
          obtain ⟨dd, hdd⟩ : ∃ dd, fsG g i (day + n) = dd := ⟨_, rfl⟩
          rw [hdd] at fl fg ⊢
          have t1 : up2 τ 302 (dp + 1) (nI i) 299 = g := by rw [up2_r _ _ _ (by omega), h9]
          obtain ⟨s1, s2⟩ := mo_sit (τ := up2 τ 302 (dp + 1) (nI i)) (K := f_Mo_findWay_40 fuel) (dp := dp + 1) (D := 0) (x2 := nI goal) (x4 := nI n) (by rw [t1]; exact tvi) (show i < 6 by omega) (dd - (day + n)) (day + n) NN (by rw [t1, hdd]; omega) (by omega) (NN_lt (by omega))
          rw [show day + n + (dd - (day + n)) = dd by omega] at s1 s2
          have nf : ∃ f'', NN - (dd - (day + n)) = f'' + 1 := ⟨NN - (dd - (day + n)) - 1, by have : 100 < NN := NN_lt (by omega); omega⟩
          obtain ⟨f'', hf''⟩ := nf
          rw [hf''] at s1
          obtain ⟨τ1, hτ1⟩ : ∃ τ1, τ1 = up2 (up2 τ 302 (dp + 1) (nI i)) 303 (dp + 1) (nI dd) := ⟨_, rfl⟩
          have F1 : FrM τ τ1 dp := by
            rw [hτ1]
            exact ⟨fun a q1 q2 q3 q4 => by rw [up2_r _ _ _ q3, up2_r _ _ _ q2], fun j q1 q2 => by rw [up2_r _ _ _ (by omega), up2_r _ _ _ (by omega)], fun q hq => by rw [up2_r _ _ _ (by omega), up2_e, pk_un (by omega)], fun q hq => by rw [up2_e, pk_un (by omega), up2_r _ _ _ (by omega)]⟩
          have B1 : MB τ1 b := by
            unfold MB; rw [hτ1, up2_r _ _ _ (by omega), up2_r _ _ _ (by omega), up2_r _ _ _ (by omega), up2_r _ _ _ (by omega)]; exact hB
          have p1 : ∀ q, q ≤ dp + 1 → τ1 302 q = nI (upN p (dp + 1) i q) := fun q hq => by
            rw [hτ1, up2_r _ _ _ (by omega), up2_e]
            by_cases c : q = dp + 1
            · rw [c, pk_us, upN_e]
            · rw [pk_un c, upN_r c]; exact h2 q (by omega)
          have d1 : τ1 303 (dp + 1) = nI dd := by rw [hτ1, up2_e, pk_us]
          have ss : i + 1 + m = nT := by omega
          rw [wyF]
          by_cases cg : i = goal
          · rw [if_pos cg]
            obtain ⟨τ2, j1, j2, j3⟩ := mo_judge (p := upN p (dp + 1) i) (d := dd) (l := dp + 1 + 1) B1 (by omega) (by omega) (by omega) (by rw [show dp + 1 + 1 - 1 = dp + 1 by omega]; exact d1) (fun q hq => p1 q (by omega))
            obtain ⟨f1, rfl⟩ : ∃ f1, fuel = f1 + 1 := ⟨fuel - 1, by omega⟩
            have F2 := FrM_tr F1 j3 (by omega)
            obtain ⟨f', τ', z0, z1, z2, z3⟩ := ihm (i + 1) NN f1 τ2 _ ss (NN_lt (by omega)) (by rw [← hA]; omega) (by omega) (by rw [F2.1 299 (by omega) (by omega) (by omega) (by omega), h9]) (fun q hq => by rw [F2.2.2.1 q hq]; exact h2 q hq) (by rw [F2.2.2.2 dp (Nat.le_refl _)]; exact h3) j2
            rw [← hA] at z0
            refine ⟨f', τ', by rw [un, co, if_neg (by decide), Nat.add_mul, Nat.one_mul, ← hA]; omega, ?_, z2, FrM_tr F2 z3 (Nat.le_refl _)⟩
            have o2 : τ2 302 (dp + 1) = nI i := by rw [j3.2.2.1 (dp + 1) (by omega), p1 (dp + 1) (Nat.le_refl _), upN_e]
            rw [← z1]
            have e := mo_go (f := f1) (dp := dp + 1) (x2 := nI goal) (x4 := nI n) (τ := τ2) (by omega) (by omega)
            rw [o2, addN] at e
            rw [← e]
            rw [hτ1] at j1
            subst cg
            simp -dsimp -implicitDefEqProofs (disch := omega) only [f_Mo_findWay_56, f_Mo_findWay_111, ↓l_m1, l_0, l_1, l_2, l_3, l_4, l_5, l_6, l_7, l_8, l_9, l_10, l_11, l_12, l_13, l_14, l_15, l_16, l_17, l_20, l_21, l_22, l_23, l_24, l_28, l_29, l_30, l_31, l_32, l_40, l_41, l_48, l_57, l_60, l_62, l_63, l_84, l_96, l_97, l_99, l_100, l_122, l_132, l_144, l_150, l_186, l_255, l_256, l_288, l_300, l_522, l_634, l_999, l_5242, l_5410, l_5420, l_5520, l_5528, l_9999, l_65535, l_65536, l_100000, l_16777215, l_252645135, l_858993459, l_1431655765, ↓reduceIte, Nat.reduceAdd, Nat.reduceMul, Nat.reduceSub, ixN, inbN, leT, leF, ltT, ltF, eqT, eqF, eqM, eqNone, addN, mulN, subN, m1N, ↓to_bnd, bnd_some, ↓to_nmT, nmT_eq, up2_r, up2_e, pk_us, pk_un, b2_t, b2_f, b2_0, b2_1, zB_1, zB_0, zB_b2, not_true_eq_false, not_false_eq_true, r_Mo, Nat.add_zero, Nat.add_sub_cancel, within_R, within_N, in_R, in_N, inN_yes, inR_yes, inR_pred, orNone_nn, nn_m, nn_N, f_Ct_isDay, f_Ct_isThing, f_Ct_isKind, f_Ct_isRoomSeat, f_Ct_isOffice, f_Ct_isTable, f_Ct_isPaper, f_Ct_isRule, f_Ct_isDecision, f_Mo_isOffice, f_Mo_isTable, f_Mo_isPaper, f_Mo_isRule, f_Mo_isDecision, f_Mo_isDay, f_Mo_isThing, f_Mo_paperOf, f_Mo_set, h9, e3, rm_4, rm_5, pd, c, ow, h3, s1]
            simp -dsimp -implicitDefEqProofs (disch := omega) only [f_Mo_findWay_151, f_Mo_findWay_205, ↓l_m1, l_0, l_1, l_2, l_3, l_4, l_5, l_6, l_7, l_8, l_9, l_10, l_11, l_12, l_13, l_14, l_15, l_16, l_17, l_20, l_21, l_22, l_23, l_24, l_28, l_29, l_30, l_31, l_32, l_40, l_41, l_48, l_57, l_60, l_62, l_63, l_84, l_96, l_97, l_99, l_100, l_122, l_132, l_144, l_150, l_186, l_255, l_256, l_288, l_300, l_522, l_634, l_999, l_5242, l_5410, l_5420, l_5520, l_5528, l_9999, l_65535, l_65536, l_100000, l_16777215, l_252645135, l_858993459, l_1431655765, ↓reduceIte, Nat.reduceAdd, Nat.reduceMul, Nat.reduceSub, ixN, inbN, leT, leF, ltT, ltF, eqT, eqF, eqM, eqNone, addN, mulN, subN, m1N, ↓to_bnd, bnd_some, ↓to_nmT, nmT_eq, up2_r, up2_e, pk_us, pk_un, b2_t, b2_f, b2_0, b2_1, zB_1, zB_0, zB_b2, not_true_eq_false, not_false_eq_true, r_Mo, Nat.add_zero, Nat.add_sub_cancel, within_R, within_N, in_R, in_N, inN_yes, inR_yes, inR_pred, orNone_nn, nn_m, nn_N, f_Ct_isDay, f_Ct_isThing, f_Ct_isKind, f_Ct_isRoomSeat, f_Ct_isOffice, f_Ct_isTable, f_Ct_isPaper, f_Ct_isRule, f_Ct_isDecision, f_Mo_isOffice, f_Mo_isTable, f_Mo_isPaper, f_Mo_isRule, f_Mo_isDecision, f_Mo_isDay, f_Mo_isThing, f_Mo_paperOf, f_Mo_set, rm_5, s2, j1]
          · rw [if_neg cg]
            obtain ⟨f1, rfl⟩ : ∃ f1, fuel = f1 + 1 := ⟨fuel - 1, by omega⟩
            obtain ⟨τ2, hτ2⟩ : ∃ τ2, τ2 = up2 τ1 302 (dp + 1 + 1) m1I := ⟨_, rfl⟩
            have F2 : FrM τ1 τ2 (dp + 1) := by
              rw [hτ2]
              exact ⟨fun a q1 q2 q3 q4 => by rw [up2_r _ _ _ q2], fun j q1 q2 => by rw [up2_r _ _ _ (by omega)], fun q hq => by rw [up2_e, pk_un (by omega)], fun q hq => by rw [up2_r _ _ _ (by omega)]⟩
            have B2 : MB τ2 b := by
              unfold MB; rw [hτ2, up2_r _ _ _ (by omega), up2_r _ _ _ (by omega)]; exact B1
            have us := un_s co nT 0 (by omega) (by omega : i < 0 + nT)
            have ul : un (upN p (dp + 1) i) (dp + 1 + 1) nT 0 * Kd kk ≤ Kc kk := by
              rw [Kc_eq]; exact Nat.mul_le_mul_right _ (by omega)
            obtain ⟨f2, τ3, y0, y1, y2, y3⟩ := ihk (dp + 1) (upN p (dp + 1) i) dd (by omega) (fun q hq => by
              by_cases c : q = dp + 1
              · rw [c, upN_e]; omega
              · rw [upN_r c]; exact hpT q (by omega)) fl (by omega) nT 0 NN f1 τ2 b (by omega) (NN_lt (by omega)) (by omega) (by omega) (by rw [F2.1 299 (by omega) (by omega) (by omega) (by omega), F1.1 299 (by omega) (by omega) (by omega) (by omega), h9]) (fun q hq => by rw [F2.2.2.1 q hq]; exact p1 q hq) (by rw [F2.2.2.2 _ (Nat.le_refl _)]; exact d1) B2
            rw [upN_e] at y2
            obtain ⟨f3, rfl⟩ : ∃ f3, f2 = f3 + 1 := ⟨f2 - 1, by omega⟩
            have F3 := FrM_tr F1 (FrM_tr F2 y3 (Nat.le_refl _)) (Nat.le_succ _)
            obtain ⟨f', τ', z0, z1, z2, z3⟩ := ihm (i + 1) NN f3 τ3 _ ss (NN_lt (by omega)) (by rw [← hA]; omega) (by omega) (by rw [F3.1 299 (by omega) (by omega) (by omega) (by omega), h9]) (fun q hq => by rw [F3.2.2.1 q hq]; exact h2 q hq) (by rw [F3.2.2.2 dp (Nat.le_refl _)]; exact h3) y2
            rw [← hA] at z0
            refine ⟨f', τ', by rw [un, co, if_neg (by decide), Nat.add_mul, Nat.one_mul, ← hA]; omega, ?_, z2, FrM_tr F3 z3 (Nat.le_refl _)⟩
            have o2 : τ3 302 (dp + 1) = nI i := by rw [y3.2.2.1 (dp + 1) (Nat.le_refl _), F2.2.2.1 (dp + 1) (Nat.le_refl _), p1 (dp + 1) (Nat.le_refl _), upN_e]
            have e := mo_go (f := f3) (dp := dp + 1) (x2 := nI goal) (x4 := nI n) (τ := τ3) (by omega) (by omega)
            rw [o2, addN] at e
            have e2 := mo_go (f := f1) (dp := dp + 1 + 1) (x2 := nI goal) (x4 := nI n) (τ := τ2) (by omega) (by omega)
            have o3 : τ2 302 (dp + 1 + 1) = m1I := by rw [hτ2, up2_e, pk_us]
            rw [o3, show m1I + nI 1 = nI 0 by decide] at e2
            rw [← z1, ← e, ← y1, ← e2, hτ2, hτ1]
            simp -dsimp -implicitDefEqProofs (disch := omega) only [f_Mo_findWay_56, f_Mo_findWay_111, ↓l_m1, l_0, l_1, l_2, l_3, l_4, l_5, l_6, l_7, l_8, l_9, l_10, l_11, l_12, l_13, l_14, l_15, l_16, l_17, l_20, l_21, l_22, l_23, l_24, l_28, l_29, l_30, l_31, l_32, l_40, l_41, l_48, l_57, l_60, l_62, l_63, l_84, l_96, l_97, l_99, l_100, l_122, l_132, l_144, l_150, l_186, l_255, l_256, l_288, l_300, l_522, l_634, l_999, l_5242, l_5410, l_5420, l_5520, l_5528, l_9999, l_65535, l_65536, l_100000, l_16777215, l_252645135, l_858993459, l_1431655765, ↓reduceIte, Nat.reduceAdd, Nat.reduceMul, Nat.reduceSub, ixN, inbN, leT, leF, ltT, ltF, eqT, eqF, eqM, eqNone, addN, mulN, subN, m1N, ↓to_bnd, bnd_some, ↓to_nmT, nmT_eq, up2_r, up2_e, pk_us, pk_un, b2_t, b2_f, b2_0, b2_1, zB_1, zB_0, zB_b2, not_true_eq_false, not_false_eq_true, r_Mo, Nat.add_zero, Nat.add_sub_cancel, within_R, within_N, in_R, in_N, inN_yes, inR_yes, inR_pred, orNone_nn, nn_m, nn_N, f_Ct_isDay, f_Ct_isThing, f_Ct_isKind, f_Ct_isRoomSeat, f_Ct_isOffice, f_Ct_isTable, f_Ct_isPaper, f_Ct_isRule, f_Ct_isDecision, f_Mo_isOffice, f_Mo_isTable, f_Mo_isPaper, f_Mo_isRule, f_Mo_isDecision, f_Mo_isDay, f_Mo_isThing, f_Mo_paperOf, f_Mo_set, h9, e3, rm_4, rm_5, pd, c, ow, h3, s1]
            simp -dsimp -implicitDefEqProofs (disch := omega) only [f_Mo_findWay_151, f_Mo_findWay_205, ↓l_m1, l_0, l_1, l_2, l_3, l_4, l_5, l_6, l_7, l_8, l_9, l_10, l_11, l_12, l_13, l_14, l_15, l_16, l_17, l_20, l_21, l_22, l_23, l_24, l_28, l_29, l_30, l_31, l_32, l_40, l_41, l_48, l_57, l_60, l_62, l_63, l_84, l_96, l_97, l_99, l_100, l_122, l_132, l_144, l_150, l_186, l_255, l_256, l_288, l_300, l_522, l_634, l_999, l_5242, l_5410, l_5420, l_5520, l_5528, l_9999, l_65535, l_65536, l_100000, l_16777215, l_252645135, l_858993459, l_1431655765, ↓reduceIte, Nat.reduceAdd, Nat.reduceMul, Nat.reduceSub, ixN, inbN, leT, leF, ltT, ltF, eqT, eqF, eqM, eqNone, addN, mulN, subN, m1N, ↓to_bnd, bnd_some, ↓to_nmT, nmT_eq, up2_r, up2_e, pk_us, pk_un, b2_t, b2_f, b2_0, b2_1, zB_1, zB_0, zB_b2, not_true_eq_false, not_false_eq_true, r_Mo, Nat.add_zero, Nat.add_sub_cancel, within_R, within_N, in_R, in_N, inN_yes, inR_yes, inR_pred, orNone_nn, nn_m, nn_N, f_Ct_isDay, f_Ct_isThing, f_Ct_isKind, f_Ct_isRoomSeat, f_Ct_isOffice, f_Ct_isTable, f_Ct_isPaper, f_Ct_isRule, f_Ct_isDecision, f_Mo_isOffice, f_Mo_isTable, f_Mo_isPaper, f_Mo_isRule, f_Mo_isDecision, f_Mo_isDay, f_Mo_isThing, f_Mo_paperOf, f_Mo_set, rm_4, rm_5, s2]
      · rw [co] at ow
        rw [lpF, show okB g p (dp + 1) (p dp) i = false by unfold okB; rw [co]; rfl, if_neg (by decide)]
        rw [un, co, if_pos rfl, Nat.zero_add] at hfu hul
        obtain ⟨f', τ', z0, z1, z2⟩ := ihm (i + 1) fi fuel τ b (by omega) (by omega) (by omega) (by omega) h9 h2 h3 hB
        refine ⟨f', τ', by rw [un, co, if_pos rfl, Nat.zero_add]; omega, ?_, z2⟩
        rw [← z1]
        rcases (tv (p dp) pl).2.2 i (by omega) with c | c
        · simp -dsimp -implicitDefEqProofs (disch := omega) only [f_Mo_findWay_56, f_Mo_findWay_105, ↓l_m1, l_0, l_1, l_2, l_3, l_4, l_5, l_6, l_7, l_8, l_9, l_10, l_11, l_12, l_13, l_14, l_15, l_16, l_17, l_20, l_21, l_22, l_23, l_24, l_28, l_29, l_30, l_31, l_32, l_40, l_41, l_48, l_57, l_60, l_62, l_63, l_84, l_96, l_97, l_99, l_100, l_122, l_132, l_144, l_150, l_186, l_255, l_256, l_288, l_300, l_522, l_634, l_999, l_5242, l_5410, l_5420, l_5520, l_5528, l_9999, l_65535, l_65536, l_100000, l_16777215, l_252645135, l_858993459, l_1431655765, ↓reduceIte, Nat.reduceAdd, Nat.reduceMul, Nat.reduceSub, ixN, inbN, leT, leF, ltT, ltF, eqT, eqF, eqM, eqNone, addN, mulN, subN, m1N, ↓to_bnd, bnd_some, ↓to_nmT, nmT_eq, up2_r, up2_e, pk_us, pk_un, b2_t, b2_f, b2_0, b2_1, zB_1, zB_0, zB_b2, not_true_eq_false, not_false_eq_true, r_Mo, Nat.add_zero, Nat.add_sub_cancel, within_R, within_N, in_R, in_N, inN_yes, inR_yes, inR_pred, orNone_nn, nn_m, nn_N, f_Ct_isDay, f_Ct_isThing, f_Ct_isKind, f_Ct_isRoomSeat, f_Ct_isOffice, f_Ct_isTable, f_Ct_isPaper, f_Ct_isRule, f_Ct_isDecision, f_Mo_isOffice, f_Mo_isTable, f_Mo_isPaper, f_Mo_isRule, f_Mo_isDecision, f_Mo_isDay, f_Mo_isThing, f_Mo_paperOf, f_Mo_set, h9, e3, rm_4, pd, c]
        · simp -dsimp -implicitDefEqProofs (disch := omega) only [f_Mo_findWay_56, f_Mo_findWay_105, ↓l_m1, l_0, l_1, l_2, l_3, l_4, l_5, l_6, l_7, l_8, l_9, l_10, l_11, l_12, l_13, l_14, l_15, l_16, l_17, l_20, l_21, l_22, l_23, l_24, l_28, l_29, l_30, l_31, l_32, l_40, l_41, l_48, l_57, l_60, l_62, l_63, l_84, l_96, l_97, l_99, l_100, l_122, l_132, l_144, l_150, l_186, l_255, l_256, l_288, l_300, l_522, l_634, l_999, l_5242, l_5410, l_5420, l_5520, l_5528, l_9999, l_65535, l_65536, l_100000, l_16777215, l_252645135, l_858993459, l_1431655765, ↓reduceIte, Nat.reduceAdd, Nat.reduceMul, Nat.reduceSub, ixN, inbN, leT, leF, ltT, ltF, eqT, eqF, eqM, eqNone, addN, mulN, subN, m1N, ↓to_bnd, bnd_some, ↓to_nmT, nmT_eq, up2_r, up2_e, pk_us, pk_un, b2_t, b2_f, b2_0, b2_1, zB_1, zB_0, zB_b2, not_true_eq_false, not_false_eq_true, r_Mo, Nat.add_zero, Nat.add_sub_cancel, within_R, within_N, in_R, in_N, inN_yes, inR_yes, inR_pred, orNone_nn, nn_m, nn_N, f_Ct_isDay, f_Ct_isThing, f_Ct_isKind, f_Ct_isRoomSeat, f_Ct_isOffice, f_Ct_isTable, f_Ct_isPaper, f_Ct_isRule, f_Ct_isDecision, f_Mo_isOffice, f_Mo_isTable, f_Mo_isPaper, f_Mo_isRule, f_Mo_isDecision, f_Mo_isDay, f_Mo_isThing, f_Mo_paperOf, f_Mo_set, h9, e3, rm_4, pd, c, ow]
theorem c_seek {σ : Mm} {s D nT t u d n : Nat} {g : Nat → Int32} (bs : BS s) (hV : VG D g) (hS : StR σ s g) (e3 : g 3 = nI nT) (l3 : nT ≤ 6) (hn : n ≤ 30) (ht : t < nT) (hu : u < nT) (hd : d ≤ 1000) : ∃ σ', f_Wf_seek 253 (s + 5) (nI t) (nI u) (nI d) (nI n) σ = some σ' ∧ CB σ' (wyF g nT u n 6 (fun _ => 0) 0 t d (0, 0, fun _ => 0)) ∧ ∀ a, a ≠ 253 → a ≠ 254 → a ≠ 255 → σ' a = σ a := by
  have hb : s = 1 ∨ s = 85 ∨ s = 169 := bs
  obtain ⟨τ, hτ⟩ : ∃ τ, τ = up2 (up2 (up2 σ 253 2 (nI 0)) 253 4 (nI u)) 253 5 (nI n) := ⟨_, rfl⟩
  have ft : ∀ a, a ≠ 253 → τ a = σ a := fun a ha => by rw [hτ, up2_r _ _ _ ha, up2_r _ _ _ ha, up2_r _ _ _ ha]
  have hT := TbR_c (σ' := τ) hS.2.2.1 hV.2.2.1 (fun a p q => ft a (by omega)) (fun _ _ => rfl)
  obtain ⟨σ', z1, z2, z3⟩ := c_stp (n := n) (goal := u) bs hV e3 l3 hn hu 6 0 (fun _ => 0) t d (nI 0) τ (0, 0, fun _ => 0) (by omega) ht (by omega) (fun j _ => b_zero j) hT (by rw [hτ]; simp -dsimp -implicitDefEqProofs (disch := omega) only [up2_e, pk_us, pk_un]) (by rw [hτ]; simp -dsimp -implicitDefEqProofs (disch := omega) only [up2_e, pk_us, pk_un]) (fun i hi => by omega) ⟨by decide, by decide, by rw [hτ]; simp -dsimp -implicitDefEqProofs (disch := omega) only [up2_e, pk_us, pk_un], fun h => (h rfl).elim, fun i hi => by cases hi⟩
  refine ⟨σ', ?_, z2, fun a p q r => by rw [z3.1 a p q r, ft a p]⟩
  rw [hτ] at z1
  have z : fzn_Wf_stepTo 8 253 (s + 5) (nI t) (nI d) (nI 0) (nI 0) (up2 (up2 (up2 σ 253 2 (nI 0)) 253 4 (nI u)) 253 5 (nI n)) = some σ' := z1
  simp -dsimp -implicitDefEqProofs (disch := omega) only [f_Wf_seek, fz_Wf_stepTo, ↓l_m1, l_0, l_1, l_2, l_3, l_4, l_5, l_6, l_7, l_8, l_9, l_10, l_11, l_12, l_13, l_14, l_15, l_16, l_17, l_20, l_21, l_22, l_23, l_24, l_28, l_29, l_30, l_31, l_32, l_40, l_41, l_48, l_57, l_60, l_62, l_63, l_84, l_96, l_97, l_99, l_100, l_122, l_132, l_144, l_150, l_186, l_255, l_256, l_288, l_300, l_522, l_634, l_999, l_5242, l_5410, l_5420, l_5520, l_5528, l_9999, l_65535, l_65536, l_100000, l_16777215, l_252645135, l_858993459, l_1431655765, ↓reduceIte, Nat.reduceAdd, Nat.reduceMul, Nat.reduceSub, ixN, inbN, leT, leF, ltT, ltF, eqT, eqF, eqM, eqNone, addN, mulN, subN, m1N, ↓to_bnd, bnd_some, ↓to_nmT, nmT_eq, up2_r, up2_e, pk_us, pk_un, b2_t, b2_f, b2_0, b2_1, zB_1, zB_0, zB_b2, not_true_eq_false, not_false_eq_true, r_Mo, Nat.add_zero, Nat.add_sub_cancel, within_R, within_N, in_R, in_N, inN_yes, inR_yes, inR_pred, orNone_nn, nn_m, nn_N, f_Ct_isDay, f_Ct_isThing, f_Ct_isKind, f_Ct_isRoomSeat, f_Ct_isOffice, f_Ct_isTable, f_Ct_isPaper, f_Ct_isRule, f_Ct_isDecision, f_Mo_isOffice, f_Mo_isTable, f_Mo_isPaper, f_Mo_isRule, f_Mo_isDecision, f_Mo_isDay, f_Mo_isThing, f_Mo_paperOf, f_Mo_set, z]
theorem mo_seek {σ : Mm} {D nT t u d n : Nat} {g : Nat → Int32} (hg : σ 299 = g) (hV : VG D g) (e3 : g 3 = nI nT) (l3 : nT ≤ 6) (hn : n ≤ 30) (ht : t < nT) (hu : u < nT) (hd : d ≤ 1000) : ∃ σ', f_Mo_findWay 298 (nI t) (nI u) (nI d) (nI n) σ = some σ' ∧ MB σ' (wyF g nT u n 6 (fun _ => 0) 0 t d (0, 0, fun _ => 0)) ∧ (∀ a, a ≠ 298 → a ≠ 302 → a ≠ 303 → a ≠ 304 → σ' a = σ a) ∧ ∀ j, j ≠ 7 → j ≠ 8 → σ' 298 j = σ 298 j := by
  obtain ⟨τ, hτ⟩ : ∃ τ, τ = up2 (up2 (up2 σ 298 7 (nI 0)) 302 0 (nI t)) 303 0 (nI d) := ⟨_, rfl⟩
  have f1 : ∀ a, a ≠ 298 → a ≠ 302 → a ≠ 303 → a ≠ 304 → τ a = σ a := fun a p1 p2 p3 p4 => by rw [hτ, up2_r _ _ _ p3, up2_r _ _ _ p2, up2_r _ _ _ p1]
  have f2 : ∀ j, j ≠ 7 → j ≠ 8 → τ 298 j = σ 298 j := fun j p1 p2 => by rw [hτ, up2_r _ _ _ (by omega), up2_r _ _ _ (by omega), up2_e, pk_un p1]
  have t7 : τ 298 7 = nI 0 := by rw [hτ, up2_r _ _ _ (by omega), up2_r _ _ _ (by omega), up2_e, pk_us]
  have t2 : τ 302 0 = nI t := by rw [hτ, up2_r _ _ _ (by omega), up2_e, pk_us]
  have t3 : τ 303 0 = nI d := by rw [hτ, up2_e, pk_us]
  have B0 : MB τ (0, 0, fun _ => 0) := ⟨by decide, by decide, t7, fun h => (h rfl).elim, fun i hi => by cases hi⟩
  rw [wyF]
  by_cases cg : t = u
  · rw [if_pos cg]
    obtain ⟨σ', z1, z2, z3⟩ := mo_judge (p := upN (fun _ => 0) 0 t) (d := d) (l := 1) B0 (by omega) (by omega) (by omega) t3 (fun i hi => by rw [show i = 0 by omega, upN_e]; exact t2)
    refine ⟨σ', ?_, z2, fun a p1 p2 p3 p4 => by rw [z3.1 a p1 p2 p3 p4, f1 a p1 p2 p3 p4], fun j p1 p2 => by rw [z3.2.1 j p1 p2, f2 j p1 p2]⟩
    subst cg
    rw [hτ] at z1
    simp -dsimp -implicitDefEqProofs (disch := omega) only [f_Mo_findWay, ↓l_m1, l_0, l_1, l_2, l_3, l_4, l_5, l_6, l_7, l_8, l_9, l_10, l_11, l_12, l_13, l_14, l_15, l_16, l_17, l_20, l_21, l_22, l_23, l_24, l_28, l_29, l_30, l_31, l_32, l_40, l_41, l_48, l_57, l_60, l_62, l_63, l_84, l_96, l_97, l_99, l_100, l_122, l_132, l_144, l_150, l_186, l_255, l_256, l_288, l_300, l_522, l_634, l_999, l_5242, l_5410, l_5420, l_5520, l_5528, l_9999, l_65535, l_65536, l_100000, l_16777215, l_252645135, l_858993459, l_1431655765, ↓reduceIte, Nat.reduceAdd, Nat.reduceMul, Nat.reduceSub, ixN, inbN, leT, leF, ltT, ltF, eqT, eqF, eqM, eqNone, addN, mulN, subN, m1N, ↓to_bnd, bnd_some, ↓to_nmT, nmT_eq, up2_r, up2_e, pk_us, pk_un, b2_t, b2_f, b2_0, b2_1, zB_1, zB_0, zB_b2, not_true_eq_false, not_false_eq_true, r_Mo, Nat.add_zero, Nat.add_sub_cancel, within_R, within_N, in_R, in_N, inN_yes, inR_yes, inR_pred, orNone_nn, nn_m, nn_N, f_Ct_isDay, f_Ct_isThing, f_Ct_isKind, f_Ct_isRoomSeat, f_Ct_isOffice, f_Ct_isTable, f_Ct_isPaper, f_Ct_isRule, f_Ct_isDecision, f_Mo_isOffice, f_Mo_isTable, f_Mo_isPaper, f_Mo_isRule, f_Mo_isDecision, f_Mo_isDay, f_Mo_isThing, f_Mo_paperOf, f_Mo_set, rm_4, rm_5, z1]
  · rw [if_neg cg]
    have hN : 9000 < NN := NN_lt (by omega)
    obtain ⟨F, hF⟩ : ∃ F, NN = F + 1 := ⟨NN - 1, by omega⟩
    have us := un_s (p := fun _ => 0) (L := 0) (t := t) rfl nT 0 (by omega) (by omega)
    rw [un_0] at us
    have ul : un (upN (fun _ => 0) 0 t) (0 + 1) nT 0 * Kd 5 ≤ Kc 5 := by
      rw [Kc_eq]; exact Nat.mul_le_mul_right _ (by omega)
    have k5 : Kc 5 = 650 := by decide
    have g1 : ∀ a, a ≠ 302 → up2 τ 302 1 m1I a = τ a := fun a ha => up2_r _ _ _ ha
    obtain ⟨f', σ', z0, z1, z2, z3⟩ := mo_lvl (goal := u) (n := n) hV e3 l3 hn hu 5 0 (upN (fun _ => 0) 0 t) d (by omega) (fun q hq => by rw [show q = 0 by omega, upN_e]; exact ht) (by omega) (by omega) nT 0 NN F (up2 τ 302 1 m1I) (0, 0, fun _ => 0) (by omega) (NN_lt (by omega)) (by omega) (by omega) (by rw [g1 299 (by omega), f1 299 (by omega) (by omega) (by omega) (by omega), hg]) (fun q hq => by rw [show q = 0 by omega, upN_e, up2_e, pk_un (by omega)]; exact t2) (by rw [g1 303 (by omega)]; exact t3) (by unfold MB; rw [g1 298 (by omega), g1 304 (by omega)]; exact B0)
    rw [upN_e] at z2
    obtain ⟨f'', rfl⟩ : ∃ f'', f' = f'' + 1 := ⟨f' - 1, by omega⟩
    refine ⟨σ', ?_, z2, fun a p1 p2 p3 p4 => by rw [z3.1 a p1 p2 p3 p4, g1 a p2, f1 a p1 p2 p3 p4], fun j p1 p2 => by rw [z3.2.1 j p1 p2, g1 298 (by omega), f2 j p1 p2]⟩
    have e := mo_go (f := F) (dp := 1) (x2 := nI u) (x4 := nI n) (τ := up2 τ 302 1 m1I) (by omega) (by omega)
    rw [up2_e, pk_us, show m1I + nI 1 = nI 0 by decide, ← hF] at e
    have e2 : f_Mo_findWay_40 (f'' + 1) 298 (nI u) (nI n) (nI 0) σ' = some σ' := by simp -dsimp -implicitDefEqProofs (disch := omega) only [f_Mo_findWay_40, ↓l_m1, l_0, l_1, l_2, l_3, l_4, l_5, l_6, l_7, l_8, l_9, l_10, l_11, l_12, l_13, l_14, l_15, l_16, l_17, l_20, l_21, l_22, l_23, l_24, l_28, l_29, l_30, l_31, l_32, l_40, l_41, l_48, l_57, l_60, l_62, l_63, l_84, l_96, l_97, l_99, l_100, l_122, l_132, l_144, l_150, l_186, l_255, l_256, l_288, l_300, l_522, l_634, l_999, l_5242, l_5410, l_5420, l_5520, l_5528, l_9999, l_65535, l_65536, l_100000, l_16777215, l_252645135, l_858993459, l_1431655765, ↓reduceIte, Nat.reduceAdd, Nat.reduceMul, Nat.reduceSub, ixN, inbN, leT, leF, ltT, ltF, eqT, eqF, eqM, eqNone, addN, mulN, subN, m1N, ↓to_bnd, bnd_some, ↓to_nmT, nmT_eq, up2_r, up2_e, pk_us, pk_un, b2_t, b2_f, b2_0, b2_1, zB_1, zB_0, zB_b2, not_true_eq_false, not_false_eq_true, r_Mo, Nat.add_zero, Nat.add_sub_cancel, within_R, within_N, in_R, in_N, inN_yes, inR_yes, inR_pred, orNone_nn, nn_m, nn_N, f_Ct_isDay, f_Ct_isThing, f_Ct_isKind, f_Ct_isRoomSeat, f_Ct_isOffice, f_Ct_isTable, f_Ct_isPaper, f_Ct_isRule, f_Ct_isDecision, f_Mo_isOffice, f_Mo_isTable, f_Mo_isPaper, f_Mo_isRule, f_Mo_isDecision, f_Mo_isDay, f_Mo_isThing, f_Mo_paperOf, f_Mo_set]
    rw [e2] at z1
    have e3 := e.trans z1
    rw [hτ] at e3
    simp -dsimp -implicitDefEqProofs (disch := omega) only [f_Mo_findWay, ↓l_m1, l_0, l_1, l_2, l_3, l_4, l_5, l_6, l_7, l_8, l_9, l_10, l_11, l_12, l_13, l_14, l_15, l_16, l_17, l_20, l_21, l_22, l_23, l_24, l_28, l_29, l_30, l_31, l_32, l_40, l_41, l_48, l_57, l_60, l_62, l_63, l_84, l_96, l_97, l_99, l_100, l_122, l_132, l_144, l_150, l_186, l_255, l_256, l_288, l_300, l_522, l_634, l_999, l_5242, l_5410, l_5420, l_5520, l_5528, l_9999, l_65535, l_65536, l_100000, l_16777215, l_252645135, l_858993459, l_1431655765, ↓reduceIte, Nat.reduceAdd, Nat.reduceMul, Nat.reduceSub, ixN, inbN, leT, leF, ltT, ltF, eqT, eqF, eqM, eqNone, addN, mulN, subN, m1N, ↓to_bnd, bnd_some, ↓to_nmT, nmT_eq, up2_r, up2_e, pk_us, pk_un, b2_t, b2_f, b2_0, b2_1, zB_1, zB_0, zB_b2, not_true_eq_false, not_false_eq_true, r_Mo, Nat.add_zero, Nat.add_sub_cancel, within_R, within_N, in_R, in_N, inN_yes, inR_yes, inR_pred, orNone_nn, nn_m, nn_N, f_Ct_isDay, f_Ct_isThing, f_Ct_isKind, f_Ct_isRoomSeat, f_Ct_isOffice, f_Ct_isTable, f_Ct_isPaper, f_Ct_isRule, f_Ct_isDecision, f_Mo_isOffice, f_Mo_isTable, f_Mo_isPaper, f_Mo_isRule, f_Mo_isDecision, f_Mo_isDay, f_Mo_isThing, f_Mo_paperOf, f_Mo_set, rm_4, rm_5, e3]
theorem p_way : Pr_way Inv := by
  intro σ a1 a2 a3 a4 hI
  obtain ⟨s, g, hs, bs, r0, hg, hV, hS, hR⟩ := Inv_open hI
  obtain ⟨nT, e3, l3, g3⟩ := cnt_of hV.2.2.1.1
  have o3 := hS.2.2.1.1
  rw [e3] at o3
  by_cases c0 : a1 < nI 0
  · refine ⟨-1000000001, σ, σ, ?_, ?_, hI⟩
    · simp -dsimp -implicitDefEqProofs (disch := omega) only [f_Ct_way_26, f_Ct_way_51, f_Ct_way, ↓l_m1, l_0, l_1, l_2, l_3, l_4, l_5, l_6, l_7, l_8, l_9, l_10, l_11, l_12, l_13, l_14, l_15, l_16, l_17, l_20, l_21, l_22, l_23, l_24, l_28, l_29, l_30, l_31, l_32, l_40, l_41, l_48, l_57, l_60, l_62, l_63, l_84, l_96, l_97, l_99, l_100, l_122, l_132, l_144, l_150, l_186, l_255, l_256, l_288, l_300, l_522, l_634, l_999, l_5242, l_5410, l_5420, l_5520, l_5528, l_9999, l_65535, l_65536, l_100000, l_16777215, l_252645135, l_858993459, l_1431655765, ↓reduceIte, Nat.reduceAdd, Nat.reduceMul, Nat.reduceSub, ixN, inbN, leT, leF, ltT, ltF, eqT, eqF, eqM, eqNone, addN, mulN, subN, m1N, ↓to_bnd, bnd_some, ↓to_nmT, nmT_eq, up2_r, up2_e, pk_us, pk_un, b2_t, b2_f, b2_0, b2_1, zB_1, zB_0, zB_b2, not_true_eq_false, not_false_eq_true, r_Mo, Nat.add_zero, Nat.add_sub_cancel, within_R, within_N, in_R, in_N, inN_yes, inR_yes, inR_pred, orNone_nn, nn_m, nn_N, f_Ct_isDay, f_Ct_isThing, f_Ct_isKind, f_Ct_isRoomSeat, f_Ct_isOffice, f_Ct_isTable, f_Ct_isPaper, f_Ct_isRule, f_Ct_isDecision, f_Mo_isOffice, f_Mo_isTable, f_Mo_isPaper, f_Mo_isRule, f_Mo_isDecision, f_Mo_isDay, f_Mo_isThing, f_Mo_paperOf, f_Mo_set, c0]
    · simp -dsimp -implicitDefEqProofs (disch := omega) only [f_Mo_way_48, f_Mo_way_125, f_Mo_way, ↓l_m1, l_0, l_1, l_2, l_3, l_4, l_5, l_6, l_7, l_8, l_9, l_10, l_11, l_12, l_13, l_14, l_15, l_16, l_17, l_20, l_21, l_22, l_23, l_24, l_28, l_29, l_30, l_31, l_32, l_40, l_41, l_48, l_57, l_60, l_62, l_63, l_84, l_96, l_97, l_99, l_100, l_122, l_132, l_144, l_150, l_186, l_255, l_256, l_288, l_300, l_522, l_634, l_999, l_5242, l_5410, l_5420, l_5520, l_5528, l_9999, l_65535, l_65536, l_100000, l_16777215, l_252645135, l_858993459, l_1431655765, ↓reduceIte, Nat.reduceAdd, Nat.reduceMul, Nat.reduceSub, ixN, inbN, leT, leF, ltT, ltF, eqT, eqF, eqM, eqNone, addN, mulN, subN, m1N, ↓to_bnd, bnd_some, ↓to_nmT, nmT_eq, up2_r, up2_e, pk_us, pk_un, b2_t, b2_f, b2_0, b2_1, zB_1, zB_0, zB_b2, not_true_eq_false, not_false_eq_true, r_Mo, Nat.add_zero, Nat.add_sub_cancel, within_R, within_N, in_R, in_N, inN_yes, inR_yes, inR_pred, orNone_nn, nn_m, nn_N, f_Ct_isDay, f_Ct_isThing, f_Ct_isKind, f_Ct_isRoomSeat, f_Ct_isOffice, f_Ct_isTable, f_Ct_isPaper, f_Ct_isRule, f_Ct_isDecision, f_Mo_isOffice, f_Mo_isTable, f_Mo_isPaper, f_Mo_isRule, f_Mo_isDecision, f_Mo_isDay, f_Mo_isThing, f_Mo_paperOf, f_Mo_set, c0]
  rcases inN_cases (a1 / nI 10) nT (by omega) with ⟨t, ht, et⟩ | c1
  · rcases inN_cases (irm a1 (nI 10)) nT (by omega) with ⟨u, hu, eu⟩ | c2
    · rcases inR_cases a2 0 999 (by omega) (by omega) with ⟨d, -, hd, rfl⟩ | c3
      · rcases inR_cases a3 0 30 (by omega) (by omega) with ⟨n, -, hn, rfl⟩ | c4
        · by_cases c5 : nI 0 ≤ a4
          · obtain ⟨σ1, z1, z2, z3⟩ := c_seek (n := n) (d := d) bs hV hS e3 l3 hn ht hu (by omega)
            have g1 : σ1 299 = g := by rw [z3 299 (by omega) (by omega) (by omega), hg]
            obtain ⟨σ2, w1, w2, w3, w4⟩ := mo_seek (n := n) (d := d) g1 hV e3 l3 hn ht hu (by omega)
            have hI2 : Inv σ2 := Inv_rest hI (fun a q => by rw [w3 a (by omega) (by omega) (by omega) (by omega), z3 a (by omega) (by omega) (by omega)]) (ReR_c hR (fun a q => by rw [w3 a (by omega) (by omega) (by omega) (by omega), z3 a (by omega) (by omega) (by omega)]) (by rw [w4 3 (by omega) (by omega), z3 298 (by omega) (by omega) (by omega)]) (by rw [w4 10 (by omega) (by omega), z3 298 (by omega) (by omega) (by omega)]) (by rw [w4 44 (by omega) (by omega), z3 298 (by omega) (by omega) (by omega)]))
            obtain ⟨b, hb⟩ : ∃ b, wyF g nT u n 6 (fun _ => 0) 0 t d (0, 0, fun _ => 0) = b := ⟨_, rfl⟩
            rw [hb] at z2 w2
            obtain ⟨b1, b2', b3⟩ := b
            obtain ⟨q1, q2, q3, q4, q5⟩ := z2
            obtain ⟨-, -, v3, v4, v5⟩ := w2
            dsimp only at q1 q2 q3 q4 q5 v3 v4 v5
            have o3' : σ1 (s + 5) 4 = nI nT := by rw [z3 (s + 5) (by omega) (by omega) (by omega)]; exact o3
            rcases inR_cases a4 0 2147483647 (by omega) (by omega) with ⟨w, -, hw, rfl⟩ | c6
            · by_cases k0 : b1 = 0
              · subst k0
                refine ⟨-1000000005, σ1, σ2, ?_, ?_, hI2⟩
                · simp -dsimp -implicitDefEqProofs (disch := omega) only [f_Ct_way_26, f_Ct_way_51, f_Ct_way, f_Wf_answer_52, f_Wf_answer, ↓l_m1, l_0, l_1, l_2, l_3, l_4, l_5, l_6, l_7, l_8, l_9, l_10, l_11, l_12, l_13, l_14, l_15, l_16, l_17, l_20, l_21, l_22, l_23, l_24, l_28, l_29, l_30, l_31, l_32, l_40, l_41, l_48, l_57, l_60, l_62, l_63, l_84, l_96, l_97, l_99, l_100, l_122, l_132, l_144, l_150, l_186, l_255, l_256, l_288, l_300, l_522, l_634, l_999, l_5242, l_5410, l_5420, l_5520, l_5528, l_9999, l_65535, l_65536, l_100000, l_16777215, l_252645135, l_858993459, l_1431655765, ↓reduceIte, Nat.reduceAdd, Nat.reduceMul, Nat.reduceSub, ixN, inbN, leT, leF, ltT, ltF, eqT, eqF, eqM, eqNone, addN, mulN, subN, m1N, ↓to_bnd, bnd_some, ↓to_nmT, nmT_eq, up2_r, up2_e, pk_us, pk_un, b2_t, b2_f, b2_0, b2_1, zB_1, zB_0, zB_b2, not_true_eq_false, not_false_eq_true, r_Mo, Nat.add_zero, Nat.add_sub_cancel, within_R, within_N, in_R, in_N, inN_yes, inR_yes, inR_pred, orNone_nn, nn_m, nn_N, f_Ct_isDay, f_Ct_isThing, f_Ct_isKind, f_Ct_isRoomSeat, f_Ct_isOffice, f_Ct_isTable, f_Ct_isPaper, f_Ct_isRule, f_Ct_isDecision, f_Mo_isOffice, f_Mo_isTable, f_Mo_isPaper, f_Mo_isRule, f_Mo_isDecision, f_Mo_isDay, f_Mo_isThing, f_Mo_paperOf, f_Mo_set, c0, et, eu, r0, r_s1 bs, rc_3, o3, z1, q3]
                · simp -dsimp -implicitDefEqProofs (disch := omega) only [f_Mo_way_48, f_Mo_way_125, f_Mo_way, ↓l_m1, l_0, l_1, l_2, l_3, l_4, l_5, l_6, l_7, l_8, l_9, l_10, l_11, l_12, l_13, l_14, l_15, l_16, l_17, l_20, l_21, l_22, l_23, l_24, l_28, l_29, l_30, l_31, l_32, l_40, l_41, l_48, l_57, l_60, l_62, l_63, l_84, l_96, l_97, l_99, l_100, l_122, l_132, l_144, l_150, l_186, l_255, l_256, l_288, l_300, l_522, l_634, l_999, l_5242, l_5410, l_5420, l_5520, l_5528, l_9999, l_65535, l_65536, l_100000, l_16777215, l_252645135, l_858993459, l_1431655765, ↓reduceIte, Nat.reduceAdd, Nat.reduceMul, Nat.reduceSub, ixN, inbN, leT, leF, ltT, ltF, eqT, eqF, eqM, eqNone, addN, mulN, subN, m1N, ↓to_bnd, bnd_some, ↓to_nmT, nmT_eq, up2_r, up2_e, pk_us, pk_un, b2_t, b2_f, b2_0, b2_1, zB_1, zB_0, zB_b2, not_true_eq_false, not_false_eq_true, r_Mo, Nat.add_zero, Nat.add_sub_cancel, within_R, within_N, in_R, in_N, inN_yes, inR_yes, inR_pred, orNone_nn, nn_m, nn_N, f_Ct_isDay, f_Ct_isThing, f_Ct_isKind, f_Ct_isRoomSeat, f_Ct_isOffice, f_Ct_isTable, f_Ct_isPaper, f_Ct_isRule, f_Ct_isDecision, f_Mo_isOffice, f_Mo_isTable, f_Mo_isPaper, f_Mo_isRule, f_Mo_isDecision, f_Mo_isDay, f_Mo_isThing, f_Mo_paperOf, f_Mo_set, c0, et, eu, g1, e3, w1, v3]
              · have q4' := q4 k0
                have v4' := v4 k0
                by_cases k1 : w = 0
                · subst k1
                  refine ⟨nI b2', σ1, σ2, ?_, ?_, hI2⟩
                  · simp -dsimp -implicitDefEqProofs (disch := omega) only [f_Ct_way_26, f_Ct_way_51, f_Ct_way, f_Wf_answer_52, f_Wf_answer, ↓l_m1, l_0, l_1, l_2, l_3, l_4, l_5, l_6, l_7, l_8, l_9, l_10, l_11, l_12, l_13, l_14, l_15, l_16, l_17, l_20, l_21, l_22, l_23, l_24, l_28, l_29, l_30, l_31, l_32, l_40, l_41, l_48, l_57, l_60, l_62, l_63, l_84, l_96, l_97, l_99, l_100, l_122, l_132, l_144, l_150, l_186, l_255, l_256, l_288, l_300, l_522, l_634, l_999, l_5242, l_5410, l_5420, l_5520, l_5528, l_9999, l_65535, l_65536, l_100000, l_16777215, l_252645135, l_858993459, l_1431655765, ↓reduceIte, Nat.reduceAdd, Nat.reduceMul, Nat.reduceSub, ixN, inbN, leT, leF, ltT, ltF, eqT, eqF, eqM, eqNone, addN, mulN, subN, m1N, ↓to_bnd, bnd_some, ↓to_nmT, nmT_eq, up2_r, up2_e, pk_us, pk_un, b2_t, b2_f, b2_0, b2_1, zB_1, zB_0, zB_b2, not_true_eq_false, not_false_eq_true, r_Mo, Nat.add_zero, Nat.add_sub_cancel, within_R, within_N, in_R, in_N, inN_yes, inR_yes, inR_pred, orNone_nn, nn_m, nn_N, f_Ct_isDay, f_Ct_isThing, f_Ct_isKind, f_Ct_isRoomSeat, f_Ct_isOffice, f_Ct_isTable, f_Ct_isPaper, f_Ct_isRule, f_Ct_isDecision, f_Mo_isOffice, f_Mo_isTable, f_Mo_isPaper, f_Mo_isRule, f_Mo_isDecision, f_Mo_isDay, f_Mo_isThing, f_Mo_paperOf, f_Mo_set, c0, et, eu, r0, r_s1 bs, rc_3, o3, z1, q3, q4']
                  · simp -dsimp -implicitDefEqProofs (disch := omega) only [f_Mo_way_48, f_Mo_way_125, f_Mo_way, ↓l_m1, l_0, l_1, l_2, l_3, l_4, l_5, l_6, l_7, l_8, l_9, l_10, l_11, l_12, l_13, l_14, l_15, l_16, l_17, l_20, l_21, l_22, l_23, l_24, l_28, l_29, l_30, l_31, l_32, l_40, l_41, l_48, l_57, l_60, l_62, l_63, l_84, l_96, l_97, l_99, l_100, l_122, l_132, l_144, l_150, l_186, l_255, l_256, l_288, l_300, l_522, l_634, l_999, l_5242, l_5410, l_5420, l_5520, l_5528, l_9999, l_65535, l_65536, l_100000, l_16777215, l_252645135, l_858993459, l_1431655765, ↓reduceIte, Nat.reduceAdd, Nat.reduceMul, Nat.reduceSub, ixN, inbN, leT, leF, ltT, ltF, eqT, eqF, eqM, eqNone, addN, mulN, subN, m1N, ↓to_bnd, bnd_some, ↓to_nmT, nmT_eq, up2_r, up2_e, pk_us, pk_un, b2_t, b2_f, b2_0, b2_1, zB_1, zB_0, zB_b2, not_true_eq_false, not_false_eq_true, r_Mo, Nat.add_zero, Nat.add_sub_cancel, within_R, within_N, in_R, in_N, inN_yes, inR_yes, inR_pred, orNone_nn, nn_m, nn_N, f_Ct_isDay, f_Ct_isThing, f_Ct_isKind, f_Ct_isRoomSeat, f_Ct_isOffice, f_Ct_isTable, f_Ct_isPaper, f_Ct_isRule, f_Ct_isDecision, f_Mo_isOffice, f_Mo_isTable, f_Mo_isPaper, f_Mo_isRule, f_Mo_isDecision, f_Mo_isDay, f_Mo_isThing, f_Mo_paperOf, f_Mo_set, c0, et, eu, g1, e3, w1, v3, v4']
                · by_cases k2 : w = 1
                  · subst k2
                    refine ⟨nI b1, σ1, σ2, ?_, ?_, hI2⟩
                    · simp -dsimp -implicitDefEqProofs (disch := omega) only [f_Ct_way_26, f_Ct_way_51, f_Ct_way, f_Wf_answer_52, f_Wf_answer, ↓l_m1, l_0, l_1, l_2, l_3, l_4, l_5, l_6, l_7, l_8, l_9, l_10, l_11, l_12, l_13, l_14, l_15, l_16, l_17, l_20, l_21, l_22, l_23, l_24, l_28, l_29, l_30, l_31, l_32, l_40, l_41, l_48, l_57, l_60, l_62, l_63, l_84, l_96, l_97, l_99, l_100, l_122, l_132, l_144, l_150, l_186, l_255, l_256, l_288, l_300, l_522, l_634, l_999, l_5242, l_5410, l_5420, l_5520, l_5528, l_9999, l_65535, l_65536, l_100000, l_16777215, l_252645135, l_858993459, l_1431655765, ↓reduceIte, Nat.reduceAdd, Nat.reduceMul, Nat.reduceSub, ixN, inbN, leT, leF, ltT, ltF, eqT, eqF, eqM, eqNone, addN, mulN, subN, m1N, ↓to_bnd, bnd_some, ↓to_nmT, nmT_eq, up2_r, up2_e, pk_us, pk_un, b2_t, b2_f, b2_0, b2_1, zB_1, zB_0, zB_b2, not_true_eq_false, not_false_eq_true, r_Mo, Nat.add_zero, Nat.add_sub_cancel, within_R, within_N, in_R, in_N, inN_yes, inR_yes, inR_pred, orNone_nn, nn_m, nn_N, f_Ct_isDay, f_Ct_isThing, f_Ct_isKind, f_Ct_isRoomSeat, f_Ct_isOffice, f_Ct_isTable, f_Ct_isPaper, f_Ct_isRule, f_Ct_isDecision, f_Mo_isOffice, f_Mo_isTable, f_Mo_isPaper, f_Mo_isRule, f_Mo_isDecision, f_Mo_isDay, f_Mo_isThing, f_Mo_paperOf, f_Mo_set, c0, et, eu, r0, r_s1 bs, rc_3, o3, z1, q3, q4']
                    · simp -dsimp -implicitDefEqProofs (disch := omega) only [f_Mo_way_48, f_Mo_way_125, f_Mo_way, ↓l_m1, l_0, l_1, l_2, l_3, l_4, l_5, l_6, l_7, l_8, l_9, l_10, l_11, l_12, l_13, l_14, l_15, l_16, l_17, l_20, l_21, l_22, l_23, l_24, l_28, l_29, l_30, l_31, l_32, l_40, l_41, l_48, l_57, l_60, l_62, l_63, l_84, l_96, l_97, l_99, l_100, l_122, l_132, l_144, l_150, l_186, l_255, l_256, l_288, l_300, l_522, l_634, l_999, l_5242, l_5410, l_5420, l_5520, l_5528, l_9999, l_65535, l_65536, l_100000, l_16777215, l_252645135, l_858993459, l_1431655765, ↓reduceIte, Nat.reduceAdd, Nat.reduceMul, Nat.reduceSub, ixN, inbN, leT, leF, ltT, ltF, eqT, eqF, eqM, eqNone, addN, mulN, subN, m1N, ↓to_bnd, bnd_some, ↓to_nmT, nmT_eq, up2_r, up2_e, pk_us, pk_un, b2_t, b2_f, b2_0, b2_1, zB_1, zB_0, zB_b2, not_true_eq_false, not_false_eq_true, r_Mo, Nat.add_zero, Nat.add_sub_cancel, within_R, within_N, in_R, in_N, inN_yes, inR_yes, inR_pred, orNone_nn, nn_m, nn_N, f_Ct_isDay, f_Ct_isThing, f_Ct_isKind, f_Ct_isRoomSeat, f_Ct_isOffice, f_Ct_isTable, f_Ct_isPaper, f_Ct_isRule, f_Ct_isDecision, f_Mo_isOffice, f_Mo_isTable, f_Mo_isPaper, f_Mo_isRule, f_Mo_isDecision, f_Mo_isDay, f_Mo_isThing, f_Mo_paperOf, f_Mo_set, c0, et, eu, g1, e3, w1, v3, v4']
                  · by_cases k3 : b1 ≤ w - 2
                    · refine ⟨-1000000005, σ1, σ2, ?_, ?_, hI2⟩
                      · simp -dsimp -implicitDefEqProofs (disch := omega) only [f_Ct_way_26, f_Ct_way_51, f_Ct_way, f_Wf_answer_52, f_Wf_answer, ↓l_m1, l_0, l_1, l_2, l_3, l_4, l_5, l_6, l_7, l_8, l_9, l_10, l_11, l_12, l_13, l_14, l_15, l_16, l_17, l_20, l_21, l_22, l_23, l_24, l_28, l_29, l_30, l_31, l_32, l_40, l_41, l_48, l_57, l_60, l_62, l_63, l_84, l_96, l_97, l_99, l_100, l_122, l_132, l_144, l_150, l_186, l_255, l_256, l_288, l_300, l_522, l_634, l_999, l_5242, l_5410, l_5420, l_5520, l_5528, l_9999, l_65535, l_65536, l_100000, l_16777215, l_252645135, l_858993459, l_1431655765, ↓reduceIte, Nat.reduceAdd, Nat.reduceMul, Nat.reduceSub, ixN, inbN, leT, leF, ltT, ltF, eqT, eqF, eqM, eqNone, addN, mulN, subN, m1N, ↓to_bnd, bnd_some, ↓to_nmT, nmT_eq, up2_r, up2_e, pk_us, pk_un, b2_t, b2_f, b2_0, b2_1, zB_1, zB_0, zB_b2, not_true_eq_false, not_false_eq_true, r_Mo, Nat.add_zero, Nat.add_sub_cancel, within_R, within_N, in_R, in_N, inN_yes, inR_yes, inR_pred, orNone_nn, nn_m, nn_N, f_Ct_isDay, f_Ct_isThing, f_Ct_isKind, f_Ct_isRoomSeat, f_Ct_isOffice, f_Ct_isTable, f_Ct_isPaper, f_Ct_isRule, f_Ct_isDecision, f_Mo_isOffice, f_Mo_isTable, f_Mo_isPaper, f_Mo_isRule, f_Mo_isDecision, f_Mo_isDay, f_Mo_isThing, f_Mo_paperOf, f_Mo_set, c0, et, eu, r0, r_s1 bs, rc_3, o3, z1, q3, q4']
                      · simp -dsimp -implicitDefEqProofs (disch := omega) only [f_Mo_way_48, f_Mo_way_125, f_Mo_way, ↓l_m1, l_0, l_1, l_2, l_3, l_4, l_5, l_6, l_7, l_8, l_9, l_10, l_11, l_12, l_13, l_14, l_15, l_16, l_17, l_20, l_21, l_22, l_23, l_24, l_28, l_29, l_30, l_31, l_32, l_40, l_41, l_48, l_57, l_60, l_62, l_63, l_84, l_96, l_97, l_99, l_100, l_122, l_132, l_144, l_150, l_186, l_255, l_256, l_288, l_300, l_522, l_634, l_999, l_5242, l_5410, l_5420, l_5520, l_5528, l_9999, l_65535, l_65536, l_100000, l_16777215, l_252645135, l_858993459, l_1431655765, ↓reduceIte, Nat.reduceAdd, Nat.reduceMul, Nat.reduceSub, ixN, inbN, leT, leF, ltT, ltF, eqT, eqF, eqM, eqNone, addN, mulN, subN, m1N, ↓to_bnd, bnd_some, ↓to_nmT, nmT_eq, up2_r, up2_e, pk_us, pk_un, b2_t, b2_f, b2_0, b2_1, zB_1, zB_0, zB_b2, not_true_eq_false, not_false_eq_true, r_Mo, Nat.add_zero, Nat.add_sub_cancel, within_R, within_N, in_R, in_N, inN_yes, inR_yes, inR_pred, orNone_nn, nn_m, nn_N, f_Ct_isDay, f_Ct_isThing, f_Ct_isKind, f_Ct_isRoomSeat, f_Ct_isOffice, f_Ct_isTable, f_Ct_isPaper, f_Ct_isRule, f_Ct_isDecision, f_Mo_isOffice, f_Mo_isTable, f_Mo_isPaper, f_Mo_isRule, f_Mo_isDecision, f_Mo_isDay, f_Mo_isThing, f_Mo_paperOf, f_Mo_set, c0, et, eu, g1, e3, w1, v3, v4']
                    · have q5' := q5 (w - 2) (by omega)
                      have v5' := v5 (w - 2) (by omega)
                      refine ⟨nI (b3 (w - 2)), σ1, σ2, ?_, ?_, hI2⟩
                      · simp -dsimp -implicitDefEqProofs (disch := omega) only [f_Ct_way_26, f_Ct_way_51, f_Ct_way, f_Wf_answer_52, f_Wf_answer, ↓l_m1, l_0, l_1, l_2, l_3, l_4, l_5, l_6, l_7, l_8, l_9, l_10, l_11, l_12, l_13, l_14, l_15, l_16, l_17, l_20, l_21, l_22, l_23, l_24, l_28, l_29, l_30, l_31, l_32, l_40, l_41, l_48, l_57, l_60, l_62, l_63, l_84, l_96, l_97, l_99, l_100, l_122, l_132, l_144, l_150, l_186, l_255, l_256, l_288, l_300, l_522, l_634, l_999, l_5242, l_5410, l_5420, l_5520, l_5528, l_9999, l_65535, l_65536, l_100000, l_16777215, l_252645135, l_858993459, l_1431655765, ↓reduceIte, Nat.reduceAdd, Nat.reduceMul, Nat.reduceSub, ixN, inbN, leT, leF, ltT, ltF, eqT, eqF, eqM, eqNone, addN, mulN, subN, m1N, ↓to_bnd, bnd_some, ↓to_nmT, nmT_eq, up2_r, up2_e, pk_us, pk_un, b2_t, b2_f, b2_0, b2_1, zB_1, zB_0, zB_b2, not_true_eq_false, not_false_eq_true, r_Mo, Nat.add_zero, Nat.add_sub_cancel, within_R, within_N, in_R, in_N, inN_yes, inR_yes, inR_pred, orNone_nn, nn_m, nn_N, f_Ct_isDay, f_Ct_isThing, f_Ct_isKind, f_Ct_isRoomSeat, f_Ct_isOffice, f_Ct_isTable, f_Ct_isPaper, f_Ct_isRule, f_Ct_isDecision, f_Mo_isOffice, f_Mo_isTable, f_Mo_isPaper, f_Mo_isRule, f_Mo_isDecision, f_Mo_isDay, f_Mo_isThing, f_Mo_paperOf, f_Mo_set, c0, et, eu, r0, r_s1 bs, rc_3, rw_1, o3, z1, q3, q4', q5']
                      · simp -dsimp -implicitDefEqProofs (disch := omega) only [f_Mo_way_48, f_Mo_way_125, f_Mo_way, ↓l_m1, l_0, l_1, l_2, l_3, l_4, l_5, l_6, l_7, l_8, l_9, l_10, l_11, l_12, l_13, l_14, l_15, l_16, l_17, l_20, l_21, l_22, l_23, l_24, l_28, l_29, l_30, l_31, l_32, l_40, l_41, l_48, l_57, l_60, l_62, l_63, l_84, l_96, l_97, l_99, l_100, l_122, l_132, l_144, l_150, l_186, l_255, l_256, l_288, l_300, l_522, l_634, l_999, l_5242, l_5410, l_5420, l_5520, l_5528, l_9999, l_65535, l_65536, l_100000, l_16777215, l_252645135, l_858993459, l_1431655765, ↓reduceIte, Nat.reduceAdd, Nat.reduceMul, Nat.reduceSub, ixN, inbN, leT, leF, ltT, ltF, eqT, eqF, eqM, eqNone, addN, mulN, subN, m1N, ↓to_bnd, bnd_some, ↓to_nmT, nmT_eq, up2_r, up2_e, pk_us, pk_un, b2_t, b2_f, b2_0, b2_1, zB_1, zB_0, zB_b2, not_true_eq_false, not_false_eq_true, r_Mo, Nat.add_zero, Nat.add_sub_cancel, within_R, within_N, in_R, in_N, inN_yes, inR_yes, inR_pred, orNone_nn, nn_m, nn_N, f_Ct_isDay, f_Ct_isThing, f_Ct_isKind, f_Ct_isRoomSeat, f_Ct_isOffice, f_Ct_isTable, f_Ct_isPaper, f_Ct_isRule, f_Ct_isDecision, f_Mo_isOffice, f_Mo_isTable, f_Mo_isPaper, f_Mo_isRule, f_Mo_isDecision, f_Mo_isDay, f_Mo_isThing, f_Mo_paperOf, f_Mo_set, c0, et, eu, g1, e3, rm_6, w1, v3, v4', v5']
            · exfalso
              unfold inR at c6
              rw [decide_eq_true c5, Bool.true_and] at c6
              have := of_decide_eq_false c6
              rw [Int32.le_iff_toInt_le, toN (by omega)] at this
              have h2 := Int32.toInt_lt a4
              omega
          · refine ⟨-1000000001, σ, σ, ?_, ?_, hI⟩
            · simp -dsimp -implicitDefEqProofs (disch := omega) only [f_Ct_way_26, f_Ct_way_51, f_Ct_way, ↓l_m1, l_0, l_1, l_2, l_3, l_4, l_5, l_6, l_7, l_8, l_9, l_10, l_11, l_12, l_13, l_14, l_15, l_16, l_17, l_20, l_21, l_22, l_23, l_24, l_28, l_29, l_30, l_31, l_32, l_40, l_41, l_48, l_57, l_60, l_62, l_63, l_84, l_96, l_97, l_99, l_100, l_122, l_132, l_144, l_150, l_186, l_255, l_256, l_288, l_300, l_522, l_634, l_999, l_5242, l_5410, l_5420, l_5520, l_5528, l_9999, l_65535, l_65536, l_100000, l_16777215, l_252645135, l_858993459, l_1431655765, ↓reduceIte, Nat.reduceAdd, Nat.reduceMul, Nat.reduceSub, ixN, inbN, leT, leF, ltT, ltF, eqT, eqF, eqM, eqNone, addN, mulN, subN, m1N, ↓to_bnd, bnd_some, ↓to_nmT, nmT_eq, up2_r, up2_e, pk_us, pk_un, b2_t, b2_f, b2_0, b2_1, zB_1, zB_0, zB_b2, not_true_eq_false, not_false_eq_true, r_Mo, Nat.add_zero, Nat.add_sub_cancel, within_R, within_N, in_R, in_N, inN_yes, inR_yes, inR_pred, orNone_nn, nn_m, nn_N, f_Ct_isDay, f_Ct_isThing, f_Ct_isKind, f_Ct_isRoomSeat, f_Ct_isOffice, f_Ct_isTable, f_Ct_isPaper, f_Ct_isRule, f_Ct_isDecision, f_Mo_isOffice, f_Mo_isTable, f_Mo_isPaper, f_Mo_isRule, f_Mo_isDecision, f_Mo_isDay, f_Mo_isThing, f_Mo_paperOf, f_Mo_set, c0, et, eu, r0, r_s1 bs, o3, c5]
            · simp -dsimp -implicitDefEqProofs (disch := omega) only [f_Mo_way_48, f_Mo_way_125, f_Mo_way, ↓l_m1, l_0, l_1, l_2, l_3, l_4, l_5, l_6, l_7, l_8, l_9, l_10, l_11, l_12, l_13, l_14, l_15, l_16, l_17, l_20, l_21, l_22, l_23, l_24, l_28, l_29, l_30, l_31, l_32, l_40, l_41, l_48, l_57, l_60, l_62, l_63, l_84, l_96, l_97, l_99, l_100, l_122, l_132, l_144, l_150, l_186, l_255, l_256, l_288, l_300, l_522, l_634, l_999, l_5242, l_5410, l_5420, l_5520, l_5528, l_9999, l_65535, l_65536, l_100000, l_16777215, l_252645135, l_858993459, l_1431655765, ↓reduceIte, Nat.reduceAdd, Nat.reduceMul, Nat.reduceSub, ixN, inbN, leT, leF, ltT, ltF, eqT, eqF, eqM, eqNone, addN, mulN, subN, m1N, ↓to_bnd, bnd_some, ↓to_nmT, nmT_eq, up2_r, up2_e, pk_us, pk_un, b2_t, b2_f, b2_0, b2_1, zB_1, zB_0, zB_b2, not_true_eq_false, not_false_eq_true, r_Mo, Nat.add_zero, Nat.add_sub_cancel, within_R, within_N, in_R, in_N, inN_yes, inR_yes, inR_pred, orNone_nn, nn_m, nn_N, f_Ct_isDay, f_Ct_isThing, f_Ct_isKind, f_Ct_isRoomSeat, f_Ct_isOffice, f_Ct_isTable, f_Ct_isPaper, f_Ct_isRule, f_Ct_isDecision, f_Mo_isOffice, f_Mo_isTable, f_Mo_isPaper, f_Mo_isRule, f_Mo_isDecision, f_Mo_isDay, f_Mo_isThing, f_Mo_paperOf, f_Mo_set, c0, et, eu, hg, e3, c5]
        · refine ⟨-1000000001, σ, σ, ?_, ?_, hI⟩
          · simp -dsimp -implicitDefEqProofs (disch := omega) only [f_Ct_way_26, f_Ct_way_51, f_Ct_way, ↓l_m1, l_0, l_1, l_2, l_3, l_4, l_5, l_6, l_7, l_8, l_9, l_10, l_11, l_12, l_13, l_14, l_15, l_16, l_17, l_20, l_21, l_22, l_23, l_24, l_28, l_29, l_30, l_31, l_32, l_40, l_41, l_48, l_57, l_60, l_62, l_63, l_84, l_96, l_97, l_99, l_100, l_122, l_132, l_144, l_150, l_186, l_255, l_256, l_288, l_300, l_522, l_634, l_999, l_5242, l_5410, l_5420, l_5520, l_5528, l_9999, l_65535, l_65536, l_100000, l_16777215, l_252645135, l_858993459, l_1431655765, ↓reduceIte, Nat.reduceAdd, Nat.reduceMul, Nat.reduceSub, ixN, inbN, leT, leF, ltT, ltF, eqT, eqF, eqM, eqNone, addN, mulN, subN, m1N, ↓to_bnd, bnd_some, ↓to_nmT, nmT_eq, up2_r, up2_e, pk_us, pk_un, b2_t, b2_f, b2_0, b2_1, zB_1, zB_0, zB_b2, not_true_eq_false, not_false_eq_true, r_Mo, Nat.add_zero, Nat.add_sub_cancel, within_R, within_N, in_R, in_N, inN_yes, inR_yes, inR_pred, orNone_nn, nn_m, nn_N, f_Ct_isDay, f_Ct_isThing, f_Ct_isKind, f_Ct_isRoomSeat, f_Ct_isOffice, f_Ct_isTable, f_Ct_isPaper, f_Ct_isRule, f_Ct_isDecision, f_Mo_isOffice, f_Mo_isTable, f_Mo_isPaper, f_Mo_isRule, f_Mo_isDecision, f_Mo_isDay, f_Mo_isThing, f_Mo_paperOf, f_Mo_set, c0, et, eu, r0, r_s1 bs, o3, c4]
          · simp -dsimp -implicitDefEqProofs (disch := omega) only [f_Mo_way_48, f_Mo_way_125, f_Mo_way, ↓l_m1, l_0, l_1, l_2, l_3, l_4, l_5, l_6, l_7, l_8, l_9, l_10, l_11, l_12, l_13, l_14, l_15, l_16, l_17, l_20, l_21, l_22, l_23, l_24, l_28, l_29, l_30, l_31, l_32, l_40, l_41, l_48, l_57, l_60, l_62, l_63, l_84, l_96, l_97, l_99, l_100, l_122, l_132, l_144, l_150, l_186, l_255, l_256, l_288, l_300, l_522, l_634, l_999, l_5242, l_5410, l_5420, l_5520, l_5528, l_9999, l_65535, l_65536, l_100000, l_16777215, l_252645135, l_858993459, l_1431655765, ↓reduceIte, Nat.reduceAdd, Nat.reduceMul, Nat.reduceSub, ixN, inbN, leT, leF, ltT, ltF, eqT, eqF, eqM, eqNone, addN, mulN, subN, m1N, ↓to_bnd, bnd_some, ↓to_nmT, nmT_eq, up2_r, up2_e, pk_us, pk_un, b2_t, b2_f, b2_0, b2_1, zB_1, zB_0, zB_b2, not_true_eq_false, not_false_eq_true, r_Mo, Nat.add_zero, Nat.add_sub_cancel, within_R, within_N, in_R, in_N, inN_yes, inR_yes, inR_pred, orNone_nn, nn_m, nn_N, f_Ct_isDay, f_Ct_isThing, f_Ct_isKind, f_Ct_isRoomSeat, f_Ct_isOffice, f_Ct_isTable, f_Ct_isPaper, f_Ct_isRule, f_Ct_isDecision, f_Mo_isOffice, f_Mo_isTable, f_Mo_isPaper, f_Mo_isRule, f_Mo_isDecision, f_Mo_isDay, f_Mo_isThing, f_Mo_paperOf, f_Mo_set, c0, et, eu, hg, e3, c4]
      · refine ⟨-1000000001, σ, σ, ?_, ?_, hI⟩
        · simp -dsimp -implicitDefEqProofs (disch := omega) only [f_Ct_way_26, f_Ct_way_51, f_Ct_way, ↓l_m1, l_0, l_1, l_2, l_3, l_4, l_5, l_6, l_7, l_8, l_9, l_10, l_11, l_12, l_13, l_14, l_15, l_16, l_17, l_20, l_21, l_22, l_23, l_24, l_28, l_29, l_30, l_31, l_32, l_40, l_41, l_48, l_57, l_60, l_62, l_63, l_84, l_96, l_97, l_99, l_100, l_122, l_132, l_144, l_150, l_186, l_255, l_256, l_288, l_300, l_522, l_634, l_999, l_5242, l_5410, l_5420, l_5520, l_5528, l_9999, l_65535, l_65536, l_100000, l_16777215, l_252645135, l_858993459, l_1431655765, ↓reduceIte, Nat.reduceAdd, Nat.reduceMul, Nat.reduceSub, ixN, inbN, leT, leF, ltT, ltF, eqT, eqF, eqM, eqNone, addN, mulN, subN, m1N, ↓to_bnd, bnd_some, ↓to_nmT, nmT_eq, up2_r, up2_e, pk_us, pk_un, b2_t, b2_f, b2_0, b2_1, zB_1, zB_0, zB_b2, not_true_eq_false, not_false_eq_true, r_Mo, Nat.add_zero, Nat.add_sub_cancel, within_R, within_N, in_R, in_N, inN_yes, inR_yes, inR_pred, orNone_nn, nn_m, nn_N, f_Ct_isDay, f_Ct_isThing, f_Ct_isKind, f_Ct_isRoomSeat, f_Ct_isOffice, f_Ct_isTable, f_Ct_isPaper, f_Ct_isRule, f_Ct_isDecision, f_Mo_isOffice, f_Mo_isTable, f_Mo_isPaper, f_Mo_isRule, f_Mo_isDecision, f_Mo_isDay, f_Mo_isThing, f_Mo_paperOf, f_Mo_set, c0, et, eu, r0, r_s1 bs, o3, c3]
        · simp -dsimp -implicitDefEqProofs (disch := omega) only [f_Mo_way_48, f_Mo_way_125, f_Mo_way, ↓l_m1, l_0, l_1, l_2, l_3, l_4, l_5, l_6, l_7, l_8, l_9, l_10, l_11, l_12, l_13, l_14, l_15, l_16, l_17, l_20, l_21, l_22, l_23, l_24, l_28, l_29, l_30, l_31, l_32, l_40, l_41, l_48, l_57, l_60, l_62, l_63, l_84, l_96, l_97, l_99, l_100, l_122, l_132, l_144, l_150, l_186, l_255, l_256, l_288, l_300, l_522, l_634, l_999, l_5242, l_5410, l_5420, l_5520, l_5528, l_9999, l_65535, l_65536, l_100000, l_16777215, l_252645135, l_858993459, l_1431655765, ↓reduceIte, Nat.reduceAdd, Nat.reduceMul, Nat.reduceSub, ixN, inbN, leT, leF, ltT, ltF, eqT, eqF, eqM, eqNone, addN, mulN, subN, m1N, ↓to_bnd, bnd_some, ↓to_nmT, nmT_eq, up2_r, up2_e, pk_us, pk_un, b2_t, b2_f, b2_0, b2_1, zB_1, zB_0, zB_b2, not_true_eq_false, not_false_eq_true, r_Mo, Nat.add_zero, Nat.add_sub_cancel, within_R, within_N, in_R, in_N, inN_yes, inR_yes, inR_pred, orNone_nn, nn_m, nn_N, f_Ct_isDay, f_Ct_isThing, f_Ct_isKind, f_Ct_isRoomSeat, f_Ct_isOffice, f_Ct_isTable, f_Ct_isPaper, f_Ct_isRule, f_Ct_isDecision, f_Mo_isOffice, f_Mo_isTable, f_Mo_isPaper, f_Mo_isRule, f_Mo_isDecision, f_Mo_isDay, f_Mo_isThing, f_Mo_paperOf, f_Mo_set, c0, et, eu, hg, e3, c3]
    · refine ⟨-1000000001, σ, σ, ?_, ?_, hI⟩
      · simp -dsimp -implicitDefEqProofs (disch := omega) only [f_Ct_way_26, f_Ct_way_51, f_Ct_way, ↓l_m1, l_0, l_1, l_2, l_3, l_4, l_5, l_6, l_7, l_8, l_9, l_10, l_11, l_12, l_13, l_14, l_15, l_16, l_17, l_20, l_21, l_22, l_23, l_24, l_28, l_29, l_30, l_31, l_32, l_40, l_41, l_48, l_57, l_60, l_62, l_63, l_84, l_96, l_97, l_99, l_100, l_122, l_132, l_144, l_150, l_186, l_255, l_256, l_288, l_300, l_522, l_634, l_999, l_5242, l_5410, l_5420, l_5520, l_5528, l_9999, l_65535, l_65536, l_100000, l_16777215, l_252645135, l_858993459, l_1431655765, ↓reduceIte, Nat.reduceAdd, Nat.reduceMul, Nat.reduceSub, ixN, inbN, leT, leF, ltT, ltF, eqT, eqF, eqM, eqNone, addN, mulN, subN, m1N, ↓to_bnd, bnd_some, ↓to_nmT, nmT_eq, up2_r, up2_e, pk_us, pk_un, b2_t, b2_f, b2_0, b2_1, zB_1, zB_0, zB_b2, not_true_eq_false, not_false_eq_true, r_Mo, Nat.add_zero, Nat.add_sub_cancel, within_R, within_N, in_R, in_N, inN_yes, inR_yes, inR_pred, orNone_nn, nn_m, nn_N, f_Ct_isDay, f_Ct_isThing, f_Ct_isKind, f_Ct_isRoomSeat, f_Ct_isOffice, f_Ct_isTable, f_Ct_isPaper, f_Ct_isRule, f_Ct_isDecision, f_Mo_isOffice, f_Mo_isTable, f_Mo_isPaper, f_Mo_isRule, f_Mo_isDecision, f_Mo_isDay, f_Mo_isThing, f_Mo_paperOf, f_Mo_set, c0, et, r0, r_s1 bs, o3, c2]
      · simp -dsimp -implicitDefEqProofs (disch := omega) only [f_Mo_way_48, f_Mo_way_125, f_Mo_way, ↓l_m1, l_0, l_1, l_2, l_3, l_4, l_5, l_6, l_7, l_8, l_9, l_10, l_11, l_12, l_13, l_14, l_15, l_16, l_17, l_20, l_21, l_22, l_23, l_24, l_28, l_29, l_30, l_31, l_32, l_40, l_41, l_48, l_57, l_60, l_62, l_63, l_84, l_96, l_97, l_99, l_100, l_122, l_132, l_144, l_150, l_186, l_255, l_256, l_288, l_300, l_522, l_634, l_999, l_5242, l_5410, l_5420, l_5520, l_5528, l_9999, l_65535, l_65536, l_100000, l_16777215, l_252645135, l_858993459, l_1431655765, ↓reduceIte, Nat.reduceAdd, Nat.reduceMul, Nat.reduceSub, ixN, inbN, leT, leF, ltT, ltF, eqT, eqF, eqM, eqNone, addN, mulN, subN, m1N, ↓to_bnd, bnd_some, ↓to_nmT, nmT_eq, up2_r, up2_e, pk_us, pk_un, b2_t, b2_f, b2_0, b2_1, zB_1, zB_0, zB_b2, not_true_eq_false, not_false_eq_true, r_Mo, Nat.add_zero, Nat.add_sub_cancel, within_R, within_N, in_R, in_N, inN_yes, inR_yes, inR_pred, orNone_nn, nn_m, nn_N, f_Ct_isDay, f_Ct_isThing, f_Ct_isKind, f_Ct_isRoomSeat, f_Ct_isOffice, f_Ct_isTable, f_Ct_isPaper, f_Ct_isRule, f_Ct_isDecision, f_Mo_isOffice, f_Mo_isTable, f_Mo_isPaper, f_Mo_isRule, f_Mo_isDecision, f_Mo_isDay, f_Mo_isThing, f_Mo_paperOf, f_Mo_set, c0, et, hg, e3, c2]
  · refine ⟨-1000000001, σ, σ, ?_, ?_, hI⟩
    · simp -dsimp -implicitDefEqProofs (disch := omega) only [f_Ct_way_26, f_Ct_way_51, f_Ct_way, ↓l_m1, l_0, l_1, l_2, l_3, l_4, l_5, l_6, l_7, l_8, l_9, l_10, l_11, l_12, l_13, l_14, l_15, l_16, l_17, l_20, l_21, l_22, l_23, l_24, l_28, l_29, l_30, l_31, l_32, l_40, l_41, l_48, l_57, l_60, l_62, l_63, l_84, l_96, l_97, l_99, l_100, l_122, l_132, l_144, l_150, l_186, l_255, l_256, l_288, l_300, l_522, l_634, l_999, l_5242, l_5410, l_5420, l_5520, l_5528, l_9999, l_65535, l_65536, l_100000, l_16777215, l_252645135, l_858993459, l_1431655765, ↓reduceIte, Nat.reduceAdd, Nat.reduceMul, Nat.reduceSub, ixN, inbN, leT, leF, ltT, ltF, eqT, eqF, eqM, eqNone, addN, mulN, subN, m1N, ↓to_bnd, bnd_some, ↓to_nmT, nmT_eq, up2_r, up2_e, pk_us, pk_un, b2_t, b2_f, b2_0, b2_1, zB_1, zB_0, zB_b2, not_true_eq_false, not_false_eq_true, r_Mo, Nat.add_zero, Nat.add_sub_cancel, within_R, within_N, in_R, in_N, inN_yes, inR_yes, inR_pred, orNone_nn, nn_m, nn_N, f_Ct_isDay, f_Ct_isThing, f_Ct_isKind, f_Ct_isRoomSeat, f_Ct_isOffice, f_Ct_isTable, f_Ct_isPaper, f_Ct_isRule, f_Ct_isDecision, f_Mo_isOffice, f_Mo_isTable, f_Mo_isPaper, f_Mo_isRule, f_Mo_isDecision, f_Mo_isDay, f_Mo_isThing, f_Mo_paperOf, f_Mo_set, c0, r0, r_s1 bs, o3, c1]
    · simp -dsimp -implicitDefEqProofs (disch := omega) only [f_Mo_way_48, f_Mo_way_125, f_Mo_way, ↓l_m1, l_0, l_1, l_2, l_3, l_4, l_5, l_6, l_7, l_8, l_9, l_10, l_11, l_12, l_13, l_14, l_15, l_16, l_17, l_20, l_21, l_22, l_23, l_24, l_28, l_29, l_30, l_31, l_32, l_40, l_41, l_48, l_57, l_60, l_62, l_63, l_84, l_96, l_97, l_99, l_100, l_122, l_132, l_144, l_150, l_186, l_255, l_256, l_288, l_300, l_522, l_634, l_999, l_5242, l_5410, l_5420, l_5520, l_5528, l_9999, l_65535, l_65536, l_100000, l_16777215, l_252645135, l_858993459, l_1431655765, ↓reduceIte, Nat.reduceAdd, Nat.reduceMul, Nat.reduceSub, ixN, inbN, leT, leF, ltT, ltF, eqT, eqF, eqM, eqNone, addN, mulN, subN, m1N, ↓to_bnd, bnd_some, ↓to_nmT, nmT_eq, up2_r, up2_e, pk_us, pk_un, b2_t, b2_f, b2_0, b2_1, zB_1, zB_0, zB_b2, not_true_eq_false, not_false_eq_true, r_Mo, Nat.add_zero, Nat.add_sub_cancel, within_R, within_N, in_R, in_N, inN_yes, inR_yes, inR_pred, orNone_nn, nn_m, nn_N, f_Ct_isDay, f_Ct_isThing, f_Ct_isKind, f_Ct_isRoomSeat, f_Ct_isOffice, f_Ct_isTable, f_Ct_isPaper, f_Ct_isRule, f_Ct_isDecision, f_Mo_isOffice, f_Mo_isTable, f_Mo_isPaper, f_Mo_isRule, f_Mo_isDecision, f_Mo_isDay, f_Mo_isThing, f_Mo_paperOf, f_Mo_set, c0, hg, e3, c1]
