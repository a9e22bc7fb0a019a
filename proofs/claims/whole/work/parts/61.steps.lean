/-! steps of a rule, and what the readers keep -/
abbrev Op3 : Type := Nat × Nat × Nat
def eCu (o : Op3) : Nat := if o.1 = 10 then 900000 else if o.1 = 8 then 1000000 else if o.1 = 9 then 1100000 else if o.1 ≤ 13 then 100000 * (2 * (o.1 - 11) + (if o.2.1 = 62 then 1 else 0)) + o.2.2 else 100000 * (o.1 - 8) + o.2.2
def atC : List Op3 → Nat
  | [] => 0
  | o :: t => atC t + (if 11 ≤ o.1 then 1 else 0)
def bdO (nO : Nat) (o : Op3) : Bool := decide ((o.1 = 14 ∨ o.1 = 16) ∧ nO ≤ o.2.2)
def bdC (nO : Nat) : List Op3 → Bool
  | [] => false
  | o :: t => bdC nO t || bdO nO o
def atO (o : Op3) : Prop := o.2.2 < 100000 ∧ 11 ≤ o.1 ∧ o.1 ≤ 16 ∧ (o.1 ≤ 13 → o.2.1 = 60 ∨ o.2.1 = 62)
def opD (o : Op3) (d d' : Nat) : Prop := (o = (10, 0, 0) ∧ 1 ≤ d ∧ d' = d) ∨ (o = (8, 0, 0) ∧ 2 ≤ d ∧ d' + 1 = d) ∨ (o = (9, 0, 0) ∧ 2 ≤ d ∧ d' + 1 = d) ∨ (atO o ∧ d' = d + 1)
def okC : List Op3 → Nat → Nat → Prop
  | [], d, d' => d = d'
  | o :: t, d, d' => ∃ e, okC t d e ∧ e ≤ 30 ∧ opD o e d'
theorem okC_app : ∀ (l2 l1 : List Op3) {d e f : Nat}, okC l1 d e → okC l2 e f → okC (l2 ++ l1) d f
  | [], l1, d, e, f, h1, h2 => by
    have h3 : e = f := h2
    rw [← h3]; exact h1
  | o :: t, l1, d, e, f, h1, ⟨g, h2, h3, h4⟩ => ⟨g, okC_app t l1 h1 h2, h3, h4⟩
def emT : List Nat → List Op3 → List Op3
  | [], l => l
  | x :: t, l => emT t ((x, 0, 0) :: l)
theorem emT_app : ∀ (T : List Nat) (l l2 : List Op3), emT T (l ++ l2) = emT T l ++ l2
  | [], l, l2 => rfl
  | x :: t, l, l2 => by rw [emT, emT, ← List.cons_append, emT_app t]
theorem emT_sn : ∀ (T : List Nat) (x : Nat) (l : List Op3), emT (T ++ [x]) l = (x, 0, 0) :: emT T l
  | [], x, l => rfl
  | y :: t, x, l => by rw [List.cons_append, emT, emT, emT_sn t]
def cnS (v : Nat) : List Nat → Nat
  | [] => 0
  | x :: t => cnS v t + (if x = v then 1 else 0)
def opSu : List Nat → Nat
  | [] => 0
  | x :: t => opSu t + (if x = 17 then 0 else 1)
def StkR (f : Nat → Int32) : List Nat → Prop
  | [] => True
  | x :: t => f t.length = nI x ∧ x < 100 ∧ StkR f t
theorem StkR_c {f f' : Nat → Int32} : ∀ S, StkR f S → (∀ i, i < S.length → f' i = f i) → StkR f' S
  | [], _, _ => trivial
  | x :: t, h, e => ⟨by rw [e _ (by rw [List.length_cons]; omega)]; exact h.1, h.2.1, StkR_c t h.2.2 (fun i hi => e i (by rw [List.length_cons]; omega))⟩
def CodC (f : Nat → Int32) : List Op3 → Prop
  | [] => True
  | o :: t => f t.length = nI (eCu o) ∧ CodC f t
theorem CodC_c {f f' : Nat → Int32} : ∀ l, CodC f l → (∀ i, i < l.length → f' i = f i) → CodC f' l
  | [], _, _ => trivial
  | x :: t, h, e => ⟨by rw [e _ (by rw [List.length_cons]; omega)]; exact h.1, CodC_c t h.2 (fun i hi => e i (by rw [List.length_cons]; omega))⟩
def CodM (f : Nat → Int32) (b : Nat) : List Op3 → Prop
  | [] => True
  | o :: t => f (b + 3 * t.length) = nI o.1 ∧ f (b + 3 * t.length + 1) = nI o.2.1 ∧ f (b + 3 * t.length + 2) = nI o.2.2 ∧ CodM f b t
theorem CodM_c {f f' : Nat → Int32} {b : Nat} : ∀ l, CodM f b l → (∀ i, b ≤ i → i < b + 3 * l.length → f' i = f i) → CodM f' b l
  | [], _, _ => trivial
  | x :: t, h, e => by
    rw [List.length_cons] at e
    exact ⟨by rw [e _ (by omega) (by omega)]; exact h.1, by rw [e _ (by omega) (by omega)]; exact h.2.1, by rw [e _ (by omega) (by omega)]; exact h.2.2.1, CodM_c t h.2.2.2 (fun i h1 hi => e i h1 (by omega))⟩
/-! the model's reader -/
abbrev MPu : Type := Mm × Nat × Nat × Nat × Bool
def MFu (q : MPu) (m : Mm) : Prop := (∀ a, a ≠ 298 → a ≠ 308 → a ≠ 309 → m a = q.1 a) ∧ (∀ i, i < 14 ∨ (19 ≤ i ∧ i ≤ 23) ∨ i = 25 ∨ i = 26 ∨ i = 30 ∨ 33 < i → m 298 i = q.1 298 i) ∧ ∀ j, j < q.2.1 → m 308 j = q.1 308 j
def MXu (B : Nat → Nat) (L : Nat) (q : MPu) (k A : Nat) (bd : Bool) (S : List Nat) (out : List Op3) (m : Mm) : Prop := MFu q m ∧ MTk B L k m ∧ m 298 24 = nI out.length ∧ CodM (m 308) q.2.1 out ∧ m 298 31 = nI S.length ∧ StkR (m 309) S ∧ m 298 32 = nI (cnS 17 S) ∧ m 298 33 = nI (cnS 10 S) ∧ m 298 27 = nI A ∧ m 298 28 = b2 bd ∧ 2 * (out.length + opSu S) ≤ tkP B L k ∧ S.length ≤ tkP B L k
def MQu (B : Nat → Nat) (L : Nat) (q : MPu) : Prop := TpM B L q.1 ∧ (q.2.1 = 0 ∨ q.2.1 = 144) ∧ q.1 298 23 = nI q.2.1 ∧ q.1 299 2 = nI q.2.2.2.1 ∧ q.2.2.2.1 ≤ 8
def FLr (B : Nat → Nat) (L : Nat) (q : MPu) (k : Nat) (m : Mm) : Prop := (∀ a, a ≠ 298 → a ≠ 308 → a ≠ 309 → m a = q.1 a) ∧ (∀ i, i < 14 ∨ (19 ≤ i ∧ i ≤ 23) ∨ i = 25 ∨ i = 26 ∨ i = 30 ∨ 33 < i → m 298 i = q.1 298 i) ∧ m 298 15 = nI (tkP B L k)
theorem TpM_f {B : Nat → Nat} {L : Nat} {q : MPu} {m : Mm} (h : MQu B L q) (f : MFu q m) : TpM B L m := by
  unfold TpM
  rw [f.2.1 13 (by omega), f.1 305 (by omega) (by omega) (by omega), f.1 306 (by omega) (by omega) (by omega), f.1 307 (by omega) (by omega) (by omega)]
  exact h.1
theorem MTk_c {B : Nat → Nat} {L k : Nat} {m m' : Mm} (h : MTk B L k m) (f : ∀ i, 14 ≤ i → i ≤ 18 → m' 298 i = m 298 i) : MTk B L k m' := by
  unfold MTk
  rw [f 14 (by omega) (by omega), f 15 (by omega) (by omega), f 16 (by omega) (by omega), f 17 (by omega) (by omega), f 18 (by omega) (by omega)]
  exact h
theorem x_emit {B : Nat → Nat} {L k A : Nat} {q : MPu} {bd : Bool} {S : List Nat} {out : List Op3} {m : Mm} (hQ : MQu B L q) (h : MXu B L q k A bd S out m) (w s n : Nat) (hb : 2 * (out.length + 1 + opSu S) ≤ tkP B L k) : ∃ m', f_Mo_emit 298 (nI w) (nI s) (nI n) m = some m' ∧ MXu B L q k A bd S ((w, s, n) :: out) m' := by
  obtain ⟨hF, hK, e24, hC, e31, hS, e32, e33, e27, e28, hb1, hb2⟩ := h
  have pl := (tkP_le B L k).2
  have hL := hQ.1.1
  have ha := hQ.2.1
  have e23 : m 298 23 = nI q.2.1 := by rw [hF.2.1 23 (by omega)]; exact hQ.2.2.1
  obtain ⟨b, hbq⟩ : ∃ b, b = q.2.1 := ⟨_, rfl⟩
  rw [← hbq] at e23 ha hC
  obtain ⟨n0, hn0⟩ : ∃ n0, n0 = out.length := ⟨_, rfl⟩
  rw [← hn0] at e24 hb hb1
  refine ⟨up2 (up2 (up2 (up2 m 308 (b + 3 * n0) (nI w)) 308 (b + 3 * n0 + 1) (nI s)) 308 (b + 3 * n0 + 2) (nI n)) 298 24 (nI (n0 + 1)), ?_, ⟨fun a h1 h2 h3 => by simp -dsimp -implicitDefEqProofs (disch := omega) only [up2_r]; exact hF.1 a h1 h2 h3, fun i hi => by simp -dsimp -implicitDefEqProofs (disch := omega) only [up2_e, up2_r, pk_un]; exact hF.2.1 i hi, fun j hj => by rw [← hbq] at hj; simp -dsimp -implicitDefEqProofs (disch := omega) only [up2_e, up2_r, pk_un]; exact hF.2.2 j (by rw [← hbq]; exact hj)⟩, MTk_c hK (fun i h1 h2 => by simp -dsimp -implicitDefEqProofs (disch := omega) only [up2_e, up2_r, pk_un]), by rw [List.length_cons, ← hn0]; simp -dsimp -implicitDefEqProofs (disch := omega) only [up2_e, pk_us], ?_, by simp -dsimp -implicitDefEqProofs (disch := omega) only [up2_e, up2_r, pk_un, e31], by simp -dsimp -implicitDefEqProofs (disch := omega) only [up2_r]; exact hS, by simp -dsimp -implicitDefEqProofs (disch := omega) only [up2_e, up2_r, pk_un, e32], by simp -dsimp -implicitDefEqProofs (disch := omega) only [up2_e, up2_r, pk_un, e33], by simp -dsimp -implicitDefEqProofs (disch := omega) only [up2_e, up2_r, pk_un, e27], by simp -dsimp -implicitDefEqProofs (disch := omega) only [up2_e, up2_r, pk_un, e28], by rw [List.length_cons, ← hn0]; omega, hb2⟩
  · simp -dsimp -implicitDefEqProofs (disch := omega) only [f_Mo_emit, ↓l_m1, l_0, l_1, l_2, l_3, l_4, l_5, l_6, l_7, l_8, l_9, l_10, l_11, l_12, l_13, l_14, l_15, l_16, l_17, l_20, l_21, l_22, l_23, l_24, l_28, l_29, l_30, l_31, l_32, l_40, l_41, l_48, l_57, l_60, l_62, l_63, l_84, l_96, l_97, l_99, l_100, l_122, l_132, l_144, l_150, l_186, l_255, l_256, l_288, l_300, l_522, l_634, l_999, l_5242, l_5410, l_5420, l_5520, l_5528, l_9999, l_65535, l_65536, l_100000, l_16777215, l_252645135, l_858993459, l_1431655765, ↓reduceIte, Nat.reduceAdd, Nat.reduceMul, Nat.reduceSub, ixN, inbN, leT, leF, ltT, ltF, eqT, eqF, eqM, eqNone, addN, mulN, subN, m1N, ↓to_bnd, bnd_some, ↓to_nmT, nmT_eq, up2_r, up2_e, pk_us, pk_un, b2_t, b2_f, b2_0, b2_1, zB_1, zB_0, zB_b2, not_true_eq_false, not_false_eq_true, r_Mo, Nat.add_zero, Nat.add_sub_cancel, within_R, within_N, in_R, in_N, inN_yes, inR_yes, inR_pred, orNone_nn, nn_m, nn_N, f_Ct_isDay, f_Ct_isThing, f_Ct_isKind, f_Ct_isRoomSeat, f_Ct_isOffice, f_Ct_isTable, f_Ct_isPaper, f_Ct_isRule, f_Ct_isDecision, f_Mo_isOffice, f_Mo_isTable, f_Mo_isPaper, f_Mo_isRule, f_Mo_isDecision, f_Mo_isDay, f_Mo_isThing, f_Mo_paperOf, f_Mo_set, rc_1, rc_2, rc_3, rc_4, rc_5, rc_6, rc_7, rm_1, rm_2, rm_4, rm_5, rm_6, rm_9, rm_11, rm_12, rm_22, rm_30, rm_34, rm_35, rm_36, rm_37, rm_38, rm_39, rm_40, rm_41, rm_42, rm_43, rm_45, rm_46, rt_0, rt_1, rt_2, rt_3, rt_4, rt_s, rw_0, rw_1, rg_a, rg_v, rs_a, rs_p, rs_r, rs_v, e23, e24]
  · rw [← hbq]
    unfold CodM
    rw [← hn0]
    refine ⟨by simp -dsimp -implicitDefEqProofs (disch := omega) only [up2_e, up2_r, pk_un, pk_us], by simp -dsimp -implicitDefEqProofs (disch := omega) only [up2_e, up2_r, pk_un, pk_us], by simp -dsimp -implicitDefEqProofs (disch := omega) only [up2_e, up2_r, pk_un, pk_us], CodM_c out hC (fun i h1 hi => ?_)⟩
    rw [← hn0] at hi
    simp -dsimp -implicitDefEqProofs (disch := omega) only [up2_e, up2_r, pk_un, pk_us]
theorem x_pop {B : Nat → Nat} {L k A x : Nat} {q : MPu} {bd : Bool} {S : List Nat} {out : List Op3} {m m' : Mm} (h : MXu B L q k A bd (x :: S) out m) (fa : ∀ a, a ≠ 298 → m' a = m a) (fi : ∀ i, i ≠ 31 → i ≠ 32 → i ≠ 33 → m' 298 i = m 298 i) (e31 : m' 298 31 = nI S.length) (e32 : m' 298 32 = nI (cnS 17 S)) (e33 : m' 298 33 = nI (cnS 10 S)) : MXu B L q k A bd S out m' := by
  obtain ⟨hF, hK, e24, hC, -, hS, -, -, e27, e28, hb1, hb2⟩ := h
  rw [opSu] at hb1
  rw [List.length_cons] at hb2
  refine ⟨⟨fun a h1 h2 h3 => by rw [fa a h1, hF.1 a h1 h2 h3], fun i hi => by rw [fi i (by omega) (by omega) (by omega), hF.2.1 i hi], fun j hj => by rw [fa 308 (by omega), hF.2.2 j hj]⟩, MTk_c hK (fun i h1 h2 => fi i (by omega) (by omega) (by omega)), by rw [fi 24 (by omega) (by omega) (by omega)]; exact e24, by rw [fa 308 (by omega)]; exact hC, e31, by rw [fa 309 (by omega)]; exact hS.2.2, e32, e33, by rw [fi 27 (by omega) (by omega) (by omega)]; exact e27, by rw [fi 28 (by omega) (by omega) (by omega)]; exact e28, by omega, by omega⟩
theorem x_push {B : Nat → Nat} {L k A x : Nat} {q : MPu} {bd : Bool} {S : List Nat} {out : List Op3} {m m1 : Mm} (hQ : MQu B L q) (h : MXu B L q k A bd S out m) (hx : x < 100) (hb : 2 * (out.length + opSu (x :: S)) ≤ tkP B L (k + 1)) (hk : tkT B L k ≠ 0) (fa : ∀ a, a ≠ 298 → a ≠ 309 → m1 a = m a) (fi : ∀ i, i ≠ 31 → i ≠ 32 → i ≠ 33 → m1 298 i = m 298 i) (g1 : m1 309 S.length = nI x) (g2 : ∀ i, i < S.length → m1 309 i = m 309 i) (e31 : m1 298 31 = nI (S.length + 1)) (e32 : m1 298 32 = nI (cnS 17 (x :: S))) (e33 : m1 298 33 = nI (cnS 10 (x :: S))) : ∃ m2, f_Mo_go 298 m1 = some m2 ∧ MXu B L q (k + 1) A bd (x :: S) out m2 := by
  obtain ⟨hF, hK, e24, hC, -, hS, -, -, e27, e28, hb1, hb2⟩ := h
  have hF1 : MFu q m1 := ⟨fun a h1 h2 h3 => by rw [fa a h1 h3, hF.1 a h1 h2 h3], fun i hi => by rw [fi i (by omega) (by omega) (by omega), hF.2.1 i hi], fun j hj => by rw [fa 308 (by omega) (by omega), hF.2.2 j hj]⟩
  have ps := tkP_s hk
  obtain ⟨m2, z1, z2, z3⟩ := mo_goT (k := k + 1) (TpM_f hQ hF1) (by rw [fi 14 (by omega) (by omega) (by omega)]; exact hK.1) (by rw [fi 18 (by omega) (by omega) (by omega)]; exact hK.2.1)
  refine ⟨m2, z1, ⟨fun a h1 h2 h3 => by rw [z2.1 a h1, hF1.1 a h1 h2 h3], fun i hi => by rw [z2.2 i (by omega), hF1.2.1 i hi], fun j hj => by rw [z2.1 308 (by omega), hF1.2.2 j hj]⟩, z3, by rw [z2.2 24 (by omega), fi 24 (by omega) (by omega) (by omega)]; exact e24, by rw [z2.1 308 (by omega), fa 308 (by omega) (by omega)]; exact hC, by rw [z2.2 31 (by omega), List.length_cons]; exact e31, ?_, by rw [z2.2 32 (by omega)]; exact e32, by rw [z2.2 33 (by omega)]; exact e33, by rw [z2.2 27 (by omega), fi 27 (by omega) (by omega) (by omega)]; exact e27, by rw [z2.2 28 (by omega), fi 28 (by omega) (by omega) (by omega)]; exact e28, hb, by rw [List.length_cons]; omega⟩
  rw [z2.1 309 (by omega)]
  exact ⟨g1, hx, StkR_c S hS g2⟩
theorem x_go {B : Nat → Nat} {L k A : Nat} {q : MPu} {bd : Bool} {S : List Nat} {out : List Op3} {m m1 : Mm} (hQ : MQu B L q) (h : MXu B L q k A bd S out m) (fa : ∀ a, a ≠ 298 → m1 a = m a) (fi : ∀ i, i ≠ 29 → m1 298 i = m 298 i) : ∃ m2, f_Mo_go 298 m1 = some m2 ∧ FrL m1 m2 ∧ MXu B L q (k + 1) A bd S out m2 := by
  obtain ⟨hF, hK, e24, hC, e31, hS, e32, e33, e27, e28, hb1, hb2⟩ := h
  have hF1 : MFu q m1 := ⟨fun a h1 h2 h3 => by rw [fa a h1, hF.1 a h1 h2 h3], fun i hi => by rw [fi i (by omega), hF.2.1 i hi], fun j hj => by rw [fa 308 (by omega), hF.2.2 j hj]⟩
  have ps := tkP_m B L k
  obtain ⟨m2, z1, z2, z3⟩ := mo_goT (k := k + 1) (TpM_f hQ hF1) (by rw [fi 14 (by omega)]; exact hK.1) (by rw [fi 18 (by omega)]; exact hK.2.1)
  refine ⟨m2, z1, z2, ⟨fun a h1 h2 h3 => by rw [z2.1 a h1, hF1.1 a h1 h2 h3], fun i hi => by rw [z2.2 i (by omega), hF1.2.1 i hi], fun j hj => by rw [z2.1 308 (by omega), hF1.2.2 j hj]⟩, z3, by rw [z2.2 24 (by omega), fi 24 (by omega)]; exact e24, by rw [z2.1 308 (by omega), fa 308 (by omega)]; exact hC, by rw [z2.2 31 (by omega), fi 31 (by omega)]; exact e31, by rw [z2.1 309 (by omega), fa 309 (by omega)]; exact hS, by rw [z2.2 32 (by omega), fi 32 (by omega)]; exact e32, by rw [z2.2 33 (by omega), fi 33 (by omega)]; exact e33, by rw [z2.2 27 (by omega), fi 27 (by omega)]; exact e27, by rw [z2.2 28 (by omega), fi 28 (by omega)]; exact e28, by omega, by omega⟩
theorem x_one {B : Nat → Nat} {L k A x : Nat} {q : MPu} {bd : Bool} {S : List Nat} {out : List Op3} {m : Mm} (h : MXu B L q k A bd (x :: S) out m) : m 298 31 = nI (S.length + 1) ∧ S.length + 1 ≤ 96 + 0 * L ∨ 96 < L := by
  obtain ⟨hF, hK, e24, hC, e31, hS, e32, e33, e27, e28, hb1, hb2⟩ := h
  have pl := (tkP_le B L k).2
  rw [List.length_cons] at e31 hb2
  by_cases c : L ≤ 96
  · exact Or.inl ⟨e31, by omega⟩
  · exact Or.inr (by omega)
theorem x_all {B : Nat → Nat} {L k A : Nat} {q : MPu} {bd : Bool} (hQ : MQu B L q) (ors : Bool) {S0 : List Nat} (hS0 : ∀ h t, S0 = h :: t → h ≠ 8 ∧ (ors = true → h ≠ 9)) : ∀ (T : List Nat) (out : List Op3) (m : Mm) (fuel : Nat), (∀ x, x ∈ T → x = 8 ∨ (ors = true ∧ x = 9)) → MXu B L q k A bd (T ++ S0) out m → T.length < fuel → ∃ m', f_Mo_doAll_0 fuel 298 (b2 ors) m = some m' ∧ MXu B L q k A bd S0 (emT T out) m' := by
  have hL := hQ.1.1
  intro T
  induction T with
  | nil =>
    intro out m fuel hT hM hf
    obtain ⟨f, rfl⟩ : ∃ f', fuel = f' + 1 := ⟨fuel - 1, by omega⟩
    refine ⟨m, ?_, hM⟩
    rw [List.nil_append] at hM
    cases hS : S0 with
    | nil =>
      rw [hS] at hM
      have e31 := hM.2.2.2.2.1
      rw [List.length_nil] at e31
      simp -dsimp -implicitDefEqProofs (disch := omega) only [f_Mo_doAll_0, f_Mo_doAll_71, ↓l_m1, l_0, l_1, l_2, l_3, l_4, l_5, l_6, l_7, l_8, l_9, l_10, l_11, l_12, l_13, l_14, l_15, l_16, l_17, l_20, l_21, l_22, l_23, l_24, l_28, l_29, l_30, l_31, l_32, l_40, l_41, l_48, l_57, l_60, l_62, l_63, l_84, l_96, l_97, l_99, l_100, l_122, l_132, l_144, l_150, l_186, l_255, l_256, l_288, l_300, l_522, l_634, l_999, l_5242, l_5410, l_5420, l_5520, l_5528, l_9999, l_65535, l_65536, l_100000, l_16777215, l_252645135, l_858993459, l_1431655765, ↓reduceIte, Nat.reduceAdd, Nat.reduceMul, Nat.reduceSub, ixN, inbN, leT, leF, ltT, ltF, eqT, eqF, eqM, eqNone, addN, mulN, subN, m1N, ↓to_bnd, bnd_some, ↓to_nmT, nmT_eq, up2_r, up2_e, pk_us, pk_un, b2_t, b2_f, b2_0, b2_1, zB_1, zB_0, zB_b2, not_true_eq_false, not_false_eq_true, r_Mo, Nat.add_zero, Nat.add_sub_cancel, within_R, within_N, in_R, in_N, inN_yes, inR_yes, inR_pred, orNone_nn, nn_m, nn_N, f_Ct_isDay, f_Ct_isThing, f_Ct_isKind, f_Ct_isRoomSeat, f_Ct_isOffice, f_Ct_isTable, f_Ct_isPaper, f_Ct_isRule, f_Ct_isDecision, f_Mo_isOffice, f_Mo_isTable, f_Mo_isPaper, f_Mo_isRule, f_Mo_isDecision, f_Mo_isDay, f_Mo_isThing, f_Mo_paperOf, f_Mo_set, e31]
    | cons h t =>
      obtain ⟨c1, c2⟩ := hS0 h t hS
      rw [hS] at hM
      rcases x_one hM with ⟨e31, l31⟩ | l
      · have st := hM.2.2.2.2.2.1
        obtain ⟨s1, s2, -⟩ := st
        cases ors
        · simp -dsimp -implicitDefEqProofs (disch := omega) only [f_Mo_doAll_0, f_Mo_doAll_71, ↓l_m1, l_0, l_1, l_2, l_3, l_4, l_5, l_6, l_7, l_8, l_9, l_10, l_11, l_12, l_13, l_14, l_15, l_16, l_17, l_20, l_21, l_22, l_23, l_24, l_28, l_29, l_30, l_31, l_32, l_40, l_41, l_48, l_57, l_60, l_62, l_63, l_84, l_96, l_97, l_99, l_100, l_122, l_132, l_144, l_150, l_186, l_255, l_256, l_288, l_300, l_522, l_634, l_999, l_5242, l_5410, l_5420, l_5520, l_5528, l_9999, l_65535, l_65536, l_100000, l_16777215, l_252645135, l_858993459, l_1431655765, ↓reduceIte, Nat.reduceAdd, Nat.reduceMul, Nat.reduceSub, ixN, inbN, leT, leF, ltT, ltF, eqT, eqF, eqM, eqNone, addN, mulN, subN, m1N, ↓to_bnd, bnd_some, ↓to_nmT, nmT_eq, up2_r, up2_e, pk_us, pk_un, b2_t, b2_f, b2_0, b2_1, zB_1, zB_0, zB_b2, not_true_eq_false, not_false_eq_true, r_Mo, Nat.add_zero, Nat.add_sub_cancel, within_R, within_N, in_R, in_N, inN_yes, inR_yes, inR_pred, orNone_nn, nn_m, nn_N, f_Ct_isDay, f_Ct_isThing, f_Ct_isKind, f_Ct_isRoomSeat, f_Ct_isOffice, f_Ct_isTable, f_Ct_isPaper, f_Ct_isRule, f_Ct_isDecision, f_Mo_isOffice, f_Mo_isTable, f_Mo_isPaper, f_Mo_isRule, f_Mo_isDecision, f_Mo_isDay, f_Mo_isThing, f_Mo_paperOf, f_Mo_set, rc_1, rc_2, rc_3, rc_4, rc_5, rc_6, rc_7, rm_1, rm_2, rm_4, rm_5, rm_6, rm_9, rm_11, rm_12, rm_22, rm_30, rm_34, rm_35, rm_36, rm_37, rm_38, rm_39, rm_40, rm_41, rm_42, rm_43, rm_45, rm_46, rt_0, rt_1, rt_2, rt_3, rt_4, rt_s, rw_0, rw_1, rg_a, rg_v, rs_a, rs_p, rs_r, rs_v, e31, s1]
        · have c3 := c2 rfl
          simp -dsimp -implicitDefEqProofs (disch := omega) only [f_Mo_doAll_0, f_Mo_doAll_71, ↓l_m1, l_0, l_1, l_2, l_3, l_4, l_5, l_6, l_7, l_8, l_9, l_10, l_11, l_12, l_13, l_14, l_15, l_16, l_17, l_20, l_21, l_22, l_23, l_24, l_28, l_29, l_30, l_31, l_32, l_40, l_41, l_48, l_57, l_60, l_62, l_63, l_84, l_96, l_97, l_99, l_100, l_122, l_132, l_144, l_150, l_186, l_255, l_256, l_288, l_300, l_522, l_634, l_999, l_5242, l_5410, l_5420, l_5520, l_5528, l_9999, l_65535, l_65536, l_100000, l_16777215, l_252645135, l_858993459, l_1431655765, ↓reduceIte, Nat.reduceAdd, Nat.reduceMul, Nat.reduceSub, ixN, inbN, leT, leF, ltT, ltF, eqT, eqF, eqM, eqNone, addN, mulN, subN, m1N, ↓to_bnd, bnd_some, ↓to_nmT, nmT_eq, up2_r, up2_e, pk_us, pk_un, b2_t, b2_f, b2_0, b2_1, zB_1, zB_0, zB_b2, not_true_eq_false, not_false_eq_true, r_Mo, Nat.add_zero, Nat.add_sub_cancel, within_R, within_N, in_R, in_N, inN_yes, inR_yes, inR_pred, orNone_nn, nn_m, nn_N, f_Ct_isDay, f_Ct_isThing, f_Ct_isKind, f_Ct_isRoomSeat, f_Ct_isOffice, f_Ct_isTable, f_Ct_isPaper, f_Ct_isRule, f_Ct_isDecision, f_Mo_isOffice, f_Mo_isTable, f_Mo_isPaper, f_Mo_isRule, f_Mo_isDecision, f_Mo_isDay, f_Mo_isThing, f_Mo_paperOf, f_Mo_set, rc_1, rc_2, rc_3, rc_4, rc_5, rc_6, rc_7, rm_1, rm_2, rm_4, rm_5, rm_6, rm_9, rm_11, rm_12, rm_22, rm_30, rm_34, rm_35, rm_36, rm_37, rm_38, rm_39, rm_40, rm_41, rm_42, rm_43, rm_45, rm_46, rt_0, rt_1, rt_2, rt_3, rt_4, rt_s, rw_0, rw_1, rg_a, rg_v, rs_a, rs_p, rs_r, rs_v, e31, s1]
      · omega
  | cons x T ih =>
    intro out m fuel hT hM hf
    rw [List.length_cons] at hf
    rw [List.cons_append] at hM
    obtain ⟨f, rfl⟩ : ∃ f', fuel = f' + 1 := ⟨fuel - 1, by omega⟩
    rcases x_one hM with ⟨e31, l31⟩ | l
    · obtain ⟨s1, s2, -⟩ := hM.2.2.2.2.2.1
      have e32 := hM.2.2.2.2.2.2.1
      have e33 := hM.2.2.2.2.2.2.2.1
      have hb := hM.2.2.2.2.2.2.2.2.2.2.1
      have cx := hT x (List.mem_cons_self ..)
      rw [cnS, if_neg (by omega), Nat.add_zero] at e32 e33
      rw [opSu, if_neg (by omega)] at hb
      have h1 := x_pop (m' := up2 m 298 31 (nI (T ++ S0).length)) hM (fun a ha => up2_r _ _ _ ha) (fun i h1 _ _ => by rw [up2_e, pk_un h1]) (by rw [up2_e, pk_us]) (by rw [up2_e, pk_un (by omega)]; exact e32) (by rw [up2_e, pk_un (by omega)]; exact e33)
      obtain ⟨m2, z1, z2⟩ := x_emit hQ h1 x 0 0 (by omega)
      obtain ⟨m', y1, y2⟩ := ih ((x, 0, 0) :: out) m2 f (fun y hy => hT y (List.mem_cons_of_mem _ hy)) z2 (by omega)
      refine ⟨m', ?_, y2⟩
      rw [← y1]
      rcases cx with c | ⟨c0, c⟩
      · subst c
        simp -dsimp -implicitDefEqProofs (disch := omega) only [f_Mo_doAll_0, f_Mo_doAll_43, ↓l_m1, l_0, l_1, l_2, l_3, l_4, l_5, l_6, l_7, l_8, l_9, l_10, l_11, l_12, l_13, l_14, l_15, l_16, l_17, l_20, l_21, l_22, l_23, l_24, l_28, l_29, l_30, l_31, l_32, l_40, l_41, l_48, l_57, l_60, l_62, l_63, l_84, l_96, l_97, l_99, l_100, l_122, l_132, l_144, l_150, l_186, l_255, l_256, l_288, l_300, l_522, l_634, l_999, l_5242, l_5410, l_5420, l_5520, l_5528, l_9999, l_65535, l_65536, l_100000, l_16777215, l_252645135, l_858993459, l_1431655765, ↓reduceIte, Nat.reduceAdd, Nat.reduceMul, Nat.reduceSub, ixN, inbN, leT, leF, ltT, ltF, eqT, eqF, eqM, eqNone, addN, mulN, subN, m1N, ↓to_bnd, bnd_some, ↓to_nmT, nmT_eq, up2_r, up2_e, pk_us, pk_un, b2_t, b2_f, b2_0, b2_1, zB_1, zB_0, zB_b2, not_true_eq_false, not_false_eq_true, r_Mo, Nat.add_zero, Nat.add_sub_cancel, within_R, within_N, in_R, in_N, inN_yes, inR_yes, inR_pred, orNone_nn, nn_m, nn_N, f_Ct_isDay, f_Ct_isThing, f_Ct_isKind, f_Ct_isRoomSeat, f_Ct_isOffice, f_Ct_isTable, f_Ct_isPaper, f_Ct_isRule, f_Ct_isDecision, f_Mo_isOffice, f_Mo_isTable, f_Mo_isPaper, f_Mo_isRule, f_Mo_isDecision, f_Mo_isDay, f_Mo_isThing, f_Mo_paperOf, f_Mo_set, rc_1, rc_2, rc_3, rc_4, rc_5, rc_6, rc_7, rm_1, rm_2, rm_4, rm_5, rm_6, rm_9, rm_11, rm_12, rm_22, rm_30, rm_34, rm_35, rm_36, rm_37, rm_38, rm_39, rm_40, rm_41, rm_42, rm_43, rm_45, rm_46, rt_0, rt_1, rt_2, rt_3, rt_4, rt_s, rw_0, rw_1, rg_a, rg_v, rs_a, rs_p, rs_r, rs_v, e31, s1, z1]
      · subst c
        subst c0
        simp -dsimp -implicitDefEqProofs (disch := omega) only [f_Mo_doAll_0, f_Mo_doAll_43, ↓l_m1, l_0, l_1, l_2, l_3, l_4, l_5, l_6, l_7, l_8, l_9, l_10, l_11, l_12, l_13, l_14, l_15, l_16, l_17, l_20, l_21, l_22, l_23, l_24, l_28, l_29, l_30, l_31, l_32, l_40, l_41, l_48, l_57, l_60, l_62, l_63, l_84, l_96, l_97, l_99, l_100, l_122, l_132, l_144, l_150, l_186, l_255, l_256, l_288, l_300, l_522, l_634, l_999, l_5242, l_5410, l_5420, l_5520, l_5528, l_9999, l_65535, l_65536, l_100000, l_16777215, l_252645135, l_858993459, l_1431655765, ↓reduceIte, Nat.reduceAdd, Nat.reduceMul, Nat.reduceSub, ixN, inbN, leT, leF, ltT, ltF, eqT, eqF, eqM, eqNone, addN, mulN, subN, m1N, ↓to_bnd, bnd_some, ↓to_nmT, nmT_eq, up2_r, up2_e, pk_us, pk_un, b2_t, b2_f, b2_0, b2_1, zB_1, zB_0, zB_b2, not_true_eq_false, not_false_eq_true, r_Mo, Nat.add_zero, Nat.add_sub_cancel, within_R, within_N, in_R, in_N, inN_yes, inR_yes, inR_pred, orNone_nn, nn_m, nn_N, f_Ct_isDay, f_Ct_isThing, f_Ct_isKind, f_Ct_isRoomSeat, f_Ct_isOffice, f_Ct_isTable, f_Ct_isPaper, f_Ct_isRule, f_Ct_isDecision, f_Mo_isOffice, f_Mo_isTable, f_Mo_isPaper, f_Mo_isRule, f_Mo_isDecision, f_Mo_isDay, f_Mo_isThing, f_Mo_paperOf, f_Mo_set, rc_1, rc_2, rc_3, rc_4, rc_5, rc_6, rc_7, rm_1, rm_2, rm_4, rm_5, rm_6, rm_9, rm_11, rm_12, rm_22, rm_30, rm_34, rm_35, rm_36, rm_37, rm_38, rm_39, rm_40, rm_41, rm_42, rm_43, rm_45, rm_46, rt_0, rt_1, rt_2, rt_3, rt_4, rt_s, rw_0, rw_1, rg_a, rg_v, rs_a, rs_p, rs_r, rs_v, e31, s1, z1]
    · omega
theorem x_nots {B : Nat → Nat} {L k A : Nat} {q : MPu} {bd : Bool} (hQ : MQu B L q) {S0 : List Nat} (hS0 : ∀ h t, S0 = h :: t → h ≠ 10) : ∀ (n : Nat) (out : List Op3) (m : Mm) (fuel : Nat), MXu B L q k A bd (List.replicate n 10 ++ S0) out m → n < fuel → ∃ m', f_Mo_endNots_0 fuel 298 m = some m' ∧ MXu B L q k A bd S0 (emT (List.replicate n 10) out) m' := by
  have hL := hQ.1.1
  intro n
  induction n with
  | zero =>
    intro out m fuel hM hf
    obtain ⟨f, rfl⟩ : ∃ f', fuel = f' + 1 := ⟨fuel - 1, by omega⟩
    refine ⟨m, ?_, hM⟩
    have hM' : MXu B L q k A bd S0 out m := hM
    cases hS : S0 with
    | nil =>
      rw [hS] at hM'
      have e31 := hM'.2.2.2.2.1
      rw [List.length_nil] at e31
      simp -dsimp -implicitDefEqProofs (disch := omega) only [f_Mo_endNots_0, f_Mo_endNots_54, ↓l_m1, l_0, l_1, l_2, l_3, l_4, l_5, l_6, l_7, l_8, l_9, l_10, l_11, l_12, l_13, l_14, l_15, l_16, l_17, l_20, l_21, l_22, l_23, l_24, l_28, l_29, l_30, l_31, l_32, l_40, l_41, l_48, l_57, l_60, l_62, l_63, l_84, l_96, l_97, l_99, l_100, l_122, l_132, l_144, l_150, l_186, l_255, l_256, l_288, l_300, l_522, l_634, l_999, l_5242, l_5410, l_5420, l_5520, l_5528, l_9999, l_65535, l_65536, l_100000, l_16777215, l_252645135, l_858993459, l_1431655765, ↓reduceIte, Nat.reduceAdd, Nat.reduceMul, Nat.reduceSub, ixN, inbN, leT, leF, ltT, ltF, eqT, eqF, eqM, eqNone, addN, mulN, subN, m1N, ↓to_bnd, bnd_some, ↓to_nmT, nmT_eq, up2_r, up2_e, pk_us, pk_un, b2_t, b2_f, b2_0, b2_1, zB_1, zB_0, zB_b2, not_true_eq_false, not_false_eq_true, r_Mo, Nat.add_zero, Nat.add_sub_cancel, within_R, within_N, in_R, in_N, inN_yes, inR_yes, inR_pred, orNone_nn, nn_m, nn_N, f_Ct_isDay, f_Ct_isThing, f_Ct_isKind, f_Ct_isRoomSeat, f_Ct_isOffice, f_Ct_isTable, f_Ct_isPaper, f_Ct_isRule, f_Ct_isDecision, f_Mo_isOffice, f_Mo_isTable, f_Mo_isPaper, f_Mo_isRule, f_Mo_isDecision, f_Mo_isDay, f_Mo_isThing, f_Mo_paperOf, f_Mo_set, e31]
    | cons h t =>
      have c1 := hS0 h t hS
      rw [hS] at hM'
      rcases x_one hM' with ⟨e31, l31⟩ | l
      · obtain ⟨s1, s2, -⟩ := hM'.2.2.2.2.2.1
        simp -dsimp -implicitDefEqProofs (disch := omega) only [f_Mo_endNots_0, f_Mo_endNots_54, ↓l_m1, l_0, l_1, l_2, l_3, l_4, l_5, l_6, l_7, l_8, l_9, l_10, l_11, l_12, l_13, l_14, l_15, l_16, l_17, l_20, l_21, l_22, l_23, l_24, l_28, l_29, l_30, l_31, l_32, l_40, l_41, l_48, l_57, l_60, l_62, l_63, l_84, l_96, l_97, l_99, l_100, l_122, l_132, l_144, l_150, l_186, l_255, l_256, l_288, l_300, l_522, l_634, l_999, l_5242, l_5410, l_5420, l_5520, l_5528, l_9999, l_65535, l_65536, l_100000, l_16777215, l_252645135, l_858993459, l_1431655765, ↓reduceIte, Nat.reduceAdd, Nat.reduceMul, Nat.reduceSub, ixN, inbN, leT, leF, ltT, ltF, eqT, eqF, eqM, eqNone, addN, mulN, subN, m1N, ↓to_bnd, bnd_some, ↓to_nmT, nmT_eq, up2_r, up2_e, pk_us, pk_un, b2_t, b2_f, b2_0, b2_1, zB_1, zB_0, zB_b2, not_true_eq_false, not_false_eq_true, r_Mo, Nat.add_zero, Nat.add_sub_cancel, within_R, within_N, in_R, in_N, inN_yes, inR_yes, inR_pred, orNone_nn, nn_m, nn_N, f_Ct_isDay, f_Ct_isThing, f_Ct_isKind, f_Ct_isRoomSeat, f_Ct_isOffice, f_Ct_isTable, f_Ct_isPaper, f_Ct_isRule, f_Ct_isDecision, f_Mo_isOffice, f_Mo_isTable, f_Mo_isPaper, f_Mo_isRule, f_Mo_isDecision, f_Mo_isDay, f_Mo_isThing, f_Mo_paperOf, f_Mo_set, rc_1, rc_2, rc_3, rc_4, rc_5, rc_6, rc_7, rm_1, rm_2, rm_4, rm_5, rm_6, rm_9, rm_11, rm_12, rm_22, rm_30, rm_34, rm_35, rm_36, rm_37, rm_38, rm_39, rm_40, rm_41, rm_42, rm_43, rm_45, rm_46, rt_0, rt_1, rt_2, rt_3, rt_4, rt_s, rw_0, rw_1, rg_a, rg_v, rs_a, rs_p, rs_r, rs_v, e31, s1]
      · omega
  | succ n ih =>
    intro out m fuel hM hf
    rw [List.replicate_succ, List.cons_append] at hM
    rw [List.replicate_succ, emT]
    obtain ⟨f, rfl⟩ : ∃ f', fuel = f' + 1 := ⟨fuel - 1, by omega⟩
    rcases x_one hM with ⟨e31, l31⟩ | l
    · obtain ⟨s1, s2, -⟩ := hM.2.2.2.2.2.1
      have e32 := hM.2.2.2.2.2.2.1
      have e33 := hM.2.2.2.2.2.2.2.1
      have hb := hM.2.2.2.2.2.2.2.2.2.2.1
      rw [cnS, if_neg (by decide), Nat.add_zero] at e32
      rw [cnS, if_pos rfl] at e33
      rw [opSu, if_neg (by decide)] at hb
      have h1 := x_pop (m' := up2 (up2 m 298 31 (nI (List.replicate n 10 ++ S0).length)) 298 33 (nI (cnS 10 (List.replicate n 10 ++ S0)))) hM (fun a ha => by rw [up2_r _ _ _ ha, up2_r _ _ _ ha]) (fun i h1 _ h3 => by rw [up2_e, pk_un h3, up2_e, pk_un h1]) (by rw [up2_e, pk_un (by omega), up2_e, pk_us]) (by rw [up2_e, pk_un (by omega), up2_e, pk_un (by omega)]; exact e32) (by rw [up2_e, pk_us])
      obtain ⟨m2, z1, z2⟩ := x_emit hQ h1 10 0 0 (by omega)
      obtain ⟨m', y1, y2⟩ := ih ((10, 0, 0) :: out) m2 f z2 (by omega)
      refine ⟨m', ?_, y2⟩
      rw [← y1]
      simp -dsimp -implicitDefEqProofs (disch := omega) only [f_Mo_endNots_0, ↓l_m1, l_0, l_1, l_2, l_3, l_4, l_5, l_6, l_7, l_8, l_9, l_10, l_11, l_12, l_13, l_14, l_15, l_16, l_17, l_20, l_21, l_22, l_23, l_24, l_28, l_29, l_30, l_31, l_32, l_40, l_41, l_48, l_57, l_60, l_62, l_63, l_84, l_96, l_97, l_99, l_100, l_122, l_132, l_144, l_150, l_186, l_255, l_256, l_288, l_300, l_522, l_634, l_999, l_5242, l_5410, l_5420, l_5520, l_5528, l_9999, l_65535, l_65536, l_100000, l_16777215, l_252645135, l_858993459, l_1431655765, ↓reduceIte, Nat.reduceAdd, Nat.reduceMul, Nat.reduceSub, ixN, inbN, leT, leF, ltT, ltF, eqT, eqF, eqM, eqNone, addN, mulN, subN, m1N, ↓to_bnd, bnd_some, ↓to_nmT, nmT_eq, up2_r, up2_e, pk_us, pk_un, b2_t, b2_f, b2_0, b2_1, zB_1, zB_0, zB_b2, not_true_eq_false, not_false_eq_true, r_Mo, Nat.add_zero, Nat.add_sub_cancel, within_R, within_N, in_R, in_N, inN_yes, inR_yes, inR_pred, orNone_nn, nn_m, nn_N, f_Ct_isDay, f_Ct_isThing, f_Ct_isKind, f_Ct_isRoomSeat, f_Ct_isOffice, f_Ct_isTable, f_Ct_isPaper, f_Ct_isRule, f_Ct_isDecision, f_Mo_isOffice, f_Mo_isTable, f_Mo_isPaper, f_Mo_isRule, f_Mo_isDecision, f_Mo_isDay, f_Mo_isThing, f_Mo_paperOf, f_Mo_set, rc_1, rc_2, rc_3, rc_4, rc_5, rc_6, rc_7, rm_1, rm_2, rm_4, rm_5, rm_6, rm_9, rm_11, rm_12, rm_22, rm_30, rm_34, rm_35, rm_36, rm_37, rm_38, rm_39, rm_40, rm_41, rm_42, rm_43, rm_45, rm_46, rt_0, rt_1, rt_2, rt_3, rt_4, rt_s, rw_0, rw_1, rg_a, rg_v, rs_a, rs_p, rs_r, rs_v, e31, e33, s1, z1]
    · omega
/-! what stands at a place -/
theorem mvl_lt : ∀ t, t < 24 → mvl t 0 < 100 := by decide +kernel
theorem k_word {B : Nat → Nat} {L k : Nat} {m : Mm} (h : MTk B L k m) {w t0 : Nat} (hw : w < 100) (ht : ∀ t, t < 24 → ((6 ≤ t ∧ t ≤ 22 ∧ mvl t 0 = w) ↔ t = t0)) : f_Mo_isWord m 298 (nI w) = some (b2 (decide (tkT B L k = t0))) := by
  obtain ⟨-, -, -, e16, e17⟩ := h
  have le := tkT_le B L k
  have iff := ht (tkT B L k) (by omega)
  by_cases c : 6 ≤ tkT B L k ∧ tkT B L k ≤ 22
  · have e17' := e17 (by omega) (by omega)
    rw [mvl_v (by omega)] at e17'
    have lt := mvl_lt (tkT B L k) (by omega)
    rw [show mtk (tkT B L k) = 1 by unfold mtk; rw [if_neg (by omega), if_neg (by omega), if_neg (by omega), if_pos (by omega)]] at e16
    by_cases d : mvl (tkT B L k) 0 = w
    · rw [decide_eq_true (iff.mp ⟨c.1, c.2, d⟩)]
      simp -dsimp -implicitDefEqProofs (disch := omega) only [f_Mo_isWord, f_Mo_isWord_20, f_Mo_isWord_21, ↓l_m1, l_0, l_1, l_2, l_3, l_4, l_5, l_6, l_7, l_8, l_9, l_10, l_11, l_12, l_13, l_14, l_15, l_16, l_17, l_20, l_21, l_22, l_23, l_24, l_28, l_29, l_30, l_31, l_32, l_40, l_41, l_48, l_57, l_60, l_62, l_63, l_84, l_96, l_97, l_99, l_100, l_122, l_132, l_144, l_150, l_186, l_255, l_256, l_288, l_300, l_522, l_634, l_999, l_5242, l_5410, l_5420, l_5520, l_5528, l_9999, l_65535, l_65536, l_100000, l_16777215, l_252645135, l_858993459, l_1431655765, ↓reduceIte, Nat.reduceAdd, Nat.reduceMul, Nat.reduceSub, ixN, inbN, leT, leF, ltT, ltF, eqT, eqF, eqM, eqNone, addN, mulN, subN, m1N, ↓to_bnd, bnd_some, ↓to_nmT, nmT_eq, up2_r, up2_e, pk_us, pk_un, b2_t, b2_f, b2_0, b2_1, zB_1, zB_0, zB_b2, not_true_eq_false, not_false_eq_true, r_Mo, Nat.add_zero, Nat.add_sub_cancel, within_R, within_N, in_R, in_N, inN_yes, inR_yes, inR_pred, orNone_nn, nn_m, nn_N, f_Ct_isDay, f_Ct_isThing, f_Ct_isKind, f_Ct_isRoomSeat, f_Ct_isOffice, f_Ct_isTable, f_Ct_isPaper, f_Ct_isRule, f_Ct_isDecision, f_Mo_isOffice, f_Mo_isTable, f_Mo_isPaper, f_Mo_isRule, f_Mo_isDecision, f_Mo_isDay, f_Mo_isThing, f_Mo_paperOf, f_Mo_set, e16, e17']
    · rw [decide_eq_false (fun q => d (iff.mpr q).2.2)]
      simp -dsimp -implicitDefEqProofs (disch := omega) only [f_Mo_isWord, f_Mo_isWord_20, f_Mo_isWord_21, ↓l_m1, l_0, l_1, l_2, l_3, l_4, l_5, l_6, l_7, l_8, l_9, l_10, l_11, l_12, l_13, l_14, l_15, l_16, l_17, l_20, l_21, l_22, l_23, l_24, l_28, l_29, l_30, l_31, l_32, l_40, l_41, l_48, l_57, l_60, l_62, l_63, l_84, l_96, l_97, l_99, l_100, l_122, l_132, l_144, l_150, l_186, l_255, l_256, l_288, l_300, l_522, l_634, l_999, l_5242, l_5410, l_5420, l_5520, l_5528, l_9999, l_65535, l_65536, l_100000, l_16777215, l_252645135, l_858993459, l_1431655765, ↓reduceIte, Nat.reduceAdd, Nat.reduceMul, Nat.reduceSub, ixN, inbN, leT, leF, ltT, ltF, eqT, eqF, eqM, eqNone, addN, mulN, subN, m1N, ↓to_bnd, bnd_some, ↓to_nmT, nmT_eq, up2_r, up2_e, pk_us, pk_un, b2_t, b2_f, b2_0, b2_1, zB_1, zB_0, zB_b2, not_true_eq_false, not_false_eq_true, r_Mo, Nat.add_zero, Nat.add_sub_cancel, within_R, within_N, in_R, in_N, inN_yes, inR_yes, inR_pred, orNone_nn, nn_m, nn_N, f_Ct_isDay, f_Ct_isThing, f_Ct_isKind, f_Ct_isRoomSeat, f_Ct_isOffice, f_Ct_isTable, f_Ct_isPaper, f_Ct_isRule, f_Ct_isDecision, f_Mo_isOffice, f_Mo_isTable, f_Mo_isPaper, f_Mo_isRule, f_Mo_isDecision, f_Mo_isDay, f_Mo_isThing, f_Mo_paperOf, f_Mo_set, e16, e17']
  · rw [decide_eq_false (fun q => c ⟨(iff.mpr q).1, (iff.mpr q).2.1⟩)]
    have n1 : mtk (tkT B L k) ≠ 1 ∧ mtk (tkT B L k) < 100 := by unfold mtk; (repeat' split) <;> omega
    simp -dsimp -implicitDefEqProofs (disch := omega) only [f_Mo_isWord, f_Mo_isWord_20, f_Mo_isWord_21, ↓l_m1, l_0, l_1, l_2, l_3, l_4, l_5, l_6, l_7, l_8, l_9, l_10, l_11, l_12, l_13, l_14, l_15, l_16, l_17, l_20, l_21, l_22, l_23, l_24, l_28, l_29, l_30, l_31, l_32, l_40, l_41, l_48, l_57, l_60, l_62, l_63, l_84, l_96, l_97, l_99, l_100, l_122, l_132, l_144, l_150, l_186, l_255, l_256, l_288, l_300, l_522, l_634, l_999, l_5242, l_5410, l_5420, l_5520, l_5528, l_9999, l_65535, l_65536, l_100000, l_16777215, l_252645135, l_858993459, l_1431655765, ↓reduceIte, Nat.reduceAdd, Nat.reduceMul, Nat.reduceSub, ixN, inbN, leT, leF, ltT, ltF, eqT, eqF, eqM, eqNone, addN, mulN, subN, m1N, ↓to_bnd, bnd_some, ↓to_nmT, nmT_eq, up2_r, up2_e, pk_us, pk_un, b2_t, b2_f, b2_0, b2_1, zB_1, zB_0, zB_b2, not_true_eq_false, not_false_eq_true, r_Mo, Nat.add_zero, Nat.add_sub_cancel, within_R, within_N, in_R, in_N, inN_yes, inR_yes, inR_pred, orNone_nn, nn_m, nn_N, f_Ct_isDay, f_Ct_isThing, f_Ct_isKind, f_Ct_isRoomSeat, f_Ct_isOffice, f_Ct_isTable, f_Ct_isPaper, f_Ct_isRule, f_Ct_isDecision, f_Mo_isOffice, f_Mo_isTable, f_Mo_isPaper, f_Mo_isRule, f_Mo_isDecision, f_Mo_isDay, f_Mo_isThing, f_Mo_paperOf, f_Mo_set, e16]
theorem k_sign {B : Nat → Nat} {L k : Nat} {m : Mm} (h : MTk B L k m) {w t0 : Nat} (hw : w < 100) (ht : ∀ t, t < 24 → ((2 ≤ t ∧ t ≤ 5 ∧ mvl t 0 = w) ↔ t = t0)) : f_Mo_isSign m 298 (nI w) = some (b2 (decide (tkT B L k = t0))) := by
  obtain ⟨-, -, -, e16, e17⟩ := h
  have le := tkT_le B L k
  have iff := ht (tkT B L k) (by omega)
  by_cases c : 2 ≤ tkT B L k ∧ tkT B L k ≤ 5
  · have e17' := e17 (by omega) (by omega)
    rw [mvl_v (by omega)] at e17'
    have lt := mvl_lt (tkT B L k) (by omega)
    rw [show mtk (tkT B L k) = 3 by unfold mtk; rw [if_neg (by omega), if_neg (by omega), if_pos (by omega)]] at e16
    by_cases d : mvl (tkT B L k) 0 = w
    · rw [decide_eq_true (iff.mp ⟨c.1, c.2, d⟩)]
      simp -dsimp -implicitDefEqProofs (disch := omega) only [f_Mo_isSign, f_Mo_isSign_20, f_Mo_isSign_21, ↓l_m1, l_0, l_1, l_2, l_3, l_4, l_5, l_6, l_7, l_8, l_9, l_10, l_11, l_12, l_13, l_14, l_15, l_16, l_17, l_20, l_21, l_22, l_23, l_24, l_28, l_29, l_30, l_31, l_32, l_40, l_41, l_48, l_57, l_60, l_62, l_63, l_84, l_96, l_97, l_99, l_100, l_122, l_132, l_144, l_150, l_186, l_255, l_256, l_288, l_300, l_522, l_634, l_999, l_5242, l_5410, l_5420, l_5520, l_5528, l_9999, l_65535, l_65536, l_100000, l_16777215, l_252645135, l_858993459, l_1431655765, ↓reduceIte, Nat.reduceAdd, Nat.reduceMul, Nat.reduceSub, ixN, inbN, leT, leF, ltT, ltF, eqT, eqF, eqM, eqNone, addN, mulN, subN, m1N, ↓to_bnd, bnd_some, ↓to_nmT, nmT_eq, up2_r, up2_e, pk_us, pk_un, b2_t, b2_f, b2_0, b2_1, zB_1, zB_0, zB_b2, not_true_eq_false, not_false_eq_true, r_Mo, Nat.add_zero, Nat.add_sub_cancel, within_R, within_N, in_R, in_N, inN_yes, inR_yes, inR_pred, orNone_nn, nn_m, nn_N, f_Ct_isDay, f_Ct_isThing, f_Ct_isKind, f_Ct_isRoomSeat, f_Ct_isOffice, f_Ct_isTable, f_Ct_isPaper, f_Ct_isRule, f_Ct_isDecision, f_Mo_isOffice, f_Mo_isTable, f_Mo_isPaper, f_Mo_isRule, f_Mo_isDecision, f_Mo_isDay, f_Mo_isThing, f_Mo_paperOf, f_Mo_set, e16, e17']
    · rw [decide_eq_false (fun q => d (iff.mpr q).2.2)]
      simp -dsimp -implicitDefEqProofs (disch := omega) only [f_Mo_isSign, f_Mo_isSign_20, f_Mo_isSign_21, ↓l_m1, l_0, l_1, l_2, l_3, l_4, l_5, l_6, l_7, l_8, l_9, l_10, l_11, l_12, l_13, l_14, l_15, l_16, l_17, l_20, l_21, l_22, l_23, l_24, l_28, l_29, l_30, l_31, l_32, l_40, l_41, l_48, l_57, l_60, l_62, l_63, l_84, l_96, l_97, l_99, l_100, l_122, l_132, l_144, l_150, l_186, l_255, l_256, l_288, l_300, l_522, l_634, l_999, l_5242, l_5410, l_5420, l_5520, l_5528, l_9999, l_65535, l_65536, l_100000, l_16777215, l_252645135, l_858993459, l_1431655765, ↓reduceIte, Nat.reduceAdd, Nat.reduceMul, Nat.reduceSub, ixN, inbN, leT, leF, ltT, ltF, eqT, eqF, eqM, eqNone, addN, mulN, subN, m1N, ↓to_bnd, bnd_some, ↓to_nmT, nmT_eq, up2_r, up2_e, pk_us, pk_un, b2_t, b2_f, b2_0, b2_1, zB_1, zB_0, zB_b2, not_true_eq_false, not_false_eq_true, r_Mo, Nat.add_zero, Nat.add_sub_cancel, within_R, within_N, in_R, in_N, inN_yes, inR_yes, inR_pred, orNone_nn, nn_m, nn_N, f_Ct_isDay, f_Ct_isThing, f_Ct_isKind, f_Ct_isRoomSeat, f_Ct_isOffice, f_Ct_isTable, f_Ct_isPaper, f_Ct_isRule, f_Ct_isDecision, f_Mo_isOffice, f_Mo_isTable, f_Mo_isPaper, f_Mo_isRule, f_Mo_isDecision, f_Mo_isDay, f_Mo_isThing, f_Mo_paperOf, f_Mo_set, e16, e17']
  · rw [decide_eq_false (fun q => c ⟨(iff.mpr q).1, (iff.mpr q).2.1⟩)]
    have n1 : mtk (tkT B L k) ≠ 3 ∧ mtk (tkT B L k) < 100 := by unfold mtk; (repeat' split) <;> omega
    simp -dsimp -implicitDefEqProofs (disch := omega) only [f_Mo_isSign, f_Mo_isSign_20, f_Mo_isSign_21, ↓l_m1, l_0, l_1, l_2, l_3, l_4, l_5, l_6, l_7, l_8, l_9, l_10, l_11, l_12, l_13, l_14, l_15, l_16, l_17, l_20, l_21, l_22, l_23, l_24, l_28, l_29, l_30, l_31, l_32, l_40, l_41, l_48, l_57, l_60, l_62, l_63, l_84, l_96, l_97, l_99, l_100, l_122, l_132, l_144, l_150, l_186, l_255, l_256, l_288, l_300, l_522, l_634, l_999, l_5242, l_5410, l_5420, l_5520, l_5528, l_9999, l_65535, l_65536, l_100000, l_16777215, l_252645135, l_858993459, l_1431655765, ↓reduceIte, Nat.reduceAdd, Nat.reduceMul, Nat.reduceSub, ixN, inbN, leT, leF, ltT, ltF, eqT, eqF, eqM, eqNone, addN, mulN, subN, m1N, ↓to_bnd, bnd_some, ↓to_nmT, nmT_eq, up2_r, up2_e, pk_us, pk_un, b2_t, b2_f, b2_0, b2_1, zB_1, zB_0, zB_b2, not_true_eq_false, not_false_eq_true, r_Mo, Nat.add_zero, Nat.add_sub_cancel, within_R, within_N, in_R, in_N, inN_yes, inR_yes, inR_pred, orNone_nn, nn_m, nn_N, f_Ct_isDay, f_Ct_isThing, f_Ct_isKind, f_Ct_isRoomSeat, f_Ct_isOffice, f_Ct_isTable, f_Ct_isPaper, f_Ct_isRule, f_Ct_isDecision, f_Mo_isOffice, f_Mo_isTable, f_Mo_isPaper, f_Mo_isRule, f_Mo_isDecision, f_Mo_isDay, f_Mo_isThing, f_Mo_paperOf, f_Mo_set, e16]
theorem w_if : ∀ t, t < 24 → ((6 ≤ t ∧ t ≤ 22 ∧ mvl t 0 = 6) ↔ t = 6) := by decide +kernel
theorem w_unless : ∀ t, t < 24 → ((6 ≤ t ∧ t ≤ 22 ∧ mvl t 0 = 7) ↔ t = 7) := by decide +kernel
theorem w_and : ∀ t, t < 24 → ((6 ≤ t ∧ t ≤ 22 ∧ mvl t 0 = 8) ↔ t = 9) := by decide +kernel
theorem w_or : ∀ t, t < 24 → ((6 ≤ t ∧ t ≤ 22 ∧ mvl t 0 = 9) ↔ t = 8) := by decide +kernel
theorem w_not : ∀ t, t < 24 → ((6 ≤ t ∧ t ≤ 22 ∧ mvl t 0 = 10) ↔ t = 10) := by decide +kernel
theorem s_op : ∀ t, t < 24 → ((2 ≤ t ∧ t ≤ 5 ∧ mvl t 0 = 40) ↔ t = 2) := by decide +kernel
theorem s_cl : ∀ t, t < 24 → ((2 ≤ t ∧ t ≤ 5 ∧ mvl t 0 = 41) ↔ t = 3) := by decide +kernel
theorem s_lt : ∀ t, t < 24 → ((2 ≤ t ∧ t ≤ 5 ∧ mvl t 0 = 60) ↔ t = 4) := by decide +kernel
theorem s_gt : ∀ t, t < 24 → ((2 ≤ t ∧ t ≤ 5 ∧ mvl t 0 = 62) ↔ t = 5) := by decide +kernel
