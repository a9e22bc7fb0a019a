/-! the links are right -/
theorem getD_out {α : Type} {L : List (List α)} {c : Nat} (h : L.length ≤ c) : L.getD c [] = [] := by
  rw [List.getD_eq_getElem?_getD, List.getElem?_eq_none h]; rfl
theorem tab_of {α : Type} {L : List (List α)} {N : Nat} (hN : L.length ≤ N) {P : Nat → α → Bool} (h : (List.range N).all (fun o => (L.getD o []).all (P o)) = true) {c : Nat} {q : α} (hq : q ∈ L.getD c []) : P c q = true := by
  by_cases hc : c < N
  · exact List.all_eq_true.mp (List.all_eq_true.mp h c (List.mem_range.mpr hc)) q hq
  · rw [getD_out (by omega)] at hq
    cases hq
def objInitN : MethodName := Lib.objectInit
def strLenN : MethodName := ⟨"java/lang/String", "length", "()I"⟩
def strAtN : MethodName := ⟨"java/lang/String", "charAt", "(I)C"⟩
def yJ (j : Nat) : MethodName := if j < 1000 then mY j else if j = 1000 then objInitN else if j = 1001 then arraycopyName else if j = 1002 then strLenN else if j = 1003 then strAtN else Lib.Math.max.name
def naJ (j : Nat) : Nat := if j < 1000 then mNa j else if j = 1000 then 1 else if j = 1001 then 5 else if j = 1002 then 1 else 2
def ckF (o : Nat) (q : Nat × Nat × Nat × Nat) : Bool := decide (tblAt q.2.2.2 = some (Cond.fieldLink (oN o) q.1 (fTs q.2.1 q.2.2.1).1 (fTs q.2.1 q.2.2.1).2.1 (fTs q.2.1 q.2.2.1).2.2.1)) && (decide (q.2.2.1 < nF q.2.1) && decide (q.2.1 < 13))
set_option maxRecDepth 100000 in
theorem ckF_all : (List.range 16).all (fun o => (flL.getD o []).all (ckF o)) = true := by decide +kernel
def ckM (o : Nat) (q : Nat × Nat × Nat × Nat × Nat) : Bool := decide (q.2.1 < 1005) && (decide (q.2.1 < 1000 → q.2.1 < 324) && (decide (q.2.2.1 = naJ q.2.1) && (if q.2.2.2.1 = 0 then decide (tblAt q.2.2.2.2 = some (Cond.methodLink (oN o) q.1 (yJ q.2.1))) else (decide (q.2.1 < 1000) && decide (tblAt q.2.2.2.2 = some (Cond.methodLinkNest (oN o) q.1 (yJ q.2.1) "CabinetTable"))))))
set_option maxRecDepth 100000 in
theorem ckM_all : (List.range 16).all (fun o => (mlL.getD o []).all (ckM o)) = true := by decide +kernel
def ckK (o : Nat) (q : Nat × Int32 × Nat) : Bool := decide (tblAt q.2.2 = some (Cond.constant (oN o) q.1 q.2.1))
set_option maxRecDepth 100000 in
theorem ckK_all : (List.range 16).all (fun o => (klL.getD o []).all (ckK o)) = true := by decide +kernel
def ckC (o : Nat) (q : Nat × Nat × Nat) : Bool := decide (tblAt q.2.2 = some (Cond.classLink (oN o) q.1 (oN q.2.1)))
set_option maxRecDepth 100000 in
theorem ckC_all : (List.range 16).all (fun o => (clL.getD o []).all (ckC o)) = true := by decide +kernel
theorem fl_ok {c i ci k : Nat} (h : fl c i = some (ci, k)) : Cond.fieldLink (oN c) i (fTs ci k).1 (fTs ci k).2.1 (fTs ci k).2.2.1 ∈ TBg ∧ k < nF ci ∧ ci < 13 := by
  unfold fl at h
  cases hf : (flL.getD c []).find? (fun q => q.1 == i) with
  | none => rw [hf] at h; cases h
  | some q =>
    rw [hf] at h
    have e := Option.some.inj h
    have h1 := List.find?_some hf
    have h2 := tab_of (N := 16) (by decide) ckF_all (List.mem_of_find?_eq_some hf)
    simp only [beq_iff_eq] at h1
    simp only [ckF, Bool.and_eq_true, decide_eq_true_eq] at h2
    obtain ⟨q1, q2, q3, q4⟩ := q
    cases e
    dsimp only at h1 h2
    subst h1
    exact ⟨tbg (tblAt_mem h2.1) rfl, h2.2⟩
theorem ml_ok {c i j na ne : Nat} (h : ml c i = some (j, na, ne)) : j < 1005 ∧ (j < 1000 → j < 324) ∧ na = naJ j ∧ (ne = 0 → Cond.methodLink (oN c) i (yJ j) ∈ TBg) ∧ (ne ≠ 0 → j < 1000 ∧ Cond.methodLinkNest (oN c) i (yJ j) "CabinetTable" ∈ lw_tbl) := by
  unfold ml at h
  cases hf : (mlL.getD c []).find? (fun q => q.1 == i) with
  | none => rw [hf] at h; cases h
  | some q =>
    rw [hf] at h
    have e := Option.some.inj h
    have h1 := List.find?_some hf
    have h2 := tab_of (N := 16) (by decide) ckM_all (List.mem_of_find?_eq_some hf)
    simp only [beq_iff_eq] at h1
    obtain ⟨q1, q2, q3, q4, q5⟩ := q
    cases e
    dsimp only at h1
    subst h1
    simp only [ckM, Bool.and_eq_true, decide_eq_true_eq] at h2
    obtain ⟨a1, a2, a3, a4⟩ := h2
    refine ⟨a1, a2, a3, fun z => ?_, fun z => ?_⟩
    · rw [if_pos z] at a4
      exact tbg (tblAt_mem (of_decide_eq_true a4)) rfl
    · rw [if_neg z] at a4
      simp only [Bool.and_eq_true, decide_eq_true_eq] at a4
      exact ⟨a4.1, tblAt_mem a4.2⟩
theorem kl_ok {c i : Nat} {v : Int32} (h : kl c i = some v) : Cond.constant (oN c) i v ∈ TBg := by
  unfold kl at h
  cases hf : (klL.getD c []).find? (fun q => q.1 == i) with
  | none => rw [hf] at h; cases h
  | some q =>
    rw [hf] at h
    have e : q.2.1 = v := Option.some.inj h
    have h1 := List.find?_some hf
    have h2 := tab_of (N := 16) (by decide) ckK_all (List.mem_of_find?_eq_some hf)
    simp only [beq_iff_eq] at h1
    simp only [ckK, decide_eq_true_eq] at h2
    rw [h1, e] at h2
    exact tbg (tblAt_mem h2) rfl
theorem cll_ok {c i ci : Nat} (h : cll c i = some ci) : Cond.classLink (oN c) i (oN ci) ∈ TBg := by
  unfold cll at h
  cases hf : (clL.getD c []).find? (fun q => q.1 == i) with
  | none => rw [hf] at h; cases h
  | some q =>
    rw [hf] at h
    have e : q.2.1 = ci := Option.some.inj h
    have h1 := List.find?_some hf
    have h2 := tab_of (N := 16) (by decide) ckC_all (List.mem_of_find?_eq_some hf)
    simp only [beq_iff_eq] at h1
    simp only [ckC, decide_eq_true_eq] at h2
    rw [h1, e] at h2
    exact tbg (tblAt_mem h2) rfl
/-- the owners' words -/
def ckW (o : Nat) : Bool := decide (tblAt ([1006, 1005, 1003, 1007, 1011, 1008, 1012, 1002, 1004, 1010, 1009, 1001, 1013, 1000, 1020].getD o 0) = some (Cond.initialized (oN o))) && (plainName (oN o) && decide (oN o ≠ "java/lang/invoke/MethodHandle" ∧ oN o ≠ "java/lang/invoke/VarHandle"))
set_option maxRecDepth 100000 in
theorem ckW_all : (List.range 15).all ckW = true := by decide +kernel
theorem ow_ok {o : Nat} (h : o < 15) : Cond.initialized (oN o) ∈ TBg ∧ plainName (oN o) = true ∧ (oN o ≠ "java/lang/invoke/MethodHandle" ∧ oN o ≠ "java/lang/invoke/VarHandle") := by
  have h2 := List.all_eq_true.mp ckW_all o (List.mem_range.mpr h)
  simp only [ckW, Bool.and_eq_true, decide_eq_true_eq] at h2
  exact ⟨tbg (tblAt_mem h2.1) rfl, h2.2.1, h2.2.2⟩
/-- a method's own words -/
def ckE (i : Nat) : Bool := let p := mpL.getD i (0, 0, 0, 0)
  decide ((mY i).cls = oN (mCo i)) && (decide (mCo i < 15 ∧ mMax i ≤ 45 ∧ mNa i ≤ mMax i) &&
  (if mKind i = 0 then decide (tblAt p.2.1 = some (Cond.static (mY i)))
   else decide (tblAt p.2.1 = some (Cond.instanceMethod (mY i))) && (decide (1 ≤ mNa i) &&
     (if mKind i = 1 then decide (tblAt p.2.2.1 = some (Cond.selects (mY i).cls (mY i) (mY i))) && decide (mCo i < 13) else decide (mKind i = 2 ∧ (mY i).name = "<init>" ∧ mRet i = none)))))
set_option maxRecDepth 100000 in
theorem ckE_0 : (List.range 25).all (fun r => ckE (25 * 0 + r)) = true := by decide +kernel
set_option maxRecDepth 100000 in
theorem ckE_1 : (List.range 25).all (fun r => ckE (25 * 1 + r)) = true := by decide +kernel
set_option maxRecDepth 100000 in
theorem ckE_2 : (List.range 25).all (fun r => ckE (25 * 2 + r)) = true := by decide +kernel
set_option maxRecDepth 100000 in
theorem ckE_3 : (List.range 25).all (fun r => ckE (25 * 3 + r)) = true := by decide +kernel
set_option maxRecDepth 100000 in
theorem ckE_4 : (List.range 25).all (fun r => ckE (25 * 4 + r)) = true := by decide +kernel
set_option maxRecDepth 100000 in
theorem ckE_5 : (List.range 25).all (fun r => ckE (25 * 5 + r)) = true := by decide +kernel
set_option maxRecDepth 100000 in
theorem ckE_6 : (List.range 25).all (fun r => ckE (25 * 6 + r)) = true := by decide +kernel
set_option maxRecDepth 100000 in
theorem ckE_7 : (List.range 25).all (fun r => ckE (25 * 7 + r)) = true := by decide +kernel
set_option maxRecDepth 100000 in
theorem ckE_8 : (List.range 25).all (fun r => ckE (25 * 8 + r)) = true := by decide +kernel
set_option maxRecDepth 100000 in
theorem ckE_9 : (List.range 25).all (fun r => ckE (25 * 9 + r)) = true := by decide +kernel
set_option maxRecDepth 100000 in
theorem ckE_10 : (List.range 25).all (fun r => ckE (25 * 10 + r)) = true := by decide +kernel
set_option maxRecDepth 100000 in
theorem ckE_11 : (List.range 25).all (fun r => ckE (25 * 11 + r)) = true := by decide +kernel
set_option maxRecDepth 100000 in
theorem ckE_12 : (List.range 24).all (fun r => ckE (25 * 12 + r)) = true := by decide +kernel
theorem ckE_at {i : Nat} (h : i < 324) : ckE i = true := by
  have e : i = 25 * (i / 25) + i % 25 := (Nat.div_add_mod i 25).symm
  have hr : i % 25 < 25 := Nat.mod_lt _ (by decide)
  have hc : i / 25 < 13 := by omega
  generalize i / 25 = c at e hc
  generalize i % 25 = r at e hr
  subst e
  match c, hc with
  | 0, _ => exact List.all_eq_true.mp ckE_0 r (List.mem_range.mpr (by omega))
  | 1, _ => exact List.all_eq_true.mp ckE_1 r (List.mem_range.mpr (by omega))
  | 2, _ => exact List.all_eq_true.mp ckE_2 r (List.mem_range.mpr (by omega))
  | 3, _ => exact List.all_eq_true.mp ckE_3 r (List.mem_range.mpr (by omega))
  | 4, _ => exact List.all_eq_true.mp ckE_4 r (List.mem_range.mpr (by omega))
  | 5, _ => exact List.all_eq_true.mp ckE_5 r (List.mem_range.mpr (by omega))
  | 6, _ => exact List.all_eq_true.mp ckE_6 r (List.mem_range.mpr (by omega))
  | 7, _ => exact List.all_eq_true.mp ckE_7 r (List.mem_range.mpr (by omega))
  | 8, _ => exact List.all_eq_true.mp ckE_8 r (List.mem_range.mpr (by omega))
  | 9, _ => exact List.all_eq_true.mp ckE_9 r (List.mem_range.mpr (by omega))
  | 10, _ => exact List.all_eq_true.mp ckE_10 r (List.mem_range.mpr (by omega))
  | 11, _ => exact List.all_eq_true.mp ckE_11 r (List.mem_range.mpr (by omega))
  | 12, _ => exact List.all_eq_true.mp ckE_12 r (List.mem_range.mpr (by omega))
def dsL : List (String × Nat) := [("()V", 0), ("(LCabinetTable$Copies;)V", 1), ("(IIII)I", 4), ("(I)Z", 1), ("()I", 0), ("(I)I", 1), ("(II)I", 2), ("(III)I", 3), ("(LCabinetTable$Docket;)V", 1), ("()Z", 0), ("(IIII)V", 4), ("(II)V", 2), ("(II)Z", 2), ("(LCabinetTable$Holders;)V", 1), ("(IIIII)V", 5), ("(LCabinetTable$Paper;)V", 1), ("(IZ)I", 2), ("(LCabinetTable$Register;)V", 1), ("(LCabinetTable$Rule;)V", 1), ("(III)Z", 3), ("(LCabinetTable$Paper;II)Z", 3), ("(IILCabinetTable$Paper;II)Z", 5), ("(ILCabinetTable$Paper;II)Z", 4), ("(LCabinetTable$State;)V", 1), ("(LCabinetTable$Paper;)I", 1), ("(LCabinetTable$Paper;I)I", 2), ("(ILCabinetTable$Paper;I)I", 3), ("(LCabinetTable$Rule;LCabinetTable$Rule;)I", 2), ("(I)V", 1), ("(LCabinetTable$Tables;)V", 1), ("(IIZ)Z", 3), ("(B)I", 1), ("(Ljava/lang/String;II)I", 3), ("(LCabinetTable$Tables;IIII)V", 5), ("(IIIII)I", 5), ("(Z)I", 1), ("(LCabinetTable$Seat;II)V", 3), ("([I[I)V", 2), ("(III)V", 3), ("(Z)V", 1), ("(Z)Z", 1)]
set_option maxRecDepth 100000 in
theorem dsL_ok : dsL.all (fun q => decide ((parseMethodDescriptor q.1).map (fun d => d.parameters.length) = some q.2)) = true := by decide +kernel
def diL : List Nat := [0, 1, 2, 3, 4, 5, 6, 7, 6, 6, 0, 8, 9, 3, 3, 2, 10, 6, 11, 5, 6, 12, 6, 6, 7, 6, 12, 0, 13, 4, 7, 6, 0, 14, 15, 9, 9, 9, 3, 11, 16, 5, 5, 4, 4, 4, 4, 0, 11, 17, 9, 3, 12, 6, 0, 18, 0, 11, 5, 19, 20, 21, 22, 0, 0, 23, 24, 6, 25, 26, 5, 27, 25, 7, 0, 28, 5, 6, 4, 5, 4, 4, 0, 29, 7, 6, 5, 12, 12, 6, 12, 30, 0, 7, 28, 5, 9, 4, 0, 9, 12, 12, 12, 9, 0, 11, 31, 6, 7, 6, 6, 32, 0, 33, 5, 33, 11, 0, 4, 6, 6, 4, 7, 6, 6, 7, 2, 34, 6, 6, 5, 5, 7, 7, 5, 5, 6, 6, 6, 6, 6, 6, 7, 7, 6, 5, 5, 6, 6, 5, 6, 5, 5, 5, 7, 5, 5, 7, 7, 6, 4, 5, 4, 7, 7, 34, 7, 6, 6, 6, 5, 5, 4, 4, 5, 19, 12, 3, 3, 3, 3, 35, 3, 3, 3, 3, 3, 36, 0, 19, 5, 5, 5, 37, 3, 3, 3, 3, 3, 3, 3, 12, 4, 6, 6, 6, 4, 7, 6, 12, 6, 7, 28, 12, 10, 2, 12, 6, 6, 7, 6, 38, 34, 6, 6, 5, 3, 5, 7, 7, 5, 3, 3, 0, 0, 0, 3, 3, 9, 38, 9, 28, 0, 39, 40, 40, 9, 9, 9, 5, 6, 6, 12, 19, 12, 28, 6, 6, 5, 6, 6, 6, 6, 6, 6, 12, 10, 7, 6, 5, 7, 3, 7, 5, 3, 6, 5, 5, 5, 6, 6, 6, 5, 6, 5, 28, 0, 5, 5, 6, 7, 5, 5, 6, 7, 19, 7, 6, 7, 19, 6, 4, 4, 5, 4, 3, 7, 7, 34, 3, 7, 6, 6, 6, 6, 5, 5, 4, 4, 5, 4, 5, 5, 5]
def ckD (i : Nat) : Bool := decide (dsL[diL.getD i 0]? = some ((mY i).desc, if mKind i = 0 then mNa i else mNa i - 1))
set_option maxRecDepth 100000 in
theorem ckD_0 : (List.range 25).all (fun r => ckD (25 * 0 + r)) = true := by decide +kernel
set_option maxRecDepth 100000 in
theorem ckD_1 : (List.range 25).all (fun r => ckD (25 * 1 + r)) = true := by decide +kernel
set_option maxRecDepth 100000 in
theorem ckD_2 : (List.range 25).all (fun r => ckD (25 * 2 + r)) = true := by decide +kernel
set_option maxRecDepth 100000 in
theorem ckD_3 : (List.range 25).all (fun r => ckD (25 * 3 + r)) = true := by decide +kernel
set_option maxRecDepth 100000 in
theorem ckD_4 : (List.range 25).all (fun r => ckD (25 * 4 + r)) = true := by decide +kernel
set_option maxRecDepth 100000 in
theorem ckD_5 : (List.range 25).all (fun r => ckD (25 * 5 + r)) = true := by decide +kernel
set_option maxRecDepth 100000 in
theorem ckD_6 : (List.range 25).all (fun r => ckD (25 * 6 + r)) = true := by decide +kernel
set_option maxRecDepth 100000 in
theorem ckD_7 : (List.range 25).all (fun r => ckD (25 * 7 + r)) = true := by decide +kernel
set_option maxRecDepth 100000 in
theorem ckD_8 : (List.range 25).all (fun r => ckD (25 * 8 + r)) = true := by decide +kernel
set_option maxRecDepth 100000 in
theorem ckD_9 : (List.range 25).all (fun r => ckD (25 * 9 + r)) = true := by decide +kernel
set_option maxRecDepth 100000 in
theorem ckD_10 : (List.range 25).all (fun r => ckD (25 * 10 + r)) = true := by decide +kernel
set_option maxRecDepth 100000 in
theorem ckD_11 : (List.range 25).all (fun r => ckD (25 * 11 + r)) = true := by decide +kernel
set_option maxRecDepth 100000 in
theorem ckD_12 : (List.range 24).all (fun r => ckD (25 * 12 + r)) = true := by decide +kernel
theorem ckD_at {i : Nat} (h : i < 324) : ckD i = true := by
  have e : i = 25 * (i / 25) + i % 25 := (Nat.div_add_mod i 25).symm
  have hr : i % 25 < 25 := Nat.mod_lt _ (by decide)
  have hc : i / 25 < 13 := by omega
  generalize i / 25 = c at e hc
  generalize i % 25 = r at e hr
  subst e
  match c, hc with
  | 0, _ => exact List.all_eq_true.mp ckD_0 r (List.mem_range.mpr (by omega))
  | 1, _ => exact List.all_eq_true.mp ckD_1 r (List.mem_range.mpr (by omega))
  | 2, _ => exact List.all_eq_true.mp ckD_2 r (List.mem_range.mpr (by omega))
  | 3, _ => exact List.all_eq_true.mp ckD_3 r (List.mem_range.mpr (by omega))
  | 4, _ => exact List.all_eq_true.mp ckD_4 r (List.mem_range.mpr (by omega))
  | 5, _ => exact List.all_eq_true.mp ckD_5 r (List.mem_range.mpr (by omega))
  | 6, _ => exact List.all_eq_true.mp ckD_6 r (List.mem_range.mpr (by omega))
  | 7, _ => exact List.all_eq_true.mp ckD_7 r (List.mem_range.mpr (by omega))
  | 8, _ => exact List.all_eq_true.mp ckD_8 r (List.mem_range.mpr (by omega))
  | 9, _ => exact List.all_eq_true.mp ckD_9 r (List.mem_range.mpr (by omega))
  | 10, _ => exact List.all_eq_true.mp ckD_10 r (List.mem_range.mpr (by omega))
  | 11, _ => exact List.all_eq_true.mp ckD_11 r (List.mem_range.mpr (by omega))
  | 12, _ => exact List.all_eq_true.mp ckD_12 r (List.mem_range.mpr (by omega))
theorem ds_at {i : Nat} (h : i < 324) : (parseMethodDescriptor (mY i).desc).map (fun d => d.parameters.length) = some (if mKind i = 0 then mNa i else mNa i - 1) := by
  have h1 := of_decide_eq_true (ckD_at h)
  exact of_decide_eq_true (List.all_eq_true.mp dsL_ok _ (List.mem_of_getElem? h1))
theorem mi_ok {i : Nat} (h : i < 324) : Cond.code (mY i) (bt i) (mMax i) (mRet i) ∈ TBg ∧ Cond.initialized (mY i).cls ∈ TBg ∧ (mY i).cls = oN (mCo i) ∧ plainName (mY i).cls = true ∧ (mMax i ≤ 45 ∧ mNa i ≤ mMax i) ∧ ((mY i).cls ≠ "java/lang/invoke/MethodHandle" ∧ (mY i).cls ≠ "java/lang/invoke/VarHandle") ∧
    (mKind i = 0 → Cond.static (mY i) ∈ TBg ∧ (parseMethodDescriptor (mY i).desc).map (fun d => d.parameters.length) = some (mNa i)) ∧
    (mKind i ≠ 0 → Cond.instanceMethod (mY i) ∈ TBg ∧ (parseMethodDescriptor (mY i).desc).map (fun d => d.parameters.length) = some (mNa i - 1) ∧ 1 ≤ mNa i) ∧
    (mKind i = 1 → Cond.selects (mY i).cls (mY i) (mY i) ∈ TBg ∧ mCo i < 13) ∧ (mKind i = 2 → (mY i).name = "<init>" ∧ mRet i = none) := by
  have h2 := ckE_at h
  have hds := ds_at h
  simp only [ckE, Bool.and_eq_true, decide_eq_true_eq] at h2
  obtain ⟨a3, a5, a7⟩ := h2
  obtain ⟨o1, o2, o3⟩ := ow_ok a5.1
  rw [← a3] at o1 o2 o3
  refine ⟨cw_at h, o1, a3, o2, a5.2, o3, fun z => ?_, fun z => ?_, fun z => ?_, fun z => ?_⟩
  · rw [if_pos z] at a7 hds
    exact ⟨tbg (tblAt_mem (of_decide_eq_true a7)) rfl, hds⟩
  · rw [if_neg z] at a7 hds
    simp only [Bool.and_eq_true, decide_eq_true_eq] at a7
    exact ⟨tbg (tblAt_mem a7.1) rfl, hds, a7.2.1⟩
  · rw [if_neg (by omega)] at a7
    simp only [Bool.and_eq_true, decide_eq_true_eq] at a7
    have a8 := a7.2.2
    rw [if_pos z] at a8
    simp only [Bool.and_eq_true, decide_eq_true_eq] at a8
    exact ⟨tbg (tblAt_mem a8.1) rfl, a8.2⟩
  · rw [if_neg (by omega)] at a7
    simp only [Bool.and_eq_true, decide_eq_true_eq] at a7
    have a8 := a7.2.2
    rw [if_neg (by omega)] at a8
    exact (of_decide_eq_true a8).2
/-- an object's words -/
def ckO (c : Nat) : Bool := decide (tblAt (ipL.getD c (0, 0)).1 = some (Cond.instantiable (oN c) (nF c))) && (decide (tblAt (ipL.getD c (0, 0)).2 = some (Cond.initialized (oN c))) && ((List.range (nF c)).all (fun k => decide (tblAt ((lpL.getD c []).getD k 0) = some (u_lay (oN c) (fTs c) k)) && (goodWord (u_lay (oN c) (fTs c) k) && (decide (parseFieldDescriptor (fTs c k).2.2.1 = some (fty c k)) && decide ((fTs c k).1 = oN c)))) &&
  ((List.range (nF c)).all (fun a => (List.range (nF c)).all (fun b => decide (a ≠ b → (fTs c a).2.1 ≠ (fTs c b).2.1))))))
set_option maxRecDepth 100000 in
theorem ckO_all : (List.range 13).all ckO = true := by decide +kernel
theorem cls_at {c : Nat} (h : c < 13) : classes[c]? = some (oN c, fTs c, nF c) := by
  match c, h with
  | 0, _ => rfl
  | 1, _ => rfl
  | 2, _ => rfl
  | 3, _ => rfl
  | 4, _ => rfl
  | 5, _ => rfl
  | 6, _ => rfl
  | 7, _ => rfl
  | 8, _ => rfl
  | 9, _ => rfl
  | 10, _ => rfl
  | 11, _ => rfl
  | 12, _ => rfl
theorem ob_ok {c : Nat} (h : c < 13) : Cond.instantiable (oN c) (nF c) ∈ TBg ∧ Cond.initialized (oN c) ∈ TBg ∧ (∀ w ∈ u_ws (oN c) (fTs c) (nF c), w ∈ TBg) ∧ (∀ k, k < nF c → parseFieldDescriptor (fTs c k).2.2.1 = some (fty c k)) ∧ (∀ k, k < nF c → (fTs c k).1 = oN c) ∧ (∀ a, a < nF c → ∀ b, b < nF c → a ≠ b → (fTs c a).2.1 ≠ (fTs c b).2.1) := by
  have h2 := List.all_eq_true.mp ckO_all c (List.mem_range.mpr h)
  simp only [ckO, Bool.and_eq_true, decide_eq_true_eq] at h2
  obtain ⟨a1, a2, a3, a4⟩ := h2
  have a5 : ∀ k, k < nF c → tblAt ((lpL.getD c []).getD k 0) = some (u_lay (oN c) (fTs c) k) ∧ goodWord (u_lay (oN c) (fTs c) k) = true ∧ parseFieldDescriptor (fTs c k).2.2.1 = some (fty c k) ∧ (fTs c k).1 = oN c := by
    intro k hk
    have := List.all_eq_true.mp a3 k (List.mem_range.mpr hk)
    simp only [Bool.and_eq_true, decide_eq_true_eq] at this
    exact this
  refine ⟨tbg (tblAt_mem a1) rfl, tbg (tblAt_mem a2) rfl, fun w hw => ?_, fun k hk => (a5 k hk).2.2.1, fun k hk => (a5 k hk).2.2.2, fun a ha b hb => ?_⟩
  · obtain ⟨k, hk, rfl⟩ := List.mem_map.mp hw
    have := a5 k (List.mem_range.mp hk)
    exact tbg (tblAt_mem this.1) this.2.1
  · exact of_decide_eq_true (List.all_eq_true.mp (List.all_eq_true.mp a4 a (List.mem_range.mpr ha)) b (List.mem_range.mpr hb))
