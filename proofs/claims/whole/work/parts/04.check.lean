/-! the tables are right: each row's word stands among the given words -/
def TBg : List Cond := lw_tbl.filter goodWord
theorem tbg {w : Cond} (h : w ∈ lw_tbl) (hg : goodWord w = true) : w ∈ TBg := List.mem_filter.mpr ⟨h, hg⟩
def tblAt (p : Nat) : Option Cond := match p / 1000 with
  | 0 => (k2_sels lw_privs)[p % 1000]?
  | 1 => tables_1_1[p % 1000]?
  | 2 => tables_1_2[p % 1000]?
  | 3 => tables_1_3[p % 1000]?
  | 4 => tables_1_4[p % 1000]?
  | 5 => tables_1_5[p % 1000]?
  | 6 => tables_1_6[p % 1000]?
  | 7 => tables_1_7[p % 1000]?
  | 8 => tables_1_8[p % 1000]?
  | 9 => tables_1_9[p % 1000]?
  | _ => none
theorem tblAt_mem {p : Nat} {w : Cond} (h : tblAt p = some w) : w ∈ lw_tbl := by
  unfold lw_tbl tables_1
  simp only [List.mem_append]
  unfold tblAt at h
  split at h
  · exact Or.inl (List.mem_of_getElem? h)
  · exact Or.inr (Or.inl (List.mem_of_getElem? h))
  · exact Or.inr (Or.inr (Or.inl (List.mem_of_getElem? h)))
  · exact Or.inr (Or.inr (Or.inr (Or.inl (List.mem_of_getElem? h))))
  · exact Or.inr (Or.inr (Or.inr (Or.inr (Or.inl (List.mem_of_getElem? h)))))
  · exact Or.inr (Or.inr (Or.inr (Or.inr (Or.inr (Or.inl (List.mem_of_getElem? h))))))
  · exact Or.inr (Or.inr (Or.inr (Or.inr (Or.inr (Or.inr (Or.inl (List.mem_of_getElem? h)))))))
  · exact Or.inr (Or.inr (Or.inr (Or.inr (Or.inr (Or.inr (Or.inr (Or.inl (List.mem_of_getElem? h))))))))
  · exact Or.inr (Or.inr (Or.inr (Or.inr (Or.inr (Or.inr (Or.inr (Or.inr (Or.inl (List.mem_of_getElem? h)))))))))
  · exact Or.inr (Or.inr (Or.inr (Or.inr (Or.inr (Or.inr (Or.inr (Or.inr (Or.inr (List.mem_of_getElem? h)))))))))
  · cases h
theorem getD_out {α : Type} {L : List (List α)} {c : Nat} (h : L.length ≤ c) : L.getD c [] = [] := by
  rw [List.getD_eq_getElem?_getD, List.getElem?_eq_none h]; rfl
theorem tab_of {α : Type} {L : List (List α)} {N : Nat} (hN : L.length ≤ N) {P : Nat → α → Bool} (h : (List.range N).all (fun o => (L.getD o []).all (P o)) = true) {c : Nat} {q : α} (hq : q ∈ L.getD c []) : P c q = true := by
  by_cases hc : c < N
  · exact List.all_eq_true.mp (List.all_eq_true.mp h c (List.mem_range.mpr hc)) q hq
  · rw [getD_out (by omega)] at hq
    cases hq
def objInitN : MethodName := Lib.objectInit
def strLenN : MethodName := ⟨"java/lang/String", "length", "()I"⟩
def strAtN : MethodName := ⟨"java/lang/String", "charAt", "(I)C"⟩
def yJ (j : Nat) : MethodName := if j < 1000 then mY j else if j = 1000 then objInitN else if j = 1001 then arraycopyName else if j = 1002 then strLenN else strAtN
def naJ (j : Nat) : Nat := if j < 1000 then mNa j else if j = 1000 then 1 else if j = 1001 then 5 else if j = 1002 then 1 else 2
def ckF (o : Nat) (q : Nat × Nat × Nat × Nat) : Bool := decide (tblAt q.2.2.2 = some (Cond.fieldLink (oN o) q.1 (fTs q.2.1 q.2.2.1).1 (fTs q.2.1 q.2.2.1).2.1 (fTs q.2.1 q.2.2.1).2.2.1)) && (decide (q.2.2.1 < nF q.2.1) && decide (q.2.1 < 13))
set_option maxRecDepth 100000 in
theorem ckF_all : (List.range 16).all (fun o => (flL.getD o []).all (ckF o)) = true := by decide +kernel
def ckM (o : Nat) (q : Nat × Nat × Nat × Nat × Nat) : Bool := decide (q.2.1 < 1004) && (decide (q.2.1 < 1000 → q.2.1 < 325) && (decide (q.2.2.1 = naJ q.2.1) && (if q.2.2.2.1 = 0 then decide (tblAt q.2.2.2.2 = some (Cond.methodLink (oN o) q.1 (yJ q.2.1))) else (decide (q.2.1 < 1000) && decide (tblAt q.2.2.2.2 = some (Cond.methodLinkNest (oN o) q.1 (yJ q.2.1) "CabinetTable"))))))
set_option maxRecDepth 100000 in
theorem ckM_all : (List.range 16).all (fun o => (mlL.getD o []).all (ckM o)) = true := by decide +kernel
def ckK (o : Nat) (q : Nat × Int32 × Nat) : Bool := decide (tblAt q.2.2 = some (Cond.constant (oN o) q.1 q.2.1))
set_option maxRecDepth 100000 in
theorem ckK_all : (List.range 16).all (fun o => (klL.getD o []).all (ckK o)) = true := by decide +kernel
def ckC (o : Nat) (q : Nat × Nat × Nat) : Bool := decide (tblAt q.2.2 = some (Cond.classLink (oN o) q.1 (oN q.2.1)))
set_option maxRecDepth 100000 in
theorem ckC_all : (List.range 16).all (fun o => (clL.getD o []).all (ckC o)) = true := by decide +kernel
theorem fl_ok {c i ci k : Nat} (h : fl c i = some (ci, k)) : Cond.fieldLink (oN c) i (fTs ci k).1 (fTs ci k).2.1 (fTs ci k).2.2.1 ∈ TBg ∧ k < nF ci ∧ ci < 13 := by
  unfold fl at h
  cases hf : (flL.getD c []).find? (fun q => q.1 == i) with
  | none => rw [hf] at h; cases h
  | some q =>
    rw [hf] at h
    have e := Option.some.inj h
    have h1 := List.find?_some hf
    have h2 := tab_of (N := 16) (by decide) ckF_all (List.mem_of_find?_eq_some hf)
    simp only [beq_iff_eq] at h1
    simp only [ckF, Bool.and_eq_true, decide_eq_true_eq] at h2
    obtain ⟨q1, q2, q3, q4⟩ := q
    cases e
    dsimp only at h1 h2
    subst h1
    exact ⟨tbg (tblAt_mem h2.1) rfl, h2.2⟩
theorem ml_ok {c i j na ne : Nat} (h : ml c i = some (j, na, ne)) : j < 1004 ∧ (j < 1000 → j < 325) ∧ na = naJ j ∧ (ne = 0 → Cond.methodLink (oN c) i (yJ j) ∈ TBg) ∧ (ne ≠ 0 → j < 1000 ∧ Cond.methodLinkNest (oN c) i (yJ j) "CabinetTable" ∈ lw_tbl) := by
  unfold ml at h
  cases hf : (mlL.getD c []).find? (fun q => q.1 == i) with
  | none => rw [hf] at h; cases h
  | some q =>
    rw [hf] at h
    have e := Option.some.inj h
    have h1 := List.find?_some hf
    have h2 := tab_of (N := 16) (by decide) ckM_all (List.mem_of_find?_eq_some hf)
    simp only [beq_iff_eq] at h1
    obtain ⟨q1, q2, q3, q4, q5⟩ := q
    cases e
    dsimp only at h1
    subst h1
    simp only [ckM, Bool.and_eq_true, decide_eq_true_eq] at h2
    obtain ⟨a1, a2, a3, a4⟩ := h2
    refine ⟨a1, a2, a3, fun z => ?_, fun z => ?_⟩
    · rw [if_pos z] at a4
      exact tbg (tblAt_mem (of_decide_eq_true a4)) rfl
    · rw [if_neg z] at a4
      simp only [Bool.and_eq_true, decide_eq_true_eq] at a4
      exact ⟨a4.1, tblAt_mem a4.2⟩
theorem kl_ok {c i : Nat} {v : Int32} (h : kl c i = some v) : Cond.constant (oN c) i v ∈ TBg := by
  unfold kl at h
  cases hf : (klL.getD c []).find? (fun q => q.1 == i) with
  | none => rw [hf] at h; cases h
  | some q =>
    rw [hf] at h
    have e : q.2.1 = v := Option.some.inj h
    have h1 := List.find?_some hf
    have h2 := tab_of (N := 16) (by decide) ckK_all (List.mem_of_find?_eq_some hf)
    simp only [beq_iff_eq] at h1
    simp only [ckK, decide_eq_true_eq] at h2
    rw [h1, e] at h2
    exact tbg (tblAt_mem h2) rfl
theorem cll_ok {c i ci : Nat} (h : cll c i = some ci) : Cond.classLink (oN c) i (oN ci) ∈ TBg := by
  unfold cll at h
  cases hf : (clL.getD c []).find? (fun q => q.1 == i) with
  | none => rw [hf] at h; cases h
  | some q =>
    rw [hf] at h
    have e : q.2.1 = ci := Option.some.inj h
    have h1 := List.find?_some hf
    have h2 := tab_of (N := 16) (by decide) ckC_all (List.mem_of_find?_eq_some hf)
    simp only [beq_iff_eq] at h1
    simp only [ckC, decide_eq_true_eq] at h2
    rw [h1, e] at h2
    exact tbg (tblAt_mem h2) rfl
/-- a method's own words -/
def ckE (i : Nat) : Bool := let p := mpL.getD i (0, 0, 0, 0)
  decide (tblAt p.1 = some (Cond.code (mY i) (bt i) (mMax i) (mRet i))) && (decide (tblAt p.2.2.2 = some (Cond.initialized (mY i).cls)) && (decide ((mY i).cls = oN (mCo i)) && (plainName (mY i).cls && (decide (mMax i ≤ 45 ∧ mNa i ≤ mMax i) && (decide ((mY i).cls ≠ "java/lang/invoke/MethodHandle" ∧ (mY i).cls ≠ "java/lang/invoke/VarHandle") &&
  (if mKind i = 0 then decide (tblAt p.2.1 = some (Cond.static (mY i))) && decide ((parseMethodDescriptor (mY i).desc).map (fun d => d.parameters.length) = some (mNa i))
   else decide (tblAt p.2.1 = some (Cond.instanceMethod (mY i))) && (decide ((parseMethodDescriptor (mY i).desc).map (fun d => d.parameters.length) = some (mNa i - 1)) && (decide (1 ≤ mNa i) &&
     (if mKind i = 1 then decide (tblAt p.2.2.1 = some (Cond.selects (mY i).cls (mY i) (mY i))) && decide (mCo i < 13) else decide (mKind i = 2 ∧ (mY i).name = "<init>" ∧ mRet i = none))))))))))
set_option maxRecDepth 100000 in
theorem ckE_0 : (List.range 25).all (fun r => ckE (25 * 0 + r)) = true := by decide +kernel
set_option maxRecDepth 100000 in
theorem ckE_1 : (List.range 25).all (fun r => ckE (25 * 1 + r)) = true := by decide +kernel
set_option maxRecDepth 100000 in
theorem ckE_2 : (List.range 25).all (fun r => ckE (25 * 2 + r)) = true := by decide +kernel
set_option maxRecDepth 100000 in
theorem ckE_3 : (List.range 25).all (fun r => ckE (25 * 3 + r)) = true := by decide +kernel
set_option maxRecDepth 100000 in
theorem ckE_4 : (List.range 25).all (fun r => ckE (25 * 4 + r)) = true := by decide +kernel
set_option maxRecDepth 100000 in
theorem ckE_5 : (List.range 25).all (fun r => ckE (25 * 5 + r)) = true := by decide +kernel
set_option maxRecDepth 100000 in
theorem ckE_6 : (List.range 25).all (fun r => ckE (25 * 6 + r)) = true := by decide +kernel
set_option maxRecDepth 100000 in
theorem ckE_7 : (List.range 25).all (fun r => ckE (25 * 7 + r)) = true := by decide +kernel
set_option maxRecDepth 100000 in
theorem ckE_8 : (List.range 25).all (fun r => ckE (25 * 8 + r)) = true := by decide +kernel
set_option maxRecDepth 100000 in
theorem ckE_9 : (List.range 25).all (fun r => ckE (25 * 9 + r)) = true := by decide +kernel
set_option maxRecDepth 100000 in
theorem ckE_10 : (List.range 25).all (fun r => ckE (25 * 10 + r)) = true := by decide +kernel
set_option maxRecDepth 100000 in
theorem ckE_11 : (List.range 25).all (fun r => ckE (25 * 11 + r)) = true := by decide +kernel
set_option maxRecDepth 100000 in
theorem ckE_12 : (List.range 25).all (fun r => ckE (25 * 12 + r)) = true := by decide +kernel
theorem ckE_at {i : Nat} (h : i < 325) : ckE i = true := by
  have e : i = 25 * (i / 25) + i % 25 := (Nat.div_add_mod i 25).symm
  have hr : i % 25 < 25 := Nat.mod_lt _ (by decide)
  have hc : i / 25 < 13 := by omega
  generalize i / 25 = c at e hc
  generalize i % 25 = r at e hr
  subst e
  match c, hc with
  | 0, _ => exact List.all_eq_true.mp ckE_0 r (List.mem_range.mpr hr)
  | 1, _ => exact List.all_eq_true.mp ckE_1 r (List.mem_range.mpr hr)
  | 2, _ => exact List.all_eq_true.mp ckE_2 r (List.mem_range.mpr hr)
  | 3, _ => exact List.all_eq_true.mp ckE_3 r (List.mem_range.mpr hr)
  | 4, _ => exact List.all_eq_true.mp ckE_4 r (List.mem_range.mpr hr)
  | 5, _ => exact List.all_eq_true.mp ckE_5 r (List.mem_range.mpr hr)
  | 6, _ => exact List.all_eq_true.mp ckE_6 r (List.mem_range.mpr hr)
  | 7, _ => exact List.all_eq_true.mp ckE_7 r (List.mem_range.mpr hr)
  | 8, _ => exact List.all_eq_true.mp ckE_8 r (List.mem_range.mpr hr)
  | 9, _ => exact List.all_eq_true.mp ckE_9 r (List.mem_range.mpr hr)
  | 10, _ => exact List.all_eq_true.mp ckE_10 r (List.mem_range.mpr hr)
  | 11, _ => exact List.all_eq_true.mp ckE_11 r (List.mem_range.mpr hr)
  | 12, _ => exact List.all_eq_true.mp ckE_12 r (List.mem_range.mpr hr)
theorem mi_ok {i : Nat} (h : i < 325) : Cond.code (mY i) (bt i) (mMax i) (mRet i) ∈ TBg ∧ Cond.initialized (mY i).cls ∈ TBg ∧ (mY i).cls = oN (mCo i) ∧ plainName (mY i).cls = true ∧ (mMax i ≤ 45 ∧ mNa i ≤ mMax i) ∧ ((mY i).cls ≠ "java/lang/invoke/MethodHandle" ∧ (mY i).cls ≠ "java/lang/invoke/VarHandle") ∧
    (mKind i = 0 → Cond.static (mY i) ∈ TBg ∧ (parseMethodDescriptor (mY i).desc).map (fun d => d.parameters.length) = some (mNa i)) ∧
    (mKind i ≠ 0 → Cond.instanceMethod (mY i) ∈ TBg ∧ (parseMethodDescriptor (mY i).desc).map (fun d => d.parameters.length) = some (mNa i - 1) ∧ 1 ≤ mNa i) ∧
    (mKind i = 1 → Cond.selects (mY i).cls (mY i) (mY i) ∈ TBg ∧ mCo i < 13) ∧ (mKind i = 2 → (mY i).name = "<init>" ∧ mRet i = none) := by
  have h2 := ckE_at h
  simp only [ckE, Bool.and_eq_true, decide_eq_true_eq] at h2
  obtain ⟨a1, a2, a3, a4, a5, a6, a7⟩ := h2
  refine ⟨tbg (tblAt_mem a1) rfl, tbg (tblAt_mem a2) rfl, a3, a4, a5, a6, fun z => ?_, fun z => ?_, fun z => ?_, fun z => ?_⟩
  · rw [if_pos z] at a7
    simp only [Bool.and_eq_true, decide_eq_true_eq] at a7
    exact ⟨tbg (tblAt_mem a7.1) rfl, a7.2⟩
  · rw [if_neg z] at a7
    simp only [Bool.and_eq_true, decide_eq_true_eq] at a7
    exact ⟨tbg (tblAt_mem a7.1) rfl, a7.2.1, a7.2.2.1⟩
  · rw [if_neg (by omega)] at a7
    simp only [Bool.and_eq_true, decide_eq_true_eq] at a7
    have a8 := a7.2.2.2
    rw [if_pos z] at a8
    simp only [Bool.and_eq_true, decide_eq_true_eq] at a8
    exact ⟨tbg (tblAt_mem a8.1) rfl, a8.2⟩
  · rw [if_neg (by omega)] at a7
    simp only [Bool.and_eq_true, decide_eq_true_eq] at a7
    have a8 := a7.2.2.2
    rw [if_neg (by omega)] at a8
    exact (of_decide_eq_true a8).2
/-- an object's words -/
def ckO (c : Nat) : Bool := decide (tblAt (ipL.getD c (0, 0)).1 = some (Cond.instantiable (oN c) (nF c))) && (decide (tblAt (ipL.getD c (0, 0)).2 = some (Cond.initialized (oN c))) && ((List.range (nF c)).all (fun k => decide (tblAt ((lpL.getD c []).getD k 0) = some (u_lay (oN c) (fTs c) k)) && (goodWord (u_lay (oN c) (fTs c) k) && (decide (parseFieldDescriptor (fTs c k).2.2.1 = some (fty c k)) && decide ((fTs c k).1 = oN c)))) &&
  ((List.range (nF c)).all (fun a => (List.range (nF c)).all (fun b => decide (a ≠ b → (fTs c a).2.1 ≠ (fTs c b).2.1))))))
set_option maxRecDepth 100000 in
theorem ckO_all : (List.range 13).all ckO = true := by decide +kernel
theorem cls_at {c : Nat} (h : c < 13) : classes[c]? = some (oN c, fTs c, nF c) := by
  match c, h with
  | 0, _ => rfl
  | 1, _ => rfl
  | 2, _ => rfl
  | 3, _ => rfl
  | 4, _ => rfl
  | 5, _ => rfl
  | 6, _ => rfl
  | 7, _ => rfl
  | 8, _ => rfl
  | 9, _ => rfl
  | 10, _ => rfl
  | 11, _ => rfl
  | 12, _ => rfl
theorem ob_ok {c : Nat} (h : c < 13) : Cond.instantiable (oN c) (nF c) ∈ TBg ∧ Cond.initialized (oN c) ∈ TBg ∧ (∀ w ∈ u_ws (oN c) (fTs c) (nF c), w ∈ TBg) ∧ (∀ k, k < nF c → parseFieldDescriptor (fTs c k).2.2.1 = some (fty c k)) ∧ (∀ k, k < nF c → (fTs c k).1 = oN c) ∧ (∀ a, a < nF c → ∀ b, b < nF c → a ≠ b → (fTs c a).2.1 ≠ (fTs c b).2.1) := by
  have h2 := List.all_eq_true.mp ckO_all c (List.mem_range.mpr h)
  simp only [ckO, Bool.and_eq_true, decide_eq_true_eq] at h2
  obtain ⟨a1, a2, a3, a4⟩ := h2
  have a5 : ∀ k, k < nF c → tblAt ((lpL.getD c []).getD k 0) = some (u_lay (oN c) (fTs c) k) ∧ goodWord (u_lay (oN c) (fTs c) k) = true ∧ parseFieldDescriptor (fTs c k).2.2.1 = some (fty c k) ∧ (fTs c k).1 = oN c := by
    intro k hk
    have := List.all_eq_true.mp a3 k (List.mem_range.mpr hk)
    simp only [Bool.and_eq_true, decide_eq_true_eq] at this
    exact this
  refine ⟨tbg (tblAt_mem a1) rfl, tbg (tblAt_mem a2) rfl, fun w hw => ?_, fun k hk => (a5 k hk).2.2.1, fun k hk => (a5 k hk).2.2.2, fun a ha b hb => ?_⟩
  · obtain ⟨k, hk, rfl⟩ := List.mem_map.mp hw
    have := a5 k (List.mem_range.mp hk)
    exact tbg (tblAt_mem this.1) this.2.1
  · exact of_decide_eq_true (List.all_eq_true.mp (List.all_eq_true.mp a4 a (List.mem_range.mpr ha)) b (List.mem_range.mpr hb))
