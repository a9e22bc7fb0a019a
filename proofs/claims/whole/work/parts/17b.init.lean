/-! the two constructors, run once by the kernel -/
theorem c_325_0 : cd 325 0 = some (.new 7, 3) := by decide +kernel
theorem c_325_3 : cd 325 3 = some (.dup, 1) := by decide +kernel
theorem c_325_4 : cd 325 4 = some (.invokespecial 9, 3) := by decide +kernel
theorem c_325_7 : cd 325 7 = some (.astore_n 1, 1) := by decide +kernel
theorem c_325_8 : cd 325 8 = some (.new 10, 3) := by decide +kernel
theorem c_325_11 : cd 325 11 = some (.dup, 1) := by decide +kernel
theorem c_325_12 : cd 325 12 = some (.invokespecial 12, 3) := by decide +kernel
theorem c_325_15 : cd 325 15 = some (.astore_n 2, 1) := by decide +kernel
theorem c_325_16 : cd 325 16 = some (.iconst (0), 1) := by decide +kernel
theorem c_325_17 : cd 325 17 = some (.istore_n 3, 1) := by decide +kernel
theorem ml_9 : ml (mCo 325) 9 = some (117, 1, 0) := by decide +kernel
theorem ml_12 : ml (mCo 325) 12 = some (188, 1, 0) := by decide +kernel
def X0 : Xt := (0, fun _ => 0)
def hA : Hp := (shN (0, fun _ => noSe) 11 (nF 11), fun _ _ => 0)
def lc1 (b j : Nat) : List Value := [.ref b] ++ List.replicate (mMax j - 1) unset0
def letsL : List Int32 := [116, 97, 98, 108, 101, 97, 104, 101, 97, 100, 110, 101, 101, 100, 115, 105, 108, 101, 110, 116, 115, 104, 117, 116, 115, 116, 114, 105, 107, 101, 105, 102, 117, 110, 108, 101, 115, 115, 97, 110, 100, 111, 114, 110, 111, 116, 115, 117, 109, 100, 97, 121, 103, 111, 118, 98, 121, 116, 104, 105, 110, 103, 97, 103, 114, 101, 101, 100]
def begsL : List Int32 := [0, 5, 10, 14, 20, 24, 30, 32, 38, 41, 43, 46, 49, 52, 55, 57, 62, 68]
/-- what the cells hold at first -/
def v0 (o k : Nat) : Int32 := if o = 306 then letsL.getD k 0 else if o = 307 then begsL.getD k 0 else if o = 312 then -1 else if o = 28 ∨ o = 112 ∨ o = 196 then -1000000005 else if o = 299 then (if 5410 ≤ k ∧ k < 5420 then -1 else 0) else if tgT o = 3 then (if k = 5 ∨ k = 9 ∨ k = 10 ∨ k = 11 then -1000000005 else 0) else if tgT o = 4 then (if k = 1 then -1 else 0) else 0
/-- which cells of an object are looked at -/
def vL (o : Nat) : List Nat := if o = 0 then [8, 9] else if o = 1 then [8, 9, 10, 11, 12] else if o = 2 then [3, 4] else if o = 6 then [4] else if o = 13 then [8] else if o = 22 then [4, 5] else if o = 28 then List.range 10 else if 29 ≤ o ∧ o < 53 then [6, 12] else if o < 253 then [] else if o = 253 then [2, 3, 4, 5] else if o = 256 then [5, 6, 7, 8] else if o = 298 then [3, 7, 8, 10, 13, 14, 15, 16, 17, 18, 19, 20, 21, 23, 24, 25, 26, 27, 28, 29, 31, 32, 33, 44] else if o = 299 then [0, 1, 2, 3, 4, 5, 6, 7, 8, 9, 5410, 5411, 5412, 5413, 5414, 5415, 5416, 5417, 5418, 5419] else if o = 306 then List.range 68 else if o = 307 then List.range 18 else if o = 312 then List.range 10 else if o = 313 then List.range 10 else if 316 ≤ o ∧ o < 320 then List.range 6 else if tgT o = 4 then [1, 2] else if tgT o = 6 then [2, 3] else []
def chkS (S : Sh) : Bool := decide (S.1 = 322) && (List.range 322).all (fun k => decide ((S.2 k).1 = tgT k) && decide ((S.2 k).2.1 = lnT k) && (List.range (if 20 ≤ tgT k ∧ tgT k < 30 then 0 else lnT k)).all (fun i => !(isR (tgT k) i) || decide ((S.2 k).2.2 i = some (rfT k i))))
def chkV (σ : Mm) : Bool := (List.range 322).all (fun o => (vL o).all (fun k => decide (σ o k = v0 o k)))
def chk (f : Hp → Bool) : Bool := match run X0 20000 99 117 0 (lc1 0 117) [] hA with
  | some (none, h2) => decide (h2.1.1 = 298) && (match run X0 20000 99 188 0 (lc1 298 188) [] (shN h2.1 12 (nF 12), h2.2) with
    | some (none, h4) => f h4
    | _ => false)
  | _ => false
set_option maxRecDepth 1000000 in
theorem chk_ok1 : chk (fun h => chkS h.1) = true := by decide +kernel
set_option maxRecDepth 1000000 in
theorem chk_ok2 : chk (fun h => chkV h.2) = true := by decide +kernel
set_option maxRecDepth 1000000 in
theorem chk_ok3 : chk (fun h => decide (slt h.1 ≤ 7302250)) = true := by decide +kernel
theorem chkS_ok {S : Sh} (h : chkS S = true) : ShOK S := by
  unfold chkS at h
  rw [Bool.and_eq_true] at h
  refine ⟨of_decide_eq_true h.1, fun k hk => ?_⟩
  have h2 := List.all_eq_true.mp h.2 k (List.mem_range.mpr hk)
  rw [Bool.and_eq_true, Bool.and_eq_true] at h2
  refine ⟨of_decide_eq_true h2.1.1, of_decide_eq_true h2.1.2, fun i hi hr => ?_⟩
  by_cases ht : 20 ≤ tgT k ∧ tgT k < 30
  · exfalso
    unfold isR at hr
    rw [if_neg (by omega)] at hr
    have := of_decide_eq_true hr
    omega
  · have h3 := h2.2
    rw [if_neg ht] at h3
    have h4 := List.all_eq_true.mp h3 i (List.mem_range.mpr hi)
    rw [hr] at h4
    exact of_decide_eq_true h4
/-- the cells that the proof starts from -/
def VOK (σ : Mm) : Prop := ∀ o, o < 322 → ∀ k, k ∈ vL o → σ o k = v0 o k
theorem chkV_ok {σ : Mm} (h : chkV σ = true) : VOK σ := by
  unfold chkV at h
  exact fun o ho k hk => of_decide_eq_true (List.all_eq_true.mp (List.all_eq_true.mp h o (List.mem_range.mpr ho)) k hk)
theorem chk_ex {f : Hp → Bool} (h : chk f = true) : ∃ (h2 h4 : Hp), run X0 20000 99 117 0 (lc1 0 117) [] hA = some (none, h2) ∧ h2.1.1 = 298 ∧ run X0 20000 99 188 0 (lc1 298 188) [] (shN h2.1 12 (nF 12), h2.2) = some (none, h4) ∧ f h4 = true := by
  unfold chk at h
  split at h
  · next h2 e2 =>
    rw [Bool.and_eq_true] at h
    obtain ⟨ha, hb⟩ := h
    split at hb
    · next h4 e4 => exact ⟨h2, h4, e2, of_decide_eq_true ha, e4, hb⟩
    · cases hb
  · cases h
theorem some_pr {a b : Hp} (h : some ((none : Option Value), a) = some (none, b)) : a = b := congrArg Prod.snd (Option.some.inj h)
theorem init_runs : ∃ (h2 h4 : Hp), run X0 20000 99 117 0 (lc1 0 117) [] hA = some (none, h2) ∧ h2.1.1 = 298 ∧ run X0 20000 99 188 0 (lc1 298 188) [] (shN h2.1 12 (nF 12), h2.2) = some (none, h4) ∧ ShOK h4.1 ∧ VOK h4.2 ∧ slt h4.1 ≤ 7302250 := by
  obtain ⟨h2, h4, e2, en, e4, q⟩ := chk_ex chk_ok1
  obtain ⟨g2, g4, f2, -, f4, p⟩ := chk_ex chk_ok2
  obtain ⟨i2, i4, j2, -, j4, t⟩ := chk_ex chk_ok3
  obtain rfl := some_pr (e2.symm.trans f2)
  obtain rfl := some_pr (e2.symm.trans j2)
  obtain rfl := some_pr (e4.symm.trans f4)
  obtain rfl := some_pr (e4.symm.trans j4)
  exact ⟨h2, h4, e2, en, e4, chkS_ok q, chkV_ok p, of_decide_eq_true t⟩
theorem run_s {X : Xt} {n d mi pc len pc' : Nat} {ins : Instr} {loc st loc' st' : List Value} {h h' : Hp} {r : Option Value × Hp} (hcd : cd mi pc = some (ins, len)) (hk : cko ins = none) (hni : ins ≠ .ireturn) (hnr : ins ≠ .return_) (hs : stp X (mCo mi) (mKind mi == 2) pc ins len loc st h = some (pc', loc', st', h')) (k : run X n d mi pc' loc' st' h' = some r) : run X (n + 1) d mi pc loc st h = some r := by
  rw [run, hcd]
  dsimp only
  rw [hk]
  dsimp only
  split
  · exact absurd rfl hni
  · exact absurd rfl hnr
  · rw [hs]; exact k
theorem run_c {X : Xt} {n1 n2 d mi pc idx j b ne : Nat} {loc : List Value} {h h1 : Hp} {r : Option Value × Hp} (hcd : cd mi pc = some (.invokespecial idx, 3)) (hml : ml (mCo mi) idx = some (j, 1, ne)) (hj : j < 1000) (hkd : mKind j = 2) (hc : run X n1 d j 0 (lc1 b j) [] h = some (none, h1)) (k : run X n2 (d + 1) mi (pc + 3) loc [.ref b] h1 = some r) : run X (max n1 n2 + 1) (d + 1) mi pc loc [.ref b, .ref b] h = some r := by
  have hrc : rcv h j [.ref b] = true := by
    unfold rcv
    rw [hkd]
    rfl
  rw [run, hcd]
  show (match ml (mCo mi) idx with
    | none => none
    | some (j, na, _) => _) = some r
  rw [hml]
  dsimp only
  rw [if_pos ⟨rfl, Nat.le_of_ble_eq_true rfl, Nat.le_of_ble_eq_true rfl, rfl⟩, if_neg (by omega), if_pos ⟨hkd.symm, hrc⟩]
  show (match run X (max n1 n2) d j 0 (lc1 b j) [] h with
    | none => none
    | some (r, h') => run X (max n1 n2) (d + 1) mi (pc + 3) loc (r.toList ++ [.ref b]) h') = some r
  rw [run_up X n1 (max n1 n2) d d _ _ _ _ _ _ (Nat.le_max_left _ _) (Nat.le_refl _) hc]
  exact run_up X n2 (max n1 n2) _ _ _ _ _ _ _ _ (Nat.le_max_right _ _) (Nat.le_refl _) k
/-- from the law's first row to its loop -/
theorem init_ok : ∃ (S : Sh) (σ : Mm), ShOK S ∧ VOK σ ∧ slt S ≤ 7302250 ∧ ∀ (X : Xt) (n : Nat) (r : Option Value × Hp), run X n 100 325 18 [.ref 1000009, .ref 0, .ref 298, .int 0] [] (S, σ) = some r → ∃ n', run X n' 100 325 0 [.ref 1000009, unset0, unset0, unset0] [] ((0, fun _ => noSe), fun _ _ => 0) = some r := by
  obtain ⟨h2, ⟨S, σ⟩, e2, hn, e4, hS, hV, hl⟩ := init_runs
  refine ⟨S, σ, hS, hV, hl, fun X n r hr => ?_⟩
  have e2 := run_X (X' := X) rfl _ _ _ _ _ _ _ _ (by decide) e2
  have e4 := run_X (X' := X) rfl _ _ _ _ _ _ _ _ (by decide) e4
  have a17 := run_s (loc := [.ref 1000009, .ref 0, .ref 298, unset0]) (st := [.int 0]) c_325_17 rfl (fun h => by cases h) (fun h => by cases h) rfl hr
  have a16 := run_s (loc := [.ref 1000009, .ref 0, .ref 298, unset0]) (st := []) c_325_16 rfl (fun h => by cases h) (fun h => by cases h) rfl a17
  have a15 := run_s (loc := [.ref 1000009, .ref 0, unset0, unset0]) (st := [.ref 298]) c_325_15 rfl (fun h => by cases h) (fun h => by cases h) rfl a16
  have a12 := run_c (mi := 325) (pc := 12) (d := 99) (loc := [.ref 1000009, .ref 0, unset0, unset0]) c_325_12 ml_12 (by decide) rfl e4 a15
  have a11 := run_s (loc := [.ref 1000009, .ref 0, unset0, unset0]) (st := [.ref 298]) c_325_11 rfl (fun h => by cases h) (fun h => by cases h) rfl a12
  have s8 : stp X (mCo 325) (mKind 325 == 2) 8 (.new 10) 3 [.ref 1000009, .ref 0, unset0, unset0] [] h2 = some (11, [.ref 1000009, .ref 0, unset0, unset0], [.ref 298], (shN h2.1 12 (nF 12), h2.2)) := by
    show newO (mCo 325) 8 10 _ _ h2 = _
    unfold newO
    rw [show cll (mCo 325) 10 = some 12 by decide +kernel]
    dsimp only
    rw [hn, if_pos ⟨by decide, by decide⟩]
  have a8 := run_s c_325_8 rfl (fun h => by cases h) (fun h => by cases h) s8 a11
  have a7 := run_s (loc := [.ref 1000009, unset0, unset0, unset0]) (st := [.ref 0]) c_325_7 rfl (fun h => by cases h) (fun h => by cases h) rfl a8
  have a4 := run_c (mi := 325) (pc := 4) (d := 99) (loc := [.ref 1000009, unset0, unset0, unset0]) c_325_4 ml_9 (by decide) rfl e2 a7
  have a3 := run_s (loc := [.ref 1000009, unset0, unset0, unset0]) (st := [.ref 0]) c_325_3 rfl (fun h => by cases h) (fun h => by cases h) rfl a4
  have s0 : stp X (mCo 325) (mKind 325 == 2) 0 (.new 7) 3 [.ref 1000009, unset0, unset0, unset0] [] ((0, fun _ => noSe), fun _ _ => 0) = some (3, [.ref 1000009, unset0, unset0, unset0], [.ref 0], hA) := by
    show newO (mCo 325) 0 7 _ _ ((0, fun _ => noSe), fun _ _ => 0) = _
    unfold newO
    rw [show cll (mCo 325) 7 = some 11 by decide +kernel]
    dsimp only
    rw [if_pos ⟨by decide, by decide⟩]
    rfl
  exact ⟨_, run_s c_325_0 rfl (fun h => by cases h) (fun h => by cases h) s0 a3⟩
