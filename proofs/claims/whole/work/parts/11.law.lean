/-! THE CLAIM OUT OF ONE WALK OF THE LAW'S BODY. Your part is whole_start (and what it stands on); all else here is the same for every law, but numbers. -/
def R_law : String := "CabinetTableLaw"
def lw_P (b : Addr) (xs : List Int32) (args : Array Value) (s : State) : Prop := args = #[.ref b] ∧ s.IntsAt b xs ∧ xs.length ≤ 3072 ∧ (Jvm.Cond.and given_1 narrow_1).before args s = true
def lw_Q (_ : Array Value) (s : State) (o : Outcome) (t : State) : Prop := o = .returned (some (.int 1)) ∧ Framed s o t [] 600000 7302250
def lw_Z (below : List Frame) (a : Array Value) (s : State) : State → Prop := fun t => ∃ o, t.status = .running ∧ Ended t below o ∧ lw_Q a s o t
/-- the law's own end, with 1 on the stack, nothing written that was there before, its room as the claim has it -/
theorem lw_ret {p : Program} {l : Launch} {e : Env} {s : State} {m : MethodId} {below : List Frame} {meth : Method} {c : Code} {b : Nat} (hx : p.tables.exec = Jvm.exec) (hb : c.code = code) (hr : meth.sig.returnType = ret) (hlocks : meth.locks = false) {pc : Nat} {H : Heap} {ls : Array Slot} (hdg : decode code pc = .ok (.ireturn, 1)) : W p l e room_1 s m #[Value.ref b] below meth c H [] 600000 7302250 (lw_Z below #[Value.ref b] s) (F0 m pc ls [.int 1]) := by
  intro T hT X
  obtain ⟨fs, hret, hrun, hended, hW, hframe⟩ := X.leave (v := some (.int 1)) (hlocks := hlocks) (fun h => by rw [hr] at h; cases h)
  have hmeth' : T.vm.method? m = some meth := X.method'
  refine ⟨T.setFrames fs, ?_, .returned (some (.int 1)), hrun, hended, rfl, ⟨_, rfl⟩, hW, hframe⟩
  jvm_step X.here [X.here.top, hx, hb, hdg, hmeth', hr, ret, narrow_b1]
  (try refine ⟨rfl, ?_⟩); (try refine ⟨rfl, ?_⟩)
  first | (intro acts; rw [hret _ acts rfl rfl rfl]) | rw [hret _ _ rfl rfl rfl]
  exact Steps.refl _
/-- what holds at the law's entry: the machine, the code, the tables' words (any of lw_tbl by 'hts w (by decide +kernel)'), the script of L ints xs at the cell b, what the Statement gives of the start (any of its parts by flat_of_before) -/
def lw_At (p : Program) (s : State) (m : MethodId) (meth : Method) (c : Code) (b L : Nat) (xs : Nat → Int32) : Prop :=
  p.tables.exec = Jvm.exec ∧ c.code = code ∧ meth.sig.returnType = ret ∧ c.maxLocals = 4 ∧ s.vm.findClass R_law = some m.cls ∧ (∀ w ∈ lw_tbl, w.before #[Value.ref b] s = true) ∧ va_X b L xs s s.heap ∧ b < s.heap.size ∧ meth.locks = false ∧ (Jvm.Cond.and given_1 narrow_1).before #[Value.ref b] s = true
/-! what holds at the law's entry, as the pure interpreter wants it -/
def strTm (i : Nat) : Term := .string "CabinetTable$Tape" (strIx i)
theorem lw_w {w : Cond} {b : Nat} {s : State} (hts : ∀ w ∈ lw_tbl, w.before #[Value.ref b] s = true) : ∀ w ∈ TBg, w.before #[Value.ref b] s = true := fun w hw => hts w (List.mem_filter.mp hw).1
set_option maxRecDepth 100000 in
theorem w_over {c : Nat} (h3 : 3 ≤ c) (h7 : c < 7) : Cond.arrayOver (.object (oN c)) ∈ lw_tbl := by
  match c, h3, h7 with
  | 3, _, _ => exact tblAt_mem (p := 1086) (by decide +kernel)
  | 4, _, _ => exact tblAt_mem (p := 2141) (by decide +kernel)
  | 5, _, _ => exact tblAt_mem (p := 1088) (by decide +kernel)
  | 6, _, _ => exact tblAt_mem (p := 2143) (by decide +kernel)
set_option maxRecDepth 100000 in
theorem w_strR {j : Nat} (h : j < 3) : Cond.stringRef "CabinetTable$Tape" (strIx j) (strTx j) ∈ lw_tbl := by
  match j, h with
  | 0, _ => exact tblAt_mem (p := 3238) (by decide +kernel)
  | 1, _ => exact tblAt_mem (p := 4051) (by decide +kernel)
  | 2, _ => exact tblAt_mem (p := 4052) (by decide +kernel)
set_option maxRecDepth 100000 in
theorem w_ls1 : Cond.laysStatic "CabinetTable$Paper" "KIND_ABOVE" "[I" ∈ lw_tbl := tblAt_mem (p := 3156) (by decide +kernel)
set_option maxRecDepth 100000 in
theorem w_ls2 : Cond.laysStatic "java/lang/String" "COMPACT_STRINGS" "Z" ∈ lw_tbl := tblAt_mem (p := 4012) (by decide +kernel)
set_option maxRecDepth 100000 in
theorem w_ls3 : Cond.laysStatic "jdk/internal/util/Preconditions" "SIOOBE_FORMATTER" "Ljava/util/function/BiFunction;" ∈ lw_tbl := tblAt_mem (p := 4028) (by decide +kernel)
set_option maxRecDepth 100000 in
theorem w_in1 : Cond.initialized "CabinetTable$Paper" ∈ lw_tbl := tblAt_mem (p := 1007) (by decide +kernel)
set_option maxRecDepth 100000 in
theorem w_in2 : Cond.initialized "java/lang/String" ∈ lw_tbl := tblAt_mem (p := 1016) (by decide +kernel)
set_option maxRecDepth 100000 in
theorem w_in3 : Cond.initialized "jdk/internal/util/Preconditions" ∈ lw_tbl := tblAt_mem (p := 1018) (by decide +kernel)
set_option maxRecDepth 100000 in
theorem n_str : ∀ i, i < 3 → Cond.exactly (strTm i) "java/lang/String" ∈ flatC (Jvm.Cond.and given_1 narrow_1) ∧ Cond.eq (.field (strTm i) "java/lang/String" "coder" "B") (.int 0) ∈ flatC (Jvm.Cond.and given_1 narrow_1) ∧ Cond.arrayOf (.field (strTm i) "java/lang/String" "value" "[B") .byte ∈ flatC (Jvm.Cond.and given_1 narrow_1) ∧ Cond.eq (.length (.field (strTm i) "java/lang/String" "value" "[B")) (.int (Int32.ofNat (([21, 36, 28] : List Nat).getD i 0))) ∈ flatC (Jvm.Cond.and given_1 narrow_1) := by decide +kernel
set_option maxRecDepth 100000 in
theorem n_el : ∀ i, i < 3 → ∀ j, j < ([21, 36, 28] : List Nat).getD i 0 → Cond.eq (.elem (.field (strTm i) "java/lang/String" "value" "[B") (.int (Int32.ofNat j))) (.int ((strs.getD i []).getD j 0)) ∈ flatC (Jvm.Cond.and given_1 narrow_1) := by decide +kernel
set_option maxRecDepth 100000 in
theorem n_ne : ∀ i, i < 3 → ∀ j, j < 3 → i ≠ j → Cond.not (Cond.eq (strTm i) (strTm j)) ∈ flatC (Jvm.Cond.and given_1 narrow_1) ∨ Cond.not (Cond.eq (strTm j) (strTm i)) ∈ flatC (Jvm.Cond.and given_1 narrow_1) := by decide +kernel
set_option maxRecDepth 100000 in
theorem n_ka : Cond.arrayOf (.static "CabinetTable$Paper" "KIND_ABOVE" "[I") .int ∈ flatC (Jvm.Cond.and given_1 narrow_1) ∧ Cond.eq (.length (.static "CabinetTable$Paper" "KIND_ABOVE" "[I")) (.int (Int32.ofNat 5)) ∈ flatC (Jvm.Cond.and given_1 narrow_1) ∧ ∀ j, j < 5 → Cond.eq (.elem (.static "CabinetTable$Paper" "KIND_ABOVE" "[I") (.int (Int32.ofNat j))) (.int (kAbove.getD j 0)) ∈ flatC (Jvm.Cond.and given_1 narrow_1) := by decide +kernel
set_option maxRecDepth 100000 in
theorem n_cs : Cond.eq (.static "java/lang/String" "COMPACT_STRINGS" "Z") (.int 1) ∈ flatC (Jvm.Cond.and given_1 narrow_1) ∧ Cond.isRef (.static "jdk/internal/util/Preconditions" "SIOOBE_FORMATTER" "Ljava/util/function/BiFunction;") ∈ flatC (Jvm.Cond.and given_1 narrow_1) := by decide +kernel
theorem entry_ok {p : Program} {s : State} {m : MethodId} {meth : Method} {c : Code} {b L : Nat} {xs : Nat → Int32} (hL : L ≤ 3072) (C0 : lw_At p s m meth c b L xs) :
    ∃ (D : va_G) (cA : Nat → ClassId) (ex : Nat → Nat), ex 9 = b ∧ Fx D cA s.heap.size ex (L, xs) p s m #[Value.ref b] meth c 325 := by
  obtain ⟨hx, hb, hr, hml, hown, hts, hX, hbl, hlocks, hgv⟩ := C0
  have hw := lw_w (w := .initialized "") hts
  have hfl := flat_of_before _ hgv
  have hA : ∀ a : Nat, a < s.heap.size → ¬ s.heap.size ≤ a := fun a h => Nat.not_le.mpr h
  have hcl : ∀ c0 : Nat, ∃ q : ClassId × (Nat → Nat), c0 < 13 → u_Kn s (oN c0) (fTs c0) (nF c0) q.1 q.2 := by
    intro c0
    by_cases h : c0 < 13
    · obtain ⟨o1, -, o3, -⟩ := ob_ok h
      obtain ⟨cC, iS, hK⟩ := u_known hw o3 (hw _ o1)
      exact ⟨(cC, iS), fun _ => hK⟩
    · exact ⟨(0, fun _ => 0), fun z => absurd z h⟩
  obtain ⟨fD, hfD⟩ := Classical.axiomOfChoice hcl
  have har : ∀ t : Nat, ∃ q : ClassId, okT t = true → ArrOfT s q (tyT t) ∧ va_RA s q (tyT t) := by
    intro t
    by_cases h : okT t = true
    · by_cases h24 : t < 24
      · have h20 : 20 ≤ t := by
          unfold okT at h
          simp at h
          omega
        have key : ∀ ty : FieldType, Cond.arrayClass ty ∈ TBg → (∀ q : ClassId, s.vm.findClass ("[" ++ ty.toString) = some q → va_RA s q ty) → ∃ q : ClassId, ArrOfT s q ty ∧ va_RA s q ty := by
          intro ty hty hra
          obtain ⟨q, k, comp, g1, g2, g3⟩ := Cond.arrayClass_spec (hw _ hty)
          exact ⟨q, fun n z => ⟨(fun k h => by cases h), k, g2, comp, g3⟩, hra q g1⟩
        have hcases : t = 20 ∨ t = 21 ∨ t = 22 ∨ t = 23 := by omega
        rcases hcases with rfl | rfl | rfl | rfl
        · obtain ⟨q, hq⟩ := key .int (w_arr (at_ := .int) rfl) (fun _ z => z)
          exact ⟨q, fun _ => hq⟩
        · obtain ⟨q, hq⟩ := key .byte (w_arr (at_ := .byte) rfl) (fun _ z => z)
          exact ⟨q, fun _ => hq⟩
        · obtain ⟨q, hq⟩ := key .boolean (w_arr (at_ := .boolean) rfl) (fun _ z => z)
          exact ⟨q, fun _ => hq⟩
        · obtain ⟨q, hq⟩ := key .char (w_arr (at_ := .char) rfl) (fun _ z => z)
          exact ⟨q, fun _ => hq⟩
      · have h33 : 33 ≤ t ∧ t < 37 := by
          unfold okT at h
          simp at h
          omega
        obtain ⟨comp, q, k, g1, -, g2, g3, g4⟩ := Cond.arrayOver_spec (hts _ (w_over (c := t - 30) (by omega) (by omega)))
        refine ⟨q, fun _ => ?_⟩
        rw [ty33 h33.1]
        exact ⟨fun n z => ⟨(fun k h => by cases h), k, g2, comp, g3⟩, k, comp, g2, g3, g1, g4⟩
    · exact ⟨0, fun z => absurd z h⟩
  obtain ⟨cA, hcA⟩ := Classical.axiomOfChoice har
  obtain ⟨adK, adV, hSt, hEv⟩ := vk_Sof (args := #[Value.ref b]) (s := s) (N := 3) (tm := strTm) (len := [21, 36, 28]) (byt := strs) (A := fun q => s.heap.size ≤ q)
    (by decide) (fun i hi => hfl _ (n_str i hi).1) (fun i hi => hfl _ (n_str i hi).2.1) (fun i hi => hfl _ (n_str i hi).2.2.1) (fun i hi => hfl _ (n_str i hi).2.2.2) (fun i hi j hj => hfl _ (n_el i hi j hj))
    (fun i j hi hj hij => (n_ne i hi j hj hij).imp (fun z => hfl _ z) (fun z => hfl _ z)) hA
  obtain ⟨tK, htK, hTK⟩ := va_Tof (args := #[Value.ref b]) (s := s) (tm := .static "CabinetTable$Paper" "KIND_ABOVE" "[I") (ty := .int) (N := 5) (f := fun j => .int (kAbove.getD j 0)) (A := fun q => s.heap.size ≤ q) (by decide) (hfl _ n_ka.1) (va_eqt (hfl _ n_ka.2.1)) (fun j hj => va_eqt (hfl _ (n_ka.2.2 j hj))) hA
  refine ⟨(fun k => (fD k).1, fun k => (fD k).2), cA, fun k => if k = 0 then tK else if k < 4 then adK (k - 1) else if k = 9 then b else adV (k - 10), rfl, hx, hb, hml, hown, hw, fun h => absurd h (by decide), ⟨⟨fun k q hq => ?_, fun k q h => by simp at h⟩, hcA, fun o i y hy => va_Nw.of rfl (hts _ hy), fun c0 h3 h7 => va_AO.of (hts _ (w_over h3 h7)), fun j hj => ?_⟩, ⟨?_, ?_, ?_, ?_, ?_, ?_, ?_, ?_, Nat.le_refl _⟩, hlocks, hr⟩
  · have hk : k < 13 := (List.getElem?_eq_some_iff.mp hq).1
    have e := (cls_at hk).symm.trans hq
    cases e
    exact hfD k hk
  · have h1 := vk_R.of (hts _ (w_strR hj)) (hEv j hj)
    show vk_R _ _ _ (if 1 + j = 0 then tK else if 1 + j < 4 then adK (1 + j - 1) else _) s
    rw [if_neg (by omega), if_pos (by omega), show 1 + j - 1 = j by omega]
    exact h1
  · exact va_Zref (hts _ w_ls1) (hts _ w_in1) htK hA
  · exact hTK
  · refine ⟨fun i hi => ?_, fun i j hi hj e => ?_⟩
    · have h1 := hSt.1 i hi
      show va_O _ (if 1 + i = 0 then tK else if 1 + i < 4 then adK (1 + i - 1) else _) _ _ _ ∧ va_OF _ _ _ _ (if 1 + i = 0 then tK else if 1 + i < 4 then adK (1 + i - 1) else _) _ _ _ ∧ va_OF _ _ _ (.ref (if 10 + i = 0 then tK else if 10 + i < 4 then adK (10 + i - 1) else if 10 + i = 9 then b else adV (10 + i - 10))) (if 1 + i = 0 then tK else if 1 + i < 4 then adK (1 + i - 1) else _) _ _ _ ∧ va_T _ (if 10 + i = 0 then tK else if 10 + i < 4 then adK (10 + i - 1) else if 10 + i = 9 then b else adV (10 + i - 10)) _ _ _ _ _
      rw [if_neg (by omega), if_pos (by omega), show 1 + i - 1 = i by omega, if_neg (by omega), if_neg (by omega), if_neg (by omega), show 10 + i - 10 = i by omega]
      exact h1
    · refine hSt.2 i j hi hj ?_
      dsimp only at e
      rw [if_neg (by omega), if_pos (by omega), show 1 + i - 1 = i by omega, if_neg (by omega), if_pos (by omega), show 1 + j - 1 = j by omega] at e
      exact e
  · exact va_Zof (hts _ w_ls2) (hts _ w_in2) (va_eqi (hfl _ n_cs.1)) hA
  · exact va_Zqof (hts _ w_ls3) (hts _ w_in3) (hfl _ n_cs.2) hA
  · exact hX
  · exact hbl
  · show L < 2 ^ 31
    omega
/-- the law's walk, out of a run of the pure interpreter -/
theorem start_of_run {p : Program} {e : Env} {s : State} {m : MethodId} {below : List Frame} {meth : Method} {c : Code} (l : Launch) {b L : Nat} {xs : Nat → Int32} (hL : L ≤ 3072) (C0 : lw_At p s m meth c b L xs)
    (hSt : ∀ (D : va_G) (cA : Nat → ClassId) (sz : Nat) (ex : Nat → Nat) (X : Xt), StrOK l D cA sz ex X)
    {n : Nat} {h' : Hp} (hrun : run (L, xs) n 100 325 0 [.ref 1000009, unset0, unset0, unset0] [] ((0, fun _ => noSe), fun _ _ => 0) = some (some (.int 1), h')) (hc : h'.1.1 ≤ 600000) (hs : slt h'.1 ≤ 7302250) :
    W p l e room_1 s m #[Value.ref b] below meth c s.heap [] 0 0 (lw_Z below #[Value.ref b] s) (entryFrame m ([Value.ref b] : List Value).toArray 4) := by
  obtain ⟨D, cA, ex, hex, F⟩ := entry_ok hL C0
  have K := run_ok (hSt D cA s.heap.size ex (L, xs)) n 100 325 0 [.ref 1000009, unset0, unset0, unset0] [] ((0, fun _ => noSe), fun _ _ => 0) _ h' hrun p e room_1 s m #[Value.ref b] below meth c (lw_Z below #[Value.ref b] s) 0 0 F (Nat.le_of_ble_eq_true rfl) (Nat.le_of_ble_eq_true rfl) hc hs (Nat.le_refl _) (Nat.zero_le _) (by
    intro H locs ls pc hR hS
    refine ⟨fun v ty e1 e2 e3 e4 hd => ?_, fun e1 => by cases e1⟩
    cases e1
    refine va_forget (fun q hq => hS.2.2 q hq) ?_
    refine W.widen (k := 600000) (n := 7302250) hc hs ?_
    exact lw_ret F.1 F.2.1 C0.2.2.1 C0.2.2.2.2.2.2.2.2.1 hd)
  have hLc := Lc.entry (sz := s.heap.size) (ex := ex) (as := [.ref 1000009]) (n := 4) (by decide) (by decide)
  rw [lg_entry_eq]
  have e9 : ([Value.ref 1000009] : List Value).map (cv s.heap.size ex) = [Value.ref b] := by
    show [Value.ref (adr s.heap.size ex 1000009)] = _
    rw [show adr s.heap.size ex 1000009 = ex 9 from rfl, hex]
  rw [e9] at hLc
  exact K s.heap [] _ ⟨rfl, Nat.zero_le _, fun k hk => absurd hk (Nat.not_lt_zero k), fun _ _ _ => rfl⟩ va_S.rf hLc
