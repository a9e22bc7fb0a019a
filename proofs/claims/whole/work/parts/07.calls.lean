/-! making objects, copying, calling -/
def Wm (j : Nat) : List Cond := Cond.code (mY j) (bt j) (mMax j) (mRet j) :: TBg
def rmd (d mc ms : Nat) : Room := { frames := d, cells := mc, slots := ms, locals := 64 * d }
def slN : Nat → (Nat → Se1) → Nat
  | 0, _ => 0
  | n + 1, f => slN n f + (f n).2.1
def slt (h : Sh) : Nat := slN h.1 h.2
theorem slN_cong {f g : Nat → Se1} : ∀ {n : Nat}, (∀ k, k < n → (f k).2.1 = (g k).2.1) → slN n f = slN n g
  | 0, _ => rfl
  | n + 1, h => by rw [slN, slN, slN_cong (fun k hk => h k (by omega)), h n (by omega)]
theorem slt_shN (h : Sh) (t n : Nat) : slt (shN h t n) = slt h + n := by
  show slN (h.1 + 1) (shN h t n).2 = _
  rw [slN]
  have e : (shN h t n).2 h.1 = (t, n, fun _ => none) := if_pos rfl
  rw [e, slN_cong (g := h.2) (fun k hk => by rw [show (shN h t n).2 k = h.2 k from if_neg (by omega)])]
  rfl
theorem slt_shR (h : Sh) (k i r : Nat) : slt (shR h k i r) = slt h := by
  show slN h.1 (shR h k i r).2 = slN h.1 h.2
  refine slN_cong (fun j _ => ?_)
  by_cases hj : j = k
  · subst hj
    rw [show (shR h j i r).2 j = ((h.2 j).1, (h.2 j).2.1, fun b => if b = i then some r else (h.2 j).2.2 b) from if_pos rfl]
  · rw [show (shR h k i r).2 j = h.2 j from if_neg hj]
def Pk (D : va_G) (cA : Nat → ClassId) (sz : Nat) (ex : Nat → Nat) (X : Xt) (as : List Value) (h : Hp) : Array Value → State → Prop := va_Pc (as.map (cv sz ex)) (fun U => GX D cA ex U ∧ EXH sz ex X U U.heap ∧ Rp D cA sz ex h U.heap)
def Qk (D : va_G) (cA : Nat → ClassId) (sz : Nat) (ex : Nat → Nat) (r : Option Value) (h' : Hp) : Array Value → State → Outcome → State → Prop := fun _ st o t => o = .returned (r.map (cv sz ex)) ∧ Rp D cA sz ex h' t.heap ∧ va_F (fun q => sz ≤ q) st t
/-- a method's contract: from this heap it comes to that one -/
def CT (l : Launch) (D : va_G) (cA : Nat → ClassId) (sz : Nat) (ex : Nat → Nat) (X : Xt) (d j : Nat) (as : List Value) (h : Hp) (r : Option Value) (h' : Hp) : Prop :=
  Met l (mY j) (Wm j) (rmd d (h'.1.1 - h.1.1) (slt h'.1 - slt h.1)) (Pk D cA sz ex X as h) (Qk D cA sz ex r h') (h'.1.1 - h.1.1) (slt h'.1 - slt h.1) (fun q => sz ≤ q)
theorem Pk.blind (D : va_G) (cA : Nat → ClassId) (sz : Nat) (ex : Nat → Nat) (X : Xt) (as : List Value) (h : Hp) : FrameBlind (Pk D cA sz ex X as h) := by
  intro a U g mk q
  obtain ⟨q0, q1, q2, q3⟩ := q
  exact ⟨q0, q1.same rfl, q2.moved (u := U) (U := U.calling g mk a) (Vm.Alike.refl U.vm), q3⟩
theorem good_TB {w : Cond} (h : w ∈ TBg) : w ∈ TBg ∧ ((w.onTables && w.keeps) = true ∨ ∃ ty, w = .arrayClass ty) := ⟨h, good_of_word (List.mem_filter.mp h).2⟩
set_option maxRecDepth 100000 in
theorem def_all : (List.range 13).all (fun c => (List.range (nF c)).all (fun j => decide (defaultValue (fty c j) = if isRf (fty c j) = true then Value.null else .int 0))) = true := by decide +kernel
theorem def_ok {c j : Nat} (hc : c < 13) (hj : j < nF c) : defaultValue (fty c j) = if isRf (fty c j) = true then Value.null else .int 0 := of_decide_eq_true (List.all_eq_true.mp (List.all_eq_true.mp def_all c (List.mem_range.mpr hc)) j (List.mem_range.mpr hj))
set_option maxRecDepth 100000 in
theorem w_acS : Cond.static arraycopyName ∈ TBg := tbg (tblAt_mem (p := 3088) (by decide +kernel)) rfl
set_option maxRecDepth 100000 in
theorem w_acN : Cond.native arraycopyName ∈ TBg := tbg (tblAt_mem (p := 3089) (by decide +kernel)) rfl
set_option maxRecDepth 100000 in
theorem w_acI : Cond.initialized "java/lang/System" ∈ TBg := tbg (tblAt_mem (p := 1014) (by decide +kernel)) rfl
section RowsB
variable {p : Program} {l : Launch} {e : Env} {R : Room} {s : State} {m : MethodId} {args : Array Value} {below : List Frame} {meth : Method} {c : Code} {H : Heap} {locs : List Loc} {cells slots : Nat} {Q : State → Prop}
variable {D : va_G} {cA : Nat → ClassId} {sz : Nat} {ex : Nat → Nat} {X : Xt} {mi pc : Nat} {ls : Array Slot} {rest : List Value} {h h' : Hp}
theorem vaS_new (hS : va_S (fun q => sz ≤ q) s.heap H locs) {H' : Heap} (z1 : H'.size = H.size + 1) (o1 : ∀ q, q < H.size → H'[q]? = H[q]?) : va_S (fun q => sz ≤ q) s.heap H' locs := ⟨Nat.le_trans hS.1 (by omega), fun x h1 h2 => (o1 x (Nat.lt_of_lt_of_le h1 hS.1)).trans (hS.2.1 x h1 h2), hS.2.2⟩
theorem wnew (F : Fx D cA sz ex X p s m args meth c mi) (hR : Rp D cA sz ex h H) (hS : va_S (fun q => sz ≤ q) s.heap H locs) {idx ci : Nat} (hcl : cll (mCo mi) idx = some ci) (hci : ci < 13) (hlt : h.1.1 < 100000) (hcells : cells + 1 ≤ R.cells) (hslots : slots + nF ci ≤ R.slots) (hd : decode (bt mi) pc = .ok (.new idx, 3))
    (kk : ∀ H' : Heap, Rp D cA sz ex (shN h.1 ci (nF ci), h.2) H' → va_S (fun q => sz ≤ q) s.heap H' locs → W p l e R s m args below meth c H' locs (cells + 1) (slots + nF ci) Q (F0 m (pc + 3) ls (.ref (adr sz ex h.1.1) :: rest))) : W p l e R s m args below meth c H locs cells slots Q (F0 m pc ls rest) := by
  obtain ⟨hx, hb, -, hown, hts, -, hG, -⟩ := F
  obtain ⟨o1, o2, o3, o4, o5, o6⟩ := ob_ok hci
  have hKn := hG.1.1 ci _ (cls_at hci)
  refine W.newcK hx hb hown (hts _ (cll_ok hcl)) (hts _ o1) (hts _ o2) rfl hd hcells hslots hKn.2.1 rfl fun H1 kC hkC e1 z1 q1 => ?_
  have e0 : H.size = adr sz ex h.1.1 := by rw [hR.1, adr_own (by omega)]
  rw [e0]
  refine kk H1 (hR.new hlt ?_ z1 q1) (vaS_new hS z1 q1)
  unfold ceE
  rw [if_pos (by show ci < 20; omega)]
  rw [hR.1] at e1
  refine ⟨_, cls_at hci, (u_born (fty ci) hts o3 hKn hkC e1 o4).to fun j hj => ?_⟩
  rw [def_ok hci hj]
  simp only [vp_V, List.getD_eq_getElem?_getD, List.getElem?_map, List.getElem?_range hj, Option.map_some, Option.getD_some, fV]
  by_cases hq : isRf (fty ci j) = true
  · rw [if_pos hq, if_pos hq]; rfl
  · rw [if_neg hq, if_neg hq]
theorem wnewa (F : Fx D cA sz ex X p s m args meth c mi) (hR : Rp D cA sz ex h H) (hS : va_S (fun q => sz ≤ q) s.heap H locs) {at_ : ArrayType} {t : Nat} (hta : atag at_ = some t) {n : Int32} (hn : ¬ n < 0) (hN : n.toNatClampNeg ≤ 10000) (hlt : h.1.1 < 100000) (hcells : cells + 1 ≤ R.cells) (hslots : slots + n.toNatClampNeg ≤ R.slots) (hd : decode (bt mi) pc = .ok (.newarray at_, 2)) (hw : Cond.arrayClass (newarray.typeOf at_) ∈ TBg)
    (kk : ∀ H' : Heap, Rp D cA sz ex (shN h.1 t n.toNatClampNeg, h.2) H' → va_S (fun q => sz ≤ q) s.heap H' locs → W p l e R s m args below meth c H' locs (cells + 1) (slots + n.toNatClampNeg) Q (F0 m (pc + 2) ls (.ref (adr sz ex h.1.1) :: rest))) : W p l e R s m args below meth c H locs cells slots Q (F0 m pc ls (.int n :: rest)) := by
  obtain ⟨hx, hb, -, hown, hts, -, hG, -⟩ := F
  have hk : (20 ≤ t ∧ t < 24) ∧ newarray.typeOf at_ = tyT t ∧ defaultValue (tyT t) = .int 0 ∧ componentBytes (newarray.typeOf at_) ≤ 8 ∧ ∀ cc : ClassId, va_RA s cc (tyT t) → s.vm.findClass ("[" ++ (tyT t).toString) = some cc := by
    cases at_ <;> first | cases hta; exact ⟨by decide, rfl, rfl, by decide, fun _ z => z⟩ | cases hta
  obtain ⟨⟨t1, t2⟩, hty, hdv, hcb, hfc⟩ := hk
  refine va_newaK hx hb (hts _ hw) rfl hd rfl hn rfl (by have := Nat.mul_le_mul hN hcb; omega) hcells hslots rfl fun H1 cA' e1 z1 q1 hAr hNm => ?_
  have hcA : cA' = cA t := by
    have := hfc _ (hG.2.1 t (tag20 t1 t2)).2
    rw [hty] at hNm
    exact Option.some.inj (hNm.symm.trans this)
  subst hcA
  have e0 : H.size = adr sz ex h.1.1 := by rw [hR.1, adr_own (by omega)]
  rw [e0]
  refine kk H1 (hR.new hlt ?_ z1 q1) (vaS_new hS z1 q1)
  unfold ceE
  rw [if_neg (by show ¬ t < 20; omega), if_pos (by show t < 30; omega)]
  show H1[sz + h.1.1]? = some (vp_cell _ _)
  rw [← hR.1, e1, vp_cell_i, hty, hdv]
theorem wnewq (F : Fx D cA sz ex X p s m args meth c mi) (hR : Rp D cA sz ex h H) (hS : va_S (fun q => sz ≤ q) s.heap H locs) {idx ci : Nat} (hcl : cll (mCo mi) idx = some ci) (h3 : 3 ≤ ci) (h7 : ci < 7) {n : Int32} (hn : ¬ n < 0) (hN : n.toNatClampNeg ≤ 10000) (hlt : h.1.1 < 100000) (hcells : cells + 1 ≤ R.cells) (hslots : slots + n.toNatClampNeg ≤ R.slots) (hd : decode (bt mi) pc = .ok (.anewarray idx, 3))
    (kk : ∀ H' : Heap, Rp D cA sz ex (shN h.1 (30 + ci) n.toNatClampNeg, h.2) H' → va_S (fun q => sz ≤ q) s.heap H' locs → W p l e R s m args below meth c H' locs (cells + 1) (slots + n.toNatClampNeg) Q (F0 m (pc + 3) ls (.ref (adr sz ex h.1.1) :: rest))) : W p l e R s m args below meth c H locs cells slots Q (F0 m pc ls (.int n :: rest)) := by
  obtain ⟨hx, hb, -, hown, hts, -, hG, -⟩ := F
  refine W.anew hx hb hown (hts _ (cll_ok hcl)) (va_AO.use (hG.2.2.2.1 ci h3 h7)) rfl hd rfl hn (by omega) hcells hslots fun cA' kA comp f1 f2 f3 f4 => ?_
  have hcA : cA' = cA (30 + ci) := by
    have h1 := (hG.2.1 (30 + ci) (tag33 (by omega) (by omega))).2
    rw [ty33 (by omega), show 30 + ci - 30 = ci by omega] at h1
    obtain ⟨_, _, -, -, -, h5⟩ := h1
    exact Option.some.inj (f1.symm.trans h5)
  subst hcA
  generalize hH1 : H.push ({ cls := cA (30 + ci), slots := Array.replicate n.toNatClampNeg .null, vm := .none } : Cell) = H1
  have z1 : H1.size = H.size + 1 := by rw [← hH1, Array.size_push]
  have e1 : H1[H.size]? = some (arrV (cA (30 + ci)) n.toNatClampNeg (fun _ => .null)) := by rw [← hH1, Array.getElem?_push_size, ← arrV_new]
  have q1 : ∀ q : Nat, q < H.size → H1[q]? = H[q]? := fun q hq => by rw [← hH1, Array.getElem?_push, if_neg (Nat.ne_of_lt hq)]
  have e0 : H.size = adr sz ex h.1.1 := by rw [hR.1, adr_own (by omega)]
  rw [e0]
  refine kk H1 (hR.new hlt ?_ z1 q1) (vaS_new hS z1 q1)
  unfold ceE
  rw [if_neg (by show ¬ 30 + ci < 20; omega), if_neg (by show ¬ 30 + ci < 30; omega)]
  show H1[sz + h.1.1]? = some (vp_cell _ _)
  rw [← hR.1, e1, vp_cell_q]
  rfl
theorem wcopy (F : Fx D cA sz ex X p s m args meth c mi) (hR : Rp D cA sz ex h H) (hS : va_S (fun q => sz ≤ q) s.heap H locs) {idx : Nat} (hlink : Cond.methodLink (oN (mCo mi)) idx arraycopyName ∈ TBg) {a b : Nat} {sp dp n : Int32} (ta : (hC h.1 a).1 = 20) (tb : (hC h.1 b).1 = 20)
    (h1 : ¬ sp < 0) (h2 : ¬ dp < 0) (h3 : ¬ n < 0) (h4 : sp.toNatClampNeg + n.toNatClampNeg ≤ (hC h.1 a).2.1) (h5 : dp.toNatClampNeg + n.toNatClampNeg ≤ (hC h.1 b).2.1) (hls : ls.size = mMax mi)
    (hframes : 1 ≤ R.frames) (hlocals : (rest.map fun v => v.category).sum + 18 ≤ R.locals) (hd : decode (bt mi) pc = .ok (.invokestatic idx, 3))
    (kk : ∀ (H' : Heap) (locs' : List Loc), Rp D cA sz ex (h.1, cp2 h.2 a sp.toNatClampNeg b dp.toNatClampNeg n.toNatClampNeg) H' → va_S (fun q => sz ≤ q) s.heap H' locs' → W p l e R s m args below meth c H' locs' cells slots Q (F0 m (pc + 3) ls rest)) : W p l e R s m args below meth c H locs cells slots Q (F0 m pc ls (.int n :: .int dp :: .ref (adr sz ex b) :: .int sp :: .ref (adr sz ex a) :: rest)) := by
  obtain ⟨hx, hb, hml, hown, hts, -, hG, -⟩ := F
  have nn : ∀ z : Int32, ¬ z < 0 → z.toInt = (z.toNatClampNeg : Int) := by
    intro z hz
    have hz0 : (0 : Int) ≤ z.toInt := by
      have := Int32.not_lt.mp hz
      simpa using Int32.le_iff_toInt_le.mp this
    show z.toInt = ((z.toInt.toNat : Nat) : Int)
    omega
  obtain ⟨haL, ea, hca⟩ := hR.arr ta (by omega) (by omega)
  obtain ⟨hbL, eb, hcb⟩ := hR.arr tb (by omega) (by omega)
  rw [adr_in hR haL, adr_in hR hbL]
  have hAr := (hG.2.1 20 rfl).1
  intro T hT X'0
  obtain ⟨-, k0, hk0, cm0, hkk0⟩ := hAr (hC h.1 a).2.1 (fun j => .int (h.2 a j))
  obtain ⟨-, k1, hk1, cm1, hkk1⟩ := hAr (hC h.1 b).2.1 (fun j => .int (h.2 b j))
  obtain ⟨vm', X', step⟩ := X'0.arraycopy hx hown (hts _ hlink) (hts _ w_acN) (hts _ w_acS) (hts _ w_acI) (src := sz + a) (dst := sz + b) (cs := arrV (cA 20) (hC h.1 a).2.1 (fun j => .int (h.2 a j))) (cd := arrV (cA 20) (hC h.1 b).2.1 (fun j => .int (h.2 b j))) (srcPos := sp) (destPos := dp) (n := n) (by rw [hT]; exact hca) (by rw [hT]; exact hcb)
    (fun _ h => by cases h) (fun _ h => by cases h) (fun h => by cases h) (fun h => by cases h) hk0 hk1 hkk0 hkk1 (by simp [tyT, refKind]) h1 h2 h3
    (by rw [nn sp h1, nn n h3, arrV_size]; omega)
    (by rw [nn dp h2, nn n h3, arrV_size]; omega)
    (fun vm₁ _ i hi => by
      have e : (arrV (cA 20) (hC h.1 a).2.1 (fun j => Value.int (h.2 a j))).slots.getD (sp.toNatClampNeg + i) .null = .int (h.2 a (sp.toNatClampNeg + i)) := by
        rw [Array.getD_eq_getD_getElem?, arrV_read _ _ (by omega)]
        rfl
      refine ⟨?_, ?_⟩
      · rw [e]; rfl
      · rw [e]; exact trivial)
    (g := F0 m pc ls (.int n :: .int dp :: .ref (sz + b) :: .int sp :: .ref (sz + a) :: rest)) rfl (by rw [hml]; exact hls) (rest := rest) rfl (by rw [hb]; exact hd) hframes (by show 2 * 0 + _ + 18 ≤ _; omega)
  have e1 : copied (arrV (cA 20) (hC h.1 a).2.1 (fun j => .int (h.2 a j))) (arrV (cA 20) (hC h.1 b).2.1 (fun j => .int (h.2 b j))) sp dp n = arrV (cA 20) (hC h.1 b).2.1 (fun j => .int (va_cpy (h.2 a) (h.2 b) sp.toNatClampNeg dp.toNatClampNeg n.toNatClampNeg j)) := va_copied (fun z => .int z) (cA 20) (cA 20) (h.2 a) (h.2 b) h4
  rw [e1] at X' step
  have hl : sz + b < H.size := (Array.getElem?_eq_some_iff.mp hcb).1
  generalize hnc : arrV (cA 20) (hC h.1 b).2.1 (fun j => Value.int (va_cpy (h.2 a) (h.2 b) sp.toNatClampNeg dp.toNatClampNeg n.toNatClampNeg j)) = nc at X' step
  have hheap : ((T.setVm vm').setCell (sz + b) nc).heap = H.setIfInBounds (sz + b) nc := by rw [← hT]; rfl
  have oq : ∀ q : Nat, q ≠ sz + b → (H.setIfInBounds (sz + b) nc)[q]? = H[q]? := fun q hq => by simp [Array.getElem?_setIfInBounds, Ne.symm hq]
  have hsz : (H.setIfInBounds (sz + b) nc).size = H.size := by simp
  obtain ⟨t, a1, b1⟩ := kk _ _ (hR.upd (h' := (h.1, cp2 h.2 a sp.toNatClampNeg b dp.toNatClampNeg n.toNatClampNeg)) hbL rfl (fun j _ hj => ⟨rfl, if_neg hj⟩) (fun j hj => if_neg (by omega)) (by
      show va_at D classes (sz + b, ceE sz ex cA (h.1.2 b) (cp2 h.2 a sp.toNatClampNeg b dp.toNatClampNeg n.toNatClampNeg b)) _
      rw [← eb]
      unfold ceE
      rw [tb, if_neg (by decide), if_pos (by decide)]
      show (H.setIfInBounds (sz + b) nc)[sz + b]? = some (vp_cell _ _)
      rw [Array.getElem?_setIfInBounds, if_pos rfl, if_pos hl, ← hnc, vp_cell_i]
      rw [show cp2 h.2 a sp.toNatClampNeg b dp.toNatClampNeg n.toNatClampNeg b = va_cpy (h.2 a) (h.2 b) sp.toNatClampNeg dp.toNatClampNeg n.toNatClampNeg from if_pos rfl]) hsz oq)
    ⟨by rw [hsz]; exact hS.1, fun q g1 g2 => by
      rw [oq q (fun e => g2 (by rw [e]; exact Nat.le_add_right _ _))]
      exact hS.2.1 q g1 g2, fun q hq => by
      rcases List.mem_append.mp hq with h | h
      · exact hS.2.2 q h
      · obtain ⟨z, -, hz⟩ := List.mem_map.mp h
        rw [← hz]
        exact Nat.le_add_right _ _⟩ _ hheap X'
  exact ⟨t, step t a1, b1⟩
theorem aft {rv : Option Value} {mc ms : Nat} {st0 : List Value} (hr : va_Run p l e R s m args below meth c H locs cells slots mc ms (F0 m pc ls st0) rest (fun st o t => o = .returned rv ∧ Rp D cA sz ex h' t.heap ∧ va_F (fun q => sz ≤ q) st t) (fun q => sz ≤ q)) (hS : va_S (fun q => sz ≤ q) s.heap H locs)
    (kk : ∀ (H1 : Heap) (locs1 : List Loc), Rp D cA sz ex h' H1 → va_S (fun q => sz ≤ q) s.heap H1 locs1 → W p l e R s m args below meth c H1 locs1 (cells + mc) (slots + ms) Q (F0 m (pc + 3) ls (rv.toList ++ rest))) : W p l e R s m args below meth c H locs cells slots Q (F0 m pc ls st0) := by
  intro T hT X0
  obtain ⟨v, st₀, t, T', L, h0, X', hL, e1, e2, ⟨hv, hp, hz, hk⟩, st⟩ := hr T hT X0
  cases hv
  rw [h0] at hz hk
  obtain ⟨t2, a1, b1⟩ := kk T'.heap (locs ++ L) (by rw [e1]; exact hp)
    ⟨Nat.le_trans hS.1 (by rw [e1]; exact hz), fun q h1 h2 => by rw [e1, hk q (Nat.lt_of_lt_of_le h1 hS.1) h2]; exact hS.2.1 q h1 h2, fun q hq => by
      rcases List.mem_append.mp hq with h | h
      · exact hS.2.2 q h
      · exact hL q h⟩ T' rfl X'
  exact ⟨t2, st t2 a1, b1⟩
theorem pre_call (F : Fx D cA sz ex X p s m args meth c mi) (hR : Rp D cA sz ex h H) (hS : va_S (fun q => sz ≤ q) s.heap H locs) (as : List Value) : ∀ U : State, U.heap = H → s.WarmedH U.vm → Pk D cA sz ex X as h (as.map (cv sz ex)).toArray U := by
  intro U hU hW
  refine ⟨rfl, (F.2.2.2.2.2.2.1).warm hW, ?_, by rw [hU]; exact hR⟩
  rw [hU]
  exact (F.2.2.2.2.2.2.2.1.moved hW.alike).kept hS.1 hS.2.1
/-- the instruction that makes a call of a kind -/
def cin (kd idx : Nat) : Instr := if kd = 0 then .invokestatic idx else if kd = 1 then .invokevirtual idx else .invokespecial idx
theorem wcall (F : Fx D cA sz ex X p s m args meth c mi) (hR : Rp D cA sz ex h H) (hS : va_S (fun q => sz ≤ q) s.heap H locs) {j idx na ne d : Nat} (hml : ml (mCo mi) idx = some (j, na, ne)) (hj : j < 1000) {as : List Value} (has : as.length = na) (hrc : rcv h j as = true) {r : Option Value} (ct : CT l D cA sz ex X d j as h r h')
    (hf : d + 1 ≤ R.frames) (hlo : 64 * (d + 1) ≤ R.locals) (hcells : cells + (h'.1.1 - h.1.1) ≤ R.cells) (hslots : slots + (slt h'.1 - slt h.1) ≤ R.slots) (hrest : (rest.map fun v => v.category).sum ≤ 8) (hls : ls.size = mMax mi) (hd : decode (bt mi) pc = .ok (cin (mKind j) idx, 3))
    (kk : ∀ (H1 : Heap) (locs1 : List Loc), Rp D cA sz ex h' H1 → va_S (fun q => sz ≤ q) s.heap H1 locs1 → W p l e R s m args below meth c H1 locs1 (cells + (h'.1.1 - h.1.1)) (slots + (slt h'.1 - slt h.1)) Q (F0 m (pc + 3) ls ((r.map (cv sz ex)).toList ++ rest))) : W p l e R s m args below meth c H locs cells slots Q (F0 m pc ls ((as.map (cv sz ex)).reverse ++ rest)) := by
  obtain ⟨-, l2, l3, l4, l5⟩ := ml_ok hml
  have hj3 := l2 hj
  obtain ⟨w1, w2, w3, w4, w5, w6, w7, w8, w9, w10⟩ := mi_ok hj3
  have eN : na = mNa j := by rw [l3]; exact if_pos hj
  have eY : yJ j = mY j := if_pos hj
  rw [eY] at l4 l5
  have hpre := pre_call F hR hS as
  obtain ⟨hx, hb, hmx, hown, hts, -, hG, hE, -⟩ := F
  have hws : ∀ w ∈ Wm j, ∀ (a' : Array Value) (U : State), s.WarmedH U.vm → w.before a' U = true := by
    intro w hw a' U hW
    have hw' : w ∈ TBg := by
      rcases List.mem_cons.mp hw with e | e
      · rw [e]; exact w1
      · exact e
    exact word_at hW (good_TB hw').2 (hts w hw')
  have hfix : CallFix p m c (bt mi) (mMax mi) s args TBg (oN (mCo mi)) := ⟨hx, hb, hmx, hown, hts⟩
  have hgo : ∀ sig, ∀ k : Nat, (parseMethodDescriptor (mY j).desc).map (fun d => d.parameters.length) = some k → parseMethodDescriptor (mY j).desc = some sig → k = sig.parameters.length := by
    intro sig k h1 h2
    rw [h2] at h1
    exact (Option.some.inj h1).symm
  have hlo' : 8 + (mMax j + 11) + (rmd d (h'.1.1 - h.1.1) (slt h'.1 - slt h.1)).locals ≤ R.locals := by
    show 8 + (mMax j + 11) + 64 * d ≤ R.locals
    omega
  have cB : ∀ k : Nat, (parseMethodDescriptor (mY j).desc).map (fun d => d.parameters.length) = some k → ne = 0 → CallB R s args (oN (mCo mi)) idx (mY j) (bt j) (mMax j) (mRet j) (Wm j) (rmd d (h'.1.1 - h.1.1) (slt h'.1 - slt h.1)) (h'.1.1 - h.1.1) (slt h'.1 - slt h.1) k :=
    fun k hk hne => ⟨rfl, rfl, hf, hlo', hws, List.mem_cons_self, hts _ w1, hts _ w2, w6, fun sig hsig => hgo sig k hk hsig, hts _ (l4 hne)⟩
  have cN : ∀ k : Nat, (parseMethodDescriptor (mY j).desc).map (fun d => d.parameters.length) = some k → ne ≠ 0 → va_CN R s args (oN (mCo mi)) idx (mY j) "CabinetTable" (bt j) (mMax j) (mRet j) (Wm j) (rmd d (h'.1.1 - h.1.1) (slt h'.1 - slt h.1)) (h'.1.1 - h.1.1) (slt h'.1 - slt h.1) k :=
    fun k hk hne => ⟨⟨rfl, rfl, hf, hlo', hws, List.mem_cons_self⟩, hts _ w1, hts _ w2, w6, fun sig hsig => hgo sig k hk hsig, va_Nw.use rfl (hG.2.2.1 _ _ _ (l5 hne).2)⟩
  have hroom : 2 * (F0 m pc ls ((as.map (cv sz ex)).reverse ++ rest)).monitorRoom + (rest.map fun v => v.category).sum ≤ 8 := lv_room hrest
  have hM : Met l (mY j) (Wm j) (rmd d (h'.1.1 - h.1.1) (slt h'.1 - slt h.1)) (Pk D cA sz ex X as h) (Qk D cA sz ex r h') (h'.1.1 - h.1.1) (slt h'.1 - slt h.1) (fun q => sz ≤ q) := ct
  by_cases k0 : mKind j = 0
  · obtain ⟨v1, v2⟩ := w7 k0
    have hd' : decode (bt mi) pc = .ok (.invokestatic idx, 3) := by rw [hd, k0]; rfl
    by_cases hne : ne = 0
    · exact aft (va_runS hfix hM ⟨cB _ v2 hne, hts _ v1⟩ ⟨Pk.blind D cA sz ex X as h, hpre⟩ rfl (by rw [List.length_map, has, eN]) hls rfl hroom hd' ⟨hcells, hslots⟩) hS kk
    · exact aft (va_runSN hfix hM ⟨cN _ v2 hne, hts _ v1, trivial⟩ ⟨Pk.blind D cA sz ex X as h, hpre⟩ rfl (by rw [List.length_map, has, eN]) hls rfl hroom hd' ⟨hcells, hslots⟩) hS kk
  · obtain ⟨v1, v2, v3⟩ := w8 k0
    unfold rcv at hrc
    cases as with
    | nil => simp at has; omega
    | cons x As =>
      have hlen : (As.map (cv sz ex)).length = mNa j - 1 := by
        rw [List.length_map]; simp at has; omega
      by_cases k1 : mKind j = 1
      · obtain ⟨u1, u2⟩ := w9 k1
        rw [k1] at hrc
        have hd' : decode (bt mi) pc = .ok (.invokevirtual idx, 3) := by rw [hd, k1]; rfl
        cases x with
        | ref b =>
          have hrc' : (hC h.1 b).1 = mCo j := by simpa using hrc
          obtain ⟨hbl, -, hob⟩ := hR.obj hrc' u2
          have hcell : ∃ cellB : Cell, H[adr sz ex b]? = some cellB ∧ cellB.vm.isStatics = false ∧ s.vm.findClass (mY j).cls = some cellB.cls := by
            obtain ⟨r', hr', cellV, g1, g2, g3, -⟩ := hob
            refine ⟨cellV, by rw [adr_in hR hbl]; exact g1, by rw [g3]; rfl, ?_⟩
            rw [g2, w3]
            exact (hG.1.1 _ _ (cls_at u2)).2.1
          have hst : (F0 m pc ls (((Value.ref b :: As).map (cv sz ex)).reverse ++ rest)).stack = (As.map (cv sz ex)).reverse ++ Value.ref (adr sz ex b) :: rest := by
            show ((Value.ref b :: As).map (cv sz ex)).reverse ++ rest = _
            simp [cv]
          by_cases hne : ne = 0
          · exact aft (va_runV hfix hM ⟨cB _ v2 hne, hts _ v1, hts _ u1⟩ ⟨Pk.blind D cA sz ex X _ h, hcell, hpre⟩ rfl hlen hls hst hroom hd' ⟨hcells, hslots⟩) hS kk
          · exact aft (va_runVN hfix hM ⟨cN _ v2 hne, hts _ v1, hts _ u1⟩ ⟨Pk.blind D cA sz ex X _ h, hcell, hpre⟩ rfl hlen hls hst hroom hd' ⟨hcells, hslots⟩) hS kk
        | _ => simp at hrc
      · have k2 : mKind j = 2 := by
          cases hq : mKind j with
          | zero => exact absurd hq k0
          | succ n =>
            cases n with
            | zero => exact absurd hq k1
            | succ n =>
              cases n with
              | zero => rfl
              | succ n => rw [hq] at hrc; simp at hrc
        obtain ⟨u1, u2⟩ := w10 k2
        rw [k2] at hrc
        have hd' : decode (bt mi) pc = .ok (.invokespecial idx, 3) := by rw [hd, k2]; rfl
        cases x with
        | ref b =>
          have hst : (F0 m pc ls (((Value.ref b :: As).map (cv sz ex)).reverse ++ rest)).stack = (As.map (cv sz ex)).reverse ++ Value.ref (adr sz ex b) :: rest := by
            show ((Value.ref b :: As).map (cv sz ex)).reverse ++ rest = _
            simp [cv]
          rw [u2] at cB cN
          by_cases hne : ne = 0
          · exact aft (va_runI hfix hM ⟨cB _ v2 hne, u1, hts _ v1⟩ ⟨Pk.blind D cA sz ex X _ h, hpre⟩ rfl hlen hls hst hroom hd' ⟨hcells, hslots⟩) hS kk
          · exact aft (va_runIN hfix hM ⟨cN _ v2 hne, u1, hts _ v1⟩ ⟨Pk.blind D cA sz ex X _ h, hpre⟩ rfl hlen hls hst hroom hd' ⟨hcells, hslots⟩) hS kk
        | _ => simp at hrc
end RowsB
