/-! how the pure heap lies in the machine's -/
def adr (sz : Nat) (ex : Nat → Nat) (k : Nat) : Nat := if k < 1000000 then sz + k else ex (k - 1000000)
def cv (sz : Nat) (ex : Nat → Nat) (v : Value) : Value := match v with
  | .ref k => .ref (adr sz ex k)
  | w => w
theorem cv_cat (sz : Nat) (ex : Nat → Nat) (v : Value) : (cv sz ex v).category = v.category := by cases v <;> rfl
theorem cv_rvl (sz : Nat) (ex : Nat → Nat) (r : Option Nat) : cv sz ex (rvl r) = va_rf (r.map (adr sz ex)) := by cases r <;> rfl
theorem adr_own {sz : Nat} {ex : Nat → Nat} {k : Nat} (h : k < 1000000) : adr sz ex k = sz + k := if_pos h
def fV (sz : Nat) (ex : Nat → Nat) (t : Nat) (rs : Nat → Option Nat) (row : Nat → Int32) (i : Nat) : Value := if isRf (fty t i) = true then cv sz ex (rvl (rs i)) else .int (row i)
def ceE (sz : Nat) (ex : Nat → Nat) (cA : Nat → ClassId) (e : Se1) (row : Nat → Int32) : va_E :=
  if e.1 < 20 then .inr (e.1, (List.range (nF e.1)).map (fV sz ex e.1 e.2.2 row))
  else if e.1 < 30 then .inl (cA e.1, e.2.1, .inl row)
  else .inl (cA e.1, e.2.1, .inr (.inr (.inr (.inr (fun i => (e.2.2 i).map (adr sz ex))))))
def Rp (D : va_G) (cA : Nat → ClassId) (sz : Nat) (ex : Nat → Nat) (h : Hp) (H : Heap) : Prop :=
  H.size = sz + h.1.1 ∧ h.1.1 ≤ 100000 ∧ (∀ k, k < h.1.1 → va_at D classes (sz + k, ceE sz ex cA (h.1.2 k) (h.2 k)) H) ∧ ∀ k, h.1.1 ≤ k → ∀ i, h.2 k i = 0
def okT (t : Nat) : Bool := (20 ≤ t && t < 24) || (33 ≤ t && t < 37)
def tyT (t : Nat) : FieldType := if t = 20 then .int else if t = 21 then .byte else if t = 22 then .boolean else if t = 23 then .char else .object (oN (t - 30))
def strIx (j : Nat) : Nat := [125, 131, 133].getD j 0
def strTx (j : Nat) : String := ["if unless or and not ", "table ahead need silent shut strike ", "sum day gov by thing agreed "].getD j ""
def GX (D : va_G) (cA : Nat → ClassId) (ex : Nat → Nat) (U : State) : Prop :=
  va_K D classes [] U ∧ (∀ t, okT t = true → ArrOfT U (cA t) (tyT t) ∧ va_RA U (cA t) (tyT t)) ∧ (∀ (o : String) (i : Nat) (y : MethodName), Cond.methodLinkNest o i y "CabinetTable" ∈ lw_tbl → va_Nw (.methodLinkNest o i y "CabinetTable") U) ∧ (∀ c, 3 ≤ c → c < 7 → va_AO (oN c) U) ∧ (∀ j, j < 3 → vk_R "CabinetTable$Tape" (strIx j) (strTx j) (ex (1 + j)) U)
def EXH (sz : Nat) (ex : Nat → Nat) (X : Xt) (U : State) (H : Heap) : Prop :=
  va_Z "CabinetTable$Paper" "KIND_ABOVE" "[I" (.ref (ex 0)) (fun q => sz ≤ q) U H ∧ va_T .int (ex 0) 5 (fun j => .int (kAbove.getD j 0)) (fun q => sz ≤ q) U H ∧ vk_S 3 [21, 36, 28] strs (fun i => ex (1 + i)) (fun i => ex (10 + i)) (fun q => sz ≤ q) U H ∧
  va_Z "java/lang/String" "COMPACT_STRINGS" "Z" (.int 1) (fun q => sz ≤ q) U H ∧ va_Zq "jdk/internal/util/Preconditions" "SIOOBE_FORMATTER" "Ljava/util/function/BiFunction;" (fun q => sz ≤ q) U H ∧ va_X (ex 9) X.1 X.2 U H ∧ ex 9 < sz ∧ X.1 < 2 ^ 31 ∧ sz ≤ H.size
theorem arrOf_al {u U : State} (hvm : u.vm.Alike U.vm) {cA : ClassId} {ty : FieldType} (h : ArrOfT u cA ty) : ArrOfT U cA ty := arrOfT_moved hvm h
theorem GX.warm {D : va_G} {cA : Nat → ClassId} {ex : Nat → Nat} {s U : State} (hW : s.WarmedH U.vm) (h : GX D cA ex s) : GX D cA ex U :=
  ⟨va_K.moved hW.alike h.1, fun t ht => ⟨arrOf_al hW.alike (h.2.1 t ht).1, (h.2.1 t ht).2.moved hW.alike⟩, fun o i y hy => va_Nw.warmM hW (h.2.2.1 o i y hy), fun c h1 h2 => va_AO.moved hW.alike (h.2.2.2.1 c h1 h2), fun j hj => vk_R.warm hW (h.2.2.2.2 j hj)⟩
theorem GX.same {D : va_G} {cA : Nat → ClassId} {ex : Nat → Nat} {s U : State} (hv : s.vm = U.vm) (h : GX D cA ex s) : GX D cA ex U := by
  have hA : s.vm.Alike U.vm := by rw [hv]; exact Vm.Alike.refl _
  exact ⟨va_K.moved hA h.1, fun t ht => ⟨arrOf_al hA (h.2.1 t ht).1, (h.2.1 t ht).2.moved hA⟩, fun o i y hy => va_Nw.same rfl hv (h.2.2.1 o i y hy), fun c h1 h2 => va_AO.moved hA (h.2.2.2.1 c h1 h2), fun j hj => vk_R.same hv.symm (h.2.2.2.2 j hj)⟩
theorem EXH.moved {sz : Nat} {ex : Nat → Nat} {X : Xt} {u U : State} {H : Heap} (hvm : u.vm.Alike U.vm) (h : EXH sz ex X u H) : EXH sz ex X U H :=
  ⟨va_Z.moved hvm h.1, va_T.moved hvm h.2.1, vk_S.moved hvm h.2.2.1, va_Z.moved hvm h.2.2.2.1, va_Zq.moved hvm h.2.2.2.2.1, va_X.moved hvm h.2.2.2.2.2.1, h.2.2.2.2.2.2⟩
theorem EXH.kept {sz : Nat} {ex : Nat → Nat} {X : Xt} {U : State} {H H1 : Heap} (h : EXH sz ex X U H) (hs : H.size ≤ H1.size) (hq : ∀ a : Nat, a < H.size → ¬ sz ≤ a → H1[a]? = H[a]?) : EXH sz ex X U H1 :=
  ⟨h.1.kept hq, h.2.1.kept hq, h.2.2.1.kept hq, h.2.2.2.1.kept hq, h.2.2.2.2.1.kept hq, h.2.2.2.2.2.1.kept (hq _ (Nat.lt_of_lt_of_le h.2.2.2.2.2.2.1 h.2.2.2.2.2.2.2.2) (Nat.not_le.mpr h.2.2.2.2.2.2.1)), h.2.2.2.2.2.2.1, h.2.2.2.2.2.2.2.1, Nat.le_trans h.2.2.2.2.2.2.2.2 hs⟩
/-- one cell changes, the rest stays -/
theorem Rp.upd {D : va_G} {cA : Nat → ClassId} {sz : Nat} {ex : Nat → Nat} {h h' : Hp} {H H' : Heap} (hR : Rp D cA sz ex h H) {k : Nat} (hk : k < h.1.1) (hn : h'.1.1 = h.1.1) (ho : ∀ j, j < h.1.1 → j ≠ k → h'.1.2 j = h.1.2 j ∧ h'.2 j = h.2 j) (hz : ∀ j, h.1.1 ≤ j → h'.2 j = h.2 j)
    (ha : va_at D classes (sz + k, ceE sz ex cA (h'.1.2 k) (h'.2 k)) H') (hs : H'.size = H.size) (hq : ∀ q, q ≠ sz + k → H'[q]? = H[q]?) : Rp D cA sz ex h' H' := by
  refine ⟨by rw [hs, hn]; exact hR.1, by rw [hn]; exact hR.2.1, fun j hj => ?_, fun j hj i => ?_⟩
  · rw [hn] at hj
    by_cases hjk : j = k
    · subst hjk; exact ha
    · rw [(ho j hj hjk).1, (ho j hj hjk).2]
      exact (hR.2.2.1 j hj).kept (hq _ (by show sz + j ≠ sz + k; omega))
  · rw [hn] at hj
    rw [hz j hj]
    exact hR.2.2.2 j hj i
/-- a new cell -/
theorem Rp.new {D : va_G} {cA : Nat → ClassId} {sz : Nat} {ex : Nat → Nat} {h : Hp} {H H' : Heap} (hR : Rp D cA sz ex h H) {t n : Nat} (hlt : h.1.1 < 100000)
    (ha : va_at D classes (sz + h.1.1, ceE sz ex cA (t, n, fun _ => none) (fun _ => 0)) H') (hs : H'.size = H.size + 1) (hq : ∀ q, q < H.size → H'[q]? = H[q]?) : Rp D cA sz ex (shN h.1 t n, h.2) H' := by
  refine ⟨by rw [hs, hR.1]; rfl, by show h.1.1 + 1 ≤ 100000; omega, fun j hj => ?_, fun j hj i => hR.2.2.2 j (Nat.le_trans (Nat.le_succ _) hj) i⟩
  by_cases hjk : j = h.1.1
  · have e1 : (shN h.1 t n).2 j = (t, n, fun _ => none) := by rw [hjk]; exact if_pos rfl
    have e2 : h.2 j = fun _ => 0 := by funext i; exact hR.2.2.2 j (by omega) i
    show va_at D classes (sz + j, ceE sz ex cA ((shN h.1 t n).2 j) (h.2 j)) H'
    rw [e1, e2, hjk]
    exact ha
  · have hj' : j < h.1.1 + 1 := hj
    have e1 : (shN h.1 t n).2 j = h.1.2 j := if_neg hjk
    show va_at D classes (sz + j, ceE sz ex cA ((shN h.1 t n).2 j) (h.2 j)) H'
    rw [e1]
    exact (hR.2.2.1 j (by omega)).kept (hq _ (by show sz + j < H.size; rw [hR.1]; omega))
theorem hC_lt {h : Sh} {k : Nat} (hk : (hC h k).1 ≠ 99) : k < h.1 := by
  by_cases q : k < h.1
  · exact q
  · unfold hC at hk
    rw [if_neg q] at hk
    exact absurd rfl hk
theorem hC_eq {h : Sh} {k : Nat} (hk : k < h.1) : hC h k = h.2 k := if_pos hk
/-- the locals -/
def Lc (sz : Nat) (ex : Nat → Nat) (ls : Array Slot) (n : Nat) (loc : List Value) : Prop := loc.length = n ∧ ls.size = n ∧ lv_wf ls ∧ ∀ (i : Nat) (v : Value), loc[i]? = some v → v.category = 1 → ls[i]? = some (.val (cv sz ex v))
def lcl (sz : Nat) (ex : Nat → Nat) (loc : List Value) : List (Nat × Value) := (List.range loc.length).filterMap (fun i => match loc[i]? with
  | some v => if v.category = 1 then some (i, cv sz ex v) else none
  | none => none)
theorem Lc.has {sz : Nat} {ex : Nat → Nat} {ls : Array Slot} {n : Nat} {loc : List Value} (h : Lc sz ex ls n loc) : lv_has ls n (lcl sz ex loc) := by
  refine ⟨h.2.1, h.2.2.1, fun q hq => ?_⟩
  obtain ⟨i, -, hi⟩ := List.mem_filterMap.mp hq
  cases hl : loc[i]? with
  | none => rw [hl] at hi; cases hi
  | some v =>
    rw [hl] at hi
    dsimp only at hi
    by_cases hc : v.category = 1
    · rw [if_pos hc] at hi
      cases hi
      exact h.2.2.2 i v hl hc
    · rw [if_neg hc] at hi
      cases hi
theorem lcl_mem {sz : Nat} {ex : Nat → Nat} {loc : List Value} {i : Nat} {v : Value} (h : loc[i]? = some v) (hc : v.category = 1) : (i, cv sz ex v) ∈ lcl sz ex loc := by
  refine List.mem_filterMap.mpr ⟨i, List.mem_range.mpr (List.getElem?_eq_some_iff.mp h).1, ?_⟩
  rw [h]
  exact if_pos hc
theorem Lc.store {sz : Nat} {ex : Nat → Nat} {ls ls' : Array Slot} {n : Nat} {loc : List Value} {i : Nat} {x : Value} (h : Lc sz ex ls n loc) (hx : x.category = 1) (hi : i < n)
    (h' : lv_has ls' n ((i, cv sz ex x) :: (lcl sz ex loc).filter (fun q => !(q.1 == i) && !(q.1 + 1 == i && q.2.category == 2)))) : Lc sz ex ls' n (loc.set i x) := by
  refine ⟨by rw [List.length_set]; exact h.1, h'.1, h'.2.1, fun j v hj hv => ?_⟩
  by_cases hji : j = i
  · subst hji
    rw [List.getElem?_set_self (by rw [h.1]; exact hi)] at hj
    cases hj
    exact h'.2.2 _ List.mem_cons_self
  · rw [List.getElem?_set_ne (Ne.symm hji)] at hj
    refine h'.2.2 (j, cv sz ex v) (List.mem_cons_of_mem _ (List.mem_filter.mpr ⟨lcl_mem hj hv, ?_⟩))
    have e : (cv sz ex v).category = 1 := by rw [cv_cat]; exact hv
    simp [hji, e]
theorem lg_sl_1 : ∀ (vs : List Value), (∀ v ∈ vs, v.category = 1) → lg_sl vs = vs.map Slot.val
  | [], _ => rfl
  | v :: vs, h => by
    have h1 := h v List.mem_cons_self
    have ih := lg_sl_1 vs (fun w hw => h w (List.mem_cons_of_mem _ hw))
    unfold lg_sl at ih ⊢
    rw [List.flatMap_cons, ih, if_neg (by omega)]
    rfl
theorem lv_args_1 : ∀ (vs : List Value) (k : Nat), (∀ v ∈ vs, v.category = 1) → ∀ (i : Nat) (v : Value), vs[i]? = some v → (k + i, v) ∈ lv_args k vs
  | [], _, _, _, _, h => by simp at h
  | w :: vs, k, h, i, v, hi => by
    have h1 := h w List.mem_cons_self
    rw [lv_args, if_neg (by omega)]
    cases i with
    | zero =>
      simp at hi
      subst hi
      exact List.mem_cons_self
    | succ i =>
      simp at hi
      have := lv_args_1 vs (k + 1) (fun w hw => h w (List.mem_cons_of_mem _ hw)) i v hi
      rw [show k + 1 + i = k + (i + 1) by omega] at this
      exact List.mem_cons_of_mem _ this
theorem Lc.entry {sz : Nat} {ex : Nat → Nat} {as : List Value} {n : Nat} (hn : as.length ≤ n) (h1 : ∀ v ∈ as, v.category = 1) :
    Lc sz ex ((lg_sl (as.map (cv sz ex)) ++ List.replicate (n - (lg_sl (as.map (cv sz ex))).length) Slot.unset).toArray) n (as ++ List.replicate (n - as.length) unset0) := by
  have h2 : ∀ v ∈ as.map (cv sz ex), v.category = 1 := by
    intro v hv
    obtain ⟨w, hw, rfl⟩ := List.mem_map.mp hv
    rw [cv_cat]; exact h1 w hw
  have hlen : (lg_sl (as.map (cv sz ex))).length ≤ n := by rw [lg_sl_1 _ h2]; simpa using hn
  have hh := lv_entry (as.map (cv sz ex)) hlen
  refine ⟨by simp; omega, hh.1, hh.2.1, fun i v hi hv => ?_⟩
  by_cases hl : i < as.length
  · rw [List.getElem?_append_left hl] at hi
    have := lv_args_1 (as.map (cv sz ex)) 0 h2 i (cv sz ex v) (by rw [List.getElem?_map, hi]; rfl)
    rw [Nat.zero_add] at this
    exact hh.2.2 _ this
  · rw [List.getElem?_append_right (by omega)] at hi
    have := List.mem_of_getElem? hi
    rw [List.mem_replicate] at this
    rw [this.2] at hv
    exact absurd hv (by decide)
