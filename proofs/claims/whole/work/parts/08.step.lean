/-! one instruction of the pure interpreter is one of the machine -/
def Wc (p : Program) (l : Launch) (e : Env) (R : Room) (s : State) (m : MethodId) (args : Array Value) (below : List Frame) (meth : Method) (c : Code) (Q : State → Prop) (D : va_G) (cA : Nat → ClassId) (sz : Nat) (ex : Nat → Nat) (mi c0 s0 pc : Nat) (loc st : List Value) (h : Hp) : Prop :=
  ∀ (H : Heap) (locs : List Loc) (ls : Array Slot), Rp D cA sz ex h H → va_S (fun q => sz ≤ q) s.heap H locs → Lc sz ex ls (mMax mi) loc → W p l e R s m args below meth c H locs (h.1.1 - c0) (slt h.1 - s0) Q (F0 m pc ls (st.map (cv sz ex)))
theorem jmp_ok {pc q : Nat} {off : Int} (h : jmp pc off = some q) : (pc : Int) + off = (q : Int) := by
  unfold jmp at h
  by_cases hz : 0 ≤ (pc : Int) + off
  · rw [if_pos hz] at h
    have := Option.some.inj h
    omega
  · rw [if_neg hz] at h; cases h
set_option maxRecDepth 100000 in
theorem w_kaL : Cond.fieldLink "CabinetTable$Paper" 63 "CabinetTable$Paper" "KIND_ABOVE" "[I" ∈ TBg := tbg (tblAt_mem (p := 3155) (by decide +kernel)) rfl
set_option maxRecDepth 100000 in
theorem w_arr {at_ : ArrayType} {t : Nat} (h : atag at_ = some t) : Cond.arrayClass (newarray.typeOf at_) ∈ TBg := by
  cases at_ with
  | int => exact tbg (tblAt_mem (p := 1059) (by decide +kernel)) rfl
  | byte => exact tbg (tblAt_mem (p := 2139) (by decide +kernel)) rfl
  | boolean => exact tbg (tblAt_mem (p := 6236) (by decide +kernel)) rfl
  | char => exact tbg (tblAt_mem (p := 6235) (by decide +kernel)) rfl
  | _ => cases h
section StepA
variable {p : Program} {l : Launch} {e : Env} {R : Room} {s : State} {m : MethodId} {args : Array Value} {below : List Frame} {meth : Method} {c : Code} {Q : State → Prop}
variable {D : va_G} {cA : Nat → ClassId} {sz : Nat} {ex : Nat → Nat} {X : Xt} {mi c0 s0 pc pc' : Nat} {loc loc' st st' : List Value} {h h' : Hp}
theorem ldI_ok (F : Fx D cA sz ex X p s m args meth c mi) {k len : Nat} (row : ∀ (H : Heap) (locs : List Loc) (ls : Array Slot) (cells slots : Nat) (rest : List Value) (x : Int32), ls[k]? = some (.val (.int x)) → W p l e R s m args below meth c H locs cells slots Q (F0 m (pc + len) ls (.int x :: rest)) → W p l e R s m args below meth c H locs cells slots Q (F0 m pc ls rest))
    (hs : ldI pc loc st h k len = some (pc', loc', st', h')) (kk : Wc p l e R s m args below meth c Q D cA sz ex mi c0 s0 pc' loc' st' h') : Wc p l e R s m args below meth c Q D cA sz ex mi c0 s0 pc loc st h := by
  unfold ldI at hs
  split at hs
  · next x hx =>
    cases hs
    intro H locs ls hR hS hL
    exact row H locs ls _ _ _ x (hL.2.2.2 k _ hx rfl) (kk H locs ls hR hS hL)
  · cases hs
theorem ldA_ok (F : Fx D cA sz ex X p s m args meth c mi) {k len : Nat} (row : ∀ (H : Heap) (locs : List Loc) (ls : Array Slot) (cells slots : Nat) (rest : List Value) (x : Nat), ls[k]? = some (.val (.ref x)) → W p l e R s m args below meth c H locs cells slots Q (F0 m (pc + len) ls (.ref x :: rest)) → W p l e R s m args below meth c H locs cells slots Q (F0 m pc ls rest))
    (hs : ldA pc loc st h k len = some (pc', loc', st', h')) (kk : Wc p l e R s m args below meth c Q D cA sz ex mi c0 s0 pc' loc' st' h') : Wc p l e R s m args below meth c Q D cA sz ex mi c0 s0 pc loc st h := by
  unfold ldA at hs
  split at hs
  · next x hx =>
    cases hs
    intro H locs ls hR hS hL
    exact row H locs ls _ _ _ _ (hL.2.2.2 k _ hx rfl) (kk H locs ls hR hS hL)
  · cases hs
theorem stI_ok (F : Fx D cA sz ex X p s m args meth c mi) {k len : Nat} (row : ∀ (H : Heap) (locs : List Loc) (ls : Array Slot) (cells slots : Nat) (rest : List Value) (x : Int32) (lv : List (Nat × Value)), lv_has ls (mMax mi) lv → k < mMax mi → (∀ ls' : Array Slot, lv_has ls' (mMax mi) ((k, Value.int x) :: lv.filter (fun q => !(q.1 == k) && !(q.1 + 1 == k && q.2.category == 2))) → W p l e R s m args below meth c H locs cells slots Q (F0 m (pc + len) ls' rest)) → W p l e R s m args below meth c H locs cells slots Q (F0 m pc ls (.int x :: rest)))
    (hs : stI pc loc st h k len = some (pc', loc', st', h')) (kk : Wc p l e R s m args below meth c Q D cA sz ex mi c0 s0 pc' loc' st' h') : Wc p l e R s m args below meth c Q D cA sz ex mi c0 s0 pc loc st h := by
  unfold stI at hs
  split at hs
  · next x r =>
    by_cases hk : k < loc.length
    · rw [if_pos hk] at hs
      cases hs
      intro H locs ls hR hS hL
      have hk' : k < mMax mi := by rw [← hL.1]; exact hk
      exact row H locs ls _ _ _ x _ hL.has hk' (fun ls' hl' => kk H locs ls' hR hS (hL.store (x := .int x) rfl hk' hl'))
    · rw [if_neg hk] at hs; cases hs
  · cases hs
theorem stA_ok (F : Fx D cA sz ex X p s m args meth c mi) {k len : Nat} (row : ∀ (H : Heap) (locs : List Loc) (ls : Array Slot) (cells slots : Nat) (rest : List Value) (x : Nat) (lv : List (Nat × Value)), lv_has ls (mMax mi) lv → k < mMax mi → (∀ ls' : Array Slot, lv_has ls' (mMax mi) ((k, Value.ref x) :: lv.filter (fun q => !(q.1 == k) && !(q.1 + 1 == k && q.2.category == 2))) → W p l e R s m args below meth c H locs cells slots Q (F0 m (pc + len) ls' rest)) → W p l e R s m args below meth c H locs cells slots Q (F0 m pc ls (.ref x :: rest)))
    (hs : stA pc loc st h k len = some (pc', loc', st', h')) (kk : Wc p l e R s m args below meth c Q D cA sz ex mi c0 s0 pc' loc' st' h') : Wc p l e R s m args below meth c Q D cA sz ex mi c0 s0 pc loc st h := by
  unfold stA at hs
  split at hs
  · next x r =>
    by_cases hk : k < loc.length
    · rw [if_pos hk] at hs
      cases hs
      intro H locs ls hR hS hL
      have hk' : k < mMax mi := by rw [← hL.1]; exact hk
      exact row H locs ls _ _ _ (adr sz ex x) _ hL.has hk' (fun ls' hl' => kk H locs ls' hR hS (hL.store (x := .ref x) rfl hk' hl'))
    · rw [if_neg hk] at hs; cases hs
  · cases hs
theorem opI_ok (F : Fx D cA sz ex X p s m args meth c mi) {f : Int32 → Int32 → Option Int32} (row : ∀ (H : Heap) (locs : List Loc) (ls : Array Slot) (cells slots : Nat) (rest : List Value) (x y z : Int32), f x y = some z → W p l e R s m args below meth c H locs cells slots Q (F0 m (pc + 1) ls (.int z :: rest)) → W p l e R s m args below meth c H locs cells slots Q (F0 m pc ls (.int y :: .int x :: rest)))
    (hs : opI pc loc st h f = some (pc', loc', st', h')) (kk : Wc p l e R s m args below meth c Q D cA sz ex mi c0 s0 pc' loc' st' h') : Wc p l e R s m args below meth c Q D cA sz ex mi c0 s0 pc loc st h := by
  unfold opI at hs
  split at hs
  · next y x r =>
    split at hs
    · next z hz =>
      cases hs
      intro H locs ls hR hS hL
      exact row H locs ls _ _ _ x y z hz (kk H locs ls hR hS hL)
    · cases hs
  · cases hs
theorem un1_ok (F : Fx D cA sz ex X p s m args meth c mi) {f : Int32 → Int32} (row : ∀ (H : Heap) (locs : List Loc) (ls : Array Slot) (cells slots : Nat) (rest : List Value) (x : Int32), W p l e R s m args below meth c H locs cells slots Q (F0 m (pc + 1) ls (.int (f x) :: rest)) → W p l e R s m args below meth c H locs cells slots Q (F0 m pc ls (.int x :: rest)))
    (hs : un1 pc loc st h f = some (pc', loc', st', h')) (kk : Wc p l e R s m args below meth c Q D cA sz ex mi c0 s0 pc' loc' st' h') : Wc p l e R s m args below meth c Q D cA sz ex mi c0 s0 pc loc st h := by
  unfold un1 at hs
  split at hs
  · next x r =>
    cases hs
    intro H locs ls hR hS hL
    exact row H locs ls _ _ _ x (kk H locs ls hR hS hL)
  · cases hs
theorem ldX_ok (F : Fx D cA sz ex X p s m args meth c mi) {f : Nat → Int32 → Option Int32} (row : ∀ (H : Heap) (locs : List Loc) (ls : Array Slot) (cells slots : Nat) (rest : List Value) (a : Nat) (i z : Int32), Rp D cA sz ex h H → va_S (fun q => sz ≤ q) s.heap H locs → f a i = some z → W p l e R s m args below meth c H locs cells slots Q (F0 m (pc + 1) ls (.int z :: rest)) → W p l e R s m args below meth c H locs cells slots Q (F0 m pc ls (.int i :: .ref (adr sz ex a) :: rest)))
    (hs : ldX pc loc st h f = some (pc', loc', st', h')) (kk : Wc p l e R s m args below meth c Q D cA sz ex mi c0 s0 pc' loc' st' h') : Wc p l e R s m args below meth c Q D cA sz ex mi c0 s0 pc loc st h := by
  unfold ldX at hs
  split at hs
  · next i a r =>
    split at hs
    · next z hz =>
      cases hs
      intro H locs ls hR hS hL
      exact row H locs ls _ _ _ a i z hR hS hz (kk H locs ls hR hS hL)
    · cases hs
  · cases hs
theorem stX_ok (F : Fx D cA sz ex X p s m args meth c mi) {t : Nat} {ins : Instr} {f : Int32 → Int32} (hti : (t = 20 ∧ ins = .iastore ∧ f = fun x => x) ∨ (t = 21 ∧ ins = .bastore ∧ f = vp_nar .byte) ∨ (t = 22 ∧ ins = .bastore ∧ f = vp_nar .boolean) ∨ (t = 23 ∧ ins = .castore ∧ f = vp_nar .char)) (hd : decode (bt mi) pc = .ok (ins, 1))
    (hs : stX pc loc st h t f = some (pc', loc', st', h')) (kk : Wc p l e R s m args below meth c Q D cA sz ex mi c0 s0 pc' loc' st' h') : Wc p l e R s m args below meth c Q D cA sz ex mi c0 s0 pc loc st h := by
  unfold stX at hs
  split at hs
  · next x i a r =>
    split at hs
    · next hc =>
      cases hs
      intro H locs ls hR hS hL
      exact wast F hR hS hc.1 (inbB_iff.mp hc.2) hti hd (fun H' locs' hR' hS' => kk H' locs' ls hR' hS' hL)
    · cases hs
  · cases hs
theorem getF_ok (F : Fx D cA sz ex X p s m args meth c mi) {idx : Nat} (hd : decode (bt mi) pc = .ok (.getfield idx, 3))
    (hs : getF (mCo mi) pc idx loc st h = some (pc', loc', st', h')) (kk : Wc p l e R s m args below meth c Q D cA sz ex mi c0 s0 pc' loc' st' h') : Wc p l e R s m args below meth c Q D cA sz ex mi c0 s0 pc loc st h := by
  unfold getF at hs
  split at hs
  · next a r =>
    split at hs
    · next ci k hf =>
      split at hs
      · next ht =>
        split at hs
        · next hrf =>
          cases hs
          intro H locs ls hR hS hL
          refine wget F hR hf ht hd ?_
          have := kk H locs ls hR hS hL
          unfold fV
          rw [if_pos hrf]
          exact this
        · next hrf =>
          cases hs
          intro H locs ls hR hS hL
          refine wget F hR hf ht hd ?_
          have := kk H locs ls hR hS hL
          unfold fV
          rw [if_neg hrf]
          exact this
      · cases hs
    · cases hs
  · cases hs
theorem putF_ok (F : Fx D cA sz ex X p s m args meth c mi) {idx : Nat} (hd : decode (bt mi) pc = .ok (.putfield idx, 3))
    (hs : putF (mCo mi) pc idx (mKind mi == 2) loc st h = some (pc', loc', st', h')) (kk : Wc p l e R s m args below meth c Q D cA sz ex mi c0 s0 pc' loc' st' h') : Wc p l e R s m args below meth c Q D cA sz ex mi c0 s0 pc loc st h := by
  unfold putF at hs
  split at hs
  · next v a r =>
    split at hs
    · next ci k hf =>
      obtain ⟨f1, f2, f3⟩ := fl_ok hf
      split at hs
      · next hc =>
        have ha : a < h.1.1 := hC_lt (by rw [hc.1]; omega)
        have e := hC_eq ha
        split at hs
        · next x =>
          split at hs
          · next hq =>
            cases hs
            intro H locs ls hR hS hL
            refine wput (v := .int x) (h' := (h.1, up2 h.2 a k x)) F hR hS hf hc.1 hc.2 hq.2.1 hq.2.2 hd rfl (fun j _ hj => ⟨rfl, if_neg hj⟩) (fun j hj => if_neg (fun z => Nat.not_lt.mpr hj (by rw [z]; exact ha))) ?_ (fun H' locs' hR' hS' => kk H' locs' ls hR' hS' hL)
            show ceE sz ex cA (h.1.2 a) (up2 h.2 a k x a) = _
            rw [← e]
            unfold ceE
            rw [hc.1, if_pos (by omega)]
            congr 2
            apply List.ext_getElem?
            intro i
            by_cases hi : i < nF ci
            · by_cases hik : k = i
              · subst hik
                rw [List.getElem?_set_self (by simpa using hi), List.getElem?_map, List.getElem?_range hi]
                show some (fV sz ex ci _ _ k) = _
                unfold fV
                rw [if_neg (by rw [hq.1]; decide), show up2 h.2 a k x a = upd (h.2 a) k x from if_pos rfl]
                simp [upd]
              · rw [List.getElem?_set_ne hik, List.getElem?_map, List.getElem?_map, List.getElem?_range hi]
                show some (fV sz ex ci _ _ i) = some (fV sz ex ci _ _ i)
                unfold fV
                rw [show up2 h.2 a k x a = upd (h.2 a) k x from if_pos rfl]
                have : upd (h.2 a) k x i = h.2 a i := if_neg (fun z => hik z.symm)
                rw [this]
            · rw [List.getElem?_eq_none (by simpa using hi), List.getElem?_eq_none (by simpa using hi)]
          · cases hs
        · next b =>
          split at hs
          · next hq =>
            cases hs
            intro H locs ls hR hS hL
            refine wput (v := .ref (adr sz ex b)) (h' := (shR h.1 a k b, h.2)) F hR hS hf hc.1 hc.2 (ref_fits hq _).1 (ref_fits hq _).2 hd rfl (fun j _ hj => ⟨if_neg hj, rfl⟩) (fun _ _ => rfl) ?_ (fun H' locs' hR' hS' => ?_)
            · have e4 : (shR h.1 a k b).2 a = ((h.1.2 a).1, (h.1.2 a).2.1, fun q => if q = k then some b else (h.1.2 a).2.2 q) := if_pos rfl
              show ceE sz ex cA ((shR h.1 a k b).2 a) (h.2 a) = _
              rw [e4, ← e]
              unfold ceE
              rw [if_pos (by show (hC h.1 a).1 < 20; rw [hc.1]; omega)]
              show Sum.inr ((hC h.1 a).1, _) = _
              rw [hc.1]
              congr 2
              apply List.ext_getElem?
              intro i
              by_cases hi : i < nF ci
              · by_cases hik : k = i
                · subst hik
                  rw [List.getElem?_set_self (by simpa using hi), List.getElem?_map, List.getElem?_range hi]
                  show some (fV sz ex ci _ _ k) = _
                  unfold fV
                  rw [if_pos hq]
                  simp [rvl, cv]
                · rw [List.getElem?_set_ne hik, List.getElem?_map, List.getElem?_map, List.getElem?_range hi]
                  show some (fV sz ex ci _ _ i) = some (fV sz ex ci _ _ i)
                  unfold fV
                  simp only [if_neg (fun z : i = k => hik z.symm)]
              · rw [List.getElem?_eq_none (by simpa using hi), List.getElem?_eq_none (by simpa using hi)]
            · have := kk H' locs' ls hR' hS' hL
              rw [slt_shR] at this
              exact this
          · cases hs
        · cases hs
      · cases hs
    · cases hs
  · cases hs
theorem newO_ok (F : Fx D cA sz ex X p s m args meth c mi) {idx : Nat} (hd : decode (bt mi) pc = .ok (.new idx, 3)) (hc0 : c0 ≤ h.1.1) (hs0 : s0 ≤ slt h.1) (hcel : h'.1.1 - c0 ≤ R.cells) (hslo : slt h'.1 - s0 ≤ R.slots)
    (hs : newO (mCo mi) pc idx loc st h = some (pc', loc', st', h')) (kk : Wc p l e R s m args below meth c Q D cA sz ex mi c0 s0 pc' loc' st' h') : Wc p l e R s m args below meth c Q D cA sz ex mi c0 s0 pc loc st h := by
  unfold newO at hs
  split at hs
  · next ci hcl =>
    split at hs
    · next hq =>
      cases hs
      intro H locs ls hR hS hL
      rw [slt_shN] at hslo
      have e1 : (shN h.1 ci (nF ci)).1 = h.1.1 + 1 := rfl
      rw [e1] at hcel
      refine wnew F hR hS hcl hq.1 hq.2 (by omega) (by omega) hd (fun H' hR' hS' => ?_)
      have := kk H' locs ls hR' hS' hL
      rw [slt_shN, e1, show h.1.1 + 1 - c0 = h.1.1 - c0 + 1 by omega, show slt h.1 + nF ci - s0 = slt h.1 - s0 + nF ci by omega] at this
      exact this
    · cases hs
  · cases hs
theorem newA_ok (F : Fx D cA sz ex X p s m args meth c mi) {t len : Nat} (row : ∀ (H : Heap) (locs : List Loc) (ls : Array Slot) (cells slots : Nat) (rest : List Value) (n : Int32), Rp D cA sz ex h H → va_S (fun q => sz ≤ q) s.heap H locs → ¬ n < 0 → n.toNatClampNeg ≤ 10000 → h.1.1 < 100000 → cells + 1 ≤ R.cells → slots + n.toNatClampNeg ≤ R.slots → (∀ H' : Heap, Rp D cA sz ex (shN h.1 t n.toNatClampNeg, h.2) H' → va_S (fun q => sz ≤ q) s.heap H' locs → W p l e R s m args below meth c H' locs (cells + 1) (slots + n.toNatClampNeg) Q (F0 m (pc + len) ls (.ref (adr sz ex h.1.1) :: rest))) → W p l e R s m args below meth c H locs cells slots Q (F0 m pc ls (.int n :: rest)))
    (hc0 : c0 ≤ h.1.1) (hs0 : s0 ≤ slt h.1) (hcel : h'.1.1 - c0 ≤ R.cells) (hslo : slt h'.1 - s0 ≤ R.slots)
    (hs : newA pc len t loc st h = some (pc', loc', st', h')) (kk : Wc p l e R s m args below meth c Q D cA sz ex mi c0 s0 pc' loc' st' h') : Wc p l e R s m args below meth c Q D cA sz ex mi c0 s0 pc loc st h := by
  unfold newA at hs
  split at hs
  · next n r =>
    split at hs
    · next hq =>
      cases hs
      intro H locs ls hR hS hL
      rw [slt_shN] at hslo
      have e1 : (shN h.1 t n.toNatClampNeg).1 = h.1.1 + 1 := rfl
      rw [e1] at hcel
      refine row H locs ls _ _ _ n hR hS hq.1 hq.2.1 hq.2.2 (by omega) (by omega) (fun H' hR' hS' => ?_)
      have := kk H' locs ls hR' hS' hL
      rw [slt_shN, e1, show h.1.1 + 1 - c0 = h.1.1 - c0 + 1 by omega, show slt h.1 + n.toNatClampNeg - s0 = slt h.1 - s0 + n.toNatClampNeg by omega] at this
      exact this
    · cases hs
  · cases hs
theorem aald0_ok (F : Fx D cA sz ex X p s m args meth c mi) (hd : decode (bt mi) pc = .ok (.aaload, 1))
    (hs : aald0 pc loc st h = some (pc', loc', st', h')) (kk : Wc p l e R s m args below meth c Q D cA sz ex mi c0 s0 pc' loc' st' h') : Wc p l e R s m args below meth c Q D cA sz ex mi c0 s0 pc loc st h := by
  unfold aald0 at hs
  split at hs
  · next i a r =>
    split at hs
    · next hq =>
      cases hs
      intro H locs ls hR hS hL
      exact waald F hR hq.1 hq.2.1 (inbB_iff.mp hq.2.2) hd (kk H locs ls hR hS hL)
    · cases hs
  · cases hs
theorem aast0_ok (F : Fx D cA sz ex X p s m args meth c mi) (hd : decode (bt mi) pc = .ok (.aastore, 1))
    (hs : aast0 pc loc st h = some (pc', loc', st', h')) (kk : Wc p l e R s m args below meth c Q D cA sz ex mi c0 s0 pc' loc' st' h') : Wc p l e R s m args below meth c Q D cA sz ex mi c0 s0 pc loc st h := by
  unfold aast0 at hs
  split at hs
  · next b i a r =>
    split at hs
    · next hq =>
      cases hs
      intro H locs ls hR hS hL
      refine waast F hR hS hq.1 hq.2.1 hq.2.2.1 (inbB_iff.mp hq.2.2.2) hd (fun H' locs' hR' hS' => ?_)
      have := kk H' locs' ls hR' hS' hL
      rw [slt_shR] at this
      exact this
    · cases hs
  · cases hs
theorem tsw_ok (F : Fx D cA sz ex X p s m args meth c mi) {d lo hi : Int} {offs : Array Int} {len : Nat} (hd : decode (bt mi) pc = .ok (.tableswitch d lo hi offs, len))
    (hs : tsw pc loc st h d lo hi offs = some (pc', loc', st', h')) (kk : Wc p l e R s m args below meth c Q D cA sz ex mi c0 s0 pc' loc' st' h') : Wc p l e R s m args below meth c Q D cA sz ex mi c0 s0 pc loc st h := by
  unfold tsw at hs
  split at hs
  · next x r =>
    split at hs
    · next o ho =>
      split at hs
      · next q hq =>
        cases hs
        intro H locs ls hR hS hL
        by_cases hx : x.toInt < lo ∨ hi < x.toInt
        · rw [if_pos hx] at ho
          cases ho
          exact lv_tableOut F.1 F.2.1 hd hx (jmp_ok hq) (kk H locs ls hR hS hL)
        · rw [if_neg hx] at ho
          exact lv_tableIn F.1 F.2.1 hd (fun z => hx (Or.inl z)) (fun z => hx (Or.inr z)) ho (jmp_ok hq) (kk H locs ls hR hS hL)
      · cases hs
    · cases hs
  · cases hs
theorem lsw_ok (F : Fx D cA sz ex X p s m args meth c mi) {d : Int} {ps : Array (Int × Int)} {len : Nat} (hd : decode (bt mi) pc = .ok (.lookupswitch d ps, len))
    (hs : lsw pc loc st h d ps = some (pc', loc', st', h')) (kk : Wc p l e R s m args below meth c Q D cA sz ex mi c0 s0 pc' loc' st' h') : Wc p l e R s m args below meth c Q D cA sz ex mi c0 s0 pc loc st h := by
  unfold lsw at hs
  split at hs
  · next x r =>
    split at hs
    · next hp =>
      split at hs
      · next q hq =>
        cases hs
        intro H locs ls hR hS hL
        exact lv_lookup F.1 F.2.1 hd hp rfl (jmp_ok hq) (kk H locs ls hR hS hL)
      · cases hs
    · cases hs
  · cases hs
theorem br1_ok (F : Fx D cA sz ex X p s m args meth c mi) {cd1 : ClassFile.Cond} {off : Int} (hd : decode (bt mi) pc = .ok (.ifCond cd1 off, 3))
    (hs : br1 pc loc st h cd1 off = some (pc', loc', st', h')) (kk : Wc p l e R s m args below meth c Q D cA sz ex mi c0 s0 pc' loc' st' h') : Wc p l e R s m args below meth c Q D cA sz ex mi c0 s0 pc loc st h := by
  unfold br1 at hs
  split at hs
  · next x r =>
    split at hs
    · next q hq =>
      have ee := Option.some.inj hs
      have ht := jmp_ok hq
      intro H locs ls hR hS hL
      have K : ∀ b : Bool, cndB cd1 x 0 = b → W p l e R s m args below meth c H locs (h.1.1 - c0) (slt h.1 - s0) Q (F0 m (if b = true then q else pc + 3) ls (r.map (cv sz ex))) := by
        intro b hb
        rw [hb] at ee
        cases b
        · rw [if_neg (by decide)] at ee ⊢
          cases ee
          exact kk H locs ls hR hS hL
        · rw [if_pos rfl] at ee ⊢
          cases ee
          exact kk H locs ls hR hS hL
      cases cd1 with
      | eq => exact lv_if_eq F.1 F.2.1 hd ht (fun z => K true (decide_eq_true z)) (fun z => K false (decide_eq_false z))
      | ne => exact lv_if_ne F.1 F.2.1 hd ht (fun z => K true (decide_eq_true z)) (fun z => K false (decide_eq_false (fun w => w z)))
      | lt => exact lv_if_lt F.1 F.2.1 hd ht (fun z => K true (decide_eq_true z)) (fun z => K false (decide_eq_false z))
      | ge => exact lv_if_ge F.1 F.2.1 hd ht (fun z => K true (decide_eq_true z)) (fun z => K false (decide_eq_false z))
      | gt => exact lv_if_gt F.1 F.2.1 hd ht (fun z => K true (decide_eq_true z)) (fun z => K false (decide_eq_false z))
      | le => exact lv_if_le F.1 F.2.1 hd ht (fun z => K true (decide_eq_true z)) (fun z => K false (decide_eq_false z))
    · cases hs
  · cases hs
theorem br2_ok (F : Fx D cA sz ex X p s m args meth c mi) {cd1 : ClassFile.Cond} {off : Int} (hd : decode (bt mi) pc = .ok (.if_icmp cd1 off, 3))
    (hs : br2 pc loc st h cd1 off = some (pc', loc', st', h')) (kk : Wc p l e R s m args below meth c Q D cA sz ex mi c0 s0 pc' loc' st' h') : Wc p l e R s m args below meth c Q D cA sz ex mi c0 s0 pc loc st h := by
  unfold br2 at hs
  split at hs
  · next y x r =>
    split at hs
    · next q hq =>
      have ee := Option.some.inj hs
      have ht := jmp_ok hq
      intro H locs ls hR hS hL
      have K : ∀ b : Bool, cndB cd1 x y = b → W p l e R s m args below meth c H locs (h.1.1 - c0) (slt h.1 - s0) Q (F0 m (if b = true then q else pc + 3) ls (r.map (cv sz ex))) := by
        intro b hb
        rw [hb] at ee
        cases b
        · rw [if_neg (by decide)] at ee ⊢
          cases ee
          exact kk H locs ls hR hS hL
        · rw [if_pos rfl] at ee ⊢
          cases ee
          exact kk H locs ls hR hS hL
      cases cd1 with
      | eq => exact lv_icmp_eq F.1 F.2.1 hd ht (fun z => K true (decide_eq_true z)) (fun z => K false (decide_eq_false z))
      | ne => exact lv_icmp_ne F.1 F.2.1 hd ht (fun z => K true (decide_eq_true z)) (fun z => K false (decide_eq_false (fun w => w z)))
      | lt => exact lv_icmp_lt F.1 F.2.1 hd ht (fun z => K true (decide_eq_true z)) (fun z => K false (decide_eq_false z))
      | ge => exact lv_icmp_ge F.1 F.2.1 hd ht (fun z => K true (decide_eq_true z)) (fun z => K false (decide_eq_false z))
      | gt => exact lv_icmp_gt F.1 F.2.1 hd ht (fun z => K true (decide_eq_true z)) (fun z => K false (decide_eq_false z))
      | le => exact lv_icmp_le F.1 F.2.1 hd ht (fun z => K true (decide_eq_true z)) (fun z => K false (decide_eq_false z))
    · cases hs
  · cases hs
theorem sll_ok {co i j : Nat} (h : sll co i = some j) : oN co = "CabinetTable$Tape" ∧ j < 3 ∧ strIx j = i := by
  unfold sll at h
  by_cases hc : co = 9
  · rw [if_pos hc] at h
    subst hc
    refine ⟨rfl, ?_⟩
    by_cases h1 : i = 125
    · rw [if_pos h1] at h; cases h; exact ⟨by decide, h1.symm⟩
    · rw [if_neg h1] at h
      by_cases h2 : i = 131
      · rw [if_pos h2] at h; cases h; exact ⟨by decide, h2.symm⟩
      · rw [if_neg h2] at h
        by_cases h3 : i = 133
        · rw [if_pos h3] at h; cases h; exact ⟨by decide, h3.symm⟩
        · rw [if_neg h3] at h; cases h
  · rw [if_neg hc] at h; cases h
theorem ldcX_ok (F : Fx D cA sz ex X p s m args meth c mi) {idx len : Nat} (hd : (len = 2 ∧ decode (bt mi) pc = .ok (.ldc idx, 2)) ∨ (len = 3 ∧ decode (bt mi) pc = .ok (.ldc_w idx, 3)))
    (hs : ldcX (mCo mi) pc idx len loc st h = some (pc', loc', st', h')) (kk : Wc p l e R s m args below meth c Q D cA sz ex mi c0 s0 pc' loc' st' h') : Wc p l e R s m args below meth c Q D cA sz ex mi c0 s0 pc loc st h := by
  unfold ldcX at hs
  split at hs
  · next v hv =>
    cases hs
    intro H locs ls hR hS hL
    rcases hd with ⟨rfl, hd⟩ | ⟨rfl, hd⟩
    · exact lv_ldc F.1 F.2.1 F.2.2.2.1 (F.2.2.2.2.1 _ (kl_ok hv)) hd (kk H locs ls hR hS hL)
    · exact lv_ldcw F.1 F.2.1 F.2.2.2.1 (F.2.2.2.2.1 _ (kl_ok hv)) hd (kk H locs ls hR hS hL)
  · split at hs
    · next hl =>
      split at hs
      · next j hj =>
        cases hs
        intro H locs ls hR hS hL
        rcases hd with ⟨-, hd⟩ | ⟨h3, -⟩
        · obtain ⟨e1, e2, e3⟩ := sll_ok hj
          have hv := F.2.2.2.2.2.2.1.2.2.2.2 j e2
          rw [e3] at hv
          have hown := F.2.2.2.1
          rw [e1] at hown
          refine va_ldcS F.1 F.2.1 hown hv hd ?_
          have := kk H locs ls hR hS hL
          rw [hl] at this
          have ea : adr sz ex (1000001 + j) = ex (1 + j) := by
            unfold adr
            rw [if_neg (by omega), show 1000001 + j - 1000000 = 1 + j by omega]
          show W p l e R s m args below meth c H locs _ _ Q (F0 m (pc + 2) ls (Value.ref (ex (1 + j)) :: _))
          rw [← ea]
          exact this
        · omega
      · cases hs
    · cases hs
end StepA
