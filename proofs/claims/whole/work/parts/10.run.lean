/-! a run of the pure interpreter is a run of the machine -/
theorem stp_mono {X : Xt} {co pc len pc' : Nat} {ini : Bool} {ins : Instr} {loc st loc' st' : List Value} {h h' : Hp} (hs : stp X co ini pc ins len loc st h = some (pc', loc', st', h')) : h.1.1 ≤ h'.1.1 ∧ slt h.1 ≤ slt h'.1 := by
  have kN : ∀ t n : Nat, h.1.1 ≤ (shN h.1 t n).1 ∧ slt h.1 ≤ slt (shN h.1 t n) := fun t n => ⟨Nat.le_succ _, by rw [slt_shN]; omega⟩
  have kR : ∀ k i r : Nat, h.1.1 ≤ (shR h.1 k i r).1 ∧ slt h.1 ≤ slt (shR h.1 k i r) := fun k i r => ⟨Nat.le_refl _, by rw [slt_shR]; omega⟩
  have k0 : h.1.1 ≤ h.1.1 ∧ slt h.1 ≤ slt h.1 := ⟨Nat.le_refl _, Nat.le_refl _⟩
  unfold stp at hs
  split at hs
  all_goals (try simp only [ldcX, ldI, ldA, stI, stA, opI, un1, ldX, stX, getF, putF, newO, newA, aald0, aast0, tsw, lsw, br1, br2] at hs)
  all_goals (repeat' (split at hs))
  all_goals first
    | (cases hs; done)
    | (cases hs; exact k0)
    | (cases hs; exact kN _ _)
    | (cases hs; exact kR _ _ _)
    | (have e := Option.some.inj hs; split at e <;> cases e <;> exact k0)
    | (rename_i z hz; cases hs; (repeat' (split at hz)) <;> first | (cases hz; exact k0) | (cases hz; done))
theorem jdk_mono {j : Nat} {st st' : List Value} {h h' : Hp} (hs : jdk j st h = some (st', h')) : h'.1 = h.1 := by
  unfold jdk at hs
  split at hs
  all_goals (repeat' (split at hs))
  all_goals first
    | (cases hs; done)
    | (cases hs; rfl)
theorem run_mono (X : Xt) : ∀ (n d mi pc : Nat) (loc st : List Value) (h : Hp) (r : Option Value) (h' : Hp), run X n d mi pc loc st h = some (r, h') → h.1.1 ≤ h'.1.1 ∧ slt h.1 ≤ slt h'.1 := by
  intro n
  induction n with
  | zero => intro d mi pc loc st h r h' hr; rw [run] at hr; cases hr
  | succ n ih =>
    intro d mi pc loc st h r h' hr
    rw [run] at hr
    split at hr
    · cases hr
    · next ins len hcd =>
      split at hr
      · next kd idx hk =>
        split at hr
        · cases hr
        · next j na ne hml =>
          split at hr
          · split at hr
            · split at hr
              · split at hr
                · cases hr
                · next st1 h1 hj =>
                  have := ih _ _ _ _ _ _ _ _ hr
                  rw [jdk_mono hj] at this
                  exact this
              · cases hr
            · split at hr
              · split at hr
                · cases hr
                · split at hr
                  · cases hr
                  · next r1 h1 hc =>
                    have a1 := ih _ _ _ _ _ _ _ _ hc
                    have a2 := ih _ _ _ _ _ _ _ _ hr
                    exact ⟨Nat.le_trans a1.1 a2.1, Nat.le_trans a1.2 a2.2⟩
              · cases hr
          · cases hr
      · split at hr
        · split at hr
          · split at hr
            · cases hr; exact ⟨Nat.le_refl _, Nat.le_refl _⟩
            · cases hr
          · cases hr
        · split at hr
          · split at hr
            · cases hr; exact ⟨Nat.le_refl _, Nat.le_refl _⟩
            · cases hr
          · cases hr
        · split at hr
          · cases hr
          · next pc1 loc1 st1 h1 hst =>
            have a1 := stp_mono hst
            have a2 := ih _ _ _ _ _ _ _ _ hr
            exact ⟨Nat.le_trans a1.1 a2.1, Nat.le_trans a1.2 a2.2⟩
/-- what a return does -/
def Fin1 (p : Program) (l : Launch) (e : Env) (R : Room) (s : State) (m : MethodId) (args : Array Value) (below : List Frame) (meth : Method) (c : Code) (Q : State → Prop) (D : va_G) (cA : Nat → ClassId) (sz : Nat) (ex : Nat → Nat) (mi c0 s0 : Nat) (r : Option Value) (h' : Hp) : Prop :=
  ∀ (H : Heap) (locs : List Loc) (ls : Array Slot) (pc : Nat), Rp D cA sz ex h' H → va_S (fun q => sz ≤ q) s.heap H locs →
    (∀ (v : Int32) (ty : FieldType), r = some (.int v) → mRet mi = some ty → narrow ty (.int v) = .int v → isRf ty = false → decode (bt mi) pc = .ok (.ireturn, 1) → W p l e R s m args below meth c H locs (h'.1.1 - c0) (slt h'.1 - s0) Q (F0 m pc ls [.int v])) ∧
    (r = none → mRet mi = none → decode (bt mi) pc = .ok (.return_, 1) → W p l e R s m args below meth c H locs (h'.1.1 - c0) (slt h'.1 - s0) Q (F0 m pc ls []))
def RunOK (l : Launch) (D : va_G) (cA : Nat → ClassId) (sz : Nat) (ex : Nat → Nat) (X : Xt) (n : Nat) : Prop :=
  ∀ (d mi pc : Nat) (loc st : List Value) (h : Hp) (r : Option Value) (h' : Hp), run X n d mi pc loc st h = some (r, h') →
    ∀ (p : Program) (e : Env) (R : Room) (s : State) (m : MethodId) (args : Array Value) (below : List Frame) (meth : Method) (c : Code) (Q : State → Prop) (c0 s0 : Nat), Fx D cA sz ex X p s m args meth c mi → d ≤ R.frames → 64 * d ≤ R.locals → h'.1.1 - c0 ≤ R.cells → slt h'.1 - s0 ≤ R.slots → c0 ≤ h.1.1 → s0 ≤ slt h.1 →
      Fin1 p l e R s m args below meth c Q D cA sz ex mi c0 s0 r h' → Wc p l e R s m args below meth c Q D cA sz ex mi c0 s0 pc loc st h
theorem ct_of {l : Launch} {D : va_G} {cA : Nat → ClassId} {sz : Nat} {ex : Nat → Nat} {X : Xt} {n : Nat} (hP : RunOK l D cA sz ex X n) {d j : Nat} {as : List Value} {h h' : Hp} {r : Option Value} (hj : j < 324) (hn : as.length = mNa j) (h1 : ∀ v ∈ as, v.category = 1)
    (hr : run X n d j 0 (as ++ List.replicate (mMax j - mNa j) unset0) [] h = some (r, h')) : CT l D cA sz ex X d j as h r h' := by
  obtain ⟨w1, w2, w3, w4, w5, w6, w7, w8, w9, w10⟩ := mi_ok hj
  refine Met.ofW (cc := bt j) (maxL := mMax j) (ret := mRet j) w4 rfl ?_
  intro p e s m args below meth c s₁ B hml hv
  obtain ⟨rfl, hG, hE, hR⟩ := hv
  have hts := atoms_spec (ws := Wm j) B.pre
  have hown : s.vm.findClass (mY j).cls = some m.cls := findClass_of_methodNamed B.named
  rw [w3] at hown
  have F : Fx D cA sz ex X p s m (as.map (cv sz ex)).toArray meth c j := ⟨B.exec, B.bytes, hml, hown, fun w hw => hts w (List.mem_cons_of_mem _ hw), fun hk => by rw [(name_of_methodNamed B.named B.method).1]; exact (w10 hk).1, hG, hE, B.notSynchronized, B.returns⟩
  rw [lg_entry_eq]
  have hlocks := B.notSynchronized
  have hx := B.exec
  have hb := B.bytes
  have hrt := B.returns
  have K := hP d j 0 (as ++ List.replicate (mMax j - mNa j) unset0) [] h r h' hr p e (headSpec (Wm j) (rmd d (h'.1.1 - h.1.1) (slt h'.1 - slt h.1))).room s m (as.map (cv sz ex)).toArray below meth c (MQ below (Qk D cA sz ex r h') (as.map (cv sz ex)).toArray s (h'.1.1 - h.1.1) (slt h'.1 - slt h.1) (fun q => sz ≤ q)) h.1.1 (slt h.1) F (Nat.le_refl _) (Nat.le_refl _) (Nat.le_refl _) (Nat.le_refl _) (Nat.le_refl _) (Nat.le_refl _) (by
      intro H locs ls pc hR' hS'
      refine ⟨fun v ty e1 e2 e3 e4 hd => ?_, fun e1 e2 hd => ?_⟩
      · subst e1
        exact W.zret hx hb (by rw [hrt]; exact e2) e3 (fun t ht hW => ⟨rfl, by rw [ht]; exact hR', hS'.F ht⟩) hS'.2.2 hd
      · subst e1
        exact W.vret hx hb (by rw [hrt]; exact e2) (fun t ht hW => ⟨rfl, by rw [ht]; exact hR', hS'.F ht⟩) hS'.2.2 hd)
  have hL := Lc.entry (sz := sz) (ex := ex) (as := as) (n := mMax j) (by rw [hn]; exact w5.2) h1
  rw [hn] at hL
  have := K s.heap [] _ hR va_S.rf hL
  rw [Nat.sub_self, Nat.sub_self] at this
  exact this
set_option maxRecDepth 100000 in
theorem w_oiM : Cond.instanceMethod Lib.objectInit ∈ TBg := tbg (tblAt_mem (p := 1027) (by decide +kernel)) rfl
set_option maxRecDepth 100000 in
theorem w_oiC : Cond.code Lib.objectInit ⟨#[0xb1]⟩ 1 none ∈ TBg := tbg (tblAt_mem (p := 1028) (by rfl)) rfl
set_option maxRecDepth 100000 in
theorem w_mxS : Cond.static Lib.Math.max.name ∈ TBg := tbg (tblAt_mem (p := 3133) (by decide +kernel)) rfl
set_option maxRecDepth 100000 in
theorem w_mxI : Cond.initialized "java/lang/Math" ∈ TBg := tbg (tblAt_mem (p := 1015) (by decide +kernel)) rfl
set_option maxRecDepth 100000 in
theorem w_mxC : Cond.code Lib.Math.max.name Lib.Math.max.code 2 (some .int) ∈ TBg := tbg (tblAt_mem (p := 3134) (by rfl)) rfl
/-- the two laws of String that are used: of a String constant -/
def StrOK (l : Launch) (D : va_G) (cA : Nat → ClassId) (sz : Nat) (ex : Nat → Nat) (X : Xt) : Prop :=
  ∀ (p : Program) (e : Env) (R : Room) (s : State) (m : MethodId) (args : Array Value) (below : List Frame) (meth : Method) (c : Code) (Q : State → Prop) (mi pc idx a : Nat) (ls : Array Slot) (rest : List Value) (h : Hp) (H : Heap) (locs : List Loc) (cells slots : Nat), Fx D cA sz ex X p s m args meth c mi → Rp D cA sz ex h H → va_S (fun q => sz ≤ q) s.heap H locs → 1000001 ≤ a → a < 1000004 → 6 ≤ R.frames → 384 ≤ R.locals → cells ≤ R.cells → slots ≤ R.slots → (rest.map fun v => v.category).sum ≤ 8 → ls.size = mMax mi → decode (bt mi) pc = .ok (.invokevirtual idx, 3) →
    (Cond.methodLink (oN (mCo mi)) idx strLenN ∈ TBg → (∀ (H1 : Heap) (locs1 : List Loc), Rp D cA sz ex h H1 → va_S (fun q => sz ≤ q) s.heap H1 locs1 → W p l e R s m args below meth c H1 locs1 cells slots Q (F0 m (pc + 3) ls (.int (Int32.ofNat (strs.getD (a - 1000001) []).length) :: rest))) → W p l e R s m args below meth c H locs cells slots Q (F0 m pc ls (.ref (adr sz ex a) :: rest))) ∧
    (Cond.methodLink (oN (mCo mi)) idx strAtN ∈ TBg → ∀ i : Int32, vp_in i (strs.getD (a - 1000001) []).length → (∀ (H1 : Heap) (locs1 : List Loc), Rp D cA sz ex h H1 → va_S (fun q => sz ≤ q) s.heap H1 locs1 → W p l e R s m args below meth c H1 locs1 cells slots Q (F0 m (pc + 3) ls (.int ((strs.getD (a - 1000001) []).getD i.toNatClampNeg 0) :: rest))) → W p l e R s m args below meth c H locs cells slots Q (F0 m pc ls (.int i :: .ref (adr sz ex a) :: rest)))
section RunS
variable {p : Program} {l : Launch} {e : Env} {R : Room} {s : State} {m : MethodId} {args : Array Value} {below : List Frame} {meth : Method} {c : Code} {Q : State → Prop}
variable {D : va_G} {cA : Nat → ClassId} {sz : Nat} {ex : Nat → Nat} {X : Xt} {mi c0 s0 pc : Nat} {loc st st' : List Value} {h h' : Hp}
theorem jdk_ok (hSt : StrOK l D cA sz ex X) (F : Fx D cA sz ex X p s m args meth c mi) {j idx na ne : Nat} (hml : ml (mCo mi) idx = some (j, na, ne)) (hj : 1000 ≤ j) (hd : decode (bt mi) pc = .ok (cin (bko j) idx, 3)) (hrest : ((st.drop na).map (fun v => v.category)).sum ≤ 8) (h6 : 6 ≤ R.frames) (hlo : 384 ≤ R.locals) (hcel : h'.1.1 - c0 ≤ R.cells) (hslo : slt h'.1 - s0 ≤ R.slots)
    (hs : jdk j st h = some (st', h')) (kk : Wc p l e R s m args below meth c Q D cA sz ex mi c0 s0 (pc + 3) loc st' h') : Wc p l e R s m args below meth c Q D cA sz ex mi c0 s0 pc loc st h := by
  obtain ⟨l1, -, l3, l4, l5⟩ := ml_ok hml
  have hne : ne = 0 := by
    by_cases q : ne = 0
    · exact q
    · have := (l5 q).1; omega
  have hlk := F.2.2.2.2.1 _ (l4 hne)
  have hcat : ∀ r : List Value, ((r.map (cv sz ex)).map fun v => v.category) = r.map (fun v => v.category) := by
    intro r
    rw [List.map_map]
    exact List.map_congr_left (fun v _ => cv_cat sz ex v)
  unfold jdk at hs
  split at hs
  · next b r =>
    cases hs
    intro H locs ls hR hS hL
    have hr : (st'.map (fun v => v.category)).sum ≤ 8 := by rw [l3] at hrest; exact hrest
    exact W.objInit F.1 F.2.1 F.2.2.2.1 hlk (F.2.2.2.2.1 _ w_oiM) (F.2.2.2.2.1 _ w_oiC) rfl (by rw [F.2.2.1]; exact hL.2.1) rfl hd (by omega) (by show 2 * 0 + ((st'.map (cv sz ex)).map fun v => v.category).sum + 12 ≤ _; rw [hcat]; omega) (kk H locs ls hR hS hL)
  · next n dp b sp a r =>
    split at hs
    · next hq =>
      cases hs
      intro H locs ls hR hS hL
      have hr : (st'.map (fun v => v.category)).sum ≤ 8 := by rw [l3] at hrest; exact hrest
      exact wcopy F hR hS (l4 hne) hq.1 hq.2.1 hq.2.2.1 hq.2.2.2.1 hq.2.2.2.2.1 hq.2.2.2.2.2.1 hq.2.2.2.2.2.2 hL.2.1 (by omega) (by rw [hcat]; omega) hd (fun H' locs' hR' hS' => kk H' locs' ls hR' hS' hL)
    · cases hs
  · next a r =>
    split at hs
    · next hq =>
      cases hs
      intro H locs ls hR hS hL
      have hr : (r.map (fun v => v.category)).sum ≤ 8 := by rw [l3] at hrest; exact hrest
      exact (hSt p e R s m args below meth c Q mi pc idx a ls (r.map (cv sz ex)) h H locs _ _ F hR hS hq.1 hq.2 h6 hlo hcel hslo (by rw [hcat]; exact hr) hL.2.1 hd).1 (l4 hne) (fun H1 locs1 hR1 hS1 => kk H1 locs1 ls hR1 hS1 hL)
    · cases hs
  · next i a r =>
    split at hs
    · next hq =>
      cases hs
      intro H locs ls hR hS hL
      have hr : (r.map (fun v => v.category)).sum ≤ 8 := by rw [l3] at hrest; exact hrest
      exact (hSt p e R s m args below meth c Q mi pc idx a ls (r.map (cv sz ex)) h H locs _ _ F hR hS hq.1 hq.2.1 h6 hlo hcel hslo (by rw [hcat]; exact hr) hL.2.1 hd).2 (l4 hne) i (inbB_iff.mp hq.2.2) (fun H1 locs1 hR1 hS1 => kk H1 locs1 ls hR1 hS1 hL)
    · cases hs
  · next y x r =>
    cases hs
    intro H locs ls hR hS hL
    have hr : (r.map (fun v => v.category)).sum ≤ 8 := by rw [l3] at hrest; exact hrest
    exact va_mmax F.1 F.2.1 (by rw [F.2.2.1]; exact hL.2.1.symm) F.2.2.2.1 hlk (F.2.2.2.2.1 _ w_mxS) (F.2.2.2.2.1 _ w_mxI) (F.2.2.2.2.1 _ w_mxC) (by omega) (by rw [hcat]; omega) hcel hslo hd (kk H locs ls hR hS hL)
  · cases hs
theorem cko_cin {ins : Instr} {kd idx : Nat} (h : cko ins = some (kd, idx)) : ins = cin kd idx ∧ kd ≤ 2 := by
  unfold cko at h
  split at h
  · cases h; exact ⟨rfl, by decide⟩
  · cases h; exact ⟨rfl, by decide⟩
  · cases h; exact ⟨rfl, by decide⟩
  · cases h
theorem run_ok (hSt : StrOK l D cA sz ex X) : ∀ n : Nat, RunOK l D cA sz ex X n := by
  intro n
  induction n with
  | zero => intro d mi pc loc st h r h' hr; rw [run] at hr; cases hr
  | succ n ih =>
    intro d mi pc loc st h r h' hr p e R s m args below meth c Q c0 s0 F hdf hdl hcel hslo hc0 hs0 hfin
    have hr0 := hr
    rw [run] at hr
    split at hr
    · cases hr
    · next ins len hcd =>
      have hd := cd_ok hcd
      split at hr
      · next kd idx hk =>
        obtain ⟨hin, hk2⟩ := cko_cin hk
        split at hr
        · cases hr
        · next j na ne hml =>
          split at hr
          · next hg =>
            obtain ⟨g1, g2, g3, g4⟩ := hg
            rw [g1, hin] at hd
            split at hr
            · next hj =>
              split at hr
              · next hb =>
                split at hr
                · cases hr
                · next st1 h1 hjk =>
                  have hm := jdk_mono hjk
                  have hmo := run_mono X _ _ _ _ _ _ _ _ _ hr
                  rw [hb.1] at hd
                  refine jdk_ok hSt F hml hj hd g3 (by omega) (by omega) (by omega) (by omega) hjk ?_
                  exact ih _ _ _ _ _ _ _ _ hr p e R s m args below meth c Q c0 s0 F hdf hdl hcel hslo (by rw [hm]; exact hc0) (by rw [hm]; exact hs0) hfin
              · cases hr
            · next hj =>
              split at hr
              · next hb =>
                split at hr
                · cases hr
                · next d1 =>
                  split at hr
                  · cases hr
                  · next r1 h1 hc =>
                    obtain ⟨-, l2, l3, -, -⟩ := ml_ok hml
                    have hj4 : j < 324 := l2 (by omega)
                    have eN : na = mNa j := by rw [l3]; exact if_pos (by omega)
                    have hlen : (st.take na).reverse.length = na := by simp; omega
                    have hm1 := run_mono X _ _ _ _ _ _ _ _ _ hc
                    have hm2 := run_mono X _ _ _ _ _ _ _ _ _ hr
                    have hcats : ∀ v ∈ (st.take na).reverse, v.category = 1 := by
                      intro v hv
                      have := List.all_eq_true.mp g4 v (List.mem_reverse.mp hv)
                      simpa using this
                    have ct : CT l D cA sz ex X d1 j (st.take na).reverse h r1 h1 := ct_of ih hj4 (by rw [hlen, eN]) hcats (by rw [← eN]; exact hc)
                    have K := ih _ _ _ _ _ _ _ _ hr p e R s m args below meth c Q c0 s0 F hdf hdl hcel hslo (by omega) (by omega) hfin
                    intro H locs ls hR hS hL
                    rw [hb.1] at hd
                    have hsp : st.map (cv sz ex) = ((st.take na).reverse.map (cv sz ex)).reverse ++ (st.drop na).map (cv sz ex) := by
                      rw [← List.map_reverse, List.reverse_reverse, ← List.map_append, List.take_append_drop]
                    rw [hsp]
                    refine wcall F hR hS hml (by omega) hlen hb.2 ct (by omega) (by omega) (by omega) (by omega) ?_ hL.2.1 hd (fun H1 locs1 hR1 hS1 => ?_)
                    · have e2 : ((st.drop na).map (cv sz ex)).map (fun v => v.category) = (st.drop na).map (fun v => v.category) := by
                        rw [List.map_map]
                        exact List.map_congr_left (fun v _ => cv_cat sz ex v)
                      rw [e2]
                      exact g3
                    · have := K H1 locs1 ls hR1 hS1 hL
                      rw [show h.1.1 - c0 + (h1.1.1 - h.1.1) = h1.1.1 - c0 by omega, show slt h.1 - s0 + (slt h1.1 - slt h.1) = slt h1.1 - s0 by omega]
                      rw [List.map_append] at this
                      have e1 : (r1.map (cv sz ex)).toList = r1.toList.map (cv sz ex) := by cases r1 <;> rfl
                      rw [e1]
                      exact this
              · cases hr
          · cases hr
      · split at hr
        · next v _ =>
          split at hr
          · next ty hty =>
            split at hr
            · next hg =>
              cases hr
              intro H locs ls hR hS hL
              rw [hg.1] at hd
              exact (hfin H locs ls pc hR hS).1 v ty rfl hty hg.2.1 hg.2.2 hd
            · cases hr
          · cases hr
        · split at hr
          · next hty =>
            split at hr
            · next hg =>
              cases hr
              intro H locs ls hR hS hL
              rw [hg] at hd
              exact (hfin H locs ls pc hR hS).2 rfl hty hd
            · cases hr
          · cases hr
        · split at hr
          · cases hr
          · next pc1 loc1 st1 h1 hst =>
            have a1 := stp_mono hst
            have a2 := run_mono X _ _ _ _ _ _ _ _ _ hr
            exact stp_ok F hd hc0 hs0 (by omega) (by omega) hst (ih _ _ _ _ _ _ _ _ hr p e R s m args below meth c Q c0 s0 F hdf hdl hcel hslo (by omega) (by omega) hfin)
end RunS
