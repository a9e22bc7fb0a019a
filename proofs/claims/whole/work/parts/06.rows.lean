/-! the machine's rows over the pure heap -/
def Fx (D : va_G) (cA : Nat → ClassId) (sz : Nat) (ex : Nat → Nat) (X : Xt) (p : Program) (s : State) (m : MethodId) (args : Array Value) (meth : Method) (c : Code) (mi : Nat) : Prop :=
  p.tables.exec = Jvm.exec ∧ c.code = bt mi ∧ c.maxLocals = mMax mi ∧ s.vm.findClass (oN (mCo mi)) = some m.cls ∧ (∀ w ∈ TBg, w.before args s = true) ∧ (mKind mi = 2 → meth.name = "<init>") ∧ GX D cA ex s ∧ EXH sz ex X s s.heap ∧ meth.locks = false ∧ meth.sig.returnType = mRet mi
theorem nar_b (x : Int32) : narrow .byte (.int x) = .int (vp_nar .byte x) := rfl
theorem nar_z (x : Int32) : narrow .boolean (.int x) = .int (vp_nar .boolean x) := rfl
theorem nar_c (x : Int32) : narrow .char (.int x) = .int (vp_nar .char x) := rfl
theorem ref_fits {ty : FieldType} (h : isRf ty = true) (b : Nat) : narrow ty (.ref b) = .ref b ∧ fits ty (.ref b) = true := by
  cases ty <;> first | exact ⟨rfl, rfl⟩ | cases h
theorem tag20 {t : Nat} (h1 : 20 ≤ t) (h2 : t < 24) : okT t = true := by
  unfold okT; simp; omega
theorem tag33 {t : Nat} (h1 : 33 ≤ t) (h2 : t < 37) : okT t = true := by
  unfold okT; simp; omega
section RowsA
variable {p : Program} {l : Launch} {e : Env} {R : Room} {s : State} {m : MethodId} {args : Array Value} {below : List Frame} {meth : Method} {c : Code} {H : Heap} {locs : List Loc} {cells slots : Nat} {Q : State → Prop}
variable {D : va_G} {cA : Nat → ClassId} {sz : Nat} {ex : Nat → Nat} {X : Xt} {mi pc : Nat} {ls : Array Slot} {rest : List Value} {h h' : Hp}
theorem Rp.obj (hR : Rp D cA sz ex h H) {a ci : Nat} (ht : (hC h.1 a).1 = ci) (hci : ci < 13) : a < h.1.1 ∧ hC h.1 a = h.1.2 a ∧ va_at D classes (sz + a, .inr (ci, (List.range (nF ci)).map (fV sz ex ci (hC h.1 a).2.2 (h.2 a)))) H := by
  have ha : a < h.1.1 := hC_lt (by rw [ht]; omega)
  have e := hC_eq ha
  have h1 := hR.2.2.1 a ha
  rw [← e] at h1
  unfold ceE at h1
  rw [ht, if_pos (by omega)] at h1
  exact ⟨ha, e, h1⟩
theorem Rp.arr (hR : Rp D cA sz ex h H) {a t : Nat} (ht : (hC h.1 a).1 = t) (h1 : 20 ≤ t) (h2 : t < 30) : a < h.1.1 ∧ hC h.1 a = h.1.2 a ∧ H[sz + a]? = some (arrV (cA t) (hC h.1 a).2.1 (fun j => .int (h.2 a j))) := by
  have ha : a < h.1.1 := hC_lt (by rw [ht]; omega)
  have e := hC_eq ha
  have h3 := hR.2.2.1 a ha
  rw [← e] at h3
  unfold ceE at h3
  rw [ht, if_neg (by omega), if_pos h2] at h3
  exact ⟨ha, e, h3⟩
theorem Rp.arq (hR : Rp D cA sz ex h H) {a t : Nat} (ht : (hC h.1 a).1 = t) (h1 : 30 ≤ t) (h2 : t < 99) : a < h.1.1 ∧ hC h.1 a = h.1.2 a ∧ H[sz + a]? = some (arrV (cA t) (hC h.1 a).2.1 (fun j => va_rf (((hC h.1 a).2.2 j).map (adr sz ex)))) := by
  have ha : a < h.1.1 := hC_lt (by rw [ht]; omega)
  have e := hC_eq ha
  have h3 := hR.2.2.1 a ha
  rw [← e] at h3
  unfold ceE at h3
  rw [ht, if_neg (by omega), if_neg (by omega)] at h3
  exact ⟨ha, e, h3⟩
theorem adr_in (hR : Rp D cA sz ex h H) {a : Nat} (ha : a < h.1.1) : adr sz ex a = sz + a := adr_own (by have := hR.2.1; omega)
theorem wget (F : Fx D cA sz ex X p s m args meth c mi) (hR : Rp D cA sz ex h H) {a idx ci k : Nat} (hf : fl (mCo mi) idx = some (ci, k)) (ht : (hC h.1 a).1 = ci) (hd : decode (bt mi) pc = .ok (.getfield idx, 3))
    (kk : W p l e R s m args below meth c H locs cells slots Q (F0 m (pc + 3) ls (fV sz ex ci (hC h.1 a).2.2 (h.2 a) k :: rest))) : W p l e R s m args below meth c H locs cells slots Q (F0 m pc ls (.ref (adr sz ex a) :: rest)) := by
  obtain ⟨hx, hb, -, hown, hts, -, hG, -⟩ := F
  obtain ⟨f1, f2, f3⟩ := fl_ok hf
  obtain ⟨o1, o2, o3, -, -, -⟩ := ob_ok f3
  obtain ⟨ha, -, hat⟩ := hR.obj ht f3
  rw [adr_in hR ha]
  refine va_get (D := D) (cl := classes) (tys := []) (ws := [(sz + a, .inr (ci, (List.range (nF ci)).map (fV sz ex ci (hC h.1 a).2.2 (h.2 a))))]) hx hb hts o3 hown hG.1 (fun k q hk => ?_) 0 rfl (cls_at f3) k f2 (hts _ f1) (fun _ z => z) (v := fV sz ex ci (hC h.1 a).2.2 (h.2 a) k) ?_ hd kk
  · cases k with
    | zero => cases hk; exact hat
    | succ k => simp at hk
  · rw [List.getElem?_map, List.getElem?_range f2]; rfl
theorem wput (F : Fx D cA sz ex X p s m args meth c mi) (hR : Rp D cA sz ex h H) (hS : va_S (fun q => sz ≤ q) s.heap H locs) {a idx ci k : Nat} (hf : fl (mCo mi) idx = some (ci, k)) (ht : (hC h.1 a).1 = ci) (hmay : mayF (mCo mi) ci k (mKind mi == 2) = true) {v : Value} (hn : narrow (fty ci k) v = v) (hfit : fits (fty ci k) v = true) (hd : decode (bt mi) pc = .ok (.putfield idx, 3))
    (hn' : h'.1.1 = h.1.1) (ho : ∀ j, j < h.1.1 → j ≠ a → h'.1.2 j = h.1.2 j ∧ h'.2 j = h.2 j) (hz : ∀ j, h.1.1 ≤ j → h'.2 j = h.2 j) (hce : ceE sz ex cA (h'.1.2 a) (h'.2 a) = .inr (ci, ((List.range (nF ci)).map (fV sz ex ci (hC h.1 a).2.2 (h.2 a))).set k v))
    (kk : ∀ (H' : Heap) (locs' : List Loc), Rp D cA sz ex h' H' → va_S (fun q => sz ≤ q) s.heap H' locs' → W p l e R s m args below meth c H' locs' cells slots Q (F0 m (pc + 3) ls rest)) : W p l e R s m args below meth c H locs cells slots Q (F0 m pc ls (v :: .ref (adr sz ex a) :: rest)) := by
  obtain ⟨hx, hb, -, hown, hts, hini, hG, -⟩ := F
  obtain ⟨f1, f2, f3⟩ := fl_ok hf
  obtain ⟨o1, o2, o3, o4, o5, o6⟩ := ob_ok f3
  obtain ⟨ha, -, hat⟩ := hR.obj ht f3
  rw [adr_in hR ha]
  have hc := cls_at f3
  have hap := va_apart (own := oN (mCo mi)) hts o3 (fty ci) o4 o6 hG.1 hc
  obtain ⟨r, h1, cell, q1, q2, q3, q4⟩ := hat
  have hr : r = (oN ci, fTs ci, nF ci) := Option.some.inj (h1.symm.trans hc)
  subst hr
  obtain ⟨hSl, hfc, kC, hkC, hkind⟩ := hG.1.1 ci _ hc
  obtain ⟨cf, kf, fi, f, hi, hsl⟩ := hSl k f2
  have hlay := hts _ (o3 _ (u_in_lay f2))
  have hst := (u_facts hfc hkC (u_lays hts o3 f2) hi).1
  have fin : ∀ H' : Heap, H'[sz + a]? = some (cell.setSlot f.slot v) → H'.size = H.size → (∀ q, q ≠ sz + a → H'[q]? = H[q]?) → W p l e R s m args below meth c H' (locs ++ [⟨sz + a, f.slot⟩]) cells slots Q (F0 m (pc + 3) ls rest) := by
    intro H' e1 e2 e3
    refine kk H' _ (hR.upd ha hn' ho hz ?_ e2 e3) (hS.put e2 e3 (Nat.le_add_right _ _))
    rw [hce]
    rw [hsl] at e1
    exact ⟨_, hc, t_OB.to (V := updV (vp_V _) k v) ⟨_, e1, q2, q3, t_set q4 hap f2 v⟩ (fun j _ => vp_updV_set (by simpa using f2) v j)⟩
  by_cases hfin : (fTs ci k).2.2.2 = true
  · unfold mayF at hmay
    rw [if_pos hfin] at hmay
    simp only [Bool.and_eq_true, beq_iff_eq, decide_eq_true_eq] at hmay
    unfold u_lay at hlay
    rw [if_pos hfin] at hlay
    have hcf : m.cls = cf := by
      obtain ⟨_, _, c', _, _, _, -, -, hf', -, -, -, hown2, -⟩ := Cond.laysFinal_spec hlay
      have e1 : c' = cf := by have := hi.symm.trans hf'; simp at this; exact this.1.symm
      rw [o5 k f2, ← hmay.2] at hown2
      rw [← e1]; exact Option.some.inj (hown.symm.trans hown2)
    have h6 := u_fits hfc hkC hkind (Or.inr hlay) hi (o4 k f2) hn hfit
    exact W.putFinK hx hb hown (hts _ f1) hi hst hcf (hini hmay.1) (by rw [q2]; exact h6) q1 q3 (by rw [hsl]; exact k2_hasslot (q4 k f2)) rfl rfl hd fin
  · unfold u_lay at hlay
    rw [if_neg hfin] at hlay
    have h6 := u_store hfc hkC hkind hlay hi (o4 k f2) hn hfit
    exact W.putK hx hb (f := f) ⟨hown, hts _ f1, ⟨_, _, _, hi⟩, hst⟩ (by rw [q2]; exact h6) q1 q3 (by rw [hsl]; exact k2_hasslot (q4 k f2)) rfl rfl hd fin
theorem arr_of (F : Fx D cA sz ex X p s m args meth c mi) {t : Nat} (ht : okT t = true) (n : Nat) (z : Nat → Value) : s.isArrayOf (arrV (cA t) n z) (tyT t) := (F.2.2.2.2.2.2.1.2.1 t ht).1 n z
/-- what a read of one of our arrays needs -/
theorem ald (F : Fx D cA sz ex X p s m args meth c mi) (hR : Rp D cA sz ex h H) {a t : Nat} (ht : (hC h.1 a).1 = t) (h1 : 20 ≤ t) (h2 : t < 24) {i : Int32} (hin : vp_in i (hC h.1 a).2.1) :
    ∃ cell : Cell, H[adr sz ex a]? = some cell ∧ s.isArrayOf cell (tyT t) ∧ cell.vm ≠ .unknown ∧ ¬ (i < 0 ∨ cell.slots.size ≤ i.toNatClampNeg) ∧ cell.slots[i.toNatClampNeg]? = some (.int (h.2 a i.toNatClampNeg)) := by
  obtain ⟨ha, -, hc⟩ := hR.arr ht h1 (by omega)
  have hlt : i.toNatClampNeg < (hC h.1 a).2.1 := Nat.not_le.mp fun q => hin (Or.inr q)
  refine ⟨_, by rw [adr_in hR ha]; exact hc, arr_of F (tag20 h1 h2) _ _, (fun q => by cases q), ?_, ?_⟩
  · rw [arrV_size]; exact hin
  · rw [arrV_read _ _ hlt]
/-- behind a store into one of our arrays -/
theorem ast (hR : Rp D cA sz ex h H) (hS : va_S (fun q => sz ≤ q) s.heap H locs) {a t : Nat} (ht : (hC h.1 a).1 = t) (h1 : 20 ≤ t) (h2 : t < 24) {j : Nat} {x : Int32} {H' : Heap} (e1 : H'[sz + a]? = some ((arrV (cA t) (hC h.1 a).2.1 (fun j => .int (h.2 a j))).setSlot j (.int x))) (e2 : H'.size = H.size) (e3 : ∀ q, q ≠ sz + a → H'[q]? = H[q]?) :
    Rp D cA sz ex (h.1, up2 h.2 a j x) H' ∧ va_S (fun q => sz ≤ q) s.heap H' (locs ++ [⟨sz + a, j⟩]) := by
  obtain ⟨ha, eh, hc⟩ := hR.arr ht h1 (by omega)
  refine ⟨hR.upd ha rfl (fun i _ hi => ⟨rfl, if_neg hi⟩) (fun i hi => if_neg (by omega)) ?_ e2 e3, hS.put e2 e3 (Nat.le_add_right _ _)⟩
  show va_at D classes (sz + a, ceE sz ex cA (h.1.2 a) (up2 h.2 a j x a)) H'
  rw [← eh]
  unfold ceE
  rw [ht, if_neg (by omega), if_pos (by omega)]
  show H'[sz + a]? = some (vp_cell _ _)
  rw [e1, vp_cell_i, arrV_store]
  congr 2
  funext q
  rw [show up2 h.2 a j x a = upd (h.2 a) j x from if_pos rfl]
  by_cases hq : q = j
  · subst hq; simp [updV, upd]
  · simp [updV, upd, hq]
theorem wald (F : Fx D cA sz ex X p s m args meth c mi) (hR : Rp D cA sz ex h H) {a t : Nat} {i : Int32} (ht : (hC h.1 a).1 = t) (hin : vp_in i (hC h.1 a).2.1) {ins : Instr} (hti : (t = 20 ∧ ins = .iaload) ∨ (t = 21 ∧ ins = .baload) ∨ (t = 22 ∧ ins = .baload) ∨ (t = 23 ∧ ins = .caload)) (hd : decode (bt mi) pc = .ok (ins, 1))
    (kk : W p l e R s m args below meth c H locs cells slots Q (F0 m (pc + 1) ls (.int (h.2 a i.toNatClampNeg) :: rest))) : W p l e R s m args below meth c H locs cells slots Q (F0 m pc ls (.int i :: .ref (adr sz ex a) :: rest)) := by
  obtain ⟨cell, g1, g2, g3, g4, g5⟩ := ald F hR ht (by omega) (by omega) hin
  rcases hti with ⟨rfl, rfl⟩ | ⟨rfl, rfl⟩ | ⟨rfl, rfl⟩ | ⟨rfl, rfl⟩
  · exact W.iald F.1 F.2.1 g1 g2 g3 g4 g5 rfl rfl hd kk
  · exact W.bald F.1 F.2.1 g1 g2 g3 g4 g5 rfl rfl hd kk
  · exact W.zald F.1 F.2.1 g1 g2 g3 g4 g5 rfl rfl hd kk
  · exact W.cald F.1 F.2.1 g1 g2 g3 g4 g5 rfl rfl hd kk
theorem wast (F : Fx D cA sz ex X p s m args meth c mi) (hR : Rp D cA sz ex h H) (hS : va_S (fun q => sz ≤ q) s.heap H locs) {a t : Nat} {i x : Int32} (ht : (hC h.1 a).1 = t) (hin : vp_in i (hC h.1 a).2.1) {ins : Instr} {f : Int32 → Int32} (hti : (t = 20 ∧ ins = .iastore ∧ f = fun x => x) ∨ (t = 21 ∧ ins = .bastore ∧ f = vp_nar .byte) ∨ (t = 22 ∧ ins = .bastore ∧ f = vp_nar .boolean) ∨ (t = 23 ∧ ins = .castore ∧ f = vp_nar .char)) (hd : decode (bt mi) pc = .ok (ins, 1))
    (kk : ∀ (H' : Heap) (locs' : List Loc), Rp D cA sz ex (h.1, up2 h.2 a i.toNatClampNeg (f x)) H' → va_S (fun q => sz ≤ q) s.heap H' locs' → W p l e R s m args below meth c H' locs' cells slots Q (F0 m (pc + 1) ls rest)) : W p l e R s m args below meth c H locs cells slots Q (F0 m pc ls (.int x :: .int i :: .ref (adr sz ex a) :: rest)) := by
  obtain ⟨ha, eh, hc⟩ := hR.arr ht (by omega) (by omega)
  have hlt : ¬ (i < 0 ∨ (arrV (cA t) (hC h.1 a).2.1 (fun j => .int (h.2 a j))).slots.size ≤ i.toNatClampNeg) := by rw [arrV_size]; exact hin
  have hA := arr_of F (t := t) (tag20 (by omega) (by omega)) (hC h.1 a).2.1 (fun j => .int (h.2 a j))
  rw [adr_in hR ha]
  have key : ∀ y : Int32, (∀ H' : Heap, H'[sz + a]? = some ((arrV (cA t) (hC h.1 a).2.1 (fun j => .int (h.2 a j))).setSlot i.toNatClampNeg (.int y)) → H'.size = H.size → (∀ q, q ≠ sz + a → H'[q]? = H[q]?) → y = f x → W p l e R s m args below meth c H' (locs ++ [⟨sz + a, i.toNatClampNeg⟩]) cells slots Q (F0 m (pc + 1) ls rest)) := by
    intro y H' e1 e2 e3 hy
    subst hy
    obtain ⟨k1, k2⟩ := ast hR hS ht (by omega) (by omega) e1 e2 e3
    exact kk H' _ k1 k2
  rcases hti with ⟨rfl, rfl, rfl⟩ | ⟨rfl, rfl, rfl⟩ | ⟨rfl, rfl, rfl⟩ | ⟨rfl, rfl, rfl⟩
  · exact W.iast F.1 F.2.1 hc hA (fun q => by cases q) hlt rfl rfl hd (fun H' e1 e2 e3 => key x H' e1 e2 e3 rfl)
  · exact W.bast F.1 F.2.1 hc hA (fun q => by cases q) hlt rfl rfl hd (fun H' e1 e2 e3 => key _ H' e1 e2 e3 rfl)
  · exact W.zast F.1 F.2.1 hc hA (fun q => by cases q) hlt rfl rfl hd (fun H' e1 e2 e3 => key _ H' e1 e2 e3 rfl)
  · exact W.cast F.1 F.2.1 hc hA (fun q => by cases q) hlt rfl rfl hd (fun H' e1 e2 e3 => key _ H' e1 e2 e3 rfl)
theorem ty33 {t : Nat} (h1 : 33 ≤ t) : tyT t = .object (oN (t - 30)) := by
  unfold tyT
  rw [if_neg (by omega), if_neg (by omega), if_neg (by omega), if_neg (by omega)]
theorem waald (F : Fx D cA sz ex X p s m args meth c mi) (hR : Rp D cA sz ex h H) {a : Nat} {i : Int32} (h1 : 33 ≤ (hC h.1 a).1) (h2 : (hC h.1 a).1 < 37) (hin : vp_in i (hC h.1 a).2.1) (hd : decode (bt mi) pc = .ok (.aaload, 1))
    (kk : W p l e R s m args below meth c H locs cells slots Q (F0 m (pc + 1) ls (cv sz ex (rvl ((hC h.1 a).2.2 i.toNatClampNeg)) :: rest))) : W p l e R s m args below meth c H locs cells slots Q (F0 m pc ls (.int i :: .ref (adr sz ex a) :: rest)) := by
  obtain ⟨ha, eh, hc⟩ := hR.arq (a := a) rfl (by omega) (by omega)
  have hlt : i.toNatClampNeg < (hC h.1 a).2.1 := Nat.not_le.mp fun q => hin (Or.inr q)
  have hA := arr_of F (t := (hC h.1 a).1) (tag33 h1 h2) (hC h.1 a).2.1 (fun j => va_rf (((hC h.1 a).2.2 j).map (adr sz ex)))
  rw [ty33 h1] at hA
  rw [adr_in hR ha]
  rw [cv_rvl] at kk
  exact W.aald (ty := .object (oN ((hC h.1 a).1 - 30))) F.1 F.2.1 hc hA rfl (fun q => by cases q) (by rw [arrV_size]; exact hin) (by rw [arrV_read _ _ hlt]) rfl rfl hd kk
theorem waast (F : Fx D cA sz ex X p s m args meth c mi) (hR : Rp D cA sz ex h H) (hS : va_S (fun q => sz ≤ q) s.heap H locs) {a b : Nat} {i : Int32} (h1 : 33 ≤ (hC h.1 a).1) (h2 : (hC h.1 a).1 < 37) (hb : (hC h.1 b).1 + 30 = (hC h.1 a).1) (hin : vp_in i (hC h.1 a).2.1) (hd : decode (bt mi) pc = .ok (.aastore, 1))
    (kk : ∀ (H' : Heap) (locs' : List Loc), Rp D cA sz ex (shR h.1 a i.toNatClampNeg b, h.2) H' → va_S (fun q => sz ≤ q) s.heap H' locs' → W p l e R s m args below meth c H' locs' cells slots Q (F0 m (pc + 1) ls rest)) : W p l e R s m args below meth c H locs cells slots Q (F0 m pc ls (.ref (adr sz ex b) :: .int i :: .ref (adr sz ex a) :: rest)) := by
  obtain ⟨ha, eh, hc⟩ := hR.arq (a := a) rfl (by omega) (by omega)
  obtain ⟨hbl, eb, hob⟩ := hR.obj (a := b) (ci := (hC h.1 a).1 - 30) (by omega) (by omega)
  have hlt : i.toNatClampNeg < (hC h.1 a).2.1 := Nat.not_le.mp fun q => hin (Or.inr q)
  have h0 : ¬ i < 0 := fun q => hin (Or.inl q)
  have hG := F.2.2.2.2.2.2.1
  have hcl := cls_at (c := (hC h.1 a).1 - 30) (by omega)
  obtain ⟨r', hr', cellV, g1, g2, g3, -⟩ := hob
  have hcls := (hG.1.1 _ _ hcl).2
  have hRA := (hG.2.1 _ (tag33 h1 h2)).2
  rw [ty33 h1] at hRA
  obtain ⟨kA, comp, k1, k2, k3, -⟩ := hRA
  have hcomp : comp = D.1 ((hC h.1 a).1 - 30) := Option.some.inj (k3.symm.trans hcls.1)
  subst hcomp
  obtain ⟨kC, hkC, -⟩ := hcls.2
  rw [adr_in hR ha, adr_in hR hbl]
  refine W.aast F.1 F.2.1 hc (fun q h => by cases h) (fun h => by cases h) k1 k2 rfl hkC ⟨h0, by rw [arrV_size]; exact hlt⟩ g1 (fun q h => by rw [g3] at h; cases h) (by rw [g2]; exact hkC) (by rw [g2]; exact va_assign hcls) rfl rfl hd fun H' e1 e2 e3 => ?_
  refine kk H' _ (hR.upd ha rfl (fun j _ hj => ⟨if_neg hj, rfl⟩) (fun _ _ => rfl) ?_ e2 e3) (hS.put e2 e3 (Nat.le_add_right _ _))
  have e4 : (shR h.1 a i.toNatClampNeg b).2 a = ((h.1.2 a).1, (h.1.2 a).2.1, fun q => if q = i.toNatClampNeg then some b else (h.1.2 a).2.2 q) := if_pos rfl
  show va_at D classes (sz + a, ceE sz ex cA ((shR h.1 a i.toNatClampNeg b).2 a) (h.2 a)) H'
  rw [e4, ← eh]
  unfold ceE
  rw [if_neg (by show ¬ (hC h.1 a).1 < 20; omega), if_neg (by show ¬ (hC h.1 a).1 < 30; omega)]
  show H'[sz + a]? = some (vp_cell _ _)
  rw [e1, vp_cell_q, arrV_store]
  congr 2
  funext q
  by_cases hq : q = i.toNatClampNeg
  · subst hq
    simp [updV, va_rf, adr_in hR hbl]
  · simp [updV, hq]
end RowsA
