/-! String.length and String.charAt of a String constant -/
def JC (l : Launch) (sz : Nat) (ex : Nat → Nat) (X : Xt) (y : MethodName) (bytes : ByteArray) (maxL : Nat) (ret : Option FieldType) (d : Nat) (as : List Value) (rv : Option Value) : Prop :=
  Met l y (Cond.code y bytes maxL ret :: TBg) (rmd d 0 0) (va_Pc as (fun U => EXH sz ex X U U.heap)) (fun _ st o t => o = .returned rv ∧ t.heap = st.heap) 0 0 (fun _ => False)
def yCoder : MethodName := ⟨"java/lang/String", "coder", "()B"⟩
def yIsL : MethodName := ⟨"java/lang/String", "isLatin1", "()Z"⟩
def yLAt : MethodName := ⟨"java/lang/StringLatin1", "charAt", "([BI)C"⟩
def yChk : MethodName := ⟨"java/lang/String", "checkIndex", "(II)V"⟩
def yPre : MethodName := ⟨"jdk/internal/util/Preconditions", "checkIndex", "(IILjava/util/function/BiFunction;)I"⟩
set_option maxRecDepth 100000 in
theorem w_cLen : Cond.code strLenN prog_17_method_54_code 1 (some .int) ∈ TBg := tbg (tblAt_mem (p := 4006) (by rfl)) rfl
set_option maxRecDepth 100000 in
theorem w_mLen : Cond.instanceMethod strLenN ∈ TBg := tbg (tblAt_mem (p := 4004) (by decide +kernel)) rfl
set_option maxRecDepth 100000 in
theorem w_eLen : Cond.selects "java/lang/String" strLenN strLenN ∈ TBg := tbg (tblAt_mem (p := 4005) (by decide +kernel)) rfl
set_option maxRecDepth 100000 in
theorem w_cAt : Cond.code strAtN prog_17_method_56_code 2 (some .char) ∈ TBg := tbg (tblAt_mem (p := 4016) (by rfl)) rfl
set_option maxRecDepth 100000 in
theorem w_mAt : Cond.instanceMethod strAtN ∈ TBg := tbg (tblAt_mem (p := 4014) (by decide +kernel)) rfl
set_option maxRecDepth 100000 in
theorem w_eAt : Cond.selects "java/lang/String" strAtN strAtN ∈ TBg := tbg (tblAt_mem (p := 4015) (by decide +kernel)) rfl
set_option maxRecDepth 100000 in
theorem w_cCod : Cond.code yCoder prog_17_method_152_code 1 (some .byte) ∈ TBg := tbg (tblAt_mem (p := 4010) (by rfl)) rfl
set_option maxRecDepth 100000 in
theorem w_mCod : Cond.instanceMethod yCoder ∈ TBg := tbg (tblAt_mem (p := 4008) (by decide +kernel)) rfl
set_option maxRecDepth 100000 in
theorem w_eCod : Cond.selects "java/lang/String" yCoder yCoder ∈ TBg := tbg (tblAt_mem (p := 4009) (by decide +kernel)) rfl
set_option maxRecDepth 100000 in
theorem w_cIsl : Cond.code yIsL prog_17_method_154_code 1 (some .boolean) ∈ TBg := tbg (tblAt_mem (p := 4020) (by rfl)) rfl
set_option maxRecDepth 100000 in
theorem w_mIsl : Cond.instanceMethod yIsL ∈ TBg := tbg (tblAt_mem (p := 4018) (by decide +kernel)) rfl
set_option maxRecDepth 100000 in
theorem w_eIsl : Cond.selects "java/lang/String" yIsL yIsL ∈ TBg := tbg (tblAt_mem (p := 4019) (by decide +kernel)) rfl
set_option maxRecDepth 100000 in
theorem w_cLat : Cond.code yLAt prog_18_method_2_code 2 (some .char) ∈ TBg := tbg (tblAt_mem (p := 4023) (by rfl)) rfl
set_option maxRecDepth 100000 in
theorem w_sLat : Cond.static yLAt ∈ TBg := tbg (tblAt_mem (p := 4022) (by decide +kernel)) rfl
set_option maxRecDepth 100000 in
theorem w_cChk : Cond.code yChk prog_17_method_155_code 2 none ∈ TBg := tbg (tblAt_mem (p := 4026) (by rfl)) rfl
set_option maxRecDepth 100000 in
theorem w_sChk : Cond.static yChk ∈ TBg := tbg (tblAt_mem (p := 4025) (by decide +kernel)) rfl
set_option maxRecDepth 100000 in
theorem w_cPre : Cond.code yPre prog_21_method_11_code 3 (some .int) ∈ TBg := tbg (tblAt_mem (p := 4031) (by rfl)) rfl
set_option maxRecDepth 100000 in
theorem w_sPre : Cond.static yPre ∈ TBg := tbg (tblAt_mem (p := 4030) (by decide +kernel)) rfl
set_option maxRecDepth 100000 in
theorem w_lPre : Cond.methodLink "java/lang/String" 1059 yPre ∈ TBg := tbg (tblAt_mem (p := 4029) (by decide +kernel)) rfl
set_option maxRecDepth 100000 in
theorem w_lChk : Cond.methodLink "java/lang/StringLatin1" 9 yChk ∈ TBg := tbg (tblAt_mem (p := 4024) (by decide +kernel)) rfl
set_option maxRecDepth 100000 in
theorem w_lCod : Cond.methodLink "java/lang/String" 335 yCoder ∈ TBg := tbg (tblAt_mem (p := 4007) (by decide +kernel)) rfl
set_option maxRecDepth 100000 in
theorem w_lIsl : Cond.methodLink "java/lang/String" 492 yIsL ∈ TBg := tbg (tblAt_mem (p := 4017) (by decide +kernel)) rfl
set_option maxRecDepth 100000 in
theorem w_lLat : Cond.methodLink "java/lang/String" 495 yLAt ∈ TBg := tbg (tblAt_mem (p := 4021) (by decide +kernel)) rfl
set_option maxRecDepth 100000 in
theorem w_iPre : Cond.initialized "jdk/internal/util/Preconditions" ∈ TBg := tbg (tblAt_mem (p := 1018) (by decide +kernel)) rfl
set_option maxRecDepth 100000 in
theorem w_iStr : Cond.initialized "java/lang/String" ∈ TBg := tbg (tblAt_mem (p := 1016) (by decide +kernel)) rfl
set_option maxRecDepth 100000 in
theorem w_iLat : Cond.initialized "java/lang/StringLatin1" ∈ TBg := tbg (tblAt_mem (p := 1017) (by decide +kernel)) rfl
set_option maxRecDepth 100000 in
theorem w_fSio : Cond.fieldLink "java/lang/String" 1053 "jdk/internal/util/Preconditions" "SIOOBE_FORMATTER" "Ljava/util/function/BiFunction;" ∈ TBg := tbg (tblAt_mem (p := 4027) (by decide +kernel)) rfl
set_option maxRecDepth 100000 in
theorem w_fCom : Cond.fieldLink "java/lang/String" 38 "java/lang/String" "COMPACT_STRINGS" "Z" ∈ TBg := tbg (tblAt_mem (p := 4011) (by decide +kernel)) rfl
set_option maxRecDepth 100000 in
theorem w_fVal : Cond.fieldLink "java/lang/String" 9 "java/lang/String" "value" "[B" ∈ TBg := tbg (tblAt_mem (p := 9046) (by decide +kernel)) rfl
set_option maxRecDepth 100000 in
theorem w_fCod : Cond.fieldLink "java/lang/String" 15 "java/lang/String" "coder" "B" ∈ TBg := tbg (tblAt_mem (p := 9047) (by decide +kernel)) rfl
section JdkA
variable {p : Program} {l : Launch} {e : Env} {R : Room} {s : State} {m : MethodId} {args : Array Value} {below : List Frame} {meth : Method} {c : Code} {H : Heap} {locs : List Loc} {cells slots : Nat} {Q : State → Prop}
variable {D : va_G} {cA : Nat → ClassId} {sz : Nat} {ex : Nat → Nat} {X : Xt} {cc : ByteArray} {pc nL : Nat} {ls : Array Slot} {rest : List Value} {own : String}
theorem aftS {rv : Option Value} {st0 : List Value} (hr : va_Run p l e R s m args below meth c H locs cells slots 0 0 (F0 m pc ls st0) rest (fun st o t => o = .returned rv ∧ t.heap = st.heap) (fun _ => False)) (kk : W p l e R s m args below meth c H locs cells slots Q (F0 m (pc + 3) ls (rv.toList ++ rest))) : W p l e R s m args below meth c H locs cells slots Q (F0 m pc ls st0) := by
  intro T hT X0
  obtain ⟨v, st₀, t, T', L, h0, X', hL, e1, e2, ⟨hv, hh⟩, st⟩ := hr T hT X0
  cases hv
  cases L with
  | cons a L => exact (hL a List.mem_cons_self).elim
  | nil =>
    rw [List.append_nil] at X'
    obtain ⟨t2, a1, b1⟩ := kk T' (by rw [e1, hh, h0]) X'
    exact ⟨t2, st t2 a1, b1⟩
theorem jblind (as : List Value) : FrameBlind (va_Pc as (fun U => EXH sz ex X U U.heap)) := by
  intro a U g mk q
  obtain ⟨q0, q2⟩ := q
  exact ⟨q0, q2.moved (u := U) (U := U.calling g mk a) (Vm.Alike.refl U.vm)⟩
theorem jws {y : MethodName} {bytes : ByteArray} {maxL : Nat} {ret : Option FieldType} (hts : ∀ w ∈ TBg, w.before args s = true) (wc : Cond.code y bytes maxL ret ∈ TBg) : ∀ w ∈ Cond.code y bytes maxL ret :: TBg, ∀ (a' : Array Value) (U : State), s.WarmedH U.vm → w.before a' U = true := by
  intro w hw a' U hW
  have hw' : w ∈ TBg := by
    rcases List.mem_cons.mp hw with q | q
    · rw [q]; exact wc
    · exact q
  exact word_at hW (good_TB hw').2 (hts w hw')
theorem jcB {y : MethodName} {bytes : ByteArray} {maxL k idx d : Nat} {ret : Option FieldType} (hts : ∀ w ∈ TBg, w.before args s = true) (wc : Cond.code y bytes maxL ret ∈ TBg) (wi : Cond.initialized y.cls ∈ TBg) (wl : Cond.methodLink own idx y ∈ TBg) (hn : y.cls ≠ "java/lang/invoke/MethodHandle" ∧ y.cls ≠ "java/lang/invoke/VarHandle") (hk : (parseMethodDescriptor y.desc).map (fun d => d.parameters.length) = some k) (hf : d + 1 ≤ R.frames) (hlo : 8 + (maxL + 11) + 64 * d ≤ R.locals) : CallB R s args own idx y bytes maxL ret (Cond.code y bytes maxL ret :: TBg) (rmd d 0 0) 0 0 k :=
  ⟨rfl, rfl, hf, hlo, jws hts wc, List.mem_cons_self, hts _ wc, hts _ wi, hn, fun sig hsig => by rw [hsig] at hk; exact (Option.some.inj hk).symm, hts _ wl⟩
theorem jpre (hE : EXH sz ex X s s.heap) (hS : va_S (fun q => sz ≤ q) s.heap H locs) (as : List Value) : ∀ U : State, U.heap = H → s.WarmedH U.vm → va_Pc as (fun U => EXH sz ex X U U.heap) as.toArray U := by
  intro U hU hW
  refine ⟨rfl, ?_⟩
  show EXH sz ex X U U.heap
  rw [hU]
  exact (hE.moved hW.alike).kept hS.1 hS.2.1
theorem jcallS (hx : p.tables.exec = Jvm.exec) (hb : c.code = cc) (hmx : c.maxLocals = nL) (hown : s.vm.findClass own = some m.cls) (hts : ∀ w ∈ TBg, w.before args s = true) (hE : EXH sz ex X s s.heap) (hS : va_S (fun q => sz ≤ q) s.heap H locs) {y : MethodName} {bytes : ByteArray} {maxL idx d : Nat} {ret : Option FieldType} {as : List Value} {rv : Option Value} (hM : JC l sz ex X y bytes maxL ret d as rv)
    (wc : Cond.code y bytes maxL ret ∈ TBg) (wi : Cond.initialized y.cls ∈ TBg) (wl : Cond.methodLink own idx y ∈ TBg) (wst : Cond.static y ∈ TBg) (hn : y.cls ≠ "java/lang/invoke/MethodHandle" ∧ y.cls ≠ "java/lang/invoke/VarHandle") (hk : (parseMethodDescriptor y.desc).map (fun d => d.parameters.length) = some as.length) (hf : d + 1 ≤ R.frames) (hlo : 8 + (maxL + 11) + 64 * d ≤ R.locals) (hcells : cells ≤ R.cells) (hslots : slots ≤ R.slots) (hrest : (rest.map fun v => v.category).sum ≤ 8) (hls : ls.size = nL) (hd : decode cc pc = .ok (.invokestatic idx, 3))
    (kk : W p l e R s m args below meth c H locs cells slots Q (F0 m (pc + 3) ls (rv.toList ++ rest))) : W p l e R s m args below meth c H locs cells slots Q (F0 m pc ls (as.reverse ++ rest)) :=
  aftS (va_runS ⟨hx, hb, hmx, hown, hts⟩ hM ⟨jcB hts wc wi wl hn hk hf hlo, hts _ wst⟩ ⟨jblind as, jpre hE hS as⟩ rfl rfl hls rfl (lv_room hrest) hd ⟨hcells, hslots⟩) kk
theorem jcallV (hx : p.tables.exec = Jvm.exec) (hb : c.code = cc) (hmx : c.maxLocals = nL) (hown : s.vm.findClass own = some m.cls) (hts : ∀ w ∈ TBg, w.before args s = true) (hE : EXH sz ex X s s.heap) (hS : va_S (fun q => sz ≤ q) s.heap H locs) {y : MethodName} {bytes : ByteArray} {maxL idx d i : Nat} {ret : Option FieldType} {as : List Value} {rv : Option Value} (hi : i < 3) (hM : JC l sz ex X y bytes maxL ret d (.ref (ex (1 + i)) :: as) rv) (hyc : y.cls = "java/lang/String")
    (wc : Cond.code y bytes maxL ret ∈ TBg) (wi : Cond.initialized y.cls ∈ TBg) (wl : Cond.methodLink own idx y ∈ TBg) (wim : Cond.instanceMethod y ∈ TBg) (wse : Cond.selects "java/lang/String" y y ∈ TBg) (hn : y.cls ≠ "java/lang/invoke/MethodHandle" ∧ y.cls ≠ "java/lang/invoke/VarHandle") (hk : (parseMethodDescriptor y.desc).map (fun d => d.parameters.length) = some as.length) (hf : d + 1 ≤ R.frames) (hlo : 8 + (maxL + 11) + 64 * d ≤ R.locals) (hcells : cells ≤ R.cells) (hslots : slots ≤ R.slots) (hrest : (rest.map fun v => v.category).sum ≤ 8) (hls : ls.size = nL) (hd : decode cc pc = .ok (.invokevirtual idx, 3))
    (kk : W p l e R s m args below meth c H locs cells slots Q (F0 m (pc + 3) ls (rv.toList ++ rest))) : W p l e R s m args below meth c H locs cells slots Q (F0 m pc ls (as.reverse ++ .ref (ex (1 + i)) :: rest)) :=
  aftS (va_runV (C := "java/lang/String") ⟨hx, hb, hmx, hown, hts⟩ hM ⟨jcB hts wc wi wl hn hk hf hlo, hts _ wim, hts _ wse⟩ ⟨jblind _, vk_recv hE.2.2.1 hi hS, jpre hE hS _⟩ rfl rfl hls rfl (lv_room hrest) hd ⟨hcells, hslots⟩) kk
end JdkA
theorem jc_pre (l : Launch) (sz : Nat) (ex : Nat → Nat) (X : Xt) {i n : Int32} (v : Value) (hv : v = .null ∨ ∃ a, v = .ref a) (h0 : ¬ i < 0) (h1 : i < n) : JC l sz ex X yPre prog_21_method_11_code 3 (some .int) 0 [.int i, .int n, v] (some (.int i)) := by
  refine Met.ofW (cc := prog_21_method_11_code) (maxL := 3) (ret := some .int) (by decide +kernel) rfl ?_
  intro p e s m args below meth c s₁ B hml hv0
  obtain ⟨rfl, hE⟩ := hv0
  have hx := B.exec
  have hb := B.bytes
  have hr := B.returns
  have hlocks := B.notSynchronized
  have hl : lv_has ((lg_sl ([.int i, .int n, v]) ++ List.replicate (3 - (lg_sl ([.int i, .int n, v])).length) Slot.unset).toArray) 3 (lv_args 0 [.int i, .int n, v]) := lv_entry _ (by rcases hv with rfl | ⟨a, rfl⟩ <;> exact Nat.le_of_ble_eq_true rfl)
  rw [lg_entry_eq]
  generalize (lg_sl ([.int i, .int n, v]) ++ List.replicate (3 - (lg_sl ([.int i, .int n, v])).length) Slot.unset).toArray = ls at hl ⊢
  refine lv_iload_n hx hb (by decide +kernel : decode prog_21_method_11_code 0 = .ok (.iload_n 0, 1)) rfl (lv_at hl 0 rfl) ?_
  refine lv_if_lt (tgt := 9) hx hb (by decide +kernel : decode prog_21_method_11_code 1 = .ok (.ifCond .lt 8, 3)) (by decide) (fun z => absurd z h0) (fun _ => ?_)
  refine lv_iload_n hx hb (by decide +kernel : decode prog_21_method_11_code 4 = .ok (.iload_n 0, 1)) rfl (lv_at hl 0 rfl) ?_
  refine lv_iload_n hx hb (by decide +kernel : decode prog_21_method_11_code 5 = .ok (.iload_n 1, 1)) rfl (lv_at hl 1 rfl) ?_
  refine lv_icmp_lt (tgt := 16) hx hb (by decide +kernel : decode prog_21_method_11_code 6 = .ok (.if_icmp .lt 10, 3)) (by decide) (fun _ => ?_) (fun z => absurd h1 z)
  refine lv_iload_n hx hb (by decide +kernel : decode prog_21_method_11_code 16 = .ok (.iload_n 0, 1)) rfl (lv_at hl 0 rfl) ?_
  exact W.iret hx hb hr (fun t ht _ => ⟨rfl, ht⟩) (fun q hq => by cases hq) (by decide +kernel : decode prog_21_method_11_code 17 = .ok (.ireturn, 1))
theorem jc_chk (l : Launch) (sz : Nat) (ex : Nat → Nat) (X : Xt) {i n : Int32} (h0 : ¬ i < 0) (h1 : i < n) : JC l sz ex X yChk prog_17_method_155_code 2 none 1 [.int i, .int n] none := by
  refine Met.ofW (cc := prog_17_method_155_code) (maxL := 2) (ret := none) (by decide +kernel) rfl ?_
  intro p e s m args below meth c s₁ B hml hv0
  obtain ⟨rfl, hE⟩ := hv0
  have hx := B.exec
  have hb := B.bytes
  have hr := B.returns
  have hlocks := B.notSynchronized
  have hts0 := atoms_spec (ws := Cond.code yChk prog_17_method_155_code 2 none :: TBg) B.pre
  have hts : ∀ w ∈ TBg, w.before _ s = true := fun w hw => hts0 w (List.mem_cons_of_mem _ hw)
  have hown : s.vm.findClass "java/lang/String" = some m.cls := findClass_of_methodNamed B.named
  have hl := lv_entry [Value.int i, .int n] (n := 2) (Nat.le_of_ble_eq_true rfl)
  rw [lg_entry_eq]
  generalize (lg_sl ([Value.int i, .int n]) ++ List.replicate (2 - (lg_sl ([Value.int i, .int n])).length) Slot.unset).toArray = ls at hl ⊢
  have hS : va_S (fun q => sz ≤ q) s.heap s.heap [] := va_S.rf
  refine lv_iload_n hx hb (by decide +kernel : decode prog_17_method_155_code 0 = .ok (.iload_n 0, 1)) rfl (lv_at hl 0 rfl) ?_
  refine lv_iload_n hx hb (by decide +kernel : decode prog_17_method_155_code 1 = .ok (.iload_n 1, 1)) rfl (lv_at hl 1 rfl) ?_
  have fin : ∀ v : Value, (v = .null ∨ ∃ a, v = .ref a) → va_Z "jdk/internal/util/Preconditions" "SIOOBE_FORMATTER" "Ljava/util/function/BiFunction;" v (fun q => sz ≤ q) s s.heap → W p l e (headSpec (Cond.code yChk prog_17_method_155_code 2 none :: TBg) (rmd 1 0 0)).room s m ([Value.int i, Value.int n].toArray) below meth c s.heap [] 0 0 (MQ below (fun _ st o t => o = .returned none ∧ t.heap = st.heap) ([Value.int i, Value.int n].toArray) s 0 0 (fun _ => False)) (F0 m 2 ls [.int n, .int i]) := by
    intro v hv hZ
    refine va_gets hx hb hZ hS hown (hts _ w_fSio) (fun _ z => z) (by decide +kernel : decode prog_17_method_155_code 2 = .ok (.getstatic 1053, 3)) ?_
    refine jcallS (as := [.int i, .int n, v]) (rest := []) (own := "java/lang/String") (nL := 2) hx hb hml hown hts hE hS (jc_pre l sz ex X v hv h0 h1) w_cPre w_iPre w_lPre w_sPre (by decide) (by rfl) (Nat.le_of_ble_eq_true rfl) (Nat.le_of_ble_eq_true rfl) (Nat.le_refl _) (Nat.le_refl _) (Nat.zero_le _) hl.1 (by decide +kernel : decode prog_17_method_155_code 5 = .ok (.invokestatic 1059, 3)) ?_
    refine lv_pop hx hb (by decide +kernel : decode prog_17_method_155_code 8 = .ok (.pop, 1)) rfl ?_
    exact W.vret hx hb hr (fun t ht _ => ⟨rfl, ht⟩) (fun q hq => by cases hq) (by decide +kernel : decode prog_17_method_155_code 9 = .ok (.return_, 1))
  rcases hE.2.2.2.2.1 with hZ | ⟨t, hZ⟩
  · exact fin _ (Or.inl rfl) hZ
  · exact fin _ (Or.inr ⟨t, rfl⟩) hZ
theorem strs_len {i : Nat} (hi : i < 3) : ([21, 36, 28] : List Nat).getD i 0 = (strs.getD i []).length ∧ (strs.getD i []).length < 64 := by
  match i, hi with
  | 0, _ => decide
  | 1, _ => decide
  | 2, _ => decide
theorem strs_ch : ∀ i, i < 3 → ∀ k, k < (strs.getD i []).length → (((strs.getD i []).getD k 0 &&& 255).toUInt32 % 65536).toInt32 = (strs.getD i []).getD k 0 ∧ narrow .char (.int ((strs.getD i []).getD k 0)) = .int ((strs.getD i []).getD k 0) := by decide +kernel
theorem jc_lat (l : Launch) (sz : Nat) (ex : Nat → Nat) (X : Xt) {i : Nat} (hi : i < 3) {k : Int32} (hk : vp_in k (strs.getD i []).length) : JC l sz ex X yLAt prog_18_method_2_code 2 (some .char) 2 [.ref (ex (10 + i)), .int k] (some (.int ((strs.getD i []).getD k.toNatClampNeg 0))) := by
  refine Met.ofW (cc := prog_18_method_2_code) (maxL := 2) (ret := some .char) (by decide +kernel) rfl ?_
  intro p e s m args below meth c s₁ B hml hv0
  obtain ⟨rfl, hE⟩ := hv0
  have hx := B.exec
  have hb := B.bytes
  have hr := B.returns
  have hlocks := B.notSynchronized
  have hts0 := atoms_spec (ws := Cond.code yLAt prog_18_method_2_code 2 (some .char) :: TBg) B.pre
  have hts : ∀ w ∈ TBg, w.before _ s = true := fun w hw => hts0 w (List.mem_cons_of_mem _ hw)
  have hown : s.vm.findClass "java/lang/StringLatin1" = some m.cls := findClass_of_methodNamed B.named
  have hl := lv_entry [Value.ref (ex (10 + i)), .int k] (n := 2) (Nat.le_of_ble_eq_true rfl)
  rw [lg_entry_eq]
  generalize (lg_sl ([Value.ref (ex (10 + i)), .int k]) ++ List.replicate (2 - (lg_sl ([Value.ref (ex (10 + i)), .int k])).length) Slot.unset).toArray = ls at hl ⊢
  have hS : va_S (fun q => sz ≤ q) s.heap s.heap [] := va_S.rf
  obtain ⟨sl1, sl2⟩ := strs_len hi
  have hT := (hE.2.2.1.1 i hi).2.2.2
  rw [sl1] at hT
  have h0 : ¬ k < 0 := fun z => hk (Or.inl z)
  have hlt : k.toNatClampNeg < (strs.getD i []).length := Nat.not_le.mp fun z => hk (Or.inr z)
  have h1 : k < Int32.ofNat (strs.getD i []).length := by
    obtain ⟨j, hj, rfl⟩ := vp_in_of hk (by omega)
    exact nI_lt hj (by omega)
  refine lv_iload_n hx hb (by decide +kernel : decode prog_18_method_2_code 0 = .ok (.iload_n 1, 1)) rfl (lv_at hl 1 rfl) ?_
  refine lv_aload_n hx hb (by decide +kernel : decode prog_18_method_2_code 1 = .ok (.aload_n 0, 1)) rfl (lv_at hl 0 rfl) ?_
  refine va_tlen hx hb hT hS rfl (by decide +kernel : decode prog_18_method_2_code 2 = .ok (.arraylength, 1)) ?_
  refine jcallS (as := [.int k, .int (Int32.ofNat (strs.getD i []).length)]) (rest := []) (own := "java/lang/StringLatin1") (nL := 2) hx hb hml hown hts hE hS (jc_chk l sz ex X h0 h1) w_cChk w_iStr w_lChk w_sChk (by decide) (by rfl) (Nat.le_of_ble_eq_true rfl) (Nat.le_of_ble_eq_true rfl) (Nat.le_refl _) (Nat.le_refl _) (Nat.zero_le _) hl.1 (by decide +kernel : decode prog_18_method_2_code 3 = .ok (.invokestatic 9, 3)) ?_
  refine lv_aload_n hx hb (by decide +kernel : decode prog_18_method_2_code 6 = .ok (.aload_n 0, 1)) rfl (lv_at hl 0 rfl) ?_
  refine lv_iload_n hx hb (by decide +kernel : decode prog_18_method_2_code 7 = .ok (.iload_n 1, 1)) rfl (lv_at hl 1 rfl) ?_
  refine va_tb hx hb hT hS hk rfl (by decide +kernel : decode prog_18_method_2_code 8 = .ok (.baload, 1)) ?_
  refine lv_sipush (v := 255) hx hb (by decide +kernel : decode prog_18_method_2_code 9 = .ok (.sipush 255, 3)) (by decide) ?_
  refine lv_iand hx hb (by decide +kernel : decode prog_18_method_2_code 12 = .ok (.iand, 1)) ?_
  refine lv_i2c (v := (strs.getD i []).getD k.toNatClampNeg 0) hx hb (by decide +kernel : decode prog_18_method_2_code 13 = .ok (.i2c, 1)) (strs_ch i hi _ hlt).1 ?_
  exact W.zret hx hb hr (strs_ch i hi _ hlt).2 (fun t ht _ => ⟨rfl, ht⟩) (fun q hq => by cases hq) (by decide +kernel : decode prog_18_method_2_code 14 = .ok (.ireturn, 1))
theorem jc_cod (l : Launch) (sz : Nat) (ex : Nat → Nat) (X : Xt) {i : Nat} (hi : i < 3) : JC l sz ex X yCoder prog_17_method_152_code 1 (some .byte) 0 [.ref (ex (1 + i))] (some (.int 0)) := by
  refine Met.ofW (cc := prog_17_method_152_code) (maxL := 1) (ret := some .byte) (by decide +kernel) rfl ?_
  intro p e s m args below meth c s₁ B hml hv0
  obtain ⟨rfl, hE⟩ := hv0
  have hx := B.exec
  have hb := B.bytes
  have hr := B.returns
  have hlocks := B.notSynchronized
  have hts0 := atoms_spec (ws := Cond.code yCoder prog_17_method_152_code 1 (some .byte) :: TBg) B.pre
  have hts : ∀ w ∈ TBg, w.before _ s = true := fun w hw => hts0 w (List.mem_cons_of_mem _ hw)
  have hown : s.vm.findClass "java/lang/String" = some m.cls := findClass_of_methodNamed B.named
  have hl := lv_entry [Value.ref (ex (1 + i))] (n := 1) (Nat.le_of_ble_eq_true rfl)
  rw [lg_entry_eq]
  generalize (lg_sl ([Value.ref (ex (1 + i))]) ++ List.replicate (1 - (lg_sl ([Value.ref (ex (1 + i))])).length) Slot.unset).toArray = ls at hl ⊢
  have hS : va_S (fun q => sz ≤ q) s.heap s.heap [] := va_S.rf
  refine va_gets hx hb hE.2.2.2.1 hS hown (hts _ w_fCom) (fun _ z => z) (by decide +kernel : decode prog_17_method_152_code 0 = .ok (.getstatic 38, 3)) ?_
  refine lv_if_eq (tgt := 13) hx hb (by decide +kernel : decode prog_17_method_152_code 3 = .ok (.ifCond .eq 10, 3)) (by decide) (fun z => absurd z (by decide)) (fun _ => ?_)
  refine lv_aload_n hx hb (by decide +kernel : decode prog_17_method_152_code 6 = .ok (.aload_n 0, 1)) rfl (lv_at hl 0 rfl) ?_
  refine vk_getf hx hb (hE.2.2.1.1 i hi).2.1 hS hown (hts _ w_fCod) (fun _ z => z) (by decide +kernel : decode prog_17_method_152_code 7 = .ok (.getfield 15, 3)) ?_
  refine lv_goto (tgt := 14) hx hb (by decide +kernel : decode prog_17_method_152_code 10 = .ok (.goto 4, 3)) (by decide) ?_
  exact W.zret hx hb hr rfl (fun t ht _ => ⟨rfl, ht⟩) (fun q hq => by cases hq) (by decide +kernel : decode prog_17_method_152_code 14 = .ok (.ireturn, 1))
theorem jc_isl (l : Launch) (sz : Nat) (ex : Nat → Nat) (X : Xt) {i : Nat} (hi : i < 3) : JC l sz ex X yIsL prog_17_method_154_code 1 (some .boolean) 0 [.ref (ex (1 + i))] (some (.int 1)) := by
  refine Met.ofW (cc := prog_17_method_154_code) (maxL := 1) (ret := some .boolean) (by decide +kernel) rfl ?_
  intro p e s m args below meth c s₁ B hml hv0
  obtain ⟨rfl, hE⟩ := hv0
  have hx := B.exec
  have hb := B.bytes
  have hr := B.returns
  have hlocks := B.notSynchronized
  have hts0 := atoms_spec (ws := Cond.code yIsL prog_17_method_154_code 1 (some .boolean) :: TBg) B.pre
  have hts : ∀ w ∈ TBg, w.before _ s = true := fun w hw => hts0 w (List.mem_cons_of_mem _ hw)
  have hown : s.vm.findClass "java/lang/String" = some m.cls := findClass_of_methodNamed B.named
  have hl := lv_entry [Value.ref (ex (1 + i))] (n := 1) (Nat.le_of_ble_eq_true rfl)
  rw [lg_entry_eq]
  generalize (lg_sl ([Value.ref (ex (1 + i))]) ++ List.replicate (1 - (lg_sl ([Value.ref (ex (1 + i))])).length) Slot.unset).toArray = ls at hl ⊢
  have hS : va_S (fun q => sz ≤ q) s.heap s.heap [] := va_S.rf
  refine va_gets hx hb hE.2.2.2.1 hS hown (hts _ w_fCom) (fun _ z => z) (by decide +kernel : decode prog_17_method_154_code 0 = .ok (.getstatic 38, 3)) ?_
  refine lv_if_eq (tgt := 17) hx hb (by decide +kernel : decode prog_17_method_154_code 3 = .ok (.ifCond .eq 14, 3)) (by decide) (fun z => absurd z (by decide)) (fun _ => ?_)
  refine lv_aload_n hx hb (by decide +kernel : decode prog_17_method_154_code 6 = .ok (.aload_n 0, 1)) rfl (lv_at hl 0 rfl) ?_
  refine vk_getf hx hb (hE.2.2.1.1 i hi).2.1 hS hown (hts _ w_fCod) (fun _ z => z) (by decide +kernel : decode prog_17_method_154_code 7 = .ok (.getfield 15, 3)) ?_
  refine lv_if_ne (tgt := 17) hx hb (by decide +kernel : decode prog_17_method_154_code 10 = .ok (.ifCond .ne 7, 3)) (by decide) (fun z => absurd rfl z) (fun _ => ?_)
  refine lv_iconst (v := 1) hx hb (by decide +kernel : decode prog_17_method_154_code 13 = .ok (.iconst 1, 1)) (by decide) ?_
  refine lv_goto (tgt := 18) hx hb (by decide +kernel : decode prog_17_method_154_code 14 = .ok (.goto 4, 3)) (by decide) ?_
  exact W.zret hx hb hr rfl (fun t ht _ => ⟨rfl, ht⟩) (fun q hq => by cases hq) (by decide +kernel : decode prog_17_method_154_code 18 = .ok (.ireturn, 1))
theorem jc_len (l : Launch) (sz : Nat) (ex : Nat → Nat) (X : Xt) {i : Nat} (hi : i < 3) : JC l sz ex X strLenN prog_17_method_54_code 1 (some .int) 1 [.ref (ex (1 + i))] (some (.int (Int32.ofNat (strs.getD i []).length))) := by
  refine Met.ofW (cc := prog_17_method_54_code) (maxL := 1) (ret := some .int) (by decide +kernel) rfl ?_
  intro p e s m args below meth c s₁ B hml hv0
  obtain ⟨rfl, hE⟩ := hv0
  have hx := B.exec
  have hb := B.bytes
  have hr := B.returns
  have hlocks := B.notSynchronized
  have hts0 := atoms_spec (ws := Cond.code strLenN prog_17_method_54_code 1 (some .int) :: TBg) B.pre
  have hts : ∀ w ∈ TBg, w.before _ s = true := fun w hw => hts0 w (List.mem_cons_of_mem _ hw)
  have hown : s.vm.findClass "java/lang/String" = some m.cls := findClass_of_methodNamed B.named
  have hl := lv_entry [Value.ref (ex (1 + i))] (n := 1) (Nat.le_of_ble_eq_true rfl)
  rw [lg_entry_eq]
  generalize (lg_sl ([Value.ref (ex (1 + i))]) ++ List.replicate (1 - (lg_sl ([Value.ref (ex (1 + i))])).length) Slot.unset).toArray = ls at hl ⊢
  have hS : va_S (fun q => sz ≤ q) s.heap s.heap [] := va_S.rf
  obtain ⟨sl1, sl2⟩ := strs_len hi
  have hT := (hE.2.2.1.1 i hi).2.2.2
  rw [sl1] at hT
  refine lv_aload_n hx hb (by decide +kernel : decode prog_17_method_54_code 0 = .ok (.aload_n 0, 1)) rfl (lv_at hl 0 rfl) ?_
  refine vk_getf hx hb (hE.2.2.1.1 i hi).2.2.1 hS hown (hts _ w_fVal) (fun _ z => z) (by decide +kernel : decode prog_17_method_54_code 1 = .ok (.getfield 9, 3)) ?_
  refine va_tlen hx hb hT hS rfl (by decide +kernel : decode prog_17_method_54_code 4 = .ok (.arraylength, 1)) ?_
  refine lv_aload_n hx hb (by decide +kernel : decode prog_17_method_54_code 5 = .ok (.aload_n 0, 1)) rfl (lv_at hl 0 rfl) ?_
  refine jcallV (as := []) (rest := [.int (Int32.ofNat (strs.getD i []).length)]) (own := "java/lang/String") (nL := 1) hx hb hml hown hts hE hS hi (jc_cod l sz ex X hi) rfl w_cCod w_iStr w_lCod w_mCod w_eCod (by decide) (by rfl) (Nat.le_of_ble_eq_true rfl) (Nat.le_of_ble_eq_true rfl) (Nat.le_refl _) (Nat.le_refl _) (Nat.le_of_ble_eq_true rfl) hl.1 (by decide +kernel : decode prog_17_method_54_code 6 = .ok (.invokevirtual 335, 3)) ?_
  refine lv_ishr hx hb (by decide +kernel : decode prog_17_method_54_code 9 = .ok (.ishr, 1)) ?_
  rw [sb_shr0]
  exact W.iret hx hb hr (fun t ht _ => ⟨rfl, ht⟩) (fun q hq => by cases hq) (by decide +kernel : decode prog_17_method_54_code 10 = .ok (.ireturn, 1))
theorem jc_at (l : Launch) (sz : Nat) (ex : Nat → Nat) (X : Xt) {i : Nat} (hi : i < 3) {k : Int32} (hk : vp_in k (strs.getD i []).length) : JC l sz ex X strAtN prog_17_method_56_code 2 (some .char) 3 [.ref (ex (1 + i)), .int k] (some (.int ((strs.getD i []).getD k.toNatClampNeg 0))) := by
  refine Met.ofW (cc := prog_17_method_56_code) (maxL := 2) (ret := some .char) (by decide +kernel) rfl ?_
  intro p e s m args below meth c s₁ B hml hv0
  obtain ⟨rfl, hE⟩ := hv0
  have hx := B.exec
  have hb := B.bytes
  have hr := B.returns
  have hlocks := B.notSynchronized
  have hts0 := atoms_spec (ws := Cond.code strAtN prog_17_method_56_code 2 (some .char) :: TBg) B.pre
  have hts : ∀ w ∈ TBg, w.before _ s = true := fun w hw => hts0 w (List.mem_cons_of_mem _ hw)
  have hown : s.vm.findClass "java/lang/String" = some m.cls := findClass_of_methodNamed B.named
  have hl := lv_entry [Value.ref (ex (1 + i)), .int k] (n := 2) (Nat.le_of_ble_eq_true rfl)
  rw [lg_entry_eq]
  generalize (lg_sl ([Value.ref (ex (1 + i)), .int k]) ++ List.replicate (2 - (lg_sl ([Value.ref (ex (1 + i)), .int k])).length) Slot.unset).toArray = ls at hl ⊢
  have hS : va_S (fun q => sz ≤ q) s.heap s.heap [] := va_S.rf
  have hlt : k.toNatClampNeg < (strs.getD i []).length := Nat.not_le.mp fun z => hk (Or.inr z)
  refine lv_aload_n hx hb (by decide +kernel : decode prog_17_method_56_code 0 = .ok (.aload_n 0, 1)) rfl (lv_at hl 0 rfl) ?_
  refine jcallV (as := []) (rest := []) (own := "java/lang/String") (nL := 2) hx hb hml hown hts hE hS hi (jc_isl l sz ex X hi) rfl w_cIsl w_iStr w_lIsl w_mIsl w_eIsl (by decide) (by rfl) (Nat.le_of_ble_eq_true rfl) (Nat.le_of_ble_eq_true rfl) (Nat.le_refl _) (Nat.le_refl _) (Nat.zero_le _) hl.1 (by decide +kernel : decode prog_17_method_56_code 1 = .ok (.invokevirtual 492, 3)) ?_
  refine lv_if_eq (tgt := 16) hx hb (by decide +kernel : decode prog_17_method_56_code 4 = .ok (.ifCond .eq 12, 3)) (by decide) (fun z => absurd z (by decide)) (fun _ => ?_)
  refine lv_aload_n hx hb (by decide +kernel : decode prog_17_method_56_code 7 = .ok (.aload_n 0, 1)) rfl (lv_at hl 0 rfl) ?_
  refine vk_getf hx hb (hE.2.2.1.1 i hi).2.2.1 hS hown (hts _ w_fVal) (fun _ z => z) (by decide +kernel : decode prog_17_method_56_code 8 = .ok (.getfield 9, 3)) ?_
  refine lv_iload_n hx hb (by decide +kernel : decode prog_17_method_56_code 11 = .ok (.iload_n 1, 1)) rfl (lv_at hl 1 rfl) ?_
  refine jcallS (as := [.ref (ex (10 + i)), .int k]) (rest := []) (own := "java/lang/String") (nL := 2) hx hb hml hown hts hE hS (jc_lat l sz ex X hi hk) w_cLat w_iLat w_lLat w_sLat (by decide) (by rfl) (Nat.le_of_ble_eq_true rfl) (Nat.le_of_ble_eq_true rfl) (Nat.le_refl _) (Nat.le_refl _) (Nat.zero_le _) hl.1 (by decide +kernel : decode prog_17_method_56_code 12 = .ok (.invokestatic 495, 3)) ?_
  exact W.zret hx hb hr (strs_ch i hi _ hlt).2 (fun t ht _ => ⟨rfl, ht⟩) (fun q hq => by cases hq) (by decide +kernel : decode prog_17_method_56_code 15 = .ok (.ireturn, 1))
theorem str_ok (l : Launch) (D : va_G) (cA : Nat → ClassId) (sz : Nat) (ex : Nat → Nat) (X : Xt) : StrOK l D cA sz ex X := by
  intro p e R s m args below meth c Q mi pc idx a ls rest h H locs cells slots F hR hS h1 h4 hf hlo hc hs hrest hls hd
  obtain ⟨i, hi, rfl⟩ : ∃ i, i < 3 ∧ a = 1000001 + i := ⟨a - 1000001, by omega, by omega⟩
  have ea : adr sz ex (1000001 + i) = ex (1 + i) := by
    unfold adr
    rw [if_neg (by omega), show 1000001 + i - 1000000 = 1 + i by omega]
  have ei : 1000001 + i - 1000001 = i := by omega
  rw [ea, ei]
  obtain ⟨hx, hb, hmx, hown, hts, -, hG, hE, -⟩ := F
  refine ⟨fun wl kk => ?_, fun wl k hk kk => ?_⟩
  · exact jcallV (as := []) hx hb hmx hown hts hE hS hi (jc_len l sz ex X hi) rfl w_cLen w_iStr wl w_mLen w_eLen (by decide) (by rfl) (by omega) (by omega) hc hs hrest hls hd (kk H locs hR hS)
  · exact jcallV (as := [.int k]) hx hb hmx hown hts hE hS hi (jc_at l sz ex X hi hk) rfl w_cAt w_iStr wl w_mAt w_eAt (by decide) (by rfl) (by omega) (by omega) hc hs hrest hls hd (kk H locs hR hS)
