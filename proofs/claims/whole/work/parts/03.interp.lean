/-! a pure interpreter of the system's bytecode; objects are numbers, in the order in which they were made -/
/-- how many objects there are; the shape of each (kind, how many places, references); what the int places hold -/
abbrev Se1 : Type := Nat × Nat × (Nat → Option Nat)
abbrev Sh : Type := Nat × (Nat → Se1)
abbrev Mm : Type := Nat → Nat → Int32
abbrev Hp : Type := Sh × Mm
/-- the script: its length, its ints -/
abbrev Xt : Type := Nat × (Nat → Int32)
def noSe : Se1 := (99, 0, fun _ => none)
def hC (h : Sh) (k : Nat) : Se1 := if k < h.1 then h.2 k else noSe
def shR (h : Sh) (k i : Nat) (r : Nat) : Sh := (h.1, fun a => if a = k then ((h.2 k).1, (h.2 k).2.1, fun b => if b = i then some r else (h.2 k).2.2 b) else h.2 a)
def shN (h : Sh) (t n : Nat) : Sh := (h.1 + 1, fun a => if a = h.1 then (t, n, fun _ => none) else h.2 a)
def up2 (σ : Mm) (k i : Nat) (v : Int32) : Mm := fun a => if a = k then upd (σ k) i v else σ a
/-- a stretch of row j comes to row k -/
def cp2 (σ : Mm) (j sp k dp n : Nat) : Mm := fun a => if a = k then va_cpy (σ j) (σ k) sp dp n else σ a
def rvl (r : Option Nat) : Value := match r with
  | none => .null
  | some k => .ref k
def isRf (t : FieldType) : Bool := match t with
  | .object _ => true
  | .array _ => true
  | _ => false
def unset0 : Value := .double 0
def inbB (i : Int32) (n : Nat) : Bool := !(decide (i < 0) || decide (n ≤ i.toNatClampNeg))
theorem inbB_iff {i : Int32} {n : Nat} : inbB i n = true ↔ vp_in i n := by
  unfold inbB vp_in
  simp only [Bool.not_eq_true', Bool.or_eq_false_iff, decide_eq_false_iff_not, not_or]
def cndB (c : ClassFile.Cond) (x y : Int32) : Bool := match c with
  | .eq => decide (x = y)
  | .ne => decide (¬ x = y)
  | .lt => decide (x < y)
  | .ge => decide (y ≤ x)
  | .gt => decide (y < x)
  | .le => decide (x ≤ y)
/-- where a jump goes -/
def jmp (pc : Nat) (off : Int) : Option Nat := if 0 ≤ (pc : Int) + off then some ((pc : Int) + off).toNat else none
def kAbove : List Int32 := [-1, 0, 0, 2, 1]
abbrev Cf : Type := Nat × List Value × List Value × Hp
def ldI (pc : Nat) (loc st : List Value) (h : Hp) (k len : Nat) : Option Cf := match loc[k]? with
  | some (.int x) => some (pc + len, loc, .int x :: st, h)
  | _ => none
def ldA (pc : Nat) (loc st : List Value) (h : Hp) (k len : Nat) : Option Cf := match loc[k]? with
  | some (.ref x) => some (pc + len, loc, .ref x :: st, h)
  | _ => none
def stI (pc : Nat) (loc st : List Value) (h : Hp) (k len : Nat) : Option Cf := match st with
  | .int x :: r => if k < loc.length then some (pc + len, loc.set k (.int x), r, h) else none
  | _ => none
def stA (pc : Nat) (loc st : List Value) (h : Hp) (k len : Nat) : Option Cf := match st with
  | .ref x :: r => if k < loc.length then some (pc + len, loc.set k (.ref x), r, h) else none
  | _ => none
def opI (pc : Nat) (loc st : List Value) (h : Hp) (f : Int32 → Int32 → Option Int32) : Option Cf := match st with
  | .int y :: .int x :: r => match f x y with
    | some z => some (pc + 1, loc, .int z :: r, h)
    | none => none
  | _ => none
def un1 (pc : Nat) (loc st : List Value) (h : Hp) (f : Int32 → Int32) : Option Cf := match st with
  | .int x :: r => some (pc + 1, loc, .int (f x) :: r, h)
  | _ => none
/-- what an int array holds: one of ours, the table of kinds, the script -/
def rdI (X : Xt) (h : Hp) (a : Nat) (i : Int32) : Option Int32 :=
  if a < 1000000 then (if (hC h.1 a).1 = 20 ∧ inbB i (hC h.1 a).2.1 = true then some (h.2 a i.toNatClampNeg) else none)
  else if a = 1000000 then (if inbB i 5 = true then some (kAbove.getD i.toNatClampNeg 0) else none)
  else if a = 1000009 then (if inbB i X.1 = true then some (X.2 i.toNatClampNeg) else none)
  else none
def rdT (h : Hp) (a : Nat) (i : Int32) (t : Nat) : Option Int32 := if (hC h.1 a).1 = t ∧ inbB i (hC h.1 a).2.1 = true then some (h.2 a i.toNatClampNeg) else none
def ldX (pc : Nat) (loc st : List Value) (h : Hp) (f : Nat → Int32 → Option Int32) : Option Cf := match st with
  | .int i :: .ref a :: r => match f a i with
    | some z => some (pc + 1, loc, .int z :: r, h)
    | none => none
  | _ => none
/-- a store into an array of ints (20), bytes (21), booleans (22), chars (23) -/
def stX (pc : Nat) (loc st : List Value) (h : Hp) (t : Nat) (f : Int32 → Int32) : Option Cf := match st with
  | .int x :: .int i :: .ref a :: r => if (hC h.1 a).1 = t ∧ inbB i (hC h.1 a).2.1 = true then some (pc + 1, loc, r, (h.1, up2 h.2 a i.toNatClampNeg (f x))) else none
  | _ => none
def getF (co pc idx : Nat) (loc st : List Value) (h : Hp) : Option Cf := match st with
  | .ref a :: r => match fl co idx with
    | some (ci, k) => if (hC h.1 a).1 = ci then (if isRf (fty ci k) = true then some (pc + 3, loc, rvl ((hC h.1 a).2.2 k) :: r, h) else some (pc + 3, loc, .int (h.2 a k) :: r, h)) else none
    | none => none
  | _ => none
/-- a field may be stored where it isn't final, or in its own class's constructor -/
def mayF (co ci k : Nat) (ini : Bool) : Bool := if (fTs ci k).2.2.2 = true then (ini && decide (co = ci)) else true
def putF (co pc idx : Nat) (ini : Bool) (loc st : List Value) (h : Hp) : Option Cf := match st with
  | v :: .ref a :: r => match fl co idx with
    | some (ci, k) => if (hC h.1 a).1 = ci ∧ mayF co ci k ini = true then (match v with
        | .int x => if isRf (fty ci k) = false ∧ narrow (fty ci k) (.int x) = .int x ∧ fits (fty ci k) (.int x) = true then some (pc + 3, loc, r, (h.1, up2 h.2 a k x)) else none
        | .ref b => if isRf (fty ci k) = true then some (pc + 3, loc, r, (shR h.1 a k b, h.2)) else none
        | _ => none) else none
    | none => none
  | _ => none
def newO (co pc idx : Nat) (loc st : List Value) (h : Hp) : Option Cf := match cll co idx with
  | some ci => if ci < 13 ∧ h.1.1 < 100000 then some (pc + 3, loc, .ref h.1.1 :: st, (shN h.1 ci (nF ci), h.2)) else none
  | none => none
def newA (pc len t : Nat) (loc st : List Value) (h : Hp) : Option Cf := match st with
  | .int n :: r => if ¬ n < 0 ∧ n.toNatClampNeg ≤ 10000 ∧ h.1.1 < 100000 then some (pc + len, loc, .ref h.1.1 :: r, (shN h.1 t n.toNatClampNeg, h.2)) else none
  | _ => none
def atag (t : ArrayType) : Option Nat := match t with
  | .int => some 20
  | .byte => some 21
  | .boolean => some 22
  | .char => some 23
  | _ => none
def aald0 (pc : Nat) (loc st : List Value) (h : Hp) : Option Cf := match st with
  | .int i :: .ref a :: r => if 33 ≤ (hC h.1 a).1 ∧ (hC h.1 a).1 < 37 ∧ inbB i (hC h.1 a).2.1 = true then some (pc + 1, loc, rvl ((hC h.1 a).2.2 i.toNatClampNeg) :: r, h) else none
  | _ => none
def aast0 (pc : Nat) (loc st : List Value) (h : Hp) : Option Cf := match st with
  | .ref b :: .int i :: .ref a :: r => if 33 ≤ (hC h.1 a).1 ∧ (hC h.1 a).1 < 37 ∧ (hC h.1 b).1 + 30 = (hC h.1 a).1 ∧ inbB i (hC h.1 a).2.1 = true then some (pc + 1, loc, r, (shR h.1 a i.toNatClampNeg b, h.2)) else none
  | _ => none
def tsw (pc : Nat) (loc st : List Value) (h : Hp) (d lo hi : Int) (offs : Array Int) : Option Cf := match st with
  | .int x :: r => match (if x.toInt < lo ∨ hi < x.toInt then some d else offs[(x.toInt - lo).toNat]?) with
    | some o => match jmp pc o with
      | some q => some (q, loc, r, h)
      | none => none
    | none => none
  | _ => none
def lsw (pc : Nat) (loc st : List Value) (h : Hp) (d : Int) (ps : Array (Int × Int)) : Option Cf := match st with
  | .int x :: r => if (ps.toList.zip (ps.toList.drop 1)).all (fun (a, next) => a.1 < next.1) = true then (match jmp pc (Op.lookupswitch.offset ps.toList d x.toInt) with
      | some q => some (q, loc, r, h)
      | none => none) else none
  | _ => none
def br1 (pc : Nat) (loc st : List Value) (h : Hp) (c : ClassFile.Cond) (off : Int) : Option Cf := match st with
  | .int x :: r => match jmp pc off with
    | some q => some (if cndB c x 0 = true then (q, loc, r, h) else (pc + 3, loc, r, h))
    | none => none
  | _ => none
def br2 (pc : Nat) (loc st : List Value) (h : Hp) (c : ClassFile.Cond) (off : Int) : Option Cf := match st with
  | .int y :: .int x :: r => match jmp pc off with
    | some q => some (if cndB c x y = true then (q, loc, r, h) else (pc + 3, loc, r, h))
    | none => none
  | _ => none
def ldcX (co pc idx len : Nat) (loc st : List Value) (h : Hp) : Option Cf := match kl co idx with
  | some v => some (pc + len, loc, .int v :: st, h)
  | none => if len = 2 then (match sll co idx with
    | some j => some (pc + len, loc, .ref (1000001 + j) :: st, h)
    | none => none) else none
/-- one instruction that neither calls nor returns -/
def stp (X : Xt) (co : Nat) (ini : Bool) (pc : Nat) (ins : Instr) (len : Nat) (loc st : List Value) (h : Hp) : Option Cf := match ins, len with
  | .iconst i, 1 => some (pc + 1, loc, .int (Int32.ofInt i) :: st, h)
  | .bipush i, 2 => some (pc + 2, loc, .int (Int8.ofInt i).toInt32 :: st, h)
  | .sipush i, 3 => some (pc + 3, loc, .int (Int16.ofInt i).toInt32 :: st, h)
  | .ldc idx, 2 => ldcX co pc idx 2 loc st h
  | .ldc_w idx, 3 => ldcX co pc idx 3 loc st h
  | .iload k, 2 => ldI pc loc st h k 2
  | .iload_n k, 1 => ldI pc loc st h k 1
  | .aload k, 2 => ldA pc loc st h k 2
  | .aload_n k, 1 => ldA pc loc st h k 1
  | .istore k, 2 => stI pc loc st h k 2
  | .istore_n k, 1 => stI pc loc st h k 1
  | .astore k, 2 => stA pc loc st h k 2
  | .astore_n k, 1 => stA pc loc st h k 1
  | .iinc k n, 3 => match loc[k]? with
    | some (.int x) => some (pc + 3, loc.set k (.int (x + Int32.ofInt n)), st, h)
    | _ => none
  | .iadd, 1 => opI pc loc st h (fun x y => some (x + y))
  | .isub, 1 => opI pc loc st h (fun x y => some (x - y))
  | .imul, 1 => opI pc loc st h (fun x y => some (x * y))
  | .iand, 1 => opI pc loc st h (fun x y => some (x &&& y))
  | .ior, 1 => opI pc loc st h (fun x y => some (x ||| y))
  | .ixor, 1 => opI pc loc st h (fun x y => some (x ^^^ y))
  | .ishl, 1 => opI pc loc st h (fun x y => some (x <<< (y &&& 31)))
  | .ishr, 1 => opI pc loc st h (fun x y => some (x >>> (y &&& 31)))
  | .iushr, 1 => opI pc loc st h (fun x y => some (x.toUInt32 >>> (y.toUInt32 &&& Int32.toUInt32 31)).toInt32)
  | .idiv, 1 => opI pc loc st h (fun x y => if y = 0 then none else some (x / y))
  | .irem, 1 => opI pc loc st h (fun x y => if y = 0 then none else some (x - x / y * y))
  | .i2b, 1 => un1 pc loc st h (fun x => x.toInt8.toInt32)
  | .i2s, 1 => un1 pc loc st h (fun x => x.toInt16.toInt32)
  | .dup, 1 => match st with
    | v :: r => if v.category = 1 then some (pc + 1, loc, v :: v :: r, h) else none
    | _ => none
  | .dup2, 1 => match st with
    | v :: w :: r => if v.category = 1 ∧ w.category = 1 then some (pc + 1, loc, v :: w :: v :: w :: r, h) else none
    | _ => none
  | .pop, 1 => match st with
    | v :: r => if v.category = 1 then some (pc + 1, loc, r, h) else none
    | _ => none
  | .goto off, 3 => match jmp pc off with
    | some q => some (q, loc, st, h)
    | none => none
  | .ifCond c off, 3 => br1 pc loc st h c off
  | .if_icmp c off, 3 => br2 pc loc st h c off
  | .tableswitch d lo hi offs, _ => tsw pc loc st h d lo hi offs
  | .lookupswitch d ps, _ => lsw pc loc st h d ps
  | .iaload, 1 => ldX pc loc st h (fun a i => rdI X h a i)
  | .caload, 1 => ldX pc loc st h (fun a i => rdT h a i 23)
  | .baload, 1 => ldX pc loc st h (fun a i => match rdT h a i 21 with
    | some z => some z
    | none => rdT h a i 22)
  | .iastore, 1 => stX pc loc st h 20 (fun x => x)
  | .castore, 1 => stX pc loc st h 23 (vp_nar .char)
  | .bastore, 1 => match stX pc loc st h 21 (vp_nar .byte) with
    | some z => some z
    | none => stX pc loc st h 22 (vp_nar .boolean)
  | .aaload, 1 => aald0 pc loc st h
  | .aastore, 1 => aast0 pc loc st h
  | .arraylength, 1 => match st with
    | .ref a :: r => if a = 1000009 then some (pc + 1, loc, .int (Int32.ofNat X.1) :: r, h) else none
    | _ => none
  | .getstatic idx, 3 => if co = 3 ∧ idx = 63 then some (pc + 3, loc, .ref 1000000 :: st, h) else none
  | .getfield idx, 3 => getF co pc idx loc st h
  | .putfield idx, 3 => putF co pc idx ini loc st h
  | .new idx, 3 => newO co pc idx loc st h
  | .newarray t, 2 => match atag t with
    | some k => newA pc 2 k loc st h
    | none => none
  | .anewarray idx, 3 => match cll co idx with
    | some ci => if 3 ≤ ci ∧ ci < 7 then newA pc 3 (30 + ci) loc st h else none
    | none => none
  | _, _ => none
def strs : List (List Int32) := [[105, 102, 32, 117, 110, 108, 101, 115, 115, 32, 111, 114, 32, 97, 110, 100, 32, 110, 111, 116, 32], [116, 97, 98, 108, 101, 32, 97, 104, 101, 97, 100, 32, 110, 101, 101, 100, 32, 115, 105, 108, 101, 110, 116, 32, 115, 104, 117, 116, 32, 115, 116, 114, 105, 107, 101, 32], [115, 117, 109, 32, 100, 97, 121, 32, 103, 111, 118, 32, 98, 121, 32, 116, 104, 105, 110, 103, 32, 97, 103, 114, 101, 101, 100, 32]]
/-- calls of the JDK's own that are laws here: Object(), System.arraycopy of ints, String.length, String.charAt -/
def jdk (k : Nat) (st : List Value) (h : Hp) : Option (List Value × Hp) := match k, st with
  | 1000, .ref _ :: r => some (r, h)
  | 1001, .int n :: .int dp :: .ref b :: .int sp :: .ref a :: r =>
    if (hC h.1 a).1 = 20 ∧ (hC h.1 b).1 = 20 ∧ ¬ sp < 0 ∧ ¬ dp < 0 ∧ ¬ n < 0 ∧ sp.toNatClampNeg + n.toNatClampNeg ≤ (hC h.1 a).2.1 ∧ dp.toNatClampNeg + n.toNatClampNeg ≤ (hC h.1 b).2.1
    then some (r, (h.1, cp2 h.2 a sp.toNatClampNeg b dp.toNatClampNeg n.toNatClampNeg)) else none
  | 1002, .ref a :: r => if 1000001 ≤ a ∧ a < 1000004 then some (.int (Int32.ofNat (strs.getD (a - 1000001) []).length) :: r, h) else none
  | 1003, .int i :: .ref a :: r => if 1000001 ≤ a ∧ a < 1000004 ∧ inbB i (strs.getD (a - 1000001) []).length = true then some (.int ((strs.getD (a - 1000001) []).getD i.toNatClampNeg 0) :: r, h) else none
  | 1004, .int y :: .int x :: r => some (.int (if x < y then y else x) :: r, h)
  | _, _ => none
/-- which kind of call an instruction is: 0 static, 1 virtual, 2 special; its pool index -/
def cko (ins : Instr) : Option (Nat × Nat) := match ins with
  | .invokestatic i => some (0, i)
  | .invokevirtual i => some (1, i)
  | .invokespecial i => some (2, i)
  | _ => none
/-- a call's receiver: for a virtual one an object of the method's class; for a constructor any object -/
def rcv (h : Hp) (j : Nat) (as : List Value) : Bool := match mKind j, as with
  | 0, _ => true
  | 1, .ref b :: _ => decide ((hC h.1 b).1 = mCo j)
  | 2, .ref _ :: _ => true
  | _, _ => false
/-- which kind of call the JDK's own want -/
def bko (k : Nat) : Nat := if k = 1000 then 2 else if k = 1001 ∨ k = 1004 then 0 else 1
/-- n: fuel; d: how many calls may stand open below -/
def run (X : Xt) : Nat → Nat → Nat → Nat → List Value → List Value → Hp → Option (Option Value × Hp)
  | 0, _, _, _, _, _, _ => none
  | n + 1, d, mi, pc, loc, st, h => match cd mi pc with
    | none => none
    | some (ins, len) => match cko ins with
      | some (kd, idx) => match ml (mCo mi) idx with
        | none => none
        | some (j, na, _) =>
          if len = 3 ∧ na ≤ st.length ∧ ((st.drop na).map (fun v => v.category)).sum ≤ 8 ∧ (st.take na).all (fun v => v.category == 1) = true then
            (if 1000 ≤ j then
              (if kd = bko j ∧ 6 ≤ d then (match jdk j st h with
                | none => none
                | some (st', h') => run X n d mi (pc + 3) loc st' h') else none)
            else (if kd = mKind j ∧ rcv h j (st.take na).reverse = true then (match d with
              | 0 => none
              | d' + 1 => match run X n d' j 0 ((st.take na).reverse ++ List.replicate (mMax j - na) unset0) [] h with
                | none => none
                | some (r, h') => run X n (d' + 1) mi (pc + 3) loc (r.toList ++ st.drop na) h') else none))
          else none
      | none => match ins, st with
        | .ireturn, [.int v] => (match mRet mi with
          | some ty => if len = 1 ∧ narrow ty (.int v) = .int v ∧ isRf ty = false then some (some (.int v), h) else none
          | none => none)
        | .return_, [] => (match mRet mi with
          | none => if len = 1 then some (none, h) else none
          | some _ => none)
        | _, _ => match stp X (mCo mi) (mKind mi == 2) pc ins len loc st h with
          | none => none
          | some (pc', loc', st', h') => run X n d mi pc' loc' st' h'
