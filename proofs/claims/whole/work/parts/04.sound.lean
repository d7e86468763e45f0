/-! ===== the check of a method's blocks against its bytes ===== -/
def chkI (o nL : Nat) (ret : Option FieldType) (i : Instr) (len : Nat) (v : Int32) (a b : Nat) (pc : Nat) (ts : List (Nat × List Bool)) : Bool := match i with
  | .iconst n => len == 1 && decide (Int32.ofInt n = v)
  | .bipush n => len == 2 && decide ((Int8.ofInt n).toInt32 = v)
  | .sipush n => len == 3 && decide ((Int16.ofInt n).toInt32 = v)
  | .ldc_w n => len == 3 && decide ((o, n, v) ∈ aKT)
  | .iload n => len == 2 && n == a
  | .iload_n n => len == 1 && n.val == a
  | .aload_n n => len == 1 && n.val == a
  | .istore n => len == 2 && n == a && decide (a < nL)
  | .istore_n n => len == 1 && n.val == a && decide (a < nL)
  | .iinc n k => len == 3 && n == a && decide (a < nL) && decide (Int32.ofInt k = v)
  | .iadd => len == 1
  | .isub => len == 1
  | .imul => len == 1
  | .iand => len == 1
  | .ior => len == 1
  | .ixor => len == 1
  | .ishl => len == 1
  | .ishr => len == 1
  | .iushr => len == 1
  | .i2b => len == 1
  | .dup => len == 1
  | .dup2 => len == 1
  | .pop => len == 1
  | .getfield n => len == 3 && (decide ((o, n, a, b, false) ∈ aFT) || decide ((o, n, a, b, true) ∈ aFT))
  | .putfield n => len == 3 && (decide ((o, n, a, b, false) ∈ aFT) || decide ((o, n, a, b, true) ∈ aFT)) && (match vwCl[a]? with
    | some (_, T, _) => (T b).2.2.2 == false && ((v == 0 && decide (parseFieldDescriptor (T b).2.2.1 = some .int)) || (v == 1 && decide (parseFieldDescriptor (T b).2.2.1 = some .boolean)))
    | none => false)
  | .arraylength => len == 1
  | .iaload => len == 1
  | .baload => len == 1
  | .iastore => len == 1
  | .bastore => len == 1
  | .if_icmp _ off => len == 3 && (match ts with
    | [t, f] => decide ((pc : Int) + off = (t.1 : Int)) && f.1 == pc + 3
    | _ => false)
  | .ifCond _ off => len == 3 && (match ts with
    | [t, f] => decide ((pc : Int) + off = (t.1 : Int)) && f.1 == pc + 3
    | _ => false)
  | .goto off => len == 3 && (match ts with
    | [t] => decide ((pc : Int) + off = (t.1 : Int))
    | _ => false)
  | .tableswitch d lo hi offs => lo == 0 && hi + 1 == (offs.size : Int) && decide (ts.map (fun t => (t.1 : Int)) = (offs.toList ++ [d]).map (fun x => (pc : Int) + x)) && decide (offs.size < 1000)
  | .invokevirtual n => len == 3 && decide ((o, n, a, 0) ∈ aMT) && decide (((parseMethodDescriptor (mNm a).desc).map (fun d => d.parameters.length)) = some (b - 1)) && (match ts with
    | [t] => decide (t.1 = mOwn a)
    | _ => false)
  | .invokestatic n => len == 3 && (match ts with
    | [] => (decide ((o, n, a, 1) ∈ aMT) || decide ((o, n, a, 2) ∈ aMT)) && decide (((parseMethodDescriptor (mNm a).desc).map (fun d => d.parameters.length)) = some b)
    | (0, _) :: _ => decide ((o, n) ∈ aAT)
    | (1, _) :: _ => decide ((o, n) ∈ aXT)
    | (2, _) :: _ => decide ((o, n) ∈ aNT)
    | _ => false)
  | .ireturn => len == 1 && (decide (ret = some .int) || decide (ret = some .boolean))
  | .return_ => len == 1 && decide (ret = none)
  | _ => false
def chkO (o nL : Nat) (ret : Option FieldType) (cc : ByteArray) : Nat → List AOp → Bool
  | _, [] => true
  | p, (pc, len, i, v, a, b, ts) :: rest => p == pc && (match i with
    | .nop => (match ts with
      | [t] => t.1 == pc
      | _ => false)
    | i => decide (decode cc pc = .ok (i, len)) && chkI o nL ret i len v a b pc ts) && chkO o nL ret cc (pc + len) rest
def chkB (o nL : Nat) (ret : Option FieldType) (cc : ByteArray) (bl : List (Nat × List AOp)) : Bool := bl.all (fun q => chkO o nL ret cc q.1 q.2)
def chkM (y : Nat) : Bool := chkB (mOwn y) (mMax y) (mRet y) (mCode y) (mBl y)
