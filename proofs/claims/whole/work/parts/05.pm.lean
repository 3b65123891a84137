/-! THE PURE MACHINE: the bytecode run over lists and functions alone. What a word of it means for the real machine is proved in the parts behind. -/
abbrev pmT : Type := List (Nat × Nat)
abbrev pmV : Type := (Nat → Nat → Int32) × (Nat → Nat → Int64) × (Nat → Nat → Option Nat)
/-- own number, name, bytes, locals, answer's type -/
abbrev pmM : Type := Nat × MethodName × ByteArray × Nat × Option FieldType
abbrev pmX : Type := Nat × (Nat → Int32)
def pmJ : Value := .retAddr 0
def uI (v : pmV) (a j : Nat) (x : Int32) : pmV := (fun k i => if k = a ∧ i = j then x else v.1 k i, v.2.1, v.2.2)
def uL (v : pmV) (a j : Nat) (x : Int64) : pmV := (v.1, fun k i => if k = a ∧ i = j then x else v.2.1 k i, v.2.2)
def uR (v : pmV) (a j : Nat) (x : Option Nat) : pmV := (v.1, v.2.1, fun k i => if k = a ∧ i = j then x else v.2.2 k i)
/-- a row's own part taken over -/
def uA (v : pmV) (a : Nat) (f : Nat → Int32) : pmV := (fun k i => if k = a then f i else v.1 k i, v.2.1, v.2.2)
/-- a cell that is new: all 0 -/
def pmNew (v : pmV) (a : Nat) : pmV := (fun k i => if k = a then 0 else v.1 k i, fun k i => if k = a then 0 else v.2.1 k i, fun k i => if k = a then none else v.2.2 k i)
def pmIn (i : Int32) (n : Nat) : Bool := decide (0 ≤ i) && decide (i.toNatClampNeg < n)
def pm1i {α : Type} (st : List Value) (k : Int32 → List Value → Option α) : Option α := match st with
  | .int a :: r => k a r
  | _ => none
def pm2i {α : Type} (st : List Value) (k : Int32 → Int32 → List Value → Option α) : Option α := match st with
  | .int b :: .int a :: r => k a b r
  | _ => none
def pm1l {α : Type} (st : List Value) (k : Int64 → List Value → Option α) : Option α := match st with
  | .long a :: r => k a r
  | _ => none
def pm2l {α : Type} (st : List Value) (k : Int64 → Int64 → List Value → Option α) : Option α := match st with
  | .long b :: .long a :: r => k a b r
  | _ => none
def pmli {α : Type} (st : List Value) (k : Int64 → Int32 → List Value → Option α) : Option α := match st with
  | .int b :: .long a :: r => k a b r
  | _ => none
def pm1r {α : Type} (st : List Value) (k : Nat → List Value → Option α) : Option α := match st with
  | .ref a :: r => k a r
  | _ => none
/-- index over row -/
def pmir {α : Type} (st : List Value) (k : Nat → Int32 → List Value → Option α) : Option α := match st with
  | .int i :: .ref a :: r => k a i r
  | _ => none
def pm1v {α : Type} (st : List Value) (k : Value → List Value → Option α) : Option α := match st with
  | x :: r => k x r
  | _ => none
def pmdup2 (st : List Value) : Option (Nat × List Value) := match st with
  | a :: r => if a.category = 2 then some (1, a :: a :: r) else match r with
    | b :: r2 => if b.category = 1 then some (1, a :: b :: a :: b :: r2) else none
    | _ => none
  | _ => none
def pmAlu (ins : Instr) (st : List Value) : Option (Nat × List Value) := match ins with
  | .aconst_null => some (1, .null :: st)
  | .bipush b => some (2, .int (Int8.ofInt b).toInt32 :: st)
  | .sipush b => some (3, .int (Int16.ofInt b).toInt32 :: st)
  | .iconst i => some (1, .int (Int32.ofInt i) :: st)
  | .lconst l => some (1, .long (Int64.ofNat (l : Nat)) :: st)
  | .dup => pm1v st fun x r => if x.category = 1 then some (1, x :: x :: r) else none
  | .pop => pm1v st fun x r => if x.category = 1 then some (1, r) else none
  | .dup2 => pmdup2 st
  | .iadd => pm2i st fun a b r => some (1, .int (a + b) :: r)
  | .isub => pm2i st fun a b r => some (1, .int (a - b) :: r)
  | .imul => pm2i st fun a b r => some (1, .int (a * b) :: r)
  | .idiv => pm2i st fun a b r => if b = 0 then none else some (1, .int (a / b) :: r)
  | .irem => pm2i st fun a b r => if b = 0 then none else some (1, .int (a - a / b * b) :: r)
  | .iand => pm2i st fun a b r => some (1, .int (a &&& b) :: r)
  | .ior => pm2i st fun a b r => some (1, .int (a ||| b) :: r)
  | .ishl => pm2i st fun a b r => some (1, .int (a <<< (b &&& 31)) :: r)
  | .ishr => pm2i st fun a b r => some (1, .int (a >>> (b &&& 31)) :: r)
  | .ineg => pm1i st fun a r => some (1, .int (-a) :: r)
  | .ladd => pm2l st fun a b r => some (1, .long (a + b) :: r)
  | .lsub => pm2l st fun a b r => some (1, .long (a - b) :: r)
  | .lmul => pm2l st fun a b r => some (1, .long (a * b) :: r)
  | .land => pm2l st fun a b r => some (1, .long (a &&& b) :: r)
  | .lor => pm2l st fun a b r => some (1, .long (a ||| b) :: r)
  | .lshl => pmli st fun a b r => some (1, .long (a <<< (b.toInt64 &&& 63)) :: r)
  | .lshr => pmli st fun a b r => some (1, .long (a >>> (b.toInt64 &&& 63)) :: r)
  | .lcmp => pm2l st fun a b r => some (1, .int (lg_cmp a b) :: r)
  | .i2l => pm1i st fun a r => some (1, .long a.toInt64 :: r)
  | .l2i => pm1l st fun a r => some (1, .int a.toInt32 :: r)
  | .i2b => pm1i st fun a r => some (1, .int a.toInt8.toInt32 :: r)
  | .i2s => pm1i st fun a r => some (1, .int a.toInt16.toInt32 :: r)
  | .i2c => pm1i st fun a r => some (1, .int (a.toUInt32 % 65536).toInt32 :: r)
  | _ => none
def pmClr (ls : List Value) (i : Nat) : List Value := match i with
  | 0 => ls
  | j + 1 => match ls[j]? with
    | some w => if w.category = 2 then ls.set j pmJ else ls
    | none => ls
def pmSet (ls : List Value) (i : Nat) (x : Value) : List Value := if x.category = 2 then ((pmClr ls i).set i x).set (i + 1) pmJ else (pmClr ls i).set i x
def pmGi (ls st : List Value) (i n : Nat) : Option (Nat × List Value × List Value) := match ls[i]? with
  | some (.int x) => some (n, ls, .int x :: st)
  | _ => none
def pmGl (ls st : List Value) (i n : Nat) : Option (Nat × List Value × List Value) := match ls[i]? with
  | some (.long x) => some (n, ls, .long x :: st)
  | _ => none
def pmGr (ls st : List Value) (i n : Nat) : Option (Nat × List Value × List Value) := match ls[i]? with
  | some (.ref x) => if x ≠ 30 then some (n, ls, .ref x :: st) else none
  | some .null => some (n, ls, .null :: st)
  | _ => none
def pmSi (ls st : List Value) (i n : Nat) : Option (Nat × List Value × List Value) := match st with
  | .int x :: r => if i < ls.length then some (n, pmSet ls i (.int x), r) else none
  | _ => none
def pmSl (ls st : List Value) (i n : Nat) : Option (Nat × List Value × List Value) := match st with
  | .long x :: r => if i + 1 < ls.length then some (n, pmSet ls i (.long x), r) else none
  | _ => none
def pmSr (ls st : List Value) (i n : Nat) : Option (Nat × List Value × List Value) := match st with
  | .ref x :: r => if i < ls.length ∧ x ≠ 30 then some (n, pmSet ls i (.ref x), r) else none
  | .null :: r => if i < ls.length then some (n, pmSet ls i .null, r) else none
  | _ => none
def pmInc (ls st : List Value) (i : Nat) (k : Int) : Option (Nat × List Value × List Value) := match ls[i]? with
  | some (.int x) => if i < ls.length then some (3, pmSet ls i (.int (x + Int32.ofInt k)), st) else none
  | _ => none
def pmLoc (ins : Instr) (ls st : List Value) : Option (Nat × List Value × List Value) := match ins with
  | .iload_n k => pmGi ls st (k : Nat) 1
  | .iload k => pmGi ls st k 2
  | .lload_n k => pmGl ls st (k : Nat) 1
  | .lload k => pmGl ls st k 2
  | .aload_n k => pmGr ls st (k : Nat) 1
  | .aload k => pmGr ls st k 2
  | .istore_n k => pmSi ls st (k : Nat) 1
  | .istore k => pmSi ls st k 2
  | .lstore_n k => pmSl ls st (k : Nat) 1
  | .lstore k => pmSl ls st k 2
  | .astore_n k => pmSr ls st (k : Nat) 1
  | .astore k => pmSr ls st k 2
  | .iinc i k => pmInc ls st i k
  | _ => none
def pmC0 (c : ClassFile.Cond) (x : Int32) : Bool := match c with
  | .eq => decide (x = 0)
  | .ne => !decide (x = 0)
  | .lt => decide (x < 0)
  | .ge => decide (0 ≤ x)
  | .gt => decide (0 < x)
  | .le => decide (x ≤ 0)
def pmC2 (c : ClassFile.Cond) (x y : Int32) : Bool := match c with
  | .eq => decide (x = y)
  | .ne => !decide (x = y)
  | .lt => decide (x < y)
  | .ge => decide (y ≤ x)
  | .gt => decide (y < x)
  | .le => decide (x ≤ y)
def pmGo (pc : Nat) (off : Int) (st : List Value) : Option (Nat × List Value) := if 0 ≤ (pc : Int) + off then some (((pc : Int) + off).toNat, st) else none
def pmGo2 (pc : Nat) (off : Int) (t : Bool) (st : List Value) : Option (Nat × List Value) := if 0 ≤ (pc : Int) + off then some (if t = true then ((pc : Int) + off).toNat else pc + 3, st) else none
def pmBr (ins : Instr) (n pc : Nat) (st : List Value) : Option (Nat × List Value) := match ins with
  | .goto off => if n = 3 then pmGo pc off st else none
  | .ifCond c off => if n = 3 then pm1i st fun x r => pmGo2 pc off (pmC0 c x) r else none
  | .if_icmp c off => if n = 3 then pm2i st fun x y r => pmGo2 pc off (pmC2 c x y) r else none
  | .ifnull off => if n = 3 then pm1v st fun x r => match x with
    | .null => pmGo pc off r
    | .ref a => if 32 ≤ a then some (pc + 3, r) else none
    | _ => none else none
  | .ifnonnull off => if n = 3 then pm1v st fun x r => match x with
    | .null => some (pc + 3, r)
    | .ref a => if 32 ≤ a then pmGo pc off r else none
    | _ => none else none
  | .tableswitch dflt lo hi offs => pm1i st fun x r => if x.toInt < lo ∨ hi < x.toInt then pmGo pc dflt r else match offs[(x.toInt - lo).toNat]? with
    | some off => pmGo pc off r
    | none => none
  | _ => none
/-- a call's own locals -/
def pmArgs : List Value → List Value
  | [] => []
  | x :: r => if x.category = 2 then x :: pmJ :: pmArgs r else x :: pmArgs r
def pmPad (n : Nat) (l : List Value) : List Value := l ++ List.replicate (n - l.length) pmJ
def pmRet (M : pmM) (ins : Instr) (n : Nat) (st : List Value) : Option (Option Value) := match ins with
  | .return_ => if n = 1 ∧ st = [] ∧ M.2.2.2.2 = none then some none else none
  | .ireturn => match st with
    | [.int x] => match M.2.2.2.2 with
      | some ty => if n = 1 ∧ narrow ty (.int x) = .int x then some (some (.int x)) else none
      | none => none
    | _ => none
  | .lreturn => match st with
    | [.long x] => if n = 1 ∧ M.2.2.2.2 = some .long then some (some (.long x)) else none
    | _ => none
  | .areturn => match st with
    | [.ref x] => match M.2.2.2.2 with
      | some (.object _) => if n = 1 ∧ x ≠ 30 then some (some (.ref x)) else none
      | _ => none
    | [.null] => match M.2.2.2.2 with
      | some (.object _) => if n = 1 then some (some .null) else none
      | _ => none
    | _ => none
  | _ => none
/-- what a field of a type holds -/
def pmRd (v : pmV) (ty : FieldType) (a j : Nat) : Value := match ty with
  | .long => .long (v.2.1 a j)
  | .object _ => va_rf (v.2.2 a j)
  | .array _ => va_rf (v.2.2 a j)
  | _ => .int (v.1 a j)
def pmWr (v : pmV) (ty : FieldType) (a j : Nat) (x : Value) : Option pmV := match ty, x with
  | .int, .int y => some (uI v a j y)
  | .boolean, .int y => if y = 0 ∨ y = 1 then some (uI v a j y) else none
  | .long, .long y => some (uL v a j y)
  | .object _, .ref r => if 32 ≤ r then some (uR v a j (some r)) else none
  | .object _, .null => some (uR v a j none)
  | .array _, .ref r => if 32 ≤ r then some (uR v a j (some r)) else none
  | .array _, .null => some (uR v a j none)
  | _, _ => none
