/-! THE PURE MACHINE, second part: memory, calls, the run -/
def pmAt {α β : Type} [BEq α] (l : List (α × β)) (k : α) : Option β := (l.find? (fun e => e.1 == k)).map (fun e => e.2)
def pmNum (l : List Value) : Nat := (l.map fun v => v.category).sum
/-- the texts' lengths and bytes -/
def pmLenL : List Nat := pmStrL.map fun q => q.2.2.length
def pmLen (i : Nat) : Nat := pmLenL.getD i 0
/-- which text a pool number of a class is -/
def pmStrAt (own idx : Nat) : Option Nat := (List.range 14).find? fun i => match pmStrL[i]? with
  | some q => q.1 == own && q.2.1 == idx
  | none => false
def pmByt : List (List Int32) := pmStrL.map fun q => q.2.2.toList.map fun ch => Int32.ofNat ch.toNat
def pmGet (own idx : Nat) (T : pmT) (v : pmV) (st : List Value) : Option (List Value) := pm1r st fun a r =>
  if a < 30 then
    if own = 20 ∧ idx = 9 ∧ a % 2 = 0 ∧ a < 28 then some (.ref (a + 1) :: r)
    else if own = 20 ∧ idx = 15 ∧ a % 2 = 0 ∧ a < 28 then some (.int 0 :: r)
    else none
  else if a < 32 then none
  else match T[a - 32]? with
    | some (ci, _) => match pmAt pmFldL (own, idx) with
      | some (k, cs, _) => if ci ∈ cs then some (pmRd v (pmTy ci k) a k :: r) else none
      | none => none
    | none => none
def pmPut (own idx : Nat) (nm : String) (T : pmT) (v : pmV) (st : List Value) : Option (List Value × pmV) := match st with
  | x :: .ref a :: r => if a < 32 then none else match T[a - 32]? with
    | some (ci, _) => match pmAt pmFldL (own, idx) with
      | some (k, cs, _) => if ci ∈ cs ∧ ((pmTf ci k).2.2.2 = true → nm = "<init>" ∧ (pmTf ci k).1 = pmCn own) then (pmWr v (pmTy ci k) a k x).map fun v' => (r, v') else none
      | none => none
    | none => none
  | _ => none
def pmGst (own idx : Nat) (st : List Value) : Option (List Value) :=
  if own = 20 ∧ idx = 38 then some (.int 1 :: st) else if own = 20 ∧ idx = 1053 then some (.ref 30 :: st) else none
def pmAln (X : pmX) (T : pmT) (st : List Value) : Option (List Value) := pm1r st fun a r =>
  if a < 30 then (if a % 2 = 1 ∧ a < 28 then some (.int (Int32.ofNat (pmLen (a / 2))) :: r) else none)
  else if a = 31 then some (.int (Int32.ofNat X.1) :: r)
  else if a < 32 then none
  else match T[a - 32]? with
    | some (k, n) => if 20 ≤ k ∧ k < 25 then some (.int (Int32.ofNat n) :: r) else none
    | none => none
def pmAld (X : pmX) (ins : Instr) (T : pmT) (v : pmV) (st : List Value) : Option (List Value) := pmir st fun a i r => match ins with
  | .baload => if a % 2 = 1 ∧ a < 28 ∧ pmIn i (pmLen (a / 2)) = true then some (.int ((pmByt.getD (a / 2) []).getD i.toNatClampNeg 0) :: r) else none
  | .iaload => if a = 31 then (if pmIn i X.1 = true then some (.int (X.2 i.toNatClampNeg) :: r) else none)
    else if a < 32 then none else match T[a - 32]? with
      | some (k, n) => if k = 20 ∧ pmIn i n = true then some (.int (v.1 a i.toNatClampNeg) :: r) else none
      | none => none
  | .laload => if a < 32 then none else match T[a - 32]? with
      | some (k, n) => if k = 21 ∧ pmIn i n = true then some (.long (v.2.1 a i.toNatClampNeg) :: r) else none
      | none => none
  | .aaload => if a < 32 then none else match T[a - 32]? with
      | some (k, n) => if 22 ≤ k ∧ k < 25 ∧ pmIn i n = true then some (va_rf (v.2.2 a i.toNatClampNeg) :: r) else none
      | none => none
  | _ => none
/-- the class of an array's items -/
def pmItem (k : Nat) : Nat := if k = 22 then 3 else if k = 23 then 9 else 6
def pmAst (ins : Instr) (T : pmT) (v : pmV) (st : List Value) : Option (List Value × pmV) := match ins, st with
  | .iastore, .int x :: .int i :: .ref a :: r => if a < 32 then none else match T[a - 32]? with
      | some (k, n) => if k = 20 ∧ pmIn i n = true then some (r, uI v a i.toNatClampNeg x) else none
      | none => none
  | .lastore, .long x :: .int i :: .ref a :: r => if a < 32 then none else match T[a - 32]? with
      | some (k, n) => if k = 21 ∧ pmIn i n = true then some (r, uL v a i.toNatClampNeg x) else none
      | none => none
  | .aastore, .ref x :: .int i :: .ref a :: r => if a < 32 ∨ x < 32 then none else match T[a - 32]?, T[x - 32]? with
      | some (k, n), some (ci, _) => if 22 ≤ k ∧ k < 25 ∧ pmIn i n = true ∧ ci < 13 ∧ (ci = pmItem k ∨ (ci, pmItem k) ∈ pmCast) then some (r, uR v a i.toNatClampNeg (some x)) else none
      | _, _ => none
  | _, _ => none
def pmLdc (own idx : Nat) (st : List Value) : Option (List Value) := match pmAt pmLdcL (own, idx) with
  | some (c, _) => some (.int c :: st)
  | none => match pmStrAt own idx with
    | some i => some (.ref (2 * i) :: st)
    | none => none
def pmIs (own idx : Nat) (T : pmT) (st : List Value) : Option (List Value) := pm1r st fun a r =>
  if a < 32 then none else match T[a - 32]? with
    | some (ci, _) => match pmAt pmIsL (own, idx) with
      | some (_, ys, ns, _) => if ci ∈ ys then some (.int 1 :: r) else if ci ∈ ns then some (.int 0 :: r) else none
      | none => none
    | none => none
def pmMath2 (own idx : Nat) (st : List Value) : Option (List Value) :=
  match pmAt pmMxL (own, idx) with
  | some _ => pm2i st fun a b r => if pmNum r ≤ 8 then some (.int (if a < b then b else a) :: r) else none
  | none => match pmAt pmMnL (own, idx) with
    | some _ => pm2i st fun a b r => if pmNum r ≤ 8 then some (.int (if b < a then b else a) :: r) else none
    | none => none
def pmCopy (own idx : Nat) (T : pmT) (v : pmV) (st : List Value) : Option (List Value × pmV) := match pmAt pmAcL (own, idx) with
  | some _ => match st with
    | .int n :: .int dp :: .ref a :: .int sp :: .ref a0 :: r => if a < 32 ∨ a0 < 32 then none else match T[a - 32]?, T[a0 - 32]? with
      | some (k, n1), some (k0, n0) => if k = 20 ∧ k0 = 20 ∧ 0 ≤ sp ∧ 0 ≤ dp ∧ 0 ≤ n ∧ sp.toNatClampNeg + n.toNatClampNeg ≤ n0 ∧ dp.toNatClampNeg + n.toNatClampNeg ≤ n1 ∧ pmNum r ≤ 8 then some (r, uA v a (va_cpy (v.1 a0) (v.1 a) sp.toNatClampNeg dp.toNatClampNeg n.toNatClampNeg)) else none
      | _, _ => none
    | _ => none
  | none => none
/-- cells that come: their kind, how long -/
def pmMk (ins : Instr) (n own : Nat) (st : List Value) : Option (List Value × Nat × Nat) := match ins with
  | .new idx => if n = 3 then match pmAt pmNewL (own, idx) with
    | some (ci, _) => if ci < 13 then some (st, ci, pmN ci) else none
    | none => none else none
  | .newarray t => if n = 2 then pm1i st fun z r => if 0 ≤ z ∧ z ≤ 100000 then match t with
    | .int => some (r, 20, z.toNatClampNeg)
    | .long => some (r, 21, z.toNatClampNeg)
    | _ => none else none else none
  | .anewarray idx => if n = 3 then pm1i st fun z r => if 0 ≤ z ∧ z ≤ 100000 then match pmAt pmAnwL (own, idx) with
    | some (k, _, _) => if 22 ≤ k ∧ k < 25 then some (r, k, z.toNatClampNeg) else none
    | none => none else none else none
  | _ => none
/-- one instruction that reads or writes memory: length, stack, memory -/
def pmMem (X : pmX) (d own : Nat) (nm : String) (ins : Instr) (T : pmT) (v : pmV) (st : List Value) : Option (Nat × List Value × pmV) := match ins with
  | .getfield idx => (pmGet own idx T v st).map fun q => (3, q, v)
  | .putfield idx => (pmPut own idx nm T v st).map fun q => (3, q.1, q.2)
  | .getstatic idx => (pmGst own idx st).map fun q => (3, q, v)
  | .arraylength => (pmAln X T st).map fun q => (1, q, v)
  | .baload => (pmAld X .baload T v st).map fun q => (1, q, v)
  | .iaload => (pmAld X .iaload T v st).map fun q => (1, q, v)
  | .laload => (pmAld X .laload T v st).map fun q => (1, q, v)
  | .aaload => (pmAld X .aaload T v st).map fun q => (1, q, v)
  | .iastore => (pmAst .iastore T v st).map fun q => (1, q.1, q.2)
  | .lastore => (pmAst .lastore T v st).map fun q => (1, q.1, q.2)
  | .aastore => (pmAst .aastore T v st).map fun q => (1, q.1, q.2)
  | .ldc idx => (pmLdc own idx st).map fun q => (2, q, v)
  | .ldc2_w idx => (pmAt pmLd2L (own, idx)).map fun q => (3, .long q.1 :: st, v)
  | .instanceof idx => (pmIs own idx T st).map fun q => (3, q, v)
  | .invokestatic idx => if d = 0 then none else match pmMath2 own idx st with
    | some q => some (3, q, v)
    | none => (pmCopy own idx T v st).map fun q => (3, q.1, q.2)
  | .invokespecial idx => if d = 0 then none else match pmAt pmObL (own, idx) with
    | some _ => pm1r st fun a r => if 32 ≤ a ∧ pmNum r ≤ 8 then some (3, r, v) else none
    | none => none
  | _ => none
def pmStep (X : pmX) (d : Nat) (M : pmM) (ins : Instr) (n pc : Nat) (ls st : List Value) (T : pmT) (v : pmV) : Option (Nat × List Value × List Value × pmT × pmV) :=
  match pmAlu ins st with
  | some (k, st') => if k = n then some (pc + n, ls, st', T, v) else none
  | none => match pmLoc ins ls st with
    | some (k, ls', st') => if k = n then some (pc + n, ls', st', T, v) else none
    | none => match pmBr ins n pc st with
      | some (pc', st') => some (pc', ls, st', T, v)
      | none => match pmMem X d M.1 M.2.1.name ins T v st with
        | some (k, st', v') => if k = n then some (pc + n, ls, st', T, v') else none
        | none => match pmMk ins n M.1 st with
          | some (st', k, m) => some (pc + n, ls, .ref (32 + T.length) :: st', T ++ [(k, m)], pmNew v (32 + T.length))
          | none => none
/-- the receiver's kind: a class of ours, or a text -/
def pmKind (T : pmT) (a : Nat) : Nat := if a < 32 then (if a % 2 = 0 ∧ a < 28 then 20 else 99) else match T[a - 32]? with
  | some (ci, _) => if ci < 13 then ci else 99
  | none => 99
/-- a call: the method, its arguments (the receiver first), the rest of the stack -/
def pmCall (own : Nat) (ins : Instr) (n : Nat) (st : List Value) (T : pmT) : Option (pmM × List Value × List Value) := if n = 3 then match ins with
  | .invokestatic idx => match pmAt pmStL (own, idx) with
    | some (_, k, j, _) => if k ≤ st.length ∧ pmNum (st.drop k) ≤ 8 then (pmLs[j]?).map fun q => (q.1, (st.take k).reverse, st.drop k) else none
    | none => none
  | .invokespecial idx => match pmAt pmSpL (own, idx) with
    | some (_, k, j, _) => match st.drop k with
      | .ref a :: r => if 32 ≤ a ∧ pmKind T a < 13 ∧ k ≤ st.length ∧ pmNum r ≤ 8 then (pmLs[j]?).map fun q => (q.1, .ref a :: (st.take k).reverse, r) else none
      | _ => none
    | none => none
  | .invokevirtual idx => match pmAt pmVtL (own, idx) with
    | some (k, cs) => match st.drop k with
      | .ref a :: r => match pmAt cs (pmKind T a) with
        | some (_, j, _) => if k ≤ st.length ∧ pmNum r ≤ 8 then (pmLs[j]?).map fun q => (q.1, .ref a :: (st.take k).reverse, r) else none
        | none => none
      | _ => none
    | none => none
  | _ => none else none
/-- the run: by instructions, and by how deep it may go -/
def pmExec (X : pmX) : Nat → Nat → pmM → Nat → List Value → List Value → pmT → pmV → Option (Option Value × pmT × pmV)
  | 0, _, _, _, _, _, _, _ => none
  | f + 1, d, M, pc, ls, st, T, v => match decode M.2.2.1 pc with
    | .error _ => none
    | .ok (ins, n) => match pmRet M ins n st with
      | some r => some (r, T, v)
      | none => match pmStep X d M ins n pc ls st T v with
        | some (pc', ls', st', T', v') => pmExec X f d M pc' ls' st' T' v'
        | none => match pmCall M.1 ins n st T with
          | none => none
          | some (C, as, r) => match d with
            | 0 => none
            | d' + 1 => if (pmArgs as).length ≤ C.2.2.2.1 then match pmExec X f d' C 0 (pmPad C.2.2.2.1 (pmArgs as)) [] T v with
              | none => none
              | some (o, T', v') => pmExec X f (d' + 1) M (pc + 3) ls (o.toList ++ r) T' v' else none
