/-! THE DAY as a function of its state (e: the cells that a day leaves as they are) -/
def pK (e : pmV) (i : Nat) : Int32 := e.1 (124 + i) 0
def pNb (e : pmV) (i : Nat) : Int32 := e.1 (124 + i) 1
def pCar (e : pmV) (i : Nat) (w : Int32) : Int32 := if pK e i = 1 then pNb e i + 2 else if pK e i = 3 then (pNb e i + 2 + 1) / 2 else if pK e i = 4 then mxI 0 (pNb e i - w / 10) else pNb e i
def pBs (e : pmV) (i : Nat) : Int32 := if pK e i = 2 then 1 else if pK e i = 4 then 1 else 0
def pMay (e : pmV) (i : Nat) (m : Int32) : Bool := if pK e i = 4 then decide (m - m / 5 * 5 = 0) else decide (¬ pK e i = 5)
def pRes (e : pmV) (i : Nat) (x : Int32) : Int32 := if pK e i = 1 then x + 1 else if pK e i = 3 then x + 1 else if pK e i = 4 then 2 * x else x
def oneI (c a : Int32) : Int32 := if c = -7 then (if a = 0 then 1 else 0) else -a
def twoI (c a b : Int32) : Int32 := if c = -9 then (if a = 0 then (if b = 0 then 0 else 1) else 1) else if c = -10 then (if a = 0 then 0 else if b = 0 then 0 else 1) else if c = -11 then (if b ≤ a then 0 else 1) else if c = -12 then (if a = b then 1 else 0) else if c = -13 then a + b else if c = -14 then a - b else a * b
/-- a text's code at names: what stands, how high, and what it holds -/
def evC (nm : Nat → Int32) : List Int32 → Nat → (Nat → Int32) → (Nat → Int32)
  | [], _, f => f
  | c :: l, h, f => if -6 ≤ c then evC nm l (h + 1) (upd f h (if c < 0 then nm (-1 - c).toNatClampNeg else c)) else if -8 ≤ c then evC nm l h (upd f (h - 1) (oneI c (f (h - 1)))) else evC nm l (h - 1) (upd f (h - 1 - 1) (twoI c (f (h - 1 - 1)) (f (h - 1))))
def pNm (e : pmV) (s : dT) (w : Nat) (m : Int32) : Nat → Int32 := fun j => if j = 0 then s 0 w else if j = 1 then s 2 w else if j = 2 then m else if j = 3 then nI w else if j = 4 then s 1 w else e.1 34 2
def pVal (e : pmV) (r : Nat) (s : dT) (k w : Nat) (m : Int32) : Int32 := evC (pNm e s w m) (txC r k e) 0 (fun _ => 0) 0
def pArr (e : pmV) (r : Nat) (s : dT) (w m : Nat) : dT :=
  let q := mxI 0 (e.1 35 (w * 60 + m) + wiI (pVal e r s 2 w (nI m)) (-99) 99)
  dU (dU s 0 w (s 0 w + q)) 1 w (s 1 w + mnI q (e.1 36 (w * 60 + m)))
def pTake (s : dT) (w : Nat) (most b : Int32) : dT :=
  let q := mnI most (if b = 0 then s 0 w else s 1 w)
  let o := if b = 0 then mnI q (s 0 w - s 1 w) else 0
  dU (dU (dU s 0 w (s 0 w - q)) 1 w (s 1 w - (q - o))) 5 1 (s 5 1 + q)
def pCan (e : pmV) (n : Nat) (s : dT) (l m : Int32) : Bool := decide (0 ≤ l ∧ l ≤ nI n - 1) && (decide (s 4 l.toNatClampNeg = 0) && pMay e l.toNatClampNeg m)
def pTurnI (e : pmV) (s : dT) (i : Nat) : dT :=
  let a := (s 3 i).toNatClampNeg
  let s1 := dU (dU s 2 a (s 2 a - 1)) 3 i (1 - s 3 i)
  let b := (1 - s 3 i).toNatClampNeg
  dU (dU (dU s1 2 b (s1 2 b + 1)) 4 i (pRes e i (e.1 34 2))) 5 0 (s 5 0 + 1)
def pTurn (e : pmV) (n : Nat) (s : dT) (l m : Int32) : dT := if pCan e n s l m = true then pTurnI e s l.toNatClampNeg else s
/-- the greatest lane below k that goes not w and can turn -/
def pFind (e : pmV) (n : Nat) (s : dT) (w m : Int32) : Nat → Int32
  | 0 => -1
  | k + 1 => if s 3 k = w then pFind e n s w m k else if pCan e n s (nI k) m = true then nI k else pFind e n s w m k
def pRule (e : pmV) (n r : Nat) (s : dT) (m : Int32) : Int32 :=
  let o := pVal e r s 0 0 m
  let h := pVal e r s 0 1 m
  if mxI o h ≤ 0 then -1 else if h ≤ o then (if 2 ≤ s 2 1 then pFind e n s 0 m n else -1) else (if 2 ≤ s 2 0 then pFind e n s 1 m n else -1)
def pStop (e : pmV) (i : Nat) (m : Int32) : Bool := decide (nI i = e.1 34 3) && decide (e.1 34 4 ≤ m ∧ m ≤ e.1 34 5)
def pLead (e : pmV) (s : dT) (i : Nat) (m : Int32) : dT := if s 4 i ≤ 0 then (if nI i = s 8 1 then s else if pStop e i m = true then s else pTake s (s 3 i).toNatClampNeg (pCar e i (if s 3 i = 0 then s 9 0 else s 9 1)) (pBs e i)) else dU s 4 i (s 4 i - 1)
def pCarry (e : pmV) (m : Int32) : Nat → Nat → dT → dT
  | 0, _, s => s
  | k + 1, i, s => pCarry e m k (i + 1) (pLead e s i m)
def pPain (e : pmV) (r : Nat) (s : dT) (w : Nat) (m : Int32) : Int32 := wiI (pVal e r s 1 w m) 0 99 * s 0 w
def pTold (e : pmV) (n r : Nat) (s : dT) (m : Nat) : Int32 := if s 8 0 = 0 then s 7 m else pRule e n r s (nI m)
def pBgn (s : dT) : dT := dU (dU s 9 0 (s 0 0)) 9 1 (s 0 1)
/-- a minute but for its pain -/
def pMin (e : pmV) (n r : Nat) (s : dT) (m : Nat) : dT :=
  let s2 := pArr e r (pArr e r s 0 m) 1 m
  let s3 := pTurn e n s2 (pTold e n r s2 m) (nI m)
  pTake (pCarry e (nI m) n 0 (pBgn s3)) (s 8 2).toNatClampNeg (s 8 3) 0
def pPn (e : pmV) (r : Nat) (s : dT) (m : Nat) : Int64 := (pPain e r s 0 (nI m) + pPain e r s 1 (nI m)).toInt64
/-- minutes from m on, k of them -/
def pDay (e : pmV) (n r : Nat) : Nat → Nat → dT → Int64 → dT × Int64
  | 0, _, s, p => (s, p)
  | k + 1, m, s, p => pDay e n r k (m + 1) (pMin e n r s m) (p + pPn e r (pMin e n r s m) m)
/-- as far as ALL WAITED is below a limit -/
def pDayL (e : pmV) (n r : Nat) (L : Int64) : Nat → Nat → dT → Int64 → dT × Int64
  | 0, _, s, p => (s, p)
  | k + 1, m, s, p => if L ≤ p then (s, p) else pDayL e n r L k (m + 1) (pMin e n r s m) (p + pPn e r (pMin e n r s m) m)
/-- how many of the first k go a way -/
def pCnt (e : pmV) (w : Int32) : Nat → Int32
  | 0 => 0
  | k + 1 => pCnt e w k + (if e.1 (124 + k) 2 = w then 1 else 0)
/-- as a day begins: of what was only the plan and what is told besides counts -/
def pBeg (e : pmV) (n : Nat) (s : dT) : dT := fun q j => if q = 2 then pCnt e (nI j) n else if q = 3 then e.1 (124 + j) 2 else if q = 7 then s 7 j else if q = 8 then s 8 j else 0
theorem pDayL_0 {e : pmV} {n r : Nat} {L : Int64} {m : Nat} {s : dT} {p : Int64} : pDayL e n r L 0 m s p = (s, p) := rfl
