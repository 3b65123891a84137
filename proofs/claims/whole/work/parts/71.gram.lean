/-! TEXTS: the grammar of the class (gP) and the reference's with signs that wait (rE), over tokens; that both do the same -/
/-- a sign between two of a level: its code, 0 for none (0 or, 1 and, 4 sum, 5 term) -/
def bOp (l : Nat) (c : Int32) : Int32 := if l = 0 ∧ c = 7 then -9 else if l = 1 ∧ c = 8 then -10 else if l = 4 ∧ c = 43 then -13 else if l = 4 ∧ c = 45 then -14 else if l = 5 ∧ c = 42 then -15 else 0
/-- the class's grammar: levels 0 or, 1 and, 2 not, 3 compared, 4 sum, 5 term, 6 one; 10 more: its loop; answer: good, the next token, the codes -/
def gP (tok val : Nat → Int32) : Nat → Nat → Nat → Bool → Nat → List Int32 → Option (Bool × Nat × List Int32)
  | 0, _, _, _, _, _ => none
  | f + 1, l, op, g, k, cs =>
    if l = 2 then (if tok k = 9 then (if 5 ≤ op then some (false, k, cs) else match gP tok val f 2 (op + 1) true (k + 1) cs with
      | none => none
      | some r => some (r.1, r.2.1, r.2.2 ++ [-7])) else gP tok val f 3 op true k cs)
    else if l = 3 then (match gP tok val f 4 op true k cs with
      | none => none
      | some r => if r.1 = true then (if tok r.2.1 = 60 ∨ tok r.2.1 = 61 then match gP tok val f 4 op true (r.2.1 + 1) r.2.2 with
        | none => none
        | some q => some (q.1, q.2.1, q.2.2 ++ [if tok r.2.1 = 60 then -11 else -12]) else some r) else some r)
    else if l = 6 then (if tok k = 2 ∨ tok k = 3 then some (true, k + 1, cs ++ [val k]) else if 5 ≤ op then some (false, k, cs) else if tok k = 40 then (match gP tok val f 0 (op + 1) true (k + 1) cs with
      | none => none
      | some r => if r.1 = true ∧ tok r.2.1 = 41 then some (true, r.2.1 + 1, r.2.2) else some (false, r.2.1, r.2.2)) else if tok k = 45 then (match gP tok val f 6 (op + 1) true (k + 1) cs with
      | none => none
      | some r => some (r.1, r.2.1, r.2.2 ++ [-8])) else some (false, k, cs))
    else if 10 ≤ l then (if g = true ∧ bOp (l - 10) (tok k) ≠ 0 then (match gP tok val f (l - 10 + 1) op true (k + 1) cs with
      | none => none
      | some r => gP tok val f l op r.1 r.2.1 (r.2.2 ++ [bOp (l - 10) (tok k)])) else some (g, k, cs))
    else (match gP tok val f (l + 1) op true k cs with
      | none => none
      | some r => gP tok val f (l + 10) op r.1 r.2.1 r.2.2)
/-- how strong a sign binds -/
def sStr (s : Int32) : Nat := if s = 2 then 1 else if s = 3 then 2 else if s = 4 then 3 else if s = 5 then 4 else if s = 6 then 4 else if s = 7 then 5 else if s = 8 then 5 else if s = 9 then 6 else if s = 10 then 7 else 0
def sCod (s : Int32) : Int32 := if s = 2 then -9 else if s = 3 then -10 else if s = 4 then -7 else if s = 5 then -11 else if s = 6 then -12 else if s = 7 then -13 else if s = 8 then -14 else if s = 9 then -15 else -8
abbrev rS : Type := List Int32 × List Int32 × Nat
/-- signs no weaker than so much are done -/
def stl (L : Nat) : List Int32 → List Int32 → Nat → rS
  | [], cs, op => ([], cs, op)
  | s :: W, cs, op => if L ≤ sStr s then stl L W (cs ++ [sCod s]) (if s = 4 ∨ s = 10 then op - 1 else op) else (s :: W, cs, op)
def topS (W : List Int32) : Nat := match W with
  | [] => 0
  | s :: _ => sStr s
def sgOf (c : Int32) : Int32 := if c = 42 then 9 else if c = 43 then 7 else if c = 45 then 8 else if c = 60 then 5 else if c = 61 then 6 else if c = 8 then 3 else if c = 7 then 2 else 0
def rOne (c x : Int32) (m : Bool) (q : rS) : Option (rS × Bool) :=
  if c = 2 ∨ c = 3 then some (stl 7 q.1 (q.2.1 ++ [x]) q.2.2, false) else if c = 45 then (if q.2.2 = 5 then none else some ((10 :: q.1, q.2.1, q.2.2 + 1), true)) else if c = 40 then (if q.2.2 = 5 then none else some ((20 :: q.1, q.2.1, q.2.2 + 1), true)) else if c = 9 ∧ m = true then (if q.2.2 = 5 then none else some ((4 :: q.1, q.2.1, q.2.2 + 1), true)) else none
def rSgn (c : Int32) (q : rS) : Option (rS × Bool) :=
  if sgOf c ≠ 0 then (if (sgOf c = 5 ∨ sgOf c = 6) ∧ topS (stl 5 q.1 q.2.1 q.2.2).1 = 4 then none else let r := stl (if sgOf c = 5 ∨ sgOf c = 6 then 5 else sStr (sgOf c)) q.1 q.2.1 q.2.2
    some ((sgOf c :: r.1, r.2), true)) else if c = 41 then (match stl 1 q.1 q.2.1 q.2.2 with
    | (20 :: W, cs, op) => some (stl 7 W cs (op - 1), false)
    | _ => none) else none
/-- the reference's: good, the place where it ends, the codes -/
def rE (tok val : Nat → Int32) : Nat → Nat → rS → Bool → Bool → Bool × Nat × List Int32
  | 0, k, q, _, _ => (false, k, q.2.1)
  | f + 1, k, q, w, m =>
    if w = false ∧ tok k ≠ 41 ∧ (tok k = 59 ∨ tok k = 0 ∨ tok k = 1) then (decide ((stl 1 q.1 q.2.1 q.2.2).1 = []) && decide (tok k = 59), k, (stl 1 q.1 q.2.1 q.2.2).2.1)
    else if w = true then (match rOne (tok k) (val k) m q with
      | none => (false, k, q.2.1)
      | some r => rE tok val f (k + 1) r.1 r.2 (decide (tok k = 9) || decide (tok k = 40)))
    else (match rSgn (tok k) q with
      | none => (false, k, q.2.1)
      | some r => rE tok val f (k + 1) r.1 r.2 (decide (3 ≤ tok k ∧ tok k ≤ 9)))
theorem stl_low {L : Nat} {W cs : List Int32} {op : Nat} (h : topS W < L) : stl L W cs op = (W, cs, op) := by
  cases W with
  | nil => rfl
  | cons s W => rw [stl, if_neg]; unfold topS at h; dsimp only at h; omega
theorem stl_stl {L L' : Nat} (h : L' ≤ L) : ∀ (W cs : List Int32) (op : Nat), stl L' (stl L W cs op).1 (stl L W cs op).2.1 (stl L W cs op).2.2 = stl L' W cs op
  | [], _, _ => rfl
  | s :: W, cs, op => by
    by_cases hs : L ≤ sStr s
    · rw [show stl L (s :: W) cs op = stl L W (cs ++ [sCod s]) (if s = 4 ∨ s = 10 then op - 1 else op) by rw [stl, if_pos hs], stl_stl h W, show stl L' (s :: W) cs op = stl L' W (cs ++ [sCod s]) (if s = 4 ∨ s = 10 then op - 1 else op) by rw [stl, if_pos (by omega)]]
    · rw [show stl L (s :: W) cs op = (s :: W, cs, op) by rw [stl, if_neg hs]]
/-- the same but for signs of a strength that wait -/
def SE (L : Nat) (q : rS) (W cs : List Int32) (op : Nat) : Prop := stl L q.1 q.2.1 q.2.2 = stl L W cs op
theorem SE.le {L L' : Nat} {q : rS} {W cs : List Int32} {op : Nat} (h : SE L q W cs op) (hl : L' ≤ L) : SE L' q W cs op := by
  unfold SE at *
  rw [← stl_stl hl q.1, h, stl_stl hl]
/-- which tokens stand behind a level: none that it would have taken -/
def Rej (l : Nat) (c : Int32) (q : rS) : Prop := (l ≤ 5 → c ≠ 42) ∧ (l ≤ 4 → c ≠ 43 ∧ c ≠ 45) ∧ (l ≤ 3 → (c = 60 ∨ c = 61) → topS (stl 5 q.1 q.2.1 q.2.2).1 = 4) ∧ (l ≤ 1 → c ≠ 8) ∧ (l ≤ 0 → c ≠ 7)
def pLv (l : Nat) : Nat := if l = 2 then 3 else if l = 6 then 7 else l
/-- so many tokens on, the reference's machine stands so -/
def Run (tok val : Nat → Int32) (k : Nat) (q : rS) (w m : Bool) (k' : Nat) (q' : rS) (w' m' : Bool) : Prop := k ≤ k' ∧ ∀ f, rE tok val (f + (k' - k)) k q w m = rE tok val f k' q' w' m'
def Bad (tok val : Nat → Int32) (k : Nat) (q : rS) (w m : Bool) (k' : Nat) : Prop := k ≤ k' ∧ ∀ f, ∃ c2, rE tok val (f + (k' - k) + 1) k q w m = (false, k', c2)
theorem Run.refl {tok val : Nat → Int32} (k : Nat) (q : rS) (w m : Bool) : Run tok val k q w m k q w m := ⟨Nat.le_refl _, fun f => by rw [Nat.sub_self, Nat.add_zero]⟩
theorem Run.trans {tok val : Nat → Int32} {k k1 k2 : Nat} {q q1 q2 : rS} {w w1 w2 m m1 m2 : Bool} (h : Run tok val k q w m k1 q1 w1 m1) (h' : Run tok val k1 q1 w1 m1 k2 q2 w2 m2) : Run tok val k q w m k2 q2 w2 m2 :=
  ⟨Nat.le_trans h.1 h'.1, fun f => by
    have a := h.1; have b := h'.1
    rw [show f + (k2 - k) = f + (k2 - k1) + (k1 - k) by omega, h.2, h'.2]⟩
theorem Run.bad {tok val : Nat → Int32} {k k1 k2 : Nat} {q q1 : rS} {w w1 m m1 : Bool} (h : Run tok val k q w m k1 q1 w1 m1) (h' : Bad tok val k1 q1 w1 m1 k2) : Bad tok val k q w m k2 :=
  ⟨Nat.le_trans h.1 h'.1, fun f => by
    have a := h.1; have b := h'.1
    rw [show f + (k2 - k) + 1 = f + (k2 - k1) + 1 + (k1 - k) by omega, h.2]
    exact h'.2 f⟩
theorem Run.one {tok val : Nat → Int32} {k : Nat} {q : rS} {m : Bool} {r : rS × Bool} (h : rOne (tok k) (val k) m q = some r) : Run tok val k q true m (k + 1) r.1 r.2 (decide (tok k = 9) || decide (tok k = 40)) :=
  ⟨Nat.le_succ _, fun f => by rw [show f + (k + 1 - k) = f + 1 by omega, rE, if_neg (by simp), if_pos rfl, h]⟩
theorem Run.sgn {tok val : Nat → Int32} {k : Nat} {q : rS} {m : Bool} {r : rS × Bool} (he : tok k ≠ 59 ∧ tok k ≠ 0 ∧ tok k ≠ 1) (h : rSgn (tok k) q = some r) : Run tok val k q false m (k + 1) r.1 r.2 (decide (3 ≤ tok k ∧ tok k ≤ 9)) :=
  ⟨Nat.le_succ _, fun f => by
    have hn : ¬ (false = false ∧ tok k ≠ 41 ∧ (tok k = 59 ∨ tok k = 0 ∨ tok k = 1)) := by
      rintro ⟨_, _, e | e | e⟩
      · exact he.1 e
      · exact he.2.1 e
      · exact he.2.2 e
    rw [show f + (k + 1 - k) = f + 1 by omega, rE, if_neg hn, if_neg (by simp), h]⟩
theorem Bad.one {tok val : Nat → Int32} {k : Nat} {q : rS} {m : Bool} (h : rOne (tok k) (val k) m q = none) : Bad tok val k q true m k :=
  ⟨Nat.le_refl _, fun f => ⟨q.2.1, by rw [Nat.sub_self, Nat.add_zero, rE, if_neg (by simp), if_pos rfl, h]⟩⟩
theorem Bad.sgn {tok val : Nat → Int32} {k : Nat} {q : rS} {m : Bool} (h : rSgn (tok k) q = none) (h1 : tok k = 59 ∨ tok k = 0 ∨ tok k = 1 → (stl 1 q.1 q.2.1 q.2.2).1 ≠ []) : Bad tok val k q false m k :=
  ⟨Nat.le_refl _, fun f => by
    rw [Nat.sub_self, Nat.add_zero, rE]
    by_cases c : false = false ∧ tok k ≠ 41 ∧ (tok k = 59 ∨ tok k = 0 ∨ tok k = 1)
    · rw [if_pos c, decide_eq_false (h1 c.2.2)]; exact ⟨_, rfl⟩
    · rw [if_neg c, if_neg (by simp), h]; exact ⟨_, rfl⟩⟩
def rGood (tok val : Nat → Int32) (l : Nat) (W cs : List Int32) (op : Nat) (m : Bool) (k k' : Nat) (cs' : List Int32) : Prop := ∃ (q : rS) (m2 : Bool), Run tok val k (W, cs, op) true m k' q false m2 ∧ SE (l + 1) q W cs' op ∧ Rej l (tok k') q
/-- of a loop: from a state in which an operand stands -/
def lGood (tok val : Nat → Int32) (l : Nat) (q : rS) (m : Bool) (W : List Int32) (op k k' : Nat) (cs' : List Int32) : Prop := ∃ (q2 : rS) (m2 : Bool), Run tok val k q false m k' q2 false m2 ∧ SE (l + 1) q2 W cs' op ∧ Rej l (tok k') q2
theorem bOp_spec {l : Nat} {c : Int32} (hl : l = 0 ∨ l = 1 ∨ l = 4 ∨ l = 5) (h : bOp l c ≠ 0) : sgOf c ≠ 0 ∧ sStr (sgOf c) = l + 1 ∧ sCod (sgOf c) = bOp l c ∧ ¬ (sgOf c = 5 ∨ sgOf c = 6) ∧ ¬ (sgOf c = 4 ∨ sgOf c = 10) ∧ c ≠ 59 ∧ c ≠ 0 ∧ c ≠ 1 ∧ (l ≤ 1 → decide (3 ≤ c ∧ c ≤ 9) = true) ∧ (4 ≤ l → decide (3 ≤ c ∧ c ≤ 9) = false) := by
  rcases hl with rfl | rfl | rfl | rfl
  · by_cases h1 : c = 7
    · subst h1; decide
    · exact absurd (by unfold bOp; simp [h1]) h
  · by_cases h1 : c = 8
    · subst h1; decide
    · exact absurd (by unfold bOp; simp [h1]) h
  · by_cases h1 : c = 43
    · subst h1; decide
    · by_cases h2 : c = 45
      · subst h2; decide
      · exact absurd (by unfold bOp; simp [h1, h2]) h
  · by_cases h1 : c = 42
    · subst h1; decide
    · exact absurd (by unfold bOp; simp [h1]) h
theorem bOp_no {l : Nat} {c : Int32} (hl : l = 0 ∨ l = 1 ∨ l = 4 ∨ l = 5) (h : bOp l c = 0) {q : rS} (hr : Rej (l + 1) c q) : Rej l c q := by
  obtain ⟨a1, a2, a3, a4, a5⟩ := hr
  rcases hl with rfl | rfl | rfl | rfl
  · refine ⟨fun _ => a1 (by omega), fun _ => a2 (by omega), fun _ => a3 (by omega), fun _ => a4 (by omega), fun _ e => ?_⟩
    subst e; exact absurd h (by decide)
  · refine ⟨fun _ => a1 (by omega), fun _ => a2 (by omega), fun _ => a3 (by omega), fun _ e => ?_, fun q => absurd q (by omega)⟩
    subst e; exact absurd h (by decide)
  · refine ⟨fun _ => a1 (by omega), fun _ => ⟨fun e => ?_, fun e => ?_⟩, fun q => absurd q (by omega), fun q => absurd q (by omega), fun q => absurd q (by omega)⟩
    · subst e; exact absurd h (by decide)
    · subst e; exact absurd h (by decide)
  · refine ⟨fun _ e => ?_, fun q => absurd q (by omega), fun q => absurd q (by omega), fun q => absurd q (by omega), fun q => absurd q (by omega)⟩
    subst e; exact absurd h (by decide)
/-- tokens read and codes made only grow, codes no more than tokens -/
theorem gP_mono {tok val : Nat → Int32} : ∀ (f l op : Nat) (g : Bool) (k : Nat) (cs : List Int32) (r : Bool × Nat × List Int32), gP tok val f l op g k cs = some r → k ≤ r.2.1 ∧ r.2.2.length + k ≤ cs.length + r.2.1 ∧ (l ≤ 6 → r.1 = true → k < r.2.1)
  | 0, _, _, _, _, _, _, h => by cases h
  | f + 1, l, op, g, k, cs, r, h => by
    rw [gP] at h
    by_cases l2 : l = 2
    · subst l2
      rw [if_pos rfl] at h
      by_cases t9 : tok k = 9
      · rw [if_pos t9] at h
        by_cases o5 : 5 ≤ op
        · rw [if_pos o5] at h; cases h; exact ⟨Nat.le_refl _, Nat.le_refl _, fun _ e => by cases e⟩
        · rw [if_neg o5] at h
          cases hg : gP tok val f 2 (op + 1) true (k + 1) cs with
          | none => rw [hg] at h; cases h
          | some q =>
            rw [hg] at h; cases h
            obtain ⟨a1, a2, a3⟩ := gP_mono f 2 _ _ _ _ q hg
            dsimp only
            rw [List.length_append]
            exact ⟨by omega, by simp only [List.length_singleton]; omega, fun _ e => by omega⟩
      · rw [if_neg t9] at h
        obtain ⟨a1, a2, a3⟩ := gP_mono f 3 _ _ _ _ r h
        exact ⟨a1, a2, fun _ e => a3 (by omega) e⟩
    rw [if_neg l2] at h
    by_cases l3 : l = 3
    · subst l3
      rw [if_pos rfl] at h
      cases hg : gP tok val f 4 op true k cs with
      | none => rw [hg] at h; cases h
      | some q =>
        rw [hg] at h
        dsimp only at h
        obtain ⟨a1, a2, a3⟩ := gP_mono f 4 _ _ _ _ q hg
        by_cases q1 : q.1 = true
        · rw [if_pos q1] at h
          by_cases c6 : tok q.2.1 = 60 ∨ tok q.2.1 = 61
          · rw [if_pos c6] at h
            cases hg2 : gP tok val f 4 op true (q.2.1 + 1) q.2.2 with
            | none => rw [hg2] at h; cases h
            | some p =>
              rw [hg2] at h; cases h
              obtain ⟨b1, b2, b3⟩ := gP_mono f 4 _ _ _ _ p hg2
              dsimp only
              rw [List.length_append]
              exact ⟨by omega, by simp only [List.length_singleton]; omega, fun _ e => by omega⟩
          · rw [if_neg c6] at h; cases h; exact ⟨a1, a2, fun _ e => a3 (by omega) e⟩
        · rw [if_neg q1] at h; cases h; exact ⟨a1, a2, fun _ e => a3 (by omega) e⟩
    rw [if_neg l3] at h
    by_cases l6 : l = 6
    · subst l6
      rw [if_pos rfl] at h
      by_cases t2 : tok k = 2 ∨ tok k = 3
      · rw [if_pos t2] at h; cases h
        dsimp only
        rw [List.length_append]
        exact ⟨by omega, by simp only [List.length_singleton]; omega, fun _ _ => by omega⟩
      rw [if_neg t2] at h
      by_cases o5 : 5 ≤ op
      · rw [if_pos o5] at h; cases h; exact ⟨Nat.le_refl _, Nat.le_refl _, fun _ e => by cases e⟩
      rw [if_neg o5] at h
      by_cases t40 : tok k = 40
      · rw [if_pos t40] at h
        cases hg : gP tok val f 0 (op + 1) true (k + 1) cs with
        | none => rw [hg] at h; cases h
        | some q =>
          rw [hg] at h
          dsimp only at h
          obtain ⟨a1, a2, a3⟩ := gP_mono f 0 _ _ _ _ q hg
          by_cases c : q.1 = true ∧ tok q.2.1 = 41
          · rw [if_pos c] at h; cases h; dsimp only; exact ⟨by omega, by omega, fun _ _ => by omega⟩
          · rw [if_neg c] at h; cases h; dsimp only; exact ⟨by omega, by omega, fun _ e => by cases e⟩
      rw [if_neg t40] at h
      by_cases t45 : tok k = 45
      · rw [if_pos t45] at h
        cases hg : gP tok val f 6 (op + 1) true (k + 1) cs with
        | none => rw [hg] at h; cases h
        | some q =>
          rw [hg] at h; cases h
          obtain ⟨a1, a2, a3⟩ := gP_mono f 6 _ _ _ _ q hg
          dsimp only
          rw [List.length_append]
          exact ⟨by omega, by simp only [List.length_singleton]; omega, fun _ e => by omega⟩
      · rw [if_neg t45] at h; cases h; exact ⟨Nat.le_refl _, Nat.le_refl _, fun _ e => by cases e⟩
    rw [if_neg l6] at h
    by_cases l10 : 10 ≤ l
    · rw [if_pos l10] at h
      by_cases c : g = true ∧ bOp (l - 10) (tok k) ≠ 0
      · rw [if_pos c] at h
        cases hg : gP tok val f (l - 10 + 1) op true (k + 1) cs with
        | none => rw [hg] at h; cases h
        | some q =>
          rw [hg] at h
          dsimp only at h
          obtain ⟨a1, a2, _⟩ := gP_mono f _ _ _ _ _ q hg
          obtain ⟨b1, b2, _⟩ := gP_mono f _ _ _ _ _ r h
          rw [List.length_append] at b2
          simp only [List.length_singleton] at b2
          exact ⟨by omega, by omega, fun e => by omega⟩
      · rw [if_neg c] at h; cases h; exact ⟨Nat.le_refl _, Nat.le_refl _, fun e => by omega⟩
    · rw [if_neg l10] at h
      cases hg : gP tok val f (l + 1) op true k cs with
      | none => rw [hg] at h; cases h
      | some q =>
        rw [hg] at h
        dsimp only at h
        obtain ⟨a1, a2, a3⟩ := gP_mono f _ _ _ _ _ q hg
        obtain ⟨b1, b2, _⟩ := gP_mono f _ _ _ _ _ r h
        refine ⟨by omega, by omega, fun hl e => ?_⟩
        by_cases q1 : q.1 = true
        · have := a3 (by omega) q1; omega
        · have hq : q.1 = false := by cases hh : q.1 <;> simp_all
          rw [hq] at h
          cases f with
          | zero => cases h
          | succ f =>
            rw [gP, if_neg (by omega), if_neg (by omega), if_neg (by omega), if_pos (by omega), if_neg (by simp)] at h
            cases h; cases e
