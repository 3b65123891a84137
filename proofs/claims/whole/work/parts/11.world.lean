/-! worlds: what the pure memory is on the real heap -/
def pmFv (v : pmV) (al : Nat → Nat) (ty : FieldType) (a j : Nat) : Value := match ty with
  | .long => .long (v.2.1 a j)
  | .object _ => va_rf ((v.2.2 a j).map al)
  | .array _ => va_rf ((v.2.2 a j).map al)
  | _ => .int (v.1 a j)
def pmFs (v : pmV) (al : Nat → Nat) (ci a : Nat) : List Value := (List.range (pmN ci)).map fun j => pmFv v al (pmTy ci j) a j
def pmCell (cA : Nat → ClassId) (v : pmV) (al : Nat → Nat) (a : Nat) (q : Nat × Nat) : va_E :=
  if q.1 < 20 then .inr (q.1, pmFs v al q.1 a)
  else if q.1 = 20 then .inl (cA 0, q.2, .inl (v.1 a))
  else if q.1 = 21 then .inl (cA 1, q.2, .inr (.inl (v.2.1 a)))
  else .inl (cA (q.1 - 20), q.2, .inr (.inr (.inr (.inr (fun j => (v.2.2 a j).map al)))))
def pmWo (cA : Nat → ClassId) (al : Nat → Nat) (T : pmT) (v : pmV) : va_W := (List.range T.length).map fun i => (al (32 + i), pmCell cA v al (32 + i) (T.getD i (0, 0)))
theorem pmWo_at {cA : Nat → ClassId} {al : Nat → Nat} {T : pmT} {v : pmV} {i : Nat} {q : Nat × Nat} (h : T[i]? = some q) : (pmWo cA al T v)[i]? = some (al (32 + i), pmCell cA v al (32 + i) q) := by
  have hl := (List.getElem?_eq_some_iff.mp h).1
  unfold pmWo
  rw [List.getElem?_map, List.getElem?_range hl]
  simp [List.getD_eq_getElem?_getD, h]
/-- at an address -/
theorem pmWo_a {cA : Nat → ClassId} {al : Nat → Nat} {T : pmT} {v : pmV} {a : Nat} {q : Nat × Nat} (ha : 32 ≤ a) (h : T[a - 32]? = some q) : (pmWo cA al T v)[a - 32]? = some (al a, pmCell cA v al a q) := by
  have e : 32 + (a - 32) = a := by omega
  have := pmWo_at (cA := cA) (al := al) (v := v) h
  rwa [e] at this
def pmEqOff (a : Nat) (v v' : pmV) : Prop := ∀ k, k ≠ a → v'.1 k = v.1 k ∧ v'.2.1 k = v.2.1 k ∧ v'.2.2 k = v.2.2 k
theorem pmCell_eq {cA : Nat → ClassId} {al : Nat → Nat} {v v' : pmV} {k : Nat} {q : Nat × Nat} (h : v'.1 k = v.1 k ∧ v'.2.1 k = v.2.1 k ∧ v'.2.2 k = v.2.2 k) : pmCell cA v' al k q = pmCell cA v al k q := by
  obtain ⟨h1, h2, h3⟩ := h
  unfold pmCell pmFs pmFv
  simp only [h1, h2, h3]
theorem pmWo_set {cA : Nat → ClassId} {al : Nat → Nat} {T : pmT} {v v' : pmV} {a : Nat} {q : Nat × Nat} (ha : 32 ≤ a) (h : T[a - 32]? = some q) (ho : pmEqOff a v v') : pmWo cA al T v' = (pmWo cA al T v).set (a - 32) (al a, pmCell cA v' al a q) := by
  have hl := (List.getElem?_eq_some_iff.mp h).1
  apply List.ext_getElem?
  intro i
  by_cases hi : i = a - 32
  · subst hi
    rw [List.getElem?_set_self (by simp [pmWo]; exact hl)]
    exact pmWo_a ha h
  · rw [List.getElem?_set_ne (fun z => hi z.symm)]
    cases hT : T[i]? with
    | none =>
      have : T.length ≤ i := List.getElem?_eq_none_iff.mp hT
      rw [List.getElem?_eq_none (by simp [pmWo]; exact this), List.getElem?_eq_none (by simp [pmWo]; exact this)]
    | some q' =>
      rw [pmWo_at hT, pmWo_at hT, pmCell_eq (ho _ (by omega))]
theorem pmEqOff_uI (v : pmV) (a j : Nat) (x : Int32) : pmEqOff a v (uI v a j x) := fun k hk => ⟨by funext i; simp [uI, hk], rfl, rfl⟩
theorem pmEqOff_uL (v : pmV) (a j : Nat) (x : Int64) : pmEqOff a v (uL v a j x) := fun k hk => ⟨rfl, by funext i; simp [uL, hk], rfl⟩
theorem pmEqOff_uR (v : pmV) (a j : Nat) (x : Option Nat) : pmEqOff a v (uR v a j x) := fun k hk => ⟨rfl, rfl, by funext i; simp [uR, hk]⟩
theorem pmEqOff_uA (v : pmV) (a : Nat) (f : Nat → Int32) : pmEqOff a v (uA v a f) := fun k hk => ⟨by funext i; simp [uA, hk], rfl, rfl⟩
/-- references that are good: of cells that are there -/
def pmOk (n : Nat) (x : Value) : Prop := match x with
  | .ref a => a < 32 + n
  | _ => True
def pmHo (n : Nat) (v : pmV) : Prop := ∀ (k j r : Nat), v.2.2 k j = some r → 32 ≤ r ∧ r < 32 + n
theorem pmHo_uI {n : Nat} {v : pmV} (h : pmHo n v) (a j : Nat) (x : Int32) : pmHo n (uI v a j x) := h
theorem pmHo_uL {n : Nat} {v : pmV} (h : pmHo n v) (a j : Nat) (x : Int64) : pmHo n (uL v a j x) := h
theorem pmHo_uA {n : Nat} {v : pmV} (h : pmHo n v) (a : Nat) (f : Nat → Int32) : pmHo n (uA v a f) := h
theorem pmHo_uR {n : Nat} {v : pmV} (h : pmHo n v) (a j : Nat) {x : Option Nat} (hx : ∀ r, x = some r → 32 ≤ r ∧ r < 32 + n) : pmHo n (uR v a j x) := by
  intro k i r hr
  simp only [uR] at hr
  by_cases e : k = a ∧ i = j
  · rw [if_pos e] at hr; exact hx r hr
  · rw [if_neg e] at hr; exact h k i r hr
theorem pmHo_new {n : Nat} {v : pmV} (h : pmHo n v) (a : Nat) : pmHo (n + 1) (pmNew v a) := by
  intro k i r hr
  simp only [pmNew] at hr
  by_cases e : k = a
  · rw [if_pos e] at hr; cases hr
  · rw [if_neg e] at hr
    have := h k i r hr
    omega
theorem pmFv_al {n : Nat} {v : pmV} {al al' : Nat → Nat} (h : pmHo n v) (he : ∀ a, a < 32 + n → al' a = al a) (ty : FieldType) (a j : Nat) : pmFv v al' ty a j = pmFv v al ty a j := by
  have key : (v.2.2 a j).map al' = (v.2.2 a j).map al := by
    cases hr : v.2.2 a j with
    | none => rfl
    | some r => simp [he r (h a j r hr).2]
  unfold pmFv
  rw [key]
theorem pmCell_al {cA : Nat → ClassId} {n : Nat} {v : pmV} {al al' : Nat → Nat} (h : pmHo n v) (he : ∀ a, a < 32 + n → al' a = al a) (a : Nat) (q : Nat × Nat) : pmCell cA v al' a q = pmCell cA v al a q := by
  have key : (fun j => (v.2.2 a j).map al') = (fun j => (v.2.2 a j).map al) := by
    funext j
    cases hr : v.2.2 a j with
    | none => rfl
    | some r => simp [he r (h a j r hr).2]
  unfold pmCell pmFs
  rw [key]
  simp only [pmFv_al h he]
theorem pmWo_al {cA : Nat → ClassId} {T : pmT} {v : pmV} {al al' : Nat → Nat} (h : pmHo T.length v) (he : ∀ a, a < 32 + T.length → al' a = al a) : pmWo cA al' T v = pmWo cA al T v := by
  unfold pmWo
  apply List.map_congr_left
  intro i hi
  rw [he _ (by have := List.mem_range.mp hi; omega), pmCell_al h he]
theorem pmL_al {sv : Value} {n : Nat} {al al' : Nat → Nat} (he : ∀ a, a < 32 + n → al' a = al a) {x : Value} (hx : pmOk n x) : pmL sv al' x = pmL sv al x := by
  cases x with
  | ref a => exact congrArg (fun z => if a = 30 then sv else Value.ref z) (he a hx)
  | _ => rfl
theorem pmL_als {sv : Value} {n : Nat} {al al' : Nat → Nat} (he : ∀ a, a < 32 + n → al' a = al a) {l : List Value} (hx : ∀ x ∈ l, pmOk n x) : l.map (pmL sv al') = l.map (pmL sv al) := List.map_congr_left fun x h => pmL_al he (hx x h)
theorem pm_fm {α β : Type} {f g : α → Option β} : ∀ {l : List α}, (∀ i ∈ l, f i = g i) → l.filterMap f = l.filterMap g
  | [], _ => rfl
  | a :: l, h => by
    rw [List.filterMap_cons, List.filterMap_cons, h a List.mem_cons_self, pm_fm (fun i hi => h i (List.mem_cons_of_mem _ hi))]
theorem pmLv_al {sv : Value} {n : Nat} {al al' : Nat → Nat} (he : ∀ a, a < 32 + n → al' a = al a) {l : List Value} (hx : ∀ x ∈ l, pmOk n x) : pmLv (pmL sv al') l = pmLv (pmL sv al) l := by
  unfold pmLv
  apply pm_fm
  intro i _
  cases hi : l[i]? with
  | none => rfl
  | some x =>
    dsimp only
    rw [pmL_al he (hx x (List.mem_of_getElem? hi))]
/-- a cell more: its world is the old one, and it -/
theorem pmWo_new {cA : Nat → ClassId} {T : pmT} {v : pmV} {al : Nat → Nat} {q : Nat} {t : Nat × Nat} (h : pmHo T.length v) :
    pmWo cA (fun a => if a = 32 + T.length then q else al a) (T ++ [t]) (pmNew v (32 + T.length)) = pmWo cA al T v ++ [(q, pmCell cA (pmNew v (32 + T.length)) al (32 + T.length) t)] := by
  have he : ∀ a, a < 32 + T.length → (fun a => if a = 32 + T.length then q else al a) a = al a := fun a ha => if_neg (Nat.ne_of_lt ha)
  have hw : ∀ i, i < T.length → pmCell cA (pmNew v (32 + T.length)) (fun a => if a = 32 + T.length then q else al a) (32 + i) (T.getD i (0, 0)) = pmCell cA v al (32 + i) (T.getD i (0, 0)) := by
    intro i hi
    rw [← pmCell_al (cA := cA) h he]
    apply pmCell_eq
    have : ¬ 32 + i = 32 + T.length := by omega
    exact ⟨by funext j; simp [pmNew, Nat.ne_of_lt hi], by funext j; simp [pmNew, Nat.ne_of_lt hi], by funext j; simp [pmNew, Nat.ne_of_lt hi]⟩
  unfold pmWo
  rw [List.length_append, List.length_singleton, List.range_succ, List.map_append]
  congr 1
  · apply List.map_congr_left
    intro i hi
    have hi := List.mem_range.mp hi
    have h1 : (T ++ [t]).getD i (0, 0) = T.getD i (0, 0) := by
      rw [List.getD_eq_getElem?_getD, List.getD_eq_getElem?_getD, List.getElem?_append_left hi]
    have h2 : (fun a => if a = 32 + T.length then q else al a) (32 + i) = al (32 + i) := he _ (by omega)
    rw [h1, hw i hi, h2]
  · have h1 : (T ++ [t]).getD T.length (0, 0) = t := by
      rw [List.getD_eq_getElem?_getD, List.getElem?_append_right (Nat.le_refl _)]
      simp
    simp only [List.map_cons, List.map_nil, h1, if_true]
    have hz : ∀ j, (pmNew v (32 + T.length)).2.2 (32 + T.length) j = none := fun j => by simp [pmNew]
    congr 2
    unfold pmCell pmFs pmFv
    simp only [hz, Option.map_none]
theorem pmFs_get {v : pmV} {al : Nat → Nat} {ci a k : Nat} (hk : k < pmN ci) : (pmFs v al ci a)[k]? = some (pmFv v al (pmTy ci k) a k) := by
  unfold pmFs
  rw [List.getElem?_map, List.getElem?_range hk]
  rfl
theorem pmFv_rd {sv : Value} {v : pmV} {al : Nat → Nat} {n : Nat} (h : pmHo n v) (ty : FieldType) (a j : Nat) : pmFv v al ty a j = pmL sv al (pmRd v ty a j) ∧ pmOk n (pmRd v ty a j) := by
  have key : va_rf ((v.2.2 a j).map al) = pmL sv al (va_rf (v.2.2 a j)) ∧ pmOk n (va_rf (v.2.2 a j)) := by
    cases hr : v.2.2 a j with
    | none => exact ⟨rfl, trivial⟩
    | some r => exact ⟨(pmL_ref (h a j r hr).1).symm, (h a j r hr).2⟩
  unfold pmFv pmRd
  cases ty <;> first | exact key | exact ⟨rfl, trivial⟩
/-- a field that is written -/
theorem pmFs_set {v v' : pmV} {al : Nat → Nat} {ci a k : Nat} {y : Value} (hk : k < pmN ci) (h1 : pmFv v' al (pmTy ci k) a k = y) (h2 : ∀ j, j ≠ k → pmFv v' al (pmTy ci j) a j = pmFv v al (pmTy ci j) a j) : pmFs v' al ci a = (pmFs v al ci a).set k y := by
  apply List.ext_getElem?
  intro j
  by_cases e : j = k
  · subst e
    rw [List.getElem?_set_self (by simp [pmFs]; exact hk), pmFs_get hk, h1]
  · rw [List.getElem?_set_ne (fun z => e z.symm)]
    by_cases hj : j < pmN ci
    · rw [pmFs_get hj, pmFs_get hj, h2 j e]
    · rw [List.getElem?_eq_none (by simp [pmFs]; omega), List.getElem?_eq_none (by simp [pmFs]; omega)]
