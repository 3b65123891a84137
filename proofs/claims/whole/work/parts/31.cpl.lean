/-! THE COUPLING: what the class's cells and the reference's have in common between two calls -/
def kcl (k : Int32) : Nat := if k = 1 then 10 else if k = 2 then 0 else if k = 3 then 7 else if k = 4 then 8 else if k = 5 then 2 else 3
/-- which cells a part of the coupling speaks of -/
def sLan (a j : Nat) : Prop := a = 33 ∨ 124 ≤ a ∨ (a = 32 ∧ j = 1) ∨ (a = 100 ∧ j = 0) ∨ a = 101 ∨ a = 102 ∨ a = 103
def sSet (a j : Nat) : Prop := a = 35 ∨ a = 36 ∨ a = 104 ∨ a = 105 ∨ (a = 34 ∧ 2 ≤ j ∧ j ≤ 5) ∨ (a = 100 ∧ 1 ≤ j ∧ j ≤ 4)
def sRule (a j : Nat) : Prop := (a = 34 ∧ j = 6) ∨ (a = 100 ∧ j = 11)
def sImg (a j : Nat) : Prop := (a = 32 ∧ j = 4) ∨ (37 ≤ a ∧ a ≤ 39) ∨ (a = 100 ∧ 41 ≤ j ∧ j ≤ 46) ∨ a = 118 ∨ a = 119
def sTxt (a j : Nat) : Prop := (a = 32 ∧ j = 6) ∨ (a = 100 ∧ j = 10) ∨ (68 ≤ a ∧ a ≤ 91 ∧ a % 4 ≠ 3) ∨ (107 ≤ a ∧ a ≤ 109)
def sTape (a j : Nat) : Prop := (a = 41 ∧ j = 1) ∨ (a = 100 ∧ j = 12) ∨ a = 42 ∨ a = 106
def sShe (a j : Nat) : Prop := (92 ≤ a ∧ a ≤ 99) ∨ (120 ≤ a ∧ a ≤ 122)
def sFix (a j : Nat) : Prop := a = 100 ∧ (j = 34 ∨ j = 35)
def Ag (S : Nat → Nat → Prop) (v v' : pmV) : Prop := ∀ a j, S a j → v'.1 a j = v.1 a j
theorem Ag.rf {S : Nat → Nat → Prop} {v : pmV} : Ag S v v := fun _ _ _ => rfl
theorem Ag.tr {S : Nat → Nat → Prop} {v v1 v2 : pmV} (h : Ag S v v1) (h2 : Ag S v1 v2) : Ag S v v2 := fun a j q => (h2 a j q).trans (h a j q)
theorem Ag.i {S : Nat → Nat → Prop} {v v0 : pmV} (h : Ag S v0 v) {a j : Nat} {x : Int32} (hn : ¬ S a j) : Ag S v0 (uI v a j x) := fun b i q => (if_neg (fun e => hn (by rw [← e.1, ← e.2]; exact q))).trans (h b i q)
theorem Ag.l {S : Nat → Nat → Prop} {v v0 : pmV} (h : Ag S v0 v) {a j : Nat} {x : Int64} : Ag S v0 (uL v a j x) := h
theorem Ag.r {S : Nat → Nat → Prop} {v v0 : pmV} (h : Ag S v0 v) {a j : Nat} {x : Option Nat} : Ag S v0 (uR v a j x) := h
theorem Ag.a {S : Nat → Nat → Prop} {v v0 : pmV} (h : Ag S v0 v) {a : Nat} {f : Nat → Int32} (hn : ∀ j, ¬ S a j) : Ag S v0 (uA v a f) := fun b i q => (if_neg (fun e => hn i (by rw [← e]; exact q))).trans (h b i q)
/-- references that stay: all but the day's and the reader's own -/
def AgR (v v' : pmV) : Prop := ∀ a j, a ≠ 51 → a ≠ 41 → v'.2.2 a j = v.2.2 a j
theorem pmRf.ag {v v' : pmV} (h : pmRf v) (hf : v'.2.2 = v.2.2) : pmRf v' := fun q hq => by rw [hf]; exact h q hq
/-- the lanes: how many, of what kind, number, way; the same on both sides -/
def cLan (n : Nat) (LT : pmT) (v : pmV) : Prop := n ≤ 8 ∧ LT.length = n ∧ v.1 32 1 = nI n ∧ v.1 100 0 = nI n ∧ ∀ i, i < n →
  v.2.2 33 i = some (124 + i) ∧ LT[i]? = some (kcl (v.1 (124 + i) 0), 3) ∧ v.1 101 i = v.1 (124 + i) 0 ∧ v.1 102 i = v.1 (124 + i) 1 ∧ v.1 103 i = v.1 (124 + i) 2 ∧
  (0 ≤ v.1 (124 + i) 0 ∧ v.1 (124 + i) 0 ≤ 5) ∧ (0 ≤ v.1 (124 + i) 1 ∧ v.1 (124 + i) 1 ≤ 20) ∧ (0 ≤ v.1 (124 + i) 2 ∧ v.1 (124 + i) 2 ≤ 1)
def cSet (v : pmV) : Prop := (∀ j, j < 120 → v.1 104 j = v.1 35 j ∧ 0 ≤ v.1 35 j ∧ v.1 35 j ≤ 99) ∧ (∀ j, j < 120 → v.1 105 j = v.1 36 j ∧ 0 ≤ v.1 36 j ∧ v.1 36 j ≤ 99) ∧
  (v.1 100 1 = v.1 34 2 ∧ 0 ≤ v.1 34 2 ∧ v.1 34 2 ≤ 9) ∧ v.1 100 2 = v.1 34 3 ∧ v.1 100 3 = v.1 34 4 ∧ v.1 100 4 = v.1 34 5
def cRule (t : Nat) (v : pmV) : Prop := ∃ r, r < t ∧ v.1 34 6 = nI r ∧ v.1 100 11 = nI r
def cImg (t : Nat) (v : pmV) : Prop := v.1 100 41 = v.1 32 4 ∧ (v.1 32 4 = 0 ∨ v.1 32 4 = 1 ∧ (∀ j, j < 120 → v.1 118 j = v.1 38 j ∧ 0 ≤ v.1 38 j ∧ v.1 38 j ≤ 99) ∧ (∀ j, j < 120 → v.1 119 j = v.1 39 j ∧ 0 ≤ v.1 39 j ∧ v.1 39 j ≤ 99) ∧
  (v.1 100 42 = v.1 37 2 ∧ 0 ≤ v.1 37 2 ∧ v.1 37 2 ≤ 9) ∧ v.1 100 43 = v.1 37 3 ∧ v.1 100 44 = v.1 37 4 ∧ v.1 100 45 = v.1 37 5 ∧ ∃ r, r < t ∧ v.1 37 6 = nI r ∧ v.1 100 46 = nI r)
/-- a sign of a text's code, on both sides -/
def codeOk (c s x : Int32) : Prop := (s = 0 ∧ x = c ∧ 0 ≤ c) ∨ (s = 1 ∧ c = -1 - x ∧ 0 ≤ x ∧ x ≤ 5) ∨ (s = 4 ∧ c = -7) ∨ (s = 10 ∧ c = -8) ∨ (s = 2 ∧ c = -9) ∨ (s = 3 ∧ c = -10) ∨ (s = 5 ∧ c = -11) ∨ (s = 6 ∧ c = -12) ∨ (s = 7 ∧ c = -13) ∨ (s = 8 ∧ c = -14) ∨ (s = 9 ∧ c = -15)
/-- how high a code's values stand at the end; none: it asks for more than stand there -/
def hgt : List Int32 → Nat → Option Nat
  | [], h => some h
  | c :: l, h => if -6 ≤ c then hgt l (h + 1) else if -8 ≤ c then (if 0 < h then hgt l h else none) else if 1 < h then hgt l (h - 1) else none
/-- the codes of a text's part: where it begins and ends -/
def txB (k p : Nat) (v : pmV) : Nat := if p = 0 then 0 else (v.1 (70 + 4 * k) (p - 1)).toNatClampNeg
def txE (k p : Nat) (v : pmV) : Nat := (v.1 (70 + 4 * k) p).toNatClampNeg
def txC (k p : Nat) (v : pmV) : List Int32 := (List.range (txE k p v - txB k p v)).map fun i => v.1 (69 + 4 * k) (txB k p v + i)
def TxtOk (k : Nat) (v : pmV) : Prop := ∀ p, p < 3 → v.1 (70 + 4 * k) p = nI (txE k p v) ∧ txB k p v ≤ txE k p v ∧ txE k p v ≤ 160 ∧ v.1 109 (3 * k + p) = nI (txE k p v - txB k p v) ∧ hgt (txC k p v) 0 = some 1 ∧
  ∀ i, i < txE k p v - txB k p v → codeOk (v.1 (69 + 4 * k) (txB k p v + i)) (v.1 107 (480 * k + 160 * p + i)) (v.1 108 (480 * k + 160 * p + i))
def cTxt (t : Nat) (v : pmV) : Prop := 1 ≤ t ∧ t ≤ 6 ∧ v.1 32 6 = nI t ∧ v.1 100 10 = nI t ∧ ∀ k, k < t → TxtOk k v
def cTape (z : Nat) (v : pmV) : Prop := z ≤ 160 ∧ v.1 41 1 = nI z ∧ v.1 100 12 = nI z ∧ ∀ i, i < z → v.1 106 i = v.1 42 i ∧ 0 ≤ v.1 42 i ∧ v.1 42 i ≤ 255
def cShe (v : pmV) : Prop := ∀ t, t < 4 → (v.1 120 t = v.1 (92 + 2 * t) 0 ∧ -1 ≤ v.1 (92 + 2 * t) 0 ∧ v.1 (92 + 2 * t) 0 ≤ 2) ∧ (∃ q, q ≤ 60 ∧ v.1 (92 + 2 * t) 1 = nI q ∧ v.1 121 t = nI q) ∧ ∀ i, i < 60 → v.1 122 (60 * t + i) = v.1 (93 + 2 * t) i
def cFix (v : pmV) : Prop := v.1 100 34 = -1 ∧ v.1 100 35 = -1
def Cpl (n t z : Nat) (LT : pmT) (v : pmV) : Prop := pmRf v ∧ cLan n LT v ∧ cSet v ∧ cRule t v ∧ cImg t v ∧ cTxt t v ∧ cTape z v ∧ cShe v ∧ cFix v
theorem cLan.ag {n : Nat} {LT : pmT} {v v' : pmV} (h : cLan n LT v) (ha : Ag sLan v v') (hr : ∀ j, v'.2.2 33 j = v.2.2 33 j) : cLan n LT v' := by
  obtain ⟨h1, h2, h3, h4, h5⟩ := h
  have e : ∀ i j, v'.1 (124 + i) j = v.1 (124 + i) j := fun i j => ha _ _ (Or.inr (Or.inl (by omega)))
  refine ⟨h1, h2, (ha 32 1 (by unfold sLan; omega)).trans h3, (ha 100 0 (by unfold sLan; omega)).trans h4, fun i hi => ?_⟩
  rw [hr, e, e, e, ha 101 i (by unfold sLan; omega), ha 102 i (by unfold sLan; omega), ha 103 i (by unfold sLan; omega)]
  exact h5 i hi
theorem cSet.ag {v v' : pmV} (h : cSet v) (ha : Ag sSet v v') : cSet v' := by
  obtain ⟨h1, h2, h3, h4, h5, h6⟩ := h
  refine ⟨fun j hj => ?_, fun j hj => ?_, ?_, ?_, ?_, ?_⟩
  · rw [ha 104 j (by unfold sSet; omega), ha 35 j (by unfold sSet; omega)]; exact h1 j hj
  · rw [ha 105 j (by unfold sSet; omega), ha 36 j (by unfold sSet; omega)]; exact h2 j hj
  · rw [ha 100 1 (by unfold sSet; omega), ha 34 2 (by unfold sSet; omega)]; exact h3
  · rw [ha 100 2 (by unfold sSet; omega), ha 34 3 (by unfold sSet; omega)]; exact h4
  · rw [ha 100 3 (by unfold sSet; omega), ha 34 4 (by unfold sSet; omega)]; exact h5
  · rw [ha 100 4 (by unfold sSet; omega), ha 34 5 (by unfold sSet; omega)]; exact h6
theorem cRule.ag {t : Nat} {v v' : pmV} (h : cRule t v) (ha : Ag sRule v v') : cRule t v' := by
  obtain ⟨r, h1, h2, h3⟩ := h
  exact ⟨r, h1, (ha 34 6 (by unfold sRule; omega)).trans h2, (ha 100 11 (by unfold sRule; omega)).trans h3⟩
theorem cImg.ag {t : Nat} {v v' : pmV} (h : cImg t v) (ha : Ag sImg v v') : cImg t v' := by
  obtain ⟨h1, h2⟩ := h
  have e0 : v'.1 32 4 = v.1 32 4 := ha 32 4 (by unfold sImg; omega)
  refine ⟨by rw [ha 100 41 (by unfold sImg; omega), e0]; exact h1, ?_⟩
  rw [e0]
  rcases h2 with h2 | ⟨h2, h3, h4, h5, h6, h7, h8, r, h9, h10, h11⟩
  · exact Or.inl h2
  · refine Or.inr ⟨h2, fun j hj => ?_, fun j hj => ?_, ?_, ?_, ?_, ?_, r, h9, (ha 37 6 (by unfold sImg; omega)).trans h10, (ha 100 46 (by unfold sImg; omega)).trans h11⟩
    · rw [ha 118 j (by unfold sImg; omega), ha 38 j (by unfold sImg; omega)]; exact h3 j hj
    · rw [ha 119 j (by unfold sImg; omega), ha 39 j (by unfold sImg; omega)]; exact h4 j hj
    · rw [ha 100 42 (by unfold sImg; omega), ha 37 2 (by unfold sImg; omega)]; exact h5
    · rw [ha 100 43 (by unfold sImg; omega), ha 37 3 (by unfold sImg; omega)]; exact h6
    · rw [ha 100 44 (by unfold sImg; omega), ha 37 4 (by unfold sImg; omega)]; exact h7
    · rw [ha 100 45 (by unfold sImg; omega), ha 37 5 (by unfold sImg; omega)]; exact h8
theorem TxtOk.ag {k : Nat} (hk : k < 6) {v v' : pmV} (h : TxtOk k v) (ha : Ag sTxt v v') : TxtOk k v' := by
  have e1 : ∀ j, v'.1 (70 + 4 * k) j = v.1 (70 + 4 * k) j := fun j => ha _ _ (by unfold sTxt; omega)
  have e2 : ∀ j, v'.1 (69 + 4 * k) j = v.1 (69 + 4 * k) j := fun j => ha _ _ (by unfold sTxt; omega)
  have e3 : ∀ p, txE k p v' = txE k p v := fun p => by unfold txE; rw [e1]
  have e4 : ∀ p, txB k p v' = txB k p v := fun p => by unfold txB; rw [e1]
  have e5 : ∀ p, txC k p v' = txC k p v := fun p => by unfold txC; rw [e3, e4]; simp only [e2]
  intro p hp
  obtain ⟨h1, h2, h3, h4, h5, h6⟩ := h p hp
  rw [e1, e3, e4, e5, ha 109 _ (by unfold sTxt; omega)]
  refine ⟨h1, h2, h3, h4, h5, fun i hi => ?_⟩
  rw [e2, ha 107 _ (by unfold sTxt; omega), ha 108 _ (by unfold sTxt; omega)]
  exact h6 i hi
theorem cTxt.ag {t : Nat} {v v' : pmV} (h : cTxt t v) (ha : Ag sTxt v v') : cTxt t v' := by
  obtain ⟨h1, h2, h3, h4, h5⟩ := h
  exact ⟨h1, h2, (ha 32 6 (by unfold sTxt; omega)).trans h3, (ha 100 10 (by unfold sTxt; omega)).trans h4, fun k hk => (h5 k hk).ag (by omega) ha⟩
theorem cTape.ag {z : Nat} {v v' : pmV} (h : cTape z v) (ha : Ag sTape v v') : cTape z v' := by
  obtain ⟨h1, h2, h3, h4⟩ := h
  refine ⟨h1, (ha 41 1 (by unfold sTape; omega)).trans h2, (ha 100 12 (by unfold sTape; omega)).trans h3, fun i hi => ?_⟩
  rw [ha 106 i (by unfold sTape; omega), ha 42 i (by unfold sTape; omega)]
  exact h4 i hi
theorem cShe.ag {v v' : pmV} (h : cShe v) (ha : Ag sShe v v') : cShe v' := by
  intro t ht
  obtain ⟨h1, ⟨q, h2, h3, h4⟩, h5⟩ := h t ht
  refine ⟨?_, ⟨q, h2, (ha _ 1 (by unfold sShe; omega)).trans h3, (ha 121 t (by unfold sShe; omega)).trans h4⟩, fun i hi => ?_⟩
  · rw [ha 120 t (by unfold sShe; omega), ha (92 + 2 * t) 0 (by unfold sShe; omega)]; exact h1
  · rw [ha 122 _ (by unfold sShe; omega), ha (93 + 2 * t) i (by unfold sShe; omega)]; exact h5 i hi
theorem cFix.ag {v v' : pmV} (h : cFix v) (ha : Ag sFix v v') : cFix v' := ⟨(ha 100 34 (by unfold sFix; omega)).trans h.1, (ha 100 35 (by unfold sFix; omega)).trans h.2⟩
/-- behind a call of the class: the reference's, with the same answer, and the coupling again -/
def Aft (X : pmX) (d : Nat) (M : pmM) (ls : List Value) : Option Value → pmT → pmV → Prop := fun o T v => EvP X d M 0 ls [] T v (fun o2 T2 v2 => o2 = o ∧ ∃ (n t z : Nat) (LT : pmT), T2 = pmT0 ++ LT ∧ Cpl n t z LT v2)
theorem pm_inI {i : Nat} {n : Nat} (h : i < n) (h2 : n < 2 ^ 31) : pmIn (nI i) n = true := by
  unfold pmIn
  rw [nI_clamp (by omega)]
  simp only [Bool.and_eq_true, decide_eq_true_eq]
  exact ⟨nI_pos' (by omega), h⟩
