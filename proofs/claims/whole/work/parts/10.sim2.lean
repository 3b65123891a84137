/-! locals -/
theorem pmClr_get {ls : List Value} {i j : Nat} {y : Value} (h : (pmClr ls i)[j]? = some y) (hy : y ≠ pmJ) : ls[j]? = some y ∧ ¬ (j + 1 = i ∧ y.category = 2) := by
  cases i with
  | zero => exact ⟨h, fun q => absurd q.1 (Nat.succ_ne_zero j)⟩
  | succ k =>
    unfold pmClr at h
    cases hk : ls[k]? with
    | none =>
      simp only [hk] at h
      refine ⟨h, fun q => ?_⟩
      have e : j = k := Nat.succ.inj q.1
      rw [e, hk] at h
      cases h
    | some w =>
      simp only [hk] at h
      by_cases hw : w.category = 2
      · rw [if_pos hw] at h
        by_cases e : j = k
        · subst e
          have hl : j < ls.length := (List.getElem?_eq_some_iff.mp hk).1
          rw [List.getElem?_set_self hl] at h
          exact absurd (Option.some.inj h).symm hy
        · rw [List.getElem?_set_ne (fun q => e q.symm)] at h
          exact ⟨h, fun q => e (Nat.succ.inj q.1)⟩
      · rw [if_neg hw] at h
        refine ⟨h, fun q => ?_⟩
        have e : j = k := Nat.succ.inj q.1
        rw [e, hk] at h
        cases h
        exact hw q.2
theorem pmClr_len (ls : List Value) (i : Nat) : (pmClr ls i).length = ls.length := by
  cases i with
  | zero => rfl
  | succ k =>
    show (match ls[k]? with
      | some w => if w.category = 2 then ls.set k pmJ else ls
      | none => ls).length = _
    split
    · split <;> simp
    · rfl
theorem pmSet_len (ls : List Value) (i : Nat) (x : Value) : (pmSet ls i x).length = ls.length := by
  unfold pmSet
  by_cases h : x.category = 2
  · rw [if_pos h, List.length_set, List.length_set, pmClr_len]
  · rw [if_neg h, List.length_set, pmClr_len]
theorem pm_set_get {l : List Value} {i j : Nat} {x y : Value} (h : (l.set i x)[j]? = some y) : (j = i ∧ y = x) ∨ (j ≠ i ∧ l[j]? = some y) := by
  by_cases e : j = i
  · subst e
    have hl : j < (l.set j x).length := (List.getElem?_eq_some_iff.mp h).1
    rw [List.length_set] at hl
    rw [List.getElem?_set_self hl] at h
    exact Or.inl ⟨rfl, (Option.some.inj h).symm⟩
  · rw [List.getElem?_set_ne (fun q => e q.symm)] at h
    exact Or.inr ⟨e, h⟩
theorem pmSet_get1 {ls : List Value} {i j : Nat} {x y : Value} (hx : ¬ x.category = 2) (h : (pmSet ls i x)[j]? = some y) (hy : y ≠ pmJ) : (j = i ∧ y = x) ∨ (j ≠ i ∧ ls[j]? = some y ∧ ¬ (j + 1 = i ∧ y.category = 2)) := by
  unfold pmSet at h
  rw [if_neg hx] at h
  rcases pm_set_get h with h | ⟨h1, h2⟩
  · exact Or.inl h
  · exact Or.inr ⟨h1, pmClr_get h2 hy⟩
theorem pmSet_get2 {ls : List Value} {i j : Nat} {x y : Value} (hx : x.category = 2) (h : (pmSet ls i x)[j]? = some y) (hy : y ≠ pmJ) : (j = i ∧ y = x) ∨ (j ≠ i ∧ j ≠ i + 1 ∧ ls[j]? = some y ∧ ¬ (j + 1 = i ∧ y.category = 2)) := by
  unfold pmSet at h
  rw [if_pos hx] at h
  rcases pm_set_get h with ⟨-, h⟩ | ⟨h0, h⟩
  · exact absurd h hy
  · rcases pm_set_get h with h | ⟨h1, h2⟩
    · exact Or.inl h
    · exact Or.inr ⟨h1, h0, pmClr_get h2 hy⟩
def pmLv (f : Value → Value) (ls : List Value) : List (Nat × Value) := (List.range ls.length).filterMap fun i => match ls[i]? with
  | some x => if x = pmJ then none else some (i, f x)
  | none => none
theorem pmLv_mem {f : Value → Value} {ls : List Value} {q : Nat × Value} : q ∈ pmLv f ls ↔ ∃ x, ls[q.1]? = some x ∧ x ≠ pmJ ∧ q.2 = f x := by
  unfold pmLv
  rw [List.mem_filterMap]
  constructor
  · rintro ⟨i, -, h⟩
    cases hx : ls[i]? with
    | none => rw [hx] at h; cases h
    | some x =>
      rw [hx] at h
      dsimp only at h
      by_cases hj : x = pmJ
      · rw [if_pos hj] at h; cases h
      · rw [if_neg hj] at h
        cases h
        exact ⟨x, hx, hj, rfl⟩
  · rintro ⟨x, hx, hj, h⟩
    refine ⟨q.1, List.mem_range.mpr (List.getElem?_eq_some_iff.mp hx).1, ?_⟩
    rw [hx]
    dsimp only
    rw [if_neg hj, ← h]
/-- the real locals hold the pure ones -/
def pmHas (f : Value → Value) (ls : List Value) (lsm : Array Slot) (nL : Nat) : Prop := ls.length = nL ∧ lv_has lsm nL (pmLv f ls)
theorem pmHas.at {f : Value → Value} {ls : List Value} {lsm : Array Slot} {nL i : Nat} {x : Value} (h : pmHas f ls lsm nL) (hx : ls[i]? = some x) (hj : x ≠ pmJ) : lsm[i]? = some (.val (f x)) :=
  h.2.2.2 (i, f x) (pmLv_mem.mpr ⟨x, hx, hj, rfl⟩)
theorem pm_has_sub {lsm : Array Slot} {nL : Nat} {l l' : List (Nat × Value)} (h : lv_has lsm nL l) (hs : ∀ q ∈ l', q ∈ l) : lv_has lsm nL l' := ⟨h.1, h.2.1, fun q hq => h.2.2 q (hs q hq)⟩
theorem pmHas.set1 {f : Value → Value} (hf : ∀ x, (f x).category = x.category) {ls : List Value} {lsm' : Array Slot} {nL i : Nat} {x : Value} (hl : ls.length = nL) (hx : ¬ x.category = 2)
    (h : lv_has lsm' nL ((i, f x) :: (pmLv f ls).filter (fun q => !(q.1 == i) && !(q.1 + 1 == i && q.2.category == 2)))) : pmHas f (pmSet ls i x) lsm' nL := by
  refine ⟨(pmSet_len ls i x).trans hl, pm_has_sub h fun q hq => ?_⟩
  obtain ⟨y, h1, h2, h3⟩ := pmLv_mem.mp hq
  rcases pmSet_get1 hx h1 h2 with ⟨e1, e2⟩ | ⟨e1, e2, e3⟩
  · refine List.mem_cons.mpr (Or.inl ?_)
    rw [← e1, ← e2, ← h3]
  · refine List.mem_cons_of_mem _ (List.mem_filter.mpr ⟨pmLv_mem.mpr ⟨y, e2, h2, h3⟩, ?_⟩)
    rw [h3, hf]
    simp only [Bool.and_eq_true, Bool.not_eq_true', beq_eq_false_iff_ne, ne_eq, Bool.and_eq_false_iff]
    refine ⟨e1, ?_⟩
    by_cases q1 : q.1 + 1 = i
    · exact Or.inr (fun q2 => e3 ⟨q1, q2⟩)
    · exact Or.inl q1
theorem pmHas.set2 {f : Value → Value} (hf : ∀ x, (f x).category = x.category) {ls : List Value} {lsm' : Array Slot} {nL i : Nat} {x : Value} (hl : ls.length = nL) (hx : x.category = 2)
    (h : lv_has lsm' nL ((i, f x) :: (pmLv f ls).filter (fun q => !(q.1 == i) && (!(q.1 == i + 1) && !(q.1 + 1 == i && q.2.category == 2))))) : pmHas f (pmSet ls i x) lsm' nL := by
  refine ⟨(pmSet_len ls i x).trans hl, pm_has_sub h fun q hq => ?_⟩
  obtain ⟨y, h1, h2, h3⟩ := pmLv_mem.mp hq
  rcases pmSet_get2 hx h1 h2 with ⟨e1, e2⟩ | ⟨e1, e0, e2, e3⟩
  · refine List.mem_cons.mpr (Or.inl ?_)
    rw [← e1, ← e2, ← h3]
  · refine List.mem_cons_of_mem _ (List.mem_filter.mpr ⟨pmLv_mem.mpr ⟨y, e2, h2, h3⟩, ?_⟩)
    rw [h3, hf]
    simp only [Bool.and_eq_true, Bool.not_eq_true', beq_eq_false_iff_ne, ne_eq, Bool.and_eq_false_iff]
    refine ⟨e1, e0, ?_⟩
    by_cases q1 : q.1 + 1 = i
    · exact Or.inr (fun q2 => e3 ⟨q1, q2⟩)
    · exact Or.inl q1
section PMSIM2
variable {p : Program} {l : Launch} {e : Env} {R : Room} {s : State} {m : MethodId} {args : Array Value} {below : List Frame} {meth : Method} {c : Code} {H : Heap} {locs : List Loc} {cells slots : Nat} {Q : State → Prop}
variable {cc : ByteArray} {pc nL : Nat} {lsm : Array Slot} {sv : Value} {al : Nat → Nat}
set_option maxHeartbeats 4000000 in
theorem sim_loc (hs : sv.category = 1) (hx : p.tables.exec = Jvm.exec) (hb : c.code = cc) {ins : Instr} {ls ls' st st' : List Value} {n : Nat} (h : pmLoc ins ls st = some (n, ls', st')) (hd : decode cc pc = .ok (ins, n)) (hl : pmHas (pmL sv al) ls lsm nL)
    (k : ∀ lsm' : Array Slot, pmHas (pmL sv al) ls' lsm' nL → W p l e R s m args below meth c H locs cells slots Q (F0 m (pc + n) lsm' (st'.map (pmL sv al)))) : W p l e R s m args below meth c H locs cells slots Q (F0 m pc lsm (st.map (pmL sv al))) := by
  have hf : ∀ x, (pmL sv al x).category = x.category := pmL_cat hs
  have e1 : ∀ {x : Nat}, x ≠ 30 → pmL sv al (.ref x) = .ref (al x) := fun h => if_neg h
  cases ins
  case iload_n i =>
    replace h : pmGi ls st ((i : Nat)) 1 = some (n, ls', st') := h
    unfold pmGi at h
    split at h
    · rename_i x hg
      cases h
      exact lv_iload_n hx hb hd rfl (hl.at hg (fun q => by cases q)) (k lsm hl)
    · cases h
  case iload i =>
    replace h : pmGi ls st ((i : Nat)) 2 = some (n, ls', st') := h
    unfold pmGi at h
    split at h
    · rename_i x hg
      cases h
      exact lv_iload hx hb hd (hl.at hg (fun q => by cases q)) (k lsm hl)
    · cases h
  case lload_n i =>
    replace h : pmGl ls st ((i : Nat)) 1 = some (n, ls', st') := h
    unfold pmGl at h
    split at h
    · rename_i x hg
      cases h
      exact lv_lload_n hx hb hd rfl (hl.at hg (fun q => by cases q)) (k lsm hl)
    · cases h
  case lload i =>
    replace h : pmGl ls st ((i : Nat)) 2 = some (n, ls', st') := h
    unfold pmGl at h
    split at h
    · rename_i x hg
      cases h
      exact lv_lload hx hb hd (hl.at hg (fun q => by cases q)) (k lsm hl)
    · cases h
  case aload_n i =>
    replace h : pmGr ls st ((i : Nat)) 1 = some (n, ls', st') := h
    unfold pmGr at h
    split at h
    · rename_i x hg
      obtain ⟨h1, h⟩ := pm_if h
      cases h
      have k2 := k lsm hl
      rw [List.map_cons, e1 h1] at k2
      exact lv_aload_n hx hb hd rfl ((hl.at hg (fun q => by cases q)).trans (by rw [e1 h1])) k2
    · rename_i hg
      cases h
      exact lv_aload_nN hx hb hd rfl (hl.at hg (fun q => by cases q)) (k lsm hl)
    · cases h
  case aload i =>
    replace h : pmGr ls st ((i : Nat)) 2 = some (n, ls', st') := h
    unfold pmGr at h
    split at h
    · rename_i x hg
      obtain ⟨h1, h⟩ := pm_if h
      cases h
      have k2 := k lsm hl
      rw [List.map_cons, e1 h1] at k2
      exact lv_aload hx hb hd ((hl.at hg (fun q => by cases q)).trans (by rw [e1 h1])) k2
    · rename_i hg
      cases h
      exact lv_aloadN hx hb hd (hl.at hg (fun q => by cases q)) (k lsm hl)
    · cases h
  case istore_n i =>
    replace h : pmSi ls st ((i : Nat)) 1 = some (n, ls', st') := h
    unfold pmSi at h
    split at h
    · rename_i x r
      obtain ⟨h1, h⟩ := pm_if h
      cases h
      exact lv_istore_n hx hb hd rfl hl.2 (by rw [← hl.1]; exact h1) rfl (fun lsm' h2 => k lsm' (pmHas.set1 (x := .int x) hf hl.1 (by simp [Value.category]) h2))
    · cases h
  case istore i =>
    replace h : pmSi ls st ((i : Nat)) 2 = some (n, ls', st') := h
    unfold pmSi at h
    split at h
    · rename_i x r
      obtain ⟨h1, h⟩ := pm_if h
      cases h
      exact lv_istore hx hb hd hl.2 (by rw [← hl.1]; exact h1) rfl (fun lsm' h2 => k lsm' (pmHas.set1 (x := .int x) hf hl.1 (by simp [Value.category]) h2))
    · cases h
  case lstore_n i =>
    replace h : pmSl ls st ((i : Nat)) 1 = some (n, ls', st') := h
    unfold pmSl at h
    split at h
    · rename_i x r
      obtain ⟨h1, h⟩ := pm_if h
      cases h
      exact lv_lstore_n hx hb hd rfl hl.2 (by rw [← hl.1]; exact h1) rfl (fun lsm' h2 => k lsm' (pmHas.set2 (x := .long x) hf hl.1 rfl h2))
    · cases h
  case lstore i =>
    replace h : pmSl ls st ((i : Nat)) 2 = some (n, ls', st') := h
    unfold pmSl at h
    split at h
    · rename_i x r
      obtain ⟨h1, h⟩ := pm_if h
      cases h
      exact lv_lstore hx hb hd hl.2 (by rw [← hl.1]; exact h1) rfl (fun lsm' h2 => k lsm' (pmHas.set2 (x := .long x) hf hl.1 rfl h2))
    · cases h
  case astore_n i =>
    replace h : pmSr ls st ((i : Nat)) 1 = some (n, ls', st') := h
    unfold pmSr at h
    split at h
    · rename_i x r
      obtain ⟨h1, h⟩ := pm_if h
      cases h
      rw [List.map_cons, e1 h1.2]
      exact lv_astore_n hx hb hd rfl hl.2 (by rw [← hl.1]; exact h1.1) rfl (fun lsm' h2 => k lsm' (pmHas.set1 (x := .ref x) hf hl.1 (by simp [Value.category]) (by rw [e1 h1.2]; exact h2)))
    · rename_i r
      obtain ⟨h1, h⟩ := pm_if h
      cases h
      exact lv_astore_nN hx hb hd rfl hl.2 (by rw [← hl.1]; exact h1) rfl (fun lsm' h2 => k lsm' (pmHas.set1 (x := .null) hf hl.1 (by decide) h2))
    · cases h
  case astore i =>
    replace h : pmSr ls st ((i : Nat)) 2 = some (n, ls', st') := h
    unfold pmSr at h
    split at h
    · rename_i x r
      obtain ⟨h1, h⟩ := pm_if h
      cases h
      rw [List.map_cons, e1 h1.2]
      exact lv_astore hx hb hd hl.2 (by rw [← hl.1]; exact h1.1) rfl (fun lsm' h2 => k lsm' (pmHas.set1 (x := .ref x) hf hl.1 (by simp [Value.category]) (by rw [e1 h1.2]; exact h2)))
    · rename_i r
      obtain ⟨h1, h⟩ := pm_if h
      cases h
      exact lv_astoreN hx hb hd hl.2 (by rw [← hl.1]; exact h1) rfl (fun lsm' h2 => k lsm' (pmHas.set1 (x := .null) hf hl.1 (by decide) h2))
    · cases h
  case iinc i z =>
    replace h : pmInc ls st i z = some (n, ls', st') := h
    unfold pmInc at h
    split at h
    · rename_i x hg
      obtain ⟨h1, h⟩ := pm_if h
      cases h
      obtain ⟨q, hq⟩ := List.getElem?_of_mem (pmLv_mem (f := pmL sv al) (q := (i, .int x)).mpr ⟨.int x, hg, (fun q => by cases q), rfl⟩)
      exact lv_iinc hx hb hd hl.2 hq rfl (by rw [← hl.1]; exact h1) rfl (fun lsm' h2 => k lsm' (pmHas.set1 (x := .int (x + Int32.ofInt z)) hf hl.1 (by simp [Value.category]) h2))
    · cases h
  all_goals (simp [pmLoc] at h)
end PMSIM2
