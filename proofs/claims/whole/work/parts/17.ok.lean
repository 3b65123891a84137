/-! references stay good; the run only makes cells -/
theorem pmOk_le {n n' : Nat} (h : n ≤ n') {x : Value} (hx : pmOk n x) : pmOk n' x := by
  cases x with
  | ref a => exact Nat.lt_of_lt_of_le hx (Nat.add_le_add_left h 32)
  | _ => trivial
theorem pmOk_cons {n : Nat} {x : Value} {r : List Value} (hx : pmOk n x) (hr : ∀ y ∈ r, pmOk n y) : ∀ y ∈ x :: r, pmOk n y := fun y hy => by
  rcases List.mem_cons.mp hy with rfl | hy
  · exact hx
  · exact hr y hy
theorem pmOk_t {n : Nat} {x : Value} {r : List Value} (h : ∀ y ∈ x :: r, pmOk n y) : ∀ y ∈ r, pmOk n y := fun y hy => h y (List.mem_cons_of_mem _ hy)
theorem pmOk_h {n : Nat} {x : Value} {r : List Value} (h : ∀ y ∈ x :: r, pmOk n y) : pmOk n x := h x List.mem_cons_self
theorem pmOk_i2 {n k m : Nat} {st st' : List Value} {f : Int32 → Int32 → Value} (hf : ∀ a b, pmOk n (f a b)) (hok : ∀ x ∈ st, pmOk n x) (h : pm2i st (fun a b r => some (k, f a b :: r)) = some (m, st')) : ∀ x ∈ st', pmOk n x := by
  obtain ⟨a, b, r, rfl, h⟩ := pm2i_some h
  cases h
  exact pmOk_cons (hf _ _) (pmOk_t (pmOk_t hok))
theorem pmOk_l2 {n k m : Nat} {st st' : List Value} {f : Int64 → Int64 → Value} (hf : ∀ a b, pmOk n (f a b)) (hok : ∀ x ∈ st, pmOk n x) (h : pm2l st (fun a b r => some (k, f a b :: r)) = some (m, st')) : ∀ x ∈ st', pmOk n x := by
  obtain ⟨a, b, r, rfl, h⟩ := pm2l_some h
  cases h
  exact pmOk_cons (hf _ _) (pmOk_t (pmOk_t hok))
theorem pmOk_li {n k m : Nat} {st st' : List Value} {f : Int64 → Int32 → Value} (hf : ∀ a b, pmOk n (f a b)) (hok : ∀ x ∈ st, pmOk n x) (h : pmli st (fun a b r => some (k, f a b :: r)) = some (m, st')) : ∀ x ∈ st', pmOk n x := by
  obtain ⟨a, b, r, rfl, h⟩ := pmli_some h
  cases h
  exact pmOk_cons (hf _ _) (pmOk_t (pmOk_t hok))
theorem pmOk_i1 {n k m : Nat} {st st' : List Value} {f : Int32 → Value} (hf : ∀ a, pmOk n (f a)) (hok : ∀ x ∈ st, pmOk n x) (h : pm1i st (fun a r => some (k, f a :: r)) = some (m, st')) : ∀ x ∈ st', pmOk n x := by
  obtain ⟨a, r, rfl, h⟩ := pm1i_some h
  cases h
  exact pmOk_cons (hf _) (pmOk_t hok)
theorem pmOk_l1 {n k m : Nat} {st st' : List Value} {f : Int64 → Value} (hf : ∀ a, pmOk n (f a)) (hok : ∀ x ∈ st, pmOk n x) (h : pm1l st (fun a r => some (k, f a :: r)) = some (m, st')) : ∀ x ∈ st', pmOk n x := by
  obtain ⟨a, r, rfl, h⟩ := pm1l_some h
  cases h
  exact pmOk_cons (hf _) (pmOk_t hok)
set_option maxHeartbeats 4000000 in
theorem pmAlu_ok {n m : Nat} {ins : Instr} {st st' : List Value} (hok : ∀ x ∈ st, pmOk n x) (h : pmAlu ins st = some (m, st')) : ∀ x ∈ st', pmOk n x := by
  cases ins
  case aconst_null => cases h; exact pmOk_cons trivial hok
  case bipush => cases h; exact pmOk_cons trivial hok
  case sipush => cases h; exact pmOk_cons trivial hok
  case iconst => cases h; exact pmOk_cons trivial hok
  case lconst => cases h; exact pmOk_cons trivial hok
  case dup =>
    replace h := pm1v_some (show pm1v st _ = _ from h)
    obtain ⟨a, r, rfl, h⟩ := h
    obtain ⟨-, h⟩ := pm_if h
    cases h
    exact pmOk_cons (pmOk_h hok) hok
  case pop =>
    replace h := pm1v_some (show pm1v st _ = _ from h)
    obtain ⟨a, r, rfl, h⟩ := h
    obtain ⟨-, h⟩ := pm_if h
    cases h
    exact pmOk_t hok
  case dup2 =>
    replace h : pmdup2 st = some (m, st') := h
    unfold pmdup2 at h
    split at h
    · rename_i a r
      by_cases h2 : a.category = 2
      · rw [if_pos h2] at h
        cases h
        exact pmOk_cons (pmOk_h hok) hok
      · rw [if_neg h2] at h
        split at h
        · obtain ⟨-, h⟩ := pm_if h
          cases h
          exact pmOk_cons (pmOk_h hok) (pmOk_cons (pmOk_h (pmOk_t hok)) hok)
        · cases h
    · cases h
  case iadd => exact pmOk_i2 (f := fun a b => .int (a + b)) (fun _ _ => trivial) hok h
  case isub => exact pmOk_i2 (f := fun a b => .int (a - b)) (fun _ _ => trivial) hok h
  case imul => exact pmOk_i2 (f := fun a b => .int (a * b)) (fun _ _ => trivial) hok h
  case iand => exact pmOk_i2 (f := fun a b => .int (a &&& b)) (fun _ _ => trivial) hok h
  case ior => exact pmOk_i2 (f := fun a b => .int (a ||| b)) (fun _ _ => trivial) hok h
  case ishl => exact pmOk_i2 (f := fun a b => .int (a <<< (b &&& 31))) (fun _ _ => trivial) hok h
  case ishr => exact pmOk_i2 (f := fun a b => .int (a >>> (b &&& 31))) (fun _ _ => trivial) hok h
  case idiv =>
    replace h := pm2i_some (show pm2i st _ = _ from h)
    obtain ⟨a, b, r, rfl, h⟩ := h
    obtain ⟨-, h⟩ := pm_if2 h
    cases h
    exact pmOk_cons trivial (pmOk_t (pmOk_t hok))
  case irem =>
    replace h := pm2i_some (show pm2i st _ = _ from h)
    obtain ⟨a, b, r, rfl, h⟩ := h
    obtain ⟨-, h⟩ := pm_if2 h
    cases h
    exact pmOk_cons trivial (pmOk_t (pmOk_t hok))
  case ladd => exact pmOk_l2 (f := fun a b => .long (a + b)) (fun _ _ => trivial) hok h
  case lsub => exact pmOk_l2 (f := fun a b => .long (a - b)) (fun _ _ => trivial) hok h
  case lmul => exact pmOk_l2 (f := fun a b => .long (a * b)) (fun _ _ => trivial) hok h
  case land => exact pmOk_l2 (f := fun a b => .long (a &&& b)) (fun _ _ => trivial) hok h
  case lor => exact pmOk_l2 (f := fun a b => .long (a ||| b)) (fun _ _ => trivial) hok h
  case lshl => exact pmOk_li (f := fun a b => .long (a <<< (b.toInt64 &&& 63))) (fun _ _ => trivial) hok h
  case lshr => exact pmOk_li (f := fun a b => .long (a >>> (b.toInt64 &&& 63))) (fun _ _ => trivial) hok h
  case lcmp => exact pmOk_l2 (f := fun a b => .int (lg_cmp a b)) (fun _ _ => trivial) hok h
  case ineg => exact pmOk_i1 (f := fun a => .int (-a)) (fun _ => trivial) hok h
  case i2l => exact pmOk_i1 (f := fun a => .long a.toInt64) (fun _ => trivial) hok h
  case i2b => exact pmOk_i1 (f := fun a => .int a.toInt8.toInt32) (fun _ => trivial) hok h
  case i2s => exact pmOk_i1 (f := fun a => .int a.toInt16.toInt32) (fun _ => trivial) hok h
  case i2c => exact pmOk_i1 (f := fun a => .int (a.toUInt32 % 65536).toInt32) (fun _ => trivial) hok h
  case l2i => exact pmOk_l1 (f := fun a => .int a.toInt32) (fun _ => trivial) hok h
  all_goals (simp [pmAlu] at h)
theorem pmSet_mem {ls : List Value} {i : Nat} {x y : Value} (h : y ∈ pmSet ls i x) : y = x ∨ y ∈ ls ∨ y = pmJ := by
  obtain ⟨j, hj⟩ := List.getElem?_of_mem h
  by_cases e : y = pmJ
  · exact Or.inr (Or.inr e)
  · by_cases hc : x.category = 2
    · rcases pmSet_get2 hc hj e with ⟨-, e2⟩ | ⟨-, -, e2, -⟩
      · exact Or.inl e2
      · exact Or.inr (Or.inl (List.mem_of_getElem? e2))
    · rcases pmSet_get1 hc hj e with ⟨-, e2⟩ | ⟨-, e2, -⟩
      · exact Or.inl e2
      · exact Or.inr (Or.inl (List.mem_of_getElem? e2))
theorem pmSet_ok {n : Nat} {ls : List Value} {i : Nat} {x : Value} (hl : ∀ y ∈ ls, pmOk n y) (hx : pmOk n x) : ∀ y ∈ pmSet ls i x, pmOk n y := fun y hy => by
  rcases pmSet_mem hy with rfl | h | rfl
  · exact hx
  · exact hl y h
  · trivial
set_option maxHeartbeats 4000000 in
theorem pmLoc_ok {n m : Nat} {ins : Instr} {ls ls' st st' : List Value} (hl : ∀ x ∈ ls, pmOk n x) (hok : ∀ x ∈ st, pmOk n x) (h : pmLoc ins ls st = some (m, ls', st')) : (∀ x ∈ ls', pmOk n x) ∧ ∀ x ∈ st', pmOk n x := by
  have gi : ∀ {i k : Nat}, pmGi ls st i k = some (m, ls', st') → (∀ x ∈ ls', pmOk n x) ∧ ∀ x ∈ st', pmOk n x := by
    intro i k h
    unfold pmGi at h
    split at h
    · cases h; exact ⟨hl, pmOk_cons trivial hok⟩
    · cases h
  have gl : ∀ {i k : Nat}, pmGl ls st i k = some (m, ls', st') → (∀ x ∈ ls', pmOk n x) ∧ ∀ x ∈ st', pmOk n x := by
    intro i k h
    unfold pmGl at h
    split at h
    · cases h; exact ⟨hl, pmOk_cons trivial hok⟩
    · cases h
  have gr : ∀ {i k : Nat}, pmGr ls st i k = some (m, ls', st') → (∀ x ∈ ls', pmOk n x) ∧ ∀ x ∈ st', pmOk n x := by
    intro i k h
    unfold pmGr at h
    split at h
    · rename_i hg
      obtain ⟨-, h⟩ := pm_if h
      cases h; exact ⟨hl, pmOk_cons (hl _ (List.mem_of_getElem? hg)) hok⟩
    · cases h; exact ⟨hl, pmOk_cons trivial hok⟩
    · cases h
  have si : ∀ {i k : Nat}, pmSi ls st i k = some (m, ls', st') → (∀ x ∈ ls', pmOk n x) ∧ ∀ x ∈ st', pmOk n x := by
    intro i k h
    unfold pmSi at h
    split at h
    · obtain ⟨-, h⟩ := pm_if h
      cases h; exact ⟨pmSet_ok hl trivial, pmOk_t hok⟩
    · cases h
  have sl : ∀ {i k : Nat}, pmSl ls st i k = some (m, ls', st') → (∀ x ∈ ls', pmOk n x) ∧ ∀ x ∈ st', pmOk n x := by
    intro i k h
    unfold pmSl at h
    split at h
    · obtain ⟨-, h⟩ := pm_if h
      cases h; exact ⟨pmSet_ok hl trivial, pmOk_t hok⟩
    · cases h
  have sr : ∀ {i k : Nat}, pmSr ls st i k = some (m, ls', st') → (∀ x ∈ ls', pmOk n x) ∧ ∀ x ∈ st', pmOk n x := by
    intro i k h
    unfold pmSr at h
    split at h
    · obtain ⟨-, h⟩ := pm_if h
      cases h; exact ⟨pmSet_ok hl (pmOk_h hok), pmOk_t hok⟩
    · obtain ⟨-, h⟩ := pm_if h
      cases h; exact ⟨pmSet_ok hl trivial, pmOk_t hok⟩
    · cases h
  cases ins
  case iload_n i => exact gi (i := i) (k := 1) h
  case iload i => exact gi (i := i) (k := 2) h
  case lload_n i => exact gl (i := i) (k := 1) h
  case lload i => exact gl (i := i) (k := 2) h
  case aload_n i => exact gr (i := i) (k := 1) h
  case aload i => exact gr (i := i) (k := 2) h
  case istore_n i => exact si (i := i) (k := 1) h
  case istore i => exact si (i := i) (k := 2) h
  case lstore_n i => exact sl (i := i) (k := 1) h
  case lstore i => exact sl (i := i) (k := 2) h
  case astore_n i => exact sr (i := i) (k := 1) h
  case astore i => exact sr (i := i) (k := 2) h
  case iinc i z =>
    replace h : pmInc ls st i z = some (m, ls', st') := h
    unfold pmInc at h
    split at h
    · obtain ⟨-, h⟩ := pm_if h
      cases h; exact ⟨pmSet_ok hl trivial, hok⟩
    · cases h
  all_goals (simp [pmLoc] at h)
theorem pmGo_ok {n pc pc' : Nat} {off : Int} {r st' : List Value} (hok : ∀ x ∈ r, pmOk n x) (h : pmGo pc off r = some (pc', st')) : ∀ x ∈ st', pmOk n x := by
  obtain ⟨-, h⟩ := pm_if (show (if _ then some (_, r) else none) = _ from h)
  cases h
  exact hok
theorem pmGo2_ok {n pc pc' : Nat} {off : Int} {t : Bool} {r st' : List Value} (hok : ∀ x ∈ r, pmOk n x) (h : pmGo2 pc off t r = some (pc', st')) : ∀ x ∈ st', pmOk n x := by
  obtain ⟨-, h⟩ := pm_if (show (if _ then some (_, r) else none) = _ from h)
  cases h
  exact hok
set_option maxHeartbeats 4000000 in
theorem pmBr_ok {n k pc pc' : Nat} {ins : Instr} {st st' : List Value} (hok : ∀ x ∈ st, pmOk n x) (h : pmBr ins k pc st = some (pc', st')) : ∀ x ∈ st', pmOk n x := by
  cases ins
  case goto off =>
    obtain ⟨-, h⟩ := pm_if (show (if k = 3 then pmGo pc off st else none) = _ from h)
    exact pmGo_ok hok h
  case ifCond co off =>
    replace h := pm_if (show (if k = 3 then _ else none) = _ from h)
    obtain ⟨-, h⟩ := h
    replace h := pm1i_some h
    obtain ⟨a, r, rfl, h⟩ := h
    exact pmGo2_ok (pmOk_t hok) h
  case if_icmp co off =>
    replace h := pm_if (show (if k = 3 then _ else none) = _ from h)
    obtain ⟨-, h⟩ := h
    replace h := pm2i_some h
    obtain ⟨a, b, r, rfl, h⟩ := h
    exact pmGo2_ok (pmOk_t (pmOk_t hok)) h
  case ifnull off =>
    replace h := pm_if (show (if k = 3 then pm1v st _ else none) = _ from h)
    obtain ⟨-, h⟩ := h
    replace h := pm1v_some h
    obtain ⟨a, r, rfl, h⟩ := h
    split at h
    · exact pmGo_ok (pmOk_t hok) h
    · obtain ⟨-, h⟩ := pm_if h
      cases h
      exact pmOk_t hok
    · cases h
  case ifnonnull off =>
    replace h := pm_if (show (if k = 3 then pm1v st _ else none) = _ from h)
    obtain ⟨-, h⟩ := h
    replace h := pm1v_some h
    obtain ⟨a, r, rfl, h⟩ := h
    split at h
    · cases h
      exact pmOk_t hok
    · obtain ⟨-, h⟩ := pm_if h
      exact pmGo_ok (pmOk_t hok) h
    · cases h
  case tableswitch dflt lo hi offs =>
    replace h := pm1i_some (show pm1i st _ = _ from h)
    obtain ⟨x, r, rfl, h⟩ := h
    split at h
    · exact pmGo_ok (pmOk_t hok) h
    · split at h
      · exact pmGo_ok (pmOk_t hok) h
      · cases h
  all_goals (simp [pmBr] at h)
theorem pmSz_app (T : pmT) (t : Nat × Nat) : pmSz (T ++ [t]) = pmSz T + t.2 := by simp [pmSz]
/-- the five ways of a step -/
theorem pmStep_cases {X : pmX} {d : Nat} {M : pmM} {ins : Instr} {n pc pc' : Nat} {ls ls' st st' : List Value} {T T' : pmT} {v v' : pmV} (h : pmStep X d M ins n pc ls st T v = some (pc', ls', st', T', v')) :
    (pmAlu ins st = some (n, st') ∧ pc' = pc + n ∧ ls' = ls ∧ T' = T ∧ v' = v) ∨ (pmLoc ins ls st = some (n, ls', st') ∧ pc' = pc + n ∧ T' = T ∧ v' = v) ∨ (pmBr ins n pc st = some (pc', st') ∧ ls' = ls ∧ T' = T ∧ v' = v) ∨
    (pmMem X d M.1 M.2.1.name ins T v st = some (n, st', v') ∧ pc' = pc + n ∧ ls' = ls ∧ T' = T) ∨ (∃ (st1 : List Value) (t : Nat × Nat), pmMk ins n M.1 st = some (st1, t) ∧ pc' = pc + n ∧ ls' = ls ∧ st' = .ref (32 + T.length) :: st1 ∧ T' = T ++ [t] ∧ v' = pmNew v (32 + T.length)) := by
  unfold pmStep at h
  split at h
  · rename_i h1
    obtain ⟨rfl, h⟩ := pm_if h
    cases h
    exact Or.inl ⟨h1, rfl, rfl, rfl, rfl⟩
  · split at h
    · rename_i h1
      obtain ⟨rfl, h⟩ := pm_if h
      cases h
      exact Or.inr (Or.inl ⟨h1, rfl, rfl, rfl⟩)
    · split at h
      · rename_i h1
        cases h
        exact Or.inr (Or.inr (Or.inl ⟨h1, rfl, rfl, rfl⟩))
      · split at h
        · rename_i h1
          obtain ⟨rfl, h⟩ := pm_if h
          cases h
          exact Or.inr (Or.inr (Or.inr (Or.inl ⟨h1, rfl, rfl, rfl⟩)))
        · split at h
          · rename_i h1
            cases h
            exact Or.inr (Or.inr (Or.inr (Or.inr ⟨_, _, h1, rfl, rfl, rfl, rfl, rfl⟩)))
          · cases h
theorem pmStep_mono {X : pmX} {d : Nat} {M : pmM} {ins : Instr} {n pc pc' : Nat} {ls ls' st st' : List Value} {T T' : pmT} {v v' : pmV} (h : pmStep X d M ins n pc ls st T v = some (pc', ls', st', T', v')) : T.length ≤ T'.length ∧ pmSz T ≤ pmSz T' := by
  rcases pmStep_cases h with ⟨-, -, -, rfl, -⟩ | ⟨-, -, rfl, -⟩ | ⟨-, -, rfl, -⟩ | ⟨-, -, -, rfl⟩ | ⟨_, t, -, -, -, -, rfl, -⟩
  · exact ⟨Nat.le_refl _, Nat.le_refl _⟩
  · exact ⟨Nat.le_refl _, Nat.le_refl _⟩
  · exact ⟨Nat.le_refl _, Nat.le_refl _⟩
  · exact ⟨Nat.le_refl _, Nat.le_refl _⟩
  · rw [pmSz_app, List.length_append]
    exact ⟨Nat.le_add_right _ _, Nat.le_add_right _ _⟩
theorem pmExec_mono {X : pmX} : ∀ (f d : Nat) (M : pmM) (pc : Nat) (ls st : List Value) (T : pmT) (v : pmV) (o : Option Value) (T' : pmT) (v' : pmV), pmExec X f d M pc ls st T v = some (o, T', v') → T.length ≤ T'.length ∧ pmSz T ≤ pmSz T' := by
  intro f
  induction f with
  | zero => intro d M pc ls st T v o T' v' h; simp [pmExec] at h
  | succ f ih =>
    intro d M pc ls st T v o T' v' h
    unfold pmExec at h
    split at h
    · cases h
    · split at h
      · cases h
        exact ⟨Nat.le_refl _, Nat.le_refl _⟩
      · split at h
        · rename_i hs
          have h1 := pmStep_mono hs
          have h2 := ih _ _ _ _ _ _ _ _ _ _ h
          omega
        · split at h
          · cases h
          · split at h
            · cases h
            · obtain ⟨-, h⟩ := pm_if h
              split at h
              · cases h
              · rename_i hs
                have h1 := ih _ _ _ _ _ _ _ _ _ _ hs
                have h2 := ih _ _ _ _ _ _ _ _ _ _ h
                omega
