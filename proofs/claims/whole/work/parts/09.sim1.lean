/-! WHAT THE PURE MACHINE'S WORDS MEAN: worlds; then the instructions that touch no memory -/
def pmL (sv : Value) (al : Nat → Nat) : Value → Value
  | .ref a => if a = 30 then sv else .ref (al a)
  | x => x
theorem pm_ne30 {a : Nat} (h : 32 ≤ a) : ¬ a = 30 := by omega
theorem pmL_ref {sv : Value} {al : Nat → Nat} {a : Nat} (h : 32 ≤ a) : pmL sv al (.ref a) = .ref (al a) := if_neg (pm_ne30 h)
theorem pmL_cat {sv : Value} {al : Nat → Nat} (hs : sv.category = 1) (x : Value) : (pmL sv al x).category = x.category := by
  cases x with
  | ref a =>
    show (if a = 30 then sv else .ref (al a)).category = 1
    by_cases h : a = 30
    · rw [if_pos h]; exact hs
    · rw [if_neg h]; rfl
  | _ => rfl
theorem pmL_num {sv : Value} {al : Nat → Nat} (hs : sv.category = 1) (l : List Value) : ((l.map (pmL sv al)).map fun v => v.category).sum = pmNum l := by
  unfold pmNum
  rw [List.map_map]
  congr 1
  apply List.map_congr_left
  intro x _
  exact pmL_cat hs x
theorem pm1i_some {α : Type} {st : List Value} {k : Int32 → List Value → Option α} {y : α} (h : pm1i st k = some y) : ∃ a r, st = .int a :: r ∧ k a r = some y := by
  unfold pm1i at h
  split at h
  · exact ⟨_, _, rfl, h⟩
  · cases h
theorem pm2i_some {α : Type} {st : List Value} {k : Int32 → Int32 → List Value → Option α} {y : α} (h : pm2i st k = some y) : ∃ a b r, st = .int b :: .int a :: r ∧ k a b r = some y := by
  unfold pm2i at h
  split at h
  · exact ⟨_, _, _, rfl, h⟩
  · cases h
theorem pm1l_some {α : Type} {st : List Value} {k : Int64 → List Value → Option α} {y : α} (h : pm1l st k = some y) : ∃ a r, st = .long a :: r ∧ k a r = some y := by
  unfold pm1l at h
  split at h
  · exact ⟨_, _, rfl, h⟩
  · cases h
theorem pm2l_some {α : Type} {st : List Value} {k : Int64 → Int64 → List Value → Option α} {y : α} (h : pm2l st k = some y) : ∃ a b r, st = .long b :: .long a :: r ∧ k a b r = some y := by
  unfold pm2l at h
  split at h
  · exact ⟨_, _, _, rfl, h⟩
  · cases h
theorem pmli_some {α : Type} {st : List Value} {k : Int64 → Int32 → List Value → Option α} {y : α} (h : pmli st k = some y) : ∃ a b r, st = .int b :: .long a :: r ∧ k a b r = some y := by
  unfold pmli at h
  split at h
  · exact ⟨_, _, _, rfl, h⟩
  · cases h
theorem pm1r_some {α : Type} {st : List Value} {k : Nat → List Value → Option α} {y : α} (h : pm1r st k = some y) : ∃ (a : Nat) (r : List Value), st = .ref a :: r ∧ k a r = some y := by
  unfold pm1r at h
  split at h
  · exact ⟨_, _, rfl, h⟩
  · cases h
theorem pmir_some {α : Type} {st : List Value} {k : Nat → Int32 → List Value → Option α} {y : α} (h : pmir st k = some y) : ∃ (a : Nat) (i : Int32) (r : List Value), st = .int i :: .ref a :: r ∧ k a i r = some y := by
  unfold pmir at h
  split at h
  · exact ⟨_, _, _, rfl, h⟩
  · cases h
theorem pm1v_some {α : Type} {st : List Value} {k : Value → List Value → Option α} {y : α} (h : pm1v st k = some y) : ∃ a r, st = a :: r ∧ k a r = some y := by
  unfold pm1v at h
  split at h
  · exact ⟨_, _, rfl, h⟩
  · cases h
theorem pm_if {α : Type} {p : Prop} [Decidable p] {x : Option α} {y : α} (h : (if p then x else none) = some y) : p ∧ x = some y := by
  by_cases hp : p
  · rw [if_pos hp] at h; exact ⟨hp, h⟩
  · rw [if_neg hp] at h; cases h
theorem pm_if2 {α : Type} {p : Prop} [Decidable p] {x : Option α} {y : α} (h : (if p then none else x) = some y) : ¬ p ∧ x = some y := by
  by_cases hp : p
  · rw [if_pos hp] at h; cases h
  · rw [if_neg hp] at h; exact ⟨hp, h⟩
theorem pm_map {α β : Type} {x : Option α} {f : α → β} {y : β} (h : x.map f = some y) : ∃ a, x = some a ∧ f a = y := Option.map_eq_some_iff.mp h
section PMSIM
variable {p : Program} {l : Launch} {e : Env} {R : Room} {s : State} {m : MethodId} {args : Array Value} {below : List Frame} {meth : Method} {c : Code} {H : Heap} {locs : List Loc} {cells slots : Nat} {Q : State → Prop}
variable {cc : ByteArray} {pc : Nat} {lsm : Array Slot} {sv : Value} {al : Nat → Nat}
set_option maxHeartbeats 4000000 in
theorem sim_alu (hs : sv.category = 1) (hx : p.tables.exec = Jvm.exec) (hb : c.code = cc) {ins : Instr} {st st' : List Value} {n : Nat} (h : pmAlu ins st = some (n, st')) (hd : decode cc pc = .ok (ins, n))
    (k : W p l e R s m args below meth c H locs cells slots Q (F0 m (pc + n) lsm (st'.map (pmL sv al)))) : W p l e R s m args below meth c H locs cells slots Q (F0 m pc lsm (st.map (pmL sv al))) := by
  cases ins
  case aconst_null =>
    cases h
    exact lv_null hx hb hd k
  case bipush b =>
    cases h
    exact lv_bipush hx hb hd rfl k
  case sipush b =>
    cases h
    exact lv_sipush hx hb hd rfl k
  case iconst b =>
    cases h
    exact lv_iconst hx hb hd rfl k
  case lconst b =>
    cases h
    exact lv_lconst hx hb hd rfl k
  case dup =>
    replace h := pm1v_some (show pm1v st _ = _ from h)
    obtain ⟨a, r, rfl, h⟩ := h
    obtain ⟨h1, h⟩ := pm_if h
    cases h
    exact lv_dup hx hb hd ((pmL_cat hs a).trans h1) k
  case pop =>
    replace h := pm1v_some (show pm1v st _ = _ from h)
    obtain ⟨a, r, rfl, h⟩ := h
    obtain ⟨h1, h⟩ := pm_if h
    cases h
    exact lv_pop hx hb hd ((pmL_cat hs a).trans h1) k
  case dup2 =>
    replace h : pmdup2 st = some (n, st') := h
    unfold pmdup2 at h
    split at h
    · rename_i a r
      by_cases h2 : a.category = 2
      · rw [if_pos h2] at h
        cases h
        exact lv_dup2_2 hx hb hd ((pmL_cat hs a).trans h2) k
      · rw [if_neg h2] at h
        split at h
        · rename_i b r2
          obtain ⟨h3, h⟩ := pm_if h
          cases h
          have h4 : a.category = 1 := by rcases lv_cat a with q | q; exact q; exact absurd q h2
          exact lv_dup2_11 hx hb hd ((pmL_cat hs a).trans h4) ((pmL_cat hs b).trans h3) k
        · cases h
    · cases h
  case iadd =>
    replace h := pm2i_some (show pm2i st _ = _ from h)
    obtain ⟨a, b, r, rfl, h⟩ := h
    cases h
    exact lv_iadd hx hb hd k
  case isub =>
    replace h := pm2i_some (show pm2i st _ = _ from h)
    obtain ⟨a, b, r, rfl, h⟩ := h
    cases h
    exact lv_isub hx hb hd k
  case imul =>
    replace h := pm2i_some (show pm2i st _ = _ from h)
    obtain ⟨a, b, r, rfl, h⟩ := h
    cases h
    exact lv_imul hx hb hd k
  case iand =>
    replace h := pm2i_some (show pm2i st _ = _ from h)
    obtain ⟨a, b, r, rfl, h⟩ := h
    cases h
    exact lv_iand hx hb hd k
  case ior =>
    replace h := pm2i_some (show pm2i st _ = _ from h)
    obtain ⟨a, b, r, rfl, h⟩ := h
    cases h
    exact lv_ior hx hb hd k
  case ishl =>
    replace h := pm2i_some (show pm2i st _ = _ from h)
    obtain ⟨a, b, r, rfl, h⟩ := h
    cases h
    exact lv_ishl hx hb hd k
  case ishr =>
    replace h := pm2i_some (show pm2i st _ = _ from h)
    obtain ⟨a, b, r, rfl, h⟩ := h
    cases h
    exact lv_ishr hx hb hd k
  case idiv =>
    replace h := pm2i_some (show pm2i st _ = _ from h)
    obtain ⟨a, b, r, rfl, h⟩ := h
    obtain ⟨h1, h⟩ := pm_if2 h
    cases h
    exact lv_idiv hx hb hd h1 k
  case irem =>
    replace h := pm2i_some (show pm2i st _ = _ from h)
    obtain ⟨a, b, r, rfl, h⟩ := h
    obtain ⟨h1, h⟩ := pm_if2 h
    cases h
    exact lv_irem hx hb hd h1 k
  case ladd =>
    replace h := pm2l_some (show pm2l st _ = _ from h)
    obtain ⟨a, b, r, rfl, h⟩ := h
    cases h
    exact lv_ladd hx hb hd k
  case lsub =>
    replace h := pm2l_some (show pm2l st _ = _ from h)
    obtain ⟨a, b, r, rfl, h⟩ := h
    cases h
    exact lv_lsub hx hb hd k
  case lmul =>
    replace h := pm2l_some (show pm2l st _ = _ from h)
    obtain ⟨a, b, r, rfl, h⟩ := h
    cases h
    exact lv_lmul hx hb hd k
  case land =>
    replace h := pm2l_some (show pm2l st _ = _ from h)
    obtain ⟨a, b, r, rfl, h⟩ := h
    cases h
    exact lv_land hx hb hd k
  case lor =>
    replace h := pm2l_some (show pm2l st _ = _ from h)
    obtain ⟨a, b, r, rfl, h⟩ := h
    cases h
    exact lv_lor hx hb hd k
  case lcmp =>
    replace h := pm2l_some (show pm2l st _ = _ from h)
    obtain ⟨a, b, r, rfl, h⟩ := h
    cases h
    exact W.lcmp hx hb hd k
  case lshl =>
    replace h := pmli_some (show pmli st _ = _ from h)
    obtain ⟨a, b, r, rfl, h⟩ := h
    cases h
    exact lv_lshl hx hb hd rfl k
  case lshr =>
    replace h := pmli_some (show pmli st _ = _ from h)
    obtain ⟨a, b, r, rfl, h⟩ := h
    cases h
    exact lv_lshr hx hb hd rfl k
  case ineg =>
    replace h := pm1i_some (show pm1i st _ = _ from h)
    obtain ⟨a, r, rfl, h⟩ := h
    cases h
    exact lv_ineg hx hb hd k
  case i2l =>
    replace h := pm1i_some (show pm1i st _ = _ from h)
    obtain ⟨a, r, rfl, h⟩ := h
    cases h
    exact lv_i2l hx hb hd rfl k
  case i2b =>
    replace h := pm1i_some (show pm1i st _ = _ from h)
    obtain ⟨a, r, rfl, h⟩ := h
    cases h
    exact lv_i2b hx hb hd rfl k
  case i2s =>
    replace h := pm1i_some (show pm1i st _ = _ from h)
    obtain ⟨a, r, rfl, h⟩ := h
    cases h
    exact lv_i2s hx hb hd rfl k
  case i2c =>
    replace h := pm1i_some (show pm1i st _ = _ from h)
    obtain ⟨a, r, rfl, h⟩ := h
    cases h
    exact lv_i2c hx hb hd rfl k
  case l2i =>
    replace h := pm1l_some (show pm1l st _ = _ from h)
    obtain ⟨a, r, rfl, h⟩ := h
    cases h
    exact lv_l2i hx hb hd rfl k
  all_goals (simp [pmAlu] at h)
set_option maxHeartbeats 4000000 in
theorem sim_br (hx : p.tables.exec = Jvm.exec) (hb : c.code = cc) {ins : Instr} {st st' : List Value} {n pc' : Nat} (h : pmBr ins n pc st = some (pc', st')) (hd : decode cc pc = .ok (ins, n))
    (k : W p l e R s m args below meth c H locs cells slots Q (F0 m pc' lsm (st'.map (pmL sv al)))) : W p l e R s m args below meth c H locs cells slots Q (F0 m pc lsm (st.map (pmL sv al))) := by
  have go : ∀ {off : Int} {r : List Value}, pmGo pc off r = some (pc', st') → (pc : Int) + off = (pc' : Int) ∧ st' = r := by
    intro off r h
    obtain ⟨h1, h2⟩ := pm_if (show (if 0 ≤ (pc : Int) + off then some (((pc : Int) + off).toNat, r) else none) = _ from h)
    cases h2
    exact ⟨(Int.toNat_of_nonneg h1).symm, rfl⟩
  have go2 : ∀ {off : Int} {t : Bool} {r : List Value}, pmGo2 pc off t r = some (pc', st') → ∃ tgt : Nat, (pc : Int) + off = (tgt : Int) ∧ st' = r ∧ pc' = if t = true then tgt else pc + 3 := by
    intro off t r h
    obtain ⟨h1, h2⟩ := pm_if (show (if 0 ≤ (pc : Int) + off then some (if t = true then ((pc : Int) + off).toNat else pc + 3, r) else none) = _ from h)
    cases h2
    exact ⟨_, (Int.toNat_of_nonneg h1).symm, rfl, rfl⟩
  cases ins
  case goto off =>
    replace h := pm_if (show (if n = 3 then pmGo pc off st else none) = _ from h)
    obtain ⟨rfl, h⟩ := h
    obtain ⟨h1, rfl⟩ := go h
    exact lv_goto hx hb hd h1 k
  case ifCond co off =>
    replace h := pm_if (show (if n = 3 then pm1i st (fun x r => pmGo2 pc off (pmC0 co x) r) else none) = _ from h)
    obtain ⟨rfl, h⟩ := h
    replace h := pm1i_some h
    obtain ⟨x, r, rfl, h⟩ := h
    obtain ⟨tgt, h1, rfl, h2⟩ := go2 h
    cases co
    · have h3 : (pmC0 .eq x = true) ↔ (x = 0) := by simp [pmC0]
      refine lv_if_eq hx hb hd h1 (fun q => ?_) (fun q => ?_)
      · rw [if_pos (h3.mpr q)] at h2; subst h2; exact k
      · rw [if_neg (fun z => q (h3.mp z))] at h2; subst h2; exact k
    · have h3 : (pmC0 .ne x = true) ↔ (¬ x = 0) := by simp [pmC0]
      refine lv_if_ne hx hb hd h1 (fun q => ?_) (fun q => ?_)
      · rw [if_pos (h3.mpr q)] at h2; subst h2; exact k
      · rw [if_neg (fun z => (h3.mp z) q)] at h2; subst h2; exact k
    · have h3 : (pmC0 .lt x = true) ↔ (x < 0) := by simp [pmC0]
      refine lv_if_lt hx hb hd h1 (fun q => ?_) (fun q => ?_)
      · rw [if_pos (h3.mpr q)] at h2; subst h2; exact k
      · rw [if_neg (fun z => q (h3.mp z))] at h2; subst h2; exact k
    · have h3 : (pmC0 .ge x = true) ↔ (0 ≤ x) := by simp [pmC0]
      refine lv_if_ge hx hb hd h1 (fun q => ?_) (fun q => ?_)
      · rw [if_pos (h3.mpr q)] at h2; subst h2; exact k
      · rw [if_neg (fun z => q (h3.mp z))] at h2; subst h2; exact k
    · have h3 : (pmC0 .gt x = true) ↔ (0 < x) := by simp [pmC0]
      refine lv_if_gt hx hb hd h1 (fun q => ?_) (fun q => ?_)
      · rw [if_pos (h3.mpr q)] at h2; subst h2; exact k
      · rw [if_neg (fun z => q (h3.mp z))] at h2; subst h2; exact k
    · have h3 : (pmC0 .le x = true) ↔ (x ≤ 0) := by simp [pmC0]
      refine lv_if_le hx hb hd h1 (fun q => ?_) (fun q => ?_)
      · rw [if_pos (h3.mpr q)] at h2; subst h2; exact k
      · rw [if_neg (fun z => q (h3.mp z))] at h2; subst h2; exact k
  case if_icmp co off =>
    replace h := pm_if (show (if n = 3 then pm2i st (fun x y r => pmGo2 pc off (pmC2 co x y) r) else none) = _ from h)
    obtain ⟨rfl, h⟩ := h
    replace h := pm2i_some h
    obtain ⟨x, y, r, rfl, h⟩ := h
    obtain ⟨tgt, h1, rfl, h2⟩ := go2 h
    cases co
    · have h3 : (pmC2 .eq x y = true) ↔ (x = y) := by simp [pmC2]
      refine lv_icmp_eq hx hb hd h1 (fun q => ?_) (fun q => ?_)
      · rw [if_pos (h3.mpr q)] at h2; subst h2; exact k
      · rw [if_neg (fun z => q (h3.mp z))] at h2; subst h2; exact k
    · have h3 : (pmC2 .ne x y = true) ↔ (¬ x = y) := by simp [pmC2]
      refine lv_icmp_ne hx hb hd h1 (fun q => ?_) (fun q => ?_)
      · rw [if_pos (h3.mpr q)] at h2; subst h2; exact k
      · rw [if_neg (fun z => (h3.mp z) q)] at h2; subst h2; exact k
    · have h3 : (pmC2 .lt x y = true) ↔ (x < y) := by simp [pmC2]
      refine lv_icmp_lt hx hb hd h1 (fun q => ?_) (fun q => ?_)
      · rw [if_pos (h3.mpr q)] at h2; subst h2; exact k
      · rw [if_neg (fun z => q (h3.mp z))] at h2; subst h2; exact k
    · have h3 : (pmC2 .ge x y = true) ↔ (y ≤ x) := by simp [pmC2]
      refine lv_icmp_ge hx hb hd h1 (fun q => ?_) (fun q => ?_)
      · rw [if_pos (h3.mpr q)] at h2; subst h2; exact k
      · rw [if_neg (fun z => q (h3.mp z))] at h2; subst h2; exact k
    · have h3 : (pmC2 .gt x y = true) ↔ (y < x) := by simp [pmC2]
      refine lv_icmp_gt hx hb hd h1 (fun q => ?_) (fun q => ?_)
      · rw [if_pos (h3.mpr q)] at h2; subst h2; exact k
      · rw [if_neg (fun z => q (h3.mp z))] at h2; subst h2; exact k
    · have h3 : (pmC2 .le x y = true) ↔ (x ≤ y) := by simp [pmC2]
      refine lv_icmp_le hx hb hd h1 (fun q => ?_) (fun q => ?_)
      · rw [if_pos (h3.mpr q)] at h2; subst h2; exact k
      · rw [if_neg (fun z => q (h3.mp z))] at h2; subst h2; exact k
  case ifnull off =>
    replace h := pm_if (show (if n = 3 then pm1v st _ else none) = _ from h)
    obtain ⟨rfl, h⟩ := h
    replace h := pm1v_some h
    obtain ⟨a, r, rfl, h⟩ := h
    cases a with
    | null =>
      obtain ⟨h1, rfl⟩ := go h
      exact lv_ifnullN hx hb hd h1 k
    | ref a =>
      obtain ⟨h1, h⟩ := pm_if (show (if 32 ≤ a then some (pc + 3, r) else none) = _ from h)
      cases h
      have e1 : pmL sv al (.ref a) = .ref (al a) := pmL_ref h1
      rw [List.map_cons, e1]
      exact lv_ifnull hx hb hd k
    | _ => cases h
  case ifnonnull off =>
    replace h := pm_if (show (if n = 3 then pm1v st _ else none) = _ from h)
    obtain ⟨rfl, h⟩ := h
    replace h := pm1v_some h
    obtain ⟨a, r, rfl, h⟩ := h
    cases a with
    | null =>
      cases h
      exact lv_ifnonnullN hx hb hd k
    | ref a =>
      obtain ⟨h1, h⟩ := pm_if (show (if 32 ≤ a then pmGo pc off r else none) = _ from h)
      obtain ⟨h2, rfl⟩ := go h
      have e1 : pmL sv al (.ref a) = .ref (al a) := pmL_ref h1
      rw [List.map_cons, e1]
      exact lv_ifnonnull hx hb hd h2 k
    | _ => cases h
  case tableswitch dflt lo hi offs =>
    replace h := pm1i_some (show pm1i st _ = _ from h)
    obtain ⟨x, r, rfl, h⟩ := h
    by_cases hc : x.toInt < lo ∨ hi < x.toInt
    · rw [if_pos hc] at h
      obtain ⟨h1, rfl⟩ := go h
      exact lv_tableOut hx hb hd hc h1 k
    · rw [if_neg hc] at h
      cases ho : offs[(x.toInt - lo).toNat]? with
      | none => rw [ho] at h; cases h
      | some off =>
        rw [ho] at h
        obtain ⟨h1, rfl⟩ := go h
        exact lv_tableIn hx hb hd (fun q => hc (Or.inl q)) (fun q => hc (Or.inr q)) ho h1 k
  all_goals (simp [pmBr] at h)
end PMSIM