/-! RUNS WITH A CONDITION BEHIND: a row an instruction -/
def EvP (X : pmX) (d : Nat) (M : pmM) (pc : Nat) (ls st : List Value) (T : pmT) (v : pmV) (P : Option Value → pmT → pmV → Prop) : Prop := ∃ (f : Nat) (o : Option Value) (T' : pmT) (v' : pmV), pmExec X f d M pc ls st T v = some (o, T', v') ∧ P o T' v'
def pmPush (o : Option Value) (r : List Value) : List Value := match o with
  | some x => x :: r
  | none => r
theorem pmPush_eq (o : Option Value) (r : List Value) : o.toList ++ r = pmPush o r := by cases o <;> rfl
theorem pmExec_succ {X : pmX} : ∀ (f d : Nat) (M : pmM) (pc : Nat) (ls st : List Value) (T : pmT) (v : pmV) (R : Option Value × pmT × pmV), pmExec X f d M pc ls st T v = some R → pmExec X (f + 1) d M pc ls st T v = some R := by
  intro f
  induction f with
  | zero => intro d M pc ls st T v R h; simp [pmExec] at h
  | succ f ih =>
    intro d M pc ls st T v R h
    unfold pmExec at h ⊢
    cases hd : decode M.2.2.1 pc with
    | error z => rw [hd] at h; cases h
    | ok q =>
      obtain ⟨ins, n⟩ := q
      rw [hd] at h
      dsimp only at h ⊢
      cases hr : pmRet M ins n st with
      | some r => rw [hr] at h; exact h
      | none =>
        rw [hr] at h
        dsimp only at h ⊢
        cases hs : pmStep X d M ins n pc ls st T v with
        | some y =>
          obtain ⟨pc', ls', st', T', v'⟩ := y
          rw [hs] at h
          exact ih _ _ _ _ _ _ _ _ h
        | none =>
          rw [hs] at h
          dsimp only at h ⊢
          cases hc : pmCall M.1 ins n st T with
          | none => rw [hc] at h; cases h
          | some y =>
            obtain ⟨C, as, r⟩ := y
            rw [hc] at h
            dsimp only at h ⊢
            cases d with
            | zero => cases h
            | succ d =>
              dsimp only at h ⊢
              obtain ⟨h1, h⟩ := pm_if h
              rw [if_pos h1]
              cases he : pmExec X f d C 0 (pmPad C.2.2.2.1 (pmArgs as)) [] T v with
              | none => rw [he] at h; cases h
              | some z =>
                obtain ⟨o, T', v'⟩ := z
                rw [he] at h
                rw [ih _ _ _ _ _ _ _ _ he]
                exact ih _ _ _ _ _ _ _ _ h
theorem pmExec_le {X : pmX} {f f' d : Nat} {M : pmM} {pc : Nat} {ls st : List Value} {T : pmT} {v : pmV} {R : Option Value × pmT × pmV} (hf : f ≤ f') (h : pmExec X f d M pc ls st T v = some R) : pmExec X f' d M pc ls st T v = some R := by
  induction hf with
  | refl => exact h
  | step _ ih => exact pmExec_succ _ _ _ _ _ _ _ _ _ ih
section EV
variable {X : pmX} {d : Nat} {M : pmM} {ls st : List Value} {T : pmT} {v : pmV} {P : Option Value → pmT → pmV → Prop}
theorem EvP.weaken {pc : Nat} {P' : Option Value → pmT → pmV → Prop} (h : EvP X d M pc ls st T v P) (hP : ∀ o T' v', P o T' v' → P' o T' v') : EvP X d M pc ls st T v P' := by
  obtain ⟨f, o, T', v', h1, h2⟩ := h
  exact ⟨f, o, T', v', h1, hP _ _ _ h2⟩
theorem ev_ret {pc n : Nat} {ins : Instr} {o : Option Value} (hd : decode M.2.2.1 pc = .ok (ins, n)) (hr : pmRet M ins n st = some o) (k : P o T v) : EvP X d M pc ls st T v P := by
  refine ⟨1, o, T, v, ?_, k⟩
  simp only [pmExec, hd, hr]
theorem ev_step {pc n pc' : Nat} {ins : Instr} {ls' st' : List Value} {T' : pmT} {v' : pmV} (hd : decode M.2.2.1 pc = .ok (ins, n)) (hr : pmRet M ins n st = none) (hs : pmStep X d M ins n pc ls st T v = some (pc', ls', st', T', v')) (k : EvP X d M pc' ls' st' T' v' P) : EvP X d M pc ls st T v P := by
  obtain ⟨f, o, T2, v2, h1, h2⟩ := k
  refine ⟨f + 1, o, T2, v2, ?_, h2⟩
  simp only [pmExec, hd, hr, hs]
  exact h1
theorem ev_call {pc n : Nat} {ins : Instr} {C : pmM} {as r : List Value} (hd : decode M.2.2.1 pc = .ok (ins, n)) (hr : pmRet M ins n st = none) (hs : pmStep X (d + 1) M ins n pc ls st T v = none) (hc : pmCall M.1 ins n st T = some (C, as, r)) (hl : (pmArgs as).length ≤ C.2.2.2.1)
    (k : EvP X d C 0 (pmPad C.2.2.2.1 (pmArgs as)) [] T v (fun o T' v' => EvP X (d + 1) M (pc + 3) ls (pmPush o r) T' v' P)) : EvP X (d + 1) M pc ls st T v P := by
  obtain ⟨f1, o1, T1, v1, h1, f2, o2, T2, v2, h2, h3⟩ := k
  refine ⟨max f1 f2 + 1, o2, T2, v2, ?_, h3⟩
  have e1 := pmExec_le (Nat.le_max_left f1 f2) h1
  have e2 := pmExec_le (Nat.le_max_right f1 f2) h2
  rw [← pmPush_eq] at e2
  simp only [pmExec, hd, hr, hs, hc]
  rw [if_pos hl, e1]
  exact e2
theorem pmStep_none {pc n : Nat} {ins : Instr} (ha : pmAlu ins st = none) (hl : pmLoc ins ls st = none) (hb : pmBr ins n pc st = none) (hm : pmMem X d M.1 M.2.1.name ins T v st = none) (hk : pmMk ins n M.1 st = none) : pmStep X d M ins n pc ls st T v = none := by
  unfold pmStep
  rw [ha]; dsimp only; rw [hl]; dsimp only; rw [hb]; dsimp only; rw [hm]; dsimp only; rw [hk]
/-- the step rows -/
theorem ev_alu {pc n : Nat} {ins : Instr} {st' : List Value} (hd : decode M.2.2.1 pc = .ok (ins, n)) (hr : pmRet M ins n st = none) (ha : pmAlu ins st = some (n, st')) (k : EvP X d M (pc + n) ls st' T v P) : EvP X d M pc ls st T v P :=
  ev_step hd hr (by unfold pmStep; rw [ha]; exact if_pos rfl) k
theorem ev_loc {pc n : Nat} {ins : Instr} {ls' st' : List Value} (hd : decode M.2.2.1 pc = .ok (ins, n)) (hr : pmRet M ins n st = none) (ha : pmAlu ins st = none) (hl : pmLoc ins ls st = some (n, ls', st')) (k : EvP X d M (pc + n) ls' st' T v P) : EvP X d M pc ls st T v P :=
  ev_step hd hr (by unfold pmStep; rw [ha]; dsimp only; rw [hl]; exact if_pos rfl) k
theorem ev_br {pc n pc' : Nat} {ins : Instr} {st' : List Value} (hd : decode M.2.2.1 pc = .ok (ins, n)) (hr : pmRet M ins n st = none) (ha : pmAlu ins st = none) (hl : pmLoc ins ls st = none) (hb : pmBr ins n pc st = some (pc', st')) (k : EvP X d M pc' ls st' T v P) : EvP X d M pc ls st T v P :=
  ev_step hd hr (by unfold pmStep; rw [ha]; dsimp only; rw [hl]; dsimp only; rw [hb]) k
theorem ev_mem {pc n : Nat} {ins : Instr} {st' : List Value} {v' : pmV} (hd : decode M.2.2.1 pc = .ok (ins, n)) (hr : pmRet M ins n st = none) (ha : pmAlu ins st = none) (hl : pmLoc ins ls st = none) (hb : pmBr ins n pc st = none) (hm : pmMem X d M.1 M.2.1.name ins T v st = some (n, st', v')) (k : EvP X d M (pc + n) ls st' T v' P) : EvP X d M pc ls st T v P :=
  ev_step hd hr (by unfold pmStep; rw [ha]; dsimp only; rw [hl]; dsimp only; rw [hb]; dsimp only; rw [hm]; exact if_pos rfl) k
theorem ev_mk {pc n : Nat} {ins : Instr} {st' : List Value} {t : Nat × Nat} (hd : decode M.2.2.1 pc = .ok (ins, n)) (hr : pmRet M ins n st = none) (ha : pmAlu ins st = none) (hl : pmLoc ins ls st = none) (hb : pmBr ins n pc st = none) (hm : pmMem X d M.1 M.2.1.name ins T v st = none) (hk : pmMk ins n M.1 st = some (st', t)) (k : EvP X d M (pc + n) ls (.ref (32 + T.length) :: st') (T ++ [t]) (pmNew v (32 + T.length)) P) : EvP X d M pc ls st T v P :=
  ev_step hd hr (by unfold pmStep; rw [ha]; dsimp only; rw [hl]; dsimp only; rw [hb]; dsimp only; rw [hm]; dsimp only; rw [hk]) k
theorem ev_iconst (pc : Nat) {n : Int} {x : Int32} (hd : decode M.2.2.1 pc = .ok (.iconst n, 1)) (hx : Int32.ofInt n = x) (k : EvP X d M (pc + 1) ls (.int x :: st) T v P) : EvP X d M pc ls st T v P := by
  subst hx; exact ev_alu hd rfl rfl k
theorem ev_bipush (pc : Nat) {n : Int} {x : Int32} (hd : decode M.2.2.1 pc = .ok (.bipush n, 2)) (hx : (Int8.ofInt n).toInt32 = x) (k : EvP X d M (pc + 2) ls (.int x :: st) T v P) : EvP X d M pc ls st T v P := by
  subst hx; exact ev_alu hd rfl rfl k
theorem ev_sipush (pc : Nat) {n : Int} {x : Int32} (hd : decode M.2.2.1 pc = .ok (.sipush n, 3)) (hx : (Int16.ofInt n).toInt32 = x) (k : EvP X d M (pc + 3) ls (.int x :: st) T v P) : EvP X d M pc ls st T v P := by
  subst hx; exact ev_alu hd rfl rfl k
theorem ev_lconst (pc : Nat) {n : Fin 2} {x : Int64} (hd : decode M.2.2.1 pc = .ok (.lconst n, 1)) (hx : Int64.ofNat (n : Nat) = x) (k : EvP X d M (pc + 1) ls (.long x :: st) T v P) : EvP X d M pc ls st T v P := by
  subst hx; exact ev_alu hd rfl rfl k
theorem ev_null (pc : Nat) (hd : decode M.2.2.1 pc = .ok (.aconst_null, 1)) (k : EvP X d M (pc + 1) ls (.null :: st) T v P) : EvP X d M pc ls st T v P := ev_alu hd rfl rfl k
theorem ev_dup (pc : Nat) {x : Value} (hd : decode M.2.2.1 pc = .ok (.dup, 1)) (hx : x.category = 1) (k : EvP X d M (pc + 1) ls (x :: x :: st) T v P) : EvP X d M pc ls (x :: st) T v P := ev_alu hd rfl (if_pos hx) k
theorem ev_pop (pc : Nat) {x : Value} (hd : decode M.2.2.1 pc = .ok (.pop, 1)) (hx : x.category = 1) (k : EvP X d M (pc + 1) ls st T v P) : EvP X d M pc ls (x :: st) T v P := ev_alu hd rfl (if_pos hx) k
theorem ev_dup2 (pc : Nat) {x y : Value} (hd : decode M.2.2.1 pc = .ok (.dup2, 1)) (hx : x.category = 1) (hy : y.category = 1) (k : EvP X d M (pc + 1) ls (x :: y :: x :: y :: st) T v P) : EvP X d M pc ls (x :: y :: st) T v P :=
  ev_alu hd rfl (by show (if x.category = 2 then _ else _) = _; rw [if_neg (by omega), if_pos hy]) k
theorem ev_dup2l (pc : Nat) {x : Value} (hd : decode M.2.2.1 pc = .ok (.dup2, 1)) (hx : x.category = 2) (k : EvP X d M (pc + 1) ls (x :: x :: st) T v P) : EvP X d M pc ls (x :: st) T v P :=
  ev_alu hd rfl (by show (if x.category = 2 then _ else _) = _; rw [if_pos hx]) k
theorem ev_iadd (pc : Nat) {a b : Int32} (hd : decode M.2.2.1 pc = .ok (.iadd, 1)) (k : EvP X d M (pc + 1) ls (.int (a + b) :: st) T v P) : EvP X d M pc ls (.int b :: .int a :: st) T v P := ev_alu hd rfl rfl k
theorem ev_isub (pc : Nat) {a b : Int32} (hd : decode M.2.2.1 pc = .ok (.isub, 1)) (k : EvP X d M (pc + 1) ls (.int (a - b) :: st) T v P) : EvP X d M pc ls (.int b :: .int a :: st) T v P := ev_alu hd rfl rfl k
theorem ev_imul (pc : Nat) {a b : Int32} (hd : decode M.2.2.1 pc = .ok (.imul, 1)) (k : EvP X d M (pc + 1) ls (.int (a * b) :: st) T v P) : EvP X d M pc ls (.int b :: .int a :: st) T v P := ev_alu hd rfl rfl k
theorem ev_iand (pc : Nat) {a b : Int32} (hd : decode M.2.2.1 pc = .ok (.iand, 1)) (k : EvP X d M (pc + 1) ls (.int (a &&& b) :: st) T v P) : EvP X d M pc ls (.int b :: .int a :: st) T v P := ev_alu hd rfl rfl k
theorem ev_ior (pc : Nat) {a b : Int32} (hd : decode M.2.2.1 pc = .ok (.ior, 1)) (k : EvP X d M (pc + 1) ls (.int (a ||| b) :: st) T v P) : EvP X d M pc ls (.int b :: .int a :: st) T v P := ev_alu hd rfl rfl k
theorem ev_ishl (pc : Nat) {a b : Int32} (hd : decode M.2.2.1 pc = .ok (.ishl, 1)) (k : EvP X d M (pc + 1) ls (.int (a <<< (b &&& 31)) :: st) T v P) : EvP X d M pc ls (.int b :: .int a :: st) T v P := ev_alu hd rfl rfl k
theorem ev_ishr (pc : Nat) {a b : Int32} (hd : decode M.2.2.1 pc = .ok (.ishr, 1)) (k : EvP X d M (pc + 1) ls (.int (a >>> (b &&& 31)) :: st) T v P) : EvP X d M pc ls (.int b :: .int a :: st) T v P := ev_alu hd rfl rfl k
theorem ev_idiv (pc : Nat) {a b : Int32} (hd : decode M.2.2.1 pc = .ok (.idiv, 1)) (hb : ¬ b = 0) (k : EvP X d M (pc + 1) ls (.int (a / b) :: st) T v P) : EvP X d M pc ls (.int b :: .int a :: st) T v P := ev_alu hd rfl (if_neg hb) k
theorem ev_irem (pc : Nat) {a b : Int32} (hd : decode M.2.2.1 pc = .ok (.irem, 1)) (hb : ¬ b = 0) (k : EvP X d M (pc + 1) ls (.int (a - a / b * b) :: st) T v P) : EvP X d M pc ls (.int b :: .int a :: st) T v P := ev_alu hd rfl (if_neg hb) k
theorem ev_ladd (pc : Nat) {a b : Int64} (hd : decode M.2.2.1 pc = .ok (.ladd, 1)) (k : EvP X d M (pc + 1) ls (.long (a + b) :: st) T v P) : EvP X d M pc ls (.long b :: .long a :: st) T v P := ev_alu hd rfl rfl k
theorem ev_lsub (pc : Nat) {a b : Int64} (hd : decode M.2.2.1 pc = .ok (.lsub, 1)) (k : EvP X d M (pc + 1) ls (.long (a - b) :: st) T v P) : EvP X d M pc ls (.long b :: .long a :: st) T v P := ev_alu hd rfl rfl k
theorem ev_lmul (pc : Nat) {a b : Int64} (hd : decode M.2.2.1 pc = .ok (.lmul, 1)) (k : EvP X d M (pc + 1) ls (.long (a * b) :: st) T v P) : EvP X d M pc ls (.long b :: .long a :: st) T v P := ev_alu hd rfl rfl k
theorem ev_land (pc : Nat) {a b : Int64} (hd : decode M.2.2.1 pc = .ok (.land, 1)) (k : EvP X d M (pc + 1) ls (.long (a &&& b) :: st) T v P) : EvP X d M pc ls (.long b :: .long a :: st) T v P := ev_alu hd rfl rfl k
theorem ev_lor (pc : Nat) {a b : Int64} (hd : decode M.2.2.1 pc = .ok (.lor, 1)) (k : EvP X d M (pc + 1) ls (.long (a ||| b) :: st) T v P) : EvP X d M pc ls (.long b :: .long a :: st) T v P := ev_alu hd rfl rfl k
theorem ev_lshl (pc : Nat) {a : Int64} {b : Int32} (hd : decode M.2.2.1 pc = .ok (.lshl, 1)) (k : EvP X d M (pc + 1) ls (.long (a <<< (b.toInt64 &&& 63)) :: st) T v P) : EvP X d M pc ls (.int b :: .long a :: st) T v P := ev_alu hd rfl rfl k
theorem ev_lshr (pc : Nat) {a : Int64} {b : Int32} (hd : decode M.2.2.1 pc = .ok (.lshr, 1)) (k : EvP X d M (pc + 1) ls (.long (a >>> (b.toInt64 &&& 63)) :: st) T v P) : EvP X d M pc ls (.int b :: .long a :: st) T v P := ev_alu hd rfl rfl k
theorem ev_lcmp (pc : Nat) {a b : Int64} (hd : decode M.2.2.1 pc = .ok (.lcmp, 1)) (k : EvP X d M (pc + 1) ls (.int (lg_cmp a b) :: st) T v P) : EvP X d M pc ls (.long b :: .long a :: st) T v P := ev_alu hd rfl rfl k
theorem ev_ineg (pc : Nat) {a : Int32} (hd : decode M.2.2.1 pc = .ok (.ineg, 1)) (k : EvP X d M (pc + 1) ls (.int (-a) :: st) T v P) : EvP X d M pc ls (.int a :: st) T v P := ev_alu hd rfl rfl k
theorem ev_i2l (pc : Nat) {a : Int32} (hd : decode M.2.2.1 pc = .ok (.i2l, 1)) (k : EvP X d M (pc + 1) ls (.long a.toInt64 :: st) T v P) : EvP X d M pc ls (.int a :: st) T v P := ev_alu hd rfl rfl k
theorem ev_i2b (pc : Nat) {a : Int32} (hd : decode M.2.2.1 pc = .ok (.i2b, 1)) (k : EvP X d M (pc + 1) ls (.int a.toInt8.toInt32 :: st) T v P) : EvP X d M pc ls (.int a :: st) T v P := ev_alu hd rfl rfl k
theorem ev_i2s (pc : Nat) {a : Int32} (hd : decode M.2.2.1 pc = .ok (.i2s, 1)) (k : EvP X d M (pc + 1) ls (.int a.toInt16.toInt32 :: st) T v P) : EvP X d M pc ls (.int a :: st) T v P := ev_alu hd rfl rfl k
theorem ev_i2c (pc : Nat) {a : Int32} (hd : decode M.2.2.1 pc = .ok (.i2c, 1)) (k : EvP X d M (pc + 1) ls (.int (a.toUInt32 % 65536).toInt32 :: st) T v P) : EvP X d M pc ls (.int a :: st) T v P := ev_alu hd rfl rfl k
theorem ev_l2i (pc : Nat) {a : Int64} (hd : decode M.2.2.1 pc = .ok (.l2i, 1)) (k : EvP X d M (pc + 1) ls (.int a.toInt32 :: st) T v P) : EvP X d M pc ls (.long a :: st) T v P := ev_alu hd rfl rfl k
theorem ev_iload_n (pc : Nat) {k0 : Fin 4} {x : Int32} (hd : decode M.2.2.1 pc = .ok (.iload_n k0, 1)) (hx : ls[(k0 : Nat)]? = some (.int x)) (k : EvP X d M (pc + 1) ls (.int x :: st) T v P) : EvP X d M pc ls st T v P := ev_loc hd rfl rfl (by show pmGi ls st (k0 : Nat) 1 = _; unfold pmGi; rw [hx]) k
theorem ev_iload (pc : Nat) {k0 : Nat} {x : Int32} (hd : decode M.2.2.1 pc = .ok (.iload k0, 2)) (hx : ls[k0]? = some (.int x)) (k : EvP X d M (pc + 2) ls (.int x :: st) T v P) : EvP X d M pc ls st T v P := ev_loc hd rfl rfl (by show pmGi ls st k0 2 = _; unfold pmGi; rw [hx]) k
theorem ev_lload_n (pc : Nat) {k0 : Fin 4} {x : Int64} (hd : decode M.2.2.1 pc = .ok (.lload_n k0, 1)) (hx : ls[(k0 : Nat)]? = some (.long x)) (k : EvP X d M (pc + 1) ls (.long x :: st) T v P) : EvP X d M pc ls st T v P := ev_loc hd rfl rfl (by show pmGl ls st (k0 : Nat) 1 = _; unfold pmGl; rw [hx]) k
theorem ev_lload (pc : Nat) {k0 : Nat} {x : Int64} (hd : decode M.2.2.1 pc = .ok (.lload k0, 2)) (hx : ls[k0]? = some (.long x)) (k : EvP X d M (pc + 2) ls (.long x :: st) T v P) : EvP X d M pc ls st T v P := ev_loc hd rfl rfl (by show pmGl ls st k0 2 = _; unfold pmGl; rw [hx]) k
theorem ev_aload_n (pc : Nat) {k0 : Fin 4} {x : Nat} (hd : decode M.2.2.1 pc = .ok (.aload_n k0, 1)) (hx : ls[(k0 : Nat)]? = some (.ref x)) (h30 : x ≠ 30) (k : EvP X d M (pc + 1) ls (.ref x :: st) T v P) : EvP X d M pc ls st T v P := ev_loc hd rfl rfl (by show pmGr ls st (k0 : Nat) 1 = _; unfold pmGr; rw [hx]; exact if_pos h30) k
theorem ev_aload_nN (pc : Nat) {k0 : Fin 4} (hd : decode M.2.2.1 pc = .ok (.aload_n k0, 1)) (hx : ls[(k0 : Nat)]? = some .null) (k : EvP X d M (pc + 1) ls (.null :: st) T v P) : EvP X d M pc ls st T v P := ev_loc hd rfl rfl (by show pmGr ls st (k0 : Nat) 1 = _; unfold pmGr; rw [hx]) k
theorem ev_istore_n (pc : Nat) {k0 : Fin 4} {x : Int32} {ls' : List Value} (hd : decode M.2.2.1 pc = .ok (.istore_n k0, 1)) (hn : (k0 : Nat) < ls.length) (hs : pmSet ls (k0 : Nat) (.int x) = ls') (k : EvP X d M (pc + 1) ls' st T v P) : EvP X d M pc ls (.int x :: st) T v P := by
  subst hs; exact ev_loc hd rfl rfl (if_pos hn) k
theorem ev_lstore_n (pc : Nat) {k0 : Fin 4} {x : Int64} {ls' : List Value} (hd : decode M.2.2.1 pc = .ok (.lstore_n k0, 1)) (hn : (k0 : Nat) + 1 < ls.length) (hs : pmSet ls (k0 : Nat) (.long x) = ls') (k : EvP X d M (pc + 1) ls' st T v P) : EvP X d M pc ls (.long x :: st) T v P := by
  subst hs; exact ev_loc hd rfl rfl (if_pos hn) k
theorem ev_astore_n (pc : Nat) {k0 : Fin 4} {x : Nat} {ls' : List Value} (hd : decode M.2.2.1 pc = .ok (.astore_n k0, 1)) (hn : (k0 : Nat) < ls.length) (h30 : x ≠ 30) (hs : pmSet ls (k0 : Nat) (.ref x) = ls') (k : EvP X d M (pc + 1) ls' st T v P) : EvP X d M pc ls (.ref x :: st) T v P := by
  subst hs; exact ev_loc hd rfl rfl (if_pos ⟨hn, h30⟩) k
theorem ev_astore_nN (pc : Nat) {k0 : Fin 4} {ls' : List Value} (hd : decode M.2.2.1 pc = .ok (.astore_n k0, 1)) (hn : (k0 : Nat) < ls.length) (hs : pmSet ls (k0 : Nat) .null = ls') (k : EvP X d M (pc + 1) ls' st T v P) : EvP X d M pc ls (.null :: st) T v P := by
  subst hs; exact ev_loc hd rfl rfl (if_pos hn) k
theorem ev_aload (pc : Nat) {k0 : Nat} {x : Nat} (hd : decode M.2.2.1 pc = .ok (.aload k0, 2)) (hx : ls[k0]? = some (.ref x)) (h30 : x ≠ 30) (k : EvP X d M (pc + 2) ls (.ref x :: st) T v P) : EvP X d M pc ls st T v P := ev_loc hd rfl rfl (by show pmGr ls st k0 2 = _; unfold pmGr; rw [hx]; exact if_pos h30) k
theorem ev_aloadN (pc : Nat) {k0 : Nat} (hd : decode M.2.2.1 pc = .ok (.aload k0, 2)) (hx : ls[k0]? = some .null) (k : EvP X d M (pc + 2) ls (.null :: st) T v P) : EvP X d M pc ls st T v P := ev_loc hd rfl rfl (by show pmGr ls st k0 2 = _; unfold pmGr; rw [hx]) k
theorem ev_istore (pc : Nat) {k0 : Nat} {x : Int32} {ls' : List Value} (hd : decode M.2.2.1 pc = .ok (.istore k0, 2)) (hn : k0 < ls.length) (hs : pmSet ls k0 (.int x) = ls') (k : EvP X d M (pc + 2) ls' st T v P) : EvP X d M pc ls (.int x :: st) T v P := by
  subst hs; exact ev_loc hd rfl rfl (if_pos hn) k
theorem ev_lstore (pc : Nat) {k0 : Nat} {x : Int64} {ls' : List Value} (hd : decode M.2.2.1 pc = .ok (.lstore k0, 2)) (hn : k0 + 1 < ls.length) (hs : pmSet ls k0 (.long x) = ls') (k : EvP X d M (pc + 2) ls' st T v P) : EvP X d M pc ls (.long x :: st) T v P := by
  subst hs; exact ev_loc hd rfl rfl (if_pos hn) k
theorem ev_astore (pc : Nat) {k0 : Nat} {x : Nat} {ls' : List Value} (hd : decode M.2.2.1 pc = .ok (.astore k0, 2)) (hn : k0 < ls.length) (h30 : x ≠ 30) (hs : pmSet ls k0 (.ref x) = ls') (k : EvP X d M (pc + 2) ls' st T v P) : EvP X d M pc ls (.ref x :: st) T v P := by
  subst hs; exact ev_loc hd rfl rfl (if_pos ⟨hn, h30⟩) k
theorem ev_astoreN (pc : Nat) {k0 : Nat} {ls' : List Value} (hd : decode M.2.2.1 pc = .ok (.astore k0, 2)) (hn : k0 < ls.length) (hs : pmSet ls k0 .null = ls') (k : EvP X d M (pc + 2) ls' st T v P) : EvP X d M pc ls (.null :: st) T v P := by
  subst hs; exact ev_loc hd rfl rfl (if_pos hn) k
theorem ev_iinc (pc : Nat) {i : Nat} {z : Int} {x y : Int32} {ls' : List Value} (hd : decode M.2.2.1 pc = .ok (.iinc i z, 3)) (hx : ls[i]? = some (.int x)) (hy : x + Int32.ofInt z = y) (hs : pmSet ls i (.int y) = ls') (k : EvP X d M (pc + 3) ls' st T v P) : EvP X d M pc ls st T v P := by
  subst hs; subst hy; exact ev_loc hd rfl rfl (by show pmInc ls st i z = _; unfold pmInc; rw [hx]; exact if_pos (List.getElem?_eq_some_iff.mp hx).1) k
theorem pmGo_eq {pc pc' : Nat} {off : Int} (ht : (pc : Int) + off = (pc' : Int)) : pmGo pc off st = some (pc', st) := by
  unfold pmGo; rw [ht, if_pos (Int.natCast_nonneg _), Int.toNat_natCast]
theorem pmGo2_t {pc pc' : Nat} {off : Int} (ht : (pc : Int) + off = (pc' : Int)) : pmGo2 pc off true st = some (pc', st) := by
  unfold pmGo2; rw [ht, if_pos (Int.natCast_nonneg _), Int.toNat_natCast]; rfl
theorem pmGo2_f {pc pc' : Nat} {off : Int} (ht : (pc : Int) + off = (pc' : Int)) : pmGo2 pc off false st = some (pc + 3, st) := by
  unfold pmGo2; rw [ht, if_pos (Int.natCast_nonneg _)]; rfl
theorem ev_goto (pc pc' : Nat) {off : Int} (hd : decode M.2.2.1 pc = .ok (.goto off, 3)) (ht : (pc : Int) + off = (pc' : Int)) (k : EvP X d M pc' ls st T v P) : EvP X d M pc ls st T v P := ev_br hd rfl rfl rfl (pmGo_eq ht) k
theorem ev_ifT (pc pc' : Nat) {c : ClassFile.Cond} {off : Int} {x : Int32} (hd : decode M.2.2.1 pc = .ok (.ifCond c off, 3)) (ht : (pc : Int) + off = (pc' : Int)) (h : pmC0 c x = true) (k : EvP X d M pc' ls st T v P) : EvP X d M pc ls (.int x :: st) T v P :=
  ev_br hd rfl rfl rfl (show pmGo2 pc off (pmC0 c x) st = _ by rw [h]; exact pmGo2_t ht) k
theorem ev_ifF (pc pc' : Nat) {c : ClassFile.Cond} {off : Int} {x : Int32} (hd : decode M.2.2.1 pc = .ok (.ifCond c off, 3)) (ht : (pc : Int) + off = (pc' : Int)) (h : pmC0 c x = false) (k : EvP X d M (pc + 3) ls st T v P) : EvP X d M pc ls (.int x :: st) T v P :=
  ev_br hd rfl rfl rfl (show pmGo2 pc off (pmC0 c x) st = _ by rw [h]; exact pmGo2_f ht) k
theorem ev_icT (pc pc' : Nat) {c : ClassFile.Cond} {off : Int} {x y : Int32} (hd : decode M.2.2.1 pc = .ok (.if_icmp c off, 3)) (ht : (pc : Int) + off = (pc' : Int)) (h : pmC2 c x y = true) (k : EvP X d M pc' ls st T v P) : EvP X d M pc ls (.int y :: .int x :: st) T v P :=
  ev_br hd rfl rfl rfl (show pmGo2 pc off (pmC2 c x y) st = _ by rw [h]; exact pmGo2_t ht) k
theorem ev_icF (pc pc' : Nat) {c : ClassFile.Cond} {off : Int} {x y : Int32} (hd : decode M.2.2.1 pc = .ok (.if_icmp c off, 3)) (ht : (pc : Int) + off = (pc' : Int)) (h : pmC2 c x y = false) (k : EvP X d M (pc + 3) ls st T v P) : EvP X d M pc ls (.int y :: .int x :: st) T v P :=
  ev_br hd rfl rfl rfl (show pmGo2 pc off (pmC2 c x y) st = _ by rw [h]; exact pmGo2_f ht) k
theorem ev_if_eq (pc pc' : Nat) {off : Int} {x : Int32} (hd : decode M.2.2.1 pc = .ok (.ifCond .eq off, 3)) (ht : (pc : Int) + off = (pc' : Int)) (kt : x = 0 → EvP X d M pc' ls st T v P) (kf : ¬ x = 0 → EvP X d M (pc + 3) ls st T v P) : EvP X d M pc ls (.int x :: st) T v P := by
  by_cases h : x = 0
  · exact ev_ifT pc pc' hd ht (by simp [pmC0, h]) (kt h)
  · exact ev_ifF pc pc' hd ht (by simpa [pmC0] using h) (kf h)
theorem ev_ic_eq (pc pc' : Nat) {off : Int} {x y : Int32} (hd : decode M.2.2.1 pc = .ok (.if_icmp .eq off, 3)) (ht : (pc : Int) + off = (pc' : Int)) (kt : x = y → EvP X d M pc' ls st T v P) (kf : ¬ x = y → EvP X d M (pc + 3) ls st T v P) : EvP X d M pc ls (.int y :: .int x :: st) T v P := by
  by_cases h : x = y
  · exact ev_icT pc pc' hd ht (by simp [pmC2, h]) (kt h)
  · exact ev_icF pc pc' hd ht (by simpa [pmC2] using h) (kf h)
theorem ev_if_ne (pc pc' : Nat) {off : Int} {x : Int32} (hd : decode M.2.2.1 pc = .ok (.ifCond .ne off, 3)) (ht : (pc : Int) + off = (pc' : Int)) (kt : ¬ x = 0 → EvP X d M pc' ls st T v P) (kf : x = 0 → EvP X d M (pc + 3) ls st T v P) : EvP X d M pc ls (.int x :: st) T v P := by
  by_cases h : ¬ x = 0
  · exact ev_ifT pc pc' hd ht (by simp [pmC0, h]) (kt h)
  · exact ev_ifF pc pc' hd ht (by simpa [pmC0] using h) (kf (Decidable.not_not.mp h))
theorem ev_ic_ne (pc pc' : Nat) {off : Int} {x y : Int32} (hd : decode M.2.2.1 pc = .ok (.if_icmp .ne off, 3)) (ht : (pc : Int) + off = (pc' : Int)) (kt : ¬ x = y → EvP X d M pc' ls st T v P) (kf : x = y → EvP X d M (pc + 3) ls st T v P) : EvP X d M pc ls (.int y :: .int x :: st) T v P := by
  by_cases h : ¬ x = y
  · exact ev_icT pc pc' hd ht (by simp [pmC2, h]) (kt h)
  · exact ev_icF pc pc' hd ht (by simpa [pmC2] using h) (kf (Decidable.not_not.mp h))
theorem ev_if_lt (pc pc' : Nat) {off : Int} {x : Int32} (hd : decode M.2.2.1 pc = .ok (.ifCond .lt off, 3)) (ht : (pc : Int) + off = (pc' : Int)) (kt : x < 0 → EvP X d M pc' ls st T v P) (kf : ¬ x < 0 → EvP X d M (pc + 3) ls st T v P) : EvP X d M pc ls (.int x :: st) T v P := by
  by_cases h : x < 0
  · exact ev_ifT pc pc' hd ht (by simp [pmC0, h]) (kt h)
  · exact ev_ifF pc pc' hd ht (by simpa [pmC0] using h) (kf h)
theorem ev_ic_lt (pc pc' : Nat) {off : Int} {x y : Int32} (hd : decode M.2.2.1 pc = .ok (.if_icmp .lt off, 3)) (ht : (pc : Int) + off = (pc' : Int)) (kt : x < y → EvP X d M pc' ls st T v P) (kf : ¬ x < y → EvP X d M (pc + 3) ls st T v P) : EvP X d M pc ls (.int y :: .int x :: st) T v P := by
  by_cases h : x < y
  · exact ev_icT pc pc' hd ht (by simp [pmC2, h]) (kt h)
  · exact ev_icF pc pc' hd ht (by simpa [pmC2] using h) (kf h)
theorem ev_if_ge (pc pc' : Nat) {off : Int} {x : Int32} (hd : decode M.2.2.1 pc = .ok (.ifCond .ge off, 3)) (ht : (pc : Int) + off = (pc' : Int)) (kt : 0 ≤ x → EvP X d M pc' ls st T v P) (kf : ¬ 0 ≤ x → EvP X d M (pc + 3) ls st T v P) : EvP X d M pc ls (.int x :: st) T v P := by
  by_cases h : 0 ≤ x
  · exact ev_ifT pc pc' hd ht (by simp [pmC0, h]) (kt h)
  · exact ev_ifF pc pc' hd ht (by simpa [pmC0] using h) (kf h)
theorem ev_ic_ge (pc pc' : Nat) {off : Int} {x y : Int32} (hd : decode M.2.2.1 pc = .ok (.if_icmp .ge off, 3)) (ht : (pc : Int) + off = (pc' : Int)) (kt : y ≤ x → EvP X d M pc' ls st T v P) (kf : ¬ y ≤ x → EvP X d M (pc + 3) ls st T v P) : EvP X d M pc ls (.int y :: .int x :: st) T v P := by
  by_cases h : y ≤ x
  · exact ev_icT pc pc' hd ht (by simp [pmC2, h]) (kt h)
  · exact ev_icF pc pc' hd ht (by simpa [pmC2] using h) (kf h)
theorem ev_if_gt (pc pc' : Nat) {off : Int} {x : Int32} (hd : decode M.2.2.1 pc = .ok (.ifCond .gt off, 3)) (ht : (pc : Int) + off = (pc' : Int)) (kt : 0 < x → EvP X d M pc' ls st T v P) (kf : ¬ 0 < x → EvP X d M (pc + 3) ls st T v P) : EvP X d M pc ls (.int x :: st) T v P := by
  by_cases h : 0 < x
  · exact ev_ifT pc pc' hd ht (by simp [pmC0, h]) (kt h)
  · exact ev_ifF pc pc' hd ht (by simpa [pmC0] using h) (kf h)
theorem ev_ic_gt (pc pc' : Nat) {off : Int} {x y : Int32} (hd : decode M.2.2.1 pc = .ok (.if_icmp .gt off, 3)) (ht : (pc : Int) + off = (pc' : Int)) (kt : y < x → EvP X d M pc' ls st T v P) (kf : ¬ y < x → EvP X d M (pc + 3) ls st T v P) : EvP X d M pc ls (.int y :: .int x :: st) T v P := by
  by_cases h : y < x
  · exact ev_icT pc pc' hd ht (by simp [pmC2, h]) (kt h)
  · exact ev_icF pc pc' hd ht (by simpa [pmC2] using h) (kf h)
theorem ev_if_le (pc pc' : Nat) {off : Int} {x : Int32} (hd : decode M.2.2.1 pc = .ok (.ifCond .le off, 3)) (ht : (pc : Int) + off = (pc' : Int)) (kt : x ≤ 0 → EvP X d M pc' ls st T v P) (kf : ¬ x ≤ 0 → EvP X d M (pc + 3) ls st T v P) : EvP X d M pc ls (.int x :: st) T v P := by
  by_cases h : x ≤ 0
  · exact ev_ifT pc pc' hd ht (by simp [pmC0, h]) (kt h)
  · exact ev_ifF pc pc' hd ht (by simpa [pmC0] using h) (kf h)
theorem ev_ic_le (pc pc' : Nat) {off : Int} {x y : Int32} (hd : decode M.2.2.1 pc = .ok (.if_icmp .le off, 3)) (ht : (pc : Int) + off = (pc' : Int)) (kt : x ≤ y → EvP X d M pc' ls st T v P) (kf : ¬ x ≤ y → EvP X d M (pc + 3) ls st T v P) : EvP X d M pc ls (.int y :: .int x :: st) T v P := by
  by_cases h : x ≤ y
  · exact ev_icT pc pc' hd ht (by simp [pmC2, h]) (kt h)
  · exact ev_icF pc pc' hd ht (by simpa [pmC2] using h) (kf h)
theorem ev_ifnullN (pc pc' : Nat) {off : Int} (hd : decode M.2.2.1 pc = .ok (.ifnull off, 3)) (ht : (pc : Int) + off = (pc' : Int)) (k : EvP X d M pc' ls st T v P) : EvP X d M pc ls (.null :: st) T v P := ev_br hd rfl rfl rfl (pmGo_eq ht) k
theorem ev_ifnull (pc : Nat) {off : Int} {a : Nat} (hd : decode M.2.2.1 pc = .ok (.ifnull off, 3)) (ha : 32 ≤ a) (k : EvP X d M (pc + 3) ls st T v P) : EvP X d M pc ls (.ref a :: st) T v P := ev_br hd rfl rfl rfl (if_pos ha) k
theorem ev_ifnonnullN (pc : Nat) {off : Int} (hd : decode M.2.2.1 pc = .ok (.ifnonnull off, 3)) (k : EvP X d M (pc + 3) ls st T v P) : EvP X d M pc ls (.null :: st) T v P := ev_br hd rfl rfl rfl rfl k
theorem ev_ifnonnull (pc pc' : Nat) {off : Int} {a : Nat} (hd : decode M.2.2.1 pc = .ok (.ifnonnull off, 3)) (ha : 32 ≤ a) (ht : (pc : Int) + off = (pc' : Int)) (k : EvP X d M pc' ls st T v P) : EvP X d M pc ls (.ref a :: st) T v P := ev_br hd rfl rfl rfl ((if_pos ha).trans (pmGo_eq ht)) k
theorem ev_swOut (pc pc' : Nat) {dflt lo hi : Int} {offs : Array Int} {n : Nat} {x : Int32} (hd : decode M.2.2.1 pc = .ok (.tableswitch dflt lo hi offs, n)) (h : x.toInt < lo ∨ hi < x.toInt) (ht : (pc : Int) + dflt = (pc' : Int)) (k : EvP X d M pc' ls st T v P) : EvP X d M pc ls (.int x :: st) T v P := ev_br hd rfl rfl rfl ((if_pos h).trans (pmGo_eq ht)) k
theorem ev_swIn (pc pc' : Nat) {dflt lo hi : Int} {offs : Array Int} {n : Nat} {x : Int32} {off : Int} (hd : decode M.2.2.1 pc = .ok (.tableswitch dflt lo hi offs, n)) (h : ¬ (x.toInt < lo ∨ hi < x.toInt)) (ho : offs[(x.toInt - lo).toNat]? = some off) (ht : (pc : Int) + off = (pc' : Int)) (k : EvP X d M pc' ls st T v P) : EvP X d M pc ls (.int x :: st) T v P := ev_br hd rfl rfl rfl ((if_neg h).trans (by rw [ho]; exact pmGo_eq ht)) k
theorem ev_return (pc : Nat) (hd : decode M.2.2.1 pc = .ok (.return_, 1)) (hM : M.2.2.2.2 = none) (k : P none T v) : EvP X d M pc ls [] T v P := ev_ret hd (if_pos ⟨rfl, rfl, hM⟩) k
theorem ev_ireturn (pc : Nat) {x : Int32} {ty : FieldType} (hd : decode M.2.2.1 pc = .ok (.ireturn, 1)) (hM : M.2.2.2.2 = some ty) (hn : narrow ty (.int x) = .int x) (k : P (some (.int x)) T v) : EvP X d M pc ls [.int x] T v P := ev_ret hd (by show (match M.2.2.2.2 with | some ty => if _ then _ else _ | none => none) = _; rw [hM]; exact if_pos ⟨rfl, hn⟩) k
theorem ev_lreturn (pc : Nat) {x : Int64} (hd : decode M.2.2.1 pc = .ok (.lreturn, 1)) (hM : M.2.2.2.2 = some .long) (k : P (some (.long x)) T v) : EvP X d M pc ls [.long x] T v P := ev_ret hd (if_pos ⟨rfl, hM⟩) k
theorem ev_areturn (pc : Nat) {x : Nat} {nm : String} (hd : decode M.2.2.1 pc = .ok (.areturn, 1)) (hM : M.2.2.2.2 = some (.object nm)) (hx : x ≠ 30) (k : P (some (.ref x)) T v) : EvP X d M pc ls [.ref x] T v P := ev_ret hd (by show (match M.2.2.2.2 with | some (.object _) => if _ then _ else _ | _ => none) = _; rw [hM]; exact if_pos ⟨rfl, hx⟩) k
theorem ev_areturnN (pc : Nat) {nm : String} (hd : decode M.2.2.1 pc = .ok (.areturn, 1)) (hM : M.2.2.2.2 = some (.object nm)) (k : P (some .null) T v) : EvP X d M pc ls [.null] T v P := ev_ret hd (by show (match M.2.2.2.2 with | some (.object _) => if _ then _ else _ | _ => none) = _; rw [hM]; exact if_pos rfl) k
theorem pm_bool {x : Int32} (h : x = 0 ∨ x = 1) : narrow .boolean (.int x) = .int x := by rcases h with rfl | rfl <;> rfl
theorem pmKind_spec {a ci : Nat} (h : pmKind T a = ci) (hc : ci < 13) : 32 ≤ a ∧ ∃ n, T[a - 32]? = some (ci, n) := by
  unfold pmKind at h
  by_cases h32 : a < 32
  · rw [if_pos h32] at h
    by_cases h2 : a % 2 = 0 ∧ a < 28
    · rw [if_pos h2] at h; omega
    · rw [if_neg h2] at h; omega
  · rw [if_neg h32] at h
    refine ⟨by omega, ?_⟩
    cases hT : T[a - 32]? with
    | none => rw [hT] at h; dsimp only at h; omega
    | some q =>
      obtain ⟨k, n⟩ := q
      rw [hT] at h
      dsimp only at h
      by_cases hk : k < 13
      · rw [if_pos hk] at h; subst h; exact ⟨n, rfl⟩
      · rw [if_neg hk] at h; omega
theorem ev_getf (pc : Nat) {a idx ci k0 h0 : Nat} {cs : List Nat} {x : Value} (hd : decode M.2.2.1 pc = .ok (.getfield idx, 3)) (hf : pmAt pmFldL (M.1, idx) = some (k0, cs, h0)) (hk : pmKind T a = ci) (hc : ci ∈ cs) (hx : pmRd v (pmTy ci k0) a k0 = x) (k : EvP X d M (pc + 3) ls (x :: st) T v P) : EvP X d M pc ls (.ref a :: st) T v P := by
  have hci : ci < 13 := (pm_fld_ok _ (pmAt_mem hf) ci hc).1
  obtain ⟨ha, n, hT⟩ := pmKind_spec hk hci
  subst hx
  refine ev_mem hd rfl rfl rfl rfl ?_ k
  show (pmGet M.1 idx T v (.ref a :: st)).map _ = _
  have : pmGet M.1 idx T v (.ref a :: st) = some (pmRd v (pmTy ci k0) a k0 :: st) := by
    show (if a < 30 then _ else if a < 32 then _ else _) = _
    rw [if_neg (by omega), if_neg (by omega), hT]
    dsimp only
    rw [hf]
    exact if_pos hc
  rw [this]
  rfl
theorem ev_putf (pc : Nat) {a idx ci k0 h0 : Nat} {cs : List Nat} {x : Value} {v' : pmV} (hd : decode M.2.2.1 pc = .ok (.putfield idx, 3)) (hf : pmAt pmFldL (M.1, idx) = some (k0, cs, h0)) (hk : pmKind T a = ci) (hc : ci ∈ cs) (hfin : (pmTf ci k0).2.2.2 = true → M.2.1.name = "<init>" ∧ (pmTf ci k0).1 = pmCn M.1) (hx : pmWr v (pmTy ci k0) a k0 x = some v') (k : EvP X d M (pc + 3) ls st T v' P) : EvP X d M pc ls (x :: .ref a :: st) T v P := by
  have hci : ci < 13 := (pm_fld_ok _ (pmAt_mem hf) ci hc).1
  obtain ⟨ha, n, hT⟩ := pmKind_spec hk hci
  refine ev_mem hd rfl rfl rfl rfl ?_ k
  show (pmPut M.1 idx M.2.1.name T v (x :: .ref a :: st)).map _ = _
  have : pmPut M.1 idx M.2.1.name T v (x :: .ref a :: st) = some (st, v') := by
    show (if a < 32 then _ else _) = _
    rw [if_neg (by omega), hT]
    dsimp only
    rw [hf]
    dsimp only
    rw [if_pos ⟨hc, hfin⟩, hx]
    rfl
  rw [this]
  rfl
theorem ev_alen (pc : Nat) {a k0 n : Nat} {x : Int32} (hd : decode M.2.2.1 pc = .ok (.arraylength, 1)) (ha : 32 ≤ a) (hT : T[a - 32]? = some (k0, n)) (hk : 20 ≤ k0 ∧ k0 < 25) (hx : Int32.ofNat n = x) (k : EvP X d M (pc + 1) ls (.int x :: st) T v P) : EvP X d M pc ls (.ref a :: st) T v P := by
  subst hx
  refine ev_mem hd rfl rfl rfl rfl ?_ k
  show (pmAln X T (.ref a :: st)).map _ = _
  have : pmAln X T (.ref a :: st) = some (.int (Int32.ofNat n) :: st) := by
    show (if a < 30 then _ else if a = 31 then _ else if a < 32 then _ else _) = _
    rw [if_neg (by omega), if_neg (by omega), if_neg (by omega), hT]
    exact if_pos hk
  rw [this]
  rfl
theorem ev_alenX (pc : Nat) {x : Int32} (hd : decode M.2.2.1 pc = .ok (.arraylength, 1)) (hx : Int32.ofNat X.1 = x) (k : EvP X d M (pc + 1) ls (.int x :: st) T v P) : EvP X d M pc ls (.ref 31 :: st) T v P := by
  subst hx
  exact ev_mem hd rfl rfl rfl rfl rfl k
theorem ev_alenS (pc i : Nat) {x : Int32} (hd : decode M.2.2.1 pc = .ok (.arraylength, 1)) (hi : i < 14) (hx : Int32.ofNat (pmLen i) = x) (k : EvP X d M (pc + 1) ls (.int x :: st) T v P) : EvP X d M pc ls (.ref (2 * i + 1) :: st) T v P := by
  subst hx
  refine ev_mem hd rfl rfl rfl rfl ?_ k
  show (pmAln X T (.ref (2 * i + 1) :: st)).map _ = _
  have : pmAln X T (.ref (2 * i + 1) :: st) = some (.int (Int32.ofNat (pmLen i)) :: st) := by
    show (if 2 * i + 1 < 30 then _ else _) = _
    rw [if_pos (by omega), if_pos ⟨by omega, by omega⟩, show (2 * i + 1) / 2 = i by omega]
  rw [this]
  rfl
theorem ev_iald (pc : Nat) {a n : Nat} {i : Int32} {x : Int32} (hd : decode M.2.2.1 pc = .ok (.iaload, 1)) (ha : 32 ≤ a) (hT : T[a - 32]? = some (20, n)) (hi : pmIn i n = true) (hx : v.1 a i.toNatClampNeg = x) (k : EvP X d M (pc + 1) ls (.int x :: st) T v P) : EvP X d M pc ls (.int i :: .ref a :: st) T v P := by
  subst hx
  refine ev_mem hd rfl rfl rfl rfl ?_ k
  show (pmAld X .iaload T v (.int i :: .ref a :: st)).map _ = _
  have : pmAld X .iaload T v (.int i :: .ref a :: st) = some (.int (v.1 a i.toNatClampNeg) :: st) := by
    show (if a = 31 then _ else if a < 32 then _ else _) = _
    rw [if_neg (by omega), if_neg (by omega), hT]
    exact if_pos ⟨rfl, hi⟩
  rw [this]
  rfl
theorem ev_ialdX (pc : Nat) {i : Int32} {x : Int32} (hd : decode M.2.2.1 pc = .ok (.iaload, 1)) (hi : pmIn i X.1 = true) (hx : X.2 i.toNatClampNeg = x) (k : EvP X d M (pc + 1) ls (.int x :: st) T v P) : EvP X d M pc ls (.int i :: .ref 31 :: st) T v P := by
  subst hx
  refine ev_mem hd rfl rfl rfl rfl ?_ k
  show (pmAld X .iaload T v (.int i :: .ref 31 :: st)).map _ = _
  have : pmAld X .iaload T v (.int i :: .ref 31 :: st) = some (.int (X.2 i.toNatClampNeg) :: st) := if_pos hi
  rw [this]
  rfl
theorem ev_bald (pc j : Nat) {i : Int32} {x : Int32} (hd : decode M.2.2.1 pc = .ok (.baload, 1)) (hj : j < 14) (hi : pmIn i (pmLen j) = true) (hx : (pmByt.getD j []).getD i.toNatClampNeg 0 = x) (k : EvP X d M (pc + 1) ls (.int x :: st) T v P) : EvP X d M pc ls (.int i :: .ref (2 * j + 1) :: st) T v P := by
  subst hx
  refine ev_mem hd rfl rfl rfl rfl ?_ k
  show (pmAld X .baload T v (.int i :: .ref (2 * j + 1) :: st)).map _ = _
  have : pmAld X .baload T v (.int i :: .ref (2 * j + 1) :: st) = some (.int ((pmByt.getD j []).getD i.toNatClampNeg 0) :: st) := by
    show (if (2 * j + 1) % 2 = 1 ∧ 2 * j + 1 < 28 ∧ pmIn i (pmLen ((2 * j + 1) / 2)) = true then _ else _) = _
    rw [show (2 * j + 1) / 2 = j by omega, if_pos ⟨by omega, by omega, hi⟩]
  rw [this]
  rfl
theorem ev_lald (pc : Nat) {a n : Nat} {i : Int32} {x : Int64} (hd : decode M.2.2.1 pc = .ok (.laload, 1)) (ha : 32 ≤ a) (hT : T[a - 32]? = some (21, n)) (hi : pmIn i n = true) (hx : v.2.1 a i.toNatClampNeg = x) (k : EvP X d M (pc + 1) ls (.long x :: st) T v P) : EvP X d M pc ls (.int i :: .ref a :: st) T v P := by
  subst hx
  refine ev_mem hd rfl rfl rfl rfl ?_ k
  show (pmAld X .laload T v (.int i :: .ref a :: st)).map _ = _
  have : pmAld X .laload T v (.int i :: .ref a :: st) = some (.long (v.2.1 a i.toNatClampNeg) :: st) := by
    show (if a < 32 then _ else _) = _
    rw [if_neg (by omega), hT]
    exact if_pos ⟨rfl, hi⟩
  rw [this]
  rfl
theorem ev_aald (pc : Nat) {a k0 n : Nat} {i : Int32} {x : Value} (hd : decode M.2.2.1 pc = .ok (.aaload, 1)) (ha : 32 ≤ a) (hT : T[a - 32]? = some (k0, n)) (hk : 22 ≤ k0 ∧ k0 < 25) (hi : pmIn i n = true) (hx : va_rf (v.2.2 a i.toNatClampNeg) = x) (k : EvP X d M (pc + 1) ls (x :: st) T v P) : EvP X d M pc ls (.int i :: .ref a :: st) T v P := by
  subst hx
  refine ev_mem hd rfl rfl rfl rfl ?_ k
  show (pmAld X .aaload T v (.int i :: .ref a :: st)).map _ = _
  have : pmAld X .aaload T v (.int i :: .ref a :: st) = some (va_rf (v.2.2 a i.toNatClampNeg) :: st) := by
    show (if a < 32 then _ else _) = _
    rw [if_neg (by omega), hT]
    exact if_pos ⟨hk.1, hk.2, hi⟩
  rw [this]
  rfl
theorem ev_iast (pc : Nat) {a n : Nat} {i x : Int32} (hd : decode M.2.2.1 pc = .ok (.iastore, 1)) (ha : 32 ≤ a) (hT : T[a - 32]? = some (20, n)) (hi : pmIn i n = true) (k : EvP X d M (pc + 1) ls st T (uI v a i.toNatClampNeg x) P) : EvP X d M pc ls (.int x :: .int i :: .ref a :: st) T v P := by
  refine ev_mem hd rfl rfl rfl rfl ?_ k
  show (pmAst .iastore T v (.int x :: .int i :: .ref a :: st)).map _ = _
  have : pmAst .iastore T v (.int x :: .int i :: .ref a :: st) = some (st, uI v a i.toNatClampNeg x) := by
    show (if a < 32 then _ else _) = _
    rw [if_neg (by omega), hT]
    exact if_pos ⟨rfl, hi⟩
  rw [this]
  rfl
theorem ev_last (pc : Nat) {a n : Nat} {i : Int32} {x : Int64} (hd : decode M.2.2.1 pc = .ok (.lastore, 1)) (ha : 32 ≤ a) (hT : T[a - 32]? = some (21, n)) (hi : pmIn i n = true) (k : EvP X d M (pc + 1) ls st T (uL v a i.toNatClampNeg x) P) : EvP X d M pc ls (.long x :: .int i :: .ref a :: st) T v P := by
  refine ev_mem hd rfl rfl rfl rfl ?_ k
  show (pmAst .lastore T v (.long x :: .int i :: .ref a :: st)).map _ = _
  have : pmAst .lastore T v (.long x :: .int i :: .ref a :: st) = some (st, uL v a i.toNatClampNeg x) := by
    show (if a < 32 then _ else _) = _
    rw [if_neg (by omega), hT]
    exact if_pos ⟨rfl, hi⟩
  rw [this]
  rfl
theorem ev_aast (pc : Nat) {a k0 n x ci m0 : Nat} {i : Int32} (hd : decode M.2.2.1 pc = .ok (.aastore, 1)) (ha : 32 ≤ a) (hx : 32 ≤ x) (hT : T[a - 32]? = some (k0, n)) (hTx : T[x - 32]? = some (ci, m0)) (hk : 22 ≤ k0 ∧ k0 < 25) (hc : ci < 13 ∧ (ci = pmItem k0 ∨ (ci, pmItem k0) ∈ pmCast)) (hi : pmIn i n = true) (k : EvP X d M (pc + 1) ls st T (uR v a i.toNatClampNeg (some x)) P) : EvP X d M pc ls (.ref x :: .int i :: .ref a :: st) T v P := by
  refine ev_mem hd rfl rfl rfl rfl ?_ k
  show (pmAst .aastore T v (.ref x :: .int i :: .ref a :: st)).map _ = _
  have : pmAst .aastore T v (.ref x :: .int i :: .ref a :: st) = some (st, uR v a i.toNatClampNeg (some x)) := by
    show (if a < 32 ∨ x < 32 then _ else _) = _
    rw [if_neg (by omega), hT, hTx]
    exact if_pos ⟨hk.1, hk.2, hi, hc.1, hc.2⟩
  rw [this]
  rfl
theorem ev_ldc (pc : Nat) {idx h0 : Nat} {x : Int32} (hd : decode M.2.2.1 pc = .ok (.ldc idx, 2)) (hf : pmAt pmLdcL (M.1, idx) = some (x, h0)) (k : EvP X d M (pc + 2) ls (.int x :: st) T v P) : EvP X d M pc ls st T v P := by
  refine ev_mem hd rfl rfl rfl rfl ?_ k
  show (pmLdc M.1 idx st).map _ = _
  unfold pmLdc
  rw [hf]
  rfl
theorem ev_ldcS (pc : Nat) {idx i : Nat} (hd : decode M.2.2.1 pc = .ok (.ldc idx, 2)) (hf : pmAt pmLdcL (M.1, idx) = none) (hi : pmStrAt M.1 idx = some i) (k : EvP X d M (pc + 2) ls (.ref (2 * i) :: st) T v P) : EvP X d M pc ls st T v P := by
  refine ev_mem hd rfl rfl rfl rfl ?_ k
  show (pmLdc M.1 idx st).map _ = _
  unfold pmLdc
  rw [hf, hi]
  rfl
theorem ev_ldc2 (pc : Nat) {idx h0 : Nat} {x : Int64} (hd : decode M.2.2.1 pc = .ok (.ldc2_w idx, 3)) (hf : pmAt pmLd2L (M.1, idx) = some (x, h0)) (k : EvP X d M (pc + 3) ls (.long x :: st) T v P) : EvP X d M pc ls st T v P := by
  refine ev_mem hd rfl rfl rfl rfl ?_ k
  show (pmAt pmLd2L (M.1, idx)).map _ = _
  rw [hf]
  rfl
theorem ev_isY (pc : Nat) {a idx ci tg h0 : Nat} {ys ns : List Nat} (hd : decode M.2.2.1 pc = .ok (.instanceof idx, 3)) (hf : pmAt pmIsL (M.1, idx) = some (tg, ys, ns, h0)) (hk : pmKind T a = ci) (hci : ci < 13) (hc : ci ∈ ys) (k : EvP X d M (pc + 3) ls (.int 1 :: st) T v P) : EvP X d M pc ls (.ref a :: st) T v P := by
  obtain ⟨ha, n, hT⟩ := pmKind_spec hk hci
  refine ev_mem hd rfl rfl rfl rfl ?_ k
  show (pmIs M.1 idx T (.ref a :: st)).map _ = _
  have : pmIs M.1 idx T (.ref a :: st) = some (.int 1 :: st) := by
    show (if a < 32 then _ else _) = _
    rw [if_neg (by omega), hT]
    dsimp only
    rw [hf]
    exact if_pos hc
  rw [this]
  rfl
theorem ev_isN (pc : Nat) {a idx ci tg h0 : Nat} {ys ns : List Nat} (hd : decode M.2.2.1 pc = .ok (.instanceof idx, 3)) (hf : pmAt pmIsL (M.1, idx) = some (tg, ys, ns, h0)) (hk : pmKind T a = ci) (hci : ci < 13) (hc : ¬ ci ∈ ys) (hn : ci ∈ ns) (k : EvP X d M (pc + 3) ls (.int 0 :: st) T v P) : EvP X d M pc ls (.ref a :: st) T v P := by
  obtain ⟨ha, n, hT⟩ := pmKind_spec hk hci
  refine ev_mem hd rfl rfl rfl rfl ?_ k
  show (pmIs M.1 idx T (.ref a :: st)).map _ = _
  have : pmIs M.1 idx T (.ref a :: st) = some (.int 0 :: st) := by
    show (if a < 32 then _ else _) = _
    rw [if_neg (by omega), hT]
    dsimp only
    rw [hf]
    exact (if_neg hc).trans (if_pos hn)
  rw [this]
  rfl
theorem ev_max (pc : Nat) {idx h0 : Nat} {a b x : Int32} (hd : decode M.2.2.1 pc = .ok (.invokestatic idx, 3)) (hf : pmAt pmMxL (M.1, idx) = some h0) (hn : pmNum st ≤ 8) (hx : (if a < b then b else a) = x) (k : EvP X (d + 1) M (pc + 3) ls (.int x :: st) T v P) : EvP X (d + 1) M pc ls (.int b :: .int a :: st) T v P := by
  subst hx
  refine ev_mem hd rfl rfl rfl rfl ?_ k
  show (match pmMath2 M.1 idx (.int b :: .int a :: st) with | some q => _ | none => _) = _
  have : pmMath2 M.1 idx (.int b :: .int a :: st) = some (.int (if a < b then b else a) :: st) := by
    unfold pmMath2
    rw [hf]
    exact if_pos hn
  rw [this]
theorem ev_min (pc : Nat) {idx h0 : Nat} {a b x : Int32} (hd : decode M.2.2.1 pc = .ok (.invokestatic idx, 3)) (hm : pmAt pmMxL (M.1, idx) = none) (hf : pmAt pmMnL (M.1, idx) = some h0) (hn : pmNum st ≤ 8) (hx : (if b < a then b else a) = x) (k : EvP X (d + 1) M (pc + 3) ls (.int x :: st) T v P) : EvP X (d + 1) M pc ls (.int b :: .int a :: st) T v P := by
  subst hx
  refine ev_mem hd rfl rfl rfl rfl ?_ k
  show (match pmMath2 M.1 idx (.int b :: .int a :: st) with | some q => _ | none => _) = _
  have : pmMath2 M.1 idx (.int b :: .int a :: st) = some (.int (if b < a then b else a) :: st) := by
    unfold pmMath2
    rw [hm]
    dsimp only
    rw [hf]
    exact if_pos hn
  rw [this]
theorem ev_copy (pc : Nat) {idx h0 a a0 n0 n1 : Nat} {n dp sp : Int32} (hd : decode M.2.2.1 pc = .ok (.invokestatic idx, 3)) (hm : pmAt pmMxL (M.1, idx) = none) (hm2 : pmAt pmMnL (M.1, idx) = none) (hf : pmAt pmAcL (M.1, idx) = some h0) (ha : 32 ≤ a) (ha0 : 32 ≤ a0) (hT : T[a - 32]? = some (20, n1)) (hT0 : T[a0 - 32]? = some (20, n0)) (h1 : 0 ≤ sp) (h2 : 0 ≤ dp) (h3 : 0 ≤ n) (h4 : sp.toNatClampNeg + n.toNatClampNeg ≤ n0) (h5 : dp.toNatClampNeg + n.toNatClampNeg ≤ n1) (hn : pmNum st ≤ 8)
    (k : EvP X (d + 1) M (pc + 3) ls st T (uA v a (va_cpy (v.1 a0) (v.1 a) sp.toNatClampNeg dp.toNatClampNeg n.toNatClampNeg)) P) : EvP X (d + 1) M pc ls (.int n :: .int dp :: .ref a :: .int sp :: .ref a0 :: st) T v P := by
  refine ev_mem hd rfl rfl rfl rfl ?_ k
  show (match pmMath2 M.1 idx (.int n :: .int dp :: .ref a :: .int sp :: .ref a0 :: st) with | some q => _ | none => _) = _
  have e1 : pmMath2 M.1 idx (.int n :: .int dp :: .ref a :: .int sp :: .ref a0 :: st) = none := by
    unfold pmMath2
    rw [hm]
    dsimp only
    rw [hm2]
  rw [e1]
  show (pmCopy M.1 idx T v (.int n :: .int dp :: .ref a :: .int sp :: .ref a0 :: st)).map _ = _
  have e2 : pmCopy M.1 idx T v (.int n :: .int dp :: .ref a :: .int sp :: .ref a0 :: st) = some (st, uA v a (va_cpy (v.1 a0) (v.1 a) sp.toNatClampNeg dp.toNatClampNeg n.toNatClampNeg)) := by
    unfold pmCopy
    rw [hf]
    dsimp only
    rw [if_neg (show ¬ (a < 32 ∨ a0 < 32) by omega), hT, hT0]
    exact if_pos ⟨rfl, rfl, h1, h2, h3, h4, h5, hn⟩
  rw [e2]
  rfl
theorem ev_obj (pc : Nat) {idx h0 a : Nat} (hd : decode M.2.2.1 pc = .ok (.invokespecial idx, 3)) (hf : pmAt pmObL (M.1, idx) = some h0) (ha : 32 ≤ a) (hn : pmNum st ≤ 8) (k : EvP X (d + 1) M (pc + 3) ls st T v P) : EvP X (d + 1) M pc ls (.ref a :: st) T v P := by
  refine ev_mem hd rfl rfl rfl rfl ?_ k
  show (match pmAt pmObL (M.1, idx) with | some _ => _ | none => _) = _
  rw [hf]
  exact if_pos ⟨ha, hn⟩
theorem ev_new (pc : Nat) {idx ci : Nat} {hs : List Nat} (hd : decode M.2.2.1 pc = .ok (.new idx, 3)) (hf : pmAt pmNewL (M.1, idx) = some (ci, hs)) (hc : ci < 13) (k : EvP X d M (pc + 3) ls (.ref (32 + T.length) :: st) (T ++ [(ci, pmN ci)]) (pmNew v (32 + T.length)) P) : EvP X d M pc ls st T v P :=
  ev_mk hd rfl rfl rfl rfl rfl (by show (match pmAt pmNewL (M.1, idx) with | some (ci, _) => _ | none => _) = _; rw [hf]; exact if_pos hc) k
theorem ev_newi (pc : Nat) {z : Int32} {n : Nat} (hd : decode M.2.2.1 pc = .ok (.newarray .int, 2)) (hz : 0 ≤ z ∧ z ≤ 100000) (hn : z.toNatClampNeg = n) (k : EvP X d M (pc + 2) ls (.ref (32 + T.length) :: st) (T ++ [(20, n)]) (pmNew v (32 + T.length)) P) : EvP X d M pc ls (.int z :: st) T v P := by
  subst hn
  exact ev_mk hd rfl rfl rfl rfl rfl (if_pos hz) k
theorem ev_newl (pc : Nat) {z : Int32} {n : Nat} (hd : decode M.2.2.1 pc = .ok (.newarray .long, 2)) (hz : 0 ≤ z ∧ z ≤ 100000) (hn : z.toNatClampNeg = n) (k : EvP X d M (pc + 2) ls (.ref (32 + T.length) :: st) (T ++ [(21, n)]) (pmNew v (32 + T.length)) P) : EvP X d M pc ls (.int z :: st) T v P := by
  subst hn
  exact ev_mk hd rfl rfl rfl rfl rfl (if_pos hz) k
theorem ev_anew (pc : Nat) {idx k0 ci h0 : Nat} {z : Int32} {n : Nat} (hd : decode M.2.2.1 pc = .ok (.anewarray idx, 3)) (hf : pmAt pmAnwL (M.1, idx) = some (k0, ci, h0)) (hk : 22 ≤ k0 ∧ k0 < 25) (hz : 0 ≤ z ∧ z ≤ 100000) (hn : z.toNatClampNeg = n) (k : EvP X d M (pc + 3) ls (.ref (32 + T.length) :: st) (T ++ [(k0, n)]) (pmNew v (32 + T.length)) P) : EvP X d M pc ls (.int z :: st) T v P := by
  subst hn
  exact ev_mk hd rfl rfl rfl rfl rfl ((if_pos hz).trans (by rw [hf]; exact if_pos hk)) k
/-- a long name for the top of the stack -/
theorem ev_topi {pc : Nat} {x : Int32} (k : ∀ y : Int32, y = x → EvP X d M pc ls (.int y :: st) T v P) : EvP X d M pc ls (.int x :: st) T v P := k x rfl
theorem ev_topl {pc : Nat} {x : Int64} (k : ∀ y : Int64, y = x → EvP X d M pc ls (.long y :: st) T v P) : EvP X d M pc ls (.long x :: st) T v P := k x rfl
theorem ev_getcs (pc : Nat) {x : Value} {idx : Nat} (hd : decode M.2.2.1 pc = .ok (.getstatic idx, 3)) (hx : pmGst M.1 idx st = some (x :: st)) (k : EvP X d M (pc + 3) ls (x :: st) T v P) : EvP X d M pc ls st T v P := by
  refine ev_mem hd rfl rfl rfl rfl ?_ k
  show (pmGst M.1 idx st).map _ = _
  rw [hx]
  rfl
theorem ev_getS (pc : Nat) {x : Value} {idx a : Nat} (hd : decode M.2.2.1 pc = .ok (.getfield idx, 3)) (hx : pmGet M.1 idx T v (.ref a :: st) = some (x :: st)) (k : EvP X d M (pc + 3) ls (x :: st) T v P) : EvP X d M pc ls (.ref a :: st) T v P := by
  refine ev_mem hd rfl rfl rfl rfl ?_ k
  show (pmGet M.1 idx T v (.ref a :: st)).map _ = _
  rw [hx]
  rfl
end EV
