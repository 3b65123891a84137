/-! THE LAW: what every run gives -/
theorem pmRet_i {M : pmM} {ins : Instr} {n : Nat} {st : List Value} {o : Option Value} (h : pmRet M ins n st = some o) (hr : M.2.2.2.2 = some .int) : ∃ x, o = some (.int x) := by
  unfold pmRet at h
  rw [hr] at h
  dsimp only at h
  split at h
  · obtain ⟨q, _⟩ := pm_if h; cases q.2.2
  · split at h
    · obtain ⟨_, h⟩ := pm_if h; cases h; exact ⟨_, rfl⟩
    · cases h
  · split at h
    · obtain ⟨q, _⟩ := pm_if h; cases q.2
    · cases h
  · split at h
    · cases h
    · cases h
    · cases h
  · cases h
theorem pmRet_l {M : pmM} {ins : Instr} {n : Nat} {st : List Value} {o : Option Value} (h : pmRet M ins n st = some o) (hr : M.2.2.2.2 = some .long) (hi : ins ≠ .ireturn) : ∃ x, o = some (.long x) := by
  unfold pmRet at h
  rw [hr] at h
  dsimp only at h
  split at h
  · obtain ⟨q, _⟩ := pm_if h; cases q.2.2
  · exact absurd rfl hi
  · split at h
    · obtain ⟨_, h⟩ := pm_if h; cases h; exact ⟨_, rfl⟩
    · cases h
  · split at h
    · cases h
    · cases h
    · cases h
  · cases h
/-- a code that never gives an int back -/
def noI (c : ByteArray) : Prop := ∀ pc n, decode c pc ≠ .ok (.ireturn, n)
theorem u1_out {ε α : Type} [Jvm.ClassFile.HasTruncated ε] {f : Nat → Jvm.ClassFile.Reader ε α} {c : ByteArray} {pc : Nat} (h : c.size ≤ pc) : Jvm.ClassFile.Reader.runAt (Jvm.ClassFile.Reader.u1 >>= f) c pc = .error (Jvm.ClassFile.HasTruncated.truncated pc) := by
  have hu : (Jvm.ClassFile.Reader.u1 : Jvm.ClassFile.Reader ε Nat) c pc = .error (Jvm.ClassFile.HasTruncated.truncated pc) := by
    unfold Jvm.ClassFile.Reader.u1
    show (if h : pc < c.size then (_ : Jvm.ClassFile.Reader ε Nat) else _) c pc = _
    rw [dif_neg (by omega)]; rfl
  show Except.bind ((Jvm.ClassFile.Reader.u1 : Jvm.ClassFile.Reader ε Nat) c pc) _ = _
  rw [hu]; rfl
theorem dec_out {c : ByteArray} {pc : Nat} (h : c.size ≤ pc) : ∀ x, decode c pc ≠ .ok x := by
  intro x e
  have h1 : Jvm.ClassFile.Reader.runAt (Jvm.ClassFile.Decoder.instr pc) c pc = .error _ := u1_out h
  unfold decode at e
  rw [h1] at e
  cases e
theorem noI_of {c : ByteArray} {N : Nat} (hN : c.size ≤ N) (h : ∀ pc, pc < N → (match decode c pc with | .ok (.ireturn, _) => false | _ => true) = true) : noI c := fun pc n e => by
  by_cases q : pc < N
  · have := h pc q
    rw [e] at this
    cases this
  · exact dec_out (by omega) _ e
theorem noI_waited : noI MX11_waited.2.2.1 := noI_of (N := 400) (by decide +kernel) (by decide +kernel)
theorem noI_best : noI MX11_best.2.2.1 := noI_of (N := 400) (by decide +kernel) (by decide +kernel)
theorem noI_two : noI MX11_two.2.2.1 := noI_of (N := 400) (by decide +kernel) (by decide +kernel)
theorem noI_worth : noI MX11_worth.2.2.1 := noI_of (N := 400) (by decide +kernel) (by decide +kernel)
theorem pmStep_T {X : pmX} {d : Nat} {M : pmM} {ins : Instr} {n pc : Nat} {ls st : List Value} {T : pmT} {v : pmV} {pc' : Nat} {ls' st' : List Value} {T' : pmT} {v' : pmV} (h : pmStep X d M ins n pc ls st T v = some (pc', ls', st', T', v')) : ∃ L, T' = T ++ L := by
  unfold pmStep at h
  split at h
  · obtain ⟨_, h⟩ := pm_if h; cases h; exact ⟨[], (List.append_nil _).symm⟩
  · split at h
    · obtain ⟨_, h⟩ := pm_if h; cases h; exact ⟨[], (List.append_nil _).symm⟩
    · split at h
      · cases h; exact ⟨[], (List.append_nil _).symm⟩
      · split at h
        · obtain ⟨_, h⟩ := pm_if h; cases h; exact ⟨[], (List.append_nil _).symm⟩
        · split at h
          · cases h; exact ⟨_, rfl⟩
          · cases h
theorem pm_ext {X : pmX} : ∀ (f d : Nat) (M : pmM) (pc : Nat) (ls st : List Value) (T : pmT) (v : pmV) (o : Option Value) (T' : pmT) (v' : pmV), pmExec X f d M pc ls st T v = some (o, T', v') → (∃ L, T' = T ++ L) ∧ (M.2.2.2.2 = some .int → ∃ x, o = some (.int x)) ∧ (M.2.2.2.2 = some .long → noI M.2.2.1 → ∃ x, o = some (.long x))
  | 0, _, _, _, _, _, _, _, _, _, _, h => by cases h
  | f + 1, d, M, pc, ls, st, T, v, o, T', v', h => by
    rw [pmExec] at h
    split at h
    · cases h
    · rename_i ins n hd
      split at h
      · rename_i r hr
        cases h
        exact ⟨⟨[], (List.append_nil _).symm⟩, fun q => pmRet_i hr q, fun q hn => pmRet_l hr q (fun e => hn pc n (e ▸ hd))⟩
      · split at h
        · rename_i pc1 ls1 st1 T1 v1 hs
          obtain ⟨⟨L2, e2⟩, h2⟩ := pm_ext f _ _ _ _ _ _ _ _ _ _ h
          obtain ⟨L1, e1⟩ := pmStep_T hs
          exact ⟨⟨L1 ++ L2, by rw [e2, e1, List.append_assoc]⟩, h2⟩
        · split at h
          · cases h
          · split at h
            · cases h
            · split at h
              · split at h
                · cases h
                · rename_i o1 T1 v1 hc
                  obtain ⟨⟨L1, e1⟩, _⟩ := pm_ext f _ _ _ _ _ _ _ _ _ _ hc
                  obtain ⟨⟨L2, e2⟩, h2⟩ := pm_ext f _ _ _ _ _ _ _ _ _ _ h
                  exact ⟨⟨L1 ++ L2, by rw [e2, e1, List.append_assoc]⟩, h2⟩
              · cases h
theorem EvP.rt {X : pmX} {d : Nat} {M : pmM} {pc : Nat} {ls st : List Value} {T : pmT} {v : pmV} {P : Option Value → pmT → pmV → Prop} (h : EvP X d M pc ls st T v P) : EvP X d M pc ls st T v (fun o T' v' => P o T' v' ∧ (∃ L, T' = T ++ L) ∧ (M.2.2.2.2 = some .int → ∃ x, o = some (.int x)) ∧ (M.2.2.2.2 = some .long → noI M.2.2.1 → ∃ x, o = some (.long x))) := by
  obtain ⟨f, o, T', v', h1, h2⟩ := h
  exact ⟨f, o, T', v', h1, h2, pm_ext _ _ _ _ _ _ _ _ _ _ _ h1⟩
/-- a call of the class, answered -/
theorem EvP.aft {X : pmX} {d : Nat} {M : pmM} {ls : List Value} {LT : pmT} {v : pmV} {P : Option Value → pmT → pmV → Prop} {D : Nat} {M2 : pmM} {ls2 : List Value} (h : EvP X d M 0 ls [] (pmT0 ++ LT) v (Aft X D M2 ls2)) (hr : M.2.2.2.2 = some .int) (K : ∀ (x : Int32) (LT1 : pmT) (v1 : pmV), Aft X D M2 ls2 (some (.int x)) (pmT0 ++ LT1) v1 → P (some (.int x)) (pmT0 ++ LT1) v1) : EvP X d M 0 ls [] (pmT0 ++ LT) v P := by
  refine h.rt.weaken ?_
  rintro o T1 v1 ⟨hA, ⟨L1, rfl⟩, ho, _⟩
  obtain ⟨x, rfl⟩ := ho hr
  rw [List.append_assoc] at hA ⊢
  exact K x _ v1 hA
theorem EvP.aftl {X : pmX} {d : Nat} {M : pmM} {ls : List Value} {LT : pmT} {v : pmV} {P : Option Value → pmT → pmV → Prop} {D : Nat} {M2 : pmM} {ls2 : List Value} (h : EvP X d M 0 ls [] (pmT0 ++ LT) v (Aft X D M2 ls2)) (hr : M.2.2.2.2 = some .long) (hn : noI M.2.2.1) (K : ∀ (x : Int64) (LT1 : pmT) (v1 : pmV), Aft X D M2 ls2 (some (.long x)) (pmT0 ++ LT1) v1 → P (some (.long x)) (pmT0 ++ LT1) v1) : EvP X d M 0 ls [] (pmT0 ++ LT) v P := by
  refine h.rt.weaken ?_
  rintro o T1 v1 ⟨hA, ⟨L1, rfl⟩, _, ho⟩
  obtain ⟨x, rfl⟩ := ho hr hn
  rw [List.append_assoc] at hA ⊢
  exact K x _ v1 hA
/-- the reference's, behind it -/
theorem Aft.go {X : pmX} {D : Nat} {M2 : pmM} {ls2 : List Value} {o : Option Value} {T1 : pmT} {v1 : pmV} {P : Option Value → pmT → pmV → Prop} (h : Aft X D M2 ls2 o T1 v1) (K : ∀ (n t z : Nat) (LT : pmT) (v2 : pmV), Cpl n t z LT v2 → P o (pmT0 ++ LT) v2) : EvP X D M2 0 ls2 [] T1 v1 P := by
  refine EvP.weaken h ?_
  rintro o2 T2 v2 ⟨rfl, n, t, z, LT, rfl, hC⟩
  exact K n t z LT v2 hC
