/-! THE RUN OF THE PURE MACHINE IS A RUN OF THE REAL ONE -/
theorem pm_args_has {f : Value → Value} (hf : ∀ x, (f x).category = x.category) : ∀ (as : List Value) (i0 j : Nat) (x : Value), (pmArgs as)[j]? = some x → x ≠ pmJ → (i0 + j, f x) ∈ lv_args i0 (as.map f) := by
  intro as
  induction as with
  | nil => intro i0 j x h; simp [pmArgs] at h
  | cons a r ih =>
    intro i0 j x h hj
    rw [List.map_cons, lv_args, hf]
    unfold pmArgs at h
    by_cases hc : a.category = 2
    · rw [if_pos hc] at h
      rw [if_pos hc]
      match j, h with
      | 0, h =>
        rw [List.getElem?_cons_zero] at h
        cases h
        exact List.mem_cons_self
      | 1, h =>
        rw [List.getElem?_cons_succ, List.getElem?_cons_zero] at h
        exact absurd (Option.some.inj h).symm hj
      | j + 2, h =>
        rw [List.getElem?_cons_succ, List.getElem?_cons_succ] at h
        have := ih (i0 + 2) j x h hj
        rw [show i0 + (j + 2) = i0 + 2 + j by omega]
        exact List.mem_cons_of_mem _ this
    · rw [if_neg hc] at h
      rw [if_neg hc]
      match j, h with
      | 0, h =>
        rw [List.getElem?_cons_zero] at h
        cases h
        exact List.mem_cons_self
      | j + 1, h =>
        rw [List.getElem?_cons_succ] at h
        have := ih (i0 + 1) j x h hj
        rw [show i0 + (j + 1) = i0 + 1 + j by omega]
        exact List.mem_cons_of_mem _ this
theorem pm_args_len {f : Value → Value} (hf : ∀ x, (f x).category = x.category) : ∀ (as : List Value), (lg_sl (as.map f)).length = (pmArgs as).length := by
  intro as
  induction as with
  | nil => rfl
  | cons a r ih =>
    have h1 : lg_sl ((a :: r).map f) = (if (f a).category = 2 then [.val (f a), .second] else [.val (f a)]) ++ lg_sl (r.map f) := by simp [lg_sl]
    have h2 : pmArgs (a :: r) = if a.category = 2 then a :: pmJ :: pmArgs r else a :: pmArgs r := rfl
    rw [h1, List.length_append, ih, hf, h2]
    by_cases hc : a.category = 2
    · rw [if_pos hc, if_pos hc, List.length_cons, List.length_cons, List.length_cons, List.length_cons, List.length_nil]; omega
    · rw [if_neg hc, if_neg hc, List.length_cons, List.length_cons, List.length_nil]; omega
theorem pmPad_get {n j : Nat} {l : List Value} {x : Value} (h : (pmPad n l)[j]? = some x) (hj : x ≠ pmJ) : l[j]? = some x := by
  unfold pmPad at h
  by_cases hl : j < l.length
  · rwa [List.getElem?_append_left hl] at h
  · rw [List.getElem?_append_right (by omega)] at h
    have hm := List.mem_of_getElem? h
    exact absurd (List.eq_of_mem_replicate hm) hj
theorem pm_entry {f : Value → Value} (hf : ∀ x, (f x).category = x.category) {as : List Value} {n : Nat} (h : (pmArgs as).length ≤ n) :
    pmHas f (pmPad n (pmArgs as)) ((lg_sl (as.map f) ++ List.replicate (n - (lg_sl (as.map f)).length) Slot.unset).toArray) n := by
  refine ⟨?_, pm_has_sub (lv_entry (as.map f) (by rw [pm_args_len hf]; exact h)) fun q hq => ?_⟩
  · unfold pmPad
    rw [List.length_append, List.length_replicate]
    omega
  · obtain ⟨x, h1, h2, h3⟩ := pmLv_mem.mp hq
    have := pm_args_has hf as 0 q.1 x (pmPad_get h1 h2) h2
    rw [Nat.zero_add, ← h3] at this
    exact this
theorem pmArgs_ok {n : Nat} : ∀ {as : List Value}, (∀ x ∈ as, pmOk n x) → ∀ x ∈ pmArgs as, pmOk n x := by
  intro as
  induction as with
  | nil => intro _ x h; cases h
  | cons a r ih =>
    intro h
    unfold pmArgs
    by_cases hc : a.category = 2
    · rw [if_pos hc]
      exact pmOk_cons (pmOk_h h) (pmOk_cons trivial (ih (pmOk_t h)))
    · rw [if_neg hc]
      exact pmOk_cons (pmOk_h h) (ih (pmOk_t h))
theorem pmPad_ok {n k : Nat} {l : List Value} (h : ∀ x ∈ l, pmOk n x) : ∀ x ∈ pmPad k l, pmOk n x := by
  intro x hx
  unfold pmPad at hx
  rcases List.mem_append.mp hx with hx | hx
  · exact h x hx
  · rw [List.eq_of_mem_replicate hx]; trivial
theorem pmCall_in {own n : Nat} {ins : Instr} {st as r : List Value} {T : pmT} {C : pmM} (h : pmCall own ins n st T = some (C, as, r)) : (∃ i, (C, i) ∈ pmLs) ∧ (∀ x ∈ as, x ∈ st) ∧ (∀ x ∈ r, x ∈ st) ∧ n = 3 := by
  replace h := pm_if (show (if n = 3 then _ else none) = _ from h)
  obtain ⟨h3, h⟩ := h
  have tk : ∀ {k : Nat} {x : Value}, x ∈ (st.take k).reverse → x ∈ st := fun hx => List.mem_of_mem_take (List.mem_reverse.mp hx)
  cases ins
  case invokestatic i =>
    replace h : (match pmAt pmStL (own, i) with | some (_, k, j, _) => if k ≤ st.length ∧ pmNum (st.drop k) ≤ 8 then (pmLs[j]?).map fun q => (q.1, (st.take k).reverse, st.drop k) else none | none => none) = some (C, as, r) := h
    split at h
    · obtain ⟨-, h⟩ := pm_if h
      obtain ⟨q, h1, h2⟩ := pm_map h
      cases h2
      exact ⟨⟨q.2, List.mem_of_getElem? h1⟩, fun x hx => tk hx, fun x hx => List.mem_of_mem_drop hx, h3⟩
    · cases h
  case invokespecial i =>
    replace h : (match pmAt pmSpL (own, i) with | some (_, k, j, _) => (match st.drop k with | .ref a :: r => if 32 ≤ a ∧ pmKind T a < 13 ∧ k ≤ st.length ∧ pmNum r ≤ 8 then (pmLs[j]?).map fun q => (q.1, .ref a :: (st.take k).reverse, r) else none | _ => none) | none => none) = some (C, as, r) := h
    split at h
    · split at h
      · rename_i hdrop
        obtain ⟨-, h⟩ := pm_if h
        obtain ⟨q, h1, h2⟩ := pm_map h
        cases h2
        exact ⟨⟨q.2, List.mem_of_getElem? h1⟩, fun x hx => by
          rcases List.mem_cons.mp hx with rfl | hx
          · exact List.mem_of_mem_drop (by rw [hdrop]; exact List.mem_cons_self)
          · exact tk hx, fun x hx => List.mem_of_mem_drop (by rw [hdrop]; exact List.mem_cons_of_mem _ hx), h3⟩
      · cases h
    · cases h
  case invokevirtual i =>
    replace h : (match pmAt pmVtL (own, i) with | some (k, cs) => (match st.drop k with | .ref a :: r => (match pmAt cs (pmKind T a) with | some (_, j, _) => if k ≤ st.length ∧ pmNum r ≤ 8 then (pmLs[j]?).map fun q => (q.1, .ref a :: (st.take k).reverse, r) else none | none => none) | _ => none) | none => none) = some (C, as, r) := h
    split at h
    · split at h
      · rename_i hdrop
        split at h
        · obtain ⟨-, h⟩ := pm_if h
          obtain ⟨q, h1, h2⟩ := pm_map h
          cases h2
          exact ⟨⟨q.2, List.mem_of_getElem? h1⟩, fun x hx => by
            rcases List.mem_cons.mp hx with rfl | hx
            · exact List.mem_of_mem_drop (by rw [hdrop]; exact List.mem_cons_self)
            · exact tk hx, fun x hx => List.mem_of_mem_drop (by rw [hdrop]; exact List.mem_cons_of_mem _ hx), h3⟩
        · cases h
      · cases h
    · cases h
  all_goals (cases h)
section PMEX
variable {p : Program} {l : Launch} {e : Env} {R : Room} {s : State} {m : MethodId} {args : Array Value} {below : List Frame} {meth : Method} {c : Code} {H : Heap} {locs : List Loc} {cells slots : Nat} {Q : State → Prop}
theorem sim_ret {cc : ByteArray} {pc n : Nat} {lsm : Array Slot} {sv : Value} {al : Nat → Nat} {M : pmM} {ins : Instr} {st : List Value} {o : Option Value} {A : Nat → Prop} {Qc : Array Value → State → Outcome → State → Prop} (hx : p.tables.exec = Jvm.exec) (hb : c.code = cc) (hr : meth.sig.returnType = M.2.2.2.2) (hlocks : meth.locks = false)
    (hd : decode cc pc = .ok (ins, n)) (h : pmRet M ins n st = some o) (hq : ∀ t : State, t.heap = H → s.WarmedH t.vm → Qc args s (.returned (o.map (pmL sv al))) t) (hf : ∀ q ∈ locs, A q.base) :
    W p l e R s m args below meth c H locs cells slots (MQ below Qc args s cells slots A) (F0 m pc lsm (st.map (pmL sv al))) := by
  unfold pmRet at h
  split at h
  · replace h := pm_if h
    obtain ⟨⟨rfl, rfl, h1⟩, h⟩ := h
    cases h
    exact W.vret hx hb (hr.trans h1) hq hf hd hlocks
  · split at h
    · split at h
      · rename_i ty hty
        replace h := pm_if h
        obtain ⟨⟨rfl, h1⟩, h⟩ := h
        cases h
        exact W.zret hx hb (hr.trans hty) h1 hq hf hd hlocks
      · cases h
    · cases h
  · split at h
    · replace h := pm_if h
      obtain ⟨⟨rfl, h1⟩, h⟩ := h
      cases h
      exact W.lret hx hb (hr.trans h1) hq hf hd hlocks
    · cases h
  · split at h
    · rename_i x
      split at h
      · rename_i nm hty
        replace h := pm_if h
        obtain ⟨⟨rfl, h1⟩, h⟩ := h
        cases h
        have e1 : pmL sv al (.ref x) = .ref (al x) := pmL_at h1 rfl
        rw [List.map_cons, e1]
        rw [Option.map_some, e1] at hq
        exact W.aret hx hb (hr.trans hty) (Or.inl ⟨_, rfl⟩) (Or.inr ⟨_, rfl⟩) hq hf hd hlocks
      · cases h
    · split at h
      · rename_i nm hty
        replace h := pm_if h
        obtain ⟨rfl, h⟩ := h
        cases h
        exact W.aret hx hb (hr.trans hty) (Or.inl ⟨_, rfl⟩) (Or.inl rfl) hq hf hd hlocks
      · cases h
    · cases h
  · cases h
end PMEX
theorem pmRet_ok {M : pmM} {ins : Instr} {n k : Nat} {st : List Value} {o : Option Value} (h : pmRet M ins n st = some o) (hok : ∀ x ∈ st, pmOk k x) : ∀ x, o = some x → pmOk k x := by
  intro x hx
  subst hx
  unfold pmRet at h
  split at h
  · obtain ⟨-, h⟩ := pm_if h; cases h
  · split at h
    · split at h
      · obtain ⟨-, h⟩ := pm_if h; cases h; trivial
      · cases h
    · cases h
  · split at h
    · obtain ⟨-, h⟩ := pm_if h; cases h; trivial
    · cases h
  · split at h
    · split at h
      · obtain ⟨-, h⟩ := pm_if h; cases h; exact hok _ List.mem_cons_self
      · cases h
    · split at h
      · obtain ⟨-, h⟩ := pm_if h; cases h; trivial
      · cases h
    · cases h
  · cases h
set_option maxHeartbeats 8000000 in
theorem sim_exec {l : Launch} {D : va_G} {cA : Nat → ClassId} {A : Nat → Prop} {sv : Value} {adK adV : Nat → Nat} {b : Nat} {X : pmX} (hs : sv.category = 1) : ∀ (f d : Nat) (M : pmM) (pc : Nat) (ls st : List Value) (T : pmT) (v : pmV) (o : Option Value) (T' : pmT) (v' : pmV), pmExec X f d M pc ls st T v = some (o, T', v') →
    ∀ {p : Program} {e : Env} {R : Room} {s : State} {m : MethodId} {args : Array Value} {below : List Frame} {meth : Method} {c : Code} {H : Heap} {locs : List Loc} {cells slots : Nat} {Q : State → Prop} {lsm : Array Slot} {al : Nat → Nat},
    p.tables.exec = Jvm.exec → c.code = M.2.2.1 → c.maxLocals = M.2.2.2.1 → s.vm.findClass (pmCn M.1) = some m.cls → (M.2.1.name = "<init>" → meth.name = "<init>") → (∀ w ∈ pmWd, w.before args s = true) → pmKs D cA adK s → pmHs A sv adK adV b X s s.heap → (∀ q, s.heap.size ≤ q → A q) → d ≤ R.frames ∧ 60 * d ≤ R.locals →
    pmAl adK adV b al → pmSim D cA A al T v H → va_S A s.heap H locs → (∀ x ∈ st, pmOk T.length x) → (∀ x ∈ ls, pmOk T.length x) → pmHas (pmL sv al) ls lsm M.2.2.2.1 → cells + (T'.length - T.length) ≤ R.cells ∧ slots + (pmSz T' - pmSz T) ≤ R.slots →
    (∀ (pcR : Nat) (insR : Instr) (nR : Nat) (stR : List Value) (al' : Nat → Nat) (H' : Heap) (locs' : List Loc) (lsmR : Array Slot), decode M.2.2.1 pcR = .ok (insR, nR) → pmRet M insR nR stR = some o → (∀ a, a < 32 + T.length → al' a = al a) → pmSim D cA A al' T' v' H' → va_S A s.heap H' locs' → (∀ x ∈ stR, pmOk T'.length x) →
      W p l e R s m args below meth c H' locs' (cells + (T'.length - T.length)) (slots + (pmSz T' - pmSz T)) Q (F0 m pcR lsmR (stR.map (pmL sv al')))) →
    W p l e R s m args below meth c H locs cells slots Q (F0 m pc lsm (st.map (pmL sv al))) := by
  have hf : ∀ (al : Nat → Nat) (x : Value), (pmL sv al x).category = x.category := fun al => pmL_cat hs
  intro f
  induction f with
  | zero => intro d M pc ls st T v o T' v' h; simp [pmExec] at h
  | succ f ih =>
    intro d M pc ls st T v o T' v' h p e R s m args below meth c H locs cells slots Q lsm al hx hb hml hown hnm hts hK hHs hA hR hal hM hS hok hlok hl hfit kR
    unfold pmExec at h
    split at h
    · cases h
    · rename_i ins n hdec
      split at h
      · rename_i r hret
        cases h
        have k := kR pc ins n st al H locs lsm hdec hret (fun _ _ => rfl) hM hS hok
        rw [Nat.sub_self, Nat.sub_self] at k
        exact k
      · split at h
        · rename_i pc' ls' st' T1 v1 hstep
          have hmono := pmExec_mono _ _ _ _ _ _ _ _ _ _ _ h
          rcases pmStep_cases hstep with ⟨h1, rfl, rfl, rfl, rfl⟩ | ⟨h1, rfl, rfl, rfl⟩ | ⟨h1, rfl, rfl, rfl⟩ | ⟨h1, rfl, rfl, rfl⟩ | ⟨st1, t, h1, rfl, rfl, rfl, rfl, rfl⟩
          · exact sim_alu hs hx hb h1 hdec (ih _ _ _ _ _ _ _ _ _ _ h hx hb hml hown hnm hts hK hHs hA hR hal hM hS (pmAlu_ok hok h1) hlok hl hfit kR)
          · obtain ⟨g1, g2⟩ := pmLoc_ok hlok hok h1
            exact sim_loc hs hx hb h1 hdec hl (fun lsm' hl' => ih _ _ _ _ _ _ _ _ _ _ h hx hb hml hown hnm hts hK hHs hA hR hal hM hS g2 g1 hl' hfit kR)
          · exact sim_br hx hb h1 hdec (ih _ _ _ _ _ _ _ _ _ _ h hx hb hml hown hnm hts hK hHs hA hR hal hM hS (pmBr_ok hok h1) hlok hl hfit kR)
          · exact sim_mem (d := d) hs hx hb (hml.trans hl.2.1.symm) hown hnm hts hK hHs hal hM hS ⟨hR.1, hR.2, by omega, by omega⟩ h1 hok hdec (fun H1 locs1 hM1 hS1 hok1 => ih _ _ _ _ _ _ _ _ _ _ h hx hb hml hown hnm hts hK hHs hA hR hal hM1 hS1 hok1 hlok hl hfit kR)
          · rw [List.length_append, List.length_singleton, pmSz_app] at hmono
            refine sim_mk hx hb hown hts hK hM hS hA h1 hok hdec (by omega) (by omega) (fun q H1 hM1 hS1 hok1 => ?_)
            have hold : ∀ a, a < 32 + T.length → pmAl' al T.length q a = al a := pmAl'_old
            have e1 : (Value.ref q :: st1.map (pmL sv al)) = (Value.ref (32 + T.length) :: st1).map (pmL sv (pmAl' al T.length q)) := by
              rw [List.map_cons, pmL_als hold hok1, pmL_at (by omega) pmAl'_new]
            rw [e1]
            have hlen : (T ++ [t]).length = T.length + 1 := by simp
            refine ih _ _ _ _ _ _ _ _ _ _ h hx hb hml hown hnm hts hK hHs hA hR (hal.push hold) hM1 hS1 ?_ ?_ ?_ ?_ ?_
            · refine pmOk_cons ?_ (fun x hx => pmOk_le (by rw [hlen]; omega) (hok1 x hx))
              show 32 + T.length < 32 + (T ++ [t]).length
              rw [hlen]; omega
            · exact fun x hx => pmOk_le (by rw [hlen]; omega) (hlok x hx)
            · refine ⟨hl.1, ?_⟩
              rw [pmLv_al hold hlok]
              exact hl.2
            · rw [hlen, pmSz_app]; omega
            · intro pcR insR nR stR al' H' locs' lsmR g1 g2 g3 g4 g5 g6
              have k := kR pcR insR nR stR al' H' locs' lsmR g1 g2 (fun a ha => (g3 a (by rw [hlen]; omega)).trans (hold a ha)) g4 g5 g6
              rw [hlen, pmSz_app]
              rw [show cells + 1 + (T'.length - (T.length + 1)) = cells + (T'.length - T.length) by omega, show slots + t.2 + (pmSz T' - (pmSz T + t.2)) = slots + (pmSz T' - pmSz T) by omega]
              exact k
        · split at h
          · cases h
          · rename_i C as r hcall
            obtain ⟨⟨i, hC⟩, has, hr, hn3⟩ := pmCall_in hcall
            split at h
            · cases h
            · rename_i d' hd'
              replace h := pm_if h
              obtain ⟨hlenA, h⟩ := h
              split at h
              · cases h
              · rename_i o1 T1 v1 hin
                have hmono1 := pmExec_mono _ _ _ _ _ _ _ _ _ _ _ hin
                have hmono2 := pmExec_mono _ _ _ _ _ _ _ _ _ _ _ h
                obtain ⟨q1, q2, q3, q4, q5, q6⟩ := pm_ls_ok _ hC
                have hmet : pmMet l D cA A sv adK adV b X d' C as T v o1 T1 v1 := by
                  intro al0
                  refine Met.ofW (cc := C.2.2.1) (maxL := C.2.2.2.1) (ret := C.2.2.2.2) q3 rfl ?_
                  intro p2 e2 s2 m2 args2 below2 meth2 c2 s₁ B hml2 hv
                  obtain ⟨rfl, hK2, hH2, hal2, hM2, hA2⟩ := hv
                  have hts2 := atoms_spec (ws := pmCw C) B.pre
                  have hown2 : s2.vm.findClass (pmCn C.1) = some m2.cls := by rw [← q6]; exact findClass_of_methodNamed B.named
                  have hnm2 : C.2.1.name = "<init>" → meth2.name = "<init>" := fun q => ((name_of_methodNamed B.named B.method).1).trans q
                  have hsok : ∀ x ∈ pmPad C.2.2.2.1 (pmArgs as), pmOk T.length x := pmPad_ok (pmArgs_ok (fun x hx => hok x (has x hx)))
                  rw [lg_entry_eq]
                  have hrun := ih d' C 0 (pmPad C.2.2.2.1 (pmArgs as)) [] T v o1 T1 v1 hin (p := p2) (e := e2) (R := (headSpec (pmCw C) (pmRm d' (T1.length - T.length) (pmSz T1 - pmSz T))).room) (s := s2) (m := m2) (args := (as.map (pmL sv al0)).toArray) (below := below2) (meth := meth2) (c := c2) (H := s2.heap) (locs := []) (cells := 0) (slots := 0) (Q := MQ below2 (pmQ D cA A sv al0 T o1 T1 v1) (as.map (pmL sv al0)).toArray s2 (T1.length - T.length) (pmSz T1 - pmSz T) A) (al := al0)
                    B.exec B.bytes hml2 hown2 hnm2 (fun w hw => hts2 w (List.mem_cons_of_mem _ hw)) hK2 hH2 hA2 ⟨Nat.le_refl _, Nat.le_refl _⟩ hal2 hM2 va_S.rf (fun x hx => by cases hx) hsok (pm_entry (hf al0) hlenA) ⟨by rw [Nat.zero_add]; exact Nat.le_refl _, by rw [Nat.zero_add]; exact Nat.le_refl _⟩
                  refine hrun (fun pcR insR nR stR al' H' locs' lsmR g1 g2 g3 g4 g5 g6 => ?_)
                  rw [Nat.zero_add, Nat.zero_add]
                  exact sim_ret B.exec B.bytes B.returns B.notSynchronized g1 g2 (fun t ht hW => ⟨al', g3, rfl, by rw [ht]; exact g4, pmRet_ok g2 g6, g5.F ht⟩) g5.2.2
                have hrun := sim_call (l := l) (e := e) (below := below) (meth := meth) (locs := locs) (cells := cells) (slots := slots) (lsm := lsm) (d := d') hs hx hb hml hl.2.1 hown hts hK hHs hal hM hS hA hR ⟨by omega, by omega⟩ hcall hdec hmet
                refine pm_back hrun hS (fun al' H1 locs1 hag hM1 ho1 hS1 => ?_)
                have hrok : ∀ x ∈ r, pmOk T.length x := fun x hx => hok x (hr x hx)
                have e1 : (o1.map (pmL sv al')).toList ++ r.map (pmL sv al) = (o1.toList ++ r).map (pmL sv al') := by
                  rw [List.map_append, pmL_als hag hrok]
                  cases o1 <;> rfl
                rw [e1]
                refine ih _ _ _ _ _ _ _ _ _ _ h hx hb hml hown hnm hts hK hHs hA hR (hal.push hag) hM1 hS1 ?_ ?_ ?_ ?_ ?_
                · intro x hx
                  rcases List.mem_append.mp hx with hx | hx
                  · cases o1 with
                    | none => cases hx
                    | some y => rcases List.mem_singleton.mp hx with rfl; exact ho1 _ rfl
                  · exact pmOk_le hmono1.1 (hrok x hx)
                · exact fun x hx => pmOk_le hmono1.1 (hlok x hx)
                · refine ⟨hl.1, ?_⟩
                  rw [pmLv_al hag hlok]
                  exact hl.2
                · omega
                · intro pcR insR nR stR al2 H' locs' lsmR g1 g2 g3 g4 g5 g6
                  have k := kR pcR insR nR stR al2 H' locs' lsmR g1 g2 (fun a ha => (g3 a (by omega)).trans (hag a ha)) g4 g5 g6
                  rw [show cells + (T1.length - T.length) + (T'.length - T1.length) = cells + (T'.length - T.length) by omega, show slots + (pmSz T1 - pmSz T) + (pmSz T' - pmSz T1) = slots + (pmSz T' - pmSz T) by omega]
                  exact k
