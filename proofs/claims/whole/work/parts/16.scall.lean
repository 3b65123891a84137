/-! a call of the pure machine is a call of the real one -/
theorem pm_code_tbl {q : pmM × Nat} (h : q ∈ pmLs) {args : Array Value} {s : State} (hts : ∀ w ∈ pmWd, w.before args s = true) : (Jvm.Cond.code q.1.2.1 q.1.2.2.1 q.1.2.2.2.1 q.1.2.2.2.2).before args s = true := hts _ (pm_code_in h)
theorem pm_par {y : MethodName} {n : Nat} (h : pmPar y n) : ∀ sig, parseMethodDescriptor y.desc = some sig → n = sig.parameters.length := by
  intro sig hs
  unfold pmPar at h
  rw [hs] at h
  exact (Option.some.inj h).symm
theorem pm_list {α : Type} (l : List α) (k : Nat) : l = ((l.take k).reverse).reverse ++ l.drop k := by rw [List.reverse_reverse, List.take_append_drop]
section PMSC
variable {p : Program} {l : Launch} {e : Env} {R : Room} {s : State} {m : MethodId} {args : Array Value} {below : List Frame} {meth : Method} {c : Code} {H : Heap} {locs : List Loc} {cells slots : Nat} {Q : State → Prop}
variable {cc : ByteArray} {pc own n nL d : Nat} {lsm : Array Slot} {sv : Value} {al : Nat → Nat} {D : va_G} {cA : Nat → ClassId} {A : Nat → Prop} {adK adV : Nat → Nat} {b : Nat} {X : pmX} {T T' : pmT} {v v' : pmV} {st : List Value} {o : Option Value}
set_option maxHeartbeats 8000000 in
theorem sim_call {M' : pmM} {as r : List Value} {ins : Instr} (hs : sv.category = 1) (hx : p.tables.exec = Jvm.exec) (hb : c.code = cc) (hml : c.maxLocals = nL) (hsz : lsm.size = nL) (hown : s.vm.findClass (pmCn own) = some m.cls) (hts : ∀ w ∈ pmWd, w.before args s = true) (hK : pmKs D cA adK s) (hHs : pmHs A sv adK adV b X s s.heap) (hal : pmAl adK adV b al) (hM : pmSim D cA A al T v H) (hS : va_S A s.heap H locs) (hA : ∀ q, s.heap.size ≤ q → A q)
    (hR : d + 1 ≤ R.frames ∧ 60 * (d + 1) ≤ R.locals) (hf : cells + (T'.length - T.length) ≤ R.cells ∧ slots + (pmSz T' - pmSz T) ≤ R.slots)
    (h : pmCall own ins n st T = some (M', as, r)) (hd : decode cc pc = .ok (ins, n)) (hmet : pmMet l D cA A sv adK adV b X d M' as T v o T' v') :
    va_Run p l e R s m args below meth c H locs cells slots (T'.length - T.length) (pmSz T' - pmSz T) (F0 m pc lsm (st.map (pmL sv al))) (r.map (pmL sv al)) (pmQ D cA A sv al T o T' v' (as.map (pmL sv al)).toArray) A := by
  have hcf : CallFix p m c cc nL s args pmWd (pmCn own) := ⟨hx, hb, hml, hown, hts⟩
  have hpre := pm_pre (sv := sv) (X := X) (D := D) (cA := cA) (adK := adK) (adV := adV) (b := b) hK hHs hal hM hS hA as
  replace h := pm_if (show (if n = 3 then _ else none) = _ from h)
  obtain ⟨rfl, h⟩ := h
  cases ins
  case invokestatic i =>
    replace h : (match pmAt pmStL (own, i) with | some (_, k, j, _) => if k ≤ st.length ∧ pmNum (st.drop k) ≤ 8 then (pmLs[j]?).map fun q => (q.1, (st.take k).reverse, st.drop k) else none | none => none) = some (M', as, r) := h
    cases hfnd : pmAt pmStL (own, i) with
    | none => rw [hfnd] at h; cases h
    | some y =>
      obtain ⟨kd, k, j, hh⟩ := y
      rw [hfnd] at h
      replace h := pm_if h
      obtain ⟨⟨g1, g2⟩, h⟩ := h
      obtain ⟨⟨M0, hi⟩, h1, h2⟩ := pm_map h
      cases h2
      have hmem := List.mem_of_getElem? h1
      obtain ⟨q1, q2, q3, q4, q5, q6⟩ := pm_ls_ok _ hmem
      have hst := pm_st_ok _ (pmAt_mem hfnd)
      unfold pmStOk at hst
      rw [pmMj_of h1] at hst
      obtain ⟨hpar, hst⟩ := hst
      have hlen : ((st.take k).reverse.map (pmL sv al)).length = k := by simp; omega
      have hstk : st.map (pmL sv al) = ((st.take k).reverse.map (pmL sv al)).reverse ++ (st.drop k).map (pmL sv al) := by
        rw [← List.map_reverse, ← List.map_append, ← pm_list]
      have hrm : (pmRm d (T'.length - T.length) (pmSz T' - pmSz T)).frames + 1 ≤ R.frames ∧ 8 + (M0.2.2.2.1 + 11) + (pmRm d (T'.length - T.length) (pmSz T' - pmSz T)).locals ≤ R.locals := ⟨hR.1, by have : M0.2.2.2.1 ≤ 21 := q2; show 8 + (M0.2.2.2.1 + 11) + 60 * d ≤ R.locals; omega⟩
      rcases hst with ⟨-, hw⟩ | ⟨-, hn, hw⟩
      · exact va_runS hcf (hmet al) (va_cwS (ret := M0.2.2.2.2) (bytes := M0.2.2.1) (maxL := M0.2.2.2.1) (ws' := pmWd) k hts (pm_goodin_app (pmWs_in hw) hmem) rfl rfl rfl ⟨q4, q5, hpar⟩ hrm) ⟨pm_blind, hpre⟩ rfl hlen hsz hstk (lv_room (by rw [pmL_num hs]; exact g2)) hd hf
      · have hw := pmWs_in hw
        exact va_runSN hcf (hmet al) ⟨va_cnB (host := "LanesTurn") (ret := M0.2.2.2.2) (bytes := M0.2.2.1) (maxL := M0.2.2.2.1) (ws' := pmWd) k hts (pm_goodin M0 hmem) rfl rfl rfl (hK.2.1 _ _ _ _ hn) (hts _ (hw _ (by simp))) ⟨q4, q5, hpar⟩ hrm, hts _ (hw _ (by simp)), trivial⟩ ⟨pm_blind, hpre⟩ rfl hlen hsz hstk (lv_room (by rw [pmL_num hs]; exact g2)) hd hf
  case invokespecial i =>
    replace h : (match pmAt pmSpL (own, i) with | some (_, k, j, _) => (match st.drop k with | .ref a :: r => if 32 ≤ a ∧ pmKind T a < 13 ∧ k ≤ st.length ∧ pmNum r ≤ 8 then (pmLs[j]?).map fun q => (q.1, .ref a :: (st.take k).reverse, r) else none | _ => none) | none => none) = some (M', as, r) := h
    cases hfnd : pmAt pmSpL (own, i) with
    | none => rw [hfnd] at h; cases h
    | some y =>
      obtain ⟨kd, k, j, hh⟩ := y
      rw [hfnd] at h
      dsimp only at h
      split at h
      · rename_i a r' hdrop
        replace h := pm_if h
        obtain ⟨⟨h32, hk13, g1, g2⟩, h⟩ := h
        obtain ⟨⟨M0, hi⟩, h1, h2⟩ := pm_map h
        cases h2
        have hmem := List.mem_of_getElem? h1
        obtain ⟨q1, q2, q3, q4, q5, q6⟩ := pm_ls_ok _ hmem
        have hst := pm_sp_ok _ (pmAt_mem hfnd)
        unfold pmSpOk at hst
        rw [pmMj_of h1] at hst
        obtain ⟨hpar, hst⟩ := hst
        obtain ⟨hrcv, hra, -⟩ := pm_recv hK hHs hal hM hS (a := a) rfl (Or.inl hk13)
        have hlen : ((st.take k).reverse.map (pmL sv al)).length = k := by simp; omega
        have hstk : st.map (pmL sv al) = ((st.take k).reverse.map (pmL sv al)).reverse ++ .ref (al a) :: r.map (pmL sv al) := by
          rw [← hra, ← List.map_cons, ← hdrop, ← List.map_reverse, ← List.map_append, ← pm_list]
        have hpre : ∀ U : State, U.heap = H → s.WarmedH U.vm → pmPc D cA A sv adK adV b X al T v (.ref a :: (st.take k).reverse) (Value.ref (al a) :: (st.take k).reverse.map (pmL sv al)).toArray U := fun U hU hW => by
          rw [← hra]; exact hpre U hU hW
        have hrm : (pmRm d (T'.length - T.length) (pmSz T' - pmSz T)).frames + 1 ≤ R.frames ∧ 8 + (M0.2.2.2.1 + 11) + (pmRm d (T'.length - T.length) (pmSz T' - pmSz T)).locals ≤ R.locals := ⟨hR.1, by have : M0.2.2.2.1 ≤ 21 := q2; show 8 + (M0.2.2.2.1 + 11) + 60 * d ≤ R.locals; omega⟩
        rw [List.map_cons, hra]
        rcases hst with ⟨-, hy1, hret, hw⟩ | ⟨-, hy1, hret, hn, hw⟩ | ⟨-, hno, hw⟩ | ⟨-, hno, hw⟩
        · have hw := pmWs_in hw
          exact va_runI hcf (hmet al) (cwI (bytes := M0.2.2.1) (maxL := M0.2.2.2.1) (ws' := pmWd) k hts (pm_goodin M0 hmem) (by unfold pmCw; rw [hret]) rfl rfl (hts _ (hw _ (by simp))) (hts _ (hw _ (by simp))) (hts _ (hw _ (by simp))) hy1 ⟨q4, q5, hpar⟩ hrm) ⟨pm_blind, hpre⟩ rfl hlen hsz hstk (lv_room (by rw [pmL_num hs]; exact g2)) hd hf
        · have hw := pmWs_in hw
          exact va_runIN hcf (hmet al) ⟨va_cnB (host := "LanesTurn") (ret := none) (bytes := M0.2.2.1) (maxL := M0.2.2.2.1) (ws' := pmWd) k hts (pm_goodin M0 hmem) (by unfold pmCw; rw [hret]) rfl rfl (hK.2.1 _ _ _ _ hn) (hts _ (hw _ (by simp))) ⟨q4, q5, hpar⟩ hrm, hy1, hts _ (hw _ (by simp))⟩ ⟨pm_blind, hpre⟩ rfl hlen hsz hstk (lv_room (by rw [pmL_num hs]; exact g2)) hd hf
        · have hw := pmWs_in hw
          exact pm_runSU (x := M0.2.1) (owner := M0.2.1.cls) (bytes := M0.2.2.1) (maxL := M0.2.2.2.1) (ret := M0.2.2.2.2) ((hK.1.1 _ _ (pm_cl hk13)).2) hcf (hmet al) rfl rfl hrm.1 hrm.2 (pay_in hts (pm_goodin M0 hmem)) List.mem_cons_self (hts _ (hw _ (by simp))) (hts _ (hw _ (by simp))) (hts _ (hw _ (by simp))) (Or.inl rfl) (hts _ (hw _ (by simp))) (hts _ (hw _ (by simp))) (pm_code_tbl hmem hts) hno (pm_par hpar) ⟨pm_blind, hrcv, hpre⟩ rfl hlen hsz hstk (lv_room (by rw [pmL_num hs]; exact g2)) hd hf
        · have hw := pmWs_in hw
          exact pm_runSU (x := ⟨"LanesTurn$BusLane", M0.2.1.name, M0.2.1.desc⟩) (owner := M0.2.1.cls) (bytes := M0.2.2.1) (maxL := M0.2.2.2.1) (ret := M0.2.2.2.2) ((hK.1.1 _ _ (pm_cl hk13)).2) hcf (hmet al) rfl rfl hrm.1 hrm.2 (pay_in hts (pm_goodin M0 hmem)) List.mem_cons_self (hts _ (hw _ (by simp))) (hts _ (hw _ (by simp))) (hts _ (hw _ (by simp))) (Or.inr (hts _ (hw _ (by simp)))) (hts _ (hw _ (by simp))) (hts _ (hw _ (by simp))) (pm_code_tbl hmem hts) hno (pm_par hpar) ⟨pm_blind, hrcv, hpre⟩ rfl hlen hsz hstk (lv_room (by rw [pmL_num hs]; exact g2)) hd hf
      · cases h
  case invokevirtual i =>
    replace h : (match pmAt pmVtL (own, i) with | some (k, cs) => (match st.drop k with | .ref a :: r => (match pmAt cs (pmKind T a) with | some (_, j, _) => if k ≤ st.length ∧ pmNum r ≤ 8 then (pmLs[j]?).map fun q => (q.1, .ref a :: (st.take k).reverse, r) else none | none => none) | _ => none) | none => none) = some (M', as, r) := h
    cases hfnd : pmAt pmVtL (own, i) with
    | none => rw [hfnd] at h; cases h
    | some y =>
      obtain ⟨k, cs⟩ := y
      rw [hfnd] at h
      dsimp only at h
      split at h
      · rename_i a r' hdrop
        cases hfc : pmAt cs (pmKind T a) with
        | none => rw [hfc] at h; cases h
        | some z =>
          obtain ⟨kd, j, hh⟩ := z
          rw [hfc] at h
          replace h := pm_if h
          obtain ⟨⟨g1, g2⟩, h⟩ := h
          obtain ⟨⟨M0, hi⟩, h1, h2⟩ := pm_map h
          cases h2
          have hmem := List.mem_of_getElem? h1
          obtain ⟨q1, q2, q3, q4, q5, q6⟩ := pm_ls_ok _ hmem
          have hst := pm_vt_ok _ (pmAt_mem hfnd) _ (pmAt_mem hfc)
          unfold pmVtOk at hst
          dsimp only at hst
          rw [pmMj_of h1] at hst
          obtain ⟨hpar, hkc, hst⟩ := hst
          obtain ⟨hrcv, hra, -⟩ := pm_recv hK hHs hal hM hS (a := a) rfl hkc
          have hlen : ((st.take k).reverse.map (pmL sv al)).length = k := by simp; omega
          have hstk : st.map (pmL sv al) = ((st.take k).reverse.map (pmL sv al)).reverse ++ .ref (al a) :: r.map (pmL sv al) := by
            rw [← hra, ← List.map_cons, ← hdrop, ← List.map_reverse, ← List.map_append, ← pm_list]
          have hpre : ∀ U : State, U.heap = H → s.WarmedH U.vm → pmPc D cA A sv adK adV b X al T v (.ref a :: (st.take k).reverse) (Value.ref (al a) :: (st.take k).reverse.map (pmL sv al)).toArray U := fun U hU hW => by
            rw [← hra]; exact hpre U hU hW
          have hrm : (pmRm d (T'.length - T.length) (pmSz T' - pmSz T)).frames + 1 ≤ R.frames ∧ 8 + (M0.2.2.2.1 + 11) + (pmRm d (T'.length - T.length) (pmSz T' - pmSz T)).locals ≤ R.locals := ⟨hR.1, by have : M0.2.2.2.1 ≤ 21 := q2; show 8 + (M0.2.2.2.1 + 11) + 60 * d ≤ R.locals; omega⟩
          rw [List.map_cons, hra]
          rcases hst with ⟨-, hc, hw⟩ | ⟨-, hc, hw⟩ | ⟨-, z, hz, hze, hw⟩
          · exact va_runV (C := pmCn (pmKind T a)) hcf (hmet al) (cwV (bytes := M0.2.2.1) (maxL := M0.2.2.2.1) (ret := M0.2.2.2.2) (ws' := pmWd) k hts (pm_goodin_app (pmWs_in hw) hmem) rfl rfl rfl ⟨hc, q4, q5, hpar⟩ hrm) ⟨pm_blind, hrcv, hpre⟩ rfl hlen hsz hstk (lv_room (by rw [pmL_num hs]; exact g2)) hd hf
          · exact va_runU (x := M0.2.1) (owner := "LanesTurn$Lane") (C := pmCn (pmKind T a)) hcf (hmet al) (va_cwU (bytes := M0.2.2.1) (maxL := M0.2.2.2.1) (ret := M0.2.2.2.2) (ws' := pmWd) k hts (pm_goodin_app (ws := [.methodLink (pmCn own) i M0.2.1, .sameMethod M0.2.1.cls "LanesTurn$Lane" M0.2.1.name M0.2.1.desc, .selects (pmCn (pmKind T a)) M0.2.1 M0.2.1, .instanceMethod M0.2.1, .initialized M0.2.1.cls]) (by rw [hc]; rw [hc] at hw; exact pmWs_in hw) hmem) rfl rfl rfl (by rw [← hc]) ⟨by decide, by decide, hpar⟩ hrm) ⟨pm_blind, hrcv, hpre⟩ rfl hlen hsz hstk (lv_room (by rw [pmL_num hs]; exact g2)) hd hf
          · exact va_runU (x := ⟨"LanesTurn$Lane", M0.2.1.name, M0.2.1.desc⟩) (owner := "LanesTurn$Lane") (C := pmCn (pmKind T a)) hcf (hmet al) (va_cwO (bytes := M0.2.2.1) (maxL := M0.2.2.2.1) (ret := M0.2.2.2.2) (ws' := pmWd) k hts (pm_goodin_app (pmWs_in hw) hmem) rfl rfl rfl (b0 := z.1.2.2.1) (m0 := z.1.2.2.2.1) (r0 := z.1.2.2.2.2) (by rw [← hze]; exact pm_code_in hz) ⟨by decide, by decide, hpar⟩ hrm) ⟨pm_blind, hrcv, hpre⟩ rfl hlen hsz hstk (lv_room (by rw [pmL_num hs]; exact g2)) hd hf
      · cases h
  all_goals (cases h)
end PMSC
