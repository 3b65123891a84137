/-! THE CLAIM OUT OF ONE WALK OF THE LAW'S BODY. Your part is whole_start (and what it stands on); all else here is the same for every law, but numbers. -/
def R_law : String := "LanesTurnLaw"
def lw_P (b : Addr) (xs : List Int32) (args : Array Value) (s : State) : Prop := args = #[.ref b] ∧ s.IntsAt b xs ∧ xs.length ≤ 384 ∧ (Jvm.Cond.and given_1 narrow_1).before args s = true
def lw_Q (_ : Array Value) (s : State) (o : Outcome) (t : State) : Prop := o = .returned (some (.int 1)) ∧ Framed s o t [] 600000 7302249
def lw_Z (below : List Frame) (a : Array Value) (s : State) : State → Prop := fun t => ∃ o, t.status = .running ∧ Ended t below o ∧ lw_Q a s o t
/-- the law's own end, with 1 on the stack, nothing written that was there before, its room as the claim has it -/
theorem lw_ret {p : Program} {l : Launch} {e : Env} {s : State} {m : MethodId} {below : List Frame} {meth : Method} {c : Code} {b : Nat} (hx : p.tables.exec = Jvm.exec) (hb : c.code = code) (hr : meth.sig.returnType = ret) (hlocks : meth.locks = false) {pc : Nat} {H : Heap} {ls : Array Slot} (hdg : decode code pc = .ok (.ireturn, 1)) : W p l e room_1 s m #[Value.ref b] below meth c H [] 600000 7302249 (lw_Z below #[Value.ref b] s) (F0 m pc ls [.int 1]) := by
  intro T hT X
  obtain ⟨fs, hret, hrun, hended, hW, hframe⟩ := X.leave (v := some (.int 1)) (hlocks := hlocks) (fun h => by rw [hr] at h; cases h)
  have hmeth' : T.vm.method? m = some meth := X.method'
  refine ⟨T.setFrames fs, ?_, .returned (some (.int 1)), hrun, hended, rfl, ⟨_, rfl⟩, hW, hframe⟩
  jvm_step X.here [X.here.top, hx, hb, hdg, hmeth', hr, ret, narrow_b1]
  (try refine ⟨rfl, ?_⟩); (try refine ⟨rfl, ?_⟩)
  first | (intro acts; rw [hret _ acts rfl rfl rfl]) | rw [hret _ _ rfl rfl rfl]
  exact Steps.refl _
/-- what holds at the law's entry: the machine, the code, the tables' words (any of lw_tbl by 'hts w (by decide +kernel)'), the script of L ints xs at the cell b, what the Statement gives of the start (any of its parts by flat_of_before) -/
def lw_At (p : Program) (s : State) (m : MethodId) (meth : Method) (c : Code) (b L : Nat) (xs : Nat → Int32) : Prop :=
  p.tables.exec = Jvm.exec ∧ c.code = code ∧ meth.sig.returnType = ret ∧ c.maxLocals = 4 ∧ s.vm.findClass R_law = some m.cls ∧ (∀ w ∈ lw_tbl, w.before #[Value.ref b] s = true) ∧ va_X b L xs s s.heap ∧ b < s.heap.size ∧ meth.locks = false ∧ (Jvm.Cond.and given_1 narrow_1).before #[Value.ref b] s = true
/-- the law, from its entry, out of a run of the pure machine -/
theorem whole_start_open (hrun : ∀ (L : Nat) (xs : Nat → Int32), L ≤ 384 → ∃ (f : Nat) (T' : pmT) (v' : pmV), pmExec (L, xs) f 1400 ML_law 0 (pmPad 4 (pmArgs [.ref 31])) [] [] pmV0 = some (some (.int 1), T', v') ∧ T'.length ≤ 600000 ∧ pmSz T' ≤ 7302249) {p : Program} {e : Env} {s : State} {m : MethodId} {below : List Frame} {meth : Method} {c : Code} (l : Launch) (hflags : l.flags = flags0) {b L : Nat} {xs : Nat → Int32} (hL : L ≤ 384) (C0 : lw_At p s m meth c b L xs) : W p l e room_1 s m #[Value.ref b] below meth c s.heap [] 0 0 (lw_Z below #[Value.ref b] s) (entryFrame m ([Value.ref b] : List Value).toArray 4) := by
  obtain ⟨hx, hb, hr, hml, hown, hts, hX, hbl, hlocks, hgv⟩ := C0
  obtain ⟨f, T', v', hex, hT1, hT2⟩ := hrun L xs hL
  obtain ⟨D, cA, sv, adK, adV, al, hsv, hK, hH, hal, hM⟩ := pm_start hts hX hbl hgv
  have hf : ∀ x, (pmL sv al x).category = x.category := pmL_cat hsv
  have e1 : ([Value.ref b] : List Value) = ([Value.ref 31] : List Value).map (pmL sv al) := by
    rw [List.map_cons, List.map_nil, pmL_at (by omega) hal.2]
  rw [lg_entry_eq, e1]
  have hsok : ∀ x ∈ pmPad 4 (pmArgs [.ref 31]), pmOk ([] : pmT).length x := pmPad_ok (pmArgs_ok (fun x hx => by
    rcases List.mem_singleton.mp hx with rfl
    show (31 : Nat) < 32 + 0
    omega))
  have hrt : c.code = code := hb
  refine sim_exec (l := l) (D := D) (cA := cA) (A := fun q => s.heap.size ≤ q) (sv := sv) (adK := adK) (adV := adV) (b := b) (X := (L, xs)) hsv f 1400 ML_law 0 _ [] [] pmV0 (some (.int 1)) T' v' hex (p := p) (e := e) (R := room_1) (s := s) (m := m) (args := (([Value.ref 31] : List Value).map (pmL sv al)).toArray) (below := below) (meth := meth) (c := c) (H := s.heap) (locs := []) (cells := 0) (slots := 0)
    hx hb hml hown ?_ ?_ hK hH (fun q h => h) ⟨by decide, by decide⟩ hal hM va_S.rf (fun x hx => by cases hx) hsok (pm_entry hf (by decide)) ⟨by rw [Nat.zero_add]; exact Nat.le_trans (Nat.sub_le _ _) hT1, by rw [Nat.zero_add]; exact Nat.le_trans (Nat.sub_le _ _) hT2⟩ ?_
  · intro q
    exact absurd q (by decide)
  · intro w hw
    rw [← e1]
    exact hts w (List.mem_filter.mp hw).1
  · intro pcR insR nR stR al' H' locs' lsmR g1 g2 g3 g4 g5 g6
    rw [← e1]
    have hz : ∃ x, stR = [.int x] ∧ insR = .ireturn ∧ nR = 1 ∧ x = 1 := by
      unfold pmRet at g2
      split at g2
      · obtain ⟨-, g2⟩ := pm_if g2; cases g2
      · split at g2
        · obtain ⟨q1, g2⟩ := pm_if g2
          cases g2
          exact ⟨1, rfl, rfl, q1.1, rfl⟩
        · cases g2
      · split at g2
        · obtain ⟨-, g2⟩ := pm_if g2; cases g2
        · cases g2
      · split at g2
        · cases g2
        · cases g2
        · cases g2
      · cases g2
    obtain ⟨x, rfl, rfl, rfl, rfl⟩ := hz
    refine va_forget (fun q hq => g5.2.2 q hq) ?_
    refine W.widen (k := 600000) (n := 7302249) (by rw [Nat.zero_add]; exact Nat.le_trans (Nat.sub_le _ _) hT1) (by rw [Nat.zero_add]; exact Nat.le_trans (Nat.sub_le _ _) hT2) ?_
    exact lw_ret hx hb hr hlocks g1
