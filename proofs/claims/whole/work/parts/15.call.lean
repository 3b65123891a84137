/-! calls: one contract for every method, and each kind of call -/
def pmRm (d mc ms : Nat) : Room := { frames := d, cells := mc, slots := ms, locals := 60 * d }
def pmSz (T : pmT) : Nat := (T.map fun q => q.2).sum
def pmCw (M : pmM) : List Jvm.Cond := Jvm.Cond.code M.2.1 M.2.2.1 M.2.2.2.1 M.2.2.2.2 :: pmWd
def pmGood (D : va_G) (cA : Nat → ClassId) (A : Nat → Prop) (sv : Value) (adK adV : Nat → Nat) (b : Nat) (X : pmX) (al : Nat → Nat) (T : pmT) (v : pmV) (U : State) : Prop :=
  pmKs D cA adK U ∧ pmHs A sv adK adV b X U U.heap ∧ pmAl adK adV b al ∧ pmSim D cA A al T v U.heap ∧ ∀ q, U.heap.size ≤ q → A q
def pmPc (D : va_G) (cA : Nat → ClassId) (A : Nat → Prop) (sv : Value) (adK adV : Nat → Nat) (b : Nat) (X : pmX) (al : Nat → Nat) (T : pmT) (v : pmV) (as : List Value) : Array Value → State → Prop :=
  va_Pc (as.map (pmL sv al)) (pmGood D cA A sv adK adV b X al T v)
def pmQ (D : va_G) (cA : Nat → ClassId) (A : Nat → Prop) (sv : Value) (al : Nat → Nat) (T : pmT) (o : Option Value) (T' : pmT) (v' : pmV) : Array Value → State → Outcome → State → Prop := fun _ st oc t =>
  ∃ al' : Nat → Nat, (∀ a, a < 32 + T.length → al' a = al a) ∧ oc = .returned (o.map (pmL sv al')) ∧ pmSim D cA A al' T' v' t.heap ∧ (∀ x, o = some x → pmOk T'.length x) ∧ va_F A st t
def pmMet (l : Launch) (D : va_G) (cA : Nat → ClassId) (A : Nat → Prop) (sv : Value) (adK adV : Nat → Nat) (b : Nat) (X : pmX) (d : Nat) (M : pmM) (as : List Value) (T : pmT) (v : pmV) (o : Option Value) (T' : pmT) (v' : pmV) : Prop :=
  ∀ al : Nat → Nat, Met l M.2.1 (pmCw M) (pmRm d (T'.length - T.length) (pmSz T' - pmSz T)) (pmPc D cA A sv adK adV b X al T v as) (pmQ D cA A sv al T o T' v') (T'.length - T.length) (pmSz T' - pmSz T) A
theorem pm_blind {D : va_G} {cA : Nat → ClassId} {A : Nat → Prop} {sv : Value} {adK adV : Nat → Nat} {b : Nat} {X : pmX} {al : Nat → Nat} {T : pmT} {v : pmV} {as : List Value} : FrameBlind (pmPc D cA A sv adK adV b X al T v as) := by
  intro a U g mk h
  obtain ⟨h1, h2, h3, h4⟩ := h
  exact ⟨h1, pmKs.warm (U := U.calling g mk a) (State.WarmedH.refl U) h2, pmHs.moved (U := U.calling g mk a) (Vm.Alike.refl U.vm) h3, h4⟩
theorem pm_code_in {q : pmM × Nat} (h : q ∈ pmLs) : Jvm.Cond.code q.1.2.1 q.1.2.2.1 q.1.2.2.2.1 q.1.2.2.2.2 ∈ pmWd :=
  List.mem_filter.mpr ⟨List.mem_append_right _ (pm_ls_ok q h).1, rfl⟩
theorem pm_goodin (M : pmM) {h : Nat} (hM : (M, h) ∈ pmLs) : GoodIn pmWd (pmCw M) := by
  intro w hw
  rcases List.mem_cons.mp hw with rfl | hw
  · exact pm_good _ (pm_code_in hM)
  · exact pm_good w hw
theorem pm_goodin_app {ws : List Jvm.Cond} (h : ∀ w ∈ ws, w ∈ pmWd) {M : pmM} {i : Nat} (hM : (M, i) ∈ pmLs) : GoodIn pmWd (ws ++ pmCw M) := by
  intro w hw
  rcases List.mem_append.mp hw with hw | hw
  · exact pm_good w (h w hw)
  · exact pm_goodin M hM w hw
theorem pmMj_of {j : Nat} {M : pmM} {h : Nat} (e : pmLs[j]? = some (M, h)) : pmMj j = M := by unfold pmMj; rw [e]; rfl
section PMCALL
variable {p : Program} {l : Launch} {e : Env} {R : Room} {s : State} {m : MethodId} {args : Array Value} {below : List Frame} {meth : Method} {c : Code} {H : Heap} {locs : List Loc} {cells slots : Nat} {Q : State → Prop}
theorem pm_callSU {T : State} (X : Stand p l e R s m args below meth c T locs cells slots) (hexec : p.tables.exec = Jvm.exec) {own owner : String} {index : Nat} {x : MethodName} {bytes : ByteArray} {maxL : Nat} {ret : Option FieldType}
    (hown : s.vm.findClass own = some m.cls) (hlink : (Cond.methodLink own index x).before args s = true) (hsame : (Cond.sameMethod x.cls owner x.name x.desc).before args s = true) (hsup : (Cond.superclass own x.cls).before args s = true)
    (hsubs : owner = x.cls ∨ (Cond.superclass x.cls owner).before args s = true)
    (hinst : (Cond.instanceMethod ⟨owner, x.name, x.desc⟩).before args s = true) (hcode : (Cond.code ⟨owner, x.name, x.desc⟩ bytes maxL ret).before args s = true) (hno : x.name ≠ "<init>")
    {W : Nat} {Pre : Pt → Array Value → Prop} {Post : Pt → Array Value → Option Value → Pt → Prop} (hK : Back l R p e below s args ⟨owner, x.name, x.desc⟩ 3 W Pre Post)
    {b : Addr} {cellB : Cell} {kB : Class} (hcell : T.heap[b]? = some cellB) (hobj : cellB.vm.isStatics = false) (hkB : s.vm.classes[cellB.cls]? = some kB)
    {g : JFrame} (hg : g.method = m) (hsize : g.locals.size = c.maxLocals) {argsL rest : List Value} (hlen : ∀ sig, parseMethodDescriptor x.desc = some sig → argsL.length = sig.parameters.length)
    (hstack : g.stack = argsL.reverse ++ .ref b :: rest) (hW : 2 * g.monitorRoom + (rest.map fun v => v.category).sum ≤ W) (hdg : decode c.code g.pc = .ok (.invokespecial index, 3))
    (hpre : ∀ vm₁, s.WarmedH vm₁ → Pre ⟨T.setVm vm₁, locs, cells, slots⟩ (Value.ref b :: argsL).toArray) :
    ∃ (v : Option Value) (vm₁ : Vm) (B : Pt), s.WarmedH vm₁ ∧ Stand p l e R s m args below meth c B.U B.locs B.cells B.slots ∧ Post ⟨T.setVm vm₁, locs, cells, slots⟩ (Value.ref b :: argsL).toArray v B ∧
      ∀ target, Steps p.tables e below (B.U.setTop { g with pc := g.pc + 3, stack := v.toList ++ rest }) target → Steps p.tables e below (T.setTop g) target := by
  obtain ⟨mk, methM, hnamed, hmethM, hstM, habM⟩ := Cond.instanceMethod_spec hinst
  obtain ⟨methM', cM, hmethM', -, -, -, -, -, -, hsigM⟩ := Cond.code_spec hnamed hcode
  cases hmethM.symm.trans hmethM'
  obtain ⟨ps, dk, kp, hps, hdk, hkp, hsuper, -, -, hnid⟩ := Cond.superclass_spec hown hsup
  have hmk := findClass_of_methodNamed hnamed
  have hsub : s.vm.isSubclass ps mk.cls = true := by
    rcases hsubs with e1 | e1
    · subst e1
      have hpm : ps = mk.cls := Option.some.inj (hps.symm.trans hmk)
      rw [hpm]; simp [Vm.isSubclass, Vm.isSubclassAux]
    · obtain ⟨p2, k2, kp2, hp2, hk2, hkp2, hs2, -⟩ := Cond.superclass_spec hps e1
      have hpm : p2 = mk.cls := Option.some.inj (hp2.symm.trans hmk)
      subst hpm
      have hlt : ps < s.vm.classes.size := (Array.getElem?_eq_some_iff.mp hk2).1
      obtain ⟨n, hn⟩ : ∃ n, s.vm.classes.size = n + 1 := Nat.exists_eq_succ_of_ne_zero (Nat.ne_of_gt (Nat.lt_of_le_of_lt (Nat.zero_le _) hlt))
      simp [Vm.isSubclass, hn, Vm.isSubclassAux, hk2, hs2]
  obtain ⟨vm₁, X₁, hstep₁⟩ := X.invokespecialUp hexec hown hlink hsame hnamed hmethM hstM habM hno hdk hnid hps hsuper hsub (a := b) (cell := cellB) hcell
    (fun z h => by rw [h] at hobj; cases hobj) hkB (g := g) hg (argsL := argsL) (rest := rest) (hlen _ hsigM) hstack hdg
  obtain ⟨v, B, X', hpost, hsteps⟩ := hK m meth c ⟨T.setVm vm₁, locs, cells, slots⟩ { g with stack := rest } (.invokespecial index) mk (Value.ref b :: argsL).toArray X₁ hg hsize hdg hW (X₁.named hnamed) (hpre vm₁ X₁.warmed)
  exact ⟨v, vm₁, B, X₁.warmed, X', hpost, fun target h => hstep₁ _ (by rw [doInvoke_state]; exact hsteps.trans h)⟩
theorem pm_runSU {x : MethodName} {owner : String} {bytes cc : ByteArray} {maxL nL mc ms n index : Nat} {ret : Option FieldType} {ws : List Jvm.Cond} {rm : Room} {Pc : Array Value → State → Prop} {Qc : Array Value → State → Outcome → State → Prop} {free : Addr → Prop} {Ts : List Jvm.Cond} {own C : String} {cC : ClassId} {b : Addr} {As rest : List Value} {g : JFrame}
    (hat : ClassAt s C cC) (S : CallFix p m c cc nL s args Ts own) (hM : Met l ⟨owner, x.name, x.desc⟩ ws rm Pc Qc mc ms free)
    (hrc : rm.cells = mc) (hrs : rm.slots = ms) (hfr : rm.frames + 1 ≤ R.frames) (hlo : 8 + (maxL + 11) + rm.locals ≤ R.locals) (hws : ∀ w ∈ ws, ∀ (a' : Array Value) (U : State), s.WarmedH U.vm → w.before a' U = true) (hcw : Cond.code ⟨owner, x.name, x.desc⟩ bytes maxL ret ∈ ws)
    (hlink : (Cond.methodLink own index x).before args s = true) (hsame : (Cond.sameMethod x.cls owner x.name x.desc).before args s = true) (hsup : (Cond.superclass own x.cls).before args s = true) (hsubs : owner = x.cls ∨ (Cond.superclass x.cls owner).before args s = true)
    (hinst : (Cond.instanceMethod ⟨owner, x.name, x.desc⟩).before args s = true) (hini : (Cond.initialized owner).before args s = true) (hcode : (Cond.code ⟨owner, x.name, x.desc⟩ bytes maxL ret).before args s = true) (hno : x.name ≠ "<init>") (hlen : ∀ sig, parseMethodDescriptor x.desc = some sig → n = sig.parameters.length)
    (hp : PreV s H C b Pc As)
    (hg : g.method = m) (hn : As.length = n) (hsize : g.locals.size = nL) (hstack : g.stack = As.reverse ++ .ref b :: rest) (hW : 2 * g.monitorRoom + (rest.map fun v => v.category).sum ≤ 8) (hdg : decode cc g.pc = .ok (.invokespecial index, 3)) (hf : cells + mc ≤ R.cells ∧ slots + ms ≤ R.slots) :
    va_Run p l e R s m args below meth c H locs cells slots mc ms g rest (Qc (Value.ref b :: As).toArray) (free) := by
  have hK : Back l R p e below s args ⟨owner, x.name, x.desc⟩ 3 8 (PreOf R mc ms Pc) (PostOf Qc mc ms free) := back_of (bytes := bytes) (maxL := maxL) (ret := ret) hM hp.1 hrc hrs hfr hlo hws hcw (fun a' U hW => word_at hW (Or.inl (by first | rfl | simp [Cond.onTables, Cond.keeps, Cond.steady])) hini)
  obtain ⟨hx, hb, hml, ho, -⟩ := S
  obtain ⟨-, ⟨cellB, hcB, hoB, hclB⟩, hPc⟩ := hp
  obtain ⟨hfc, kB, hkB, -⟩ := hat
  cases hfc.symm.trans hclB
  intro T hT X
  obtain ⟨v, vm₁, ⟨U', l2, c2, s2⟩, hW₁, X', ⟨g', mk, t, L, e1, e2, hq, h1, hL, h2, h3⟩, st⟩ := pm_callSU X hx (bytes := bytes) (maxL := maxL) (ret := ret) ho hlink hsame hsup hsubs hinst hcode hno hK (by rw [hT]; exact hcB) hoB hkB hg (hsize.trans hml.symm) (argsL := As) (rest := rest) (fun sig h => hn.trans (hlen sig h)) hstack hW (by rw [hb]; exact hdg)
    (fun vm₁ hW₁ => ⟨hf.1, hf.2, hPc (T.setVm vm₁) hT hW₁⟩)
  dsimp only [Pt.U, Pt.locs, Pt.cells, Pt.slots] at X' e1 e2 h1 h2 h3 st
  subst h1; subst h2; subst h3
  exact ⟨v, (T.setVm vm₁).calling g' mk (Value.ref b :: As).toArray, t, U', L, hT, X', hL, e1, e2, hq, st⟩
/-- behind a call -/
theorem pm_back {pc mc ms : Nat} {lsm : Array Slot} {D : va_G} {cA : Nat → ClassId} {A : Nat → Prop} {sv : Value} {al : Nat → Nat} {T T' : pmT} {v' : pmV} {o : Option Value} {a : Array Value} {st0 rest : List Value}
    (hr : va_Run p l e R s m args below meth c H locs cells slots mc ms (F0 m pc lsm st0) rest (pmQ D cA A sv al T o T' v' a) A) (hS : va_S A s.heap H locs)
    (k : ∀ (al' : Nat → Nat) (H1 : Heap) (locs1 : List Loc), (∀ a, a < 32 + T.length → al' a = al a) → pmSim D cA A al' T' v' H1 → (∀ x, o = some x → pmOk T'.length x) → va_S A s.heap H1 locs1 → W p l e R s m args below meth c H1 locs1 (cells + mc) (slots + ms) Q (F0 m (pc + 3) lsm ((o.map (pmL sv al')).toList ++ rest))) : W p l e R s m args below meth c H locs cells slots Q (F0 m pc lsm st0) := by
  intro T0 hT X
  obtain ⟨v, st₀, t, T1, L, h0, X', hL, e1, e2, ⟨al', ha, hv, hM, ho, hz, hk⟩, st⟩ := hr T0 hT X
  cases hv
  rw [h0] at hz hk
  obtain ⟨t2, a1, b1⟩ := k al' T1.heap (locs ++ L) ha (by rw [e1]; exact hM) ho
    ⟨Nat.le_trans hS.1 (by rw [e1]; exact hz), fun q h1 h2 => by rw [e1, hk q (Nat.lt_of_lt_of_le h1 hS.1) h2]; exact hS.2.1 q h1 h2, fun q hq => by
      rcases List.mem_append.mp hq with h | h
      · exact hS.2.2 q h
      · exact hL q h⟩ T1 rfl X'
  exact ⟨t2, st t2 a1, b1⟩
variable {cc : ByteArray} {pc own n nL d : Nat} {lsm : Array Slot} {sv : Value} {al : Nat → Nat} {D : va_G} {cA : Nat → ClassId} {A : Nat → Prop} {adK adV : Nat → Nat} {b : Nat} {X : pmX} {T T' : pmT} {v v' : pmV} {st : List Value} {o : Option Value}
theorem pm_pre (hK : pmKs D cA adK s) (hHs : pmHs A sv adK adV b X s s.heap) (hal : pmAl adK adV b al) (hM : pmSim D cA A al T v H) (hS : va_S A s.heap H locs) (hA : ∀ q, s.heap.size ≤ q → A q) (as : List Value) :
    ∀ U : State, U.heap = H → s.WarmedH U.vm → pmPc D cA A sv adK adV b X al T v as (as.map (pmL sv al)).toArray U := by
  intro U hU hW
  subst hU
  exact ⟨rfl, hK.warm hW, (hHs.kept hS.1 hS.2.1).moved hW.alike, hal, hM, fun q hq => hA q (Nat.le_trans hS.1 hq)⟩
/-- the receiver's class -/
theorem pm_recv (hK : pmKs D cA adK s) (hHs : pmHs A sv adK adV b X s s.heap) (hal : pmAl adK adV b al) (hM : pmSim D cA A al T v H) (hS : va_S A s.heap H locs) {a ci : Nat} (h : pmKind T a = ci) (hc : ci < 13 ∨ ci = 20) :
    (∃ cell : Cell, H[al a]? = some cell ∧ cell.vm.isStatics = false ∧ s.vm.findClass (pmCn ci) = some cell.cls) ∧ pmL sv al (.ref a) = .ref (al a) ∧ (ci < 13 → 32 ≤ a) := by
  unfold pmKind at h
  by_cases h32 : a < 32
  · rw [if_pos h32] at h
    by_cases h2 : a % 2 = 0 ∧ a < 28
    · rw [if_pos h2] at h
      subst h
      obtain ⟨i, rfl⟩ : ∃ i, a = 2 * i := ⟨a / 2, by omega⟩
      have hi : i < 14 := by omega
      obtain ⟨cell, h1, h3, h4⟩ := vk_recv hHs.1 hi hS
      rw [(hal.1 i hi).1]
      exact ⟨⟨cell, h1, h3, h4⟩, pmL_at (by omega) (hal.1 i hi).1, fun q => absurd q (by omega)⟩
    · rw [if_neg h2] at h
      omega
  · rw [if_neg h32] at h
    have ha : 32 ≤ a := by omega
    cases hT : T[a - 32]? with
    | none => rw [hT] at h; dsimp only at h; omega
    | some q =>
      obtain ⟨k, n⟩ := q
      rw [hT] at h
      dsimp only at h
      by_cases hk : k < 13
      · rw [if_pos hk] at h
        subst h
        have he := pmWo_a (cA := cA) (al := al) (v := v) ha hT
        rw [pmCell_o hk] at he
        exact ⟨va_recv hK.1 hM.1 (pm_cl hk) he, pmL_ref ha, fun _ => ha⟩
      · rw [if_neg hk] at h
        omega
end PMCALL
