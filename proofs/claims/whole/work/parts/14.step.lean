/-! cells that come; one step of the pure machine -/
theorem pm_clamp {z : Int32} (h : z ≤ 100000) : z.toNatClampNeg ≤ 100000 := by
  have h1 := Int32.le_iff_toInt_le.mp h
  have h2 : (100000 : Int32).toInt = 100000 := by decide
  rw [h2] at h1
  show z.toInt.toNat ≤ 100000
  omega
theorem pm_fits_new {v : pmV} {al : Nat → Nat} {a j ci : Nat} (hc : ci < 13) (hj : j < pmN ci) : defaultValue (pmTy ci j) = vp_V (pmFs (pmNew v a) al ci a) j := by
  have h1 : vp_V (pmFs (pmNew v a) al ci a) j = pmFv (pmNew v a) al (pmTy ci j) a j := by
    unfold vp_V
    rw [List.getD_eq_getElem?_getD, pmFs_get hj]
    rfl
  rw [h1]
  have h2 := pm_tys_ok ci hc j hj
  have e1 : (pmNew v a).1 a j = 0 := if_pos rfl
  have e2 : (pmNew v a).2.1 a j = 0 := if_pos rfl
  have e3 : (pmNew v a).2.2 a j = none := if_pos rfl
  unfold pmFv
  rw [e1, e2, e3]
  cases hty : pmTy ci j <;> rw [hty] at h2 <;> first | rfl | cases h2
def pmAl' (al : Nat → Nat) (n q : Nat) : Nat → Nat := fun a => if a = 32 + n then q else al a
theorem pmAl'_old {al : Nat → Nat} {n q : Nat} : ∀ a, a < 32 + n → pmAl' al n q a = al a := fun a h => if_neg (Nat.ne_of_lt h)
theorem pmAl'_new {al : Nat → Nat} {n q : Nat} : pmAl' al n q (32 + n) = q := if_pos rfl
theorem pmAl.push {adK adV : Nat → Nat} {b : Nat} {al : Nat → Nat} (h : pmAl adK adV b al) {al' : Nat → Nat} {n : Nat} (he : ∀ a, a < 32 + n → al' a = al a) : pmAl adK adV b al' :=
  ⟨fun i hi => ⟨(he _ (by omega)).trans (h.1 i hi).1, (he _ (by omega)).trans (h.1 i hi).2⟩, (he _ (by omega)).trans h.2⟩
section PMSTEP
variable {p : Program} {l : Launch} {e : Env} {R : Room} {s : State} {m : MethodId} {args : Array Value} {below : List Frame} {meth : Method} {c : Code} {H : Heap} {locs : List Loc} {cells slots : Nat} {Q : State → Prop}
variable {cc : ByteArray} {pc own idx n : Nat} {lsm : Array Slot} {sv : Value} {al : Nat → Nat} {D : va_G} {cA : Nat → ClassId} {A : Nat → Prop} {adK adV : Nat → Nat} {b : Nat} {X : pmX} {T : pmT} {v : pmV} {st st' : List Value}
theorem pm_done {q : Nat} {t : Nat × Nat} {cell : va_E} {H1 : Heap} (hM : pmSim D cA A al T v H) (hc : pmCell cA (pmNew v (32 + T.length)) al (32 + T.length) t = cell) (h1 : va_P D vwCl (pmWo cA al T v ++ [(q, cell)]) H1) (h2 : va_D A (pmWo cA al T v ++ [(q, cell)])) :
    pmSim D cA A (pmAl' al T.length q) (T ++ [t]) (pmNew v (32 + T.length)) H1 := by
  have e := pmWo_new (cA := cA) (al := al) (q := q) (t := t) hM.2.2
  rw [hc] at e
  refine ⟨?_, ?_, ?_⟩
  · rw [show pmAl' al T.length q = fun a => if a = 32 + T.length then q else al a from rfl, e]; exact h1
  · rw [show pmAl' al T.length q = fun a => if a = 32 + T.length then q else al a from rfl, e]; exact h2
  · rw [List.length_append]; exact pmHo_new hM.2.2 _
set_option maxHeartbeats 4000000 in
theorem sim_mk {ins : Instr} {t : Nat × Nat} (hx : p.tables.exec = Jvm.exec) (hb : c.code = cc) (hown : s.vm.findClass (pmCn own) = some m.cls) (hts : ∀ w ∈ pmWd, w.before args s = true) (hK : pmKs D cA adK s) (hM : pmSim D cA A al T v H) (hS : va_S A s.heap H locs) (hA : ∀ q, s.heap.size ≤ q → A q)
    (h : pmMk ins n own st = some (st', t)) (hok : ∀ x ∈ st, pmOk T.length x) (hd : decode cc pc = .ok (ins, n)) (hcells : cells + 1 ≤ R.cells) (hslots : slots + t.2 ≤ R.slots)
    (k : ∀ (q : Nat) (H1 : Heap), pmSim D cA A (pmAl' al T.length q) (T ++ [t]) (pmNew v (32 + T.length)) H1 → va_S A s.heap H1 locs → (∀ x ∈ st', pmOk T.length x) → W p l e R s m args below meth c H1 locs (cells + 1) (slots + t.2) Q (F0 m (pc + n) lsm (.ref q :: st'.map (pmL sv al)))) : W p l e R s m args below meth c H locs cells slots Q (F0 m pc lsm (st.map (pmL sv al))) := by
  have harr := pmWs_in pm_arr_ok
  cases ins
  case new i =>
    replace h := pm_if (show (if n = 3 then _ else none) = _ from h)
    obtain ⟨rfl, h⟩ := h
    cases hf : pmAt pmNewL (own, i) with
    | none => rw [hf] at h; cases h
    | some y =>
      obtain ⟨ci, hh⟩ := y
      rw [hf] at h
      replace h := pm_if h
      obtain ⟨h13, h⟩ := h
      cases h
      obtain ⟨-, g⟩ := pm_new_ok _ (pmAt_mem hf)
      have g := pmWs_in g
      exact va_new (ci := ci) (fs := pmFs (pmNew v (32 + T.length)) al ci (32 + T.length)) (C := pmCn ci) (T := pmTf ci) (N := pmN ci) hx hb hts (pm_lay h13) (pmTy ci) (pm_ty_ok h13) hown (hts _ (g _ (by simp))) (hts _ (g _ (by simp))) (hts _ (g _ (by simp))) hK.1 hM.1 hM.2.1 hS hA (pm_cl h13) (fun j hj => pm_fits_new h13 hj) hcells hslots hd (fun q H1 p1 p2 p3 => k q H1 (pm_done hM (pmCell_o h13) p1 p2) p3 hok)
  case newarray ty =>
    replace h := pm_if (show (if n = 2 then _ else none) = _ from h)
    obtain ⟨rfl, h⟩ := h
    replace h := pm1i_some h
    obtain ⟨z, r, rfl, h⟩ := h
    replace h := pm_if h
    obtain ⟨⟨z0, z1⟩, h⟩ := h
    have hz := pm_clamp z1
    have hr : ∀ x ∈ r, pmOk T.length x := fun x hx => hok x (List.mem_cons_of_mem _ hx)
    cases ty
    case int =>
      cases h
      refine va_newa (atype := .int) (ty := .int) (a0 := (z.toNatClampNeg, .inl (fun _ => 0))) (N' := z.toNatClampNeg) hx hb (hts (.arrayClass .int) (harr _ (by simp))) rfl hK.1 hM.1 hM.2.1 hS hA (fun cA' => rfl) (Int32.not_lt.mpr z0) rfl (by show _ * 4 ≤ _; omega) hcells hslots hd (fun q cA' H1 p0 p1 p2 p3 => ?_)
      have e1 : cA' = cA 0 := Option.some.inj (((p0.2 5 (cA', .int) rfl).2).symm.trans ((hK.1.2 0 (cA 0, .int) rfl).2))
      subst e1
      exact k q H1 (pm_done hM (by rw [pmCell_i, show (pmNew v (32 + T.length)).1 (32 + T.length) = fun _ => 0 from funext fun j => if_pos rfl]) p1 p2) p3 hr
    case long =>
      cases h
      refine va_newa (atype := .long) (ty := .long) (a0 := (z.toNatClampNeg, .inr (.inl (fun _ => 0)))) (N' := z.toNatClampNeg) hx hb (hts (.arrayClass .long) (harr _ (by simp))) rfl hK.1 hM.1 hM.2.1 hS hA (fun cA' => rfl) (Int32.not_lt.mpr z0) rfl (by show _ * 8 ≤ _; omega) hcells hslots hd (fun q cA' H1 p0 p1 p2 p3 => ?_)
      have e1 : cA' = cA 1 := Option.some.inj (((p0.2 5 (cA', .long) rfl).2).symm.trans ((hK.1.2 1 (cA 1, .long) rfl).2))
      subst e1
      exact k q H1 (pm_done hM (by rw [pmCell_l, show (pmNew v (32 + T.length)).2.1 (32 + T.length) = fun _ => 0 from funext fun j => if_pos rfl]) p1 p2) p3 hr
    all_goals (cases h)
  case anewarray i =>
    replace h := pm_if (show (if n = 3 then _ else none) = _ from h)
    obtain ⟨rfl, h⟩ := h
    replace h := pm1i_some h
    obtain ⟨z, r, rfl, h⟩ := h
    replace h := pm_if h
    obtain ⟨⟨z0, z1⟩, h⟩ := h
    have hz := pm_clamp z1
    have hr : ∀ x ∈ r, pmOk T.length x := fun x hx => hok x (List.mem_cons_of_mem _ hx)
    cases hf : pmAt pmAnwL (own, i) with
    | none => rw [hf] at h; cases h
    | some y =>
      obtain ⟨kk, ci, hh⟩ := y
      rw [hf] at h
      replace h := pm_if h
      obtain ⟨⟨k1, k2⟩, h⟩ := h
      cases h
      obtain ⟨-, -, g⟩ := pm_anw_ok _ (pmAt_mem hf)
      have hao : va_AO (pmCn (pmItem kk)) s := by
        rcases (show kk = 22 ∨ kk = 23 ∨ kk = 24 by omega) with rfl | rfl | rfl
        · exact hK.2.2.2.2.1.1
        · exact hK.2.2.2.2.1.2.1
        · exact hK.2.2.2.2.1.2.2
      refine va_newq (C := pmCn (pmItem kk)) (N' := z.toNatClampNeg) hx hb hown (hts _ (pmW_in g)) hao hK.1 hM.1 hM.2.1 hS hA (Int32.not_lt.mpr z0) rfl (by omega) hcells hslots hd (fun q cA' H1 p0 p1 p2 p3 => ?_)
      obtain ⟨kA, comp, -, -, -, f1⟩ := (p0.2 5 (cA', .object (pmCn (pmItem kk))) rfl).2
      obtain ⟨kA2, comp2, -, -, -, f2⟩ := (hK.1.2 (kk - 20) _ (pmTys_q cA k1 k2)).2
      have e1 : cA' = cA (kk - 20) := Option.some.inj (f1.symm.trans f2)
      subst e1
      exact k q H1 (pm_done hM (by rw [pmCell_q k1, show (fun j => ((pmNew v (32 + T.length)).2.2 (32 + T.length) j).map al) = fun _ => none from funext fun j => by rw [show (pmNew v (32 + T.length)).2.2 (32 + T.length) j = none from if_pos rfl]; rfl]) p1 p2) p3 hr
  all_goals (simp [pmMk] at h)
set_option maxHeartbeats 4000000 in
theorem sim_mem {d k' : Nat} {nm : String} {ins : Instr} {v' : pmV} (hs : sv.category = 1) (hx : p.tables.exec = Jvm.exec) (hb : c.code = cc) (hml : c.maxLocals = lsm.size) (hown : s.vm.findClass (pmCn own) = some m.cls) (hnm : nm = "<init>" → meth.name = "<init>") (hts : ∀ w ∈ pmWd, w.before args s = true) (hK : pmKs D cA adK s) (hHs : pmHs A sv adK adV b X s s.heap) (hal : pmAl adK adV b al) (hM : pmSim D cA A al T v H) (hS : va_S A s.heap H locs) (hR : d ≤ R.frames ∧ 60 * d ≤ R.locals ∧ cells ≤ R.cells ∧ slots ≤ R.slots)
    (h : pmMem X d own nm ins T v st = some (k', st', v')) (hok : ∀ x ∈ st, pmOk T.length x) (hd : decode cc pc = .ok (ins, k'))
    (k : ∀ (H1 : Heap) (locs1 : List Loc), pmSim D cA A al T v' H1 → va_S A s.heap H1 locs1 → (∀ x ∈ st', pmOk T.length x) → W p l e R s m args below meth c H1 locs1 cells slots Q (F0 m (pc + k') lsm (st'.map (pmL sv al)))) : W p l e R s m args below meth c H locs cells slots Q (F0 m pc lsm (st.map (pmL sv al))) := by
  cases ins
  case getfield i =>
    obtain ⟨q, h1, h2⟩ := pm_map (show (pmGet own i T v st).map _ = _ from h)
    cases h2
    exact sim_get hx hb hown hts hK hHs hal hM hS h1 hok hd (k H locs hM hS)
  case putfield i =>
    obtain ⟨q, h1, h2⟩ := pm_map (show (pmPut own i nm T v st).map _ = _ from h)
    cases h2
    exact sim_put hx hb hown hnm hts hK hM hS h1 hok hd k
  case getstatic i =>
    obtain ⟨q, h1, h2⟩ := pm_map (show (pmGst own i st).map _ = _ from h)
    cases h2
    exact sim_gst hx hb hown hts hHs hS h1 hok hd (k H locs hM hS)
  case arraylength =>
    obtain ⟨q, h1, h2⟩ := pm_map (show (pmAln X T st).map _ = _ from h)
    cases h2
    exact sim_aln hx hb hK hHs hal hM hS h1 hok hd (k H locs hM hS)
  case baload =>
    obtain ⟨q, h1, h2⟩ := pm_map (show (pmAld X .baload T v st).map _ = _ from h)
    cases h2
    exact sim_ald hx hb hK hHs hal hM hS h1 hok hd (k H locs hM hS)
  case iaload =>
    obtain ⟨q, h1, h2⟩ := pm_map (show (pmAld X .iaload T v st).map _ = _ from h)
    cases h2
    exact sim_ald hx hb hK hHs hal hM hS h1 hok hd (k H locs hM hS)
  case laload =>
    obtain ⟨q, h1, h2⟩ := pm_map (show (pmAld X .laload T v st).map _ = _ from h)
    cases h2
    exact sim_ald hx hb hK hHs hal hM hS h1 hok hd (k H locs hM hS)
  case aaload =>
    obtain ⟨q, h1, h2⟩ := pm_map (show (pmAld X .aaload T v st).map _ = _ from h)
    cases h2
    exact sim_ald hx hb hK hHs hal hM hS h1 hok hd (k H locs hM hS)
  case iastore =>
    obtain ⟨q, h1, h2⟩ := pm_map (show (pmAst .iastore T v st).map _ = _ from h)
    cases h2
    exact sim_ast hx hb hK hM hS h1 hok hd k
  case lastore =>
    obtain ⟨q, h1, h2⟩ := pm_map (show (pmAst .lastore T v st).map _ = _ from h)
    cases h2
    exact sim_ast hx hb hK hM hS h1 hok hd k
  case aastore =>
    obtain ⟨q, h1, h2⟩ := pm_map (show (pmAst .aastore T v st).map _ = _ from h)
    cases h2
    exact sim_ast hx hb hK hM hS h1 hok hd k
  case ldc i =>
    obtain ⟨q, h1, h2⟩ := pm_map (show (pmLdc own i st).map _ = _ from h)
    cases h2
    exact sim_ldc hx hb hown hts hK hal h1 hok hd (k H locs hM hS)
  case ldc2_w i =>
    obtain ⟨q, h1, h2⟩ := pm_map (show (pmAt pmLd2L (own, i)).map _ = _ from h)
    cases h2
    exact lv_ldc2 hx hb hown (hts _ (pmW_in (pm_ld2_ok _ (pmAt_mem h1)))) hd (k H locs hM hS (fun x hx => by
      rcases List.mem_cons.mp hx with rfl | hx
      · trivial
      · exact hok x hx))
  case instanceof i =>
    obtain ⟨q, h1, h2⟩ := pm_map (show (pmIs own i T st).map _ = _ from h)
    cases h2
    exact sim_is hx hb hown hts hK hM h1 hok hd (k H locs hM hS)
  case invokestatic i =>
    replace h := pm_if2 (show (if d = 0 then none else _) = _ from h)
    obtain ⟨h0, h⟩ := h
    have hR' : 1 ≤ R.frames ∧ 60 ≤ R.locals ∧ cells ≤ R.cells ∧ slots ≤ R.slots := ⟨by omega, by omega, hR.2.2.1, hR.2.2.2⟩
    cases hm : pmMath2 own i st with
    | some q =>
      rw [hm] at h
      cases h
      exact sim_math hs hx hb hml hown hts hR' hm hok hd (k H locs hM hS)
    | none =>
      rw [hm] at h
      obtain ⟨q, h1, h2⟩ := pm_map (show (pmCopy own i T v st).map _ = _ from h)
      cases h2
      exact sim_copy hs hx hb hml hown hts hK hM hS hR' h1 hok hd k
  case invokespecial i =>
    replace h := pm_if2 (show (if d = 0 then none else _) = _ from h)
    obtain ⟨h0, h⟩ := h
    cases hf : pmAt pmObL (own, i) with
    | none => rw [hf] at h; cases h
    | some y =>
      rw [hf] at h
      replace h := pm1r_some h
      obtain ⟨a, r, rfl, h⟩ := h
      replace h := pm_if h
      obtain ⟨⟨ha, hn⟩, h⟩ := h
      cases h
      have hfix := pmWs_in pm_fix_ok
      rw [List.map_cons, pmL_ref ha]
      exact W.objInit hx hb hown (hts _ (pmW_in (pm_ob_ok _ (pmAt_mem hf)))) (hts _ (hfix _ (by simp))) (hts _ (hfix _ (by simp))) rfl hml.symm rfl hd (by omega) (by rw [pmL_num hs]; show 2 * 0 + _ + _ ≤ _; omega) (k H locs hM hS (fun x hx => hok x (List.mem_cons_of_mem _ hx)))
  all_goals (simp [pmMem] at h)
end PMSTEP
