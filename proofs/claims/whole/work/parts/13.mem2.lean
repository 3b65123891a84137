/-! memory, second part: statics, rows, constants, kinds, library calls -/
theorem pmCell_i {cA : Nat → ClassId} {v : pmV} {al : Nat → Nat} {a n : Nat} : pmCell cA v al a (20, n) = .inl (cA 0, n, .inl (v.1 a)) := rfl
theorem pmCell_l {cA : Nat → ClassId} {v : pmV} {al : Nat → Nat} {a n : Nat} : pmCell cA v al a (21, n) = .inl (cA 1, n, .inr (.inl (v.2.1 a))) := rfl
theorem pmCell_q {cA : Nat → ClassId} {v : pmV} {al : Nat → Nat} {a k n : Nat} (h : 22 ≤ k) : pmCell cA v al a (k, n) = .inl (cA (k - 20), n, .inr (.inr (.inr (.inr (fun j => (v.2.2 a j).map al))))) := by
  unfold pmCell
  rw [if_neg (show ¬ k < 20 by omega), if_neg (show ¬ k = 20 by omega), if_neg (show ¬ k = 21 by omega)]
theorem pmTys_q (cA : Nat → ClassId) {k : Nat} (h1 : 22 ≤ k) (h2 : k < 25) : (pmTys cA)[k - 20]? = some (cA (k - 20), .object (pmCn (pmItem k))) := by
  rcases (show k = 22 ∨ k = 23 ∨ k = 24 by omega) with rfl | rfl | rfl <;> rfl
theorem pmRf_al {sv : Value} {al : Nat → Nat} {n : Nat} {v : pmV} (h : pmHo n v) (a j : Nat) : va_rf ((v.2.2 a j).map al) = pmL sv al (va_rf (v.2.2 a j)) ∧ pmOk n (va_rf (v.2.2 a j)) := by
  cases hr : v.2.2 a j with
  | none => exact ⟨rfl, trivial⟩
  | some r => exact ⟨(pmL_ref (h a j r hr).1).symm, (h a j r hr).2⟩
section PMMEM2
variable {p : Program} {l : Launch} {e : Env} {R : Room} {s : State} {m : MethodId} {args : Array Value} {below : List Frame} {meth : Method} {c : Code} {H : Heap} {locs : List Loc} {cells slots : Nat} {Q : State → Prop}
variable {cc : ByteArray} {pc own idx : Nat} {lsm : Array Slot} {sv : Value} {al : Nat → Nat} {D : va_G} {cA : Nat → ClassId} {A : Nat → Prop} {adK adV : Nat → Nat} {b : Nat} {X : pmX} {T : pmT} {v : pmV} {st st' : List Value}
theorem sim_gst (hx : p.tables.exec = Jvm.exec) (hb : c.code = cc) (hown : s.vm.findClass (pmCn own) = some m.cls) (hts : ∀ w ∈ pmWd, w.before args s = true) (hHs : pmHs A sv adK adV b X s s.heap) (hS : va_S A s.heap H locs)
    (h : pmGst own idx st = some st') (hok : ∀ x ∈ st, pmOk T.length x) (hd : decode cc pc = .ok (.getstatic idx, 3))
    (k : (∀ x ∈ st', pmOk T.length x) → W p l e R s m args below meth c H locs cells slots Q (F0 m (pc + 3) lsm (st'.map (pmL sv al)))) : W p l e R s m args below meth c H locs cells slots Q (F0 m pc lsm (st.map (pmL sv al))) := by
  have hstr := pmWs_in pm_str_ok
  unfold pmGst at h
  by_cases h1 : own = 20 ∧ idx = 38
  · rw [if_pos h1] at h
    cases h
    obtain ⟨rfl, rfl⟩ := h1
    exact va_gets hx hb hHs.2.1 hS hown (hts _ (hstr _ (by simp))) (fun _ q => q) hd (k fun x hx => by
      rcases List.mem_cons.mp hx with rfl | hx
      · trivial
      · exact hok x hx)
  · rw [if_neg h1] at h
    obtain ⟨h2, h⟩ := pm_if h
    cases h
    obtain ⟨rfl, rfl⟩ := h2
    exact va_gets hx hb hHs.2.2.1 hS hown (hts _ (hstr _ (by simp))) (fun _ q => q) hd (k fun x hx => by
      rcases List.mem_cons.mp hx with rfl | hx
      · show (30 : Nat) < 32 + T.length; omega
      · exact hok x hx)
set_option maxHeartbeats 4000000 in
theorem sim_aln (hx : p.tables.exec = Jvm.exec) (hb : c.code = cc) (hK : pmKs D cA adK s) (hHs : pmHs A sv adK adV b X s s.heap) (hal : pmAl adK adV b al) (hM : pmSim D cA A al T v H) (hS : va_S A s.heap H locs)
    (h : pmAln X T st = some st') (hok : ∀ x ∈ st, pmOk T.length x) (hd : decode cc pc = .ok (.arraylength, 1))
    (k : (∀ x ∈ st', pmOk T.length x) → W p l e R s m args below meth c H locs cells slots Q (F0 m (pc + 1) lsm (st'.map (pmL sv al)))) : W p l e R s m args below meth c H locs cells slots Q (F0 m pc lsm (st.map (pmL sv al))) := by
  replace h := pm1r_some (show pm1r st _ = _ from h)
  obtain ⟨a, r, rfl, h⟩ := h
  have hr : ∀ (z : Int32), ∀ x ∈ Value.int z :: r, pmOk T.length x := fun z x hx => by
    rcases List.mem_cons.mp hx with rfl | hx
    · trivial
    · exact hok x (List.mem_cons_of_mem _ hx)
  by_cases h30 : a < 30
  · rw [if_pos h30] at h
    obtain ⟨h1, h⟩ := pm_if h
    cases h
    obtain ⟨i, rfl⟩ : ∃ i, a = 2 * i + 1 := ⟨a / 2, by omega⟩
    have hi : i < 14 := by omega
    have e0 : (2 * i + 1) / 2 = i := by omega
    obtain ⟨-, -, -, hT⟩ := hHs.1.1 i hi
    have e1 : pmL sv al (.ref (2 * i + 1)) = .ref (adV i) := pmL_at (by omega) (hal.1 i hi).2
    rw [List.map_cons, e1]
    exact va_tlen hx hb hT hS (by rw [e0]; rfl) hd (k (hr _))
  · rw [if_neg h30] at h
    by_cases h31 : a = 31
    · rw [if_pos h31] at h
      cases h
      subst h31
      have e1 : pmL sv al (.ref 31) = .ref b := pmL_at (by omega) hal.2
      rw [List.map_cons, e1]
      exact va_slen hx hb hHs.2.2.2.1 hHs.2.2.2.2.1 hHs.2.2.2.2.2 hS hd (k (hr _))
    · rw [if_neg h31] at h
      obtain ⟨h32, h⟩ := pm_if2 h
      have ha : 32 ≤ a := by omega
      cases hT : T[a - 32]? with
      | none => rw [hT] at h; cases h
      | some q =>
        obtain ⟨kk, n⟩ := q
        rw [hT] at h
        obtain ⟨⟨g1, g2⟩, h⟩ := pm_if h
        cases h
        have he := pmWo_a (cA := cA) (al := al) (v := v) ha hT
        rw [List.map_cons, pmL_ref ha]
        rcases (show kk = 20 ∨ kk = 21 ∨ 22 ≤ kk by omega) with rfl | rfl | g3
        · rw [pmCell_i] at he
          exact va_alen hx hb hK.1 hM.1 (a - 32) 0 he rfl rfl hd (k (hr _))
        · rw [pmCell_l] at he
          exact va_alen hx hb hK.1 hM.1 (a - 32) 1 he rfl rfl hd (k (hr _))
        · rw [pmCell_q g3] at he
          exact va_alen hx hb hK.1 hM.1 (a - 32) (kk - 20) he (pmTys_q cA g3 g2) rfl hd (k (hr _))
set_option maxHeartbeats 4000000 in
theorem sim_ald {ins : Instr} (hx : p.tables.exec = Jvm.exec) (hb : c.code = cc) (hK : pmKs D cA adK s) (hHs : pmHs A sv adK adV b X s s.heap) (hal : pmAl adK adV b al) (hM : pmSim D cA A al T v H) (hS : va_S A s.heap H locs)
    (h : pmAld X ins T v st = some st') (hok : ∀ x ∈ st, pmOk T.length x) (hd : decode cc pc = .ok (ins, 1))
    (k : (∀ x ∈ st', pmOk T.length x) → W p l e R s m args below meth c H locs cells slots Q (F0 m (pc + 1) lsm (st'.map (pmL sv al)))) : W p l e R s m args below meth c H locs cells slots Q (F0 m pc lsm (st.map (pmL sv al))) := by
  replace h := pmir_some (show pmir st _ = _ from h)
  obtain ⟨a, i, r, rfl, h⟩ := h
  have hr : ∀ (z : Value), pmOk T.length z → ∀ x ∈ z :: r, pmOk T.length x := fun z hz x hx => by
    rcases List.mem_cons.mp hx with rfl | hx
    · exact hz
    · exact hok x (List.mem_cons_of_mem _ (List.mem_cons_of_mem _ hx))
  split at h
  · obtain ⟨h1, h⟩ := pm_if h
    cases h
    obtain ⟨j, rfl⟩ : ∃ j, a = 2 * j + 1 := ⟨a / 2, by omega⟩
    have hj : j < 14 := by omega
    have e0 : (2 * j + 1) / 2 = j := by omega
    rw [e0] at h1
    obtain ⟨-, -, -, hT⟩ := hHs.1.1 j hj
    have e1 : pmL sv al (.ref (2 * j + 1)) = .ref (adV j) := pmL_at (by omega) (hal.1 j hj).2
    rw [List.map_cons, List.map_cons, e1]
    exact va_tb hx hb hT hS (pm_in h1.2.2) (by rw [e0]; rfl) hd (k (hr _ trivial))
  · by_cases h31 : a = 31
    · rw [if_pos h31] at h
      obtain ⟨h1, h⟩ := pm_if h
      cases h
      subst h31
      have e1 : pmL sv al (.ref 31) = .ref b := pmL_at (by omega) hal.2
      rw [List.map_cons, List.map_cons, e1]
      exact va_sld hx hb hHs.2.2.2.1 hHs.2.2.2.2.1 hHs.2.2.2.2.2 hS (pm_in h1) hd (k (hr _ trivial))
    · rw [if_neg h31] at h
      obtain ⟨h32, h⟩ := pm_if2 h
      have ha : 32 ≤ a := by omega
      cases hT : T[a - 32]? with
      | none => rw [hT] at h; cases h
      | some q =>
        obtain ⟨kk, n⟩ := q
        rw [hT] at h
        replace h := pm_if h
        obtain ⟨⟨rfl, g2⟩, h⟩ := h
        cases h
        have he := pmWo_a (cA := cA) (al := al) (v := v) ha hT
        rw [List.map_cons, List.map_cons, pmL_ref ha]
        exact va_iald hx hb hK.1 hM.1 (a - 32) 0 he rfl (pm_in g2) hd (k (hr _ trivial))
  · obtain ⟨h32, h⟩ := pm_if2 h
    have ha : 32 ≤ a := by omega
    cases hT : T[a - 32]? with
    | none => rw [hT] at h; cases h
    | some q =>
      obtain ⟨kk, n⟩ := q
      rw [hT] at h
      replace h := pm_if h
      obtain ⟨⟨rfl, g2⟩, h⟩ := h
      cases h
      have he := pmWo_a (cA := cA) (al := al) (v := v) ha hT
      rw [List.map_cons, List.map_cons, pmL_ref ha]
      exact va_lald hx hb hK.1 hM.1 (a - 32) 1 he rfl (pm_in g2) hd (k (hr _ trivial))
  · obtain ⟨h32, h⟩ := pm_if2 h
    have ha : 32 ≤ a := by omega
    cases hT : T[a - 32]? with
    | none => rw [hT] at h; cases h
    | some q =>
      obtain ⟨kk, n⟩ := q
      rw [hT] at h
      obtain ⟨⟨g1, g2, g3⟩, h⟩ := pm_if h
      cases h
      have he := pmWo_a (cA := cA) (al := al) (v := v) ha hT
      rw [pmCell_q g1] at he
      obtain ⟨e1, e2⟩ := pmRf_al (sv := sv) (al := al) hM.2.2 a i.toNatClampNeg
      have k := k (hr _ e2)
      rw [List.map_cons, ← e1] at k
      rw [List.map_cons, List.map_cons, pmL_ref ha]
      exact va_aldq hx hb hK.1 hM.1 (a - 32) (kk - 20) he (pmTys_q cA g1 g2) (pm_in g3) hd k
  · cases h
set_option maxHeartbeats 4000000 in
theorem sim_ast {ins : Instr} {v' : pmV} (hx : p.tables.exec = Jvm.exec) (hb : c.code = cc) (hK : pmKs D cA adK s) (hM : pmSim D cA A al T v H) (hS : va_S A s.heap H locs)
    (h : pmAst ins T v st = some (st', v')) (hok : ∀ x ∈ st, pmOk T.length x) (hd : decode cc pc = .ok (ins, 1))
    (k : ∀ (H1 : Heap) (locs1 : List Loc), pmSim D cA A al T v' H1 → va_S A s.heap H1 locs1 → (∀ x ∈ st', pmOk T.length x) → W p l e R s m args below meth c H1 locs1 cells slots Q (F0 m (pc + 1) lsm (st'.map (pmL sv al)))) : W p l e R s m args below meth c H locs cells slots Q (F0 m pc lsm (st.map (pmL sv al))) := by
  unfold pmAst at h
  split at h
  · rename_i x i a r
    obtain ⟨h32, h⟩ := pm_if2 h
    have ha : (32 : Nat) ≤ a := Nat.not_lt.mp h32
    cases hT : T[a - 32]? with
    | none => rw [hT] at h; cases h
    | some q =>
      obtain ⟨kk, n⟩ := q
      rw [hT] at h
      replace h := pm_if h
      obtain ⟨⟨rfl, g2⟩, h⟩ := h
      cases h
      have he := pmWo_a (cA := cA) (al := al) (v := v) ha hT
      have hs2 := pmWo_set (cA := cA) (al := al) ha hT (pmEqOff_uI v a i.toNatClampNeg x)
      rw [pmCell_i, show (uI v a i.toNatClampNeg x).1 a = upd (v.1 a) i.toNatClampNeg x by funext j; simp [uI, upd]] at hs2
      rw [List.map_cons, List.map_cons, List.map_cons, pmL_ref ha]
      exact va_iast hx hb hK.1 hM.1 hM.2.1 hS (a - 32) 0 he rfl (pm_in g2) hd (fun H1 locs1 p1 p2 p3 => by
        rw [← hs2] at p1 p2
        exact k H1 locs1 ⟨p1, p2, hM.2.2⟩ p3 (fun y hy => hok y (List.mem_cons_of_mem _ (List.mem_cons_of_mem _ (List.mem_cons_of_mem _ hy)))))
  · rename_i x i a r
    obtain ⟨h32, h⟩ := pm_if2 h
    have ha : (32 : Nat) ≤ a := Nat.not_lt.mp h32
    cases hT : T[a - 32]? with
    | none => rw [hT] at h; cases h
    | some q =>
      obtain ⟨kk, n⟩ := q
      rw [hT] at h
      replace h := pm_if h
      obtain ⟨⟨rfl, g2⟩, h⟩ := h
      cases h
      have he := pmWo_a (cA := cA) (al := al) (v := v) ha hT
      have hs2 := pmWo_set (cA := cA) (al := al) ha hT (pmEqOff_uL v a i.toNatClampNeg x)
      rw [pmCell_l, show (uL v a i.toNatClampNeg x).2.1 a = vp_updL (v.2.1 a) i.toNatClampNeg x by funext j; simp [uL, vp_updL]] at hs2
      rw [List.map_cons, List.map_cons, List.map_cons, pmL_ref ha]
      exact va_last hx hb hK.1 hM.1 hM.2.1 hS (a - 32) 1 he rfl (pm_in g2) hd (fun H1 locs1 p1 p2 p3 => by
        rw [← hs2] at p1 p2
        exact k H1 locs1 ⟨p1, p2, hM.2.2⟩ p3 (fun y hy => hok y (List.mem_cons_of_mem _ (List.mem_cons_of_mem _ (List.mem_cons_of_mem _ hy)))))
  · rename_i x i a r
    obtain ⟨h32, h⟩ := pm_if2 h
    have ha : (32 : Nat) ≤ a := Nat.not_lt.mp (fun q => h32 (Or.inl q))
    have hxx : (32 : Nat) ≤ x := Nat.not_lt.mp (fun q => h32 (Or.inr q))
    cases hT : T[a - 32]? with
    | none => rw [hT] at h; cases h
    | some q =>
      obtain ⟨kk, n⟩ := q
      cases hT2 : T[x - 32]? with
      | none => rw [hT, hT2] at h; cases h
      | some q2 =>
        obtain ⟨ci, n2⟩ := q2
        rw [hT, hT2] at h
        obtain ⟨⟨g1, g2, g3, g4, g5⟩, h⟩ := pm_if h
        cases h
        have he := pmWo_a (cA := cA) (al := al) (v := v) ha hT
        rw [pmCell_q g1] at he
        have he2 := pmWo_a (cA := cA) (al := al) (v := v) hxx hT2
        rw [pmCell_o g4] at he2
        have hs2 := pmWo_set (cA := cA) (al := al) ha hT (pmEqOff_uR v a i.toNatClampNeg (some x))
        rw [pmCell_q g1, show (fun j => ((uR v a i.toNatClampNeg (some x)).2.2 a j).map al) = va_up (fun j => (v.2.2 a j).map al) i.toNatClampNeg (some (al x)) by
          funext j
          by_cases e : j = i.toNatClampNeg
          · subst e; simp [uR, va_up]
          · simp [uR, va_up, e]] at hs2
        have hx0 : pmOk T.length (.ref x) := hok _ List.mem_cons_self
        have k2 : ∀ (H1 : Heap) (locs1 : List Loc), va_P D vwCl ((pmWo cA al T v).set (a - 32) (al a, .inl (cA (kk - 20), n, .inr (.inr (.inr (.inr (va_up (fun j => (v.2.2 a j).map al) i.toNatClampNeg (some (al x))))))))) H1 → va_D A ((pmWo cA al T v).set (a - 32) (al a, .inl (cA (kk - 20), n, .inr (.inr (.inr (.inr (va_up (fun j => (v.2.2 a j).map al) i.toNatClampNeg (some (al x))))))))) → va_S A s.heap H1 locs1 → W p l e R s m args below meth c H1 locs1 cells slots Q (F0 m (pc + 1) lsm (st'.map (pmL sv al))) := by
          intro H1 locs1 p1 p2 p3
          rw [← hs2] at p1 p2
          exact k H1 locs1 ⟨p1, p2, pmHo_uR hM.2.2 _ _ (fun r hr => by cases hr; exact ⟨hxx, hx0⟩)⟩ p3 (fun y hy => hok y (List.mem_cons_of_mem _ (List.mem_cons_of_mem _ (List.mem_cons_of_mem _ hy))))
        rw [List.map_cons, List.map_cons, List.map_cons, pmL_ref ha, pmL_ref hxx]
        rcases g5 with rfl | g5
        · exact va_astq (r := (pmCn (pmItem kk), pmTf (pmItem kk), pmN (pmItem kk))) hx hb hK.1 hM.1 hM.2.1 hS (a - 32) (kk - 20) (x - 32) (pmItem kk) he (pmTys_q cA g1 g2) he2 (pm_cl g4) (pm_in g3) hd k2
        · exact va_astqO (r := (pmCn ci, pmTf ci, pmN ci)) hx hb hK.1 hM.1 hM.2.1 hS (a - 32) (kk - 20) (x - 32) ci he (pmTys_q cA g1 g2) (hK.2.2.1 _ g5) he2 (pm_cl g4) (pm_in g3) hd k2
  · cases h
theorem sim_ldc (hx : p.tables.exec = Jvm.exec) (hb : c.code = cc) (hown : s.vm.findClass (pmCn own) = some m.cls) (hts : ∀ w ∈ pmWd, w.before args s = true) (hK : pmKs D cA adK s) (hal : pmAl adK adV b al)
    (h : pmLdc own idx st = some st') (hok : ∀ x ∈ st, pmOk T.length x) (hd : decode cc pc = .ok (.ldc idx, 2))
    (k : (∀ x ∈ st', pmOk T.length x) → W p l e R s m args below meth c H locs cells slots Q (F0 m (pc + 2) lsm (st'.map (pmL sv al)))) : W p l e R s m args below meth c H locs cells slots Q (F0 m pc lsm (st.map (pmL sv al))) := by
  have hr : ∀ (z : Value), pmOk T.length z → ∀ x ∈ z :: st, pmOk T.length x := fun z hz x hx => by
    rcases List.mem_cons.mp hx with rfl | hx
    · exact hz
    · exact hok x hx
  unfold pmLdc at h
  split at h
  · rename_i z q hf
    cases h
    exact lv_ldc hx hb hown (hts _ (pmW_in (pm_ldc_ok _ (pmAt_mem hf)))) hd (k (hr _ trivial))
  · split at h
    · rename_i i hi
      cases h
      obtain ⟨h14, q, hq, rfl, rfl⟩ := pmStrAt_spec hi
      have e1 : pmL sv al (.ref (2 * i)) = .ref (adK i) := pmL_at (by omega) (hal.1 i h14).1
      have k := k (hr (.ref (2 * i)) (by show 2 * i < _; omega))
      rw [List.map_cons, e1] at k
      exact va_ldcS hx hb hown (hK.2.2.2.2.2 i q hq) hd k
    · cases h
theorem sim_is (hx : p.tables.exec = Jvm.exec) (hb : c.code = cc) (hown : s.vm.findClass (pmCn own) = some m.cls) (hts : ∀ w ∈ pmWd, w.before args s = true) (hK : pmKs D cA adK s) (hM : pmSim D cA A al T v H)
    (h : pmIs own idx T st = some st') (hok : ∀ x ∈ st, pmOk T.length x) (hd : decode cc pc = .ok (.instanceof idx, 3))
    (k : (∀ x ∈ st', pmOk T.length x) → W p l e R s m args below meth c H locs cells slots Q (F0 m (pc + 3) lsm (st'.map (pmL sv al)))) : W p l e R s m args below meth c H locs cells slots Q (F0 m pc lsm (st.map (pmL sv al))) := by
  replace h := pm1r_some (show pm1r st _ = _ from h)
  obtain ⟨a, r, rfl, h⟩ := h
  have hr : ∀ (z : Int32), ∀ x ∈ Value.int z :: r, pmOk T.length x := fun z x hx => by
    rcases List.mem_cons.mp hx with rfl | hx
    · trivial
    · exact hok x (List.mem_cons_of_mem _ hx)
  obtain ⟨h32, h⟩ := pm_if2 h
  have ha : 32 ≤ a := by omega
  cases hT : T[a - 32]? with
  | none => rw [hT] at h; cases h
  | some q =>
    obtain ⟨ci, n⟩ := q
    rw [hT] at h
    dsimp only at h
    cases hf : pmAt pmIsL (own, idx) with
    | none => rw [hf] at h; cases h
    | some y =>
      obtain ⟨tg, ys, ns, hh⟩ := y
      rw [hf] at h
      obtain ⟨g1, g2, g3, g4⟩ := pm_is_ok _ (pmAt_mem hf)
      have he := pmWo_a (cA := cA) (al := al) (v := v) ha hT
      rw [List.map_cons, pmL_ref ha]
      dsimp only at h
      by_cases hy : ci ∈ ys
      · rw [if_pos hy] at h
        cases h
        obtain ⟨q1, q2⟩ := g3 ci hy
        rw [pmCell_o q1] at he
        have hrc := va_recv hK.1 hM.1 (pm_cl q1) he
        rcases q2 with rfl | q2
        · exact va_instS hx hb hown (hts _ (pmW_in g1)) (hK.1.1 _ _ (pm_cl q1)).2 hrc hd (k (hr _))
        · exact va_instY hx hb hown (hts _ (pmW_in g1)) (hK.2.2.1 _ q2) hrc hd (k (hr _))
      · rw [if_neg hy] at h
        obtain ⟨hn, h⟩ := pm_if h
        cases h
        obtain ⟨q1, q2⟩ := g4 ci hn
        rw [pmCell_o q1] at he
        have hrc := va_recv hK.1 hM.1 (pm_cl q1) he
        exact va_instNo hx hb hown (hts _ (pmW_in g1)) (hK.2.2.2.1 _ q2) hrc hd (k (hr _))
theorem sim_math (hs : sv.category = 1) (hx : p.tables.exec = Jvm.exec) (hb : c.code = cc) (hml : c.maxLocals = lsm.size) (hown : s.vm.findClass (pmCn own) = some m.cls) (hts : ∀ w ∈ pmWd, w.before args s = true) (hR : 1 ≤ R.frames ∧ 60 ≤ R.locals ∧ cells ≤ R.cells ∧ slots ≤ R.slots)
    (h : pmMath2 own idx st = some st') (hok : ∀ x ∈ st, pmOk T.length x) (hd : decode cc pc = .ok (.invokestatic idx, 3))
    (k : (∀ x ∈ st', pmOk T.length x) → W p l e R s m args below meth c H locs cells slots Q (F0 m (pc + 3) lsm (st'.map (pmL sv al)))) : W p l e R s m args below meth c H locs cells slots Q (F0 m pc lsm (st.map (pmL sv al))) := by
  have hfix := pmWs_in pm_fix_ok
  have harr := pmWs_in pm_arr_ok
  have main : ∀ {z : Int32} {r : List Value}, (∀ x ∈ r, pmOk T.length x) → ∀ x ∈ Value.int z :: r, pmOk T.length x := fun hr x hx => by
    rcases List.mem_cons.mp hx with rfl | hx
    · trivial
    · exact hr x hx
  unfold pmMath2 at h
  split at h
  · rename_i q hf
    replace h := pm2i_some h
    obtain ⟨a, b, r, rfl, h⟩ := h
    obtain ⟨h1, h⟩ := pm_if h
    cases h
    exact va_mmax hx hb hml hown (hts _ (pmW_in (pm_mx_ok _ (pmAt_mem hf)))) (hts _ (hfix _ (by simp))) (hts _ (hfix _ (by simp))) (hts _ (harr _ (by simp))) hR.1 (by rw [pmL_num hs]; omega) hR.2.2.1 hR.2.2.2 hd (k (main fun x hx => hok x (List.mem_cons_of_mem _ (List.mem_cons_of_mem _ hx))))
  · split at h
    · rename_i q hf
      replace h := pm2i_some h
      obtain ⟨a, b, r, rfl, h⟩ := h
      obtain ⟨h1, h⟩ := pm_if h
      cases h
      exact va_mmin hx hb hml hown (hts _ (pmW_in (pm_mn_ok _ (pmAt_mem hf)))) (hts _ (hfix _ (by simp))) (hts _ (hfix _ (by simp))) (hts _ (harr _ (by simp))) hR.1 (by rw [pmL_num hs]; omega) hR.2.2.1 hR.2.2.2 hd (k (main fun x hx => hok x (List.mem_cons_of_mem _ (List.mem_cons_of_mem _ hx))))
    · cases h
theorem pm_nfw : nativeFrameWords "java/lang/System" "arraycopy" 5 + 11 ≤ 50 := by decide +kernel
set_option maxHeartbeats 4000000 in
theorem sim_copy {v' : pmV} (hs : sv.category = 1) (hx : p.tables.exec = Jvm.exec) (hb : c.code = cc) (hml : c.maxLocals = lsm.size) (hown : s.vm.findClass (pmCn own) = some m.cls) (hts : ∀ w ∈ pmWd, w.before args s = true) (hK : pmKs D cA adK s) (hM : pmSim D cA A al T v H) (hS : va_S A s.heap H locs) (hR : 1 ≤ R.frames ∧ 60 ≤ R.locals ∧ cells ≤ R.cells ∧ slots ≤ R.slots)
    (h : pmCopy own idx T v st = some (st', v')) (hok : ∀ x ∈ st, pmOk T.length x) (hd : decode cc pc = .ok (.invokestatic idx, 3))
    (k : ∀ (H1 : Heap) (locs1 : List Loc), pmSim D cA A al T v' H1 → va_S A s.heap H1 locs1 → (∀ x ∈ st', pmOk T.length x) → W p l e R s m args below meth c H1 locs1 cells slots Q (F0 m (pc + 3) lsm (st'.map (pmL sv al)))) : W p l e R s m args below meth c H locs cells slots Q (F0 m pc lsm (st.map (pmL sv al))) := by
  have hfix := pmWs_in pm_fix_ok
  unfold pmCopy at h
  split at h
  · rename_i q hf
    split at h
    · rename_i n dp a sp a0 r
      obtain ⟨h32, h⟩ := pm_if2 h
      have ha : (32 : Nat) ≤ a := Nat.not_lt.mp (fun q => h32 (Or.inl q))
      have ha0 : (32 : Nat) ≤ a0 := Nat.not_lt.mp (fun q => h32 (Or.inr q))
      cases hT : T[a - 32]? with
      | none => rw [hT] at h; cases h
      | some q =>
        obtain ⟨kk, n1⟩ := q
        cases hT2 : T[a0 - 32]? with
        | none => rw [hT, hT2] at h; cases h
        | some q2 =>
          obtain ⟨k0, n0⟩ := q2
          rw [hT, hT2] at h
          replace h := pm_if h
          obtain ⟨⟨rfl, rfl, g1, g2, g3, g4, g5, g6⟩, h⟩ := h
          cases h
          have he := pmWo_a (cA := cA) (al := al) (v := v) ha hT
          have he2 := pmWo_a (cA := cA) (al := al) (v := v) ha0 hT2
          rw [pmCell_i] at he he2
          have hs2 := pmWo_set (cA := cA) (al := al) ha hT (pmEqOff_uA v a (va_cpy (v.1 a0) (v.1 a) sp.toNatClampNeg dp.toNatClampNeg n.toNatClampNeg))
          rw [pmCell_i, show (uA v a (va_cpy (v.1 a0) (v.1 a) sp.toNatClampNeg dp.toNatClampNeg n.toNatClampNeg)).1 a = va_cpy (v.1 a0) (v.1 a) sp.toNatClampNeg dp.toNatClampNeg n.toNatClampNeg by funext j; simp [uA]] at hs2
          rw [List.map_cons, List.map_cons, List.map_cons, List.map_cons, List.map_cons, pmL_ref ha, pmL_ref ha0]
          exact va_copyi hx hb hml hown (hts _ (pmW_in (pm_ac_ok _ (pmAt_mem hf)))) (hts _ (hfix _ (by simp))) (hts _ (hfix _ (by simp))) (hts _ (hfix _ (by simp))) hK.1 hM.1 hM.2.1 hS (a0 - 32) (a - 32) 0 0 he2 he rfl rfl rfl (Int32.not_lt.mpr g1) (Int32.not_lt.mpr g2) (Int32.not_lt.mpr g3) g4 g5 (fun _ _ => rfl) hR.1 (by have := pm_nfw; rw [pmL_num hs]; omega) hd (fun H1 locs1 p1 p2 p3 => by
            rw [← hs2] at p1 p2
            exact k H1 locs1 ⟨p1, p2, hM.2.2⟩ p3 (fun y hy => hok y (List.mem_cons_of_mem _ (List.mem_cons_of_mem _ (List.mem_cons_of_mem _ (List.mem_cons_of_mem _ (List.mem_cons_of_mem _ hy)))))))
    · cases h
  · cases h
end PMMEM2
