/-! memory: the rows of the kit behind each word of the pure machine -/
def pmTys (cA : Nat → ClassId) : List (ClassId × FieldType) := [(cA 0, .int), (cA 1, .long), (cA 2, .object "LanesTurn$Lane"), (cA 3, .object "LanesTurn$Text"), (cA 4, .object "LanesTurn$Sheet")]
/-- what of the tables must be carried by hand -/
def pmKs (D : va_G) (cA : Nat → ClassId) (adK : Nat → Nat) (U : State) : Prop :=
  va_K D vwCl (pmTys cA) U ∧ (∀ o i y h, Jvm.Cond.methodLinkNest o i y h ∈ pmNest → va_Nw (.methodLinkNest o i y h) U) ∧ (∀ q ∈ pmCast, va_Nw (.castable (pmCn q.1) (pmCn q.2)) U) ∧ (∀ q ∈ pmNcL, va_Nc (pmCn q.1) (pmCn q.2) U) ∧ (va_AO (pmCn 3) U ∧ va_AO (pmCn 9) U ∧ va_AO (pmCn 6) U) ∧ ∀ (i : Nat) (q : Nat × Nat × String), pmStrL[i]? = some q → vk_R (pmCn q.1) q.2.1 q.2.2 (adK i) U
def pmHs (A : Nat → Prop) (sv : Value) (adK adV : Nat → Nat) (b : Nat) (X : pmX) (U : State) (H : Heap) : Prop :=
  vk_S 14 pmLenL pmByt adK adV A U H ∧ va_Z "java/lang/String" "COMPACT_STRINGS" "Z" (.int 1) A U H ∧ va_Z "jdk/internal/util/Preconditions" "SIOOBE_FORMATTER" "Ljava/util/function/BiFunction;" sv A U H ∧ va_X b X.1 X.2 U H ∧ b < H.size ∧ ¬ A b
def pmAl (adK adV : Nat → Nat) (b : Nat) (al : Nat → Nat) : Prop := (∀ i, i < 14 → al (2 * i) = adK i ∧ al (2 * i + 1) = adV i) ∧ al 31 = b
theorem pmKs.warm {D : va_G} {cA : Nat → ClassId} {adK : Nat → Nat} {s U : State} (hW : s.WarmedH U.vm) (h : pmKs D cA adK s) : pmKs D cA adK U := by
  obtain ⟨h1, h2, h3, h4, ⟨h5, h6, h7⟩, h8⟩ := h
  exact ⟨va_K.moved hW.alike h1, fun o i y x hm => va_Nw.warmM hW (h2 o i y x hm), fun q hq => va_Nw.warmC hW (h3 q hq), fun q hq => va_Nc.moved hW.alike (h4 q hq), ⟨va_AO.moved hW.alike h5, va_AO.moved hW.alike h6, va_AO.moved hW.alike h7⟩, fun i q hq => vk_R.warm hW (h8 i q hq)⟩
theorem pmHs.moved {A : Nat → Prop} {sv : Value} {adK adV : Nat → Nat} {b : Nat} {X : pmX} {u U : State} {H : Heap} (hvm : u.vm.Alike U.vm) (h : pmHs A sv adK adV b X u H) : pmHs A sv adK adV b X U H := by
  obtain ⟨h1, h2, h3, h4, h5⟩ := h
  exact ⟨vk_S.moved hvm h1, va_Z.moved hvm h2, va_Z.moved hvm h3, va_X.moved hvm h4, h5⟩
theorem pmHs.kept {A : Nat → Prop} {sv : Value} {adK adV : Nat → Nat} {b : Nat} {X : pmX} {U : State} {H H1 : Heap} (h : pmHs A sv adK adV b X U H) (hz : H.size ≤ H1.size) (hq : ∀ a : Nat, a < H.size → ¬ A a → H1[a]? = H[a]?) : pmHs A sv adK adV b X U H1 := by
  obtain ⟨h1, h2, h3, h4, h5, h6⟩ := h
  exact ⟨vk_S.kept h1 hq, va_Z.kept h2 hq, va_Z.kept h3 hq, va_X.kept h4 (hq b h5 h6), Nat.lt_of_lt_of_le h5 hz, h6⟩
/-- the pure memory stands on the real heap -/
def pmSim (D : va_G) (cA : Nat → ClassId) (A : Nat → Prop) (al : Nat → Nat) (T : pmT) (v : pmV) (H : Heap) : Prop := va_P D vwCl (pmWo cA al T v) H ∧ va_D A (pmWo cA al T v) ∧ pmHo T.length v
theorem pm_in {i : Int32} {n : Nat} (h : pmIn i n = true) : vp_in i n := by
  unfold pmIn at h
  rw [Bool.and_eq_true, decide_eq_true_eq, decide_eq_true_eq] at h
  intro q
  rcases q with q | q
  · exact absurd h.1 (Int32.not_le.mpr q)
  · omega
theorem pmWr_spec {n : Nat} {sv : Value} {al : Nat → Nat} {v v' : pmV} {ty : FieldType} {a k : Nat} {x : Value} (h : pmWr v ty a k x = some v') :
    narrow ty (pmL sv al x) = pmL sv al x ∧ fits ty (pmL sv al x) = true ∧ pmEqOff a v v' ∧ pmFv v' al ty a k = pmL sv al x ∧ (∀ (ty' : FieldType) (j : Nat), j ≠ k → pmFv v' al ty' a j = pmFv v al ty' a j) ∧ (pmHo n v → pmOk n x → pmHo n v') := by
  have hI : ∀ (y : Int32) (ty' : FieldType) (j : Nat), j ≠ k → pmFv (uI v a k y) al ty' a j = pmFv v al ty' a j := fun y ty' j hj => by
    unfold pmFv
    cases ty' <;> simp [uI, hj]
  have hL : ∀ (y : Int64) (ty' : FieldType) (j : Nat), j ≠ k → pmFv (uL v a k y) al ty' a j = pmFv v al ty' a j := fun y ty' j hj => by
    unfold pmFv
    cases ty' <;> simp [uL, hj]
  have hR : ∀ (y : Option Nat) (ty' : FieldType) (j : Nat), j ≠ k → pmFv (uR v a k y) al ty' a j = pmFv v al ty' a j := fun y ty' j hj => by
    unfold pmFv
    cases ty' <;> simp [uR, hj]
  unfold pmWr at h
  split at h
  · cases h
    exact ⟨rfl, rfl, pmEqOff_uI _ _ _ _, by simp [pmFv, uI, pmL], hI _, fun h1 _ => h1⟩
  · rename_i y
    obtain ⟨h1, h⟩ := pm_if h
    cases h
    refine ⟨?_, ?_, pmEqOff_uI _ _ _ _, by simp [pmFv, uI, pmL], hI _, fun h1 _ => h1⟩
    · rcases h1 with rfl | rfl <;> rfl
    · rcases h1 with rfl | rfl <;> rfl
  · cases h
    exact ⟨rfl, rfl, pmEqOff_uL _ _ _ _, by simp [pmFv, uL, pmL], hL _, fun h1 _ => h1⟩
  · rename_i y r
    obtain ⟨h1, h⟩ := pm_if h
    cases h
    rw [pmL_ref h1]
    exact ⟨rfl, rfl, pmEqOff_uR _ _ _ _, by simp [pmFv, uR, va_rf], hR _, fun h2 h3 => pmHo_uR h2 _ _ (fun r hr => by cases hr; exact ⟨h1, h3⟩)⟩
  · cases h
    exact ⟨rfl, rfl, pmEqOff_uR _ _ _ _, by simp [pmFv, uR, va_rf, pmL], hR _, fun h2 _ => pmHo_uR h2 _ _ (fun r hr => by cases hr)⟩
  · rename_i y r
    obtain ⟨h1, h⟩ := pm_if h
    cases h
    rw [pmL_ref h1]
    exact ⟨rfl, rfl, pmEqOff_uR _ _ _ _, by simp [pmFv, uR, va_rf], hR _, fun h2 h3 => pmHo_uR h2 _ _ (fun r hr => by cases hr; exact ⟨h1, h3⟩)⟩
  · cases h
    exact ⟨rfl, rfl, pmEqOff_uR _ _ _ _, by simp [pmFv, uR, va_rf, pmL], hR _, fun h2 _ => pmHo_uR h2 _ _ (fun r hr => by cases hr)⟩
  · cases h
theorem pmCell_o {cA : Nat → ClassId} {v : pmV} {al : Nat → Nat} {a ci n : Nat} (h : ci < 13) : pmCell cA v al a (ci, n) = .inr (ci, pmFs v al ci a) := by
  unfold pmCell
  rw [if_pos (show ci < 20 by omega)]
theorem pmL_at {sv : Value} {al : Nat → Nat} {a b : Nat} (h : ¬ a = 30) (e : al a = b) : pmL sv al (.ref a) = .ref b := by rw [pmL, if_neg h, e]
section PMMEM
variable {p : Program} {l : Launch} {e : Env} {R : Room} {s : State} {m : MethodId} {args : Array Value} {below : List Frame} {meth : Method} {c : Code} {H : Heap} {locs : List Loc} {cells slots : Nat} {Q : State → Prop}
variable {cc : ByteArray} {pc own idx : Nat} {lsm : Array Slot} {sv : Value} {al : Nat → Nat} {D : va_G} {cA : Nat → ClassId} {A : Nat → Prop} {adK adV : Nat → Nat} {b : Nat} {X : pmX} {T : pmT} {v : pmV} {st st' : List Value}
set_option maxHeartbeats 4000000 in
theorem sim_get (hx : p.tables.exec = Jvm.exec) (hb : c.code = cc) (hown : s.vm.findClass (pmCn own) = some m.cls) (hts : ∀ w ∈ pmWd, w.before args s = true) (hK : pmKs D cA adK s) (hHs : pmHs A sv adK adV b X s s.heap) (hal : pmAl adK adV b al) (hM : pmSim D cA A al T v H) (hS : va_S A s.heap H locs)
    (h : pmGet own idx T v st = some st') (hok : ∀ x ∈ st, pmOk T.length x) (hd : decode cc pc = .ok (.getfield idx, 3))
    (k : (∀ x ∈ st', pmOk T.length x) → W p l e R s m args below meth c H locs cells slots Q (F0 m (pc + 3) lsm (st'.map (pmL sv al)))) : W p l e R s m args below meth c H locs cells slots Q (F0 m pc lsm (st.map (pmL sv al))) := by
  replace h := pm1r_some (show pm1r st _ = _ from h)
  obtain ⟨a, r, rfl, h⟩ := h
  have hr : ∀ x ∈ r, pmOk T.length x := fun x hx => hok x (List.mem_cons_of_mem _ hx)
  by_cases h30 : a < 30
  · rw [if_pos h30] at h
    have hstr := pmWs_in pm_str_ok
    by_cases h1 : own = 20 ∧ idx = 9 ∧ a % 2 = 0 ∧ a < 28
    · rw [if_pos h1] at h
      cases h
      obtain ⟨rfl, rfl, h3, h4⟩ := h1
      obtain ⟨i, rfl⟩ : ∃ i, a = 2 * i := ⟨a / 2, by omega⟩
      have hi : i < 14 := by omega
      obtain ⟨-, -, hv, -⟩ := hHs.1.1 i hi
      have e1 : pmL sv al (.ref (2 * i)) = .ref (adK i) := pmL_at (by omega) (hal.1 i hi).1
      have e2 : pmL sv al (.ref (2 * i + 1)) = .ref (adV i) := pmL_at (by omega) (hal.1 i hi).2
      have k := k (fun x hx => by
        rcases List.mem_cons.mp hx with rfl | hx
        · show 2 * i + 1 < _; omega
        · exact hr x hx)
      rw [List.map_cons, e2] at k
      rw [List.map_cons, e1]
      exact vk_getf hx hb hv hS hown (hts _ (hstr _ (by simp))) (fun _ q => q) hd k
    · rw [if_neg h1] at h
      obtain ⟨h2, h⟩ := pm_if h
      cases h
      obtain ⟨rfl, rfl, h3, h4⟩ := h2
      obtain ⟨i, rfl⟩ : ∃ i, a = 2 * i := ⟨a / 2, by omega⟩
      have hi : i < 14 := by omega
      obtain ⟨-, hv, -⟩ := hHs.1.1 i hi
      have e1 : pmL sv al (.ref (2 * i)) = .ref (adK i) := pmL_at (by omega) (hal.1 i hi).1
      have k := k (fun x hx => by
        rcases List.mem_cons.mp hx with rfl | hx
        · trivial
        · exact hr x hx)
      rw [List.map_cons, e1]
      exact vk_getf hx hb hv hS hown (hts _ (hstr _ (by simp))) (fun _ q => q) hd k
  · rw [if_neg h30] at h
    obtain ⟨h32, h⟩ := pm_if2 h
    have ha : 32 ≤ a := by omega
    cases hT : T[a - 32]? with
    | none => rw [hT] at h; cases h
    | some q =>
      obtain ⟨ci, n⟩ := q
      rw [hT] at h
      dsimp only at h
      cases hf : pmAt pmFldL (own, idx) with
      | none => rw [hf] at h; cases h
      | some y =>
        obtain ⟨kf, cs, hh⟩ := y
        rw [hf] at h
        obtain ⟨hci, h⟩ := pm_if h
        cases h
        obtain ⟨g1, g2, g3⟩ := pm_fld_ok _ (pmAt_mem hf) ci hci
        have he := pmWo_a (cA := cA) (al := al) (v := v) ha hT
        rw [pmCell_o g1] at he
        obtain ⟨e1, e2⟩ := pmFv_rd (sv := sv) (al := al) hM.2.2 (pmTy ci kf) a kf
        have k := k (fun x hx => by
          rcases List.mem_cons.mp hx with rfl | hx
          · exact e2
          · exact hr x hx)
        rw [List.map_cons, pmL_ref ha]
        rw [List.map_cons, ← e1] at k
        exact va_get (D := D) (ci := ci) (C := pmCn ci) (T := pmTf ci) (N := pmN ci) hx hb hts (pm_lay g1) hown hK.1 hM.1 (a - 32) he (pm_cl g1) kf g2 (hts _ (pmW_in g3)) (fun _ q => q) (pmFs_get g2) hd k
set_option maxHeartbeats 4000000 in
theorem sim_put {nm : String} {v' : pmV} (hx : p.tables.exec = Jvm.exec) (hb : c.code = cc) (hown : s.vm.findClass (pmCn own) = some m.cls) (hnm : nm = "<init>" → meth.name = "<init>") (hts : ∀ w ∈ pmWd, w.before args s = true) (hK : pmKs D cA adK s) (hM : pmSim D cA A al T v H) (hS : va_S A s.heap H locs)
    (h : pmPut own idx nm T v st = some (st', v')) (hok : ∀ x ∈ st, pmOk T.length x) (hd : decode cc pc = .ok (.putfield idx, 3))
    (k : ∀ (H1 : Heap) (locs1 : List Loc), pmSim D cA A al T v' H1 → va_S A s.heap H1 locs1 → (∀ x ∈ st', pmOk T.length x) → W p l e R s m args below meth c H1 locs1 cells slots Q (F0 m (pc + 3) lsm (st'.map (pmL sv al)))) : W p l e R s m args below meth c H locs cells slots Q (F0 m pc lsm (st.map (pmL sv al))) := by
  unfold pmPut at h
  split at h
  · rename_i x a r
    obtain ⟨h32, h⟩ := pm_if2 h
    have ha : (32 : Nat) ≤ a := Nat.not_lt.mp h32
    cases hT : T[a - 32]? with
    | none => rw [hT] at h; cases h
    | some q =>
      obtain ⟨ci, n⟩ := q
      rw [hT] at h
      dsimp only at h
      cases hf : pmAt pmFldL (own, idx) with
      | none => rw [hf] at h; cases h
      | some y =>
        obtain ⟨kf, cs, hh⟩ := y
        rw [hf] at h
        obtain ⟨⟨hci, hfin⟩, h⟩ := pm_if h
        obtain ⟨v1, h1, h2⟩ := pm_map h
        cases h2
        obtain ⟨g1, g2, g3⟩ := pm_fld_ok _ (pmAt_mem hf) ci hci
        have he := pmWo_a (cA := cA) (al := al) (v := v) ha hT
        rw [pmCell_o g1] at he
        obtain ⟨w1, w2, w3, w4, w5, w6⟩ := pmWr_spec (n := T.length) (sv := sv) (al := al) h1
        have hs2 := pmWo_set (cA := cA) (al := al) ha hT w3
        rw [pmCell_o g1, pmFs_set g2 w4 (fun j hj => w5 _ j hj)] at hs2
        have hx0 : pmOk T.length x := hok x List.mem_cons_self
        have hr : ∀ y ∈ st', pmOk T.length y := fun y hy => hok y (List.mem_cons_of_mem _ (List.mem_cons_of_mem _ hy))
        have k2 : ∀ (H1 : Heap) (locs1 : List Loc), va_P D vwCl ((pmWo cA al T v).set (a - 32) (al a, .inr (ci, (pmFs v al ci a).set kf (pmL sv al x)))) H1 → va_D A ((pmWo cA al T v).set (a - 32) (al a, .inr (ci, (pmFs v al ci a).set kf (pmL sv al x)))) → va_S A s.heap H1 locs1 → W p l e R s m args below meth c H1 locs1 cells slots Q (F0 m (pc + 3) lsm (st'.map (pmL sv al))) := by
          intro H1 locs1 p1 p2 p3
          rw [← hs2] at p1 p2
          exact k H1 locs1 ⟨p1, p2, w6 hM.2.2 hx0⟩ p3 hr
        rw [List.map_cons, List.map_cons, pmL_ref ha]
        by_cases hfn : (pmTf ci kf).2.2.2 = true
        · obtain ⟨f1, f2⟩ := hfin hfn
          exact va_putF (D := D) (ci := ci) (C := pmCn ci) (T := pmTf ci) (N := pmN ci) hx hb hts (pm_lay g1) (pmTy ci) (pm_ty_ok g1) (pm_nm_ok g1) hown hK.1 hM.1 hM.2.1 hS (a - 32) he (pm_cl g1) kf g2 (hts _ (pmW_in g3)) (fun _ q => q) hfn (hnm f1) f2 (pm_ty_ok g1 kf g2) w1 w2 (by simp [pmFs]; exact g2) hd k2
        · exact va_put (D := D) (ci := ci) (C := pmCn ci) (T := pmTf ci) (N := pmN ci) hx hb hts (pm_lay g1) (pmTy ci) (pm_ty_ok g1) (pm_nm_ok g1) hown hK.1 hM.1 hM.2.1 hS (a - 32) he (pm_cl g1) kf g2 (hts _ (pmW_in g3)) (fun _ q => q) (by cases hq : (pmTf ci kf).2.2.2; rfl; exact absurd hq hfn) (pm_ty_ok g1 kf g2) w1 w2 (by simp [pmFs]; exact g2) hd k2
  · cases h
end PMMEM
