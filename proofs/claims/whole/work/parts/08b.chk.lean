/-! THE TABLES HOLD: each word that a row of them needs stands in lw_tbl -/
def pmW (w : Jvm.Cond) (h : Nat) : Bool := decide (lw_tbl[h]? = some w) && goodWord w
def pmWd : List Jvm.Cond := lw_tbl.filter goodWord
theorem pmW_in {w : Jvm.Cond} {h : Nat} (e : pmW w h = true) : w ∈ pmWd := by
  unfold pmW at e
  rw [Bool.and_eq_true, decide_eq_true_eq] at e
  exact List.mem_filter.mpr ⟨List.mem_of_getElem? e.1, e.2⟩
def pmWs (ws : List Jvm.Cond) (hs : List Nat) : Bool := (ws.length == hs.length) && (ws.zip hs).all (fun q => pmW q.1 q.2)
theorem pmWs_in {ws : List Jvm.Cond} {hs : List Nat} (e : pmWs ws hs = true) : ∀ w ∈ ws, w ∈ pmWd := by
  unfold pmWs at e
  rw [Bool.and_eq_true, beq_iff_eq, List.all_eq_true] at e
  intro w hw
  obtain ⟨i, hi⟩ := List.getElem?_of_mem hw
  have hl : i < ws.length := (List.getElem?_eq_some_iff.mp hi).1
  have hl2 : i < hs.length := by omega
  have hz : (ws.zip hs)[i]? = some (w, hs[i]) := by
    rw [List.getElem?_zip_eq_some]
    exact ⟨hi, List.getElem?_eq_getElem hl2⟩
  exact pmW_in (e.2 _ (List.mem_of_getElem? hz))
theorem pm_good : ∀ w ∈ pmWd, w ∈ pmWd ∧ ((w.onTables && w.keeps) = true ∨ ∃ ty, w = .arrayClass ty) := fun w hw => ⟨hw, good_of_word (List.mem_filter.mp hw).2⟩
set_option maxRecDepth 100000 in
theorem pm_lay_ok : ∀ ci, ci < 13 → ∀ k, k < pmN ci → pmW (u_lay (pmCn ci) (pmTf ci) k) ((pmLay.getD ci []).getD k 0) = true := by decide +kernel
theorem pm_lay {ci : Nat} (hc : ci < 13) : ∀ w ∈ u_ws (pmCn ci) (pmTf ci) (pmN ci), w ∈ pmWd := by
  intro w hw
  obtain ⟨k, hk, rfl⟩ := List.mem_map.mp hw
  exact pmW_in (pm_lay_ok ci hc k (List.mem_range.mp hk))
set_option maxRecDepth 100000 in
theorem pm_fld_ok : ∀ e ∈ pmFldL, ∀ ci ∈ e.2.2.1, ci < 13 ∧ e.2.1 < pmN ci ∧ pmW (.fieldLink (pmCn e.1.1) e.1.2 (pmTf ci e.2.1).1 (pmTf ci e.2.1).2.1 (pmTf ci e.2.1).2.2.1) e.2.2.2 = true := by decide +kernel
set_option maxRecDepth 100000 in
theorem pm_new_ok : ∀ e ∈ pmNewL, e.2.1 < 13 ∧ pmWs [.classLink (pmCn e.1.1) e.1.2 (pmCn e.2.1), .instantiable (pmCn e.2.1) (pmN e.2.1), .initialized (pmCn e.2.1)] e.2.2 = true := by decide +kernel
set_option maxRecDepth 100000 in
theorem pm_anw_ok : ∀ e ∈ pmAnwL, e.2.2.1 = pmItem e.2.1 ∧ (22 ≤ e.2.1 ∧ e.2.1 < 25) ∧ pmW (.classLink (pmCn e.1.1) e.1.2 (pmCn (pmItem e.2.1))) e.2.2.2 = true := by decide +kernel
set_option maxRecDepth 100000 in
theorem pm_is_ok : ∀ e ∈ pmIsL, pmW (.classLink (pmCn e.1.1) e.1.2 (pmCn e.2.1)) e.2.2.2.2 = true ∧ e.2.1 < 13 ∧ (∀ ci ∈ e.2.2.1, ci < 13 ∧ (ci = e.2.1 ∨ (ci, e.2.1) ∈ pmCast)) ∧ (∀ ci ∈ e.2.2.2.1, ci < 13 ∧ (ci, e.2.1) ∈ pmNcL) := by decide +kernel
set_option maxRecDepth 100000 in
theorem pm_ldc_ok : ∀ e ∈ pmLdcL, pmW (.constant (pmCn e.1.1) e.1.2 e.2.1) e.2.2 = true := by decide +kernel
set_option maxRecDepth 100000 in
theorem pm_ld2_ok : ∀ e ∈ pmLd2L, pmW (.constantLong (pmCn e.1.1) e.1.2 e.2.1) e.2.2 = true := by decide +kernel
def pmPar (y : MethodName) (n : Nat) : Prop := (parseMethodDescriptor y.desc).map (fun d => d.parameters.length) = some n
def pmMj (j : Nat) : pmM := ((pmLs[j]?).map fun q => q.1).getD (0, ⟨"", "", ""⟩, ⟨#[]⟩, 0, none)
/-- of a call of a static method -/
def pmStOk (e : (Nat × Nat) × pmE) : Prop := pmPar (pmMj e.2.2.2.1).2.1 e.2.2.1 ∧ ((e.2.1 = 3 ∧ pmWs [.methodLink (pmCn e.1.1) e.1.2 (pmMj e.2.2.2.1).2.1, .static (pmMj e.2.2.2.1).2.1, .initialized (pmMj e.2.2.2.1).2.1.cls] e.2.2.2.2 = true) ∨ (e.2.1 = 4 ∧ Jvm.Cond.methodLinkNest (pmCn e.1.1) e.1.2 (pmMj e.2.2.2.1).2.1 "LanesTurn" ∈ pmNest ∧ pmWs [.static (pmMj e.2.2.2.1).2.1, .initialized (pmMj e.2.2.2.1).2.1.cls] e.2.2.2.2 = true))
set_option maxRecDepth 100000 in
theorem pm_st_ok : ∀ e ∈ pmStL, pmStOk e := by unfold pmStOk pmPar; decide +kernel
def pmSpOk (e : (Nat × Nat) × pmE) : Prop := pmPar (pmMj e.2.2.2.1).2.1 e.2.2.1 ∧ (
  (e.2.1 = 5 ∧ (pmMj e.2.2.2.1).2.1.name = "<init>" ∧ (pmMj e.2.2.2.1).2.2.2.2 = none ∧ pmWs [.methodLink (pmCn e.1.1) e.1.2 (pmMj e.2.2.2.1).2.1, .instanceMethod (pmMj e.2.2.2.1).2.1, .initialized (pmMj e.2.2.2.1).2.1.cls] e.2.2.2.2 = true) ∨
  (e.2.1 = 6 ∧ (pmMj e.2.2.2.1).2.1.name = "<init>" ∧ (pmMj e.2.2.2.1).2.2.2.2 = none ∧ Jvm.Cond.methodLinkNest (pmCn e.1.1) e.1.2 (pmMj e.2.2.2.1).2.1 "LanesTurn" ∈ pmNest ∧ pmWs [.instanceMethod (pmMj e.2.2.2.1).2.1, .initialized (pmMj e.2.2.2.1).2.1.cls] e.2.2.2.2 = true) ∨
  (e.2.1 = 7 ∧ (pmMj e.2.2.2.1).2.1.name ≠ "<init>" ∧ pmWs [.methodLink (pmCn e.1.1) e.1.2 (pmMj e.2.2.2.1).2.1, .sameMethod (pmMj e.2.2.2.1).2.1.cls (pmMj e.2.2.2.1).2.1.cls (pmMj e.2.2.2.1).2.1.name (pmMj e.2.2.2.1).2.1.desc, .superclass (pmCn e.1.1) (pmMj e.2.2.2.1).2.1.cls, .instanceMethod (pmMj e.2.2.2.1).2.1, .initialized (pmMj e.2.2.2.1).2.1.cls] e.2.2.2.2 = true) ∨
  (e.2.1 = 8 ∧ (pmMj e.2.2.2.1).2.1.name ≠ "<init>" ∧ pmWs [.methodLink (pmCn e.1.1) e.1.2 ⟨"LanesTurn$BusLane", (pmMj e.2.2.2.1).2.1.name, (pmMj e.2.2.2.1).2.1.desc⟩, .sameMethod "LanesTurn$BusLane" (pmMj e.2.2.2.1).2.1.cls (pmMj e.2.2.2.1).2.1.name (pmMj e.2.2.2.1).2.1.desc, .superclass (pmCn e.1.1) "LanesTurn$BusLane", .superclass "LanesTurn$BusLane" (pmMj e.2.2.2.1).2.1.cls, .instanceMethod (pmMj e.2.2.2.1).2.1, .initialized (pmMj e.2.2.2.1).2.1.cls] e.2.2.2.2 = true))
set_option maxRecDepth 100000 in
theorem pm_sp_ok : ∀ e ∈ pmSpL, pmSpOk e := by unfold pmSpOk pmPar; decide +kernel
/-- of a call by the receiver's class: own class, pool number, arguments; class, kind, method, places -/
def pmVtOk (o i n : Nat) (c : Nat × Nat × Nat × List Nat) : Prop := pmPar (pmMj c.2.2.1).2.1 n ∧ (c.1 < 13 ∨ c.1 = 20) ∧ (
  (c.2.1 = 0 ∧ (pmMj c.2.2.1).2.1.cls = pmCn c.1 ∧ pmWs [.methodLink (pmCn o) i (pmMj c.2.2.1).2.1, .instanceMethod (pmMj c.2.2.1).2.1, .selects (pmCn c.1) (pmMj c.2.2.1).2.1 (pmMj c.2.2.1).2.1, .initialized (pmCn c.1)] c.2.2.2 = true) ∨
  (c.2.1 = 1 ∧ (pmMj c.2.2.1).2.1.cls = "LanesTurn$Lane" ∧ pmWs [.methodLink (pmCn o) i (pmMj c.2.2.1).2.1, .sameMethod "LanesTurn$Lane" "LanesTurn$Lane" (pmMj c.2.2.1).2.1.name (pmMj c.2.2.1).2.1.desc, .selects (pmCn c.1) (pmMj c.2.2.1).2.1 (pmMj c.2.2.1).2.1, .instanceMethod (pmMj c.2.2.1).2.1, .initialized (pmMj c.2.2.1).2.1.cls] c.2.2.2 = true) ∨
  (c.2.1 = 2 ∧ ∃ z ∈ pmLs, z.1.2.1 = ⟨"LanesTurn$Lane", (pmMj c.2.2.1).2.1.name, (pmMj c.2.2.1).2.1.desc⟩ ∧ pmWs [.methodLink (pmCn o) i ⟨"LanesTurn$Lane", (pmMj c.2.2.1).2.1.name, (pmMj c.2.2.1).2.1.desc⟩, .sameMethod "LanesTurn$Lane" "LanesTurn$Lane" (pmMj c.2.2.1).2.1.name (pmMj c.2.2.1).2.1.desc, .instanceMethod ⟨"LanesTurn$Lane", (pmMj c.2.2.1).2.1.name, (pmMj c.2.2.1).2.1.desc⟩, .selects (pmCn c.1) ⟨"LanesTurn$Lane", (pmMj c.2.2.1).2.1.name, (pmMj c.2.2.1).2.1.desc⟩ (pmMj c.2.2.1).2.1, .instanceMethod (pmMj c.2.2.1).2.1, .initialized (pmMj c.2.2.1).2.1.cls] (c.2.2.2.take 6) = true))
set_option maxRecDepth 100000 in
theorem pm_vt_ok : ∀ e ∈ pmVtL, ∀ c ∈ e.2.2, pmVtOk e.1.1 e.1.2 e.2.1 c := by unfold pmVtOk pmPar; decide +kernel
set_option maxRecDepth 100000 in
theorem pm_mx_ok : ∀ e ∈ pmMxL, pmW (.methodLink (pmCn e.1.1) e.1.2 Lib.Math.max.name) e.2 = true := by decide +kernel
set_option maxRecDepth 100000 in
theorem pm_mn_ok : ∀ e ∈ pmMnL, pmW (.methodLink (pmCn e.1.1) e.1.2 Lib.Math.min.name) e.2 = true := by decide +kernel
set_option maxRecDepth 100000 in
theorem pm_ac_ok : ∀ e ∈ pmAcL, pmW (.methodLink (pmCn e.1.1) e.1.2 arraycopyName) e.2 = true := by decide +kernel
set_option maxRecDepth 100000 in
theorem pm_ob_ok : ∀ e ∈ pmObL, pmW (.methodLink (pmCn e.1.1) e.1.2 objectInit) e.2 = true := by decide +kernel
set_option maxRecDepth 100000 in
theorem pm_fix_ok : pmWs [.instanceMethod objectInit, .code objectInit ⟨#[0xb1]⟩ 1 none, .native arraycopyName, .static arraycopyName, .initialized "java/lang/System", .static Lib.Math.max.name, .static Lib.Math.min.name, .initialized "java/lang/Math"] [pmHints.1, pmHints.2.1, pmHints.2.2.1, pmHints.2.2.2.1, pmHints.2.2.2.2.1, pmHints.2.2.2.2.2.1, pmHints.2.2.2.2.2.2.1, pmHints.2.2.2.2.2.2.2] = true := by decide +kernel
set_option maxRecDepth 100000 in
theorem pm_arr_ok : pmWs [.arrayClass .int, .arrayClass .long, .code Lib.Math.max.name Lib.Math.max.code 2 (some .int), .code Lib.Math.min.name Lib.Math.min.code 2 (some .int)] [pmArr.1, pmArr.2, pmMath.1, pmMath.2] = true := by decide +kernel
set_option maxRecDepth 100000 in
theorem pm_str_ok : pmWs [.fieldLink (pmCn 20) 38 "java/lang/String" "COMPACT_STRINGS" "Z", .fieldLink (pmCn 20) 1053 "jdk/internal/util/Preconditions" "SIOOBE_FORMATTER" "Ljava/util/function/BiFunction;", .fieldLink (pmCn 20) 9 "java/lang/String" "value" "[B", .fieldLink (pmCn 20) 15 "java/lang/String" "coder" "B"] [311, 327, 1414, 1415] = true := by decide +kernel
theorem pm_cl {ci : Nat} (h : ci < 13) : vwCl[ci]? = some (pmCn ci, pmTf ci, pmN ci) := by
  match ci, h with
  | 0, _ => rfl
  | 1, _ => rfl
  | 2, _ => rfl
  | 3, _ => rfl
  | 4, _ => rfl
  | 5, _ => rfl
  | 6, _ => rfl
  | 7, _ => rfl
  | 8, _ => rfl
  | 9, _ => rfl
  | 10, _ => rfl
  | 11, _ => rfl
  | 12, _ => rfl
theorem pm_ty_ok {ci : Nat} (h : ci < 13) : ∀ k, k < pmN ci → parseFieldDescriptor (pmTf ci k).2.2.1 = some (pmTy ci k) := by
  match ci, h with
  | 0, _ => exact tyX0_ok
  | 1, _ => exact tyX1_ok
  | 2, _ => exact tyX2_ok
  | 3, _ => exact tyX3_ok
  | 4, _ => exact tyX4_ok
  | 5, _ => exact tyX5_ok
  | 6, _ => exact tyX6_ok
  | 7, _ => exact tyX7_ok
  | 8, _ => exact tyX8_ok
  | 9, _ => exact tyX9_ok
  | 10, _ => exact tyX10_ok
  | 11, _ => exact tyX11_ok
  | 12, _ => exact tyX12_ok
theorem pm_nm_ok {ci : Nat} (h : ci < 13) : ∀ a, a < pmN ci → ∀ b, b < pmN ci → a ≠ b → (pmTf ci a).2.1 ≠ (pmTf ci b).2.1 := by
  match ci, h with
  | 0, _ => exact nmX0
  | 1, _ => exact nmX1
  | 2, _ => exact nmX2
  | 3, _ => exact nmX3
  | 4, _ => exact nmX4
  | 5, _ => exact nmX5
  | 6, _ => exact nmX6
  | 7, _ => exact nmX7
  | 8, _ => exact nmX8
  | 9, _ => exact nmX9
  | 10, _ => exact nmX10
  | 11, _ => exact nmX11
  | 12, _ => exact nmX12
def pmTyOk (ty : FieldType) : Bool := match ty with
  | .int => true
  | .boolean => true
  | .long => true
  | .object _ => true
  | .array _ => true
  | _ => false
theorem pm_tys_ok : ∀ ci, ci < 13 → ∀ k, k < pmN ci → pmTyOk (pmTy ci k) = true := by decide +kernel
theorem pmAt_mem {α β : Type} [BEq α] [LawfulBEq α] {l : List (α × β)} {k : α} {y : β} (h : pmAt l k = some y) : (k, y) ∈ l := by
  unfold pmAt at h
  obtain ⟨e, h1, rfl⟩ := Option.map_eq_some_iff.mp h
  have h2 := List.find?_some h1
  have h3 : e.1 = k := eq_of_beq h2
  rw [← h3]
  exact List.mem_of_find?_eq_some h1
theorem pmStrAt_spec {o i k : Nat} (h : pmStrAt o i = some k) : k < 14 ∧ ∃ q, pmStrL[k]? = some q ∧ q.1 = o ∧ q.2.1 = i := by
  have h1 := List.find?_some h
  refine ⟨List.mem_range.mp (List.mem_of_find?_eq_some h), ?_⟩
  cases hq : pmStrL[k]? with
  | none => simp [hq] at h1
  | some q =>
    simp only [hq, Bool.and_eq_true, beq_iff_eq] at h1
    exact ⟨q, rfl, h1.1, h1.2⟩
