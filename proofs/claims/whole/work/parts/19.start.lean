/-! THE LAW'S START: what the Statement gives is what the pure machine asks -/
def pmFl : List Jvm.Cond := flatC (Jvm.Cond.and given_1 narrow_1)
def pmTm (i : Nat) : Term := match pmStrL[i]? with
  | some q => .string (pmCn q.1) q.2.1
  | none => .arg 0
def pmStI : List Nat := [136, 174, 183, 194, 207, 219, 231, 246, 261, 277, 294, 310, 328, 347]
def pmNeI : List (List Nat) := [[0, 182, 192, 204, 215, 226, 240, 254, 269, 285, 300, 317, 335, 359], [0, 0, 193, 205, 216, 227, 241, 255, 270, 286, 301, 318, 336, 360], [0, 0, 0, 206, 217, 228, 242, 256, 271, 287, 302, 319, 337, 361], [0, 0, 0, 0, 218, 229, 243, 257, 272, 288, 303, 320, 338, 362], [0, 0, 0, 0, 0, 230, 244, 258, 273, 289, 304, 321, 339, 363], [0, 0, 0, 0, 0, 0, 245, 259, 274, 290, 305, 322, 340, 364], [0, 0, 0, 0, 0, 0, 0, 260, 275, 291, 306, 323, 341, 365], [0, 0, 0, 0, 0, 0, 0, 0, 276, 292, 307, 324, 342, 366], [0, 0, 0, 0, 0, 0, 0, 0, 0, 293, 308, 325, 343, 367], [0, 0, 0, 0, 0, 0, 0, 0, 0, 0, 309, 326, 344, 368], [0, 0, 0, 0, 0, 0, 0, 0, 0, 0, 0, 327, 345, 369], [0, 0, 0, 0, 0, 0, 0, 0, 0, 0, 0, 0, 346, 370], [0, 0, 0, 0, 0, 0, 0, 0, 0, 0, 0, 0, 0, 371], [0, 0, 0, 0, 0, 0, 0, 0, 0, 0, 0, 0, 0, 0]]
def pmNcI : List Nat := [63, 39, 51, 16, 29, 41, 53, 18, 30, 66, 42, 54, 19, 28, 64, 52, 65, 40, 17, 27, 62, 38, 50]
def pmNestI : List Nat := [113, 154, 160, 206, 212, 214, 279, 281, 786, 813, 828, 925]
def pmCastI : List Nat := [1410, 1413, 1411, 1407, 1408, 1412, 1409]
def pmStrI : List Nat := [298, 390, 391, 392, 393, 394, 395, 396, 397, 398, 399, 400, 401, 413]
def pmInsI : List Nat := [586, 205, 616, 625, 153, 112, 280, 596, 606, 159, 563, 102, 971]
def pmF (w : Jvm.Cond) (h : Nat) : Bool := decide (pmFl[h]? = some w)
theorem pmF_in {w : Jvm.Cond} {h : Nat} (e : pmF w h = true) : w ∈ pmFl := List.mem_of_getElem? (of_decide_eq_true e)
set_option maxRecDepth 100000 in
theorem pm_f_str : ∀ i, i < 14 → (pmF (.exactly (pmTm i) "java/lang/String") (pmStI.getD i 0) = true ∧ pmF (.eq (.field (pmTm i) "java/lang/String" "coder" "B") (.int 0)) (pmStI.getD i 0 + 1) = true ∧ pmF (.arrayOf (.field (pmTm i) "java/lang/String" "value" "[B") .byte) (pmStI.getD i 0 + 2) = true ∧ pmF (.eq (.length (.field (pmTm i) "java/lang/String" "value" "[B")) (.int (Int32.ofNat (pmLenL.getD i 0)))) (pmStI.getD i 0 + 3) = true) ∧ pmLenL.getD i 0 < 2 ^ 31 := by decide +kernel
set_option maxRecDepth 100000 in
theorem pm_f_byt : ∀ i, i < 14 → ∀ j, j < pmLenL.getD i 0 → pmF (.eq (.elem (.field (pmTm i) "java/lang/String" "value" "[B") (.int (Int32.ofNat j))) (.int ((pmByt.getD i []).getD j 0))) (pmStI.getD i 0 + 4 + j) = true := by decide +kernel
set_option maxRecDepth 100000 in
theorem pm_f_ne : ∀ i, i < 14 → ∀ j, j < 14 → i ≠ j → pmF (.not (.eq (pmTm i) (pmTm j))) ((pmNeI.getD i []).getD j 0) = true ∨ pmF (.not (.eq (pmTm j) (pmTm i))) ((pmNeI.getD j []).getD i 0) = true := by decide +kernel
set_option maxRecDepth 100000 in
theorem pm_f_nc : ∀ k, k < pmNcL.length → pmF (.not (.castable (pmCn (pmNcL.getD k (0, 0)).1) (pmCn (pmNcL.getD k (0, 0)).2))) (pmNcI.getD k 0) = true := by decide +kernel
set_option maxRecDepth 100000 in
theorem pm_f_st : pmF (.eq (.static "java/lang/String" "COMPACT_STRINGS" "Z") (.int 1)) 4 = true ∧ pmF (.isRef (.static "jdk/internal/util/Preconditions" "SIOOBE_FORMATTER" "Ljava/util/function/BiFunction;")) 5 = true := by decide +kernel
def pmTb (w : Jvm.Cond) (h : Nat) : Bool := decide (lw_tbl[h]? = some w)
theorem pmTb_in {w : Jvm.Cond} {h : Nat} (e : pmTb w h = true) : w ∈ lw_tbl := List.mem_of_getElem? (of_decide_eq_true e)
set_option maxRecDepth 100000 in
theorem pm_t_nest : ∀ k, k < pmNest.length → pmTb (pmNest.getD k (.count 0)) (pmNestI.getD k 0) = true := by decide +kernel
set_option maxRecDepth 100000 in
theorem pm_t_cast : ∀ k, k < pmCast.length → pmTb (.castable (pmCn (pmCast.getD k (0, 0)).1) (pmCn (pmCast.getD k (0, 0)).2)) (pmCastI.getD k 0) = true := by decide +kernel
set_option maxRecDepth 100000 in
theorem pm_t_str : ∀ k, k < 14 → pmTb (.stringRef (pmCn (pmStrL.getD k (0, 0, "")).1) (pmStrL.getD k (0, 0, "")).2.1 (pmStrL.getD k (0, 0, "")).2.2) (pmStrI.getD k 0) = true := by decide +kernel
set_option maxRecDepth 100000 in
theorem pm_t_ins : ∀ k, k < 13 → pmTb (.instantiable (pmCn k) (pmN k)) (pmInsI.getD k 0) = true := by decide +kernel
set_option maxRecDepth 100000 in
theorem pm_t_fix : pmTb (.arrayClass .int) 149 = true ∧ pmTb (.arrayClass .long) 297 = true ∧ pmTb (.arrayOver (.object "LanesTurn$Lane")) 110 = true ∧ pmTb (.arrayOver (.object "LanesTurn$Text")) 151 = true ∧ pmTb (.arrayOver (.object "LanesTurn$Sheet")) 203 = true ∧ pmTb (.laysStatic "java/lang/String" "COMPACT_STRINGS" "Z") 312 = true ∧ pmTb (.initialized "java/lang/String") 86 = true ∧ pmTb (.laysStatic "jdk/internal/util/Preconditions" "SIOOBE_FORMATTER" "Ljava/util/function/BiFunction;") 328 = true ∧ pmTb (.initialized "jdk/internal/util/Preconditions") 88 = true := by decide +kernel
theorem pm_nestW : ∀ w ∈ pmNest, ∃ o i y h, w = Jvm.Cond.methodLinkNest o i y h := by
  intro w hw
  simp only [pmNest, List.mem_cons, List.not_mem_nil, or_false] at hw
  rcases hw with rfl | rfl | rfl | rfl | rfl | rfl | rfl | rfl | rfl | rfl | rfl | rfl <;> exact ⟨_, _, _, _, rfl⟩
theorem pm_getD {α : Type} {l : List α} {x d : α} (h : x ∈ l) : ∃ k, k < l.length ∧ l.getD k d = x := by
  obtain ⟨k, hk⟩ := List.getElem?_of_mem h
  exact ⟨k, (List.getElem?_eq_some_iff.mp hk).1, by rw [List.getD_eq_getElem?_getD, hk]; rfl⟩
theorem pm_raOver {C : String} {s : State} {args : Array Value} (h : (Cond.arrayOver (.object C)).before args s = true) : ∃ cA : ClassId, ArrOfT s cA (.object C) ∧ va_RA s cA (.object C) := by
  obtain ⟨comp, c, k, h1, h2, h3, h4, h5⟩ := Cond.arrayOver_spec h
  exact ⟨c, fun n z => ⟨fun q hq => (by cases hq), k, h3, comp, h4⟩, k, comp, h3, h4, h1, h5⟩
theorem pm_raInt {s : State} {args : Array Value} (h : (Cond.arrayClass .int).before args s = true) : ∃ cA : ClassId, ArrOfT s cA .int ∧ va_RA s cA .int := by
  obtain ⟨c, k, comp, h1, h2, h3⟩ := Cond.arrayClass_spec h
  exact ⟨c, fun n z => ⟨fun q hq => (by cases hq), k, h2, comp, h3⟩, h1⟩
theorem pm_raLong {s : State} {args : Array Value} (h : (Cond.arrayClass .long).before args s = true) : ∃ cA : ClassId, ArrOfT s cA .long ∧ va_RA s cA .long := by
  obtain ⟨c, k, comp, h1, h2, h3⟩ := Cond.arrayClass_spec h
  exact ⟨c, fun n z => ⟨fun q hq => (by cases hq), k, h2, comp, h3⟩, h1⟩
def pmV0 : pmV := (fun _ _ => 0, fun _ _ => 0, fun _ _ => none)
set_option maxHeartbeats 4000000 in
theorem pm_start {s : State} {args : Array Value} {b L : Nat} {xs : Nat → Int32} (hts : ∀ w ∈ lw_tbl, w.before args s = true) (hX : va_X b L xs s s.heap) (hbl : b < s.heap.size) (hgv : (Jvm.Cond.and given_1 narrow_1).before args s = true) :
    ∃ (D : va_G) (cA : Nat → ClassId) (sv : Value) (adK adV al : Nat → Nat), sv.category = 1 ∧ pmKs D cA adK s ∧ pmHs (fun q => s.heap.size ≤ q) sv adK adV b (L, xs) s s.heap ∧ pmAl adK adV b al ∧ pmSim D cA (fun q => s.heap.size ≤ q) al [] pmV0 s.heap := by
  have hfl : ∀ w ∈ pmFl, w.before args s = true := flat_of_before _ hgv
  have hA : ∀ a : Nat, a < s.heap.size → ¬ (fun q : Nat => s.heap.size ≤ q) a := fun a h => Nat.not_le.mpr h
  have hcl : ∀ c, ∃ q : ClassId × (Nat → Nat), c < 13 → u_Kn s (pmCn c) (pmTf c) (pmN c) q.1 q.2 := by
    intro c
    by_cases hc : c < 13
    · obtain ⟨c0, iS, h⟩ := u_known (C := pmCn c) (T := pmTf c) (N := pmN c) (n := pmN c) hts (fun w hw => (List.mem_filter.mp (pm_lay hc w hw)).1) (hts _ (pmTb_in (pm_t_ins c hc)))
      exact ⟨(c0, iS), fun _ => h⟩
    · exact ⟨(0, fun _ => 0), fun h => absurd h hc⟩
  obtain ⟨fc, hfc⟩ := Classical.axiomOfChoice hcl
  obtain ⟨t1, t2, t3, t4, t5, t6, t7, t8, t9⟩ := pm_t_fix
  obtain ⟨c0, a0, r0⟩ := pm_raInt (hts _ (pmTb_in t1))
  obtain ⟨c1, a1, r1⟩ := pm_raLong (hts _ (pmTb_in t2))
  obtain ⟨c2, a2, r2⟩ := pm_raOver (hts _ (pmTb_in t3))
  obtain ⟨c3, a3, r3⟩ := pm_raOver (hts _ (pmTb_in t4))
  obtain ⟨c4, a4, r4⟩ := pm_raOver (hts _ (pmTb_in t5))
  have hK : va_K (fun c => (fc c).1, fun c => (fc c).2) vwCl (pmTys (fun k => [c0, c1, c2, c3, c4].getD k 0)) s := by
    refine ⟨fun k q hq => ?_, fun k q hq => ?_⟩
    · have hk : k < 13 := (List.getElem?_eq_some_iff.mp hq).1
      rw [pm_cl hk] at hq
      cases hq
      exact hfc k hk
    · have hk : k < 5 := (List.getElem?_eq_some_iff.mp hq).1
      rcases (show k = 0 ∨ k = 1 ∨ k = 2 ∨ k = 3 ∨ k = 4 by omega) with rfl | rfl | rfl | rfl | rfl <;> cases hq
      · exact ⟨a0, r0⟩
      · exact ⟨a1, r1⟩
      · exact ⟨a2, r2⟩
      · exact ⟨a3, r3⟩
      · exact ⟨a4, r4⟩
  obtain ⟨adK, adV, hS, hev⟩ := vk_Sof (args := args) (s := s) (N := 14) (tm := pmTm) (len := pmLenL) (byt := pmByt) (A := fun q : Nat => s.heap.size ≤ q) (fun i hi => (pm_f_str i hi).2) (fun i hi => hfl _ (pmF_in (pm_f_str i hi).1.1)) (fun i hi => hfl _ (pmF_in (pm_f_str i hi).1.2.1))
    (fun i hi => hfl _ (pmF_in (pm_f_str i hi).1.2.2.1)) (fun i hi => hfl _ (pmF_in (pm_f_str i hi).1.2.2.2)) (fun i hi j hj => hfl _ (pmF_in (pm_f_byt i hi j hj))) (fun i j hi hj hne => by
      rcases pm_f_ne i hi j hj hne with h | h
      · exact Or.inl (hfl _ (pmF_in h))
      · exact Or.inr (hfl _ (pmF_in h))) hA
  have hZ1 : va_Z "java/lang/String" "COMPACT_STRINGS" "Z" (.int 1) (fun q : Nat => s.heap.size ≤ q) s s.heap := va_Zof (hts _ (pmTb_in t6)) (hts _ (pmTb_in t7)) (va_eqi (hfl _ (pmF_in pm_f_st.1))) hA
  have hZ2 : ∃ sv : Value, sv.category = 1 ∧ va_Z "jdk/internal/util/Preconditions" "SIOOBE_FORMATTER" "Ljava/util/function/BiFunction;" sv (fun q : Nat => s.heap.size ≤ q) s s.heap := by
    rcases va_Zqof (A := fun q : Nat => s.heap.size ≤ q) (hts _ (pmTb_in t8)) (hts _ (pmTb_in t9)) (hfl _ (pmF_in pm_f_st.2)) hA with h | ⟨t, h⟩
    · exact ⟨_, rfl, h⟩
    · exact ⟨_, rfl, h⟩
  obtain ⟨sv, hsv, hZ2⟩ := hZ2
  refine ⟨(fun c => (fc c).1, fun c => (fc c).2), fun k => [c0, c1, c2, c3, c4].getD k 0, sv, adK, adV, fun a => if a = 31 then b else if a % 2 = 0 then adK (a / 2) else adV (a / 2), hsv, ⟨hK, ?_, ?_, ?_, ⟨va_AO.of (hts _ (pmTb_in t3)), va_AO.of (hts _ (pmTb_in t4)), va_AO.of (hts _ (pmTb_in t5))⟩, ?_⟩, ⟨hS, hZ1, hZ2, hX, hbl, hA b hbl⟩, ⟨?_, rfl⟩, ?_⟩
  · intro o i y h hm
    obtain ⟨k, hk, e⟩ := pm_getD (d := Jvm.Cond.count 0) hm
    have := pmTb_in (pm_t_nest k hk)
    rw [e] at this
    exact va_Nw.of rfl (hts _ this)
  · intro q hq
    obtain ⟨k, hk, e⟩ := pm_getD (d := ((0, 0) : Nat × Nat)) hq
    have := pmTb_in (pm_t_cast k hk)
    rw [e] at this
    exact va_Nw.of rfl (hts _ this)
  · intro q hq
    obtain ⟨k, hk, e⟩ := pm_getD (d := ((0, 0) : Nat × Nat)) hq
    have := pmF_in (pm_f_nc k hk)
    rw [e] at this
    exact va_Nc.of (hfl _ this)
  · intro i q hq
    have hi : i < 14 := (List.getElem?_eq_some_iff.mp hq).1
    have h1 := pmTb_in (pm_t_str i hi)
    have e : pmStrL.getD i (0, 0, "") = q := by rw [List.getD_eq_getElem?_getD, hq]; rfl
    rw [e] at h1
    have h2 := hev i hi
    have e2 : pmTm i = .string (pmCn q.1) q.2.1 := by unfold pmTm; rw [hq]
    rw [e2] at h2
    have h3 := vk_R.of (hts _ h1) h2
    exact h3
  · intro i hi
    refine ⟨?_, ?_⟩
    · dsimp only
      rw [if_neg (by omega), if_pos (by omega), show 2 * i / 2 = i by omega]
    · dsimp only
      rw [if_neg (by omega), if_neg (by omega), show (2 * i + 1) / 2 = i by omega]
  · exact ⟨fun k q h => by simp [pmWo] at h, ⟨fun i j p q h => by simp [pmWo] at h, fun k q h => by simp [pmWo] at h⟩, fun k j r h => by cases h⟩
