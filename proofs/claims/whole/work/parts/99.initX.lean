/-! CONSTRUCTORS: what is known of a memory in which all is new from a place on; the class's, ahead of its text -/
theorem nm_X11_init : MX11_init.2.1.name = "<init>" := by decide
theorem nm_X5_init : MX5_init.2.1.name = "<init>" := by decide
theorem nm_X4_init : MX4_init.2.1.name = "<init>" := by decide
theorem nm_X1_init : MX1_init.2.1.name = "<init>" := by decide
theorem nm_X9_init : MX9_init.2.1.name = "<init>" := by decide
theorem nm_X6_init : MX6_init.2.1.name = "<init>" := by decide
theorem nm_X12_init : MX12_init.2.1.name = "<init>" := by decide
def lkI : List (Nat × Nat × Int32) → Nat → Nat → Int32
  | [], _, _ => 0
  | q :: l, a, j => if q.1 = a ∧ q.2.1 = j then q.2.2 else lkI l a j
def lkR : List (Nat × Nat × Nat) → Nat → Nat → Option Nat
  | [], _, _ => none
  | q :: l, a, j => if q.1 = a ∧ q.2.1 = j then some q.2.2 else lkR l a j
/-- from N on it holds what I and R list, nothing else; ahead of it what b holds -/
def IN (N : Nat) (b : pmV) (I : List (Nat × Nat × Int32)) (R : List (Nat × Nat × Nat)) (v : pmV) : Prop := (∀ a j, v.1 a j = if N ≤ a then lkI I a j else b.1 a j) ∧ (∀ a j, v.2.1 a j = if N ≤ a then 0 else b.2.1 a j) ∧ ∀ a j, v.2.2 a j = if N ≤ a then lkR R a j else b.2.2 a j
theorem lkI_no {I : List (Nat × Nat × Int32)} {a : Nat} (h : ∀ q ∈ I, q.1 ≠ a) (j : Nat) : lkI I a j = 0 := by
  induction I with
  | nil => rfl
  | cons q l ih => rw [lkI, if_neg (fun e => h q (List.mem_cons_self ..) e.1)]; exact ih (fun r hr => h r (List.mem_cons_of_mem _ hr))
theorem lkR_no {I : List (Nat × Nat × Nat)} {a : Nat} (h : ∀ q ∈ I, q.1 ≠ a) (j : Nat) : lkR I a j = none := by
  induction I with
  | nil => rfl
  | cons q l ih => rw [lkR, if_neg (fun e => h q (List.mem_cons_self ..) e.1)]; exact ih (fun r hr => h r (List.mem_cons_of_mem _ hr))
theorem IN.rr {N : Nat} {b v : pmV} {I : List (Nat × Nat × Int32)} {R : List (Nat × Nat × Nat)} (h : IN N b I R v) {a j : Nat} {x : Option Nat} (hN : N ≤ a) (hx : lkR R a j = x) : v.2.2 a j = x := (h.2.2 a j).trans ((if_pos hN).trans hx)
theorem IN.ri {N : Nat} {b v : pmV} {I : List (Nat × Nat × Int32)} {R : List (Nat × Nat × Nat)} (h : IN N b I R v) {a j : Nat} {x : Int32} (hN : N ≤ a) (hx : lkI I a j = x) : v.1 a j = x := (h.1 a j).trans ((if_pos hN).trans hx)
section IVS
variable {X : pmX} {d : Nat} {M : pmM} {pc : Nat} {ls st : List Value} {T : pmT} {v b : pmV} {P : Option Value → pmT → pmV → Prop} {N a j : Nat} {I : List (Nat × Nat × Int32)} {R : List (Nat × Nat × Nat)}
theorem iv_put {x : Int32} (h : IN N b I R v) (ha : N ≤ a) (k : ∀ v', IN N b ((a, j, x) :: I) R v' → EvP X d M pc ls st T v' P) : EvP X d M pc ls st T (uI v a j x) P := k _ ⟨fun c i => by
  show (if c = a ∧ i = j then x else v.1 c i) = _
  rw [lkI]
  by_cases e : c = a ∧ i = j
  · obtain ⟨rfl, rfl⟩ := e
    rw [if_pos ⟨rfl, rfl⟩, if_pos ha]; dsimp only; rw [if_pos ⟨rfl, rfl⟩]
  · rw [if_neg e, h.1 c i]; dsimp only; rw [if_neg (c := a = c ∧ j = i) (fun q => e ⟨q.1.symm, q.2.symm⟩)], h.2.1, h.2.2⟩
theorem iv_lng (h : IN N b I R v) (ha : N ≤ a) (k : ∀ v', IN N b I R v' → EvP X d M pc ls st T v' P) : EvP X d M pc ls st T (uL v a j 0) P := k _ ⟨h.1, fun c i => by
  show (if c = a ∧ i = j then 0 else v.2.1 c i) = _
  by_cases e : c = a ∧ i = j
  · rw [if_pos e, if_pos (by rw [e.1]; exact ha)]
  · rw [if_neg e]; exact h.2.1 c i, h.2.2⟩
theorem iv_ref {x : Nat} (h : IN N b I R v) (ha : N ≤ a) (k : ∀ v', IN N b I ((a, j, x) :: R) v' → EvP X d M pc ls st T v' P) : EvP X d M pc ls st T (uR v a j (some x)) P := k _ ⟨h.1, h.2.1, fun c i => by
  show (if c = a ∧ i = j then some x else v.2.2 c i) = _
  rw [lkR]
  by_cases e : c = a ∧ i = j
  · obtain ⟨rfl, rfl⟩ := e
    rw [if_pos ⟨rfl, rfl⟩, if_pos ha]; dsimp only; rw [if_pos ⟨rfl, rfl⟩]
  · rw [if_neg e, h.2.2 c i]; dsimp only; rw [if_neg (c := a = c ∧ j = i) (fun q => e ⟨q.1.symm, q.2.symm⟩)]⟩
theorem iv_new {n a : Nat} {t : Nat × Nat} (h : IN N b I R v) (ha : 32 + (pmT0.take n).length = a) (hN : N ≤ a) (hT : pmT0.take n ++ [t] = pmT0.take (n + 1)) (h1 : ∀ q ∈ I, q.1 ≠ a) (h2 : ∀ q ∈ R, q.1 ≠ a) (k : ∀ v', IN N b I R v' → EvP X d M pc ls (.ref a :: st) (pmT0.take (n + 1)) v' P) : EvP X d M pc ls (.ref (32 + (pmT0.take n).length) :: st) (pmT0.take n ++ [t]) (pmNew v (32 + (pmT0.take n).length)) P := by
  rw [ha, hT]
  refine k _ ⟨fun c i => ?_, fun c i => ?_, fun c i => ?_⟩
  · show (if c = a then 0 else v.1 c i) = _
    by_cases e : c = a
    · rw [if_pos e, e, if_pos hN, lkI_no h1]
    · rw [if_neg e]; exact h.1 c i
  · show (if c = a then 0 else v.2.1 c i) = _
    by_cases e : c = a
    · rw [if_pos e, e, if_pos hN]
    · rw [if_neg e]; exact h.2.1 c i
  · show (if c = a then none else v.2.2 c i) = _
    by_cases e : c = a
    · rw [if_pos e, e, if_pos hN, lkR_no h2]
    · rw [if_neg e]; exact h.2.2 c i
end IVS
theorem tq {n a : Nat} {t : Nat × Nat} (h : a - 32 < n) (ht : (pmT0 ++ [])[a - 32]? = some t) : (pmT0.take n)[a - 32]? = some t := by
  rw [List.append_nil] at ht
  rw [List.getElem?_take, if_pos h]; exact ht
def iI0 : List (Nat × Nat × Int32) := [(98, 0, -1), (96, 0, -1), (94, 0, -1), (92, 0, -1), (53, 3, -1), (53, 2, 2), (37, 3, -1), (37, 2, 2), (34, 3, -1), (34, 2, 2)]
def iR0 : List (Nat × Nat × Nat) := [(50, 3, 98), (98, 2, 99), (50, 2, 96), (96, 2, 97), (50, 1, 94), (94, 2, 95), (50, 0, 92), (92, 2, 93), (40, 5, 88), (88, 2, 91), (88, 1, 90), (88, 0, 89), (40, 4, 84), (84, 2, 87), (84, 1, 86), (84, 0, 85), (40, 3, 80), (80, 2, 83), (80, 1, 82), (80, 0, 81), (40, 2, 76), (76, 2, 79), (76, 1, 78), (76, 0, 77), (40, 1, 72), (72, 2, 75), (72, 1, 74), (72, 0, 73), (40, 0, 68), (68, 2, 71), (68, 1, 70), (68, 0, 69), (32, 10, 67), (32, 9, 51), (51, 14, 66), (51, 13, 65), (51, 12, 64), (51, 11, 63), (51, 10, 62), (51, 9, 61), (51, 4, 60), (51, 3, 56), (56, 2, 59), (56, 1, 58), (56, 0, 57), (51, 2, 53), (53, 1, 55), (53, 0, 54), (51, 0, 52), (32, 8, 50), (32, 7, 41), (41, 6, 46), (46, 2, 49), (46, 1, 48), (46, 0, 47), (41, 4, 45), (41, 3, 44), (41, 2, 43), (41, 0, 42), (32, 5, 40), (32, 3, 37), (37, 1, 39), (37, 0, 38), (32, 2, 34), (34, 1, 36), (34, 0, 35), (32, 0, 33)]
set_option maxHeartbeats 4000000 in
theorem c_X11_init1 {X : pmX} {d : Nat} {v : pmV} {P : Option Value → pmT → pmV → Prop} (hI : IN 32 pmV0 [] [] v) (K : ∀ v, IN 32 pmV0 iI0 iR0 v → EvP X (d + 60) MX11_init 134 [.ref 32, .int 4] [] (pmT0.take 68) v P) : EvP X (d + 60) MX11_init 0 [.ref 32, pmJ] [] (pmT0.take 1) v P := by
  refine ev_aload_n 0 dX11_init_0 rfl (by decide) ?_
  refine ev_obj 1 dX11_init_1 ob_11_1 (by decide) (Nat.le_of_ble_eq_true rfl) ?_
  refine ev_aload_n 4 dX11_init_4 rfl (by decide) ?_
  refine ev_bipush 5 dX11_init_5 kB_8 ?_
  refine ev_anew (n := 8) 7 dX11_init_7 rfl (by decide) (by decide) (by decide) ?_
  refine iv_new (n := 1) (a := 33) hI (by decide +kernel) (by decide) (by decide +kernel) (by decide) (by decide) (fun v hI => ?_)
  refine pf_11_11 (hN := nm_X11_init) (pc := 10) rfl dX11_init_10 (by decide +kernel) (Nat.le_of_ble_eq_true rfl) ?_
  refine iv_ref hI (by decide) (fun v hI => ?_)
  refine ev_aload_n 13 dX11_init_13 rfl (by decide) ?_
  refine ev_new 14 dX11_init_14 rfl (by decide) ?_
  refine iv_new (n := 2) (a := 34) hI (by decide +kernel) (by decide) (by decide +kernel) (by decide) (by decide) (fun v hI => ?_)
  refine ev_dup 17 dX11_init_17 rfl ?_
  refine cp_11_17 (pc := 18) (ci := 5) rfl dX11_init_18 (by decide +kernel) (Nat.le_of_ble_eq_true rfl) (by decide) ?_
  refine ev_aload_n 0 dX5_init_0 rfl (by decide) ?_
  refine ev_obj 1 dX5_init_1 ob_5_3 (by decide) (Nat.le_of_ble_eq_true rfl) ?_
  refine ev_aload_n 4 dX5_init_4 rfl (by decide) ?_
  refine ev_bipush 5 dX5_init_5 kB_120 ?_
  refine ev_newi (n := 120) 7 dX5_init_7 (by decide) (by decide) ?_
  refine iv_new (n := 3) (a := 35) hI (by decide +kernel) (by decide) (by decide +kernel) (by decide) (by decide) (fun v hI => ?_)
  refine pf_5_9 (hN := nm_X5_init) (pc := 9) rfl dX5_init_9 (by decide +kernel) (Nat.le_of_ble_eq_true rfl) ?_
  refine iv_ref hI (by decide) (fun v hI => ?_)
  refine ev_aload_n 12 dX5_init_12 rfl (by decide) ?_
  refine ev_bipush 13 dX5_init_13 kB_120 ?_
  refine ev_newi (n := 120) 15 dX5_init_15 (by decide) (by decide) ?_
  refine iv_new (n := 4) (a := 36) hI (by decide +kernel) (by decide) (by decide +kernel) (by decide) (by decide) (fun v hI => ?_)
  refine pf_5_15 (hN := nm_X5_init) (pc := 17) rfl dX5_init_17 (by decide +kernel) (Nat.le_of_ble_eq_true rfl) ?_
  refine iv_ref hI (by decide) (fun v hI => ?_)
  refine ev_aload_n 20 dX5_init_20 rfl (by decide) ?_
  refine ev_iconst 21 dX5_init_21 kI_2 ?_
  refine pf_5_18 (pc := 22) rfl dX5_init_22 (by decide +kernel) ?_
  refine iv_put hI (by decide) (fun v hI => ?_)
  refine ev_aload_n 25 dX5_init_25 rfl (by decide) ?_
  refine ev_iconst 26 dX5_init_26 kI_m1 ?_
  refine pf_5_22 (pc := 27) rfl dX5_init_27 (by decide +kernel) ?_
  refine iv_put hI (by decide) (fun v hI => ?_)
  refine ev_return 30 dX5_init_30 rfl ?_
  refine pf_11_18 (hN := nm_X11_init) (pc := 21) rfl dX11_init_21 (by decide +kernel) (Nat.le_of_ble_eq_true rfl) ?_
  refine iv_ref hI (by decide) (fun v hI => ?_)
  refine ev_aload_n 24 dX11_init_24 rfl (by decide) ?_
  refine ev_new 25 dX11_init_25 rfl (by decide) ?_
  refine iv_new (n := 5) (a := 37) hI (by decide +kernel) (by decide) (by decide +kernel) (by decide) (by decide) (fun v hI => ?_)
  refine ev_dup 28 dX11_init_28 rfl ?_
  refine cp_11_17 (pc := 29) (ci := 5) rfl dX11_init_29 (by decide +kernel) (Nat.le_of_ble_eq_true rfl) (by decide) ?_
  refine ev_aload_n 0 dX5_init_0 rfl (by decide) ?_
  refine ev_obj 1 dX5_init_1 ob_5_3 (by decide) (Nat.le_of_ble_eq_true rfl) ?_
  refine ev_aload_n 4 dX5_init_4 rfl (by decide) ?_
  refine ev_bipush 5 dX5_init_5 kB_120 ?_
  refine ev_newi (n := 120) 7 dX5_init_7 (by decide) (by decide) ?_
  refine iv_new (n := 6) (a := 38) hI (by decide +kernel) (by decide) (by decide +kernel) (by decide) (by decide) (fun v hI => ?_)
  refine pf_5_9 (hN := nm_X5_init) (pc := 9) rfl dX5_init_9 (by decide +kernel) (Nat.le_of_ble_eq_true rfl) ?_
  refine iv_ref hI (by decide) (fun v hI => ?_)
  refine ev_aload_n 12 dX5_init_12 rfl (by decide) ?_
  refine ev_bipush 13 dX5_init_13 kB_120 ?_
  refine ev_newi (n := 120) 15 dX5_init_15 (by decide) (by decide) ?_
  refine iv_new (n := 7) (a := 39) hI (by decide +kernel) (by decide) (by decide +kernel) (by decide) (by decide) (fun v hI => ?_)
  refine pf_5_15 (hN := nm_X5_init) (pc := 17) rfl dX5_init_17 (by decide +kernel) (Nat.le_of_ble_eq_true rfl) ?_
  refine iv_ref hI (by decide) (fun v hI => ?_)
  refine ev_aload_n 20 dX5_init_20 rfl (by decide) ?_
  refine ev_iconst 21 dX5_init_21 kI_2 ?_
  refine pf_5_18 (pc := 22) rfl dX5_init_22 (by decide +kernel) ?_
  refine iv_put hI (by decide) (fun v hI => ?_)
  refine ev_aload_n 25 dX5_init_25 rfl (by decide) ?_
  refine ev_iconst 26 dX5_init_26 kI_m1 ?_
  refine pf_5_22 (pc := 27) rfl dX5_init_27 (by decide +kernel) ?_
  refine iv_put hI (by decide) (fun v hI => ?_)
  refine ev_return 30 dX5_init_30 rfl ?_
  refine pf_11_22 (hN := nm_X11_init) (pc := 32) rfl dX11_init_32 (by decide +kernel) (Nat.le_of_ble_eq_true rfl) ?_
  refine iv_ref hI (by decide) (fun v hI => ?_)
  refine ev_aload_n 35 dX11_init_35 rfl (by decide) ?_
  refine ev_bipush 36 dX11_init_36 kB_6 ?_
  refine ev_anew (n := 6) 38 dX11_init_38 rfl (by decide) (by decide) (by decide) ?_
  refine iv_new (n := 8) (a := 40) hI (by decide +kernel) (by decide) (by decide +kernel) (by decide) (by decide) (fun v hI => ?_)
  refine pf_11_27 (hN := nm_X11_init) (pc := 41) rfl dX11_init_41 (by decide +kernel) (Nat.le_of_ble_eq_true rfl) ?_
  refine iv_ref hI (by decide) (fun v hI => ?_)
  refine ev_aload_n 44 dX11_init_44 rfl (by decide) ?_
  refine ev_new 45 dX11_init_45 rfl (by decide) ?_
  refine iv_new (n := 9) (a := 41) hI (by decide +kernel) (by decide) (by decide +kernel) (by decide) (by decide) (fun v hI => ?_)
  refine ev_dup 48 dX11_init_48 rfl ?_
  refine cp_11_33 (pc := 49) (ci := 4) rfl dX11_init_49 (by decide +kernel) (Nat.le_of_ble_eq_true rfl) (by decide) ?_
  refine ev_aload_n 0 dX4_init_0 rfl (by decide) ?_
  refine ev_obj 1 dX4_init_1 ob_4_3 (by decide) (Nat.le_of_ble_eq_true rfl) ?_
  refine ev_aload_n 4 dX4_init_4 rfl (by decide) ?_
  refine ev_sipush 5 dX4_init_5 kS_160 ?_
  refine ev_newi (n := 160) 8 dX4_init_8 (by decide) (by decide) ?_
  refine iv_new (n := 10) (a := 42) hI (by decide +kernel) (by decide) (by decide +kernel) (by decide) (by decide) (fun v hI => ?_)
  refine pf_4_9 (hN := nm_X4_init) (pc := 10) rfl dX4_init_10 (by decide +kernel) (Nat.le_of_ble_eq_true rfl) ?_
  refine iv_ref hI (by decide) (fun v hI => ?_)
  refine ev_aload_n 13 dX4_init_13 rfl (by decide) ?_
  refine ev_sipush 14 dX4_init_14 kS_161 ?_
  refine ev_newi (n := 161) 17 dX4_init_17 (by decide) (by decide) ?_
  refine iv_new (n := 11) (a := 43) hI (by decide +kernel) (by decide) (by decide +kernel) (by decide) (by decide) (fun v hI => ?_)
  refine pf_4_15 (hN := nm_X4_init) (pc := 19) rfl dX4_init_19 (by decide +kernel) (Nat.le_of_ble_eq_true rfl) ?_
  refine iv_ref hI (by decide) (fun v hI => ?_)
  refine ev_aload_n 22 dX4_init_22 rfl (by decide) ?_
  refine ev_sipush 23 dX4_init_23 kS_161 ?_
  refine ev_newi (n := 161) 26 dX4_init_26 (by decide) (by decide) ?_
  refine iv_new (n := 12) (a := 44) hI (by decide +kernel) (by decide) (by decide +kernel) (by decide) (by decide) (fun v hI => ?_)
  refine pf_4_18 (hN := nm_X4_init) (pc := 28) rfl dX4_init_28 (by decide +kernel) (Nat.le_of_ble_eq_true rfl) ?_
  refine iv_ref hI (by decide) (fun v hI => ?_)
  refine ev_aload_n 31 dX4_init_31 rfl (by decide) ?_
  refine ev_sipush 32 dX4_init_32 kS_161 ?_
  refine ev_newi (n := 161) 35 dX4_init_35 (by decide) (by decide) ?_
  refine iv_new (n := 13) (a := 45) hI (by decide +kernel) (by decide) (by decide +kernel) (by decide) (by decide) (fun v hI => ?_)
  refine pf_4_21 (hN := nm_X4_init) (pc := 37) rfl dX4_init_37 (by decide +kernel) (Nat.le_of_ble_eq_true rfl) ?_
  refine iv_ref hI (by decide) (fun v hI => ?_)
  refine ev_aload_n 40 dX4_init_40 rfl (by decide) ?_
  refine ev_new 41 dX4_init_41 rfl (by decide) ?_
  refine iv_new (n := 14) (a := 46) hI (by decide +kernel) (by decide) (by decide +kernel) (by decide) (by decide) (fun v hI => ?_)
  refine ev_dup 44 dX4_init_44 rfl ?_
  refine cp_4_26 (pc := 45) (ci := 9) rfl dX4_init_45 (by decide +kernel) (Nat.le_of_ble_eq_true rfl) (by decide) ?_
  refine ev_aload_n 0 dX9_init_0 rfl (by decide) ?_
  refine ev_obj 1 dX9_init_1 ob_9_3 (by decide) (Nat.le_of_ble_eq_true rfl) ?_
  refine ev_aload_n 4 dX9_init_4 rfl (by decide) ?_
  refine ev_sipush 5 dX9_init_5 kS_160 ?_
  refine ev_newi (n := 160) 8 dX9_init_8 (by decide) (by decide) ?_
  refine iv_new (n := 15) (a := 47) hI (by decide +kernel) (by decide) (by decide +kernel) (by decide) (by decide) (fun v hI => ?_)
  refine pf_9_9 (hN := nm_X9_init) (pc := 10) rfl dX9_init_10 (by decide +kernel) (Nat.le_of_ble_eq_true rfl) ?_
  refine iv_ref hI (by decide) (fun v hI => ?_)
  refine ev_aload_n 13 dX9_init_13 rfl (by decide) ?_
  refine ev_iconst 14 dX9_init_14 kI_3 ?_
  refine ev_newi (n := 3) 15 dX9_init_15 (by decide) (by decide) ?_
  refine iv_new (n := 16) (a := 48) hI (by decide +kernel) (by decide) (by decide +kernel) (by decide) (by decide) (fun v hI => ?_)
  refine pf_9_15 (hN := nm_X9_init) (pc := 17) rfl dX9_init_17 (by decide +kernel) (Nat.le_of_ble_eq_true rfl) ?_
  refine iv_ref hI (by decide) (fun v hI => ?_)
  refine ev_aload_n 20 dX9_init_20 rfl (by decide) ?_
  refine ev_sipush 21 dX9_init_21 kS_160 ?_
  refine ev_newi (n := 160) 24 dX9_init_24 (by decide) (by decide) ?_
  refine iv_new (n := 17) (a := 49) hI (by decide +kernel) (by decide) (by decide +kernel) (by decide) (by decide) (fun v hI => ?_)
  refine pf_9_18 (hN := nm_X9_init) (pc := 26) rfl dX9_init_26 (by decide +kernel) (Nat.le_of_ble_eq_true rfl) ?_
  refine iv_ref hI (by decide) (fun v hI => ?_)
  refine ev_return 29 dX9_init_29 rfl ?_
  refine pf_4_27 (pc := 48) rfl dX4_init_48 (by decide +kernel) (Nat.le_of_ble_eq_true rfl) ?_
  refine iv_ref hI (by decide) (fun v hI => ?_)
  refine ev_return 51 dX4_init_51 rfl ?_
  refine pf_11_34 (hN := nm_X11_init) (pc := 52) rfl dX11_init_52 (by decide +kernel) (Nat.le_of_ble_eq_true rfl) ?_
  refine iv_ref hI (by decide) (fun v hI => ?_)
  refine ev_aload_n 55 dX11_init_55 rfl (by decide) ?_
  refine ev_iconst 56 dX11_init_56 kI_4 ?_
  refine ev_anew (n := 4) 57 dX11_init_57 rfl (by decide) (by decide) (by decide) ?_
  refine iv_new (n := 18) (a := 50) hI (by decide +kernel) (by decide) (by decide +kernel) (by decide) (by decide) (fun v hI => ?_)
  refine pf_11_40 (hN := nm_X11_init) (pc := 60) rfl dX11_init_60 (by decide +kernel) (Nat.le_of_ble_eq_true rfl) ?_
  refine iv_ref hI (by decide) (fun v hI => ?_)
  refine ev_aload_n 63 dX11_init_63 rfl (by decide) ?_
  refine ev_new 64 dX11_init_64 rfl (by decide) ?_
  refine iv_new (n := 19) (a := 51) hI (by decide +kernel) (by decide) (by decide +kernel) (by decide) (by decide) (fun v hI => ?_)
  refine ev_dup 67 dX11_init_67 rfl ?_
  refine cp_11_46 (pc := 68) (ci := 1) rfl dX11_init_68 (by decide +kernel) (Nat.le_of_ble_eq_true rfl) (by decide) ?_
  refine ev_aload_n 0 dX1_init_0 rfl (by decide) ?_
  refine ev_obj 1 dX1_init_1 ob_1_3 (by decide) (Nat.le_of_ble_eq_true rfl) ?_
  refine ev_aload_n 4 dX1_init_4 rfl (by decide) ?_
  refine ev_iconst 5 dX1_init_5 kI_0 ?_
  refine ev_anew (n := 0) 6 dX1_init_6 rfl (by decide) (by decide) (by decide) ?_
  refine iv_new (n := 20) (a := 52) hI (by decide +kernel) (by decide) (by decide +kernel) (by decide) (by decide) (fun v hI => ?_)
  refine pf_1_11 (pc := 9) rfl dX1_init_9 (by decide +kernel) (Nat.le_of_ble_eq_true rfl) ?_
  refine iv_ref hI (by decide) (fun v hI => ?_)
  refine ev_aload_n 12 dX1_init_12 rfl (by decide) ?_
  refine ev_new 13 dX1_init_13 rfl (by decide) ?_
  refine iv_new (n := 21) (a := 53) hI (by decide +kernel) (by decide) (by decide +kernel) (by decide) (by decide) (fun v hI => ?_)
  refine ev_dup 16 dX1_init_16 rfl ?_
  refine cp_1_19 (pc := 17) (ci := 5) rfl dX1_init_17 (by decide +kernel) (Nat.le_of_ble_eq_true rfl) (by decide) ?_
  refine ev_aload_n 0 dX5_init_0 rfl (by decide) ?_
  refine ev_obj 1 dX5_init_1 ob_5_3 (by decide) (Nat.le_of_ble_eq_true rfl) ?_
  refine ev_aload_n 4 dX5_init_4 rfl (by decide) ?_
  refine ev_bipush 5 dX5_init_5 kB_120 ?_
  refine ev_newi (n := 120) 7 dX5_init_7 (by decide) (by decide) ?_
  refine iv_new (n := 22) (a := 54) hI (by decide +kernel) (by decide) (by decide +kernel) (by decide) (by decide) (fun v hI => ?_)
  refine pf_5_9 (hN := nm_X5_init) (pc := 9) rfl dX5_init_9 (by decide +kernel) (Nat.le_of_ble_eq_true rfl) ?_
  refine iv_ref hI (by decide) (fun v hI => ?_)
  refine ev_aload_n 12 dX5_init_12 rfl (by decide) ?_
  refine ev_bipush 13 dX5_init_13 kB_120 ?_
  refine ev_newi (n := 120) 15 dX5_init_15 (by decide) (by decide) ?_
  refine iv_new (n := 23) (a := 55) hI (by decide +kernel) (by decide) (by decide +kernel) (by decide) (by decide) (fun v hI => ?_)
  refine pf_5_15 (hN := nm_X5_init) (pc := 17) rfl dX5_init_17 (by decide +kernel) (Nat.le_of_ble_eq_true rfl) ?_
  refine iv_ref hI (by decide) (fun v hI => ?_)
  refine ev_aload_n 20 dX5_init_20 rfl (by decide) ?_
  refine ev_iconst 21 dX5_init_21 kI_2 ?_
  refine pf_5_18 (pc := 22) rfl dX5_init_22 (by decide +kernel) ?_
  refine iv_put hI (by decide) (fun v hI => ?_)
  refine ev_aload_n 25 dX5_init_25 rfl (by decide) ?_
  refine ev_iconst 26 dX5_init_26 kI_m1 ?_
  refine pf_5_22 (pc := 27) rfl dX5_init_27 (by decide +kernel) ?_
  refine iv_put hI (by decide) (fun v hI => ?_)
  refine ev_return 30 dX5_init_30 rfl ?_
  refine pf_1_20 (pc := 20) rfl dX1_init_20 (by decide +kernel) (Nat.le_of_ble_eq_true rfl) ?_
  refine iv_ref hI (by decide) (fun v hI => ?_)
  refine ev_aload_n 23 dX1_init_23 rfl (by decide) ?_
  refine ev_new 24 dX1_init_24 rfl (by decide) ?_
  refine iv_new (n := 24) (a := 56) hI (by decide +kernel) (by decide) (by decide +kernel) (by decide) (by decide) (fun v hI => ?_)
  refine ev_dup 27 dX1_init_27 rfl ?_
  refine cp_1_26 (pc := 28) (ci := 9) rfl dX1_init_28 (by decide +kernel) (Nat.le_of_ble_eq_true rfl) (by decide) ?_
  refine ev_aload_n 0 dX9_init_0 rfl (by decide) ?_
  refine ev_obj 1 dX9_init_1 ob_9_3 (by decide) (Nat.le_of_ble_eq_true rfl) ?_
  refine ev_aload_n 4 dX9_init_4 rfl (by decide) ?_
  refine ev_sipush 5 dX9_init_5 kS_160 ?_
  refine ev_newi (n := 160) 8 dX9_init_8 (by decide) (by decide) ?_
  refine iv_new (n := 25) (a := 57) hI (by decide +kernel) (by decide) (by decide +kernel) (by decide) (by decide) (fun v hI => ?_)
  refine pf_9_9 (hN := nm_X9_init) (pc := 10) rfl dX9_init_10 (by decide +kernel) (Nat.le_of_ble_eq_true rfl) ?_
  refine iv_ref hI (by decide) (fun v hI => ?_)
  refine ev_aload_n 13 dX9_init_13 rfl (by decide) ?_
  refine ev_iconst 14 dX9_init_14 kI_3 ?_
  refine ev_newi (n := 3) 15 dX9_init_15 (by decide) (by decide) ?_
  refine iv_new (n := 26) (a := 58) hI (by decide +kernel) (by decide) (by decide +kernel) (by decide) (by decide) (fun v hI => ?_)
  refine pf_9_15 (hN := nm_X9_init) (pc := 17) rfl dX9_init_17 (by decide +kernel) (Nat.le_of_ble_eq_true rfl) ?_
  refine iv_ref hI (by decide) (fun v hI => ?_)
  refine ev_aload_n 20 dX9_init_20 rfl (by decide) ?_
  refine ev_sipush 21 dX9_init_21 kS_160 ?_
  refine ev_newi (n := 160) 24 dX9_init_24 (by decide) (by decide) ?_
  refine iv_new (n := 27) (a := 59) hI (by decide +kernel) (by decide) (by decide +kernel) (by decide) (by decide) (fun v hI => ?_)
  refine pf_9_18 (hN := nm_X9_init) (pc := 26) rfl dX9_init_26 (by decide +kernel) (Nat.le_of_ble_eq_true rfl) ?_
  refine iv_ref hI (by decide) (fun v hI => ?_)
  refine ev_return 29 dX9_init_29 rfl ?_
  refine pf_1_27 (pc := 31) rfl dX1_init_31 (by decide +kernel) (Nat.le_of_ble_eq_true rfl) ?_
  refine iv_ref hI (by decide) (fun v hI => ?_)
  refine ev_aload_n 34 dX1_init_34 rfl (by decide) ?_
  refine ev_bipush 35 dX1_init_35 kB_60 ?_
  refine ev_newi (n := 60) 37 dX1_init_37 (by decide) (by decide) ?_
  refine iv_new (n := 28) (a := 60) hI (by decide +kernel) (by decide) (by decide +kernel) (by decide) (by decide) (fun v hI => ?_)
  refine pf_1_31 (hN := nm_X1_init) (pc := 39) rfl dX1_init_39 (by decide +kernel) (Nat.le_of_ble_eq_true rfl) ?_
  refine iv_ref hI (by decide) (fun v hI => ?_)
  refine ev_aload_n 42 dX1_init_42 rfl (by decide) ?_
  refine ev_bipush 43 dX1_init_43 kB_8 ?_
  refine ev_newi (n := 8) 45 dX1_init_45 (by decide) (by decide) ?_
  refine iv_new (n := 29) (a := 61) hI (by decide +kernel) (by decide) (by decide +kernel) (by decide) (by decide) (fun v hI => ?_)
  refine pf_1_35 (hN := nm_X1_init) (pc := 47) rfl dX1_init_47 (by decide +kernel) (Nat.le_of_ble_eq_true rfl) ?_
  refine iv_ref hI (by decide) (fun v hI => ?_)
  refine ev_aload_n 50 dX1_init_50 rfl (by decide) ?_
  refine ev_bipush 51 dX1_init_51 kB_8 ?_
  refine ev_newi (n := 8) 53 dX1_init_53 (by decide) (by decide) ?_
  refine iv_new (n := 30) (a := 62) hI (by decide +kernel) (by decide) (by decide +kernel) (by decide) (by decide) (fun v hI => ?_)
  refine pf_1_38 (hN := nm_X1_init) (pc := 55) rfl dX1_init_55 (by decide +kernel) (Nat.le_of_ble_eq_true rfl) ?_
  refine iv_ref hI (by decide) (fun v hI => ?_)
  refine ev_aload_n 58 dX1_init_58 rfl (by decide) ?_
  refine ev_iconst 59 dX1_init_59 kI_2 ?_
  refine ev_newi (n := 2) 60 dX1_init_60 (by decide) (by decide) ?_
  refine iv_new (n := 31) (a := 63) hI (by decide +kernel) (by decide) (by decide +kernel) (by decide) (by decide) (fun v hI => ?_)
  refine pf_1_41 (hN := nm_X1_init) (pc := 62) rfl dX1_init_62 (by decide +kernel) (Nat.le_of_ble_eq_true rfl) ?_
  refine iv_ref hI (by decide) (fun v hI => ?_)
  refine ev_aload_n 65 dX1_init_65 rfl (by decide) ?_
  refine ev_iconst 66 dX1_init_66 kI_2 ?_
  refine ev_newi (n := 2) 67 dX1_init_67 (by decide) (by decide) ?_
  refine iv_new (n := 32) (a := 64) hI (by decide +kernel) (by decide) (by decide +kernel) (by decide) (by decide) (fun v hI => ?_)
  refine pf_1_44 (hN := nm_X1_init) (pc := 69) rfl dX1_init_69 (by decide +kernel) (Nat.le_of_ble_eq_true rfl) ?_
  refine iv_ref hI (by decide) (fun v hI => ?_)
  refine ev_aload_n 72 dX1_init_72 rfl (by decide) ?_
  refine ev_iconst 73 dX1_init_73 kI_2 ?_
  refine ev_newi (n := 2) 74 dX1_init_74 (by decide) (by decide) ?_
  refine iv_new (n := 33) (a := 65) hI (by decide +kernel) (by decide) (by decide +kernel) (by decide) (by decide) (fun v hI => ?_)
  refine pf_1_47 (hN := nm_X1_init) (pc := 76) rfl dX1_init_76 (by decide +kernel) (Nat.le_of_ble_eq_true rfl) ?_
  refine iv_ref hI (by decide) (fun v hI => ?_)
  refine ev_aload_n 79 dX1_init_79 rfl (by decide) ?_
  refine ev_bipush 80 dX1_init_80 kB_6 ?_
  refine ev_newi (n := 6) 82 dX1_init_82 (by decide) (by decide) ?_
  refine iv_new (n := 34) (a := 66) hI (by decide +kernel) (by decide) (by decide +kernel) (by decide) (by decide) (fun v hI => ?_)
  refine pf_1_52 (hN := nm_X1_init) (pc := 84) rfl dX1_init_84 (by decide +kernel) (Nat.le_of_ble_eq_true rfl) ?_
  refine iv_ref hI (by decide) (fun v hI => ?_)
  refine ev_return 87 dX1_init_87 rfl ?_
  refine pf_11_47 (hN := nm_X11_init) (pc := 71) rfl dX11_init_71 (by decide +kernel) (Nat.le_of_ble_eq_true rfl) ?_
  refine iv_ref hI (by decide) (fun v hI => ?_)
  refine ev_aload_n 74 dX11_init_74 rfl (by decide) ?_
  refine ev_iconst 75 dX11_init_75 kI_4 ?_
  refine ev_newl (n := 4) 76 dX11_init_76 (by decide) (by decide) ?_
  refine iv_new (n := 35) (a := 67) hI (by decide +kernel) (by decide) (by decide +kernel) (by decide) (by decide) (fun v hI => ?_)
  refine pf_11_51 (hN := nm_X11_init) (pc := 78) rfl dX11_init_78 (by decide +kernel) (Nat.le_of_ble_eq_true rfl) ?_
  refine iv_ref hI (by decide) (fun v hI => ?_)
  refine ev_iconst 81 dX11_init_81 kI_0 ?_
  refine ev_istore_n (ls' := [.ref 32, .int 0]) 82 dX11_init_82 (Nat.le_of_ble_eq_true rfl) rfl ?_
  refine ev_iload_n 83 dX11_init_83 rfl ?_
  refine ev_bipush 84 dX11_init_84 kB_6 ?_
  refine ev_icF 86 108 dX11_init_86 rfl (by decide) ?_
  refine ev_aload_n 89 dX11_init_89 rfl (by decide) ?_
  refine gf_11_27 (pc := 90) rfl dX11_init_90 (by decide +kernel) (hI.rr (x := some 40) (by decide) (by decide +kernel)) ?_
  refine ev_iload_n 93 dX11_init_93 rfl ?_
  refine ev_new 94 dX11_init_94 rfl (by decide) ?_
  refine iv_new (n := 36) (a := 68) hI (by decide +kernel) (by decide) (by decide +kernel) (by decide) (by decide) (fun v hI => ?_)
  refine ev_dup 97 dX11_init_97 rfl ?_
  refine cp_11_55 (pc := 98) (ci := 9) rfl dX11_init_98 (by decide +kernel) (Nat.le_of_ble_eq_true rfl) (by decide) ?_
  refine ev_aload_n 0 dX9_init_0 rfl (by decide) ?_
  refine ev_obj 1 dX9_init_1 ob_9_3 (by decide) (Nat.le_of_ble_eq_true rfl) ?_
  refine ev_aload_n 4 dX9_init_4 rfl (by decide) ?_
  refine ev_sipush 5 dX9_init_5 kS_160 ?_
  refine ev_newi (n := 160) 8 dX9_init_8 (by decide) (by decide) ?_
  refine iv_new (n := 37) (a := 69) hI (by decide +kernel) (by decide) (by decide +kernel) (by decide) (by decide) (fun v hI => ?_)
  refine pf_9_9 (hN := nm_X9_init) (pc := 10) rfl dX9_init_10 (by decide +kernel) (Nat.le_of_ble_eq_true rfl) ?_
  refine iv_ref hI (by decide) (fun v hI => ?_)
  refine ev_aload_n 13 dX9_init_13 rfl (by decide) ?_
  refine ev_iconst 14 dX9_init_14 kI_3 ?_
  refine ev_newi (n := 3) 15 dX9_init_15 (by decide) (by decide) ?_
  refine iv_new (n := 38) (a := 70) hI (by decide +kernel) (by decide) (by decide +kernel) (by decide) (by decide) (fun v hI => ?_)
  refine pf_9_15 (hN := nm_X9_init) (pc := 17) rfl dX9_init_17 (by decide +kernel) (Nat.le_of_ble_eq_true rfl) ?_
  refine iv_ref hI (by decide) (fun v hI => ?_)
  refine ev_aload_n 20 dX9_init_20 rfl (by decide) ?_
  refine ev_sipush 21 dX9_init_21 kS_160 ?_
  refine ev_newi (n := 160) 24 dX9_init_24 (by decide) (by decide) ?_
  refine iv_new (n := 39) (a := 71) hI (by decide +kernel) (by decide) (by decide +kernel) (by decide) (by decide) (fun v hI => ?_)
  refine pf_9_18 (hN := nm_X9_init) (pc := 26) rfl dX9_init_26 (by decide +kernel) (Nat.le_of_ble_eq_true rfl) ?_
  refine iv_ref hI (by decide) (fun v hI => ?_)
  refine ev_return 29 dX9_init_29 rfl ?_
  refine ev_aast (k0 := 23) (n := 6) (ci := 9) (m0 := 3) 101 dX11_init_101 (by decide) (by decide) (by decide +kernel) (by decide +kernel) (by decide) (by decide) (by decide) ?_
  rw [show (0 : Int32).toNatClampNeg = 0 from rfl]
  refine iv_ref hI (by decide) (fun v hI => ?_)
  refine ev_iinc (y := 1) (ls' := [.ref 32, .int 1]) 102 dX11_init_102 rfl (by decide) rfl ?_
  refine ev_goto 105 83 dX11_init_105 rfl ?_
  refine ev_iload_n 83 dX11_init_83 rfl ?_
  refine ev_bipush 84 dX11_init_84 kB_6 ?_
  refine ev_icF 86 108 dX11_init_86 rfl (by decide) ?_
  refine ev_aload_n 89 dX11_init_89 rfl (by decide) ?_
  refine gf_11_27 (pc := 90) rfl dX11_init_90 (by decide +kernel) (hI.rr (x := some 40) (by decide) (by decide +kernel)) ?_
  refine ev_iload_n 93 dX11_init_93 rfl ?_
  refine ev_new 94 dX11_init_94 rfl (by decide) ?_
  refine iv_new (n := 40) (a := 72) hI (by decide +kernel) (by decide) (by decide +kernel) (by decide) (by decide) (fun v hI => ?_)
  refine ev_dup 97 dX11_init_97 rfl ?_
  refine cp_11_55 (pc := 98) (ci := 9) rfl dX11_init_98 (by decide +kernel) (Nat.le_of_ble_eq_true rfl) (by decide) ?_
  refine ev_aload_n 0 dX9_init_0 rfl (by decide) ?_
  refine ev_obj 1 dX9_init_1 ob_9_3 (by decide) (Nat.le_of_ble_eq_true rfl) ?_
  refine ev_aload_n 4 dX9_init_4 rfl (by decide) ?_
  refine ev_sipush 5 dX9_init_5 kS_160 ?_
  refine ev_newi (n := 160) 8 dX9_init_8 (by decide) (by decide) ?_
  refine iv_new (n := 41) (a := 73) hI (by decide +kernel) (by decide) (by decide +kernel) (by decide) (by decide) (fun v hI => ?_)
  refine pf_9_9 (hN := nm_X9_init) (pc := 10) rfl dX9_init_10 (by decide +kernel) (Nat.le_of_ble_eq_true rfl) ?_
  refine iv_ref hI (by decide) (fun v hI => ?_)
  refine ev_aload_n 13 dX9_init_13 rfl (by decide) ?_
  refine ev_iconst 14 dX9_init_14 kI_3 ?_
  refine ev_newi (n := 3) 15 dX9_init_15 (by decide) (by decide) ?_
  refine iv_new (n := 42) (a := 74) hI (by decide +kernel) (by decide) (by decide +kernel) (by decide) (by decide) (fun v hI => ?_)
  refine pf_9_15 (hN := nm_X9_init) (pc := 17) rfl dX9_init_17 (by decide +kernel) (Nat.le_of_ble_eq_true rfl) ?_
  refine iv_ref hI (by decide) (fun v hI => ?_)
  refine ev_aload_n 20 dX9_init_20 rfl (by decide) ?_
  refine ev_sipush 21 dX9_init_21 kS_160 ?_
  refine ev_newi (n := 160) 24 dX9_init_24 (by decide) (by decide) ?_
  refine iv_new (n := 43) (a := 75) hI (by decide +kernel) (by decide) (by decide +kernel) (by decide) (by decide) (fun v hI => ?_)
  refine pf_9_18 (hN := nm_X9_init) (pc := 26) rfl dX9_init_26 (by decide +kernel) (Nat.le_of_ble_eq_true rfl) ?_
  refine iv_ref hI (by decide) (fun v hI => ?_)
  refine ev_return 29 dX9_init_29 rfl ?_
  refine ev_aast (k0 := 23) (n := 6) (ci := 9) (m0 := 3) 101 dX11_init_101 (by decide) (by decide) (by decide +kernel) (by decide +kernel) (by decide) (by decide) (by decide) ?_
  rw [show (1 : Int32).toNatClampNeg = 1 from rfl]
  refine iv_ref hI (by decide) (fun v hI => ?_)
  refine ev_iinc (y := 2) (ls' := [.ref 32, .int 2]) 102 dX11_init_102 rfl (by decide) rfl ?_
  refine ev_goto 105 83 dX11_init_105 rfl ?_
  refine ev_iload_n 83 dX11_init_83 rfl ?_
  refine ev_bipush 84 dX11_init_84 kB_6 ?_
  refine ev_icF 86 108 dX11_init_86 rfl (by decide) ?_
  refine ev_aload_n 89 dX11_init_89 rfl (by decide) ?_
  refine gf_11_27 (pc := 90) rfl dX11_init_90 (by decide +kernel) (hI.rr (x := some 40) (by decide) (by decide +kernel)) ?_
  refine ev_iload_n 93 dX11_init_93 rfl ?_
  refine ev_new 94 dX11_init_94 rfl (by decide) ?_
  refine iv_new (n := 44) (a := 76) hI (by decide +kernel) (by decide) (by decide +kernel) (by decide) (by decide) (fun v hI => ?_)
  refine ev_dup 97 dX11_init_97 rfl ?_
  refine cp_11_55 (pc := 98) (ci := 9) rfl dX11_init_98 (by decide +kernel) (Nat.le_of_ble_eq_true rfl) (by decide) ?_
  refine ev_aload_n 0 dX9_init_0 rfl (by decide) ?_
  refine ev_obj 1 dX9_init_1 ob_9_3 (by decide) (Nat.le_of_ble_eq_true rfl) ?_
  refine ev_aload_n 4 dX9_init_4 rfl (by decide) ?_
  refine ev_sipush 5 dX9_init_5 kS_160 ?_
  refine ev_newi (n := 160) 8 dX9_init_8 (by decide) (by decide) ?_
  refine iv_new (n := 45) (a := 77) hI (by decide +kernel) (by decide) (by decide +kernel) (by decide) (by decide) (fun v hI => ?_)
  refine pf_9_9 (hN := nm_X9_init) (pc := 10) rfl dX9_init_10 (by decide +kernel) (Nat.le_of_ble_eq_true rfl) ?_
  refine iv_ref hI (by decide) (fun v hI => ?_)
  refine ev_aload_n 13 dX9_init_13 rfl (by decide) ?_
  refine ev_iconst 14 dX9_init_14 kI_3 ?_
  refine ev_newi (n := 3) 15 dX9_init_15 (by decide) (by decide) ?_
  refine iv_new (n := 46) (a := 78) hI (by decide +kernel) (by decide) (by decide +kernel) (by decide) (by decide) (fun v hI => ?_)
  refine pf_9_15 (hN := nm_X9_init) (pc := 17) rfl dX9_init_17 (by decide +kernel) (Nat.le_of_ble_eq_true rfl) ?_
  refine iv_ref hI (by decide) (fun v hI => ?_)
  refine ev_aload_n 20 dX9_init_20 rfl (by decide) ?_
  refine ev_sipush 21 dX9_init_21 kS_160 ?_
  refine ev_newi (n := 160) 24 dX9_init_24 (by decide) (by decide) ?_
  refine iv_new (n := 47) (a := 79) hI (by decide +kernel) (by decide) (by decide +kernel) (by decide) (by decide) (fun v hI => ?_)
  refine pf_9_18 (hN := nm_X9_init) (pc := 26) rfl dX9_init_26 (by decide +kernel) (Nat.le_of_ble_eq_true rfl) ?_
  refine iv_ref hI (by decide) (fun v hI => ?_)
  refine ev_return 29 dX9_init_29 rfl ?_
  refine ev_aast (k0 := 23) (n := 6) (ci := 9) (m0 := 3) 101 dX11_init_101 (by decide) (by decide) (by decide +kernel) (by decide +kernel) (by decide) (by decide) (by decide) ?_
  rw [show (2 : Int32).toNatClampNeg = 2 from rfl]
  refine iv_ref hI (by decide) (fun v hI => ?_)
  refine ev_iinc (y := 3) (ls' := [.ref 32, .int 3]) 102 dX11_init_102 rfl (by decide) rfl ?_
  refine ev_goto 105 83 dX11_init_105 rfl ?_
  refine ev_iload_n 83 dX11_init_83 rfl ?_
  refine ev_bipush 84 dX11_init_84 kB_6 ?_
  refine ev_icF 86 108 dX11_init_86 rfl (by decide) ?_
  refine ev_aload_n 89 dX11_init_89 rfl (by decide) ?_
  refine gf_11_27 (pc := 90) rfl dX11_init_90 (by decide +kernel) (hI.rr (x := some 40) (by decide) (by decide +kernel)) ?_
  refine ev_iload_n 93 dX11_init_93 rfl ?_
  refine ev_new 94 dX11_init_94 rfl (by decide) ?_
  refine iv_new (n := 48) (a := 80) hI (by decide +kernel) (by decide) (by decide +kernel) (by decide) (by decide) (fun v hI => ?_)
  refine ev_dup 97 dX11_init_97 rfl ?_
  refine cp_11_55 (pc := 98) (ci := 9) rfl dX11_init_98 (by decide +kernel) (Nat.le_of_ble_eq_true rfl) (by decide) ?_
  refine ev_aload_n 0 dX9_init_0 rfl (by decide) ?_
  refine ev_obj 1 dX9_init_1 ob_9_3 (by decide) (Nat.le_of_ble_eq_true rfl) ?_
  refine ev_aload_n 4 dX9_init_4 rfl (by decide) ?_
  refine ev_sipush 5 dX9_init_5 kS_160 ?_
  refine ev_newi (n := 160) 8 dX9_init_8 (by decide) (by decide) ?_
  refine iv_new (n := 49) (a := 81) hI (by decide +kernel) (by decide) (by decide +kernel) (by decide) (by decide) (fun v hI => ?_)
  refine pf_9_9 (hN := nm_X9_init) (pc := 10) rfl dX9_init_10 (by decide +kernel) (Nat.le_of_ble_eq_true rfl) ?_
  refine iv_ref hI (by decide) (fun v hI => ?_)
  refine ev_aload_n 13 dX9_init_13 rfl (by decide) ?_
  refine ev_iconst 14 dX9_init_14 kI_3 ?_
  refine ev_newi (n := 3) 15 dX9_init_15 (by decide) (by decide) ?_
  refine iv_new (n := 50) (a := 82) hI (by decide +kernel) (by decide) (by decide +kernel) (by decide) (by decide) (fun v hI => ?_)
  refine pf_9_15 (hN := nm_X9_init) (pc := 17) rfl dX9_init_17 (by decide +kernel) (Nat.le_of_ble_eq_true rfl) ?_
  refine iv_ref hI (by decide) (fun v hI => ?_)
  refine ev_aload_n 20 dX9_init_20 rfl (by decide) ?_
  refine ev_sipush 21 dX9_init_21 kS_160 ?_
  refine ev_newi (n := 160) 24 dX9_init_24 (by decide) (by decide) ?_
  refine iv_new (n := 51) (a := 83) hI (by decide +kernel) (by decide) (by decide +kernel) (by decide) (by decide) (fun v hI => ?_)
  refine pf_9_18 (hN := nm_X9_init) (pc := 26) rfl dX9_init_26 (by decide +kernel) (Nat.le_of_ble_eq_true rfl) ?_
  refine iv_ref hI (by decide) (fun v hI => ?_)
  refine ev_return 29 dX9_init_29 rfl ?_
  refine ev_aast (k0 := 23) (n := 6) (ci := 9) (m0 := 3) 101 dX11_init_101 (by decide) (by decide) (by decide +kernel) (by decide +kernel) (by decide) (by decide) (by decide) ?_
  rw [show (3 : Int32).toNatClampNeg = 3 from rfl]
  refine iv_ref hI (by decide) (fun v hI => ?_)
  refine ev_iinc (y := 4) (ls' := [.ref 32, .int 4]) 102 dX11_init_102 rfl (by decide) rfl ?_
  refine ev_goto 105 83 dX11_init_105 rfl ?_
  refine ev_iload_n 83 dX11_init_83 rfl ?_
  refine ev_bipush 84 dX11_init_84 kB_6 ?_
  refine ev_icF 86 108 dX11_init_86 rfl (by decide) ?_
  refine ev_aload_n 89 dX11_init_89 rfl (by decide) ?_
  refine gf_11_27 (pc := 90) rfl dX11_init_90 (by decide +kernel) (hI.rr (x := some 40) (by decide) (by decide +kernel)) ?_
  refine ev_iload_n 93 dX11_init_93 rfl ?_
  refine ev_new 94 dX11_init_94 rfl (by decide) ?_
  refine iv_new (n := 52) (a := 84) hI (by decide +kernel) (by decide) (by decide +kernel) (by decide) (by decide) (fun v hI => ?_)
  refine ev_dup 97 dX11_init_97 rfl ?_
  refine cp_11_55 (pc := 98) (ci := 9) rfl dX11_init_98 (by decide +kernel) (Nat.le_of_ble_eq_true rfl) (by decide) ?_
  refine ev_aload_n 0 dX9_init_0 rfl (by decide) ?_
  refine ev_obj 1 dX9_init_1 ob_9_3 (by decide) (Nat.le_of_ble_eq_true rfl) ?_
  refine ev_aload_n 4 dX9_init_4 rfl (by decide) ?_
  refine ev_sipush 5 dX9_init_5 kS_160 ?_
  refine ev_newi (n := 160) 8 dX9_init_8 (by decide) (by decide) ?_
  refine iv_new (n := 53) (a := 85) hI (by decide +kernel) (by decide) (by decide +kernel) (by decide) (by decide) (fun v hI => ?_)
  refine pf_9_9 (hN := nm_X9_init) (pc := 10) rfl dX9_init_10 (by decide +kernel) (Nat.le_of_ble_eq_true rfl) ?_
  refine iv_ref hI (by decide) (fun v hI => ?_)
  refine ev_aload_n 13 dX9_init_13 rfl (by decide) ?_
  refine ev_iconst 14 dX9_init_14 kI_3 ?_
  refine ev_newi (n := 3) 15 dX9_init_15 (by decide) (by decide) ?_
  refine iv_new (n := 54) (a := 86) hI (by decide +kernel) (by decide) (by decide +kernel) (by decide) (by decide) (fun v hI => ?_)
  refine pf_9_15 (hN := nm_X9_init) (pc := 17) rfl dX9_init_17 (by decide +kernel) (Nat.le_of_ble_eq_true rfl) ?_
  refine iv_ref hI (by decide) (fun v hI => ?_)
  refine ev_aload_n 20 dX9_init_20 rfl (by decide) ?_
  refine ev_sipush 21 dX9_init_21 kS_160 ?_
  refine ev_newi (n := 160) 24 dX9_init_24 (by decide) (by decide) ?_
  refine iv_new (n := 55) (a := 87) hI (by decide +kernel) (by decide) (by decide +kernel) (by decide) (by decide) (fun v hI => ?_)
  refine pf_9_18 (hN := nm_X9_init) (pc := 26) rfl dX9_init_26 (by decide +kernel) (Nat.le_of_ble_eq_true rfl) ?_
  refine iv_ref hI (by decide) (fun v hI => ?_)
  refine ev_return 29 dX9_init_29 rfl ?_
  refine ev_aast (k0 := 23) (n := 6) (ci := 9) (m0 := 3) 101 dX11_init_101 (by decide) (by decide) (by decide +kernel) (by decide +kernel) (by decide) (by decide) (by decide) ?_
  rw [show (4 : Int32).toNatClampNeg = 4 from rfl]
  refine iv_ref hI (by decide) (fun v hI => ?_)
  refine ev_iinc (y := 5) (ls' := [.ref 32, .int 5]) 102 dX11_init_102 rfl (by decide) rfl ?_
  refine ev_goto 105 83 dX11_init_105 rfl ?_
  refine ev_iload_n 83 dX11_init_83 rfl ?_
  refine ev_bipush 84 dX11_init_84 kB_6 ?_
  refine ev_icF 86 108 dX11_init_86 rfl (by decide) ?_
  refine ev_aload_n 89 dX11_init_89 rfl (by decide) ?_
  refine gf_11_27 (pc := 90) rfl dX11_init_90 (by decide +kernel) (hI.rr (x := some 40) (by decide) (by decide +kernel)) ?_
  refine ev_iload_n 93 dX11_init_93 rfl ?_
  refine ev_new 94 dX11_init_94 rfl (by decide) ?_
  refine iv_new (n := 56) (a := 88) hI (by decide +kernel) (by decide) (by decide +kernel) (by decide) (by decide) (fun v hI => ?_)
  refine ev_dup 97 dX11_init_97 rfl ?_
  refine cp_11_55 (pc := 98) (ci := 9) rfl dX11_init_98 (by decide +kernel) (Nat.le_of_ble_eq_true rfl) (by decide) ?_
  refine ev_aload_n 0 dX9_init_0 rfl (by decide) ?_
  refine ev_obj 1 dX9_init_1 ob_9_3 (by decide) (Nat.le_of_ble_eq_true rfl) ?_
  refine ev_aload_n 4 dX9_init_4 rfl (by decide) ?_
  refine ev_sipush 5 dX9_init_5 kS_160 ?_
  refine ev_newi (n := 160) 8 dX9_init_8 (by decide) (by decide) ?_
  refine iv_new (n := 57) (a := 89) hI (by decide +kernel) (by decide) (by decide +kernel) (by decide) (by decide) (fun v hI => ?_)
  refine pf_9_9 (hN := nm_X9_init) (pc := 10) rfl dX9_init_10 (by decide +kernel) (Nat.le_of_ble_eq_true rfl) ?_
  refine iv_ref hI (by decide) (fun v hI => ?_)
  refine ev_aload_n 13 dX9_init_13 rfl (by decide) ?_
  refine ev_iconst 14 dX9_init_14 kI_3 ?_
  refine ev_newi (n := 3) 15 dX9_init_15 (by decide) (by decide) ?_
  refine iv_new (n := 58) (a := 90) hI (by decide +kernel) (by decide) (by decide +kernel) (by decide) (by decide) (fun v hI => ?_)
  refine pf_9_15 (hN := nm_X9_init) (pc := 17) rfl dX9_init_17 (by decide +kernel) (Nat.le_of_ble_eq_true rfl) ?_
  refine iv_ref hI (by decide) (fun v hI => ?_)
  refine ev_aload_n 20 dX9_init_20 rfl (by decide) ?_
  refine ev_sipush 21 dX9_init_21 kS_160 ?_
  refine ev_newi (n := 160) 24 dX9_init_24 (by decide) (by decide) ?_
  refine iv_new (n := 59) (a := 91) hI (by decide +kernel) (by decide) (by decide +kernel) (by decide) (by decide) (fun v hI => ?_)
  refine pf_9_18 (hN := nm_X9_init) (pc := 26) rfl dX9_init_26 (by decide +kernel) (Nat.le_of_ble_eq_true rfl) ?_
  refine iv_ref hI (by decide) (fun v hI => ?_)
  refine ev_return 29 dX9_init_29 rfl ?_
  refine ev_aast (k0 := 23) (n := 6) (ci := 9) (m0 := 3) 101 dX11_init_101 (by decide) (by decide) (by decide +kernel) (by decide +kernel) (by decide) (by decide) (by decide) ?_
  rw [show (5 : Int32).toNatClampNeg = 5 from rfl]
  refine iv_ref hI (by decide) (fun v hI => ?_)
  refine ev_iinc (y := 6) (ls' := [.ref 32, .int 6]) 102 dX11_init_102 rfl (by decide) rfl ?_
  refine ev_goto 105 83 dX11_init_105 rfl ?_
  refine ev_iload_n 83 dX11_init_83 rfl ?_
  refine ev_bipush 84 dX11_init_84 kB_6 ?_
  refine ev_icT 86 108 dX11_init_86 rfl (by decide) ?_
  refine ev_iconst 108 dX11_init_108 kI_0 ?_
  refine ev_istore_n (ls' := [.ref 32, .int 0]) 109 dX11_init_109 (Nat.le_of_ble_eq_true rfl) rfl ?_
  refine ev_iload_n 110 dX11_init_110 rfl ?_
  refine ev_iconst 111 dX11_init_111 kI_4 ?_
  refine ev_icF 112 134 dX11_init_112 rfl (by decide) ?_
  refine ev_aload_n 115 dX11_init_115 rfl (by decide) ?_
  refine gf_11_40 (pc := 116) rfl dX11_init_116 (by decide +kernel) (hI.rr (x := some 50) (by decide) (by decide +kernel)) ?_
  refine ev_iload_n 119 dX11_init_119 rfl ?_
  refine ev_new 120 dX11_init_120 rfl (by decide) ?_
  refine iv_new (n := 60) (a := 92) hI (by decide +kernel) (by decide) (by decide +kernel) (by decide) (by decide) (fun v hI => ?_)
  refine ev_dup 123 dX11_init_123 rfl ?_
  refine cp_11_56 (pc := 124) (ci := 6) rfl dX11_init_124 (by decide +kernel) (Nat.le_of_ble_eq_true rfl) (by decide) ?_
  refine ev_aload_n 0 dX6_init_0 rfl (by decide) ?_
  refine ev_obj 1 dX6_init_1 ob_6_3 (by decide) (Nat.le_of_ble_eq_true rfl) ?_
  refine ev_aload_n 4 dX6_init_4 rfl (by decide) ?_
  refine ev_iconst 5 dX6_init_5 kI_m1 ?_
  refine pf_6_9 (pc := 6) rfl dX6_init_6 (by decide +kernel) ?_
  refine iv_put hI (by decide) (fun v hI => ?_)
  refine ev_aload_n 9 dX6_init_9 rfl (by decide) ?_
  refine ev_bipush 10 dX6_init_10 kB_60 ?_
  refine ev_newi (n := 60) 12 dX6_init_12 (by decide) (by decide) ?_
  refine iv_new (n := 61) (a := 93) hI (by decide +kernel) (by decide) (by decide +kernel) (by decide) (by decide) (fun v hI => ?_)
  refine pf_6_15 (hN := nm_X6_init) (pc := 14) rfl dX6_init_14 (by decide +kernel) (Nat.le_of_ble_eq_true rfl) ?_
  refine iv_ref hI (by decide) (fun v hI => ?_)
  refine ev_return 17 dX6_init_17 rfl ?_
  refine ev_aast (k0 := 24) (n := 4) (ci := 6) (m0 := 3) 127 dX11_init_127 (by decide) (by decide) (by decide +kernel) (by decide +kernel) (by decide) (by decide) (by decide) ?_
  rw [show (0 : Int32).toNatClampNeg = 0 from rfl]
  refine iv_ref hI (by decide) (fun v hI => ?_)
  refine ev_iinc (y := 1) (ls' := [.ref 32, .int 1]) 128 dX11_init_128 rfl (by decide) rfl ?_
  refine ev_goto 131 110 dX11_init_131 rfl ?_
  refine ev_iload_n 110 dX11_init_110 rfl ?_
  refine ev_iconst 111 dX11_init_111 kI_4 ?_
  refine ev_icF 112 134 dX11_init_112 rfl (by decide) ?_
  refine ev_aload_n 115 dX11_init_115 rfl (by decide) ?_
  refine gf_11_40 (pc := 116) rfl dX11_init_116 (by decide +kernel) (hI.rr (x := some 50) (by decide) (by decide +kernel)) ?_
  refine ev_iload_n 119 dX11_init_119 rfl ?_
  refine ev_new 120 dX11_init_120 rfl (by decide) ?_
  refine iv_new (n := 62) (a := 94) hI (by decide +kernel) (by decide) (by decide +kernel) (by decide) (by decide) (fun v hI => ?_)
  refine ev_dup 123 dX11_init_123 rfl ?_
  refine cp_11_56 (pc := 124) (ci := 6) rfl dX11_init_124 (by decide +kernel) (Nat.le_of_ble_eq_true rfl) (by decide) ?_
  refine ev_aload_n 0 dX6_init_0 rfl (by decide) ?_
  refine ev_obj 1 dX6_init_1 ob_6_3 (by decide) (Nat.le_of_ble_eq_true rfl) ?_
  refine ev_aload_n 4 dX6_init_4 rfl (by decide) ?_
  refine ev_iconst 5 dX6_init_5 kI_m1 ?_
  refine pf_6_9 (pc := 6) rfl dX6_init_6 (by decide +kernel) ?_
  refine iv_put hI (by decide) (fun v hI => ?_)
  refine ev_aload_n 9 dX6_init_9 rfl (by decide) ?_
  refine ev_bipush 10 dX6_init_10 kB_60 ?_
  refine ev_newi (n := 60) 12 dX6_init_12 (by decide) (by decide) ?_
  refine iv_new (n := 63) (a := 95) hI (by decide +kernel) (by decide) (by decide +kernel) (by decide) (by decide) (fun v hI => ?_)
  refine pf_6_15 (hN := nm_X6_init) (pc := 14) rfl dX6_init_14 (by decide +kernel) (Nat.le_of_ble_eq_true rfl) ?_
  refine iv_ref hI (by decide) (fun v hI => ?_)
  refine ev_return 17 dX6_init_17 rfl ?_
  refine ev_aast (k0 := 24) (n := 4) (ci := 6) (m0 := 3) 127 dX11_init_127 (by decide) (by decide) (by decide +kernel) (by decide +kernel) (by decide) (by decide) (by decide) ?_
  rw [show (1 : Int32).toNatClampNeg = 1 from rfl]
  refine iv_ref hI (by decide) (fun v hI => ?_)
  refine ev_iinc (y := 2) (ls' := [.ref 32, .int 2]) 128 dX11_init_128 rfl (by decide) rfl ?_
  refine ev_goto 131 110 dX11_init_131 rfl ?_
  refine ev_iload_n 110 dX11_init_110 rfl ?_
  refine ev_iconst 111 dX11_init_111 kI_4 ?_
  refine ev_icF 112 134 dX11_init_112 rfl (by decide) ?_
  refine ev_aload_n 115 dX11_init_115 rfl (by decide) ?_
  refine gf_11_40 (pc := 116) rfl dX11_init_116 (by decide +kernel) (hI.rr (x := some 50) (by decide) (by decide +kernel)) ?_
  refine ev_iload_n 119 dX11_init_119 rfl ?_
  refine ev_new 120 dX11_init_120 rfl (by decide) ?_
  refine iv_new (n := 64) (a := 96) hI (by decide +kernel) (by decide) (by decide +kernel) (by decide) (by decide) (fun v hI => ?_)
  refine ev_dup 123 dX11_init_123 rfl ?_
  refine cp_11_56 (pc := 124) (ci := 6) rfl dX11_init_124 (by decide +kernel) (Nat.le_of_ble_eq_true rfl) (by decide) ?_
  refine ev_aload_n 0 dX6_init_0 rfl (by decide) ?_
  refine ev_obj 1 dX6_init_1 ob_6_3 (by decide) (Nat.le_of_ble_eq_true rfl) ?_
  refine ev_aload_n 4 dX6_init_4 rfl (by decide) ?_
  refine ev_iconst 5 dX6_init_5 kI_m1 ?_
  refine pf_6_9 (pc := 6) rfl dX6_init_6 (by decide +kernel) ?_
  refine iv_put hI (by decide) (fun v hI => ?_)
  refine ev_aload_n 9 dX6_init_9 rfl (by decide) ?_
  refine ev_bipush 10 dX6_init_10 kB_60 ?_
  refine ev_newi (n := 60) 12 dX6_init_12 (by decide) (by decide) ?_
  refine iv_new (n := 65) (a := 97) hI (by decide +kernel) (by decide) (by decide +kernel) (by decide) (by decide) (fun v hI => ?_)
  refine pf_6_15 (hN := nm_X6_init) (pc := 14) rfl dX6_init_14 (by decide +kernel) (Nat.le_of_ble_eq_true rfl) ?_
  refine iv_ref hI (by decide) (fun v hI => ?_)
  refine ev_return 17 dX6_init_17 rfl ?_
  refine ev_aast (k0 := 24) (n := 4) (ci := 6) (m0 := 3) 127 dX11_init_127 (by decide) (by decide) (by decide +kernel) (by decide +kernel) (by decide) (by decide) (by decide) ?_
  rw [show (2 : Int32).toNatClampNeg = 2 from rfl]
  refine iv_ref hI (by decide) (fun v hI => ?_)
  refine ev_iinc (y := 3) (ls' := [.ref 32, .int 3]) 128 dX11_init_128 rfl (by decide) rfl ?_
  refine ev_goto 131 110 dX11_init_131 rfl ?_
  refine ev_iload_n 110 dX11_init_110 rfl ?_
  refine ev_iconst 111 dX11_init_111 kI_4 ?_
  refine ev_icF 112 134 dX11_init_112 rfl (by decide) ?_
  refine ev_aload_n 115 dX11_init_115 rfl (by decide) ?_
  refine gf_11_40 (pc := 116) rfl dX11_init_116 (by decide +kernel) (hI.rr (x := some 50) (by decide) (by decide +kernel)) ?_
  refine ev_iload_n 119 dX11_init_119 rfl ?_
  refine ev_new 120 dX11_init_120 rfl (by decide) ?_
  refine iv_new (n := 66) (a := 98) hI (by decide +kernel) (by decide) (by decide +kernel) (by decide) (by decide) (fun v hI => ?_)
  refine ev_dup 123 dX11_init_123 rfl ?_
  refine cp_11_56 (pc := 124) (ci := 6) rfl dX11_init_124 (by decide +kernel) (Nat.le_of_ble_eq_true rfl) (by decide) ?_
  refine ev_aload_n 0 dX6_init_0 rfl (by decide) ?_
  refine ev_obj 1 dX6_init_1 ob_6_3 (by decide) (Nat.le_of_ble_eq_true rfl) ?_
  refine ev_aload_n 4 dX6_init_4 rfl (by decide) ?_
  refine ev_iconst 5 dX6_init_5 kI_m1 ?_
  refine pf_6_9 (pc := 6) rfl dX6_init_6 (by decide +kernel) ?_
  refine iv_put hI (by decide) (fun v hI => ?_)
  refine ev_aload_n 9 dX6_init_9 rfl (by decide) ?_
  refine ev_bipush 10 dX6_init_10 kB_60 ?_
  refine ev_newi (n := 60) 12 dX6_init_12 (by decide) (by decide) ?_
  refine iv_new (n := 67) (a := 99) hI (by decide +kernel) (by decide) (by decide +kernel) (by decide) (by decide) (fun v hI => ?_)
  refine pf_6_15 (hN := nm_X6_init) (pc := 14) rfl dX6_init_14 (by decide +kernel) (Nat.le_of_ble_eq_true rfl) ?_
  refine iv_ref hI (by decide) (fun v hI => ?_)
  refine ev_return 17 dX6_init_17 rfl ?_
  refine ev_aast (k0 := 24) (n := 4) (ci := 6) (m0 := 3) 127 dX11_init_127 (by decide) (by decide) (by decide +kernel) (by decide +kernel) (by decide) (by decide) (by decide) ?_
  rw [show (3 : Int32).toNatClampNeg = 3 from rfl]
  refine iv_ref hI (by decide) (fun v hI => ?_)
  refine ev_iinc (y := 4) (ls' := [.ref 32, .int 4]) 128 dX11_init_128 rfl (by decide) rfl ?_
  refine ev_goto 131 110 dX11_init_131 rfl ?_
  refine ev_iload_n 110 dX11_init_110 rfl ?_
  refine ev_iconst 111 dX11_init_111 kI_4 ?_
  refine ev_icT 112 134 dX11_init_112 rfl (by decide) ?_
  exact K v hI
