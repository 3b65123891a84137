/-! the reference's day: a day, from its beginning -/
def E9 (s s' : dT) : Prop := ∀ q, q ≠ 9 → s q = s' q
theorem E9.u {s s' : dT} (h : E9 s s') {q i : Nat} {x : Int32} : E9 (dU s q i x) (dU s' q i x) := fun a ha => funext fun b => by unfold dU; rw [h a ha]
theorem pVal_9 {e : pmV} {r : Nat} {s s' : dT} {k w : Nat} {m : Int32} (h : E9 s s') : pVal e r s k w m = pVal e r s' k w m := by
  unfold pVal pNm; rw [h 0 (by decide), h 1 (by decide), h 2 (by decide)]
theorem pCan_9 {e : pmV} {n : Nat} {s s' : dT} {l m : Int32} (h : E9 s s') : pCan e n s l m = pCan e n s' l m := by unfold pCan; rw [h 4 (by decide)]
theorem pFind_9 {e : pmV} {n : Nat} {s s' : dT} {w m : Int32} (h : E9 s s') : ∀ k, pFind e n s w m k = pFind e n s' w m k
  | 0 => rfl
  | k + 1 => by rw [pFind, pFind, pCan_9 h, pFind_9 h k, h 3 (by decide)]
theorem pRule_9 {e : pmV} {n r : Nat} {s s' : dT} {m : Int32} (h : E9 s s') : pRule e n r s m = pRule e n r s' m := by
  unfold pRule; rw [pVal_9 h, pVal_9 h, pFind_9 h, pFind_9 h, h 2 (by decide)]
theorem pTold_9 {e : pmV} {n r : Nat} {s s' : dT} {m : Nat} (h : E9 s s') : pTold e n r s m = pTold e n r s' m := by
  unfold pTold; rw [pRule_9 h, h 7 (by decide), h 8 (by decide)]
theorem pArr_9 {e : pmV} {r : Nat} {s s' : dT} {w m : Nat} (h : E9 s s') : E9 (pArr e r s w m) (pArr e r s' w m) := by
  unfold pArr; rw [pVal_9 h, h 0 (by decide), h 1 (by decide)]; exact h.u.u
theorem pTurn_9 {e : pmV} {n : Nat} {s s' : dT} {l m : Int32} (h : E9 s s') : E9 (pTurn e n s l m) (pTurn e n s' l m) := by
  unfold pTurn; rw [pCan_9 h]
  split
  · unfold pTurnI
    simp only [h 3 (by decide), h 2 (by decide), h 5 (by decide)]
    rw [(h.u.u : E9 (dU (dU s 2 _ _) 3 _ _) (dU (dU s' 2 _ _) 3 _ _)) 2 (by decide)]
    exact h.u.u.u.u.u
  · exact h
theorem pBgn_e {s s' : dT} (h : E9 s s') (h9 : ∀ j, ¬ j < 2 → s 9 j = s' 9 j) : pBgn s = pBgn s' := by
  unfold pBgn
  rw [h 0 (by decide)]
  funext q j
  by_cases c : q = 9
  · subst c
    by_cases c1 : j = 1
    · subst c1; rw [dU_on, dU_on]
    · rw [dU_off (fun z => c1 z.2), dU_off (fun z => c1 z.2)]
      by_cases c0 : j = 0
      · subst c0; rw [dU_on, dU_on]
      · rw [dU_off (fun z => c0 z.2), dU_off (fun z => c0 z.2)]; exact h9 j (by omega)
  · rw [dU_ne c, dU_ne c, dU_ne c, dU_ne c, h q c]
theorem pMin_9 {e : pmV} {n r : Nat} {s s' : dT} {m : Nat} (h : E9 s s') (h9 : ∀ j, ¬ j < 2 → s 9 j = s' 9 j) : pMin e n r s m = pMin e n r s' m := by
  unfold pMin
  have h2 := pArr_9 (e := e) (r := r) (w := 1) (m := m) (pArr_9 (e := e) (r := r) (w := 0) (m := m) h)
  have h3 := pTurn_9 (e := e) (n := n) (l := pTold e n r (pArr e r (pArr e r s' 0 m) 1 m) m) (m := nI m) h2
  have hb := pBgn_e h3 (fun j hj => by rw [pTurn_q (by decide) (by decide) (by decide) (by decide), pArr_q (by decide) (by decide), pArr_q (by decide) (by decide), pTurn_q (by decide) (by decide) (by decide) (by decide), pArr_q (by decide) (by decide), pArr_q (by decide) (by decide)]; exact h9 j hj)
  simp only [pTold_9 h2, hb, h 8 (by decide)]
theorem pDay_9 {e : pmV} {n r : Nat} {s s' : dT} {p : Int64} {m k : Nat} (h : E9 s s') (h9 : ∀ j, ¬ j < 2 → s 9 j = s' 9 j) : pDay e n r (k + 1) m s p = pDay e n r (k + 1) m s' p := by
  rw [pDay, pDay, pMin_9 h h9]
def mB (e : pmV) (s : dT) (i : Nat) : dT := fun q j => if q = 3 then (if j < i then e.1 (124 + j) 2 else s 3 j) else if q = 4 then (if j < i then 0 else s 4 j) else s q j
theorem lp_go0 {X : pmX} {d : Nat} {P : Option Value → pmT → pmV → Prop} {LT : pmT} {e : pmV} {n tx z : Nat} {g : Nat → Int32} {s : dT} {p : Int64} {y1 y2 : Int32} (hC : Cpl n tx z LT e) : ∀ (k : Nat) (i : Nat) (v : pmV), i + k = n → DM e n g (mB e s i) p v → (∀ v', DM e n g (mB e s n) p v' → EvP X d MX12_go 62 [.ref 100, .int y1, .int y2, .int (nI n)] [] (pmT0 ++ LT) v' P) → EvP X d MX12_go 29 [.ref 100, .int y1, .int y2, .int (nI i)] [] (pmT0 ++ LT) v P := by
  intro k
  induction k with
  | zero =>
    intro i v hi hD K
    have hi2 : n = i := by omega
    subst hi2
    have hn8 := hC.2.1.1
    refine ev_iload_n 29 dX12_go_29 rfl ?_
    refine ev_aload_n 30 dX12_go_30 rfl (by decide) ?_
    refine gf_12_1 (x := nI n) (pc := 31) rfl dX12_go_31 kd_100 ((hD.c (by unfold DcA DcX; omega)).trans hC.2.1.2.2.2.1) ?_
    refine ev_ic_geN (a := n) (b := n) 34 62 dX12_go_34 rfl (by omega) (by omega) (fun c_34 => ?_) (fun c_34 => by omega)
    exact K v hD
  | succ k ih =>
    intro i v hi hD K
    have hn8 := hC.2.1.1
    refine ev_iload_n 29 dX12_go_29 rfl ?_
    refine ev_aload_n 30 dX12_go_30 rfl (by decide) ?_
    refine gf_12_1 (x := nI n) (pc := 31) rfl dX12_go_31 kd_100 ((hD.c (by unfold DcA DcX; omega)).trans hC.2.1.2.2.2.1) ?_
    refine ev_ic_geN (a := i) (b := n) 34 62 dX12_go_34 rfl (by omega) (by omega) (fun c_34 => by omega) (fun c_34 => ?_)
    refine ev_aload_n 37 dX12_go_37 rfl (by decide) ?_
    refine gf_12_143 (pc := 38) rfl dX12_go_38 kd_100 (rf_100_30 hD.1) ?_
    refine ev_iload_n 41 dX12_go_41 rfl ?_
    refine ev_aload_n 42 dX12_go_42 rfl (by decide) ?_
    refine gf_12_18 (pc := 43) rfl dX12_go_43 kd_100 (rf_100_7 hD.1) ?_
    refine ev_iload_n 46 dX12_go_46 rfl ?_
    refine ev_ialdJ (x := e.1 (124 + i) 2) (j := i) 47 dX12_go_47 (Nat.le_of_ble_eq_true rfl) ty_103 (pm_inI (by omega) (by omega)) (nI_clamp (by omega)) ((hD.c (by unfold DcA DcX; omega)).trans (hC.2.1.2.2.2.2 i (by omega)).2.2.2.2.1) ?_
    refine ev_iastJ (j := i) 48 dX12_go_48 (Nat.le_of_ble_eq_true rfl) ty_116 (pm_inI (by omega) (by omega)) (nI_clamp (by omega)) ?_
    refine ev_abs (Q := DM e n g (dU (mB e s i) 3 i (e.1 (124 + i) 2)) p) (hD.u3 i (e.1 (124 + i) 2)) (fun v1 hD => ?_)
    refine ev_aload_n 49 dX12_go_49 rfl (by decide) ?_
    refine gf_12_146 (pc := 50) rfl dX12_go_50 kd_100 (rf_100_31 hD.1) ?_
    refine ev_iload_n 53 dX12_go_53 rfl ?_
    refine ev_iconst 54 dX12_go_54 kI_0 ?_
    refine ev_iastJ (j := i) 55 dX12_go_55 (Nat.le_of_ble_eq_true rfl) ty_117 (pm_inI (by omega) (by omega)) (nI_clamp (by omega)) ?_
    refine ev_abs (Q := DM e n g (dU (dU (mB e s i) 3 i (e.1 (124 + i) 2)) 4 i 0) p) (hD.u4 i 0) (fun v2 hD => ?_)
    refine ev_iinc (y := nI (i + 1)) (ls' := [.ref 100, .int y1, .int y2, .int (nI (i + 1))]) 56 dX12_go_56 rfl (nI_add i 1) rfl ?_
    refine ev_goto 59 29 dX12_go_59 rfl ?_
    refine ih (i + 1) _ (by omega) (hD.cg ?_ ?_ ?_ ?_ ?_ ?_) K
    · intro j _; rw [dU_ne (by decide), dU_ne (by decide)]; rfl
    · intro j _; rw [dU_ne (by decide), dU_ne (by decide)]; rfl
    · intro j hj; rw [dU_ne (by decide)]; show _ = (if j < i + 1 then e.1 (124 + j) 2 else s 3 j)
      by_cases q : j = i
      · rw [q, dU_on, if_pos (by omega)]
      · rw [dU_off (fun z => q z.2)]; show (if j < i then _ else _) = _; by_cases q2 : j < i
        · rw [if_pos q2, if_pos (by omega)]
        · rw [if_neg q2, if_neg (by omega)]
    · intro j hj; show _ = (if j < i + 1 then 0 else s 4 j)
      by_cases q : j = i
      · rw [q, dU_on, if_pos (by omega)]
      · rw [dU_off (fun z => q z.2), dU_ne (by decide)]; show (if j < i then _ else _) = _; by_cases q2 : j < i
        · rw [if_pos q2, if_pos (by omega)]
        · rw [if_neg q2, if_neg (by omega)]
    · intro j _; rw [dU_ne (by decide), dU_ne (by decide)]; rfl
    · intro j _; rw [dU_ne (by decide), dU_ne (by decide)]; rfl

theorem cb_go0 {X : pmX} {d : Nat} {v : pmV} {P : Option Value → pmT → pmV → Prop} {LT : pmT} {e : pmV} {n tx z : Nat} {g : Nat → Int32} {s : dT} {p : Int64} {sG : dT} {y1 y2 : Int32} (hC : Cpl n tx z LT e) (hD : DM e n g s p v) (k : ∀ v', DM e n g (dU (dU (pBeg e n sG) 9 0 (s 9 0)) 9 1 (s 9 1)) 0 v' → EvP X d MX12_go 79 [.ref 100, .int y1, .int y2, .int 0] [] (pmT0 ++ LT) v' P) : EvP X d MX12_go 0 [.ref 100, .int y1, .int y2, pmJ] [] (pmT0 ++ LT) v P := by
  have hn8 := hC.2.1.1
  refine ev_iconst 0 dX12_go_0 kI_0 ?_
  refine ev_istore_n (ls' := [.ref 100, .int y1, .int y2, .int 0]) 1 dX12_go_1 (Nat.le_of_ble_eq_true rfl) rfl ?_
  refine ev_iload_n 2 dX12_go_2 rfl ?_
  refine ev_iconst 3 dX12_go_3 kI_2 ?_
  refine ev_icF 4 27 dX12_go_4 rfl (by decide) ?_
  refine ev_aload_n 7 dX12_go_7 rfl (by decide) ?_
  refine gf_12_134 (pc := 8) rfl dX12_go_8 kd_100 (rf_100_27 hD.1) ?_
  refine ev_iload_n 11 dX12_go_11 rfl ?_
  refine ev_iconst 12 dX12_go_12 kI_0 ?_
  refine ev_iastJ (j := 0) 13 dX12_go_13 (Nat.le_of_ble_eq_true rfl) ty_113 (by decide) rfl ?_
  refine ev_abs (Q := DM e n g (dU s 0 0 0) p) (hD.u0 0 0) (fun v1 hD => ?_)
  refine ev_aload_n 14 dX12_go_14 rfl (by decide) ?_
  refine gf_12_137 (pc := 15) rfl dX12_go_15 kd_100 (rf_100_28 hD.1) ?_
  refine ev_iload_n 18 dX12_go_18 rfl ?_
  refine ev_iconst 19 dX12_go_19 kI_0 ?_
  refine ev_iastJ (j := 0) 20 dX12_go_20 (Nat.le_of_ble_eq_true rfl) ty_114 (by decide) rfl ?_
  refine ev_abs (Q := DM e n g (dU (dU s 0 0 0) 1 0 0) p) (hD.u1 0 0) (fun v2 hD => ?_)
  refine ev_iinc (y := 1) (ls' := [.ref 100, .int y1, .int y2, .int 1]) 21 dX12_go_21 rfl (by decide) rfl ?_
  refine ev_goto 24 2 dX12_go_24 rfl ?_
  refine ev_iload_n 2 dX12_go_2 rfl ?_
  refine ev_iconst 3 dX12_go_3 kI_2 ?_
  refine ev_icF 4 27 dX12_go_4 rfl (by decide) ?_
  refine ev_aload_n 7 dX12_go_7 rfl (by decide) ?_
  refine gf_12_134 (pc := 8) rfl dX12_go_8 kd_100 (rf_100_27 hD.1) ?_
  refine ev_iload_n 11 dX12_go_11 rfl ?_
  refine ev_iconst 12 dX12_go_12 kI_0 ?_
  refine ev_iastJ (j := 1) 13 dX12_go_13 (Nat.le_of_ble_eq_true rfl) ty_113 (by decide) rfl ?_
  refine ev_abs (Q := DM e n g (dU (dU (dU s 0 0 0) 1 0 0) 0 1 0) p) (hD.u0 1 0) (fun v3 hD => ?_)
  refine ev_aload_n 14 dX12_go_14 rfl (by decide) ?_
  refine gf_12_137 (pc := 15) rfl dX12_go_15 kd_100 (rf_100_28 hD.1) ?_
  refine ev_iload_n 18 dX12_go_18 rfl ?_
  refine ev_iconst 19 dX12_go_19 kI_0 ?_
  refine ev_iastJ (j := 1) 20 dX12_go_20 (Nat.le_of_ble_eq_true rfl) ty_114 (by decide) rfl ?_
  refine ev_abs (Q := DM e n g (dU (dU (dU (dU s 0 0 0) 1 0 0) 0 1 0) 1 1 0) p) (hD.u1 1 0) (fun v4 hD => ?_)
  refine ev_iinc (y := 2) (ls' := [.ref 100, .int y1, .int y2, .int 2]) 21 dX12_go_21 rfl (by decide) rfl ?_
  refine ev_goto 24 2 dX12_go_24 rfl ?_
  refine ev_iload_n 2 dX12_go_2 rfl ?_
  refine ev_iconst 3 dX12_go_3 kI_2 ?_
  refine ev_icT 4 27 dX12_go_4 rfl (by decide) ?_
  refine ev_iconst 27 dX12_go_27 kI_0 ?_
  refine ev_istore_n (ls' := [.ref 100, .int y1, .int y2, .int 0]) 28 dX12_go_28 (Nat.le_of_ble_eq_true rfl) rfl ?_
  refine lp_go0 (s := dU (dU (dU (dU s 0 0 0) 1 0 0) 0 1 0) 1 1 0) hC n 0 _ (by omega) (hD.cg ?_ ?_ ?_ ?_ ?_ ?_) (fun vb hD => ?_)
  · intro j _; rfl
  · intro j _; rfl
  · intro j _; simp [mB]
  · intro j _; simp [mB]
  · intro j _; rfl
  · intro j _; rfl
  refine ev_aload_n 62 dX12_go_62 rfl (by decide) ?_
  refine ev_iconst 63 dX12_go_63 kI_0 ?_
  refine pf_12_149 (pc := 64) rfl dX12_go_64 kd_100 ?_
  refine ev_abs (Q := DM e n g (dU (mB e (dU (dU (dU (dU s 0 0 0) 1 0 0) 0 1 0) 1 1 0) n) 5 0 0) p) (hD.u5_0 0) (fun v5 hD => ?_)
  refine ev_aload_n 67 dX12_go_67 rfl (by decide) ?_
  refine ev_iconst 68 dX12_go_68 kI_0 ?_
  refine pf_12_152 (pc := 69) rfl dX12_go_69 kd_100 ?_
  refine ev_abs (Q := DM e n g (dU (dU (mB e (dU (dU (dU (dU s 0 0 0) 1 0 0) 0 1 0) 1 1 0) n) 5 0 0) 5 1 0) p) (hD.u5_1 0) (fun v6 hD => ?_)
  refine ev_aload_n 72 dX12_go_72 rfl (by decide) ?_
  refine ev_lconst (x := 0) 73 dX12_go_73 rfl ?_
  refine pf_12_173 (pc := 74) rfl dX12_go_74 kd_100 ?_
  refine ev_abs (Q := DM e n g (dU (dU (mB e (dU (dU (dU (dU s 0 0 0) 1 0 0) 0 1 0) 1 1 0) n) 5 0 0) 5 1 0) 0) (hD.up 0) (fun v7 hD => ?_)
  refine ev_iconst 77 dX12_go_77 kI_0 ?_
  refine ev_istore_n (ls' := [.ref 100, .int y1, .int y2, .int 0]) 78 dX12_go_78 (Nat.le_of_ble_eq_true rfl) rfl ?_
  have hD : DM e n g (dU (dU (pBeg e n sG) 9 0 (s 9 0)) 9 1 (s 9 1)) 0 v7 := hD.cg ?_ ?_ ?_ ?_ ?_ ?_
  · exact k _ hD
  · intro j hj; rw [dU_ne (by decide), dU_ne (by decide)]; show (dU (dU (dU (dU s 0 0 0) 1 0 0) 0 1 0) 1 1 0) 0 j = _; rw [dU_ne (r := 9) (by decide), dU_ne (r := 9) (by decide)]
    have : j = 0 ∨ j = 1 := by omega
    rcases this with rfl | rfl <;> simp [dU] <;> rfl
  · intro j hj; rw [dU_ne (by decide), dU_ne (by decide)]; show (dU (dU (dU (dU s 0 0 0) 1 0 0) 0 1 0) 1 1 0) 1 j = _; rw [dU_ne (r := 9) (by decide), dU_ne (r := 9) (by decide)]
    have : j = 0 ∨ j = 1 := by omega
    rcases this with rfl | rfl <;> simp [dU] <;> rfl
  · intro j hj; rw [dU_ne (by decide), dU_ne (by decide)]; show (if j < n then e.1 (124 + j) 2 else _) = _; rw [if_pos hj, dU_ne (r := 9) (by decide), dU_ne (r := 9) (by decide)]; rfl
  · intro j hj; rw [dU_ne (by decide), dU_ne (by decide)]; show (if j < n then 0 else _) = _; rw [if_pos hj, dU_ne (r := 9) (by decide), dU_ne (r := 9) (by decide)]; rfl
  · intro j hj
    have : j = 0 ∨ j = 1 := by omega
    rcases this with rfl | rfl
    · rw [dU_off (by decide), dU_on, dU_ne (r := 9) (by decide), dU_ne (r := 9) (by decide)]; rfl
    · rw [dU_on, dU_ne (r := 9) (by decide), dU_ne (r := 9) (by decide)]; rfl
  · intro j hj; rw [dU_ne (by decide), dU_ne (by decide)]; show (dU (dU (dU (dU s 0 0 0) 1 0 0) 0 1 0) 1 1 0) 9 j = _; rw [dU_ne (by decide), dU_ne (by decide), dU_ne (by decide), dU_ne (by decide)]
    have : j = 0 ∨ j = 1 := by omega
    rcases this with rfl | rfl
    · rw [dU_off (by decide), dU_on]
    · rw [dU_on]

theorem lp_go {X : pmX} {d : Nat} {P : Option Value → pmT → pmV → Prop} {LT : pmT} {e : pmV} {n tx z r N : Nat} {g : Nat → Int32} {b : Int32} (hN : N ≤ 60) (hC : Cpl n tx z LT e) (hr : r < tx) (hr2 : e.1 100 11 = nI r) : ∀ (k : Nat) (i : Nat) (s : dT) (p : Int64) (v : pmV), i + k = N → DM e n g s p v → dJ n (198 * i) s → mTB e g b (s 7) (s 8 0) → s 8 1 = g 0 → mGB g s → (∀ v', DM e n g (pDay e n r k i s p).1 (pDay e n r k i s p).2 v' → P none (pmT0 ++ LT) v') → EvP X (d + 6) MX12_go 79 [.ref 100, .int (nI N), .int b, .int (nI i)] [] (pmT0 ++ LT) v P := by
  intro k
  induction k with
  | zero =>
    intro i s p v hi hD hJ hTB hsh hG K
    have hi2 : N = i := by omega
    subst hi2
    have hn8 := hC.2.1.1
    have ht6 := hC.2.2.2.2.2.1.2.1
    refine ev_iload_n 79 dX12_go_79 rfl ?_
    refine ev_iload_n 80 dX12_go_80 rfl ?_
    refine ev_ic_geN (a := N) (b := N) 81 96 dX12_go_81 rfl (by omega) (by omega) (fun c_81 => ?_) (fun c_81 => by omega)
    refine ev_return 96 dX12_go_96 rfl ?_
    exact K v hD
  | succ k ih =>
    intro i s p v hi hD hJ hTB hsh hG K
    have hn8 := hC.2.1.1
    have ht6 := hC.2.2.2.2.2.1.2.1
    refine ev_iload_n 79 dX12_go_79 rfl ?_
    refine ev_iload_n 80 dX12_go_80 rfl ?_
    refine ev_ic_geN (a := i) (b := N) 81 96 dX12_go_81 rfl (by omega) (by omega) (fun c_81 => by omega) (fun c_81 => ?_)
    refine ev_aload_n 84 dX12_go_84 rfl (by decide) ?_
    refine ev_iload_n 85 dX12_go_85 rfl ?_
    refine ev_iload_n 86 dX12_go_86 rfl ?_
    refine cv_12_305_12 (pc := 87) rfl dX12_go_87 kd_100 (Nat.le_of_ble_eq_true rfl) ?_
    refine c_X12_goMinute (m := i) hC hr hr2 hD (by omega) hJ hTB hsh hG (fun v1 hD => ?_)
    refine ev_iinc (y := nI (i + 1)) (ls' := [.ref 100, .int (nI N), .int b, .int (nI (i + 1))]) 90 dX12_go_90 rfl (nI_add i 1) rfl ?_
    refine ev_goto 93 79 dX12_go_93 rfl ?_
    have q7 : ∀ q j, q = 7 ∨ q = 8 → pMin e n r s i q j = s q j := fun q j hq => pMin_q (by omega) (by omega) (by omega) (by omega) (by omega) (by omega) (by omega)
    exact ih (i + 1) _ _ _ (by omega) hD (hJ.min hC (by omega) hG.ok) (hTB.cg (fun j => q7 7 j (Or.inl rfl)) (q7 8 0 (Or.inr rfl))) ((q7 8 1 (Or.inr rfl)).trans hsh) (hG.cg fun j => q7 8 j (Or.inr rfl)) K

theorem dJ.nine {n B : Nat} {s s' : dT} (h : dJ n B s) (e : E9 s' s) : dJ n B s' := h.cg fun q j hq => by rw [e q (by omega)]
theorem nine_E9 {s : dT} {x y : Int32} : E9 (dU (dU s 9 0 x) 9 1 y) s := fun q hq => funext fun b => by rw [dU_ne hq, dU_ne hq]
/-- a day of the reference -/
theorem c_X12_go {X : pmX} {d : Nat} {v : pmV} {P : Option Value → pmT → pmV → Prop} {LT : pmT} {e : pmV} {n tx z r N : Nat} {g : Nat → Int32} {s sG : dT} {p : Int64} {b : Int32} (hN : 1 ≤ N ∧ N ≤ 60) (hC : Cpl n tx z LT e) (hr : r < tx) (hr2 : e.1 100 11 = nI r) (hD : DM e n g s p v) (hTB : mTB e g b (sG 7) (sG 8 0)) (hsh : sG 8 1 = g 0) (hG : mGB g sG) (k : ∀ v', DM e n g (pDay e n r N 0 (pBeg e n sG) 0).1 (pDay e n r N 0 (pBeg e n sG) 0).2 v' → P none (pmT0 ++ LT) v') : EvP X (d + 6) MX12_go 0 [.ref 100, .int (nI N), .int b, pmJ] [] (pmT0 ++ LT) v P := by
  refine cb_go0 (sG := sG) hC hD (fun v1 hD => ?_)
  obtain ⟨M, rfl⟩ : ∃ M, N = M + 1 := ⟨N - 1, by omega⟩
  have e9 := pDay_9 (e := e) (n := n) (r := r) (p := 0) (m := 0) (k := M) (nine_E9 (s := pBeg e n sG) (x := s 9 0) (y := s 9 1)) (fun j hj => by rw [dU_off (by omega), dU_off (by omega)])
  rw [← e9] at k
  refine lp_go hN.2 hC hr hr2 (M + 1) 0 _ 0 v1 (by omega) hD ((dJ.beg hC.2.1 sG).nine nine_E9) (hTB.cg (fun j => ?_) ?_) ?_ (hG.cg fun j => ?_) k
  all_goals rw [dU_ne (by decide), dU_ne (by decide)]; first | rfl | exact hsh
/-- a day of no minutes -/
theorem c_X12_goZ {X : pmX} {d : Nat} {v : pmV} {P : Option Value → pmT → pmV → Prop} {LT : pmT} {e : pmV} {n tx z : Nat} {g : Nat → Int32} {s : dT} (sG : dT) {p : Int64} {b : Int32} (hC : Cpl n tx z LT e) (hD : DM e n g s p v) (k : ∀ v', DM e n g (dU (dU (pBeg e n sG) 9 0 (s 9 0)) 9 1 (s 9 1)) 0 v' → P none (pmT0 ++ LT) v') : EvP X (d + 6) MX12_go 0 [.ref 100, .int 0, .int b, pmJ] [] (pmT0 ++ LT) v P := by
  refine cb_go0 (sG := sG) hC hD (fun v1 hD => ?_)
  refine ev_iload_n 79 dX12_go_79 rfl ?_
  refine ev_iload_n 80 dX12_go_80 rfl ?_
  refine ev_icT 81 96 dX12_go_81 rfl (by decide) ?_
  refine ev_return 96 dX12_go_96 rfl ?_
  exact k _ hD
