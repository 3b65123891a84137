/-! the reference's day: by the rule, what is told, comers, a minute, a day -/
theorem c_X12_lastOf {X : pmX} {d : Nat} {v : pmV} {P : Option Value → pmT → pmV → Prop} {LT : pmT} {e : pmV} {n tx z : Nat} {g : Nat → Int32} {s : dT} {p : Int64} {w : Nat} {m : Int32} (hC : Cpl n tx z LT e) (hD : DM e n g s p v) (hw : w < 2) (hW : wOk n s) (k : P (some (.int (if 2 ≤ pCn s (nI w) n then pFind e n s (nI (1 - w)) m n else -1))) (pmT0 ++ LT) v) : EvP X (d + 2) MX12_lastOf 0 [.ref 100, .int (nI w), .int m, pmJ, pmJ, pmJ] [] (pmT0 ++ LT) v P := by
  have hn8 := hC.2.1.1
  refine ev_iconst 0 dX12_lastOf_0 kI_m1 ?_
  refine ev_istore_n (ls' := [.ref 100, .int (nI w), .int m, .int (-1), pmJ, pmJ]) 1 dX12_lastOf_1 (Nat.le_of_ble_eq_true rfl) rfl ?_
  refine ev_iconst 2 dX12_lastOf_2 kI_0 ?_
  refine ev_istore (ls' := [.ref 100, .int (nI w), .int m, .int (-1), .int 0, pmJ]) 3 dX12_lastOf_3 (Nat.le_of_ble_eq_true rfl) rfl ?_
  refine ev_iconst 5 dX12_lastOf_5 kI_0 ?_
  refine ev_istore (ls' := [.ref 100, .int (nI w), .int m, .int (-1), .int 0, .int 0]) 6 dX12_lastOf_6 (Nat.le_of_ble_eq_true rfl) rfl ?_
  exact lp_last (w := w) (m := m) hC hD hw hW n 0 (by omega) k

theorem c_X12_byRule {X : pmX} {d : Nat} {v : pmV} {P : Option Value → pmT → pmV → Prop} {LT : pmT} {e : pmV} {n tx z r : Nat} {g : Nat → Int32} {s : dT} {p : Int64} {m : Int32} (hC : Cpl n tx z LT e) (hr : r < tx) (hr2 : e.1 100 11 = nI r) (hD : DM e n g s p v) (hcnt : ∀ w, w < 2 → s 2 w = pCn s (nI w) n) (hW : wOk n s) (k : ∀ v', DM e n g s p v' → P (some (.int (pRule e n r s m))) (pmT0 ++ LT) v') : EvP X (d + 3) MX12_byRule 0 [.ref 100, .int m, pmJ, pmJ, pmJ] [] (pmT0 ++ LT) v P := by
  have hn8 := hC.2.1.1
  have ht6 := hC.2.2.2.2.2.1.2.1
  refine ev_aload_n 0 dX12_byRule_0 rfl (by decide) ?_
  refine ev_iconst 1 dX12_byRule_1 kI_0 ?_
  refine ev_iconst 2 dX12_byRule_2 kI_0 ?_
  refine ev_iload_n 3 dX12_byRule_3 rfl ?_
  refine cv_12_277_12 (pc := 4) rfl dX12_byRule_4 kd_100 (Nat.le_of_ble_eq_true rfl) ?_
  refine c_X12_tellsRule (k0 := 0) (w := 0) hC hr hr2 hD (by omega) (by omega) (hcnt 0 (by omega)) (fun v1 hD => ?_)
  refine ev_istore_n (ls' := [.ref 100, .int m, .int (pVal e r s 0 0 m), pmJ, pmJ]) 7 dX12_byRule_7 (Nat.le_of_ble_eq_true rfl) rfl ?_
  refine ev_aload_n 8 dX12_byRule_8 rfl (by decide) ?_
  refine ev_iconst 9 dX12_byRule_9 kI_0 ?_
  refine ev_iconst 10 dX12_byRule_10 kI_1 ?_
  refine ev_iload_n 11 dX12_byRule_11 rfl ?_
  refine cv_12_277_12 (pc := 12) rfl dX12_byRule_12 kd_100 (Nat.le_of_ble_eq_true rfl) ?_
  refine c_X12_tellsRule (k0 := 0) (w := 1) hC hr hr2 hD (by omega) (by omega) (hcnt 1 (by omega)) (fun v2 hD => ?_)
  refine ev_istore_n (ls' := [.ref 100, .int m, .int (pVal e r s 0 0 m), .int (pVal e r s 0 1 m), pmJ]) 15 dX12_byRule_15 (Nat.le_of_ble_eq_true rfl) rfl ?_
  refine ev_iload_n 16 dX12_byRule_16 rfl ?_
  refine ev_iload_n 17 dX12_byRule_17 rfl ?_
  refine ev_ic_le 18 25 dX12_byRule_18 rfl (fun c_18 => ?_) (fun c_18 => ?_)
  · refine ev_iconst 25 dX12_byRule_25 kI_0 ?_
    refine ev_istore (ls' := [.ref 100, .int m, .int (pVal e r s 0 0 m), .int (pVal e r s 0 1 m), .int 0]) 26 dX12_byRule_26 (Nat.le_of_ble_eq_true rfl) rfl ?_
    refine ev_iload 28 dX12_byRule_28 rfl ?_
    refine ev_iconst 30 dX12_byRule_30 kI_1 ?_
    refine ev_icT 31 38 dX12_byRule_31 rfl (by decide) ?_
    refine ev_iload_n 38 dX12_byRule_38 rfl ?_
    refine ev_if_le 39 54 dX12_byRule_39 rfl (fun c_39 => ?_) (fun c_39 => ?_)
    · refine ev_iconst 54 dX12_byRule_54 kI_m1 ?_
      refine ev_ireturn 55 dX12_byRule_55 rfl rfl ?_
      have hl : ¬ pVal e r s 0 0 m < pVal e r s 0 1 m := Int32.not_lt.mpr c_18
      rw [show pRule e n r s m = -1 by unfold pRule mxI; simp only []; rw [if_neg hl, if_pos c_39]] at k
      exact k _ hD
    · refine ev_aload_n 42 dX12_byRule_42 rfl (by decide) ?_
      refine ev_iconst 43 dX12_byRule_43 kI_1 ?_
      refine ev_iload 44 dX12_byRule_44 rfl ?_
      refine ev_isub 46 dX12_byRule_46 ?_
      refine ev_cst (y := 1) (by decide) ?_
      refine ev_iload_n 47 dX12_byRule_47 rfl ?_
      refine cv_12_283_12 (pc := 48) rfl dX12_byRule_48 kd_100 (Nat.le_of_ble_eq_true rfl) ?_
      refine c_X12_lastOf (w := 1) hC hD (by omega) hW ?_
      refine ev_goto 51 55 dX12_byRule_51 rfl ?_
      refine ev_ireturn 55 dX12_byRule_55 rfl rfl ?_
      have hl : ¬ pVal e r s 0 0 m < pVal e r s 0 1 m := Int32.not_lt.mpr c_18
      rw [show pRule e n r s m = (if 2 ≤ pCn s (nI 1) n then pFind e n s (nI (1 - 1)) m n else -1) by unfold pRule mxI; simp only []; rw [if_neg hl, if_neg c_39, if_pos c_18, hcnt 1 (by decide)]; rfl] at k
      exact k _ hD
  · refine ev_iconst 21 dX12_byRule_21 kI_1 ?_
    refine ev_goto 22 26 dX12_byRule_22 rfl ?_
    refine ev_istore (ls' := [.ref 100, .int m, .int (pVal e r s 0 0 m), .int (pVal e r s 0 1 m), .int 1]) 26 dX12_byRule_26 (Nat.le_of_ble_eq_true rfl) rfl ?_
    refine ev_iload 28 dX12_byRule_28 rfl ?_
    refine ev_iconst 30 dX12_byRule_30 kI_1 ?_
    refine ev_icF 31 38 dX12_byRule_31 rfl (by decide) ?_
    refine ev_iload_n 34 dX12_byRule_34 rfl ?_
    refine ev_goto 35 39 dX12_byRule_35 rfl ?_
    refine ev_if_le 39 54 dX12_byRule_39 rfl (fun c_39 => ?_) (fun c_39 => ?_)
    · refine ev_iconst 54 dX12_byRule_54 kI_m1 ?_
      refine ev_ireturn 55 dX12_byRule_55 rfl rfl ?_
      have hl : pVal e r s 0 0 m < pVal e r s 0 1 m := Int32.not_le.mp c_18
      rw [show pRule e n r s m = -1 by unfold pRule mxI; simp only []; rw [if_pos hl, if_pos c_39]] at k
      exact k _ hD
    · refine ev_aload_n 42 dX12_byRule_42 rfl (by decide) ?_
      refine ev_iconst 43 dX12_byRule_43 kI_1 ?_
      refine ev_iload 44 dX12_byRule_44 rfl ?_
      refine ev_isub 46 dX12_byRule_46 ?_
      refine ev_cst (y := 0) (by decide) ?_
      refine ev_iload_n 47 dX12_byRule_47 rfl ?_
      refine cv_12_283_12 (pc := 48) rfl dX12_byRule_48 kd_100 (Nat.le_of_ble_eq_true rfl) ?_
      refine c_X12_lastOf (w := 0) hC hD (by omega) hW ?_
      refine ev_goto 51 55 dX12_byRule_51 rfl ?_
      refine ev_ireturn 55 dX12_byRule_55 rfl rfl ?_
      have hl : pVal e r s 0 0 m < pVal e r s 0 1 m := Int32.not_le.mp c_18
      rw [show pRule e n r s m = (if 2 ≤ pCn s (nI 0) n then pFind e n s (nI (1 - 0)) m n else -1) by unfold pRule mxI; simp only []; rw [if_pos hl, if_neg c_39, if_neg c_18, hcnt 0 (by decide)]; rfl] at k
      exact k _ hD

/-- by what lanes are turned: what the class's plan holds then, and whether the rule tells -/
def mTB (e : pmV) (g : Nat → Int32) (b : Int32) (pl : Nat → Int32) (br : Int32) : Prop := (b = 4 ∧ br = 1) ∨ (b = 5 ∧ br = 0 ∧ ∀ m, m < 60 → pl m = if nI m = g 4 then g 3 else if nI m = g 5 then g 3 else -1) ∨ (b = -1 ∧ br = 0 ∧ ∀ m, m < 60 → pl m = -1) ∨ (∃ t, t < 4 ∧ b = nI t ∧ br = 0 ∧ ∀ m, m < 60 → pl m = if nI m < e.1 121 t then e.1 122 (60 * t + m) else -1)
theorem c_X12_toldLane {X : pmX} {d : Nat} {v : pmV} {P : Option Value → pmT → pmV → Prop} {LT : pmT} {e : pmV} {n tx z r : Nat} {g : Nat → Int32} {s : dT} {p : Int64} {b : Int32} {m : Nat} (hC : Cpl n tx z LT e) (hr : r < tx) (hr2 : e.1 100 11 = nI r) (hD : DM e n g s p v) (hcnt : ∀ w, w < 2 → s 2 w = pCn s (nI w) n) (hW : wOk n s) (hm : m < 60) (hb : mTB e g b (s 7) (s 8 0)) (k : ∀ v', DM e n g s p v' → P (some (.int (pTold e n r s m))) (pmT0 ++ LT) v') : EvP X (d + 4) MX12_toldLane 0 [.ref 100, .int b, .int (nI m)] [] (pmT0 ++ LT) v P := by
  have hn8 := hC.2.1.1
  have ht6 := hC.2.2.2.2.2.1.2.1
  rcases hb with ⟨rfl, hbr⟩ | ⟨rfl, hbr, hpl⟩ | ⟨rfl, hbr, hpl⟩ | ⟨t, ht, rfl, hbr, hpl⟩
  · refine ev_iload_n 0 dX12_toldLane_0 rfl ?_
    refine ev_iconst 1 dX12_toldLane_1 kI_4 ?_
    refine ev_icF 2 11 dX12_toldLane_2 rfl (by decide) ?_
    refine ev_aload_n 5 dX12_toldLane_5 rfl (by decide) ?_
    refine ev_iload_n 6 dX12_toldLane_6 rfl ?_
    refine cv_12_286_12 (pc := 7) rfl dX12_toldLane_7 kd_100 (Nat.le_of_ble_eq_true rfl) ?_
    refine c_X12_byRule hC hr hr2 hD hcnt hW (fun v1 hD => ?_)
    refine ev_ireturn 10 dX12_toldLane_10 rfl rfl ?_
    rw [show pTold e n r s m = pRule e n r s (nI m) by unfold pTold; rw [hbr, if_neg (by decide)]] at k
    exact k _ hD
  · refine ev_iload_n 0 dX12_toldLane_0 rfl ?_
    refine ev_iconst 1 dX12_toldLane_1 kI_4 ?_
    refine ev_icT 2 11 dX12_toldLane_2 rfl (by decide) ?_
    refine ev_iload_n 11 dX12_toldLane_11 rfl ?_
    refine ev_iconst 12 dX12_toldLane_12 kI_5 ?_
    refine ev_icF 13 41 dX12_toldLane_13 rfl (by decide) ?_
    refine ev_iload_n 16 dX12_toldLane_16 rfl ?_
    refine ev_aload_n 17 dX12_toldLane_17 rfl (by decide) ?_
    refine gf_12_167 (x := g 4) (pc := 18) rfl dX12_toldLane_18 kd_100 hD.g4 ?_
    refine ev_ic_eq 21 32 dX12_toldLane_21 rfl (fun c_21 => ?_) (fun c_21 => ?_)
    · refine ev_aload_n 32 dX12_toldLane_32 rfl (by decide) ?_
      refine gf_12_164 (x := g 3) (pc := 33) rfl dX12_toldLane_33 kd_100 hD.g3 ?_
      refine ev_goto 36 40 dX12_toldLane_36 rfl ?_
      refine ev_ireturn 40 dX12_toldLane_40 rfl rfl ?_
      rw [show pTold e n r s m = g 3 by unfold pTold; rw [hbr, if_pos rfl, hpl m hm]; simp [c_21]] at k
      exact k _ hD
    · refine ev_iload_n 24 dX12_toldLane_24 rfl ?_
      refine ev_aload_n 25 dX12_toldLane_25 rfl (by decide) ?_
      refine gf_12_170 (x := g 5) (pc := 26) rfl dX12_toldLane_26 kd_100 hD.g5 ?_
      refine ev_ic_ne 29 39 dX12_toldLane_29 rfl (fun c_29 => ?_) (fun c_29 => ?_)
      · refine ev_iconst 39 dX12_toldLane_39 kI_m1 ?_
        refine ev_ireturn 40 dX12_toldLane_40 rfl rfl ?_
        rw [show pTold e n r s m = (-1) by unfold pTold; rw [hbr, if_pos rfl, hpl m hm]; simp [c_21, c_29]] at k
        exact k _ hD
      · refine ev_aload_n 32 dX12_toldLane_32 rfl (by decide) ?_
        refine gf_12_164 (x := g 3) (pc := 33) rfl dX12_toldLane_33 kd_100 hD.g3 ?_
        refine ev_goto 36 40 dX12_toldLane_36 rfl ?_
        refine ev_ireturn 40 dX12_toldLane_40 rfl rfl ?_
        rw [show pTold e n r s m = g 3 by unfold pTold; rw [hbr, if_pos rfl, hpl m hm]; simp [c_21, c_29]] at k
        exact k _ hD
  · refine ev_iload_n 0 dX12_toldLane_0 rfl ?_
    refine ev_iconst 1 dX12_toldLane_1 kI_4 ?_
    refine ev_icT 2 11 dX12_toldLane_2 rfl (by decide) ?_
    refine ev_iload_n 11 dX12_toldLane_11 rfl ?_
    refine ev_iconst 12 dX12_toldLane_12 kI_5 ?_
    refine ev_icT 13 41 dX12_toldLane_13 rfl (by decide) ?_
    refine ev_iload_n 41 dX12_toldLane_41 rfl ?_
    refine ev_ifT 42 55 dX12_toldLane_42 rfl (by decide) ?_
    refine ev_iconst 55 dX12_toldLane_55 kI_m1 ?_
    refine ev_goto 56 70 dX12_toldLane_56 rfl ?_
    refine ev_ireturn 70 dX12_toldLane_70 rfl rfl ?_
    rw [show pTold e n r s m = -1 by unfold pTold; rw [hbr, if_pos rfl, hpl m hm]] at k
    exact k _ hD
  · refine ev_iload_n 0 dX12_toldLane_0 rfl ?_
    refine ev_iconst 1 dX12_toldLane_1 kI_4 ?_
    refine ev_ic_neN (a := t) (b := 4) 2 11 dX12_toldLane_2 rfl (by omega) (by omega) (fun c_2 => ?_) (fun c_2 => by omega)
    refine ev_iload_n 11 dX12_toldLane_11 rfl ?_
    refine ev_iconst 12 dX12_toldLane_12 kI_5 ?_
    refine ev_ic_neN (a := t) (b := 5) 13 41 dX12_toldLane_13 rfl (by omega) (by omega) (fun c_13 => ?_) (fun c_13 => by omega)
    refine ev_iload_n 41 dX12_toldLane_41 rfl ?_
    refine ev_if_lt 42 55 dX12_toldLane_42 rfl (fun c_42 => absurd c_42 (nI_pos (by omega))) (fun c_42 => ?_)
    refine ev_iload_n 45 dX12_toldLane_45 rfl ?_
    refine ev_aload_n 46 dX12_toldLane_46 rfl (by decide) ?_
    refine gf_12_44 (pc := 47) rfl dX12_toldLane_47 kd_100 (rf_100_50 hD.1) ?_
    refine ev_iload_n 50 dX12_toldLane_50 rfl ?_
    refine ev_ialdJ (x := e.1 121 t) (j := t) 51 dX12_toldLane_51 (Nat.le_of_ble_eq_true rfl) ty_121 (pm_inI (by omega) (by omega)) (nI_clamp (by omega)) (hD.c (by unfold DcA DcX; omega)) ?_
    refine ev_ic_lt 52 59 dX12_toldLane_52 rfl (fun c_52 => ?_) (fun c_52 => ?_)
    · refine ev_aload_n 59 dX12_toldLane_59 rfl (by decide) ?_
      refine gf_12_47 (pc := 60) rfl dX12_toldLane_60 kd_100 (rf_100_51 hD.1) ?_
      refine ev_bipush 63 dX12_toldLane_63 kB_60 ?_
      refine ev_iload_n 65 dX12_toldLane_65 rfl ?_
      refine ev_imul 66 dX12_toldLane_66 ?_
      refine ev_cst (y := nI (60 * t)) (nI_mulp 60 t) ?_
      refine ev_iload_n 67 dX12_toldLane_67 rfl ?_
      refine ev_iadd 68 dX12_toldLane_68 ?_
      refine ev_cst (y := nI (60 * t + m)) (nI_add (60 * t) m) ?_
      refine ev_ialdJ (x := e.1 122 (60 * t + m)) (j := 60 * t + m) 69 dX12_toldLane_69 (Nat.le_of_ble_eq_true rfl) ty_122 (pm_inI (by omega) (by omega)) (nI_clamp (by omega)) (hD.c (by unfold DcA DcX; omega)) ?_
      refine ev_ireturn 70 dX12_toldLane_70 rfl rfl ?_
      rw [show pTold e n r s m = e.1 122 (60 * t + m) by unfold pTold; rw [hbr, if_pos rfl, hpl m hm]; simp [c_2, c_13, c_42, c_52]] at k
      exact k _ hD
    · refine ev_iconst 55 dX12_toldLane_55 kI_m1 ?_
      refine ev_goto 56 70 dX12_toldLane_56 rfl ?_
      refine ev_ireturn 70 dX12_toldLane_70 rfl rfl ?_
      rw [show pTold e n r s m = (-1) by unfold pTold; rw [hbr, if_pos rfl, hpl m hm]; simp [c_2, c_13, c_42, c_52]] at k
      exact k _ hD
theorem arr_eq2 (c x : Int32) (h0 : 0 ≤ c) (h9 : c ≤ 99) : (if 0 ≤ c + (if x ≤ 99 then (if -99 ≤ x then x else -99) else 99) then c + (if x ≤ 99 then (if -99 ≤ x then x else -99) else 99) else 0) = mxI 0 (c + wiI x (-99) 99) := by
  rw [← arr_eq c x h0 h9]
  have : (if x ≤ 99 then (if -99 ≤ x then x else -99) else 99) = (if 99 < x then (99 : Int32) else if x < -99 then -99 else x) := by
    split <;> (try split) <;> (try split) <;> grind
  rw [this]
  generalize (if 99 < x then (99 : Int32) else if x < -99 then -99 else x) = y
  split <;> split <;> grind
def pArrX (e : pmV) (s : dT) (w m : Nat) (x : Int32) : dT := dU (dU s 0 w (s 0 w + mxI 0 (e.1 35 (w * 60 + m) + wiI x (-99) 99))) 1 w (s 1 w + mnI (mxI 0 (e.1 35 (w * 60 + m) + wiI x (-99) 99)) (e.1 36 (w * 60 + m)))
theorem pArrX_eq {e : pmV} {r : Nat} {s : dT} {w m : Nat} : pArr e r s w m = pArrX e s w m (pVal e r s 2 w (nI m)) := rfl
theorem cb_come {X : pmX} {d : Nat} {v : pmV} {P : Option Value → pmT → pmV → Prop} {LT : pmT} {e : pmV} {n tx z : Nat} {g : Nat → Int32} {s : dT} {p : Int64} {w m : Nat} {x y1 y2 : Int32} {w6 : Value} (hC : Cpl n tx z LT e) (hD : DM e n g s p v) (hw : w < 2) (hm : m < 60) (k : ∀ v' z5 z6, DM e n g (pArrX e s w m x) p v' → EvP X (d + 2) MX12_comeAll 131 [.ref 100, .int (nI m), .int y1, .int y2, .int (nI w), z5, z6] [] (pmT0 ++ LT) v' P) : EvP X (d + 2) MX12_comeAll 37 [.ref 100, .int (nI m), .int y1, .int y2, .int (nI w), .int x, w6] [] (pmT0 ++ LT) v P := by
  have hn8 := hC.2.1.1
  have hcm := (hC.2.2.1.1 (60 * w + m) (by omega)).2
  refine ev_aload_n 37 dX12_comeAll_37 rfl (by decide) ?_
  refine gf_12_31 (pc := 38) rfl dX12_comeAll_38 kd_100 (rf_100_8 hD.1) ?_
  refine ev_bipush 41 dX12_comeAll_41 kB_60 ?_
  refine ev_iload 43 dX12_comeAll_43 rfl ?_
  refine ev_imul 45 dX12_comeAll_45 ?_
  refine ev_cst (y := nI (60 * w)) (nI_mulp 60 w) ?_
  refine ev_iload_n 46 dX12_comeAll_46 rfl ?_
  refine ev_iadd 47 dX12_comeAll_47 ?_
  refine ev_cst (y := nI (60 * w + m)) (nI_add (60 * w) m) ?_
  refine ev_ialdJ (x := e.1 35 (60 * w + m)) (j := 60 * w + m) 48 dX12_comeAll_48 (Nat.le_of_ble_eq_true rfl) ty_104 (pm_inI (by omega) (by omega)) (nI_clamp (by omega)) ((hD.c (by unfold DcA DcX; omega)).trans (hC.2.2.1.1 (60 * w + m) (by omega)).1) ?_
  refine ev_iload 49 dX12_comeAll_49 rfl ?_
  refine ev_bipush 51 dX12_comeAll_51 kB_99 ?_
  refine ev_ic_le 53 61 dX12_comeAll_53 rfl (fun c_53 => ?_) (fun c_53 => ?_)
  · refine ev_iload 61 dX12_comeAll_61 rfl ?_
    refine ev_bipush 63 dX12_comeAll_63 kB_m99 ?_
    refine ev_ic_ge 65 73 dX12_comeAll_65 rfl (fun c_65 => ?_) (fun c_65 => ?_)
    · refine ev_iload 73 dX12_comeAll_73 rfl ?_
      refine ev_iadd 75 dX12_comeAll_75 ?_
      refine ev_istore (ls' := [.ref 100, .int (nI m), .int y1, .int y2, .int (nI w), .int x, .int ((e.1 35 (60 * w + m)) + x)]) 76 dX12_comeAll_76 (Nat.le_of_ble_eq_true rfl) rfl ?_
      refine ev_iload 78 dX12_comeAll_78 rfl ?_
      refine ev_if_ge 80 87 dX12_comeAll_80 rfl (fun c_80 => ?_) (fun c_80 => ?_)
      · refine ev_iload 87 dX12_comeAll_87 rfl ?_
        refine ev_istore (ls' := [.ref 100, .int (nI m), .int y1, .int y2, .int (nI w), .int x, .int ((e.1 35 (60 * w + m)) + x)]) 89 dX12_comeAll_89 (Nat.le_of_ble_eq_true rfl) rfl ?_
        refine ev_aload_n 91 dX12_comeAll_91 rfl (by decide) ?_
        refine gf_12_134 (pc := 92) rfl dX12_comeAll_92 kd_100 (rf_100_27 hD.1) ?_
        refine ev_iload 95 dX12_comeAll_95 rfl ?_
        refine ev_dup2 97 dX12_comeAll_97 rfl rfl ?_
        refine ev_ialdJ (x := s 0 w) (j := w) 98 dX12_comeAll_98 (Nat.le_of_ble_eq_true rfl) ty_113 (pm_inI (by omega) (by omega)) (nI_clamp (by omega)) (hD.r0 (by omega)) ?_
        refine ev_iload 99 dX12_comeAll_99 rfl ?_
        refine ev_iadd 101 dX12_comeAll_101 ?_
        refine ev_iastJ (j := w) 102 dX12_comeAll_102 (Nat.le_of_ble_eq_true rfl) ty_113 (pm_inI (by omega) (by omega)) (nI_clamp (by omega)) ?_
        refine ev_abs (Q := DM e n g (dU s 0 w ((s 0 w) + ((e.1 35 (60 * w + m)) + x))) p) (hD.u0 w ((s 0 w) + ((e.1 35 (60 * w + m)) + x))) (fun v1 hD => ?_)
        refine ev_aload_n 103 dX12_comeAll_103 rfl (by decide) ?_
        refine gf_12_137 (pc := 104) rfl dX12_comeAll_104 kd_100 (rf_100_28 hD.1) ?_
        refine ev_iload 107 dX12_comeAll_107 rfl ?_
        refine ev_dup2 109 dX12_comeAll_109 rfl rfl ?_
        refine ev_ialdJ (x := s 1 w) (j := w) 110 dX12_comeAll_110 (Nat.le_of_ble_eq_true rfl) ty_114 (pm_inI (by omega) (by omega)) (nI_clamp (by omega)) ((hD.r1 (by omega)).trans (dU_ne (by decide))) ?_
        refine ev_aload_n 111 dX12_comeAll_111 rfl (by decide) ?_
        refine ev_iload 112 dX12_comeAll_112 rfl ?_
        refine ev_aload_n 114 dX12_comeAll_114 rfl (by decide) ?_
        refine gf_12_34 (pc := 115) rfl dX12_comeAll_115 kd_100 (rf_100_9 hD.1) ?_
        refine ev_bipush 118 dX12_comeAll_118 kB_60 ?_
        refine ev_iload 120 dX12_comeAll_120 rfl ?_
        refine ev_imul 122 dX12_comeAll_122 ?_
        refine ev_cst (y := nI (60 * w)) (nI_mulp 60 w) ?_
        refine ev_iload_n 123 dX12_comeAll_123 rfl ?_
        refine ev_iadd 124 dX12_comeAll_124 ?_
        refine ev_cst (y := nI (60 * w + m)) (nI_add (60 * w) m) ?_
        refine ev_ialdJ (x := e.1 36 (60 * w + m)) (j := 60 * w + m) 125 dX12_comeAll_125 (Nat.le_of_ble_eq_true rfl) ty_105 (pm_inI (by omega) (by omega)) (nI_clamp (by omega)) ((hD.c (by unfold DcA DcX; omega)).trans (hC.2.2.1.2.1 (60 * w + m) (by omega)).1) ?_
        refine cv_12_280_12 (pc := 126) rfl dX12_comeAll_126 kd_100 (Nat.le_of_ble_eq_true rfl) ?_
        refine c_X12_min ?_
        refine ev_cst (y := mnI ((e.1 35 (60 * w + m)) + x) (e.1 36 (60 * w + m))) (mn_eq _ _) ?_
        refine ev_iadd 129 dX12_comeAll_129 ?_
        refine ev_iastJ (j := w) 130 dX12_comeAll_130 (Nat.le_of_ble_eq_true rfl) ty_114 (pm_inI (by omega) (by omega)) (nI_clamp (by omega)) ?_
        refine ev_abs (Q := DM e n g (dU (dU s 0 w ((s 0 w) + ((e.1 35 (60 * w + m)) + x))) 1 w ((s 1 w) + (mnI ((e.1 35 (60 * w + m)) + x) (e.1 36 (60 * w + m))))) p) (hD.u1 w ((s 1 w) + (mnI ((e.1 35 (60 * w + m)) + x) (e.1 36 (60 * w + m))))) (fun v2 hD => ?_)
        have hq := arr_eq2 (e.1 35 (60 * w + m)) x hcm.1 hcm.2
        rw [if_pos c_53, if_pos c_65, if_pos c_80] at hq
        have hfin : pArrX e s w m x = dU (dU s 0 w ((s 0 w) + ((e.1 35 (60 * w + m)) + x))) 1 w ((s 1 w) + (mnI ((e.1 35 (60 * w + m)) + x) (e.1 36 (60 * w + m)))) := by unfold pArrX; rw [show w * 60 + m = 60 * w + m by omega, ← hq]
        rw [← hfin] at hD
        exact k _ _ _ hD
      · refine ev_iconst 83 dX12_comeAll_83 kI_0 ?_
        refine ev_goto 84 89 dX12_comeAll_84 rfl ?_
        refine ev_istore (ls' := [.ref 100, .int (nI m), .int y1, .int y2, .int (nI w), .int x, .int 0]) 89 dX12_comeAll_89 (Nat.le_of_ble_eq_true rfl) rfl ?_
        refine ev_aload_n 91 dX12_comeAll_91 rfl (by decide) ?_
        refine gf_12_134 (pc := 92) rfl dX12_comeAll_92 kd_100 (rf_100_27 hD.1) ?_
        refine ev_iload 95 dX12_comeAll_95 rfl ?_
        refine ev_dup2 97 dX12_comeAll_97 rfl rfl ?_
        refine ev_ialdJ (x := s 0 w) (j := w) 98 dX12_comeAll_98 (Nat.le_of_ble_eq_true rfl) ty_113 (pm_inI (by omega) (by omega)) (nI_clamp (by omega)) (hD.r0 (by omega)) ?_
        refine ev_iload 99 dX12_comeAll_99 rfl ?_
        refine ev_iadd 101 dX12_comeAll_101 ?_
        refine ev_iastJ (j := w) 102 dX12_comeAll_102 (Nat.le_of_ble_eq_true rfl) ty_113 (pm_inI (by omega) (by omega)) (nI_clamp (by omega)) ?_
        refine ev_abs (Q := DM e n g (dU s 0 w ((s 0 w) + 0)) p) (hD.u0 w ((s 0 w) + 0)) (fun v3 hD => ?_)
        refine ev_aload_n 103 dX12_comeAll_103 rfl (by decide) ?_
        refine gf_12_137 (pc := 104) rfl dX12_comeAll_104 kd_100 (rf_100_28 hD.1) ?_
        refine ev_iload 107 dX12_comeAll_107 rfl ?_
        refine ev_dup2 109 dX12_comeAll_109 rfl rfl ?_
        refine ev_ialdJ (x := s 1 w) (j := w) 110 dX12_comeAll_110 (Nat.le_of_ble_eq_true rfl) ty_114 (pm_inI (by omega) (by omega)) (nI_clamp (by omega)) ((hD.r1 (by omega)).trans (dU_ne (by decide))) ?_
        refine ev_aload_n 111 dX12_comeAll_111 rfl (by decide) ?_
        refine ev_iload 112 dX12_comeAll_112 rfl ?_
        refine ev_aload_n 114 dX12_comeAll_114 rfl (by decide) ?_
        refine gf_12_34 (pc := 115) rfl dX12_comeAll_115 kd_100 (rf_100_9 hD.1) ?_
        refine ev_bipush 118 dX12_comeAll_118 kB_60 ?_
        refine ev_iload 120 dX12_comeAll_120 rfl ?_
        refine ev_imul 122 dX12_comeAll_122 ?_
        refine ev_cst (y := nI (60 * w)) (nI_mulp 60 w) ?_
        refine ev_iload_n 123 dX12_comeAll_123 rfl ?_
        refine ev_iadd 124 dX12_comeAll_124 ?_
        refine ev_cst (y := nI (60 * w + m)) (nI_add (60 * w) m) ?_
        refine ev_ialdJ (x := e.1 36 (60 * w + m)) (j := 60 * w + m) 125 dX12_comeAll_125 (Nat.le_of_ble_eq_true rfl) ty_105 (pm_inI (by omega) (by omega)) (nI_clamp (by omega)) ((hD.c (by unfold DcA DcX; omega)).trans (hC.2.2.1.2.1 (60 * w + m) (by omega)).1) ?_
        refine cv_12_280_12 (pc := 126) rfl dX12_comeAll_126 kd_100 (Nat.le_of_ble_eq_true rfl) ?_
        refine c_X12_min ?_
        refine ev_cst (y := mnI 0 (e.1 36 (60 * w + m))) (mn_eq _ _) ?_
        refine ev_iadd 129 dX12_comeAll_129 ?_
        refine ev_iastJ (j := w) 130 dX12_comeAll_130 (Nat.le_of_ble_eq_true rfl) ty_114 (pm_inI (by omega) (by omega)) (nI_clamp (by omega)) ?_
        refine ev_abs (Q := DM e n g (dU (dU s 0 w ((s 0 w) + 0)) 1 w ((s 1 w) + (mnI 0 (e.1 36 (60 * w + m))))) p) (hD.u1 w ((s 1 w) + (mnI 0 (e.1 36 (60 * w + m))))) (fun v4 hD => ?_)
        have hq := arr_eq2 (e.1 35 (60 * w + m)) x hcm.1 hcm.2
        rw [if_pos c_53, if_pos c_65, if_neg c_80] at hq
        have hfin : pArrX e s w m x = dU (dU s 0 w ((s 0 w) + 0)) 1 w ((s 1 w) + (mnI 0 (e.1 36 (60 * w + m)))) := by unfold pArrX; rw [show w * 60 + m = 60 * w + m by omega, ← hq]
        rw [← hfin] at hD
        exact k _ _ _ hD
    · refine ev_bipush 68 dX12_comeAll_68 kB_m99 ?_
      refine ev_goto 70 75 dX12_comeAll_70 rfl ?_
      refine ev_iadd 75 dX12_comeAll_75 ?_
      refine ev_istore (ls' := [.ref 100, .int (nI m), .int y1, .int y2, .int (nI w), .int x, .int ((e.1 35 (60 * w + m)) + (-99))]) 76 dX12_comeAll_76 (Nat.le_of_ble_eq_true rfl) rfl ?_
      refine ev_iload 78 dX12_comeAll_78 rfl ?_
      refine ev_if_ge 80 87 dX12_comeAll_80 rfl (fun c_80 => ?_) (fun c_80 => ?_)
      · refine ev_iload 87 dX12_comeAll_87 rfl ?_
        refine ev_istore (ls' := [.ref 100, .int (nI m), .int y1, .int y2, .int (nI w), .int x, .int ((e.1 35 (60 * w + m)) + (-99))]) 89 dX12_comeAll_89 (Nat.le_of_ble_eq_true rfl) rfl ?_
        refine ev_aload_n 91 dX12_comeAll_91 rfl (by decide) ?_
        refine gf_12_134 (pc := 92) rfl dX12_comeAll_92 kd_100 (rf_100_27 hD.1) ?_
        refine ev_iload 95 dX12_comeAll_95 rfl ?_
        refine ev_dup2 97 dX12_comeAll_97 rfl rfl ?_
        refine ev_ialdJ (x := s 0 w) (j := w) 98 dX12_comeAll_98 (Nat.le_of_ble_eq_true rfl) ty_113 (pm_inI (by omega) (by omega)) (nI_clamp (by omega)) (hD.r0 (by omega)) ?_
        refine ev_iload 99 dX12_comeAll_99 rfl ?_
        refine ev_iadd 101 dX12_comeAll_101 ?_
        refine ev_iastJ (j := w) 102 dX12_comeAll_102 (Nat.le_of_ble_eq_true rfl) ty_113 (pm_inI (by omega) (by omega)) (nI_clamp (by omega)) ?_
        refine ev_abs (Q := DM e n g (dU s 0 w ((s 0 w) + ((e.1 35 (60 * w + m)) + (-99)))) p) (hD.u0 w ((s 0 w) + ((e.1 35 (60 * w + m)) + (-99)))) (fun v5 hD => ?_)
        refine ev_aload_n 103 dX12_comeAll_103 rfl (by decide) ?_
        refine gf_12_137 (pc := 104) rfl dX12_comeAll_104 kd_100 (rf_100_28 hD.1) ?_
        refine ev_iload 107 dX12_comeAll_107 rfl ?_
        refine ev_dup2 109 dX12_comeAll_109 rfl rfl ?_
        refine ev_ialdJ (x := s 1 w) (j := w) 110 dX12_comeAll_110 (Nat.le_of_ble_eq_true rfl) ty_114 (pm_inI (by omega) (by omega)) (nI_clamp (by omega)) ((hD.r1 (by omega)).trans (dU_ne (by decide))) ?_
        refine ev_aload_n 111 dX12_comeAll_111 rfl (by decide) ?_
        refine ev_iload 112 dX12_comeAll_112 rfl ?_
        refine ev_aload_n 114 dX12_comeAll_114 rfl (by decide) ?_
        refine gf_12_34 (pc := 115) rfl dX12_comeAll_115 kd_100 (rf_100_9 hD.1) ?_
        refine ev_bipush 118 dX12_comeAll_118 kB_60 ?_
        refine ev_iload 120 dX12_comeAll_120 rfl ?_
        refine ev_imul 122 dX12_comeAll_122 ?_
        refine ev_cst (y := nI (60 * w)) (nI_mulp 60 w) ?_
        refine ev_iload_n 123 dX12_comeAll_123 rfl ?_
        refine ev_iadd 124 dX12_comeAll_124 ?_
        refine ev_cst (y := nI (60 * w + m)) (nI_add (60 * w) m) ?_
        refine ev_ialdJ (x := e.1 36 (60 * w + m)) (j := 60 * w + m) 125 dX12_comeAll_125 (Nat.le_of_ble_eq_true rfl) ty_105 (pm_inI (by omega) (by omega)) (nI_clamp (by omega)) ((hD.c (by unfold DcA DcX; omega)).trans (hC.2.2.1.2.1 (60 * w + m) (by omega)).1) ?_
        refine cv_12_280_12 (pc := 126) rfl dX12_comeAll_126 kd_100 (Nat.le_of_ble_eq_true rfl) ?_
        refine c_X12_min ?_
        refine ev_cst (y := mnI ((e.1 35 (60 * w + m)) + (-99)) (e.1 36 (60 * w + m))) (mn_eq _ _) ?_
        refine ev_iadd 129 dX12_comeAll_129 ?_
        refine ev_iastJ (j := w) 130 dX12_comeAll_130 (Nat.le_of_ble_eq_true rfl) ty_114 (pm_inI (by omega) (by omega)) (nI_clamp (by omega)) ?_
        refine ev_abs (Q := DM e n g (dU (dU s 0 w ((s 0 w) + ((e.1 35 (60 * w + m)) + (-99)))) 1 w ((s 1 w) + (mnI ((e.1 35 (60 * w + m)) + (-99)) (e.1 36 (60 * w + m))))) p) (hD.u1 w ((s 1 w) + (mnI ((e.1 35 (60 * w + m)) + (-99)) (e.1 36 (60 * w + m))))) (fun v6 hD => ?_)
        have hq := arr_eq2 (e.1 35 (60 * w + m)) x hcm.1 hcm.2
        rw [if_pos c_53, if_neg c_65, if_pos c_80] at hq
        have hfin : pArrX e s w m x = dU (dU s 0 w ((s 0 w) + ((e.1 35 (60 * w + m)) + (-99)))) 1 w ((s 1 w) + (mnI ((e.1 35 (60 * w + m)) + (-99)) (e.1 36 (60 * w + m)))) := by unfold pArrX; rw [show w * 60 + m = 60 * w + m by omega, ← hq]
        rw [← hfin] at hD
        exact k _ _ _ hD
      · refine ev_iconst 83 dX12_comeAll_83 kI_0 ?_
        refine ev_goto 84 89 dX12_comeAll_84 rfl ?_
        refine ev_istore (ls' := [.ref 100, .int (nI m), .int y1, .int y2, .int (nI w), .int x, .int 0]) 89 dX12_comeAll_89 (Nat.le_of_ble_eq_true rfl) rfl ?_
        refine ev_aload_n 91 dX12_comeAll_91 rfl (by decide) ?_
        refine gf_12_134 (pc := 92) rfl dX12_comeAll_92 kd_100 (rf_100_27 hD.1) ?_
        refine ev_iload 95 dX12_comeAll_95 rfl ?_
        refine ev_dup2 97 dX12_comeAll_97 rfl rfl ?_
        refine ev_ialdJ (x := s 0 w) (j := w) 98 dX12_comeAll_98 (Nat.le_of_ble_eq_true rfl) ty_113 (pm_inI (by omega) (by omega)) (nI_clamp (by omega)) (hD.r0 (by omega)) ?_
        refine ev_iload 99 dX12_comeAll_99 rfl ?_
        refine ev_iadd 101 dX12_comeAll_101 ?_
        refine ev_iastJ (j := w) 102 dX12_comeAll_102 (Nat.le_of_ble_eq_true rfl) ty_113 (pm_inI (by omega) (by omega)) (nI_clamp (by omega)) ?_
        refine ev_abs (Q := DM e n g (dU s 0 w ((s 0 w) + 0)) p) (hD.u0 w ((s 0 w) + 0)) (fun v7 hD => ?_)
        refine ev_aload_n 103 dX12_comeAll_103 rfl (by decide) ?_
        refine gf_12_137 (pc := 104) rfl dX12_comeAll_104 kd_100 (rf_100_28 hD.1) ?_
        refine ev_iload 107 dX12_comeAll_107 rfl ?_
        refine ev_dup2 109 dX12_comeAll_109 rfl rfl ?_
        refine ev_ialdJ (x := s 1 w) (j := w) 110 dX12_comeAll_110 (Nat.le_of_ble_eq_true rfl) ty_114 (pm_inI (by omega) (by omega)) (nI_clamp (by omega)) ((hD.r1 (by omega)).trans (dU_ne (by decide))) ?_
        refine ev_aload_n 111 dX12_comeAll_111 rfl (by decide) ?_
        refine ev_iload 112 dX12_comeAll_112 rfl ?_
        refine ev_aload_n 114 dX12_comeAll_114 rfl (by decide) ?_
        refine gf_12_34 (pc := 115) rfl dX12_comeAll_115 kd_100 (rf_100_9 hD.1) ?_
        refine ev_bipush 118 dX12_comeAll_118 kB_60 ?_
        refine ev_iload 120 dX12_comeAll_120 rfl ?_
        refine ev_imul 122 dX12_comeAll_122 ?_
        refine ev_cst (y := nI (60 * w)) (nI_mulp 60 w) ?_
        refine ev_iload_n 123 dX12_comeAll_123 rfl ?_
        refine ev_iadd 124 dX12_comeAll_124 ?_
        refine ev_cst (y := nI (60 * w + m)) (nI_add (60 * w) m) ?_
        refine ev_ialdJ (x := e.1 36 (60 * w + m)) (j := 60 * w + m) 125 dX12_comeAll_125 (Nat.le_of_ble_eq_true rfl) ty_105 (pm_inI (by omega) (by omega)) (nI_clamp (by omega)) ((hD.c (by unfold DcA DcX; omega)).trans (hC.2.2.1.2.1 (60 * w + m) (by omega)).1) ?_
        refine cv_12_280_12 (pc := 126) rfl dX12_comeAll_126 kd_100 (Nat.le_of_ble_eq_true rfl) ?_
        refine c_X12_min ?_
        refine ev_cst (y := mnI 0 (e.1 36 (60 * w + m))) (mn_eq _ _) ?_
        refine ev_iadd 129 dX12_comeAll_129 ?_
        refine ev_iastJ (j := w) 130 dX12_comeAll_130 (Nat.le_of_ble_eq_true rfl) ty_114 (pm_inI (by omega) (by omega)) (nI_clamp (by omega)) ?_
        refine ev_abs (Q := DM e n g (dU (dU s 0 w ((s 0 w) + 0)) 1 w ((s 1 w) + (mnI 0 (e.1 36 (60 * w + m))))) p) (hD.u1 w ((s 1 w) + (mnI 0 (e.1 36 (60 * w + m))))) (fun v8 hD => ?_)
        have hq := arr_eq2 (e.1 35 (60 * w + m)) x hcm.1 hcm.2
        rw [if_pos c_53, if_neg c_65, if_neg c_80] at hq
        have hfin : pArrX e s w m x = dU (dU s 0 w ((s 0 w) + 0)) 1 w ((s 1 w) + (mnI 0 (e.1 36 (60 * w + m)))) := by unfold pArrX; rw [show w * 60 + m = 60 * w + m by omega, ← hq]
        rw [← hfin] at hD
        exact k _ _ _ hD
  · refine ev_bipush 56 dX12_comeAll_56 kB_99 ?_
    refine ev_goto 58 75 dX12_comeAll_58 rfl ?_
    refine ev_iadd 75 dX12_comeAll_75 ?_
    refine ev_istore (ls' := [.ref 100, .int (nI m), .int y1, .int y2, .int (nI w), .int x, .int ((e.1 35 (60 * w + m)) + 99)]) 76 dX12_comeAll_76 (Nat.le_of_ble_eq_true rfl) rfl ?_
    refine ev_iload 78 dX12_comeAll_78 rfl ?_
    refine ev_if_ge 80 87 dX12_comeAll_80 rfl (fun c_80 => ?_) (fun c_80 => ?_)
    · refine ev_iload 87 dX12_comeAll_87 rfl ?_
      refine ev_istore (ls' := [.ref 100, .int (nI m), .int y1, .int y2, .int (nI w), .int x, .int ((e.1 35 (60 * w + m)) + 99)]) 89 dX12_comeAll_89 (Nat.le_of_ble_eq_true rfl) rfl ?_
      refine ev_aload_n 91 dX12_comeAll_91 rfl (by decide) ?_
      refine gf_12_134 (pc := 92) rfl dX12_comeAll_92 kd_100 (rf_100_27 hD.1) ?_
      refine ev_iload 95 dX12_comeAll_95 rfl ?_
      refine ev_dup2 97 dX12_comeAll_97 rfl rfl ?_
      refine ev_ialdJ (x := s 0 w) (j := w) 98 dX12_comeAll_98 (Nat.le_of_ble_eq_true rfl) ty_113 (pm_inI (by omega) (by omega)) (nI_clamp (by omega)) (hD.r0 (by omega)) ?_
      refine ev_iload 99 dX12_comeAll_99 rfl ?_
      refine ev_iadd 101 dX12_comeAll_101 ?_
      refine ev_iastJ (j := w) 102 dX12_comeAll_102 (Nat.le_of_ble_eq_true rfl) ty_113 (pm_inI (by omega) (by omega)) (nI_clamp (by omega)) ?_
      refine ev_abs (Q := DM e n g (dU s 0 w ((s 0 w) + ((e.1 35 (60 * w + m)) + 99))) p) (hD.u0 w ((s 0 w) + ((e.1 35 (60 * w + m)) + 99))) (fun v9 hD => ?_)
      refine ev_aload_n 103 dX12_comeAll_103 rfl (by decide) ?_
      refine gf_12_137 (pc := 104) rfl dX12_comeAll_104 kd_100 (rf_100_28 hD.1) ?_
      refine ev_iload 107 dX12_comeAll_107 rfl ?_
      refine ev_dup2 109 dX12_comeAll_109 rfl rfl ?_
      refine ev_ialdJ (x := s 1 w) (j := w) 110 dX12_comeAll_110 (Nat.le_of_ble_eq_true rfl) ty_114 (pm_inI (by omega) (by omega)) (nI_clamp (by omega)) ((hD.r1 (by omega)).trans (dU_ne (by decide))) ?_
      refine ev_aload_n 111 dX12_comeAll_111 rfl (by decide) ?_
      refine ev_iload 112 dX12_comeAll_112 rfl ?_
      refine ev_aload_n 114 dX12_comeAll_114 rfl (by decide) ?_
      refine gf_12_34 (pc := 115) rfl dX12_comeAll_115 kd_100 (rf_100_9 hD.1) ?_
      refine ev_bipush 118 dX12_comeAll_118 kB_60 ?_
      refine ev_iload 120 dX12_comeAll_120 rfl ?_
      refine ev_imul 122 dX12_comeAll_122 ?_
      refine ev_cst (y := nI (60 * w)) (nI_mulp 60 w) ?_
      refine ev_iload_n 123 dX12_comeAll_123 rfl ?_
      refine ev_iadd 124 dX12_comeAll_124 ?_
      refine ev_cst (y := nI (60 * w + m)) (nI_add (60 * w) m) ?_
      refine ev_ialdJ (x := e.1 36 (60 * w + m)) (j := 60 * w + m) 125 dX12_comeAll_125 (Nat.le_of_ble_eq_true rfl) ty_105 (pm_inI (by omega) (by omega)) (nI_clamp (by omega)) ((hD.c (by unfold DcA DcX; omega)).trans (hC.2.2.1.2.1 (60 * w + m) (by omega)).1) ?_
      refine cv_12_280_12 (pc := 126) rfl dX12_comeAll_126 kd_100 (Nat.le_of_ble_eq_true rfl) ?_
      refine c_X12_min ?_
      refine ev_cst (y := mnI ((e.1 35 (60 * w + m)) + 99) (e.1 36 (60 * w + m))) (mn_eq _ _) ?_
      refine ev_iadd 129 dX12_comeAll_129 ?_
      refine ev_iastJ (j := w) 130 dX12_comeAll_130 (Nat.le_of_ble_eq_true rfl) ty_114 (pm_inI (by omega) (by omega)) (nI_clamp (by omega)) ?_
      refine ev_abs (Q := DM e n g (dU (dU s 0 w ((s 0 w) + ((e.1 35 (60 * w + m)) + 99))) 1 w ((s 1 w) + (mnI ((e.1 35 (60 * w + m)) + 99) (e.1 36 (60 * w + m))))) p) (hD.u1 w ((s 1 w) + (mnI ((e.1 35 (60 * w + m)) + 99) (e.1 36 (60 * w + m))))) (fun v10 hD => ?_)
      have hq := arr_eq2 (e.1 35 (60 * w + m)) x hcm.1 hcm.2
      rw [if_neg c_53, if_pos c_80] at hq
      have hfin : pArrX e s w m x = dU (dU s 0 w ((s 0 w) + ((e.1 35 (60 * w + m)) + 99))) 1 w ((s 1 w) + (mnI ((e.1 35 (60 * w + m)) + 99) (e.1 36 (60 * w + m)))) := by unfold pArrX; rw [show w * 60 + m = 60 * w + m by omega, ← hq]
      rw [← hfin] at hD
      exact k _ _ _ hD
    · refine ev_iconst 83 dX12_comeAll_83 kI_0 ?_
      refine ev_goto 84 89 dX12_comeAll_84 rfl ?_
      refine ev_istore (ls' := [.ref 100, .int (nI m), .int y1, .int y2, .int (nI w), .int x, .int 0]) 89 dX12_comeAll_89 (Nat.le_of_ble_eq_true rfl) rfl ?_
      refine ev_aload_n 91 dX12_comeAll_91 rfl (by decide) ?_
      refine gf_12_134 (pc := 92) rfl dX12_comeAll_92 kd_100 (rf_100_27 hD.1) ?_
      refine ev_iload 95 dX12_comeAll_95 rfl ?_
      refine ev_dup2 97 dX12_comeAll_97 rfl rfl ?_
      refine ev_ialdJ (x := s 0 w) (j := w) 98 dX12_comeAll_98 (Nat.le_of_ble_eq_true rfl) ty_113 (pm_inI (by omega) (by omega)) (nI_clamp (by omega)) (hD.r0 (by omega)) ?_
      refine ev_iload 99 dX12_comeAll_99 rfl ?_
      refine ev_iadd 101 dX12_comeAll_101 ?_
      refine ev_iastJ (j := w) 102 dX12_comeAll_102 (Nat.le_of_ble_eq_true rfl) ty_113 (pm_inI (by omega) (by omega)) (nI_clamp (by omega)) ?_
      refine ev_abs (Q := DM e n g (dU s 0 w ((s 0 w) + 0)) p) (hD.u0 w ((s 0 w) + 0)) (fun v11 hD => ?_)
      refine ev_aload_n 103 dX12_comeAll_103 rfl (by decide) ?_
      refine gf_12_137 (pc := 104) rfl dX12_comeAll_104 kd_100 (rf_100_28 hD.1) ?_
      refine ev_iload 107 dX12_comeAll_107 rfl ?_
      refine ev_dup2 109 dX12_comeAll_109 rfl rfl ?_
      refine ev_ialdJ (x := s 1 w) (j := w) 110 dX12_comeAll_110 (Nat.le_of_ble_eq_true rfl) ty_114 (pm_inI (by omega) (by omega)) (nI_clamp (by omega)) ((hD.r1 (by omega)).trans (dU_ne (by decide))) ?_
      refine ev_aload_n 111 dX12_comeAll_111 rfl (by decide) ?_
      refine ev_iload 112 dX12_comeAll_112 rfl ?_
      refine ev_aload_n 114 dX12_comeAll_114 rfl (by decide) ?_
      refine gf_12_34 (pc := 115) rfl dX12_comeAll_115 kd_100 (rf_100_9 hD.1) ?_
      refine ev_bipush 118 dX12_comeAll_118 kB_60 ?_
      refine ev_iload 120 dX12_comeAll_120 rfl ?_
      refine ev_imul 122 dX12_comeAll_122 ?_
      refine ev_cst (y := nI (60 * w)) (nI_mulp 60 w) ?_
      refine ev_iload_n 123 dX12_comeAll_123 rfl ?_
      refine ev_iadd 124 dX12_comeAll_124 ?_
      refine ev_cst (y := nI (60 * w + m)) (nI_add (60 * w) m) ?_
      refine ev_ialdJ (x := e.1 36 (60 * w + m)) (j := 60 * w + m) 125 dX12_comeAll_125 (Nat.le_of_ble_eq_true rfl) ty_105 (pm_inI (by omega) (by omega)) (nI_clamp (by omega)) ((hD.c (by unfold DcA DcX; omega)).trans (hC.2.2.1.2.1 (60 * w + m) (by omega)).1) ?_
      refine cv_12_280_12 (pc := 126) rfl dX12_comeAll_126 kd_100 (Nat.le_of_ble_eq_true rfl) ?_
      refine c_X12_min ?_
      refine ev_cst (y := mnI 0 (e.1 36 (60 * w + m))) (mn_eq _ _) ?_
      refine ev_iadd 129 dX12_comeAll_129 ?_
      refine ev_iastJ (j := w) 130 dX12_comeAll_130 (Nat.le_of_ble_eq_true rfl) ty_114 (pm_inI (by omega) (by omega)) (nI_clamp (by omega)) ?_
      refine ev_abs (Q := DM e n g (dU (dU s 0 w ((s 0 w) + 0)) 1 w ((s 1 w) + (mnI 0 (e.1 36 (60 * w + m))))) p) (hD.u1 w ((s 1 w) + (mnI 0 (e.1 36 (60 * w + m))))) (fun v12 hD => ?_)
      have hq := arr_eq2 (e.1 35 (60 * w + m)) x hcm.1 hcm.2
      rw [if_neg c_53, if_neg c_80] at hq
      have hfin : pArrX e s w m x = dU (dU s 0 w ((s 0 w) + 0)) 1 w ((s 1 w) + (mnI 0 (e.1 36 (60 * w + m)))) := by unfold pArrX; rw [show w * 60 + m = 60 * w + m by omega, ← hq]
      rw [← hfin] at hD
      exact k _ _ _ hD

theorem c_X12_comeAll {X : pmX} {d : Nat} {v : pmV} {P : Option Value → pmT → pmV → Prop} {LT : pmT} {e : pmV} {n tx z r : Nat} {g : Nat → Int32} {s : dT} {p : Int64} {m : Nat} (hC : Cpl n tx z LT e) (hr : r < tx) (hr2 : e.1 100 11 = nI r) (hD : DM e n g s p v) (hcnt : ∀ w, w < 2 → s 2 w = pCn s (nI w) n) (hm : m < 60) (k : ∀ v', DM e n g (pArr e r (pArr e r s 0 m) 1 m) p v' → P none (pmT0 ++ LT) v') : EvP X (d + 2) MX12_comeAll 0 [.ref 100, .int (nI m), pmJ, pmJ, pmJ, pmJ, pmJ] [] (pmT0 ++ LT) v P := by
  have hn8 := hC.2.1.1
  have ht6 := hC.2.2.2.2.2.1.2.1
  refine ev_aload_n 0 dX12_comeAll_0 rfl (by decide) ?_
  refine ev_iconst 1 dX12_comeAll_1 kI_2 ?_
  refine ev_iconst 2 dX12_comeAll_2 kI_0 ?_
  refine ev_iload_n 3 dX12_comeAll_3 rfl ?_
  refine cv_12_277_12 (pc := 4) rfl dX12_comeAll_4 kd_100 (Nat.le_of_ble_eq_true rfl) ?_
  refine c_X12_tellsRule (k0 := 2) (w := 0) hC hr hr2 hD (by omega) (by omega) (hcnt 0 (by omega)) (fun v1 hD => ?_)
  refine ev_istore_n (ls' := [.ref 100, .int (nI m), .int (pVal e r s 2 0 (nI m)), pmJ, pmJ, pmJ, pmJ]) 7 dX12_comeAll_7 (Nat.le_of_ble_eq_true rfl) rfl ?_
  refine ev_aload_n 8 dX12_comeAll_8 rfl (by decide) ?_
  refine ev_iconst 9 dX12_comeAll_9 kI_2 ?_
  refine ev_iconst 10 dX12_comeAll_10 kI_1 ?_
  refine ev_iload_n 11 dX12_comeAll_11 rfl ?_
  refine cv_12_277_12 (pc := 12) rfl dX12_comeAll_12 kd_100 (Nat.le_of_ble_eq_true rfl) ?_
  refine c_X12_tellsRule (k0 := 2) (w := 1) hC hr hr2 hD (by omega) (by omega) (hcnt 1 (by omega)) (fun v2 hD => ?_)
  refine ev_istore_n (ls' := [.ref 100, .int (nI m), .int (pVal e r s 2 0 (nI m)), .int (pVal e r s 2 1 (nI m)), pmJ, pmJ, pmJ]) 15 dX12_comeAll_15 (Nat.le_of_ble_eq_true rfl) rfl ?_
  refine ev_iconst 16 dX12_comeAll_16 kI_0 ?_
  refine ev_istore (ls' := [.ref 100, .int (nI m), .int (pVal e r s 2 0 (nI m)), .int (pVal e r s 2 1 (nI m)), .int 0, pmJ, pmJ]) 17 dX12_comeAll_17 (Nat.le_of_ble_eq_true rfl) rfl ?_
  refine ev_iload 19 dX12_comeAll_19 rfl ?_
  refine ev_iconst 21 dX12_comeAll_21 kI_2 ?_
  refine ev_icF 22 137 dX12_comeAll_22 rfl (by decide) ?_
  refine ev_iload 25 dX12_comeAll_25 rfl ?_
  refine ev_ifF 27 34 dX12_comeAll_27 rfl (by decide) ?_
  refine ev_iload_n 30 dX12_comeAll_30 rfl ?_
  refine ev_goto 31 35 dX12_comeAll_31 rfl ?_
  refine ev_istore (ls' := [.ref 100, .int (nI m), .int (pVal e r s 2 0 (nI m)), .int (pVal e r s 2 1 (nI m)), .int 0, .int (pVal e r s 2 0 (nI m)), pmJ]) 35 dX12_comeAll_35 (Nat.le_of_ble_eq_true rfl) rfl ?_
  refine cb_come (w := 0) hC hD (by omega) hm (fun v3 z5 z6 hD => ?_)
  refine ev_iinc (y := 1) (ls' := [.ref 100, .int (nI m), .int (pVal e r s 2 0 (nI m)), .int (pVal e r s 2 1 (nI m)), .int 1, z5, z6]) 131 dX12_comeAll_131 rfl (by decide) rfl ?_
  refine ev_goto 134 19 dX12_comeAll_134 rfl ?_
  refine ev_iload 19 dX12_comeAll_19 rfl ?_
  refine ev_iconst 21 dX12_comeAll_21 kI_2 ?_
  refine ev_icF 22 137 dX12_comeAll_22 rfl (by decide) ?_
  refine ev_iload 25 dX12_comeAll_25 rfl ?_
  refine ev_ifT 27 34 dX12_comeAll_27 rfl (by decide) ?_
  refine ev_iload_n 34 dX12_comeAll_34 rfl ?_
  refine ev_istore (ls' := [.ref 100, .int (nI m), .int (pVal e r s 2 0 (nI m)), .int (pVal e r s 2 1 (nI m)), .int 1, .int (pVal e r s 2 1 (nI m)), z6]) 35 dX12_comeAll_35 (Nat.le_of_ble_eq_true rfl) rfl ?_
  refine cb_come (w := 1) hC hD (by omega) hm (fun v4 z5 z6 hD => ?_)
  refine ev_iinc (y := 2) (ls' := [.ref 100, .int (nI m), .int (pVal e r s 2 0 (nI m)), .int (pVal e r s 2 1 (nI m)), .int 2, z5, z6]) 131 dX12_comeAll_131 rfl (by decide) rfl ?_
  refine ev_goto 134 19 dX12_comeAll_134 rfl ?_
  refine ev_iload 19 dX12_comeAll_19 rfl ?_
  refine ev_iconst 21 dX12_comeAll_21 kI_2 ?_
  refine ev_icT 22 137 dX12_comeAll_22 rfl (by decide) ?_
  refine ev_return 137 dX12_comeAll_137 rfl ?_
  have e1 : pVal e r (pArr e r s 0 m) 2 1 (nI m) = pVal e r s 2 1 (nI m) := by
    unfold pVal
    rw [show pNm e (pArr e r s 0 m) 1 (nI m) = pNm e s 1 (nI m) by
      unfold pNm
      rw [show pArr e r s 0 m 0 1 = s 0 1 by unfold pArr; rw [dU_ne (by decide), dU_off (by decide)], show pArr e r s 0 m 1 1 = s 1 1 by unfold pArr; rw [dU_off (by decide), dU_ne (by decide)], pArr_q (by decide) (by decide)]]
  rw [pArrX_eq (w := 1), e1, pArrX_eq (w := 0)] at k
  exact k _ hD

