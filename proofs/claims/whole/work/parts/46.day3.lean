/-! the day's steps, class: by the rule, the lanes, the day -/
theorem ev_if_geL {X : pmX} {d : Nat} {M : pmM} {ls st : List Value} {T : pmT} {v : pmV} {P : Option Value → pmT → pmV → Prop} (pc pc' : Nat) {off : Int} {a b : Int64} (hd : decode M.2.2.1 pc = .ok (.ifCond .ge off, 3)) (ht : (pc : Int) + off = (pc' : Int)) (kt : b ≤ a → EvP X d M pc' ls st T v P) (kf : ¬ (b ≤ a) → EvP X d M (pc + 3) ls st T v P) : EvP X d M pc ls (.int (lg_cmp a b) :: st) T v P := ev_if_ge pc pc' hd ht (fun h => kt ((lg_cmp_ge a b).mp h)) (fun h => kf (fun q => h ((lg_cmp_ge a b).mpr q)))
theorem ev_if_leL {X : pmX} {d : Nat} {M : pmM} {ls st : List Value} {T : pmT} {v : pmV} {P : Option Value → pmT → pmV → Prop} (pc pc' : Nat) {off : Int} {a b : Int64} (hd : decode M.2.2.1 pc = .ok (.ifCond .le off, 3)) (ht : (pc : Int) + off = (pc' : Int)) (kt : a ≤ b → EvP X d M pc' ls st T v P) (kf : ¬ (a ≤ b) → EvP X d M (pc + 3) ls st T v P) : EvP X d M pc ls (.int (lg_cmp a b) :: st) T v P := ev_if_le pc pc' hd ht (fun h => kt ((lg_cmp_le a b).mp h)) (fun h => kf (fun q => h ((lg_cmp_le a b).mpr q)))
theorem ev_if_gtL {X : pmX} {d : Nat} {M : pmM} {ls st : List Value} {T : pmT} {v : pmV} {P : Option Value → pmT → pmV → Prop} (pc pc' : Nat) {off : Int} {a b : Int64} (hd : decode M.2.2.1 pc = .ok (.ifCond .gt off, 3)) (ht : (pc : Int) + off = (pc' : Int)) (kt : b < a → EvP X d M pc' ls st T v P) (kf : ¬ (b < a) → EvP X d M (pc + 3) ls st T v P) : EvP X d M pc ls (.int (lg_cmp a b) :: st) T v P := ev_if_gt pc pc' hd ht (fun h => kt ((lg_cmp_gt a b).mp h)) (fun h => kf (fun q => h ((lg_cmp_gt a b).mpr q)))
theorem ev_if_ltL {X : pmX} {d : Nat} {M : pmM} {ls st : List Value} {T : pmT} {v : pmV} {P : Option Value → pmT → pmV → Prop} (pc pc' : Nat) {off : Int} {a b : Int64} (hd : decode M.2.2.1 pc = .ok (.ifCond .lt off, 3)) (ht : (pc : Int) + off = (pc' : Int)) (kt : a < b → EvP X d M pc' ls st T v P) (kf : ¬ (a < b) → EvP X d M (pc + 3) ls st T v P) : EvP X d M pc ls (.int (lg_cmp a b) :: st) T v P := ev_if_lt pc pc' hd ht (fun h => kt ((lg_cmp_lt a b).mp h)) (fun h => kf (fun q => h ((lg_cmp_lt a b).mpr q)))
theorem pTake_q {s : dT} {w : Nat} {a b : Int32} {q j : Nat} (h0 : q ≠ 0) (h1 : q ≠ 1) (h5 : q ≠ 5) : pTake s w a b q j = s q j := by
  unfold pTake
  rw [dU_ne h5, dU_ne h1, dU_ne h0]
theorem pArr_q {e : pmV} {r : Nat} {s : dT} {w m : Nat} {q j : Nat} (h0 : q ≠ 0) (h1 : q ≠ 1) : pArr e r s w m q j = s q j := by
  unfold pArr
  rw [dU_ne h1, dU_ne h0]
theorem pTurn_q {e : pmV} {n : Nat} {s : dT} {l m : Int32} {q j : Nat} (h2 : q ≠ 2) (h3 : q ≠ 3) (h4 : q ≠ 4) (h5 : q ≠ 5) : pTurn e n s l m q j = s q j := by
  unfold pTurn
  split
  · unfold pTurnI; rw [dU_ne h5, dU_ne h4, dU_ne h2, dU_ne h3, dU_ne h2]
  · rfl
theorem pLead_q {e : pmV} {s : dT} {i : Nat} {m : Int32} {q j : Nat} (h0 : q ≠ 0) (h1 : q ≠ 1) (h4 : q ≠ 4) (h5 : q ≠ 5) : pLead e s i m q j = s q j := by
  unfold pLead
  split
  · split
    · rfl
    · split
      · rfl
      · exact pTake_q h0 h1 h5
  · exact dU_ne h4
theorem pCarry_q {e : pmV} {m : Int32} {q j : Nat} (h0 : q ≠ 0) (h1 : q ≠ 1) (h4 : q ≠ 4) (h5 : q ≠ 5) : ∀ (k i : Nat) (s : dT), pCarry e m k i s q j = s q j
  | 0, _, _ => rfl
  | k + 1, i, s => (pCarry_q h0 h1 h4 h5 k (i + 1) (pLead e s i m)).trans (pLead_q h0 h1 h4 h5)
theorem pBgn_q {s : dT} {q j : Nat} (h9 : q ≠ 9) : pBgn s q j = s q j := by unfold pBgn; rw [dU_ne h9, dU_ne h9]
theorem pMin_q {e : pmV} {n r : Nat} {s : dT} {m q j : Nat} (h0 : q ≠ 0) (h1 : q ≠ 1) (h2 : q ≠ 2) (h3 : q ≠ 3) (h4 : q ≠ 4) (h5 : q ≠ 5) (h9 : q ≠ 9) : pMin e n r s m q j = s q j := by
  unfold pMin
  rw [pTake_q h0 h1 h5, pCarry_q h0 h1 h4 h5, pBgn_q h9, pTurn_q h2 h3 h4 h5, pArr_q h0 h1, pArr_q h0 h1]
/-- the ways are 0 or 1 -/
def wOk (n : Nat) (s : dT) : Prop := ∀ i, i < n → ∃ w, w < 2 ∧ s 3 i = nI w
theorem wOk.cg {n : Nat} {s s' : dT} (h : wOk n s) (e : ∀ i, s' 3 i = s 3 i) : wOk n s' := fun i hi => by rw [e]; exact h i hi
theorem wOk.turn {e : pmV} {n : Nat} {s : dT} {l m : Int32} (h : wOk n s) (hn : n ≤ 8) : wOk n (pTurn e n s l m) := by
  by_cases hc : pCan e n s l m = true
  · obtain ⟨i, hi, rfl, _, _⟩ := pCan_ix hn hc
    obtain ⟨u, hu, hsu⟩ := h i hi
    unfold pTurn; rw [if_pos hc, nI_clamp (by omega)]
    unfold pTurnI
    intro j hj
    rw [dU_ne (by decide), dU_ne (by decide), dU_ne (by decide)]
    by_cases e : j = i
    · subst e; rw [dU_on]; exact ⟨1 - u, by omega, (w01 hsu hu).2⟩
    · rw [dU_off (fun q => e q.2), dU_ne (by decide)]; exact h j hj
  · unfold pTurn; rw [if_neg hc]; exact h
theorem wOk.arr {e : pmV} {n r : Nat} {s : dT} {w m : Nat} (h : wOk n s) : wOk n (pArr e r s w m) := h.cg fun _ => pArr_q (by decide) (by decide)
theorem wOk.min {e : pmV} {n r : Nat} {s : dT} {m : Nat} (h : wOk n s) (hn : n ≤ 8) : wOk n (pMin e n r s m) := by
  refine ((h.arr (e := e) (r := r) (w := 0) (m := m)).arr (e := e) (r := r) (w := 1) (m := m)).turn (e := e) (l := pTold e n r (pArr e r (pArr e r s 0 m) 1 m) m) (m := nI m) hn |>.cg fun i => ?_
  unfold pMin
  rw [pTake_q (by decide) (by decide) (by decide), pCarry_q (by decide) (by decide) (by decide) (by decide), pBgn_q (by decide)]
theorem i_dec (x : Int32) : x + Int32.ofInt (-1) = x - 1 := by
  rw [show Int32.ofInt (-1) = (-1 : Int32) by decide]; grind
theorem pFind_a {e : pmV} {n : Nat} {s : dT} {w m : Int32} {k : Nat} (h : s 3 k = w) : pFind e n s w m (k + 1) = pFind e n s w m k := by rw [pFind, if_pos h]
theorem pFind_b {e : pmV} {n : Nat} {s : dT} {w m : Int32} {k : Nat} (h : ¬ s 3 k = w) (h2 : pCan e n s (nI k) m = true) : pFind e n s w m (k + 1) = nI k := by rw [pFind, if_neg h, if_pos h2]
theorem pFind_c {e : pmV} {n : Nat} {s : dT} {w m : Int32} {k : Nat} (h : ¬ s 3 k = w) (h2 : ¬ pCan e n s (nI k) m = true) : pFind e n s w m (k + 1) = pFind e n s w m k := by rw [pFind, if_neg h, if_neg h2]
theorem lp_find {X : pmX} {d : Nat} {P : Option Value → pmT → pmV → Prop} {LT : pmT} {e v : pmV} {n tx z r : Nat} {s : dT} {p : Int64} {m w q1 q2 : Int32} (hC : Cpl n tx z LT e) (hD : DX e n r s p v) : ∀ (k : Nat), k ≤ n → P (some (.int (pFind e n s w m k))) (pmT0 ++ LT) v → EvP X (d + 10) MX1_laneByRule 59 [.ref 51, .int m, .int q1, .int q2, .int w, .int (nI k - 1)] [] (pmT0 ++ LT) v P := by
  have hn8 := hC.2.1.1
  intro k
  induction k with
  | zero =>
    intro hk K
    refine ev_iload 59 dX1_laneByRule_59 rfl ?_
    refine ev_if_lt 61 95 dX1_laneByRule_61 rfl (fun c_61 => ?_) (fun c_61 => absurd (show nI 0 - 1 < 0 by decide) c_61)
    refine ev_iconst 95 dX1_laneByRule_95 kI_m1 ?_
    refine ev_ireturn 96 dX1_laneByRule_96 rfl rfl ?_
    exact K
  | succ k ih =>
    intro hk K
    rw [nI_pred]
    refine ev_iload 59 dX1_laneByRule_59 rfl ?_
    refine ev_if_lt 61 95 dX1_laneByRule_61 rfl (fun c_61 => absurd c_61 (nI_pos (by omega))) (fun c_61 => ?_)
    refine ev_aload_n 64 dX1_laneByRule_64 rfl (by decide) ?_
    refine gf_1_35 (pc := 65) rfl dX1_laneByRule_65 kd_51 (rf_51_9 hD.1) ?_
    refine ev_iload 68 dX1_laneByRule_68 rfl ?_
    refine ev_ialdJ (x := s 3 k) (j := k) 70 dX1_laneByRule_70 (Nat.le_of_ble_eq_true rfl) ty_61 (pm_inI (by omega) (by omega)) (nI_clamp (by omega)) (hD.r3 (by omega)) ?_
    refine ev_iload 71 dX1_laneByRule_71 rfl ?_
    refine ev_ic_eq 73 89 dX1_laneByRule_73 rfl (fun c_73 => ?_) (fun c_73 => ?_)
    · refine ev_iinc (y := nI k - 1) (ls' := [.ref 51, .int m, .int q1, .int q2, .int w, .int (nI k - 1)]) 89 dX1_laneByRule_89 rfl (i_dec _) rfl ?_
      refine ev_goto 92 59 dX1_laneByRule_92 rfl ?_
      rw [pFind_a c_73] at K
      exact ih (by omega) K
    · refine ev_aload_n 76 dX1_laneByRule_76 rfl (by decide) ?_
      refine ev_iload 77 dX1_laneByRule_77 rfl ?_
      refine ev_iload_n 79 dX1_laneByRule_79 rfl ?_
      refine cv_1_122_1 (pc := 80) rfl dX1_laneByRule_80 kd_51 (Nat.le_of_ble_eq_true rfl) ?_
      refine c_X1_canTurn hC hD (fun h_80 => ?_) (fun h_80 => ?_)
      · refine ev_ifF 83 89 dX1_laneByRule_83 rfl (by decide) ?_
        refine ev_iload 86 dX1_laneByRule_86 rfl ?_
        refine ev_ireturn 88 dX1_laneByRule_88 rfl rfl ?_
        rw [pFind_b c_73 h_80] at K
        exact K
      · refine ev_ifT 83 89 dX1_laneByRule_83 rfl (by decide) ?_
        refine ev_iinc (y := nI k - 1) (ls' := [.ref 51, .int m, .int q1, .int q2, .int w, .int (nI k - 1)]) 89 dX1_laneByRule_89 rfl (i_dec _) rfl ?_
        refine ev_goto 92 59 dX1_laneByRule_92 rfl ?_
        rw [pFind_c c_73 h_80] at K
        exact ih (by omega) K
theorem c_X1_laneByRule {X : pmX} {d : Nat} {v : pmV} {P : Option Value → pmT → pmV → Prop} {LT : pmT} {e : pmV} {n tx z r : Nat} {s : dT} {p : Int64} {m : Int32} (hC : Cpl n tx z LT e) (hr : r < tx) (hD : DX e n r s p v) (k : ∀ v', DX e n r s p v' → P (some (.int (pRule e n r s m))) (pmT0 ++ LT) v') : EvP X (d + 10) MX1_laneByRule 0 [.ref 51, .int m, pmJ, pmJ, pmJ, pmJ] [] (pmT0 ++ LT) v P := by
  have hn8 := hC.2.1.1
  have ht6 := hC.2.2.2.2.2.1.2.1
  refine ev_aload_n 0 dX1_laneByRule_0 rfl (by decide) ?_
  refine ev_iconst 1 dX1_laneByRule_1 kI_0 ?_
  refine ev_iconst 2 dX1_laneByRule_2 kI_0 ?_
  refine ev_iload_n 3 dX1_laneByRule_3 rfl ?_
  refine cv_1_138_1 (pc := 4) rfl dX1_laneByRule_4 kd_51 (Nat.le_of_ble_eq_true rfl) ?_
  refine c_X1_value (k0 := 0) (w := 0) hC hr hD (by omega) (by omega) (fun v1 hD => ?_)
  refine ev_istore_n (ls' := [.ref 51, .int m, .int (pVal e r s 0 0 m), pmJ, pmJ, pmJ]) 7 dX1_laneByRule_7 (Nat.le_of_ble_eq_true rfl) rfl ?_
  refine ev_aload_n 8 dX1_laneByRule_8 rfl (by decide) ?_
  refine ev_iconst 9 dX1_laneByRule_9 kI_0 ?_
  refine ev_iconst 10 dX1_laneByRule_10 kI_1 ?_
  refine ev_iload_n 11 dX1_laneByRule_11 rfl ?_
  refine cv_1_138_1 (pc := 12) rfl dX1_laneByRule_12 kd_51 (Nat.le_of_ble_eq_true rfl) ?_
  refine c_X1_value (k0 := 0) (w := 1) hC hr hD (by omega) (by omega) (fun v2 hD => ?_)
  refine ev_istore_n (ls' := [.ref 51, .int m, .int (pVal e r s 0 0 m), .int (pVal e r s 0 1 m), pmJ, pmJ]) 15 dX1_laneByRule_15 (Nat.le_of_ble_eq_true rfl) rfl ?_
  refine ev_iload_n 16 dX1_laneByRule_16 rfl ?_
  refine ev_iload_n 17 dX1_laneByRule_17 rfl ?_
  refine ev_ic_le 18 25 dX1_laneByRule_18 rfl (fun c_18 => ?_) (fun c_18 => ?_)
  · refine ev_iconst 25 dX1_laneByRule_25 kI_0 ?_
    refine ev_istore (ls' := [.ref 51, .int m, .int (pVal e r s 0 0 m), .int (pVal e r s 0 1 m), .int 0, pmJ]) 26 dX1_laneByRule_26 (Nat.le_of_ble_eq_true rfl) rfl ?_
    refine ev_iload_n 28 dX1_laneByRule_28 rfl ?_
    refine ev_iload_n 29 dX1_laneByRule_29 rfl ?_
    refine ev_max (x := (if pVal e r s 0 0 m < pVal e r s 0 1 m then pVal e r s 0 1 m else pVal e r s 0 0 m)) 30 dX1_laneByRule_30 mx_1_148 (Nat.le_of_ble_eq_true rfl) rfl ?_
    refine ev_if_le 33 49 dX1_laneByRule_33 rfl (fun c_33 => ?_) (fun c_33 => ?_)
    · refine ev_iconst 49 dX1_laneByRule_49 kI_m1 ?_
      refine ev_ireturn 50 dX1_laneByRule_50 rfl rfl ?_
      rw [show pRule e n r s m = (-1) by unfold pRule mxI; simp [c_18, c_33]] at k
      exact k _ hD
    · refine ev_aload_n 36 dX1_laneByRule_36 rfl (by decide) ?_
      refine gf_1_47 (pc := 37) rfl dX1_laneByRule_37 kd_51 (rf_51_13 hD.1) ?_
      refine ev_iconst 40 dX1_laneByRule_40 kI_1 ?_
      refine ev_iload 41 dX1_laneByRule_41 rfl ?_
      refine ev_isub 43 dX1_laneByRule_43 ?_
      refine ev_cst (y := 1) (by decide) ?_
      refine ev_ialdJ (x := s 2 1) (j := 1) 44 dX1_laneByRule_44 (Nat.le_of_ble_eq_true rfl) ty_65 (by decide) rfl (hD.r2 (by omega)) ?_
      refine ev_iconst 45 dX1_laneByRule_45 kI_2 ?_
      refine ev_ic_ge 46 51 dX1_laneByRule_46 rfl (fun c_46 => ?_) (fun c_46 => ?_)
      · refine ev_aload_n 51 dX1_laneByRule_51 rfl (by decide) ?_
        refine gf_1_61 (x := nI n) (pc := 52) rfl dX1_laneByRule_52 kd_51 hD.rn ?_
        refine ev_iconst 55 dX1_laneByRule_55 kI_1 ?_
        refine ev_isub 56 dX1_laneByRule_56 ?_
        refine ev_istore (ls' := [.ref 51, .int m, .int (pVal e r s 0 0 m), .int (pVal e r s 0 1 m), .int 0, .int ((nI n) - 1)]) 57 dX1_laneByRule_57 (Nat.le_of_ble_eq_true rfl) rfl ?_
        refine lp_find (w := 0) hC hD n (Nat.le_refl n) ?_
        rw [show pRule e n r s m = pFind e n s 0 m n by unfold pRule mxI; simp [c_18, c_33, c_46]] at k
        exact k _ hD
      · refine ev_iconst 49 dX1_laneByRule_49 kI_m1 ?_
        refine ev_ireturn 50 dX1_laneByRule_50 rfl rfl ?_
        rw [show pRule e n r s m = (-1) by unfold pRule mxI; simp [c_18, c_33, c_46]] at k
        exact k _ hD
  · refine ev_iconst 21 dX1_laneByRule_21 kI_1 ?_
    refine ev_goto 22 26 dX1_laneByRule_22 rfl ?_
    refine ev_istore (ls' := [.ref 51, .int m, .int (pVal e r s 0 0 m), .int (pVal e r s 0 1 m), .int 1, pmJ]) 26 dX1_laneByRule_26 (Nat.le_of_ble_eq_true rfl) rfl ?_
    refine ev_iload_n 28 dX1_laneByRule_28 rfl ?_
    refine ev_iload_n 29 dX1_laneByRule_29 rfl ?_
    refine ev_max (x := (if pVal e r s 0 0 m < pVal e r s 0 1 m then pVal e r s 0 1 m else pVal e r s 0 0 m)) 30 dX1_laneByRule_30 mx_1_148 (Nat.le_of_ble_eq_true rfl) rfl ?_
    refine ev_if_le 33 49 dX1_laneByRule_33 rfl (fun c_33 => ?_) (fun c_33 => ?_)
    · refine ev_iconst 49 dX1_laneByRule_49 kI_m1 ?_
      refine ev_ireturn 50 dX1_laneByRule_50 rfl rfl ?_
      rw [show pRule e n r s m = (-1) by unfold pRule mxI; simp [c_18, c_33]] at k
      exact k _ hD
    · refine ev_aload_n 36 dX1_laneByRule_36 rfl (by decide) ?_
      refine gf_1_47 (pc := 37) rfl dX1_laneByRule_37 kd_51 (rf_51_13 hD.1) ?_
      refine ev_iconst 40 dX1_laneByRule_40 kI_1 ?_
      refine ev_iload 41 dX1_laneByRule_41 rfl ?_
      refine ev_isub 43 dX1_laneByRule_43 ?_
      refine ev_cst (y := 0) (by decide) ?_
      refine ev_ialdJ (x := s 2 0) (j := 0) 44 dX1_laneByRule_44 (Nat.le_of_ble_eq_true rfl) ty_65 (by decide) rfl (hD.r2 (by omega)) ?_
      refine ev_iconst 45 dX1_laneByRule_45 kI_2 ?_
      refine ev_ic_ge 46 51 dX1_laneByRule_46 rfl (fun c_46 => ?_) (fun c_46 => ?_)
      · refine ev_aload_n 51 dX1_laneByRule_51 rfl (by decide) ?_
        refine gf_1_61 (x := nI n) (pc := 52) rfl dX1_laneByRule_52 kd_51 hD.rn ?_
        refine ev_iconst 55 dX1_laneByRule_55 kI_1 ?_
        refine ev_isub 56 dX1_laneByRule_56 ?_
        refine ev_istore (ls' := [.ref 51, .int m, .int (pVal e r s 0 0 m), .int (pVal e r s 0 1 m), .int 1, .int ((nI n) - 1)]) 57 dX1_laneByRule_57 (Nat.le_of_ble_eq_true rfl) rfl ?_
        refine lp_find (w := 1) hC hD n (Nat.le_refl n) ?_
        rw [show pRule e n r s m = pFind e n s 1 m n by unfold pRule mxI; simp [c_18, c_33, c_46]] at k
        exact k _ hD
      · refine ev_iconst 49 dX1_laneByRule_49 kI_m1 ?_
        refine ev_ireturn 50 dX1_laneByRule_50 rfl rfl ?_
        rw [show pRule e n r s m = (-1) by unfold pRule mxI; simp [c_18, c_33, c_46]] at k
        exact k _ hD

theorem lp_carry {X : pmX} {d : Nat} {P : Option Value → pmT → pmV → Prop} {LT : pmT} {e : pmV} {n tx z r m : Nat} {p : Int64} {oo hm : Int32} (hC : Cpl n tx z LT e) : ∀ (k : Nat) (i : Nat) (s : dT) (w5 : Value) (v : pmV), i + k = n → DX e n r s p v → wOk n s → s 9 0 = oo → s 9 1 = hm → (∀ v', DX e n r (pCarry e (nI m) k i s) p v' → P none (pmT0 ++ LT) v') → EvP X (d + 9) MX1_carryAll 17 [.ref 51, .int (nI m), .int oo, .int hm, .int (nI i), w5] [] (pmT0 ++ LT) v P := by
  intro k
  induction k with
  | zero =>
    intro i s w5 v hi hD hW ho hh K
    have hi2 : n = i := by omega
    subst hi2
    have hn8 := hC.2.1.1
    refine ev_iload 17 dX1_carryAll_17 rfl ?_
    refine ev_aload_n 19 dX1_carryAll_19 rfl (by decide) ?_
    refine gf_1_61 (x := nI n) (pc := 20) rfl dX1_carryAll_20 kd_51 hD.rn ?_
    refine ev_ic_geN (a := n) (b := n) 23 128 dX1_carryAll_23 rfl (by omega) (by omega) (fun c_23 => ?_) (fun c_23 => by omega)
    refine ev_return 128 dX1_carryAll_128 rfl ?_
    exact K v hD
  | succ k ih =>
    intro i s w5 v hi hD hW ho hh K
    have hn8 := hC.2.1.1
    obtain ⟨u, hu, hsu⟩ := hW i (by omega)
    have hu1 : (s 3 i).toNatClampNeg = u := by rw [hsu]; exact nI_clamp (by omega)
    refine ev_iload 17 dX1_carryAll_17 rfl ?_
    refine ev_aload_n 19 dX1_carryAll_19 rfl (by decide) ?_
    refine gf_1_61 (x := nI n) (pc := 20) rfl dX1_carryAll_20 kd_51 hD.rn ?_
    refine ev_ic_geN (a := i) (b := n) 23 128 dX1_carryAll_23 rfl (by omega) (by omega) (fun c_23 => by omega) (fun c_23 => ?_)
    refine ev_aload_n 26 dX1_carryAll_26 rfl (by decide) ?_
    refine gf_1_38 (pc := 27) rfl dX1_carryAll_27 kd_51 (rf_51_10 hD.1) ?_
    refine ev_iload 30 dX1_carryAll_30 rfl ?_
    refine ev_ialdJ (x := s 4 i) (j := i) 32 dX1_carryAll_32 (Nat.le_of_ble_eq_true rfl) ty_62 (pm_inI (by omega) (by omega)) (nI_clamp (by omega)) (hD.r4 (by omega)) ?_
    refine ev_if_le 33 50 dX1_carryAll_33 rfl (fun c_33 => ?_) (fun c_33 => ?_)
    · refine ev_iload 50 dX1_carryAll_50 rfl ?_
      refine ev_aload_n 52 dX1_carryAll_52 rfl (by decide) ?_
      refine gf_1_75 (x := s 8 1) (pc := 53) rfl dX1_carryAll_53 kd_51 hD.r8_1 ?_
      refine ev_ic_eq 56 122 dX1_carryAll_56 rfl (fun c_56 => ?_) (fun c_56 => ?_)
      · refine ev_iinc (y := nI (i + 1)) (ls' := [.ref 51, .int (nI m), .int oo, .int hm, .int (nI (i + 1)), w5]) 122 dX1_carryAll_122 rfl (nI_add i 1) rfl ?_
        refine ev_goto 125 17 dX1_carryAll_125 rfl ?_
        have hs : pLead e s i (nI m) = s := by unfold pLead; simp [hu1, ho, hh, c_23, c_33, c_56]
        rw [← hs] at hD
        exact ih (i + 1) (pLead e s i (nI m)) _ _ (by omega) hD (hW.cg fun _ => pLead_q (by decide) (by decide) (by decide) (by decide)) ((pLead_q (by decide) (by decide) (by decide) (by decide)).trans ho) ((pLead_q (by decide) (by decide) (by decide) (by decide)).trans hh) K
      · refine ev_aload_n 59 dX1_carryAll_59 rfl (by decide) ?_
        refine gf_1_20 (pc := 60) rfl dX1_carryAll_60 kd_51 hD.f2 ?_
        refine ev_iload 63 dX1_carryAll_63 rfl ?_
        refine ev_iload_n 65 dX1_carryAll_65 rfl ?_
        refine cv_1_164_5 (pc := 66) rfl dX1_carryAll_66 kd_34 (Nat.le_of_ble_eq_true rfl) ?_
        refine c_X5_stops hD.fd (by unfold DcX; omega) (by unfold DcX; omega) (by unfold DcX; omega) (fun h_66 => ?_) (fun h_66 => ?_)
        · refine ev_ifT 69 122 dX1_carryAll_69 rfl (by decide) ?_
          refine ev_iinc (y := nI (i + 1)) (ls' := [.ref 51, .int (nI m), .int oo, .int hm, .int (nI (i + 1)), w5]) 122 dX1_carryAll_122 rfl (nI_add i 1) rfl ?_
          refine ev_goto 125 17 dX1_carryAll_125 rfl ?_
          have hs : pLead e s i (nI m) = s := by unfold pLead; simp [hu1, ho, hh, c_23, c_33, c_56, h_66]
          rw [← hs] at hD
          exact ih (i + 1) (pLead e s i (nI m)) _ _ (by omega) hD (hW.cg fun _ => pLead_q (by decide) (by decide) (by decide) (by decide)) ((pLead_q (by decide) (by decide) (by decide) (by decide)).trans ho) ((pLead_q (by decide) (by decide) (by decide) (by decide)).trans hh) K
        · refine ev_ifF 69 122 dX1_carryAll_69 rfl (by decide) ?_
          refine ev_aload_n 72 dX1_carryAll_72 rfl (by decide) ?_
          refine gf_1_35 (pc := 73) rfl dX1_carryAll_73 kd_51 (rf_51_9 hD.1) ?_
          refine ev_iload 76 dX1_carryAll_76 rfl ?_
          refine ev_ialdJ (x := nI u) (j := i) 78 dX1_carryAll_78 (Nat.le_of_ble_eq_true rfl) ty_61 (pm_inI (by omega) (by omega)) (nI_clamp (by omega)) ((hD.r3 (by omega)).trans hsu) ?_
          refine ev_if_neN (a := u) 79 86 dX1_carryAll_79 rfl (by omega) (fun c_79 => ?_) (fun c_79 => ?_)
          · have hz : ¬ s 3 i = 0 := by rw [hsu]; exact nI_ne0 (by omega) (by omega)
            refine ev_iload_n 86 dX1_carryAll_86 rfl ?_
            refine ev_istore (ls' := [.ref 51, .int (nI m), .int oo, .int hm, .int (nI i), .int hm]) 87 dX1_carryAll_87 (Nat.le_of_ble_eq_true rfl) rfl ?_
            refine ev_aload_n 89 dX1_carryAll_89 rfl (by decide) ?_
            refine ev_aload_n 90 dX1_carryAll_90 rfl (by decide) ?_
            refine gf_1_35 (pc := 91) rfl dX1_carryAll_91 kd_51 (rf_51_9 hD.1) ?_
            refine ev_iload 94 dX1_carryAll_94 rfl ?_
            refine ev_ialdJ (x := nI u) (j := i) 96 dX1_carryAll_96 (Nat.le_of_ble_eq_true rfl) ty_61 (pm_inI (by omega) (by omega)) (nI_clamp (by omega)) ((hD.r3 (by omega)).trans hsu) ?_
            refine ev_aload_n 97 dX1_carryAll_97 rfl (by decide) ?_
            refine gf_1_11 (pc := 98) rfl dX1_carryAll_98 kd_51 hD.f0 ?_
            refine ev_iload 101 dX1_carryAll_101 rfl ?_
            refine ev_aaldJ (x := 124 + i) (j := i) 103 dX1_carryAll_103 (Nat.le_of_ble_eq_true rfl) ty_33 (by decide) (pm_inI (by omega) (by omega)) (nI_clamp (by omega)) ((hD.fd.2 33 _ (by omega)).trans (hC.2.1.2.2.2.2 i (by omega)).1) ?_
            refine ev_iload 104 dX1_carryAll_104 rfl ?_
            refine vc_1_167 (pc := 106) rfl dX1_carryAll_106 hC.2.1 (i := i) (by omega) (hD.c (by unfold DcX; omega)) (Nat.le_of_ble_eq_true rfl) ?_
            refine ev_aload_n 109 dX1_carryAll_109 rfl (by decide) ?_
            refine gf_1_11 (pc := 110) rfl dX1_carryAll_110 kd_51 hD.f0 ?_
            refine ev_iload 113 dX1_carryAll_113 rfl ?_
            refine ev_aaldJ (x := 124 + i) (j := i) 115 dX1_carryAll_115 (Nat.le_of_ble_eq_true rfl) ty_33 (by decide) (pm_inI (by omega) (by omega)) (nI_clamp (by omega)) ((hD.fd.2 33 _ (by omega)).trans (hC.2.1.2.2.2.2 i (by omega)).1) ?_
            refine vc_1_170 (pc := 116) rfl dX1_carryAll_116 hC.2.1 (i := i) (by omega) (hD.c (by unfold DcX; omega)) (Nat.le_of_ble_eq_true rfl) ?_
            refine cv_1_115_1 (pc := 119) rfl dX1_carryAll_119 kd_51 (Nat.le_of_ble_eq_true rfl) ?_
            refine c_X1_take (w := u) hD (by omega) (fun v1 hD => ?_)
            refine ev_iinc (y := nI (i + 1)) (ls' := [.ref 51, .int (nI m), .int oo, .int hm, .int (nI (i + 1)), .int hm]) 122 dX1_carryAll_122 rfl (nI_add i 1) rfl ?_
            refine ev_goto 125 17 dX1_carryAll_125 rfl ?_
            have hs : pLead e s i (nI m) = pTake s u (pCar e i hm) (pBs e i) := by unfold pLead; simp [hu1, ho, hh, c_23, c_33, c_56, h_66, c_79, hz]
            rw [← hs] at hD
            exact ih (i + 1) (pLead e s i (nI m)) _ _ (by omega) hD (hW.cg fun _ => pLead_q (by decide) (by decide) (by decide) (by decide)) ((pLead_q (by decide) (by decide) (by decide) (by decide)).trans ho) ((pLead_q (by decide) (by decide) (by decide) (by decide)).trans hh) K
          · have hz : s 3 i = 0 := by rw [hsu]; rw [c_79]; rfl
            refine ev_iload_n 82 dX1_carryAll_82 rfl ?_
            refine ev_goto 83 87 dX1_carryAll_83 rfl ?_
            refine ev_istore (ls' := [.ref 51, .int (nI m), .int oo, .int hm, .int (nI i), .int oo]) 87 dX1_carryAll_87 (Nat.le_of_ble_eq_true rfl) rfl ?_
            refine ev_aload_n 89 dX1_carryAll_89 rfl (by decide) ?_
            refine ev_aload_n 90 dX1_carryAll_90 rfl (by decide) ?_
            refine gf_1_35 (pc := 91) rfl dX1_carryAll_91 kd_51 (rf_51_9 hD.1) ?_
            refine ev_iload 94 dX1_carryAll_94 rfl ?_
            refine ev_ialdJ (x := nI u) (j := i) 96 dX1_carryAll_96 (Nat.le_of_ble_eq_true rfl) ty_61 (pm_inI (by omega) (by omega)) (nI_clamp (by omega)) ((hD.r3 (by omega)).trans hsu) ?_
            refine ev_aload_n 97 dX1_carryAll_97 rfl (by decide) ?_
            refine gf_1_11 (pc := 98) rfl dX1_carryAll_98 kd_51 hD.f0 ?_
            refine ev_iload 101 dX1_carryAll_101 rfl ?_
            refine ev_aaldJ (x := 124 + i) (j := i) 103 dX1_carryAll_103 (Nat.le_of_ble_eq_true rfl) ty_33 (by decide) (pm_inI (by omega) (by omega)) (nI_clamp (by omega)) ((hD.fd.2 33 _ (by omega)).trans (hC.2.1.2.2.2.2 i (by omega)).1) ?_
            refine ev_iload 104 dX1_carryAll_104 rfl ?_
            refine vc_1_167 (pc := 106) rfl dX1_carryAll_106 hC.2.1 (i := i) (by omega) (hD.c (by unfold DcX; omega)) (Nat.le_of_ble_eq_true rfl) ?_
            refine ev_aload_n 109 dX1_carryAll_109 rfl (by decide) ?_
            refine gf_1_11 (pc := 110) rfl dX1_carryAll_110 kd_51 hD.f0 ?_
            refine ev_iload 113 dX1_carryAll_113 rfl ?_
            refine ev_aaldJ (x := 124 + i) (j := i) 115 dX1_carryAll_115 (Nat.le_of_ble_eq_true rfl) ty_33 (by decide) (pm_inI (by omega) (by omega)) (nI_clamp (by omega)) ((hD.fd.2 33 _ (by omega)).trans (hC.2.1.2.2.2.2 i (by omega)).1) ?_
            refine vc_1_170 (pc := 116) rfl dX1_carryAll_116 hC.2.1 (i := i) (by omega) (hD.c (by unfold DcX; omega)) (Nat.le_of_ble_eq_true rfl) ?_
            refine cv_1_115_1 (pc := 119) rfl dX1_carryAll_119 kd_51 (Nat.le_of_ble_eq_true rfl) ?_
            refine c_X1_take (w := u) hD (by omega) (fun v2 hD => ?_)
            refine ev_iinc (y := nI (i + 1)) (ls' := [.ref 51, .int (nI m), .int oo, .int hm, .int (nI (i + 1)), .int oo]) 122 dX1_carryAll_122 rfl (nI_add i 1) rfl ?_
            refine ev_goto 125 17 dX1_carryAll_125 rfl ?_
            have hs : pLead e s i (nI m) = pTake s u (pCar e i oo) (pBs e i) := by unfold pLead; simp [hu1, ho, hh, c_23, c_33, c_56, h_66, c_79, hz]
            rw [← hs] at hD
            exact ih (i + 1) (pLead e s i (nI m)) _ _ (by omega) hD (hW.cg fun _ => pLead_q (by decide) (by decide) (by decide) (by decide)) ((pLead_q (by decide) (by decide) (by decide) (by decide)).trans ho) ((pLead_q (by decide) (by decide) (by decide) (by decide)).trans hh) K
    · refine ev_aload_n 36 dX1_carryAll_36 rfl (by decide) ?_
      refine gf_1_38 (pc := 37) rfl dX1_carryAll_37 kd_51 (rf_51_10 hD.1) ?_
      refine ev_iload 40 dX1_carryAll_40 rfl ?_
      refine ev_dup2 42 dX1_carryAll_42 rfl rfl ?_
      refine ev_ialdJ (x := s 4 i) (j := i) 43 dX1_carryAll_43 (Nat.le_of_ble_eq_true rfl) ty_62 (pm_inI (by omega) (by omega)) (nI_clamp (by omega)) (hD.r4 (by omega)) ?_
      refine ev_iconst 44 dX1_carryAll_44 kI_1 ?_
      refine ev_isub 45 dX1_carryAll_45 ?_
      refine ev_iastJ (j := i) 46 dX1_carryAll_46 (Nat.le_of_ble_eq_true rfl) ty_62 (pm_inI (by omega) (by omega)) (nI_clamp (by omega)) ?_
      refine ev_abs (Q := DX e n r (dU s 4 i ((s 4 i) - 1)) p) (hD.u4 i ((s 4 i) - 1)) (fun v3 hD => ?_)
      refine ev_goto 47 122 dX1_carryAll_47 rfl ?_
      refine ev_iinc (y := nI (i + 1)) (ls' := [.ref 51, .int (nI m), .int oo, .int hm, .int (nI (i + 1)), w5]) 122 dX1_carryAll_122 rfl (nI_add i 1) rfl ?_
      refine ev_goto 125 17 dX1_carryAll_125 rfl ?_
      have hs : pLead e s i (nI m) = dU s 4 i ((s 4 i) - 1) := by unfold pLead; simp [hu1, ho, hh, c_23, c_33]
      rw [← hs] at hD
      exact ih (i + 1) (pLead e s i (nI m)) _ _ (by omega) hD (hW.cg fun _ => pLead_q (by decide) (by decide) (by decide) (by decide)) ((pLead_q (by decide) (by decide) (by decide) (by decide)).trans ho) ((pLead_q (by decide) (by decide) (by decide) (by decide)).trans hh) K

