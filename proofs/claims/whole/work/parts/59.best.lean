/-! best: the class -/
/-- the day looks at no long -/
theorem pNm_e {e' e : pmV} (h : e'.1 = e.1) {s : dT} {w : Nat} {m : Int32} : pNm e' s w m = pNm e s w m := by unfold pNm; rw [h]
theorem txC_e {e' e : pmV} (h : e'.1 = e.1) {r k : Nat} : txC r k e' = txC r k e := by unfold txC txE txB; rw [h]
theorem pVal_e {e' e : pmV} (h : e'.1 = e.1) {r : Nat} {s : dT} {k w : Nat} {m : Int32} : pVal e' r s k w m = pVal e r s k w m := by unfold pVal; rw [pNm_e h, txC_e h]
theorem pArr_e {e' e : pmV} (h : e'.1 = e.1) {r : Nat} {s : dT} {w m : Nat} : pArr e' r s w m = pArr e r s w m := by unfold pArr; rw [pVal_e h, h]
theorem pMay_e {e' e : pmV} (h : e'.1 = e.1) {i : Nat} {m : Int32} : pMay e' i m = pMay e i m := by unfold pMay pK; rw [h]
theorem pCan_e {e' e : pmV} (h : e'.1 = e.1) {n : Nat} {s : dT} {l m : Int32} : pCan e' n s l m = pCan e n s l m := by unfold pCan; rw [pMay_e h]
theorem pRes_e {e' e : pmV} (h : e'.1 = e.1) {i : Nat} {x : Int32} : pRes e' i x = pRes e i x := by unfold pRes pK; rw [h]
theorem pTurn_e {e' e : pmV} (h : e'.1 = e.1) {n : Nat} {s : dT} {l m : Int32} : pTurn e' n s l m = pTurn e n s l m := by unfold pTurn pTurnI; rw [pCan_e h, pRes_e h, h]
theorem pFind_e {e' e : pmV} (h : e'.1 = e.1) {n : Nat} {s : dT} {w m : Int32} : ∀ k, pFind e' n s w m k = pFind e n s w m k
  | 0 => rfl
  | k + 1 => by rw [pFind, pFind, pCan_e h, pFind_e h k]
theorem pRule_e {e' e : pmV} (h : e'.1 = e.1) {n r : Nat} {s : dT} {m : Int32} : pRule e' n r s m = pRule e n r s m := by unfold pRule; rw [pVal_e h, pVal_e h, pFind_e h, pFind_e h]
theorem pTold_e {e' e : pmV} (h : e'.1 = e.1) {n r : Nat} {s : dT} {m : Nat} : pTold e' n r s m = pTold e n r s m := by unfold pTold; rw [pRule_e h]
theorem pLead_e {e' e : pmV} (h : e'.1 = e.1) {s : dT} {i : Nat} {m : Int32} : pLead e' s i m = pLead e s i m := by unfold pLead pStop pCar pBs pK pNb; rw [h]
theorem pCarry_e {e' e : pmV} (h : e'.1 = e.1) {m : Int32} : ∀ (k i : Nat) (s : dT), pCarry e' m k i s = pCarry e m k i s
  | 0, _, _ => rfl
  | k + 1, i, s => by rw [pCarry, pCarry, pLead_e h, pCarry_e h k]
theorem pMin_e {e' e : pmV} (h : e'.1 = e.1) {n r : Nat} {s : dT} {m : Nat} : pMin e' n r s m = pMin e n r s m := by
  unfold pMin; simp only [pArr_e h, pTold_e h, pTurn_e h, pCarry_e h]
theorem pPn_e {e' e : pmV} (h : e'.1 = e.1) {r : Nat} {s : dT} {m : Nat} : pPn e' r s m = pPn e r s m := by unfold pPn pPain; rw [pVal_e h, pVal_e h]
theorem pDay_e {e' e : pmV} (h : e'.1 = e.1) {n r : Nat} : ∀ (k m : Nat) (s : dT) (p : Int64), pDay e' n r k m s p = pDay e n r k m s p
  | 0, _, _, _ => rfl
  | k + 1, m, s, p => by rw [pDay, pDay, pMin_e h, pPn_e h, pDay_e h k]
theorem pCnt_e {e' e : pmV} (h : e'.1 = e.1) {w : Int32} : ∀ k, pCnt e' w k = pCnt e w k
  | 0 => rfl
  | k + 1 => by rw [pCnt, pCnt, pCnt_e h k, h]
theorem pBeg_e {e' e : pmV} (h : e'.1 = e.1) {n : Nat} {s : dT} : pBeg e' n s = pBeg e n s := by
  funext q j; unfold pBeg; rw [pCnt_e h, h]
theorem pR_e {e' e : pmV} (h : e'.1 = e.1) {n r N : Nat} {pl o : Nat → Int32} : pR e' n r pl o N = pR e n r pl o N := by unfold pR; rw [pDay_e h, pBeg_e h]
theorem Cpl.eq {n t z : Nat} {LT : pmT} {e e' : pmV} (hC : Cpl n t z LT e) (h : e'.1 = e.1) (h2 : e'.2.2 = e.2.2) : Cpl n t z LT e' := hC.fdx ⟨fun a j _ => by rw [h], fun a j _ => by rw [h2]⟩
/-- plan and what is told besides stay -/
theorem pDay_78 {e : pmV} {n r : Nat} {q : Nat} (hq : q = 7 ∨ q = 8) : ∀ (k m : Nat) (s : dT) (p : Int64), (pDay e n r k m s p).1 q = s q
  | 0, _, _, _ => rfl
  | k + 1, m, s, p => by rw [pDay, pDay_78 hq k]; exact funext fun j => pMin_q (by omega) (by omega) (by omega) (by omega) (by omega) (by omega) (by omega)
theorem pDayL_78 {e : pmV} {n r : Nat} {L : Int64} {q : Nat} (hq : q = 7 ∨ q = 8) : ∀ (k m : Nat) (s : dT) (p : Int64), (pDayL e n r L k m s p).1 q = s q
  | 0, _, _, _ => rfl
  | k + 1, m, s, p => by
    rw [pDayL]; split
    · rfl
    · rw [pDayL_78 hq k]; exact funext fun j => pMin_q (by omega) (by omega) (by omega) (by omega) (by omega) (by omega) (by omega)
theorem pR_7 {e : pmV} {n r N : Nat} {pl o : Nat → Int32} : (pR e n r pl o N).1 7 = pl := by unfold pR; rw [pDay_78 (Or.inl rfl)]; rfl
theorem pR_8 {e : pmV} {n r N : Nat} {pl o : Nat → Int32} : (pR e n r pl o N).1 8 = o := by unfold pR; rw [pDay_78 (Or.inr rfl)]; rfl
theorem dU_row {s : dT} {q j : Nat} {x : Int32} : dU s q j x q = upd (s q) j x := funext fun b => by
  by_cases h : b = j
  · subst h; rw [dU_on, pk_us]
  · rw [dU_off (fun z => h z.2), pk_un h]
theorem dU_rne {s : dT} {q p j : Nat} {x : Int32} (h : p ≠ q) : dU s q j x p = s p := funext fun b => dU_ne h
theorem upd_back {f : Nat → Int32} {m : Nat} {x : Int32} : upd (upd f m x) m (f m) = f := funext fun b => by
  by_cases h : b = m
  · subst h; rw [pk_us]
  · rw [pk_un h, pk_un h]
/-- the class's day with a limit: what it says of ALL WAITED -/
theorem lim {e : pmV} {n tx z r N : Nat} {LT : pmT} {L : Int64} (hC : Cpl n tx z LT e) (hN : N ≤ 60) {s : dT} {pl o : Nat → Int32} (h7 : s 7 = pl) (h8 : s 8 = o) (ho : o 2 = 0 ∧ o 3 = 0) : (L ≤ (pDayL e n r L N 0 (pBeg e n s) 0).2 ∧ ¬ (pR e n r pl o N).2 < L) ∨ (¬ L ≤ (pDayL e n r L N 0 (pBeg e n s) 0).2 ∧ (pR e n r pl o N).2 < L ∧ (pDayL e n r L N 0 (pBeg e n s) 0).2 = (pR e n r pl o N).2) := by
  have hH : hOk2 (sGf pl o) := ⟨0, 0, by omega, by omega, ho.1, ho.2⟩
  rw [pBeg_s h7 h8]
  have h0 : (0 : Int64) = lN 0 := rfl
  rcases pDayL_ok hC (r := r) (L := L) N 0 (pBeg e n (sGf pl o)) 0 (by omega) (dJ.beg hC.2.1 _) hH (by omega) with h | ⟨a, b⟩
  · rw [← h0] at h
    rw [h]
    by_cases q : L ≤ (pDay e n r N 0 (pBeg e n (sGf pl o)) 0).2
    · exact Or.inl ⟨q, Int64.not_lt.mpr q⟩
    · exact Or.inr ⟨q, Int64.not_le.mp q, rfl⟩
  · rw [← h0] at a b
    exact Or.inl ⟨a, Int64.not_lt.mpr b⟩
/-- best: the least, its lane, its minute -/
abbrev bQ : Type := Int64 × Int32 × Int32
def bT (e : pmV) (n r N i m : Nat) : Int64 := (pR e n r (upd plN m (nI i)) oN N).2
def bS (e : pmV) (n r N i m : Nat) (q : bQ) : bQ := if bT e n r N i m < q.1 then (bT e n r N i m, nI i, nI m) else q
def pB1 (e : pmV) (n r N m : Nat) : Nat → Nat → bQ → bQ
  | 0, _, q => q
  | k + 1, i, q => pB1 e n r N m k (i + 1) (if pMay e i (nI m) = true then bS e n r N i m q else q)
def pB2 (e : pmV) (n r N : Nat) : Nat → Nat → bQ → bQ
  | 0, _, q => q
  | k + 1, m, q => pB2 e n r N k (m + 1) (pB1 e n r N m n 0 q)
def bAns (q : bQ) (w : Nat) : Int64 := if w = 0 then q.2.1.toInt64 else if w = 1 then q.2.2.toInt64 else q.1
/-- the class between two trials -/
def BX (e : pmV) (n r : Nat) (q : bQ) (v : pmV) : Prop := ∃ (e' : pmV) (s : dT) (p : Int64), e'.1 = e.1 ∧ e'.2.2 = e.2.2 ∧ s 7 = plN ∧ s 8 = oN ∧ DX e' n r s p v ∧ e'.2.1 67 0 = q.2.1.toInt64 ∧ e'.2.1 67 1 = q.2.2.toInt64 ∧ e'.2.1 67 2 = q.1
theorem c_X11_tryOne {X : pmX} {d : Nat} {v : pmV} {P : Option Value → pmT → pmV → Prop} {LT : pmT} {e : pmV} {n tx z r N i m : Nat} {q : bQ} (hN : N ≤ 60) (hC : Cpl n tx z LT e) (hr : r < tx) (hm : m < N) (hi : i < n) (hB : BX e n r q v) (k : ∀ v', BX e n r (bS e n r N i m q) v' → P none (pmT0 ++ LT) v') : EvP X (d + 12) MX11_tryOne 0 [.ref 32, .int (nI N), .int (nI i), .int (nI m)] [] (pmT0 ++ LT) v P := by
  obtain ⟨e1, s, p, he, he2, h7, h8, hD, f0, f1, f2⟩ := hB
  have hC1 := hC.eq he he2
  have hn8 := hC.2.1.1
  refine ev_aload_n 0 dX11_tryOne_0 rfl (by decide) ?_
  refine gf_11_47 (pc := 1) rfl dX11_tryOne_1 kd_32 (rf_32_9 hD.1) ?_
  refine gf_11_294 (pc := 4) rfl dX11_tryOne_4 kd_51 (rf_51_4 hD.1) ?_
  refine ev_iload_n 7 dX11_tryOne_7 rfl ?_
  refine ev_iload_n 8 dX11_tryOne_8 rfl ?_
  refine ev_iastJ (j := m) 9 dX11_tryOne_9 (Nat.le_of_ble_eq_true rfl) ty_60 (pm_inI (by omega) (by omega)) (nI_clamp (by omega)) ?_
  refine ev_abs (Q := DX e1 n r (dU s 7 m (nI i)) p) (hD.u7 m (nI i)) (fun v1 hD => ?_)
  refine ev_aload_n 10 dX11_tryOne_10 rfl (by decide) ?_
  refine gf_11_47 (pc := 11) rfl dX11_tryOne_11 kd_32 (rf_32_9 hD.1) ?_
  refine ev_iload_n 14 dX11_tryOne_14 rfl ?_
  refine ev_aload_n 15 dX11_tryOne_15 rfl (by decide) ?_
  refine gf_11_51 (pc := 16) rfl dX11_tryOne_16 kd_32 (rf_32_10 hD.1) ?_
  refine ev_iconst 19 dX11_tryOne_19 kI_2 ?_
  refine ev_laldJ (x := q.1) (j := 2) 20 dX11_tryOne_20 (Nat.le_of_ble_eq_true rfl) ty_67 (by decide) rfl ((congrFun hD.rf 2).trans f2) ?_
  refine cv_11_187_1 (pc := 21) rfl dX11_tryOne_21 kd_51 (Nat.le_of_ble_eq_true rfl) ?_
  have e7 : (dU s 7 m (nI i)) 7 = upd plN m (nI i) := by rw [dU_row, h7]
  have e8 : (dU s 7 m (nI i)) 8 = oN := by rw [dU_rne (by decide), h8]
  have hH : hOk (dU s 7 m (nI i)) := ⟨0, by omega, by rw [e8]; rfl⟩
  refine c_X1_pass hN hC1 hr hD hH (fun v9 hD => ?_)
  have hlim := lim (r := r) (L := q.1) hC1 hN e7 e8 ⟨rfl, rfl⟩
  have i7 := (pDayL_78 (e := e1) (n := n) (r := r) (L := q.1) (Or.inl rfl) N 0 (pBeg e1 n (dU s 7 m (nI i))) 0).trans (show pBeg e1 n (dU s 7 m (nI i)) 7 = upd plN m (nI i) from e7)
  have i8 := (pDayL_78 (e := e1) (n := n) (r := r) (L := q.1) (Or.inr rfl) N 0 (pBeg e1 n (dU s 7 m (nI i))) 0).trans (show pBeg e1 n (dU s 7 m (nI i)) 8 = oN from e8)
  generalize hR : pDayL e1 n r q.1 N 0 (pBeg e1 n (dU s 7 m (nI i))) 0 = R at hD hlim i7 i8
  refine ev_aload_n 24 dX11_tryOne_24 rfl (by decide) ?_
  refine gf_11_47 (pc := 25) rfl dX11_tryOne_25 kd_32 (rf_32_9 hD.1) ?_
  refine gf_11_294 (pc := 28) rfl dX11_tryOne_28 kd_51 (rf_51_4 hD.1) ?_
  refine ev_iload_n 31 dX11_tryOne_31 rfl ?_
  refine ev_iconst 32 dX11_tryOne_32 kI_m1 ?_
  refine ev_iastJ (j := m) 33 dX11_tryOne_33 (Nat.le_of_ble_eq_true rfl) ty_60 (pm_inI (by omega) (by omega)) (nI_clamp (by omega)) ?_
  refine ev_abs (Q := DX e1 n r (dU R.1 7 m (-1)) R.2) (hD.u7 m (-1)) (fun v2 hD => ?_)
  refine ev_aload_n 34 dX11_tryOne_34 rfl (by decide) ?_
  refine gf_11_47 (pc := 35) rfl dX11_tryOne_35 kd_32 (rf_32_9 hD.1) ?_
  refine gf_11_165 (x := R.2) (pc := 38) rfl dX11_tryOne_38 kd_51 hD.rp ?_
  refine ev_aload_n 41 dX11_tryOne_41 rfl (by decide) ?_
  refine gf_11_51 (pc := 42) rfl dX11_tryOne_42 kd_32 (rf_32_10 hD.1) ?_
  refine ev_iconst 45 dX11_tryOne_45 kI_2 ?_
  refine ev_laldJ (x := q.1) (j := 2) 46 dX11_tryOne_46 (Nat.le_of_ble_eq_true rfl) ty_67 (by decide) rfl ((congrFun hD.rf 2).trans f2) ?_
  refine ev_lcmp 47 dX11_tryOne_47 ?_
  refine ev_if_geL (a := R.2) (b := q.1) 48 80 dX11_tryOne_48 rfl (fun c_48 => ?_) (fun c_48 => ?_)
  · refine ev_return 80 dX11_tryOne_80 rfl ?_
    rcases hlim with ⟨l1, l2⟩ | ⟨l1, _, _⟩
    · have hb : bS e n r N i m q = q := by unfold bS bT; rw [← pR_e he, if_neg l2]
      rw [hb] at k
      exact k _ ⟨e1, _, _, he, he2, by rw [dU_row, i7]; exact upd_back, by rw [dU_rne (by decide)]; exact i8, hD, f0, f1, f2⟩
    · exact absurd c_48 l1
  · refine ev_aload_n 51 dX11_tryOne_51 rfl (by decide) ?_
    refine gf_11_51 (pc := 52) rfl dX11_tryOne_52 kd_32 (rf_32_10 hD.1) ?_
    refine ev_iconst 55 dX11_tryOne_55 kI_0 ?_
    refine ev_iload_n 56 dX11_tryOne_56 rfl ?_
    refine ev_i2l 57 dX11_tryOne_57 ?_
    refine ev_lastJ (j := 0) 58 dX11_tryOne_58 (Nat.le_of_ble_eq_true rfl) ty_67 (by decide) rfl ?_
    refine ev_abs (Q := DX (uL e1 67 0 ((nI i).toInt64)) n r (dU R.1 7 m (-1)) R.2) (hD.fw 0 ((nI i).toInt64)) (fun v3 hD => ?_)
    refine ev_aload_n 59 dX11_tryOne_59 rfl (by decide) ?_
    refine gf_11_51 (pc := 60) rfl dX11_tryOne_60 kd_32 (rf_32_10 hD.1) ?_
    refine ev_iconst 63 dX11_tryOne_63 kI_1 ?_
    refine ev_iload_n 64 dX11_tryOne_64 rfl ?_
    refine ev_i2l 65 dX11_tryOne_65 ?_
    refine ev_lastJ (j := 1) 66 dX11_tryOne_66 (Nat.le_of_ble_eq_true rfl) ty_67 (by decide) rfl ?_
    refine ev_abs (Q := DX (uL (uL e1 67 0 ((nI i).toInt64)) 67 1 ((nI m).toInt64)) n r (dU R.1 7 m (-1)) R.2) (hD.fw 1 ((nI m).toInt64)) (fun v4 hD => ?_)
    refine ev_aload_n 67 dX11_tryOne_67 rfl (by decide) ?_
    refine gf_11_51 (pc := 68) rfl dX11_tryOne_68 kd_32 (rf_32_10 hD.1) ?_
    refine ev_iconst 71 dX11_tryOne_71 kI_2 ?_
    refine ev_aload_n 72 dX11_tryOne_72 rfl (by decide) ?_
    refine gf_11_47 (pc := 73) rfl dX11_tryOne_73 kd_32 (rf_32_9 hD.1) ?_
    refine gf_11_165 (x := R.2) (pc := 76) rfl dX11_tryOne_76 kd_51 hD.rp ?_
    refine ev_lastJ (j := 2) 79 dX11_tryOne_79 (Nat.le_of_ble_eq_true rfl) ty_67 (by decide) rfl ?_
    refine ev_abs (Q := DX (uL (uL (uL e1 67 0 ((nI i).toInt64)) 67 1 ((nI m).toInt64)) 67 2 R.2) n r (dU R.1 7 m (-1)) R.2) (hD.fw 2 R.2) (fun v5 hD => ?_)
    refine ev_return 80 dX11_tryOne_80 rfl ?_
    rcases hlim with ⟨l1, _⟩ | ⟨_, l2, l3⟩
    · exact absurd l1 c_48
    · have hb : bS e n r N i m q = (R.2, nI i, nI m) := by unfold bS bT; rw [← pR_e he, if_pos l2, ← l3]
      rw [hb] at k
      exact k _ ⟨uL (uL (uL e1 67 0 ((nI i).toInt64)) 67 1 ((nI m).toInt64)) 67 2 R.2, dU R.1 7 m (-1), R.2, he, he2, by rw [dU_row, i7]; exact upd_back, by rw [dU_rne (by decide)]; exact i8, hD, by rw [uL_off (by omega), uL_off (by omega), uL_on], by rw [uL_off (by omega), uL_on], by rw [uL_on]⟩

theorem lp_b1 {X : pmX} {d : Nat} {P : Option Value → pmT → pmV → Prop} {LT : pmT} {e : pmV} {n tx z r N m : Nat} {y1 : Int32} (hN : N ≤ 60) (hC : Cpl n tx z LT e) (hr : r < tx) (hm : m < N) : ∀ (k : Nat) (i : Nat) (q : bQ) (v : pmV), i + k = n → BX e n r q v → (∀ v', BX e n r (pB1 e n r N m k i q) v' → EvP X (d + 13) MX11_best 116 [.ref 32, .int (nI N), .int y1, .int (nI m), .int (nI n)] [] (pmT0 ++ LT) v' P) → EvP X (d + 13) MX11_best 79 [.ref 32, .int (nI N), .int y1, .int (nI m), .int (nI i)] [] (pmT0 ++ LT) v P := by
  intro k
  induction k with
  | zero =>
    intro i q v hi hB K
    have hi2 : n = i := by omega
    subst hi2
    obtain ⟨e1, s, p, he, he2, h7, h8, hD, f0, f1, f2⟩ := id hB
    have hC1 := hC.eq he he2
    have hn8 := hC.2.1.1
    refine ev_iload 79 dX11_best_79 rfl ?_
    refine ev_aload_n 81 dX11_best_81 rfl (by decide) ?_
    refine gf_11_78 (x := nI n) (pc := 82) rfl dX11_best_82 kd_32 ((hD.c (by unfold DcX; omega)).trans hC1.2.1.2.2.1) ?_
    refine ev_ic_geN (a := n) (b := n) 85 116 dX11_best_85 rfl (by omega) (by omega) (fun c_85 => ?_) (fun c_85 => by omega)
    exact K v hB
  | succ k ih =>
    intro i q v hi hB K
    obtain ⟨e1, s, p, he, he2, h7, h8, hD, f0, f1, f2⟩ := id hB
    have hC1 := hC.eq he he2
    have hn8 := hC.2.1.1
    refine ev_iload 79 dX11_best_79 rfl ?_
    refine ev_aload_n 81 dX11_best_81 rfl (by decide) ?_
    refine gf_11_78 (x := nI n) (pc := 82) rfl dX11_best_82 kd_32 ((hD.c (by unfold DcX; omega)).trans hC1.2.1.2.2.1) ?_
    refine ev_ic_geN (a := i) (b := n) 85 116 dX11_best_85 rfl (by omega) (by omega) (fun c_85 => by omega) (fun c_85 => ?_)
    refine ev_aload_n 88 dX11_best_88 rfl (by decide) ?_
    refine gf_11_11 (pc := 89) rfl dX11_best_89 kd_32 (rf_32_0 hD.1) ?_
    refine ev_iload 92 dX11_best_92 rfl ?_
    refine ev_aaldJ (x := 124 + i) (j := i) 94 dX11_best_94 (Nat.le_of_ble_eq_true rfl) ty_33 (by decide) (pm_inI (by omega) (by omega)) (nI_clamp (by omega)) ((hD.fd.2 33 _ (by omega)).trans (hC1.2.1.2.2.2.2 i (by omega)).1) ?_
    refine ev_iload_n 95 dX11_best_95 rfl ?_
    refine vc_11_143 (pc := 96) rfl dX11_best_96 hC1.2.1 (i := i) (by omega) (hD.c (by unfold DcX; omega)) (Nat.le_of_ble_eq_true rfl) (fun h_96 => ?_) (fun h_96 => ?_)
    · refine ev_ifF 99 110 dX11_best_99 rfl (by decide) ?_
      refine ev_aload_n 102 dX11_best_102 rfl (by decide) ?_
      refine ev_iload_n 103 dX11_best_103 rfl ?_
      refine ev_iload 104 dX11_best_104 rfl ?_
      refine ev_iload_n 106 dX11_best_106 rfl ?_
      refine cv_11_193_11 (pc := 107) rfl dX11_best_107 kd_32 (Nat.le_of_ble_eq_true rfl) ?_
      refine c_X11_tryOne (i := i) (m := m) hN hC hr (by omega) (by omega) hB (fun v1 hB => ?_)
      refine ev_iinc (y := nI (i + 1)) (ls' := [.ref 32, .int (nI N), .int y1, .int (nI m), .int (nI (i + 1))]) 110 dX11_best_110 rfl (nI_add i 1) rfl ?_
      refine ev_goto 113 79 dX11_best_113 rfl ?_
      rw [pMay_e he] at h_96
      refine ih (i + 1) _ _ (by omega) hB (fun v2 h2 => K v2 (by rw [pB1, if_pos h_96]; exact h2))
    · refine ev_ifT 99 110 dX11_best_99 rfl (by decide) ?_
      refine ev_iinc (y := nI (i + 1)) (ls' := [.ref 32, .int (nI N), .int y1, .int (nI m), .int (nI (i + 1))]) 110 dX11_best_110 rfl (nI_add i 1) rfl ?_
      refine ev_goto 113 79 dX11_best_113 rfl ?_
      rw [pMay_e he] at h_96
      refine ih (i + 1) q _ (by omega) hB (fun v2 h2 => K v2 (by rw [pB1, if_neg h_96]; exact h2))

theorem lp_b2 {X : pmX} {d : Nat} {P : Option Value → pmT → pmV → Prop} {LT : pmT} {e : pmV} {n tx z r N : Nat} {y1 : Int32} (hN : N ≤ 60) (hC : Cpl n tx z LT e) (hr : r < tx) : ∀ (k : Nat) (i : Nat) (q : bQ) (w4 : Value) (v : pmV), i + k = N → BX e n r q v → (∀ v' w', BX e n r (pB2 e n r N k i q) v' → EvP X (d + 13) MX11_best 122 [.ref 32, .int (nI N), .int y1, .int (nI N), w'] [] (pmT0 ++ LT) v' P) → EvP X (d + 13) MX11_best 71 [.ref 32, .int (nI N), .int y1, .int (nI i), w4] [] (pmT0 ++ LT) v P := by
  intro k
  induction k with
  | zero =>
    intro i q w4 v hi hB K
    have hi2 : N = i := by omega
    subst hi2
    obtain ⟨e1, s, p, he, he2, h7, h8, hD, f0, f1, f2⟩ := id hB
    have hC1 := hC.eq he he2
    have hn8 := hC.2.1.1
    refine ev_iload_n 71 dX11_best_71 rfl ?_
    refine ev_iload_n 72 dX11_best_72 rfl ?_
    refine ev_ic_geN (a := N) (b := N) 73 122 dX11_best_73 rfl (by omega) (by omega) (fun c_73 => ?_) (fun c_73 => by omega)
    exact K v w4 hB
  | succ k ih =>
    intro i q w4 v hi hB K
    obtain ⟨e1, s, p, he, he2, h7, h8, hD, f0, f1, f2⟩ := id hB
    have hC1 := hC.eq he he2
    have hn8 := hC.2.1.1
    refine ev_iload_n 71 dX11_best_71 rfl ?_
    refine ev_iload_n 72 dX11_best_72 rfl ?_
    refine ev_ic_geN (a := i) (b := N) 73 122 dX11_best_73 rfl (by omega) (by omega) (fun c_73 => by omega) (fun c_73 => ?_)
    refine ev_iconst 76 dX11_best_76 kI_0 ?_
    refine ev_istore (ls' := [.ref 32, .int (nI N), .int y1, .int (nI i), .int 0]) 77 dX11_best_77 (Nat.le_of_ble_eq_true rfl) rfl ?_
    refine lp_b1 hN hC hr (by omega) n 0 q v (by omega) hB (fun v1 hB => ?_)
    refine ev_iinc (y := nI (i + 1)) (ls' := [.ref 32, .int (nI N), .int y1, .int (nI (i + 1)), .int (nI n)]) 116 dX11_best_116 rfl (nI_add i 1) rfl ?_
    refine ev_goto 119 71 dX11_best_119 rfl ?_
    exact ih (i + 1) _ _ _ (by omega) hB K

theorem c_X11_best_1 {X : pmX} {d : Nat} {v : pmV} {P : Option Value → pmT → pmV → Prop} {LT : pmT} {a b : Int32} (h1 : ¬ ((1 : Int32) ≤ a ∧ a ≤ 60)) (k : P (some (.long (-4611686018427387904))) (pmT0 ++ LT) v) : EvP X (d + 3) MX11_best 0 [.ref 32, .int a, .int b, pmJ, pmJ] [] (pmT0 ++ LT) v P := by
  refine ev_iload_n 0 dX11_best_0 rfl ?_
  refine ev_iconst 1 dX11_best_1 kI_1 ?_
  refine ev_bipush 2 dX11_best_2 kB_60 ?_
  refine cs_11_74 (pc := 4) rfl dX11_best_4 (Nat.le_of_ble_eq_true rfl) ?_
  refine c_X11_isIn (fun h_4 => absurd h_4 h1) (fun h_4 => ?_)
  refine ev_ifT 7 19 dX11_best_7 rfl (by decide) ?_
  refine ev_ldc2 19 dX11_best_19 l2_11_159 ?_
  refine ev_lreturn 22 dX11_best_22 rfl ?_
  exact k

theorem c_X11_best_2 {X : pmX} {d : Nat} {v : pmV} {P : Option Value → pmT → pmV → Prop} {LT : pmT} {a b : Int32} (h1 : (1 : Int32) ≤ a ∧ a ≤ 60) (h2 : ¬ (0 ≤ b ∧ b ≤ 2)) (k : P (some (.long (-4611686018427387904))) (pmT0 ++ LT) v) : EvP X (d + 3) MX11_best 0 [.ref 32, .int a, .int b, pmJ, pmJ] [] (pmT0 ++ LT) v P := by
  refine ev_iload_n 0 dX11_best_0 rfl ?_
  refine ev_iconst 1 dX11_best_1 kI_1 ?_
  refine ev_bipush 2 dX11_best_2 kB_60 ?_
  refine cs_11_74 (pc := 4) rfl dX11_best_4 (Nat.le_of_ble_eq_true rfl) ?_
  refine c_X11_isIn (fun h_4 => ?_) (fun h_4 => absurd h1 h_4)
  refine ev_ifF 7 19 dX11_best_7 rfl (by decide) ?_
  refine ev_iload_n 10 dX11_best_10 rfl ?_
  refine ev_iconst 11 dX11_best_11 kI_0 ?_
  refine ev_iconst 12 dX11_best_12 kI_2 ?_
  refine cs_11_74 (pc := 13) rfl dX11_best_13 (Nat.le_of_ble_eq_true rfl) ?_
  refine c_X11_isIn (fun h_13 => absurd h_13 h2) (fun h_13 => ?_)
  refine ev_ifF 16 23 dX11_best_16 rfl (by decide) ?_
  refine ev_ldc2 19 dX11_best_19 l2_11_159 ?_
  refine ev_lreturn 22 dX11_best_22 rfl ?_
  exact k

def pBest (e : pmV) (n r N : Nat) : bQ := pB2 e n r N N 0 ((pR e n r plN oN N).2, -1, -1)
theorem c_X11_best_ok {X : pmX} {d : Nat} {v : pmV} {P : Option Value → pmT → pmV → Prop} {LT : pmT} {n tx z r N w : Nat} (hC : Cpl n tx z LT v) (hr : r < tx) (hr1 : v.1 34 6 = nI r) (hN : N ≤ 60) (hw : w ≤ 2) (h1 : (1 : Int32) ≤ nI N ∧ nI N ≤ 60) (k : ∀ v', BX v n r (pBest v n r N) v' → P (some (.long (bAns (pBest v n r N) w))) (pmT0 ++ LT) v') : EvP X (d + 13) MX11_best 0 [.ref 32, .int (nI N), .int (nI w), pmJ, pmJ] [] (pmT0 ++ LT) v P := by
  have hn8 := hC.2.1.1
  have : w = 0 ∨ w = 1 ∨ w = 2 := by omega
  rcases this with rfl | rfl | rfl
  · refine ev_iload_n 0 dX11_best_0 rfl ?_
    refine ev_iconst 1 dX11_best_1 kI_1 ?_
    refine ev_bipush 2 dX11_best_2 kB_60 ?_
    refine cs_11_74 (pc := 4) rfl dX11_best_4 (Nat.le_of_ble_eq_true rfl) ?_
    refine c_X11_isIn (fun h_4 => ?_) (fun h_4 => absurd h1 h_4)
    refine ev_ifF 7 19 dX11_best_7 rfl (by decide) ?_
    refine ev_iload_n 10 dX11_best_10 rfl ?_
    refine ev_iconst 11 dX11_best_11 kI_0 ?_
    refine ev_iconst 12 dX11_best_12 kI_2 ?_
    refine cs_11_74 (pc := 13) rfl dX11_best_13 (Nat.le_of_ble_eq_true rfl) ?_
    refine c_X11_isIn (fun h_13 => ?_) (fun h_13 => absurd (show (0 : Int32) ≤ 0 ∧ (0 : Int32) ≤ 2 by decide) h_13)
    refine ev_ifT 16 23 dX11_best_16 rfl (by decide) ?_
    refine ev_aload_n 23 dX11_best_23 rfl (by decide) ?_
    refine cv_11_182_11 (pc := 24) rfl dX11_best_24 kd_32 (Nat.le_of_ble_eq_true rfl) ?_
    refine c_X11_readyCourse hC hr hr1 hC.1 dFr.rfl rfl (fun v1 s0 p0 h7 h8 hD => ?_)
    refine ev_aload_n 27 dX11_best_27 rfl (by decide) ?_
    refine gf_11_47 (pc := 28) rfl dX11_best_28 kd_32 (rf_32_9 hD.1) ?_
    refine ev_iload_n 31 dX11_best_31 rfl ?_
    refine ev_ldc2 32 dX11_best_32 l2_11_185 ?_
    refine cv_11_187_1 (pc := 35) rfl dX11_best_35 kd_51 (Nat.le_of_ble_eq_true rfl) ?_
    have hH : hOk2 s0 := ⟨0, 0, by omega, by omega, by rw [h8]; rfl, by rw [h8]; rfl⟩
    refine c_X1_pass hN hC hr hD hH.ok (fun v3 hD => ?_)
    rw [full hC hN hH, pBeg_s h7 h8] at hD
    refine ev_aload_n 38 dX11_best_38 rfl (by decide) ?_
    refine gf_11_51 (pc := 39) rfl dX11_best_39 kd_32 (rf_32_10 hD.1) ?_
    refine ev_iconst 42 dX11_best_42 kI_0 ?_
    refine ev_ldc2 43 dX11_best_43 l2_11_191 ?_
    refine ev_lastJ (j := 0) 46 dX11_best_46 (Nat.le_of_ble_eq_true rfl) ty_67 (by decide) rfl ?_
    refine ev_abs (Q := DX (uL v 67 0 (-1)) n r ((pR v n r plN oN N).1) ((pR v n r plN oN N).2)) (hD.fw 0 (-1)) (fun v1 hD => ?_)
    refine ev_aload_n 47 dX11_best_47 rfl (by decide) ?_
    refine gf_11_51 (pc := 48) rfl dX11_best_48 kd_32 (rf_32_10 hD.1) ?_
    refine ev_iconst 51 dX11_best_51 kI_1 ?_
    refine ev_ldc2 52 dX11_best_52 l2_11_191 ?_
    refine ev_lastJ (j := 1) 55 dX11_best_55 (Nat.le_of_ble_eq_true rfl) ty_67 (by decide) rfl ?_
    refine ev_abs (Q := DX (uL (uL v 67 0 (-1)) 67 1 (-1)) n r ((pR v n r plN oN N).1) ((pR v n r plN oN N).2)) (hD.fw 1 (-1)) (fun v2 hD => ?_)
    refine ev_aload_n 56 dX11_best_56 rfl (by decide) ?_
    refine gf_11_51 (pc := 57) rfl dX11_best_57 kd_32 (rf_32_10 hD.1) ?_
    refine ev_iconst 60 dX11_best_60 kI_2 ?_
    refine ev_aload_n 61 dX11_best_61 rfl (by decide) ?_
    refine gf_11_47 (pc := 62) rfl dX11_best_62 kd_32 (rf_32_9 hD.1) ?_
    refine gf_11_165 (x := (pR v n r plN oN N).2) (pc := 65) rfl dX11_best_65 kd_51 hD.rp ?_
    refine ev_lastJ (j := 2) 68 dX11_best_68 (Nat.le_of_ble_eq_true rfl) ty_67 (by decide) rfl ?_
    refine ev_abs (Q := DX (uL (uL (uL v 67 0 (-1)) 67 1 (-1)) 67 2 ((pR v n r plN oN N).2)) n r ((pR v n r plN oN N).1) ((pR v n r plN oN N).2)) (hD.fw 2 ((pR v n r plN oN N).2)) (fun v3 hD => ?_)
    refine ev_iconst 69 dX11_best_69 kI_0 ?_
    refine ev_istore_n (ls' := [.ref 32, .int (nI N), .int 0, .int 0, pmJ]) 70 dX11_best_70 (Nat.le_of_ble_eq_true rfl) rfl ?_
    refine lp_b2 hN hC hr N 0 ((pR v n r plN oN N).2, -1, -1) pmJ _ (by omega) ⟨uL (uL (uL v 67 0 (-1)) 67 1 (-1)) 67 2 ((pR v n r plN oN N).2), _, _, rfl, rfl, pR_7, pR_8, hD, by rw [uL_off (by omega), uL_off (by omega), uL_on]; rfl, by rw [uL_off (by omega), uL_on]; rfl, by rw [uL_on]⟩ (fun v4 w4 hB => ?_)
    obtain ⟨e1, s, p, he, he2, h7, h8, hD, f0, f1, f2⟩ := id hB
    have hC1 := hC.eq he he2
    refine ev_aload_n 122 dX11_best_122 rfl (by decide) ?_
    refine gf_11_51 (pc := 123) rfl dX11_best_123 kd_32 (rf_32_10 hD.1) ?_
    refine ev_iload_n 126 dX11_best_126 rfl ?_
    refine ev_laldJ (x := (pB2 v n r N N 0 ((pR v n r plN oN N).2, -1, -1)).2.1.toInt64) (j := 0) 127 dX11_best_127 (Nat.le_of_ble_eq_true rfl) ty_67 (by decide) rfl ((congrFun hD.rf 0).trans f0) ?_
    refine ev_lreturn 128 dX11_best_128 rfl ?_
    exact k _ hB
  · refine ev_iload_n 0 dX11_best_0 rfl ?_
    refine ev_iconst 1 dX11_best_1 kI_1 ?_
    refine ev_bipush 2 dX11_best_2 kB_60 ?_
    refine cs_11_74 (pc := 4) rfl dX11_best_4 (Nat.le_of_ble_eq_true rfl) ?_
    refine c_X11_isIn (fun h_4 => ?_) (fun h_4 => absurd h1 h_4)
    refine ev_ifF 7 19 dX11_best_7 rfl (by decide) ?_
    refine ev_iload_n 10 dX11_best_10 rfl ?_
    refine ev_iconst 11 dX11_best_11 kI_0 ?_
    refine ev_iconst 12 dX11_best_12 kI_2 ?_
    refine cs_11_74 (pc := 13) rfl dX11_best_13 (Nat.le_of_ble_eq_true rfl) ?_
    refine c_X11_isIn (fun h_13 => ?_) (fun h_13 => absurd (show (0 : Int32) ≤ 1 ∧ (1 : Int32) ≤ 2 by decide) h_13)
    refine ev_ifT 16 23 dX11_best_16 rfl (by decide) ?_
    refine ev_aload_n 23 dX11_best_23 rfl (by decide) ?_
    refine cv_11_182_11 (pc := 24) rfl dX11_best_24 kd_32 (Nat.le_of_ble_eq_true rfl) ?_
    refine c_X11_readyCourse hC hr hr1 hC.1 dFr.rfl rfl (fun v1 s0 p0 h7 h8 hD => ?_)
    refine ev_aload_n 27 dX11_best_27 rfl (by decide) ?_
    refine gf_11_47 (pc := 28) rfl dX11_best_28 kd_32 (rf_32_9 hD.1) ?_
    refine ev_iload_n 31 dX11_best_31 rfl ?_
    refine ev_ldc2 32 dX11_best_32 l2_11_185 ?_
    refine cv_11_187_1 (pc := 35) rfl dX11_best_35 kd_51 (Nat.le_of_ble_eq_true rfl) ?_
    have hH : hOk2 s0 := ⟨0, 0, by omega, by omega, by rw [h8]; rfl, by rw [h8]; rfl⟩
    refine c_X1_pass hN hC hr hD hH.ok (fun v3 hD => ?_)
    rw [full hC hN hH, pBeg_s h7 h8] at hD
    refine ev_aload_n 38 dX11_best_38 rfl (by decide) ?_
    refine gf_11_51 (pc := 39) rfl dX11_best_39 kd_32 (rf_32_10 hD.1) ?_
    refine ev_iconst 42 dX11_best_42 kI_0 ?_
    refine ev_ldc2 43 dX11_best_43 l2_11_191 ?_
    refine ev_lastJ (j := 0) 46 dX11_best_46 (Nat.le_of_ble_eq_true rfl) ty_67 (by decide) rfl ?_
    refine ev_abs (Q := DX (uL v 67 0 (-1)) n r ((pR v n r plN oN N).1) ((pR v n r plN oN N).2)) (hD.fw 0 (-1)) (fun v1 hD => ?_)
    refine ev_aload_n 47 dX11_best_47 rfl (by decide) ?_
    refine gf_11_51 (pc := 48) rfl dX11_best_48 kd_32 (rf_32_10 hD.1) ?_
    refine ev_iconst 51 dX11_best_51 kI_1 ?_
    refine ev_ldc2 52 dX11_best_52 l2_11_191 ?_
    refine ev_lastJ (j := 1) 55 dX11_best_55 (Nat.le_of_ble_eq_true rfl) ty_67 (by decide) rfl ?_
    refine ev_abs (Q := DX (uL (uL v 67 0 (-1)) 67 1 (-1)) n r ((pR v n r plN oN N).1) ((pR v n r plN oN N).2)) (hD.fw 1 (-1)) (fun v2 hD => ?_)
    refine ev_aload_n 56 dX11_best_56 rfl (by decide) ?_
    refine gf_11_51 (pc := 57) rfl dX11_best_57 kd_32 (rf_32_10 hD.1) ?_
    refine ev_iconst 60 dX11_best_60 kI_2 ?_
    refine ev_aload_n 61 dX11_best_61 rfl (by decide) ?_
    refine gf_11_47 (pc := 62) rfl dX11_best_62 kd_32 (rf_32_9 hD.1) ?_
    refine gf_11_165 (x := (pR v n r plN oN N).2) (pc := 65) rfl dX11_best_65 kd_51 hD.rp ?_
    refine ev_lastJ (j := 2) 68 dX11_best_68 (Nat.le_of_ble_eq_true rfl) ty_67 (by decide) rfl ?_
    refine ev_abs (Q := DX (uL (uL (uL v 67 0 (-1)) 67 1 (-1)) 67 2 ((pR v n r plN oN N).2)) n r ((pR v n r plN oN N).1) ((pR v n r plN oN N).2)) (hD.fw 2 ((pR v n r plN oN N).2)) (fun v3 hD => ?_)
    refine ev_iconst 69 dX11_best_69 kI_0 ?_
    refine ev_istore_n (ls' := [.ref 32, .int (nI N), .int 1, .int 0, pmJ]) 70 dX11_best_70 (Nat.le_of_ble_eq_true rfl) rfl ?_
    refine lp_b2 hN hC hr N 0 ((pR v n r plN oN N).2, -1, -1) pmJ _ (by omega) ⟨uL (uL (uL v 67 0 (-1)) 67 1 (-1)) 67 2 ((pR v n r plN oN N).2), _, _, rfl, rfl, pR_7, pR_8, hD, by rw [uL_off (by omega), uL_off (by omega), uL_on]; rfl, by rw [uL_off (by omega), uL_on]; rfl, by rw [uL_on]⟩ (fun v4 w4 hB => ?_)
    obtain ⟨e1, s, p, he, he2, h7, h8, hD, f0, f1, f2⟩ := id hB
    have hC1 := hC.eq he he2
    refine ev_aload_n 122 dX11_best_122 rfl (by decide) ?_
    refine gf_11_51 (pc := 123) rfl dX11_best_123 kd_32 (rf_32_10 hD.1) ?_
    refine ev_iload_n 126 dX11_best_126 rfl ?_
    refine ev_laldJ (x := (pB2 v n r N N 0 ((pR v n r plN oN N).2, -1, -1)).2.2.toInt64) (j := 1) 127 dX11_best_127 (Nat.le_of_ble_eq_true rfl) ty_67 (by decide) rfl ((congrFun hD.rf 1).trans f1) ?_
    refine ev_lreturn 128 dX11_best_128 rfl ?_
    exact k _ hB
  · refine ev_iload_n 0 dX11_best_0 rfl ?_
    refine ev_iconst 1 dX11_best_1 kI_1 ?_
    refine ev_bipush 2 dX11_best_2 kB_60 ?_
    refine cs_11_74 (pc := 4) rfl dX11_best_4 (Nat.le_of_ble_eq_true rfl) ?_
    refine c_X11_isIn (fun h_4 => ?_) (fun h_4 => absurd h1 h_4)
    refine ev_ifF 7 19 dX11_best_7 rfl (by decide) ?_
    refine ev_iload_n 10 dX11_best_10 rfl ?_
    refine ev_iconst 11 dX11_best_11 kI_0 ?_
    refine ev_iconst 12 dX11_best_12 kI_2 ?_
    refine cs_11_74 (pc := 13) rfl dX11_best_13 (Nat.le_of_ble_eq_true rfl) ?_
    refine c_X11_isIn (fun h_13 => ?_) (fun h_13 => absurd (show (0 : Int32) ≤ 2 ∧ (2 : Int32) ≤ 2 by decide) h_13)
    refine ev_ifT 16 23 dX11_best_16 rfl (by decide) ?_
    refine ev_aload_n 23 dX11_best_23 rfl (by decide) ?_
    refine cv_11_182_11 (pc := 24) rfl dX11_best_24 kd_32 (Nat.le_of_ble_eq_true rfl) ?_
    refine c_X11_readyCourse hC hr hr1 hC.1 dFr.rfl rfl (fun v1 s0 p0 h7 h8 hD => ?_)
    refine ev_aload_n 27 dX11_best_27 rfl (by decide) ?_
    refine gf_11_47 (pc := 28) rfl dX11_best_28 kd_32 (rf_32_9 hD.1) ?_
    refine ev_iload_n 31 dX11_best_31 rfl ?_
    refine ev_ldc2 32 dX11_best_32 l2_11_185 ?_
    refine cv_11_187_1 (pc := 35) rfl dX11_best_35 kd_51 (Nat.le_of_ble_eq_true rfl) ?_
    have hH : hOk2 s0 := ⟨0, 0, by omega, by omega, by rw [h8]; rfl, by rw [h8]; rfl⟩
    refine c_X1_pass hN hC hr hD hH.ok (fun v3 hD => ?_)
    rw [full hC hN hH, pBeg_s h7 h8] at hD
    refine ev_aload_n 38 dX11_best_38 rfl (by decide) ?_
    refine gf_11_51 (pc := 39) rfl dX11_best_39 kd_32 (rf_32_10 hD.1) ?_
    refine ev_iconst 42 dX11_best_42 kI_0 ?_
    refine ev_ldc2 43 dX11_best_43 l2_11_191 ?_
    refine ev_lastJ (j := 0) 46 dX11_best_46 (Nat.le_of_ble_eq_true rfl) ty_67 (by decide) rfl ?_
    refine ev_abs (Q := DX (uL v 67 0 (-1)) n r ((pR v n r plN oN N).1) ((pR v n r plN oN N).2)) (hD.fw 0 (-1)) (fun v1 hD => ?_)
    refine ev_aload_n 47 dX11_best_47 rfl (by decide) ?_
    refine gf_11_51 (pc := 48) rfl dX11_best_48 kd_32 (rf_32_10 hD.1) ?_
    refine ev_iconst 51 dX11_best_51 kI_1 ?_
    refine ev_ldc2 52 dX11_best_52 l2_11_191 ?_
    refine ev_lastJ (j := 1) 55 dX11_best_55 (Nat.le_of_ble_eq_true rfl) ty_67 (by decide) rfl ?_
    refine ev_abs (Q := DX (uL (uL v 67 0 (-1)) 67 1 (-1)) n r ((pR v n r plN oN N).1) ((pR v n r plN oN N).2)) (hD.fw 1 (-1)) (fun v2 hD => ?_)
    refine ev_aload_n 56 dX11_best_56 rfl (by decide) ?_
    refine gf_11_51 (pc := 57) rfl dX11_best_57 kd_32 (rf_32_10 hD.1) ?_
    refine ev_iconst 60 dX11_best_60 kI_2 ?_
    refine ev_aload_n 61 dX11_best_61 rfl (by decide) ?_
    refine gf_11_47 (pc := 62) rfl dX11_best_62 kd_32 (rf_32_9 hD.1) ?_
    refine gf_11_165 (x := (pR v n r plN oN N).2) (pc := 65) rfl dX11_best_65 kd_51 hD.rp ?_
    refine ev_lastJ (j := 2) 68 dX11_best_68 (Nat.le_of_ble_eq_true rfl) ty_67 (by decide) rfl ?_
    refine ev_abs (Q := DX (uL (uL (uL v 67 0 (-1)) 67 1 (-1)) 67 2 ((pR v n r plN oN N).2)) n r ((pR v n r plN oN N).1) ((pR v n r plN oN N).2)) (hD.fw 2 ((pR v n r plN oN N).2)) (fun v3 hD => ?_)
    refine ev_iconst 69 dX11_best_69 kI_0 ?_
    refine ev_istore_n (ls' := [.ref 32, .int (nI N), .int 2, .int 0, pmJ]) 70 dX11_best_70 (Nat.le_of_ble_eq_true rfl) rfl ?_
    refine lp_b2 hN hC hr N 0 ((pR v n r plN oN N).2, -1, -1) pmJ _ (by omega) ⟨uL (uL (uL v 67 0 (-1)) 67 1 (-1)) 67 2 ((pR v n r plN oN N).2), _, _, rfl, rfl, pR_7, pR_8, hD, by rw [uL_off (by omega), uL_off (by omega), uL_on]; rfl, by rw [uL_off (by omega), uL_on]; rfl, by rw [uL_on]⟩ (fun v4 w4 hB => ?_)
    obtain ⟨e1, s, p, he, he2, h7, h8, hD, f0, f1, f2⟩ := id hB
    have hC1 := hC.eq he he2
    refine ev_aload_n 122 dX11_best_122 rfl (by decide) ?_
    refine gf_11_51 (pc := 123) rfl dX11_best_123 kd_32 (rf_32_10 hD.1) ?_
    refine ev_iload_n 126 dX11_best_126 rfl ?_
    refine ev_laldJ (x := (pB2 v n r N N 0 ((pR v n r plN oN N).2, -1, -1)).1) (j := 2) 127 dX11_best_127 (Nat.le_of_ble_eq_true rfl) ty_67 (by decide) rfl ((congrFun hD.rf 2).trans f2) ?_
    refine ev_lreturn 128 dX11_best_128 rfl ?_
    exact k _ hB
