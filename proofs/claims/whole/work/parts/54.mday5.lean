/-! the reference's day: a minute, a day -/
theorem mTB.cg {e : pmV} {g : Nat → Int32} {b : Int32} {pl pl' : Nat → Int32} {br br' : Int32} (h : mTB e g b pl br) (e1 : ∀ m, pl' m = pl m) (e2 : br' = br) : mTB e g b pl' br' := by
  rw [show pl' = pl from funext e1, e2]; exact h
/-- who is helped beside, as the class has it -/
def mGB (g : Nat → Int32) (s : dT) : Prop := (g 1 = -1 ∧ s 8 2 = nI 0 ∧ s 8 3 = nI 0) ∨ ∃ w t, w < 2 ∧ t ≤ 20 ∧ g 1 = nI w ∧ g 2 = nI t ∧ s 8 2 = nI w ∧ s 8 3 = nI (5 * t)
theorem mGB.ok {g : Nat → Int32} {s : dT} (h : mGB g s) : hOk2 s := by
  rcases h with ⟨_, h1, h2⟩ | ⟨w, t, hw, ht, _, _, h1, h2⟩
  · exact ⟨0, 0, by omega, by omega, h1, h2⟩
  · exact ⟨w, 5 * t, hw, by omega, h1, h2⟩
theorem mGB.cg {g : Nat → Int32} {s s' : dT} (h : mGB g s) (e : ∀ j, s' 8 j = s 8 j) : mGB g s' := by unfold mGB; rw [e, e]; exact h
theorem c_X12_turnsNow2 {X : pmX} {d : Nat} {v : pmV} {P : Option Value → pmT → pmV → Prop} {LT : pmT} {e : pmV} {n tx z : Nat} {g : Nat → Int32} {s : dT} {p : Int64} {l m : Int32} (hC : Cpl n tx z LT e) (hD : DM e n g s p v) (hW : wOk n s) (hR : ∀ i, i < n → nB (s 4 i) 20) (k : ∀ v' b, DM e n g (pTurn e n s l m) p v' → P (some (.int b)) (pmT0 ++ LT) v') : EvP X (d + 2) MX12_turnsNow 0 [.ref 100, .int l, .int m] [] (pmT0 ++ LT) v P :=
  c_X12_turnsNow hC hD hW hR (fun hc v' h => k v' 1 (by rw [show pTurn e n s l m = pTurnI e s l.toNatClampNeg from if_pos hc]; exact h)) (fun hc => k v 0 (by rw [show pTurn e n s l m = s from if_neg hc]; exact hD))
theorem pain_l {x c : Int32} {s : dT} {w B : Nat} (hc : wiI x 0 99 = c) (h : dW s w B) (hB : B ≤ 11880) : c.toInt64 * (s 0 w).toInt64 = (wiI x 0 99 * s 0 w).toInt64 := by
  obtain ⟨a, b, h1, h2, h3, h4⟩ := h
  obtain ⟨q, hq, eq⟩ := wi99 x
  have hm : q * a ≤ 99 * 11880 := Nat.mul_le_mul hq (by omega)
  rw [← hc, eq, h1, nI_mulp, nI_l (by omega), nI_l (by omega), nI_l (by omega), lN_mul]
theorem pain_2 {e : pmV} {n r : Nat} {s : dT} {m B : Nat} {p : Int64} (hB : B ≤ 11880) (h : dJ n B s) : p + (pPain e r s 0 (nI m)).toInt64 + (pPain e r s 1 (nI m)).toInt64 = p + pPn e r s m := by
  obtain ⟨a, ha, ea⟩ := pain_nat (e := e) (r := r) (m := nI m) (h.1 0 (by decide))
  obtain ⟨b, hb, eb⟩ := pain_nat (e := e) (r := r) (m := nI m) (h.1 1 (by decide))
  unfold pPn
  rw [ea, eb, nI_add, nI_l (by omega), nI_l (by omega), nI_l (by omega), Int64.add_assoc, lN_add]
theorem lp_leads {X : pmX} {d : Nat} {P : Option Value → pmT → pmV → Prop} {LT : pmT} {e : pmV} {n tx z m B : Nat} {g : Nat → Int32} {p : Int64} {b : Int32} {w4 : Value} (hC : Cpl n tx z LT e) (hB : B < 2 ^ 30) : ∀ (k : Nat) (i : Nat) (s : dT) (v : pmV), i + k = n → DM e n g s p v → wOk n s → (∀ j, j < 2 → nB (s 9 j) B) → s 8 1 = g 0 → (∀ v', DM e n g (pCarry e (nI m) k i s) p v' → EvP X (d + 3) MX12_goMinute 64 [.ref 100, .int (nI m), .int b, .int (nI n), w4] [] (pmT0 ++ LT) v' P) → EvP X (d + 3) MX12_goMinute 44 [.ref 100, .int (nI m), .int b, .int (nI i), w4] [] (pmT0 ++ LT) v P := by
  intro k
  induction k with
  | zero =>
    intro i s v hi hD hW h9 hsh K
    have hi2 : n = i := by omega
    subst hi2
    have hn8 := hC.2.1.1
    refine ev_iload_n 44 dX12_goMinute_44 rfl ?_
    refine ev_aload_n 45 dX12_goMinute_45 rfl (by decide) ?_
    refine gf_12_1 (x := nI n) (pc := 46) rfl dX12_goMinute_46 kd_100 ((hD.c (by unfold DcA DcX; omega)).trans hC.2.1.2.2.2.1) ?_
    refine ev_ic_geN (a := n) (b := n) 49 64 dX12_goMinute_49 rfl (by omega) (by omega) (fun c_49 => ?_) (fun c_49 => by omega)
    exact K v hD
  | succ k ih =>
    intro i s v hi hD hW h9 hsh K
    have hn8 := hC.2.1.1
    refine ev_iload_n 44 dX12_goMinute_44 rfl ?_
    refine ev_aload_n 45 dX12_goMinute_45 rfl (by decide) ?_
    refine gf_12_1 (x := nI n) (pc := 46) rfl dX12_goMinute_46 kd_100 ((hD.c (by unfold DcA DcX; omega)).trans hC.2.1.2.2.2.1) ?_
    refine ev_ic_geN (a := i) (b := n) 49 64 dX12_goMinute_49 rfl (by omega) (by omega) (fun c_49 => by omega) (fun c_49 => ?_)
    refine ev_aload_n 52 dX12_goMinute_52 rfl (by decide) ?_
    refine ev_iload_n 53 dX12_goMinute_53 rfl ?_
    refine ev_iload_n 54 dX12_goMinute_54 rfl ?_
    refine cv_12_302_12 (pc := 55) rfl dX12_goMinute_55 kd_100 (Nat.le_of_ble_eq_true rfl) ?_
    refine c_X12_leads (i := i) (m := m) hC hD (by omega) hW hB h9 hsh (fun v1 hD => ?_)
    refine ev_iinc (y := nI (i + 1)) (ls' := [.ref 100, .int (nI m), .int b, .int (nI (i + 1)), w4]) 58 dX12_goMinute_58 rfl (nI_add i 1) rfl ?_
    refine ev_goto 61 44 dX12_goMinute_61 rfl ?_
    exact ih (i + 1) _ _ (by omega) hD (hW.cg fun _ => pLead_q (by decide) (by decide) (by decide) (by decide)) (fun j hj => by rw [pLead_q (by decide) (by decide) (by decide) (by decide)]; exact h9 j hj) ((pLead_q (by decide) (by decide) (by decide) (by decide)).trans hsh) K

theorem cb_pain {X : pmX} {d : Nat} {v : pmV} {P : Option Value → pmT → pmV → Prop} {LT : pmT} {w4 : Value} {e : pmV} {n tx z : Nat} {g : Nat → Int32} {s : dT} {p : Int64} {w : Nat} {x y1 y2 : Int32} {B : Nat} (hC : Cpl n tx z LT e) (hD : DM e n g s p v) (hw : w < 2) (hW : dW s w B) (hB : B ≤ 11880) (k : ∀ v' z4, DM e n g s (p + (wiI x 0 99 * s 0 w).toInt64) v' → EvP X (d + 3) MX12_goMinute 143 [.ref 100, .int y1, .int y2, .int (nI w), z4] [] (pmT0 ++ LT) v' P) : EvP X (d + 3) MX12_goMinute 100 [.ref 100, .int y1, .int y2, .int (nI w), w4] [.int x] (pmT0 ++ LT) v P := by
  refine ev_istore (ls' := [.ref 100, .int y1, .int y2, .int (nI w), .int x]) 100 dX12_goMinute_100 (Nat.le_of_ble_eq_true rfl) rfl ?_
  refine ev_aload_n 102 dX12_goMinute_102 rfl (by decide) ?_
  refine ev_dup 103 dX12_goMinute_103 rfl ?_
  refine gf_12_173 (x := p) (pc := 104) rfl dX12_goMinute_104 kd_100 hD.rp ?_
  refine ev_iload 107 dX12_goMinute_107 rfl ?_
  refine ev_if_ge 109 116 dX12_goMinute_109 rfl (fun c_109 => ?_) (fun c_109 => ?_)
  · refine ev_iload 116 dX12_goMinute_116 rfl ?_
    refine ev_bipush 118 dX12_goMinute_118 kB_99 ?_
    refine ev_ic_le 120 128 dX12_goMinute_120 rfl (fun c_120 => ?_) (fun c_120 => ?_)
    · refine ev_iload 128 dX12_goMinute_128 rfl ?_
      refine ev_i2l 130 dX12_goMinute_130 ?_
      refine ev_aload_n 131 dX12_goMinute_131 rfl (by decide) ?_
      refine gf_12_134 (pc := 132) rfl dX12_goMinute_132 kd_100 (rf_100_27 hD.1) ?_
      refine ev_iload_n 135 dX12_goMinute_135 rfl ?_
      refine ev_ialdJ (x := s 0 w) (j := w) 136 dX12_goMinute_136 (Nat.le_of_ble_eq_true rfl) ty_113 (pm_inI (by omega) (by omega)) (nI_clamp (by omega)) (hD.r0 (by omega)) ?_
      refine ev_i2l 137 dX12_goMinute_137 ?_
      refine ev_lmul 138 dX12_goMinute_138 ?_
      refine ev_ladd 139 dX12_goMinute_139 ?_
      refine pf_12_173 (pc := 140) rfl dX12_goMinute_140 kd_100 ?_
      refine ev_abs (Q := DM e n g s (p + (x.toInt64 * ((s 0 w).toInt64)))) (hD.up (p + (x.toInt64 * ((s 0 w).toInt64)))) (fun v1 hD => ?_)
      have hc : wiI x 0 99 = x := by unfold wiI mxI mnI; split <;> (try split) <;> grind
      have hp := pain_l hc hW hB
      rw [hp] at hD
      exact k _ _ hD
    · refine ev_bipush 123 dX12_goMinute_123 kB_99 ?_
      refine ev_goto 125 130 dX12_goMinute_125 rfl ?_
      refine ev_i2l 130 dX12_goMinute_130 ?_
      refine ev_aload_n 131 dX12_goMinute_131 rfl (by decide) ?_
      refine gf_12_134 (pc := 132) rfl dX12_goMinute_132 kd_100 (rf_100_27 hD.1) ?_
      refine ev_iload_n 135 dX12_goMinute_135 rfl ?_
      refine ev_ialdJ (x := s 0 w) (j := w) 136 dX12_goMinute_136 (Nat.le_of_ble_eq_true rfl) ty_113 (pm_inI (by omega) (by omega)) (nI_clamp (by omega)) (hD.r0 (by omega)) ?_
      refine ev_i2l 137 dX12_goMinute_137 ?_
      refine ev_lmul 138 dX12_goMinute_138 ?_
      refine ev_ladd 139 dX12_goMinute_139 ?_
      refine pf_12_173 (pc := 140) rfl dX12_goMinute_140 kd_100 ?_
      refine ev_abs (Q := DM e n g s (p + (((99 : Int32).toInt64) * ((s 0 w).toInt64)))) (hD.up (p + (((99 : Int32).toInt64) * ((s 0 w).toInt64)))) (fun v2 hD => ?_)
      have hc : wiI x 0 99 = 99 := by unfold wiI mxI mnI; split <;> (try split) <;> grind
      have hp := pain_l hc hW hB
      rw [hp] at hD
      exact k _ _ hD
  · refine ev_iconst 112 dX12_goMinute_112 kI_0 ?_
    refine ev_goto 113 130 dX12_goMinute_113 rfl ?_
    refine ev_i2l 130 dX12_goMinute_130 ?_
    refine ev_aload_n 131 dX12_goMinute_131 rfl (by decide) ?_
    refine gf_12_134 (pc := 132) rfl dX12_goMinute_132 kd_100 (rf_100_27 hD.1) ?_
    refine ev_iload_n 135 dX12_goMinute_135 rfl ?_
    refine ev_ialdJ (x := s 0 w) (j := w) 136 dX12_goMinute_136 (Nat.le_of_ble_eq_true rfl) ty_113 (pm_inI (by omega) (by omega)) (nI_clamp (by omega)) (hD.r0 (by omega)) ?_
    refine ev_i2l 137 dX12_goMinute_137 ?_
    refine ev_lmul 138 dX12_goMinute_138 ?_
    refine ev_ladd 139 dX12_goMinute_139 ?_
    refine pf_12_173 (pc := 140) rfl dX12_goMinute_140 kd_100 ?_
    refine ev_abs (Q := DM e n g s (p + (((0 : Int32).toInt64) * ((s 0 w).toInt64)))) (hD.up (p + (((0 : Int32).toInt64) * ((s 0 w).toInt64)))) (fun v3 hD => ?_)
    have hc : wiI x 0 99 = 0 := by unfold wiI mxI mnI; split <;> (try split) <;> grind
    have hp := pain_l hc hW hB
    rw [hp] at hD
    exact k _ _ hD

theorem c_X12_goMinute {X : pmX} {d : Nat} {v : pmV} {P : Option Value → pmT → pmV → Prop} {LT : pmT} {e : pmV} {n tx z r : Nat} {g : Nat → Int32} {s : dT} {p : Int64} {b : Int32} {m : Nat} (hC : Cpl n tx z LT e) (hr : r < tx) (hr2 : e.1 100 11 = nI r) (hD : DM e n g s p v) (hm : m < 60) (hJ : dJ n (198 * m) s) (hTB : mTB e g b (s 7) (s 8 0)) (hsh : s 8 1 = g 0) (hG : mGB g s) (k : ∀ v', DM e n g (pMin e n r s m) (p + pPn e r (pMin e n r s m) m) v' → P none (pmT0 ++ LT) v') : EvP X (d + 5) MX12_goMinute 0 [.ref 100, .int (nI m), .int b, pmJ, pmJ] [] (pmT0 ++ LT) v P := by
  have hn8 := hC.2.1.1
  have ht6 := hC.2.2.2.2.2.1.2.1
  refine ev_aload_n 0 dX12_goMinute_0 rfl (by decide) ?_
  refine ev_iload_n 1 dX12_goMinute_1 rfl ?_
  refine cv_12_293_12 (pc := 2) rfl dX12_goMinute_2 kd_100 (Nat.le_of_ble_eq_true rfl) ?_
  refine c_X12_comeAll (m := m) hC hr hr2 hD hJ.2.2.2 hm (fun v1 hD => ?_)
  have hJ1 := hJ.arr hC (r := r) hm (by omega)
  have hs17 : ∀ j, pArr e r (pArr e r s 0 m) 1 m 7 j = s 7 j := fun j => by rw [pArr_q (by decide) (by decide), pArr_q (by decide) (by decide)]
  have hs1q : ∀ j, pArr e r (pArr e r s 0 m) 1 m 8 j = s 8 j := fun j => by rw [pArr_q (by decide) (by decide), pArr_q (by decide) (by decide)]
  have hs18 := hs1q 0
  generalize hs1 : pArr e r (pArr e r s 0 m) 1 m = s1 at hD hJ1 hs17 hs1q hs18
  refine ev_aload_n 5 dX12_goMinute_5 rfl (by decide) ?_
  refine ev_aload_n 6 dX12_goMinute_6 rfl (by decide) ?_
  refine ev_iload_n 7 dX12_goMinute_7 rfl ?_
  refine ev_iload_n 8 dX12_goMinute_8 rfl ?_
  refine cv_12_296_12 (pc := 9) rfl dX12_goMinute_9 kd_100 (Nat.le_of_ble_eq_true rfl) ?_
  refine c_X12_toldLane (m := m) hC hr hr2 hD hJ1.2.2.2 hJ1.2.1 hm (hTB.cg hs17 hs18) (fun v2 hD => ?_)
  refine ev_iload_n 12 dX12_goMinute_12 rfl ?_
  refine cv_12_299_12 (pc := 13) rfl dX12_goMinute_13 kd_100 (Nat.le_of_ble_eq_true rfl) ?_
  refine c_X12_turnsNow2 hC hD hJ1.2.1 hJ1.2.2.1 (fun v3 tb hD => ?_)
  have hJ2 := hJ1.turn hC (l := pTold e n r s1 m) (m := nI m)
  have hs2q : ∀ j, pTurn e n s1 (pTold e n r s1 m) (nI m) 8 j = s 8 j := fun j => (pTurn_q (by decide) (by decide) (by decide) (by decide)).trans (hs1q j)
  generalize hs2 : pTurn e n s1 (pTold e n r s1 m) (nI m) = s2 at hD hJ2 hs2q
  refine ev_pop 16 dX12_goMinute_16 rfl ?_
  refine ev_iconst 17 dX12_goMinute_17 kI_0 ?_
  refine ev_istore_n (ls' := [.ref 100, .int (nI m), .int b, .int 0, pmJ]) 18 dX12_goMinute_18 (Nat.le_of_ble_eq_true rfl) rfl ?_
  refine ev_iload_n 19 dX12_goMinute_19 rfl ?_
  refine ev_iconst 20 dX12_goMinute_20 kI_2 ?_
  refine ev_icF 21 42 dX12_goMinute_21 rfl (by decide) ?_
  refine ev_aload_n 24 dX12_goMinute_24 rfl (by decide) ?_
  refine gf_12_140 (pc := 25) rfl dX12_goMinute_25 kd_100 (rf_100_29 hD.1) ?_
  refine ev_iload_n 28 dX12_goMinute_28 rfl ?_
  refine ev_aload_n 29 dX12_goMinute_29 rfl (by decide) ?_
  refine gf_12_134 (pc := 30) rfl dX12_goMinute_30 kd_100 (rf_100_27 hD.1) ?_
  refine ev_iload_n 33 dX12_goMinute_33 rfl ?_
  refine ev_ialdJ (x := s2 0 0) (j := 0) 34 dX12_goMinute_34 (Nat.le_of_ble_eq_true rfl) ty_113 (by decide) rfl (hD.r0 (by omega)) ?_
  refine ev_iastJ (j := 0) 35 dX12_goMinute_35 (Nat.le_of_ble_eq_true rfl) ty_115 (by decide) rfl ?_
  refine ev_abs (Q := DM e n g (dU s2 9 0 (s2 0 0)) p) (hD.u9 0 (s2 0 0)) (fun v4 hD => ?_)
  refine ev_iinc (y := 1) (ls' := [.ref 100, .int (nI m), .int b, .int 1, pmJ]) 36 dX12_goMinute_36 rfl (by decide) rfl ?_
  refine ev_goto 39 19 dX12_goMinute_39 rfl ?_
  refine ev_iload_n 19 dX12_goMinute_19 rfl ?_
  refine ev_iconst 20 dX12_goMinute_20 kI_2 ?_
  refine ev_icF 21 42 dX12_goMinute_21 rfl (by decide) ?_
  refine ev_aload_n 24 dX12_goMinute_24 rfl (by decide) ?_
  refine gf_12_140 (pc := 25) rfl dX12_goMinute_25 kd_100 (rf_100_29 hD.1) ?_
  refine ev_iload_n 28 dX12_goMinute_28 rfl ?_
  refine ev_aload_n 29 dX12_goMinute_29 rfl (by decide) ?_
  refine gf_12_134 (pc := 30) rfl dX12_goMinute_30 kd_100 (rf_100_27 hD.1) ?_
  refine ev_iload_n 33 dX12_goMinute_33 rfl ?_
  refine ev_ialdJ (x := s2 0 1) (j := 1) 34 dX12_goMinute_34 (Nat.le_of_ble_eq_true rfl) ty_113 (by decide) rfl ((hD.r0 (by omega)).trans (dU_ne (by decide))) ?_
  refine ev_iastJ (j := 1) 35 dX12_goMinute_35 (Nat.le_of_ble_eq_true rfl) ty_115 (by decide) rfl ?_
  refine ev_abs (Q := DM e n g (dU (dU s2 9 0 (s2 0 0)) 9 1 (s2 0 1)) p) (hD.u9 1 (s2 0 1)) (fun v5 hD => ?_)
  refine ev_iinc (y := 2) (ls' := [.ref 100, .int (nI m), .int b, .int 2, pmJ]) 36 dX12_goMinute_36 rfl (by decide) rfl ?_
  refine ev_goto 39 19 dX12_goMinute_39 rfl ?_
  refine ev_iload_n 19 dX12_goMinute_19 rfl ?_
  refine ev_iconst 20 dX12_goMinute_20 kI_2 ?_
  refine ev_icT 21 42 dX12_goMinute_21 rfl (by decide) ?_
  refine ev_iconst 42 dX12_goMinute_42 kI_0 ?_
  refine ev_istore_n (ls' := [.ref 100, .int (nI m), .int b, .int 0, pmJ]) 43 dX12_goMinute_43 (Nat.le_of_ble_eq_true rfl) rfl ?_
  have hJ3 := hJ2.bgn
  refine lp_leads (m := m) (B := 198 * m + 198) hC (by omega) n 0 (pBgn s2) _ (by omega) hD hJ3.1.2.1 hJ3.2 ((pBgn_q (by decide)).trans ((hs2q 1).trans hsh)) (fun vl hD => ?_)
  have hJ4 := dJ.carry hC (m := nI m) (by omega) n 0 _ (by omega) hJ3.1 hJ3.2
  have hs4q : ∀ j, pCarry e (nI m) n 0 (pBgn s2) 8 j = s 8 j := fun j => (pCarry_q (by decide) (by decide) (by decide) (by decide) _ _ _).trans ((pBgn_q (by decide)).trans (hs2q j))
  have hmin : pMin e n r s m = pTake (pCarry e (nI m) n 0 (pBgn s2)) (s 8 2).toNatClampNeg (s 8 3) 0 := by subst hs2; subst hs1; rfl
  generalize hs4 : pCarry e (nI m) n 0 (pBgn s2) = s4 at hD hJ4 hs4q hmin
  rcases hG with ⟨g1, g2, g3⟩ | ⟨w, t, hw, ht, g1, g2, g3, g4⟩
  · have hm2 : pMin e n r s m = s4 := by rw [hmin, g2, g3, nI_0]; exact take_0 (hJ4.1 0 (by decide)) (by omega)
    rw [← hm2] at hD hJ4
    refine ev_aload_n 64 dX12_goMinute_64 rfl (by decide) ?_
    refine gf_12_158 (x := (-1)) (pc := 65) rfl dX12_goMinute_65 kd_100 (hD.g1.trans g1) ?_
    refine ev_ifT 68 86 dX12_goMinute_68 rfl (by decide) ?_
    have hJ5 := hJ4
    refine ev_iconst 86 dX12_goMinute_86 kI_0 ?_
    refine ev_istore_n (ls' := [.ref 100, .int (nI m), .int b, .int 0, pmJ]) 87 dX12_goMinute_87 (Nat.le_of_ble_eq_true rfl) rfl ?_
    refine ev_iload_n 88 dX12_goMinute_88 rfl ?_
    refine ev_iconst 89 dX12_goMinute_89 kI_2 ?_
    refine ev_icF 90 149 dX12_goMinute_90 rfl (by decide) ?_
    refine ev_aload_n 93 dX12_goMinute_93 rfl (by decide) ?_
    refine ev_iconst 94 dX12_goMinute_94 kI_1 ?_
    refine ev_iload_n 95 dX12_goMinute_95 rfl ?_
    refine ev_iload_n 96 dX12_goMinute_96 rfl ?_
    refine cv_12_277_12 (pc := 97) rfl dX12_goMinute_97 kd_100 (Nat.le_of_ble_eq_true rfl) ?_
    refine c_X12_tellsRule (k0 := 1) (w := 0) hC hr hr2 hD (by omega) (by omega) (hJ5.2.2.2 0 (by omega)) (fun v6 hD => ?_)
    refine cb_pain (w := 0) hC hD (by omega) (hJ5.1 0 (by omega)) (by omega) (fun v7 z4 hD => ?_)
    refine ev_iinc (y := 1) (ls' := [.ref 100, .int (nI m), .int b, .int 1, z4]) 143 dX12_goMinute_143 rfl (by decide) rfl ?_
    refine ev_goto 146 88 dX12_goMinute_146 rfl ?_
    refine ev_iload_n 88 dX12_goMinute_88 rfl ?_
    refine ev_iconst 89 dX12_goMinute_89 kI_2 ?_
    refine ev_icF 90 149 dX12_goMinute_90 rfl (by decide) ?_
    refine ev_aload_n 93 dX12_goMinute_93 rfl (by decide) ?_
    refine ev_iconst 94 dX12_goMinute_94 kI_1 ?_
    refine ev_iload_n 95 dX12_goMinute_95 rfl ?_
    refine ev_iload_n 96 dX12_goMinute_96 rfl ?_
    refine cv_12_277_12 (pc := 97) rfl dX12_goMinute_97 kd_100 (Nat.le_of_ble_eq_true rfl) ?_
    refine c_X12_tellsRule (k0 := 1) (w := 1) hC hr hr2 hD (by omega) (by omega) (hJ5.2.2.2 1 (by omega)) (fun v8 hD => ?_)
    refine cb_pain (w := 1) hC hD (by omega) (hJ5.1 1 (by omega)) (by omega) (fun v9 z4 hD => ?_)
    refine ev_iinc (y := 2) (ls' := [.ref 100, .int (nI m), .int b, .int 2, z4]) 143 dX12_goMinute_143 rfl (by decide) rfl ?_
    refine ev_goto 146 88 dX12_goMinute_146 rfl ?_
    refine ev_iload_n 88 dX12_goMinute_88 rfl ?_
    refine ev_iconst 89 dX12_goMinute_89 kI_2 ?_
    refine ev_icT 90 149 dX12_goMinute_90 rfl (by decide) ?_
    refine ev_return 149 dX12_goMinute_149 rfl ?_
    have hp := pain_2 (e := e) (r := r) (p := p) (n := n) (m := m) (s := pMin e n r s m) (show 198 * m + 198 ≤ 11880 by omega) hJ5
    unfold pPain at hp
    rw [hp] at hD
    exact k _ hD
  · refine ev_aload_n 64 dX12_goMinute_64 rfl (by decide) ?_
    refine gf_12_158 (x := nI w) (pc := 65) rfl dX12_goMinute_65 kd_100 (hD.g1.trans g1) ?_
    refine ev_if_lt 68 86 dX12_goMinute_68 rfl (fun c_68 => absurd c_68 (nI_pos (by omega))) (fun c_68 => ?_)
    refine ev_aload_n 71 dX12_goMinute_71 rfl (by decide) ?_
    refine ev_aload_n 72 dX12_goMinute_72 rfl (by decide) ?_
    refine gf_12_158 (x := nI w) (pc := 73) rfl dX12_goMinute_73 kd_100 (hD.g1.trans g1) ?_
    refine ev_iconst 76 dX12_goMinute_76 kI_5 ?_
    refine ev_aload_n 77 dX12_goMinute_77 rfl (by decide) ?_
    refine gf_12_161 (x := nI t) (pc := 78) rfl dX12_goMinute_78 kd_100 (hD.g2.trans g2) ?_
    refine ev_imul 81 dX12_goMinute_81 ?_
    refine ev_cst (y := nI (5 * t)) (nI_mulp 5 t) ?_
    refine ev_iconst 82 dX12_goMinute_82 kI_0 ?_
    refine cv_12_289_12 (pc := 83) rfl dX12_goMinute_83 kd_100 (Nat.le_of_ble_eq_true rfl) ?_
    refine c_X12_take (w := w) hD (by omega) (fun v10 hD => ?_)
    have hm2 : pMin e n r s m = pTake s4 w (nI (5 * t)) 0 := by rw [hmin, g3, g4, nI_clamp (by omega)]
    have hJ5 := hJ4.take (t := 5 * t) hw (by omega) (by omega)
    rw [← hm2] at hD hJ5
    refine ev_iconst 86 dX12_goMinute_86 kI_0 ?_
    refine ev_istore_n (ls' := [.ref 100, .int (nI m), .int b, .int 0, pmJ]) 87 dX12_goMinute_87 (Nat.le_of_ble_eq_true rfl) rfl ?_
    refine ev_iload_n 88 dX12_goMinute_88 rfl ?_
    refine ev_iconst 89 dX12_goMinute_89 kI_2 ?_
    refine ev_icF 90 149 dX12_goMinute_90 rfl (by decide) ?_
    refine ev_aload_n 93 dX12_goMinute_93 rfl (by decide) ?_
    refine ev_iconst 94 dX12_goMinute_94 kI_1 ?_
    refine ev_iload_n 95 dX12_goMinute_95 rfl ?_
    refine ev_iload_n 96 dX12_goMinute_96 rfl ?_
    refine cv_12_277_12 (pc := 97) rfl dX12_goMinute_97 kd_100 (Nat.le_of_ble_eq_true rfl) ?_
    refine c_X12_tellsRule (k0 := 1) (w := 0) hC hr hr2 hD (by omega) (by omega) (hJ5.2.2.2 0 (by omega)) (fun v11 hD => ?_)
    refine cb_pain (w := 0) hC hD (by omega) (hJ5.1 0 (by omega)) (by omega) (fun v12 z4 hD => ?_)
    refine ev_iinc (y := 1) (ls' := [.ref 100, .int (nI m), .int b, .int 1, z4]) 143 dX12_goMinute_143 rfl (by decide) rfl ?_
    refine ev_goto 146 88 dX12_goMinute_146 rfl ?_
    refine ev_iload_n 88 dX12_goMinute_88 rfl ?_
    refine ev_iconst 89 dX12_goMinute_89 kI_2 ?_
    refine ev_icF 90 149 dX12_goMinute_90 rfl (by decide) ?_
    refine ev_aload_n 93 dX12_goMinute_93 rfl (by decide) ?_
    refine ev_iconst 94 dX12_goMinute_94 kI_1 ?_
    refine ev_iload_n 95 dX12_goMinute_95 rfl ?_
    refine ev_iload_n 96 dX12_goMinute_96 rfl ?_
    refine cv_12_277_12 (pc := 97) rfl dX12_goMinute_97 kd_100 (Nat.le_of_ble_eq_true rfl) ?_
    refine c_X12_tellsRule (k0 := 1) (w := 1) hC hr hr2 hD (by omega) (by omega) (hJ5.2.2.2 1 (by omega)) (fun v13 hD => ?_)
    refine cb_pain (w := 1) hC hD (by omega) (hJ5.1 1 (by omega)) (by omega) (fun v14 z4 hD => ?_)
    refine ev_iinc (y := 2) (ls' := [.ref 100, .int (nI m), .int b, .int 2, z4]) 143 dX12_goMinute_143 rfl (by decide) rfl ?_
    refine ev_goto 146 88 dX12_goMinute_146 rfl ?_
    refine ev_iload_n 88 dX12_goMinute_88 rfl ?_
    refine ev_iconst 89 dX12_goMinute_89 kI_2 ?_
    refine ev_icT 90 149 dX12_goMinute_90 rfl (by decide) ?_
    refine ev_return 149 dX12_goMinute_149 rfl ?_
    have hp := pain_2 (e := e) (r := r) (p := p) (n := n) (m := m) (s := pMin e n r s m) (show 198 * m + 198 ≤ 11880 by omega) hJ5
    unfold pPain at hp
    rw [hp] at hD
    exact k _ hD

