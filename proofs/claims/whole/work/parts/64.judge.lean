/-! judge -/
def pJ (e : pmV) (n : Nat) : Nat → Nat → dT → Int32
  | 0, _, _ => -1
  | k + 1, m, s => if s 7 m = -1 then pJ e n k (m + 1) (pCarry e (nI m) n 0 (pBgn (pTurn e n s (s 7 m) (nI m)))) else if pCan e n s (s 7 m) (nI m) = true then pJ e n k (m + 1) (pCarry e (nI m) n 0 (pBgn (pTurn e n s (s 7 m) (nI m)))) else nI m
def qDec (n : Nat) (s : dT) : dT := fun q j => if q = 4 then (if j < n then (if s 4 j ≤ 0 then s 4 j else s 4 j - 1) else s 4 j) else s q j
/-- the reference's own -/
def qJ (e : pmV) (n t : Nat) : Nat → Nat → dT → Int32
  | 0, _, _ => -1
  | k + 1, m, s => if e.1 122 (60 * t + m) = -1 then qJ e n t k (m + 1) (qDec n s) else if pCan e n s (e.1 122 (60 * t + m)) (nI m) = true then qJ e n t k (m + 1) (qDec n (pTurn e n s (e.1 122 (60 * t + m)) (nI m))) else nI m
theorem lp_ff {X : pmX} {d : Nat} {P : Option Value → pmT → pmV → Prop} {LT : pmT} {e : pmV} {n tx z r : Nat} {p : Int64} (hC : Cpl n tx z LT e) : ∀ (k : Nat) (i : Nat) (s : dT) (v : pmV), i + k = 60 → DX e n r s p v → wOk n s → (∀ v', EX e v' → P (some (.int (pJ e n k i s))) (pmT0 ++ LT) v') → EvP X (d + 11) MX1_firstFaultOfPlan 6 [.ref 51, .int (nI i)] [] (pmT0 ++ LT) v P := by
  intro k
  induction k with
  | zero =>
    intro i s v hi hD hW K
    have hi2 : i = 60 := by omega
    subst hi2
    have hn8 := hC.2.1.1
    refine ev_iload_n 6 dX1_firstFaultOfPlan_6 rfl ?_
    refine ev_bipush 7 dX1_firstFaultOfPlan_7 kB_60 ?_
    refine ev_ic_geN (a := 60) (b := 60) 9 60 dX1_firstFaultOfPlan_9 rfl (by omega) (by omega) (fun c_9 => ?_) (fun c_9 => by omega)
    refine ev_iconst 60 dX1_firstFaultOfPlan_60 kI_m1 ?_
    refine ev_ireturn 61 dX1_firstFaultOfPlan_61 rfl rfl ?_
    exact K v ⟨hD.1, hD.fd, hD.rf⟩
  | succ k ih =>
    intro i s v hi hD hW K
    have hn8 := hC.2.1.1
    have hW2 : ∀ s : dT, wOk n s → wOk n (pCarry e (nI i) n 0 (pBgn (pTurn e n s (s 7 i) (nI i)))) := fun s h => (h.turn hn8).cg fun _ => by rw [pCarry_q (by decide) (by decide) (by decide) (by decide), pBgn_q (by decide)]
    refine ev_iload_n 6 dX1_firstFaultOfPlan_6 rfl ?_
    refine ev_bipush 7 dX1_firstFaultOfPlan_7 kB_60 ?_
    refine ev_ic_geN (a := i) (b := 60) 9 60 dX1_firstFaultOfPlan_9 rfl (by omega) (by omega) (fun c_9 => by omega) (fun c_9 => ?_)
    refine ev_aload_n 12 dX1_firstFaultOfPlan_12 rfl (by decide) ?_
    refine gf_1_31 (pc := 13) rfl dX1_firstFaultOfPlan_13 kd_51 (rf_51_4 hD.1) ?_
    refine ev_iload_n 16 dX1_firstFaultOfPlan_16 rfl ?_
    refine ev_ialdJ (x := s 7 i) (j := i) 17 dX1_firstFaultOfPlan_17 (Nat.le_of_ble_eq_true rfl) ty_60 (pm_inI (by omega) (by omega)) (nI_clamp (by omega)) (hD.r7 (by omega)) ?_
    refine ev_iconst 18 dX1_firstFaultOfPlan_18 kI_m1 ?_
    refine ev_ic_eq 19 38 dX1_firstFaultOfPlan_19 rfl (fun c_19 => ?_) (fun c_19 => ?_)
    · refine ev_aload_n 38 dX1_firstFaultOfPlan_38 rfl (by decide) ?_
      refine ev_aload_n 39 dX1_firstFaultOfPlan_39 rfl (by decide) ?_
      refine gf_1_31 (pc := 40) rfl dX1_firstFaultOfPlan_40 kd_51 (rf_51_4 hD.1) ?_
      refine ev_iload_n 43 dX1_firstFaultOfPlan_43 rfl ?_
      refine ev_ialdJ (x := s 7 i) (j := i) 44 dX1_firstFaultOfPlan_44 (Nat.le_of_ble_eq_true rfl) ty_60 (pm_inI (by omega) (by omega)) (nI_clamp (by omega)) (hD.r7 (by omega)) ?_
      refine ev_iload_n 45 dX1_firstFaultOfPlan_45 rfl ?_
      refine cv_1_108_1 (pc := 46) rfl dX1_firstFaultOfPlan_46 kd_51 (Nat.le_of_ble_eq_true rfl) ?_
      refine c_X1_turn hC hD hW (fun v1 hD => ?_)
      refine ev_aload_n 49 dX1_firstFaultOfPlan_49 rfl (by decide) ?_
      refine ev_iload_n 50 dX1_firstFaultOfPlan_50 rfl ?_
      refine cv_1_111_1 (pc := 51) rfl dX1_firstFaultOfPlan_51 kd_51 (Nat.le_of_ble_eq_true rfl) ?_
      refine c_X1_carryAll (m := i) hC hD (hW.turn hn8) (fun v2 hD => ?_)
      refine ev_iinc (y := nI (i + 1)) (ls' := [.ref 51, .int (nI (i + 1))]) 54 dX1_firstFaultOfPlan_54 rfl (nI_add i 1) rfl ?_
      refine ev_goto 57 6 dX1_firstFaultOfPlan_57 rfl ?_
      refine ih (i + 1) _ _ (by omega) hD (hW2 _ hW) (fun v2 h2 => K v2 h2 |> fun z => by rw [pJ, if_pos c_19] at z; exact z)
    · refine ev_aload_n 22 dX1_firstFaultOfPlan_22 rfl (by decide) ?_
      refine ev_aload_n 23 dX1_firstFaultOfPlan_23 rfl (by decide) ?_
      refine gf_1_31 (pc := 24) rfl dX1_firstFaultOfPlan_24 kd_51 (rf_51_4 hD.1) ?_
      refine ev_iload_n 27 dX1_firstFaultOfPlan_27 rfl ?_
      refine ev_ialdJ (x := s 7 i) (j := i) 28 dX1_firstFaultOfPlan_28 (Nat.le_of_ble_eq_true rfl) ty_60 (pm_inI (by omega) (by omega)) (nI_clamp (by omega)) (hD.r7 (by omega)) ?_
      refine ev_iload_n 29 dX1_firstFaultOfPlan_29 rfl ?_
      refine cv_1_122_1 (pc := 30) rfl dX1_firstFaultOfPlan_30 kd_51 (Nat.le_of_ble_eq_true rfl) ?_
      refine c_X1_canTurn hC hD (fun h_30 => ?_) (fun h_30 => ?_)
      · refine ev_ifT 33 38 dX1_firstFaultOfPlan_33 rfl (by decide) ?_
        refine ev_aload_n 38 dX1_firstFaultOfPlan_38 rfl (by decide) ?_
        refine ev_aload_n 39 dX1_firstFaultOfPlan_39 rfl (by decide) ?_
        refine gf_1_31 (pc := 40) rfl dX1_firstFaultOfPlan_40 kd_51 (rf_51_4 hD.1) ?_
        refine ev_iload_n 43 dX1_firstFaultOfPlan_43 rfl ?_
        refine ev_ialdJ (x := s 7 i) (j := i) 44 dX1_firstFaultOfPlan_44 (Nat.le_of_ble_eq_true rfl) ty_60 (pm_inI (by omega) (by omega)) (nI_clamp (by omega)) (hD.r7 (by omega)) ?_
        refine ev_iload_n 45 dX1_firstFaultOfPlan_45 rfl ?_
        refine cv_1_108_1 (pc := 46) rfl dX1_firstFaultOfPlan_46 kd_51 (Nat.le_of_ble_eq_true rfl) ?_
        refine c_X1_turn hC hD hW (fun v3 hD => ?_)
        refine ev_aload_n 49 dX1_firstFaultOfPlan_49 rfl (by decide) ?_
        refine ev_iload_n 50 dX1_firstFaultOfPlan_50 rfl ?_
        refine cv_1_111_1 (pc := 51) rfl dX1_firstFaultOfPlan_51 kd_51 (Nat.le_of_ble_eq_true rfl) ?_
        refine c_X1_carryAll (m := i) hC hD (hW.turn hn8) (fun v4 hD => ?_)
        refine ev_iinc (y := nI (i + 1)) (ls' := [.ref 51, .int (nI (i + 1))]) 54 dX1_firstFaultOfPlan_54 rfl (nI_add i 1) rfl ?_
        refine ev_goto 57 6 dX1_firstFaultOfPlan_57 rfl ?_
        refine ih (i + 1) _ _ (by omega) hD (hW2 _ hW) (fun v2 h2 => K v2 h2 |> fun z => by rw [pJ, if_neg c_19, if_pos h_30] at z; exact z)
      · refine ev_ifF 33 38 dX1_firstFaultOfPlan_33 rfl (by decide) ?_
        refine ev_iload_n 36 dX1_firstFaultOfPlan_36 rfl ?_
        refine ev_ireturn 37 dX1_firstFaultOfPlan_37 rfl rfl ?_
        exact K v ⟨hD.1, hD.fd, hD.rf⟩ |> fun z => by rw [pJ, if_neg c_19, if_neg h_30] at z; exact z

theorem c_X1_firstFault {X : pmX} {d : Nat} {v : pmV} {P : Option Value → pmT → pmV → Prop} {LT : pmT} {e : pmV} {n tx z r : Nat} {s : dT} {p : Int64} (hC : Cpl n tx z LT e) (hD : DX e n r s p v) (k : ∀ v', EX e v' → P (some (.int (pJ e n 60 0 (pBeg e n s)))) (pmT0 ++ LT) v') : EvP X (d + 11) MX1_firstFaultOfPlan 0 [.ref 51, pmJ] [] (pmT0 ++ LT) v P := by
  refine ev_aload_n 0 dX1_firstFaultOfPlan_0 rfl (by decide) ?_
  refine cv_1_94_1 (pc := 1) rfl dX1_firstFaultOfPlan_1 kd_51 (Nat.le_of_ble_eq_true rfl) ?_
  refine c_X1_begin hC hD (fun v1 hD => ?_)
  refine ev_iconst 4 dX1_firstFaultOfPlan_4 kI_0 ?_
  refine ev_istore_n (ls' := [.ref 51, .int 0]) 5 dX1_firstFaultOfPlan_5 (Nat.le_of_ble_eq_true rfl) rfl ?_
  exact lp_ff hC 60 0 (pBeg e n s) _ rfl hD (fun i hi => way_of hC.2.1 hi) k

theorem c_X11_judge_1 {X : pmX} {d : Nat} {v : pmV} {P : Option Value → pmT → pmV → Prop} {LT : pmT} {a : Int32} (hX : pmRf v) (h1 : ¬ (0 ≤ a ∧ a ≤ 3)) (k : P (some (.int (-2))) (pmT0 ++ LT) v) : EvP X (d + 3) MX11_judge 0 [.ref 32, .int a, pmJ] [] (pmT0 ++ LT) v P := by
  refine ev_aload_n 0 dX11_judge_0 rfl (by decide) ?_
  refine ev_iload_n 1 dX11_judge_1 rfl ?_
  refine cv_11_100_11 (pc := 2) rfl dX11_judge_2 kd_32 (Nat.le_of_ble_eq_true rfl) ?_
  refine c_X11_sheetOf hX (fun t ht hq => absurd (show 0 ≤ a ∧ a ≤ 3 from hq ▸ ⟨nI_pos' (by omega), nI_le (a := t) (b := 3) (by omega) (by omega)⟩) h1) (fun _ => ?_)
  refine ev_astore_nN (ls' := [.ref 32, .int a, .null]) 5 dX11_judge_5 (Nat.le_of_ble_eq_true rfl) rfl ?_
  refine ev_aload_nN 6 dX11_judge_6 rfl ?_
  refine ev_ifnonnullN 7 dX11_judge_7 ?_
  refine ev_bipush 10 dX11_judge_10 kB_m2 ?_
  refine ev_ireturn 12 dX11_judge_12 rfl rfl ?_
  exact k

theorem c_X11_judge_2 {X : pmX} {d : Nat} {v : pmV} {P : Option Value → pmT → pmV → Prop} {LT : pmT} {t : Nat} (hX : pmRf v) (ht : t < 4) (h2 : v.1 (92 + 2 * t) 0 = -1) (k : P (some (.int (-11))) (pmT0 ++ LT) v) : EvP X (d + 3) MX11_judge 0 [.ref 32, .int (nI t), pmJ] [] (pmT0 ++ LT) v P := by
  refine ev_aload_n 0 dX11_judge_0 rfl (by decide) ?_
  refine ev_iload_n 1 dX11_judge_1 rfl ?_
  refine cv_11_100_11 (pc := 2) rfl dX11_judge_2 kd_32 (Nat.le_of_ble_eq_true rfl) ?_
  refine c_X11_sheetOf hX (fun u hu hq => ?_) (fun hq => absurd ⟨nI_pos' (by omega), nI_le (a := t) (b := 3) (by omega) (by omega)⟩ hq)
  obtain rfl : t = u := (nI_eq (by omega) (by omega)).mp hq
  refine ev_astore_n (ls' := [.ref 32, .int (nI t), .ref (92 + 2 * t)]) 5 dX11_judge_5 (Nat.le_of_ble_eq_true rfl) (by omega) rfl ?_
  refine ev_aload_n 6 dX11_judge_6 rfl (by omega) ?_
  refine ev_ifnonnull 7 13 dX11_judge_7 (by omega) rfl ?_
  refine ev_aload_n 13 dX11_judge_13 rfl (by omega) ?_
  refine cv_11_104_6 (pc := 14) rfl dX11_judge_14 (kd_sheet (by omega)) (Nat.le_of_ble_eq_true rfl) ?_
  refine c_X6_isMissing ht (fun _ => ?_) (fun h_m => absurd h2 h_m)
  refine ev_ifF 17 23 dX11_judge_17 rfl (by decide) ?_
  refine ev_bipush 20 dX11_judge_20 kB_m11 ?_
  refine ev_ireturn 22 dX11_judge_22 rfl rfl ?_
  exact k

theorem c_X11_judge_ok {X : pmX} {d : Nat} {v : pmV} {P : Option Value → pmT → pmV → Prop} {LT : pmT} {n tx z r t : Nat} (hC : Cpl n tx z LT v) (hr : r < tx) (hr1 : v.1 34 6 = nI r) (ht : t < 4) (h2 : ¬ v.1 (92 + 2 * t) 0 = -1) (k : ∀ v', EX v v' → P (some (.int (pJ v n 60 0 (pBeg v n (sGf (plS v t) oN))))) (pmT0 ++ LT) v') : EvP X (d + 12) MX11_judge 0 [.ref 32, .int (nI t), pmJ] [] (pmT0 ++ LT) v P := by
  refine ev_aload_n 0 dX11_judge_0 rfl (by decide) ?_
  refine ev_iload_n 1 dX11_judge_1 rfl ?_
  refine cv_11_100_11 (pc := 2) rfl dX11_judge_2 kd_32 (Nat.le_of_ble_eq_true rfl) ?_
  refine c_X11_sheetOf hC.1 (fun u hu hq => ?_) (fun hq => absurd ⟨nI_pos' (by omega), nI_le (a := t) (b := 3) (by omega) (by omega)⟩ hq)
  obtain rfl : t = u := (nI_eq (by omega) (by omega)).mp hq
  refine ev_astore_n (ls' := [.ref 32, .int (nI t), .ref (92 + 2 * t)]) 5 dX11_judge_5 (Nat.le_of_ble_eq_true rfl) (by omega) rfl ?_
  refine ev_aload_n 6 dX11_judge_6 rfl (by omega) ?_
  refine ev_ifnonnull 7 13 dX11_judge_7 (by omega) rfl ?_
  refine ev_aload_n 13 dX11_judge_13 rfl (by omega) ?_
  refine cv_11_104_6 (pc := 14) rfl dX11_judge_14 (kd_sheet (by omega)) (Nat.le_of_ble_eq_true rfl) ?_
  refine c_X6_isMissing ht (fun h_m => absurd h_m h2) (fun _ => ?_)
  refine ev_ifT 17 23 dX11_judge_17 rfl (by decide) ?_
  refine ev_aload_n 23 dX11_judge_23 rfl (by decide) ?_
  refine cv_11_182_11 (pc := 24) rfl dX11_judge_24 kd_32 (Nat.le_of_ble_eq_true rfl) ?_
  refine c_X11_readyCourse hC hr hr1 hC.1 dFr.rfl rfl (fun v1 s0 p0 h7 h8 hD => ?_)
  refine ev_aload_n 27 dX11_judge_27 rfl (by decide) ?_
  refine gf_11_47 (pc := 28) rfl dX11_judge_28 kd_32 (rf_32_9 hD.1) ?_
  refine ev_aload_n 31 dX11_judge_31 rfl (by omega) ?_
  refine cv_11_220_1 (pc := 32) rfl dX11_judge_32 kd_51 (Nat.le_of_ble_eq_true rfl) ?_
  refine c_X1_tellPlan hC ht hD (fun v2 hD => ?_)
  refine ev_aload_n 35 dX11_judge_35 rfl (by decide) ?_
  refine gf_11_47 (pc := 36) rfl dX11_judge_36 kd_32 (rf_32_9 hD.1) ?_
  refine cv_11_224_1 (pc := 39) rfl dX11_judge_39 kd_51 (Nat.le_of_ble_eq_true rfl) ?_
  refine c_X1_firstFault hC hD (fun v5 hE => ?_)
  refine ev_ireturn 42 dX11_judge_42 rfl rfl ?_
  rw [pBeg_s (pl := plS v t) (o := oN) (by funext j; show (if j < 60 then pT v t j else s0 7 j) = _; rw [h7]; rfl) (by show s0 8 = oN; exact h8)]
  exact k _ hE

theorem take_z {s : dT} {u t : Nat} {x : Int32} (h : dW s u 0) (ht : t < 2 ^ 30) (hx : x = 0 ∨ x = 1) : pTake s u (nI t) x = s := by
  obtain ⟨a, b, h1, h2, h3, h4⟩ := h
  obtain ⟨q, o, l1, l2, l3, l4, l5, e⟩ := take_nat (t := t) h1 h2 h3 (by omega) ht hx
  have hq : q = 0 := by omega
  subst hq
  rw [nI_0] at e
  rw [e]
  have e5 : s 5 1 + 0 = s 5 1 := by grind
  rw [e5]
  funext i j
  by_cases c5 : i = 5 ∧ j = 1
  · obtain ⟨rfl, rfl⟩ := c5; rw [dU_on]
  rw [dU_off c5]
  by_cases c1 : i = 1 ∧ j = u
  · obtain ⟨rfl, rfl⟩ := c1; rw [dU_on, h2, show b - (0 - o) = b by omega]
  rw [dU_off c1]
  by_cases c0 : i = 0 ∧ j = u
  · obtain ⟨rfl, rfl⟩ := c0; rw [dU_on, h1]; rfl
  rw [dU_off c0]
theorem lead_z {e : pmV} {n tx z i : Nat} {LT : pmT} (hC : Cpl n tx z LT e) {s : dT} {m : Int32} (hi : i < n) (hJ : dJ n 0 s) (h9 : ∀ j, j < 2 → nB (s 9 j) 0) : pLead e s i m = if s 4 i ≤ 0 then s else dU s 4 i (s 4 i - 1) := by
  obtain ⟨u, hu, hsu⟩ := hJ.2.1 i hi
  unfold pLead
  split
  · split
    · rfl
    · split
      · rfl
      · have hb : ∃ a, a ≤ 0 ∧ (if s 3 i = 0 then s 9 0 else s 9 1) = nI a := by
          split
          · exact h9 0 (by omega)
          · exact h9 1 (by omega)
        obtain ⟨a, ha, ea⟩ := hb
        obtain ⟨t, ht, et⟩ := car_of hC.2.1 hi (a := a) (by omega)
        rw [ea, et, (w01 hsu hu).1]
        exact take_z (hJ.1 u hu) (by omega) (pBs01 e i)
  · rfl
theorem carry_z {e : pmV} {n tx z : Nat} {LT : pmT} (hC : Cpl n tx z LT e) {m : Int32} : ∀ (k i : Nat) (s : dT), i + k = n → dJ n 0 s → (∀ j, j < 2 → nB (s 9 j) 0) → ∀ q j, pCarry e m k i s q j = if q = 4 ∧ i ≤ j ∧ j < n then (if s 4 j ≤ 0 then s 4 j else s 4 j - 1) else s q j
  | 0, i, s, hi, _, _, q, j => by rw [if_neg (by omega)]; rfl
  | k + 1, i, s, hi, hJ, h9, q, j => by
    have h1 := hJ.lead hC (m := m) (i := i) (by omega) (by omega) h9
    rw [pCarry, carry_z hC k (i + 1) _ (by omega) h1 (fun j hj => by rw [pLead_q (by decide) (by decide) (by decide) (by decide)]; exact h9 j hj), lead_z hC (by omega) hJ h9]
    by_cases hq : q = 4
    · subst hq
      by_cases hj : j = i
      · subst hj
        rw [if_neg (c := 4 = 4 ∧ j + 1 ≤ j ∧ j < n) (by omega), if_pos (c := 4 = 4 ∧ j ≤ j ∧ j < n) ⟨rfl, by omega, by omega⟩]
        by_cases c : s 4 j ≤ 0
        · rw [if_pos c, if_pos c]
        · rw [if_neg c, if_neg c, dU_on]
      · have e4 : (if s 4 i ≤ 0 then s else dU s 4 i (s 4 i - 1)) 4 j = s 4 j := by
          split
          · rfl
          · exact dU_off (fun z => hj z.2)
        rw [e4]
        by_cases c : i ≤ j ∧ j < n
        · rw [if_pos (c := 4 = 4 ∧ i + 1 ≤ j ∧ j < n) ⟨rfl, by omega, c.2⟩, if_pos (c := 4 = 4 ∧ i ≤ j ∧ j < n) ⟨rfl, c⟩]
        · rw [if_neg (c := 4 = 4 ∧ i + 1 ≤ j ∧ j < n) (by omega), if_neg (c := 4 = 4 ∧ i ≤ j ∧ j < n) (by omega)]
    · rw [if_neg (c := q = 4 ∧ i + 1 ≤ j ∧ j < n) (fun z => hq z.1), if_neg (c := q = 4 ∧ i ≤ j ∧ j < n) (fun z => hq z.1)]
      by_cases c : s 4 i ≤ 0
      · rw [if_pos c]
      · rw [if_neg c]; exact dU_ne hq
/-- what counts where nobody comes: ways and rests -/
def Jr (n : Nat) (s s' : dT) : Prop := ∀ i, i < n → s 3 i = s' 3 i ∧ s 4 i = s' 4 i
theorem Jr.can {e : pmV} {n : Nat} {s s' : dT} (h : Jr n s s') (hn : n ≤ 8) (l m : Int32) : pCan e n s l m = pCan e n s' l m := by
  by_cases hl : 0 ≤ l ∧ l ≤ nI n - 1
  · obtain ⟨i, hi, rfl⟩ := lane_ix hn hl
    rw [pCan_nI hn hi, pCan_nI hn hi, (h i hi).2]
  · rw [Bool.eq_false_iff.mpr (pCan_no hl), Bool.eq_false_iff.mpr (pCan_no hl)]
theorem turnI_3 {e : pmV} {s : dT} {i j : Nat} : pTurnI e s i 3 j = if j = i then 1 - s 3 i else s 3 j := by
  unfold pTurnI
  rw [dU_ne (by decide), dU_ne (by decide), dU_ne (by decide)]
  by_cases q : j = i
  · subst q; rw [dU_on, if_pos rfl]
  · rw [dU_off (fun z => q z.2), if_neg q, dU_ne (by decide)]
theorem turnI_4 {e : pmV} {s : dT} {i j : Nat} : pTurnI e s i 4 j = if j = i then pRes e i (e.1 34 2) else s 4 j := by
  unfold pTurnI
  rw [dU_ne (by decide)]
  by_cases q : j = i
  · subst q; rw [dU_on, if_pos rfl]
  · rw [dU_off (fun z => q z.2), if_neg q, dU_ne (by decide), dU_ne (by decide), dU_ne (by decide)]
theorem Jr.turn {e : pmV} {n : Nat} {s s' : dT} (h : Jr n s s') (hn : n ≤ 8) (l m : Int32) : Jr n (pTurn e n s l m) (pTurn e n s' l m) := by
  unfold pTurn
  rw [h.can hn]
  split
  · rename_i hc
    obtain ⟨i, hi, rfl, _, _⟩ := pCan_ix hn hc
    rw [nI_clamp (by omega)]
    intro j hj
    rw [turnI_3, turnI_3, turnI_4, turnI_4, (h i hi).1, (h j hj).1, (h j hj).2]
    exact ⟨rfl, rfl⟩
  · exact h
theorem pJ_none {e : pmV} {n : Nat} : ∀ (k m : Nat) (s : dT), (∀ j, m ≤ j → j < m + k → s 7 j = -1) → pJ e n k m s = -1
  | 0, _, _, _ => rfl
  | k + 1, m, s, h => by
    rw [pJ, if_pos (h m (by omega) (by omega))]
    refine pJ_none k (m + 1) _ (fun j h1 h2 => ?_)
    rw [pCarry_q (by decide) (by decide) (by decide) (by decide), pBgn_q (by decide), pTurn_q (by decide) (by decide) (by decide) (by decide)]
    exact h j (by omega) (by omega)
theorem judge_eq {e : pmV} {n tx z t q : Nat} {LT : pmT} (hC : Cpl n tx z LT e) (hq : q ≤ 60) : ∀ (k m : Nat) (s s' : dT), m + k = q → Jr n s s' → dJ n 0 s → (∀ j, s 7 j = if j < q then e.1 122 (60 * t + j) else -1) → pJ e n (60 - m) m s = qJ e n t k m s'
  | 0, m, s, s', hm, _, _, h7 => pJ_none _ _ _ fun j h1 _ => by rw [h7, if_neg (by omega)]
  | k + 1, m, s, s', hm, hJr, hJ, h7 => by
    have hn := hC.2.1.1
    have h7m : s 7 m = e.1 122 (60 * t + m) := by rw [h7, if_pos (by omega)]
    have hb := (hJ.turn hC (l := s 7 m) (m := nI m)).bgn
    have hstep : ∀ s'' : dT, Jr n (pTurn e n s (s 7 m) (nI m)) s'' → pJ e n (60 - (m + 1)) (m + 1) (pCarry e (nI m) n 0 (pBgn (pTurn e n s (s 7 m) (nI m)))) = qJ e n t k (m + 1) (qDec n s'') := fun s'' hr => by
      refine judge_eq hC hq k (m + 1) _ _ (by omega) (fun i hi => ?_) (dJ.carry hC (by omega) n 0 _ (by omega) hb.1 hb.2) (fun j => ?_)
      · rw [carry_z hC n 0 _ (by omega) hb.1 hb.2, carry_z hC n 0 _ (by omega) hb.1 hb.2, if_neg (by omega), if_pos ⟨rfl, by omega, hi⟩, pBgn_q (by decide), pBgn_q (by decide), (hr i hi).1, (hr i hi).2]
        refine ⟨rfl, ?_⟩
        unfold qDec
        rw [if_pos rfl, if_pos hi]
      · rw [pCarry_q (by decide) (by decide) (by decide) (by decide), pBgn_q (by decide), pTurn_q (by decide) (by decide) (by decide) (by decide)]; exact h7 j
    rw [show 60 - m = (60 - (m + 1)) + 1 by omega, pJ, qJ]
    by_cases c : s 7 m = -1
    · rw [if_pos c, if_pos (h7m ▸ c)]
      refine hstep s' ?_
      have hno : pTurn e n s (s 7 m) (nI m) = s := by unfold pTurn; rw [if_neg (pCan_no (by rw [c]; exact fun z => absurd z.1 (by decide)))]
      rw [hno]; exact hJr
    · rw [if_neg c, if_neg (c := e.1 122 (60 * t + m) = -1) (h7m ▸ c), ← h7m, hJr.can hn]
      split
      · exact hstep _ (hJr.turn hn _ _)
      · rfl
def qD (n i : Nat) (s : dT) : dT := fun q j => if q = 4 then (if j < i then (if s 4 j ≤ 0 then s 4 j else s 4 j - 1) else s 4 j) else s q j
theorem qD_n {n : Nat} {s : dT} : qD n n s = qDec n s := rfl
theorem lp_jd {X : pmX} {d : Nat} {P : Option Value → pmT → pmV → Prop} {LT : pmT} {e : pmV} {n tx z : Nat} {g : Nat → Int32} {s : dT} {p : Int64} {y1 y2 y3 : Int32} (hC : Cpl n tx z LT e) : ∀ (k : Nat) (i : Nat) (v : pmV), i + k = n → DM e n g (qD n i s) p v → (∀ v', DM e n g (qDec n s) p v' → EvP X (d + 3) MX12_judge 112 [.ref 100, .int y1, .int y2, .int y3, .int (nI n)] [] (pmT0 ++ LT) v' P) → EvP X (d + 3) MX12_judge 72 [.ref 100, .int y1, .int y2, .int y3, .int (nI i)] [] (pmT0 ++ LT) v P := by
  intro k
  induction k with
  | zero =>
    intro i v hi hD K
    have hi2 : n = i := by omega
    subst hi2
    have hn8 := hC.2.1.1
    refine ev_iload 72 dX12_judge_72 rfl ?_
    refine ev_aload_n 74 dX12_judge_74 rfl (by decide) ?_
    refine gf_12_1 (x := nI n) (pc := 75) rfl dX12_judge_75 kd_100 ((hD.c (by unfold DcA DcX; omega)).trans hC.2.1.2.2.2.1) ?_
    refine ev_ic_geN (a := n) (b := n) 78 112 dX12_judge_78 rfl (by omega) (by omega) (fun c_78 => ?_) (fun c_78 => by omega)
    exact K v hD
  | succ k ih =>
    intro i v hi hD K
    have hn8 := hC.2.1.1
    refine ev_iload 72 dX12_judge_72 rfl ?_
    refine ev_aload_n 74 dX12_judge_74 rfl (by decide) ?_
    refine gf_12_1 (x := nI n) (pc := 75) rfl dX12_judge_75 kd_100 ((hD.c (by unfold DcA DcX; omega)).trans hC.2.1.2.2.2.1) ?_
    refine ev_ic_geN (a := i) (b := n) 78 112 dX12_judge_78 rfl (by omega) (by omega) (fun c_78 => by omega) (fun c_78 => ?_)
    refine ev_aload_n 81 dX12_judge_81 rfl (by decide) ?_
    refine gf_12_146 (pc := 82) rfl dX12_judge_82 kd_100 (rf_100_31 hD.1) ?_
    refine ev_iload 85 dX12_judge_85 rfl ?_
    refine ev_dup2 87 dX12_judge_87 rfl rfl ?_
    refine ev_ialdJ (x := (qD n i s) 4 i) (j := i) 88 dX12_judge_88 (Nat.le_of_ble_eq_true rfl) ty_117 (pm_inI (by omega) (by omega)) (nI_clamp (by omega)) (hD.r4 (by omega)) ?_
    refine ev_aload_n 89 dX12_judge_89 rfl (by decide) ?_
    refine gf_12_146 (pc := 90) rfl dX12_judge_90 kd_100 (rf_100_31 hD.1) ?_
    refine ev_iload 93 dX12_judge_93 rfl ?_
    refine ev_ialdJ (x := (qD n i s) 4 i) (j := i) 95 dX12_judge_95 (Nat.le_of_ble_eq_true rfl) ty_117 (pm_inI (by omega) (by omega)) (nI_clamp (by omega)) (hD.r4 (by omega)) ?_
    refine ev_if_le 96 103 dX12_judge_96 rfl (fun c_96 => ?_) (fun c_96 => ?_)
    · refine ev_iconst 103 dX12_judge_103 kI_0 ?_
      refine ev_isub 104 dX12_judge_104 ?_
      refine ev_iastJ (j := i) 105 dX12_judge_105 (Nat.le_of_ble_eq_true rfl) ty_117 (pm_inI (by omega) (by omega)) (nI_clamp (by omega)) ?_
      refine ev_abs (Q := DM e n g (dU (qD n i s) 4 i (((qD n i s) 4 i) - 0)) p) (hD.u4 i (((qD n i s) 4 i) - 0)) (fun v1 hD => ?_)
      refine ev_iinc (y := nI (i + 1)) (ls' := [.ref 100, .int y1, .int y2, .int y3, .int (nI (i + 1))]) 106 dX12_judge_106 rfl (nI_add i 1) rfl ?_
      refine ev_goto 109 72 dX12_judge_109 rfl ?_
      refine ih (i + 1) _ (by omega) (hD.cg ?_ ?_ ?_ ?_ ?_ ?_) K
      · intro j _; rw [dU_ne (by decide)]; rfl
      · intro j _; rw [dU_ne (by decide)]; rfl
      · intro j _; rw [dU_ne (by decide)]; rfl
      · intro j hj; show _ = (if j < i + 1 then (if s 4 j ≤ 0 then s 4 j else s 4 j - 1) else s 4 j)
        have hqi : qD n i s 4 i = s 4 i := by show (if i < i then _ else s 4 i) = _; rw [if_neg (by omega)]
        by_cases q : j = i
        · rw [q, dU_on, if_pos (by omega)]; first | (rw [if_pos (hqi ▸ c_96), hqi]; grind) | (rw [if_neg (hqi ▸ c_96), hqi])
        · rw [dU_off (fun z => q z.2)]; show (if j < i then _ else _) = _; by_cases q2 : j < i
          · rw [if_pos (c := j < i) q2, if_pos (c := j < i + 1) (by omega)]
          · rw [if_neg (c := j < i) q2, if_neg (c := j < i + 1) (by omega)]
      · intro j _; rw [dU_ne (by decide)]; rfl
      · intro j _; rw [dU_ne (by decide)]; rfl
    · refine ev_iconst 99 dX12_judge_99 kI_1 ?_
      refine ev_goto 100 104 dX12_judge_100 rfl ?_
      refine ev_isub 104 dX12_judge_104 ?_
      refine ev_iastJ (j := i) 105 dX12_judge_105 (Nat.le_of_ble_eq_true rfl) ty_117 (pm_inI (by omega) (by omega)) (nI_clamp (by omega)) ?_
      refine ev_abs (Q := DM e n g (dU (qD n i s) 4 i (((qD n i s) 4 i) - 1)) p) (hD.u4 i (((qD n i s) 4 i) - 1)) (fun v2 hD => ?_)
      refine ev_iinc (y := nI (i + 1)) (ls' := [.ref 100, .int y1, .int y2, .int y3, .int (nI (i + 1))]) 106 dX12_judge_106 rfl (nI_add i 1) rfl ?_
      refine ev_goto 109 72 dX12_judge_109 rfl ?_
      refine ih (i + 1) _ (by omega) (hD.cg ?_ ?_ ?_ ?_ ?_ ?_) K
      · intro j _; rw [dU_ne (by decide)]; rfl
      · intro j _; rw [dU_ne (by decide)]; rfl
      · intro j _; rw [dU_ne (by decide)]; rfl
      · intro j hj; show _ = (if j < i + 1 then (if s 4 j ≤ 0 then s 4 j else s 4 j - 1) else s 4 j)
        have hqi : qD n i s 4 i = s 4 i := by show (if i < i then _ else s 4 i) = _; rw [if_neg (by omega)]
        by_cases q : j = i
        · rw [q, dU_on, if_pos (by omega)]; first | (rw [if_pos (hqi ▸ c_96), hqi]; grind) | (rw [if_neg (hqi ▸ c_96), hqi])
        · rw [dU_off (fun z => q z.2)]; show (if j < i then _ else _) = _; by_cases q2 : j < i
          · rw [if_pos (c := j < i) q2, if_pos (c := j < i + 1) (by omega)]
          · rw [if_neg (c := j < i) q2, if_neg (c := j < i + 1) (by omega)]
      · intro j _; rw [dU_ne (by decide)]; rfl
      · intro j _; rw [dU_ne (by decide)]; rfl

theorem qDec_w {n : Nat} {s : dT} (h : wOk n s) : wOk n (qDec n s) := h.cg fun _ => rfl
theorem qDec_r {n : Nat} {s : dT} (h : ∀ i, i < n → nB (s 4 i) 20) : ∀ i, i < n → nB (qDec n s 4 i) 20 := by
  intro i hi
  obtain ⟨k, hk, ek⟩ := h i hi
  show nB (if i < n then (if s 4 i ≤ 0 then s 4 i else s 4 i - 1) else s 4 i) 20
  rw [if_pos hi, ek]
  split
  · exact ⟨k, hk, rfl⟩
  · rename_i hr
    have h0 : 0 < k := by
      cases k with
      | zero => exact absurd (show nI 0 ≤ 0 by decide) hr
      | succ k => omega
    exact ⟨k - 1, by omega, by rw [show (1 : Int32) = nI 1 from rfl, pk_sub (by omega)]⟩
theorem turn_r {e : pmV} {n tx z : Nat} {LT : pmT} (hC : Cpl n tx z LT e) {s : dT} {l m : Int32} (h : ∀ i, i < n → nB (s 4 i) 20) : ∀ i, i < n → nB (pTurn e n s l m 4 i) 20 := by
  intro j hj
  unfold pTurn
  split
  · rw [turnI_4]
    split
    · exact res_of hC _
    · exact h j hj
  · exact h j hj
theorem lp_j {X : pmX} {d : Nat} {P : Option Value → pmT → pmV → Prop} {LT : pmT} {e : pmV} {n tx z t q : Nat} {g : Nat → Int32} {p : Int64} (hC : Cpl n tx z LT e) (ht : t < 4) (hq60 : q ≤ 60) (hq : e.1 121 t = nI q) (g0 : g 0 = -1) (g1 : g 1 = -1) : ∀ (k : Nat) (i : Nat) (s : dT) (w3 w4 : Value) (v : pmV), i + k = q → DM e n g s p v → wOk n s → (∀ i, i < n → nB (s 4 i) 20) → (∀ v', MX e n v' → P (some (.int (qJ e n t k i s))) (pmT0 ++ LT) v') → EvP X (d + 3) MX12_judge 31 [.ref 100, .int (nI t), .int (nI i), w3, w4] [] (pmT0 ++ LT) v P := by
  intro k
  induction k with
  | zero =>
    intro i s w3 w4 v hi hD hW hR K
    have hi2 : q = i := by omega
    subst hi2
    have hn8 := hC.2.1.1
    refine ev_iload_n 31 dX12_judge_31 rfl ?_
    refine ev_aload_n 32 dX12_judge_32 rfl (by decide) ?_
    refine gf_12_44 (pc := 33) rfl dX12_judge_33 kd_100 (rf_100_50 hD.1) ?_
    refine ev_iload_n 36 dX12_judge_36 rfl ?_
    refine ev_ialdJ (x := nI q) (j := t) 37 dX12_judge_37 (Nat.le_of_ble_eq_true rfl) ty_121 (pm_inI (by omega) (by omega)) (nI_clamp (by omega)) ((hD.c (by unfold DcA DcX; omega)).trans hq) ?_
    refine ev_ic_geN (a := q) (b := q) 38 118 dX12_judge_38 rfl (by omega) (by omega) (fun c_38 => ?_) (fun c_38 => by omega)
    refine ev_iconst 118 dX12_judge_118 kI_m1 ?_
    refine ev_ireturn 119 dX12_judge_119 rfl rfl ?_
    exact K v ⟨g, _, _, hD, g0, g1⟩
  | succ k ih =>
    intro i s w3 w4 v hi hD hW hR K
    have hn8 := hC.2.1.1
    have hQ : ∀ s : dT, wOk n s → wOk n (qDec n s) := fun s h => qDec_w h
    have hQ2 := fun (s : dT) (h : ∀ i, i < n → nB (s 4 i) 20) => qDec_r h
    refine ev_iload_n 31 dX12_judge_31 rfl ?_
    refine ev_aload_n 32 dX12_judge_32 rfl (by decide) ?_
    refine gf_12_44 (pc := 33) rfl dX12_judge_33 kd_100 (rf_100_50 hD.1) ?_
    refine ev_iload_n 36 dX12_judge_36 rfl ?_
    refine ev_ialdJ (x := nI q) (j := t) 37 dX12_judge_37 (Nat.le_of_ble_eq_true rfl) ty_121 (pm_inI (by omega) (by omega)) (nI_clamp (by omega)) ((hD.c (by unfold DcA DcX; omega)).trans hq) ?_
    refine ev_ic_geN (a := i) (b := q) 38 118 dX12_judge_38 rfl (by omega) (by omega) (fun c_38 => by omega) (fun c_38 => ?_)
    refine ev_aload_n 41 dX12_judge_41 rfl (by decide) ?_
    refine gf_12_47 (pc := 42) rfl dX12_judge_42 kd_100 (rf_100_51 hD.1) ?_
    refine ev_bipush 45 dX12_judge_45 kB_60 ?_
    refine ev_iload_n 47 dX12_judge_47 rfl ?_
    refine ev_imul 48 dX12_judge_48 ?_
    refine ev_cst (y := nI (60 * t)) (nI_mulp 60 t) ?_
    refine ev_iload_n 49 dX12_judge_49 rfl ?_
    refine ev_iadd 50 dX12_judge_50 ?_
    refine ev_cst (y := nI (60 * t + i)) (nI_add (60 * t) i) ?_
    refine ev_ialdJ (x := e.1 122 (60 * t + i)) (j := 60 * t + i) 51 dX12_judge_51 (Nat.le_of_ble_eq_true rfl) ty_122 (pm_inI (by omega) (by omega)) (nI_clamp (by omega)) (hD.c (by unfold DcA DcX; omega)) ?_
    refine ev_istore_n (ls' := [.ref 100, .int (nI t), .int (nI i), .int (e.1 122 (60 * t + i)), w4]) 52 dX12_judge_52 (Nat.le_of_ble_eq_true rfl) rfl ?_
    refine ev_iload_n 53 dX12_judge_53 rfl ?_
    refine ev_iconst 54 dX12_judge_54 kI_m1 ?_
    refine ev_ic_eq 55 69 dX12_judge_55 rfl (fun c_55 => ?_) (fun c_55 => ?_)
    · refine ev_iconst 69 dX12_judge_69 kI_0 ?_
      refine ev_istore (ls' := [.ref 100, .int (nI t), .int (nI i), .int (e.1 122 (60 * t + i)), .int 0]) 70 dX12_judge_70 (Nat.le_of_ble_eq_true rfl) rfl ?_
      refine lp_jd (s := s) hC n 0 _ (by omega) (hD.cg (fun _ _ => rfl) (fun _ _ => rfl) (fun _ _ => rfl) (fun j _ => by simp [qD]) (fun _ _ => rfl) (fun _ _ => rfl)) (fun v7 hD => ?_)
      refine ev_iinc (y := nI (i + 1)) (ls' := [.ref 100, .int (nI t), .int (nI (i + 1)), .int (e.1 122 (60 * t + i)), .int (nI n)]) 112 dX12_judge_112 rfl (nI_add i 1) rfl ?_
      refine ev_goto 115 31 dX12_judge_115 rfl ?_
      refine ih (i + 1) _ _ _ _ (by omega) hD (hQ _ hW) (hQ2 _ hR) ?_
      intro v2 h2; have z := K v2 h2; rw [qJ, if_pos c_55] at z; exact z
    · refine ev_aload_n 58 dX12_judge_58 rfl (by decide) ?_
      refine ev_iload_n 59 dX12_judge_59 rfl ?_
      refine ev_iload_n 60 dX12_judge_60 rfl ?_
      refine cv_12_299_12 (pc := 61) rfl dX12_judge_61 kd_100 (Nat.le_of_ble_eq_true rfl) ?_
      refine c_X12_turnsNow hC hD hW hR (fun h_tn v1 hD => ?_) (fun h_tn => ?_)
      · have hpt : pTurn e n s (e.1 122 (60 * t + i)) (nI i) = pTurnI e s (e.1 122 (60 * t + i)).toNatClampNeg := if_pos h_tn
        have hWt : wOk n (pTurnI e s (e.1 122 (60 * t + i)).toNatClampNeg) := hpt ▸ hW.turn hn8
        have hRt : ∀ j, j < n → nB (pTurnI e s (e.1 122 (60 * t + i)).toNatClampNeg 4 j) 20 := hpt ▸ turn_r hC hR
        refine ev_ifT 64 69 dX12_judge_64 rfl (by decide) ?_
        refine ev_iconst 69 dX12_judge_69 kI_0 ?_
        refine ev_istore (ls' := [.ref 100, .int (nI t), .int (nI i), .int (e.1 122 (60 * t + i)), .int 0]) 70 dX12_judge_70 (Nat.le_of_ble_eq_true rfl) rfl ?_
        refine lp_jd (s := pTurnI e s (e.1 122 (60 * t + i)).toNatClampNeg) hC n 0 _ (by omega) (hD.cg (fun _ _ => rfl) (fun _ _ => rfl) (fun _ _ => rfl) (fun j _ => by simp [qD]) (fun _ _ => rfl) (fun _ _ => rfl)) (fun v7 hD => ?_)
        refine ev_iinc (y := nI (i + 1)) (ls' := [.ref 100, .int (nI t), .int (nI (i + 1)), .int (e.1 122 (60 * t + i)), .int (nI n)]) 112 dX12_judge_112 rfl (nI_add i 1) rfl ?_
        refine ev_goto 115 31 dX12_judge_115 rfl ?_
        refine ih (i + 1) _ _ _ _ (by omega) hD (hQ _ hWt) (hQ2 _ hRt) ?_
        intro v2 h2; have z := K v2 h2; rw [qJ, if_neg c_55, if_pos h_tn, show pTurn e n s (e.1 122 (60 * t + i)) (nI i) = pTurnI e s (e.1 122 (60 * t + i)).toNatClampNeg from if_pos h_tn] at z; exact z
      · refine ev_ifF 64 69 dX12_judge_64 rfl (by decide) ?_
        refine ev_iload_n 67 dX12_judge_67 rfl ?_
        refine ev_ireturn 68 dX12_judge_68 rfl rfl ?_
        have z := K v ⟨g, _, _, hD, g0, g1⟩; rw [qJ, if_neg c_55, if_neg h_tn] at z; exact z


theorem c_X12_judge_1 {X : pmX} {d : Nat} {v : pmV} {P : Option Value → pmT → pmV → Prop} {LT : pmT} {a : Int32} (h1 : ¬ (0 ≤ a ∧ a ≤ 3)) (k : P (some (.int (-2))) (pmT0 ++ LT) v) : EvP X (d + 8) MX12_judge 0 [.ref 100, .int a, pmJ, pmJ, pmJ] [] (pmT0 ++ LT) v P := by
  refine ev_aload_n 0 dX12_judge_0 rfl (by decide) ?_
  refine ev_iload_n 1 dX12_judge_1 rfl ?_
  refine cv_12_37_12 (pc := 2) rfl dX12_judge_2 kd_100 (Nat.le_of_ble_eq_true rfl) ?_
  refine c_X12_isSheet (fun h_2 => absurd h_2 h1) (fun h_2 => ?_)
  refine ev_ifF 5 11 dX12_judge_5 rfl (by decide) ?_
  refine ev_bipush 8 dX12_judge_8 kB_m2 ?_
  refine ev_ireturn 10 dX12_judge_10 rfl rfl ?_
  exact k

theorem c_X12_judge_2 {X : pmX} {d : Nat} {v : pmV} {P : Option Value → pmT → pmV → Prop} {LT : pmT} {t : Nat} (hX : pmRf v) (ht : t < 4) (h2 : v.1 120 t = -1) (k : P (some (.int (-11))) (pmT0 ++ LT) v) : EvP X (d + 8) MX12_judge 0 [.ref 100, .int (nI t), pmJ, pmJ, pmJ] [] (pmT0 ++ LT) v P := by
  have hb3 : (0 : Int32) ≤ nI t ∧ nI t ≤ 3 := ⟨nI_pos' (by omega), nI_le (a := t) (b := 3) (by omega) (by omega)⟩
  refine ev_aload_n 0 dX12_judge_0 rfl (by decide) ?_
  refine ev_iload_n 1 dX12_judge_1 rfl ?_
  refine cv_12_37_12 (pc := 2) rfl dX12_judge_2 kd_100 (Nat.le_of_ble_eq_true rfl) ?_
  refine c_X12_isSheet (fun h_2 => ?_) (fun h_2 => absurd hb3 h_2)
  refine ev_ifT 5 11 dX12_judge_5 rfl (by decide) ?_
  refine ev_aload_n 11 dX12_judge_11 rfl (by decide) ?_
  refine gf_12_41 (pc := 12) rfl dX12_judge_12 kd_100 (rf_100_49 hX) ?_
  refine ev_iload_n 15 dX12_judge_15 rfl ?_
  refine ev_ialdJ (x := (-1)) (j := t) 16 dX12_judge_16 (Nat.le_of_ble_eq_true rfl) ty_120 (pm_inI (by omega) (by omega)) (nI_clamp (by omega)) h2 ?_
  refine ev_ifF 17 23 dX12_judge_17 rfl (by decide) ?_
  refine ev_bipush 20 dX12_judge_20 kB_m11 ?_
  refine ev_ireturn 22 dX12_judge_22 rfl rfl ?_
  exact k

theorem c_X12_judge_ok {X : pmX} {d : Nat} {v : pmV} {P : Option Value → pmT → pmV → Prop} {LT : pmT} {e : pmV} {n tx z t q : Nat} (hC : Cpl n tx z LT e) (hM : MX e n v) (ht : t < 4) (hq60 : q ≤ 60) (hq : e.1 121 t = nI q) (h2 : 0 ≤ e.1 120 t) (k : ∀ v' s', MX e n v' → E9 s' (pBeg e n (sGf plN oN)) → P (some (.int (qJ e n t q 0 s'))) (pmT0 ++ LT) v') : EvP X (d + 8) MX12_judge 0 [.ref 100, .int (nI t), pmJ, pmJ, pmJ] [] (pmT0 ++ LT) v P := by
  obtain ⟨g, s, p, hD, g0, g1⟩ := hM
  have hb3 : (0 : Int32) ≤ nI t ∧ nI t ≤ 3 := ⟨nI_pos' (by omega), nI_le (a := t) (b := 3) (by omega) (by omega)⟩
  refine ev_aload_n 0 dX12_judge_0 rfl (by decide) ?_
  refine ev_iload_n 1 dX12_judge_1 rfl ?_
  refine cv_12_37_12 (pc := 2) rfl dX12_judge_2 kd_100 (Nat.le_of_ble_eq_true rfl) ?_
  refine c_X12_isSheet (fun h_2 => ?_) (fun h_2 => absurd hb3 h_2)
  refine ev_ifT 5 11 dX12_judge_5 rfl (by decide) ?_
  refine ev_aload_n 11 dX12_judge_11 rfl (by decide) ?_
  refine gf_12_41 (pc := 12) rfl dX12_judge_12 kd_100 (rf_100_49 hD.1) ?_
  refine ev_iload_n 15 dX12_judge_15 rfl ?_
  refine ev_ialdJ (x := e.1 120 t) (j := t) 16 dX12_judge_16 (Nat.le_of_ble_eq_true rfl) ty_120 (pm_inI (by omega) (by omega)) (nI_clamp (by omega)) (hD.c (by unfold DcA DcX; omega)) ?_
  refine ev_if_ge 17 23 dX12_judge_17 rfl (fun c_17 => ?_) (fun c_17 => absurd h2 c_17)
  refine ev_aload_n 23 dX12_judge_23 rfl (by decide) ?_
  refine ev_iconst 24 dX12_judge_24 kI_0 ?_
  refine ev_iconst 25 dX12_judge_25 kI_m1 ?_
  refine cv_12_316_12 (pc := 26) rfl dX12_judge_26 kd_100 (Nat.le_of_ble_eq_true rfl) ?_
  refine c_X12_goZ (sGf plN oN) hC hD (fun v8 hD => ?_)
  have hJ0 := (dJ.beg hC.2.1 (sGf plN oN)).nine (nine_E9 (s := pBeg e n (sGf plN oN)) (x := s 9 0) (y := s 9 1))
  refine ev_iconst 29 dX12_judge_29 kI_0 ?_
  refine ev_istore_n (ls' := [.ref 100, .int (nI t), .int 0, pmJ, pmJ]) 30 dX12_judge_30 (Nat.le_of_ble_eq_true rfl) rfl ?_
  exact lp_j hC ht hq60 hq g0 g1 q 0 _ _ _ _ (by omega) hD hJ0.2.1 hJ0.2.2.1 (fun v9 hM => k v9 _ hM nine_E9)

theorem op_judge {X : pmX} {d n tx z : Nat} {LT : pmT} {v : pmV} {a : Int32} (hC : Cpl n tx z LT v) : EvP X (d + 20) MX11_judge 0 [.ref 32, .int a, pmJ] [] (pmT0 ++ LT) v (Aft X (d + 20) MX12_judge [.ref 100, .int a, pmJ, pmJ, pmJ]) := by
  obtain ⟨hX, hL, hS, hR, hI, hT, hTa, hSh, hF⟩ := id hC
  obtain ⟨r, hr, hr1, hr2⟩ := hR
  by_cases h1 : 0 ≤ a ∧ a ≤ 3
  · obtain ⟨t, rfl, _, ht⟩ := nI_rng (a := 0) (b := 3) (by omega) (by omega) h1
    obtain ⟨⟨s1, s2, s3⟩, ⟨q, hq60, q1, q2⟩, hit⟩ := hSh t (by omega)
    by_cases h2 : v.1 (92 + 2 * t) 0 = -1
    · refine c_X11_judge_2 (d := d + 17) hX (by omega) h2 ?_
      refine c_X12_judge_2 (d := d + 12) hX (by omega) (s1.trans h2) ?_
      exact ⟨rfl, n, tx, z, LT, rfl, hC⟩
    · refine c_X11_judge_ok (d := d + 8) hC hr hr1 (by omega) h2 (fun v1 hE => ?_)
      refine c_X12_judge_ok (d := d + 12) (e := v) hC (MX.of hC hE.1 hE.2.1) (by omega) hq60 q2 (by rw [s1]; grind) (fun v2 s' hM h9 => ?_)
      refine ⟨?_, n, tx, z, LT, rfl, hM.fin hC⟩
      have hj : pJ v n 60 0 (pBeg v n (sGf (plS v t) oN)) = qJ v n t q 0 s' := by
        refine judge_eq (t := t) hC hq60 q 0 (pBeg v n (sGf (plS v t) oN)) s' (by omega) (fun i hi => ?_) ((dJ.beg hL _)) (fun j => ?_)
        · rw [h9 3 (by decide), h9 4 (by decide)]; exact ⟨rfl, rfl⟩
        · show plS v t j = _
          unfold plS pT
          rw [q1]
          by_cases hj : j < 60
          · rw [if_pos hj]
            by_cases hq : j < q
            · rw [if_pos ((nI_ltI (by omega) (by omega)).mpr hq), if_pos hq]; exact (hit j hj).symm
            · rw [if_neg (fun z => hq ((nI_ltI (by omega) (by omega)).mp z)), if_neg hq]
          · rw [if_neg hj, if_neg (by omega)]
      exact congrArg (fun w => some (Value.int w)) hj.symm
  · refine c_X11_judge_1 (d := d + 17) hX h1 ?_
    refine c_X12_judge_1 (d := d + 12) h1 ?_
    exact ⟨rfl, n, tx, z, LT, rfl, hC⟩
