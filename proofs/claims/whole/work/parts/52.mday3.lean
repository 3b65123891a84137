/-! the reference's day: turning, leading, by the rule, what is told, comers -/
set_option maxHeartbeats 1000000 in
theorem c_X12_turnsNow {X : pmX} {d : Nat} {v : pmV} {P : Option Value → pmT → pmV → Prop} {LT : pmT} {e : pmV} {n tx z : Nat} {g : Nat → Int32} {s : dT} {p : Int64} {l m : Int32} (hC : Cpl n tx z LT e) (hD : DM e n g s p v) (hW : wOk n s) (hR : ∀ i, i < n → nB (s 4 i) 20) (kt : pCan e n s l m = true → ∀ v', DM e n g (pTurnI e s l.toNatClampNeg) p v' → P (some (.int 1)) (pmT0 ++ LT) v') (kf : ¬ pCan e n s l m = true → P (some (.int 0)) (pmT0 ++ LT) v) : EvP X (d + 2) MX12_turnsNow 0 [.ref 100, .int l, .int m] [] (pmT0 ++ LT) v P := by
  have hn8 := hC.2.1.1
  have hLn := hD.lan hC
  refine ev_aload_n 0 dX12_turnsNow_0 rfl (by decide) ?_
  refine ev_iload_n 1 dX12_turnsNow_1 rfl ?_
  refine cv_12_53_12 (pc := 2) rfl dX12_turnsNow_2 kd_100 (Nat.le_of_ble_eq_true rfl) ?_
  refine c_X12_isLane hLn (fun h_2 => ?_) (fun h_2 => ?_)
  · obtain ⟨i, hi, rfl⟩ := lane_ix hn8 h_2
    obtain ⟨u, hu, hsu⟩ := hW i hi
    obtain ⟨hu1, hu2⟩ := w01 hsu hu
    obtain ⟨rr, hrr, esr⟩ := hR i hi
    refine ev_ifF 5 26 dX12_turnsNow_5 rfl (by decide) ?_
    refine ev_aload_n 8 dX12_turnsNow_8 rfl (by decide) ?_
    refine ev_iload_n 9 dX12_turnsNow_9 rfl ?_
    refine ev_iload_n 10 dX12_turnsNow_10 rfl ?_
    refine cv_12_69_12 (pc := 11) rfl dX12_turnsNow_11 kd_100 (Nat.le_of_ble_eq_true rfl) ?_
    refine c_X12_mayTurn (l := i) hC hD (by omega) (fun h_11 => ?_) (fun h_11 => ?_)
    · refine ev_ifF 14 26 dX12_turnsNow_14 rfl (by decide) ?_
      refine ev_aload_n 17 dX12_turnsNow_17 rfl (by decide) ?_
      refine gf_12_146 (pc := 18) rfl dX12_turnsNow_18 kd_100 (rf_100_31 hD.1) ?_
      refine ev_iload_n 21 dX12_turnsNow_21 rfl ?_
      refine ev_ialdJ (x := nI rr) (j := i) 22 dX12_turnsNow_22 (Nat.le_of_ble_eq_true rfl) ty_117 (pm_inI (by omega) (by omega)) (nI_clamp (by omega)) ((hD.r4 (by omega)).trans esr) ?_
      refine ev_if_leN (a := rr) 23 28 dX12_turnsNow_23 rfl (by omega) (fun c_23 => ?_) (fun c_23 => ?_)
      · refine ev_aload_n 28 dX12_turnsNow_28 rfl (by decide) ?_
        refine gf_12_143 (pc := 29) rfl dX12_turnsNow_29 kd_100 (rf_100_30 hD.1) ?_
        refine ev_iload_n 32 dX12_turnsNow_32 rfl ?_
        refine ev_iconst 33 dX12_turnsNow_33 kI_1 ?_
        refine ev_aload_n 34 dX12_turnsNow_34 rfl (by decide) ?_
        refine gf_12_143 (pc := 35) rfl dX12_turnsNow_35 kd_100 (rf_100_30 hD.1) ?_
        refine ev_iload_n 38 dX12_turnsNow_38 rfl ?_
        refine ev_ialdJ (x := nI u) (j := i) 39 dX12_turnsNow_39 (Nat.le_of_ble_eq_true rfl) ty_116 (pm_inI (by omega) (by omega)) (nI_clamp (by omega)) ((hD.r3 (by omega)).trans hsu) ?_
        refine ev_isub 40 dX12_turnsNow_40 ?_
        refine ev_cst (y := nI (1 - u)) (pk_sub (a := 1) (b := u) (by omega)) ?_
        refine ev_iastJ (j := i) 41 dX12_turnsNow_41 (Nat.le_of_ble_eq_true rfl) ty_116 (pm_inI (by omega) (by omega)) (nI_clamp (by omega)) ?_
        refine ev_abs (Q := DM e n g (dU s 3 i (nI (1 - u))) p) (hD.u3 i (nI (1 - u))) (fun v1 hD => ?_)
        refine ev_aload_n 42 dX12_turnsNow_42 rfl (by decide) ?_
        refine gf_12_146 (pc := 43) rfl dX12_turnsNow_43 kd_100 (rf_100_31 hD.1) ?_
        refine ev_iload_n 46 dX12_turnsNow_46 rfl ?_
        refine ev_aload_n 47 dX12_turnsNow_47 rfl (by decide) ?_
        refine ev_iload_n 48 dX12_turnsNow_48 rfl ?_
        refine cv_12_65_12 (pc := 49) rfl dX12_turnsNow_49 kd_100 (Nat.le_of_ble_eq_true rfl) ?_
        refine c_X12_restsOf (l := i) hC hD (by omega) ?_
        refine ev_iastJ (j := i) 52 dX12_turnsNow_52 (Nat.le_of_ble_eq_true rfl) ty_117 (pm_inI (by omega) (by omega)) (nI_clamp (by omega)) ?_
        refine ev_abs (Q := DM e n g (dU (dU s 3 i (nI (1 - u))) 4 i (pRes e i (e.1 34 2))) p) (hD.u4 i (pRes e i (e.1 34 2))) (fun v2 hD => ?_)
        refine ev_aload_n 53 dX12_turnsNow_53 rfl (by decide) ?_
        refine ev_dup 54 dX12_turnsNow_54 rfl ?_
        refine gf_12_149 (x := s 5 0) (pc := 55) rfl dX12_turnsNow_55 kd_100 (hD.r5_0.trans ((dU_ne (by decide)).trans (dU_ne (by decide)))) ?_
        refine ev_iconst 58 dX12_turnsNow_58 kI_1 ?_
        refine ev_iadd 59 dX12_turnsNow_59 ?_
        refine pf_12_149 (pc := 60) rfl dX12_turnsNow_60 kd_100 ?_
        refine ev_abs (Q := DM e n g (dU (dU (dU s 3 i (nI (1 - u))) 4 i (pRes e i (e.1 34 2))) 5 0 ((s 5 0) + 1)) p) (hD.u5_0 ((s 5 0) + 1)) (fun v3 hD => ?_)
        refine ev_iconst 63 dX12_turnsNow_63 kI_1 ?_
        refine ev_ireturn 64 dX12_turnsNow_64 rfl rfl ?_
        have hc : pCan e n s (nI i) m = true := by rw [pCan_nI hn8 hi, esr, show rr = 0 by omega]; simp [h_11]; rfl
        refine kt hc _ (hD.cg ?_ ?_ ?_ ?_ ?_ ?_)
        all_goals unfold pTurnI; simp only [hu1, hu2, nI_clamp (show 1 - u < 2 ^ 31 by omega), nI_clamp (show i < 2 ^ 31 by omega)]
        all_goals intro j hj
        · rw [dU_ne (by decide), dU_ne (by decide), dU_ne (by decide), dU_ne (by decide), dU_ne (by decide), dU_ne (by decide), dU_ne (by decide), dU_ne (by decide)]
        · rw [dU_ne (by decide), dU_ne (by decide), dU_ne (by decide), dU_ne (by decide), dU_ne (by decide), dU_ne (by decide), dU_ne (by decide), dU_ne (by decide)]
        · rw [dU_ne (by decide), dU_ne (by decide), dU_ne (r := 5) (by decide), dU_ne (r := 4) (by decide), dU_ne (r := 2) (by decide)]
          by_cases q : j = i
          · rw [q, dU_on, dU_on]
          · rw [dU_off (fun z => q z.2), dU_off (fun z => q z.2), dU_ne (by decide)]
        · rw [dU_ne (by decide), dU_ne (r := 5) (by decide)]
          by_cases q : j = i
          · rw [q, dU_on, dU_on]
          · rw [dU_off (fun z => q z.2), dU_ne (by decide), dU_off (fun z => q z.2), dU_ne (by decide), dU_ne (by decide), dU_ne (by decide)]
        · by_cases q : j = 0
          · rw [q, dU_on, dU_on]
          · rw [dU_off (fun z => q z.2), dU_ne (by decide), dU_ne (by decide), dU_off (fun z => q z.2), dU_ne (by decide), dU_ne (by decide), dU_ne (by decide), dU_ne (by decide)]
        · rw [dU_ne (by decide), dU_ne (by decide), dU_ne (by decide), dU_ne (by decide), dU_ne (by decide), dU_ne (by decide), dU_ne (by decide), dU_ne (by decide)]
      · refine ev_iconst 26 dX12_turnsNow_26 kI_0 ?_
        refine ev_ireturn 27 dX12_turnsNow_27 rfl rfl ?_
        exact kf (by rw [pCan_nI hn8 hi, esr, decide_eq_false (nI_ne0 (by omega) (by omega))]; simp)
    · refine ev_ifT 14 26 dX12_turnsNow_14 rfl (by decide) ?_
      refine ev_iconst 26 dX12_turnsNow_26 kI_0 ?_
      refine ev_ireturn 27 dX12_turnsNow_27 rfl rfl ?_
      exact kf (by rw [pCan_nI hn8 hi]; simp [h_11])
  · refine ev_ifT 5 26 dX12_turnsNow_5 rfl (by decide) ?_
    refine ev_iconst 26 dX12_turnsNow_26 kI_0 ?_
    refine ev_ireturn 27 dX12_turnsNow_27 rfl rfl ?_
    exact kf (pCan_no h_2)

theorem c_X12_leads {X : pmX} {d : Nat} {v : pmV} {P : Option Value → pmT → pmV → Prop} {LT : pmT} {e : pmV} {n tx z : Nat} {g : Nat → Int32} {s : dT} {p : Int64} {i m B : Nat} (hC : Cpl n tx z LT e) (hD : DM e n g s p v) (hi : i < n) (hW : wOk n s) (hB : B < 2 ^ 30) (h9 : ∀ j, j < 2 → nB (s 9 j) B) (hsh : s 8 1 = g 0) (k : ∀ v', DM e n g (pLead e s i (nI m)) p v' → P none (pmT0 ++ LT) v') : EvP X (d + 2) MX12_leads 0 [.ref 100, .int (nI i), .int (nI m)] [] (pmT0 ++ LT) v P := by
  have hn8 := hC.2.1.1
  obtain ⟨u, hu, hsu⟩ := hW i hi
  have hu1 : (s 3 i).toNatClampNeg = u := by rw [hsu]; exact nI_clamp (by omega)
  refine ev_aload_n 0 dX12_leads_0 rfl (by decide) ?_
  refine gf_12_146 (pc := 1) rfl dX12_leads_1 kd_100 (rf_100_31 hD.1) ?_
  refine ev_iload_n 4 dX12_leads_4 rfl ?_
  refine ev_ialdJ (x := s 4 i) (j := i) 5 dX12_leads_5 (Nat.le_of_ble_eq_true rfl) ty_117 (pm_inI (by omega) (by omega)) (nI_clamp (by omega)) (hD.r4 (by omega)) ?_
  refine ev_if_le 6 20 dX12_leads_6 rfl (fun c_6 => ?_) (fun c_6 => ?_)
  · refine ev_iload_n 20 dX12_leads_20 rfl ?_
    refine ev_aload_n 21 dX12_leads_21 rfl (by decide) ?_
    refine gf_12_155 (x := g 0) (pc := 22) rfl dX12_leads_22 kd_100 hD.g0 ?_
    refine ev_ic_eq 25 52 dX12_leads_25 rfl (fun c_25 => ?_) (fun c_25 => ?_)
    · refine ev_return 52 dX12_leads_52 rfl ?_
      rw [show pLead e s i (nI m) = s by unfold pLead; simp [hsh, c_6, c_25]] at k
      exact k _ hD
    · refine ev_iload_n 28 dX12_leads_28 rfl ?_
      refine ev_aload_n 29 dX12_leads_29 rfl (by decide) ?_
      refine gf_12_50 (x := e.1 34 3) (pc := 30) rfl dX12_leads_30 kd_100 ((hD.c (by unfold DcA DcX; omega)).trans hC.2.2.1.2.2.2.1) ?_
      refine ev_ic_ne 33 53 dX12_leads_33 rfl (fun c_33 => ?_) (fun c_33 => ?_)
      · have hpst : ¬ pStop e i (nI m) = true := (by unfold pStop; simp; intro q; exact absurd q c_33)
        obtain ⟨a9, ha9, e9⟩ := h9 u hu
        have hbg : (if s 3 i = 0 then s 9 0 else s 9 1) = nI a9 := by
          have : u = 0 ∨ u = 1 := by omega
          rcases this with rfl | rfl
          · rw [hsu, if_pos nI_0]; exact e9
          · rw [hsu, if_neg (show ¬ nI 1 = 0 by decide)]; exact e9
        refine ev_aload_n 53 dX12_leads_53 rfl (by decide) ?_
        refine ev_aload_n 54 dX12_leads_54 rfl (by decide) ?_
        refine gf_12_143 (pc := 55) rfl dX12_leads_55 kd_100 (rf_100_30 hD.1) ?_
        refine ev_iload_n 58 dX12_leads_58 rfl ?_
        refine ev_ialdJ (x := nI u) (j := i) 59 dX12_leads_59 (Nat.le_of_ble_eq_true rfl) ty_116 (pm_inI (by omega) (by omega)) (nI_clamp (by omega)) ((hD.r3 (by omega)).trans hsu) ?_
        refine ev_aload_n 60 dX12_leads_60 rfl (by decide) ?_
        refine ev_iload_n 61 dX12_leads_61 rfl ?_
        refine ev_aload_n 62 dX12_leads_62 rfl (by decide) ?_
        refine gf_12_140 (pc := 63) rfl dX12_leads_63 kd_100 (rf_100_29 hD.1) ?_
        refine ev_aload_n 66 dX12_leads_66 rfl (by decide) ?_
        refine gf_12_143 (pc := 67) rfl dX12_leads_67 kd_100 (rf_100_30 hD.1) ?_
        refine ev_iload_n 70 dX12_leads_70 rfl ?_
        refine ev_ialdJ (x := nI u) (j := i) 71 dX12_leads_71 (Nat.le_of_ble_eq_true rfl) ty_116 (pm_inI (by omega) (by omega)) (nI_clamp (by omega)) ((hD.r3 (by omega)).trans hsu) ?_
        refine ev_ialdJ (x := nI a9) (j := u) 72 dX12_leads_72 (Nat.le_of_ble_eq_true rfl) ty_115 (pm_inI (by omega) (by omega)) (nI_clamp (by omega)) ((hD.r9 (by omega)).trans e9) ?_
        refine cv_12_73_12 (pc := 73) rfl dX12_leads_73 kd_100 (Nat.le_of_ble_eq_true rfl) ?_
        refine c_X12_carries (l := i) (a := a9) hC hD (by omega) (by omega) ?_
        refine ev_aload_n 76 dX12_leads_76 rfl (by decide) ?_
        refine gf_12_11 (pc := 77) rfl dX12_leads_77 kd_100 (rf_100_5 hD.1) ?_
        refine ev_iload_n 80 dX12_leads_80 rfl ?_
        refine ev_ialdJ (x := e.1 (124 + i) 0) (j := i) 81 dX12_leads_81 (Nat.le_of_ble_eq_true rfl) ty_101 (pm_inI (by omega) (by omega)) (nI_clamp (by omega)) ((hD.c (by unfold DcA DcX; omega)).trans (hC.2.1.2.2.2.2 i (by omega)).2.2.1) ?_
        refine ev_iconst 82 dX12_leads_82 kI_2 ?_
        refine ev_ic_eq 83 96 dX12_leads_83 rfl (fun c_83 => ?_) (fun c_83 => ?_)
        · refine ev_iconst 96 dX12_leads_96 kI_1 ?_
          refine ev_goto 97 101 dX12_leads_97 rfl ?_
          refine cv_12_289_12 (pc := 101) rfl dX12_leads_101 kd_100 (Nat.le_of_ble_eq_true rfl) ?_
          refine c_X12_take (w := u) hD (by omega) (fun v1 hD => ?_)
          refine ev_return 104 dX12_leads_104 rfl ?_
          rw [show pLead e s i (nI m) = pTake s u (pCar e i (nI a9)) 1 by
            unfold pLead
            rw [if_pos c_6, hsh, if_neg c_25, if_neg hpst, hu1, hbg, show pBs e i = 1 by simp [pBs, pK, c_83]]] at k
          exact k _ hD
        · refine ev_aload_n 86 dX12_leads_86 rfl (by decide) ?_
          refine gf_12_11 (pc := 87) rfl dX12_leads_87 kd_100 (rf_100_5 hD.1) ?_
          refine ev_iload_n 90 dX12_leads_90 rfl ?_
          refine ev_ialdJ (x := e.1 (124 + i) 0) (j := i) 91 dX12_leads_91 (Nat.le_of_ble_eq_true rfl) ty_101 (pm_inI (by omega) (by omega)) (nI_clamp (by omega)) ((hD.c (by unfold DcA DcX; omega)).trans (hC.2.1.2.2.2.2 i (by omega)).2.2.1) ?_
          refine ev_iconst 92 dX12_leads_92 kI_4 ?_
          refine ev_ic_ne 93 100 dX12_leads_93 rfl (fun c_93 => ?_) (fun c_93 => ?_)
          · refine ev_iconst 100 dX12_leads_100 kI_0 ?_
            refine cv_12_289_12 (pc := 101) rfl dX12_leads_101 kd_100 (Nat.le_of_ble_eq_true rfl) ?_
            refine c_X12_take (w := u) hD (by omega) (fun v2 hD => ?_)
            refine ev_return 104 dX12_leads_104 rfl ?_
            rw [show pLead e s i (nI m) = pTake s u (pCar e i (nI a9)) 0 by
              unfold pLead
              rw [if_pos c_6, hsh, if_neg c_25, if_neg hpst, hu1, hbg, show pBs e i = 0 by simp [pBs, pK, c_83, c_93]]] at k
            exact k _ hD
          · refine ev_iconst 96 dX12_leads_96 kI_1 ?_
            refine ev_goto 97 101 dX12_leads_97 rfl ?_
            refine cv_12_289_12 (pc := 101) rfl dX12_leads_101 kd_100 (Nat.le_of_ble_eq_true rfl) ?_
            refine c_X12_take (w := u) hD (by omega) (fun v3 hD => ?_)
            refine ev_return 104 dX12_leads_104 rfl ?_
            rw [show pLead e s i (nI m) = pTake s u (pCar e i (nI a9)) 1 by
              unfold pLead
              rw [if_pos c_6, hsh, if_neg c_25, if_neg hpst, hu1, hbg, show pBs e i = 1 by simp [pBs, pK, c_83, c_93]]] at k
            exact k _ hD
      · refine ev_aload_n 36 dX12_leads_36 rfl (by decide) ?_
        refine ev_iload_n 37 dX12_leads_37 rfl ?_
        refine ev_aload_n 38 dX12_leads_38 rfl (by decide) ?_
        refine gf_12_59 (x := e.1 34 4) (pc := 39) rfl dX12_leads_39 kd_100 ((hD.c (by unfold DcA DcX; omega)).trans hC.2.2.1.2.2.2.2.1) ?_
        refine ev_aload_n 42 dX12_leads_42 rfl (by decide) ?_
        refine gf_12_62 (x := e.1 34 5) (pc := 43) rfl dX12_leads_43 kd_100 ((hD.c (by unfold DcA DcX; omega)).trans hC.2.2.1.2.2.2.2.2) ?_
        refine cv_12_7_12 (pc := 46) rfl dX12_leads_46 kd_100 (Nat.le_of_ble_eq_true rfl) ?_
        refine c_X12_in (fun h_46 => ?_) (fun h_46 => ?_)
        · have hpst : pStop e i (nI m) = true := by unfold pStop; simp; exact ⟨c_33, h_46⟩
          refine ev_ifF 49 53 dX12_leads_49 rfl (by decide) ?_
          refine ev_return 52 dX12_leads_52 rfl ?_
          rw [show pLead e s i (nI m) = s by unfold pLead; simp [hsh, c_6, c_25, c_33, h_46, hpst]] at k
          exact k _ hD
        · refine ev_ifT 49 53 dX12_leads_49 rfl (by decide) ?_
          have hpst : ¬ pStop e i (nI m) = true := (by unfold pStop; simp; intro _ q1; exact Int32.not_le.mp (fun q2 => h_46 ⟨q1, q2⟩))
          obtain ⟨a9, ha9, e9⟩ := h9 u hu
          have hbg : (if s 3 i = 0 then s 9 0 else s 9 1) = nI a9 := by
            have : u = 0 ∨ u = 1 := by omega
            rcases this with rfl | rfl
            · rw [hsu, if_pos nI_0]; exact e9
            · rw [hsu, if_neg (show ¬ nI 1 = 0 by decide)]; exact e9
          refine ev_aload_n 53 dX12_leads_53 rfl (by decide) ?_
          refine ev_aload_n 54 dX12_leads_54 rfl (by decide) ?_
          refine gf_12_143 (pc := 55) rfl dX12_leads_55 kd_100 (rf_100_30 hD.1) ?_
          refine ev_iload_n 58 dX12_leads_58 rfl ?_
          refine ev_ialdJ (x := nI u) (j := i) 59 dX12_leads_59 (Nat.le_of_ble_eq_true rfl) ty_116 (pm_inI (by omega) (by omega)) (nI_clamp (by omega)) ((hD.r3 (by omega)).trans hsu) ?_
          refine ev_aload_n 60 dX12_leads_60 rfl (by decide) ?_
          refine ev_iload_n 61 dX12_leads_61 rfl ?_
          refine ev_aload_n 62 dX12_leads_62 rfl (by decide) ?_
          refine gf_12_140 (pc := 63) rfl dX12_leads_63 kd_100 (rf_100_29 hD.1) ?_
          refine ev_aload_n 66 dX12_leads_66 rfl (by decide) ?_
          refine gf_12_143 (pc := 67) rfl dX12_leads_67 kd_100 (rf_100_30 hD.1) ?_
          refine ev_iload_n 70 dX12_leads_70 rfl ?_
          refine ev_ialdJ (x := nI u) (j := i) 71 dX12_leads_71 (Nat.le_of_ble_eq_true rfl) ty_116 (pm_inI (by omega) (by omega)) (nI_clamp (by omega)) ((hD.r3 (by omega)).trans hsu) ?_
          refine ev_ialdJ (x := nI a9) (j := u) 72 dX12_leads_72 (Nat.le_of_ble_eq_true rfl) ty_115 (pm_inI (by omega) (by omega)) (nI_clamp (by omega)) ((hD.r9 (by omega)).trans e9) ?_
          refine cv_12_73_12 (pc := 73) rfl dX12_leads_73 kd_100 (Nat.le_of_ble_eq_true rfl) ?_
          refine c_X12_carries (l := i) (a := a9) hC hD (by omega) (by omega) ?_
          refine ev_aload_n 76 dX12_leads_76 rfl (by decide) ?_
          refine gf_12_11 (pc := 77) rfl dX12_leads_77 kd_100 (rf_100_5 hD.1) ?_
          refine ev_iload_n 80 dX12_leads_80 rfl ?_
          refine ev_ialdJ (x := e.1 (124 + i) 0) (j := i) 81 dX12_leads_81 (Nat.le_of_ble_eq_true rfl) ty_101 (pm_inI (by omega) (by omega)) (nI_clamp (by omega)) ((hD.c (by unfold DcA DcX; omega)).trans (hC.2.1.2.2.2.2 i (by omega)).2.2.1) ?_
          refine ev_iconst 82 dX12_leads_82 kI_2 ?_
          refine ev_ic_eq 83 96 dX12_leads_83 rfl (fun c_83 => ?_) (fun c_83 => ?_)
          · refine ev_iconst 96 dX12_leads_96 kI_1 ?_
            refine ev_goto 97 101 dX12_leads_97 rfl ?_
            refine cv_12_289_12 (pc := 101) rfl dX12_leads_101 kd_100 (Nat.le_of_ble_eq_true rfl) ?_
            refine c_X12_take (w := u) hD (by omega) (fun v4 hD => ?_)
            refine ev_return 104 dX12_leads_104 rfl ?_
            rw [show pLead e s i (nI m) = pTake s u (pCar e i (nI a9)) 1 by
              unfold pLead
              rw [if_pos c_6, hsh, if_neg c_25, if_neg hpst, hu1, hbg, show pBs e i = 1 by simp [pBs, pK, c_83]]] at k
            exact k _ hD
          · refine ev_aload_n 86 dX12_leads_86 rfl (by decide) ?_
            refine gf_12_11 (pc := 87) rfl dX12_leads_87 kd_100 (rf_100_5 hD.1) ?_
            refine ev_iload_n 90 dX12_leads_90 rfl ?_
            refine ev_ialdJ (x := e.1 (124 + i) 0) (j := i) 91 dX12_leads_91 (Nat.le_of_ble_eq_true rfl) ty_101 (pm_inI (by omega) (by omega)) (nI_clamp (by omega)) ((hD.c (by unfold DcA DcX; omega)).trans (hC.2.1.2.2.2.2 i (by omega)).2.2.1) ?_
            refine ev_iconst 92 dX12_leads_92 kI_4 ?_
            refine ev_ic_ne 93 100 dX12_leads_93 rfl (fun c_93 => ?_) (fun c_93 => ?_)
            · refine ev_iconst 100 dX12_leads_100 kI_0 ?_
              refine cv_12_289_12 (pc := 101) rfl dX12_leads_101 kd_100 (Nat.le_of_ble_eq_true rfl) ?_
              refine c_X12_take (w := u) hD (by omega) (fun v5 hD => ?_)
              refine ev_return 104 dX12_leads_104 rfl ?_
              rw [show pLead e s i (nI m) = pTake s u (pCar e i (nI a9)) 0 by
                unfold pLead
                rw [if_pos c_6, hsh, if_neg c_25, if_neg hpst, hu1, hbg, show pBs e i = 0 by simp [pBs, pK, c_83, c_93]]] at k
              exact k _ hD
            · refine ev_iconst 96 dX12_leads_96 kI_1 ?_
              refine ev_goto 97 101 dX12_leads_97 rfl ?_
              refine cv_12_289_12 (pc := 101) rfl dX12_leads_101 kd_100 (Nat.le_of_ble_eq_true rfl) ?_
              refine c_X12_take (w := u) hD (by omega) (fun v6 hD => ?_)
              refine ev_return 104 dX12_leads_104 rfl ?_
              rw [show pLead e s i (nI m) = pTake s u (pCar e i (nI a9)) 1 by
                unfold pLead
                rw [if_pos c_6, hsh, if_neg c_25, if_neg hpst, hu1, hbg, show pBs e i = 1 by simp [pBs, pK, c_83, c_93]]] at k
              exact k _ hD
  · refine ev_aload_n 9 dX12_leads_9 rfl (by decide) ?_
    refine gf_12_146 (pc := 10) rfl dX12_leads_10 kd_100 (rf_100_31 hD.1) ?_
    refine ev_iload_n 13 dX12_leads_13 rfl ?_
    refine ev_dup2 14 dX12_leads_14 rfl rfl ?_
    refine ev_ialdJ (x := s 4 i) (j := i) 15 dX12_leads_15 (Nat.le_of_ble_eq_true rfl) ty_117 (pm_inI (by omega) (by omega)) (nI_clamp (by omega)) (hD.r4 (by omega)) ?_
    refine ev_iconst 16 dX12_leads_16 kI_1 ?_
    refine ev_isub 17 dX12_leads_17 ?_
    refine ev_iastJ (j := i) 18 dX12_leads_18 (Nat.le_of_ble_eq_true rfl) ty_117 (pm_inI (by omega) (by omega)) (nI_clamp (by omega)) ?_
    refine ev_abs (Q := DM e n g (dU s 4 i ((s 4 i) - 1)) p) (hD.u4 i ((s 4 i) - 1)) (fun v7 hD => ?_)
    refine ev_return 19 dX12_leads_19 rfl ?_
    rw [show pLead e s i (nI m) = dU s 4 i ((s 4 i) - 1) by unfold pLead; simp [hsh, c_6]] at k
    exact k _ hD

theorem pFind_up {e : pmV} {n : Nat} {s : dT} {w k : Nat} {m : Int32} (hn : n ≤ 8) (hk : k < n) (hw : w < 2) (hW : wOk n s) : pFind e n s (nI (1 - w)) m (k + 1) = if s 3 k = nI w then (if pMay e k m = true then (if s 4 k = 0 then nI k else pFind e n s (nI (1 - w)) m k) else pFind e n s (nI (1 - w)) m k) else pFind e n s (nI (1 - w)) m k := by
  obtain ⟨u, hu, hsu⟩ := hW k hk
  rw [pFind, pCan_nI hn hk, hsu]
  by_cases q : u = w
  · subst q
    rw [if_pos rfl, if_neg (fun z => absurd ((nI_eq (by omega) (by omega)).mp z) (by omega))]
    by_cases h4 : s 4 k = 0
    · by_cases hm : pMay e k m = true
      · simp [h4, hm]
      · simp [h4, hm]
    · by_cases hm : pMay e k m = true
      · simp [h4, hm]
      · simp [h4, hm]
  · rw [if_neg (fun z => q ((nI_eq (by omega) (by omega)).mp z)), if_pos (show nI u = nI (1 - w) by rw [show 1 - w = u by omega])]
theorem lo_0 (x : Int32) : x + 0 = x := by grind
theorem lp_last {X : pmX} {d : Nat} {P : Option Value → pmT → pmV → Prop} {LT : pmT} {e : pmV} {n tx z : Nat} {g : Nat → Int32} {s : dT} {p : Int64} {w : Nat} {m : Int32} {v : pmV} (hC : Cpl n tx z LT e) (hD : DM e n g s p v) (hw : w < 2) (hW : wOk n s)  : ∀ (k : Nat) (i : Nat), i + k = n → (P (some (.int (if 2 ≤ pCn s (nI w) n then pFind e n s (nI (1 - w)) m n else -1))) (pmT0 ++ LT) v) → EvP X (d + 2) MX12_lastOf 8 [.ref 100, .int (nI w), .int m, .int (pFind e n s (nI (1 - w)) m i), .int (pCn s (nI w) i), .int (nI i)] [] (pmT0 ++ LT) v P := by
  intro k
  induction k with
  | zero =>
    intro i hi  K
    have hi2 : n = i := by omega
    subst hi2
    have hn8 := hC.2.1.1
    refine ev_iload 8 dX12_lastOf_8 rfl ?_
    refine ev_aload_n 10 dX12_lastOf_10 rfl (by decide) ?_
    refine gf_12_1 (x := nI n) (pc := 11) rfl dX12_lastOf_11 kd_100 ((hD.c (by unfold DcA DcX; omega)).trans hC.2.1.2.2.2.1) ?_
    refine ev_ic_geN (a := n) (b := n) 14 67 dX12_lastOf_14 rfl (by omega) (by omega) (fun c_14 => ?_) (fun c_14 => by omega)
    refine ev_iload 67 dX12_lastOf_67 rfl ?_
    refine ev_iconst 69 dX12_lastOf_69 kI_2 ?_
    refine ev_ic_ge 70 77 dX12_lastOf_70 rfl (fun c_70 => ?_) (fun c_70 => ?_)
    · refine ev_iload_n 77 dX12_lastOf_77 rfl ?_
      refine ev_ireturn 78 dX12_lastOf_78 rfl rfl ?_
      rw [show (if 2 ≤ pCn s (nI w) n then pFind e n s (nI (1 - w)) m n else -1) = pFind e n s (nI (1 - w)) m n by simp [c_70]] at K
      exact K
    · refine ev_iconst 73 dX12_lastOf_73 kI_m1 ?_
      refine ev_goto 74 78 dX12_lastOf_74 rfl ?_
      refine ev_ireturn 78 dX12_lastOf_78 rfl rfl ?_
      rw [show (if 2 ≤ pCn s (nI w) n then pFind e n s (nI (1 - w)) m n else -1) = (-1) by simp [c_70]] at K
      exact K
  | succ k ih =>
    intro i hi  K
    have hn8 := hC.2.1.1
    refine ev_iload 8 dX12_lastOf_8 rfl ?_
    refine ev_aload_n 10 dX12_lastOf_10 rfl (by decide) ?_
    refine gf_12_1 (x := nI n) (pc := 11) rfl dX12_lastOf_11 kd_100 ((hD.c (by unfold DcA DcX; omega)).trans hC.2.1.2.2.2.1) ?_
    refine ev_ic_geN (a := i) (b := n) 14 67 dX12_lastOf_14 rfl (by omega) (by omega) (fun c_14 => by omega) (fun c_14 => ?_)
    refine ev_aload_n 17 dX12_lastOf_17 rfl (by decide) ?_
    refine gf_12_143 (pc := 18) rfl dX12_lastOf_18 kd_100 (rf_100_30 hD.1) ?_
    refine ev_iload 21 dX12_lastOf_21 rfl ?_
    refine ev_ialdJ (x := s 3 i) (j := i) 23 dX12_lastOf_23 (Nat.le_of_ble_eq_true rfl) ty_116 (pm_inI (by omega) (by omega)) (nI_clamp (by omega)) (hD.r3 (by omega)) ?_
    refine ev_iload_n 24 dX12_lastOf_24 rfl ?_
    refine ev_ic_eq 25 31 dX12_lastOf_25 rfl (fun c_25 => ?_) (fun c_25 => ?_)
    · refine ev_iinc (y := pCn s (nI w) i + 1) (ls' := [.ref 100, .int (nI w), .int m, .int (pFind e n s (nI (1 - w)) m i), .int (pCn s (nI w) i + 1), .int (nI i)]) 31 dX12_lastOf_31 rfl rfl rfl ?_
      refine ev_aload_n 34 dX12_lastOf_34 rfl (by decide) ?_
      refine ev_iload 35 dX12_lastOf_35 rfl ?_
      refine ev_iload_n 37 dX12_lastOf_37 rfl ?_
      refine cv_12_69_12 (pc := 38) rfl dX12_lastOf_38 kd_100 (Nat.le_of_ble_eq_true rfl) ?_
      refine c_X12_mayTurn (l := i) hC hD (by omega) (fun h_38 => ?_) (fun h_38 => ?_)
      · refine ev_ifF 41 59 dX12_lastOf_41 rfl (by decide) ?_
        refine ev_aload_n 44 dX12_lastOf_44 rfl (by decide) ?_
        refine gf_12_146 (pc := 45) rfl dX12_lastOf_45 kd_100 (rf_100_31 hD.1) ?_
        refine ev_iload 48 dX12_lastOf_48 rfl ?_
        refine ev_ialdJ (x := s 4 i) (j := i) 50 dX12_lastOf_50 (Nat.le_of_ble_eq_true rfl) ty_117 (pm_inI (by omega) (by omega)) (nI_clamp (by omega)) (hD.r4 (by omega)) ?_
        refine ev_if_ne 51 59 dX12_lastOf_51 rfl (fun c_51 => ?_) (fun c_51 => ?_)
        · refine ev_iload_n 59 dX12_lastOf_59 rfl ?_
          refine ev_istore_n (ls' := [.ref 100, .int (nI w), .int m, .int (pFind e n s (nI (1 - w)) m i), .int (pCn s (nI w) i + 1), .int (nI i)]) 60 dX12_lastOf_60 (Nat.le_of_ble_eq_true rfl) rfl ?_
          refine ev_iinc (y := nI (i + 1)) (ls' := [.ref 100, .int (nI w), .int m, .int (pFind e n s (nI (1 - w)) m i), .int (pCn s (nI w) i + 1), .int (nI (i + 1))]) 61 dX12_lastOf_61 rfl (nI_add i 1) rfl ?_
          refine ev_goto 64 8 dX12_lastOf_64 rfl ?_
          have hf := pFind_up (e := e) (m := m) hn8 (k := i) (by omega) hw hW
          have hc : pCn s (nI w) (i + 1) = pCn s (nI w) i + (if s 3 i = nI w then 1 else 0) := rfl
          simp only [↓reduceIte, Bool.false_eq_true, c_25, h_38, c_51] at hf hc
          rw [← hf]
          first | rw [← hc] | rw [show pCn s (nI w) i = pCn s (nI w) (i + 1) by rw [hc]; grind]
          exact ih (i + 1) (by omega) K
        · refine ev_iload 54 dX12_lastOf_54 rfl ?_
          refine ev_goto 56 60 dX12_lastOf_56 rfl ?_
          refine ev_istore_n (ls' := [.ref 100, .int (nI w), .int m, .int (nI i), .int (pCn s (nI w) i + 1), .int (nI i)]) 60 dX12_lastOf_60 (Nat.le_of_ble_eq_true rfl) rfl ?_
          refine ev_iinc (y := nI (i + 1)) (ls' := [.ref 100, .int (nI w), .int m, .int (nI i), .int (pCn s (nI w) i + 1), .int (nI (i + 1))]) 61 dX12_lastOf_61 rfl (nI_add i 1) rfl ?_
          refine ev_goto 64 8 dX12_lastOf_64 rfl ?_
          have hf := pFind_up (e := e) (m := m) hn8 (k := i) (by omega) hw hW
          have hc : pCn s (nI w) (i + 1) = pCn s (nI w) i + (if s 3 i = nI w then 1 else 0) := rfl
          simp only [↓reduceIte, Bool.false_eq_true, c_25, h_38, c_51] at hf hc
          rw [← hf]
          first | rw [← hc] | rw [show pCn s (nI w) i = pCn s (nI w) (i + 1) by rw [hc]; grind]
          exact ih (i + 1) (by omega) K
      · refine ev_ifT 41 59 dX12_lastOf_41 rfl (by decide) ?_
        refine ev_iload_n 59 dX12_lastOf_59 rfl ?_
        refine ev_istore_n (ls' := [.ref 100, .int (nI w), .int m, .int (pFind e n s (nI (1 - w)) m i), .int (pCn s (nI w) i + 1), .int (nI i)]) 60 dX12_lastOf_60 (Nat.le_of_ble_eq_true rfl) rfl ?_
        refine ev_iinc (y := nI (i + 1)) (ls' := [.ref 100, .int (nI w), .int m, .int (pFind e n s (nI (1 - w)) m i), .int (pCn s (nI w) i + 1), .int (nI (i + 1))]) 61 dX12_lastOf_61 rfl (nI_add i 1) rfl ?_
        refine ev_goto 64 8 dX12_lastOf_64 rfl ?_
        have hf := pFind_up (e := e) (m := m) hn8 (k := i) (by omega) hw hW
        have hc : pCn s (nI w) (i + 1) = pCn s (nI w) i + (if s 3 i = nI w then 1 else 0) := rfl
        simp only [↓reduceIte, Bool.false_eq_true, c_25, h_38] at hf hc
        rw [← hf]
        first | rw [← hc] | rw [show pCn s (nI w) i = pCn s (nI w) (i + 1) by rw [hc]; grind]
        exact ih (i + 1) (by omega) K
    · refine ev_goto 28 61 dX12_lastOf_28 rfl ?_
      refine ev_iinc (y := nI (i + 1)) (ls' := [.ref 100, .int (nI w), .int m, .int (pFind e n s (nI (1 - w)) m i), .int (pCn s (nI w) i), .int (nI (i + 1))]) 61 dX12_lastOf_61 rfl (nI_add i 1) rfl ?_
      refine ev_goto 64 8 dX12_lastOf_64 rfl ?_
      have hf := pFind_up (e := e) (m := m) hn8 (k := i) (by omega) hw hW
      have hc : pCn s (nI w) (i + 1) = pCn s (nI w) i + (if s 3 i = nI w then 1 else 0) := rfl
      simp only [↓reduceIte, Bool.false_eq_true, c_25] at hf hc
      rw [← hf]
      first | rw [← hc] | rw [show pCn s (nI w) i = pCn s (nI w) (i + 1) by rw [hc]; grind]
      exact ih (i + 1) (by omega) K

