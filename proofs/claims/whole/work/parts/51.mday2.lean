/-! the reference's day: its steps -/
theorem DM.lan {e : pmV} {n tx z : Nat} {LT : pmT} {g : Nat → Int32} {s : dT} {p : Int64} {v : pmV} (hC : Cpl n tx z LT e) (hD : DM e n g s p v) : cLan n LT v := hC.2.1.ag (hD.fd.ag fun _ _ => DcA.lan) (fun j => hD.fd.2 33 j (by omega))
theorem DM.cg {e : pmV} {n : Nat} {g : Nat → Int32} {s s' : dT} {p : Int64} {v : pmV} (h : DM e n g s p v) (e0 : ∀ j, j < 2 → s 0 j = s' 0 j) (e1 : ∀ j, j < 2 → s 1 j = s' 1 j) (e3 : ∀ j, j < n → s 3 j = s' 3 j) (e4 : ∀ j, j < n → s 4 j = s' 4 j) (e5 : ∀ j, j < 2 → s 5 j = s' 5 j) (e9 : ∀ j, j < 2 → s 9 j = s' 9 j) : DM e n g s' p v := by
  obtain ⟨h1, h2, h4, a0, a1, a3, a4, ⟨b0, b1⟩, a9, c⟩ := h
  exact ⟨h1, h2, h4, fun i hi => (a0 i hi).trans (e0 i hi), fun i hi => (a1 i hi).trans (e1 i hi), fun i hi => (a3 i hi).trans (e3 i hi), fun i hi => (a4 i hi).trans (e4 i hi), ⟨b0.trans (e5 0 (by decide)), b1.trans (e5 1 (by decide))⟩, fun i hi => (a9 i hi).trans (e9 i hi), c⟩
theorem DM.any {e : pmV} (n : Nat) {v : pmV} (h1 : pmRf v) (h2 : dFr DcA e v) : DM e n (fun i => v.1 100 (34 + i)) (fun q j => if q = 0 then v.1 113 j else if q = 1 then v.1 114 j else if q = 3 then v.1 116 j else if q = 4 then v.1 117 j else if q = 5 then v.1 100 (32 + j) else v.1 115 j) (v.2.1 100 40) v :=
  ⟨h1, h2, rfl, fun _ _ => rfl, fun _ _ => rfl, fun _ _ => rfl, fun _ _ => rfl, ⟨rfl, rfl⟩, fun _ _ => rfl, ⟨rfl, rfl, rfl, rfl, rfl, rfl⟩⟩
theorem car3 {nb : Nat} (hn : nb ≤ 20) : (nI nb + 2 + 1) / 2 = nI ((nb + 3) / 2) := by
  rw [show (2 : Int32) = nI 2 from rfl, nI_add, nI_1, pk_div (by omega) (by omega) (by omega)]
theorem car4 {nb a : Nat} (hn : nb ≤ 20) (ha : a < 2 ^ 30) : mxI 0 (nI nb - nI a / 10) = nI (nb - a / 10) := by
  rw [show (10 : Int32) = nI 10 from rfl, pk_div (by omega) (by omega) (by omega), mx0 (by omega) (by omega)]
theorem car4b {nb a : Nat} (hn : nb ≤ 20) (ha : a < 2 ^ 30) (h : ¬ a / 10 ≤ nb) : mxI 0 (nI nb - nI a / 10) = 0 := by
  rw [car4 hn ha, show nb - a / 10 = 0 by omega, nI_0]
theorem c_X12_carries {X : pmX} {d : Nat} {v : pmV} {P : Option Value → pmT → pmV → Prop} {LT : pmT} {e : pmV} {n tx z : Nat} {g : Nat → Int32} {s : dT} {p : Int64} {l a : Nat} (hC : Cpl n tx z LT e) (hD : DM e n g s p v) (hi : l < n) (ha : a < 2 ^ 30) (k : P (some (.int (pCar e l (nI a)))) (pmT0 ++ LT) v) : EvP X d MX12_carries 0 [.ref 100, .int (nI l), .int (nI a)] [] (pmT0 ++ LT) v P := by
  have hn8 := hC.2.1.1
  obtain ⟨nb, hnb, enb⟩ := nb_of hC.2.1 hi
  rcases kd6 (hC.2.1.2.2.2.2 l hi).2.2.2.2.2.1 with h | h | h | h | h | h
  · refine ev_aload_n 0 dX12_carries_0 rfl (by decide) ?_
    refine gf_12_11 (pc := 1) rfl dX12_carries_1 kd_100 (rf_100_5 hD.1) ?_
    refine ev_iload_n 4 dX12_carries_4 rfl ?_
    refine ev_ialdJ (x := 0) (j := l) 5 dX12_carries_5 (Nat.le_of_ble_eq_true rfl) ty_101 (pm_inI (by omega) (by omega)) (nI_clamp (by omega)) (((hD.c (by unfold DcA DcX; omega)).trans (hC.2.1.2.2.2.2 l (by omega)).2.2.1).trans h) ?_
    refine ev_swOut 6 85 dX12_carries_6 (by decide) rfl ?_
    refine ev_aload_n 85 dX12_carries_85 rfl (by decide) ?_
    refine gf_12_15 (pc := 86) rfl dX12_carries_86 kd_100 (rf_100_6 hD.1) ?_
    refine ev_iload_n 89 dX12_carries_89 rfl ?_
    refine ev_ialdJ (x := nI nb) (j := l) 90 dX12_carries_90 (Nat.le_of_ble_eq_true rfl) ty_102 (pm_inI (by omega) (by omega)) (nI_clamp (by omega)) (((hD.c (by unfold DcA DcX; omega)).trans (hC.2.1.2.2.2.2 l (by omega)).2.2.2.1).trans enb) ?_
    refine ev_ireturn 91 dX12_carries_91 rfl rfl ?_
    rw [show pCar e l (nI a) = nI nb by unfold pCar pK; rw [h]; rw [if_neg (by decide), if_neg (by decide), if_neg (by decide)]; exact enb] at k
    exact k
  · refine ev_aload_n 0 dX12_carries_0 rfl (by decide) ?_
    refine gf_12_11 (pc := 1) rfl dX12_carries_1 kd_100 (rf_100_5 hD.1) ?_
    refine ev_iload_n 4 dX12_carries_4 rfl ?_
    refine ev_ialdJ (x := 1) (j := l) 5 dX12_carries_5 (Nat.le_of_ble_eq_true rfl) ty_101 (pm_inI (by omega) (by omega)) (nI_clamp (by omega)) (((hD.c (by unfold DcA DcX; omega)).trans (hC.2.1.2.2.2.2 l (by omega)).2.2.1).trans h) ?_
    refine ev_swIn 6 36 dX12_carries_6 (by decide) rfl rfl ?_
    refine ev_aload_n 36 dX12_carries_36 rfl (by decide) ?_
    refine gf_12_15 (pc := 37) rfl dX12_carries_37 kd_100 (rf_100_6 hD.1) ?_
    refine ev_iload_n 40 dX12_carries_40 rfl ?_
    refine ev_ialdJ (x := nI nb) (j := l) 41 dX12_carries_41 (Nat.le_of_ble_eq_true rfl) ty_102 (pm_inI (by omega) (by omega)) (nI_clamp (by omega)) (((hD.c (by unfold DcA DcX; omega)).trans (hC.2.1.2.2.2.2 l (by omega)).2.2.2.1).trans enb) ?_
    refine ev_iconst 42 dX12_carries_42 kI_2 ?_
    refine ev_iadd 43 dX12_carries_43 ?_
    refine ev_cst (y := nI (nb + 2)) (nI_add nb 2) ?_
    refine ev_ireturn 44 dX12_carries_44 rfl rfl ?_
    rw [show pCar e l (nI a) = nI (nb + 2) by unfold pCar pK; rw [h]; rw [if_pos rfl]; rw [enb]; exact nI_add nb 2] at k
    exact k
  · refine ev_aload_n 0 dX12_carries_0 rfl (by decide) ?_
    refine gf_12_11 (pc := 1) rfl dX12_carries_1 kd_100 (rf_100_5 hD.1) ?_
    refine ev_iload_n 4 dX12_carries_4 rfl ?_
    refine ev_ialdJ (x := 2) (j := l) 5 dX12_carries_5 (Nat.le_of_ble_eq_true rfl) ty_101 (pm_inI (by omega) (by omega)) (nI_clamp (by omega)) (((hD.c (by unfold DcA DcX; omega)).trans (hC.2.1.2.2.2.2 l (by omega)).2.2.1).trans h) ?_
    refine ev_swIn 6 85 dX12_carries_6 (by decide) rfl rfl ?_
    refine ev_aload_n 85 dX12_carries_85 rfl (by decide) ?_
    refine gf_12_15 (pc := 86) rfl dX12_carries_86 kd_100 (rf_100_6 hD.1) ?_
    refine ev_iload_n 89 dX12_carries_89 rfl ?_
    refine ev_ialdJ (x := nI nb) (j := l) 90 dX12_carries_90 (Nat.le_of_ble_eq_true rfl) ty_102 (pm_inI (by omega) (by omega)) (nI_clamp (by omega)) (((hD.c (by unfold DcA DcX; omega)).trans (hC.2.1.2.2.2.2 l (by omega)).2.2.2.1).trans enb) ?_
    refine ev_ireturn 91 dX12_carries_91 rfl rfl ?_
    rw [show pCar e l (nI a) = nI nb by unfold pCar pK; rw [h]; rw [if_neg (by decide), if_neg (by decide), if_neg (by decide)]; exact enb] at k
    exact k
  · refine ev_aload_n 0 dX12_carries_0 rfl (by decide) ?_
    refine gf_12_11 (pc := 1) rfl dX12_carries_1 kd_100 (rf_100_5 hD.1) ?_
    refine ev_iload_n 4 dX12_carries_4 rfl ?_
    refine ev_ialdJ (x := 3) (j := l) 5 dX12_carries_5 (Nat.le_of_ble_eq_true rfl) ty_101 (pm_inI (by omega) (by omega)) (nI_clamp (by omega)) (((hD.c (by unfold DcA DcX; omega)).trans (hC.2.1.2.2.2.2 l (by omega)).2.2.1).trans h) ?_
    refine ev_swIn 6 45 dX12_carries_6 (by decide) rfl rfl ?_
    refine ev_aload_n 45 dX12_carries_45 rfl (by decide) ?_
    refine gf_12_15 (pc := 46) rfl dX12_carries_46 kd_100 (rf_100_6 hD.1) ?_
    refine ev_iload_n 49 dX12_carries_49 rfl ?_
    refine ev_ialdJ (x := nI nb) (j := l) 50 dX12_carries_50 (Nat.le_of_ble_eq_true rfl) ty_102 (pm_inI (by omega) (by omega)) (nI_clamp (by omega)) (((hD.c (by unfold DcA DcX; omega)).trans (hC.2.1.2.2.2.2 l (by omega)).2.2.2.1).trans enb) ?_
    refine ev_iconst 51 dX12_carries_51 kI_3 ?_
    refine ev_iadd 52 dX12_carries_52 ?_
    refine ev_cst (y := nI (nb + 3)) (nI_add nb 3) ?_
    refine ev_iconst 53 dX12_carries_53 kI_2 ?_
    refine ev_idiv 54 dX12_carries_54 (by decide) ?_
    refine ev_cst (y := nI ((nb + 3) / 2)) (pk_div (a := (nb + 3)) (d := 2) (by omega) (by omega) (by omega)) ?_
    refine ev_ireturn 55 dX12_carries_55 rfl rfl ?_
    rw [show pCar e l (nI a) = nI ((nb + 3) / 2) by unfold pCar pK; rw [h]; rw [if_neg (by decide), if_pos rfl]; rw [enb]; exact car3 hnb] at k
    exact k
  · refine ev_aload_n 0 dX12_carries_0 rfl (by decide) ?_
    refine gf_12_11 (pc := 1) rfl dX12_carries_1 kd_100 (rf_100_5 hD.1) ?_
    refine ev_iload_n 4 dX12_carries_4 rfl ?_
    refine ev_ialdJ (x := 4) (j := l) 5 dX12_carries_5 (Nat.le_of_ble_eq_true rfl) ty_101 (pm_inI (by omega) (by omega)) (nI_clamp (by omega)) (((hD.c (by unfold DcA DcX; omega)).trans (hC.2.1.2.2.2.2 l (by omega)).2.2.1).trans h) ?_
    refine ev_swIn 6 56 dX12_carries_6 (by decide) rfl rfl ?_
    refine ev_iload_n 56 dX12_carries_56 rfl ?_
    refine ev_bipush 57 dX12_carries_57 kB_10 ?_
    refine ev_idiv 59 dX12_carries_59 (by decide) ?_
    refine ev_cst (y := nI (a / 10)) (pk_div (a := a) (d := 10) (by omega) (by omega) (by omega)) ?_
    refine ev_aload_n 60 dX12_carries_60 rfl (by decide) ?_
    refine gf_12_15 (pc := 61) rfl dX12_carries_61 kd_100 (rf_100_6 hD.1) ?_
    refine ev_iload_n 64 dX12_carries_64 rfl ?_
    refine ev_ialdJ (x := nI nb) (j := l) 65 dX12_carries_65 (Nat.le_of_ble_eq_true rfl) ty_102 (pm_inI (by omega) (by omega)) (nI_clamp (by omega)) (((hD.c (by unfold DcA DcX; omega)).trans (hC.2.1.2.2.2.2 l (by omega)).2.2.2.1).trans enb) ?_
    refine ev_ic_leN (a := (a / 10)) (b := nb) 66 73 dX12_carries_66 rfl (by omega) (by omega) (fun c_66 => ?_) (fun c_66 => ?_)
    · refine ev_aload_n 73 dX12_carries_73 rfl (by decide) ?_
      refine gf_12_15 (pc := 74) rfl dX12_carries_74 kd_100 (rf_100_6 hD.1) ?_
      refine ev_iload_n 77 dX12_carries_77 rfl ?_
      refine ev_ialdJ (x := nI nb) (j := l) 78 dX12_carries_78 (Nat.le_of_ble_eq_true rfl) ty_102 (pm_inI (by omega) (by omega)) (nI_clamp (by omega)) (((hD.c (by unfold DcA DcX; omega)).trans (hC.2.1.2.2.2.2 l (by omega)).2.2.2.1).trans enb) ?_
      refine ev_iload_n 79 dX12_carries_79 rfl ?_
      refine ev_bipush 80 dX12_carries_80 kB_10 ?_
      refine ev_idiv 82 dX12_carries_82 (by decide) ?_
      refine ev_cst (y := nI (a / 10)) (pk_div (a := a) (d := 10) (by omega) (by omega) (by omega)) ?_
      refine ev_isub 83 dX12_carries_83 ?_
      refine ev_cst (y := nI (nb - (a / 10))) (pk_sub (a := nb) (b := (a / 10)) (by omega)) ?_
      refine ev_ireturn 84 dX12_carries_84 rfl rfl ?_
      rw [show pCar e l (nI a) = nI (nb - (a / 10)) by unfold pCar pK; rw [h]; rw [if_neg (by decide), if_neg (by decide), if_pos rfl]; rw [enb]; exact car4 hnb ha] at k
      exact k
    · refine ev_iconst 69 dX12_carries_69 kI_0 ?_
      refine ev_goto 70 84 dX12_carries_70 rfl ?_
      refine ev_ireturn 84 dX12_carries_84 rfl rfl ?_
      rw [show pCar e l (nI a) = 0 by unfold pCar pK; rw [h]; rw [if_neg (by decide), if_neg (by decide), if_pos rfl]; rw [enb]; exact car4b hnb ha c_66] at k
      exact k
  · refine ev_aload_n 0 dX12_carries_0 rfl (by decide) ?_
    refine gf_12_11 (pc := 1) rfl dX12_carries_1 kd_100 (rf_100_5 hD.1) ?_
    refine ev_iload_n 4 dX12_carries_4 rfl ?_
    refine ev_ialdJ (x := 5) (j := l) 5 dX12_carries_5 (Nat.le_of_ble_eq_true rfl) ty_101 (pm_inI (by omega) (by omega)) (nI_clamp (by omega)) (((hD.c (by unfold DcA DcX; omega)).trans (hC.2.1.2.2.2.2 l (by omega)).2.2.1).trans h) ?_
    refine ev_swOut 6 85 dX12_carries_6 (by decide) rfl ?_
    refine ev_aload_n 85 dX12_carries_85 rfl (by decide) ?_
    refine gf_12_15 (pc := 86) rfl dX12_carries_86 kd_100 (rf_100_6 hD.1) ?_
    refine ev_iload_n 89 dX12_carries_89 rfl ?_
    refine ev_ialdJ (x := nI nb) (j := l) 90 dX12_carries_90 (Nat.le_of_ble_eq_true rfl) ty_102 (pm_inI (by omega) (by omega)) (nI_clamp (by omega)) (((hD.c (by unfold DcA DcX; omega)).trans (hC.2.1.2.2.2.2 l (by omega)).2.2.2.1).trans enb) ?_
    refine ev_ireturn 91 dX12_carries_91 rfl rfl ?_
    rw [show pCar e l (nI a) = nI nb by unfold pCar pK; rw [h]; rw [if_neg (by decide), if_neg (by decide), if_neg (by decide)]; exact enb] at k
    exact k
theorem c_X12_mayTurn {X : pmX} {d : Nat} {v : pmV} {P : Option Value → pmT → pmV → Prop} {LT : pmT} {e : pmV} {n tx z : Nat} {g : Nat → Int32} {s : dT} {p : Int64} {l : Nat} {m : Int32} (hC : Cpl n tx z LT e) (hD : DM e n g s p v) (hi : l < n) (kt : pMay e l m = true → P (some (.int 1)) (pmT0 ++ LT) v) (kf : ¬ pMay e l m = true → P (some (.int 0)) (pmT0 ++ LT) v) : EvP X d MX12_mayTurn 0 [.ref 100, .int (nI l), .int m] [] (pmT0 ++ LT) v P := by
  have hn8 := hC.2.1.1
  refine ev_aload_n 0 dX12_mayTurn_0 rfl (by decide) ?_
  refine gf_12_11 (pc := 1) rfl dX12_mayTurn_1 kd_100 (rf_100_5 hD.1) ?_
  refine ev_iload_n 4 dX12_mayTurn_4 rfl ?_
  refine ev_ialdJ (x := e.1 (124 + l) 0) (j := l) 5 dX12_mayTurn_5 (Nat.le_of_ble_eq_true rfl) ty_101 (pm_inI (by omega) (by omega)) (nI_clamp (by omega)) ((hD.c (by unfold DcA DcX; omega)).trans (hC.2.1.2.2.2.2 l (by omega)).2.2.1) ?_
  refine ev_iconst 6 dX12_mayTurn_6 kI_5 ?_
  refine ev_ic_eq 7 30 dX12_mayTurn_7 rfl (fun c_7 => ?_) (fun c_7 => ?_)
  · refine ev_iconst 30 dX12_mayTurn_30 kI_0 ?_
    refine ev_ireturn 31 dX12_mayTurn_31 rfl rfl ?_
    exact kf (by simp [pMay, pK, c_7])
  · refine ev_aload_n 10 dX12_mayTurn_10 rfl (by decide) ?_
    refine gf_12_11 (pc := 11) rfl dX12_mayTurn_11 kd_100 (rf_100_5 hD.1) ?_
    refine ev_iload_n 14 dX12_mayTurn_14 rfl ?_
    refine ev_ialdJ (x := e.1 (124 + l) 0) (j := l) 15 dX12_mayTurn_15 (Nat.le_of_ble_eq_true rfl) ty_101 (pm_inI (by omega) (by omega)) (nI_clamp (by omega)) ((hD.c (by unfold DcA DcX; omega)).trans (hC.2.1.2.2.2.2 l (by omega)).2.2.1) ?_
    refine ev_iconst 16 dX12_mayTurn_16 kI_4 ?_
    refine ev_ic_ne 17 26 dX12_mayTurn_17 rfl (fun c_17 => ?_) (fun c_17 => ?_)
    · refine ev_iconst 26 dX12_mayTurn_26 kI_1 ?_
      refine ev_goto 27 31 dX12_mayTurn_27 rfl ?_
      refine ev_ireturn 31 dX12_mayTurn_31 rfl rfl ?_
      exact kt (by simp [pMay, pK, c_7, c_17])
    · refine ev_iload_n 20 dX12_mayTurn_20 rfl ?_
      refine ev_iconst 21 dX12_mayTurn_21 kI_5 ?_
      refine ev_irem 22 dX12_mayTurn_22 (by decide) ?_
      refine ev_if_ne 23 30 dX12_mayTurn_23 rfl (fun c_23 => ?_) (fun c_23 => ?_)
      · refine ev_iconst 30 dX12_mayTurn_30 kI_0 ?_
        refine ev_ireturn 31 dX12_mayTurn_31 rfl rfl ?_
        exact kf (by simp [pMay, pK, c_7, c_17, c_23])
      · refine ev_iconst 26 dX12_mayTurn_26 kI_1 ?_
        refine ev_goto 27 31 dX12_mayTurn_27 rfl ?_
        refine ev_ireturn 31 dX12_mayTurn_31 rfl rfl ?_
        exact kt (by simp [pMay, pK, c_7, c_17, c_23])

theorem c_X12_restsOf {X : pmX} {d : Nat} {v : pmV} {P : Option Value → pmT → pmV → Prop} {LT : pmT} {e : pmV} {n tx z : Nat} {g : Nat → Int32} {s : dT} {p : Int64} {l : Nat} (hC : Cpl n tx z LT e) (hD : DM e n g s p v) (hi : l < n) (k : P (some (.int (pRes e l (e.1 34 2)))) (pmT0 ++ LT) v) : EvP X d MX12_restsOf 0 [.ref 100, .int (nI l)] [] (pmT0 ++ LT) v P := by
  have hn8 := hC.2.1.1
  refine ev_aload_n 0 dX12_restsOf_0 rfl (by decide) ?_
  refine gf_12_11 (pc := 1) rfl dX12_restsOf_1 kd_100 (rf_100_5 hD.1) ?_
  refine ev_iload_n 4 dX12_restsOf_4 rfl ?_
  refine ev_ialdJ (x := e.1 (124 + l) 0) (j := l) 5 dX12_restsOf_5 (Nat.le_of_ble_eq_true rfl) ty_101 (pm_inI (by omega) (by omega)) (nI_clamp (by omega)) ((hD.c (by unfold DcA DcX; omega)).trans (hC.2.1.2.2.2.2 l (by omega)).2.2.1) ?_
  refine ev_iconst 6 dX12_restsOf_6 kI_1 ?_
  refine ev_ic_eq 7 20 dX12_restsOf_7 rfl (fun c_7 => ?_) (fun c_7 => ?_)
  · refine ev_aload_n 20 dX12_restsOf_20 rfl (by decide) ?_
    refine gf_12_28 (x := e.1 34 2) (pc := 21) rfl dX12_restsOf_21 kd_100 ((hD.c (by unfold DcA DcX; omega)).trans hC.2.2.1.2.2.1.1) ?_
    refine ev_iconst 24 dX12_restsOf_24 kI_1 ?_
    refine ev_iadd 25 dX12_restsOf_25 ?_
    refine ev_goto 26 52 dX12_restsOf_26 rfl ?_
    refine ev_ireturn 52 dX12_restsOf_52 rfl rfl ?_
    rw [show pRes e l (e.1 34 2) = (e.1 34 2) + 1 by simp [pRes, pK, c_7]] at k
    exact k
  · refine ev_aload_n 10 dX12_restsOf_10 rfl (by decide) ?_
    refine gf_12_11 (pc := 11) rfl dX12_restsOf_11 kd_100 (rf_100_5 hD.1) ?_
    refine ev_iload_n 14 dX12_restsOf_14 rfl ?_
    refine ev_ialdJ (x := e.1 (124 + l) 0) (j := l) 15 dX12_restsOf_15 (Nat.le_of_ble_eq_true rfl) ty_101 (pm_inI (by omega) (by omega)) (nI_clamp (by omega)) ((hD.c (by unfold DcA DcX; omega)).trans (hC.2.1.2.2.2.2 l (by omega)).2.2.1) ?_
    refine ev_iconst 16 dX12_restsOf_16 kI_3 ?_
    refine ev_ic_ne 17 29 dX12_restsOf_17 rfl (fun c_17 => ?_) (fun c_17 => ?_)
    · refine ev_aload_n 29 dX12_restsOf_29 rfl (by decide) ?_
      refine gf_12_11 (pc := 30) rfl dX12_restsOf_30 kd_100 (rf_100_5 hD.1) ?_
      refine ev_iload_n 33 dX12_restsOf_33 rfl ?_
      refine ev_ialdJ (x := e.1 (124 + l) 0) (j := l) 34 dX12_restsOf_34 (Nat.le_of_ble_eq_true rfl) ty_101 (pm_inI (by omega) (by omega)) (nI_clamp (by omega)) ((hD.c (by unfold DcA DcX; omega)).trans (hC.2.1.2.2.2.2 l (by omega)).2.2.1) ?_
      refine ev_iconst 35 dX12_restsOf_35 kI_4 ?_
      refine ev_ic_ne 36 48 dX12_restsOf_36 rfl (fun c_36 => ?_) (fun c_36 => ?_)
      · refine ev_aload_n 48 dX12_restsOf_48 rfl (by decide) ?_
        refine gf_12_28 (x := e.1 34 2) (pc := 49) rfl dX12_restsOf_49 kd_100 ((hD.c (by unfold DcA DcX; omega)).trans hC.2.2.1.2.2.1.1) ?_
        refine ev_ireturn 52 dX12_restsOf_52 rfl rfl ?_
        rw [show pRes e l (e.1 34 2) = e.1 34 2 by simp [pRes, pK, c_7, c_17, c_36]] at k
        exact k
      · refine ev_iconst 39 dX12_restsOf_39 kI_2 ?_
        refine ev_aload_n 40 dX12_restsOf_40 rfl (by decide) ?_
        refine gf_12_28 (x := e.1 34 2) (pc := 41) rfl dX12_restsOf_41 kd_100 ((hD.c (by unfold DcA DcX; omega)).trans hC.2.2.1.2.2.1.1) ?_
        refine ev_imul 44 dX12_restsOf_44 ?_
        refine ev_goto 45 52 dX12_restsOf_45 rfl ?_
        refine ev_ireturn 52 dX12_restsOf_52 rfl rfl ?_
        rw [show pRes e l (e.1 34 2) = 2 * (e.1 34 2) by simp [pRes, pK, c_7, c_17, c_36]] at k
        exact k
    · refine ev_aload_n 20 dX12_restsOf_20 rfl (by decide) ?_
      refine gf_12_28 (x := e.1 34 2) (pc := 21) rfl dX12_restsOf_21 kd_100 ((hD.c (by unfold DcA DcX; omega)).trans hC.2.2.1.2.2.1.1) ?_
      refine ev_iconst 24 dX12_restsOf_24 kI_1 ?_
      refine ev_iadd 25 dX12_restsOf_25 ?_
      refine ev_goto 26 52 dX12_restsOf_26 rfl ?_
      refine ev_ireturn 52 dX12_restsOf_52 rfl rfl ?_
      rw [show pRes e l (e.1 34 2) = (e.1 34 2) + 1 by simp [pRes, pK, c_7, c_17]] at k
      exact k

theorem c_X12_take {X : pmX} {d : Nat} {v : pmV} {P : Option Value → pmT → pmV → Prop} {LT : pmT} {e : pmV} {n : Nat} {g : Nat → Int32} {s : dT} {p : Int64} {w : Nat} {most b : Int32} (hD : DM e n g s p v) (hw : w < 2) (k : ∀ v', DM e n g (pTake s w most b) p v' → P none (pmT0 ++ LT) v') : EvP X (d + 1) MX12_take 0 [.ref 100, .int (nI w), .int most, .int b, pmJ, pmJ] [] (pmT0 ++ LT) v P := by
  refine ev_aload_n 0 dX12_take_0 rfl (by decide) ?_
  refine ev_iload_n 1 dX12_take_1 rfl ?_
  refine ev_iload_n 2 dX12_take_2 rfl ?_
  refine ev_if_eq 3 15 dX12_take_3 rfl (fun c_3 => ?_) (fun c_3 => ?_)
  · refine ev_aload_n 15 dX12_take_15 rfl (by decide) ?_
    refine gf_12_134 (pc := 16) rfl dX12_take_16 kd_100 (rf_100_27 hD.1) ?_
    refine ev_iload_n 19 dX12_take_19 rfl ?_
    refine ev_ialdJ (x := s 0 w) (j := w) 20 dX12_take_20 (Nat.le_of_ble_eq_true rfl) ty_113 (pm_inI (by omega) (by omega)) (nI_clamp (by omega)) (hD.r0 (by omega)) ?_
    refine cv_12_280_12 (pc := 21) rfl dX12_take_21 kd_100 (Nat.le_of_ble_eq_true rfl) ?_
    refine c_X12_min ?_
    refine ev_cst (y := mnI most (s 0 w)) (mn_eq _ _) ?_
    refine ev_istore (ls' := [.ref 100, .int (nI w), .int most, .int b, .int (mnI most (s 0 w)), pmJ]) 24 dX12_take_24 (Nat.le_of_ble_eq_true rfl) rfl ?_
    refine ev_iload_n 26 dX12_take_26 rfl ?_
    refine ev_if_eq 27 34 dX12_take_27 rfl (fun c_27 => ?_) (fun c_27 => absurd c_3 c_27)
    refine ev_aload_n 34 dX12_take_34 rfl (by decide) ?_
    refine ev_iload 35 dX12_take_35 rfl ?_
    refine ev_aload_n 37 dX12_take_37 rfl (by decide) ?_
    refine gf_12_134 (pc := 38) rfl dX12_take_38 kd_100 (rf_100_27 hD.1) ?_
    refine ev_iload_n 41 dX12_take_41 rfl ?_
    refine ev_ialdJ (x := s 0 w) (j := w) 42 dX12_take_42 (Nat.le_of_ble_eq_true rfl) ty_113 (pm_inI (by omega) (by omega)) (nI_clamp (by omega)) (hD.r0 (by omega)) ?_
    refine ev_aload_n 43 dX12_take_43 rfl (by decide) ?_
    refine gf_12_137 (pc := 44) rfl dX12_take_44 kd_100 (rf_100_28 hD.1) ?_
    refine ev_iload_n 47 dX12_take_47 rfl ?_
    refine ev_ialdJ (x := s 1 w) (j := w) 48 dX12_take_48 (Nat.le_of_ble_eq_true rfl) ty_114 (pm_inI (by omega) (by omega)) (nI_clamp (by omega)) (hD.r1 (by omega)) ?_
    refine ev_isub 49 dX12_take_49 ?_
    refine cv_12_280_12 (pc := 50) rfl dX12_take_50 kd_100 (Nat.le_of_ble_eq_true rfl) ?_
    refine c_X12_min ?_
    refine ev_cst (y := mnI (mnI most (s 0 w)) ((s 0 w) - (s 1 w))) (mn_eq _ _) ?_
    refine ev_istore (ls' := [.ref 100, .int (nI w), .int most, .int b, .int (mnI most (s 0 w)), .int (mnI (mnI most (s 0 w)) ((s 0 w) - (s 1 w)))]) 53 dX12_take_53 (Nat.le_of_ble_eq_true rfl) rfl ?_
    refine ev_aload_n 55 dX12_take_55 rfl (by decide) ?_
    refine gf_12_134 (pc := 56) rfl dX12_take_56 kd_100 (rf_100_27 hD.1) ?_
    refine ev_iload_n 59 dX12_take_59 rfl ?_
    refine ev_dup2 60 dX12_take_60 rfl rfl ?_
    refine ev_ialdJ (x := s 0 w) (j := w) 61 dX12_take_61 (Nat.le_of_ble_eq_true rfl) ty_113 (pm_inI (by omega) (by omega)) (nI_clamp (by omega)) (hD.r0 (by omega)) ?_
    refine ev_iload 62 dX12_take_62 rfl ?_
    refine ev_isub 64 dX12_take_64 ?_
    refine ev_iastJ (j := w) 65 dX12_take_65 (Nat.le_of_ble_eq_true rfl) ty_113 (pm_inI (by omega) (by omega)) (nI_clamp (by omega)) ?_
    refine ev_abs (Q := DM e n g (dU s 0 w ((s 0 w) - (mnI most (s 0 w)))) p) (hD.u0 w ((s 0 w) - (mnI most (s 0 w)))) (fun v1 hD => ?_)
    refine ev_aload_n 66 dX12_take_66 rfl (by decide) ?_
    refine gf_12_137 (pc := 67) rfl dX12_take_67 kd_100 (rf_100_28 hD.1) ?_
    refine ev_iload_n 70 dX12_take_70 rfl ?_
    refine ev_dup2 71 dX12_take_71 rfl rfl ?_
    refine ev_ialdJ (x := s 1 w) (j := w) 72 dX12_take_72 (Nat.le_of_ble_eq_true rfl) ty_114 (pm_inI (by omega) (by omega)) (nI_clamp (by omega)) ((hD.r1 (by omega)).trans (dU_ne (by decide))) ?_
    refine ev_iload 73 dX12_take_73 rfl ?_
    refine ev_iload 75 dX12_take_75 rfl ?_
    refine ev_isub 77 dX12_take_77 ?_
    refine ev_isub 78 dX12_take_78 ?_
    refine ev_iastJ (j := w) 79 dX12_take_79 (Nat.le_of_ble_eq_true rfl) ty_114 (pm_inI (by omega) (by omega)) (nI_clamp (by omega)) ?_
    refine ev_abs (Q := DM e n g (dU (dU s 0 w ((s 0 w) - (mnI most (s 0 w)))) 1 w ((s 1 w) - ((mnI most (s 0 w)) - (mnI (mnI most (s 0 w)) ((s 0 w) - (s 1 w)))))) p) (hD.u1 w ((s 1 w) - ((mnI most (s 0 w)) - (mnI (mnI most (s 0 w)) ((s 0 w) - (s 1 w)))))) (fun v2 hD => ?_)
    refine ev_aload_n 80 dX12_take_80 rfl (by decide) ?_
    refine ev_dup 81 dX12_take_81 rfl ?_
    refine gf_12_152 (x := s 5 1) (pc := 82) rfl dX12_take_82 kd_100 (hD.r5_1.trans ((dU_ne (by decide)).trans (dU_ne (by decide)))) ?_
    refine ev_iload 85 dX12_take_85 rfl ?_
    refine ev_iadd 87 dX12_take_87 ?_
    refine pf_12_152 (pc := 88) rfl dX12_take_88 kd_100 ?_
    refine ev_abs (Q := DM e n g (dU (dU (dU s 0 w ((s 0 w) - (mnI most (s 0 w)))) 1 w ((s 1 w) - ((mnI most (s 0 w)) - (mnI (mnI most (s 0 w)) ((s 0 w) - (s 1 w)))))) 5 1 ((s 5 1) + (mnI most (s 0 w)))) p) (hD.u5_1 ((s 5 1) + (mnI most (s 0 w)))) (fun v3 hD => ?_)
    refine ev_return 91 dX12_take_91 rfl ?_
    rw [show pTake s w most b = dU (dU (dU s 0 w ((s 0 w) - (mnI most (s 0 w)))) 1 w ((s 1 w) - ((mnI most (s 0 w)) - (mnI (mnI most (s 0 w)) ((s 0 w) - (s 1 w)))))) 5 1 ((s 5 1) + (mnI most (s 0 w))) by simp [pTake, c_3, c_27]] at k
    exact k _ hD
  · refine ev_aload_n 6 dX12_take_6 rfl (by decide) ?_
    refine gf_12_137 (pc := 7) rfl dX12_take_7 kd_100 (rf_100_28 hD.1) ?_
    refine ev_iload_n 10 dX12_take_10 rfl ?_
    refine ev_ialdJ (x := s 1 w) (j := w) 11 dX12_take_11 (Nat.le_of_ble_eq_true rfl) ty_114 (pm_inI (by omega) (by omega)) (nI_clamp (by omega)) (hD.r1 (by omega)) ?_
    refine ev_goto 12 21 dX12_take_12 rfl ?_
    refine cv_12_280_12 (pc := 21) rfl dX12_take_21 kd_100 (Nat.le_of_ble_eq_true rfl) ?_
    refine c_X12_min ?_
    refine ev_cst (y := mnI most (s 1 w)) (mn_eq _ _) ?_
    refine ev_istore (ls' := [.ref 100, .int (nI w), .int most, .int b, .int (mnI most (s 1 w)), pmJ]) 24 dX12_take_24 (Nat.le_of_ble_eq_true rfl) rfl ?_
    refine ev_iload_n 26 dX12_take_26 rfl ?_
    refine ev_if_eq 27 34 dX12_take_27 rfl (fun c_27 => absurd c_27 c_3) (fun c_27 => ?_)
    refine ev_iconst 30 dX12_take_30 kI_0 ?_
    refine ev_goto 31 53 dX12_take_31 rfl ?_
    refine ev_istore (ls' := [.ref 100, .int (nI w), .int most, .int b, .int (mnI most (s 1 w)), .int 0]) 53 dX12_take_53 (Nat.le_of_ble_eq_true rfl) rfl ?_
    refine ev_aload_n 55 dX12_take_55 rfl (by decide) ?_
    refine gf_12_134 (pc := 56) rfl dX12_take_56 kd_100 (rf_100_27 hD.1) ?_
    refine ev_iload_n 59 dX12_take_59 rfl ?_
    refine ev_dup2 60 dX12_take_60 rfl rfl ?_
    refine ev_ialdJ (x := s 0 w) (j := w) 61 dX12_take_61 (Nat.le_of_ble_eq_true rfl) ty_113 (pm_inI (by omega) (by omega)) (nI_clamp (by omega)) (hD.r0 (by omega)) ?_
    refine ev_iload 62 dX12_take_62 rfl ?_
    refine ev_isub 64 dX12_take_64 ?_
    refine ev_iastJ (j := w) 65 dX12_take_65 (Nat.le_of_ble_eq_true rfl) ty_113 (pm_inI (by omega) (by omega)) (nI_clamp (by omega)) ?_
    refine ev_abs (Q := DM e n g (dU s 0 w ((s 0 w) - (mnI most (s 1 w)))) p) (hD.u0 w ((s 0 w) - (mnI most (s 1 w)))) (fun v4 hD => ?_)
    refine ev_aload_n 66 dX12_take_66 rfl (by decide) ?_
    refine gf_12_137 (pc := 67) rfl dX12_take_67 kd_100 (rf_100_28 hD.1) ?_
    refine ev_iload_n 70 dX12_take_70 rfl ?_
    refine ev_dup2 71 dX12_take_71 rfl rfl ?_
    refine ev_ialdJ (x := s 1 w) (j := w) 72 dX12_take_72 (Nat.le_of_ble_eq_true rfl) ty_114 (pm_inI (by omega) (by omega)) (nI_clamp (by omega)) ((hD.r1 (by omega)).trans (dU_ne (by decide))) ?_
    refine ev_iload 73 dX12_take_73 rfl ?_
    refine ev_iload 75 dX12_take_75 rfl ?_
    refine ev_isub 77 dX12_take_77 ?_
    refine ev_isub 78 dX12_take_78 ?_
    refine ev_iastJ (j := w) 79 dX12_take_79 (Nat.le_of_ble_eq_true rfl) ty_114 (pm_inI (by omega) (by omega)) (nI_clamp (by omega)) ?_
    refine ev_abs (Q := DM e n g (dU (dU s 0 w ((s 0 w) - (mnI most (s 1 w)))) 1 w ((s 1 w) - ((mnI most (s 1 w)) - 0))) p) (hD.u1 w ((s 1 w) - ((mnI most (s 1 w)) - 0))) (fun v5 hD => ?_)
    refine ev_aload_n 80 dX12_take_80 rfl (by decide) ?_
    refine ev_dup 81 dX12_take_81 rfl ?_
    refine gf_12_152 (x := s 5 1) (pc := 82) rfl dX12_take_82 kd_100 (hD.r5_1.trans ((dU_ne (by decide)).trans (dU_ne (by decide)))) ?_
    refine ev_iload 85 dX12_take_85 rfl ?_
    refine ev_iadd 87 dX12_take_87 ?_
    refine pf_12_152 (pc := 88) rfl dX12_take_88 kd_100 ?_
    refine ev_abs (Q := DM e n g (dU (dU (dU s 0 w ((s 0 w) - (mnI most (s 1 w)))) 1 w ((s 1 w) - ((mnI most (s 1 w)) - 0))) 5 1 ((s 5 1) + (mnI most (s 1 w)))) p) (hD.u5_1 ((s 5 1) + (mnI most (s 1 w)))) (fun v6 hD => ?_)
    refine ev_return 91 dX12_take_91 rfl ?_
    rw [show pTake s w most b = dU (dU (dU s 0 w ((s 0 w) - (mnI most (s 1 w)))) 1 w ((s 1 w) - ((mnI most (s 1 w)) - 0))) 5 1 ((s 5 1) + (mnI most (s 1 w))) by simp [pTake, c_3, c_27]] at k
    exact k _ hD

