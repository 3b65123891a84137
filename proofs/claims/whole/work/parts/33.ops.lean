/-! the calls that touch no day: stop, force, .. -/
set_option maxHeartbeats 4000000 in
theorem op_stop {X : pmX} {d n tx z : Nat} {LT : pmT} {v : pmV} {l a b : Int32} (hC : Cpl n tx z LT v) : EvP X (d + 9) MX11_stop 0 [.ref 32, .int l, .int a, .int b] [] (pmT0 ++ LT) v (Aft X (d + 9) MX12_stop [.ref 100, .int l, .int a, .int b]) := by
  obtain ⟨hX, hL, hS, hR, hI, hT, hTa, hSh, hF⟩ := hC
  refine ev_iload_n 0 dX11_stop_0 rfl ?_
  refine ev_iconst 1 dX11_stop_1 kI_m1 ?_
  refine ev_ic_ne 2 15 dX11_stop_2 rfl (fun c_2 => ?_) (fun c_2 => ?_)
  · refine ev_aload_n 15 dX11_stop_15 rfl (by decide) ?_
    refine ev_iload_n 16 dX11_stop_16 rfl ?_
    refine cv_11_118_11 (pc := 17) rfl dX11_stop_17 kd_32 (Nat.le_of_ble_eq_true rfl) ?_
    refine c_X11_laneOf hL hX (fun i hi hq => ?_) (fun hq => ?_)
    · subst hq
      have hn8 := hL.1
      refine ev_ifnull 20 dX11_stop_20 (by omega) ?_
      refine ev_iload_n 23 dX11_stop_23 rfl ?_
      refine ev_iconst 24 dX11_stop_24 kI_0 ?_
      refine ev_bipush 25 dX11_stop_25 kB_59 ?_
      refine cs_11_74 (pc := 27) rfl dX11_stop_27 (Nat.le_of_ble_eq_true rfl) ?_
      refine c_X11_isIn (fun h_27 => ?_) (fun h_27 => ?_)
      · refine ev_ifF 30 43 dX11_stop_30 rfl (by decide) ?_
        refine ev_iload_n 33 dX11_stop_33 rfl ?_
        refine ev_iload_n 34 dX11_stop_34 rfl ?_
        refine ev_bipush 35 dX11_stop_35 kB_59 ?_
        refine cs_11_74 (pc := 37) rfl dX11_stop_37 (Nat.le_of_ble_eq_true rfl) ?_
        refine c_X11_isIn (fun h_37 => ?_) (fun h_37 => ?_)
        · refine ev_ifT 40 46 dX11_stop_40 rfl (by decide) ?_
          refine ev_aload_n 46 dX11_stop_46 rfl (by decide) ?_
          refine gf_11_18 (pc := 47) rfl dX11_stop_47 kd_32 (rf_32_2 hX) ?_
          refine ev_iload_n 50 dX11_stop_50 rfl ?_
          refine pf_11_115 (pc := 51) rfl dX11_stop_51 kd_34 ?_
          refine ev_aload_n 54 dX11_stop_54 rfl (by decide) ?_
          refine gf_11_18 (pc := 55) rfl dX11_stop_55 kd_32 (rf_32_2 hX) ?_
          refine ev_iload_n 58 dX11_stop_58 rfl ?_
          refine pf_11_122 (pc := 59) rfl dX11_stop_59 kd_34 ?_
          refine ev_aload_n 62 dX11_stop_62 rfl (by decide) ?_
          refine gf_11_18 (pc := 63) rfl dX11_stop_63 kd_32 (rf_32_2 hX) ?_
          refine ev_iload_n 66 dX11_stop_66 rfl ?_
          refine pf_11_125 (pc := 67) rfl dX11_stop_67 kd_34 ?_
          refine ev_iconst 70 dX11_stop_70 kI_1 ?_
          refine ev_ireturn 71 dX11_stop_71 rfl rfl ?_
          show EvP X (d + 9) MX12_stop 0 [.ref 100, .int (nI i), .int a, .int b] [] (pmT0 ++ LT) (uI (uI (uI v 34 3 (nI i)) 34 4 a) 34 5 b) _
          refine ev_iload_n 0 dX12_stop_0 rfl ?_
          refine ev_iconst 1 dX12_stop_1 kI_m1 ?_
          refine ev_ic_ne 2 12 dX12_stop_2 rfl (fun k_2 => ?_) (fun k_2 => by exfalso; grind)
          refine ev_aload_n 12 dX12_stop_12 rfl (by decide) ?_
          refine ev_iload_n 13 dX12_stop_13 rfl ?_
          refine cv_12_53_12 (pc := 14) rfl dX12_stop_14 kd_100 (Nat.le_of_ble_eq_true rfl) ?_
          refine c_X12_isLane_t (hL.ag (((Ag.rf.i (by unfold sLan; omega)).i (by unfold sLan; omega)).i (by unfold sLan; omega)) (fun _ => rfl)) (cLan_in hL hi) ?_
          refine ev_ifF 17 41 dX12_stop_17 rfl (by decide) ?_
          refine ev_aload_n 20 dX12_stop_20 rfl (by decide) ?_
          refine ev_iload_n 21 dX12_stop_21 rfl ?_
          refine cv_12_56_12 (pc := 22) rfl dX12_stop_22 kd_100 (Nat.le_of_ble_eq_true rfl) ?_
          refine c_X12_isMinute (fun g_22 => ?_) (fun g_22 => by exfalso; grind)
          refine ev_ifF 25 41 dX12_stop_25 rfl (by decide) ?_
          refine ev_aload_n 28 dX12_stop_28 rfl (by decide) ?_
          refine ev_iload_n 29 dX12_stop_29 rfl ?_
          refine cv_12_56_12 (pc := 30) rfl dX12_stop_30 kd_100 (Nat.le_of_ble_eq_true rfl) ?_
          refine c_X12_isMinute (fun g_30 => ?_) (fun g_30 => by exfalso; grind)
          refine ev_ifF 33 41 dX12_stop_33 rfl (by decide) ?_
          refine ev_iload_n 36 dX12_stop_36 rfl ?_
          refine ev_iload_n 37 dX12_stop_37 rfl ?_
          refine ev_ic_ge 38 44 dX12_stop_38 rfl (fun k_38 => ?_) (fun k_38 => by exfalso; grind)
          refine ev_aload_n 44 dX12_stop_44 rfl (by decide) ?_
          refine ev_iload_n 45 dX12_stop_45 rfl ?_
          refine pf_12_50 (pc := 46) rfl dX12_stop_46 kd_100 ?_
          refine ev_aload_n 49 dX12_stop_49 rfl (by decide) ?_
          refine ev_iload_n 50 dX12_stop_50 rfl ?_
          refine pf_12_59 (pc := 51) rfl dX12_stop_51 kd_100 ?_
          refine ev_aload_n 54 dX12_stop_54 rfl (by decide) ?_
          refine ev_iload_n 55 dX12_stop_55 rfl ?_
          refine pf_12_62 (pc := 56) rfl dX12_stop_56 kd_100 ?_
          refine ev_iconst 59 dX12_stop_59 kI_1 ?_
          refine ev_ireturn 60 dX12_stop_60 rfl rfl ?_
          refine ⟨rfl, n, tx, z, LT, rfl, ?_⟩
          refine ⟨hX.ag rfl, hL.ag ((((((Ag.rf.i (by unfold sLan; omega)).i (by unfold sLan; omega)).i (by unfold sLan; omega)).i (by unfold sLan; omega)).i (by unfold sLan; omega)).i (by unfold sLan; omega)) (fun _ => rfl), ?_, hR.ag ((((((Ag.rf.i (by unfold sRule; omega)).i (by unfold sRule; omega)).i (by unfold sRule; omega)).i (by unfold sRule; omega)).i (by unfold sRule; omega)).i (by unfold sRule; omega)), hI.ag ((((((Ag.rf.i (by unfold sImg; omega)).i (by unfold sImg; omega)).i (by unfold sImg; omega)).i (by unfold sImg; omega)).i (by unfold sImg; omega)).i (by unfold sImg; omega)), hT.ag ((((((Ag.rf.i (by unfold sTxt; omega)).i (by unfold sTxt; omega)).i (by unfold sTxt; omega)).i (by unfold sTxt; omega)).i (by unfold sTxt; omega)).i (by unfold sTxt; omega)), hTa.ag ((((((Ag.rf.i (by unfold sTape; omega)).i (by unfold sTape; omega)).i (by unfold sTape; omega)).i (by unfold sTape; omega)).i (by unfold sTape; omega)).i (by unfold sTape; omega)), hSh.ag ((((((Ag.rf.i (by unfold sShe; omega)).i (by unfold sShe; omega)).i (by unfold sShe; omega)).i (by unfold sShe; omega)).i (by unfold sShe; omega)).i (by unfold sShe; omega)), hF.ag ((((((Ag.rf.i (by unfold sFix; omega)).i (by unfold sFix; omega)).i (by unfold sFix; omega)).i (by unfold sFix; omega)).i (by unfold sFix; omega)).i (by unfold sFix; omega))⟩
          obtain ⟨s1, s2, s3, s4, s5, s6⟩ := hS
          refine ⟨fun j hj => ?_, fun j hj => ?_, ?_, ?_, ?_, ?_⟩ <;> simp [uI] <;> first | exact s1 j hj | exact s2 j hj | exact s3 | assumption
        · refine ev_ifF 40 46 dX11_stop_40 rfl (by decide) ?_
          refine ev_bipush 43 dX11_stop_43 kB_m2 ?_
          refine ev_ireturn 45 dX11_stop_45 rfl rfl ?_
          show EvP X (d + 9) MX12_stop 0 [.ref 100, .int (nI i), .int a, .int b] [] (pmT0 ++ LT) v _
          refine ev_iload_n 0 dX12_stop_0 rfl ?_
          refine ev_iconst 1 dX12_stop_1 kI_m1 ?_
          refine ev_ic_ne 2 12 dX12_stop_2 rfl (fun k_2 => ?_) (fun k_2 => by exfalso; grind)
          refine ev_aload_n 12 dX12_stop_12 rfl (by decide) ?_
          refine ev_iload_n 13 dX12_stop_13 rfl ?_
          refine cv_12_53_12 (pc := 14) rfl dX12_stop_14 kd_100 (Nat.le_of_ble_eq_true rfl) ?_
          refine c_X12_isLane_t (hL.ag Ag.rf (fun _ => rfl)) (cLan_in hL hi) ?_
          refine ev_ifF 17 41 dX12_stop_17 rfl (by decide) ?_
          refine ev_aload_n 20 dX12_stop_20 rfl (by decide) ?_
          refine ev_iload_n 21 dX12_stop_21 rfl ?_
          refine cv_12_56_12 (pc := 22) rfl dX12_stop_22 kd_100 (Nat.le_of_ble_eq_true rfl) ?_
          refine c_X12_isMinute (fun g_22 => ?_) (fun g_22 => by exfalso; grind)
          refine ev_ifF 25 41 dX12_stop_25 rfl (by decide) ?_
          refine ev_aload_n 28 dX12_stop_28 rfl (by decide) ?_
          refine ev_iload_n 29 dX12_stop_29 rfl ?_
          refine cv_12_56_12 (pc := 30) rfl dX12_stop_30 kd_100 (Nat.le_of_ble_eq_true rfl) ?_
          refine c_X12_isMinute (fun g_30 => ?_) (fun g_30 => ?_)
          · refine ev_ifF 33 41 dX12_stop_33 rfl (by decide) ?_
            refine ev_iload_n 36 dX12_stop_36 rfl ?_
            refine ev_iload_n 37 dX12_stop_37 rfl ?_
            refine ev_ic_ge 38 44 dX12_stop_38 rfl (fun k_38 => by exfalso; grind) (fun k_38 => ?_)
            refine ev_bipush 41 dX12_stop_41 kB_m2 ?_
            refine ev_ireturn 43 dX12_stop_43 rfl rfl ?_
            refine ⟨rfl, n, tx, z, LT, rfl, ?_⟩
            refine ⟨hX.ag rfl, hL.ag Ag.rf (fun _ => rfl), hS.ag Ag.rf, hR.ag Ag.rf, hI.ag Ag.rf, hT.ag Ag.rf, hTa.ag Ag.rf, hSh.ag Ag.rf, hF.ag Ag.rf⟩
          · refine ev_ifT 33 41 dX12_stop_33 rfl (by decide) ?_
            refine ev_bipush 41 dX12_stop_41 kB_m2 ?_
            refine ev_ireturn 43 dX12_stop_43 rfl rfl ?_
            refine ⟨rfl, n, tx, z, LT, rfl, ?_⟩
            refine ⟨hX.ag rfl, hL.ag Ag.rf (fun _ => rfl), hS.ag Ag.rf, hR.ag Ag.rf, hI.ag Ag.rf, hT.ag Ag.rf, hTa.ag Ag.rf, hSh.ag Ag.rf, hF.ag Ag.rf⟩
      · refine ev_ifT 30 43 dX11_stop_30 rfl (by decide) ?_
        refine ev_bipush 43 dX11_stop_43 kB_m2 ?_
        refine ev_ireturn 45 dX11_stop_45 rfl rfl ?_
        show EvP X (d + 9) MX12_stop 0 [.ref 100, .int (nI i), .int a, .int b] [] (pmT0 ++ LT) v _
        refine ev_iload_n 0 dX12_stop_0 rfl ?_
        refine ev_iconst 1 dX12_stop_1 kI_m1 ?_
        refine ev_ic_ne 2 12 dX12_stop_2 rfl (fun k_2 => ?_) (fun k_2 => by exfalso; grind)
        refine ev_aload_n 12 dX12_stop_12 rfl (by decide) ?_
        refine ev_iload_n 13 dX12_stop_13 rfl ?_
        refine cv_12_53_12 (pc := 14) rfl dX12_stop_14 kd_100 (Nat.le_of_ble_eq_true rfl) ?_
        refine c_X12_isLane_t (hL.ag Ag.rf (fun _ => rfl)) (cLan_in hL hi) ?_
        refine ev_ifF 17 41 dX12_stop_17 rfl (by decide) ?_
        refine ev_aload_n 20 dX12_stop_20 rfl (by decide) ?_
        refine ev_iload_n 21 dX12_stop_21 rfl ?_
        refine cv_12_56_12 (pc := 22) rfl dX12_stop_22 kd_100 (Nat.le_of_ble_eq_true rfl) ?_
        refine c_X12_isMinute (fun g_22 => by exfalso; grind) (fun g_22 => ?_)
        refine ev_ifT 25 41 dX12_stop_25 rfl (by decide) ?_
        refine ev_bipush 41 dX12_stop_41 kB_m2 ?_
        refine ev_ireturn 43 dX12_stop_43 rfl rfl ?_
        refine ⟨rfl, n, tx, z, LT, rfl, ?_⟩
        refine ⟨hX.ag rfl, hL.ag Ag.rf (fun _ => rfl), hS.ag Ag.rf, hR.ag Ag.rf, hI.ag Ag.rf, hT.ag Ag.rf, hTa.ag Ag.rf, hSh.ag Ag.rf, hF.ag Ag.rf⟩
    · refine ev_ifnullN 20 43 dX11_stop_20 rfl ?_
      refine ev_bipush 43 dX11_stop_43 kB_m2 ?_
      refine ev_ireturn 45 dX11_stop_45 rfl rfl ?_
      show EvP X (d + 9) MX12_stop 0 [.ref 100, .int l, .int a, .int b] [] (pmT0 ++ LT) v _
      refine ev_iload_n 0 dX12_stop_0 rfl ?_
      refine ev_iconst 1 dX12_stop_1 kI_m1 ?_
      refine ev_ic_ne 2 12 dX12_stop_2 rfl (fun k_2 => ?_) (fun k_2 => by exfalso; grind)
      refine ev_aload_n 12 dX12_stop_12 rfl (by decide) ?_
      refine ev_iload_n 13 dX12_stop_13 rfl ?_
      refine cv_12_53_12 (pc := 14) rfl dX12_stop_14 kd_100 (Nat.le_of_ble_eq_true rfl) ?_
      refine c_X12_isLane_f (hL.ag Ag.rf (fun _ => rfl)) hq ?_
      refine ev_ifT 17 41 dX12_stop_17 rfl (by decide) ?_
      refine ev_bipush 41 dX12_stop_41 kB_m2 ?_
      refine ev_ireturn 43 dX12_stop_43 rfl rfl ?_
      refine ⟨rfl, n, tx, z, LT, rfl, ?_⟩
      refine ⟨hX.ag rfl, hL.ag Ag.rf (fun _ => rfl), hS.ag Ag.rf, hR.ag Ag.rf, hI.ag Ag.rf, hT.ag Ag.rf, hTa.ag Ag.rf, hSh.ag Ag.rf, hF.ag Ag.rf⟩
  · refine ev_aload_n 5 dX11_stop_5 rfl (by decide) ?_
    refine gf_11_18 (pc := 6) rfl dX11_stop_6 kd_32 (rf_32_2 hX) ?_
    refine ev_iconst 9 dX11_stop_9 kI_m1 ?_
    refine pf_11_115 (pc := 10) rfl dX11_stop_10 kd_34 ?_
    refine ev_iconst 13 dX11_stop_13 kI_1 ?_
    refine ev_ireturn 14 dX11_stop_14 rfl rfl ?_
    show EvP X (d + 9) MX12_stop 0 [.ref 100, .int l, .int a, .int b] [] (pmT0 ++ LT) (uI v 34 3 (-1)) _
    refine ev_iload_n 0 dX12_stop_0 rfl ?_
    refine ev_iconst 1 dX12_stop_1 kI_m1 ?_
    refine ev_ic_ne 2 12 dX12_stop_2 rfl (fun k_2 => by exfalso; grind) (fun k_2 => ?_)
    refine ev_aload_n 5 dX12_stop_5 rfl (by decide) ?_
    refine ev_iconst 6 dX12_stop_6 kI_m1 ?_
    refine pf_12_50 (pc := 7) rfl dX12_stop_7 kd_100 ?_
    refine ev_iconst 10 dX12_stop_10 kI_1 ?_
    refine ev_ireturn 11 dX12_stop_11 rfl rfl ?_
    refine ⟨rfl, n, tx, z, LT, rfl, ?_⟩
    refine ⟨hX.ag rfl, hL.ag ((Ag.rf.i (by unfold sLan; omega)).i (by unfold sLan; omega)) (fun _ => rfl), ?_, hR.ag ((Ag.rf.i (by unfold sRule; omega)).i (by unfold sRule; omega)), hI.ag ((Ag.rf.i (by unfold sImg; omega)).i (by unfold sImg; omega)), hT.ag ((Ag.rf.i (by unfold sTxt; omega)).i (by unfold sTxt; omega)), hTa.ag ((Ag.rf.i (by unfold sTape; omega)).i (by unfold sTape; omega)), hSh.ag ((Ag.rf.i (by unfold sShe; omega)).i (by unfold sShe; omega)), hF.ag ((Ag.rf.i (by unfold sFix; omega)).i (by unfold sFix; omega))⟩
    obtain ⟨s1, s2, s3, s4, s5, s6⟩ := hS
    refine ⟨fun j hj => ?_, fun j hj => ?_, ?_, ?_, ?_, ?_⟩ <;> simp [uI] <;> first | exact s1 j hj | exact s2 j hj | exact s3 | assumption

