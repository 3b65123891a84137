/-! sheet, cell, copy -/
theorem lp_shfill {X : pmX} {d : Nat} {P : Option Value → pmT → pmV → Prop} {LT : pmT} {t : Nat} {x y : Int32} (ht : t < 4) : ∀ (k : Nat) (i : Nat) (v : pmV), i + k = 60 → pmRf v → (∀ v', pmRf v' → Wr v v' 122 (60 * t + i) (60 * t + 60) (fun _ => 0) → P (some (.int 1)) (pmT0 ++ LT) v') → EvP X d MX12_sheet 67 [.ref 100, .int (nI t), .int x, .int y, .int (nI i)] [] (pmT0 ++ LT) v P := by
  intro k
  induction k with
  | zero => 
    intro i v hi hX K
    have hi2 : 60 = i := by omega
    subst hi2
    refine ev_iload 67 dX12_sheet_67 rfl ?_
    refine ev_bipush 69 dX12_sheet_69 kB_60 ?_
    refine ev_icT 71 93 dX12_sheet_71 rfl (nge_t (n := 60)) ?_
    refine ev_iconst 93 dX12_sheet_93 kI_1 ?_
    refine ev_ireturn 94 dX12_sheet_94 rfl rfl ?_
    exact K v hX (Wr.nil v 122 _ _)
  | succ k ih => 
    intro i v hi hX K
    refine ev_iload 67 dX12_sheet_67 rfl ?_
    refine ev_bipush 69 dX12_sheet_69 kB_60 ?_
    refine ev_icF 71 93 dX12_sheet_71 rfl (nge_f (n := 60) (by omega) (by omega)) ?_
    refine ev_aload_n 74 dX12_sheet_74 rfl (by decide) ?_
    refine gf_12_47 (pc := 75) rfl dX12_sheet_75 kd_100 (rf_100_51 hX) ?_
    refine ev_bipush 78 dX12_sheet_78 kB_60 ?_
    refine ev_iload_n 80 dX12_sheet_80 rfl ?_
    refine ev_imul 81 dX12_sheet_81 ?_
    refine ev_cst (y := nI (60 * t)) (nI_mulp 60 t) ?_
    refine ev_iload 82 dX12_sheet_82 rfl ?_
    refine ev_iadd 84 dX12_sheet_84 ?_
    refine ev_cst (y := nI ((60 * t) + i)) (nI_add (60 * t) i) ?_
    refine ev_iconst 85 dX12_sheet_85 kI_0 ?_
    refine ev_iast 86 dX12_sheet_86 (Nat.le_of_ble_eq_true rfl) ty_122 (pm_inI (by omega) (by omega)) ?_
    rw [show (nI ((60 * t) + i)).toNatClampNeg = ((60 * t) + i) from nI_clamp (by omega)]
    refine ev_iinc (y := nI (i + 1)) (ls' := [.ref 100, .int (nI t), .int x, .int y, .int (nI (i + 1))]) 87 dX12_sheet_87 rfl (nI_1 i) rfl ?_
    refine ev_goto 90 67 dX12_sheet_90 rfl ?_
    exact ih (i + 1) _ (by omega) (hX.ag rfl) (fun v2 h1 h2 => K v2 h1 ((Wr.one v 122 (60 * t + i) 0).cat h2 (by omega) (by omega)))
set_option maxHeartbeats 4000000 in
theorem op_sheet {X : pmX} {d n tx z : Nat} {LT : pmT} {v : pmV} {a b c : Int32} (hC : Cpl n tx z LT v) : EvP X (d + 9) MX11_sheet 0 [.ref 32, .int a, .int b, .int c, pmJ] [] (pmT0 ++ LT) v (Aft X (d + 9) MX12_sheet [.ref 100, .int a, .int b, .int c, pmJ]) := by
  obtain ⟨hX, hL, hS, hR, hI, hT, hTa, hSh, hF⟩ := hC
  refine ev_aload_n 0 dX11_sheet_0 rfl (by decide) ?_
  refine ev_iload_n 1 dX11_sheet_1 rfl ?_
  refine cv_11_100_11 (pc := 2) rfl dX11_sheet_2 kd_32 (Nat.le_of_ble_eq_true rfl) ?_
  refine c_X11_sheetOf hX (fun t htt hqt => ?_) (fun hqt => ?_)
  · subst hqt
    have hbt : (0 : Int32) ≤ nI t ∧ nI t ≤ 3 := ⟨nI_pos' (by omega), nI_le (a := t) (b := 3) (by omega) (by omega)⟩
    obtain ⟨⟨hst, hlt, hmt⟩, ⟨qt, hq60t, hqt, hrt⟩, hit⟩ := hSh t htt
    have hqbt : (0 : Int32) ≤ nI qt ∧ nI qt ≤ 60 := ⟨nI_pos' (by omega), nI_le (a := qt) (b := 60) (by omega) (by omega)⟩
    refine ev_astore (ls' := [.ref 32, .int (nI t), .int b, .int c, .ref (92 + 2 * t)]) 5 dX11_sheet_5 (Nat.le_of_ble_eq_true rfl) (by omega) rfl ?_
    refine ev_aload 7 dX11_sheet_7 rfl (by omega) ?_
    refine ev_ifnull 9 dX11_sheet_9 (by omega) ?_
    refine ev_iload_n 12 dX11_sheet_12 rfl ?_
    refine ev_iconst 13 dX11_sheet_13 kI_m1 ?_
    refine ev_iconst 14 dX11_sheet_14 kI_2 ?_
    refine cs_11_74 (pc := 15) rfl dX11_sheet_15 (Nat.le_of_ble_eq_true rfl) ?_
    refine c_X11_isIn (fun h_15 => ?_) (fun h_15 => ?_)
    · refine ev_ifT 18 24 dX11_sheet_18 rfl (by decide) ?_
      refine ev_iload_n 24 dX11_sheet_24 rfl ?_
      refine ev_iconst 25 dX11_sheet_25 kI_m1 ?_
      refine ev_ic_ne 26 38 dX11_sheet_26 rfl (fun c_26 => ?_) (fun c_26 => ?_)
      · refine ev_iload_n 38 dX11_sheet_38 rfl ?_
        refine ev_bipush 39 dX11_sheet_39 kB_60 ?_
        refine ev_ic_le 41 47 dX11_sheet_41 rfl (fun c_41 => ?_) (fun c_41 => ?_)
        · refine ev_iload_n 47 dX11_sheet_47 rfl ?_
          refine ev_if_ge 48 54 dX11_sheet_48 rfl (fun c_48 => ?_) (fun c_48 => ?_)
          · refine ev_aload 54 dX11_sheet_54 rfl (by omega) ?_
            refine ev_iload_n 56 dX11_sheet_56 rfl ?_
            refine ev_iload_n 57 dX11_sheet_57 rfl ?_
            refine cv_11_241_6 (pc := 58) rfl dX11_sheet_58 (kd_sheet (by omega)) (Nat.le_of_ble_eq_true rfl) ?_
            refine c_X6_lay htt hX (fun w1 hw1 => ?_)
            refine ev_iconst 61 dX11_sheet_61 kI_1 ?_
            refine ev_ireturn 62 dX11_sheet_62 rfl rfl ?_
            show EvP X (d + 9) MX12_sheet 0 [.ref 100, .int (nI t), .int b, .int c, pmJ] [] (pmT0 ++ LT) w1 _
            refine ev_aload_n 0 dX12_sheet_0 rfl (by decide) ?_
            refine ev_iload_n 1 dX12_sheet_1 rfl ?_
            refine cv_12_37_12 (pc := 2) rfl dX12_sheet_2 kd_100 (Nat.le_of_ble_eq_true rfl) ?_
            refine c_X12_isSheet (fun g_2 => ?_) (fun g_2 => by exfalso; grind)
            refine ev_ifF 5 28 dX12_sheet_5 rfl (by decide) ?_
            refine ev_aload_n 8 dX12_sheet_8 rfl (by decide) ?_
            refine ev_iload_n 9 dX12_sheet_9 rfl ?_
            refine ev_iconst 10 dX12_sheet_10 kI_m1 ?_
            refine ev_iconst 11 dX12_sheet_11 kI_2 ?_
            refine cv_12_7_12 (pc := 12) rfl dX12_sheet_12 kd_100 (Nat.le_of_ble_eq_true rfl) ?_
            refine c_X12_in (fun g_12 => ?_) (fun g_12 => by exfalso; grind)
            refine ev_ifF 15 28 dX12_sheet_15 rfl (by decide) ?_
            refine ev_iload_n 18 dX12_sheet_18 rfl ?_
            refine ev_if_lt 19 31 dX12_sheet_19 rfl (fun k_19 => by exfalso; grind) (fun k_19 => ?_)
            refine ev_iload_n 22 dX12_sheet_22 rfl ?_
            refine ev_bipush 23 dX12_sheet_23 kB_60 ?_
            refine ev_ic_le 25 31 dX12_sheet_25 rfl (fun k_25 => ?_) (fun k_25 => by exfalso; grind)
            refine ev_iload_n 31 dX12_sheet_31 rfl ?_
            refine ev_if_lt 32 42 dX12_sheet_32 rfl (fun k_32 => by exfalso; grind) (fun k_32 => ?_)
            refine ev_iload_n 35 dX12_sheet_35 rfl ?_
            refine ev_if_ge 36 42 dX12_sheet_36 rfl (fun k_36 => ?_) (fun k_36 => by exfalso; grind)
            refine ev_aload_n 42 dX12_sheet_42 rfl (by decide) ?_
            refine gf_12_41 (pc := 43) rfl dX12_sheet_43 kd_100 (rf_100_49 (hX.ag (v' := w1) (Wr.rr hw1 (rfl) :))) ?_
            refine ev_iload_n 46 dX12_sheet_46 rfl ?_
            refine ev_iload_n 47 dX12_sheet_47 rfl ?_
            refine ev_iast 48 dX12_sheet_48 (Nat.le_of_ble_eq_true rfl) ty_120 (pm_inI (by omega) (by omega)) ?_
            rw [show (nI t).toNatClampNeg = t from nI_clamp (by omega)]
            refine ev_aload_n 49 dX12_sheet_49 rfl (by decide) ?_
            refine gf_12_44 (pc := 50) rfl dX12_sheet_50 kd_100 (rf_100_50 (hX.ag (v' := w1) (Wr.rr hw1 (rfl) :))) ?_
            refine ev_iload_n 53 dX12_sheet_53 rfl ?_
            refine ev_iload_n 54 dX12_sheet_54 rfl ?_
            refine ev_if_ge 55 62 dX12_sheet_55 rfl (fun k_55 => ?_) (fun k_55 => by exfalso; grind)
            refine ev_iload_n 62 dX12_sheet_62 rfl ?_
            refine ev_iast 63 dX12_sheet_63 (Nat.le_of_ble_eq_true rfl) ty_121 (pm_inI (by omega) (by omega)) ?_
            rw [show (nI t).toNatClampNeg = t from nI_clamp (by omega)]
            refine ev_iconst 64 dX12_sheet_64 kI_0 ?_
            refine ev_istore (ls' := [.ref 100, .int (nI t), .int b, .int c, .int 0]) 65 dX12_sheet_65 (Nat.le_of_ble_eq_true rfl) rfl ?_
            refine lp_shfill htt 60 0 _ rfl (hX.ag (v' := w1) (Wr.rr hw1 (rfl) :)) (fun w4 hrw4 hw4 => ?_)
            refine ⟨rfl, n, tx, z, LT, rfl, ?_⟩
            refine ⟨hX.ag (Wr.rr hw4 (Wr.rr hw1 (rfl) :) :), hL.ag ((((((Ag.rf.i (by unfold sLan; omega)).i (by unfold sLan; omega)).w hw1 (fun j _ _ => by unfold sLan; omega)).i (by unfold sLan; omega)).i (by unfold sLan; omega)).w hw4 (fun j _ _ => by unfold sLan; omega)) (fun j => congrFun (congrFun (Wr.rr hw4 (Wr.rr hw1 (rfl) :) :) 33) j), hS.ag ((((((Ag.rf.i (by unfold sSet; omega)).i (by unfold sSet; omega)).w hw1 (fun j _ _ => by unfold sSet; omega)).i (by unfold sSet; omega)).i (by unfold sSet; omega)).w hw4 (fun j _ _ => by unfold sSet; omega)), hR.ag ((((((Ag.rf.i (by unfold sRule; omega)).i (by unfold sRule; omega)).w hw1 (fun j _ _ => by unfold sRule; omega)).i (by unfold sRule; omega)).i (by unfold sRule; omega)).w hw4 (fun j _ _ => by unfold sRule; omega)), hI.ag ((((((Ag.rf.i (by unfold sImg; omega)).i (by unfold sImg; omega)).w hw1 (fun j _ _ => by unfold sImg; omega)).i (by unfold sImg; omega)).i (by unfold sImg; omega)).w hw4 (fun j _ _ => by unfold sImg; omega)), hT.ag ((((((Ag.rf.i (by unfold sTxt; omega)).i (by unfold sTxt; omega)).w hw1 (fun j _ _ => by unfold sTxt; omega)).i (by unfold sTxt; omega)).i (by unfold sTxt; omega)).w hw4 (fun j _ _ => by unfold sTxt; omega)), hTa.ag ((((((Ag.rf.i (by unfold sTape; omega)).i (by unfold sTape; omega)).w hw1 (fun j _ _ => by unfold sTape; omega)).i (by unfold sTape; omega)).i (by unfold sTape; omega)).w hw4 (fun j _ _ => by unfold sTape; omega)), ?_, hF.ag ((((((Ag.rf.i (by unfold sFix; omega)).i (by unfold sFix; omega)).w hw1 (fun j _ _ => by unfold sFix; omega)).i (by unfold sFix; omega)).i (by unfold sFix; omega)).w hw4 (fun j _ _ => by unfold sFix; omega))⟩
            intro s hs
            by_cases e : s = t
            · subst e
              refine ⟨?_, ?_, fun i hi => ?_⟩
              · rw [show w4.1 120 s = b from ((hw4.off (by omega)).trans ((uI_off (by omega)).trans uI_on)), show w4.1 (92 + 2 * s) 0 = b from ((hw4.off (by omega)).trans ((uI_off (by omega)).trans ((uI_off (by omega)).trans ((hw1.off (by omega)).trans ((uI_off (by omega)).trans uI_on)))))]; exact ⟨by grind, by grind, by grind⟩
              · rw [show w4.1 (92 + 2 * s) 1 = c from ((hw4.off (by omega)).trans ((uI_off (by omega)).trans ((uI_off (by omega)).trans ((hw1.off (by omega)).trans uI_on)))), show w4.1 121 s = c from ((hw4.off (by omega)).trans uI_on)]
                obtain ⟨q, hq, rfl⟩ := nI_of2 (x := c) (M := 60) (n := 60) rfl (by grind) (by grind)
                exact ⟨q, hq, rfl, rfl⟩
              · exact (hw4.on (by omega) (by omega)).trans (((hw4.off (by omega)).trans ((uI_off (by omega)).trans ((uI_off (by omega)).trans (hw1.on (by omega) (by omega)))))).symm
            · obtain ⟨a1, ⟨q, a2, a3, a4⟩, a5⟩ := hSh s hs
              refine ⟨?_, ⟨q, a2, ?_, ?_⟩, fun i hi => ?_⟩
              · rw [show w4.1 120 s = v.1 120 s from ((hw4.off (by omega)).trans ((uI_off (by omega)).trans ((uI_off (by omega)).trans ((hw1.off (by omega)).trans ((uI_off (by omega)).trans (uI_off (by omega))))))), show w4.1 (92 + 2 * s) 0 = v.1 (92 + 2 * s) 0 from ((hw4.off (by omega)).trans ((uI_off (by omega)).trans ((uI_off (by omega)).trans ((hw1.off (by omega)).trans ((uI_off (by omega)).trans (uI_off (by omega)))))))]; exact a1
              · exact (((hw4.off (by omega)).trans ((uI_off (by omega)).trans ((uI_off (by omega)).trans ((hw1.off (by omega)).trans ((uI_off (by omega)).trans (uI_off (by omega))))))).trans a3)
              · exact (((hw4.off (by omega)).trans ((uI_off (by omega)).trans ((uI_off (by omega)).trans ((hw1.off (by omega)).trans ((uI_off (by omega)).trans (uI_off (by omega))))))).trans a4)
              · rw [show w4.1 122 (60 * s + i) = v.1 122 (60 * s + i) from ((hw4.off (by omega)).trans ((uI_off (by omega)).trans ((uI_off (by omega)).trans ((hw1.off (by omega)).trans ((uI_off (by omega)).trans (uI_off (by omega))))))), show w4.1 (93 + 2 * s) i = v.1 (93 + 2 * s) i from ((hw4.off (by omega)).trans ((uI_off (by omega)).trans ((uI_off (by omega)).trans ((hw1.off (by omega)).trans ((uI_off (by omega)).trans (uI_off (by omega)))))))]; exact a5 i hi
          · refine ev_bipush 51 dX11_sheet_51 kB_m14 ?_
            refine ev_ireturn 53 dX11_sheet_53 rfl rfl ?_
            show EvP X (d + 9) MX12_sheet 0 [.ref 100, .int (nI t), .int b, .int c, pmJ] [] (pmT0 ++ LT) v _
            refine ev_aload_n 0 dX12_sheet_0 rfl (by decide) ?_
            refine ev_iload_n 1 dX12_sheet_1 rfl ?_
            refine cv_12_37_12 (pc := 2) rfl dX12_sheet_2 kd_100 (Nat.le_of_ble_eq_true rfl) ?_
            refine c_X12_isSheet (fun g_2 => ?_) (fun g_2 => by exfalso; grind)
            refine ev_ifF 5 28 dX12_sheet_5 rfl (by decide) ?_
            refine ev_aload_n 8 dX12_sheet_8 rfl (by decide) ?_
            refine ev_iload_n 9 dX12_sheet_9 rfl ?_
            refine ev_iconst 10 dX12_sheet_10 kI_m1 ?_
            refine ev_iconst 11 dX12_sheet_11 kI_2 ?_
            refine cv_12_7_12 (pc := 12) rfl dX12_sheet_12 kd_100 (Nat.le_of_ble_eq_true rfl) ?_
            refine c_X12_in (fun g_12 => ?_) (fun g_12 => by exfalso; grind)
            refine ev_ifF 15 28 dX12_sheet_15 rfl (by decide) ?_
            refine ev_iload_n 18 dX12_sheet_18 rfl ?_
            refine ev_if_lt 19 31 dX12_sheet_19 rfl (fun k_19 => by exfalso; grind) (fun k_19 => ?_)
            refine ev_iload_n 22 dX12_sheet_22 rfl ?_
            refine ev_bipush 23 dX12_sheet_23 kB_60 ?_
            refine ev_ic_le 25 31 dX12_sheet_25 rfl (fun k_25 => ?_) (fun k_25 => by exfalso; grind)
            refine ev_iload_n 31 dX12_sheet_31 rfl ?_
            refine ev_if_lt 32 42 dX12_sheet_32 rfl (fun k_32 => by exfalso; grind) (fun k_32 => ?_)
            refine ev_iload_n 35 dX12_sheet_35 rfl ?_
            refine ev_if_ge 36 42 dX12_sheet_36 rfl (fun k_36 => by exfalso; grind) (fun k_36 => ?_)
            refine ev_bipush 39 dX12_sheet_39 kB_m14 ?_
            refine ev_ireturn 41 dX12_sheet_41 rfl rfl ?_
            refine ⟨rfl, n, tx, z, LT, rfl, ?_⟩
            refine ⟨hX.ag (rfl), hL.ag Ag.rf (fun j => congrFun (congrFun (rfl) 33) j), hS.ag Ag.rf, hR.ag Ag.rf, hI.ag Ag.rf, hT.ag Ag.rf, hTa.ag Ag.rf, hSh.ag Ag.rf, hF.ag Ag.rf⟩
        · refine ev_bipush 44 dX11_sheet_44 kB_m2 ?_
          refine ev_ireturn 46 dX11_sheet_46 rfl rfl ?_
          show EvP X (d + 9) MX12_sheet 0 [.ref 100, .int (nI t), .int b, .int c, pmJ] [] (pmT0 ++ LT) v _
          refine ev_aload_n 0 dX12_sheet_0 rfl (by decide) ?_
          refine ev_iload_n 1 dX12_sheet_1 rfl ?_
          refine cv_12_37_12 (pc := 2) rfl dX12_sheet_2 kd_100 (Nat.le_of_ble_eq_true rfl) ?_
          refine c_X12_isSheet (fun g_2 => ?_) (fun g_2 => by exfalso; grind)
          refine ev_ifF 5 28 dX12_sheet_5 rfl (by decide) ?_
          refine ev_aload_n 8 dX12_sheet_8 rfl (by decide) ?_
          refine ev_iload_n 9 dX12_sheet_9 rfl ?_
          refine ev_iconst 10 dX12_sheet_10 kI_m1 ?_
          refine ev_iconst 11 dX12_sheet_11 kI_2 ?_
          refine cv_12_7_12 (pc := 12) rfl dX12_sheet_12 kd_100 (Nat.le_of_ble_eq_true rfl) ?_
          refine c_X12_in (fun g_12 => ?_) (fun g_12 => by exfalso; grind)
          refine ev_ifF 15 28 dX12_sheet_15 rfl (by decide) ?_
          refine ev_iload_n 18 dX12_sheet_18 rfl ?_
          refine ev_if_lt 19 31 dX12_sheet_19 rfl (fun k_19 => by exfalso; grind) (fun k_19 => ?_)
          refine ev_iload_n 22 dX12_sheet_22 rfl ?_
          refine ev_bipush 23 dX12_sheet_23 kB_60 ?_
          refine ev_ic_le 25 31 dX12_sheet_25 rfl (fun k_25 => by exfalso; grind) (fun k_25 => ?_)
          refine ev_bipush 28 dX12_sheet_28 kB_m2 ?_
          refine ev_ireturn 30 dX12_sheet_30 rfl rfl ?_
          refine ⟨rfl, n, tx, z, LT, rfl, ?_⟩
          refine ⟨hX.ag (rfl), hL.ag Ag.rf (fun j => congrFun (congrFun (rfl) 33) j), hS.ag Ag.rf, hR.ag Ag.rf, hI.ag Ag.rf, hT.ag Ag.rf, hTa.ag Ag.rf, hSh.ag Ag.rf, hF.ag Ag.rf⟩
      · refine ev_aload 29 dX11_sheet_29 rfl (by omega) ?_
        refine ev_iconst 31 dX11_sheet_31 kI_m1 ?_
        refine ev_iconst 32 dX11_sheet_32 kI_0 ?_
        refine cv_11_241_6 (pc := 33) rfl dX11_sheet_33 (kd_sheet (by omega)) (Nat.le_of_ble_eq_true rfl) ?_
        refine c_X6_lay htt hX (fun w1 hw1 => ?_)
        refine ev_iconst 36 dX11_sheet_36 kI_1 ?_
        refine ev_ireturn 37 dX11_sheet_37 rfl rfl ?_
        show EvP X (d + 9) MX12_sheet 0 [.ref 100, .int (nI t), .int b, .int c, pmJ] [] (pmT0 ++ LT) w1 _
        refine ev_aload_n 0 dX12_sheet_0 rfl (by decide) ?_
        refine ev_iload_n 1 dX12_sheet_1 rfl ?_
        refine cv_12_37_12 (pc := 2) rfl dX12_sheet_2 kd_100 (Nat.le_of_ble_eq_true rfl) ?_
        refine c_X12_isSheet (fun g_2 => ?_) (fun g_2 => by exfalso; grind)
        refine ev_ifF 5 28 dX12_sheet_5 rfl (by decide) ?_
        refine ev_aload_n 8 dX12_sheet_8 rfl (by decide) ?_
        refine ev_iload_n 9 dX12_sheet_9 rfl ?_
        refine ev_iconst 10 dX12_sheet_10 kI_m1 ?_
        refine ev_iconst 11 dX12_sheet_11 kI_2 ?_
        refine cv_12_7_12 (pc := 12) rfl dX12_sheet_12 kd_100 (Nat.le_of_ble_eq_true rfl) ?_
        refine c_X12_in (fun g_12 => ?_) (fun g_12 => by exfalso; grind)
        refine ev_ifF 15 28 dX12_sheet_15 rfl (by decide) ?_
        refine ev_iload_n 18 dX12_sheet_18 rfl ?_
        refine ev_if_lt 19 31 dX12_sheet_19 rfl (fun k_19 => ?_) (fun k_19 => by exfalso; grind)
        refine ev_iload_n 31 dX12_sheet_31 rfl ?_
        refine ev_if_lt 32 42 dX12_sheet_32 rfl (fun k_32 => ?_) (fun k_32 => by exfalso; grind)
        refine ev_aload_n 42 dX12_sheet_42 rfl (by decide) ?_
        refine gf_12_41 (pc := 43) rfl dX12_sheet_43 kd_100 (rf_100_49 (hX.ag (v' := w1) (Wr.rr hw1 (rfl) :))) ?_
        refine ev_iload_n 46 dX12_sheet_46 rfl ?_
        refine ev_iload_n 47 dX12_sheet_47 rfl ?_
        refine ev_iast 48 dX12_sheet_48 (Nat.le_of_ble_eq_true rfl) ty_120 (pm_inI (by omega) (by omega)) ?_
        rw [show (nI t).toNatClampNeg = t from nI_clamp (by omega)]
        refine ev_aload_n 49 dX12_sheet_49 rfl (by decide) ?_
        refine gf_12_44 (pc := 50) rfl dX12_sheet_50 kd_100 (rf_100_50 (hX.ag (v' := w1) (Wr.rr hw1 (rfl) :))) ?_
        refine ev_iload_n 53 dX12_sheet_53 rfl ?_
        refine ev_iload_n 54 dX12_sheet_54 rfl ?_
        refine ev_if_ge 55 62 dX12_sheet_55 rfl (fun k_55 => by exfalso; grind) (fun k_55 => ?_)
        refine ev_iconst 58 dX12_sheet_58 kI_0 ?_
        refine ev_goto 59 63 dX12_sheet_59 rfl ?_
        refine ev_iast 63 dX12_sheet_63 (Nat.le_of_ble_eq_true rfl) ty_121 (pm_inI (by omega) (by omega)) ?_
        rw [show (nI t).toNatClampNeg = t from nI_clamp (by omega)]
        refine ev_iconst 64 dX12_sheet_64 kI_0 ?_
        refine ev_istore (ls' := [.ref 100, .int (nI t), .int b, .int c, .int 0]) 65 dX12_sheet_65 (Nat.le_of_ble_eq_true rfl) rfl ?_
        refine lp_shfill htt 60 0 _ rfl (hX.ag (v' := w1) (Wr.rr hw1 (rfl) :)) (fun w4 hrw4 hw4 => ?_)
        refine ⟨rfl, n, tx, z, LT, rfl, ?_⟩
        refine ⟨hX.ag (Wr.rr hw4 (Wr.rr hw1 (rfl) :) :), hL.ag ((((((Ag.rf.i (by unfold sLan; omega)).i (by unfold sLan; omega)).w hw1 (fun j _ _ => by unfold sLan; omega)).i (by unfold sLan; omega)).i (by unfold sLan; omega)).w hw4 (fun j _ _ => by unfold sLan; omega)) (fun j => congrFun (congrFun (Wr.rr hw4 (Wr.rr hw1 (rfl) :) :) 33) j), hS.ag ((((((Ag.rf.i (by unfold sSet; omega)).i (by unfold sSet; omega)).w hw1 (fun j _ _ => by unfold sSet; omega)).i (by unfold sSet; omega)).i (by unfold sSet; omega)).w hw4 (fun j _ _ => by unfold sSet; omega)), hR.ag ((((((Ag.rf.i (by unfold sRule; omega)).i (by unfold sRule; omega)).w hw1 (fun j _ _ => by unfold sRule; omega)).i (by unfold sRule; omega)).i (by unfold sRule; omega)).w hw4 (fun j _ _ => by unfold sRule; omega)), hI.ag ((((((Ag.rf.i (by unfold sImg; omega)).i (by unfold sImg; omega)).w hw1 (fun j _ _ => by unfold sImg; omega)).i (by unfold sImg; omega)).i (by unfold sImg; omega)).w hw4 (fun j _ _ => by unfold sImg; omega)), hT.ag ((((((Ag.rf.i (by unfold sTxt; omega)).i (by unfold sTxt; omega)).w hw1 (fun j _ _ => by unfold sTxt; omega)).i (by unfold sTxt; omega)).i (by unfold sTxt; omega)).w hw4 (fun j _ _ => by unfold sTxt; omega)), hTa.ag ((((((Ag.rf.i (by unfold sTape; omega)).i (by unfold sTape; omega)).w hw1 (fun j _ _ => by unfold sTape; omega)).i (by unfold sTape; omega)).i (by unfold sTape; omega)).w hw4 (fun j _ _ => by unfold sTape; omega)), ?_, hF.ag ((((((Ag.rf.i (by unfold sFix; omega)).i (by unfold sFix; omega)).w hw1 (fun j _ _ => by unfold sFix; omega)).i (by unfold sFix; omega)).i (by unfold sFix; omega)).w hw4 (fun j _ _ => by unfold sFix; omega))⟩
        intro s hs
        by_cases e : s = t
        · subst e
          refine ⟨?_, ?_, fun i hi => ?_⟩
          · rw [show w4.1 120 s = b from ((hw4.off (by omega)).trans ((uI_off (by omega)).trans uI_on)), show w4.1 (92 + 2 * s) 0 = (-1) from ((hw4.off (by omega)).trans ((uI_off (by omega)).trans ((uI_off (by omega)).trans ((hw1.off (by omega)).trans ((uI_off (by omega)).trans uI_on)))))]; exact ⟨by grind, by grind, by grind⟩
          · rw [show w4.1 (92 + 2 * s) 1 = 0 from ((hw4.off (by omega)).trans ((uI_off (by omega)).trans ((uI_off (by omega)).trans ((hw1.off (by omega)).trans uI_on)))), show w4.1 121 s = 0 from ((hw4.off (by omega)).trans uI_on)]
            exact ⟨0, by omega, nI_0.symm, nI_0.symm⟩
          · exact (hw4.on (by omega) (by omega)).trans (((hw4.off (by omega)).trans ((uI_off (by omega)).trans ((uI_off (by omega)).trans (hw1.on (by omega) (by omega)))))).symm
        · obtain ⟨a1, ⟨q, a2, a3, a4⟩, a5⟩ := hSh s hs
          refine ⟨?_, ⟨q, a2, ?_, ?_⟩, fun i hi => ?_⟩
          · rw [show w4.1 120 s = v.1 120 s from ((hw4.off (by omega)).trans ((uI_off (by omega)).trans ((uI_off (by omega)).trans ((hw1.off (by omega)).trans ((uI_off (by omega)).trans (uI_off (by omega))))))), show w4.1 (92 + 2 * s) 0 = v.1 (92 + 2 * s) 0 from ((hw4.off (by omega)).trans ((uI_off (by omega)).trans ((uI_off (by omega)).trans ((hw1.off (by omega)).trans ((uI_off (by omega)).trans (uI_off (by omega)))))))]; exact a1
          · exact (((hw4.off (by omega)).trans ((uI_off (by omega)).trans ((uI_off (by omega)).trans ((hw1.off (by omega)).trans ((uI_off (by omega)).trans (uI_off (by omega))))))).trans a3)
          · exact (((hw4.off (by omega)).trans ((uI_off (by omega)).trans ((uI_off (by omega)).trans ((hw1.off (by omega)).trans ((uI_off (by omega)).trans (uI_off (by omega))))))).trans a4)
          · rw [show w4.1 122 (60 * s + i) = v.1 122 (60 * s + i) from ((hw4.off (by omega)).trans ((uI_off (by omega)).trans ((uI_off (by omega)).trans ((hw1.off (by omega)).trans ((uI_off (by omega)).trans (uI_off (by omega))))))), show w4.1 (93 + 2 * s) i = v.1 (93 + 2 * s) i from ((hw4.off (by omega)).trans ((uI_off (by omega)).trans ((uI_off (by omega)).trans ((hw1.off (by omega)).trans ((uI_off (by omega)).trans (uI_off (by omega)))))))]; exact a5 i hi
    · refine ev_ifF 18 24 dX11_sheet_18 rfl (by decide) ?_
      refine ev_bipush 21 dX11_sheet_21 kB_m2 ?_
      refine ev_ireturn 23 dX11_sheet_23 rfl rfl ?_
      show EvP X (d + 9) MX12_sheet 0 [.ref 100, .int (nI t), .int b, .int c, pmJ] [] (pmT0 ++ LT) v _
      refine ev_aload_n 0 dX12_sheet_0 rfl (by decide) ?_
      refine ev_iload_n 1 dX12_sheet_1 rfl ?_
      refine cv_12_37_12 (pc := 2) rfl dX12_sheet_2 kd_100 (Nat.le_of_ble_eq_true rfl) ?_
      refine c_X12_isSheet (fun g_2 => ?_) (fun g_2 => by exfalso; grind)
      refine ev_ifF 5 28 dX12_sheet_5 rfl (by decide) ?_
      refine ev_aload_n 8 dX12_sheet_8 rfl (by decide) ?_
      refine ev_iload_n 9 dX12_sheet_9 rfl ?_
      refine ev_iconst 10 dX12_sheet_10 kI_m1 ?_
      refine ev_iconst 11 dX12_sheet_11 kI_2 ?_
      refine cv_12_7_12 (pc := 12) rfl dX12_sheet_12 kd_100 (Nat.le_of_ble_eq_true rfl) ?_
      refine c_X12_in (fun g_12 => by exfalso; grind) (fun g_12 => ?_)
      refine ev_ifT 15 28 dX12_sheet_15 rfl (by decide) ?_
      refine ev_bipush 28 dX12_sheet_28 kB_m2 ?_
      refine ev_ireturn 30 dX12_sheet_30 rfl rfl ?_
      refine ⟨rfl, n, tx, z, LT, rfl, ?_⟩
      refine ⟨hX.ag (rfl), hL.ag Ag.rf (fun j => congrFun (congrFun (rfl) 33) j), hS.ag Ag.rf, hR.ag Ag.rf, hI.ag Ag.rf, hT.ag Ag.rf, hTa.ag Ag.rf, hSh.ag Ag.rf, hF.ag Ag.rf⟩
  · refine ev_astoreN (ls' := [.ref 32, .int a, .int b, .int c, .null]) 5 dX11_sheet_5 (Nat.le_of_ble_eq_true rfl) rfl ?_
    refine ev_aloadN 7 dX11_sheet_7 rfl ?_
    refine ev_ifnullN 9 21 dX11_sheet_9 rfl ?_
    refine ev_bipush 21 dX11_sheet_21 kB_m2 ?_
    refine ev_ireturn 23 dX11_sheet_23 rfl rfl ?_
    show EvP X (d + 9) MX12_sheet 0 [.ref 100, .int a, .int b, .int c, pmJ] [] (pmT0 ++ LT) v _
    refine ev_aload_n 0 dX12_sheet_0 rfl (by decide) ?_
    refine ev_iload_n 1 dX12_sheet_1 rfl ?_
    refine cv_12_37_12 (pc := 2) rfl dX12_sheet_2 kd_100 (Nat.le_of_ble_eq_true rfl) ?_
    refine c_X12_isSheet (fun g_2 => by exfalso; grind) (fun g_2 => ?_)
    refine ev_ifT 5 28 dX12_sheet_5 rfl (by decide) ?_
    refine ev_bipush 28 dX12_sheet_28 kB_m2 ?_
    refine ev_ireturn 30 dX12_sheet_30 rfl rfl ?_
    refine ⟨rfl, n, tx, z, LT, rfl, ?_⟩
    refine ⟨hX.ag (rfl), hL.ag Ag.rf (fun j => congrFun (congrFun (rfl) 33) j), hS.ag Ag.rf, hR.ag Ag.rf, hI.ag Ag.rf, hT.ag Ag.rf, hTa.ag Ag.rf, hSh.ag Ag.rf, hF.ag Ag.rf⟩

