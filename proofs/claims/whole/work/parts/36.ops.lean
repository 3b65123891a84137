/-! cell, copy -/
theorem cShe.cell {v : pmV} (h : cShe v) {t j : Nat} (ht : t < 4) (hj : j < 60) {x y : Int32} (e : x = y) : cShe (uI (uI v (93 + 2 * t) j x) 122 (60 * t + j) y) := by
  subst e
  intro s hs
  obtain ⟨a1, ⟨q, a2, a3, a4⟩, a5⟩ := h s hs
  refine ⟨?_, ⟨q, a2, ?_, ?_⟩, fun i hi => ?_⟩
  · rw [uI_off (by omega), uI_off (by omega), uI_off (by omega), uI_off (by omega)]; exact a1
  · rw [uI_off (by omega), uI_off (by omega)]; exact a3
  · rw [uI_off (by omega), uI_off (by omega)]; exact a4
  · by_cases e : s = t ∧ i = j
    · obtain ⟨rfl, rfl⟩ := e
      rw [uI_on, uI_off (by omega), uI_on]
    · rw [uI_off (by omega), uI_off (by omega), uI_off (by omega), uI_off (by omega)]; exact a5 i hi
theorem cShe.copy {v w1 w2 w3 : pmV} (h : cShe v) {t u i j n : Nat} (ht : t < 4) (hu : u < 4) (hi : i + n ≤ 60) (hj : j + n ≤ 60) (h1 : Wr v w1 (93 + 2 * u) j (j + n) (fun k => v.1 (93 + 2 * t) (i + (k - j)))) (h2 : Wr w1 w2 123 0 n (fun k => w1.1 122 (60 * t + i + k))) (h3 : Wr w2 w3 122 (60 * u + j) (60 * u + j + n) (fun k => w2.1 123 (k - (60 * u + j)))) : cShe w3 := by
  intro s hs
  obtain ⟨a1, ⟨q, a2, a3, a4⟩, a5⟩ := h s hs
  have off : ∀ b i, b ≠ 122 → b ≠ 123 → b ≠ 93 + 2 * u → w3.1 b i = v.1 b i := fun b i e1 e2 e3 => by rw [h3.off (by omega), h2.off (by omega), h1.off (by omega)]
  refine ⟨?_, ⟨q, a2, ?_, ?_⟩, fun k hk => ?_⟩
  · rw [off 120 s (by omega) (by omega) (by omega), off (92 + 2 * s) 0 (by omega) (by omega) (by omega)]; exact a1
  · rw [off _ _ (by omega) (by omega) (by omega)]; exact a3
  · rw [off _ _ (by omega) (by omega) (by omega)]; exact a4
  · by_cases e : s = u ∧ j ≤ k ∧ k < j + n
    · obtain ⟨rfl, e1, e2⟩ := e
      rw [h3.on (by omega) (by omega), h2.on (by omega) (by omega), h1.off (by omega), h3.off (by omega), h2.off (by omega), h1.on e1 e2, show 60 * t + i + (60 * s + k - (60 * s + j)) = 60 * t + (i + (k - j)) by omega]
      exact (h t ht).2.2 _ (by omega)
    · rw [h3.off (by omega), h2.off (by omega), h1.off (by omega), h3.off (by omega), h2.off (by omega), h1.off (by omega)]
      exact a5 k hk
set_option maxHeartbeats 4000000 in
theorem op_cell {X : pmX} {d n tx z : Nat} {LT : pmT} {v : pmV} {a b c : Int32} (hC : Cpl n tx z LT v) : EvP X (d + 9) MX11_cell 0 [.ref 32, .int a, .int b, .int c, pmJ] [] (pmT0 ++ LT) v (Aft X (d + 9) MX12_cell [.ref 100, .int a, .int b, .int c]) := by
  obtain ⟨hX, hL, hS, hR, hI, hT, hTa, hSh, hF⟩ := hC
  refine ev_aload_n 0 dX11_cell_0 rfl (by decide) ?_
  refine ev_iload_n 1 dX11_cell_1 rfl ?_
  refine cv_11_100_11 (pc := 2) rfl dX11_cell_2 kd_32 (Nat.le_of_ble_eq_true rfl) ?_
  refine c_X11_sheetOf hX (fun t htt hqt => ?_) (fun hqt => ?_)
  · subst hqt
    have hbt : (0 : Int32) ≤ nI t ∧ nI t ≤ 3 := ⟨nI_pos' (by omega), nI_le (a := t) (b := 3) (by omega) (by omega)⟩
    obtain ⟨⟨hst, hlt, hmt⟩, ⟨qt, hq60t, hqt, hrt⟩, hit⟩ := hSh t htt
    have hqbt : (0 : Int32) ≤ nI qt ∧ nI qt ≤ 60 := ⟨nI_pos' (by omega), nI_le (a := qt) (b := 60) (by omega) (by omega)⟩
    refine ev_astore (ls' := [.ref 32, .int (nI t), .int b, .int c, .ref (92 + 2 * t)]) 5 dX11_cell_5 (Nat.le_of_ble_eq_true rfl) (by omega) rfl ?_
    refine ev_aload 7 dX11_cell_7 rfl (by omega) ?_
    refine ev_ifnonnull 9 15 dX11_cell_9 (by omega) rfl ?_
    refine ev_aload 15 dX11_cell_15 rfl (by omega) ?_
    refine cv_11_104_6 (pc := 17) rfl dX11_cell_17 (kd_sheet (by omega)) (Nat.le_of_ble_eq_true rfl) ?_
    refine c_X6_isMissing htt (fun h_17 => ?_) (fun h_17 => ?_)
    · refine ev_ifF 20 26 dX11_cell_20 rfl (by decide) ?_
      refine ev_bipush 23 dX11_cell_23 kB_m11 ?_
      refine ev_ireturn 25 dX11_cell_25 rfl rfl ?_
      show EvP X (d + 9) MX12_cell 0 [.ref 100, .int (nI t), .int b, .int c] [] (pmT0 ++ LT) v _
      refine ev_aload_n 0 dX12_cell_0 rfl (by decide) ?_
      refine ev_iload_n 1 dX12_cell_1 rfl ?_
      refine cv_12_37_12 (pc := 2) rfl dX12_cell_2 kd_100 (Nat.le_of_ble_eq_true rfl) ?_
      refine c_X12_isSheet (fun g_2 => ?_) (fun g_2 => by exfalso; grind)
      refine ev_ifT 5 11 dX12_cell_5 rfl (by decide) ?_
      refine ev_aload_n 11 dX12_cell_11 rfl (by decide) ?_
      refine gf_12_41 (pc := 12) rfl dX12_cell_12 kd_100 (rf_100_49 hX) ?_
      refine ev_iload_n 15 dX12_cell_15 rfl ?_
      refine ev_iald (x := v.1 (92 + 2 * t) 0) 16 dX12_cell_16 (Nat.le_of_ble_eq_true rfl) ty_120 (pm_inI (by omega) (by omega)) (by rw [nI_clamp (by omega)] <;> exact hst) ?_
      refine ev_if_ge 17 23 dX12_cell_17 rfl (fun k_17 => by exfalso; grind) (fun k_17 => ?_)
      refine ev_bipush 20 dX12_cell_20 kB_m11 ?_
      refine ev_ireturn 22 dX12_cell_22 rfl rfl ?_
      refine ⟨rfl, n, tx, z, LT, rfl, ?_⟩
      refine ⟨hX.ag (rfl), hL.ag Ag.rf (fun j => congrFun (congrFun (rfl) 33) j), hS.ag Ag.rf, hR.ag Ag.rf, hI.ag Ag.rf, hT.ag Ag.rf, hTa.ag Ag.rf, hSh.ag Ag.rf, hF.ag Ag.rf⟩
    · refine ev_ifT 20 26 dX11_cell_20 rfl (by decide) ?_
      refine ev_aload 26 dX11_cell_26 rfl (by omega) ?_
      refine ev_iload_n 28 dX11_cell_28 rfl ?_
      refine cv_11_108_6 (pc := 29) rfl dX11_cell_29 (kd_sheet (by omega)) (Nat.le_of_ble_eq_true rfl) ?_
      refine c_X6_has htt (fun h_29 => ?_) (fun h_29 => ?_)
      · refine ev_ifT 32 38 dX11_cell_32 rfl (by decide) ?_
        refine ev_aload 38 dX11_cell_38 rfl (by omega) ?_
        refine ev_iload_n 40 dX11_cell_40 rfl ?_
        refine ev_iload_n 41 dX11_cell_41 rfl ?_
        refine cv_11_243_6 (pc := 42) rfl dX11_cell_42 (kd_sheet (by omega)) (Nat.le_of_ble_eq_true rfl) ?_
        refine c_X6_put htt hX hqt hq60t (fun j hj hjq => ?_) (fun hj => by exfalso; grind)
        subst hjq
        have hjb : (0 : Int32) ≤ nI j ∧ nI j < nI qt := ⟨nI_pos' (by omega), nI_lt (by omega) (by omega)⟩
        refine ev_iconst 45 dX11_cell_45 kI_1 ?_
        refine ev_ireturn 46 dX11_cell_46 rfl rfl ?_
        show EvP X (d + 9) MX12_cell 0 [.ref 100, .int (nI t), .int (nI j), .int c] [] (pmT0 ++ LT) (uI v (93 + 2 * t) j (if v.1 (92 + 2 * t) 0 = 0 then c.toInt8.toInt32 else if v.1 (92 + 2 * t) 0 = 1 then c.toInt16.toInt32 else c)) _
        refine ev_aload_n 0 dX12_cell_0 rfl (by decide) ?_
        refine ev_iload_n 1 dX12_cell_1 rfl ?_
        refine cv_12_37_12 (pc := 2) rfl dX12_cell_2 kd_100 (Nat.le_of_ble_eq_true rfl) ?_
        refine c_X12_isSheet (fun g_2 => ?_) (fun g_2 => by exfalso; grind)
        refine ev_ifT 5 11 dX12_cell_5 rfl (by decide) ?_
        refine ev_aload_n 11 dX12_cell_11 rfl (by decide) ?_
        refine gf_12_41 (pc := 12) rfl dX12_cell_12 kd_100 (rf_100_49 hX) ?_
        refine ev_iload_n 15 dX12_cell_15 rfl ?_
        refine ev_iald (x := v.1 (92 + 2 * t) 0) 16 dX12_cell_16 (Nat.le_of_ble_eq_true rfl) ty_120 (pm_inI (by omega) (by omega)) (by rw [nI_clamp (by omega)] <;> exact ((uI_off (by omega)).trans hst)) ?_
        refine ev_if_ge 17 23 dX12_cell_17 rfl (fun k_17 => ?_) (fun k_17 => by exfalso; grind)
        refine ev_aload_n 23 dX12_cell_23 rfl (by decide) ?_
        refine ev_iload_n 24 dX12_cell_24 rfl ?_
        refine ev_iconst 25 dX12_cell_25 kI_0 ?_
        refine ev_aload_n 26 dX12_cell_26 rfl (by decide) ?_
        refine gf_12_44 (pc := 27) rfl dX12_cell_27 kd_100 (rf_100_50 hX) ?_
        refine ev_iload_n 30 dX12_cell_30 rfl ?_
        refine ev_iald (x := nI qt) 31 dX12_cell_31 (Nat.le_of_ble_eq_true rfl) ty_121 (pm_inI (by omega) (by omega)) (by rw [nI_clamp (by omega)] <;> exact ((uI_off (by omega)).trans hrt)) ?_
        refine ev_iconst 32 dX12_cell_32 kI_1 ?_
        refine ev_isub 33 dX12_cell_33 ?_
        refine cv_12_7_12 (pc := 34) rfl dX12_cell_34 kd_100 (Nat.le_of_ble_eq_true rfl) ?_
        refine c_X12_in (fun g_34 => ?_) (fun g_34 => by exfalso; grind)
        refine ev_ifT 37 43 dX12_cell_37 rfl (by decide) ?_
        refine ev_aload_n 43 dX12_cell_43 rfl (by decide) ?_
        refine gf_12_47 (pc := 44) rfl dX12_cell_44 kd_100 (rf_100_51 hX) ?_
        refine ev_bipush 47 dX12_cell_47 kB_60 ?_
        refine ev_iload_n 49 dX12_cell_49 rfl ?_
        refine ev_imul 50 dX12_cell_50 ?_
        refine ev_cst (y := nI (60 * t)) (nI_mulp 60 t) ?_
        refine ev_iload_n 51 dX12_cell_51 rfl ?_
        refine ev_iadd 52 dX12_cell_52 ?_
        refine ev_cst (y := nI ((60 * t) + j)) (nI_add (60 * t) j) ?_
        refine ev_aload_n 53 dX12_cell_53 rfl (by decide) ?_
        refine gf_12_41 (pc := 54) rfl dX12_cell_54 kd_100 (rf_100_49 hX) ?_
        refine ev_iload_n 57 dX12_cell_57 rfl ?_
        refine ev_iald (x := v.1 (92 + 2 * t) 0) 58 dX12_cell_58 (Nat.le_of_ble_eq_true rfl) ty_120 (pm_inI (by omega) (by omega)) (by rw [nI_clamp (by omega)] <;> exact ((uI_off (by omega)).trans hst)) ?_
        refine ev_if_ne 59 67 dX12_cell_59 rfl (fun k_59 => ?_) (fun k_59 => ?_)
        · refine ev_aload_n 67 dX12_cell_67 rfl (by decide) ?_
          refine gf_12_41 (pc := 68) rfl dX12_cell_68 kd_100 (rf_100_49 hX) ?_
          refine ev_iload_n 71 dX12_cell_71 rfl ?_
          refine ev_iald (x := v.1 (92 + 2 * t) 0) 72 dX12_cell_72 (Nat.le_of_ble_eq_true rfl) ty_120 (pm_inI (by omega) (by omega)) (by rw [nI_clamp (by omega)] <;> exact ((uI_off (by omega)).trans hst)) ?_
          refine ev_iconst 73 dX12_cell_73 kI_1 ?_
          refine ev_ic_ne 74 82 dX12_cell_74 rfl (fun k_74 => ?_) (fun k_74 => ?_)
          · refine ev_iload_n 82 dX12_cell_82 rfl ?_
            refine ev_iast 83 dX12_cell_83 (Nat.le_of_ble_eq_true rfl) ty_122 (pm_inI (by omega) (by omega)) ?_
            rw [show (nI ((60 * t) + j)).toNatClampNeg = ((60 * t) + j) from nI_clamp (by omega)]
            refine ev_iconst 84 dX12_cell_84 kI_1 ?_
            refine ev_ireturn 85 dX12_cell_85 rfl rfl ?_
            refine ⟨rfl, n, tx, z, LT, rfl, ?_⟩
            refine ⟨hX.ag (rfl), hL.ag ((Ag.rf.i (by unfold sLan; omega)).i (by unfold sLan; omega)) (fun j => congrFun (congrFun (rfl) 33) j), hS.ag ((Ag.rf.i (by unfold sSet; omega)).i (by unfold sSet; omega)), hR.ag ((Ag.rf.i (by unfold sRule; omega)).i (by unfold sRule; omega)), hI.ag ((Ag.rf.i (by unfold sImg; omega)).i (by unfold sImg; omega)), hT.ag ((Ag.rf.i (by unfold sTxt; omega)).i (by unfold sTxt; omega)), hTa.ag ((Ag.rf.i (by unfold sTape; omega)).i (by unfold sTape; omega)), hSh.cell htt (by omega) ?_, hF.ag ((Ag.rf.i (by unfold sFix; omega)).i (by unfold sFix; omega))⟩
            grind
          · refine ev_iload_n 77 dX12_cell_77 rfl ?_
            refine ev_i2s 78 dX12_cell_78 ?_
            refine ev_goto 79 83 dX12_cell_79 rfl ?_
            refine ev_iast 83 dX12_cell_83 (Nat.le_of_ble_eq_true rfl) ty_122 (pm_inI (by omega) (by omega)) ?_
            rw [show (nI ((60 * t) + j)).toNatClampNeg = ((60 * t) + j) from nI_clamp (by omega)]
            refine ev_iconst 84 dX12_cell_84 kI_1 ?_
            refine ev_ireturn 85 dX12_cell_85 rfl rfl ?_
            refine ⟨rfl, n, tx, z, LT, rfl, ?_⟩
            refine ⟨hX.ag (rfl), hL.ag ((Ag.rf.i (by unfold sLan; omega)).i (by unfold sLan; omega)) (fun j => congrFun (congrFun (rfl) 33) j), hS.ag ((Ag.rf.i (by unfold sSet; omega)).i (by unfold sSet; omega)), hR.ag ((Ag.rf.i (by unfold sRule; omega)).i (by unfold sRule; omega)), hI.ag ((Ag.rf.i (by unfold sImg; omega)).i (by unfold sImg; omega)), hT.ag ((Ag.rf.i (by unfold sTxt; omega)).i (by unfold sTxt; omega)), hTa.ag ((Ag.rf.i (by unfold sTape; omega)).i (by unfold sTape; omega)), hSh.cell htt (by omega) ?_, hF.ag ((Ag.rf.i (by unfold sFix; omega)).i (by unfold sFix; omega))⟩
            grind
        · refine ev_iload_n 62 dX12_cell_62 rfl ?_
          refine ev_i2b 63 dX12_cell_63 ?_
          refine ev_goto 64 83 dX12_cell_64 rfl ?_
          refine ev_iast 83 dX12_cell_83 (Nat.le_of_ble_eq_true rfl) ty_122 (pm_inI (by omega) (by omega)) ?_
          rw [show (nI ((60 * t) + j)).toNatClampNeg = ((60 * t) + j) from nI_clamp (by omega)]
          refine ev_iconst 84 dX12_cell_84 kI_1 ?_
          refine ev_ireturn 85 dX12_cell_85 rfl rfl ?_
          refine ⟨rfl, n, tx, z, LT, rfl, ?_⟩
          refine ⟨hX.ag (rfl), hL.ag ((Ag.rf.i (by unfold sLan; omega)).i (by unfold sLan; omega)) (fun j => congrFun (congrFun (rfl) 33) j), hS.ag ((Ag.rf.i (by unfold sSet; omega)).i (by unfold sSet; omega)), hR.ag ((Ag.rf.i (by unfold sRule; omega)).i (by unfold sRule; omega)), hI.ag ((Ag.rf.i (by unfold sImg; omega)).i (by unfold sImg; omega)), hT.ag ((Ag.rf.i (by unfold sTxt; omega)).i (by unfold sTxt; omega)), hTa.ag ((Ag.rf.i (by unfold sTape; omega)).i (by unfold sTape; omega)), hSh.cell htt (by omega) ?_, hF.ag ((Ag.rf.i (by unfold sFix; omega)).i (by unfold sFix; omega))⟩
          grind
      · refine ev_ifF 32 38 dX11_cell_32 rfl (by decide) ?_
        refine ev_bipush 35 dX11_cell_35 kB_m12 ?_
        refine ev_ireturn 37 dX11_cell_37 rfl rfl ?_
        show EvP X (d + 9) MX12_cell 0 [.ref 100, .int (nI t), .int b, .int c] [] (pmT0 ++ LT) v _
        refine ev_aload_n 0 dX12_cell_0 rfl (by decide) ?_
        refine ev_iload_n 1 dX12_cell_1 rfl ?_
        refine cv_12_37_12 (pc := 2) rfl dX12_cell_2 kd_100 (Nat.le_of_ble_eq_true rfl) ?_
        refine c_X12_isSheet (fun g_2 => ?_) (fun g_2 => by exfalso; grind)
        refine ev_ifT 5 11 dX12_cell_5 rfl (by decide) ?_
        refine ev_aload_n 11 dX12_cell_11 rfl (by decide) ?_
        refine gf_12_41 (pc := 12) rfl dX12_cell_12 kd_100 (rf_100_49 hX) ?_
        refine ev_iload_n 15 dX12_cell_15 rfl ?_
        refine ev_iald (x := v.1 (92 + 2 * t) 0) 16 dX12_cell_16 (Nat.le_of_ble_eq_true rfl) ty_120 (pm_inI (by omega) (by omega)) (by rw [nI_clamp (by omega)] <;> exact hst) ?_
        refine ev_if_ge 17 23 dX12_cell_17 rfl (fun k_17 => ?_) (fun k_17 => by exfalso; grind)
        refine ev_aload_n 23 dX12_cell_23 rfl (by decide) ?_
        refine ev_iload_n 24 dX12_cell_24 rfl ?_
        refine ev_iconst 25 dX12_cell_25 kI_0 ?_
        refine ev_aload_n 26 dX12_cell_26 rfl (by decide) ?_
        refine gf_12_44 (pc := 27) rfl dX12_cell_27 kd_100 (rf_100_50 hX) ?_
        refine ev_iload_n 30 dX12_cell_30 rfl ?_
        refine ev_iald (x := nI qt) 31 dX12_cell_31 (Nat.le_of_ble_eq_true rfl) ty_121 (pm_inI (by omega) (by omega)) (by rw [nI_clamp (by omega)] <;> exact hrt) ?_
        refine ev_iconst 32 dX12_cell_32 kI_1 ?_
        refine ev_isub 33 dX12_cell_33 ?_
        refine cv_12_7_12 (pc := 34) rfl dX12_cell_34 kd_100 (Nat.le_of_ble_eq_true rfl) ?_
        refine c_X12_in (fun g_34 => by exfalso; grind) (fun g_34 => ?_)
        refine ev_ifF 37 43 dX12_cell_37 rfl (by decide) ?_
        refine ev_bipush 40 dX12_cell_40 kB_m12 ?_
        refine ev_ireturn 42 dX12_cell_42 rfl rfl ?_
        refine ⟨rfl, n, tx, z, LT, rfl, ?_⟩
        refine ⟨hX.ag (rfl), hL.ag Ag.rf (fun j => congrFun (congrFun (rfl) 33) j), hS.ag Ag.rf, hR.ag Ag.rf, hI.ag Ag.rf, hT.ag Ag.rf, hTa.ag Ag.rf, hSh.ag Ag.rf, hF.ag Ag.rf⟩
  · refine ev_astoreN (ls' := [.ref 32, .int a, .int b, .int c, .null]) 5 dX11_cell_5 (Nat.le_of_ble_eq_true rfl) rfl ?_
    refine ev_aloadN 7 dX11_cell_7 rfl ?_
    refine ev_ifnonnullN 9 dX11_cell_9 ?_
    refine ev_bipush 12 dX11_cell_12 kB_m2 ?_
    refine ev_ireturn 14 dX11_cell_14 rfl rfl ?_
    show EvP X (d + 9) MX12_cell 0 [.ref 100, .int a, .int b, .int c] [] (pmT0 ++ LT) v _
    refine ev_aload_n 0 dX12_cell_0 rfl (by decide) ?_
    refine ev_iload_n 1 dX12_cell_1 rfl ?_
    refine cv_12_37_12 (pc := 2) rfl dX12_cell_2 kd_100 (Nat.le_of_ble_eq_true rfl) ?_
    refine c_X12_isSheet (fun g_2 => by exfalso; grind) (fun g_2 => ?_)
    refine ev_ifF 5 11 dX12_cell_5 rfl (by decide) ?_
    refine ev_bipush 8 dX12_cell_8 kB_m2 ?_
    refine ev_ireturn 10 dX12_cell_10 rfl rfl ?_
    refine ⟨rfl, n, tx, z, LT, rfl, ?_⟩
    refine ⟨hX.ag (rfl), hL.ag Ag.rf (fun j => congrFun (congrFun (rfl) 33) j), hS.ag Ag.rf, hR.ag Ag.rf, hI.ag Ag.rf, hT.ag Ag.rf, hTa.ag Ag.rf, hSh.ag Ag.rf, hF.ag Ag.rf⟩

theorem lp_cp2 {X : pmX} {d : Nat} {P : Option Value → pmT → pmV → Prop} {LT : pmT} {t u i0 j0 n : Nat} (ht : t < 4) (hu : u < 4) (hi0 : i0 + n ≤ 60) (hj0 : j0 + n ≤ 60) : ∀ (k : Nat) (i : Nat) (v : pmV), i + k = n → pmRf v → (∀ v', pmRf v' → Wr v v' 122 (60 * u + j0 + i) (60 * u + j0 + n) (fun k => v.1 123 (k - (60 * u + j0))) → P (some (.int (nI n))) (pmT0 ++ LT) v') → EvP X d MX12_copy 142 [.ref 100, .int (nI t), .int (nI i0), .int (nI u), .int (nI j0), .int (nI n), .int (nI i)] [] (pmT0 ++ LT) v P := by
  intro k
  induction k with
  | zero => 
    intro i v hi hX K
    have hi2 : n = i := by omega
    subst hi2
    refine ev_iload 142 dX12_copy_142 rfl ?_
    refine ev_iload 144 dX12_copy_144 rfl ?_
    refine ev_icT 146 177 dX12_copy_146 rfl (nge_t (n := n)) ?_
    refine ev_iload 177 dX12_copy_177 rfl ?_
    refine ev_ireturn 179 dX12_copy_179 rfl rfl ?_
    exact K v hX (Wr.nil v 122 _ _)
  | succ k ih => 
    intro i v hi hX K
    refine ev_iload 142 dX12_copy_142 rfl ?_
    refine ev_iload 144 dX12_copy_144 rfl ?_
    refine ev_icF 146 177 dX12_copy_146 rfl (nge_f (n := n) (by omega) (by omega)) ?_
    refine ev_aload_n 149 dX12_copy_149 rfl (by decide) ?_
    refine gf_12_47 (pc := 150) rfl dX12_copy_150 kd_100 (rf_100_51 hX) ?_
    refine ev_bipush 153 dX12_copy_153 kB_60 ?_
    refine ev_iload_n 155 dX12_copy_155 rfl ?_
    refine ev_imul 156 dX12_copy_156 ?_
    refine ev_cst (y := nI (60 * u)) (nI_mulp 60 u) ?_
    refine ev_iload 157 dX12_copy_157 rfl ?_
    refine ev_iadd 159 dX12_copy_159 ?_
    refine ev_cst (y := nI ((60 * u) + j0)) (nI_add (60 * u) j0) ?_
    refine ev_iload 160 dX12_copy_160 rfl ?_
    refine ev_iadd 162 dX12_copy_162 ?_
    refine ev_cst (y := nI (((60 * u) + j0) + i)) (nI_add ((60 * u) + j0) i) ?_
    refine ev_aload_n 163 dX12_copy_163 rfl (by decide) ?_
    refine gf_12_202 (pc := 164) rfl dX12_copy_164 kd_100 (rf_100_52 hX) ?_
    refine ev_iload 167 dX12_copy_167 rfl ?_
    refine ev_iald (x := v.1 123 i) 169 dX12_copy_169 (Nat.le_of_ble_eq_true rfl) ty_123 (pm_inI (by omega) (by omega)) (by rw [nI_clamp (by omega)] <;> exact rfl) ?_
    refine ev_iast 170 dX12_copy_170 (Nat.le_of_ble_eq_true rfl) ty_122 (pm_inI (by omega) (by omega)) ?_
    rw [show (nI (((60 * u) + j0) + i)).toNatClampNeg = (((60 * u) + j0) + i) from nI_clamp (by omega)]
    refine ev_iinc (y := nI (i + 1)) (ls' := [.ref 100, .int (nI t), .int (nI i0), .int (nI u), .int (nI j0), .int (nI n), .int (nI (i + 1))]) 171 dX12_copy_171 rfl (nI_1 i) rfl ?_
    refine ev_goto 174 142 dX12_copy_174 rfl ?_
    refine ih (i + 1) _ (by omega) (hX.ag rfl) (fun v2 h1 h2 => K v2 h1 (((Wr.one v 122 (60 * u + j0 + i) (v.1 123 i)).cg (fun k hk hk2 => ?_)).cat (h2.cg (fun k hk hk2 => ?_)) (by omega) (by omega)))
    · exact congrArg (v.1 123) (show i = k - (60 * u + j0) by omega)
    · exact uI_off (by omega)
theorem lp_cp1 {X : pmX} {d : Nat} {P : Option Value → pmT → pmV → Prop} {LT : pmT} {t u i0 j0 n : Nat} (ht : t < 4) (hu : u < 4) (hi0 : i0 + n ≤ 60) (hj0 : j0 + n ≤ 60) : ∀ (k : Nat) (i : Nat) (v : pmV), i + k = n → pmRf v → (∀ v' w', pmRf w' → Wr v v' 123 i n (fun k => v.1 122 (60 * t + i0 + k)) → Wr v' w' 122 (60 * u + j0) (60 * u + j0 + n) (fun k => v'.1 123 (k - (60 * u + j0))) → P (some (.int (nI n))) (pmT0 ++ LT) w') → EvP X d MX12_copy 105 [.ref 100, .int (nI t), .int (nI i0), .int (nI u), .int (nI j0), .int (nI n), .int (nI i)] [] (pmT0 ++ LT) v P := by
  intro k
  induction k with
  | zero => 
    intro i v hi hX K
    have hi2 : n = i := by omega
    subst hi2
    refine ev_iload 105 dX12_copy_105 rfl ?_
    refine ev_iload 107 dX12_copy_107 rfl ?_
    refine ev_icT 109 139 dX12_copy_109 rfl (nge_t (n := n)) ?_
    refine ev_iconst 139 dX12_copy_139 kI_0 ?_
    refine ev_istore (ls' := [.ref 100, .int (nI t), .int (nI i0), .int (nI u), .int (nI j0), .int (nI n), .int 0]) 140 dX12_copy_140 (Nat.le_of_ble_eq_true rfl) rfl ?_
    exact lp_cp2 ht hu hi0 hj0 n 0 v (by omega) hX (fun v2 h1 h2 => K v v2 h1 (Wr.nil v 123 _ _) h2)
  | succ k ih => 
    intro i v hi hX K
    refine ev_iload 105 dX12_copy_105 rfl ?_
    refine ev_iload 107 dX12_copy_107 rfl ?_
    refine ev_icF 109 139 dX12_copy_109 rfl (nge_f (n := n) (by omega) (by omega)) ?_
    refine ev_aload_n 112 dX12_copy_112 rfl (by decide) ?_
    refine gf_12_202 (pc := 113) rfl dX12_copy_113 kd_100 (rf_100_52 hX) ?_
    refine ev_iload 116 dX12_copy_116 rfl ?_
    refine ev_aload_n 118 dX12_copy_118 rfl (by decide) ?_
    refine gf_12_47 (pc := 119) rfl dX12_copy_119 kd_100 (rf_100_51 hX) ?_
    refine ev_bipush 122 dX12_copy_122 kB_60 ?_
    refine ev_iload_n 124 dX12_copy_124 rfl ?_
    refine ev_imul 125 dX12_copy_125 ?_
    refine ev_cst (y := nI (60 * t)) (nI_mulp 60 t) ?_
    refine ev_iload_n 126 dX12_copy_126 rfl ?_
    refine ev_iadd 127 dX12_copy_127 ?_
    refine ev_cst (y := nI ((60 * t) + i0)) (nI_add (60 * t) i0) ?_
    refine ev_iload 128 dX12_copy_128 rfl ?_
    refine ev_iadd 130 dX12_copy_130 ?_
    refine ev_cst (y := nI (((60 * t) + i0) + i)) (nI_add ((60 * t) + i0) i) ?_
    refine ev_iald (x := v.1 122 (((60 * t) + i0) + i)) 131 dX12_copy_131 (Nat.le_of_ble_eq_true rfl) ty_122 (pm_inI (by omega) (by omega)) (by rw [nI_clamp (by omega)] <;> exact rfl) ?_
    refine ev_iast 132 dX12_copy_132 (Nat.le_of_ble_eq_true rfl) ty_123 (pm_inI (by omega) (by omega)) ?_
    rw [show (nI i).toNatClampNeg = i from nI_clamp (by omega)]
    refine ev_iinc (y := nI (i + 1)) (ls' := [.ref 100, .int (nI t), .int (nI i0), .int (nI u), .int (nI j0), .int (nI n), .int (nI (i + 1))]) 133 dX12_copy_133 rfl (nI_1 i) rfl ?_
    refine ev_goto 136 105 dX12_copy_136 rfl ?_
    refine ih (i + 1) _ (by omega) (hX.ag rfl) (fun v2 w2 h1 h2 h3 => K v2 w2 h1 (((Wr.one v 123 i (v.1 122 (60 * t + i0 + i))).cg (fun k hk hk2 => ?_)).cat (h2.cg (fun k hk hk2 => ?_)) (by omega) (by omega)) h3)
    · exact congrArg (v.1 122) (show 60 * t + i0 + i = 60 * t + i0 + k by omega)
    · exact uI_off (by omega)
theorem nI_sub {a b : Nat} (h : b ≤ a) : nI a - nI b = nI (a - b) := by
  obtain ⟨c, rfl⟩ : ∃ c, a = b + c := ⟨a - b, by omega⟩
  rw [← nI_add, show b + c - b = c by omega]
  grind
set_option maxHeartbeats 4000000 in
theorem op_copy {X : pmX} {d n tx z : Nat} {LT : pmT} {v : pmV} {a b c e f : Int32} (hC : Cpl n tx z LT v) : EvP X (d + 9) MX11_copy 0 [.ref 32, .int a, .int c, .int b, .int e, .int f, pmJ, pmJ] [] (pmT0 ++ LT) v (Aft X (d + 9) MX12_copy [.ref 100, .int a, .int c, .int b, .int e, .int f, pmJ]) := by
  obtain ⟨hX, hL, hS, hR, hI, hT, hTa, hSh, hF⟩ := hC
  refine ev_aload_n 0 dX11_copy_0 rfl (by decide) ?_
  refine ev_iload_n 1 dX11_copy_1 rfl ?_
  refine cv_11_100_11 (pc := 2) rfl dX11_copy_2 kd_32 (Nat.le_of_ble_eq_true rfl) ?_
  refine c_X11_sheetOf hX (fun t htt hqt => ?_) (fun hqt => ?_)
  · subst hqt
    have hbt : (0 : Int32) ≤ nI t ∧ nI t ≤ 3 := ⟨nI_pos' (by omega), nI_le (a := t) (b := 3) (by omega) (by omega)⟩
    obtain ⟨⟨hst, hlt, hmt⟩, ⟨qt, hq60t, hqt, hrt⟩, hit⟩ := hSh t htt
    have hqbt : (0 : Int32) ≤ nI qt ∧ nI qt ≤ 60 := ⟨nI_pos' (by omega), nI_le (a := qt) (b := 60) (by omega) (by omega)⟩
    refine ev_astore (ls' := [.ref 32, .int (nI t), .int c, .int b, .int e, .int f, .ref (92 + 2 * t), pmJ]) 5 dX11_copy_5 (Nat.le_of_ble_eq_true rfl) (by omega) rfl ?_
    refine ev_aload_n 7 dX11_copy_7 rfl (by decide) ?_
    refine ev_iload_n 8 dX11_copy_8 rfl ?_
    refine cv_11_100_11 (pc := 9) rfl dX11_copy_9 kd_32 (Nat.le_of_ble_eq_true rfl) ?_
    refine c_X11_sheetOf hX (fun u htu hqu => ?_) (fun hqu => ?_)
    · subst hqu
      have hbu : (0 : Int32) ≤ nI u ∧ nI u ≤ 3 := ⟨nI_pos' (by omega), nI_le (a := u) (b := 3) (by omega) (by omega)⟩
      obtain ⟨⟨hsu, hlu, hmu⟩, ⟨qu, hq60u, hqu, hru⟩, hiu⟩ := hSh u htu
      have hqbu : (0 : Int32) ≤ nI qu ∧ nI qu ≤ 60 := ⟨nI_pos' (by omega), nI_le (a := qu) (b := 60) (by omega) (by omega)⟩
      refine ev_astore (ls' := [.ref 32, .int (nI t), .int c, .int (nI u), .int e, .int f, .ref (92 + 2 * t), .ref (92 + 2 * u)]) 12 dX11_copy_12 (Nat.le_of_ble_eq_true rfl) (by omega) rfl ?_
      refine ev_aload 14 dX11_copy_14 rfl (by omega) ?_
      refine ev_ifnull 16 dX11_copy_16 (by omega) ?_
      refine ev_aload 19 dX11_copy_19 rfl (by omega) ?_
      refine ev_ifnonnull 21 27 dX11_copy_21 (by omega) rfl ?_
      refine ev_aload 27 dX11_copy_27 rfl (by omega) ?_
      refine cv_11_104_6 (pc := 29) rfl dX11_copy_29 (kd_sheet (by omega)) (Nat.le_of_ble_eq_true rfl) ?_
      refine c_X6_isMissing htt (fun h_29 => ?_) (fun h_29 => ?_)
      · refine ev_ifT 32 43 dX11_copy_32 rfl (by decide) ?_
        refine ev_bipush 43 dX11_copy_43 kB_m11 ?_
        refine ev_ireturn 45 dX11_copy_45 rfl rfl ?_
        show EvP X (d + 9) MX12_copy 0 [.ref 100, .int (nI t), .int c, .int (nI u), .int e, .int f, pmJ] [] (pmT0 ++ LT) v _
        refine ev_aload_n 0 dX12_copy_0 rfl (by decide) ?_
        refine ev_iload_n 1 dX12_copy_1 rfl ?_
        refine cv_12_37_12 (pc := 2) rfl dX12_copy_2 kd_100 (Nat.le_of_ble_eq_true rfl) ?_
        refine c_X12_isSheet (fun g_2 => ?_) (fun g_2 => by exfalso; grind)
        refine ev_ifF 5 16 dX12_copy_5 rfl (by decide) ?_
        refine ev_aload_n 8 dX12_copy_8 rfl (by decide) ?_
        refine ev_iload_n 9 dX12_copy_9 rfl ?_
        refine cv_12_37_12 (pc := 10) rfl dX12_copy_10 kd_100 (Nat.le_of_ble_eq_true rfl) ?_
        refine c_X12_isSheet (fun g_10 => ?_) (fun g_10 => by exfalso; grind)
        refine ev_ifT 13 19 dX12_copy_13 rfl (by decide) ?_
        refine ev_aload_n 19 dX12_copy_19 rfl (by decide) ?_
        refine gf_12_41 (pc := 20) rfl dX12_copy_20 kd_100 (rf_100_49 hX) ?_
        refine ev_iload_n 23 dX12_copy_23 rfl ?_
        refine ev_iald (x := v.1 (92 + 2 * t) 0) 24 dX12_copy_24 (Nat.le_of_ble_eq_true rfl) ty_120 (pm_inI (by omega) (by omega)) (by rw [nI_clamp (by omega)] <;> exact hst) ?_
        refine ev_if_lt 25 37 dX12_copy_25 rfl (fun k_25 => ?_) (fun k_25 => by exfalso; grind)
        refine ev_bipush 37 dX12_copy_37 kB_m11 ?_
        refine ev_ireturn 39 dX12_copy_39 rfl rfl ?_
        refine ⟨rfl, n, tx, z, LT, rfl, ?_⟩
        refine ⟨hX.ag (rfl), hL.ag Ag.rf (fun j => congrFun (congrFun (rfl) 33) j), hS.ag Ag.rf, hR.ag Ag.rf, hI.ag Ag.rf, hT.ag Ag.rf, hTa.ag Ag.rf, hSh.ag Ag.rf, hF.ag Ag.rf⟩
      · refine ev_ifF 32 43 dX11_copy_32 rfl (by decide) ?_
        refine ev_aload 35 dX11_copy_35 rfl (by omega) ?_
        refine cv_11_104_6 (pc := 37) rfl dX11_copy_37 (kd_sheet (by omega)) (Nat.le_of_ble_eq_true rfl) ?_
        refine c_X6_isMissing htu (fun h_37 => ?_) (fun h_37 => ?_)
        · refine ev_ifF 40 46 dX11_copy_40 rfl (by decide) ?_
          refine ev_bipush 43 dX11_copy_43 kB_m11 ?_
          refine ev_ireturn 45 dX11_copy_45 rfl rfl ?_
          show EvP X (d + 9) MX12_copy 0 [.ref 100, .int (nI t), .int c, .int (nI u), .int e, .int f, pmJ] [] (pmT0 ++ LT) v _
          refine ev_aload_n 0 dX12_copy_0 rfl (by decide) ?_
          refine ev_iload_n 1 dX12_copy_1 rfl ?_
          refine cv_12_37_12 (pc := 2) rfl dX12_copy_2 kd_100 (Nat.le_of_ble_eq_true rfl) ?_
          refine c_X12_isSheet (fun g_2 => ?_) (fun g_2 => by exfalso; grind)
          refine ev_ifF 5 16 dX12_copy_5 rfl (by decide) ?_
          refine ev_aload_n 8 dX12_copy_8 rfl (by decide) ?_
          refine ev_iload_n 9 dX12_copy_9 rfl ?_
          refine cv_12_37_12 (pc := 10) rfl dX12_copy_10 kd_100 (Nat.le_of_ble_eq_true rfl) ?_
          refine c_X12_isSheet (fun g_10 => ?_) (fun g_10 => by exfalso; grind)
          refine ev_ifT 13 19 dX12_copy_13 rfl (by decide) ?_
          refine ev_aload_n 19 dX12_copy_19 rfl (by decide) ?_
          refine gf_12_41 (pc := 20) rfl dX12_copy_20 kd_100 (rf_100_49 hX) ?_
          refine ev_iload_n 23 dX12_copy_23 rfl ?_
          refine ev_iald (x := v.1 (92 + 2 * t) 0) 24 dX12_copy_24 (Nat.le_of_ble_eq_true rfl) ty_120 (pm_inI (by omega) (by omega)) (by rw [nI_clamp (by omega)] <;> exact hst) ?_
          refine ev_if_lt 25 37 dX12_copy_25 rfl (fun k_25 => by exfalso; grind) (fun k_25 => ?_)
          refine ev_aload_n 28 dX12_copy_28 rfl (by decide) ?_
          refine gf_12_41 (pc := 29) rfl dX12_copy_29 kd_100 (rf_100_49 hX) ?_
          refine ev_iload_n 32 dX12_copy_32 rfl ?_
          refine ev_iald (x := v.1 (92 + 2 * u) 0) 33 dX12_copy_33 (Nat.le_of_ble_eq_true rfl) ty_120 (pm_inI (by omega) (by omega)) (by rw [nI_clamp (by omega)] <;> exact hsu) ?_
          refine ev_if_ge 34 40 dX12_copy_34 rfl (fun k_34 => by exfalso; grind) (fun k_34 => ?_)
          refine ev_bipush 37 dX12_copy_37 kB_m11 ?_
          refine ev_ireturn 39 dX12_copy_39 rfl rfl ?_
          refine ⟨rfl, n, tx, z, LT, rfl, ?_⟩
          refine ⟨hX.ag (rfl), hL.ag Ag.rf (fun j => congrFun (congrFun (rfl) 33) j), hS.ag Ag.rf, hR.ag Ag.rf, hI.ag Ag.rf, hT.ag Ag.rf, hTa.ag Ag.rf, hSh.ag Ag.rf, hF.ag Ag.rf⟩
        · refine ev_ifT 40 46 dX11_copy_40 rfl (by decide) ?_
          refine ev_aload 46 dX11_copy_46 rfl (by omega) ?_
          refine gf_11_246 (x := v.1 (92 + 2 * t) 0) (pc := 48) rfl dX11_copy_48 (kd_sheet (by omega)) rfl ?_
          refine ev_aload 51 dX11_copy_51 rfl (by omega) ?_
          refine gf_11_246 (x := v.1 (92 + 2 * u) 0) (pc := 53) rfl dX11_copy_53 (kd_sheet (by omega)) rfl ?_
          refine ev_ic_eq 56 62 dX11_copy_56 rfl (fun c_56 => ?_) (fun c_56 => ?_)
          · refine ev_aload 62 dX11_copy_62 rfl (by omega) ?_
            refine ev_iload_n 64 dX11_copy_64 rfl ?_
            refine ev_iload 65 dX11_copy_65 rfl ?_
            refine cv_11_249_6 (pc := 67) rfl dX11_copy_67 (kd_sheet (by omega)) (Nat.le_of_ble_eq_true rfl) ?_
            refine c_X6_hasAll htt (fun h_67 => ?_) (fun h_67 => ?_)
            · refine ev_ifF 70 85 dX11_copy_70 rfl (by decide) ?_
              refine ev_aload 73 dX11_copy_73 rfl (by omega) ?_
              refine ev_iload 75 dX11_copy_75 rfl ?_
              refine ev_iload 77 dX11_copy_77 rfl ?_
              refine cv_11_249_6 (pc := 79) rfl dX11_copy_79 (kd_sheet (by omega)) (Nat.le_of_ble_eq_true rfl) ?_
              refine c_X6_hasAll htu (fun h_79 => ?_) (fun h_79 => ?_)
              · refine ev_ifT 82 88 dX11_copy_82 rfl (by decide) ?_
                refine ev_aload 88 dX11_copy_88 rfl (by omega) ?_
                refine gf_11_253 (pc := 90) rfl dX11_copy_90 (kd_sheet (by omega)) (rf_items hX htt) ?_
                refine ev_iload_n 93 dX11_copy_93 rfl ?_
                refine ev_aload 94 dX11_copy_94 rfl (by omega) ?_
                refine gf_11_253 (pc := 96) rfl dX11_copy_96 (kd_sheet (by omega)) (rf_items hX htu) ?_
                refine ev_iload 99 dX11_copy_99 rfl ?_
                refine ev_iload 101 dX11_copy_101 rfl ?_
                obtain ⟨h1a, h1b, h1c, h1d⟩ := h_67
                obtain ⟨h2a, h2b, h2c, h2d⟩ := h_79
                obtain ⟨n0, hn0, rfl⟩ := nI_of (Int32.not_lt.mpr h1c)
                obtain ⟨i0, hi0, rfl⟩ := nI_of (Int32.not_lt.mpr h1a)
                obtain ⟨j0, hj0, rfl⟩ := nI_of (Int32.not_lt.mpr h2a)
                rw [hqt] at h1b h1d; rw [hqu] at h2b h2d
                have g1 : i0 ≤ qt := (nI_leI (by omega) (by omega)).mp h1b
                have g2 : j0 ≤ qu := (nI_leI (by omega) (by omega)).mp h2b
                rw [nI_sub g1] at h1d; rw [nI_sub g2] at h2d
                have g3 : n0 ≤ qt - i0 := (nI_leI (by omega) (by omega)).mp h1d
                have g4 : n0 ≤ qu - j0 := (nI_leI (by omega) (by omega)).mp h2d
                have k1 : (0 : Int32) ≤ nI i0 := nI_pos' hi0
                have k2 : (0 : Int32) ≤ nI j0 := nI_pos' hj0
                have k3 : (0 : Int32) ≤ nI n0 := nI_pos' hn0
                have k4 : nI i0 ≤ nI qt - nI n0 := by rw [nI_sub (by omega)]; exact nI_le (by omega) (by omega)
                have k5 : nI j0 ≤ nI qu - nI n0 := by rw [nI_sub (by omega)]; exact nI_le (by omega) (by omega)
                refine ev_copy (pc := 103) dX11_copy_103 ac0_11_256 ac1_11_256 ac_11_256 (by omega) (by omega) (ty_items htu) (ty_items htt) k1 k2 k3 (by rw [nI_clamp hi0, nI_clamp hn0]; omega) (by rw [nI_clamp hj0, nI_clamp hn0]; omega) (Nat.le_of_ble_eq_true rfl) ?_
                rw [nI_clamp hi0, nI_clamp hj0, nI_clamp hn0]
                have hw1 := Wr.cpy v (93 + 2 * u) i0 j0 n0 (v.1 (93 + 2 * t))
                generalize uA v (93 + 2 * u) (va_cpy (v.1 (93 + 2 * t)) (v.1 (93 + 2 * u)) i0 j0 n0) = w1 at hw1 ⊢
                refine ev_iload 106 dX11_copy_106 rfl ?_
                refine ev_ireturn 108 dX11_copy_108 rfl rfl ?_
                show EvP X (d + 9) MX12_copy 0 [.ref 100, .int (nI t), .int (nI i0), .int (nI u), .int (nI j0), .int (nI n0), pmJ] [] (pmT0 ++ LT) w1 _
                refine ev_aload_n 0 dX12_copy_0 rfl (by decide) ?_
                refine ev_iload_n 1 dX12_copy_1 rfl ?_
                refine cv_12_37_12 (pc := 2) rfl dX12_copy_2 kd_100 (Nat.le_of_ble_eq_true rfl) ?_
                refine c_X12_isSheet (fun g_2 => ?_) (fun g_2 => by exfalso; grind)
                refine ev_ifF 5 16 dX12_copy_5 rfl (by decide) ?_
                refine ev_aload_n 8 dX12_copy_8 rfl (by decide) ?_
                refine ev_iload_n 9 dX12_copy_9 rfl ?_
                refine cv_12_37_12 (pc := 10) rfl dX12_copy_10 kd_100 (Nat.le_of_ble_eq_true rfl) ?_
                refine c_X12_isSheet (fun g_10 => ?_) (fun g_10 => by exfalso; grind)
                refine ev_ifT 13 19 dX12_copy_13 rfl (by decide) ?_
                refine ev_aload_n 19 dX12_copy_19 rfl (by decide) ?_
                refine gf_12_41 (pc := 20) rfl dX12_copy_20 kd_100 (rf_100_49 (hX.ag (v' := w1) (Wr.rr hw1 (rfl) :))) ?_
                refine ev_iload_n 23 dX12_copy_23 rfl ?_
                refine ev_iald (x := v.1 (92 + 2 * t) 0) 24 dX12_copy_24 (Nat.le_of_ble_eq_true rfl) ty_120 (pm_inI (by omega) (by omega)) (by rw [nI_clamp (by omega)] <;> exact ((hw1.off (by omega)).trans hst)) ?_
                refine ev_if_lt 25 37 dX12_copy_25 rfl (fun k_25 => by exfalso; grind) (fun k_25 => ?_)
                refine ev_aload_n 28 dX12_copy_28 rfl (by decide) ?_
                refine gf_12_41 (pc := 29) rfl dX12_copy_29 kd_100 (rf_100_49 (hX.ag (v' := w1) (Wr.rr hw1 (rfl) :))) ?_
                refine ev_iload_n 32 dX12_copy_32 rfl ?_
                refine ev_iald (x := v.1 (92 + 2 * u) 0) 33 dX12_copy_33 (Nat.le_of_ble_eq_true rfl) ty_120 (pm_inI (by omega) (by omega)) (by rw [nI_clamp (by omega)] <;> exact ((hw1.off (by omega)).trans hsu)) ?_
                refine ev_if_ge 34 40 dX12_copy_34 rfl (fun k_34 => ?_) (fun k_34 => by exfalso; grind)
                refine ev_aload_n 40 dX12_copy_40 rfl (by decide) ?_
                refine gf_12_41 (pc := 41) rfl dX12_copy_41 kd_100 (rf_100_49 (hX.ag (v' := w1) (Wr.rr hw1 (rfl) :))) ?_
                refine ev_iload_n 44 dX12_copy_44 rfl ?_
                refine ev_iald (x := v.1 (92 + 2 * t) 0) 45 dX12_copy_45 (Nat.le_of_ble_eq_true rfl) ty_120 (pm_inI (by omega) (by omega)) (by rw [nI_clamp (by omega)] <;> exact ((hw1.off (by omega)).trans hst)) ?_
                refine ev_aload_n 46 dX12_copy_46 rfl (by decide) ?_
                refine gf_12_41 (pc := 47) rfl dX12_copy_47 kd_100 (rf_100_49 (hX.ag (v' := w1) (Wr.rr hw1 (rfl) :))) ?_
                refine ev_iload_n 50 dX12_copy_50 rfl ?_
                refine ev_iald (x := v.1 (92 + 2 * u) 0) 51 dX12_copy_51 (Nat.le_of_ble_eq_true rfl) ty_120 (pm_inI (by omega) (by omega)) (by rw [nI_clamp (by omega)] <;> exact ((hw1.off (by omega)).trans hsu)) ?_
                refine ev_ic_eq 52 58 dX12_copy_52 rfl (fun k_52 => ?_) (fun k_52 => by exfalso; grind)
                refine ev_iload 58 dX12_copy_58 rfl ?_
                refine ev_if_lt 60 99 dX12_copy_60 rfl (fun k_60 => by exfalso; grind) (fun k_60 => ?_)
                refine ev_iload_n 63 dX12_copy_63 rfl ?_
                refine ev_if_lt 64 99 dX12_copy_64 rfl (fun k_64 => by exfalso; grind) (fun k_64 => ?_)
                refine ev_iload 67 dX12_copy_67 rfl ?_
                refine ev_if_lt 69 99 dX12_copy_69 rfl (fun k_69 => by exfalso; grind) (fun k_69 => ?_)
                refine ev_iload_n 72 dX12_copy_72 rfl ?_
                refine ev_aload_n 73 dX12_copy_73 rfl (by decide) ?_
                refine gf_12_44 (pc := 74) rfl dX12_copy_74 kd_100 (rf_100_50 (hX.ag (v' := w1) (Wr.rr hw1 (rfl) :))) ?_
                refine ev_iload_n 77 dX12_copy_77 rfl ?_
                refine ev_iald (x := nI qt) 78 dX12_copy_78 (Nat.le_of_ble_eq_true rfl) ty_121 (pm_inI (by omega) (by omega)) (by rw [nI_clamp (by omega)] <;> exact ((hw1.off (by omega)).trans hrt)) ?_
                refine ev_iload 79 dX12_copy_79 rfl ?_
                refine ev_isub 81 dX12_copy_81 ?_
                refine ev_ic_gt 82 99 dX12_copy_82 rfl (fun k_82 => by exfalso; grind) (fun k_82 => ?_)
                refine ev_iload 85 dX12_copy_85 rfl ?_
                refine ev_aload_n 87 dX12_copy_87 rfl (by decide) ?_
                refine gf_12_44 (pc := 88) rfl dX12_copy_88 kd_100 (rf_100_50 (hX.ag (v' := w1) (Wr.rr hw1 (rfl) :))) ?_
                refine ev_iload_n 91 dX12_copy_91 rfl ?_
                refine ev_iald (x := nI qu) 92 dX12_copy_92 (Nat.le_of_ble_eq_true rfl) ty_121 (pm_inI (by omega) (by omega)) (by rw [nI_clamp (by omega)] <;> exact ((hw1.off (by omega)).trans hru)) ?_
                refine ev_iload 93 dX12_copy_93 rfl ?_
                refine ev_isub 95 dX12_copy_95 ?_
                refine ev_ic_le 96 102 dX12_copy_96 rfl (fun k_96 => ?_) (fun k_96 => by exfalso; grind)
                refine ev_iconst 102 dX12_copy_102 kI_0 ?_
                refine ev_istore (ls' := [.ref 100, .int (nI t), .int (nI i0), .int (nI u), .int (nI j0), .int (nI n0), .int 0]) 103 dX12_copy_103 (Nat.le_of_ble_eq_true rfl) rfl ?_
                refine lp_cp1 htt htu (i0 := i0) (j0 := j0) (by omega) (by omega) n0 0 _ (by omega) (hX.ag (v' := w1) (Wr.rr hw1 (rfl) :)) (fun w5 w6 hr6 hw5 hw6 => ?_)
                refine ⟨rfl, n, tx, z, LT, rfl, ?_⟩
                refine ⟨hX.ag (Wr.rr hw6 (Wr.rr hw5 (Wr.rr hw1 (rfl) :) :) :), hL.ag (((Ag.rf.w hw1 (fun j _ _ => by unfold sLan; omega)).w hw5 (fun j _ _ => by unfold sLan; omega)).w hw6 (fun j _ _ => by unfold sLan; omega)) (fun j => congrFun (congrFun (Wr.rr hw6 (Wr.rr hw5 (Wr.rr hw1 (rfl) :) :) :) 33) j), hS.ag (((Ag.rf.w hw1 (fun j _ _ => by unfold sSet; omega)).w hw5 (fun j _ _ => by unfold sSet; omega)).w hw6 (fun j _ _ => by unfold sSet; omega)), hR.ag (((Ag.rf.w hw1 (fun j _ _ => by unfold sRule; omega)).w hw5 (fun j _ _ => by unfold sRule; omega)).w hw6 (fun j _ _ => by unfold sRule; omega)), hI.ag (((Ag.rf.w hw1 (fun j _ _ => by unfold sImg; omega)).w hw5 (fun j _ _ => by unfold sImg; omega)).w hw6 (fun j _ _ => by unfold sImg; omega)), hT.ag (((Ag.rf.w hw1 (fun j _ _ => by unfold sTxt; omega)).w hw5 (fun j _ _ => by unfold sTxt; omega)).w hw6 (fun j _ _ => by unfold sTxt; omega)), hTa.ag (((Ag.rf.w hw1 (fun j _ _ => by unfold sTape; omega)).w hw5 (fun j _ _ => by unfold sTape; omega)).w hw6 (fun j _ _ => by unfold sTape; omega)), hSh.copy htt htu (by omega) (by omega) hw1 hw5 hw6, hF.ag (((Ag.rf.w hw1 (fun j _ _ => by unfold sFix; omega)).w hw5 (fun j _ _ => by unfold sFix; omega)).w hw6 (fun j _ _ => by unfold sFix; omega))⟩
              · refine ev_ifF 82 88 dX11_copy_82 rfl (by decide) ?_
                refine ev_bipush 85 dX11_copy_85 kB_m12 ?_
                refine ev_ireturn 87 dX11_copy_87 rfl rfl ?_
                show EvP X (d + 9) MX12_copy 0 [.ref 100, .int (nI t), .int c, .int (nI u), .int e, .int f, pmJ] [] (pmT0 ++ LT) v _
                refine ev_aload_n 0 dX12_copy_0 rfl (by decide) ?_
                refine ev_iload_n 1 dX12_copy_1 rfl ?_
                refine cv_12_37_12 (pc := 2) rfl dX12_copy_2 kd_100 (Nat.le_of_ble_eq_true rfl) ?_
                refine c_X12_isSheet (fun g_2 => ?_) (fun g_2 => by exfalso; grind)
                refine ev_ifF 5 16 dX12_copy_5 rfl (by decide) ?_
                refine ev_aload_n 8 dX12_copy_8 rfl (by decide) ?_
                refine ev_iload_n 9 dX12_copy_9 rfl ?_
                refine cv_12_37_12 (pc := 10) rfl dX12_copy_10 kd_100 (Nat.le_of_ble_eq_true rfl) ?_
                refine c_X12_isSheet (fun g_10 => ?_) (fun g_10 => by exfalso; grind)
                refine ev_ifT 13 19 dX12_copy_13 rfl (by decide) ?_
                refine ev_aload_n 19 dX12_copy_19 rfl (by decide) ?_
                refine gf_12_41 (pc := 20) rfl dX12_copy_20 kd_100 (rf_100_49 hX) ?_
                refine ev_iload_n 23 dX12_copy_23 rfl ?_
                refine ev_iald (x := v.1 (92 + 2 * t) 0) 24 dX12_copy_24 (Nat.le_of_ble_eq_true rfl) ty_120 (pm_inI (by omega) (by omega)) (by rw [nI_clamp (by omega)] <;> exact hst) ?_
                refine ev_if_lt 25 37 dX12_copy_25 rfl (fun k_25 => by exfalso; grind) (fun k_25 => ?_)
                refine ev_aload_n 28 dX12_copy_28 rfl (by decide) ?_
                refine gf_12_41 (pc := 29) rfl dX12_copy_29 kd_100 (rf_100_49 hX) ?_
                refine ev_iload_n 32 dX12_copy_32 rfl ?_
                refine ev_iald (x := v.1 (92 + 2 * u) 0) 33 dX12_copy_33 (Nat.le_of_ble_eq_true rfl) ty_120 (pm_inI (by omega) (by omega)) (by rw [nI_clamp (by omega)] <;> exact hsu) ?_
                refine ev_if_ge 34 40 dX12_copy_34 rfl (fun k_34 => ?_) (fun k_34 => by exfalso; grind)
                refine ev_aload_n 40 dX12_copy_40 rfl (by decide) ?_
                refine gf_12_41 (pc := 41) rfl dX12_copy_41 kd_100 (rf_100_49 hX) ?_
                refine ev_iload_n 44 dX12_copy_44 rfl ?_
                refine ev_iald (x := v.1 (92 + 2 * t) 0) 45 dX12_copy_45 (Nat.le_of_ble_eq_true rfl) ty_120 (pm_inI (by omega) (by omega)) (by rw [nI_clamp (by omega)] <;> exact hst) ?_
                refine ev_aload_n 46 dX12_copy_46 rfl (by decide) ?_
                refine gf_12_41 (pc := 47) rfl dX12_copy_47 kd_100 (rf_100_49 hX) ?_
                refine ev_iload_n 50 dX12_copy_50 rfl ?_
                refine ev_iald (x := v.1 (92 + 2 * u) 0) 51 dX12_copy_51 (Nat.le_of_ble_eq_true rfl) ty_120 (pm_inI (by omega) (by omega)) (by rw [nI_clamp (by omega)] <;> exact hsu) ?_
                refine ev_ic_eq 52 58 dX12_copy_52 rfl (fun k_52 => ?_) (fun k_52 => by exfalso; grind)
                refine ev_iload 58 dX12_copy_58 rfl ?_
                refine ev_if_lt 60 99 dX12_copy_60 rfl (fun k_60 => by exfalso; grind) (fun k_60 => ?_)
                refine ev_iload_n 63 dX12_copy_63 rfl ?_
                refine ev_if_lt 64 99 dX12_copy_64 rfl (fun k_64 => by exfalso; grind) (fun k_64 => ?_)
                refine ev_iload 67 dX12_copy_67 rfl ?_
                refine ev_if_lt 69 99 dX12_copy_69 rfl (fun k_69 => ?_) (fun k_69 => ?_)
                · refine ev_bipush 99 dX12_copy_99 kB_m12 ?_
                  refine ev_ireturn 101 dX12_copy_101 rfl rfl ?_
                  refine ⟨rfl, n, tx, z, LT, rfl, ?_⟩
                  refine ⟨hX.ag (rfl), hL.ag Ag.rf (fun j => congrFun (congrFun (rfl) 33) j), hS.ag Ag.rf, hR.ag Ag.rf, hI.ag Ag.rf, hT.ag Ag.rf, hTa.ag Ag.rf, hSh.ag Ag.rf, hF.ag Ag.rf⟩
                · refine ev_iload_n 72 dX12_copy_72 rfl ?_
                  refine ev_aload_n 73 dX12_copy_73 rfl (by decide) ?_
                  refine gf_12_44 (pc := 74) rfl dX12_copy_74 kd_100 (rf_100_50 hX) ?_
                  refine ev_iload_n 77 dX12_copy_77 rfl ?_
                  refine ev_iald (x := nI qt) 78 dX12_copy_78 (Nat.le_of_ble_eq_true rfl) ty_121 (pm_inI (by omega) (by omega)) (by rw [nI_clamp (by omega)] <;> exact hrt) ?_
                  refine ev_iload 79 dX12_copy_79 rfl ?_
                  refine ev_isub 81 dX12_copy_81 ?_
                  refine ev_ic_gt 82 99 dX12_copy_82 rfl (fun k_82 => by exfalso; grind) (fun k_82 => ?_)
                  refine ev_iload 85 dX12_copy_85 rfl ?_
                  refine ev_aload_n 87 dX12_copy_87 rfl (by decide) ?_
                  refine gf_12_44 (pc := 88) rfl dX12_copy_88 kd_100 (rf_100_50 hX) ?_
                  refine ev_iload_n 91 dX12_copy_91 rfl ?_
                  refine ev_iald (x := nI qu) 92 dX12_copy_92 (Nat.le_of_ble_eq_true rfl) ty_121 (pm_inI (by omega) (by omega)) (by rw [nI_clamp (by omega)] <;> exact hru) ?_
                  refine ev_iload 93 dX12_copy_93 rfl ?_
                  refine ev_isub 95 dX12_copy_95 ?_
                  refine ev_ic_le 96 102 dX12_copy_96 rfl (fun k_96 => by exfalso; grind) (fun k_96 => ?_)
                  refine ev_bipush 99 dX12_copy_99 kB_m12 ?_
                  refine ev_ireturn 101 dX12_copy_101 rfl rfl ?_
                  refine ⟨rfl, n, tx, z, LT, rfl, ?_⟩
                  refine ⟨hX.ag (rfl), hL.ag Ag.rf (fun j => congrFun (congrFun (rfl) 33) j), hS.ag Ag.rf, hR.ag Ag.rf, hI.ag Ag.rf, hT.ag Ag.rf, hTa.ag Ag.rf, hSh.ag Ag.rf, hF.ag Ag.rf⟩
            · refine ev_ifT 70 85 dX11_copy_70 rfl (by decide) ?_
              refine ev_bipush 85 dX11_copy_85 kB_m12 ?_
              refine ev_ireturn 87 dX11_copy_87 rfl rfl ?_
              show EvP X (d + 9) MX12_copy 0 [.ref 100, .int (nI t), .int c, .int (nI u), .int e, .int f, pmJ] [] (pmT0 ++ LT) v _
              refine ev_aload_n 0 dX12_copy_0 rfl (by decide) ?_
              refine ev_iload_n 1 dX12_copy_1 rfl ?_
              refine cv_12_37_12 (pc := 2) rfl dX12_copy_2 kd_100 (Nat.le_of_ble_eq_true rfl) ?_
              refine c_X12_isSheet (fun g_2 => ?_) (fun g_2 => by exfalso; grind)
              refine ev_ifF 5 16 dX12_copy_5 rfl (by decide) ?_
              refine ev_aload_n 8 dX12_copy_8 rfl (by decide) ?_
              refine ev_iload_n 9 dX12_copy_9 rfl ?_
              refine cv_12_37_12 (pc := 10) rfl dX12_copy_10 kd_100 (Nat.le_of_ble_eq_true rfl) ?_
              refine c_X12_isSheet (fun g_10 => ?_) (fun g_10 => by exfalso; grind)
              refine ev_ifT 13 19 dX12_copy_13 rfl (by decide) ?_
              refine ev_aload_n 19 dX12_copy_19 rfl (by decide) ?_
              refine gf_12_41 (pc := 20) rfl dX12_copy_20 kd_100 (rf_100_49 hX) ?_
              refine ev_iload_n 23 dX12_copy_23 rfl ?_
              refine ev_iald (x := v.1 (92 + 2 * t) 0) 24 dX12_copy_24 (Nat.le_of_ble_eq_true rfl) ty_120 (pm_inI (by omega) (by omega)) (by rw [nI_clamp (by omega)] <;> exact hst) ?_
              refine ev_if_lt 25 37 dX12_copy_25 rfl (fun k_25 => by exfalso; grind) (fun k_25 => ?_)
              refine ev_aload_n 28 dX12_copy_28 rfl (by decide) ?_
              refine gf_12_41 (pc := 29) rfl dX12_copy_29 kd_100 (rf_100_49 hX) ?_
              refine ev_iload_n 32 dX12_copy_32 rfl ?_
              refine ev_iald (x := v.1 (92 + 2 * u) 0) 33 dX12_copy_33 (Nat.le_of_ble_eq_true rfl) ty_120 (pm_inI (by omega) (by omega)) (by rw [nI_clamp (by omega)] <;> exact hsu) ?_
              refine ev_if_ge 34 40 dX12_copy_34 rfl (fun k_34 => ?_) (fun k_34 => by exfalso; grind)
              refine ev_aload_n 40 dX12_copy_40 rfl (by decide) ?_
              refine gf_12_41 (pc := 41) rfl dX12_copy_41 kd_100 (rf_100_49 hX) ?_
              refine ev_iload_n 44 dX12_copy_44 rfl ?_
              refine ev_iald (x := v.1 (92 + 2 * t) 0) 45 dX12_copy_45 (Nat.le_of_ble_eq_true rfl) ty_120 (pm_inI (by omega) (by omega)) (by rw [nI_clamp (by omega)] <;> exact hst) ?_
              refine ev_aload_n 46 dX12_copy_46 rfl (by decide) ?_
              refine gf_12_41 (pc := 47) rfl dX12_copy_47 kd_100 (rf_100_49 hX) ?_
              refine ev_iload_n 50 dX12_copy_50 rfl ?_
              refine ev_iald (x := v.1 (92 + 2 * u) 0) 51 dX12_copy_51 (Nat.le_of_ble_eq_true rfl) ty_120 (pm_inI (by omega) (by omega)) (by rw [nI_clamp (by omega)] <;> exact hsu) ?_
              refine ev_ic_eq 52 58 dX12_copy_52 rfl (fun k_52 => ?_) (fun k_52 => by exfalso; grind)
              refine ev_iload 58 dX12_copy_58 rfl ?_
              refine ev_if_lt 60 99 dX12_copy_60 rfl (fun k_60 => ?_) (fun k_60 => ?_)
              · refine ev_bipush 99 dX12_copy_99 kB_m12 ?_
                refine ev_ireturn 101 dX12_copy_101 rfl rfl ?_
                refine ⟨rfl, n, tx, z, LT, rfl, ?_⟩
                refine ⟨hX.ag (rfl), hL.ag Ag.rf (fun j => congrFun (congrFun (rfl) 33) j), hS.ag Ag.rf, hR.ag Ag.rf, hI.ag Ag.rf, hT.ag Ag.rf, hTa.ag Ag.rf, hSh.ag Ag.rf, hF.ag Ag.rf⟩
              · refine ev_iload_n 63 dX12_copy_63 rfl ?_
                refine ev_if_lt 64 99 dX12_copy_64 rfl (fun k_64 => ?_) (fun k_64 => ?_)
                · refine ev_bipush 99 dX12_copy_99 kB_m12 ?_
                  refine ev_ireturn 101 dX12_copy_101 rfl rfl ?_
                  refine ⟨rfl, n, tx, z, LT, rfl, ?_⟩
                  refine ⟨hX.ag (rfl), hL.ag Ag.rf (fun j => congrFun (congrFun (rfl) 33) j), hS.ag Ag.rf, hR.ag Ag.rf, hI.ag Ag.rf, hT.ag Ag.rf, hTa.ag Ag.rf, hSh.ag Ag.rf, hF.ag Ag.rf⟩
                · refine ev_iload 67 dX12_copy_67 rfl ?_
                  refine ev_if_lt 69 99 dX12_copy_69 rfl (fun k_69 => ?_) (fun k_69 => ?_)
                  · refine ev_bipush 99 dX12_copy_99 kB_m12 ?_
                    refine ev_ireturn 101 dX12_copy_101 rfl rfl ?_
                    refine ⟨rfl, n, tx, z, LT, rfl, ?_⟩
                    refine ⟨hX.ag (rfl), hL.ag Ag.rf (fun j => congrFun (congrFun (rfl) 33) j), hS.ag Ag.rf, hR.ag Ag.rf, hI.ag Ag.rf, hT.ag Ag.rf, hTa.ag Ag.rf, hSh.ag Ag.rf, hF.ag Ag.rf⟩
                  · refine ev_iload_n 72 dX12_copy_72 rfl ?_
                    refine ev_aload_n 73 dX12_copy_73 rfl (by decide) ?_
                    refine gf_12_44 (pc := 74) rfl dX12_copy_74 kd_100 (rf_100_50 hX) ?_
                    refine ev_iload_n 77 dX12_copy_77 rfl ?_
                    refine ev_iald (x := nI qt) 78 dX12_copy_78 (Nat.le_of_ble_eq_true rfl) ty_121 (pm_inI (by omega) (by omega)) (by rw [nI_clamp (by omega)] <;> exact hrt) ?_
                    refine ev_iload 79 dX12_copy_79 rfl ?_
                    refine ev_isub 81 dX12_copy_81 ?_
                    refine ev_ic_gt 82 99 dX12_copy_82 rfl (fun k_82 => ?_) (fun k_82 => by exfalso; grind)
                    refine ev_bipush 99 dX12_copy_99 kB_m12 ?_
                    refine ev_ireturn 101 dX12_copy_101 rfl rfl ?_
                    refine ⟨rfl, n, tx, z, LT, rfl, ?_⟩
                    refine ⟨hX.ag (rfl), hL.ag Ag.rf (fun j => congrFun (congrFun (rfl) 33) j), hS.ag Ag.rf, hR.ag Ag.rf, hI.ag Ag.rf, hT.ag Ag.rf, hTa.ag Ag.rf, hSh.ag Ag.rf, hF.ag Ag.rf⟩
          · refine ev_bipush 59 dX11_copy_59 kB_m13 ?_
            refine ev_ireturn 61 dX11_copy_61 rfl rfl ?_
            show EvP X (d + 9) MX12_copy 0 [.ref 100, .int (nI t), .int c, .int (nI u), .int e, .int f, pmJ] [] (pmT0 ++ LT) v _
            refine ev_aload_n 0 dX12_copy_0 rfl (by decide) ?_
            refine ev_iload_n 1 dX12_copy_1 rfl ?_
            refine cv_12_37_12 (pc := 2) rfl dX12_copy_2 kd_100 (Nat.le_of_ble_eq_true rfl) ?_
            refine c_X12_isSheet (fun g_2 => ?_) (fun g_2 => by exfalso; grind)
            refine ev_ifF 5 16 dX12_copy_5 rfl (by decide) ?_
            refine ev_aload_n 8 dX12_copy_8 rfl (by decide) ?_
            refine ev_iload_n 9 dX12_copy_9 rfl ?_
            refine cv_12_37_12 (pc := 10) rfl dX12_copy_10 kd_100 (Nat.le_of_ble_eq_true rfl) ?_
            refine c_X12_isSheet (fun g_10 => ?_) (fun g_10 => by exfalso; grind)
            refine ev_ifT 13 19 dX12_copy_13 rfl (by decide) ?_
            refine ev_aload_n 19 dX12_copy_19 rfl (by decide) ?_
            refine gf_12_41 (pc := 20) rfl dX12_copy_20 kd_100 (rf_100_49 hX) ?_
            refine ev_iload_n 23 dX12_copy_23 rfl ?_
            refine ev_iald (x := v.1 (92 + 2 * t) 0) 24 dX12_copy_24 (Nat.le_of_ble_eq_true rfl) ty_120 (pm_inI (by omega) (by omega)) (by rw [nI_clamp (by omega)] <;> exact hst) ?_
            refine ev_if_lt 25 37 dX12_copy_25 rfl (fun k_25 => by exfalso; grind) (fun k_25 => ?_)
            refine ev_aload_n 28 dX12_copy_28 rfl (by decide) ?_
            refine gf_12_41 (pc := 29) rfl dX12_copy_29 kd_100 (rf_100_49 hX) ?_
            refine ev_iload_n 32 dX12_copy_32 rfl ?_
            refine ev_iald (x := v.1 (92 + 2 * u) 0) 33 dX12_copy_33 (Nat.le_of_ble_eq_true rfl) ty_120 (pm_inI (by omega) (by omega)) (by rw [nI_clamp (by omega)] <;> exact hsu) ?_
            refine ev_if_ge 34 40 dX12_copy_34 rfl (fun k_34 => ?_) (fun k_34 => by exfalso; grind)
            refine ev_aload_n 40 dX12_copy_40 rfl (by decide) ?_
            refine gf_12_41 (pc := 41) rfl dX12_copy_41 kd_100 (rf_100_49 hX) ?_
            refine ev_iload_n 44 dX12_copy_44 rfl ?_
            refine ev_iald (x := v.1 (92 + 2 * t) 0) 45 dX12_copy_45 (Nat.le_of_ble_eq_true rfl) ty_120 (pm_inI (by omega) (by omega)) (by rw [nI_clamp (by omega)] <;> exact hst) ?_
            refine ev_aload_n 46 dX12_copy_46 rfl (by decide) ?_
            refine gf_12_41 (pc := 47) rfl dX12_copy_47 kd_100 (rf_100_49 hX) ?_
            refine ev_iload_n 50 dX12_copy_50 rfl ?_
            refine ev_iald (x := v.1 (92 + 2 * u) 0) 51 dX12_copy_51 (Nat.le_of_ble_eq_true rfl) ty_120 (pm_inI (by omega) (by omega)) (by rw [nI_clamp (by omega)] <;> exact hsu) ?_
            refine ev_ic_eq 52 58 dX12_copy_52 rfl (fun k_52 => by exfalso; grind) (fun k_52 => ?_)
            refine ev_bipush 55 dX12_copy_55 kB_m13 ?_
            refine ev_ireturn 57 dX12_copy_57 rfl rfl ?_
            refine ⟨rfl, n, tx, z, LT, rfl, ?_⟩
            refine ⟨hX.ag (rfl), hL.ag Ag.rf (fun j => congrFun (congrFun (rfl) 33) j), hS.ag Ag.rf, hR.ag Ag.rf, hI.ag Ag.rf, hT.ag Ag.rf, hTa.ag Ag.rf, hSh.ag Ag.rf, hF.ag Ag.rf⟩
    · refine ev_astoreN (ls' := [.ref 32, .int (nI t), .int c, .int b, .int e, .int f, .ref (92 + 2 * t), .null]) 12 dX11_copy_12 (Nat.le_of_ble_eq_true rfl) rfl ?_
      refine ev_aload 14 dX11_copy_14 rfl (by omega) ?_
      refine ev_ifnull 16 dX11_copy_16 (by omega) ?_
      refine ev_aloadN 19 dX11_copy_19 rfl ?_
      refine ev_ifnonnullN 21 dX11_copy_21 ?_
      refine ev_bipush 24 dX11_copy_24 kB_m2 ?_
      refine ev_ireturn 26 dX11_copy_26 rfl rfl ?_
      show EvP X (d + 9) MX12_copy 0 [.ref 100, .int (nI t), .int c, .int b, .int e, .int f, pmJ] [] (pmT0 ++ LT) v _
      refine ev_aload_n 0 dX12_copy_0 rfl (by decide) ?_
      refine ev_iload_n 1 dX12_copy_1 rfl ?_
      refine cv_12_37_12 (pc := 2) rfl dX12_copy_2 kd_100 (Nat.le_of_ble_eq_true rfl) ?_
      refine c_X12_isSheet (fun g_2 => ?_) (fun g_2 => by exfalso; grind)
      refine ev_ifF 5 16 dX12_copy_5 rfl (by decide) ?_
      refine ev_aload_n 8 dX12_copy_8 rfl (by decide) ?_
      refine ev_iload_n 9 dX12_copy_9 rfl ?_
      refine cv_12_37_12 (pc := 10) rfl dX12_copy_10 kd_100 (Nat.le_of_ble_eq_true rfl) ?_
      refine c_X12_isSheet (fun g_10 => by exfalso; grind) (fun g_10 => ?_)
      refine ev_ifF 13 19 dX12_copy_13 rfl (by decide) ?_
      refine ev_bipush 16 dX12_copy_16 kB_m2 ?_
      refine ev_ireturn 18 dX12_copy_18 rfl rfl ?_
      refine ⟨rfl, n, tx, z, LT, rfl, ?_⟩
      refine ⟨hX.ag (rfl), hL.ag Ag.rf (fun j => congrFun (congrFun (rfl) 33) j), hS.ag Ag.rf, hR.ag Ag.rf, hI.ag Ag.rf, hT.ag Ag.rf, hTa.ag Ag.rf, hSh.ag Ag.rf, hF.ag Ag.rf⟩
  · refine ev_astoreN (ls' := [.ref 32, .int a, .int c, .int b, .int e, .int f, .null, pmJ]) 5 dX11_copy_5 (Nat.le_of_ble_eq_true rfl) rfl ?_
    refine ev_aload_n 7 dX11_copy_7 rfl (by decide) ?_
    refine ev_iload_n 8 dX11_copy_8 rfl ?_
    refine cv_11_100_11 (pc := 9) rfl dX11_copy_9 kd_32 (Nat.le_of_ble_eq_true rfl) ?_
    refine c_X11_sheetOf hX (fun t htt hqt => ?_) (fun hqt => ?_)
    · subst hqt
      have hbt : (0 : Int32) ≤ nI t ∧ nI t ≤ 3 := ⟨nI_pos' (by omega), nI_le (a := t) (b := 3) (by omega) (by omega)⟩
      obtain ⟨⟨hst, hlt, hmt⟩, ⟨qt, hq60t, hqt, hrt⟩, hit⟩ := hSh t htt
      have hqbt : (0 : Int32) ≤ nI qt ∧ nI qt ≤ 60 := ⟨nI_pos' (by omega), nI_le (a := qt) (b := 60) (by omega) (by omega)⟩
      refine ev_astore (ls' := [.ref 32, .int a, .int c, .int (nI t), .int e, .int f, .null, .ref (92 + 2 * t)]) 12 dX11_copy_12 (Nat.le_of_ble_eq_true rfl) (by omega) rfl ?_
      refine ev_aloadN 14 dX11_copy_14 rfl ?_
      refine ev_ifnullN 16 24 dX11_copy_16 rfl ?_
      refine ev_bipush 24 dX11_copy_24 kB_m2 ?_
      refine ev_ireturn 26 dX11_copy_26 rfl rfl ?_
      show EvP X (d + 9) MX12_copy 0 [.ref 100, .int a, .int c, .int (nI t), .int e, .int f, pmJ] [] (pmT0 ++ LT) v _
      refine ev_aload_n 0 dX12_copy_0 rfl (by decide) ?_
      refine ev_iload_n 1 dX12_copy_1 rfl ?_
      refine cv_12_37_12 (pc := 2) rfl dX12_copy_2 kd_100 (Nat.le_of_ble_eq_true rfl) ?_
      refine c_X12_isSheet (fun g_2 => by exfalso; grind) (fun g_2 => ?_)
      refine ev_ifT 5 16 dX12_copy_5 rfl (by decide) ?_
      refine ev_bipush 16 dX12_copy_16 kB_m2 ?_
      refine ev_ireturn 18 dX12_copy_18 rfl rfl ?_
      refine ⟨rfl, n, tx, z, LT, rfl, ?_⟩
      refine ⟨hX.ag (rfl), hL.ag Ag.rf (fun j => congrFun (congrFun (rfl) 33) j), hS.ag Ag.rf, hR.ag Ag.rf, hI.ag Ag.rf, hT.ag Ag.rf, hTa.ag Ag.rf, hSh.ag Ag.rf, hF.ag Ag.rf⟩
    · refine ev_astoreN (ls' := [.ref 32, .int a, .int c, .int b, .int e, .int f, .null, .null]) 12 dX11_copy_12 (Nat.le_of_ble_eq_true rfl) rfl ?_
      refine ev_aloadN 14 dX11_copy_14 rfl ?_
      refine ev_ifnullN 16 24 dX11_copy_16 rfl ?_
      refine ev_bipush 24 dX11_copy_24 kB_m2 ?_
      refine ev_ireturn 26 dX11_copy_26 rfl rfl ?_
      show EvP X (d + 9) MX12_copy 0 [.ref 100, .int a, .int c, .int b, .int e, .int f, pmJ] [] (pmT0 ++ LT) v _
      refine ev_aload_n 0 dX12_copy_0 rfl (by decide) ?_
      refine ev_iload_n 1 dX12_copy_1 rfl ?_
      refine cv_12_37_12 (pc := 2) rfl dX12_copy_2 kd_100 (Nat.le_of_ble_eq_true rfl) ?_
      refine c_X12_isSheet (fun g_2 => by exfalso; grind) (fun g_2 => ?_)
      refine ev_ifT 5 16 dX12_copy_5 rfl (by decide) ?_
      refine ev_bipush 16 dX12_copy_16 kB_m2 ?_
      refine ev_ireturn 18 dX12_copy_18 rfl rfl ?_
      refine ⟨rfl, n, tx, z, LT, rfl, ?_⟩
      refine ⟨hX.ag (rfl), hL.ag Ag.rf (fun j => congrFun (congrFun (rfl) 33) j), hS.ag Ag.rf, hR.ag Ag.rf, hI.ag Ag.rf, hT.ag Ag.rf, hTa.ag Ag.rf, hSh.ag Ag.rf, hF.ag Ag.rf⟩

