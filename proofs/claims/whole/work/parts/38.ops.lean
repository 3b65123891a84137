/-! back, count -/
theorem sw_out {x lo hi : Int32} {l h : Int} (el : lo.toInt = l) (eh : hi.toInt = h) (hx : ¬ (lo ≤ x ∧ x ≤ hi)) : x.toInt < l ∨ h < x.toInt := by
  subst el eh
  rw [Int32.le_iff_toInt_le, Int32.le_iff_toInt_le] at hx
  omega
theorem nI_place (w i : Nat) : nI w * 60 + nI i = nI (w * 60 + i) := by
  rw [show (60 : Int32) = nI 60 from rfl, nI_mulp, nI_add]
set_option maxHeartbeats 4000000 in
theorem op_back {X : pmX} {d n tx z : Nat} {LT : pmT} {v : pmV}  (hC : Cpl n tx z LT v) : EvP X (d + 9) MX11_back 0 [.ref 32] [] (pmT0 ++ LT) v (Aft X (d + 9) MX12_back [.ref 100, pmJ]) := by
  obtain ⟨hX, hL, hS, hR, hI, hT, hTa, hSh, hF⟩ := hC
  obtain ⟨r0, hr0, hr1, hr2⟩ := id hR
  obtain ⟨hI1, hI2⟩ := id hI
  refine ev_aload_n 0 dX11_back_0 rfl (by decide) ?_
  refine gf_11_231 (x := v.1 32 4) (pc := 1) rfl dX11_back_1 kd_32 rfl ?_
  refine ev_if_ne 4 10 dX11_back_4 rfl (fun c_4 => ?_) (fun c_4 => ?_)
  · have hI3 := hI2.resolve_left c_4
    obtain ⟨i1, i2, i3, i4, i5, i6, i7, r1, hr3, hr4, hr5⟩ := hI3
    refine ev_aload_n 10 dX11_back_10 rfl (by decide) ?_
    refine gf_11_18 (pc := 11) rfl dX11_back_11 kd_32 (rf_32_2 hX) ?_
    refine ev_aload_n 14 dX11_back_14 rfl (by decide) ?_
    refine gf_11_22 (pc := 15) rfl dX11_back_15 kd_32 (rf_32_3 hX) ?_
    refine cv_11_227_5 (pc := 18) rfl dX11_back_18 kd_34 (Nat.le_of_ble_eq_true rfl) ?_
    refine ev_aload_n 0 dX5_become_0 rfl (by decide) ?_
    refine gf_5_9 (pc := 1) rfl dX5_become_1 kd_37 (rf_37_0 hX) ?_
    refine ev_iconst 4 dX5_become_4 kI_0 ?_
    refine ev_aload_n 5 dX5_become_5 rfl (by decide) ?_
    refine gf_5_9 (pc := 6) rfl dX5_become_6 kd_34 (rf_34_0 hX) ?_
    refine ev_iconst 9 dX5_become_9 kI_0 ?_
    refine ev_aload_n 10 dX5_become_10 rfl (by decide) ?_
    refine gf_5_9 (pc := 11) rfl dX5_become_11 kd_34 (rf_34_0 hX) ?_
    refine ev_alen (x := 120) 14 dX5_become_14 (Nat.le_of_ble_eq_true rfl) ty_35 (by decide) (by decide) ?_
    refine ev_copy (pc := 15) dX5_become_15 ac0_5_25 ac1_5_25 ac_5_25 (by decide) (by decide) ty_35 ty_38 (by decide) (by decide) (by decide) (by decide) (by decide) (Nat.le_of_ble_eq_true rfl) ?_
    have hb1 := Wr.cpy v 35 0 0 120 (v.1 38)
    rw [show (0 : Int32).toNatClampNeg = 0 from rfl, show (120 : Int32).toNatClampNeg = 120 from rfl]
    generalize uA v 35 (va_cpy (v.1 38) (v.1 35) 0 0 120) = b1 at hb1 ⊢
    replace hb1 := hb1.cg (g := v.1 38) (fun j _ _ => congrArg (v.1 38) (show 0 + (j - 0) = j by omega))
    refine ev_aload_n 18 dX5_become_18 rfl (by decide) ?_
    refine gf_5_15 (pc := 19) rfl dX5_become_19 kd_37 (rf_37_1 (hX.ag (v' := b1) (Wr.rr hb1 (rfl) :))) ?_
    refine ev_iconst 22 dX5_become_22 kI_0 ?_
    refine ev_aload_n 23 dX5_become_23 rfl (by decide) ?_
    refine gf_5_15 (pc := 24) rfl dX5_become_24 kd_34 (rf_34_1 (hX.ag (v' := b1) (Wr.rr hb1 (rfl) :))) ?_
    refine ev_iconst 27 dX5_become_27 kI_0 ?_
    refine ev_aload_n 28 dX5_become_28 rfl (by decide) ?_
    refine gf_5_15 (pc := 29) rfl dX5_become_29 kd_34 (rf_34_1 (hX.ag (v' := b1) (Wr.rr hb1 (rfl) :))) ?_
    refine ev_alen (x := 120) 32 dX5_become_32 (Nat.le_of_ble_eq_true rfl) ty_36 (by decide) (by decide) ?_
    refine ev_copy (pc := 33) dX5_become_33 ac0_5_25 ac1_5_25 ac_5_25 (by decide) (by decide) ty_36 ty_39 (by decide) (by decide) (by decide) (by decide) (by decide) (Nat.le_of_ble_eq_true rfl) ?_
    have hb2 := Wr.cpy b1 36 0 0 120 (b1.1 39)
    rw [show (0 : Int32).toNatClampNeg = 0 from rfl, show (120 : Int32).toNatClampNeg = 120 from rfl]
    generalize uA b1 36 (va_cpy (b1.1 39) (b1.1 36) 0 0 120) = b2 at hb2 ⊢
    replace hb2 := hb2.cg (g := b1.1 39) (fun j _ _ => congrArg (b1.1 39) (show 0 + (j - 0) = j by omega))
    refine ev_aload_n 36 dX5_become_36 rfl (by decide) ?_
    refine ev_aload_n 37 dX5_become_37 rfl (by decide) ?_
    refine gf_5_18 (x := v.1 37 2) (pc := 38) rfl dX5_become_38 kd_37 ((hb2.off (by omega)).trans (hb1.off (by omega))) ?_
    refine pf_5_18 (pc := 41) rfl dX5_become_41 kd_34 ?_
    refine ev_aload_n 44 dX5_become_44 rfl (by decide) ?_
    refine ev_aload_n 45 dX5_become_45 rfl (by decide) ?_
    refine gf_5_22 (x := v.1 37 3) (pc := 46) rfl dX5_become_46 kd_37 ((uI_off (by omega)).trans ((hb2.off (by omega)).trans (hb1.off (by omega)))) ?_
    refine pf_5_22 (pc := 49) rfl dX5_become_49 kd_34 ?_
    refine ev_aload_n 52 dX5_become_52 rfl (by decide) ?_
    refine ev_aload_n 53 dX5_become_53 rfl (by decide) ?_
    refine gf_5_31 (x := v.1 37 4) (pc := 54) rfl dX5_become_54 kd_37 ((uI_off (by omega)).trans ((uI_off (by omega)).trans ((hb2.off (by omega)).trans (hb1.off (by omega))))) ?_
    refine pf_5_31 (pc := 57) rfl dX5_become_57 kd_34 ?_
    refine ev_aload_n 60 dX5_become_60 rfl (by decide) ?_
    refine ev_aload_n 61 dX5_become_61 rfl (by decide) ?_
    refine gf_5_34 (x := v.1 37 5) (pc := 62) rfl dX5_become_62 kd_37 ((uI_off (by omega)).trans ((uI_off (by omega)).trans ((uI_off (by omega)).trans ((hb2.off (by omega)).trans (hb1.off (by omega)))))) ?_
    refine pf_5_34 (pc := 65) rfl dX5_become_65 kd_34 ?_
    refine ev_aload_n 68 dX5_become_68 rfl (by decide) ?_
    refine ev_aload_n 69 dX5_become_69 rfl (by decide) ?_
    refine gf_5_37 (x := v.1 37 6) (pc := 70) rfl dX5_become_70 kd_37 ((uI_off (by omega)).trans ((uI_off (by omega)).trans ((uI_off (by omega)).trans ((uI_off (by omega)).trans ((hb2.off (by omega)).trans (hb1.off (by omega))))))) ?_
    refine pf_5_37 (pc := 73) rfl dX5_become_73 kd_34 ?_
    refine ev_return 76 dX5_become_76 rfl ?_
    refine ev_aload_n 21 dX11_back_21 rfl (by decide) ?_
    refine gf_11_78 (x := nI n) (pc := 22) rfl dX11_back_22 kd_32 ((uI_off (by omega)).trans ((uI_off (by omega)).trans ((uI_off (by omega)).trans ((uI_off (by omega)).trans ((uI_off (by omega)).trans ((hb2.off (by omega)).trans ((hb1.off (by omega)).trans hL.2.2.1))))))) ?_
    refine ev_ireturn 25 dX11_back_25 rfl rfl ?_
    show EvP X (d + 9) MX12_back 0 [.ref 100, pmJ] [] (pmT0 ++ LT) (uI (uI (uI (uI (uI b2 34 2 (v.1 37 2)) 34 3 (v.1 37 3)) 34 4 (v.1 37 4)) 34 5 (v.1 37 5)) 34 6 (v.1 37 6)) _
    refine ev_aload_n 0 dX12_back_0 rfl (by decide) ?_
    refine gf_12_177 (x := v.1 32 4) (pc := 1) rfl dX12_back_1 kd_100 ((uI_off (by omega)).trans ((uI_off (by omega)).trans ((uI_off (by omega)).trans ((uI_off (by omega)).trans ((uI_off (by omega)).trans ((hb2.off (by omega)).trans ((hb1.off (by omega)).trans hI1))))))) ?_
    refine ev_if_ne 4 10 dX12_back_4 rfl (fun k_4 => ?_) (fun k_4 => by exfalso; grind)
    refine ev_aload_n 10 dX12_back_10 rfl (by decide) ?_
    refine ev_aload_n 11 dX12_back_11 rfl (by decide) ?_
    refine gf_12_181 (x := v.1 100 42) (pc := 12) rfl dX12_back_12 kd_100 ((uI_off (by omega)).trans ((uI_off (by omega)).trans ((uI_off (by omega)).trans ((uI_off (by omega)).trans ((uI_off (by omega)).trans ((hb2.off (by omega)).trans (hb1.off (by omega)))))))) ?_
    refine pf_12_28 (pc := 15) rfl dX12_back_15 kd_100 ?_
    refine ev_aload_n 18 dX12_back_18 rfl (by decide) ?_
    refine ev_aload_n 19 dX12_back_19 rfl (by decide) ?_
    refine gf_12_184 (x := v.1 100 43) (pc := 20) rfl dX12_back_20 kd_100 ((uI_off (by omega)).trans ((uI_off (by omega)).trans ((uI_off (by omega)).trans ((uI_off (by omega)).trans ((uI_off (by omega)).trans ((uI_off (by omega)).trans ((hb2.off (by omega)).trans (hb1.off (by omega))))))))) ?_
    refine pf_12_50 (pc := 23) rfl dX12_back_23 kd_100 ?_
    refine ev_aload_n 26 dX12_back_26 rfl (by decide) ?_
    refine ev_aload_n 27 dX12_back_27 rfl (by decide) ?_
    refine gf_12_187 (x := v.1 100 44) (pc := 28) rfl dX12_back_28 kd_100 ((uI_off (by omega)).trans ((uI_off (by omega)).trans ((uI_off (by omega)).trans ((uI_off (by omega)).trans ((uI_off (by omega)).trans ((uI_off (by omega)).trans ((uI_off (by omega)).trans ((hb2.off (by omega)).trans (hb1.off (by omega)))))))))) ?_
    refine pf_12_59 (pc := 31) rfl dX12_back_31 kd_100 ?_
    refine ev_aload_n 34 dX12_back_34 rfl (by decide) ?_
    refine ev_aload_n 35 dX12_back_35 rfl (by decide) ?_
    refine gf_12_190 (x := v.1 100 45) (pc := 36) rfl dX12_back_36 kd_100 ((uI_off (by omega)).trans ((uI_off (by omega)).trans ((uI_off (by omega)).trans ((uI_off (by omega)).trans ((uI_off (by omega)).trans ((uI_off (by omega)).trans ((uI_off (by omega)).trans ((uI_off (by omega)).trans ((hb2.off (by omega)).trans (hb1.off (by omega))))))))))) ?_
    refine pf_12_62 (pc := 39) rfl dX12_back_39 kd_100 ?_
    refine ev_aload_n 42 dX12_back_42 rfl (by decide) ?_
    refine ev_aload_n 43 dX12_back_43 rfl (by decide) ?_
    refine gf_12_193 (x := v.1 100 46) (pc := 44) rfl dX12_back_44 kd_100 ((uI_off (by omega)).trans ((uI_off (by omega)).trans ((uI_off (by omega)).trans ((uI_off (by omega)).trans ((uI_off (by omega)).trans ((uI_off (by omega)).trans ((uI_off (by omega)).trans ((uI_off (by omega)).trans ((uI_off (by omega)).trans ((hb2.off (by omega)).trans (hb1.off (by omega)))))))))))) ?_
    refine pf_12_86 (pc := 47) rfl dX12_back_47 kd_100 ?_
    refine ev_iconst 50 dX12_back_50 kI_0 ?_
    refine ev_istore_n (ls' := [.ref 100, .int 0]) 51 dX12_back_51 (Nat.le_of_ble_eq_true rfl) rfl ?_
    refine lp_back 120 0 _ rfl (hX.ag (v' := b2) (Wr.rr hb2 (Wr.rr hb1 (rfl) :) :)) ((hb2.off (by omega)).trans ((hb1.off (by omega)).trans hL.2.2.2.1)) (fun f2 hf0 hf1 hf2 => ?_)
    obtain ⟨f1, hf3, hf4⟩ := Wr.two (a1 := 104) (a2 := 105) (s1 := 118) (s2 := 119) (n := 120) hf1 (by decide) (by decide) (fun b j => by rw [hf2 b j]; congr 1; exact propext ⟨fun e => ⟨e.1, e.2.2⟩, fun e => ⟨e.1, by omega, e.2⟩⟩; congr 1; exact propext ⟨fun e => ⟨e.1, e.2.2⟩, fun e => ⟨e.1, by omega, e.2⟩⟩)
    refine ⟨rfl, n, tx, z, LT, rfl, ?_⟩
    refine ⟨hX.ag (Wr.rr hf4 (Wr.rr hf3 (Wr.rr hb2 (Wr.rr hb1 (rfl) :) :) :) :), hL.ag ((((((((((((((Ag.rf.w hb1 (fun j _ _ => by unfold sLan; omega)).w hb2 (fun j _ _ => by unfold sLan; omega)).i (by unfold sLan; omega)).i (by unfold sLan; omega)).i (by unfold sLan; omega)).i (by unfold sLan; omega)).i (by unfold sLan; omega)).i (by unfold sLan; omega)).i (by unfold sLan; omega)).i (by unfold sLan; omega)).i (by unfold sLan; omega)).i (by unfold sLan; omega)).w hf3 (fun j _ _ => by unfold sLan; omega)).w hf4 (fun j _ _ => by unfold sLan; omega)) (fun j => congrFun (congrFun (Wr.rr hf4 (Wr.rr hf3 (Wr.rr hb2 (Wr.rr hb1 (rfl) :) :) :) :) 33) j), ?_, ⟨r1, hr3, (show f2.1 34 6 = v.1 37 6 from ((hf4.off (by omega)).trans ((hf3.off (by omega)).trans ((uI_off (by omega)).trans ((uI_off (by omega)).trans ((uI_off (by omega)).trans ((uI_off (by omega)).trans ((uI_off (by omega)).trans uI_on)))))))).trans hr4, (show f2.1 100 11 = v.1 100 46 from ((hf4.off (by omega)).trans ((hf3.off (by omega)).trans uI_on))).trans hr5⟩, hI.ag ((((((((((((((Ag.rf.w hb1 (fun j _ _ => by unfold sImg; omega)).w hb2 (fun j _ _ => by unfold sImg; omega)).i (by unfold sImg; omega)).i (by unfold sImg; omega)).i (by unfold sImg; omega)).i (by unfold sImg; omega)).i (by unfold sImg; omega)).i (by unfold sImg; omega)).i (by unfold sImg; omega)).i (by unfold sImg; omega)).i (by unfold sImg; omega)).i (by unfold sImg; omega)).w hf3 (fun j _ _ => by unfold sImg; omega)).w hf4 (fun j _ _ => by unfold sImg; omega)), hT.ag ((((((((((((((Ag.rf.w hb1 (fun j _ _ => by unfold sTxt; omega)).w hb2 (fun j _ _ => by unfold sTxt; omega)).i (by unfold sTxt; omega)).i (by unfold sTxt; omega)).i (by unfold sTxt; omega)).i (by unfold sTxt; omega)).i (by unfold sTxt; omega)).i (by unfold sTxt; omega)).i (by unfold sTxt; omega)).i (by unfold sTxt; omega)).i (by unfold sTxt; omega)).i (by unfold sTxt; omega)).w hf3 (fun j _ _ => by unfold sTxt; omega)).w hf4 (fun j _ _ => by unfold sTxt; omega)), hTa.ag ((((((((((((((Ag.rf.w hb1 (fun j _ _ => by unfold sTape; omega)).w hb2 (fun j _ _ => by unfold sTape; omega)).i (by unfold sTape; omega)).i (by unfold sTape; omega)).i (by unfold sTape; omega)).i (by unfold sTape; omega)).i (by unfold sTape; omega)).i (by unfold sTape; omega)).i (by unfold sTape; omega)).i (by unfold sTape; omega)).i (by unfold sTape; omega)).i (by unfold sTape; omega)).w hf3 (fun j _ _ => by unfold sTape; omega)).w hf4 (fun j _ _ => by unfold sTape; omega)), hSh.ag ((((((((((((((Ag.rf.w hb1 (fun j _ _ => by unfold sShe; omega)).w hb2 (fun j _ _ => by unfold sShe; omega)).i (by unfold sShe; omega)).i (by unfold sShe; omega)).i (by unfold sShe; omega)).i (by unfold sShe; omega)).i (by unfold sShe; omega)).i (by unfold sShe; omega)).i (by unfold sShe; omega)).i (by unfold sShe; omega)).i (by unfold sShe; omega)).i (by unfold sShe; omega)).w hf3 (fun j _ _ => by unfold sShe; omega)).w hf4 (fun j _ _ => by unfold sShe; omega)), hF.ag ((((((((((((((Ag.rf.w hb1 (fun j _ _ => by unfold sFix; omega)).w hb2 (fun j _ _ => by unfold sFix; omega)).i (by unfold sFix; omega)).i (by unfold sFix; omega)).i (by unfold sFix; omega)).i (by unfold sFix; omega)).i (by unfold sFix; omega)).i (by unfold sFix; omega)).i (by unfold sFix; omega)).i (by unfold sFix; omega)).i (by unfold sFix; omega)).i (by unfold sFix; omega)).w hf3 (fun j _ _ => by unfold sFix; omega)).w hf4 (fun j _ _ => by unfold sFix; omega))⟩
    refine ⟨fun j hj => ?_, fun j hj => ?_, ?_, ?_, ?_, ?_⟩
    · rw [(show f2.1 104 j = v.1 118 j from ((hf4.off (by omega)).trans ((hf3.on (by omega) (by omega)).trans ((uI_off (by omega)).trans ((uI_off (by omega)).trans ((uI_off (by omega)).trans ((uI_off (by omega)).trans ((uI_off (by omega)).trans ((uI_off (by omega)).trans ((uI_off (by omega)).trans ((uI_off (by omega)).trans ((uI_off (by omega)).trans ((uI_off (by omega)).trans ((hb2.off (by omega)).trans (hb1.off (by omega)))))))))))))))), (show f2.1 35 j = v.1 38 j from ((hf4.off (by omega)).trans ((hf3.off (by omega)).trans ((uI_off (by omega)).trans ((uI_off (by omega)).trans ((uI_off (by omega)).trans ((uI_off (by omega)).trans ((uI_off (by omega)).trans ((uI_off (by omega)).trans ((uI_off (by omega)).trans ((uI_off (by omega)).trans ((uI_off (by omega)).trans ((uI_off (by omega)).trans ((hb2.off (by omega)).trans (hb1.on (by omega) (by omega))))))))))))))))]; exact i2 j hj
    · rw [(show f2.1 105 j = v.1 119 j from ((hf4.on (by omega) (by omega)).trans ((hf3.off (by omega)).trans ((uI_off (by omega)).trans ((uI_off (by omega)).trans ((uI_off (by omega)).trans ((uI_off (by omega)).trans ((uI_off (by omega)).trans ((uI_off (by omega)).trans ((uI_off (by omega)).trans ((uI_off (by omega)).trans ((uI_off (by omega)).trans ((uI_off (by omega)).trans ((hb2.off (by omega)).trans (hb1.off (by omega)))))))))))))))), (show f2.1 36 j = v.1 39 j from ((hf4.off (by omega)).trans ((hf3.off (by omega)).trans ((uI_off (by omega)).trans ((uI_off (by omega)).trans ((uI_off (by omega)).trans ((uI_off (by omega)).trans ((uI_off (by omega)).trans ((uI_off (by omega)).trans ((uI_off (by omega)).trans ((uI_off (by omega)).trans ((uI_off (by omega)).trans ((uI_off (by omega)).trans ((hb2.on (by omega) (by omega)).trans (hb1.off (by omega))))))))))))))))]; exact i3 j hj
    · rw [(show f2.1 100 1 = v.1 100 42 from ((hf4.off (by omega)).trans ((hf3.off (by omega)).trans ((uI_off (by omega)).trans ((uI_off (by omega)).trans ((uI_off (by omega)).trans ((uI_off (by omega)).trans uI_on))))))), (show f2.1 34 2 = v.1 37 2 from ((hf4.off (by omega)).trans ((hf3.off (by omega)).trans ((uI_off (by omega)).trans ((uI_off (by omega)).trans ((uI_off (by omega)).trans ((uI_off (by omega)).trans ((uI_off (by omega)).trans ((uI_off (by omega)).trans ((uI_off (by omega)).trans ((uI_off (by omega)).trans ((uI_off (by omega)).trans uI_on))))))))))))]; exact i4
    · rw [(show f2.1 100 2 = v.1 100 43 from ((hf4.off (by omega)).trans ((hf3.off (by omega)).trans ((uI_off (by omega)).trans ((uI_off (by omega)).trans ((uI_off (by omega)).trans uI_on)))))), (show f2.1 34 3 = v.1 37 3 from ((hf4.off (by omega)).trans ((hf3.off (by omega)).trans ((uI_off (by omega)).trans ((uI_off (by omega)).trans ((uI_off (by omega)).trans ((uI_off (by omega)).trans ((uI_off (by omega)).trans ((uI_off (by omega)).trans ((uI_off (by omega)).trans ((uI_off (by omega)).trans uI_on)))))))))))]; exact i5
    · rw [(show f2.1 100 3 = v.1 100 44 from ((hf4.off (by omega)).trans ((hf3.off (by omega)).trans ((uI_off (by omega)).trans ((uI_off (by omega)).trans uI_on))))), (show f2.1 34 4 = v.1 37 4 from ((hf4.off (by omega)).trans ((hf3.off (by omega)).trans ((uI_off (by omega)).trans ((uI_off (by omega)).trans ((uI_off (by omega)).trans ((uI_off (by omega)).trans ((uI_off (by omega)).trans ((uI_off (by omega)).trans ((uI_off (by omega)).trans uI_on))))))))))]; exact i6
    · rw [(show f2.1 100 4 = v.1 100 45 from ((hf4.off (by omega)).trans ((hf3.off (by omega)).trans ((uI_off (by omega)).trans uI_on)))), (show f2.1 34 5 = v.1 37 5 from ((hf4.off (by omega)).trans ((hf3.off (by omega)).trans ((uI_off (by omega)).trans ((uI_off (by omega)).trans ((uI_off (by omega)).trans ((uI_off (by omega)).trans ((uI_off (by omega)).trans ((uI_off (by omega)).trans uI_on)))))))))]; exact i7
  · refine ev_bipush 7 dX11_back_7 kB_m3 ?_
    refine ev_ireturn 9 dX11_back_9 rfl rfl ?_
    show EvP X (d + 9) MX12_back 0 [.ref 100, pmJ] [] (pmT0 ++ LT) v _
    refine ev_aload_n 0 dX12_back_0 rfl (by decide) ?_
    refine gf_12_177 (x := v.1 32 4) (pc := 1) rfl dX12_back_1 kd_100 hI1 ?_
    refine ev_if_ne 4 10 dX12_back_4 rfl (fun k_4 => by exfalso; grind) (fun k_4 => ?_)
    refine ev_bipush 7 dX12_back_7 kB_m3 ?_
    refine ev_ireturn 9 dX12_back_9 rfl rfl ?_
    refine ⟨rfl, n, tx, z, LT, rfl, ?_⟩
    refine ⟨hX.ag (rfl), hL.ag Ag.rf (fun j => congrFun (congrFun (rfl) 33) j), hS.ag Ag.rf, hR.ag Ag.rf, hI.ag Ag.rf, hT.ag Ag.rf, hTa.ag Ag.rf, hSh.ag Ag.rf, hF.ag Ag.rf⟩

theorem kcl_mem {k : Int32} : kcl k ∈ [0, 2, 3, 7, 8, 10] := by
  unfold kcl
  split
  · simp
  · split
    · simp
    · split
      · simp
      · split
        · simp
        · split <;> simp
theorem lp_home {X : pmX} {d : Nat} {P : Option Value → pmT → pmV → Prop} {LT : pmT} {n : Nat}  : ∀ (k : Nat) (i : Nat) (v : pmV), i + k = n → cLan n LT v → pmRf v → (P (some (.int (sumN (fun i => v.1 (124 + i) 2) n))) (pmT0 ++ LT) v) → EvP X d MX11_homeLanes 4 [.ref 32, .int (sumN (fun i => v.1 (124 + i) 2) i), .int (nI i)] [] (pmT0 ++ LT) v P := by
  intro k
  induction k with
  | zero => 
    intro i v hi hL hX K
    have hi2 : n = i := by omega
    subst hi2
    refine ev_iload_n 4 dX11_homeLanes_4 rfl ?_
    refine ev_aload_n 5 dX11_homeLanes_5 rfl (by decide) ?_
    refine gf_11_78 (x := nI n) (pc := 6) rfl dX11_homeLanes_6 kd_32 hL.2.2.1 ?_
    refine ev_icT 9 30 dX11_homeLanes_9 rfl (nge_t (n := n)) ?_
    refine ev_iload_n 30 dX11_homeLanes_30 rfl ?_
    refine ev_ireturn 31 dX11_homeLanes_31 rfl rfl ?_
    exact K
  | succ k ih => 
    intro i v hi hL hX K
    have hn8 := hL.1
    refine ev_iload_n 4 dX11_homeLanes_4 rfl ?_
    refine ev_aload_n 5 dX11_homeLanes_5 rfl (by decide) ?_
    refine gf_11_78 (x := nI n) (pc := 6) rfl dX11_homeLanes_6 kd_32 hL.2.2.1 ?_
    refine ev_icF 9 30 dX11_homeLanes_9 rfl (nge_f (n := n) (by omega) (by omega)) ?_
    refine ev_iload_n 12 dX11_homeLanes_12 rfl ?_
    refine ev_aload_n 13 dX11_homeLanes_13 rfl (by decide) ?_
    refine gf_11_11 (pc := 14) rfl dX11_homeLanes_14 kd_32 (rf_32_0 hX) ?_
    refine ev_iload_n 17 dX11_homeLanes_17 rfl ?_
    refine ev_aald (x := .ref (124 + i)) 18 dX11_homeLanes_18 (Nat.le_of_ble_eq_true rfl) ty_33 (by decide) (pm_inI (by omega) (by omega)) (by rw [nI_clamp (by omega)]; exact congrArg va_rf (hL.2.2.2.2 i (by omega)).1) ?_
    refine gl_11_134 (pc := 19) rfl dX11_homeLanes_19 (kd_lane hL (by omega)) kcl_mem ?_
    refine ev_iadd 22 dX11_homeLanes_22 ?_
    refine ev_istore_n (ls' := [.ref 32, .int ((sumN (fun i => v.1 (124 + i) 2) i) + (v.1 (124 + i) 2)), .int (nI i)]) 23 dX11_homeLanes_23 (Nat.le_of_ble_eq_true rfl) rfl ?_
    refine ev_iinc (y := nI (i + 1)) (ls' := [.ref 32, .int ((sumN (fun i => v.1 (124 + i) 2) i) + (v.1 (124 + i) 2)), .int (nI (i + 1))]) 24 dX11_homeLanes_24 rfl (nI_1 i) rfl ?_
    refine ev_goto 27 4 dX11_homeLanes_27 rfl ?_
    exact ih (i + 1) v (by omega) hL hX K
theorem lp_count {X : pmX} {d : Nat} {P : Option Value → pmT → pmV → Prop} {LT : pmT} {n : Nat} {x : Int32}  : ∀ (k : Nat) (i : Nat) (v : pmV), i + k = n → cLan n LT v → pmRf v → (EvP X d MX12_count 27 [.ref 100, .int x, .int (sumN (fun i => v.1 103 i) n), .int (nI n)] [] (pmT0 ++ LT) v P) → EvP X d MX12_count 4 [.ref 100, .int x, .int (sumN (fun i => v.1 103 i) i), .int (nI i)] [] (pmT0 ++ LT) v P := by
  intro k
  induction k with
  | zero => 
    intro i v hi hL hX K
    have hi2 : n = i := by omega
    subst hi2
    refine ev_iload_n 4 dX12_count_4 rfl ?_
    refine ev_aload_n 5 dX12_count_5 rfl (by decide) ?_
    refine gf_12_1 (x := nI n) (pc := 6) rfl dX12_count_6 kd_100 hL.2.2.2.1 ?_
    refine ev_icT 9 27 dX12_count_9 rfl (nge_t (n := n)) ?_
    exact K
  | succ k ih => 
    intro i v hi hL hX K
    have hn8 := hL.1
    refine ev_iload_n 4 dX12_count_4 rfl ?_
    refine ev_aload_n 5 dX12_count_5 rfl (by decide) ?_
    refine gf_12_1 (x := nI n) (pc := 6) rfl dX12_count_6 kd_100 hL.2.2.2.1 ?_
    refine ev_icF 9 27 dX12_count_9 rfl (nge_f (n := n) (by omega) (by omega)) ?_
    refine ev_iload_n 12 dX12_count_12 rfl ?_
    refine ev_aload_n 13 dX12_count_13 rfl (by decide) ?_
    refine gf_12_18 (pc := 14) rfl dX12_count_14 kd_100 (rf_100_7 hX) ?_
    refine ev_iload_n 17 dX12_count_17 rfl ?_
    refine ev_iald (x := v.1 103 i) 18 dX12_count_18 (Nat.le_of_ble_eq_true rfl) ty_103 (pm_inI (by omega) (by omega)) (by rw [nI_clamp (by omega)] <;> exact rfl) ?_
    refine ev_iadd 19 dX12_count_19 ?_
    refine ev_istore_n (ls' := [.ref 100, .int x, .int ((sumN (fun i => v.1 103 i) i) + (v.1 103 i)), .int (nI i)]) 20 dX12_count_20 (Nat.le_of_ble_eq_true rfl) rfl ?_
    refine ev_iinc (y := nI (i + 1)) (ls' := [.ref 100, .int x, .int ((sumN (fun i => v.1 103 i) i) + (v.1 103 i)), .int (nI (i + 1))]) 21 dX12_count_21 rfl (nI_1 i) rfl ?_
    refine ev_goto 24 4 dX12_count_24 rfl ?_
    exact ih (i + 1) v (by omega) hL hX K
theorem lp_all5 {X : pmX} {d : Nat} {P : Option Value → pmT → pmV → Prop} {LT : pmT} {w : Nat} (hw : w < 2) : ∀ (k : Nat) (i : Nat) (v : pmV), i + k = 60 → pmRf v → (P (some (.int (sumN (fun j => v.1 35 (w * 60 + j)) 60))) (pmT0 ++ LT) v) → EvP X (d + 1) MX5_allComers 4 [.ref 34, .int (nI w), .int (sumN (fun j => v.1 35 (w * 60 + j)) i), .int (nI i)] [] (pmT0 ++ LT) v P := by
  intro k
  induction k with
  | zero => 
    intro i v hi hX K
    have hi2 : 60 = i := by omega
    subst hi2
    refine ev_iload_n 4 dX5_allComers_4 rfl ?_
    refine ev_bipush 5 dX5_allComers_5 kB_60 ?_
    refine ev_icT 7 29 dX5_allComers_7 rfl (nge_t (n := 60)) ?_
    refine ev_iload_n 29 dX5_allComers_29 rfl ?_
    refine ev_ireturn 30 dX5_allComers_30 rfl rfl ?_
    exact K
  | succ k ih => 
    intro i v hi hX K
    refine ev_iload_n 4 dX5_allComers_4 rfl ?_
    refine ev_bipush 5 dX5_allComers_5 kB_60 ?_
    refine ev_icF 7 29 dX5_allComers_7 rfl (nge_f (n := 60) (by omega) (by omega)) ?_
    refine ev_iload_n 10 dX5_allComers_10 rfl ?_
    refine ev_aload_n 11 dX5_allComers_11 rfl (by decide) ?_
    refine gf_5_9 (pc := 12) rfl dX5_allComers_12 kd_34 (rf_34_0 hX) ?_
    refine ev_iload_n 15 dX5_allComers_15 rfl ?_
    refine ev_iload_n 16 dX5_allComers_16 rfl ?_
    refine cs_5_44 (pc := 17) rfl dX5_allComers_17 (Nat.le_of_ble_eq_true rfl) ?_
    refine c_X11_placeOf ?_
    refine ev_cst (y := nI (w * 60 + i)) (nI_place w i) ?_
    refine ev_iald (x := v.1 35 (w * 60 + i)) 20 dX5_allComers_20 (Nat.le_of_ble_eq_true rfl) ty_35 (pm_inI (by omega) (by omega)) (by rw [nI_clamp (by omega)] <;> exact rfl) ?_
    refine ev_iadd 21 dX5_allComers_21 ?_
    refine ev_istore_n (ls' := [.ref 34, .int (nI w), .int ((sumN (fun j => v.1 35 (w * 60 + j)) i) + (v.1 35 (w * 60 + i))), .int (nI i)]) 22 dX5_allComers_22 (Nat.le_of_ble_eq_true rfl) rfl ?_
    refine ev_iinc (y := nI (i + 1)) (ls' := [.ref 34, .int (nI w), .int ((sumN (fun j => v.1 35 (w * 60 + j)) i) + (v.1 35 (w * 60 + i))), .int (nI (i + 1))]) 23 dX5_allComers_23 rfl (nI_1 i) rfl ?_
    refine ev_goto 26 4 dX5_allComers_26 rfl ?_
    exact ih (i + 1) v (by omega) hX K
theorem lp_all12 {X : pmX} {d : Nat} {P : Option Value → pmT → pmV → Prop} {LT : pmT} {w : Nat} (hw : w < 2) : ∀ (k : Nat) (i : Nat) (v : pmV), i + k = 60 → pmRf v → (P (some (.int (sumN (fun j => v.1 104 (60 * w + j)) 60))) (pmT0 ++ LT) v) → EvP X d MX12_allComers 4 [.ref 100, .int (nI w), .int (sumN (fun j => v.1 104 (60 * w + j)) i), .int (nI i)] [] (pmT0 ++ LT) v P := by
  intro k
  induction k with
  | zero => 
    intro i v hi hX K
    have hi2 : 60 = i := by omega
    subst hi2
    refine ev_iload_n 4 dX12_allComers_4 rfl ?_
    refine ev_bipush 5 dX12_allComers_5 kB_60 ?_
    refine ev_icT 7 30 dX12_allComers_7 rfl (nge_t (n := 60)) ?_
    refine ev_iload_n 30 dX12_allComers_30 rfl ?_
    refine ev_ireturn 31 dX12_allComers_31 rfl rfl ?_
    exact K
  | succ k ih => 
    intro i v hi hX K
    refine ev_iload_n 4 dX12_allComers_4 rfl ?_
    refine ev_bipush 5 dX12_allComers_5 kB_60 ?_
    refine ev_icF 7 30 dX12_allComers_7 rfl (nge_f (n := 60) (by omega) (by omega)) ?_
    refine ev_iload_n 10 dX12_allComers_10 rfl ?_
    refine ev_aload_n 11 dX12_allComers_11 rfl (by decide) ?_
    refine gf_12_31 (pc := 12) rfl dX12_allComers_12 kd_100 (rf_100_8 hX) ?_
    refine ev_bipush 15 dX12_allComers_15 kB_60 ?_
    refine ev_iload_n 17 dX12_allComers_17 rfl ?_
    refine ev_imul 18 dX12_allComers_18 ?_
    refine ev_cst (y := nI (60 * w)) (nI_mulp 60 w) ?_
    refine ev_iload_n 19 dX12_allComers_19 rfl ?_
    refine ev_iadd 20 dX12_allComers_20 ?_
    refine ev_cst (y := nI ((60 * w) + i)) (nI_add (60 * w) i) ?_
    refine ev_iald (x := v.1 104 ((60 * w) + i)) 21 dX12_allComers_21 (Nat.le_of_ble_eq_true rfl) ty_104 (pm_inI (by omega) (by omega)) (by rw [nI_clamp (by omega)] <;> exact rfl) ?_
    refine ev_iadd 22 dX12_allComers_22 ?_
    refine ev_istore_n (ls' := [.ref 100, .int (nI w), .int ((sumN (fun j => v.1 104 (60 * w + j)) i) + (v.1 104 ((60 * w) + i))), .int (nI i)]) 23 dX12_allComers_23 (Nat.le_of_ble_eq_true rfl) rfl ?_
    refine ev_iinc (y := nI (i + 1)) (ls' := [.ref 100, .int (nI w), .int ((sumN (fun j => v.1 104 (60 * w + j)) i) + (v.1 104 ((60 * w) + i))), .int (nI (i + 1))]) 24 dX12_allComers_24 rfl (nI_1 i) rfl ?_
    refine ev_goto 27 4 dX12_allComers_27 rfl ?_
    exact ih (i + 1) v (by omega) hX K
theorem c_X11_homeLanes {X : pmX} {d : Nat} {v : pmV} {P : Option Value → pmT → pmV → Prop} {LT : pmT} {n : Nat} (hL : cLan n LT v) (hX : pmRf v) (k : P (some (.int (sumN (fun i => v.1 (124 + i) 2) n))) (pmT0 ++ LT) v) : EvP X d MX11_homeLanes 0 [.ref 32, pmJ, pmJ] [] (pmT0 ++ LT) v P := by
  refine ev_iconst 0 dX11_homeLanes_0 kI_0 ?_
  refine ev_istore_n (ls' := [.ref 32, .int 0, pmJ]) 1 dX11_homeLanes_1 (Nat.le_of_ble_eq_true rfl) rfl ?_
  refine ev_iconst 2 dX11_homeLanes_2 kI_0 ?_
  refine ev_istore_n (ls' := [.ref 32, .int 0, .int 0]) 3 dX11_homeLanes_3 (Nat.le_of_ble_eq_true rfl) rfl ?_
  exact lp_home n 0 v (by omega) hL hX k

theorem c_X5_allComers {X : pmX} {d : Nat} {v : pmV} {P : Option Value → pmT → pmV → Prop} {LT : pmT} {w : Nat} (hw : w < 2) (hX : pmRf v) (k : P (some (.int (sumN (fun j => v.1 35 (w * 60 + j)) 60))) (pmT0 ++ LT) v) : EvP X (d + 1) MX5_allComers 0 [.ref 34, .int (nI w), pmJ, pmJ] [] (pmT0 ++ LT) v P := by
  refine ev_iconst 0 dX5_allComers_0 kI_0 ?_
  refine ev_istore_n (ls' := [.ref 34, .int (nI w), .int 0, pmJ]) 1 dX5_allComers_1 (Nat.le_of_ble_eq_true rfl) rfl ?_
  refine ev_iconst 2 dX5_allComers_2 kI_0 ?_
  refine ev_istore_n (ls' := [.ref 34, .int (nI w), .int 0, .int 0]) 3 dX5_allComers_3 (Nat.le_of_ble_eq_true rfl) rfl ?_
  exact lp_all5 hw 60 0 v (by omega) hX k

theorem c_X12_allComers {X : pmX} {d : Nat} {v : pmV} {P : Option Value → pmT → pmV → Prop} {LT : pmT} {w : Nat} (hw : w < 2) (hX : pmRf v) (k : P (some (.int (sumN (fun j => v.1 104 (60 * w + j)) 60))) (pmT0 ++ LT) v) : EvP X d MX12_allComers 0 [.ref 100, .int (nI w), pmJ, pmJ] [] (pmT0 ++ LT) v P := by
  refine ev_iconst 0 dX12_allComers_0 kI_0 ?_
  refine ev_istore_n (ls' := [.ref 100, .int (nI w), .int 0, pmJ]) 1 dX12_allComers_1 (Nat.le_of_ble_eq_true rfl) rfl ?_
  refine ev_iconst 2 dX12_allComers_2 kI_0 ?_
  refine ev_istore_n (ls' := [.ref 100, .int (nI w), .int 0, .int 0]) 3 dX12_allComers_3 (Nat.le_of_ble_eq_true rfl) rfl ?_
  exact lp_all12 hw 60 0 v (by omega) hX k

set_option maxHeartbeats 4000000 in
theorem op_count {X : pmX} {d n tx z : Nat} {LT : pmT} {v : pmV} {a : Int32} (hC : Cpl n tx z LT v) : EvP X (d + 9) MX11_count 0 [.ref 32, .int a] [] (pmT0 ++ LT) v (Aft X (d + 9) MX12_count [.ref 100, .int a, pmJ, pmJ]) := by
  obtain ⟨hX, hL, hS, hR, hI, hT, hTa, hSh, hF⟩ := hC
  obtain ⟨r0, hr0, hr1, hr2⟩ := id hR
  refine ev_iload_n 0 dX11_count_0 rfl ?_
  by_cases e1_0 : a = 0
  · subst e1_0
    refine ev_swIn 1 48 dX11_count_1 (by decide) rfl rfl ?_
    refine ev_aload_n 48 dX11_count_48 rfl (by decide) ?_
    refine gf_11_78 (x := nI n) (pc := 49) rfl dX11_count_49 kd_32 hL.2.2.1 ?_
    refine ev_ireturn 52 dX11_count_52 rfl rfl ?_
    show EvP X (d + 9) MX12_count 0 [.ref 100, .int 0, pmJ, pmJ] [] (pmT0 ++ LT) v _
    refine ev_iconst 0 dX12_count_0 kI_0 ?_
    refine ev_istore_n (ls' := [.ref 100, .int 0, .int 0, pmJ]) 1 dX12_count_1 (Nat.le_of_ble_eq_true rfl) rfl ?_
    refine ev_iconst 2 dX12_count_2 kI_0 ?_
    refine ev_istore_n (ls' := [.ref 100, .int 0, .int 0, .int 0]) 3 dX12_count_3 (Nat.le_of_ble_eq_true rfl) rfl ?_
    refine lp_count n 0 v (by omega) hL hX ?_
    refine ev_iload_n 27 dX12_count_27 rfl ?_
    refine ev_swIn 28 76 dX12_count_28 (by decide) rfl rfl ?_
    refine ev_aload_n 76 dX12_count_76 rfl (by decide) ?_
    refine gf_12_1 (x := nI n) (pc := 77) rfl dX12_count_77 kd_100 hL.2.2.2.1 ?_
    refine ev_ireturn 80 dX12_count_80 rfl rfl ?_
    refine ⟨rfl, n, tx, z, LT, rfl, ?_⟩
    refine ⟨hX.ag (rfl), hL.ag Ag.rf (fun j => congrFun (congrFun (rfl) 33) j), hS.ag Ag.rf, hR.ag Ag.rf, hI.ag Ag.rf, hT.ag Ag.rf, hTa.ag Ag.rf, hSh.ag Ag.rf, hF.ag Ag.rf⟩
  · by_cases e1_1 : a = 1
    · subst e1_1
      refine ev_swIn 1 53 dX11_count_1 (by decide) rfl rfl ?_
      refine ev_aload_n 53 dX11_count_53 rfl (by decide) ?_
      refine cv_11_235_11 (pc := 54) rfl dX11_count_54 kd_32 (Nat.le_of_ble_eq_true rfl) ?_
      refine c_X11_homeLanes hL hX ?_
      refine ev_ireturn 57 dX11_count_57 rfl rfl ?_
      show EvP X (d + 9) MX12_count 0 [.ref 100, .int 1, pmJ, pmJ] [] (pmT0 ++ LT) v _
      refine ev_iconst 0 dX12_count_0 kI_0 ?_
      refine ev_istore_n (ls' := [.ref 100, .int 1, .int 0, pmJ]) 1 dX12_count_1 (Nat.le_of_ble_eq_true rfl) rfl ?_
      refine ev_iconst 2 dX12_count_2 kI_0 ?_
      refine ev_istore_n (ls' := [.ref 100, .int 1, .int 0, .int 0]) 3 dX12_count_3 (Nat.le_of_ble_eq_true rfl) rfl ?_
      refine lp_count n 0 v (by omega) hL hX ?_
      refine ev_iload_n 27 dX12_count_27 rfl ?_
      refine ev_swIn 28 81 dX12_count_28 (by decide) rfl rfl ?_
      refine ev_iload_n 81 dX12_count_81 rfl ?_
      refine ev_ireturn 82 dX12_count_82 rfl rfl ?_
      refine ⟨congrArg (fun q => some (Value.int q)) (sumN_cg n (fun i hi => (hL.2.2.2.2 i hi).2.2.2.2.1)), n, tx, z, LT, rfl, ?_⟩
      refine ⟨hX.ag (rfl), hL.ag Ag.rf (fun j => congrFun (congrFun (rfl) 33) j), hS.ag Ag.rf, hR.ag Ag.rf, hI.ag Ag.rf, hT.ag Ag.rf, hTa.ag Ag.rf, hSh.ag Ag.rf, hF.ag Ag.rf⟩
    · by_cases e1_2 : a = 2
      · subst e1_2
        refine ev_swIn 1 58 dX11_count_1 (by decide) rfl rfl ?_
        refine ev_aload_n 58 dX11_count_58 rfl (by decide) ?_
        refine gf_11_18 (pc := 59) rfl dX11_count_59 kd_32 (rf_32_2 hX) ?_
        refine ev_iconst 62 dX11_count_62 kI_0 ?_
        refine cv_11_238_5 (pc := 63) rfl dX11_count_63 kd_34 (Nat.le_of_ble_eq_true rfl) ?_
        refine c_X5_allComers (w := 0) (by decide) hX ?_
        refine ev_ireturn 66 dX11_count_66 rfl rfl ?_
        show EvP X (d + 9) MX12_count 0 [.ref 100, .int 2, pmJ, pmJ] [] (pmT0 ++ LT) v _
        refine ev_iconst 0 dX12_count_0 kI_0 ?_
        refine ev_istore_n (ls' := [.ref 100, .int 2, .int 0, pmJ]) 1 dX12_count_1 (Nat.le_of_ble_eq_true rfl) rfl ?_
        refine ev_iconst 2 dX12_count_2 kI_0 ?_
        refine ev_istore_n (ls' := [.ref 100, .int 2, .int 0, .int 0]) 3 dX12_count_3 (Nat.le_of_ble_eq_true rfl) rfl ?_
        refine lp_count n 0 v (by omega) hL hX ?_
        refine ev_iload_n 27 dX12_count_27 rfl ?_
        refine ev_swIn 28 83 dX12_count_28 (by decide) rfl rfl ?_
        refine ev_aload_n 83 dX12_count_83 rfl (by decide) ?_
        refine ev_iconst 84 dX12_count_84 kI_0 ?_
        refine cv_12_325_12 (pc := 85) rfl dX12_count_85 kd_100 (Nat.le_of_ble_eq_true rfl) ?_
        refine c_X12_allComers (w := 0) (by decide) hX ?_
        refine ev_ireturn 88 dX12_count_88 rfl rfl ?_
        refine ⟨congrArg (fun q => some (Value.int q)) (sumN_cg 60 (fun i hi => (hS.1 _ (by omega)).1)), n, tx, z, LT, rfl, ?_⟩
        refine ⟨hX.ag (rfl), hL.ag Ag.rf (fun j => congrFun (congrFun (rfl) 33) j), hS.ag Ag.rf, hR.ag Ag.rf, hI.ag Ag.rf, hT.ag Ag.rf, hTa.ag Ag.rf, hSh.ag Ag.rf, hF.ag Ag.rf⟩
      · by_cases e1_3 : a = 3
        · subst e1_3
          refine ev_swIn 1 67 dX11_count_1 (by decide) rfl rfl ?_
          refine ev_aload_n 67 dX11_count_67 rfl (by decide) ?_
          refine gf_11_18 (pc := 68) rfl dX11_count_68 kd_32 (rf_32_2 hX) ?_
          refine ev_iconst 71 dX11_count_71 kI_1 ?_
          refine cv_11_238_5 (pc := 72) rfl dX11_count_72 kd_34 (Nat.le_of_ble_eq_true rfl) ?_
          refine c_X5_allComers (w := 1) (by decide) hX ?_
          refine ev_ireturn 75 dX11_count_75 rfl rfl ?_
          show EvP X (d + 9) MX12_count 0 [.ref 100, .int 3, pmJ, pmJ] [] (pmT0 ++ LT) v _
          refine ev_iconst 0 dX12_count_0 kI_0 ?_
          refine ev_istore_n (ls' := [.ref 100, .int 3, .int 0, pmJ]) 1 dX12_count_1 (Nat.le_of_ble_eq_true rfl) rfl ?_
          refine ev_iconst 2 dX12_count_2 kI_0 ?_
          refine ev_istore_n (ls' := [.ref 100, .int 3, .int 0, .int 0]) 3 dX12_count_3 (Nat.le_of_ble_eq_true rfl) rfl ?_
          refine lp_count n 0 v (by omega) hL hX ?_
          refine ev_iload_n 27 dX12_count_27 rfl ?_
          refine ev_swIn 28 89 dX12_count_28 (by decide) rfl rfl ?_
          refine ev_aload_n 89 dX12_count_89 rfl (by decide) ?_
          refine ev_iconst 90 dX12_count_90 kI_1 ?_
          refine cv_12_325_12 (pc := 91) rfl dX12_count_91 kd_100 (Nat.le_of_ble_eq_true rfl) ?_
          refine c_X12_allComers (w := 1) (by decide) hX ?_
          refine ev_ireturn 94 dX12_count_94 rfl rfl ?_
          refine ⟨congrArg (fun q => some (Value.int q)) (sumN_cg 60 (fun i hi => (hS.1 _ (by omega)).1)), n, tx, z, LT, rfl, ?_⟩
          refine ⟨hX.ag (rfl), hL.ag Ag.rf (fun j => congrFun (congrFun (rfl) 33) j), hS.ag Ag.rf, hR.ag Ag.rf, hI.ag Ag.rf, hT.ag Ag.rf, hTa.ag Ag.rf, hSh.ag Ag.rf, hF.ag Ag.rf⟩
        · by_cases e1_4 : a = 4
          · subst e1_4
            refine ev_swIn 1 76 dX11_count_1 (by decide) rfl rfl ?_
            refine ev_aload_n 76 dX11_count_76 rfl (by decide) ?_
            refine gf_11_71 (x := nI tx) (pc := 77) rfl dX11_count_77 kd_32 hT.2.2.1 ?_
            refine ev_ireturn 80 dX11_count_80 rfl rfl ?_
            show EvP X (d + 9) MX12_count 0 [.ref 100, .int 4, pmJ, pmJ] [] (pmT0 ++ LT) v _
            refine ev_iconst 0 dX12_count_0 kI_0 ?_
            refine ev_istore_n (ls' := [.ref 100, .int 4, .int 0, pmJ]) 1 dX12_count_1 (Nat.le_of_ble_eq_true rfl) rfl ?_
            refine ev_iconst 2 dX12_count_2 kI_0 ?_
            refine ev_istore_n (ls' := [.ref 100, .int 4, .int 0, .int 0]) 3 dX12_count_3 (Nat.le_of_ble_eq_true rfl) rfl ?_
            refine lp_count n 0 v (by omega) hL hX ?_
            refine ev_iload_n 27 dX12_count_27 rfl ?_
            refine ev_swIn 28 95 dX12_count_28 (by decide) rfl rfl ?_
            refine ev_aload_n 95 dX12_count_95 rfl (by decide) ?_
            refine gf_12_83 (x := nI tx) (pc := 96) rfl dX12_count_96 kd_100 hT.2.2.2.1 ?_
            refine ev_ireturn 99 dX12_count_99 rfl rfl ?_
            refine ⟨rfl, n, tx, z, LT, rfl, ?_⟩
            refine ⟨hX.ag (rfl), hL.ag Ag.rf (fun j => congrFun (congrFun (rfl) 33) j), hS.ag Ag.rf, hR.ag Ag.rf, hI.ag Ag.rf, hT.ag Ag.rf, hTa.ag Ag.rf, hSh.ag Ag.rf, hF.ag Ag.rf⟩
          · by_cases e1_5 : a = 5
            · subst e1_5
              refine ev_swIn 1 81 dX11_count_1 (by decide) rfl rfl ?_
              refine ev_aload_n 81 dX11_count_81 rfl (by decide) ?_
              refine gf_11_34 (pc := 82) rfl dX11_count_82 kd_32 (rf_32_7 hX) ?_
              refine gf_11_67 (x := nI z) (pc := 85) rfl dX11_count_85 kd_41 hTa.2.1 ?_
              refine ev_ireturn 88 dX11_count_88 rfl rfl ?_
              show EvP X (d + 9) MX12_count 0 [.ref 100, .int 5, pmJ, pmJ] [] (pmT0 ++ LT) v _
              refine ev_iconst 0 dX12_count_0 kI_0 ?_
              refine ev_istore_n (ls' := [.ref 100, .int 5, .int 0, pmJ]) 1 dX12_count_1 (Nat.le_of_ble_eq_true rfl) rfl ?_
              refine ev_iconst 2 dX12_count_2 kI_0 ?_
              refine ev_istore_n (ls' := [.ref 100, .int 5, .int 0, .int 0]) 3 dX12_count_3 (Nat.le_of_ble_eq_true rfl) rfl ?_
              refine lp_count n 0 v (by omega) hL hX ?_
              refine ev_iload_n 27 dX12_count_27 rfl ?_
              refine ev_swIn 28 100 dX12_count_28 (by decide) rfl rfl ?_
              refine ev_aload_n 100 dX12_count_100 rfl (by decide) ?_
              refine gf_12_89 (x := nI z) (pc := 101) rfl dX12_count_101 kd_100 hTa.2.2.1 ?_
              refine ev_ireturn 104 dX12_count_104 rfl rfl ?_
              refine ⟨rfl, n, tx, z, LT, rfl, ?_⟩
              refine ⟨hX.ag (rfl), hL.ag Ag.rf (fun j => congrFun (congrFun (rfl) 33) j), hS.ag Ag.rf, hR.ag Ag.rf, hI.ag Ag.rf, hT.ag Ag.rf, hTa.ag Ag.rf, hSh.ag Ag.rf, hF.ag Ag.rf⟩
            · by_cases e1_6 : a = 6
              · subst e1_6
                refine ev_swIn 1 89 dX11_count_1 (by decide) rfl rfl ?_
                refine ev_aload_n 89 dX11_count_89 rfl (by decide) ?_
                refine gf_11_18 (pc := 90) rfl dX11_count_90 kd_32 (rf_32_2 hX) ?_
                refine gf_11_153 (x := nI r0) (pc := 93) rfl dX11_count_93 kd_34 hr1 ?_
                refine ev_ireturn 96 dX11_count_96 rfl rfl ?_
                show EvP X (d + 9) MX12_count 0 [.ref 100, .int 6, pmJ, pmJ] [] (pmT0 ++ LT) v _
                refine ev_iconst 0 dX12_count_0 kI_0 ?_
                refine ev_istore_n (ls' := [.ref 100, .int 6, .int 0, pmJ]) 1 dX12_count_1 (Nat.le_of_ble_eq_true rfl) rfl ?_
                refine ev_iconst 2 dX12_count_2 kI_0 ?_
                refine ev_istore_n (ls' := [.ref 100, .int 6, .int 0, .int 0]) 3 dX12_count_3 (Nat.le_of_ble_eq_true rfl) rfl ?_
                refine lp_count n 0 v (by omega) hL hX ?_
                refine ev_iload_n 27 dX12_count_27 rfl ?_
                refine ev_swIn 28 105 dX12_count_28 (by decide) rfl rfl ?_
                refine ev_aload_n 105 dX12_count_105 rfl (by decide) ?_
                refine gf_12_86 (x := nI r0) (pc := 106) rfl dX12_count_106 kd_100 hr2 ?_
                refine ev_ireturn 109 dX12_count_109 rfl rfl ?_
                refine ⟨rfl, n, tx, z, LT, rfl, ?_⟩
                refine ⟨hX.ag (rfl), hL.ag Ag.rf (fun j => congrFun (congrFun (rfl) 33) j), hS.ag Ag.rf, hR.ag Ag.rf, hI.ag Ag.rf, hT.ag Ag.rf, hTa.ag Ag.rf, hSh.ag Ag.rf, hF.ag Ag.rf⟩
              · by_cases e1_7 : a = 7
                · subst e1_7
                  refine ev_swIn 1 97 dX11_count_1 (by decide) rfl rfl ?_
                  refine ev_aload_n 97 dX11_count_97 rfl (by decide) ?_
                  refine gf_11_18 (pc := 98) rfl dX11_count_98 kd_32 (rf_32_2 hX) ?_
                  refine gf_11_137 (x := v.1 34 2) (pc := 101) rfl dX11_count_101 kd_34 rfl ?_
                  refine ev_ireturn 104 dX11_count_104 rfl rfl ?_
                  show EvP X (d + 9) MX12_count 0 [.ref 100, .int 7, pmJ, pmJ] [] (pmT0 ++ LT) v _
                  refine ev_iconst 0 dX12_count_0 kI_0 ?_
                  refine ev_istore_n (ls' := [.ref 100, .int 7, .int 0, pmJ]) 1 dX12_count_1 (Nat.le_of_ble_eq_true rfl) rfl ?_
                  refine ev_iconst 2 dX12_count_2 kI_0 ?_
                  refine ev_istore_n (ls' := [.ref 100, .int 7, .int 0, .int 0]) 3 dX12_count_3 (Nat.le_of_ble_eq_true rfl) rfl ?_
                  refine lp_count n 0 v (by omega) hL hX ?_
                  refine ev_iload_n 27 dX12_count_27 rfl ?_
                  refine ev_swIn 28 110 dX12_count_28 (by decide) rfl rfl ?_
                  refine ev_aload_n 110 dX12_count_110 rfl (by decide) ?_
                  refine gf_12_28 (x := v.1 100 1) (pc := 111) rfl dX12_count_111 kd_100 rfl ?_
                  refine ev_ireturn 114 dX12_count_114 rfl rfl ?_
                  refine ⟨congrArg (fun q => some (Value.int q)) hS.2.2.1.1, n, tx, z, LT, rfl, ?_⟩
                  refine ⟨hX.ag (rfl), hL.ag Ag.rf (fun j => congrFun (congrFun (rfl) 33) j), hS.ag Ag.rf, hR.ag Ag.rf, hI.ag Ag.rf, hT.ag Ag.rf, hTa.ag Ag.rf, hSh.ag Ag.rf, hF.ag Ag.rf⟩
                · refine ev_swOut 1 105 dX11_count_1 (sw_out (lo := 0) (hi := 7) rfl rfl (by grind)) rfl ?_
                  refine ev_bipush 105 dX11_count_105 kB_m2 ?_
                  refine ev_ireturn 107 dX11_count_107 rfl rfl ?_
                  show EvP X (d + 9) MX12_count 0 [.ref 100, .int a, pmJ, pmJ] [] (pmT0 ++ LT) v _
                  refine ev_iconst 0 dX12_count_0 kI_0 ?_
                  refine ev_istore_n (ls' := [.ref 100, .int a, .int 0, pmJ]) 1 dX12_count_1 (Nat.le_of_ble_eq_true rfl) rfl ?_
                  refine ev_iconst 2 dX12_count_2 kI_0 ?_
                  refine ev_istore_n (ls' := [.ref 100, .int a, .int 0, .int 0]) 3 dX12_count_3 (Nat.le_of_ble_eq_true rfl) rfl ?_
                  refine lp_count n 0 v (by omega) hL hX ?_
                  refine ev_iload_n 27 dX12_count_27 rfl ?_
                  refine ev_swOut 28 115 dX12_count_28 (sw_out (lo := 0) (hi := 7) rfl rfl (by grind)) rfl ?_
                  refine ev_bipush 115 dX12_count_115 kB_m2 ?_
                  refine ev_ireturn 117 dX12_count_117 rfl rfl ?_
                  refine ⟨rfl, n, tx, z, LT, rfl, ?_⟩
                  refine ⟨hX.ag (rfl), hL.ag Ag.rf (fun j => congrFun (congrFun (rfl) 33) j), hS.ag Ag.rf, hR.ag Ag.rf, hI.ag Ag.rf, hT.ag Ag.rf, hTa.ag Ag.rf, hSh.ag Ag.rf, hF.ag Ag.rf⟩

