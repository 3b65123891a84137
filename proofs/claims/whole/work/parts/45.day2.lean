/-! the day's steps, class: value, pain, arrival, take, stop, turn -/
theorem txC_ag {r p : Nat} (hr : r < 6) {e v : pmV} (ha : Ag sTxt e v) : txC r p v = txC r p e := by
  have e1 : ∀ j, v.1 (70 + 4 * r) j = e.1 (70 + 4 * r) j := fun j => ha _ _ (by unfold sTxt; omega)
  have e2 : ∀ j, v.1 (69 + 4 * r) j = e.1 (69 + 4 * r) j := fun j => ha _ _ (by unfold sTxt; omega)
  have e3 : txE r p v = txE r p e := by unfold txE; rw [e1]
  have e4 : txB r p v = txB r p e := by unfold txB; rw [e1]
  unfold txC; rw [e3, e4]; simp only [e2]
/-- one text part of the class at names that stand -/
theorem DX.tx {e v : pmV} {n r : Nat} {s : dT} {p : Int64} {tx z : Nat} {LT : pmT} (h : DX e n r s p v) (hC : Cpl n tx z LT e) (hr : r < tx) : TxtOk r v ∧ ∀ q, txC r q v = txC r q e := by
  have hT := hC.2.2.2.2.2.1
  have ag : Ag sTxt e v := h.fd.ag fun _ _ q w => DcA.txt q (Or.inl w)
  exact ⟨(hT.2.2.2.2 r hr).ag (by have := hT.2.1; omega) ag, fun q => txC_ag (by have := hT.2.1; omega) ag⟩
theorem c_X1_value {X : pmX} {d : Nat} {v : pmV} {P : Option Value → pmT → pmV → Prop} {LT : pmT} {e : pmV} {n tx z r : Nat} {s : dT} {p : Int64} {k0 w : Nat} {m : Int32} (hC : Cpl n tx z LT e) (hr : r < tx) (hD : DX e n r s p v) (hw : w < 2) (hk : k0 < 3) (k : ∀ v', DX e n r s p v' → P (some (.int (pVal e r s k0 w m))) (pmT0 ++ LT) v') : EvP X (d + 2) MX1_value 0 [.ref 51, .int (nI k0), .int (nI w), .int m] [] (pmT0 ++ LT) v P := by
  have hn8 := hC.2.1.1
  have ht6 := hC.2.2.2.2.2.1.2.1
  refine ev_aload_n 0 dX1_value_0 rfl (by decide) ?_
  refine gf_1_52 (pc := 1) rfl dX1_value_1 kd_51 (rf_51_14 hD.1) ?_
  refine ev_iconst 4 dX1_value_4 kI_0 ?_
  refine ev_aload_n 5 dX1_value_5 rfl (by decide) ?_
  refine gf_1_41 (pc := 6) rfl dX1_value_6 kd_51 (rf_51_11 hD.1) ?_
  refine ev_iload_n 9 dX1_value_9 rfl ?_
  refine ev_ialdJ (x := s 0 w) (j := w) 10 dX1_value_10 (Nat.le_of_ble_eq_true rfl) ty_63 (pm_inI (by omega) (by omega)) (nI_clamp (by omega)) (hD.r0 (by omega)) ?_
  refine ev_iastJ (j := 0) 11 dX1_value_11 (Nat.le_of_ble_eq_true rfl) ty_66 (by decide) rfl ?_
  refine ev_aload_n 12 dX1_value_12 rfl (by decide) ?_
  refine gf_1_52 (pc := 13) rfl dX1_value_13 kd_51 (rf_51_14 hD.1) ?_
  refine ev_iconst 16 dX1_value_16 kI_1 ?_
  refine ev_aload_n 17 dX1_value_17 rfl (by decide) ?_
  refine gf_1_47 (pc := 18) rfl dX1_value_18 kd_51 (rf_51_13 hD.1) ?_
  refine ev_iload_n 21 dX1_value_21 rfl ?_
  refine ev_ialdJ (x := s 2 w) (j := w) 22 dX1_value_22 (Nat.le_of_ble_eq_true rfl) ty_65 (pm_inI (by omega) (by omega)) (nI_clamp (by omega)) ((uI_ne (by decide)).trans (hD.r2 (by omega))) ?_
  refine ev_iastJ (j := 1) 23 dX1_value_23 (Nat.le_of_ble_eq_true rfl) ty_66 (by decide) rfl ?_
  refine ev_aload_n 24 dX1_value_24 rfl (by decide) ?_
  refine gf_1_52 (pc := 25) rfl dX1_value_25 kd_51 (rf_51_14 hD.1) ?_
  refine ev_iconst 28 dX1_value_28 kI_2 ?_
  refine ev_iload_n 29 dX1_value_29 rfl ?_
  refine ev_iastJ (j := 2) 30 dX1_value_30 (Nat.le_of_ble_eq_true rfl) ty_66 (by decide) rfl ?_
  refine ev_aload_n 31 dX1_value_31 rfl (by decide) ?_
  refine gf_1_52 (pc := 32) rfl dX1_value_32 kd_51 (rf_51_14 hD.1) ?_
  refine ev_iconst 35 dX1_value_35 kI_3 ?_
  refine ev_iload_n 36 dX1_value_36 rfl ?_
  refine ev_iastJ (j := 3) 37 dX1_value_37 (Nat.le_of_ble_eq_true rfl) ty_66 (by decide) rfl ?_
  refine ev_aload_n 38 dX1_value_38 rfl (by decide) ?_
  refine gf_1_52 (pc := 39) rfl dX1_value_39 kd_51 (rf_51_14 hD.1) ?_
  refine ev_iconst 42 dX1_value_42 kI_4 ?_
  refine ev_aload_n 43 dX1_value_43 rfl (by decide) ?_
  refine gf_1_44 (pc := 44) rfl dX1_value_44 kd_51 (rf_51_12 hD.1) ?_
  refine ev_iload_n 47 dX1_value_47 rfl ?_
  refine ev_ialdJ (x := s 1 w) (j := w) 48 dX1_value_48 (Nat.le_of_ble_eq_true rfl) ty_64 (pm_inI (by omega) (by omega)) (nI_clamp (by omega)) ((uI_ne (by decide)).trans ((uI_ne (by decide)).trans ((uI_ne (by decide)).trans ((uI_ne (by decide)).trans (hD.r1 (by omega)))))) ?_
  refine ev_iastJ (j := 4) 49 dX1_value_49 (Nat.le_of_ble_eq_true rfl) ty_66 (by decide) rfl ?_
  refine ev_aload_n 50 dX1_value_50 rfl (by decide) ?_
  refine gf_1_52 (pc := 51) rfl dX1_value_51 kd_51 (rf_51_14 hD.1) ?_
  refine ev_iconst 54 dX1_value_54 kI_5 ?_
  refine ev_aload_n 55 dX1_value_55 rfl (by decide) ?_
  refine gf_1_20 (pc := 56) rfl dX1_value_56 kd_51 hD.f2 ?_
  refine gf_1_152 (x := e.1 34 2) (pc := 59) rfl dX1_value_59 kd_34 ((uI_ne (by decide)).trans ((uI_ne (by decide)).trans ((uI_ne (by decide)).trans ((uI_ne (by decide)).trans ((uI_ne (by decide)).trans (hD.c (by unfold DcX; omega))))))) ?_
  refine ev_iastJ (j := 5) 62 dX1_value_62 (Nat.le_of_ble_eq_true rfl) ty_66 (by decide) rfl ?_
  refine ev_aload_n 63 dX1_value_63 rfl (by decide) ?_
  refine gf_1_27 (pc := 64) rfl dX1_value_64 kd_51 hD.f3 ?_
  refine ev_iload_n 67 dX1_value_67 rfl ?_
  refine ev_aload_n 68 dX1_value_68 rfl (by decide) ?_
  refine gf_1_52 (pc := 69) rfl dX1_value_69 kd_51 (rf_51_14 hD.1) ?_
  refine cv_1_174_9 (pc := 72) rfl dX1_value_72 (kd_text (by omega)) (Nat.le_of_ble_eq_true rfl) ?_
  have hO : Of (fun a _ => a = 66) v (uI (uI (uI (uI (uI (uI v 66 0 (s 0 w)) 66 1 (s 2 w)) 66 2 m) 66 3 (nI w)) 66 4 (s 1 w)) 66 5 (e.1 34 2)) := (Of.i (E := fun a _ => a = 66) (Of.i (E := fun a _ => a = 66) (Of.i (E := fun a _ => a = 66) (Of.i (E := fun a _ => a = 66) (Of.i (E := fun a _ => a = 66) (Of.i (E := fun a _ => a = 66) Of.nil rfl) rfl) rfl) rfl) rfl) rfl)
  have hD2 := hD.of hO (fun a j q => Or.inl q)
  have hT2 := hD2.tx hC hr
  refine c_X9_value (nm := pNm e s w m) (by omega) hk hT2.1 hD2.1 (fun q hq => ?_) (fun v1 h1 => ?_)
  · have : q = 0 ∨ q = 1 ∨ q = 2 ∨ q = 3 ∨ q = 4 ∨ q = 5 := by omega
    rcases this with rfl | rfl | rfl | rfl | rfl | rfl <;> simp [uI, pNm]
  rw [hT2.2 k0]
  have hD3 := hD2.of h1 (fun a j q => Or.inr (by omega))
  refine ev_ireturn 75 dX1_value_75 rfl rfl ?_
  exact k _ hD3

theorem c_X1_painOf {X : pmX} {d : Nat} {v : pmV} {P : Option Value → pmT → pmV → Prop} {LT : pmT} {e : pmV} {n tx z r : Nat} {s : dT} {p : Int64} {w : Nat} {m : Int32} (hC : Cpl n tx z LT e) (hr : r < tx) (hD : DX e n r s p v) (hw : w < 2) (k : ∀ v', DX e n r s p v' → P (some (.int (pPain e r s w m))) (pmT0 ++ LT) v') : EvP X (d + 3) MX1_painOf 0 [.ref 51, .int (nI w), .int m] [] (pmT0 ++ LT) v P := by
  have hn8 := hC.2.1.1
  have ht6 := hC.2.2.2.2.2.1.2.1
  refine ev_aload_n 0 dX1_painOf_0 rfl (by decide) ?_
  refine ev_iconst 1 dX1_painOf_1 kI_1 ?_
  refine ev_iload_n 2 dX1_painOf_2 rfl ?_
  refine ev_iload_n 3 dX1_painOf_3 rfl ?_
  refine cv_1_138_1 (pc := 4) rfl dX1_painOf_4 kd_51 (Nat.le_of_ble_eq_true rfl) ?_
  refine c_X1_value (k0 := 1) (w := w) hC hr hD (by omega) (by omega) (fun v1 hD => ?_)
  refine ev_iconst 7 dX1_painOf_7 kI_0 ?_
  refine ev_bipush 8 dX1_painOf_8 kB_99 ?_
  refine cs_1_142 (pc := 10) rfl dX1_painOf_10 (Nat.le_of_ble_eq_true rfl) ?_
  refine c_X1_within ?_
  refine ev_aload_n 13 dX1_painOf_13 rfl (by decide) ?_
  refine gf_1_41 (pc := 14) rfl dX1_painOf_14 kd_51 (rf_51_11 hD.1) ?_
  refine ev_iload_n 17 dX1_painOf_17 rfl ?_
  refine ev_ialdJ (x := s 0 w) (j := w) 18 dX1_painOf_18 (Nat.le_of_ble_eq_true rfl) ty_63 (pm_inI (by omega) (by omega)) (nI_clamp (by omega)) (hD.r0 (by omega)) ?_
  refine ev_imul 19 dX1_painOf_19 ?_
  refine ev_ireturn 20 dX1_painOf_20 rfl rfl ?_
  exact k _ hD

theorem c_X1_arrive {X : pmX} {d : Nat} {v : pmV} {P : Option Value → pmT → pmV → Prop} {LT : pmT} {e : pmV} {n tx z r : Nat} {s : dT} {p : Int64} {w m : Nat} (hC : Cpl n tx z LT e) (hr : r < tx) (hD : DX e n r s p v) (hw : w < 2) (hm : m < 60) (k : ∀ v', DX e n r (pArr e r s w m) p v' → P none (pmT0 ++ LT) v') : EvP X (d + 3) MX1_arrive 0 [.ref 51, .int (nI w), .int (nI m), pmJ, pmJ, pmJ] [] (pmT0 ++ LT) v P := by
  have hn8 := hC.2.1.1
  have ht6 := hC.2.2.2.2.2.1.2.1
  refine ev_iload_n 0 dX1_arrive_0 rfl ?_
  refine ev_iload_n 1 dX1_arrive_1 rfl ?_
  refine cs_1_135 (pc := 2) rfl dX1_arrive_2 (Nat.le_of_ble_eq_true rfl) ?_
  refine c_X11_placeOf ?_
  refine ev_cst (y := nI (w * 60 + m)) (nI_place w m) ?_
  refine ev_istore_n (ls' := [.ref 51, .int (nI w), .int (nI m), .int (nI (w * 60 + m)), pmJ, pmJ]) 5 dX1_arrive_5 (Nat.le_of_ble_eq_true rfl) rfl ?_
  refine ev_aload_n 6 dX1_arrive_6 rfl (by decide) ?_
  refine ev_iconst 7 dX1_arrive_7 kI_2 ?_
  refine ev_iload_n 8 dX1_arrive_8 rfl ?_
  refine ev_iload_n 9 dX1_arrive_9 rfl ?_
  refine cv_1_138_1 (pc := 10) rfl dX1_arrive_10 kd_51 (Nat.le_of_ble_eq_true rfl) ?_
  refine c_X1_value (k0 := 2) (w := w) hC hr hD (by omega) (by omega) (fun v1 hD => ?_)
  refine ev_bipush 13 dX1_arrive_13 kB_m99 ?_
  refine ev_bipush 15 dX1_arrive_15 kB_99 ?_
  refine cs_1_142 (pc := 17) rfl dX1_arrive_17 (Nat.le_of_ble_eq_true rfl) ?_
  refine c_X1_within ?_
  refine ev_istore (ls' := [.ref 51, .int (nI w), .int (nI m), .int (nI (w * 60 + m)), .int (wiI (pVal e r s 2 w (nI m)) (-99) 99), pmJ]) 20 dX1_arrive_20 (Nat.le_of_ble_eq_true rfl) rfl ?_
  refine ev_iconst 22 dX1_arrive_22 kI_0 ?_
  refine ev_aload_n 23 dX1_arrive_23 rfl (by decide) ?_
  refine gf_1_20 (pc := 24) rfl dX1_arrive_24 kd_51 hD.f2 ?_
  refine gf_1_145 (pc := 27) rfl dX1_arrive_27 kd_34 (rf_34_0 hD.1) ?_
  refine ev_iload_n 30 dX1_arrive_30 rfl ?_
  refine ev_ialdJ (x := e.1 35 (w * 60 + m)) (j := w * 60 + m) 31 dX1_arrive_31 (Nat.le_of_ble_eq_true rfl) ty_35 (pm_inI (by omega) (by omega)) (nI_clamp (by omega)) (hD.c (by unfold DcX; omega)) ?_
  refine ev_iload 32 dX1_arrive_32 rfl ?_
  refine ev_iadd 34 dX1_arrive_34 ?_
  refine ev_max (x := (if 0 < (e.1 35 (w * 60 + m)) + (wiI (pVal e r s 2 w (nI m)) (-99) 99) then (e.1 35 (w * 60 + m)) + (wiI (pVal e r s 2 w (nI m)) (-99) 99) else 0)) 35 dX1_arrive_35 mx_1_148 (Nat.le_of_ble_eq_true rfl) rfl ?_
  refine ev_istore (ls' := [.ref 51, .int (nI w), .int (nI m), .int (nI (w * 60 + m)), .int (wiI (pVal e r s 2 w (nI m)) (-99) 99), .int (if 0 < (e.1 35 (w * 60 + m)) + (wiI (pVal e r s 2 w (nI m)) (-99) 99) then (e.1 35 (w * 60 + m)) + (wiI (pVal e r s 2 w (nI m)) (-99) 99) else 0)]) 38 dX1_arrive_38 (Nat.le_of_ble_eq_true rfl) rfl ?_
  refine ev_aload_n 40 dX1_arrive_40 rfl (by decide) ?_
  refine gf_1_41 (pc := 41) rfl dX1_arrive_41 kd_51 (rf_51_11 hD.1) ?_
  refine ev_iload_n 44 dX1_arrive_44 rfl ?_
  refine ev_dup2 45 dX1_arrive_45 rfl rfl ?_
  refine ev_ialdJ (x := s 0 w) (j := w) 46 dX1_arrive_46 (Nat.le_of_ble_eq_true rfl) ty_63 (pm_inI (by omega) (by omega)) (nI_clamp (by omega)) (hD.r0 (by omega)) ?_
  refine ev_iload 47 dX1_arrive_47 rfl ?_
  refine ev_iadd 49 dX1_arrive_49 ?_
  refine ev_iastJ (j := w) 50 dX1_arrive_50 (Nat.le_of_ble_eq_true rfl) ty_63 (pm_inI (by omega) (by omega)) (nI_clamp (by omega)) ?_
  refine ev_abs (Q := DX e n r (dU s 0 w ((s 0 w) + (if 0 < (e.1 35 (w * 60 + m)) + (wiI (pVal e r s 2 w (nI m)) (-99) 99) then (e.1 35 (w * 60 + m)) + (wiI (pVal e r s 2 w (nI m)) (-99) 99) else 0))) p) (hD.u0 w ((s 0 w) + (if 0 < (e.1 35 (w * 60 + m)) + (wiI (pVal e r s 2 w (nI m)) (-99) 99) then (e.1 35 (w * 60 + m)) + (wiI (pVal e r s 2 w (nI m)) (-99) 99) else 0))) (fun v2 hD => ?_)
  refine ev_aload_n 51 dX1_arrive_51 rfl (by decide) ?_
  refine gf_1_44 (pc := 52) rfl dX1_arrive_52 kd_51 (rf_51_12 hD.1) ?_
  refine ev_iload_n 55 dX1_arrive_55 rfl ?_
  refine ev_dup2 56 dX1_arrive_56 rfl rfl ?_
  refine ev_ialdJ (x := s 1 w) (j := w) 57 dX1_arrive_57 (Nat.le_of_ble_eq_true rfl) ty_64 (pm_inI (by omega) (by omega)) (nI_clamp (by omega)) ((hD.r1 (by omega)).trans (dU_ne (by decide))) ?_
  refine ev_iload 58 dX1_arrive_58 rfl ?_
  refine ev_aload_n 60 dX1_arrive_60 rfl (by decide) ?_
  refine gf_1_20 (pc := 61) rfl dX1_arrive_61 kd_51 hD.f2 ?_
  refine gf_1_151 (pc := 64) rfl dX1_arrive_64 kd_34 (rf_34_1 hD.1) ?_
  refine ev_iload_n 67 dX1_arrive_67 rfl ?_
  refine ev_ialdJ (x := e.1 36 (w * 60 + m)) (j := w * 60 + m) 68 dX1_arrive_68 (Nat.le_of_ble_eq_true rfl) ty_36 (pm_inI (by omega) (by omega)) (nI_clamp (by omega)) (hD.c (by unfold DcX; omega)) ?_
  refine ev_min (x := (if e.1 36 (w * 60 + m) < (if 0 < (e.1 35 (w * 60 + m)) + (wiI (pVal e r s 2 w (nI m)) (-99) 99) then (e.1 35 (w * 60 + m)) + (wiI (pVal e r s 2 w (nI m)) (-99) 99) else 0) then e.1 36 (w * 60 + m) else (if 0 < (e.1 35 (w * 60 + m)) + (wiI (pVal e r s 2 w (nI m)) (-99) 99) then (e.1 35 (w * 60 + m)) + (wiI (pVal e r s 2 w (nI m)) (-99) 99) else 0))) 69 dX1_arrive_69 mn0_1_55 mn_1_55 (Nat.le_of_ble_eq_true rfl) rfl ?_
  refine ev_iadd 72 dX1_arrive_72 ?_
  refine ev_iastJ (j := w) 73 dX1_arrive_73 (Nat.le_of_ble_eq_true rfl) ty_64 (pm_inI (by omega) (by omega)) (nI_clamp (by omega)) ?_
  refine ev_abs (Q := DX e n r (dU (dU s 0 w ((s 0 w) + (if 0 < (e.1 35 (w * 60 + m)) + (wiI (pVal e r s 2 w (nI m)) (-99) 99) then (e.1 35 (w * 60 + m)) + (wiI (pVal e r s 2 w (nI m)) (-99) 99) else 0))) 1 w ((s 1 w) + (if e.1 36 (w * 60 + m) < (if 0 < (e.1 35 (w * 60 + m)) + (wiI (pVal e r s 2 w (nI m)) (-99) 99) then (e.1 35 (w * 60 + m)) + (wiI (pVal e r s 2 w (nI m)) (-99) 99) else 0) then e.1 36 (w * 60 + m) else (if 0 < (e.1 35 (w * 60 + m)) + (wiI (pVal e r s 2 w (nI m)) (-99) 99) then (e.1 35 (w * 60 + m)) + (wiI (pVal e r s 2 w (nI m)) (-99) 99) else 0)))) p) (hD.u1 w ((s 1 w) + (if e.1 36 (w * 60 + m) < (if 0 < (e.1 35 (w * 60 + m)) + (wiI (pVal e r s 2 w (nI m)) (-99) 99) then (e.1 35 (w * 60 + m)) + (wiI (pVal e r s 2 w (nI m)) (-99) 99) else 0) then e.1 36 (w * 60 + m) else (if 0 < (e.1 35 (w * 60 + m)) + (wiI (pVal e r s 2 w (nI m)) (-99) 99) then (e.1 35 (w * 60 + m)) + (wiI (pVal e r s 2 w (nI m)) (-99) 99) else 0)))) (fun v3 hD => ?_)
  refine ev_return 74 dX1_arrive_74 rfl ?_
  exact k _ hD

theorem c_X1_take {X : pmX} {d : Nat} {v : pmV} {P : Option Value → pmT → pmV → Prop} {LT : pmT} {e : pmV} {n r : Nat} {s : dT} {p : Int64} {w : Nat} {most b : Int32} (hD : DX e n r s p v) (hw : w < 2) (k : ∀ v', DX e n r (pTake s w most b) p v' → P none (pmT0 ++ LT) v') : EvP X (d + 1) MX1_take 0 [.ref 51, .int (nI w), .int most, .int b, pmJ, pmJ] [] (pmT0 ++ LT) v P := by
  refine ev_iload_n 0 dX1_take_0 rfl ?_
  refine ev_iload_n 1 dX1_take_1 rfl ?_
  refine ev_if_eq 2 14 dX1_take_2 rfl (fun c_2 => ?_) (fun c_2 => ?_)
  · refine ev_aload_n 14 dX1_take_14 rfl (by decide) ?_
    refine gf_1_41 (pc := 15) rfl dX1_take_15 kd_51 (rf_51_11 hD.1) ?_
    refine ev_iload_n 18 dX1_take_18 rfl ?_
    refine ev_ialdJ (x := s 0 w) (j := w) 19 dX1_take_19 (Nat.le_of_ble_eq_true rfl) ty_63 (pm_inI (by omega) (by omega)) (nI_clamp (by omega)) (hD.r0 (by omega)) ?_
    refine ev_min (x := (if s 0 w < most then s 0 w else most)) 20 dX1_take_20 mn0_1_55 mn_1_55 (Nat.le_of_ble_eq_true rfl) rfl ?_
    refine ev_istore (ls' := [.ref 51, .int (nI w), .int most, .int b, .int (if s 0 w < most then s 0 w else most), pmJ]) 23 dX1_take_23 (Nat.le_of_ble_eq_true rfl) rfl ?_
    refine ev_iload_n 25 dX1_take_25 rfl ?_
    refine ev_if_eq 26 33 dX1_take_26 rfl (fun c_26 => ?_) (fun c_26 => absurd c_2 c_26)
    refine ev_iload 33 dX1_take_33 rfl ?_
    refine ev_aload_n 35 dX1_take_35 rfl (by decide) ?_
    refine gf_1_41 (pc := 36) rfl dX1_take_36 kd_51 (rf_51_11 hD.1) ?_
    refine ev_iload_n 39 dX1_take_39 rfl ?_
    refine ev_ialdJ (x := s 0 w) (j := w) 40 dX1_take_40 (Nat.le_of_ble_eq_true rfl) ty_63 (pm_inI (by omega) (by omega)) (nI_clamp (by omega)) (hD.r0 (by omega)) ?_
    refine ev_aload_n 41 dX1_take_41 rfl (by decide) ?_
    refine gf_1_44 (pc := 42) rfl dX1_take_42 kd_51 (rf_51_12 hD.1) ?_
    refine ev_iload_n 45 dX1_take_45 rfl ?_
    refine ev_ialdJ (x := s 1 w) (j := w) 46 dX1_take_46 (Nat.le_of_ble_eq_true rfl) ty_64 (pm_inI (by omega) (by omega)) (nI_clamp (by omega)) (hD.r1 (by omega)) ?_
    refine ev_isub 47 dX1_take_47 ?_
    refine ev_min (x := (if (s 0 w) - (s 1 w) < (if s 0 w < most then s 0 w else most) then (s 0 w) - (s 1 w) else (if s 0 w < most then s 0 w else most))) 48 dX1_take_48 mn0_1_55 mn_1_55 (Nat.le_of_ble_eq_true rfl) rfl ?_
    refine ev_istore (ls' := [.ref 51, .int (nI w), .int most, .int b, .int (if s 0 w < most then s 0 w else most), .int (if (s 0 w) - (s 1 w) < (if s 0 w < most then s 0 w else most) then (s 0 w) - (s 1 w) else (if s 0 w < most then s 0 w else most))]) 51 dX1_take_51 (Nat.le_of_ble_eq_true rfl) rfl ?_
    refine ev_aload_n 53 dX1_take_53 rfl (by decide) ?_
    refine gf_1_41 (pc := 54) rfl dX1_take_54 kd_51 (rf_51_11 hD.1) ?_
    refine ev_iload_n 57 dX1_take_57 rfl ?_
    refine ev_dup2 58 dX1_take_58 rfl rfl ?_
    refine ev_ialdJ (x := s 0 w) (j := w) 59 dX1_take_59 (Nat.le_of_ble_eq_true rfl) ty_63 (pm_inI (by omega) (by omega)) (nI_clamp (by omega)) (hD.r0 (by omega)) ?_
    refine ev_iload 60 dX1_take_60 rfl ?_
    refine ev_isub 62 dX1_take_62 ?_
    refine ev_iastJ (j := w) 63 dX1_take_63 (Nat.le_of_ble_eq_true rfl) ty_63 (pm_inI (by omega) (by omega)) (nI_clamp (by omega)) ?_
    refine ev_abs (Q := DX e n r (dU s 0 w ((s 0 w) - (if s 0 w < most then s 0 w else most))) p) (hD.u0 w ((s 0 w) - (if s 0 w < most then s 0 w else most))) (fun v1 hD => ?_)
    refine ev_aload_n 64 dX1_take_64 rfl (by decide) ?_
    refine gf_1_44 (pc := 65) rfl dX1_take_65 kd_51 (rf_51_12 hD.1) ?_
    refine ev_iload_n 68 dX1_take_68 rfl ?_
    refine ev_dup2 69 dX1_take_69 rfl rfl ?_
    refine ev_ialdJ (x := s 1 w) (j := w) 70 dX1_take_70 (Nat.le_of_ble_eq_true rfl) ty_64 (pm_inI (by omega) (by omega)) (nI_clamp (by omega)) ((hD.r1 (by omega)).trans (dU_ne (by decide))) ?_
    refine ev_iload 71 dX1_take_71 rfl ?_
    refine ev_iload 73 dX1_take_73 rfl ?_
    refine ev_isub 75 dX1_take_75 ?_
    refine ev_isub 76 dX1_take_76 ?_
    refine ev_iastJ (j := w) 77 dX1_take_77 (Nat.le_of_ble_eq_true rfl) ty_64 (pm_inI (by omega) (by omega)) (nI_clamp (by omega)) ?_
    refine ev_abs (Q := DX e n r (dU (dU s 0 w ((s 0 w) - (if s 0 w < most then s 0 w else most))) 1 w ((s 1 w) - ((if s 0 w < most then s 0 w else most) - (if (s 0 w) - (s 1 w) < (if s 0 w < most then s 0 w else most) then (s 0 w) - (s 1 w) else (if s 0 w < most then s 0 w else most))))) p) (hD.u1 w ((s 1 w) - ((if s 0 w < most then s 0 w else most) - (if (s 0 w) - (s 1 w) < (if s 0 w < most then s 0 w else most) then (s 0 w) - (s 1 w) else (if s 0 w < most then s 0 w else most))))) (fun v2 hD => ?_)
    refine ev_aload_n 78 dX1_take_78 rfl (by decide) ?_
    refine ev_dup 79 dX1_take_79 rfl ?_
    refine gf_1_132 (x := s 5 1) (pc := 80) rfl dX1_take_80 kd_51 (hD.r5_1.trans ((dU_ne (by decide)).trans (dU_ne (by decide)))) ?_
    refine ev_iload 83 dX1_take_83 rfl ?_
    refine ev_iadd 85 dX1_take_85 ?_
    refine pf_1_132 (pc := 86) rfl dX1_take_86 kd_51 ?_
    refine ev_abs (Q := DX e n r (dU (dU (dU s 0 w ((s 0 w) - (if s 0 w < most then s 0 w else most))) 1 w ((s 1 w) - ((if s 0 w < most then s 0 w else most) - (if (s 0 w) - (s 1 w) < (if s 0 w < most then s 0 w else most) then (s 0 w) - (s 1 w) else (if s 0 w < most then s 0 w else most))))) 5 1 ((s 5 1) + (if s 0 w < most then s 0 w else most))) p) (hD.u5_1 ((s 5 1) + (if s 0 w < most then s 0 w else most))) (fun v3 hD => ?_)
    refine ev_return 89 dX1_take_89 rfl ?_
    rw [show pTake s w most b = dU (dU (dU s 0 w ((s 0 w) - (if s 0 w < most then s 0 w else most))) 1 w ((s 1 w) - ((if s 0 w < most then s 0 w else most) - (if (s 0 w) - (s 1 w) < (if s 0 w < most then s 0 w else most) then (s 0 w) - (s 1 w) else (if s 0 w < most then s 0 w else most))))) 5 1 ((s 5 1) + (if s 0 w < most then s 0 w else most)) by simp [pTake, mnI, mxI, c_2, c_26]] at k
    exact k _ hD
  · refine ev_aload_n 5 dX1_take_5 rfl (by decide) ?_
    refine gf_1_44 (pc := 6) rfl dX1_take_6 kd_51 (rf_51_12 hD.1) ?_
    refine ev_iload_n 9 dX1_take_9 rfl ?_
    refine ev_ialdJ (x := s 1 w) (j := w) 10 dX1_take_10 (Nat.le_of_ble_eq_true rfl) ty_64 (pm_inI (by omega) (by omega)) (nI_clamp (by omega)) (hD.r1 (by omega)) ?_
    refine ev_goto 11 20 dX1_take_11 rfl ?_
    refine ev_min (x := (if s 1 w < most then s 1 w else most)) 20 dX1_take_20 mn0_1_55 mn_1_55 (Nat.le_of_ble_eq_true rfl) rfl ?_
    refine ev_istore (ls' := [.ref 51, .int (nI w), .int most, .int b, .int (if s 1 w < most then s 1 w else most), pmJ]) 23 dX1_take_23 (Nat.le_of_ble_eq_true rfl) rfl ?_
    refine ev_iload_n 25 dX1_take_25 rfl ?_
    refine ev_if_eq 26 33 dX1_take_26 rfl (fun c_26 => absurd c_26 c_2) (fun c_26 => ?_)
    refine ev_iconst 29 dX1_take_29 kI_0 ?_
    refine ev_goto 30 51 dX1_take_30 rfl ?_
    refine ev_istore (ls' := [.ref 51, .int (nI w), .int most, .int b, .int (if s 1 w < most then s 1 w else most), .int 0]) 51 dX1_take_51 (Nat.le_of_ble_eq_true rfl) rfl ?_
    refine ev_aload_n 53 dX1_take_53 rfl (by decide) ?_
    refine gf_1_41 (pc := 54) rfl dX1_take_54 kd_51 (rf_51_11 hD.1) ?_
    refine ev_iload_n 57 dX1_take_57 rfl ?_
    refine ev_dup2 58 dX1_take_58 rfl rfl ?_
    refine ev_ialdJ (x := s 0 w) (j := w) 59 dX1_take_59 (Nat.le_of_ble_eq_true rfl) ty_63 (pm_inI (by omega) (by omega)) (nI_clamp (by omega)) (hD.r0 (by omega)) ?_
    refine ev_iload 60 dX1_take_60 rfl ?_
    refine ev_isub 62 dX1_take_62 ?_
    refine ev_iastJ (j := w) 63 dX1_take_63 (Nat.le_of_ble_eq_true rfl) ty_63 (pm_inI (by omega) (by omega)) (nI_clamp (by omega)) ?_
    refine ev_abs (Q := DX e n r (dU s 0 w ((s 0 w) - (if s 1 w < most then s 1 w else most))) p) (hD.u0 w ((s 0 w) - (if s 1 w < most then s 1 w else most))) (fun v4 hD => ?_)
    refine ev_aload_n 64 dX1_take_64 rfl (by decide) ?_
    refine gf_1_44 (pc := 65) rfl dX1_take_65 kd_51 (rf_51_12 hD.1) ?_
    refine ev_iload_n 68 dX1_take_68 rfl ?_
    refine ev_dup2 69 dX1_take_69 rfl rfl ?_
    refine ev_ialdJ (x := s 1 w) (j := w) 70 dX1_take_70 (Nat.le_of_ble_eq_true rfl) ty_64 (pm_inI (by omega) (by omega)) (nI_clamp (by omega)) ((hD.r1 (by omega)).trans (dU_ne (by decide))) ?_
    refine ev_iload 71 dX1_take_71 rfl ?_
    refine ev_iload 73 dX1_take_73 rfl ?_
    refine ev_isub 75 dX1_take_75 ?_
    refine ev_isub 76 dX1_take_76 ?_
    refine ev_iastJ (j := w) 77 dX1_take_77 (Nat.le_of_ble_eq_true rfl) ty_64 (pm_inI (by omega) (by omega)) (nI_clamp (by omega)) ?_
    refine ev_abs (Q := DX e n r (dU (dU s 0 w ((s 0 w) - (if s 1 w < most then s 1 w else most))) 1 w ((s 1 w) - ((if s 1 w < most then s 1 w else most) - 0))) p) (hD.u1 w ((s 1 w) - ((if s 1 w < most then s 1 w else most) - 0))) (fun v5 hD => ?_)
    refine ev_aload_n 78 dX1_take_78 rfl (by decide) ?_
    refine ev_dup 79 dX1_take_79 rfl ?_
    refine gf_1_132 (x := s 5 1) (pc := 80) rfl dX1_take_80 kd_51 (hD.r5_1.trans ((dU_ne (by decide)).trans (dU_ne (by decide)))) ?_
    refine ev_iload 83 dX1_take_83 rfl ?_
    refine ev_iadd 85 dX1_take_85 ?_
    refine pf_1_132 (pc := 86) rfl dX1_take_86 kd_51 ?_
    refine ev_abs (Q := DX e n r (dU (dU (dU s 0 w ((s 0 w) - (if s 1 w < most then s 1 w else most))) 1 w ((s 1 w) - ((if s 1 w < most then s 1 w else most) - 0))) 5 1 ((s 5 1) + (if s 1 w < most then s 1 w else most))) p) (hD.u5_1 ((s 5 1) + (if s 1 w < most then s 1 w else most))) (fun v6 hD => ?_)
    refine ev_return 89 dX1_take_89 rfl ?_
    rw [show pTake s w most b = dU (dU (dU s 0 w ((s 0 w) - (if s 1 w < most then s 1 w else most))) 1 w ((s 1 w) - ((if s 1 w < most then s 1 w else most) - 0))) 5 1 ((s 5 1) + (if s 1 w < most then s 1 w else most)) by simp [pTake, mnI, mxI, c_2, c_26]] at k
    exact k _ hD

theorem c_X5_stops {X : pmX} {d : Nat} {v : pmV} {P : Option Value → pmT → pmV → Prop} {LT : pmT} {D : Nat → Nat → Prop} {e : pmV} {i : Nat} {m : Int32} (hD : dFr D e v) (h3 : ¬ D 34 3) (h4 : ¬ D 34 4) (h5 : ¬ D 34 5) (kt : pStop e i m = true → P (some (.int 1)) (pmT0 ++ LT) v) (kf : ¬ pStop e i m = true → P (some (.int 0)) (pmT0 ++ LT) v) : EvP X (d + 1) MX5_stops 0 [.ref 34, .int (nI i), .int m] [] (pmT0 ++ LT) v P := by
  refine ev_iload_n 0 dX5_stops_0 rfl ?_
  refine ev_aload_n 1 dX5_stops_1 rfl (by decide) ?_
  refine gf_5_22 (x := e.1 34 3) (pc := 2) rfl dX5_stops_2 kd_34 (hD.1 34 3 h3) ?_
  refine ev_ic_ne 5 27 dX5_stops_5 rfl (fun c_5 => ?_) (fun c_5 => ?_)
  · refine ev_iconst 27 dX5_stops_27 kI_0 ?_
    refine ev_ireturn 28 dX5_stops_28 rfl rfl ?_
    exact kf (by unfold pStop; simp; intro q; exact absurd q c_5)
  · refine ev_iload_n 8 dX5_stops_8 rfl ?_
    refine ev_aload_n 9 dX5_stops_9 rfl (by decide) ?_
    refine gf_5_31 (x := e.1 34 4) (pc := 10) rfl dX5_stops_10 kd_34 (hD.1 34 4 h4) ?_
    refine ev_aload_n 13 dX5_stops_13 rfl (by decide) ?_
    refine gf_5_34 (x := e.1 34 5) (pc := 14) rfl dX5_stops_14 kd_34 (hD.1 34 5 h5) ?_
    refine cs_5_40 (pc := 17) rfl dX5_stops_17 (Nat.le_of_ble_eq_true rfl) ?_
    refine c_X11_isIn (fun h_17 => ?_) (fun h_17 => ?_)
    · refine ev_ifF 20 27 dX5_stops_20 rfl (by decide) ?_
      refine ev_iconst 23 dX5_stops_23 kI_1 ?_
      refine ev_goto 24 28 dX5_stops_24 rfl ?_
      refine ev_ireturn 28 dX5_stops_28 rfl rfl ?_
      exact kt (by unfold pStop; simp; exact ⟨c_5, h_17⟩)
    · refine ev_ifT 20 27 dX5_stops_20 rfl (by decide) ?_
      refine ev_iconst 27 dX5_stops_27 kI_0 ?_
      refine ev_ireturn 28 dX5_stops_28 rfl rfl ?_
      exact kf (by unfold pStop; simp; intro _ q1; exact Int32.not_le.mp (fun q2 => h_17 ⟨q1, q2⟩))

theorem lane_ix {n : Nat} {l : Int32} (hn : n ≤ 8) (h : 0 ≤ l ∧ l ≤ nI n - 1) : ∃ i, i < n ∧ l = nI i := by
  obtain ⟨j, hj, rfl⟩ := nI_of (Int32.not_lt.mpr h.1)
  refine ⟨j, ?_, rfl⟩
  cases n with
  | zero => exact absurd (Int32.le_trans h.1 h.2) (by decide)
  | succ k => have h2 := h.2; rw [nI_pred] at h2; have := (nI_leI (by omega) (by omega)).mp h2; omega
theorem lane_in {n i : Nat} (hn : n ≤ 8) (hi : i < n) : 0 ≤ nI i ∧ nI i ≤ nI n - 1 := by
  refine ⟨nI_pos' (by omega), ?_⟩
  cases n with
  | zero => omega
  | succ k => rw [nI_pred]; exact nI_le (by omega) (by omega)
theorem pCan_nI {e : pmV} {n : Nat} {s : dT} {i : Nat} {m : Int32} (hn : n ≤ 8) (hi : i < n) : pCan e n s (nI i) m = (decide (s 4 i = 0) && pMay e i m) := by
  unfold pCan
  rw [nI_clamp (by omega), decide_eq_true (lane_in hn hi), Bool.true_and]
theorem pCan_no {e : pmV} {n : Nat} {s : dT} {l m : Int32} (h : ¬ (0 ≤ l ∧ l ≤ nI n - 1)) : ¬ pCan e n s l m = true := by
  unfold pCan; rw [decide_eq_false h]; simp
theorem pCan_ix {e : pmV} {n : Nat} {s : dT} {l m : Int32} (hn : n ≤ 8) (h : pCan e n s l m = true) : ∃ i, i < n ∧ l = nI i ∧ s 4 i = 0 ∧ pMay e i m = true := by
  unfold pCan at h
  simp only [Bool.and_eq_true, decide_eq_true_eq] at h
  obtain ⟨i, hi, rfl⟩ := lane_ix hn h.1
  rw [nI_clamp (by omega)] at h
  exact ⟨i, hi, rfl, h.2.1, h.2.2⟩
theorem c_X1_canTurn {X : pmX} {d : Nat} {v : pmV} {P : Option Value → pmT → pmV → Prop} {LT : pmT} {e : pmV} {n tx z r : Nat} {s : dT} {p : Int64} {l m : Int32} (hC : Cpl n tx z LT e) (hD : DX e n r s p v) (kt : pCan e n s l m = true → P (some (.int 1)) (pmT0 ++ LT) v) (kf : ¬ pCan e n s l m = true → P (some (.int 0)) (pmT0 ++ LT) v) : EvP X (d + 9) MX1_canTurn 0 [.ref 51, .int l, .int m] [] (pmT0 ++ LT) v P := by
  have hn8 := hC.2.1.1
  refine ev_iload_n 0 dX1_canTurn_0 rfl ?_
  refine ev_iconst 1 dX1_canTurn_1 kI_0 ?_
  refine ev_aload_n 2 dX1_canTurn_2 rfl (by decide) ?_
  refine gf_1_61 (x := nI n) (pc := 3) rfl dX1_canTurn_3 kd_51 hD.rn ?_
  refine ev_iconst 6 dX1_canTurn_6 kI_1 ?_
  refine ev_isub 7 dX1_canTurn_7 ?_
  refine cs_1_157 (pc := 8) rfl dX1_canTurn_8 (Nat.le_of_ble_eq_true rfl) ?_
  refine c_X11_isIn (fun h_8 => ?_) (fun h_8 => ?_)
  · obtain ⟨i, hi, rfl⟩ := lane_ix hn8 h_8
    refine ev_ifF 11 40 dX1_canTurn_11 rfl (by decide) ?_
    refine ev_aload_n 14 dX1_canTurn_14 rfl (by decide) ?_
    refine gf_1_38 (pc := 15) rfl dX1_canTurn_15 kd_51 (rf_51_10 hD.1) ?_
    refine ev_iload_n 18 dX1_canTurn_18 rfl ?_
    refine ev_ialdJ (x := s 4 i) (j := i) 19 dX1_canTurn_19 (Nat.le_of_ble_eq_true rfl) ty_62 (pm_inI (by omega) (by omega)) (nI_clamp (by omega)) (hD.r4 (by omega)) ?_
    refine ev_if_ne 20 40 dX1_canTurn_20 rfl (fun c_20 => ?_) (fun c_20 => ?_)
    · refine ev_iconst 40 dX1_canTurn_40 kI_0 ?_
      refine ev_ireturn 41 dX1_canTurn_41 rfl rfl ?_
      exact kf (by rw [pCan_nI hn8 hi]; simp [c_20])
    · refine ev_aload_n 23 dX1_canTurn_23 rfl (by decide) ?_
      refine gf_1_11 (pc := 24) rfl dX1_canTurn_24 kd_51 hD.f0 ?_
      refine ev_iload_n 27 dX1_canTurn_27 rfl ?_
      refine ev_aaldJ (x := 124 + i) (j := i) 28 dX1_canTurn_28 (Nat.le_of_ble_eq_true rfl) ty_33 (by decide) (pm_inI (by omega) (by omega)) (nI_clamp (by omega)) ((hD.fd.2 33 _ (by omega)).trans (hC.2.1.2.2.2.2 i (by omega)).1) ?_
      refine ev_iload_n 29 dX1_canTurn_29 rfl ?_
      refine vc_1_161 (pc := 30) rfl dX1_canTurn_30 hC.2.1 (i := i) (by omega) (hD.c (by unfold DcX; omega)) (Nat.le_of_ble_eq_true rfl) (fun h_30 => ?_) (fun h_30 => ?_)
      · refine ev_ifF 33 40 dX1_canTurn_33 rfl (by decide) ?_
        refine ev_iconst 36 dX1_canTurn_36 kI_1 ?_
        refine ev_goto 37 41 dX1_canTurn_37 rfl ?_
        refine ev_ireturn 41 dX1_canTurn_41 rfl rfl ?_
        exact kt (by rw [pCan_nI hn8 hi]; simp [c_20, h_30])
      · refine ev_ifT 33 40 dX1_canTurn_33 rfl (by decide) ?_
        refine ev_iconst 40 dX1_canTurn_40 kI_0 ?_
        refine ev_ireturn 41 dX1_canTurn_41 rfl rfl ?_
        exact kf (by rw [pCan_nI hn8 hi]; simp [h_30])
  · refine ev_ifT 11 40 dX1_canTurn_11 rfl (by decide) ?_
    refine ev_iconst 40 dX1_canTurn_40 kI_0 ?_
    refine ev_ireturn 41 dX1_canTurn_41 rfl rfl ?_
    exact kf (pCan_no h_8)

theorem w01 {x : Int32} {w : Nat} (hx : x = nI w) (hw : w < 2) : x.toNatClampNeg = w ∧ 1 - x = nI (1 - w) := by
  subst hx
  exact ⟨nI_clamp (by omega), by rw [show (1 : Int32) = nI 1 from rfl]; exact pk_sub (by omega)⟩
theorem c_X1_turn {X : pmX} {d : Nat} {v : pmV} {P : Option Value → pmT → pmV → Prop} {LT : pmT} {e : pmV} {n tx z r : Nat} {s : dT} {p : Int64} {l m : Int32} (hC : Cpl n tx z LT e) (hD : DX e n r s p v) (hW : ∀ i, i < n → ∃ w, w < 2 ∧ s 3 i = nI w) (k : ∀ v', DX e n r (pTurn e n s l m) p v' → P none (pmT0 ++ LT) v') : EvP X (d + 10) MX1_turn 0 [.ref 51, .int l, .int m] [] (pmT0 ++ LT) v P := by
  have hn8 := hC.2.1.1
  refine ev_aload_n 0 dX1_turn_0 rfl (by decide) ?_
  refine ev_iload_n 1 dX1_turn_1 rfl ?_
  refine ev_iload_n 2 dX1_turn_2 rfl ?_
  refine cv_1_122_1 (pc := 3) rfl dX1_turn_3 kd_51 (Nat.le_of_ble_eq_true rfl) ?_
  refine c_X1_canTurn hC hD (fun h_3 => ?_) (fun h_3 => ?_)
  · obtain ⟨i, hi, rfl, hr0, hmy⟩ := pCan_ix hn8 h_3
    obtain ⟨u, hu, hsu⟩ := hW i hi
    obtain ⟨hu1, hu2⟩ := w01 hsu hu
    refine ev_ifT 6 10 dX1_turn_6 rfl (by decide) ?_
    refine ev_aload_n 10 dX1_turn_10 rfl (by decide) ?_
    refine gf_1_47 (pc := 11) rfl dX1_turn_11 kd_51 (rf_51_13 hD.1) ?_
    refine ev_aload_n 14 dX1_turn_14 rfl (by decide) ?_
    refine gf_1_35 (pc := 15) rfl dX1_turn_15 kd_51 (rf_51_9 hD.1) ?_
    refine ev_iload_n 18 dX1_turn_18 rfl ?_
    refine ev_ialdJ (x := nI u) (j := i) 19 dX1_turn_19 (Nat.le_of_ble_eq_true rfl) ty_61 (pm_inI (by omega) (by omega)) (nI_clamp (by omega)) ((hD.r3 (by omega)).trans hsu) ?_
    refine ev_dup2 20 dX1_turn_20 rfl rfl ?_
    refine ev_ialdJ (x := s 2 u) (j := u) 21 dX1_turn_21 (Nat.le_of_ble_eq_true rfl) ty_65 (pm_inI (by omega) (by omega)) (nI_clamp (by omega)) (hD.r2 (by omega)) ?_
    refine ev_iconst 22 dX1_turn_22 kI_1 ?_
    refine ev_isub 23 dX1_turn_23 ?_
    refine ev_iastJ (j := u) 24 dX1_turn_24 (Nat.le_of_ble_eq_true rfl) ty_65 (pm_inI (by omega) (by omega)) (nI_clamp (by omega)) ?_
    refine ev_abs (Q := DX e n r (dU s 2 u ((s 2 u) - 1)) p) (hD.u2 u ((s 2 u) - 1)) (fun v1 hD => ?_)
    refine ev_aload_n 25 dX1_turn_25 rfl (by decide) ?_
    refine gf_1_35 (pc := 26) rfl dX1_turn_26 kd_51 (rf_51_9 hD.1) ?_
    refine ev_iload_n 29 dX1_turn_29 rfl ?_
    refine ev_iconst 30 dX1_turn_30 kI_1 ?_
    refine ev_aload_n 31 dX1_turn_31 rfl (by decide) ?_
    refine gf_1_35 (pc := 32) rfl dX1_turn_32 kd_51 (rf_51_9 hD.1) ?_
    refine ev_iload_n 35 dX1_turn_35 rfl ?_
    refine ev_ialdJ (x := nI u) (j := i) 36 dX1_turn_36 (Nat.le_of_ble_eq_true rfl) ty_61 (pm_inI (by omega) (by omega)) (nI_clamp (by omega)) ((hD.r3 (by omega)).trans ((dU_ne (by decide)).trans hsu)) ?_
    refine ev_isub 37 dX1_turn_37 ?_
    refine ev_cst (y := nI (1 - u)) (pk_sub (a := 1) (b := u) (by omega)) ?_
    refine ev_iastJ (j := i) 38 dX1_turn_38 (Nat.le_of_ble_eq_true rfl) ty_61 (pm_inI (by omega) (by omega)) (nI_clamp (by omega)) ?_
    refine ev_abs (Q := DX e n r (dU (dU s 2 u ((s 2 u) - 1)) 3 i (nI (1 - u))) p) (hD.u3 i (nI (1 - u))) (fun v2 hD => ?_)
    refine ev_aload_n 39 dX1_turn_39 rfl (by decide) ?_
    refine gf_1_47 (pc := 40) rfl dX1_turn_40 kd_51 (rf_51_13 hD.1) ?_
    refine ev_aload_n 43 dX1_turn_43 rfl (by decide) ?_
    refine gf_1_35 (pc := 44) rfl dX1_turn_44 kd_51 (rf_51_9 hD.1) ?_
    refine ev_iload_n 47 dX1_turn_47 rfl ?_
    refine ev_ialdJ (x := nI (1 - u)) (j := i) 48 dX1_turn_48 (Nat.le_of_ble_eq_true rfl) ty_61 (pm_inI (by omega) (by omega)) (nI_clamp (by omega)) ((hD.r3 (by omega)).trans dU_on) ?_
    refine ev_dup2 49 dX1_turn_49 rfl rfl ?_
    refine ev_ialdJ (x := (dU (dU s 2 u ((s 2 u) - 1)) 3 i (nI (1 - u))) 2 (1 - u)) (j := 1 - u) 50 dX1_turn_50 (Nat.le_of_ble_eq_true rfl) ty_65 (pm_inI (by omega) (by omega)) (nI_clamp (by omega)) (hD.r2 (by omega)) ?_
    refine ev_iconst 51 dX1_turn_51 kI_1 ?_
    refine ev_iadd 52 dX1_turn_52 ?_
    refine ev_iastJ (j := 1 - u) 53 dX1_turn_53 (Nat.le_of_ble_eq_true rfl) ty_65 (pm_inI (by omega) (by omega)) (nI_clamp (by omega)) ?_
    refine ev_abs (Q := DX e n r (dU (dU (dU s 2 u ((s 2 u) - 1)) 3 i (nI (1 - u))) 2 (1 - u) (((dU (dU s 2 u ((s 2 u) - 1)) 3 i (nI (1 - u))) 2 (1 - u)) + 1)) p) (hD.u2 (1 - u) (((dU (dU s 2 u ((s 2 u) - 1)) 3 i (nI (1 - u))) 2 (1 - u)) + 1)) (fun v3 hD => ?_)
    refine ev_aload_n 54 dX1_turn_54 rfl (by decide) ?_
    refine gf_1_38 (pc := 55) rfl dX1_turn_55 kd_51 (rf_51_10 hD.1) ?_
    refine ev_iload_n 58 dX1_turn_58 rfl ?_
    refine ev_aload_n 59 dX1_turn_59 rfl (by decide) ?_
    refine gf_1_11 (pc := 60) rfl dX1_turn_60 kd_51 hD.f0 ?_
    refine ev_iload_n 63 dX1_turn_63 rfl ?_
    refine ev_aaldJ (x := 124 + i) (j := i) 64 dX1_turn_64 (Nat.le_of_ble_eq_true rfl) ty_33 (by decide) (pm_inI (by omega) (by omega)) (nI_clamp (by omega)) ((hD.fd.2 33 _ (by omega)).trans (hC.2.1.2.2.2.2 i (by omega)).1) ?_
    refine ev_aload_n 65 dX1_turn_65 rfl (by decide) ?_
    refine gf_1_20 (pc := 66) rfl dX1_turn_66 kd_51 hD.f2 ?_
    refine gf_1_152 (x := e.1 34 2) (pc := 69) rfl dX1_turn_69 kd_34 (hD.c (by unfold DcX; omega)) ?_
    refine vc_1_155 (pc := 72) rfl dX1_turn_72 hC.2.1 (i := i) (by omega) (hD.c (by unfold DcX; omega)) (Nat.le_of_ble_eq_true rfl) ?_
    refine ev_iastJ (j := i) 75 dX1_turn_75 (Nat.le_of_ble_eq_true rfl) ty_62 (pm_inI (by omega) (by omega)) (nI_clamp (by omega)) ?_
    refine ev_abs (Q := DX e n r (dU (dU (dU (dU s 2 u ((s 2 u) - 1)) 3 i (nI (1 - u))) 2 (1 - u) (((dU (dU s 2 u ((s 2 u) - 1)) 3 i (nI (1 - u))) 2 (1 - u)) + 1)) 4 i (pRes e i (e.1 34 2))) p) (hD.u4 i (pRes e i (e.1 34 2))) (fun v4 hD => ?_)
    refine ev_aload_n 76 dX1_turn_76 rfl (by decide) ?_
    refine ev_dup 77 dX1_turn_77 rfl ?_
    refine gf_1_129 (x := s 5 0) (pc := 78) rfl dX1_turn_78 kd_51 (hD.r5_0.trans ((dU_ne (by decide)).trans ((dU_ne (by decide)).trans ((dU_ne (by decide)).trans (dU_ne (by decide)))))) ?_
    refine ev_iconst 81 dX1_turn_81 kI_1 ?_
    refine ev_iadd 82 dX1_turn_82 ?_
    refine pf_1_129 (pc := 83) rfl dX1_turn_83 kd_51 ?_
    refine ev_abs (Q := DX e n r (dU (dU (dU (dU (dU s 2 u ((s 2 u) - 1)) 3 i (nI (1 - u))) 2 (1 - u) (((dU (dU s 2 u ((s 2 u) - 1)) 3 i (nI (1 - u))) 2 (1 - u)) + 1)) 4 i (pRes e i (e.1 34 2))) 5 0 ((s 5 0) + 1)) p) (hD.u5_0 ((s 5 0) + 1)) (fun v5 hD => ?_)
    refine ev_return 86 dX1_turn_86 rfl ?_
    rw [show pTurn e n s (nI i) m = dU (dU (dU (dU (dU s 2 u ((s 2 u) - 1)) 3 i (nI (1 - u))) 2 (1 - u) (((dU (dU s 2 u ((s 2 u) - 1)) 3 i (nI (1 - u))) 2 (1 - u)) + 1)) 4 i (pRes e i (e.1 34 2))) 5 0 ((s 5 0) + 1) by unfold pTurn; rw [if_pos h_3, nI_clamp (by omega)]; unfold pTurnI; simp only [hu1, hu2, nI_clamp (show 1 - u < 2 ^ 31 by omega)]] at k
    exact k _ hD
  · refine ev_ifF 6 10 dX1_turn_6 rfl (by decide) ?_
    refine ev_return 9 dX1_turn_9 rfl ?_
    rw [show pTurn e n s l m = s by unfold pTurn; rw [if_neg h_3]] at k
    exact k _ hD

