/-! TEXTS: takesOne as rOne -/
theorem to_num {X : pmX} {d : Nat} {v : pmV} {P : Option Value → pmT → pmV → Prop} {LT : pmT} {y : Int32} {x : Int32} {bs op : Nat} {W cs : List Int32} (hX : pmRf v) (hM : MS bs W cs op v) (hl : W.length + cs.length < 160) (h5 : op ≤ 5) (h14 : v.1 100 14 = 1) (h15 : v.1 100 15 = x) (hx : 0 ≤ x) (K : ∀ v', Of (mC bs) v v' → MS bs (stl 7 W (cs ++ [x]) op).1 (stl 7 W (cs ++ [x]) op).2.1 (stl 7 W (cs ++ [x]) op).2.2 v' → P (some (.int 2)) (pmT0 ++ LT) v') : EvP X (d + 2) MX12_takesOne 0 [.ref 100, .int y] [] (pmT0 ++ LT) v P := by
  refine ev_aload_n 0 dX12_takesOne_0 rfl (by decide) ?_
  refine gf_12_95 (x := 1) (pc := 1) rfl dX12_takesOne_1 kd_100 h14 ?_
  refine ev_iconst 4 dX12_takesOne_4 kI_1 ?_
  refine ev_icT 5 27 dX12_takesOne_5 rfl (by decide) ?_
  refine ev_aload_n 27 dX12_takesOne_27 rfl (by decide) ?_
  refine ev_aload_n 28 dX12_takesOne_28 rfl (by decide) ?_
  refine gf_12_95 (x := 1) (pc := 29) rfl dX12_takesOne_29 kd_100 h14 ?_
  refine ev_iconst 32 dX12_takesOne_32 kI_1 ?_
  refine ev_icF 33 40 dX12_takesOne_33 rfl (by decide) ?_
  refine ev_iconst 36 dX12_takesOne_36 kI_0 ?_
  refine ev_goto 37 41 dX12_takesOne_37 rfl ?_
  refine ev_aload_n 41 dX12_takesOne_41 rfl (by decide) ?_
  refine gf_12_95 (x := 1) (pc := 42) rfl dX12_takesOne_42 kd_100 h14 ?_
  refine ev_iconst 45 dX12_takesOne_45 kI_1 ?_
  refine ev_icF 46 56 dX12_takesOne_46 rfl (by decide) ?_
  refine ev_aload_n 49 dX12_takesOne_49 rfl (by decide) ?_
  refine gf_12_98 (x := x) (pc := 50) rfl dX12_takesOne_50 kd_100 h15 ?_
  refine ev_goto 53 64 dX12_takesOne_53 rfl ?_
  refine cv_12_205_12 (pc := 64) rfl dX12_takesOne_64 kd_100 (Nat.le_of_ble_eq_true rfl) ?_
  refine c_X12_put (c := x) hX hM (Or.inl ⟨rfl, rfl, hx⟩) hl (fun v1 hO1 hM1 => ?_)
  refine ev_aload_n 67 dX12_takesOne_67 rfl (by decide) ?_
  refine ev_bipush 68 dX12_takesOne_68 kB_7 ?_
  refine cv_12_248_12 (pc := 70) rfl dX12_takesOne_70 kd_100 (Nat.le_of_ble_eq_true rfl) ?_
  refine c_X12_settle (L := 7) (hX.ag (congrArg Prod.snd hO1.1)) ⟨by decide, by decide⟩ hM1 (by omega) (fun v2 hO2 hM2 => ?_)
  refine ev_iconst 73 dX12_takesOne_73 kI_2 ?_
  refine ev_ireturn 74 dX12_takesOne_74 rfl rfl ?_
  exact K _ (hO1.tr hO2) hM2

theorem to_nam {X : pmX} {d : Nat} {v : pmV} {P : Option Value → pmT → pmV → Prop} {LT : pmT} {y : Int32} {x : Int32} {w : Nat} {bs op : Nat} {W cs : List Int32} (hX : pmRf v) (hM : MS bs W cs op v) (hl : W.length + cs.length < 160) (h5 : op ≤ 5) (h14 : v.1 100 14 = 2) (h15 : v.1 100 15 = nI (wdN w)) (hw : w < 6) (hx : x = -1 - nI w) (K : ∀ v', Of (mC bs) v v' → MS bs (stl 7 W (cs ++ [x]) op).1 (stl 7 W (cs ++ [x]) op).2.1 (stl 7 W (cs ++ [x]) op).2.2 v' → P (some (.int 2)) (pmT0 ++ LT) v') : EvP X (d + 2) MX12_takesOne 0 [.ref 100, .int y] [] (pmT0 ++ LT) v P := by
  refine ev_aload_n 0 dX12_takesOne_0 rfl (by decide) ?_
  refine gf_12_95 (x := 2) (pc := 1) rfl dX12_takesOne_1 kd_100 h14 ?_
  refine ev_iconst 4 dX12_takesOne_4 kI_1 ?_
  refine ev_icF 5 27 dX12_takesOne_5 rfl (by decide) ?_
  refine ev_aload_n 8 dX12_takesOne_8 rfl (by decide) ?_
  refine gf_12_95 (x := 2) (pc := 9) rfl dX12_takesOne_9 kd_100 h14 ?_
  refine ev_iconst 12 dX12_takesOne_12 kI_2 ?_
  refine ev_icF 13 75 dX12_takesOne_13 rfl (by decide) ?_
  refine ev_aload_n 16 dX12_takesOne_16 rfl (by decide) ?_
  refine ev_aload_n 17 dX12_takesOne_17 rfl (by decide) ?_
  refine gf_12_98 (x := nI (wdN w)) (pc := 18) rfl dX12_takesOne_18 kd_100 h15 ?_
  refine cv_12_220_12 (pc := 21) rfl dX12_takesOne_21 kd_100 (Nat.le_of_ble_eq_true rfl) ?_
  refine c_X12_nameOf (fun u hu hv => ?_) (fun hv => absurd rfl (hv w hw))
  obtain rfl : w = u := wdN_inj w (by omega) u (by omega) hv
  refine ev_if_lt 24 75 dX12_takesOne_24 rfl (fun c_24 => absurd c_24 (Int32.not_lt.mpr (nI_pos' (by omega)))) (fun c_24 => ?_)
  refine ev_aload_n 27 dX12_takesOne_27 rfl (by decide) ?_
  refine ev_aload_n 28 dX12_takesOne_28 rfl (by decide) ?_
  refine gf_12_95 (x := 2) (pc := 29) rfl dX12_takesOne_29 kd_100 h14 ?_
  refine ev_iconst 32 dX12_takesOne_32 kI_1 ?_
  refine ev_icT 33 40 dX12_takesOne_33 rfl (by decide) ?_
  refine ev_iconst 40 dX12_takesOne_40 kI_1 ?_
  refine ev_aload_n 41 dX12_takesOne_41 rfl (by decide) ?_
  refine gf_12_95 (x := 2) (pc := 42) rfl dX12_takesOne_42 kd_100 h14 ?_
  refine ev_iconst 45 dX12_takesOne_45 kI_1 ?_
  refine ev_icT 46 56 dX12_takesOne_46 rfl (by decide) ?_
  refine ev_aload_n 56 dX12_takesOne_56 rfl (by decide) ?_
  refine ev_aload_n 57 dX12_takesOne_57 rfl (by decide) ?_
  refine gf_12_98 (x := nI (wdN w)) (pc := 58) rfl dX12_takesOne_58 kd_100 h15 ?_
  refine cv_12_220_12 (pc := 61) rfl dX12_takesOne_61 kd_100 (Nat.le_of_ble_eq_true rfl) ?_
  refine c_X12_nameOf (fun u hu hv => ?_) (fun hv => absurd rfl (hv w hw))
  obtain rfl : w = u := wdN_inj w (by omega) u (by omega) hv
  refine cv_12_205_12 (pc := 64) rfl dX12_takesOne_64 kd_100 (Nat.le_of_ble_eq_true rfl) ?_
  refine c_X12_put (c := x) hX hM (Or.inr (Or.inl ⟨rfl, hx, nI_pos' (by omega), nI_le (a := w) (b := 5) (by omega) (by omega)⟩)) hl (fun v1 hO1 hM1 => ?_)
  refine ev_aload_n 67 dX12_takesOne_67 rfl (by decide) ?_
  refine ev_bipush 68 dX12_takesOne_68 kB_7 ?_
  refine cv_12_248_12 (pc := 70) rfl dX12_takesOne_70 kd_100 (Nat.le_of_ble_eq_true rfl) ?_
  refine c_X12_settle (L := 7) (hX.ag (congrArg Prod.snd hO1.1)) ⟨by decide, by decide⟩ hM1 (by omega) (fun v2 hO2 hM2 => ?_)
  refine ev_iconst 73 dX12_takesOne_73 kI_2 ?_
  refine ev_ireturn 74 dX12_takesOne_74 rfl rfl ?_
  exact K _ (hO1.tr hO2) hM2

theorem to_key {X : pmX} {d : Nat} {v : pmV} {P : Option Value → pmT → pmV → Prop} {LT : pmT} {y : Int32} {w : Nat} (h14 : v.1 100 14 = 2) (h15 : v.1 100 15 = nI (wdN w)) (hw : 6 ≤ w) (hw2 : w < 12) (hn : w ≠ 11) (k : P (some (.int 0)) (pmT0 ++ LT) v) : EvP X (d + 2) MX12_takesOne 0 [.ref 100, .int y] [] (pmT0 ++ LT) v P := by
  refine ev_aload_n 0 dX12_takesOne_0 rfl (by decide) ?_
  refine gf_12_95 (x := 2) (pc := 1) rfl dX12_takesOne_1 kd_100 h14 ?_
  refine ev_iconst 4 dX12_takesOne_4 kI_1 ?_
  refine ev_icF 5 27 dX12_takesOne_5 rfl (by decide) ?_
  refine ev_aload_n 8 dX12_takesOne_8 rfl (by decide) ?_
  refine gf_12_95 (x := 2) (pc := 9) rfl dX12_takesOne_9 kd_100 h14 ?_
  refine ev_iconst 12 dX12_takesOne_12 kI_2 ?_
  refine ev_icF 13 75 dX12_takesOne_13 rfl (by decide) ?_
  refine ev_aload_n 16 dX12_takesOne_16 rfl (by decide) ?_
  refine ev_aload_n 17 dX12_takesOne_17 rfl (by decide) ?_
  refine gf_12_98 (x := nI (wdN w)) (pc := 18) rfl dX12_takesOne_18 kd_100 h15 ?_
  refine cv_12_220_12 (pc := 21) rfl dX12_takesOne_21 kd_100 (Nat.le_of_ble_eq_true rfl) ?_
  refine c_X12_nameOf (fun u hu hv => absurd (wdN_inj w (by omega) u (by omega) hv) (by omega)) (fun _ => ?_)
  refine ev_ifT 24 75 dX12_takesOne_24 rfl (by decide) ?_
  refine ev_aload_n 75 dX12_takesOne_75 rfl (by decide) ?_
  refine gf_12_95 (x := 2) (pc := 76) rfl dX12_takesOne_76 kd_100 h14 ?_
  refine ev_bipush 79 dX12_takesOne_79 kB_45 ?_
  refine ev_icT 81 99 dX12_takesOne_81 rfl (by decide) ?_
  refine ev_aload_n 99 dX12_takesOne_99 rfl (by decide) ?_
  refine gf_12_95 (x := 2) (pc := 100) rfl dX12_takesOne_100 kd_100 h14 ?_
  refine ev_bipush 103 dX12_takesOne_103 kB_40 ?_
  refine ev_icT 105 123 dX12_takesOne_105 rfl (by decide) ?_
  refine ev_aload_n 123 dX12_takesOne_123 rfl (by decide) ?_
  refine ev_sipush 124 dX12_takesOne_124 kS_14836 ?_
  refine cv_12_254_12 (pc := 127) rfl dX12_takesOne_127 kd_100 (Nat.le_of_ble_eq_true rfl) ?_
  refine c_X12_isWord (fun h => absurd h (by rw [h14, h15]; exact fun h => hn (wdN_inj w hw2 11 (by omega) h.2))) (fun _ => ?_)
  refine ev_ifT 130 149 dX12_takesOne_130 rfl (by decide) ?_
  refine ev_iconst 149 dX12_takesOne_149 kI_0 ?_
  refine ev_ireturn 150 dX12_takesOne_150 rfl rfl ?_
  exact k

theorem to_not0 {X : pmX} {d : Nat} {v : pmV} {P : Option Value → pmT → pmV → Prop} {LT : pmT} (h14 : v.1 100 14 = 2) (h15 : v.1 100 15 = 14836) (k : P (some (.int 0)) (pmT0 ++ LT) v) : EvP X (d + 2) MX12_takesOne 0 [.ref 100, .int 0] [] (pmT0 ++ LT) v P := by
  refine ev_aload_n 0 dX12_takesOne_0 rfl (by decide) ?_
  refine gf_12_95 (x := 2) (pc := 1) rfl dX12_takesOne_1 kd_100 h14 ?_
  refine ev_iconst 4 dX12_takesOne_4 kI_1 ?_
  refine ev_icF 5 27 dX12_takesOne_5 rfl (by decide) ?_
  refine ev_aload_n 8 dX12_takesOne_8 rfl (by decide) ?_
  refine gf_12_95 (x := 2) (pc := 9) rfl dX12_takesOne_9 kd_100 h14 ?_
  refine ev_iconst 12 dX12_takesOne_12 kI_2 ?_
  refine ev_icF 13 75 dX12_takesOne_13 rfl (by decide) ?_
  refine ev_aload_n 16 dX12_takesOne_16 rfl (by decide) ?_
  refine ev_aload_n 17 dX12_takesOne_17 rfl (by decide) ?_
  refine gf_12_98 (x := 14836) (pc := 18) rfl dX12_takesOne_18 kd_100 h15 ?_
  refine cv_12_220_12 (pc := 21) rfl dX12_takesOne_21 kd_100 (Nat.le_of_ble_eq_true rfl) ?_
  refine c_X12_nameOf (fun u hu hv => absurd (wdN_inj 11 (by decide) u (by omega) hv) (by omega)) (fun _ => ?_)
  refine ev_ifT 24 75 dX12_takesOne_24 rfl (by decide) ?_
  refine ev_aload_n 75 dX12_takesOne_75 rfl (by decide) ?_
  refine gf_12_95 (x := 2) (pc := 76) rfl dX12_takesOne_76 kd_100 h14 ?_
  refine ev_bipush 79 dX12_takesOne_79 kB_45 ?_
  refine ev_icT 81 99 dX12_takesOne_81 rfl (by decide) ?_
  refine ev_aload_n 99 dX12_takesOne_99 rfl (by decide) ?_
  refine gf_12_95 (x := 2) (pc := 100) rfl dX12_takesOne_100 kd_100 h14 ?_
  refine ev_bipush 103 dX12_takesOne_103 kB_40 ?_
  refine ev_icT 105 123 dX12_takesOne_105 rfl (by decide) ?_
  refine ev_aload_n 123 dX12_takesOne_123 rfl (by decide) ?_
  refine ev_sipush 124 dX12_takesOne_124 kS_14836 ?_
  refine cv_12_254_12 (pc := 127) rfl dX12_takesOne_127 kd_100 (Nat.le_of_ble_eq_true rfl) ?_
  refine c_X12_isWord (fun _ => ?_) (fun h => absurd ⟨h14, h15⟩ h)
  refine ev_ifF 130 149 dX12_takesOne_130 rfl (by decide) ?_
  refine ev_iload_n 133 dX12_takesOne_133 rfl ?_
  refine ev_ifT 134 149 dX12_takesOne_134 rfl (by decide) ?_
  refine ev_iconst 149 dX12_takesOne_149 kI_0 ?_
  refine ev_ireturn 150 dX12_takesOne_150 rfl rfl ?_
  exact k

theorem to_not5 {X : pmX} {d : Nat} {v : pmV} {P : Option Value → pmT → pmV → Prop} {LT : pmT} {bs : Nat} {W cs : List Int32} (hX : pmRf v) (hM : MS bs W cs 5 v) (h14 : v.1 100 14 = 2) (h15 : v.1 100 15 = 14836) (k : P (some (.int 0)) (pmT0 ++ LT) v) : EvP X (d + 2) MX12_takesOne 0 [.ref 100, .int 1] [] (pmT0 ++ LT) v P := by
  refine ev_aload_n 0 dX12_takesOne_0 rfl (by decide) ?_
  refine gf_12_95 (x := 2) (pc := 1) rfl dX12_takesOne_1 kd_100 h14 ?_
  refine ev_iconst 4 dX12_takesOne_4 kI_1 ?_
  refine ev_icF 5 27 dX12_takesOne_5 rfl (by decide) ?_
  refine ev_aload_n 8 dX12_takesOne_8 rfl (by decide) ?_
  refine gf_12_95 (x := 2) (pc := 9) rfl dX12_takesOne_9 kd_100 h14 ?_
  refine ev_iconst 12 dX12_takesOne_12 kI_2 ?_
  refine ev_icF 13 75 dX12_takesOne_13 rfl (by decide) ?_
  refine ev_aload_n 16 dX12_takesOne_16 rfl (by decide) ?_
  refine ev_aload_n 17 dX12_takesOne_17 rfl (by decide) ?_
  refine gf_12_98 (x := 14836) (pc := 18) rfl dX12_takesOne_18 kd_100 h15 ?_
  refine cv_12_220_12 (pc := 21) rfl dX12_takesOne_21 kd_100 (Nat.le_of_ble_eq_true rfl) ?_
  refine c_X12_nameOf (fun u hu hv => absurd (wdN_inj 11 (by decide) u (by omega) hv) (by omega)) (fun _ => ?_)
  refine ev_ifT 24 75 dX12_takesOne_24 rfl (by decide) ?_
  refine ev_aload_n 75 dX12_takesOne_75 rfl (by decide) ?_
  refine gf_12_95 (x := 2) (pc := 76) rfl dX12_takesOne_76 kd_100 h14 ?_
  refine ev_bipush 79 dX12_takesOne_79 kB_45 ?_
  refine ev_icT 81 99 dX12_takesOne_81 rfl (by decide) ?_
  refine ev_aload_n 99 dX12_takesOne_99 rfl (by decide) ?_
  refine gf_12_95 (x := 2) (pc := 100) rfl dX12_takesOne_100 kd_100 h14 ?_
  refine ev_bipush 103 dX12_takesOne_103 kB_40 ?_
  refine ev_icT 105 123 dX12_takesOne_105 rfl (by decide) ?_
  refine ev_aload_n 123 dX12_takesOne_123 rfl (by decide) ?_
  refine ev_sipush 124 dX12_takesOne_124 kS_14836 ?_
  refine cv_12_254_12 (pc := 127) rfl dX12_takesOne_127 kd_100 (Nat.le_of_ble_eq_true rfl) ?_
  refine c_X12_isWord (fun _ => ?_) (fun h => absurd ⟨h14, h15⟩ h)
  refine ev_ifF 130 149 dX12_takesOne_130 rfl (by decide) ?_
  refine ev_iload_n 133 dX12_takesOne_133 rfl ?_
  refine ev_ifF 134 149 dX12_takesOne_134 rfl (by decide) ?_
  refine ev_aload_n 137 dX12_takesOne_137 rfl (by decide) ?_
  refine ev_iconst 138 dX12_takesOne_138 kI_4 ?_
  refine cv_12_251_12 (pc := 139) rfl dX12_takesOne_139 kd_100 (Nat.le_of_ble_eq_true rfl) ?_
  refine c_X12_opens_no hX hM ?_
  refine ev_ifT 142 149 dX12_takesOne_142 rfl (by decide) ?_
  refine ev_iconst 149 dX12_takesOne_149 kI_0 ?_
  refine ev_ireturn 150 dX12_takesOne_150 rfl rfl ?_
  exact k

theorem to_not1 {X : pmX} {d : Nat} {v : pmV} {P : Option Value → pmT → pmV → Prop} {LT : pmT} {bs op : Nat} {W cs : List Int32} (hX : pmRf v) (hM : MS bs W cs op v) (hl : W.length + cs.length < 160) (h5 : op < 5) (h14 : v.1 100 14 = 2) (h15 : v.1 100 15 = 14836) (K : ∀ v', Of (mC bs) v v' → MS bs (4 :: W) cs (op + 1) v' → P (some (.int 1)) (pmT0 ++ LT) v') : EvP X (d + 2) MX12_takesOne 0 [.ref 100, .int 1] [] (pmT0 ++ LT) v P := by
  refine ev_aload_n 0 dX12_takesOne_0 rfl (by decide) ?_
  refine gf_12_95 (x := 2) (pc := 1) rfl dX12_takesOne_1 kd_100 h14 ?_
  refine ev_iconst 4 dX12_takesOne_4 kI_1 ?_
  refine ev_icF 5 27 dX12_takesOne_5 rfl (by decide) ?_
  refine ev_aload_n 8 dX12_takesOne_8 rfl (by decide) ?_
  refine gf_12_95 (x := 2) (pc := 9) rfl dX12_takesOne_9 kd_100 h14 ?_
  refine ev_iconst 12 dX12_takesOne_12 kI_2 ?_
  refine ev_icF 13 75 dX12_takesOne_13 rfl (by decide) ?_
  refine ev_aload_n 16 dX12_takesOne_16 rfl (by decide) ?_
  refine ev_aload_n 17 dX12_takesOne_17 rfl (by decide) ?_
  refine gf_12_98 (x := 14836) (pc := 18) rfl dX12_takesOne_18 kd_100 h15 ?_
  refine cv_12_220_12 (pc := 21) rfl dX12_takesOne_21 kd_100 (Nat.le_of_ble_eq_true rfl) ?_
  refine c_X12_nameOf (fun u hu hv => absurd (wdN_inj 11 (by decide) u (by omega) hv) (by omega)) (fun _ => ?_)
  refine ev_ifT 24 75 dX12_takesOne_24 rfl (by decide) ?_
  refine ev_aload_n 75 dX12_takesOne_75 rfl (by decide) ?_
  refine gf_12_95 (x := 2) (pc := 76) rfl dX12_takesOne_76 kd_100 h14 ?_
  refine ev_bipush 79 dX12_takesOne_79 kB_45 ?_
  refine ev_icT 81 99 dX12_takesOne_81 rfl (by decide) ?_
  refine ev_aload_n 99 dX12_takesOne_99 rfl (by decide) ?_
  refine gf_12_95 (x := 2) (pc := 100) rfl dX12_takesOne_100 kd_100 h14 ?_
  refine ev_bipush 103 dX12_takesOne_103 kB_40 ?_
  refine ev_icT 105 123 dX12_takesOne_105 rfl (by decide) ?_
  refine ev_aload_n 123 dX12_takesOne_123 rfl (by decide) ?_
  refine ev_sipush 124 dX12_takesOne_124 kS_14836 ?_
  refine cv_12_254_12 (pc := 127) rfl dX12_takesOne_127 kd_100 (Nat.le_of_ble_eq_true rfl) ?_
  refine c_X12_isWord (fun _ => ?_) (fun h => absurd ⟨h14, h15⟩ h)
  refine ev_ifF 130 149 dX12_takesOne_130 rfl (by decide) ?_
  refine ev_iload_n 133 dX12_takesOne_133 rfl ?_
  refine ev_ifF 134 149 dX12_takesOne_134 rfl (by decide) ?_
  refine ev_aload_n 137 dX12_takesOne_137 rfl (by decide) ?_
  refine ev_iconst 138 dX12_takesOne_138 kI_4 ?_
  refine cv_12_251_12 (pc := 139) rfl dX12_takesOne_139 kd_100 (Nat.le_of_ble_eq_true rfl) ?_
  refine c_X12_opens hX hM h5 (by unfold okS; decide) hl (fun v1 hO1 hM1 => ?_)
  refine ev_ifF 142 149 dX12_takesOne_142 rfl (by decide) ?_
  refine ev_iconst 145 dX12_takesOne_145 kI_1 ?_
  refine ev_goto 146 150 dX12_takesOne_146 rfl ?_
  refine ev_ireturn 150 dX12_takesOne_150 rfl rfl ?_
  exact K _ hO1 hM1

theorem to_45_5 {X : pmX} {d : Nat} {v : pmV} {P : Option Value → pmT → pmV → Prop} {LT : pmT} {y : Int32} {bs : Nat} {W cs : List Int32} (hX : pmRf v) (hM : MS bs W cs 5 v) (h14 : v.1 100 14 = 45) (k : P (some (.int 0)) (pmT0 ++ LT) v) : EvP X (d + 2) MX12_takesOne 0 [.ref 100, .int y] [] (pmT0 ++ LT) v P := by
  refine ev_aload_n 0 dX12_takesOne_0 rfl (by decide) ?_
  refine gf_12_95 (x := 45) (pc := 1) rfl dX12_takesOne_1 kd_100 h14 ?_
  refine ev_iconst 4 dX12_takesOne_4 kI_1 ?_
  refine ev_icF 5 27 dX12_takesOne_5 rfl (by decide) ?_
  refine ev_aload_n 8 dX12_takesOne_8 rfl (by decide) ?_
  refine gf_12_95 (x := 45) (pc := 9) rfl dX12_takesOne_9 kd_100 h14 ?_
  refine ev_iconst 12 dX12_takesOne_12 kI_2 ?_
  refine ev_icT 13 75 dX12_takesOne_13 rfl (by decide) ?_
  refine ev_aload_n 75 dX12_takesOne_75 rfl (by decide) ?_
  refine gf_12_95 (x := 45) (pc := 76) rfl dX12_takesOne_76 kd_100 h14 ?_
  refine ev_bipush 79 dX12_takesOne_79 kB_45 ?_
  refine ev_icF 81 99 dX12_takesOne_81 rfl (by decide) ?_
  refine ev_aload_n 84 dX12_takesOne_84 rfl (by decide) ?_
  refine ev_bipush 85 dX12_takesOne_85 kB_10 ?_
  refine cv_12_251_12 (pc := 87) rfl dX12_takesOne_87 kd_100 (Nat.le_of_ble_eq_true rfl) ?_
  refine c_X12_opens_no hX hM ?_
  refine ev_ifT 90 97 dX12_takesOne_90 rfl (by decide) ?_
  refine ev_iconst 97 dX12_takesOne_97 kI_0 ?_
  refine ev_ireturn 98 dX12_takesOne_98 rfl rfl ?_
  exact k

theorem to_45 {X : pmX} {d : Nat} {v : pmV} {P : Option Value → pmT → pmV → Prop} {LT : pmT} {y : Int32} {bs op : Nat} {W cs : List Int32} (hX : pmRf v) (hM : MS bs W cs op v) (hl : W.length + cs.length < 160) (h5 : op < 5) (h14 : v.1 100 14 = 45) (K : ∀ v', Of (mC bs) v v' → MS bs (10 :: W) cs (op + 1) v' → P (some (.int 1)) (pmT0 ++ LT) v') : EvP X (d + 2) MX12_takesOne 0 [.ref 100, .int y] [] (pmT0 ++ LT) v P := by
  refine ev_aload_n 0 dX12_takesOne_0 rfl (by decide) ?_
  refine gf_12_95 (x := 45) (pc := 1) rfl dX12_takesOne_1 kd_100 h14 ?_
  refine ev_iconst 4 dX12_takesOne_4 kI_1 ?_
  refine ev_icF 5 27 dX12_takesOne_5 rfl (by decide) ?_
  refine ev_aload_n 8 dX12_takesOne_8 rfl (by decide) ?_
  refine gf_12_95 (x := 45) (pc := 9) rfl dX12_takesOne_9 kd_100 h14 ?_
  refine ev_iconst 12 dX12_takesOne_12 kI_2 ?_
  refine ev_icT 13 75 dX12_takesOne_13 rfl (by decide) ?_
  refine ev_aload_n 75 dX12_takesOne_75 rfl (by decide) ?_
  refine gf_12_95 (x := 45) (pc := 76) rfl dX12_takesOne_76 kd_100 h14 ?_
  refine ev_bipush 79 dX12_takesOne_79 kB_45 ?_
  refine ev_icF 81 99 dX12_takesOne_81 rfl (by decide) ?_
  refine ev_aload_n 84 dX12_takesOne_84 rfl (by decide) ?_
  refine ev_bipush 85 dX12_takesOne_85 kB_10 ?_
  refine cv_12_251_12 (pc := 87) rfl dX12_takesOne_87 kd_100 (Nat.le_of_ble_eq_true rfl) ?_
  refine c_X12_opens hX hM h5 (by unfold okS; decide) hl (fun v1 hO1 hM1 => ?_)
  refine ev_ifF 90 97 dX12_takesOne_90 rfl (by decide) ?_
  refine ev_iconst 93 dX12_takesOne_93 kI_1 ?_
  refine ev_goto 94 98 dX12_takesOne_94 rfl ?_
  refine ev_ireturn 98 dX12_takesOne_98 rfl rfl ?_
  exact K _ hO1 hM1

theorem to_40_5 {X : pmX} {d : Nat} {v : pmV} {P : Option Value → pmT → pmV → Prop} {LT : pmT} {y : Int32} {bs : Nat} {W cs : List Int32} (hX : pmRf v) (hM : MS bs W cs 5 v) (h14 : v.1 100 14 = 40) (k : P (some (.int 0)) (pmT0 ++ LT) v) : EvP X (d + 2) MX12_takesOne 0 [.ref 100, .int y] [] (pmT0 ++ LT) v P := by
  refine ev_aload_n 0 dX12_takesOne_0 rfl (by decide) ?_
  refine gf_12_95 (x := 40) (pc := 1) rfl dX12_takesOne_1 kd_100 h14 ?_
  refine ev_iconst 4 dX12_takesOne_4 kI_1 ?_
  refine ev_icF 5 27 dX12_takesOne_5 rfl (by decide) ?_
  refine ev_aload_n 8 dX12_takesOne_8 rfl (by decide) ?_
  refine gf_12_95 (x := 40) (pc := 9) rfl dX12_takesOne_9 kd_100 h14 ?_
  refine ev_iconst 12 dX12_takesOne_12 kI_2 ?_
  refine ev_icT 13 75 dX12_takesOne_13 rfl (by decide) ?_
  refine ev_aload_n 75 dX12_takesOne_75 rfl (by decide) ?_
  refine gf_12_95 (x := 40) (pc := 76) rfl dX12_takesOne_76 kd_100 h14 ?_
  refine ev_bipush 79 dX12_takesOne_79 kB_45 ?_
  refine ev_icT 81 99 dX12_takesOne_81 rfl (by decide) ?_
  refine ev_aload_n 99 dX12_takesOne_99 rfl (by decide) ?_
  refine gf_12_95 (x := 40) (pc := 100) rfl dX12_takesOne_100 kd_100 h14 ?_
  refine ev_bipush 103 dX12_takesOne_103 kB_40 ?_
  refine ev_icF 105 123 dX12_takesOne_105 rfl (by decide) ?_
  refine ev_aload_n 108 dX12_takesOne_108 rfl (by decide) ?_
  refine ev_bipush 109 dX12_takesOne_109 kB_20 ?_
  refine cv_12_251_12 (pc := 111) rfl dX12_takesOne_111 kd_100 (Nat.le_of_ble_eq_true rfl) ?_
  refine c_X12_opens_no hX hM ?_
  refine ev_ifT 114 121 dX12_takesOne_114 rfl (by decide) ?_
  refine ev_iconst 121 dX12_takesOne_121 kI_0 ?_
  refine ev_ireturn 122 dX12_takesOne_122 rfl rfl ?_
  exact k

theorem to_40 {X : pmX} {d : Nat} {v : pmV} {P : Option Value → pmT → pmV → Prop} {LT : pmT} {y : Int32} {bs op : Nat} {W cs : List Int32} (hX : pmRf v) (hM : MS bs W cs op v) (hl : W.length + cs.length < 160) (h5 : op < 5) (h14 : v.1 100 14 = 40) (K : ∀ v', Of (mC bs) v v' → MS bs (20 :: W) cs (op + 1) v' → P (some (.int 1)) (pmT0 ++ LT) v') : EvP X (d + 2) MX12_takesOne 0 [.ref 100, .int y] [] (pmT0 ++ LT) v P := by
  refine ev_aload_n 0 dX12_takesOne_0 rfl (by decide) ?_
  refine gf_12_95 (x := 40) (pc := 1) rfl dX12_takesOne_1 kd_100 h14 ?_
  refine ev_iconst 4 dX12_takesOne_4 kI_1 ?_
  refine ev_icF 5 27 dX12_takesOne_5 rfl (by decide) ?_
  refine ev_aload_n 8 dX12_takesOne_8 rfl (by decide) ?_
  refine gf_12_95 (x := 40) (pc := 9) rfl dX12_takesOne_9 kd_100 h14 ?_
  refine ev_iconst 12 dX12_takesOne_12 kI_2 ?_
  refine ev_icT 13 75 dX12_takesOne_13 rfl (by decide) ?_
  refine ev_aload_n 75 dX12_takesOne_75 rfl (by decide) ?_
  refine gf_12_95 (x := 40) (pc := 76) rfl dX12_takesOne_76 kd_100 h14 ?_
  refine ev_bipush 79 dX12_takesOne_79 kB_45 ?_
  refine ev_icT 81 99 dX12_takesOne_81 rfl (by decide) ?_
  refine ev_aload_n 99 dX12_takesOne_99 rfl (by decide) ?_
  refine gf_12_95 (x := 40) (pc := 100) rfl dX12_takesOne_100 kd_100 h14 ?_
  refine ev_bipush 103 dX12_takesOne_103 kB_40 ?_
  refine ev_icF 105 123 dX12_takesOne_105 rfl (by decide) ?_
  refine ev_aload_n 108 dX12_takesOne_108 rfl (by decide) ?_
  refine ev_bipush 109 dX12_takesOne_109 kB_20 ?_
  refine cv_12_251_12 (pc := 111) rfl dX12_takesOne_111 kd_100 (Nat.le_of_ble_eq_true rfl) ?_
  refine c_X12_opens hX hM h5 (by unfold okS; decide) hl (fun v1 hO1 hM1 => ?_)
  refine ev_ifF 114 121 dX12_takesOne_114 rfl (by decide) ?_
  refine ev_iconst 117 dX12_takesOne_117 kI_1 ?_
  refine ev_goto 118 122 dX12_takesOne_118 rfl ?_
  refine ev_ireturn 122 dX12_takesOne_122 rfl rfl ?_
  exact K _ hO1 hM1

theorem to_no {X : pmX} {d : Nat} {v : pmV} {P : Option Value → pmT → pmV → Prop} {LT : pmT} {y : Int32} {t : Int32} (h14 : v.1 100 14 = t) (h1 : t ≠ 1) (h2 : t ≠ 2) (h45 : t ≠ 45) (h40 : t ≠ 40) (k : P (some (.int 0)) (pmT0 ++ LT) v) : EvP X (d + 2) MX12_takesOne 0 [.ref 100, .int y] [] (pmT0 ++ LT) v P := by
  refine ev_aload_n 0 dX12_takesOne_0 rfl (by decide) ?_
  refine gf_12_95 (x := t) (pc := 1) rfl dX12_takesOne_1 kd_100 h14 ?_
  refine ev_iconst 4 dX12_takesOne_4 kI_1 ?_
  refine ev_ic_eq 5 27 dX12_takesOne_5 rfl (fun c_5 => absurd c_5 h1) (fun c_5 => ?_)
  refine ev_aload_n 8 dX12_takesOne_8 rfl (by decide) ?_
  refine gf_12_95 (x := t) (pc := 9) rfl dX12_takesOne_9 kd_100 h14 ?_
  refine ev_iconst 12 dX12_takesOne_12 kI_2 ?_
  refine ev_ic_ne 13 75 dX12_takesOne_13 rfl (fun c_13 => ?_) (fun c_13 => absurd c_13 h2)
  refine ev_aload_n 75 dX12_takesOne_75 rfl (by decide) ?_
  refine gf_12_95 (x := t) (pc := 76) rfl dX12_takesOne_76 kd_100 h14 ?_
  refine ev_bipush 79 dX12_takesOne_79 kB_45 ?_
  refine ev_ic_ne 81 99 dX12_takesOne_81 rfl (fun c_81 => ?_) (fun c_81 => absurd c_81 h45)
  refine ev_aload_n 99 dX12_takesOne_99 rfl (by decide) ?_
  refine gf_12_95 (x := t) (pc := 100) rfl dX12_takesOne_100 kd_100 h14 ?_
  refine ev_bipush 103 dX12_takesOne_103 kB_40 ?_
  refine ev_ic_ne 105 123 dX12_takesOne_105 rfl (fun c_105 => ?_) (fun c_105 => absurd c_105 h40)
  refine ev_aload_n 123 dX12_takesOne_123 rfl (by decide) ?_
  refine ev_sipush 124 dX12_takesOne_124 kS_14836 ?_
  refine cv_12_254_12 (pc := 127) rfl dX12_takesOne_127 kd_100 (Nat.le_of_ble_eq_true rfl) ?_
  refine c_X12_isWord (fun h => absurd h (fun h => h2 (h14.symm.trans h.1))) (fun _ => ?_)
  refine ev_ifT 130 149 dX12_takesOne_130 rfl (by decide) ?_
  refine ev_iconst 149 dX12_takesOne_149 kI_0 ?_
  refine ev_ireturn 150 dX12_takesOne_150 rfl rfl ?_
  exact k

theorem c_X12_takesOne {X : pmX} {d : Nat} {v : pmV} {P : Option Value → pmT → pmV → Prop} {LT : pmT} {B : Nat → Int32} {z p bs op : Nat} {W cs : List Int32} {y : Int32} {m : Bool} (hy : y = if m then 1 else 0) (hX : pmRf v) (hM : MS bs W cs op v) (hL : LKP B z p v) (h5 : op ≤ 5) (hl : W.length + cs.length < 160) (k0 : rOne (cP B z p) (xP B z p) m (W, cs, op) = none → P (some (.int 0)) (pmT0 ++ LT) v) (k1 : ∀ q w v', rOne (cP B z p) (xP B z p) m (W, cs, op) = some (q, w) → Of (mC bs) v v' → MS bs q.1 q.2.1 q.2.2 v' → P (some (.int (if w then 1 else 2))) (pmT0 ++ LT) v') : EvP X (d + 2) MX12_takesOne 0 [.ref 100, .int y] [] (pmT0 ++ LT) v P := by
  have hNum := num_ok (B := B) (z := z) (p := p)
  rcases hL.cs with ⟨hc, ht⟩ | ⟨hc, ht⟩ | ⟨hc, ht, hw⟩ | ⟨ht, w, hw, hc, hx, hd⟩ | ⟨hs, ht⟩
  · rw [hc] at k0
    exact to_no ht (by decide) (by decide) (by decide) (by decide) (k0 rfl)
  · rw [hc] at k0
    exact to_no ht (by decide) (by decide) (by decide) (by decide) (k0 rfl)
  · rw [hc] at k1
    exact to_num hX hM hl h5 ht hw (hNum hc) (fun v' hO hM' => k1 _ _ v' rfl hO hM')
  · by_cases h6 : w < 6
    · rw [hc, show tkW w = 3 from if_pos h6] at k1
      exact to_nam hX hM hl h5 ht hd h6 hx (fun v' hO hM' => k1 _ _ v' rfl hO hM')
    · by_cases h11 : w = 11
      · subst h11
        rw [hc, show tkW 11 = 9 from rfl] at k0 k1
        cases m with
        | false => rw [hy]; exact to_not0 ht hd (k0 rfl)
        | true =>
          rw [hy]
          by_cases h : op = 5
          · subst h; exact to_not5 hX hM ht hd (k0 rfl)
          · exact to_not1 hX hM hl (by omega) ht hd (fun v' hO hM' => k1 (4 :: W, cs, op + 1) true v' (by unfold rOne; rw [if_neg (by decide), if_neg (by decide), if_neg (by decide), if_pos (by decide), if_neg h]) hO hM')
      · have hk : rOne (cP B z p) (xP B z p) m (W, cs, op) = none := by
          rw [hc]
          have : w = 6 ∨ w = 7 ∨ w = 8 ∨ w = 9 ∨ w = 10 := by omega
          rcases this with rfl | rfl | rfl | rfl | rfl <;> rfl
        exact to_key ht hd (by omega) hw h11 (k0 hk)
  · rw [← ht] at hs k0 k1
    by_cases h45 : v.1 100 14 = 45
    · rw [h45] at k0 k1
      by_cases h : op = 5
      · subst h; exact to_45_5 hX hM h45 (k0 rfl)
      · exact to_45 hX hM hl (by omega) h45 (fun v' hO hM' => k1 (10 :: W, cs, op + 1) true v' (by unfold rOne; rw [if_neg (by decide), if_pos (by decide), if_neg h]) hO hM')
    · by_cases h40 : v.1 100 14 = 40
      · rw [h40] at k0 k1
        by_cases h : op = 5
        · subst h; exact to_40_5 hX hM h40 (k0 rfl)
        · exact to_40 hX hM hl (by omega) h40 (fun v' hO hM' => k1 (20 :: W, cs, op + 1) true v' (by unfold rOne; rw [if_neg (by decide), if_neg (by decide), if_pos (by decide), if_neg h]) hO hM')
      · have hk : rOne (v.1 100 14) (xP B z p) m (W, cs, op) = none ∧ v.1 100 14 ≠ 1 ∧ v.1 100 14 ≠ 2 := by
          generalize v.1 100 14 = t at *
          rcases hs with rfl | rfl | rfl | rfl | rfl | rfl | rfl | rfl <;> first | exact ⟨rfl, by decide, by decide⟩ | exact absurd rfl h45 | exact absurd rfl h40
        exact to_no rfl hk.2.1 hk.2.2 h45 h40 (k0 hk.1)
