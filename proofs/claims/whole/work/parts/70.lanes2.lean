/-! lanes: the reference, both sides -/
theorem c_X11_lanes_1 {X : pmX} {d : Nat} {v : pmV} {P : Option Value → pmT → pmV → Prop} {LT : pmT} {a b c k : Int32} (hX : pmRf v) (h1 : ¬ (0 ≤ a ∧ a ≤ 3)) (K : P (some (.int (-2))) (pmT0 ++ LT) v) : EvP X (d + 8) MX11_lanes 0 [.ref 32, .int a, .int b, .int c, .int k, pmJ, pmJ, pmJ, pmJ] [] (pmT0 ++ LT) v P := by
  refine ev_aload_n 0 dX11_lanes_0 rfl (by decide) ?_
  refine ev_iload_n 1 dX11_lanes_1 rfl ?_
  refine cv_11_100_11 (pc := 2) rfl dX11_lanes_2 kd_32 (Nat.le_of_ble_eq_true rfl) ?_
  refine c_X11_sheetOf hX (fun t ht hq => absurd (show 0 ≤ a ∧ a ≤ 3 from hq ▸ ⟨nI_pos' (by omega), nI_le (a := t) (b := 3) (by omega) (by omega)⟩) h1) (fun _ => ?_)
  refine ev_astoreN (ls' := [.ref 32, .int a, .int b, .int c, .int k, .null, pmJ, pmJ, pmJ]) 5 dX11_lanes_5 (Nat.le_of_ble_eq_true rfl) rfl ?_
  refine ev_aloadN 7 dX11_lanes_7 rfl ?_
  refine ev_ifnullN 9 32 dX11_lanes_9 rfl ?_
  refine ev_bipush 32 dX11_lanes_32 kB_m2 ?_
  refine ev_ireturn 34 dX11_lanes_34 rfl rfl ?_
  exact K

theorem c_X11_lanes_2 {X : pmX} {d : Nat} {v : pmV} {P : Option Value → pmT → pmV → Prop} {LT : pmT} {b c k : Int32} {t : Nat} (hX : pmRf v) (ht : t < 4) (hb : ¬ (0 ≤ b ∧ b ≤ 2)) (K : P (some (.int (-2))) (pmT0 ++ LT) v) : EvP X (d + 8) MX11_lanes 0 [.ref 32, .int (nI t), .int b, .int c, .int k, pmJ, pmJ, pmJ, pmJ] [] (pmT0 ++ LT) v P := by
  refine ev_aload_n 0 dX11_lanes_0 rfl (by decide) ?_
  refine ev_iload_n 1 dX11_lanes_1 rfl ?_
  refine cv_11_100_11 (pc := 2) rfl dX11_lanes_2 kd_32 (Nat.le_of_ble_eq_true rfl) ?_
  refine c_X11_sheetOf hX (fun u hu hq => ?_) (fun hq => absurd ⟨nI_pos' (by omega), nI_le (a := t) (b := 3) (by omega) (by omega)⟩ hq)
  obtain rfl : t = u := (nI_eq (by omega) (by omega)).mp hq
  refine ev_astore (ls' := [.ref 32, .int (nI t), .int b, .int c, .int k, .ref (92 + 2 * t), pmJ, pmJ, pmJ]) 5 dX11_lanes_5 (Nat.le_of_ble_eq_true rfl) (by omega) rfl ?_
  refine ev_aload 7 dX11_lanes_7 rfl (by omega) ?_
  refine ev_ifnull 9 dX11_lanes_9 (by omega) ?_
  refine ev_iload_n 12 dX11_lanes_12 rfl ?_
  refine ev_iconst 13 dX11_lanes_13 kI_0 ?_
  refine ev_iconst 14 dX11_lanes_14 kI_2 ?_
  refine cs_11_74 (pc := 15) rfl dX11_lanes_15 (Nat.le_of_ble_eq_true rfl) ?_
  refine c_X11_isIn (fun h_15 => absurd h_15 hb) (fun h_15 => ?_)
  refine ev_ifT 18 32 dX11_lanes_18 rfl (by decide) ?_
  refine ev_bipush 32 dX11_lanes_32 kB_m2 ?_
  refine ev_ireturn 34 dX11_lanes_34 rfl rfl ?_
  exact K

theorem c_X11_lanes_3 {X : pmX} {d : Nat} {v : pmV} {P : Option Value → pmT → pmV → Prop} {LT : pmT} {b c k : Int32} {t : Nat} (hX : pmRf v) (ht : t < 4) (hb : 0 ≤ b ∧ b ≤ 2) (hk : ¬ (0 ≤ k ∧ k ≤ 8)) (K : P (some (.int (-2))) (pmT0 ++ LT) v) : EvP X (d + 8) MX11_lanes 0 [.ref 32, .int (nI t), .int b, .int c, .int k, pmJ, pmJ, pmJ, pmJ] [] (pmT0 ++ LT) v P := by
  refine ev_aload_n 0 dX11_lanes_0 rfl (by decide) ?_
  refine ev_iload_n 1 dX11_lanes_1 rfl ?_
  refine cv_11_100_11 (pc := 2) rfl dX11_lanes_2 kd_32 (Nat.le_of_ble_eq_true rfl) ?_
  refine c_X11_sheetOf hX (fun u hu hq => ?_) (fun hq => absurd ⟨nI_pos' (by omega), nI_le (a := t) (b := 3) (by omega) (by omega)⟩ hq)
  obtain rfl : t = u := (nI_eq (by omega) (by omega)).mp hq
  refine ev_astore (ls' := [.ref 32, .int (nI t), .int b, .int c, .int k, .ref (92 + 2 * t), pmJ, pmJ, pmJ]) 5 dX11_lanes_5 (Nat.le_of_ble_eq_true rfl) (by omega) rfl ?_
  refine ev_aload 7 dX11_lanes_7 rfl (by omega) ?_
  refine ev_ifnull 9 dX11_lanes_9 (by omega) ?_
  refine ev_iload_n 12 dX11_lanes_12 rfl ?_
  refine ev_iconst 13 dX11_lanes_13 kI_0 ?_
  refine ev_iconst 14 dX11_lanes_14 kI_2 ?_
  refine cs_11_74 (pc := 15) rfl dX11_lanes_15 (Nat.le_of_ble_eq_true rfl) ?_
  refine c_X11_isIn (fun h_15 => ?_) (fun h_15 => absurd hb h_15)
  refine ev_ifF 18 32 dX11_lanes_18 rfl (by decide) ?_
  refine ev_iload 21 dX11_lanes_21 rfl ?_
  refine ev_iconst 23 dX11_lanes_23 kI_0 ?_
  refine ev_bipush 24 dX11_lanes_24 kB_8 ?_
  refine cs_11_74 (pc := 26) rfl dX11_lanes_26 (Nat.le_of_ble_eq_true rfl) ?_
  refine c_X11_isIn (fun h_26 => absurd h_26 hk) (fun h_26 => ?_)
  refine ev_ifF 29 35 dX11_lanes_29 rfl (by decide) ?_
  refine ev_bipush 32 dX11_lanes_32 kB_m2 ?_
  refine ev_ireturn 34 dX11_lanes_34 rfl rfl ?_
  exact K

theorem c_X11_lanes_4 {X : pmX} {d : Nat} {v : pmV} {P : Option Value → pmT → pmV → Prop} {LT : pmT} {b c k : Int32} {t : Nat} (hX : pmRf v) (ht : t < 4) (hb : 0 ≤ b ∧ b ≤ 2) (hk : 0 ≤ k ∧ k ≤ 8) (h2 : v.1 (92 + 2 * t) 0 = -1) (K : P (some (.int (-11))) (pmT0 ++ LT) v) : EvP X (d + 8) MX11_lanes 0 [.ref 32, .int (nI t), .int b, .int c, .int k, pmJ, pmJ, pmJ, pmJ] [] (pmT0 ++ LT) v P := by
  refine ev_aload_n 0 dX11_lanes_0 rfl (by decide) ?_
  refine ev_iload_n 1 dX11_lanes_1 rfl ?_
  refine cv_11_100_11 (pc := 2) rfl dX11_lanes_2 kd_32 (Nat.le_of_ble_eq_true rfl) ?_
  refine c_X11_sheetOf hX (fun u hu hq => ?_) (fun hq => absurd ⟨nI_pos' (by omega), nI_le (a := t) (b := 3) (by omega) (by omega)⟩ hq)
  obtain rfl : t = u := (nI_eq (by omega) (by omega)).mp hq
  refine ev_astore (ls' := [.ref 32, .int (nI t), .int b, .int c, .int k, .ref (92 + 2 * t), pmJ, pmJ, pmJ]) 5 dX11_lanes_5 (Nat.le_of_ble_eq_true rfl) (by omega) rfl ?_
  refine ev_aload 7 dX11_lanes_7 rfl (by omega) ?_
  refine ev_ifnull 9 dX11_lanes_9 (by omega) ?_
  refine ev_iload_n 12 dX11_lanes_12 rfl ?_
  refine ev_iconst 13 dX11_lanes_13 kI_0 ?_
  refine ev_iconst 14 dX11_lanes_14 kI_2 ?_
  refine cs_11_74 (pc := 15) rfl dX11_lanes_15 (Nat.le_of_ble_eq_true rfl) ?_
  refine c_X11_isIn (fun h_15 => ?_) (fun h_15 => absurd hb h_15)
  refine ev_ifF 18 32 dX11_lanes_18 rfl (by decide) ?_
  refine ev_iload 21 dX11_lanes_21 rfl ?_
  refine ev_iconst 23 dX11_lanes_23 kI_0 ?_
  refine ev_bipush 24 dX11_lanes_24 kB_8 ?_
  refine cs_11_74 (pc := 26) rfl dX11_lanes_26 (Nat.le_of_ble_eq_true rfl) ?_
  refine c_X11_isIn (fun h_26 => ?_) (fun h_26 => absurd hk h_26)
  refine ev_ifT 29 35 dX11_lanes_29 rfl (by decide) ?_
  refine ev_aload 35 dX11_lanes_35 rfl (by omega) ?_
  refine cv_11_104_6 (pc := 37) rfl dX11_lanes_37 (kd_sheet (by omega)) (Nat.le_of_ble_eq_true rfl) ?_
  refine c_X6_isMissing ht (fun _ => ?_) (fun h_m => absurd h2 h_m)
  refine ev_ifT 40 55 dX11_lanes_40 rfl (by decide) ?_
  refine ev_aload 55 dX11_lanes_55 rfl (by omega) ?_
  refine cv_11_104_6 (pc := 57) rfl dX11_lanes_57 (kd_sheet (by omega)) (Nat.le_of_ble_eq_true rfl) ?_
  refine c_X6_isMissing ht (fun _ => ?_) (fun h_m => absurd h2 h_m)
  refine ev_ifF 60 66 dX11_lanes_60 rfl (by decide) ?_
  refine ev_bipush 63 dX11_lanes_63 kB_m11 ?_
  refine ev_ireturn 65 dX11_lanes_65 rfl rfl ?_
  exact K

theorem c_X11_lanes_5 {X : pmX} {d : Nat} {v : pmV} {P : Option Value → pmT → pmV → Prop} {LT : pmT} {b c k : Int32} {t : Nat} (hX : pmRf v) (ht : t < 4) (hb : 0 ≤ b ∧ b ≤ 2) (hk : 0 ≤ k ∧ k ≤ 8) (h2 : ¬ v.1 (92 + 2 * t) 0 = -1) (h5 : ¬ v.1 (92 + 2 * t) 0 = b) (K : P (some (.int (-13))) (pmT0 ++ LT) v) : EvP X (d + 8) MX11_lanes 0 [.ref 32, .int (nI t), .int b, .int c, .int k, pmJ, pmJ, pmJ, pmJ] [] (pmT0 ++ LT) v P := by
  refine ev_aload_n 0 dX11_lanes_0 rfl (by decide) ?_
  refine ev_iload_n 1 dX11_lanes_1 rfl ?_
  refine cv_11_100_11 (pc := 2) rfl dX11_lanes_2 kd_32 (Nat.le_of_ble_eq_true rfl) ?_
  refine c_X11_sheetOf hX (fun u hu hq => ?_) (fun hq => absurd ⟨nI_pos' (by omega), nI_le (a := t) (b := 3) (by omega) (by omega)⟩ hq)
  obtain rfl : t = u := (nI_eq (by omega) (by omega)).mp hq
  refine ev_astore (ls' := [.ref 32, .int (nI t), .int b, .int c, .int k, .ref (92 + 2 * t), pmJ, pmJ, pmJ]) 5 dX11_lanes_5 (Nat.le_of_ble_eq_true rfl) (by omega) rfl ?_
  refine ev_aload 7 dX11_lanes_7 rfl (by omega) ?_
  refine ev_ifnull 9 dX11_lanes_9 (by omega) ?_
  refine ev_iload_n 12 dX11_lanes_12 rfl ?_
  refine ev_iconst 13 dX11_lanes_13 kI_0 ?_
  refine ev_iconst 14 dX11_lanes_14 kI_2 ?_
  refine cs_11_74 (pc := 15) rfl dX11_lanes_15 (Nat.le_of_ble_eq_true rfl) ?_
  refine c_X11_isIn (fun h_15 => ?_) (fun h_15 => absurd hb h_15)
  refine ev_ifF 18 32 dX11_lanes_18 rfl (by decide) ?_
  refine ev_iload 21 dX11_lanes_21 rfl ?_
  refine ev_iconst 23 dX11_lanes_23 kI_0 ?_
  refine ev_bipush 24 dX11_lanes_24 kB_8 ?_
  refine cs_11_74 (pc := 26) rfl dX11_lanes_26 (Nat.le_of_ble_eq_true rfl) ?_
  refine c_X11_isIn (fun h_26 => ?_) (fun h_26 => absurd hk h_26)
  refine ev_ifT 29 35 dX11_lanes_29 rfl (by decide) ?_
  refine ev_aload 35 dX11_lanes_35 rfl (by omega) ?_
  refine cv_11_104_6 (pc := 37) rfl dX11_lanes_37 (kd_sheet (by omega)) (Nat.le_of_ble_eq_true rfl) ?_
  refine c_X6_isMissing ht (fun h_m => absurd h_m h2) (fun _ => ?_)
  refine ev_ifF 40 55 dX11_lanes_40 rfl (by decide) ?_
  refine ev_aload 43 dX11_lanes_43 rfl (by omega) ?_
  refine gf_11_246 (x := v.1 (92 + 2 * t) 0) (pc := 45) rfl dX11_lanes_45 (kd_sheet (by omega)) rfl ?_
  refine ev_iload_n 48 dX11_lanes_48 rfl ?_
  refine ev_ic_eq 49 55 dX11_lanes_49 rfl (fun c_49 => absurd c_49 h5) (fun c_49 => ?_)
  refine ev_bipush 52 dX11_lanes_52 kB_m13 ?_
  refine ev_ireturn 54 dX11_lanes_54 rfl rfl ?_
  exact K

theorem c_X11_lanes_0 {X : pmX} {d : Nat} {v : pmV} {P : Option Value → pmT → pmV → Prop} {LT : pmT} {b c : Int32} {t : Nat} (hX : pmRf v) (ht : t < 4) (hb : 0 ≤ b ∧ b ≤ 2) (h2 : ¬ v.1 (92 + 2 * t) 0 = -1) (h5 : v.1 (92 + 2 * t) 0 = b) (K : P (some (.int 0)) (pmT0 ++ LT) v) : EvP X (d + 8) MX11_lanes 0 [.ref 32, .int (nI t), .int b, .int c, .int 0, pmJ, pmJ, pmJ, pmJ] [] (pmT0 ++ LT) v P := by
  refine ev_aload_n 0 dX11_lanes_0 rfl (by decide) ?_
  refine ev_iload_n 1 dX11_lanes_1 rfl ?_
  refine cv_11_100_11 (pc := 2) rfl dX11_lanes_2 kd_32 (Nat.le_of_ble_eq_true rfl) ?_
  refine c_X11_sheetOf hX (fun u hu hq => ?_) (fun hq => absurd ⟨nI_pos' (by omega), nI_le (a := t) (b := 3) (by omega) (by omega)⟩ hq)
  obtain rfl : t = u := (nI_eq (by omega) (by omega)).mp hq
  refine ev_astore (ls' := [.ref 32, .int (nI t), .int b, .int c, .int 0, .ref (92 + 2 * t), pmJ, pmJ, pmJ]) 5 dX11_lanes_5 (Nat.le_of_ble_eq_true rfl) (by omega) rfl ?_
  refine ev_aload 7 dX11_lanes_7 rfl (by omega) ?_
  refine ev_ifnull 9 dX11_lanes_9 (by omega) ?_
  refine ev_iload_n 12 dX11_lanes_12 rfl ?_
  refine ev_iconst 13 dX11_lanes_13 kI_0 ?_
  refine ev_iconst 14 dX11_lanes_14 kI_2 ?_
  refine cs_11_74 (pc := 15) rfl dX11_lanes_15 (Nat.le_of_ble_eq_true rfl) ?_
  refine c_X11_isIn (fun h_15 => ?_) (fun h_15 => absurd hb h_15)
  refine ev_ifF 18 32 dX11_lanes_18 rfl (by decide) ?_
  refine ev_iload 21 dX11_lanes_21 rfl ?_
  refine ev_iconst 23 dX11_lanes_23 kI_0 ?_
  refine ev_bipush 24 dX11_lanes_24 kB_8 ?_
  refine cs_11_74 (pc := 26) rfl dX11_lanes_26 (Nat.le_of_ble_eq_true rfl) ?_
  refine c_X11_isIn (fun h_26 => ?_) (fun h_26 => absurd (show (0 : Int32) ≤ 0 ∧ (0 : Int32) ≤ 8 by decide) h_26)
  refine ev_ifT 29 35 dX11_lanes_29 rfl (by decide) ?_
  refine ev_aload 35 dX11_lanes_35 rfl (by omega) ?_
  refine cv_11_104_6 (pc := 37) rfl dX11_lanes_37 (kd_sheet (by omega)) (Nat.le_of_ble_eq_true rfl) ?_
  refine c_X6_isMissing ht (fun h_m => absurd h_m h2) (fun _ => ?_)
  refine ev_ifF 40 55 dX11_lanes_40 rfl (by decide) ?_
  refine ev_aload 43 dX11_lanes_43 rfl (by omega) ?_
  refine gf_11_246 (x := v.1 (92 + 2 * t) 0) (pc := 45) rfl dX11_lanes_45 (kd_sheet (by omega)) rfl ?_
  refine ev_iload_n 48 dX11_lanes_48 rfl ?_
  refine ev_ic_eq 49 55 dX11_lanes_49 rfl (fun c_49 => ?_) (fun c_49 => absurd h5 c_49)
  refine ev_aload 55 dX11_lanes_55 rfl (by omega) ?_
  refine cv_11_104_6 (pc := 57) rfl dX11_lanes_57 (kd_sheet (by omega)) (Nat.le_of_ble_eq_true rfl) ?_
  refine c_X6_isMissing ht (fun h_m => absurd h_m h2) (fun _ => ?_)
  refine ev_ifT 60 66 dX11_lanes_60 rfl (by decide) ?_
  refine ev_iconst 66 dX11_lanes_66 kI_0 ?_
  refine ev_istore (ls' := [.ref 32, .int (nI t), .int b, .int c, .int 0, .ref (92 + 2 * t), .int 0, pmJ, pmJ]) 67 dX11_lanes_67 (Nat.le_of_ble_eq_true rfl) rfl ?_
  refine ev_iconst 69 dX11_lanes_69 kI_0 ?_
  refine ev_istore (ls' := [.ref 32, .int (nI t), .int b, .int c, .int 0, .ref (92 + 2 * t), .int 0, .int 0, pmJ]) 70 dX11_lanes_70 (Nat.le_of_ble_eq_true rfl) rfl ?_
  refine ev_iload 72 dX11_lanes_72 rfl ?_
  refine ev_iload 74 dX11_lanes_74 rfl ?_
  refine ev_icT 76 142 dX11_lanes_76 rfl (by decide) ?_
  refine ev_iload 142 dX11_lanes_142 rfl ?_
  refine ev_ireturn 144 dX11_lanes_144 rfl rfl ?_
  exact K

theorem c_X11_lanes_o {X : pmX} {d : Nat} {v : pmV} {P : Option Value → pmT → pmV → Prop} {LT : pmT} {b c : Int32} {t N : Nat} (hX : pmRf v) (ht : t < 4) (hb : 0 ≤ b ∧ b ≤ 2) (hk : 0 ≤ nI N ∧ nI N ≤ 8) (hN8 : N ≤ 8) (h2 : ¬ v.1 (92 + 2 * t) 0 = -1) (h5 : v.1 (92 + 2 * t) 0 = b) (hN1 : 1 ≤ N) (hno : ¬ (0 ≤ c + 0 ∧ c + 0 ≤ v.1 (92 + 2 * t) 1 ∧ 0 ≤ (3 : Int32) ∧ 3 ≤ v.1 (92 + 2 * t) 1 - (c + 0))) (K : P (some (.int (-12))) (pmT0 ++ LT) v) : EvP X (d + 8) MX11_lanes 0 [.ref 32, .int (nI t), .int b, .int c, .int (nI N), pmJ, pmJ, pmJ, pmJ] [] (pmT0 ++ LT) v P := by
  refine ev_aload_n 0 dX11_lanes_0 rfl (by decide) ?_
  refine ev_iload_n 1 dX11_lanes_1 rfl ?_
  refine cv_11_100_11 (pc := 2) rfl dX11_lanes_2 kd_32 (Nat.le_of_ble_eq_true rfl) ?_
  refine c_X11_sheetOf hX (fun u hu hq => ?_) (fun hq => absurd ⟨nI_pos' (by omega), nI_le (a := t) (b := 3) (by omega) (by omega)⟩ hq)
  obtain rfl : t = u := (nI_eq (by omega) (by omega)).mp hq
  refine ev_astore (ls' := [.ref 32, .int (nI t), .int b, .int c, .int (nI N), .ref (92 + 2 * t), pmJ, pmJ, pmJ]) 5 dX11_lanes_5 (Nat.le_of_ble_eq_true rfl) (by omega) rfl ?_
  refine ev_aload 7 dX11_lanes_7 rfl (by omega) ?_
  refine ev_ifnull 9 dX11_lanes_9 (by omega) ?_
  refine ev_iload_n 12 dX11_lanes_12 rfl ?_
  refine ev_iconst 13 dX11_lanes_13 kI_0 ?_
  refine ev_iconst 14 dX11_lanes_14 kI_2 ?_
  refine cs_11_74 (pc := 15) rfl dX11_lanes_15 (Nat.le_of_ble_eq_true rfl) ?_
  refine c_X11_isIn (fun h_15 => ?_) (fun h_15 => absurd hb h_15)
  refine ev_ifF 18 32 dX11_lanes_18 rfl (by decide) ?_
  refine ev_iload 21 dX11_lanes_21 rfl ?_
  refine ev_iconst 23 dX11_lanes_23 kI_0 ?_
  refine ev_bipush 24 dX11_lanes_24 kB_8 ?_
  refine cs_11_74 (pc := 26) rfl dX11_lanes_26 (Nat.le_of_ble_eq_true rfl) ?_
  refine c_X11_isIn (fun h_26 => ?_) (fun h_26 => absurd hk h_26)
  refine ev_ifT 29 35 dX11_lanes_29 rfl (by decide) ?_
  refine ev_aload 35 dX11_lanes_35 rfl (by omega) ?_
  refine cv_11_104_6 (pc := 37) rfl dX11_lanes_37 (kd_sheet (by omega)) (Nat.le_of_ble_eq_true rfl) ?_
  refine c_X6_isMissing ht (fun h_m => absurd h_m h2) (fun _ => ?_)
  refine ev_ifF 40 55 dX11_lanes_40 rfl (by decide) ?_
  refine ev_aload 43 dX11_lanes_43 rfl (by omega) ?_
  refine gf_11_246 (x := v.1 (92 + 2 * t) 0) (pc := 45) rfl dX11_lanes_45 (kd_sheet (by omega)) rfl ?_
  refine ev_iload_n 48 dX11_lanes_48 rfl ?_
  refine ev_ic_eq 49 55 dX11_lanes_49 rfl (fun c_49 => ?_) (fun c_49 => absurd h5 c_49)
  refine ev_aload 55 dX11_lanes_55 rfl (by omega) ?_
  refine cv_11_104_6 (pc := 57) rfl dX11_lanes_57 (kd_sheet (by omega)) (Nat.le_of_ble_eq_true rfl) ?_
  refine c_X6_isMissing ht (fun h_m => absurd h_m h2) (fun _ => ?_)
  refine ev_ifT 60 66 dX11_lanes_60 rfl (by decide) ?_
  refine ev_iconst 66 dX11_lanes_66 kI_0 ?_
  refine ev_istore (ls' := [.ref 32, .int (nI t), .int b, .int c, .int (nI N), .ref (92 + 2 * t), .int 0, pmJ, pmJ]) 67 dX11_lanes_67 (Nat.le_of_ble_eq_true rfl) rfl ?_
  refine ev_iconst 69 dX11_lanes_69 kI_0 ?_
  refine ev_istore (ls' := [.ref 32, .int (nI t), .int b, .int c, .int (nI N), .ref (92 + 2 * t), .int 0, .int 0, pmJ]) 70 dX11_lanes_70 (Nat.le_of_ble_eq_true rfl) rfl ?_
  refine ev_iload 72 dX11_lanes_72 rfl ?_
  refine ev_iload 74 dX11_lanes_74 rfl ?_
  refine ev_ic_geN (a := 0) (b := N) 76 142 dX11_lanes_76 rfl (by omega) (by omega) (fun c_76 => by omega) (fun c_76 => ?_)
  refine ev_iload_n 79 dX11_lanes_79 rfl ?_
  refine ev_iconst 80 dX11_lanes_80 kI_3 ?_
  refine ev_iload 81 dX11_lanes_81 rfl ?_
  refine ev_imul 83 dX11_lanes_83 ?_
  refine ev_cst (y := 0) (by decide) ?_
  refine ev_iadd 84 dX11_lanes_84 ?_
  refine ev_istore (ls' := [.ref 32, .int (nI t), .int b, .int c, .int (nI N), .ref (92 + 2 * t), .int 0, .int 0, .int (c + 0)]) 85 dX11_lanes_85 (Nat.le_of_ble_eq_true rfl) rfl ?_
  refine ev_aload 87 dX11_lanes_87 rfl (by omega) ?_
  refine ev_iload 89 dX11_lanes_89 rfl ?_
  refine ev_iconst 91 dX11_lanes_91 kI_3 ?_
  refine cv_11_249_6 (pc := 92) rfl dX11_lanes_92 (kd_sheet (by omega)) (Nat.le_of_ble_eq_true rfl) ?_
  refine c_X6_hasAll (a := c + 0) (b := 3) ht (fun h_a => absurd h_a hno) (fun h_a => ?_)
  refine ev_ifF 95 101 dX11_lanes_95 rfl (by decide) ?_
  refine ev_bipush 98 dX11_lanes_98 kB_m12 ?_
  refine ev_ireturn 100 dX11_lanes_100 rfl rfl ?_
  exact K

theorem c_X11_lanes_ok {X : pmX} {d : Nat} {v : pmV} {P : Option Value → pmT → pmV → Prop} {LT : pmT} {b : Int32} {n t q f N : Nat} (hX : pmRf v) (ht : t < 4) (hb : 0 ≤ b ∧ b ≤ 2) (hk : 0 ≤ nI N ∧ nI N ≤ 8) (hN8 : N ≤ 8) (h2 : ¬ v.1 (92 + 2 * t) 0 = -1) (h5 : v.1 (92 + 2 * t) 0 = b) (hq60 : q ≤ 60) (hf60 : f ≤ 60) (hn8 : n ≤ 8) (hlen : LT.length = n) (hsq : v.1 (92 + 2 * t) 1 = nI q) (hln : v.1 32 1 = nI n) (K : ∀ v', CX n (lnD v t q f n N 0 []).1 v v' → (∀ d, d ∈ (lnD v t q f n N 0 []).1 → lOk d) → n + (lnD v t q f n N 0 []).1.length ≤ 8 → P (some (.int (lnA (lnD v t q f n N 0 [])))) (pmT0 ++ (LT ++ lTy (lnD v t q f n N 0 []).1)) v') : EvP X (d + 8) MX11_lanes 0 [.ref 32, .int (nI t), .int b, .int (nI f), .int (nI N), pmJ, pmJ, pmJ, pmJ] [] (pmT0 ++ LT) v P := by
  refine ev_aload_n 0 dX11_lanes_0 rfl (by decide) ?_
  refine ev_iload_n 1 dX11_lanes_1 rfl ?_
  refine cv_11_100_11 (pc := 2) rfl dX11_lanes_2 kd_32 (Nat.le_of_ble_eq_true rfl) ?_
  refine c_X11_sheetOf hX (fun u hu hq => ?_) (fun hq => absurd ⟨nI_pos' (by omega), nI_le (a := t) (b := 3) (by omega) (by omega)⟩ hq)
  obtain rfl : t = u := (nI_eq (by omega) (by omega)).mp hq
  refine ev_astore (ls' := [.ref 32, .int (nI t), .int b, .int (nI f), .int (nI N), .ref (92 + 2 * t), pmJ, pmJ, pmJ]) 5 dX11_lanes_5 (Nat.le_of_ble_eq_true rfl) (by omega) rfl ?_
  refine ev_aload 7 dX11_lanes_7 rfl (by omega) ?_
  refine ev_ifnull 9 dX11_lanes_9 (by omega) ?_
  refine ev_iload_n 12 dX11_lanes_12 rfl ?_
  refine ev_iconst 13 dX11_lanes_13 kI_0 ?_
  refine ev_iconst 14 dX11_lanes_14 kI_2 ?_
  refine cs_11_74 (pc := 15) rfl dX11_lanes_15 (Nat.le_of_ble_eq_true rfl) ?_
  refine c_X11_isIn (fun h_15 => ?_) (fun h_15 => absurd hb h_15)
  refine ev_ifF 18 32 dX11_lanes_18 rfl (by decide) ?_
  refine ev_iload 21 dX11_lanes_21 rfl ?_
  refine ev_iconst 23 dX11_lanes_23 kI_0 ?_
  refine ev_bipush 24 dX11_lanes_24 kB_8 ?_
  refine cs_11_74 (pc := 26) rfl dX11_lanes_26 (Nat.le_of_ble_eq_true rfl) ?_
  refine c_X11_isIn (fun h_26 => ?_) (fun h_26 => absurd hk h_26)
  refine ev_ifT 29 35 dX11_lanes_29 rfl (by decide) ?_
  refine ev_aload 35 dX11_lanes_35 rfl (by omega) ?_
  refine cv_11_104_6 (pc := 37) rfl dX11_lanes_37 (kd_sheet (by omega)) (Nat.le_of_ble_eq_true rfl) ?_
  refine c_X6_isMissing ht (fun h_m => absurd h_m h2) (fun _ => ?_)
  refine ev_ifF 40 55 dX11_lanes_40 rfl (by decide) ?_
  refine ev_aload 43 dX11_lanes_43 rfl (by omega) ?_
  refine gf_11_246 (x := v.1 (92 + 2 * t) 0) (pc := 45) rfl dX11_lanes_45 (kd_sheet (by omega)) rfl ?_
  refine ev_iload_n 48 dX11_lanes_48 rfl ?_
  refine ev_ic_eq 49 55 dX11_lanes_49 rfl (fun c_49 => ?_) (fun c_49 => absurd h5 c_49)
  refine ev_aload 55 dX11_lanes_55 rfl (by omega) ?_
  refine cv_11_104_6 (pc := 57) rfl dX11_lanes_57 (kd_sheet (by omega)) (Nat.le_of_ble_eq_true rfl) ?_
  refine c_X6_isMissing ht (fun h_m => absurd h_m h2) (fun _ => ?_)
  refine ev_ifT 60 66 dX11_lanes_60 rfl (by decide) ?_
  refine ev_iconst 66 dX11_lanes_66 kI_0 ?_
  refine ev_istore (ls' := [.ref 32, .int (nI t), .int b, .int (nI f), .int (nI N), .ref (92 + 2 * t), .int 0, pmJ, pmJ]) 67 dX11_lanes_67 (Nat.le_of_ble_eq_true rfl) rfl ?_
  refine ev_iconst 69 dX11_lanes_69 kI_0 ?_
  refine ev_istore (ls' := [.ref 32, .int (nI t), .int b, .int (nI f), .int (nI N), .ref (92 + 2 * t), .int 0, .int 0, pmJ]) 70 dX11_lanes_70 (Nat.le_of_ble_eq_true rfl) rfl ?_
  have hT0 : pmT0 ++ LT = pmT0 ++ (LT ++ lTy []) := by unfold lTy; rw [List.map_nil, List.append_nil]
  rw [hT0]
  exact lp_lanes (f := f) hX ht hq60 hf60 hN8 hn8 hlen hsq N 0 [] _ v (by omega) (CX.nil hln) (fun d hd => absurd hd (by simp)) (by simpa using hn8) (fun D' v' h1 h2 h3 h4 => by subst h4; exact K v' h1 h2 h3)

theorem c_X12_lanes_1 {X : pmX} {d : Nat} {v : pmV} {P : Option Value → pmT → pmV → Prop} {LT : pmT} {a b c k : Int32} (h1 : ¬ (0 ≤ a ∧ a ≤ 3)) (K : P (some (.int (-2))) (pmT0 ++ LT) v) : EvP X (d + 3) MX12_lanes 0 [.ref 100, .int a, .int b, .int c, .int k, pmJ, pmJ, pmJ] [] (pmT0 ++ LT) v P := by
  refine ev_aload_n 0 dX12_lanes_0 rfl (by decide) ?_
  refine ev_iload_n 1 dX12_lanes_1 rfl ?_
  refine cv_12_37_12 (pc := 2) rfl dX12_lanes_2 kd_100 (Nat.le_of_ble_eq_true rfl) ?_
  refine c_X12_isSheet (fun h_2 => absurd h_2 h1) (fun h_2 => ?_)
  refine ev_ifT 5 30 dX12_lanes_5 rfl (by decide) ?_
  refine ev_bipush 30 dX12_lanes_30 kB_m2 ?_
  refine ev_ireturn 32 dX12_lanes_32 rfl rfl ?_
  exact K

theorem c_X12_lanes_2 {X : pmX} {d : Nat} {v : pmV} {P : Option Value → pmT → pmV → Prop} {LT : pmT} {a b c k : Int32} (h1 : 0 ≤ a ∧ a ≤ 3) (hb : ¬ (0 ≤ b ∧ b ≤ 2)) (K : P (some (.int (-2))) (pmT0 ++ LT) v) : EvP X (d + 3) MX12_lanes 0 [.ref 100, .int a, .int b, .int c, .int k, pmJ, pmJ, pmJ] [] (pmT0 ++ LT) v P := by
  refine ev_aload_n 0 dX12_lanes_0 rfl (by decide) ?_
  refine ev_iload_n 1 dX12_lanes_1 rfl ?_
  refine cv_12_37_12 (pc := 2) rfl dX12_lanes_2 kd_100 (Nat.le_of_ble_eq_true rfl) ?_
  refine c_X12_isSheet (fun h_2 => ?_) (fun h_2 => absurd h1 h_2)
  refine ev_ifF 5 30 dX12_lanes_5 rfl (by decide) ?_
  refine ev_aload_n 8 dX12_lanes_8 rfl (by decide) ?_
  refine ev_iload_n 9 dX12_lanes_9 rfl ?_
  refine ev_iconst 10 dX12_lanes_10 kI_0 ?_
  refine ev_iconst 11 dX12_lanes_11 kI_2 ?_
  refine cv_12_7_12 (pc := 12) rfl dX12_lanes_12 kd_100 (Nat.le_of_ble_eq_true rfl) ?_
  refine c_X12_in (fun h_12 => absurd h_12 hb) (fun h_12 => ?_)
  refine ev_ifT 15 30 dX12_lanes_15 rfl (by decide) ?_
  refine ev_bipush 30 dX12_lanes_30 kB_m2 ?_
  refine ev_ireturn 32 dX12_lanes_32 rfl rfl ?_
  exact K

theorem c_X12_lanes_3 {X : pmX} {d : Nat} {v : pmV} {P : Option Value → pmT → pmV → Prop} {LT : pmT} {a b c k : Int32} (h1 : 0 ≤ a ∧ a ≤ 3) (hb : 0 ≤ b ∧ b ≤ 2) (hk : ¬ (0 ≤ k ∧ k ≤ 8)) (K : P (some (.int (-2))) (pmT0 ++ LT) v) : EvP X (d + 3) MX12_lanes 0 [.ref 100, .int a, .int b, .int c, .int k, pmJ, pmJ, pmJ] [] (pmT0 ++ LT) v P := by
  refine ev_aload_n 0 dX12_lanes_0 rfl (by decide) ?_
  refine ev_iload_n 1 dX12_lanes_1 rfl ?_
  refine cv_12_37_12 (pc := 2) rfl dX12_lanes_2 kd_100 (Nat.le_of_ble_eq_true rfl) ?_
  refine c_X12_isSheet (fun h_2 => ?_) (fun h_2 => absurd h1 h_2)
  refine ev_ifF 5 30 dX12_lanes_5 rfl (by decide) ?_
  refine ev_aload_n 8 dX12_lanes_8 rfl (by decide) ?_
  refine ev_iload_n 9 dX12_lanes_9 rfl ?_
  refine ev_iconst 10 dX12_lanes_10 kI_0 ?_
  refine ev_iconst 11 dX12_lanes_11 kI_2 ?_
  refine cv_12_7_12 (pc := 12) rfl dX12_lanes_12 kd_100 (Nat.le_of_ble_eq_true rfl) ?_
  refine c_X12_in (fun h_12 => ?_) (fun h_12 => absurd hb h_12)
  refine ev_ifF 15 30 dX12_lanes_15 rfl (by decide) ?_
  refine ev_aload_n 18 dX12_lanes_18 rfl (by decide) ?_
  refine ev_iload 19 dX12_lanes_19 rfl ?_
  refine ev_iconst 21 dX12_lanes_21 kI_0 ?_
  refine ev_bipush 22 dX12_lanes_22 kB_8 ?_
  refine cv_12_7_12 (pc := 24) rfl dX12_lanes_24 kd_100 (Nat.le_of_ble_eq_true rfl) ?_
  refine c_X12_in (fun h_24 => absurd h_24 hk) (fun h_24 => ?_)
  refine ev_ifF 27 33 dX12_lanes_27 rfl (by decide) ?_
  refine ev_bipush 30 dX12_lanes_30 kB_m2 ?_
  refine ev_ireturn 32 dX12_lanes_32 rfl rfl ?_
  exact K

theorem c_X12_lanes_4 {X : pmX} {d : Nat} {v : pmV} {P : Option Value → pmT → pmV → Prop} {LT : pmT} {b c k : Int32} {t : Nat} (hX : pmRf v) (ht : t < 4) (hb : 0 ≤ b ∧ b ≤ 2) (hk : 0 ≤ k ∧ k ≤ 8) (h2 : v.1 120 t = -1) (K : P (some (.int (-11))) (pmT0 ++ LT) v) : EvP X (d + 3) MX12_lanes 0 [.ref 100, .int (nI t), .int b, .int c, .int k, pmJ, pmJ, pmJ] [] (pmT0 ++ LT) v P := by
  have hb3 : (0 : Int32) ≤ nI t ∧ nI t ≤ 3 := ⟨nI_pos' (by omega), nI_le (a := t) (b := 3) (by omega) (by omega)⟩
  refine ev_aload_n 0 dX12_lanes_0 rfl (by decide) ?_
  refine ev_iload_n 1 dX12_lanes_1 rfl ?_
  refine cv_12_37_12 (pc := 2) rfl dX12_lanes_2 kd_100 (Nat.le_of_ble_eq_true rfl) ?_
  refine c_X12_isSheet (fun h_2 => ?_) (fun h_2 => absurd hb3 h_2)
  refine ev_ifF 5 30 dX12_lanes_5 rfl (by decide) ?_
  refine ev_aload_n 8 dX12_lanes_8 rfl (by decide) ?_
  refine ev_iload_n 9 dX12_lanes_9 rfl ?_
  refine ev_iconst 10 dX12_lanes_10 kI_0 ?_
  refine ev_iconst 11 dX12_lanes_11 kI_2 ?_
  refine cv_12_7_12 (pc := 12) rfl dX12_lanes_12 kd_100 (Nat.le_of_ble_eq_true rfl) ?_
  refine c_X12_in (fun h_12 => ?_) (fun h_12 => absurd hb h_12)
  refine ev_ifF 15 30 dX12_lanes_15 rfl (by decide) ?_
  refine ev_aload_n 18 dX12_lanes_18 rfl (by decide) ?_
  refine ev_iload 19 dX12_lanes_19 rfl ?_
  refine ev_iconst 21 dX12_lanes_21 kI_0 ?_
  refine ev_bipush 22 dX12_lanes_22 kB_8 ?_
  refine cv_12_7_12 (pc := 24) rfl dX12_lanes_24 kd_100 (Nat.le_of_ble_eq_true rfl) ?_
  refine c_X12_in (fun h_24 => ?_) (fun h_24 => absurd hk h_24)
  refine ev_ifT 27 33 dX12_lanes_27 rfl (by decide) ?_
  refine ev_aload_n 33 dX12_lanes_33 rfl (by decide) ?_
  refine gf_12_41 (pc := 34) rfl dX12_lanes_34 kd_100 (rf_100_49 hX) ?_
  refine ev_iload_n 37 dX12_lanes_37 rfl ?_
  refine ev_ialdJ (x := (-1)) (j := t) 38 dX12_lanes_38 (Nat.le_of_ble_eq_true rfl) ty_120 (pm_inI (by omega) (by omega)) (nI_clamp (by omega)) h2 ?_
  refine ev_ifF 39 45 dX12_lanes_39 rfl (by decide) ?_
  refine ev_bipush 42 dX12_lanes_42 kB_m11 ?_
  refine ev_ireturn 44 dX12_lanes_44 rfl rfl ?_
  exact K

theorem c_X12_lanes_5 {X : pmX} {d : Nat} {v : pmV} {P : Option Value → pmT → pmV → Prop} {LT : pmT} {b c k s0 : Int32} {t : Nat} (hX : pmRf v) (ht : t < 4) (hb : 0 ≤ b ∧ b ≤ 2) (hk : 0 ≤ k ∧ k ≤ 8) (h2 : v.1 120 t = s0) (h0 : 0 ≤ s0) (h5 : ¬ s0 = b) (K : P (some (.int (-13))) (pmT0 ++ LT) v) : EvP X (d + 3) MX12_lanes 0 [.ref 100, .int (nI t), .int b, .int c, .int k, pmJ, pmJ, pmJ] [] (pmT0 ++ LT) v P := by
  have hb3 : (0 : Int32) ≤ nI t ∧ nI t ≤ 3 := ⟨nI_pos' (by omega), nI_le (a := t) (b := 3) (by omega) (by omega)⟩
  refine ev_aload_n 0 dX12_lanes_0 rfl (by decide) ?_
  refine ev_iload_n 1 dX12_lanes_1 rfl ?_
  refine cv_12_37_12 (pc := 2) rfl dX12_lanes_2 kd_100 (Nat.le_of_ble_eq_true rfl) ?_
  refine c_X12_isSheet (fun h_2 => ?_) (fun h_2 => absurd hb3 h_2)
  refine ev_ifF 5 30 dX12_lanes_5 rfl (by decide) ?_
  refine ev_aload_n 8 dX12_lanes_8 rfl (by decide) ?_
  refine ev_iload_n 9 dX12_lanes_9 rfl ?_
  refine ev_iconst 10 dX12_lanes_10 kI_0 ?_
  refine ev_iconst 11 dX12_lanes_11 kI_2 ?_
  refine cv_12_7_12 (pc := 12) rfl dX12_lanes_12 kd_100 (Nat.le_of_ble_eq_true rfl) ?_
  refine c_X12_in (fun h_12 => ?_) (fun h_12 => absurd hb h_12)
  refine ev_ifF 15 30 dX12_lanes_15 rfl (by decide) ?_
  refine ev_aload_n 18 dX12_lanes_18 rfl (by decide) ?_
  refine ev_iload 19 dX12_lanes_19 rfl ?_
  refine ev_iconst 21 dX12_lanes_21 kI_0 ?_
  refine ev_bipush 22 dX12_lanes_22 kB_8 ?_
  refine cv_12_7_12 (pc := 24) rfl dX12_lanes_24 kd_100 (Nat.le_of_ble_eq_true rfl) ?_
  refine c_X12_in (fun h_24 => ?_) (fun h_24 => absurd hk h_24)
  refine ev_ifT 27 33 dX12_lanes_27 rfl (by decide) ?_
  refine ev_aload_n 33 dX12_lanes_33 rfl (by decide) ?_
  refine gf_12_41 (pc := 34) rfl dX12_lanes_34 kd_100 (rf_100_49 hX) ?_
  refine ev_iload_n 37 dX12_lanes_37 rfl ?_
  refine ev_ialdJ (x := s0) (j := t) 38 dX12_lanes_38 (Nat.le_of_ble_eq_true rfl) ty_120 (pm_inI (by omega) (by omega)) (nI_clamp (by omega)) h2 ?_
  refine ev_if_ge 39 45 dX12_lanes_39 rfl (fun c_39 => ?_) (fun c_39 => absurd h0 c_39)
  refine ev_aload_n 45 dX12_lanes_45 rfl (by decide) ?_
  refine gf_12_41 (pc := 46) rfl dX12_lanes_46 kd_100 (rf_100_49 hX) ?_
  refine ev_iload_n 49 dX12_lanes_49 rfl ?_
  refine ev_ialdJ (x := s0) (j := t) 50 dX12_lanes_50 (Nat.le_of_ble_eq_true rfl) ty_120 (pm_inI (by omega) (by omega)) (nI_clamp (by omega)) h2 ?_
  refine ev_iload_n 51 dX12_lanes_51 rfl ?_
  refine ev_ic_eq 52 58 dX12_lanes_52 rfl (fun c_52 => absurd c_52 h5) (fun c_52 => ?_)
  refine ev_bipush 55 dX12_lanes_55 kB_m13 ?_
  refine ev_ireturn 57 dX12_lanes_57 rfl rfl ?_
  exact K

theorem c_X12_lanes_0 {X : pmX} {d : Nat} {v : pmV} {P : Option Value → pmT → pmV → Prop} {LT : pmT} {b c s0 : Int32} {t : Nat} (hX : pmRf v) (ht : t < 4) (hb : 0 ≤ b ∧ b ≤ 2) (h2 : v.1 120 t = s0) (h0 : 0 ≤ s0) (h5 : s0 = b) (K : P (some (.int 0)) (pmT0 ++ LT) v) : EvP X (d + 3) MX12_lanes 0 [.ref 100, .int (nI t), .int b, .int c, .int 0, pmJ, pmJ, pmJ] [] (pmT0 ++ LT) v P := by
  have hb3 : (0 : Int32) ≤ nI t ∧ nI t ≤ 3 := ⟨nI_pos' (by omega), nI_le (a := t) (b := 3) (by omega) (by omega)⟩
  refine ev_aload_n 0 dX12_lanes_0 rfl (by decide) ?_
  refine ev_iload_n 1 dX12_lanes_1 rfl ?_
  refine cv_12_37_12 (pc := 2) rfl dX12_lanes_2 kd_100 (Nat.le_of_ble_eq_true rfl) ?_
  refine c_X12_isSheet (fun h_2 => ?_) (fun h_2 => absurd hb3 h_2)
  refine ev_ifF 5 30 dX12_lanes_5 rfl (by decide) ?_
  refine ev_aload_n 8 dX12_lanes_8 rfl (by decide) ?_
  refine ev_iload_n 9 dX12_lanes_9 rfl ?_
  refine ev_iconst 10 dX12_lanes_10 kI_0 ?_
  refine ev_iconst 11 dX12_lanes_11 kI_2 ?_
  refine cv_12_7_12 (pc := 12) rfl dX12_lanes_12 kd_100 (Nat.le_of_ble_eq_true rfl) ?_
  refine c_X12_in (fun h_12 => ?_) (fun h_12 => absurd hb h_12)
  refine ev_ifF 15 30 dX12_lanes_15 rfl (by decide) ?_
  refine ev_aload_n 18 dX12_lanes_18 rfl (by decide) ?_
  refine ev_iload 19 dX12_lanes_19 rfl ?_
  refine ev_iconst 21 dX12_lanes_21 kI_0 ?_
  refine ev_bipush 22 dX12_lanes_22 kB_8 ?_
  refine cv_12_7_12 (pc := 24) rfl dX12_lanes_24 kd_100 (Nat.le_of_ble_eq_true rfl) ?_
  refine c_X12_in (fun h_24 => ?_) (fun h_24 => absurd (show (0 : Int32) ≤ 0 ∧ (0 : Int32) ≤ 8 by decide) h_24)
  refine ev_ifT 27 33 dX12_lanes_27 rfl (by decide) ?_
  refine ev_aload_n 33 dX12_lanes_33 rfl (by decide) ?_
  refine gf_12_41 (pc := 34) rfl dX12_lanes_34 kd_100 (rf_100_49 hX) ?_
  refine ev_iload_n 37 dX12_lanes_37 rfl ?_
  refine ev_ialdJ (x := s0) (j := t) 38 dX12_lanes_38 (Nat.le_of_ble_eq_true rfl) ty_120 (pm_inI (by omega) (by omega)) (nI_clamp (by omega)) h2 ?_
  refine ev_if_ge 39 45 dX12_lanes_39 rfl (fun c_39 => ?_) (fun c_39 => absurd h0 c_39)
  refine ev_aload_n 45 dX12_lanes_45 rfl (by decide) ?_
  refine gf_12_41 (pc := 46) rfl dX12_lanes_46 kd_100 (rf_100_49 hX) ?_
  refine ev_iload_n 49 dX12_lanes_49 rfl ?_
  refine ev_ialdJ (x := s0) (j := t) 50 dX12_lanes_50 (Nat.le_of_ble_eq_true rfl) ty_120 (pm_inI (by omega) (by omega)) (nI_clamp (by omega)) h2 ?_
  refine ev_iload_n 51 dX12_lanes_51 rfl ?_
  refine ev_ic_eq 52 58 dX12_lanes_52 rfl (fun c_52 => ?_) (fun c_52 => absurd h5 c_52)
  refine ev_iconst 58 dX12_lanes_58 kI_0 ?_
  refine ev_istore (ls' := [.ref 100, .int (nI t), .int b, .int c, .int 0, .int 0, pmJ, pmJ]) 59 dX12_lanes_59 (Nat.le_of_ble_eq_true rfl) rfl ?_
  refine ev_iconst 61 dX12_lanes_61 kI_0 ?_
  refine ev_istore (ls' := [.ref 100, .int (nI t), .int b, .int c, .int 0, .int 0, .int 0, pmJ]) 62 dX12_lanes_62 (Nat.le_of_ble_eq_true rfl) rfl ?_
  refine ev_iload 64 dX12_lanes_64 rfl ?_
  refine ev_iload 66 dX12_lanes_66 rfl ?_
  refine ev_icT 68 190 dX12_lanes_68 rfl (by decide) ?_
  refine ev_iload 190 dX12_lanes_190 rfl ?_
  refine ev_ireturn 192 dX12_lanes_192 rfl rfl ?_
  exact K


theorem out_neg {c : Int32} {q : Nat} (hq : q ≤ 60) (hc : ¬ (0 ≤ c ∧ c ≤ 60)) (h0 : 0 ≤ c) : ¬ c ≤ nI q - 0 - 3 := by
  have h1 : nI q ≤ 60 := nI_le (b := 60) hq (by omega)
  have h2 : 0 ≤ nI q := nI_pos' (by omega)
  grind
theorem rl_y {f q i : Nat} (hq : q ≤ 60) (hf : f ≤ 60) (hi : i ≤ 8) : nI f ≤ nI q - nI (3 * i) - 3 ↔ ¬ q < f + 3 * i + 3 := by
  have e : nI q - nI (3 * i) - 3 = nI q - nI (3 * i + 3) := by rw [← nI_add]; show _ = nI q - (nI (3 * i) + 3); grind
  rw [e]
  by_cases h : 3 * i + 3 ≤ q
  · rw [pk_sub h, nI_leI (by omega) (by omega)]; omega
  · have := pk_sneg (a := q) (b := 3 * i + 3) (by omega) (by omega)
    constructor
    · intro h2; exact absurd (Int32.lt_of_le_of_lt h2 this) (nI_pos (by omega))
    · intro h2; omega
theorem c_X12_lanes_o {X : pmX} {d : Nat} {v : pmV} {P : Option Value → pmT → pmV → Prop} {LT : pmT} {b c s0 : Int32} {t q N : Nat} (hX : pmRf v) (ht : t < 4) (hb : 0 ≤ b ∧ b ≤ 2) (hk : 0 ≤ nI N ∧ nI N ≤ 8) (hN8 : N ≤ 8) (h2 : v.1 120 t = s0) (h0 : 0 ≤ s0) (h5 : s0 = b) (hN1 : 1 ≤ N) (hq60 : q ≤ 60) (hq : v.1 121 t = nI q) (hc : ¬ (0 ≤ c ∧ c ≤ 60)) (K : P (some (.int (-12))) (pmT0 ++ LT) v) : EvP X (d + 3) MX12_lanes 0 [.ref 100, .int (nI t), .int b, .int c, .int (nI N), pmJ, pmJ, pmJ] [] (pmT0 ++ LT) v P := by
  have hb3 : (0 : Int32) ≤ nI t ∧ nI t ≤ 3 := ⟨nI_pos' (by omega), nI_le (a := t) (b := 3) (by omega) (by omega)⟩
  refine ev_aload_n 0 dX12_lanes_0 rfl (by decide) ?_
  refine ev_iload_n 1 dX12_lanes_1 rfl ?_
  refine cv_12_37_12 (pc := 2) rfl dX12_lanes_2 kd_100 (Nat.le_of_ble_eq_true rfl) ?_
  refine c_X12_isSheet (fun h_2 => ?_) (fun h_2 => absurd hb3 h_2)
  refine ev_ifF 5 30 dX12_lanes_5 rfl (by decide) ?_
  refine ev_aload_n 8 dX12_lanes_8 rfl (by decide) ?_
  refine ev_iload_n 9 dX12_lanes_9 rfl ?_
  refine ev_iconst 10 dX12_lanes_10 kI_0 ?_
  refine ev_iconst 11 dX12_lanes_11 kI_2 ?_
  refine cv_12_7_12 (pc := 12) rfl dX12_lanes_12 kd_100 (Nat.le_of_ble_eq_true rfl) ?_
  refine c_X12_in (fun h_12 => ?_) (fun h_12 => absurd hb h_12)
  refine ev_ifF 15 30 dX12_lanes_15 rfl (by decide) ?_
  refine ev_aload_n 18 dX12_lanes_18 rfl (by decide) ?_
  refine ev_iload 19 dX12_lanes_19 rfl ?_
  refine ev_iconst 21 dX12_lanes_21 kI_0 ?_
  refine ev_bipush 22 dX12_lanes_22 kB_8 ?_
  refine cv_12_7_12 (pc := 24) rfl dX12_lanes_24 kd_100 (Nat.le_of_ble_eq_true rfl) ?_
  refine c_X12_in (fun h_24 => ?_) (fun h_24 => absurd hk h_24)
  refine ev_ifT 27 33 dX12_lanes_27 rfl (by decide) ?_
  refine ev_aload_n 33 dX12_lanes_33 rfl (by decide) ?_
  refine gf_12_41 (pc := 34) rfl dX12_lanes_34 kd_100 (rf_100_49 hX) ?_
  refine ev_iload_n 37 dX12_lanes_37 rfl ?_
  refine ev_ialdJ (x := s0) (j := t) 38 dX12_lanes_38 (Nat.le_of_ble_eq_true rfl) ty_120 (pm_inI (by omega) (by omega)) (nI_clamp (by omega)) h2 ?_
  refine ev_if_ge 39 45 dX12_lanes_39 rfl (fun c_39 => ?_) (fun c_39 => absurd h0 c_39)
  refine ev_aload_n 45 dX12_lanes_45 rfl (by decide) ?_
  refine gf_12_41 (pc := 46) rfl dX12_lanes_46 kd_100 (rf_100_49 hX) ?_
  refine ev_iload_n 49 dX12_lanes_49 rfl ?_
  refine ev_ialdJ (x := s0) (j := t) 50 dX12_lanes_50 (Nat.le_of_ble_eq_true rfl) ty_120 (pm_inI (by omega) (by omega)) (nI_clamp (by omega)) h2 ?_
  refine ev_iload_n 51 dX12_lanes_51 rfl ?_
  refine ev_ic_eq 52 58 dX12_lanes_52 rfl (fun c_52 => ?_) (fun c_52 => absurd h5 c_52)
  refine ev_iconst 58 dX12_lanes_58 kI_0 ?_
  refine ev_istore (ls' := [.ref 100, .int (nI t), .int b, .int c, .int (nI N), .int 0, pmJ, pmJ]) 59 dX12_lanes_59 (Nat.le_of_ble_eq_true rfl) rfl ?_
  refine ev_iconst 61 dX12_lanes_61 kI_0 ?_
  refine ev_istore (ls' := [.ref 100, .int (nI t), .int b, .int c, .int (nI N), .int 0, .int 0, pmJ]) 62 dX12_lanes_62 (Nat.le_of_ble_eq_true rfl) rfl ?_
  refine ev_iload 64 dX12_lanes_64 rfl ?_
  refine ev_iload 66 dX12_lanes_66 rfl ?_
  refine ev_ic_geN (a := 0) (b := N) 68 190 dX12_lanes_68 rfl (by omega) (by omega) (fun c_68 => by omega) (fun c_68 => ?_)
  refine ev_iload_n 71 dX12_lanes_71 rfl ?_
  refine ev_if_lt 72 92 dX12_lanes_72 rfl (fun c_72 => ?_) (fun c_72 => ?_)
  · refine ev_bipush 92 dX12_lanes_92 kB_m12 ?_
    refine ev_ireturn 94 dX12_lanes_94 rfl rfl ?_
    exact K
  · refine ev_iload_n 75 dX12_lanes_75 rfl ?_
    refine ev_aload_n 76 dX12_lanes_76 rfl (by decide) ?_
    refine gf_12_44 (pc := 77) rfl dX12_lanes_77 kd_100 (rf_100_50 hX) ?_
    refine ev_iload_n 80 dX12_lanes_80 rfl ?_
    refine ev_ialdJ (x := nI q) (j := t) 81 dX12_lanes_81 (Nat.le_of_ble_eq_true rfl) ty_121 (pm_inI (by omega) (by omega)) (nI_clamp (by omega)) hq ?_
    refine ev_iconst 82 dX12_lanes_82 kI_3 ?_
    refine ev_iload 83 dX12_lanes_83 rfl ?_
    refine ev_imul 85 dX12_lanes_85 ?_
    refine ev_cst (y := 0) (by decide) ?_
    refine ev_isub 86 dX12_lanes_86 ?_
    refine ev_iconst 87 dX12_lanes_87 kI_3 ?_
    refine ev_isub 88 dX12_lanes_88 ?_
    refine ev_ic_le 89 95 dX12_lanes_89 rfl (fun c_89 => absurd c_89 (out_neg hq60 hc (Int32.not_lt.mp c_72))) (fun c_89 => ?_)
    refine ev_bipush 92 dX12_lanes_92 kB_m12 ?_
    refine ev_ireturn 94 dX12_lanes_94 rfl rfl ?_
    exact K

theorem lp_lanesM {X : pmX} {d : Nat} {P : Option Value → pmT → pmV → Prop} {LT : pmT} {e w : pmV} {n t q f N : Nat} {y1 : Int32} (hX : pmRf w) (ht : t < 4) (hq60 : q ≤ 60) (hf60 : f ≤ 60) (hN8 : N ≤ 8) (hn8 : n ≤ 8) (hq : w.1 121 t = nI q) (hrow : ∀ j, j < 60 → w.1 122 (60 * t + j) = e.1 (93 + 2 * t) j)  : ∀ (k : Nat) (i : Nat) (D : List lT) (w7 : Value) (v : pmV), i + k = N → CR n D w v → n + D.length ≤ 8 → (∀ v', CR n (lnD e t q f n k i D).1 w v' → P (some (.int (lnA (lnD e t q f n k i D)))) (pmT0 ++ LT) v') → EvP X (d + 3) MX12_lanes 64 [.ref 100, .int (nI t), .int y1, .int (nI f), .int (nI N), .int (nI D.length), .int (nI i), w7] [] (pmT0 ++ LT) v P := by
  intro k
  induction k with
  | zero =>
    intro i D w7 v hi hCR hD8 K
    have hi2 : N = i := by omega
    subst hi2
    have hX1 : pmRf v := hX.ag hCR.2.2.2
    have hsz : v.1 121 t = nI q := (hCR.1 _ _ (by omega) (by omega)).trans hq
    have hit : ∀ j, j < 60 → v.1 122 (60 * t + j) = e.1 (93 + 2 * t) j := fun j hj => (hCR.1 _ _ (by omega) (by omega)).trans (hrow j hj)
    refine ev_iload 64 dX12_lanes_64 rfl ?_
    refine ev_iload 66 dX12_lanes_66 rfl ?_
    refine ev_ic_geN (a := N) (b := N) 68 190 dX12_lanes_68 rfl (by omega) (by omega) (fun c_68 => ?_) (fun c_68 => by omega)
    refine ev_iload 190 dX12_lanes_190 rfl ?_
    refine ev_ireturn 192 dX12_lanes_192 rfl rfl ?_
    exact K v hCR
  | succ k ih =>
    intro i D w7 v hi hCR hD8 K
    have hX1 : pmRf v := hX.ag hCR.2.2.2
    have hsz : v.1 121 t = nI q := (hCR.1 _ _ (by omega) (by omega)).trans hq
    have hit : ∀ j, j < 60 → v.1 122 (60 * t + j) = e.1 (93 + 2 * t) j := fun j hj => (hCR.1 _ _ (by omega) (by omega)).trans (hrow j hj)
    refine ev_iload 64 dX12_lanes_64 rfl ?_
    refine ev_iload 66 dX12_lanes_66 rfl ?_
    refine ev_ic_geN (a := i) (b := N) 68 190 dX12_lanes_68 rfl (by omega) (by omega) (fun c_68 => by omega) (fun c_68 => ?_)
    refine ev_iload_n 71 dX12_lanes_71 rfl ?_
    refine ev_if_lt 72 92 dX12_lanes_72 rfl (fun c_72 => absurd c_72 (nI_pos (by omega))) (fun c_72 => ?_)
    refine ev_iload_n 75 dX12_lanes_75 rfl ?_
    refine ev_aload_n 76 dX12_lanes_76 rfl (by decide) ?_
    refine gf_12_44 (pc := 77) rfl dX12_lanes_77 kd_100 (rf_100_50 hX1) ?_
    refine ev_iload_n 80 dX12_lanes_80 rfl ?_
    refine ev_ialdJ (x := nI q) (j := t) 81 dX12_lanes_81 (Nat.le_of_ble_eq_true rfl) ty_121 (pm_inI (by omega) (by omega)) (nI_clamp (by omega)) hsz ?_
    refine ev_iconst 82 dX12_lanes_82 kI_3 ?_
    refine ev_iload 83 dX12_lanes_83 rfl ?_
    refine ev_imul 85 dX12_lanes_85 ?_
    refine ev_cst (y := nI (3 * i)) (nI_mulp 3 i) ?_
    refine ev_isub 86 dX12_lanes_86 ?_
    refine ev_iconst 87 dX12_lanes_87 kI_3 ?_
    refine ev_isub 88 dX12_lanes_88 ?_
    refine ev_ic_le 89 95 dX12_lanes_89 rfl (fun c_89 => ?_) (fun c_89 => ?_)
    · have hin : ¬ q < f + 3 * i + 3 := (rl_y hq60 hf60 (by omega)).mp c_89
      refine ev_bipush 95 dX12_lanes_95 kB_60 ?_
      refine ev_iload_n 97 dX12_lanes_97 rfl ?_
      refine ev_imul 98 dX12_lanes_98 ?_
      refine ev_cst (y := nI (60 * t)) (nI_mulp 60 t) ?_
      refine ev_iload_n 99 dX12_lanes_99 rfl ?_
      refine ev_iadd 100 dX12_lanes_100 ?_
      refine ev_cst (y := nI (60 * t + f)) (nI_add (60 * t) f) ?_
      refine ev_iconst 101 dX12_lanes_101 kI_3 ?_
      refine ev_iload 102 dX12_lanes_102 rfl ?_
      refine ev_imul 104 dX12_lanes_104 ?_
      refine ev_cst (y := nI (3 * i)) (nI_mulp 3 i) ?_
      refine ev_iadd 105 dX12_lanes_105 ?_
      refine ev_cst (y := nI (60 * t + f + 3 * i)) (nI_add (60 * t + f) (3 * i)) ?_
      refine ev_istore (ls' := [.ref 100, .int (nI t), .int y1, .int (nI f), .int (nI N), .int (nI D.length), .int (nI i), .int (nI (60 * t + f + 3 * i))]) 106 dX12_lanes_106 (Nat.le_of_ble_eq_true rfl) rfl ?_
      refine ev_aload_n 108 dX12_lanes_108 rfl (by decide) ?_
      refine ev_aload_n 109 dX12_lanes_109 rfl (by decide) ?_
      refine gf_12_47 (pc := 110) rfl dX12_lanes_110 kd_100 (rf_100_51 hX1) ?_
      refine ev_iload 113 dX12_lanes_113 rfl ?_
      refine ev_ialdJ (x := e.1 (93 + 2 * t) (f + 3 * i)) (j := 60 * t + f + 3 * i) 115 dX12_lanes_115 (Nat.le_of_ble_eq_true rfl) ty_122 (pm_inI (by omega) (by omega)) (nI_clamp (by omega)) (show v.1 122 (60 * t + f + 3 * i) = _ from by rw [show 60 * t + f + 3 * i = 60 * t + (f + 3 * i) by omega]; exact hit _ (by omega)) ?_
      refine ev_aload_n 116 dX12_lanes_116 rfl (by decide) ?_
      refine gf_12_47 (pc := 117) rfl dX12_lanes_117 kd_100 (rf_100_51 hX1) ?_
      refine ev_iload 120 dX12_lanes_120 rfl ?_
      refine ev_iconst 122 dX12_lanes_122 kI_1 ?_
      refine ev_iadd 123 dX12_lanes_123 ?_
      refine ev_cst (y := nI (60 * t + f + 3 * i + 1)) (nI_add (60 * t + f + 3 * i) 1) ?_
      refine ev_ialdJ (x := e.1 (93 + 2 * t) (f + 3 * i + 1)) (j := 60 * t + f + 3 * i + 1) 124 dX12_lanes_124 (Nat.le_of_ble_eq_true rfl) ty_122 (pm_inI (by omega) (by omega)) (nI_clamp (by omega)) (show v.1 122 (60 * t + f + 3 * i + 1) = _ from by rw [show 60 * t + f + 3 * i + 1 = 60 * t + (f + 3 * i + 1) by omega]; exact hit _ (by omega)) ?_
      refine ev_aload_n 125 dX12_lanes_125 rfl (by decide) ?_
      refine gf_12_47 (pc := 126) rfl dX12_lanes_126 kd_100 (rf_100_51 hX1) ?_
      refine ev_iload 129 dX12_lanes_129 rfl ?_
      refine ev_iconst 131 dX12_lanes_131 kI_2 ?_
      refine ev_iadd 132 dX12_lanes_132 ?_
      refine ev_cst (y := nI (60 * t + f + 3 * i + 2)) (nI_add (60 * t + f + 3 * i) 2) ?_
      refine ev_ialdJ (x := e.1 (93 + 2 * t) (f + 3 * i + 2)) (j := 60 * t + f + 3 * i + 2) 133 dX12_lanes_133 (Nat.le_of_ble_eq_true rfl) ty_122 (pm_inI (by omega) (by omega)) (nI_clamp (by omega)) (show v.1 122 (60 * t + f + 3 * i + 2) = _ from by rw [show 60 * t + f + 3 * i + 2 = 60 * t + (f + 3 * i + 2) by omega]; exact hit _ (by omega)) ?_
      refine cv_12_21_12 (pc := 134) rfl dX12_lanes_134 kd_100 (Nat.le_of_ble_eq_true rfl) ?_
      refine c_X12_isNew (fun h_n => ?_) (fun h_n => ?_)
      · have hv : lnV (lnG e t f i) = true := lnV_iff.mpr h_n
        refine ev_ifF 137 184 dX12_lanes_137 rfl (by decide) ?_
        refine ev_aload_n 140 dX12_lanes_140 rfl (by decide) ?_
        refine gf_12_1 (x := nI (n + D.length)) (pc := 141) rfl dX12_lanes_141 kd_100 hCR.2.1 ?_
        refine ev_bipush 144 dX12_lanes_144 kB_8 ?_
        refine ev_ic_neN (a := (n + D.length)) (b := 8) 146 152 dX12_lanes_146 rfl (by omega) (by omega) (fun c_146 => ?_) (fun c_146 => ?_)
        · refine ev_aload_n 152 dX12_lanes_152 rfl (by decide) ?_
          refine ev_aload_n 153 dX12_lanes_153 rfl (by decide) ?_
          refine gf_12_47 (pc := 154) rfl dX12_lanes_154 kd_100 (rf_100_51 hX1) ?_
          refine ev_iload 157 dX12_lanes_157 rfl ?_
          refine ev_ialdJ (x := e.1 (93 + 2 * t) (f + 3 * i)) (j := 60 * t + f + 3 * i) 159 dX12_lanes_159 (Nat.le_of_ble_eq_true rfl) ty_122 (pm_inI (by omega) (by omega)) (nI_clamp (by omega)) (show v.1 122 (60 * t + f + 3 * i) = _ from by rw [show 60 * t + f + 3 * i = 60 * t + (f + 3 * i) by omega]; exact hit _ (by omega)) ?_
          refine ev_aload_n 160 dX12_lanes_160 rfl (by decide) ?_
          refine gf_12_47 (pc := 161) rfl dX12_lanes_161 kd_100 (rf_100_51 hX1) ?_
          refine ev_iload 164 dX12_lanes_164 rfl ?_
          refine ev_iconst 166 dX12_lanes_166 kI_1 ?_
          refine ev_iadd 167 dX12_lanes_167 ?_
          refine ev_cst (y := nI (60 * t + f + 3 * i + 1)) (nI_add (60 * t + f + 3 * i) 1) ?_
          refine ev_ialdJ (x := e.1 (93 + 2 * t) (f + 3 * i + 1)) (j := 60 * t + f + 3 * i + 1) 168 dX12_lanes_168 (Nat.le_of_ble_eq_true rfl) ty_122 (pm_inI (by omega) (by omega)) (nI_clamp (by omega)) (show v.1 122 (60 * t + f + 3 * i + 1) = _ from by rw [show 60 * t + f + 3 * i + 1 = 60 * t + (f + 3 * i + 1) by omega]; exact hit _ (by omega)) ?_
          refine ev_aload_n 169 dX12_lanes_169 rfl (by decide) ?_
          refine gf_12_47 (pc := 170) rfl dX12_lanes_170 kd_100 (rf_100_51 hX1) ?_
          refine ev_iload 173 dX12_lanes_173 rfl ?_
          refine ev_iconst 175 dX12_lanes_175 kI_2 ?_
          refine ev_iadd 176 dX12_lanes_176 ?_
          refine ev_cst (y := nI (60 * t + f + 3 * i + 2)) (nI_add (60 * t + f + 3 * i) 2) ?_
          refine ev_ialdJ (x := e.1 (93 + 2 * t) (f + 3 * i + 2)) (j := 60 * t + f + 3 * i + 2) 177 dX12_lanes_177 (Nat.le_of_ble_eq_true rfl) ty_122 (pm_inI (by omega) (by omega)) (nI_clamp (by omega)) (show v.1 122 (60 * t + f + 3 * i + 2) = _ from by rw [show 60 * t + f + 3 * i + 2 = 60 * t + (f + 3 * i + 2) by omega]; exact hit _ (by omega)) ?_
          refine cv_12_24_12 (pc := 178) rfl dX12_lanes_178 kd_100 (Nat.le_of_ble_eq_true rfl) ?_
          refine c_X12_comesLane hX1 hCR.2.1 (by omega) ?_
          refine ev_iinc (y := nI (D.length + 1)) (ls' := [.ref 100, .int (nI t), .int y1, .int (nI f), .int (nI N), .int (nI (D.length + 1)), .int (nI i), .int (nI (60 * t + f + 3 * i))]) 181 dX12_lanes_181 rfl (nI_add D.length 1) rfl ?_
          refine ev_iinc (y := nI (i + 1)) (ls' := [.ref 100, .int (nI t), .int y1, .int (nI f), .int (nI N), .int (nI (D.length + 1)), .int (nI (i + 1)), .int (nI (60 * t + f + 3 * i))]) 184 dX12_lanes_184 rfl (nI_add i 1) rfl ?_
          refine ev_goto 187 64 dX12_lanes_187 rfl ?_
          have hl3 : nI (D.length + 1) = nI (D ++ [lnG e t f i]).length := by rw [List.length_append]; rfl
          rw [hl3]
          refine ih (i + 1) (D ++ [lnG e t f i]) _ _ (by omega) (hCR.snoc (lnG e t f i)) (by rw [List.length_append]; show n + (D.length + 1) ≤ 8; omega) (fun v2 h2 => ?_)
          have z := K v2; rw [lnD, if_neg hin, if_pos ⟨hv, by omega⟩] at z; exact z h2
        · refine ev_goto 149 184 dX12_lanes_149 rfl ?_
          refine ev_iinc (y := nI (i + 1)) (ls' := [.ref 100, .int (nI t), .int y1, .int (nI f), .int (nI N), .int (nI D.length), .int (nI (i + 1)), .int (nI (60 * t + f + 3 * i))]) 184 dX12_lanes_184 rfl (nI_add i 1) rfl ?_
          refine ev_goto 187 64 dX12_lanes_187 rfl ?_
          refine ih (i + 1) D _ _ (by omega) hCR hD8 (fun v2 h2 => ?_)
          have z := K v2; rw [lnD, if_neg hin, if_neg (by first | exact fun q => hv q.1 | (intro q; omega))] at z; exact z h2
      · have hv : ¬ lnV (lnG e t f i) = true := fun z => h_n (lnV_iff.mp z)
        refine ev_ifT 137 184 dX12_lanes_137 rfl (by decide) ?_
        refine ev_iinc (y := nI (i + 1)) (ls' := [.ref 100, .int (nI t), .int y1, .int (nI f), .int (nI N), .int (nI D.length), .int (nI (i + 1)), .int (nI (60 * t + f + 3 * i))]) 184 dX12_lanes_184 rfl (nI_add i 1) rfl ?_
        refine ev_goto 187 64 dX12_lanes_187 rfl ?_
        refine ih (i + 1) D _ _ (by omega) hCR hD8 (fun v2 h2 => ?_)
        have z := K v2; rw [lnD, if_neg hin, if_neg (by first | exact fun q => hv q.1 | (intro q; omega))] at z; exact z h2
    · have hin : q < f + 3 * i + 3 := Decidable.byContradiction fun z => c_89 ((rl_y hq60 hf60 (by omega)).mpr z)
      refine ev_bipush 92 dX12_lanes_92 kB_m12 ?_
      refine ev_ireturn 94 dX12_lanes_94 rfl rfl ?_
      have z := K v
      rw [lnD, if_pos hin] at z
      exact z hCR

theorem c_X12_lanes_ok {X : pmX} {d : Nat} {v : pmV} {P : Option Value → pmT → pmV → Prop} {LT : pmT} {b s0 : Int32} {e : pmV} {n t q f N : Nat} (hX : pmRf v) (ht : t < 4) (hb : 0 ≤ b ∧ b ≤ 2) (hk : 0 ≤ nI N ∧ nI N ≤ 8) (hN8 : N ≤ 8) (h2 : v.1 120 t = s0) (h0 : 0 ≤ s0) (h5 : s0 = b) (hq60 : q ≤ 60) (hf60 : f ≤ 60) (hn8 : n ≤ 8) (hq : v.1 121 t = nI q) (hrow : ∀ j, j < 60 → v.1 122 (60 * t + j) = e.1 (93 + 2 * t) j) (hln : v.1 100 0 = nI n) (K : ∀ v', CR n (lnD e t q f n N 0 []).1 v v' → P (some (.int (lnA (lnD e t q f n N 0 [])))) (pmT0 ++ LT) v') : EvP X (d + 3) MX12_lanes 0 [.ref 100, .int (nI t), .int b, .int (nI f), .int (nI N), pmJ, pmJ, pmJ] [] (pmT0 ++ LT) v P := by
  have hb3 : (0 : Int32) ≤ nI t ∧ nI t ≤ 3 := ⟨nI_pos' (by omega), nI_le (a := t) (b := 3) (by omega) (by omega)⟩
  refine ev_aload_n 0 dX12_lanes_0 rfl (by decide) ?_
  refine ev_iload_n 1 dX12_lanes_1 rfl ?_
  refine cv_12_37_12 (pc := 2) rfl dX12_lanes_2 kd_100 (Nat.le_of_ble_eq_true rfl) ?_
  refine c_X12_isSheet (fun h_2 => ?_) (fun h_2 => absurd hb3 h_2)
  refine ev_ifF 5 30 dX12_lanes_5 rfl (by decide) ?_
  refine ev_aload_n 8 dX12_lanes_8 rfl (by decide) ?_
  refine ev_iload_n 9 dX12_lanes_9 rfl ?_
  refine ev_iconst 10 dX12_lanes_10 kI_0 ?_
  refine ev_iconst 11 dX12_lanes_11 kI_2 ?_
  refine cv_12_7_12 (pc := 12) rfl dX12_lanes_12 kd_100 (Nat.le_of_ble_eq_true rfl) ?_
  refine c_X12_in (fun h_12 => ?_) (fun h_12 => absurd hb h_12)
  refine ev_ifF 15 30 dX12_lanes_15 rfl (by decide) ?_
  refine ev_aload_n 18 dX12_lanes_18 rfl (by decide) ?_
  refine ev_iload 19 dX12_lanes_19 rfl ?_
  refine ev_iconst 21 dX12_lanes_21 kI_0 ?_
  refine ev_bipush 22 dX12_lanes_22 kB_8 ?_
  refine cv_12_7_12 (pc := 24) rfl dX12_lanes_24 kd_100 (Nat.le_of_ble_eq_true rfl) ?_
  refine c_X12_in (fun h_24 => ?_) (fun h_24 => absurd hk h_24)
  refine ev_ifT 27 33 dX12_lanes_27 rfl (by decide) ?_
  refine ev_aload_n 33 dX12_lanes_33 rfl (by decide) ?_
  refine gf_12_41 (pc := 34) rfl dX12_lanes_34 kd_100 (rf_100_49 hX) ?_
  refine ev_iload_n 37 dX12_lanes_37 rfl ?_
  refine ev_ialdJ (x := s0) (j := t) 38 dX12_lanes_38 (Nat.le_of_ble_eq_true rfl) ty_120 (pm_inI (by omega) (by omega)) (nI_clamp (by omega)) h2 ?_
  refine ev_if_ge 39 45 dX12_lanes_39 rfl (fun c_39 => ?_) (fun c_39 => absurd h0 c_39)
  refine ev_aload_n 45 dX12_lanes_45 rfl (by decide) ?_
  refine gf_12_41 (pc := 46) rfl dX12_lanes_46 kd_100 (rf_100_49 hX) ?_
  refine ev_iload_n 49 dX12_lanes_49 rfl ?_
  refine ev_ialdJ (x := s0) (j := t) 50 dX12_lanes_50 (Nat.le_of_ble_eq_true rfl) ty_120 (pm_inI (by omega) (by omega)) (nI_clamp (by omega)) h2 ?_
  refine ev_iload_n 51 dX12_lanes_51 rfl ?_
  refine ev_ic_eq 52 58 dX12_lanes_52 rfl (fun c_52 => ?_) (fun c_52 => absurd h5 c_52)
  refine ev_iconst 58 dX12_lanes_58 kI_0 ?_
  refine ev_istore (ls' := [.ref 100, .int (nI t), .int b, .int (nI f), .int (nI N), .int 0, pmJ, pmJ]) 59 dX12_lanes_59 (Nat.le_of_ble_eq_true rfl) rfl ?_
  refine ev_iconst 61 dX12_lanes_61 kI_0 ?_
  refine ev_istore (ls' := [.ref 100, .int (nI t), .int b, .int (nI f), .int (nI N), .int 0, .int 0, pmJ]) 62 dX12_lanes_62 (Nat.le_of_ble_eq_true rfl) rfl ?_
  exact lp_lanesM hX ht hq60 hf60 hN8 hn8 hq hrow N 0 [] _ v (by omega) (CR.nil hln) (by simpa using hn8) K

theorem op_lanes {X : pmX} {d n tx z : Nat} {LT : pmT} {v : pmV} {a b c k : Int32} (hC : Cpl n tx z LT v) : EvP X (d + 20) MX11_lanes 0 [.ref 32, .int a, .int b, .int c, .int k, pmJ, pmJ, pmJ, pmJ] [] (pmT0 ++ LT) v (Aft X (d + 20) MX12_lanes [.ref 100, .int a, .int b, .int c, .int k, pmJ, pmJ, pmJ]) := by
  obtain ⟨hX, hL, hS, hR, hI, hT, hTa, hSh, hF⟩ := id hC
  have hn8 := hL.1
  by_cases h1 : 0 ≤ a ∧ a ≤ 3
  · obtain ⟨t, rfl, _, ht⟩ := nI_rng (a := 0) (b := 3) (by omega) (by omega) h1
    obtain ⟨⟨s1, s2, s3⟩, ⟨q, hq60, q1, q2⟩, hit⟩ := hSh t (by omega)
    by_cases hb : 0 ≤ b ∧ b ≤ 2
    · by_cases hk : 0 ≤ k ∧ k ≤ 8
      · by_cases h2 : v.1 (92 + 2 * t) 0 = -1
        · refine c_X11_lanes_4 (d := d + 12) hX (by omega) hb hk h2 ?_
          refine c_X12_lanes_4 (d := d + 17) hX (by omega) hb hk (s1.trans h2) ?_
          exact ⟨rfl, n, tx, z, LT, rfl, hC⟩
        · have h0 : 0 ≤ v.1 (92 + 2 * t) 0 := by grind
          by_cases h5 : v.1 (92 + 2 * t) 0 = b
          · obtain ⟨N, rfl, _, hN8⟩ := nI_rng (a := 0) (b := 8) (by omega) (by omega) hk
            by_cases hN0 : N = 0
            · subst hN0
              refine c_X11_lanes_0 (d := d + 12) hX (by omega) hb h2 h5 ?_
              refine c_X12_lanes_0 (d := d + 17) hX (by omega) hb s1 h0 h5 ?_
              exact ⟨rfl, n, tx, z, LT, rfl, hC⟩
            · by_cases hc : 0 ≤ c ∧ c ≤ 60
              · obtain ⟨f, rfl, _, hf60⟩ := nI_rng (a := 0) (b := 60) (by omega) (by omega) hc
                refine c_X11_lanes_ok (d := d + 12) hX (by omega) hb hk hN8 h2 h5 hq60 hf60 hn8 hL.2.1 q1 hL.2.2.1 (fun v1 x1 xd x8 => ?_)
                have g : ∀ a j, ¬ 124 + n ≤ a → ¬ (a = 32 ∧ j = 1) → v1.1 a j = v.1 a j := x1.1
                refine c_X12_lanes_ok (d := d + 17) (e := v) (LT := LT ++ lTy (lnD v t q f n N 0 []).1) (x1.rf hX) (by omega) hb hk hN8 ((g _ _ (by omega) (by omega)).trans s1) h0 h5 hq60 hf60 hn8 ((g _ _ (by omega) (by omega)).trans q2) (fun j hj => (g _ _ (by omega) (by omega)).trans (hit j hj)) ((g _ _ (by omega) (by omega)).trans hL.2.2.2.1) (fun v2 m1 => ?_)
                exact ⟨rfl, _, tx, z, _, rfl, hC.lanes x1 m1 xd x8⟩
              · refine c_X11_lanes_o (d := d + 12) hX (by omega) hb hk hN8 h2 h5 (by omega) (fun q => hc ?_) ?_
                · have e0 : c + 0 = c := by grind
                  rw [e0, q1] at q
                  exact ⟨q.1, Int32.le_trans q.2.1 (nI_le (b := 60) hq60 (by omega))⟩
                · refine c_X12_lanes_o (d := d + 17) hX (by omega) hb hk hN8 s1 h0 h5 (by omega) hq60 q2 hc ?_
                  exact ⟨rfl, n, tx, z, LT, rfl, hC⟩
          · refine c_X11_lanes_5 (d := d + 12) hX (by omega) hb hk h2 h5 ?_
            refine c_X12_lanes_5 (d := d + 17) hX (by omega) hb hk s1 h0 h5 ?_
            exact ⟨rfl, n, tx, z, LT, rfl, hC⟩
      · refine c_X11_lanes_3 (d := d + 12) hX (by omega) hb hk ?_
        refine c_X12_lanes_3 (d := d + 17) h1 hb hk ?_
        exact ⟨rfl, n, tx, z, LT, rfl, hC⟩
    · refine c_X11_lanes_2 (d := d + 12) hX (by omega) hb ?_
      refine c_X12_lanes_2 (d := d + 17) h1 hb ?_
      exact ⟨rfl, n, tx, z, LT, rfl, hC⟩
  · refine c_X11_lanes_1 (d := d + 12) hX h1 ?_
    refine c_X12_lanes_1 (d := d + 17) h1 ?_
    exact ⟨rfl, n, tx, z, LT, rfl, hC⟩
