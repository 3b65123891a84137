/-! lane: both sides -/
theorem c_init_X3_3 {X : pmX} {d : Nat} {v : pmV} {P : Option Value → pmT → pmV → Prop} {T : pmT} {a : Nat} {x0 x1 x2 : Int32} (hk : pmKind T a = 3) (h32 : 32 ≤ a) (k : P none T (uI (uI (uI v a 0 x0) a 1 x1) a 2 x2)) : EvP X (d + 1) MX3_init 0 [.ref a, .int x0, .int x1, .int x2] [] T v P := by
  refine ev_aload_n 0 dX3_init_0 rfl (by omega) ?_
  refine ev_obj 1 dX3_init_1 ob_3_1 (by omega) (Nat.le_of_ble_eq_true rfl) ?_
  refine ev_aload_n 4 dX3_init_4 rfl (by omega) ?_
  refine ev_iload_n 5 dX3_init_5 rfl ?_
  refine pf_3_7_3 (pc := 6) rfl dX3_init_6 hk rfl ?_
  refine ev_aload_n 9 dX3_init_9 rfl (by omega) ?_
  refine ev_iload_n 10 dX3_init_10 rfl ?_
  refine pf_3_13_3 (pc := 11) rfl dX3_init_11 hk rfl ?_
  refine ev_aload_n 14 dX3_init_14 rfl (by omega) ?_
  refine ev_iload_n 15 dX3_init_15 rfl ?_
  refine pf_3_16_3 (pc := 16) rfl dX3_init_16 hk rfl ?_
  refine ev_return 19 dX3_init_19 rfl ?_
  exact k

theorem c_init_X3_10 {X : pmX} {d : Nat} {v : pmV} {P : Option Value → pmT → pmV → Prop} {T : pmT} {a : Nat} {x0 x1 x2 : Int32} (hk : pmKind T a = 10) (h32 : 32 ≤ a) (k : P none T (uI (uI (uI v a 0 x0) a 1 x1) a 2 x2)) : EvP X (d + 1) MX3_init 0 [.ref a, .int x0, .int x1, .int x2] [] T v P := by
  refine ev_aload_n 0 dX3_init_0 rfl (by omega) ?_
  refine ev_obj 1 dX3_init_1 ob_3_1 (by omega) (Nat.le_of_ble_eq_true rfl) ?_
  refine ev_aload_n 4 dX3_init_4 rfl (by omega) ?_
  refine ev_iload_n 5 dX3_init_5 rfl ?_
  refine pf_3_7_10 (pc := 6) rfl dX3_init_6 hk rfl ?_
  refine ev_aload_n 9 dX3_init_9 rfl (by omega) ?_
  refine ev_iload_n 10 dX3_init_10 rfl ?_
  refine pf_3_13_10 (pc := 11) rfl dX3_init_11 hk rfl ?_
  refine ev_aload_n 14 dX3_init_14 rfl (by omega) ?_
  refine ev_iload_n 15 dX3_init_15 rfl ?_
  refine pf_3_16_10 (pc := 16) rfl dX3_init_16 hk rfl ?_
  refine ev_return 19 dX3_init_19 rfl ?_
  exact k

theorem c_init_X10_10 {X : pmX} {d : Nat} {v : pmV} {P : Option Value → pmT → pmV → Prop} {T : pmT} {a : Nat} {x0 x1 x2 : Int32} (hk : pmKind T a = 10) (h32 : 32 ≤ a) (k : P none T (uI (uI (uI v a 0 x0) a 1 x1) a 2 x2)) : EvP X (d + 2) MX10_init 0 [.ref a, .int x0, .int x1, .int x2] [] T v P := by
  refine ev_aload_n 0 dX10_init_0 rfl (by omega) ?_
  refine ev_iload_n 1 dX10_init_1 rfl ?_
  refine ev_iload_n 2 dX10_init_2 rfl ?_
  refine ev_iload_n 3 dX10_init_3 rfl ?_
  refine cp_10_1 (pc := 4) rfl dX10_init_4 hk (Nat.le_of_ble_eq_true rfl) (by decide) ?_
  refine c_init_X3_10 hk h32 ?_
  refine ev_return 7 dX10_init_7 rfl ?_
  exact k

theorem c_init_X3_0 {X : pmX} {d : Nat} {v : pmV} {P : Option Value → pmT → pmV → Prop} {T : pmT} {a : Nat} {x0 x1 x2 : Int32} (hk : pmKind T a = 0) (h32 : 32 ≤ a) (k : P none T (uI (uI (uI v a 0 x0) a 1 x1) a 2 x2)) : EvP X (d + 1) MX3_init 0 [.ref a, .int x0, .int x1, .int x2] [] T v P := by
  refine ev_aload_n 0 dX3_init_0 rfl (by omega) ?_
  refine ev_obj 1 dX3_init_1 ob_3_1 (by omega) (Nat.le_of_ble_eq_true rfl) ?_
  refine ev_aload_n 4 dX3_init_4 rfl (by omega) ?_
  refine ev_iload_n 5 dX3_init_5 rfl ?_
  refine pf_3_7_0 (pc := 6) rfl dX3_init_6 hk rfl ?_
  refine ev_aload_n 9 dX3_init_9 rfl (by omega) ?_
  refine ev_iload_n 10 dX3_init_10 rfl ?_
  refine pf_3_13_0 (pc := 11) rfl dX3_init_11 hk rfl ?_
  refine ev_aload_n 14 dX3_init_14 rfl (by omega) ?_
  refine ev_iload_n 15 dX3_init_15 rfl ?_
  refine pf_3_16_0 (pc := 16) rfl dX3_init_16 hk rfl ?_
  refine ev_return 19 dX3_init_19 rfl ?_
  exact k

theorem c_init_X0_0 {X : pmX} {d : Nat} {v : pmV} {P : Option Value → pmT → pmV → Prop} {T : pmT} {a : Nat} {x0 x1 x2 : Int32} (hk : pmKind T a = 0) (h32 : 32 ≤ a) (k : P none T (uI (uI (uI v a 0 x0) a 1 x1) a 2 x2)) : EvP X (d + 2) MX0_init 0 [.ref a, .int x0, .int x1, .int x2] [] T v P := by
  refine ev_aload_n 0 dX0_init_0 rfl (by omega) ?_
  refine ev_iload_n 1 dX0_init_1 rfl ?_
  refine ev_iload_n 2 dX0_init_2 rfl ?_
  refine ev_iload_n 3 dX0_init_3 rfl ?_
  refine cp_0_1 (pc := 4) rfl dX0_init_4 hk (Nat.le_of_ble_eq_true rfl) (by decide) ?_
  refine c_init_X3_0 hk h32 ?_
  refine ev_return 7 dX0_init_7 rfl ?_
  exact k

theorem c_init_X3_7 {X : pmX} {d : Nat} {v : pmV} {P : Option Value → pmT → pmV → Prop} {T : pmT} {a : Nat} {x0 x1 x2 : Int32} (hk : pmKind T a = 7) (h32 : 32 ≤ a) (k : P none T (uI (uI (uI v a 0 x0) a 1 x1) a 2 x2)) : EvP X (d + 1) MX3_init 0 [.ref a, .int x0, .int x1, .int x2] [] T v P := by
  refine ev_aload_n 0 dX3_init_0 rfl (by omega) ?_
  refine ev_obj 1 dX3_init_1 ob_3_1 (by omega) (Nat.le_of_ble_eq_true rfl) ?_
  refine ev_aload_n 4 dX3_init_4 rfl (by omega) ?_
  refine ev_iload_n 5 dX3_init_5 rfl ?_
  refine pf_3_7_7 (pc := 6) rfl dX3_init_6 hk rfl ?_
  refine ev_aload_n 9 dX3_init_9 rfl (by omega) ?_
  refine ev_iload_n 10 dX3_init_10 rfl ?_
  refine pf_3_13_7 (pc := 11) rfl dX3_init_11 hk rfl ?_
  refine ev_aload_n 14 dX3_init_14 rfl (by omega) ?_
  refine ev_iload_n 15 dX3_init_15 rfl ?_
  refine pf_3_16_7 (pc := 16) rfl dX3_init_16 hk rfl ?_
  refine ev_return 19 dX3_init_19 rfl ?_
  exact k

theorem c_init_X10_7 {X : pmX} {d : Nat} {v : pmV} {P : Option Value → pmT → pmV → Prop} {T : pmT} {a : Nat} {x0 x1 x2 : Int32} (hk : pmKind T a = 7) (h32 : 32 ≤ a) (k : P none T (uI (uI (uI v a 0 x0) a 1 x1) a 2 x2)) : EvP X (d + 2) MX10_init 0 [.ref a, .int x0, .int x1, .int x2] [] T v P := by
  refine ev_aload_n 0 dX10_init_0 rfl (by omega) ?_
  refine ev_iload_n 1 dX10_init_1 rfl ?_
  refine ev_iload_n 2 dX10_init_2 rfl ?_
  refine ev_iload_n 3 dX10_init_3 rfl ?_
  refine cp_10_1 (pc := 4) rfl dX10_init_4 hk (Nat.le_of_ble_eq_true rfl) (by decide) ?_
  refine c_init_X3_7 hk h32 ?_
  refine ev_return 7 dX10_init_7 rfl ?_
  exact k

theorem c_init_X7_7 {X : pmX} {d : Nat} {v : pmV} {P : Option Value → pmT → pmV → Prop} {T : pmT} {a : Nat} {x0 x1 x2 : Int32} (hk : pmKind T a = 7) (h32 : 32 ≤ a) (k : P none T (uI (uI (uI v a 0 x0) a 1 x1) a 2 x2)) : EvP X (d + 3) MX7_init 0 [.ref a, .int x0, .int x1, .int x2] [] T v P := by
  refine ev_aload_n 0 dX7_init_0 rfl (by omega) ?_
  refine ev_iload_n 1 dX7_init_1 rfl ?_
  refine ev_iload_n 2 dX7_init_2 rfl ?_
  refine ev_iload_n 3 dX7_init_3 rfl ?_
  refine cp_7_1 (pc := 4) rfl dX7_init_4 hk (Nat.le_of_ble_eq_true rfl) (by decide) ?_
  refine c_init_X10_7 hk h32 ?_
  refine ev_return 7 dX7_init_7 rfl ?_
  exact k

theorem c_init_X3_8 {X : pmX} {d : Nat} {v : pmV} {P : Option Value → pmT → pmV → Prop} {T : pmT} {a : Nat} {x0 x1 x2 : Int32} (hk : pmKind T a = 8) (h32 : 32 ≤ a) (k : P none T (uI (uI (uI v a 0 x0) a 1 x1) a 2 x2)) : EvP X (d + 1) MX3_init 0 [.ref a, .int x0, .int x1, .int x2] [] T v P := by
  refine ev_aload_n 0 dX3_init_0 rfl (by omega) ?_
  refine ev_obj 1 dX3_init_1 ob_3_1 (by omega) (Nat.le_of_ble_eq_true rfl) ?_
  refine ev_aload_n 4 dX3_init_4 rfl (by omega) ?_
  refine ev_iload_n 5 dX3_init_5 rfl ?_
  refine pf_3_7_8 (pc := 6) rfl dX3_init_6 hk rfl ?_
  refine ev_aload_n 9 dX3_init_9 rfl (by omega) ?_
  refine ev_iload_n 10 dX3_init_10 rfl ?_
  refine pf_3_13_8 (pc := 11) rfl dX3_init_11 hk rfl ?_
  refine ev_aload_n 14 dX3_init_14 rfl (by omega) ?_
  refine ev_iload_n 15 dX3_init_15 rfl ?_
  refine pf_3_16_8 (pc := 16) rfl dX3_init_16 hk rfl ?_
  refine ev_return 19 dX3_init_19 rfl ?_
  exact k

theorem c_init_X0_8 {X : pmX} {d : Nat} {v : pmV} {P : Option Value → pmT → pmV → Prop} {T : pmT} {a : Nat} {x0 x1 x2 : Int32} (hk : pmKind T a = 8) (h32 : 32 ≤ a) (k : P none T (uI (uI (uI v a 0 x0) a 1 x1) a 2 x2)) : EvP X (d + 2) MX0_init 0 [.ref a, .int x0, .int x1, .int x2] [] T v P := by
  refine ev_aload_n 0 dX0_init_0 rfl (by omega) ?_
  refine ev_iload_n 1 dX0_init_1 rfl ?_
  refine ev_iload_n 2 dX0_init_2 rfl ?_
  refine ev_iload_n 3 dX0_init_3 rfl ?_
  refine cp_0_1 (pc := 4) rfl dX0_init_4 hk (Nat.le_of_ble_eq_true rfl) (by decide) ?_
  refine c_init_X3_8 hk h32 ?_
  refine ev_return 7 dX0_init_7 rfl ?_
  exact k

theorem c_init_X8_8 {X : pmX} {d : Nat} {v : pmV} {P : Option Value → pmT → pmV → Prop} {T : pmT} {a : Nat} {x0 x1 x2 : Int32} (hk : pmKind T a = 8) (h32 : 32 ≤ a) (k : P none T (uI (uI (uI v a 0 x0) a 1 x1) a 2 x2)) : EvP X (d + 3) MX8_init 0 [.ref a, .int x0, .int x1, .int x2] [] T v P := by
  refine ev_aload_n 0 dX8_init_0 rfl (by omega) ?_
  refine ev_iload_n 1 dX8_init_1 rfl ?_
  refine ev_iload_n 2 dX8_init_2 rfl ?_
  refine ev_iload_n 3 dX8_init_3 rfl ?_
  refine cp_8_1 (pc := 4) rfl dX8_init_4 hk (Nat.le_of_ble_eq_true rfl) (by decide) ?_
  refine c_init_X0_8 hk h32 ?_
  refine ev_return 7 dX8_init_7 rfl ?_
  exact k

theorem c_init_X3_2 {X : pmX} {d : Nat} {v : pmV} {P : Option Value → pmT → pmV → Prop} {T : pmT} {a : Nat} {x0 x1 x2 : Int32} (hk : pmKind T a = 2) (h32 : 32 ≤ a) (k : P none T (uI (uI (uI v a 0 x0) a 1 x1) a 2 x2)) : EvP X (d + 1) MX3_init 0 [.ref a, .int x0, .int x1, .int x2] [] T v P := by
  refine ev_aload_n 0 dX3_init_0 rfl (by omega) ?_
  refine ev_obj 1 dX3_init_1 ob_3_1 (by omega) (Nat.le_of_ble_eq_true rfl) ?_
  refine ev_aload_n 4 dX3_init_4 rfl (by omega) ?_
  refine ev_iload_n 5 dX3_init_5 rfl ?_
  refine pf_3_7_2 (pc := 6) rfl dX3_init_6 hk rfl ?_
  refine ev_aload_n 9 dX3_init_9 rfl (by omega) ?_
  refine ev_iload_n 10 dX3_init_10 rfl ?_
  refine pf_3_13_2 (pc := 11) rfl dX3_init_11 hk rfl ?_
  refine ev_aload_n 14 dX3_init_14 rfl (by omega) ?_
  refine ev_iload_n 15 dX3_init_15 rfl ?_
  refine pf_3_16_2 (pc := 16) rfl dX3_init_16 hk rfl ?_
  refine ev_return 19 dX3_init_19 rfl ?_
  exact k

theorem c_init_X2_2 {X : pmX} {d : Nat} {v : pmV} {P : Option Value → pmT → pmV → Prop} {T : pmT} {a : Nat} {x0 x1 x2 : Int32} (hk : pmKind T a = 2) (h32 : 32 ≤ a) (k : P none T (uI (uI (uI v a 0 x0) a 1 x1) a 2 x2)) : EvP X (d + 2) MX2_init 0 [.ref a, .int x0, .int x1, .int x2] [] T v P := by
  refine ev_aload_n 0 dX2_init_0 rfl (by omega) ?_
  refine ev_iload_n 1 dX2_init_1 rfl ?_
  refine ev_iload_n 2 dX2_init_2 rfl ?_
  refine ev_iload_n 3 dX2_init_3 rfl ?_
  refine cp_2_1 (pc := 4) rfl dX2_init_4 hk (Nat.le_of_ble_eq_true rfl) (by decide) ?_
  refine c_init_X3_2 hk h32 ?_
  refine ev_return 7 dX2_init_7 rfl ?_
  exact k

theorem kd_new {T : pmT} {ci m : Nat} (h : ci < 13) : pmKind (T ++ [(ci, m)]) (32 + T.length) = ci := by
  unfold pmKind
  rw [if_neg (by omega), show 32 + T.length - 32 = T.length by omega, List.getElem?_append_right (by omega), Nat.sub_self]
  exact if_pos h
/-- a new lane's cells -/
def nwL (v : pmV) (a : Nat) (x0 x1 x2 : Int32) : pmV := uI (uI (uI (pmNew v a) a 0 x0) a 1 x1) a 2 x2
theorem c_X11_newLane {X : pmX} {d : Nat} {v : pmV} {P : Option Value → pmT → pmV → Prop} {T : pmT} {x0 x1 x2 : Int32} (h : 0 ≤ x0 ∧ x0 ≤ 5) (k : P (some (.ref (32 + T.length))) (T ++ [(kcl x0, 3)]) (nwL v (32 + T.length) x0 x1 x2)) : EvP X (d + 4) MX11_newLane 0 [.int x0, .int x1, .int x2] [] T v P := by
  rcases kd6 h with rfl | rfl | rfl | rfl | rfl | rfl
  · refine ev_iload_n 0 dX11_newLane_0 rfl ?_
    refine ev_swOut 1 91 dX11_newLane_1 (by decide) rfl ?_
    refine ev_new 91 dX11_newLane_91 rfl (by decide) ?_
    refine ev_dup 94 dX11_newLane_94 rfl ?_
    refine ev_iload_n 95 dX11_newLane_95 rfl ?_
    refine ev_iload_n 96 dX11_newLane_96 rfl ?_
    refine ev_iload_n 97 dX11_newLane_97 rfl ?_
    refine cp_11_286 (pc := 98) rfl dX11_newLane_98 (ci := 3) (kd_new (by decide)) (Nat.le_of_ble_eq_true rfl) (by decide) ?_
    refine c_init_X3_3 (d := d + 2) (kd_new (by decide)) (by omega) ?_
    refine ev_areturn 101 dX11_newLane_101 rfl (by omega) ?_
    exact k
  · refine ev_iload_n 0 dX11_newLane_0 rfl ?_
    refine ev_swIn 1 36 dX11_newLane_1 (by decide) rfl rfl ?_
    refine ev_new 36 dX11_newLane_36 rfl (by decide) ?_
    refine ev_dup 39 dX11_newLane_39 rfl ?_
    refine ev_iload_n 40 dX11_newLane_40 rfl ?_
    refine ev_iload_n 41 dX11_newLane_41 rfl ?_
    refine ev_iload_n 42 dX11_newLane_42 rfl ?_
    refine cp_11_272 (pc := 43) rfl dX11_newLane_43 (ci := 10) (kd_new (by decide)) (Nat.le_of_ble_eq_true rfl) (by decide) ?_
    refine c_init_X10_10 (d := d + 1) (kd_new (by decide)) (by omega) ?_
    refine ev_areturn 46 dX11_newLane_46 rfl (by omega) ?_
    exact k
  · refine ev_iload_n 0 dX11_newLane_0 rfl ?_
    refine ev_swIn 1 47 dX11_newLane_1 (by decide) rfl rfl ?_
    refine ev_new 47 dX11_newLane_47 rfl (by decide) ?_
    refine ev_dup 50 dX11_newLane_50 rfl ?_
    refine ev_iload_n 51 dX11_newLane_51 rfl ?_
    refine ev_iload_n 52 dX11_newLane_52 rfl ?_
    refine ev_iload_n 53 dX11_newLane_53 rfl ?_
    refine cp_11_276 (pc := 54) rfl dX11_newLane_54 (ci := 0) (kd_new (by decide)) (Nat.le_of_ble_eq_true rfl) (by decide) ?_
    refine c_init_X0_0 (d := d + 1) (kd_new (by decide)) (by omega) ?_
    refine ev_areturn 57 dX11_newLane_57 rfl (by omega) ?_
    exact k
  · refine ev_iload_n 0 dX11_newLane_0 rfl ?_
    refine ev_swIn 1 58 dX11_newLane_1 (by decide) rfl rfl ?_
    refine ev_new 58 dX11_newLane_58 rfl (by decide) ?_
    refine ev_dup 61 dX11_newLane_61 rfl ?_
    refine ev_iload_n 62 dX11_newLane_62 rfl ?_
    refine ev_iload_n 63 dX11_newLane_63 rfl ?_
    refine ev_iload_n 64 dX11_newLane_64 rfl ?_
    refine cp_11_279 (pc := 65) rfl dX11_newLane_65 (ci := 7) (kd_new (by decide)) (Nat.le_of_ble_eq_true rfl) (by decide) ?_
    refine c_init_X7_7 (d := d + 0) (kd_new (by decide)) (by omega) ?_
    refine ev_areturn 68 dX11_newLane_68 rfl (by omega) ?_
    exact k
  · refine ev_iload_n 0 dX11_newLane_0 rfl ?_
    refine ev_swIn 1 69 dX11_newLane_1 (by decide) rfl rfl ?_
    refine ev_new 69 dX11_newLane_69 rfl (by decide) ?_
    refine ev_dup 72 dX11_newLane_72 rfl ?_
    refine ev_iload_n 73 dX11_newLane_73 rfl ?_
    refine ev_iload_n 74 dX11_newLane_74 rfl ?_
    refine ev_iload_n 75 dX11_newLane_75 rfl ?_
    refine cp_11_282 (pc := 76) rfl dX11_newLane_76 (ci := 8) (kd_new (by decide)) (Nat.le_of_ble_eq_true rfl) (by decide) ?_
    refine c_init_X8_8 (d := d + 0) (kd_new (by decide)) (by omega) ?_
    refine ev_areturn 79 dX11_newLane_79 rfl (by omega) ?_
    exact k
  · refine ev_iload_n 0 dX11_newLane_0 rfl ?_
    refine ev_swIn 1 80 dX11_newLane_1 (by decide) rfl rfl ?_
    refine ev_new 80 dX11_newLane_80 rfl (by decide) ?_
    refine ev_dup 83 dX11_newLane_83 rfl ?_
    refine ev_iload_n 84 dX11_newLane_84 rfl ?_
    refine ev_iload_n 85 dX11_newLane_85 rfl ?_
    refine ev_iload_n 86 dX11_newLane_86 rfl ?_
    refine cp_11_285 (pc := 87) rfl dX11_newLane_87 (ci := 2) (kd_new (by decide)) (Nat.le_of_ble_eq_true rfl) (by decide) ?_
    refine c_init_X2_2 (d := d + 1) (kd_new (by decide)) (by omega) ?_
    refine ev_areturn 90 dX11_newLane_90 rfl (by omega) ?_
    exact k
theorem rf124 : ∀ q ∈ pmRfL, q.1 < 124 ∧ q.1 ≠ 33 := by decide
abbrev lT : Type := Int32 × Int32 × Int32
def lOk (d : lT) : Prop := (0 ≤ d.1 ∧ d.1 ≤ 5) ∧ (0 ≤ d.2.1 ∧ d.2.1 ≤ 20) ∧ (0 ≤ d.2.2 ∧ d.2.2 ≤ 1)
def lTy (D : List lT) : pmT := D.map fun d => (kcl d.1, 3)
theorem nwl_off {v : pmV} {a b j : Nat} {x0 x1 x2 : Int32} (h : b ≠ a) : (nwL v a x0 x1 x2).1 b j = v.1 b j := by
  unfold nwL
  rw [uI_ne h, uI_ne h, uI_ne h]; exact if_neg h
/-- lanes that came, on the class's side -/
def CX (n : Nat) (D : List lT) (v v' : pmV) : Prop := (∀ a j, ¬ 124 + n ≤ a → ¬ (a = 32 ∧ j = 1) → v'.1 a j = v.1 a j) ∧ v'.1 32 1 = nI (n + D.length) ∧ (∀ j d, D[j]? = some d → v'.1 (124 + (n + j)) 0 = d.1 ∧ v'.1 (124 + (n + j)) 1 = d.2.1 ∧ v'.1 (124 + (n + j)) 2 = d.2.2 ∧ v'.2.2 33 (n + j) = some (124 + (n + j))) ∧ ∀ a j, ¬ 124 + n ≤ a → ¬ (a = 33 ∧ n ≤ j) → v'.2.2 a j = v.2.2 a j
/-- on the reference's -/
def CR (n : Nat) (D : List lT) (v v' : pmV) : Prop := (∀ a j, ¬ ((a = 101 ∨ a = 102 ∨ a = 103) ∧ n ≤ j) → ¬ (a = 100 ∧ j = 0) → v'.1 a j = v.1 a j) ∧ v'.1 100 0 = nI (n + D.length) ∧ (∀ j d, D[j]? = some d → v'.1 101 (n + j) = d.1 ∧ v'.1 102 (n + j) = d.2.1 ∧ v'.1 103 (n + j) = d.2.2) ∧ v'.2.2 = v.2.2
theorem CX.rf {n : Nat} {D : List lT} {v v' : pmV} (h : CX n D v v') (hX : pmRf v) : pmRf v' := fun q hq => (h.2.2.2 _ _ (by have := (rf124 q hq).1; omega) (fun z => (rf124 q hq).2 z.1)).trans (hX q hq)
theorem CX.nil {n : Nat} {v : pmV} (h : v.1 32 1 = nI n) : CX n [] v v := ⟨fun _ _ _ _ => rfl, h, fun j d hd => by simp at hd, fun _ _ _ _ => rfl⟩
theorem CR.nil {n : Nat} {v : pmV} (h : v.1 100 0 = nI n) : CR n [] v v := ⟨fun _ _ _ _ => rfl, h, fun j d hd => by simp at hd, rfl⟩
/-- one lane more: the class's cells -/
def adX (v : pmV) (n : Nat) (d : lT) : pmV := uI (uR (nwL v (124 + n) d.1 d.2.1 d.2.2) 33 n (some (124 + n))) 32 1 (nI (n + 1))
def adM (v : pmV) (n : Nat) (d : lT) : pmV := uI (uI (uI (uI v 101 n d.1) 102 n d.2.1) 103 n d.2.2) 100 0 (nI (n + 1))
theorem snoc_get {α : Type} {D : List α} {d x : α} {j : Nat} (h : (D ++ [d])[j]? = some x) : (D[j]? = some x ∧ j < D.length) ∨ (j = D.length ∧ x = d) := by
  by_cases hj : j < D.length
  · rw [List.getElem?_append_left hj] at h; exact Or.inl ⟨h, hj⟩
  · rw [List.getElem?_append_right (by omega)] at h
    by_cases e : j = D.length
    · subst e; rw [Nat.sub_self] at h; exact Or.inr ⟨rfl, (Option.some.inj h).symm⟩
    · rw [List.getElem?_eq_none (by simp; omega)] at h; cases h
theorem CX.snoc {n : Nat} {D : List lT} {v v' : pmV} (h : CX n D v v') (d : lT) : CX n (D ++ [d]) v (adX v' (n + D.length) d) := by
  have off1 : ∀ a j, a ≠ 124 + (n + D.length) → ¬ (a = 32 ∧ j = 1) → (adX v' (n + D.length) d).1 a j = v'.1 a j := fun a j h1 h2 => by
    unfold adX nwL
    rw [uI_off h2]
    show (uI (uI (uI (pmNew v' (124 + (n + D.length))) (124 + (n + D.length)) 0 d.1) (124 + (n + D.length)) 1 d.2.1) (124 + (n + D.length)) 2 d.2.2).1 a j = _
    rw [uI_ne h1, uI_ne h1, uI_ne h1]; exact if_neg h1
  have off2 : ∀ a j, a ≠ 124 + (n + D.length) → ¬ (a = 33 ∧ j = n + D.length) → (adX v' (n + D.length) d).2.2 a j = v'.2.2 a j := fun a j h1 h2 => by
    unfold adX nwL
    show (uR (uI (uI (uI (pmNew v' (124 + (n + D.length))) (124 + (n + D.length)) 0 d.1) (124 + (n + D.length)) 1 d.2.1) (124 + (n + D.length)) 2 d.2.2) 33 (n + D.length) (some (124 + (n + D.length)))).2.2 a j = _
    rw [uR_off h2]; exact if_neg h1
  have on : (adX v' (n + D.length) d).1 (124 + (n + D.length)) 0 = d.1 ∧ (adX v' (n + D.length) d).1 (124 + (n + D.length)) 1 = d.2.1 ∧ (adX v' (n + D.length) d).1 (124 + (n + D.length)) 2 = d.2.2 := by
    unfold adX nwL
    refine ⟨?_, ?_, ?_⟩
    · rw [uI_off (by omega)]
      show (uI (uI (uI (pmNew v' (124 + (n + D.length))) (124 + (n + D.length)) 0 d.1) (124 + (n + D.length)) 1 d.2.1) (124 + (n + D.length)) 2 d.2.2).1 _ 0 = _
      rw [uI_off (by omega), uI_off (by omega), uI_on]
    · rw [uI_off (by omega)]
      show (uI (uI (uI (pmNew v' (124 + (n + D.length))) (124 + (n + D.length)) 0 d.1) (124 + (n + D.length)) 1 d.2.1) (124 + (n + D.length)) 2 d.2.2).1 _ 1 = _
      rw [uI_off (by omega), uI_on]
    · rw [uI_off (by omega)]
      show (uI (uI (uI (pmNew v' (124 + (n + D.length))) (124 + (n + D.length)) 0 d.1) (124 + (n + D.length)) 1 d.2.1) (124 + (n + D.length)) 2 d.2.2).1 _ 2 = _
      rw [uI_on]
  refine ⟨fun a j h1 h2 => (off1 a j (by omega) h2).trans (h.1 a j h1 h2), ?_, fun j x hx => ?_, fun a j h1 h2 => (off2 a j (by omega) (fun z => h2 ⟨z.1, by omega⟩)).trans (h.2.2.2 a j h1 h2)⟩
  · unfold adX; rw [uI_on, List.length_append]; rfl
  · rcases snoc_get hx with ⟨hx, hj⟩ | ⟨rfl, rfl⟩
    · obtain ⟨a1, a2, a3, a4⟩ := h.2.2.1 j x hx
      rw [off1 _ _ (by omega) (by omega), off1 _ _ (by omega) (by omega), off1 _ _ (by omega) (by omega), off2 _ _ (by omega) (by omega)]
      exact ⟨a1, a2, a3, a4⟩
    · refine ⟨on.1, on.2.1, on.2.2, ?_⟩
      unfold adX nwL
      show (uR (uI (uI (uI (pmNew v' (124 + (n + D.length))) (124 + (n + D.length)) 0 x.1) (124 + (n + D.length)) 1 x.2.1) (124 + (n + D.length)) 2 x.2.2) 33 (n + D.length) (some (124 + (n + D.length)))).2.2 33 (n + D.length) = _
      rw [uR_on]
theorem CR.snoc {n : Nat} {D : List lT} {v v' : pmV} (h : CR n D v v') (d : lT) : CR n (D ++ [d]) v (adM v' (n + D.length) d) := by
  have off : ∀ a j, ¬ ((a = 101 ∨ a = 102 ∨ a = 103) ∧ j = n + D.length) → ¬ (a = 100 ∧ j = 0) → (adM v' (n + D.length) d).1 a j = v'.1 a j := fun a j h1 h2 => by
    unfold adM; rw [uI_off h2, uI_off (by omega), uI_off (by omega), uI_off (by omega)]
  refine ⟨fun a j h1 h2 => (off a j (by omega) h2).trans (h.1 a j h1 h2), ?_, fun j x hx => ?_, h.2.2.2⟩
  · unfold adM; rw [uI_on, List.length_append]; rfl
  · rcases snoc_get hx with ⟨hx, hj⟩ | ⟨rfl, rfl⟩
    · rw [off _ _ (by omega) (by omega), off _ _ (by omega) (by omega), off _ _ (by omega) (by omega)]
      exact h.2.2.1 j x hx
    · unfold adM
      refine ⟨?_, ?_, ?_⟩
      · rw [uI_off (by omega), uI_off (by omega), uI_off (by omega), uI_on]
      · rw [uI_off (by omega), uI_off (by omega), uI_on]
      · rw [uI_off (by omega), uI_on]
theorem Cpl.lanes {n tx z : Nat} {LT : pmT} {v v1 v2 : pmV} {D : List lT} (hC : Cpl n tx z LT v) (h1 : CX n D v v1) (h2 : CR n D v1 v2) (hD : ∀ d, d ∈ D → lOk d) (h8 : n + D.length ≤ 8) : Cpl (n + D.length) tx z (LT ++ lTy D) v2 := by
  obtain ⟨hX, hL, hS, hR, hI, hT, hTa, hSh, hF⟩ := hC
  have ag : ∀ S : Nat → Nat → Prop, (∀ a j, S a j → ¬ sLan a j) → Ag S v v2 := fun S hn a j q => by
    have := hn a j q
    unfold sLan at this
    exact (h2.1 a j (by omega) (by omega)).trans (h1.1 a j (by omega) (by omega))
  refine ⟨(h1.rf hX).ag h2.2.2.2, ⟨h8, ?_, ?_, h2.2.1, fun i hi => ?_⟩, hS.ag (ag _ ?_), hR.ag (ag _ ?_), hI.ag (ag _ ?_), hT.ag (ag _ ?_), hTa.ag (ag _ ?_), hSh.ag (ag _ ?_), hF.ag (ag _ ?_)⟩
  · rw [List.length_append, hL.2.1]; unfold lTy; rw [List.length_map]
  · rw [h2.1 32 1 (by omega) (by omega)]; exact h1.2.1
  · rw [h2.2.2.2, h2.1 (124 + i) 0 (by omega) (by omega), h2.1 (124 + i) 1 (by omega) (by omega), h2.1 (124 + i) 2 (by omega) (by omega)]
    by_cases hn : i < n
    · rw [h2.1 101 i (by omega) (by omega), h2.1 102 i (by omega) (by omega), h2.1 103 i (by omega) (by omega), h1.1 101 i (by omega) (by omega), h1.1 102 i (by omega) (by omega), h1.1 103 i (by omega) (by omega), h1.1 (124 + i) 0 (by omega) (by omega), h1.1 (124 + i) 1 (by omega) (by omega), h1.1 (124 + i) 2 (by omega) (by omega), h1.2.2.2 33 i (by omega) (by omega), List.getElem?_append_left (by rw [hL.2.1]; exact hn)]
      exact hL.2.2.2.2 i hn
    · obtain ⟨j, rfl⟩ : ∃ j, i = n + j := ⟨i - n, by omega⟩
      have hj : j < D.length := by omega
      have hd : D[j]? = some D[j] := List.getElem?_eq_getElem hj
      obtain ⟨a1, a2, a3, a4⟩ := h1.2.2.1 j _ hd
      obtain ⟨b1, b2, b3⟩ := h2.2.2.1 j _ hd
      have ok := hD _ (List.getElem_mem hj)
      rw [a1, a2, a3, a4, b1, b2, b3, List.getElem?_append_right (by rw [hL.2.1]; omega), hL.2.1, Nat.add_sub_cancel_left]
      refine ⟨rfl, ?_, rfl, rfl, rfl, ok.1, ok.2.1, ok.2.2⟩
      unfold lTy; rw [List.getElem?_map, hd]; rfl
  all_goals intro a j h; first | (unfold sSet at h; unfold sLan; omega) | (unfold sRule at h; unfold sLan; omega) | (unfold sImg at h; unfold sLan; omega) | (unfold sTxt at h; unfold sLan; omega) | (unfold sTape at h; unfold sLan; omega) | (unfold sShe at h; unfold sLan; omega) | (unfold sFix at h; unfold sLan; omega)
theorem new_at {LT : pmT} {n : Nat} {t : Nat × Nat} (h : LT.length = n) : (pmT0 ++ (LT ++ [t]))[124 + n - 32]? = some t := by
  rw [List.getElem?_append_right (by show 92 ≤ _; omega), show 124 + n - 32 - pmT0.length = n by show 124 + n - 32 - 92 = n; omega, List.getElem?_append_right (by omega), h, Nat.sub_self]; rfl
theorem kcl_cast {k : Int32} : kcl k < 13 ∧ (kcl k = pmItem 22 ∨ (kcl k, pmItem 22) ∈ pmCast) := by
  unfold kcl
  split
  · decide
  · split
    · decide
    · split
      · decide
      · split
        · decide
        · split <;> decide
theorem c_X11_lane_1 {X : pmX} {d : Nat} {v : pmV} {P : Option Value → pmT → pmV → Prop} {LT : pmT} {a b c : Int32} (h1 : ¬ (0 ≤ a ∧ a ≤ 5)) (k : P (some (.int (-2))) (pmT0 ++ LT) v) : EvP X (d + 6) MX11_lane 0 [.ref 32, .int a, .int b, .int c] [] (pmT0 ++ LT) v P := by
  refine ev_iload_n 0 dX11_lane_0 rfl ?_
  refine ev_iconst 1 dX11_lane_1 kI_0 ?_
  refine ev_iconst 2 dX11_lane_2 kI_5 ?_
  refine cs_11_74 (pc := 3) rfl dX11_lane_3 (Nat.le_of_ble_eq_true rfl) ?_
  refine c_X11_isIn (fun h_3 => absurd h_3 h1) (fun h_3 => ?_)
  refine ev_ifT 6 28 dX11_lane_6 rfl (by decide) ?_
  refine ev_bipush 28 dX11_lane_28 kB_m2 ?_
  refine ev_ireturn 30 dX11_lane_30 rfl rfl ?_
  exact k

theorem c_X11_lane_2 {X : pmX} {d : Nat} {v : pmV} {P : Option Value → pmT → pmV → Prop} {LT : pmT} {a b c : Int32} (h1 : 0 ≤ a ∧ a ≤ 5) (h2 : ¬ (0 ≤ b ∧ b ≤ 20)) (k : P (some (.int (-2))) (pmT0 ++ LT) v) : EvP X (d + 6) MX11_lane 0 [.ref 32, .int a, .int b, .int c] [] (pmT0 ++ LT) v P := by
  refine ev_iload_n 0 dX11_lane_0 rfl ?_
  refine ev_iconst 1 dX11_lane_1 kI_0 ?_
  refine ev_iconst 2 dX11_lane_2 kI_5 ?_
  refine cs_11_74 (pc := 3) rfl dX11_lane_3 (Nat.le_of_ble_eq_true rfl) ?_
  refine c_X11_isIn (fun h_3 => ?_) (fun h_3 => absurd h1 h_3)
  refine ev_ifF 6 28 dX11_lane_6 rfl (by decide) ?_
  refine ev_iload_n 9 dX11_lane_9 rfl ?_
  refine ev_iconst 10 dX11_lane_10 kI_0 ?_
  refine ev_bipush 11 dX11_lane_11 kB_20 ?_
  refine cs_11_74 (pc := 13) rfl dX11_lane_13 (Nat.le_of_ble_eq_true rfl) ?_
  refine c_X11_isIn (fun h_13 => absurd h_13 h2) (fun h_13 => ?_)
  refine ev_ifT 16 28 dX11_lane_16 rfl (by decide) ?_
  refine ev_bipush 28 dX11_lane_28 kB_m2 ?_
  refine ev_ireturn 30 dX11_lane_30 rfl rfl ?_
  exact k

theorem c_X11_lane_3 {X : pmX} {d : Nat} {v : pmV} {P : Option Value → pmT → pmV → Prop} {LT : pmT} {a b c : Int32} (h1 : 0 ≤ a ∧ a ≤ 5) (h2 : 0 ≤ b ∧ b ≤ 20) (h3 : ¬ (0 ≤ c ∧ c ≤ 1)) (k : P (some (.int (-2))) (pmT0 ++ LT) v) : EvP X (d + 6) MX11_lane 0 [.ref 32, .int a, .int b, .int c] [] (pmT0 ++ LT) v P := by
  refine ev_iload_n 0 dX11_lane_0 rfl ?_
  refine ev_iconst 1 dX11_lane_1 kI_0 ?_
  refine ev_iconst 2 dX11_lane_2 kI_5 ?_
  refine cs_11_74 (pc := 3) rfl dX11_lane_3 (Nat.le_of_ble_eq_true rfl) ?_
  refine c_X11_isIn (fun h_3 => ?_) (fun h_3 => absurd h1 h_3)
  refine ev_ifF 6 28 dX11_lane_6 rfl (by decide) ?_
  refine ev_iload_n 9 dX11_lane_9 rfl ?_
  refine ev_iconst 10 dX11_lane_10 kI_0 ?_
  refine ev_bipush 11 dX11_lane_11 kB_20 ?_
  refine cs_11_74 (pc := 13) rfl dX11_lane_13 (Nat.le_of_ble_eq_true rfl) ?_
  refine c_X11_isIn (fun h_13 => ?_) (fun h_13 => absurd h2 h_13)
  refine ev_ifF 16 28 dX11_lane_16 rfl (by decide) ?_
  refine ev_iload_n 19 dX11_lane_19 rfl ?_
  refine ev_iconst 20 dX11_lane_20 kI_0 ?_
  refine ev_iconst 21 dX11_lane_21 kI_1 ?_
  refine cs_11_74 (pc := 22) rfl dX11_lane_22 (Nat.le_of_ble_eq_true rfl) ?_
  refine c_X11_isIn (fun h_22 => absurd h_22 h3) (fun h_22 => ?_)
  refine ev_ifF 25 31 dX11_lane_25 rfl (by decide) ?_
  refine ev_bipush 28 dX11_lane_28 kB_m2 ?_
  refine ev_ireturn 30 dX11_lane_30 rfl rfl ?_
  exact k

theorem c_X11_lane_full {X : pmX} {d : Nat} {v : pmV} {P : Option Value → pmT → pmV → Prop} {LT : pmT} {n : Nat} {a b c : Int32} (h1 : 0 ≤ a ∧ a ≤ 5) (h2 : 0 ≤ b ∧ b ≤ 20) (h3 : 0 ≤ c ∧ c ≤ 1) (hn : v.1 32 1 = nI n) (h8 : n = 8) (k : P (some (.int (-4))) (pmT0 ++ LT) v) : EvP X (d + 6) MX11_lane 0 [.ref 32, .int a, .int b, .int c] [] (pmT0 ++ LT) v P := by
  refine ev_iload_n 0 dX11_lane_0 rfl ?_
  refine ev_iconst 1 dX11_lane_1 kI_0 ?_
  refine ev_iconst 2 dX11_lane_2 kI_5 ?_
  refine cs_11_74 (pc := 3) rfl dX11_lane_3 (Nat.le_of_ble_eq_true rfl) ?_
  refine c_X11_isIn (fun h_3 => ?_) (fun h_3 => absurd h1 h_3)
  refine ev_ifF 6 28 dX11_lane_6 rfl (by decide) ?_
  refine ev_iload_n 9 dX11_lane_9 rfl ?_
  refine ev_iconst 10 dX11_lane_10 kI_0 ?_
  refine ev_bipush 11 dX11_lane_11 kB_20 ?_
  refine cs_11_74 (pc := 13) rfl dX11_lane_13 (Nat.le_of_ble_eq_true rfl) ?_
  refine c_X11_isIn (fun h_13 => ?_) (fun h_13 => absurd h2 h_13)
  refine ev_ifF 16 28 dX11_lane_16 rfl (by decide) ?_
  refine ev_iload_n 19 dX11_lane_19 rfl ?_
  refine ev_iconst 20 dX11_lane_20 kI_0 ?_
  refine ev_iconst 21 dX11_lane_21 kI_1 ?_
  refine cs_11_74 (pc := 22) rfl dX11_lane_22 (Nat.le_of_ble_eq_true rfl) ?_
  refine c_X11_isIn (fun h_22 => ?_) (fun h_22 => absurd h3 h_22)
  refine ev_ifT 25 31 dX11_lane_25 rfl (by decide) ?_
  refine ev_aload_n 31 dX11_lane_31 rfl (by decide) ?_
  refine gf_11_78 (x := nI n) (pc := 32) rfl dX11_lane_32 kd_32 hn ?_
  refine ev_bipush 35 dX11_lane_35 kB_8 ?_
  refine ev_ic_ltN (a := n) (b := 8) 37 43 dX11_lane_37 rfl (by omega) (by omega) (fun c_37 => by omega) (fun c_37 => ?_)
  refine ev_bipush 40 dX11_lane_40 kB_m4 ?_
  refine ev_ireturn 42 dX11_lane_42 rfl rfl ?_
  exact k

theorem c_X11_lane_ok {X : pmX} {d : Nat} {v : pmV} {P : Option Value → pmT → pmV → Prop} {LT : pmT} {n : Nat} {a b c : Int32} (h1 : 0 ≤ a ∧ a ≤ 5) (h2 : 0 ≤ b ∧ b ≤ 20) (h3 : 0 ≤ c ∧ c ≤ 1) (hX : pmRf v) (hlen : LT.length = n) (hn : v.1 32 1 = nI n) (h8 : n < 8) (k : P (some (.int (nI n))) (pmT0 ++ (LT ++ [(kcl a, 3)])) (adX v n (a, b, c))) : EvP X (d + 6) MX11_lane 0 [.ref 32, .int a, .int b, .int c] [] (pmT0 ++ LT) v P := by
  refine ev_iload_n 0 dX11_lane_0 rfl ?_
  refine ev_iconst 1 dX11_lane_1 kI_0 ?_
  refine ev_iconst 2 dX11_lane_2 kI_5 ?_
  refine cs_11_74 (pc := 3) rfl dX11_lane_3 (Nat.le_of_ble_eq_true rfl) ?_
  refine c_X11_isIn (fun h_3 => ?_) (fun h_3 => absurd h1 h_3)
  refine ev_ifF 6 28 dX11_lane_6 rfl (by decide) ?_
  refine ev_iload_n 9 dX11_lane_9 rfl ?_
  refine ev_iconst 10 dX11_lane_10 kI_0 ?_
  refine ev_bipush 11 dX11_lane_11 kB_20 ?_
  refine cs_11_74 (pc := 13) rfl dX11_lane_13 (Nat.le_of_ble_eq_true rfl) ?_
  refine c_X11_isIn (fun h_13 => ?_) (fun h_13 => absurd h2 h_13)
  refine ev_ifF 16 28 dX11_lane_16 rfl (by decide) ?_
  refine ev_iload_n 19 dX11_lane_19 rfl ?_
  refine ev_iconst 20 dX11_lane_20 kI_0 ?_
  refine ev_iconst 21 dX11_lane_21 kI_1 ?_
  refine cs_11_74 (pc := 22) rfl dX11_lane_22 (Nat.le_of_ble_eq_true rfl) ?_
  refine c_X11_isIn (fun h_22 => ?_) (fun h_22 => absurd h3 h_22)
  refine ev_ifT 25 31 dX11_lane_25 rfl (by decide) ?_
  refine ev_aload_n 31 dX11_lane_31 rfl (by decide) ?_
  refine gf_11_78 (x := nI n) (pc := 32) rfl dX11_lane_32 kd_32 hn ?_
  refine ev_bipush 35 dX11_lane_35 kB_8 ?_
  refine ev_ic_ltN (a := n) (b := 8) 37 43 dX11_lane_37 rfl (by omega) (by omega) (fun c_37 => ?_) (fun c_37 => by omega)
  refine ev_aload_n 43 dX11_lane_43 rfl (by decide) ?_
  refine gf_11_11 (pc := 44) rfl dX11_lane_44 kd_32 (rf_32_0 hX) ?_
  refine ev_aload_n 47 dX11_lane_47 rfl (by decide) ?_
  refine gf_11_78 (x := nI n) (pc := 48) rfl dX11_lane_48 kd_32 hn ?_
  refine ev_iload_n 51 dX11_lane_51 rfl ?_
  refine ev_iload_n 52 dX11_lane_52 rfl ?_
  refine ev_iload_n 53 dX11_lane_53 rfl ?_
  refine cs_11_81 (pc := 54) rfl dX11_lane_54 (Nat.le_of_ble_eq_true rfl) ?_
  refine c_X11_newLane h1 ?_
  rw [show 32 + (pmT0 ++ LT).length = 124 + n by rw [List.length_append, hlen]; show 32 + (92 + n) = _; omega]
  rw [List.append_assoc]
  refine ev_aast 57 dX11_lane_57 (Nat.le_of_ble_eq_true rfl) (by omega) ty_33 (new_at hlen) (by decide) kcl_cast (pm_inI (by omega) (by omega)) ?_
  rw [nI_clamp (show n < 2 ^ 31 by omega)]
  refine ev_aload_n 58 dX11_lane_58 rfl (by decide) ?_
  refine ev_dup 59 dX11_lane_59 rfl ?_
  refine gf_11_78 (x := nI n) (pc := 60) rfl dX11_lane_60 kd_32 ((nwl_off (by omega)).trans hn) ?_
  refine ev_iconst 63 dX11_lane_63 kI_1 ?_
  refine ev_iadd 64 dX11_lane_64 ?_
  refine ev_cst (y := nI (n + 1)) (nI_add n 1) ?_
  refine pf_11_78 (pc := 65) rfl dX11_lane_65 kd_32 ?_
  refine ev_aload_n 68 dX11_lane_68 rfl (by decide) ?_
  refine gf_11_78 (x := nI (n + 1)) (pc := 69) rfl dX11_lane_69 kd_32 uI_on ?_
  refine ev_iconst 72 dX11_lane_72 kI_1 ?_
  refine ev_isub 73 dX11_lane_73 ?_
  refine ev_cst (y := nI (n + 1 - 1)) (pk_sub (a := (n + 1)) (b := 1) (by omega)) ?_
  refine ev_ireturn 74 dX11_lane_74 rfl rfl ?_
  exact k

