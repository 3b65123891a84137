/-! the kinds of lanes; a text at names; the values -/
theorem kd6 {x : Int32} (h : 0 ≤ x ∧ x ≤ 5) : x = 0 ∨ x = 1 ∨ x = 2 ∨ x = 3 ∨ x = 4 ∨ x = 5 := by
  obtain ⟨k, rfl, _, hk⟩ := nI_rng (a := 0) (b := 5) (by omega) (by omega) h
  have : k = 0 ∨ k = 1 ∨ k = 2 ∨ k = 3 ∨ k = 4 ∨ k = 5 := by omega
  rcases this with rfl | rfl | rfl | rfl | rfl | rfl <;> simp [nI]
theorem ci13 {ci : Nat} (h : ci ∈ [0, 2, 3, 7, 8, 10]) : ci < 13 := by
  simp at h; omega
theorem c_X3_rests {X : pmX} {d : Nat} {v : pmV} {P : Option Value → pmT → pmV → Prop} {T : pmT} {a : Nat} {x : Int32} (k : P (some (.int x)) T v) : EvP X d MX3_rests 0 [.ref a, .int x] [] T v P := by
  refine ev_iload_n 0 dX3_rests_0 rfl ?_
  refine ev_ireturn 1 dX3_rests_1 rfl rfl ?_
  exact k

theorem c_X10_rests {X : pmX} {d : Nat} {v : pmV} {P : Option Value → pmT → pmV → Prop} {T : pmT} {a ci : Nat} {x : Int32} (hk : pmKind T a = ci) (hc : ci ∈ [0, 2, 3, 7, 8, 10]) (h32 : 32 ≤ a) (k : P (some (.int (x + 1))) T v) : EvP X (d + 1) MX10_rests 0 [.ref a, .int x] [] T v P := by
  refine ev_aload_n 0 dX10_rests_0 rfl (by omega) ?_
  refine ev_iload_n 1 dX10_rests_1 rfl ?_
  refine cp_10_11 (pc := 2) rfl dX10_rests_2 hk (Nat.le_of_ble_eq_true rfl) (ci13 hc) ?_
  refine c_X3_rests ?_
  refine ev_iconst 5 dX10_rests_5 kI_1 ?_
  refine ev_iadd 6 dX10_rests_6 ?_
  refine ev_ireturn 7 dX10_rests_7 rfl rfl ?_
  exact k

theorem c_X8_rests {X : pmX} {d : Nat} {v : pmV} {P : Option Value → pmT → pmV → Prop} {T : pmT} {a ci : Nat} {x : Int32} (hk : pmKind T a = ci) (hc : ci ∈ [0, 2, 3, 7, 8, 10]) (h32 : 32 ≤ a) (k : P (some (.int (2 * x))) T v) : EvP X (d + 1) MX8_rests 0 [.ref a, .int x] [] T v P := by
  refine ev_iconst 0 dX8_rests_0 kI_2 ?_
  refine ev_aload_n 1 dX8_rests_1 rfl (by omega) ?_
  refine ev_iload_n 2 dX8_rests_2 rfl ?_
  refine cp_8_17 (pc := 3) rfl dX8_rests_3 hk (Nat.le_of_ble_eq_true rfl) (ci13 hc) ?_
  refine c_X3_rests ?_
  refine ev_imul 6 dX8_rests_6 ?_
  refine ev_ireturn 7 dX8_rests_7 rfl rfl ?_
  exact k

theorem c_X3_carries {X : pmX} {d : Nat} {v : pmV} {P : Option Value → pmT → pmV → Prop} {T : pmT} {a ci : Nat} {x : Int32} (hk : pmKind T a = ci) (hc : ci ∈ [0, 2, 3, 7, 8, 10]) (h32 : 32 ≤ a) (k : P (some (.int (v.1 a 1))) T v) : EvP X d MX3_carries 0 [.ref a, .int x] [] T v P := by
  refine ev_aload_n 0 dX3_carries_0 rfl (by omega) ?_
  refine gl_3_13 (pc := 1) rfl dX3_carries_1 hk hc ?_
  refine ev_ireturn 4 dX3_carries_4 rfl rfl ?_
  exact k

theorem c_X10_carries {X : pmX} {d : Nat} {v : pmV} {P : Option Value → pmT → pmV → Prop} {T : pmT} {a ci : Nat} {x : Int32} (hk : pmKind T a = ci) (hc : ci ∈ [0, 2, 3, 7, 8, 10]) (h32 : 32 ≤ a) (k : P (some (.int (v.1 a 1 + 2))) T v) : EvP X (d + 1) MX10_carries 0 [.ref a, .int x] [] T v P := by
  refine ev_aload_n 0 dX10_carries_0 rfl (by omega) ?_
  refine ev_iload_n 1 dX10_carries_1 rfl ?_
  refine cp_10_7 (pc := 2) rfl dX10_carries_2 hk (Nat.le_of_ble_eq_true rfl) (ci13 hc) ?_
  refine c_X3_carries hk hc h32 ?_
  refine ev_iconst 5 dX10_carries_5 kI_2 ?_
  refine ev_iadd 6 dX10_carries_6 ?_
  refine ev_ireturn 7 dX10_carries_7 rfl rfl ?_
  exact k

theorem c_X7_carries {X : pmX} {d : Nat} {v : pmV} {P : Option Value → pmT → pmV → Prop} {T : pmT} {a ci : Nat} {x : Int32} (hk : pmKind T a = ci) (hc : ci ∈ [0, 2, 3, 7, 8, 10]) (h32 : 32 ≤ a) (k : P (some (.int ((v.1 a 1 + 2 + 1) / 2))) T v) : EvP X (d + 2) MX7_carries 0 [.ref a, .int x] [] T v P := by
  refine ev_aload_n 0 dX7_carries_0 rfl (by omega) ?_
  refine ev_iload_n 1 dX7_carries_1 rfl ?_
  refine cp_7_7 (pc := 2) rfl dX7_carries_2 hk (Nat.le_of_ble_eq_true rfl) (ci13 hc) ?_
  refine c_X10_carries hk hc h32 ?_
  refine ev_iconst 5 dX7_carries_5 kI_1 ?_
  refine ev_iadd 6 dX7_carries_6 ?_
  refine ev_iconst 7 dX7_carries_7 kI_2 ?_
  refine ev_idiv 8 dX7_carries_8 (by decide) ?_
  refine ev_ireturn 9 dX7_carries_9 rfl rfl ?_
  exact k

theorem c_X8_carries {X : pmX} {d : Nat} {v : pmV} {P : Option Value → pmT → pmV → Prop} {T : pmT} {a ci : Nat} {x : Int32} (hk : pmKind T a = ci) (hc : ci ∈ [0, 2, 3, 7, 8, 10]) (h32 : 32 ≤ a) (k : P (some (.int (mxI 0 (v.1 a 1 - x / 10)))) T v) : EvP X (d + 1) MX8_carries 0 [.ref a, .int x] [] T v P := by
  refine ev_iconst 0 dX8_carries_0 kI_0 ?_
  refine ev_aload_n 1 dX8_carries_1 rfl (by omega) ?_
  refine ev_iload_n 2 dX8_carries_2 rfl ?_
  refine cp_8_7 (pc := 3) rfl dX8_carries_3 hk (Nat.le_of_ble_eq_true rfl) (ci13 hc) ?_
  refine c_X3_carries hk hc h32 ?_
  refine ev_iload_n 6 dX8_carries_6 rfl ?_
  refine ev_bipush 7 dX8_carries_7 kB_10 ?_
  refine ev_idiv 9 dX8_carries_9 (by decide) ?_
  refine ev_isub 10 dX8_carries_10 ?_
  refine ev_max (x := (if 0 < (v.1 a 1) - (x / 10) then (v.1 a 1) - (x / 10) else 0)) 11 dX8_carries_11 mx_8_11 (Nat.le_of_ble_eq_true rfl) rfl ?_
  refine ev_ireturn 14 dX8_carries_14 rfl rfl ?_
  exact k

theorem c_X0_takesBusesAlone {X : pmX} {d : Nat} {v : pmV} {P : Option Value → pmT → pmV → Prop} {T : pmT} {a : Nat} (k : P (some (.int 1)) T v) : EvP X d MX0_takesBusesAlone 0 [.ref a] [] T v P := by
  refine ev_iconst 0 dX0_takesBusesAlone_0 kI_1 ?_
  refine ev_ireturn 1 dX0_takesBusesAlone_1 rfl rfl ?_
  exact k

theorem c_X3_takesBusesAlone {X : pmX} {d : Nat} {v : pmV} {P : Option Value → pmT → pmV → Prop} {T : pmT} {a : Nat} (k : P (some (.int 0)) T v) : EvP X d MX3_takesBusesAlone 0 [.ref a] [] T v P := by
  refine ev_iconst 0 dX3_takesBusesAlone_0 kI_0 ?_
  refine ev_ireturn 1 dX3_takesBusesAlone_1 rfl rfl ?_
  exact k

theorem c_X2_mayTurn {X : pmX} {d : Nat} {v : pmV} {P : Option Value → pmT → pmV → Prop} {T : pmT} {a : Nat} {x : Int32} (k : P (some (.int 0)) T v) : EvP X d MX2_mayTurn 0 [.ref a, .int x] [] T v P := by
  refine ev_iconst 0 dX2_mayTurn_0 kI_0 ?_
  refine ev_ireturn 1 dX2_mayTurn_1 rfl rfl ?_
  exact k

theorem c_X3_mayTurn {X : pmX} {d : Nat} {v : pmV} {P : Option Value → pmT → pmV → Prop} {T : pmT} {a : Nat} {x : Int32} (k : P (some (.int 1)) T v) : EvP X d MX3_mayTurn 0 [.ref a, .int x] [] T v P := by
  refine ev_iconst 0 dX3_mayTurn_0 kI_1 ?_
  refine ev_ireturn 1 dX3_mayTurn_1 rfl rfl ?_
  exact k

theorem c_X8_mayTurn {X : pmX} {d : Nat} {v : pmV} {P : Option Value → pmT → pmV → Prop} {T : pmT} {a : Nat} {x : Int32} (kt : x - x / 5 * 5 = 0 → P (some (.int 1)) T v) (kf : ¬ x - x / 5 * 5 = 0 → P (some (.int 0)) T v) : EvP X d MX8_mayTurn 0 [.ref a, .int x] [] T v P := by
  refine ev_iload_n 0 dX8_mayTurn_0 rfl ?_
  refine ev_iconst 1 dX8_mayTurn_1 kI_5 ?_
  refine ev_irem 2 dX8_mayTurn_2 (by decide) ?_
  refine ev_if_ne 3 10 dX8_mayTurn_3 rfl (fun c_3 => ?_) (fun c_3 => ?_)
  · refine ev_iconst 10 dX8_mayTurn_10 kI_0 ?_
    refine ev_ireturn 11 dX8_mayTurn_11 rfl rfl ?_
    exact kf c_3
  · refine ev_iconst 6 dX8_mayTurn_6 kI_1 ?_
    refine ev_goto 7 11 dX8_mayTurn_7 rfl ?_
    refine ev_ireturn 11 dX8_mayTurn_11 rfl rfl ?_
    exact kt c_3

theorem vc_1_155 {X : pmX} {d : Nat} {M : pmM} {ls r : List Value} {LT : pmT} {e v : pmV} {P : Option Value → pmT → pmV → Prop} {pc n i : Nat} {x : Int32} (hM : M.1 = 1) (hd : decode M.2.2.1 pc = .ok (.invokevirtual 155, 3)) (hL : cLan n LT e) (hi : i < n) (hv : v.1 (124 + i) 1 = e.1 (124 + i) 1) (hn : pmNum r ≤ 8) (k : EvP X (d + 9) M (pc + 3) ls (.int (pRes e i x) :: r) (pmT0 ++ LT) v P) : EvP X (d + 9) M pc ls (.int x :: .ref (124 + i) :: r) (pmT0 ++ LT) v P := by
  have hkd := kd_lane hL hi
  rcases kd6 (hL.2.2.2.2 i hi).2.2.2.2.2.1 with h | h | h | h | h | h
  · rw [h] at hkd
    refine cv_1_155_3 hM hd hkd hn ?_
    refine c_X3_rests ?_
    rw [show pRes e i x = x by simp [pRes, pK, pNb, h]] at k
    exact k
  · rw [h] at hkd
    refine cv_1_155_10 hM hd hkd hn ?_
    refine c_X10_rests hkd (by decide) (by omega) ?_
    rw [show pRes e i x = x + 1 by simp [pRes, pK, pNb, h]] at k
    exact k
  · rw [h] at hkd
    refine cv_1_155_0 hM hd hkd hn ?_
    refine c_X3_rests ?_
    rw [show pRes e i x = x by simp [pRes, pK, pNb, h]] at k
    exact k
  · rw [h] at hkd
    refine cv_1_155_7 hM hd hkd hn ?_
    refine c_X10_rests hkd (by decide) (by omega) ?_
    rw [show pRes e i x = x + 1 by simp [pRes, pK, pNb, h]] at k
    exact k
  · rw [h] at hkd
    refine cv_1_155_8 hM hd hkd hn ?_
    refine c_X8_rests hkd (by decide) (by omega) ?_
    rw [show pRes e i x = 2 * x by simp [pRes, pK, pNb, h]] at k
    exact k
  · rw [h] at hkd
    refine cv_1_155_2 hM hd hkd hn ?_
    refine c_X3_rests ?_
    rw [show pRes e i x = x by simp [pRes, pK, pNb, h]] at k
    exact k
theorem vc_1_161 {X : pmX} {d : Nat} {M : pmM} {ls r : List Value} {LT : pmT} {e v : pmV} {P : Option Value → pmT → pmV → Prop} {pc n i : Nat} {x : Int32} (hM : M.1 = 1) (hd : decode M.2.2.1 pc = .ok (.invokevirtual 161, 3)) (hL : cLan n LT e) (hi : i < n) (hv : v.1 (124 + i) 1 = e.1 (124 + i) 1) (hn : pmNum r ≤ 8) (kt : pMay e i x = true → EvP X (d + 9) M (pc + 3) ls (.int 1 :: r) (pmT0 ++ LT) v P) (kf : ¬ pMay e i x = true → EvP X (d + 9) M (pc + 3) ls (.int 0 :: r) (pmT0 ++ LT) v P) : EvP X (d + 9) M pc ls (.int x :: .ref (124 + i) :: r) (pmT0 ++ LT) v P := by
  have hkd := kd_lane hL hi
  rcases kd6 (hL.2.2.2.2 i hi).2.2.2.2.2.1 with h | h | h | h | h | h
  · rw [h] at hkd
    refine cv_1_161_3 hM hd hkd hn ?_
    refine c_X3_mayTurn (kt ?_)
    simp [pMay, pK, h]
  · rw [h] at hkd
    refine cv_1_161_10 hM hd hkd hn ?_
    refine c_X3_mayTurn (kt ?_)
    simp [pMay, pK, h]
  · rw [h] at hkd
    refine cv_1_161_0 hM hd hkd hn ?_
    refine c_X3_mayTurn (kt ?_)
    simp [pMay, pK, h]
  · rw [h] at hkd
    refine cv_1_161_7 hM hd hkd hn ?_
    refine c_X3_mayTurn (kt ?_)
    simp [pMay, pK, h]
  · rw [h] at hkd
    refine cv_1_161_8 hM hd hkd hn ?_
    refine c_X8_mayTurn (fun q => kt ?_) (fun q => kf ?_)
    · unfold pMay pK; rw [h]; simpa using q
    · unfold pMay pK; rw [h]; simpa using q
  · rw [h] at hkd
    refine cv_1_161_2 hM hd hkd hn ?_
    refine c_X2_mayTurn (kf ?_)
    simp [pMay, pK, h]
theorem vc_1_167 {X : pmX} {d : Nat} {M : pmM} {ls r : List Value} {LT : pmT} {e v : pmV} {P : Option Value → pmT → pmV → Prop} {pc n i : Nat} {x : Int32} (hM : M.1 = 1) (hd : decode M.2.2.1 pc = .ok (.invokevirtual 167, 3)) (hL : cLan n LT e) (hi : i < n) (hv : v.1 (124 + i) 1 = e.1 (124 + i) 1) (hn : pmNum r ≤ 8) (k : EvP X (d + 9) M (pc + 3) ls (.int (pCar e i x) :: r) (pmT0 ++ LT) v P) : EvP X (d + 9) M pc ls (.int x :: .ref (124 + i) :: r) (pmT0 ++ LT) v P := by
  have hkd := kd_lane hL hi
  rcases kd6 (hL.2.2.2.2 i hi).2.2.2.2.2.1 with h | h | h | h | h | h
  · rw [h] at hkd
    refine cv_1_167_3 hM hd hkd hn ?_
    refine c_X3_carries hkd (by decide) (by omega) ?_
    rw [show pCar e i x = e.1 (124 + i) 1 by simp [pCar, pK, pNb, h]] at k
    rw [hv]
    exact k
  · rw [h] at hkd
    refine cv_1_167_10 hM hd hkd hn ?_
    refine c_X10_carries hkd (by decide) (by omega) ?_
    rw [show pCar e i x = e.1 (124 + i) 1 + 2 by simp [pCar, pK, pNb, h]] at k
    rw [hv]
    exact k
  · rw [h] at hkd
    refine cv_1_167_0 hM hd hkd hn ?_
    refine c_X3_carries hkd (by decide) (by omega) ?_
    rw [show pCar e i x = e.1 (124 + i) 1 by simp [pCar, pK, pNb, h]] at k
    rw [hv]
    exact k
  · rw [h] at hkd
    refine cv_1_167_7 hM hd hkd hn ?_
    refine c_X7_carries hkd (by decide) (by omega) ?_
    rw [show pCar e i x = (e.1 (124 + i) 1 + 2 + 1) / 2 by simp [pCar, pK, pNb, h]] at k
    rw [hv]
    exact k
  · rw [h] at hkd
    refine cv_1_167_8 hM hd hkd hn ?_
    refine c_X8_carries hkd (by decide) (by omega) ?_
    rw [show pCar e i x = mxI 0 (e.1 (124 + i) 1 - x / 10) by simp [pCar, pK, pNb, h]] at k
    rw [hv]
    exact k
  · rw [h] at hkd
    refine cv_1_167_2 hM hd hkd hn ?_
    refine c_X3_carries hkd (by decide) (by omega) ?_
    rw [show pCar e i x = e.1 (124 + i) 1 by simp [pCar, pK, pNb, h]] at k
    rw [hv]
    exact k
theorem vc_1_170 {X : pmX} {d : Nat} {M : pmM} {ls r : List Value} {LT : pmT} {e v : pmV} {P : Option Value → pmT → pmV → Prop} {pc n i : Nat} (hM : M.1 = 1) (hd : decode M.2.2.1 pc = .ok (.invokevirtual 170, 3)) (hL : cLan n LT e) (hi : i < n) (hv : v.1 (124 + i) 1 = e.1 (124 + i) 1) (hn : pmNum r ≤ 8) (k : EvP X (d + 9) M (pc + 3) ls (.int (pBs e i) :: r) (pmT0 ++ LT) v P) : EvP X (d + 9) M pc ls (.ref (124 + i) :: r) (pmT0 ++ LT) v P := by
  have hkd := kd_lane hL hi
  rcases kd6 (hL.2.2.2.2 i hi).2.2.2.2.2.1 with h | h | h | h | h | h
  · rw [h] at hkd
    refine cv_1_170_3 hM hd hkd hn ?_
    refine c_X3_takesBusesAlone ?_
    rw [show pBs e i = 0 by simp [pBs, pK, pNb, h]] at k
    exact k
  · rw [h] at hkd
    refine cv_1_170_10 hM hd hkd hn ?_
    refine c_X3_takesBusesAlone ?_
    rw [show pBs e i = 0 by simp [pBs, pK, pNb, h]] at k
    exact k
  · rw [h] at hkd
    refine cv_1_170_0 hM hd hkd hn ?_
    refine c_X0_takesBusesAlone ?_
    rw [show pBs e i = 1 by simp [pBs, pK, pNb, h]] at k
    exact k
  · rw [h] at hkd
    refine cv_1_170_7 hM hd hkd hn ?_
    refine c_X3_takesBusesAlone ?_
    rw [show pBs e i = 0 by simp [pBs, pK, pNb, h]] at k
    exact k
  · rw [h] at hkd
    refine cv_1_170_8 hM hd hkd hn ?_
    refine c_X0_takesBusesAlone ?_
    rw [show pBs e i = 1 by simp [pBs, pK, pNb, h]] at k
    exact k
  · rw [h] at hkd
    refine cv_1_170_2 hM hd hkd hn ?_
    refine c_X3_takesBusesAlone ?_
    rw [show pBs e i = 0 by simp [pBs, pK, pNb, h]] at k
    exact k
theorem vc_11_140 {X : pmX} {d : Nat} {M : pmM} {ls r : List Value} {LT : pmT} {e v : pmV} {P : Option Value → pmT → pmV → Prop} {pc n i : Nat} {x : Int32} (hM : M.1 = 11) (hd : decode M.2.2.1 pc = .ok (.invokevirtual 140, 3)) (hL : cLan n LT e) (hi : i < n) (hv : v.1 (124 + i) 1 = e.1 (124 + i) 1) (hn : pmNum r ≤ 8) (k : EvP X (d + 9) M (pc + 3) ls (.int (pRes e i x) :: r) (pmT0 ++ LT) v P) : EvP X (d + 9) M pc ls (.int x :: .ref (124 + i) :: r) (pmT0 ++ LT) v P := by
  have hkd := kd_lane hL hi
  rcases kd6 (hL.2.2.2.2 i hi).2.2.2.2.2.1 with h | h | h | h | h | h
  · rw [h] at hkd
    refine cv_11_140_3 hM hd hkd hn ?_
    refine c_X3_rests ?_
    rw [show pRes e i x = x by simp [pRes, pK, pNb, h]] at k
    exact k
  · rw [h] at hkd
    refine cv_11_140_10 hM hd hkd hn ?_
    refine c_X10_rests hkd (by decide) (by omega) ?_
    rw [show pRes e i x = x + 1 by simp [pRes, pK, pNb, h]] at k
    exact k
  · rw [h] at hkd
    refine cv_11_140_0 hM hd hkd hn ?_
    refine c_X3_rests ?_
    rw [show pRes e i x = x by simp [pRes, pK, pNb, h]] at k
    exact k
  · rw [h] at hkd
    refine cv_11_140_7 hM hd hkd hn ?_
    refine c_X10_rests hkd (by decide) (by omega) ?_
    rw [show pRes e i x = x + 1 by simp [pRes, pK, pNb, h]] at k
    exact k
  · rw [h] at hkd
    refine cv_11_140_8 hM hd hkd hn ?_
    refine c_X8_rests hkd (by decide) (by omega) ?_
    rw [show pRes e i x = 2 * x by simp [pRes, pK, pNb, h]] at k
    exact k
  · rw [h] at hkd
    refine cv_11_140_2 hM hd hkd hn ?_
    refine c_X3_rests ?_
    rw [show pRes e i x = x by simp [pRes, pK, pNb, h]] at k
    exact k
theorem vc_11_143 {X : pmX} {d : Nat} {M : pmM} {ls r : List Value} {LT : pmT} {e v : pmV} {P : Option Value → pmT → pmV → Prop} {pc n i : Nat} {x : Int32} (hM : M.1 = 11) (hd : decode M.2.2.1 pc = .ok (.invokevirtual 143, 3)) (hL : cLan n LT e) (hi : i < n) (hv : v.1 (124 + i) 1 = e.1 (124 + i) 1) (hn : pmNum r ≤ 8) (kt : pMay e i x = true → EvP X (d + 9) M (pc + 3) ls (.int 1 :: r) (pmT0 ++ LT) v P) (kf : ¬ pMay e i x = true → EvP X (d + 9) M (pc + 3) ls (.int 0 :: r) (pmT0 ++ LT) v P) : EvP X (d + 9) M pc ls (.int x :: .ref (124 + i) :: r) (pmT0 ++ LT) v P := by
  have hkd := kd_lane hL hi
  rcases kd6 (hL.2.2.2.2 i hi).2.2.2.2.2.1 with h | h | h | h | h | h
  · rw [h] at hkd
    refine cv_11_143_3 hM hd hkd hn ?_
    refine c_X3_mayTurn (kt ?_)
    simp [pMay, pK, h]
  · rw [h] at hkd
    refine cv_11_143_10 hM hd hkd hn ?_
    refine c_X3_mayTurn (kt ?_)
    simp [pMay, pK, h]
  · rw [h] at hkd
    refine cv_11_143_0 hM hd hkd hn ?_
    refine c_X3_mayTurn (kt ?_)
    simp [pMay, pK, h]
  · rw [h] at hkd
    refine cv_11_143_7 hM hd hkd hn ?_
    refine c_X3_mayTurn (kt ?_)
    simp [pMay, pK, h]
  · rw [h] at hkd
    refine cv_11_143_8 hM hd hkd hn ?_
    refine c_X8_mayTurn (fun q => kt ?_) (fun q => kf ?_)
    · unfold pMay pK; rw [h]; simpa using q
    · unfold pMay pK; rw [h]; simpa using q
  · rw [h] at hkd
    refine cv_11_143_2 hM hd hkd hn ?_
    refine c_X2_mayTurn (kf ?_)
    simp [pMay, pK, h]
theorem vc_11_146 {X : pmX} {d : Nat} {M : pmM} {ls r : List Value} {LT : pmT} {e v : pmV} {P : Option Value → pmT → pmV → Prop} {pc n i : Nat} {x : Int32} (hM : M.1 = 11) (hd : decode M.2.2.1 pc = .ok (.invokevirtual 146, 3)) (hL : cLan n LT e) (hi : i < n) (hv : v.1 (124 + i) 1 = e.1 (124 + i) 1) (hn : pmNum r ≤ 8) (k : EvP X (d + 9) M (pc + 3) ls (.int (pCar e i x) :: r) (pmT0 ++ LT) v P) : EvP X (d + 9) M pc ls (.int x :: .ref (124 + i) :: r) (pmT0 ++ LT) v P := by
  have hkd := kd_lane hL hi
  rcases kd6 (hL.2.2.2.2 i hi).2.2.2.2.2.1 with h | h | h | h | h | h
  · rw [h] at hkd
    refine cv_11_146_3 hM hd hkd hn ?_
    refine c_X3_carries hkd (by decide) (by omega) ?_
    rw [show pCar e i x = e.1 (124 + i) 1 by simp [pCar, pK, pNb, h]] at k
    rw [hv]
    exact k
  · rw [h] at hkd
    refine cv_11_146_10 hM hd hkd hn ?_
    refine c_X10_carries hkd (by decide) (by omega) ?_
    rw [show pCar e i x = e.1 (124 + i) 1 + 2 by simp [pCar, pK, pNb, h]] at k
    rw [hv]
    exact k
  · rw [h] at hkd
    refine cv_11_146_0 hM hd hkd hn ?_
    refine c_X3_carries hkd (by decide) (by omega) ?_
    rw [show pCar e i x = e.1 (124 + i) 1 by simp [pCar, pK, pNb, h]] at k
    rw [hv]
    exact k
  · rw [h] at hkd
    refine cv_11_146_7 hM hd hkd hn ?_
    refine c_X7_carries hkd (by decide) (by omega) ?_
    rw [show pCar e i x = (e.1 (124 + i) 1 + 2 + 1) / 2 by simp [pCar, pK, pNb, h]] at k
    rw [hv]
    exact k
  · rw [h] at hkd
    refine cv_11_146_8 hM hd hkd hn ?_
    refine c_X8_carries hkd (by decide) (by omega) ?_
    rw [show pCar e i x = mxI 0 (e.1 (124 + i) 1 - x / 10) by simp [pCar, pK, pNb, h]] at k
    rw [hv]
    exact k
  · rw [h] at hkd
    refine cv_11_146_2 hM hd hkd hn ?_
    refine c_X3_carries hkd (by decide) (by omega) ?_
    rw [show pCar e i x = e.1 (124 + i) 1 by simp [pCar, pK, pNb, h]] at k
    rw [hv]
    exact k
