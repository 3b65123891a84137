/-! small methods of both sides, and the calls that touch no day -/
theorem c_X12_in {X : pmX} {d : Nat} {v : pmV} {P : Option Value → pmT → pmV → Prop} {T : pmT} {x a b : Int32}  (kt : a ≤ x ∧ x ≤ b → P (some (.int 1)) T v) (kf : ¬ (a ≤ x ∧ x ≤ b) → P (some (.int 0)) T v) : EvP X d MX12_in 0 [.ref 100, .int x, .int a, .int b] [] T v P := by
  refine ev_iload_n 0 dX12_in_0 rfl ?_
  refine ev_iload_n 1 dX12_in_1 rfl ?_
  refine ev_ic_lt 2 14 dX12_in_2 rfl (fun c_2 => ?_) (fun c_2 => ?_)
  · refine ev_iconst 14 dX12_in_14 kI_0 ?_
    refine ev_ireturn 15 dX12_in_15 rfl rfl ?_
    exact kf (by grind)
  · refine ev_iload_n 5 dX12_in_5 rfl ?_
    refine ev_iload_n 6 dX12_in_6 rfl ?_
    refine ev_ic_gt 7 14 dX12_in_7 rfl (fun c_7 => ?_) (fun c_7 => ?_)
    · refine ev_iconst 14 dX12_in_14 kI_0 ?_
      refine ev_ireturn 15 dX12_in_15 rfl rfl ?_
      exact kf (by grind)
    · refine ev_iconst 10 dX12_in_10 kI_1 ?_
      refine ev_goto 11 15 dX12_in_11 rfl ?_
      refine ev_ireturn 15 dX12_in_15 rfl rfl ?_
      exact kt (by grind)

theorem c_X12_in_t {X : pmX} {d : Nat} {v : pmV} {P : Option Value → pmT → pmV → Prop} {T : pmT} {x a b : Int32}  (h : a ≤ x ∧ x ≤ b) (k : P (some (.int 1)) T v) : EvP X d MX12_in 0 [.ref 100, .int x, .int a, .int b] [] T v P := c_X12_in  (fun _ => k) (fun q => absurd h q)
theorem c_X12_in_f {X : pmX} {d : Nat} {v : pmV} {P : Option Value → pmT → pmV → Prop} {T : pmT} {x a b : Int32}  (h : ¬ (a ≤ x ∧ x ≤ b)) (k : P (some (.int 0)) T v) : EvP X d MX12_in 0 [.ref 100, .int x, .int a, .int b] [] T v P := c_X12_in  (fun q => absurd q h) (fun _ => k)
theorem c_X12_isMinute {X : pmX} {d : Nat} {v : pmV} {P : Option Value → pmT → pmV → Prop} {LT : pmT} {x : Int32}  (kt : 0 ≤ x ∧ x ≤ 59 → P (some (.int 1)) (pmT0 ++ LT) v) (kf : ¬ (0 ≤ x ∧ x ≤ 59) → P (some (.int 0)) (pmT0 ++ LT) v) : EvP X (d + 1) MX12_isMinute 0 [.ref 100, .int x] [] (pmT0 ++ LT) v P := by
  refine ev_aload_n 0 dX12_isMinute_0 rfl (by decide) ?_
  refine ev_iload_n 1 dX12_isMinute_1 rfl ?_
  refine ev_iconst 2 dX12_isMinute_2 kI_0 ?_
  refine ev_bipush 3 dX12_isMinute_3 kB_59 ?_
  refine cv_12_7_12 (pc := 5) rfl dX12_isMinute_5 kd_100 (Nat.le_of_ble_eq_true rfl) ?_
  refine c_X12_in (fun h_5 => ?_) (fun h_5 => ?_)
  · refine ev_ireturn 8 dX12_isMinute_8 rfl rfl ?_
    exact kt (by grind)
  · refine ev_ireturn 8 dX12_isMinute_8 rfl rfl ?_
    exact kf (by grind)

theorem c_X12_isMinute_t {X : pmX} {d : Nat} {v : pmV} {P : Option Value → pmT → pmV → Prop} {LT : pmT} {x : Int32}  (h : 0 ≤ x ∧ x ≤ 59) (k : P (some (.int 1)) (pmT0 ++ LT) v) : EvP X (d + 1) MX12_isMinute 0 [.ref 100, .int x] [] (pmT0 ++ LT) v P := c_X12_isMinute  (fun _ => k) (fun q => absurd h q)
theorem c_X12_isMinute_f {X : pmX} {d : Nat} {v : pmV} {P : Option Value → pmT → pmV → Prop} {LT : pmT} {x : Int32}  (h : ¬ (0 ≤ x ∧ x ≤ 59)) (k : P (some (.int 0)) (pmT0 ++ LT) v) : EvP X (d + 1) MX12_isMinute 0 [.ref 100, .int x] [] (pmT0 ++ LT) v P := c_X12_isMinute  (fun q => absurd q h) (fun _ => k)
theorem c_X12_isSheet {X : pmX} {d : Nat} {v : pmV} {P : Option Value → pmT → pmV → Prop} {LT : pmT} {x : Int32}  (kt : 0 ≤ x ∧ x ≤ 3 → P (some (.int 1)) (pmT0 ++ LT) v) (kf : ¬ (0 ≤ x ∧ x ≤ 3) → P (some (.int 0)) (pmT0 ++ LT) v) : EvP X (d + 1) MX12_isSheet 0 [.ref 100, .int x] [] (pmT0 ++ LT) v P := by
  refine ev_aload_n 0 dX12_isSheet_0 rfl (by decide) ?_
  refine ev_iload_n 1 dX12_isSheet_1 rfl ?_
  refine ev_iconst 2 dX12_isSheet_2 kI_0 ?_
  refine ev_iconst 3 dX12_isSheet_3 kI_3 ?_
  refine cv_12_7_12 (pc := 4) rfl dX12_isSheet_4 kd_100 (Nat.le_of_ble_eq_true rfl) ?_
  refine c_X12_in (fun h_4 => ?_) (fun h_4 => ?_)
  · refine ev_ireturn 7 dX12_isSheet_7 rfl rfl ?_
    exact kt (by grind)
  · refine ev_ireturn 7 dX12_isSheet_7 rfl rfl ?_
    exact kf (by grind)

theorem c_X12_isSheet_t {X : pmX} {d : Nat} {v : pmV} {P : Option Value → pmT → pmV → Prop} {LT : pmT} {x : Int32}  (h : 0 ≤ x ∧ x ≤ 3) (k : P (some (.int 1)) (pmT0 ++ LT) v) : EvP X (d + 1) MX12_isSheet 0 [.ref 100, .int x] [] (pmT0 ++ LT) v P := c_X12_isSheet  (fun _ => k) (fun q => absurd h q)
theorem c_X12_isSheet_f {X : pmX} {d : Nat} {v : pmV} {P : Option Value → pmT → pmV → Prop} {LT : pmT} {x : Int32}  (h : ¬ (0 ≤ x ∧ x ≤ 3)) (k : P (some (.int 0)) (pmT0 ++ LT) v) : EvP X (d + 1) MX12_isSheet 0 [.ref 100, .int x] [] (pmT0 ++ LT) v P := c_X12_isSheet  (fun q => absurd q h) (fun _ => k)
theorem c_X12_isLane {X : pmX} {d : Nat} {v : pmV} {P : Option Value → pmT → pmV → Prop} {LT : pmT} {x : Int32} {n : Nat} (hL : cLan n LT v) (kt : 0 ≤ x ∧ x ≤ nI n - 1 → P (some (.int 1)) (pmT0 ++ LT) v) (kf : ¬ (0 ≤ x ∧ x ≤ nI n - 1) → P (some (.int 0)) (pmT0 ++ LT) v) : EvP X (d + 1) MX12_isLane 0 [.ref 100, .int x] [] (pmT0 ++ LT) v P := by
  refine ev_aload_n 0 dX12_isLane_0 rfl (by decide) ?_
  refine ev_iload_n 1 dX12_isLane_1 rfl ?_
  refine ev_iconst 2 dX12_isLane_2 kI_0 ?_
  refine ev_aload_n 3 dX12_isLane_3 rfl (by decide) ?_
  refine gf_12_1 (x := nI n) (pc := 4) rfl dX12_isLane_4 kd_100 hL.2.2.2.1 ?_
  refine ev_iconst 7 dX12_isLane_7 kI_1 ?_
  refine ev_isub 8 dX12_isLane_8 ?_
  refine cv_12_7_12 (pc := 9) rfl dX12_isLane_9 kd_100 (Nat.le_of_ble_eq_true rfl) ?_
  refine c_X12_in (fun h_9 => ?_) (fun h_9 => ?_)
  · refine ev_ireturn 12 dX12_isLane_12 rfl rfl ?_
    exact kt (by grind)
  · refine ev_ireturn 12 dX12_isLane_12 rfl rfl ?_
    exact kf (by grind)

theorem c_X12_isLane_t {X : pmX} {d : Nat} {v : pmV} {P : Option Value → pmT → pmV → Prop} {LT : pmT} {x : Int32} {n : Nat} (hL : cLan n LT v) (h : 0 ≤ x ∧ x ≤ nI n - 1) (k : P (some (.int 1)) (pmT0 ++ LT) v) : EvP X (d + 1) MX12_isLane 0 [.ref 100, .int x] [] (pmT0 ++ LT) v P := c_X12_isLane hL (fun _ => k) (fun q => absurd h q)
theorem c_X12_isLane_f {X : pmX} {d : Nat} {v : pmV} {P : Option Value → pmT → pmV → Prop} {LT : pmT} {x : Int32} {n : Nat} (hL : cLan n LT v) (h : ¬ (0 ≤ x ∧ x ≤ nI n - 1)) (k : P (some (.int 0)) (pmT0 ++ LT) v) : EvP X (d + 1) MX12_isLane 0 [.ref 100, .int x] [] (pmT0 ++ LT) v P := c_X12_isLane hL (fun q => absurd q h) (fun _ => k)
theorem cLan_ix {n : Nat} {LT : pmT} {v : pmV} (hL : cLan n LT v) {x : Int32} (h : 0 ≤ x ∧ x ≤ nI n - 1) : ∃ i, i < n ∧ x = nI i := by
  obtain ⟨j, hj, rfl⟩ := nI_of (Int32.not_lt.mpr h.1)
  refine ⟨j, ?_, rfl⟩
  have hn := hL.1
  obtain ⟨k, rfl⟩ | hz : (∃ k, n = k + 1) ∨ n = 0 := by
    cases n with
    | zero => exact Or.inr rfl
    | succ k => exact Or.inl ⟨k, rfl⟩
  · have h2 := h.2
    rw [nI_pred] at h2
    have := (nI_leI (by omega) (by omega)).mp h2
    omega
  · subst hz
    have h2 := h.2
    have h1 : (0 : Int32) ≤ nI j := h.1
    rw [nI_0] at h2
    have : (0 : Int32) ≤ 0 - 1 := Int32.le_trans h1 h2
    exact absurd this (by decide)
theorem cLan_in {n : Nat} {LT : pmT} {v : pmV} (hL : cLan n LT v) {i : Nat} (hi : i < n) : 0 ≤ nI i ∧ nI i ≤ nI n - 1 := by
  have hn := hL.1
  refine ⟨nI_pos' (by omega), ?_⟩
  cases n with
  | zero => omega
  | succ k => rw [nI_pred]; exact nI_le (by omega) (by omega)
theorem kd_lane {n : Nat} {LT : pmT} {v : pmV} (hL : cLan n LT v) {i : Nat} (hi : i < n) : pmKind (pmT0 ++ LT) (124 + i) = kcl (v.1 (124 + i) 0) := by
  have h := (hL.2.2.2.2 i hi).2.1
  unfold pmKind
  rw [if_neg (by omega), List.getElem?_append_right (by show 92 ≤ _; omega), show 124 + i - 32 - pmT0.length = i by show 124 + i - 32 - 92 = i; omega, h]
  dsimp only
  rw [if_pos]
  unfold kcl
  split
  · omega
  · split
    · omega
    · split
      · omega
      · split
        · omega
        · split <;> omega
theorem c_X11_laneOf {X : pmX} {d : Nat} {v : pmV} {P : Option Value → pmT → pmV → Prop} {LT : pmT} {x : Int32} {n : Nat} (hL : cLan n LT v) (hX : pmRf v) (kt : ∀ i, i < n → x = nI i → P (some (.ref (124 + i))) (pmT0 ++ LT) v) (kf : ¬ (0 ≤ x ∧ x ≤ nI n - 1) → P (some .null) (pmT0 ++ LT) v) : EvP X (d + 1) MX11_laneOf 0 [.ref 32, .int x] [] (pmT0 ++ LT) v P := by
  refine ev_iload_n 0 dX11_laneOf_0 rfl ?_
  refine ev_iconst 1 dX11_laneOf_1 kI_0 ?_
  refine ev_aload_n 2 dX11_laneOf_2 rfl (by decide) ?_
  refine gf_11_78 (x := nI n) (pc := 3) rfl dX11_laneOf_3 kd_32 hL.2.2.1 ?_
  refine ev_iconst 6 dX11_laneOf_6 kI_1 ?_
  refine ev_isub 7 dX11_laneOf_7 ?_
  refine cs_11_74 (pc := 8) rfl dX11_laneOf_8 (Nat.le_of_ble_eq_true rfl) ?_
  refine c_X11_isIn (fun h_8 => ?_) (fun h_8 => ?_)
  · obtain ⟨i, hi, rfl⟩ := cLan_ix hL h_8
    have hn8 := hL.1
    refine ev_ifF 11 23 dX11_laneOf_11 rfl (by decide) ?_
    refine ev_aload_n 14 dX11_laneOf_14 rfl (by decide) ?_
    refine gf_11_11 (pc := 15) rfl dX11_laneOf_15 kd_32 (rf_32_0 hX) ?_
    refine ev_iload_n 18 dX11_laneOf_18 rfl ?_
    refine ev_aald (x := .ref (124 + i)) 19 dX11_laneOf_19 (Nat.le_of_ble_eq_true rfl) ty_33 (by decide) (pm_inI (by omega) (by omega)) (by rw [nI_clamp (by omega)]; exact congrArg va_rf (hL.2.2.2.2 i hi).1) ?_
    refine ev_goto 20 24 dX11_laneOf_20 rfl ?_
    refine ev_areturn 24 dX11_laneOf_24 rfl (by omega) ?_
    exact kt i hi rfl
  · refine ev_ifT 11 23 dX11_laneOf_11 rfl (by decide) ?_
    refine ev_null 23 dX11_laneOf_23 ?_
    refine ev_areturnN 24 dX11_laneOf_24 rfl ?_
    exact kf h_8

