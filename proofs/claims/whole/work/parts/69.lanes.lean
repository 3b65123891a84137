/-! lane, lanes: both sides -/
theorem c_X12_isNew {X : pmX} {d : Nat} {v : pmV} {P : Option Value → pmT → pmV → Prop} {LT : pmT} {a b c : Int32} (kt : (0 ≤ a ∧ a ≤ 5) ∧ (0 ≤ b ∧ b ≤ 20) ∧ (0 ≤ c ∧ c ≤ 1) → P (some (.int 1)) (pmT0 ++ LT) v) (kf : ¬ ((0 ≤ a ∧ a ≤ 5) ∧ (0 ≤ b ∧ b ≤ 20) ∧ (0 ≤ c ∧ c ≤ 1)) → P (some (.int 0)) (pmT0 ++ LT) v) : EvP X (d + 1) MX12_isNew 0 [.ref 100, .int a, .int b, .int c] [] (pmT0 ++ LT) v P := by
  refine ev_aload_n 0 dX12_isNew_0 rfl (by decide) ?_
  refine ev_iload_n 1 dX12_isNew_1 rfl ?_
  refine ev_iconst 2 dX12_isNew_2 kI_0 ?_
  refine ev_iconst 3 dX12_isNew_3 kI_5 ?_
  refine cv_12_7_12 (pc := 4) rfl dX12_isNew_4 kd_100 (Nat.le_of_ble_eq_true rfl) ?_
  refine c_X12_in (fun h_4 => ?_) (fun h_4 => ?_)
  · refine ev_ifF 7 35 dX12_isNew_7 rfl (by decide) ?_
    refine ev_aload_n 10 dX12_isNew_10 rfl (by decide) ?_
    refine ev_iload_n 11 dX12_isNew_11 rfl ?_
    refine ev_iconst 12 dX12_isNew_12 kI_0 ?_
    refine ev_bipush 13 dX12_isNew_13 kB_20 ?_
    refine cv_12_7_12 (pc := 15) rfl dX12_isNew_15 kd_100 (Nat.le_of_ble_eq_true rfl) ?_
    refine c_X12_in (fun h_15 => ?_) (fun h_15 => ?_)
    · refine ev_ifF 18 35 dX12_isNew_18 rfl (by decide) ?_
      refine ev_aload_n 21 dX12_isNew_21 rfl (by decide) ?_
      refine ev_iload_n 22 dX12_isNew_22 rfl ?_
      refine ev_iconst 23 dX12_isNew_23 kI_0 ?_
      refine ev_iconst 24 dX12_isNew_24 kI_1 ?_
      refine cv_12_7_12 (pc := 25) rfl dX12_isNew_25 kd_100 (Nat.le_of_ble_eq_true rfl) ?_
      refine c_X12_in (fun h_25 => ?_) (fun h_25 => ?_)
      · refine ev_ifF 28 35 dX12_isNew_28 rfl (by decide) ?_
        refine ev_iconst 31 dX12_isNew_31 kI_1 ?_
        refine ev_goto 32 36 dX12_isNew_32 rfl ?_
        refine ev_ireturn 36 dX12_isNew_36 rfl rfl ?_
        exact kt ⟨h_4, h_15, h_25⟩
      · refine ev_ifT 28 35 dX12_isNew_28 rfl (by decide) ?_
        refine ev_iconst 35 dX12_isNew_35 kI_0 ?_
        refine ev_ireturn 36 dX12_isNew_36 rfl rfl ?_
        exact kf (fun q => h_25 q.2.2)
    · refine ev_ifT 18 35 dX12_isNew_18 rfl (by decide) ?_
      refine ev_iconst 35 dX12_isNew_35 kI_0 ?_
      refine ev_ireturn 36 dX12_isNew_36 rfl rfl ?_
      exact kf (fun q => h_15 q.2.1)
  · refine ev_ifT 7 35 dX12_isNew_7 rfl (by decide) ?_
    refine ev_iconst 35 dX12_isNew_35 kI_0 ?_
    refine ev_ireturn 36 dX12_isNew_36 rfl rfl ?_
    exact kf (fun q => h_4 q.1)

theorem c_X12_comesLane {X : pmX} {d : Nat} {v : pmV} {P : Option Value → pmT → pmV → Prop} {LT : pmT} {n : Nat} {a b c : Int32} (hX : pmRf v) (hn : v.1 100 0 = nI n) (h8 : n < 8) (k : P none (pmT0 ++ LT) (adM v n (a, b, c))) : EvP X d MX12_comesLane 0 [.ref 100, .int a, .int b, .int c] [] (pmT0 ++ LT) v P := by
  refine ev_aload_n 0 dX12_comesLane_0 rfl (by decide) ?_
  refine gf_12_11 (pc := 1) rfl dX12_comesLane_1 kd_100 (rf_100_5 hX) ?_
  refine ev_aload_n 4 dX12_comesLane_4 rfl (by decide) ?_
  refine gf_12_1 (x := nI n) (pc := 5) rfl dX12_comesLane_5 kd_100 hn ?_
  refine ev_iload_n 8 dX12_comesLane_8 rfl ?_
  refine ev_iastJ (j := n) 9 dX12_comesLane_9 (Nat.le_of_ble_eq_true rfl) ty_101 (pm_inI (by omega) (by omega)) (nI_clamp (by omega)) ?_
  refine ev_aload_n 10 dX12_comesLane_10 rfl (by decide) ?_
  refine gf_12_15 (pc := 11) rfl dX12_comesLane_11 kd_100 (rf_100_6 hX) ?_
  refine ev_aload_n 14 dX12_comesLane_14 rfl (by decide) ?_
  refine gf_12_1 (x := nI n) (pc := 15) rfl dX12_comesLane_15 kd_100 ((uI_ne (by decide)).trans hn) ?_
  refine ev_iload_n 18 dX12_comesLane_18 rfl ?_
  refine ev_iastJ (j := n) 19 dX12_comesLane_19 (Nat.le_of_ble_eq_true rfl) ty_102 (pm_inI (by omega) (by omega)) (nI_clamp (by omega)) ?_
  refine ev_aload_n 20 dX12_comesLane_20 rfl (by decide) ?_
  refine gf_12_18 (pc := 21) rfl dX12_comesLane_21 kd_100 (rf_100_7 hX) ?_
  refine ev_aload_n 24 dX12_comesLane_24 rfl (by decide) ?_
  refine gf_12_1 (x := nI n) (pc := 25) rfl dX12_comesLane_25 kd_100 ((uI_ne (by decide)).trans ((uI_ne (by decide)).trans hn)) ?_
  refine ev_iload_n 28 dX12_comesLane_28 rfl ?_
  refine ev_iastJ (j := n) 29 dX12_comesLane_29 (Nat.le_of_ble_eq_true rfl) ty_103 (pm_inI (by omega) (by omega)) (nI_clamp (by omega)) ?_
  refine ev_aload_n 30 dX12_comesLane_30 rfl (by decide) ?_
  refine ev_dup 31 dX12_comesLane_31 rfl ?_
  refine gf_12_1 (x := nI n) (pc := 32) rfl dX12_comesLane_32 kd_100 ((uI_ne (by decide)).trans ((uI_ne (by decide)).trans ((uI_ne (by decide)).trans hn))) ?_
  refine ev_iconst 35 dX12_comesLane_35 kI_1 ?_
  refine ev_iadd 36 dX12_comesLane_36 ?_
  refine ev_cst (y := nI (n + 1)) (nI_add n 1) ?_
  refine pf_12_1 (pc := 37) rfl dX12_comesLane_37 kd_100 ?_
  refine ev_return 40 dX12_comesLane_40 rfl ?_
  exact k

theorem c_X12_lane_1 {X : pmX} {d : Nat} {v : pmV} {P : Option Value → pmT → pmV → Prop} {LT : pmT} {a b c : Int32} (h1 : ¬ ((0 ≤ a ∧ a ≤ 5) ∧ (0 ≤ b ∧ b ≤ 20) ∧ (0 ≤ c ∧ c ≤ 1))) (k : P (some (.int (-2))) (pmT0 ++ LT) v) : EvP X (d + 3) MX12_lane 0 [.ref 100, .int a, .int b, .int c] [] (pmT0 ++ LT) v P := by
  refine ev_aload_n 0 dX12_lane_0 rfl (by decide) ?_
  refine ev_iload_n 1 dX12_lane_1 rfl ?_
  refine ev_iload_n 2 dX12_lane_2 rfl ?_
  refine ev_iload_n 3 dX12_lane_3 rfl ?_
  refine cv_12_21_12 (pc := 4) rfl dX12_lane_4 kd_100 (Nat.le_of_ble_eq_true rfl) ?_
  refine c_X12_isNew (fun h_4 => absurd h_4 h1) (fun h_4 => ?_)
  refine ev_ifF 7 13 dX12_lane_7 rfl (by decide) ?_
  refine ev_bipush 10 dX12_lane_10 kB_m2 ?_
  refine ev_ireturn 12 dX12_lane_12 rfl rfl ?_
  exact k

theorem c_X12_lane_full {X : pmX} {d : Nat} {v : pmV} {P : Option Value → pmT → pmV → Prop} {LT : pmT} {n : Nat} {a b c : Int32} (h1 : (0 ≤ a ∧ a ≤ 5) ∧ (0 ≤ b ∧ b ≤ 20) ∧ (0 ≤ c ∧ c ≤ 1)) (hn : v.1 100 0 = nI n) (h8 : n = 8) (k : P (some (.int (-4))) (pmT0 ++ LT) v) : EvP X (d + 3) MX12_lane 0 [.ref 100, .int a, .int b, .int c] [] (pmT0 ++ LT) v P := by
  refine ev_aload_n 0 dX12_lane_0 rfl (by decide) ?_
  refine ev_iload_n 1 dX12_lane_1 rfl ?_
  refine ev_iload_n 2 dX12_lane_2 rfl ?_
  refine ev_iload_n 3 dX12_lane_3 rfl ?_
  refine cv_12_21_12 (pc := 4) rfl dX12_lane_4 kd_100 (Nat.le_of_ble_eq_true rfl) ?_
  refine c_X12_isNew (fun h_4 => ?_) (fun h_4 => absurd h1 h_4)
  refine ev_ifT 7 13 dX12_lane_7 rfl (by decide) ?_
  refine ev_aload_n 13 dX12_lane_13 rfl (by decide) ?_
  refine gf_12_1 (x := nI n) (pc := 14) rfl dX12_lane_14 kd_100 hn ?_
  refine ev_bipush 17 dX12_lane_17 kB_8 ?_
  refine ev_ic_neN (a := n) (b := 8) 19 25 dX12_lane_19 rfl (by omega) (by omega) (fun c_19 => by omega) (fun c_19 => ?_)
  refine ev_bipush 22 dX12_lane_22 kB_m4 ?_
  refine ev_ireturn 24 dX12_lane_24 rfl rfl ?_
  exact k

theorem c_X12_lane_ok {X : pmX} {d : Nat} {v : pmV} {P : Option Value → pmT → pmV → Prop} {LT : pmT} {n : Nat} {a b c : Int32} (h1 : (0 ≤ a ∧ a ≤ 5) ∧ (0 ≤ b ∧ b ≤ 20) ∧ (0 ≤ c ∧ c ≤ 1)) (hX : pmRf v) (hn : v.1 100 0 = nI n) (h8 : n < 8) (k : P (some (.int (nI n))) (pmT0 ++ LT) (adM v n (a, b, c))) : EvP X (d + 3) MX12_lane 0 [.ref 100, .int a, .int b, .int c] [] (pmT0 ++ LT) v P := by
  refine ev_aload_n 0 dX12_lane_0 rfl (by decide) ?_
  refine ev_iload_n 1 dX12_lane_1 rfl ?_
  refine ev_iload_n 2 dX12_lane_2 rfl ?_
  refine ev_iload_n 3 dX12_lane_3 rfl ?_
  refine cv_12_21_12 (pc := 4) rfl dX12_lane_4 kd_100 (Nat.le_of_ble_eq_true rfl) ?_
  refine c_X12_isNew (fun h_4 => ?_) (fun h_4 => absurd h1 h_4)
  refine ev_ifT 7 13 dX12_lane_7 rfl (by decide) ?_
  refine ev_aload_n 13 dX12_lane_13 rfl (by decide) ?_
  refine gf_12_1 (x := nI n) (pc := 14) rfl dX12_lane_14 kd_100 hn ?_
  refine ev_bipush 17 dX12_lane_17 kB_8 ?_
  refine ev_ic_neN (a := n) (b := 8) 19 25 dX12_lane_19 rfl (by omega) (by omega) (fun c_19 => ?_) (fun c_19 => by omega)
  refine ev_aload_n 25 dX12_lane_25 rfl (by decide) ?_
  refine ev_iload_n 26 dX12_lane_26 rfl ?_
  refine ev_iload_n 27 dX12_lane_27 rfl ?_
  refine ev_iload_n 28 dX12_lane_28 rfl ?_
  refine cv_12_24_12 (pc := 29) rfl dX12_lane_29 kd_100 (Nat.le_of_ble_eq_true rfl) ?_
  refine c_X12_comesLane hX hn (by omega) ?_
  refine ev_aload_n 32 dX12_lane_32 rfl (by decide) ?_
  refine gf_12_1 (x := nI (n + 1)) (pc := 33) rfl dX12_lane_33 kd_100 uI_on ?_
  refine ev_iconst 36 dX12_lane_36 kI_1 ?_
  refine ev_isub 37 dX12_lane_37 ?_
  refine ev_cst (y := nI (n + 1 - 1)) (pk_sub (a := (n + 1)) (b := 1) (by omega)) ?_
  refine ev_ireturn 38 dX12_lane_38 rfl rfl ?_
  exact k

theorem op_lane {X : pmX} {d n tx z : Nat} {LT : pmT} {v : pmV} {a b c : Int32} (hC : Cpl n tx z LT v) : EvP X (d + 20) MX11_lane 0 [.ref 32, .int a, .int b, .int c] [] (pmT0 ++ LT) v (Aft X (d + 20) MX12_lane [.ref 100, .int a, .int b, .int c]) := by
  obtain ⟨hX, hL, hS, hR, hI, hT, hTa, hSh, hF⟩ := id hC
  have hn8 := hL.1
  by_cases h1 : 0 ≤ a ∧ a ≤ 5
  · by_cases h2 : 0 ≤ b ∧ b ≤ 20
    · by_cases h3 : 0 ≤ c ∧ c ≤ 1
      · by_cases h8 : n = 8
        · refine c_X11_lane_full (d := d + 14) h1 h2 h3 hL.2.2.1 h8 ?_
          refine c_X12_lane_full (d := d + 17) ⟨h1, h2, h3⟩ hL.2.2.2.1 h8 ?_
          exact ⟨rfl, n, tx, z, LT, rfl, hC⟩
        · refine c_X11_lane_ok (d := d + 14) h1 h2 h3 hX hL.2.1 hL.2.2.1 (by omega) ?_
          have x1 := (CX.nil hL.2.2.1).snoc (a, b, c)
          have hn : (adX v n (a, b, c)).1 100 0 = nI n := (x1.1 100 0 (by omega) (by omega)).trans hL.2.2.2.1
          have m1 := (CR.nil hn).snoc (a, b, c)
          refine c_X12_lane_ok (d := d + 17) (LT := LT ++ [(kcl a, 3)]) ⟨h1, h2, h3⟩ (x1.rf hX) hn (by omega) ?_
          exact ⟨rfl, n + 1, tx, z, LT ++ [(kcl a, 3)], rfl, hC.lanes (D := [(a, b, c)]) x1 m1 (fun q hq => by rw [List.mem_singleton] at hq; subst hq; exact ⟨h1, h2, h3⟩) (by show n + 1 ≤ 8; omega)⟩
      · refine c_X11_lane_3 (d := d + 14) h1 h2 h3 ?_
        refine c_X12_lane_1 (d := d + 17) (fun q => h3 q.2.2) ?_
        exact ⟨rfl, n, tx, z, LT, rfl, hC⟩
    · refine c_X11_lane_2 (d := d + 14) h1 h2 ?_
      refine c_X12_lane_1 (d := d + 17) (fun q => h2 q.2.1) ?_
      exact ⟨rfl, n, tx, z, LT, rfl, hC⟩
  · refine c_X11_lane_1 (d := d + 14) h1 ?_
    refine c_X12_lane_1 (d := d + 17) (fun q => h1 q.1) ?_
    exact ⟨rfl, n, tx, z, LT, rfl, hC⟩
def lnV (d : lT) : Bool := decide (0 ≤ d.1 ∧ d.1 ≤ 5) && (decide (0 ≤ d.2.1 ∧ d.2.1 ≤ 20) && decide (0 ≤ d.2.2 ∧ d.2.2 ≤ 1))
theorem lnV_iff {d : lT} : lnV d = true ↔ lOk d := by unfold lnV lOk; simp only [Bool.and_eq_true, decide_eq_true_eq]
def lnG (e : pmV) (t f i : Nat) : lT := (e.1 (93 + 2 * t) (f + 3 * i), e.1 (93 + 2 * t) (f + 3 * i + 1), e.1 (93 + 2 * t) (f + 3 * i + 2))
/-- lanes by a sheet, from item f on: what came, and whether it went outside -/
def lnD (e : pmV) (t q f n : Nat) : Nat → Nat → List lT → List lT × Bool
  | 0, _, D => (D, false)
  | k + 1, i, D => if q < f + 3 * i + 3 then (D, true) else lnD e t q f n k (i + 1) (if lnV (lnG e t f i) = true ∧ n + D.length < 8 then D ++ [lnG e t f i] else D)
def lnA (r : List lT × Bool) : Int32 := if r.2 = true then -12 else nI r.1.length
theorem hasAll_y {q x : Nat} (hq : q ≤ 60) (hx : x ≤ 1000) (h : 0 ≤ nI x ∧ nI x ≤ nI q ∧ 0 ≤ (3 : Int32) ∧ 3 ≤ nI q - nI x) : ¬ q < x + 3 := by
  have h1 := (nI_leI (by omega) (by omega)).mp h.2.1
  have h2 := h.2.2.2
  rw [pk_sub h1] at h2
  have := (nI_leI (a := 3) (by omega) (by omega)).mp h2
  omega
theorem hasAll_n {q x : Nat} (hq : q ≤ 60) (hx : x ≤ 1000) (h : ¬ (0 ≤ nI x ∧ nI x ≤ nI q ∧ 0 ≤ (3 : Int32) ∧ 3 ≤ nI q - nI x)) : q < x + 3 := by
  by_cases c : q < x + 3
  · exact c
  · exact absurd ⟨nI_pos' (by omega), nI_le (by omega) (by omega), by decide, by rw [pk_sub (by omega)]; exact nI_le (a := 3) (by omega) (by omega)⟩ h
theorem lp_lanes {X : pmX} {d : Nat} {P : Option Value → pmT → pmV → Prop} {LT : pmT} {e : pmV} {n t q f N : Nat} (hX : pmRf e) (ht : t < 4) (hq60 : q ≤ 60) (hf60 : f ≤ 60) (hN8 : N ≤ 8) (hn8 : n ≤ 8) (hlen : LT.length = n) (hsq : e.1 (92 + 2 * t) 1 = nI q) {y1 : Int32}  : ∀ (k : Nat) (i : Nat) (D : List lT) (w8 : Value) (v : pmV), i + k = N → CX n D e v → (∀ d, d ∈ D → lOk d) → n + D.length ≤ 8 → (∀ (D' : List lT) v', CX n D' e v' → (∀ d, d ∈ D' → lOk d) → n + D'.length ≤ 8 → (lnD e t q f n k i D).1 = D' → P (some (.int (lnA (lnD e t q f n k i D)))) (pmT0 ++ (LT ++ lTy D')) v') → EvP X (d + 7) MX11_lanes 72 [.ref 32, .int (nI t), .int y1, .int (nI f), .int (nI N), .ref (92 + 2 * t), .int (nI D.length), .int (nI i), w8] [] (pmT0 ++ (LT ++ lTy D)) v P := by
  intro k
  induction k with
  | zero =>
    intro i D w8 v hi hCX hDo hD8 K
    have hi2 : N = i := by omega
    subst hi2
    have hX1 : pmRf v := hCX.rf hX
    have hsz : v.1 (92 + 2 * t) 1 = nI q := (hCX.1 _ _ (by omega) (by omega)).trans hsq
    have hit : ∀ j, v.1 (93 + 2 * t) j = e.1 (93 + 2 * t) j := fun j => hCX.1 _ _ (by omega) (by omega)
    refine ev_iload 72 dX11_lanes_72 rfl ?_
    refine ev_iload 74 dX11_lanes_74 rfl ?_
    refine ev_ic_geN (a := N) (b := N) 76 142 dX11_lanes_76 rfl (by omega) (by omega) (fun c_76 => ?_) (fun c_76 => by omega)
    refine ev_iload 142 dX11_lanes_142 rfl ?_
    refine ev_ireturn 144 dX11_lanes_144 rfl rfl ?_
    have z := K D v hCX hDo hD8
    exact z rfl
  | succ k ih =>
    intro i D w8 v hi hCX hDo hD8 K
    have hX1 : pmRf v := hCX.rf hX
    have hsz : v.1 (92 + 2 * t) 1 = nI q := (hCX.1 _ _ (by omega) (by omega)).trans hsq
    have hit : ∀ j, v.1 (93 + 2 * t) j = e.1 (93 + 2 * t) j := fun j => hCX.1 _ _ (by omega) (by omega)
    refine ev_iload 72 dX11_lanes_72 rfl ?_
    refine ev_iload 74 dX11_lanes_74 rfl ?_
    refine ev_ic_geN (a := i) (b := N) 76 142 dX11_lanes_76 rfl (by omega) (by omega) (fun c_76 => by omega) (fun c_76 => ?_)
    refine ev_iload_n 79 dX11_lanes_79 rfl ?_
    refine ev_iconst 80 dX11_lanes_80 kI_3 ?_
    refine ev_iload 81 dX11_lanes_81 rfl ?_
    refine ev_imul 83 dX11_lanes_83 ?_
    refine ev_cst (y := nI (3 * i)) (nI_mulp 3 i) ?_
    refine ev_iadd 84 dX11_lanes_84 ?_
    refine ev_cst (y := nI (f + 3 * i)) (nI_add f (3 * i)) ?_
    refine ev_istore (ls' := [.ref 32, .int (nI t), .int y1, .int (nI f), .int (nI N), .ref (92 + 2 * t), .int (nI D.length), .int (nI i), .int (nI (f + 3 * i))]) 85 dX11_lanes_85 (Nat.le_of_ble_eq_true rfl) rfl ?_
    refine ev_aload 87 dX11_lanes_87 rfl (by omega) ?_
    refine ev_iload 89 dX11_lanes_89 rfl ?_
    refine ev_iconst 91 dX11_lanes_91 kI_3 ?_
    refine cv_11_249_6 (pc := 92) rfl dX11_lanes_92 (kd_sheet (by omega)) (Nat.le_of_ble_eq_true rfl) ?_
    refine c_X6_hasAll (a := nI (f + 3 * i)) (b := 3) ht (fun h_a => ?_) (fun h_a => ?_)
    · have hin : ¬ q < f + 3 * i + 3 := by rw [hsz] at h_a; exact hasAll_y (by omega) (by omega) h_a
      refine ev_ifT 95 101 dX11_lanes_95 rfl (by decide) ?_
      refine ev_aload_n 101 dX11_lanes_101 rfl (by decide) ?_
      refine ev_aload 102 dX11_lanes_102 rfl (by omega) ?_
      refine ev_iload 104 dX11_lanes_104 rfl ?_
      refine cv_11_112_6 (pc := 106) rfl dX11_lanes_106 (kd_sheet (by omega)) (Nat.le_of_ble_eq_true rfl) ?_
      refine c_X6_at (q := q) ht hX1 hsz hq60 (fun j hj hx => ?_) (fun hx => absurd (show 0 ≤ nI (f + 3 * i) ∧ nI (f + 3 * i) < nI q from ⟨nI_pos' (by omega), nI_lt (by omega) (by omega)⟩) hx)
      obtain rfl : f + 3 * i = j := (nI_eq (by omega) (by omega)).mp hx
      refine ev_cst (y := e.1 (93 + 2 * t) (f + 3 * i)) (hit _) ?_
      refine ev_aload 109 dX11_lanes_109 rfl (by omega) ?_
      refine ev_iload 111 dX11_lanes_111 rfl ?_
      refine ev_iconst 113 dX11_lanes_113 kI_1 ?_
      refine ev_iadd 114 dX11_lanes_114 ?_
      refine ev_cst (y := nI (f + 3 * i + 1)) (nI_add (f + 3 * i) 1) ?_
      refine cv_11_112_6 (pc := 115) rfl dX11_lanes_115 (kd_sheet (by omega)) (Nat.le_of_ble_eq_true rfl) ?_
      refine c_X6_at (q := q) ht hX1 hsz hq60 (fun j hj hx => ?_) (fun hx => absurd (show 0 ≤ nI (f + 3 * i + 1) ∧ nI (f + 3 * i + 1) < nI q from ⟨nI_pos' (by omega), nI_lt (by omega) (by omega)⟩) hx)
      obtain rfl : f + 3 * i + 1 = j := (nI_eq (by omega) (by omega)).mp hx
      refine ev_cst (y := e.1 (93 + 2 * t) (f + 3 * i + 1)) (hit _) ?_
      refine ev_aload 118 dX11_lanes_118 rfl (by omega) ?_
      refine ev_iload 120 dX11_lanes_120 rfl ?_
      refine ev_iconst 122 dX11_lanes_122 kI_2 ?_
      refine ev_iadd 123 dX11_lanes_123 ?_
      refine ev_cst (y := nI (f + 3 * i + 2)) (nI_add (f + 3 * i) 2) ?_
      refine cv_11_112_6 (pc := 124) rfl dX11_lanes_124 (kd_sheet (by omega)) (Nat.le_of_ble_eq_true rfl) ?_
      refine c_X6_at (q := q) ht hX1 hsz hq60 (fun j hj hx => ?_) (fun hx => absurd (show 0 ≤ nI (f + 3 * i + 2) ∧ nI (f + 3 * i + 2) < nI q from ⟨nI_pos' (by omega), nI_lt (by omega) (by omega)⟩) hx)
      obtain rfl : f + 3 * i + 2 = j := (nI_eq (by omega) (by omega)).mp hx
      refine ev_cst (y := e.1 (93 + 2 * t) (f + 3 * i + 2)) (hit _) ?_
      refine cv_11_262_11 (pc := 127) rfl dX11_lanes_127 kd_32 (Nat.le_of_ble_eq_true rfl) ?_
      have hLl : (LT ++ lTy D).length = n + D.length := by rw [List.length_append, hlen]; unfold lTy; rw [List.length_map]
      by_cases hv : lnV (lnG e t f i) = true
      · have hok := lnV_iff.mp hv
        by_cases h8 : n + D.length < 8
        · refine c_X11_lane_ok (LT := LT ++ lTy D) hok.1 hok.2.1 hok.2.2 hX1 hLl hCX.2.1 h8 ?_
          refine ev_if_lt 130 136 dX11_lanes_130 rfl (fun c_130 => absurd c_130 (nI_pos (by omega))) (fun c_130 => ?_)
          refine ev_iinc (y := nI (D.length + 1)) (ls' := [.ref 32, .int (nI t), .int y1, .int (nI f), .int (nI N), .ref (92 + 2 * t), .int (nI (D.length + 1)), .int (nI i), .int (nI (f + 3 * i))]) 133 dX11_lanes_133 rfl (nI_add D.length 1) rfl ?_
          refine ev_iinc (y := nI (i + 1)) (ls' := [.ref 32, .int (nI t), .int y1, .int (nI f), .int (nI N), .ref (92 + 2 * t), .int (nI (D.length + 1)), .int (nI (i + 1)), .int (nI (f + 3 * i))]) 136 dX11_lanes_136 rfl (nI_add i 1) rfl ?_
          refine ev_goto 139 72 dX11_lanes_139 rfl ?_
          have hDo2 : ∀ d, d ∈ D ++ [lnG e t f i] → lOk d := fun d hd => by rcases List.mem_append.mp hd with h | h; exact hDo d h; rw [List.mem_singleton] at h; rw [h]; exact hok
          have hl2 : n + (D ++ [lnG e t f i]).length = n + D.length + 1 := by rw [List.length_append]; rfl
          have hT2 : (LT ++ lTy D) ++ [(kcl (e.1 (93 + 2 * t) (f + 3 * i)), 3)] = LT ++ lTy (D ++ [lnG e t f i]) := by unfold lTy; rw [List.map_append, List.append_assoc]; rfl
          rw [hT2]
          have hl3 : nI (D.length + 1) = nI (D ++ [lnG e t f i]).length := by rw [List.length_append]; rfl
          rw [hl3]
          refine ih (i + 1) (D ++ [lnG e t f i]) _ _ (by omega) (hCX.snoc (lnG e t f i)) hDo2 (by omega) (fun D2 v2 h2 o2 l2 e2 => ?_)
          have z := K D2 v2 h2 o2 l2; rw [lnD, if_neg hin, if_pos ⟨hv, h8⟩] at z; exact z e2
        · refine c_X11_lane_full (LT := LT ++ lTy D) (n := n + D.length) hok.1 hok.2.1 hok.2.2 hCX.2.1 (by omega) ?_
          refine ev_ifT 130 136 dX11_lanes_130 rfl (by decide) ?_
          refine ev_iinc (y := nI (i + 1)) (ls' := [.ref 32, .int (nI t), .int y1, .int (nI f), .int (nI N), .ref (92 + 2 * t), .int (nI D.length), .int (nI (i + 1)), .int (nI (f + 3 * i))]) 136 dX11_lanes_136 rfl (nI_add i 1) rfl ?_
          refine ev_goto 139 72 dX11_lanes_139 rfl ?_
          refine ih (i + 1) D _ _ (by omega) hCX hDo hD8 (fun D2 v2 h2 o2 l2 e2 => ?_)
          have z := K D2 v2 h2 o2 l2; rw [lnD, if_neg hin, if_neg (by first | exact fun q => hv q.1 | exact fun q => h8 q.2)] at z; exact z e2
      · have hno : ¬ lOk (lnG e t f i) := fun z => hv (lnV_iff.mpr z)
        by_cases h1 : 0 ≤ e.1 (93 + 2 * t) (f + 3 * i) ∧ e.1 (93 + 2 * t) (f + 3 * i) ≤ 5
        · by_cases h2 : 0 ≤ e.1 (93 + 2 * t) (f + 3 * i + 1) ∧ e.1 (93 + 2 * t) (f + 3 * i + 1) ≤ 20
          · refine c_X11_lane_3 (LT := LT ++ lTy D) h1 h2 (fun z => hno ⟨h1, h2, z⟩) ?_
            refine ev_ifT 130 136 dX11_lanes_130 rfl (by decide) ?_
            refine ev_iinc (y := nI (i + 1)) (ls' := [.ref 32, .int (nI t), .int y1, .int (nI f), .int (nI N), .ref (92 + 2 * t), .int (nI D.length), .int (nI (i + 1)), .int (nI (f + 3 * i))]) 136 dX11_lanes_136 rfl (nI_add i 1) rfl ?_
            refine ev_goto 139 72 dX11_lanes_139 rfl ?_
            refine ih (i + 1) D _ _ (by omega) hCX hDo hD8 (fun D2 v2 h2 o2 l2 e2 => ?_)
            have z := K D2 v2 h2 o2 l2; rw [lnD, if_neg hin, if_neg (by first | exact fun q => hv q.1 | exact fun q => h8 q.2)] at z; exact z e2
          · refine c_X11_lane_2 (LT := LT ++ lTy D) h1 h2 ?_
            refine ev_ifT 130 136 dX11_lanes_130 rfl (by decide) ?_
            refine ev_iinc (y := nI (i + 1)) (ls' := [.ref 32, .int (nI t), .int y1, .int (nI f), .int (nI N), .ref (92 + 2 * t), .int (nI D.length), .int (nI (i + 1)), .int (nI (f + 3 * i))]) 136 dX11_lanes_136 rfl (nI_add i 1) rfl ?_
            refine ev_goto 139 72 dX11_lanes_139 rfl ?_
            refine ih (i + 1) D _ _ (by omega) hCX hDo hD8 (fun D2 v2 h2 o2 l2 e2 => ?_)
            have z := K D2 v2 h2 o2 l2; rw [lnD, if_neg hin, if_neg (by first | exact fun q => hv q.1 | exact fun q => h8 q.2)] at z; exact z e2
        · refine c_X11_lane_1 (LT := LT ++ lTy D) h1 ?_
          refine ev_ifT 130 136 dX11_lanes_130 rfl (by decide) ?_
          refine ev_iinc (y := nI (i + 1)) (ls' := [.ref 32, .int (nI t), .int y1, .int (nI f), .int (nI N), .ref (92 + 2 * t), .int (nI D.length), .int (nI (i + 1)), .int (nI (f + 3 * i))]) 136 dX11_lanes_136 rfl (nI_add i 1) rfl ?_
          refine ev_goto 139 72 dX11_lanes_139 rfl ?_
          refine ih (i + 1) D _ _ (by omega) hCX hDo hD8 (fun D2 v2 h2 o2 l2 e2 => ?_)
          have z := K D2 v2 h2 o2 l2; rw [lnD, if_neg hin, if_neg (by first | exact fun q => hv q.1 | exact fun q => h8 q.2)] at z; exact z e2
    · have hin : q < f + 3 * i + 3 := by rw [hsz] at h_a; exact hasAll_n (by omega) (by omega) h_a
      refine ev_ifF 95 101 dX11_lanes_95 rfl (by decide) ?_
      refine ev_bipush 98 dX11_lanes_98 kB_m12 ?_
      refine ev_ireturn 100 dX11_lanes_100 rfl rfl ?_
      have z := K D v hCX hDo hD8
      rw [lnD, if_pos hin] at z
      exact z rfl

