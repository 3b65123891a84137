/-! waited, day: both sides -/
theorem c_X11_waited_1 {X : pmX} {d : Nat} {v : pmV} {P : Option Value → pmT → pmV → Prop} {LT : pmT} {a b : Int32} (h1 : ¬ ((1 : Int32) ≤ a ∧ a ≤ 60)) (k : P (some (.long (-4611686018427387904))) (pmT0 ++ LT) v) : EvP X (d + 3) MX11_waited 0 [.ref 32, .int a, .int b] [] (pmT0 ++ LT) v P := by
  refine ev_iload_n 0 dX11_waited_0 rfl ?_
  refine ev_iconst 1 dX11_waited_1 kI_1 ?_
  refine ev_bipush 2 dX11_waited_2 kB_60 ?_
  refine cs_11_74 (pc := 4) rfl dX11_waited_4 (Nat.le_of_ble_eq_true rfl) ?_
  refine c_X11_isIn (fun h_4 => absurd h_4 h1) (fun h_4 => ?_)
  refine ev_ifT 7 27 dX11_waited_7 rfl (by decide) ?_
  refine ev_ldc2 27 dX11_waited_27 l2_11_159 ?_
  refine ev_lreturn 30 dX11_waited_30 rfl ?_
  exact k

theorem c_X11_waited_2 {X : pmX} {d : Nat} {v : pmV} {P : Option Value → pmT → pmV → Prop} {LT : pmT} {a b : Int32} (h1 : (1 : Int32) ≤ a ∧ a ≤ 60) (h2 : ¬ (-1 ≤ b ∧ b ≤ 4)) (k : P (some (.long (-4611686018427387904))) (pmT0 ++ LT) v) : EvP X (d + 3) MX11_waited 0 [.ref 32, .int a, .int b] [] (pmT0 ++ LT) v P := by
  refine ev_iload_n 0 dX11_waited_0 rfl ?_
  refine ev_iconst 1 dX11_waited_1 kI_1 ?_
  refine ev_bipush 2 dX11_waited_2 kB_60 ?_
  refine cs_11_74 (pc := 4) rfl dX11_waited_4 (Nat.le_of_ble_eq_true rfl) ?_
  refine c_X11_isIn (fun h_4 => ?_) (fun h_4 => absurd h1 h_4)
  refine ev_ifF 7 27 dX11_waited_7 rfl (by decide) ?_
  refine ev_iload_n 10 dX11_waited_10 rfl ?_
  refine ev_iconst 11 dX11_waited_11 kI_m1 ?_
  refine ev_iconst 12 dX11_waited_12 kI_4 ?_
  refine cs_11_74 (pc := 13) rfl dX11_waited_13 (Nat.le_of_ble_eq_true rfl) ?_
  refine c_X11_isIn (fun h_13 => absurd h_13 h2) (fun h_13 => ?_)
  refine ev_ifT 16 27 dX11_waited_16 rfl (by decide) ?_
  refine ev_ldc2 27 dX11_waited_27 l2_11_159 ?_
  refine ev_lreturn 30 dX11_waited_30 rfl ?_
  exact k

theorem c_X11_waited_3 {X : pmX} {d : Nat} {v : pmV} {P : Option Value → pmT → pmV → Prop} {LT : pmT} {a b : Int32} (h1 : (1 : Int32) ≤ a ∧ a ≤ 60) (h2 : -1 ≤ b ∧ b ≤ 4) (hX : pmRf v) (h3 : Lk v b) (k : P (some (.long (-4611686018427387904))) (pmT0 ++ LT) v) : EvP X (d + 3) MX11_waited 0 [.ref 32, .int a, .int b] [] (pmT0 ++ LT) v P := by
  refine ev_iload_n 0 dX11_waited_0 rfl ?_
  refine ev_iconst 1 dX11_waited_1 kI_1 ?_
  refine ev_bipush 2 dX11_waited_2 kB_60 ?_
  refine cs_11_74 (pc := 4) rfl dX11_waited_4 (Nat.le_of_ble_eq_true rfl) ?_
  refine c_X11_isIn (fun h_4 => ?_) (fun h_4 => absurd h1 h_4)
  refine ev_ifF 7 27 dX11_waited_7 rfl (by decide) ?_
  refine ev_iload_n 10 dX11_waited_10 rfl ?_
  refine ev_iconst 11 dX11_waited_11 kI_m1 ?_
  refine ev_iconst 12 dX11_waited_12 kI_4 ?_
  refine cs_11_74 (pc := 13) rfl dX11_waited_13 (Nat.le_of_ble_eq_true rfl) ?_
  refine c_X11_isIn (fun h_13 => ?_) (fun h_13 => absurd h2 h_13)
  refine ev_ifF 16 27 dX11_waited_16 rfl (by decide) ?_
  refine ev_aload_n 19 dX11_waited_19 rfl (by decide) ?_
  refine ev_iload_n 20 dX11_waited_20 rfl ?_
  refine cv_11_156_11 (pc := 21) rfl dX11_waited_21 kd_32 (Nat.le_of_ble_eq_true rfl) ?_
  refine c_X11_lacksPlan hX (fun h_21 => ?_) (fun h_21 => absurd h3 h_21)
  refine ev_ifF 24 31 dX11_waited_24 rfl (by decide) ?_
  refine ev_ldc2 27 dX11_waited_27 l2_11_159 ?_
  refine ev_lreturn 30 dX11_waited_30 rfl ?_
  exact k

theorem c_X12_waited_1 {X : pmX} {d : Nat} {v : pmV} {P : Option Value → pmT → pmV → Prop} {LT : pmT} {a b : Int32} (h1 : ¬ (((1 : Int32) ≤ a ∧ a ≤ 60) ∧ (-1 ≤ b ∧ b ≤ 4))) (k : P (some (.long (-4611686018427387904))) (pmT0 ++ LT) v) : EvP X (d + 2) MX12_waited 0 [.ref 100, .int a, .int b] [] (pmT0 ++ LT) v P := by
  refine ev_aload_n 0 dX12_waited_0 rfl (by decide) ?_
  refine ev_iload_n 1 dX12_waited_1 rfl ?_
  refine ev_iload_n 2 dX12_waited_2 rfl ?_
  refine cv_12_308_12 (pc := 3) rfl dX12_waited_3 kd_100 (Nat.le_of_ble_eq_true rfl) ?_
  refine c_X12_isDay (fun h_3 => absurd h_3 h1) (fun h_3 => ?_)
  refine ev_ifT 6 17 dX12_waited_6 rfl (by decide) ?_
  refine ev_ldc2 17 dX12_waited_17 l2_12_314 ?_
  refine ev_lreturn 20 dX12_waited_20 rfl ?_
  exact k

theorem c_X12_waited_3 {X : pmX} {d : Nat} {v : pmV} {P : Option Value → pmT → pmV → Prop} {LT : pmT} {a b : Int32} (h1 : ((1 : Int32) ≤ a ∧ a ≤ 60) ∧ (-1 ≤ b ∧ b ≤ 4)) (hX : pmRf v) (hSh : cShe v) (h3 : Lk v b) (k : P (some (.long (-4611686018427387904))) (pmT0 ++ LT) v) : EvP X (d + 2) MX12_waited 0 [.ref 100, .int a, .int b] [] (pmT0 ++ LT) v P := by
  refine ev_aload_n 0 dX12_waited_0 rfl (by decide) ?_
  refine ev_iload_n 1 dX12_waited_1 rfl ?_
  refine ev_iload_n 2 dX12_waited_2 rfl ?_
  refine cv_12_308_12 (pc := 3) rfl dX12_waited_3 kd_100 (Nat.le_of_ble_eq_true rfl) ?_
  refine c_X12_isDay (fun h_3 => ?_) (fun h_3 => absurd h1 h_3)
  refine ev_ifF 6 17 dX12_waited_6 rfl (by decide) ?_
  refine ev_aload_n 9 dX12_waited_9 rfl (by decide) ?_
  refine ev_iload_n 10 dX12_waited_10 rfl ?_
  refine cv_12_311_12 (pc := 11) rfl dX12_waited_11 kd_100 (Nat.le_of_ble_eq_true rfl) ?_
  refine c_X12_lacks hX hSh (fun h_11 => ?_) (fun h_11 => absurd h3 h_11)
  refine ev_ifF 14 21 dX12_waited_14 rfl (by decide) ?_
  refine ev_ldc2 17 dX12_waited_17 l2_12_314 ?_
  refine ev_lreturn 20 dX12_waited_20 rfl ?_
  exact k

theorem c_X11_waited_ok {X : pmX} {d : Nat} {v : pmV} {P : Option Value → pmT → pmV → Prop} {LT : pmT} {n tx z r N : Nat} {b : Int32} {pl o : Nat → Int32} (hC : Cpl n tx z LT v) (hr : r < tx) (hr1 : v.1 34 6 = nI r) (hN : N ≤ 60) (h1 : (1 : Int32) ≤ nI N ∧ nI N ≤ 60) (h2 : -1 ≤ b ∧ b ≤ 4) (h3 : ¬ Lk v b) (hb : PB v b pl o) (k : ∀ v', DX v n r (pR v n r pl o N).1 (pR v n r pl o N).2 v' → P (some (.long (pR v n r pl o N).2)) (pmT0 ++ LT) v') : EvP X (d + 14) MX11_waited 0 [.ref 32, .int (nI N), .int b] [] (pmT0 ++ LT) v P := by
  have hX := hC.1
  refine ev_iload_n 0 dX11_waited_0 rfl ?_
  refine ev_iconst 1 dX11_waited_1 kI_1 ?_
  refine ev_bipush 2 dX11_waited_2 kB_60 ?_
  refine cs_11_74 (pc := 4) rfl dX11_waited_4 (Nat.le_of_ble_eq_true rfl) ?_
  refine c_X11_isIn (fun h_4 => ?_) (fun h_4 => absurd h1 h_4)
  refine ev_ifF 7 27 dX11_waited_7 rfl (by decide) ?_
  refine ev_iload_n 10 dX11_waited_10 rfl ?_
  refine ev_iconst 11 dX11_waited_11 kI_m1 ?_
  refine ev_iconst 12 dX11_waited_12 kI_4 ?_
  refine cs_11_74 (pc := 13) rfl dX11_waited_13 (Nat.le_of_ble_eq_true rfl) ?_
  refine c_X11_isIn (fun h_13 => ?_) (fun h_13 => absurd h2 h_13)
  refine ev_ifF 16 27 dX11_waited_16 rfl (by decide) ?_
  refine ev_aload_n 19 dX11_waited_19 rfl (by decide) ?_
  refine ev_iload_n 20 dX11_waited_20 rfl ?_
  refine cv_11_156_11 (pc := 21) rfl dX11_waited_21 kd_32 (Nat.le_of_ble_eq_true rfl) ?_
  refine c_X11_lacksPlan hX (fun h_21 => absurd h_21 h3) (fun h_21 => ?_)
  refine ev_ifT 24 31 dX11_waited_24 rfl (by decide) ?_
  refine ev_aload_n 31 dX11_waited_31 rfl (by decide) ?_
  refine ev_iload_n 32 dX11_waited_32 rfl ?_
  refine ev_iload_n 33 dX11_waited_33 rfl ?_
  refine cv_11_161_11 (pc := 34) rfl dX11_waited_34 kd_32 (Nat.le_of_ble_eq_true rfl) ?_
  refine c_X11_passBy hC hr hr1 hX dFr.rfl rfl hN hb (fun v1 hD => ?_)
  refine ev_aload_n 37 dX11_waited_37 rfl (by decide) ?_
  refine gf_11_47 (pc := 38) rfl dX11_waited_38 kd_32 (rf_32_9 hD.1) ?_
  refine gf_11_165 (x := (pR v n r pl o N).2) (pc := 41) rfl dX11_waited_41 kd_51 hD.rp ?_
  refine ev_lreturn 44 dX11_waited_44 rfl ?_
  exact k _ hD

theorem c_X12_waited_ok {X : pmX} {d : Nat} {v : pmV} {P : Option Value → pmT → pmV → Prop} {LT : pmT} {e : pmV} {n tx z r N : Nat} {s : dT} {p : Int64} {b : Int32} {pl o : Nat → Int32} (hC : Cpl n tx z LT e) (hr : r < tx) (hr2 : e.1 100 11 = nI r) (hD : DX e n r s p v) (hN : 1 ≤ N ∧ N ≤ 60) (hb : PB e b pl o) (h1 : ((1 : Int32) ≤ nI N ∧ nI N ≤ 60) ∧ (-1 ≤ b ∧ b ≤ 4)) (h3 : ¬ Lk v b) (k : ∀ v' g, DM e n g (pR e n r pl o N).1 (pR e n r pl o N).2 v' → g 0 = -1 → g 1 = -1 → P (some (.long (pR e n r pl o N).2)) (pmT0 ++ LT) v') : EvP X (d + 7) MX12_waited 0 [.ref 100, .int (nI N), .int b] [] (pmT0 ++ LT) v P := by
  have hX := hD.1
  have hSh := (hC.fdx hD.fd).2.2.2.2.2.2.2.1
  refine ev_aload_n 0 dX12_waited_0 rfl (by decide) ?_
  refine ev_iload_n 1 dX12_waited_1 rfl ?_
  refine ev_iload_n 2 dX12_waited_2 rfl ?_
  refine cv_12_308_12 (pc := 3) rfl dX12_waited_3 kd_100 (Nat.le_of_ble_eq_true rfl) ?_
  refine c_X12_isDay (fun h_3 => ?_) (fun h_3 => absurd h1 h_3)
  refine ev_ifF 6 17 dX12_waited_6 rfl (by decide) ?_
  refine ev_aload_n 9 dX12_waited_9 rfl (by decide) ?_
  refine ev_iload_n 10 dX12_waited_10 rfl ?_
  refine cv_12_311_12 (pc := 11) rfl dX12_waited_11 kd_100 (Nat.le_of_ble_eq_true rfl) ?_
  refine c_X12_lacks hX hSh (fun h_11 => absurd h_11 h3) (fun h_11 => ?_)
  refine ev_ifT 14 21 dX12_waited_14 rfl (by decide) ?_
  refine ev_aload_n 21 dX12_waited_21 rfl (by decide) ?_
  refine ev_iload_n 22 dX12_waited_22 rfl ?_
  refine ev_iload_n 23 dX12_waited_23 rfl ?_
  refine cv_12_316_12 (pc := 24) rfl dX12_waited_24 kd_100 (Nat.le_of_ble_eq_true rfl) ?_
  refine ref_go hN hC hr hr2 hD hb (fun v1 g hD g0 g1 => ?_)
  refine ev_aload_n 27 dX12_waited_27 rfl (by decide) ?_
  refine gf_12_173 (x := (pR e n r pl o N).2) (pc := 28) rfl dX12_waited_28 kd_100 hD.rp ?_
  refine ev_lreturn 31 dX12_waited_31 rfl ?_
  exact k _ _ hD g0 g1

theorem Lk.cg {e v : pmV} {b : Int32} (h : ∀ t, t < 4 → v.1 (92 + 2 * t) 0 = e.1 (92 + 2 * t) 0) : Lk v b ↔ Lk e b := by
  constructor
  · rintro ⟨t, ht, e1, e2⟩; exact ⟨t, ht, e1, (h t ht).symm.trans e2⟩
  · rintro ⟨t, ht, e1, e2⟩; exact ⟨t, ht, e1, (h t ht).trans e2⟩
theorem op_waited {X : pmX} {d n tx z : Nat} {LT : pmT} {v : pmV} {a b : Int32} (hC : Cpl n tx z LT v) : EvP X (d + 20) MX11_waited 0 [.ref 32, .int a, .int b] [] (pmT0 ++ LT) v (Aft X (d + 20) MX12_waited [.ref 100, .int a, .int b]) := by
  obtain ⟨hX, hL, hS, hR, hI, hT, hTa, hSh, hF⟩ := id hC
  obtain ⟨r, hr, hr1, hr2⟩ := hR
  by_cases h1 : (1 : Int32) ≤ a ∧ a ≤ 60
  · by_cases h2 : -1 ≤ b ∧ b ≤ 4
    · by_cases h3 : Lk v b
      · refine c_X11_waited_3 (d := d + 17) h1 h2 hX h3 ?_
        refine c_X12_waited_3 (d := d + 18) ⟨h1, h2⟩ hX hSh h3 ?_
        exact ⟨rfl, n, tx, z, LT, rfl, hC⟩
      · obtain ⟨N, rfl, hN1, hN2⟩ := nI_rng (a := 1) (b := 60) (by omega) (by omega) h1
        obtain ⟨pl, o, hb⟩ := by_PB v h2
        refine c_X11_waited_ok (d := d + 6) hC hr hr1 hN2 h1 h2 h3 hb (fun v1 hD => ?_)
        refine c_X12_waited_ok (d := d + 13) hC hr hr2 hD ⟨hN1, hN2⟩ hb ⟨h1, h2⟩ (fun q => h3 ((Lk.cg fun t _ => hD.c (by unfold DcX; omega)).mp q)) (fun v2 g hM g0 g1 => ?_)
        exact ⟨rfl, n, tx, z, LT, rfl, hM.fin hC g0 g1⟩
    · refine c_X11_waited_2 (d := d + 17) h1 h2 ?_
      refine c_X12_waited_1 (d := d + 18) (fun q => h2 q.2) ?_
      exact ⟨rfl, n, tx, z, LT, rfl, hC⟩
  · refine c_X11_waited_1 (d := d + 17) h1 ?_
    refine c_X12_waited_1 (d := d + 18) (fun q => h1 q.1) ?_
    exact ⟨rfl, n, tx, z, LT, rfl, hC⟩
theorem c_X11_day_1 {X : pmX} {d : Nat} {v : pmV} {P : Option Value → pmT → pmV → Prop} {LT : pmT} {a b c : Int32} (h1 : ¬ ((1 : Int32) ≤ a ∧ a ≤ 60)) (k : P (some (.int (-2))) (pmT0 ++ LT) v) : EvP X (d + 3) MX11_day 0 [.ref 32, .int a, .int b, .int c] [] (pmT0 ++ LT) v P := by
  refine ev_iload_n 0 dX11_day_0 rfl ?_
  refine ev_iconst 1 dX11_day_1 kI_1 ?_
  refine ev_bipush 2 dX11_day_2 kB_60 ?_
  refine cs_11_74 (pc := 4) rfl dX11_day_4 (Nat.le_of_ble_eq_true rfl) ?_
  refine c_X11_isIn (fun h_4 => absurd h_4 h1) (fun h_4 => ?_)
  refine ev_ifT 7 28 dX11_day_7 rfl (by decide) ?_
  refine ev_bipush 28 dX11_day_28 kB_m2 ?_
  refine ev_ireturn 30 dX11_day_30 rfl rfl ?_
  exact k

theorem c_X11_day_2 {X : pmX} {d : Nat} {v : pmV} {P : Option Value → pmT → pmV → Prop} {LT : pmT} {a b c : Int32} (h1 : (1 : Int32) ≤ a ∧ a ≤ 60) (h2 : ¬ (-1 ≤ b ∧ b ≤ 4)) (k : P (some (.int (-2))) (pmT0 ++ LT) v) : EvP X (d + 3) MX11_day 0 [.ref 32, .int a, .int b, .int c] [] (pmT0 ++ LT) v P := by
  refine ev_iload_n 0 dX11_day_0 rfl ?_
  refine ev_iconst 1 dX11_day_1 kI_1 ?_
  refine ev_bipush 2 dX11_day_2 kB_60 ?_
  refine cs_11_74 (pc := 4) rfl dX11_day_4 (Nat.le_of_ble_eq_true rfl) ?_
  refine c_X11_isIn (fun h_4 => ?_) (fun h_4 => absurd h1 h_4)
  refine ev_ifF 7 28 dX11_day_7 rfl (by decide) ?_
  refine ev_iload_n 10 dX11_day_10 rfl ?_
  refine ev_iconst 11 dX11_day_11 kI_m1 ?_
  refine ev_iconst 12 dX11_day_12 kI_4 ?_
  refine cs_11_74 (pc := 13) rfl dX11_day_13 (Nat.le_of_ble_eq_true rfl) ?_
  refine c_X11_isIn (fun h_13 => absurd h_13 h2) (fun h_13 => ?_)
  refine ev_ifT 16 28 dX11_day_16 rfl (by decide) ?_
  refine ev_bipush 28 dX11_day_28 kB_m2 ?_
  refine ev_ireturn 30 dX11_day_30 rfl rfl ?_
  exact k

theorem c_X11_day_4 {X : pmX} {d : Nat} {v : pmV} {P : Option Value → pmT → pmV → Prop} {LT : pmT} {a b c : Int32} (h1 : (1 : Int32) ≤ a ∧ a ≤ 60) (h2 : -1 ≤ b ∧ b ≤ 4) (h4 : ¬ (0 ≤ c ∧ c ≤ 4)) (k : P (some (.int (-2))) (pmT0 ++ LT) v) : EvP X (d + 3) MX11_day 0 [.ref 32, .int a, .int b, .int c] [] (pmT0 ++ LT) v P := by
  refine ev_iload_n 0 dX11_day_0 rfl ?_
  refine ev_iconst 1 dX11_day_1 kI_1 ?_
  refine ev_bipush 2 dX11_day_2 kB_60 ?_
  refine cs_11_74 (pc := 4) rfl dX11_day_4 (Nat.le_of_ble_eq_true rfl) ?_
  refine c_X11_isIn (fun h_4 => ?_) (fun h_4 => absurd h1 h_4)
  refine ev_ifF 7 28 dX11_day_7 rfl (by decide) ?_
  refine ev_iload_n 10 dX11_day_10 rfl ?_
  refine ev_iconst 11 dX11_day_11 kI_m1 ?_
  refine ev_iconst 12 dX11_day_12 kI_4 ?_
  refine cs_11_74 (pc := 13) rfl dX11_day_13 (Nat.le_of_ble_eq_true rfl) ?_
  refine c_X11_isIn (fun h_13 => ?_) (fun h_13 => absurd h2 h_13)
  refine ev_ifF 16 28 dX11_day_16 rfl (by decide) ?_
  refine ev_iload_n 19 dX11_day_19 rfl ?_
  refine ev_iconst 20 dX11_day_20 kI_0 ?_
  refine ev_iconst 21 dX11_day_21 kI_4 ?_
  refine cs_11_74 (pc := 22) rfl dX11_day_22 (Nat.le_of_ble_eq_true rfl) ?_
  refine c_X11_isIn (fun h_22 => absurd h_22 h4) (fun h_22 => ?_)
  refine ev_ifF 25 31 dX11_day_25 rfl (by decide) ?_
  refine ev_bipush 28 dX11_day_28 kB_m2 ?_
  refine ev_ireturn 30 dX11_day_30 rfl rfl ?_
  exact k

theorem c_X11_day_3 {X : pmX} {d : Nat} {v : pmV} {P : Option Value → pmT → pmV → Prop} {LT : pmT} {a b c : Int32} (h1 : (1 : Int32) ≤ a ∧ a ≤ 60) (h2 : -1 ≤ b ∧ b ≤ 4) (h4 : 0 ≤ c ∧ c ≤ 4) (hX : pmRf v) (h3 : Lk v b) (k : P (some (.int (-11))) (pmT0 ++ LT) v) : EvP X (d + 3) MX11_day 0 [.ref 32, .int a, .int b, .int c] [] (pmT0 ++ LT) v P := by
  refine ev_iload_n 0 dX11_day_0 rfl ?_
  refine ev_iconst 1 dX11_day_1 kI_1 ?_
  refine ev_bipush 2 dX11_day_2 kB_60 ?_
  refine cs_11_74 (pc := 4) rfl dX11_day_4 (Nat.le_of_ble_eq_true rfl) ?_
  refine c_X11_isIn (fun h_4 => ?_) (fun h_4 => absurd h1 h_4)
  refine ev_ifF 7 28 dX11_day_7 rfl (by decide) ?_
  refine ev_iload_n 10 dX11_day_10 rfl ?_
  refine ev_iconst 11 dX11_day_11 kI_m1 ?_
  refine ev_iconst 12 dX11_day_12 kI_4 ?_
  refine cs_11_74 (pc := 13) rfl dX11_day_13 (Nat.le_of_ble_eq_true rfl) ?_
  refine c_X11_isIn (fun h_13 => ?_) (fun h_13 => absurd h2 h_13)
  refine ev_ifF 16 28 dX11_day_16 rfl (by decide) ?_
  refine ev_iload_n 19 dX11_day_19 rfl ?_
  refine ev_iconst 20 dX11_day_20 kI_0 ?_
  refine ev_iconst 21 dX11_day_21 kI_4 ?_
  refine cs_11_74 (pc := 22) rfl dX11_day_22 (Nat.le_of_ble_eq_true rfl) ?_
  refine c_X11_isIn (fun h_22 => ?_) (fun h_22 => absurd h4 h_22)
  refine ev_ifT 25 31 dX11_day_25 rfl (by decide) ?_
  refine ev_aload_n 31 dX11_day_31 rfl (by decide) ?_
  refine ev_iload_n 32 dX11_day_32 rfl ?_
  refine cv_11_156_11 (pc := 33) rfl dX11_day_33 kd_32 (Nat.le_of_ble_eq_true rfl) ?_
  refine c_X11_lacksPlan hX (fun h_33 => ?_) (fun h_33 => absurd h3 h_33)
  refine ev_ifF 36 42 dX11_day_36 rfl (by decide) ?_
  refine ev_bipush 39 dX11_day_39 kB_m11 ?_
  refine ev_ireturn 41 dX11_day_41 rfl rfl ?_
  exact k

theorem c_X12_day_1 {X : pmX} {d : Nat} {v : pmV} {P : Option Value → pmT → pmV → Prop} {LT : pmT} {a b c : Int32} (h1 : ¬ (((1 : Int32) ≤ a ∧ a ≤ 60) ∧ (-1 ≤ b ∧ b ≤ 4))) (k : P (some (.int (-2))) (pmT0 ++ LT) v) : EvP X (d + 2) MX12_day 0 [.ref 100, .int a, .int b, .int c, pmJ, pmJ] [] (pmT0 ++ LT) v P := by
  refine ev_aload_n 0 dX12_day_0 rfl (by decide) ?_
  refine ev_iload_n 1 dX12_day_1 rfl ?_
  refine ev_iload_n 2 dX12_day_2 rfl ?_
  refine cv_12_308_12 (pc := 3) rfl dX12_day_3 kd_100 (Nat.le_of_ble_eq_true rfl) ?_
  refine c_X12_isDay (fun h_3 => absurd h_3 h1) (fun h_3 => ?_)
  refine ev_ifT 6 19 dX12_day_6 rfl (by decide) ?_
  refine ev_bipush 19 dX12_day_19 kB_m2 ?_
  refine ev_ireturn 21 dX12_day_21 rfl rfl ?_
  exact k

theorem c_X12_day_4 {X : pmX} {d : Nat} {v : pmV} {P : Option Value → pmT → pmV → Prop} {LT : pmT} {a b c : Int32} (h1 : ((1 : Int32) ≤ a ∧ a ≤ 60) ∧ (-1 ≤ b ∧ b ≤ 4)) (h4 : ¬ (0 ≤ c ∧ c ≤ 4)) (k : P (some (.int (-2))) (pmT0 ++ LT) v) : EvP X (d + 2) MX12_day 0 [.ref 100, .int a, .int b, .int c, pmJ, pmJ] [] (pmT0 ++ LT) v P := by
  refine ev_aload_n 0 dX12_day_0 rfl (by decide) ?_
  refine ev_iload_n 1 dX12_day_1 rfl ?_
  refine ev_iload_n 2 dX12_day_2 rfl ?_
  refine cv_12_308_12 (pc := 3) rfl dX12_day_3 kd_100 (Nat.le_of_ble_eq_true rfl) ?_
  refine c_X12_isDay (fun h_3 => ?_) (fun h_3 => absurd h1 h_3)
  refine ev_ifF 6 19 dX12_day_6 rfl (by decide) ?_
  refine ev_aload_n 9 dX12_day_9 rfl (by decide) ?_
  refine ev_iload_n 10 dX12_day_10 rfl ?_
  refine ev_iconst 11 dX12_day_11 kI_0 ?_
  refine ev_iconst 12 dX12_day_12 kI_4 ?_
  refine cv_12_7_12 (pc := 13) rfl dX12_day_13 kd_100 (Nat.le_of_ble_eq_true rfl) ?_
  refine c_X12_in (fun h_13 => absurd h_13 h4) (fun h_13 => ?_)
  refine ev_ifF 16 22 dX12_day_16 rfl (by decide) ?_
  refine ev_bipush 19 dX12_day_19 kB_m2 ?_
  refine ev_ireturn 21 dX12_day_21 rfl rfl ?_
  exact k

theorem c_X12_day_3 {X : pmX} {d : Nat} {v : pmV} {P : Option Value → pmT → pmV → Prop} {LT : pmT} {a b c : Int32} (h1 : ((1 : Int32) ≤ a ∧ a ≤ 60) ∧ (-1 ≤ b ∧ b ≤ 4)) (h4 : 0 ≤ c ∧ c ≤ 4) (hX : pmRf v) (hSh : cShe v) (h3 : Lk v b) (k : P (some (.int (-11))) (pmT0 ++ LT) v) : EvP X (d + 2) MX12_day 0 [.ref 100, .int a, .int b, .int c, pmJ, pmJ] [] (pmT0 ++ LT) v P := by
  refine ev_aload_n 0 dX12_day_0 rfl (by decide) ?_
  refine ev_iload_n 1 dX12_day_1 rfl ?_
  refine ev_iload_n 2 dX12_day_2 rfl ?_
  refine cv_12_308_12 (pc := 3) rfl dX12_day_3 kd_100 (Nat.le_of_ble_eq_true rfl) ?_
  refine c_X12_isDay (fun h_3 => ?_) (fun h_3 => absurd h1 h_3)
  refine ev_ifF 6 19 dX12_day_6 rfl (by decide) ?_
  refine ev_aload_n 9 dX12_day_9 rfl (by decide) ?_
  refine ev_iload_n 10 dX12_day_10 rfl ?_
  refine ev_iconst 11 dX12_day_11 kI_0 ?_
  refine ev_iconst 12 dX12_day_12 kI_4 ?_
  refine cv_12_7_12 (pc := 13) rfl dX12_day_13 kd_100 (Nat.le_of_ble_eq_true rfl) ?_
  refine c_X12_in (fun h_13 => ?_) (fun h_13 => absurd h4 h_13)
  refine ev_ifT 16 22 dX12_day_16 rfl (by decide) ?_
  refine ev_aload_n 22 dX12_day_22 rfl (by decide) ?_
  refine ev_iload_n 23 dX12_day_23 rfl ?_
  refine cv_12_311_12 (pc := 24) rfl dX12_day_24 kd_100 (Nat.le_of_ble_eq_true rfl) ?_
  refine c_X12_lacks hX hSh (fun h_24 => ?_) (fun h_24 => absurd h3 h_24)
  refine ev_ifF 27 33 dX12_day_27 rfl (by decide) ?_
  refine ev_bipush 30 dX12_day_30 kB_m11 ?_
  refine ev_ireturn 32 dX12_day_32 rfl rfl ?_
  exact k

/-- what day() answers of a day -/
def dAns (s : dT) (n q : Nat) : Int32 := if q = 0 then s 0 0 else if q = 1 then s 0 1 else if q = 2 then s 5 0 else if q = 3 then s 5 1 else pBits s n
theorem c_X11_day_ok {X : pmX} {d : Nat} {v : pmV} {P : Option Value → pmT → pmV → Prop} {LT : pmT} {n tx z r N : Nat} {b : Int32} {pl o : Nat → Int32} {q : Nat} (hC : Cpl n tx z LT v) (hr : r < tx) (hr1 : v.1 34 6 = nI r) (hN : N ≤ 60) (hq : q ≤ 4) (h1 : (1 : Int32) ≤ nI N ∧ nI N ≤ 60) (h2 : -1 ≤ b ∧ b ≤ 4) (h3 : ¬ Lk v b) (hb : PB v b pl o) (k : ∀ v', DX v n r (pR v n r pl o N).1 (pR v n r pl o N).2 v' → P (some (.int (dAns (pR v n r pl o N).1 n q))) (pmT0 ++ LT) v') : EvP X (d + 14) MX11_day 0 [.ref 32, .int (nI N), .int b, .int (nI q)] [] (pmT0 ++ LT) v P := by
  have hX := hC.1
  have : q = 0 ∨ q = 1 ∨ q = 2 ∨ q = 3 ∨ q = 4 := by omega
  rcases this with rfl | rfl | rfl | rfl | rfl
  · refine ev_iload_n 0 dX11_day_0 rfl ?_
    refine ev_iconst 1 dX11_day_1 kI_1 ?_
    refine ev_bipush 2 dX11_day_2 kB_60 ?_
    refine cs_11_74 (pc := 4) rfl dX11_day_4 (Nat.le_of_ble_eq_true rfl) ?_
    refine c_X11_isIn (fun h_4 => ?_) (fun h_4 => absurd h1 h_4)
    refine ev_ifF 7 28 dX11_day_7 rfl (by decide) ?_
    refine ev_iload_n 10 dX11_day_10 rfl ?_
    refine ev_iconst 11 dX11_day_11 kI_m1 ?_
    refine ev_iconst 12 dX11_day_12 kI_4 ?_
    refine cs_11_74 (pc := 13) rfl dX11_day_13 (Nat.le_of_ble_eq_true rfl) ?_
    refine c_X11_isIn (fun h_13 => ?_) (fun h_13 => absurd h2 h_13)
    refine ev_ifF 16 28 dX11_day_16 rfl (by decide) ?_
    refine ev_iload_n 19 dX11_day_19 rfl ?_
    refine ev_iconst 20 dX11_day_20 kI_0 ?_
    refine ev_iconst 21 dX11_day_21 kI_4 ?_
    refine cs_11_74 (pc := 22) rfl dX11_day_22 (Nat.le_of_ble_eq_true rfl) ?_
    refine c_X11_isIn (fun h_22 => ?_) (fun h_22 => absurd (show (0 : Int32) ≤ 0 ∧ (0 : Int32) ≤ 4 by decide) h_22)
    refine ev_ifT 25 31 dX11_day_25 rfl (by decide) ?_
    refine ev_aload_n 31 dX11_day_31 rfl (by decide) ?_
    refine ev_iload_n 32 dX11_day_32 rfl ?_
    refine cv_11_156_11 (pc := 33) rfl dX11_day_33 kd_32 (Nat.le_of_ble_eq_true rfl) ?_
    refine c_X11_lacksPlan hX (fun h_33 => absurd h_33 h3) (fun h_33 => ?_)
    refine ev_ifT 36 42 dX11_day_36 rfl (by decide) ?_
    refine ev_aload_n 42 dX11_day_42 rfl (by decide) ?_
    refine ev_iload_n 43 dX11_day_43 rfl ?_
    refine ev_iload_n 44 dX11_day_44 rfl ?_
    refine cv_11_161_11 (pc := 45) rfl dX11_day_45 kd_32 (Nat.le_of_ble_eq_true rfl) ?_
    refine c_X11_passBy hC hr hr1 hX dFr.rfl rfl hN hb (fun v1 hD => ?_)
    refine ev_iload_n 48 dX11_day_48 rfl ?_
    refine ev_swIn 49 80 dX11_day_49 (by decide) rfl rfl ?_
    refine ev_aload_n 80 dX11_day_80 rfl (by decide) ?_
    refine gf_11_47 (pc := 81) rfl dX11_day_81 kd_32 (rf_32_9 hD.1) ?_
    refine gf_11_169 (pc := 84) rfl dX11_day_84 kd_51 (rf_51_11 hD.1) ?_
    refine ev_iconst 87 dX11_day_87 kI_0 ?_
    refine ev_ialdJ (x := ((pR v n r pl o N).1) 0 0) (j := 0) 88 dX11_day_88 (Nat.le_of_ble_eq_true rfl) ty_63 (by decide) rfl (hD.r0 (by omega)) ?_
    refine ev_ireturn 89 dX11_day_89 rfl rfl ?_
    exact k _ hD
  · refine ev_iload_n 0 dX11_day_0 rfl ?_
    refine ev_iconst 1 dX11_day_1 kI_1 ?_
    refine ev_bipush 2 dX11_day_2 kB_60 ?_
    refine cs_11_74 (pc := 4) rfl dX11_day_4 (Nat.le_of_ble_eq_true rfl) ?_
    refine c_X11_isIn (fun h_4 => ?_) (fun h_4 => absurd h1 h_4)
    refine ev_ifF 7 28 dX11_day_7 rfl (by decide) ?_
    refine ev_iload_n 10 dX11_day_10 rfl ?_
    refine ev_iconst 11 dX11_day_11 kI_m1 ?_
    refine ev_iconst 12 dX11_day_12 kI_4 ?_
    refine cs_11_74 (pc := 13) rfl dX11_day_13 (Nat.le_of_ble_eq_true rfl) ?_
    refine c_X11_isIn (fun h_13 => ?_) (fun h_13 => absurd h2 h_13)
    refine ev_ifF 16 28 dX11_day_16 rfl (by decide) ?_
    refine ev_iload_n 19 dX11_day_19 rfl ?_
    refine ev_iconst 20 dX11_day_20 kI_0 ?_
    refine ev_iconst 21 dX11_day_21 kI_4 ?_
    refine cs_11_74 (pc := 22) rfl dX11_day_22 (Nat.le_of_ble_eq_true rfl) ?_
    refine c_X11_isIn (fun h_22 => ?_) (fun h_22 => absurd (show (0 : Int32) ≤ 1 ∧ (1 : Int32) ≤ 4 by decide) h_22)
    refine ev_ifT 25 31 dX11_day_25 rfl (by decide) ?_
    refine ev_aload_n 31 dX11_day_31 rfl (by decide) ?_
    refine ev_iload_n 32 dX11_day_32 rfl ?_
    refine cv_11_156_11 (pc := 33) rfl dX11_day_33 kd_32 (Nat.le_of_ble_eq_true rfl) ?_
    refine c_X11_lacksPlan hX (fun h_33 => absurd h_33 h3) (fun h_33 => ?_)
    refine ev_ifT 36 42 dX11_day_36 rfl (by decide) ?_
    refine ev_aload_n 42 dX11_day_42 rfl (by decide) ?_
    refine ev_iload_n 43 dX11_day_43 rfl ?_
    refine ev_iload_n 44 dX11_day_44 rfl ?_
    refine cv_11_161_11 (pc := 45) rfl dX11_day_45 kd_32 (Nat.le_of_ble_eq_true rfl) ?_
    refine c_X11_passBy hC hr hr1 hX dFr.rfl rfl hN hb (fun v1 hD => ?_)
    refine ev_iload_n 48 dX11_day_48 rfl ?_
    refine ev_swIn 49 90 dX11_day_49 (by decide) rfl rfl ?_
    refine ev_aload_n 90 dX11_day_90 rfl (by decide) ?_
    refine gf_11_47 (pc := 91) rfl dX11_day_91 kd_32 (rf_32_9 hD.1) ?_
    refine gf_11_169 (pc := 94) rfl dX11_day_94 kd_51 (rf_51_11 hD.1) ?_
    refine ev_iconst 97 dX11_day_97 kI_1 ?_
    refine ev_ialdJ (x := ((pR v n r pl o N).1) 0 1) (j := 1) 98 dX11_day_98 (Nat.le_of_ble_eq_true rfl) ty_63 (by decide) rfl (hD.r0 (by omega)) ?_
    refine ev_ireturn 99 dX11_day_99 rfl rfl ?_
    exact k _ hD
  · refine ev_iload_n 0 dX11_day_0 rfl ?_
    refine ev_iconst 1 dX11_day_1 kI_1 ?_
    refine ev_bipush 2 dX11_day_2 kB_60 ?_
    refine cs_11_74 (pc := 4) rfl dX11_day_4 (Nat.le_of_ble_eq_true rfl) ?_
    refine c_X11_isIn (fun h_4 => ?_) (fun h_4 => absurd h1 h_4)
    refine ev_ifF 7 28 dX11_day_7 rfl (by decide) ?_
    refine ev_iload_n 10 dX11_day_10 rfl ?_
    refine ev_iconst 11 dX11_day_11 kI_m1 ?_
    refine ev_iconst 12 dX11_day_12 kI_4 ?_
    refine cs_11_74 (pc := 13) rfl dX11_day_13 (Nat.le_of_ble_eq_true rfl) ?_
    refine c_X11_isIn (fun h_13 => ?_) (fun h_13 => absurd h2 h_13)
    refine ev_ifF 16 28 dX11_day_16 rfl (by decide) ?_
    refine ev_iload_n 19 dX11_day_19 rfl ?_
    refine ev_iconst 20 dX11_day_20 kI_0 ?_
    refine ev_iconst 21 dX11_day_21 kI_4 ?_
    refine cs_11_74 (pc := 22) rfl dX11_day_22 (Nat.le_of_ble_eq_true rfl) ?_
    refine c_X11_isIn (fun h_22 => ?_) (fun h_22 => absurd (show (0 : Int32) ≤ 2 ∧ (2 : Int32) ≤ 4 by decide) h_22)
    refine ev_ifT 25 31 dX11_day_25 rfl (by decide) ?_
    refine ev_aload_n 31 dX11_day_31 rfl (by decide) ?_
    refine ev_iload_n 32 dX11_day_32 rfl ?_
    refine cv_11_156_11 (pc := 33) rfl dX11_day_33 kd_32 (Nat.le_of_ble_eq_true rfl) ?_
    refine c_X11_lacksPlan hX (fun h_33 => absurd h_33 h3) (fun h_33 => ?_)
    refine ev_ifT 36 42 dX11_day_36 rfl (by decide) ?_
    refine ev_aload_n 42 dX11_day_42 rfl (by decide) ?_
    refine ev_iload_n 43 dX11_day_43 rfl ?_
    refine ev_iload_n 44 dX11_day_44 rfl ?_
    refine cv_11_161_11 (pc := 45) rfl dX11_day_45 kd_32 (Nat.le_of_ble_eq_true rfl) ?_
    refine c_X11_passBy hC hr hr1 hX dFr.rfl rfl hN hb (fun v1 hD => ?_)
    refine ev_iload_n 48 dX11_day_48 rfl ?_
    refine ev_swIn 49 100 dX11_day_49 (by decide) rfl rfl ?_
    refine ev_aload_n 100 dX11_day_100 rfl (by decide) ?_
    refine gf_11_47 (pc := 101) rfl dX11_day_101 kd_32 (rf_32_9 hD.1) ?_
    refine gf_11_172 (x := ((pR v n r pl o N).1) 5 0) (pc := 104) rfl dX11_day_104 kd_51 hD.r5_0 ?_
    refine ev_ireturn 107 dX11_day_107 rfl rfl ?_
    exact k _ hD
  · refine ev_iload_n 0 dX11_day_0 rfl ?_
    refine ev_iconst 1 dX11_day_1 kI_1 ?_
    refine ev_bipush 2 dX11_day_2 kB_60 ?_
    refine cs_11_74 (pc := 4) rfl dX11_day_4 (Nat.le_of_ble_eq_true rfl) ?_
    refine c_X11_isIn (fun h_4 => ?_) (fun h_4 => absurd h1 h_4)
    refine ev_ifF 7 28 dX11_day_7 rfl (by decide) ?_
    refine ev_iload_n 10 dX11_day_10 rfl ?_
    refine ev_iconst 11 dX11_day_11 kI_m1 ?_
    refine ev_iconst 12 dX11_day_12 kI_4 ?_
    refine cs_11_74 (pc := 13) rfl dX11_day_13 (Nat.le_of_ble_eq_true rfl) ?_
    refine c_X11_isIn (fun h_13 => ?_) (fun h_13 => absurd h2 h_13)
    refine ev_ifF 16 28 dX11_day_16 rfl (by decide) ?_
    refine ev_iload_n 19 dX11_day_19 rfl ?_
    refine ev_iconst 20 dX11_day_20 kI_0 ?_
    refine ev_iconst 21 dX11_day_21 kI_4 ?_
    refine cs_11_74 (pc := 22) rfl dX11_day_22 (Nat.le_of_ble_eq_true rfl) ?_
    refine c_X11_isIn (fun h_22 => ?_) (fun h_22 => absurd (show (0 : Int32) ≤ 3 ∧ (3 : Int32) ≤ 4 by decide) h_22)
    refine ev_ifT 25 31 dX11_day_25 rfl (by decide) ?_
    refine ev_aload_n 31 dX11_day_31 rfl (by decide) ?_
    refine ev_iload_n 32 dX11_day_32 rfl ?_
    refine cv_11_156_11 (pc := 33) rfl dX11_day_33 kd_32 (Nat.le_of_ble_eq_true rfl) ?_
    refine c_X11_lacksPlan hX (fun h_33 => absurd h_33 h3) (fun h_33 => ?_)
    refine ev_ifT 36 42 dX11_day_36 rfl (by decide) ?_
    refine ev_aload_n 42 dX11_day_42 rfl (by decide) ?_
    refine ev_iload_n 43 dX11_day_43 rfl ?_
    refine ev_iload_n 44 dX11_day_44 rfl ?_
    refine cv_11_161_11 (pc := 45) rfl dX11_day_45 kd_32 (Nat.le_of_ble_eq_true rfl) ?_
    refine c_X11_passBy hC hr hr1 hX dFr.rfl rfl hN hb (fun v1 hD => ?_)
    refine ev_iload_n 48 dX11_day_48 rfl ?_
    refine ev_swIn 49 108 dX11_day_49 (by decide) rfl rfl ?_
    refine ev_aload_n 108 dX11_day_108 rfl (by decide) ?_
    refine gf_11_47 (pc := 109) rfl dX11_day_109 kd_32 (rf_32_9 hD.1) ?_
    refine gf_11_175 (x := ((pR v n r pl o N).1) 5 1) (pc := 112) rfl dX11_day_112 kd_51 hD.r5_1 ?_
    refine ev_ireturn 115 dX11_day_115 rfl rfl ?_
    exact k _ hD
  · refine ev_iload_n 0 dX11_day_0 rfl ?_
    refine ev_iconst 1 dX11_day_1 kI_1 ?_
    refine ev_bipush 2 dX11_day_2 kB_60 ?_
    refine cs_11_74 (pc := 4) rfl dX11_day_4 (Nat.le_of_ble_eq_true rfl) ?_
    refine c_X11_isIn (fun h_4 => ?_) (fun h_4 => absurd h1 h_4)
    refine ev_ifF 7 28 dX11_day_7 rfl (by decide) ?_
    refine ev_iload_n 10 dX11_day_10 rfl ?_
    refine ev_iconst 11 dX11_day_11 kI_m1 ?_
    refine ev_iconst 12 dX11_day_12 kI_4 ?_
    refine cs_11_74 (pc := 13) rfl dX11_day_13 (Nat.le_of_ble_eq_true rfl) ?_
    refine c_X11_isIn (fun h_13 => ?_) (fun h_13 => absurd h2 h_13)
    refine ev_ifF 16 28 dX11_day_16 rfl (by decide) ?_
    refine ev_iload_n 19 dX11_day_19 rfl ?_
    refine ev_iconst 20 dX11_day_20 kI_0 ?_
    refine ev_iconst 21 dX11_day_21 kI_4 ?_
    refine cs_11_74 (pc := 22) rfl dX11_day_22 (Nat.le_of_ble_eq_true rfl) ?_
    refine c_X11_isIn (fun h_22 => ?_) (fun h_22 => absurd (show (0 : Int32) ≤ 4 ∧ (4 : Int32) ≤ 4 by decide) h_22)
    refine ev_ifT 25 31 dX11_day_25 rfl (by decide) ?_
    refine ev_aload_n 31 dX11_day_31 rfl (by decide) ?_
    refine ev_iload_n 32 dX11_day_32 rfl ?_
    refine cv_11_156_11 (pc := 33) rfl dX11_day_33 kd_32 (Nat.le_of_ble_eq_true rfl) ?_
    refine c_X11_lacksPlan hX (fun h_33 => absurd h_33 h3) (fun h_33 => ?_)
    refine ev_ifT 36 42 dX11_day_36 rfl (by decide) ?_
    refine ev_aload_n 42 dX11_day_42 rfl (by decide) ?_
    refine ev_iload_n 43 dX11_day_43 rfl ?_
    refine ev_iload_n 44 dX11_day_44 rfl ?_
    refine cv_11_161_11 (pc := 45) rfl dX11_day_45 kd_32 (Nat.le_of_ble_eq_true rfl) ?_
    refine c_X11_passBy hC hr hr1 hX dFr.rfl rfl hN hb (fun v1 hD => ?_)
    refine ev_iload_n 48 dX11_day_48 rfl ?_
    refine ev_swOut 49 116 dX11_day_49 (by decide) rfl ?_
    refine ev_aload_n 116 dX11_day_116 rfl (by decide) ?_
    refine gf_11_47 (pc := 117) rfl dX11_day_117 kd_32 (rf_32_9 hD.1) ?_
    refine cv_11_178_1 (pc := 120) rfl dX11_day_120 kd_51 (Nat.le_of_ble_eq_true rfl) ?_
    refine c_X1_waysAsBits hC.2.1.1 hD ?_
    refine ev_ireturn 123 dX11_day_123 rfl rfl ?_
    exact k _ hD
theorem bits_up {s : dT} {i n : Nat} (hW : wOk n s) (hi : i < n) (hn : n ≤ 8) : pBits s (i + 1) = pBits s i ||| (if s 3 i = 1 then 1 <<< (nI i &&& 31) else 0) := by
  obtain ⟨u, hu, hsu⟩ := hW i hi
  rw [pBits, hsu]
  have : u = 0 ∨ u = 1 := by omega
  rcases this with rfl | rfl
  · rw [if_neg (by decide)]
    have : i = 0 ∨ i = 1 ∨ i = 2 ∨ i = 3 ∨ i = 4 ∨ i = 5 ∨ i = 6 ∨ i = 7 := by omega
    rcases this with rfl | rfl | rfl | rfl | rfl | rfl | rfl | rfl <;> rfl
  · rw [if_pos (by decide)]; rfl
theorem lp_mbits {X : pmX} {d : Nat} {P : Option Value → pmT → pmV → Prop} {LT : pmT} {e : pmV} {n tx z : Nat} {g : Nat → Int32} {s : dT} {p : Int64} {v : pmV} {y1 y2 y3 : Int32} (hC : Cpl n tx z LT e) (hW : wOk n s) (hD : DM e n g s p v) : ∀ (k : Nat) (i : Nat), i + k = n → (EvP X d MX12_day 84 [.ref 100, .int y1, .int y2, .int y3, .int (pBits s n), .int (nI n)] [] (pmT0 ++ LT) v P) → EvP X d MX12_day 45 [.ref 100, .int y1, .int y2, .int y3, .int (pBits s i), .int (nI i)] [] (pmT0 ++ LT) v P := by
  intro k
  induction k with
  | zero =>
    intro i hi  K
    have hi2 : n = i := by omega
    subst hi2
    have hn8 := hC.2.1.1
    refine ev_iload 45 dX12_day_45 rfl ?_
    refine ev_aload_n 47 dX12_day_47 rfl (by decide) ?_
    refine gf_12_1 (x := nI n) (pc := 48) rfl dX12_day_48 kd_100 ((hD.c (by unfold DcA DcX; omega)).trans hC.2.1.2.2.2.1) ?_
    refine ev_ic_geN (a := n) (b := n) 51 84 dX12_day_51 rfl (by omega) (by omega) (fun c_51 => ?_) (fun c_51 => by omega)
    exact K
  | succ k ih =>
    intro i hi  K
    have hn8 := hC.2.1.1
    refine ev_iload 45 dX12_day_45 rfl ?_
    refine ev_aload_n 47 dX12_day_47 rfl (by decide) ?_
    refine gf_12_1 (x := nI n) (pc := 48) rfl dX12_day_48 kd_100 ((hD.c (by unfold DcA DcX; omega)).trans hC.2.1.2.2.2.1) ?_
    refine ev_ic_geN (a := i) (b := n) 51 84 dX12_day_51 rfl (by omega) (by omega) (fun c_51 => by omega) (fun c_51 => ?_)
    refine ev_iload 54 dX12_day_54 rfl ?_
    refine ev_aload_n 56 dX12_day_56 rfl (by decide) ?_
    refine gf_12_143 (pc := 57) rfl dX12_day_57 kd_100 (rf_100_30 hD.1) ?_
    refine ev_iload 60 dX12_day_60 rfl ?_
    refine ev_ialdJ (x := s 3 i) (j := i) 62 dX12_day_62 (Nat.le_of_ble_eq_true rfl) ty_116 (pm_inI (by omega) (by omega)) (nI_clamp (by omega)) (hD.r3 (by omega)) ?_
    refine ev_iconst 63 dX12_day_63 kI_1 ?_
    refine ev_ic_ne 64 74 dX12_day_64 rfl (fun c_64 => ?_) (fun c_64 => ?_)
    · refine ev_iconst 74 dX12_day_74 kI_0 ?_
      refine ev_ior 75 dX12_day_75 ?_
      refine ev_istore (ls' := [.ref 100, .int y1, .int y2, .int y3, .int ((pBits s i) ||| 0), .int (nI i)]) 76 dX12_day_76 (Nat.le_of_ble_eq_true rfl) rfl ?_
      refine ev_iinc (y := nI (i + 1)) (ls' := [.ref 100, .int y1, .int y2, .int y3, .int ((pBits s i) ||| 0), .int (nI (i + 1))]) 78 dX12_day_78 rfl (nI_add i 1) rfl ?_
      refine ev_goto 81 45 dX12_day_81 rfl ?_
      have hu := bits_up (s := s) (i := i) hW (by omega) hn8
      rw [if_neg c_64] at hu
      rw [← hu]
      exact ih (i + 1) (by omega) K
    · refine ev_iconst 67 dX12_day_67 kI_1 ?_
      refine ev_iload 68 dX12_day_68 rfl ?_
      refine ev_ishl 70 dX12_day_70 ?_
      refine ev_goto 71 75 dX12_day_71 rfl ?_
      refine ev_ior 75 dX12_day_75 ?_
      refine ev_istore (ls' := [.ref 100, .int y1, .int y2, .int y3, .int ((pBits s i) ||| (1 <<< ((nI i) &&& 31))), .int (nI i)]) 76 dX12_day_76 (Nat.le_of_ble_eq_true rfl) rfl ?_
      refine ev_iinc (y := nI (i + 1)) (ls' := [.ref 100, .int y1, .int y2, .int y3, .int ((pBits s i) ||| (1 <<< ((nI i) &&& 31))), .int (nI (i + 1))]) 78 dX12_day_78 rfl (nI_add i 1) rfl ?_
      refine ev_goto 81 45 dX12_day_81 rfl ?_
      have hu := bits_up (s := s) (i := i) hW (by omega) hn8
      rw [if_pos c_64] at hu
      rw [← hu]
      exact ih (i + 1) (by omega) K

theorem c_X12_day_ok {X : pmX} {d : Nat} {v : pmV} {P : Option Value → pmT → pmV → Prop} {LT : pmT} {q : Nat} {e : pmV} {n tx z r N : Nat} {s : dT} {p : Int64} {b : Int32} {pl o : Nat → Int32} (hC : Cpl n tx z LT e) (hr : r < tx) (hr2 : e.1 100 11 = nI r) (hD : DX e n r s p v) (hN : 1 ≤ N ∧ N ≤ 60) (hb : PB e b pl o) (hq : q ≤ 4) (hWf : wOk n (pR e n r pl o N).1) (h1 : ((1 : Int32) ≤ nI N ∧ nI N ≤ 60) ∧ (-1 ≤ b ∧ b ≤ 4)) (h3 : ¬ Lk v b) (k : ∀ v' g, DM e n g (pR e n r pl o N).1 (pR e n r pl o N).2 v' → g 0 = -1 → g 1 = -1 → P (some (.int (dAns (pR e n r pl o N).1 n q))) (pmT0 ++ LT) v') : EvP X (d + 7) MX12_day 0 [.ref 100, .int (nI N), .int b, .int (nI q), pmJ, pmJ] [] (pmT0 ++ LT) v P := by
  have hX := hD.1
  have hSh := (hC.fdx hD.fd).2.2.2.2.2.2.2.1
  have : q = 0 ∨ q = 1 ∨ q = 2 ∨ q = 3 ∨ q = 4 := by omega
  rcases this with rfl | rfl | rfl | rfl | rfl
  · refine ev_aload_n 0 dX12_day_0 rfl (by decide) ?_
    refine ev_iload_n 1 dX12_day_1 rfl ?_
    refine ev_iload_n 2 dX12_day_2 rfl ?_
    refine cv_12_308_12 (pc := 3) rfl dX12_day_3 kd_100 (Nat.le_of_ble_eq_true rfl) ?_
    refine c_X12_isDay (fun h_3 => ?_) (fun h_3 => absurd h1 h_3)
    refine ev_ifF 6 19 dX12_day_6 rfl (by decide) ?_
    refine ev_aload_n 9 dX12_day_9 rfl (by decide) ?_
    refine ev_iload_n 10 dX12_day_10 rfl ?_
    refine ev_iconst 11 dX12_day_11 kI_0 ?_
    refine ev_iconst 12 dX12_day_12 kI_4 ?_
    refine cv_12_7_12 (pc := 13) rfl dX12_day_13 kd_100 (Nat.le_of_ble_eq_true rfl) ?_
    refine c_X12_in (fun h_13 => ?_) (fun h_13 => absurd (show (0 : Int32) ≤ 0 ∧ (0 : Int32) ≤ 4 by decide) h_13)
    refine ev_ifT 16 22 dX12_day_16 rfl (by decide) ?_
    refine ev_aload_n 22 dX12_day_22 rfl (by decide) ?_
    refine ev_iload_n 23 dX12_day_23 rfl ?_
    refine cv_12_311_12 (pc := 24) rfl dX12_day_24 kd_100 (Nat.le_of_ble_eq_true rfl) ?_
    refine c_X12_lacks hX hSh (fun h_24 => absurd h_24 h3) (fun h_24 => ?_)
    refine ev_ifT 27 33 dX12_day_27 rfl (by decide) ?_
    refine ev_aload_n 33 dX12_day_33 rfl (by decide) ?_
    refine ev_iload_n 34 dX12_day_34 rfl ?_
    refine ev_iload_n 35 dX12_day_35 rfl ?_
    refine cv_12_316_12 (pc := 36) rfl dX12_day_36 kd_100 (Nat.le_of_ble_eq_true rfl) ?_
    refine ref_go hN hC hr hr2 hD hb (fun v1 g hD g0 g1 => ?_)
    refine ev_iconst 39 dX12_day_39 kI_0 ?_
    refine ev_istore (ls' := [.ref 100, .int (nI N), .int b, .int 0, .int 0, pmJ]) 40 dX12_day_40 (Nat.le_of_ble_eq_true rfl) rfl ?_
    refine ev_iconst 42 dX12_day_42 kI_0 ?_
    refine ev_istore (ls' := [.ref 100, .int (nI N), .int b, .int 0, .int 0, .int 0]) 43 dX12_day_43 (Nat.le_of_ble_eq_true rfl) rfl ?_
    refine lp_mbits hC hWf hD n 0 (by omega) ?_
    refine ev_iload_n 84 dX12_day_84 rfl ?_
    refine ev_swIn 85 116 dX12_day_85 (by decide) rfl rfl ?_
    refine ev_aload_n 116 dX12_day_116 rfl (by decide) ?_
    refine gf_12_134 (pc := 117) rfl dX12_day_117 kd_100 (rf_100_27 hD.1) ?_
    refine ev_iconst 120 dX12_day_120 kI_0 ?_
    refine ev_ialdJ (x := ((pR e n r pl o N).1) 0 0) (j := 0) 121 dX12_day_121 (Nat.le_of_ble_eq_true rfl) ty_113 (by decide) rfl (hD.r0 (by omega)) ?_
    refine ev_ireturn 122 dX12_day_122 rfl rfl ?_
    exact k _ _ hD g0 g1
  · refine ev_aload_n 0 dX12_day_0 rfl (by decide) ?_
    refine ev_iload_n 1 dX12_day_1 rfl ?_
    refine ev_iload_n 2 dX12_day_2 rfl ?_
    refine cv_12_308_12 (pc := 3) rfl dX12_day_3 kd_100 (Nat.le_of_ble_eq_true rfl) ?_
    refine c_X12_isDay (fun h_3 => ?_) (fun h_3 => absurd h1 h_3)
    refine ev_ifF 6 19 dX12_day_6 rfl (by decide) ?_
    refine ev_aload_n 9 dX12_day_9 rfl (by decide) ?_
    refine ev_iload_n 10 dX12_day_10 rfl ?_
    refine ev_iconst 11 dX12_day_11 kI_0 ?_
    refine ev_iconst 12 dX12_day_12 kI_4 ?_
    refine cv_12_7_12 (pc := 13) rfl dX12_day_13 kd_100 (Nat.le_of_ble_eq_true rfl) ?_
    refine c_X12_in (fun h_13 => ?_) (fun h_13 => absurd (show (0 : Int32) ≤ 1 ∧ (1 : Int32) ≤ 4 by decide) h_13)
    refine ev_ifT 16 22 dX12_day_16 rfl (by decide) ?_
    refine ev_aload_n 22 dX12_day_22 rfl (by decide) ?_
    refine ev_iload_n 23 dX12_day_23 rfl ?_
    refine cv_12_311_12 (pc := 24) rfl dX12_day_24 kd_100 (Nat.le_of_ble_eq_true rfl) ?_
    refine c_X12_lacks hX hSh (fun h_24 => absurd h_24 h3) (fun h_24 => ?_)
    refine ev_ifT 27 33 dX12_day_27 rfl (by decide) ?_
    refine ev_aload_n 33 dX12_day_33 rfl (by decide) ?_
    refine ev_iload_n 34 dX12_day_34 rfl ?_
    refine ev_iload_n 35 dX12_day_35 rfl ?_
    refine cv_12_316_12 (pc := 36) rfl dX12_day_36 kd_100 (Nat.le_of_ble_eq_true rfl) ?_
    refine ref_go hN hC hr hr2 hD hb (fun v1 g hD g0 g1 => ?_)
    refine ev_iconst 39 dX12_day_39 kI_0 ?_
    refine ev_istore (ls' := [.ref 100, .int (nI N), .int b, .int 1, .int 0, pmJ]) 40 dX12_day_40 (Nat.le_of_ble_eq_true rfl) rfl ?_
    refine ev_iconst 42 dX12_day_42 kI_0 ?_
    refine ev_istore (ls' := [.ref 100, .int (nI N), .int b, .int 1, .int 0, .int 0]) 43 dX12_day_43 (Nat.le_of_ble_eq_true rfl) rfl ?_
    refine lp_mbits hC hWf hD n 0 (by omega) ?_
    refine ev_iload_n 84 dX12_day_84 rfl ?_
    refine ev_swIn 85 123 dX12_day_85 (by decide) rfl rfl ?_
    refine ev_aload_n 123 dX12_day_123 rfl (by decide) ?_
    refine gf_12_134 (pc := 124) rfl dX12_day_124 kd_100 (rf_100_27 hD.1) ?_
    refine ev_iconst 127 dX12_day_127 kI_1 ?_
    refine ev_ialdJ (x := ((pR e n r pl o N).1) 0 1) (j := 1) 128 dX12_day_128 (Nat.le_of_ble_eq_true rfl) ty_113 (by decide) rfl (hD.r0 (by omega)) ?_
    refine ev_ireturn 129 dX12_day_129 rfl rfl ?_
    exact k _ _ hD g0 g1
  · refine ev_aload_n 0 dX12_day_0 rfl (by decide) ?_
    refine ev_iload_n 1 dX12_day_1 rfl ?_
    refine ev_iload_n 2 dX12_day_2 rfl ?_
    refine cv_12_308_12 (pc := 3) rfl dX12_day_3 kd_100 (Nat.le_of_ble_eq_true rfl) ?_
    refine c_X12_isDay (fun h_3 => ?_) (fun h_3 => absurd h1 h_3)
    refine ev_ifF 6 19 dX12_day_6 rfl (by decide) ?_
    refine ev_aload_n 9 dX12_day_9 rfl (by decide) ?_
    refine ev_iload_n 10 dX12_day_10 rfl ?_
    refine ev_iconst 11 dX12_day_11 kI_0 ?_
    refine ev_iconst 12 dX12_day_12 kI_4 ?_
    refine cv_12_7_12 (pc := 13) rfl dX12_day_13 kd_100 (Nat.le_of_ble_eq_true rfl) ?_
    refine c_X12_in (fun h_13 => ?_) (fun h_13 => absurd (show (0 : Int32) ≤ 2 ∧ (2 : Int32) ≤ 4 by decide) h_13)
    refine ev_ifT 16 22 dX12_day_16 rfl (by decide) ?_
    refine ev_aload_n 22 dX12_day_22 rfl (by decide) ?_
    refine ev_iload_n 23 dX12_day_23 rfl ?_
    refine cv_12_311_12 (pc := 24) rfl dX12_day_24 kd_100 (Nat.le_of_ble_eq_true rfl) ?_
    refine c_X12_lacks hX hSh (fun h_24 => absurd h_24 h3) (fun h_24 => ?_)
    refine ev_ifT 27 33 dX12_day_27 rfl (by decide) ?_
    refine ev_aload_n 33 dX12_day_33 rfl (by decide) ?_
    refine ev_iload_n 34 dX12_day_34 rfl ?_
    refine ev_iload_n 35 dX12_day_35 rfl ?_
    refine cv_12_316_12 (pc := 36) rfl dX12_day_36 kd_100 (Nat.le_of_ble_eq_true rfl) ?_
    refine ref_go hN hC hr hr2 hD hb (fun v1 g hD g0 g1 => ?_)
    refine ev_iconst 39 dX12_day_39 kI_0 ?_
    refine ev_istore (ls' := [.ref 100, .int (nI N), .int b, .int 2, .int 0, pmJ]) 40 dX12_day_40 (Nat.le_of_ble_eq_true rfl) rfl ?_
    refine ev_iconst 42 dX12_day_42 kI_0 ?_
    refine ev_istore (ls' := [.ref 100, .int (nI N), .int b, .int 2, .int 0, .int 0]) 43 dX12_day_43 (Nat.le_of_ble_eq_true rfl) rfl ?_
    refine lp_mbits hC hWf hD n 0 (by omega) ?_
    refine ev_iload_n 84 dX12_day_84 rfl ?_
    refine ev_swIn 85 130 dX12_day_85 (by decide) rfl rfl ?_
    refine ev_aload_n 130 dX12_day_130 rfl (by decide) ?_
    refine gf_12_149 (x := ((pR e n r pl o N).1) 5 0) (pc := 131) rfl dX12_day_131 kd_100 hD.r5_0 ?_
    refine ev_ireturn 134 dX12_day_134 rfl rfl ?_
    exact k _ _ hD g0 g1
  · refine ev_aload_n 0 dX12_day_0 rfl (by decide) ?_
    refine ev_iload_n 1 dX12_day_1 rfl ?_
    refine ev_iload_n 2 dX12_day_2 rfl ?_
    refine cv_12_308_12 (pc := 3) rfl dX12_day_3 kd_100 (Nat.le_of_ble_eq_true rfl) ?_
    refine c_X12_isDay (fun h_3 => ?_) (fun h_3 => absurd h1 h_3)
    refine ev_ifF 6 19 dX12_day_6 rfl (by decide) ?_
    refine ev_aload_n 9 dX12_day_9 rfl (by decide) ?_
    refine ev_iload_n 10 dX12_day_10 rfl ?_
    refine ev_iconst 11 dX12_day_11 kI_0 ?_
    refine ev_iconst 12 dX12_day_12 kI_4 ?_
    refine cv_12_7_12 (pc := 13) rfl dX12_day_13 kd_100 (Nat.le_of_ble_eq_true rfl) ?_
    refine c_X12_in (fun h_13 => ?_) (fun h_13 => absurd (show (0 : Int32) ≤ 3 ∧ (3 : Int32) ≤ 4 by decide) h_13)
    refine ev_ifT 16 22 dX12_day_16 rfl (by decide) ?_
    refine ev_aload_n 22 dX12_day_22 rfl (by decide) ?_
    refine ev_iload_n 23 dX12_day_23 rfl ?_
    refine cv_12_311_12 (pc := 24) rfl dX12_day_24 kd_100 (Nat.le_of_ble_eq_true rfl) ?_
    refine c_X12_lacks hX hSh (fun h_24 => absurd h_24 h3) (fun h_24 => ?_)
    refine ev_ifT 27 33 dX12_day_27 rfl (by decide) ?_
    refine ev_aload_n 33 dX12_day_33 rfl (by decide) ?_
    refine ev_iload_n 34 dX12_day_34 rfl ?_
    refine ev_iload_n 35 dX12_day_35 rfl ?_
    refine cv_12_316_12 (pc := 36) rfl dX12_day_36 kd_100 (Nat.le_of_ble_eq_true rfl) ?_
    refine ref_go hN hC hr hr2 hD hb (fun v1 g hD g0 g1 => ?_)
    refine ev_iconst 39 dX12_day_39 kI_0 ?_
    refine ev_istore (ls' := [.ref 100, .int (nI N), .int b, .int 3, .int 0, pmJ]) 40 dX12_day_40 (Nat.le_of_ble_eq_true rfl) rfl ?_
    refine ev_iconst 42 dX12_day_42 kI_0 ?_
    refine ev_istore (ls' := [.ref 100, .int (nI N), .int b, .int 3, .int 0, .int 0]) 43 dX12_day_43 (Nat.le_of_ble_eq_true rfl) rfl ?_
    refine lp_mbits hC hWf hD n 0 (by omega) ?_
    refine ev_iload_n 84 dX12_day_84 rfl ?_
    refine ev_swIn 85 135 dX12_day_85 (by decide) rfl rfl ?_
    refine ev_aload_n 135 dX12_day_135 rfl (by decide) ?_
    refine gf_12_152 (x := ((pR e n r pl o N).1) 5 1) (pc := 136) rfl dX12_day_136 kd_100 hD.r5_1 ?_
    refine ev_ireturn 139 dX12_day_139 rfl rfl ?_
    exact k _ _ hD g0 g1
  · refine ev_aload_n 0 dX12_day_0 rfl (by decide) ?_
    refine ev_iload_n 1 dX12_day_1 rfl ?_
    refine ev_iload_n 2 dX12_day_2 rfl ?_
    refine cv_12_308_12 (pc := 3) rfl dX12_day_3 kd_100 (Nat.le_of_ble_eq_true rfl) ?_
    refine c_X12_isDay (fun h_3 => ?_) (fun h_3 => absurd h1 h_3)
    refine ev_ifF 6 19 dX12_day_6 rfl (by decide) ?_
    refine ev_aload_n 9 dX12_day_9 rfl (by decide) ?_
    refine ev_iload_n 10 dX12_day_10 rfl ?_
    refine ev_iconst 11 dX12_day_11 kI_0 ?_
    refine ev_iconst 12 dX12_day_12 kI_4 ?_
    refine cv_12_7_12 (pc := 13) rfl dX12_day_13 kd_100 (Nat.le_of_ble_eq_true rfl) ?_
    refine c_X12_in (fun h_13 => ?_) (fun h_13 => absurd (show (0 : Int32) ≤ 4 ∧ (4 : Int32) ≤ 4 by decide) h_13)
    refine ev_ifT 16 22 dX12_day_16 rfl (by decide) ?_
    refine ev_aload_n 22 dX12_day_22 rfl (by decide) ?_
    refine ev_iload_n 23 dX12_day_23 rfl ?_
    refine cv_12_311_12 (pc := 24) rfl dX12_day_24 kd_100 (Nat.le_of_ble_eq_true rfl) ?_
    refine c_X12_lacks hX hSh (fun h_24 => absurd h_24 h3) (fun h_24 => ?_)
    refine ev_ifT 27 33 dX12_day_27 rfl (by decide) ?_
    refine ev_aload_n 33 dX12_day_33 rfl (by decide) ?_
    refine ev_iload_n 34 dX12_day_34 rfl ?_
    refine ev_iload_n 35 dX12_day_35 rfl ?_
    refine cv_12_316_12 (pc := 36) rfl dX12_day_36 kd_100 (Nat.le_of_ble_eq_true rfl) ?_
    refine ref_go hN hC hr hr2 hD hb (fun v1 g hD g0 g1 => ?_)
    refine ev_iconst 39 dX12_day_39 kI_0 ?_
    refine ev_istore (ls' := [.ref 100, .int (nI N), .int b, .int 4, .int 0, pmJ]) 40 dX12_day_40 (Nat.le_of_ble_eq_true rfl) rfl ?_
    refine ev_iconst 42 dX12_day_42 kI_0 ?_
    refine ev_istore (ls' := [.ref 100, .int (nI N), .int b, .int 4, .int 0, .int 0]) 43 dX12_day_43 (Nat.le_of_ble_eq_true rfl) rfl ?_
    refine lp_mbits hC hWf hD n 0 (by omega) ?_
    refine ev_iload_n 84 dX12_day_84 rfl ?_
    refine ev_swOut 85 140 dX12_day_85 (by decide) rfl ?_
    refine ev_iload 140 dX12_day_140 rfl ?_
    refine ev_ireturn 142 dX12_day_142 rfl rfl ?_
    exact k _ _ hD g0 g1
theorem pR_ok {e : pmV} {n tx z r N : Nat} {LT : pmT} {b : Int32} {pl o : Nat → Int32} (hC : Cpl n tx z LT e) (hN : N ≤ 60) (hb : PB e b pl o) : wOk n (pR e n r pl o N).1 := by
  obtain ⟨P', _, _, _, h⟩ := pDay_ok hC (r := r) N 0 (pBeg e n (sGf pl o)) 0 (by omega) (dJ.beg hC.2.1 _) ⟨0, 0, by omega, by omega, hb.o.2.1, hb.o.2.2⟩ (by omega)
  exact h.2.1
theorem op_day {X : pmX} {d n tx z : Nat} {LT : pmT} {v : pmV} {a b c : Int32} (hC : Cpl n tx z LT v) : EvP X (d + 20) MX11_day 0 [.ref 32, .int a, .int b, .int c] [] (pmT0 ++ LT) v (Aft X (d + 20) MX12_day [.ref 100, .int a, .int b, .int c, pmJ, pmJ]) := by
  obtain ⟨hX, hL, hS, hR, hI, hT, hTa, hSh, hF⟩ := id hC
  obtain ⟨r, hr, hr1, hr2⟩ := hR
  by_cases h1 : (1 : Int32) ≤ a ∧ a ≤ 60
  · by_cases h2 : -1 ≤ b ∧ b ≤ 4
    · by_cases h4 : 0 ≤ c ∧ c ≤ 4
      · by_cases h3 : Lk v b
        · refine c_X11_day_3 (d := d + 17) h1 h2 h4 hX h3 ?_
          refine c_X12_day_3 (d := d + 18) ⟨h1, h2⟩ h4 hX hSh h3 ?_
          exact ⟨rfl, n, tx, z, LT, rfl, hC⟩
        · obtain ⟨N, rfl, hN1, hN2⟩ := nI_rng (a := 1) (b := 60) (by omega) (by omega) h1
          obtain ⟨q, rfl, _, hq⟩ := nI_rng (a := 0) (b := 4) (by omega) (by omega) h4
          obtain ⟨pl, o, hb⟩ := by_PB v h2
          refine c_X11_day_ok (d := d + 6) hC hr hr1 hN2 hq h1 h2 h3 hb (fun v1 hD => ?_)
          refine c_X12_day_ok (d := d + 13) hC hr hr2 hD ⟨hN1, hN2⟩ hb hq (pR_ok hC hN2 hb) ⟨h1, h2⟩ (fun q => h3 ((Lk.cg fun t _ => hD.c (by unfold DcX; omega)).mp q)) (fun v2 g hM g0 g1 => ?_)
          exact ⟨rfl, n, tx, z, LT, rfl, hM.fin hC g0 g1⟩
      · refine c_X11_day_4 (d := d + 17) h1 h2 h4 ?_
        refine c_X12_day_4 (d := d + 18) ⟨h1, h2⟩ h4 ?_
        exact ⟨rfl, n, tx, z, LT, rfl, hC⟩
    · refine c_X11_day_2 (d := d + 17) h1 h2 ?_
      refine c_X12_day_1 (d := d + 18) (fun q => h2 q.2) ?_
      exact ⟨rfl, n, tx, z, LT, rfl, hC⟩
  · refine c_X11_day_1 (d := d + 17) h1 ?_
    refine c_X12_day_1 (d := d + 18) (fun q => h1 q.1) ?_
    exact ⟨rfl, n, tx, z, LT, rfl, hC⟩
