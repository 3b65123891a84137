/-! set, come, told, taken -/
theorem sSet_no {a j : Nat} (h : sSet a j) : ¬ sLan a j ∧ ¬ sRule a j ∧ ¬ sImg a j ∧ ¬ sTxt a j ∧ ¬ sTape a j ∧ ¬ sShe a j ∧ ¬ sFix a j := by
  unfold sSet at h; unfold sLan sRule sImg sTxt sTape sShe sFix; omega
/-- what the calls change of comers, buses, the rest of what an image keeps -/
theorem Cpl.of {n tx z : Nat} {LT : pmT} {v v' : pmV} (hC : Cpl n tx z LT v) {E : Nat → Nat → Prop} (hw : Of E v v') (hE : ∀ a j, E a j → sSet a j) (hS : cSet v') : Cpl n tx z LT v' := by
  obtain ⟨hX, hL, _, hR, hI, hT, hTa, hSh, hF⟩ := hC
  have ag : ∀ S : Nat → Nat → Prop, (∀ a j, sSet a j → ¬ S a j) → Ag S v v' := fun S hn a j q => hw.off (fun e => hn a j (hE a j e) q)
  exact ⟨hX.ag (congrArg Prod.snd hw.1), hL.ag (ag _ fun a j h => (sSet_no h).1) (fun j => congrFun (congrFun (congrArg Prod.snd hw.1) 33) j), hS, hR.ag (ag _ fun a j h => (sSet_no h).2.1), hI.ag (ag _ fun a j h => (sSet_no h).2.2.1), hT.ag (ag _ fun a j h => (sSet_no h).2.2.2.1), hTa.ag (ag _ fun a j h => (sSet_no h).2.2.2.2.1), hSh.ag (ag _ fun a j h => (sSet_no h).2.2.2.2.2.1), hF.ag (ag _ fun a j h => (sSet_no h).2.2.2.2.2.2)⟩
theorem cSet.com {v v' : pmV} (h : cSet v) {q : Nat → Prop} (f : Nat → Int32) (hf : ∀ j, q j → 0 ≤ f j ∧ f j ≤ 99) (h1 : ∀ j, j < 120 → v'.1 35 j = v.1 35 j ∧ v'.1 104 j = v.1 104 j ∨ q j ∧ v'.1 35 j = f j ∧ v'.1 104 j = f j) (h2 : ∀ a j, a ≠ 35 → a ≠ 104 → v'.1 a j = v.1 a j) : cSet v' := by
  obtain ⟨a1, a2, a3, a4, a5, a6⟩ := h
  refine ⟨fun j hj => ?_, fun j hj => ?_, ?_, ?_, ?_, ?_⟩
  · rcases h1 j hj with ⟨e1, e2⟩ | ⟨hq, e1, e2⟩
    · rw [e1, e2]; exact a1 j hj
    · rw [e1, e2]; exact ⟨rfl, hf j hq⟩
  · rw [h2 105 j (by decide) (by decide), h2 36 j (by decide) (by decide)]; exact a2 j hj
  · rw [h2 100 1 (by decide) (by decide), h2 34 2 (by decide) (by decide)]; exact a3
  · rw [h2 100 2 (by decide) (by decide), h2 34 3 (by decide) (by decide)]; exact a4
  · rw [h2 100 3 (by decide) (by decide), h2 34 4 (by decide) (by decide)]; exact a5
  · rw [h2 100 4 (by decide) (by decide), h2 34 5 (by decide) (by decide)]; exact a6
theorem cSet.bus {v : pmV} (h : cSet v) {j : Nat} {x : Int32} (hx : 0 ≤ x ∧ x ≤ 99) : cSet (uI (uI v 36 j x) 105 j x) := by
  obtain ⟨a1, a2, a3, a4, a5, a6⟩ := h
  refine ⟨fun i hi => ?_, fun i hi => ?_, ?_, ?_, ?_, ?_⟩
  · rw [uI_ne (by decide), uI_ne (by decide), uI_ne (by decide), uI_ne (by decide)]; exact a1 i hi
  · rw [uI_ne (b := 36) (by decide)]
    by_cases e : i = j
    · subst e; rw [uI_on, uI_on]; exact ⟨rfl, hx⟩
    · rw [uI_off (fun q => e q.2), uI_ne (by decide), uI_off (fun q => e q.2)]; exact a2 i hi
  all_goals rw [uI_ne (by decide), uI_ne (by decide), uI_ne (by decide), uI_ne (by decide)]; assumption
theorem cSet.emp {v : pmV} (h : cSet v) {x : Int32} (hx : 0 ≤ x ∧ x ≤ 9) : cSet (uI (uI v 34 2 x) 100 1 x) := by
  obtain ⟨a1, a2, a3, a4, a5, a6⟩ := h
  refine ⟨fun i hi => ?_, fun i hi => ?_, ?_, ?_, ?_, ?_⟩
  · rw [uI_ne (by decide), uI_ne (by decide), uI_ne (by decide), uI_ne (by decide)]; exact a1 i hi
  · rw [uI_ne (by decide), uI_ne (by decide), uI_ne (by decide), uI_ne (by decide)]; exact a2 i hi
  · rw [uI_on, uI_ne (by decide), uI_on]; exact ⟨rfl, hx⟩
  all_goals rw [uI_off (by decide), uI_off (by decide), uI_off (by decide), uI_off (by decide)]; assumption
theorem c_X11_setEmpty_1 {X : pmX} {d : Nat} {v : pmV} {P : Option Value → pmT → pmV → Prop} {LT : pmT} {c : Int32} (hc : ¬ (0 ≤ c ∧ c ≤ 9)) (k : P (some (.int (-2))) (pmT0 ++ LT) v) : EvP X (d + 1) MX11_setEmpty 0 [.ref 32, .int c, pmJ] [] (pmT0 ++ LT) v P := by
  refine ev_iload_n 0 dX11_setEmpty_0 rfl ?_
  refine ev_iconst 1 dX11_setEmpty_1 kI_0 ?_
  refine ev_bipush 2 dX11_setEmpty_2 kB_9 ?_
  refine cs_11_74 (pc := 4) rfl dX11_setEmpty_4 (Nat.le_of_ble_eq_true rfl) ?_
  refine c_X11_isIn (fun h_4 => absurd h_4 hc) (fun h_4 => ?_)
  refine ev_ifF 7 13 dX11_setEmpty_7 rfl (by decide) ?_
  refine ev_bipush 10 dX11_setEmpty_10 kB_m2 ?_
  refine ev_ireturn 12 dX11_setEmpty_12 rfl rfl ?_
  exact k

theorem c_X11_setEmpty_2 {X : pmX} {d : Nat} {v : pmV} {P : Option Value → pmT → pmV → Prop} {LT : pmT} {c : Int32} (hX : pmRf v) (hc : 0 ≤ c ∧ c ≤ 9) (k : P (some (.int (v.1 34 2))) (pmT0 ++ LT) (uI v 34 2 c)) : EvP X (d + 1) MX11_setEmpty 0 [.ref 32, .int c, pmJ] [] (pmT0 ++ LT) v P := by
  refine ev_iload_n 0 dX11_setEmpty_0 rfl ?_
  refine ev_iconst 1 dX11_setEmpty_1 kI_0 ?_
  refine ev_bipush 2 dX11_setEmpty_2 kB_9 ?_
  refine cs_11_74 (pc := 4) rfl dX11_setEmpty_4 (Nat.le_of_ble_eq_true rfl) ?_
  refine c_X11_isIn (fun h_4 => ?_) (fun h_4 => absurd hc h_4)
  refine ev_ifT 7 13 dX11_setEmpty_7 rfl (by decide) ?_
  refine ev_aload_n 13 dX11_setEmpty_13 rfl (by decide) ?_
  refine gf_11_18 (pc := 14) rfl dX11_setEmpty_14 kd_32 (rf_32_2 hX) ?_
  refine gf_11_137 (x := v.1 34 2) (pc := 17) rfl dX11_setEmpty_17 kd_34 rfl ?_
  refine ev_istore_n (ls' := [.ref 32, .int c, .int (v.1 34 2)]) 20 dX11_setEmpty_20 (Nat.le_of_ble_eq_true rfl) rfl ?_
  refine ev_aload_n 21 dX11_setEmpty_21 rfl (by decide) ?_
  refine gf_11_18 (pc := 22) rfl dX11_setEmpty_22 kd_32 (rf_32_2 hX) ?_
  refine ev_iload_n 25 dX11_setEmpty_25 rfl ?_
  refine pf_11_137 (pc := 26) rfl dX11_setEmpty_26 kd_34 ?_
  refine ev_iload_n 29 dX11_setEmpty_29 rfl ?_
  refine ev_ireturn 30 dX11_setEmpty_30 rfl rfl ?_
  exact k

theorem c_X11_set_e1 {X : pmX} {d : Nat} {v : pmV} {P : Option Value → pmT → pmV → Prop} {LT : pmT} {b c : Int32} (hc : ¬ (0 ≤ c ∧ c ≤ 9)) (k : P (some (.int (-2))) (pmT0 ++ LT) v) : EvP X (d + 2) MX11_set 0 [.ref 32, .int 2, .int b, .int c, pmJ, pmJ, pmJ, pmJ] [] (pmT0 ++ LT) v P := by
  refine ev_iload_n 0 dX11_set_0 rfl ?_
  refine ev_iconst 1 dX11_set_1 kI_2 ?_
  refine ev_icF 2 11 dX11_set_2 rfl (by decide) ?_
  refine ev_aload_n 5 dX11_set_5 rfl (by decide) ?_
  refine ev_iload_n 6 dX11_set_6 rfl ?_
  refine cv_11_85_11 (pc := 7) rfl dX11_set_7 kd_32 (Nat.le_of_ble_eq_true rfl) ?_
  refine c_X11_setEmpty_1 hc ?_
  refine ev_ireturn 10 dX11_set_10 rfl rfl ?_
  exact k

theorem c_X11_set_e2 {X : pmX} {d : Nat} {v : pmV} {P : Option Value → pmT → pmV → Prop} {LT : pmT} {b c : Int32} (hX : pmRf v) (hc : 0 ≤ c ∧ c ≤ 9) (k : P (some (.int (v.1 34 2))) (pmT0 ++ LT) (uI v 34 2 c)) : EvP X (d + 2) MX11_set 0 [.ref 32, .int 2, .int b, .int c, pmJ, pmJ, pmJ, pmJ] [] (pmT0 ++ LT) v P := by
  refine ev_iload_n 0 dX11_set_0 rfl ?_
  refine ev_iconst 1 dX11_set_1 kI_2 ?_
  refine ev_icF 2 11 dX11_set_2 rfl (by decide) ?_
  refine ev_aload_n 5 dX11_set_5 rfl (by decide) ?_
  refine ev_iload_n 6 dX11_set_6 rfl ?_
  refine cv_11_85_11 (pc := 7) rfl dX11_set_7 kd_32 (Nat.le_of_ble_eq_true rfl) ?_
  refine c_X11_setEmpty_2 hX hc ?_
  refine ev_ireturn 10 dX11_set_10 rfl rfl ?_
  exact k

theorem c_X11_set_1 {X : pmX} {d : Nat} {v : pmV} {P : Option Value → pmT → pmV → Prop} {LT : pmT} {a b c : Int32} (h2 : ¬ a = 2) (h1 : ¬ (0 ≤ a ∧ a ≤ 1)) (k : P (some (.int (-2))) (pmT0 ++ LT) v) : EvP X (d + 2) MX11_set 0 [.ref 32, .int a, .int b, .int c, pmJ, pmJ, pmJ, pmJ] [] (pmT0 ++ LT) v P := by
  refine ev_iload_n 0 dX11_set_0 rfl ?_
  refine ev_iconst 1 dX11_set_1 kI_2 ?_
  refine ev_ic_ne 2 11 dX11_set_2 rfl (fun c_2 => ?_) (fun c_2 => absurd c_2 h2)
  refine ev_iload_n 11 dX11_set_11 rfl ?_
  refine ev_iconst 12 dX11_set_12 kI_0 ?_
  refine ev_iconst 13 dX11_set_13 kI_1 ?_
  refine cs_11_74 (pc := 14) rfl dX11_set_14 (Nat.le_of_ble_eq_true rfl) ?_
  refine c_X11_isIn (fun h_14 => absurd h_14 h1) (fun h_14 => ?_)
  refine ev_ifT 17 41 dX11_set_17 rfl (by decide) ?_
  refine ev_bipush 41 dX11_set_41 kB_m2 ?_
  refine ev_ireturn 43 dX11_set_43 rfl rfl ?_
  exact k

theorem c_X11_set_2 {X : pmX} {d : Nat} {v : pmV} {P : Option Value → pmT → pmV → Prop} {LT : pmT} {a b c : Int32} (h2 : ¬ a = 2) (h1 : 0 ≤ a ∧ a ≤ 1) (hb : ¬ (0 ≤ b ∧ b ≤ 599)) (k : P (some (.int (-2))) (pmT0 ++ LT) v) : EvP X (d + 2) MX11_set 0 [.ref 32, .int a, .int b, .int c, pmJ, pmJ, pmJ, pmJ] [] (pmT0 ++ LT) v P := by
  refine ev_iload_n 0 dX11_set_0 rfl ?_
  refine ev_iconst 1 dX11_set_1 kI_2 ?_
  refine ev_ic_ne 2 11 dX11_set_2 rfl (fun c_2 => ?_) (fun c_2 => absurd c_2 h2)
  refine ev_iload_n 11 dX11_set_11 rfl ?_
  refine ev_iconst 12 dX11_set_12 kI_0 ?_
  refine ev_iconst 13 dX11_set_13 kI_1 ?_
  refine cs_11_74 (pc := 14) rfl dX11_set_14 (Nat.le_of_ble_eq_true rfl) ?_
  refine c_X11_isIn (fun h_14 => ?_) (fun h_14 => absurd h1 h_14)
  refine ev_ifF 17 41 dX11_set_17 rfl (by decide) ?_
  refine ev_iload_n 20 dX11_set_20 rfl ?_
  refine ev_iconst 21 dX11_set_21 kI_0 ?_
  refine ev_sipush 22 dX11_set_22 kS_599 ?_
  refine cs_11_74 (pc := 25) rfl dX11_set_25 (Nat.le_of_ble_eq_true rfl) ?_
  refine c_X11_isIn (fun h_25 => absurd h_25 hb) (fun h_25 => ?_)
  refine ev_ifT 28 41 dX11_set_28 rfl (by decide) ?_
  refine ev_bipush 41 dX11_set_41 kB_m2 ?_
  refine ev_ireturn 43 dX11_set_43 rfl rfl ?_
  exact k

theorem c_X11_set_3 {X : pmX} {d : Nat} {v : pmV} {P : Option Value → pmT → pmV → Prop} {LT : pmT} {a b c : Int32} (h2 : ¬ a = 2) (h1 : 0 ≤ a ∧ a ≤ 1) (hb : 0 ≤ b ∧ b ≤ 599) (hc : ¬ (0 ≤ c ∧ c ≤ 99)) (k : P (some (.int (-2))) (pmT0 ++ LT) v) : EvP X (d + 2) MX11_set 0 [.ref 32, .int a, .int b, .int c, pmJ, pmJ, pmJ, pmJ] [] (pmT0 ++ LT) v P := by
  refine ev_iload_n 0 dX11_set_0 rfl ?_
  refine ev_iconst 1 dX11_set_1 kI_2 ?_
  refine ev_ic_ne 2 11 dX11_set_2 rfl (fun c_2 => ?_) (fun c_2 => absurd c_2 h2)
  refine ev_iload_n 11 dX11_set_11 rfl ?_
  refine ev_iconst 12 dX11_set_12 kI_0 ?_
  refine ev_iconst 13 dX11_set_13 kI_1 ?_
  refine cs_11_74 (pc := 14) rfl dX11_set_14 (Nat.le_of_ble_eq_true rfl) ?_
  refine c_X11_isIn (fun h_14 => ?_) (fun h_14 => absurd h1 h_14)
  refine ev_ifF 17 41 dX11_set_17 rfl (by decide) ?_
  refine ev_iload_n 20 dX11_set_20 rfl ?_
  refine ev_iconst 21 dX11_set_21 kI_0 ?_
  refine ev_sipush 22 dX11_set_22 kS_599 ?_
  refine cs_11_74 (pc := 25) rfl dX11_set_25 (Nat.le_of_ble_eq_true rfl) ?_
  refine c_X11_isIn (fun h_25 => ?_) (fun h_25 => absurd hb h_25)
  refine ev_ifF 28 41 dX11_set_28 rfl (by decide) ?_
  refine ev_iload_n 31 dX11_set_31 rfl ?_
  refine ev_iconst 32 dX11_set_32 kI_0 ?_
  refine ev_bipush 33 dX11_set_33 kB_99 ?_
  refine cs_11_74 (pc := 35) rfl dX11_set_35 (Nat.le_of_ble_eq_true rfl) ?_
  refine c_X11_isIn (fun h_35 => absurd h_35 hc) (fun h_35 => ?_)
  refine ev_ifF 38 44 dX11_set_38 rfl (by decide) ?_
  refine ev_bipush 41 dX11_set_41 kB_m2 ?_
  refine ev_ireturn 43 dX11_set_43 rfl rfl ?_
  exact k

theorem c_X11_set_4 {X : pmX} {d : Nat} {v : pmV} {P : Option Value → pmT → pmV → Prop} {LT : pmT} {a c : Int32} {q : Nat} (h2 : ¬ a = 2) (h1 : 0 ≤ a ∧ a ≤ 1) (hb : 0 ≤ nI q ∧ nI q ≤ 599) (hq : q ≤ 599) (hc : 0 ≤ c ∧ c ≤ 99) (hw : ¬ q % 10 ≤ 1) (k : P (some (.int (-2))) (pmT0 ++ LT) v) : EvP X (d + 2) MX11_set 0 [.ref 32, .int a, .int (nI q), .int c, pmJ, pmJ, pmJ, pmJ] [] (pmT0 ++ LT) v P := by
  refine ev_iload_n 0 dX11_set_0 rfl ?_
  refine ev_iconst 1 dX11_set_1 kI_2 ?_
  refine ev_ic_ne 2 11 dX11_set_2 rfl (fun c_2 => ?_) (fun c_2 => absurd c_2 h2)
  refine ev_iload_n 11 dX11_set_11 rfl ?_
  refine ev_iconst 12 dX11_set_12 kI_0 ?_
  refine ev_iconst 13 dX11_set_13 kI_1 ?_
  refine cs_11_74 (pc := 14) rfl dX11_set_14 (Nat.le_of_ble_eq_true rfl) ?_
  refine c_X11_isIn (fun h_14 => ?_) (fun h_14 => absurd h1 h_14)
  refine ev_ifF 17 41 dX11_set_17 rfl (by decide) ?_
  refine ev_iload_n 20 dX11_set_20 rfl ?_
  refine ev_iconst 21 dX11_set_21 kI_0 ?_
  refine ev_sipush 22 dX11_set_22 kS_599 ?_
  refine cs_11_74 (pc := 25) rfl dX11_set_25 (Nat.le_of_ble_eq_true rfl) ?_
  refine c_X11_isIn (fun h_25 => ?_) (fun h_25 => absurd hb h_25)
  refine ev_ifF 28 41 dX11_set_28 rfl (by decide) ?_
  refine ev_iload_n 31 dX11_set_31 rfl ?_
  refine ev_iconst 32 dX11_set_32 kI_0 ?_
  refine ev_bipush 33 dX11_set_33 kB_99 ?_
  refine cs_11_74 (pc := 35) rfl dX11_set_35 (Nat.le_of_ble_eq_true rfl) ?_
  refine c_X11_isIn (fun h_35 => ?_) (fun h_35 => absurd hc h_35)
  refine ev_ifT 38 44 dX11_set_38 rfl (by decide) ?_
  refine ev_iload_n 44 dX11_set_44 rfl ?_
  refine ev_bipush 45 dX11_set_45 kB_10 ?_
  refine ev_irem 47 dX11_set_47 (by decide) ?_
  refine ev_cst (y := nI (q % 10)) (pk_rem (a := q) (d := 10) (by omega) (by omega) (by omega)) ?_
  refine ev_istore (ls' := [.ref 32, .int a, .int (nI q), .int c, .int (nI (q % 10)), pmJ, pmJ, pmJ]) 48 dX11_set_48 (Nat.le_of_ble_eq_true rfl) rfl ?_
  refine ev_iload 50 dX11_set_50 rfl ?_
  refine ev_iconst 52 dX11_set_52 kI_0 ?_
  refine ev_iconst 53 dX11_set_53 kI_1 ?_
  refine cs_11_74 (pc := 54) rfl dX11_set_54 (Nat.le_of_ble_eq_true rfl) ?_
  refine c_X11_isIn (fun h_54 => absurd h_54 (fun z : 0 ≤ nI (q % 10) ∧ nI (q % 10) ≤ 1 => hw ((nI_leI (b := 1) (by omega) (by omega)).mp z.2))) (fun h_54 => ?_)
  refine ev_ifF 57 63 dX11_set_57 rfl (by decide) ?_
  refine ev_bipush 60 dX11_set_60 kB_m2 ?_
  refine ev_ireturn 62 dX11_set_62 rfl rfl ?_
  exact k

theorem c_X11_set_com {X : pmX} {d : Nat} {v : pmV} {P : Option Value → pmT → pmV → Prop} {LT : pmT} {c : Int32} {q : Nat} (hX : pmRf v) (hb : 0 ≤ nI q ∧ nI q ≤ 599) (hq : q ≤ 599) (hc : 0 ≤ c ∧ c ≤ 99) (hw : q % 10 ≤ 1) (k : P (some (.int (v.1 35 (q % 10 * 60 + q / 10)))) (pmT0 ++ LT) (uI v 35 (q % 10 * 60 + q / 10) c)) : EvP X (d + 2) MX11_set 0 [.ref 32, .int 0, .int (nI q), .int c, pmJ, pmJ, pmJ, pmJ] [] (pmT0 ++ LT) v P := by
  refine ev_iload_n 0 dX11_set_0 rfl ?_
  refine ev_iconst 1 dX11_set_1 kI_2 ?_
  refine ev_icT 2 11 dX11_set_2 rfl (by decide) ?_
  refine ev_iload_n 11 dX11_set_11 rfl ?_
  refine ev_iconst 12 dX11_set_12 kI_0 ?_
  refine ev_iconst 13 dX11_set_13 kI_1 ?_
  refine cs_11_74 (pc := 14) rfl dX11_set_14 (Nat.le_of_ble_eq_true rfl) ?_
  refine c_X11_isIn (fun h_14 => ?_) (fun h_14 => absurd (show (0 : Int32) ≤ 0 ∧ (0 : Int32) ≤ 1 by decide) h_14)
  refine ev_ifF 17 41 dX11_set_17 rfl (by decide) ?_
  refine ev_iload_n 20 dX11_set_20 rfl ?_
  refine ev_iconst 21 dX11_set_21 kI_0 ?_
  refine ev_sipush 22 dX11_set_22 kS_599 ?_
  refine cs_11_74 (pc := 25) rfl dX11_set_25 (Nat.le_of_ble_eq_true rfl) ?_
  refine c_X11_isIn (fun h_25 => ?_) (fun h_25 => absurd hb h_25)
  refine ev_ifF 28 41 dX11_set_28 rfl (by decide) ?_
  refine ev_iload_n 31 dX11_set_31 rfl ?_
  refine ev_iconst 32 dX11_set_32 kI_0 ?_
  refine ev_bipush 33 dX11_set_33 kB_99 ?_
  refine cs_11_74 (pc := 35) rfl dX11_set_35 (Nat.le_of_ble_eq_true rfl) ?_
  refine c_X11_isIn (fun h_35 => ?_) (fun h_35 => absurd hc h_35)
  refine ev_ifT 38 44 dX11_set_38 rfl (by decide) ?_
  refine ev_iload_n 44 dX11_set_44 rfl ?_
  refine ev_bipush 45 dX11_set_45 kB_10 ?_
  refine ev_irem 47 dX11_set_47 (by decide) ?_
  refine ev_cst (y := nI (q % 10)) (pk_rem (a := q) (d := 10) (by omega) (by omega) (by omega)) ?_
  refine ev_istore (ls' := [.ref 32, .int 0, .int (nI q), .int c, .int (nI (q % 10)), pmJ, pmJ, pmJ]) 48 dX11_set_48 (Nat.le_of_ble_eq_true rfl) rfl ?_
  refine ev_iload 50 dX11_set_50 rfl ?_
  refine ev_iconst 52 dX11_set_52 kI_0 ?_
  refine ev_iconst 53 dX11_set_53 kI_1 ?_
  refine cs_11_74 (pc := 54) rfl dX11_set_54 (Nat.le_of_ble_eq_true rfl) ?_
  refine c_X11_isIn (fun h_54 => ?_) (fun h_54 => absurd (show 0 ≤ nI (q % 10) ∧ nI (q % 10) ≤ 1 from ⟨nI_pos' (by omega), nI_le (b := 1) hw (by omega)⟩) h_54)
  refine ev_ifT 57 63 dX11_set_57 rfl (by decide) ?_
  refine ev_iload_n 63 dX11_set_63 rfl ?_
  refine ev_ifF 64 77 dX11_set_64 rfl (by decide) ?_
  refine ev_aload_n 67 dX11_set_67 rfl (by decide) ?_
  refine gf_11_18 (pc := 68) rfl dX11_set_68 kd_32 (rf_32_2 hX) ?_
  refine gf_11_89 (pc := 71) rfl dX11_set_71 kd_34 (rf_34_0 hX) ?_
  refine ev_goto 74 84 dX11_set_74 rfl ?_
  refine ev_astore (ls' := [.ref 32, .int 0, .int (nI q), .int c, .int (nI (q % 10)), .ref 35, pmJ, pmJ]) 84 dX11_set_84 (Nat.le_of_ble_eq_true rfl) (by decide) rfl ?_
  refine ev_iload 86 dX11_set_86 rfl ?_
  refine ev_iload_n 88 dX11_set_88 rfl ?_
  refine ev_bipush 89 dX11_set_89 kB_10 ?_
  refine ev_idiv 91 dX11_set_91 (by decide) ?_
  refine ev_cst (y := nI (q / 10)) (pk_div (a := q) (d := 10) (by omega) (by omega) (by omega)) ?_
  refine cs_11_96 (pc := 92) rfl dX11_set_92 (Nat.le_of_ble_eq_true rfl) ?_
  refine c_X11_placeOf ?_
  refine ev_cst (y := nI ((q % 10) * 60 + q / 10)) (nI_place (q % 10) (q / 10)) ?_
  refine ev_istore (ls' := [.ref 32, .int 0, .int (nI q), .int c, .int (nI (q % 10)), .ref 35, .int (nI ((q % 10) * 60 + q / 10)), pmJ]) 95 dX11_set_95 (Nat.le_of_ble_eq_true rfl) rfl ?_
  refine ev_aload 97 dX11_set_97 rfl (by decide) ?_
  refine ev_iload 99 dX11_set_99 rfl ?_
  refine ev_ialdJ (x := v.1 35 ((q % 10) * 60 + q / 10)) (j := (q % 10) * 60 + q / 10) 101 dX11_set_101 (Nat.le_of_ble_eq_true rfl) ty_35 (pm_inI (by omega) (by omega)) (nI_clamp (by omega)) rfl ?_
  refine ev_istore (ls' := [.ref 32, .int 0, .int (nI q), .int c, .int (nI (q % 10)), .ref 35, .int (nI ((q % 10) * 60 + q / 10)), .int (v.1 35 ((q % 10) * 60 + q / 10))]) 102 dX11_set_102 (Nat.le_of_ble_eq_true rfl) rfl ?_
  refine ev_aload 104 dX11_set_104 rfl (by decide) ?_
  refine ev_iload 106 dX11_set_106 rfl ?_
  refine ev_iload_n 108 dX11_set_108 rfl ?_
  refine ev_iastJ (j := (q % 10) * 60 + q / 10) 109 dX11_set_109 (Nat.le_of_ble_eq_true rfl) ty_35 (pm_inI (by omega) (by omega)) (nI_clamp (by omega)) ?_
  refine ev_iload 110 dX11_set_110 rfl ?_
  refine ev_ireturn 112 dX11_set_112 rfl rfl ?_
  exact k

theorem c_X11_set_bus {X : pmX} {d : Nat} {v : pmV} {P : Option Value → pmT → pmV → Prop} {LT : pmT} {c : Int32} {q : Nat} (hX : pmRf v) (hb : 0 ≤ nI q ∧ nI q ≤ 599) (hq : q ≤ 599) (hc : 0 ≤ c ∧ c ≤ 99) (hw : q % 10 ≤ 1) (k : P (some (.int (v.1 36 (q % 10 * 60 + q / 10)))) (pmT0 ++ LT) (uI v 36 (q % 10 * 60 + q / 10) c)) : EvP X (d + 2) MX11_set 0 [.ref 32, .int 1, .int (nI q), .int c, pmJ, pmJ, pmJ, pmJ] [] (pmT0 ++ LT) v P := by
  refine ev_iload_n 0 dX11_set_0 rfl ?_
  refine ev_iconst 1 dX11_set_1 kI_2 ?_
  refine ev_icT 2 11 dX11_set_2 rfl (by decide) ?_
  refine ev_iload_n 11 dX11_set_11 rfl ?_
  refine ev_iconst 12 dX11_set_12 kI_0 ?_
  refine ev_iconst 13 dX11_set_13 kI_1 ?_
  refine cs_11_74 (pc := 14) rfl dX11_set_14 (Nat.le_of_ble_eq_true rfl) ?_
  refine c_X11_isIn (fun h_14 => ?_) (fun h_14 => absurd (show (0 : Int32) ≤ 1 ∧ (1 : Int32) ≤ 1 by decide) h_14)
  refine ev_ifF 17 41 dX11_set_17 rfl (by decide) ?_
  refine ev_iload_n 20 dX11_set_20 rfl ?_
  refine ev_iconst 21 dX11_set_21 kI_0 ?_
  refine ev_sipush 22 dX11_set_22 kS_599 ?_
  refine cs_11_74 (pc := 25) rfl dX11_set_25 (Nat.le_of_ble_eq_true rfl) ?_
  refine c_X11_isIn (fun h_25 => ?_) (fun h_25 => absurd hb h_25)
  refine ev_ifF 28 41 dX11_set_28 rfl (by decide) ?_
  refine ev_iload_n 31 dX11_set_31 rfl ?_
  refine ev_iconst 32 dX11_set_32 kI_0 ?_
  refine ev_bipush 33 dX11_set_33 kB_99 ?_
  refine cs_11_74 (pc := 35) rfl dX11_set_35 (Nat.le_of_ble_eq_true rfl) ?_
  refine c_X11_isIn (fun h_35 => ?_) (fun h_35 => absurd hc h_35)
  refine ev_ifT 38 44 dX11_set_38 rfl (by decide) ?_
  refine ev_iload_n 44 dX11_set_44 rfl ?_
  refine ev_bipush 45 dX11_set_45 kB_10 ?_
  refine ev_irem 47 dX11_set_47 (by decide) ?_
  refine ev_cst (y := nI (q % 10)) (pk_rem (a := q) (d := 10) (by omega) (by omega) (by omega)) ?_
  refine ev_istore (ls' := [.ref 32, .int 1, .int (nI q), .int c, .int (nI (q % 10)), pmJ, pmJ, pmJ]) 48 dX11_set_48 (Nat.le_of_ble_eq_true rfl) rfl ?_
  refine ev_iload 50 dX11_set_50 rfl ?_
  refine ev_iconst 52 dX11_set_52 kI_0 ?_
  refine ev_iconst 53 dX11_set_53 kI_1 ?_
  refine cs_11_74 (pc := 54) rfl dX11_set_54 (Nat.le_of_ble_eq_true rfl) ?_
  refine c_X11_isIn (fun h_54 => ?_) (fun h_54 => absurd (show 0 ≤ nI (q % 10) ∧ nI (q % 10) ≤ 1 from ⟨nI_pos' (by omega), nI_le (b := 1) hw (by omega)⟩) h_54)
  refine ev_ifT 57 63 dX11_set_57 rfl (by decide) ?_
  refine ev_iload_n 63 dX11_set_63 rfl ?_
  refine ev_ifT 64 77 dX11_set_64 rfl (by decide) ?_
  refine ev_aload_n 77 dX11_set_77 rfl (by decide) ?_
  refine gf_11_18 (pc := 78) rfl dX11_set_78 kd_32 (rf_32_2 hX) ?_
  refine gf_11_93 (pc := 81) rfl dX11_set_81 kd_34 (rf_34_1 hX) ?_
  refine ev_astore (ls' := [.ref 32, .int 1, .int (nI q), .int c, .int (nI (q % 10)), .ref 36, pmJ, pmJ]) 84 dX11_set_84 (Nat.le_of_ble_eq_true rfl) (by decide) rfl ?_
  refine ev_iload 86 dX11_set_86 rfl ?_
  refine ev_iload_n 88 dX11_set_88 rfl ?_
  refine ev_bipush 89 dX11_set_89 kB_10 ?_
  refine ev_idiv 91 dX11_set_91 (by decide) ?_
  refine ev_cst (y := nI (q / 10)) (pk_div (a := q) (d := 10) (by omega) (by omega) (by omega)) ?_
  refine cs_11_96 (pc := 92) rfl dX11_set_92 (Nat.le_of_ble_eq_true rfl) ?_
  refine c_X11_placeOf ?_
  refine ev_cst (y := nI ((q % 10) * 60 + q / 10)) (nI_place (q % 10) (q / 10)) ?_
  refine ev_istore (ls' := [.ref 32, .int 1, .int (nI q), .int c, .int (nI (q % 10)), .ref 36, .int (nI ((q % 10) * 60 + q / 10)), pmJ]) 95 dX11_set_95 (Nat.le_of_ble_eq_true rfl) rfl ?_
  refine ev_aload 97 dX11_set_97 rfl (by decide) ?_
  refine ev_iload 99 dX11_set_99 rfl ?_
  refine ev_ialdJ (x := v.1 36 ((q % 10) * 60 + q / 10)) (j := (q % 10) * 60 + q / 10) 101 dX11_set_101 (Nat.le_of_ble_eq_true rfl) ty_36 (pm_inI (by omega) (by omega)) (nI_clamp (by omega)) rfl ?_
  refine ev_istore (ls' := [.ref 32, .int 1, .int (nI q), .int c, .int (nI (q % 10)), .ref 36, .int (nI ((q % 10) * 60 + q / 10)), .int (v.1 36 ((q % 10) * 60 + q / 10))]) 102 dX11_set_102 (Nat.le_of_ble_eq_true rfl) rfl ?_
  refine ev_aload 104 dX11_set_104 rfl (by decide) ?_
  refine ev_iload 106 dX11_set_106 rfl ?_
  refine ev_iload_n 108 dX11_set_108 rfl ?_
  refine ev_iastJ (j := (q % 10) * 60 + q / 10) 109 dX11_set_109 (Nat.le_of_ble_eq_true rfl) ty_36 (pm_inI (by omega) (by omega)) (nI_clamp (by omega)) ?_
  refine ev_iload 110 dX11_set_110 rfl ?_
  refine ev_ireturn 112 dX11_set_112 rfl rfl ?_
  exact k

theorem c_X12_set_e1 {X : pmX} {d : Nat} {v : pmV} {P : Option Value → pmT → pmV → Prop} {LT : pmT} {b c : Int32} (hc : ¬ (0 ≤ c ∧ c ≤ 9)) (k : P (some (.int (-2))) (pmT0 ++ LT) v) : EvP X (d + 2) MX12_set 0 [.ref 100, .int 2, .int b, .int c, pmJ, pmJ] [] (pmT0 ++ LT) v P := by
  refine ev_aload_n 0 dX12_set_0 rfl (by decide) ?_
  refine ev_iload_n 1 dX12_set_1 rfl ?_
  refine ev_iconst 2 dX12_set_2 kI_0 ?_
  refine ev_iconst 3 dX12_set_3 kI_2 ?_
  refine cv_12_7_12 (pc := 4) rfl dX12_set_4 kd_100 (Nat.le_of_ble_eq_true rfl) ?_
  refine c_X12_in (fun h_4 => ?_) (fun h_4 => absurd (show (0 : Int32) ≤ 2 ∧ (2 : Int32) ≤ 2 by decide) h_4)
  refine ev_ifT 7 13 dX12_set_7 rfl (by decide) ?_
  refine ev_iload_n 13 dX12_set_13 rfl ?_
  refine ev_iconst 14 dX12_set_14 kI_2 ?_
  refine ev_icF 15 46 dX12_set_15 rfl (by decide) ?_
  refine ev_aload_n 18 dX12_set_18 rfl (by decide) ?_
  refine ev_iload_n 19 dX12_set_19 rfl ?_
  refine ev_iconst 20 dX12_set_20 kI_0 ?_
  refine ev_bipush 21 dX12_set_21 kB_9 ?_
  refine cv_12_7_12 (pc := 23) rfl dX12_set_23 kd_100 (Nat.le_of_ble_eq_true rfl) ?_
  refine c_X12_in (fun h_23 => absurd h_23 hc) (fun h_23 => ?_)
  refine ev_ifF 26 32 dX12_set_26 rfl (by decide) ?_
  refine ev_bipush 29 dX12_set_29 kB_m2 ?_
  refine ev_ireturn 31 dX12_set_31 rfl rfl ?_
  exact k

theorem c_X12_set_e2 {X : pmX} {d : Nat} {v : pmV} {P : Option Value → pmT → pmV → Prop} {LT : pmT} {b c : Int32} (hX : pmRf v) (hc : 0 ≤ c ∧ c ≤ 9) (k : P (some (.int (v.1 100 1))) (pmT0 ++ LT) (uI v 100 1 c)) : EvP X (d + 2) MX12_set 0 [.ref 100, .int 2, .int b, .int c, pmJ, pmJ] [] (pmT0 ++ LT) v P := by
  refine ev_aload_n 0 dX12_set_0 rfl (by decide) ?_
  refine ev_iload_n 1 dX12_set_1 rfl ?_
  refine ev_iconst 2 dX12_set_2 kI_0 ?_
  refine ev_iconst 3 dX12_set_3 kI_2 ?_
  refine cv_12_7_12 (pc := 4) rfl dX12_set_4 kd_100 (Nat.le_of_ble_eq_true rfl) ?_
  refine c_X12_in (fun h_4 => ?_) (fun h_4 => absurd (show (0 : Int32) ≤ 2 ∧ (2 : Int32) ≤ 2 by decide) h_4)
  refine ev_ifT 7 13 dX12_set_7 rfl (by decide) ?_
  refine ev_iload_n 13 dX12_set_13 rfl ?_
  refine ev_iconst 14 dX12_set_14 kI_2 ?_
  refine ev_icF 15 46 dX12_set_15 rfl (by decide) ?_
  refine ev_aload_n 18 dX12_set_18 rfl (by decide) ?_
  refine ev_iload_n 19 dX12_set_19 rfl ?_
  refine ev_iconst 20 dX12_set_20 kI_0 ?_
  refine ev_bipush 21 dX12_set_21 kB_9 ?_
  refine cv_12_7_12 (pc := 23) rfl dX12_set_23 kd_100 (Nat.le_of_ble_eq_true rfl) ?_
  refine c_X12_in (fun h_23 => ?_) (fun h_23 => absurd hc h_23)
  refine ev_ifT 26 32 dX12_set_26 rfl (by decide) ?_
  refine ev_aload_n 32 dX12_set_32 rfl (by decide) ?_
  refine gf_12_28 (x := v.1 100 1) (pc := 33) rfl dX12_set_33 kd_100 rfl ?_
  refine ev_istore (ls' := [.ref 100, .int 2, .int b, .int c, .int (v.1 100 1), pmJ]) 36 dX12_set_36 (Nat.le_of_ble_eq_true rfl) rfl ?_
  refine ev_aload_n 38 dX12_set_38 rfl (by decide) ?_
  refine ev_iload_n 39 dX12_set_39 rfl ?_
  refine pf_12_28 (pc := 40) rfl dX12_set_40 kd_100 ?_
  refine ev_iload 43 dX12_set_43 rfl ?_
  refine ev_ireturn 45 dX12_set_45 rfl rfl ?_
  exact k

theorem c_X12_set_1 {X : pmX} {d : Nat} {v : pmV} {P : Option Value → pmT → pmV → Prop} {LT : pmT} {a b c : Int32} (h1 : ¬ (0 ≤ a ∧ a ≤ 2)) (k : P (some (.int (-2))) (pmT0 ++ LT) v) : EvP X (d + 2) MX12_set 0 [.ref 100, .int a, .int b, .int c, pmJ, pmJ] [] (pmT0 ++ LT) v P := by
  refine ev_aload_n 0 dX12_set_0 rfl (by decide) ?_
  refine ev_iload_n 1 dX12_set_1 rfl ?_
  refine ev_iconst 2 dX12_set_2 kI_0 ?_
  refine ev_iconst 3 dX12_set_3 kI_2 ?_
  refine cv_12_7_12 (pc := 4) rfl dX12_set_4 kd_100 (Nat.le_of_ble_eq_true rfl) ?_
  refine c_X12_in (fun h_4 => absurd h_4 h1) (fun h_4 => ?_)
  refine ev_ifF 7 13 dX12_set_7 rfl (by decide) ?_
  refine ev_bipush 10 dX12_set_10 kB_m2 ?_
  refine ev_ireturn 12 dX12_set_12 rfl rfl ?_
  exact k

theorem c_X12_set_2 {X : pmX} {d : Nat} {v : pmV} {P : Option Value → pmT → pmV → Prop} {LT : pmT} {a b c : Int32} (h2 : ¬ a = 2) (h1 : 0 ≤ a ∧ a ≤ 2) (hb : ¬ (0 ≤ b ∧ b ≤ 591)) (k : P (some (.int (-2))) (pmT0 ++ LT) v) : EvP X (d + 2) MX12_set 0 [.ref 100, .int a, .int b, .int c, pmJ, pmJ] [] (pmT0 ++ LT) v P := by
  refine ev_aload_n 0 dX12_set_0 rfl (by decide) ?_
  refine ev_iload_n 1 dX12_set_1 rfl ?_
  refine ev_iconst 2 dX12_set_2 kI_0 ?_
  refine ev_iconst 3 dX12_set_3 kI_2 ?_
  refine cv_12_7_12 (pc := 4) rfl dX12_set_4 kd_100 (Nat.le_of_ble_eq_true rfl) ?_
  refine c_X12_in (fun h_4 => ?_) (fun h_4 => absurd h1 h_4)
  refine ev_ifT 7 13 dX12_set_7 rfl (by decide) ?_
  refine ev_iload_n 13 dX12_set_13 rfl ?_
  refine ev_iconst 14 dX12_set_14 kI_2 ?_
  refine ev_ic_ne 15 46 dX12_set_15 rfl (fun c_15 => ?_) (fun c_15 => absurd c_15 h2)
  refine ev_aload_n 46 dX12_set_46 rfl (by decide) ?_
  refine ev_iload_n 47 dX12_set_47 rfl ?_
  refine ev_iconst 48 dX12_set_48 kI_0 ?_
  refine ev_sipush 49 dX12_set_49 kS_591 ?_
  refine cv_12_7_12 (pc := 52) rfl dX12_set_52 kd_100 (Nat.le_of_ble_eq_true rfl) ?_
  refine c_X12_in (fun h_52 => absurd h_52 hb) (fun h_52 => ?_)
  refine ev_ifT 55 77 dX12_set_55 rfl (by decide) ?_
  refine ev_bipush 77 dX12_set_77 kB_m2 ?_
  refine ev_ireturn 79 dX12_set_79 rfl rfl ?_
  exact k

theorem c_X12_set_3 {X : pmX} {d : Nat} {v : pmV} {P : Option Value → pmT → pmV → Prop} {LT : pmT} {a c : Int32} {q : Nat} (h2 : ¬ a = 2) (h1 : 0 ≤ a ∧ a ≤ 2) (hb : 0 ≤ nI q ∧ nI q ≤ 591) (hq : q ≤ 591) (hc : ¬ (0 ≤ c ∧ c ≤ 99)) (k : P (some (.int (-2))) (pmT0 ++ LT) v) : EvP X (d + 2) MX12_set 0 [.ref 100, .int a, .int (nI q), .int c, pmJ, pmJ] [] (pmT0 ++ LT) v P := by
  refine ev_aload_n 0 dX12_set_0 rfl (by decide) ?_
  refine ev_iload_n 1 dX12_set_1 rfl ?_
  refine ev_iconst 2 dX12_set_2 kI_0 ?_
  refine ev_iconst 3 dX12_set_3 kI_2 ?_
  refine cv_12_7_12 (pc := 4) rfl dX12_set_4 kd_100 (Nat.le_of_ble_eq_true rfl) ?_
  refine c_X12_in (fun h_4 => ?_) (fun h_4 => absurd h1 h_4)
  refine ev_ifT 7 13 dX12_set_7 rfl (by decide) ?_
  refine ev_iload_n 13 dX12_set_13 rfl ?_
  refine ev_iconst 14 dX12_set_14 kI_2 ?_
  refine ev_ic_ne 15 46 dX12_set_15 rfl (fun c_15 => ?_) (fun c_15 => absurd c_15 h2)
  refine ev_aload_n 46 dX12_set_46 rfl (by decide) ?_
  refine ev_iload_n 47 dX12_set_47 rfl ?_
  refine ev_iconst 48 dX12_set_48 kI_0 ?_
  refine ev_sipush 49 dX12_set_49 kS_591 ?_
  refine cv_12_7_12 (pc := 52) rfl dX12_set_52 kd_100 (Nat.le_of_ble_eq_true rfl) ?_
  refine c_X12_in (fun h_52 => ?_) (fun h_52 => absurd hb h_52)
  refine ev_ifF 55 77 dX12_set_55 rfl (by decide) ?_
  refine ev_iload_n 58 dX12_set_58 rfl ?_
  refine ev_bipush 59 dX12_set_59 kB_10 ?_
  refine ev_irem 61 dX12_set_61 (by decide) ?_
  refine ev_cst (y := nI (q % 10)) (pk_rem (a := q) (d := 10) (by omega) (by omega) (by omega)) ?_
  refine ev_iconst 62 dX12_set_62 kI_1 ?_
  refine ev_ic_gtN (a := (q % 10)) (b := 1) 63 77 dX12_set_63 rfl (by omega) (by omega) (fun c_63 => ?_) (fun c_63 => ?_)
  · refine ev_bipush 77 dX12_set_77 kB_m2 ?_
    refine ev_ireturn 79 dX12_set_79 rfl rfl ?_
    exact k
  · refine ev_aload_n 66 dX12_set_66 rfl (by decide) ?_
    refine ev_iload_n 67 dX12_set_67 rfl ?_
    refine ev_iconst 68 dX12_set_68 kI_0 ?_
    refine ev_bipush 69 dX12_set_69 kB_99 ?_
    refine cv_12_7_12 (pc := 71) rfl dX12_set_71 kd_100 (Nat.le_of_ble_eq_true rfl) ?_
    refine c_X12_in (fun h_71 => absurd h_71 hc) (fun h_71 => ?_)
    refine ev_ifF 74 80 dX12_set_74 rfl (by decide) ?_
    refine ev_bipush 77 dX12_set_77 kB_m2 ?_
    refine ev_ireturn 79 dX12_set_79 rfl rfl ?_
    exact k

theorem c_X12_set_4 {X : pmX} {d : Nat} {v : pmV} {P : Option Value → pmT → pmV → Prop} {LT : pmT} {a c : Int32} {q : Nat} (h2 : ¬ a = 2) (h1 : 0 ≤ a ∧ a ≤ 2) (hb : 0 ≤ nI q ∧ nI q ≤ 591) (hq : q ≤ 591) (hw : ¬ q % 10 ≤ 1) (k : P (some (.int (-2))) (pmT0 ++ LT) v) : EvP X (d + 2) MX12_set 0 [.ref 100, .int a, .int (nI q), .int c, pmJ, pmJ] [] (pmT0 ++ LT) v P := by
  refine ev_aload_n 0 dX12_set_0 rfl (by decide) ?_
  refine ev_iload_n 1 dX12_set_1 rfl ?_
  refine ev_iconst 2 dX12_set_2 kI_0 ?_
  refine ev_iconst 3 dX12_set_3 kI_2 ?_
  refine cv_12_7_12 (pc := 4) rfl dX12_set_4 kd_100 (Nat.le_of_ble_eq_true rfl) ?_
  refine c_X12_in (fun h_4 => ?_) (fun h_4 => absurd h1 h_4)
  refine ev_ifT 7 13 dX12_set_7 rfl (by decide) ?_
  refine ev_iload_n 13 dX12_set_13 rfl ?_
  refine ev_iconst 14 dX12_set_14 kI_2 ?_
  refine ev_ic_ne 15 46 dX12_set_15 rfl (fun c_15 => ?_) (fun c_15 => absurd c_15 h2)
  refine ev_aload_n 46 dX12_set_46 rfl (by decide) ?_
  refine ev_iload_n 47 dX12_set_47 rfl ?_
  refine ev_iconst 48 dX12_set_48 kI_0 ?_
  refine ev_sipush 49 dX12_set_49 kS_591 ?_
  refine cv_12_7_12 (pc := 52) rfl dX12_set_52 kd_100 (Nat.le_of_ble_eq_true rfl) ?_
  refine c_X12_in (fun h_52 => ?_) (fun h_52 => absurd hb h_52)
  refine ev_ifF 55 77 dX12_set_55 rfl (by decide) ?_
  refine ev_iload_n 58 dX12_set_58 rfl ?_
  refine ev_bipush 59 dX12_set_59 kB_10 ?_
  refine ev_irem 61 dX12_set_61 (by decide) ?_
  refine ev_cst (y := nI (q % 10)) (pk_rem (a := q) (d := 10) (by omega) (by omega) (by omega)) ?_
  refine ev_iconst 62 dX12_set_62 kI_1 ?_
  refine ev_ic_gtN (a := (q % 10)) (b := 1) 63 77 dX12_set_63 rfl (by omega) (by omega) (fun c_63 => ?_) (fun c_63 => by omega)
  refine ev_bipush 77 dX12_set_77 kB_m2 ?_
  refine ev_ireturn 79 dX12_set_79 rfl rfl ?_
  exact k

theorem c_X12_set_com {X : pmX} {d : Nat} {v : pmV} {P : Option Value → pmT → pmV → Prop} {LT : pmT} {c : Int32} {q : Nat} (hX : pmRf v) (hb : 0 ≤ nI q ∧ nI q ≤ 591) (hq : q ≤ 591) (hc : 0 ≤ c ∧ c ≤ 99) (hw : q % 10 ≤ 1) (k : P (some (.int (v.1 104 (60 * (q % 10) + q / 10)))) (pmT0 ++ LT) (uI v 104 (60 * (q % 10) + q / 10) c)) : EvP X (d + 2) MX12_set 0 [.ref 100, .int 0, .int (nI q), .int c, pmJ, pmJ] [] (pmT0 ++ LT) v P := by
  refine ev_aload_n 0 dX12_set_0 rfl (by decide) ?_
  refine ev_iload_n 1 dX12_set_1 rfl ?_
  refine ev_iconst 2 dX12_set_2 kI_0 ?_
  refine ev_iconst 3 dX12_set_3 kI_2 ?_
  refine cv_12_7_12 (pc := 4) rfl dX12_set_4 kd_100 (Nat.le_of_ble_eq_true rfl) ?_
  refine c_X12_in (fun h_4 => ?_) (fun h_4 => absurd (show (0 : Int32) ≤ 0 ∧ (0 : Int32) ≤ 2 by decide) h_4)
  refine ev_ifT 7 13 dX12_set_7 rfl (by decide) ?_
  refine ev_iload_n 13 dX12_set_13 rfl ?_
  refine ev_iconst 14 dX12_set_14 kI_2 ?_
  refine ev_icT 15 46 dX12_set_15 rfl (by decide) ?_
  refine ev_aload_n 46 dX12_set_46 rfl (by decide) ?_
  refine ev_iload_n 47 dX12_set_47 rfl ?_
  refine ev_iconst 48 dX12_set_48 kI_0 ?_
  refine ev_sipush 49 dX12_set_49 kS_591 ?_
  refine cv_12_7_12 (pc := 52) rfl dX12_set_52 kd_100 (Nat.le_of_ble_eq_true rfl) ?_
  refine c_X12_in (fun h_52 => ?_) (fun h_52 => absurd hb h_52)
  refine ev_ifF 55 77 dX12_set_55 rfl (by decide) ?_
  refine ev_iload_n 58 dX12_set_58 rfl ?_
  refine ev_bipush 59 dX12_set_59 kB_10 ?_
  refine ev_irem 61 dX12_set_61 (by decide) ?_
  refine ev_cst (y := nI (q % 10)) (pk_rem (a := q) (d := 10) (by omega) (by omega) (by omega)) ?_
  refine ev_iconst 62 dX12_set_62 kI_1 ?_
  refine ev_ic_gtN (a := (q % 10)) (b := 1) 63 77 dX12_set_63 rfl (by omega) (by omega) (fun c_63 => by omega) (fun c_63 => ?_)
  refine ev_aload_n 66 dX12_set_66 rfl (by decide) ?_
  refine ev_iload_n 67 dX12_set_67 rfl ?_
  refine ev_iconst 68 dX12_set_68 kI_0 ?_
  refine ev_bipush 69 dX12_set_69 kB_99 ?_
  refine cv_12_7_12 (pc := 71) rfl dX12_set_71 kd_100 (Nat.le_of_ble_eq_true rfl) ?_
  refine c_X12_in (fun h_71 => ?_) (fun h_71 => absurd hc h_71)
  refine ev_ifT 74 80 dX12_set_74 rfl (by decide) ?_
  refine ev_bipush 80 dX12_set_80 kB_60 ?_
  refine ev_iload_n 82 dX12_set_82 rfl ?_
  refine ev_bipush 83 dX12_set_83 kB_10 ?_
  refine ev_irem 85 dX12_set_85 (by decide) ?_
  refine ev_cst (y := nI (q % 10)) (pk_rem (a := q) (d := 10) (by omega) (by omega) (by omega)) ?_
  refine ev_imul 86 dX12_set_86 ?_
  refine ev_cst (y := nI (60 * (q % 10))) (nI_mulp 60 (q % 10)) ?_
  refine ev_iload_n 87 dX12_set_87 rfl ?_
  refine ev_bipush 88 dX12_set_88 kB_10 ?_
  refine ev_idiv 90 dX12_set_90 (by decide) ?_
  refine ev_cst (y := nI (q / 10)) (pk_div (a := q) (d := 10) (by omega) (by omega) (by omega)) ?_
  refine ev_iadd 91 dX12_set_91 ?_
  refine ev_cst (y := nI (60 * (q % 10) + (q / 10))) (nI_add (60 * (q % 10)) (q / 10)) ?_
  refine ev_istore (ls' := [.ref 100, .int 0, .int (nI q), .int c, .int (nI (60 * (q % 10) + (q / 10))), pmJ]) 92 dX12_set_92 (Nat.le_of_ble_eq_true rfl) rfl ?_
  refine ev_iload_n 94 dX12_set_94 rfl ?_
  refine ev_ifF 95 108 dX12_set_95 rfl (by decide) ?_
  refine ev_aload_n 98 dX12_set_98 rfl (by decide) ?_
  refine gf_12_31 (pc := 99) rfl dX12_set_99 kd_100 (rf_100_8 hX) ?_
  refine ev_iload 102 dX12_set_102 rfl ?_
  refine ev_ialdJ (x := v.1 104 (60 * (q % 10) + (q / 10))) (j := 60 * (q % 10) + (q / 10)) 104 dX12_set_104 (Nat.le_of_ble_eq_true rfl) ty_104 (pm_inI (by omega) (by omega)) (nI_clamp (by omega)) rfl ?_
  refine ev_goto 105 115 dX12_set_105 rfl ?_
  refine ev_istore (ls' := [.ref 100, .int 0, .int (nI q), .int c, .int (nI (60 * (q % 10) + (q / 10))), .int (v.1 104 (60 * (q % 10) + (q / 10)))]) 115 dX12_set_115 (Nat.le_of_ble_eq_true rfl) rfl ?_
  refine ev_iload_n 117 dX12_set_117 rfl ?_
  refine ev_ifF 118 132 dX12_set_118 rfl (by decide) ?_
  refine ev_aload_n 121 dX12_set_121 rfl (by decide) ?_
  refine gf_12_31 (pc := 122) rfl dX12_set_122 kd_100 (rf_100_8 hX) ?_
  refine ev_iload 125 dX12_set_125 rfl ?_
  refine ev_iload_n 127 dX12_set_127 rfl ?_
  refine ev_iastJ (j := 60 * (q % 10) + (q / 10)) 128 dX12_set_128 (Nat.le_of_ble_eq_true rfl) ty_104 (pm_inI (by omega) (by omega)) (nI_clamp (by omega)) ?_
  refine ev_goto 129 140 dX12_set_129 rfl ?_
  refine ev_iload 140 dX12_set_140 rfl ?_
  refine ev_ireturn 142 dX12_set_142 rfl rfl ?_
  exact k

theorem c_X12_set_bus {X : pmX} {d : Nat} {v : pmV} {P : Option Value → pmT → pmV → Prop} {LT : pmT} {c : Int32} {q : Nat} (hX : pmRf v) (hb : 0 ≤ nI q ∧ nI q ≤ 591) (hq : q ≤ 591) (hc : 0 ≤ c ∧ c ≤ 99) (hw : q % 10 ≤ 1) (k : P (some (.int (v.1 105 (60 * (q % 10) + q / 10)))) (pmT0 ++ LT) (uI v 105 (60 * (q % 10) + q / 10) c)) : EvP X (d + 2) MX12_set 0 [.ref 100, .int 1, .int (nI q), .int c, pmJ, pmJ] [] (pmT0 ++ LT) v P := by
  refine ev_aload_n 0 dX12_set_0 rfl (by decide) ?_
  refine ev_iload_n 1 dX12_set_1 rfl ?_
  refine ev_iconst 2 dX12_set_2 kI_0 ?_
  refine ev_iconst 3 dX12_set_3 kI_2 ?_
  refine cv_12_7_12 (pc := 4) rfl dX12_set_4 kd_100 (Nat.le_of_ble_eq_true rfl) ?_
  refine c_X12_in (fun h_4 => ?_) (fun h_4 => absurd (show (0 : Int32) ≤ 1 ∧ (1 : Int32) ≤ 2 by decide) h_4)
  refine ev_ifT 7 13 dX12_set_7 rfl (by decide) ?_
  refine ev_iload_n 13 dX12_set_13 rfl ?_
  refine ev_iconst 14 dX12_set_14 kI_2 ?_
  refine ev_icT 15 46 dX12_set_15 rfl (by decide) ?_
  refine ev_aload_n 46 dX12_set_46 rfl (by decide) ?_
  refine ev_iload_n 47 dX12_set_47 rfl ?_
  refine ev_iconst 48 dX12_set_48 kI_0 ?_
  refine ev_sipush 49 dX12_set_49 kS_591 ?_
  refine cv_12_7_12 (pc := 52) rfl dX12_set_52 kd_100 (Nat.le_of_ble_eq_true rfl) ?_
  refine c_X12_in (fun h_52 => ?_) (fun h_52 => absurd hb h_52)
  refine ev_ifF 55 77 dX12_set_55 rfl (by decide) ?_
  refine ev_iload_n 58 dX12_set_58 rfl ?_
  refine ev_bipush 59 dX12_set_59 kB_10 ?_
  refine ev_irem 61 dX12_set_61 (by decide) ?_
  refine ev_cst (y := nI (q % 10)) (pk_rem (a := q) (d := 10) (by omega) (by omega) (by omega)) ?_
  refine ev_iconst 62 dX12_set_62 kI_1 ?_
  refine ev_ic_gtN (a := (q % 10)) (b := 1) 63 77 dX12_set_63 rfl (by omega) (by omega) (fun c_63 => by omega) (fun c_63 => ?_)
  refine ev_aload_n 66 dX12_set_66 rfl (by decide) ?_
  refine ev_iload_n 67 dX12_set_67 rfl ?_
  refine ev_iconst 68 dX12_set_68 kI_0 ?_
  refine ev_bipush 69 dX12_set_69 kB_99 ?_
  refine cv_12_7_12 (pc := 71) rfl dX12_set_71 kd_100 (Nat.le_of_ble_eq_true rfl) ?_
  refine c_X12_in (fun h_71 => ?_) (fun h_71 => absurd hc h_71)
  refine ev_ifT 74 80 dX12_set_74 rfl (by decide) ?_
  refine ev_bipush 80 dX12_set_80 kB_60 ?_
  refine ev_iload_n 82 dX12_set_82 rfl ?_
  refine ev_bipush 83 dX12_set_83 kB_10 ?_
  refine ev_irem 85 dX12_set_85 (by decide) ?_
  refine ev_cst (y := nI (q % 10)) (pk_rem (a := q) (d := 10) (by omega) (by omega) (by omega)) ?_
  refine ev_imul 86 dX12_set_86 ?_
  refine ev_cst (y := nI (60 * (q % 10))) (nI_mulp 60 (q % 10)) ?_
  refine ev_iload_n 87 dX12_set_87 rfl ?_
  refine ev_bipush 88 dX12_set_88 kB_10 ?_
  refine ev_idiv 90 dX12_set_90 (by decide) ?_
  refine ev_cst (y := nI (q / 10)) (pk_div (a := q) (d := 10) (by omega) (by omega) (by omega)) ?_
  refine ev_iadd 91 dX12_set_91 ?_
  refine ev_cst (y := nI (60 * (q % 10) + (q / 10))) (nI_add (60 * (q % 10)) (q / 10)) ?_
  refine ev_istore (ls' := [.ref 100, .int 1, .int (nI q), .int c, .int (nI (60 * (q % 10) + (q / 10))), pmJ]) 92 dX12_set_92 (Nat.le_of_ble_eq_true rfl) rfl ?_
  refine ev_iload_n 94 dX12_set_94 rfl ?_
  refine ev_ifT 95 108 dX12_set_95 rfl (by decide) ?_
  refine ev_aload_n 108 dX12_set_108 rfl (by decide) ?_
  refine gf_12_34 (pc := 109) rfl dX12_set_109 kd_100 (rf_100_9 hX) ?_
  refine ev_iload 112 dX12_set_112 rfl ?_
  refine ev_ialdJ (x := v.1 105 (60 * (q % 10) + (q / 10))) (j := 60 * (q % 10) + (q / 10)) 114 dX12_set_114 (Nat.le_of_ble_eq_true rfl) ty_105 (pm_inI (by omega) (by omega)) (nI_clamp (by omega)) rfl ?_
  refine ev_istore (ls' := [.ref 100, .int 1, .int (nI q), .int c, .int (nI (60 * (q % 10) + (q / 10))), .int (v.1 105 (60 * (q % 10) + (q / 10)))]) 115 dX12_set_115 (Nat.le_of_ble_eq_true rfl) rfl ?_
  refine ev_iload_n 117 dX12_set_117 rfl ?_
  refine ev_ifT 118 132 dX12_set_118 rfl (by decide) ?_
  refine ev_aload_n 132 dX12_set_132 rfl (by decide) ?_
  refine gf_12_34 (pc := 133) rfl dX12_set_133 kd_100 (rf_100_9 hX) ?_
  refine ev_iload 136 dX12_set_136 rfl ?_
  refine ev_iload_n 138 dX12_set_138 rfl ?_
  refine ev_iastJ (j := 60 * (q % 10) + (q / 10)) 139 dX12_set_139 (Nat.le_of_ble_eq_true rfl) ty_105 (pm_inI (by omega) (by omega)) (nI_clamp (by omega)) ?_
  refine ev_iload 140 dX12_set_140 rfl ?_
  refine ev_ireturn 142 dX12_set_142 rfl rfl ?_
  exact k

theorem op_set {X : pmX} {d n tx z : Nat} {LT : pmT} {v : pmV} {a b c : Int32} (hC : Cpl n tx z LT v) : EvP X (d + 20) MX11_set 0 [.ref 32, .int a, .int b, .int c, pmJ, pmJ, pmJ, pmJ] [] (pmT0 ++ LT) v (Aft X (d + 20) MX12_set [.ref 100, .int a, .int b, .int c, pmJ, pmJ]) := by
  obtain ⟨hX, hL, hS, hR, hI, hT, hTa, hSh, hF⟩ := id hC
  by_cases h2 : a = 2
  · subst h2
    by_cases hc : 0 ≤ c ∧ c ≤ 9
    · refine c_X11_set_e2 (d := d + 18) hX hc ?_
      refine c_X12_set_e2 (d := d + 18) (hX.ag rfl) hc ?_
      refine ⟨?_, n, tx, z, LT, rfl, hC.of (E := sSet) ((Of.nil.i (by unfold sSet; omega)).i (by unfold sSet; omega)) (fun _ _ h => h) (hS.emp hc)⟩
      exact congrArg (fun w => some (Value.int w)) ((uI_off (by decide)).trans hS.2.2.1.1)
    · refine c_X11_set_e1 (d := d + 18) hc ?_
      refine c_X12_set_e1 (d := d + 18) hc ?_
      exact ⟨rfl, n, tx, z, LT, rfl, hC⟩
  · by_cases h1 : 0 ≤ a ∧ a ≤ 1
    · have h1' : 0 ≤ a ∧ a ≤ 2 := ⟨h1.1, Int32.le_trans h1.2 (by decide)⟩
      by_cases hb : 0 ≤ b ∧ b ≤ 599
      · obtain ⟨q, rfl, _, hq⟩ := nI_rng (a := 0) (b := 599) (by omega) (by omega) hb
        by_cases hw : q % 10 ≤ 1
        · have hq2 : q ≤ 591 := by omega
          have hb2 : 0 ≤ nI q ∧ nI q ≤ 591 := ⟨hb.1, nI_le (b := 591) hq2 (by omega)⟩
          by_cases hc : 0 ≤ c ∧ c ≤ 99
          · have hj : q % 10 * 60 + q / 10 = 60 * (q % 10) + q / 10 := by omega
            have ha : a = 0 ∨ a = 1 := by
              obtain ⟨u, rfl, _, hu⟩ := nI_rng (a := 0) (b := 1) (by omega) (by omega) h1
              have : u = 0 ∨ u = 1 := by omega
              rcases this with rfl | rfl
              · exact Or.inl rfl
              · exact Or.inr rfl
            rcases ha with rfl | rfl
            · refine c_X11_set_com (d := d + 18) hX hb hq hc hw ?_
              refine c_X12_set_com (d := d + 18) (hX.ag rfl) hb2 hq2 hc hw ?_
              rw [hj]
              refine ⟨congrArg (fun w => some (Value.int w)) ((uI_ne (by decide)).trans (hS.1 _ (by omega)).1), n, tx, z, LT, rfl, hC.of (E := sSet) ((Of.nil.i (by unfold sSet; omega)).i (by unfold sSet; omega)) (fun _ _ h => h) ?_⟩
              refine hS.com (q := fun j => j = 60 * (q % 10) + q / 10) (fun _ => c) (fun _ _ => hc) (fun j hj => ?_) (fun x j h1 h2 => by rw [uI_ne h2, uI_ne h1])
              by_cases e : j = 60 * (q % 10) + q / 10
              · subst e; exact Or.inr ⟨rfl, by rw [uI_ne (by decide), uI_on], by rw [uI_on]⟩
              · exact Or.inl ⟨by rw [uI_ne (by decide), uI_off (fun z => e z.2)], by rw [uI_off (fun z => e z.2), uI_ne (by decide)]⟩
            · refine c_X11_set_bus (d := d + 18) hX hb hq hc hw ?_
              refine c_X12_set_bus (d := d + 18) (hX.ag rfl) hb2 hq2 hc hw ?_
              rw [hj]
              exact ⟨congrArg (fun w => some (Value.int w)) ((uI_ne (by decide)).trans (hS.2.1 _ (by omega)).1), n, tx, z, LT, rfl, hC.of (E := sSet) ((Of.nil.i (by unfold sSet; omega)).i (by unfold sSet; omega)) (fun _ _ h => h) (hS.bus hc)⟩
          · refine c_X11_set_3 (d := d + 18) h2 h1 hb hc ?_
            refine c_X12_set_3 (d := d + 18) h2 h1' hb2 hq2 hc ?_
            exact ⟨rfl, n, tx, z, LT, rfl, hC⟩
        · have hbad : EvP X (d + 20) MX12_set 0 [.ref 100, .int a, .int (nI q), .int c, pmJ, pmJ] [] (pmT0 ++ LT) v (fun o2 T2 v2 => o2 = some (.int (-2)) ∧ ∃ (n t z : Nat) (LT : pmT), T2 = pmT0 ++ LT ∧ Cpl n t z LT v2) := by
            by_cases hb2 : 0 ≤ nI q ∧ nI q ≤ 591
            · refine c_X12_set_4 (d := d + 18) h2 h1' hb2 ((nI_leI (b := 591) (by omega) (by omega)).mp hb2.2) hw ?_
              exact ⟨rfl, n, tx, z, LT, rfl, hC⟩
            · refine c_X12_set_2 (d := d + 18) h2 h1' hb2 ?_
              exact ⟨rfl, n, tx, z, LT, rfl, hC⟩
          by_cases hc : 0 ≤ c ∧ c ≤ 99
          · exact c_X11_set_4 (d := d + 18) h2 h1 hb hq hc hw hbad
          · exact c_X11_set_3 (d := d + 18) h2 h1 hb hc hbad
      · refine c_X11_set_2 (d := d + 18) h2 h1 hb ?_
        refine c_X12_set_2 (d := d + 18) h2 h1' (fun z => hb ⟨z.1, Int32.le_trans z.2 (by decide)⟩) ?_
        exact ⟨rfl, n, tx, z, LT, rfl, hC⟩
    · refine c_X11_set_1 (d := d + 18) h2 h1 ?_
      refine c_X12_set_1 (d := d + 18) (fun z => by grind) ?_
      exact ⟨rfl, n, tx, z, LT, rfl, hC⟩
