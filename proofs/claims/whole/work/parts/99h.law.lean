/-! THE LAW: its loop; from its entry -/
theorem lw_out : ∀ w, w < 32 → 22 < w → 22 < (nI w).toInt := by decide
theorem lp_law {L : Nat} {xs : Nat → Int32} {P : Option Value → pmT → pmV → Prop} (hL : L ≤ 384) (hP : ∀ n tx z LT v, Cpl n tx z LT v → P (some (.int 1)) (pmT0 ++ LT) v) : ∀ (k i n tx z : Nat) (LT : pmT) (v : pmV), L < i + 6 + 6 * k → i ≤ 384 → Cpl n tx z LT v → EvP (L, xs) 1400 ML_law 18 [.ref 31, .ref 32, .ref 100, .int (nI i)] [] (pmT0 ++ LT) v P
  | k, i, n, tx, z, LT, v, hk, hi, hC => by
    refine ev_iload_n 18 dL_law_18 rfl ?_
    refine ev_aload_n 19 dL_law_19 rfl (by decide) ?_
    refine ev_alenX (x := nI L) 20 dL_law_20 rfl ?_
    refine ev_bipush 21 dL_law_21 kB_6 ?_
    refine ev_isub 23 dL_law_23 ?_
    have hend : EvP (L, xs) 1400 ML_law 969 [.ref 31, .ref 32, .ref 100, .int (nI i)] [] (pmT0 ++ LT) v P := by
      refine ev_iconst 969 dL_law_969 kI_1 ?_
      refine ev_ireturn 970 dL_law_970 rfl rfl ?_
      exact hP n tx z LT v hC
    by_cases h6L : 6 ≤ L
    · refine ev_cst (y := nI (L - 6)) (pk_sub (a := L) (b := 6) (by omega)) ?_
      refine ev_ic_gtN (a := i) (b := L - 6) 24 969 dL_law_24 rfl (by omega) (by omega) (fun c_24 => hend) (fun c_24 => ?_)
      have h6 : i + 6 ≤ L := by omega
      cases k with
      | zero => omega
      | succ k =>
        have hnext : ∀ n tx z LT v, Cpl n tx z LT v → EvP (L, xs) 1400 ML_law 963 [.ref 31, .ref 32, .ref 100, .int (nI i)] [] (pmT0 ++ LT) v P := fun n tx z LT v hC => by
          refine ev_iinc (y := nI (i + 6)) (ls' := [.ref 31, .ref 32, .ref 100, .int (nI (i + 6))]) 963 dL_law_963 rfl (nI_add i 6) rfl ?_
          refine ev_goto 966 18 dL_law_966 rfl ?_
          exact lp_law hL hP k (i + 6) n tx z LT v (by omega) (by omega) hC
        refine ev_aload_n 27 dL_law_27 rfl (by decide) ?_
        refine ev_iload_n 28 dL_law_28 rfl ?_
        refine ev_ialdX (X := (L, xs)) (x := xs i) 29 dL_law_29 (pm_inI (by omega) (by omega)) (congrArg xs (nI_clamp (by omega))) ?_
        refine ev_bipush 30 dL_law_30 kB_31 ?_
        refine ev_iand 32 dL_law_32 ?_
        obtain ⟨w, hw, hx⟩ : ∃ w, w < 2 ^ 5 ∧ xs i &&& 31 = nI w := pk_andE (xs i) 5 (by decide +kernel)
        refine ev_cst (y := nI w) hx ?_
        have hw2 : w = 0 ∨ w = 1 ∨ w = 2 ∨ w = 3 ∨ w = 4 ∨ w = 5 ∨ w = 6 ∨ w = 7 ∨ w = 8 ∨ w = 9 ∨ w = 10 ∨ w = 11 ∨ w = 12 ∨ w = 13 ∨ w = 14 ∨ w = 15 ∨ w = 16 ∨ w = 17 ∨ w = 18 ∨ w = 19 ∨ w = 20 ∨ w = 21 ∨ w = 22 ∨ 22 < w := by omega
        rcases hw2 with rfl | rfl | rfl | rfl | rfl | rfl | rfl | rfl | rfl | rfl | rfl | rfl | rfl | rfl | rfl | rfl | rfl | rfl | rfl | rfl | rfl | rfl | rfl | hw2
        · exact ev_swIn 33 140 dL_law_33 (by decide) rfl rfl (lw_lane hL h6 hC hnext)
        · exact ev_swIn 33 183 dL_law_33 (by decide) rfl rfl (lw_set hL h6 hC hnext)
        · exact ev_swIn 33 226 dL_law_33 (by decide) rfl rfl (lw_come hL h6 hC hnext)
        · exact ev_swIn 33 259 dL_law_33 (by decide) rfl rfl (lw_stop hL h6 hC hnext)
        · exact ev_swIn 33 302 dL_law_33 (by decide) rfl rfl (lw_told hL h6 hC hnext)
        · exact ev_swIn 33 345 dL_law_33 (by decide) rfl rfl (lw_feed hL h6 hC hnext)
        · exact ev_swIn 33 408 dL_law_33 (by decide) rfl rfl (lw_text hL h6 hC hnext)
        · exact ev_swIn 33 421 dL_law_33 (by decide) rfl rfl (lw_force hL h6 hC hnext)
        · exact ev_swIn 33 444 dL_law_33 (by decide) rfl rfl (lw_waited hL h6 hC hnext)
        · exact ev_swIn 33 478 dL_law_33 (by decide) rfl rfl (lw_day hL h6 hC hnext)
        · exact ev_swIn 33 521 dL_law_33 (by decide) rfl rfl (lw_best hL h6 hC hnext)
        · exact ev_swIn 33 555 dL_law_33 (by decide) rfl rfl (lw_two hL h6 hC hnext)
        · exact ev_swIn 33 589 dL_law_33 (by decide) rfl rfl (lw_enough hL h6 hC hnext)
        · exact ev_swIn 33 622 dL_law_33 (by decide) rfl rfl (lw_worth hL h6 hC hnext)
        · exact ev_swIn 33 656 dL_law_33 (by decide) rfl rfl (lw_judge hL h6 hC hnext)
        · exact ev_swIn 33 679 dL_law_33 (by decide) rfl rfl (lw_image hL h6 hC hnext)
        · exact ev_swIn 33 692 dL_law_33 (by decide) rfl rfl (lw_back hL h6 hC hnext)
        · exact ev_swIn 33 705 dL_law_33 (by decide) rfl rfl (lw_count hL h6 hC hnext)
        · exact ev_swIn 33 728 dL_law_33 (by decide) rfl rfl (lw_sheet hL h6 hC hnext)
        · exact ev_swIn 33 771 dL_law_33 (by decide) rfl rfl (lw_cell hL h6 hC hnext)
        · exact ev_swIn 33 814 dL_law_33 (by decide) rfl rfl (lw_copy hL h6 hC hnext)
        · exact ev_swIn 33 877 dL_law_33 (by decide) rfl rfl (lw_lanes hL h6 hC hnext)
        · exact ev_swIn 33 930 dL_law_33 (by decide) rfl rfl (lw_taken hL h6 hC hnext)
        · exact ev_swOut 33 963 dL_law_33 (Or.inr (lw_out w hw hw2)) rfl (hnext n tx z LT v hC)
    · have hneg : nI L - 6 < 0 := by
        have : ∀ q, q < 6 → nI q - 6 < 0 := by decide
        exact this L (by omega)
      refine ev_ic_gt 24 969 dL_law_24 rfl (fun _ => hend) (fun c_24 => absurd (Int32.lt_of_lt_of_le hneg (nI_pos' (by omega))) c_24)
theorem IN.v0 : IN 32 pmV0 [] [] pmV0 := ⟨fun a j => by show (0 : Int32) = if 32 ≤ a then 0 else 0; split <;> rfl, fun a j => by show (0 : Int64) = if 32 ≤ a then 0 else 0; split <;> rfl, fun a j => by show (none : Option Nat) = if 32 ≤ a then none else none; split <;> rfl⟩
theorem law_ev {L : Nat} {xs : Nat → Int32} {P : Option Value → pmT → pmV → Prop} (hL : L ≤ 384) (hP : ∀ n tx z LT v, Cpl n tx z LT v → P (some (.int 1)) (pmT0 ++ LT) v) : EvP (L, xs) 1400 ML_law 0 (pmPad 4 (pmArgs [.ref 31])) [] [] pmV0 P := by
  show EvP (L, xs) 1400 ML_law 0 [.ref 31, pmJ, pmJ, pmJ] [] (pmT0.take 0) pmV0 P
  refine ev_new 0 dL_law_0 rfl (by decide) ?_
  refine iv_new (n := 0) (a := 32) IN.v0 (by decide +kernel) (by decide) (by decide +kernel) (by decide) (by decide) (fun v hI => ?_)
  refine ev_dup 3 dL_law_3 rfl ?_
  refine cp_40_9 (pc := 4) (ci := 11) rfl dL_law_4 (by decide +kernel) (Nat.le_of_ble_eq_true rfl) (by decide) ?_
  refine c_X11_init (d := 1339) hI (fun v1 hX => ?_)
  refine ev_astore_n (ls' := [.ref 31, .ref 32, pmJ, pmJ]) 7 dL_law_7 (Nat.le_of_ble_eq_true rfl) (by decide) rfl ?_
  refine ev_new 8 dL_law_8 rfl (by decide) ?_
  rw [show 32 + (pmT0.take 68).length = 100 by decide +kernel, show pmT0.take 68 ++ [(12, pmN 12)] = pmT0.take 69 by decide +kernel]
  refine ev_dup 11 dL_law_11 rfl ?_
  refine cp_40_12 (pc := 12) (ci := 12) rfl dL_law_12 (by decide +kernel) (Nat.le_of_ble_eq_true rfl) (by decide) ?_
  refine c_X12_init (d := 1394) hX.in0 (fun v2 hI2 => ?_)
  rw [show pmT0.take 92 = pmT0 ++ [] by decide +kernel]
  refine ev_astore_n (ls' := [.ref 31, .ref 32, .ref 100, pmJ]) 15 dL_law_15 (Nat.le_of_ble_eq_true rfl) (by decide) rfl ?_
  refine ev_iconst 16 dL_law_16 kI_0 ?_
  refine ev_istore_n (ls' := [.ref 31, .ref 32, .ref 100, .int 0]) 17 dL_law_17 (Nat.le_of_ble_eq_true rfl) rfl ?_
  exact lp_law hL hP 64 0 0 1 0 [] v2 (by omega) (by omega) (Cpl.start hX hI2)
theorem sz_3 : ∀ LT : pmT, (∀ q ∈ LT, q.2 = 3) → pmSz LT = 3 * LT.length
  | [], _ => rfl
  | q :: l, h => by
    have h1 := sz_3 l (fun r hr => h r (List.mem_cons_of_mem _ hr))
    have h2 := h q (List.mem_cons_self ..)
    unfold pmSz at h1 ⊢
    rw [List.map_cons, List.sum_cons, h1, h2, List.length_cons]; omega
theorem law_run (L : Nat) (xs : Nat → Int32) (hL : L ≤ 384) : ∃ (f : Nat) (T' : pmT) (v' : pmV), pmExec (L, xs) f 1400 ML_law 0 (pmPad 4 (pmArgs [.ref 31])) [] [] pmV0 = some (some (.int 1), T', v') ∧ T'.length ≤ 600000 ∧ pmSz T' ≤ 7302249 := by
  have h : EvP (L, xs) 1400 ML_law 0 (pmPad 4 (pmArgs [.ref 31])) [] [] pmV0 (fun o T' _ => o = some (.int 1) ∧ T'.length ≤ 600000 ∧ pmSz T' ≤ 7302249) := law_ev hL (fun n tx z LT v hC => by
    obtain ⟨_, ⟨hn, hlen, _, _, hl⟩, _⟩ := hC
    have h3 : ∀ q ∈ LT, q.2 = 3 := fun q hq => by
      obtain ⟨i, hi, e⟩ := List.mem_iff_getElem.mp hq
      have := (hl i (by omega)).2.1
      rw [List.getElem?_eq_getElem hi, e] at this
      injection this with this
      rw [this]
    have hz := sz_3 LT h3
    have hz0 : pmSz pmT0 ≤ 20000 := by decide +kernel
    have hl0 : pmT0.length = 92 := rfl
    refine ⟨rfl, by rw [List.length_append]; omega, ?_⟩
    have e : pmSz (pmT0 ++ LT) = pmSz pmT0 + pmSz LT := by unfold pmSz; rw [List.map_append, List.sum_append]
    rw [e]; omega)
  obtain ⟨f, o, T', v', h1, rfl, h2, h3⟩ := h
  exact ⟨f, T', v', h1, h2, h3⟩
