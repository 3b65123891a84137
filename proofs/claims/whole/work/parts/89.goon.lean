/-! TEXTS: the reference's settle, opens, isWord, goOn -/
theorem c_X12_settle {X : pmX} {d : Nat} {v : pmV} {P : Option Value → pmT → pmV → Prop} {LT : pmT} {bs L op : Nat} {W cs : List Int32} (hX : pmRf v) (hL : 1 ≤ L ∧ L ≤ 7) (hM : MS bs W cs op v) (hop : op ≤ 100) (K : ∀ v', Of (mC bs) v v' → MS bs (stl L W cs op).1 (stl L W cs op).2.1 (stl L W cs op).2.2 v' → P none (pmT0 ++ LT) v') : EvP X (d + 1) MX12_settle 0 [.ref 100, .int (nI L), pmJ] [] (pmT0 ++ LT) v P := lp_settle hX hL W cs op v _ hM hop Of.nil K
theorem c_X12_opens_no {X : pmX} {d : Nat} {v : pmV} {P : Option Value → pmT → pmV → Prop} {LT : pmT} {bs : Nat} {s : Int32} {W cs : List Int32} (hX : pmRf v) (hM : MS bs W cs 5 v) (k : P (some (.int 0)) (pmT0 ++ LT) v) : EvP X (d + 1) MX12_opens 0 [.ref 100, .int s] [] (pmT0 ++ LT) v P := by
  refine ev_aload_n 0 dX12_opens_0 rfl (by decide) ?_
  refine gf_12_104 (x := nI 5) (pc := 1) rfl dX12_opens_1 kd_100 hM.1 ?_
  refine ev_iconst 4 dX12_opens_4 kI_5 ?_
  refine ev_ic_neN (a := 5) (b := 5) 5 10 dX12_opens_5 rfl (by omega) (by omega) (fun c_5 => by omega) (fun c_5 => ?_)
  refine ev_iconst 8 dX12_opens_8 kI_0 ?_
  refine ev_ireturn 9 dX12_opens_9 rfl rfl ?_
  exact k

theorem c_X12_opens {X : pmX} {d : Nat} {v : pmV} {P : Option Value → pmT → pmV → Prop} {LT : pmT} {bs op : Nat} {s : Int32} {W cs : List Int32} (hX : pmRf v) (hM : MS bs W cs op v) (h5 : op < 5) (hs : okS s ∨ s = 20) (hl : W.length + cs.length < 160) (K : ∀ v', Of (mC bs) v v' → MS bs (s :: W) cs (op + 1) v' → P (some (.int 1)) (pmT0 ++ LT) v') : EvP X (d + 1) MX12_opens 0 [.ref 100, .int s] [] (pmT0 ++ LT) v P := by
  have h7 := hM.2.2.2.2.2.2.1
  refine ev_aload_n 0 dX12_opens_0 rfl (by decide) ?_
  refine gf_12_104 (x := nI op) (pc := 1) rfl dX12_opens_1 kd_100 hM.1 ?_
  refine ev_iconst 4 dX12_opens_4 kI_5 ?_
  refine ev_ic_neN (a := op) (b := 5) 5 10 dX12_opens_5 rfl (by omega) (by omega) (fun c_5 => ?_) (fun c_5 => by omega)
  refine ev_aload_n 10 dX12_opens_10 rfl (by decide) ?_
  refine ev_dup 11 dX12_opens_11 rfl ?_
  refine gf_12_104 (x := nI op) (pc := 12) rfl dX12_opens_12 kd_100 hM.1 ?_
  refine ev_iconst 15 dX12_opens_15 kI_1 ?_
  refine ev_iadd 16 dX12_opens_16 ?_
  refine ev_cst (y := nI (op + 1)) (nI_add op 1) ?_
  refine pf_12_104 (pc := 17) rfl dX12_opens_17 kd_100 ?_
  refine ev_aload_n 20 dX12_opens_20 rfl (by decide) ?_
  refine ev_iload_n 21 dX12_opens_21 rfl ?_
  refine cv_12_244_12 (pc := 22) rfl dX12_opens_22 kd_100 (Nat.le_of_ble_eq_true rfl) ?_
  refine c_X12_pushSign (v := (uI v 100 17 (nI (op + 1)))) (hX.ag rfl) (hM.op (op' := op + 1) (by omega)) hs (by rw [cO]; split <;> omega) hl (fun v1 hO1 hM1 => ?_)
  refine ev_iconst 25 dX12_opens_25 kI_1 ?_
  refine ev_ireturn 26 dX12_opens_26 rfl rfl ?_
  exact K _ ((Of.nil.i (by unfold mC; omega)).tr hO1) hM1

theorem c_X12_isWord {X : pmX} {d : Nat} {v : pmV} {P : Option Value → pmT → pmV → Prop} {LT : pmT} {b : Int32} (kt : v.1 100 14 = 2 ∧ v.1 100 15 = b → P (some (.int 1)) (pmT0 ++ LT) v) (kf : ¬ (v.1 100 14 = 2 ∧ v.1 100 15 = b) → P (some (.int 0)) (pmT0 ++ LT) v) : EvP X d MX12_isWord 0 [.ref 100, .int b] [] (pmT0 ++ LT) v P := by
  refine ev_aload_n 0 dX12_isWord_0 rfl (by decide) ?_
  refine gf_12_95 (x := v.1 100 14) (pc := 1) rfl dX12_isWord_1 kd_100 rfl ?_
  refine ev_iconst 4 dX12_isWord_4 kI_2 ?_
  refine ev_ic_ne 5 20 dX12_isWord_5 rfl (fun c_5 => ?_) (fun c_5 => ?_)
  · refine ev_iconst 20 dX12_isWord_20 kI_0 ?_
    refine ev_ireturn 21 dX12_isWord_21 rfl rfl ?_
    first | exact kf (fun h => c_5 h.1) | exact kf (fun h => c_13 h.2)
  · refine ev_aload_n 8 dX12_isWord_8 rfl (by decide) ?_
    refine gf_12_98 (x := v.1 100 15) (pc := 9) rfl dX12_isWord_9 kd_100 rfl ?_
    refine ev_iload_n 12 dX12_isWord_12 rfl ?_
    refine ev_ic_ne 13 20 dX12_isWord_13 rfl (fun c_13 => ?_) (fun c_13 => ?_)
    · refine ev_iconst 20 dX12_isWord_20 kI_0 ?_
      refine ev_ireturn 21 dX12_isWord_21 rfl rfl ?_
      first | exact kf (fun h => c_5 h.1) | exact kf (fun h => c_13 h.2)
    · refine ev_iconst 16 dX12_isWord_16 kI_1 ?_
      refine ev_goto 17 21 dX12_isWord_17 rfl ?_
      refine ev_ireturn 21 dX12_isWord_21 rfl rfl ?_
      first | exact kt ⟨by simpa using c_5, by simpa using c_13⟩ | exact kt ⟨Decidable.not_not.mp c_5, Decidable.not_not.mp c_13⟩

theorem c_X12_goOn {X : pmX} {d : Nat} {v : pmV} {P : Option Value → pmT → pmV → Prop} {LT : pmT} {p : Nat} {B : Nat → Int32} {z : Nat} (hX : pmRf v) (hz160 : z ≤ 160) (hz : v.1 100 12 = nI z) (hB : ∀ j, j < z → v.1 106 j = B j) (h255 : ∀ j, j < z → 0 ≤ B j ∧ B j ≤ 255) (hL : LKP B z p v) (hp : p < z) (K : ∀ v', Of lkC v v' → LKP B z (sk B z (eT B z p)) v' → P none (pmT0 ++ LT) v') : EvP X (d + 3) MX12_goOn 0 [.ref 100] [] (pmT0 ++ LT) v P := by
  have e1 := @eT_lt B z p
  have e2 := eT_le (B := B) hp
  refine ev_aload_n 0 dX12_goOn_0 rfl (by decide) ?_
  refine ev_dup 1 dX12_goOn_1 rfl ?_
  refine gf_12_92 (x := nI p) (pc := 2) rfl dX12_goOn_2 kd_100 hL.1 ?_
  refine ev_aload_n 5 dX12_goOn_5 rfl (by decide) ?_
  refine gf_12_101 (x := nI (eT B z p - p)) (pc := 6) rfl dX12_goOn_6 kd_100 (hL.2.2.2 hp).1 ?_
  refine ev_iadd 9 dX12_goOn_9 ?_
  refine ev_cst (y := nI (p + (eT B z p - p))) (nI_add p (eT B z p - p)) ?_
  refine ev_cst (y := nI (eT B z p)) (congrArg nI (by omega)) ?_
  refine pf_12_92 (pc := 10) rfl dX12_goOn_10 kd_100 ?_
  refine ev_aload_n 13 dX12_goOn_13 rfl (by decide) ?_
  refine cv_12_226_12 (pc := 14) rfl dX12_goOn_14 kd_100 (Nat.le_of_ble_eq_true rfl) ?_
  refine c_X12_look (B := B) (v := (uI v 100 13 (nI (eT B z p)))) (hX.ag rfl) hz160 ((uI_off (by decide)).trans hz) (fun j hj => (uI_ne (by decide)).trans (hB j hj)) h255 (eT_le hp) uI_on (fun v1 hO1 hL1 => ?_)
  refine ev_return 17 dX12_goOn_17 rfl ?_
  exact K _ ((Of.nil.i ⟨rfl, by omega⟩).tr hO1) hL1

