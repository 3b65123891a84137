/-! TEXTS: the reference's top, put, pushSign, settle -/
theorem MS.op {bs op op' : Nat} {W cs : List Int32} {v : pmV} (h : MS bs W cs op v) (hc : cO W ≤ op') : MS bs W cs op' (uI v 100 17 (nI op')) := by
  obtain ⟨a1, a2, a3, a4, a5, a6, a7, a8, a9⟩ := h
  exact ⟨uI_on, (uI_off (by omega)).trans a2, (uI_off (by omega)).trans a3, fun i hi => (uI_ne (by decide)).trans (a4 i hi), fun i hi => by rw [uI_ne (by decide), uI_ne (by decide)]; exact a5 i hi, a6, hc, a8, a9⟩
theorem MS.pop {bs op : Nat} {s : Int32} {W cs : List Int32} {v : pmV} (h : MS bs (s :: W) cs op v) : MS bs W cs op (uI v 100 18 (nI W.length)) := by
  obtain ⟨a1, a2, a3, a4, a5, a6, a7, a8, a9⟩ := h
  refine ⟨(uI_off (by omega)).trans a1, uI_on, (uI_off (by omega)).trans a3, fun i hi => (uI_ne (by decide)).trans ((a4 i (by rw [List.length_cons]; omega)).trans ?_), fun i hi => by rw [uI_ne (by decide), uI_ne (by decide)]; exact a5 i hi, fun x hx => a6 x (List.mem_cons_of_mem _ hx), by rw [cO] at a7; omega, by rw [List.length_cons] at a8; omega, a9⟩
  simp only [List.reverse_cons, List.getD_eq_getElem?_getD]
  rw [List.getElem?_append_left (by rw [List.length_reverse]; exact hi)]
theorem MS.push {bs op : Nat} {s : Int32} {W cs : List Int32} {v : pmV} (h : MS bs W cs op v) (hs : okS s ∨ s = 20) (hc : cO (s :: W) ≤ op) (hl : W.length + cs.length < 160) : MS bs (s :: W) cs op (uI (uI v 110 W.length s) 100 18 (nI (W.length + 1))) := by
  obtain ⟨a1, a2, a3, a4, a5, a6, a7, a8, a9⟩ := h
  refine ⟨(uI_off (by omega)).trans ((uI_ne (by decide)).trans a1), uI_on, (uI_off (by omega)).trans ((uI_ne (by decide)).trans a3), fun i hi => ?_, fun i hi => by rw [uI_ne (by decide), uI_ne (by decide), uI_ne (by decide), uI_ne (by decide)]; exact a5 i hi, fun x hx => ?_, hc, by rw [List.length_cons]; omega, a9⟩
  · rw [List.length_cons] at hi
    rw [uI_ne (by decide)]
    simp only [List.reverse_cons, List.getD_eq_getElem?_getD]
    by_cases c : i = W.length
    · rw [c, uI_on, List.getElem?_append_right (by rw [List.length_reverse]; omega)]; simp
    · rw [uI_off (by omega), a4 i (by omega), List.getElem?_append_left (by rw [List.length_reverse]; omega)]
      simp only [List.getD_eq_getElem?_getD]
  · rcases List.mem_cons.mp hx with e | e
    · rw [e]; exact hs
    · exact a6 x e
theorem MS.put {bs op : Nat} {c s x : Int32} {W cs : List Int32} {v : pmV} (h : MS bs W cs op v) (hc : codeOk c s x) (hl : W.length + cs.length < 160) : MS bs W (cs ++ [c]) op (uI (uI (uI v 107 (bs + cs.length) s) 108 (bs + cs.length) x) 100 19 (nI (bs + cs.length + 1))) := by
  obtain ⟨a1, a2, a3, a4, a5, a6, a7, a8, a9⟩ := h
  refine ⟨(uI_off (by omega)).trans ((uI_ne (by decide)).trans ((uI_ne (by decide)).trans a1)), (uI_off (by omega)).trans ((uI_ne (by decide)).trans ((uI_ne (by decide)).trans a2)), ?_, fun i hi => (uI_ne (by decide)).trans ((uI_ne (by decide)).trans ((uI_ne (by decide)).trans (a4 i hi))), fun i hi => ?_, a6, a7, by rw [List.length_append, List.length_singleton]; omega, a9⟩
  · rw [uI_on, List.length_append, List.length_singleton, Nat.add_assoc]
  · rw [List.length_append, List.length_singleton] at hi
    have h7 : ∀ q y, (uI (uI (uI v 107 (bs + cs.length) s) 108 (bs + cs.length) x) 100 19 y).1 107 q = (uI v 107 (bs + cs.length) s).1 107 q := fun q y => (uI_ne (by decide)).trans (uI_ne (by decide))
    have h8 : ∀ q y, (uI (uI (uI v 107 (bs + cs.length) s) 108 (bs + cs.length) x) 100 19 y).1 108 q = (uI (uI v 107 (bs + cs.length) s) 108 (bs + cs.length) x).1 108 q := fun q y => uI_ne (by decide)
    rw [h7, h8]
    by_cases e : i = cs.length
    · rw [e, uI_on, uI_on]; simpa using hc
    · rw [uI_off (by omega), uI_off (by omega), uI_ne (by decide)]
      have := a5 i (by omega)
      simp only [List.getD_eq_getElem?_getD] at *
      rw [List.getElem?_append_left (by omega)]; exact this
theorem MS.top {bs op : Nat} {s : Int32} {W cs : List Int32} {v : pmV} (h : MS bs (s :: W) cs op v) : v.1 110 (W.length + 1 - 1) = s := (h.2.2.2.1 (W.length + 1 - 1) (by rw [List.length_cons]; omega)).trans (by simp)
def tpS (W : List Int32) : Int32 := match W with
  | [] => -1
  | s :: _ => s
theorem c_X12_top {X : pmX} {d : Nat} {v : pmV} {P : Option Value → pmT → pmV → Prop} {LT : pmT} {bs op : Nat} {W cs : List Int32} (hX : pmRf v) (hM : MS bs W cs op v) (k : P (some (.int (tpS W))) (pmT0 ++ LT) v) : EvP X d MX12_top 0 [.ref 100] [] (pmT0 ++ LT) v P := by
  cases W with
  | nil =>
    refine ev_aload_n 0 dX12_top_0 rfl (by decide) ?_
    refine gf_12_107 (x := nI 0) (pc := 1) rfl dX12_top_1 kd_100 hM.2.1 ?_
    refine ev_if_leN (a := 0) 4 21 dX12_top_4 rfl (by omega) (fun c_4 => ?_) (fun c_4 => by omega)
    refine ev_iconst 21 dX12_top_21 kI_m1 ?_
    refine ev_ireturn 22 dX12_top_22 rfl rfl ?_
    exact k
  | cons s W =>
    have h8 := hM.2.2.2.2.2.2.2.1
    rw [List.length_cons] at h8
    refine ev_aload_n 0 dX12_top_0 rfl (by decide) ?_
    refine gf_12_107 (x := nI (W.length + 1)) (pc := 1) rfl dX12_top_1 kd_100 hM.2.1 ?_
    refine ev_if_leN (a := (W.length + 1)) 4 21 dX12_top_4 rfl (by omega) (fun c_4 => by omega) (fun c_4 => ?_)
    refine ev_aload_n 7 dX12_top_7 rfl (by decide) ?_
    refine gf_12_125 (pc := 8) rfl dX12_top_8 kd_100 (rf_100_24 hX) ?_
    refine ev_aload_n 11 dX12_top_11 rfl (by decide) ?_
    refine gf_12_107 (x := nI (W.length + 1)) (pc := 12) rfl dX12_top_12 kd_100 hM.2.1 ?_
    refine ev_iconst 15 dX12_top_15 kI_1 ?_
    refine ev_isub 16 dX12_top_16 ?_
    refine ev_cst (y := nI (W.length + 1 - 1)) (pk_sub (a := (W.length + 1)) (b := 1) (by omega)) ?_
    refine ev_ialdJ (x := s) (j := W.length + 1 - 1) 17 dX12_top_17 (Nat.le_of_ble_eq_true rfl) ty_110 (pm_inI (by omega) (by omega)) (nI_clamp (by omega)) hM.top ?_
    refine ev_goto 18 22 dX12_top_18 rfl ?_
    refine ev_ireturn 22 dX12_top_22 rfl rfl ?_
    exact k
theorem c_X12_put {X : pmX} {d : Nat} {v : pmV} {P : Option Value → pmT → pmV → Prop} {LT : pmT} {bs op : Nat} {c s x : Int32} {W cs : List Int32} (hX : pmRf v) (hM : MS bs W cs op v) (hc : codeOk c s x) (hl : W.length + cs.length < 160) (K : ∀ v', Of (mC bs) v v' → MS bs W (cs ++ [c]) op v' → P none (pmT0 ++ LT) v') : EvP X d MX12_put 0 [.ref 100, .int s, .int x] [] (pmT0 ++ LT) v P := by
  have h9 := hM.2.2.2.2.2.2.2.2
  refine ev_aload_n 0 dX12_put_0 rfl (by decide) ?_
  refine gf_12_116 (pc := 1) rfl dX12_put_1 kd_100 (rf_100_21 hX) ?_
  refine ev_aload_n 4 dX12_put_4 rfl (by decide) ?_
  refine gf_12_110 (x := nI (bs + cs.length)) (pc := 5) rfl dX12_put_5 kd_100 hM.2.2.1 ?_
  refine ev_iload_n 8 dX12_put_8 rfl ?_
  refine ev_iastJ (j := bs + cs.length) 9 dX12_put_9 (Nat.le_of_ble_eq_true rfl) ty_107 (pm_inI (by omega) (by omega)) (nI_clamp (by omega)) ?_
  refine ev_aload_n 10 dX12_put_10 rfl (by decide) ?_
  refine gf_12_119 (pc := 11) rfl dX12_put_11 kd_100 (rf_100_22 hX) ?_
  refine ev_aload_n 14 dX12_put_14 rfl (by decide) ?_
  refine gf_12_110 (x := nI (bs + cs.length)) (pc := 15) rfl dX12_put_15 kd_100 ((uI_ne (by decide)).trans hM.2.2.1) ?_
  refine ev_iload_n 18 dX12_put_18 rfl ?_
  refine ev_iastJ (j := bs + cs.length) 19 dX12_put_19 (Nat.le_of_ble_eq_true rfl) ty_108 (pm_inI (by omega) (by omega)) (nI_clamp (by omega)) ?_
  refine ev_aload_n 20 dX12_put_20 rfl (by decide) ?_
  refine ev_dup 21 dX12_put_21 rfl ?_
  refine gf_12_110 (x := nI (bs + cs.length)) (pc := 22) rfl dX12_put_22 kd_100 ((uI_ne (by decide)).trans ((uI_ne (by decide)).trans hM.2.2.1)) ?_
  refine ev_iconst 25 dX12_put_25 kI_1 ?_
  refine ev_iadd 26 dX12_put_26 ?_
  refine ev_cst (y := nI (bs + cs.length + 1)) (nI_add (bs + cs.length) 1) ?_
  refine pf_12_110 (pc := 27) rfl dX12_put_27 kd_100 ?_
  refine ev_return 30 dX12_put_30 rfl ?_
  exact K _ (((Of.nil.i (by unfold mC; omega)).i (by unfold mC; omega)).i (by unfold mC; omega)) (hM.put hc hl)

theorem c_X12_pushSign {X : pmX} {d : Nat} {v : pmV} {P : Option Value → pmT → pmV → Prop} {LT : pmT} {bs op : Nat} {s : Int32} {W cs : List Int32} (hX : pmRf v) (hM : MS bs W cs op v) (hs : okS s ∨ s = 20) (hc : cO (s :: W) ≤ op) (hl : W.length + cs.length < 160) (K : ∀ v', Of (mC bs) v v' → MS bs (s :: W) cs op v' → P none (pmT0 ++ LT) v') : EvP X d MX12_pushSign 0 [.ref 100, .int s] [] (pmT0 ++ LT) v P := by
  refine ev_aload_n 0 dX12_pushSign_0 rfl (by decide) ?_
  refine gf_12_125 (pc := 1) rfl dX12_pushSign_1 kd_100 (rf_100_24 hX) ?_
  refine ev_aload_n 4 dX12_pushSign_4 rfl (by decide) ?_
  refine gf_12_107 (x := nI W.length) (pc := 5) rfl dX12_pushSign_5 kd_100 hM.2.1 ?_
  refine ev_iload_n 8 dX12_pushSign_8 rfl ?_
  refine ev_iastJ (j := W.length) 9 dX12_pushSign_9 (Nat.le_of_ble_eq_true rfl) ty_110 (pm_inI (by omega) (by omega)) (nI_clamp (by omega)) ?_
  refine ev_aload_n 10 dX12_pushSign_10 rfl (by decide) ?_
  refine ev_dup 11 dX12_pushSign_11 rfl ?_
  refine gf_12_107 (x := nI W.length) (pc := 12) rfl dX12_pushSign_12 kd_100 ((uI_ne (by decide)).trans hM.2.1) ?_
  refine ev_iconst 15 dX12_pushSign_15 kI_1 ?_
  refine ev_iadd 16 dX12_pushSign_16 ?_
  refine ev_cst (y := nI (W.length + 1)) (nI_add W.length 1) ?_
  refine pf_12_107 (pc := 17) rfl dX12_pushSign_17 kd_100 ?_
  refine ev_return 20 dX12_pushSign_20 rfl ?_
  exact K _ ((Of.nil.i (by unfold mC; omega)).i (by unfold mC; omega)) (hM.push hs hc hl)

