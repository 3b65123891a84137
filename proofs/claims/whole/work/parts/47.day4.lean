/-! the class's day: as it begins, the lanes, a day, its plan judged -/
def dF (s : dT) (q : Nat) (x : Int32) : dT := fun a b => if a = q then x else s a b
theorem dF_on {s : dT} {q j : Nat} {x : Int32} : dF s q x q j = x := if_pos rfl
theorem dF_ne {s : dT} {q a j : Nat} {x : Int32} (h : a ≠ q) : dF s q x a j = s a j := if_neg h
theorem DX.w0 {e : pmV} {n r : Nat} {s : dT} {p : Int64} {v v' : pmV} (h : DX e n r s p v) (hn : n ≤ 8) {x : Int32} (hw : Wr v v' 63 0 2 (fun _ => x)) : DX e n r (dF s 0 x) p v' := by
  obtain ⟨h1, h2, ⟨k1, k2, k3, k4⟩, h4, a0, a1, a2, a3, a4, ⟨b0, b1⟩, a7, ⟨c0, c1, c2, c3, cf⟩⟩ := h
  have l : v'.2 = v.2 := hw.1
  refine ⟨h1.ag (congrArg Prod.snd l), h2.w hw (fun j _ _ => by unfold DcX; omega), ⟨(hw.off (by omega)).trans k1, ?_, ?_, ?_⟩, ?_, fun i hi => (hw.on (by omega) (by omega)).trans dF_on.symm, fun i hi => (hw.off (by omega)).trans ((a1 i hi).trans (dF_ne (by decide)).symm), fun i hi => (hw.off (by omega)).trans ((a2 i hi).trans (dF_ne (by decide)).symm), fun i hi => (hw.off (by omega)).trans ((a3 i hi).trans (dF_ne (by decide)).symm), fun i hi => (hw.off (by omega)).trans ((a4 i hi).trans (dF_ne (by decide)).symm), ⟨(hw.off (by omega)).trans (b0.trans (dF_ne (by decide)).symm), (hw.off (by omega)).trans (b1.trans (dF_ne (by decide)).symm)⟩, fun i hi => (hw.off (by omega)).trans ((a7 i hi).trans (dF_ne (by decide)).symm), ⟨(hw.off (by omega)).trans (c0.trans (dF_ne (by decide)).symm), (hw.off (by omega)).trans (c1.trans (dF_ne (by decide)).symm), (hw.off (by omega)).trans (c2.trans (dF_ne (by decide)).symm), (hw.off (by omega)).trans (c3.trans (dF_ne (by decide)).symm), ?_⟩⟩
  · rw [l]; exact k2
  · rw [l]; exact k3
  · rw [l]; exact k4
  · rw [l]; exact h4
  · rw [l]; exact cf
theorem DX.w1 {e : pmV} {n r : Nat} {s : dT} {p : Int64} {v v' : pmV} (h : DX e n r s p v) (hn : n ≤ 8) {x : Int32} (hw : Wr v v' 64 0 2 (fun _ => x)) : DX e n r (dF s 1 x) p v' := by
  obtain ⟨h1, h2, ⟨k1, k2, k3, k4⟩, h4, a0, a1, a2, a3, a4, ⟨b0, b1⟩, a7, ⟨c0, c1, c2, c3, cf⟩⟩ := h
  have l : v'.2 = v.2 := hw.1
  refine ⟨h1.ag (congrArg Prod.snd l), h2.w hw (fun j _ _ => by unfold DcX; omega), ⟨(hw.off (by omega)).trans k1, ?_, ?_, ?_⟩, ?_, fun i hi => (hw.off (by omega)).trans ((a0 i hi).trans (dF_ne (by decide)).symm), fun i hi => (hw.on (by omega) (by omega)).trans dF_on.symm, fun i hi => (hw.off (by omega)).trans ((a2 i hi).trans (dF_ne (by decide)).symm), fun i hi => (hw.off (by omega)).trans ((a3 i hi).trans (dF_ne (by decide)).symm), fun i hi => (hw.off (by omega)).trans ((a4 i hi).trans (dF_ne (by decide)).symm), ⟨(hw.off (by omega)).trans (b0.trans (dF_ne (by decide)).symm), (hw.off (by omega)).trans (b1.trans (dF_ne (by decide)).symm)⟩, fun i hi => (hw.off (by omega)).trans ((a7 i hi).trans (dF_ne (by decide)).symm), ⟨(hw.off (by omega)).trans (c0.trans (dF_ne (by decide)).symm), (hw.off (by omega)).trans (c1.trans (dF_ne (by decide)).symm), (hw.off (by omega)).trans (c2.trans (dF_ne (by decide)).symm), (hw.off (by omega)).trans (c3.trans (dF_ne (by decide)).symm), ?_⟩⟩
  · rw [l]; exact k2
  · rw [l]; exact k3
  · rw [l]; exact k4
  · rw [l]; exact h4
  · rw [l]; exact cf
theorem DX.w2 {e : pmV} {n r : Nat} {s : dT} {p : Int64} {v v' : pmV} (h : DX e n r s p v) (hn : n ≤ 8) {x : Int32} (hw : Wr v v' 65 0 2 (fun _ => x)) : DX e n r (dF s 2 x) p v' := by
  obtain ⟨h1, h2, ⟨k1, k2, k3, k4⟩, h4, a0, a1, a2, a3, a4, ⟨b0, b1⟩, a7, ⟨c0, c1, c2, c3, cf⟩⟩ := h
  have l : v'.2 = v.2 := hw.1
  refine ⟨h1.ag (congrArg Prod.snd l), h2.w hw (fun j _ _ => by unfold DcX; omega), ⟨(hw.off (by omega)).trans k1, ?_, ?_, ?_⟩, ?_, fun i hi => (hw.off (by omega)).trans ((a0 i hi).trans (dF_ne (by decide)).symm), fun i hi => (hw.off (by omega)).trans ((a1 i hi).trans (dF_ne (by decide)).symm), fun i hi => (hw.on (by omega) (by omega)).trans dF_on.symm, fun i hi => (hw.off (by omega)).trans ((a3 i hi).trans (dF_ne (by decide)).symm), fun i hi => (hw.off (by omega)).trans ((a4 i hi).trans (dF_ne (by decide)).symm), ⟨(hw.off (by omega)).trans (b0.trans (dF_ne (by decide)).symm), (hw.off (by omega)).trans (b1.trans (dF_ne (by decide)).symm)⟩, fun i hi => (hw.off (by omega)).trans ((a7 i hi).trans (dF_ne (by decide)).symm), ⟨(hw.off (by omega)).trans (c0.trans (dF_ne (by decide)).symm), (hw.off (by omega)).trans (c1.trans (dF_ne (by decide)).symm), (hw.off (by omega)).trans (c2.trans (dF_ne (by decide)).symm), (hw.off (by omega)).trans (c3.trans (dF_ne (by decide)).symm), ?_⟩⟩
  · rw [l]; exact k2
  · rw [l]; exact k3
  · rw [l]; exact k4
  · rw [l]; exact h4
  · rw [l]; exact cf
theorem DX.w4 {e : pmV} {n r : Nat} {s : dT} {p : Int64} {v v' : pmV} (h : DX e n r s p v) (hn : n ≤ 8) {x : Int32} (hw : Wr v v' 62 0 8 (fun _ => x)) : DX e n r (dF s 4 x) p v' := by
  obtain ⟨h1, h2, ⟨k1, k2, k3, k4⟩, h4, a0, a1, a2, a3, a4, ⟨b0, b1⟩, a7, ⟨c0, c1, c2, c3, cf⟩⟩ := h
  have l : v'.2 = v.2 := hw.1
  refine ⟨h1.ag (congrArg Prod.snd l), h2.w hw (fun j _ _ => by unfold DcX; omega), ⟨(hw.off (by omega)).trans k1, ?_, ?_, ?_⟩, ?_, fun i hi => (hw.off (by omega)).trans ((a0 i hi).trans (dF_ne (by decide)).symm), fun i hi => (hw.off (by omega)).trans ((a1 i hi).trans (dF_ne (by decide)).symm), fun i hi => (hw.off (by omega)).trans ((a2 i hi).trans (dF_ne (by decide)).symm), fun i hi => (hw.off (by omega)).trans ((a3 i hi).trans (dF_ne (by decide)).symm), fun i hi => (hw.on (by omega) (by omega)).trans dF_on.symm, ⟨(hw.off (by omega)).trans (b0.trans (dF_ne (by decide)).symm), (hw.off (by omega)).trans (b1.trans (dF_ne (by decide)).symm)⟩, fun i hi => (hw.off (by omega)).trans ((a7 i hi).trans (dF_ne (by decide)).symm), ⟨(hw.off (by omega)).trans (c0.trans (dF_ne (by decide)).symm), (hw.off (by omega)).trans (c1.trans (dF_ne (by decide)).symm), (hw.off (by omega)).trans (c2.trans (dF_ne (by decide)).symm), (hw.off (by omega)).trans (c3.trans (dF_ne (by decide)).symm), ?_⟩⟩
  · rw [l]; exact k2
  · rw [l]; exact k3
  · rw [l]; exact k4
  · rw [l]; exact h4
  · rw [l]; exact cf
theorem DX.w7 {e : pmV} {n r : Nat} {s : dT} {p : Int64} {v v' : pmV} (h : DX e n r s p v) (hn : n ≤ 8) {x : Int32} (hw : Wr v v' 60 0 60 (fun _ => x)) : DX e n r (dF s 7 x) p v' := by
  obtain ⟨h1, h2, ⟨k1, k2, k3, k4⟩, h4, a0, a1, a2, a3, a4, ⟨b0, b1⟩, a7, ⟨c0, c1, c2, c3, cf⟩⟩ := h
  have l : v'.2 = v.2 := hw.1
  refine ⟨h1.ag (congrArg Prod.snd l), h2.w hw (fun j _ _ => by unfold DcX; omega), ⟨(hw.off (by omega)).trans k1, ?_, ?_, ?_⟩, ?_, fun i hi => (hw.off (by omega)).trans ((a0 i hi).trans (dF_ne (by decide)).symm), fun i hi => (hw.off (by omega)).trans ((a1 i hi).trans (dF_ne (by decide)).symm), fun i hi => (hw.off (by omega)).trans ((a2 i hi).trans (dF_ne (by decide)).symm), fun i hi => (hw.off (by omega)).trans ((a3 i hi).trans (dF_ne (by decide)).symm), fun i hi => (hw.off (by omega)).trans ((a4 i hi).trans (dF_ne (by decide)).symm), ⟨(hw.off (by omega)).trans (b0.trans (dF_ne (by decide)).symm), (hw.off (by omega)).trans (b1.trans (dF_ne (by decide)).symm)⟩, fun i hi => (hw.on (by omega) (by omega)).trans dF_on.symm, ⟨(hw.off (by omega)).trans (c0.trans (dF_ne (by decide)).symm), (hw.off (by omega)).trans (c1.trans (dF_ne (by decide)).symm), (hw.off (by omega)).trans (c2.trans (dF_ne (by decide)).symm), (hw.off (by omega)).trans (c3.trans (dF_ne (by decide)).symm), ?_⟩⟩
  · rw [l]; exact k2
  · rw [l]; exact k3
  · rw [l]; exact k4
  · rw [l]; exact h4
  · rw [l]; exact cf
theorem DX.cg {e : pmV} {n r : Nat} {s s' : dT} {p : Int64} {v : pmV} (h : DX e n r s p v) (e0 : ∀ j, j < 2 → s 0 j = s' 0 j) (e1 : ∀ j, j < 2 → s 1 j = s' 1 j) (e2 : ∀ j, j < 2 → s 2 j = s' 2 j) (e3 : ∀ j, j < n → s 3 j = s' 3 j) (e4 : ∀ j, j < n → s 4 j = s' 4 j) (e5 : ∀ j, j < 2 → s 5 j = s' 5 j) (e7 : ∀ j, j < 60 → s 7 j = s' 7 j) (e8 : ∀ j, j < 4 → s 8 j = s' 8 j) : DX e n r s' p v := by
  obtain ⟨h1, h2, ⟨k1, k2, k3, k4⟩, h4, a0, a1, a2, a3, a4, ⟨b0, b1⟩, a7, ⟨c0, c1, c2, c3, cf⟩⟩ := h
  exact ⟨h1, h2, ⟨k1, k2, k3, k4⟩, h4, fun i hi => (a0 i hi).trans (e0 i hi), fun i hi => (a1 i hi).trans (e1 i hi), fun i hi => (a2 i hi).trans (e2 i hi), fun i hi => (a3 i hi).trans (e3 i hi), fun i hi => (a4 i hi).trans (e4 i hi), ⟨b0.trans (e5 0 (by decide)), b1.trans (e5 1 (by decide))⟩, fun i hi => (a7 i hi).trans (e7 i hi), ⟨c0.trans (e8 0 (by decide)), c1.trans (e8 1 (by decide)), c2.trans (e8 2 (by decide)), c3.trans (e8 3 (by decide)), cf⟩⟩
theorem c_X1_carryAll {X : pmX} {d : Nat} {v : pmV} {P : Option Value → pmT → pmV → Prop} {LT : pmT} {e : pmV} {n tx z r : Nat} {s : dT} {p : Int64} {m : Nat} (hC : Cpl n tx z LT e) (hD : DX e n r s p v) (hW : wOk n s) (k : ∀ v', DX e n r (pCarry e (nI m) n 0 (pBgn s)) p v' → P none (pmT0 ++ LT) v') : EvP X (d + 9) MX1_carryAll 0 [.ref 51, .int (nI m), pmJ, pmJ, pmJ, pmJ] [] (pmT0 ++ LT) v P := by
  refine ev_aload_n 0 dX1_carryAll_0 rfl (by decide) ?_
  refine gf_1_41 (pc := 1) rfl dX1_carryAll_1 kd_51 (rf_51_11 hD.1) ?_
  refine ev_iconst 4 dX1_carryAll_4 kI_0 ?_
  refine ev_ialdJ (x := s 0 0) (j := 0) 5 dX1_carryAll_5 (Nat.le_of_ble_eq_true rfl) ty_63 (by decide) rfl (hD.r0 (by omega)) ?_
  refine ev_istore_n (ls' := [.ref 51, .int (nI m), .int (s 0 0), pmJ, pmJ, pmJ]) 6 dX1_carryAll_6 (Nat.le_of_ble_eq_true rfl) rfl ?_
  refine ev_aload_n 7 dX1_carryAll_7 rfl (by decide) ?_
  refine gf_1_41 (pc := 8) rfl dX1_carryAll_8 kd_51 (rf_51_11 hD.1) ?_
  refine ev_iconst 11 dX1_carryAll_11 kI_1 ?_
  refine ev_ialdJ (x := s 0 1) (j := 1) 12 dX1_carryAll_12 (Nat.le_of_ble_eq_true rfl) ty_63 (by decide) rfl (hD.r0 (by omega)) ?_
  refine ev_istore_n (ls' := [.ref 51, .int (nI m), .int (s 0 0), .int (s 0 1), pmJ, pmJ]) 13 dX1_carryAll_13 (Nat.le_of_ble_eq_true rfl) rfl ?_
  refine ev_iconst 14 dX1_carryAll_14 kI_0 ?_
  refine ev_istore (ls' := [.ref 51, .int (nI m), .int (s 0 0), .int (s 0 1), .int 0, pmJ]) 15 dX1_carryAll_15 (Nat.le_of_ble_eq_true rfl) rfl ?_
  exact lp_carry hC n 0 (pBgn s) pmJ v (by omega) ((hD.ghost 0 _ rfl).ghost 1 _ rfl) (hW.cg fun _ => pBgn_q (by decide)) (by unfold pBgn; rw [dU_off (by decide), dU_on]) (by unfold pBgn; rw [dU_on]) k

def pBg (e : pmV) (s : dT) (i : Nat) : dT := fun q j => if q = 2 then pCnt e (nI j) i else if q = 3 then (if j < i then e.1 (124 + j) 2 else s 3 j) else if q = 0 then 0 else if q = 1 then 0 else if q = 4 then 0 else s q j
theorem pCnt_s {e : pmV} {i u j : Nat} (h : e.1 (124 + i) 2 = nI u) (hu : u < 2) (hj : j < 2) : pCnt e (nI j) (i + 1) = if j = u then pCnt e (nI u) i + 1 else pCnt e (nI j) i := by
  rw [pCnt, h]
  by_cases q : j = u
  · subst q; rw [if_pos rfl, if_pos rfl]
  · rw [if_neg q, if_neg (fun z => q ((nI_eq (by omega) (by omega)).mp z).symm)]; grind
theorem way_of {e : pmV} {n : Nat} {LT : pmT} (hL : cLan n LT e) {i : Nat} (hi : i < n) : ∃ u, u < 2 ∧ e.1 (124 + i) 2 = nI u := by
  obtain ⟨u, h, _, hu⟩ := nI_rng (a := 0) (b := 1) (by omega) (by omega) (hL.2.2.2.2 i hi).2.2.2.2.2.2.2
  exact ⟨u, by omega, h⟩
theorem lp_beg {X : pmX} {d : Nat} {P : Option Value → pmT → pmV → Prop} {LT : pmT} {e : pmV} {n tx z r : Nat} {s : dT} {p : Int64} (hC : Cpl n tx z LT e) : ∀ (k : Nat) (i : Nat) (v : pmV), i + k = n → DX e n r (pBg e s i) p v → (∀ v', DX e n r (pBg e s n) p v' → EvP X (d + 1) MX1_begin 78 [.ref 51, .int (nI n)] [] (pmT0 ++ LT) v' P) → EvP X (d + 1) MX1_begin 34 [.ref 51, .int (nI i)] [] (pmT0 ++ LT) v P := by
  intro k
  induction k with
  | zero =>
    intro i v hi hD K
    have hi2 : n = i := by omega
    subst hi2
    have hn8 := hC.2.1.1
    refine ev_iload_n 34 dX1_begin_34 rfl ?_
    refine ev_aload_n 35 dX1_begin_35 rfl (by decide) ?_
    refine gf_1_61 (x := nI n) (pc := 36) rfl dX1_begin_36 kd_51 hD.rn ?_
    refine ev_ic_geN (a := n) (b := n) 39 78 dX1_begin_39 rfl (by omega) (by omega) (fun c_39 => ?_) (fun c_39 => by omega)
    exact K v hD
  | succ k ih =>
    intro i v hi hD K
    have hn8 := hC.2.1.1
    obtain ⟨u, hu, hsu⟩ := way_of hC.2.1 (i := i) (by omega)
    refine ev_iload_n 34 dX1_begin_34 rfl ?_
    refine ev_aload_n 35 dX1_begin_35 rfl (by decide) ?_
    refine gf_1_61 (x := nI n) (pc := 36) rfl dX1_begin_36 kd_51 hD.rn ?_
    refine ev_ic_geN (a := i) (b := n) 39 78 dX1_begin_39 rfl (by omega) (by omega) (fun c_39 => by omega) (fun c_39 => ?_)
    refine ev_aload_n 42 dX1_begin_42 rfl (by decide) ?_
    refine gf_1_35 (pc := 43) rfl dX1_begin_43 kd_51 (rf_51_9 hD.1) ?_
    refine ev_iload_n 46 dX1_begin_46 rfl ?_
    refine ev_aload_n 47 dX1_begin_47 rfl (by decide) ?_
    refine gf_1_11 (pc := 48) rfl dX1_begin_48 kd_51 hD.f0 ?_
    refine ev_iload_n 51 dX1_begin_51 rfl ?_
    refine ev_aaldJ (x := 124 + i) (j := i) 52 dX1_begin_52 (Nat.le_of_ble_eq_true rfl) ty_33 (by decide) (pm_inI (by omega) (by omega)) (nI_clamp (by omega)) ((hD.fd.2 33 _ (by omega)).trans (hC.2.1.2.2.2.2 i (by omega)).1) ?_
    refine gl_1_126 (pc := 53) rfl dX1_begin_53 (kd_lane hC.2.1 (by omega)) kcl_mem ?_
    refine ev_cst (y := nI u) ((hD.c (by unfold DcX; omega)).trans hsu) ?_
    refine ev_iastJ (j := i) 56 dX1_begin_56 (Nat.le_of_ble_eq_true rfl) ty_61 (pm_inI (by omega) (by omega)) (nI_clamp (by omega)) ?_
    refine ev_abs (Q := DX e n r (dU (pBg e s i) 3 i (nI u)) p) (hD.u3 i (nI u)) (fun v1 hD => ?_)
    refine ev_aload_n 57 dX1_begin_57 rfl (by decide) ?_
    refine gf_1_47 (pc := 58) rfl dX1_begin_58 kd_51 (rf_51_13 hD.1) ?_
    refine ev_aload_n 61 dX1_begin_61 rfl (by decide) ?_
    refine gf_1_35 (pc := 62) rfl dX1_begin_62 kd_51 (rf_51_9 hD.1) ?_
    refine ev_iload_n 65 dX1_begin_65 rfl ?_
    refine ev_ialdJ (x := nI u) (j := i) 66 dX1_begin_66 (Nat.le_of_ble_eq_true rfl) ty_61 (pm_inI (by omega) (by omega)) (nI_clamp (by omega)) ((hD.r3 (by omega)).trans dU_on) ?_
    refine ev_dup2 67 dX1_begin_67 rfl rfl ?_
    refine ev_ialdJ (x := (pBg e s i) 2 u) (j := u) 68 dX1_begin_68 (Nat.le_of_ble_eq_true rfl) ty_65 (pm_inI (by omega) (by omega)) (nI_clamp (by omega)) ((hD.r2 (by omega)).trans (dU_ne (by decide))) ?_
    refine ev_iconst 69 dX1_begin_69 kI_1 ?_
    refine ev_iadd 70 dX1_begin_70 ?_
    refine ev_iastJ (j := u) 71 dX1_begin_71 (Nat.le_of_ble_eq_true rfl) ty_65 (pm_inI (by omega) (by omega)) (nI_clamp (by omega)) ?_
    refine ev_abs (Q := DX e n r (dU (dU (pBg e s i) 3 i (nI u)) 2 u (((pBg e s i) 2 u) + 1)) p) (hD.u2 u (((pBg e s i) 2 u) + 1)) (fun v2 hD => ?_)
    refine ev_iinc (y := nI (i + 1)) (ls' := [.ref 51, .int (nI (i + 1))]) 72 dX1_begin_72 rfl (nI_add i 1) rfl ?_
    refine ev_goto 75 34 dX1_begin_75 rfl ?_
    refine ih (i + 1) _ (by omega) (hD.cg ?_ ?_ ?_ ?_ ?_ ?_ ?_ ?_) K
    · intro j hj; rw [dU_ne (by decide), dU_ne (by decide)]; rfl
    · intro j hj; rw [dU_ne (by decide), dU_ne (by decide)]; rfl
    · intro j hj; show _ = pCnt e (nI j) (i + 1); rw [pCnt_s hsu hu hj]
      by_cases q : j = u
      · subst q; rw [dU_on, if_pos rfl]; rfl
      · rw [dU_off (fun z => q z.2), dU_ne (by decide), if_neg q]; rfl
    · intro j hj; rw [dU_ne (by decide)]; show _ = (if j < i + 1 then e.1 (124 + j) 2 else s 3 j)
      by_cases q : j = i
      · subst q; rw [dU_on, if_pos (by omega), hsu]
      · rw [dU_off (fun z => q z.2)]; show (if j < i then _ else _) = _; by_cases q2 : j < i
        · rw [if_pos q2, if_pos (by omega)]
        · rw [if_neg q2, if_neg (by omega)]
    · intro j hj; rw [dU_ne (by decide), dU_ne (by decide)]; rfl
    · intro j hj; rw [dU_ne (by decide), dU_ne (by decide)]; rfl
    · intro j hj; rw [dU_ne (by decide), dU_ne (by decide)]; rfl
    · intro j hj; rw [dU_ne (by decide), dU_ne (by decide)]; rfl

theorem c_X1_begin {X : pmX} {d : Nat} {v : pmV} {P : Option Value → pmT → pmV → Prop} {LT : pmT} {e : pmV} {n tx z r : Nat} {s : dT} {p : Int64} (hC : Cpl n tx z LT e) (hD : DX e n r s p v) (k : ∀ v', DX e n r (pBeg e n s) 0 v' → P none (pmT0 ++ LT) v') : EvP X (d + 1) MX1_begin 0 [.ref 51, pmJ] [] (pmT0 ++ LT) v P := by
  have hn8 := hC.2.1.1
  refine ev_aload_n 0 dX1_begin_0 rfl (by decide) ?_
  refine gf_1_38 (pc := 1) rfl dX1_begin_1 kd_51 (rf_51_10 hD.1) ?_
  refine ev_iconst 4 dX1_begin_4 kI_0 ?_
  refine cs_1_65 (pc := 5) rfl dX1_begin_5 (Nat.le_of_ble_eq_true rfl) ?_
  refine c_J7_fill (n := 8) (Nat.le_of_ble_eq_true rfl) ty_62 (by omega) (fun v1 hw => ?_)
  replace hD := hD.w4 hn8 hw
  refine ev_aload_n 8 dX1_begin_8 rfl (by decide) ?_
  refine gf_1_41 (pc := 9) rfl dX1_begin_9 kd_51 (rf_51_11 hD.1) ?_
  refine ev_iconst 12 dX1_begin_12 kI_0 ?_
  refine cs_1_65 (pc := 13) rfl dX1_begin_13 (Nat.le_of_ble_eq_true rfl) ?_
  refine c_J7_fill (n := 2) (Nat.le_of_ble_eq_true rfl) ty_63 (by omega) (fun v2 hw => ?_)
  replace hD := hD.w0 hn8 hw
  refine ev_aload_n 16 dX1_begin_16 rfl (by decide) ?_
  refine gf_1_44 (pc := 17) rfl dX1_begin_17 kd_51 (rf_51_12 hD.1) ?_
  refine ev_iconst 20 dX1_begin_20 kI_0 ?_
  refine cs_1_65 (pc := 21) rfl dX1_begin_21 (Nat.le_of_ble_eq_true rfl) ?_
  refine c_J7_fill (n := 2) (Nat.le_of_ble_eq_true rfl) ty_64 (by omega) (fun v3 hw => ?_)
  replace hD := hD.w1 hn8 hw
  refine ev_aload_n 24 dX1_begin_24 rfl (by decide) ?_
  refine gf_1_47 (pc := 25) rfl dX1_begin_25 kd_51 (rf_51_13 hD.1) ?_
  refine ev_iconst 28 dX1_begin_28 kI_0 ?_
  refine cs_1_65 (pc := 29) rfl dX1_begin_29 (Nat.le_of_ble_eq_true rfl) ?_
  refine c_J7_fill (n := 2) (Nat.le_of_ble_eq_true rfl) ty_65 (by omega) (fun v4 hw => ?_)
  replace hD := hD.w2 hn8 hw
  refine ev_iconst 32 dX1_begin_32 kI_0 ?_
  refine ev_istore_n (ls' := [.ref 51, .int 0]) 33 dX1_begin_33 (Nat.le_of_ble_eq_true rfl) rfl ?_
  refine lp_beg (s := s) hC n 0 _ (by omega) (hD.cg ?_ ?_ ?_ ?_ ?_ ?_ ?_ ?_) (fun vb hD => ?_)
  · intro j _; rw [dF_ne (by decide), dF_ne (by decide), dF_on]; rfl
  · intro j _; rw [dF_ne (by decide), dF_on]; rfl
  · intro j _; rw [dF_on]; rfl
  · intro j _; rw [dF_ne (by decide), dF_ne (by decide), dF_ne (by decide), dF_ne (by decide)]; show s 3 j = (if j < 0 then e.1 (124 + j) 2 else s 3 j); rw [if_neg (by omega)]
  · intro j _; rw [dF_ne (by decide), dF_ne (by decide), dF_ne (by decide), dF_on]; rfl
  · intro j _; rw [dF_ne (by decide), dF_ne (by decide), dF_ne (by decide), dF_ne (by decide)]; rfl
  · intro j _; rw [dF_ne (by decide), dF_ne (by decide), dF_ne (by decide), dF_ne (by decide)]; rfl
  · intro j _; rw [dF_ne (by decide), dF_ne (by decide), dF_ne (by decide), dF_ne (by decide)]; rfl
  refine ev_aload_n 78 dX1_begin_78 rfl (by decide) ?_
  refine ev_lconst (x := 0) 79 dX1_begin_79 rfl ?_
  refine pf_1_97 (pc := 80) rfl dX1_begin_80 kd_51 ?_
  refine ev_abs (Q := DX e n r (pBg e s n) 0) (hD.up 0) (fun v5 hD => ?_)
  refine ev_aload_n 83 dX1_begin_83 rfl (by decide) ?_
  refine ev_iconst 84 dX1_begin_84 kI_0 ?_
  refine pf_1_129 (pc := 85) rfl dX1_begin_85 kd_51 ?_
  refine ev_abs (Q := DX e n r (dU (pBg e s n) 5 0 0) 0) (hD.u5_0 0) (fun v6 hD => ?_)
  refine ev_aload_n 88 dX1_begin_88 rfl (by decide) ?_
  refine ev_iconst 89 dX1_begin_89 kI_0 ?_
  refine pf_1_132 (pc := 90) rfl dX1_begin_90 kd_51 ?_
  refine ev_abs (Q := DX e n r (dU (dU (pBg e s n) 5 0 0) 5 1 0) 0) (hD.u5_1 0) (fun v7 hD => ?_)
  refine ev_return 93 dX1_begin_93 rfl ?_
  refine k _ (hD.cg ?_ ?_ ?_ ?_ ?_ ?_ ?_ ?_)
  · intro j _; rw [dU_ne (by decide), dU_ne (by decide)]; rfl
  · intro j _; rw [dU_ne (by decide), dU_ne (by decide)]; rfl
  · intro j _; rw [dU_ne (by decide), dU_ne (by decide)]; rfl
  · intro j hj; rw [dU_ne (by decide), dU_ne (by decide)]; exact if_pos hj
  · intro j _; rw [dU_ne (by decide), dU_ne (by decide)]; rfl
  · intro j hj
    have : j = 0 ∨ j = 1 := by omega
    rcases this with rfl | rfl
    · rw [dU_off (by decide), dU_on]; rfl
    · rw [dU_on]; rfl
  · intro j _; rw [dU_ne (by decide), dU_ne (by decide)]; rfl
  · intro j _; rw [dU_ne (by decide), dU_ne (by decide)]; rfl

/-- the way that is helped is one -/
def hOk (s : dT) : Prop := ∃ w, w < 2 ∧ s 8 2 = nI w
theorem hOk.min {e : pmV} {n r : Nat} {s : dT} {m : Nat} (h : hOk s) : hOk (pMin e n r s m) := by
  obtain ⟨w, hw, e⟩ := h
  exact ⟨w, hw, (pMin_q (by decide) (by decide) (by decide) (by decide) (by decide) (by decide) (by decide)).trans e⟩
theorem lp_pass {X : pmX} {d : Nat} {P : Option Value → pmT → pmV → Prop} {LT : pmT} {e : pmV} {n tx z r N : Nat} {L : Int64} (hN : N ≤ 60) (hC : Cpl n tx z LT e) (hr : r < tx) : ∀ (k : Nat) (i : Nat) (s : dT) (p : Int64) (v : pmV), i + k = N → DX e n r s p v → wOk n s → hOk s → (∀ v', DX e n r (pDayL e n r L k i s p).1 (pDayL e n r L k i s p).2 v' → P none (pmT0 ++ LT) v') → EvP X (d + 11) MX1_pass 7 [.ref 51, .int (nI N), .long L, pmJ, .int (nI i)] [] (pmT0 ++ LT) v P := by
  intro k
  induction k with
  | zero =>
    intro i s p v hi hD hW hH K
    have hi2 : N = i := by omega
    subst hi2
    refine ev_iload 7 dX1_pass_7 rfl ?_
    refine ev_iload_n 9 dX1_pass_9 rfl ?_
    refine ev_ic_geN (a := N) (b := N) 10 122 dX1_pass_10 rfl (by omega) (by omega) (fun c_10 => ?_) (fun c_10 => by omega)
    refine ev_return 122 dX1_pass_122 rfl ?_
    exact K v hD
  | succ k ih =>
    intro i s p v hi hD hW hH K
    have hn8 := hC.2.1.1
    have ht6 := hC.2.2.2.2.2.1.2.1
    obtain ⟨wh, hwh2, hwh⟩ := hH
    have hH : hOk s := ⟨wh, hwh2, hwh⟩
    have hw1 : (s 8 2).toNatClampNeg = wh := by rw [hwh]; exact nI_clamp (by omega)
    refine ev_iload 7 dX1_pass_7 rfl ?_
    refine ev_iload_n 9 dX1_pass_9 rfl ?_
    refine ev_ic_geN (a := i) (b := N) 10 122 dX1_pass_10 rfl (by omega) (by omega) (fun c_10 => by omega) (fun c_10 => ?_)
    refine ev_iload 13 dX1_pass_13 rfl ?_
    refine ev_bipush 15 dX1_pass_15 kB_60 ?_
    refine ev_ic_geN (a := i) (b := 60) 17 122 dX1_pass_17 rfl (by omega) (by omega) (fun c_17 => by omega) (fun c_17 => ?_)
    refine ev_aload_n 20 dX1_pass_20 rfl (by decide) ?_
    refine gf_1_97 (x := p) (pc := 21) rfl dX1_pass_21 kd_51 hD.rp ?_
    refine ev_lload_n 24 dX1_pass_24 rfl ?_
    refine ev_lcmp 25 dX1_pass_25 ?_
    refine ev_if_geL (a := p) (b := L) 26 122 dX1_pass_26 rfl (fun c_26 => ?_) (fun c_26 => ?_)
    · refine ev_return 122 dX1_pass_122 rfl ?_
      rw [pDayL, if_pos c_26] at K
      exact K v hD
    · refine ev_aload_n 29 dX1_pass_29 rfl (by decide) ?_
      refine ev_iconst 30 dX1_pass_30 kI_0 ?_
      refine ev_iload 31 dX1_pass_31 rfl ?_
      refine cv_1_101_1 (pc := 33) rfl dX1_pass_33 kd_51 (Nat.le_of_ble_eq_true rfl) ?_
      refine c_X1_arrive (w := 0) (m := i) hC hr hD (by omega) (by omega) (fun v1 hD => ?_)
      generalize hs2 : pArr e r s 0 i = s2 at hD
      refine ev_aload_n 36 dX1_pass_36 rfl (by decide) ?_
      refine ev_iconst 37 dX1_pass_37 kI_1 ?_
      refine ev_iload 38 dX1_pass_38 rfl ?_
      refine cv_1_101_1 (pc := 40) rfl dX1_pass_40 kd_51 (Nat.le_of_ble_eq_true rfl) ?_
      refine c_X1_arrive (w := 1) (m := i) hC hr hD (by omega) (by omega) (fun v3 hD => ?_)
      generalize hs4 : pArr e r s2 1 i = s4 at hD
      refine ev_aload_n 43 dX1_pass_43 rfl (by decide) ?_
      refine ev_aload_n 44 dX1_pass_44 rfl (by decide) ?_
      refine gf_1_71 (x := s4 8 0) (pc := 45) rfl dX1_pass_45 kd_51 hD.r8_0 ?_
      refine ev_if_eq 48 60 dX1_pass_48 rfl (fun c_48 => ?_) (fun c_48 => ?_)
      · refine ev_aload_n 60 dX1_pass_60 rfl (by decide) ?_
        refine gf_1_31 (pc := 61) rfl dX1_pass_61 kd_51 (rf_51_4 hD.1) ?_
        refine ev_iload 64 dX1_pass_64 rfl ?_
        refine ev_ialdJ (x := s4 7 i) (j := i) 66 dX1_pass_66 (Nat.le_of_ble_eq_true rfl) ty_60 (pm_inI (by omega) (by omega)) (nI_clamp (by omega)) (hD.r7 (by omega)) ?_
        refine ev_iload 67 dX1_pass_67 rfl ?_
        refine cv_1_108_1 (pc := 69) rfl dX1_pass_69 kd_51 (Nat.le_of_ble_eq_true rfl) ?_
        refine c_X1_turn hC hD ((hW.arr (e := e) (r := r) (w := 0) (m := i)).arr (e := e) (r := r) (w := 1) (m := i) |>.cg fun _ => by subst hs2 hs4; rfl) (fun v5 hD => ?_)
        generalize hs6 : pTurn e n s4 (s4 7 i) (nI i) = s6 at hD
        refine ev_aload_n 72 dX1_pass_72 rfl (by decide) ?_
        refine ev_iload 73 dX1_pass_73 rfl ?_
        refine cv_1_111_1 (pc := 75) rfl dX1_pass_75 kd_51 (Nat.le_of_ble_eq_true rfl) ?_
        refine c_X1_carryAll hC hD (((hW.arr (e := e) (r := r) (w := 0) (m := i)).arr (e := e) (r := r) (w := 1) (m := i)).turn hn8 |>.cg fun _ => by subst hs2 hs4 hs6; rfl) (fun v7 hD => ?_)
        generalize hs8 : pCarry e (nI i) n 0 (pBgn s6) = s8 at hD
        have h5 : ∀ j, s8 8 j = s 8 j := fun j => by subst hs2 hs4 hs6 hs8; rw [pCarry_q (by decide) (by decide) (by decide) (by decide), pBgn_q (by decide), pTurn_q (by decide) (by decide) (by decide) (by decide), pArr_q (by decide) (by decide), pArr_q (by decide) (by decide)]
        have h5b : s8 8 3 = s 8 3 := h5 3
        have hsw : s8 8 2 = nI wh := (h5 2).trans hwh
        refine ev_aload_n 78 dX1_pass_78 rfl (by decide) ?_
        refine ev_aload_n 79 dX1_pass_79 rfl (by decide) ?_
        refine gf_1_78 (x := nI wh) (pc := 80) rfl dX1_pass_80 kd_51 (hD.r8_2.trans hsw) ?_
        refine ev_aload_n 83 dX1_pass_83 rfl (by decide) ?_
        refine gf_1_81 (x := s8 8 3) (pc := 84) rfl dX1_pass_84 kd_51 hD.r8_3 ?_
        refine ev_iconst 87 dX1_pass_87 kI_0 ?_
        refine cv_1_115_1 (pc := 88) rfl dX1_pass_88 kd_51 (Nat.le_of_ble_eq_true rfl) ?_
        refine c_X1_take (w := wh) hD (by omega) (fun v9 hD => ?_)
        generalize hs10 : pTake s8 wh (s8 8 3) 0 = s10 at hD
        refine ev_aload_n 91 dX1_pass_91 rfl (by decide) ?_
        refine ev_dup 92 dX1_pass_92 rfl ?_
        refine gf_1_97 (x := p) (pc := 93) rfl dX1_pass_93 kd_51 hD.rp ?_
        refine ev_aload_n 96 dX1_pass_96 rfl (by decide) ?_
        refine ev_iconst 97 dX1_pass_97 kI_0 ?_
        refine ev_iload 98 dX1_pass_98 rfl ?_
        refine cv_1_119_1 (pc := 100) rfl dX1_pass_100 kd_51 (Nat.le_of_ble_eq_true rfl) ?_
        refine c_X1_painOf (w := 0) hC hr hD (by omega) (fun v11 hD => ?_)
        refine ev_aload_n 103 dX1_pass_103 rfl (by decide) ?_
        refine ev_iconst 104 dX1_pass_104 kI_1 ?_
        refine ev_iload 105 dX1_pass_105 rfl ?_
        refine cv_1_119_1 (pc := 107) rfl dX1_pass_107 kd_51 (Nat.le_of_ble_eq_true rfl) ?_
        refine c_X1_painOf (w := 1) hC hr hD (by omega) (fun v12 hD => ?_)
        refine ev_iadd 110 dX1_pass_110 ?_
        refine ev_i2l 111 dX1_pass_111 ?_
        refine ev_ladd 112 dX1_pass_112 ?_
        refine pf_1_97 (pc := 113) rfl dX1_pass_113 kd_51 ?_
        refine ev_abs (Q := DX e n r s10 (p + (((pPain e r s10 0 (nI i)) + (pPain e r s10 1 (nI i))).toInt64))) (hD.up (p + (((pPain e r s10 0 (nI i)) + (pPain e r s10 1 (nI i))).toInt64))) (fun v13 hD => ?_)
        refine ev_iinc (y := nI (i + 1)) (ls' := [.ref 51, .int (nI N), .long L, pmJ, .int (nI (i + 1))]) 116 dX1_pass_116 rfl (nI_add i 1) rfl ?_
        refine ev_goto 119 7 dX1_pass_119 rfl ?_
        have hm : pMin e n r s i = s10 := by
          subst hs2 hs4 hs6 hs8 hs10
          simp only [pMin, pTold, h5b, hw1, if_pos c_48]
        rw [← hm] at hD
        refine ih (i + 1) _ _ _ (by omega) hD (hW.min hn8) hH.min ?_
        rw [pDayL, if_neg c_26] at K
        exact K
      · refine ev_aload_n 51 dX1_pass_51 rfl (by decide) ?_
        refine ev_iload 52 dX1_pass_52 rfl ?_
        refine cv_1_105_1 (pc := 54) rfl dX1_pass_54 kd_51 (Nat.le_of_ble_eq_true rfl) ?_
        refine c_X1_laneByRule hC hr hD (fun v14 hD => ?_)
        refine ev_goto 57 67 dX1_pass_57 rfl ?_
        refine ev_iload 67 dX1_pass_67 rfl ?_
        refine cv_1_108_1 (pc := 69) rfl dX1_pass_69 kd_51 (Nat.le_of_ble_eq_true rfl) ?_
        refine c_X1_turn hC hD ((hW.arr (e := e) (r := r) (w := 0) (m := i)).arr (e := e) (r := r) (w := 1) (m := i) |>.cg fun _ => by subst hs2 hs4; rfl) (fun v15 hD => ?_)
        generalize hs16 : pTurn e n s4 (pRule e n r s4 (nI i)) (nI i) = s16 at hD
        refine ev_aload_n 72 dX1_pass_72 rfl (by decide) ?_
        refine ev_iload 73 dX1_pass_73 rfl ?_
        refine cv_1_111_1 (pc := 75) rfl dX1_pass_75 kd_51 (Nat.le_of_ble_eq_true rfl) ?_
        refine c_X1_carryAll hC hD (((hW.arr (e := e) (r := r) (w := 0) (m := i)).arr (e := e) (r := r) (w := 1) (m := i)).turn hn8 |>.cg fun _ => by subst hs2 hs4 hs16; rfl) (fun v17 hD => ?_)
        generalize hs18 : pCarry e (nI i) n 0 (pBgn s16) = s18 at hD
        have h5 : ∀ j, s18 8 j = s 8 j := fun j => by subst hs2 hs4 hs16 hs18; rw [pCarry_q (by decide) (by decide) (by decide) (by decide), pBgn_q (by decide), pTurn_q (by decide) (by decide) (by decide) (by decide), pArr_q (by decide) (by decide), pArr_q (by decide) (by decide)]
        have h5b : s18 8 3 = s 8 3 := h5 3
        have hsw : s18 8 2 = nI wh := (h5 2).trans hwh
        refine ev_aload_n 78 dX1_pass_78 rfl (by decide) ?_
        refine ev_aload_n 79 dX1_pass_79 rfl (by decide) ?_
        refine gf_1_78 (x := nI wh) (pc := 80) rfl dX1_pass_80 kd_51 (hD.r8_2.trans hsw) ?_
        refine ev_aload_n 83 dX1_pass_83 rfl (by decide) ?_
        refine gf_1_81 (x := s18 8 3) (pc := 84) rfl dX1_pass_84 kd_51 hD.r8_3 ?_
        refine ev_iconst 87 dX1_pass_87 kI_0 ?_
        refine cv_1_115_1 (pc := 88) rfl dX1_pass_88 kd_51 (Nat.le_of_ble_eq_true rfl) ?_
        refine c_X1_take (w := wh) hD (by omega) (fun v19 hD => ?_)
        generalize hs20 : pTake s18 wh (s18 8 3) 0 = s20 at hD
        refine ev_aload_n 91 dX1_pass_91 rfl (by decide) ?_
        refine ev_dup 92 dX1_pass_92 rfl ?_
        refine gf_1_97 (x := p) (pc := 93) rfl dX1_pass_93 kd_51 hD.rp ?_
        refine ev_aload_n 96 dX1_pass_96 rfl (by decide) ?_
        refine ev_iconst 97 dX1_pass_97 kI_0 ?_
        refine ev_iload 98 dX1_pass_98 rfl ?_
        refine cv_1_119_1 (pc := 100) rfl dX1_pass_100 kd_51 (Nat.le_of_ble_eq_true rfl) ?_
        refine c_X1_painOf (w := 0) hC hr hD (by omega) (fun v21 hD => ?_)
        refine ev_aload_n 103 dX1_pass_103 rfl (by decide) ?_
        refine ev_iconst 104 dX1_pass_104 kI_1 ?_
        refine ev_iload 105 dX1_pass_105 rfl ?_
        refine cv_1_119_1 (pc := 107) rfl dX1_pass_107 kd_51 (Nat.le_of_ble_eq_true rfl) ?_
        refine c_X1_painOf (w := 1) hC hr hD (by omega) (fun v22 hD => ?_)
        refine ev_iadd 110 dX1_pass_110 ?_
        refine ev_i2l 111 dX1_pass_111 ?_
        refine ev_ladd 112 dX1_pass_112 ?_
        refine pf_1_97 (pc := 113) rfl dX1_pass_113 kd_51 ?_
        refine ev_abs (Q := DX e n r s20 (p + (((pPain e r s20 0 (nI i)) + (pPain e r s20 1 (nI i))).toInt64))) (hD.up (p + (((pPain e r s20 0 (nI i)) + (pPain e r s20 1 (nI i))).toInt64))) (fun v23 hD => ?_)
        refine ev_iinc (y := nI (i + 1)) (ls' := [.ref 51, .int (nI N), .long L, pmJ, .int (nI (i + 1))]) 116 dX1_pass_116 rfl (nI_add i 1) rfl ?_
        refine ev_goto 119 7 dX1_pass_119 rfl ?_
        have hm : pMin e n r s i = s20 := by
          subst hs2 hs4 hs16 hs18 hs20
          simp only [pMin, pTold, h5b, hw1, if_neg c_48]
        rw [← hm] at hD
        refine ih (i + 1) _ _ _ (by omega) hD (hW.min hn8) hH.min ?_
        rw [pDayL, if_neg c_26] at K
        exact K

theorem c_X1_pass {X : pmX} {d : Nat} {v : pmV} {P : Option Value → pmT → pmV → Prop} {LT : pmT} {e : pmV} {n tx z r : Nat} {s : dT} {p : Int64} {N : Nat} {L : Int64} (hN : N ≤ 60) (hC : Cpl n tx z LT e) (hr : r < tx) (hD : DX e n r s p v) (hH : hOk s) (k : ∀ v', DX e n r (pDayL e n r L N 0 (pBeg e n s) 0).1 (pDayL e n r L N 0 (pBeg e n s) 0).2 v' → P none (pmT0 ++ LT) v') : EvP X (d + 11) MX1_pass 0 [.ref 51, .int (nI N), .long L, pmJ, pmJ] [] (pmT0 ++ LT) v P := by
  refine ev_aload_n 0 dX1_pass_0 rfl (by decide) ?_
  refine cv_1_94_1 (pc := 1) rfl dX1_pass_1 kd_51 (Nat.le_of_ble_eq_true rfl) ?_
  refine c_X1_begin hC hD (fun v1 hD => ?_)
  refine ev_iconst 4 dX1_pass_4 kI_0 ?_
  refine ev_istore (ls' := [.ref 51, .int (nI N), .long L, pmJ, .int 0]) 5 dX1_pass_5 (Nat.le_of_ble_eq_true rfl) rfl ?_
  exact lp_pass hN hC hr N 0 (pBeg e n s) 0 _ (by omega) hD (fun i hi => way_of hC.2.1 hi) hH k

