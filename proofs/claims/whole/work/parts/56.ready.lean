/-! the class: a day that is ready, by a plan, by the rule; what is passed by the calls -/
theorem pmRf.r {v : pmV} {j : Nat} {x : Option Nat} (h : pmRf v) (hj : j < 4) : pmRf (uR v 51 j x) := fun q hq => (show (uR v 51 j x).2.2 q.1 q.2.1 = v.2.2 q.1 q.2.1 from if_neg (fun z => rf51 q hq ⟨z.1, by omega⟩)).trans (h q hq)
def oN : Nat → Int32 := fun j => if j = 1 then -1 else 0
/-- what a plan, and what is told besides, come to -/
def sGf (pl o : Nat → Int32) : dT := fun q j => if q = 7 then pl j else if q = 8 then o j else 0
theorem pBeg_s {e : pmV} {n : Nat} {s : dT} {pl o : Nat → Int32} (h7 : s 7 = pl) (h8 : s 8 = o) : pBeg e n s = pBeg e n (sGf pl o) := by
  subst h7; subst h8
  unfold pBeg sGf
  funext q j
  by_cases a : q = 7
  · subst a; rfl
  · by_cases b : q = 8
    · subst b; rfl
    · simp [a, b]
theorem uR_on {v : pmV} {a j : Nat} {x : Option Nat} : (uR v a j x).2.2 a j = x := if_pos ⟨rfl, rfl⟩
theorem uR_off {v : pmV} {a j b i : Nat} {x : Option Nat} (h : ¬ (b = a ∧ i = j)) : (uR v a j x).2.2 b i = v.2.2 b i := if_neg h
theorem DX.any {e : pmV} {n r : Nat} {v : pmV} {pl o : Nat → Int32} (h1 : pmRf v) (h2 : dFr DcX e v) (h3 : v.1 51 1 = nI n ∧ v.2.2 51 0 = some 33 ∧ v.2.2 51 2 = some 34 ∧ v.2.2 51 3 = some (68 + 4 * r)) (h7 : ∀ j, j < 60 → v.1 60 j = pl j) (h8 : v.1 51 5 = o 0 ∧ v.1 51 6 = o 1 ∧ v.1 51 7 = o 2 ∧ v.1 51 8 = o 3) (hf : v.2.1 67 = e.2.1 67) :
    DX e n r (fun q j => if q = 7 then pl j else if q = 8 then o j else if q = 0 then v.1 63 j else if q = 1 then v.1 64 j else if q = 2 then v.1 65 j else if q = 3 then v.1 61 j else if q = 4 then v.1 62 j else v.1 51 (16 + j)) (v.2.1 51 15) v :=
  ⟨h1, h2, h3, rfl, fun _ _ => rfl, fun _ _ => rfl, fun _ _ => rfl, fun _ _ => rfl, fun _ _ => rfl, ⟨rfl, rfl⟩, h7, ⟨h8.1, h8.2.1, h8.2.2.1, h8.2.2.2, hf⟩⟩
theorem rf_txt {v : pmV} (h : pmRf v) {r : Nat} (hr : r < 6) : v.2.2 40 r = some (68 + 4 * r) := by
  have : r = 0 ∨ r = 1 ∨ r = 2 ∨ r = 3 ∨ r = 4 ∨ r = 5 := by omega
  rcases this with rfl | rfl | rfl | rfl | rfl | rfl
  · exact rf_40_0 h
  · exact rf_40_1 h
  · exact rf_40_2 h
  · exact rf_40_3 h
  · exact rf_40_4 h
  · exact rf_40_5 h
theorem c_X1_ready {X : pmX} {d : Nat} {v : pmV} {P : Option Value → pmT → pmV → Prop} {LT : pmT} {e : pmV} {n r : Nat} (hX : pmRf v) (hF : dFr DcX e v) (hf : v.2.1 67 = e.2.1 67) (hn : n ≤ 8) (hr : r < 6) (k : ∀ v' s p, s 7 = (fun _ => -1) → s 8 = oN → DX e n r s p v' → P none (pmT0 ++ LT) v') : EvP X (d + 1) MX1_ready 0 [.ref 51, .ref 33, .int (nI n), .ref 34, .ref (68 + 4 * r)] [] (pmT0 ++ LT) v P := by
  refine ev_aload_n 0 dX1_ready_0 rfl (by decide) ?_
  refine ev_aload_n 1 dX1_ready_1 rfl (by decide) ?_
  refine pf_1_11 (pc := 2) rfl dX1_ready_2 kd_51 (Nat.le_of_ble_eq_true rfl) ?_
  refine ev_aload_n 5 dX1_ready_5 rfl (by decide) ?_
  refine ev_iload_n 6 dX1_ready_6 rfl ?_
  refine ev_aload_n 7 dX1_ready_7 rfl (by decide) ?_
  refine ev_alen (x := 8) 8 dX1_ready_8 (Nat.le_of_ble_eq_true rfl) ty_33 (by decide) (by decide) ?_
  refine ev_min (x := (if 8 < nI n then 8 else nI n)) 9 dX1_ready_9 mn0_1_55 mn_1_55 (Nat.le_of_ble_eq_true rfl) rfl ?_
  refine ev_cst (y := nI n) (if_neg (nI_nlt (a := 8) hn (by omega))) ?_
  refine pf_1_61 (pc := 12) rfl dX1_ready_12 kd_51 ?_
  refine ev_aload_n 15 dX1_ready_15 rfl (by decide) ?_
  refine ev_aload_n 16 dX1_ready_16 rfl (by decide) ?_
  refine pf_1_20 (pc := 17) rfl dX1_ready_17 kd_51 (Nat.le_of_ble_eq_true rfl) ?_
  refine ev_aload_n 20 dX1_ready_20 rfl (by decide) ?_
  refine ev_aload 21 dX1_ready_21 rfl (by omega) ?_
  refine pf_1_27 (pc := 23) rfl dX1_ready_23 kd_51 (by omega) ?_
  refine ev_aload_n 26 dX1_ready_26 rfl (by decide) ?_
  refine gf_1_31 (pc := 27) rfl dX1_ready_27 kd_51 (rf_51_4 ((((hX.r (by decide)).ag rfl).r (by decide)).r (by decide))) ?_
  refine ev_iconst 30 dX1_ready_30 kI_m1 ?_
  refine cs_1_65 (pc := 31) rfl dX1_ready_31 (Nat.le_of_ble_eq_true rfl) ?_
  refine c_J7_fill (n := 60) (Nat.le_of_ble_eq_true rfl) ty_60 (by omega) (fun v1 hw => ?_)
  have hX1 : pmRf v1 := pmRf.ag (v := (uR (uR (uI (uR v 51 0 (some 33)) 51 1 (nI n)) 51 2 (some 34)) 51 3 (some (68 + 4 * r)))) ((((hX.r (by decide)).ag rfl).r (by decide)).r (by decide)) (congrArg Prod.snd hw.1)
  have hF1 : dFr DcX e v1 := dFr.w (a := 60) (lo := 0) (hi := 60) (v := (uR (uR (uI (uR v 51 0 (some 33)) 51 1 (nI n)) 51 2 (some 34)) 51 3 (some (68 + 4 * r)))) (((((hF.r (j := 0) (by decide)).i (a := 51) (j := 1) (by unfold DcX; omega)).r (j := 2) (by decide)).r (j := 3) (by decide))) hw (fun j _ _ => by unfold DcX; omega)
  have h11 : v1.1 51 1 = nI n := (hw.off (by omega)).trans (show (uI (uR v 51 0 (some 33)) 51 1 (nI n)).1 51 1 = nI n from uI_on)
  have hr0 : v1.2.2 51 0 = some 33 := (congrFun (congrFun (congrArg Prod.snd hw.1) 51) 0).trans ((uR_off (by decide)).trans ((uR_off (by decide)).trans (show (uR v 51 0 (some 33)).2.2 51 0 = some 33 from uR_on)))
  have hr2 : v1.2.2 51 2 = some 34 := (congrFun (congrFun (congrArg Prod.snd hw.1) 51) 2).trans ((uR_off (by decide)).trans uR_on)
  have hr3 : v1.2.2 51 3 = some (68 + 4 * r) := (congrFun (congrFun (congrArg Prod.snd hw.1) 51) 3).trans (uR_on)
  have hpl : ∀ j, j < 60 → v1.1 60 j = -1 := fun j hj => hw.on (by omega) hj
  refine ev_aload_n 34 dX1_ready_34 rfl (by decide) ?_
  refine ev_iconst 35 dX1_ready_35 kI_0 ?_
  refine pf_1_71 (pc := 36) rfl dX1_ready_36 kd_51 (Or.inl rfl) ?_
  refine ev_aload_n 39 dX1_ready_39 rfl (by decide) ?_
  refine ev_iconst 40 dX1_ready_40 kI_m1 ?_
  refine pf_1_75 (pc := 41) rfl dX1_ready_41 kd_51 ?_
  refine ev_aload_n 44 dX1_ready_44 rfl (by decide) ?_
  refine ev_iconst 45 dX1_ready_45 kI_0 ?_
  refine pf_1_78 (pc := 46) rfl dX1_ready_46 kd_51 ?_
  refine ev_aload_n 49 dX1_ready_49 rfl (by decide) ?_
  refine ev_iconst 50 dX1_ready_50 kI_0 ?_
  refine pf_1_81 (pc := 51) rfl dX1_ready_51 kd_51 ?_
  refine ev_return 54 dX1_ready_54 rfl ?_
  refine k _ _ _ rfl rfl (DX.any (n := n) (r := r) (pl := fun _ => -1) (o := oN) ((((hX1.ag rfl).ag rfl).ag rfl).ag rfl) ((((hF1.i (by unfold DcX; omega)).i (by unfold DcX; omega)).i (by unfold DcX; omega)).i (by unfold DcX; omega)) ⟨?_, hr0, hr2, hr3⟩ (fun j hj => ?_) ⟨?_, ?_, ?_, ?_⟩ ((congrFun (congrArg Prod.fst hw.1) 67).trans hf))
  · rw [uI_off (by decide), uI_off (by decide), uI_off (by decide), uI_off (by decide)]; exact h11
  · rw [uI_ne (by decide), uI_ne (by decide), uI_ne (by decide), uI_ne (by decide)]; exact hpl j hj
  · rw [uI_off (by decide), uI_off (by decide), uI_off (by decide), uI_on]; rfl
  · rw [uI_off (by decide), uI_off (by decide), uI_on]; rfl
  · rw [uI_off (by decide), uI_on]; rfl
  · rw [uI_on]; rfl

theorem c_X11_readyCourse {X : pmX} {d : Nat} {v : pmV} {P : Option Value → pmT → pmV → Prop} {LT : pmT} {e : pmV} {n tx z r : Nat} (hC : Cpl n tx z LT e) (hr : r < tx) (hr1 : e.1 34 6 = nI r) (hX : pmRf v) (hF : dFr DcX e v) (hf : v.2.1 67 = e.2.1 67) (k : ∀ v' s p, s 7 = (fun _ => -1) → s 8 = oN → DX e n r s p v' → P none (pmT0 ++ LT) v') : EvP X (d + 2) MX11_readyCourse 0 [.ref 32] [] (pmT0 ++ LT) v P := by
  have hn8 := hC.2.1.1
  have ht6 := hC.2.2.2.2.2.1.2.1
  refine ev_aload_n 0 dX11_readyCourse_0 rfl (by decide) ?_
  refine gf_11_47 (pc := 1) rfl dX11_readyCourse_1 kd_32 (rf_32_9 hX) ?_
  refine ev_aload_n 4 dX11_readyCourse_4 rfl (by decide) ?_
  refine gf_11_11 (pc := 5) rfl dX11_readyCourse_5 kd_32 (rf_32_0 hX) ?_
  refine ev_aload_n 8 dX11_readyCourse_8 rfl (by decide) ?_
  refine gf_11_78 (x := nI n) (pc := 9) rfl dX11_readyCourse_9 kd_32 ((hF.1 32 1 (by unfold DcX; omega)).trans hC.2.1.2.2.1) ?_
  refine ev_aload_n 12 dX11_readyCourse_12 rfl (by decide) ?_
  refine gf_11_18 (pc := 13) rfl dX11_readyCourse_13 kd_32 (rf_32_2 hX) ?_
  refine ev_aload_n 16 dX11_readyCourse_16 rfl (by decide) ?_
  refine gf_11_27 (pc := 17) rfl dX11_readyCourse_17 kd_32 (rf_32_5 hX) ?_
  refine ev_aload_n 20 dX11_readyCourse_20 rfl (by decide) ?_
  refine gf_11_18 (pc := 21) rfl dX11_readyCourse_21 kd_32 (rf_32_2 hX) ?_
  refine gf_11_153 (x := nI r) (pc := 24) rfl dX11_readyCourse_24 kd_34 ((hF.1 34 6 (by unfold DcX; omega)).trans hr1) ?_
  refine ev_aaldJ (x := 68 + 4 * r) (j := r) 27 dX11_readyCourse_27 (Nat.le_of_ble_eq_true rfl) ty_40 (by decide) (pm_inI (by omega) (by omega)) (nI_clamp (by omega)) (rf_txt hX (by omega)) ?_
  refine cv_11_287_1 (pc := 28) rfl dX11_readyCourse_28 kd_51 (Nat.le_of_ble_eq_true rfl) ?_
  refine c_X1_ready hX hF hf (by omega) (by omega) (fun v1 s0 p0 h7 h8 hD => ?_)
  refine ev_return 31 dX11_readyCourse_31 rfl ?_
  exact k _ _ _ h7 h8 hD

def pT (e : pmV) (t j : Nat) : Int32 := if nI j < e.1 (92 + 2 * t) 1 then e.1 (93 + 2 * t) j else -1
def tP (e : pmV) (t : Nat) (s : dT) (i : Nat) : dT := fun q j => if q = 7 then (if j < i then pT e t j else s 7 j) else s q j
theorem lp_plan {X : pmX} {d : Nat} {P : Option Value → pmT → pmV → Prop} {LT : pmT} {e : pmV} {n tx z r t : Nat} {s : dT} {p : Int64} (hC : Cpl n tx z LT e) (ht : t < 4) : ∀ (k : Nat) (i : Nat) (v : pmV), i + k = 60 → DX e n r (tP e t s i) p v → (∀ v', DX e n r (tP e t s 60) p v' → P none (pmT0 ++ LT) v') → EvP X (d + 2) MX1_tellPlan 2 [.ref 51, .ref (92 + 2 * t), .int (nI i)] [] (pmT0 ++ LT) v P := by
  intro k
  induction k with
  | zero =>
    intro i v hi hD K
    have hi2 : i = 60 := by omega
    subst hi2
    refine ev_iload_n 2 dX1_tellPlan_2 rfl ?_
    refine ev_bipush 3 dX1_tellPlan_3 kB_60 ?_
    refine ev_ic_geN (a := 60) (b := 60) 5 37 dX1_tellPlan_5 rfl (by omega) (by omega) (fun c_5 => ?_) (fun c_5 => by omega)
    refine ev_return 37 dX1_tellPlan_37 rfl ?_
    exact K v hD
  | succ k ih =>
    intro i v hi hD K
    refine ev_iload_n 2 dX1_tellPlan_2 rfl ?_
    refine ev_bipush 3 dX1_tellPlan_3 kB_60 ?_
    refine ev_ic_geN (a := i) (b := 60) 5 37 dX1_tellPlan_5 rfl (by omega) (by omega) (fun c_5 => by omega) (fun c_5 => ?_)
    refine ev_aload_n 8 dX1_tellPlan_8 rfl (by decide) ?_
    refine gf_1_31 (pc := 9) rfl dX1_tellPlan_9 kd_51 (rf_51_4 hD.1) ?_
    refine ev_iload_n 12 dX1_tellPlan_12 rfl ?_
    refine ev_aload_n 13 dX1_tellPlan_13 rfl (by omega) ?_
    refine ev_iload_n 14 dX1_tellPlan_14 rfl ?_
    refine cv_1_84_6 (pc := 15) rfl dX1_tellPlan_15 (kd_sheet (by omega)) (Nat.le_of_ble_eq_true rfl) ?_
    refine c_X6_has (x := nI i) ht (fun h_has => ?_) (fun h_has => ?_)
    · rw [hD.c (by unfold DcX; omega)] at h_has
      refine ev_ifF 18 29 dX1_tellPlan_18 rfl (by decide) ?_
      refine ev_aload_n 21 dX1_tellPlan_21 rfl (by omega) ?_
      refine ev_iload_n 22 dX1_tellPlan_22 rfl ?_
      refine cv_1_90_6 (pc := 23) rfl dX1_tellPlan_23 (kd_sheet (by omega)) (Nat.le_of_ble_eq_true rfl) ?_
      obtain ⟨q, hq60, hq, _⟩ := (hC.2.2.2.2.2.2.2.1 t ht).2.1
      refine c_X6_at ht hD.1 ((hD.c (by unfold DcX; omega)).trans hq) hq60 (fun j hj hx => ?_) (fun hx => by exfalso; rw [hq] at h_has; exact hx (by first | exact h_has | exact (hD.c (by unfold DcX; omega)).symm ▸ h_has))
      obtain rfl : i = j := (nI_eq (by omega) (by omega)).mp hx
      refine ev_cst (y := e.1 (93 + 2 * t) i) (hD.c (by unfold DcX; omega)) ?_
      refine ev_goto 26 30 dX1_tellPlan_26 rfl ?_
      refine ev_iastJ (j := i) 30 dX1_tellPlan_30 (Nat.le_of_ble_eq_true rfl) ty_60 (pm_inI (by omega) (by omega)) (nI_clamp (by omega)) ?_
      refine ev_abs (Q := DX e n r (dU (tP e t s i) 7 i (e.1 (93 + 2 * t) i)) p) (hD.u7 i (e.1 (93 + 2 * t) i)) (fun v1 hD => ?_)
      refine ev_iinc (y := nI (i + 1)) (ls' := [.ref 51, .ref (92 + 2 * t), .int (nI (i + 1))]) 31 dX1_tellPlan_31 rfl (nI_add i 1) rfl ?_
      refine ev_goto 34 2 dX1_tellPlan_34 rfl ?_
      have hpt : pT e t i = e.1 (93 + 2 * t) i := by unfold pT; rw [if_pos h_has.2]
      refine ih (i + 1) _ (by omega) (hD.cg ?_ ?_ ?_ ?_ ?_ ?_ ?_ ?_) K
      · intro j _; rw [dU_ne (by decide)]; rfl
      · intro j _; rw [dU_ne (by decide)]; rfl
      · intro j _; rw [dU_ne (by decide)]; rfl
      · intro j _; rw [dU_ne (by decide)]; rfl
      · intro j _; rw [dU_ne (by decide)]; rfl
      · intro j _; rw [dU_ne (by decide)]; rfl
      · intro j hj; show _ = (if j < i + 1 then pT e t j else s 7 j)
        by_cases q : j = i
        · rw [q, dU_on, if_pos (by omega), hpt]
        · rw [dU_off (fun z => q z.2)]; show (if j < i then _ else _) = _; by_cases q2 : j < i
          · rw [if_pos q2, if_pos (by omega)]
          · rw [if_neg q2, if_neg (by omega)]
      · intro j _; rw [dU_ne (by decide)]; rfl
    · rw [hD.c (by unfold DcX; omega)] at h_has
      refine ev_ifT 18 29 dX1_tellPlan_18 rfl (by decide) ?_
      refine ev_iconst 29 dX1_tellPlan_29 kI_m1 ?_
      refine ev_iastJ (j := i) 30 dX1_tellPlan_30 (Nat.le_of_ble_eq_true rfl) ty_60 (pm_inI (by omega) (by omega)) (nI_clamp (by omega)) ?_
      refine ev_abs (Q := DX e n r (dU (tP e t s i) 7 i (-1)) p) (hD.u7 i (-1)) (fun v2 hD => ?_)
      refine ev_iinc (y := nI (i + 1)) (ls' := [.ref 51, .ref (92 + 2 * t), .int (nI (i + 1))]) 31 dX1_tellPlan_31 rfl (nI_add i 1) rfl ?_
      refine ev_goto 34 2 dX1_tellPlan_34 rfl ?_
      have hpt : pT e t i = (-1) := by unfold pT; rw [if_neg (fun z => h_has ⟨nI_pos' (by omega), z⟩)]
      refine ih (i + 1) _ (by omega) (hD.cg ?_ ?_ ?_ ?_ ?_ ?_ ?_ ?_) K
      · intro j _; rw [dU_ne (by decide)]; rfl
      · intro j _; rw [dU_ne (by decide)]; rfl
      · intro j _; rw [dU_ne (by decide)]; rfl
      · intro j _; rw [dU_ne (by decide)]; rfl
      · intro j _; rw [dU_ne (by decide)]; rfl
      · intro j _; rw [dU_ne (by decide)]; rfl
      · intro j hj; show _ = (if j < i + 1 then pT e t j else s 7 j)
        by_cases q : j = i
        · rw [q, dU_on, if_pos (by omega), hpt]
        · rw [dU_off (fun z => q z.2)]; show (if j < i then _ else _) = _; by_cases q2 : j < i
          · rw [if_pos q2, if_pos (by omega)]
          · rw [if_neg q2, if_neg (by omega)]
      · intro j _; rw [dU_ne (by decide)]; rfl

theorem c_X1_tellPlan {X : pmX} {d : Nat} {v : pmV} {P : Option Value → pmT → pmV → Prop} {LT : pmT} {e : pmV} {n tx z r t : Nat} {s : dT} {p : Int64} (hC : Cpl n tx z LT e) (ht : t < 4) (hD : DX e n r s p v) (k : ∀ v', DX e n r (tP e t s 60) p v' → P none (pmT0 ++ LT) v') : EvP X (d + 2) MX1_tellPlan 0 [.ref 51, .ref (92 + 2 * t), pmJ] [] (pmT0 ++ LT) v P := by
  refine ev_iconst 0 dX1_tellPlan_0 kI_0 ?_
  refine ev_istore_n (ls' := [.ref 51, .ref (92 + 2 * t), .int 0]) 1 dX1_tellPlan_1 (Nat.le_of_ble_eq_true rfl) rfl ?_
  exact lp_plan hC ht 60 0 v rfl (hD.cg (fun _ _ => rfl) (fun _ _ => rfl) (fun _ _ => rfl) (fun _ _ => rfl) (fun _ _ => rfl) (fun _ _ => rfl) (fun j _ => by simp [tP]) (fun _ _ => rfl)) k

def pBits (s : dT) : Nat → Int32
  | 0 => 0
  | k + 1 => pBits s k ||| (s 3 k <<< (nI k &&& 31))
theorem lp_bits {X : pmX} {d : Nat} {P : Option Value → pmT → pmV → Prop} {LT : pmT} {e : pmV} {n r : Nat} {s : dT} {p : Int64} {v : pmV} (hn8 : n ≤ 8) (hD : DX e n r s p v) : ∀ (k : Nat) (i : Nat), i + k = n → (P (some (.int (pBits s n))) (pmT0 ++ LT) v) → EvP X d MX1_waysAsBits 4 [.ref 51, .int (pBits s i), .int (nI i)] [] (pmT0 ++ LT) v P := by
  intro k
  induction k with
  | zero =>
    intro i hi  K
    have hi2 : n = i := by omega
    subst hi2
    refine ev_iload_n 4 dX1_waysAsBits_4 rfl ?_
    refine ev_aload_n 5 dX1_waysAsBits_5 rfl (by decide) ?_
    refine gf_1_61 (x := nI n) (pc := 6) rfl dX1_waysAsBits_6 kd_51 hD.rn ?_
    refine ev_ic_geN (a := n) (b := n) 9 29 dX1_waysAsBits_9 rfl (by omega) (by omega) (fun c_9 => ?_) (fun c_9 => by omega)
    refine ev_iload_n 29 dX1_waysAsBits_29 rfl ?_
    refine ev_ireturn 30 dX1_waysAsBits_30 rfl rfl ?_
    exact K
  | succ k ih =>
    intro i hi  K
    refine ev_iload_n 4 dX1_waysAsBits_4 rfl ?_
    refine ev_aload_n 5 dX1_waysAsBits_5 rfl (by decide) ?_
    refine gf_1_61 (x := nI n) (pc := 6) rfl dX1_waysAsBits_6 kd_51 hD.rn ?_
    refine ev_ic_geN (a := i) (b := n) 9 29 dX1_waysAsBits_9 rfl (by omega) (by omega) (fun c_9 => by omega) (fun c_9 => ?_)
    refine ev_iload_n 12 dX1_waysAsBits_12 rfl ?_
    refine ev_aload_n 13 dX1_waysAsBits_13 rfl (by decide) ?_
    refine gf_1_35 (pc := 14) rfl dX1_waysAsBits_14 kd_51 (rf_51_9 hD.1) ?_
    refine ev_iload_n 17 dX1_waysAsBits_17 rfl ?_
    refine ev_ialdJ (x := s 3 i) (j := i) 18 dX1_waysAsBits_18 (Nat.le_of_ble_eq_true rfl) ty_61 (pm_inI (by omega) (by omega)) (nI_clamp (by omega)) (hD.r3 (by omega)) ?_
    refine ev_iload_n 19 dX1_waysAsBits_19 rfl ?_
    refine ev_ishl 20 dX1_waysAsBits_20 ?_
    refine ev_ior 21 dX1_waysAsBits_21 ?_
    refine ev_istore_n (ls' := [.ref 51, .int ((pBits s i) ||| ((s 3 i) <<< ((nI i) &&& 31))), .int (nI i)]) 22 dX1_waysAsBits_22 (Nat.le_of_ble_eq_true rfl) rfl ?_
    refine ev_iinc (y := nI (i + 1)) (ls' := [.ref 51, .int ((pBits s i) ||| ((s 3 i) <<< ((nI i) &&& 31))), .int (nI (i + 1))]) 23 dX1_waysAsBits_23 rfl (nI_add i 1) rfl ?_
    refine ev_goto 26 4 dX1_waysAsBits_26 rfl ?_
    exact ih (i + 1) (by omega) K

theorem c_X1_waysAsBits {X : pmX} {d : Nat} {v : pmV} {P : Option Value → pmT → pmV → Prop} {LT : pmT} {e : pmV} {n r : Nat} {s : dT} {p : Int64} (hn8 : n ≤ 8) (hD : DX e n r s p v) (k : P (some (.int (pBits s n))) (pmT0 ++ LT) v) : EvP X d MX1_waysAsBits 0 [.ref 51, pmJ, pmJ] [] (pmT0 ++ LT) v P := by
  refine ev_iconst 0 dX1_waysAsBits_0 kI_0 ?_
  refine ev_istore_n (ls' := [.ref 51, .int 0, pmJ]) 1 dX1_waysAsBits_1 (Nat.le_of_ble_eq_true rfl) rfl ?_
  refine ev_iconst 2 dX1_waysAsBits_2 kI_0 ?_
  refine ev_istore_n (ls' := [.ref 51, .int 0, .int 0]) 3 dX1_waysAsBits_3 (Nat.le_of_ble_eq_true rfl) rfl ?_
  exact lp_bits hn8 hD n 0 (by omega) k

