/-! of two -/
theorem ev_if_neL {X : pmX} {d : Nat} {M : pmM} {ls st : List Value} {T : pmT} {v : pmV} {P : Option Value → pmT → pmV → Prop} (pc pc' : Nat) {off : Int} {a b : Int64} (hd : decode M.2.2.1 pc = .ok (.ifCond .ne off, 3)) (ht : (pc : Int) + off = (pc' : Int)) (kt : ¬ a = b → EvP X d M pc' ls st T v P) (kf : a = b → EvP X d M (pc + 3) ls st T v P) : EvP X d M pc ls (.int (lg_cmp a b) :: st) T v P := ev_if_ne pc pc' hd ht (fun h => kt (fun q => h ((lg_cmp_eq a b).mpr q))) (fun h => kf ((lg_cmp_eq a b).mp h))
theorem lN_m1 {j : Nat} (hj : j < 8) : ¬ (nI j).toInt64 = -1 := by
  have : j = 0 ∨ j = 1 ∨ j = 2 ∨ j = 3 ∨ j = 4 ∨ j = 5 ∨ j = 6 ∨ j = 7 := by omega
  rcases this with rfl | rfl | rfl | rfl | rfl | rfl | rfl | rfl <;> decide +kernel
/-- of two: the least, its lane, its first minute, its later one -/
abbrev tQ : Type := Int64 × Int32 × Int32 × Int32
def tT (e : pmV) (n r N i a b : Nat) : Int64 := (pR e n r (upd (upd plN a (nI i)) b (nI i)) oN N).2
def tS (e : pmV) (n r N i a b : Nat) (q : tQ) : tQ := if q.2.1 < 0 then (tT e n r N i a b, nI i, nI a, nI b) else if tT e n r N i a b < q.1 then (tT e n r N i a b, nI i, nI a, nI b) else q
def pG (e : pmV) (i a b : Nat) : Bool := pMay e i (nI a) && (pMay e i (nI b) && decide (pRes e i (e.1 34 2) ≤ nI (b - a)))
def pT1 (e : pmV) (n r N i a : Nat) : Nat → Nat → tQ → tQ
  | 0, _, q => q
  | k + 1, b, q => pT1 e n r N i a k (b + 1) (if pG e i a b = true then tS e n r N i a b q else q)
def pT2 (e : pmV) (n r N i : Nat) : Nat → Nat → tQ → tQ
  | 0, _, q => q
  | k + 1, a, q => pT2 e n r N i k (a + 1) (pT1 e n r N i a (N - (a + 1)) (a + 1) q)
def pT3 (e : pmV) (n r N : Nat) : Nat → Nat → tQ → tQ
  | 0, _, q => q
  | k + 1, i, q => pT3 e n r N k (i + 1) (pT2 e n r N i N 0 q)
def pTwo (e : pmV) (n r N : Nat) : tQ := pT3 e n r N n 0 (0, -1, -1, -1)
def tAns (q : tQ) (w : Nat) : Int64 := if q.2.1 < 0 then -1 else if w = 0 then q.2.1.toInt64 else if w = 1 then q.2.2.1.toInt64 else if w = 2 then q.2.2.2.toInt64 else q.1
theorem pG_e {e' e : pmV} (h : e'.1 = e.1) {i a b : Nat} : pG e' i a b = pG e i a b := by unfold pG; rw [pMay_e h, pMay_e h, pRes_e h, h]
theorem pR_lt {e : pmV} {n tx z r N : Nat} {LT : pmT} (hC : Cpl n tx z LT e) (hN : N ≤ 60) {pl o : Nat → Int32} (ho : o 2 = 0 ∧ o 3 = 0) : (pR e n r pl o N).2 < 4611686018427387904 := by
  have h0 : (0 : Int64) = lN 0 := rfl
  obtain ⟨P', a1, _, a3, _⟩ := pDay_ok hC (r := r) N 0 (pBeg e n (sGf pl o)) 0 (by omega) (dJ.beg hC.2.1 _) ⟨0, 0, by omega, by omega, ho.1, ho.2⟩ (by omega)
  unfold pR
  rw [h0, a1, show (4611686018427387904 : Int64) = lN 4611686018427387904 from rfl, pk_lLT (by omega) (by omega)]
  omega
/-- the class between two trials -/
def TX (e : pmV) (n r : Nat) (q : tQ) (v : pmV) : Prop := ∃ (e' : pmV) (s : dT) (p : Int64), e'.1 = e.1 ∧ e'.2.2 = e.2.2 ∧ s 7 = plN ∧ s 8 = oN ∧ DX e' n r s p v ∧ e'.2.1 67 0 = q.2.1.toInt64 ∧ e'.2.1 67 1 = q.2.2.1.toInt64 ∧ e'.2.1 67 2 = q.2.2.2.toInt64 ∧ ((q.2.1 = -1 ∧ q.2.2.1 = -1 ∧ q.2.2.2 = -1 ∧ e'.2.1 67 3 = -1) ∨ ∃ j, j < n ∧ q.2.1 = nI j ∧ e'.2.1 67 3 = q.1)
theorem upd_back2 {a b : Nat} {x : Int32} : upd (upd (upd (upd plN a x) b x) a (-1)) b (-1) = plN := funext fun j => by
  by_cases h : j = b
  · subst h; rw [pk_us]; rfl
  · rw [pk_un h]
    by_cases h2 : j = a
    · subst h2; rw [pk_us]; rfl
    · rw [pk_un h2, pk_un h, pk_un h2]
theorem c_X11_goes {X : pmX} {d : Nat} {v : pmV} {P : Option Value → pmT → pmV → Prop} {LT : pmT} {e1 : pmV} {n tx z r i a b : Nat} {s : dT} {p : Int64} (hC1 : Cpl n tx z LT e1) (hD : DX e1 n r s p v) (hi : i < n) (hab : a < b) (kt : pG e1 i a b = true → P (some (.int 1)) (pmT0 ++ LT) v) (kf : ¬ pG e1 i a b = true → P (some (.int 0)) (pmT0 ++ LT) v) : EvP X (d + 10) MX11_goesAndReturns 0 [.ref 32, .ref (124 + i), .int (nI a), .int (nI b)] [] (pmT0 ++ LT) v P := by
  have hn8 := hC1.2.1.1
  refine ev_aload_n 0 dX11_goesAndReturns_0 rfl (by omega) ?_
  refine ev_iload_n 1 dX11_goesAndReturns_1 rfl ?_
  refine vc_11_143 (pc := 2) rfl dX11_goesAndReturns_2 hC1.2.1 (i := i) (by omega) (hD.c (by unfold DcX; omega)) (Nat.le_of_ble_eq_true rfl) (fun h_2 => ?_) (fun h_2 => ?_)
  · refine ev_ifF 5 37 dX11_goesAndReturns_5 rfl (by decide) ?_
    refine ev_aload_n 8 dX11_goesAndReturns_8 rfl (by omega) ?_
    refine ev_iload_n 9 dX11_goesAndReturns_9 rfl ?_
    refine vc_11_143 (pc := 10) rfl dX11_goesAndReturns_10 hC1.2.1 (i := i) (by omega) (hD.c (by unfold DcX; omega)) (Nat.le_of_ble_eq_true rfl) (fun h_10 => ?_) (fun h_10 => ?_)
    · refine ev_ifF 13 37 dX11_goesAndReturns_13 rfl (by decide) ?_
      refine ev_iload_n 16 dX11_goesAndReturns_16 rfl ?_
      refine ev_iload_n 17 dX11_goesAndReturns_17 rfl ?_
      refine ev_isub 18 dX11_goesAndReturns_18 ?_
      refine ev_cst (y := nI (b - a)) (pk_sub (a := b) (b := a) (by omega)) ?_
      refine ev_aload_n 19 dX11_goesAndReturns_19 rfl (by omega) ?_
      refine ev_aload_n 20 dX11_goesAndReturns_20 rfl (by decide) ?_
      refine gf_11_18 (pc := 21) rfl dX11_goesAndReturns_21 kd_32 (rf_32_2 hD.1) ?_
      refine gf_11_137 (x := e1.1 34 2) (pc := 24) rfl dX11_goesAndReturns_24 kd_34 (hD.c (by unfold DcX; omega)) ?_
      refine vc_11_140 (pc := 27) rfl dX11_goesAndReturns_27 hC1.2.1 (i := i) (by omega) (hD.c (by unfold DcX; omega)) (Nat.le_of_ble_eq_true rfl) ?_
      refine ev_ic_lt 30 37 dX11_goesAndReturns_30 rfl (fun c_30 => ?_) (fun c_30 => ?_)
      · refine ev_iconst 37 dX11_goesAndReturns_37 kI_0 ?_
        refine ev_ireturn 38 dX11_goesAndReturns_38 rfl rfl ?_
        exact kf (by unfold pG; simp only [h_2, h_10, Bool.true_and, decide_eq_true_eq]; exact Int32.not_le.mpr c_30)
      · refine ev_iconst 33 dX11_goesAndReturns_33 kI_1 ?_
        refine ev_goto 34 38 dX11_goesAndReturns_34 rfl ?_
        refine ev_ireturn 38 dX11_goesAndReturns_38 rfl rfl ?_
        exact kt (by unfold pG; simp only [h_2, h_10, Bool.true_and, decide_eq_true_eq]; exact Int32.not_lt.mp c_30)
    · refine ev_ifT 13 37 dX11_goesAndReturns_13 rfl (by decide) ?_
      refine ev_iconst 37 dX11_goesAndReturns_37 kI_0 ?_
      refine ev_ireturn 38 dX11_goesAndReturns_38 rfl rfl ?_
      exact kf (by unfold pG; simp [h_10])
  · refine ev_ifT 5 37 dX11_goesAndReturns_5 rfl (by decide) ?_
    refine ev_iconst 37 dX11_goesAndReturns_37 kI_0 ?_
    refine ev_ireturn 38 dX11_goesAndReturns_38 rfl rfl ?_
    exact kf (by unfold pG; simp [h_2])

theorem c_X11_tryTwo {X : pmX} {d : Nat} {v : pmV} {P : Option Value → pmT → pmV → Prop} {LT : pmT} {e : pmV} {n tx z r N i a b : Nat} {q : tQ} (hN : N ≤ 60) (hC : Cpl n tx z LT e) (hr : r < tx) (hab : a < b) (hb : b < N) (hi : i < n) (hB : TX e n r q v) (k : ∀ v', TX e n r (tS e n r N i a b q) v' → P none (pmT0 ++ LT) v') : EvP X (d + 12) MX11_tryTwo 0 [.ref 32, .int (nI N), .int (nI i), .int (nI a), .int (nI b), pmJ, pmJ] [] (pmT0 ++ LT) v P := by
  obtain ⟨e1, s, p, he, he2, h7, h8, hD, f0, f1, f2, hf⟩ := hB
  have hC1 := hC.eq he he2
  have hn8 := hC.2.1.1
  rcases hf with ⟨hqj, hqa, hqb, f3⟩ | ⟨j, hj, hqj, f3⟩
  · have g0 : e1.2.1 67 0 = -1 := by rw [f0, hqj]; decide +kernel
    have hq0 : q.2.1 < 0 := by rw [hqj]; decide
    refine ev_aload_n 0 dX11_tryTwo_0 rfl (by decide) ?_
    refine gf_11_51 (pc := 1) rfl dX11_tryTwo_1 kd_32 (rf_32_10 hD.1) ?_
    refine ev_iconst 4 dX11_tryTwo_4 kI_0 ?_
    refine ev_laldJ (x := (-1)) (j := 0) 5 dX11_tryTwo_5 (Nat.le_of_ble_eq_true rfl) ty_67 (by decide) rfl ((congrFun hD.rf 0).trans g0) ?_
    refine ev_ldc2 6 dX11_tryTwo_6 l2_11_191 ?_
    refine ev_lcmp 9 dX11_tryTwo_9 ?_
    refine ev_if_ne 10 19 dX11_tryTwo_10 rfl (fun c_10 => absurd (show lg_cmp (-1) (-1) = 0 by decide) c_10) (fun c_10 => ?_)
    refine ev_ldc2 13 dX11_tryTwo_13 l2_11_185 ?_
    refine ev_goto 16 25 dX11_tryTwo_16 rfl ?_
    refine ev_lstore (ls' := [.ref 32, .int (nI N), .int (nI i), .int (nI a), .int (nI b), .long 4611686018427387904, pmJ]) 25 dX11_tryTwo_25 (Nat.le_of_ble_eq_true rfl) rfl ?_
    refine ev_aload_n 27 dX11_tryTwo_27 rfl (by decide) ?_
    refine gf_11_47 (pc := 28) rfl dX11_tryTwo_28 kd_32 (rf_32_9 hD.1) ?_
    refine gf_11_294 (pc := 31) rfl dX11_tryTwo_31 kd_51 (rf_51_4 hD.1) ?_
    refine ev_iload_n 34 dX11_tryTwo_34 rfl ?_
    refine ev_iload_n 35 dX11_tryTwo_35 rfl ?_
    refine ev_iastJ (j := a) 36 dX11_tryTwo_36 (Nat.le_of_ble_eq_true rfl) ty_60 (pm_inI (by omega) (by omega)) (nI_clamp (by omega)) ?_
    refine ev_abs (Q := DX e1 n r (dU s 7 a (nI i)) p) (hD.u7 a (nI i)) (fun v1 hD => ?_)
    refine ev_aload_n 37 dX11_tryTwo_37 rfl (by decide) ?_
    refine gf_11_47 (pc := 38) rfl dX11_tryTwo_38 kd_32 (rf_32_9 hD.1) ?_
    refine gf_11_294 (pc := 41) rfl dX11_tryTwo_41 kd_51 (rf_51_4 hD.1) ?_
    refine ev_iload 44 dX11_tryTwo_44 rfl ?_
    refine ev_iload_n 46 dX11_tryTwo_46 rfl ?_
    refine ev_iastJ (j := b) 47 dX11_tryTwo_47 (Nat.le_of_ble_eq_true rfl) ty_60 (pm_inI (by omega) (by omega)) (nI_clamp (by omega)) ?_
    refine ev_abs (Q := DX e1 n r (dU (dU s 7 a (nI i)) 7 b (nI i)) p) (hD.u7 b (nI i)) (fun v2 hD => ?_)
    refine ev_aload_n 48 dX11_tryTwo_48 rfl (by decide) ?_
    refine gf_11_47 (pc := 49) rfl dX11_tryTwo_49 kd_32 (rf_32_9 hD.1) ?_
    refine ev_iload_n 52 dX11_tryTwo_52 rfl ?_
    refine ev_lload 53 dX11_tryTwo_53 rfl ?_
    refine cv_11_187_1 (pc := 55) rfl dX11_tryTwo_55 kd_51 (Nat.le_of_ble_eq_true rfl) ?_
    have e7 : (dU (dU s 7 a (nI i)) 7 b (nI i)) 7 = upd (upd plN a (nI i)) b (nI i) := by rw [dU_row, dU_row, h7]
    have e8 : (dU (dU s 7 a (nI i)) 7 b (nI i)) 8 = oN := by rw [dU_rne (by decide), dU_rne (by decide), h8]
    have hH : hOk (dU (dU s 7 a (nI i)) 7 b (nI i)) := ⟨0, by omega, by rw [e8]; rfl⟩
    refine c_X1_pass hN hC1 hr hD hH (fun v9 hD => ?_)
    have hlim := lim (r := r) (L := 4611686018427387904) hC1 hN e7 e8 ⟨rfl, rfl⟩
    have i7 := (pDayL_78 (e := e1) (n := n) (r := r) (L := 4611686018427387904) (Or.inl rfl) N 0 (pBeg e1 n (dU (dU s 7 a (nI i)) 7 b (nI i))) 0).trans (show pBeg e1 n (dU (dU s 7 a (nI i)) 7 b (nI i)) 7 = upd (upd plN a (nI i)) b (nI i) from e7)
    have i8 := (pDayL_78 (e := e1) (n := n) (r := r) (L := 4611686018427387904) (Or.inr rfl) N 0 (pBeg e1 n (dU (dU s 7 a (nI i)) 7 b (nI i))) 0).trans (show pBeg e1 n (dU (dU s 7 a (nI i)) 7 b (nI i)) 8 = oN from e8)
    generalize hR : pDayL e1 n r 4611686018427387904 N 0 (pBeg e1 n (dU (dU s 7 a (nI i)) 7 b (nI i))) 0 = R at hD hlim i7 i8
    refine ev_aload_n 58 dX11_tryTwo_58 rfl (by decide) ?_
    refine gf_11_47 (pc := 59) rfl dX11_tryTwo_59 kd_32 (rf_32_9 hD.1) ?_
    refine gf_11_294 (pc := 62) rfl dX11_tryTwo_62 kd_51 (rf_51_4 hD.1) ?_
    refine ev_iload_n 65 dX11_tryTwo_65 rfl ?_
    refine ev_iconst 66 dX11_tryTwo_66 kI_m1 ?_
    refine ev_iastJ (j := a) 67 dX11_tryTwo_67 (Nat.le_of_ble_eq_true rfl) ty_60 (pm_inI (by omega) (by omega)) (nI_clamp (by omega)) ?_
    refine ev_abs (Q := DX e1 n r (dU R.1 7 a (-1)) R.2) (hD.u7 a (-1)) (fun v3 hD => ?_)
    refine ev_aload_n 68 dX11_tryTwo_68 rfl (by decide) ?_
    refine gf_11_47 (pc := 69) rfl dX11_tryTwo_69 kd_32 (rf_32_9 hD.1) ?_
    refine gf_11_294 (pc := 72) rfl dX11_tryTwo_72 kd_51 (rf_51_4 hD.1) ?_
    refine ev_iload 75 dX11_tryTwo_75 rfl ?_
    refine ev_iconst 77 dX11_tryTwo_77 kI_m1 ?_
    refine ev_iastJ (j := b) 78 dX11_tryTwo_78 (Nat.le_of_ble_eq_true rfl) ty_60 (pm_inI (by omega) (by omega)) (nI_clamp (by omega)) ?_
    refine ev_abs (Q := DX e1 n r (dU (dU R.1 7 a (-1)) 7 b (-1)) R.2) (hD.u7 b (-1)) (fun v4 hD => ?_)
    refine ev_aload_n 79 dX11_tryTwo_79 rfl (by decide) ?_
    refine gf_11_47 (pc := 80) rfl dX11_tryTwo_80 kd_32 (rf_32_9 hD.1) ?_
    refine gf_11_165 (x := R.2) (pc := 83) rfl dX11_tryTwo_83 kd_51 hD.rp ?_
    refine ev_lload 86 dX11_tryTwo_86 rfl ?_
    refine ev_lcmp 88 dX11_tryTwo_88 ?_
    refine ev_if_geL (a := R.2) (b := 4611686018427387904) 89 130 dX11_tryTwo_89 rfl (fun c_89 => ?_) (fun c_89 => ?_)
    · refine ev_return 130 dX11_tryTwo_130 rfl ?_
      rcases hlim with ⟨l1, l2⟩ | ⟨l1, _, _⟩
      · exact absurd (pR_lt hC1 hN (r := r) ⟨rfl, rfl⟩) l2
      · exact absurd c_89 l1
    · refine ev_aload_n 92 dX11_tryTwo_92 rfl (by decide) ?_
      refine gf_11_51 (pc := 93) rfl dX11_tryTwo_93 kd_32 (rf_32_10 hD.1) ?_
      refine ev_iconst 96 dX11_tryTwo_96 kI_0 ?_
      refine ev_iload_n 97 dX11_tryTwo_97 rfl ?_
      refine ev_i2l 98 dX11_tryTwo_98 ?_
      refine ev_lastJ (j := 0) 99 dX11_tryTwo_99 (Nat.le_of_ble_eq_true rfl) ty_67 (by decide) rfl ?_
      refine ev_abs (Q := DX (uL e1 67 0 ((nI i).toInt64)) n r (dU (dU R.1 7 a (-1)) 7 b (-1)) R.2) (hD.fw 0 ((nI i).toInt64)) (fun v5 hD => ?_)
      refine ev_aload_n 100 dX11_tryTwo_100 rfl (by decide) ?_
      refine gf_11_51 (pc := 101) rfl dX11_tryTwo_101 kd_32 (rf_32_10 hD.1) ?_
      refine ev_iconst 104 dX11_tryTwo_104 kI_1 ?_
      refine ev_iload_n 105 dX11_tryTwo_105 rfl ?_
      refine ev_i2l 106 dX11_tryTwo_106 ?_
      refine ev_lastJ (j := 1) 107 dX11_tryTwo_107 (Nat.le_of_ble_eq_true rfl) ty_67 (by decide) rfl ?_
      refine ev_abs (Q := DX (uL (uL e1 67 0 ((nI i).toInt64)) 67 1 ((nI a).toInt64)) n r (dU (dU R.1 7 a (-1)) 7 b (-1)) R.2) (hD.fw 1 ((nI a).toInt64)) (fun v6 hD => ?_)
      refine ev_aload_n 108 dX11_tryTwo_108 rfl (by decide) ?_
      refine gf_11_51 (pc := 109) rfl dX11_tryTwo_109 kd_32 (rf_32_10 hD.1) ?_
      refine ev_iconst 112 dX11_tryTwo_112 kI_2 ?_
      refine ev_iload 113 dX11_tryTwo_113 rfl ?_
      refine ev_i2l 115 dX11_tryTwo_115 ?_
      refine ev_lastJ (j := 2) 116 dX11_tryTwo_116 (Nat.le_of_ble_eq_true rfl) ty_67 (by decide) rfl ?_
      refine ev_abs (Q := DX (uL (uL (uL e1 67 0 ((nI i).toInt64)) 67 1 ((nI a).toInt64)) 67 2 ((nI b).toInt64)) n r (dU (dU R.1 7 a (-1)) 7 b (-1)) R.2) (hD.fw 2 ((nI b).toInt64)) (fun v7 hD => ?_)
      refine ev_aload_n 117 dX11_tryTwo_117 rfl (by decide) ?_
      refine gf_11_51 (pc := 118) rfl dX11_tryTwo_118 kd_32 (rf_32_10 hD.1) ?_
      refine ev_iconst 121 dX11_tryTwo_121 kI_3 ?_
      refine ev_aload_n 122 dX11_tryTwo_122 rfl (by decide) ?_
      refine gf_11_47 (pc := 123) rfl dX11_tryTwo_123 kd_32 (rf_32_9 hD.1) ?_
      refine gf_11_165 (x := R.2) (pc := 126) rfl dX11_tryTwo_126 kd_51 hD.rp ?_
      refine ev_lastJ (j := 3) 129 dX11_tryTwo_129 (Nat.le_of_ble_eq_true rfl) ty_67 (by decide) rfl ?_
      refine ev_abs (Q := DX (uL (uL (uL (uL e1 67 0 ((nI i).toInt64)) 67 1 ((nI a).toInt64)) 67 2 ((nI b).toInt64)) 67 3 R.2) n r (dU (dU R.1 7 a (-1)) 7 b (-1)) R.2) (hD.fw 3 R.2) (fun v8 hD => ?_)
      refine ev_return 130 dX11_tryTwo_130 rfl ?_
      rcases hlim with ⟨l1, _⟩ | ⟨_, l2, l3⟩
      · exact absurd l1 c_89
      · have hb : tS e n r N i a b q = (R.2, nI i, nI a, nI b) := by unfold tS tT; rw [← pR_e he, if_pos hq0, ← l3]
        rw [hb] at k
        exact k _ ⟨uL (uL (uL (uL e1 67 0 ((nI i).toInt64)) 67 1 ((nI a).toInt64)) 67 2 ((nI b).toInt64)) 67 3 R.2, dU (dU R.1 7 a (-1)) 7 b (-1), R.2, he, he2, by rw [dU_row, dU_row, i7]; exact upd_back2, by rw [dU_rne (by decide), dU_rne (by decide)]; exact i8, hD, by rw [uL_off (by omega), uL_off (by omega), uL_off (by omega), uL_on], by rw [uL_off (by omega), uL_off (by omega), uL_on], by rw [uL_off (by omega), uL_on], Or.inr ⟨i, hi, rfl, by rw [uL_on]⟩⟩
  · have g0 : e1.2.1 67 0 = (nI j).toInt64 := by rw [f0, hqj]
    have hq0 : ¬ q.2.1 < 0 := by rw [hqj]; exact nI_pos (by omega)
    refine ev_aload_n 0 dX11_tryTwo_0 rfl (by decide) ?_
    refine gf_11_51 (pc := 1) rfl dX11_tryTwo_1 kd_32 (rf_32_10 hD.1) ?_
    refine ev_iconst 4 dX11_tryTwo_4 kI_0 ?_
    refine ev_laldJ (x := (nI j).toInt64) (j := 0) 5 dX11_tryTwo_5 (Nat.le_of_ble_eq_true rfl) ty_67 (by decide) rfl ((congrFun hD.rf 0).trans g0) ?_
    refine ev_ldc2 6 dX11_tryTwo_6 l2_11_191 ?_
    refine ev_lcmp 9 dX11_tryTwo_9 ?_
    refine ev_if_ne 10 19 dX11_tryTwo_10 rfl (fun c_10 => ?_) (fun c_10 => absurd ((lg_cmp_eq _ _).mp c_10) (lN_m1 (by omega)))
    refine ev_aload_n 19 dX11_tryTwo_19 rfl (by decide) ?_
    refine gf_11_51 (pc := 20) rfl dX11_tryTwo_20 kd_32 (rf_32_10 hD.1) ?_
    refine ev_iconst 23 dX11_tryTwo_23 kI_3 ?_
    refine ev_laldJ (x := q.1) (j := 3) 24 dX11_tryTwo_24 (Nat.le_of_ble_eq_true rfl) ty_67 (by decide) rfl ((congrFun hD.rf 3).trans f3) ?_
    refine ev_lstore (ls' := [.ref 32, .int (nI N), .int (nI i), .int (nI a), .int (nI b), .long q.1, pmJ]) 25 dX11_tryTwo_25 (Nat.le_of_ble_eq_true rfl) rfl ?_
    refine ev_aload_n 27 dX11_tryTwo_27 rfl (by decide) ?_
    refine gf_11_47 (pc := 28) rfl dX11_tryTwo_28 kd_32 (rf_32_9 hD.1) ?_
    refine gf_11_294 (pc := 31) rfl dX11_tryTwo_31 kd_51 (rf_51_4 hD.1) ?_
    refine ev_iload_n 34 dX11_tryTwo_34 rfl ?_
    refine ev_iload_n 35 dX11_tryTwo_35 rfl ?_
    refine ev_iastJ (j := a) 36 dX11_tryTwo_36 (Nat.le_of_ble_eq_true rfl) ty_60 (pm_inI (by omega) (by omega)) (nI_clamp (by omega)) ?_
    refine ev_abs (Q := DX e1 n r (dU s 7 a (nI i)) p) (hD.u7 a (nI i)) (fun v1 hD => ?_)
    refine ev_aload_n 37 dX11_tryTwo_37 rfl (by decide) ?_
    refine gf_11_47 (pc := 38) rfl dX11_tryTwo_38 kd_32 (rf_32_9 hD.1) ?_
    refine gf_11_294 (pc := 41) rfl dX11_tryTwo_41 kd_51 (rf_51_4 hD.1) ?_
    refine ev_iload 44 dX11_tryTwo_44 rfl ?_
    refine ev_iload_n 46 dX11_tryTwo_46 rfl ?_
    refine ev_iastJ (j := b) 47 dX11_tryTwo_47 (Nat.le_of_ble_eq_true rfl) ty_60 (pm_inI (by omega) (by omega)) (nI_clamp (by omega)) ?_
    refine ev_abs (Q := DX e1 n r (dU (dU s 7 a (nI i)) 7 b (nI i)) p) (hD.u7 b (nI i)) (fun v2 hD => ?_)
    refine ev_aload_n 48 dX11_tryTwo_48 rfl (by decide) ?_
    refine gf_11_47 (pc := 49) rfl dX11_tryTwo_49 kd_32 (rf_32_9 hD.1) ?_
    refine ev_iload_n 52 dX11_tryTwo_52 rfl ?_
    refine ev_lload 53 dX11_tryTwo_53 rfl ?_
    refine cv_11_187_1 (pc := 55) rfl dX11_tryTwo_55 kd_51 (Nat.le_of_ble_eq_true rfl) ?_
    have e7 : (dU (dU s 7 a (nI i)) 7 b (nI i)) 7 = upd (upd plN a (nI i)) b (nI i) := by rw [dU_row, dU_row, h7]
    have e8 : (dU (dU s 7 a (nI i)) 7 b (nI i)) 8 = oN := by rw [dU_rne (by decide), dU_rne (by decide), h8]
    have hH : hOk (dU (dU s 7 a (nI i)) 7 b (nI i)) := ⟨0, by omega, by rw [e8]; rfl⟩
    refine c_X1_pass hN hC1 hr hD hH (fun v9 hD => ?_)
    have hlim := lim (r := r) (L := q.1) hC1 hN e7 e8 ⟨rfl, rfl⟩
    have i7 := (pDayL_78 (e := e1) (n := n) (r := r) (L := q.1) (Or.inl rfl) N 0 (pBeg e1 n (dU (dU s 7 a (nI i)) 7 b (nI i))) 0).trans (show pBeg e1 n (dU (dU s 7 a (nI i)) 7 b (nI i)) 7 = upd (upd plN a (nI i)) b (nI i) from e7)
    have i8 := (pDayL_78 (e := e1) (n := n) (r := r) (L := q.1) (Or.inr rfl) N 0 (pBeg e1 n (dU (dU s 7 a (nI i)) 7 b (nI i))) 0).trans (show pBeg e1 n (dU (dU s 7 a (nI i)) 7 b (nI i)) 8 = oN from e8)
    generalize hR : pDayL e1 n r q.1 N 0 (pBeg e1 n (dU (dU s 7 a (nI i)) 7 b (nI i))) 0 = R at hD hlim i7 i8
    refine ev_aload_n 58 dX11_tryTwo_58 rfl (by decide) ?_
    refine gf_11_47 (pc := 59) rfl dX11_tryTwo_59 kd_32 (rf_32_9 hD.1) ?_
    refine gf_11_294 (pc := 62) rfl dX11_tryTwo_62 kd_51 (rf_51_4 hD.1) ?_
    refine ev_iload_n 65 dX11_tryTwo_65 rfl ?_
    refine ev_iconst 66 dX11_tryTwo_66 kI_m1 ?_
    refine ev_iastJ (j := a) 67 dX11_tryTwo_67 (Nat.le_of_ble_eq_true rfl) ty_60 (pm_inI (by omega) (by omega)) (nI_clamp (by omega)) ?_
    refine ev_abs (Q := DX e1 n r (dU R.1 7 a (-1)) R.2) (hD.u7 a (-1)) (fun v3 hD => ?_)
    refine ev_aload_n 68 dX11_tryTwo_68 rfl (by decide) ?_
    refine gf_11_47 (pc := 69) rfl dX11_tryTwo_69 kd_32 (rf_32_9 hD.1) ?_
    refine gf_11_294 (pc := 72) rfl dX11_tryTwo_72 kd_51 (rf_51_4 hD.1) ?_
    refine ev_iload 75 dX11_tryTwo_75 rfl ?_
    refine ev_iconst 77 dX11_tryTwo_77 kI_m1 ?_
    refine ev_iastJ (j := b) 78 dX11_tryTwo_78 (Nat.le_of_ble_eq_true rfl) ty_60 (pm_inI (by omega) (by omega)) (nI_clamp (by omega)) ?_
    refine ev_abs (Q := DX e1 n r (dU (dU R.1 7 a (-1)) 7 b (-1)) R.2) (hD.u7 b (-1)) (fun v4 hD => ?_)
    refine ev_aload_n 79 dX11_tryTwo_79 rfl (by decide) ?_
    refine gf_11_47 (pc := 80) rfl dX11_tryTwo_80 kd_32 (rf_32_9 hD.1) ?_
    refine gf_11_165 (x := R.2) (pc := 83) rfl dX11_tryTwo_83 kd_51 hD.rp ?_
    refine ev_lload 86 dX11_tryTwo_86 rfl ?_
    refine ev_lcmp 88 dX11_tryTwo_88 ?_
    refine ev_if_geL (a := R.2) (b := q.1) 89 130 dX11_tryTwo_89 rfl (fun c_89 => ?_) (fun c_89 => ?_)
    · refine ev_return 130 dX11_tryTwo_130 rfl ?_
      rcases hlim with ⟨l1, l2⟩ | ⟨l1, _, _⟩
      · have hb : tS e n r N i a b q = q := by unfold tS tT; rw [if_neg hq0, ← pR_e he, if_neg l2]
        rw [hb] at k
        exact k _ ⟨e1, _, _, he, he2, by rw [dU_row, dU_row, i7]; exact upd_back2, by rw [dU_rne (by decide), dU_rne (by decide)]; exact i8, hD, f0, f1, f2, Or.inr ⟨j, hj, hqj, f3⟩⟩
      · exact absurd c_89 l1
    · refine ev_aload_n 92 dX11_tryTwo_92 rfl (by decide) ?_
      refine gf_11_51 (pc := 93) rfl dX11_tryTwo_93 kd_32 (rf_32_10 hD.1) ?_
      refine ev_iconst 96 dX11_tryTwo_96 kI_0 ?_
      refine ev_iload_n 97 dX11_tryTwo_97 rfl ?_
      refine ev_i2l 98 dX11_tryTwo_98 ?_
      refine ev_lastJ (j := 0) 99 dX11_tryTwo_99 (Nat.le_of_ble_eq_true rfl) ty_67 (by decide) rfl ?_
      refine ev_abs (Q := DX (uL e1 67 0 ((nI i).toInt64)) n r (dU (dU R.1 7 a (-1)) 7 b (-1)) R.2) (hD.fw 0 ((nI i).toInt64)) (fun v5 hD => ?_)
      refine ev_aload_n 100 dX11_tryTwo_100 rfl (by decide) ?_
      refine gf_11_51 (pc := 101) rfl dX11_tryTwo_101 kd_32 (rf_32_10 hD.1) ?_
      refine ev_iconst 104 dX11_tryTwo_104 kI_1 ?_
      refine ev_iload_n 105 dX11_tryTwo_105 rfl ?_
      refine ev_i2l 106 dX11_tryTwo_106 ?_
      refine ev_lastJ (j := 1) 107 dX11_tryTwo_107 (Nat.le_of_ble_eq_true rfl) ty_67 (by decide) rfl ?_
      refine ev_abs (Q := DX (uL (uL e1 67 0 ((nI i).toInt64)) 67 1 ((nI a).toInt64)) n r (dU (dU R.1 7 a (-1)) 7 b (-1)) R.2) (hD.fw 1 ((nI a).toInt64)) (fun v6 hD => ?_)
      refine ev_aload_n 108 dX11_tryTwo_108 rfl (by decide) ?_
      refine gf_11_51 (pc := 109) rfl dX11_tryTwo_109 kd_32 (rf_32_10 hD.1) ?_
      refine ev_iconst 112 dX11_tryTwo_112 kI_2 ?_
      refine ev_iload 113 dX11_tryTwo_113 rfl ?_
      refine ev_i2l 115 dX11_tryTwo_115 ?_
      refine ev_lastJ (j := 2) 116 dX11_tryTwo_116 (Nat.le_of_ble_eq_true rfl) ty_67 (by decide) rfl ?_
      refine ev_abs (Q := DX (uL (uL (uL e1 67 0 ((nI i).toInt64)) 67 1 ((nI a).toInt64)) 67 2 ((nI b).toInt64)) n r (dU (dU R.1 7 a (-1)) 7 b (-1)) R.2) (hD.fw 2 ((nI b).toInt64)) (fun v7 hD => ?_)
      refine ev_aload_n 117 dX11_tryTwo_117 rfl (by decide) ?_
      refine gf_11_51 (pc := 118) rfl dX11_tryTwo_118 kd_32 (rf_32_10 hD.1) ?_
      refine ev_iconst 121 dX11_tryTwo_121 kI_3 ?_
      refine ev_aload_n 122 dX11_tryTwo_122 rfl (by decide) ?_
      refine gf_11_47 (pc := 123) rfl dX11_tryTwo_123 kd_32 (rf_32_9 hD.1) ?_
      refine gf_11_165 (x := R.2) (pc := 126) rfl dX11_tryTwo_126 kd_51 hD.rp ?_
      refine ev_lastJ (j := 3) 129 dX11_tryTwo_129 (Nat.le_of_ble_eq_true rfl) ty_67 (by decide) rfl ?_
      refine ev_abs (Q := DX (uL (uL (uL (uL e1 67 0 ((nI i).toInt64)) 67 1 ((nI a).toInt64)) 67 2 ((nI b).toInt64)) 67 3 R.2) n r (dU (dU R.1 7 a (-1)) 7 b (-1)) R.2) (hD.fw 3 R.2) (fun v8 hD => ?_)
      refine ev_return 130 dX11_tryTwo_130 rfl ?_
      rcases hlim with ⟨l1, _⟩ | ⟨_, l2, l3⟩
      · exact absurd l1 c_89
      · have hb : tS e n r N i a b q = (R.2, nI i, nI a, nI b) := by unfold tS tT; rw [← pR_e he, if_neg hq0, if_pos l2, ← l3]
        rw [hb] at k
        exact k _ ⟨uL (uL (uL (uL e1 67 0 ((nI i).toInt64)) 67 1 ((nI a).toInt64)) 67 2 ((nI b).toInt64)) 67 3 R.2, dU (dU R.1 7 a (-1)) 7 b (-1), R.2, he, he2, by rw [dU_row, dU_row, i7]; exact upd_back2, by rw [dU_rne (by decide), dU_rne (by decide)]; exact i8, hD, by rw [uL_off (by omega), uL_off (by omega), uL_off (by omega), uL_on], by rw [uL_off (by omega), uL_off (by omega), uL_on], by rw [uL_off (by omega), uL_on], Or.inr ⟨i, hi, rfl, by rw [uL_on]⟩⟩
