/-! enough, worth -/
def oE (w t : Nat) : Nat → Int32 := fun j => if j = 1 then -1 else if j = 2 then nI w else if j = 3 then nI (5 * t) else 0
def pE (e : pmV) (n r N w t : Nat) : Int32 := (pR e n r plN (oE w t) N).1 0 w
def pEn (e : pmV) (n r N w : Nat) : Nat → Nat → Int32
  | 0, _ => -1
  | k + 1, t => if pE e n r N w t = 0 then nI t else pEn e n r N w k (t + 1)
def EX (e v : pmV) : Prop := pmRf v ∧ dFr DcX e v ∧ v.2.1 67 = e.2.1 67
theorem oE_row {w t : Nat} : upd (upd oN 2 (nI w)) 3 (nI (5 * t)) = oE w t := funext fun j => by
  by_cases h3 : j = 3
  · subst h3; rw [pk_us]; rfl
  · rw [pk_un h3]
    by_cases h2 : j = 2
    · subst h2; rw [pk_us]; rfl
    · rw [pk_un h2]; unfold oN oE
      by_cases h1 : j = 1
      · rw [if_pos h1, if_pos h1]
      · rw [if_neg h1, if_neg h1, if_neg h2, if_neg h3]
theorem lp_en {X : pmX} {d : Nat} {P : Option Value → pmT → pmV → Prop} {LT : pmT} {e : pmV} {n tx z r N w : Nat} (hN : N ≤ 60) (hw : w < 2) (hC : Cpl n tx z LT e) (hr : r < tx) (hr1 : e.1 34 6 = nI r)  : ∀ (k : Nat) (i : Nat) (v : pmV), i + k = 21 → EX e v → (∀ v', EX e v' → P (some (.int (pEn e n r N w k i))) (pmT0 ++ LT) v') → EvP X (d + 13) MX11_enough 24 [.ref 32, .int (nI N), .int (nI w), .int (nI i)] [] (pmT0 ++ LT) v P := by
  intro k
  induction k with
  | zero =>
    intro i v hi hE K
    have hi2 : i = 21 := by omega
    subst hi2
    refine ev_iload_n 24 dX11_enough_24 rfl ?_
    refine ev_bipush 25 dX11_enough_25 kB_20 ?_
    refine ev_ic_gtN (a := 21) (b := 20) 27 83 dX11_enough_27 rfl (by omega) (by omega) (fun c_27 => ?_) (fun c_27 => by omega)
    refine ev_iconst 83 dX11_enough_83 kI_m1 ?_
    refine ev_ireturn 84 dX11_enough_84 rfl rfl ?_
    exact K v hE
  | succ k ih =>
    intro i v hi hE K
    have hn8 := hC.2.1.1
    refine ev_iload_n 24 dX11_enough_24 rfl ?_
    refine ev_bipush 25 dX11_enough_25 kB_20 ?_
    refine ev_ic_gtN (a := i) (b := 20) 27 83 dX11_enough_27 rfl (by omega) (by omega) (fun c_27 => by omega) (fun c_27 => ?_)
    refine ev_aload_n 30 dX11_enough_30 rfl (by decide) ?_
    refine cv_11_182_11 (pc := 31) rfl dX11_enough_31 kd_32 (Nat.le_of_ble_eq_true rfl) ?_
    refine c_X11_readyCourse hC hr hr1 hE.1 hE.2.1 hE.2.2 (fun v1 s0 p0 h7 h8 hD => ?_)
    refine ev_aload_n 34 dX11_enough_34 rfl (by decide) ?_
    refine gf_11_47 (pc := 35) rfl dX11_enough_35 kd_32 (rf_32_9 hD.1) ?_
    refine ev_iload_n 38 dX11_enough_38 rfl ?_
    refine pf_11_211 (pc := 39) rfl dX11_enough_39 kd_51 ?_
    refine ev_abs (Q := DX e n r (dU s0 8 2 (nI w)) p0) (hD.u8_2 (nI w)) (fun v1 hD => ?_)
    refine ev_aload_n 42 dX11_enough_42 rfl (by decide) ?_
    refine gf_11_47 (pc := 43) rfl dX11_enough_43 kd_32 (rf_32_9 hD.1) ?_
    refine ev_iconst 46 dX11_enough_46 kI_5 ?_
    refine ev_iload_n 47 dX11_enough_47 rfl ?_
    refine ev_imul 48 dX11_enough_48 ?_
    refine ev_cst (y := nI (5 * i)) (nI_mulp 5 i) ?_
    refine pf_11_214 (pc := 49) rfl dX11_enough_49 kd_51 ?_
    refine ev_abs (Q := DX e n r (dU (dU s0 8 2 (nI w)) 8 3 (nI (5 * i))) p0) (hD.u8_3 (nI (5 * i))) (fun v2 hD => ?_)
    refine ev_aload_n 52 dX11_enough_52 rfl (by decide) ?_
    refine gf_11_47 (pc := 53) rfl dX11_enough_53 kd_32 (rf_32_9 hD.1) ?_
    refine ev_iload_n 56 dX11_enough_56 rfl ?_
    refine ev_ldc2 57 dX11_enough_57 l2_11_185 ?_
    refine cv_11_187_1 (pc := 60) rfl dX11_enough_60 kd_51 (Nat.le_of_ble_eq_true rfl) ?_
    have e7 : (dU (dU s0 8 2 (nI w)) 8 3 (nI (5 * i))) 7 = plN := by rw [dU_rne (by decide), dU_rne (by decide), h7]; rfl
    have e8 : (dU (dU s0 8 2 (nI w)) 8 3 (nI (5 * i))) 8 = oE w i := by rw [dU_row, dU_row, h8]; exact oE_row
    have hH : hOk2 (dU (dU s0 8 2 (nI w)) 8 3 (nI (5 * i))) := ⟨w, 5 * i, hw, by omega, by rw [e8]; rfl, by rw [e8]; rfl⟩
    refine c_X1_pass hN hC hr hD hH.ok (fun v3 hD => ?_)
    rw [full hC hN hH, pBeg_s e7 e8] at hD
    refine ev_aload_n 63 dX11_enough_63 rfl (by decide) ?_
    refine gf_11_47 (pc := 64) rfl dX11_enough_64 kd_32 (rf_32_9 hD.1) ?_
    refine gf_11_169 (pc := 67) rfl dX11_enough_67 kd_51 (rf_51_11 hD.1) ?_
    refine ev_iload_n 70 dX11_enough_70 rfl ?_
    refine ev_ialdJ (x := ((pR e n r plN (oE w i) N).1) 0 w) (j := w) 71 dX11_enough_71 (Nat.le_of_ble_eq_true rfl) ty_63 (pm_inI (by omega) (by omega)) (nI_clamp (by omega)) (hD.r0 (by omega)) ?_
    refine ev_if_ne 72 77 dX11_enough_72 rfl (fun c_72 => ?_) (fun c_72 => ?_)
    · refine ev_iinc (y := nI (i + 1)) (ls' := [.ref 32, .int (nI N), .int (nI w), .int (nI (i + 1))]) 77 dX11_enough_77 rfl (nI_add i 1) rfl ?_
      refine ev_goto 80 24 dX11_enough_80 rfl ?_
      exact ih (i + 1) _ (by omega) ⟨hD.1, hD.fd, hD.rf⟩ (fun v2 h2 => K v2 h2 |> fun z => by rw [pEn, if_neg (show ¬ pE e n r N w i = 0 from c_72)] at z; exact z)
    · refine ev_iload_n 75 dX11_enough_75 rfl ?_
      refine ev_ireturn 76 dX11_enough_76 rfl rfl ?_
      exact K v3 ⟨hD.1, hD.fd, hD.rf⟩ |> fun z => by rw [pEn, if_pos (show pE e n r N w i = 0 from c_72)] at z; exact z

theorem c_X11_enough_1 {X : pmX} {d : Nat} {v : pmV} {P : Option Value → pmT → pmV → Prop} {LT : pmT} {a b : Int32} (h1 : ¬ ((1 : Int32) ≤ a ∧ a ≤ 60)) (k : P (some (.int (-2))) (pmT0 ++ LT) v) : EvP X (d + 3) MX11_enough 0 [.ref 32, .int a, .int b, pmJ] [] (pmT0 ++ LT) v P := by
  refine ev_iload_n 0 dX11_enough_0 rfl ?_
  refine ev_iconst 1 dX11_enough_1 kI_1 ?_
  refine ev_bipush 2 dX11_enough_2 kB_60 ?_
  refine cs_11_74 (pc := 4) rfl dX11_enough_4 (Nat.le_of_ble_eq_true rfl) ?_
  refine c_X11_isIn (fun h_4 => absurd h_4 h1) (fun h_4 => ?_)
  refine ev_ifT 7 19 dX11_enough_7 rfl (by decide) ?_
  refine ev_bipush 19 dX11_enough_19 kB_m2 ?_
  refine ev_ireturn 21 dX11_enough_21 rfl rfl ?_
  exact k

theorem c_X11_enough_2 {X : pmX} {d : Nat} {v : pmV} {P : Option Value → pmT → pmV → Prop} {LT : pmT} {a b : Int32} (h1 : (1 : Int32) ≤ a ∧ a ≤ 60) (h2 : ¬ (0 ≤ b ∧ b ≤ 1)) (k : P (some (.int (-2))) (pmT0 ++ LT) v) : EvP X (d + 3) MX11_enough 0 [.ref 32, .int a, .int b, pmJ] [] (pmT0 ++ LT) v P := by
  refine ev_iload_n 0 dX11_enough_0 rfl ?_
  refine ev_iconst 1 dX11_enough_1 kI_1 ?_
  refine ev_bipush 2 dX11_enough_2 kB_60 ?_
  refine cs_11_74 (pc := 4) rfl dX11_enough_4 (Nat.le_of_ble_eq_true rfl) ?_
  refine c_X11_isIn (fun h_4 => ?_) (fun h_4 => absurd h1 h_4)
  refine ev_ifF 7 19 dX11_enough_7 rfl (by decide) ?_
  refine ev_iload_n 10 dX11_enough_10 rfl ?_
  refine ev_iconst 11 dX11_enough_11 kI_0 ?_
  refine ev_iconst 12 dX11_enough_12 kI_1 ?_
  refine cs_11_74 (pc := 13) rfl dX11_enough_13 (Nat.le_of_ble_eq_true rfl) ?_
  refine c_X11_isIn (fun h_13 => absurd h_13 h2) (fun h_13 => ?_)
  refine ev_ifF 16 22 dX11_enough_16 rfl (by decide) ?_
  refine ev_bipush 19 dX11_enough_19 kB_m2 ?_
  refine ev_ireturn 21 dX11_enough_21 rfl rfl ?_
  exact k

theorem c_X11_enough_ok {X : pmX} {d : Nat} {v : pmV} {P : Option Value → pmT → pmV → Prop} {LT : pmT} {n tx z r N w : Nat} (hN : N ≤ 60) (hw : w < 2) (hC : Cpl n tx z LT v) (hr : r < tx) (hr1 : v.1 34 6 = nI r) (h1 : (1 : Int32) ≤ nI N ∧ nI N ≤ 60) (h2 : (0 : Int32) ≤ nI w ∧ nI w ≤ 1) (k : ∀ v', EX v v' → P (some (.int (pEn v n r N w 21 0))) (pmT0 ++ LT) v') : EvP X (d + 13) MX11_enough 0 [.ref 32, .int (nI N), .int (nI w), pmJ] [] (pmT0 ++ LT) v P := by
  refine ev_iload_n 0 dX11_enough_0 rfl ?_
  refine ev_iconst 1 dX11_enough_1 kI_1 ?_
  refine ev_bipush 2 dX11_enough_2 kB_60 ?_
  refine cs_11_74 (pc := 4) rfl dX11_enough_4 (Nat.le_of_ble_eq_true rfl) ?_
  refine c_X11_isIn (fun h_4 => ?_) (fun h_4 => absurd h1 h_4)
  refine ev_ifF 7 19 dX11_enough_7 rfl (by decide) ?_
  refine ev_iload_n 10 dX11_enough_10 rfl ?_
  refine ev_iconst 11 dX11_enough_11 kI_0 ?_
  refine ev_iconst 12 dX11_enough_12 kI_1 ?_
  refine cs_11_74 (pc := 13) rfl dX11_enough_13 (Nat.le_of_ble_eq_true rfl) ?_
  refine c_X11_isIn (fun h_13 => ?_) (fun h_13 => absurd h2 h_13)
  refine ev_ifT 16 22 dX11_enough_16 rfl (by decide) ?_
  refine ev_iconst 22 dX11_enough_22 kI_0 ?_
  refine ev_istore_n (ls' := [.ref 32, .int (nI N), .int (nI w), .int 0]) 23 dX11_enough_23 (Nat.le_of_ble_eq_true rfl) rfl ?_
  exact lp_en hN hw hC hr hr1 21 0 v rfl ⟨hC.1, dFr.rfl, rfl⟩ k

def MW (e : pmV) (n w : Nat) (v : pmV) : Prop := ∃ (g : Nat → Int32) (s : dT) (p : Int64), DM e n g s p v ∧ g 0 = -1 ∧ g 1 = nI w
theorem lp_ene {X : pmX} {d : Nat} {P : Option Value → pmT → pmV → Prop} {LT : pmT} {e : pmV} {n tx z r N w : Nat} (hw : w < 2) (hN : 1 ≤ N ∧ N ≤ 60) (hC : Cpl n tx z LT e) (hr : r < tx) (hr2 : e.1 100 11 = nI r) : ∀ (k : Nat) (x : Int32) (v : pmV), k ≤ 21 → MW e n w v → x = pEn e n r N w (21 - k) k → (∀ v', MW e n w v' → EvP X (d + 8) MX12_enough 74 [.ref 100, .int (nI N), .int (nI w), .int (pEn e n r N w 21 0), .int (nI 0 - 1)] [] (pmT0 ++ LT) v' P) → EvP X (d + 8) MX12_enough 35 [.ref 100, .int (nI N), .int (nI w), .int x, .int (nI k - 1)] [] (pmT0 ++ LT) v P := by
  intro k
  induction k with
  | zero =>
    intro x v hk hM hx K
    subst hx
    refine ev_iload 35 dX12_enough_35 rfl ?_
    refine ev_if_lt 37 74 dX12_enough_37 rfl (fun c_37 => ?_) (fun c_37 => absurd (show nI 0 - 1 < 0 by decide) c_37)
    exact K v hM
  | succ j ih =>
    intro x v hk hM hx K
    rw [nI_pred]
    obtain ⟨g, s, p, hD, g0, g1⟩ := hM
    refine ev_iload 35 dX12_enough_35 rfl ?_
    refine ev_if_lt 37 74 dX12_enough_37 rfl (fun c_37 => absurd c_37 (nI_pos (by omega))) (fun c_37 => ?_)
    refine ev_aload_n 40 dX12_enough_40 rfl (by decide) ?_
    refine ev_iload 41 dX12_enough_41 rfl ?_
    refine pf_12_161 (pc := 43) rfl dX12_enough_43 kd_100 ?_
    refine ev_abs (Q := DM e n (upd g 2 (nI j)) s p) (hD.ug2 (nI j)) (fun v1 hD => ?_)
    refine ev_aload_n 46 dX12_enough_46 rfl (by decide) ?_
    refine ev_iload_n 47 dX12_enough_47 rfl ?_
    refine ev_iconst 48 dX12_enough_48 kI_m1 ?_
    refine cv_12_316_12 (pc := 49) rfl dX12_enough_49 kd_100 (Nat.le_of_ble_eq_true rfl) ?_
    have q0 : (upd g 2 (nI j)) 0 = -1 := by rw [pk_un (by decide)]; exact g0
    have q1 : (upd g 2 (nI j)) 1 = nI w := by rw [pk_un (by decide)]; exact g1
    have q2 : (upd g 2 (nI j)) 2 = nI j := pk_us
    refine c_X12_go (sG := sGf plN (oE w j)) hN hC hr hr2 hD (Or.inr (Or.inr (Or.inl ⟨rfl, rfl, fun _ _ => rfl⟩))) (show (-1 : Int32) = _ from q0.symm) (Or.inr ⟨w, j, hw, by omega, q1, q2, rfl, rfl⟩) (fun v9 hD => ?_)
    refine ev_aload_n 52 dX12_enough_52 rfl (by decide) ?_
    refine gf_12_134 (pc := 53) rfl dX12_enough_53 kd_100 (rf_100_27 hD.1) ?_
    refine ev_iload_n 56 dX12_enough_56 rfl ?_
    refine ev_ialdJ (x := ((pR e n r plN (oE w j) N).1) 0 w) (j := w) 57 dX12_enough_57 (Nat.le_of_ble_eq_true rfl) ty_113 (pm_inI (by omega) (by omega)) (nI_clamp (by omega)) (hD.r0 (by omega)) ?_
    refine ev_if_ne 58 66 dX12_enough_58 rfl (fun c_58 => ?_) (fun c_58 => ?_)
    · refine ev_iload_n 66 dX12_enough_66 rfl ?_
      refine ev_istore_n (ls' := [.ref 100, .int (nI N), .int (nI w), .int x, .int (nI j)]) 67 dX12_enough_67 (Nat.le_of_ble_eq_true rfl) rfl ?_
      refine ev_iinc (y := nI j - 1) (ls' := [.ref 100, .int (nI N), .int (nI w), .int x, .int (nI j - 1)]) 68 dX12_enough_68 rfl (i_dec _) rfl ?_
      refine ev_goto 71 35 dX12_enough_71 rfl ?_
      have hE : pEn e n r N w (21 - j) j = if pE e n r N w j = 0 then nI j else pEn e n r N w (21 - (j + 1)) (j + 1) := by
        rw [show 21 - j = (21 - (j + 1)) + 1 by omega, pEn]
      rw [if_neg (show ¬ pE e n r N w j = 0 from c_58)] at hE
      exact ih _ _ (by omega) ⟨_, _, _, hD, q0, q1⟩ (hx.trans hE.symm) K
    · refine ev_iload 61 dX12_enough_61 rfl ?_
      refine ev_goto 63 67 dX12_enough_63 rfl ?_
      refine ev_istore_n (ls' := [.ref 100, .int (nI N), .int (nI w), .int (nI j), .int (nI j)]) 67 dX12_enough_67 (Nat.le_of_ble_eq_true rfl) rfl ?_
      refine ev_iinc (y := nI j - 1) (ls' := [.ref 100, .int (nI N), .int (nI w), .int (nI j), .int (nI j - 1)]) 68 dX12_enough_68 rfl (i_dec _) rfl ?_
      refine ev_goto 71 35 dX12_enough_71 rfl ?_
      have hE : pEn e n r N w (21 - j) j = if pE e n r N w j = 0 then nI j else pEn e n r N w (21 - (j + 1)) (j + 1) := by
        rw [show 21 - j = (21 - (j + 1)) + 1 by omega, pEn]
      rw [if_pos (show pE e n r N w j = 0 from c_58)] at hE
      exact ih _ _ (by omega) ⟨_, _, _, hD, q0, q1⟩ hE.symm K
theorem c_X12_enough_1 {X : pmX} {d : Nat} {v : pmV} {P : Option Value → pmT → pmV → Prop} {LT : pmT} {a b : Int32} (h1 : ¬ ((1 : Int32) ≤ a ∧ a ≤ 60)) (k : P (some (.int (-2))) (pmT0 ++ LT) v) : EvP X (d + 2) MX12_enough 0 [.ref 100, .int a, .int b, pmJ, pmJ] [] (pmT0 ++ LT) v P := by
  refine ev_aload_n 0 dX12_enough_0 rfl (by decide) ?_
  refine ev_iload_n 1 dX12_enough_1 rfl ?_
  refine ev_iconst 2 dX12_enough_2 kI_1 ?_
  refine ev_bipush 3 dX12_enough_3 kB_60 ?_
  refine cv_12_7_12 (pc := 5) rfl dX12_enough_5 kd_100 (Nat.le_of_ble_eq_true rfl) ?_
  refine c_X12_in (fun h_5 => absurd h_5 h1) (fun h_5 => ?_)
  refine ev_ifT 8 21 dX12_enough_8 rfl (by decide) ?_
  refine ev_bipush 21 dX12_enough_21 kB_m2 ?_
  refine ev_ireturn 23 dX12_enough_23 rfl rfl ?_
  exact k

theorem c_X12_enough_2 {X : pmX} {d : Nat} {v : pmV} {P : Option Value → pmT → pmV → Prop} {LT : pmT} {a b : Int32} (h1 : (1 : Int32) ≤ a ∧ a ≤ 60) (h2 : ¬ (0 ≤ b ∧ b ≤ 1)) (k : P (some (.int (-2))) (pmT0 ++ LT) v) : EvP X (d + 2) MX12_enough 0 [.ref 100, .int a, .int b, pmJ, pmJ] [] (pmT0 ++ LT) v P := by
  refine ev_aload_n 0 dX12_enough_0 rfl (by decide) ?_
  refine ev_iload_n 1 dX12_enough_1 rfl ?_
  refine ev_iconst 2 dX12_enough_2 kI_1 ?_
  refine ev_bipush 3 dX12_enough_3 kB_60 ?_
  refine cv_12_7_12 (pc := 5) rfl dX12_enough_5 kd_100 (Nat.le_of_ble_eq_true rfl) ?_
  refine c_X12_in (fun h_5 => ?_) (fun h_5 => absurd h1 h_5)
  refine ev_ifF 8 21 dX12_enough_8 rfl (by decide) ?_
  refine ev_aload_n 11 dX12_enough_11 rfl (by decide) ?_
  refine ev_iload_n 12 dX12_enough_12 rfl ?_
  refine ev_iconst 13 dX12_enough_13 kI_0 ?_
  refine ev_iconst 14 dX12_enough_14 kI_1 ?_
  refine cv_12_7_12 (pc := 15) rfl dX12_enough_15 kd_100 (Nat.le_of_ble_eq_true rfl) ?_
  refine c_X12_in (fun h_15 => absurd h_15 h2) (fun h_15 => ?_)
  refine ev_ifF 18 24 dX12_enough_18 rfl (by decide) ?_
  refine ev_bipush 21 dX12_enough_21 kB_m2 ?_
  refine ev_ireturn 23 dX12_enough_23 rfl rfl ?_
  exact k

theorem c_X12_enough_ok {X : pmX} {d : Nat} {v : pmV} {P : Option Value → pmT → pmV → Prop} {LT : pmT} {e : pmV} {n tx z r N w : Nat} (hw : w < 2) (hN : 1 ≤ N ∧ N ≤ 60) (hC : Cpl n tx z LT e) (hr : r < tx) (hr2 : e.1 100 11 = nI r) (hM : MX e n v) (h1 : (1 : Int32) ≤ nI N ∧ nI N ≤ 60) (h2 : (0 : Int32) ≤ nI w ∧ nI w ≤ 1) (k : ∀ v', MX e n v' → P (some (.int (pEn e n r N w 21 0))) (pmT0 ++ LT) v') : EvP X (d + 8) MX12_enough 0 [.ref 100, .int (nI N), .int (nI w), pmJ, pmJ] [] (pmT0 ++ LT) v P := by
  obtain ⟨g, s, p, hD, g0, g1⟩ := hM
  refine ev_aload_n 0 dX12_enough_0 rfl (by decide) ?_
  refine ev_iload_n 1 dX12_enough_1 rfl ?_
  refine ev_iconst 2 dX12_enough_2 kI_1 ?_
  refine ev_bipush 3 dX12_enough_3 kB_60 ?_
  refine cv_12_7_12 (pc := 5) rfl dX12_enough_5 kd_100 (Nat.le_of_ble_eq_true rfl) ?_
  refine c_X12_in (fun h_5 => ?_) (fun h_5 => absurd h1 h_5)
  refine ev_ifF 8 21 dX12_enough_8 rfl (by decide) ?_
  refine ev_aload_n 11 dX12_enough_11 rfl (by decide) ?_
  refine ev_iload_n 12 dX12_enough_12 rfl ?_
  refine ev_iconst 13 dX12_enough_13 kI_0 ?_
  refine ev_iconst 14 dX12_enough_14 kI_1 ?_
  refine cv_12_7_12 (pc := 15) rfl dX12_enough_15 kd_100 (Nat.le_of_ble_eq_true rfl) ?_
  refine c_X12_in (fun h_15 => ?_) (fun h_15 => absurd h2 h_15)
  refine ev_ifT 18 24 dX12_enough_18 rfl (by decide) ?_
  refine ev_iconst 24 dX12_enough_24 kI_m1 ?_
  refine ev_istore_n (ls' := [.ref 100, .int (nI N), .int (nI w), .int (-1), pmJ]) 25 dX12_enough_25 (Nat.le_of_ble_eq_true rfl) rfl ?_
  refine ev_aload_n 26 dX12_enough_26 rfl (by decide) ?_
  refine ev_iload_n 27 dX12_enough_27 rfl ?_
  refine pf_12_158 (pc := 28) rfl dX12_enough_28 kd_100 ?_
  refine ev_abs (Q := DM e n (upd g 1 (nI w)) s p) (hD.ug1 (nI w)) (fun v1 hD => ?_)
  refine ev_bipush 31 dX12_enough_31 kB_20 ?_
  refine ev_istore (ls' := [.ref 100, .int (nI N), .int (nI w), .int (-1), .int 20]) 33 dX12_enough_33 (Nat.le_of_ble_eq_true rfl) rfl ?_
  refine lp_ene hw hN hC hr hr2 21 (-1) _ (by omega) ⟨_, _, _, hD, by rw [pk_un (by decide)]; exact g0, pk_us⟩ rfl (fun v5 hM => ?_)
  obtain ⟨g, s, p, hD, g0, g1⟩ := hM
  refine ev_aload_n 74 dX12_enough_74 rfl (by decide) ?_
  refine ev_iconst 75 dX12_enough_75 kI_m1 ?_
  refine pf_12_158 (pc := 76) rfl dX12_enough_76 kd_100 ?_
  refine ev_abs (Q := DM e n (upd g 1 (-1)) s p) (hD.ug1 (-1)) (fun v2 hD => ?_)
  refine ev_iload_n 79 dX12_enough_79 rfl ?_
  refine ev_ireturn 80 dX12_enough_80 rfl rfl ?_
  exact k _ ⟨_, _, _, hD, by rw [pk_un (by decide)]; exact g0, pk_us⟩

theorem op_enough {X : pmX} {d n tx z : Nat} {LT : pmT} {v : pmV} {a b : Int32} (hC : Cpl n tx z LT v) : EvP X (d + 20) MX11_enough 0 [.ref 32, .int a, .int b, pmJ] [] (pmT0 ++ LT) v (Aft X (d + 20) MX12_enough [.ref 100, .int a, .int b, pmJ, pmJ]) := by
  obtain ⟨hX, hL, hS, hR, hI, hT, hTa, hSh, hF⟩ := id hC
  obtain ⟨r, hr, hr1, hr2⟩ := hR
  by_cases h1 : (1 : Int32) ≤ a ∧ a ≤ 60
  · by_cases h2 : 0 ≤ b ∧ b ≤ 1
    · obtain ⟨N, rfl, hN1, hN2⟩ := nI_rng (a := 1) (b := 60) (by omega) (by omega) h1
      obtain ⟨w, rfl, _, hw⟩ := nI_rng (a := 0) (b := 1) (by omega) (by omega) h2
      refine c_X11_enough_ok (d := d + 7) hN2 (by omega) hC hr hr1 h1 h2 (fun v1 hE => ?_)
      refine c_X12_enough_ok (d := d + 12) (by omega) ⟨by omega, by omega⟩ hC hr hr2 (MX.of hC hE.1 hE.2.1) h1 h2 (fun v2 hM => ?_)
      exact ⟨rfl, n, tx, z, LT, rfl, hM.fin hC⟩
    · refine c_X11_enough_2 (d := d + 17) h1 h2 ?_
      refine c_X12_enough_2 (d := d + 18) h1 h2 ?_
      exact ⟨rfl, n, tx, z, LT, rfl, hC⟩
  · refine c_X11_enough_1 (d := d + 17) h1 ?_
    refine c_X12_enough_1 (d := d + 18) h1 ?_
    exact ⟨rfl, n, tx, z, LT, rfl, hC⟩
def oW (l : Nat) : Nat → Int32 := upd oN 1 (nI l)
def pW (e : pmV) (n r N l : Nat) : Int64 := (pR e n r plN (oW l) N).2 - (pR e n r plN oN N).2
theorem c_X11_worth_1 {X : pmX} {d : Nat} {v : pmV} {P : Option Value → pmT → pmV → Prop} {LT : pmT} {a b : Int32} (h1 : ¬ ((1 : Int32) ≤ a ∧ a ≤ 60)) (k : P (some (.long (-4611686018427387904))) (pmT0 ++ LT) v) : EvP X (d + 3) MX11_worth 0 [.ref 32, .int a, .int b, pmJ, pmJ] [] (pmT0 ++ LT) v P := by
  refine ev_iload_n 0 dX11_worth_0 rfl ?_
  refine ev_iconst 1 dX11_worth_1 kI_1 ?_
  refine ev_bipush 2 dX11_worth_2 kB_60 ?_
  refine cs_11_74 (pc := 4) rfl dX11_worth_4 (Nat.le_of_ble_eq_true rfl) ?_
  refine c_X11_isIn (fun h_4 => absurd h_4 h1) (fun h_4 => ?_)
  refine ev_ifT 7 18 dX11_worth_7 rfl (by decide) ?_
  refine ev_ldc2 18 dX11_worth_18 l2_11_159 ?_
  refine ev_lreturn 21 dX11_worth_21 rfl ?_
  exact k

theorem c_X11_worth_2 {X : pmX} {d : Nat} {v : pmV} {P : Option Value → pmT → pmV → Prop} {LT : pmT} {n tx z : Nat} {a b : Int32} (h1 : (1 : Int32) ≤ a ∧ a ≤ 60) (hC : Cpl n tx z LT v) (h2 : ¬ (0 ≤ b ∧ b ≤ nI n - 1)) (k : P (some (.long (-4611686018427387904))) (pmT0 ++ LT) v) : EvP X (d + 3) MX11_worth 0 [.ref 32, .int a, .int b, pmJ, pmJ] [] (pmT0 ++ LT) v P := by
  refine ev_iload_n 0 dX11_worth_0 rfl ?_
  refine ev_iconst 1 dX11_worth_1 kI_1 ?_
  refine ev_bipush 2 dX11_worth_2 kB_60 ?_
  refine cs_11_74 (pc := 4) rfl dX11_worth_4 (Nat.le_of_ble_eq_true rfl) ?_
  refine c_X11_isIn (fun h_4 => ?_) (fun h_4 => absurd h1 h_4)
  refine ev_ifF 7 18 dX11_worth_7 rfl (by decide) ?_
  refine ev_aload_n 10 dX11_worth_10 rfl (by decide) ?_
  refine ev_iload_n 11 dX11_worth_11 rfl ?_
  refine cv_11_118_11 (pc := 12) rfl dX11_worth_12 kd_32 (Nat.le_of_ble_eq_true rfl) ?_
  refine c_X11_laneOf (n := n) hC.2.1 hC.1 (fun i hi hq => absurd (hq ▸ lane_in hC.2.1.1 hi) h2) (fun _ => ?_)
  refine ev_ifnonnullN 15 dX11_worth_15 ?_
  refine ev_ldc2 18 dX11_worth_18 l2_11_159 ?_
  refine ev_lreturn 21 dX11_worth_21 rfl ?_
  exact k

theorem c_X11_worth_ok {X : pmX} {d : Nat} {v : pmV} {P : Option Value → pmT → pmV → Prop} {LT : pmT} {n tx z r N l : Nat} (hC : Cpl n tx z LT v) (hr : r < tx) (hr1 : v.1 34 6 = nI r) (hN : N ≤ 60) (hl : l < n) (h1 : (1 : Int32) ≤ nI N ∧ nI N ≤ 60) (k : ∀ v', EX v v' → P (some (.long (pW v n r N l))) (pmT0 ++ LT) v') : EvP X (d + 13) MX11_worth 0 [.ref 32, .int (nI N), .int (nI l), pmJ, pmJ] [] (pmT0 ++ LT) v P := by
  have hn8 := hC.2.1.1
  refine ev_iload_n 0 dX11_worth_0 rfl ?_
  refine ev_iconst 1 dX11_worth_1 kI_1 ?_
  refine ev_bipush 2 dX11_worth_2 kB_60 ?_
  refine cs_11_74 (pc := 4) rfl dX11_worth_4 (Nat.le_of_ble_eq_true rfl) ?_
  refine c_X11_isIn (fun h_4 => ?_) (fun h_4 => absurd h1 h_4)
  refine ev_ifF 7 18 dX11_worth_7 rfl (by decide) ?_
  refine ev_aload_n 10 dX11_worth_10 rfl (by decide) ?_
  refine ev_iload_n 11 dX11_worth_11 rfl ?_
  refine cv_11_118_11 (pc := 12) rfl dX11_worth_12 kd_32 (Nat.le_of_ble_eq_true rfl) ?_
  refine c_X11_laneOf (n := n) hC.2.1 hC.1 (fun i hi hq => ?_) (fun hq => absurd (lane_in hC.2.1.1 hl) hq)
  obtain rfl : l = i := (nI_eq (by omega) (by omega)).mp hq
  refine ev_ifnonnull 15 22 dX11_worth_15 (by omega) rfl ?_
  refine ev_aload_n 22 dX11_worth_22 rfl (by decide) ?_
  refine cv_11_182_11 (pc := 23) rfl dX11_worth_23 kd_32 (Nat.le_of_ble_eq_true rfl) ?_
  refine c_X11_readyCourse hC hr hr1 hC.1 dFr.rfl rfl (fun v1 s0 p0 h7 h8 hD => ?_)
  refine ev_aload_n 26 dX11_worth_26 rfl (by decide) ?_
  refine gf_11_47 (pc := 27) rfl dX11_worth_27 kd_32 (rf_32_9 hD.1) ?_
  refine ev_iload_n 30 dX11_worth_30 rfl ?_
  refine ev_ldc2 31 dX11_worth_31 l2_11_185 ?_
  refine cv_11_187_1 (pc := 34) rfl dX11_worth_34 kd_51 (Nat.le_of_ble_eq_true rfl) ?_
  have e7 : (s0) 7 = plN := by rw [h7]; rfl
  have e8 : (s0) 8 = oN := by exact h8
  have hH : hOk2 (s0) := ⟨0, 0, by omega, by omega, by rw [e8]; rfl, by rw [e8]; rfl⟩
  refine c_X1_pass hN hC hr hD hH.ok (fun v3 hD => ?_)
  rw [full hC hN hH, pBeg_s e7 e8] at hD
  refine ev_aload_n 37 dX11_worth_37 rfl (by decide) ?_
  refine gf_11_47 (pc := 38) rfl dX11_worth_38 kd_32 (rf_32_9 hD.1) ?_
  refine gf_11_165 (x := (pR v n r plN oN N).2) (pc := 41) rfl dX11_worth_41 kd_51 hD.rp ?_
  refine ev_lstore_n (ls' := [.ref 32, .int (nI N), .int (nI l), .long ((pR v n r plN oN N).2), pmJ]) 44 dX11_worth_44 (Nat.le_of_ble_eq_true rfl) rfl ?_
  refine ev_aload_n 45 dX11_worth_45 rfl (by decide) ?_
  refine gf_11_47 (pc := 46) rfl dX11_worth_46 kd_32 (rf_32_9 hD.1) ?_
  refine ev_iload_n 49 dX11_worth_49 rfl ?_
  refine pf_11_217 (pc := 50) rfl dX11_worth_50 kd_51 ?_
  refine ev_abs (Q := DX v n r (dU ((pR v n r plN oN N).1) 8 1 (nI l)) ((pR v n r plN oN N).2)) (hD.u8_1 (nI l)) (fun v1 hD => ?_)
  refine ev_aload_n 53 dX11_worth_53 rfl (by decide) ?_
  refine gf_11_47 (pc := 54) rfl dX11_worth_54 kd_32 (rf_32_9 hD.1) ?_
  refine ev_iload_n 57 dX11_worth_57 rfl ?_
  refine ev_ldc2 58 dX11_worth_58 l2_11_185 ?_
  refine cv_11_187_1 (pc := 61) rfl dX11_worth_61 kd_51 (Nat.le_of_ble_eq_true rfl) ?_
  have e7 : (dU ((pR v n r plN oN N).1) 8 1 (nI l)) 7 = plN := by rw [dU_rne (by decide)]; exact pR_7
  have e8 : (dU ((pR v n r plN oN N).1) 8 1 (nI l)) 8 = oW l := by rw [dU_row, pR_8]; rfl
  have hH : hOk2 (dU ((pR v n r plN oN N).1) 8 1 (nI l)) := ⟨0, 0, by omega, by omega, by rw [e8]; rfl, by rw [e8]; rfl⟩
  refine c_X1_pass hN hC hr hD hH.ok (fun v4 hD => ?_)
  rw [full hC hN hH, pBeg_s e7 e8] at hD
  refine ev_aload_n 64 dX11_worth_64 rfl (by decide) ?_
  refine gf_11_47 (pc := 65) rfl dX11_worth_65 kd_32 (rf_32_9 hD.1) ?_
  refine gf_11_165 (x := (pR v n r plN (oW l) N).2) (pc := 68) rfl dX11_worth_68 kd_51 hD.rp ?_
  refine ev_lload_n 71 dX11_worth_71 rfl ?_
  refine ev_lsub 72 dX11_worth_72 ?_
  refine ev_lreturn 73 dX11_worth_73 rfl ?_
  exact k _ ⟨hD.1, hD.fd, hD.rf⟩

theorem c_X12_worth_1 {X : pmX} {d : Nat} {v : pmV} {P : Option Value → pmT → pmV → Prop} {LT : pmT} {a b : Int32} (h1 : ¬ ((1 : Int32) ≤ a ∧ a ≤ 60)) (k : P (some (.long (-4611686018427387904))) (pmT0 ++ LT) v) : EvP X (d + 2) MX12_worth 0 [.ref 100, .int a, .int b, pmJ, pmJ] [] (pmT0 ++ LT) v P := by
  refine ev_aload_n 0 dX12_worth_0 rfl (by decide) ?_
  refine ev_iload_n 1 dX12_worth_1 rfl ?_
  refine ev_iconst 2 dX12_worth_2 kI_1 ?_
  refine ev_bipush 3 dX12_worth_3 kB_60 ?_
  refine cv_12_7_12 (pc := 5) rfl dX12_worth_5 kd_100 (Nat.le_of_ble_eq_true rfl) ?_
  refine c_X12_in (fun h_5 => absurd h_5 h1) (fun h_5 => ?_)
  refine ev_ifT 8 19 dX12_worth_8 rfl (by decide) ?_
  refine ev_ldc2 19 dX12_worth_19 l2_12_314 ?_
  refine ev_lreturn 22 dX12_worth_22 rfl ?_
  exact k

theorem c_X12_worth_2 {X : pmX} {d : Nat} {v : pmV} {P : Option Value → pmT → pmV → Prop} {LT : pmT} {n : Nat} {a b : Int32} (h1 : (1 : Int32) ≤ a ∧ a ≤ 60) (hLn : cLan n LT v) (h2 : ¬ (0 ≤ b ∧ b ≤ nI n - 1)) (k : P (some (.long (-4611686018427387904))) (pmT0 ++ LT) v) : EvP X (d + 2) MX12_worth 0 [.ref 100, .int a, .int b, pmJ, pmJ] [] (pmT0 ++ LT) v P := by
  refine ev_aload_n 0 dX12_worth_0 rfl (by decide) ?_
  refine ev_iload_n 1 dX12_worth_1 rfl ?_
  refine ev_iconst 2 dX12_worth_2 kI_1 ?_
  refine ev_bipush 3 dX12_worth_3 kB_60 ?_
  refine cv_12_7_12 (pc := 5) rfl dX12_worth_5 kd_100 (Nat.le_of_ble_eq_true rfl) ?_
  refine c_X12_in (fun h_5 => ?_) (fun h_5 => absurd h1 h_5)
  refine ev_ifF 8 19 dX12_worth_8 rfl (by decide) ?_
  refine ev_aload_n 11 dX12_worth_11 rfl (by decide) ?_
  refine ev_iload_n 12 dX12_worth_12 rfl ?_
  refine cv_12_53_12 (pc := 13) rfl dX12_worth_13 kd_100 (Nat.le_of_ble_eq_true rfl) ?_
  refine c_X12_isLane hLn (fun h_13 => absurd h_13 h2) (fun h_13 => ?_)
  refine ev_ifF 16 23 dX12_worth_16 rfl (by decide) ?_
  refine ev_ldc2 19 dX12_worth_19 l2_12_314 ?_
  refine ev_lreturn 22 dX12_worth_22 rfl ?_
  exact k

theorem c_X12_worth_ok {X : pmX} {d : Nat} {v : pmV} {P : Option Value → pmT → pmV → Prop} {LT : pmT} {e : pmV} {n tx z r N : Nat} {l : Nat} (hN : 1 ≤ N ∧ N ≤ 60) (hC : Cpl n tx z LT e) (hr : r < tx) (hr2 : e.1 100 11 = nI r) (hM : MX e n v) (hl : l < n) (h1 : (1 : Int32) ≤ nI N ∧ nI N ≤ 60) (k : ∀ v', MX e n v' → P (some (.long (pW e n r N l))) (pmT0 ++ LT) v') : EvP X (d + 8) MX12_worth 0 [.ref 100, .int (nI N), .int (nI l), pmJ, pmJ] [] (pmT0 ++ LT) v P := by
  obtain ⟨g, s, p, hD, g0, g1⟩ := hM
  have hn8 := hC.2.1.1
  have hLn := hD.lan hC
  refine ev_aload_n 0 dX12_worth_0 rfl (by decide) ?_
  refine ev_iload_n 1 dX12_worth_1 rfl ?_
  refine ev_iconst 2 dX12_worth_2 kI_1 ?_
  refine ev_bipush 3 dX12_worth_3 kB_60 ?_
  refine cv_12_7_12 (pc := 5) rfl dX12_worth_5 kd_100 (Nat.le_of_ble_eq_true rfl) ?_
  refine c_X12_in (fun h_5 => ?_) (fun h_5 => absurd h1 h_5)
  refine ev_ifF 8 19 dX12_worth_8 rfl (by decide) ?_
  refine ev_aload_n 11 dX12_worth_11 rfl (by decide) ?_
  refine ev_iload_n 12 dX12_worth_12 rfl ?_
  refine cv_12_53_12 (pc := 13) rfl dX12_worth_13 kd_100 (Nat.le_of_ble_eq_true rfl) ?_
  refine c_X12_isLane hLn (fun h_13 => ?_) (fun h_13 => absurd (lane_in hn8 hl) h_13)
  refine ev_ifT 16 23 dX12_worth_16 rfl (by decide) ?_
  refine ev_aload_n 23 dX12_worth_23 rfl (by decide) ?_
  refine ev_iload_n 24 dX12_worth_24 rfl ?_
  refine ev_iconst 25 dX12_worth_25 kI_m1 ?_
  refine cv_12_316_12 (pc := 26) rfl dX12_worth_26 kd_100 (Nat.le_of_ble_eq_true rfl) ?_
  refine c_X12_go (sG := sGf plN oN) hN hC hr hr2 hD (Or.inr (Or.inr (Or.inl ⟨rfl, rfl, fun _ _ => rfl⟩))) (show (-1 : Int32) = _ from g0.symm) (Or.inl ⟨g1, rfl, rfl⟩) (fun v8 hD => ?_)
  refine ev_aload_n 29 dX12_worth_29 rfl (by decide) ?_
  refine gf_12_173 (x := (pR e n r plN oN N).2) (pc := 30) rfl dX12_worth_30 kd_100 hD.rp ?_
  refine ev_lstore_n (ls' := [.ref 100, .int (nI N), .int (nI l), .long ((pR e n r plN oN N).2), pmJ]) 33 dX12_worth_33 (Nat.le_of_ble_eq_true rfl) rfl ?_
  refine ev_aload_n 34 dX12_worth_34 rfl (by decide) ?_
  refine ev_iload_n 35 dX12_worth_35 rfl ?_
  refine pf_12_155 (pc := 36) rfl dX12_worth_36 kd_100 ?_
  refine ev_abs (Q := DM e n (upd g 0 (nI l)) ((pR e n r plN oN N).1) ((pR e n r plN oN N).2)) (hD.ug0 (nI l)) (fun v1 hD => ?_)
  refine ev_aload_n 39 dX12_worth_39 rfl (by decide) ?_
  refine ev_iload_n 40 dX12_worth_40 rfl ?_
  refine ev_iconst 41 dX12_worth_41 kI_m1 ?_
  refine cv_12_316_12 (pc := 42) rfl dX12_worth_42 kd_100 (Nat.le_of_ble_eq_true rfl) ?_
  refine c_X12_go (sG := sGf plN (oW l)) hN hC hr hr2 hD (Or.inr (Or.inr (Or.inl ⟨rfl, rfl, fun _ _ => rfl⟩))) (show oW l 1 = _ by unfold oW; rw [pk_us, pk_us]) (Or.inl ⟨by rw [pk_un (by decide)]; exact g1, rfl, rfl⟩) (fun v9 hD => ?_)
  refine ev_aload_n 45 dX12_worth_45 rfl (by decide) ?_
  refine ev_iconst 46 dX12_worth_46 kI_m1 ?_
  refine pf_12_155 (pc := 47) rfl dX12_worth_47 kd_100 ?_
  refine ev_abs (Q := DM e n (upd (upd g 0 (nI l)) 0 (-1)) ((pR e n r plN (oW l) N).1) ((pR e n r plN (oW l) N).2)) (hD.ug0 (-1)) (fun v2 hD => ?_)
  refine ev_aload_n 50 dX12_worth_50 rfl (by decide) ?_
  refine gf_12_173 (x := (pR e n r plN (oW l) N).2) (pc := 51) rfl dX12_worth_51 kd_100 hD.rp ?_
  refine ev_lload_n 54 dX12_worth_54 rfl ?_
  refine ev_lsub 55 dX12_worth_55 ?_
  refine ev_lreturn 56 dX12_worth_56 rfl ?_
  exact k _ ⟨_, _, _, hD, pk_us, by rw [pk_un (by decide), pk_un (by decide)]; exact g1⟩

theorem op_worth {X : pmX} {d n tx z : Nat} {LT : pmT} {v : pmV} {a b : Int32} (hC : Cpl n tx z LT v) : EvP X (d + 20) MX11_worth 0 [.ref 32, .int a, .int b, pmJ, pmJ] [] (pmT0 ++ LT) v (Aft X (d + 20) MX12_worth [.ref 100, .int a, .int b, pmJ, pmJ]) := by
  obtain ⟨hX, hL, hS, hR, hI, hT, hTa, hSh, hF⟩ := id hC
  obtain ⟨r, hr, hr1, hr2⟩ := hR
  by_cases h1 : (1 : Int32) ≤ a ∧ a ≤ 60
  · by_cases h2 : 0 ≤ b ∧ b ≤ nI n - 1
    · obtain ⟨N, rfl, hN1, hN2⟩ := nI_rng (a := 1) (b := 60) (by omega) (by omega) h1
      obtain ⟨l, hl, rfl⟩ := lane_ix hL.1 h2
      refine c_X11_worth_ok (d := d + 7) hC hr hr1 hN2 hl h1 (fun v1 hE => ?_)
      refine c_X12_worth_ok (d := d + 12) ⟨by omega, by omega⟩ hC hr hr2 (MX.of hC hE.1 hE.2.1) hl h1 (fun v2 hM => ?_)
      exact ⟨rfl, n, tx, z, LT, rfl, hM.fin hC⟩
    · refine c_X11_worth_2 (d := d + 17) h1 hC h2 ?_
      refine c_X12_worth_2 (d := d + 18) h1 hL h2 ?_
      exact ⟨rfl, n, tx, z, LT, rfl, hC⟩
  · refine c_X11_worth_1 (d := d + 17) h1 ?_
    refine c_X12_worth_1 (d := d + 18) h1 ?_
    exact ⟨rfl, n, tx, z, LT, rfl, hC⟩
