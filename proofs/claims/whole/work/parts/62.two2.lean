/-! of two: the loops, the reference, both -/
theorem lp_t1 {X : pmX} {d : Nat} {P : Option Value → pmT → pmV → Prop} {LT : pmT} {e : pmV} {n tx z r N : Nat} {l a : Nat} {y1 : Int32} (hN : N ≤ 60) (hC : Cpl n tx z LT e) (hr : r < tx) (hl : l < n) : ∀ (k : Nat) (i : Nat) (q : tQ) (v : pmV), i + k = N → a < i → TX e n r q v → (∀ v', TX e n r (pT1 e n r N l a k i q) v' → EvP X (d + 13) MX11_two 101 [.ref 32, .int (nI N), .int y1, .int (nI l), .int (nI a), .int (nI N)] [] (pmT0 ++ LT) v' P) → EvP X (d + 13) MX11_two 62 [.ref 32, .int (nI N), .int y1, .int (nI l), .int (nI a), .int (nI i)] [] (pmT0 ++ LT) v P := by
  intro k
  induction k with
  | zero =>
    intro i q v hi hai hB K
    have hi2 : N = i := by omega
    subst hi2
    obtain ⟨e1, s, p, he, he2, h7, h8, hD, f0, f1, f2, hf⟩ := id hB
    have hC1 := hC.eq he he2
    have hn8 := hC.2.1.1
    refine ev_iload 62 dX11_two_62 rfl ?_
    refine ev_iload_n 64 dX11_two_64 rfl ?_
    refine ev_ic_geN (a := N) (b := N) 65 101 dX11_two_65 rfl (by omega) (by omega) (fun c_65 => ?_) (fun c_65 => by omega)
    exact K v hB
  | succ k ih =>
    intro i q v hi hai hB K
    obtain ⟨e1, s, p, he, he2, h7, h8, hD, f0, f1, f2, hf⟩ := id hB
    have hC1 := hC.eq he he2
    have hn8 := hC.2.1.1
    refine ev_iload 62 dX11_two_62 rfl ?_
    refine ev_iload_n 64 dX11_two_64 rfl ?_
    refine ev_ic_geN (a := i) (b := N) 65 101 dX11_two_65 rfl (by omega) (by omega) (fun c_65 => by omega) (fun c_65 => ?_)
    refine ev_aload_n 68 dX11_two_68 rfl (by decide) ?_
    refine ev_aload_n 69 dX11_two_69 rfl (by decide) ?_
    refine gf_11_11 (pc := 70) rfl dX11_two_70 kd_32 (rf_32_0 hD.1) ?_
    refine ev_iload_n 73 dX11_two_73 rfl ?_
    refine ev_aaldJ (x := 124 + l) (j := l) 74 dX11_two_74 (Nat.le_of_ble_eq_true rfl) ty_33 (by decide) (pm_inI (by omega) (by omega)) (nI_clamp (by omega)) ((hD.fd.2 33 _ (by omega)).trans (hC1.2.1.2.2.2.2 l (by omega)).1) ?_
    refine ev_iload 75 dX11_two_75 rfl ?_
    refine ev_iload 77 dX11_two_77 rfl ?_
    refine cv_11_203_11 (pc := 79) rfl dX11_two_79 kd_32 (Nat.le_of_ble_eq_true rfl) ?_
    refine c_X11_goes (a := a) (b := i) hC1 hD (by omega) (by omega) (fun h_79 => ?_) (fun h_79 => ?_)
    · refine ev_ifF 82 95 dX11_two_82 rfl (by decide) ?_
      refine ev_aload_n 85 dX11_two_85 rfl (by decide) ?_
      refine ev_iload_n 86 dX11_two_86 rfl ?_
      refine ev_iload_n 87 dX11_two_87 rfl ?_
      refine ev_iload 88 dX11_two_88 rfl ?_
      refine ev_iload 90 dX11_two_90 rfl ?_
      refine cv_11_207_11 (pc := 92) rfl dX11_two_92 kd_32 (Nat.le_of_ble_eq_true rfl) ?_
      refine c_X11_tryTwo (i := l) (a := a) (b := i) hN hC hr (by omega) (by omega) (by omega) hB (fun v1 hB => ?_)
      refine ev_iinc (y := nI (i + 1)) (ls' := [.ref 32, .int (nI N), .int y1, .int (nI l), .int (nI a), .int (nI (i + 1))]) 95 dX11_two_95 rfl (nI_add i 1) rfl ?_
      refine ev_goto 98 62 dX11_two_98 rfl ?_
      rw [pG_e he] at h_79
      refine ih (i + 1) _ _ (by omega) (by omega) hB (fun v2 h2 => K v2 (by rw [pT1, if_pos h_79]; exact h2))
    · refine ev_ifT 82 95 dX11_two_82 rfl (by decide) ?_
      refine ev_iinc (y := nI (i + 1)) (ls' := [.ref 32, .int (nI N), .int y1, .int (nI l), .int (nI a), .int (nI (i + 1))]) 95 dX11_two_95 rfl (nI_add i 1) rfl ?_
      refine ev_goto 98 62 dX11_two_98 rfl ?_
      rw [pG_e he] at h_79
      refine ih (i + 1) q _ (by omega) (by omega) hB (fun v2 h2 => K v2 (by rw [pT1, if_neg h_79]; exact h2))

theorem lp_t2 {X : pmX} {d : Nat} {P : Option Value → pmT → pmV → Prop} {LT : pmT} {e : pmV} {n tx z r N : Nat} {l : Nat} {y1 : Int32} (hN : N ≤ 60) (hC : Cpl n tx z LT e) (hr : r < tx) (hl : l < n) : ∀ (k : Nat) (i : Nat) (q : tQ) (w5 : Value) (v : pmV), i + k = N → TX e n r q v → (∀ v' w', TX e n r (pT2 e n r N l k i q) v' → EvP X (d + 13) MX11_two 107 [.ref 32, .int (nI N), .int y1, .int (nI l), .int (nI N), w'] [] (pmT0 ++ LT) v' P) → EvP X (d + 13) MX11_two 50 [.ref 32, .int (nI N), .int y1, .int (nI l), .int (nI i), w5] [] (pmT0 ++ LT) v P := by
  intro k
  induction k with
  | zero =>
    intro i q w5 v hi hB K
    have hi2 : N = i := by omega
    subst hi2
    obtain ⟨e1, s, p, he, he2, h7, h8, hD, f0, f1, f2, hf⟩ := id hB
    have hC1 := hC.eq he he2
    have hn8 := hC.2.1.1
    refine ev_iload 50 dX11_two_50 rfl ?_
    refine ev_iload_n 52 dX11_two_52 rfl ?_
    refine ev_ic_geN (a := N) (b := N) 53 107 dX11_two_53 rfl (by omega) (by omega) (fun c_53 => ?_) (fun c_53 => by omega)
    exact K v w5 hB
  | succ k ih =>
    intro i q w5 v hi hB K
    obtain ⟨e1, s, p, he, he2, h7, h8, hD, f0, f1, f2, hf⟩ := id hB
    have hC1 := hC.eq he he2
    have hn8 := hC.2.1.1
    refine ev_iload 50 dX11_two_50 rfl ?_
    refine ev_iload_n 52 dX11_two_52 rfl ?_
    refine ev_ic_geN (a := i) (b := N) 53 107 dX11_two_53 rfl (by omega) (by omega) (fun c_53 => by omega) (fun c_53 => ?_)
    refine ev_iload 56 dX11_two_56 rfl ?_
    refine ev_iconst 58 dX11_two_58 kI_1 ?_
    refine ev_iadd 59 dX11_two_59 ?_
    refine ev_cst (y := nI (i + 1)) (nI_add i 1) ?_
    refine ev_istore (ls' := [.ref 32, .int (nI N), .int y1, .int (nI l), .int (nI i), .int (nI (i + 1))]) 60 dX11_two_60 (Nat.le_of_ble_eq_true rfl) rfl ?_
    refine lp_t1 hN hC hr hl (N - (i + 1)) (i + 1) q v (by omega) (by omega) hB (fun v1 hB => ?_)
    refine ev_iinc (y := nI (i + 1)) (ls' := [.ref 32, .int (nI N), .int y1, .int (nI l), .int (nI (i + 1)), .int (nI N)]) 101 dX11_two_101 rfl (nI_add i 1) rfl ?_
    refine ev_goto 104 50 dX11_two_104 rfl ?_
    exact ih (i + 1) _ _ _ (by omega) hB K

theorem lp_t3 {X : pmX} {d : Nat} {P : Option Value → pmT → pmV → Prop} {LT : pmT} {e : pmV} {n tx z r N : Nat} {y1 : Int32} (hN : N ≤ 60) (hC : Cpl n tx z LT e) (hr : r < tx)  : ∀ (k : Nat) (i : Nat) (q : tQ) (w4 w5 : Value) (v : pmV), i + k = n → TX e n r q v → (∀ v' w' w'', TX e n r (pT3 e n r N k i q) v' → EvP X (d + 13) MX11_two 113 [.ref 32, .int (nI N), .int y1, .int (nI n), w', w''] [] (pmT0 ++ LT) v' P) → EvP X (d + 13) MX11_two 39 [.ref 32, .int (nI N), .int y1, .int (nI i), w4, w5] [] (pmT0 ++ LT) v P := by
  intro k
  induction k with
  | zero =>
    intro i q w4 w5 v hi hB K
    have hi2 : n = i := by omega
    subst hi2
    obtain ⟨e1, s, p, he, he2, h7, h8, hD, f0, f1, f2, hf⟩ := id hB
    have hC1 := hC.eq he he2
    have hn8 := hC.2.1.1
    refine ev_iload_n 39 dX11_two_39 rfl ?_
    refine ev_aload_n 40 dX11_two_40 rfl (by decide) ?_
    refine gf_11_78 (x := nI n) (pc := 41) rfl dX11_two_41 kd_32 ((hD.c (by unfold DcX; omega)).trans hC1.2.1.2.2.1) ?_
    refine ev_ic_geN (a := n) (b := n) 44 113 dX11_two_44 rfl (by omega) (by omega) (fun c_44 => ?_) (fun c_44 => by omega)
    exact K v w4 w5 hB
  | succ k ih =>
    intro i q w4 w5 v hi hB K
    obtain ⟨e1, s, p, he, he2, h7, h8, hD, f0, f1, f2, hf⟩ := id hB
    have hC1 := hC.eq he he2
    have hn8 := hC.2.1.1
    refine ev_iload_n 39 dX11_two_39 rfl ?_
    refine ev_aload_n 40 dX11_two_40 rfl (by decide) ?_
    refine gf_11_78 (x := nI n) (pc := 41) rfl dX11_two_41 kd_32 ((hD.c (by unfold DcX; omega)).trans hC1.2.1.2.2.1) ?_
    refine ev_ic_geN (a := i) (b := n) 44 113 dX11_two_44 rfl (by omega) (by omega) (fun c_44 => by omega) (fun c_44 => ?_)
    refine ev_iconst 47 dX11_two_47 kI_0 ?_
    refine ev_istore (ls' := [.ref 32, .int (nI N), .int y1, .int (nI i), .int 0, w5]) 48 dX11_two_48 (Nat.le_of_ble_eq_true rfl) rfl ?_
    refine lp_t2 hN hC hr (by omega) N 0 q w5 v (by omega) hB (fun v1 x5 hB => ?_)
    refine ev_iinc (y := nI (i + 1)) (ls' := [.ref 32, .int (nI N), .int y1, .int (nI (i + 1)), .int (nI N), x5]) 107 dX11_two_107 rfl (nI_add i 1) rfl ?_
    refine ev_goto 110 39 dX11_two_110 rfl ?_
    exact ih (i + 1) _ _ _ _ (by omega) hB K

theorem c_X11_two_1 {X : pmX} {d : Nat} {v : pmV} {P : Option Value → pmT → pmV → Prop} {LT : pmT} {a b : Int32} (h1 : ¬ ((2 : Int32) ≤ a ∧ a ≤ 12)) (k : P (some (.long (-4611686018427387904))) (pmT0 ++ LT) v) : EvP X (d + 3) MX11_two 0 [.ref 32, .int a, .int b, pmJ, pmJ, pmJ] [] (pmT0 ++ LT) v P := by
  refine ev_iload_n 0 dX11_two_0 rfl ?_
  refine ev_iconst 1 dX11_two_1 kI_2 ?_
  refine ev_bipush 2 dX11_two_2 kB_12 ?_
  refine cs_11_74 (pc := 4) rfl dX11_two_4 (Nat.le_of_ble_eq_true rfl) ?_
  refine c_X11_isIn (fun h_4 => absurd h_4 h1) (fun h_4 => ?_)
  refine ev_ifT 7 19 dX11_two_7 rfl (by decide) ?_
  refine ev_ldc2 19 dX11_two_19 l2_11_159 ?_
  refine ev_lreturn 22 dX11_two_22 rfl ?_
  exact k

theorem c_X11_two_2 {X : pmX} {d : Nat} {v : pmV} {P : Option Value → pmT → pmV → Prop} {LT : pmT} {a b : Int32} (h1 : (2 : Int32) ≤ a ∧ a ≤ 12) (h2 : ¬ (0 ≤ b ∧ b ≤ 3)) (k : P (some (.long (-4611686018427387904))) (pmT0 ++ LT) v) : EvP X (d + 3) MX11_two 0 [.ref 32, .int a, .int b, pmJ, pmJ, pmJ] [] (pmT0 ++ LT) v P := by
  refine ev_iload_n 0 dX11_two_0 rfl ?_
  refine ev_iconst 1 dX11_two_1 kI_2 ?_
  refine ev_bipush 2 dX11_two_2 kB_12 ?_
  refine cs_11_74 (pc := 4) rfl dX11_two_4 (Nat.le_of_ble_eq_true rfl) ?_
  refine c_X11_isIn (fun h_4 => ?_) (fun h_4 => absurd h1 h_4)
  refine ev_ifF 7 19 dX11_two_7 rfl (by decide) ?_
  refine ev_iload_n 10 dX11_two_10 rfl ?_
  refine ev_iconst 11 dX11_two_11 kI_0 ?_
  refine ev_iconst 12 dX11_two_12 kI_3 ?_
  refine cs_11_74 (pc := 13) rfl dX11_two_13 (Nat.le_of_ble_eq_true rfl) ?_
  refine c_X11_isIn (fun h_13 => absurd h_13 h2) (fun h_13 => ?_)
  refine ev_ifF 16 23 dX11_two_16 rfl (by decide) ?_
  refine ev_ldc2 19 dX11_two_19 l2_11_159 ?_
  refine ev_lreturn 22 dX11_two_22 rfl ?_
  exact k

theorem c_J7_fillL {X : pmX} {d : Nat} {v : pmV} {P : Option Value → pmT → pmV → Prop} {LT : pmT} {x : Int64} (k : P none (pmT0 ++ LT) (uL (uL (uL (uL v 67 0 x) 67 1 x) 67 2 x) 67 3 x)) : EvP X d MJ7_fill_d0a16 0 [.ref 67, .long x, pmJ, pmJ, pmJ] [] (pmT0 ++ LT) v P := by
  refine ev_iconst 0 dJ7_fill_d0a16_0 kI_0 ?_
  refine ev_istore_n (ls' := [.ref 67, .long x, pmJ, .int 0, pmJ]) 1 dJ7_fill_d0a16_1 (Nat.le_of_ble_eq_true rfl) rfl ?_
  refine ev_aload_n 2 dJ7_fill_d0a16_2 rfl (by decide) ?_
  refine ev_alen (x := 4) 3 dJ7_fill_d0a16_3 (Nat.le_of_ble_eq_true rfl) ty_67 (by decide) (by decide) ?_
  refine ev_istore (ls' := [.ref 67, .long x, pmJ, .int 0, .int 4]) 4 dJ7_fill_d0a16_4 (Nat.le_of_ble_eq_true rfl) rfl ?_
  refine ev_iload_n 6 dJ7_fill_d0a16_6 rfl ?_
  refine ev_iload 7 dJ7_fill_d0a16_7 rfl ?_
  refine ev_icF 9 22 dJ7_fill_d0a16_9 rfl (by decide) ?_
  refine ev_aload_n 12 dJ7_fill_d0a16_12 rfl (by decide) ?_
  refine ev_iload_n 13 dJ7_fill_d0a16_13 rfl ?_
  refine ev_lload_n 14 dJ7_fill_d0a16_14 rfl ?_
  refine ev_lastJ (j := 0) 15 dJ7_fill_d0a16_15 (Nat.le_of_ble_eq_true rfl) ty_67 (by decide) rfl ?_
  refine ev_iinc (y := 1) (ls' := [.ref 67, .long x, pmJ, .int 1, .int 4]) 16 dJ7_fill_d0a16_16 rfl (by decide) rfl ?_
  refine ev_goto 19 6 dJ7_fill_d0a16_19 rfl ?_
  refine ev_iload_n 6 dJ7_fill_d0a16_6 rfl ?_
  refine ev_iload 7 dJ7_fill_d0a16_7 rfl ?_
  refine ev_icF 9 22 dJ7_fill_d0a16_9 rfl (by decide) ?_
  refine ev_aload_n 12 dJ7_fill_d0a16_12 rfl (by decide) ?_
  refine ev_iload_n 13 dJ7_fill_d0a16_13 rfl ?_
  refine ev_lload_n 14 dJ7_fill_d0a16_14 rfl ?_
  refine ev_lastJ (j := 1) 15 dJ7_fill_d0a16_15 (Nat.le_of_ble_eq_true rfl) ty_67 (by decide) rfl ?_
  refine ev_iinc (y := 2) (ls' := [.ref 67, .long x, pmJ, .int 2, .int 4]) 16 dJ7_fill_d0a16_16 rfl (by decide) rfl ?_
  refine ev_goto 19 6 dJ7_fill_d0a16_19 rfl ?_
  refine ev_iload_n 6 dJ7_fill_d0a16_6 rfl ?_
  refine ev_iload 7 dJ7_fill_d0a16_7 rfl ?_
  refine ev_icF 9 22 dJ7_fill_d0a16_9 rfl (by decide) ?_
  refine ev_aload_n 12 dJ7_fill_d0a16_12 rfl (by decide) ?_
  refine ev_iload_n 13 dJ7_fill_d0a16_13 rfl ?_
  refine ev_lload_n 14 dJ7_fill_d0a16_14 rfl ?_
  refine ev_lastJ (j := 2) 15 dJ7_fill_d0a16_15 (Nat.le_of_ble_eq_true rfl) ty_67 (by decide) rfl ?_
  refine ev_iinc (y := 3) (ls' := [.ref 67, .long x, pmJ, .int 3, .int 4]) 16 dJ7_fill_d0a16_16 rfl (by decide) rfl ?_
  refine ev_goto 19 6 dJ7_fill_d0a16_19 rfl ?_
  refine ev_iload_n 6 dJ7_fill_d0a16_6 rfl ?_
  refine ev_iload 7 dJ7_fill_d0a16_7 rfl ?_
  refine ev_icF 9 22 dJ7_fill_d0a16_9 rfl (by decide) ?_
  refine ev_aload_n 12 dJ7_fill_d0a16_12 rfl (by decide) ?_
  refine ev_iload_n 13 dJ7_fill_d0a16_13 rfl ?_
  refine ev_lload_n 14 dJ7_fill_d0a16_14 rfl ?_
  refine ev_lastJ (j := 3) 15 dJ7_fill_d0a16_15 (Nat.le_of_ble_eq_true rfl) ty_67 (by decide) rfl ?_
  refine ev_iinc (y := 4) (ls' := [.ref 67, .long x, pmJ, .int 4, .int 4]) 16 dJ7_fill_d0a16_16 rfl (by decide) rfl ?_
  refine ev_goto 19 6 dJ7_fill_d0a16_19 rfl ?_
  refine ev_iload_n 6 dJ7_fill_d0a16_6 rfl ?_
  refine ev_iload 7 dJ7_fill_d0a16_7 rfl ?_
  refine ev_icT 9 22 dJ7_fill_d0a16_9 rfl (by decide) ?_
  refine ev_return 22 dJ7_fill_d0a16_22 rfl ?_
  exact k

theorem c_X11_two_ok {X : pmX} {d : Nat} {v : pmV} {P : Option Value → pmT → pmV → Prop} {LT : pmT} {n tx z r N w : Nat} (hC : Cpl n tx z LT v) (hr : r < tx) (hr1 : v.1 34 6 = nI r) (hN : N ≤ 60) (hw : w ≤ 3) (h1 : (2 : Int32) ≤ nI N ∧ nI N ≤ 12) (k : ∀ v', TX v n r (pTwo v n r N) v' → P (some (.long (tAns (pTwo v n r N) w))) (pmT0 ++ LT) v') : EvP X (d + 13) MX11_two 0 [.ref 32, .int (nI N), .int (nI w), pmJ, pmJ, pmJ] [] (pmT0 ++ LT) v P := by
  have hn8 := hC.2.1.1
  have : w = 0 ∨ w = 1 ∨ w = 2 ∨ w = 3 := by omega
  rcases this with rfl | rfl | rfl | rfl
  · refine ev_iload_n 0 dX11_two_0 rfl ?_
    refine ev_iconst 1 dX11_two_1 kI_2 ?_
    refine ev_bipush 2 dX11_two_2 kB_12 ?_
    refine cs_11_74 (pc := 4) rfl dX11_two_4 (Nat.le_of_ble_eq_true rfl) ?_
    refine c_X11_isIn (fun h_4 => ?_) (fun h_4 => absurd h1 h_4)
    refine ev_ifF 7 19 dX11_two_7 rfl (by decide) ?_
    refine ev_iload_n 10 dX11_two_10 rfl ?_
    refine ev_iconst 11 dX11_two_11 kI_0 ?_
    refine ev_iconst 12 dX11_two_12 kI_3 ?_
    refine cs_11_74 (pc := 13) rfl dX11_two_13 (Nat.le_of_ble_eq_true rfl) ?_
    refine c_X11_isIn (fun h_13 => ?_) (fun h_13 => absurd (show (0 : Int32) ≤ 0 ∧ (0 : Int32) ≤ 3 by decide) h_13)
    refine ev_ifT 16 23 dX11_two_16 rfl (by decide) ?_
    refine ev_aload_n 23 dX11_two_23 rfl (by decide) ?_
    refine cv_11_182_11 (pc := 24) rfl dX11_two_24 kd_32 (Nat.le_of_ble_eq_true rfl) ?_
    refine c_X11_readyCourse hC hr hr1 hC.1 dFr.rfl rfl (fun v1 s0 p0 h7 h8 hD => ?_)
    refine ev_aload_n 27 dX11_two_27 rfl (by decide) ?_
    refine gf_11_51 (pc := 28) rfl dX11_two_28 kd_32 (rf_32_10 hD.1) ?_
    refine ev_ldc2 31 dX11_two_31 l2_11_191 ?_
    refine cs_11_197 (pc := 34) rfl dX11_two_34 (Nat.le_of_ble_eq_true rfl) ?_
    refine c_J7_fillL ?_
    replace hD := (((hD.fw 0 (-1)).fw 1 (-1)).fw 2 (-1)).fw 3 (-1)
    refine ev_iconst 37 dX11_two_37 kI_0 ?_
    refine ev_istore_n (ls' := [.ref 32, .int (nI N), .int 0, .int 0, pmJ, pmJ]) 38 dX11_two_38 (Nat.le_of_ble_eq_true rfl) rfl ?_
    refine lp_t3 hN hC hr n 0 (0, -1, -1, -1) pmJ pmJ _ (by omega) ⟨(uL (uL (uL (uL v 67 0 (-1)) 67 1 (-1)) 67 2 (-1)) 67 3 (-1)), _, _, rfl, rfl, h7, h8, hD, by rw [uL_off (by omega), uL_off (by omega), uL_off (by omega), uL_on]; decide +kernel, by rw [uL_off (by omega), uL_off (by omega), uL_on]; decide +kernel, by rw [uL_off (by omega), uL_on]; decide +kernel, Or.inl ⟨rfl, rfl, rfl, by rw [uL_on]⟩⟩ (fun v4 w4 w5 hB => ?_)
    obtain ⟨e1, s, p, he, he2, h7, h8, hD, f0, f1, f2, hf⟩ := id hB
    have hC1 := hC.eq he he2
    have hans : e1.2.1 67 0 = tAns (pTwo v n r N) 0 := by
      have hq : pTwo v n r N = pT3 v n r N n 0 (0, -1, -1, -1) := rfl
      rw [← hq] at f0 f1 f2 hf
      rcases hf with ⟨g0, g1, g2, g3⟩ | ⟨j, hj, g0, g3⟩
      · unfold tAns; rw [if_pos (by rw [g0]; decide)]; rw [f0, g0]; decide +kernel
      · unfold tAns; rw [if_neg (by rw [g0]; exact nI_pos (by omega))]; exact f0
    refine ev_aload_n 113 dX11_two_113 rfl (by decide) ?_
    refine gf_11_51 (pc := 114) rfl dX11_two_114 kd_32 (rf_32_10 hD.1) ?_
    refine ev_iload_n 117 dX11_two_117 rfl ?_
    refine ev_laldJ (x := tAns (pTwo v n r N) 0) (j := 0) 118 dX11_two_118 (Nat.le_of_ble_eq_true rfl) ty_67 (by decide) rfl ((congrFun hD.rf 0).trans hans) ?_
    refine ev_lreturn 119 dX11_two_119 rfl ?_
    exact k _ hB
  · refine ev_iload_n 0 dX11_two_0 rfl ?_
    refine ev_iconst 1 dX11_two_1 kI_2 ?_
    refine ev_bipush 2 dX11_two_2 kB_12 ?_
    refine cs_11_74 (pc := 4) rfl dX11_two_4 (Nat.le_of_ble_eq_true rfl) ?_
    refine c_X11_isIn (fun h_4 => ?_) (fun h_4 => absurd h1 h_4)
    refine ev_ifF 7 19 dX11_two_7 rfl (by decide) ?_
    refine ev_iload_n 10 dX11_two_10 rfl ?_
    refine ev_iconst 11 dX11_two_11 kI_0 ?_
    refine ev_iconst 12 dX11_two_12 kI_3 ?_
    refine cs_11_74 (pc := 13) rfl dX11_two_13 (Nat.le_of_ble_eq_true rfl) ?_
    refine c_X11_isIn (fun h_13 => ?_) (fun h_13 => absurd (show (0 : Int32) ≤ 1 ∧ (1 : Int32) ≤ 3 by decide) h_13)
    refine ev_ifT 16 23 dX11_two_16 rfl (by decide) ?_
    refine ev_aload_n 23 dX11_two_23 rfl (by decide) ?_
    refine cv_11_182_11 (pc := 24) rfl dX11_two_24 kd_32 (Nat.le_of_ble_eq_true rfl) ?_
    refine c_X11_readyCourse hC hr hr1 hC.1 dFr.rfl rfl (fun v1 s0 p0 h7 h8 hD => ?_)
    refine ev_aload_n 27 dX11_two_27 rfl (by decide) ?_
    refine gf_11_51 (pc := 28) rfl dX11_two_28 kd_32 (rf_32_10 hD.1) ?_
    refine ev_ldc2 31 dX11_two_31 l2_11_191 ?_
    refine cs_11_197 (pc := 34) rfl dX11_two_34 (Nat.le_of_ble_eq_true rfl) ?_
    refine c_J7_fillL ?_
    replace hD := (((hD.fw 0 (-1)).fw 1 (-1)).fw 2 (-1)).fw 3 (-1)
    refine ev_iconst 37 dX11_two_37 kI_0 ?_
    refine ev_istore_n (ls' := [.ref 32, .int (nI N), .int 1, .int 0, pmJ, pmJ]) 38 dX11_two_38 (Nat.le_of_ble_eq_true rfl) rfl ?_
    refine lp_t3 hN hC hr n 0 (0, -1, -1, -1) pmJ pmJ _ (by omega) ⟨(uL (uL (uL (uL v 67 0 (-1)) 67 1 (-1)) 67 2 (-1)) 67 3 (-1)), _, _, rfl, rfl, h7, h8, hD, by rw [uL_off (by omega), uL_off (by omega), uL_off (by omega), uL_on]; decide +kernel, by rw [uL_off (by omega), uL_off (by omega), uL_on]; decide +kernel, by rw [uL_off (by omega), uL_on]; decide +kernel, Or.inl ⟨rfl, rfl, rfl, by rw [uL_on]⟩⟩ (fun v4 w4 w5 hB => ?_)
    obtain ⟨e1, s, p, he, he2, h7, h8, hD, f0, f1, f2, hf⟩ := id hB
    have hC1 := hC.eq he he2
    have hans : e1.2.1 67 1 = tAns (pTwo v n r N) 1 := by
      have hq : pTwo v n r N = pT3 v n r N n 0 (0, -1, -1, -1) := rfl
      rw [← hq] at f0 f1 f2 hf
      rcases hf with ⟨g0, g1, g2, g3⟩ | ⟨j, hj, g0, g3⟩
      · unfold tAns; rw [if_pos (by rw [g0]; decide)]; rw [f1, g1]; decide +kernel
      · unfold tAns; rw [if_neg (by rw [g0]; exact nI_pos (by omega))]; exact f1
    refine ev_aload_n 113 dX11_two_113 rfl (by decide) ?_
    refine gf_11_51 (pc := 114) rfl dX11_two_114 kd_32 (rf_32_10 hD.1) ?_
    refine ev_iload_n 117 dX11_two_117 rfl ?_
    refine ev_laldJ (x := tAns (pTwo v n r N) 1) (j := 1) 118 dX11_two_118 (Nat.le_of_ble_eq_true rfl) ty_67 (by decide) rfl ((congrFun hD.rf 1).trans hans) ?_
    refine ev_lreturn 119 dX11_two_119 rfl ?_
    exact k _ hB
  · refine ev_iload_n 0 dX11_two_0 rfl ?_
    refine ev_iconst 1 dX11_two_1 kI_2 ?_
    refine ev_bipush 2 dX11_two_2 kB_12 ?_
    refine cs_11_74 (pc := 4) rfl dX11_two_4 (Nat.le_of_ble_eq_true rfl) ?_
    refine c_X11_isIn (fun h_4 => ?_) (fun h_4 => absurd h1 h_4)
    refine ev_ifF 7 19 dX11_two_7 rfl (by decide) ?_
    refine ev_iload_n 10 dX11_two_10 rfl ?_
    refine ev_iconst 11 dX11_two_11 kI_0 ?_
    refine ev_iconst 12 dX11_two_12 kI_3 ?_
    refine cs_11_74 (pc := 13) rfl dX11_two_13 (Nat.le_of_ble_eq_true rfl) ?_
    refine c_X11_isIn (fun h_13 => ?_) (fun h_13 => absurd (show (0 : Int32) ≤ 2 ∧ (2 : Int32) ≤ 3 by decide) h_13)
    refine ev_ifT 16 23 dX11_two_16 rfl (by decide) ?_
    refine ev_aload_n 23 dX11_two_23 rfl (by decide) ?_
    refine cv_11_182_11 (pc := 24) rfl dX11_two_24 kd_32 (Nat.le_of_ble_eq_true rfl) ?_
    refine c_X11_readyCourse hC hr hr1 hC.1 dFr.rfl rfl (fun v1 s0 p0 h7 h8 hD => ?_)
    refine ev_aload_n 27 dX11_two_27 rfl (by decide) ?_
    refine gf_11_51 (pc := 28) rfl dX11_two_28 kd_32 (rf_32_10 hD.1) ?_
    refine ev_ldc2 31 dX11_two_31 l2_11_191 ?_
    refine cs_11_197 (pc := 34) rfl dX11_two_34 (Nat.le_of_ble_eq_true rfl) ?_
    refine c_J7_fillL ?_
    replace hD := (((hD.fw 0 (-1)).fw 1 (-1)).fw 2 (-1)).fw 3 (-1)
    refine ev_iconst 37 dX11_two_37 kI_0 ?_
    refine ev_istore_n (ls' := [.ref 32, .int (nI N), .int 2, .int 0, pmJ, pmJ]) 38 dX11_two_38 (Nat.le_of_ble_eq_true rfl) rfl ?_
    refine lp_t3 hN hC hr n 0 (0, -1, -1, -1) pmJ pmJ _ (by omega) ⟨(uL (uL (uL (uL v 67 0 (-1)) 67 1 (-1)) 67 2 (-1)) 67 3 (-1)), _, _, rfl, rfl, h7, h8, hD, by rw [uL_off (by omega), uL_off (by omega), uL_off (by omega), uL_on]; decide +kernel, by rw [uL_off (by omega), uL_off (by omega), uL_on]; decide +kernel, by rw [uL_off (by omega), uL_on]; decide +kernel, Or.inl ⟨rfl, rfl, rfl, by rw [uL_on]⟩⟩ (fun v4 w4 w5 hB => ?_)
    obtain ⟨e1, s, p, he, he2, h7, h8, hD, f0, f1, f2, hf⟩ := id hB
    have hC1 := hC.eq he he2
    have hans : e1.2.1 67 2 = tAns (pTwo v n r N) 2 := by
      have hq : pTwo v n r N = pT3 v n r N n 0 (0, -1, -1, -1) := rfl
      rw [← hq] at f0 f1 f2 hf
      rcases hf with ⟨g0, g1, g2, g3⟩ | ⟨j, hj, g0, g3⟩
      · unfold tAns; rw [if_pos (by rw [g0]; decide)]; rw [f2, g2]; decide +kernel
      · unfold tAns; rw [if_neg (by rw [g0]; exact nI_pos (by omega))]; exact f2
    refine ev_aload_n 113 dX11_two_113 rfl (by decide) ?_
    refine gf_11_51 (pc := 114) rfl dX11_two_114 kd_32 (rf_32_10 hD.1) ?_
    refine ev_iload_n 117 dX11_two_117 rfl ?_
    refine ev_laldJ (x := tAns (pTwo v n r N) 2) (j := 2) 118 dX11_two_118 (Nat.le_of_ble_eq_true rfl) ty_67 (by decide) rfl ((congrFun hD.rf 2).trans hans) ?_
    refine ev_lreturn 119 dX11_two_119 rfl ?_
    exact k _ hB
  · refine ev_iload_n 0 dX11_two_0 rfl ?_
    refine ev_iconst 1 dX11_two_1 kI_2 ?_
    refine ev_bipush 2 dX11_two_2 kB_12 ?_
    refine cs_11_74 (pc := 4) rfl dX11_two_4 (Nat.le_of_ble_eq_true rfl) ?_
    refine c_X11_isIn (fun h_4 => ?_) (fun h_4 => absurd h1 h_4)
    refine ev_ifF 7 19 dX11_two_7 rfl (by decide) ?_
    refine ev_iload_n 10 dX11_two_10 rfl ?_
    refine ev_iconst 11 dX11_two_11 kI_0 ?_
    refine ev_iconst 12 dX11_two_12 kI_3 ?_
    refine cs_11_74 (pc := 13) rfl dX11_two_13 (Nat.le_of_ble_eq_true rfl) ?_
    refine c_X11_isIn (fun h_13 => ?_) (fun h_13 => absurd (show (0 : Int32) ≤ 3 ∧ (3 : Int32) ≤ 3 by decide) h_13)
    refine ev_ifT 16 23 dX11_two_16 rfl (by decide) ?_
    refine ev_aload_n 23 dX11_two_23 rfl (by decide) ?_
    refine cv_11_182_11 (pc := 24) rfl dX11_two_24 kd_32 (Nat.le_of_ble_eq_true rfl) ?_
    refine c_X11_readyCourse hC hr hr1 hC.1 dFr.rfl rfl (fun v1 s0 p0 h7 h8 hD => ?_)
    refine ev_aload_n 27 dX11_two_27 rfl (by decide) ?_
    refine gf_11_51 (pc := 28) rfl dX11_two_28 kd_32 (rf_32_10 hD.1) ?_
    refine ev_ldc2 31 dX11_two_31 l2_11_191 ?_
    refine cs_11_197 (pc := 34) rfl dX11_two_34 (Nat.le_of_ble_eq_true rfl) ?_
    refine c_J7_fillL ?_
    replace hD := (((hD.fw 0 (-1)).fw 1 (-1)).fw 2 (-1)).fw 3 (-1)
    refine ev_iconst 37 dX11_two_37 kI_0 ?_
    refine ev_istore_n (ls' := [.ref 32, .int (nI N), .int 3, .int 0, pmJ, pmJ]) 38 dX11_two_38 (Nat.le_of_ble_eq_true rfl) rfl ?_
    refine lp_t3 hN hC hr n 0 (0, -1, -1, -1) pmJ pmJ _ (by omega) ⟨(uL (uL (uL (uL v 67 0 (-1)) 67 1 (-1)) 67 2 (-1)) 67 3 (-1)), _, _, rfl, rfl, h7, h8, hD, by rw [uL_off (by omega), uL_off (by omega), uL_off (by omega), uL_on]; decide +kernel, by rw [uL_off (by omega), uL_off (by omega), uL_on]; decide +kernel, by rw [uL_off (by omega), uL_on]; decide +kernel, Or.inl ⟨rfl, rfl, rfl, by rw [uL_on]⟩⟩ (fun v4 w4 w5 hB => ?_)
    obtain ⟨e1, s, p, he, he2, h7, h8, hD, f0, f1, f2, hf⟩ := id hB
    have hC1 := hC.eq he he2
    have hans : e1.2.1 67 3 = tAns (pTwo v n r N) 3 := by
      have hq : pTwo v n r N = pT3 v n r N n 0 (0, -1, -1, -1) := rfl
      rw [← hq] at f0 f1 f2 hf
      rcases hf with ⟨g0, g1, g2, g3⟩ | ⟨j, hj, g0, g3⟩
      · unfold tAns; rw [if_pos (by rw [g0]; decide)]; exact g3
      · unfold tAns; rw [if_neg (by rw [g0]; exact nI_pos (by omega))]; exact g3
    refine ev_aload_n 113 dX11_two_113 rfl (by decide) ?_
    refine gf_11_51 (pc := 114) rfl dX11_two_114 kd_32 (rf_32_10 hD.1) ?_
    refine ev_iload_n 117 dX11_two_117 rfl ?_
    refine ev_laldJ (x := tAns (pTwo v n r N) 3) (j := 3) 118 dX11_two_118 (Nat.le_of_ble_eq_true rfl) ty_67 (by decide) rfl ((congrFun hD.rf 3).trans hans) ?_
    refine ev_lreturn 119 dX11_two_119 rfl ?_
    exact k _ hB
theorem trial_2 {l a b : Nat} (ha : a < 60) (hb : b < 60) : ∀ m, m < 60 → upd (upd plN a (nI l)) b (nI l) m = if nI m = nI a then nI l else if nI m = nI b then nI l else -1 := by
  intro m hm
  by_cases h : m = b
  · subst h; rw [pk_us, if_pos rfl]; split <;> rfl
  · rw [pk_un h, if_neg (c := nI m = nI b) (fun q => h ((nI_eq (by omega) (by omega)).mp q))]
    by_cases h2 : m = a
    · subst h2; rw [pk_us, if_pos rfl]
    · rw [pk_un h2, if_neg (fun q => h2 ((nI_eq (by omega) (by omega)).mp q))]; rfl
theorem lp_u1 {X : pmX} {d : Nat} {P : Option Value → pmT → pmV → Prop} {LT : pmT} {e : pmV} {n tx z r N : Nat} {l a : Nat} {y1 : Int32} (hN : 1 ≤ N ∧ N ≤ 60) (hC : Cpl n tx z LT e) (hr : r < tx) (hr2 : e.1 100 11 = nI r) (hl : l < n) : ∀ (k : Nat) (i : Nat) (q : tQ) (w11 w12 : Value) (v : pmV), i + k = N → a < i → MX e n v → (∀ v' w11' w12', MX e n v' → EvP X (d + 8) MX12_two 157 [.ref 100, .int (nI N), .int y1, .long (pT1 e n r N l a k i q).1, pmJ, .int (pT1 e n r N l a k i q).2.1, .int (pT1 e n r N l a k i q).2.2.1, .int (pT1 e n r N l a k i q).2.2.2, .int (nI l), .int (nI a), .int (nI N), w11', w12'] [] (pmT0 ++ LT) v' P) → EvP X (d + 8) MX12_two 63 [.ref 100, .int (nI N), .int y1, .long q.1, pmJ, .int q.2.1, .int q.2.2.1, .int q.2.2.2, .int (nI l), .int (nI a), .int (nI i), w11, w12] [] (pmT0 ++ LT) v P := by
  intro k
  induction k with
  | zero =>
    intro i q w11 w12 v hi hai hM K
    have hi2 : N = i := by omega
    subst hi2
    obtain ⟨g, s, p, hD, g0, g1⟩ := id hM
    have hn8 := hC.2.1.1
    refine ev_iload 63 dX12_two_63 rfl ?_
    refine ev_iload_n 65 dX12_two_65 rfl ?_
    refine ev_ic_geN (a := N) (b := N) 66 157 dX12_two_66 rfl (by omega) (by omega) (fun c_66 => ?_) (fun c_66 => by omega)
    exact K v w11 w12 hM
  | succ k ih =>
    intro i q w11 w12 v hi hai hM K
    obtain ⟨g, s, p, hD, g0, g1⟩ := id hM
    have hn8 := hC.2.1.1
    refine ev_iload 63 dX12_two_63 rfl ?_
    refine ev_iload_n 65 dX12_two_65 rfl ?_
    refine ev_ic_geN (a := i) (b := N) 66 157 dX12_two_66 rfl (by omega) (by omega) (fun c_66 => by omega) (fun c_66 => ?_)
    refine ev_aload_n 69 dX12_two_69 rfl (by decide) ?_
    refine ev_iload 70 dX12_two_70 rfl ?_
    refine ev_iload 72 dX12_two_72 rfl ?_
    refine cv_12_69_12 (pc := 74) rfl dX12_two_74 kd_100 (Nat.le_of_ble_eq_true rfl) ?_
    refine c_X12_mayTurn (l := l) hC hD (by omega) (fun h_74 => ?_) (fun h_74 => ?_)
    · refine ev_ifF 77 151 dX12_two_77 rfl (by decide) ?_
      refine ev_aload_n 80 dX12_two_80 rfl (by decide) ?_
      refine ev_iload 81 dX12_two_81 rfl ?_
      refine ev_iload 83 dX12_two_83 rfl ?_
      refine cv_12_69_12 (pc := 85) rfl dX12_two_85 kd_100 (Nat.le_of_ble_eq_true rfl) ?_
      refine c_X12_mayTurn (l := l) hC hD (by omega) (fun h_85 => ?_) (fun h_85 => ?_)
      · refine ev_ifF 88 151 dX12_two_88 rfl (by decide) ?_
        refine ev_iload 91 dX12_two_91 rfl ?_
        refine ev_iload 93 dX12_two_93 rfl ?_
        refine ev_isub 95 dX12_two_95 ?_
        refine ev_cst (y := nI (i - a)) (pk_sub (a := i) (b := a) (by omega)) ?_
        refine ev_aload_n 96 dX12_two_96 rfl (by decide) ?_
        refine ev_iload 97 dX12_two_97 rfl ?_
        refine cv_12_65_12 (pc := 99) rfl dX12_two_99 kd_100 (Nat.le_of_ble_eq_true rfl) ?_
        refine c_X12_restsOf (l := l) hC hD (by omega) ?_
        refine ev_ic_ge 102 108 dX12_two_102 rfl (fun c_102 => ?_) (fun c_102 => ?_)
        · refine ev_aload_n 108 dX12_two_108 rfl (by decide) ?_
          refine ev_iload_n 109 dX12_two_109 rfl ?_
          refine ev_iload 110 dX12_two_110 rfl ?_
          refine ev_iload 112 dX12_two_112 rfl ?_
          refine ev_iload 114 dX12_two_114 rfl ?_
          refine cv_12_319_12 (pc := 116) rfl dX12_two_116 kd_100 (Nat.le_of_ble_eq_true rfl) ?_
          refine c_X12_trial (l := l) (a := a) hN hC hr hr2 hM (trial_2 (b := i) (by omega) (by omega)) (fun v1 hM => ?_)
          refine ev_lstore (ls' := [.ref 100, .int (nI N), .int y1, .long q.1, pmJ, .int q.2.1, .int q.2.2.1, .int q.2.2.2, .int (nI l), .int (nI a), .int (nI i), .long (tT e n r N l a i), pmJ]) 119 dX12_two_119 (Nat.le_of_ble_eq_true rfl) rfl ?_
          refine ev_iload 121 dX12_two_121 rfl ?_
          refine ev_if_lt 123 136 dX12_two_123 rfl (fun c_123 => ?_) (fun c_123 => ?_)
          · refine ev_lload 136 dX12_two_136 rfl ?_
            refine ev_lstore_n (ls' := [.ref 100, .int (nI N), .int y1, .long (tT e n r N l a i), pmJ, .int q.2.1, .int q.2.2.1, .int q.2.2.2, .int (nI l), .int (nI a), .int (nI i), .long (tT e n r N l a i), pmJ]) 138 dX12_two_138 (Nat.le_of_ble_eq_true rfl) rfl ?_
            refine ev_iload 139 dX12_two_139 rfl ?_
            refine ev_istore (ls' := [.ref 100, .int (nI N), .int y1, .long (tT e n r N l a i), pmJ, .int (nI l), .int q.2.2.1, .int q.2.2.2, .int (nI l), .int (nI a), .int (nI i), .long (tT e n r N l a i), pmJ]) 141 dX12_two_141 (Nat.le_of_ble_eq_true rfl) rfl ?_
            refine ev_iload 143 dX12_two_143 rfl ?_
            refine ev_istore (ls' := [.ref 100, .int (nI N), .int y1, .long (tT e n r N l a i), pmJ, .int (nI l), .int (nI a), .int q.2.2.2, .int (nI l), .int (nI a), .int (nI i), .long (tT e n r N l a i), pmJ]) 145 dX12_two_145 (Nat.le_of_ble_eq_true rfl) rfl ?_
            refine ev_iload 147 dX12_two_147 rfl ?_
            refine ev_istore (ls' := [.ref 100, .int (nI N), .int y1, .long (tT e n r N l a i), pmJ, .int (nI l), .int (nI a), .int (nI i), .int (nI l), .int (nI a), .int (nI i), .long (tT e n r N l a i), pmJ]) 149 dX12_two_149 (Nat.le_of_ble_eq_true rfl) rfl ?_
            refine ev_iinc (y := nI (i + 1)) (ls' := [.ref 100, .int (nI N), .int y1, .long (tT e n r N l a i), pmJ, .int (nI l), .int (nI a), .int (nI i), .int (nI l), .int (nI a), .int (nI (i + 1)), .long (tT e n r N l a i), pmJ]) 151 dX12_two_151 rfl (nI_add i 1) rfl ?_
            refine ev_goto 154 63 dX12_two_154 rfl ?_
            have hg : pG e l a i = decide (pRes e l (e.1 34 2) ≤ nI (i - a)) := by unfold pG; rw [h_74, h_85]; rfl
            rw [decide_eq_true c_102] at hg
            have hs : tS e n r N l a i q = (tT e n r N l a i, nI l, nI a, nI i) := by unfold tS; rw [if_pos c_123]
            refine ih (i + 1) (tT e n r N l a i, nI l, nI a, nI i) _ _ _ (by omega) (by omega) hM (fun v2 a2 b2 h2 => K v2 a2 b2 h2 |> fun z => by rw [pT1, hg, if_pos rfl, hs] at z; exact z)
          · refine ev_lload 126 dX12_two_126 rfl ?_
            refine ev_lload_n 128 dX12_two_128 rfl ?_
            refine ev_lcmp 129 dX12_two_129 ?_
            refine ev_if_ltL (a := tT e n r N l a i) (b := q.1) 130 136 dX12_two_130 rfl (fun c_130 => ?_) (fun c_130 => ?_)
            · refine ev_lload 136 dX12_two_136 rfl ?_
              refine ev_lstore_n (ls' := [.ref 100, .int (nI N), .int y1, .long (tT e n r N l a i), pmJ, .int q.2.1, .int q.2.2.1, .int q.2.2.2, .int (nI l), .int (nI a), .int (nI i), .long (tT e n r N l a i), pmJ]) 138 dX12_two_138 (Nat.le_of_ble_eq_true rfl) rfl ?_
              refine ev_iload 139 dX12_two_139 rfl ?_
              refine ev_istore (ls' := [.ref 100, .int (nI N), .int y1, .long (tT e n r N l a i), pmJ, .int (nI l), .int q.2.2.1, .int q.2.2.2, .int (nI l), .int (nI a), .int (nI i), .long (tT e n r N l a i), pmJ]) 141 dX12_two_141 (Nat.le_of_ble_eq_true rfl) rfl ?_
              refine ev_iload 143 dX12_two_143 rfl ?_
              refine ev_istore (ls' := [.ref 100, .int (nI N), .int y1, .long (tT e n r N l a i), pmJ, .int (nI l), .int (nI a), .int q.2.2.2, .int (nI l), .int (nI a), .int (nI i), .long (tT e n r N l a i), pmJ]) 145 dX12_two_145 (Nat.le_of_ble_eq_true rfl) rfl ?_
              refine ev_iload 147 dX12_two_147 rfl ?_
              refine ev_istore (ls' := [.ref 100, .int (nI N), .int y1, .long (tT e n r N l a i), pmJ, .int (nI l), .int (nI a), .int (nI i), .int (nI l), .int (nI a), .int (nI i), .long (tT e n r N l a i), pmJ]) 149 dX12_two_149 (Nat.le_of_ble_eq_true rfl) rfl ?_
              refine ev_iinc (y := nI (i + 1)) (ls' := [.ref 100, .int (nI N), .int y1, .long (tT e n r N l a i), pmJ, .int (nI l), .int (nI a), .int (nI i), .int (nI l), .int (nI a), .int (nI (i + 1)), .long (tT e n r N l a i), pmJ]) 151 dX12_two_151 rfl (nI_add i 1) rfl ?_
              refine ev_goto 154 63 dX12_two_154 rfl ?_
              have hg : pG e l a i = decide (pRes e l (e.1 34 2) ≤ nI (i - a)) := by unfold pG; rw [h_74, h_85]; rfl
              rw [decide_eq_true c_102] at hg
              have hs : tS e n r N l a i q = (tT e n r N l a i, nI l, nI a, nI i) := by unfold tS; rw [if_neg c_123, if_pos c_130]
              refine ih (i + 1) (tT e n r N l a i, nI l, nI a, nI i) _ _ _ (by omega) (by omega) hM (fun v2 a2 b2 h2 => K v2 a2 b2 h2 |> fun z => by rw [pT1, hg, if_pos rfl, hs] at z; exact z)
            · refine ev_goto 133 151 dX12_two_133 rfl ?_
              refine ev_iinc (y := nI (i + 1)) (ls' := [.ref 100, .int (nI N), .int y1, .long q.1, pmJ, .int q.2.1, .int q.2.2.1, .int q.2.2.2, .int (nI l), .int (nI a), .int (nI (i + 1)), .long (tT e n r N l a i), pmJ]) 151 dX12_two_151 rfl (nI_add i 1) rfl ?_
              refine ev_goto 154 63 dX12_two_154 rfl ?_
              have hg : pG e l a i = decide (pRes e l (e.1 34 2) ≤ nI (i - a)) := by unfold pG; rw [h_74, h_85]; rfl
              rw [decide_eq_true c_102] at hg
              have hs : tS e n r N l a i q = q := by unfold tS; rw [if_neg c_123, if_neg c_130]
              refine ih (i + 1) q _ _ _ (by omega) (by omega) hM (fun v2 a2 b2 h2 => K v2 a2 b2 h2 |> fun z => by rw [pT1, hg, if_pos rfl, hs] at z; exact z)
        · refine ev_goto 105 151 dX12_two_105 rfl ?_
          refine ev_iinc (y := nI (i + 1)) (ls' := [.ref 100, .int (nI N), .int y1, .long q.1, pmJ, .int q.2.1, .int q.2.2.1, .int q.2.2.2, .int (nI l), .int (nI a), .int (nI (i + 1)), w11, w12]) 151 dX12_two_151 rfl (nI_add i 1) rfl ?_
          refine ev_goto 154 63 dX12_two_154 rfl ?_
          have hg : pG e l a i = decide (pRes e l (e.1 34 2) ≤ nI (i - a)) := by unfold pG; rw [h_74, h_85]; rfl
          rw [decide_eq_false c_102] at hg
          refine ih (i + 1) q _ _ _ (by omega) (by omega) hM (fun v2 a2 b2 h2 => K v2 a2 b2 h2 |> fun z => by rw [pT1, hg, if_neg Bool.false_ne_true] at z; exact z)
      · refine ev_ifT 88 151 dX12_two_88 rfl (by decide) ?_
        refine ev_iinc (y := nI (i + 1)) (ls' := [.ref 100, .int (nI N), .int y1, .long q.1, pmJ, .int q.2.1, .int q.2.2.1, .int q.2.2.2, .int (nI l), .int (nI a), .int (nI (i + 1)), w11, w12]) 151 dX12_two_151 rfl (nI_add i 1) rfl ?_
        refine ev_goto 154 63 dX12_two_154 rfl ?_
        have hg : pG e l a i = false := by unfold pG; rw [Bool.eq_false_iff.mpr h_85]; simp
        refine ih (i + 1) q _ _ _ (by omega) (by omega) hM (fun v2 a2 b2 h2 => K v2 a2 b2 h2 |> fun z => by rw [pT1, hg, if_neg Bool.false_ne_true] at z; exact z)
    · refine ev_ifT 77 151 dX12_two_77 rfl (by decide) ?_
      refine ev_iinc (y := nI (i + 1)) (ls' := [.ref 100, .int (nI N), .int y1, .long q.1, pmJ, .int q.2.1, .int q.2.2.1, .int q.2.2.2, .int (nI l), .int (nI a), .int (nI (i + 1)), w11, w12]) 151 dX12_two_151 rfl (nI_add i 1) rfl ?_
      refine ev_goto 154 63 dX12_two_154 rfl ?_
      have hg : pG e l a i = false := by unfold pG; rw [Bool.eq_false_iff.mpr h_74]; simp
      refine ih (i + 1) q _ _ _ (by omega) (by omega) hM (fun v2 a2 b2 h2 => K v2 a2 b2 h2 |> fun z => by rw [pT1, hg, if_neg Bool.false_ne_true] at z; exact z)

theorem lp_u2 {X : pmX} {d : Nat} {P : Option Value → pmT → pmV → Prop} {LT : pmT} {e : pmV} {n tx z r N : Nat} {l : Nat} {y1 : Int32} (hN : 1 ≤ N ∧ N ≤ 60) (hC : Cpl n tx z LT e) (hr : r < tx) (hr2 : e.1 100 11 = nI r) (hl : l < n) : ∀ (k : Nat) (i : Nat) (q : tQ) (w10 w11 w12 : Value) (v : pmV), i + k = N → MX e n v → (∀ v' w10' w11' w12', MX e n v' → EvP X (d + 8) MX12_two 163 [.ref 100, .int (nI N), .int y1, .long (pT2 e n r N l k i q).1, pmJ, .int (pT2 e n r N l k i q).2.1, .int (pT2 e n r N l k i q).2.2.1, .int (pT2 e n r N l k i q).2.2.2, .int (nI l), .int (nI N), w10', w11', w12'] [] (pmT0 ++ LT) v' P) → EvP X (d + 8) MX12_two 51 [.ref 100, .int (nI N), .int y1, .long q.1, pmJ, .int q.2.1, .int q.2.2.1, .int q.2.2.2, .int (nI l), .int (nI i), w10, w11, w12] [] (pmT0 ++ LT) v P := by
  intro k
  induction k with
  | zero =>
    intro i q w10 w11 w12 v hi hM K
    have hi2 : N = i := by omega
    subst hi2
    obtain ⟨g, s, p, hD, g0, g1⟩ := id hM
    have hn8 := hC.2.1.1
    refine ev_iload 51 dX12_two_51 rfl ?_
    refine ev_iload_n 53 dX12_two_53 rfl ?_
    refine ev_ic_geN (a := N) (b := N) 54 163 dX12_two_54 rfl (by omega) (by omega) (fun c_54 => ?_) (fun c_54 => by omega)
    exact K v w10 w11 w12 hM
  | succ k ih =>
    intro i q w10 w11 w12 v hi hM K
    obtain ⟨g, s, p, hD, g0, g1⟩ := id hM
    have hn8 := hC.2.1.1
    refine ev_iload 51 dX12_two_51 rfl ?_
    refine ev_iload_n 53 dX12_two_53 rfl ?_
    refine ev_ic_geN (a := i) (b := N) 54 163 dX12_two_54 rfl (by omega) (by omega) (fun c_54 => by omega) (fun c_54 => ?_)
    refine ev_iload 57 dX12_two_57 rfl ?_
    refine ev_iconst 59 dX12_two_59 kI_1 ?_
    refine ev_iadd 60 dX12_two_60 ?_
    refine ev_cst (y := nI (i + 1)) (nI_add i 1) ?_
    refine ev_istore (ls' := [.ref 100, .int (nI N), .int y1, .long q.1, pmJ, .int q.2.1, .int q.2.2.1, .int q.2.2.2, .int (nI l), .int (nI i), .int (nI (i + 1)), w11, w12]) 61 dX12_two_61 (Nat.le_of_ble_eq_true rfl) rfl ?_
    refine lp_u1 hN hC hr hr2 hl (N - (i + 1)) (i + 1) q w11 w12 v (by omega) (by omega) hM (fun v1 x11 x12 hM => ?_)
    refine ev_iinc (y := nI (i + 1)) (ls' := [.ref 100, .int (nI N), .int y1, .long ((pT1 e n r N l i (N - (i + 1)) (i + 1) q).1), pmJ, .int ((pT1 e n r N l i (N - (i + 1)) (i + 1) q).2.1), .int ((pT1 e n r N l i (N - (i + 1)) (i + 1) q).2.2.1), .int ((pT1 e n r N l i (N - (i + 1)) (i + 1) q).2.2.2), .int (nI l), .int (nI (i + 1)), .int (nI N), x11, x12]) 157 dX12_two_157 rfl (nI_add i 1) rfl ?_
    refine ev_goto 160 51 dX12_two_160 rfl ?_
    exact ih (i + 1) _ _ _ _ _ (by omega) hM K

theorem lp_u3 {X : pmX} {d : Nat} {P : Option Value → pmT → pmV → Prop} {LT : pmT} {e : pmV} {n tx z r N : Nat} {y1 : Int32} (hN : 1 ≤ N ∧ N ≤ 60) (hC : Cpl n tx z LT e) (hr : r < tx) (hr2 : e.1 100 11 = nI r)  : ∀ (k : Nat) (i : Nat) (q : tQ) (w9 w10 w11 w12 : Value) (v : pmV), i + k = n → MX e n v → (∀ v' w9' w10' w11' w12', MX e n v' → EvP X (d + 8) MX12_two 169 [.ref 100, .int (nI N), .int y1, .long (pT3 e n r N k i q).1, pmJ, .int (pT3 e n r N k i q).2.1, .int (pT3 e n r N k i q).2.2.1, .int (pT3 e n r N k i q).2.2.2, .int (nI n), w9', w10', w11', w12'] [] (pmT0 ++ LT) v' P) → EvP X (d + 8) MX12_two 39 [.ref 100, .int (nI N), .int y1, .long q.1, pmJ, .int q.2.1, .int q.2.2.1, .int q.2.2.2, .int (nI i), w9, w10, w11, w12] [] (pmT0 ++ LT) v P := by
  intro k
  induction k with
  | zero =>
    intro i q w9 w10 w11 w12 v hi hM K
    have hi2 : n = i := by omega
    subst hi2
    obtain ⟨g, s, p, hD, g0, g1⟩ := id hM
    have hn8 := hC.2.1.1
    refine ev_iload 39 dX12_two_39 rfl ?_
    refine ev_aload_n 41 dX12_two_41 rfl (by decide) ?_
    refine gf_12_1 (x := nI n) (pc := 42) rfl dX12_two_42 kd_100 ((hD.c (by unfold DcA DcX; omega)).trans hC.2.1.2.2.2.1) ?_
    refine ev_ic_geN (a := n) (b := n) 45 169 dX12_two_45 rfl (by omega) (by omega) (fun c_45 => ?_) (fun c_45 => by omega)
    exact K v w9 w10 w11 w12 hM
  | succ k ih =>
    intro i q w9 w10 w11 w12 v hi hM K
    obtain ⟨g, s, p, hD, g0, g1⟩ := id hM
    have hn8 := hC.2.1.1
    refine ev_iload 39 dX12_two_39 rfl ?_
    refine ev_aload_n 41 dX12_two_41 rfl (by decide) ?_
    refine gf_12_1 (x := nI n) (pc := 42) rfl dX12_two_42 kd_100 ((hD.c (by unfold DcA DcX; omega)).trans hC.2.1.2.2.2.1) ?_
    refine ev_ic_geN (a := i) (b := n) 45 169 dX12_two_45 rfl (by omega) (by omega) (fun c_45 => by omega) (fun c_45 => ?_)
    refine ev_iconst 48 dX12_two_48 kI_0 ?_
    refine ev_istore (ls' := [.ref 100, .int (nI N), .int y1, .long q.1, pmJ, .int q.2.1, .int q.2.2.1, .int q.2.2.2, .int (nI i), .int 0, w10, w11, w12]) 49 dX12_two_49 (Nat.le_of_ble_eq_true rfl) rfl ?_
    refine lp_u2 hN hC hr hr2 (by omega) N 0 q w10 w11 w12 v (by omega) hM (fun v1 x10 x11 x12 hM => ?_)
    refine ev_iinc (y := nI (i + 1)) (ls' := [.ref 100, .int (nI N), .int y1, .long ((pT2 e n r N i N 0 q).1), pmJ, .int ((pT2 e n r N i N 0 q).2.1), .int ((pT2 e n r N i N 0 q).2.2.1), .int ((pT2 e n r N i N 0 q).2.2.2), .int (nI (i + 1)), .int (nI N), x10, x11, x12]) 163 dX12_two_163 rfl (nI_add i 1) rfl ?_
    refine ev_goto 166 39 dX12_two_166 rfl ?_
    exact ih (i + 1) _ _ _ _ _ _ (by omega) hM K

theorem c_X12_two_1 {X : pmX} {d : Nat} {v : pmV} {P : Option Value → pmT → pmV → Prop} {LT : pmT} {a b : Int32} (h1 : ¬ ((2 : Int32) ≤ a ∧ a ≤ 12)) (k : P (some (.long (-4611686018427387904))) (pmT0 ++ LT) v) : EvP X (d + 2) MX12_two 0 [.ref 100, .int a, .int b, pmJ, pmJ, pmJ, pmJ, pmJ, pmJ, pmJ, pmJ, pmJ, pmJ] [] (pmT0 ++ LT) v P := by
  refine ev_aload_n 0 dX12_two_0 rfl (by decide) ?_
  refine ev_iload_n 1 dX12_two_1 rfl ?_
  refine ev_iconst 2 dX12_two_2 kI_2 ?_
  refine ev_bipush 3 dX12_two_3 kB_12 ?_
  refine cv_12_7_12 (pc := 5) rfl dX12_two_5 kd_100 (Nat.le_of_ble_eq_true rfl) ?_
  refine c_X12_in (fun h_5 => absurd h_5 h1) (fun h_5 => ?_)
  refine ev_ifT 8 21 dX12_two_8 rfl (by decide) ?_
  refine ev_ldc2 21 dX12_two_21 l2_12_314 ?_
  refine ev_lreturn 24 dX12_two_24 rfl ?_
  exact k

theorem c_X12_two_2 {X : pmX} {d : Nat} {v : pmV} {P : Option Value → pmT → pmV → Prop} {LT : pmT} {a b : Int32} (h1 : (2 : Int32) ≤ a ∧ a ≤ 12) (h2 : ¬ (0 ≤ b ∧ b ≤ 3)) (k : P (some (.long (-4611686018427387904))) (pmT0 ++ LT) v) : EvP X (d + 2) MX12_two 0 [.ref 100, .int a, .int b, pmJ, pmJ, pmJ, pmJ, pmJ, pmJ, pmJ, pmJ, pmJ, pmJ] [] (pmT0 ++ LT) v P := by
  refine ev_aload_n 0 dX12_two_0 rfl (by decide) ?_
  refine ev_iload_n 1 dX12_two_1 rfl ?_
  refine ev_iconst 2 dX12_two_2 kI_2 ?_
  refine ev_bipush 3 dX12_two_3 kB_12 ?_
  refine cv_12_7_12 (pc := 5) rfl dX12_two_5 kd_100 (Nat.le_of_ble_eq_true rfl) ?_
  refine c_X12_in (fun h_5 => ?_) (fun h_5 => absurd h1 h_5)
  refine ev_ifF 8 21 dX12_two_8 rfl (by decide) ?_
  refine ev_aload_n 11 dX12_two_11 rfl (by decide) ?_
  refine ev_iload_n 12 dX12_two_12 rfl ?_
  refine ev_iconst 13 dX12_two_13 kI_0 ?_
  refine ev_iconst 14 dX12_two_14 kI_3 ?_
  refine cv_12_7_12 (pc := 15) rfl dX12_two_15 kd_100 (Nat.le_of_ble_eq_true rfl) ?_
  refine c_X12_in (fun h_15 => absurd h_15 h2) (fun h_15 => ?_)
  refine ev_ifF 18 25 dX12_two_18 rfl (by decide) ?_
  refine ev_ldc2 21 dX12_two_21 l2_12_314 ?_
  refine ev_lreturn 24 dX12_two_24 rfl ?_
  exact k

theorem c_X12_two_ok {X : pmX} {d : Nat} {v : pmV} {P : Option Value → pmT → pmV → Prop} {LT : pmT} {e : pmV} {n tx z r N : Nat} {w : Nat} (hN : 1 ≤ N ∧ N ≤ 60) (hC : Cpl n tx z LT e) (hr : r < tx) (hr2 : e.1 100 11 = nI r) (hM : MX e n v) (hw : w ≤ 3) (h1 : (2 : Int32) ≤ nI N ∧ nI N ≤ 12) (k : ∀ v', MX e n v' → P (some (.long (tAns (pTwo e n r N) w))) (pmT0 ++ LT) v') : EvP X (d + 8) MX12_two 0 [.ref 100, .int (nI N), .int (nI w), pmJ, pmJ, pmJ, pmJ, pmJ, pmJ, pmJ, pmJ, pmJ, pmJ] [] (pmT0 ++ LT) v P := by
  have hn8 := hC.2.1.1
  have : w = 0 ∨ w = 1 ∨ w = 2 ∨ w = 3 := by omega
  rcases this with rfl | rfl | rfl | rfl
  · refine ev_aload_n 0 dX12_two_0 rfl (by decide) ?_
    refine ev_iload_n 1 dX12_two_1 rfl ?_
    refine ev_iconst 2 dX12_two_2 kI_2 ?_
    refine ev_bipush 3 dX12_two_3 kB_12 ?_
    refine cv_12_7_12 (pc := 5) rfl dX12_two_5 kd_100 (Nat.le_of_ble_eq_true rfl) ?_
    refine c_X12_in (fun h_5 => ?_) (fun h_5 => absurd h1 h_5)
    refine ev_ifF 8 21 dX12_two_8 rfl (by decide) ?_
    refine ev_aload_n 11 dX12_two_11 rfl (by decide) ?_
    refine ev_iload_n 12 dX12_two_12 rfl ?_
    refine ev_iconst 13 dX12_two_13 kI_0 ?_
    refine ev_iconst 14 dX12_two_14 kI_3 ?_
    refine cv_12_7_12 (pc := 15) rfl dX12_two_15 kd_100 (Nat.le_of_ble_eq_true rfl) ?_
    refine c_X12_in (fun h_15 => ?_) (fun h_15 => absurd (show (0 : Int32) ≤ 0 ∧ (0 : Int32) ≤ 3 by decide) h_15)
    refine ev_ifT 18 25 dX12_two_18 rfl (by decide) ?_
    refine ev_lconst (x := 0) 25 dX12_two_25 rfl ?_
    refine ev_lstore_n (ls' := [.ref 100, .int (nI N), .int 0, .long 0, pmJ, pmJ, pmJ, pmJ, pmJ, pmJ, pmJ, pmJ, pmJ]) 26 dX12_two_26 (Nat.le_of_ble_eq_true rfl) rfl ?_
    refine ev_iconst 27 dX12_two_27 kI_m1 ?_
    refine ev_istore (ls' := [.ref 100, .int (nI N), .int 0, .long 0, pmJ, .int (-1), pmJ, pmJ, pmJ, pmJ, pmJ, pmJ, pmJ]) 28 dX12_two_28 (Nat.le_of_ble_eq_true rfl) rfl ?_
    refine ev_iconst 30 dX12_two_30 kI_m1 ?_
    refine ev_istore (ls' := [.ref 100, .int (nI N), .int 0, .long 0, pmJ, .int (-1), .int (-1), pmJ, pmJ, pmJ, pmJ, pmJ, pmJ]) 31 dX12_two_31 (Nat.le_of_ble_eq_true rfl) rfl ?_
    refine ev_iconst 33 dX12_two_33 kI_m1 ?_
    refine ev_istore (ls' := [.ref 100, .int (nI N), .int 0, .long 0, pmJ, .int (-1), .int (-1), .int (-1), pmJ, pmJ, pmJ, pmJ, pmJ]) 34 dX12_two_34 (Nat.le_of_ble_eq_true rfl) rfl ?_
    refine ev_iconst 36 dX12_two_36 kI_0 ?_
    refine ev_istore (ls' := [.ref 100, .int (nI N), .int 0, .long 0, pmJ, .int (-1), .int (-1), .int (-1), .int 0, pmJ, pmJ, pmJ, pmJ]) 37 dX12_two_37 (Nat.le_of_ble_eq_true rfl) rfl ?_
    refine lp_u3 hN hC hr hr2 n 0 (0, -1, -1, -1) _ _ _ _ v (by omega) hM (fun v2 x9 x10 x11 x12 hM => ?_)
    refine ev_iload 169 dX12_two_169 rfl ?_
    refine ev_if_ge 171 180 dX12_two_171 rfl (fun c_171 => ?_) (fun c_171 => ?_)
    · refine ev_iload_n 180 dX12_two_180 rfl ?_
      refine ev_ifF 181 190 dX12_two_181 rfl (by decide) ?_
      refine ev_iload 184 dX12_two_184 rfl ?_
      refine ev_i2l 186 dX12_two_186 ?_
      refine ev_goto 187 213 dX12_two_187 rfl ?_
      refine ev_lreturn 213 dX12_two_213 rfl ?_
      rw [show tAns (pTwo e n r N) 0 = ((pTwo e n r N).2.1).toInt64 by unfold tAns; rw [if_neg (show ¬ (pTwo e n r N).2.1 < 0 from Int32.not_lt.mpr c_171)]; rfl] at k
      exact k _ hM
    · refine ev_ldc2 174 dX12_two_174 l2_12_323 ?_
      refine ev_goto 177 213 dX12_two_177 rfl ?_
      refine ev_lreturn 213 dX12_two_213 rfl ?_
      rw [show tAns (pTwo e n r N) 0 = (-1) by unfold tAns; rw [if_pos (show (pTwo e n r N).2.1 < 0 from Int32.not_le.mp c_171)]] at k
      exact k _ hM
  · refine ev_aload_n 0 dX12_two_0 rfl (by decide) ?_
    refine ev_iload_n 1 dX12_two_1 rfl ?_
    refine ev_iconst 2 dX12_two_2 kI_2 ?_
    refine ev_bipush 3 dX12_two_3 kB_12 ?_
    refine cv_12_7_12 (pc := 5) rfl dX12_two_5 kd_100 (Nat.le_of_ble_eq_true rfl) ?_
    refine c_X12_in (fun h_5 => ?_) (fun h_5 => absurd h1 h_5)
    refine ev_ifF 8 21 dX12_two_8 rfl (by decide) ?_
    refine ev_aload_n 11 dX12_two_11 rfl (by decide) ?_
    refine ev_iload_n 12 dX12_two_12 rfl ?_
    refine ev_iconst 13 dX12_two_13 kI_0 ?_
    refine ev_iconst 14 dX12_two_14 kI_3 ?_
    refine cv_12_7_12 (pc := 15) rfl dX12_two_15 kd_100 (Nat.le_of_ble_eq_true rfl) ?_
    refine c_X12_in (fun h_15 => ?_) (fun h_15 => absurd (show (0 : Int32) ≤ 1 ∧ (1 : Int32) ≤ 3 by decide) h_15)
    refine ev_ifT 18 25 dX12_two_18 rfl (by decide) ?_
    refine ev_lconst (x := 0) 25 dX12_two_25 rfl ?_
    refine ev_lstore_n (ls' := [.ref 100, .int (nI N), .int 1, .long 0, pmJ, pmJ, pmJ, pmJ, pmJ, pmJ, pmJ, pmJ, pmJ]) 26 dX12_two_26 (Nat.le_of_ble_eq_true rfl) rfl ?_
    refine ev_iconst 27 dX12_two_27 kI_m1 ?_
    refine ev_istore (ls' := [.ref 100, .int (nI N), .int 1, .long 0, pmJ, .int (-1), pmJ, pmJ, pmJ, pmJ, pmJ, pmJ, pmJ]) 28 dX12_two_28 (Nat.le_of_ble_eq_true rfl) rfl ?_
    refine ev_iconst 30 dX12_two_30 kI_m1 ?_
    refine ev_istore (ls' := [.ref 100, .int (nI N), .int 1, .long 0, pmJ, .int (-1), .int (-1), pmJ, pmJ, pmJ, pmJ, pmJ, pmJ]) 31 dX12_two_31 (Nat.le_of_ble_eq_true rfl) rfl ?_
    refine ev_iconst 33 dX12_two_33 kI_m1 ?_
    refine ev_istore (ls' := [.ref 100, .int (nI N), .int 1, .long 0, pmJ, .int (-1), .int (-1), .int (-1), pmJ, pmJ, pmJ, pmJ, pmJ]) 34 dX12_two_34 (Nat.le_of_ble_eq_true rfl) rfl ?_
    refine ev_iconst 36 dX12_two_36 kI_0 ?_
    refine ev_istore (ls' := [.ref 100, .int (nI N), .int 1, .long 0, pmJ, .int (-1), .int (-1), .int (-1), .int 0, pmJ, pmJ, pmJ, pmJ]) 37 dX12_two_37 (Nat.le_of_ble_eq_true rfl) rfl ?_
    refine lp_u3 hN hC hr hr2 n 0 (0, -1, -1, -1) _ _ _ _ v (by omega) hM (fun v2 x9 x10 x11 x12 hM => ?_)
    refine ev_iload 169 dX12_two_169 rfl ?_
    refine ev_if_ge 171 180 dX12_two_171 rfl (fun c_171 => ?_) (fun c_171 => ?_)
    · refine ev_iload_n 180 dX12_two_180 rfl ?_
      refine ev_ifT 181 190 dX12_two_181 rfl (by decide) ?_
      refine ev_iload_n 190 dX12_two_190 rfl ?_
      refine ev_iconst 191 dX12_two_191 kI_1 ?_
      refine ev_icF 192 201 dX12_two_192 rfl (by decide) ?_
      refine ev_iload 195 dX12_two_195 rfl ?_
      refine ev_i2l 197 dX12_two_197 ?_
      refine ev_goto 198 213 dX12_two_198 rfl ?_
      refine ev_lreturn 213 dX12_two_213 rfl ?_
      rw [show tAns (pTwo e n r N) 1 = ((pTwo e n r N).2.2.1).toInt64 by unfold tAns; rw [if_neg (show ¬ (pTwo e n r N).2.1 < 0 from Int32.not_lt.mpr c_171)]; rfl] at k
      exact k _ hM
    · refine ev_ldc2 174 dX12_two_174 l2_12_323 ?_
      refine ev_goto 177 213 dX12_two_177 rfl ?_
      refine ev_lreturn 213 dX12_two_213 rfl ?_
      rw [show tAns (pTwo e n r N) 1 = (-1) by unfold tAns; rw [if_pos (show (pTwo e n r N).2.1 < 0 from Int32.not_le.mp c_171)]] at k
      exact k _ hM
  · refine ev_aload_n 0 dX12_two_0 rfl (by decide) ?_
    refine ev_iload_n 1 dX12_two_1 rfl ?_
    refine ev_iconst 2 dX12_two_2 kI_2 ?_
    refine ev_bipush 3 dX12_two_3 kB_12 ?_
    refine cv_12_7_12 (pc := 5) rfl dX12_two_5 kd_100 (Nat.le_of_ble_eq_true rfl) ?_
    refine c_X12_in (fun h_5 => ?_) (fun h_5 => absurd h1 h_5)
    refine ev_ifF 8 21 dX12_two_8 rfl (by decide) ?_
    refine ev_aload_n 11 dX12_two_11 rfl (by decide) ?_
    refine ev_iload_n 12 dX12_two_12 rfl ?_
    refine ev_iconst 13 dX12_two_13 kI_0 ?_
    refine ev_iconst 14 dX12_two_14 kI_3 ?_
    refine cv_12_7_12 (pc := 15) rfl dX12_two_15 kd_100 (Nat.le_of_ble_eq_true rfl) ?_
    refine c_X12_in (fun h_15 => ?_) (fun h_15 => absurd (show (0 : Int32) ≤ 2 ∧ (2 : Int32) ≤ 3 by decide) h_15)
    refine ev_ifT 18 25 dX12_two_18 rfl (by decide) ?_
    refine ev_lconst (x := 0) 25 dX12_two_25 rfl ?_
    refine ev_lstore_n (ls' := [.ref 100, .int (nI N), .int 2, .long 0, pmJ, pmJ, pmJ, pmJ, pmJ, pmJ, pmJ, pmJ, pmJ]) 26 dX12_two_26 (Nat.le_of_ble_eq_true rfl) rfl ?_
    refine ev_iconst 27 dX12_two_27 kI_m1 ?_
    refine ev_istore (ls' := [.ref 100, .int (nI N), .int 2, .long 0, pmJ, .int (-1), pmJ, pmJ, pmJ, pmJ, pmJ, pmJ, pmJ]) 28 dX12_two_28 (Nat.le_of_ble_eq_true rfl) rfl ?_
    refine ev_iconst 30 dX12_two_30 kI_m1 ?_
    refine ev_istore (ls' := [.ref 100, .int (nI N), .int 2, .long 0, pmJ, .int (-1), .int (-1), pmJ, pmJ, pmJ, pmJ, pmJ, pmJ]) 31 dX12_two_31 (Nat.le_of_ble_eq_true rfl) rfl ?_
    refine ev_iconst 33 dX12_two_33 kI_m1 ?_
    refine ev_istore (ls' := [.ref 100, .int (nI N), .int 2, .long 0, pmJ, .int (-1), .int (-1), .int (-1), pmJ, pmJ, pmJ, pmJ, pmJ]) 34 dX12_two_34 (Nat.le_of_ble_eq_true rfl) rfl ?_
    refine ev_iconst 36 dX12_two_36 kI_0 ?_
    refine ev_istore (ls' := [.ref 100, .int (nI N), .int 2, .long 0, pmJ, .int (-1), .int (-1), .int (-1), .int 0, pmJ, pmJ, pmJ, pmJ]) 37 dX12_two_37 (Nat.le_of_ble_eq_true rfl) rfl ?_
    refine lp_u3 hN hC hr hr2 n 0 (0, -1, -1, -1) _ _ _ _ v (by omega) hM (fun v2 x9 x10 x11 x12 hM => ?_)
    refine ev_iload 169 dX12_two_169 rfl ?_
    refine ev_if_ge 171 180 dX12_two_171 rfl (fun c_171 => ?_) (fun c_171 => ?_)
    · refine ev_iload_n 180 dX12_two_180 rfl ?_
      refine ev_ifT 181 190 dX12_two_181 rfl (by decide) ?_
      refine ev_iload_n 190 dX12_two_190 rfl ?_
      refine ev_iconst 191 dX12_two_191 kI_1 ?_
      refine ev_icT 192 201 dX12_two_192 rfl (by decide) ?_
      refine ev_iload_n 201 dX12_two_201 rfl ?_
      refine ev_iconst 202 dX12_two_202 kI_2 ?_
      refine ev_icF 203 212 dX12_two_203 rfl (by decide) ?_
      refine ev_iload 206 dX12_two_206 rfl ?_
      refine ev_i2l 208 dX12_two_208 ?_
      refine ev_goto 209 213 dX12_two_209 rfl ?_
      refine ev_lreturn 213 dX12_two_213 rfl ?_
      rw [show tAns (pTwo e n r N) 2 = ((pTwo e n r N).2.2.2).toInt64 by unfold tAns; rw [if_neg (show ¬ (pTwo e n r N).2.1 < 0 from Int32.not_lt.mpr c_171)]; rfl] at k
      exact k _ hM
    · refine ev_ldc2 174 dX12_two_174 l2_12_323 ?_
      refine ev_goto 177 213 dX12_two_177 rfl ?_
      refine ev_lreturn 213 dX12_two_213 rfl ?_
      rw [show tAns (pTwo e n r N) 2 = (-1) by unfold tAns; rw [if_pos (show (pTwo e n r N).2.1 < 0 from Int32.not_le.mp c_171)]] at k
      exact k _ hM
  · refine ev_aload_n 0 dX12_two_0 rfl (by decide) ?_
    refine ev_iload_n 1 dX12_two_1 rfl ?_
    refine ev_iconst 2 dX12_two_2 kI_2 ?_
    refine ev_bipush 3 dX12_two_3 kB_12 ?_
    refine cv_12_7_12 (pc := 5) rfl dX12_two_5 kd_100 (Nat.le_of_ble_eq_true rfl) ?_
    refine c_X12_in (fun h_5 => ?_) (fun h_5 => absurd h1 h_5)
    refine ev_ifF 8 21 dX12_two_8 rfl (by decide) ?_
    refine ev_aload_n 11 dX12_two_11 rfl (by decide) ?_
    refine ev_iload_n 12 dX12_two_12 rfl ?_
    refine ev_iconst 13 dX12_two_13 kI_0 ?_
    refine ev_iconst 14 dX12_two_14 kI_3 ?_
    refine cv_12_7_12 (pc := 15) rfl dX12_two_15 kd_100 (Nat.le_of_ble_eq_true rfl) ?_
    refine c_X12_in (fun h_15 => ?_) (fun h_15 => absurd (show (0 : Int32) ≤ 3 ∧ (3 : Int32) ≤ 3 by decide) h_15)
    refine ev_ifT 18 25 dX12_two_18 rfl (by decide) ?_
    refine ev_lconst (x := 0) 25 dX12_two_25 rfl ?_
    refine ev_lstore_n (ls' := [.ref 100, .int (nI N), .int 3, .long 0, pmJ, pmJ, pmJ, pmJ, pmJ, pmJ, pmJ, pmJ, pmJ]) 26 dX12_two_26 (Nat.le_of_ble_eq_true rfl) rfl ?_
    refine ev_iconst 27 dX12_two_27 kI_m1 ?_
    refine ev_istore (ls' := [.ref 100, .int (nI N), .int 3, .long 0, pmJ, .int (-1), pmJ, pmJ, pmJ, pmJ, pmJ, pmJ, pmJ]) 28 dX12_two_28 (Nat.le_of_ble_eq_true rfl) rfl ?_
    refine ev_iconst 30 dX12_two_30 kI_m1 ?_
    refine ev_istore (ls' := [.ref 100, .int (nI N), .int 3, .long 0, pmJ, .int (-1), .int (-1), pmJ, pmJ, pmJ, pmJ, pmJ, pmJ]) 31 dX12_two_31 (Nat.le_of_ble_eq_true rfl) rfl ?_
    refine ev_iconst 33 dX12_two_33 kI_m1 ?_
    refine ev_istore (ls' := [.ref 100, .int (nI N), .int 3, .long 0, pmJ, .int (-1), .int (-1), .int (-1), pmJ, pmJ, pmJ, pmJ, pmJ]) 34 dX12_two_34 (Nat.le_of_ble_eq_true rfl) rfl ?_
    refine ev_iconst 36 dX12_two_36 kI_0 ?_
    refine ev_istore (ls' := [.ref 100, .int (nI N), .int 3, .long 0, pmJ, .int (-1), .int (-1), .int (-1), .int 0, pmJ, pmJ, pmJ, pmJ]) 37 dX12_two_37 (Nat.le_of_ble_eq_true rfl) rfl ?_
    refine lp_u3 hN hC hr hr2 n 0 (0, -1, -1, -1) _ _ _ _ v (by omega) hM (fun v2 x9 x10 x11 x12 hM => ?_)
    refine ev_iload 169 dX12_two_169 rfl ?_
    refine ev_if_ge 171 180 dX12_two_171 rfl (fun c_171 => ?_) (fun c_171 => ?_)
    · refine ev_iload_n 180 dX12_two_180 rfl ?_
      refine ev_ifT 181 190 dX12_two_181 rfl (by decide) ?_
      refine ev_iload_n 190 dX12_two_190 rfl ?_
      refine ev_iconst 191 dX12_two_191 kI_1 ?_
      refine ev_icT 192 201 dX12_two_192 rfl (by decide) ?_
      refine ev_iload_n 201 dX12_two_201 rfl ?_
      refine ev_iconst 202 dX12_two_202 kI_2 ?_
      refine ev_icT 203 212 dX12_two_203 rfl (by decide) ?_
      refine ev_lload_n 212 dX12_two_212 rfl ?_
      refine ev_lreturn 213 dX12_two_213 rfl ?_
      rw [show tAns (pTwo e n r N) 3 = (pTwo e n r N).1 by unfold tAns; rw [if_neg (show ¬ (pTwo e n r N).2.1 < 0 from Int32.not_lt.mpr c_171)]; rfl] at k
      exact k _ hM
    · refine ev_ldc2 174 dX12_two_174 l2_12_323 ?_
      refine ev_goto 177 213 dX12_two_177 rfl ?_
      refine ev_lreturn 213 dX12_two_213 rfl ?_
      rw [show tAns (pTwo e n r N) 3 = (-1) by unfold tAns; rw [if_pos (show (pTwo e n r N).2.1 < 0 from Int32.not_le.mp c_171)]] at k
      exact k _ hM
theorem op_two {X : pmX} {d n tx z : Nat} {LT : pmT} {v : pmV} {a b : Int32} (hC : Cpl n tx z LT v) : EvP X (d + 20) MX11_two 0 [.ref 32, .int a, .int b, pmJ, pmJ, pmJ] [] (pmT0 ++ LT) v (Aft X (d + 20) MX12_two [.ref 100, .int a, .int b, pmJ, pmJ, pmJ, pmJ, pmJ, pmJ, pmJ, pmJ, pmJ, pmJ]) := by
  obtain ⟨hX, hL, hS, hR, hI, hT, hTa, hSh, hF⟩ := id hC
  obtain ⟨r, hr, hr1, hr2⟩ := hR
  by_cases h1 : (2 : Int32) ≤ a ∧ a ≤ 12
  · by_cases h2 : 0 ≤ b ∧ b ≤ 3
    · obtain ⟨N, rfl, hN1, hN2⟩ := nI_rng (a := 2) (b := 12) (by omega) (by omega) h1
      obtain ⟨w, rfl, _, hw⟩ := nI_rng (a := 0) (b := 3) (by omega) (by omega) h2
      refine c_X11_two_ok (d := d + 7) hC hr hr1 (by omega) hw h1 (fun v1 hB => ?_)
      obtain ⟨e1, s, p, he, he2, _, _, hD, _, _, _, _⟩ := hB
      refine c_X12_two_ok (d := d + 12) ⟨by omega, by omega⟩ hC hr hr2 (MX.of hC hD.1 (hD.fd.eq he he2)) hw h1 (fun v2 hM => ?_)
      exact ⟨rfl, n, tx, z, LT, rfl, hM.fin hC⟩
    · refine c_X11_two_2 (d := d + 17) h1 h2 ?_
      refine c_X12_two_2 (d := d + 18) h1 h2 ?_
      exact ⟨rfl, n, tx, z, LT, rfl, hC⟩
  · refine c_X11_two_1 (d := d + 17) h1 ?_
    refine c_X12_two_1 (d := d + 18) h1 ?_
    exact ⟨rfl, n, tx, z, LT, rfl, hC⟩
