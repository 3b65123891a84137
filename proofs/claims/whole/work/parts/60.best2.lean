/-! best: the reference, and both -/
/-- the reference between two days -/
def MX (e : pmV) (n : Nat) (v : pmV) : Prop := ∃ (g : Nat → Int32) (s : dT) (p : Int64), DM e n g s p v ∧ g 0 = -1 ∧ g 1 = -1
theorem MX.fin {e v : pmV} {n tx z : Nat} {LT : pmT} (h : MX e n v) (hC : Cpl n tx z LT e) : Cpl n tx z LT v := by
  obtain ⟨g, s, p, hD, g0, g1⟩ := h; exact hD.fin hC g0 g1
theorem MX.of {e v : pmV} {n tx z : Nat} {LT : pmT} (hC : Cpl n tx z LT e) (h1 : pmRf v) (h2 : dFr DcX e v) : MX e n v :=
  ⟨_, _, _, DM.any n h1 h2.wd, (h2.1 100 34 (by unfold DcX; omega)).trans hC.2.2.2.2.2.2.2.2.1, (h2.1 100 35 (by unfold DcX; omega)).trans hC.2.2.2.2.2.2.2.2.2⟩
theorem dFr.eq {D : Nat → Nat → Prop} {e e' v : pmV} (h : dFr D e' v) (h1 : e'.1 = e.1) (h2 : e'.2.2 = e.2.2) : dFr D e v := ⟨fun a j q => (h.1 a j q).trans (by rw [h1]), fun a j q => (h.2 a j q).trans (by rw [h2])⟩
/-- a day of the reference with nothing turned by the calls' words -/
theorem c_go_by {X : pmX} {d : Nat} {v : pmV} {P : Option Value → pmT → pmV → Prop} {LT : pmT} {e : pmV} {n tx z r N : Nat} {b : Int32} {pl o : Nat → Int32} (hN : 1 ≤ N ∧ N ≤ 60) (hC : Cpl n tx z LT e) (hr : r < tx) (hr2 : e.1 100 11 = nI r) (hM : MX e n v) (hb : PB e b pl o) (k : ∀ v', MX e n v' → v'.2.1 100 40 = (pR e n r pl o N).2 → pmRf v' → P none (pmT0 ++ LT) v') : EvP X (d + 6) MX12_go 0 [.ref 100, .int (nI N), .int b, pmJ] [] (pmT0 ++ LT) v P := by
  obtain ⟨g, s, p, hD, g0, g1⟩ := hM
  refine c_X12_go (sG := sGf pl o) hN hC hr hr2 hD (hb.tb hC) ?_ (Or.inl ⟨g1, hb.o.2.1, hb.o.2.2⟩) (fun v' h => k v' ⟨g, _, _, h, g0, g1⟩ h.rp h.1)
  exact hb.o.1.trans g0.symm
theorem c_X12_trial {X : pmX} {d : Nat} {v : pmV} {P : Option Value → pmT → pmV → Prop} {LT : pmT} {e : pmV} {n tx z r N : Nat} {l a : Nat} {b : Int32} {pl : Nat → Int32} (hN : 1 ≤ N ∧ N ≤ 60) (hC : Cpl n tx z LT e) (hr : r < tx) (hr2 : e.1 100 11 = nI r) (hM : MX e n v) (hp : ∀ m, m < 60 → pl m = if nI m = nI a then nI l else if nI m = b then nI l else -1) (k : ∀ v', MX e n v' → P (some (.long (pR e n r pl oN N).2)) (pmT0 ++ LT) v') : EvP X (d + 7) MX12_trial 0 [.ref 100, .int (nI N), .int (nI l), .int (nI a), .int b] [] (pmT0 ++ LT) v P := by
  obtain ⟨g, s, p, hD, g0, g1⟩ := hM
  refine ev_aload_n 0 dX12_trial_0 rfl (by decide) ?_
  refine ev_iload_n 1 dX12_trial_1 rfl ?_
  refine pf_12_164 (pc := 2) rfl dX12_trial_2 kd_100 ?_
  refine ev_abs (Q := DM e n (upd g 3 (nI l)) s p) (hD.ug3 (nI l)) (fun v1 hD => ?_)
  refine ev_aload_n 5 dX12_trial_5 rfl (by decide) ?_
  refine ev_iload_n 6 dX12_trial_6 rfl ?_
  refine pf_12_167 (pc := 7) rfl dX12_trial_7 kd_100 ?_
  refine ev_abs (Q := DM e n (upd (upd g 3 (nI l)) 4 (nI a)) s p) (hD.ug4 (nI a)) (fun v2 hD => ?_)
  refine ev_aload_n 10 dX12_trial_10 rfl (by decide) ?_
  refine ev_iload 11 dX12_trial_11 rfl ?_
  refine pf_12_170 (pc := 13) rfl dX12_trial_13 kd_100 ?_
  refine ev_abs (Q := DM e n (upd (upd (upd g 3 (nI l)) 4 (nI a)) 5 b) s p) (hD.ug5 b) (fun v3 hD => ?_)
  refine ev_aload_n 16 dX12_trial_16 rfl (by decide) ?_
  refine ev_iload_n 17 dX12_trial_17 rfl ?_
  refine ev_iconst 18 dX12_trial_18 kI_5 ?_
  refine cv_12_316_12 (pc := 19) rfl dX12_trial_19 kd_100 (Nat.le_of_ble_eq_true rfl) ?_
  have hTB : mTB e (upd (upd (upd g 3 (nI l)) 4 (nI a)) 5 b) 5 pl (oN 0) := Or.inr (Or.inl ⟨rfl, rfl, fun m hm => by rw [hp m hm, show (upd (upd (upd g 3 (nI l)) 4 (nI a)) 5 b) 4 = nI a by rw [pk_un (by decide), pk_us], show (upd (upd (upd g 3 (nI l)) 4 (nI a)) 5 b) 3 = nI l by rw [pk_un (by decide), pk_un (by decide), pk_us], show (upd (upd (upd g 3 (nI l)) 4 (nI a)) 5 b) 5 = b by rw [pk_us]]⟩)
  have hg0 : (upd (upd (upd g 3 (nI l)) 4 (nI a)) 5 b) 0 = -1 := by rw [pk_un (by decide), pk_un (by decide), pk_un (by decide)]; exact g0
  have hg1 : (upd (upd (upd g 3 (nI l)) 4 (nI a)) 5 b) 1 = -1 := by rw [pk_un (by decide), pk_un (by decide), pk_un (by decide)]; exact g1
  refine c_X12_go (sG := sGf pl oN) hN hC hr hr2 hD hTB (show (-1 : Int32) = _ from hg0.symm) (Or.inl ⟨hg1, rfl, rfl⟩) (fun v9 hD => ?_)
  refine ev_aload_n 22 dX12_trial_22 rfl (by decide) ?_
  refine gf_12_173 (x := (pR e n r pl oN N).2) (pc := 23) rfl dX12_trial_23 kd_100 hD.rp ?_
  refine ev_lreturn 26 dX12_trial_26 rfl ?_
  exact k _ ⟨_, _, _, hD, hg0, hg1⟩

theorem trial_1 {l a : Nat} (ha : a < 60) : ∀ m, m < 60 → upd plN a (nI l) m = if nI m = nI a then nI l else if nI m = -1 then nI l else -1 := by
  intro m hm
  by_cases h : m = a
  · subst h; rw [pk_us, if_pos rfl]
  · rw [pk_un h, if_neg (fun q => h ((nI_eq (by omega) (by omega)).mp q)), if_neg (fun q => by
      have := nI_pos' (n := m) (by omega)
      rw [q] at this; exact absurd this (by decide))]; rfl
theorem lp_m1 {X : pmX} {d : Nat} {P : Option Value → pmT → pmV → Prop} {LT : pmT} {e : pmV} {n tx z r N : Nat} {m : Nat} {y1 : Int32} (hN : 1 ≤ N ∧ N ≤ 60) (hC : Cpl n tx z LT e) (hr : r < tx) (hr2 : e.1 100 11 = nI r) (hm : m < N) : ∀ (k : Nat) (i : Nat) (q : bQ) (w9 w10 : Value) (v : pmV), i + k = n → MX e n v → (∀ v' w9' w10', MX e n v' → EvP X (d + 8) MX12_best 116 [.ref 100, .int (nI N), .int y1, .long (pB1 e n r N m k i q).1, pmJ, .int (pB1 e n r N m k i q).2.1, .int (pB1 e n r N m k i q).2.2, .int (nI m), .int (nI n), w9', w10'] [] (pmT0 ++ LT) v' P) → EvP X (d + 8) MX12_best 54 [.ref 100, .int (nI N), .int y1, .long q.1, pmJ, .int q.2.1, .int q.2.2, .int (nI m), .int (nI i), w9, w10] [] (pmT0 ++ LT) v P := by
  intro k
  induction k with
  | zero =>
    intro i q w9 w10 v hi hM K
    have hi2 : n = i := by omega
    subst hi2
    obtain ⟨g, s, p, hD, g0, g1⟩ := id hM
    have hn8 := hC.2.1.1
    refine ev_iload 54 dX12_best_54 rfl ?_
    refine ev_aload_n 56 dX12_best_56 rfl (by decide) ?_
    refine gf_12_1 (x := nI n) (pc := 57) rfl dX12_best_57 kd_100 ((hD.c (by unfold DcA DcX; omega)).trans hC.2.1.2.2.2.1) ?_
    refine ev_ic_geN (a := n) (b := n) 60 116 dX12_best_60 rfl (by omega) (by omega) (fun c_60 => ?_) (fun c_60 => by omega)
    exact K v w9 w10 hM
  | succ k ih =>
    intro i q w9 w10 v hi hM K
    obtain ⟨g, s, p, hD, g0, g1⟩ := id hM
    have hn8 := hC.2.1.1
    refine ev_iload 54 dX12_best_54 rfl ?_
    refine ev_aload_n 56 dX12_best_56 rfl (by decide) ?_
    refine gf_12_1 (x := nI n) (pc := 57) rfl dX12_best_57 kd_100 ((hD.c (by unfold DcA DcX; omega)).trans hC.2.1.2.2.2.1) ?_
    refine ev_ic_geN (a := i) (b := n) 60 116 dX12_best_60 rfl (by omega) (by omega) (fun c_60 => by omega) (fun c_60 => ?_)
    refine ev_aload_n 63 dX12_best_63 rfl (by decide) ?_
    refine ev_iload 64 dX12_best_64 rfl ?_
    refine ev_iload 66 dX12_best_66 rfl ?_
    refine cv_12_69_12 (pc := 68) rfl dX12_best_68 kd_100 (Nat.le_of_ble_eq_true rfl) ?_
    refine c_X12_mayTurn (l := i) hC hD (by omega) (fun h_68 => ?_) (fun h_68 => ?_)
    · refine ev_ifT 71 77 dX12_best_71 rfl (by decide) ?_
      refine ev_aload_n 77 dX12_best_77 rfl (by decide) ?_
      refine ev_iload_n 78 dX12_best_78 rfl ?_
      refine ev_iload 79 dX12_best_79 rfl ?_
      refine ev_iload 81 dX12_best_81 rfl ?_
      refine ev_iconst 83 dX12_best_83 kI_m1 ?_
      refine cv_12_319_12 (pc := 84) rfl dX12_best_84 kd_100 (Nat.le_of_ble_eq_true rfl) ?_
      refine c_X12_trial (l := i) (a := m) hN hC hr hr2 hM (trial_1 (by omega)) (fun v1 hM => ?_)
      refine ev_lstore (ls' := [.ref 100, .int (nI N), .int y1, .long q.1, pmJ, .int q.2.1, .int q.2.2, .int (nI m), .int (nI i), .long (bT e n r N i m), pmJ]) 87 dX12_best_87 (Nat.le_of_ble_eq_true rfl) rfl ?_
      refine ev_lload 89 dX12_best_89 rfl ?_
      refine ev_lload_n 91 dX12_best_91 rfl ?_
      refine ev_lcmp 92 dX12_best_92 ?_
      refine ev_if_ltL (a := bT e n r N i m) (b := q.1) 93 99 dX12_best_93 rfl (fun c_93 => ?_) (fun c_93 => ?_)
      · refine ev_lload 99 dX12_best_99 rfl ?_
        refine ev_lstore_n (ls' := [.ref 100, .int (nI N), .int y1, .long (bT e n r N i m), pmJ, .int q.2.1, .int q.2.2, .int (nI m), .int (nI i), .long (bT e n r N i m), pmJ]) 101 dX12_best_101 (Nat.le_of_ble_eq_true rfl) rfl ?_
        refine ev_iload 102 dX12_best_102 rfl ?_
        refine ev_istore (ls' := [.ref 100, .int (nI N), .int y1, .long (bT e n r N i m), pmJ, .int (nI i), .int q.2.2, .int (nI m), .int (nI i), .long (bT e n r N i m), pmJ]) 104 dX12_best_104 (Nat.le_of_ble_eq_true rfl) rfl ?_
        refine ev_iload 106 dX12_best_106 rfl ?_
        refine ev_istore (ls' := [.ref 100, .int (nI N), .int y1, .long (bT e n r N i m), pmJ, .int (nI i), .int (nI m), .int (nI m), .int (nI i), .long (bT e n r N i m), pmJ]) 108 dX12_best_108 (Nat.le_of_ble_eq_true rfl) rfl ?_
        refine ev_iinc (y := nI (i + 1)) (ls' := [.ref 100, .int (nI N), .int y1, .long (bT e n r N i m), pmJ, .int (nI i), .int (nI m), .int (nI m), .int (nI (i + 1)), .long (bT e n r N i m), pmJ]) 110 dX12_best_110 rfl (nI_add i 1) rfl ?_
        refine ev_goto 113 54 dX12_best_113 rfl ?_
        refine ih (i + 1) (bT e n r N i m, nI i, nI m) _ _ _ (by omega) hM (fun v2 a2 b2 h2 => K v2 a2 b2 h2 |> fun z => by rw [pB1, if_pos h_68, bS, if_pos c_93] at z; exact z)
      · refine ev_goto 96 110 dX12_best_96 rfl ?_
        refine ev_iinc (y := nI (i + 1)) (ls' := [.ref 100, .int (nI N), .int y1, .long q.1, pmJ, .int q.2.1, .int q.2.2, .int (nI m), .int (nI (i + 1)), .long (bT e n r N i m), pmJ]) 110 dX12_best_110 rfl (nI_add i 1) rfl ?_
        refine ev_goto 113 54 dX12_best_113 rfl ?_
        refine ih (i + 1) q _ _ _ (by omega) hM (fun v2 a2 b2 h2 => K v2 a2 b2 h2 |> fun z => by rw [pB1, if_pos h_68, bS, if_neg c_93] at z; exact z)
    · refine ev_ifF 71 77 dX12_best_71 rfl (by decide) ?_
      refine ev_goto 74 110 dX12_best_74 rfl ?_
      refine ev_iinc (y := nI (i + 1)) (ls' := [.ref 100, .int (nI N), .int y1, .long q.1, pmJ, .int q.2.1, .int q.2.2, .int (nI m), .int (nI (i + 1)), w9, w10]) 110 dX12_best_110 rfl (nI_add i 1) rfl ?_
      refine ev_goto 113 54 dX12_best_113 rfl ?_
      refine ih (i + 1) q _ _ _ (by omega) hM (fun v2 a2 b2 h2 => K v2 a2 b2 h2 |> fun z => by rw [pB1, if_neg h_68] at z; exact z)

theorem lp_m2 {X : pmX} {d : Nat} {P : Option Value → pmT → pmV → Prop} {LT : pmT} {e : pmV} {n tx z r N : Nat} {y1 : Int32} (hN : 1 ≤ N ∧ N ≤ 60) (hC : Cpl n tx z LT e) (hr : r < tx) (hr2 : e.1 100 11 = nI r)  : ∀ (k : Nat) (i : Nat) (q : bQ) (w8 w9 w10 : Value) (v : pmV), i + k = N → MX e n v → (∀ v' w8' w9' w10', MX e n v' → EvP X (d + 8) MX12_best 122 [.ref 100, .int (nI N), .int y1, .long (pB2 e n r N k i q).1, pmJ, .int (pB2 e n r N k i q).2.1, .int (pB2 e n r N k i q).2.2, .int (nI N), w8', w9', w10'] [] (pmT0 ++ LT) v' P) → EvP X (d + 8) MX12_best 45 [.ref 100, .int (nI N), .int y1, .long q.1, pmJ, .int q.2.1, .int q.2.2, .int (nI i), w8, w9, w10] [] (pmT0 ++ LT) v P := by
  intro k
  induction k with
  | zero =>
    intro i q w8 w9 w10 v hi hM K
    have hi2 : N = i := by omega
    subst hi2
    obtain ⟨g, s, p, hD, g0, g1⟩ := id hM
    have hn8 := hC.2.1.1
    refine ev_iload 45 dX12_best_45 rfl ?_
    refine ev_iload_n 47 dX12_best_47 rfl ?_
    refine ev_ic_geN (a := N) (b := N) 48 122 dX12_best_48 rfl (by omega) (by omega) (fun c_48 => ?_) (fun c_48 => by omega)
    exact K v w8 w9 w10 hM
  | succ k ih =>
    intro i q w8 w9 w10 v hi hM K
    obtain ⟨g, s, p, hD, g0, g1⟩ := id hM
    have hn8 := hC.2.1.1
    refine ev_iload 45 dX12_best_45 rfl ?_
    refine ev_iload_n 47 dX12_best_47 rfl ?_
    refine ev_ic_geN (a := i) (b := N) 48 122 dX12_best_48 rfl (by omega) (by omega) (fun c_48 => by omega) (fun c_48 => ?_)
    refine ev_iconst 51 dX12_best_51 kI_0 ?_
    refine ev_istore (ls' := [.ref 100, .int (nI N), .int y1, .long q.1, pmJ, .int q.2.1, .int q.2.2, .int (nI i), .int 0, w9, w10]) 52 dX12_best_52 (Nat.le_of_ble_eq_true rfl) rfl ?_
    refine lp_m1 hN hC hr hr2 (by omega) n 0 q w9 w10 v (by omega) hM (fun v1 x9 x10 hM => ?_)
    refine ev_iinc (y := nI (i + 1)) (ls' := [.ref 100, .int (nI N), .int y1, .long ((pB1 e n r N i n 0 q).1), pmJ, .int ((pB1 e n r N i n 0 q).2.1), .int ((pB1 e n r N i n 0 q).2.2), .int (nI (i + 1)), .int (nI n), x9, x10]) 116 dX12_best_116 rfl (nI_add i 1) rfl ?_
    refine ev_goto 119 45 dX12_best_119 rfl ?_
    exact ih (i + 1) _ _ _ _ _ (by omega) hM K

theorem c_X12_best_1 {X : pmX} {d : Nat} {v : pmV} {P : Option Value → pmT → pmV → Prop} {LT : pmT} {a b : Int32} (h1 : ¬ ((1 : Int32) ≤ a ∧ a ≤ 60)) (k : P (some (.long (-4611686018427387904))) (pmT0 ++ LT) v) : EvP X (d + 2) MX12_best 0 [.ref 100, .int a, .int b, pmJ, pmJ, pmJ, pmJ, pmJ, pmJ, pmJ, pmJ] [] (pmT0 ++ LT) v P := by
  refine ev_aload_n 0 dX12_best_0 rfl (by decide) ?_
  refine ev_iload_n 1 dX12_best_1 rfl ?_
  refine ev_iconst 2 dX12_best_2 kI_1 ?_
  refine ev_bipush 3 dX12_best_3 kB_60 ?_
  refine cv_12_7_12 (pc := 5) rfl dX12_best_5 kd_100 (Nat.le_of_ble_eq_true rfl) ?_
  refine c_X12_in (fun h_5 => absurd h_5 h1) (fun h_5 => ?_)
  refine ev_ifT 8 21 dX12_best_8 rfl (by decide) ?_
  refine ev_ldc2 21 dX12_best_21 l2_12_314 ?_
  refine ev_lreturn 24 dX12_best_24 rfl ?_
  exact k

theorem c_X12_best_2 {X : pmX} {d : Nat} {v : pmV} {P : Option Value → pmT → pmV → Prop} {LT : pmT} {a b : Int32} (h1 : (1 : Int32) ≤ a ∧ a ≤ 60) (h2 : ¬ (0 ≤ b ∧ b ≤ 2)) (k : P (some (.long (-4611686018427387904))) (pmT0 ++ LT) v) : EvP X (d + 2) MX12_best 0 [.ref 100, .int a, .int b, pmJ, pmJ, pmJ, pmJ, pmJ, pmJ, pmJ, pmJ] [] (pmT0 ++ LT) v P := by
  refine ev_aload_n 0 dX12_best_0 rfl (by decide) ?_
  refine ev_iload_n 1 dX12_best_1 rfl ?_
  refine ev_iconst 2 dX12_best_2 kI_1 ?_
  refine ev_bipush 3 dX12_best_3 kB_60 ?_
  refine cv_12_7_12 (pc := 5) rfl dX12_best_5 kd_100 (Nat.le_of_ble_eq_true rfl) ?_
  refine c_X12_in (fun h_5 => ?_) (fun h_5 => absurd h1 h_5)
  refine ev_ifF 8 21 dX12_best_8 rfl (by decide) ?_
  refine ev_aload_n 11 dX12_best_11 rfl (by decide) ?_
  refine ev_iload_n 12 dX12_best_12 rfl ?_
  refine ev_iconst 13 dX12_best_13 kI_0 ?_
  refine ev_iconst 14 dX12_best_14 kI_2 ?_
  refine cv_12_7_12 (pc := 15) rfl dX12_best_15 kd_100 (Nat.le_of_ble_eq_true rfl) ?_
  refine c_X12_in (fun h_15 => absurd h_15 h2) (fun h_15 => ?_)
  refine ev_ifF 18 25 dX12_best_18 rfl (by decide) ?_
  refine ev_ldc2 21 dX12_best_21 l2_12_314 ?_
  refine ev_lreturn 24 dX12_best_24 rfl ?_
  exact k

theorem c_X12_best_ok {X : pmX} {d : Nat} {v : pmV} {P : Option Value → pmT → pmV → Prop} {LT : pmT} {e : pmV} {n tx z r N : Nat} {w : Nat} (hN : 1 ≤ N ∧ N ≤ 60) (hC : Cpl n tx z LT e) (hr : r < tx) (hr2 : e.1 100 11 = nI r) (hM : MX e n v) (hw : w ≤ 2) (h1 : (1 : Int32) ≤ nI N ∧ nI N ≤ 60) (k : ∀ v', MX e n v' → P (some (.long (bAns (pBest e n r N) w))) (pmT0 ++ LT) v') : EvP X (d + 8) MX12_best 0 [.ref 100, .int (nI N), .int (nI w), pmJ, pmJ, pmJ, pmJ, pmJ, pmJ, pmJ, pmJ] [] (pmT0 ++ LT) v P := by
  have hn8 := hC.2.1.1
  have : w = 0 ∨ w = 1 ∨ w = 2 := by omega
  rcases this with rfl | rfl | rfl
  · refine ev_aload_n 0 dX12_best_0 rfl (by decide) ?_
    refine ev_iload_n 1 dX12_best_1 rfl ?_
    refine ev_iconst 2 dX12_best_2 kI_1 ?_
    refine ev_bipush 3 dX12_best_3 kB_60 ?_
    refine cv_12_7_12 (pc := 5) rfl dX12_best_5 kd_100 (Nat.le_of_ble_eq_true rfl) ?_
    refine c_X12_in (fun h_5 => ?_) (fun h_5 => absurd h1 h_5)
    refine ev_ifF 8 21 dX12_best_8 rfl (by decide) ?_
    refine ev_aload_n 11 dX12_best_11 rfl (by decide) ?_
    refine ev_iload_n 12 dX12_best_12 rfl ?_
    refine ev_iconst 13 dX12_best_13 kI_0 ?_
    refine ev_iconst 14 dX12_best_14 kI_2 ?_
    refine cv_12_7_12 (pc := 15) rfl dX12_best_15 kd_100 (Nat.le_of_ble_eq_true rfl) ?_
    refine c_X12_in (fun h_15 => ?_) (fun h_15 => absurd (show (0 : Int32) ≤ 0 ∧ (0 : Int32) ≤ 2 by decide) h_15)
    refine ev_ifT 18 25 dX12_best_18 rfl (by decide) ?_
    refine ev_aload_n 25 dX12_best_25 rfl (by decide) ?_
    refine ev_iload_n 26 dX12_best_26 rfl ?_
    refine ev_iconst 27 dX12_best_27 kI_m1 ?_
    refine cv_12_316_12 (pc := 28) rfl dX12_best_28 kd_100 (Nat.le_of_ble_eq_true rfl) ?_
    refine c_go_by hN hC hr hr2 hM (Or.inl ⟨rfl, rfl, rfl⟩) (fun v1 hM hp hX => ?_)
    refine ev_aload_n 31 dX12_best_31 rfl (by decide) ?_
    refine gf_12_173 (x := (pR e n r plN oN N).2) (pc := 32) rfl dX12_best_32 kd_100 hp ?_
    refine ev_lstore_n (ls' := [.ref 100, .int (nI N), .int 0, .long ((pR e n r plN oN N).2), pmJ, pmJ, pmJ, pmJ, pmJ, pmJ, pmJ]) 35 dX12_best_35 (Nat.le_of_ble_eq_true rfl) rfl ?_
    refine ev_iconst 36 dX12_best_36 kI_m1 ?_
    refine ev_istore (ls' := [.ref 100, .int (nI N), .int 0, .long ((pR e n r plN oN N).2), pmJ, .int (-1), pmJ, pmJ, pmJ, pmJ, pmJ]) 37 dX12_best_37 (Nat.le_of_ble_eq_true rfl) rfl ?_
    refine ev_iconst 39 dX12_best_39 kI_m1 ?_
    refine ev_istore (ls' := [.ref 100, .int (nI N), .int 0, .long ((pR e n r plN oN N).2), pmJ, .int (-1), .int (-1), pmJ, pmJ, pmJ, pmJ]) 40 dX12_best_40 (Nat.le_of_ble_eq_true rfl) rfl ?_
    refine ev_iconst 42 dX12_best_42 kI_0 ?_
    refine ev_istore (ls' := [.ref 100, .int (nI N), .int 0, .long ((pR e n r plN oN N).2), pmJ, .int (-1), .int (-1), .int 0, pmJ, pmJ, pmJ]) 43 dX12_best_43 (Nat.le_of_ble_eq_true rfl) rfl ?_
    refine lp_m2 hN hC hr hr2 N 0 ((pR e n r plN oN N).2, -1, -1) _ _ _ _ (by omega) hM (fun v2 x8 x9 x10 hM => ?_)
    refine ev_iload_n 122 dX12_best_122 rfl ?_
    refine ev_ifF 123 132 dX12_best_123 rfl (by decide) ?_
    refine ev_iload 126 dX12_best_126 rfl ?_
    refine ev_i2l 128 dX12_best_128 ?_
    refine ev_goto 129 144 dX12_best_129 rfl ?_
    refine ev_lreturn 144 dX12_best_144 rfl ?_
    exact k _ hM
  · refine ev_aload_n 0 dX12_best_0 rfl (by decide) ?_
    refine ev_iload_n 1 dX12_best_1 rfl ?_
    refine ev_iconst 2 dX12_best_2 kI_1 ?_
    refine ev_bipush 3 dX12_best_3 kB_60 ?_
    refine cv_12_7_12 (pc := 5) rfl dX12_best_5 kd_100 (Nat.le_of_ble_eq_true rfl) ?_
    refine c_X12_in (fun h_5 => ?_) (fun h_5 => absurd h1 h_5)
    refine ev_ifF 8 21 dX12_best_8 rfl (by decide) ?_
    refine ev_aload_n 11 dX12_best_11 rfl (by decide) ?_
    refine ev_iload_n 12 dX12_best_12 rfl ?_
    refine ev_iconst 13 dX12_best_13 kI_0 ?_
    refine ev_iconst 14 dX12_best_14 kI_2 ?_
    refine cv_12_7_12 (pc := 15) rfl dX12_best_15 kd_100 (Nat.le_of_ble_eq_true rfl) ?_
    refine c_X12_in (fun h_15 => ?_) (fun h_15 => absurd (show (0 : Int32) ≤ 1 ∧ (1 : Int32) ≤ 2 by decide) h_15)
    refine ev_ifT 18 25 dX12_best_18 rfl (by decide) ?_
    refine ev_aload_n 25 dX12_best_25 rfl (by decide) ?_
    refine ev_iload_n 26 dX12_best_26 rfl ?_
    refine ev_iconst 27 dX12_best_27 kI_m1 ?_
    refine cv_12_316_12 (pc := 28) rfl dX12_best_28 kd_100 (Nat.le_of_ble_eq_true rfl) ?_
    refine c_go_by hN hC hr hr2 hM (Or.inl ⟨rfl, rfl, rfl⟩) (fun v1 hM hp hX => ?_)
    refine ev_aload_n 31 dX12_best_31 rfl (by decide) ?_
    refine gf_12_173 (x := (pR e n r plN oN N).2) (pc := 32) rfl dX12_best_32 kd_100 hp ?_
    refine ev_lstore_n (ls' := [.ref 100, .int (nI N), .int 1, .long ((pR e n r plN oN N).2), pmJ, pmJ, pmJ, pmJ, pmJ, pmJ, pmJ]) 35 dX12_best_35 (Nat.le_of_ble_eq_true rfl) rfl ?_
    refine ev_iconst 36 dX12_best_36 kI_m1 ?_
    refine ev_istore (ls' := [.ref 100, .int (nI N), .int 1, .long ((pR e n r plN oN N).2), pmJ, .int (-1), pmJ, pmJ, pmJ, pmJ, pmJ]) 37 dX12_best_37 (Nat.le_of_ble_eq_true rfl) rfl ?_
    refine ev_iconst 39 dX12_best_39 kI_m1 ?_
    refine ev_istore (ls' := [.ref 100, .int (nI N), .int 1, .long ((pR e n r plN oN N).2), pmJ, .int (-1), .int (-1), pmJ, pmJ, pmJ, pmJ]) 40 dX12_best_40 (Nat.le_of_ble_eq_true rfl) rfl ?_
    refine ev_iconst 42 dX12_best_42 kI_0 ?_
    refine ev_istore (ls' := [.ref 100, .int (nI N), .int 1, .long ((pR e n r plN oN N).2), pmJ, .int (-1), .int (-1), .int 0, pmJ, pmJ, pmJ]) 43 dX12_best_43 (Nat.le_of_ble_eq_true rfl) rfl ?_
    refine lp_m2 hN hC hr hr2 N 0 ((pR e n r plN oN N).2, -1, -1) _ _ _ _ (by omega) hM (fun v2 x8 x9 x10 hM => ?_)
    refine ev_iload_n 122 dX12_best_122 rfl ?_
    refine ev_ifT 123 132 dX12_best_123 rfl (by decide) ?_
    refine ev_iload_n 132 dX12_best_132 rfl ?_
    refine ev_iconst 133 dX12_best_133 kI_1 ?_
    refine ev_icF 134 143 dX12_best_134 rfl (by decide) ?_
    refine ev_iload 137 dX12_best_137 rfl ?_
    refine ev_i2l 139 dX12_best_139 ?_
    refine ev_goto 140 144 dX12_best_140 rfl ?_
    refine ev_lreturn 144 dX12_best_144 rfl ?_
    exact k _ hM
  · refine ev_aload_n 0 dX12_best_0 rfl (by decide) ?_
    refine ev_iload_n 1 dX12_best_1 rfl ?_
    refine ev_iconst 2 dX12_best_2 kI_1 ?_
    refine ev_bipush 3 dX12_best_3 kB_60 ?_
    refine cv_12_7_12 (pc := 5) rfl dX12_best_5 kd_100 (Nat.le_of_ble_eq_true rfl) ?_
    refine c_X12_in (fun h_5 => ?_) (fun h_5 => absurd h1 h_5)
    refine ev_ifF 8 21 dX12_best_8 rfl (by decide) ?_
    refine ev_aload_n 11 dX12_best_11 rfl (by decide) ?_
    refine ev_iload_n 12 dX12_best_12 rfl ?_
    refine ev_iconst 13 dX12_best_13 kI_0 ?_
    refine ev_iconst 14 dX12_best_14 kI_2 ?_
    refine cv_12_7_12 (pc := 15) rfl dX12_best_15 kd_100 (Nat.le_of_ble_eq_true rfl) ?_
    refine c_X12_in (fun h_15 => ?_) (fun h_15 => absurd (show (0 : Int32) ≤ 2 ∧ (2 : Int32) ≤ 2 by decide) h_15)
    refine ev_ifT 18 25 dX12_best_18 rfl (by decide) ?_
    refine ev_aload_n 25 dX12_best_25 rfl (by decide) ?_
    refine ev_iload_n 26 dX12_best_26 rfl ?_
    refine ev_iconst 27 dX12_best_27 kI_m1 ?_
    refine cv_12_316_12 (pc := 28) rfl dX12_best_28 kd_100 (Nat.le_of_ble_eq_true rfl) ?_
    refine c_go_by hN hC hr hr2 hM (Or.inl ⟨rfl, rfl, rfl⟩) (fun v1 hM hp hX => ?_)
    refine ev_aload_n 31 dX12_best_31 rfl (by decide) ?_
    refine gf_12_173 (x := (pR e n r plN oN N).2) (pc := 32) rfl dX12_best_32 kd_100 hp ?_
    refine ev_lstore_n (ls' := [.ref 100, .int (nI N), .int 2, .long ((pR e n r plN oN N).2), pmJ, pmJ, pmJ, pmJ, pmJ, pmJ, pmJ]) 35 dX12_best_35 (Nat.le_of_ble_eq_true rfl) rfl ?_
    refine ev_iconst 36 dX12_best_36 kI_m1 ?_
    refine ev_istore (ls' := [.ref 100, .int (nI N), .int 2, .long ((pR e n r plN oN N).2), pmJ, .int (-1), pmJ, pmJ, pmJ, pmJ, pmJ]) 37 dX12_best_37 (Nat.le_of_ble_eq_true rfl) rfl ?_
    refine ev_iconst 39 dX12_best_39 kI_m1 ?_
    refine ev_istore (ls' := [.ref 100, .int (nI N), .int 2, .long ((pR e n r plN oN N).2), pmJ, .int (-1), .int (-1), pmJ, pmJ, pmJ, pmJ]) 40 dX12_best_40 (Nat.le_of_ble_eq_true rfl) rfl ?_
    refine ev_iconst 42 dX12_best_42 kI_0 ?_
    refine ev_istore (ls' := [.ref 100, .int (nI N), .int 2, .long ((pR e n r plN oN N).2), pmJ, .int (-1), .int (-1), .int 0, pmJ, pmJ, pmJ]) 43 dX12_best_43 (Nat.le_of_ble_eq_true rfl) rfl ?_
    refine lp_m2 hN hC hr hr2 N 0 ((pR e n r plN oN N).2, -1, -1) _ _ _ _ (by omega) hM (fun v2 x8 x9 x10 hM => ?_)
    refine ev_iload_n 122 dX12_best_122 rfl ?_
    refine ev_ifT 123 132 dX12_best_123 rfl (by decide) ?_
    refine ev_iload_n 132 dX12_best_132 rfl ?_
    refine ev_iconst 133 dX12_best_133 kI_1 ?_
    refine ev_icT 134 143 dX12_best_134 rfl (by decide) ?_
    refine ev_lload_n 143 dX12_best_143 rfl ?_
    refine ev_lreturn 144 dX12_best_144 rfl ?_
    exact k _ hM
theorem op_best {X : pmX} {d n tx z : Nat} {LT : pmT} {v : pmV} {a b : Int32} (hC : Cpl n tx z LT v) : EvP X (d + 20) MX11_best 0 [.ref 32, .int a, .int b, pmJ, pmJ] [] (pmT0 ++ LT) v (Aft X (d + 20) MX12_best [.ref 100, .int a, .int b, pmJ, pmJ, pmJ, pmJ, pmJ, pmJ, pmJ, pmJ]) := by
  obtain ⟨hX, hL, hS, hR, hI, hT, hTa, hSh, hF⟩ := id hC
  obtain ⟨r, hr, hr1, hr2⟩ := hR
  by_cases h1 : (1 : Int32) ≤ a ∧ a ≤ 60
  · by_cases h2 : 0 ≤ b ∧ b ≤ 2
    · obtain ⟨N, rfl, hN1, hN2⟩ := nI_rng (a := 1) (b := 60) (by omega) (by omega) h1
      obtain ⟨w, rfl, _, hw⟩ := nI_rng (a := 0) (b := 2) (by omega) (by omega) h2
      refine c_X11_best_ok (d := d + 7) hC hr hr1 hN2 hw h1 (fun v1 hB => ?_)
      obtain ⟨e1, s, p, he, he2, _, _, hD, _, _, _⟩ := hB
      refine c_X12_best_ok (d := d + 12) ⟨hN1, hN2⟩ hC hr hr2 (MX.of hC hD.1 (hD.fd.eq he he2)) hw h1 (fun v2 hM => ?_)
      exact ⟨rfl, n, tx, z, LT, rfl, hM.fin hC⟩
    · refine c_X11_best_2 (d := d + 17) h1 h2 ?_
      refine c_X12_best_2 (d := d + 18) h1 h2 ?_
      exact ⟨rfl, n, tx, z, LT, rfl, hC⟩
  · refine c_X11_best_1 (d := d + 17) h1 ?_
    refine c_X12_best_1 (d := d + 18) h1 ?_
    exact ⟨rfl, n, tx, z, LT, rfl, hC⟩
