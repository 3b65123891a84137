/-! TEXTS: takesSign as rSgn -/
theorem stl_len (L : Nat) : ∀ (W cs : List Int32) (op : Nat), (stl L W cs op).1.length + (stl L W cs op).2.1.length = W.length + cs.length ∧ (stl L W cs op).2.2 ≤ op
  | [], cs, op => ⟨rfl, Nat.le_refl _⟩
  | s :: W, cs, op => by
    rw [stl]
    by_cases h : L ≤ sStr s
    · rw [if_pos h]
      have := stl_len L W (cs ++ [sCod s]) (if s = 4 ∨ s = 10 then op - 1 else op)
      rw [List.length_append, List.length_singleton] at this
      have h2 : (if s = 4 ∨ s = 10 then op - 1 else op) ≤ op := by split <;> omega
      rw [List.length_cons]
      exact ⟨by omega, by omega⟩
    · rw [if_neg h]; exact ⟨rfl, Nat.le_refl _⟩
theorem tpS_str (W : List Int32) : sStr (tpS W) = topS W := by
  cases W with
  | nil => decide
  | cons s W => rfl
theorem sStr_7 (s : Int32) : sStr s ≤ 7 := by unfold sStr; repeat (first | omega | split)
theorem rSgn_s {c : Int32} {q : rS} (h0 : sgOf c ≠ 0) (h : ¬ (sgOf c = 5 ∨ sgOf c = 6)) : rSgn c q = some ((sgOf c :: (stl (sStr (sgOf c)) q.1 q.2.1 q.2.2).1, (stl (sStr (sgOf c)) q.1 q.2.1 q.2.2).2), true) := by
  unfold rSgn; rw [if_pos h0, if_neg (fun e => h e.1)]; dsimp only; rw [if_neg h]
theorem rSgn_n {c : Int32} {q : rS} (h0 : sgOf c ≠ 0) (h : sgOf c = 5 ∨ sgOf c = 6) (h4 : topS (stl 5 q.1 q.2.1 q.2.2).1 = 4) : rSgn c q = none := by
  unfold rSgn; rw [if_pos h0, if_pos ⟨h, h4⟩]
theorem rSgn_l {c : Int32} {q : rS} (h0 : sgOf c ≠ 0) (h : sgOf c = 5 ∨ sgOf c = 6) (h4 : ¬ topS (stl 5 q.1 q.2.1 q.2.2).1 = 4) : rSgn c q = some ((sgOf c :: (stl 5 q.1 q.2.1 q.2.2).1, (stl 5 q.1 q.2.1 q.2.2).2), true) := by
  unfold rSgn; rw [if_pos h0, if_neg (fun e => h4 e.2)]; dsimp only; rw [if_pos h]
theorem rSgn_e {q : rS} {W cs : List Int32} {op : Nat} (h : stl 1 q.1 q.2.1 q.2.2 = (20 :: W, cs, op)) : rSgn 41 q = some (stl 7 W cs (op - 1), false) := by
  unfold rSgn; rw [if_neg (by decide), if_pos rfl, h]; rfl
theorem rSgn_en {q : rS} (h : tpS (stl 1 q.1 q.2.1 q.2.2).1 ≠ 20) : rSgn 41 q = none := by
  unfold rSgn; rw [if_neg (by decide), if_pos rfl]
  generalize stl 1 q.1 q.2.1 q.2.2 = r at h
  obtain ⟨W, cs, op⟩ := r
  cases W with
  | nil => rfl
  | cons s W =>
    dsimp only at h ⊢
    split
    · rename_i W' cs' op' he; injection he with h1 h2; injection h1 with h1 h3; exact absurd h1 h
    · rfl
theorem rSgn_no {c : Int32} {q : rS} (h0 : sgOf c = 0) (h41 : c ≠ 41) : rSgn c q = none := by
  unfold rSgn; rw [if_neg (fun e => e h0), if_neg h41]
theorem tg_42 {X : pmX} {d : Nat} {v : pmV} {P : Option Value → pmT → pmV → Prop} {LT : pmT} {bs op : Nat} {W cs : List Int32} (hX : pmRf v) (hM : MS bs W cs op v) (hl : W.length + cs.length < 160) (h5 : op ≤ 5) (h14 : v.1 100 14 = 42) (K : ∀ v', Of (mC bs) v v' → MS bs (9 :: (stl (sStr 9) W cs op).1) (stl (sStr 9) W cs op).2.1 (stl (sStr 9) W cs op).2.2 v' → P (some (.int 1)) (pmT0 ++ LT) v') : EvP X (d + 2) MX12_takesSign 0 [.ref 100, pmJ] [] (pmT0 ++ LT) v P := by
  refine ev_aload_n 0 dX12_takesSign_0 rfl (by decide) ?_
  refine gf_12_95 (x := 42) (pc := 1) rfl dX12_takesSign_1 kd_100 h14 ?_
  refine ev_bipush 4 dX12_takesSign_4 kB_42 ?_
  refine ev_icF 6 14 dX12_takesSign_6 rfl (by decide) ?_
  refine ev_bipush 9 dX12_takesSign_9 kB_9 ?_
  refine ev_goto 11 98 dX12_takesSign_11 rfl ?_
  refine ev_istore_n (ls' := [.ref 100, .int 9]) 98 dX12_takesSign_98 (Nat.le_of_ble_eq_true rfl) rfl ?_
  refine ev_iload_n 99 dX12_takesSign_99 rfl ?_
  refine ev_ifF 100 159 dX12_takesSign_100 rfl (by decide) ?_
  refine ev_aload_n 103 dX12_takesSign_103 rfl (by decide) ?_
  refine ev_iload_n 104 dX12_takesSign_104 rfl ?_
  refine ev_iconst 105 dX12_takesSign_105 kI_5 ?_
  refine ev_icF 106 115 dX12_takesSign_106 rfl (by decide) ?_
  refine ev_iload_n 109 dX12_takesSign_109 rfl ?_
  refine ev_bipush 110 dX12_takesSign_110 kB_6 ?_
  refine ev_icT 112 119 dX12_takesSign_112 rfl (by decide) ?_
  refine ev_aload_n 119 dX12_takesSign_119 rfl (by decide) ?_
  refine ev_iload_n 120 dX12_takesSign_120 rfl ?_
  refine cv_12_241_12 (pc := 121) rfl dX12_takesSign_121 kd_100 (Nat.le_of_ble_eq_true rfl) ?_
  refine c_X12_strength ?_
  refine cv_12_248_12 (pc := 124) rfl dX12_takesSign_124 kd_100 (Nat.le_of_ble_eq_true rfl) ?_
  refine c_X12_settle (L := sStr 9) (v := v) hX ⟨by decide, by decide⟩ hM (by omega) (fun v1 hOv1 hMv1 => ?_)
  refine ev_iload_n 127 dX12_takesSign_127 rfl ?_
  refine ev_iconst 128 dX12_takesSign_128 kI_5 ?_
  refine ev_icF 129 138 dX12_takesSign_129 rfl (by decide) ?_
  refine ev_iload_n 132 dX12_takesSign_132 rfl ?_
  refine ev_bipush 133 dX12_takesSign_133 kB_6 ?_
  refine ev_icT 135 152 dX12_takesSign_135 rfl (by decide) ?_
  refine ev_aload_n 152 dX12_takesSign_152 rfl (by decide) ?_
  refine ev_iload_n 153 dX12_takesSign_153 rfl ?_
  refine cv_12_244_12 (pc := 154) rfl dX12_takesSign_154 kd_100 (Nat.le_of_ble_eq_true rfl) ?_
  have hl1 := stl_len (sStr 9) W cs op
  refine c_X12_pushSign (hX.ag (congrArg Prod.snd hOv1.1)) hMv1 (by unfold okS; decide) (by rw [cO, if_neg (by decide)]; have := hMv1.2.2.2.2.2.2.1; omega) (by omega) (fun v2 hOv2 hMv2 => ?_)
  refine ev_iconst 157 dX12_takesSign_157 kI_1 ?_
  refine ev_ireturn 158 dX12_takesSign_158 rfl rfl ?_
  exact K _ (hOv1.tr hOv2) hMv2

theorem tg_43 {X : pmX} {d : Nat} {v : pmV} {P : Option Value → pmT → pmV → Prop} {LT : pmT} {bs op : Nat} {W cs : List Int32} (hX : pmRf v) (hM : MS bs W cs op v) (hl : W.length + cs.length < 160) (h5 : op ≤ 5) (h14 : v.1 100 14 = 43) (K : ∀ v', Of (mC bs) v v' → MS bs (7 :: (stl (sStr 7) W cs op).1) (stl (sStr 7) W cs op).2.1 (stl (sStr 7) W cs op).2.2 v' → P (some (.int 1)) (pmT0 ++ LT) v') : EvP X (d + 2) MX12_takesSign 0 [.ref 100, pmJ] [] (pmT0 ++ LT) v P := by
  refine ev_aload_n 0 dX12_takesSign_0 rfl (by decide) ?_
  refine gf_12_95 (x := 43) (pc := 1) rfl dX12_takesSign_1 kd_100 h14 ?_
  refine ev_bipush 4 dX12_takesSign_4 kB_42 ?_
  refine ev_icT 6 14 dX12_takesSign_6 rfl (by decide) ?_
  refine ev_aload_n 14 dX12_takesSign_14 rfl (by decide) ?_
  refine gf_12_95 (x := 43) (pc := 15) rfl dX12_takesSign_15 kd_100 h14 ?_
  refine ev_bipush 18 dX12_takesSign_18 kB_43 ?_
  refine ev_icF 20 28 dX12_takesSign_20 rfl (by decide) ?_
  refine ev_bipush 23 dX12_takesSign_23 kB_7 ?_
  refine ev_goto 25 98 dX12_takesSign_25 rfl ?_
  refine ev_istore_n (ls' := [.ref 100, .int 7]) 98 dX12_takesSign_98 (Nat.le_of_ble_eq_true rfl) rfl ?_
  refine ev_iload_n 99 dX12_takesSign_99 rfl ?_
  refine ev_ifF 100 159 dX12_takesSign_100 rfl (by decide) ?_
  refine ev_aload_n 103 dX12_takesSign_103 rfl (by decide) ?_
  refine ev_iload_n 104 dX12_takesSign_104 rfl ?_
  refine ev_iconst 105 dX12_takesSign_105 kI_5 ?_
  refine ev_icF 106 115 dX12_takesSign_106 rfl (by decide) ?_
  refine ev_iload_n 109 dX12_takesSign_109 rfl ?_
  refine ev_bipush 110 dX12_takesSign_110 kB_6 ?_
  refine ev_icT 112 119 dX12_takesSign_112 rfl (by decide) ?_
  refine ev_aload_n 119 dX12_takesSign_119 rfl (by decide) ?_
  refine ev_iload_n 120 dX12_takesSign_120 rfl ?_
  refine cv_12_241_12 (pc := 121) rfl dX12_takesSign_121 kd_100 (Nat.le_of_ble_eq_true rfl) ?_
  refine c_X12_strength ?_
  refine cv_12_248_12 (pc := 124) rfl dX12_takesSign_124 kd_100 (Nat.le_of_ble_eq_true rfl) ?_
  refine c_X12_settle (L := sStr 7) (v := v) hX ⟨by decide, by decide⟩ hM (by omega) (fun v1 hOv1 hMv1 => ?_)
  refine ev_iload_n 127 dX12_takesSign_127 rfl ?_
  refine ev_iconst 128 dX12_takesSign_128 kI_5 ?_
  refine ev_icF 129 138 dX12_takesSign_129 rfl (by decide) ?_
  refine ev_iload_n 132 dX12_takesSign_132 rfl ?_
  refine ev_bipush 133 dX12_takesSign_133 kB_6 ?_
  refine ev_icT 135 152 dX12_takesSign_135 rfl (by decide) ?_
  refine ev_aload_n 152 dX12_takesSign_152 rfl (by decide) ?_
  refine ev_iload_n 153 dX12_takesSign_153 rfl ?_
  refine cv_12_244_12 (pc := 154) rfl dX12_takesSign_154 kd_100 (Nat.le_of_ble_eq_true rfl) ?_
  have hl1 := stl_len (sStr 7) W cs op
  refine c_X12_pushSign (hX.ag (congrArg Prod.snd hOv1.1)) hMv1 (by unfold okS; decide) (by rw [cO, if_neg (by decide)]; have := hMv1.2.2.2.2.2.2.1; omega) (by omega) (fun v2 hOv2 hMv2 => ?_)
  refine ev_iconst 157 dX12_takesSign_157 kI_1 ?_
  refine ev_ireturn 158 dX12_takesSign_158 rfl rfl ?_
  exact K _ (hOv1.tr hOv2) hMv2

theorem tg_45 {X : pmX} {d : Nat} {v : pmV} {P : Option Value → pmT → pmV → Prop} {LT : pmT} {bs op : Nat} {W cs : List Int32} (hX : pmRf v) (hM : MS bs W cs op v) (hl : W.length + cs.length < 160) (h5 : op ≤ 5) (h14 : v.1 100 14 = 45) (K : ∀ v', Of (mC bs) v v' → MS bs (8 :: (stl (sStr 8) W cs op).1) (stl (sStr 8) W cs op).2.1 (stl (sStr 8) W cs op).2.2 v' → P (some (.int 1)) (pmT0 ++ LT) v') : EvP X (d + 2) MX12_takesSign 0 [.ref 100, pmJ] [] (pmT0 ++ LT) v P := by
  refine ev_aload_n 0 dX12_takesSign_0 rfl (by decide) ?_
  refine gf_12_95 (x := 45) (pc := 1) rfl dX12_takesSign_1 kd_100 h14 ?_
  refine ev_bipush 4 dX12_takesSign_4 kB_42 ?_
  refine ev_icT 6 14 dX12_takesSign_6 rfl (by decide) ?_
  refine ev_aload_n 14 dX12_takesSign_14 rfl (by decide) ?_
  refine gf_12_95 (x := 45) (pc := 15) rfl dX12_takesSign_15 kd_100 h14 ?_
  refine ev_bipush 18 dX12_takesSign_18 kB_43 ?_
  refine ev_icT 20 28 dX12_takesSign_20 rfl (by decide) ?_
  refine ev_aload_n 28 dX12_takesSign_28 rfl (by decide) ?_
  refine gf_12_95 (x := 45) (pc := 29) rfl dX12_takesSign_29 kd_100 h14 ?_
  refine ev_bipush 32 dX12_takesSign_32 kB_45 ?_
  refine ev_icF 34 42 dX12_takesSign_34 rfl (by decide) ?_
  refine ev_bipush 37 dX12_takesSign_37 kB_8 ?_
  refine ev_goto 39 98 dX12_takesSign_39 rfl ?_
  refine ev_istore_n (ls' := [.ref 100, .int 8]) 98 dX12_takesSign_98 (Nat.le_of_ble_eq_true rfl) rfl ?_
  refine ev_iload_n 99 dX12_takesSign_99 rfl ?_
  refine ev_ifF 100 159 dX12_takesSign_100 rfl (by decide) ?_
  refine ev_aload_n 103 dX12_takesSign_103 rfl (by decide) ?_
  refine ev_iload_n 104 dX12_takesSign_104 rfl ?_
  refine ev_iconst 105 dX12_takesSign_105 kI_5 ?_
  refine ev_icF 106 115 dX12_takesSign_106 rfl (by decide) ?_
  refine ev_iload_n 109 dX12_takesSign_109 rfl ?_
  refine ev_bipush 110 dX12_takesSign_110 kB_6 ?_
  refine ev_icT 112 119 dX12_takesSign_112 rfl (by decide) ?_
  refine ev_aload_n 119 dX12_takesSign_119 rfl (by decide) ?_
  refine ev_iload_n 120 dX12_takesSign_120 rfl ?_
  refine cv_12_241_12 (pc := 121) rfl dX12_takesSign_121 kd_100 (Nat.le_of_ble_eq_true rfl) ?_
  refine c_X12_strength ?_
  refine cv_12_248_12 (pc := 124) rfl dX12_takesSign_124 kd_100 (Nat.le_of_ble_eq_true rfl) ?_
  refine c_X12_settle (L := sStr 8) (v := v) hX ⟨by decide, by decide⟩ hM (by omega) (fun v1 hOv1 hMv1 => ?_)
  refine ev_iload_n 127 dX12_takesSign_127 rfl ?_
  refine ev_iconst 128 dX12_takesSign_128 kI_5 ?_
  refine ev_icF 129 138 dX12_takesSign_129 rfl (by decide) ?_
  refine ev_iload_n 132 dX12_takesSign_132 rfl ?_
  refine ev_bipush 133 dX12_takesSign_133 kB_6 ?_
  refine ev_icT 135 152 dX12_takesSign_135 rfl (by decide) ?_
  refine ev_aload_n 152 dX12_takesSign_152 rfl (by decide) ?_
  refine ev_iload_n 153 dX12_takesSign_153 rfl ?_
  refine cv_12_244_12 (pc := 154) rfl dX12_takesSign_154 kd_100 (Nat.le_of_ble_eq_true rfl) ?_
  have hl1 := stl_len (sStr 8) W cs op
  refine c_X12_pushSign (hX.ag (congrArg Prod.snd hOv1.1)) hMv1 (by unfold okS; decide) (by rw [cO, if_neg (by decide)]; have := hMv1.2.2.2.2.2.2.1; omega) (by omega) (fun v2 hOv2 hMv2 => ?_)
  refine ev_iconst 157 dX12_takesSign_157 kI_1 ?_
  refine ev_ireturn 158 dX12_takesSign_158 rfl rfl ?_
  exact K _ (hOv1.tr hOv2) hMv2

theorem tg_w10 {X : pmX} {d : Nat} {v : pmV} {P : Option Value → pmT → pmV → Prop} {LT : pmT} {bs op : Nat} {W cs : List Int32} (hX : pmRf v) (hM : MS bs W cs op v) (hl : W.length + cs.length < 160) (h5 : op ≤ 5) (h14 : v.1 100 14 = 2) (h15 : v.1 100 15 = 1476) (K : ∀ v', Of (mC bs) v v' → MS bs (3 :: (stl (sStr 3) W cs op).1) (stl (sStr 3) W cs op).2.1 (stl (sStr 3) W cs op).2.2 v' → P (some (.int 1)) (pmT0 ++ LT) v') : EvP X (d + 2) MX12_takesSign 0 [.ref 100, pmJ] [] (pmT0 ++ LT) v P := by
  refine ev_aload_n 0 dX12_takesSign_0 rfl (by decide) ?_
  refine gf_12_95 (x := 2) (pc := 1) rfl dX12_takesSign_1 kd_100 h14 ?_
  refine ev_bipush 4 dX12_takesSign_4 kB_42 ?_
  refine ev_icT 6 14 dX12_takesSign_6 rfl (by decide) ?_
  refine ev_aload_n 14 dX12_takesSign_14 rfl (by decide) ?_
  refine gf_12_95 (x := 2) (pc := 15) rfl dX12_takesSign_15 kd_100 h14 ?_
  refine ev_bipush 18 dX12_takesSign_18 kB_43 ?_
  refine ev_icT 20 28 dX12_takesSign_20 rfl (by decide) ?_
  refine ev_aload_n 28 dX12_takesSign_28 rfl (by decide) ?_
  refine gf_12_95 (x := 2) (pc := 29) rfl dX12_takesSign_29 kd_100 h14 ?_
  refine ev_bipush 32 dX12_takesSign_32 kB_45 ?_
  refine ev_icT 34 42 dX12_takesSign_34 rfl (by decide) ?_
  refine ev_aload_n 42 dX12_takesSign_42 rfl (by decide) ?_
  refine gf_12_95 (x := 2) (pc := 43) rfl dX12_takesSign_43 kd_100 h14 ?_
  refine ev_bipush 46 dX12_takesSign_46 kB_60 ?_
  refine ev_icT 48 55 dX12_takesSign_48 rfl (by decide) ?_
  refine ev_aload_n 55 dX12_takesSign_55 rfl (by decide) ?_
  refine gf_12_95 (x := 2) (pc := 56) rfl dX12_takesSign_56 kd_100 h14 ?_
  refine ev_bipush 59 dX12_takesSign_59 kB_61 ?_
  refine ev_icT 61 69 dX12_takesSign_61 rfl (by decide) ?_
  refine ev_aload_n 69 dX12_takesSign_69 rfl (by decide) ?_
  refine ev_sipush 70 dX12_takesSign_70 kS_1476 ?_
  refine cv_12_254_12 (pc := 73) rfl dX12_takesSign_73 kd_100 (Nat.le_of_ble_eq_true rfl) ?_
  refine c_X12_isWord (fun _ => ?_) (fun h => absurd ⟨h14, h15⟩ h)
  refine ev_ifF 76 83 dX12_takesSign_76 rfl (by decide) ?_
  refine ev_iconst 79 dX12_takesSign_79 kI_3 ?_
  refine ev_goto 80 98 dX12_takesSign_80 rfl ?_
  refine ev_istore_n (ls' := [.ref 100, .int 3]) 98 dX12_takesSign_98 (Nat.le_of_ble_eq_true rfl) rfl ?_
  refine ev_iload_n 99 dX12_takesSign_99 rfl ?_
  refine ev_ifF 100 159 dX12_takesSign_100 rfl (by decide) ?_
  refine ev_aload_n 103 dX12_takesSign_103 rfl (by decide) ?_
  refine ev_iload_n 104 dX12_takesSign_104 rfl ?_
  refine ev_iconst 105 dX12_takesSign_105 kI_5 ?_
  refine ev_icF 106 115 dX12_takesSign_106 rfl (by decide) ?_
  refine ev_iload_n 109 dX12_takesSign_109 rfl ?_
  refine ev_bipush 110 dX12_takesSign_110 kB_6 ?_
  refine ev_icT 112 119 dX12_takesSign_112 rfl (by decide) ?_
  refine ev_aload_n 119 dX12_takesSign_119 rfl (by decide) ?_
  refine ev_iload_n 120 dX12_takesSign_120 rfl ?_
  refine cv_12_241_12 (pc := 121) rfl dX12_takesSign_121 kd_100 (Nat.le_of_ble_eq_true rfl) ?_
  refine c_X12_strength ?_
  refine cv_12_248_12 (pc := 124) rfl dX12_takesSign_124 kd_100 (Nat.le_of_ble_eq_true rfl) ?_
  refine c_X12_settle (L := sStr 3) (v := v) hX ⟨by decide, by decide⟩ hM (by omega) (fun v1 hOv1 hMv1 => ?_)
  refine ev_iload_n 127 dX12_takesSign_127 rfl ?_
  refine ev_iconst 128 dX12_takesSign_128 kI_5 ?_
  refine ev_icF 129 138 dX12_takesSign_129 rfl (by decide) ?_
  refine ev_iload_n 132 dX12_takesSign_132 rfl ?_
  refine ev_bipush 133 dX12_takesSign_133 kB_6 ?_
  refine ev_icT 135 152 dX12_takesSign_135 rfl (by decide) ?_
  refine ev_aload_n 152 dX12_takesSign_152 rfl (by decide) ?_
  refine ev_iload_n 153 dX12_takesSign_153 rfl ?_
  refine cv_12_244_12 (pc := 154) rfl dX12_takesSign_154 kd_100 (Nat.le_of_ble_eq_true rfl) ?_
  have hl1 := stl_len (sStr 3) W cs op
  refine c_X12_pushSign (hX.ag (congrArg Prod.snd hOv1.1)) hMv1 (by unfold okS; decide) (by rw [cO, if_neg (by decide)]; have := hMv1.2.2.2.2.2.2.1; omega) (by omega) (fun v2 hOv2 hMv2 => ?_)
  refine ev_iconst 157 dX12_takesSign_157 kI_1 ?_
  refine ev_ireturn 158 dX12_takesSign_158 rfl rfl ?_
  exact K _ (hOv1.tr hOv2) hMv2

theorem tg_w9 {X : pmX} {d : Nat} {v : pmV} {P : Option Value → pmT → pmV → Prop} {LT : pmT} {bs op : Nat} {W cs : List Int32} (hX : pmRf v) (hM : MS bs W cs op v) (hl : W.length + cs.length < 160) (h5 : op ≤ 5) (h14 : v.1 100 14 = 2) (h15 : v.1 100 15 = 498) (K : ∀ v', Of (mC bs) v v' → MS bs (2 :: (stl (sStr 2) W cs op).1) (stl (sStr 2) W cs op).2.1 (stl (sStr 2) W cs op).2.2 v' → P (some (.int 1)) (pmT0 ++ LT) v') : EvP X (d + 2) MX12_takesSign 0 [.ref 100, pmJ] [] (pmT0 ++ LT) v P := by
  refine ev_aload_n 0 dX12_takesSign_0 rfl (by decide) ?_
  refine gf_12_95 (x := 2) (pc := 1) rfl dX12_takesSign_1 kd_100 h14 ?_
  refine ev_bipush 4 dX12_takesSign_4 kB_42 ?_
  refine ev_icT 6 14 dX12_takesSign_6 rfl (by decide) ?_
  refine ev_aload_n 14 dX12_takesSign_14 rfl (by decide) ?_
  refine gf_12_95 (x := 2) (pc := 15) rfl dX12_takesSign_15 kd_100 h14 ?_
  refine ev_bipush 18 dX12_takesSign_18 kB_43 ?_
  refine ev_icT 20 28 dX12_takesSign_20 rfl (by decide) ?_
  refine ev_aload_n 28 dX12_takesSign_28 rfl (by decide) ?_
  refine gf_12_95 (x := 2) (pc := 29) rfl dX12_takesSign_29 kd_100 h14 ?_
  refine ev_bipush 32 dX12_takesSign_32 kB_45 ?_
  refine ev_icT 34 42 dX12_takesSign_34 rfl (by decide) ?_
  refine ev_aload_n 42 dX12_takesSign_42 rfl (by decide) ?_
  refine gf_12_95 (x := 2) (pc := 43) rfl dX12_takesSign_43 kd_100 h14 ?_
  refine ev_bipush 46 dX12_takesSign_46 kB_60 ?_
  refine ev_icT 48 55 dX12_takesSign_48 rfl (by decide) ?_
  refine ev_aload_n 55 dX12_takesSign_55 rfl (by decide) ?_
  refine gf_12_95 (x := 2) (pc := 56) rfl dX12_takesSign_56 kd_100 h14 ?_
  refine ev_bipush 59 dX12_takesSign_59 kB_61 ?_
  refine ev_icT 61 69 dX12_takesSign_61 rfl (by decide) ?_
  refine ev_aload_n 69 dX12_takesSign_69 rfl (by decide) ?_
  refine ev_sipush 70 dX12_takesSign_70 kS_1476 ?_
  refine cv_12_254_12 (pc := 73) rfl dX12_takesSign_73 kd_100 (Nat.le_of_ble_eq_true rfl) ?_
  refine c_X12_isWord (fun h => absurd h (by rw [h15]; exact fun h => absurd h.2 (by decide))) (fun _ => ?_)
  refine ev_ifT 76 83 dX12_takesSign_76 rfl (by decide) ?_
  refine ev_aload_n 83 dX12_takesSign_83 rfl (by decide) ?_
  refine ev_sipush 84 dX12_takesSign_84 kS_498 ?_
  refine cv_12_254_12 (pc := 87) rfl dX12_takesSign_87 kd_100 (Nat.le_of_ble_eq_true rfl) ?_
  refine c_X12_isWord (fun _ => ?_) (fun h => absurd ⟨h14, h15⟩ h)
  refine ev_ifF 90 97 dX12_takesSign_90 rfl (by decide) ?_
  refine ev_iconst 93 dX12_takesSign_93 kI_2 ?_
  refine ev_goto 94 98 dX12_takesSign_94 rfl ?_
  refine ev_istore_n (ls' := [.ref 100, .int 2]) 98 dX12_takesSign_98 (Nat.le_of_ble_eq_true rfl) rfl ?_
  refine ev_iload_n 99 dX12_takesSign_99 rfl ?_
  refine ev_ifF 100 159 dX12_takesSign_100 rfl (by decide) ?_
  refine ev_aload_n 103 dX12_takesSign_103 rfl (by decide) ?_
  refine ev_iload_n 104 dX12_takesSign_104 rfl ?_
  refine ev_iconst 105 dX12_takesSign_105 kI_5 ?_
  refine ev_icF 106 115 dX12_takesSign_106 rfl (by decide) ?_
  refine ev_iload_n 109 dX12_takesSign_109 rfl ?_
  refine ev_bipush 110 dX12_takesSign_110 kB_6 ?_
  refine ev_icT 112 119 dX12_takesSign_112 rfl (by decide) ?_
  refine ev_aload_n 119 dX12_takesSign_119 rfl (by decide) ?_
  refine ev_iload_n 120 dX12_takesSign_120 rfl ?_
  refine cv_12_241_12 (pc := 121) rfl dX12_takesSign_121 kd_100 (Nat.le_of_ble_eq_true rfl) ?_
  refine c_X12_strength ?_
  refine cv_12_248_12 (pc := 124) rfl dX12_takesSign_124 kd_100 (Nat.le_of_ble_eq_true rfl) ?_
  refine c_X12_settle (L := sStr 2) (v := v) hX ⟨by decide, by decide⟩ hM (by omega) (fun v1 hOv1 hMv1 => ?_)
  refine ev_iload_n 127 dX12_takesSign_127 rfl ?_
  refine ev_iconst 128 dX12_takesSign_128 kI_5 ?_
  refine ev_icF 129 138 dX12_takesSign_129 rfl (by decide) ?_
  refine ev_iload_n 132 dX12_takesSign_132 rfl ?_
  refine ev_bipush 133 dX12_takesSign_133 kB_6 ?_
  refine ev_icT 135 152 dX12_takesSign_135 rfl (by decide) ?_
  refine ev_aload_n 152 dX12_takesSign_152 rfl (by decide) ?_
  refine ev_iload_n 153 dX12_takesSign_153 rfl ?_
  refine cv_12_244_12 (pc := 154) rfl dX12_takesSign_154 kd_100 (Nat.le_of_ble_eq_true rfl) ?_
  have hl1 := stl_len (sStr 2) W cs op
  refine c_X12_pushSign (hX.ag (congrArg Prod.snd hOv1.1)) hMv1 (by unfold okS; decide) (by rw [cO, if_neg (by decide)]; have := hMv1.2.2.2.2.2.2.1; omega) (by omega) (fun v2 hOv2 hMv2 => ?_)
  refine ev_iconst 157 dX12_takesSign_157 kI_1 ?_
  refine ev_ireturn 158 dX12_takesSign_158 rfl rfl ?_
  exact K _ (hOv1.tr hOv2) hMv2

theorem tg_60 {X : pmX} {d : Nat} {v : pmV} {P : Option Value → pmT → pmV → Prop} {LT : pmT} {bs op : Nat} {W cs : List Int32} (hX : pmRf v) (hM : MS bs W cs op v) (hl : W.length + cs.length < 160) (h5 : op ≤ 5) (h14 : v.1 100 14 = 60) (k : topS (stl 5 W cs op).1 = 4 → ∀ v', Of (mC bs) v v' → P (some (.int 0)) (pmT0 ++ LT) v') (K : ¬ topS (stl 5 W cs op).1 = 4 → ∀ v', Of (mC bs) v v' → MS bs (5 :: (stl 5 W cs op).1) (stl 5 W cs op).2.1 (stl 5 W cs op).2.2 v' → P (some (.int 1)) (pmT0 ++ LT) v') : EvP X (d + 2) MX12_takesSign 0 [.ref 100, pmJ] [] (pmT0 ++ LT) v P := by
  refine ev_aload_n 0 dX12_takesSign_0 rfl (by decide) ?_
  refine gf_12_95 (x := 60) (pc := 1) rfl dX12_takesSign_1 kd_100 h14 ?_
  refine ev_bipush 4 dX12_takesSign_4 kB_42 ?_
  refine ev_icT 6 14 dX12_takesSign_6 rfl (by decide) ?_
  refine ev_aload_n 14 dX12_takesSign_14 rfl (by decide) ?_
  refine gf_12_95 (x := 60) (pc := 15) rfl dX12_takesSign_15 kd_100 h14 ?_
  refine ev_bipush 18 dX12_takesSign_18 kB_43 ?_
  refine ev_icT 20 28 dX12_takesSign_20 rfl (by decide) ?_
  refine ev_aload_n 28 dX12_takesSign_28 rfl (by decide) ?_
  refine gf_12_95 (x := 60) (pc := 29) rfl dX12_takesSign_29 kd_100 h14 ?_
  refine ev_bipush 32 dX12_takesSign_32 kB_45 ?_
  refine ev_icT 34 42 dX12_takesSign_34 rfl (by decide) ?_
  refine ev_aload_n 42 dX12_takesSign_42 rfl (by decide) ?_
  refine gf_12_95 (x := 60) (pc := 43) rfl dX12_takesSign_43 kd_100 h14 ?_
  refine ev_bipush 46 dX12_takesSign_46 kB_60 ?_
  refine ev_icF 48 55 dX12_takesSign_48 rfl (by decide) ?_
  refine ev_iconst 51 dX12_takesSign_51 kI_5 ?_
  refine ev_goto 52 98 dX12_takesSign_52 rfl ?_
  refine ev_istore_n (ls' := [.ref 100, .int 5]) 98 dX12_takesSign_98 (Nat.le_of_ble_eq_true rfl) rfl ?_
  refine ev_iload_n 99 dX12_takesSign_99 rfl ?_
  refine ev_ifF 100 159 dX12_takesSign_100 rfl (by decide) ?_
  refine ev_aload_n 103 dX12_takesSign_103 rfl (by decide) ?_
  refine ev_iload_n 104 dX12_takesSign_104 rfl ?_
  refine ev_iconst 105 dX12_takesSign_105 kI_5 ?_
  refine ev_icT 106 115 dX12_takesSign_106 rfl (by decide) ?_
  refine ev_iconst 115 dX12_takesSign_115 kI_5 ?_
  refine ev_goto 116 124 dX12_takesSign_116 rfl ?_
  refine cv_12_248_12 (pc := 124) rfl dX12_takesSign_124 kd_100 (Nat.le_of_ble_eq_true rfl) ?_
  refine c_X12_settle (L := 5) (v := v) hX ⟨by decide, by decide⟩ hM (by omega) (fun v1 hOv1 hMv1 => ?_)
  have h7s := sStr_7 (tpS (stl 5 W cs op).1)
  refine ev_iload_n 127 dX12_takesSign_127 rfl ?_
  refine ev_iconst 128 dX12_takesSign_128 kI_5 ?_
  refine ev_icT 129 138 dX12_takesSign_129 rfl (by decide) ?_
  refine ev_aload_n 138 dX12_takesSign_138 rfl (by decide) ?_
  refine ev_aload_n 139 dX12_takesSign_139 rfl (by decide) ?_
  refine cv_12_237_12 (pc := 140) rfl dX12_takesSign_140 kd_100 (Nat.le_of_ble_eq_true rfl) ?_
  refine c_X12_top (hX.ag (congrArg Prod.snd hOv1.1)) hMv1 ?_
  refine cv_12_241_12 (pc := 143) rfl dX12_takesSign_143 kd_100 (Nat.le_of_ble_eq_true rfl) ?_
  refine c_X12_strength ?_
  refine ev_iconst 146 dX12_takesSign_146 kI_4 ?_
  refine ev_ic_neN (a := (sStr (tpS (stl 5 W cs op).1))) (b := 4) 147 152 dX12_takesSign_147 rfl (by omega) (by omega) (fun c_147 => ?_) (fun c_147 => ?_)
  · refine ev_aload_n 152 dX12_takesSign_152 rfl (by decide) ?_
    refine ev_iload_n 153 dX12_takesSign_153 rfl ?_
    refine cv_12_244_12 (pc := 154) rfl dX12_takesSign_154 kd_100 (Nat.le_of_ble_eq_true rfl) ?_
    have hl1 := stl_len 5 W cs op
    refine c_X12_pushSign (hX.ag (congrArg Prod.snd hOv1.1)) hMv1 (by unfold okS; decide) (by rw [cO, if_neg (by decide)]; have := hMv1.2.2.2.2.2.2.1; omega) (by omega) (fun v2 hOv2 hMv2 => ?_)
    refine ev_iconst 157 dX12_takesSign_157 kI_1 ?_
    refine ev_ireturn 158 dX12_takesSign_158 rfl rfl ?_
    exact K (fun e => c_147 ((tpS_str _).trans e)) _ (hOv1.tr hOv2) hMv2
  · refine ev_iconst 150 dX12_takesSign_150 kI_0 ?_
    refine ev_ireturn 151 dX12_takesSign_151 rfl rfl ?_
    exact k ((tpS_str _).symm.trans c_147) _ hOv1

theorem tg_61 {X : pmX} {d : Nat} {v : pmV} {P : Option Value → pmT → pmV → Prop} {LT : pmT} {bs op : Nat} {W cs : List Int32} (hX : pmRf v) (hM : MS bs W cs op v) (hl : W.length + cs.length < 160) (h5 : op ≤ 5) (h14 : v.1 100 14 = 61) (k : topS (stl 5 W cs op).1 = 4 → ∀ v', Of (mC bs) v v' → P (some (.int 0)) (pmT0 ++ LT) v') (K : ¬ topS (stl 5 W cs op).1 = 4 → ∀ v', Of (mC bs) v v' → MS bs (6 :: (stl 5 W cs op).1) (stl 5 W cs op).2.1 (stl 5 W cs op).2.2 v' → P (some (.int 1)) (pmT0 ++ LT) v') : EvP X (d + 2) MX12_takesSign 0 [.ref 100, pmJ] [] (pmT0 ++ LT) v P := by
  refine ev_aload_n 0 dX12_takesSign_0 rfl (by decide) ?_
  refine gf_12_95 (x := 61) (pc := 1) rfl dX12_takesSign_1 kd_100 h14 ?_
  refine ev_bipush 4 dX12_takesSign_4 kB_42 ?_
  refine ev_icT 6 14 dX12_takesSign_6 rfl (by decide) ?_
  refine ev_aload_n 14 dX12_takesSign_14 rfl (by decide) ?_
  refine gf_12_95 (x := 61) (pc := 15) rfl dX12_takesSign_15 kd_100 h14 ?_
  refine ev_bipush 18 dX12_takesSign_18 kB_43 ?_
  refine ev_icT 20 28 dX12_takesSign_20 rfl (by decide) ?_
  refine ev_aload_n 28 dX12_takesSign_28 rfl (by decide) ?_
  refine gf_12_95 (x := 61) (pc := 29) rfl dX12_takesSign_29 kd_100 h14 ?_
  refine ev_bipush 32 dX12_takesSign_32 kB_45 ?_
  refine ev_icT 34 42 dX12_takesSign_34 rfl (by decide) ?_
  refine ev_aload_n 42 dX12_takesSign_42 rfl (by decide) ?_
  refine gf_12_95 (x := 61) (pc := 43) rfl dX12_takesSign_43 kd_100 h14 ?_
  refine ev_bipush 46 dX12_takesSign_46 kB_60 ?_
  refine ev_icT 48 55 dX12_takesSign_48 rfl (by decide) ?_
  refine ev_aload_n 55 dX12_takesSign_55 rfl (by decide) ?_
  refine gf_12_95 (x := 61) (pc := 56) rfl dX12_takesSign_56 kd_100 h14 ?_
  refine ev_bipush 59 dX12_takesSign_59 kB_61 ?_
  refine ev_icF 61 69 dX12_takesSign_61 rfl (by decide) ?_
  refine ev_bipush 64 dX12_takesSign_64 kB_6 ?_
  refine ev_goto 66 98 dX12_takesSign_66 rfl ?_
  refine ev_istore_n (ls' := [.ref 100, .int 6]) 98 dX12_takesSign_98 (Nat.le_of_ble_eq_true rfl) rfl ?_
  refine ev_iload_n 99 dX12_takesSign_99 rfl ?_
  refine ev_ifF 100 159 dX12_takesSign_100 rfl (by decide) ?_
  refine ev_aload_n 103 dX12_takesSign_103 rfl (by decide) ?_
  refine ev_iload_n 104 dX12_takesSign_104 rfl ?_
  refine ev_iconst 105 dX12_takesSign_105 kI_5 ?_
  refine ev_icF 106 115 dX12_takesSign_106 rfl (by decide) ?_
  refine ev_iload_n 109 dX12_takesSign_109 rfl ?_
  refine ev_bipush 110 dX12_takesSign_110 kB_6 ?_
  refine ev_icF 112 119 dX12_takesSign_112 rfl (by decide) ?_
  refine ev_iconst 115 dX12_takesSign_115 kI_5 ?_
  refine ev_goto 116 124 dX12_takesSign_116 rfl ?_
  refine cv_12_248_12 (pc := 124) rfl dX12_takesSign_124 kd_100 (Nat.le_of_ble_eq_true rfl) ?_
  refine c_X12_settle (L := 5) (v := v) hX ⟨by decide, by decide⟩ hM (by omega) (fun v1 hOv1 hMv1 => ?_)
  have h7s := sStr_7 (tpS (stl 5 W cs op).1)
  refine ev_iload_n 127 dX12_takesSign_127 rfl ?_
  refine ev_iconst 128 dX12_takesSign_128 kI_5 ?_
  refine ev_icF 129 138 dX12_takesSign_129 rfl (by decide) ?_
  refine ev_iload_n 132 dX12_takesSign_132 rfl ?_
  refine ev_bipush 133 dX12_takesSign_133 kB_6 ?_
  refine ev_icF 135 152 dX12_takesSign_135 rfl (by decide) ?_
  refine ev_aload_n 138 dX12_takesSign_138 rfl (by decide) ?_
  refine ev_aload_n 139 dX12_takesSign_139 rfl (by decide) ?_
  refine cv_12_237_12 (pc := 140) rfl dX12_takesSign_140 kd_100 (Nat.le_of_ble_eq_true rfl) ?_
  refine c_X12_top (hX.ag (congrArg Prod.snd hOv1.1)) hMv1 ?_
  refine cv_12_241_12 (pc := 143) rfl dX12_takesSign_143 kd_100 (Nat.le_of_ble_eq_true rfl) ?_
  refine c_X12_strength ?_
  refine ev_iconst 146 dX12_takesSign_146 kI_4 ?_
  refine ev_ic_neN (a := (sStr (tpS (stl 5 W cs op).1))) (b := 4) 147 152 dX12_takesSign_147 rfl (by omega) (by omega) (fun c_147 => ?_) (fun c_147 => ?_)
  · refine ev_aload_n 152 dX12_takesSign_152 rfl (by decide) ?_
    refine ev_iload_n 153 dX12_takesSign_153 rfl ?_
    refine cv_12_244_12 (pc := 154) rfl dX12_takesSign_154 kd_100 (Nat.le_of_ble_eq_true rfl) ?_
    have hl1 := stl_len 5 W cs op
    refine c_X12_pushSign (hX.ag (congrArg Prod.snd hOv1.1)) hMv1 (by unfold okS; decide) (by rw [cO, if_neg (by decide)]; have := hMv1.2.2.2.2.2.2.1; omega) (by omega) (fun v2 hOv2 hMv2 => ?_)
    refine ev_iconst 157 dX12_takesSign_157 kI_1 ?_
    refine ev_ireturn 158 dX12_takesSign_158 rfl rfl ?_
    exact K (fun e => c_147 ((tpS_str _).trans e)) _ (hOv1.tr hOv2) hMv2
  · refine ev_iconst 150 dX12_takesSign_150 kI_0 ?_
    refine ev_ireturn 151 dX12_takesSign_151 rfl rfl ?_
    exact k ((tpS_str _).symm.trans c_147) _ hOv1

theorem tg_t41n {X : pmX} {d : Nat} {v : pmV} {P : Option Value → pmT → pmV → Prop} {LT : pmT} {bs op : Nat} {W cs : List Int32} (hX : pmRf v) (hM : MS bs W cs op v) (hl : W.length + cs.length < 160) (hn : tpS W ≠ 20) (k : P (some (.int 0)) (pmT0 ++ LT) v) : EvP X (d + 2) MX12_takesSign 175 [.ref 100, .int (-1)] [] (pmT0 ++ LT) v P := by
  refine ev_aload_n 175 dX12_takesSign_175 rfl (by decide) ?_
  refine cv_12_237_12 (pc := 176) rfl dX12_takesSign_176 kd_100 (Nat.le_of_ble_eq_true rfl) ?_
  refine c_X12_top hX hM ?_
  refine ev_bipush 179 dX12_takesSign_179 kB_20 ?_
  refine ev_ic_eq 181 186 dX12_takesSign_181 rfl (fun c_181 => absurd c_181 hn) (fun c_181 => ?_)
  refine ev_iconst 184 dX12_takesSign_184 kI_0 ?_
  refine ev_ireturn 185 dX12_takesSign_185 rfl rfl ?_
  exact k

theorem tg_t41y {X : pmX} {d : Nat} {v : pmV} {P : Option Value → pmT → pmV → Prop} {LT : pmT} {bs op : Nat} {W cs : List Int32} (hX : pmRf v) (hM : MS bs (20 :: W) cs op v) (h5 : op ≤ 5) (K : ∀ v', Of (mC bs) v v' → MS bs (stl 7 W cs (op - 1)).1 (stl 7 W cs (op - 1)).2.1 (stl 7 W cs (op - 1)).2.2 v' → P (some (.int 2)) (pmT0 ++ LT) v') : EvP X (d + 2) MX12_takesSign 175 [.ref 100, .int (-1)] [] (pmT0 ++ LT) v P := by
  have h7 : 1 + cO W ≤ op := by have h := hM.2.2.2.2.2.2.1; rw [cO, if_pos (Or.inr (Or.inr rfl))] at h; exact h
  have h9 := hM.2.2.2.2.2.2.2.2
  have h8 := hM.2.2.2.2.2.2.2.1
  rw [List.length_cons] at h8
  refine ev_aload_n 175 dX12_takesSign_175 rfl (by decide) ?_
  refine cv_12_237_12 (pc := 176) rfl dX12_takesSign_176 kd_100 (Nat.le_of_ble_eq_true rfl) ?_
  refine c_X12_top hX hM ?_
  refine ev_cst (y := 20) rfl ?_
  refine ev_bipush 179 dX12_takesSign_179 kB_20 ?_
  refine ev_icT 181 186 dX12_takesSign_181 rfl (by decide) ?_
  refine ev_aload_n 186 dX12_takesSign_186 rfl (by decide) ?_
  refine ev_dup 187 dX12_takesSign_187 rfl ?_
  refine gf_12_107 (x := nI (W.length + 1)) (pc := 188) rfl dX12_takesSign_188 kd_100 hM.2.1 ?_
  refine ev_iconst 191 dX12_takesSign_191 kI_1 ?_
  refine ev_isub 192 dX12_takesSign_192 ?_
  refine ev_cst (y := nI (W.length + 1 - 1)) (pk_sub (a := (W.length + 1)) (b := 1) (by omega)) ?_
  refine pf_12_107 (pc := 193) rfl dX12_takesSign_193 kd_100 ?_
  refine ev_aload_n 196 dX12_takesSign_196 rfl (by decide) ?_
  refine ev_dup 197 dX12_takesSign_197 rfl ?_
  refine gf_12_104 (x := nI op) (pc := 198) rfl dX12_takesSign_198 kd_100 ((uI_off (by decide)).trans hM.1) ?_
  refine ev_iconst 201 dX12_takesSign_201 kI_1 ?_
  refine ev_isub 202 dX12_takesSign_202 ?_
  refine ev_cst (y := nI (op - 1)) (pk_sub (a := op) (b := 1) (by omega)) ?_
  refine pf_12_104 (pc := 203) rfl dX12_takesSign_203 kd_100 ?_
  refine ev_aload_n 206 dX12_takesSign_206 rfl (by decide) ?_
  refine ev_bipush 207 dX12_takesSign_207 kB_7 ?_
  refine cv_12_248_12 (pc := 209) rfl dX12_takesSign_209 kd_100 (Nat.le_of_ble_eq_true rfl) ?_
  refine c_X12_settle (L := 7) (v := (uI (uI v 100 18 (nI (W.length + 1 - 1))) 100 17 (nI (op - 1)))) (hX.ag rfl) ⟨by decide, by decide⟩ ((hM.pop).op (op' := op - 1) (by omega)) (by omega) (fun v1 hOv1 hMv1 => ?_)
  refine ev_iconst 212 dX12_takesSign_212 kI_2 ?_
  refine ev_ireturn 213 dX12_takesSign_213 rfl rfl ?_
  exact K _ (((Of.nil.i (by unfold mC; omega)).i (by unfold mC; omega)).tr hOv1) hMv1

theorem tg_41a {X : pmX} {d : Nat} {v : pmV} {P : Option Value → pmT → pmV → Prop} {LT : pmT} {bs op : Nat} {W cs : List Int32} (hX : pmRf v) (hM : MS bs W cs op v) (hl : W.length + cs.length < 160) (h5 : op ≤ 5) (h14 : v.1 100 14 = 41) (k1 : ∀ v', Of (mC bs) v v' → MS bs (stl 1 W cs op).1 (stl 1 W cs op).2.1 (stl 1 W cs op).2.2 v' → EvP X (d + 2) MX12_takesSign 175 [.ref 100, .int (-1)] [] (pmT0 ++ LT) v' P) : EvP X (d + 2) MX12_takesSign 0 [.ref 100, pmJ] [] (pmT0 ++ LT) v P := by
  refine ev_aload_n 0 dX12_takesSign_0 rfl (by decide) ?_
  refine gf_12_95 (x := 41) (pc := 1) rfl dX12_takesSign_1 kd_100 h14 ?_
  refine ev_bipush 4 dX12_takesSign_4 kB_42 ?_
  refine ev_icT 6 14 dX12_takesSign_6 rfl (by decide) ?_
  refine ev_aload_n 14 dX12_takesSign_14 rfl (by decide) ?_
  refine gf_12_95 (x := 41) (pc := 15) rfl dX12_takesSign_15 kd_100 h14 ?_
  refine ev_bipush 18 dX12_takesSign_18 kB_43 ?_
  refine ev_icT 20 28 dX12_takesSign_20 rfl (by decide) ?_
  refine ev_aload_n 28 dX12_takesSign_28 rfl (by decide) ?_
  refine gf_12_95 (x := 41) (pc := 29) rfl dX12_takesSign_29 kd_100 h14 ?_
  refine ev_bipush 32 dX12_takesSign_32 kB_45 ?_
  refine ev_icT 34 42 dX12_takesSign_34 rfl (by decide) ?_
  refine ev_aload_n 42 dX12_takesSign_42 rfl (by decide) ?_
  refine gf_12_95 (x := 41) (pc := 43) rfl dX12_takesSign_43 kd_100 h14 ?_
  refine ev_bipush 46 dX12_takesSign_46 kB_60 ?_
  refine ev_icT 48 55 dX12_takesSign_48 rfl (by decide) ?_
  refine ev_aload_n 55 dX12_takesSign_55 rfl (by decide) ?_
  refine gf_12_95 (x := 41) (pc := 56) rfl dX12_takesSign_56 kd_100 h14 ?_
  refine ev_bipush 59 dX12_takesSign_59 kB_61 ?_
  refine ev_icT 61 69 dX12_takesSign_61 rfl (by decide) ?_
  refine ev_aload_n 69 dX12_takesSign_69 rfl (by decide) ?_
  refine ev_sipush 70 dX12_takesSign_70 kS_1476 ?_
  refine cv_12_254_12 (pc := 73) rfl dX12_takesSign_73 kd_100 (Nat.le_of_ble_eq_true rfl) ?_
  refine c_X12_isWord (fun h => absurd h (by rw [h14]; exact fun h => absurd h.1 (by decide))) (fun _ => ?_)
  refine ev_ifT 76 83 dX12_takesSign_76 rfl (by decide) ?_
  refine ev_aload_n 83 dX12_takesSign_83 rfl (by decide) ?_
  refine ev_sipush 84 dX12_takesSign_84 kS_498 ?_
  refine cv_12_254_12 (pc := 87) rfl dX12_takesSign_87 kd_100 (Nat.le_of_ble_eq_true rfl) ?_
  refine c_X12_isWord (fun h => absurd h (by rw [h14]; exact fun h => absurd h.1 (by decide))) (fun _ => ?_)
  refine ev_ifT 90 97 dX12_takesSign_90 rfl (by decide) ?_
  refine ev_iconst 97 dX12_takesSign_97 kI_m1 ?_
  refine ev_istore_n (ls' := [.ref 100, .int (-1)]) 98 dX12_takesSign_98 (Nat.le_of_ble_eq_true rfl) rfl ?_
  refine ev_iload_n 99 dX12_takesSign_99 rfl ?_
  refine ev_ifT 100 159 dX12_takesSign_100 rfl (by decide) ?_
  refine ev_aload_n 159 dX12_takesSign_159 rfl (by decide) ?_
  refine gf_12_95 (x := 41) (pc := 160) rfl dX12_takesSign_160 kd_100 h14 ?_
  refine ev_bipush 163 dX12_takesSign_163 kB_41 ?_
  refine ev_icT 165 170 dX12_takesSign_165 rfl (by decide) ?_
  refine ev_aload_n 170 dX12_takesSign_170 rfl (by decide) ?_
  refine ev_iconst 171 dX12_takesSign_171 kI_1 ?_
  refine cv_12_248_12 (pc := 172) rfl dX12_takesSign_172 kd_100 (Nat.le_of_ble_eq_true rfl) ?_
  refine c_X12_settle (L := 1) (v := v) hX ⟨by decide, by decide⟩ hM (by omega) (fun v1 hOv1 hMv1 => ?_)
  exact k1 _ hOv1 hMv1

theorem tg_no {X : pmX} {d : Nat} {v : pmV} {P : Option Value → pmT → pmV → Prop} {LT : pmT} {t : Int32} (h14 : v.1 100 14 = t) (hn : t ≠ 42 ∧ t ≠ 43 ∧ t ≠ 45 ∧ t ≠ 60 ∧ t ≠ 61 ∧ t ≠ 41) (hw1 : ¬ (v.1 100 14 = 2 ∧ v.1 100 15 = 1476)) (hw2 : ¬ (v.1 100 14 = 2 ∧ v.1 100 15 = 498)) (k : P (some (.int 0)) (pmT0 ++ LT) v) : EvP X (d + 2) MX12_takesSign 0 [.ref 100, pmJ] [] (pmT0 ++ LT) v P := by
  refine ev_aload_n 0 dX12_takesSign_0 rfl (by decide) ?_
  refine gf_12_95 (x := t) (pc := 1) rfl dX12_takesSign_1 kd_100 h14 ?_
  refine ev_bipush 4 dX12_takesSign_4 kB_42 ?_
  refine ev_ic_ne 6 14 dX12_takesSign_6 rfl (fun c_6 => ?_) (fun c_6 => absurd c_6 hn.1)
  refine ev_aload_n 14 dX12_takesSign_14 rfl (by decide) ?_
  refine gf_12_95 (x := t) (pc := 15) rfl dX12_takesSign_15 kd_100 h14 ?_
  refine ev_bipush 18 dX12_takesSign_18 kB_43 ?_
  refine ev_ic_ne 20 28 dX12_takesSign_20 rfl (fun c_20 => ?_) (fun c_20 => absurd c_20 hn.2.1)
  refine ev_aload_n 28 dX12_takesSign_28 rfl (by decide) ?_
  refine gf_12_95 (x := t) (pc := 29) rfl dX12_takesSign_29 kd_100 h14 ?_
  refine ev_bipush 32 dX12_takesSign_32 kB_45 ?_
  refine ev_ic_ne 34 42 dX12_takesSign_34 rfl (fun c_34 => ?_) (fun c_34 => absurd c_34 hn.2.2.1)
  refine ev_aload_n 42 dX12_takesSign_42 rfl (by decide) ?_
  refine gf_12_95 (x := t) (pc := 43) rfl dX12_takesSign_43 kd_100 h14 ?_
  refine ev_bipush 46 dX12_takesSign_46 kB_60 ?_
  refine ev_ic_ne 48 55 dX12_takesSign_48 rfl (fun c_48 => ?_) (fun c_48 => absurd c_48 hn.2.2.2.1)
  refine ev_aload_n 55 dX12_takesSign_55 rfl (by decide) ?_
  refine gf_12_95 (x := t) (pc := 56) rfl dX12_takesSign_56 kd_100 h14 ?_
  refine ev_bipush 59 dX12_takesSign_59 kB_61 ?_
  refine ev_ic_ne 61 69 dX12_takesSign_61 rfl (fun c_61 => ?_) (fun c_61 => absurd c_61 hn.2.2.2.2.1)
  refine ev_aload_n 69 dX12_takesSign_69 rfl (by decide) ?_
  refine ev_sipush 70 dX12_takesSign_70 kS_1476 ?_
  refine cv_12_254_12 (pc := 73) rfl dX12_takesSign_73 kd_100 (Nat.le_of_ble_eq_true rfl) ?_
  refine c_X12_isWord (fun h => absurd h hw1) (fun _ => ?_)
  refine ev_ifT 76 83 dX12_takesSign_76 rfl (by decide) ?_
  refine ev_aload_n 83 dX12_takesSign_83 rfl (by decide) ?_
  refine ev_sipush 84 dX12_takesSign_84 kS_498 ?_
  refine cv_12_254_12 (pc := 87) rfl dX12_takesSign_87 kd_100 (Nat.le_of_ble_eq_true rfl) ?_
  refine c_X12_isWord (fun h => absurd h hw2) (fun _ => ?_)
  refine ev_ifT 90 97 dX12_takesSign_90 rfl (by decide) ?_
  refine ev_iconst 97 dX12_takesSign_97 kI_m1 ?_
  refine ev_istore_n (ls' := [.ref 100, .int (-1)]) 98 dX12_takesSign_98 (Nat.le_of_ble_eq_true rfl) rfl ?_
  refine ev_iload_n 99 dX12_takesSign_99 rfl ?_
  refine ev_ifT 100 159 dX12_takesSign_100 rfl (by decide) ?_
  refine ev_aload_n 159 dX12_takesSign_159 rfl (by decide) ?_
  refine gf_12_95 (x := t) (pc := 160) rfl dX12_takesSign_160 kd_100 h14 ?_
  refine ev_bipush 163 dX12_takesSign_163 kB_41 ?_
  refine ev_ic_eq 165 170 dX12_takesSign_165 rfl (fun c_165 => absurd c_165 hn.2.2.2.2.2) (fun c_165 => ?_)
  refine ev_iconst 168 dX12_takesSign_168 kI_0 ?_
  refine ev_ireturn 169 dX12_takesSign_169 rfl rfl ?_
  exact k

theorem c_X12_takesSign {X : pmX} {d : Nat} {v : pmV} {P : Option Value → pmT → pmV → Prop} {LT : pmT} {B : Nat → Int32} {z p bs op : Nat} {W cs : List Int32} (hX : pmRf v) (hM : MS bs W cs op v) (hL : LKP B z p v) (h5 : op ≤ 5) (hl : W.length + cs.length < 160) (k0 : rSgn (cP B z p) (W, cs, op) = none → ∀ v', Of (mC bs) v v' → P (some (.int 0)) (pmT0 ++ LT) v') (k1 : ∀ q w v', rSgn (cP B z p) (W, cs, op) = some (q, w) → Of (mC bs) v v' → MS bs q.1 q.2.1 q.2.2 v' → P (some (.int (if w then 1 else 2))) (pmT0 ++ LT) v') : EvP X (d + 2) MX12_takesSign 0 [.ref 100, pmJ] [] (pmT0 ++ LT) v P := by
  rcases hL.cs with ⟨hc, ht⟩ | ⟨hc, ht⟩ | ⟨hc, ht, hw⟩ | ⟨ht, w, hw, hc, hx, hd⟩ | ⟨hs, ht⟩
  · rw [hc] at k0
    exact tg_no ht (by decide) (by rw [ht]; exact fun h => absurd h.1 (by decide)) (by rw [ht]; exact fun h => absurd h.1 (by decide)) (k0 (rSgn_no (by decide) (by decide)) _ Of.nil)
  · rw [hc] at k0
    exact tg_no ht (by decide) (by rw [ht]; exact fun h => absurd h.1 (by decide)) (by rw [ht]; exact fun h => absurd h.1 (by decide)) (k0 (rSgn_no (by decide) (by decide)) _ Of.nil)
  · rw [hc] at k0
    exact tg_no ht (by decide) (by rw [ht]; exact fun h => absurd h.1 (by decide)) (by rw [ht]; exact fun h => absurd h.1 (by decide)) (k0 (rSgn_no (by decide) (by decide)) _ Of.nil)
  · by_cases h10 : w = 10
    · subst h10
      rw [hc] at k1
      exact tg_w10 hX hM hl h5 ht hd (fun v' hO hM' => k1 (3 :: (stl (sStr 3) W cs op).1, (stl (sStr 3) W cs op).2) true v' (rSgn_s (c := tkW 10) (by decide) (by decide)) hO hM')
    · by_cases h9 : w = 9
      · subst h9
        rw [hc] at k1
        exact tg_w9 hX hM hl h5 ht hd (fun v' hO hM' => k1 (2 :: (stl (sStr 2) W cs op).1, (stl (sStr 2) W cs op).2) true v' (rSgn_s (c := tkW 9) (by decide) (by decide)) hO hM')
      · have hk : sgOf (tkW w) = 0 ∧ tkW w ≠ 41 := by
          have : ∀ u, u < 12 → u ≠ 10 → u ≠ 9 → sgOf (tkW u) = 0 ∧ tkW u ≠ 41 := by decide
          exact this w hw h10 h9
        rw [hc] at k0
        exact tg_no ht (by decide) (by rw [hd]; exact fun h => h10 (wdN_inj w hw 10 (by omega) h.2)) (by rw [hd]; exact fun h => h9 (wdN_inj w hw 9 (by omega) h.2)) (k0 (rSgn_no hk.1 hk.2) _ Of.nil)
  · rw [← ht] at hs k0 k1
    generalize hg : v.1 100 14 = t at hs k0 k1
    have hno : ∀ u : Int32, v.1 100 14 = u → u ≠ 2 → ∀ b, ¬ (v.1 100 14 = 2 ∧ v.1 100 15 = b) := fun u h1 h2 b h => h2 (h1.symm.trans h.1)
    rcases hs with rfl | rfl | rfl | rfl | rfl | rfl | rfl | rfl
    · exact tg_no hg (by decide) (hno _ hg (by decide) _) (hno _ hg (by decide) _) (k0 (rSgn_no (by decide) (by decide)) _ Of.nil)
    · refine tg_41a hX hM hl h5 hg (fun v1 hO1 hM1 => ?_)
      have hX1 : pmRf v1 := hX.ag (congrArg Prod.snd hO1.1)
      have hsl := stl_len 1 W cs op
      by_cases hp : tpS (stl 1 W cs op).1 = 20
      · generalize hr : stl 1 W cs op = r at hM1 hp hsl
        obtain ⟨W1, cs1, op1⟩ := r
        dsimp only at hM1 hp hsl
        cases W1 with
        | nil => exact absurd hp (by decide)
        | cons s W1 =>
          have hs : s = 20 := hp
          subst hs
          exact tg_t41y hX1 hM1 (by omega) (fun v' hO hM' => k1 (stl 7 W1 cs1 (op1 - 1)) false v' (rSgn_e (q := (W, cs, op)) hr) (hO1.tr hO) hM')
      · exact tg_t41n hX1 hM1 (by omega) hp (k0 (rSgn_en (q := (W, cs, op)) hp) _ hO1)
    · exact tg_no hg (by decide) (hno _ hg (by decide) _) (hno _ hg (by decide) _) (k0 (rSgn_no (by decide) (by decide)) _ Of.nil)
    · exact tg_43 hX hM hl h5 hg (fun v' hO hM' => k1 (7 :: (stl (sStr 7) W cs op).1, (stl (sStr 7) W cs op).2) true v' (rSgn_s (c := 43) (by decide) (by decide)) hO hM')
    · exact tg_45 hX hM hl h5 hg (fun v' hO hM' => k1 (8 :: (stl (sStr 8) W cs op).1, (stl (sStr 8) W cs op).2) true v' (rSgn_s (c := 45) (by decide) (by decide)) hO hM')
    · exact tg_42 hX hM hl h5 hg (fun v' hO hM' => k1 (9 :: (stl (sStr 9) W cs op).1, (stl (sStr 9) W cs op).2) true v' (rSgn_s (c := 42) (by decide) (by decide)) hO hM')
    · exact tg_60 hX hM hl h5 hg (fun h4 => k0 (rSgn_n (c := 60) (by decide) (by decide) h4)) (fun h4 v' hO hM' => k1 (5 :: (stl 5 W cs op).1, (stl 5 W cs op).2) true v' (rSgn_l (c := 60) (by decide) (by decide) h4) hO hM')
    · exact tg_61 hX hM hl h5 hg (fun h4 => k0 (rSgn_n (c := 61) (by decide) (by decide) h4)) (fun h4 v' hO hM' => k1 (6 :: (stl 5 W cs op).1, (stl 5 W cs op).2) true v' (rSgn_l (c := 61) (by decide) (by decide) h4) hO hM')
