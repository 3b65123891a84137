/-! feed -/
def fb (a : Int64) (i : Nat) : Int32 := (a >>> ((nI (8 * i)).toInt64 &&& 63)).toInt32 &&& 255
theorem c255 : (255 : Int64).toInt32 = 255 := by decide +kernel
theorem fb_eq (a : Int64) (i : Nat) : ((a >>> ((nI (8 * i)).toInt64 &&& 63)) &&& 255).toInt32 = fb a i :=
  (Int64.toInt32_and _ _).trans (congrArg (fun q => (a >>> ((nI (8 * i)).toInt64 &&& 63)).toInt32 &&& q) c255)
theorem and255 (q : Int32) : ∃ k, k < 2 ^ 8 ∧ q &&& 255 = nI k := pk_andE q 8 (by decide +kernel)
theorem fb_in (a : Int64) (i : Nat) : 0 ≤ fb a i ∧ fb a i ≤ 255 := by
  unfold fb
  obtain ⟨k, hk, e⟩ := and255 (a >>> ((nI (8 * i)).toInt64 &&& 63)).toInt32
  rw [e]
  exact ⟨nI_pos' (by omega), nI_le (b := 255) (by omega) (by omega)⟩
/-- bytes from the i-th to the n-th stand behind the z that stood there -/
def fdR (ta sa sj : Nat) (v v' : pmV) (a : Int64) (z i n : Nat) : Prop := v'.2 = v.2 ∧ ∀ b j, v'.1 b j = if b = ta ∧ z + i ≤ j ∧ j < z + n then fb a (j - z) else if b = sa ∧ j = sj then nI (z + n) else v.1 b j
theorem fdR.of {ta sa sj : Nat} {v v' : pmV} {a : Int64} {z i n : Nat} (h : fdR ta sa sj v v' a z i n) : Of (fun b j => b = ta ∨ b = sa ∧ j = sj) v v' := ⟨h.1, fun b j q => by rw [h.2, if_neg (fun e => q (Or.inl e.1)), if_neg (fun e => q (Or.inr e))]⟩
theorem fdR.nil {ta sa sj : Nat} {v : pmV} {a : Int64} {z n : Nat} (h : v.1 sa sj = nI (z + n)) : fdR ta sa sj v v a z n n := ⟨rfl, fun b j => by
  rw [if_neg (fun e => by omega)]
  by_cases e : b = sa ∧ j = sj
  · rw [if_pos e, e.1, e.2]; exact h
  · rw [if_neg e]⟩
theorem fdR.cons {ta sa sj : Nat} {v v' : pmV} {a : Int64} {z i n : Nat} {x : Int32} (hn : ta ≠ sa) (hi : i < n) (h : fdR ta sa sj (uI (uI v ta (z + i) (fb a i)) sa sj x) v' a z (i + 1) n) : fdR ta sa sj v v' a z i n := ⟨h.1, fun b j => by
  rw [h.2]
  by_cases e : b = ta
  · subst e
    have n1 : ¬ (b = sa ∧ j = sj) := fun q => hn q.1
    by_cases e2 : z + (i + 1) ≤ j ∧ j < z + n
    · rw [if_pos ⟨rfl, e2⟩, if_pos ⟨rfl, by omega, e2.2⟩]
    · rw [if_neg (fun q => e2 q.2), if_neg n1]
      by_cases e3 : j = z + i
      · subst e3
        rw [uI_off n1, uI_on, if_pos ⟨rfl, by omega, by omega⟩, show z + i - z = i by omega]
      · rw [uI_off n1, uI_off (fun q => e3 q.2), if_neg (fun q => by omega), if_neg n1]
  · have n2 : ¬ (b = ta ∧ z + (i + 1) ≤ j ∧ j < z + n) := fun q => e q.1
    have n3 : ¬ (b = ta ∧ z + i ≤ j ∧ j < z + n) := fun q => e q.1
    rw [if_neg n2, if_neg n3]
    by_cases e2 : b = sa ∧ j = sj
    · rw [if_pos e2, if_pos e2]
    · rw [if_neg e2, if_neg e2, uI_off e2, uI_off (fun q => e q.1)]⟩
theorem c_X4_append {X : pmX} {d : Nat} {v : pmV} {P : Option Value → pmT → pmV → Prop} {LT : pmT} {z : Nat} {x : Int32} (hX : pmRf v) (hz : v.1 41 1 = nI z) (hlt : z < 160) (k : P none (pmT0 ++ LT) (uI (uI v 42 z x) 41 1 (nI (z + 1)))) : EvP X d MX4_append 0 [.ref 41, .int x] [] (pmT0 ++ LT) v P := by
  refine ev_aload_n 0 dX4_append_0 rfl (by decide) ?_
  refine gf_4_31 (x := nI z) (pc := 1) rfl dX4_append_1 kd_41 hz ?_
  refine ev_sipush 4 dX4_append_4 kS_160 ?_
  refine ev_ic_geN (a := z) (b := 160) 7 30 dX4_append_7 rfl (by omega) (by omega) (fun c_7 => by omega) (fun c_7 => ?_)
  refine ev_aload_n 10 dX4_append_10 rfl (by decide) ?_
  refine gf_4_9 (pc := 11) rfl dX4_append_11 kd_41 (rf_41_0 hX) ?_
  refine ev_aload_n 14 dX4_append_14 rfl (by decide) ?_
  refine gf_4_31 (x := nI z) (pc := 15) rfl dX4_append_15 kd_41 hz ?_
  refine ev_iload_n 18 dX4_append_18 rfl ?_
  refine ev_iastJ (j := z) 19 dX4_append_19 (Nat.le_of_ble_eq_true rfl) ty_42 (pm_inI (by omega) (by omega)) (nI_clamp (by omega)) ?_
  refine ev_aload_n 20 dX4_append_20 rfl (by decide) ?_
  refine ev_dup 21 dX4_append_21 rfl ?_
  refine gf_4_31 (x := nI z) (pc := 22) rfl dX4_append_22 kd_41 ((uI_ne (by decide)).trans hz) ?_
  refine ev_iconst 25 dX4_append_25 kI_1 ?_
  refine ev_iadd 26 dX4_append_26 ?_
  refine ev_cst (y := nI (z + 1)) (nI_add z 1) ?_
  refine pf_4_31 (pc := 27) rfl dX4_append_27 kd_41 ?_
  refine ev_return 30 dX4_append_30 rfl ?_
  exact k

theorem lp_feed {X : pmX} {d : Nat} {P : Option Value → pmT → pmV → Prop} {LT : pmT} {z n : Nat} {a : Int64} (hzn : z + n ≤ 160) : ∀ (k : Nat) (i : Nat) (v : pmV), i + k = n → pmRf v → v.1 41 1 = nI (z + i) → (∀ v', v'.2 = v.2 → fdR 42 41 1 v v' a z i n → P (some (.int (nI (z + n)))) (pmT0 ++ LT) v') → EvP X (d + 1) MX11_feed 34 [.ref 32, .int (nI n), .long a, pmJ, .int (nI i)] [] (pmT0 ++ LT) v P := by
  intro k
  induction k with
  | zero =>
    intro i v hi hX hz K
    have hi2 : n = i := by omega
    subst hi2
    refine ev_iload 34 dX11_feed_34 rfl ?_
    refine ev_iload_n 36 dX11_feed_36 rfl ?_
    refine ev_ic_geN (a := n) (b := n) 37 65 dX11_feed_37 rfl (by omega) (by omega) (fun c_37 => ?_) (fun c_37 => by omega)
    refine ev_aload_n 65 dX11_feed_65 rfl (by decide) ?_
    refine gf_11_34 (pc := 66) rfl dX11_feed_66 kd_32 (rf_32_7 hX) ?_
    refine gf_11_67 (x := nI (z + n)) (pc := 69) rfl dX11_feed_69 kd_41 hz ?_
    refine ev_ireturn 72 dX11_feed_72 rfl rfl ?_
    exact K v rfl (fdR.nil hz)
  | succ k ih =>
    intro i v hi hX hz K
    refine ev_iload 34 dX11_feed_34 rfl ?_
    refine ev_iload_n 36 dX11_feed_36 rfl ?_
    refine ev_ic_geN (a := i) (b := n) 37 65 dX11_feed_37 rfl (by omega) (by omega) (fun c_37 => by omega) (fun c_37 => ?_)
    refine ev_aload_n 40 dX11_feed_40 rfl (by decide) ?_
    refine gf_11_34 (pc := 41) rfl dX11_feed_41 kd_32 (rf_32_7 hX) ?_
    refine ev_lload_n 44 dX11_feed_44 rfl ?_
    refine ev_bipush 45 dX11_feed_45 kB_8 ?_
    refine ev_iload 47 dX11_feed_47 rfl ?_
    refine ev_imul 49 dX11_feed_49 ?_
    refine ev_cst (y := nI (8 * i)) (nI_mulp 8 i) ?_
    refine ev_lshr 50 dX11_feed_50 ?_
    refine ev_l2i 51 dX11_feed_51 ?_
    refine ev_sipush 52 dX11_feed_52 kS_255 ?_
    refine ev_iand 55 dX11_feed_55 ?_
    refine cv_11_149_4 (pc := 56) rfl dX11_feed_56 kd_41 (Nat.le_of_ble_eq_true rfl) ?_
    refine c_X4_append (z := (z + i)) hX hz (by omega) ?_
    refine ev_iinc (y := nI (i + 1)) (ls' := [.ref 32, .int (nI n), .long a, pmJ, .int (nI (i + 1))]) 59 dX11_feed_59 rfl (nI_1 i) rfl ?_
    refine ev_goto 62 34 dX11_feed_62 rfl ?_
    exact ih (i + 1) _ (by omega) (hX.ag rfl) (uI_on.trans (by rw [Nat.add_assoc])) (fun v2 h1 h2 => K v2 h1 (h2.cons (by decide) (by omega)))

theorem lp_feedM {X : pmX} {d : Nat} {P : Option Value → pmT → pmV → Prop} {LT : pmT} {z n : Nat} {a : Int64} (hzn : z + n ≤ 160) : ∀ (k : Nat) (i : Nat) (v : pmV), i + k = n → pmRf v → v.1 100 12 = nI (z + i) → (∀ v', v'.2 = v.2 → fdR 106 100 12 v v' a z i n → P (some (.int (nI (z + n)))) (pmT0 ++ LT) v') → EvP X d MX12_feed 32 [.ref 100, .int (nI n), .long a, pmJ, .int (nI i)] [] (pmT0 ++ LT) v P := by
  intro k
  induction k with
  | zero =>
    intro i v hi hX hz K
    have hi2 : n = i := by omega
    subst hi2
    refine ev_iload 32 dX12_feed_32 rfl ?_
    refine ev_iload_n 34 dX12_feed_34 rfl ?_
    refine ev_ic_geN (a := n) (b := n) 35 75 dX12_feed_35 rfl (by omega) (by omega) (fun c_35 => ?_) (fun c_35 => by omega)
    refine ev_aload_n 75 dX12_feed_75 rfl (by decide) ?_
    refine gf_12_89 (x := nI (z + n)) (pc := 76) rfl dX12_feed_76 kd_100 hz ?_
    refine ev_ireturn 79 dX12_feed_79 rfl rfl ?_
    exact K v rfl (fdR.nil hz)
  | succ k ih =>
    intro i v hi hX hz K
    refine ev_iload 32 dX12_feed_32 rfl ?_
    refine ev_iload_n 34 dX12_feed_34 rfl ?_
    refine ev_ic_geN (a := i) (b := n) 35 75 dX12_feed_35 rfl (by omega) (by omega) (fun c_35 => by omega) (fun c_35 => ?_)
    refine ev_aload_n 38 dX12_feed_38 rfl (by decide) ?_
    refine gf_12_113 (pc := 39) rfl dX12_feed_39 kd_100 (rf_100_20 hX) ?_
    refine ev_aload_n 42 dX12_feed_42 rfl (by decide) ?_
    refine gf_12_89 (x := nI (z + i)) (pc := 43) rfl dX12_feed_43 kd_100 hz ?_
    refine ev_lload_n 46 dX12_feed_46 rfl ?_
    refine ev_bipush 47 dX12_feed_47 kB_8 ?_
    refine ev_iload 49 dX12_feed_49 rfl ?_
    refine ev_imul 51 dX12_feed_51 ?_
    refine ev_cst (y := nI (8 * i)) (nI_mulp 8 i) ?_
    refine ev_lshr 52 dX12_feed_52 ?_
    refine ev_ldc2 53 dX12_feed_53 l2_12_209 ?_
    refine ev_land 56 dX12_feed_56 ?_
    refine ev_l2i 57 dX12_feed_57 ?_
    refine ev_iastJ (j := (z + i)) 58 dX12_feed_58 (Nat.le_of_ble_eq_true rfl) ty_106 (pm_inI (by omega) (by omega)) (nI_clamp (by omega)) ?_
    refine ev_aload_n 59 dX12_feed_59 rfl (by decide) ?_
    refine ev_dup 60 dX12_feed_60 rfl ?_
    refine gf_12_89 (x := nI (z + i)) (pc := 61) rfl dX12_feed_61 kd_100 ((uI_ne (by decide)).trans hz) ?_
    refine ev_iconst 64 dX12_feed_64 kI_1 ?_
    refine ev_iadd 65 dX12_feed_65 ?_
    refine ev_cst (y := nI ((z + i) + 1)) (nI_add (z + i) 1) ?_
    refine pf_12_89 (pc := 66) rfl dX12_feed_66 kd_100 ?_
    refine ev_iinc (y := nI (i + 1)) (ls' := [.ref 100, .int (nI n), .long a, pmJ, .int (nI (i + 1))]) 69 dX12_feed_69 rfl (nI_1 i) rfl ?_
    refine ev_goto 72 32 dX12_feed_72 rfl ?_
    rw [fb_eq]
    exact ih (i + 1) _ (by omega) (hX.ag rfl) (uI_on.trans (by rw [Nat.add_assoc])) (fun v2 h1 h2 => K v2 h1 (h2.cons (by decide) (by omega)))

theorem c_X11_feed_bad {X : pmX} {d : Nat} {v : pmV} {P : Option Value → pmT → pmV → Prop} {LT : pmT} {l : Int32} {a : Int64} (h : ¬ (1 ≤ l ∧ l ≤ 8)) (k : P (some (.int (-2))) (pmT0 ++ LT) v) : EvP X (d + 2) MX11_feed 0 [.ref 32, .int l, .long a, pmJ, pmJ] [] (pmT0 ++ LT) v P := by
  refine ev_iload_n 0 dX11_feed_0 rfl ?_
  refine ev_iconst 1 dX11_feed_1 kI_1 ?_
  refine ev_bipush 2 dX11_feed_2 kB_8 ?_
  refine cs_11_74 (pc := 4) rfl dX11_feed_4 (Nat.le_of_ble_eq_true rfl) ?_
  refine c_X11_isIn (fun h_4 => absurd h_4 h) (fun h_4 => ?_)
  refine ev_ifF 7 13 dX11_feed_7 rfl (by decide) ?_
  refine ev_bipush 10 dX11_feed_10 kB_m2 ?_
  refine ev_ireturn 12 dX11_feed_12 rfl rfl ?_
  exact k

theorem c_X11_feed_full {X : pmX} {d : Nat} {v : pmV} {P : Option Value → pmT → pmV → Prop} {LT : pmT} {n z : Nat} {a : Int64} (hX : pmRf v) (hz : v.1 41 1 = nI z) (hz1 : z ≤ 160) (hn : 1 ≤ n ∧ n ≤ 8) (h : 160 < z + n) (k : P (some (.int (-4))) (pmT0 ++ LT) v) : EvP X (d + 2) MX11_feed 0 [.ref 32, .int (nI n), .long a, pmJ, pmJ] [] (pmT0 ++ LT) v P := by
  have hb : (1 : Int32) ≤ nI n ∧ nI n ≤ 8 := ⟨nI_le (a := 1) (by omega) (by omega), nI_le (b := 8) (by omega) (by omega)⟩
  refine ev_iload_n 0 dX11_feed_0 rfl ?_
  refine ev_iconst 1 dX11_feed_1 kI_1 ?_
  refine ev_bipush 2 dX11_feed_2 kB_8 ?_
  refine cs_11_74 (pc := 4) rfl dX11_feed_4 (Nat.le_of_ble_eq_true rfl) ?_
  refine c_X11_isIn (fun h_4 => ?_) (fun h_4 => absurd hb h_4)
  refine ev_ifT 7 13 dX11_feed_7 rfl (by decide) ?_
  refine ev_aload_n 13 dX11_feed_13 rfl (by decide) ?_
  refine gf_11_34 (pc := 14) rfl dX11_feed_14 kd_32 (rf_32_7 hX) ?_
  refine gf_11_67 (x := nI z) (pc := 17) rfl dX11_feed_17 kd_41 hz ?_
  refine ev_iload_n 20 dX11_feed_20 rfl ?_
  refine ev_iadd 21 dX11_feed_21 ?_
  refine ev_cst (y := nI (z + n)) (nI_add z n) ?_
  refine ev_sipush 22 dX11_feed_22 kS_160 ?_
  refine ev_ic_leN (a := (z + n)) (b := 160) 25 31 dX11_feed_25 rfl (by omega) (by omega) (fun c_25 => by omega) (fun c_25 => ?_)
  refine ev_bipush 28 dX11_feed_28 kB_m4 ?_
  refine ev_ireturn 30 dX11_feed_30 rfl rfl ?_
  exact k

theorem c_X11_feed_ok {X : pmX} {d : Nat} {v : pmV} {P : Option Value → pmT → pmV → Prop} {LT : pmT} {n z : Nat} {a : Int64} (hX : pmRf v) (hz : v.1 41 1 = nI z) (hn : 1 ≤ n ∧ n ≤ 8) (h : z + n ≤ 160) (k : ∀ v', v'.2 = v.2 → fdR 42 41 1 v v' a z 0 n → P (some (.int (nI (z + n)))) (pmT0 ++ LT) v') : EvP X (d + 2) MX11_feed 0 [.ref 32, .int (nI n), .long a, pmJ, pmJ] [] (pmT0 ++ LT) v P := by
  have hb : (1 : Int32) ≤ nI n ∧ nI n ≤ 8 := ⟨nI_le (a := 1) (by omega) (by omega), nI_le (b := 8) (by omega) (by omega)⟩
  refine ev_iload_n 0 dX11_feed_0 rfl ?_
  refine ev_iconst 1 dX11_feed_1 kI_1 ?_
  refine ev_bipush 2 dX11_feed_2 kB_8 ?_
  refine cs_11_74 (pc := 4) rfl dX11_feed_4 (Nat.le_of_ble_eq_true rfl) ?_
  refine c_X11_isIn (fun h_4 => ?_) (fun h_4 => absurd hb h_4)
  refine ev_ifT 7 13 dX11_feed_7 rfl (by decide) ?_
  refine ev_aload_n 13 dX11_feed_13 rfl (by decide) ?_
  refine gf_11_34 (pc := 14) rfl dX11_feed_14 kd_32 (rf_32_7 hX) ?_
  refine gf_11_67 (x := nI z) (pc := 17) rfl dX11_feed_17 kd_41 hz ?_
  refine ev_iload_n 20 dX11_feed_20 rfl ?_
  refine ev_iadd 21 dX11_feed_21 ?_
  refine ev_cst (y := nI (z + n)) (nI_add z n) ?_
  refine ev_sipush 22 dX11_feed_22 kS_160 ?_
  refine ev_ic_leN (a := (z + n)) (b := 160) 25 31 dX11_feed_25 rfl (by omega) (by omega) (fun c_25 => ?_) (fun c_25 => by omega)
  refine ev_iconst 31 dX11_feed_31 kI_0 ?_
  refine ev_istore (ls' := [.ref 32, .int (nI n), .long a, pmJ, .int 0]) 32 dX11_feed_32 (Nat.le_of_ble_eq_true rfl) rfl ?_
  exact lp_feed h n 0 v (by omega) hX hz k

theorem c_X12_feed_bad {X : pmX} {d : Nat} {v : pmV} {P : Option Value → pmT → pmV → Prop} {LT : pmT} {l : Int32} {a : Int64} (h : ¬ (1 ≤ l ∧ l ≤ 8)) (k : P (some (.int (-2))) (pmT0 ++ LT) v) : EvP X (d + 2) MX12_feed 0 [.ref 100, .int l, .long a, pmJ, pmJ] [] (pmT0 ++ LT) v P := by
  refine ev_aload_n 0 dX12_feed_0 rfl (by decide) ?_
  refine ev_iload_n 1 dX12_feed_1 rfl ?_
  refine ev_iconst 2 dX12_feed_2 kI_1 ?_
  refine ev_bipush 3 dX12_feed_3 kB_8 ?_
  refine cv_12_7_12 (pc := 5) rfl dX12_feed_5 kd_100 (Nat.le_of_ble_eq_true rfl) ?_
  refine c_X12_in (fun h_5 => absurd h_5 h) (fun h_5 => ?_)
  refine ev_ifF 8 14 dX12_feed_8 rfl (by decide) ?_
  refine ev_bipush 11 dX12_feed_11 kB_m2 ?_
  refine ev_ireturn 13 dX12_feed_13 rfl rfl ?_
  exact k

theorem c_X12_feed_full {X : pmX} {d : Nat} {v : pmV} {P : Option Value → pmT → pmV → Prop} {LT : pmT} {n z : Nat} {a : Int64} (hX : pmRf v) (hz : v.1 100 12 = nI z) (hz1 : z ≤ 160) (hn : 1 ≤ n ∧ n ≤ 8) (h : 160 < z + n) (k : P (some (.int (-4))) (pmT0 ++ LT) v) : EvP X (d + 2) MX12_feed 0 [.ref 100, .int (nI n), .long a, pmJ, pmJ] [] (pmT0 ++ LT) v P := by
  have hb : (1 : Int32) ≤ nI n ∧ nI n ≤ 8 := ⟨nI_le (a := 1) (by omega) (by omega), nI_le (b := 8) (by omega) (by omega)⟩
  refine ev_aload_n 0 dX12_feed_0 rfl (by decide) ?_
  refine ev_iload_n 1 dX12_feed_1 rfl ?_
  refine ev_iconst 2 dX12_feed_2 kI_1 ?_
  refine ev_bipush 3 dX12_feed_3 kB_8 ?_
  refine cv_12_7_12 (pc := 5) rfl dX12_feed_5 kd_100 (Nat.le_of_ble_eq_true rfl) ?_
  refine c_X12_in (fun h_5 => ?_) (fun h_5 => absurd hb h_5)
  refine ev_ifT 8 14 dX12_feed_8 rfl (by decide) ?_
  refine ev_aload_n 14 dX12_feed_14 rfl (by decide) ?_
  refine gf_12_89 (x := nI z) (pc := 15) rfl dX12_feed_15 kd_100 hz ?_
  refine ev_iload_n 18 dX12_feed_18 rfl ?_
  refine ev_iadd 19 dX12_feed_19 ?_
  refine ev_cst (y := nI (z + n)) (nI_add z n) ?_
  refine ev_sipush 20 dX12_feed_20 kS_160 ?_
  refine ev_ic_leN (a := (z + n)) (b := 160) 23 29 dX12_feed_23 rfl (by omega) (by omega) (fun c_23 => by omega) (fun c_23 => ?_)
  refine ev_bipush 26 dX12_feed_26 kB_m4 ?_
  refine ev_ireturn 28 dX12_feed_28 rfl rfl ?_
  exact k

theorem c_X12_feed_ok {X : pmX} {d : Nat} {v : pmV} {P : Option Value → pmT → pmV → Prop} {LT : pmT} {n z : Nat} {a : Int64} (hX : pmRf v) (hz : v.1 100 12 = nI z) (hn : 1 ≤ n ∧ n ≤ 8) (h : z + n ≤ 160) (k : ∀ v', v'.2 = v.2 → fdR 106 100 12 v v' a z 0 n → P (some (.int (nI (z + n)))) (pmT0 ++ LT) v') : EvP X (d + 2) MX12_feed 0 [.ref 100, .int (nI n), .long a, pmJ, pmJ] [] (pmT0 ++ LT) v P := by
  have hb : (1 : Int32) ≤ nI n ∧ nI n ≤ 8 := ⟨nI_le (a := 1) (by omega) (by omega), nI_le (b := 8) (by omega) (by omega)⟩
  refine ev_aload_n 0 dX12_feed_0 rfl (by decide) ?_
  refine ev_iload_n 1 dX12_feed_1 rfl ?_
  refine ev_iconst 2 dX12_feed_2 kI_1 ?_
  refine ev_bipush 3 dX12_feed_3 kB_8 ?_
  refine cv_12_7_12 (pc := 5) rfl dX12_feed_5 kd_100 (Nat.le_of_ble_eq_true rfl) ?_
  refine c_X12_in (fun h_5 => ?_) (fun h_5 => absurd hb h_5)
  refine ev_ifT 8 14 dX12_feed_8 rfl (by decide) ?_
  refine ev_aload_n 14 dX12_feed_14 rfl (by decide) ?_
  refine gf_12_89 (x := nI z) (pc := 15) rfl dX12_feed_15 kd_100 hz ?_
  refine ev_iload_n 18 dX12_feed_18 rfl ?_
  refine ev_iadd 19 dX12_feed_19 ?_
  refine ev_cst (y := nI (z + n)) (nI_add z n) ?_
  refine ev_sipush 20 dX12_feed_20 kS_160 ?_
  refine ev_ic_leN (a := (z + n)) (b := 160) 23 29 dX12_feed_23 rfl (by omega) (by omega) (fun c_23 => ?_) (fun c_23 => by omega)
  refine ev_iconst 29 dX12_feed_29 kI_0 ?_
  refine ev_istore (ls' := [.ref 100, .int (nI n), .long a, pmJ, .int 0]) 30 dX12_feed_30 (Nat.le_of_ble_eq_true rfl) rfl ?_
  exact lp_feedM h n 0 v (by omega) hX hz k

theorem nI_rng {l : Int32} {a b : Nat} (ha : a < 2 ^ 31) (hb : b < 2 ^ 31) (h : nI a ≤ l ∧ l ≤ nI b) : ∃ n, l = nI n ∧ a ≤ n ∧ n ≤ b := by
  have h0 : ¬ l < 0 := Int32.not_lt.mpr (Int32.le_trans (nI_pos' ha) h.1)
  obtain ⟨n, hn, rfl⟩ := nI_of h0
  exact ⟨n, rfl, (nI_leI ha hn).mp h.1, (nI_leI hn hb).mp h.2⟩
theorem fdR.ag {S : Nat → Nat → Prop} {ta sa sj : Nat} {v v' : pmV} {a : Int64} {z i n : Nat} (h : fdR ta sa sj v v' a z i n) (hS : ∀ j, ¬ S ta j) (hS2 : ¬ S sa sj) : Ag S v v' := fun b j q => h.of.off (fun e => e.elim (fun e => hS j (e ▸ q)) (fun e => hS2 (e.1 ▸ e.2 ▸ q)))
theorem op_feed {X : pmX} {d n tx z : Nat} {LT : pmT} {v : pmV} {l : Int32} {a : Int64} (hC : Cpl n tx z LT v) : EvP X (d + 9) MX11_feed 0 [.ref 32, .int l, .long a, pmJ, pmJ] [] (pmT0 ++ LT) v (Aft X (d + 9) MX12_feed [.ref 100, .int l, .long a, pmJ, pmJ]) := by
  obtain ⟨hX, hL, hS, hR, hI, hT, hTa, hSh, hF⟩ := id hC
  by_cases hl : (1 : Int32) ≤ l ∧ l ≤ 8
  · obtain ⟨m, rfl, h1, h8⟩ := nI_rng (a := 1) (b := 8) (by omega) (by omega) hl
    by_cases hf : z + m ≤ 160
    · refine c_X11_feed_ok (d := d + 7) hX hTa.2.1 ⟨h1, h8⟩ hf (fun v1 e1 r1 => ?_)
      refine c_X12_feed_ok (d := d + 7) (hX.ag (congrArg Prod.snd e1)) ((r1.of.off (by omega)).trans hTa.2.2.1) ⟨h1, h8⟩ hf (fun v2 e2 r2 => ?_)
      refine ⟨rfl, n, tx, z + m, LT, rfl, ?_⟩
      have hr : v2.2.2 = v.2.2 := congrArg Prod.snd (e2.trans e1)
      have ag : ∀ S : Nat → Nat → Prop, (∀ j, ¬ S 42 j) → (∀ j, ¬ S 106 j) → ¬ S 41 1 → ¬ S 100 12 → Ag S v v2 := fun S q1 q2 q3 q4 => (r1.ag q1 q3).tr (r2.ag q2 q4)
      refine ⟨hX.ag hr, hL.ag (ag _ ?_ ?_ ?_ ?_) (fun j => congrFun (congrFun hr 33) j), hS.ag (ag _ ?_ ?_ ?_ ?_), hR.ag (ag _ ?_ ?_ ?_ ?_), hI.ag (ag _ ?_ ?_ ?_ ?_), hT.ag (ag _ ?_ ?_ ?_ ?_), ⟨hf, ?_, ?_, fun i hi => ?_⟩, hSh.ag (ag _ ?_ ?_ ?_ ?_), hF.ag (ag _ ?_ ?_ ?_ ?_)⟩
      all_goals try (first | (intro j; unfold sLan; omega) | (unfold sLan; omega) | (intro j; unfold sSet; omega) | (unfold sSet; omega) | (intro j; unfold sRule; omega) | (unfold sRule; omega) | (intro j; unfold sImg; omega) | (unfold sImg; omega) | (intro j; unfold sTxt; omega) | (unfold sTxt; omega) | (intro j; unfold sShe; omega) | (unfold sShe; omega) | (intro j; unfold sFix; omega) | (unfold sFix; omega))
      · rw [r2.of.off (by omega), r1.2, if_neg (by omega), if_pos ⟨rfl, rfl⟩]
      · rw [r2.2, if_neg (by omega), if_pos ⟨rfl, rfl⟩]
      · by_cases h : z ≤ i
        · rw [r2.2, if_pos ⟨rfl, by omega, by omega⟩, r2.of.off (by omega), r1.2, if_pos ⟨rfl, by omega, by omega⟩]; exact ⟨rfl, fb_in _ _⟩
        · rw [r2.2, if_neg (by omega), if_neg (by omega), r1.of.off (by omega), r2.of.off (by omega), r1.2, if_neg (by omega), if_neg (by omega)]; exact hTa.2.2.2 i (by omega)
    · refine c_X11_feed_full (d := d + 7) hX hTa.2.1 hTa.1 ⟨h1, h8⟩ (by omega) ?_
      refine c_X12_feed_full (d := d + 7) hX hTa.2.2.1 hTa.1 ⟨h1, h8⟩ (by omega) ?_
      exact ⟨rfl, n, tx, z, LT, rfl, hC⟩
  · refine c_X11_feed_bad (d := d + 7) hl ?_
    refine c_X12_feed_bad (d := d + 7) hl ?_
    exact ⟨rfl, n, tx, z, LT, rfl, hC⟩
