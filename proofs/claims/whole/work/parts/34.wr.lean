/-! range writes; rows of numbers; sheets -/
def Wr (v v' : pmV) (a lo hi : Nat) (f : Nat → Int32) : Prop := v'.2 = v.2 ∧ ∀ b j, v'.1 b j = if b = a ∧ lo ≤ j ∧ j < hi then f j else v.1 b j
theorem Wr.off {v v' : pmV} {a lo hi b j : Nat} {f : Nat → Int32} (h : Wr v v' a lo hi f) (hn : ¬ (b = a ∧ lo ≤ j ∧ j < hi)) : v'.1 b j = v.1 b j := (h.2 b j).trans (if_neg hn)
theorem Wr.on {v v' : pmV} {a lo hi j : Nat} {f : Nat → Int32} (h : Wr v v' a lo hi f) (h1 : lo ≤ j) (h2 : j < hi) : v'.1 a j = f j := (h.2 a j).trans (if_pos ⟨rfl, h1, h2⟩)
theorem Wr.rr {v0 v v' : pmV} {a lo hi : Nat} {f : Nat → Int32} (h : Wr v v' a lo hi f) (h0 : v.2.2 = v0.2.2) : v'.2.2 = v0.2.2 := (congrArg Prod.snd h.1).trans h0
theorem Wr.ll {v0 v v' : pmV} {a lo hi : Nat} {f : Nat → Int32} (h : Wr v v' a lo hi f) (h0 : v.2.1 = v0.2.1) : v'.2.1 = v0.2.1 := (congrArg Prod.fst h.1).trans h0
theorem Ag.w {S : Nat → Nat → Prop} {v v0 v' : pmV} {a lo hi : Nat} {f : Nat → Int32} (h : Ag S v0 v) (hw : Wr v v' a lo hi f) (hn : ∀ j, lo ≤ j → j < hi → ¬ S a j) : Ag S v0 v' := fun b j q => (hw.off (fun e => hn j e.2.1 e.2.2 (by rw [← e.1]; exact q))).trans (h b j q)
theorem Wr.one (v : pmV) (a j : Nat) (x : Int32) : Wr v (uI v a j x) a j (j + 1) (fun _ => x) := ⟨rfl, fun b i => by
  show (if b = a ∧ i = j then x else v.1 b i) = _
  congr 1
  exact propext ⟨fun e => ⟨e.1, by omega, by omega⟩, fun e => ⟨e.1, by omega⟩⟩⟩
theorem Wr.cat {v v1 v2 : pmV} {a lo m hi : Nat} {f : Nat → Int32} (h1 : Wr v v1 a lo m f) (h2 : Wr v1 v2 a m hi f) (hm : lo ≤ m) (hh : m ≤ hi) : Wr v v2 a lo hi f := ⟨h2.1.trans h1.1, fun b j => by
  rw [h2.2, h1.2]
  by_cases hb : b = a
  · by_cases hj : m ≤ j ∧ j < hi
    · rw [if_pos ⟨hb, hj⟩, if_pos ⟨hb, by omega, by omega⟩]
    · rw [if_neg (fun e => hj e.2)]
      by_cases hl : lo ≤ j ∧ j < m
      · rw [if_pos ⟨hb, hl⟩, if_pos ⟨hb, by omega, by omega⟩]
      · rw [if_neg (fun e => hl e.2), if_neg (fun e => by omega)]
  · rw [if_neg (fun e => hb e.1), if_neg (fun e => hb e.1), if_neg (fun e => hb e.1)]⟩
theorem Wr.nil (v : pmV) (a i : Nat) (f : Nat → Int32) : Wr v v a i i f := ⟨rfl, fun b j => (if_neg (fun e => by omega)).symm⟩
theorem Wr.cg {v v' : pmV} {a lo hi : Nat} {f g : Nat → Int32} (h : Wr v v' a lo hi f) (hg : ∀ j, lo ≤ j → j < hi → f j = g j) : Wr v v' a lo hi g := ⟨h.1, fun b j => by
  rw [h.2]
  by_cases hb : b = a ∧ lo ≤ j ∧ j < hi
  · rw [if_pos hb, if_pos hb, hg j hb.2.1 hb.2.2]
  · rw [if_neg hb, if_neg hb]⟩
theorem Wr.cpy (v : pmV) (a sp dp n : Nat) (src : Nat → Int32) : Wr v (uA v a (va_cpy src (v.1 a) sp dp n)) a dp (dp + n) (fun j => src (sp + (j - dp))) := ⟨rfl, fun b j => by
  show (if b = a then va_cpy src (v.1 a) sp dp n j else v.1 b j) = _
  unfold va_cpy
  by_cases hb : b = a
  · subst hb; rw [if_pos rfl]
    by_cases hj : dp ≤ j ∧ j < dp + n
    · rw [if_pos hj, if_pos ⟨rfl, hj⟩]
    · rw [if_neg hj, if_neg (fun e => hj e.2)]
  · rw [if_neg hb, if_neg (fun e => hb e.1)]⟩
theorem uI_off {v : pmV} {a j b i : Nat} {x : Int32} (h : ¬ (b = a ∧ i = j)) : (uI v a j x).1 b i = v.1 b i := if_neg h
theorem uI_on {v : pmV} {a j : Nat} {x : Int32} : (uI v a j x).1 a j = x := if_pos ⟨rfl, rfl⟩
theorem uL_off {v : pmV} {a j b i : Nat} {x : Int64} (h : ¬ (b = a ∧ i = j)) : (uL v a j x).2.1 b i = v.2.1 b i := if_neg h
theorem uL_on {v : pmV} {a j : Nat} {x : Int64} : (uL v a j x).2.1 a j = x := if_pos ⟨rfl, rfl⟩
theorem Wr.l2 {v v' : pmV} {a lo hi b j : Nat} {f : Nat → Int32} (h : Wr v v' a lo hi f) : v'.2.1 b j = v.2.1 b j := congrFun (congrFun (congrArg Prod.fst h.1) b) j
theorem nI_mulp (a b : Nat) : nI a * nI b = nI (a * b) := (Int32.ofNat_mul a b).symm
theorem nge_f {i n : Nat} (h : i < n) (hn : n < 2 ^ 31) : pmC2 .ge (nI i) (nI n) = false := by
  show decide (nI n ≤ nI i) = false
  exact decide_eq_false (nI_ge h hn)
theorem nge_t {n : Nat} : pmC2 .ge (nI n) (nI n) = true := by
  show decide (nI n ≤ nI n) = true
  exact decide_eq_true (Int32.le_refl _)
theorem rf_sheet {v : pmV} (h : pmRf v) {t : Nat} (ht : t < 4) : v.2.2 50 t = some (92 + 2 * t) := by
  obtain rfl | rfl | rfl | rfl : t = 0 ∨ t = 1 ∨ t = 2 ∨ t = 3 := by omega
  · exact rf_50_0 h
  · exact rf_50_1 h
  · exact rf_50_2 h
  · exact rf_50_3 h
theorem rf_items {v : pmV} (h : pmRf v) {t : Nat} (ht : t < 4) : v.2.2 (92 + 2 * t) 2 = some (93 + 2 * t) := by
  obtain rfl | rfl | rfl | rfl : t = 0 ∨ t = 1 ∨ t = 2 ∨ t = 3 := by omega
  · exact rf_92_2 h
  · exact rf_94_2 h
  · exact rf_96_2 h
  · exact rf_98_2 h
theorem kd_sheet {LT : pmT} {t : Nat} (ht : t < 4) : pmKind (pmT0 ++ LT) (92 + 2 * t) = 6 := by
  obtain rfl | rfl | rfl | rfl : t = 0 ∨ t = 1 ∨ t = 2 ∨ t = 3 := by omega
  · exact kd_92
  · exact kd_94
  · exact kd_96
  · exact kd_98
theorem ty_items {LT : pmT} {t : Nat} (ht : t < 4) : (pmT0 ++ LT)[93 + 2 * t - 32]? = some (20, 60) := by
  obtain rfl | rfl | rfl | rfl : t = 0 ∨ t = 1 ∨ t = 2 ∨ t = 3 := by omega
  · exact ty_93
  · exact ty_95
  · exact ty_97
  · exact ty_99
theorem lp_fill {X : pmX} {d : Nat} {P : Option Value → pmT → pmV → Prop} {T : pmT} {a n : Nat} {x : Int32} (ha : 32 ≤ a) (hT : T[a - 32]? = some (20, n)) (hn : n < 2 ^ 31) : ∀ (k : Nat) (i : Nat) (v : pmV), i + k = n → (∀ v', Wr v v' a i n (fun _ => x) → P none T v') → EvP X d MJ7_fill_53178 5 [.ref a, .int x, .int (nI i), .int (nI n)] [] T v P := by
  intro k
  induction k with
  | zero => 
    intro i v hi K
    have hi2 : n = i := by omega
    subst hi2
    refine ev_iload_n 5 dJ7_fill_53178_5 rfl ?_
    refine ev_iload_n 6 dJ7_fill_53178_6 rfl ?_
    refine ev_icT 7 20 dJ7_fill_53178_7 rfl (nge_t (n := n)) ?_
    refine ev_return 20 dJ7_fill_53178_20 rfl ?_
    exact K v (Wr.nil v a n _)
  | succ k ih => 
    intro i v hi K
    refine ev_iload_n 5 dJ7_fill_53178_5 rfl ?_
    refine ev_iload_n 6 dJ7_fill_53178_6 rfl ?_
    refine ev_icF 7 20 dJ7_fill_53178_7 rfl (nge_f (n := n) (by omega) (by omega)) ?_
    refine ev_aload_n 10 dJ7_fill_53178_10 rfl (by omega) ?_
    refine ev_iload_n 11 dJ7_fill_53178_11 rfl ?_
    refine ev_iload_n 12 dJ7_fill_53178_12 rfl ?_
    refine ev_iast 13 dJ7_fill_53178_13 (by omega) hT (pm_inI (by omega) (by omega)) ?_
    rw [show (nI i).toNatClampNeg = i from nI_clamp (by omega)]
    refine ev_iinc (y := nI (i + 1)) (ls' := [.ref a, .int x, .int (nI (i + 1)), .int (nI n)]) 14 dJ7_fill_53178_14 rfl (nI_1 i) rfl ?_
    refine ev_goto 17 5 dJ7_fill_53178_17 rfl ?_
    exact ih (i + 1) _ (by omega) (fun v2 h2 => K v2 ((Wr.one v a i x).cat h2 (by omega) (by omega)))
theorem c_J7_fill {X : pmX} {d : Nat} {v : pmV} {P : Option Value → pmT → pmV → Prop} {T : pmT} {a n : Nat} {x : Int32} (ha : 32 ≤ a) (hT : T[a - 32]? = some (20, n)) (hn : n < 2 ^ 31) (k : ∀ v', Wr v v' a 0 n (fun _ => x) → P none T v') : EvP X d MJ7_fill_53178 0 [.ref a, .int x, pmJ, pmJ] [] T v P := by
  refine ev_iconst 0 dJ7_fill_53178_0 kI_0 ?_
  refine ev_istore_n (ls' := [.ref a, .int x, .int 0, pmJ]) 1 dJ7_fill_53178_1 (Nat.le_of_ble_eq_true rfl) rfl ?_
  refine ev_aload_n 2 dJ7_fill_53178_2 rfl (by omega) ?_
  refine ev_alen (x := nI n) 3 dJ7_fill_53178_3 ha hT (by decide) rfl ?_
  refine ev_istore_n (ls' := [.ref a, .int x, .int 0, .int (nI n)]) 4 dJ7_fill_53178_4 (Nat.le_of_ble_eq_true rfl) rfl ?_
  exact lp_fill ha hT hn n 0 v (by omega) k

theorem c_X11_sheetOf {X : pmX} {d : Nat} {v : pmV} {P : Option Value → pmT → pmV → Prop} {LT : pmT} {x : Int32} (hX : pmRf v) (kt : ∀ t, t < 4 → x = nI t → P (some (.ref (92 + 2 * t))) (pmT0 ++ LT) v) (kf : ¬ (0 ≤ x ∧ x ≤ 3) → P (some .null) (pmT0 ++ LT) v) : EvP X (d + 1) MX11_sheetOf 0 [.ref 32, .int x] [] (pmT0 ++ LT) v P := by
  refine ev_iload_n 0 dX11_sheetOf_0 rfl ?_
  refine ev_iconst 1 dX11_sheetOf_1 kI_0 ?_
  refine ev_iconst 2 dX11_sheetOf_2 kI_3 ?_
  refine cs_11_74 (pc := 3) rfl dX11_sheetOf_3 (Nat.le_of_ble_eq_true rfl) ?_
  refine c_X11_isIn (fun h_3 => ?_) (fun h_3 => ?_)
  · obtain ⟨t, ht, rfl⟩ := nI_of2 (M := 3) (n := 3) rfl (Int32.not_lt.mpr h_3.1) h_3.2
    refine ev_ifF 6 18 dX11_sheetOf_6 rfl (by decide) ?_
    refine ev_aload_n 9 dX11_sheetOf_9 rfl (by decide) ?_
    refine gf_11_40 (pc := 10) rfl dX11_sheetOf_10 kd_32 (rf_32_8 hX) ?_
    refine ev_iload_n 13 dX11_sheetOf_13 rfl ?_
    refine ev_aald (x := .ref (92 + 2 * t)) 14 dX11_sheetOf_14 (Nat.le_of_ble_eq_true rfl) ty_50 (by decide) (pm_inI (by omega) (by omega)) (by rw [nI_clamp (by omega)]; exact congrArg va_rf (rf_sheet hX (by omega))) ?_
    refine ev_goto 15 19 dX11_sheetOf_15 rfl ?_
    refine ev_areturn 19 dX11_sheetOf_19 rfl (by omega) ?_
    exact kt t (by omega) rfl
  · refine ev_ifT 6 18 dX11_sheetOf_6 rfl (by decide) ?_
    refine ev_null 18 dX11_sheetOf_18 ?_
    refine ev_areturnN 19 dX11_sheetOf_19 rfl ?_
    exact kf h_3

theorem c_X6_isMissing {X : pmX} {d : Nat} {v : pmV} {P : Option Value → pmT → pmV → Prop} {LT : pmT} {t : Nat} (ht : t < 4) (kt : v.1 (92 + 2 * t) 0 = -1 → P (some (.int 1)) (pmT0 ++ LT) v) (kf : ¬ (v.1 (92 + 2 * t) 0 = -1) → P (some (.int 0)) (pmT0 ++ LT) v) : EvP X d MX6_isMissing 0 [.ref (92 + 2 * t)] [] (pmT0 ++ LT) v P := by
  refine ev_aload_n 0 dX6_isMissing_0 rfl (by omega) ?_
  refine gf_6_9 (x := v.1 (92 + 2 * t) 0) (pc := 1) rfl dX6_isMissing_1 (kd_sheet (by omega)) rfl ?_
  refine ev_iconst 4 dX6_isMissing_4 kI_m1 ?_
  refine ev_ic_ne 5 12 dX6_isMissing_5 rfl (fun c_5 => ?_) (fun c_5 => ?_)
  · refine ev_iconst 12 dX6_isMissing_12 kI_0 ?_
    refine ev_ireturn 13 dX6_isMissing_13 rfl rfl ?_
    exact kf (by grind)
  · refine ev_iconst 8 dX6_isMissing_8 kI_1 ?_
    refine ev_goto 9 13 dX6_isMissing_9 rfl ?_
    refine ev_ireturn 13 dX6_isMissing_13 rfl rfl ?_
    exact kt (by grind)

theorem c_X6_has {X : pmX} {d : Nat} {v : pmV} {P : Option Value → pmT → pmV → Prop} {LT : pmT} {t : Nat} {x : Int32} (ht : t < 4) (kt : 0 ≤ x ∧ x < v.1 (92 + 2 * t) 1 → P (some (.int 1)) (pmT0 ++ LT) v) (kf : ¬ (0 ≤ x ∧ x < v.1 (92 + 2 * t) 1) → P (some (.int 0)) (pmT0 ++ LT) v) : EvP X d MX6_has 0 [.ref (92 + 2 * t), .int x] [] (pmT0 ++ LT) v P := by
  refine ev_iconst 0 dX6_has_0 kI_0 ?_
  refine ev_iload_n 1 dX6_has_1 rfl ?_
  refine ev_ic_gt 2 17 dX6_has_2 rfl (fun c_2 => ?_) (fun c_2 => ?_)
  · refine ev_iconst 17 dX6_has_17 kI_0 ?_
    refine ev_ireturn 18 dX6_has_18 rfl rfl ?_
    exact kf (by grind)
  · refine ev_iload_n 5 dX6_has_5 rfl ?_
    refine ev_aload_n 6 dX6_has_6 rfl (by omega) ?_
    refine gf_6_19 (x := v.1 (92 + 2 * t) 1) (pc := 7) rfl dX6_has_7 (kd_sheet (by omega)) rfl ?_
    refine ev_ic_ge 10 17 dX6_has_10 rfl (fun c_10 => ?_) (fun c_10 => ?_)
    · refine ev_iconst 17 dX6_has_17 kI_0 ?_
      refine ev_ireturn 18 dX6_has_18 rfl rfl ?_
      exact kf (by grind)
    · refine ev_iconst 13 dX6_has_13 kI_1 ?_
      refine ev_goto 14 18 dX6_has_14 rfl ?_
      refine ev_ireturn 18 dX6_has_18 rfl rfl ?_
      exact kt (by grind)

theorem c_X6_hasAll {X : pmX} {d : Nat} {v : pmV} {P : Option Value → pmT → pmV → Prop} {LT : pmT} {t : Nat} {a b : Int32} (ht : t < 4) (kt : 0 ≤ a ∧ a ≤ v.1 (92 + 2 * t) 1 ∧ 0 ≤ b ∧ b ≤ v.1 (92 + 2 * t) 1 - a → P (some (.int 1)) (pmT0 ++ LT) v) (kf : ¬ (0 ≤ a ∧ a ≤ v.1 (92 + 2 * t) 1 ∧ 0 ≤ b ∧ b ≤ v.1 (92 + 2 * t) 1 - a) → P (some (.int 0)) (pmT0 ++ LT) v) : EvP X d MX6_hasAll 0 [.ref (92 + 2 * t), .int a, .int b] [] (pmT0 ++ LT) v P := by
  refine ev_iconst 0 dX6_hasAll_0 kI_0 ?_
  refine ev_iload_n 1 dX6_hasAll_1 rfl ?_
  refine ev_ic_gt 2 32 dX6_hasAll_2 rfl (fun c_2 => ?_) (fun c_2 => ?_)
  · refine ev_iconst 32 dX6_hasAll_32 kI_0 ?_
    refine ev_ireturn 33 dX6_hasAll_33 rfl rfl ?_
    exact kf (by grind)
  · refine ev_iload_n 5 dX6_hasAll_5 rfl ?_
    refine ev_aload_n 6 dX6_hasAll_6 rfl (by omega) ?_
    refine gf_6_19 (x := v.1 (92 + 2 * t) 1) (pc := 7) rfl dX6_hasAll_7 (kd_sheet (by omega)) rfl ?_
    refine ev_ic_gt 10 32 dX6_hasAll_10 rfl (fun c_10 => ?_) (fun c_10 => ?_)
    · refine ev_iconst 32 dX6_hasAll_32 kI_0 ?_
      refine ev_ireturn 33 dX6_hasAll_33 rfl rfl ?_
      exact kf (by grind)
    · refine ev_iconst 13 dX6_hasAll_13 kI_0 ?_
      refine ev_iload_n 14 dX6_hasAll_14 rfl ?_
      refine ev_ic_gt 15 32 dX6_hasAll_15 rfl (fun c_15 => ?_) (fun c_15 => ?_)
      · refine ev_iconst 32 dX6_hasAll_32 kI_0 ?_
        refine ev_ireturn 33 dX6_hasAll_33 rfl rfl ?_
        exact kf (by grind)
      · refine ev_iload_n 18 dX6_hasAll_18 rfl ?_
        refine ev_aload_n 19 dX6_hasAll_19 rfl (by omega) ?_
        refine gf_6_19 (x := v.1 (92 + 2 * t) 1) (pc := 20) rfl dX6_hasAll_20 (kd_sheet (by omega)) rfl ?_
        refine ev_iload_n 23 dX6_hasAll_23 rfl ?_
        refine ev_isub 24 dX6_hasAll_24 ?_
        refine ev_ic_gt 25 32 dX6_hasAll_25 rfl (fun c_25 => ?_) (fun c_25 => ?_)
        · refine ev_iconst 32 dX6_hasAll_32 kI_0 ?_
          refine ev_ireturn 33 dX6_hasAll_33 rfl rfl ?_
          exact kf (by grind)
        · refine ev_iconst 28 dX6_hasAll_28 kI_1 ?_
          refine ev_goto 29 33 dX6_hasAll_29 rfl ?_
          refine ev_ireturn 33 dX6_hasAll_33 rfl rfl ?_
          exact kt (by grind)

theorem c_X6_at {X : pmX} {d : Nat} {v : pmV} {P : Option Value → pmT → pmV → Prop} {LT : pmT} {t q : Nat} {x : Int32} (ht : t < 4) (hX : pmRf v) (hq : v.1 (92 + 2 * t) 1 = nI q) (hq60 : q ≤ 60) (kt : ∀ j, j < q → x = nI j → P (some (.int (v.1 (93 + 2 * t) j))) (pmT0 ++ LT) v) (kf : ¬ (0 ≤ x ∧ x < nI q) → P (some (.int 0)) (pmT0 ++ LT) v) : EvP X (d + 1) MX6_at 0 [.ref (92 + 2 * t), .int x] [] (pmT0 ++ LT) v P := by
  refine ev_aload_n 0 dX6_at_0 rfl (by omega) ?_
  refine ev_iload_n 1 dX6_at_1 rfl ?_
  refine cv_6_28_6 (pc := 2) rfl dX6_at_2 (kd_sheet (by omega)) (Nat.le_of_ble_eq_true rfl) ?_
  refine c_X6_has ht (fun h_2 => ?_) (fun h_2 => ?_)
  · obtain ⟨j, hj, rfl⟩ := nI_of (Int32.not_lt.mpr h_2.1)
    have hjq : j < q := by rw [hq] at h_2; exact (nI_ltI (by omega) (by omega)).mp h_2.2
    refine ev_ifF 5 17 dX6_at_5 rfl (by decide) ?_
    refine ev_aload_n 8 dX6_at_8 rfl (by omega) ?_
    refine gf_6_15 (pc := 9) rfl dX6_at_9 (kd_sheet (by omega)) (rf_items hX ht) ?_
    refine ev_iload_n 12 dX6_at_12 rfl ?_
    refine ev_iald (x := v.1 (93 + 2 * t) j) 13 dX6_at_13 (by omega) (ty_items (by omega)) (pm_inI (by omega) (by omega)) (by rw [nI_clamp (by omega)] <;> exact rfl) ?_
    refine ev_goto 14 18 dX6_at_14 rfl ?_
    refine ev_ireturn 18 dX6_at_18 rfl rfl ?_
    exact kt j hjq rfl
  · refine ev_ifT 5 17 dX6_at_5 rfl (by decide) ?_
    refine ev_iconst 17 dX6_at_17 kI_0 ?_
    refine ev_ireturn 18 dX6_at_18 rfl rfl ?_
    exact kf (by rw [← hq]; exact h_2)

theorem c_X6_put {X : pmX} {d : Nat} {v : pmV} {P : Option Value → pmT → pmV → Prop} {LT : pmT} {t q : Nat} {x a : Int32} (ht : t < 4) (hX : pmRf v) (hq : v.1 (92 + 2 * t) 1 = nI q) (hq60 : q ≤ 60) (kt : ∀ j, j < q → x = nI j → P none (pmT0 ++ LT) (uI v (93 + 2 * t) j (if v.1 (92 + 2 * t) 0 = 0 then a.toInt8.toInt32 else if v.1 (92 + 2 * t) 0 = 1 then a.toInt16.toInt32 else a))) (kf : ¬ (0 ≤ x ∧ x < nI q) → P none (pmT0 ++ LT) v) : EvP X (d + 1) MX6_put 0 [.ref (92 + 2 * t), .int x, .int a] [] (pmT0 ++ LT) v P := by
  refine ev_aload_n 0 dX6_put_0 rfl (by omega) ?_
  refine ev_iload_n 1 dX6_put_1 rfl ?_
  refine cv_6_28_6 (pc := 2) rfl dX6_put_2 (kd_sheet (by omega)) (Nat.le_of_ble_eq_true rfl) ?_
  refine c_X6_has ht (fun h_2 => ?_) (fun h_2 => ?_)
  · obtain ⟨j, hj, rfl⟩ := nI_of (Int32.not_lt.mpr h_2.1)
    have hjq : j < q := by rw [hq] at h_2; exact (nI_ltI (by omega) (by omega)).mp h_2.2
    refine ev_ifF 5 40 dX6_put_5 rfl (by decide) ?_
    refine ev_aload_n 8 dX6_put_8 rfl (by omega) ?_
    refine gf_6_15 (pc := 9) rfl dX6_put_9 (kd_sheet (by omega)) (rf_items hX ht) ?_
    refine ev_iload_n 12 dX6_put_12 rfl ?_
    refine ev_aload_n 13 dX6_put_13 rfl (by omega) ?_
    refine gf_6_9 (x := v.1 (92 + 2 * t) 0) (pc := 14) rfl dX6_put_14 (kd_sheet (by omega)) rfl ?_
    refine ev_if_ne 17 25 dX6_put_17 rfl (fun c_17 => ?_) (fun c_17 => ?_)
    · refine ev_aload_n 25 dX6_put_25 rfl (by omega) ?_
      refine gf_6_9 (x := v.1 (92 + 2 * t) 0) (pc := 26) rfl dX6_put_26 (kd_sheet (by omega)) rfl ?_
      refine ev_iconst 29 dX6_put_29 kI_1 ?_
      refine ev_ic_ne 30 38 dX6_put_30 rfl (fun c_30 => ?_) (fun c_30 => ?_)
      · refine ev_iload_n 38 dX6_put_38 rfl ?_
        refine ev_iast 39 dX6_put_39 (by omega) (ty_items (by omega)) (pm_inI (by omega) (by omega)) ?_
        rw [show (nI j).toNatClampNeg = j from nI_clamp (by omega)]
        refine ev_return 40 dX6_put_40 rfl ?_
        have hz := kt j hjq rfl
        rw [if_neg c_17, if_neg c_30] at hz
        exact hz
      · refine ev_iload_n 33 dX6_put_33 rfl ?_
        refine ev_i2s 34 dX6_put_34 ?_
        refine ev_goto 35 39 dX6_put_35 rfl ?_
        refine ev_iast 39 dX6_put_39 (by omega) (ty_items (by omega)) (pm_inI (by omega) (by omega)) ?_
        rw [show (nI j).toNatClampNeg = j from nI_clamp (by omega)]
        refine ev_return 40 dX6_put_40 rfl ?_
        have hz := kt j hjq rfl
        rw [if_neg c_17, if_pos c_30] at hz
        exact hz
    · refine ev_iload_n 20 dX6_put_20 rfl ?_
      refine ev_i2b 21 dX6_put_21 ?_
      refine ev_goto 22 39 dX6_put_22 rfl ?_
      refine ev_iast 39 dX6_put_39 (by omega) (ty_items (by omega)) (pm_inI (by omega) (by omega)) ?_
      rw [show (nI j).toNatClampNeg = j from nI_clamp (by omega)]
      refine ev_return 40 dX6_put_40 rfl ?_
      have hz := kt j hjq rfl
      rw [if_pos c_17] at hz
      exact hz
  · refine ev_ifT 5 40 dX6_put_5 rfl (by decide) ?_
    refine ev_return 40 dX6_put_40 rfl ?_
    exact kf (by rw [← hq]; exact h_2)

theorem c_X6_lay {X : pmX} {d : Nat} {v : pmV} {P : Option Value → pmT → pmV → Prop} {LT : pmT} {t : Nat} {x a : Int32} (ht : t < 4) (hX : pmRf v) (k : ∀ v', Wr (uI (uI v (92 + 2 * t) 0 x) (92 + 2 * t) 1 a) v' (93 + 2 * t) 0 60 (fun _ => 0) → P none (pmT0 ++ LT) v') : EvP X (d + 1) MX6_lay 0 [.ref (92 + 2 * t), .int x, .int a] [] (pmT0 ++ LT) v P := by
  refine ev_aload_n 0 dX6_lay_0 rfl (by omega) ?_
  refine ev_iload_n 1 dX6_lay_1 rfl ?_
  refine pf_6_9 (pc := 2) rfl dX6_lay_2 (kd_sheet (by omega)) ?_
  refine ev_aload_n 5 dX6_lay_5 rfl (by omega) ?_
  refine ev_iload_n 6 dX6_lay_6 rfl ?_
  refine pf_6_19 (pc := 7) rfl dX6_lay_7 (kd_sheet (by omega)) ?_
  refine ev_aload_n 10 dX6_lay_10 rfl (by omega) ?_
  refine gf_6_15 (pc := 11) rfl dX6_lay_11 (kd_sheet (by omega)) (rf_items hX ht) ?_
  refine ev_iconst 14 dX6_lay_14 kI_0 ?_
  refine cs_6_22 (pc := 15) rfl dX6_lay_15 (Nat.le_of_ble_eq_true rfl) ?_
  refine c_J7_fill (by omega) (ty_items (by omega)) (by omega) (fun w1 hw1 => ?_)
  refine ev_return 18 dX6_lay_18 rfl ?_
  exact k w1 hw1

