/-! a text at names -/
theorem nI_dec {n : Nat} (h : 0 < n) : nI n + Int32.ofInt (-1) = nI (n - 1) := by
  obtain ⟨k, rfl⟩ : ∃ k, n = k + 1 := ⟨n - 1, by omega⟩
  exact (congrArg (fun q => nI (k + 1) + q) (show Int32.ofInt (-1) = (-1 : Int32) by decide)).trans (pk_m1 k)
theorem Of.i {E : Nat → Nat → Prop} {v0 v : pmV} {a j : Nat} {x : Int32} (h : Of E v0 v) (ha : E a j) : Of E v0 (uI v a j x) := ⟨h.1, fun b i q => (show (uI v a j x).1 b i = v.1 b i from if_neg (fun z => q (by obtain ⟨rfl, rfl⟩ := z; exact ha))).trans (h.2 b i q)⟩
theorem Of.nil {E : Nat → Nat → Prop} {v : pmV} : Of E v v := ⟨rfl, fun _ _ _ => rfl⟩
theorem Of.tr {E : Nat → Nat → Prop} {u v w : pmV} (h : Of E u v) (h2 : Of E v w) : Of E u w := ⟨h2.1.trans h.1, fun b i q => (h2.2 b i q).trans (h.2 b i q)⟩
theorem Of.wd {E F : Nat → Nat → Prop} {v w : pmV} (h : Of E v w) (hw : ∀ a j, E a j → F a j) : Of F v w := ⟨h.1, fun b i q => h.2 b i (fun z => q (hw b i z))⟩
theorem kd_text {LT : pmT} {r : Nat} (hr : r < 6) : pmKind (pmT0 ++ LT) (68 + 4 * r) = 9 := by
  have : r = 0 ∨ r = 1 ∨ r = 2 ∨ r = 3 ∨ r = 4 ∨ r = 5 := by omega
  rcases this with rfl | rfl | rfl | rfl | rfl | rfl <;> rfl
theorem ty_code {LT : pmT} {r : Nat} (hr : r < 6) : (pmT0 ++ LT)[69 + 4 * r - 32]? = some (20, 160) := by
  have : r = 0 ∨ r = 1 ∨ r = 2 ∨ r = 3 ∨ r = 4 ∨ r = 5 := by omega
  rcases this with rfl | rfl | rfl | rfl | rfl | rfl <;> rfl
theorem ty_ends {LT : pmT} {r : Nat} (hr : r < 6) : (pmT0 ++ LT)[70 + 4 * r - 32]? = some (20, 3) := by
  have : r = 0 ∨ r = 1 ∨ r = 2 ∨ r = 3 ∨ r = 4 ∨ r = 5 := by omega
  rcases this with rfl | rfl | rfl | rfl | rfl | rfl <;> rfl
theorem ty_stk {LT : pmT} {r : Nat} (hr : r < 6) : (pmT0 ++ LT)[71 + 4 * r - 32]? = some (20, 160) := by
  have : r = 0 ∨ r = 1 ∨ r = 2 ∨ r = 3 ∨ r = 4 ∨ r = 5 := by omega
  rcases this with rfl | rfl | rfl | rfl | rfl | rfl <;> rfl
theorem rf_code {v : pmV} (h : pmRf v) {r : Nat} (hr : r < 6) : v.2.2 (68 + 4 * r) 0 = some (69 + 4 * r) := by
  have : r = 0 ∨ r = 1 ∨ r = 2 ∨ r = 3 ∨ r = 4 ∨ r = 5 := by omega
  rcases this with rfl | rfl | rfl | rfl | rfl | rfl
  · exact rf_68_0 h
  · exact rf_72_0 h
  · exact rf_76_0 h
  · exact rf_80_0 h
  · exact rf_84_0 h
  · exact rf_88_0 h
theorem rf_ends {v : pmV} (h : pmRf v) {r : Nat} (hr : r < 6) : v.2.2 (68 + 4 * r) 1 = some (70 + 4 * r) := by
  have : r = 0 ∨ r = 1 ∨ r = 2 ∨ r = 3 ∨ r = 4 ∨ r = 5 := by omega
  rcases this with rfl | rfl | rfl | rfl | rfl | rfl
  · exact rf_68_1 h
  · exact rf_72_1 h
  · exact rf_76_1 h
  · exact rf_80_1 h
  · exact rf_84_1 h
  · exact rf_88_1 h
theorem rf_stk {v : pmV} (h : pmRf v) {r : Nat} (hr : r < 6) : v.2.2 (68 + 4 * r) 2 = some (71 + 4 * r) := by
  have : r = 0 ∨ r = 1 ∨ r = 2 ∨ r = 3 ∨ r = 4 ∨ r = 5 := by omega
  rcases this with rfl | rfl | rfl | rfl | rfl | rfl
  · exact rf_68_2 h
  · exact rf_72_2 h
  · exact rf_76_2 h
  · exact rf_80_2 h
  · exact rf_84_2 h
  · exact rf_88_2 h
theorem c_X9_ofOne {X : pmX} {d : Nat} {v : pmV} {P : Option Value → pmT → pmV → Prop} {T : pmT} {a c : Int32} (k : P (some (.int (oneI c a))) T v) : EvP X d MX9_ofOne 0 [.int c, .int a] [] T v P := by
  refine ev_iload_n 0 dX9_ofOne_0 rfl ?_
  refine ev_bipush 1 dX9_ofOne_1 kB_m7 ?_
  refine ev_ic_eq 3 11 dX9_ofOne_3 rfl (fun c_3 => ?_) (fun c_3 => ?_)
  · refine ev_iload_n 11 dX9_ofOne_11 rfl ?_
    refine ev_if_ne 12 19 dX9_ofOne_12 rfl (fun c_12 => ?_) (fun c_12 => ?_)
    · refine ev_iconst 19 dX9_ofOne_19 kI_0 ?_
      refine ev_ireturn 20 dX9_ofOne_20 rfl rfl ?_
      rw [show oneI c a = 0 by simp [oneI, c_3, c_12]] at k
      exact k
    · refine ev_iconst 15 dX9_ofOne_15 kI_1 ?_
      refine ev_goto 16 20 dX9_ofOne_16 rfl ?_
      refine ev_ireturn 20 dX9_ofOne_20 rfl rfl ?_
      rw [show oneI c a = 1 by simp [oneI, c_3, c_12]] at k
      exact k
  · refine ev_iload_n 6 dX9_ofOne_6 rfl ?_
    refine ev_ineg 7 dX9_ofOne_7 ?_
    refine ev_goto 8 20 dX9_ofOne_8 rfl ?_
    refine ev_ireturn 20 dX9_ofOne_20 rfl rfl ?_
    rw [show oneI c a = -a by simp [oneI, c_3]] at k
    exact k

theorem c_X9_ofTwo_9 {X : pmX} {d : Nat} {v : pmV} {P : Option Value → pmT → pmV → Prop} {T : pmT} {a b : Int32} (k : P (some (.int (twoI (-9) a b))) T v) : EvP X d MX9_ofTwo 0 [.int (-9), .int a, .int b] [] T v P := by
  refine ev_iload_n 0 dX9_ofTwo_0 rfl ?_
  refine ev_swIn 1 40 dX9_ofTwo_1 (by decide) rfl rfl ?_
  refine ev_iload_n 40 dX9_ofTwo_40 rfl ?_
  refine ev_if_ne 41 48 dX9_ofTwo_41 rfl (fun c_41 => ?_) (fun c_41 => ?_)
  · refine ev_iconst 48 dX9_ofTwo_48 kI_1 ?_
    refine ev_goto 49 53 dX9_ofTwo_49 rfl ?_
    refine ev_ireturn 53 dX9_ofTwo_53 rfl rfl ?_
    rw [show twoI (-9) a b = 1 by simp [twoI, c_41]] at k
    exact k
  · refine ev_iload_n 44 dX9_ofTwo_44 rfl ?_
    refine ev_if_eq 45 52 dX9_ofTwo_45 rfl (fun c_45 => ?_) (fun c_45 => ?_)
    · refine ev_iconst 52 dX9_ofTwo_52 kI_0 ?_
      refine ev_ireturn 53 dX9_ofTwo_53 rfl rfl ?_
      rw [show twoI (-9) a b = 0 by simp [twoI, c_41, c_45]] at k
      exact k
    · refine ev_iconst 48 dX9_ofTwo_48 kI_1 ?_
      refine ev_goto 49 53 dX9_ofTwo_49 rfl ?_
      refine ev_ireturn 53 dX9_ofTwo_53 rfl rfl ?_
      rw [show twoI (-9) a b = 1 by simp [twoI, c_41, c_45]] at k
      exact k

theorem c_X9_ofTwo_10 {X : pmX} {d : Nat} {v : pmV} {P : Option Value → pmT → pmV → Prop} {T : pmT} {a b : Int32} (k : P (some (.int (twoI (-10) a b))) T v) : EvP X d MX9_ofTwo 0 [.int (-10), .int a, .int b] [] T v P := by
  refine ev_iload_n 0 dX9_ofTwo_0 rfl ?_
  refine ev_swIn 1 54 dX9_ofTwo_1 (by decide) rfl rfl ?_
  refine ev_iload_n 54 dX9_ofTwo_54 rfl ?_
  refine ev_if_eq 55 66 dX9_ofTwo_55 rfl (fun c_55 => ?_) (fun c_55 => ?_)
  · refine ev_iconst 66 dX9_ofTwo_66 kI_0 ?_
    refine ev_ireturn 67 dX9_ofTwo_67 rfl rfl ?_
    rw [show twoI (-10) a b = 0 by simp [twoI, c_55]] at k
    exact k
  · refine ev_iload_n 58 dX9_ofTwo_58 rfl ?_
    refine ev_if_eq 59 66 dX9_ofTwo_59 rfl (fun c_59 => ?_) (fun c_59 => ?_)
    · refine ev_iconst 66 dX9_ofTwo_66 kI_0 ?_
      refine ev_ireturn 67 dX9_ofTwo_67 rfl rfl ?_
      rw [show twoI (-10) a b = 0 by simp [twoI, c_55, c_59]] at k
      exact k
    · refine ev_iconst 62 dX9_ofTwo_62 kI_1 ?_
      refine ev_goto 63 67 dX9_ofTwo_63 rfl ?_
      refine ev_ireturn 67 dX9_ofTwo_67 rfl rfl ?_
      rw [show twoI (-10) a b = 1 by simp [twoI, c_55, c_59]] at k
      exact k

theorem c_X9_ofTwo_11 {X : pmX} {d : Nat} {v : pmV} {P : Option Value → pmT → pmV → Prop} {T : pmT} {a b : Int32} (k : P (some (.int (twoI (-11) a b))) T v) : EvP X d MX9_ofTwo 0 [.int (-11), .int a, .int b] [] T v P := by
  refine ev_iload_n 0 dX9_ofTwo_0 rfl ?_
  refine ev_swIn 1 68 dX9_ofTwo_1 (by decide) rfl rfl ?_
  refine ev_iload_n 68 dX9_ofTwo_68 rfl ?_
  refine ev_iload_n 69 dX9_ofTwo_69 rfl ?_
  refine ev_ic_ge 70 77 dX9_ofTwo_70 rfl (fun c_70 => ?_) (fun c_70 => ?_)
  · refine ev_iconst 77 dX9_ofTwo_77 kI_0 ?_
    refine ev_ireturn 78 dX9_ofTwo_78 rfl rfl ?_
    rw [show twoI (-11) a b = 0 by simp [twoI, c_70]] at k
    exact k
  · refine ev_iconst 73 dX9_ofTwo_73 kI_1 ?_
    refine ev_goto 74 78 dX9_ofTwo_74 rfl ?_
    refine ev_ireturn 78 dX9_ofTwo_78 rfl rfl ?_
    rw [show twoI (-11) a b = 1 by simp [twoI, c_70]] at k
    exact k

theorem c_X9_ofTwo_12 {X : pmX} {d : Nat} {v : pmV} {P : Option Value → pmT → pmV → Prop} {T : pmT} {a b : Int32} (k : P (some (.int (twoI (-12) a b))) T v) : EvP X d MX9_ofTwo 0 [.int (-12), .int a, .int b] [] T v P := by
  refine ev_iload_n 0 dX9_ofTwo_0 rfl ?_
  refine ev_swIn 1 79 dX9_ofTwo_1 (by decide) rfl rfl ?_
  refine ev_iload_n 79 dX9_ofTwo_79 rfl ?_
  refine ev_iload_n 80 dX9_ofTwo_80 rfl ?_
  refine ev_ic_ne 81 88 dX9_ofTwo_81 rfl (fun c_81 => ?_) (fun c_81 => ?_)
  · refine ev_iconst 88 dX9_ofTwo_88 kI_0 ?_
    refine ev_ireturn 89 dX9_ofTwo_89 rfl rfl ?_
    rw [show twoI (-12) a b = 0 by simp [twoI, c_81]] at k
    exact k
  · refine ev_iconst 84 dX9_ofTwo_84 kI_1 ?_
    refine ev_goto 85 89 dX9_ofTwo_85 rfl ?_
    refine ev_ireturn 89 dX9_ofTwo_89 rfl rfl ?_
    rw [show twoI (-12) a b = 1 by simp [twoI, c_81]] at k
    exact k

theorem c_X9_ofTwo_13 {X : pmX} {d : Nat} {v : pmV} {P : Option Value → pmT → pmV → Prop} {T : pmT} {a b : Int32} (k : P (some (.int (twoI (-13) a b))) T v) : EvP X d MX9_ofTwo 0 [.int (-13), .int a, .int b] [] T v P := by
  refine ev_iload_n 0 dX9_ofTwo_0 rfl ?_
  refine ev_swIn 1 90 dX9_ofTwo_1 (by decide) rfl rfl ?_
  refine ev_iload_n 90 dX9_ofTwo_90 rfl ?_
  refine ev_iload_n 91 dX9_ofTwo_91 rfl ?_
  refine ev_iadd 92 dX9_ofTwo_92 ?_
  refine ev_ireturn 93 dX9_ofTwo_93 rfl rfl ?_
  rw [show twoI (-13) a b = a + b by simp [twoI]] at k
  exact k

theorem c_X9_ofTwo_14 {X : pmX} {d : Nat} {v : pmV} {P : Option Value → pmT → pmV → Prop} {T : pmT} {a b : Int32} (k : P (some (.int (twoI (-14) a b))) T v) : EvP X d MX9_ofTwo 0 [.int (-14), .int a, .int b] [] T v P := by
  refine ev_iload_n 0 dX9_ofTwo_0 rfl ?_
  refine ev_swIn 1 94 dX9_ofTwo_1 (by decide) rfl rfl ?_
  refine ev_iload_n 94 dX9_ofTwo_94 rfl ?_
  refine ev_iload_n 95 dX9_ofTwo_95 rfl ?_
  refine ev_isub 96 dX9_ofTwo_96 ?_
  refine ev_ireturn 97 dX9_ofTwo_97 rfl rfl ?_
  rw [show twoI (-14) a b = a - b by simp [twoI]] at k
  exact k

theorem c_X9_ofTwo_15 {X : pmX} {d : Nat} {v : pmV} {P : Option Value → pmT → pmV → Prop} {T : pmT} {a b : Int32} (k : P (some (.int (twoI (-15) a b))) T v) : EvP X d MX9_ofTwo 0 [.int (-15), .int a, .int b] [] T v P := by
  refine ev_iload_n 0 dX9_ofTwo_0 rfl ?_
  refine ev_swOut 1 98 dX9_ofTwo_1 (by decide) rfl ?_
  refine ev_iload_n 98 dX9_ofTwo_98 rfl ?_
  refine ev_iload_n 99 dX9_ofTwo_99 rfl ?_
  refine ev_imul 100 dX9_ofTwo_100 ?_
  refine ev_ireturn 101 dX9_ofTwo_101 rfl rfl ?_
  rw [show twoI (-15) a b = a * b by simp [twoI]] at k
  exact k

theorem c_X9_ofTwo {X : pmX} {d : Nat} {v : pmV} {P : Option Value → pmT → pmV → Prop} {T : pmT} {a b c : Int32} (hc : c = -9 ∨ c = -10 ∨ c = -11 ∨ c = -12 ∨ c = -13 ∨ c = -14 ∨ c = -15) (k : P (some (.int (twoI c a b))) T v) : EvP X d MX9_ofTwo 0 [.int c, .int a, .int b] [] T v P := by
  rcases hc with rfl | rfl | rfl | rfl | rfl | rfl | rfl
  · exact c_X9_ofTwo_9 k
  · exact c_X9_ofTwo_10 k
  · exact c_X9_ofTwo_11 k
  · exact c_X9_ofTwo_12 k
  · exact c_X9_ofTwo_13 k
  · exact c_X9_ofTwo_14 k
  · exact c_X9_ofTwo_15 k
theorem c_X1_within {X : pmX} {d : Nat} {v : pmV} {P : Option Value → pmT → pmV → Prop} {T : pmT} {x a b : Int32} (k : P (some (.int (wiI x a b))) T v) : EvP X (d + 1) MX1_within 0 [.int x, .int a, .int b] [] T v P := by
  refine ev_iload_n 0 dX1_within_0 rfl ?_
  refine ev_iload_n 1 dX1_within_1 rfl ?_
  refine ev_iload_n 2 dX1_within_2 rfl ?_
  refine ev_min (x := (if x < b then x else b)) 3 dX1_within_3 mn0_1_55 mn_1_55 (Nat.le_of_ble_eq_true rfl) rfl ?_
  refine ev_max (x := (if a < (if x < b then x else b) then (if x < b then x else b) else a)) 6 dX1_within_6 mx_1_148 (Nat.le_of_ble_eq_true rfl) rfl ?_
  refine ev_ireturn 9 dX1_within_9 rfl rfl ?_
  exact k

theorem hgt_A {c : Int32} {l : List Int32} {h H : Nat} (hc : ¬ c < -6) (hh : hgt (c :: l) h = some H) : hgt l (h + 1) = some H := by
  unfold hgt at hh; rwa [if_pos (Int32.not_lt.mp hc)] at hh
theorem hgt_B {c : Int32} {l : List Int32} {h H : Nat} (hc : c < -6) (hc2 : ¬ c < -8) (hh : hgt (c :: l) h = some H) : 0 < h ∧ hgt l h = some H := by
  unfold hgt at hh; rw [if_neg (Int32.not_le.mpr hc), if_pos (Int32.not_lt.mp hc2)] at hh
  by_cases q : 0 < h
  · rw [if_pos q] at hh; exact ⟨q, hh⟩
  · rw [if_neg q] at hh; cases hh
theorem hgt_C {c : Int32} {l : List Int32} {h H : Nat} (hc : c < -6) (hc2 : c < -8) (hh : hgt (c :: l) h = some H) : 1 < h ∧ hgt l (h - 1) = some H := by
  unfold hgt at hh; rw [if_neg (Int32.not_le.mpr hc), if_neg (Int32.not_le.mpr hc2)] at hh
  by_cases q : 1 < h
  · rw [if_pos q] at hh; exact ⟨q, hh⟩
  · rw [if_neg q] at hh; cases hh
theorem evC_A {nm : Nat → Int32} {c : Int32} {l : List Int32} {h : Nat} {f : Nat → Int32} (hc : ¬ c < -6) : evC nm (c :: l) h f = evC nm l (h + 1) (upd f h (if c < 0 then nm (-1 - c).toNatClampNeg else c)) := by
  rw [evC, if_pos (Int32.not_lt.mp hc)]
theorem evC_B {nm : Nat → Int32} {c : Int32} {l : List Int32} {h : Nat} {f : Nat → Int32} (hc : c < -6) (hc2 : ¬ c < -8) : evC nm (c :: l) h f = evC nm l h (upd f (h - 1) (oneI c (f (h - 1)))) := by
  rw [evC, if_neg (Int32.not_le.mpr hc), if_pos (Int32.not_lt.mp hc2)]
theorem evC_C {nm : Nat → Int32} {c : Int32} {l : List Int32} {h : Nat} {f : Nat → Int32} (hc : c < -6) (hc2 : c < -8) : evC nm (c :: l) h f = evC nm l (h - 1) (upd f (h - 1 - 1) (twoI c (f (h - 1 - 1)) (f (h - 1)))) := by
  rw [evC, if_neg (Int32.not_le.mpr hc), if_neg (Int32.not_le.mpr hc2)]
def cdOk (c : Int32) : Prop := ∃ s x, codeOk c s x
theorem cd_nm {c : Int32} (h : cdOk c) (h6 : ¬ c < -6) (h0 : c < 0) : ∃ x : Nat, x < 6 ∧ -1 - c = nI x := by
  obtain ⟨s, x, h⟩ := h
  unfold codeOk at h
  rcases h with ⟨_, _, h⟩ | ⟨_, h, h1, h2⟩ | ⟨_, h⟩ | ⟨_, h⟩ | ⟨_, h⟩ | ⟨_, h⟩ | ⟨_, h⟩ | ⟨_, h⟩ | ⟨_, h⟩ | ⟨_, h⟩ | ⟨_, h⟩
  · exact absurd h0 (Int32.not_lt.mpr h)
  · obtain ⟨k, rfl, _, hk⟩ := nI_rng (a := 0) (b := 5) (by omega) (by omega) ⟨h1, h2⟩
    refine ⟨k, by omega, ?_⟩
    rw [h]; grind
  all_goals (subst h; exact absurd (by decide) h6)
theorem cd_two {c : Int32} (h : cdOk c) (h8 : c < -8) : c = -9 ∨ c = -10 ∨ c = -11 ∨ c = -12 ∨ c = -13 ∨ c = -14 ∨ c = -15 := by
  obtain ⟨s, x, h⟩ := h
  unfold codeOk at h
  rcases h with ⟨_, _, h⟩ | ⟨_, h, h1, h2⟩ | ⟨_, h⟩ | ⟨_, h⟩ | ⟨_, h⟩ | ⟨_, h⟩ | ⟨_, h⟩ | ⟨_, h⟩ | ⟨_, h⟩ | ⟨_, h⟩ | ⟨_, h⟩
  · exact absurd (Int32.lt_of_lt_of_le h8 (show (-8 : Int32) ≤ 0 by decide)) (Int32.not_lt.mpr h)
  · obtain ⟨k, rfl, _, hk⟩ := nI_rng (a := 0) (b := 5) (by omega) (by omega) ⟨h1, h2⟩
    have : k = 0 ∨ k = 1 ∨ k = 2 ∨ k = 3 ∨ k = 4 ∨ k = 5 := by omega
    subst h
    rcases this with rfl | rfl | rfl | rfl | rfl | rfl <;> exact absurd h8 (by decide)
  all_goals (subst h; first | (exact absurd h8 (by decide)) | simp)
theorem lp_val {X : pmX} {d : Nat} {P : Option Value → pmT → pmV → Prop} {LT : pmT} {r p E : Nat} {nm : Nat → Int32} (hr : r < 6) (hp : p < 3) (hE160 : E ≤ 160) : ∀ (l : List Int32) (i h : Nat) (f : Nat → Int32) (w5 : Value) (v : pmV), i + l.length = E → hgt l h = some 1 → h + l.length ≤ 160 → (∀ c, c ∈ l → cdOk c) → (∀ q c, l[q]? = some c → v.1 (69 + 4 * r) (i + q) = c) → (∀ q, q < h → v.1 (71 + 4 * r) q = f q) → (∀ q, q < 6 → v.1 66 q = nm q) → v.1 (70 + 4 * r) p = nI E → pmRf v → (∀ v', Of (fun a _ => a = 71 + 4 * r) v v' → P (some (.int (evC nm l h f 0))) (pmT0 ++ LT) v') → EvP X (d + 1) MX9_value 20 [.ref (68 + 4 * r), .int (nI p), .ref 66, .int (nI h), .int (nI i), w5] [] (pmT0 ++ LT) v P := by
  intro l
  induction l with
  | nil =>
    intro i h f w5 v hi hg hh hok hcd hst hnm hE hX K
    have hi2 : i = E := hi
    subst hi2
    have h1 : h = 1 := Option.some.inj hg
    subst h1
    refine ev_iload 20 dX9_value_20 rfl ?_
    refine ev_aload_n 22 dX9_value_22 rfl (by omega) ?_
    refine gf_9_15 (pc := 23) rfl dX9_value_23 (kd_text hr) (rf_ends hX hr) ?_
    refine ev_iload_n 26 dX9_value_26 rfl ?_
    refine ev_ialdJ (x := nI i) (j := p) 27 dX9_value_27 (by omega) (ty_ends hr) (pm_inI (by omega) (by omega)) (nI_clamp (by omega)) hE ?_
    refine ev_ic_geN (a := i) (b := i) 28 160 dX9_value_28 rfl (by omega) (by omega) (fun c_28 => ?_) (fun c_28 => by omega)
    refine ev_iload_n 160 dX9_value_160 rfl ?_
    refine ev_if_leN (a := 1) 161 173 dX9_value_161 rfl (by omega) (fun c_161 => by omega) (fun c_161 => ?_)
    refine ev_aload_n 164 dX9_value_164 rfl (by omega) ?_
    refine gf_9_18 (pc := 165) rfl dX9_value_165 (kd_text hr) (rf_stk hX hr) ?_
    refine ev_iconst 168 dX9_value_168 kI_0 ?_
    refine ev_ialdJ (x := f 0) (j := 0) 169 dX9_value_169 (by omega) (ty_stk hr) (by decide) rfl (hst 0 (by omega)) ?_
    refine ev_goto 170 174 dX9_value_170 rfl ?_
    refine ev_ireturn 174 dX9_value_174 rfl rfl ?_
    exact K v Of.nil
  | cons c l ih =>
    intro i h f w5 v hi hg hh hok hcd hst hnm hE hX K
    have hl : l.length + 1 = (c :: l).length := rfl
    refine ev_iload 20 dX9_value_20 rfl ?_
    refine ev_aload_n 22 dX9_value_22 rfl (by omega) ?_
    refine gf_9_15 (pc := 23) rfl dX9_value_23 (kd_text hr) (rf_ends hX hr) ?_
    refine ev_iload_n 26 dX9_value_26 rfl ?_
    refine ev_ialdJ (x := nI E) (j := p) 27 dX9_value_27 (by omega) (ty_ends hr) (pm_inI (by omega) (by omega)) (nI_clamp (by omega)) hE ?_
    refine ev_ic_geN (a := i) (b := E) 28 160 dX9_value_28 rfl (by omega) (by omega) (fun c_28 => by omega) (fun c_28 => ?_)
    refine ev_aload_n 31 dX9_value_31 rfl (by omega) ?_
    refine gf_9_9 (pc := 32) rfl dX9_value_32 (kd_text hr) (rf_code hX hr) ?_
    refine ev_iload 35 dX9_value_35 rfl ?_
    refine ev_ialdJ (x := c) (j := i) 37 dX9_value_37 (by omega) (ty_code hr) (pm_inI (by omega) (by omega)) (nI_clamp (by omega)) (hcd 0 c rfl) ?_
    refine ev_istore (ls' := [.ref (68 + 4 * r), .int (nI p), .ref 66, .int (nI h), .int (nI i), .int c]) 38 dX9_value_38 (Nat.le_of_ble_eq_true rfl) rfl ?_
    refine ev_iload 40 dX9_value_40 rfl ?_
    refine ev_bipush 42 dX9_value_42 kB_m6 ?_
    refine ev_ic_lt 44 84 dX9_value_44 rfl (fun c_44 => ?_) (fun c_44 => ?_)
    · refine ev_iload 84 dX9_value_84 rfl ?_
      refine ev_bipush 86 dX9_value_86 kB_m8 ?_
      refine ev_ic_lt 88 119 dX9_value_88 rfl (fun c_88 => ?_) (fun c_88 => ?_)
      · have hgb := hgt_C c_44 c_88 hg
        have hg2 := hgb.2
        have hg3 := hgb.1
        refine ev_iload_n 119 dX9_value_119 rfl ?_
        refine ev_iconst 120 dX9_value_120 kI_1 ?_
        refine ev_ic_leN (a := h) (b := 1) 121 154 dX9_value_121 rfl (by omega) (by omega) (fun c_121 => by omega) (fun c_121 => ?_)
        refine ev_iinc (y := nI (h - 1)) (ls' := [.ref (68 + 4 * r), .int (nI p), .ref 66, .int (nI (h - 1)), .int (nI i), .int c]) 124 dX9_value_124 rfl (nI_dec (by omega)) rfl ?_
        refine ev_aload_n 127 dX9_value_127 rfl (by omega) ?_
        refine gf_9_18 (pc := 128) rfl dX9_value_128 (kd_text hr) (rf_stk hX hr) ?_
        refine ev_iload_n 131 dX9_value_131 rfl ?_
        refine ev_iconst 132 dX9_value_132 kI_1 ?_
        refine ev_isub 133 dX9_value_133 ?_
        refine ev_cst (y := nI ((h - 1) - 1)) (pk_sub (a := (h - 1)) (b := 1) (by omega)) ?_
        refine ev_iload 134 dX9_value_134 rfl ?_
        refine ev_aload_n 136 dX9_value_136 rfl (by omega) ?_
        refine gf_9_18 (pc := 137) rfl dX9_value_137 (kd_text hr) (rf_stk hX hr) ?_
        refine ev_iload_n 140 dX9_value_140 rfl ?_
        refine ev_iconst 141 dX9_value_141 kI_1 ?_
        refine ev_isub 142 dX9_value_142 ?_
        refine ev_cst (y := nI ((h - 1) - 1)) (pk_sub (a := (h - 1)) (b := 1) (by omega)) ?_
        refine ev_ialdJ (x := f ((h - 1) - 1)) (j := (h - 1) - 1) 143 dX9_value_143 (by omega) (ty_stk hr) (pm_inI (by omega) (by omega)) (nI_clamp (by omega)) (hst ((h - 1) - 1) (by omega)) ?_
        refine ev_aload_n 144 dX9_value_144 rfl (by omega) ?_
        refine gf_9_18 (pc := 145) rfl dX9_value_145 (kd_text hr) (rf_stk hX hr) ?_
        refine ev_iload_n 148 dX9_value_148 rfl ?_
        refine ev_ialdJ (x := f (h - 1)) (j := h - 1) 149 dX9_value_149 (by omega) (ty_stk hr) (pm_inI (by omega) (by omega)) (nI_clamp (by omega)) (hst (h - 1) (by omega)) ?_
        refine cs_9_25 (pc := 150) rfl dX9_value_150 (Nat.le_of_ble_eq_true rfl) ?_
        refine c_X9_ofTwo (cd_two (hok c (List.mem_cons_self ..)) c_88) ?_
        refine ev_iastJ (j := (h - 1) - 1) 153 dX9_value_153 (by omega) (ty_stk hr) (pm_inI (by omega) (by omega)) (nI_clamp (by omega)) ?_
        refine ev_iinc (y := nI (i + 1)) (ls' := [.ref (68 + 4 * r), .int (nI p), .ref 66, .int (nI (h - 1)), .int (nI (i + 1)), .int c]) 154 dX9_value_154 rfl (nI_add i 1) rfl ?_
        refine ev_goto 157 20 dX9_value_157 rfl ?_
        have hev := evC_C (nm := nm) (l := l) (h := h) (f := f) c_44 c_88
        refine ih (i + 1) (h - 1) (upd f ((h - 1) - 1) (twoI c (f ((h - 1) - 1)) (f (h - 1)))) (.int c) _ (by omega) hg2 (by omega) (fun q hq => hok q (List.mem_cons_of_mem _ hq)) (fun q cc hq => ?_) (fun q hq => ?_) (fun q hq => (uI_ne (by omega)).trans (hnm q hq)) ((uI_ne (by omega)).trans hE) (hX.ag rfl) (fun v2 h2 => ?_)
        · rw [uI_ne (by omega), Nat.add_assoc, Nat.add_comm 1 q]; exact hcd (q + 1) cc hq
        · by_cases e : q = (h - 1) - 1
          · rw [e, uI_on, pk_us]
          · rw [uI_off (fun z => e z.2), pk_un e]; exact hst q (by omega)
        · have K2 := K v2 (Of.tr (Of.i (E := fun a _ => a = 71 + 4 * r) Of.nil rfl) h2)
          rw [hev] at K2
          exact K2
      · have hgb := hgt_B c_44 c_88 hg
        have hg2 := hgb.2
        have hg3 := hgb.1
        refine ev_iload_n 91 dX9_value_91 rfl ?_
        refine ev_if_leN (a := h) 92 154 dX9_value_92 rfl (by omega) (fun c_92 => by omega) (fun c_92 => ?_)
        refine ev_aload_n 95 dX9_value_95 rfl (by omega) ?_
        refine gf_9_18 (pc := 96) rfl dX9_value_96 (kd_text hr) (rf_stk hX hr) ?_
        refine ev_iload_n 99 dX9_value_99 rfl ?_
        refine ev_iconst 100 dX9_value_100 kI_1 ?_
        refine ev_isub 101 dX9_value_101 ?_
        refine ev_cst (y := nI (h - 1)) (pk_sub (a := h) (b := 1) (by omega)) ?_
        refine ev_iload 102 dX9_value_102 rfl ?_
        refine ev_aload_n 104 dX9_value_104 rfl (by omega) ?_
        refine gf_9_18 (pc := 105) rfl dX9_value_105 (kd_text hr) (rf_stk hX hr) ?_
        refine ev_iload_n 108 dX9_value_108 rfl ?_
        refine ev_iconst 109 dX9_value_109 kI_1 ?_
        refine ev_isub 110 dX9_value_110 ?_
        refine ev_cst (y := nI (h - 1)) (pk_sub (a := h) (b := 1) (by omega)) ?_
        refine ev_ialdJ (x := f (h - 1)) (j := h - 1) 111 dX9_value_111 (by omega) (ty_stk hr) (pm_inI (by omega) (by omega)) (nI_clamp (by omega)) (hst (h - 1) (by omega)) ?_
        refine cs_9_21 (pc := 112) rfl dX9_value_112 (Nat.le_of_ble_eq_true rfl) ?_
        refine c_X9_ofOne ?_
        refine ev_iastJ (j := h - 1) 115 dX9_value_115 (by omega) (ty_stk hr) (pm_inI (by omega) (by omega)) (nI_clamp (by omega)) ?_
        refine ev_goto 116 154 dX9_value_116 rfl ?_
        refine ev_iinc (y := nI (i + 1)) (ls' := [.ref (68 + 4 * r), .int (nI p), .ref 66, .int (nI h), .int (nI (i + 1)), .int c]) 154 dX9_value_154 rfl (nI_add i 1) rfl ?_
        refine ev_goto 157 20 dX9_value_157 rfl ?_
        have hev := evC_B (nm := nm) (l := l) (h := h) (f := f) c_44 c_88
        refine ih (i + 1) h (upd f (h - 1) (oneI c (f (h - 1)))) (.int c) _ (by omega) hg2 (by omega) (fun q hq => hok q (List.mem_cons_of_mem _ hq)) (fun q cc hq => ?_) (fun q hq => ?_) (fun q hq => (uI_ne (by omega)).trans (hnm q hq)) ((uI_ne (by omega)).trans hE) (hX.ag rfl) (fun v2 h2 => ?_)
        · rw [uI_ne (by omega), Nat.add_assoc, Nat.add_comm 1 q]; exact hcd (q + 1) cc hq
        · by_cases e : q = h - 1
          · rw [e, uI_on, pk_us]
          · rw [uI_off (fun z => e z.2), pk_un e]; exact hst q (by omega)
        · have K2 := K v2 (Of.tr (Of.i (E := fun a _ => a = 71 + 4 * r) Of.nil rfl) h2)
          rw [hev] at K2
          exact K2
    · have hg2 := hgt_A c_44 hg
      refine ev_iload_n 47 dX9_value_47 rfl ?_
      refine ev_aload_n 48 dX9_value_48 rfl (by omega) ?_
      refine gf_9_18 (pc := 49) rfl dX9_value_49 (kd_text hr) (rf_stk hX hr) ?_
      refine ev_alen (x := 160) 52 dX9_value_52 (by omega) (ty_stk hr) (by decide) (by decide) ?_
      refine ev_ic_geN (a := h) (b := 160) 53 154 dX9_value_53 rfl (by omega) (by omega) (fun c_53 => by omega) (fun c_53 => ?_)
      refine ev_aload_n 56 dX9_value_56 rfl (by omega) ?_
      refine gf_9_18 (pc := 57) rfl dX9_value_57 (kd_text hr) (rf_stk hX hr) ?_
      refine ev_iload_n 60 dX9_value_60 rfl ?_
      refine ev_iload 61 dX9_value_61 rfl ?_
      refine ev_if_lt 63 71 dX9_value_63 rfl (fun c_63 => ?_) (fun c_63 => ?_)
      · obtain ⟨x, hx6, hx⟩ := cd_nm (hok c (List.mem_cons_self ..)) c_44 c_63
        refine ev_aload_n 71 dX9_value_71 rfl (by decide) ?_
        refine ev_iconst 72 dX9_value_72 kI_m1 ?_
        refine ev_iload 73 dX9_value_73 rfl ?_
        refine ev_isub 75 dX9_value_75 ?_
        refine ev_ialdJ (x := nm x) (j := x) 76 dX9_value_76 (Nat.le_of_ble_eq_true rfl) ty_66 (by rw [hx]; exact pm_inI (by omega) (by omega)) (by rw [hx]; exact nI_clamp (by omega)) (hnm x (by omega)) ?_
        refine ev_iastJ (j := h) 77 dX9_value_77 (by omega) (ty_stk hr) (pm_inI (by omega) (by omega)) (nI_clamp (by omega)) ?_
        refine ev_iinc (y := nI (h + 1)) (ls' := [.ref (68 + 4 * r), .int (nI p), .ref 66, .int (nI (h + 1)), .int (nI i), .int c]) 78 dX9_value_78 rfl (nI_add h 1) rfl ?_
        refine ev_goto 81 154 dX9_value_81 rfl ?_
        refine ev_iinc (y := nI (i + 1)) (ls' := [.ref (68 + 4 * r), .int (nI p), .ref 66, .int (nI (h + 1)), .int (nI (i + 1)), .int c]) 154 dX9_value_154 rfl (nI_add i 1) rfl ?_
        refine ev_goto 157 20 dX9_value_157 rfl ?_
        have hev := evC_A (nm := nm) (l := l) (h := h) (f := f) c_44
        rw [if_pos c_63, hx] at hev
        rw [nI_clamp (show x < 2 ^ 31 by omega)] at hev
        refine ih (i + 1) (h + 1) (upd f h (nm x)) (.int c) _ (by omega) hg2 (by omega) (fun q hq => hok q (List.mem_cons_of_mem _ hq)) (fun q cc hq => ?_) (fun q hq => ?_) (fun q hq => (uI_ne (by omega)).trans (hnm q hq)) ((uI_ne (by omega)).trans hE) (hX.ag rfl) (fun v2 h2 => ?_)
        · rw [uI_ne (by omega), Nat.add_assoc, Nat.add_comm 1 q]; exact hcd (q + 1) cc hq
        · by_cases e : q = h
          · rw [e, uI_on, pk_us]
          · rw [uI_off (fun z => e z.2), pk_un e]; exact hst q (by omega)
        · have K2 := K v2 (Of.tr (Of.i (E := fun a _ => a = 71 + 4 * r) Of.nil rfl) h2)
          rw [hev] at K2
          exact K2
      · refine ev_iload 66 dX9_value_66 rfl ?_
        refine ev_goto 68 77 dX9_value_68 rfl ?_
        refine ev_iastJ (j := h) 77 dX9_value_77 (by omega) (ty_stk hr) (pm_inI (by omega) (by omega)) (nI_clamp (by omega)) ?_
        refine ev_iinc (y := nI (h + 1)) (ls' := [.ref (68 + 4 * r), .int (nI p), .ref 66, .int (nI (h + 1)), .int (nI i), .int c]) 78 dX9_value_78 rfl (nI_add h 1) rfl ?_
        refine ev_goto 81 154 dX9_value_81 rfl ?_
        refine ev_iinc (y := nI (i + 1)) (ls' := [.ref (68 + 4 * r), .int (nI p), .ref 66, .int (nI (h + 1)), .int (nI (i + 1)), .int c]) 154 dX9_value_154 rfl (nI_add i 1) rfl ?_
        refine ev_goto 157 20 dX9_value_157 rfl ?_
        have hev := evC_A (nm := nm) (l := l) (h := h) (f := f) c_44
        rw [if_neg c_63] at hev
        refine ih (i + 1) (h + 1) (upd f h c) (.int c) _ (by omega) hg2 (by omega) (fun q hq => hok q (List.mem_cons_of_mem _ hq)) (fun q cc hq => ?_) (fun q hq => ?_) (fun q hq => (uI_ne (by omega)).trans (hnm q hq)) ((uI_ne (by omega)).trans hE) (hX.ag rfl) (fun v2 h2 => ?_)
        · rw [uI_ne (by omega), Nat.add_assoc, Nat.add_comm 1 q]; exact hcd (q + 1) cc hq
        · by_cases e : q = h
          · rw [e, uI_on, pk_us]
          · rw [uI_off (fun z => e z.2), pk_un e]; exact hst q (by omega)
        · have K2 := K v2 (Of.tr (Of.i (E := fun a _ => a = 71 + 4 * r) Of.nil rfl) h2)
          rw [hev] at K2
          exact K2
theorem tx_b {v : pmV} {r p : Nat} (hT : TxtOk r v) (hp : p < 3) (h0 : 0 < p) : v.1 (70 + 4 * r) (p - 1) = nI (txB r p v) := by
  have h := (hT (p - 1) (by omega)).1
  rw [h]; unfold txB txE; rw [if_neg (by omega)]
theorem tx_cd {v : pmV} {r p : Nat} (hT : TxtOk r v) (hp : p < 3) : ∀ c, c ∈ txC r p v → cdOk c := by
  intro c hc
  unfold txC at hc
  rw [List.mem_map] at hc
  obtain ⟨i, hi, rfl⟩ := hc
  rw [List.mem_range] at hi
  exact ⟨_, _, (hT p hp).2.2.2.2.2 i hi⟩
theorem tx_at {v : pmV} {r p : Nat} : ∀ q c, (txC r p v)[q]? = some c → v.1 (69 + 4 * r) (txB r p v + q) = c := by
  intro q c h
  unfold txC at h
  rw [List.getElem?_map] at h
  by_cases hq : q < txE r p v - txB r p v
  · rw [List.getElem?_range hq] at h; exact Option.some.inj h
  · rw [List.getElem?_eq_none (by rw [List.length_range]; omega)] at h; cases h
theorem tx_len {v : pmV} {r p : Nat} : (txC r p v).length = txE r p v - txB r p v := by unfold txC; rw [List.length_map, List.length_range]
theorem c_X9_value {X : pmX} {d : Nat} {v : pmV} {P : Option Value → pmT → pmV → Prop} {LT : pmT} {r p : Nat} {nm : Nat → Int32} (hr : r < 6) (hp : p < 3) (hT : TxtOk r v) (hX : pmRf v) (hnm : ∀ q, q < 6 → v.1 66 q = nm q) (k : ∀ v', Of (fun a _ => a = 71 + 4 * r) v v' → P (some (.int (evC nm (txC r p v) 0 (fun _ => 0) 0))) (pmT0 ++ LT) v') : EvP X (d + 1) MX9_value 0 [.ref (68 + 4 * r), .int (nI p), .ref 66, pmJ, pmJ, pmJ] [] (pmT0 ++ LT) v P := by
  by_cases h0 : p = 0
  · subst h0
    refine ev_iconst 0 dX9_value_0 kI_0 ?_
    refine ev_istore_n (ls' := [.ref (68 + 4 * r), .int 0, .ref 66, .int 0, pmJ, pmJ]) 1 dX9_value_1 (Nat.le_of_ble_eq_true rfl) rfl ?_
    refine ev_iload_n 2 dX9_value_2 rfl ?_
    refine ev_ifF 3 10 dX9_value_3 rfl (by decide) ?_
    refine ev_iconst 6 dX9_value_6 kI_0 ?_
    refine ev_goto 7 18 dX9_value_7 rfl ?_
    refine ev_istore (ls' := [.ref (68 + 4 * r), .int 0, .ref 66, .int 0, .int 0, pmJ]) 18 dX9_value_18 (Nat.le_of_ble_eq_true rfl) rfl ?_
    have hb : txB r 0 v = 0 := rfl
    have h5 := tx_len (v := v) (r := r) (p := 0)
    obtain ⟨h1, h2, h3, _, h4, _⟩ := hT 0 hp
    refine lp_val hr hp h3 (txC r 0 v) 0 0 (fun _ => 0) pmJ v (by omega) h4 (by omega) (tx_cd hT hp) (fun q c hq => by have := tx_at q c hq; rwa [hb] at this) (fun q hq => absurd hq (by omega)) hnm h1 hX k
  · have hp0 : ¬ p = 0 := h0
    refine ev_iconst 0 dX9_value_0 kI_0 ?_
    refine ev_istore_n (ls' := [.ref (68 + 4 * r), .int (nI p), .ref 66, .int 0, pmJ, pmJ]) 1 dX9_value_1 (Nat.le_of_ble_eq_true rfl) rfl ?_
    refine ev_iload_n 2 dX9_value_2 rfl ?_
    refine ev_if_neN (a := p) 3 10 dX9_value_3 rfl (by omega) (fun c_3 => ?_) (fun c_3 => by omega)
    refine ev_aload_n 10 dX9_value_10 rfl (by omega) ?_
    refine gf_9_15 (pc := 11) rfl dX9_value_11 (kd_text hr) (rf_ends hX hr) ?_
    refine ev_iload_n 14 dX9_value_14 rfl ?_
    refine ev_iconst 15 dX9_value_15 kI_1 ?_
    refine ev_isub 16 dX9_value_16 ?_
    refine ev_cst (y := nI (p - 1)) (pk_sub (a := p) (b := 1) (by omega)) ?_
    refine ev_ialdJ (x := nI (txB r p v)) (j := p - 1) 17 dX9_value_17 (by omega) (ty_ends hr) (pm_inI (by omega) (by omega)) (nI_clamp (by omega)) (tx_b hT hp (by omega)) ?_
    refine ev_istore (ls' := [.ref (68 + 4 * r), .int (nI p), .ref 66, .int 0, .int (nI (txB r p v)), pmJ]) 18 dX9_value_18 (Nat.le_of_ble_eq_true rfl) rfl ?_
    have h5 := tx_len (v := v) (r := r) (p := p)
    obtain ⟨h1, h2, h3, _, h4, _⟩ := hT p hp
    refine lp_val hr hp h3 (txC r p v) (txB r p v) 0 (fun _ => 0) pmJ v (by omega) h4 (by omega) (tx_cd hT hp) tx_at (fun q hq => absurd hq (by omega)) hnm h1 hX k
