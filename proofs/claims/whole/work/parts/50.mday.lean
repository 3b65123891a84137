/-! the reference's day: what a rule tells -/
theorem c_X12_done_2 {X : pmX} {d : Nat} {v : pmV} {P : Option Value → pmT → pmV → Prop} {T : pmT} {a b : Int32} (k : P (some (.int (twoI (-9) a b))) T v) : EvP X d MX12_done 0 [.ref 100, .int 2, .int a, .int b] [] T v P := by
  refine ev_iload_n 0 dX12_done_0 rfl ?_
  refine ev_swIn 1 44 dX12_done_1 (by decide) rfl rfl ?_
  refine ev_iload_n 44 dX12_done_44 rfl ?_
  refine ev_if_ne 45 52 dX12_done_45 rfl (fun c_45 => ?_) (fun c_45 => ?_)
  · refine ev_iconst 52 dX12_done_52 kI_1 ?_
    refine ev_goto 53 57 dX12_done_53 rfl ?_
    refine ev_ireturn 57 dX12_done_57 rfl rfl ?_
    rw [show twoI (-9) a b = 1 by simp [twoI, c_45]] at k
    exact k
  · refine ev_iload_n 48 dX12_done_48 rfl ?_
    refine ev_if_eq 49 56 dX12_done_49 rfl (fun c_49 => ?_) (fun c_49 => ?_)
    · refine ev_iconst 56 dX12_done_56 kI_0 ?_
      refine ev_ireturn 57 dX12_done_57 rfl rfl ?_
      rw [show twoI (-9) a b = 0 by simp [twoI, c_45, c_49]] at k
      exact k
    · refine ev_iconst 52 dX12_done_52 kI_1 ?_
      refine ev_goto 53 57 dX12_done_53 rfl ?_
      refine ev_ireturn 57 dX12_done_57 rfl rfl ?_
      rw [show twoI (-9) a b = 1 by simp [twoI, c_45, c_49]] at k
      exact k

theorem c_X12_done_3 {X : pmX} {d : Nat} {v : pmV} {P : Option Value → pmT → pmV → Prop} {T : pmT} {a b : Int32} (k : P (some (.int (twoI (-10) a b))) T v) : EvP X d MX12_done 0 [.ref 100, .int 3, .int a, .int b] [] T v P := by
  refine ev_iload_n 0 dX12_done_0 rfl ?_
  refine ev_swIn 1 58 dX12_done_1 (by decide) rfl rfl ?_
  refine ev_iload_n 58 dX12_done_58 rfl ?_
  refine ev_if_eq 59 70 dX12_done_59 rfl (fun c_59 => ?_) (fun c_59 => ?_)
  · refine ev_iconst 70 dX12_done_70 kI_0 ?_
    refine ev_ireturn 71 dX12_done_71 rfl rfl ?_
    rw [show twoI (-10) a b = 0 by simp [twoI, c_59]] at k
    exact k
  · refine ev_iload_n 62 dX12_done_62 rfl ?_
    refine ev_if_eq 63 70 dX12_done_63 rfl (fun c_63 => ?_) (fun c_63 => ?_)
    · refine ev_iconst 70 dX12_done_70 kI_0 ?_
      refine ev_ireturn 71 dX12_done_71 rfl rfl ?_
      rw [show twoI (-10) a b = 0 by simp [twoI, c_59, c_63]] at k
      exact k
    · refine ev_iconst 66 dX12_done_66 kI_1 ?_
      refine ev_goto 67 71 dX12_done_67 rfl ?_
      refine ev_ireturn 71 dX12_done_71 rfl rfl ?_
      rw [show twoI (-10) a b = 1 by simp [twoI, c_59, c_63]] at k
      exact k

theorem c_X12_done_5 {X : pmX} {d : Nat} {v : pmV} {P : Option Value → pmT → pmV → Prop} {T : pmT} {a b : Int32} (k : P (some (.int (twoI (-11) a b))) T v) : EvP X d MX12_done 0 [.ref 100, .int 5, .int a, .int b] [] T v P := by
  refine ev_iload_n 0 dX12_done_0 rfl ?_
  refine ev_swIn 1 72 dX12_done_1 (by decide) rfl rfl ?_
  refine ev_iload_n 72 dX12_done_72 rfl ?_
  refine ev_iload_n 73 dX12_done_73 rfl ?_
  refine ev_ic_ge 74 81 dX12_done_74 rfl (fun c_74 => ?_) (fun c_74 => ?_)
  · refine ev_iconst 81 dX12_done_81 kI_0 ?_
    refine ev_ireturn 82 dX12_done_82 rfl rfl ?_
    rw [show twoI (-11) a b = 0 by simp [twoI, c_74]] at k
    exact k
  · refine ev_iconst 77 dX12_done_77 kI_1 ?_
    refine ev_goto 78 82 dX12_done_78 rfl ?_
    refine ev_ireturn 82 dX12_done_82 rfl rfl ?_
    rw [show twoI (-11) a b = 1 by simp [twoI, c_74]] at k
    exact k

theorem c_X12_done_6 {X : pmX} {d : Nat} {v : pmV} {P : Option Value → pmT → pmV → Prop} {T : pmT} {a b : Int32} (k : P (some (.int (twoI (-12) a b))) T v) : EvP X d MX12_done 0 [.ref 100, .int 6, .int a, .int b] [] T v P := by
  refine ev_iload_n 0 dX12_done_0 rfl ?_
  refine ev_swIn 1 83 dX12_done_1 (by decide) rfl rfl ?_
  refine ev_iload_n 83 dX12_done_83 rfl ?_
  refine ev_iload_n 84 dX12_done_84 rfl ?_
  refine ev_ic_ne 85 92 dX12_done_85 rfl (fun c_85 => ?_) (fun c_85 => ?_)
  · refine ev_iconst 92 dX12_done_92 kI_0 ?_
    refine ev_ireturn 93 dX12_done_93 rfl rfl ?_
    rw [show twoI (-12) a b = 0 by simp [twoI, c_85]] at k
    exact k
  · refine ev_iconst 88 dX12_done_88 kI_1 ?_
    refine ev_goto 89 93 dX12_done_89 rfl ?_
    refine ev_ireturn 93 dX12_done_93 rfl rfl ?_
    rw [show twoI (-12) a b = 1 by simp [twoI, c_85]] at k
    exact k

theorem c_X12_done_7 {X : pmX} {d : Nat} {v : pmV} {P : Option Value → pmT → pmV → Prop} {T : pmT} {a b : Int32} (k : P (some (.int (twoI (-13) a b))) T v) : EvP X d MX12_done 0 [.ref 100, .int 7, .int a, .int b] [] T v P := by
  refine ev_iload_n 0 dX12_done_0 rfl ?_
  refine ev_swIn 1 94 dX12_done_1 (by decide) rfl rfl ?_
  refine ev_iload_n 94 dX12_done_94 rfl ?_
  refine ev_iload_n 95 dX12_done_95 rfl ?_
  refine ev_iadd 96 dX12_done_96 ?_
  refine ev_ireturn 97 dX12_done_97 rfl rfl ?_
  rw [show twoI (-13) a b = a + b by simp [twoI]] at k
  exact k

theorem c_X12_done_8 {X : pmX} {d : Nat} {v : pmV} {P : Option Value → pmT → pmV → Prop} {T : pmT} {a b : Int32} (k : P (some (.int (twoI (-14) a b))) T v) : EvP X d MX12_done 0 [.ref 100, .int 8, .int a, .int b] [] T v P := by
  refine ev_iload_n 0 dX12_done_0 rfl ?_
  refine ev_swIn 1 98 dX12_done_1 (by decide) rfl rfl ?_
  refine ev_iload_n 98 dX12_done_98 rfl ?_
  refine ev_iload_n 99 dX12_done_99 rfl ?_
  refine ev_isub 100 dX12_done_100 ?_
  refine ev_ireturn 101 dX12_done_101 rfl rfl ?_
  rw [show twoI (-14) a b = a - b by simp [twoI]] at k
  exact k

theorem c_X12_done_9 {X : pmX} {d : Nat} {v : pmV} {P : Option Value → pmT → pmV → Prop} {T : pmT} {a b : Int32} (k : P (some (.int (twoI (-15) a b))) T v) : EvP X d MX12_done 0 [.ref 100, .int 9, .int a, .int b] [] T v P := by
  refine ev_iload_n 0 dX12_done_0 rfl ?_
  refine ev_swOut 1 102 dX12_done_1 (by decide) rfl ?_
  refine ev_iload_n 102 dX12_done_102 rfl ?_
  refine ev_iload_n 103 dX12_done_103 rfl ?_
  refine ev_imul 104 dX12_done_104 ?_
  refine ev_ireturn 105 dX12_done_105 rfl rfl ?_
  rw [show twoI (-15) a b = a * b by simp [twoI]] at k
  exact k

theorem c_X12_min {X : pmX} {d : Nat} {v : pmV} {P : Option Value → pmT → pmV → Prop} {T : pmT} {a b : Int32} (k : P (some (.int (if a < b then a else b))) T v) : EvP X d MX12_min 0 [.ref 100, .int a, .int b] [] T v P := by
  refine ev_iload_n 0 dX12_min_0 rfl ?_
  refine ev_iload_n 1 dX12_min_1 rfl ?_
  refine ev_ic_ge 2 9 dX12_min_2 rfl (fun c_2 => ?_) (fun c_2 => ?_)
  · refine ev_iload_n 9 dX12_min_9 rfl ?_
    refine ev_ireturn 10 dX12_min_10 rfl rfl ?_
    rw [show (if a < b then a else b) = b by simp; grind] at k
    exact k
  · refine ev_iload_n 5 dX12_min_5 rfl ?_
    refine ev_goto 6 10 dX12_min_6 rfl ?_
    refine ev_ireturn 10 dX12_min_10 rfl rfl ?_
    rw [show (if a < b then a else b) = a by simp; grind] at k
    exact k

theorem mn_eq (a b : Int32) : (if a < b then a else b) = mnI a b := by unfold mnI; split <;> split <;> grind
theorem lp_tcnt {X : pmX} {d : Nat} {P : Option Value → pmT → pmV → Prop} {LT : pmT} {e : pmV} {n tx z k0 w : Nat} {g : Nat → Int32} {s : dT} {p : Int64} {m c0 : Int32} {w5 w6 w7 : Value} (hC : Cpl n tx z LT e) (hw : w < 2) : ∀ (k : Nat) (i : Nat) (v : pmV), i + k = n → DM e n g s p v → v.1 112 0 = c0 → v.1 112 1 = pCn s (nI w) i → (∀ v', DM e n g s p v' → v'.1 112 0 = c0 → v'.1 112 1 = pCn s (nI w) n → EvP X d MX12_tellsRule 62 [.ref 100, .int (nI k0), .int (nI w), .int m, .int (nI n), w5, w6, w7] [] (pmT0 ++ LT) v' P) → EvP X d MX12_tellsRule 22 [.ref 100, .int (nI k0), .int (nI w), .int m, .int (nI i), w5, w6, w7] [] (pmT0 ++ LT) v P := by
  intro k
  induction k with
  | zero =>
    intro i v hi hD h0 h1 K
    have hi2 : n = i := by omega
    subst hi2
    have hn8 := hC.2.1.1
    refine ev_iload 22 dX12_tellsRule_22 rfl ?_
    refine ev_aload_n 24 dX12_tellsRule_24 rfl (by decide) ?_
    refine gf_12_1 (x := nI n) (pc := 25) rfl dX12_tellsRule_25 kd_100 ((hD.c (by unfold DcA DcX; omega)).trans hC.2.1.2.2.2.1) ?_
    refine ev_ic_geN (a := n) (b := n) 28 62 dX12_tellsRule_28 rfl (by omega) (by omega) (fun c_28 => ?_) (fun c_28 => by omega)
    exact K v hD h0 h1
  | succ k ih =>
    intro i v hi hD h0 h1 K
    have hn8 := hC.2.1.1
    refine ev_iload 22 dX12_tellsRule_22 rfl ?_
    refine ev_aload_n 24 dX12_tellsRule_24 rfl (by decide) ?_
    refine gf_12_1 (x := nI n) (pc := 25) rfl dX12_tellsRule_25 kd_100 ((hD.c (by unfold DcA DcX; omega)).trans hC.2.1.2.2.2.1) ?_
    refine ev_ic_geN (a := i) (b := n) 28 62 dX12_tellsRule_28 rfl (by omega) (by omega) (fun c_28 => by omega) (fun c_28 => ?_)
    refine ev_aload_n 31 dX12_tellsRule_31 rfl (by decide) ?_
    refine gf_12_131 (pc := 32) rfl dX12_tellsRule_32 kd_100 (rf_100_26 hD.1) ?_
    refine ev_iconst 35 dX12_tellsRule_35 kI_1 ?_
    refine ev_dup2 36 dX12_tellsRule_36 rfl rfl ?_
    refine ev_ialdJ (x := pCn s (nI w) i) (j := 1) 37 dX12_tellsRule_37 (Nat.le_of_ble_eq_true rfl) ty_112 (by decide) rfl h1 ?_
    refine ev_aload_n 38 dX12_tellsRule_38 rfl (by decide) ?_
    refine gf_12_143 (pc := 39) rfl dX12_tellsRule_39 kd_100 (rf_100_30 hD.1) ?_
    refine ev_iload 42 dX12_tellsRule_42 rfl ?_
    refine ev_ialdJ (x := s 3 i) (j := i) 44 dX12_tellsRule_44 (Nat.le_of_ble_eq_true rfl) ty_116 (pm_inI (by omega) (by omega)) (nI_clamp (by omega)) (hD.r3 (by omega)) ?_
    refine ev_iload_n 45 dX12_tellsRule_45 rfl ?_
    refine ev_ic_ne 46 53 dX12_tellsRule_46 rfl (fun c_46 => ?_) (fun c_46 => ?_)
    · refine ev_iconst 53 dX12_tellsRule_53 kI_0 ?_
      refine ev_iadd 54 dX12_tellsRule_54 ?_
      refine ev_iastJ (j := 1) 55 dX12_tellsRule_55 (Nat.le_of_ble_eq_true rfl) ty_112 (by decide) rfl ?_
      refine ev_iinc (y := nI (i + 1)) (ls' := [.ref 100, .int (nI k0), .int (nI w), .int m, .int (nI (i + 1)), w5, w6, w7]) 56 dX12_tellsRule_56 rfl (nI_add i 1) rfl ?_
      refine ev_goto 59 22 dX12_tellsRule_59 rfl ?_
      exact ih (i + 1) _ (by omega) (hD.of (Of.i (E := fun a _ => a = 112) Of.nil rfl) (fun a j q => Or.inr q)) ((uI_off (by decide)).trans h0) (uI_on.trans (by rw [pCn, if_neg c_46])) K
    · refine ev_iconst 49 dX12_tellsRule_49 kI_1 ?_
      refine ev_goto 50 54 dX12_tellsRule_50 rfl ?_
      refine ev_iadd 54 dX12_tellsRule_54 ?_
      refine ev_iastJ (j := 1) 55 dX12_tellsRule_55 (Nat.le_of_ble_eq_true rfl) ty_112 (by decide) rfl ?_
      refine ev_iinc (y := nI (i + 1)) (ls' := [.ref 100, .int (nI k0), .int (nI w), .int m, .int (nI (i + 1)), w5, w6, w7]) 56 dX12_tellsRule_56 rfl (nI_add i 1) rfl ?_
      refine ev_goto 59 22 dX12_tellsRule_59 rfl ?_
      exact ih (i + 1) _ (by omega) (hD.of (Of.i (E := fun a _ => a = 112) Of.nil rfl) (fun a j q => Or.inr q)) ((uI_off (by decide)).trans h0) (uI_on.trans (by rw [pCn, if_pos c_46])) K

theorem tx_rel {e : pmV} {r p : Nat} (hT : TxtOk r e) (hp : p < 3) : ∀ q c, (txC r p e)[q]? = some c → codeOk c (e.1 107 (480 * r + 160 * p + q)) (e.1 108 (480 * r + 160 * p + q)) := by
  intro q c h
  have ha := tx_at q c h
  unfold txC at h
  rw [List.getElem?_map] at h
  by_cases hq : q < txE r p e - txB r p e
  · have := (hT p hp).2.2.2.2.2 q hq
    rw [ha] at this; exact this
  · rw [List.getElem?_eq_none (by rw [List.length_range]; omega)] at h; cases h
theorem nm_c {u : Nat} (hu : u ≤ 5) : ¬ (-1 - nI u) < -6 ∧ (-1 - nI u) < 0 ∧ -1 - (-1 - nI u) = nI u := by
  have : u = 0 ∨ u = 1 ∨ u = 2 ∨ u = 3 ∨ u = 4 ∨ u = 5 := by omega
  rcases this with rfl | rfl | rfl | rfl | rfl | rfl <;> decide
set_option maxHeartbeats 2000000 in
theorem lp_tval {X : pmX} {d : Nat} {P : Option Value → pmT → pmV → Prop} {LT : pmT} {e : pmV} {n tx z r p E : Nat} {g : Nat → Int32} {s : dT} {pn : Int64} {nm : Nat → Int32} {mw mm : Int32} (hC : Cpl n tx z LT e) (hr : r < 6) (hr2 : e.1 100 11 = nI r) (hp : p < 3) (hE160 : E ≤ 160) (hE : e.1 109 (3 * r + p) = nI E) : ∀ (l : List Int32) (i h : Nat) (f : Nat → Int32) (w7 : Value) (v : pmV), i + l.length = E → hgt l h = some 1 → h + l.length ≤ 160 → (∀ q c, l[q]? = some c → codeOk c (e.1 107 (480 * r + 160 * p + (i + q))) (e.1 108 (480 * r + 160 * p + (i + q)))) → (∀ q, q < h → v.1 111 q = f q) → (∀ q, q < 6 → v.1 112 q = nm q) → DM e n g s pn v → (∀ v', DM e n g s pn v' → P (some (.int (evC nm l h f 0))) (pmT0 ++ LT) v') → EvP X (d + 1) MX12_tellsRule 121 [.ref 100, .int (nI p), .int mw, .int mm, .int (nI (480 * r + 160 * p)), .int (nI h), .int (nI (480 * r + 160 * p + i)), w7] [] (pmT0 ++ LT) v P := by
  intro l
  induction l with
  | nil =>
    intro i h f w7 v hi hg hh hcd hst hnm hD K
    have hi2 : i = E := hi
    subst hi2
    have h1 : h = 1 := Option.some.inj hg
    subst h1
    refine ev_iload 121 dX12_tellsRule_121 rfl ?_
    refine ev_iload 123 dX12_tellsRule_123 rfl ?_
    refine ev_aload_n 125 dX12_tellsRule_125 rfl (by decide) ?_
    refine gf_12_122 (pc := 126) rfl dX12_tellsRule_126 kd_100 (rf_100_23 hD.1) ?_
    refine ev_iconst 129 dX12_tellsRule_129 kI_3 ?_
    refine ev_aload_n 130 dX12_tellsRule_130 rfl (by decide) ?_
    refine gf_12_86 (x := nI r) (pc := 131) rfl dX12_tellsRule_131 kd_100 ((hD.c (by unfold DcA DcX; omega)).trans hr2) ?_
    refine ev_imul 134 dX12_tellsRule_134 ?_
    refine ev_cst (y := nI (3 * r)) (nI_mulp 3 r) ?_
    refine ev_iload_n 135 dX12_tellsRule_135 rfl ?_
    refine ev_iadd 136 dX12_tellsRule_136 ?_
    refine ev_cst (y := nI (3 * r + p)) (nI_add (3 * r) p) ?_
    refine ev_ialdJ (x := nI i) (j := 3 * r + p) 137 dX12_tellsRule_137 (Nat.le_of_ble_eq_true rfl) ty_109 (pm_inI (by omega) (by omega)) (nI_clamp (by omega)) ((hD.c (by unfold DcA DcX; omega)).trans hE) ?_
    refine ev_iadd 138 dX12_tellsRule_138 ?_
    refine ev_cst (y := nI (480 * r + 160 * p + i)) (nI_add (480 * r + 160 * p) i) ?_
    refine ev_ic_geN (a := (480 * r + 160 * p + i)) (b := (480 * r + 160 * p + i)) 139 304 dX12_tellsRule_139 rfl (by omega) (by omega) (fun c_139 => ?_) (fun c_139 => by omega)
    refine ev_aload_n 304 dX12_tellsRule_304 rfl (by decide) ?_
    refine gf_12_128 (pc := 305) rfl dX12_tellsRule_305 kd_100 (rf_100_25 hD.1) ?_
    refine ev_iconst 308 dX12_tellsRule_308 kI_0 ?_
    refine ev_ialdJ (x := f 0) (j := 0) 309 dX12_tellsRule_309 (Nat.le_of_ble_eq_true rfl) ty_111 (by decide) rfl (hst 0 (by omega)) ?_
    refine ev_ireturn 310 dX12_tellsRule_310 rfl rfl ?_
    exact K v hD
  | cons c l ih =>
    intro i h f w7 v hi hg hh hcd hst hnm hD K
    have hl : l.length + 1 = (c :: l).length := rfl
    have hok := hcd 0 c rfl
    rw [Nat.add_zero] at hok
    unfold codeOk at hok
    rcases hok with ⟨hs, hx, h0⟩ | ⟨hs, hc, hx1, hx2⟩ | ⟨hs, hc⟩ | ⟨hs, hc⟩ | ⟨hs, hc⟩ | ⟨hs, hc⟩ | ⟨hs, hc⟩ | ⟨hs, hc⟩ | ⟨hs, hc⟩ | ⟨hs, hc⟩ | ⟨hs, hc⟩
    · have hc6 : ¬ c < -6 := fun q => absurd (Int32.lt_of_lt_of_le q (show (-6 : Int32) ≤ 0 by decide)) (Int32.not_lt.mpr h0)
      have hg2 := hgt_A hc6 hg
      have hev := evC_A (nm := nm) (l := l) (h := h) (f := f) hc6
      rw [if_neg (Int32.not_lt.mpr h0)] at hev
      refine ev_iload 121 dX12_tellsRule_121 rfl ?_
      refine ev_iload 123 dX12_tellsRule_123 rfl ?_
      refine ev_aload_n 125 dX12_tellsRule_125 rfl (by decide) ?_
      refine gf_12_122 (pc := 126) rfl dX12_tellsRule_126 kd_100 (rf_100_23 hD.1) ?_
      refine ev_iconst 129 dX12_tellsRule_129 kI_3 ?_
      refine ev_aload_n 130 dX12_tellsRule_130 rfl (by decide) ?_
      refine gf_12_86 (x := nI r) (pc := 131) rfl dX12_tellsRule_131 kd_100 ((hD.c (by unfold DcA DcX; omega)).trans hr2) ?_
      refine ev_imul 134 dX12_tellsRule_134 ?_
      refine ev_cst (y := nI (3 * r)) (nI_mulp 3 r) ?_
      refine ev_iload_n 135 dX12_tellsRule_135 rfl ?_
      refine ev_iadd 136 dX12_tellsRule_136 ?_
      refine ev_cst (y := nI (3 * r + p)) (nI_add (3 * r) p) ?_
      refine ev_ialdJ (x := nI E) (j := 3 * r + p) 137 dX12_tellsRule_137 (Nat.le_of_ble_eq_true rfl) ty_109 (pm_inI (by omega) (by omega)) (nI_clamp (by omega)) ((hD.c (by unfold DcA DcX; omega)).trans hE) ?_
      refine ev_iadd 138 dX12_tellsRule_138 ?_
      refine ev_cst (y := nI (480 * r + 160 * p + E)) (nI_add (480 * r + 160 * p) E) ?_
      refine ev_ic_geN (a := (480 * r + 160 * p + i)) (b := (480 * r + 160 * p + E)) 139 304 dX12_tellsRule_139 rfl (by omega) (by omega) (fun c_139 => by omega) (fun c_139 => ?_)
      refine ev_aload_n 142 dX12_tellsRule_142 rfl (by decide) ?_
      refine gf_12_116 (pc := 143) rfl dX12_tellsRule_143 kd_100 (rf_100_21 hD.1) ?_
      refine ev_iload 146 dX12_tellsRule_146 rfl ?_
      refine ev_ialdJ (x := 0) (j := 480 * r + 160 * p + i) 148 dX12_tellsRule_148 (Nat.le_of_ble_eq_true rfl) ty_107 (pm_inI (by omega) (by omega)) (nI_clamp (by omega)) ((hD.c (by unfold DcA DcX; omega)).trans hs) ?_
      refine ev_istore (ls' := [.ref 100, .int (nI p), .int mw, .int mm, .int (nI (480 * r + 160 * p)), .int (nI h), .int (nI (480 * r + 160 * p + i)), .int 0]) 149 dX12_tellsRule_149 (Nat.le_of_ble_eq_true rfl) rfl ?_
      refine ev_iload 151 dX12_tellsRule_151 rfl ?_
      refine ev_ifT 153 162 dX12_tellsRule_153 rfl (by decide) ?_
      refine ev_aload_n 162 dX12_tellsRule_162 rfl (by decide) ?_
      refine gf_12_128 (pc := 163) rfl dX12_tellsRule_163 kd_100 (rf_100_25 hD.1) ?_
      refine ev_iload 166 dX12_tellsRule_166 rfl ?_
      refine ev_iload 168 dX12_tellsRule_168 rfl ?_
      refine ev_ifF 170 183 dX12_tellsRule_170 rfl (by decide) ?_
      refine ev_aload_n 173 dX12_tellsRule_173 rfl (by decide) ?_
      refine gf_12_119 (pc := 174) rfl dX12_tellsRule_174 kd_100 (rf_100_22 hD.1) ?_
      refine ev_iload 177 dX12_tellsRule_177 rfl ?_
      refine ev_ialdJ (x := c) (j := 480 * r + 160 * p + i) 179 dX12_tellsRule_179 (Nat.le_of_ble_eq_true rfl) ty_108 (pm_inI (by omega) (by omega)) (nI_clamp (by omega)) ((hD.c (by unfold DcA DcX; omega)).trans hx) ?_
      refine ev_goto 180 195 dX12_tellsRule_180 rfl ?_
      refine ev_iastJ (j := h) 195 dX12_tellsRule_195 (Nat.le_of_ble_eq_true rfl) ty_111 (pm_inI (by omega) (by omega)) (nI_clamp (by omega)) ?_
      refine ev_iinc (y := nI (h + 1)) (ls' := [.ref 100, .int (nI p), .int mw, .int mm, .int (nI (480 * r + 160 * p)), .int (nI (h + 1)), .int (nI (480 * r + 160 * p + i)), .int 0]) 196 dX12_tellsRule_196 rfl (nI_add h 1) rfl ?_
      refine ev_goto 199 298 dX12_tellsRule_199 rfl ?_
      refine ev_iinc (y := nI (480 * r + 160 * p + i + 1)) (ls' := [.ref 100, .int (nI p), .int mw, .int mm, .int (nI (480 * r + 160 * p)), .int (nI (h + 1)), .int (nI (480 * r + 160 * p + i + 1)), .int 0]) 298 dX12_tellsRule_298 rfl (nI_add (480 * r + 160 * p + i) 1) rfl ?_
      refine ev_goto 301 121 dX12_tellsRule_301 rfl ?_
      refine ih (i + 1) (h + 1) (upd f h c) (.int 0) _ (by omega) hg2 (by omega) (fun q cc hq => ?_) (fun q hq => ?_) (fun q hq => (uI_ne (by decide)).trans (hnm q hq)) (hD.of (Of.i (E := fun a _ => a = 111) Of.nil rfl) (fun a j q => Or.inl q)) (fun v2 h2 => ?_)
      · rw [Nat.add_assoc i, Nat.add_comm 1 q]; exact hcd (q + 1) cc hq
      · by_cases e : q = h
        · rw [e, uI_on, pk_us]
        · rw [uI_off (fun z => e z.2), pk_un e]; exact hst q (by omega)
      · have K2 := K v2 h2
        rw [hev] at K2
        exact K2
    · obtain ⟨u, hu, _, hu5⟩ := nI_rng (a := 0) (b := 5) (by omega) (by omega) ⟨hx1, hx2⟩
      have hx := hu
      rw [hu] at hc
      have hc6 : ¬ c < -6 ∧ c < 0 ∧ -1 - c = nI u := by rw [hc]; exact nm_c hu5
      have hg2 := hgt_A hc6.1 hg
      have hev := evC_A (nm := nm) (l := l) (h := h) (f := f) hc6.1
      rw [if_pos hc6.2.1, hc6.2.2, nI_clamp (by omega)] at hev
      refine ev_iload 121 dX12_tellsRule_121 rfl ?_
      refine ev_iload 123 dX12_tellsRule_123 rfl ?_
      refine ev_aload_n 125 dX12_tellsRule_125 rfl (by decide) ?_
      refine gf_12_122 (pc := 126) rfl dX12_tellsRule_126 kd_100 (rf_100_23 hD.1) ?_
      refine ev_iconst 129 dX12_tellsRule_129 kI_3 ?_
      refine ev_aload_n 130 dX12_tellsRule_130 rfl (by decide) ?_
      refine gf_12_86 (x := nI r) (pc := 131) rfl dX12_tellsRule_131 kd_100 ((hD.c (by unfold DcA DcX; omega)).trans hr2) ?_
      refine ev_imul 134 dX12_tellsRule_134 ?_
      refine ev_cst (y := nI (3 * r)) (nI_mulp 3 r) ?_
      refine ev_iload_n 135 dX12_tellsRule_135 rfl ?_
      refine ev_iadd 136 dX12_tellsRule_136 ?_
      refine ev_cst (y := nI (3 * r + p)) (nI_add (3 * r) p) ?_
      refine ev_ialdJ (x := nI E) (j := 3 * r + p) 137 dX12_tellsRule_137 (Nat.le_of_ble_eq_true rfl) ty_109 (pm_inI (by omega) (by omega)) (nI_clamp (by omega)) ((hD.c (by unfold DcA DcX; omega)).trans hE) ?_
      refine ev_iadd 138 dX12_tellsRule_138 ?_
      refine ev_cst (y := nI (480 * r + 160 * p + E)) (nI_add (480 * r + 160 * p) E) ?_
      refine ev_ic_geN (a := (480 * r + 160 * p + i)) (b := (480 * r + 160 * p + E)) 139 304 dX12_tellsRule_139 rfl (by omega) (by omega) (fun c_139 => by omega) (fun c_139 => ?_)
      refine ev_aload_n 142 dX12_tellsRule_142 rfl (by decide) ?_
      refine gf_12_116 (pc := 143) rfl dX12_tellsRule_143 kd_100 (rf_100_21 hD.1) ?_
      refine ev_iload 146 dX12_tellsRule_146 rfl ?_
      refine ev_ialdJ (x := 1) (j := 480 * r + 160 * p + i) 148 dX12_tellsRule_148 (Nat.le_of_ble_eq_true rfl) ty_107 (pm_inI (by omega) (by omega)) (nI_clamp (by omega)) ((hD.c (by unfold DcA DcX; omega)).trans hs) ?_
      refine ev_istore (ls' := [.ref 100, .int (nI p), .int mw, .int mm, .int (nI (480 * r + 160 * p)), .int (nI h), .int (nI (480 * r + 160 * p + i)), .int 1]) 149 dX12_tellsRule_149 (Nat.le_of_ble_eq_true rfl) rfl ?_
      refine ev_iload 151 dX12_tellsRule_151 rfl ?_
      refine ev_ifF 153 162 dX12_tellsRule_153 rfl (by decide) ?_
      refine ev_iload 156 dX12_tellsRule_156 rfl ?_
      refine ev_iconst 158 dX12_tellsRule_158 kI_1 ?_
      refine ev_icF 159 202 dX12_tellsRule_159 rfl (by decide) ?_
      refine ev_aload_n 162 dX12_tellsRule_162 rfl (by decide) ?_
      refine gf_12_128 (pc := 163) rfl dX12_tellsRule_163 kd_100 (rf_100_25 hD.1) ?_
      refine ev_iload 166 dX12_tellsRule_166 rfl ?_
      refine ev_iload 168 dX12_tellsRule_168 rfl ?_
      refine ev_ifT 170 183 dX12_tellsRule_170 rfl (by decide) ?_
      refine ev_aload_n 183 dX12_tellsRule_183 rfl (by decide) ?_
      refine gf_12_131 (pc := 184) rfl dX12_tellsRule_184 kd_100 (rf_100_26 hD.1) ?_
      refine ev_aload_n 187 dX12_tellsRule_187 rfl (by decide) ?_
      refine gf_12_119 (pc := 188) rfl dX12_tellsRule_188 kd_100 (rf_100_22 hD.1) ?_
      refine ev_iload 191 dX12_tellsRule_191 rfl ?_
      refine ev_ialdJ (x := nI u) (j := 480 * r + 160 * p + i) 193 dX12_tellsRule_193 (Nat.le_of_ble_eq_true rfl) ty_108 (pm_inI (by omega) (by omega)) (nI_clamp (by omega)) ((hD.c (by unfold DcA DcX; omega)).trans hx) ?_
      refine ev_ialdJ (x := nm u) (j := u) 194 dX12_tellsRule_194 (Nat.le_of_ble_eq_true rfl) ty_112 (pm_inI (by omega) (by omega)) (nI_clamp (by omega)) (hnm u (by omega)) ?_
      refine ev_iastJ (j := h) 195 dX12_tellsRule_195 (Nat.le_of_ble_eq_true rfl) ty_111 (pm_inI (by omega) (by omega)) (nI_clamp (by omega)) ?_
      refine ev_iinc (y := nI (h + 1)) (ls' := [.ref 100, .int (nI p), .int mw, .int mm, .int (nI (480 * r + 160 * p)), .int (nI (h + 1)), .int (nI (480 * r + 160 * p + i)), .int 1]) 196 dX12_tellsRule_196 rfl (nI_add h 1) rfl ?_
      refine ev_goto 199 298 dX12_tellsRule_199 rfl ?_
      refine ev_iinc (y := nI (480 * r + 160 * p + i + 1)) (ls' := [.ref 100, .int (nI p), .int mw, .int mm, .int (nI (480 * r + 160 * p)), .int (nI (h + 1)), .int (nI (480 * r + 160 * p + i + 1)), .int 1]) 298 dX12_tellsRule_298 rfl (nI_add (480 * r + 160 * p + i) 1) rfl ?_
      refine ev_goto 301 121 dX12_tellsRule_301 rfl ?_
      refine ih (i + 1) (h + 1) (upd f h (nm u)) (.int 1) _ (by omega) hg2 (by omega) (fun q cc hq => ?_) (fun q hq => ?_) (fun q hq => (uI_ne (by decide)).trans (hnm q hq)) (hD.of (Of.i (E := fun a _ => a = 111) Of.nil rfl) (fun a j q => Or.inl q)) (fun v2 h2 => ?_)
      · rw [Nat.add_assoc i, Nat.add_comm 1 q]; exact hcd (q + 1) cc hq
      · by_cases e : q = h
        · rw [e, uI_on, pk_us]
        · rw [uI_off (fun z => e z.2), pk_un e]; exact hst q (by omega)
      · have K2 := K v2 h2
        rw [hev] at K2
        exact K2
    · subst hc
      have hgb := hgt_B (by decide) (by decide) hg
      have hg2 := hgb.2
      have hg3 := hgb.1
      have hev := evC_B (nm := nm) (c := -7) (l := l) (h := h) (f := f) (by decide) (by decide)
      refine ev_iload 121 dX12_tellsRule_121 rfl ?_
      refine ev_iload 123 dX12_tellsRule_123 rfl ?_
      refine ev_aload_n 125 dX12_tellsRule_125 rfl (by decide) ?_
      refine gf_12_122 (pc := 126) rfl dX12_tellsRule_126 kd_100 (rf_100_23 hD.1) ?_
      refine ev_iconst 129 dX12_tellsRule_129 kI_3 ?_
      refine ev_aload_n 130 dX12_tellsRule_130 rfl (by decide) ?_
      refine gf_12_86 (x := nI r) (pc := 131) rfl dX12_tellsRule_131 kd_100 ((hD.c (by unfold DcA DcX; omega)).trans hr2) ?_
      refine ev_imul 134 dX12_tellsRule_134 ?_
      refine ev_cst (y := nI (3 * r)) (nI_mulp 3 r) ?_
      refine ev_iload_n 135 dX12_tellsRule_135 rfl ?_
      refine ev_iadd 136 dX12_tellsRule_136 ?_
      refine ev_cst (y := nI (3 * r + p)) (nI_add (3 * r) p) ?_
      refine ev_ialdJ (x := nI E) (j := 3 * r + p) 137 dX12_tellsRule_137 (Nat.le_of_ble_eq_true rfl) ty_109 (pm_inI (by omega) (by omega)) (nI_clamp (by omega)) ((hD.c (by unfold DcA DcX; omega)).trans hE) ?_
      refine ev_iadd 138 dX12_tellsRule_138 ?_
      refine ev_cst (y := nI (480 * r + 160 * p + E)) (nI_add (480 * r + 160 * p) E) ?_
      refine ev_ic_geN (a := (480 * r + 160 * p + i)) (b := (480 * r + 160 * p + E)) 139 304 dX12_tellsRule_139 rfl (by omega) (by omega) (fun c_139 => by omega) (fun c_139 => ?_)
      refine ev_aload_n 142 dX12_tellsRule_142 rfl (by decide) ?_
      refine gf_12_116 (pc := 143) rfl dX12_tellsRule_143 kd_100 (rf_100_21 hD.1) ?_
      refine ev_iload 146 dX12_tellsRule_146 rfl ?_
      refine ev_ialdJ (x := 4) (j := 480 * r + 160 * p + i) 148 dX12_tellsRule_148 (Nat.le_of_ble_eq_true rfl) ty_107 (pm_inI (by omega) (by omega)) (nI_clamp (by omega)) ((hD.c (by unfold DcA DcX; omega)).trans hs) ?_
      refine ev_istore (ls' := [.ref 100, .int (nI p), .int mw, .int mm, .int (nI (480 * r + 160 * p)), .int (nI h), .int (nI (480 * r + 160 * p + i)), .int 4]) 149 dX12_tellsRule_149 (Nat.le_of_ble_eq_true rfl) rfl ?_
      refine ev_iload 151 dX12_tellsRule_151 rfl ?_
      refine ev_ifF 153 162 dX12_tellsRule_153 rfl (by decide) ?_
      refine ev_iload 156 dX12_tellsRule_156 rfl ?_
      refine ev_iconst 158 dX12_tellsRule_158 kI_1 ?_
      refine ev_icT 159 202 dX12_tellsRule_159 rfl (by decide) ?_
      refine ev_iload 202 dX12_tellsRule_202 rfl ?_
      refine ev_iconst 204 dX12_tellsRule_204 kI_4 ?_
      refine ev_icT 205 215 dX12_tellsRule_205 rfl (by decide) ?_
      refine ev_aload_n 215 dX12_tellsRule_215 rfl (by decide) ?_
      refine gf_12_128 (pc := 216) rfl dX12_tellsRule_216 kd_100 (rf_100_25 hD.1) ?_
      refine ev_iload 219 dX12_tellsRule_219 rfl ?_
      refine ev_iconst 221 dX12_tellsRule_221 kI_1 ?_
      refine ev_isub 222 dX12_tellsRule_222 ?_
      refine ev_cst (y := nI (h - 1)) (pk_sub (a := h) (b := 1) (by omega)) ?_
      refine ev_iload 223 dX12_tellsRule_223 rfl ?_
      refine ev_bipush 225 dX12_tellsRule_225 kB_10 ?_
      refine ev_icT 227 243 dX12_tellsRule_227 rfl (by decide) ?_
      refine ev_aload_n 243 dX12_tellsRule_243 rfl (by decide) ?_
      refine gf_12_128 (pc := 244) rfl dX12_tellsRule_244 kd_100 (rf_100_25 hD.1) ?_
      refine ev_iload 247 dX12_tellsRule_247 rfl ?_
      refine ev_iconst 249 dX12_tellsRule_249 kI_1 ?_
      refine ev_isub 250 dX12_tellsRule_250 ?_
      refine ev_cst (y := nI (h - 1)) (pk_sub (a := h) (b := 1) (by omega)) ?_
      refine ev_ialdJ (x := f (h - 1)) (j := h - 1) 251 dX12_tellsRule_251 (Nat.le_of_ble_eq_true rfl) ty_111 (pm_inI (by omega) (by omega)) (nI_clamp (by omega)) (hst (h - 1) (by omega)) ?_
      refine ev_if_ne 252 259 dX12_tellsRule_252 rfl (fun c_252 => ?_) (fun c_252 => ?_)
      · refine ev_iconst 259 dX12_tellsRule_259 kI_0 ?_
        refine ev_iastJ (j := h - 1) 260 dX12_tellsRule_260 (Nat.le_of_ble_eq_true rfl) ty_111 (pm_inI (by omega) (by omega)) (nI_clamp (by omega)) ?_
        refine ev_goto 261 298 dX12_tellsRule_261 rfl ?_
        refine ev_iinc (y := nI (480 * r + 160 * p + i + 1)) (ls' := [.ref 100, .int (nI p), .int mw, .int mm, .int (nI (480 * r + 160 * p)), .int (nI h), .int (nI (480 * r + 160 * p + i + 1)), .int 4]) 298 dX12_tellsRule_298 rfl (nI_add (480 * r + 160 * p + i) 1) rfl ?_
        refine ev_goto 301 121 dX12_tellsRule_301 rfl ?_
        rw [show oneI (-7) (f (h - 1)) = 0 by simp [oneI, c_252]] at hev
        refine ih (i + 1) h (upd f (h - 1) 0) (.int 4) _ (by omega) hg2 (by omega) (fun q cc hq => ?_) (fun q hq => ?_) (fun q hq => (uI_ne (by decide)).trans (hnm q hq)) (hD.of (Of.i (E := fun a _ => a = 111) Of.nil rfl) (fun a j q => Or.inl q)) (fun v2 h2 => ?_)
        · rw [Nat.add_assoc i, Nat.add_comm 1 q]; exact hcd (q + 1) cc hq
        · by_cases e : q = h - 1
          · rw [e, uI_on, pk_us]
          · rw [uI_off (fun z => e z.2), pk_un e]; exact hst q (by omega)
        · have K2 := K v2 h2
          rw [hev] at K2
          exact K2
      · refine ev_iconst 255 dX12_tellsRule_255 kI_1 ?_
        refine ev_goto 256 260 dX12_tellsRule_256 rfl ?_
        refine ev_iastJ (j := h - 1) 260 dX12_tellsRule_260 (Nat.le_of_ble_eq_true rfl) ty_111 (pm_inI (by omega) (by omega)) (nI_clamp (by omega)) ?_
        refine ev_goto 261 298 dX12_tellsRule_261 rfl ?_
        refine ev_iinc (y := nI (480 * r + 160 * p + i + 1)) (ls' := [.ref 100, .int (nI p), .int mw, .int mm, .int (nI (480 * r + 160 * p)), .int (nI h), .int (nI (480 * r + 160 * p + i + 1)), .int 4]) 298 dX12_tellsRule_298 rfl (nI_add (480 * r + 160 * p + i) 1) rfl ?_
        refine ev_goto 301 121 dX12_tellsRule_301 rfl ?_
        rw [show oneI (-7) (f (h - 1)) = 1 by simp [oneI, c_252]] at hev
        refine ih (i + 1) h (upd f (h - 1) 1) (.int 4) _ (by omega) hg2 (by omega) (fun q cc hq => ?_) (fun q hq => ?_) (fun q hq => (uI_ne (by decide)).trans (hnm q hq)) (hD.of (Of.i (E := fun a _ => a = 111) Of.nil rfl) (fun a j q => Or.inl q)) (fun v2 h2 => ?_)
        · rw [Nat.add_assoc i, Nat.add_comm 1 q]; exact hcd (q + 1) cc hq
        · by_cases e : q = h - 1
          · rw [e, uI_on, pk_us]
          · rw [uI_off (fun z => e z.2), pk_un e]; exact hst q (by omega)
        · have K2 := K v2 h2
          rw [hev] at K2
          exact K2
    · subst hc
      have hgb := hgt_B (by decide) (by decide) hg
      have hg2 := hgb.2
      have hg3 := hgb.1
      have hev := evC_B (nm := nm) (c := -8) (l := l) (h := h) (f := f) (by decide) (by decide)
      refine ev_iload 121 dX12_tellsRule_121 rfl ?_
      refine ev_iload 123 dX12_tellsRule_123 rfl ?_
      refine ev_aload_n 125 dX12_tellsRule_125 rfl (by decide) ?_
      refine gf_12_122 (pc := 126) rfl dX12_tellsRule_126 kd_100 (rf_100_23 hD.1) ?_
      refine ev_iconst 129 dX12_tellsRule_129 kI_3 ?_
      refine ev_aload_n 130 dX12_tellsRule_130 rfl (by decide) ?_
      refine gf_12_86 (x := nI r) (pc := 131) rfl dX12_tellsRule_131 kd_100 ((hD.c (by unfold DcA DcX; omega)).trans hr2) ?_
      refine ev_imul 134 dX12_tellsRule_134 ?_
      refine ev_cst (y := nI (3 * r)) (nI_mulp 3 r) ?_
      refine ev_iload_n 135 dX12_tellsRule_135 rfl ?_
      refine ev_iadd 136 dX12_tellsRule_136 ?_
      refine ev_cst (y := nI (3 * r + p)) (nI_add (3 * r) p) ?_
      refine ev_ialdJ (x := nI E) (j := 3 * r + p) 137 dX12_tellsRule_137 (Nat.le_of_ble_eq_true rfl) ty_109 (pm_inI (by omega) (by omega)) (nI_clamp (by omega)) ((hD.c (by unfold DcA DcX; omega)).trans hE) ?_
      refine ev_iadd 138 dX12_tellsRule_138 ?_
      refine ev_cst (y := nI (480 * r + 160 * p + E)) (nI_add (480 * r + 160 * p) E) ?_
      refine ev_ic_geN (a := (480 * r + 160 * p + i)) (b := (480 * r + 160 * p + E)) 139 304 dX12_tellsRule_139 rfl (by omega) (by omega) (fun c_139 => by omega) (fun c_139 => ?_)
      refine ev_aload_n 142 dX12_tellsRule_142 rfl (by decide) ?_
      refine gf_12_116 (pc := 143) rfl dX12_tellsRule_143 kd_100 (rf_100_21 hD.1) ?_
      refine ev_iload 146 dX12_tellsRule_146 rfl ?_
      refine ev_ialdJ (x := 10) (j := 480 * r + 160 * p + i) 148 dX12_tellsRule_148 (Nat.le_of_ble_eq_true rfl) ty_107 (pm_inI (by omega) (by omega)) (nI_clamp (by omega)) ((hD.c (by unfold DcA DcX; omega)).trans hs) ?_
      refine ev_istore (ls' := [.ref 100, .int (nI p), .int mw, .int mm, .int (nI (480 * r + 160 * p)), .int (nI h), .int (nI (480 * r + 160 * p + i)), .int 10]) 149 dX12_tellsRule_149 (Nat.le_of_ble_eq_true rfl) rfl ?_
      refine ev_iload 151 dX12_tellsRule_151 rfl ?_
      refine ev_ifF 153 162 dX12_tellsRule_153 rfl (by decide) ?_
      refine ev_iload 156 dX12_tellsRule_156 rfl ?_
      refine ev_iconst 158 dX12_tellsRule_158 kI_1 ?_
      refine ev_icT 159 202 dX12_tellsRule_159 rfl (by decide) ?_
      refine ev_iload 202 dX12_tellsRule_202 rfl ?_
      refine ev_iconst 204 dX12_tellsRule_204 kI_4 ?_
      refine ev_icF 205 215 dX12_tellsRule_205 rfl (by decide) ?_
      refine ev_iload 208 dX12_tellsRule_208 rfl ?_
      refine ev_bipush 210 dX12_tellsRule_210 kB_10 ?_
      refine ev_icF 212 264 dX12_tellsRule_212 rfl (by decide) ?_
      refine ev_aload_n 215 dX12_tellsRule_215 rfl (by decide) ?_
      refine gf_12_128 (pc := 216) rfl dX12_tellsRule_216 kd_100 (rf_100_25 hD.1) ?_
      refine ev_iload 219 dX12_tellsRule_219 rfl ?_
      refine ev_iconst 221 dX12_tellsRule_221 kI_1 ?_
      refine ev_isub 222 dX12_tellsRule_222 ?_
      refine ev_cst (y := nI (h - 1)) (pk_sub (a := h) (b := 1) (by omega)) ?_
      refine ev_iload 223 dX12_tellsRule_223 rfl ?_
      refine ev_bipush 225 dX12_tellsRule_225 kB_10 ?_
      refine ev_icF 227 243 dX12_tellsRule_227 rfl (by decide) ?_
      refine ev_aload_n 230 dX12_tellsRule_230 rfl (by decide) ?_
      refine gf_12_128 (pc := 231) rfl dX12_tellsRule_231 kd_100 (rf_100_25 hD.1) ?_
      refine ev_iload 234 dX12_tellsRule_234 rfl ?_
      refine ev_iconst 236 dX12_tellsRule_236 kI_1 ?_
      refine ev_isub 237 dX12_tellsRule_237 ?_
      refine ev_cst (y := nI (h - 1)) (pk_sub (a := h) (b := 1) (by omega)) ?_
      refine ev_ialdJ (x := f (h - 1)) (j := h - 1) 238 dX12_tellsRule_238 (Nat.le_of_ble_eq_true rfl) ty_111 (pm_inI (by omega) (by omega)) (nI_clamp (by omega)) (hst (h - 1) (by omega)) ?_
      refine ev_ineg 239 dX12_tellsRule_239 ?_
      refine ev_goto 240 260 dX12_tellsRule_240 rfl ?_
      refine ev_iastJ (j := h - 1) 260 dX12_tellsRule_260 (Nat.le_of_ble_eq_true rfl) ty_111 (pm_inI (by omega) (by omega)) (nI_clamp (by omega)) ?_
      refine ev_goto 261 298 dX12_tellsRule_261 rfl ?_
      refine ev_iinc (y := nI (480 * r + 160 * p + i + 1)) (ls' := [.ref 100, .int (nI p), .int mw, .int mm, .int (nI (480 * r + 160 * p)), .int (nI h), .int (nI (480 * r + 160 * p + i + 1)), .int 10]) 298 dX12_tellsRule_298 rfl (nI_add (480 * r + 160 * p + i) 1) rfl ?_
      refine ev_goto 301 121 dX12_tellsRule_301 rfl ?_
      rw [show oneI (-8) (f (h - 1)) = -f (h - 1) by simp [oneI]] at hev
      refine ih (i + 1) h (upd f (h - 1) (-(f (h - 1)))) (.int 10) _ (by omega) hg2 (by omega) (fun q cc hq => ?_) (fun q hq => ?_) (fun q hq => (uI_ne (by decide)).trans (hnm q hq)) (hD.of (Of.i (E := fun a _ => a = 111) Of.nil rfl) (fun a j q => Or.inl q)) (fun v2 h2 => ?_)
      · rw [Nat.add_assoc i, Nat.add_comm 1 q]; exact hcd (q + 1) cc hq
      · by_cases e : q = h - 1
        · rw [e, uI_on, pk_us]
        · rw [uI_off (fun z => e z.2), pk_un e]; exact hst q (by omega)
      · have K2 := K v2 h2
        rw [hev] at K2
        exact K2
    · subst hc
      have hgb := hgt_C (by decide) (by decide) hg
      have hg2 := hgb.2
      have hg3 := hgb.1
      have hev := evC_C (nm := nm) (c := -9) (l := l) (h := h) (f := f) (by decide) (by decide)
      refine ev_iload 121 dX12_tellsRule_121 rfl ?_
      refine ev_iload 123 dX12_tellsRule_123 rfl ?_
      refine ev_aload_n 125 dX12_tellsRule_125 rfl (by decide) ?_
      refine gf_12_122 (pc := 126) rfl dX12_tellsRule_126 kd_100 (rf_100_23 hD.1) ?_
      refine ev_iconst 129 dX12_tellsRule_129 kI_3 ?_
      refine ev_aload_n 130 dX12_tellsRule_130 rfl (by decide) ?_
      refine gf_12_86 (x := nI r) (pc := 131) rfl dX12_tellsRule_131 kd_100 ((hD.c (by unfold DcA DcX; omega)).trans hr2) ?_
      refine ev_imul 134 dX12_tellsRule_134 ?_
      refine ev_cst (y := nI (3 * r)) (nI_mulp 3 r) ?_
      refine ev_iload_n 135 dX12_tellsRule_135 rfl ?_
      refine ev_iadd 136 dX12_tellsRule_136 ?_
      refine ev_cst (y := nI (3 * r + p)) (nI_add (3 * r) p) ?_
      refine ev_ialdJ (x := nI E) (j := 3 * r + p) 137 dX12_tellsRule_137 (Nat.le_of_ble_eq_true rfl) ty_109 (pm_inI (by omega) (by omega)) (nI_clamp (by omega)) ((hD.c (by unfold DcA DcX; omega)).trans hE) ?_
      refine ev_iadd 138 dX12_tellsRule_138 ?_
      refine ev_cst (y := nI (480 * r + 160 * p + E)) (nI_add (480 * r + 160 * p) E) ?_
      refine ev_ic_geN (a := (480 * r + 160 * p + i)) (b := (480 * r + 160 * p + E)) 139 304 dX12_tellsRule_139 rfl (by omega) (by omega) (fun c_139 => by omega) (fun c_139 => ?_)
      refine ev_aload_n 142 dX12_tellsRule_142 rfl (by decide) ?_
      refine gf_12_116 (pc := 143) rfl dX12_tellsRule_143 kd_100 (rf_100_21 hD.1) ?_
      refine ev_iload 146 dX12_tellsRule_146 rfl ?_
      refine ev_ialdJ (x := 2) (j := 480 * r + 160 * p + i) 148 dX12_tellsRule_148 (Nat.le_of_ble_eq_true rfl) ty_107 (pm_inI (by omega) (by omega)) (nI_clamp (by omega)) ((hD.c (by unfold DcA DcX; omega)).trans hs) ?_
      refine ev_istore (ls' := [.ref 100, .int (nI p), .int mw, .int mm, .int (nI (480 * r + 160 * p)), .int (nI h), .int (nI (480 * r + 160 * p + i)), .int 2]) 149 dX12_tellsRule_149 (Nat.le_of_ble_eq_true rfl) rfl ?_
      refine ev_iload 151 dX12_tellsRule_151 rfl ?_
      refine ev_ifF 153 162 dX12_tellsRule_153 rfl (by decide) ?_
      refine ev_iload 156 dX12_tellsRule_156 rfl ?_
      refine ev_iconst 158 dX12_tellsRule_158 kI_1 ?_
      refine ev_icT 159 202 dX12_tellsRule_159 rfl (by decide) ?_
      refine ev_iload 202 dX12_tellsRule_202 rfl ?_
      refine ev_iconst 204 dX12_tellsRule_204 kI_4 ?_
      refine ev_icF 205 215 dX12_tellsRule_205 rfl (by decide) ?_
      refine ev_iload 208 dX12_tellsRule_208 rfl ?_
      refine ev_bipush 210 dX12_tellsRule_210 kB_10 ?_
      refine ev_icT 212 264 dX12_tellsRule_212 rfl (by decide) ?_
      refine ev_iinc (y := nI (h - 1)) (ls' := [.ref 100, .int (nI p), .int mw, .int mm, .int (nI (480 * r + 160 * p)), .int (nI (h - 1)), .int (nI (480 * r + 160 * p + i)), .int 2]) 264 dX12_tellsRule_264 rfl (nI_dec (by omega)) rfl ?_
      refine ev_aload_n 267 dX12_tellsRule_267 rfl (by decide) ?_
      refine gf_12_128 (pc := 268) rfl dX12_tellsRule_268 kd_100 (rf_100_25 hD.1) ?_
      refine ev_iload 271 dX12_tellsRule_271 rfl ?_
      refine ev_iconst 273 dX12_tellsRule_273 kI_1 ?_
      refine ev_isub 274 dX12_tellsRule_274 ?_
      refine ev_cst (y := nI (h - 1 - 1)) (pk_sub (a := (h - 1)) (b := 1) (by omega)) ?_
      refine ev_aload_n 275 dX12_tellsRule_275 rfl (by decide) ?_
      refine ev_iload 276 dX12_tellsRule_276 rfl ?_
      refine ev_aload_n 278 dX12_tellsRule_278 rfl (by decide) ?_
      refine gf_12_128 (pc := 279) rfl dX12_tellsRule_279 kd_100 (rf_100_25 hD.1) ?_
      refine ev_iload 282 dX12_tellsRule_282 rfl ?_
      refine ev_iconst 284 dX12_tellsRule_284 kI_1 ?_
      refine ev_isub 285 dX12_tellsRule_285 ?_
      refine ev_cst (y := nI (h - 1 - 1)) (pk_sub (a := (h - 1)) (b := 1) (by omega)) ?_
      refine ev_ialdJ (x := f (h - 1 - 1)) (j := h - 1 - 1) 286 dX12_tellsRule_286 (Nat.le_of_ble_eq_true rfl) ty_111 (pm_inI (by omega) (by omega)) (nI_clamp (by omega)) (hst (h - 1 - 1) (by omega)) ?_
      refine ev_aload_n 287 dX12_tellsRule_287 rfl (by decide) ?_
      refine gf_12_128 (pc := 288) rfl dX12_tellsRule_288 kd_100 (rf_100_25 hD.1) ?_
      refine ev_iload 291 dX12_tellsRule_291 rfl ?_
      refine ev_ialdJ (x := f (h - 1)) (j := h - 1) 293 dX12_tellsRule_293 (Nat.le_of_ble_eq_true rfl) ty_111 (pm_inI (by omega) (by omega)) (nI_clamp (by omega)) (hst (h - 1) (by omega)) ?_
      refine cv_12_273_12 (pc := 294) rfl dX12_tellsRule_294 kd_100 (Nat.le_of_ble_eq_true rfl) ?_
      refine c_X12_done_2 ?_
      refine ev_iastJ (j := h - 1 - 1) 297 dX12_tellsRule_297 (Nat.le_of_ble_eq_true rfl) ty_111 (pm_inI (by omega) (by omega)) (nI_clamp (by omega)) ?_
      refine ev_iinc (y := nI (480 * r + 160 * p + i + 1)) (ls' := [.ref 100, .int (nI p), .int mw, .int mm, .int (nI (480 * r + 160 * p)), .int (nI (h - 1)), .int (nI (480 * r + 160 * p + i + 1)), .int 2]) 298 dX12_tellsRule_298 rfl (nI_add (480 * r + 160 * p + i) 1) rfl ?_
      refine ev_goto 301 121 dX12_tellsRule_301 rfl ?_
      refine ih (i + 1) (h - 1) (upd f (h - 1 - 1) (twoI (-9) (f (h - 1 - 1)) (f (h - 1)))) (.int 2) _ (by omega) hg2 (by omega) (fun q cc hq => ?_) (fun q hq => ?_) (fun q hq => (uI_ne (by decide)).trans (hnm q hq)) (hD.of (Of.i (E := fun a _ => a = 111) Of.nil rfl) (fun a j q => Or.inl q)) (fun v2 h2 => ?_)
      · rw [Nat.add_assoc i, Nat.add_comm 1 q]; exact hcd (q + 1) cc hq
      · by_cases e : q = h - 1 - 1
        · rw [e, uI_on, pk_us]
        · rw [uI_off (fun z => e z.2), pk_un e]; exact hst q (by omega)
      · have K2 := K v2 h2
        rw [hev] at K2
        exact K2
    · subst hc
      have hgb := hgt_C (by decide) (by decide) hg
      have hg2 := hgb.2
      have hg3 := hgb.1
      have hev := evC_C (nm := nm) (c := -10) (l := l) (h := h) (f := f) (by decide) (by decide)
      refine ev_iload 121 dX12_tellsRule_121 rfl ?_
      refine ev_iload 123 dX12_tellsRule_123 rfl ?_
      refine ev_aload_n 125 dX12_tellsRule_125 rfl (by decide) ?_
      refine gf_12_122 (pc := 126) rfl dX12_tellsRule_126 kd_100 (rf_100_23 hD.1) ?_
      refine ev_iconst 129 dX12_tellsRule_129 kI_3 ?_
      refine ev_aload_n 130 dX12_tellsRule_130 rfl (by decide) ?_
      refine gf_12_86 (x := nI r) (pc := 131) rfl dX12_tellsRule_131 kd_100 ((hD.c (by unfold DcA DcX; omega)).trans hr2) ?_
      refine ev_imul 134 dX12_tellsRule_134 ?_
      refine ev_cst (y := nI (3 * r)) (nI_mulp 3 r) ?_
      refine ev_iload_n 135 dX12_tellsRule_135 rfl ?_
      refine ev_iadd 136 dX12_tellsRule_136 ?_
      refine ev_cst (y := nI (3 * r + p)) (nI_add (3 * r) p) ?_
      refine ev_ialdJ (x := nI E) (j := 3 * r + p) 137 dX12_tellsRule_137 (Nat.le_of_ble_eq_true rfl) ty_109 (pm_inI (by omega) (by omega)) (nI_clamp (by omega)) ((hD.c (by unfold DcA DcX; omega)).trans hE) ?_
      refine ev_iadd 138 dX12_tellsRule_138 ?_
      refine ev_cst (y := nI (480 * r + 160 * p + E)) (nI_add (480 * r + 160 * p) E) ?_
      refine ev_ic_geN (a := (480 * r + 160 * p + i)) (b := (480 * r + 160 * p + E)) 139 304 dX12_tellsRule_139 rfl (by omega) (by omega) (fun c_139 => by omega) (fun c_139 => ?_)
      refine ev_aload_n 142 dX12_tellsRule_142 rfl (by decide) ?_
      refine gf_12_116 (pc := 143) rfl dX12_tellsRule_143 kd_100 (rf_100_21 hD.1) ?_
      refine ev_iload 146 dX12_tellsRule_146 rfl ?_
      refine ev_ialdJ (x := 3) (j := 480 * r + 160 * p + i) 148 dX12_tellsRule_148 (Nat.le_of_ble_eq_true rfl) ty_107 (pm_inI (by omega) (by omega)) (nI_clamp (by omega)) ((hD.c (by unfold DcA DcX; omega)).trans hs) ?_
      refine ev_istore (ls' := [.ref 100, .int (nI p), .int mw, .int mm, .int (nI (480 * r + 160 * p)), .int (nI h), .int (nI (480 * r + 160 * p + i)), .int 3]) 149 dX12_tellsRule_149 (Nat.le_of_ble_eq_true rfl) rfl ?_
      refine ev_iload 151 dX12_tellsRule_151 rfl ?_
      refine ev_ifF 153 162 dX12_tellsRule_153 rfl (by decide) ?_
      refine ev_iload 156 dX12_tellsRule_156 rfl ?_
      refine ev_iconst 158 dX12_tellsRule_158 kI_1 ?_
      refine ev_icT 159 202 dX12_tellsRule_159 rfl (by decide) ?_
      refine ev_iload 202 dX12_tellsRule_202 rfl ?_
      refine ev_iconst 204 dX12_tellsRule_204 kI_4 ?_
      refine ev_icF 205 215 dX12_tellsRule_205 rfl (by decide) ?_
      refine ev_iload 208 dX12_tellsRule_208 rfl ?_
      refine ev_bipush 210 dX12_tellsRule_210 kB_10 ?_
      refine ev_icT 212 264 dX12_tellsRule_212 rfl (by decide) ?_
      refine ev_iinc (y := nI (h - 1)) (ls' := [.ref 100, .int (nI p), .int mw, .int mm, .int (nI (480 * r + 160 * p)), .int (nI (h - 1)), .int (nI (480 * r + 160 * p + i)), .int 3]) 264 dX12_tellsRule_264 rfl (nI_dec (by omega)) rfl ?_
      refine ev_aload_n 267 dX12_tellsRule_267 rfl (by decide) ?_
      refine gf_12_128 (pc := 268) rfl dX12_tellsRule_268 kd_100 (rf_100_25 hD.1) ?_
      refine ev_iload 271 dX12_tellsRule_271 rfl ?_
      refine ev_iconst 273 dX12_tellsRule_273 kI_1 ?_
      refine ev_isub 274 dX12_tellsRule_274 ?_
      refine ev_cst (y := nI (h - 1 - 1)) (pk_sub (a := (h - 1)) (b := 1) (by omega)) ?_
      refine ev_aload_n 275 dX12_tellsRule_275 rfl (by decide) ?_
      refine ev_iload 276 dX12_tellsRule_276 rfl ?_
      refine ev_aload_n 278 dX12_tellsRule_278 rfl (by decide) ?_
      refine gf_12_128 (pc := 279) rfl dX12_tellsRule_279 kd_100 (rf_100_25 hD.1) ?_
      refine ev_iload 282 dX12_tellsRule_282 rfl ?_
      refine ev_iconst 284 dX12_tellsRule_284 kI_1 ?_
      refine ev_isub 285 dX12_tellsRule_285 ?_
      refine ev_cst (y := nI (h - 1 - 1)) (pk_sub (a := (h - 1)) (b := 1) (by omega)) ?_
      refine ev_ialdJ (x := f (h - 1 - 1)) (j := h - 1 - 1) 286 dX12_tellsRule_286 (Nat.le_of_ble_eq_true rfl) ty_111 (pm_inI (by omega) (by omega)) (nI_clamp (by omega)) (hst (h - 1 - 1) (by omega)) ?_
      refine ev_aload_n 287 dX12_tellsRule_287 rfl (by decide) ?_
      refine gf_12_128 (pc := 288) rfl dX12_tellsRule_288 kd_100 (rf_100_25 hD.1) ?_
      refine ev_iload 291 dX12_tellsRule_291 rfl ?_
      refine ev_ialdJ (x := f (h - 1)) (j := h - 1) 293 dX12_tellsRule_293 (Nat.le_of_ble_eq_true rfl) ty_111 (pm_inI (by omega) (by omega)) (nI_clamp (by omega)) (hst (h - 1) (by omega)) ?_
      refine cv_12_273_12 (pc := 294) rfl dX12_tellsRule_294 kd_100 (Nat.le_of_ble_eq_true rfl) ?_
      refine c_X12_done_3 ?_
      refine ev_iastJ (j := h - 1 - 1) 297 dX12_tellsRule_297 (Nat.le_of_ble_eq_true rfl) ty_111 (pm_inI (by omega) (by omega)) (nI_clamp (by omega)) ?_
      refine ev_iinc (y := nI (480 * r + 160 * p + i + 1)) (ls' := [.ref 100, .int (nI p), .int mw, .int mm, .int (nI (480 * r + 160 * p)), .int (nI (h - 1)), .int (nI (480 * r + 160 * p + i + 1)), .int 3]) 298 dX12_tellsRule_298 rfl (nI_add (480 * r + 160 * p + i) 1) rfl ?_
      refine ev_goto 301 121 dX12_tellsRule_301 rfl ?_
      refine ih (i + 1) (h - 1) (upd f (h - 1 - 1) (twoI (-10) (f (h - 1 - 1)) (f (h - 1)))) (.int 3) _ (by omega) hg2 (by omega) (fun q cc hq => ?_) (fun q hq => ?_) (fun q hq => (uI_ne (by decide)).trans (hnm q hq)) (hD.of (Of.i (E := fun a _ => a = 111) Of.nil rfl) (fun a j q => Or.inl q)) (fun v2 h2 => ?_)
      · rw [Nat.add_assoc i, Nat.add_comm 1 q]; exact hcd (q + 1) cc hq
      · by_cases e : q = h - 1 - 1
        · rw [e, uI_on, pk_us]
        · rw [uI_off (fun z => e z.2), pk_un e]; exact hst q (by omega)
      · have K2 := K v2 h2
        rw [hev] at K2
        exact K2
    · subst hc
      have hgb := hgt_C (by decide) (by decide) hg
      have hg2 := hgb.2
      have hg3 := hgb.1
      have hev := evC_C (nm := nm) (c := -11) (l := l) (h := h) (f := f) (by decide) (by decide)
      refine ev_iload 121 dX12_tellsRule_121 rfl ?_
      refine ev_iload 123 dX12_tellsRule_123 rfl ?_
      refine ev_aload_n 125 dX12_tellsRule_125 rfl (by decide) ?_
      refine gf_12_122 (pc := 126) rfl dX12_tellsRule_126 kd_100 (rf_100_23 hD.1) ?_
      refine ev_iconst 129 dX12_tellsRule_129 kI_3 ?_
      refine ev_aload_n 130 dX12_tellsRule_130 rfl (by decide) ?_
      refine gf_12_86 (x := nI r) (pc := 131) rfl dX12_tellsRule_131 kd_100 ((hD.c (by unfold DcA DcX; omega)).trans hr2) ?_
      refine ev_imul 134 dX12_tellsRule_134 ?_
      refine ev_cst (y := nI (3 * r)) (nI_mulp 3 r) ?_
      refine ev_iload_n 135 dX12_tellsRule_135 rfl ?_
      refine ev_iadd 136 dX12_tellsRule_136 ?_
      refine ev_cst (y := nI (3 * r + p)) (nI_add (3 * r) p) ?_
      refine ev_ialdJ (x := nI E) (j := 3 * r + p) 137 dX12_tellsRule_137 (Nat.le_of_ble_eq_true rfl) ty_109 (pm_inI (by omega) (by omega)) (nI_clamp (by omega)) ((hD.c (by unfold DcA DcX; omega)).trans hE) ?_
      refine ev_iadd 138 dX12_tellsRule_138 ?_
      refine ev_cst (y := nI (480 * r + 160 * p + E)) (nI_add (480 * r + 160 * p) E) ?_
      refine ev_ic_geN (a := (480 * r + 160 * p + i)) (b := (480 * r + 160 * p + E)) 139 304 dX12_tellsRule_139 rfl (by omega) (by omega) (fun c_139 => by omega) (fun c_139 => ?_)
      refine ev_aload_n 142 dX12_tellsRule_142 rfl (by decide) ?_
      refine gf_12_116 (pc := 143) rfl dX12_tellsRule_143 kd_100 (rf_100_21 hD.1) ?_
      refine ev_iload 146 dX12_tellsRule_146 rfl ?_
      refine ev_ialdJ (x := 5) (j := 480 * r + 160 * p + i) 148 dX12_tellsRule_148 (Nat.le_of_ble_eq_true rfl) ty_107 (pm_inI (by omega) (by omega)) (nI_clamp (by omega)) ((hD.c (by unfold DcA DcX; omega)).trans hs) ?_
      refine ev_istore (ls' := [.ref 100, .int (nI p), .int mw, .int mm, .int (nI (480 * r + 160 * p)), .int (nI h), .int (nI (480 * r + 160 * p + i)), .int 5]) 149 dX12_tellsRule_149 (Nat.le_of_ble_eq_true rfl) rfl ?_
      refine ev_iload 151 dX12_tellsRule_151 rfl ?_
      refine ev_ifF 153 162 dX12_tellsRule_153 rfl (by decide) ?_
      refine ev_iload 156 dX12_tellsRule_156 rfl ?_
      refine ev_iconst 158 dX12_tellsRule_158 kI_1 ?_
      refine ev_icT 159 202 dX12_tellsRule_159 rfl (by decide) ?_
      refine ev_iload 202 dX12_tellsRule_202 rfl ?_
      refine ev_iconst 204 dX12_tellsRule_204 kI_4 ?_
      refine ev_icF 205 215 dX12_tellsRule_205 rfl (by decide) ?_
      refine ev_iload 208 dX12_tellsRule_208 rfl ?_
      refine ev_bipush 210 dX12_tellsRule_210 kB_10 ?_
      refine ev_icT 212 264 dX12_tellsRule_212 rfl (by decide) ?_
      refine ev_iinc (y := nI (h - 1)) (ls' := [.ref 100, .int (nI p), .int mw, .int mm, .int (nI (480 * r + 160 * p)), .int (nI (h - 1)), .int (nI (480 * r + 160 * p + i)), .int 5]) 264 dX12_tellsRule_264 rfl (nI_dec (by omega)) rfl ?_
      refine ev_aload_n 267 dX12_tellsRule_267 rfl (by decide) ?_
      refine gf_12_128 (pc := 268) rfl dX12_tellsRule_268 kd_100 (rf_100_25 hD.1) ?_
      refine ev_iload 271 dX12_tellsRule_271 rfl ?_
      refine ev_iconst 273 dX12_tellsRule_273 kI_1 ?_
      refine ev_isub 274 dX12_tellsRule_274 ?_
      refine ev_cst (y := nI (h - 1 - 1)) (pk_sub (a := (h - 1)) (b := 1) (by omega)) ?_
      refine ev_aload_n 275 dX12_tellsRule_275 rfl (by decide) ?_
      refine ev_iload 276 dX12_tellsRule_276 rfl ?_
      refine ev_aload_n 278 dX12_tellsRule_278 rfl (by decide) ?_
      refine gf_12_128 (pc := 279) rfl dX12_tellsRule_279 kd_100 (rf_100_25 hD.1) ?_
      refine ev_iload 282 dX12_tellsRule_282 rfl ?_
      refine ev_iconst 284 dX12_tellsRule_284 kI_1 ?_
      refine ev_isub 285 dX12_tellsRule_285 ?_
      refine ev_cst (y := nI (h - 1 - 1)) (pk_sub (a := (h - 1)) (b := 1) (by omega)) ?_
      refine ev_ialdJ (x := f (h - 1 - 1)) (j := h - 1 - 1) 286 dX12_tellsRule_286 (Nat.le_of_ble_eq_true rfl) ty_111 (pm_inI (by omega) (by omega)) (nI_clamp (by omega)) (hst (h - 1 - 1) (by omega)) ?_
      refine ev_aload_n 287 dX12_tellsRule_287 rfl (by decide) ?_
      refine gf_12_128 (pc := 288) rfl dX12_tellsRule_288 kd_100 (rf_100_25 hD.1) ?_
      refine ev_iload 291 dX12_tellsRule_291 rfl ?_
      refine ev_ialdJ (x := f (h - 1)) (j := h - 1) 293 dX12_tellsRule_293 (Nat.le_of_ble_eq_true rfl) ty_111 (pm_inI (by omega) (by omega)) (nI_clamp (by omega)) (hst (h - 1) (by omega)) ?_
      refine cv_12_273_12 (pc := 294) rfl dX12_tellsRule_294 kd_100 (Nat.le_of_ble_eq_true rfl) ?_
      refine c_X12_done_5 ?_
      refine ev_iastJ (j := h - 1 - 1) 297 dX12_tellsRule_297 (Nat.le_of_ble_eq_true rfl) ty_111 (pm_inI (by omega) (by omega)) (nI_clamp (by omega)) ?_
      refine ev_iinc (y := nI (480 * r + 160 * p + i + 1)) (ls' := [.ref 100, .int (nI p), .int mw, .int mm, .int (nI (480 * r + 160 * p)), .int (nI (h - 1)), .int (nI (480 * r + 160 * p + i + 1)), .int 5]) 298 dX12_tellsRule_298 rfl (nI_add (480 * r + 160 * p + i) 1) rfl ?_
      refine ev_goto 301 121 dX12_tellsRule_301 rfl ?_
      refine ih (i + 1) (h - 1) (upd f (h - 1 - 1) (twoI (-11) (f (h - 1 - 1)) (f (h - 1)))) (.int 5) _ (by omega) hg2 (by omega) (fun q cc hq => ?_) (fun q hq => ?_) (fun q hq => (uI_ne (by decide)).trans (hnm q hq)) (hD.of (Of.i (E := fun a _ => a = 111) Of.nil rfl) (fun a j q => Or.inl q)) (fun v2 h2 => ?_)
      · rw [Nat.add_assoc i, Nat.add_comm 1 q]; exact hcd (q + 1) cc hq
      · by_cases e : q = h - 1 - 1
        · rw [e, uI_on, pk_us]
        · rw [uI_off (fun z => e z.2), pk_un e]; exact hst q (by omega)
      · have K2 := K v2 h2
        rw [hev] at K2
        exact K2
    · subst hc
      have hgb := hgt_C (by decide) (by decide) hg
      have hg2 := hgb.2
      have hg3 := hgb.1
      have hev := evC_C (nm := nm) (c := -12) (l := l) (h := h) (f := f) (by decide) (by decide)
      refine ev_iload 121 dX12_tellsRule_121 rfl ?_
      refine ev_iload 123 dX12_tellsRule_123 rfl ?_
      refine ev_aload_n 125 dX12_tellsRule_125 rfl (by decide) ?_
      refine gf_12_122 (pc := 126) rfl dX12_tellsRule_126 kd_100 (rf_100_23 hD.1) ?_
      refine ev_iconst 129 dX12_tellsRule_129 kI_3 ?_
      refine ev_aload_n 130 dX12_tellsRule_130 rfl (by decide) ?_
      refine gf_12_86 (x := nI r) (pc := 131) rfl dX12_tellsRule_131 kd_100 ((hD.c (by unfold DcA DcX; omega)).trans hr2) ?_
      refine ev_imul 134 dX12_tellsRule_134 ?_
      refine ev_cst (y := nI (3 * r)) (nI_mulp 3 r) ?_
      refine ev_iload_n 135 dX12_tellsRule_135 rfl ?_
      refine ev_iadd 136 dX12_tellsRule_136 ?_
      refine ev_cst (y := nI (3 * r + p)) (nI_add (3 * r) p) ?_
      refine ev_ialdJ (x := nI E) (j := 3 * r + p) 137 dX12_tellsRule_137 (Nat.le_of_ble_eq_true rfl) ty_109 (pm_inI (by omega) (by omega)) (nI_clamp (by omega)) ((hD.c (by unfold DcA DcX; omega)).trans hE) ?_
      refine ev_iadd 138 dX12_tellsRule_138 ?_
      refine ev_cst (y := nI (480 * r + 160 * p + E)) (nI_add (480 * r + 160 * p) E) ?_
      refine ev_ic_geN (a := (480 * r + 160 * p + i)) (b := (480 * r + 160 * p + E)) 139 304 dX12_tellsRule_139 rfl (by omega) (by omega) (fun c_139 => by omega) (fun c_139 => ?_)
      refine ev_aload_n 142 dX12_tellsRule_142 rfl (by decide) ?_
      refine gf_12_116 (pc := 143) rfl dX12_tellsRule_143 kd_100 (rf_100_21 hD.1) ?_
      refine ev_iload 146 dX12_tellsRule_146 rfl ?_
      refine ev_ialdJ (x := 6) (j := 480 * r + 160 * p + i) 148 dX12_tellsRule_148 (Nat.le_of_ble_eq_true rfl) ty_107 (pm_inI (by omega) (by omega)) (nI_clamp (by omega)) ((hD.c (by unfold DcA DcX; omega)).trans hs) ?_
      refine ev_istore (ls' := [.ref 100, .int (nI p), .int mw, .int mm, .int (nI (480 * r + 160 * p)), .int (nI h), .int (nI (480 * r + 160 * p + i)), .int 6]) 149 dX12_tellsRule_149 (Nat.le_of_ble_eq_true rfl) rfl ?_
      refine ev_iload 151 dX12_tellsRule_151 rfl ?_
      refine ev_ifF 153 162 dX12_tellsRule_153 rfl (by decide) ?_
      refine ev_iload 156 dX12_tellsRule_156 rfl ?_
      refine ev_iconst 158 dX12_tellsRule_158 kI_1 ?_
      refine ev_icT 159 202 dX12_tellsRule_159 rfl (by decide) ?_
      refine ev_iload 202 dX12_tellsRule_202 rfl ?_
      refine ev_iconst 204 dX12_tellsRule_204 kI_4 ?_
      refine ev_icF 205 215 dX12_tellsRule_205 rfl (by decide) ?_
      refine ev_iload 208 dX12_tellsRule_208 rfl ?_
      refine ev_bipush 210 dX12_tellsRule_210 kB_10 ?_
      refine ev_icT 212 264 dX12_tellsRule_212 rfl (by decide) ?_
      refine ev_iinc (y := nI (h - 1)) (ls' := [.ref 100, .int (nI p), .int mw, .int mm, .int (nI (480 * r + 160 * p)), .int (nI (h - 1)), .int (nI (480 * r + 160 * p + i)), .int 6]) 264 dX12_tellsRule_264 rfl (nI_dec (by omega)) rfl ?_
      refine ev_aload_n 267 dX12_tellsRule_267 rfl (by decide) ?_
      refine gf_12_128 (pc := 268) rfl dX12_tellsRule_268 kd_100 (rf_100_25 hD.1) ?_
      refine ev_iload 271 dX12_tellsRule_271 rfl ?_
      refine ev_iconst 273 dX12_tellsRule_273 kI_1 ?_
      refine ev_isub 274 dX12_tellsRule_274 ?_
      refine ev_cst (y := nI (h - 1 - 1)) (pk_sub (a := (h - 1)) (b := 1) (by omega)) ?_
      refine ev_aload_n 275 dX12_tellsRule_275 rfl (by decide) ?_
      refine ev_iload 276 dX12_tellsRule_276 rfl ?_
      refine ev_aload_n 278 dX12_tellsRule_278 rfl (by decide) ?_
      refine gf_12_128 (pc := 279) rfl dX12_tellsRule_279 kd_100 (rf_100_25 hD.1) ?_
      refine ev_iload 282 dX12_tellsRule_282 rfl ?_
      refine ev_iconst 284 dX12_tellsRule_284 kI_1 ?_
      refine ev_isub 285 dX12_tellsRule_285 ?_
      refine ev_cst (y := nI (h - 1 - 1)) (pk_sub (a := (h - 1)) (b := 1) (by omega)) ?_
      refine ev_ialdJ (x := f (h - 1 - 1)) (j := h - 1 - 1) 286 dX12_tellsRule_286 (Nat.le_of_ble_eq_true rfl) ty_111 (pm_inI (by omega) (by omega)) (nI_clamp (by omega)) (hst (h - 1 - 1) (by omega)) ?_
      refine ev_aload_n 287 dX12_tellsRule_287 rfl (by decide) ?_
      refine gf_12_128 (pc := 288) rfl dX12_tellsRule_288 kd_100 (rf_100_25 hD.1) ?_
      refine ev_iload 291 dX12_tellsRule_291 rfl ?_
      refine ev_ialdJ (x := f (h - 1)) (j := h - 1) 293 dX12_tellsRule_293 (Nat.le_of_ble_eq_true rfl) ty_111 (pm_inI (by omega) (by omega)) (nI_clamp (by omega)) (hst (h - 1) (by omega)) ?_
      refine cv_12_273_12 (pc := 294) rfl dX12_tellsRule_294 kd_100 (Nat.le_of_ble_eq_true rfl) ?_
      refine c_X12_done_6 ?_
      refine ev_iastJ (j := h - 1 - 1) 297 dX12_tellsRule_297 (Nat.le_of_ble_eq_true rfl) ty_111 (pm_inI (by omega) (by omega)) (nI_clamp (by omega)) ?_
      refine ev_iinc (y := nI (480 * r + 160 * p + i + 1)) (ls' := [.ref 100, .int (nI p), .int mw, .int mm, .int (nI (480 * r + 160 * p)), .int (nI (h - 1)), .int (nI (480 * r + 160 * p + i + 1)), .int 6]) 298 dX12_tellsRule_298 rfl (nI_add (480 * r + 160 * p + i) 1) rfl ?_
      refine ev_goto 301 121 dX12_tellsRule_301 rfl ?_
      refine ih (i + 1) (h - 1) (upd f (h - 1 - 1) (twoI (-12) (f (h - 1 - 1)) (f (h - 1)))) (.int 6) _ (by omega) hg2 (by omega) (fun q cc hq => ?_) (fun q hq => ?_) (fun q hq => (uI_ne (by decide)).trans (hnm q hq)) (hD.of (Of.i (E := fun a _ => a = 111) Of.nil rfl) (fun a j q => Or.inl q)) (fun v2 h2 => ?_)
      · rw [Nat.add_assoc i, Nat.add_comm 1 q]; exact hcd (q + 1) cc hq
      · by_cases e : q = h - 1 - 1
        · rw [e, uI_on, pk_us]
        · rw [uI_off (fun z => e z.2), pk_un e]; exact hst q (by omega)
      · have K2 := K v2 h2
        rw [hev] at K2
        exact K2
    · subst hc
      have hgb := hgt_C (by decide) (by decide) hg
      have hg2 := hgb.2
      have hg3 := hgb.1
      have hev := evC_C (nm := nm) (c := -13) (l := l) (h := h) (f := f) (by decide) (by decide)
      refine ev_iload 121 dX12_tellsRule_121 rfl ?_
      refine ev_iload 123 dX12_tellsRule_123 rfl ?_
      refine ev_aload_n 125 dX12_tellsRule_125 rfl (by decide) ?_
      refine gf_12_122 (pc := 126) rfl dX12_tellsRule_126 kd_100 (rf_100_23 hD.1) ?_
      refine ev_iconst 129 dX12_tellsRule_129 kI_3 ?_
      refine ev_aload_n 130 dX12_tellsRule_130 rfl (by decide) ?_
      refine gf_12_86 (x := nI r) (pc := 131) rfl dX12_tellsRule_131 kd_100 ((hD.c (by unfold DcA DcX; omega)).trans hr2) ?_
      refine ev_imul 134 dX12_tellsRule_134 ?_
      refine ev_cst (y := nI (3 * r)) (nI_mulp 3 r) ?_
      refine ev_iload_n 135 dX12_tellsRule_135 rfl ?_
      refine ev_iadd 136 dX12_tellsRule_136 ?_
      refine ev_cst (y := nI (3 * r + p)) (nI_add (3 * r) p) ?_
      refine ev_ialdJ (x := nI E) (j := 3 * r + p) 137 dX12_tellsRule_137 (Nat.le_of_ble_eq_true rfl) ty_109 (pm_inI (by omega) (by omega)) (nI_clamp (by omega)) ((hD.c (by unfold DcA DcX; omega)).trans hE) ?_
      refine ev_iadd 138 dX12_tellsRule_138 ?_
      refine ev_cst (y := nI (480 * r + 160 * p + E)) (nI_add (480 * r + 160 * p) E) ?_
      refine ev_ic_geN (a := (480 * r + 160 * p + i)) (b := (480 * r + 160 * p + E)) 139 304 dX12_tellsRule_139 rfl (by omega) (by omega) (fun c_139 => by omega) (fun c_139 => ?_)
      refine ev_aload_n 142 dX12_tellsRule_142 rfl (by decide) ?_
      refine gf_12_116 (pc := 143) rfl dX12_tellsRule_143 kd_100 (rf_100_21 hD.1) ?_
      refine ev_iload 146 dX12_tellsRule_146 rfl ?_
      refine ev_ialdJ (x := 7) (j := 480 * r + 160 * p + i) 148 dX12_tellsRule_148 (Nat.le_of_ble_eq_true rfl) ty_107 (pm_inI (by omega) (by omega)) (nI_clamp (by omega)) ((hD.c (by unfold DcA DcX; omega)).trans hs) ?_
      refine ev_istore (ls' := [.ref 100, .int (nI p), .int mw, .int mm, .int (nI (480 * r + 160 * p)), .int (nI h), .int (nI (480 * r + 160 * p + i)), .int 7]) 149 dX12_tellsRule_149 (Nat.le_of_ble_eq_true rfl) rfl ?_
      refine ev_iload 151 dX12_tellsRule_151 rfl ?_
      refine ev_ifF 153 162 dX12_tellsRule_153 rfl (by decide) ?_
      refine ev_iload 156 dX12_tellsRule_156 rfl ?_
      refine ev_iconst 158 dX12_tellsRule_158 kI_1 ?_
      refine ev_icT 159 202 dX12_tellsRule_159 rfl (by decide) ?_
      refine ev_iload 202 dX12_tellsRule_202 rfl ?_
      refine ev_iconst 204 dX12_tellsRule_204 kI_4 ?_
      refine ev_icF 205 215 dX12_tellsRule_205 rfl (by decide) ?_
      refine ev_iload 208 dX12_tellsRule_208 rfl ?_
      refine ev_bipush 210 dX12_tellsRule_210 kB_10 ?_
      refine ev_icT 212 264 dX12_tellsRule_212 rfl (by decide) ?_
      refine ev_iinc (y := nI (h - 1)) (ls' := [.ref 100, .int (nI p), .int mw, .int mm, .int (nI (480 * r + 160 * p)), .int (nI (h - 1)), .int (nI (480 * r + 160 * p + i)), .int 7]) 264 dX12_tellsRule_264 rfl (nI_dec (by omega)) rfl ?_
      refine ev_aload_n 267 dX12_tellsRule_267 rfl (by decide) ?_
      refine gf_12_128 (pc := 268) rfl dX12_tellsRule_268 kd_100 (rf_100_25 hD.1) ?_
      refine ev_iload 271 dX12_tellsRule_271 rfl ?_
      refine ev_iconst 273 dX12_tellsRule_273 kI_1 ?_
      refine ev_isub 274 dX12_tellsRule_274 ?_
      refine ev_cst (y := nI (h - 1 - 1)) (pk_sub (a := (h - 1)) (b := 1) (by omega)) ?_
      refine ev_aload_n 275 dX12_tellsRule_275 rfl (by decide) ?_
      refine ev_iload 276 dX12_tellsRule_276 rfl ?_
      refine ev_aload_n 278 dX12_tellsRule_278 rfl (by decide) ?_
      refine gf_12_128 (pc := 279) rfl dX12_tellsRule_279 kd_100 (rf_100_25 hD.1) ?_
      refine ev_iload 282 dX12_tellsRule_282 rfl ?_
      refine ev_iconst 284 dX12_tellsRule_284 kI_1 ?_
      refine ev_isub 285 dX12_tellsRule_285 ?_
      refine ev_cst (y := nI (h - 1 - 1)) (pk_sub (a := (h - 1)) (b := 1) (by omega)) ?_
      refine ev_ialdJ (x := f (h - 1 - 1)) (j := h - 1 - 1) 286 dX12_tellsRule_286 (Nat.le_of_ble_eq_true rfl) ty_111 (pm_inI (by omega) (by omega)) (nI_clamp (by omega)) (hst (h - 1 - 1) (by omega)) ?_
      refine ev_aload_n 287 dX12_tellsRule_287 rfl (by decide) ?_
      refine gf_12_128 (pc := 288) rfl dX12_tellsRule_288 kd_100 (rf_100_25 hD.1) ?_
      refine ev_iload 291 dX12_tellsRule_291 rfl ?_
      refine ev_ialdJ (x := f (h - 1)) (j := h - 1) 293 dX12_tellsRule_293 (Nat.le_of_ble_eq_true rfl) ty_111 (pm_inI (by omega) (by omega)) (nI_clamp (by omega)) (hst (h - 1) (by omega)) ?_
      refine cv_12_273_12 (pc := 294) rfl dX12_tellsRule_294 kd_100 (Nat.le_of_ble_eq_true rfl) ?_
      refine c_X12_done_7 ?_
      refine ev_iastJ (j := h - 1 - 1) 297 dX12_tellsRule_297 (Nat.le_of_ble_eq_true rfl) ty_111 (pm_inI (by omega) (by omega)) (nI_clamp (by omega)) ?_
      refine ev_iinc (y := nI (480 * r + 160 * p + i + 1)) (ls' := [.ref 100, .int (nI p), .int mw, .int mm, .int (nI (480 * r + 160 * p)), .int (nI (h - 1)), .int (nI (480 * r + 160 * p + i + 1)), .int 7]) 298 dX12_tellsRule_298 rfl (nI_add (480 * r + 160 * p + i) 1) rfl ?_
      refine ev_goto 301 121 dX12_tellsRule_301 rfl ?_
      refine ih (i + 1) (h - 1) (upd f (h - 1 - 1) (twoI (-13) (f (h - 1 - 1)) (f (h - 1)))) (.int 7) _ (by omega) hg2 (by omega) (fun q cc hq => ?_) (fun q hq => ?_) (fun q hq => (uI_ne (by decide)).trans (hnm q hq)) (hD.of (Of.i (E := fun a _ => a = 111) Of.nil rfl) (fun a j q => Or.inl q)) (fun v2 h2 => ?_)
      · rw [Nat.add_assoc i, Nat.add_comm 1 q]; exact hcd (q + 1) cc hq
      · by_cases e : q = h - 1 - 1
        · rw [e, uI_on, pk_us]
        · rw [uI_off (fun z => e z.2), pk_un e]; exact hst q (by omega)
      · have K2 := K v2 h2
        rw [hev] at K2
        exact K2
    · subst hc
      have hgb := hgt_C (by decide) (by decide) hg
      have hg2 := hgb.2
      have hg3 := hgb.1
      have hev := evC_C (nm := nm) (c := -14) (l := l) (h := h) (f := f) (by decide) (by decide)
      refine ev_iload 121 dX12_tellsRule_121 rfl ?_
      refine ev_iload 123 dX12_tellsRule_123 rfl ?_
      refine ev_aload_n 125 dX12_tellsRule_125 rfl (by decide) ?_
      refine gf_12_122 (pc := 126) rfl dX12_tellsRule_126 kd_100 (rf_100_23 hD.1) ?_
      refine ev_iconst 129 dX12_tellsRule_129 kI_3 ?_
      refine ev_aload_n 130 dX12_tellsRule_130 rfl (by decide) ?_
      refine gf_12_86 (x := nI r) (pc := 131) rfl dX12_tellsRule_131 kd_100 ((hD.c (by unfold DcA DcX; omega)).trans hr2) ?_
      refine ev_imul 134 dX12_tellsRule_134 ?_
      refine ev_cst (y := nI (3 * r)) (nI_mulp 3 r) ?_
      refine ev_iload_n 135 dX12_tellsRule_135 rfl ?_
      refine ev_iadd 136 dX12_tellsRule_136 ?_
      refine ev_cst (y := nI (3 * r + p)) (nI_add (3 * r) p) ?_
      refine ev_ialdJ (x := nI E) (j := 3 * r + p) 137 dX12_tellsRule_137 (Nat.le_of_ble_eq_true rfl) ty_109 (pm_inI (by omega) (by omega)) (nI_clamp (by omega)) ((hD.c (by unfold DcA DcX; omega)).trans hE) ?_
      refine ev_iadd 138 dX12_tellsRule_138 ?_
      refine ev_cst (y := nI (480 * r + 160 * p + E)) (nI_add (480 * r + 160 * p) E) ?_
      refine ev_ic_geN (a := (480 * r + 160 * p + i)) (b := (480 * r + 160 * p + E)) 139 304 dX12_tellsRule_139 rfl (by omega) (by omega) (fun c_139 => by omega) (fun c_139 => ?_)
      refine ev_aload_n 142 dX12_tellsRule_142 rfl (by decide) ?_
      refine gf_12_116 (pc := 143) rfl dX12_tellsRule_143 kd_100 (rf_100_21 hD.1) ?_
      refine ev_iload 146 dX12_tellsRule_146 rfl ?_
      refine ev_ialdJ (x := 8) (j := 480 * r + 160 * p + i) 148 dX12_tellsRule_148 (Nat.le_of_ble_eq_true rfl) ty_107 (pm_inI (by omega) (by omega)) (nI_clamp (by omega)) ((hD.c (by unfold DcA DcX; omega)).trans hs) ?_
      refine ev_istore (ls' := [.ref 100, .int (nI p), .int mw, .int mm, .int (nI (480 * r + 160 * p)), .int (nI h), .int (nI (480 * r + 160 * p + i)), .int 8]) 149 dX12_tellsRule_149 (Nat.le_of_ble_eq_true rfl) rfl ?_
      refine ev_iload 151 dX12_tellsRule_151 rfl ?_
      refine ev_ifF 153 162 dX12_tellsRule_153 rfl (by decide) ?_
      refine ev_iload 156 dX12_tellsRule_156 rfl ?_
      refine ev_iconst 158 dX12_tellsRule_158 kI_1 ?_
      refine ev_icT 159 202 dX12_tellsRule_159 rfl (by decide) ?_
      refine ev_iload 202 dX12_tellsRule_202 rfl ?_
      refine ev_iconst 204 dX12_tellsRule_204 kI_4 ?_
      refine ev_icF 205 215 dX12_tellsRule_205 rfl (by decide) ?_
      refine ev_iload 208 dX12_tellsRule_208 rfl ?_
      refine ev_bipush 210 dX12_tellsRule_210 kB_10 ?_
      refine ev_icT 212 264 dX12_tellsRule_212 rfl (by decide) ?_
      refine ev_iinc (y := nI (h - 1)) (ls' := [.ref 100, .int (nI p), .int mw, .int mm, .int (nI (480 * r + 160 * p)), .int (nI (h - 1)), .int (nI (480 * r + 160 * p + i)), .int 8]) 264 dX12_tellsRule_264 rfl (nI_dec (by omega)) rfl ?_
      refine ev_aload_n 267 dX12_tellsRule_267 rfl (by decide) ?_
      refine gf_12_128 (pc := 268) rfl dX12_tellsRule_268 kd_100 (rf_100_25 hD.1) ?_
      refine ev_iload 271 dX12_tellsRule_271 rfl ?_
      refine ev_iconst 273 dX12_tellsRule_273 kI_1 ?_
      refine ev_isub 274 dX12_tellsRule_274 ?_
      refine ev_cst (y := nI (h - 1 - 1)) (pk_sub (a := (h - 1)) (b := 1) (by omega)) ?_
      refine ev_aload_n 275 dX12_tellsRule_275 rfl (by decide) ?_
      refine ev_iload 276 dX12_tellsRule_276 rfl ?_
      refine ev_aload_n 278 dX12_tellsRule_278 rfl (by decide) ?_
      refine gf_12_128 (pc := 279) rfl dX12_tellsRule_279 kd_100 (rf_100_25 hD.1) ?_
      refine ev_iload 282 dX12_tellsRule_282 rfl ?_
      refine ev_iconst 284 dX12_tellsRule_284 kI_1 ?_
      refine ev_isub 285 dX12_tellsRule_285 ?_
      refine ev_cst (y := nI (h - 1 - 1)) (pk_sub (a := (h - 1)) (b := 1) (by omega)) ?_
      refine ev_ialdJ (x := f (h - 1 - 1)) (j := h - 1 - 1) 286 dX12_tellsRule_286 (Nat.le_of_ble_eq_true rfl) ty_111 (pm_inI (by omega) (by omega)) (nI_clamp (by omega)) (hst (h - 1 - 1) (by omega)) ?_
      refine ev_aload_n 287 dX12_tellsRule_287 rfl (by decide) ?_
      refine gf_12_128 (pc := 288) rfl dX12_tellsRule_288 kd_100 (rf_100_25 hD.1) ?_
      refine ev_iload 291 dX12_tellsRule_291 rfl ?_
      refine ev_ialdJ (x := f (h - 1)) (j := h - 1) 293 dX12_tellsRule_293 (Nat.le_of_ble_eq_true rfl) ty_111 (pm_inI (by omega) (by omega)) (nI_clamp (by omega)) (hst (h - 1) (by omega)) ?_
      refine cv_12_273_12 (pc := 294) rfl dX12_tellsRule_294 kd_100 (Nat.le_of_ble_eq_true rfl) ?_
      refine c_X12_done_8 ?_
      refine ev_iastJ (j := h - 1 - 1) 297 dX12_tellsRule_297 (Nat.le_of_ble_eq_true rfl) ty_111 (pm_inI (by omega) (by omega)) (nI_clamp (by omega)) ?_
      refine ev_iinc (y := nI (480 * r + 160 * p + i + 1)) (ls' := [.ref 100, .int (nI p), .int mw, .int mm, .int (nI (480 * r + 160 * p)), .int (nI (h - 1)), .int (nI (480 * r + 160 * p + i + 1)), .int 8]) 298 dX12_tellsRule_298 rfl (nI_add (480 * r + 160 * p + i) 1) rfl ?_
      refine ev_goto 301 121 dX12_tellsRule_301 rfl ?_
      refine ih (i + 1) (h - 1) (upd f (h - 1 - 1) (twoI (-14) (f (h - 1 - 1)) (f (h - 1)))) (.int 8) _ (by omega) hg2 (by omega) (fun q cc hq => ?_) (fun q hq => ?_) (fun q hq => (uI_ne (by decide)).trans (hnm q hq)) (hD.of (Of.i (E := fun a _ => a = 111) Of.nil rfl) (fun a j q => Or.inl q)) (fun v2 h2 => ?_)
      · rw [Nat.add_assoc i, Nat.add_comm 1 q]; exact hcd (q + 1) cc hq
      · by_cases e : q = h - 1 - 1
        · rw [e, uI_on, pk_us]
        · rw [uI_off (fun z => e z.2), pk_un e]; exact hst q (by omega)
      · have K2 := K v2 h2
        rw [hev] at K2
        exact K2
    · subst hc
      have hgb := hgt_C (by decide) (by decide) hg
      have hg2 := hgb.2
      have hg3 := hgb.1
      have hev := evC_C (nm := nm) (c := -15) (l := l) (h := h) (f := f) (by decide) (by decide)
      refine ev_iload 121 dX12_tellsRule_121 rfl ?_
      refine ev_iload 123 dX12_tellsRule_123 rfl ?_
      refine ev_aload_n 125 dX12_tellsRule_125 rfl (by decide) ?_
      refine gf_12_122 (pc := 126) rfl dX12_tellsRule_126 kd_100 (rf_100_23 hD.1) ?_
      refine ev_iconst 129 dX12_tellsRule_129 kI_3 ?_
      refine ev_aload_n 130 dX12_tellsRule_130 rfl (by decide) ?_
      refine gf_12_86 (x := nI r) (pc := 131) rfl dX12_tellsRule_131 kd_100 ((hD.c (by unfold DcA DcX; omega)).trans hr2) ?_
      refine ev_imul 134 dX12_tellsRule_134 ?_
      refine ev_cst (y := nI (3 * r)) (nI_mulp 3 r) ?_
      refine ev_iload_n 135 dX12_tellsRule_135 rfl ?_
      refine ev_iadd 136 dX12_tellsRule_136 ?_
      refine ev_cst (y := nI (3 * r + p)) (nI_add (3 * r) p) ?_
      refine ev_ialdJ (x := nI E) (j := 3 * r + p) 137 dX12_tellsRule_137 (Nat.le_of_ble_eq_true rfl) ty_109 (pm_inI (by omega) (by omega)) (nI_clamp (by omega)) ((hD.c (by unfold DcA DcX; omega)).trans hE) ?_
      refine ev_iadd 138 dX12_tellsRule_138 ?_
      refine ev_cst (y := nI (480 * r + 160 * p + E)) (nI_add (480 * r + 160 * p) E) ?_
      refine ev_ic_geN (a := (480 * r + 160 * p + i)) (b := (480 * r + 160 * p + E)) 139 304 dX12_tellsRule_139 rfl (by omega) (by omega) (fun c_139 => by omega) (fun c_139 => ?_)
      refine ev_aload_n 142 dX12_tellsRule_142 rfl (by decide) ?_
      refine gf_12_116 (pc := 143) rfl dX12_tellsRule_143 kd_100 (rf_100_21 hD.1) ?_
      refine ev_iload 146 dX12_tellsRule_146 rfl ?_
      refine ev_ialdJ (x := 9) (j := 480 * r + 160 * p + i) 148 dX12_tellsRule_148 (Nat.le_of_ble_eq_true rfl) ty_107 (pm_inI (by omega) (by omega)) (nI_clamp (by omega)) ((hD.c (by unfold DcA DcX; omega)).trans hs) ?_
      refine ev_istore (ls' := [.ref 100, .int (nI p), .int mw, .int mm, .int (nI (480 * r + 160 * p)), .int (nI h), .int (nI (480 * r + 160 * p + i)), .int 9]) 149 dX12_tellsRule_149 (Nat.le_of_ble_eq_true rfl) rfl ?_
      refine ev_iload 151 dX12_tellsRule_151 rfl ?_
      refine ev_ifF 153 162 dX12_tellsRule_153 rfl (by decide) ?_
      refine ev_iload 156 dX12_tellsRule_156 rfl ?_
      refine ev_iconst 158 dX12_tellsRule_158 kI_1 ?_
      refine ev_icT 159 202 dX12_tellsRule_159 rfl (by decide) ?_
      refine ev_iload 202 dX12_tellsRule_202 rfl ?_
      refine ev_iconst 204 dX12_tellsRule_204 kI_4 ?_
      refine ev_icF 205 215 dX12_tellsRule_205 rfl (by decide) ?_
      refine ev_iload 208 dX12_tellsRule_208 rfl ?_
      refine ev_bipush 210 dX12_tellsRule_210 kB_10 ?_
      refine ev_icT 212 264 dX12_tellsRule_212 rfl (by decide) ?_
      refine ev_iinc (y := nI (h - 1)) (ls' := [.ref 100, .int (nI p), .int mw, .int mm, .int (nI (480 * r + 160 * p)), .int (nI (h - 1)), .int (nI (480 * r + 160 * p + i)), .int 9]) 264 dX12_tellsRule_264 rfl (nI_dec (by omega)) rfl ?_
      refine ev_aload_n 267 dX12_tellsRule_267 rfl (by decide) ?_
      refine gf_12_128 (pc := 268) rfl dX12_tellsRule_268 kd_100 (rf_100_25 hD.1) ?_
      refine ev_iload 271 dX12_tellsRule_271 rfl ?_
      refine ev_iconst 273 dX12_tellsRule_273 kI_1 ?_
      refine ev_isub 274 dX12_tellsRule_274 ?_
      refine ev_cst (y := nI (h - 1 - 1)) (pk_sub (a := (h - 1)) (b := 1) (by omega)) ?_
      refine ev_aload_n 275 dX12_tellsRule_275 rfl (by decide) ?_
      refine ev_iload 276 dX12_tellsRule_276 rfl ?_
      refine ev_aload_n 278 dX12_tellsRule_278 rfl (by decide) ?_
      refine gf_12_128 (pc := 279) rfl dX12_tellsRule_279 kd_100 (rf_100_25 hD.1) ?_
      refine ev_iload 282 dX12_tellsRule_282 rfl ?_
      refine ev_iconst 284 dX12_tellsRule_284 kI_1 ?_
      refine ev_isub 285 dX12_tellsRule_285 ?_
      refine ev_cst (y := nI (h - 1 - 1)) (pk_sub (a := (h - 1)) (b := 1) (by omega)) ?_
      refine ev_ialdJ (x := f (h - 1 - 1)) (j := h - 1 - 1) 286 dX12_tellsRule_286 (Nat.le_of_ble_eq_true rfl) ty_111 (pm_inI (by omega) (by omega)) (nI_clamp (by omega)) (hst (h - 1 - 1) (by omega)) ?_
      refine ev_aload_n 287 dX12_tellsRule_287 rfl (by decide) ?_
      refine gf_12_128 (pc := 288) rfl dX12_tellsRule_288 kd_100 (rf_100_25 hD.1) ?_
      refine ev_iload 291 dX12_tellsRule_291 rfl ?_
      refine ev_ialdJ (x := f (h - 1)) (j := h - 1) 293 dX12_tellsRule_293 (Nat.le_of_ble_eq_true rfl) ty_111 (pm_inI (by omega) (by omega)) (nI_clamp (by omega)) (hst (h - 1) (by omega)) ?_
      refine cv_12_273_12 (pc := 294) rfl dX12_tellsRule_294 kd_100 (Nat.le_of_ble_eq_true rfl) ?_
      refine c_X12_done_9 ?_
      refine ev_iastJ (j := h - 1 - 1) 297 dX12_tellsRule_297 (Nat.le_of_ble_eq_true rfl) ty_111 (pm_inI (by omega) (by omega)) (nI_clamp (by omega)) ?_
      refine ev_iinc (y := nI (480 * r + 160 * p + i + 1)) (ls' := [.ref 100, .int (nI p), .int mw, .int mm, .int (nI (480 * r + 160 * p)), .int (nI (h - 1)), .int (nI (480 * r + 160 * p + i + 1)), .int 9]) 298 dX12_tellsRule_298 rfl (nI_add (480 * r + 160 * p + i) 1) rfl ?_
      refine ev_goto 301 121 dX12_tellsRule_301 rfl ?_
      refine ih (i + 1) (h - 1) (upd f (h - 1 - 1) (twoI (-15) (f (h - 1 - 1)) (f (h - 1)))) (.int 9) _ (by omega) hg2 (by omega) (fun q cc hq => ?_) (fun q hq => ?_) (fun q hq => (uI_ne (by decide)).trans (hnm q hq)) (hD.of (Of.i (E := fun a _ => a = 111) Of.nil rfl) (fun a j q => Or.inl q)) (fun v2 h2 => ?_)
      · rw [Nat.add_assoc i, Nat.add_comm 1 q]; exact hcd (q + 1) cc hq
      · by_cases e : q = h - 1 - 1
        · rw [e, uI_on, pk_us]
        · rw [uI_off (fun z => e z.2), pk_un e]; exact hst q (by omega)
      · have K2 := K v2 h2
        rw [hev] at K2
        exact K2
theorem c_X12_tellsRule {X : pmX} {d : Nat} {v : pmV} {P : Option Value → pmT → pmV → Prop} {LT : pmT} {e : pmV} {n tx z r : Nat} {g : Nat → Int32} {s : dT} {p : Int64} {k0 w : Nat} {m : Int32} (hC : Cpl n tx z LT e) (hr : r < tx) (hr2 : e.1 100 11 = nI r) (hD : DM e n g s p v) (hw : w < 2) (hk : k0 < 3) (hcnt : s 2 w = pCn s (nI w) n) (k : ∀ v', DM e n g s p v' → P (some (.int (pVal e r s k0 w m))) (pmT0 ++ LT) v') : EvP X (d + 1) MX12_tellsRule 0 [.ref 100, .int (nI k0), .int (nI w), .int m, pmJ, pmJ, pmJ, pmJ] [] (pmT0 ++ LT) v P := by
  have hn8 := hC.2.1.1
  have ht6 := hC.2.2.2.2.2.1.2.1
  refine ev_aload_n 0 dX12_tellsRule_0 rfl (by decide) ?_
  refine gf_12_131 (pc := 1) rfl dX12_tellsRule_1 kd_100 (rf_100_26 hD.1) ?_
  refine ev_iconst 4 dX12_tellsRule_4 kI_0 ?_
  refine ev_aload_n 5 dX12_tellsRule_5 rfl (by decide) ?_
  refine gf_12_134 (pc := 6) rfl dX12_tellsRule_6 kd_100 (rf_100_27 hD.1) ?_
  refine ev_iload_n 9 dX12_tellsRule_9 rfl ?_
  refine ev_ialdJ (x := s 0 w) (j := w) 10 dX12_tellsRule_10 (Nat.le_of_ble_eq_true rfl) ty_113 (pm_inI (by omega) (by omega)) (nI_clamp (by omega)) (hD.r0 (by omega)) ?_
  refine ev_iastJ (j := 0) 11 dX12_tellsRule_11 (Nat.le_of_ble_eq_true rfl) ty_112 (by decide) rfl ?_
  refine ev_aload_n 12 dX12_tellsRule_12 rfl (by decide) ?_
  refine gf_12_131 (pc := 13) rfl dX12_tellsRule_13 kd_100 (rf_100_26 hD.1) ?_
  refine ev_iconst 16 dX12_tellsRule_16 kI_1 ?_
  refine ev_iconst 17 dX12_tellsRule_17 kI_0 ?_
  refine ev_iastJ (j := 1) 18 dX12_tellsRule_18 (Nat.le_of_ble_eq_true rfl) ty_112 (by decide) rfl ?_
  refine ev_iconst 19 dX12_tellsRule_19 kI_0 ?_
  refine ev_istore (ls' := [.ref 100, .int (nI k0), .int (nI w), .int m, .int 0, pmJ, pmJ, pmJ]) 20 dX12_tellsRule_20 (Nat.le_of_ble_eq_true rfl) rfl ?_
  refine lp_tcnt (s := s) (w := w) (c0 := s 0 w) hC hw n 0 _ (by omega) (hD.of (Of.i (E := fun a _ => a = 112) (Of.i (E := fun a _ => a = 112) Of.nil rfl) rfl) (fun a j q => Or.inr q)) ((uI_off (by decide)).trans uI_on) uI_on (fun v1 hD h0 h1 => ?_)
  refine ev_aload_n 62 dX12_tellsRule_62 rfl (by decide) ?_
  refine gf_12_131 (pc := 63) rfl dX12_tellsRule_63 kd_100 (rf_100_26 hD.1) ?_
  refine ev_iconst 66 dX12_tellsRule_66 kI_2 ?_
  refine ev_iload_n 67 dX12_tellsRule_67 rfl ?_
  refine ev_iastJ (j := 2) 68 dX12_tellsRule_68 (Nat.le_of_ble_eq_true rfl) ty_112 (by decide) rfl ?_
  refine ev_aload_n 69 dX12_tellsRule_69 rfl (by decide) ?_
  refine gf_12_131 (pc := 70) rfl dX12_tellsRule_70 kd_100 (rf_100_26 hD.1) ?_
  refine ev_iconst 73 dX12_tellsRule_73 kI_3 ?_
  refine ev_iload_n 74 dX12_tellsRule_74 rfl ?_
  refine ev_iastJ (j := 3) 75 dX12_tellsRule_75 (Nat.le_of_ble_eq_true rfl) ty_112 (by decide) rfl ?_
  refine ev_aload_n 76 dX12_tellsRule_76 rfl (by decide) ?_
  refine gf_12_131 (pc := 77) rfl dX12_tellsRule_77 kd_100 (rf_100_26 hD.1) ?_
  refine ev_iconst 80 dX12_tellsRule_80 kI_4 ?_
  refine ev_aload_n 81 dX12_tellsRule_81 rfl (by decide) ?_
  refine gf_12_137 (pc := 82) rfl dX12_tellsRule_82 kd_100 (rf_100_28 hD.1) ?_
  refine ev_iload_n 85 dX12_tellsRule_85 rfl ?_
  refine ev_ialdJ (x := s 1 w) (j := w) 86 dX12_tellsRule_86 (Nat.le_of_ble_eq_true rfl) ty_114 (pm_inI (by omega) (by omega)) (nI_clamp (by omega)) ((uI_ne (by decide)).trans ((uI_ne (by decide)).trans (hD.r1 (by omega)))) ?_
  refine ev_iastJ (j := 4) 87 dX12_tellsRule_87 (Nat.le_of_ble_eq_true rfl) ty_112 (by decide) rfl ?_
  refine ev_aload_n 88 dX12_tellsRule_88 rfl (by decide) ?_
  refine gf_12_131 (pc := 89) rfl dX12_tellsRule_89 kd_100 (rf_100_26 hD.1) ?_
  refine ev_iconst 92 dX12_tellsRule_92 kI_5 ?_
  refine ev_aload_n 93 dX12_tellsRule_93 rfl (by decide) ?_
  refine gf_12_28 (x := e.1 34 2) (pc := 94) rfl dX12_tellsRule_94 kd_100 ((uI_ne (by decide)).trans ((uI_ne (by decide)).trans ((uI_ne (by decide)).trans ((hD.c (by unfold DcA DcX; omega)).trans hC.2.2.1.2.2.1.1)))) ?_
  refine ev_iastJ (j := 5) 97 dX12_tellsRule_97 (Nat.le_of_ble_eq_true rfl) ty_112 (by decide) rfl ?_
  refine ev_sipush 98 dX12_tellsRule_98 kS_480 ?_
  refine ev_aload_n 101 dX12_tellsRule_101 rfl (by decide) ?_
  refine gf_12_86 (x := nI r) (pc := 102) rfl dX12_tellsRule_102 kd_100 ((uI_ne (by decide)).trans ((uI_ne (by decide)).trans ((uI_ne (by decide)).trans ((uI_ne (by decide)).trans ((hD.c (by unfold DcA DcX; omega)).trans hr2))))) ?_
  refine ev_imul 105 dX12_tellsRule_105 ?_
  refine ev_cst (y := nI (480 * r)) (nI_mulp 480 r) ?_
  refine ev_sipush 106 dX12_tellsRule_106 kS_160 ?_
  refine ev_iload_n 109 dX12_tellsRule_109 rfl ?_
  refine ev_imul 110 dX12_tellsRule_110 ?_
  refine ev_cst (y := nI (160 * k0)) (nI_mulp 160 k0) ?_
  refine ev_iadd 111 dX12_tellsRule_111 ?_
  refine ev_cst (y := nI (480 * r + 160 * k0)) (nI_add (480 * r) (160 * k0)) ?_
  refine ev_istore (ls' := [.ref 100, .int (nI k0), .int (nI w), .int m, .int (nI (480 * r + 160 * k0)), pmJ, pmJ, pmJ]) 112 dX12_tellsRule_112 (Nat.le_of_ble_eq_true rfl) rfl ?_
  refine ev_iconst 114 dX12_tellsRule_114 kI_0 ?_
  refine ev_istore (ls' := [.ref 100, .int (nI k0), .int (nI w), .int m, .int (nI (480 * r + 160 * k0)), .int 0, pmJ, pmJ]) 115 dX12_tellsRule_115 (Nat.le_of_ble_eq_true rfl) rfl ?_
  refine ev_iload 117 dX12_tellsRule_117 rfl ?_
  refine ev_istore (ls' := [.ref 100, .int (nI k0), .int (nI w), .int m, .int (nI (480 * r + 160 * k0)), .int 0, .int (nI (480 * r + 160 * k0)), pmJ]) 119 dX12_tellsRule_119 (Nat.le_of_ble_eq_true rfl) rfl ?_
  have hT := hC.2.2.2.2.2.1.2.2.2.2 r hr
  have h5 := tx_len (v := e) (r := r) (p := k0)
  obtain ⟨t1, t2, t3, t4, t5, _⟩ := hT k0 hk
  refine lp_tval (r := r) (p := k0) (nm := pNm e s w m) hC (by omega) hr2 hk (E := txE r k0 e - txB r k0 e) (by omega) t4 (txC r k0 e) 0 0 (fun _ => 0) pmJ _ (by omega) t5 (by omega) (fun q c hq => by rw [Nat.zero_add]; exact tx_rel hT hk q c hq) (fun q hq => absurd hq (by omega)) (fun q hq => ?_) (hD.of (Of.i (E := fun a _ => a = 112) (Of.i (E := fun a _ => a = 112) (Of.i (E := fun a _ => a = 112) (Of.i (E := fun a _ => a = 112) Of.nil rfl) rfl) rfl) rfl) (fun a j q => Or.inr q)) k
  have : q = 0 ∨ q = 1 ∨ q = 2 ∨ q = 3 ∨ q = 4 ∨ q = 5 := by omega
  rcases this with rfl | rfl | rfl | rfl | rfl | rfl
  · rw [uI_off (by decide), uI_off (by decide), uI_off (by decide), uI_off (by decide), h0]; rfl
  · rw [uI_off (by decide), uI_off (by decide), uI_off (by decide), uI_off (by decide), h1, ← hcnt]; rfl
  all_goals simp [uI, pNm]

