/-! come, told, taken -/
theorem c_X11_come_1 {X : pmX} {d : Nat} {v : pmV} {P : Option Value → pmT → pmV → Prop} {LT : pmT} {a b : Int32} (hX : pmRf v) (hb : ¬ (0 ≤ b ∧ b ≤ 3)) (k : P (some (.int (-2))) (pmT0 ++ LT) v) : EvP X (d + 2) MX11_come 0 [.ref 32, .int a, .int b, pmJ, pmJ] [] (pmT0 ++ LT) v P := by
  refine ev_aload_n 0 dX11_come_0 rfl (by decide) ?_
  refine ev_iload_n 1 dX11_come_1 rfl ?_
  refine cv_11_100_11 (pc := 2) rfl dX11_come_2 kd_32 (Nat.le_of_ble_eq_true rfl) ?_
  refine c_X11_sheetOf hX (fun t ht hq => absurd (show 0 ≤ b ∧ b ≤ 3 from hq ▸ ⟨nI_pos' (by omega), nI_le (a := t) (b := 3) (by omega) (by omega)⟩) hb) (fun _ => ?_)
  refine ev_astore_nN (ls' := [.ref 32, .int a, .int b, .null, pmJ]) 5 dX11_come_5 (Nat.le_of_ble_eq_true rfl) rfl ?_
  refine ev_iload_n 6 dX11_come_6 rfl ?_
  refine ev_iconst 7 dX11_come_7 kI_0 ?_
  refine ev_iconst 8 dX11_come_8 kI_1 ?_
  refine cs_11_74 (pc := 9) rfl dX11_come_9 (Nat.le_of_ble_eq_true rfl) ?_
  refine c_X11_isIn (fun h_9 => ?_) (fun h_9 => ?_)
  · refine ev_ifF 12 19 dX11_come_12 rfl (by decide) ?_
    refine ev_aload_nN 15 dX11_come_15 rfl ?_
    refine ev_ifnonnullN 16 dX11_come_16 ?_
    refine ev_bipush 19 dX11_come_19 kB_m2 ?_
    refine ev_ireturn 21 dX11_come_21 rfl rfl ?_
    exact k
  · refine ev_ifT 12 19 dX11_come_12 rfl (by decide) ?_
    refine ev_bipush 19 dX11_come_19 kB_m2 ?_
    refine ev_ireturn 21 dX11_come_21 rfl rfl ?_
    exact k

theorem c_X11_come_2 {X : pmX} {d : Nat} {v : pmV} {P : Option Value → pmT → pmV → Prop} {LT : pmT} {a : Int32} {t : Nat} (hX : pmRf v) (ht : t < 4) (ha : ¬ (0 ≤ a ∧ a ≤ 1)) (k : P (some (.int (-2))) (pmT0 ++ LT) v) : EvP X (d + 2) MX11_come 0 [.ref 32, .int a, .int (nI t), pmJ, pmJ] [] (pmT0 ++ LT) v P := by
  refine ev_aload_n 0 dX11_come_0 rfl (by decide) ?_
  refine ev_iload_n 1 dX11_come_1 rfl ?_
  refine cv_11_100_11 (pc := 2) rfl dX11_come_2 kd_32 (Nat.le_of_ble_eq_true rfl) ?_
  refine c_X11_sheetOf hX (fun u hu hq => ?_) (fun hq => absurd ⟨nI_pos' (by omega), nI_le (a := t) (b := 3) (by omega) (by omega)⟩ hq)
  obtain rfl : t = u := (nI_eq (by omega) (by omega)).mp hq
  refine ev_astore_n (ls' := [.ref 32, .int a, .int (nI t), .ref (92 + 2 * t), pmJ]) 5 dX11_come_5 (Nat.le_of_ble_eq_true rfl) (by omega) rfl ?_
  refine ev_iload_n 6 dX11_come_6 rfl ?_
  refine ev_iconst 7 dX11_come_7 kI_0 ?_
  refine ev_iconst 8 dX11_come_8 kI_1 ?_
  refine cs_11_74 (pc := 9) rfl dX11_come_9 (Nat.le_of_ble_eq_true rfl) ?_
  refine c_X11_isIn (fun h_9 => absurd h_9 ha) (fun h_9 => ?_)
  refine ev_ifT 12 19 dX11_come_12 rfl (by decide) ?_
  refine ev_bipush 19 dX11_come_19 kB_m2 ?_
  refine ev_ireturn 21 dX11_come_21 rfl rfl ?_
  exact k

theorem c_X11_come_3 {X : pmX} {d : Nat} {v : pmV} {P : Option Value → pmT → pmV → Prop} {LT : pmT} {a : Int32} {t : Nat} (hX : pmRf v) (ht : t < 4) (ha : 0 ≤ a ∧ a ≤ 1) (h2 : v.1 (92 + 2 * t) 0 = -1) (k : P (some (.int (-11))) (pmT0 ++ LT) v) : EvP X (d + 2) MX11_come 0 [.ref 32, .int a, .int (nI t), pmJ, pmJ] [] (pmT0 ++ LT) v P := by
  refine ev_aload_n 0 dX11_come_0 rfl (by decide) ?_
  refine ev_iload_n 1 dX11_come_1 rfl ?_
  refine cv_11_100_11 (pc := 2) rfl dX11_come_2 kd_32 (Nat.le_of_ble_eq_true rfl) ?_
  refine c_X11_sheetOf hX (fun u hu hq => ?_) (fun hq => absurd ⟨nI_pos' (by omega), nI_le (a := t) (b := 3) (by omega) (by omega)⟩ hq)
  obtain rfl : t = u := (nI_eq (by omega) (by omega)).mp hq
  refine ev_astore_n (ls' := [.ref 32, .int a, .int (nI t), .ref (92 + 2 * t), pmJ]) 5 dX11_come_5 (Nat.le_of_ble_eq_true rfl) (by omega) rfl ?_
  refine ev_iload_n 6 dX11_come_6 rfl ?_
  refine ev_iconst 7 dX11_come_7 kI_0 ?_
  refine ev_iconst 8 dX11_come_8 kI_1 ?_
  refine cs_11_74 (pc := 9) rfl dX11_come_9 (Nat.le_of_ble_eq_true rfl) ?_
  refine c_X11_isIn (fun h_9 => ?_) (fun h_9 => absurd ha h_9)
  refine ev_ifF 12 19 dX11_come_12 rfl (by decide) ?_
  refine ev_aload_n 15 dX11_come_15 rfl (by omega) ?_
  refine ev_ifnonnull 16 22 dX11_come_16 (by omega) rfl ?_
  refine ev_aload_n 22 dX11_come_22 rfl (by omega) ?_
  refine cv_11_104_6 (pc := 23) rfl dX11_come_23 (kd_sheet (by omega)) (Nat.le_of_ble_eq_true rfl) ?_
  refine c_X6_isMissing ht (fun _ => ?_) (fun h_m => absurd h2 h_m)
  refine ev_ifF 26 32 dX11_come_26 rfl (by decide) ?_
  refine ev_bipush 29 dX11_come_29 kB_m11 ?_
  refine ev_ireturn 31 dX11_come_31 rfl rfl ?_
  exact k

/-- as far as a sheet's numbers are comers -/
theorem come_stop (f : Nat → Int32) (q : Nat) : ∃ M, M ≤ q ∧ (∀ j, j < M → 0 ≤ f j ∧ f j ≤ 99) ∧ (M = q ∨ ¬ (0 ≤ f M ∧ f M ≤ 99)) := by
  induction q with
  | zero => exact ⟨0, by omega, fun j hj => absurd hj (by omega), Or.inl rfl⟩
  | succ q ih =>
    obtain ⟨M, h1, h2, h3⟩ := ih
    rcases h3 with rfl | h3
    · by_cases h : 0 ≤ f M ∧ f M ≤ 99
      · refine ⟨M + 1, by omega, fun j hj => ?_, Or.inl rfl⟩
        by_cases e : j = M
        · rw [e]; exact h
        · exact h2 j (by omega)
      · exact ⟨M, by omega, h2, Or.inr h⟩
    · exact ⟨M, by omega, h2, Or.inr h3⟩
theorem lp_come {X : pmX} {d : Nat} {P : Option Value → pmT → pmV → Prop} {LT : pmT} {e : pmV} {n tx z w t q M : Nat} (hC : Cpl n tx z LT e) (hw : w < 2) (ht : t < 4) (hq60 : q ≤ 60) (hsq : e.1 (92 + 2 * t) 1 = nI q) (hM : M ≤ q) (hok : ∀ j, j < M → 0 ≤ e.1 (93 + 2 * t) j ∧ e.1 (93 + 2 * t) j ≤ 99) (hst : M = q ∨ ¬ (0 ≤ e.1 (93 + 2 * t) M ∧ e.1 (93 + 2 * t) M ≤ 99))  : ∀ (k : Nat) (i : Nat) (v : pmV), i + k = M → Wr e v 35 (60 * w) (60 * w + i) (fun j => e.1 (93 + 2 * t) (j - 60 * w)) → (∀ v', Wr e v' 35 (60 * w) (60 * w + M) (fun j => e.1 (93 + 2 * t) (j - 60 * w)) → P (some (.int (nI M))) (pmT0 ++ LT) v') → EvP X (d + 2) MX11_come 35 [.ref 32, .int (nI w), .int (nI t), .ref (92 + 2 * t), .int (nI i)] [] (pmT0 ++ LT) v P := by
  intro k
  induction k with
  | zero =>
    intro i v hi hWr K
    have hi2 : M = i := by omega
    subst hi2
    have hX : pmRf v := hC.1.ag (congrArg Prod.snd hWr.1)
    have hsz : v.1 (92 + 2 * t) 1 = nI q := (hWr.off (by omega)).trans hsq
    have hit : ∀ j, j < 60 → v.1 (93 + 2 * t) j = e.1 (93 + 2 * t) j := fun j _ => hWr.off (by omega)
    refine ev_iload 35 dX11_come_35 rfl ?_
    refine ev_bipush 37 dX11_come_37 kB_60 ?_
    refine ev_ic_geN (a := M) (b := 60) 39 92 dX11_come_39 rfl (by omega) (by omega) (fun c_39 => ?_) (fun c_39 => ?_)
    · refine ev_iload 92 dX11_come_92 rfl ?_
      refine ev_ireturn 94 dX11_come_94 rfl rfl ?_
      exact K v hWr
    · refine ev_aload_n 42 dX11_come_42 rfl (by omega) ?_
      refine ev_iload 43 dX11_come_43 rfl ?_
      refine cv_11_108_6 (pc := 45) rfl dX11_come_45 (kd_sheet (by omega)) (Nat.le_of_ble_eq_true rfl) ?_
      refine c_X6_has (x := nI M) ht (fun h_has => ?_) (fun h_has => ?_)
      · have hlt : M < q := by rw [hsz] at h_has; exact (nI_ltI (by omega) (by omega)).mp h_has.2
        refine ev_ifF 48 92 dX11_come_48 rfl (by decide) ?_
        refine ev_aload_n 51 dX11_come_51 rfl (by omega) ?_
        refine ev_iload 52 dX11_come_52 rfl ?_
        refine cv_11_112_6 (pc := 54) rfl dX11_come_54 (kd_sheet (by omega)) (Nat.le_of_ble_eq_true rfl) ?_
        refine c_X6_at (q := q) ht hX hsz hq60 (fun j hj hx => ?_) (fun hx => absurd (show 0 ≤ nI M ∧ nI M < nI q from ⟨nI_pos' (by omega), nI_lt (by omega) (by omega)⟩) hx)
        obtain rfl : M = j := (nI_eq (by omega) (by omega)).mp hx
        refine ev_cst (y := e.1 (93 + 2 * t) M) (hit M (by omega)) ?_
        refine ev_iconst 57 dX11_come_57 kI_0 ?_
        refine ev_bipush 58 dX11_come_58 kB_99 ?_
        refine cs_11_74 (pc := 60) rfl dX11_come_60 (Nat.le_of_ble_eq_true rfl) ?_
        refine c_X11_isIn (fun h_60 => ?_) (fun h_60 => ?_)
        · exact absurd h_60 (hst.resolve_left (by omega))
        · refine ev_ifT 63 92 dX11_come_63 rfl (by decide) ?_
          refine ev_iload 92 dX11_come_92 rfl ?_
          refine ev_ireturn 94 dX11_come_94 rfl rfl ?_
          exact K v hWr
      · refine ev_ifT 48 92 dX11_come_48 rfl (by decide) ?_
        refine ev_iload 92 dX11_come_92 rfl ?_
        refine ev_ireturn 94 dX11_come_94 rfl rfl ?_
        exact K v hWr
  | succ k ih =>
    intro i v hi hWr K
    have hX : pmRf v := hC.1.ag (congrArg Prod.snd hWr.1)
    have hsz : v.1 (92 + 2 * t) 1 = nI q := (hWr.off (by omega)).trans hsq
    have hit : ∀ j, j < 60 → v.1 (93 + 2 * t) j = e.1 (93 + 2 * t) j := fun j _ => hWr.off (by omega)
    refine ev_iload 35 dX11_come_35 rfl ?_
    refine ev_bipush 37 dX11_come_37 kB_60 ?_
    refine ev_ic_geN (a := i) (b := 60) 39 92 dX11_come_39 rfl (by omega) (by omega) (fun c_39 => by omega) (fun c_39 => ?_)
    refine ev_aload_n 42 dX11_come_42 rfl (by omega) ?_
    refine ev_iload 43 dX11_come_43 rfl ?_
    refine cv_11_108_6 (pc := 45) rfl dX11_come_45 (kd_sheet (by omega)) (Nat.le_of_ble_eq_true rfl) ?_
    refine c_X6_has (x := nI i) ht (fun _ => ?_) (fun h_has => absurd (show 0 ≤ nI i ∧ nI i < v.1 (92 + 2 * t) 1 from ⟨nI_pos' (by omega), by rw [hsz]; exact nI_lt (by omega) (by omega)⟩) h_has)
    refine ev_ifF 48 92 dX11_come_48 rfl (by decide) ?_
    refine ev_aload_n 51 dX11_come_51 rfl (by omega) ?_
    refine ev_iload 52 dX11_come_52 rfl ?_
    refine cv_11_112_6 (pc := 54) rfl dX11_come_54 (kd_sheet (by omega)) (Nat.le_of_ble_eq_true rfl) ?_
    refine c_X6_at (q := q) ht hX hsz hq60 (fun j hj hx => ?_) (fun hx => absurd (show 0 ≤ nI i ∧ nI i < nI q from ⟨nI_pos' (by omega), nI_lt (by omega) (by omega)⟩) hx)
    obtain rfl : i = j := (nI_eq (by omega) (by omega)).mp hx
    refine ev_cst (y := e.1 (93 + 2 * t) i) (hit i (by omega)) ?_
    refine ev_iconst 57 dX11_come_57 kI_0 ?_
    refine ev_bipush 58 dX11_come_58 kB_99 ?_
    refine cs_11_74 (pc := 60) rfl dX11_come_60 (Nat.le_of_ble_eq_true rfl) ?_
    refine c_X11_isIn (fun h_60 => ?_) (fun h_60 => absurd (hok i (by omega)) h_60)
    refine ev_ifF 63 92 dX11_come_63 rfl (by decide) ?_
    refine ev_aload_n 66 dX11_come_66 rfl (by decide) ?_
    refine gf_11_18 (pc := 67) rfl dX11_come_67 kd_32 (rf_32_2 hX) ?_
    refine gf_11_89 (pc := 70) rfl dX11_come_70 kd_34 (rf_34_0 hX) ?_
    refine ev_iload_n 73 dX11_come_73 rfl ?_
    refine ev_iload 74 dX11_come_74 rfl ?_
    refine cs_11_96 (pc := 76) rfl dX11_come_76 (Nat.le_of_ble_eq_true rfl) ?_
    refine c_X11_placeOf ?_
    refine ev_cst (y := nI (w * 60 + i)) (nI_place w i) ?_
    refine ev_aload_n 79 dX11_come_79 rfl (by omega) ?_
    refine ev_iload 80 dX11_come_80 rfl ?_
    refine cv_11_112_6 (pc := 82) rfl dX11_come_82 (kd_sheet (by omega)) (Nat.le_of_ble_eq_true rfl) ?_
    refine c_X6_at (q := q) ht hX hsz hq60 (fun j hj hx => ?_) (fun hx => absurd (show 0 ≤ nI i ∧ nI i < nI q from ⟨nI_pos' (by omega), nI_lt (by omega) (by omega)⟩) hx)
    obtain rfl : i = j := (nI_eq (by omega) (by omega)).mp hx
    refine ev_cst (y := e.1 (93 + 2 * t) i) (hit i (by omega)) ?_
    refine ev_iastJ (j := w * 60 + i) 85 dX11_come_85 (Nat.le_of_ble_eq_true rfl) ty_35 (pm_inI (by omega) (by omega)) (nI_clamp (by omega)) ?_
    refine ev_iinc (y := nI (i + 1)) (ls' := [.ref 32, .int (nI w), .int (nI t), .ref (92 + 2 * t), .int (nI (i + 1))]) 86 dX11_come_86 rfl (nI_add i 1) rfl ?_
    refine ev_goto 89 35 dX11_come_89 rfl ?_
    refine ih (i + 1) _ (by omega) (hWr.cat (m := 60 * w + i) ?_ (by omega) (by omega)) K
    rw [show w * 60 + i = 60 * w + i by omega]
    exact (Wr.one _ _ _ _).cg fun j h1 h2 => by rw [show j - 60 * w = i by omega]

theorem c_X11_come_ok {X : pmX} {d : Nat} {v : pmV} {P : Option Value → pmT → pmV → Prop} {LT : pmT} {n tx z w t q M : Nat} (hC : Cpl n tx z LT v) (hw : w < 2) (ht : t < 4) (hq60 : q ≤ 60) (hsq : v.1 (92 + 2 * t) 1 = nI q) (hM : M ≤ q) (hok : ∀ j, j < M → 0 ≤ v.1 (93 + 2 * t) j ∧ v.1 (93 + 2 * t) j ≤ 99) (hst : M = q ∨ ¬ (0 ≤ v.1 (93 + 2 * t) M ∧ v.1 (93 + 2 * t) M ≤ 99)) (ha : 0 ≤ nI w ∧ nI w ≤ 1) (h2 : ¬ v.1 (92 + 2 * t) 0 = -1) (k : ∀ v', Wr v v' 35 (60 * w) (60 * w + M) (fun j => v.1 (93 + 2 * t) (j - 60 * w)) → P (some (.int (nI M))) (pmT0 ++ LT) v') : EvP X (d + 2) MX11_come 0 [.ref 32, .int (nI w), .int (nI t), pmJ, pmJ] [] (pmT0 ++ LT) v P := by
  have hX := hC.1
  refine ev_aload_n 0 dX11_come_0 rfl (by decide) ?_
  refine ev_iload_n 1 dX11_come_1 rfl ?_
  refine cv_11_100_11 (pc := 2) rfl dX11_come_2 kd_32 (Nat.le_of_ble_eq_true rfl) ?_
  refine c_X11_sheetOf hX (fun u hu hq => ?_) (fun hq => absurd ⟨nI_pos' (by omega), nI_le (a := t) (b := 3) (by omega) (by omega)⟩ hq)
  obtain rfl : t = u := (nI_eq (by omega) (by omega)).mp hq
  refine ev_astore_n (ls' := [.ref 32, .int (nI w), .int (nI t), .ref (92 + 2 * t), pmJ]) 5 dX11_come_5 (Nat.le_of_ble_eq_true rfl) (by omega) rfl ?_
  refine ev_iload_n 6 dX11_come_6 rfl ?_
  refine ev_iconst 7 dX11_come_7 kI_0 ?_
  refine ev_iconst 8 dX11_come_8 kI_1 ?_
  refine cs_11_74 (pc := 9) rfl dX11_come_9 (Nat.le_of_ble_eq_true rfl) ?_
  refine c_X11_isIn (fun h_9 => ?_) (fun h_9 => absurd ha h_9)
  refine ev_ifF 12 19 dX11_come_12 rfl (by decide) ?_
  refine ev_aload_n 15 dX11_come_15 rfl (by omega) ?_
  refine ev_ifnonnull 16 22 dX11_come_16 (by omega) rfl ?_
  refine ev_aload_n 22 dX11_come_22 rfl (by omega) ?_
  refine cv_11_104_6 (pc := 23) rfl dX11_come_23 (kd_sheet (by omega)) (Nat.le_of_ble_eq_true rfl) ?_
  refine c_X6_isMissing ht (fun h_m => absurd h_m h2) (fun _ => ?_)
  refine ev_ifT 26 32 dX11_come_26 rfl (by decide) ?_
  refine ev_iconst 32 dX11_come_32 kI_0 ?_
  refine ev_istore (ls' := [.ref 32, .int (nI w), .int (nI t), .ref (92 + 2 * t), .int 0]) 33 dX11_come_33 (Nat.le_of_ble_eq_true rfl) rfl ?_
  exact lp_come hC hw ht hq60 hsq hM hok hst M 0 v (by omega) (Wr.nil v 35 _ _) k

theorem c_X12_come_1 {X : pmX} {d : Nat} {v : pmV} {P : Option Value → pmT → pmV → Prop} {LT : pmT} {a b : Int32} (ha : ¬ (0 ≤ a ∧ a ≤ 1)) (k : P (some (.int (-2))) (pmT0 ++ LT) v) : EvP X (d + 2) MX12_come 0 [.ref 100, .int a, .int b, pmJ] [] (pmT0 ++ LT) v P := by
  refine ev_aload_n 0 dX12_come_0 rfl (by decide) ?_
  refine ev_iload_n 1 dX12_come_1 rfl ?_
  refine ev_iconst 2 dX12_come_2 kI_0 ?_
  refine ev_iconst 3 dX12_come_3 kI_1 ?_
  refine cv_12_7_12 (pc := 4) rfl dX12_come_4 kd_100 (Nat.le_of_ble_eq_true rfl) ?_
  refine c_X12_in (fun h_4 => absurd h_4 ha) (fun h_4 => ?_)
  refine ev_ifT 7 18 dX12_come_7 rfl (by decide) ?_
  refine ev_bipush 18 dX12_come_18 kB_m2 ?_
  refine ev_ireturn 20 dX12_come_20 rfl rfl ?_
  exact k

theorem c_X12_come_2 {X : pmX} {d : Nat} {v : pmV} {P : Option Value → pmT → pmV → Prop} {LT : pmT} {a b : Int32} (ha : 0 ≤ a ∧ a ≤ 1) (hb : ¬ (0 ≤ b ∧ b ≤ 3)) (k : P (some (.int (-2))) (pmT0 ++ LT) v) : EvP X (d + 2) MX12_come 0 [.ref 100, .int a, .int b, pmJ] [] (pmT0 ++ LT) v P := by
  refine ev_aload_n 0 dX12_come_0 rfl (by decide) ?_
  refine ev_iload_n 1 dX12_come_1 rfl ?_
  refine ev_iconst 2 dX12_come_2 kI_0 ?_
  refine ev_iconst 3 dX12_come_3 kI_1 ?_
  refine cv_12_7_12 (pc := 4) rfl dX12_come_4 kd_100 (Nat.le_of_ble_eq_true rfl) ?_
  refine c_X12_in (fun h_4 => ?_) (fun h_4 => absurd ha h_4)
  refine ev_ifF 7 18 dX12_come_7 rfl (by decide) ?_
  refine ev_aload_n 10 dX12_come_10 rfl (by decide) ?_
  refine ev_iload_n 11 dX12_come_11 rfl ?_
  refine cv_12_37_12 (pc := 12) rfl dX12_come_12 kd_100 (Nat.le_of_ble_eq_true rfl) ?_
  refine c_X12_isSheet (fun h_12 => absurd h_12 hb) (fun h_12 => ?_)
  refine ev_ifF 15 21 dX12_come_15 rfl (by decide) ?_
  refine ev_bipush 18 dX12_come_18 kB_m2 ?_
  refine ev_ireturn 20 dX12_come_20 rfl rfl ?_
  exact k

theorem c_X12_come_3 {X : pmX} {d : Nat} {v : pmV} {P : Option Value → pmT → pmV → Prop} {LT : pmT} {a : Int32} {t : Nat} (hX : pmRf v) (ht : t < 4) (ha : 0 ≤ a ∧ a ≤ 1) (h2 : v.1 120 t = -1) (k : P (some (.int (-11))) (pmT0 ++ LT) v) : EvP X (d + 2) MX12_come 0 [.ref 100, .int a, .int (nI t), pmJ] [] (pmT0 ++ LT) v P := by
  have hb3 : (0 : Int32) ≤ nI t ∧ nI t ≤ 3 := ⟨nI_pos' (by omega), nI_le (a := t) (b := 3) (by omega) (by omega)⟩
  refine ev_aload_n 0 dX12_come_0 rfl (by decide) ?_
  refine ev_iload_n 1 dX12_come_1 rfl ?_
  refine ev_iconst 2 dX12_come_2 kI_0 ?_
  refine ev_iconst 3 dX12_come_3 kI_1 ?_
  refine cv_12_7_12 (pc := 4) rfl dX12_come_4 kd_100 (Nat.le_of_ble_eq_true rfl) ?_
  refine c_X12_in (fun h_4 => ?_) (fun h_4 => absurd ha h_4)
  refine ev_ifF 7 18 dX12_come_7 rfl (by decide) ?_
  refine ev_aload_n 10 dX12_come_10 rfl (by decide) ?_
  refine ev_iload_n 11 dX12_come_11 rfl ?_
  refine cv_12_37_12 (pc := 12) rfl dX12_come_12 kd_100 (Nat.le_of_ble_eq_true rfl) ?_
  refine c_X12_isSheet (fun h_12 => ?_) (fun h_12 => absurd hb3 h_12)
  refine ev_ifT 15 21 dX12_come_15 rfl (by decide) ?_
  refine ev_aload_n 21 dX12_come_21 rfl (by decide) ?_
  refine gf_12_41 (pc := 22) rfl dX12_come_22 kd_100 (rf_100_49 hX) ?_
  refine ev_iload_n 25 dX12_come_25 rfl ?_
  refine ev_ialdJ (x := (-1)) (j := t) 26 dX12_come_26 (Nat.le_of_ble_eq_true rfl) ty_120 (pm_inI (by omega) (by omega)) (nI_clamp (by omega)) h2 ?_
  refine ev_ifF 27 33 dX12_come_27 rfl (by decide) ?_
  refine ev_bipush 30 dX12_come_30 kB_m11 ?_
  refine ev_ireturn 32 dX12_come_32 rfl rfl ?_
  exact k

theorem lp_comeM {X : pmX} {d : Nat} {P : Option Value → pmT → pmV → Prop} {LT : pmT} {e : pmV} {w t q M : Nat} (hC1 : pmRf e) (hw : w < 2) (ht : t < 4) (hq60 : q ≤ 60) (hsq : e.1 121 t = nI q) (hin : ∀ j, j < 60 → e.1 122 (60 * t + j) = e.1 (93 + 2 * t) j) (hM : M ≤ q) (hok : ∀ j, j < M → 0 ≤ e.1 (93 + 2 * t) j ∧ e.1 (93 + 2 * t) j ≤ 99) (hst : M = q ∨ ¬ (0 ≤ e.1 (93 + 2 * t) M ∧ e.1 (93 + 2 * t) M ≤ 99))  : ∀ (k : Nat) (i : Nat) (v : pmV), i + k = M → Wr e v 104 (60 * w) (60 * w + i) (fun j => e.1 (93 + 2 * t) (j - 60 * w)) → (∀ v', Wr e v' 104 (60 * w) (60 * w + M) (fun j => e.1 (93 + 2 * t) (j - 60 * w)) → P (some (.int (nI M))) (pmT0 ++ LT) v') → EvP X (d + 2) MX12_come 35 [.ref 100, .int (nI w), .int (nI t), .int (nI i)] [] (pmT0 ++ LT) v P := by
  intro k
  induction k with
  | zero =>
    intro i v hi hWr K
    have hi2 : M = i := by omega
    subst hi2
    have hX : pmRf v := hC1.ag (congrArg Prod.snd hWr.1)
    have hsz : v.1 121 t = nI q := (hWr.off (by omega)).trans hsq
    have hit : ∀ j, j < 60 → v.1 122 (60 * t + j) = e.1 (93 + 2 * t) j := fun j hj => (hWr.off (by omega)).trans (hin j hj)
    refine ev_iload_n 35 dX12_come_35 rfl ?_
    refine ev_aload_n 36 dX12_come_36 rfl (by decide) ?_
    refine gf_12_44 (pc := 37) rfl dX12_come_37 kd_100 (rf_100_50 hX) ?_
    refine ev_iload_n 40 dX12_come_40 rfl ?_
    refine ev_ialdJ (x := nI q) (j := t) 41 dX12_come_41 (Nat.le_of_ble_eq_true rfl) ty_121 (pm_inI (by omega) (by omega)) (nI_clamp (by omega)) hsz ?_
    refine ev_ic_geN (a := M) (b := q) 42 94 dX12_come_42 rfl (by omega) (by omega) (fun c_42 => ?_) (fun c_42 => ?_)
    · refine ev_iload_n 94 dX12_come_94 rfl ?_
      refine ev_ireturn 95 dX12_come_95 rfl rfl ?_
      exact K v hWr
    · refine ev_aload_n 45 dX12_come_45 rfl (by decide) ?_
      refine ev_aload_n 46 dX12_come_46 rfl (by decide) ?_
      refine gf_12_47 (pc := 47) rfl dX12_come_47 kd_100 (rf_100_51 hX) ?_
      refine ev_bipush 50 dX12_come_50 kB_60 ?_
      refine ev_iload_n 52 dX12_come_52 rfl ?_
      refine ev_imul 53 dX12_come_53 ?_
      refine ev_cst (y := nI (60 * t)) (nI_mulp 60 t) ?_
      refine ev_iload_n 54 dX12_come_54 rfl ?_
      refine ev_iadd 55 dX12_come_55 ?_
      refine ev_cst (y := nI (60 * t + M)) (nI_add (60 * t) M) ?_
      refine ev_ialdJ (x := e.1 (93 + 2 * t) M) (j := 60 * t + M) 56 dX12_come_56 (Nat.le_of_ble_eq_true rfl) ty_122 (pm_inI (by omega) (by omega)) (nI_clamp (by omega)) (hit M (by omega)) ?_
      refine ev_iconst 57 dX12_come_57 kI_0 ?_
      refine ev_bipush 58 dX12_come_58 kB_99 ?_
      refine cv_12_7_12 (pc := 60) rfl dX12_come_60 kd_100 (Nat.le_of_ble_eq_true rfl) ?_
      refine c_X12_in (fun h_60 => ?_) (fun h_60 => ?_)
      · exact absurd h_60 (hst.resolve_left (by omega))
      · refine ev_ifT 63 94 dX12_come_63 rfl (by decide) ?_
        refine ev_iload_n 94 dX12_come_94 rfl ?_
        refine ev_ireturn 95 dX12_come_95 rfl rfl ?_
        exact K v hWr
  | succ k ih =>
    intro i v hi hWr K
    have hX : pmRf v := hC1.ag (congrArg Prod.snd hWr.1)
    have hsz : v.1 121 t = nI q := (hWr.off (by omega)).trans hsq
    have hit : ∀ j, j < 60 → v.1 122 (60 * t + j) = e.1 (93 + 2 * t) j := fun j hj => (hWr.off (by omega)).trans (hin j hj)
    refine ev_iload_n 35 dX12_come_35 rfl ?_
    refine ev_aload_n 36 dX12_come_36 rfl (by decide) ?_
    refine gf_12_44 (pc := 37) rfl dX12_come_37 kd_100 (rf_100_50 hX) ?_
    refine ev_iload_n 40 dX12_come_40 rfl ?_
    refine ev_ialdJ (x := nI q) (j := t) 41 dX12_come_41 (Nat.le_of_ble_eq_true rfl) ty_121 (pm_inI (by omega) (by omega)) (nI_clamp (by omega)) hsz ?_
    refine ev_ic_geN (a := i) (b := q) 42 94 dX12_come_42 rfl (by omega) (by omega) (fun c_42 => by omega) (fun c_42 => ?_)
    refine ev_aload_n 45 dX12_come_45 rfl (by decide) ?_
    refine ev_aload_n 46 dX12_come_46 rfl (by decide) ?_
    refine gf_12_47 (pc := 47) rfl dX12_come_47 kd_100 (rf_100_51 hX) ?_
    refine ev_bipush 50 dX12_come_50 kB_60 ?_
    refine ev_iload_n 52 dX12_come_52 rfl ?_
    refine ev_imul 53 dX12_come_53 ?_
    refine ev_cst (y := nI (60 * t)) (nI_mulp 60 t) ?_
    refine ev_iload_n 54 dX12_come_54 rfl ?_
    refine ev_iadd 55 dX12_come_55 ?_
    refine ev_cst (y := nI (60 * t + i)) (nI_add (60 * t) i) ?_
    refine ev_ialdJ (x := e.1 (93 + 2 * t) i) (j := 60 * t + i) 56 dX12_come_56 (Nat.le_of_ble_eq_true rfl) ty_122 (pm_inI (by omega) (by omega)) (nI_clamp (by omega)) (hit i (by omega)) ?_
    refine ev_iconst 57 dX12_come_57 kI_0 ?_
    refine ev_bipush 58 dX12_come_58 kB_99 ?_
    refine cv_12_7_12 (pc := 60) rfl dX12_come_60 kd_100 (Nat.le_of_ble_eq_true rfl) ?_
    refine c_X12_in (fun h_60 => ?_) (fun h_60 => absurd (hok i (by omega)) h_60)
    refine ev_ifF 63 94 dX12_come_63 rfl (by decide) ?_
    refine ev_aload_n 66 dX12_come_66 rfl (by decide) ?_
    refine gf_12_31 (pc := 67) rfl dX12_come_67 kd_100 (rf_100_8 hX) ?_
    refine ev_bipush 70 dX12_come_70 kB_60 ?_
    refine ev_iload_n 72 dX12_come_72 rfl ?_
    refine ev_imul 73 dX12_come_73 ?_
    refine ev_cst (y := nI (60 * w)) (nI_mulp 60 w) ?_
    refine ev_iload_n 74 dX12_come_74 rfl ?_
    refine ev_iadd 75 dX12_come_75 ?_
    refine ev_cst (y := nI (60 * w + i)) (nI_add (60 * w) i) ?_
    refine ev_aload_n 76 dX12_come_76 rfl (by decide) ?_
    refine gf_12_47 (pc := 77) rfl dX12_come_77 kd_100 (rf_100_51 hX) ?_
    refine ev_bipush 80 dX12_come_80 kB_60 ?_
    refine ev_iload_n 82 dX12_come_82 rfl ?_
    refine ev_imul 83 dX12_come_83 ?_
    refine ev_cst (y := nI (60 * t)) (nI_mulp 60 t) ?_
    refine ev_iload_n 84 dX12_come_84 rfl ?_
    refine ev_iadd 85 dX12_come_85 ?_
    refine ev_cst (y := nI (60 * t + i)) (nI_add (60 * t) i) ?_
    refine ev_ialdJ (x := e.1 (93 + 2 * t) i) (j := 60 * t + i) 86 dX12_come_86 (Nat.le_of_ble_eq_true rfl) ty_122 (pm_inI (by omega) (by omega)) (nI_clamp (by omega)) (hit i (by omega)) ?_
    refine ev_iastJ (j := 60 * w + i) 87 dX12_come_87 (Nat.le_of_ble_eq_true rfl) ty_104 (pm_inI (by omega) (by omega)) (nI_clamp (by omega)) ?_
    refine ev_iinc (y := nI (i + 1)) (ls' := [.ref 100, .int (nI w), .int (nI t), .int (nI (i + 1))]) 88 dX12_come_88 rfl (nI_add i 1) rfl ?_
    refine ev_goto 91 35 dX12_come_91 rfl ?_
    refine ih (i + 1) _ (by omega) (hWr.cat (m := 60 * w + i) ?_ (by omega) (by omega)) K
    exact (Wr.one _ _ _ _).cg fun j h1 h2 => by rw [show j - 60 * w = i by omega]

theorem c_X12_come_ok {X : pmX} {d : Nat} {v : pmV} {P : Option Value → pmT → pmV → Prop} {LT : pmT} {e : pmV} {n tx z w t q M : Nat} (hC : Cpl n tx z LT e) (hE : Of (fun a _ => a = 35) e v) (hCv : pmRf v) (hw : w < 2) (ht : t < 4) (hq60 : q ≤ 60) (hsq : e.1 121 t = nI q) (hin : ∀ j, j < 60 → e.1 122 (60 * t + j) = e.1 (93 + 2 * t) j) (hM : M ≤ q) (hok : ∀ j, j < M → 0 ≤ e.1 (93 + 2 * t) j ∧ e.1 (93 + 2 * t) j ≤ 99) (hst : M = q ∨ ¬ (0 ≤ e.1 (93 + 2 * t) M ∧ e.1 (93 + 2 * t) M ≤ 99)) (ha : 0 ≤ nI w ∧ nI w ≤ 1) (h2 : 0 ≤ e.1 120 t) (k : ∀ v', Wr v v' 104 (60 * w) (60 * w + M) (fun j => e.1 (93 + 2 * t) (j - 60 * w)) → P (some (.int (nI M))) (pmT0 ++ LT) v') : EvP X (d + 2) MX12_come 0 [.ref 100, .int (nI w), .int (nI t), pmJ] [] (pmT0 ++ LT) v P := by
  have hX : pmRf v := hC.1.ag (congrArg Prod.snd hE.1)
  have hb3 : (0 : Int32) ≤ nI t ∧ nI t ≤ 3 := ⟨nI_pos' (by omega), nI_le (a := t) (b := 3) (by omega) (by omega)⟩
  refine ev_aload_n 0 dX12_come_0 rfl (by decide) ?_
  refine ev_iload_n 1 dX12_come_1 rfl ?_
  refine ev_iconst 2 dX12_come_2 kI_0 ?_
  refine ev_iconst 3 dX12_come_3 kI_1 ?_
  refine cv_12_7_12 (pc := 4) rfl dX12_come_4 kd_100 (Nat.le_of_ble_eq_true rfl) ?_
  refine c_X12_in (fun h_4 => ?_) (fun h_4 => absurd ha h_4)
  refine ev_ifF 7 18 dX12_come_7 rfl (by decide) ?_
  refine ev_aload_n 10 dX12_come_10 rfl (by decide) ?_
  refine ev_iload_n 11 dX12_come_11 rfl ?_
  refine cv_12_37_12 (pc := 12) rfl dX12_come_12 kd_100 (Nat.le_of_ble_eq_true rfl) ?_
  refine c_X12_isSheet (fun h_12 => ?_) (fun h_12 => absurd hb3 h_12)
  refine ev_ifT 15 21 dX12_come_15 rfl (by decide) ?_
  refine ev_aload_n 21 dX12_come_21 rfl (by decide) ?_
  refine gf_12_41 (pc := 22) rfl dX12_come_22 kd_100 (rf_100_49 hX) ?_
  refine ev_iload_n 25 dX12_come_25 rfl ?_
  refine ev_ialdJ (x := e.1 120 t) (j := t) 26 dX12_come_26 (Nat.le_of_ble_eq_true rfl) ty_120 (pm_inI (by omega) (by omega)) (nI_clamp (by omega)) (hE.off (by decide)) ?_
  refine ev_if_ge 27 33 dX12_come_27 rfl (fun c_27 => ?_) (fun c_27 => absurd h2 c_27)
  refine ev_iconst 33 dX12_come_33 kI_0 ?_
  refine ev_istore_n (ls' := [.ref 100, .int (nI w), .int (nI t), .int 0]) 34 dX12_come_34 (Nat.le_of_ble_eq_true rfl) rfl ?_
  have hEo : ∀ a j, a ≠ 35 → v.1 a j = e.1 a j := fun a j h => hE.off h
  have hit : ∀ j, j < 60 → v.1 (93 + 2 * t) j = e.1 (93 + 2 * t) j := fun j _ => hEo _ _ (by omega)
  refine lp_comeM (e := v) (M := M) hCv hw ht hq60 ((hEo _ _ (by decide)).trans hsq) (fun j hj => (hEo _ _ (by decide)).trans ((hin j hj).trans (hit j hj).symm)) hM (fun j hj => by rw [hit j (by omega)]; exact hok j hj) ?_ M 0 v (by omega) (Wr.nil v 104 _ _) (fun v' h => k v' (h.cg fun j h1 h2 => hit _ (by omega)))
  rcases hst with h | h
  · exact Or.inl h
  · by_cases hm : M < 60
    · exact Or.inr (by rw [hit M hm]; exact h)
    · exact Or.inl (by omega)

