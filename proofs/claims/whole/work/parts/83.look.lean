/-! TEXTS: the reference's next token -/
def bA (B : Nat → Int32) (z i : Nat) : Int32 := if i < z then B i else -1
theorem bA_b {B : Nat → Int32} {z i : Nat} : (bA B z i = 32 ∨ bA B z i = 10) ↔ i < z ∧ bB (B i) := by
  unfold bA
  by_cases h : i < z
  · rw [if_pos h]; exact ⟨fun q => ⟨h, q⟩, fun q => q.2⟩
  · rw [if_neg h]; exact ⟨fun q => absurd q (by decide), fun q => absurd q.1 h⟩
theorem bA_d {B : Nat → Int32} {z i : Nat} : dB (bA B z i) ↔ i < z ∧ dB (B i) := by
  unfold bA
  by_cases h : i < z
  · rw [if_pos h]; exact ⟨fun q => ⟨h, q⟩, fun q => q.2⟩
  · rw [if_neg h]; exact ⟨fun q => absurd q (by decide), fun q => absurd q.1 h⟩
theorem bA_l {B : Nat → Int32} {z i : Nat} : lB (bA B z i) ↔ i < z ∧ lB (B i) := by
  unfold bA
  by_cases h : i < z
  · rw [if_pos h]; exact ⟨fun q => ⟨h, q⟩, fun q => q.2⟩
  · rw [if_neg h]; exact ⟨fun q => absurd q (by decide), fun q => absurd q.1 h⟩
theorem bA_on {B : Nat → Int32} {z i : Nat} (h : i < z) : bA B z i = B i := if_pos h
theorem bA_of {B : Nat → Int32} {z i : Nat} (h : z ≤ i) : bA B z i = -1 := if_neg (by omega)
theorem c_X12_byteAt {X : pmX} {d : Nat} {v : pmV} {P : Option Value → pmT → pmV → Prop} {LT : pmT} {B : Nat → Int32} {z : Nat} (hX : pmRf v) (hz160 : z ≤ 160) (hz : v.1 100 12 = nI z) (hB : ∀ j, j < z → v.1 106 j = B j) {i : Nat} (hi : i < 2 ^ 31) (k : P (some (.int (bA B z i))) (pmT0 ++ LT) v) : EvP X d MX12_byteAt 0 [.ref 100, .int (nI i)] [] (pmT0 ++ LT) v P := by
  refine ev_iload_n 0 dX12_byteAt_0 rfl ?_
  refine ev_aload_n 1 dX12_byteAt_1 rfl (by decide) ?_
  refine gf_12_89 (x := nI z) (pc := 2) rfl dX12_byteAt_2 kd_100 hz ?_
  refine ev_ic_geN (a := i) (b := z) 5 17 dX12_byteAt_5 rfl (by omega) (by omega) (fun c_5 => ?_) (fun c_5 => ?_)
  · refine ev_iconst 17 dX12_byteAt_17 kI_m1 ?_
    refine ev_ireturn 18 dX12_byteAt_18 rfl rfl ?_
    rw [bA_of (by omega)] at k
    exact k
  · refine ev_aload_n 8 dX12_byteAt_8 rfl (by decide) ?_
    refine gf_12_113 (pc := 9) rfl dX12_byteAt_9 kd_100 (rf_100_20 hX) ?_
    refine ev_iload_n 12 dX12_byteAt_12 rfl ?_
    refine ev_ialdJ (x := B i) (j := i) 13 dX12_byteAt_13 (Nat.le_of_ble_eq_true rfl) ty_106 (pm_inI (by omega) (by omega)) (nI_clamp (by omega)) (hB _ (by omega)) ?_
    refine ev_goto 14 18 dX12_byteAt_14 rfl ?_
    refine ev_ireturn 18 dX12_byteAt_18 rfl rfl ?_
    rw [bA_on (by omega)] at k
    exact k

theorem c_X12_isDigit {X : pmX} {d : Nat} {v : pmV} {P : Option Value → pmT → pmV → Prop} {LT : pmT} {b : Int32} (kt : dB b → P (some (.int 1)) (pmT0 ++ LT) v) (kf : ¬ dB b → P (some (.int 0)) (pmT0 ++ LT) v) : EvP X (d + 1) MX12_isDigit 0 [.ref 100, .int b] [] (pmT0 ++ LT) v P := by
  refine ev_aload_n 0 dX12_isDigit_0 rfl (by decide) ?_
  refine ev_iload_n 1 dX12_isDigit_1 rfl ?_
  refine ev_bipush 2 dX12_isDigit_2 kB_48 ?_
  refine ev_bipush 4 dX12_isDigit_4 kB_57 ?_
  refine cv_12_7_12 (pc := 6) rfl dX12_isDigit_6 kd_100 (Nat.le_of_ble_eq_true rfl) ?_
  refine c_X12_in (fun h_6 => ?_) (fun h_6 => ?_)
  · refine ev_ireturn 9 dX12_isDigit_9 rfl rfl ?_
    exact kt h_6
  · refine ev_ireturn 9 dX12_isDigit_9 rfl rfl ?_
    exact kf h_6

theorem c_X12_isLetter {X : pmX} {d : Nat} {v : pmV} {P : Option Value → pmT → pmV → Prop} {LT : pmT} {b : Int32} (kt : lB b → P (some (.int 1)) (pmT0 ++ LT) v) (kf : ¬ lB b → P (some (.int 0)) (pmT0 ++ LT) v) : EvP X (d + 1) MX12_isLetter 0 [.ref 100, .int b] [] (pmT0 ++ LT) v P := by
  refine ev_aload_n 0 dX12_isLetter_0 rfl (by decide) ?_
  refine ev_iload_n 1 dX12_isLetter_1 rfl ?_
  refine ev_bipush 2 dX12_isLetter_2 kB_97 ?_
  refine ev_bipush 4 dX12_isLetter_4 kB_122 ?_
  refine cv_12_7_12 (pc := 6) rfl dX12_isLetter_6 kd_100 (Nat.le_of_ble_eq_true rfl) ?_
  refine c_X12_in (fun h_6 => ?_) (fun h_6 => ?_)
  · refine ev_ireturn 9 dX12_isLetter_9 rfl rfl ?_
    exact kt h_6
  · refine ev_ireturn 9 dX12_isLetter_9 rfl rfl ?_
    exact kf h_6

theorem c_X12_nameOf {X : pmX} {d : Nat} {v : pmV} {P : Option Value → pmT → pmV → Prop} {LT : pmT} {b : Int32} (k1 : ∀ w, w < 6 → b = nI (wdN w) → P (some (.int (nI w))) (pmT0 ++ LT) v) (k0 : (∀ w, w < 6 → ¬ b = nI (wdN w)) → P (some (.int (-1))) (pmT0 ++ LT) v) : EvP X d MX12_nameOf 0 [.ref 100, .int b] [] (pmT0 ++ LT) v P := by
  refine ev_iload_n 0 dX12_nameOf_0 rfl ?_
  refine ev_ldc 1 dX12_nameOf_1 lc_12_232 ?_
  refine ev_ic_ne 3 10 dX12_nameOf_3 rfl (fun c_3 => ?_) (fun c_3 => ?_)
  · refine ev_iload_n 10 dX12_nameOf_10 rfl ?_
    refine ev_ldc 11 dX12_nameOf_11 lc_12_233 ?_
    refine ev_ic_ne 13 20 dX12_nameOf_13 rfl (fun c_13 => ?_) (fun c_13 => ?_)
    · refine ev_iload_n 20 dX12_nameOf_20 rfl ?_
      refine ev_ldc 21 dX12_nameOf_21 lc_12_234 ?_
      refine ev_ic_ne 23 30 dX12_nameOf_23 rfl (fun c_23 => ?_) (fun c_23 => ?_)
      · refine ev_iload_n 30 dX12_nameOf_30 rfl ?_
        refine ev_ldc 31 dX12_nameOf_31 lc_12_235 ?_
        refine ev_ic_ne 33 40 dX12_nameOf_33 rfl (fun c_33 => ?_) (fun c_33 => ?_)
        · refine ev_iload_n 40 dX12_nameOf_40 rfl ?_
          refine ev_sipush 41 dX12_nameOf_41 kS_2739 ?_
          refine ev_ic_ne 44 51 dX12_nameOf_44 rfl (fun c_44 => ?_) (fun c_44 => ?_)
          · refine ev_iload_n 51 dX12_nameOf_51 rfl ?_
            refine ev_ldc 52 dX12_nameOf_52 lc_12_236 ?_
            refine ev_ic_ne 54 61 dX12_nameOf_54 rfl (fun c_54 => ?_) (fun c_54 => ?_)
            · refine ev_iconst 61 dX12_nameOf_61 kI_m1 ?_
              refine ev_ireturn 62 dX12_nameOf_62 rfl rfl ?_
              exact k0 (fun w hw => by
                have : w = 0 ∨ w = 1 ∨ w = 2 ∨ w = 3 ∨ w = 4 ∨ w = 5 := by omega
                rcases this with rfl | rfl | rfl | rfl | rfl | rfl <;> assumption)
            · refine ev_iconst 57 dX12_nameOf_57 kI_5 ?_
              refine ev_goto 58 62 dX12_nameOf_58 rfl ?_
              refine ev_ireturn 62 dX12_nameOf_62 rfl rfl ?_
              exact k1 5 (by decide) (by first | assumption | simpa using c_54)
          · refine ev_iconst 47 dX12_nameOf_47 kI_4 ?_
            refine ev_goto 48 62 dX12_nameOf_48 rfl ?_
            refine ev_ireturn 62 dX12_nameOf_62 rfl rfl ?_
            exact k1 4 (by decide) (by first | assumption | simpa using c_44)
        · refine ev_iconst 36 dX12_nameOf_36 kI_3 ?_
          refine ev_goto 37 62 dX12_nameOf_37 rfl ?_
          refine ev_ireturn 62 dX12_nameOf_62 rfl rfl ?_
          exact k1 3 (by decide) (by first | assumption | simpa using c_33)
      · refine ev_iconst 26 dX12_nameOf_26 kI_2 ?_
        refine ev_goto 27 62 dX12_nameOf_27 rfl ?_
        refine ev_ireturn 62 dX12_nameOf_62 rfl rfl ?_
        exact k1 2 (by decide) (by first | assumption | simpa using c_23)
    · refine ev_iconst 16 dX12_nameOf_16 kI_1 ?_
      refine ev_goto 17 62 dX12_nameOf_17 rfl ?_
      refine ev_ireturn 62 dX12_nameOf_62 rfl rfl ?_
      exact k1 1 (by decide) (by first | assumption | simpa using c_13)
  · refine ev_iconst 6 dX12_nameOf_6 kI_0 ?_
    refine ev_goto 7 62 dX12_nameOf_7 rfl ?_
    refine ev_ireturn 62 dX12_nameOf_62 rfl rfl ?_
    exact k1 0 (by decide) (by first | assumption | simpa using c_3)

theorem c_X12_isKey {X : pmX} {d : Nat} {v : pmV} {P : Option Value → pmT → pmV → Prop} {LT : pmT} {b : Int32} (k1 : ∀ w, 6 ≤ w → w < 12 → b = nI (wdN w) → P (some (.int 1)) (pmT0 ++ LT) v) (k0 : (∀ w, 6 ≤ w → w < 12 → ¬ b = nI (wdN w)) → P (some (.int 0)) (pmT0 ++ LT) v) : EvP X d MX12_isKey 0 [.ref 100, .int b] [] (pmT0 ++ LT) v P := by
  refine ev_iload_n 0 dX12_isKey_0 rfl ?_
  refine ev_ldc 1 dX12_isKey_1 lc_12_229 ?_
  refine ev_ic_eq 3 39 dX12_isKey_3 rfl (fun c_3 => ?_) (fun c_3 => ?_)
  · refine ev_iconst 39 dX12_isKey_39 kI_1 ?_
    refine ev_goto 40 44 dX12_isKey_40 rfl ?_
    refine ev_ireturn 44 dX12_isKey_44 rfl rfl ?_
    first | exact k1 6 (by decide) (by decide) (by assumption) | exact k1 7 (by decide) (by decide) (by assumption) | exact k1 8 (by decide) (by decide) (by assumption) | exact k1 9 (by decide) (by decide) (by assumption) | exact k1 10 (by decide) (by decide) (by assumption) | exact k1 11 (by decide) (by decide) (by assumption) | exact k1 11 (by decide) (by decide) (by simpa using c_36)
  · refine ev_iload_n 6 dX12_isKey_6 rfl ?_
    refine ev_ldc 7 dX12_isKey_7 lc_12_230 ?_
    refine ev_ic_eq 9 39 dX12_isKey_9 rfl (fun c_9 => ?_) (fun c_9 => ?_)
    · refine ev_iconst 39 dX12_isKey_39 kI_1 ?_
      refine ev_goto 40 44 dX12_isKey_40 rfl ?_
      refine ev_ireturn 44 dX12_isKey_44 rfl rfl ?_
      first | exact k1 6 (by decide) (by decide) (by assumption) | exact k1 7 (by decide) (by decide) (by assumption) | exact k1 8 (by decide) (by decide) (by assumption) | exact k1 9 (by decide) (by decide) (by assumption) | exact k1 10 (by decide) (by decide) (by assumption) | exact k1 11 (by decide) (by decide) (by assumption) | exact k1 11 (by decide) (by decide) (by simpa using c_36)
    · refine ev_iload_n 12 dX12_isKey_12 rfl ?_
      refine ev_ldc 13 dX12_isKey_13 lc_12_231 ?_
      refine ev_ic_eq 15 39 dX12_isKey_15 rfl (fun c_15 => ?_) (fun c_15 => ?_)
      · refine ev_iconst 39 dX12_isKey_39 kI_1 ?_
        refine ev_goto 40 44 dX12_isKey_40 rfl ?_
        refine ev_ireturn 44 dX12_isKey_44 rfl rfl ?_
        first | exact k1 6 (by decide) (by decide) (by assumption) | exact k1 7 (by decide) (by decide) (by assumption) | exact k1 8 (by decide) (by decide) (by assumption) | exact k1 9 (by decide) (by decide) (by assumption) | exact k1 10 (by decide) (by decide) (by assumption) | exact k1 11 (by decide) (by decide) (by assumption) | exact k1 11 (by decide) (by decide) (by simpa using c_36)
      · refine ev_iload_n 18 dX12_isKey_18 rfl ?_
        refine ev_sipush 19 dX12_isKey_19 kS_498 ?_
        refine ev_ic_eq 22 39 dX12_isKey_22 rfl (fun c_22 => ?_) (fun c_22 => ?_)
        · refine ev_iconst 39 dX12_isKey_39 kI_1 ?_
          refine ev_goto 40 44 dX12_isKey_40 rfl ?_
          refine ev_ireturn 44 dX12_isKey_44 rfl rfl ?_
          first | exact k1 6 (by decide) (by decide) (by assumption) | exact k1 7 (by decide) (by decide) (by assumption) | exact k1 8 (by decide) (by decide) (by assumption) | exact k1 9 (by decide) (by decide) (by assumption) | exact k1 10 (by decide) (by decide) (by assumption) | exact k1 11 (by decide) (by decide) (by assumption) | exact k1 11 (by decide) (by decide) (by simpa using c_36)
        · refine ev_iload_n 25 dX12_isKey_25 rfl ?_
          refine ev_sipush 26 dX12_isKey_26 kS_1476 ?_
          refine ev_ic_eq 29 39 dX12_isKey_29 rfl (fun c_29 => ?_) (fun c_29 => ?_)
          · refine ev_iconst 39 dX12_isKey_39 kI_1 ?_
            refine ev_goto 40 44 dX12_isKey_40 rfl ?_
            refine ev_ireturn 44 dX12_isKey_44 rfl rfl ?_
            first | exact k1 6 (by decide) (by decide) (by assumption) | exact k1 7 (by decide) (by decide) (by assumption) | exact k1 8 (by decide) (by decide) (by assumption) | exact k1 9 (by decide) (by decide) (by assumption) | exact k1 10 (by decide) (by decide) (by assumption) | exact k1 11 (by decide) (by decide) (by assumption) | exact k1 11 (by decide) (by decide) (by simpa using c_36)
          · refine ev_iload_n 32 dX12_isKey_32 rfl ?_
            refine ev_sipush 33 dX12_isKey_33 kS_14836 ?_
            refine ev_ic_ne 36 43 dX12_isKey_36 rfl (fun c_36 => ?_) (fun c_36 => ?_)
            · refine ev_iconst 43 dX12_isKey_43 kI_0 ?_
              refine ev_ireturn 44 dX12_isKey_44 rfl rfl ?_
              exact k0 (fun w h6 hw => by
                have : w = 6 ∨ w = 7 ∨ w = 8 ∨ w = 9 ∨ w = 10 ∨ w = 11 := by omega
                rcases this with rfl | rfl | rfl | rfl | rfl | rfl <;> assumption)
            · refine ev_iconst 39 dX12_isKey_39 kI_1 ?_
              refine ev_goto 40 44 dX12_isKey_40 rfl ?_
              refine ev_ireturn 44 dX12_isKey_44 rfl rfl ?_
              first | exact k1 6 (by decide) (by decide) (by assumption) | exact k1 7 (by decide) (by decide) (by assumption) | exact k1 8 (by decide) (by decide) (by assumption) | exact k1 9 (by decide) (by decide) (by assumption) | exact k1 10 (by decide) (by decide) (by assumption) | exact k1 11 (by decide) (by decide) (by assumption) | exact k1 11 (by decide) (by decide) (by simpa using c_36)

