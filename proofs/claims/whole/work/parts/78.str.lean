/-! TEXTS: what the class asks of its strings -/
def sB (i j : Nat) : Int32 := (pmByt.getD i []).getD j 0
theorem sB_t : ∀ i, i < 14 → ∀ j, j < pmLen i → (0 ≤ sB i j ∧ sB i j < 128) ∧ sB i j &&& 255 = sB i j ∧ ((sB i j).toUInt32 % 65536).toInt32 = sB i j := by decide +kernel
theorem pmLen_t : ∀ i, i < 14 → pmLen i < 40 ∧ nI (pmLen i) >>> ((0 : Int32) &&& 31) = nI (pmLen i) := by decide +kernel
theorem kS {T : pmT} {i : Nat} (hi : i < 14) : pmKind T (2 * i) = 20 := by
  unfold pmKind
  rw [if_pos (by omega), if_pos (by omega)]
theorem gS_9 {T : pmT} {v : pmV} {i : Nat} {st : List Value} (hi : i < 14) : pmGet 20 9 T v (.ref (2 * i) :: st) = some (.ref (2 * i + 1) :: st) := by
  show (if 2 * i < 30 then _ else _) = _
  rw [if_pos (by omega), if_pos ⟨rfl, rfl, by omega, by omega⟩]
theorem gS_15 {T : pmT} {v : pmV} {i : Nat} {st : List Value} (hi : i < 14) : pmGet 20 15 T v (.ref (2 * i) :: st) = some (.int 0 :: st) := by
  show (if 2 * i < 30 then _ else _) = _
  rw [if_pos (by omega), if_neg (fun e => absurd e.2.1 (by decide)), if_pos ⟨rfl, rfl, by omega, by omega⟩]
theorem sB_nar {i j : Nat} (hi : i < 14) (hj : j < pmLen i) : narrow .char (.int (sB i j)) = .int (sB i j) := congrArg Value.int (sB_t i hi j hj).2.2
theorem c_J0_coder {X : pmX} {d : Nat} {v : pmV} {P : Option Value → pmT → pmV → Prop} {T : pmT} {i : Nat} (hi : i < 14) (k : P (some (.int 0)) T v) : EvP X d MJ0_coder_7d493 0 [.ref (2 * i)] [] T v P := by
  refine ev_getcs (x := .int 1) 0 dJ0_coder_7d493_0 rfl ?_
  refine ev_ifF 3 13 dJ0_coder_7d493_3 rfl (by decide) ?_
  refine ev_aload_n 6 dJ0_coder_7d493_6 rfl (by omega) ?_
  refine ev_getS (x := .int 0) 7 dJ0_coder_7d493_7 (gS_15 hi) ?_
  refine ev_goto 10 14 dJ0_coder_7d493_10 rfl ?_
  refine ev_ireturn 14 dJ0_coder_7d493_14 rfl rfl ?_
  exact k

theorem c_J0_isLatin1 {X : pmX} {d : Nat} {v : pmV} {P : Option Value → pmT → pmV → Prop} {T : pmT} {i : Nat} (hi : i < 14) (k : P (some (.int 1)) T v) : EvP X d MJ0_isLatin1_aae02 0 [.ref (2 * i)] [] T v P := by
  refine ev_getcs (x := .int 1) 0 dJ0_isLatin1_aae02_0 rfl ?_
  refine ev_ifF 3 17 dJ0_isLatin1_aae02_3 rfl (by decide) ?_
  refine ev_aload_n 6 dJ0_isLatin1_aae02_6 rfl (by omega) ?_
  refine ev_getS (x := .int 0) 7 dJ0_isLatin1_aae02_7 (gS_15 hi) ?_
  refine ev_ifF 10 17 dJ0_isLatin1_aae02_10 rfl (by decide) ?_
  refine ev_iconst 13 dJ0_isLatin1_aae02_13 kI_1 ?_
  refine ev_goto 14 18 dJ0_isLatin1_aae02_14 rfl ?_
  refine ev_ireturn 18 dJ0_isLatin1_aae02_18 rfl rfl ?_
  exact k

theorem c_J0_length {X : pmX} {d : Nat} {v : pmV} {P : Option Value → pmT → pmV → Prop} {T : pmT} {i : Nat} (hi : i < 14) (k : P (some (.int (nI (pmLen i)))) T v) : EvP X (d + 1) MJ0_length_8abf5 0 [.ref (2 * i)] [] T v P := by
  refine ev_aload_n 0 dJ0_length_8abf5_0 rfl (by omega) ?_
  refine ev_getS (x := .ref (2 * i + 1)) 1 dJ0_length_8abf5_1 (gS_9 hi) ?_
  refine ev_alenS (x := nI (pmLen i)) 4 i dJ0_length_8abf5_4 hi rfl ?_
  refine ev_aload_n 5 dJ0_length_8abf5_5 rfl (by omega) ?_
  refine cv_20_335_20 (pc := 6) rfl dJ0_length_8abf5_6 (kS hi) (Nat.le_of_ble_eq_true rfl) ?_
  refine c_J0_coder hi ?_
  refine ev_ishr 9 dJ0_length_8abf5_9 ?_
  refine ev_cst (y := nI (pmLen i)) (pmLen_t _ hi).2 ?_
  refine ev_ireturn 10 dJ0_length_8abf5_10 rfl rfl ?_
  exact k

theorem c_J3_checkIndex {X : pmX} {d : Nat} {v : pmV} {P : Option Value → pmT → pmV → Prop} {T : pmT} {j n : Nat} (hj : j < n) (hn : n < 2 ^ 31) (k : P (some (.int (nI j))) T v) : EvP X d MJ3_checkIndex_8e157 0 [.int (nI j), .int (nI n), .ref 30] [] T v P := by
  refine ev_iload_n 0 dJ3_checkIndex_8e157_0 rfl ?_
  refine ev_if_lt 1 9 dJ3_checkIndex_8e157_1 rfl (fun c_1 => absurd c_1 (by first | exact nI_nneg (by omega) | (intro h; exact absurd (nI_pos' (n := j) (by omega)) (Int32.not_le.mpr h)))) (fun c_1 => ?_)
  refine ev_iload_n 4 dJ3_checkIndex_8e157_4 rfl ?_
  refine ev_iload_n 5 dJ3_checkIndex_8e157_5 rfl ?_
  refine ev_ic_ltN (a := j) (b := n) 6 16 dJ3_checkIndex_8e157_6 rfl (by omega) (by omega) (fun c_6 => ?_) (fun c_6 => by omega)
  refine ev_iload_n 16 dJ3_checkIndex_8e157_16 rfl ?_
  refine ev_ireturn 17 dJ3_checkIndex_8e157_17 rfl rfl ?_
  exact k

theorem c_J0_checkIndex {X : pmX} {d : Nat} {v : pmV} {P : Option Value → pmT → pmV → Prop} {T : pmT} {j n : Nat} (hj : j < n) (hn : n < 2 ^ 31) (k : P none T v) : EvP X (d + 1) MJ0_checkIndex_df160 0 [.int (nI j), .int (nI n)] [] T v P := by
  refine ev_iload_n 0 dJ0_checkIndex_df160_0 rfl ?_
  refine ev_iload_n 1 dJ0_checkIndex_df160_1 rfl ?_
  refine ev_getcs (x := .ref 30) 2 dJ0_checkIndex_df160_2 rfl ?_
  refine cs_20_1059 (pc := 5) rfl dJ0_checkIndex_df160_5 (Nat.le_of_ble_eq_true rfl) ?_
  refine c_J3_checkIndex hj hn ?_
  refine ev_pop 8 dJ0_checkIndex_df160_8 rfl ?_
  refine ev_return 9 dJ0_checkIndex_df160_9 rfl ?_
  exact k

theorem c_J1_charAt {X : pmX} {d : Nat} {v : pmV} {P : Option Value → pmT → pmV → Prop} {T : pmT} {i : Nat} (hi : i < 14) {j : Nat} (hj : j < pmLen i) (k : P (some (.int (sB i j))) T v) : EvP X (d + 2) MJ1_charAt_3b067 0 [.ref (2 * i + 1), .int (nI j)] [] T v P := by
  refine ev_iload_n 0 dJ1_charAt_3b067_0 rfl ?_
  refine ev_aload_n 1 dJ1_charAt_3b067_1 rfl (by omega) ?_
  refine ev_alenS (x := nI (pmLen i)) 2 i dJ1_charAt_3b067_2 hi rfl ?_
  refine cs_21_9 (pc := 3) rfl dJ1_charAt_3b067_3 (Nat.le_of_ble_eq_true rfl) ?_
  refine c_J0_checkIndex (by omega) (by have := pmLen_t _ hi; omega) ?_
  refine ev_aload_n 6 dJ1_charAt_3b067_6 rfl (by omega) ?_
  refine ev_iload_n 7 dJ1_charAt_3b067_7 rfl ?_
  refine ev_bald (x := sB i j) 8 i dJ1_charAt_3b067_8 hi (pm_inI (by omega) (by have := pmLen_t _ hi; omega)) (by rw [nI_clamp (by have := pmLen_t _ hi; omega)]; rfl) ?_
  refine ev_sipush 9 dJ1_charAt_3b067_9 kS_255 ?_
  refine ev_iand 12 dJ1_charAt_3b067_12 ?_
  refine ev_cst (y := sB i j) (sB_t _ hi _ (by omega)).2.1 ?_
  refine ev_i2c 13 dJ1_charAt_3b067_13 ?_
  refine ev_cst (y := sB i j) (sB_t _ hi _ (by omega)).2.2 ?_
  refine ev_ireturn 14 dJ1_charAt_3b067_14 rfl (sB_nar hi (by omega)) ?_
  exact k

theorem c_J0_charAt {X : pmX} {d : Nat} {v : pmV} {P : Option Value → pmT → pmV → Prop} {T : pmT} {i : Nat} (hi : i < 14) {j : Nat} (hj : j < pmLen i) (k : P (some (.int (sB i j))) T v) : EvP X (d + 3) MJ0_charAt_5068e 0 [.ref (2 * i), .int (nI j)] [] T v P := by
  refine ev_aload_n 0 dJ0_charAt_5068e_0 rfl (by omega) ?_
  refine cv_20_492_20 (pc := 1) rfl dJ0_charAt_5068e_1 (kS hi) (Nat.le_of_ble_eq_true rfl) ?_
  refine c_J0_isLatin1 hi ?_
  refine ev_ifF 4 16 dJ0_charAt_5068e_4 rfl (by decide) ?_
  refine ev_aload_n 7 dJ0_charAt_5068e_7 rfl (by omega) ?_
  refine ev_getS (x := .ref (2 * i + 1)) 8 dJ0_charAt_5068e_8 (gS_9 hi) ?_
  refine ev_iload_n 11 dJ0_charAt_5068e_11 rfl ?_
  refine cs_20_495 (pc := 12) rfl dJ0_charAt_5068e_12 (Nat.le_of_ble_eq_true rfl) ?_
  refine c_J1_charAt hi (by omega) ?_
  refine ev_ireturn 15 dJ0_charAt_5068e_15 rfl (sB_nar hi (by omega)) ?_
  exact k

theorem c_J1_canEncode {X : pmX} {d : Nat} {v : pmV} {P : Option Value → pmT → pmV → Prop} {T : pmT} {c : Nat} (hc : c < 256) (k : P (some (.int 1)) T v) : EvP X d MJ1_canEncode_9a6ad 0 [.int (nI c)] [] T v P := by
  refine ev_iload_n 0 dJ1_canEncode_9a6ad_0 rfl ?_
  refine ev_if_lt 1 15 dJ1_canEncode_9a6ad_1 rfl (fun c_1 => absurd (nI_pos' (n := c) (by omega)) (Int32.not_le.mpr c_1)) (fun c_1 => ?_)
  refine ev_iload_n 4 dJ1_canEncode_9a6ad_4 rfl ?_
  refine ev_sipush 5 dJ1_canEncode_9a6ad_5 kS_255 ?_
  refine ev_ic_gtN (a := c) (b := 255) 8 15 dJ1_canEncode_9a6ad_8 rfl (by omega) (by omega) (fun c_8 => by omega) (fun c_8 => ?_)
  refine ev_iconst 11 dJ1_canEncode_9a6ad_11 kI_1 ?_
  refine ev_goto 12 16 dJ1_canEncode_9a6ad_12 rfl ?_
  refine ev_ireturn 16 dJ1_canEncode_9a6ad_16 rfl rfl ?_
  exact k

theorem nIb : ∀ c : Nat, c < 256 → ((nI c).toUInt32 % 65536).toInt32 = nI c := by decide +kernel
theorem lp_ix {X : pmX} {d : Nat} {v : pmV} {P : Option Value → pmT → pmV → Prop} {T : pmT} {i n : Nat} {y : Int32} (hi : i < 14) (hn : n ≤ pmLen i) (k1 : ∀ j, j < n → sB i j = y.toInt8.toInt32 → P (some (.int (nI j))) T v) (k0 : (∀ j, j < n → sB i j ≠ y.toInt8.toInt32) → P (some (.int (-1))) T v) : ∀ (k j : Nat), j + k = n → (∀ q, q < j → sB i q ≠ y.toInt8.toInt32) → EvP X d MJ1_indexOfChar_4cfef 7 [.ref (2 * i + 1), .int y, .int (nI 0), .int (nI n), .int y.toInt8.toInt32, .int (nI j)] [] T v P
  | 0, j, hj, hq => by
    have h40 := (pmLen_t _ hi).1
    refine ev_iload 7 dJ1_indexOfChar_4cfef_7 rfl ?_
    refine ev_iload_n 9 dJ1_indexOfChar_4cfef_9 rfl ?_
    refine ev_ic_geN (a := j) (b := n) 10 31 dJ1_indexOfChar_4cfef_10 rfl (by omega) (by omega) (fun c_10 => ?_) (fun c_10 => by omega)
    refine ev_iconst 31 dJ1_indexOfChar_4cfef_31 kI_m1 ?_
    refine ev_ireturn 32 dJ1_indexOfChar_4cfef_32 rfl rfl ?_
    exact k0 (fun q h => hq q (by omega))
  | k + 1, j, hj, hq => by
    have h40 := (pmLen_t _ hi).1
    refine ev_iload 7 dJ1_indexOfChar_4cfef_7 rfl ?_
    refine ev_iload_n 9 dJ1_indexOfChar_4cfef_9 rfl ?_
    refine ev_ic_geN (a := j) (b := n) 10 31 dJ1_indexOfChar_4cfef_10 rfl (by omega) (by omega) (fun c_10 => by omega) (fun c_10 => ?_)
    refine ev_aload_n 13 dJ1_indexOfChar_4cfef_13 rfl (by omega) ?_
    refine ev_iload 14 dJ1_indexOfChar_4cfef_14 rfl ?_
    refine ev_bald (x := sB i j) 16 i dJ1_indexOfChar_4cfef_16 hi (pm_inI (by omega) (by have := pmLen_t _ hi; omega)) (by rw [nI_clamp (by have := pmLen_t _ hi; omega)]; rfl) ?_
    refine ev_iload 17 dJ1_indexOfChar_4cfef_17 rfl ?_
    refine ev_ic_ne 19 25 dJ1_indexOfChar_4cfef_19 rfl (fun c_19 => ?_) (fun c_19 => ?_)
    · refine ev_iinc (y := nI (j + 1)) (ls' := [.ref (2 * i + 1), .int y, .int (nI 0), .int (nI n), .int y.toInt8.toInt32, .int (nI (j + 1))]) 25 dJ1_indexOfChar_4cfef_25 rfl (nI_add j 1) rfl ?_
      refine ev_goto 28 7 dJ1_indexOfChar_4cfef_28 rfl ?_
      exact lp_ix hi hn k1 k0 k (j + 1) (by omega) (fun q h => by
        by_cases e : q = j
        · subst e; exact c_19
        · exact hq q (by omega))
    · refine ev_iload 22 dJ1_indexOfChar_4cfef_22 rfl ?_
      refine ev_ireturn 24 dJ1_indexOfChar_4cfef_24 rfl rfl ?_
      exact k1 j (by omega) (by simpa using c_19)
theorem c_J1_indexOfChar {X : pmX} {d : Nat} {v : pmV} {P : Option Value → pmT → pmV → Prop} {T : pmT} {i : Nat} (hi : i < 14) {c : Nat} (k1 : ∀ j, j < pmLen i → sB i j = (nI c).toInt8.toInt32 → P (some (.int (nI j))) T v) (k0 : (∀ j, j < pmLen i → sB i j ≠ (nI c).toInt8.toInt32) → P (some (.int (-1))) T v) : EvP X d MJ1_indexOfChar_4cfef 0 [.ref (2 * i + 1), .int (nI c), .int (nI 0), .int (nI (pmLen i)), pmJ, pmJ] [] T v P := by
  refine ev_iload_n 0 dJ1_indexOfChar_4cfef_0 rfl ?_
  refine ev_i2b 1 dJ1_indexOfChar_4cfef_1 ?_
  refine ev_istore (ls' := [.ref (2 * i + 1), .int (nI c), .int (nI 0), .int (nI (pmLen i)), .int ((nI c).toInt8.toInt32), pmJ]) 2 dJ1_indexOfChar_4cfef_2 (Nat.le_of_ble_eq_true rfl) rfl ?_
  refine ev_iload_n 4 dJ1_indexOfChar_4cfef_4 rfl ?_
  refine ev_istore (ls' := [.ref (2 * i + 1), .int (nI c), .int (nI 0), .int (nI (pmLen i)), .int ((nI c).toInt8.toInt32), .int (nI 0)]) 5 dJ1_indexOfChar_4cfef_5 (Nat.le_of_ble_eq_true rfl) rfl ?_
  exact lp_ix hi (Nat.le_refl _) k1 k0 (pmLen i) 0 (by omega) (fun q h => absurd h (Nat.not_lt_zero _))

theorem c_J1_indexOf {X : pmX} {d : Nat} {v : pmV} {P : Option Value → pmT → pmV → Prop} {T : pmT} {i : Nat} (hi : i < 14) {c : Nat} (hc : c < 256) (h0 : 0 < pmLen i) (k1 : ∀ j, j < pmLen i → sB i j = (nI c).toInt8.toInt32 → P (some (.int (nI j))) T v) (k0 : (∀ j, j < pmLen i → sB i j ≠ (nI c).toInt8.toInt32) → P (some (.int (-1))) T v) : EvP X (d + 1) MJ1_indexOf_4cfef 0 [.ref (2 * i + 1), .int (nI c), .int (nI 0), .int (nI (pmLen i))] [] T v P := by
  have h40 := (pmLen_t _ hi).1
  refine ev_iload_n 0 dJ1_indexOf_4cfef_0 rfl ?_
  refine cs_21_88 (pc := 1) rfl dJ1_indexOf_4cfef_1 (Nat.le_of_ble_eq_true rfl) ?_
  refine c_J1_canEncode hc ?_
  refine ev_ifT 4 9 dJ1_indexOf_4cfef_4 rfl (by decide) ?_
  refine ev_iload_n 9 dJ1_indexOf_4cfef_9 rfl ?_
  refine ev_iconst 10 dJ1_indexOf_4cfef_10 kI_0 ?_
  refine ev_max (x := (if nI 0 < 0 then 0 else nI 0)) 11 dJ1_indexOf_4cfef_11 mx_21_92 (Nat.le_of_ble_eq_true rfl) rfl ?_
  refine ev_cst (y := nI 0) (if_neg (by decide)) ?_
  refine ev_istore_n (ls' := [.ref (2 * i + 1), .int (nI c), .int (nI 0), .int (nI (pmLen i))]) 14 dJ1_indexOf_4cfef_14 (Nat.le_of_ble_eq_true rfl) rfl ?_
  refine ev_iload_n 15 dJ1_indexOf_4cfef_15 rfl ?_
  refine ev_aload_n 16 dJ1_indexOf_4cfef_16 rfl (by omega) ?_
  refine ev_alenS (x := nI (pmLen i)) 17 i dJ1_indexOf_4cfef_17 hi rfl ?_
  refine ev_min (x := (if nI (pmLen i) < nI (pmLen i) then nI (pmLen i) else nI (pmLen i))) 18 dJ1_indexOf_4cfef_18 mn0_21_38 mn_21_38 (Nat.le_of_ble_eq_true rfl) rfl ?_
  refine ev_cst (y := nI (pmLen i)) (ite_self _) ?_
  refine ev_istore_n (ls' := [.ref (2 * i + 1), .int (nI c), .int (nI 0), .int (nI (pmLen i))]) 21 dJ1_indexOf_4cfef_21 (Nat.le_of_ble_eq_true rfl) rfl ?_
  refine ev_iload_n 22 dJ1_indexOf_4cfef_22 rfl ?_
  refine ev_iload_n 23 dJ1_indexOf_4cfef_23 rfl ?_
  refine ev_ic_ltN (a := 0) (b := (pmLen i)) 24 29 dJ1_indexOf_4cfef_24 rfl (by omega) (by omega) (fun c_24 => ?_) (fun c_24 => by omega)
  refine ev_aload_n 29 dJ1_indexOf_4cfef_29 rfl (by omega) ?_
  refine ev_iload_n 30 dJ1_indexOf_4cfef_30 rfl ?_
  refine ev_iload_n 31 dJ1_indexOf_4cfef_31 rfl ?_
  refine ev_iload_n 32 dJ1_indexOf_4cfef_32 rfl ?_
  refine cs_21_95 (pc := 33) rfl dJ1_indexOf_4cfef_33 (Nat.le_of_ble_eq_true rfl) ?_
  refine c_J1_indexOfChar hi (fun j hj hx => ?_) (fun hx => ?_)
  · refine ev_ireturn 36 dJ1_indexOf_4cfef_36 rfl rfl ?_
    exact k1 j hj hx
  · refine ev_ireturn 36 dJ1_indexOf_4cfef_36 rfl rfl ?_
    exact k0 hx

theorem c_J0_indexOf2 {X : pmX} {d : Nat} {v : pmV} {P : Option Value → pmT → pmV → Prop} {T : pmT} {i : Nat} (hi : i < 14) {c : Nat} (hc : c < 256) (h0 : 0 < pmLen i) (k1 : ∀ j, j < pmLen i → sB i j = (nI c).toInt8.toInt32 → P (some (.int (nI j))) T v) (k0 : (∀ j, j < pmLen i → sB i j ≠ (nI c).toInt8.toInt32) → P (some (.int (-1))) T v) : EvP X (d + 2) MJ0_indexOf_7cf53 0 [.ref (2 * i), .int (nI c), .int (nI 0)] [] T v P := by
  refine ev_aload_n 0 dJ0_indexOf_7cf53_0 rfl (by omega) ?_
  refine cv_20_492_20 (pc := 1) rfl dJ0_indexOf_7cf53_1 (kS hi) (Nat.le_of_ble_eq_true rfl) ?_
  refine c_J0_isLatin1 hi ?_
  refine ev_ifF 4 23 dJ0_indexOf_7cf53_4 rfl (by decide) ?_
  refine ev_aload_n 7 dJ0_indexOf_7cf53_7 rfl (by omega) ?_
  refine ev_getS (x := .ref (2 * i + 1)) 8 dJ0_indexOf_7cf53_8 (gS_9 hi) ?_
  refine ev_iload_n 11 dJ0_indexOf_7cf53_11 rfl ?_
  refine ev_iload_n 12 dJ0_indexOf_7cf53_12 rfl ?_
  refine ev_aload_n 13 dJ0_indexOf_7cf53_13 rfl (by omega) ?_
  refine cv_20_505_20 (pc := 14) rfl dJ0_indexOf_7cf53_14 (kS hi) (Nat.le_of_ble_eq_true rfl) ?_
  refine c_J0_length hi ?_
  refine cs_20_637 (pc := 17) rfl dJ0_indexOf_7cf53_17 (Nat.le_of_ble_eq_true rfl) ?_
  refine c_J1_indexOf hi hc h0 (fun j hj hx => ?_) (fun hx => ?_)
  · refine ev_goto 20 36 dJ0_indexOf_7cf53_20 rfl ?_
    refine ev_ireturn 36 dJ0_indexOf_7cf53_36 rfl rfl ?_
    exact k1 j hj hx
  · refine ev_goto 20 36 dJ0_indexOf_7cf53_20 rfl ?_
    refine ev_ireturn 36 dJ0_indexOf_7cf53_36 rfl rfl ?_
    exact k0 hx

theorem c_J0_indexOf {X : pmX} {d : Nat} {v : pmV} {P : Option Value → pmT → pmV → Prop} {T : pmT} {i : Nat} (hi : i < 14) {c : Nat} (hc : c < 256) (h0 : 0 < pmLen i) (k1 : ∀ j, j < pmLen i → sB i j = (nI c).toInt8.toInt32 → P (some (.int (nI j))) T v) (k0 : (∀ j, j < pmLen i → sB i j ≠ (nI c).toInt8.toInt32) → P (some (.int (-1))) T v) : EvP X (d + 3) MJ0_indexOf_0f7a4 0 [.ref (2 * i), .int (nI c)] [] T v P := by
  refine ev_aload_n 0 dJ0_indexOf_0f7a4_0 rfl (by omega) ?_
  refine ev_iload_n 1 dJ0_indexOf_0f7a4_1 rfl ?_
  refine ev_iconst 2 dJ0_indexOf_0f7a4_2 kI_0 ?_
  refine cv_20_633_20 (pc := 3) rfl dJ0_indexOf_0f7a4_3 (kS hi) (Nat.le_of_ble_eq_true rfl) ?_
  refine c_J0_indexOf2 hi hc h0 (fun j hj hx => ?_) (fun hx => ?_)
  · refine ev_ireturn 6 dJ0_indexOf_0f7a4_6 rfl rfl ?_
    exact k1 j hj hx
  · refine ev_ireturn 6 dJ0_indexOf_0f7a4_6 rfl rfl ?_
    exact k0 hx

