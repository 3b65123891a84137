/-! TEXTS: the class's words, numbers, one token -/
abbrev isW (B : Nat → Int32) (i a e : Nat) : Prop := pmLen i = e - a ∧ ∀ j, j < pmLen i → sB i j = B (a + j)
theorem wd_ne : ∀ i, i < 12 → ∀ k, k < 12 → i ≠ k → pmLen (i + 1) ≠ pmLen (k + 1) ∨ ∃ j, j < pmLen (i + 1) ∧ sB (i + 1) j ≠ sB (k + 1) j := by decide +kernel
theorem isW_un {B : Nat → Int32} {i k a e : Nat} (hi : i < 12) (hk : k < 12) (h : isW B (i + 1) a e) (h' : isW B (k + 1) a e) : i = k := by
  by_cases c : i = k
  · exact c
  · rcases wd_ne i hi k hk c with d | ⟨j, hj, d⟩
    · exact absurd (h.1.trans h'.1.symm) d
    · exact absurd ((h.2 j hj).trans (h'.2 j (by rw [h'.1, ← h.1]; exact hj)).symm) d
/-- which word it is; 12 for none -/
def wF (B : Nat → Int32) (a e : Nat) : Nat → Nat
  | 0 => 12
  | k + 1 => if isW B (k + 1) a e then k else wF B a e k
theorem wF_s {B : Nat → Int32} {a e : Nat} : ∀ n, n ≤ 12 → (wF B a e n = 12 ∧ ∀ i, i < n → ¬ isW B (i + 1) a e) ∨ (wF B a e n < n ∧ isW B (wF B a e n + 1) a e)
  | 0, _ => Or.inl ⟨rfl, fun i hi => absurd hi (Nat.not_lt_zero _)⟩
  | n + 1, hn => by
    by_cases c : isW B (n + 1) a e
    · have : wF B a e (n + 1) = n := by rw [wF, if_pos c]
      rw [this]; exact Or.inr ⟨Nat.lt_succ_self _, c⟩
    · have : wF B a e (n + 1) = wF B a e n := by rw [wF, if_neg c]
      rw [this]
      rcases wF_s (B := B) (a := a) (e := e) n (by omega) with ⟨h1, h2⟩ | ⟨h1, h2⟩
      · refine Or.inl ⟨h1, fun i hi => ?_⟩
        by_cases q : i = n
        · subst q; exact c
        · exact h2 i (by omega)
      · exact Or.inr ⟨by omega, h2⟩
theorem wF_iff {B : Nat → Int32} {a e i : Nat} (hi : i < 12) : isW B (i + 1) a e ↔ i = wF B a e 12 := by
  rcases wF_s (B := B) (a := a) (e := e) 12 (Nat.le_refl _) with ⟨h1, h2⟩ | ⟨h1, h2⟩
  · exact ⟨fun h => absurd h (h2 i hi), fun h => by omega⟩
  · exact ⟨fun h => isW_un hi h1 h h2, fun h => by rw [h]; exact h2⟩
def tkW (w : Nat) : Int32 := if w < 6 then 3 else if w < 12 then nI (4 + w - 6) else 1
def nF (B : Nat → Int32) (a : Nat) : Nat → Int32
  | 0 => 0
  | n + 1 => 10 * nF B a n + B (a + n) - 48
def tkC (B : Nat → Int32) (a e : Nat) : Int32 := if lB (B a) then tkW (wF B a e 12) else if dB (B a) then (if 4 < e - a then 1 else 2) else if sgB (B a) then B a else 1
def tkV (B : Nat → Int32) (a e : Nat) : Int32 := if lB (B a) then -1 - nI (wF B a e 12) else nF B a (e - a)
/-- the m-th token is laid -/
def TM (v v' : pmV) (m : Nat) (c x : Int32) : Prop := Of (fun a j => (a = 43 ∨ a = 45) ∧ j = m) v v' ∧ v'.1 43 m = c ∧ (c = 2 ∨ c = 3 → v'.1 45 m = x)
theorem lp_isW {X : pmX} {d : Nat} {v : pmV} {P : Option Value → pmT → pmV → Prop} {T : pmT} {B : Nat → Int32} {z : Nat} (hK : TK T) (hX : pmRfX v) (hz160 : z ≤ 160) (hz : v.1 41 1 = nI z) (hB : ∀ j, j < z → v.1 42 j = B j) {a e i : Nat} (hi : i < 14) (hae : a ≤ e) (hez : e ≤ z) (hl : pmLen i = e - a) (kt : isW B i a e → P (some (.int 1)) T v) (kf : ¬ isW B i a e → P (some (.int 0)) T v) : ∀ (k j : Nat), j + k = pmLen i → (∀ q, q < j → sB i q = B (a + q)) → EvP X (d + 4) MX4_isWord 20 [.ref 41, .ref (2 * i), .int (nI a), .int (nI e), .int 1, .int (nI j)] [] T v P
  | 0, j, hj, hq => by
    have h40 := (pmLen_t _ hi).1
    refine ev_iload 20 dX4_isWord_20 rfl ?_
    refine ev_ifF 22 65 dX4_isWord_22 rfl (by decide) ?_
    refine ev_iload 25 dX4_isWord_25 rfl ?_
    refine ev_aload_n 27 dX4_isWord_27 rfl (by omega) ?_
    refine cv_4_35_20 (pc := 28) rfl dX4_isWord_28 (kS hi) (Nat.le_of_ble_eq_true rfl) ?_
    refine c_J0_length hi ?_
    refine ev_ic_geN (a := j) (b := (pmLen i)) 31 65 dX4_isWord_31 rfl (by omega) (by omega) (fun c_31 => ?_) (fun c_31 => by omega)
    refine ev_iload 65 dX4_isWord_65 rfl ?_
    refine ev_ireturn 67 dX4_isWord_67 rfl rfl ?_
    exact kt ⟨hl, fun q h => hq q (by omega)⟩
  | k + 1, j, hj, hq => by
    have h40 := (pmLen_t _ hi).1
    refine ev_iload 20 dX4_isWord_20 rfl ?_
    refine ev_ifF 22 65 dX4_isWord_22 rfl (by decide) ?_
    refine ev_iload 25 dX4_isWord_25 rfl ?_
    refine ev_aload_n 27 dX4_isWord_27 rfl (by omega) ?_
    refine cv_4_35_20 (pc := 28) rfl dX4_isWord_28 (kS hi) (Nat.le_of_ble_eq_true rfl) ?_
    refine c_J0_length hi ?_
    refine ev_ic_geN (a := j) (b := (pmLen i)) 31 65 dX4_isWord_31 rfl (by omega) (by omega) (fun c_31 => by omega) (fun c_31 => ?_)
    refine ev_aload_n 34 dX4_isWord_34 rfl (by omega) ?_
    refine ev_iload 35 dX4_isWord_35 rfl ?_
    refine cv_4_41_20 (pc := 37) rfl dX4_isWord_37 (kS hi) (Nat.le_of_ble_eq_true rfl) ?_
    refine c_J0_charAt hi (by omega) ?_
    refine ev_aload_n 40 dX4_isWord_40 rfl (by decide) ?_
    refine gf_4_9 (pc := 41) rfl dX4_isWord_41 (kT_41 hK) (rX_41_0 hX) ?_
    refine ev_iload_n 44 dX4_isWord_44 rfl ?_
    refine ev_iload 45 dX4_isWord_45 rfl ?_
    refine ev_iadd 47 dX4_isWord_47 ?_
    refine ev_cst (y := nI (a + j)) (nI_add a j) ?_
    refine ev_ialdJ (x := B (a + j)) (j := a + j) 48 dX4_isWord_48 (Nat.le_of_ble_eq_true rfl) (tT_42 hK) (pm_inI (by omega) (by omega)) (nI_clamp (by omega)) (hB _ (by omega)) ?_
    refine ev_ic_ne 49 56 dX4_isWord_49 rfl (fun c_49 => ?_) (fun c_49 => ?_)
    · refine ev_iconst 56 dX4_isWord_56 kI_0 ?_
      refine ev_istore (ls' := [.ref 41, .ref (2 * i), .int (nI a), .int (nI e), .int 0, .int (nI j)]) 57 dX4_isWord_57 (Nat.le_of_ble_eq_true rfl) rfl ?_
      refine ev_iinc (y := nI (j + 1)) (ls' := [.ref 41, .ref (2 * i), .int (nI a), .int (nI e), .int 0, .int (nI (j + 1))]) 59 dX4_isWord_59 rfl (nI_add j 1) rfl ?_
      refine ev_goto 62 20 dX4_isWord_62 rfl ?_
      refine ev_iload 20 dX4_isWord_20 rfl ?_
      refine ev_ifT 22 65 dX4_isWord_22 rfl (by decide) ?_
      refine ev_iload 65 dX4_isWord_65 rfl ?_
      refine ev_ireturn 67 dX4_isWord_67 rfl rfl ?_
      exact kf (fun h => c_49 (h.2 j (by omega)))
    · refine ev_iconst 52 dX4_isWord_52 kI_1 ?_
      refine ev_goto 53 57 dX4_isWord_53 rfl ?_
      refine ev_istore (ls' := [.ref 41, .ref (2 * i), .int (nI a), .int (nI e), .int 1, .int (nI j)]) 57 dX4_isWord_57 (Nat.le_of_ble_eq_true rfl) rfl ?_
      refine ev_iinc (y := nI (j + 1)) (ls' := [.ref 41, .ref (2 * i), .int (nI a), .int (nI e), .int 1, .int (nI (j + 1))]) 59 dX4_isWord_59 rfl (nI_add j 1) rfl ?_
      refine ev_goto 62 20 dX4_isWord_62 rfl ?_
      exact lp_isW hK hX hz160 hz hB hi hae hez hl kt kf k (j + 1) (by omega) (fun q h => by
        by_cases e : q = j
        · subst e; simpa using c_49
        · exact hq q (by omega))
theorem c_X4_isWord {X : pmX} {d : Nat} {v : pmV} {P : Option Value → pmT → pmV → Prop} {T : pmT} {B : Nat → Int32} {z : Nat} (hK : TK T) (hX : pmRfX v) (hz160 : z ≤ 160) (hz : v.1 41 1 = nI z) (hB : ∀ j, j < z → v.1 42 j = B j) {a e i : Nat} (hi : i < 14) (hae : a ≤ e) (hez : e ≤ z) (kt : isW B i a e → P (some (.int 1)) T v) (kf : ¬ isW B i a e → P (some (.int 0)) T v) : EvP X (d + 4) MX4_isWord 0 [.ref 41, .ref (2 * i), .int (nI a), .int (nI e), pmJ, pmJ] [] T v P := by
  have h40 := (pmLen_t _ hi).1
  refine ev_aload_n 0 dX4_isWord_0 rfl (by omega) ?_
  refine cv_4_35_20 (pc := 1) rfl dX4_isWord_1 (kS hi) (Nat.le_of_ble_eq_true rfl) ?_
  refine c_J0_length hi ?_
  refine ev_iload_n 4 dX4_isWord_4 rfl ?_
  refine ev_iload_n 5 dX4_isWord_5 rfl ?_
  refine ev_isub 6 dX4_isWord_6 ?_
  refine ev_cst (y := nI (e - a)) (pk_sub (a := e) (b := a) (by omega)) ?_
  refine ev_ic_neN (a := (pmLen i)) (b := (e - a)) 7 14 dX4_isWord_7 rfl (by omega) (by omega) (fun c_7 => ?_) (fun c_7 => ?_)
  · refine ev_iconst 14 dX4_isWord_14 kI_0 ?_
    refine ev_istore (ls' := [.ref 41, .ref (2 * i), .int (nI a), .int (nI e), .int 0, pmJ]) 15 dX4_isWord_15 (Nat.le_of_ble_eq_true rfl) rfl ?_
    refine ev_iconst 17 dX4_isWord_17 kI_0 ?_
    refine ev_istore (ls' := [.ref 41, .ref (2 * i), .int (nI a), .int (nI e), .int 0, .int 0]) 18 dX4_isWord_18 (Nat.le_of_ble_eq_true rfl) rfl ?_
    refine ev_iload 20 dX4_isWord_20 rfl ?_
    refine ev_ifT 22 65 dX4_isWord_22 rfl (by decide) ?_
    refine ev_iload 65 dX4_isWord_65 rfl ?_
    refine ev_ireturn 67 dX4_isWord_67 rfl rfl ?_
    exact kf (fun h => absurd h.1 (by omega))
  · refine ev_iconst 10 dX4_isWord_10 kI_1 ?_
    refine ev_goto 11 15 dX4_isWord_11 rfl ?_
    refine ev_istore (ls' := [.ref 41, .ref (2 * i), .int (nI a), .int (nI e), .int 1, pmJ]) 15 dX4_isWord_15 (Nat.le_of_ble_eq_true rfl) rfl ?_
    refine ev_iconst 17 dX4_isWord_17 kI_0 ?_
    refine ev_istore (ls' := [.ref 41, .ref (2 * i), .int (nI a), .int (nI e), .int 1, .int 0]) 18 dX4_isWord_18 (Nat.le_of_ble_eq_true rfl) rfl ?_
    exact lp_isW hK hX hz160 hz hB hi hae hez (by omega) kt kf (pmLen i) 0 (by omega) (fun q h => absurd h (Nat.not_lt_zero _))

theorem lp_tkW {X : pmX} {d : Nat} {v0 : pmV} {P : Option Value → pmT → pmV → Prop} {T : pmT} {B : Nat → Int32} {z : Nat} (hK : TK T) (hX : pmRfX v0) (hz160 : z ≤ 160) (hz : v0.1 41 1 = nI z) (hB : ∀ j, j < z → v0.1 42 j = B j) {a e m : Nat} (hm : m ≤ 160) (hae : a ≤ e) (hez : e ≤ z) (K : ∀ v', TM v0 v' m (tkW (wF B a e 12)) (-1 - nI (wF B a e 12)) → P none T v') : ∀ (k i : Nat) (v : pmV), i + k = 12 → Of (fun a j => (a = 43 ∨ a = 45) ∧ j = m) v0 v → v.1 43 m = (if wF B a e 12 < i then tkW (wF B a e 12) else 1) → (wF B a e 12 < i → v.1 45 m = -1 - nI (wF B a e 12)) → EvP X (d + 5) MX4_takeWord 10 [.ref 41, .int (nI m), .int (nI a), .int (nI e), .int (nI i)] [] T v P
  | 0, i, v, hi, hO, h1, h2 => by
    have hX0 := hX
    have hz0 := hz
    have hB0 := hB
    have hX : pmRfX v := hX.ag (congrArg Prod.snd hO.1)
    have hz : v.1 41 1 = nI z := (hO.off (by omega)).trans hz
    have hB : ∀ j, j < z → v.1 42 j = B j := fun j hj => (hO.off (by omega)).trans (hB j hj)
    refine ev_iload 10 dX4_takeWord_10 rfl ?_
    refine ev_bipush 12 dX4_takeWord_12 kB_12 ?_
    refine ev_ic_geN (a := i) (b := 12) 14 71 dX4_takeWord_14 rfl (by omega) (by omega) (fun c_14 => ?_) (fun c_14 => by omega)
    refine ev_return 71 dX4_takeWord_71 rfl ?_
    refine K _ ⟨hO, ?_, fun h => h2 ?_⟩
    · rw [h1]
      by_cases c : wF B a e 12 < i
      · rw [if_pos c]
      · rw [if_neg c]; unfold tkW; rw [if_neg (by omega), if_neg (by omega)]
    · by_cases c : wF B a e 12 < i
      · exact c
      · exfalso; unfold tkW at h; rw [if_neg (by omega), if_neg (by omega)] at h; revert h; decide
  | k + 1, i, v, hi, hO, h1, h2 => by
    have hX0 := hX
    have hz0 := hz
    have hB0 := hB
    have hX : pmRfX v := hX.ag (congrArg Prod.snd hO.1)
    have hz : v.1 41 1 = nI z := (hO.off (by omega)).trans hz
    have hB : ∀ j, j < z → v.1 42 j = B j := fun j hj => (hO.off (by omega)).trans (hB j hj)
    refine ev_iload 10 dX4_takeWord_10 rfl ?_
    refine ev_bipush 12 dX4_takeWord_12 kB_12 ?_
    refine ev_ic_geN (a := i) (b := 12) 14 71 dX4_takeWord_14 rfl (by omega) (by omega) (fun c_14 => by omega) (fun c_14 => ?_)
    refine ev_aload_n 17 dX4_takeWord_17 rfl (by decide) ?_
    refine ev_iload 18 dX4_takeWord_18 rfl ?_
    refine cs_4_95 (pc := 20) rfl dX4_takeWord_20 (Nat.le_of_ble_eq_true rfl) ?_
    refine c_X4_wordOf (by omega) ?_
    refine ev_iload_n 23 dX4_takeWord_23 rfl ?_
    refine ev_iload_n 24 dX4_takeWord_24 rfl ?_
    refine cv_4_99_4 (pc := 25) rfl dX4_takeWord_25 (kT_41 hK) (Nat.le_of_ble_eq_true rfl) ?_
    refine c_X4_isWord (i := i + 1) hK hX hz160 hz hB (by omega) hae hez (fun h_iw => ?_) (fun h_iw => ?_)
    · refine ev_ifF 28 65 dX4_takeWord_28 rfl (by decide) ?_
      refine ev_aload_n 31 dX4_takeWord_31 rfl (by decide) ?_
      refine gf_4_15 (pc := 32) rfl dX4_takeWord_32 (kT_41 hK) (rX_41_2 hX) ?_
      refine ev_iload_n 35 dX4_takeWord_35 rfl ?_
      refine ev_iload 36 dX4_takeWord_36 rfl ?_
      refine ev_bipush 38 dX4_takeWord_38 kB_6 ?_
      refine ev_ic_geN (a := i) (b := 6) 40 47 dX4_takeWord_40 rfl (by omega) (by omega) (fun c_40 => ?_) (fun c_40 => ?_)
      · refine ev_iconst 47 dX4_takeWord_47 kI_4 ?_
        refine ev_iload 48 dX4_takeWord_48 rfl ?_
        refine ev_iadd 50 dX4_takeWord_50 ?_
        refine ev_cst (y := nI (4 + i)) (nI_add 4 i) ?_
        refine ev_bipush 51 dX4_takeWord_51 kB_6 ?_
        refine ev_isub 53 dX4_takeWord_53 ?_
        refine ev_cst (y := nI (4 + i - 6)) (pk_sub (a := (4 + i)) (b := 6) (by omega)) ?_
        refine ev_iastJ (j := m) 54 dX4_takeWord_54 (Nat.le_of_ble_eq_true rfl) (tT_43 hK) (pm_inI (by omega) (by omega)) (nI_clamp (by omega)) ?_
        refine ev_aload_n 55 dX4_takeWord_55 rfl (by decide) ?_
        refine gf_4_21 (pc := 56) rfl dX4_takeWord_56 (kT_41 hK) (rX_41_4 hX) ?_
        refine ev_iload_n 59 dX4_takeWord_59 rfl ?_
        refine ev_iconst 60 dX4_takeWord_60 kI_m1 ?_
        refine ev_iload 61 dX4_takeWord_61 rfl ?_
        refine ev_isub 63 dX4_takeWord_63 ?_
        refine ev_iastJ (j := m) 64 dX4_takeWord_64 (Nat.le_of_ble_eq_true rfl) (tT_45 hK) (pm_inI (by omega) (by omega)) (nI_clamp (by omega)) ?_
        refine ev_iinc (y := nI (i + 1)) (ls' := [.ref 41, .int (nI m), .int (nI a), .int (nI e), .int (nI (i + 1))]) 65 dX4_takeWord_65 rfl (nI_add i 1) rfl ?_
        refine ev_goto 68 10 dX4_takeWord_68 rfl ?_
        have hw := (wF_iff (by omega)).mp h_iw
        refine lp_tkW hK hX0 hz160 hz0 hB0 hm hae hez K k (i + 1) _ (by omega) ((hO.i ⟨Or.inl rfl, rfl⟩).i ⟨Or.inr rfl, rfl⟩) ?_ (fun _ => ?_)
        · rw [uI_ne (by decide), uI_on, if_pos (by omega), ← hw]; unfold tkW; first | rw [if_pos (by omega)] | rw [if_neg (by omega), if_pos (by omega)]
        · rw [uI_on, ← hw]
      · refine ev_iconst 43 dX4_takeWord_43 kI_3 ?_
        refine ev_goto 44 54 dX4_takeWord_44 rfl ?_
        refine ev_iastJ (j := m) 54 dX4_takeWord_54 (Nat.le_of_ble_eq_true rfl) (tT_43 hK) (pm_inI (by omega) (by omega)) (nI_clamp (by omega)) ?_
        refine ev_aload_n 55 dX4_takeWord_55 rfl (by decide) ?_
        refine gf_4_21 (pc := 56) rfl dX4_takeWord_56 (kT_41 hK) (rX_41_4 hX) ?_
        refine ev_iload_n 59 dX4_takeWord_59 rfl ?_
        refine ev_iconst 60 dX4_takeWord_60 kI_m1 ?_
        refine ev_iload 61 dX4_takeWord_61 rfl ?_
        refine ev_isub 63 dX4_takeWord_63 ?_
        refine ev_iastJ (j := m) 64 dX4_takeWord_64 (Nat.le_of_ble_eq_true rfl) (tT_45 hK) (pm_inI (by omega) (by omega)) (nI_clamp (by omega)) ?_
        refine ev_iinc (y := nI (i + 1)) (ls' := [.ref 41, .int (nI m), .int (nI a), .int (nI e), .int (nI (i + 1))]) 65 dX4_takeWord_65 rfl (nI_add i 1) rfl ?_
        refine ev_goto 68 10 dX4_takeWord_68 rfl ?_
        have hw := (wF_iff (by omega)).mp h_iw
        refine lp_tkW hK hX0 hz160 hz0 hB0 hm hae hez K k (i + 1) _ (by omega) ((hO.i ⟨Or.inl rfl, rfl⟩).i ⟨Or.inr rfl, rfl⟩) ?_ (fun _ => ?_)
        · rw [uI_ne (by decide), uI_on, if_pos (by omega), ← hw]; unfold tkW; first | rw [if_pos (by omega)] | rw [if_neg (by omega), if_pos (by omega)]
        · rw [uI_on, ← hw]
    · refine ev_ifT 28 65 dX4_takeWord_28 rfl (by decide) ?_
      refine ev_iinc (y := nI (i + 1)) (ls' := [.ref 41, .int (nI m), .int (nI a), .int (nI e), .int (nI (i + 1))]) 65 dX4_takeWord_65 rfl (nI_add i 1) rfl ?_
      refine ev_goto 68 10 dX4_takeWord_68 rfl ?_
      have hw : ¬ i = wF B a e 12 := fun h => h_iw ((wF_iff (by omega)).mpr h)
      refine lp_tkW hK hX0 hz160 hz0 hB0 hm hae hez K k (i + 1) _ (by omega) hO ?_ (fun h => h2 (by omega))
      rw [h1]
      by_cases c : wF B a e 12 < i
      · rw [if_pos c, if_pos (by omega)]
      · rw [if_neg c, if_neg (by omega)]
theorem c_X4_takeWord {X : pmX} {d : Nat} {v : pmV} {P : Option Value → pmT → pmV → Prop} {T : pmT} {B : Nat → Int32} {z : Nat} (hK : TK T) (hX : pmRfX v) (hz160 : z ≤ 160) (hz : v.1 41 1 = nI z) (hB : ∀ j, j < z → v.1 42 j = B j) {a e m : Nat} (hm : m ≤ 160) (hae : a ≤ e) (hez : e ≤ z) (K : ∀ v', TM v v' m (tkW (wF B a e 12)) (-1 - nI (wF B a e 12)) → P none T v') : EvP X (d + 5) MX4_takeWord 0 [.ref 41, .int (nI m), .int (nI a), .int (nI e), pmJ] [] T v P := by
  refine ev_aload_n 0 dX4_takeWord_0 rfl (by decide) ?_
  refine gf_4_15 (pc := 1) rfl dX4_takeWord_1 (kT_41 hK) (rX_41_2 hX) ?_
  refine ev_iload_n 4 dX4_takeWord_4 rfl ?_
  refine ev_iconst 5 dX4_takeWord_5 kI_1 ?_
  refine ev_iastJ (j := m) 6 dX4_takeWord_6 (Nat.le_of_ble_eq_true rfl) (tT_43 hK) (pm_inI (by omega) (by omega)) (nI_clamp (by omega)) ?_
  refine ev_iconst 7 dX4_takeWord_7 kI_0 ?_
  refine ev_istore (ls' := [.ref 41, .int (nI m), .int (nI a), .int (nI e), .int 0]) 8 dX4_takeWord_8 (Nat.le_of_ble_eq_true rfl) rfl ?_
  exact lp_tkW hK hX hz160 hz hB hm hae hez K 12 0 _ (by omega) (Of.nil.i ⟨Or.inl rfl, rfl⟩) (by rw [uI_on, if_neg (by omega)]) (fun h => absurd h (Nat.not_lt_zero _))

