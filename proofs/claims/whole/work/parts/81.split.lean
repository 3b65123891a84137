/-! TEXTS: the class's numbers, its split, its reading -/
theorem lp_num {X : pmX} {d : Nat} {v : pmV} {P : Option Value → pmT → pmV → Prop} {T : pmT} {B : Nat → Int32} {z : Nat} (hK : TK T) (hX : pmRfX v) (hz160 : z ≤ 160) (hz : v.1 41 1 = nI z) (hB : ∀ j, j < z → v.1 42 j = B j) {a e m : Nat} (hm : m ≤ 160) (hae : a ≤ e) (hez : e ≤ z) (K : ∀ v', TM v v' m (if 4 < e - a then 1 else 2) (nF B a (e - a)) → P none T v') : ∀ (k n : Nat), n + k = e - a → EvP X d MX4_takeNumber 6 [.ref 41, .int (nI m), .int (nI a), .int (nI e), .int (nF B a n), .int (nI (a + n))] [] T v P
  | 0, n, hn => by
    obtain rfl : n = e - a := by omega
    refine ev_iload 6 dX4_takeNumber_6 rfl ?_
    refine ev_iload_n 8 dX4_takeNumber_8 rfl ?_
    refine ev_ic_geN (a := (a + (e - a))) (b := e) 9 36 dX4_takeNumber_9 rfl (by omega) (by omega) (fun c_9 => ?_) (fun c_9 => by omega)
    refine ev_aload_n 36 dX4_takeNumber_36 rfl (by decide) ?_
    refine gf_4_15 (pc := 37) rfl dX4_takeNumber_37 (kT_41 hK) (rX_41_2 hX) ?_
    refine ev_iload_n 40 dX4_takeNumber_40 rfl ?_
    refine ev_iload_n 41 dX4_takeNumber_41 rfl ?_
    refine ev_iload_n 42 dX4_takeNumber_42 rfl ?_
    refine ev_isub 43 dX4_takeNumber_43 ?_
    refine ev_cst (y := nI (e - a)) (pk_sub (a := e) (b := a) (by omega)) ?_
    refine ev_iconst 44 dX4_takeNumber_44 kI_4 ?_
    refine ev_ic_leN (a := (e - a)) (b := 4) 45 52 dX4_takeNumber_45 rfl (by omega) (by omega) (fun c_45 => ?_) (fun c_45 => ?_)
    · refine ev_iconst 52 dX4_takeNumber_52 kI_2 ?_
      refine ev_iastJ (j := m) 53 dX4_takeNumber_53 (Nat.le_of_ble_eq_true rfl) (tT_43 hK) (pm_inI (by omega) (by omega)) (nI_clamp (by omega)) ?_
      refine ev_aload_n 54 dX4_takeNumber_54 rfl (by decide) ?_
      refine gf_4_21 (pc := 55) rfl dX4_takeNumber_55 (kT_41 hK) (rX_41_4 hX) ?_
      refine ev_iload_n 58 dX4_takeNumber_58 rfl ?_
      refine ev_iload 59 dX4_takeNumber_59 rfl ?_
      refine ev_iastJ (j := m) 61 dX4_takeNumber_61 (Nat.le_of_ble_eq_true rfl) (tT_45 hK) (pm_inI (by omega) (by omega)) (nI_clamp (by omega)) ?_
      refine ev_return 62 dX4_takeNumber_62 rfl ?_
      refine K _ ⟨(Of.nil.i ⟨Or.inl rfl, rfl⟩).i ⟨Or.inr rfl, rfl⟩, (uI_ne (by decide)).trans (uI_on.trans ?_), fun _ => uI_on⟩
      first | exact (if_pos (by omega)).symm | exact (if_neg (by omega)).symm
    · refine ev_iconst 48 dX4_takeNumber_48 kI_1 ?_
      refine ev_goto 49 53 dX4_takeNumber_49 rfl ?_
      refine ev_iastJ (j := m) 53 dX4_takeNumber_53 (Nat.le_of_ble_eq_true rfl) (tT_43 hK) (pm_inI (by omega) (by omega)) (nI_clamp (by omega)) ?_
      refine ev_aload_n 54 dX4_takeNumber_54 rfl (by decide) ?_
      refine gf_4_21 (pc := 55) rfl dX4_takeNumber_55 (kT_41 hK) (rX_41_4 hX) ?_
      refine ev_iload_n 58 dX4_takeNumber_58 rfl ?_
      refine ev_iload 59 dX4_takeNumber_59 rfl ?_
      refine ev_iastJ (j := m) 61 dX4_takeNumber_61 (Nat.le_of_ble_eq_true rfl) (tT_45 hK) (pm_inI (by omega) (by omega)) (nI_clamp (by omega)) ?_
      refine ev_return 62 dX4_takeNumber_62 rfl ?_
      refine K _ ⟨(Of.nil.i ⟨Or.inl rfl, rfl⟩).i ⟨Or.inr rfl, rfl⟩, (uI_ne (by decide)).trans (uI_on.trans ?_), fun _ => uI_on⟩
      first | exact (if_pos (by omega)).symm | exact (if_neg (by omega)).symm
  | k + 1, n, hn => by
    refine ev_iload 6 dX4_takeNumber_6 rfl ?_
    refine ev_iload_n 8 dX4_takeNumber_8 rfl ?_
    refine ev_ic_geN (a := (a + n)) (b := e) 9 36 dX4_takeNumber_9 rfl (by omega) (by omega) (fun c_9 => by omega) (fun c_9 => ?_)
    refine ev_bipush 12 dX4_takeNumber_12 kB_10 ?_
    refine ev_iload 14 dX4_takeNumber_14 rfl ?_
    refine ev_imul 16 dX4_takeNumber_16 ?_
    refine ev_aload_n 17 dX4_takeNumber_17 rfl (by decide) ?_
    refine gf_4_9 (pc := 18) rfl dX4_takeNumber_18 (kT_41 hK) (rX_41_0 hX) ?_
    refine ev_iload 21 dX4_takeNumber_21 rfl ?_
    refine ev_ialdJ (x := B (a + n)) (j := a + n) 23 dX4_takeNumber_23 (Nat.le_of_ble_eq_true rfl) (tT_42 hK) (pm_inI (by omega) (by omega)) (nI_clamp (by omega)) (hB _ (by omega)) ?_
    refine ev_iadd 24 dX4_takeNumber_24 ?_
    refine ev_bipush 25 dX4_takeNumber_25 kB_48 ?_
    refine ev_isub 27 dX4_takeNumber_27 ?_
    refine ev_istore (ls' := [.ref 41, .int (nI m), .int (nI a), .int (nI e), .int (((10 * (nF B a n)) + (B (a + n))) - 48), .int (nI (a + n))]) 28 dX4_takeNumber_28 (Nat.le_of_ble_eq_true rfl) rfl ?_
    refine ev_iinc (y := nI (a + n + 1)) (ls' := [.ref 41, .int (nI m), .int (nI a), .int (nI e), .int (((10 * (nF B a n)) + (B (a + n))) - 48), .int (nI (a + n + 1))]) 30 dX4_takeNumber_30 rfl (nI_add (a + n) 1) rfl ?_
    refine ev_goto 33 6 dX4_takeNumber_33 rfl ?_
    exact lp_num hK hX hz160 hz hB hm hae hez K k (n + 1) (by omega)
theorem c_X4_takeNumber {X : pmX} {d : Nat} {v : pmV} {P : Option Value → pmT → pmV → Prop} {T : pmT} {B : Nat → Int32} {z : Nat} (hK : TK T) (hX : pmRfX v) (hz160 : z ≤ 160) (hz : v.1 41 1 = nI z) (hB : ∀ j, j < z → v.1 42 j = B j) {a e m : Nat} (hm : m ≤ 160) (hae : a ≤ e) (hez : e ≤ z) (K : ∀ v', TM v v' m (if 4 < e - a then 1 else 2) (nF B a (e - a)) → P none T v') : EvP X d MX4_takeNumber 0 [.ref 41, .int (nI m), .int (nI a), .int (nI e), pmJ, pmJ] [] T v P := by
  refine ev_iconst 0 dX4_takeNumber_0 kI_0 ?_
  refine ev_istore (ls' := [.ref 41, .int (nI m), .int (nI a), .int (nI e), .int 0, pmJ]) 1 dX4_takeNumber_1 (Nat.le_of_ble_eq_true rfl) rfl ?_
  refine ev_iload_n 3 dX4_takeNumber_3 rfl ?_
  refine ev_istore (ls' := [.ref 41, .int (nI m), .int (nI a), .int (nI e), .int 0, .int (nI a)]) 4 dX4_takeNumber_4 (Nat.le_of_ble_eq_true rfl) rfl ?_
  exact lp_num hK hX hz160 hz hB hm hae hez K (e - a) 0 (by omega)

theorem c_X4_isSign2 {X : pmX} {d : Nat} {v : pmV} {P : Option Value → pmT → pmV → Prop} {T : pmT} {b : Int32} (hb : 0 ≤ b ∧ b ≤ 255) (kt : sgB b → P (some (.int 1)) T v) (kf : ¬ (sgB b) → P (some (.int 0)) T v) : EvP X (d + 4) MX4_isSign 0 [.int b] [] T v P := by
  obtain ⟨c, rfl, _, hc⟩ := nI_rng (a := 0) (b := 255) (by omega) (by omega) hb
  exact c_X4_isSign (by omega) kt kf
theorem c_X4_takeToken {X : pmX} {d : Nat} {v : pmV} {P : Option Value → pmT → pmV → Prop} {T : pmT} {B : Nat → Int32} {z : Nat} (hK : TK T) (hX : pmRfX v) (hz160 : z ≤ 160) (hz : v.1 41 1 = nI z) (hB : ∀ j, j < z → v.1 42 j = B j) (h255 : ∀ j, j < z → 0 ≤ B j ∧ B j ≤ 255) {a e m : Nat} (hm : m ≤ 160) (hae : a < e) (hez : e ≤ z) (K : ∀ v', TM v v' m (tkC B a e) (tkV B a e) → P none T v') : EvP X (d + 6) MX4_takeToken 0 [.ref 41, .int (nI m), .int (nI a), .int (nI e)] [] T v P := by
  refine ev_aload_n 0 dX4_takeToken_0 rfl (by decide) ?_
  refine gf_4_9 (pc := 1) rfl dX4_takeToken_1 (kT_41 hK) (rX_41_0 hX) ?_
  refine ev_iload_n 4 dX4_takeToken_4 rfl ?_
  refine ev_ialdJ (x := B a) (j := a) 5 dX4_takeToken_5 (Nat.le_of_ble_eq_true rfl) (tT_42 hK) (pm_inI (by omega) (by omega)) (nI_clamp (by omega)) (hB _ (by omega)) ?_
  refine cs_4_80 (pc := 6) rfl dX4_takeToken_6 (Nat.le_of_ble_eq_true rfl) ?_
  refine c_X4_isLetter (fun h_6 => ?_) (fun h_6 => ?_)
  · refine ev_ifF 9 22 dX4_takeToken_9 rfl (by decide) ?_
    refine ev_aload_n 12 dX4_takeToken_12 rfl (by decide) ?_
    refine ev_iload_n 13 dX4_takeToken_13 rfl ?_
    refine ev_iload_n 14 dX4_takeToken_14 rfl ?_
    refine ev_iload_n 15 dX4_takeToken_15 rfl ?_
    refine cv_4_86_4 (pc := 16) rfl dX4_takeToken_16 (kT_41 hK) (Nat.le_of_ble_eq_true rfl) ?_
    refine c_X4_takeWord hK hX hz160 hz hB hm (by omega) hez (fun v1 hT => ?_)
    refine ev_goto 19 72 dX4_takeToken_19 rfl ?_
    refine ev_return 72 dX4_takeToken_72 rfl ?_
    rw [show tkW (wF B a e 12) = tkC B a e by unfold tkC; rw [if_pos h_6], show -1 - nI (wF B a e 12) = tkV B a e by unfold tkV; rw [if_pos h_6]] at hT
    exact K _ hT
  · refine ev_ifT 9 22 dX4_takeToken_9 rfl (by decide) ?_
    refine ev_aload_n 22 dX4_takeToken_22 rfl (by decide) ?_
    refine gf_4_9 (pc := 23) rfl dX4_takeToken_23 (kT_41 hK) (rX_41_0 hX) ?_
    refine ev_iload_n 26 dX4_takeToken_26 rfl ?_
    refine ev_ialdJ (x := B a) (j := a) 27 dX4_takeToken_27 (Nat.le_of_ble_eq_true rfl) (tT_42 hK) (pm_inI (by omega) (by omega)) (nI_clamp (by omega)) (hB _ (by omega)) ?_
    refine cs_4_83 (pc := 28) rfl dX4_takeToken_28 (Nat.le_of_ble_eq_true rfl) ?_
    refine c_X4_isDigit (fun h_28 => ?_) (fun h_28 => ?_)
    · refine ev_ifF 31 44 dX4_takeToken_31 rfl (by decide) ?_
      refine ev_aload_n 34 dX4_takeToken_34 rfl (by decide) ?_
      refine ev_iload_n 35 dX4_takeToken_35 rfl ?_
      refine ev_iload_n 36 dX4_takeToken_36 rfl ?_
      refine ev_iload_n 37 dX4_takeToken_37 rfl ?_
      refine cv_4_89_4 (pc := 38) rfl dX4_takeToken_38 (kT_41 hK) (Nat.le_of_ble_eq_true rfl) ?_
      refine c_X4_takeNumber hK hX hz160 hz hB hm (by omega) hez (fun v2 hT => ?_)
      refine ev_goto 41 72 dX4_takeToken_41 rfl ?_
      refine ev_return 72 dX4_takeToken_72 rfl ?_
      rw [show (if 4 < e - a then (1 : Int32) else 2) = tkC B a e by unfold tkC; rw [if_neg h_6, if_pos h_28], show nF B a (e - a) = tkV B a e by unfold tkV; rw [if_neg h_6]] at hT
      exact K _ hT
    · refine ev_ifT 31 44 dX4_takeToken_31 rfl (by decide) ?_
      refine ev_aload_n 44 dX4_takeToken_44 rfl (by decide) ?_
      refine gf_4_15 (pc := 45) rfl dX4_takeToken_45 (kT_41 hK) (rX_41_2 hX) ?_
      refine ev_iload_n 48 dX4_takeToken_48 rfl ?_
      refine ev_aload_n 49 dX4_takeToken_49 rfl (by decide) ?_
      refine gf_4_9 (pc := 50) rfl dX4_takeToken_50 (kT_41 hK) (rX_41_0 hX) ?_
      refine ev_iload_n 53 dX4_takeToken_53 rfl ?_
      refine ev_ialdJ (x := B a) (j := a) 54 dX4_takeToken_54 (Nat.le_of_ble_eq_true rfl) (tT_42 hK) (pm_inI (by omega) (by omega)) (nI_clamp (by omega)) (hB _ (by omega)) ?_
      refine cs_4_92 (pc := 55) rfl dX4_takeToken_55 (Nat.le_of_ble_eq_true rfl) ?_
      refine c_X4_isSign2 (h255 _ (by omega)) (fun h_55 => ?_) (fun h_55 => ?_)
      · refine ev_ifF 58 70 dX4_takeToken_58 rfl (by decide) ?_
        refine ev_aload_n 61 dX4_takeToken_61 rfl (by decide) ?_
        refine gf_4_9 (pc := 62) rfl dX4_takeToken_62 (kT_41 hK) (rX_41_0 hX) ?_
        refine ev_iload_n 65 dX4_takeToken_65 rfl ?_
        refine ev_ialdJ (x := B a) (j := a) 66 dX4_takeToken_66 (Nat.le_of_ble_eq_true rfl) (tT_42 hK) (pm_inI (by omega) (by omega)) (nI_clamp (by omega)) (hB _ (by omega)) ?_
        refine ev_goto 67 71 dX4_takeToken_67 rfl ?_
        refine ev_iastJ (j := m) 71 dX4_takeToken_71 (Nat.le_of_ble_eq_true rfl) (tT_43 hK) (pm_inI (by omega) (by omega)) (nI_clamp (by omega)) ?_
        refine ev_return 72 dX4_takeToken_72 rfl ?_
        have hc : tkC B a e = B a := by unfold tkC; rw [if_neg h_6, if_neg h_28, if_pos h_55]
        refine K _ ⟨Of.nil.i ⟨Or.inl rfl, rfl⟩, uI_on.trans hc.symm, fun h => ?_⟩
        rw [hc] at h
        exfalso
        rcases h with h | h <;> (rw [h] at h_55; exact absurd h_55 (by decide))
      · refine ev_ifT 58 70 dX4_takeToken_58 rfl (by decide) ?_
        refine ev_iconst 70 dX4_takeToken_70 kI_1 ?_
        refine ev_iastJ (j := m) 71 dX4_takeToken_71 (Nat.le_of_ble_eq_true rfl) (tT_43 hK) (pm_inI (by omega) (by omega)) (nI_clamp (by omega)) ?_
        refine ev_return 72 dX4_takeToken_72 rfl ?_
        have hc : tkC B a e = 1 := by unfold tkC; rw [if_neg h_6, if_neg h_28, if_neg h_55]
        refine K _ ⟨Of.nil.i ⟨Or.inl rfl, rfl⟩, uI_on.trans hc.symm, fun h => ?_⟩
        rw [hc] at h
        exfalso
        revert h; decide

def tC (B : Nat → Int32) (z j : Nat) : Int32 := if tA B z j < z then tkC B (tA B z j) (eT B z (tA B z j)) else 0
def tV (B : Nat → Int32) (z j : Nat) : Int32 := tkV B (tA B z j) (eT B z (tA B z j))
def sC (a _j : Nat) : Prop := a = 43 ∨ a = 44 ∨ a = 45
/-- the tokens lie, m of them ahead of the end -/
def SPL (B : Nat → Int32) (z : Nat) (v0 v : pmV) (m : Nat) : Prop := Of sC v0 v ∧ m ≤ z ∧ tA B z m = z ∧ (∀ j, j < m → tA B z j < z) ∧ ∀ j, j ≤ m → v.1 43 j = tC B z j ∧ v.1 44 j = nI (tA B z j) ∧ (tC B z j = 2 ∨ tC B z j = 3 → v.1 45 j = tV B z j)
def SPi (B : Nat → Int32) (z : Nat) (v0 v : pmV) (m : Nat) : Prop := Of sC v0 v ∧ (∀ j, j < m → tA B z j < z) ∧ ∀ j, j < m → v.1 43 j = tC B z j ∧ v.1 44 j = nI (tA B z j) ∧ (tC B z j = 2 ∨ tC B z j = 3 → v.1 45 j = tV B z j)
theorem eT_bl {B : Nat → Int32} {z a : Nat} (h : bB (B a)) : eT B z a = a + 1 := rn_no (fun e => by
  have := of_decide_eq_true e.2
  rcases h with h | h <;> rw [h] at this <;> exact absurd this (by rintro (⟨q, _⟩ | ⟨q, _⟩) <;> exact absurd q (by decide)))
theorem lp_split {X : pmX} {d : Nat} {v0 : pmV} {P : Option Value → pmT → pmV → Prop} {T : pmT} {B : Nat → Int32} {z : Nat} (hK : TK T) (hX : pmRfX v0) (hz160 : z ≤ 160) (hz : v0.1 41 1 = nI z) (hB : ∀ j, j < z → v0.1 42 j = B j) (h255 : ∀ j, j < z → 0 ≤ B j ∧ B j ≤ 255) (K : ∀ m v', SPL B z v0 v' m → P none T v') : ∀ (n a m i : Nat) (v : pmV) (w : Value), z ≤ a + n → a ≤ z → m ≤ a → i ≤ a → sk B z a = tA B z m → SPi B z v0 v m → EvP X (d + 7) MX4_split 6 [.ref 41, .int (nI a), .int (nI m), .int (nI i), w] [] T v P
  | 0, a, m, i, v, w, hn, ha, hm, hi, hsk, hS => by
    have hX0 := hX
    have hz0 := hz
    have hB0 := hB
    have hX : pmRfX v := hX.ag (congrArg Prod.snd hS.1.1)
    have hz : v.1 41 1 = nI z := (hS.1.off (by unfold sC; omega)).trans hz
    have hB : ∀ j, j < z → v.1 42 j = B j := fun j hj => (hS.1.off (by unfold sC; omega)).trans (hB j hj)
    refine ev_iload_n 6 dX4_split_6 rfl ?_
    refine ev_sipush 7 dX4_split_7 kS_160 ?_
    refine ev_ic_geN (a := i) (b := 160) 10 67 dX4_split_10 rfl (by omega) (by omega) (fun c_10 => ?_) (fun c_10 => ?_)
    · refine ev_aload_n 67 dX4_split_67 rfl (by decide) ?_
      refine gf_4_18 (pc := 68) rfl dX4_split_68 (kT_41 hK) (rX_41_3 hX) ?_
      refine ev_iload_n 71 dX4_split_71 rfl ?_
      refine ev_aload_n 72 dX4_split_72 rfl (by decide) ?_
      refine gf_4_31 (x := nI z) (pc := 73) rfl dX4_split_73 (kT_41 hK) hz ?_
      refine ev_iastJ (j := m) 76 dX4_split_76 (Nat.le_of_ble_eq_true rfl) (tT_44 hK) (pm_inI (by omega) (by omega)) (nI_clamp (by omega)) ?_
      refine ev_aload_n 77 dX4_split_77 rfl (by decide) ?_
      refine gf_4_15 (pc := 78) rfl dX4_split_78 (kT_41 hK) (rX_41_2 hX) ?_
      refine ev_iload_n 81 dX4_split_81 rfl ?_
      refine ev_iconst 82 dX4_split_82 kI_0 ?_
      refine ev_iastJ (j := m) 83 dX4_split_83 (Nat.le_of_ble_eq_true rfl) (tT_43 hK) (pm_inI (by omega) (by omega)) (nI_clamp (by omega)) ?_
      refine ev_return 84 dX4_split_84 rfl ?_
      have htm : tA B z m = z := by rw [← hsk, show a = z by omega]; exact sk_nb (by omega)
      refine K m _ ⟨(hS.1.i (Or.inr (Or.inl rfl))).i (Or.inl rfl), by omega, htm, hS.2.1, fun j hj => ?_⟩
      by_cases c : j = m
      · have hc : tC B z j = 0 := by rw [c]; unfold tC; rw [if_neg (by omega)]
        refine ⟨?_, ?_, fun h => by rw [hc] at h; exact absurd h (by decide)⟩
        · rw [hc, c]; exact uI_on
        · rw [c, htm]; exact (uI_ne (by decide)).trans uI_on
      · obtain ⟨b1, b2, b3⟩ := hS.2.2 j (by omega)
        exact ⟨(uI_off (by omega)).trans ((uI_ne (by decide)).trans b1), (uI_ne (by decide)).trans ((uI_off (by omega)).trans b2), fun h => (uI_ne (by decide)).trans ((uI_ne (by decide)).trans (b3 h))⟩
    · refine ev_iload_n 13 dX4_split_13 rfl ?_
      refine ev_aload_n 14 dX4_split_14 rfl (by decide) ?_
      refine gf_4_31 (x := nI z) (pc := 15) rfl dX4_split_15 (kT_41 hK) hz ?_
      refine ev_ic_geN (a := a) (b := z) 18 67 dX4_split_18 rfl (by omega) (by omega) (fun c_18 => ?_) (fun c_18 => by omega)
      refine ev_aload_n 67 dX4_split_67 rfl (by decide) ?_
      refine gf_4_18 (pc := 68) rfl dX4_split_68 (kT_41 hK) (rX_41_3 hX) ?_
      refine ev_iload_n 71 dX4_split_71 rfl ?_
      refine ev_aload_n 72 dX4_split_72 rfl (by decide) ?_
      refine gf_4_31 (x := nI z) (pc := 73) rfl dX4_split_73 (kT_41 hK) hz ?_
      refine ev_iastJ (j := m) 76 dX4_split_76 (Nat.le_of_ble_eq_true rfl) (tT_44 hK) (pm_inI (by omega) (by omega)) (nI_clamp (by omega)) ?_
      refine ev_aload_n 77 dX4_split_77 rfl (by decide) ?_
      refine gf_4_15 (pc := 78) rfl dX4_split_78 (kT_41 hK) (rX_41_2 hX) ?_
      refine ev_iload_n 81 dX4_split_81 rfl ?_
      refine ev_iconst 82 dX4_split_82 kI_0 ?_
      refine ev_iastJ (j := m) 83 dX4_split_83 (Nat.le_of_ble_eq_true rfl) (tT_43 hK) (pm_inI (by omega) (by omega)) (nI_clamp (by omega)) ?_
      refine ev_return 84 dX4_split_84 rfl ?_
      have htm : tA B z m = z := by rw [← hsk, show a = z by omega]; exact sk_nb (by omega)
      refine K m _ ⟨(hS.1.i (Or.inr (Or.inl rfl))).i (Or.inl rfl), by omega, htm, hS.2.1, fun j hj => ?_⟩
      by_cases c : j = m
      · have hc : tC B z j = 0 := by rw [c]; unfold tC; rw [if_neg (by omega)]
        refine ⟨?_, ?_, fun h => by rw [hc] at h; exact absurd h (by decide)⟩
        · rw [hc, c]; exact uI_on
        · rw [c, htm]; exact (uI_ne (by decide)).trans uI_on
      · obtain ⟨b1, b2, b3⟩ := hS.2.2 j (by omega)
        exact ⟨(uI_off (by omega)).trans ((uI_ne (by decide)).trans b1), (uI_ne (by decide)).trans ((uI_off (by omega)).trans b2), fun h => (uI_ne (by decide)).trans ((uI_ne (by decide)).trans (b3 h))⟩
  | n + 1, a, m, i, v, w, hn, ha, hm, hi, hsk, hS => by
    have hX0 := hX
    have hz0 := hz
    have hB0 := hB
    have hX : pmRfX v := hX.ag (congrArg Prod.snd hS.1.1)
    have hz : v.1 41 1 = nI z := (hS.1.off (by unfold sC; omega)).trans hz
    have hB : ∀ j, j < z → v.1 42 j = B j := fun j hj => (hS.1.off (by unfold sC; omega)).trans (hB j hj)
    refine ev_iload_n 6 dX4_split_6 rfl ?_
    refine ev_sipush 7 dX4_split_7 kS_160 ?_
    refine ev_ic_geN (a := i) (b := 160) 10 67 dX4_split_10 rfl (by omega) (by omega) (fun c_10 => ?_) (fun c_10 => ?_)
    · refine ev_aload_n 67 dX4_split_67 rfl (by decide) ?_
      refine gf_4_18 (pc := 68) rfl dX4_split_68 (kT_41 hK) (rX_41_3 hX) ?_
      refine ev_iload_n 71 dX4_split_71 rfl ?_
      refine ev_aload_n 72 dX4_split_72 rfl (by decide) ?_
      refine gf_4_31 (x := nI z) (pc := 73) rfl dX4_split_73 (kT_41 hK) hz ?_
      refine ev_iastJ (j := m) 76 dX4_split_76 (Nat.le_of_ble_eq_true rfl) (tT_44 hK) (pm_inI (by omega) (by omega)) (nI_clamp (by omega)) ?_
      refine ev_aload_n 77 dX4_split_77 rfl (by decide) ?_
      refine gf_4_15 (pc := 78) rfl dX4_split_78 (kT_41 hK) (rX_41_2 hX) ?_
      refine ev_iload_n 81 dX4_split_81 rfl ?_
      refine ev_iconst 82 dX4_split_82 kI_0 ?_
      refine ev_iastJ (j := m) 83 dX4_split_83 (Nat.le_of_ble_eq_true rfl) (tT_43 hK) (pm_inI (by omega) (by omega)) (nI_clamp (by omega)) ?_
      refine ev_return 84 dX4_split_84 rfl ?_
      have htm : tA B z m = z := by rw [← hsk, show a = z by omega]; exact sk_nb (by omega)
      refine K m _ ⟨(hS.1.i (Or.inr (Or.inl rfl))).i (Or.inl rfl), by omega, htm, hS.2.1, fun j hj => ?_⟩
      by_cases c : j = m
      · have hc : tC B z j = 0 := by rw [c]; unfold tC; rw [if_neg (by omega)]
        refine ⟨?_, ?_, fun h => by rw [hc] at h; exact absurd h (by decide)⟩
        · rw [hc, c]; exact uI_on
        · rw [c, htm]; exact (uI_ne (by decide)).trans uI_on
      · obtain ⟨b1, b2, b3⟩ := hS.2.2 j (by omega)
        exact ⟨(uI_off (by omega)).trans ((uI_ne (by decide)).trans b1), (uI_ne (by decide)).trans ((uI_off (by omega)).trans b2), fun h => (uI_ne (by decide)).trans ((uI_ne (by decide)).trans (b3 h))⟩
    · refine ev_iload_n 13 dX4_split_13 rfl ?_
      refine ev_aload_n 14 dX4_split_14 rfl (by decide) ?_
      refine gf_4_31 (x := nI z) (pc := 15) rfl dX4_split_15 (kT_41 hK) hz ?_
      refine ev_ic_geN (a := a) (b := z) 18 67 dX4_split_18 rfl (by omega) (by omega) (fun c_18 => ?_) (fun c_18 => ?_)
      · refine ev_aload_n 67 dX4_split_67 rfl (by decide) ?_
        refine gf_4_18 (pc := 68) rfl dX4_split_68 (kT_41 hK) (rX_41_3 hX) ?_
        refine ev_iload_n 71 dX4_split_71 rfl ?_
        refine ev_aload_n 72 dX4_split_72 rfl (by decide) ?_
        refine gf_4_31 (x := nI z) (pc := 73) rfl dX4_split_73 (kT_41 hK) hz ?_
        refine ev_iastJ (j := m) 76 dX4_split_76 (Nat.le_of_ble_eq_true rfl) (tT_44 hK) (pm_inI (by omega) (by omega)) (nI_clamp (by omega)) ?_
        refine ev_aload_n 77 dX4_split_77 rfl (by decide) ?_
        refine gf_4_15 (pc := 78) rfl dX4_split_78 (kT_41 hK) (rX_41_2 hX) ?_
        refine ev_iload_n 81 dX4_split_81 rfl ?_
        refine ev_iconst 82 dX4_split_82 kI_0 ?_
        refine ev_iastJ (j := m) 83 dX4_split_83 (Nat.le_of_ble_eq_true rfl) (tT_43 hK) (pm_inI (by omega) (by omega)) (nI_clamp (by omega)) ?_
        refine ev_return 84 dX4_split_84 rfl ?_
        have htm : tA B z m = z := by rw [← hsk, show a = z by omega]; exact sk_nb (by omega)
        refine K m _ ⟨(hS.1.i (Or.inr (Or.inl rfl))).i (Or.inl rfl), by omega, htm, hS.2.1, fun j hj => ?_⟩
        by_cases c : j = m
        · have hc : tC B z j = 0 := by rw [c]; unfold tC; rw [if_neg (by omega)]
          refine ⟨?_, ?_, fun h => by rw [hc] at h; exact absurd h (by decide)⟩
          · rw [hc, c]; exact uI_on
          · rw [c, htm]; exact (uI_ne (by decide)).trans uI_on
        · obtain ⟨b1, b2, b3⟩ := hS.2.2 j (by omega)
          exact ⟨(uI_off (by omega)).trans ((uI_ne (by decide)).trans b1), (uI_ne (by decide)).trans ((uI_off (by omega)).trans b2), fun h => (uI_ne (by decide)).trans ((uI_ne (by decide)).trans (b3 h))⟩
      · refine ev_aload_n 21 dX4_split_21 rfl (by decide) ?_
        refine ev_iload_n 22 dX4_split_22 rfl ?_
        refine cv_4_65_4 (pc := 23) rfl dX4_split_23 (kT_41 hK) (Nat.le_of_ble_eq_true rfl) ?_
        refine c_X4_endOfToken hK hX hz160 hz hB (by omega) ?_
        refine ev_istore (ls' := [.ref 41, .int (nI a), .int (nI m), .int (nI i), .int (nI (eT B z a))]) 26 dX4_split_26 (Nat.le_of_ble_eq_true rfl) rfl ?_
        refine ev_aload_n 28 dX4_split_28 rfl (by decide) ?_
        refine gf_4_9 (pc := 29) rfl dX4_split_29 (kT_41 hK) (rX_41_0 hX) ?_
        refine ev_iload_n 32 dX4_split_32 rfl ?_
        refine ev_ialdJ (x := B a) (j := a) 33 dX4_split_33 (Nat.le_of_ble_eq_true rfl) (tT_42 hK) (pm_inI (by omega) (by omega)) (nI_clamp (by omega)) (hB _ (by omega)) ?_
        refine cs_4_69 (pc := 34) rfl dX4_split_34 (Nat.le_of_ble_eq_true rfl) ?_
        refine c_X4_isBlank (fun h_34 => ?_) (fun h_34 => ?_)
        · refine ev_ifT 37 58 dX4_split_37 rfl (by decide) ?_
          refine ev_iload 58 dX4_split_58 rfl ?_
          refine ev_istore_n (ls' := [.ref 41, .int (nI (eT B z a)), .int (nI m), .int (nI i), .int (nI (eT B z a))]) 60 dX4_split_60 (Nat.le_of_ble_eq_true rfl) rfl ?_
          refine ev_iinc (y := nI (i + 1)) (ls' := [.ref 41, .int (nI (eT B z a)), .int (nI m), .int (nI (i + 1)), .int (nI (eT B z a))]) 61 dX4_split_61 rfl (nI_add i 1) rfl ?_
          refine ev_goto 64 6 dX4_split_64 rfl ?_
          have he : eT B z a = a + 1 := eT_bl h_34
          rw [he]
          exact lp_split hK hX0 hz160 hz0 hB0 h255 K n (a + 1) m (i + 1) _ _ (by omega) (by omega) (by omega) (by omega) (by rw [← hsk]; exact (sk_bl (by omega) h_34).symm) hS
        · refine ev_ifF 37 58 dX4_split_37 rfl (by decide) ?_
          refine ev_aload_n 40 dX4_split_40 rfl (by decide) ?_
          refine gf_4_18 (pc := 41) rfl dX4_split_41 (kT_41 hK) (rX_41_3 hX) ?_
          refine ev_iload_n 44 dX4_split_44 rfl ?_
          refine ev_iload_n 45 dX4_split_45 rfl ?_
          refine ev_iastJ (j := m) 46 dX4_split_46 (Nat.le_of_ble_eq_true rfl) (tT_44 hK) (pm_inI (by omega) (by omega)) (nI_clamp (by omega)) ?_
          refine ev_aload_n 47 dX4_split_47 rfl (by decide) ?_
          refine ev_iload_n 48 dX4_split_48 rfl ?_
          refine ev_iload_n 49 dX4_split_49 rfl ?_
          refine ev_iload 50 dX4_split_50 rfl ?_
          refine cv_4_72_4 (pc := 52) rfl dX4_split_52 (kT_41 hK) (Nat.le_of_ble_eq_true rfl) ?_
          refine c_X4_takeToken (B := B) (v := (uI v 44 m (nI a))) hK (hX.ag rfl) hz160 ((uI_ne (by decide)).trans hz) (fun j hj => (uI_ne (by decide)).trans (hB j hj)) h255 (by omega) eT_lt (eT_le (by omega)) (fun v1 hT => ?_)
          refine ev_iinc (y := nI (m + 1)) (ls' := [.ref 41, .int (nI a), .int (nI (m + 1)), .int (nI i), .int (nI (eT B z a))]) 55 dX4_split_55 rfl (nI_add m 1) rfl ?_
          refine ev_iload 58 dX4_split_58 rfl ?_
          refine ev_istore_n (ls' := [.ref 41, .int (nI (eT B z a)), .int (nI (m + 1)), .int (nI i), .int (nI (eT B z a))]) 60 dX4_split_60 (Nat.le_of_ble_eq_true rfl) rfl ?_
          refine ev_iinc (y := nI (i + 1)) (ls' := [.ref 41, .int (nI (eT B z a)), .int (nI (m + 1)), .int (nI (i + 1)), .int (nI (eT B z a))]) 61 dX4_split_61 rfl (nI_add i 1) rfl ?_
          refine ev_goto 64 6 dX4_split_64 rfl ?_
          have htm : tA B z m = a := by rw [← hsk]; exact sk_nb (fun e => h_34 e.2)
          have hcm : tC B z m = tkC B a (eT B z a) := by unfold tC; rw [htm, if_pos (by omega)]
          have hvm : tV B z m = tkV B a (eT B z a) := by unfold tV; rw [htm]
          refine lp_split hK hX0 hz160 hz0 hB0 h255 K n (eT B z a) (m + 1) (i + 1) _ _ (by have := @eT_lt B z a; omega) (eT_le (by omega)) (by have := @eT_lt B z a; omega) (by have := @eT_lt B z a; omega) (by rw [tA, htm]) ⟨(hS.1.i (Or.inr (Or.inl rfl))).tr (hT.1.wd fun x y q => ?_), fun j hj => ?_, fun j hj => ?_⟩
          · unfold sC; omega
          · by_cases c : j = m
            · rw [c, htm]; omega
            · exact hS.2.1 j (by omega)
          · by_cases c : j = m
            · rw [c, hcm, htm, hvm]
              exact ⟨hT.2.1, (hT.1.off (by omega)).trans uI_on, hT.2.2⟩
            · obtain ⟨b1, b2, b3⟩ := hS.2.2 j (by omega)
              exact ⟨(hT.1.off (by omega)).trans ((uI_ne (by decide)).trans b1), (hT.1.off (by omega)).trans ((uI_off (by omega)).trans b2), fun h => (hT.1.off (by omega)).trans ((uI_ne (by decide)).trans (b3 h))⟩
theorem c_X4_split {X : pmX} {d : Nat} {v : pmV} {P : Option Value → pmT → pmV → Prop} {T : pmT} {B : Nat → Int32} {z : Nat} (hK : TK T) (hX : pmRfX v) (hz160 : z ≤ 160) (hz : v.1 41 1 = nI z) (hB : ∀ j, j < z → v.1 42 j = B j) (h255 : ∀ j, j < z → 0 ≤ B j ∧ B j ≤ 255) (K : ∀ m v', SPL B z v v' m → P none T v') : EvP X (d + 7) MX4_split 0 [.ref 41, pmJ, pmJ, pmJ, pmJ] [] T v P := by
  refine ev_iconst 0 dX4_split_0 kI_0 ?_
  refine ev_istore_n (ls' := [.ref 41, .int 0, pmJ, pmJ, pmJ]) 1 dX4_split_1 (Nat.le_of_ble_eq_true rfl) rfl ?_
  refine ev_iconst 2 dX4_split_2 kI_0 ?_
  refine ev_istore_n (ls' := [.ref 41, .int 0, .int 0, pmJ, pmJ]) 3 dX4_split_3 (Nat.le_of_ble_eq_true rfl) rfl ?_
  refine ev_iconst 4 dX4_split_4 kI_0 ?_
  refine ev_istore_n (ls' := [.ref 41, .int 0, .int 0, .int 0, pmJ]) 5 dX4_split_5 (Nat.le_of_ble_eq_true rfl) rfl ?_
  exact lp_split hK hX hz160 hz hB h255 K z 0 0 0 _ _ (by omega) (by omega) (by omega) (by omega) rfl ⟨Of.nil, fun j hj => absurd hj (Nat.not_lt_zero _), fun j hj => absurd hj (Nat.not_lt_zero _)⟩

