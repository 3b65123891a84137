/-! TEXTS: the reference's look as a whole -/
def lkC (a j : Nat) : Prop := a = 100 ∧ (13 ≤ j ∧ j ≤ 16)
/-- what the reference keeps of a token of the class's sort c, value x -/
def RT (c x tk wd : Int32) : Prop := (c = 1 ∧ tk = -2) ∨ (c = 2 ∧ tk = 1 ∧ wd = x) ∨ (tk = 2 ∧ ∃ w, w < 12 ∧ c = tkW w ∧ x = -1 - nI w ∧ wd = nI (wdN w)) ∨ (sgB c ∧ tk = c)
/-- it looks at the token at p -/
def LKP (B : Nat → Int32) (z p : Nat) (v : pmV) : Prop := v.1 100 13 = nI p ∧ p ≤ z ∧ (z ≤ p → v.1 100 14 = -1) ∧ (p < z → v.1 100 16 = nI (eT B z p - p) ∧ RT (tkC B p (eT B z p)) (tkV B p (eT B z p)) (v.1 100 14) (v.1 100 15))
def rD (B : Nat → Int32) (p : Nat) : Nat → Int32
  | 0 => 0
  | n + 1 => if n < 4 then 10 * rD B p n + B (p + n) - 48 else rD B p n
theorem rD_nF {B : Nat → Int32} {p : Nat} : ∀ n, n ≤ 4 → rD B p n = nF B p n
  | 0, _ => rfl
  | n + 1, h => by rw [rD, nF, if_pos (by omega), rD_nF n (by omega)]
theorem ld_no {c : Int32} (h : lB c) (h2 : dB c) : False := by
  have a := Int32.le_iff_toInt_le.mp h.1
  have b := Int32.le_iff_toInt_le.mp h2.2
  rw [show (97 : Int32).toInt = 97 from rfl] at a
  rw [show (57 : Int32).toInt = 57 from rfl] at b
  omega
theorem dig_in {B : Nat → Int32} {z p j : Nat} (hp : dB (B p)) (h1 : p ≤ j) (h2 : j < eT B z p) : dB (B j) := by
  by_cases c : j = p
  · rw [c]; exact hp
  · rcases (eT_in (by omega) h2).1 with q | q
    · exact (ld_no q.1 hp).elim
    · exact q.2
theorem let_in {B : Nat → Int32} {z p j : Nat} (hp : lB (B p)) (h1 : p ≤ j) (h2 : j < eT B z p) : lB (B j) := by
  by_cases c : j = p
  · rw [c]; exact hp
  · rcases (eT_in (by omega) h2).1 with q | q
    · exact q.2
    · exact (ld_no hp q.1).elim
theorem dig_st {B : Nat → Int32} {z p : Nat} (hp : dB (B p)) : ¬ dB (bA B z (eT B z p)) := fun h => by
  have h := bA_d.mp h
  exact eT_st h.1 (Or.inr ⟨hp, h.2⟩)
theorem let_st {B : Nat → Int32} {z p : Nat} (hp : lB (B p)) : ¬ lB (bA B z (eT B z p)) := fun h => by
  have h := bA_l.mp h
  exact eT_st h.1 (Or.inl ⟨hp, h.2⟩)
theorem eT_sg {B : Nat → Int32} {z p : Nat} (h1 : ¬ lB (B p)) (h2 : ¬ dB (B p)) : eT B z p = p + 1 := rn_no (fun e => by
  rcases of_decide_eq_true e.2 with q | q
  · exact h1 q.1
  · exact h2 q.1)
theorem lp_lookB {X : pmX} {d : Nat} {v0 : pmV} {P : Option Value → pmT → pmV → Prop} {LT : pmT} {B : Nat → Int32} {z : Nat} (hX : pmRf v0) (hz160 : z ≤ 160) (hz : v0.1 100 12 = nI z) (hB : ∀ j, j < z → v0.1 106 j = B j) {S : Nat} {w : Value} (K : ∀ v, Of lkC v0 v → v.1 100 13 = nI S → EvP X (d + 2) MX12_look 39 [.ref 100, w] [] (pmT0 ++ LT) v P) : ∀ (f a : Nat) (v : pmV), z ≤ a + f → a ≤ z → Of lkC v0 v → v.1 100 13 = nI a → rn (fun j => decide (bB (B j))) z f a = S → EvP X (d + 2) MX12_look 0 [.ref 100, w] [] (pmT0 ++ LT) v P
  | 0, a, v, hf, ha, hO, h13, hS => by
    have hX0 := hX
    have hz0 := hz
    have hB0 := hB
    have hX : pmRf v := hX.ag (congrArg Prod.snd hO.1)
    have hz : v.1 100 12 = nI z := (hO.off (by unfold lkC; omega)).trans hz
    have hB : ∀ j, j < z → v.1 106 j = B j := fun j hj => (hO.off (by unfold lkC; omega)).trans (hB j hj)
    refine ev_aload_n 0 dX12_look_0 rfl (by decide) ?_
    refine ev_aload_n 1 dX12_look_1 rfl (by decide) ?_
    refine gf_12_92 (x := nI a) (pc := 2) rfl dX12_look_2 kd_100 h13 ?_
    refine cv_12_211_12 (pc := 5) rfl dX12_look_5 kd_100 (Nat.le_of_ble_eq_true rfl) ?_
    refine c_X12_byteAt (B := B) (v := v) hX hz160 hz hB (by omega) ?_
    refine ev_bipush 8 dX12_look_8 kB_32 ?_
    refine ev_ic_eq 10 26 dX12_look_10 rfl (fun c_10 => ?_) (fun c_10 => ?_)
    · refine ev_aload_n 26 dX12_look_26 rfl (by decide) ?_
      refine ev_dup 27 dX12_look_27 rfl ?_
      refine gf_12_92 (x := nI a) (pc := 28) rfl dX12_look_28 kd_100 h13 ?_
      refine ev_iconst 31 dX12_look_31 kI_1 ?_
      refine ev_iadd 32 dX12_look_32 ?_
      refine ev_cst (y := nI (a + 1)) (nI_add a 1) ?_
      refine pf_12_92 (pc := 33) rfl dX12_look_33 kd_100 ?_
      refine ev_goto 36 0 dX12_look_36 rfl ?_
      exact absurd (bA_b.mp (Or.inl c_10)).1 (by omega)
    · refine ev_aload_n 13 dX12_look_13 rfl (by decide) ?_
      refine ev_aload_n 14 dX12_look_14 rfl (by decide) ?_
      refine gf_12_92 (x := nI a) (pc := 15) rfl dX12_look_15 kd_100 h13 ?_
      refine cv_12_211_12 (pc := 18) rfl dX12_look_18 kd_100 (Nat.le_of_ble_eq_true rfl) ?_
      refine c_X12_byteAt (B := B) (v := v) hX hz160 hz hB (by omega) ?_
      refine ev_bipush 21 dX12_look_21 kB_10 ?_
      refine ev_ic_ne 23 39 dX12_look_23 rfl (fun c_23 => ?_) (fun c_23 => ?_)
      · rw [rn_no (fun e => (bA_b.mpr ⟨e.1, of_decide_eq_true e.2⟩ : bA B z a = 32 ∨ bA B z a = 10).elim c_10 c_23)] at hS
        exact K v hO (h13.trans (congrArg nI hS))
      · refine ev_aload_n 26 dX12_look_26 rfl (by decide) ?_
        refine ev_dup 27 dX12_look_27 rfl ?_
        refine gf_12_92 (x := nI a) (pc := 28) rfl dX12_look_28 kd_100 h13 ?_
        refine ev_iconst 31 dX12_look_31 kI_1 ?_
        refine ev_iadd 32 dX12_look_32 ?_
        refine ev_cst (y := nI (a + 1)) (nI_add a 1) ?_
        refine pf_12_92 (pc := 33) rfl dX12_look_33 kd_100 ?_
        refine ev_goto 36 0 dX12_look_36 rfl ?_
        exact absurd (bA_b.mp (Or.inr (by simpa using c_23))).1 (by omega)
  | f + 1, a, v, hf, ha, hO, h13, hS => by
    have hX0 := hX
    have hz0 := hz
    have hB0 := hB
    have hX : pmRf v := hX.ag (congrArg Prod.snd hO.1)
    have hz : v.1 100 12 = nI z := (hO.off (by unfold lkC; omega)).trans hz
    have hB : ∀ j, j < z → v.1 106 j = B j := fun j hj => (hO.off (by unfold lkC; omega)).trans (hB j hj)
    refine ev_aload_n 0 dX12_look_0 rfl (by decide) ?_
    refine ev_aload_n 1 dX12_look_1 rfl (by decide) ?_
    refine gf_12_92 (x := nI a) (pc := 2) rfl dX12_look_2 kd_100 h13 ?_
    refine cv_12_211_12 (pc := 5) rfl dX12_look_5 kd_100 (Nat.le_of_ble_eq_true rfl) ?_
    refine c_X12_byteAt (B := B) (v := v) hX hz160 hz hB (by omega) ?_
    refine ev_bipush 8 dX12_look_8 kB_32 ?_
    refine ev_ic_eq 10 26 dX12_look_10 rfl (fun c_10 => ?_) (fun c_10 => ?_)
    · refine ev_aload_n 26 dX12_look_26 rfl (by decide) ?_
      refine ev_dup 27 dX12_look_27 rfl ?_
      refine gf_12_92 (x := nI a) (pc := 28) rfl dX12_look_28 kd_100 h13 ?_
      refine ev_iconst 31 dX12_look_31 kI_1 ?_
      refine ev_iadd 32 dX12_look_32 ?_
      refine ev_cst (y := nI (a + 1)) (nI_add a 1) ?_
      refine pf_12_92 (pc := 33) rfl dX12_look_33 kd_100 ?_
      refine ev_goto 36 0 dX12_look_36 rfl ?_
      have hb := bA_b.mp (Or.inl c_10)
      rw [rn_go hb.1 (decide_eq_true hb.2)] at hS
      exact lp_lookB hX0 hz160 hz0 hB0 K f (a + 1) _ (by omega) (by omega) (hO.i ⟨rfl, by omega⟩) uI_on hS
    · refine ev_aload_n 13 dX12_look_13 rfl (by decide) ?_
      refine ev_aload_n 14 dX12_look_14 rfl (by decide) ?_
      refine gf_12_92 (x := nI a) (pc := 15) rfl dX12_look_15 kd_100 h13 ?_
      refine cv_12_211_12 (pc := 18) rfl dX12_look_18 kd_100 (Nat.le_of_ble_eq_true rfl) ?_
      refine c_X12_byteAt (B := B) (v := v) hX hz160 hz hB (by omega) ?_
      refine ev_bipush 21 dX12_look_21 kB_10 ?_
      refine ev_ic_ne 23 39 dX12_look_23 rfl (fun c_23 => ?_) (fun c_23 => ?_)
      · rw [rn_no (fun e => (bA_b.mpr ⟨e.1, of_decide_eq_true e.2⟩ : bA B z a = 32 ∨ bA B z a = 10).elim c_10 c_23)] at hS
        exact K v hO (h13.trans (congrArg nI hS))
      · refine ev_aload_n 26 dX12_look_26 rfl (by decide) ?_
        refine ev_dup 27 dX12_look_27 rfl ?_
        refine gf_12_92 (x := nI a) (pc := 28) rfl dX12_look_28 kd_100 h13 ?_
        refine ev_iconst 31 dX12_look_31 kI_1 ?_
        refine ev_iadd 32 dX12_look_32 ?_
        refine ev_cst (y := nI (a + 1)) (nI_add a 1) ?_
        refine pf_12_92 (pc := 33) rfl dX12_look_33 kd_100 ?_
        refine ev_goto 36 0 dX12_look_36 rfl ?_
        have hb := bA_b.mp (Or.inr (by simpa using c_23))
        rw [rn_go hb.1 (decide_eq_true hb.2)] at hS
        exact lp_lookB hX0 hz160 hz0 hB0 K f (a + 1) _ (by omega) (by omega) (hO.i ⟨rfl, by omega⟩) uI_on hS
theorem dig_st2 {B : Nat → Int32} {z p q : Nat} (hp : dB (B p)) (hq : q = eT B z p) : ¬ dB (bA B z q) := by rw [hq]; exact dig_st hp
theorem let_st2 {B : Nat → Int32} {z p q : Nat} (hp : lB (B p)) (hq : q = eT B z p) : ¬ lB (bA B z q) := by rw [hq]; exact let_st hp
theorem lp_lookD {X : pmX} {d : Nat} {v0 : pmV} {P : Option Value → pmT → pmV → Prop} {LT : pmT} {B : Nat → Int32} {z : Nat} (hX : pmRf v0) (hz160 : z ≤ 160) (hz : v0.1 100 12 = nI z) (hB : ∀ j, j < z → v0.1 106 j = B j) {p : Nat} {w : Value} (hp : p < z) (hd : dB (B p)) (K : ∀ v', Of lkC v0 v' → LKP B z p v' → P none (pmT0 ++ LT) v') : ∀ (k n : Nat) (v : pmV), n + k = eT B z p - p → Of lkC v0 v → v.1 100 13 = nI p → v.1 100 15 = rD B p n → v.1 100 16 = nI n → EvP X (d + 2) MX12_look 76 [.ref 100, w] [] (pmT0 ++ LT) v P
  | 0, n, v, hn, hO, h13, h15, h16 => by
    have e1 := @eT_lt B z p
    have e2 := eT_le (B := B) hp
    have hX0 := hX
    have hz0 := hz
    have hB0 := hB
    have hX : pmRf v := hX.ag (congrArg Prod.snd hO.1)
    have hz : v.1 100 12 = nI z := (hO.off (by unfold lkC; omega)).trans hz
    have hB : ∀ j, j < z → v.1 106 j = B j := fun j hj => (hO.off (by unfold lkC; omega)).trans (hB j hj)
    refine ev_aload_n 76 dX12_look_76 rfl (by decide) ?_
    refine ev_aload_n 77 dX12_look_77 rfl (by decide) ?_
    refine ev_aload_n 78 dX12_look_78 rfl (by decide) ?_
    refine gf_12_92 (x := nI p) (pc := 79) rfl dX12_look_79 kd_100 h13 ?_
    refine ev_aload_n 82 dX12_look_82 rfl (by decide) ?_
    refine gf_12_101 (x := nI n) (pc := 83) rfl dX12_look_83 kd_100 h16 ?_
    refine ev_iadd 86 dX12_look_86 ?_
    refine ev_cst (y := nI (p + n)) (nI_add p n) ?_
    refine cv_12_211_12 (pc := 87) rfl dX12_look_87 kd_100 (Nat.le_of_ble_eq_true rfl) ?_
    refine c_X12_byteAt (B := B) (v := v) hX hz160 hz hB (by omega) ?_
    refine cv_12_214_12 (pc := 90) rfl dX12_look_90 kd_100 (Nat.le_of_ble_eq_true rfl) ?_
    refine c_X12_isDigit (fun h_90 => absurd h_90 (dig_st2 hd (by omega))) (fun h_90 => ?_)
    refine ev_ifT 93 152 dX12_look_93 rfl (by decide) ?_
    refine ev_aload_n 152 dX12_look_152 rfl (by decide) ?_
    refine ev_aload_n 153 dX12_look_153 rfl (by decide) ?_
    refine gf_12_101 (x := nI n) (pc := 154) rfl dX12_look_154 kd_100 h16 ?_
    refine ev_iconst 157 dX12_look_157 kI_4 ?_
    refine ev_ic_leN (a := n) (b := 4) 158 166 dX12_look_158 rfl (by omega) (by omega) (fun c_158 => ?_) (fun c_158 => ?_)
    · refine ev_iconst 166 dX12_look_166 kI_1 ?_
      refine pf_12_95 (pc := 167) rfl dX12_look_167 kd_100 ?_
      refine ev_goto 170 382 dX12_look_170 rfl ?_
      refine ev_return 382 dX12_look_382 rfl ?_
      refine K _ (hO.i ⟨rfl, by omega⟩) ⟨(uI_off (by decide)).trans h13, by omega, fun h => by omega, fun _ => ⟨(uI_off (by decide)).trans (h16.trans (congrArg nI (by omega))), ?_⟩⟩
      have hl : ¬ lB (B p) := fun q => ld_no q hd
      rw [uI_on, show (uI v 100 14 1).1 100 15 = v.1 100 15 from uI_off (by decide), h15]
      unfold RT tkC tkV
      rw [if_neg hl, if_pos hd, if_neg (by omega), if_neg hl, ← show n = eT B z p - p by omega]
      exact Or.inr (Or.inl ⟨rfl, rfl, rD_nF n (by omega)⟩)
    · refine ev_bipush 161 dX12_look_161 kB_m2 ?_
      refine ev_goto 163 167 dX12_look_163 rfl ?_
      refine pf_12_95 (pc := 167) rfl dX12_look_167 kd_100 ?_
      refine ev_goto 170 382 dX12_look_170 rfl ?_
      refine ev_return 382 dX12_look_382 rfl ?_
      refine K _ (hO.i ⟨rfl, by omega⟩) ⟨(uI_off (by decide)).trans h13, by omega, fun h => by omega, fun _ => ⟨(uI_off (by decide)).trans (h16.trans (congrArg nI (by omega))), ?_⟩⟩
      have hl : ¬ lB (B p) := fun q => ld_no q hd
      rw [uI_on, show (uI v 100 14 (-2)).1 100 15 = v.1 100 15 from uI_off (by decide), h15]
      unfold RT tkC tkV
      rw [if_neg hl, if_pos hd, if_pos (by omega)]
      exact Or.inl ⟨rfl, rfl⟩
  | k + 1, n, v, hn, hO, h13, h15, h16 => by
    have e1 := @eT_lt B z p
    have e2 := eT_le (B := B) hp
    have hX0 := hX
    have hz0 := hz
    have hB0 := hB
    have hX : pmRf v := hX.ag (congrArg Prod.snd hO.1)
    have hz : v.1 100 12 = nI z := (hO.off (by unfold lkC; omega)).trans hz
    have hB : ∀ j, j < z → v.1 106 j = B j := fun j hj => (hO.off (by unfold lkC; omega)).trans (hB j hj)
    refine ev_aload_n 76 dX12_look_76 rfl (by decide) ?_
    refine ev_aload_n 77 dX12_look_77 rfl (by decide) ?_
    refine ev_aload_n 78 dX12_look_78 rfl (by decide) ?_
    refine gf_12_92 (x := nI p) (pc := 79) rfl dX12_look_79 kd_100 h13 ?_
    refine ev_aload_n 82 dX12_look_82 rfl (by decide) ?_
    refine gf_12_101 (x := nI n) (pc := 83) rfl dX12_look_83 kd_100 h16 ?_
    refine ev_iadd 86 dX12_look_86 ?_
    refine ev_cst (y := nI (p + n)) (nI_add p n) ?_
    refine cv_12_211_12 (pc := 87) rfl dX12_look_87 kd_100 (Nat.le_of_ble_eq_true rfl) ?_
    refine c_X12_byteAt (B := B) (v := v) hX hz160 hz hB (by omega) ?_
    refine cv_12_214_12 (pc := 90) rfl dX12_look_90 kd_100 (Nat.le_of_ble_eq_true rfl) ?_
    refine c_X12_isDigit (fun h_90 => ?_) (fun h_90 => absurd (bA_d.mpr ⟨by omega, dig_in (z := z) hd (by omega) (by omega)⟩) h_90)
    refine ev_ifF 93 152 dX12_look_93 rfl (by decide) ?_
    refine ev_aload_n 96 dX12_look_96 rfl (by decide) ?_
    refine ev_aload_n 97 dX12_look_97 rfl (by decide) ?_
    refine gf_12_101 (x := nI n) (pc := 98) rfl dX12_look_98 kd_100 h16 ?_
    refine ev_iconst 101 dX12_look_101 kI_4 ?_
    refine ev_ic_geN (a := n) (b := 4) 102 132 dX12_look_102 rfl (by omega) (by omega) (fun c_102 => ?_) (fun c_102 => ?_)
    · refine ev_aload_n 132 dX12_look_132 rfl (by decide) ?_
      refine gf_12_98 (x := rD B p n) (pc := 133) rfl dX12_look_133 kd_100 h15 ?_
      refine pf_12_98 (pc := 136) rfl dX12_look_136 kd_100 ?_
      refine ev_aload_n 139 dX12_look_139 rfl (by decide) ?_
      refine ev_dup 140 dX12_look_140 rfl ?_
      refine gf_12_101 (x := nI n) (pc := 141) rfl dX12_look_141 kd_100 ((uI_off (by decide)).trans h16) ?_
      refine ev_iconst 144 dX12_look_144 kI_1 ?_
      refine ev_iadd 145 dX12_look_145 ?_
      refine ev_cst (y := nI (n + 1)) (nI_add n 1) ?_
      refine pf_12_101 (pc := 146) rfl dX12_look_146 kd_100 ?_
      refine ev_goto 149 76 dX12_look_149 rfl ?_
      refine lp_lookD hX0 hz160 hz0 hB0 hp hd K k (n + 1) _ (by omega) ((hO.i ⟨rfl, by omega⟩).i ⟨rfl, by omega⟩) ((uI_off (by decide)).trans ((uI_off (by decide)).trans h13)) ((uI_off (by decide)).trans (uI_on.trans ?_)) uI_on
      rw [rD]; first | exact (if_pos (by omega)).symm | exact (if_neg (by omega)).symm
    · refine ev_bipush 105 dX12_look_105 kB_10 ?_
      refine ev_aload_n 107 dX12_look_107 rfl (by decide) ?_
      refine gf_12_98 (x := rD B p n) (pc := 108) rfl dX12_look_108 kd_100 h15 ?_
      refine ev_imul 111 dX12_look_111 ?_
      refine ev_aload_n 112 dX12_look_112 rfl (by decide) ?_
      refine ev_aload_n 113 dX12_look_113 rfl (by decide) ?_
      refine gf_12_92 (x := nI p) (pc := 114) rfl dX12_look_114 kd_100 h13 ?_
      refine ev_aload_n 117 dX12_look_117 rfl (by decide) ?_
      refine gf_12_101 (x := nI n) (pc := 118) rfl dX12_look_118 kd_100 h16 ?_
      refine ev_iadd 121 dX12_look_121 ?_
      refine ev_cst (y := nI (p + n)) (nI_add p n) ?_
      refine cv_12_211_12 (pc := 122) rfl dX12_look_122 kd_100 (Nat.le_of_ble_eq_true rfl) ?_
      refine c_X12_byteAt (B := B) (v := v) hX hz160 hz hB (by omega) ?_
      refine ev_cst (y := B (p + n)) (bA_on (by omega)) ?_
      refine ev_iadd 125 dX12_look_125 ?_
      refine ev_bipush 126 dX12_look_126 kB_48 ?_
      refine ev_isub 128 dX12_look_128 ?_
      refine ev_goto 129 136 dX12_look_129 rfl ?_
      refine pf_12_98 (pc := 136) rfl dX12_look_136 kd_100 ?_
      refine ev_aload_n 139 dX12_look_139 rfl (by decide) ?_
      refine ev_dup 140 dX12_look_140 rfl ?_
      refine gf_12_101 (x := nI n) (pc := 141) rfl dX12_look_141 kd_100 ((uI_off (by decide)).trans h16) ?_
      refine ev_iconst 144 dX12_look_144 kI_1 ?_
      refine ev_iadd 145 dX12_look_145 ?_
      refine ev_cst (y := nI (n + 1)) (nI_add n 1) ?_
      refine pf_12_101 (pc := 146) rfl dX12_look_146 kd_100 ?_
      refine ev_goto 149 76 dX12_look_149 rfl ?_
      refine lp_lookD hX0 hz160 hz0 hB0 hp hd K k (n + 1) _ (by omega) ((hO.i ⟨rfl, by omega⟩).i ⟨rfl, by omega⟩) ((uI_off (by decide)).trans ((uI_off (by decide)).trans h13)) ((uI_off (by decide)).trans (uI_on.trans ?_)) uI_on
      rw [rD]; first | exact (if_pos (by omega)).symm | exact (if_neg (by omega)).symm
