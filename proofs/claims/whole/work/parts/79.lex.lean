/-! TEXTS: tokens; letters, digits, signs, words, the end of a token -/
abbrev lB (c : Int32) : Prop := 97 ≤ c ∧ c ≤ 122
abbrev dB (c : Int32) : Prop := 48 ≤ c ∧ c ≤ 57
abbrev bB (c : Int32) : Prop := c = 32 ∨ c = 10
abbrev oWd (a b : Int32) : Prop := lB a ∧ lB b ∨ dB a ∧ dB b
abbrev sgB (c : Int32) : Prop := c = 40 ∨ c = 41 ∨ c = 59 ∨ c = 43 ∨ c = 45 ∨ c = 42 ∨ c = 60 ∨ c = 61
/-- on, as long as it holds -/
def rn (p : Nat → Bool) (z : Nat) : Nat → Nat → Nat
  | 0, i => i
  | f + 1, i => if i < z ∧ p i = true then rn p z f (i + 1) else i
theorem rn_go {p : Nat → Bool} {z f i : Nat} (h : i < z) (hp : p i = true) : rn p z (f + 1) i = rn p z f (i + 1) := by rw [rn, if_pos ⟨h, hp⟩]
theorem rn_no {p : Nat → Bool} {z f i : Nat} (h : ¬ (i < z ∧ p i = true)) : rn p z f i = i := by
  cases f with
  | zero => rfl
  | succ f => rw [rn, if_neg h]
theorem rn_spec {p : Nat → Bool} {z : Nat} : ∀ (f i : Nat), z ≤ i + f → i ≤ rn p z f i ∧ (i ≤ z → rn p z f i ≤ z) ∧ (∀ j, i ≤ j → j < rn p z f i → p j = true ∧ j < z) ∧ (rn p z f i < z → p (rn p z f i) = false)
  | 0, i, h => ⟨Nat.le_refl _, fun h => h, fun j h1 h2 => absurd h2 (by rw [rn]; omega), fun h2 => by rw [rn] at h2; omega⟩
  | f + 1, i, h => by
    by_cases c : i < z ∧ p i = true
    · rw [rn_go c.1 c.2]
      obtain ⟨a1, a2, a3, a4⟩ := rn_spec (p := p) (z := z) f (i + 1) (by omega)
      refine ⟨by omega, fun _ => a2 c.1, fun j h1 h2 => ?_, a4⟩
      by_cases e : j = i
      · subst e; exact ⟨c.2, c.1⟩
      · exact a3 j (by omega) h2
    · rw [rn_no c]
      refine ⟨Nat.le_refl _, fun h => h, fun j h1 h2 => by omega, fun h2 => ?_⟩
      cases hp : p i with
      | false => rfl
      | true => exact absurd ⟨h2, hp⟩ c
/-- where a token ends; the next place that is no blank -/
def eT (B : Nat → Int32) (z a : Nat) : Nat := rn (fun j => decide (oWd (B a) (B j))) z z (a + 1)
def sk (B : Nat → Int32) (z i : Nat) : Nat := rn (fun j => decide (bB (B j))) z z i
theorem eT_lt {B : Nat → Int32} {z a : Nat} : a < eT B z a := by
  have := (rn_spec (p := fun j => decide (oWd (B a) (B j))) (z := z) z (a + 1) (by omega)).1
  exact this
theorem eT_le {B : Nat → Int32} {z a : Nat} (h : a < z) : eT B z a ≤ z := (rn_spec (p := fun j => decide (oWd (B a) (B j))) (z := z) z (a + 1) (by omega)).2.1 h
theorem eT_in {B : Nat → Int32} {z a j : Nat} (h1 : a < j) (h2 : j < eT B z a) : oWd (B a) (B j) ∧ j < z := by
  have := (rn_spec (p := fun j => decide (oWd (B a) (B j))) (z := z) z (a + 1) (by omega)).2.2.1 j h1 h2
  exact ⟨of_decide_eq_true this.1, this.2⟩
theorem eT_st {B : Nat → Int32} {z a : Nat} (h : eT B z a < z) : ¬ oWd (B a) (B (eT B z a)) := of_decide_eq_false ((rn_spec (p := fun j => decide (oWd (B a) (B j))) (z := z) z (a + 1) (by omega)).2.2.2 h)
theorem sk_ge {B : Nat → Int32} {z i : Nat} : i ≤ sk B z i := (rn_spec (p := fun j => decide (bB (B j))) (z := z) z i (by omega)).1
theorem sk_le {B : Nat → Int32} {z i : Nat} (h : i ≤ z) : sk B z i ≤ z := (rn_spec (p := fun j => decide (bB (B j))) (z := z) z i (by omega)).2.1 h
theorem sk_st {B : Nat → Int32} {z i : Nat} (h : sk B z i < z) : ¬ bB (B (sk B z i)) := of_decide_eq_false ((rn_spec (p := fun j => decide (bB (B j))) (z := z) z i (by omega)).2.2.2 h)
theorem rn_more {p : Nat → Bool} {z : Nat} : ∀ (f i : Nat), z ≤ i + f → rn p z (f + 1) i = rn p z f i
  | 0, i, h => by rw [rn_no (f := 1) (by omega), rn_no (f := 0) (by omega)]
  | f + 1, i, h => by
    by_cases c : i < z ∧ p i = true
    · rw [rn_go c.1 c.2, rn_go c.1 c.2, rn_more f (i + 1) (by omega)]
    · rw [rn_no c, rn_no c]
theorem sk_bl {B : Nat → Int32} {z i : Nat} (h : i < z) (hb : bB (B i)) : sk B z i = sk B z (i + 1) := by
  unfold sk
  rw [← rn_more z i (by omega), rn_go h (decide_eq_true hb)]
theorem sk_nb {B : Nat → Int32} {z i : Nat} (hb : ¬ (i < z ∧ bB (B i))) : sk B z i = i := rn_no (fun e => hb ⟨e.1, of_decide_eq_true e.2⟩)
/-- the place of the j-th token -/
def tA (B : Nat → Int32) (z : Nat) : Nat → Nat
  | 0 => sk B z 0
  | j + 1 => sk B z (eT B z (tA B z j))
theorem c_X4_isLetter {X : pmX} {d : Nat} {v : pmV} {P : Option Value → pmT → pmV → Prop} {T : pmT} {c : Int32} (kt : lB c → P (some (.int 1)) T v) (kf : ¬ (lB c) → P (some (.int 0)) T v) : EvP X d MX4_isLetter 0 [.int c] [] T v P := by
  refine ev_bipush 0 dX4_isLetter_0 kB_97 ?_
  refine ev_iload_n 2 dX4_isLetter_2 rfl ?_
  refine ev_ic_gt 3 16 dX4_isLetter_3 rfl (fun c_3 => ?_) (fun c_3 => ?_)
  · refine ev_iconst 16 dX4_isLetter_16 kI_0 ?_
    refine ev_ireturn 17 dX4_isLetter_17 rfl rfl ?_
    first | exact kf (fun h => absurd h.1 (Int32.not_le.mpr c_3)) | exact kf (fun h => absurd h.2 (Int32.not_le.mpr c_9))
  · refine ev_iload_n 6 dX4_isLetter_6 rfl ?_
    refine ev_bipush 7 dX4_isLetter_7 kB_122 ?_
    refine ev_ic_gt 9 16 dX4_isLetter_9 rfl (fun c_9 => ?_) (fun c_9 => ?_)
    · refine ev_iconst 16 dX4_isLetter_16 kI_0 ?_
      refine ev_ireturn 17 dX4_isLetter_17 rfl rfl ?_
      first | exact kf (fun h => absurd h.1 (Int32.not_le.mpr c_3)) | exact kf (fun h => absurd h.2 (Int32.not_le.mpr c_9))
    · refine ev_iconst 12 dX4_isLetter_12 kI_1 ?_
      refine ev_goto 13 17 dX4_isLetter_13 rfl ?_
      refine ev_ireturn 17 dX4_isLetter_17 rfl rfl ?_
      exact kt ⟨Int32.not_lt.mp c_3, Int32.not_lt.mp c_9⟩

theorem c_X4_isDigit {X : pmX} {d : Nat} {v : pmV} {P : Option Value → pmT → pmV → Prop} {T : pmT} {c : Int32} (kt : dB c → P (some (.int 1)) T v) (kf : ¬ (dB c) → P (some (.int 0)) T v) : EvP X d MX4_isDigit 0 [.int c] [] T v P := by
  refine ev_bipush 0 dX4_isDigit_0 kB_48 ?_
  refine ev_iload_n 2 dX4_isDigit_2 rfl ?_
  refine ev_ic_gt 3 16 dX4_isDigit_3 rfl (fun c_3 => ?_) (fun c_3 => ?_)
  · refine ev_iconst 16 dX4_isDigit_16 kI_0 ?_
    refine ev_ireturn 17 dX4_isDigit_17 rfl rfl ?_
    first | exact kf (fun h => absurd h.1 (Int32.not_le.mpr c_3)) | exact kf (fun h => absurd h.2 (Int32.not_le.mpr c_9))
  · refine ev_iload_n 6 dX4_isDigit_6 rfl ?_
    refine ev_bipush 7 dX4_isDigit_7 kB_57 ?_
    refine ev_ic_gt 9 16 dX4_isDigit_9 rfl (fun c_9 => ?_) (fun c_9 => ?_)
    · refine ev_iconst 16 dX4_isDigit_16 kI_0 ?_
      refine ev_ireturn 17 dX4_isDigit_17 rfl rfl ?_
      first | exact kf (fun h => absurd h.1 (Int32.not_le.mpr c_3)) | exact kf (fun h => absurd h.2 (Int32.not_le.mpr c_9))
    · refine ev_iconst 12 dX4_isDigit_12 kI_1 ?_
      refine ev_goto 13 17 dX4_isDigit_13 rfl ?_
      refine ev_ireturn 17 dX4_isDigit_17 rfl rfl ?_
      exact kt ⟨Int32.not_lt.mp c_3, Int32.not_lt.mp c_9⟩

theorem c_X4_isBlank {X : pmX} {d : Nat} {v : pmV} {P : Option Value → pmT → pmV → Prop} {T : pmT} {c : Int32} (kt : bB c → P (some (.int 1)) T v) (kf : ¬ (bB c) → P (some (.int 0)) T v) : EvP X d MX4_isBlank 0 [.int c] [] T v P := by
  refine ev_iload_n 0 dX4_isBlank_0 rfl ?_
  refine ev_bipush 1 dX4_isBlank_1 kB_32 ?_
  refine ev_ic_eq 3 12 dX4_isBlank_3 rfl (fun c_3 => ?_) (fun c_3 => ?_)
  · refine ev_iconst 12 dX4_isBlank_12 kI_1 ?_
    refine ev_goto 13 17 dX4_isBlank_13 rfl ?_
    refine ev_ireturn 17 dX4_isBlank_17 rfl rfl ?_
    first | exact kt (Or.inl c_3) | exact kt (Or.inr (by simpa using c_9))
  · refine ev_iload_n 6 dX4_isBlank_6 rfl ?_
    refine ev_bipush 7 dX4_isBlank_7 kB_10 ?_
    refine ev_ic_ne 9 16 dX4_isBlank_9 rfl (fun c_9 => ?_) (fun c_9 => ?_)
    · refine ev_iconst 16 dX4_isBlank_16 kI_0 ?_
      refine ev_ireturn 17 dX4_isBlank_17 rfl rfl ?_
      exact kf (fun h => h.elim c_3 c_9)
    · refine ev_iconst 12 dX4_isBlank_12 kI_1 ?_
      refine ev_goto 13 17 dX4_isBlank_13 rfl ?_
      refine ev_ireturn 17 dX4_isBlank_17 rfl rfl ?_
      first | exact kt (Or.inl c_3) | exact kt (Or.inr (by simpa using c_9))

theorem c_X4_isOneWord {X : pmX} {d : Nat} {v : pmV} {P : Option Value → pmT → pmV → Prop} {T : pmT} {a b : Int32} (kt : oWd a b → P (some (.int 1)) T v) (kf : ¬ (oWd a b) → P (some (.int 0)) T v) : EvP X (d + 1) MX4_isOneWord 0 [.int a, .int b] [] T v P := by
  refine ev_iload_n 0 dX4_isOneWord_0 rfl ?_
  refine cs_4_80 (pc := 1) rfl dX4_isOneWord_1 (Nat.le_of_ble_eq_true rfl) ?_
  refine c_X4_isLetter (fun h_1 => ?_) (fun h_1 => ?_)
  · refine ev_ifF 4 14 dX4_isOneWord_4 rfl (by decide) ?_
    refine ev_iload_n 7 dX4_isOneWord_7 rfl ?_
    refine cs_4_80 (pc := 8) rfl dX4_isOneWord_8 (Nat.le_of_ble_eq_true rfl) ?_
    refine c_X4_isLetter (fun h_8 => ?_) (fun h_8 => ?_)
    · refine ev_ifT 11 28 dX4_isOneWord_11 rfl (by decide) ?_
      refine ev_iconst 28 dX4_isOneWord_28 kI_1 ?_
      refine ev_goto 29 33 dX4_isOneWord_29 rfl ?_
      refine ev_ireturn 33 dX4_isOneWord_33 rfl rfl ?_
      first | exact kt (Or.inl ⟨by assumption, by assumption⟩) | exact kt (Or.inr ⟨by assumption, by assumption⟩)
    · refine ev_ifF 11 28 dX4_isOneWord_11 rfl (by decide) ?_
      refine ev_iload_n 14 dX4_isOneWord_14 rfl ?_
      refine cs_4_83 (pc := 15) rfl dX4_isOneWord_15 (Nat.le_of_ble_eq_true rfl) ?_
      refine c_X4_isDigit (fun h_15 => ?_) (fun h_15 => ?_)
      · refine ev_ifF 18 32 dX4_isOneWord_18 rfl (by decide) ?_
        refine ev_iload_n 21 dX4_isOneWord_21 rfl ?_
        refine cs_4_83 (pc := 22) rfl dX4_isOneWord_22 (Nat.le_of_ble_eq_true rfl) ?_
        refine c_X4_isDigit (fun h_22 => ?_) (fun h_22 => ?_)
        · refine ev_ifF 25 32 dX4_isOneWord_25 rfl (by decide) ?_
          refine ev_iconst 28 dX4_isOneWord_28 kI_1 ?_
          refine ev_goto 29 33 dX4_isOneWord_29 rfl ?_
          refine ev_ireturn 33 dX4_isOneWord_33 rfl rfl ?_
          first | exact kt (Or.inl ⟨by assumption, by assumption⟩) | exact kt (Or.inr ⟨by assumption, by assumption⟩)
        · refine ev_ifT 25 32 dX4_isOneWord_25 rfl (by decide) ?_
          refine ev_iconst 32 dX4_isOneWord_32 kI_0 ?_
          refine ev_ireturn 33 dX4_isOneWord_33 rfl rfl ?_
          exact kf (fun h => h.elim (fun q => by first | exact absurd q.1 (by assumption) | exact absurd q.2 (by assumption)) (fun q => by first | exact absurd q.1 (by assumption) | exact absurd q.2 (by assumption)))
      · refine ev_ifT 18 32 dX4_isOneWord_18 rfl (by decide) ?_
        refine ev_iconst 32 dX4_isOneWord_32 kI_0 ?_
        refine ev_ireturn 33 dX4_isOneWord_33 rfl rfl ?_
        exact kf (fun h => h.elim (fun q => by first | exact absurd q.1 (by assumption) | exact absurd q.2 (by assumption)) (fun q => by first | exact absurd q.1 (by assumption) | exact absurd q.2 (by assumption)))
  · refine ev_ifT 4 14 dX4_isOneWord_4 rfl (by decide) ?_
    refine ev_iload_n 14 dX4_isOneWord_14 rfl ?_
    refine cs_4_83 (pc := 15) rfl dX4_isOneWord_15 (Nat.le_of_ble_eq_true rfl) ?_
    refine c_X4_isDigit (fun h_15 => ?_) (fun h_15 => ?_)
    · refine ev_ifF 18 32 dX4_isOneWord_18 rfl (by decide) ?_
      refine ev_iload_n 21 dX4_isOneWord_21 rfl ?_
      refine cs_4_83 (pc := 22) rfl dX4_isOneWord_22 (Nat.le_of_ble_eq_true rfl) ?_
      refine c_X4_isDigit (fun h_22 => ?_) (fun h_22 => ?_)
      · refine ev_ifF 25 32 dX4_isOneWord_25 rfl (by decide) ?_
        refine ev_iconst 28 dX4_isOneWord_28 kI_1 ?_
        refine ev_goto 29 33 dX4_isOneWord_29 rfl ?_
        refine ev_ireturn 33 dX4_isOneWord_33 rfl rfl ?_
        first | exact kt (Or.inl ⟨by assumption, by assumption⟩) | exact kt (Or.inr ⟨by assumption, by assumption⟩)
      · refine ev_ifT 25 32 dX4_isOneWord_25 rfl (by decide) ?_
        refine ev_iconst 32 dX4_isOneWord_32 kI_0 ?_
        refine ev_ireturn 33 dX4_isOneWord_33 rfl rfl ?_
        exact kf (fun h => h.elim (fun q => by first | exact absurd q.1 (by assumption) | exact absurd q.2 (by assumption)) (fun q => by first | exact absurd q.1 (by assumption) | exact absurd q.2 (by assumption)))
    · refine ev_ifT 18 32 dX4_isOneWord_18 rfl (by decide) ?_
      refine ev_iconst 32 dX4_isOneWord_32 kI_0 ?_
      refine ev_ireturn 33 dX4_isOneWord_33 rfl rfl ?_
      exact kf (fun h => h.elim (fun q => by first | exact absurd q.1 (by assumption) | exact absurd q.2 (by assumption)) (fun q => by first | exact absurd q.1 (by assumption) | exact absurd q.2 (by assumption)))

theorem c_X4_wordOf_0 {X : pmX} {d : Nat} {v : pmV} {P : Option Value → pmT → pmV → Prop} {T : pmT} (k : P (some (.ref 2)) T v) : EvP X d MX4_wordOf 0 [.int 0] [] T v P := by
  refine ev_iload_n 0 dX4_wordOf_0 rfl ?_
  refine ev_swIn 1 60 dX4_wordOf_1 (by decide) rfl rfl ?_
  refine ev_ldcS 60 dX4_wordOf_60 ln_4_103 ls_4_103 ?_
  refine ev_areturn 62 dX4_wordOf_62 rfl (by decide) ?_
  exact k

theorem c_X4_wordOf_1 {X : pmX} {d : Nat} {v : pmV} {P : Option Value → pmT → pmV → Prop} {T : pmT} (k : P (some (.ref 4)) T v) : EvP X d MX4_wordOf 0 [.int 1] [] T v P := by
  refine ev_iload_n 0 dX4_wordOf_0 rfl ?_
  refine ev_swIn 1 63 dX4_wordOf_1 (by decide) rfl rfl ?_
  refine ev_ldcS 63 dX4_wordOf_63 ln_4_105 ls_4_105 ?_
  refine ev_areturn 65 dX4_wordOf_65 rfl (by decide) ?_
  exact k

theorem c_X4_wordOf_2 {X : pmX} {d : Nat} {v : pmV} {P : Option Value → pmT → pmV → Prop} {T : pmT} (k : P (some (.ref 6)) T v) : EvP X d MX4_wordOf 0 [.int 2] [] T v P := by
  refine ev_iload_n 0 dX4_wordOf_0 rfl ?_
  refine ev_swIn 1 66 dX4_wordOf_1 (by decide) rfl rfl ?_
  refine ev_ldcS 66 dX4_wordOf_66 ln_4_107 ls_4_107 ?_
  refine ev_areturn 68 dX4_wordOf_68 rfl (by decide) ?_
  exact k

theorem c_X4_wordOf_3 {X : pmX} {d : Nat} {v : pmV} {P : Option Value → pmT → pmV → Prop} {T : pmT} (k : P (some (.ref 8)) T v) : EvP X d MX4_wordOf 0 [.int 3] [] T v P := by
  refine ev_iload_n 0 dX4_wordOf_0 rfl ?_
  refine ev_swIn 1 69 dX4_wordOf_1 (by decide) rfl rfl ?_
  refine ev_ldcS 69 dX4_wordOf_69 ln_4_109 ls_4_109 ?_
  refine ev_areturn 71 dX4_wordOf_71 rfl (by decide) ?_
  exact k

theorem c_X4_wordOf_4 {X : pmX} {d : Nat} {v : pmV} {P : Option Value → pmT → pmV → Prop} {T : pmT} (k : P (some (.ref 10)) T v) : EvP X d MX4_wordOf 0 [.int 4] [] T v P := by
  refine ev_iload_n 0 dX4_wordOf_0 rfl ?_
  refine ev_swIn 1 72 dX4_wordOf_1 (by decide) rfl rfl ?_
  refine ev_ldcS 72 dX4_wordOf_72 ln_4_111 ls_4_111 ?_
  refine ev_areturn 74 dX4_wordOf_74 rfl (by decide) ?_
  exact k

theorem c_X4_wordOf_5 {X : pmX} {d : Nat} {v : pmV} {P : Option Value → pmT → pmV → Prop} {T : pmT} (k : P (some (.ref 12)) T v) : EvP X d MX4_wordOf 0 [.int 5] [] T v P := by
  refine ev_iload_n 0 dX4_wordOf_0 rfl ?_
  refine ev_swIn 1 75 dX4_wordOf_1 (by decide) rfl rfl ?_
  refine ev_ldcS 75 dX4_wordOf_75 ln_4_113 ls_4_113 ?_
  refine ev_areturn 77 dX4_wordOf_77 rfl (by decide) ?_
  exact k

theorem c_X4_wordOf_6 {X : pmX} {d : Nat} {v : pmV} {P : Option Value → pmT → pmV → Prop} {T : pmT} (k : P (some (.ref 14)) T v) : EvP X d MX4_wordOf 0 [.int 6] [] T v P := by
  refine ev_iload_n 0 dX4_wordOf_0 rfl ?_
  refine ev_swIn 1 78 dX4_wordOf_1 (by decide) rfl rfl ?_
  refine ev_ldcS 78 dX4_wordOf_78 ln_4_115 ls_4_115 ?_
  refine ev_areturn 80 dX4_wordOf_80 rfl (by decide) ?_
  exact k

theorem c_X4_wordOf_7 {X : pmX} {d : Nat} {v : pmV} {P : Option Value → pmT → pmV → Prop} {T : pmT} (k : P (some (.ref 16)) T v) : EvP X d MX4_wordOf 0 [.int 7] [] T v P := by
  refine ev_iload_n 0 dX4_wordOf_0 rfl ?_
  refine ev_swIn 1 81 dX4_wordOf_1 (by decide) rfl rfl ?_
  refine ev_ldcS 81 dX4_wordOf_81 ln_4_117 ls_4_117 ?_
  refine ev_areturn 83 dX4_wordOf_83 rfl (by decide) ?_
  exact k

theorem c_X4_wordOf_8 {X : pmX} {d : Nat} {v : pmV} {P : Option Value → pmT → pmV → Prop} {T : pmT} (k : P (some (.ref 18)) T v) : EvP X d MX4_wordOf 0 [.int 8] [] T v P := by
  refine ev_iload_n 0 dX4_wordOf_0 rfl ?_
  refine ev_swIn 1 84 dX4_wordOf_1 (by decide) rfl rfl ?_
  refine ev_ldcS 84 dX4_wordOf_84 ln_4_119 ls_4_119 ?_
  refine ev_areturn 86 dX4_wordOf_86 rfl (by decide) ?_
  exact k

theorem c_X4_wordOf_9 {X : pmX} {d : Nat} {v : pmV} {P : Option Value → pmT → pmV → Prop} {T : pmT} (k : P (some (.ref 20)) T v) : EvP X d MX4_wordOf 0 [.int 9] [] T v P := by
  refine ev_iload_n 0 dX4_wordOf_0 rfl ?_
  refine ev_swIn 1 87 dX4_wordOf_1 (by decide) rfl rfl ?_
  refine ev_ldcS 87 dX4_wordOf_87 ln_4_121 ls_4_121 ?_
  refine ev_areturn 89 dX4_wordOf_89 rfl (by decide) ?_
  exact k

theorem c_X4_wordOf_10 {X : pmX} {d : Nat} {v : pmV} {P : Option Value → pmT → pmV → Prop} {T : pmT} (k : P (some (.ref 22)) T v) : EvP X d MX4_wordOf 0 [.int 10] [] T v P := by
  refine ev_iload_n 0 dX4_wordOf_0 rfl ?_
  refine ev_swIn 1 90 dX4_wordOf_1 (by decide) rfl rfl ?_
  refine ev_ldcS 90 dX4_wordOf_90 ln_4_123 ls_4_123 ?_
  refine ev_areturn 92 dX4_wordOf_92 rfl (by decide) ?_
  exact k

theorem c_X4_wordOf_11 {X : pmX} {d : Nat} {v : pmV} {P : Option Value → pmT → pmV → Prop} {T : pmT} (k : P (some (.ref 24)) T v) : EvP X d MX4_wordOf 0 [.int 11] [] T v P := by
  refine ev_iload_n 0 dX4_wordOf_0 rfl ?_
  refine ev_swOut 1 93 dX4_wordOf_1 (by decide) rfl ?_
  refine ev_ldcS 93 dX4_wordOf_93 ln_4_125 ls_4_125 ?_
  refine ev_areturn 95 dX4_wordOf_95 rfl (by decide) ?_
  exact k

theorem c_X4_wordOf {X : pmX} {d : Nat} {v : pmV} {P : Option Value → pmT → pmV → Prop} {T : pmT} {w : Nat} (hw : w < 12) (k : P (some (.ref (2 * (w + 1)))) T v) : EvP X d MX4_wordOf 0 [.int (nI w)] [] T v P := by
  have : w = 0 ∨ w = 1 ∨ w = 2 ∨ w = 3 ∨ w = 4 ∨ w = 5 ∨ w = 6 ∨ w = 7 ∨ w = 8 ∨ w = 9 ∨ w = 10 ∨ w = 11 := by omega
  rcases this with rfl | rfl | rfl | rfl | rfl | rfl | rfl | rfl | rfl | rfl | rfl | rfl
  · exact c_X4_wordOf_0 k
  · exact c_X4_wordOf_1 k
  · exact c_X4_wordOf_2 k
  · exact c_X4_wordOf_3 k
  · exact c_X4_wordOf_4 k
  · exact c_X4_wordOf_5 k
  · exact c_X4_wordOf_6 k
  · exact c_X4_wordOf_7 k
  · exact c_X4_wordOf_8 k
  · exact c_X4_wordOf_9 k
  · exact c_X4_wordOf_10 k
  · exact c_X4_wordOf_11 k
theorem sg_t : ∀ c, c < 256 → ((∃ j, j < pmLen 13 ∧ sB 13 j = (nI c).toInt8.toInt32) ↔ sgB (nI c)) := by decide +kernel
theorem c_X4_isSign {X : pmX} {d : Nat} {v : pmV} {P : Option Value → pmT → pmV → Prop} {T : pmT} {c : Nat} (hc : c < 256) (kt : sgB (nI c) → P (some (.int 1)) T v) (kf : ¬ (sgB (nI c)) → P (some (.int 0)) T v) : EvP X (d + 4) MX4_isSign 0 [.int (nI c)] [] T v P := by
  refine ev_ldcS 0 dX4_isSign_0 ln_4_127 ls_4_127 ?_
  refine ev_iload_n 2 dX4_isSign_2 rfl ?_
  refine ev_i2c 3 dX4_isSign_3 ?_
  refine ev_cst (y := nI c) (nIb _ hc) ?_
  refine cv_4_129_20 (pc := 4) rfl dX4_isSign_4 kd_26 (Nat.le_of_ble_eq_true rfl) ?_
  refine c_J0_indexOf (by decide) hc (by decide) (fun j hj hx => ?_) (fun hx => ?_)
  · refine ev_if_lt 7 14 dX4_isSign_7 rfl (fun c_7 => absurd c_7 (Int32.not_lt.mpr (nI_pos' (by have := (pmLen_t 13 (by decide)).1; omega)))) (fun c_7 => ?_)
    refine ev_iconst 10 dX4_isSign_10 kI_1 ?_
    refine ev_goto 11 15 dX4_isSign_11 rfl ?_
    refine ev_ireturn 15 dX4_isSign_15 rfl rfl ?_
    exact kt ((sg_t c hc).mp ⟨j, hj, hx⟩)
  · refine ev_ifT 7 14 dX4_isSign_7 rfl (by decide) ?_
    refine ev_iconst 14 dX4_isSign_14 kI_0 ?_
    refine ev_ireturn 15 dX4_isSign_15 rfl rfl ?_
    exact kf (fun h => by obtain ⟨j, hj, hx2⟩ := (sg_t c hc).mpr h; exact hx j hj hx2)

theorem lp_end {X : pmX} {d : Nat} {v : pmV} {P : Option Value → pmT → pmV → Prop} {T : pmT} {a : Nat} {B : Nat → Int32} {z : Nat} (hK : TK T) (hX : pmRfX v) (hz160 : z ≤ 160) (hz : v.1 41 1 = nI z) (hB : ∀ j, j < z → v.1 42 j = B j) (ha : a < z) : ∀ (f i : Nat), z ≤ i + f → i ≤ z → P (some (.int (nI (rn (fun j => decide (oWd (B a) (B j))) z f i)))) T v → EvP X (d + 2) MX4_endOfToken 4 [.ref 41, .int (nI a), .int (nI i)] [] T v P
  | 0, i, hi, hiz, K => by
    refine ev_iload_n 4 dX4_endOfToken_4 rfl ?_
    refine ev_aload_n 5 dX4_endOfToken_5 rfl (by decide) ?_
    refine gf_4_31 (x := nI z) (pc := 6) rfl dX4_endOfToken_6 (kT_41 hK) hz ?_
    refine ev_ic_geN (a := i) (b := z) 9 36 dX4_endOfToken_9 rfl (by omega) (by omega) (fun c_9 => ?_) (fun c_9 => by omega)
    refine ev_iload_n 36 dX4_endOfToken_36 rfl ?_
    refine ev_ireturn 37 dX4_endOfToken_37 rfl rfl ?_
    exact K
  | f + 1, i, hi, hiz, K => by
    refine ev_iload_n 4 dX4_endOfToken_4 rfl ?_
    refine ev_aload_n 5 dX4_endOfToken_5 rfl (by decide) ?_
    refine gf_4_31 (x := nI z) (pc := 6) rfl dX4_endOfToken_6 (kT_41 hK) hz ?_
    refine ev_ic_geN (a := i) (b := z) 9 36 dX4_endOfToken_9 rfl (by omega) (by omega) (fun c_9 => ?_) (fun c_9 => ?_)
    · refine ev_iload_n 36 dX4_endOfToken_36 rfl ?_
      refine ev_ireturn 37 dX4_endOfToken_37 rfl rfl ?_
      rw [rn_no (fun e => absurd e.1 (by omega))] at K
      exact K
    · refine ev_aload_n 12 dX4_endOfToken_12 rfl (by decide) ?_
      refine gf_4_9 (pc := 13) rfl dX4_endOfToken_13 (kT_41 hK) (rX_41_0 hX) ?_
      refine ev_iload_n 16 dX4_endOfToken_16 rfl ?_
      refine ev_ialdJ (x := B a) (j := a) 17 dX4_endOfToken_17 (Nat.le_of_ble_eq_true rfl) (tT_42 hK) (pm_inI (by omega) (by omega)) (nI_clamp (by omega)) (hB _ (by omega)) ?_
      refine ev_aload_n 18 dX4_endOfToken_18 rfl (by decide) ?_
      refine gf_4_9 (pc := 19) rfl dX4_endOfToken_19 (kT_41 hK) (rX_41_0 hX) ?_
      refine ev_iload_n 22 dX4_endOfToken_22 rfl ?_
      refine ev_ialdJ (x := B i) (j := i) 23 dX4_endOfToken_23 (Nat.le_of_ble_eq_true rfl) (tT_42 hK) (pm_inI (by omega) (by omega)) (nI_clamp (by omega)) (hB _ (by omega)) ?_
      refine cs_4_76 (pc := 24) rfl dX4_endOfToken_24 (Nat.le_of_ble_eq_true rfl) ?_
      refine c_X4_isOneWord (fun h_24 => ?_) (fun h_24 => ?_)
      · refine ev_ifF 27 36 dX4_endOfToken_27 rfl (by decide) ?_
        refine ev_iinc (y := nI (i + 1)) (ls' := [.ref 41, .int (nI a), .int (nI (i + 1))]) 30 dX4_endOfToken_30 rfl (nI_add i 1) rfl ?_
        refine ev_goto 33 4 dX4_endOfToken_33 rfl ?_
        rw [rn_go (by omega) (decide_eq_true h_24)] at K
        exact lp_end hK hX hz160 hz hB ha f (i + 1) (by omega) (by omega) K
      · refine ev_ifT 27 36 dX4_endOfToken_27 rfl (by decide) ?_
        refine ev_iload_n 36 dX4_endOfToken_36 rfl ?_
        refine ev_ireturn 37 dX4_endOfToken_37 rfl rfl ?_
        rw [rn_no (fun e => h_24 (of_decide_eq_true e.2))] at K
        exact K
theorem c_X4_endOfToken {X : pmX} {d : Nat} {v : pmV} {P : Option Value → pmT → pmV → Prop} {T : pmT} {a : Nat} {B : Nat → Int32} {z : Nat} (hK : TK T) (hX : pmRfX v) (hz160 : z ≤ 160) (hz : v.1 41 1 = nI z) (hB : ∀ j, j < z → v.1 42 j = B j) (ha : a < z) (k : P (some (.int (nI (eT B z a)))) T v) : EvP X (d + 2) MX4_endOfToken 0 [.ref 41, .int (nI a), pmJ] [] T v P := by
  refine ev_iload_n 0 dX4_endOfToken_0 rfl ?_
  refine ev_iconst 1 dX4_endOfToken_1 kI_1 ?_
  refine ev_iadd 2 dX4_endOfToken_2 ?_
  refine ev_cst (y := nI (a + 1)) (nI_add a 1) ?_
  refine ev_istore_n (ls' := [.ref 41, .int (nI a), .int (nI (a + 1))]) 3 dX4_endOfToken_3 (Nat.le_of_ble_eq_true rfl) rfl ?_
  exact lp_end hK hX hz160 hz hB ha z (a + 1) (by omega) ha k

