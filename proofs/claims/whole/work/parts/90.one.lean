/-! TEXTS: what an operand may be, in the reference as in rOne -/
def cP (B : Nat → Int32) (z p : Nat) : Int32 := if p < z then tkC B p (eT B z p) else 0
def xP (B : Nat → Int32) (z p : Nat) : Int32 := tkV B p (eT B z p)
theorem LKP.cs {B : Nat → Int32} {z p : Nat} {v : pmV} (h : LKP B z p v) : (cP B z p = 0 ∧ v.1 100 14 = -1) ∨ (cP B z p = 1 ∧ v.1 100 14 = -2) ∨ (cP B z p = 2 ∧ v.1 100 14 = 1 ∧ v.1 100 15 = xP B z p) ∨ (v.1 100 14 = 2 ∧ ∃ w, w < 12 ∧ cP B z p = tkW w ∧ xP B z p = -1 - nI w ∧ v.1 100 15 = nI (wdN w)) ∨ (sgB (cP B z p) ∧ v.1 100 14 = cP B z p) := by
  unfold cP xP
  by_cases c : p < z
  · rw [if_pos c]
    rcases (h.2.2.2 c).2 with q | q | q | q
    · exact Or.inr (Or.inl q)
    · exact Or.inr (Or.inr (Or.inl q))
    · exact Or.inr (Or.inr (Or.inr (Or.inl q)))
    · exact Or.inr (Or.inr (Or.inr (Or.inr q)))
  · rw [if_neg c]; exact Or.inl ⟨rfl, h.2.2.1 (by omega)⟩
theorem wdN_inj : ∀ w, w < 12 → ∀ u, u < 12 → nI (wdN w) = nI (wdN u) → w = u := by decide +kernel
theorem num_ok {B : Nat → Int32} {z p : Nat} (h : cP B z p = 2) : 0 ≤ xP B z p := by
  unfold cP at h
  by_cases c : p < z
  · rw [if_pos c] at h
    unfold tkC at h
    by_cases l : lB (B p)
    · rw [if_pos l] at h; exfalso
      rcases wF_s (B := B) (a := p) (e := eT B z p) 12 (Nat.le_refl _) with ⟨q, _⟩ | ⟨q, _⟩
      · rw [q] at h; exact absurd h (by decide)
      · revert h; generalize wF B p (eT B z p) 12 = w at q; revert q; revert w; decide
    · rw [if_neg l] at h
      by_cases d : dB (B p)
      · rw [if_pos d] at h
        unfold xP tkV
        rw [if_neg l]
        have e4 : eT B z p - p ≤ 4 := by
          rcases Nat.lt_or_ge 4 (eT B z p - p) with a | a
          · rw [if_pos a] at h; exact absurd h (by decide)
          · exact a
        have hd : ∀ j, j < eT B z p - p → ∃ g, g ≤ 9 ∧ B (p + j) = nI (48 + g) := fun j hj => by
          obtain ⟨q, hq, q1, q2⟩ := nI_rng (a := 48) (b := 57) (by omega) (by omega) (dig_in (z := z) d (by omega) (by omega) : dB (B (p + j)))
          exact ⟨q - 48, by omega, by rw [hq]; exact congrArg nI (by omega)⟩
        have : ∀ n, n ≤ eT B z p - p → ∃ q, q < 10 ^ n ∧ nF B p n = nI q := fun n => by
          induction n with
          | zero => intro _; exact ⟨0, by decide, rfl⟩
          | succ n ih =>
            intro hn
            obtain ⟨q, q1, q2⟩ := ih (by omega)
            obtain ⟨g, g1, g2⟩ := hd n (by omega)
            have l6 : 10 ^ n ≤ 10 ^ 3 := Nat.pow_le_pow_right (by decide) (by omega)
            refine ⟨10 * q + g, by rw [Nat.pow_succ]; omega, ?_⟩
            rw [nF, q2, g2, show (10 : Int32) = nI 10 from rfl, nI_mulp, show nI (10 * q) + nI (48 + g) = nI (10 * q + (48 + g)) from nI_add _ _, show (48 : Int32) = nI 48 from rfl, nI_sub (by omega)]
            exact congrArg nI (by omega)
        obtain ⟨q, q1, q2⟩ := this _ (Nat.le_refl _)
        have l6 : 10 ^ (eT B z p - p) ≤ 10 ^ 4 := Nat.pow_le_pow_right (by decide) e4
        rw [q2]; exact nI_pos' (by omega)
      · rw [if_neg d] at h
        by_cases s : sgB (B p)
        · rw [if_pos s] at h; rw [h] at s; exact absurd s (by decide)
        · rw [if_neg s] at h; exact absurd h (by decide)
  · rw [if_neg c] at h; exact absurd h (by decide)
