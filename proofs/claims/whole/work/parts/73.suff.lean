/-! TEXTS: fuel enough for the class's grammar; what its codes are worth; codes ahead of it stand still -/
def cW (l : Nat) : Nat := if 10 ≤ l then 1 else 8 - l
theorem gP_suff {tok val : Nat → Int32} {N : Nat} (hN : tok N = 0) : ∀ (f l op : Nat) (g : Bool) (k : Nat) (cs : List Int32), k ≤ N → (l ≤ 6 ∨ l = 10 ∨ l = 11 ∨ l = 14 ∨ l = 15) → 20 * (N - k) + cW l ≤ f → ∃ r, gP tok val f l op g k cs = some r ∧ r.2.1 ≤ N
  | 0, l, _, _, k, _, hk, hl, h => by
    unfold cW at h
    split at h <;> omega
  | f + 1, l, op, g, k, cs, hk, hl, h => by
    have up : ∀ j, j ≤ N → tok j ≠ 0 → j + 1 ≤ N := fun j hj hn => by
      rcases Nat.lt_or_ge j N with a | a
      · exact a
      · have : j = N := by omega
        subst this; exact absurd hN hn
    rw [gP]
    by_cases l2 : l = 2
    · subst l2
      have h : 20 * (N - k) + 6 ≤ f + 1 := h
      rw [if_pos rfl]
      by_cases t9 : tok k = 9
      · rw [if_pos t9]
        by_cases o5 : 5 ≤ op
        · rw [if_pos o5]; exact ⟨_, rfl, hk⟩
        · rw [if_neg o5]
          have hk1 := up k hk (by rw [t9]; decide)
          obtain ⟨r, hr, hr2⟩ := gP_suff (val := val) hN f 2 (op + 1) true (k + 1) cs hk1 (by omega) (show 20 * (N - (k + 1)) + 6 ≤ f by omega)
          rw [hr]; exact ⟨_, rfl, hr2⟩
      · rw [if_neg t9]
        exact gP_suff hN f 3 op true k cs hk (by omega) (show 20 * (N - k) + 5 ≤ f by omega)
    rw [if_neg l2]
    by_cases l3 : l = 3
    · subst l3
      have h : 20 * (N - k) + 5 ≤ f + 1 := h
      rw [if_pos rfl]
      obtain ⟨r, hr, hr2⟩ := gP_suff (val := val) hN f 4 op true k cs hk (by omega) (show 20 * (N - k) + 4 ≤ f by omega)
      rw [hr]
      dsimp only
      have hm := (gP_mono f 4 op true k cs r hr).1
      by_cases q1 : r.1 = true
      · rw [if_pos q1]
        by_cases c6 : tok r.2.1 = 60 ∨ tok r.2.1 = 61
        · rw [if_pos c6]
          have hk1 := up r.2.1 hr2 (by rcases c6 with e | e <;> rw [e] <;> decide)
          obtain ⟨q, hq, hq2⟩ := gP_suff (val := val) hN f 4 op true (r.2.1 + 1) r.2.2 hk1 (by omega) (show 20 * (N - (r.2.1 + 1)) + 4 ≤ f by omega)
          rw [hq]; exact ⟨_, rfl, hq2⟩
        · rw [if_neg c6]; exact ⟨_, rfl, hr2⟩
      · rw [if_neg q1]; exact ⟨_, rfl, hr2⟩
    rw [if_neg l3]
    by_cases l6 : l = 6
    · subst l6
      have h : 20 * (N - k) + 2 ≤ f + 1 := h
      rw [if_pos rfl]
      by_cases t2 : tok k = 2 ∨ tok k = 3
      · rw [if_pos t2]; exact ⟨_, rfl, up k hk (by rcases t2 with e | e <;> rw [e] <;> decide)⟩
      rw [if_neg t2]
      by_cases o5 : 5 ≤ op
      · rw [if_pos o5]; exact ⟨_, rfl, hk⟩
      rw [if_neg o5]
      by_cases t40 : tok k = 40
      · rw [if_pos t40]
        have hk1 := up k hk (by rw [t40]; decide)
        obtain ⟨r, hr, hr2⟩ := gP_suff (val := val) hN f 0 (op + 1) true (k + 1) cs hk1 (by omega) (show 20 * (N - (k + 1)) + 8 ≤ f by omega)
        rw [hr]
        dsimp only
        by_cases c : r.1 = true ∧ tok r.2.1 = 41
        · rw [if_pos c]; exact ⟨_, rfl, up _ hr2 (by rw [c.2]; decide)⟩
        · rw [if_neg c]; exact ⟨_, rfl, hr2⟩
      rw [if_neg t40]
      by_cases t45 : tok k = 45
      · rw [if_pos t45]
        have hk1 := up k hk (by rw [t45]; decide)
        obtain ⟨r, hr, hr2⟩ := gP_suff (val := val) hN f 6 (op + 1) true (k + 1) cs hk1 (by omega) (show 20 * (N - (k + 1)) + 2 ≤ f by omega)
        rw [hr]; exact ⟨_, rfl, hr2⟩
      · rw [if_neg t45]; exact ⟨_, rfl, hk⟩
    rw [if_neg l6]
    by_cases l10 : 10 ≤ l
    · have h : 20 * (N - k) + 1 ≤ f + 1 := by unfold cW at h; rw [if_pos l10] at h; exact h
      rw [if_pos l10]
      by_cases c : g = true ∧ bOp (l - 10) (tok k) ≠ 0
      · rw [if_pos c]
        have hk1 := up k hk (by
          have := (bOp_spec (by omega) c.2).2.2.2.2.2.2.1
          exact this)
        obtain ⟨r, hr, hr2⟩ := gP_suff (val := val) hN f (l - 10 + 1) op true (k + 1) cs hk1 (by omega) (by unfold cW; rw [if_neg (by omega)]; omega)
        rw [hr]
        dsimp only
        have hm := (gP_mono f _ op true (k + 1) cs r hr).1
        exact gP_suff hN f l op _ _ _ hr2 hl (by unfold cW; rw [if_pos l10]; omega)
      · rw [if_neg c]; exact ⟨_, rfl, hk⟩
    · rw [if_neg l10]
      have h : 20 * (N - k) + (8 - l) ≤ f + 1 := by unfold cW at h; rw [if_neg l10] at h; exact h
      obtain ⟨r, hr, hr2⟩ := gP_suff (val := val) hN f (l + 1) op true k cs hk (by omega) (by unfold cW; rw [if_neg (by omega)]; omega)
      rw [hr]
      dsimp only
      have hm := (gP_mono f _ op true k cs r hr).1
      exact gP_suff hN f (l + 10) op _ _ _ hr2 (by omega) (by unfold cW; rw [if_pos (by omega)]; omega)
/-- codes ahead stand still -/
theorem gP_app {tok val : Nat → Int32} (a : List Int32) : ∀ (f l op : Nat) (g : Bool) (k : Nat) (cs : List Int32), gP tok val f l op g k (a ++ cs) = (gP tok val f l op g k cs).map fun r => (r.1, r.2.1, a ++ r.2.2)
  | 0, _, _, _, _, _ => rfl
  | f + 1, l, op, g, k, cs => by
    rw [gP, gP]
    by_cases l2 : l = 2
    · rw [if_pos l2, if_pos l2]
      by_cases t9 : tok k = 9
      · rw [if_pos t9, if_pos t9]
        by_cases o5 : 5 ≤ op
        · rw [if_pos o5, if_pos o5]; rfl
        · rw [if_neg o5, if_neg o5, gP_app a f]
          cases gP tok val f 2 (op + 1) true (k + 1) cs with
          | none => rfl
          | some r => simp
      · rw [if_neg t9, if_neg t9, gP_app a f]
    rw [if_neg l2, if_neg l2]
    by_cases l3 : l = 3
    · rw [if_pos l3, if_pos l3, gP_app a f]
      cases gP tok val f 4 op true k cs with
      | none => rfl
      | some r =>
        simp only [Option.map_some]
        by_cases q1 : r.1 = true
        · rw [if_pos q1, if_pos q1]
          by_cases c6 : tok r.2.1 = 60 ∨ tok r.2.1 = 61
          · rw [if_pos c6, if_pos c6, gP_app a f]
            cases gP tok val f 4 op true (r.2.1 + 1) r.2.2 with
            | none => rfl
            | some q => simp
          · rw [if_neg c6, if_neg c6]; rfl
        · rw [if_neg q1, if_neg q1]; rfl
    rw [if_neg l3, if_neg l3]
    by_cases l6 : l = 6
    · rw [if_pos l6, if_pos l6]
      by_cases t2 : tok k = 2 ∨ tok k = 3
      · rw [if_pos t2, if_pos t2]; simp
      rw [if_neg t2, if_neg t2]
      by_cases o5 : 5 ≤ op
      · rw [if_pos o5, if_pos o5]; rfl
      rw [if_neg o5, if_neg o5]
      by_cases t40 : tok k = 40
      · rw [if_pos t40, if_pos t40, gP_app a f]
        cases gP tok val f 0 (op + 1) true (k + 1) cs with
        | none => rfl
        | some r =>
          simp only [Option.map_some]
          by_cases c : r.1 = true ∧ tok r.2.1 = 41
          · rw [if_pos c, if_pos c]; rfl
          · rw [if_neg c, if_neg c]; rfl
      rw [if_neg t40, if_neg t40]
      by_cases t45 : tok k = 45
      · rw [if_pos t45, if_pos t45, gP_app a f]
        cases gP tok val f 6 (op + 1) true (k + 1) cs with
        | none => rfl
        | some r => simp
      · rw [if_neg t45, if_neg t45]; rfl
    rw [if_neg l6, if_neg l6]
    by_cases l10 : 10 ≤ l
    · rw [if_pos l10, if_pos l10]
      by_cases c : g = true ∧ bOp (l - 10) (tok k) ≠ 0
      · rw [if_pos c, if_pos c, gP_app a f]
        cases gP tok val f (l - 10 + 1) op true (k + 1) cs with
        | none => rfl
        | some r =>
          simp only [Option.map_some]
          rw [List.append_assoc, gP_app a f]
      · rw [if_neg c, if_neg c]; rfl
    · rw [if_neg l10, if_neg l10, gP_app a f]
      cases gP tok val f (l + 1) op true k cs with
      | none => rfl
      | some r =>
        simp only [Option.map_some]
        rw [gP_app a f]
/-- more fuel does no harm -/
theorem gP_fuel {tok val : Nat → Int32} : ∀ (f l op : Nat) (g : Bool) (k : Nat) (cs : List Int32) (r : Bool × Nat × List Int32), gP tok val f l op g k cs = some r → gP tok val (f + 1) l op g k cs = some r
  | 0, _, _, _, _, _, _, h => by cases h
  | f + 1, l, op, g, k, cs, r, h => by
    rw [gP] at h ⊢
    by_cases l2 : l = 2
    · rw [if_pos l2] at h ⊢
      by_cases t9 : tok k = 9
      · rw [if_pos t9] at h ⊢
        by_cases o5 : 5 ≤ op
        · rw [if_pos o5] at h ⊢; exact h
        · rw [if_neg o5] at h ⊢
          cases hg : gP tok val f 2 (op + 1) true (k + 1) cs with
          | none => rw [hg] at h; cases h
          | some q => rw [hg] at h; rw [gP_fuel f _ _ _ _ _ q hg]; exact h
      · rw [if_neg t9] at h ⊢; exact gP_fuel f _ _ _ _ _ r h
    rw [if_neg l2] at h ⊢
    by_cases l3 : l = 3
    · rw [if_pos l3] at h ⊢
      cases hg : gP tok val f 4 op true k cs with
      | none => rw [hg] at h; cases h
      | some q =>
        rw [hg] at h; rw [gP_fuel f _ _ _ _ _ q hg]
        dsimp only at h ⊢
        by_cases q1 : q.1 = true
        · rw [if_pos q1] at h ⊢
          by_cases c6 : tok q.2.1 = 60 ∨ tok q.2.1 = 61
          · rw [if_pos c6] at h ⊢
            cases hg2 : gP tok val f 4 op true (q.2.1 + 1) q.2.2 with
            | none => rw [hg2] at h; cases h
            | some p => rw [hg2] at h; rw [gP_fuel f _ _ _ _ _ p hg2]; exact h
          · rw [if_neg c6] at h ⊢; exact h
        · rw [if_neg q1] at h ⊢; exact h
    rw [if_neg l3] at h ⊢
    by_cases l6 : l = 6
    · rw [if_pos l6] at h ⊢
      by_cases t2 : tok k = 2 ∨ tok k = 3
      · rw [if_pos t2] at h ⊢; exact h
      rw [if_neg t2] at h ⊢
      by_cases o5 : 5 ≤ op
      · rw [if_pos o5] at h ⊢; exact h
      rw [if_neg o5] at h ⊢
      by_cases t40 : tok k = 40
      · rw [if_pos t40] at h ⊢
        cases hg : gP tok val f 0 (op + 1) true (k + 1) cs with
        | none => rw [hg] at h; cases h
        | some q => rw [hg] at h; rw [gP_fuel f _ _ _ _ _ q hg]; exact h
      rw [if_neg t40] at h ⊢
      by_cases t45 : tok k = 45
      · rw [if_pos t45] at h ⊢
        cases hg : gP tok val f 6 (op + 1) true (k + 1) cs with
        | none => rw [hg] at h; cases h
        | some q => rw [hg] at h; rw [gP_fuel f _ _ _ _ _ q hg]; exact h
      · rw [if_neg t45] at h ⊢; exact h
    rw [if_neg l6] at h ⊢
    by_cases l10 : 10 ≤ l
    · rw [if_pos l10] at h ⊢
      by_cases c : g = true ∧ bOp (l - 10) (tok k) ≠ 0
      · rw [if_pos c] at h ⊢
        cases hg : gP tok val f (l - 10 + 1) op true (k + 1) cs with
        | none => rw [hg] at h; cases h
        | some q =>
          rw [hg] at h; rw [gP_fuel f _ _ _ _ _ q hg]
          exact gP_fuel f _ _ _ _ _ r h
      · rw [if_neg c] at h ⊢; exact h
    · rw [if_neg l10] at h ⊢
      cases hg : gP tok val f (l + 1) op true k cs with
      | none => rw [hg] at h; cases h
      | some q =>
        rw [hg] at h; rw [gP_fuel f _ _ _ _ _ q hg]
        exact gP_fuel f _ _ _ _ _ r h
theorem hgt_up {c : Int32} {t : List Int32} {h : Nat} (hc : -6 ≤ c) : hgt (c :: t) h = hgt t (h + 1) := by rw [hgt, if_pos hc]
theorem hgt_one {c : Int32} {t : List Int32} {h : Nat} (hc : c = -7 ∨ c = -8) : hgt (c :: t) (h + 1) = hgt t (h + 1) := by
  rw [hgt, if_neg (by rcases hc with rfl | rfl <;> decide), if_pos (by rcases hc with rfl | rfl <;> decide), if_pos (by omega)]
theorem hgt_two {c : Int32} {t : List Int32} {h : Nat} (hc : c < -8) : hgt (c :: t) (h + 2) = hgt t (h + 1) := by
  rw [hgt, if_neg, if_neg, if_pos (by omega)]
  · rfl
  · intro e; rw [Int32.le_iff_toInt_le] at e; rw [Int32.lt_iff_toInt_lt] at hc
    rw [show (-8 : Int32).toInt = -8 from rfl] at *; omega
  · intro e; rw [Int32.le_iff_toInt_le] at e; rw [Int32.lt_iff_toInt_lt] at hc
    rw [show (-8 : Int32).toInt = -8 from rfl] at *; rw [show (-6 : Int32).toInt = -6 from rfl] at *; omega
theorem bOp_lt {l : Nat} {c : Int32} (h : bOp l c ≠ 0) : bOp l c < -8 := by
  revert h
  unfold bOp
  by_cases a : l = 0 ∧ c = 7
  · rw [if_pos a]; intro _; decide
  rw [if_neg a]
  by_cases a : l = 1 ∧ c = 8
  · rw [if_pos a]; intro _; decide
  rw [if_neg a]
  by_cases a : l = 4 ∧ c = 43
  · rw [if_pos a]; intro _; decide
  rw [if_neg a]
  by_cases a : l = 4 ∧ c = 45
  · rw [if_pos a]; intro _; decide
  rw [if_neg a]
  by_cases a : l = 5 ∧ c = 42
  · rw [if_pos a]; intro _; decide
  rw [if_neg a]; intro h; exact absurd rfl h
theorem gP_hgt {tok val : Nat → Int32} (hv : ∀ j, tok j = 2 ∨ tok j = 3 → -6 ≤ val j) : ∀ (f l op : Nat) (g : Bool) (k : Nat) (cs : List Int32) (k' : Nat) (cs' : List Int32), gP tok val f l op g k cs = some (true, k', cs') → ∃ n, cs' = cs ++ n ∧ ∀ t h, (l ≤ 6 → hgt (n ++ t) h = hgt t (h + 1)) ∧ (10 ≤ l → hgt (n ++ t) (h + 1) = hgt t (h + 1))
  | 0, _, _, _, _, _, _, _, h => by cases h
  | f + 1, l, op, g, k, cs, k', cs', h => by
    rw [gP] at h
    by_cases l2 : l = 2
    · rw [if_pos l2] at h
      by_cases t9 : tok k = 9
      · rw [if_pos t9] at h
        by_cases o5 : 5 ≤ op
        · rw [if_pos o5] at h; cases h
        · rw [if_neg o5] at h
          cases hg : gP tok val f 2 (op + 1) true (k + 1) cs with
          | none => rw [hg] at h; cases h
          | some q =>
            rw [hg] at h
            obtain ⟨b, k1, c1⟩ := q
            cases h
            obtain ⟨n, hn, hh⟩ := gP_hgt hv f _ _ _ _ _ _ _ hg
            refine ⟨n ++ [-7], by rw [hn, List.append_assoc], fun t h => ⟨fun _ => ?_, fun e => by omega⟩⟩
            rw [List.append_assoc, (hh _ h).1 (by omega)]; exact hgt_one (Or.inl rfl)
      · rw [if_neg t9] at h
        obtain ⟨n, hn, hh⟩ := gP_hgt hv f _ _ _ _ _ _ _ h
        exact ⟨n, hn, fun t h => ⟨fun _ => (hh t h).1 (by omega), fun e => by omega⟩⟩
    rw [if_neg l2] at h
    by_cases l3 : l = 3
    · rw [if_pos l3] at h
      cases hg : gP tok val f 4 op true k cs with
      | none => rw [hg] at h; cases h
      | some q =>
        rw [hg] at h
        obtain ⟨b, k1, c1⟩ := q
        dsimp only at h
        by_cases q1 : b = true
        · subst q1
          rw [if_pos rfl] at h
          obtain ⟨n, hn, hh⟩ := gP_hgt hv f _ _ _ _ _ _ _ hg
          by_cases c6 : tok k1 = 60 ∨ tok k1 = 61
          · rw [if_pos c6] at h
            cases hg2 : gP tok val f 4 op true (k1 + 1) c1 with
            | none => rw [hg2] at h; cases h
            | some p =>
              rw [hg2] at h
              obtain ⟨b, k2, c2⟩ := p
              cases h
              obtain ⟨n2, hn2, hh2⟩ := gP_hgt hv f _ _ _ _ _ _ _ hg2
              refine ⟨n ++ (n2 ++ [if tok k1 = 60 then -11 else -12]), by rw [hn2, hn]; simp only [List.append_assoc], fun t h => ⟨fun _ => ?_, fun e => by omega⟩⟩
              simp only [List.append_assoc]
              rw [(hh _ h).1 (by omega), (hh2 _ _).1 (by omega)]; exact hgt_two (by split <;> decide)
          · rw [if_neg c6] at h; cases h
            exact ⟨n, hn, fun t h => ⟨fun _ => (hh t h).1 (by omega), fun e => by omega⟩⟩
        · rw [if_neg q1] at h; cases h; exact absurd rfl q1
    rw [if_neg l3] at h
    by_cases l6 : l = 6
    · rw [if_pos l6] at h
      by_cases t2 : tok k = 2 ∨ tok k = 3
      · rw [if_pos t2] at h; cases h
        exact ⟨[val k], rfl, fun t h => ⟨fun _ => hgt_up (hv k t2), fun e => by omega⟩⟩
      rw [if_neg t2] at h
      by_cases o5 : 5 ≤ op
      · rw [if_pos o5] at h; cases h
      rw [if_neg o5] at h
      by_cases t40 : tok k = 40
      · rw [if_pos t40] at h
        cases hg : gP tok val f 0 (op + 1) true (k + 1) cs with
        | none => rw [hg] at h; cases h
        | some q =>
          rw [hg] at h
          obtain ⟨b, k1, c1⟩ := q
          dsimp only at h
          by_cases c : b = true ∧ tok k1 = 41
          · rw [if_pos c] at h; cases h
            rw [c.1] at hg
            obtain ⟨n, hn, hh⟩ := gP_hgt hv f _ _ _ _ _ _ _ hg
            exact ⟨n, hn, fun t h => ⟨fun _ => (hh t h).1 (by omega), fun e => by omega⟩⟩
          · rw [if_neg c] at h; cases h
      rw [if_neg t40] at h
      by_cases t45 : tok k = 45
      · rw [if_pos t45] at h
        cases hg : gP tok val f 6 (op + 1) true (k + 1) cs with
        | none => rw [hg] at h; cases h
        | some q =>
          rw [hg] at h
          obtain ⟨b, k1, c1⟩ := q
          cases h
          obtain ⟨n, hn, hh⟩ := gP_hgt hv f _ _ _ _ _ _ _ hg
          refine ⟨n ++ [-8], by rw [hn, List.append_assoc], fun t h => ⟨fun _ => ?_, fun e => by omega⟩⟩
          rw [List.append_assoc, (hh _ h).1 (by omega)]; exact hgt_one (Or.inr rfl)
      · rw [if_neg t45] at h; cases h
    rw [if_neg l6] at h
    by_cases l10 : 10 ≤ l
    · rw [if_pos l10] at h
      by_cases c : g = true ∧ bOp (l - 10) (tok k) ≠ 0
      · rw [if_pos c] at h
        cases hg : gP tok val f (l - 10 + 1) op true (k + 1) cs with
        | none => rw [hg] at h; cases h
        | some q =>
          rw [hg] at h
          obtain ⟨b, k1, c1⟩ := q
          dsimp only at h
          cases hb : b with
          | false =>
            subst hb
            cases f with
            | zero => cases h
            | succ f =>
              rw [gP, if_neg (by omega), if_neg (by omega), if_neg (by omega), if_pos (by omega), if_neg (by simp)] at h
              cases h
          | true =>
            subst hb
            obtain ⟨n, hn, hh⟩ := gP_hgt hv f _ _ _ _ _ _ _ hg
            obtain ⟨n2, hn2, hh2⟩ := gP_hgt hv f _ _ _ _ _ _ _ h
            refine ⟨n ++ (bOp (l - 10) (tok k) :: n2), by rw [hn2, hn]; simp, fun t h => ⟨fun e => by omega, fun _ => ?_⟩⟩
            by_cases l9 : l - 10 + 1 ≤ 6
            · rw [List.append_assoc, (hh _ _).1 l9, List.cons_append, hgt_two (bOp_lt c.2), (hh2 t h).2 l10]
            · exfalso
              have := c.2
              unfold bOp at this
              rw [if_neg (by omega), if_neg (by omega), if_neg (by omega), if_neg (by omega), if_neg (by omega)] at this
              exact this rfl
      · rw [if_neg c] at h; cases h
        exact ⟨[], by simp, fun t h => ⟨fun e => by omega, fun _ => rfl⟩⟩
    · rw [if_neg l10] at h
      cases hg : gP tok val f (l + 1) op true k cs with
      | none => rw [hg] at h; cases h
      | some q =>
        rw [hg] at h
        obtain ⟨b, k1, c1⟩ := q
        dsimp only at h
        cases hb : b with
        | false =>
          subst hb
          cases f with
          | zero => cases h
          | succ f =>
            rw [gP, if_neg (by omega), if_neg (by omega), if_neg (by omega), if_pos (by omega), if_neg (by simp)] at h
            cases h
        | true =>
          subst hb
          obtain ⟨n, hn, hh⟩ := gP_hgt hv f _ _ _ _ _ _ _ hg
          obtain ⟨n2, hn2, hh2⟩ := gP_hgt hv f _ _ _ _ _ _ _ h
          refine ⟨n ++ n2, by rw [hn2, hn, List.append_assoc], fun t h => ⟨fun l6' => ?_, fun e => by omega⟩⟩
          rw [List.append_assoc, (hh _ _).1 (by omega), (hh2 _ h).2 (by omega)]
