/-! TEXTS: takesE against rE; rE against the class's grammar -/
theorem if_cg {a b : Prop} [Decidable a] [Decidable b] (h : a ↔ b) : (if a then (1 : Int32) else 0) = if b then 1 else 0 := by
  by_cases ha : a
  · rw [if_pos ha, if_pos (h.mp ha)]
  · rw [if_neg ha, if_neg (fun q => ha (h.mpr q))]
theorem wd_f : ∀ w, w < 12 → ((nI (wdN w) = 14836 ↔ tkW w = 9) ∧ tkW w ≠ 40 ∧ (3 ≤ tkW w ∧ tkW w ≤ 9) ∧ tkW w ≠ 59 ∧ tkW w ≠ 0 ∧ tkW w ≠ 1) := by decide
theorem LKP.fx {B : Nat → Int32} {z p : Nat} {v : pmV} (h : LKP B z p v) : ((v.1 100 14 = 2 ∧ v.1 100 15 = 14836) ↔ cP B z p = 9) ∧ (v.1 100 14 = 40 ↔ cP B z p = 40) ∧ (v.1 100 14 = 2 ↔ 3 ≤ cP B z p ∧ cP B z p ≤ 9) ∧ ((v.1 100 14 ≠ 41 ∧ (v.1 100 14 = 59 ∨ v.1 100 14 < 0)) ↔ (cP B z p ≠ 41 ∧ (cP B z p = 59 ∨ cP B z p = 0 ∨ cP B z p = 1))) ∧ (v.1 100 14 = 59 ↔ cP B z p = 59) := by
  rcases h.cs with ⟨hc, ht⟩ | ⟨hc, ht⟩ | ⟨hc, ht, hw⟩ | ⟨ht, w, hw, hc, hx, hd⟩ | ⟨hs, ht⟩
  · rw [hc, ht]; exact ⟨⟨fun h => absurd h.1 (by decide), fun h => absurd h (by decide)⟩, by decide, by decide, by decide, by decide⟩
  · rw [hc, ht]; exact ⟨⟨fun h => absurd h.1 (by decide), fun h => absurd h (by decide)⟩, by decide, by decide, by decide, by decide⟩
  · rw [hc, ht]; exact ⟨⟨fun h => absurd h.1 (by decide), fun h => absurd h (by decide)⟩, by decide, by decide, by decide, by decide⟩
  · rw [hc, ht, hd]
    obtain ⟨f1, f2, f3, f4, f5, f6⟩ := wd_f w hw
    exact ⟨⟨fun h => f1.mp h.2, fun h => ⟨rfl, f1.mpr h⟩⟩, ⟨fun h => absurd h (by decide), fun h => absurd h f2⟩, ⟨fun _ => f3, fun _ => rfl⟩, ⟨fun h => h.2.elim (fun q => absurd q (by decide)) (fun q => absurd q (by decide)), fun h => absurd h.2 (fun q => q.elim f4 (fun q => q.elim f5 f6))⟩, ⟨fun h => absurd h (by decide), fun h => absurd h f4⟩⟩
  · rw [ht]
    generalize cP B z p = c at hs
    rcases hs with rfl | rfl | rfl | rfl | rfl | rfl | rfl | rfl <;> exact ⟨⟨fun h => absurd h.1 (by decide), fun h => absurd h (by decide)⟩, by decide, by decide, by decide, by decide⟩
theorem rOne_le {c x : Int32} {m : Bool} {W cs : List Int32} {op : Nat} {r : rS × Bool} (h : rOne c x m (W, cs, op) = some r) (h5 : op ≤ 5) : r.1.2.2 ≤ 5 ∧ r.1.1.length + r.1.2.1.length ≤ W.length + cs.length + 1 := by
  have hs := stl_len 7 W (cs ++ [x]) op
  rw [List.length_append, List.length_singleton] at hs
  unfold rOne at h
  dsimp only at h
  split at h
  · injection h with h; subst h; exact ⟨by dsimp only; omega, by dsimp only; omega⟩
  · split at h
    · split at h
      · cases h
      · injection h with h; subst h; exact ⟨by dsimp only; omega, by dsimp only; rw [List.length_cons]; omega⟩
    · split at h
      · split at h
        · cases h
        · injection h with h; subst h; exact ⟨by dsimp only; omega, by dsimp only; rw [List.length_cons]; omega⟩
      · split at h
        · split at h
          · cases h
          · injection h with h; subst h; exact ⟨by dsimp only; omega, by dsimp only; rw [List.length_cons]; omega⟩
        · cases h
theorem rSgn_le {c : Int32} {W cs : List Int32} {op : Nat} {r : rS × Bool} (h : rSgn c (W, cs, op) = some r) (h5 : op ≤ 5) : r.1.2.2 ≤ 5 ∧ r.1.1.length + r.1.2.1.length ≤ W.length + cs.length + 1 := by
  by_cases h0 : sgOf c = 0
  · by_cases h41 : c = 41
    · subst h41
      have hs := stl_len 1 W cs op
      by_cases ht : tpS (stl 1 W cs op).1 = 20
      · generalize hr : stl 1 W cs op = u at ht hs
        obtain ⟨W1, cs1, op1⟩ := u
        dsimp only at ht hs
        cases W1 with
        | nil => exact absurd ht (by decide)
        | cons s W1 =>
          have e : s = 20 := ht
          subst e
          rw [rSgn_e (q := (W, cs, op)) hr] at h
          injection h with h; subst h
          have hs2 := stl_len 7 W1 cs1 (op1 - 1)
          rw [List.length_cons] at hs
          exact ⟨by dsimp only; omega, by dsimp only; omega⟩
      · rw [rSgn_en (q := (W, cs, op)) ht] at h; cases h
    · rw [rSgn_no h0 h41] at h; cases h
  · by_cases h56 : sgOf c = 5 ∨ sgOf c = 6
    · have hs := stl_len 5 W cs op
      by_cases h4 : topS (stl 5 W cs op).1 = 4
      · rw [rSgn_n (q := (W, cs, op)) h0 h56 h4] at h; cases h
      · rw [rSgn_l (q := (W, cs, op)) h0 h56 h4] at h
        injection h with h; subst h; exact ⟨by dsimp only; omega, by dsimp only; rw [List.length_cons]; omega⟩
    · have hs := stl_len (sStr (sgOf c)) W cs op
      rw [rSgn_s (q := (W, cs, op)) h0 h56] at h
      injection h with h; subst h; exact ⟨by dsimp only; omega, by dsimp only; rw [List.length_cons]; omega⟩
/-- what the tokens are -/
def TKS (B : Nat → Int32) (z N : Nat) : Prop := N ≤ z ∧ tA B z N = z ∧ ∀ j, j < N → tA B z j < z
theorem lp_takesE {X : pmX} {d : Nat} {v0 : pmV} {P : Option Value → pmT → pmV → Prop} {LT : pmT} {B : Nat → Int32} {z bs N : Nat} {a1 : Int32} (hX : pmRf v0) (hz160 : z ≤ 160) (hz : v0.1 100 12 = nI z) (hB : ∀ j, j < z → v0.1 106 j = B j) (h255 : ∀ j, j < z → 0 ≤ B j ∧ B j ≤ 255) (hN : TKS B z N) : ∀ (f k op : Nat) (W cs : List Int32) (w m : Bool) (y : Int32) (a4 a5 a6 a7 : Value) (v : pmV), N < k + f → k ≤ N → Of (eC bs) v0 v → MS bs W cs op v → LKP B z (tA B z k) v → op ≤ 5 → W.length + cs.length + 1 ≤ k → y = (if m = true then 1 else 0) → (∀ (b : Bool) (k' : Nat) (cs' : List Int32) (v' : pmV), rE (tC B z) (tV B z) f k (W, cs, op) w m = (b, k', cs') → k' ≤ N → Of (eC bs) v0 v' → LKP B z (tA B z k') v' → (b = true → ∃ op', MS bs [] cs' op' v') → P (some (.int (if b = true then 1 else 0))) (pmT0 ++ LT) v') → EvP X (d + 4) MX12_takesE 19 [.ref 100, .int a1, .int (if w = true then 1 else 0), .int y, a4, a5, a6, a7] [] (pmT0 ++ LT) v P
  | 0, k, op, W, cs, w, m, y, a4, a5, a6, a7, v, hf, hk, hO, hM, hL, h5, hl, hy, K => by omega
  | f + 1, k, op, W, cs, w, m, y, a4, a5, a6, a7, v, hf, hk, hO, hM, hL, h5, hl, hy, K => by
    have hX1 : pmRf v := hX.ag (congrArg Prod.snd hO.1)
    have hz1 : v.1 100 12 = nI z := (hO.off (by unfold eC mC lkC; omega)).trans hz
    have hB1 : ∀ j, j < z → v.1 106 j = B j := fun j hj => (hO.off (by unfold eC mC lkC; omega)).trans (hB j hj)
    obtain ⟨F1, F2, F3, F4, F5⟩ := hL.fx
    have hkN : tA B z k < z → k + 1 ≤ N := fun h => by
      rcases Nat.lt_or_ge k N with q | q
      · exact q
      · have e : k = N := by omega
        subst e; rw [hN.2.1] at h; omega
    have hz2 := hN.1
    cases w with
    | true =>
      show EvP X (d + 4) MX12_takesE 19 [.ref 100, .int a1, .int 1, .int y, a4, a5, a6, a7] [] (pmT0 ++ LT) v P
      refine ev_iload_n 19 dX12_takesE_19 rfl ?_
      refine ev_ifT 20 75 dX12_takesE_20 rfl (by decide) ?_
      refine te_pre (fun y4 y5 y6 e4 e5 e6 => ?_)
      refine te_one (m := m) (cA := tC B z k = 9) (cB := tC B z k = 40) hX1 hz160 hz1 hB1 h255 hM hL h5 (by omega) hy (e4.trans (if_cg F1)) (e5.trans (if_cg F2)) (fun h0 v' hO' => ?_) (fun q w v' y' h1 hO' hM' hL' hy' => ?_)
      · have h0' : rOne (tC B z k) (tV B z k) m (W, cs, op) = none := h0
        exact K false k cs v' (by rw [rE, if_neg (by simp), if_pos rfl, h0']) hk (hO.tr (hO'.wd (fun a j h => Or.inl h))) (hL.om hO') (fun h => by cases h)
      · have h1' : rOne (tC B z k) (tV B z k) m (W, cs, op) = some (q, w) := h1
        have hlt := hkN (rOne_lt h1)
        have hle : q.2.2 ≤ 5 ∧ q.1.length + q.2.1.length ≤ W.length + cs.length + 1 := rOne_le h1 h5
        exact lp_takesE hX hz160 hz hB h255 hN f (k + 1) q.2.2 q.1 q.2.1 w _ y' _ _ _ _ v' (by omega) hlt (hO.tr hO') hM' hL' hle.1 (by have := hle.2; omega) hy' (fun b k' cs' v'' he => K b k' cs' v'' (by rw [rE, if_neg (by simp), if_pos rfl, h1']; exact he))
    | false =>
      show EvP X (d + 4) MX12_takesE 19 [.ref 100, .int a1, .int 0, .int y, a4, a5, a6, a7] [] (pmT0 ++ LT) v P
      refine te_end hX1 hM h5 rfl (fun h59 hn v' hO' hM' => ?_) (fun hc hn v' hO' => ?_) (fun hc => ?_)
      · have h59' : tC B z k = 59 := F5.mp h59
        refine K true k (stl 1 W cs op).2.1 v' ?_ hk (hO.tr (hO'.wd (fun a j h => Or.inl h))) (hL.om hO') (fun _ => ⟨(stl 1 W cs op).2.2, by rw [hn] at hM'; exact hM'⟩)
        rw [rE, if_pos ⟨rfl, by rw [h59']; decide, Or.inl h59'⟩, hn, h59']; rfl
      · have hc' : tC B z k ≠ 41 ∧ (tC B z k = 59 ∨ tC B z k = 0 ∨ tC B z k = 1) := F4.mp hc
        refine K false k (stl 1 W cs op).2.1 v' ?_ hk (hO.tr (hO'.wd (fun a j h => Or.inl h))) (hL.om hO') (fun h => by cases h)
        rw [rE, if_pos ⟨rfl, hc'⟩]
        have : (decide ((stl 1 W cs op).1 = []) && decide (tC B z k = 59)) = false := Bool.eq_false_iff.mpr (fun e => by
          rw [Bool.and_eq_true] at e
          exact hn ⟨of_decide_eq_true e.1, F5.mpr (of_decide_eq_true e.2)⟩)
        rw [this]
      · have hc' : ¬ (false = false ∧ tC B z k ≠ 41 ∧ (tC B z k = 59 ∨ tC B z k = 0 ∨ tC B z k = 1)) := fun e => hc (F4.mpr e.2)
        refine te_pre (fun y4 y5 y6 e4 e5 e6 => ?_)
        refine te_sgn hX1 hz160 hz1 hB1 h255 hM hL h5 (by omega) (fun h0 v' hO' => ?_) (fun q w v' y' h1 hO' hM' hL' hy' => ?_)
        · have h0' : rSgn (tC B z k) (W, cs, op) = none := h0
          exact K false k cs v' (by rw [rE, if_neg hc', if_neg (by simp), h0']) hk (hO.tr (hO'.wd (fun a j h => Or.inl h))) (hL.om hO') (fun h => by cases h)
        · have h1' : rSgn (tC B z k) (W, cs, op) = some (q, w) := h1
          have hlt := hkN (rSgn_lt h1)
          have hle : q.2.2 ≤ 5 ∧ q.1.length + q.2.1.length ≤ W.length + cs.length + 1 := rSgn_le h1 h5
          exact lp_takesE hX hz160 hz hB h255 hN f (k + 1) q.2.2 q.1 q.2.1 w (decide (3 ≤ tC B z k ∧ tC B z k ≤ 9)) y' _ _ _ _ v' (by omega) hlt (hO.tr hO') hM' hL' hle.1 (by have := hle.2; omega) (hy'.trans (e6.trans (if_cg (F3.trans decide_eq_true_iff.symm)))) (fun b k' cs' v'' he => K b k' cs' v'' (by rw [rE, if_neg hc', if_neg (by simp), h1']; exact he))
/-- the class's grammar and the reference's machine, from the beginning of a part -/
theorem gE {tok val : Nat → Int32} {F k k' : Nat} {b : Bool} {cs' : List Int32} (h : gP tok val F 0 0 true k [] = some (b, k', cs')) : k ≤ k' ∧ ∀ f, ∃ c2, rE tok val (f + (k' - k) + 1) k ([], [], 0) true true = (decide (b = true ∧ tok k' = 59), k', c2) ∧ (b = true ∧ tok k' = 59 → c2 = cs') := by
  have hs := (sim F 0 0 true k [] b k' cs' h (by decide)).1 (by decide) [] true (by decide) (fun _ => rfl) (fun e => absurd e (by decide))
  cases b with
  | false =>
    have hb := hs.2 rfl
    refine ⟨hb.1, fun f => ?_⟩
    obtain ⟨c2, hc⟩ := hb.2 f
    exact ⟨c2, hc.trans (by simp), fun e => absurd e.1 (by decide)⟩
  | true =>
    obtain ⟨q, m2, hR, hE, hJ⟩ := hs.1 rfl
    refine ⟨hR.1, fun f => ?_⟩
    have e1 : rE tok val (f + (k' - k) + 1) k ([], [], 0) true true = rE tok val (f + 1) k' q false m2 := by
      rw [show f + (k' - k) + 1 = f + 1 + (k' - k) by omega]; exact hR.2 (f + 1)
    rw [e1]
    have hE' : stl 1 q.1 q.2.1 q.2.2 = ([], cs', 0) := hE
    by_cases h59 : tok k' = 59
    · refine ⟨cs', ?_, fun _ => rfl⟩
      rw [rE, if_pos ⟨rfl, by rw [h59]; decide, Or.inl h59⟩, hE', decide_eq_true h59, decide_eq_true (p := true = true ∧ tok k' = 59) ⟨rfl, h59⟩]
      rfl
    · rw [decide_eq_false (p := true = true ∧ tok k' = 59) (fun e => h59 e.2)]
      by_cases hc : false = false ∧ tok k' ≠ 41 ∧ (tok k' = 59 ∨ tok k' = 0 ∨ tok k' = 1)
      · refine ⟨cs', ?_, fun e => absurd e.2 h59⟩
        rw [rE, if_pos hc, hE', decide_eq_false h59, Bool.and_false]
      · refine ⟨q.2.1, ?_, fun e => absurd e.2 h59⟩
        have hn : rSgn (tok k') q = none := by
          obtain ⟨j1, j2, j3, j4, j5⟩ := hJ
          by_cases h0 : sgOf (tok k') = 0
          · by_cases h41 : tok k' = 41
            · rw [h41]; exact rSgn_en (by rw [hE']; show (-1 : Int32) ≠ 20; decide)
            · exact rSgn_no h0 h41
          · by_cases h56 : tok k' = 60 ∨ tok k' = 61
            · have h4 := j3 (by decide) h56
              exact rSgn_n h0 (by rcases h56 with e | e <;> rw [e] <;> decide) h4
            · exfalso
              apply h0
              unfold sgOf
              rw [if_neg (j1 (by decide)), if_neg (j2 (by decide)).1, if_neg (j2 (by decide)).2, if_neg (fun e => h56 (Or.inl e)), if_neg (fun e => h56 (Or.inr e)), if_neg (j4 (by decide)), if_neg (j5 (by decide))]
        rw [rE, if_neg hc, if_neg (by simp), hn]
