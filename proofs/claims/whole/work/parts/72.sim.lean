/-! TEXTS: what the class's grammar takes, the reference's machine takes, and where it stops -/
theorem rOne_bad {c x : Int32} {m : Bool} {q : rS} (h2 : ¬ (c = 2 ∨ c = 3)) (h9 : m = true → c ≠ 9) (h : q.2.2 = 5 ∨ (c ≠ 40 ∧ c ≠ 45)) : rOne c x m q = none := by
  unfold rOne
  rw [if_neg h2]
  by_cases c5 : c = 45
  · rw [if_pos c5, if_pos (h.resolve_right (fun e => e.2 c5))]
  rw [if_neg c5]
  by_cases c4 : c = 40
  · rw [if_pos c4, if_pos (h.resolve_right (fun e => e.1 c4))]
  rw [if_neg c4, if_neg]
  rintro ⟨a, b⟩; exact h9 b a
theorem rSgn_bad {c : Int32} {q : rS} (h : Rej 0 c q) (h41 : c ≠ 41) : rSgn c q = none := by
  obtain ⟨a1, a2, a3, a4, a5⟩ := h
  unfold rSgn
  by_cases c6 : c = 60 ∨ c = 61
  · rw [if_pos (by rcases c6 with rfl | rfl <;> decide), if_pos ⟨by rcases c6 with rfl | rfl <;> decide, a3 (by omega) c6⟩]
  · have : sgOf c = 0 := by
      unfold sgOf
      rw [if_neg (a1 (by omega)), if_neg (a2 (by omega)).1, if_neg (a2 (by omega)).2, if_neg (fun e => c6 (Or.inl e)), if_neg (fun e => c6 (Or.inr e)), if_neg (a4 (by omega)), if_neg (a5 (by omega))]
    rw [if_neg (fun e => e this), if_neg h41]
theorem stl_one (s : Int32) (L : Nat) (W cs : List Int32) (op : Nat) (h : L ≤ sStr s) : stl L (s :: W) cs op = stl L W (cs ++ [sCod s]) (if s = 4 ∨ s = 10 then op - 1 else op) := by rw [stl, if_pos h]
theorem sim {tok val : Nat → Int32} : ∀ (f l op : Nat) (g : Bool) (k : Nat) (cs : List Int32) (b : Bool) (k' : Nat) (cs' : List Int32), gP tok val f l op g k cs = some (b, k', cs') → op ≤ 5 →
    (l ≤ 6 → ∀ (W : List Int32) (m : Bool), topS W ≤ pLv l → (l ≤ 2 → m = true) → (3 ≤ l → m = true → tok k ≠ 9) → (b = true → rGood tok val l W cs op m k k' cs') ∧ (b = false → Bad tok val k (W, cs, op) true m k')) ∧
    (∀ l0, l = l0 + 10 → (l0 = 0 ∨ l0 = 1 ∨ l0 = 4 ∨ l0 = 5) → g = true → ∀ (q : rS) (W : List Int32) (m : Bool), topS W ≤ l0 → SE (l0 + 1) q W cs op → Rej (l0 + 1) (tok k) q → (b = true → lGood tok val l0 q m W op k k' cs') ∧ (b = false → Bad tok val k q false m k'))
  | 0, _, _, _, _, _, _, _, _, h, _ => by cases h
  | f + 1, l, op, g, k, cs, b, k', cs', h, hop => by
    rw [gP] at h
    by_cases l2 : l = 2
    · subst l2
      rw [if_pos rfl] at h
      refine ⟨fun _ W m hW hm _ => ?_, fun l0 e => by omega⟩
      have hm := hm (by omega); subst hm
      have hW : topS W ≤ 3 := hW
      by_cases t9 : tok k = 9
      · rw [if_pos t9] at h
        by_cases o5 : 5 ≤ op
        · rw [if_pos o5] at h; cases h
          refine ⟨fun e => (by cases e), fun _ => Bad.one ?_⟩
          unfold rOne; rw [t9]; simp; omega
        · rw [if_neg o5] at h
          cases hg : gP tok val f 2 (op + 1) true (k + 1) cs with
          | none => rw [hg] at h; cases h
          | some q =>
            rw [hg] at h; cases h
            have R1 : Run tok val k (W, cs, op) true true (k + 1) (4 :: W, cs, op + 1) true true := by
              have := Run.one (tok := tok) (val := val) (k := k) (q := (W, cs, op)) (m := true) (r := ((4 :: W, cs, op + 1), true)) (by unfold rOne; rw [t9]; simp; omega)
              rw [t9] at this; exact this
            obtain ⟨S1, S2⟩ := (sim f 2 (op + 1) true (k + 1) cs q.1 q.2.1 q.2.2 hg (by omega)).1 (by omega) (4 :: W) true (show sStr 4 ≤ pLv 2 by decide) (fun _ => rfl) (fun e => by omega)
            refine ⟨fun e => ?_, fun e => R1.bad (S2 e)⟩
            obtain ⟨q2, m2, r2, se, rj⟩ := S1 e
            refine ⟨q2, m2, R1.trans r2, ?_, rj⟩
            unfold SE at *
            rw [se, stl_one 4 _ _ _ _ (by decide)]; rfl
      · rw [if_neg t9] at h
        obtain ⟨S1, S2⟩ := (sim f 3 op true k cs b k' cs' h hop).1 (by omega) W true hW (fun e => by omega) (fun _ _ => t9)
        refine ⟨fun e => ?_, S2⟩
        obtain ⟨q2, m2, r2, se, rj⟩ := S1 e
        exact ⟨q2, m2, r2, se.le (by omega), ⟨fun _ => rj.1 (by omega), fun _ => rj.2.1 (by omega), fun _ => rj.2.2.1 (by omega), fun e => by omega, fun e => by omega⟩⟩
    rw [if_neg l2] at h
    by_cases l3 : l = 3
    · subst l3
      rw [if_pos rfl] at h
      refine ⟨fun _ W m hW _ hm => ?_, fun l0 e => by omega⟩
      have hW : topS W ≤ 3 := hW
      cases hg : gP tok val f 4 op true k cs with
      | none => rw [hg] at h; cases h
      | some q =>
        rw [hg] at h
        dsimp only at h
        obtain ⟨S1, S2⟩ := (sim f 4 op true k cs q.1 q.2.1 q.2.2 hg hop).1 (by omega) W m (show topS W ≤ 4 by omega) (fun e => by omega) (fun _ => hm (by omega))
        by_cases q1 : q.1 = true
        · rw [if_pos q1] at h
          obtain ⟨q2, m2, r2, se, rj⟩ := S1 q1
          have sW : stl 5 q2.1 q2.2.1 q2.2.2 = (W, q.2.2, op) := by
            have := se; unfold SE at this; rw [this]; exact stl_low (by omega)
          by_cases c6 : tok q.2.1 = 60 ∨ tok q.2.1 = 61
          · rw [if_pos c6] at h
            have hs : sgOf (tok q.2.1) = 5 ∨ sgOf (tok q.2.1) = 6 := by rcases c6 with e | e <;> rw [e] <;> decide
            have hstr : sStr (sgOf (tok q.2.1)) = 4 := by rcases c6 with e | e <;> rw [e] <;> decide
            have R2 : Run tok val q.2.1 q2 false m2 (q.2.1 + 1) (sgOf (tok q.2.1) :: W, q.2.2, op) true false := by
              have := Run.sgn (tok := tok) (val := val) (k := q.2.1) (q := q2) (m := m2) (r := ((sgOf (tok q.2.1) :: W, q.2.2, op), true)) (by rcases c6 with e | e <;> rw [e] <;> decide) (by
                unfold rSgn
                rw [if_pos (by rcases c6 with e | e <;> rw [e] <;> decide), if_neg, if_pos hs, sW]
                rintro ⟨_, e⟩
                rw [sW] at e; dsimp only at e; omega)
              rw [show decide (3 ≤ tok q.2.1 ∧ tok q.2.1 ≤ 9) = false by rcases c6 with e | e <;> rw [e] <;> decide] at this
              exact this
            cases hg2 : gP tok val f 4 op true (q.2.1 + 1) q.2.2 with
            | none => rw [hg2] at h; cases h
            | some p =>
              rw [hg2] at h; cases h
              obtain ⟨P1, P2⟩ := (sim f 4 op true _ _ p.1 p.2.1 p.2.2 hg2 hop).1 (by omega) (sgOf (tok q.2.1) :: W) false (show sStr (sgOf (tok q.2.1)) ≤ 4 by omega) (fun e => by omega) (fun _ e => (by cases e))
              refine ⟨fun e => ?_, fun e => (r2.trans R2).bad (P2 e)⟩
              obtain ⟨q3, m3, r3, se3, rj3⟩ := P1 e
              refine ⟨q3, m3, (r2.trans R2).trans r3, ?_, ⟨fun _ => rj3.1 (by omega), fun _ => rj3.2.1 (by omega), fun _ _ => ?_, fun e => by omega, fun e => by omega⟩⟩
              · have := se3.le (L' := 4) (by omega)
                unfold SE at *
                rw [this, stl_one _ _ _ _ _ (by omega)]
                rcases c6 with e | e <;> rw [e] <;> rfl
              · unfold SE at se3
                rw [se3, stl_low (show sStr (sgOf (tok q.2.1)) < 5 by omega)]
                exact hstr
          · rw [if_neg c6] at h; cases h
            refine ⟨fun e => ⟨q2, m2, r2, se.le (by omega), ⟨fun _ => rj.1 (by omega), fun _ => rj.2.1 (by omega), fun _ e => absurd e c6, fun e => by omega, fun e => by omega⟩⟩, fun e => ?_⟩
            exact absurd (q1.symm.trans e) (by decide)
        · rw [if_neg q1] at h; cases h
          exact ⟨fun e => absurd e q1, S2⟩
    rw [if_neg l3] at h
    by_cases l6 : l = 6
    · subst l6
      rw [if_pos rfl] at h
      refine ⟨fun _ W m hW _ hm => ?_, fun l0 e => by omega⟩
      have hm := hm (by omega)
      have J6 : ∀ c q, Rej 6 c q := fun c q => ⟨fun e => by omega, fun e => by omega, fun e => by omega, fun e => by omega, fun e => by omega⟩
      by_cases t2 : tok k = 2 ∨ tok k = 3
      · rw [if_pos t2] at h; cases h
        refine ⟨fun _ => ⟨stl 7 W (cs ++ [val k]) op, _, Run.one (r := (stl 7 W (cs ++ [val k]) op, false)) (by unfold rOne; rw [if_pos t2]), stl_stl (Nat.le_refl _) W _ _, J6 _ _⟩, fun e => (by cases e)⟩
      rw [if_neg t2] at h
      by_cases o5 : 5 ≤ op
      · rw [if_pos o5] at h; cases h
        exact ⟨fun e => (by cases e), fun _ => Bad.one (rOne_bad t2 hm (Or.inl (show op = 5 by omega)))⟩
      rw [if_neg o5] at h
      by_cases t40 : tok k = 40
      · rw [if_pos t40] at h
        have R1 : Run tok val k (W, cs, op) true m (k + 1) (20 :: W, cs, op + 1) true true := by
          have := Run.one (tok := tok) (val := val) (k := k) (q := (W, cs, op)) (m := m) (r := ((20 :: W, cs, op + 1), true)) (by unfold rOne; rw [t40]; simp; omega)
          rw [t40] at this; exact this
        cases hg : gP tok val f 0 (op + 1) true (k + 1) cs with
        | none => rw [hg] at h; cases h
        | some q =>
          rw [hg] at h
          dsimp only at h
          obtain ⟨S1, S2⟩ := (sim f 0 (op + 1) true (k + 1) cs q.1 q.2.1 q.2.2 hg (by omega)).1 (by omega) (20 :: W) true (show sStr 20 ≤ pLv 0 by decide) (fun _ => rfl) (fun e => by omega)
          by_cases c : q.1 = true ∧ tok q.2.1 = 41
          · rw [if_pos c] at h; cases h
            refine ⟨fun _ => ?_, fun e => (by cases e)⟩
            obtain ⟨q2, m2, r2, se, rj⟩ := S1 c.1
            have sW : stl 1 q2.1 q2.2.1 q2.2.2 = (20 :: W, q.2.2, op + 1) := by
              have := se; unfold SE at this; rw [this]; exact stl_low (show sStr 20 < 1 by decide)
            have R2 := Run.sgn (tok := tok) (val := val) (k := q.2.1) (q := q2) (m := m2) (r := (stl 7 W q.2.2 op, false)) (by rw [c.2]; decide) (by
                unfold rSgn
                rw [c.2, if_neg (by decide), if_pos rfl, sW]; rfl)
            exact ⟨_, _, (R1.trans r2).trans R2, stl_stl (Nat.le_refl _) W _ _, J6 _ _⟩
          · rw [if_neg c] at h; cases h
            refine ⟨fun e => (by cases e), fun _ => ?_⟩
            by_cases q1 : q.1 = true
            · obtain ⟨q2, m2, r2, se, rj⟩ := S1 q1
              have sW : stl 1 q2.1 q2.2.1 q2.2.2 = (20 :: W, q.2.2, op + 1) := by
                have := se; unfold SE at this; rw [this]; exact stl_low (show sStr 20 < 1 by decide)
              exact (R1.trans r2).bad (Bad.sgn (rSgn_bad rj (fun e => c ⟨q1, e⟩)) (fun _ => by rw [sW]; simp))
            · exact R1.bad (S2 (by simpa using q1))
      rw [if_neg t40] at h
      by_cases t45 : tok k = 45
      · rw [if_pos t45] at h
        have R1 : Run tok val k (W, cs, op) true m (k + 1) (10 :: W, cs, op + 1) true false := by
          have := Run.one (tok := tok) (val := val) (k := k) (q := (W, cs, op)) (m := m) (r := ((10 :: W, cs, op + 1), true)) (by unfold rOne; rw [t45]; simp; omega)
          rw [t45] at this; exact this
        cases hg : gP tok val f 6 (op + 1) true (k + 1) cs with
        | none => rw [hg] at h; cases h
        | some q =>
          rw [hg] at h; cases h
          obtain ⟨S1, S2⟩ := (sim f 6 (op + 1) true (k + 1) cs q.1 q.2.1 q.2.2 hg (by omega)).1 (by omega) (10 :: W) false (show sStr 10 ≤ pLv 6 by decide) (fun e => by omega) (fun _ e => (by cases e))
          refine ⟨fun e => ?_, fun e => R1.bad (S2 e)⟩
          obtain ⟨q2, m2, r2, se, rj⟩ := S1 e
          refine ⟨q2, m2, R1.trans r2, ?_, rj⟩
          unfold SE at *
          rw [se, stl_one 10 _ _ _ _ (by decide)]; rfl
      · rw [if_neg t45] at h; cases h
        exact ⟨fun e => (by cases e), fun _ => Bad.one (rOne_bad t2 hm (Or.inr ⟨t40, t45⟩))⟩
    rw [if_neg l6] at h
    by_cases l10 : 10 ≤ l
    · rw [if_pos l10] at h
      refine ⟨fun e => by omega, fun l0 e hl hg q W m hW hse hrj => ?_⟩
      subst e; subst hg
      rw [show l0 + 10 - 10 = l0 by omega] at h
      by_cases c : true = true ∧ bOp l0 (tok k) ≠ 0
      · rw [if_pos c] at h
        obtain ⟨b1, b2, b3, b4, b5, b6, b7, b8, b9, b10⟩ := bOp_spec hl c.2
        have sW : stl (l0 + 1) q.1 q.2.1 q.2.2 = (W, cs, op) := by
          have := hse; unfold SE at this; rw [this]; exact stl_low (by omega)
        have R1 := Run.sgn (tok := tok) (val := val) (k := k) (q := q) (m := m) (r := ((sgOf (tok k) :: W, cs, op), true)) ⟨b6, b7, b8⟩ (by
            unfold rSgn
            rw [if_pos b1, if_neg (fun e => b4 e.1), if_neg b4, b2, sW])
        cases hg : gP tok val f (l0 + 1) op true (k + 1) cs with
        | none => rw [hg] at h; cases h
        | some p =>
          rw [hg] at h
          dsimp only at h
          obtain ⟨S1, S2⟩ := (sim f (l0 + 1) op true (k + 1) cs p.1 p.2.1 p.2.2 hg hop).1 (by omega) (sgOf (tok k) :: W) (decide (3 ≤ tok k ∧ tok k ≤ 9)) (show sStr (sgOf (tok k)) ≤ pLv (l0 + 1) by rw [b2]; rcases hl with rfl | rfl | rfl | rfl <;> decide) (fun e => b9 (by omega)) (fun e e2 => by
            rw [b10 (by omega)] at e2; cases e2)
          by_cases q1 : p.1 = true
          · obtain ⟨q2, m2, r2, se, rj⟩ := S1 q1
            have se2 : SE (l0 + 1) q2 W (p.2.2 ++ [bOp l0 (tok k)]) op := by
              have := se.le (L' := l0 + 1) (by omega)
              unfold SE at *
              rw [this, stl_one _ _ _ _ _ (by omega), if_neg b5, b3]
            rw [q1] at h
            obtain ⟨L1, L2⟩ := (sim f (l0 + 10) op true p.2.1 _ b k' cs' h hop).2 l0 rfl hl rfl q2 W m2 hW se2 rj
            refine ⟨fun e => ?_, fun e => (R1.trans r2).bad (L2 e)⟩
            obtain ⟨q3, m3, r3, se3, rj3⟩ := L1 e
            exact ⟨q3, m3, (R1.trans r2).trans r3, se3, rj3⟩
          · have hq : p.1 = false := by simpa using q1
            rw [hq] at h
            cases f with
            | zero => cases h
            | succ f =>
              rw [gP, if_neg (by omega), if_neg (by omega), if_neg (by omega), if_pos (by omega), if_neg (by simp)] at h
              cases h
              exact ⟨fun e => (by cases e), fun _ => R1.bad (S2 hq)⟩
      · rw [if_neg c] at h; cases h
        have hb : bOp l0 (tok k) = 0 := by
          by_cases e : bOp l0 (tok k) = 0
          · exact e
          · exact absurd ⟨rfl, e⟩ c
        exact ⟨fun _ => ⟨q, m, Run.refl _ _ _ _, hse, bOp_no hl hb hrj⟩, fun e => (by cases e)⟩
    · rw [if_neg l10] at h
      refine ⟨fun l7 W m hW hm1 hm2 => ?_, fun l0 e => by omega⟩
      have hl : l = 0 ∨ l = 1 ∨ l = 4 ∨ l = 5 := by omega
      have hW2 : topS W ≤ l := by rcases hl with rfl | rfl | rfl | rfl <;> exact hW
      cases hg : gP tok val f (l + 1) op true k cs with
      | none => rw [hg] at h; cases h
      | some p =>
        rw [hg] at h
        dsimp only at h
        obtain ⟨S1, S2⟩ := (sim f (l + 1) op true k cs p.1 p.2.1 p.2.2 hg hop).1 (by omega) W m (by rcases hl with rfl | rfl | rfl | rfl <;> (unfold pLv; simp; omega)) (fun e => hm1 (by omega)) (fun e => hm2 (by omega))
        by_cases q1 : p.1 = true
        · obtain ⟨q2, m2, r2, se, rj⟩ := S1 q1
          rw [q1] at h
          obtain ⟨L1, L2⟩ := (sim f (l + 10) op true p.2.1 _ b k' cs' h hop).2 l rfl hl rfl q2 W m2 hW2 (se.le (by omega)) rj
          refine ⟨fun e => ?_, fun e => r2.bad (L2 e)⟩
          obtain ⟨q3, m3, r3, se3, rj3⟩ := L1 e
          exact ⟨q3, m3, r2.trans r3, se3, rj3⟩
        · have hq : p.1 = false := by simpa using q1
          rw [hq] at h
          cases f with
          | zero => cases h
          | succ f =>
            rw [gP, if_neg (by omega), if_neg (by omega), if_neg (by omega), if_pos (by omega), if_neg (by simp)] at h
            cases h
            exact ⟨fun e => (by cases e), fun _ => S2 hq⟩
